section
variable {l : Launch} {G : qG} {U : List va_E} {i : Nat → Nat} {A : Nat → Nat → Nat} {B : Nat → Nat → Int32} {h : List va_E}
theorem lp_X7_giveSuppers {X : qX} {b : Nat} (hU : U.length = 122) (hb : b < 64) (h3 : A 5 3 ≤ 5) (C : qC X G cX7_giveSuppers 3 RX7 0) (E : qE X G none 0 0 none (hm G U i (va_up A 5 (gv (A 5) b)) B)) : ∀ (n q : Nat) (A' : Nat → Nat → Nat), q + n = A 5 3 → A' = va_up A 5 (gvL (A 5) b q) → Y X G 3 0 0 2 [some (qr G 122), some (.int (nI (b))), some (.int (nI (q)))] [] (hm G U i A' B) := by
  intro n
  induction n with
  | zero =>
    intro q A' hq hA
    have e3 : A' 5 3 = A 5 3 := by rw [hA, up_eq]; exact gvL_lo (by omega) (by omega)
    obtain rfl : q = A 5 3 := by omega
    refine y_iload_n C D_X7_giveSuppers_2 rfl ?_
    refine y_aload_n C D_X7_giveSuppers_3 rfl ?_
    refine y_get C D_X7_giveSuppers_4 fl_X7_19 (hm_o hU) rfl ?_
    refine y_iconst C D_X7_giveSuppers_7 ki_3 ?_
    refine z_ild C D_X7_giveSuppers_8 (hm_st hU) (by omega) (by decide) rfl ?_
    refine y_icmp_ge C D_X7_giveSuppers_9 (n_le (by omega) (by omega)) (fun c_9 => ?_) (fun c_9 => absurd c_9 (by omega))
    exact y_vret C E D_X7_giveSuppers_35 (by rw [hA])
  | succ n ih =>
    intro q A' hq hA
    have e5 : A' 5 = gvL (A 5) b q := by rw [hA]; exact up_eq _ _ _
    have e3 : A' 5 3 = A 5 3 := by rw [e5]; exact gvL_lo (by omega) (by omega)
    have e11 : A' 5 (11 + q) = A 5 (11 + q) := by rw [e5]; exact gvL_at _ _ _
    refine y_iload_n C D_X7_giveSuppers_2 rfl ?_
    refine y_aload_n C D_X7_giveSuppers_3 rfl ?_
    refine y_get C D_X7_giveSuppers_4 fl_X7_19 (hm_o hU) rfl ?_
    refine y_iconst C D_X7_giveSuppers_7 ki_3 ?_
    refine z_ild C D_X7_giveSuppers_8 (hm_st hU) (by omega) (by decide) rfl ?_
    refine y_icmp_ge C D_X7_giveSuppers_9 (n_le (by omega) (by omega)) (fun c_9 => absurd c_9 (by omega)) (fun c_9 => ?_)
    refine y_aload_n C D_X7_giveSuppers_12 rfl ?_
    refine y_get C D_X7_giveSuppers_13 fl_X7_19 (hm_o hU) rfl ?_
    refine y_bipush C D_X7_giveSuppers_16 kb_11 ?_
    refine y_iload_n C D_X7_giveSuppers_18 rfl ?_
    refine z_iadd C D_X7_giveSuppers_19 ?_
    refine y_dup2 C D_X7_giveSuppers_20 rfl rfl ?_
    refine z_ild C D_X7_giveSuppers_21 (hm_st hU) (by omega) (by decide) rfl ?_
    refine y_iload_n C D_X7_giveSuppers_22 rfl ?_
    refine y_iload_n C D_X7_giveSuppers_23 rfl ?_
    refine z_ishr C D_X7_giveSuppers_24 (by omega) (by omega) ?_
    refine y_iconst C D_X7_giveSuppers_25 ki_1 ?_
    refine z_iand C D_X7_giveSuppers_26 ?_
    refine z_ior C D_X7_giveSuppers_27 ?_
    refine z_ist C D_X7_giveSuppers_28 (hm_st hU) (by omega) (by decide) (hm_wst hU _ _) ?_
    refine z_iinc (n := 1) C D_X7_giveSuppers_29 rfl (by decide) (qok_s rfl rfl) ?_
    refine y_goto C D_X7_giveSuppers_32 ?_
    exact ih (q + 1) _ (by omega) (by rw [e11, e5, hA, bx_uu, gvL_step])
theorem c_X7_giveSuppers (hU : U.length = 122) {b : Nat} (hb : b < 64) (h3 : A 5 3 ≤ 5) : Ct l G yX7_giveSuppers 0 [qr G 122, .int (nI b)] (hm G U i A B) (none) (hm G U i (va_up A 5 (gv (A 5) b)) B) := by
  refine ctm_intro (maxL := 3) kw_X7_giveSuppers (by decide) (by decide) [some (qr G 122), some (.int (nI b)), none] rfl (Nat.le_of_ble_eq_true rfl) ?_
  intro X _ hcl hsl _ _ C E
  refine y_iconst C D_X7_giveSuppers_0 ki_0 ?_
  refine y_istore_n C D_X7_giveSuppers_1 (by decide) (qok_s rfl rfl) ?_
  exact lp_X7_giveSuppers hU hb h3 C E (A 5 3) 0 A (by omega) (by rw [gvL_0]; exact (up_id A 5).symm)
theorem lp_X7_isKeptBy {X : qX} {gs n : Nat} (hU : U.length = 122) (hV : Va (A 5)) (h4 : A 5 4 ≤ 999) (hn : n ≤ 3) (hw : ∀ t, A 19 t < 64) (C : qC X G cX7_isKeptBy 4 RX7 5) (K : Y X G 4 0 0 31 [some (qr G 122), some (.int (nI (gs))), some (.int (nI (n))), none] [] (hm G U i (va_up (asd A) 5 (kyN (A 5) (A 19) n)) B)) : ∀ (m k : Nat) (A' : Nat → Nat → Nat), k + m = n → A' = va_up (asd A) 5 (kyN (A 5) (A 19) k) → Y X G 4 0 0 6 [some (qr G 122), some (.int (nI (gs))), some (.int (nI (n))), some (.int (nI (k)))] [] (hm G U i A' B) := by
  intro m
  induction m with
  | zero =>
    intro k A' hk hA
    obtain rfl : k = n := by omega
    refine y_iload_n C D_X7_isKeptBy_6 rfl ?_
    refine y_iload_n C D_X7_isKeptBy_7 rfl ?_
    refine y_icmp_ge C D_X7_isKeptBy_8 (n_le (by omega) (by omega)) (fun c_8 => ?_) (fun c_8 => absurd (Nat.le_refl _) c_8)
    refine y_fg 3 ?_
    rw [hA]
    exact K
  | succ m ih =>
    intro k A' hk hA
    have e5 : A' 5 = kyN (A 5) (A 19) k := by rw [hA]; exact up_eq _ _ _
    have e19 : A' 19 = A 19 := by rw [hA, up_ne _ _ (by decide)]; exact up_ne _ _ (by decide)
    have hVk := hV.kyN (A 19) k
    have v3 := hVk.2.2.2.1
    have e4 : kyN (A 5) (A 19) k 4 = A 5 4 + k := kyN_4 hV _ k
    have g4 : gv (kyN (A 5) (A 19) k) (A 19 k) 4 = kyN (A 5) (A 19) k 4 := gvL_lo (by omega) (by omega)
    refine y_iload_n C D_X7_isKeptBy_6 rfl ?_
    refine y_iload_n C D_X7_isKeptBy_7 rfl ?_
    refine y_icmp_ge C D_X7_isKeptBy_8 (n_le (by omega) (by omega)) (fun c_8 => absurd c_8 (by omega)) (fun c_8 => ?_)
    refine y_aload_n C D_X7_isKeptBy_11 rfl ?_
    refine y_aload_n C D_X7_isKeptBy_12 rfl ?_
    refine y_get C D_X7_isKeptBy_13 fl_X7_37 (hm_o hU) rfl ?_
    refine y_iload_n C D_X7_isKeptBy_16 rfl ?_
    refine z_ild C D_X7_isKeptBy_17 (hm_way hU) (by omega) (by decide) rfl ?_
    refine z_callVv C D_X7_isKeptBy_18 lk_X7_202 (c_X7_giveSuppers hU (by rw [e19]; exact hw k) (by rw [e5]; omega)) (hm_o hU) rfl rfl (Nat.le_of_ble_eq_true rfl) (Nat.le_of_ble_eq_true rfl) ⟨Nat.zero_le _, Nat.zero_le _⟩ ?_
    rw [e19, e5]
    refine y_aload_n C D_X7_isKeptBy_21 rfl ?_
    refine z_callVv C D_X7_isKeptBy_22 lk_X7_168 (c_X7_oneYear hU (by rw [up_eq]; exact hVk.gv _) (by rw [up_eq, g4]; omega)) (hm_o hU) rfl rfl (Nat.le_of_ble_eq_true rfl) (Nat.le_of_ble_eq_true rfl) ⟨Nat.zero_le _, Nat.zero_le _⟩ ?_
    refine z_iinc (n := 1) C D_X7_isKeptBy_25 rfl (by decide) (qok_s rfl rfl) ?_
    refine y_goto C D_X7_isKeptBy_28 ?_
    exact ih (k + 1) _ (by omega) (by rw [up_eq, bx_uu, hA, bx_uu]; rfl)
theorem c_X7_isKeptBy (hU : U.length = 122) {gs n : Nat} (hg : gs < 64) (hV : Va (A 5)) (h4 : A 5 4 ≤ 999) (hn : n ≤ 3) (hw : ∀ t, A 19 t < 64) : Ct l G yX7_isKeptBy 5 [qr G 122, .int (nI gs), .int (nI n)] (hm G U i A B) (some (.int (bI (andn gs (kyN (A 5) (A 19) n 5) = 0)))) (hm G U i (asd A) B) := by
  refine ctm_intro (maxL := 4) kw_X7_isKeptBy (by decide) (by decide) [some (qr G 122), some (.int (nI gs)), some (.int (nI n)), none] rfl (Nat.le_of_ble_eq_true rfl) ?_
  intro X _ hcl hsl _ _ C E
  refine y_aload_n C D_X7_isKeptBy_0 rfl ?_
  refine z_callVv C D_X7_isKeptBy_1 lk_X7_188 (c_X7_putAside hU) (hm_o hU) rfl rfl (Nat.le_of_ble_eq_true rfl) (Nat.le_of_ble_eq_true rfl) ⟨Nat.zero_le _, Nat.zero_le _⟩ ?_
  refine y_iconst C D_X7_isKeptBy_4 ki_0 ?_
  refine y_istore_n C D_X7_isKeptBy_5 (by decide) (qok_s rfl rfl) ?_
  refine lp_X7_isKeptBy hU hV h4 hn hw C ?_ n 0 _ (by omega) (by rw [show kyN (A 5) (A 19) 0 = asd A 5 from (asd_5 A).symm]; exact (up_id (asd A) 5).symm)
  have hk64 := (hV.kyN (A 19) n).k64
  refine y_iload_n C D_X7_isKeptBy_31 rfl ?_
  refine y_aload_n C D_X7_isKeptBy_32 rfl ?_
  refine y_get C D_X7_isKeptBy_33 fl_X7_19 (hm_o hU) rfl ?_
  refine y_iconst C D_X7_isKeptBy_36 ki_5 ?_
  refine z_ild C D_X7_isKeptBy_37 (hm_st hU) (by first | omega | exact Nat.lt_of_lt_of_le (andn_lt _ hg _ hk64) (by decide)) (by decide) rfl ?_
  refine y_iconst C D_X7_isKeptBy_38 ki_m1 ?_
  refine y_ixor C D_X7_isKeptBy_39 ?_
  refine y_iand C D_X7_isKeptBy_40 ?_
  rw [up_eq]
  refine y_top (andn_eq _ hg _ hk64) ?_
  refine y_if_ne C D_X7_isKeptBy_41 (n_eq0 (by first | omega | exact Nat.lt_of_lt_of_le (andn_lt _ hg _ hk64) (by decide))) (fun c_41 => ?_) (fun c_41 => ?_)
  · refine y_iconst C D_X7_isKeptBy_48 ki_0 ?_
    refine y_istore_n C D_X7_isKeptBy_49 (by decide) (qok_s rfl rfl) ?_
    refine y_aload_n C D_X7_isKeptBy_50 rfl ?_
    refine z_callVv C D_X7_isKeptBy_51 lk_X7_191 (c_X7_takeBack hU) (hm_o hU) rfl rfl (Nat.le_of_ble_eq_true rfl) (Nat.le_of_ble_eq_true rfl) ⟨Nat.zero_le _, Nat.zero_le _⟩ ?_
    refine y_iload_n C D_X7_isKeptBy_54 rfl ?_
    exact y_zret C E D_X7_isKeptBy_55 nar_0 (rt_0 (c_41)) (by rw [asd_back rfl hV.far (hV.kyN (A 19) n).far])
  · refine y_iconst C D_X7_isKeptBy_44 ki_1 ?_
    refine y_goto C D_X7_isKeptBy_45 ?_
    refine y_istore_n C D_X7_isKeptBy_49 (by decide) (qok_s rfl rfl) ?_
    refine y_aload_n C D_X7_isKeptBy_50 rfl ?_
    refine z_callVv C D_X7_isKeptBy_51 lk_X7_191 (c_X7_takeBack hU) (hm_o hU) rfl rfl (Nat.le_of_ble_eq_true rfl) (Nat.le_of_ble_eq_true rfl) ⟨Nat.zero_le _, Nat.zero_le _⟩ ?_
    refine y_iload_n C D_X7_isKeptBy_54 rfl ?_
    exact y_zret C E D_X7_isKeptBy_55 nar_1 (rt_1 (c_41)) (by rw [asd_back rfl hV.far (hV.kyN (A 19) n).far])
theorem lp_X7_findWay_15 {X : qX} {gs n W : Nat} (hU : U.length = 122) (hn : n ≤ 3) (C : qC X G cX7_findWay 11 RX7 6) (K : Y X G 11 0 0 33 [some (qr G 122), some (.int (nI (gs))), some (.int (nI (n))), some (.int (nI (W))), some (.int (nI (W ^ n))), none, none, none, none, none, none] [] (hm G U i A B)) : ∀ (m k : Nat), k + m = n → Y X G 11 0 0 15 [some (qr G 122), some (.int (nI (gs))), some (.int (nI (n))), some (.int (nI (W))), some (.int (nI (W ^ k))), some (.int (nI (k))), none, none, none, none, none] [] (hm G U i A B) := by
  intro m
  induction m with
  | zero =>
    intro k hk
    obtain rfl : k = n := by omega
    refine y_iload C D_X7_findWay_15 rfl ?_
    refine y_iload_n C D_X7_findWay_17 rfl ?_
    refine y_icmp_ge C D_X7_findWay_18 (n_le (by omega) (by omega)) (fun c_18 => ?_) (fun c_18 => absurd (Nat.le_refl _) c_18)
    refine y_fg 5 ?_
    exact K
  | succ m ih =>
    intro k hk
    refine y_iload C D_X7_findWay_15 rfl ?_
    refine y_iload_n C D_X7_findWay_17 rfl ?_
    refine y_icmp_ge C D_X7_findWay_18 (n_le (by omega) (by omega)) (fun c_18 => absurd c_18 (by omega)) (fun c_18 => ?_)
    refine y_iload C D_X7_findWay_21 rfl ?_
    refine y_iload_n C D_X7_findWay_23 rfl ?_
    refine z_imul C D_X7_findWay_24 ?_
    refine y_istore C D_X7_findWay_25 (by decide) (qok_s rfl rfl) ?_
    refine z_iinc (n := 1) C D_X7_findWay_27 rfl (by decide) (qok_s rfl rfl) ?_
    refine y_goto C D_X7_findWay_30 ?_
    exact ih (k + 1) (by omega)
theorem lp_X7_findWay_64 {X : qX} {gs n W R told r : Nat} {v5 : Int32} {f w : Nat → Nat} (hU : U.length = 122) (hn : n ≤ 3) (h0 : 0 < W) (hW : W ≤ 32) (hr : r < 40000) (C : qC X G cX7_findWay 11 RX7 6) (K : Y X G 11 0 0 107 [some (qr G 122), some (.int (nI (gs))), some (.int (nI (n))), some (.int (nI (W))), some (.int (nI (R))), some (.int (v5)), some (.int (nI (told))), some (.int (nI (r))), none, some (.int (nI (wo W n r n))), none] [] (hm G U i (ast A f (wyL w W n r 0)) B)) : ∀ (j : Nat) (A' : Nat → Nat → Nat), j ≤ n → A' = ast A f (wyL w W n r j) → Y X G 11 0 0 64 [some (qr G 122), some (.int (nI (gs))), some (.int (nI (n))), some (.int (nI (W))), some (.int (nI (R))), some (.int (v5)), some (.int (nI (told))), some (.int (nI (r))), some (.int (nI (r / W ^ (n - j)))), some (.int (nI (wo W n r (n - j)))), some (.int (pI j))] [] (hm G U i A' B) := by
  intro j
  induction j with
  | zero =>
    intro A' hj hA
    refine y_iload C D_X7_findWay_64 rfl ?_
    refine z_ifltM C D_X7_findWay_66 ?_
    refine y_fg 8 (y_fg 10 ?_)
    rw [hA]
    exact K
  | succ j ih =>
    intro A' hj hA
    have e19 : A' 19 = wyL w W n r (j + 1) := by rw [hA]; exact ast_19 _ _ _
    have hle : r / W ^ (n - (j + 1)) ≤ r := Nat.div_le_self _ _
    have ed : r / W ^ (n - (j + 1)) % W = wy W n r j := by
      unfold wy
      rw [show n - 1 - j = n - (j + 1) by omega]
    have hd : wy W n r j < 32 := Nat.lt_of_lt_of_le (Nat.mod_lt _ h0) hW
    have eo : wo W n r (n - j) = wo W n r (n - (j + 1)) + ones (wy W n r j) := by
      rw [show n - j = (n - (j + 1)) + 1 by omega, wo, show n - 1 - (n - (j + 1)) = j by omega]
    have eq : r / W ^ (n - j) = r / W ^ (n - (j + 1)) / W := by
      rw [Nat.div_div_eq_div_mul, show n - j = (n - (j + 1)) + 1 by omega, Nat.pow_succ]
    have z := ih (va_up A' 19 (va_up (A' 19) j (wy W n r j))) (by omega) (by rw [e19, wyL_step _ _ _ _ _ (by omega), hA, bx_uu])
    rw [eo, eq] at z
    refine y_iload C D_X7_findWay_64 rfl ?_
    refine y_if_lt C D_X7_findWay_66 (n_lt0 (by omega)) (fun q => q.elim) (fun _ => ?_)
    refine y_aload_n C D_X7_findWay_69 rfl ?_
    refine y_get C D_X7_findWay_70 fl_X7_37 (hm_o hU) rfl ?_
    refine y_iload C D_X7_findWay_73 rfl ?_
    refine y_iload C D_X7_findWay_75 rfl ?_
    refine y_iload_n C D_X7_findWay_77 rfl ?_
    refine z_irem C D_X7_findWay_78 (by omega) (by omega) (by omega) ?_
    rw [ed]
    refine z_ist C D_X7_findWay_79 (hm_way hU) (by omega) (by decide) (hm_wway hU _ _) ?_
    refine y_iload C D_X7_findWay_80 rfl ?_
    refine y_aload_n C D_X7_findWay_82 rfl ?_
    refine y_get C D_X7_findWay_83 fl_X7_37 (hm_o hU) rfl ?_
    refine y_iload C D_X7_findWay_86 rfl ?_
    refine z_ild C D_X7_findWay_88 (hm_way hU) (by omega) (by decide) rfl ?_
    rw [up_eq, up_eq]
    refine z_callS C D_X7_findWay_89 lk_X7_177 (c_X7_ones hd) rfl rfl (Nat.le_of_ble_eq_true rfl) (Nat.le_of_ble_eq_true rfl) ⟨Nat.zero_le _, Nat.zero_le _⟩ ?_
    refine z_iadd C D_X7_findWay_92 ?_
    refine y_istore C D_X7_findWay_93 (by decide) (qok_s rfl rfl) ?_
    refine y_iload C D_X7_findWay_95 rfl ?_
    refine y_iload_n C D_X7_findWay_97 rfl ?_
    refine z_idiv C D_X7_findWay_98 (by omega) (by omega) (by omega) ?_
    refine y_istore C D_X7_findWay_99 (by decide) (qok_s rfl rfl) ?_
    refine y_iinc C D_X7_findWay_101 rfl rfl (by decide) (qok_s rfl rfl) ?_
    rw [pI_dcs]
    refine y_goto C D_X7_findWay_104 ?_
    exact z
theorem lp_X7_findWay_45 {X : qX} {gs n W R told b0 : Nat} (hU : U.length = 122) (hV : Va (A 5)) (h4 : A 5 4 ≤ 999) (hg : gs < 64) (h1 : 1 ≤ n) (hn : n ≤ 3) (h0 : 0 < W) (hW : W ≤ 32) (hR : R ≤ 32768) (hw : ∀ t, A 19 t < 64) (C : qC X G cX7_findWay 11 RX7 6) (E : qE X G (some .int) 0 0 (some (.int (oI (fw (A 5) gs W n told b0 R).1))) (hm G U (va_up i 20 (fw (A 5) gs W n told b0 (R)).2) (ast A (fwA (A 5) gs W n told b0 (A 18) (R)) (fwW W n (A 19) (R))) B)) : ∀ (m r : Nat), r + m = R → Y X G 11 0 0 45 [some (qr G 122), some (.int (nI (gs))), some (.int (nI (n))), some (.int (nI (W))), some (.int (nI (R))), some (.int (oI (fw (A 5) gs W n told b0 r).1)), some (.int (nI (told))), some (.int (nI (r))), none, none, none] [] (hm G U (va_up i 20 (fw (A 5) gs W n told b0 (r)).2) (ast A (fwA (A 5) gs W n told b0 (A 18) (r)) (fwW W n (A 19) (r))) B) := by
  intro m
  induction m with
  | zero =>
    intro r hr
    obtain rfl : r = R := by omega
    refine y_iload C D_X7_findWay_45 rfl ?_
    refine y_iload C D_X7_findWay_47 rfl ?_
    refine y_icmp_ge C D_X7_findWay_49 (n_le (by omega) (by omega)) (fun c_49 => ?_) (fun c_49 => absurd (Nat.le_refl _) c_49)
    refine y_iload C D_X7_findWay_168 rfl ?_
    exact y_iret C E D_X7_findWay_170 (rfl) (rfl)
  | succ m ih =>
    intro r hr
    have hwr := fwW_lt (n := n) hw h0 (show W ≤ 64 by omega) (r + 1)
    have hwo := wo_le W n r n
    have k1 : ∀ t, t < n → fwW W n (A 19) (r + 1) t = wy W n r t := fun t ht => wyL_in ht
    have kk : kyN (A 5) (fwW W n (A 19) (r + 1)) n = kyN (A 5) (wy W n r) n := kyN_congr n k1
    have k0 : fwW W n (A 19) (r + 1) 0 = wy W n r 0 := k1 0 (by omega)
    have hwy : wy W n r 0 < 32 := Nat.lt_of_lt_of_le (Nat.mod_lt _ h0) hW
    have hand : wy W n r 0 &&& told ≤ wy W n r 0 := Nat.and_le_left
    have z := ih (r + 1) (by omega)
    have K : Y X G 11 0 0 107 [some (qr G 122), some (.int (nI (gs))), some (.int (nI (n))), some (.int (nI (W))), some (.int (nI (R))), some (.int (oI (fw (A 5) gs W n told b0 r).1)), some (.int (nI (told))), some (.int (nI (r))), none, some (.int (nI (wo W n r n))), none] [] (hm G U (va_up i 20 (fw (A 5) gs W n told b0 r).2) (ast A (fwA (A 5) gs W n told b0 (A 18) r) (fwW W n (A 19) (r + 1))) B) := by
      refine y_aload_n C D_X7_findWay_107 rfl ?_
      refine y_get C D_X7_findWay_108 fl_X7_37 (hm_o hU) rfl ?_
      refine y_iconst C D_X7_findWay_111 ki_0 ?_
      refine z_ild C D_X7_findWay_112 (hm_way hU) (by omega) (by decide) rfl ?_
      refine y_iload C D_X7_findWay_113 rfl ?_
      rw [ast_19, k0]
      refine z_iand C D_X7_findWay_115 ?_
      refine y_if_ne C D_X7_findWay_116 (n_eq0 (by omega)) (fun c_116 => ?_) (fun c_116 => ?_)
      · refine y_iconst C D_X7_findWay_135 ki_0 ?_
        refine y_istore C D_X7_findWay_136 (by decide) (qok_s rfl rfl) ?_
        refine y_iload C D_X7_findWay_138 rfl ?_
        refine z_ifeq0 C D_X7_findWay_140 ?_
        refine z_iinc (n := 1) C D_X7_findWay_162 rfl (by decide) (qok_s rfl rfl) ?_
        refine y_goto C D_X7_findWay_165 ?_
        have es : fw (A 5) gs W n told b0 (r + 1) = fw (A 5) gs W n told b0 r := if_neg (fun q => c_116 q.1.1)
        have ea : fwA (A 5) gs W n told b0 (A 18) (r + 1) = fwA (A 5) gs W n told b0 (A 18) r := if_neg (fun q => c_116 q.1)
        rw [es, ea] at z
        refine y_fg 8 (y_fg 9 (y_fg 10 ?_))
        exact z
      · rcases hl : (fw (A 5) gs W n told b0 r).1 with _ | q
        · refine y_iload C D_X7_findWay_119 rfl ?_
          refine z_ifltM C D_X7_findWay_121 ?_
          refine y_iconst C D_X7_findWay_131 ki_1 ?_
          refine y_goto C D_X7_findWay_132 ?_
          refine y_istore C D_X7_findWay_136 (by decide) (qok_s rfl rfl) ?_
          refine y_iload C D_X7_findWay_138 rfl ?_
          refine z_ifeq1 C D_X7_findWay_140 ?_
          refine y_aload_n C D_X7_findWay_143 rfl ?_
          refine y_iload_n C D_X7_findWay_144 rfl ?_
          refine y_iload_n C D_X7_findWay_145 rfl ?_
          refine z_callV C D_X7_findWay_146 lk_X7_206 (c_X7_isKeptBy hU hg (by rw [ast_5]; exact hV) (by rw [ast_5]; exact h4) hn (by rw [ast_19]; exact hwr)) (hm_o hU) rfl rfl (Nat.le_of_ble_eq_true rfl) (Nat.le_of_ble_eq_true rfl) ⟨Nat.zero_le _, Nat.zero_le _⟩ ?_
          rw [asd_ast, ast_5, ast_19, kk]
          refine z_ifeqB C D_X7_findWay_149 (fun c_149 => ?_) (fun c_149 => ?_)
          · refine z_iinc (n := 1) C D_X7_findWay_162 rfl (by decide) (qok_s rfl rfl) ?_
            refine y_goto C D_X7_findWay_165 ?_
            have es : fw (A 5) gs W n told b0 (r + 1) = fw (A 5) gs W n told b0 r := if_neg (fun q => c_149 q.2)
            have ea : fwA (A 5) gs W n told b0 (A 18) (r + 1) = va_cpy (A 5) (fwA (A 5) gs W n told b0 (A 18) r) 0 0 51 := if_pos ⟨c_116, by rw [hl]; rfl⟩
            rw [es, ea] at z
            rw [hl] at z
            refine y_fg 8 (y_fg 9 (y_fg 10 ?_))
            exact z
          · refine y_iload C D_X7_findWay_152 rfl ?_
            refine y_istore C D_X7_findWay_154 (by decide) (qok_s rfl rfl) ?_
            refine y_aload_n C D_X7_findWay_156 rfl ?_
            refine y_iload C D_X7_findWay_157 rfl ?_
            refine y_put C D_X7_findWay_159 fl_X7_209 (hm_o hU) (Nat.le_of_ble_eq_true rfl) rfl rfl (hm_pbestWay hU _) ?_
            refine z_iinc (n := 1) C D_X7_findWay_162 rfl (by decide) (qok_s rfl rfl) ?_
            refine y_goto C D_X7_findWay_165 ?_
            have es : fw (A 5) gs W n told b0 (r + 1) = (some (wo W n r n), r) := if_pos ⟨⟨c_116, by rw [hl]; rfl⟩, c_149⟩
            have ea : fwA (A 5) gs W n told b0 (A 18) (r + 1) = va_cpy (A 5) (fwA (A 5) gs W n told b0 (A 18) r) 0 0 51 := if_pos ⟨c_116, by rw [hl]; rfl⟩
            rw [es, ea] at z
            rw [bx_uu]
            refine y_fg 8 (y_fg 9 (y_fg 10 ?_))
            exact z
        · have hq := fw_le _ _ hl
          refine y_iload C D_X7_findWay_119 rfl ?_
          refine y_if_lt C D_X7_findWay_121 (n_lt0 (by omega)) (fun q => q.elim) (fun _ => ?_)
          refine y_iload C D_X7_findWay_124 rfl ?_
          refine y_iload C D_X7_findWay_126 rfl ?_
          refine y_icmp_ge C D_X7_findWay_128 (n_le (by omega) (by omega)) (fun c_128 => ?_) (fun c_128 => ?_)
          · refine y_iconst C D_X7_findWay_135 ki_0 ?_
            refine y_istore C D_X7_findWay_136 (by decide) (qok_s rfl rfl) ?_
            refine y_iload C D_X7_findWay_138 rfl ?_
            refine z_ifeq0 C D_X7_findWay_140 ?_
            refine z_iinc (n := 1) C D_X7_findWay_162 rfl (by decide) (qok_s rfl rfl) ?_
            refine y_goto C D_X7_findWay_165 ?_
            have es : fw (A 5) gs W n told b0 (r + 1) = fw (A 5) gs W n told b0 r := if_neg (fun q => absurd q.1.2 (by rw [hl]; exact (by simp [lsB]; omega)))
            have ea : fwA (A 5) gs W n told b0 (A 18) (r + 1) = fwA (A 5) gs W n told b0 (A 18) r := if_neg (fun q => absurd q.2 (by rw [hl]; exact (by simp [lsB]; omega)))
            rw [es, ea] at z
            rw [hl] at z
            refine y_fg 8 (y_fg 9 (y_fg 10 ?_))
            exact z
          · refine y_iconst C D_X7_findWay_131 ki_1 ?_
            refine y_goto C D_X7_findWay_132 ?_
            refine y_istore C D_X7_findWay_136 (by decide) (qok_s rfl rfl) ?_
            refine y_iload C D_X7_findWay_138 rfl ?_
            refine z_ifeq1 C D_X7_findWay_140 ?_
            refine y_aload_n C D_X7_findWay_143 rfl ?_
            refine y_iload_n C D_X7_findWay_144 rfl ?_
            refine y_iload_n C D_X7_findWay_145 rfl ?_
            refine z_callV C D_X7_findWay_146 lk_X7_206 (c_X7_isKeptBy hU hg (by rw [ast_5]; exact hV) (by rw [ast_5]; exact h4) hn (by rw [ast_19]; exact hwr)) (hm_o hU) rfl rfl (Nat.le_of_ble_eq_true rfl) (Nat.le_of_ble_eq_true rfl) ⟨Nat.zero_le _, Nat.zero_le _⟩ ?_
            rw [asd_ast, ast_5, ast_19, kk]
            refine z_ifeqB C D_X7_findWay_149 (fun c_149 => ?_) (fun c_149 => ?_)
            · refine z_iinc (n := 1) C D_X7_findWay_162 rfl (by decide) (qok_s rfl rfl) ?_
              refine y_goto C D_X7_findWay_165 ?_
              have es : fw (A 5) gs W n told b0 (r + 1) = fw (A 5) gs W n told b0 r := if_neg (fun q => c_149 q.2)
              have ea : fwA (A 5) gs W n told b0 (A 18) (r + 1) = va_cpy (A 5) (fwA (A 5) gs W n told b0 (A 18) r) 0 0 51 := if_pos ⟨c_116, by rw [hl]; exact decide_eq_true (by omega)⟩
              rw [es, ea] at z
              rw [hl] at z
              refine y_fg 8 (y_fg 9 (y_fg 10 ?_))
              exact z
            · refine y_iload C D_X7_findWay_152 rfl ?_
              refine y_istore C D_X7_findWay_154 (by decide) (qok_s rfl rfl) ?_
              refine y_aload_n C D_X7_findWay_156 rfl ?_
              refine y_iload C D_X7_findWay_157 rfl ?_
              refine y_put C D_X7_findWay_159 fl_X7_209 (hm_o hU) (Nat.le_of_ble_eq_true rfl) rfl rfl (hm_pbestWay hU _) ?_
              refine z_iinc (n := 1) C D_X7_findWay_162 rfl (by decide) (qok_s rfl rfl) ?_
              refine y_goto C D_X7_findWay_165 ?_
              have es : fw (A 5) gs W n told b0 (r + 1) = (some (wo W n r n), r) := if_pos ⟨⟨c_116, by rw [hl]; exact decide_eq_true (by omega)⟩, c_149⟩
              have ea : fwA (A 5) gs W n told b0 (A 18) (r + 1) = va_cpy (A 5) (fwA (A 5) gs W n told b0 (A 18) r) 0 0 51 := if_pos ⟨c_116, by rw [hl]; exact decide_eq_true (by omega)⟩
              rw [es, ea] at z
              rw [bx_uu]
              refine y_fg 8 (y_fg 9 (y_fg 10 ?_))
              exact z
    refine y_iload C D_X7_findWay_45 rfl ?_
    refine y_iload C D_X7_findWay_47 rfl ?_
    refine y_icmp_ge C D_X7_findWay_49 (n_le (by omega) (by omega)) (fun c_49 => absurd c_49 (by omega)) (fun c_49 => ?_)
    refine y_iload C D_X7_findWay_52 rfl ?_
    refine y_istore C D_X7_findWay_54 (by decide) (qok_s rfl rfl) ?_
    refine y_iconst C D_X7_findWay_56 ki_0 ?_
    refine y_istore C D_X7_findWay_57 (by decide) (qok_s rfl rfl) ?_
    refine y_iload_n C D_X7_findWay_59 rfl ?_
    refine y_iconst C D_X7_findWay_60 ki_1 ?_
    refine y_isub C D_X7_findWay_61 ?_
    rw [pI_sub n]
    refine y_istore C D_X7_findWay_62 (by decide) (qok_s rfl rfl) ?_
    have w := lp_X7_findWay_64 hU hn h0 hW (by omega) C K n _ (Nat.le_refl _) rfl
    rw [Nat.sub_self, Nat.pow_zero, Nat.div_one, wyL_n] at w
    exact w
theorem c_X7_findWay (hU : U.length = 122) {gs n : Nat} (hV : Va (A 5)) (h4 : A 5 4 ≤ 999) (hg : gs < 64) (h1 : 1 ≤ n) (hn : n ≤ 3) (hw : ∀ t, A 19 t < 64) : Ct l G yX7_findWay 6 [qr G 122, .int (nI gs), .int (nI n)] (hm G U i A B) (some (.int (oI (fw (A 5) gs (2 ^ A 5 3) n (spn (A 5) (A 5 3)) (i 20) ((2 ^ A 5 3) ^ n)).1))) (hm G U (va_up i 20 (fw (A 5) gs (2 ^ A 5 3) n (spn (A 5) (A 5 3)) (i 20) ((2 ^ A 5 3) ^ n)).2) (ast A (fwA (A 5) gs (2 ^ A 5 3) n (spn (A 5) (A 5 3)) (i 20) (A 18) ((2 ^ A 5 3) ^ n)) (fwW (2 ^ A 5 3) n (A 19) ((2 ^ A 5 3) ^ n))) B) := by
  refine ctm_intro (maxL := 11) kw_X7_findWay (by decide) (by decide) [some (qr G 122), some (.int (nI gs)), some (.int (nI n)), none, none, none, none, none, none, none, none] rfl (Nat.le_of_ble_eq_true rfl) ?_
  intro X _ hcl hsl _ _ C E
  have v3 := hV.2.2.2.1
  have hW : 2 ^ A 5 3 ≤ 32 := Nat.pow_le_pow_right (by decide) v3.2
  have h0 : 0 < 2 ^ A 5 3 := Nat.two_pow_pos _
  have hR : (2 ^ A 5 3) ^ n ≤ 32768 := Nat.le_trans (Nat.pow_le_pow_left hW n) (Nat.pow_le_pow_right (by decide) hn : 32 ^ n ≤ 32 ^ 3)
  refine y_iconst C D_X7_findWay_0 ki_1 ?_
  refine y_aload_n C D_X7_findWay_1 rfl ?_
  refine y_get C D_X7_findWay_2 fl_X7_19 (hm_o hU) rfl ?_
  refine y_iconst C D_X7_findWay_5 ki_3 ?_
  refine z_ild C D_X7_findWay_6 (hm_st hU) (by omega) (by decide) rfl ?_
  refine z_ishl1 C D_X7_findWay_7 (by omega) ?_
  refine y_istore_n C D_X7_findWay_8 (by decide) (qok_s rfl rfl) ?_
  refine y_iconst C D_X7_findWay_9 ki_1 ?_
  refine y_istore C D_X7_findWay_10 (by decide) (qok_s rfl rfl) ?_
  refine y_iconst C D_X7_findWay_12 ki_0 ?_
  refine y_istore C D_X7_findWay_13 (by decide) (qok_s rfl rfl) ?_
  refine lp_X7_findWay_15 hU hn C ?_ n 0 (by omega)
  refine y_iconst C D_X7_findWay_33 ki_m1 ?_
  refine y_istore C D_X7_findWay_34 (by decide) (qok_s rfl rfl) ?_
  refine y_aload_n C D_X7_findWay_36 rfl ?_
  refine z_callV C D_X7_findWay_37 lk_X7_174 (c_X7_suppered hU (by omega)) (hm_o hU) rfl rfl (Nat.le_of_ble_eq_true rfl) (Nat.le_of_ble_eq_true rfl) ⟨Nat.zero_le _, Nat.zero_le _⟩ ?_
  refine y_istore C D_X7_findWay_40 (by decide) (qok_s rfl rfl) ?_
  refine y_iconst C D_X7_findWay_42 ki_0 ?_
  refine y_istore C D_X7_findWay_43 (by decide) (qok_s rfl rfl) ?_
  have z := lp_X7_findWay_45 (b0 := i 20) (told := spn (A 5) (A 5 3)) hU hV h4 hg h1 hn h0 hW hR hw C E ((2 ^ A 5 3) ^ n) 0 (by omega)
  rw [show (fw (A 5) gs (2 ^ A 5 3) n (spn (A 5) (A 5 3)) (i 20) 0).2 = i 20 from rfl, up_id, show fwA (A 5) gs (2 ^ A 5 3) n (spn (A 5) (A 5 3)) (i 20) (A 18) 0 = A 18 from rfl, show fwW (2 ^ A 5 3) n (A 19) 0 = A 19 from rfl, ast_id] at z
  exact z
theorem c_X7_suppersS (hU : U.length = 122) {x0 x1 x2 : Int32} (ht : i 4 = 0) : Ct l G yX7_suppers 7 [qr G 122, .int x0, .int x1, .int x2] (hm G U i A B) (some (.int (-1000002))) (hm G U i A B) := by
  refine ctm_intro (maxL := 7) kw_X7_suppers (by decide) (by decide) [some (qr G 122), some (.int x0), some (.int x1), some (.int x2), none, none, none] rfl (Nat.le_of_ble_eq_true rfl) ?_
  intro X _ hcl hsl _ _ C E
  refine y_aload_n C D_X7_suppers_0 rfl ?_
  refine y_get C D_X7_suppers_1 fl_X7_135 (hm_o hU) rfl ?_
  refine y_if_ne C D_X7_suppers_4 (n_eq0 (by omega)) (fun c_4 => absurd ht c_4) (fun c_4 => ?_)
  refine y_ldc C D_X7_suppers_7 lk_X7_162 ?_
  exact y_iret C E D_X7_suppers_9 (rfl) (rfl)
theorem c_X7_suppersB (hU : U.length = 122) (h0 : A 5 0 ≤ 6) {x1 x2 x3 : Int32} (ht : i 4 = 1) (hx : ¬ isx x1 (2 ^ A 5 0) ∨ ¬ inr x2 1 3 ∨ x3 < -1) : Ct l G yX7_suppers 7 [qr G 122, .int x1, .int x2, .int x3] (hm G U i A B) (some (.int (-1000001))) (hm G U i A B) := by
  refine ctm_intro (maxL := 7) kw_X7_suppers (by decide) (by decide) [some (qr G 122), some (.int x1), some (.int x2), some (.int x3), none, none, none] rfl (Nat.le_of_ble_eq_true rfl) ?_
  intro X _ hcl hsl _ _ C E
  have p6 : 2 ^ A 5 0 ≤ 64 := Nat.pow_le_pow_right (by decide) h0
  refine y_aload_n C D_X7_suppers_0 rfl ?_
  refine y_get C D_X7_suppers_1 fl_X7_135 (hm_o hU) rfl ?_
  refine y_if_ne C D_X7_suppers_4 (n_eq0 (by omega)) (fun c_4 => ?_) (fun c_4 => absurd c_4 (by omega))
  refine y_iload_n C D_X7_suppers_10 rfl ?_
  refine y_i2l C D_X7_suppers_11 ?_
  refine y_lconst C D_X7_suppers_12 rfl ?_
  refine y_iconst C D_X7_suppers_13 ki_1 ?_
  refine y_aload_n C D_X7_suppers_14 rfl ?_
  refine y_get C D_X7_suppers_15 fl_X7_19 (hm_o hU) rfl ?_
  refine y_iconst C D_X7_suppers_18 ki_0 ?_
  refine z_ild C D_X7_suppers_19 (hm_st hU) (by omega) (by decide) rfl ?_
  refine z_ishl1 C D_X7_suppers_20 (by omega) ?_
  refine y_iconst C D_X7_suppers_21 ki_1 ?_
  refine y_isub C D_X7_suppers_22 ?_
  refine y_i2l C D_X7_suppers_23 ?_
  refine z_callS C D_X7_suppers_24 lk_X7_57 (c_X7_in) rfl rfl (Nat.le_of_ble_eq_true rfl) (Nat.le_of_ble_eq_true rfl) ⟨Nat.zero_le _, Nat.zero_le _⟩ ?_
  refine y_top (bI_c (in_isx (n := 2 ^ A 5 0) (by omega) (nI_sub1 (by omega)))) ?_
  refine z_ifeqB C D_X7_suppers_27 (fun c_27 => ?_) (fun c_27 => ?_)
  · refine y_ldc C D_X7_suppers_47 lk_X7_67 ?_
    exact y_iret C E D_X7_suppers_49 (rfl) (rfl)
  · refine y_iload_n C D_X7_suppers_30 rfl ?_
    refine y_i2l C D_X7_suppers_31 ?_
    refine y_lconst C D_X7_suppers_32 rfl ?_
    refine y_ldc2 C D_X7_suppers_33 lk_X7_212 ?_
    refine z_callS C D_X7_suppers_36 lk_X7_57 (c_X7_in) rfl rfl (Nat.le_of_ble_eq_true rfl) (Nat.le_of_ble_eq_true rfl) ⟨Nat.zero_le _, Nat.zero_le _⟩ ?_
    refine y_top (bI_c (in_inr (y := 1) (z := 3) (a := 1) (b := 3) rfl rfl)) ?_
    refine z_ifeqB C D_X7_suppers_39 (fun c_39 => ?_) (fun c_39 => ?_)
    · refine y_ldc C D_X7_suppers_47 lk_X7_67 ?_
      exact y_iret C E D_X7_suppers_49 (rfl) (rfl)
    · refine y_iload_n C D_X7_suppers_42 rfl ?_
      refine y_iconst C D_X7_suppers_43 ki_m1 ?_
      refine y_icmp_ge C D_X7_suppers_44 Iff.rfl (fun c_44 => hx.elim (fun z => absurd c_27 z) (fun z => z.elim (fun z => absurd c_39 z) (fun z => absurd z (Int32.not_lt.mpr c_44)))) (fun c_44 => ?_)
      refine y_ldc C D_X7_suppers_47 lk_X7_67 ?_
      exact y_iret C E D_X7_suppers_49 (rfl) (rfl)
theorem c_X7_suppersN (hU : U.length = 122) {gs n : Nat} (ht : i 4 = 1) (hV : Va (A 5)) (h4 : A 5 4 ≤ 999) (hg : gs < 2 ^ A 5 0) (h1 : 1 ≤ n) (hn : n ≤ 3) (hw : ∀ t, A 19 t < 64) {x : Int32} (hx : ¬ x < -1) (hN : (fw (A 5) gs (2 ^ A 5 3) n (spn (A 5) (A 5 3)) (i 20) ((2 ^ A 5 3) ^ n)).1 = none ∨ nI n ≤ x) : Ct l G yX7_suppers 7 [qr G 122, .int (nI gs), .int (nI n), .int x] (hm G U i A B) (some (.int (-1000000))) (hm G U (va_up i 20 (fw (A 5) gs (2 ^ A 5 3) n (spn (A 5) (A 5 3)) (i 20) ((2 ^ A 5 3) ^ n)).2) (ast A (fwA (A 5) gs (2 ^ A 5 3) n (spn (A 5) (A 5 3)) (i 20) (A 18) ((2 ^ A 5 3) ^ n)) (fwW (2 ^ A 5 3) n (A 19) ((2 ^ A 5 3) ^ n))) B) := by
  refine ctm_intro (maxL := 7) kw_X7_suppers (by decide) (by decide) [some (qr G 122), some (.int (nI gs)), some (.int (nI n)), some (.int x), none, none, none] rfl (Nat.le_of_ble_eq_true rfl) ?_
  intro X _ hcl hsl _ _ C E
  have v0 := hV.1
  have v3 := hV.2.2.2.1
  have p6 : 2 ^ A 5 0 ≤ 64 := Nat.pow_le_pow_right (by decide) v0.2
  have hg6 : gs < 64 := Nat.lt_of_lt_of_le hg p6
  refine y_aload_n C D_X7_suppers_0 rfl ?_
  refine y_get C D_X7_suppers_1 fl_X7_135 (hm_o hU) rfl ?_
  refine y_if_ne C D_X7_suppers_4 (n_eq0 (by omega)) (fun c_4 => ?_) (fun c_4 => absurd c_4 (by omega))
  refine y_iload_n C D_X7_suppers_10 rfl ?_
  refine y_i2l C D_X7_suppers_11 ?_
  refine y_lconst C D_X7_suppers_12 rfl ?_
  refine y_iconst C D_X7_suppers_13 ki_1 ?_
  refine y_aload_n C D_X7_suppers_14 rfl ?_
  refine y_get C D_X7_suppers_15 fl_X7_19 (hm_o hU) rfl ?_
  refine y_iconst C D_X7_suppers_18 ki_0 ?_
  refine z_ild C D_X7_suppers_19 (hm_st hU) (by omega) (by decide) rfl ?_
  refine z_ishl1 C D_X7_suppers_20 (by omega) ?_
  refine y_iconst C D_X7_suppers_21 ki_1 ?_
  refine y_isub C D_X7_suppers_22 ?_
  refine y_i2l C D_X7_suppers_23 ?_
  refine z_callS C D_X7_suppers_24 lk_X7_57 (c_X7_in) rfl rfl (Nat.le_of_ble_eq_true rfl) (Nat.le_of_ble_eq_true rfl) ⟨Nat.zero_le _, Nat.zero_le _⟩ ?_
  refine y_top (bI_c (in_isx (n := 2 ^ A 5 0) (by omega) (nI_sub1 (by omega)))) ?_
  refine z_ifeqB C D_X7_suppers_27 (fun c_27 => absurd (isx_n (by omega) hg) c_27) (fun c_27 => ?_)
  refine y_iload_n C D_X7_suppers_30 rfl ?_
  refine y_i2l C D_X7_suppers_31 ?_
  refine y_lconst C D_X7_suppers_32 rfl ?_
  refine y_ldc2 C D_X7_suppers_33 lk_X7_212 ?_
  refine z_callS C D_X7_suppers_36 lk_X7_57 (c_X7_in) rfl rfl (Nat.le_of_ble_eq_true rfl) (Nat.le_of_ble_eq_true rfl) ⟨Nat.zero_le _, Nat.zero_le _⟩ ?_
  refine y_top (bI_c (in_inr (y := 1) (z := 3) (a := 1) (b := 3) rfl rfl)) ?_
  refine z_ifeqB C D_X7_suppers_39 (fun c_39 => absurd (inr_n (by decide) h1 hn) c_39) (fun c_39 => ?_)
  refine y_iload_n C D_X7_suppers_42 rfl ?_
  refine y_iconst C D_X7_suppers_43 ki_m1 ?_
  refine y_icmp_ge C D_X7_suppers_44 Iff.rfl (fun c_44 => ?_) (fun c_44 => absurd (Int32.not_lt.mp hx) c_44)
  refine y_aload_n C D_X7_suppers_50 rfl ?_
  refine y_iload_n C D_X7_suppers_51 rfl ?_
  refine y_iload_n C D_X7_suppers_52 rfl ?_
  refine z_callV C D_X7_suppers_53 lk_X7_214 (c_X7_findWay hU hV h4 hg6 h1 hn hw) (hm_o hU) rfl rfl (Nat.le_of_ble_eq_true rfl) (Nat.le_of_ble_eq_true rfl) ⟨Nat.zero_le _, Nat.zero_le _⟩ ?_
  refine y_istore C D_X7_suppers_56 (by decide) (qok_s rfl rfl) ?_
  refine y_iload C D_X7_suppers_58 rfl ?_
  refine y_if_lt C D_X7_suppers_60 Iff.rfl (fun c_60 => ?_) (fun c_60 => ?_)
  · refine y_ldc C D_X7_suppers_68 lk_X7_197 ?_
    exact y_iret C E D_X7_suppers_70 (rfl) (rfl)
  · refine y_iload_n C D_X7_suppers_63 rfl ?_
    refine y_iload_n C D_X7_suppers_64 rfl ?_
    refine y_icmp_lt C D_X7_suppers_65 Iff.rfl (fun c_65 => hN.elim (fun z => absurd (show oI (fw (A 5) gs (2 ^ A 5 3) n (spn (A 5) (A 5 3)) (i 20) ((2 ^ A 5 3) ^ n)).1 < 0 by rw [z]; decide) c_60) (fun z => absurd c_65 (Int32.not_lt.mpr z))) (fun c_65 => ?_)
    refine y_ldc C D_X7_suppers_68 lk_X7_197 ?_
    exact y_iret C E D_X7_suppers_70 (rfl) (rfl)
theorem lp_X7_suppers_m {X : qX} {gs n q : Nat} (hU : U.length = 122) (h3 : A 5 3 ≤ 5) (C : qC X G cX7_suppers 7 RX7 7) (K : ∀ b, Y X G 7 0 0 107 [some (qr G 122), some (.int (nI (gs))), some (.int (nI (n))), some (.int (-1)), some (.int (nI (q))), some (.int (nI (b))), some (.int (-1))] [] (hm G U i A B)) : ∀ (m b : Nat), m ≤ 3 → b < 40000 → Y X G 7 0 0 82 [some (qr G 122), some (.int (nI (gs))), some (.int (nI (n))), some (.int (-1)), some (.int (nI (q))), some (.int (nI (b))), some (.int (pI m))] [] (hm G U i A B) := by
  have h0 : 0 < 2 ^ A 5 3 := Nat.two_pow_pos _
  have hW : 2 ^ A 5 3 ≤ 32 := Nat.pow_le_pow_right (by decide) h3
  intro m
  induction m with
  | zero =>
    intro b hm3 hb
    refine y_iload C D_X7_suppers_82 rfl ?_
    refine y_iload_n C D_X7_suppers_84 rfl ?_
    refine y_icmp_le C D_X7_suppers_85 Iff.rfl (fun c_85 => ?_) (fun c_85 => absurd (by decide) c_85)
    exact K b
  | succ m ih =>
    intro b hm3 hb
    have hdl : b / 2 ^ A 5 3 ≤ b := Nat.div_le_self _ _
    refine y_iload C D_X7_suppers_82 rfl ?_
    refine y_iload_n C D_X7_suppers_84 rfl ?_
    refine y_icmp_le C D_X7_suppers_85 Iff.rfl (fun c_85 => absurd c_85 (fun z => absurd z (by have e1 : (-1 : Int32).toInt = -1 := rfl; have e2 := nI_int (n := m) (by omega); rw [Int32.le_iff_toInt_le]; show ¬ (nI m).toInt ≤ _; omega))) (fun c_85 => ?_)
    refine y_iload C D_X7_suppers_88 rfl ?_
    refine y_iconst C D_X7_suppers_90 ki_1 ?_
    refine y_aload_n C D_X7_suppers_91 rfl ?_
    refine y_get C D_X7_suppers_92 fl_X7_19 (hm_o hU) rfl ?_
    refine y_iconst C D_X7_suppers_95 ki_3 ?_
    refine z_ild C D_X7_suppers_96 (hm_st hU) (by omega) (by decide) rfl ?_
    refine z_ishl1 C D_X7_suppers_97 (by omega) ?_
    refine z_idiv C D_X7_suppers_98 (by omega) (by omega) (by omega) ?_
    refine y_istore C D_X7_suppers_99 (by decide) (qok_s rfl rfl) ?_
    refine y_iinc C D_X7_suppers_101 rfl rfl (by decide) (qok_s rfl rfl) ?_
    rw [pI_dcs]
    refine y_goto C D_X7_suppers_104 ?_
    exact ih _ (by omega) (by omega)
theorem lp_X7_suppers_j {X : qX} {gs n q t b0 : Nat} (hU : U.length = 122) (h3 : A 5 3 ≤ 5) (hb0 : b0 < 40000) (C : qC X G cX7_suppers 7 RX7 7) (K : Y X G 7 0 0 107 [some (qr G 122), some (.int (nI (gs))), some (.int (nI (n))), some (.int (nI t)), some (.int (nI (q))), some (.int (nI (b0 / (2 ^ A 5 3) ^ (n - (t + 1))))), some (.int (nI t))] [] (hm G U i A B)) : ∀ (m : Nat), m + (t + 1) ≤ n → n ≤ 3 → Y X G 7 0 0 82 [some (qr G 122), some (.int (nI (gs))), some (.int (nI (n))), some (.int (nI t)), some (.int (nI (q))), some (.int (nI (b0 / (2 ^ A 5 3) ^ (n - (m + (t + 1)))))), some (.int (pI (m + (t + 1))))] [] (hm G U i A B) := by
  have h0 : 0 < 2 ^ A 5 3 := Nat.two_pow_pos _
  have hW : 2 ^ A 5 3 ≤ 32 := Nat.pow_le_pow_right (by decide) h3
  intro m
  induction m with
  | zero =>
    intro hm hn
    rw [Nat.zero_add, show pI (t + 1) = nI t from rfl]
    refine y_iload C D_X7_suppers_82 rfl ?_
    refine y_iload_n C D_X7_suppers_84 rfl ?_
    refine y_icmp_le C D_X7_suppers_85 (n_le (by omega) (by omega)) (fun c_85 => ?_) (fun c_85 => absurd (Nat.le_refl _) c_85)
    exact K
  | succ m ih =>
    intro hm hn
    have hdl : b0 / (2 ^ A 5 3) ^ (n - (m + 1 + (t + 1))) ≤ b0 := Nat.div_le_self _ _
    rw [show pI (m + 1 + (t + 1)) = nI (m + (t + 1)) from by rw [show m + 1 + (t + 1) = (m + (t + 1)) + 1 by omega]; rfl]
    have eq : b0 / (2 ^ A 5 3) ^ (n - (m + (t + 1))) = b0 / (2 ^ A 5 3) ^ (n - (m + 1 + (t + 1))) / 2 ^ A 5 3 := by
      rw [Nat.div_div_eq_div_mul, show n - (m + (t + 1)) = (n - (m + 1 + (t + 1))) + 1 by omega, Nat.pow_succ]
    have z := ih (by omega) hn
    rw [eq] at z
    refine y_iload C D_X7_suppers_82 rfl ?_
    refine y_iload_n C D_X7_suppers_84 rfl ?_
    refine y_icmp_le C D_X7_suppers_85 (n_le (by omega) (by omega)) (fun c_85 => absurd c_85 (by omega)) (fun c_85 => ?_)
    refine y_iload C D_X7_suppers_88 rfl ?_
    refine y_iconst C D_X7_suppers_90 ki_1 ?_
    refine y_aload_n C D_X7_suppers_91 rfl ?_
    refine y_get C D_X7_suppers_92 fl_X7_19 (hm_o hU) rfl ?_
    refine y_iconst C D_X7_suppers_95 ki_3 ?_
    refine z_ild C D_X7_suppers_96 (hm_st hU) (by omega) (by decide) rfl ?_
    refine z_ishl1 C D_X7_suppers_97 (by omega) ?_
    refine z_idiv C D_X7_suppers_98 (by omega) (by omega) (by omega) ?_
    refine y_istore C D_X7_suppers_99 (by decide) (qok_s rfl rfl) ?_
    refine y_iinc C D_X7_suppers_101 rfl rfl (by decide) (qok_s rfl rfl) ?_
    rw [pI_dec]
    refine y_goto C D_X7_suppers_104 ?_
    exact z
theorem c_X7_suppers_m (hU : U.length = 122) {gs n : Nat} (ht : i 4 = 1) (hV : Va (A 5)) (h4 : A 5 4 ≤ 999) (hg : gs < 2 ^ A 5 0) (h1 : 1 ≤ n) (hn : n ≤ 3) (hw : ∀ t, A 19 t < 64) {q : Nat} (hi20 : i 20 < 40000) (hL : (fw (A 5) gs (2 ^ A 5 3) n (spn (A 5) (A 5 3)) (i 20) ((2 ^ A 5 3) ^ n)).1 = some q) : Ct l G yX7_suppers 7 [qr G 122, .int (nI gs), .int (nI n), .int (-1)] (hm G U i A B) (some (.int (nI q))) (hm G U (va_up i 20 (fw (A 5) gs (2 ^ A 5 3) n (spn (A 5) (A 5 3)) (i 20) ((2 ^ A 5 3) ^ n)).2) (ast A (fwA (A 5) gs (2 ^ A 5 3) n (spn (A 5) (A 5 3)) (i 20) (A 18) ((2 ^ A 5 3) ^ n)) (fwW (2 ^ A 5 3) n (A 19) ((2 ^ A 5 3) ^ n))) B) := by
  refine ctm_intro (maxL := 7) kw_X7_suppers (by decide) (by decide) [some (qr G 122), some (.int (nI gs)), some (.int (nI n)), some (.int (-1)), none, none, none] rfl (Nat.le_of_ble_eq_true rfl) ?_
  intro X _ hcl hsl _ _ C E
  have v0 := hV.1
  have v3 := hV.2.2.2.1
  have p6 : 2 ^ A 5 0 ≤ 64 := Nat.pow_le_pow_right (by decide) v0.2
  have hg6 : gs < 64 := Nat.lt_of_lt_of_le hg p6
  have hW : 2 ^ A 5 3 ≤ 32 := Nat.pow_le_pow_right (by decide) v3.2
  have h0 : 0 < 2 ^ A 5 3 := Nat.two_pow_pos _
  have hR : (2 ^ A 5 3) ^ n ≤ 32768 := Nat.le_trans (Nat.pow_le_pow_left hW n) (Nat.pow_le_pow_right (by decide) hn : 32 ^ n ≤ 32 ^ 3)
  have hbw : (fw (A 5) gs (2 ^ A 5 3) n (spn (A 5) (A 5 3)) (i 20) ((2 ^ A 5 3) ^ n)).2 < 40000 := fw_lt hi20 _ hR
  have hq := fw_le _ _ hL
  have a53 : (ast A (fwA (A 5) gs (2 ^ A 5 3) n (spn (A 5) (A 5 3)) (i 20) (A 18) ((2 ^ A 5 3) ^ n)) (fwW (2 ^ A 5 3) n (A 19) ((2 ^ A 5 3) ^ n))) 5 3 = A 5 3 := congrFun (ast_5 _ _ _) 3
  refine y_aload_n C D_X7_suppers_0 rfl ?_
  refine y_get C D_X7_suppers_1 fl_X7_135 (hm_o hU) rfl ?_
  refine y_if_ne C D_X7_suppers_4 (n_eq0 (by omega)) (fun c_4 => ?_) (fun c_4 => absurd c_4 (by omega))
  refine y_iload_n C D_X7_suppers_10 rfl ?_
  refine y_i2l C D_X7_suppers_11 ?_
  refine y_lconst C D_X7_suppers_12 rfl ?_
  refine y_iconst C D_X7_suppers_13 ki_1 ?_
  refine y_aload_n C D_X7_suppers_14 rfl ?_
  refine y_get C D_X7_suppers_15 fl_X7_19 (hm_o hU) rfl ?_
  refine y_iconst C D_X7_suppers_18 ki_0 ?_
  refine z_ild C D_X7_suppers_19 (hm_st hU) (by omega) (by decide) rfl ?_
  refine z_ishl1 C D_X7_suppers_20 (by omega) ?_
  refine y_iconst C D_X7_suppers_21 ki_1 ?_
  refine y_isub C D_X7_suppers_22 ?_
  refine y_i2l C D_X7_suppers_23 ?_
  refine z_callS C D_X7_suppers_24 lk_X7_57 (c_X7_in) rfl rfl (Nat.le_of_ble_eq_true rfl) (Nat.le_of_ble_eq_true rfl) ⟨Nat.zero_le _, Nat.zero_le _⟩ ?_
  refine y_top (bI_c (in_isx (n := 2 ^ A 5 0) (by omega) (nI_sub1 (by omega)))) ?_
  refine z_ifeqB C D_X7_suppers_27 (fun c_27 => absurd (isx_n (by omega) hg) c_27) (fun c_27 => ?_)
  refine y_iload_n C D_X7_suppers_30 rfl ?_
  refine y_i2l C D_X7_suppers_31 ?_
  refine y_lconst C D_X7_suppers_32 rfl ?_
  refine y_ldc2 C D_X7_suppers_33 lk_X7_212 ?_
  refine z_callS C D_X7_suppers_36 lk_X7_57 (c_X7_in) rfl rfl (Nat.le_of_ble_eq_true rfl) (Nat.le_of_ble_eq_true rfl) ⟨Nat.zero_le _, Nat.zero_le _⟩ ?_
  refine y_top (bI_c (in_inr (y := 1) (z := 3) (a := 1) (b := 3) rfl rfl)) ?_
  refine z_ifeqB C D_X7_suppers_39 (fun c_39 => absurd (inr_n (by decide) h1 hn) c_39) (fun c_39 => ?_)
  refine y_iload_n C D_X7_suppers_42 rfl ?_
  refine y_iconst C D_X7_suppers_43 ki_m1 ?_
  refine y_icmp_ge C D_X7_suppers_44 Iff.rfl (fun c_44 => ?_) (fun c_44 => absurd (by decide) c_44)
  refine y_aload_n C D_X7_suppers_50 rfl ?_
  refine y_iload_n C D_X7_suppers_51 rfl ?_
  refine y_iload_n C D_X7_suppers_52 rfl ?_
  refine z_callV C D_X7_suppers_53 lk_X7_214 (c_X7_findWay hU hV h4 hg6 h1 hn hw) (hm_o hU) rfl rfl (Nat.le_of_ble_eq_true rfl) (Nat.le_of_ble_eq_true rfl) ⟨Nat.zero_le _, Nat.zero_le _⟩ ?_
  rw [hL]
  refine y_top (oI_s q) ?_
  refine y_istore C D_X7_suppers_56 (by decide) (qok_s rfl rfl) ?_
  refine y_iload C D_X7_suppers_58 rfl ?_
  refine y_if_lt C D_X7_suppers_60 (n_lt0 (by omega)) (fun q => q.elim) (fun _ => ?_)
  refine y_iload_n C D_X7_suppers_63 rfl ?_
  refine y_iload_n C D_X7_suppers_64 rfl ?_
  refine y_icmp_lt C D_X7_suppers_65 Iff.rfl (fun c_65 => ?_) (fun c_65 => absurd (show (-1 : Int32) < nI n by have e1 : (-1 : Int32).toInt = -1 := rfl; have e2 := nI_int (n := n) (by omega); rw [Int32.lt_iff_toInt_lt]; omega) c_65)
  refine y_aload_n C D_X7_suppers_71 rfl ?_
  refine y_get C D_X7_suppers_72 fl_X7_209 (hm_o hU) rfl ?_
  rw [up_eq]
  refine y_istore C D_X7_suppers_75 (by decide) (qok_s rfl rfl) ?_
  refine y_iload_n C D_X7_suppers_77 rfl ?_
  refine y_iconst C D_X7_suppers_78 ki_1 ?_
  refine y_isub C D_X7_suppers_79 ?_
  rw [pI_sub n]
  refine y_istore C D_X7_suppers_80 (by decide) (qok_s rfl rfl) ?_
  refine lp_X7_suppers_m hU (by rw [a53]; omega) C (fun b => ?_) n _ hn hbw
  refine y_iload_n C D_X7_suppers_107 rfl ?_
  refine z_ifgeM C D_X7_suppers_108 ?_
  refine y_iload C D_X7_suppers_111 rfl ?_
  refine y_goto C D_X7_suppers_113 ?_
  exact y_iret C E D_X7_suppers_127 (rfl) (rfl)
theorem c_X7_suppers_j (hU : U.length = 122) {gs n : Nat} (ht : i 4 = 1) (hV : Va (A 5)) (h4 : A 5 4 ≤ 999) (hg : gs < 2 ^ A 5 0) (h1 : 1 ≤ n) (hn : n ≤ 3) (hw : ∀ t, A 19 t < 64) {q : Nat} (hi20 : i 20 < 40000) (hL : (fw (A 5) gs (2 ^ A 5 3) n (spn (A 5) (A 5 3)) (i 20) ((2 ^ A 5 3) ^ n)).1 = some q) {t : Nat} (htn : t < n) : Ct l G yX7_suppers 7 [qr G 122, .int (nI gs), .int (nI n), .int (nI t)] (hm G U i A B) (some (.int (nI (wy (2 ^ A 5 3) n (fw (A 5) gs (2 ^ A 5 3) n (spn (A 5) (A 5 3)) (i 20) ((2 ^ A 5 3) ^ n)).2 t)))) (hm G U (va_up i 20 (fw (A 5) gs (2 ^ A 5 3) n (spn (A 5) (A 5 3)) (i 20) ((2 ^ A 5 3) ^ n)).2) (ast A (fwA (A 5) gs (2 ^ A 5 3) n (spn (A 5) (A 5 3)) (i 20) (A 18) ((2 ^ A 5 3) ^ n)) (fwW (2 ^ A 5 3) n (A 19) ((2 ^ A 5 3) ^ n))) B) := by
  refine ctm_intro (maxL := 7) kw_X7_suppers (by decide) (by decide) [some (qr G 122), some (.int (nI gs)), some (.int (nI n)), some (.int (nI t)), none, none, none] rfl (Nat.le_of_ble_eq_true rfl) ?_
  intro X _ hcl hsl _ _ C E
  have v0 := hV.1
  have v3 := hV.2.2.2.1
  have p6 : 2 ^ A 5 0 ≤ 64 := Nat.pow_le_pow_right (by decide) v0.2
  have hg6 : gs < 64 := Nat.lt_of_lt_of_le hg p6
  have hW : 2 ^ A 5 3 ≤ 32 := Nat.pow_le_pow_right (by decide) v3.2
  have h0 : 0 < 2 ^ A 5 3 := Nat.two_pow_pos _
  have hR : (2 ^ A 5 3) ^ n ≤ 32768 := Nat.le_trans (Nat.pow_le_pow_left hW n) (Nat.pow_le_pow_right (by decide) hn : 32 ^ n ≤ 32 ^ 3)
  have hbw : (fw (A 5) gs (2 ^ A 5 3) n (spn (A 5) (A 5 3)) (i 20) ((2 ^ A 5 3) ^ n)).2 < 40000 := fw_lt hi20 _ hR
  have hq := fw_le _ _ hL
  have a53 : (ast A (fwA (A 5) gs (2 ^ A 5 3) n (spn (A 5) (A 5 3)) (i 20) (A 18) ((2 ^ A 5 3) ^ n)) (fwW (2 ^ A 5 3) n (A 19) ((2 ^ A 5 3) ^ n))) 5 3 = A 5 3 := congrFun (ast_5 _ _ _) 3
  refine y_aload_n C D_X7_suppers_0 rfl ?_
  refine y_get C D_X7_suppers_1 fl_X7_135 (hm_o hU) rfl ?_
  refine y_if_ne C D_X7_suppers_4 (n_eq0 (by omega)) (fun c_4 => ?_) (fun c_4 => absurd c_4 (by omega))
  refine y_iload_n C D_X7_suppers_10 rfl ?_
  refine y_i2l C D_X7_suppers_11 ?_
  refine y_lconst C D_X7_suppers_12 rfl ?_
  refine y_iconst C D_X7_suppers_13 ki_1 ?_
  refine y_aload_n C D_X7_suppers_14 rfl ?_
  refine y_get C D_X7_suppers_15 fl_X7_19 (hm_o hU) rfl ?_
  refine y_iconst C D_X7_suppers_18 ki_0 ?_
  refine z_ild C D_X7_suppers_19 (hm_st hU) (by omega) (by decide) rfl ?_
  refine z_ishl1 C D_X7_suppers_20 (by omega) ?_
  refine y_iconst C D_X7_suppers_21 ki_1 ?_
  refine y_isub C D_X7_suppers_22 ?_
  refine y_i2l C D_X7_suppers_23 ?_
  refine z_callS C D_X7_suppers_24 lk_X7_57 (c_X7_in) rfl rfl (Nat.le_of_ble_eq_true rfl) (Nat.le_of_ble_eq_true rfl) ⟨Nat.zero_le _, Nat.zero_le _⟩ ?_
  refine y_top (bI_c (in_isx (n := 2 ^ A 5 0) (by omega) (nI_sub1 (by omega)))) ?_
  refine z_ifeqB C D_X7_suppers_27 (fun c_27 => absurd (isx_n (by omega) hg) c_27) (fun c_27 => ?_)
  refine y_iload_n C D_X7_suppers_30 rfl ?_
  refine y_i2l C D_X7_suppers_31 ?_
  refine y_lconst C D_X7_suppers_32 rfl ?_
  refine y_ldc2 C D_X7_suppers_33 lk_X7_212 ?_
  refine z_callS C D_X7_suppers_36 lk_X7_57 (c_X7_in) rfl rfl (Nat.le_of_ble_eq_true rfl) (Nat.le_of_ble_eq_true rfl) ⟨Nat.zero_le _, Nat.zero_le _⟩ ?_
  refine y_top (bI_c (in_inr (y := 1) (z := 3) (a := 1) (b := 3) rfl rfl)) ?_
  refine z_ifeqB C D_X7_suppers_39 (fun c_39 => absurd (inr_n (by decide) h1 hn) c_39) (fun c_39 => ?_)
  refine y_iload_n C D_X7_suppers_42 rfl ?_
  refine y_iconst C D_X7_suppers_43 ki_m1 ?_
  refine y_icmp_ge C D_X7_suppers_44 Iff.rfl (fun c_44 => ?_) (fun c_44 => absurd (show (-1 : Int32) ≤ nI t by have e1 : (-1 : Int32).toInt = -1 := rfl; have e2 := nI_int (n := t) (by omega); rw [Int32.le_iff_toInt_le]; omega) c_44)
  refine y_aload_n C D_X7_suppers_50 rfl ?_
  refine y_iload_n C D_X7_suppers_51 rfl ?_
  refine y_iload_n C D_X7_suppers_52 rfl ?_
  refine z_callV C D_X7_suppers_53 lk_X7_214 (c_X7_findWay hU hV h4 hg6 h1 hn hw) (hm_o hU) rfl rfl (Nat.le_of_ble_eq_true rfl) (Nat.le_of_ble_eq_true rfl) ⟨Nat.zero_le _, Nat.zero_le _⟩ ?_
  rw [hL]
  refine y_top (oI_s q) ?_
  refine y_istore C D_X7_suppers_56 (by decide) (qok_s rfl rfl) ?_
  refine y_iload C D_X7_suppers_58 rfl ?_
  refine y_if_lt C D_X7_suppers_60 (n_lt0 (by omega)) (fun q => q.elim) (fun _ => ?_)
  refine y_iload_n C D_X7_suppers_63 rfl ?_
  refine y_iload_n C D_X7_suppers_64 rfl ?_
  refine y_icmp_lt C D_X7_suppers_65 (n_lt (by omega) (by omega)) (fun c_65 => ?_) (fun c_65 => absurd htn c_65)
  refine y_aload_n C D_X7_suppers_71 rfl ?_
  refine y_get C D_X7_suppers_72 fl_X7_209 (hm_o hU) rfl ?_
  rw [up_eq]
  refine y_istore C D_X7_suppers_75 (by decide) (qok_s rfl rfl) ?_
  refine y_iload_n C D_X7_suppers_77 rfl ?_
  refine y_iconst C D_X7_suppers_78 ki_1 ?_
  refine y_isub C D_X7_suppers_79 ?_
  rw [pI_sub n]
  refine y_istore C D_X7_suppers_80 (by decide) (qok_s rfl rfl) ?_
  have z := fun K => lp_X7_suppers_j (gs := gs) (q := q) (n := n) (B := B) (b0 := (fw (A 5) gs (2 ^ A 5 3) n (spn (A 5) (A 5 3)) (i 20) ((2 ^ A 5 3) ^ n)).2) (t := t) (i := va_up i 20 (fw (A 5) gs (2 ^ A 5 3) n (spn (A 5) (A 5 3)) (i 20) ((2 ^ A 5 3) ^ n)).2) (A := (ast A (fwA (A 5) gs (2 ^ A 5 3) n (spn (A 5) (A 5 3)) (i 20) (A 18) ((2 ^ A 5 3) ^ n)) (fwW (2 ^ A 5 3) n (A 19) ((2 ^ A 5 3) ^ n)))) hU (by rw [a53]; omega) hbw C K (n - (t + 1)) (by omega) hn
  rw [show n - (t + 1) + (t + 1) = n by omega, Nat.sub_self, Nat.pow_zero, Nat.div_one] at z
  refine z ?_
  rw [a53]
  have hdl : (fw (A 5) gs (2 ^ A 5 3) n (spn (A 5) (A 5 3)) (i 20) ((2 ^ A 5 3) ^ n)).2 / (2 ^ A 5 3) ^ (n - (t + 1)) ≤ (fw (A 5) gs (2 ^ A 5 3) n (spn (A 5) (A 5 3)) (i 20) ((2 ^ A 5 3) ^ n)).2 := Nat.div_le_self _ _
  refine y_iload_n C D_X7_suppers_107 rfl ?_
  refine y_if_ge C D_X7_suppers_108 (n_ge0 (by omega)) (fun _ => ?_) (fun q => absurd trivial q)
  refine y_iload C D_X7_suppers_116 rfl ?_
  refine y_iconst C D_X7_suppers_118 ki_1 ?_
  refine y_aload_n C D_X7_suppers_119 rfl ?_
  refine y_get C D_X7_suppers_120 fl_X7_19 (hm_o hU) rfl ?_
  refine y_iconst C D_X7_suppers_123 ki_3 ?_
  refine z_ild C D_X7_suppers_124 (hm_st hU) (by omega) (by decide) rfl ?_
  rw [a53]
  refine z_ishl1 C D_X7_suppers_125 (by omega) ?_
  refine z_irem C D_X7_suppers_126 (by omega) (by omega) (by omega) ?_
  exact y_iret C E D_X7_suppers_127 (by unfold wy; rw [show n - 1 - t = n - (t + 1) by omega]) (rfl)
end
