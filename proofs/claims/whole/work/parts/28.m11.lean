section
variable {l : Launch} {G : qG} {U : List va_E} {i : Nat → Nat} {A : Nat → Nat → Nat} {B : Nat → Nat → Int32} {h : List va_E}
theorem c_X7_drawnS (hU : U.length = 122) {x0 x1 x2 : Int32} (ht : i 4 = 0) : Ct l G yX7_drawn 5 [qr G 122, .int x0, .int x1, .int x2] (hm G U i A B) (some (.int (-1000002))) (hm G U i A B) := by
  refine ctm_intro (maxL := 8) kw_X7_drawn (by decide) (by decide) [some (qr G 122), some (.int x0), some (.int x1), some (.int x2), none, none, none, none] rfl (Nat.le_of_ble_eq_true rfl) ?_
  intro X _ hcl hsl _ _ C E
  refine y_aload_n C D_X7_drawn_0 rfl ?_
  refine y_get C D_X7_drawn_1 fl_X7_135 (hm_o hU) rfl ?_
  refine y_if_ne C D_X7_drawn_4 (n_eq0 (by omega)) (fun c_4 => absurd ht c_4) (fun c_4 => ?_)
  refine y_ldc C D_X7_drawn_7 lk_X7_162 ?_
  exact y_iret C E D_X7_drawn_9 (rfl) (rfl)
theorem c_X7_drawnB (hU : U.length = 122) {x1 x2 x3 : Int32} (ht : i 4 = 1) (hx : ¬ inr x1 0 40 ∨ ¬ inr x2 1 999999 ∨ ¬ isx x3 2) : Ct l G yX7_drawn 5 [qr G 122, .int x1, .int x2, .int x3] (hm G U i A B) (some (.int (-1000001))) (hm G U i A B) := by
  refine ctm_intro (maxL := 8) kw_X7_drawn (by decide) (by decide) [some (qr G 122), some (.int x1), some (.int x2), some (.int x3), none, none, none, none] rfl (Nat.le_of_ble_eq_true rfl) ?_
  intro X _ hcl hsl _ _ C E
  refine y_aload_n C D_X7_drawn_0 rfl ?_
  refine y_get C D_X7_drawn_1 fl_X7_135 (hm_o hU) rfl ?_
  refine y_if_ne C D_X7_drawn_4 (n_eq0 (by omega)) (fun c_4 => ?_) (fun c_4 => absurd c_4 (by omega))
  refine y_iload_n C D_X7_drawn_10 rfl ?_
  refine y_i2l C D_X7_drawn_11 ?_
  refine y_lconst C D_X7_drawn_12 rfl ?_
  refine y_ldc2 C D_X7_drawn_13 lk_X7_186 ?_
  refine z_callS C D_X7_drawn_16 lk_X7_57 (c_X7_in) rfl rfl (Nat.le_of_ble_eq_true rfl) (Nat.le_of_ble_eq_true rfl) ⟨Nat.zero_le _, Nat.zero_le _⟩ ?_
  refine y_top (bI_c (in_inr (y := 0) (z := 40) (a := 0) (b := 40) rfl rfl)) ?_
  refine z_ifeqB C D_X7_drawn_19 (fun c_19 => ?_) (fun c_19 => ?_)
  · refine y_ldc C D_X7_drawn_44 lk_X7_67 ?_
    exact y_iret C E D_X7_drawn_46 (rfl) (rfl)
  · refine y_iload_n C D_X7_drawn_22 rfl ?_
    refine y_i2l C D_X7_drawn_23 ?_
    refine y_lconst C D_X7_drawn_24 rfl ?_
    refine y_ldc2 C D_X7_drawn_25 lk_X7_237 ?_
    refine z_callS C D_X7_drawn_28 lk_X7_57 (c_X7_in) rfl rfl (Nat.le_of_ble_eq_true rfl) (Nat.le_of_ble_eq_true rfl) ⟨Nat.zero_le _, Nat.zero_le _⟩ ?_
    refine y_top (bI_c (in_inr (y := 1) (z := 999999) (a := 1) (b := 999999) rfl rfl)) ?_
    refine z_ifeqB C D_X7_drawn_31 (fun c_31 => ?_) (fun c_31 => ?_)
    · refine y_ldc C D_X7_drawn_44 lk_X7_67 ?_
      exact y_iret C E D_X7_drawn_46 (rfl) (rfl)
    · refine y_iload_n C D_X7_drawn_34 rfl ?_
      refine y_i2l C D_X7_drawn_35 ?_
      refine y_lconst C D_X7_drawn_36 rfl ?_
      refine y_lconst C D_X7_drawn_37 rfl ?_
      refine z_callS C D_X7_drawn_38 lk_X7_57 (c_X7_in) rfl rfl (Nat.le_of_ble_eq_true rfl) (Nat.le_of_ble_eq_true rfl) ⟨Nat.zero_le _, Nat.zero_le _⟩ ?_
      refine y_top (bI_c (in_isx (z := 1) (n := 2) (by decide) rfl)) ?_
      refine z_ifneB C D_X7_drawn_41 (fun c_41 => hx.elim (fun z => absurd c_19 z) (fun z => z.elim (fun z => absurd c_31 z) (fun z => absurd c_41 z))) (fun c_41 => ?_)
      refine y_ldc C D_X7_drawn_44 lk_X7_67 ?_
      exact y_iret C E D_X7_drawn_46 (rfl) (rfl)
theorem lp_X7_drawn_58 {X : qX} {n s w : Nat} (hU : U.length = 122) (hV : Va (A 5)) (h4 : A 5 4 ≤ 999) (hn : n ≤ 40) (hs2 : s < 2147483647) (C : qC X G cX7_drawn 8 RX7 5) (K : Y X G 8 0 0 146 [some (qr G 122), some (.int (nI (n))), some (.int (nI (s))), some (.int (nI (w))), none, none, none, none] [] (hm G U i (va_up (asd A) 5 (dwY (A 5) s n)) B)) : ∀ (m k : Nat) (A' : Nat → Nat → Nat), k + m = n → A' = va_up (asd A) 5 (dwY (A 5) s k) → Y X G 8 0 0 58 [some (qr G 122), some (.int (nI (n))), some (.int (nI (s))), some (.int (nI (w))), some (.long (lN (dwX s k))), none, some (.int (nI (k))), none] [] (hm G U i A' B) := by
  intro m
  induction m with
  | zero =>
    intro k A' hk hA
    obtain rfl : k = n := by omega
    refine y_iload C D_X7_drawn_58 rfl ?_
    refine y_iload_n C D_X7_drawn_60 rfl ?_
    refine y_icmp_ge C D_X7_drawn_61 (n_le (by omega) (by omega)) (fun c_61 => ?_) (fun c_61 => absurd (Nat.le_refl _) c_61)
    refine y_fg 4 (y_fg 6 ?_)
    rw [hA]
    exact K
  | succ m ih =>
    intro k A' hk hA
    have e5 : A' 5 = dwY (A 5) s k := by rw [hA]; exact up_eq _ _ _
    have hVk := hV.dwY s k
    have v3 := hVk.2.2.2.1
    have e3 : A' 5 3 = dwY (A 5) s k 3 := by rw [e5]
    have e4 : dwY (A 5) s k 4 = A 5 4 + k := dwY_4 _ _ k
    have hx := dwX_lt hs2 k
    have hx1 := dwX_lt hs2 (k + 1)
    have em : dwX s k * 16807 % 2147483647 = dwX s (k + 1) := rfl
    have hmd : dwX s (k + 1) % A' 5 3 < A' 5 3 := Nat.mod_lt _ (by omega)
    have hm5 : dwX s (k + 1) % 5 < 5 := Nat.mod_lt _ (by decide)
    have hVp := hVk.dwP (dwX s (k + 1))
    have hp4 := dwP_4 (dwY (A 5) s k) (dwX s (k + 1))
    have K2 : ∀ z, z = dwP (dwY (A 5) s k) (dwX s (k + 1)) → Y X G 8 0 0 136 [some (qr G 122), some (.int (nI (n))), some (.int (nI (s))), some (.int (nI (w))), some (.long (lN (dwX s (k + 1)))), none, some (.int (nI (k))), none] [] (hm G U i (va_up (asd A) 5 z) B) := by
      intro z hz
      subst hz
      refine y_aload_n C D_X7_drawn_136 rfl ?_
      refine z_callVv C D_X7_drawn_137 lk_X7_168 (c_X7_oneYear hU (by rw [up_eq]; exact hVp) (by rw [up_eq, hp4]; omega)) (hm_o hU) rfl rfl (Nat.le_of_ble_eq_true rfl) (Nat.le_of_ble_eq_true rfl) ⟨Nat.zero_le _, Nat.zero_le _⟩ ?_
      refine z_iinc (n := 1) C D_X7_drawn_140 rfl (by decide) (qok_n rfl) ?_
      refine y_goto C D_X7_drawn_143 ?_
      exact ih (k + 1) _ (by omega) (by rw [up_eq, bx_uu]; rfl)
    refine y_iload C D_X7_drawn_58 rfl ?_
    refine y_iload_n C D_X7_drawn_60 rfl ?_
    refine y_icmp_ge C D_X7_drawn_61 (n_le (by omega) (by omega)) (fun c_61 => absurd c_61 (by omega)) (fun c_61 => ?_)
    refine y_lload C D_X7_drawn_64 rfl ?_
    refine y_ldc2 C D_X7_drawn_66 lk_X7_239 ?_
    refine y_topl (show (16807 : Int64) = lN 16807 from rfl) ?_
    refine z_lmul C D_X7_drawn_69 ?_
    refine y_ldc2 C D_X7_drawn_70 lk_X7_241 ?_
    refine y_topl (show (2147483647 : Int64) = lN 2147483647 from rfl) ?_
    refine z_lrem C D_X7_drawn_73 (by omega) (by omega) (by omega) ?_
    rw [em]
    refine y_lstore C D_X7_drawn_74 (by decide) (qok_s rfl rfl) ?_
    refine y_aload_n C D_X7_drawn_76 rfl ?_
    refine y_get C D_X7_drawn_77 fl_X7_19 (hm_o hU) rfl ?_
    refine y_bipush C D_X7_drawn_80 kb_11 ?_
    refine y_lload C D_X7_drawn_82 rfl ?_
    refine y_aload_n C D_X7_drawn_84 rfl ?_
    refine y_get C D_X7_drawn_85 fl_X7_19 (hm_o hU) rfl ?_
    refine y_iconst C D_X7_drawn_88 ki_3 ?_
    refine z_ild C D_X7_drawn_89 (hm_st hU) (by omega) (by decide) rfl ?_
    refine z_i2l C D_X7_drawn_90 (by omega) ?_
    refine z_lrem C D_X7_drawn_91 (by omega) (by omega) (by omega) ?_
    refine z_l2i C D_X7_drawn_92 ?_
    refine z_iadd C D_X7_drawn_93 ?_
    refine y_iconst C D_X7_drawn_94 ki_1 ?_
    refine z_ist C D_X7_drawn_95 (hm_st hU) (by omega) (by decide) (hm_wst hU _ _) ?_
    refine y_lload C D_X7_drawn_96 rfl ?_
    refine y_ldc2 C D_X7_drawn_98 lk_X7_243 ?_
    refine y_topl (show (5 : Int64) = lN 5 from rfl) ?_
    refine z_lrem C D_X7_drawn_101 (by omega) (by omega) (by omega) ?_
    refine z_l2i C D_X7_drawn_102 ?_
    refine y_istore C D_X7_drawn_103 (by decide) (qok_s rfl rfl) ?_
    refine y_lload C D_X7_drawn_105 rfl ?_
    refine y_ldc2 C D_X7_drawn_107 lk_X7_212 ?_
    refine y_topl (show (3 : Int64) = lN 3 from rfl) ?_
    refine z_lrem C D_X7_drawn_110 (by omega) (by omega) (by omega) ?_
    refine y_lconst (v := lN 0) C D_X7_drawn_111 rfl ?_
    refine y_lcmp C D_X7_drawn_112 ?_
    refine y_if_ne C D_X7_drawn_113 (z_lceq (by omega) (by omega)) (fun c_113 => ?_) (fun c_113 => ?_)
    · have ez : dwP (dwY (A 5) s k) (dwX s (k + 1)) = va_up (A' 5) (11 + dwX s (k + 1) % A' 5 3) 1 := by rw [dwP, if_neg (by omega), e5]
      refine y_fg 7 ?_
      have z := K2 _ ez.symm
      rw [show va_up (asd A) 5 (va_up (A' 5) (11 + dwX s (k + 1) % A' 5 3) 1) = va_up A' 5 (va_up (A' 5) (11 + dwX s (k + 1) % A' 5 3) 1) by rw [hA, bx_uu]] at z
      exact z
    · refine y_aload_n C D_X7_drawn_116 rfl ?_
      refine y_iload C D_X7_drawn_117 rfl ?_
      refine z_callV C D_X7_drawn_119 lk_X7_171 (c_X7_isSleeper hU (by rw [up_eq, up_ne _ _ (by omega)]; omega)) (hm_o hU) rfl rfl (Nat.le_of_ble_eq_true rfl) (Nat.le_of_ble_eq_true rfl) ⟨Nat.zero_le _, Nat.zero_le _⟩ ?_
      rw [show va_up A' 5 (va_up (A' 5) (11 + dwX s (k + 1) % A' 5 3) 1) 5 3 = A' 5 3 by rw [up_eq, up_ne _ _ (by omega)]]
      refine y_top (bI_c (isx_n' (by omega) (by omega))) ?_
      refine z_ifeqB C D_X7_drawn_122 (fun c_122 => ?_) (fun c_122 => ?_)
      · have ez : dwP (dwY (A 5) s k) (dwX s (k + 1)) = va_up (A' 5) (11 + dwX s (k + 1) % A' 5 3) 1 := by rw [dwP, if_neg (by omega), e5]
        refine y_fg 7 ?_
        have z := K2 _ ez.symm
        rw [show va_up (asd A) 5 (va_up (A' 5) (11 + dwX s (k + 1) % A' 5 3) 1) = va_up A' 5 (va_up (A' 5) (11 + dwX s (k + 1) % A' 5 3) 1) by rw [hA, bx_uu]] at z
        exact z
      · refine y_aload_n C D_X7_drawn_125 rfl ?_
        refine y_get C D_X7_drawn_126 fl_X7_19 (hm_o hU) rfl ?_
        refine y_bipush C D_X7_drawn_129 kb_16 ?_
        refine y_iload C D_X7_drawn_131 rfl ?_
        refine z_iadd C D_X7_drawn_133 ?_
        refine y_iconst C D_X7_drawn_134 ki_1 ?_
        refine z_ist C D_X7_drawn_135 (hm_st hU) (by omega) (by decide) (hm_wst hU _ _) ?_
        have ez : dwP (dwY (A 5) s k) (dwX s (k + 1)) = va_up (va_up (A' 5) (11 + dwX s (k + 1) % A' 5 3) 1) (16 + dwX s (k + 1) % 5) 1 := by rw [dwP, if_pos ⟨c_113, by omega⟩, e5]
        refine y_fg 7 ?_
        have z := K2 _ ez.symm
        rw [show va_up (asd A) 5 (va_up (va_up (A' 5) (11 + dwX s (k + 1) % A' 5 3) 1) (16 + dwX s (k + 1) % 5) 1) = va_up A' 5 (va_up (va_up (A' 5) (11 + dwX s (k + 1) % A' 5 3) 1) (16 + dwX s (k + 1) % 5) 1) by rw [hA, bx_uu]] at z
        rw [up_eq, bx_uu]
        exact z
theorem lp_X7_drawn_152 {X : qX} {n s w : Nat} (hU : U.length = 122) (hV : Va (A 5)) (C : qC X G cX7_drawn 8 RX7 5) (K : Y X G 8 0 0 180 [some (qr G 122), some (.int (nI (n))), some (.int (nI (s))), some (.int (nI (w))), none, none, some (.int (nI (smN (A 5) (A 5 3)))), none] [] (hm G U i A B)) : ∀ (m q : Nat), q + m = A 5 3 → Y X G 8 0 0 152 [some (qr G 122), some (.int (nI (n))), some (.int (nI (s))), some (.int (nI (w))), none, none, some (.int (nI (smN (A 5) q))), some (.int (nI (q)))] [] (hm G U i A B) := by
  have v0 := hV.1
  have v3 := hV.2.2.2.1
  intro m
  induction m with
  | zero =>
    intro q hq
    obtain rfl : q = A 5 3 := by omega
    refine y_iload C D_X7_drawn_152 rfl ?_
    refine y_aload_n C D_X7_drawn_154 rfl ?_
    refine y_get C D_X7_drawn_155 fl_X7_19 (hm_o hU) rfl ?_
    refine y_iconst C D_X7_drawn_158 ki_3 ?_
    refine z_ild C D_X7_drawn_159 (hm_st hU) (by omega) (by decide) rfl ?_
    refine y_icmp_ge C D_X7_drawn_160 (n_le (by omega) (by omega)) (fun c_160 => ?_) (fun c_160 => absurd (Nat.le_refl _) c_160)
    refine y_fg 7 ?_
    exact K
  | succ m ih =>
    intro q hq
    refine y_iload C D_X7_drawn_152 rfl ?_
    refine y_aload_n C D_X7_drawn_154 rfl ?_
    refine y_get C D_X7_drawn_155 fl_X7_19 (hm_o hU) rfl ?_
    refine y_iconst C D_X7_drawn_158 ki_3 ?_
    refine z_ild C D_X7_drawn_159 (hm_st hU) (by omega) (by decide) rfl ?_
    refine y_icmp_ge C D_X7_drawn_160 (n_le (by omega) (by omega)) (fun c_160 => absurd c_160 (by omega)) (fun c_160 => ?_)
    refine y_iload C D_X7_drawn_163 rfl ?_
    refine y_aload_n C D_X7_drawn_165 rfl ?_
    refine y_iload C D_X7_drawn_166 rfl ?_
    refine z_callV C D_X7_drawn_168 lk_X7_183 (c_X7_memoryBy hU (by omega) (by omega)) (hm_o hU) rfl rfl (Nat.le_of_ble_eq_true rfl) (Nat.le_of_ble_eq_true rfl) ⟨Nat.zero_le _, Nat.zero_le _⟩ ?_
    refine z_iadd C D_X7_drawn_171 ?_
    refine y_istore C D_X7_drawn_172 (by decide) (qok_n rfl) ?_
    refine z_iinc (n := 1) C D_X7_drawn_174 rfl (by decide) (qok_s rfl rfl) ?_
    refine y_goto C D_X7_drawn_177 ?_
    exact ih (q + 1) (by omega)
theorem c_X7_drawn0 (hU : U.length = 122) {n s : Nat} (ht : i 4 = 1) (hn : n ≤ 40) (hs1 : 1 ≤ s) (hs2 : s ≤ 999999) (hV : Va (A 5)) (h4 : A 5 4 ≤ 999) : Ct l G yX7_drawn 5 [qr G 122, .int (nI n), .int (nI s), .int (nI 0)] (hm G U i A B) (some (.int (nI (dwY (A 5) s n 5)))) (hm G U i (asd A) B) := by
  refine ctm_intro (maxL := 8) kw_X7_drawn (by decide) (by decide) [some (qr G 122), some (.int (nI n)), some (.int (nI s)), some (.int (nI 0)), none, none, none, none] rfl (Nat.le_of_ble_eq_true rfl) ?_
  intro X _ hcl hsl _ _ C E
  have e5 : va_up (asd A) 5 (dwY (A 5) s n) 5 = dwY (A 5) s n := up_eq _ _ _
  refine y_aload_n C D_X7_drawn_0 rfl ?_
  refine y_get C D_X7_drawn_1 fl_X7_135 (hm_o hU) rfl ?_
  refine y_if_ne C D_X7_drawn_4 (n_eq0 (by omega)) (fun c_4 => ?_) (fun c_4 => absurd c_4 (by omega))
  refine y_iload_n C D_X7_drawn_10 rfl ?_
  refine y_i2l C D_X7_drawn_11 ?_
  refine y_lconst C D_X7_drawn_12 rfl ?_
  refine y_ldc2 C D_X7_drawn_13 lk_X7_186 ?_
  refine z_callS C D_X7_drawn_16 lk_X7_57 (c_X7_in) rfl rfl (Nat.le_of_ble_eq_true rfl) (Nat.le_of_ble_eq_true rfl) ⟨Nat.zero_le _, Nat.zero_le _⟩ ?_
  refine y_top (bI_c (in_inr (y := 0) (z := 40) (a := 0) (b := 40) rfl rfl)) ?_
  refine z_ifeqB C D_X7_drawn_19 (fun c_19 => absurd (inr_n (by decide) (by omega) hn) c_19) (fun c_19 => ?_)
  refine y_iload_n C D_X7_drawn_22 rfl ?_
  refine y_i2l C D_X7_drawn_23 ?_
  refine y_lconst C D_X7_drawn_24 rfl ?_
  refine y_ldc2 C D_X7_drawn_25 lk_X7_237 ?_
  refine z_callS C D_X7_drawn_28 lk_X7_57 (c_X7_in) rfl rfl (Nat.le_of_ble_eq_true rfl) (Nat.le_of_ble_eq_true rfl) ⟨Nat.zero_le _, Nat.zero_le _⟩ ?_
  refine y_top (bI_c (in_inr (y := 1) (z := 999999) (a := 1) (b := 999999) rfl rfl)) ?_
  refine z_ifeqB C D_X7_drawn_31 (fun c_31 => absurd (inr_n (by decide) hs1 hs2) c_31) (fun c_31 => ?_)
  refine y_iload_n C D_X7_drawn_34 rfl ?_
  refine y_i2l C D_X7_drawn_35 ?_
  refine y_lconst C D_X7_drawn_36 rfl ?_
  refine y_lconst C D_X7_drawn_37 rfl ?_
  refine z_callS C D_X7_drawn_38 lk_X7_57 (c_X7_in) rfl rfl (Nat.le_of_ble_eq_true rfl) (Nat.le_of_ble_eq_true rfl) ⟨Nat.zero_le _, Nat.zero_le _⟩ ?_
  refine y_top (bI_c (in_isx (z := 1) (n := 2) (by decide) rfl)) ?_
  refine z_ifneB C D_X7_drawn_41 (fun c_41 => ?_) (fun c_41 => absurd (isx_n (by decide) (by decide)) c_41)
  refine y_aload_n C D_X7_drawn_47 rfl ?_
  refine z_callVv C D_X7_drawn_48 lk_X7_188 (c_X7_putAside hU) (hm_o hU) rfl rfl (Nat.le_of_ble_eq_true rfl) (Nat.le_of_ble_eq_true rfl) ⟨Nat.zero_le _, Nat.zero_le _⟩ ?_
  refine y_iload_n C D_X7_drawn_51 rfl ?_
  refine y_i2l C D_X7_drawn_52 ?_
  refine y_topl (nI_l (by omega)) ?_
  refine y_lstore C D_X7_drawn_53 (by decide) (qok_s rfl rfl) ?_
  refine y_iconst C D_X7_drawn_55 ki_0 ?_
  refine y_istore C D_X7_drawn_56 (by decide) (qok_n rfl) ?_
  refine lp_X7_drawn_58 hU hV h4 hn (by omega) C ?_ n 0 _ (by omega) (by rw [show dwY (A 5) s 0 = asd A 5 from (asd_5 A).symm]; exact (up_id (asd A) 5).symm)
  refine y_iconst C D_X7_drawn_146 ki_0 ?_
  refine y_istore C D_X7_drawn_147 (by decide) (qok_n rfl) ?_
  refine y_iconst C D_X7_drawn_149 ki_0 ?_
  refine y_istore C D_X7_drawn_150 (by decide) (qok_s rfl rfl) ?_
  refine lp_X7_drawn_152 hU (by rw [e5]; exact hV.dwY s n) C ?_ (va_up (asd A) 5 (dwY (A 5) s n) 5 3) 0 (by omega)
  rw [e5]
  refine y_iload_n C D_X7_drawn_180 rfl ?_
  refine z_ifne0 C D_X7_drawn_181 ?_
  refine y_aload_n C D_X7_drawn_184 rfl ?_
  refine y_get C D_X7_drawn_185 fl_X7_19 (hm_o hU) rfl ?_
  refine y_iconst C D_X7_drawn_188 ki_5 ?_
  refine z_ild C D_X7_drawn_189 (hm_st hU) (by omega) (by decide) rfl ?_
  refine y_goto C D_X7_drawn_190 ?_
  refine y_istore C D_X7_drawn_195 (by decide) (qok_s rfl rfl) ?_
  refine y_aload_n C D_X7_drawn_197 rfl ?_
  refine z_callVv C D_X7_drawn_198 lk_X7_191 (c_X7_takeBack hU) (hm_o hU) rfl rfl (Nat.le_of_ble_eq_true rfl) (Nat.le_of_ble_eq_true rfl) ⟨Nat.zero_le _, Nat.zero_le _⟩ ?_
  refine y_iload C D_X7_drawn_201 rfl ?_
  exact y_iret C E D_X7_drawn_203 (by rw [e5]) (by rw [asd_back rfl hV.far (hV.dwY s n).far])
theorem c_X7_drawn1 (hU : U.length = 122) {n s : Nat} (ht : i 4 = 1) (hn : n ≤ 40) (hs1 : 1 ≤ s) (hs2 : s ≤ 999999) (hV : Va (A 5)) (h4 : A 5 4 ≤ 999) : Ct l G yX7_drawn 5 [qr G 122, .int (nI n), .int (nI s), .int (nI 1)] (hm G U i A B) (some (.int (nI (smN (dwY (A 5) s n) (dwY (A 5) s n 3))))) (hm G U i (asd A) B) := by
  refine ctm_intro (maxL := 8) kw_X7_drawn (by decide) (by decide) [some (qr G 122), some (.int (nI n)), some (.int (nI s)), some (.int (nI 1)), none, none, none, none] rfl (Nat.le_of_ble_eq_true rfl) ?_
  intro X _ hcl hsl _ _ C E
  have e5 : va_up (asd A) 5 (dwY (A 5) s n) 5 = dwY (A 5) s n := up_eq _ _ _
  refine y_aload_n C D_X7_drawn_0 rfl ?_
  refine y_get C D_X7_drawn_1 fl_X7_135 (hm_o hU) rfl ?_
  refine y_if_ne C D_X7_drawn_4 (n_eq0 (by omega)) (fun c_4 => ?_) (fun c_4 => absurd c_4 (by omega))
  refine y_iload_n C D_X7_drawn_10 rfl ?_
  refine y_i2l C D_X7_drawn_11 ?_
  refine y_lconst C D_X7_drawn_12 rfl ?_
  refine y_ldc2 C D_X7_drawn_13 lk_X7_186 ?_
  refine z_callS C D_X7_drawn_16 lk_X7_57 (c_X7_in) rfl rfl (Nat.le_of_ble_eq_true rfl) (Nat.le_of_ble_eq_true rfl) ⟨Nat.zero_le _, Nat.zero_le _⟩ ?_
  refine y_top (bI_c (in_inr (y := 0) (z := 40) (a := 0) (b := 40) rfl rfl)) ?_
  refine z_ifeqB C D_X7_drawn_19 (fun c_19 => absurd (inr_n (by decide) (by omega) hn) c_19) (fun c_19 => ?_)
  refine y_iload_n C D_X7_drawn_22 rfl ?_
  refine y_i2l C D_X7_drawn_23 ?_
  refine y_lconst C D_X7_drawn_24 rfl ?_
  refine y_ldc2 C D_X7_drawn_25 lk_X7_237 ?_
  refine z_callS C D_X7_drawn_28 lk_X7_57 (c_X7_in) rfl rfl (Nat.le_of_ble_eq_true rfl) (Nat.le_of_ble_eq_true rfl) ⟨Nat.zero_le _, Nat.zero_le _⟩ ?_
  refine y_top (bI_c (in_inr (y := 1) (z := 999999) (a := 1) (b := 999999) rfl rfl)) ?_
  refine z_ifeqB C D_X7_drawn_31 (fun c_31 => absurd (inr_n (by decide) hs1 hs2) c_31) (fun c_31 => ?_)
  refine y_iload_n C D_X7_drawn_34 rfl ?_
  refine y_i2l C D_X7_drawn_35 ?_
  refine y_lconst C D_X7_drawn_36 rfl ?_
  refine y_lconst C D_X7_drawn_37 rfl ?_
  refine z_callS C D_X7_drawn_38 lk_X7_57 (c_X7_in) rfl rfl (Nat.le_of_ble_eq_true rfl) (Nat.le_of_ble_eq_true rfl) ⟨Nat.zero_le _, Nat.zero_le _⟩ ?_
  refine y_top (bI_c (in_isx (z := 1) (n := 2) (by decide) rfl)) ?_
  refine z_ifneB C D_X7_drawn_41 (fun c_41 => ?_) (fun c_41 => absurd (isx_n (by decide) (by decide)) c_41)
  refine y_aload_n C D_X7_drawn_47 rfl ?_
  refine z_callVv C D_X7_drawn_48 lk_X7_188 (c_X7_putAside hU) (hm_o hU) rfl rfl (Nat.le_of_ble_eq_true rfl) (Nat.le_of_ble_eq_true rfl) ⟨Nat.zero_le _, Nat.zero_le _⟩ ?_
  refine y_iload_n C D_X7_drawn_51 rfl ?_
  refine y_i2l C D_X7_drawn_52 ?_
  refine y_topl (nI_l (by omega)) ?_
  refine y_lstore C D_X7_drawn_53 (by decide) (qok_s rfl rfl) ?_
  refine y_iconst C D_X7_drawn_55 ki_0 ?_
  refine y_istore C D_X7_drawn_56 (by decide) (qok_n rfl) ?_
  refine lp_X7_drawn_58 hU hV h4 hn (by omega) C ?_ n 0 _ (by omega) (by rw [show dwY (A 5) s 0 = asd A 5 from (asd_5 A).symm]; exact (up_id (asd A) 5).symm)
  refine y_iconst C D_X7_drawn_146 ki_0 ?_
  refine y_istore C D_X7_drawn_147 (by decide) (qok_n rfl) ?_
  refine y_iconst C D_X7_drawn_149 ki_0 ?_
  refine y_istore C D_X7_drawn_150 (by decide) (qok_s rfl rfl) ?_
  refine lp_X7_drawn_152 hU (by rw [e5]; exact hV.dwY s n) C ?_ (va_up (asd A) 5 (dwY (A 5) s n) 5 3) 0 (by omega)
  rw [e5]
  refine y_iload_n C D_X7_drawn_180 rfl ?_
  refine z_ifne1 C D_X7_drawn_181 ?_
  refine y_iload C D_X7_drawn_193 rfl ?_
  refine y_istore C D_X7_drawn_195 (by decide) (qok_s rfl rfl) ?_
  refine y_aload_n C D_X7_drawn_197 rfl ?_
  refine z_callVv C D_X7_drawn_198 lk_X7_191 (c_X7_takeBack hU) (hm_o hU) rfl rfl (Nat.le_of_ble_eq_true rfl) (Nat.le_of_ble_eq_true rfl) ⟨Nat.zero_le _, Nat.zero_le _⟩ ?_
  refine y_iload C D_X7_drawn_201 rfl ?_
  exact y_iret C E D_X7_drawn_203 (rfl) (by rw [asd_back rfl hV.far (hV.dwY s n).far])
end
