section
variable {l : Launch} {G : qG} {U : List va_E} {i : Nat → Nat} {A : Nat → Nat → Nat} {B : Nat → Nat → Int32} {h : List va_E}
theorem c_X7_awakeS (hU : U.length = 122) {x0 x1 x2 : Int32} (ht : i 4 = 0) : Ct l G yX7_awake 3 [qr G 122, .int x0, .int x1, .int x2] (hm G U i A B) (some (.long (-1000002))) (hm G U i A B) := by
  refine ctm_intro (maxL := 14) kw_X7_awake (by decide) (by decide) [some (qr G 122), some (.int x0), some (.int x1), some (.int x2), none, none, none, none, none, none, none, none, none, none] rfl (Nat.le_of_ble_eq_true rfl) ?_
  intro X _ hcl hsl _ _ C E
  refine y_aload_n C D_X7_awake_0 rfl ?_
  refine y_get C D_X7_awake_1 fl_X7_135 (hm_o hU) rfl ?_
  refine y_if_ne C D_X7_awake_4 (n_eq0 (by omega)) (fun c_4 => absurd ht c_4) (fun c_4 => ?_)
  refine y_ldc2 C D_X7_awake_7 lk_X7_231 ?_
  exact y_lret C E D_X7_awake_10 (rfl) (rfl)
theorem c_X7_awakeB (hU : U.length = 122) (h0 : A 5 0 ≤ 6) {x1 x2 x3 : Int32} (ht : i 4 = 1) (hx : ¬ isx x1 (A 5 0) ∨ ¬ inr x2 0 10 ∨ ¬ isx x3 2) : Ct l G yX7_awake 3 [qr G 122, .int x1, .int x2, .int x3] (hm G U i A B) (some (.long (-1000001))) (hm G U i A B) := by
  refine ctm_intro (maxL := 14) kw_X7_awake (by decide) (by decide) [some (qr G 122), some (.int x1), some (.int x2), some (.int x3), none, none, none, none, none, none, none, none, none, none] rfl (Nat.le_of_ble_eq_true rfl) ?_
  intro X _ hcl hsl _ _ C E
  refine y_aload_n C D_X7_awake_0 rfl ?_
  refine y_get C D_X7_awake_1 fl_X7_135 (hm_o hU) rfl ?_
  refine y_if_ne C D_X7_awake_4 (n_eq0 (by omega)) (fun c_4 => ?_) (fun c_4 => absurd c_4 (by omega))
  refine y_aload_n C D_X7_awake_11 rfl ?_
  refine y_iload_n C D_X7_awake_12 rfl ?_
  refine z_callV C D_X7_awake_13 lk_X7_180 (c_X7_isGrave hU (by omega)) (hm_o hU) rfl rfl (Nat.le_of_ble_eq_true rfl) (Nat.le_of_ble_eq_true rfl) ⟨Nat.zero_le _, Nat.zero_le _⟩ ?_
  refine z_ifeqB C D_X7_awake_16 (fun c_16 => ?_) (fun c_16 => ?_)
  · refine y_ldc2 C D_X7_awake_41 lk_X7_235 ?_
    exact y_lret C E D_X7_awake_44 (rfl) (rfl)
  · refine y_iload_n C D_X7_awake_19 rfl ?_
    refine y_i2l C D_X7_awake_20 ?_
    refine y_lconst C D_X7_awake_21 rfl ?_
    refine y_ldc2 C D_X7_awake_22 lk_X7_233 ?_
    refine z_callS C D_X7_awake_25 lk_X7_57 (c_X7_in) rfl rfl (Nat.le_of_ble_eq_true rfl) (Nat.le_of_ble_eq_true rfl) ⟨Nat.zero_le _, Nat.zero_le _⟩ ?_
    refine y_top (bI_c (in_inr (y := 0) (z := 10) (a := 0) (b := 10) rfl rfl)) ?_
    refine z_ifeqB C D_X7_awake_28 (fun c_28 => ?_) (fun c_28 => ?_)
    · refine y_ldc2 C D_X7_awake_41 lk_X7_235 ?_
      exact y_lret C E D_X7_awake_44 (rfl) (rfl)
    · refine y_iload_n C D_X7_awake_31 rfl ?_
      refine y_i2l C D_X7_awake_32 ?_
      refine y_lconst C D_X7_awake_33 rfl ?_
      refine y_lconst C D_X7_awake_34 rfl ?_
      refine z_callS C D_X7_awake_35 lk_X7_57 (c_X7_in) rfl rfl (Nat.le_of_ble_eq_true rfl) (Nat.le_of_ble_eq_true rfl) ⟨Nat.zero_le _, Nat.zero_le _⟩ ?_
      refine y_top (bI_c (in_isx (z := 1) (n := 2) (by decide) rfl)) ?_
      refine z_ifneB C D_X7_awake_38 (fun c_38 => hx.elim (fun z => absurd c_16 z) (fun z => z.elim (fun z => absurd c_28 z) (fun z => absurd c_38 z))) (fun c_38 => ?_)
      refine y_ldc2 C D_X7_awake_41 lk_X7_235 ?_
      exact y_lret C E D_X7_awake_44 (rfl) (rfl)
theorem lp_X7_awake_54 {X : qX} {g q w : Nat} (hU : U.length = 122) (hV : Va (A 5)) (h4 : A 5 4 < 1999) (hg1 : g < A 5 0) (hq : q ≤ 10) (C : qC X G cX7_awake 14 RX7 3) (K : Y X G 14 0 0 79 [some (qr G 122), some (.int (nI (g))), some (.int (nI (q))), some (.int (nI (w))), some (.long (lN (0))), none, some (.long (lN (10 ^ A 5 3))), none, none, none, none, none, none, none] [] (hm G U i A B)) : ∀ (m k : Nat), k + m = A 5 3 → Y X G 14 0 0 54 [some (qr G 122), some (.int (nI (g))), some (.int (nI (q))), some (.int (nI (w))), some (.long (lN (0))), none, some (.long (lN (10 ^ k))), none, some (.int (nI (k))), none, none, none, none, none] [] (hm G U i A B) := by
  have v0 := hV.1
  have v1 := hV.2.1
  have v2 := hV.2.2.1
  have v3 := hV.2.2.2.1
  have v5 := hV.k64
  have hB : ∀ k, A 5 k < 2000 := fun k => hV.lt (by omega) k
  intro m
  induction m with
  | zero =>
    intro k hk
    obtain rfl : k = A 5 3 := by omega
    refine y_iload C D_X7_awake_54 rfl ?_
    refine y_aload_n C D_X7_awake_56 rfl ?_
    refine y_get C D_X7_awake_57 fl_X7_19 (hm_o hU) rfl ?_
    refine y_iconst C D_X7_awake_60 ki_3 ?_
    refine z_ild C D_X7_awake_61 (hm_st hU) (by omega) (by decide) rfl ?_
    refine y_icmp_ge C D_X7_awake_62 (n_le (by omega) (by omega)) (fun c_62 => ?_) (fun c_62 => absurd (Nat.le_refl _) c_62)
    refine y_fg 8 ?_
    exact K
  | succ m ih =>
    intro k hk
    refine y_iload C D_X7_awake_54 rfl ?_
    refine y_aload_n C D_X7_awake_56 rfl ?_
    refine y_get C D_X7_awake_57 fl_X7_19 (hm_o hU) rfl ?_
    refine y_iconst C D_X7_awake_60 ki_3 ?_
    refine z_ild C D_X7_awake_61 (hm_st hU) (by omega) (by decide) rfl ?_
    refine y_icmp_ge C D_X7_awake_62 (n_le (by omega) (by omega)) (fun c_62 => absurd c_62 (by omega)) (fun c_62 => ?_)
    refine y_lload C D_X7_awake_65 rfl ?_
    refine y_ldc2 C D_X7_awake_67 lk_X7_233 ?_
    refine y_topl (show (10 : Int64) = lN 10 from rfl) ?_
    refine z_lmul C D_X7_awake_70 ?_
    refine y_lstore C D_X7_awake_71 (by decide) (qok_n rfl) ?_
    refine z_iinc (n := 1) C D_X7_awake_73 rfl (by decide) (qok_n rfl) ?_
    refine y_goto C D_X7_awake_76 ?_
    exact ih (k + 1) (by omega)
theorem lp_X7_awake_104 {X : qX} {g q w : Nat} (hU : U.length = 122) (hV : Va (A 5)) (h4 : A 5 4 < 1999) (hg1 : g < A 5 0) (hq : q ≤ 10) (C : qC X G cX7_awake 14 RX7 3) {s ab be : Nat} (hs1 : s < 64) (K : Y X G 14 0 0 181 [some (qr G 122), some (.int (nI (g))), some (.int (nI (q))), some (.int (nI (w))), some (.long (lN (ab))), none, some (.long (lN (be))), none, some (.int (nI (s))), some (.long (lN (ptN q s (A 5 3)))), none, some (.int (bI (isB (A 5) g s (A 5 3) = true))), none, none] [] (hm G U i A B)) : ∀ (m k : Nat), k + m = A 5 3 → Y X G 14 0 0 104 [some (qr G 122), some (.int (nI (g))), some (.int (nI (q))), some (.int (nI (w))), some (.long (lN (ab))), none, some (.long (lN (be))), none, some (.int (nI (s))), some (.long (lN (ptN q s k))), none, some (.int (bI (isB (A 5) g s k = true))), some (.int (nI (k))), none] [] (hm G U i A B) := by
  have v0 := hV.1
  have v1 := hV.2.1
  have v2 := hV.2.2.1
  have v3 := hV.2.2.2.1
  have v5 := hV.k64
  have hB : ∀ k, A 5 k < 2000 := fun k => hV.lt (by omega) k
  intro m
  induction m with
  | zero =>
    intro k hk
    obtain rfl : k = A 5 3 := by omega
    refine y_iload C D_X7_awake_104 rfl ?_
    refine y_aload_n C D_X7_awake_106 rfl ?_
    refine y_get C D_X7_awake_107 fl_X7_19 (hm_o hU) rfl ?_
    refine y_iconst C D_X7_awake_110 ki_3 ?_
    refine z_ild C D_X7_awake_111 (hm_st hU) (by omega) (by decide) rfl ?_
    refine y_icmp_ge C D_X7_awake_112 (n_le (by omega) (by omega)) (fun c_112 => ?_) (fun c_112 => absurd (Nat.le_refl _) c_112)
    refine y_fg 12 ?_
    exact K
  | succ m ih =>
    intro k hk
    have z := ih (k + 1) (by omega)
    refine y_iload C D_X7_awake_104 rfl ?_
    refine y_aload_n C D_X7_awake_106 rfl ?_
    refine y_get C D_X7_awake_107 fl_X7_19 (hm_o hU) rfl ?_
    refine y_iconst C D_X7_awake_110 ki_3 ?_
    refine z_ild C D_X7_awake_111 (hm_st hU) (by omega) (by decide) rfl ?_
    refine y_icmp_ge C D_X7_awake_112 (n_le (by omega) (by omega)) (fun c_112 => absurd c_112 (by omega)) (fun c_112 => ?_)
    refine y_lload C D_X7_awake_115 rfl ?_
    refine y_iload C D_X7_awake_117 rfl ?_
    refine y_iload C D_X7_awake_119 rfl ?_
    refine z_callS C D_X7_awake_121 lk_X7_142 (c_X7_has (by omega) (by omega)) rfl rfl (Nat.le_of_ble_eq_true rfl) (Nat.le_of_ble_eq_true rfl) ⟨Nat.zero_le _, Nat.zero_le _⟩ ?_
    refine z_ifeqB C D_X7_awake_124 (fun c_124 => ?_) (fun c_124 => ?_)
    · refine y_bipush C D_X7_awake_132 kb_10 ?_
      refine y_iload_n C D_X7_awake_134 rfl ?_
      refine z_isub C D_X7_awake_135 (by omega) ?_
      refine z_i2l C D_X7_awake_136 (by omega) ?_
      refine z_lmul C D_X7_awake_137 ?_
      refine y_lstore C D_X7_awake_138 (by decide) (qok_s rfl rfl) ?_
      refine y_iload C D_X7_awake_140 rfl ?_
      refine z_ifneB C D_X7_awake_142 (fun c_142 => ?_) (fun c_142 => ?_)
      · refine y_iconst C D_X7_awake_168 ki_1 ?_
        refine y_goto C D_X7_awake_169 ?_
        refine y_istore C D_X7_awake_173 (by decide) (qok_n rfl) ?_
        refine z_iinc (n := 1) C D_X7_awake_175 rfl (by decide) (qok_s rfl rfl) ?_
        refine y_goto C D_X7_awake_178 ?_
        have ep : ptN q s (k + 1) = ptN q s k * (10 - q) := by rw [ptN, if_neg c_124]
        rw [ep] at z
        rw [bI_1 (P := isB (A 5) g s (k + 1) = true) (by simp [isB, c_142])] at z
        exact z
      · refine y_iload C D_X7_awake_145 rfl ?_
        refine y_iload C D_X7_awake_147 rfl ?_
        refine z_callS C D_X7_awake_149 lk_X7_142 (c_X7_has (by omega) (by omega)) rfl rfl (Nat.le_of_ble_eq_true rfl) (Nat.le_of_ble_eq_true rfl) ⟨Nat.zero_le _, Nat.zero_le _⟩ ?_
        refine z_ifneB C D_X7_awake_152 (fun c_152 => ?_) (fun c_152 => ?_)
        · refine y_iconst C D_X7_awake_172 ki_0 ?_
          refine y_istore C D_X7_awake_173 (by decide) (qok_n rfl) ?_
          refine z_iinc (n := 1) C D_X7_awake_175 rfl (by decide) (qok_s rfl rfl) ?_
          refine y_goto C D_X7_awake_178 ?_
          exact absurd c_152 c_124
        · refine y_aload_n C D_X7_awake_155 rfl ?_
          refine y_iload C D_X7_awake_156 rfl ?_
          refine z_callV C D_X7_awake_158 lk_X7_152 (c_X7_dreams hU (by omega) v0.1 v0.2 hB v5) (hm_o hU) rfl rfl (Nat.le_of_ble_eq_true rfl) (Nat.le_of_ble_eq_true rfl) ⟨Nat.zero_le _, Nat.zero_le _⟩ ?_
          refine y_iload_n C D_X7_awake_161 rfl ?_
          refine z_callS C D_X7_awake_162 lk_X7_142 (c_X7_has (Nat.lt_of_lt_of_le (dr_lt v0.1 v0.2) (by decide)) (by omega)) rfl rfl (Nat.le_of_ble_eq_true rfl) (Nat.le_of_ble_eq_true rfl) ⟨Nat.zero_le _, Nat.zero_le _⟩ ?_
          refine z_ifeqB C D_X7_awake_165 (fun c_165 => ?_) (fun c_165 => ?_)
          · refine y_iconst C D_X7_awake_172 ki_0 ?_
            refine y_istore C D_X7_awake_173 (by decide) (qok_n rfl) ?_
            refine z_iinc (n := 1) C D_X7_awake_175 rfl (by decide) (qok_s rfl rfl) ?_
            refine y_goto C D_X7_awake_178 ?_
            have ep : ptN q s (k + 1) = ptN q s k * (10 - q) := by rw [ptN, if_neg c_124]
            rw [ep] at z
            rw [bI_0 (P := isB (A 5) g s (k + 1) = true) (by simp [isB, c_142, c_165])] at z
            exact z
          · refine y_iconst C D_X7_awake_168 ki_1 ?_
            refine y_goto C D_X7_awake_169 ?_
            refine y_istore C D_X7_awake_173 (by decide) (qok_n rfl) ?_
            refine z_iinc (n := 1) C D_X7_awake_175 rfl (by decide) (qok_s rfl rfl) ?_
            refine y_goto C D_X7_awake_178 ?_
            have ep : ptN q s (k + 1) = ptN q s k * (10 - q) := by rw [ptN, if_neg c_124]
            rw [ep] at z
            rw [bI_1 (P := isB (A 5) g s (k + 1) = true) (by simp [isB, c_124]; exact Or.inr c_165)] at z
            exact z
    · refine y_iload_n C D_X7_awake_127 rfl ?_
      refine z_i2l C D_X7_awake_128 (by omega) ?_
      refine y_goto C D_X7_awake_129 ?_
      refine z_lmul C D_X7_awake_137 ?_
      refine y_lstore C D_X7_awake_138 (by decide) (qok_s rfl rfl) ?_
      refine y_iload C D_X7_awake_140 rfl ?_
      refine z_ifneB C D_X7_awake_142 (fun c_142 => ?_) (fun c_142 => ?_)
      · refine y_iconst C D_X7_awake_168 ki_1 ?_
        refine y_goto C D_X7_awake_169 ?_
        refine y_istore C D_X7_awake_173 (by decide) (qok_n rfl) ?_
        refine z_iinc (n := 1) C D_X7_awake_175 rfl (by decide) (qok_s rfl rfl) ?_
        refine y_goto C D_X7_awake_178 ?_
        have ep : ptN q s (k + 1) = ptN q s k * q := by rw [ptN, if_pos c_124]
        rw [ep] at z
        rw [bI_1 (P := isB (A 5) g s (k + 1) = true) (by simp [isB, c_142])] at z
        exact z
      · refine y_iload C D_X7_awake_145 rfl ?_
        refine y_iload C D_X7_awake_147 rfl ?_
        refine z_callS C D_X7_awake_149 lk_X7_142 (c_X7_has (by omega) (by omega)) rfl rfl (Nat.le_of_ble_eq_true rfl) (Nat.le_of_ble_eq_true rfl) ⟨Nat.zero_le _, Nat.zero_le _⟩ ?_
        refine z_ifneB C D_X7_awake_152 (fun c_152 => ?_) (fun c_152 => ?_)
        · refine y_iconst C D_X7_awake_172 ki_0 ?_
          refine y_istore C D_X7_awake_173 (by decide) (qok_n rfl) ?_
          refine z_iinc (n := 1) C D_X7_awake_175 rfl (by decide) (qok_s rfl rfl) ?_
          refine y_goto C D_X7_awake_178 ?_
          have ep : ptN q s (k + 1) = ptN q s k * q := by rw [ptN, if_pos c_124]
          rw [ep] at z
          rw [bI_0 (P := isB (A 5) g s (k + 1) = true) (by simp [isB, c_142, c_124])] at z
          exact z
        · refine y_aload_n C D_X7_awake_155 rfl ?_
          refine y_iload C D_X7_awake_156 rfl ?_
          refine z_callV C D_X7_awake_158 lk_X7_152 (c_X7_dreams hU (by omega) v0.1 v0.2 hB v5) (hm_o hU) rfl rfl (Nat.le_of_ble_eq_true rfl) (Nat.le_of_ble_eq_true rfl) ⟨Nat.zero_le _, Nat.zero_le _⟩ ?_
          refine y_iload_n C D_X7_awake_161 rfl ?_
          refine z_callS C D_X7_awake_162 lk_X7_142 (c_X7_has (Nat.lt_of_lt_of_le (dr_lt v0.1 v0.2) (by decide)) (by omega)) rfl rfl (Nat.le_of_ble_eq_true rfl) (Nat.le_of_ble_eq_true rfl) ⟨Nat.zero_le _, Nat.zero_le _⟩ ?_
          refine z_ifeqB C D_X7_awake_165 (fun c_165 => ?_) (fun c_165 => ?_)
          · refine y_iconst C D_X7_awake_172 ki_0 ?_
            refine y_istore C D_X7_awake_173 (by decide) (qok_n rfl) ?_
            refine z_iinc (n := 1) C D_X7_awake_175 rfl (by decide) (qok_s rfl rfl) ?_
            refine y_goto C D_X7_awake_178 ?_
            exact absurd c_124 c_152
          · refine y_iconst C D_X7_awake_168 ki_1 ?_
            refine y_goto C D_X7_awake_169 ?_
            refine y_istore C D_X7_awake_173 (by decide) (qok_n rfl) ?_
            refine z_iinc (n := 1) C D_X7_awake_175 rfl (by decide) (qok_s rfl rfl) ?_
            refine y_goto C D_X7_awake_178 ?_
            exact absurd c_124 c_152
theorem lp_X7_awake_82 {X : qX} {g q w : Nat} (hU : U.length = 122) (hV : Va (A 5)) (h4 : A 5 4 < 1999) (hg1 : g < A 5 0) (hq : q ≤ 10) (C : qC X G cX7_awake 14 RX7 3) (K : Y X G 14 0 0 216 [some (qr G 122), some (.int (nI (g))), some (.int (nI (q))), some (.int (nI (w))), some (.long (lN (abN (A 5) g q (2 ^ A 5 3)))), none, some (.long (lN (10 ^ A 5 3))), none, none, none, none, none, none, none] [] (hm G U i A B)) : ∀ (m s : Nat), s + m = 2 ^ A 5 3 → Y X G 14 0 0 82 [some (qr G 122), some (.int (nI (g))), some (.int (nI (q))), some (.int (nI (w))), some (.long (lN (abN (A 5) g q s))), none, some (.long (lN (10 ^ A 5 3))), none, some (.int (nI (s))), none, none, none, none, none] [] (hm G U i A B) := by
  have v0 := hV.1
  have v1 := hV.2.1
  have v2 := hV.2.2.1
  have v3 := hV.2.2.2.1
  have v5 := hV.k64
  have hB : ∀ k, A 5 k < 2000 := fun k => hV.lt (by omega) k
  have h32 : 2 ^ A 5 3 ≤ 32 := Nat.pow_le_pow_right (by decide) v3.2
  intro m
  induction m with
  | zero =>
    intro s hs1
    obtain rfl : s = 2 ^ A 5 3 := by omega
    refine y_iload C D_X7_awake_82 rfl ?_
    refine y_iconst C D_X7_awake_84 ki_1 ?_
    refine y_aload_n C D_X7_awake_85 rfl ?_
    refine y_get C D_X7_awake_86 fl_X7_19 (hm_o hU) rfl ?_
    refine y_iconst C D_X7_awake_89 ki_3 ?_
    refine z_ild C D_X7_awake_90 (hm_st hU) (by omega) (by decide) rfl ?_
    refine z_ishl1 C D_X7_awake_91 (by omega) ?_
    refine y_icmp_ge C D_X7_awake_92 (n_le (by omega) (by omega)) (fun c_92 => ?_) (fun c_92 => absurd (Nat.le_refl _) c_92)
    refine y_fg 8 ?_
    exact K
  | succ m ih =>
    intro s hs1
    have z := ih (s + 1) (by omega)
    have K2 : Y X G 14 0 0 181 [some (qr G 122), some (.int (nI (g))), some (.int (nI (q))), some (.int (nI (w))), some (.long (lN (abN (A 5) g q s))), none, some (.long (lN (10 ^ A 5 3))), none, some (.int (nI (s))), some (.long (lN (ptN q s (A 5 3)))), none, some (.int (bI (isB (A 5) g s (A 5 3) = true))), none, none] [] (hm G U i A B) := by
      refine y_lload C D_X7_awake_181 rfl ?_
      refine y_iload C D_X7_awake_183 rfl ?_
      refine z_ifeqB C D_X7_awake_185 (fun c_185 => ?_) (fun c_185 => ?_)
      · refine y_lconst (v := lN 0) C D_X7_awake_206 rfl ?_
        refine z_ladd C D_X7_awake_207 ?_
        refine y_lstore C D_X7_awake_208 (by decide) (qok_s rfl rfl) ?_
        refine z_iinc (n := 1) C D_X7_awake_210 rfl (by decide) (qok_n rfl) ?_
        refine y_goto C D_X7_awake_213 ?_
        have ea : abN (A 5) g q (s + 1) = abN (A 5) g q s + 0 := by rw [abN, if_neg (fun h => c_185 h.1)]
        rw [ea] at z
        refine y_fg 9 (y_fg 11 ?_)
        exact z
      · refine y_aload_n C D_X7_awake_188 rfl ?_
        refine y_get C D_X7_awake_189 fl_X7_19 (hm_o hU) rfl ?_
        refine y_iconst C D_X7_awake_192 ki_5 ?_
        refine z_ild C D_X7_awake_193 (hm_st hU) (by omega) (by decide) rfl ?_
        refine y_iload_n C D_X7_awake_194 rfl ?_
        refine z_callS C D_X7_awake_195 lk_X7_142 (c_X7_has (by omega) (by omega)) rfl rfl (Nat.le_of_ble_eq_true rfl) (Nat.le_of_ble_eq_true rfl) ⟨Nat.zero_le _, Nat.zero_le _⟩ ?_
        refine z_ifeqB C D_X7_awake_198 (fun c_198 => ?_) (fun c_198 => ?_)
        · refine y_lconst (v := lN 0) C D_X7_awake_206 rfl ?_
          refine z_ladd C D_X7_awake_207 ?_
          refine y_lstore C D_X7_awake_208 (by decide) (qok_s rfl rfl) ?_
          refine z_iinc (n := 1) C D_X7_awake_210 rfl (by decide) (qok_n rfl) ?_
          refine y_goto C D_X7_awake_213 ?_
          have ea : abN (A 5) g q (s + 1) = abN (A 5) g q s + 0 := by rw [abN, if_neg (fun h => c_198 h.2)]
          rw [ea] at z
          refine y_fg 9 (y_fg 11 ?_)
          exact z
        · refine y_lload C D_X7_awake_201 rfl ?_
          refine y_goto C D_X7_awake_203 ?_
          refine z_ladd C D_X7_awake_207 ?_
          refine y_lstore C D_X7_awake_208 (by decide) (qok_s rfl rfl) ?_
          refine z_iinc (n := 1) C D_X7_awake_210 rfl (by decide) (qok_n rfl) ?_
          refine y_goto C D_X7_awake_213 ?_
          have ea : abN (A 5) g q (s + 1) = abN (A 5) g q s + ptN q s (A 5 3) := by rw [abN, if_pos ⟨c_185, c_198⟩]
          rw [ea] at z
          refine y_fg 9 (y_fg 11 ?_)
          exact z
    refine y_iload C D_X7_awake_82 rfl ?_
    refine y_iconst C D_X7_awake_84 ki_1 ?_
    refine y_aload_n C D_X7_awake_85 rfl ?_
    refine y_get C D_X7_awake_86 fl_X7_19 (hm_o hU) rfl ?_
    refine y_iconst C D_X7_awake_89 ki_3 ?_
    refine z_ild C D_X7_awake_90 (hm_st hU) (by omega) (by decide) rfl ?_
    refine z_ishl1 C D_X7_awake_91 (by omega) ?_
    refine y_icmp_ge C D_X7_awake_92 (n_le (by omega) (by omega)) (fun c_92 => absurd c_92 (by omega)) (fun c_92 => ?_)
    refine y_lconst (v := lN 1) C D_X7_awake_95 rfl ?_
    refine y_lstore C D_X7_awake_96 (by decide) (qok_s rfl rfl) ?_
    refine y_iconst C D_X7_awake_98 ki_0 ?_
    refine y_istore C D_X7_awake_99 (by decide) (qok_n rfl) ?_
    refine y_iconst C D_X7_awake_101 ki_0 ?_
    refine y_istore C D_X7_awake_102 (by decide) (qok_s rfl rfl) ?_
    have w2 := lp_X7_awake_104 hU hV h4 hg1 hq C (by omega) K2 (A 5 3) 0 (by omega)
    rw [bI_0 (P := isB (A 5) g s 0 = true) Bool.false_ne_true] at w2
    exact w2
theorem lp_X7_awake_224 {X : qX} {g q w : Nat} (hU : U.length = 122) (hV : Va (A 5)) (h4 : A 5 4 < 1999) (hg1 : g < A 5 0) (hq : q ≤ 10) (C : qC X G cX7_awake 14 RX7 3) {ab be : Nat} (K : ∀ d, d = Nat.gcd ab be → Y X G 14 0 0 249 [some (qr G 122), some (.int (nI (g))), some (.int (nI (q))), some (.int (nI (w))), some (.long (lN (ab))), none, some (.long (lN (be))), none, some (.long (lN (d))), none, none, none, none, none] [] (hm G U i A B)) : ∀ (n x y : Nat), y < n → x < 2 ^ 62 → y < 2 ^ 62 → Nat.gcd x y = Nat.gcd ab be → Y X G 14 0 0 224 [some (qr G 122), some (.int (nI (g))), some (.int (nI (q))), some (.int (nI (w))), some (.long (lN (ab))), none, some (.long (lN (be))), none, some (.long (lN (x))), none, some (.long (lN (y))), none, none, none] [] (hm G U i A B) := by
  intro n
  induction n with
  | zero => intro x y hy; omega
  | succ n ih =>
    intro x y hy hx62 hy62 hgc
    refine y_lload C D_X7_awake_224 rfl ?_
    refine y_lconst (v := lN 0) C D_X7_awake_226 rfl ?_
    refine y_lcmp C D_X7_awake_227 ?_
    refine y_if_eq C D_X7_awake_228 (z_lceq (by omega) (by omega)) (fun c_228 => ?_) (fun c_228 => ?_)
    · refine y_fg 10 ?_
      rw [c_228, Nat.gcd_zero_right] at hgc
      exact K x hgc
    · refine y_lload C D_X7_awake_231 rfl ?_
      refine y_lload C D_X7_awake_233 rfl ?_
      refine z_lrem C D_X7_awake_235 (by omega) (by omega) (by omega) ?_
      refine y_lstore C D_X7_awake_236 (by decide) (qok_n rfl) ?_
      refine y_lload C D_X7_awake_238 rfl ?_
      refine y_lstore C D_X7_awake_240 (by decide) (qok_n rfl) ?_
      refine y_lload C D_X7_awake_242 rfl ?_
      refine y_lstore C D_X7_awake_244 (by decide) (qok_n rfl) ?_
      refine y_goto C D_X7_awake_246 ?_
      have hr : x % y < y := Nat.mod_lt _ (by omega)
      refine y_fg 12 ?_
      exact ih y (x % y) (by omega) hy62 (by omega) ((gcd_step x y).trans hgc)
theorem c_X7_awake0 (hU : U.length = 122) {g q : Nat} (ht : i 4 = 1) (hV : Va (A 5)) (h4 : A 5 4 < 1999) (hg1 : g < A 5 0) (hq : q ≤ 10) : Ct l G yX7_awake 3 [qr G 122, .int (nI g), .int (nI q), .int (nI 0)] (hm G U i A B) (some (.long (lN ((abN (A 5) g q (2 ^ A 5 3)) / Nat.gcd (abN (A 5) g q (2 ^ A 5 3)) (10 ^ A 5 3))))) (hm G U i A B) := by
  refine ctm_intro (maxL := 14) kw_X7_awake (by decide) (by decide) [some (qr G 122), some (.int (nI g)), some (.int (nI q)), some (.int (nI 0)), none, none, none, none, none, none, none, none, none, none] rfl (Nat.le_of_ble_eq_true rfl) ?_
  intro X _ hcl hsl _ _ C E
  have v0 := hV.1
  have v1 := hV.2.1
  have v2 := hV.2.2.1
  have v3 := hV.2.2.2.1
  have v5 := hV.k64
  have hB : ∀ k, A 5 k < 2000 := fun k => hV.lt (by omega) k
  have h10 : 10 ^ A 5 3 ≤ 100000 := Nat.pow_le_pow_right (by decide) v3.2
  have h32 : 2 ^ A 5 3 ≤ 32 := Nat.pow_le_pow_right (by decide) v3.2
  have hp10 : 0 < 10 ^ A 5 3 := Nat.pow_pos (by decide)
  have hab : abN (A 5) g q (2 ^ A 5 3) ≤ 3200000 := Nat.le_trans (abN_le hq _) (Nat.mul_le_mul h32 h10)
  refine y_aload_n C D_X7_awake_0 rfl ?_
  refine y_get C D_X7_awake_1 fl_X7_135 (hm_o hU) rfl ?_
  refine y_if_ne C D_X7_awake_4 (n_eq0 (by omega)) (fun c_4 => ?_) (fun c_4 => absurd c_4 (by omega))
  refine y_aload_n C D_X7_awake_11 rfl ?_
  refine y_iload_n C D_X7_awake_12 rfl ?_
  refine z_callV C D_X7_awake_13 lk_X7_180 (c_X7_isGrave hU (by omega)) (hm_o hU) rfl rfl (Nat.le_of_ble_eq_true rfl) (Nat.le_of_ble_eq_true rfl) ⟨Nat.zero_le _, Nat.zero_le _⟩ ?_
  refine z_ifeqB C D_X7_awake_16 (fun c_16 => absurd (isx_n (by omega) hg1) c_16) (fun c_16 => ?_)
  refine y_iload_n C D_X7_awake_19 rfl ?_
  refine y_i2l C D_X7_awake_20 ?_
  refine y_lconst C D_X7_awake_21 rfl ?_
  refine y_ldc2 C D_X7_awake_22 lk_X7_233 ?_
  refine z_callS C D_X7_awake_25 lk_X7_57 (c_X7_in) rfl rfl (Nat.le_of_ble_eq_true rfl) (Nat.le_of_ble_eq_true rfl) ⟨Nat.zero_le _, Nat.zero_le _⟩ ?_
  refine y_top (bI_c (in_inr (y := 0) (z := 10) (a := 0) (b := 10) rfl rfl)) ?_
  refine z_ifeqB C D_X7_awake_28 (fun c_28 => absurd (inr_n (by decide) (by omega) hq) c_28) (fun c_28 => ?_)
  refine y_iload_n C D_X7_awake_31 rfl ?_
  refine y_i2l C D_X7_awake_32 ?_
  refine y_lconst C D_X7_awake_33 rfl ?_
  refine y_lconst C D_X7_awake_34 rfl ?_
  refine z_callS C D_X7_awake_35 lk_X7_57 (c_X7_in) rfl rfl (Nat.le_of_ble_eq_true rfl) (Nat.le_of_ble_eq_true rfl) ⟨Nat.zero_le _, Nat.zero_le _⟩ ?_
  refine y_top (bI_c (in_isx (z := 1) (n := 2) (by decide) rfl)) ?_
  refine z_ifneB C D_X7_awake_38 (fun c_38 => ?_) (fun c_38 => absurd (isx_n (by decide) (by decide)) c_38)
  refine y_lconst C D_X7_awake_45 rfl ?_
  refine y_lstore C D_X7_awake_46 (by decide) (qok_s rfl rfl) ?_
  refine y_lconst C D_X7_awake_48 rfl ?_
  refine y_lstore C D_X7_awake_49 (by decide) (qok_n rfl) ?_
  refine y_iconst C D_X7_awake_51 ki_0 ?_
  refine y_istore C D_X7_awake_52 (by decide) (qok_n rfl) ?_
  refine lp_X7_awake_54 hU hV h4 hg1 hq C ?_ (A 5 3) 0 (by omega)
  refine y_iconst C D_X7_awake_79 ki_0 ?_
  refine y_istore C D_X7_awake_80 (by decide) (qok_n rfl) ?_
  refine lp_X7_awake_82 hU hV h4 hg1 hq C ?_ (2 ^ A 5 3) 0 (by omega)
  refine y_lload C D_X7_awake_216 rfl ?_
  refine y_lstore C D_X7_awake_218 (by decide) (qok_n rfl) ?_
  refine y_lload C D_X7_awake_220 rfl ?_
  refine y_lstore C D_X7_awake_222 (by decide) (qok_n rfl) ?_
  refine lp_X7_awake_224 (ab := abN (A 5) g q (2 ^ A 5 3)) (be := 10 ^ A 5 3) hU hV h4 hg1 hq C (fun d hd => ?_) (10 ^ A 5 3 + 1) _ _ (by omega) (by omega) (by omega) rfl
  have hdp : 0 < d := by rw [hd]; exact Nat.gcd_pos_of_pos_right _ hp10
  have hdl : d ≤ 10 ^ A 5 3 := by rw [hd]; exact Nat.gcd_le_right _ hp10
  refine y_iload_n C D_X7_awake_249 rfl ?_
  refine z_ifne0 C D_X7_awake_250 ?_
  refine y_lload C D_X7_awake_253 rfl ?_
  refine y_lload C D_X7_awake_255 rfl ?_
  refine z_ldiv C D_X7_awake_257 (by omega) (by omega) (by omega) ?_
  refine y_goto C D_X7_awake_258 ?_
  exact y_lret C E D_X7_awake_266 (by rw [hd]) (rfl)
theorem c_X7_awake1 (hU : U.length = 122) {g q : Nat} (ht : i 4 = 1) (hV : Va (A 5)) (h4 : A 5 4 < 1999) (hg1 : g < A 5 0) (hq : q ≤ 10) : Ct l G yX7_awake 3 [qr G 122, .int (nI g), .int (nI q), .int (nI 1)] (hm G U i A B) (some (.long (lN ((10 ^ A 5 3) / Nat.gcd (abN (A 5) g q (2 ^ A 5 3)) (10 ^ A 5 3))))) (hm G U i A B) := by
  refine ctm_intro (maxL := 14) kw_X7_awake (by decide) (by decide) [some (qr G 122), some (.int (nI g)), some (.int (nI q)), some (.int (nI 1)), none, none, none, none, none, none, none, none, none, none] rfl (Nat.le_of_ble_eq_true rfl) ?_
  intro X _ hcl hsl _ _ C E
  have v0 := hV.1
  have v1 := hV.2.1
  have v2 := hV.2.2.1
  have v3 := hV.2.2.2.1
  have v5 := hV.k64
  have hB : ∀ k, A 5 k < 2000 := fun k => hV.lt (by omega) k
  have h10 : 10 ^ A 5 3 ≤ 100000 := Nat.pow_le_pow_right (by decide) v3.2
  have h32 : 2 ^ A 5 3 ≤ 32 := Nat.pow_le_pow_right (by decide) v3.2
  have hp10 : 0 < 10 ^ A 5 3 := Nat.pow_pos (by decide)
  have hab : abN (A 5) g q (2 ^ A 5 3) ≤ 3200000 := Nat.le_trans (abN_le hq _) (Nat.mul_le_mul h32 h10)
  refine y_aload_n C D_X7_awake_0 rfl ?_
  refine y_get C D_X7_awake_1 fl_X7_135 (hm_o hU) rfl ?_
  refine y_if_ne C D_X7_awake_4 (n_eq0 (by omega)) (fun c_4 => ?_) (fun c_4 => absurd c_4 (by omega))
  refine y_aload_n C D_X7_awake_11 rfl ?_
  refine y_iload_n C D_X7_awake_12 rfl ?_
  refine z_callV C D_X7_awake_13 lk_X7_180 (c_X7_isGrave hU (by omega)) (hm_o hU) rfl rfl (Nat.le_of_ble_eq_true rfl) (Nat.le_of_ble_eq_true rfl) ⟨Nat.zero_le _, Nat.zero_le _⟩ ?_
  refine z_ifeqB C D_X7_awake_16 (fun c_16 => absurd (isx_n (by omega) hg1) c_16) (fun c_16 => ?_)
  refine y_iload_n C D_X7_awake_19 rfl ?_
  refine y_i2l C D_X7_awake_20 ?_
  refine y_lconst C D_X7_awake_21 rfl ?_
  refine y_ldc2 C D_X7_awake_22 lk_X7_233 ?_
  refine z_callS C D_X7_awake_25 lk_X7_57 (c_X7_in) rfl rfl (Nat.le_of_ble_eq_true rfl) (Nat.le_of_ble_eq_true rfl) ⟨Nat.zero_le _, Nat.zero_le _⟩ ?_
  refine y_top (bI_c (in_inr (y := 0) (z := 10) (a := 0) (b := 10) rfl rfl)) ?_
  refine z_ifeqB C D_X7_awake_28 (fun c_28 => absurd (inr_n (by decide) (by omega) hq) c_28) (fun c_28 => ?_)
  refine y_iload_n C D_X7_awake_31 rfl ?_
  refine y_i2l C D_X7_awake_32 ?_
  refine y_lconst C D_X7_awake_33 rfl ?_
  refine y_lconst C D_X7_awake_34 rfl ?_
  refine z_callS C D_X7_awake_35 lk_X7_57 (c_X7_in) rfl rfl (Nat.le_of_ble_eq_true rfl) (Nat.le_of_ble_eq_true rfl) ⟨Nat.zero_le _, Nat.zero_le _⟩ ?_
  refine y_top (bI_c (in_isx (z := 1) (n := 2) (by decide) rfl)) ?_
  refine z_ifneB C D_X7_awake_38 (fun c_38 => ?_) (fun c_38 => absurd (isx_n (by decide) (by decide)) c_38)
  refine y_lconst C D_X7_awake_45 rfl ?_
  refine y_lstore C D_X7_awake_46 (by decide) (qok_s rfl rfl) ?_
  refine y_lconst C D_X7_awake_48 rfl ?_
  refine y_lstore C D_X7_awake_49 (by decide) (qok_n rfl) ?_
  refine y_iconst C D_X7_awake_51 ki_0 ?_
  refine y_istore C D_X7_awake_52 (by decide) (qok_n rfl) ?_
  refine lp_X7_awake_54 hU hV h4 hg1 hq C ?_ (A 5 3) 0 (by omega)
  refine y_iconst C D_X7_awake_79 ki_0 ?_
  refine y_istore C D_X7_awake_80 (by decide) (qok_n rfl) ?_
  refine lp_X7_awake_82 hU hV h4 hg1 hq C ?_ (2 ^ A 5 3) 0 (by omega)
  refine y_lload C D_X7_awake_216 rfl ?_
  refine y_lstore C D_X7_awake_218 (by decide) (qok_n rfl) ?_
  refine y_lload C D_X7_awake_220 rfl ?_
  refine y_lstore C D_X7_awake_222 (by decide) (qok_n rfl) ?_
  refine lp_X7_awake_224 (ab := abN (A 5) g q (2 ^ A 5 3)) (be := 10 ^ A 5 3) hU hV h4 hg1 hq C (fun d hd => ?_) (10 ^ A 5 3 + 1) _ _ (by omega) (by omega) (by omega) rfl
  have hdp : 0 < d := by rw [hd]; exact Nat.gcd_pos_of_pos_right _ hp10
  have hdl : d ≤ 10 ^ A 5 3 := by rw [hd]; exact Nat.gcd_le_right _ hp10
  refine y_iload_n C D_X7_awake_249 rfl ?_
  refine z_ifne1 C D_X7_awake_250 ?_
  refine y_lload C D_X7_awake_261 rfl ?_
  refine y_lload C D_X7_awake_263 rfl ?_
  refine z_ldiv C D_X7_awake_265 (by omega) (by omega) (by omega) ?_
  exact y_lret C E D_X7_awake_266 (by rw [hd]) (rfl)
end
