section
variable {l : Launch} {G : qG} {U : List va_E} {i : Nat → Nat} {A : Nat → Nat → Nat} {B : Nat → Nat → Int32} {h : List va_E}
theorem lp_X7_mostOf {X : qX} {r : Option Value} {p b : Nat} (hU : U.length = 122) (hp : p < 5) (h0 : A 5 0 ≤ 6) (hB : ∀ k, A 5 k < 2000) (hb : b < 64) (C : qC X G cX7_mostOf 6 RX7 1) (E : qE X G (some .int) 0 0 r (hm G U i A B)) (hr : r = some (.int (oI (mo (A 5) p b (A 5 0))))) : ∀ (n g : Nat), g + n = A 5 0 → Y X G 6 0 0 5 [some (qr G 122), some (.int (nI p)), some (.int (nI b)), some (.int (oI (mo (A 5) p b g))), some (.int (nI g)), none] [] (hm G U i A B) := by
  intro n
  induction n with
  | zero =>
    intro g hg
    obtain rfl : g = A 5 0 := by omega
    refine y_iload C D_X7_mostOf_5 rfl ?_
    refine y_aload_n C D_X7_mostOf_7 rfl ?_
    refine y_get C D_X7_mostOf_8 fl_X7_19 (hm_o hU) rfl ?_
    refine y_iconst C D_X7_mostOf_11 ki_0 ?_
    refine z_ild C D_X7_mostOf_12 (hm_st hU) (by omega) (by decide) rfl ?_
    have hb0 := hB 0
    refine y_icmp_ge C D_X7_mostOf_13 (n_le (by omega) (by omega)) (fun c_13 => ?_) (fun c_13 => absurd (Nat.le_refl _) c_13)
    refine y_iload_n C D_X7_mostOf_86 rfl ?_
    exact y_iret C E D_X7_mostOf_87 (hr.symm) (rfl)
  | succ n ih =>
    intro g hg
    have hb0 := hB 0
    have hb1 := hB 1
    have hbg : me (A 5) p g < 2000 := hB _
    rcases hm1 : mo (A 5) p b g with _ | q
    · refine y_iload C D_X7_mostOf_5 rfl ?_
      refine y_aload_n C D_X7_mostOf_7 rfl ?_
      refine y_get C D_X7_mostOf_8 fl_X7_19 (hm_o hU) rfl ?_
      refine y_iconst C D_X7_mostOf_11 ki_0 ?_
      refine z_ild C D_X7_mostOf_12 (hm_st hU) (by omega) (by decide) rfl ?_
      refine y_icmp_ge C D_X7_mostOf_13 (n_le (by omega) (by omega)) (fun c_13 => absurd c_13 (by omega)) (fun c_13 => ?_)
      refine y_iload_n C D_X7_mostOf_16 rfl ?_
      refine y_iload C D_X7_mostOf_17 rfl ?_
      refine z_callS C D_X7_mostOf_19 lk_X7_142 (c_X7_has (by omega) (by omega)) rfl rfl (Nat.le_of_ble_eq_true rfl) (Nat.le_of_ble_eq_true rfl) ⟨Nat.zero_le _, Nat.zero_le _⟩ ?_
      refine z_ifeqB C D_X7_mostOf_22 (fun c_22 => ?_) (fun c_22 => ?_)
      · refine y_iconst C D_X7_mostOf_45 ki_0 ?_
        refine y_istore C D_X7_mostOf_46 (by decide) (qok_s rfl rfl) ?_
        refine y_iload C D_X7_mostOf_48 rfl ?_
        refine z_ifeq0 C D_X7_mostOf_50 ?_
        refine y_iload_n C D_X7_mostOf_78 rfl ?_
        refine y_istore_n C D_X7_mostOf_79 (by decide) (qok_s rfl rfl) ?_
        refine z_iinc (n := 1) C D_X7_mostOf_80 rfl (by decide) (qok_s rfl rfl) ?_
        refine y_goto C D_X7_mostOf_83 ?_
        refine y_fg 5 ?_
        have e : mo (A 5) p b (g + 1) = none := by simp [mo, hm1, c_22]
        have z := ih (g + 1) (by omega)
        rw [e] at z
        exact z
      · refine y_aload_n C D_X7_mostOf_25 rfl ?_
        refine y_iload_n C D_X7_mostOf_26 rfl ?_
        refine y_iload C D_X7_mostOf_27 rfl ?_
        refine z_callV C D_X7_mostOf_29 lk_X7_146 (c_X7_memoryOf hU (by omega) (by omega)) (hm_o hU) rfl rfl (Nat.le_of_ble_eq_true rfl) (Nat.le_of_ble_eq_true rfl) ⟨Nat.zero_le _, Nat.zero_le _⟩ ?_
        refine y_aload_n C D_X7_mostOf_32 rfl ?_
        refine y_get C D_X7_mostOf_33 fl_X7_19 (hm_o hU) rfl ?_
        refine y_iconst C D_X7_mostOf_36 ki_1 ?_
        refine z_ild C D_X7_mostOf_37 (hm_st hU) (by omega) (by decide) rfl ?_
        refine y_icmp_lt C D_X7_mostOf_38 (n_lt (by omega) (by omega)) (fun c_38 => ?_) (fun c_38 => ?_)
        · refine y_iconst C D_X7_mostOf_45 ki_0 ?_
          refine y_istore C D_X7_mostOf_46 (by decide) (qok_s rfl rfl) ?_
          refine y_iload C D_X7_mostOf_48 rfl ?_
          refine z_ifeq0 C D_X7_mostOf_50 ?_
          refine y_iload_n C D_X7_mostOf_78 rfl ?_
          refine y_istore_n C D_X7_mostOf_79 (by decide) (qok_s rfl rfl) ?_
          refine z_iinc (n := 1) C D_X7_mostOf_80 rfl (by decide) (qok_s rfl rfl) ?_
          refine y_goto C D_X7_mostOf_83 ?_
          refine y_fg 5 ?_
          have e : mo (A 5) p b (g + 1) = none := by simp [mo, hm1, c_22, Nat.not_le.mpr c_38]
          have z := ih (g + 1) (by omega)
          rw [e] at z
          exact z
        · refine y_iconst C D_X7_mostOf_41 ki_1 ?_
          refine y_goto C D_X7_mostOf_42 ?_
          refine y_istore C D_X7_mostOf_46 (by decide) (qok_s rfl rfl) ?_
          refine y_iload C D_X7_mostOf_48 rfl ?_
          refine z_ifeq1 C D_X7_mostOf_50 ?_
          refine y_iload_n C D_X7_mostOf_53 rfl ?_
          refine z_ifltM C D_X7_mostOf_54 ?_
          refine y_iload C D_X7_mostOf_73 rfl ?_
          refine y_goto C D_X7_mostOf_75 ?_
          refine y_istore_n C D_X7_mostOf_79 (by decide) (qok_s rfl rfl) ?_
          refine z_iinc (n := 1) C D_X7_mostOf_80 rfl (by decide) (qok_s rfl rfl) ?_
          refine y_goto C D_X7_mostOf_83 ?_
          refine y_fg 5 ?_
          have e : mo (A 5) p b (g + 1) = some g := by simp [mo, hm1, c_22, Nat.not_lt.mp c_38]
          have z := ih (g + 1) (by omega)
          rw [e] at z
          exact z
    · have hq := mo_lt hm1
      have hbq : me (A 5) p q < 2000 := hB _
      refine y_iload C D_X7_mostOf_5 rfl ?_
      refine y_aload_n C D_X7_mostOf_7 rfl ?_
      refine y_get C D_X7_mostOf_8 fl_X7_19 (hm_o hU) rfl ?_
      refine y_iconst C D_X7_mostOf_11 ki_0 ?_
      refine z_ild C D_X7_mostOf_12 (hm_st hU) (by omega) (by decide) rfl ?_
      refine y_icmp_ge C D_X7_mostOf_13 (n_le (by omega) (by omega)) (fun c_13 => absurd c_13 (by omega)) (fun c_13 => ?_)
      refine y_iload_n C D_X7_mostOf_16 rfl ?_
      refine y_iload C D_X7_mostOf_17 rfl ?_
      refine z_callS C D_X7_mostOf_19 lk_X7_142 (c_X7_has (by omega) (by omega)) rfl rfl (Nat.le_of_ble_eq_true rfl) (Nat.le_of_ble_eq_true rfl) ⟨Nat.zero_le _, Nat.zero_le _⟩ ?_
      refine z_ifeqB C D_X7_mostOf_22 (fun c_22 => ?_) (fun c_22 => ?_)
      · refine y_iconst C D_X7_mostOf_45 ki_0 ?_
        refine y_istore C D_X7_mostOf_46 (by decide) (qok_s rfl rfl) ?_
        refine y_iload C D_X7_mostOf_48 rfl ?_
        refine z_ifeq0 C D_X7_mostOf_50 ?_
        refine y_iload_n C D_X7_mostOf_78 rfl ?_
        refine y_istore_n C D_X7_mostOf_79 (by decide) (qok_s rfl rfl) ?_
        refine z_iinc (n := 1) C D_X7_mostOf_80 rfl (by decide) (qok_s rfl rfl) ?_
        refine y_goto C D_X7_mostOf_83 ?_
        refine y_fg 5 ?_
        have e : mo (A 5) p b (g + 1) = some q := by simp [mo, hm1, c_22]
        have z := ih (g + 1) (by omega)
        rw [e] at z
        exact z
      · refine y_aload_n C D_X7_mostOf_25 rfl ?_
        refine y_iload_n C D_X7_mostOf_26 rfl ?_
        refine y_iload C D_X7_mostOf_27 rfl ?_
        refine z_callV C D_X7_mostOf_29 lk_X7_146 (c_X7_memoryOf hU (by omega) (by omega)) (hm_o hU) rfl rfl (Nat.le_of_ble_eq_true rfl) (Nat.le_of_ble_eq_true rfl) ⟨Nat.zero_le _, Nat.zero_le _⟩ ?_
        refine y_aload_n C D_X7_mostOf_32 rfl ?_
        refine y_get C D_X7_mostOf_33 fl_X7_19 (hm_o hU) rfl ?_
        refine y_iconst C D_X7_mostOf_36 ki_1 ?_
        refine z_ild C D_X7_mostOf_37 (hm_st hU) (by omega) (by decide) rfl ?_
        refine y_icmp_lt C D_X7_mostOf_38 (n_lt (by omega) (by omega)) (fun c_38 => ?_) (fun c_38 => ?_)
        · refine y_iconst C D_X7_mostOf_45 ki_0 ?_
          refine y_istore C D_X7_mostOf_46 (by decide) (qok_s rfl rfl) ?_
          refine y_iload C D_X7_mostOf_48 rfl ?_
          refine z_ifeq0 C D_X7_mostOf_50 ?_
          refine y_iload_n C D_X7_mostOf_78 rfl ?_
          refine y_istore_n C D_X7_mostOf_79 (by decide) (qok_s rfl rfl) ?_
          refine z_iinc (n := 1) C D_X7_mostOf_80 rfl (by decide) (qok_s rfl rfl) ?_
          refine y_goto C D_X7_mostOf_83 ?_
          refine y_fg 5 ?_
          have e : mo (A 5) p b (g + 1) = some q := by simp [mo, hm1, c_22, Nat.not_le.mpr c_38]
          have z := ih (g + 1) (by omega)
          rw [e] at z
          exact z
        · refine y_iconst C D_X7_mostOf_41 ki_1 ?_
          refine y_goto C D_X7_mostOf_42 ?_
          refine y_istore C D_X7_mostOf_46 (by decide) (qok_s rfl rfl) ?_
          refine y_iload C D_X7_mostOf_48 rfl ?_
          refine z_ifeq1 C D_X7_mostOf_50 ?_
          refine y_iload_n C D_X7_mostOf_53 rfl ?_
          refine y_if_lt C D_X7_mostOf_54 (n_lt0 (by omega)) (fun q => q.elim) (fun _ => ?_)
          refine y_aload_n C D_X7_mostOf_57 rfl ?_
          refine y_iload_n C D_X7_mostOf_58 rfl ?_
          refine y_iload C D_X7_mostOf_59 rfl ?_
          refine z_callV C D_X7_mostOf_61 lk_X7_146 (c_X7_memoryOf hU (by omega) (by omega)) (hm_o hU) rfl rfl (Nat.le_of_ble_eq_true rfl) (Nat.le_of_ble_eq_true rfl) ⟨Nat.zero_le _, Nat.zero_le _⟩ ?_
          refine y_aload_n C D_X7_mostOf_64 rfl ?_
          refine y_iload_n C D_X7_mostOf_65 rfl ?_
          refine y_iload_n C D_X7_mostOf_66 rfl ?_
          refine z_callV C D_X7_mostOf_67 lk_X7_146 (c_X7_memoryOf hU (by omega) (by omega)) (hm_o hU) rfl rfl (Nat.le_of_ble_eq_true rfl) (Nat.le_of_ble_eq_true rfl) ⟨Nat.zero_le _, Nat.zero_le _⟩ ?_
          refine y_icmp_le C D_X7_mostOf_70 (n_le (by omega) (by omega)) (fun c_70 => ?_) (fun c_70 => ?_)
          · refine y_iload_n C D_X7_mostOf_78 rfl ?_
            refine y_istore_n C D_X7_mostOf_79 (by decide) (qok_s rfl rfl) ?_
            refine z_iinc (n := 1) C D_X7_mostOf_80 rfl (by decide) (qok_s rfl rfl) ?_
            refine y_goto C D_X7_mostOf_83 ?_
            refine y_fg 5 ?_
            have e : mo (A 5) p b (g + 1) = some q := by simp [mo, hm1, c_22, Nat.not_lt.mp c_38, Nat.not_lt.mpr c_70]
            have z := ih (g + 1) (by omega)
            rw [e] at z
            exact z
          · refine y_iload C D_X7_mostOf_73 rfl ?_
            refine y_goto C D_X7_mostOf_75 ?_
            refine y_istore_n C D_X7_mostOf_79 (by decide) (qok_s rfl rfl) ?_
            refine z_iinc (n := 1) C D_X7_mostOf_80 rfl (by decide) (qok_s rfl rfl) ?_
            refine y_goto C D_X7_mostOf_83 ?_
            refine y_fg 5 ?_
            have e : mo (A 5) p b (g + 1) = some g := by simp [mo, hm1, c_22, Nat.not_lt.mp c_38, Nat.not_le.mp c_70]
            have z := ih (g + 1) (by omega)
            rw [e] at z
            exact z
theorem c_X7_mostOf (hU : U.length = 122) {p b : Nat} (hp : p < 5) (h0 : A 5 0 ≤ 6) (hB : ∀ k, A 5 k < 2000) (hb : b < 64) : Ct l G yX7_mostOf 1 [qr G 122, .int (nI p), .int (nI b)] (hm G U i A B) (some (.int (oI (mo (A 5) p b (A 5 0))))) (hm G U i A B) := by
  refine ctm_intro (maxL := 6) kw_X7_mostOf (by decide) (by decide) [some (qr G 122), some (.int (nI p)), some (.int (nI b)), none, none, none] rfl (Nat.le_of_ble_eq_true rfl) ?_
  intro X _ hcl hsl _ _ C E
  refine y_iconst C D_X7_mostOf_0 ki_m1 ?_
  refine y_istore_n C D_X7_mostOf_1 (by decide) (qok_s rfl rfl) ?_
  refine y_iconst C D_X7_mostOf_2 ki_0 ?_
  refine y_istore C D_X7_mostOf_3 (by decide) (qok_s rfl rfl) ?_
  exact lp_X7_mostOf hU hp h0 hB hb C E rfl (A 5 0) 0 (by omega)
theorem lp_X7_dreams {X : qX} {r : Option Value} {p v2 s : Nat} {v3 : Int32} (hU : U.length = 122) (hp : p < 5) (h1 : 1 ≤ A 5 0) (h0 : A 5 0 ≤ 6) (hB : ∀ k, A 5 k < 2000) (h5 : A 5 5 < 64) (C : qC X G cX7_dreams 6 RX7 2) (E : qE X G (some .int) 0 0 r (hm G U i A B)) (hr : r = some (.int (nI (if A 5 (16 + p) = 1 then fset (A 5) p s (A 5 0) else s)))) : ∀ (n g : Nat), g + n = A 5 0 → (A 5 (16 + p) = 1 ∨ g = 0) → Y X G 6 0 0 139 [some (qr G 122), some (.int (nI p)), some (.int (nI v2)), some (.int v3), some (.int (nI (fset (A 5) p s g))), some (.int (nI g))] [] (hm G U i A B) := by
  have hb0 := hB 0
  have hbf := hB (16 + p)
  intro n
  induction n with
  | zero =>
    intro g hg hf
    obtain rfl : g = A 5 0 := by omega
    refine y_iload C D_X7_dreams_139 rfl ?_
    refine y_aload_n C D_X7_dreams_141 rfl ?_
    refine y_get C D_X7_dreams_142 fl_X7_19 (hm_o hU) rfl ?_
    refine y_iconst C D_X7_dreams_145 ki_0 ?_
    refine z_ild C D_X7_dreams_146 (hm_st hU) (by omega) (by decide) rfl ?_
    refine y_icmp_ge C D_X7_dreams_147 (n_le (by omega) (by omega)) (fun c_147 => ?_) (fun c_147 => absurd (Nat.le_refl _) c_147)
    refine y_iload C D_X7_dreams_206 rfl ?_
    exact y_iret C E D_X7_dreams_208 (by rw [hr, if_pos (hf.resolve_right (by omega))]) (rfl)
  | succ n ih =>
    intro g hg hf
    have hbg : me (A 5) p g < 2000 := hB _
    refine y_iload C D_X7_dreams_139 rfl ?_
    refine y_aload_n C D_X7_dreams_141 rfl ?_
    refine y_get C D_X7_dreams_142 fl_X7_19 (hm_o hU) rfl ?_
    refine y_iconst C D_X7_dreams_145 ki_0 ?_
    refine z_ild C D_X7_dreams_146 (hm_st hU) (by omega) (by decide) rfl ?_
    refine y_icmp_ge C D_X7_dreams_147 (n_le (by omega) (by omega)) (fun c_147 => absurd c_147 (by omega)) (fun c_147 => ?_)
    refine y_aload_n C D_X7_dreams_150 rfl ?_
    refine y_get C D_X7_dreams_151 fl_X7_19 (hm_o hU) rfl ?_
    refine y_bipush C D_X7_dreams_154 kb_16 ?_
    refine y_iload_n C D_X7_dreams_156 rfl ?_
    refine z_iadd C D_X7_dreams_157 ?_
    refine z_ild C D_X7_dreams_158 (hm_st hU) (by omega) (by decide) rfl ?_
    refine y_iconst C D_X7_dreams_159 ki_1 ?_
    refine y_icmp_ne C D_X7_dreams_160 (n_eq (by omega) (by omega)) (fun c_160 => ?_) (fun c_160 => ?_)
    · refine y_iload C D_X7_dreams_206 rfl ?_
      exact y_iret C E D_X7_dreams_208 (by rw [hr, if_neg c_160, hf.resolve_left c_160]; rfl) (rfl)
    · refine y_iload C D_X7_dreams_163 rfl ?_
      refine y_aload_n C D_X7_dreams_165 rfl ?_
      refine y_get C D_X7_dreams_166 fl_X7_19 (hm_o hU) rfl ?_
      refine y_iconst C D_X7_dreams_169 ki_5 ?_
      refine z_ild C D_X7_dreams_170 (hm_st hU) (by omega) (by decide) rfl ?_
      refine y_iload C D_X7_dreams_171 rfl ?_
      refine z_callS C D_X7_dreams_173 lk_X7_142 (c_X7_has (by omega) (by omega)) rfl rfl (Nat.le_of_ble_eq_true rfl) (Nat.le_of_ble_eq_true rfl) ⟨Nat.zero_le _, Nat.zero_le _⟩ ?_
      refine z_ifeqB C D_X7_dreams_176 (fun c_176 => ?_) (fun c_176 => ?_)
      · refine y_iconst C D_X7_dreams_196 ki_0 ?_
        refine z_ior C D_X7_dreams_197 ?_
        refine y_istore C D_X7_dreams_198 (by decide) (qok_s rfl rfl) ?_
        refine z_iinc (n := 1) C D_X7_dreams_200 rfl (by decide) (qok_s rfl rfl) ?_
        refine y_goto C D_X7_dreams_203 ?_
        have e : fset (A 5) p s (g + 1) = fset (A 5) p s g ||| 0 := by rw [fset, if_neg (fun z => c_176 z.1)]
        have z := ih (g + 1) (by omega) (Or.inl c_160)
        rw [e] at z
        exact z
      · refine y_aload_n C D_X7_dreams_179 rfl ?_
        refine y_iload_n C D_X7_dreams_180 rfl ?_
        refine y_iload C D_X7_dreams_181 rfl ?_
        refine z_callV C D_X7_dreams_183 lk_X7_146 (c_X7_memoryOf hU (by omega) (by omega)) (hm_o hU) rfl rfl (Nat.le_of_ble_eq_true rfl) (Nat.le_of_ble_eq_true rfl) ⟨Nat.zero_le _, Nat.zero_le _⟩ ?_
        refine y_if_le C D_X7_dreams_186 (n_le0 (by omega)) (fun c_186 => ?_) (fun c_186 => ?_)
        · refine y_iconst C D_X7_dreams_196 ki_0 ?_
          refine z_ior C D_X7_dreams_197 ?_
          refine y_istore C D_X7_dreams_198 (by decide) (qok_s rfl rfl) ?_
          refine z_iinc (n := 1) C D_X7_dreams_200 rfl (by decide) (qok_s rfl rfl) ?_
          refine y_goto C D_X7_dreams_203 ?_
          have e : fset (A 5) p s (g + 1) = fset (A 5) p s g ||| 0 := by rw [fset, if_neg (fun z => by omega)]
          have z := ih (g + 1) (by omega) (Or.inl c_160)
          rw [e] at z
          exact z
        · refine y_iconst C D_X7_dreams_189 ki_1 ?_
          refine y_iload C D_X7_dreams_190 rfl ?_
          refine z_ishl1 C D_X7_dreams_192 (by omega) ?_
          refine y_goto C D_X7_dreams_193 ?_
          refine z_ior C D_X7_dreams_197 ?_
          refine y_istore C D_X7_dreams_198 (by decide) (qok_s rfl rfl) ?_
          refine z_iinc (n := 1) C D_X7_dreams_200 rfl (by decide) (qok_s rfl rfl) ?_
          refine y_goto C D_X7_dreams_203 ?_
          have e : fset (A 5) p s (g + 1) = fset (A 5) p s g ||| 2 ^ g := by rw [fset, if_pos ⟨c_176, by omega⟩]
          have z := ih (g + 1) (by omega) (Or.inl c_160)
          rw [e] at z
          exact z
theorem c_X7_dreams {p : Nat} (hU : U.length = 122) (hp : p < 5) (h1 : 1 ≤ A 5 0) (h0 : A 5 0 ≤ 6) (hB : ∀ k, A 5 k < 2000) (h5 : A 5 5 < 64) : Ct l G yX7_dreams 2 [qr G 122, .int (nI p)] (hm G U i A B) (some (.int (nI (dr (A 5) p)))) (hm G U i A B) := by
  obtain ⟨r, hr⟩ : ∃ r, r = some (Value.int (nI (dr (A 5) p))) := ⟨_, rfl⟩
  rw [← hr]
  unfold dr at hr
  refine ctm_intro (maxL := 6) kw_X7_dreams (by decide) (by decide) [some (qr G 122), some (.int (nI p)), none, none, none, none] rfl (Nat.le_of_ble_eq_true rfl) ?_
  intro X _ hcl hsl _ _ C E
  have hb0 := hB 0
  have hbk := hB (6 + p)
  have hb4 := hB 4
  have hm0 : A 5 4 % A 5 0 < A 5 0 := Nat.mod_lt _ (by omega)
  refine y_aload_n C D_X7_dreams_0 rfl ?_
  refine y_get C D_X7_dreams_1 fl_X7_19 (hm_o hU) rfl ?_
  refine y_bipush C D_X7_dreams_4 kb_6 ?_
  refine y_iload_n C D_X7_dreams_6 rfl ?_
  refine z_iadd C D_X7_dreams_7 ?_
  refine z_ild C D_X7_dreams_8 (hm_st hU) (by omega) (by decide) rfl ?_
  refine y_istore_n C D_X7_dreams_9 (by decide) (qok_s rfl rfl) ?_
  refine y_aload_n C D_X7_dreams_10 rfl ?_
  refine y_iload_n C D_X7_dreams_11 rfl ?_
  refine y_aload_n C D_X7_dreams_12 rfl ?_
  refine y_get C D_X7_dreams_13 fl_X7_19 (hm_o hU) rfl ?_
  refine y_iconst C D_X7_dreams_16 ki_5 ?_
  refine z_ild C D_X7_dreams_17 (hm_st hU) (by omega) (by decide) rfl ?_
  refine z_callV C D_X7_dreams_18 lk_X7_149 (c_X7_mostOf hU (by omega) (by omega) hB (by omega)) (hm_o hU) rfl rfl (Nat.le_of_ble_eq_true rfl) (Nat.le_of_ble_eq_true rfl) ⟨Nat.zero_le _, Nat.zero_le _⟩ ?_
  refine y_istore_n C D_X7_dreams_21 (by decide) (qok_s rfl rfl) ?_
  refine y_iconst C D_X7_dreams_22 ki_0 ?_
  refine y_istore C D_X7_dreams_23 (by decide) (qok_s rfl rfl) ?_
  refine y_iload_n C D_X7_dreams_25 rfl ?_
  refine y_iconst C D_X7_dreams_26 ki_4 ?_
  refine y_icmp_lt C D_X7_dreams_27 (n_lt (by omega) (by omega)) (fun c_27 => ?_) (fun c_27 => ?_)
  · refine y_iload_n C D_X7_dreams_61 rfl ?_
    rcases hm1 : mo (A 5) p (A 5 5) (A 5 0) with _ | f
    · refine z_ifltM C D_X7_dreams_62 ?_
      refine y_iconst C D_X7_dreams_136 ki_0 ?_
      refine y_istore C D_X7_dreams_137 (by decide) (qok_s rfl rfl) ?_
      have HH : dset (A 5) p = 0 := by rw [dset, if_neg (by omega), hm1]
      rw [HH] at hr
      exact lp_X7_dreams hU hp h1 h0 hB h5 C E hr (A 5 0) 0 (by omega) (Or.inr rfl)
    · have hf := mo_lt hm1
      have hmf : (f + 1) % A 5 0 < A 5 0 := Nat.mod_lt _ (by omega)
      refine y_if_lt C D_X7_dreams_62 (n_lt0 (by omega)) (fun q => q.elim) (fun _ => ?_)
      refine y_iload_n C D_X7_dreams_65 rfl ?_
      refine y_iconst C D_X7_dreams_66 ki_3 ?_
      refine y_icmp_ne C D_X7_dreams_67 (n_eq (by omega) (by omega)) (fun c_67 => ?_) (fun c_67 => ?_)
      · refine y_iconst C D_X7_dreams_85 ki_1 ?_
        refine y_iload_n C D_X7_dreams_86 rfl ?_
        refine z_ishl1 C D_X7_dreams_87 (by omega) ?_
        refine y_istore C D_X7_dreams_88 (by decide) (qok_s rfl rfl) ?_
        refine y_iload_n C D_X7_dreams_90 rfl ?_
        refine y_iconst C D_X7_dreams_91 ki_2 ?_
        refine y_icmp_ne C D_X7_dreams_92 (n_eq (by omega) (by omega)) (fun c_92 => ?_) (fun c_92 => ?_)
        · refine y_iconst C D_X7_dreams_115 ki_m1 ?_
          refine y_istore C D_X7_dreams_116 (by decide) (qok_s rfl rfl) ?_
          refine y_iload C D_X7_dreams_118 rfl ?_
          refine y_iload C D_X7_dreams_120 rfl ?_
          refine z_ifgeM C D_X7_dreams_122 ?_
          refine y_iconst C D_X7_dreams_125 ki_0 ?_
          refine y_goto C D_X7_dreams_126 ?_
          refine z_ior C D_X7_dreams_133 ?_
          refine y_istore C D_X7_dreams_134 (by decide) (qok_s rfl rfl) ?_
          refine y_iconst C D_X7_dreams_136 ki_0 ?_
          refine y_istore C D_X7_dreams_137 (by decide) (qok_s rfl rfl) ?_
          have HH : dset (A 5) p = 2 ^ f ||| 0 := by rw [dset, if_neg (by omega), hm1]; simp only [if_neg c_67, if_neg c_92]
          rw [HH] at hr
          exact lp_X7_dreams hU hp h1 h0 hB h5 C E hr (A 5 0) 0 (by omega) (Or.inr rfl)
        · refine y_aload_n C D_X7_dreams_95 rfl ?_
          refine y_iload_n C D_X7_dreams_96 rfl ?_
          refine y_aload_n C D_X7_dreams_97 rfl ?_
          refine y_get C D_X7_dreams_98 fl_X7_19 (hm_o hU) rfl ?_
          refine y_iconst C D_X7_dreams_101 ki_5 ?_
          refine z_ild C D_X7_dreams_102 (hm_st hU) (by omega) (by decide) rfl ?_
          refine y_iconst C D_X7_dreams_103 ki_1 ?_
          refine y_iload_n C D_X7_dreams_104 rfl ?_
          refine z_ishl1 C D_X7_dreams_105 (by omega) ?_
          refine y_iconst C D_X7_dreams_106 ki_m1 ?_
          refine y_ixor C D_X7_dreams_107 ?_
          refine y_iand C D_X7_dreams_108 ?_
          have hcl2 := clr_lt _ h5 f (by omega)
          refine y_top (clr_eq _ h5 _ (by omega)) ?_
          refine z_callV C D_X7_dreams_109 lk_X7_149 (c_X7_mostOf hU (by omega) (by omega) hB (by omega)) (hm_o hU) rfl rfl (Nat.le_of_ble_eq_true rfl) (Nat.le_of_ble_eq_true rfl) ⟨Nat.zero_le _, Nat.zero_le _⟩ ?_
          refine y_goto C D_X7_dreams_112 ?_
          rcases hm2 : mo (A 5) p (clr (A 5 5) f) (A 5 0) with _ | q
          · refine y_istore C D_X7_dreams_116 (by decide) (qok_s rfl rfl) ?_
            refine y_iload C D_X7_dreams_118 rfl ?_
            refine y_iload C D_X7_dreams_120 rfl ?_
            refine z_ifgeM C D_X7_dreams_122 ?_
            refine y_iconst C D_X7_dreams_125 ki_0 ?_
            refine y_goto C D_X7_dreams_126 ?_
            refine z_ior C D_X7_dreams_133 ?_
            refine y_istore C D_X7_dreams_134 (by decide) (qok_s rfl rfl) ?_
            refine y_iconst C D_X7_dreams_136 ki_0 ?_
            refine y_istore C D_X7_dreams_137 (by decide) (qok_s rfl rfl) ?_
            have HH : dset (A 5) p = 2 ^ f ||| 0 := by rw [dset, if_neg (by omega), hm1]; simp only [if_neg c_67, if_pos c_92, hm2, two]
            rw [HH] at hr
            exact lp_X7_dreams hU hp h1 h0 hB h5 C E hr (A 5 0) 0 (by omega) (Or.inr rfl)
          · have hq := mo_lt hm2
            refine y_istore C D_X7_dreams_116 (by decide) (qok_s rfl rfl) ?_
            refine y_iload C D_X7_dreams_118 rfl ?_
            refine y_iload C D_X7_dreams_120 rfl ?_
            refine y_if_ge C D_X7_dreams_122 (n_ge0 (by omega)) (fun _ => ?_) (fun q => absurd trivial q)
            refine y_iconst C D_X7_dreams_129 ki_1 ?_
            refine y_iload C D_X7_dreams_130 rfl ?_
            refine z_ishl1 C D_X7_dreams_132 (by omega) ?_
            refine z_ior C D_X7_dreams_133 ?_
            refine y_istore C D_X7_dreams_134 (by decide) (qok_s rfl rfl) ?_
            refine y_iconst C D_X7_dreams_136 ki_0 ?_
            refine y_istore C D_X7_dreams_137 (by decide) (qok_s rfl rfl) ?_
            have HH : dset (A 5) p = 2 ^ f ||| 2 ^ q := by rw [dset, if_neg (by omega), hm1]; simp only [if_neg c_67, if_pos c_92, hm2, two]
            rw [HH] at hr
            exact lp_X7_dreams hU hp h1 h0 hB h5 C E hr (A 5 0) 0 (by omega) (Or.inr rfl)
      · refine y_iconst C D_X7_dreams_70 ki_1 ?_
        refine y_iload_n C D_X7_dreams_71 rfl ?_
        refine y_iconst C D_X7_dreams_72 ki_1 ?_
        refine z_iadd C D_X7_dreams_73 ?_
        refine y_aload_n C D_X7_dreams_74 rfl ?_
        refine y_get C D_X7_dreams_75 fl_X7_19 (hm_o hU) rfl ?_
        refine y_iconst C D_X7_dreams_78 ki_0 ?_
        refine z_ild C D_X7_dreams_79 (hm_st hU) (by omega) (by decide) rfl ?_
        refine z_irem C D_X7_dreams_80 (by omega) (by omega) (by omega) ?_
        refine z_ishl1 C D_X7_dreams_81 (by omega) ?_
        refine y_goto C D_X7_dreams_82 ?_
        refine y_istore C D_X7_dreams_88 (by decide) (qok_s rfl rfl) ?_
        refine y_iload_n C D_X7_dreams_90 rfl ?_
        refine y_iconst C D_X7_dreams_91 ki_2 ?_
        refine y_icmp_ne C D_X7_dreams_92 (n_eq (by omega) (by omega)) (fun c_92 => ?_) (fun c_92 => ?_)
        · refine y_iconst C D_X7_dreams_115 ki_m1 ?_
          refine y_istore C D_X7_dreams_116 (by decide) (qok_s rfl rfl) ?_
          refine y_iload C D_X7_dreams_118 rfl ?_
          refine y_iload C D_X7_dreams_120 rfl ?_
          refine z_ifgeM C D_X7_dreams_122 ?_
          refine y_iconst C D_X7_dreams_125 ki_0 ?_
          refine y_goto C D_X7_dreams_126 ?_
          refine z_ior C D_X7_dreams_133 ?_
          refine y_istore C D_X7_dreams_134 (by decide) (qok_s rfl rfl) ?_
          refine y_iconst C D_X7_dreams_136 ki_0 ?_
          refine y_istore C D_X7_dreams_137 (by decide) (qok_s rfl rfl) ?_
          have HH : dset (A 5) p = 2 ^ ((f + 1) % A 5 0) ||| 0 := by rw [dset, if_neg (by omega), hm1]; simp only [if_pos c_67, if_neg c_92]
          rw [HH] at hr
          exact lp_X7_dreams hU hp h1 h0 hB h5 C E hr (A 5 0) 0 (by omega) (Or.inr rfl)
        · refine y_aload_n C D_X7_dreams_95 rfl ?_
          refine y_iload_n C D_X7_dreams_96 rfl ?_
          refine y_aload_n C D_X7_dreams_97 rfl ?_
          refine y_get C D_X7_dreams_98 fl_X7_19 (hm_o hU) rfl ?_
          refine y_iconst C D_X7_dreams_101 ki_5 ?_
          refine z_ild C D_X7_dreams_102 (hm_st hU) (by omega) (by decide) rfl ?_
          refine y_iconst C D_X7_dreams_103 ki_1 ?_
          refine y_iload_n C D_X7_dreams_104 rfl ?_
          refine z_ishl1 C D_X7_dreams_105 (by omega) ?_
          refine y_iconst C D_X7_dreams_106 ki_m1 ?_
          refine y_ixor C D_X7_dreams_107 ?_
          refine y_iand C D_X7_dreams_108 ?_
          have hcl2 := clr_lt _ h5 f (by omega)
          refine y_top (clr_eq _ h5 _ (by omega)) ?_
          refine z_callV C D_X7_dreams_109 lk_X7_149 (c_X7_mostOf hU (by omega) (by omega) hB (by omega)) (hm_o hU) rfl rfl (Nat.le_of_ble_eq_true rfl) (Nat.le_of_ble_eq_true rfl) ⟨Nat.zero_le _, Nat.zero_le _⟩ ?_
          refine y_goto C D_X7_dreams_112 ?_
          rcases hm2 : mo (A 5) p (clr (A 5 5) f) (A 5 0) with _ | q
          · refine y_istore C D_X7_dreams_116 (by decide) (qok_s rfl rfl) ?_
            refine y_iload C D_X7_dreams_118 rfl ?_
            refine y_iload C D_X7_dreams_120 rfl ?_
            refine z_ifgeM C D_X7_dreams_122 ?_
            refine y_iconst C D_X7_dreams_125 ki_0 ?_
            refine y_goto C D_X7_dreams_126 ?_
            refine z_ior C D_X7_dreams_133 ?_
            refine y_istore C D_X7_dreams_134 (by decide) (qok_s rfl rfl) ?_
            refine y_iconst C D_X7_dreams_136 ki_0 ?_
            refine y_istore C D_X7_dreams_137 (by decide) (qok_s rfl rfl) ?_
            exact absurd c_67 (by omega)
          · have hq := mo_lt hm2
            refine y_istore C D_X7_dreams_116 (by decide) (qok_s rfl rfl) ?_
            refine y_iload C D_X7_dreams_118 rfl ?_
            refine y_iload C D_X7_dreams_120 rfl ?_
            refine y_if_ge C D_X7_dreams_122 (n_ge0 (by omega)) (fun _ => ?_) (fun q => absurd trivial q)
            refine y_iconst C D_X7_dreams_129 ki_1 ?_
            refine y_iload C D_X7_dreams_130 rfl ?_
            refine z_ishl1 C D_X7_dreams_132 (by omega) ?_
            refine z_ior C D_X7_dreams_133 ?_
            refine y_istore C D_X7_dreams_134 (by decide) (qok_s rfl rfl) ?_
            refine y_iconst C D_X7_dreams_136 ki_0 ?_
            refine y_istore C D_X7_dreams_137 (by decide) (qok_s rfl rfl) ?_
            exact absurd c_67 (by omega)
  · refine y_iconst C D_X7_dreams_30 ki_1 ?_
    refine y_aload_n C D_X7_dreams_31 rfl ?_
    refine y_get C D_X7_dreams_32 fl_X7_19 (hm_o hU) rfl ?_
    refine y_iconst C D_X7_dreams_35 ki_4 ?_
    refine z_ild C D_X7_dreams_36 (hm_st hU) (by omega) (by decide) rfl ?_
    refine y_aload_n C D_X7_dreams_37 rfl ?_
    refine y_get C D_X7_dreams_38 fl_X7_19 (hm_o hU) rfl ?_
    refine y_iconst C D_X7_dreams_41 ki_0 ?_
    refine z_ild C D_X7_dreams_42 (hm_st hU) (by omega) (by decide) rfl ?_
    refine z_irem C D_X7_dreams_43 (by omega) (by omega) (by omega) ?_
    refine z_ishl1 C D_X7_dreams_44 (by omega) ?_
    refine y_iload_n C D_X7_dreams_45 rfl ?_
    refine y_iconst C D_X7_dreams_46 ki_5 ?_
    refine y_icmp_ne C D_X7_dreams_47 (n_eq (by omega) (by omega)) (fun c_47 => ?_) (fun c_47 => ?_)
    · refine y_iconst C D_X7_dreams_54 ki_0 ?_
      refine z_ior C D_X7_dreams_55 ?_
      refine y_istore C D_X7_dreams_56 (by decide) (qok_s rfl rfl) ?_
      refine y_goto C D_X7_dreams_58 ?_
      refine y_iconst C D_X7_dreams_136 ki_0 ?_
      refine y_istore C D_X7_dreams_137 (by decide) (qok_s rfl rfl) ?_
      have HH : dset (A 5) p = 2 ^ (A 5 4 % A 5 0) ||| 0 := by rw [dset, if_pos (by omega), if_neg c_47]
      rw [HH] at hr
      exact lp_X7_dreams hU hp h1 h0 hB h5 C E hr (A 5 0) 0 (by omega) (Or.inr rfl)
    · refine y_iconst C D_X7_dreams_50 ki_1 ?_
      refine y_goto C D_X7_dreams_51 ?_
      refine z_ior C D_X7_dreams_55 ?_
      refine y_istore C D_X7_dreams_56 (by decide) (qok_s rfl rfl) ?_
      refine y_goto C D_X7_dreams_58 ?_
      refine y_iconst C D_X7_dreams_136 ki_0 ?_
      refine y_istore C D_X7_dreams_137 (by decide) (qok_s rfl rfl) ?_
      have HH : dset (A 5) p = 2 ^ (A 5 4 % A 5 0) ||| 1 := by rw [dset, if_pos (by omega), if_pos c_47]
      rw [HH] at hr
      exact lp_X7_dreams hU hp h1 h0 hB h5 C E hr (A 5 0) 0 (by omega) (Or.inr rfl)
end
