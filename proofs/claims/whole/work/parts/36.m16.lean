section
variable {l : Launch} {G : qG} {U : List va_E} {i : Nat → Nat} {A : Nat → Nat → Nat} {B : Nat → Nat → Int32} {h : List va_E}
theorem lp_X7_nextToken {X : qX} (hU : U.length = 122) (h8 : i 8 ≤ 120) (ht : ∀ k, A 7 k < 256) (C : qC X G cX7_nextToken 1 RX7 1) : ∀ (f s v : Nat), f + s = i 8 → v ≤ 999 → Y X G 1 0 0 119 [some (qr G 122)] [] (hm G U (va_up (va_up i 12 (dv (A 7) (i 8) f s v)) 10 (de (A 7) (i 8) f s)) A B) → Y X G 1 0 0 33 [some (qr G 122)] [] (hm G U (va_up (va_up i 12 (v)) 10 (s)) A B) := by
  intro f
  induction f with
  | zero =>
    intro s v hf hv K
    have q10 : va_up (va_up i 12 v) 10 s 10 = s := up_eq _ _ _
    have q8 : va_up (va_up i 12 v) 10 s 8 = i 8 := by rw [up_ne _ _ (by decide), up_ne _ _ (by decide)]
    refine y_aload_n C D_X7_nextToken_33 rfl ?_
    refine y_get C D_X7_nextToken_34 fl_X7_85 (hm_o hU) rfl ?_
    refine y_aload_n C D_X7_nextToken_37 rfl ?_
    refine y_get C D_X7_nextToken_38 fl_X7_81 (hm_o hU) rfl ?_
    refine y_icmp_ge C D_X7_nextToken_41 (n_le (by omega) (by omega)) (fun c_41 => ?_) (fun c_41 => absurd c_41 (by omega))
    exact K
  | succ f ih =>
    intro s v hf hv K
    have q10 : va_up (va_up i 12 v) 10 s 10 = s := up_eq _ _ _
    have q8 : va_up (va_up i 12 v) 10 s 8 = i 8 := by rw [up_ne _ _ (by decide), up_ne _ _ (by decide)]
    have q12 : va_up (va_up i 12 v) 10 s 12 = v := by rw [up_ne _ _ (by decide), up_eq]
    have r10 : ∀ a, va_up (va_up (va_up i 12 v) 10 s) 12 a 10 = s := fun a => by rw [up_ne _ _ (by decide), up_eq]
    have hts := ht s
    unfold dv de at K
    refine y_aload_n C D_X7_nextToken_33 rfl ?_
    refine y_get C D_X7_nextToken_34 fl_X7_85 (hm_o hU) rfl ?_
    refine y_aload_n C D_X7_nextToken_37 rfl ?_
    refine y_get C D_X7_nextToken_38 fl_X7_81 (hm_o hU) rfl ?_
    refine y_icmp_ge C D_X7_nextToken_41 (n_le (by omega) (by omega)) (fun c_41 => absurd c_41 (by omega)) (fun c_41 => ?_)
    refine y_aload_n C D_X7_nextToken_44 rfl ?_
    refine y_get C D_X7_nextToken_45 fl_X7_25 (hm_o hU) rfl ?_
    refine y_aload_n C D_X7_nextToken_48 rfl ?_
    refine y_get C D_X7_nextToken_49 fl_X7_85 (hm_o hU) rfl ?_
    rw [q10]
    refine z_ild C D_X7_nextToken_52 (hm_tape hU) (by omega) (by decide) rfl ?_
    refine y_i2l C D_X7_nextToken_53 ?_
    refine y_ldc2 C D_X7_nextToken_54 lk_X7_97 ?_
    refine y_ldc2 C D_X7_nextToken_57 lk_X7_99 ?_
    refine z_callS C D_X7_nextToken_60 lk_X7_57 (c_X7_in) rfl rfl (Nat.le_of_ble_eq_true rfl) (Nat.le_of_ble_eq_true rfl) ⟨Nat.zero_le _, Nat.zero_le _⟩ ?_
    refine y_top (bI_c ((in_inr (y := 48) (z := 57) (a := 48) (b := 57) rfl rfl).trans (inr_n' (by omega) (by decide) (by decide)))) ?_
    refine z_ifeqB C D_X7_nextToken_63 (fun c_63 => ?_) (fun c_63 => ?_)
    · rw [if_neg c_63, if_neg c_63] at K
      exact K
    · refine y_aload_n C D_X7_nextToken_66 rfl ?_
      refine y_aload_n C D_X7_nextToken_67 rfl ?_
      refine y_get C D_X7_nextToken_68 fl_X7_94 (hm_o hU) rfl ?_
      refine y_bipush C D_X7_nextToken_71 kb_99 ?_
      rw [q12]
      refine y_icmp_le C D_X7_nextToken_73 (n_le (by omega) (by omega)) (fun c_73 => ?_) (fun c_73 => ?_)
      · refine y_bipush C D_X7_nextToken_83 kb_10 ?_
        refine y_aload_n C D_X7_nextToken_85 rfl ?_
        refine y_get C D_X7_nextToken_86 fl_X7_94 (hm_o hU) rfl ?_
        rw [q12]
        refine z_imul C D_X7_nextToken_89 ?_
        refine y_aload_n C D_X7_nextToken_90 rfl ?_
        refine y_get C D_X7_nextToken_91 fl_X7_25 (hm_o hU) rfl ?_
        refine y_aload_n C D_X7_nextToken_94 rfl ?_
        refine y_get C D_X7_nextToken_95 fl_X7_85 (hm_o hU) rfl ?_
        rw [q10]
        refine z_ild C D_X7_nextToken_98 (hm_tape hU) (by omega) (by decide) rfl ?_
        refine z_iadd C D_X7_nextToken_99 ?_
        refine y_bipush C D_X7_nextToken_100 kb_48 ?_
        refine z_isub C D_X7_nextToken_102 (by omega) ?_
        refine y_put C D_X7_nextToken_103 fl_X7_94 (hm_o hU) (Nat.le_of_ble_eq_true rfl) rfl rfl (hm_pvalue hU _) ?_
        refine y_aload_n C D_X7_nextToken_106 rfl ?_
        refine y_dup C D_X7_nextToken_107 rfl ?_
        refine y_get C D_X7_nextToken_108 fl_X7_85 (hm_o hU) rfl ?_
        refine y_iconst C D_X7_nextToken_111 ki_1 ?_
        refine z_iadd C D_X7_nextToken_112 ?_
        refine y_put C D_X7_nextToken_113 fl_X7_85 (hm_o hU) (Nat.le_of_ble_eq_true rfl) rfl rfl (hm_pplace hU _) ?_
        refine y_goto C D_X7_nextToken_116 ?_
        rw [r10, upp]
        rw [if_pos c_63, if_pos c_63, if_pos c_73] at K
        exact ih (s + 1) _ (by omega) (by omega) K
      · refine y_aload_n C D_X7_nextToken_76 rfl ?_
        refine y_get C D_X7_nextToken_77 fl_X7_94 (hm_o hU) rfl ?_
        rw [q12]
        refine y_goto C D_X7_nextToken_80 ?_
        refine y_put C D_X7_nextToken_103 fl_X7_94 (hm_o hU) (Nat.le_of_ble_eq_true rfl) rfl rfl (hm_pvalue hU _) ?_
        refine y_aload_n C D_X7_nextToken_106 rfl ?_
        refine y_dup C D_X7_nextToken_107 rfl ?_
        refine y_get C D_X7_nextToken_108 fl_X7_85 (hm_o hU) rfl ?_
        refine y_iconst C D_X7_nextToken_111 ki_1 ?_
        refine z_iadd C D_X7_nextToken_112 ?_
        refine y_put C D_X7_nextToken_113 fl_X7_85 (hm_o hU) (Nat.le_of_ble_eq_true rfl) rfl rfl (hm_pplace hU _) ?_
        refine y_goto C D_X7_nextToken_116 ?_
        rw [r10, upp]
        rw [if_pos c_63, if_pos c_63, if_neg c_73] at K
        exact ih (s + 1) _ (by omega) (by omega) K
theorem c_X7_nextToken (hU : U.length = 122) (h10 : i 10 ≤ i 8) (h8 : i 8 ≤ 120) (ht : ∀ k, A 7 k < 256) : Ct l G yX7_nextToken 1 [qr G 122] (hm G U i A B) none (hm G U (tokS i (A 7) (i 8) (i 10)) A B) := by
  have hge := de_ge (A 7) (i 8) (i 8 - i 10) (i 10)
  have hle := de_le (A 7) (i 8) (i 8 - i 10) (i 10)
  have htp := ht (i 10)
  have K : ∀ (k0 : Nat) (j : Nat → Nat), (∀ k, (k < 10 ∨ 13 < k) → j k = i k) → j 13 = i 10 → j 11 = k0 → (k0 = if i 10 = i 8 then 3 else 0) → ∀ X : qX, qC X G cX7_nextToken 1 RX7 1 → qE X G none 0 0 none (hm G U (tokS i (A 7) (i 8) (i 10)) A B) → Y X G 1 0 0 119 [some (qr G 122)] [] (hm G U (va_up (va_up j 12 (dv (A 7) (i 8) (i 8 - i 10) (i 10) 0)) 10 (de (A 7) (i 8) (i 8 - i 10) (i 10))) A B) := by
    intro k0 j hj j13 j11 hk0 X C E
    have q10 : va_up (va_up j 12 (dv (A 7) (i 8) (i 8 - i 10) (i 10) 0)) 10 (de (A 7) (i 8) (i 8 - i 10) (i 10)) 10 = de (A 7) (i 8) (i 8 - i 10) (i 10) := up_eq _ _ _
    have q13 : va_up (va_up j 12 (dv (A 7) (i 8) (i 8 - i 10) (i 10) 0)) 10 (de (A 7) (i 8) (i 8 - i 10) (i 10)) 13 = i 10 := by rw [up_ne _ _ (by decide), up_ne _ _ (by decide), j13]
    have q11 : va_up (va_up j 12 (dv (A 7) (i 8) (i 8 - i 10) (i 10) 0)) 10 (de (A 7) (i 8) (i 8 - i 10) (i 10)) 11 = k0 := by rw [up_ne _ _ (by decide), up_ne _ _ (by decide), j11]
    have hkl : k0 < 4 := by rw [hk0]; split <;> omega
    refine y_aload_n C D_X7_nextToken_119 rfl ?_
    refine y_get C D_X7_nextToken_120 fl_X7_85 (hm_o hU) rfl ?_
    rw [q10]
    refine y_aload_n C D_X7_nextToken_123 rfl ?_
    refine y_get C D_X7_nextToken_124 fl_X7_88 (hm_o hU) rfl ?_
    rw [q13]
    refine y_icmp_le C D_X7_nextToken_127 (n_le (by omega) (by omega)) (fun c_127 => ?_) (fun c_127 => ?_)
    · have hde : de (A 7) (i 8) (i 8 - i 10) (i 10) = i 10 := by omega
      have hnd : ¬ i 10 < dE (A 7) (i 8) (i 10) := by show ¬ i 10 < de (A 7) (i 8) (i 8 - i 10) (i 10); omega
      refine y_aload_n C D_X7_nextToken_155 rfl ?_
      refine y_get C D_X7_nextToken_156 fl_X7_91 (hm_o hU) rfl ?_
      rw [q11]
      refine y_if_ne C D_X7_nextToken_159 (n_eq0 (by omega)) (fun c_159 => ?_) (fun c_159 => ?_)
      · exact y_vret C E D_X7_nextToken_229 (by have he : i 10 = i 8 := Decidable.byContradiction (fun z => c_159 (by rw [hk0, if_neg z])); exact congrArg (fun z => hm G U z A B) (tokS_of3 hj j13 (by rw [tkN, if_neg hnd, if_pos he, hde]) (by rw [j11, hk0, tkK, if_neg hnd, if_pos he, if_pos he]) (by rw [tkV, if_neg hnd, if_pos he, he, Nat.sub_self]; rfl)))
      · have hne : ¬ i 10 = i 8 := fun z => by rw [if_pos z] at hk0; omega
        refine y_aload_n C D_X7_nextToken_162 rfl ?_
        refine y_aload_n C D_X7_nextToken_163 rfl ?_
        refine y_get C D_X7_nextToken_164 fl_X7_25 (hm_o hU) rfl ?_
        refine y_aload_n C D_X7_nextToken_167 rfl ?_
        refine y_get C D_X7_nextToken_168 fl_X7_85 (hm_o hU) rfl ?_
        rw [q10, hde]
        refine z_ild C D_X7_nextToken_171 (hm_tape hU) (by omega) (by decide) rfl ?_
        refine y_put C D_X7_nextToken_172 fl_X7_94 (hm_o hU) (Nat.le_of_ble_eq_true rfl) rfl rfl (hm_pvalue hU _) ?_
        refine y_aload_n C D_X7_nextToken_175 rfl ?_
        refine y_aload_n C D_X7_nextToken_176 rfl ?_
        refine y_get C D_X7_nextToken_177 fl_X7_94 (hm_o hU) rfl ?_
        rw [up_eq]
        refine y_i2l C D_X7_nextToken_180 ?_
        refine y_ldc2 C D_X7_nextToken_181 lk_X7_101 ?_
        refine y_ldc2 C D_X7_nextToken_184 lk_X7_103 ?_
        refine z_callS C D_X7_nextToken_187 lk_X7_57 (c_X7_in) rfl rfl (Nat.le_of_ble_eq_true rfl) (Nat.le_of_ble_eq_true rfl) ⟨Nat.zero_le _, Nat.zero_le _⟩ ?_
        refine y_top (bI_c ((in_inr (y := 97) (z := 122) (a := 97) (b := 122) rfl rfl).trans (inr_n' (by omega) (by decide) (by decide)))) ?_
        refine z_ifneB C D_X7_nextToken_190 (fun c_190 => ?_) (fun c_190 => ?_)
        · refine y_iconst C D_X7_nextToken_211 ki_1 ?_
          refine y_goto C D_X7_nextToken_212 ?_
          refine y_put C D_X7_nextToken_216 fl_X7_91 (hm_o hU) (Nat.le_of_ble_eq_true rfl) rfl rfl (hm_ptoken hU _) ?_
          refine y_aload_n C D_X7_nextToken_219 rfl ?_
          refine y_dup C D_X7_nextToken_220 rfl ?_
          refine y_get C D_X7_nextToken_221 fl_X7_85 (hm_o hU) rfl ?_
          refine y_iconst C D_X7_nextToken_224 ki_1 ?_
          refine z_iadd C D_X7_nextToken_225 ?_
          refine y_put C D_X7_nextToken_226 fl_X7_85 (hm_o hU) (Nat.le_of_ble_eq_true rfl) rfl rfl (hm_pplace hU _) ?_
          exact y_vret C E D_X7_nextToken_229 (by rw [up12, show va_up (va_up (va_up j 10 (i 10)) 12 (A 7 (i 10))) 11 1 10 = i 10 by rw [up_ne _ _ (by decide), up_ne _ _ (by decide), up_eq]]; exact congrArg (fun z => hm G U z A B) (tokS_of (J := va_up j 10 (i 10)) (fun k hk => by rw [up_ne _ _ (by omega), hj k hk]) (by rw [up_ne _ _ (by decide), j13]) (by rw [tkN, if_neg hnd, if_neg hne]) (by rw [tkK, if_neg hnd, if_neg hne, if_pos (Or.inl c_190)]) (by rw [tkV, if_neg hnd, if_neg hne])))
        · refine y_aload_n C D_X7_nextToken_193 rfl ?_
          refine y_get C D_X7_nextToken_194 fl_X7_94 (hm_o hU) rfl ?_
          rw [up_eq]
          refine y_bipush C D_X7_nextToken_197 kb_44 ?_
          refine y_icmp_eq C D_X7_nextToken_199 (n_eq (by omega) (by omega)) (fun c_199 => ?_) (fun c_199 => ?_)
          · refine y_iconst C D_X7_nextToken_211 ki_1 ?_
            refine y_goto C D_X7_nextToken_212 ?_
            refine y_put C D_X7_nextToken_216 fl_X7_91 (hm_o hU) (Nat.le_of_ble_eq_true rfl) rfl rfl (hm_ptoken hU _) ?_
            refine y_aload_n C D_X7_nextToken_219 rfl ?_
            refine y_dup C D_X7_nextToken_220 rfl ?_
            refine y_get C D_X7_nextToken_221 fl_X7_85 (hm_o hU) rfl ?_
            refine y_iconst C D_X7_nextToken_224 ki_1 ?_
            refine z_iadd C D_X7_nextToken_225 ?_
            refine y_put C D_X7_nextToken_226 fl_X7_85 (hm_o hU) (Nat.le_of_ble_eq_true rfl) rfl rfl (hm_pplace hU _) ?_
            exact y_vret C E D_X7_nextToken_229 (by rw [up12, show va_up (va_up (va_up j 10 (i 10)) 12 (A 7 (i 10))) 11 1 10 = i 10 by rw [up_ne _ _ (by decide), up_ne _ _ (by decide), up_eq]]; exact congrArg (fun z => hm G U z A B) (tokS_of (J := va_up j 10 (i 10)) (fun k hk => by rw [up_ne _ _ (by omega), hj k hk]) (by rw [up_ne _ _ (by decide), j13]) (by rw [tkN, if_neg hnd, if_neg hne]) (by rw [tkK, if_neg hnd, if_neg hne, if_pos (Or.inr (Or.inl c_199))]) (by rw [tkV, if_neg hnd, if_neg hne])))
          · refine y_aload_n C D_X7_nextToken_202 rfl ?_
            refine y_get C D_X7_nextToken_203 fl_X7_94 (hm_o hU) rfl ?_
            rw [up_eq]
            refine y_bipush C D_X7_nextToken_206 kb_59 ?_
            refine y_icmp_ne C D_X7_nextToken_208 (n_eq (by omega) (by omega)) (fun c_208 => ?_) (fun c_208 => ?_)
            · refine y_iconst C D_X7_nextToken_215 ki_0 ?_
              refine y_put C D_X7_nextToken_216 fl_X7_91 (hm_o hU) (Nat.le_of_ble_eq_true rfl) rfl rfl (hm_ptoken hU _) ?_
              refine y_aload_n C D_X7_nextToken_219 rfl ?_
              refine y_dup C D_X7_nextToken_220 rfl ?_
              refine y_get C D_X7_nextToken_221 fl_X7_85 (hm_o hU) rfl ?_
              refine y_iconst C D_X7_nextToken_224 ki_1 ?_
              refine z_iadd C D_X7_nextToken_225 ?_
              refine y_put C D_X7_nextToken_226 fl_X7_85 (hm_o hU) (Nat.le_of_ble_eq_true rfl) rfl rfl (hm_pplace hU _) ?_
              exact y_vret C E D_X7_nextToken_229 (by rw [up12, show va_up (va_up (va_up j 10 (i 10)) 12 (A 7 (i 10))) 11 0 10 = i 10 by rw [up_ne _ _ (by decide), up_ne _ _ (by decide), up_eq]]; exact congrArg (fun z => hm G U z A B) (tokS_of (J := va_up j 10 (i 10)) (fun k hk => by rw [up_ne _ _ (by omega), hj k hk]) (by rw [up_ne _ _ (by decide), j13]) (by rw [tkN, if_neg hnd, if_neg hne]) (by rw [tkK, if_neg hnd, if_neg hne, if_neg (by omega)]) (by rw [tkV, if_neg hnd, if_neg hne])))
            · refine y_iconst C D_X7_nextToken_211 ki_1 ?_
              refine y_goto C D_X7_nextToken_212 ?_
              refine y_put C D_X7_nextToken_216 fl_X7_91 (hm_o hU) (Nat.le_of_ble_eq_true rfl) rfl rfl (hm_ptoken hU _) ?_
              refine y_aload_n C D_X7_nextToken_219 rfl ?_
              refine y_dup C D_X7_nextToken_220 rfl ?_
              refine y_get C D_X7_nextToken_221 fl_X7_85 (hm_o hU) rfl ?_
              refine y_iconst C D_X7_nextToken_224 ki_1 ?_
              refine z_iadd C D_X7_nextToken_225 ?_
              refine y_put C D_X7_nextToken_226 fl_X7_85 (hm_o hU) (Nat.le_of_ble_eq_true rfl) rfl rfl (hm_pplace hU _) ?_
              exact y_vret C E D_X7_nextToken_229 (by rw [up12, show va_up (va_up (va_up j 10 (i 10)) 12 (A 7 (i 10))) 11 1 10 = i 10 by rw [up_ne _ _ (by decide), up_ne _ _ (by decide), up_eq]]; exact congrArg (fun z => hm G U z A B) (tokS_of (J := va_up j 10 (i 10)) (fun k hk => by rw [up_ne _ _ (by omega), hj k hk]) (by rw [up_ne _ _ (by decide), j13]) (by rw [tkN, if_neg hnd, if_neg hne]) (by rw [tkK, if_neg hnd, if_neg hne, if_pos (Or.inr (Or.inr c_208))]) (by rw [tkV, if_neg hnd, if_neg hne])))
    · have hdg : i 10 < dE (A 7) (i 8) (i 10) := by show i 10 < de (A 7) (i 8) (i 8 - i 10) (i 10); omega
      refine y_aload_n C D_X7_nextToken_130 rfl ?_
      refine y_aload_n C D_X7_nextToken_131 rfl ?_
      refine y_get C D_X7_nextToken_132 fl_X7_85 (hm_o hU) rfl ?_
      rw [q10]
      refine y_aload_n C D_X7_nextToken_135 rfl ?_
      refine y_get C D_X7_nextToken_136 fl_X7_88 (hm_o hU) rfl ?_
      rw [q13]
      refine z_isub C D_X7_nextToken_139 (by omega) ?_
      refine y_iconst C D_X7_nextToken_140 ki_2 ?_
      refine y_icmp_le C D_X7_nextToken_141 (n_le (by omega) (by omega)) (fun c_141 => ?_) (fun c_141 => ?_)
      · refine y_iconst C D_X7_nextToken_148 ki_2 ?_
        refine y_put C D_X7_nextToken_149 fl_X7_91 (hm_o hU) (Nat.le_of_ble_eq_true rfl) rfl rfl (hm_ptoken hU _) ?_
        refine y_goto C D_X7_nextToken_152 ?_
        exact y_vret C E D_X7_nextToken_229 (congrArg (fun z => hm G U z A B) (tokS_of2 hj j13 (by rw [tkN, if_pos hdg]) (by rw [tkK, if_pos hdg, if_neg (by show ¬ 2 < de (A 7) (i 8) (i 8 - i 10) (i 10) - i 10; omega)]) (by rw [tkV, if_pos hdg])))
      · refine y_iconst C D_X7_nextToken_144 ki_0 ?_
        refine y_goto C D_X7_nextToken_145 ?_
        refine y_put C D_X7_nextToken_149 fl_X7_91 (hm_o hU) (Nat.le_of_ble_eq_true rfl) rfl rfl (hm_ptoken hU _) ?_
        refine y_goto C D_X7_nextToken_152 ?_
        exact y_vret C E D_X7_nextToken_229 (congrArg (fun z => hm G U z A B) (tokS_of2 hj j13 (by rw [tkN, if_pos hdg]) (by rw [tkK, if_pos hdg, if_pos (by show 2 < de (A 7) (i 8) (i 8 - i 10) (i 10) - i 10; omega)]) (by rw [tkV, if_pos hdg])))
  refine ctm_intro (maxL := 1) kw_X7_nextToken (by decide) (by decide) [some (qr G 122)] rfl (Nat.le_of_ble_eq_true rfl) ?_
  intro X _ hcl hsl _ _ C E
  have q10 : va_up i 13 (i 10) 10 = i 10 := up_ne _ _ (by decide)
  have q8 : va_up i 13 (i 10) 8 = i 8 := up_ne _ _ (by decide)
  refine y_aload_n C D_X7_nextToken_0 rfl ?_
  refine y_aload_n C D_X7_nextToken_1 rfl ?_
  refine y_get C D_X7_nextToken_2 fl_X7_85 (hm_o hU) rfl ?_
  refine y_put C D_X7_nextToken_5 fl_X7_88 (hm_o hU) (Nat.le_of_ble_eq_true rfl) rfl rfl (hm_pbegins hU _) ?_
  refine y_aload_n C D_X7_nextToken_8 rfl ?_
  refine y_aload_n C D_X7_nextToken_9 rfl ?_
  refine y_get C D_X7_nextToken_10 fl_X7_85 (hm_o hU) rfl ?_
  rw [q10]
  refine y_aload_n C D_X7_nextToken_13 rfl ?_
  refine y_get C D_X7_nextToken_14 fl_X7_81 (hm_o hU) rfl ?_
  rw [q8]
  refine y_icmp_ne C D_X7_nextToken_17 (n_eq (by omega) (by omega)) (fun c_17 => ?_) (fun c_17 => ?_)
  · refine y_iconst C D_X7_nextToken_24 ki_0 ?_
    refine y_put C D_X7_nextToken_25 fl_X7_91 (hm_o hU) (Nat.le_of_ble_eq_true rfl) rfl rfl (hm_ptoken hU _) ?_
    refine y_aload_n C D_X7_nextToken_28 rfl ?_
    refine y_iconst C D_X7_nextToken_29 ki_0 ?_
    refine y_put C D_X7_nextToken_30 fl_X7_94 (hm_o hU) (Nat.le_of_ble_eq_true rfl) rfl rfl (hm_pvalue hU _) ?_
    have e0 : va_up (va_up (va_up i 13 (i 10)) 11 0) 12 0 = va_up (va_up (va_up (va_up i 13 (i 10)) 11 0) 12 0) 10 (i 10) := by
      have e1 : va_up (va_up (va_up i 13 (i 10)) 11 0) 12 0 10 = i 10 := by rw [up_ne _ _ (by decide), up_ne _ _ (by decide), q10]
      exact (e1 ▸ up_id (va_up (va_up (va_up i 13 (i 10)) 11 0) 12 0) 10).symm
    rw [e0]
    refine lp_X7_nextToken hU (i := va_up (va_up i 13 (i 10)) 11 0) (by rw [up_ne _ _ (by decide), q8]; exact h8) ht C (i 8 - i 10) (i 10) 0 (by rw [up_ne _ _ (by decide), q8]; omega) (by decide) ?_
    rw [up_ne _ _ (by decide), q8]
    exact K 0 _ (fun k hk => by rw [up_ne _ _ (by omega), up_ne _ _ (by omega)]) (by rw [up_ne _ _ (by decide), up_eq]) (up_eq _ _ _) (by rw [if_neg c_17]) X C E
  · refine y_iconst C D_X7_nextToken_20 ki_3 ?_
    refine y_goto C D_X7_nextToken_21 ?_
    refine y_put C D_X7_nextToken_25 fl_X7_91 (hm_o hU) (Nat.le_of_ble_eq_true rfl) rfl rfl (hm_ptoken hU _) ?_
    refine y_aload_n C D_X7_nextToken_28 rfl ?_
    refine y_iconst C D_X7_nextToken_29 ki_0 ?_
    refine y_put C D_X7_nextToken_30 fl_X7_94 (hm_o hU) (Nat.le_of_ble_eq_true rfl) rfl rfl (hm_pvalue hU _) ?_
    have e0 : va_up (va_up (va_up i 13 (i 10)) 11 3) 12 0 = va_up (va_up (va_up (va_up i 13 (i 10)) 11 3) 12 0) 10 (i 10) := by
      have e1 : va_up (va_up (va_up i 13 (i 10)) 11 3) 12 0 10 = i 10 := by rw [up_ne _ _ (by decide), up_ne _ _ (by decide), q10]
      exact (e1 ▸ up_id (va_up (va_up (va_up i 13 (i 10)) 11 3) 12 0) 10).symm
    rw [e0]
    refine lp_X7_nextToken hU (i := va_up (va_up i 13 (i 10)) 11 3) (by rw [up_ne _ _ (by decide), q8]; exact h8) ht C (i 8 - i 10) (i 10) 0 (by rw [up_ne _ _ (by decide), q8]; omega) (by decide) ?_
    rw [up_ne _ _ (by decide), q8]
    exact K 3 _ (fun k hk => by rw [up_ne _ _ (by omega), up_ne _ _ (by omega)]) (by rw [up_ne _ _ (by decide), up_eq]) (up_eq _ _ _) (by rw [if_pos c_17]) X C E
end
