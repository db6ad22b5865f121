section
variable {l : Launch} {G : qG} {h : List va_E} {y : Nat → Nat} {c : Nat} {f : Nat → Nat}
theorem c_X0_give10 (ha : 99 < h.length) (hy : Yat G h 7 y) (hV : Va y) {s d : Nat} (hs1 : s < y 3) (hc : c ≤ 16) (hd : d ≤ 8) : Ct l G yX0_give 3 [qr G 98, .int (nI 10), qr G 7, .int (nI s), .int (nI d)] (ac G h c f) (some (.int (nI (mbn y s (y 0))))) (ac G h (bgC c [10]) (bgF c f [10])) := by
  refine ctm_intro (maxL := 6) kw_X0_give (by decide) (by decide) [some (qr G 98), some (.int (nI 10)), some (qr G 7), some (.int (nI s)), some (.int (nI d)), none] rfl (Nat.le_of_ble_eq_true rfl) ?_
  intro X _ hcl hsl _ _ C E
  have v3 := hV.2.2.2.1
  refine y_iload C D_X0_give_0 rfl ?_
  refine y_bipush C D_X0_give_2 kb_8 ?_
  refine y_icmp_le C D_X0_give_4 (n_le (by omega) (by omega)) (fun c_4 => ?_) (fun c_4 => absurd (by omega) c_4)
  refine y_aload_n C D_X0_give_9 rfl ?_
  refine y_iload_n C D_X0_give_10 rfl ?_
  refine z_callVv C D_X0_give_11 lk_X0_45 (c_X0_leave ha hc) (ac_o ha) rfl rfl (Nat.le_of_ble_eq_true rfl) (Nat.le_of_ble_eq_true rfl) ⟨Nat.zero_le _, Nat.zero_le _⟩ ?_
  refine y_iload C D_X0_give_14 rfl ?_
  refine y_iconst C D_X0_give_16 ki_1 ?_
  refine z_iadd C D_X0_give_17 ?_
  refine y_istore C D_X0_give_18 (by decide) (qok_s rfl rfl) ?_
  refine y_iload_n C D_X0_give_20 rfl ?_
  refine y_tabIn (off := 75) (tgt := 96) C D_X0_give_21 (by decide) (by decide) (by decide +kernel) (by decide) ?_
  refine y_aload_n C D_X0_give_96 rfl ?_
  refine y_iload_n C D_X0_give_97 rfl ?_
  refine z_callV C D_X0_give_98 lk_X0_49 ((hy.ac (c := bgC c [10]) (f := bgF c f [10]) (by decide)).eq ▸ c_X5_allMemoryOf (hy.ac (c := bgC c [10]) (f := bgF c f [10]) (by decide)).lt (by omega) hV) (hy.ac (by decide)).o rfl rfl (Nat.le_of_ble_eq_true rfl) (Nat.le_of_ble_eq_true rfl) ⟨Nat.zero_le _, Nat.zero_le _⟩ ?_
  exact y_iret C E D_X0_give_101 (rfl) (rfl)
theorem c_X0_give20 (ha : 99 < h.length) (hy : Yat G h 7 y) (hV : Va y) {s d : Nat} (hs1 : s < y 3) (hc : c ≤ 16) (hd : d ≤ 8) : Ct l G yX0_give 1 [qr G 98, .int (nI 20), qr G 7, .int (nI s), .int (nI d)] (ac G h c f) (some (.int (nI s))) (ac G h (bgC c [20]) (bgF c f [20])) := by
  refine ctm_intro (maxL := 6) kw_X0_give (by decide) (by decide) [some (qr G 98), some (.int (nI 20)), some (qr G 7), some (.int (nI s)), some (.int (nI d)), none] rfl (Nat.le_of_ble_eq_true rfl) ?_
  intro X _ hcl hsl _ _ C E
  have v3 := hV.2.2.2.1
  refine y_iload C D_X0_give_0 rfl ?_
  refine y_bipush C D_X0_give_2 kb_8 ?_
  refine y_icmp_le C D_X0_give_4 (n_le (by omega) (by omega)) (fun c_4 => ?_) (fun c_4 => absurd (by omega) c_4)
  refine y_aload_n C D_X0_give_9 rfl ?_
  refine y_iload_n C D_X0_give_10 rfl ?_
  refine z_callVv C D_X0_give_11 lk_X0_45 (c_X0_leave ha hc) (ac_o ha) rfl rfl (Nat.le_of_ble_eq_true rfl) (Nat.le_of_ble_eq_true rfl) ⟨Nat.zero_le _, Nat.zero_le _⟩ ?_
  refine y_iload C D_X0_give_14 rfl ?_
  refine y_iconst C D_X0_give_16 ki_1 ?_
  refine z_iadd C D_X0_give_17 ?_
  refine y_istore C D_X0_give_18 (by decide) (qok_s rfl rfl) ?_
  refine y_iload_n C D_X0_give_20 rfl ?_
  refine y_tabIn (off := 141) (tgt := 162) C D_X0_give_21 (by decide) (by decide) (by decide +kernel) (by decide) ?_
  refine y_iload_n C D_X0_give_162 rfl ?_
  exact y_iret C E D_X0_give_163 (rfl) (rfl)
theorem c_X0_give13 (ha : 99 < h.length) (hy : Yat G h 7 y) (hV : Va y) {s d : Nat} (hs1 : s < y 3) (hc : c ≤ 16) (hd : d ≤ 7) : Ct l G yX0_give 4 [qr G 98, .int (nI 13), qr G 7, .int (nI s), .int (nI d)] (ac G h c f) (some (.int (nI (mbn y s (y 0)) - nI 100))) (ac G h (bgC c [13, 10]) (bgF c f [13, 10])) := by
  refine ctm_intro (maxL := 6) kw_X0_give (by decide) (by decide) [some (qr G 98), some (.int (nI 13)), some (qr G 7), some (.int (nI s)), some (.int (nI d)), none] rfl (Nat.le_of_ble_eq_true rfl) ?_
  intro X _ hcl hsl _ _ C E
  have v3 := hV.2.2.2.1
  refine y_iload C D_X0_give_0 rfl ?_
  refine y_bipush C D_X0_give_2 kb_8 ?_
  refine y_icmp_le C D_X0_give_4 (n_le (by omega) (by omega)) (fun c_4 => ?_) (fun c_4 => absurd (by omega) c_4)
  refine y_aload_n C D_X0_give_9 rfl ?_
  refine y_iload_n C D_X0_give_10 rfl ?_
  refine z_callVv C D_X0_give_11 lk_X0_45 (c_X0_leave ha hc) (ac_o ha) rfl rfl (Nat.le_of_ble_eq_true rfl) (Nat.le_of_ble_eq_true rfl) ⟨Nat.zero_le _, Nat.zero_le _⟩ ?_
  refine y_iload C D_X0_give_14 rfl ?_
  refine y_iconst C D_X0_give_16 ki_1 ?_
  refine z_iadd C D_X0_give_17 ?_
  refine y_istore C D_X0_give_18 (by decide) (qok_s rfl rfl) ?_
  refine y_iload_n C D_X0_give_20 rfl ?_
  refine y_tabIn (off := 114) (tgt := 135) C D_X0_give_21 (by decide) (by decide) (by decide +kernel) (by decide) ?_
  refine y_aload_n C D_X0_give_135 rfl ?_
  refine y_bipush C D_X0_give_136 kb_10 ?_
  refine y_aload_n C D_X0_give_138 rfl ?_
  refine y_iload_n C D_X0_give_139 rfl ?_
  refine y_iload C D_X0_give_140 rfl ?_
  refine z_callV C D_X0_give_142 lk_X0_33 (c_X0_give10 ha hy hV hs1 (bgC_le _ _ hc) (by omega)) (ac_o ha) rfl rfl (Nat.le_of_ble_eq_true rfl) (Nat.le_of_ble_eq_true rfl) ⟨Nat.zero_le _, Nat.zero_le _⟩ ?_
  refine y_bipush C D_X0_give_145 kb_100 ?_
  refine y_isub C D_X0_give_147 ?_
  exact y_iret C E D_X0_give_148 (rfl) (rfl)
theorem c_X0_give14 (ha : 99 < h.length) (hy : Yat G h 7 y) (hV : Va y) {s d : Nat} (hs1 : s < y 3) (hc : c ≤ 16) (hd : d ≤ 6) : Ct l G yX0_give 5 [qr G 98, .int (nI 14), qr G 7, .int (nI s), .int (nI d)] (ac G h c f) (some (.int (nI 2 * (nI (mbn y s (y 0)) - nI 100)))) (ac G h (bgC c [14, 13, 10]) (bgF c f [14, 13, 10])) := by
  refine ctm_intro (maxL := 6) kw_X0_give (by decide) (by decide) [some (qr G 98), some (.int (nI 14)), some (qr G 7), some (.int (nI s)), some (.int (nI d)), none] rfl (Nat.le_of_ble_eq_true rfl) ?_
  intro X _ hcl hsl _ _ C E
  have v3 := hV.2.2.2.1
  refine y_iload C D_X0_give_0 rfl ?_
  refine y_bipush C D_X0_give_2 kb_8 ?_
  refine y_icmp_le C D_X0_give_4 (n_le (by omega) (by omega)) (fun c_4 => ?_) (fun c_4 => absurd (by omega) c_4)
  refine y_aload_n C D_X0_give_9 rfl ?_
  refine y_iload_n C D_X0_give_10 rfl ?_
  refine z_callVv C D_X0_give_11 lk_X0_45 (c_X0_leave ha hc) (ac_o ha) rfl rfl (Nat.le_of_ble_eq_true rfl) (Nat.le_of_ble_eq_true rfl) ⟨Nat.zero_le _, Nat.zero_le _⟩ ?_
  refine y_iload C D_X0_give_14 rfl ?_
  refine y_iconst C D_X0_give_16 ki_1 ?_
  refine z_iadd C D_X0_give_17 ?_
  refine y_istore C D_X0_give_18 (by decide) (qok_s rfl rfl) ?_
  refine y_iload_n C D_X0_give_20 rfl ?_
  refine y_tabIn (off := 128) (tgt := 149) C D_X0_give_21 (by decide) (by decide) (by decide +kernel) (by decide) ?_
  refine y_aload_n C D_X0_give_149 rfl ?_
  refine y_bipush C D_X0_give_150 kb_13 ?_
  refine y_aload_n C D_X0_give_152 rfl ?_
  refine y_iload_n C D_X0_give_153 rfl ?_
  refine y_iload C D_X0_give_154 rfl ?_
  refine z_callV C D_X0_give_156 lk_X0_33 (c_X0_give13 ha hy hV hs1 (bgC_le _ _ hc) (by omega)) (ac_o ha) rfl rfl (Nat.le_of_ble_eq_true rfl) (Nat.le_of_ble_eq_true rfl) ⟨Nat.zero_le _, Nat.zero_le _⟩ ?_
  refine y_iconst C D_X0_give_159 ki_2 ?_
  refine y_imul C D_X0_give_160 ?_
  exact y_iret C E D_X0_give_161 (rv (Int32.mul_comm _ _)) (rfl)
theorem c_X0_give21 (ha : 99 < h.length) (hy : Yat G h 7 y) (hV : Va y) {s d : Nat} (hs1 : s < y 3) (hc : c ≤ 16) (hd : d ≤ 7) : Ct l G yX0_give 2 [qr G 98, .int (nI 21), qr G 7, .int (nI s), .int (nI d)] (ac G h c f) (some (.int (mkD y s))) (ac G h (bgC c [21, 20]) (bgF c f [21, 20])) := by
  refine ctm_intro (maxL := 6) kw_X0_give (by decide) (by decide) [some (qr G 98), some (.int (nI 21)), some (qr G 7), some (.int (nI s)), some (.int (nI d)), none] rfl (Nat.le_of_ble_eq_true rfl) ?_
  intro X _ hcl hsl _ _ C E
  have v3 := hV.2.2.2.1
  refine y_iload C D_X0_give_0 rfl ?_
  refine y_bipush C D_X0_give_2 kb_8 ?_
  refine y_icmp_le C D_X0_give_4 (n_le (by omega) (by omega)) (fun c_4 => ?_) (fun c_4 => absurd (by omega) c_4)
  refine y_aload_n C D_X0_give_9 rfl ?_
  refine y_iload_n C D_X0_give_10 rfl ?_
  refine z_callVv C D_X0_give_11 lk_X0_45 (c_X0_leave ha hc) (ac_o ha) rfl rfl (Nat.le_of_ble_eq_true rfl) (Nat.le_of_ble_eq_true rfl) ⟨Nat.zero_le _, Nat.zero_le _⟩ ?_
  refine y_iload C D_X0_give_14 rfl ?_
  refine y_iconst C D_X0_give_16 ki_1 ?_
  refine z_iadd C D_X0_give_17 ?_
  refine y_istore C D_X0_give_18 (by decide) (qok_s rfl rfl) ?_
  refine y_iload_n C D_X0_give_20 rfl ?_
  refine y_tabIn (off := 143) (tgt := 164) C D_X0_give_21 (by decide) (by decide) (by decide +kernel) (by decide) ?_
  refine y_aload_n C D_X0_give_164 rfl ?_
  refine y_bipush C D_X0_give_165 kb_20 ?_
  refine y_aload_n C D_X0_give_167 rfl ?_
  refine y_iload_n C D_X0_give_168 rfl ?_
  refine y_iload C D_X0_give_169 rfl ?_
  refine z_callV C D_X0_give_171 lk_X0_33 (c_X0_give20 ha hy hV hs1 (bgC_le _ _ hc) (by omega)) (ac_o ha) rfl rfl (Nat.le_of_ble_eq_true rfl) (Nat.le_of_ble_eq_true rfl) ⟨Nat.zero_le _, Nat.zero_le _⟩ ?_
  refine y_aload_n C D_X0_give_174 rfl ?_
  refine y_iload_n C D_X0_give_175 rfl ?_
  refine y_iconst C D_X0_give_176 ki_0 ?_
  refine z_callV C D_X0_give_177 lk_X0_53 ((hy.ac (c := bgC (bgC c [21]) [20]) (f := bgF (bgC c [21]) (bgF c f [21]) [20]) (by decide)).eq ▸ c_X5_memoryOf (hy.ac (c := bgC (bgC c [21]) [20]) (f := bgF (bgC c [21]) (bgF c f [21]) [20]) (by decide)).lt (by omega) (by decide)) (hy.ac (by decide)).o rfl rfl (Nat.le_of_ble_eq_true rfl) (Nat.le_of_ble_eq_true rfl) ⟨Nat.zero_le _, Nat.zero_le _⟩ ?_
  refine z_iadd C D_X0_give_180 ?_
  exact y_iret C E D_X0_give_181 (rfl) (rfl)
theorem c_X0_give22 (ha : 99 < h.length) (hy : Yat G h 7 y) (hV : Va y) {s d : Nat} (hs1 : s < y 3) (hc : c ≤ 16) (hd : d ≤ 6) : Ct l G yX0_give 3 [qr G 98, .int (nI 22), qr G 7, .int (nI s), .int (nI d)] (ac G h c f) (some (.int (mkD y s - nI 1000))) (ac G h (bgC c [22, 21, 20]) (bgF c f [22, 21, 20])) := by
  refine ctm_intro (maxL := 6) kw_X0_give (by decide) (by decide) [some (qr G 98), some (.int (nI 22)), some (qr G 7), some (.int (nI s)), some (.int (nI d)), none] rfl (Nat.le_of_ble_eq_true rfl) ?_
  intro X _ hcl hsl _ _ C E
  have v3 := hV.2.2.2.1
  refine y_iload C D_X0_give_0 rfl ?_
  refine y_bipush C D_X0_give_2 kb_8 ?_
  refine y_icmp_le C D_X0_give_4 (n_le (by omega) (by omega)) (fun c_4 => ?_) (fun c_4 => absurd (by omega) c_4)
  refine y_aload_n C D_X0_give_9 rfl ?_
  refine y_iload_n C D_X0_give_10 rfl ?_
  refine z_callVv C D_X0_give_11 lk_X0_45 (c_X0_leave ha hc) (ac_o ha) rfl rfl (Nat.le_of_ble_eq_true rfl) (Nat.le_of_ble_eq_true rfl) ⟨Nat.zero_le _, Nat.zero_le _⟩ ?_
  refine y_iload C D_X0_give_14 rfl ?_
  refine y_iconst C D_X0_give_16 ki_1 ?_
  refine z_iadd C D_X0_give_17 ?_
  refine y_istore C D_X0_give_18 (by decide) (qok_s rfl rfl) ?_
  refine y_iload_n C D_X0_give_20 rfl ?_
  refine y_tabIn (off := 161) (tgt := 182) C D_X0_give_21 (by decide) (by decide) (by decide +kernel) (by decide) ?_
  refine y_aload_n C D_X0_give_182 rfl ?_
  refine y_bipush C D_X0_give_183 kb_21 ?_
  refine y_aload_n C D_X0_give_185 rfl ?_
  refine y_iload_n C D_X0_give_186 rfl ?_
  refine y_iload C D_X0_give_187 rfl ?_
  refine z_callV C D_X0_give_189 lk_X0_33 (c_X0_give21 ha hy hV hs1 (bgC_le _ _ hc) (by omega)) (ac_o ha) rfl rfl (Nat.le_of_ble_eq_true rfl) (Nat.le_of_ble_eq_true rfl) ⟨Nat.zero_le _, Nat.zero_le _⟩ ?_
  refine y_sipush C D_X0_give_192 kn_1000 ?_
  refine y_isub C D_X0_give_195 ?_
  exact y_iret C E D_X0_give_196 (rfl) (rfl)
theorem c_X0_give24 (ha : 99 < h.length) (hy : Yat G h 7 y) (hV : Va y) {s d : Nat} (hs1 : s < y 3) (hc : c ≤ 16) (hd : d ≤ 6) : Ct l G yX0_give 3 [qr G 98, .int (nI 24), qr G 7, .int (nI s), .int (nI d)] (ac G h c f) (some (.int (nI 2 * mkD y s))) (ac G h (bgC c [24, 21, 20]) (bgF c f [24, 21, 20])) := by
  refine ctm_intro (maxL := 6) kw_X0_give (by decide) (by decide) [some (qr G 98), some (.int (nI 24)), some (qr G 7), some (.int (nI s)), some (.int (nI d)), none] rfl (Nat.le_of_ble_eq_true rfl) ?_
  intro X _ hcl hsl _ _ C E
  have v3 := hV.2.2.2.1
  refine y_iload C D_X0_give_0 rfl ?_
  refine y_bipush C D_X0_give_2 kb_8 ?_
  refine y_icmp_le C D_X0_give_4 (n_le (by omega) (by omega)) (fun c_4 => ?_) (fun c_4 => absurd (by omega) c_4)
  refine y_aload_n C D_X0_give_9 rfl ?_
  refine y_iload_n C D_X0_give_10 rfl ?_
  refine z_callVv C D_X0_give_11 lk_X0_45 (c_X0_leave ha hc) (ac_o ha) rfl rfl (Nat.le_of_ble_eq_true rfl) (Nat.le_of_ble_eq_true rfl) ⟨Nat.zero_le _, Nat.zero_le _⟩ ?_
  refine y_iload C D_X0_give_14 rfl ?_
  refine y_iconst C D_X0_give_16 ki_1 ?_
  refine z_iadd C D_X0_give_17 ?_
  refine y_istore C D_X0_give_18 (by decide) (qok_s rfl rfl) ?_
  refine y_iload_n C D_X0_give_20 rfl ?_
  refine y_tabIn (off := 196) (tgt := 217) C D_X0_give_21 (by decide) (by decide) (by decide +kernel) (by decide) ?_
  refine y_aload_n C D_X0_give_217 rfl ?_
  refine y_bipush C D_X0_give_218 kb_21 ?_
  refine y_aload_n C D_X0_give_220 rfl ?_
  refine y_iload_n C D_X0_give_221 rfl ?_
  refine y_iload C D_X0_give_222 rfl ?_
  refine z_callV C D_X0_give_224 lk_X0_33 (c_X0_give21 ha hy hV hs1 (bgC_le _ _ hc) (by omega)) (ac_o ha) rfl rfl (Nat.le_of_ble_eq_true rfl) (Nat.le_of_ble_eq_true rfl) ⟨Nat.zero_le _, Nat.zero_le _⟩ ?_
  refine y_iconst C D_X0_give_227 ki_2 ?_
  refine y_imul C D_X0_give_228 ?_
  exact y_iret C E D_X0_give_229 (rv (Int32.mul_comm _ _)) (rfl)
end
