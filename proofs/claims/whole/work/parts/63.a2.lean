section
variable {l : Launch} {G : qG} {h : List va_E} {y : Nat → Nat} {c : Nat} {f : Nat → Nat}
theorem c_X0_give10 (ha : 99 < h.length) (hy : Yat G h 7 y) (hV : Va y) {s d : Nat} (hs1 : s < y 3) (hc : c ≤ 16) (hd : d ≤ 8) : Ct l G yX0_give 3 [qr G 98, .int (nI 10), qr G 7, .int (nI s), .int (nI d)] (ac G h c f) (some (.int (nI (mbn y s (y 0))))) (ac G h (bgC c [10]) (bgF c f [10])) := by
  refine ctm_intro (maxL := 6) kw_X0_give (by decide) (by decide) [some (qr G 98), some (.int (nI 10)), some (qr G 7), some (.int (nI s)), some (.int (nI d)), none] rfl (Nat.le_of_ble_eq_true rfl) ?_
  intro X _ hcl hsl _ _ C E
  have v3 := hV.2.2.2.1
  refine y_iload C D_X0_give_0 rfl ?_
  refine y_bipush C D_X0_give_2 kb_8 ?_
  refine y_icmp_le C D_X0_give_4 (n_le (by omega) (by omega)) (fun c_4 => ?_) (fun c_4 => absurd (by omega) c_4)
  refine y_aload_n C D_X0_give_9 rfl ?_
  refine y_iload_n C D_X0_give_10 rfl ?_
  refine z_callVv C D_X0_give_11 lk_X0_45 (c_X0_leave ha hc) (ac_o ha) rfl rfl (Nat.le_of_ble_eq_true rfl) (Nat.le_of_ble_eq_true rfl) ⟨Nat.zero_le _, Nat.zero_le _⟩ ?_
  refine y_iload C D_X0_give_14 rfl ?_
  refine y_iconst C D_X0_give_16 ki_1 ?_
  refine z_iadd C D_X0_give_17 ?_
  refine y_istore C D_X0_give_18 (by decide) (qok_s rfl rfl) ?_
  refine y_iload_n C D_X0_give_20 rfl ?_
  refine y_tabIn (off := 75) (tgt := 96) C D_X0_give_21 (by decide) (by decide) (by decide +kernel) (by decide) ?_
  refine y_aload_n C D_X0_give_96 rfl ?_
  refine y_iload_n C D_X0_give_97 rfl ?_
  refine z_callV C D_X0_give_98 lk_X0_49 ((hy.ac (c := bgC c [10]) (f := bgF c f [10]) (by decide)).eq ▸ c_X5_allMemoryOf (hy.ac (c := bgC c [10]) (f := bgF c f [10]) (by decide)).lt (by omega) hV) (hy.ac (by decide)).o rfl rfl (Nat.le_of_ble_eq_true rfl) (Nat.le_of_ble_eq_true rfl) ⟨Nat.zero_le _, Nat.zero_le _⟩ ?_
  exact y_iret C E D_X0_give_101 (rfl) (rfl)
theorem c_X0_give20 (ha : 99 < h.length) (hy : Yat G h 7 y) (hV : Va y) {s d : Nat} (hs1 : s < y 3) (hc : c ≤ 16) (hd : d ≤ 8) : Ct l G yX0_give 1 [qr G 98, .int (nI 20), qr G 7, .int (nI s), .int (nI d)] (ac G h c f) (some (.int (nI s))) (ac G h (bgC c [20]) (bgF c f [20])) := by
  refine ctm_intro (maxL := 6) kw_X0_give (by decide) (by decide) [some (qr G 98), some (.int (nI 20)), some (qr G 7), some (.int (nI s)), some (.int (nI d)), none] rfl (Nat.le_of_ble_eq_true rfl) ?_
  intro X _ hcl hsl _ _ C E
  have v3 := hV.2.2.2.1
  refine y_iload C D_X0_give_0 rfl ?_
  refine y_bipush C D_X0_give_2 kb_8 ?_
  refine y_icmp_le C D_X0_give_4 (n_le (by omega) (by omega)) (fun c_4 => ?_) (fun c_4 => absurd (by omega) c_4)
  refine y_aload_n C D_X0_give_9 rfl ?_
  refine y_iload_n C D_X0_give_10 rfl ?_
  refine z_callVv C D_X0_give_11 lk_X0_45 (c_X0_leave ha hc) (ac_o ha) rfl rfl (Nat.le_of_ble_eq_true rfl) (Nat.le_of_ble_eq_true rfl) ⟨Nat.zero_le _, Nat.zero_le _⟩ ?_
  refine y_iload C D_X0_give_14 rfl ?_
  refine y_iconst C D_X0_give_16 ki_1 ?_
  refine z_iadd C D_X0_give_17 ?_
  refine y_istore C D_X0_give_18 (by decide) (qok_s rfl rfl) ?_
  refine y_iload_n C D_X0_give_20 rfl ?_
  refine y_tabIn (off := 141) (tgt := 162) C D_X0_give_21 (by decide) (by decide) (by decide +kernel) (by decide) ?_
  refine y_iload_n C D_X0_give_162 rfl ?_
  exact y_iret C E D_X0_give_163 (rfl) (rfl)
theorem c_X0_give13 (ha : 99 < h.length) (hy : Yat G h 7 y) (hV : Va y) {s d : Nat} (hs1 : s < y 3) (hc : c ≤ 16) (hd : d ≤ 7) : Ct l G yX0_give 4 [qr G 98, .int (nI 13), qr G 7, .int (nI s), .int (nI d)] (ac G h c f) (some (.int (nI (mbn y s (y 0)) - nI 100))) (ac G h (bgC c [13, 10]) (bgF c f [13, 10])) := by
  refine ctm_intro (maxL := 6) kw_X0_give (by decide) (by decide) [some (qr G 98), some (.int (nI 13)), some (qr G 7), some (.int (nI s)), some (.int (nI d)), none] rfl (Nat.le_of_ble_eq_true rfl) ?_
  intro X _ hcl hsl _ _ C E
  have v3 := hV.2.2.2.1
  refine y_iload C D_X0_give_0 rfl ?_
  refine y_bipush C D_X0_give_2 kb_8 ?_
  refine y_icmp_le C D_X0_give_4 (n_le (by omega) (by omega)) (fun c_4 => ?_) (fun c_4 => absurd (by omega) c_4)
  refine y_aload_n C D_X0_give_9 rfl ?_
  refine y_iload_n C D_X0_give_10 rfl ?_
  refine z_callVv C D_X0_give_11 lk_X0_45 (c_X0_leave ha hc) (ac_o ha) rfl rfl (Nat.le_of_ble_eq_true rfl) (Nat.le_of_ble_eq_true rfl) ⟨Nat.zero_le _, Nat.zero_le _⟩ ?_
  refine y_iload C D_X0_give_14 rfl ?_
  refine y_iconst C D_X0_give_16 ki_1 ?_
  refine z_iadd C D_X0_give_17 ?_
  refine y_istore C D_X0_give_18 (by decide) (qok_s rfl rfl) ?_
  refine y_iload_n C D_X0_give_20 rfl ?_
  refine y_tabIn (off := 114) (tgt := 135) C D_X0_give_21 (by decide) (by decide) (by decide +kernel) (by decide) ?_
  refine y_aload_n C D_X0_give_135 rfl ?_
  refine y_bipush C D_X0_give_136 kb_10 ?_
  refine y_aload_n C D_X0_give_138 rfl ?_
  refine y_iload_n C D_X0_give_139 rfl ?_
  refine y_iload C D_X0_give_140 rfl ?_
  refine z_callV C D_X0_give_142 lk_X0_33 (c_X0_give10 ha hy hV hs1 (bgC_le _ _ hc) (by omega)) (ac_o ha) rfl rfl (Nat.le_of_ble_eq_true rfl) (Nat.le_of_ble_eq_true rfl) ⟨Nat.zero_le _, Nat.zero_le _⟩ ?_
  refine y_bipush C D_X0_give_145 kb_100 ?_
  refine y_isub C D_X0_give_147 ?_
  exact y_iret C E D_X0_give_148 (rfl) (rfl)
end
