section
variable {l : Launch} {G : qG} {h : List va_E} {y : Nat → Nat} {c : Nat} {f : Nat → Nat}
theorem c_X0_give11 (ha : 99 < h.length) (hy : Yat G h 7 y) (hV : Va y) {s d : Nat} (hs1 : s < y 3) (hc : c ≤ 16) (hd : d ≤ 4) : Ct l G yX0_give 9 [qr G 98, .int (nI 11), qr G 7, .int (nI s), .int (nI d)] (ac G h c f) (some (.int (szDV y s))) (ac G h (bgC c (szDL y s)) (bgF c f (szDL y s))) := by
  refine ctm_intro (maxL := 6) kw_X0_give (by decide) (by decide) [some (qr G 98), some (.int (nI 11)), some (qr G 7), some (.int (nI s)), some (.int (nI d)), none] rfl (Nat.le_of_ble_eq_true rfl) ?_
  intro X _ hcl hsl _ _ C E
  have v3 := hV.2.2.2.1
  refine y_iload C D_X0_give_0 rfl ?_
  refine y_bipush C D_X0_give_2 kb_8 ?_
  refine y_icmp_le C D_X0_give_4 (n_le (by omega) (by omega)) (fun c_4 => ?_) (fun c_4 => absurd (by omega) c_4)
  refine y_aload_n C D_X0_give_9 rfl ?_
  refine y_iload_n C D_X0_give_10 rfl ?_
  refine z_callVv C D_X0_give_11 lk_X0_45 (c_X0_leave ha hc) (ac_o ha) rfl rfl (Nat.le_of_ble_eq_true rfl) (Nat.le_of_ble_eq_true rfl) ⟨Nat.zero_le _, Nat.zero_le _⟩ ?_
  refine y_iload C D_X0_give_14 rfl ?_
  refine y_iconst C D_X0_give_16 ki_1 ?_
  refine z_iadd C D_X0_give_17 ?_
  refine y_istore C D_X0_give_18 (by decide) (qok_s rfl rfl) ?_
  refine y_iload_n C D_X0_give_20 rfl ?_
  refine y_tabIn (off := 81) (tgt := 102) C D_X0_give_21 (by decide) (by decide) (by decide +kernel) (by decide) ?_
  refine y_aload_n C D_X0_give_102 rfl ?_
  refine y_bipush C D_X0_give_103 kb_10 ?_
  refine y_aload_n C D_X0_give_105 rfl ?_
  refine y_iload_n C D_X0_give_106 rfl ?_
  refine y_iload C D_X0_give_107 rfl ?_
  refine z_callV C D_X0_give_109 lk_X0_33 (c_X0_give10 ha hy hV hs1 (bgC_le _ _ hc) (by omega)) (ac_o ha) rfl rfl (Nat.le_of_ble_eq_true rfl) (Nat.le_of_ble_eq_true rfl) ⟨Nat.zero_le _, Nat.zero_le _⟩ ?_
  refine y_aload_n C D_X0_give_112 rfl ?_
  refine y_aload_n C D_X0_give_113 rfl ?_
  refine y_iload_n C D_X0_give_114 rfl ?_
  refine y_iload C D_X0_give_115 rfl ?_
  refine z_callV C D_X0_give_117 lk_X0_23 (c_X0_markOf ha hy hV hs1 (bgC_le _ _ (bgC_le _ _ hc)) (by omega)) (ac_o ha) rfl rfl (Nat.le_of_ble_eq_true rfl) (Nat.le_of_ble_eq_true rfl) ⟨Nat.zero_le _, Nat.zero_le _⟩ ?_
  refine y_iadd C D_X0_give_120 ?_
  exact y_iret C E D_X0_give_121 (rfl) (rfl)
theorem c_X0_give12 (ha : 99 < h.length) (hy : Yat G h 7 y) (hV : Va y) {s d : Nat} (hs1 : s < y 3) (hc : c ≤ 16) (hd : d ≤ 3) : Ct l G yX0_give 10 [qr G 98, .int (nI 12), qr G 7, .int (nI s), .int (nI d)] (ac G h c f) (some (.int (-szDV y s))) (ac G h (bgC c ([12] ++ szDL y s)) (bgF c f ([12] ++ szDL y s))) := by
  refine ctm_intro (maxL := 6) kw_X0_give (by decide) (by decide) [some (qr G 98), some (.int (nI 12)), some (qr G 7), some (.int (nI s)), some (.int (nI d)), none] rfl (Nat.le_of_ble_eq_true rfl) ?_
  intro X _ hcl hsl _ _ C E
  have v3 := hV.2.2.2.1
  refine y_iload C D_X0_give_0 rfl ?_
  refine y_bipush C D_X0_give_2 kb_8 ?_
  refine y_icmp_le C D_X0_give_4 (n_le (by omega) (by omega)) (fun c_4 => ?_) (fun c_4 => absurd (by omega) c_4)
  refine y_aload_n C D_X0_give_9 rfl ?_
  refine y_iload_n C D_X0_give_10 rfl ?_
  refine z_callVv C D_X0_give_11 lk_X0_45 (c_X0_leave ha hc) (ac_o ha) rfl rfl (Nat.le_of_ble_eq_true rfl) (Nat.le_of_ble_eq_true rfl) ⟨Nat.zero_le _, Nat.zero_le _⟩ ?_
  refine y_iload C D_X0_give_14 rfl ?_
  refine y_iconst C D_X0_give_16 ki_1 ?_
  refine z_iadd C D_X0_give_17 ?_
  refine y_istore C D_X0_give_18 (by decide) (qok_s rfl rfl) ?_
  refine y_iload_n C D_X0_give_20 rfl ?_
  refine y_tabIn (off := 101) (tgt := 122) C D_X0_give_21 (by decide) (by decide) (by decide +kernel) (by decide) ?_
  refine y_iconst C D_X0_give_122 ki_0 ?_
  refine y_aload_n C D_X0_give_123 rfl ?_
  refine y_bipush C D_X0_give_124 kb_11 ?_
  refine y_aload_n C D_X0_give_126 rfl ?_
  refine y_iload_n C D_X0_give_127 rfl ?_
  refine y_iload C D_X0_give_128 rfl ?_
  refine z_callV C D_X0_give_130 lk_X0_33 (c_X0_give11 ha hy hV hs1 (bgC_le _ _ hc) (by omega)) (ac_o ha) rfl rfl (Nat.le_of_ble_eq_true rfl) (Nat.le_of_ble_eq_true rfl) ⟨Nat.zero_le _, Nat.zero_le _⟩ ?_
  refine y_isub C D_X0_give_133 ?_
  exact y_iret C E D_X0_give_134 (rv (Int32.zero_sub _)) (rfl)
theorem c_X0_sizeOf1 (ha : 99 < h.length) (hy : Yat G h 7 y) (hV : Va y) {s d : Nat} (hs1 : s < y 3) (hc : c ≤ 16) (hd : d ≤ 3) (hk : y (6 + s) = 1) : Ct l G yX0_sizeOf 11 [qr G 98, qr G 7, .int (nI s), .int (nI d)] (ac G h c f) (some (.int (szDV y s))) (ac G h (bgC c (szDL y s)) (bgF c f (szDL y s))) := by
  refine ctm_intro (maxL := 4) kw_X0_sizeOf (by decide) (by decide) [some (qr G 98), some (qr G 7), some (.int (nI s)), some (.int (nI d))] rfl (Nat.le_of_ble_eq_true rfl) ?_
  intro X _ hcl hsl _ _ C E
  have v3 := hV.2.2.2.1
  refine y_aload_n C D_X0_sizeOf_0 rfl ?_
  refine y_tabS C D_X0_sizeOf_1 fs_X0_26 ?_
  refine y_aload_n C D_X0_sizeOf_4 rfl ?_
  refine y_iload_n C D_X0_sizeOf_5 rfl ?_
  refine z_callS C D_X0_sizeOf_6 lk_X0_29 (c_X0_kindOf (hy.ac (by decide)) (by omega) (by omega)) rfl rfl (Nat.le_of_ble_eq_true rfl) (Nat.le_of_ble_eq_true rfl) ⟨Nat.zero_le _, Nat.zero_le _⟩ ?_
  rw [hk]
  refine y_tldS C D_X0_sizeOf_9 (vp_in_nI (by decide) (by decide)) (show qtS _ = .int (nI 11) from rfl) ?_
  refine y_aload_n C D_X0_sizeOf_10 rfl ?_
  refine y_iload_n C D_X0_sizeOf_11 rfl ?_
  refine y_iload_n C D_X0_sizeOf_12 rfl ?_
  refine z_callV C D_X0_sizeOf_13 lk_X0_33 (c_X0_give11 ha hy hV hs1 hc (by omega)) (ac_o ha) rfl rfl (Nat.le_of_ble_eq_true rfl) (Nat.le_of_ble_eq_true rfl) ⟨Nat.zero_le _, Nat.zero_le _⟩ ?_
  exact y_iret C E D_X0_sizeOf_16 (rfl) (rfl)
theorem c_X0_sizeOf3 (ha : 99 < h.length) (hy : Yat G h 7 y) (hV : Va y) {s d : Nat} (hs1 : s < y 3) (hc : c ≤ 16) (hd : d ≤ 3) (hk : y (6 + s) = 3) : Ct l G yX0_sizeOf 11 [qr G 98, qr G 7, .int (nI s), .int (nI d)] (ac G h c f) (some (.int (szDV y s))) (ac G h (bgC c (szDL y s)) (bgF c f (szDL y s))) := by
  refine ctm_intro (maxL := 4) kw_X0_sizeOf (by decide) (by decide) [some (qr G 98), some (qr G 7), some (.int (nI s)), some (.int (nI d))] rfl (Nat.le_of_ble_eq_true rfl) ?_
  intro X _ hcl hsl _ _ C E
  have v3 := hV.2.2.2.1
  refine y_aload_n C D_X0_sizeOf_0 rfl ?_
  refine y_tabS C D_X0_sizeOf_1 fs_X0_26 ?_
  refine y_aload_n C D_X0_sizeOf_4 rfl ?_
  refine y_iload_n C D_X0_sizeOf_5 rfl ?_
  refine z_callS C D_X0_sizeOf_6 lk_X0_29 (c_X0_kindOf (hy.ac (by decide)) (by omega) (by omega)) rfl rfl (Nat.le_of_ble_eq_true rfl) (Nat.le_of_ble_eq_true rfl) ⟨Nat.zero_le _, Nat.zero_le _⟩ ?_
  rw [hk]
  refine y_tldS C D_X0_sizeOf_9 (vp_in_nI (by decide) (by decide)) (show qtS _ = .int (nI 11) from rfl) ?_
  refine y_aload_n C D_X0_sizeOf_10 rfl ?_
  refine y_iload_n C D_X0_sizeOf_11 rfl ?_
  refine y_iload_n C D_X0_sizeOf_12 rfl ?_
  refine z_callV C D_X0_sizeOf_13 lk_X0_33 (c_X0_give11 ha hy hV hs1 hc (by omega)) (ac_o ha) rfl rfl (Nat.le_of_ble_eq_true rfl) (Nat.le_of_ble_eq_true rfl) ⟨Nat.zero_le _, Nat.zero_le _⟩ ?_
  exact y_iret C E D_X0_sizeOf_16 (rfl) (rfl)
theorem c_X0_sizeOf2 (ha : 99 < h.length) (hy : Yat G h 7 y) (hV : Va y) {s d : Nat} (hs1 : s < y 3) (hc : c ≤ 16) (hd : d ≤ 3) (hk : y (6 + s) = 2) : Ct l G yX0_sizeOf 11 [qr G 98, qr G 7, .int (nI s), .int (nI d)] (ac G h c f) (some (.int (-szDV y s))) (ac G h (bgC c ([12] ++ szDL y s)) (bgF c f ([12] ++ szDL y s))) := by
  refine ctm_intro (maxL := 4) kw_X0_sizeOf (by decide) (by decide) [some (qr G 98), some (qr G 7), some (.int (nI s)), some (.int (nI d))] rfl (Nat.le_of_ble_eq_true rfl) ?_
  intro X _ hcl hsl _ _ C E
  have v3 := hV.2.2.2.1
  refine y_aload_n C D_X0_sizeOf_0 rfl ?_
  refine y_tabS C D_X0_sizeOf_1 fs_X0_26 ?_
  refine y_aload_n C D_X0_sizeOf_4 rfl ?_
  refine y_iload_n C D_X0_sizeOf_5 rfl ?_
  refine z_callS C D_X0_sizeOf_6 lk_X0_29 (c_X0_kindOf (hy.ac (by decide)) (by omega) (by omega)) rfl rfl (Nat.le_of_ble_eq_true rfl) (Nat.le_of_ble_eq_true rfl) ⟨Nat.zero_le _, Nat.zero_le _⟩ ?_
  rw [hk]
  refine y_tldS C D_X0_sizeOf_9 (vp_in_nI (by decide) (by decide)) (show qtS _ = .int (nI 12) from rfl) ?_
  refine y_aload_n C D_X0_sizeOf_10 rfl ?_
  refine y_iload_n C D_X0_sizeOf_11 rfl ?_
  refine y_iload_n C D_X0_sizeOf_12 rfl ?_
  refine z_callV C D_X0_sizeOf_13 lk_X0_33 (c_X0_give12 ha hy hV hs1 hc (by omega)) (ac_o ha) rfl rfl (Nat.le_of_ble_eq_true rfl) (Nat.le_of_ble_eq_true rfl) ⟨Nat.zero_le _, Nat.zero_le _⟩ ?_
  exact y_iret C E D_X0_sizeOf_16 (rfl) (rfl)
end
