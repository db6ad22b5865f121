section
variable {l : Launch} {G : qG} {h : List va_E} {y : Nat → Nat} {c : Nat} {f : Nat → Nat}
theorem c_X0_sizeOf4 (ha : 99 < h.length) (hy : Yat G h 7 y) (hV : Va y) {s d : Nat} (hs1 : s < y 3) (hc : c ≤ 16) (hd : d ≤ 6) (hk : y (6 + s) = 4) : Ct l G yX0_sizeOf 6 [qr G 98, qr G 7, .int (nI s), .int (nI d)] (ac G h c f) (some (.int (nI (mbn y s (y 0)) - nI 100))) (ac G h (bgC c [13, 10]) (bgF c f [13, 10])) := by
  refine ctm_intro (maxL := 4) kw_X0_sizeOf (by decide) (by decide) [some (qr G 98), some (qr G 7), some (.int (nI s)), some (.int (nI d))] rfl (Nat.le_of_ble_eq_true rfl) ?_
  intro X _ hcl hsl _ _ C E
  have v3 := hV.2.2.2.1
  refine y_aload_n C D_X0_sizeOf_0 rfl ?_
  refine y_tabS C D_X0_sizeOf_1 fs_X0_26 ?_
  refine y_aload_n C D_X0_sizeOf_4 rfl ?_
  refine y_iload_n C D_X0_sizeOf_5 rfl ?_
  refine z_callS C D_X0_sizeOf_6 lk_X0_29 (c_X0_kindOf (hy.ac (by decide)) (by omega) (by omega)) rfl rfl (Nat.le_of_ble_eq_true rfl) (Nat.le_of_ble_eq_true rfl) ⟨Nat.zero_le _, Nat.zero_le _⟩ ?_
  rw [hk]
  refine y_tldS C D_X0_sizeOf_9 (vp_in_nI (by decide) (by decide)) (show qtS _ = .int (nI 13) from rfl) ?_
  refine y_aload_n C D_X0_sizeOf_10 rfl ?_
  refine y_iload_n C D_X0_sizeOf_11 rfl ?_
  refine y_iload_n C D_X0_sizeOf_12 rfl ?_
  refine z_callV C D_X0_sizeOf_13 lk_X0_33 (c_X0_give13 ha hy hV hs1 hc (by omega)) (ac_o ha) rfl rfl (Nat.le_of_ble_eq_true rfl) (Nat.le_of_ble_eq_true rfl) ⟨Nat.zero_le _, Nat.zero_le _⟩ ?_
  exact y_iret C E D_X0_sizeOf_16 (rfl) (rfl)
theorem c_X0_sizeOf5 (ha : 99 < h.length) (hy : Yat G h 7 y) (hV : Va y) {s d : Nat} (hs1 : s < y 3) (hc : c ≤ 16) (hd : d ≤ 6) (hk : y (6 + s) = 5) : Ct l G yX0_sizeOf 6 [qr G 98, qr G 7, .int (nI s), .int (nI d)] (ac G h c f) (some (.int (nI 2 * (nI (mbn y s (y 0)) - nI 100)))) (ac G h (bgC c [14, 13, 10]) (bgF c f [14, 13, 10])) := by
  refine ctm_intro (maxL := 4) kw_X0_sizeOf (by decide) (by decide) [some (qr G 98), some (qr G 7), some (.int (nI s)), some (.int (nI d))] rfl (Nat.le_of_ble_eq_true rfl) ?_
  intro X _ hcl hsl _ _ C E
  have v3 := hV.2.2.2.1
  refine y_aload_n C D_X0_sizeOf_0 rfl ?_
  refine y_tabS C D_X0_sizeOf_1 fs_X0_26 ?_
  refine y_aload_n C D_X0_sizeOf_4 rfl ?_
  refine y_iload_n C D_X0_sizeOf_5 rfl ?_
  refine z_callS C D_X0_sizeOf_6 lk_X0_29 (c_X0_kindOf (hy.ac (by decide)) (by omega) (by omega)) rfl rfl (Nat.le_of_ble_eq_true rfl) (Nat.le_of_ble_eq_true rfl) ⟨Nat.zero_le _, Nat.zero_le _⟩ ?_
  rw [hk]
  refine y_tldS C D_X0_sizeOf_9 (vp_in_nI (by decide) (by decide)) (show qtS _ = .int (nI 14) from rfl) ?_
  refine y_aload_n C D_X0_sizeOf_10 rfl ?_
  refine y_iload_n C D_X0_sizeOf_11 rfl ?_
  refine y_iload_n C D_X0_sizeOf_12 rfl ?_
  refine z_callV C D_X0_sizeOf_13 lk_X0_33 (c_X0_give14 ha hy hV hs1 hc (by omega)) (ac_o ha) rfl rfl (Nat.le_of_ble_eq_true rfl) (Nat.le_of_ble_eq_true rfl) ⟨Nat.zero_le _, Nat.zero_le _⟩ ?_
  exact y_iret C E D_X0_sizeOf_16 (rfl) (rfl)
theorem c_X0_markOf1 (ha : 99 < h.length) (hy : Yat G h 7 y) (hV : Va y) {s d : Nat} (hs1 : s < y 3) (hc : c ≤ 16) (hd : d ≤ 6) (hk : y (6 + s) = 1) : Ct l G yX0_markOf 8 [qr G 98, qr G 7, .int (nI s), .int (nI d)] (ac G h c f) (some (.int (mkD y s))) (ac G h (bgC c [21, 20]) (bgF c f [21, 20])) := by
  refine ctm_intro (maxL := 4) kw_X0_markOf (by decide) (by decide) [some (qr G 98), some (qr G 7), some (.int (nI s)), some (.int (nI d))] rfl (Nat.le_of_ble_eq_true rfl) ?_
  intro X _ hcl hsl _ _ C E
  have v3 := hV.2.2.2.1
  refine y_aload_n C D_X0_markOf_0 rfl ?_
  refine y_tabM C D_X0_markOf_1 fs_X0_37 ?_
  refine y_aload_n C D_X0_markOf_4 rfl ?_
  refine y_iload_n C D_X0_markOf_5 rfl ?_
  refine z_callS C D_X0_markOf_6 lk_X0_29 (c_X0_kindOf (hy.ac (by decide)) (by omega) (by omega)) rfl rfl (Nat.le_of_ble_eq_true rfl) (Nat.le_of_ble_eq_true rfl) ⟨Nat.zero_le _, Nat.zero_le _⟩ ?_
  rw [hk]
  refine y_tldM C D_X0_markOf_9 (vp_in_nI (by decide) (by decide)) (show qtM _ = .int (nI 21) from rfl) ?_
  refine y_aload_n C D_X0_markOf_10 rfl ?_
  refine y_iload_n C D_X0_markOf_11 rfl ?_
  refine y_iload_n C D_X0_markOf_12 rfl ?_
  refine z_callV C D_X0_markOf_13 lk_X0_33 (c_X0_give21 ha hy hV hs1 hc (by omega)) (ac_o ha) rfl rfl (Nat.le_of_ble_eq_true rfl) (Nat.le_of_ble_eq_true rfl) ⟨Nat.zero_le _, Nat.zero_le _⟩ ?_
  exact y_iret C E D_X0_markOf_16 (rfl) (rfl)
theorem c_X0_markOf2 (ha : 99 < h.length) (hy : Yat G h 7 y) (hV : Va y) {s d : Nat} (hs1 : s < y 3) (hc : c ≤ 16) (hd : d ≤ 6) (hk : y (6 + s) = 2) : Ct l G yX0_markOf 8 [qr G 98, qr G 7, .int (nI s), .int (nI d)] (ac G h c f) (some (.int (nI 2 * mkD y s))) (ac G h (bgC c [24, 21, 20]) (bgF c f [24, 21, 20])) := by
  refine ctm_intro (maxL := 4) kw_X0_markOf (by decide) (by decide) [some (qr G 98), some (qr G 7), some (.int (nI s)), some (.int (nI d))] rfl (Nat.le_of_ble_eq_true rfl) ?_
  intro X _ hcl hsl _ _ C E
  have v3 := hV.2.2.2.1
  refine y_aload_n C D_X0_markOf_0 rfl ?_
  refine y_tabM C D_X0_markOf_1 fs_X0_37 ?_
  refine y_aload_n C D_X0_markOf_4 rfl ?_
  refine y_iload_n C D_X0_markOf_5 rfl ?_
  refine z_callS C D_X0_markOf_6 lk_X0_29 (c_X0_kindOf (hy.ac (by decide)) (by omega) (by omega)) rfl rfl (Nat.le_of_ble_eq_true rfl) (Nat.le_of_ble_eq_true rfl) ⟨Nat.zero_le _, Nat.zero_le _⟩ ?_
  rw [hk]
  refine y_tldM C D_X0_markOf_9 (vp_in_nI (by decide) (by decide)) (show qtM _ = .int (nI 24) from rfl) ?_
  refine y_aload_n C D_X0_markOf_10 rfl ?_
  refine y_iload_n C D_X0_markOf_11 rfl ?_
  refine y_iload_n C D_X0_markOf_12 rfl ?_
  refine z_callV C D_X0_markOf_13 lk_X0_33 (c_X0_give24 ha hy hV hs1 hc (by omega)) (ac_o ha) rfl rfl (Nat.le_of_ble_eq_true rfl) (Nat.le_of_ble_eq_true rfl) ⟨Nat.zero_le _, Nat.zero_le _⟩ ?_
  exact y_iret C E D_X0_markOf_16 (rfl) (rfl)
theorem c_X0_markOf3 (ha : 99 < h.length) (hy : Yat G h 7 y) (hV : Va y) {s d : Nat} (hs1 : s < y 3) (hc : c ≤ 16) (hd : d ≤ 6) (hk : y (6 + s) = 3) : Ct l G yX0_markOf 8 [qr G 98, qr G 7, .int (nI s), .int (nI d)] (ac G h c f) (some (.int (mkD y s - nI 1000))) (ac G h (bgC c [22, 21, 20]) (bgF c f [22, 21, 20])) := by
  refine ctm_intro (maxL := 4) kw_X0_markOf (by decide) (by decide) [some (qr G 98), some (qr G 7), some (.int (nI s)), some (.int (nI d))] rfl (Nat.le_of_ble_eq_true rfl) ?_
  intro X _ hcl hsl _ _ C E
  have v3 := hV.2.2.2.1
  refine y_aload_n C D_X0_markOf_0 rfl ?_
  refine y_tabM C D_X0_markOf_1 fs_X0_37 ?_
  refine y_aload_n C D_X0_markOf_4 rfl ?_
  refine y_iload_n C D_X0_markOf_5 rfl ?_
  refine z_callS C D_X0_markOf_6 lk_X0_29 (c_X0_kindOf (hy.ac (by decide)) (by omega) (by omega)) rfl rfl (Nat.le_of_ble_eq_true rfl) (Nat.le_of_ble_eq_true rfl) ⟨Nat.zero_le _, Nat.zero_le _⟩ ?_
  rw [hk]
  refine y_tldM C D_X0_markOf_9 (vp_in_nI (by decide) (by decide)) (show qtM _ = .int (nI 22) from rfl) ?_
  refine y_aload_n C D_X0_markOf_10 rfl ?_
  refine y_iload_n C D_X0_markOf_11 rfl ?_
  refine y_iload_n C D_X0_markOf_12 rfl ?_
  refine z_callV C D_X0_markOf_13 lk_X0_33 (c_X0_give22 ha hy hV hs1 hc (by omega)) (ac_o ha) rfl rfl (Nat.le_of_ble_eq_true rfl) (Nat.le_of_ble_eq_true rfl) ⟨Nat.zero_le _, Nat.zero_le _⟩ ?_
  exact y_iret C E D_X0_markOf_16 (rfl) (rfl)
theorem c_X0_sizeOfW (ha : 99 < h.length) (hy : Yat G h 7 y) (hV : Va y) {s d : Nat} (hs1 : s < y 3) (hc : c ≤ 16) (hd : d ≤ 6) (hk : 4 ≤ y (6 + s)) : Ct l G yX0_sizeOf 6 [qr G 98, qr G 7, .int (nI s), .int (nI d)] (ac G h c f) (some (.int (szWV y s))) (ac G h (bgC c (szWL y s)) (bgF c f (szWL y s))) := by
  have v3 := hV.2.2.2.1
  have hk5 := (hV.2.2.2.2.2.1 s (by omega)).1 hs1
  unfold szWV szWL
  by_cases e : y (6 + s) = 5
  · rw [if_pos e, if_pos e]
    exact c_X0_sizeOf5 ha hy hV hs1 hc hd e
  · rw [if_neg e, if_neg e]
    exact c_X0_sizeOf4 ha hy hV hs1 hc hd (by omega)
theorem c_X0_give23 (ha : 99 < h.length) (hy : Yat G h 7 y) (hV : Va y) {s d : Nat} (hs1 : s < y 3) (hc : c ≤ 16) (hd : d ≤ 5) (hk : 4 ≤ y (6 + s)) : Ct l G yX0_give 7 [qr G 98, .int (nI 23), qr G 7, .int (nI s), .int (nI d)] (ac G h c f) (some (.int (nI s - szWV y s))) (ac G h (bgC c ([23, 20] ++ szWL y s)) (bgF c f ([23, 20] ++ szWL y s))) := by
  refine ctm_intro (maxL := 6) kw_X0_give (by decide) (by decide) [some (qr G 98), some (.int (nI 23)), some (qr G 7), some (.int (nI s)), some (.int (nI d)), none] rfl (Nat.le_of_ble_eq_true rfl) ?_
  intro X _ hcl hsl _ _ C E
  have v3 := hV.2.2.2.1
  refine y_iload C D_X0_give_0 rfl ?_
  refine y_bipush C D_X0_give_2 kb_8 ?_
  refine y_icmp_le C D_X0_give_4 (n_le (by omega) (by omega)) (fun c_4 => ?_) (fun c_4 => absurd (by omega) c_4)
  refine y_aload_n C D_X0_give_9 rfl ?_
  refine y_iload_n C D_X0_give_10 rfl ?_
  refine z_callVv C D_X0_give_11 lk_X0_45 (c_X0_leave ha hc) (ac_o ha) rfl rfl (Nat.le_of_ble_eq_true rfl) (Nat.le_of_ble_eq_true rfl) ⟨Nat.zero_le _, Nat.zero_le _⟩ ?_
  refine y_iload C D_X0_give_14 rfl ?_
  refine y_iconst C D_X0_give_16 ki_1 ?_
  refine z_iadd C D_X0_give_17 ?_
  refine y_istore C D_X0_give_18 (by decide) (qok_s rfl rfl) ?_
  refine y_iload_n C D_X0_give_20 rfl ?_
  refine y_tabIn (off := 176) (tgt := 197) C D_X0_give_21 (by decide) (by decide) (by decide +kernel) (by decide) ?_
  refine y_aload_n C D_X0_give_197 rfl ?_
  refine y_bipush C D_X0_give_198 kb_20 ?_
  refine y_aload_n C D_X0_give_200 rfl ?_
  refine y_iload_n C D_X0_give_201 rfl ?_
  refine y_iload C D_X0_give_202 rfl ?_
  refine z_callV C D_X0_give_204 lk_X0_33 (c_X0_give20 ha hy hV hs1 (bgC_le _ _ hc) (by omega)) (ac_o ha) rfl rfl (Nat.le_of_ble_eq_true rfl) (Nat.le_of_ble_eq_true rfl) ⟨Nat.zero_le _, Nat.zero_le _⟩ ?_
  refine y_aload_n C D_X0_give_207 rfl ?_
  refine y_aload_n C D_X0_give_208 rfl ?_
  refine y_iload_n C D_X0_give_209 rfl ?_
  refine y_iload C D_X0_give_210 rfl ?_
  refine z_callV C D_X0_give_212 lk_X0_19 (c_X0_sizeOfW ha hy hV hs1 (bgC_le _ _ (bgC_le _ _ hc)) (by omega) hk) (ac_o ha) rfl rfl (Nat.le_of_ble_eq_true rfl) (Nat.le_of_ble_eq_true rfl) ⟨Nat.zero_le _, Nat.zero_le _⟩ ?_
  refine y_isub C D_X0_give_215 ?_
  exact y_iret C E D_X0_give_216 (rfl) (rfl)
theorem c_X0_markOf4 (ha : 99 < h.length) (hy : Yat G h 7 y) (hV : Va y) {s d : Nat} (hs1 : s < y 3) (hc : c ≤ 16) (hd : d ≤ 5) (hk : y (6 + s) = 4) : Ct l G yX0_markOf 8 [qr G 98, qr G 7, .int (nI s), .int (nI d)] (ac G h c f) (some (.int (nI s - szWV y s))) (ac G h (bgC c ([23, 20] ++ szWL y s)) (bgF c f ([23, 20] ++ szWL y s))) := by
  refine ctm_intro (maxL := 4) kw_X0_markOf (by decide) (by decide) [some (qr G 98), some (qr G 7), some (.int (nI s)), some (.int (nI d))] rfl (Nat.le_of_ble_eq_true rfl) ?_
  intro X _ hcl hsl _ _ C E
  have v3 := hV.2.2.2.1
  refine y_aload_n C D_X0_markOf_0 rfl ?_
  refine y_tabM C D_X0_markOf_1 fs_X0_37 ?_
  refine y_aload_n C D_X0_markOf_4 rfl ?_
  refine y_iload_n C D_X0_markOf_5 rfl ?_
  refine z_callS C D_X0_markOf_6 lk_X0_29 (c_X0_kindOf (hy.ac (by decide)) (by omega) (by omega)) rfl rfl (Nat.le_of_ble_eq_true rfl) (Nat.le_of_ble_eq_true rfl) ⟨Nat.zero_le _, Nat.zero_le _⟩ ?_
  rw [hk]
  refine y_tldM C D_X0_markOf_9 (vp_in_nI (by decide) (by decide)) (show qtM _ = .int (nI 23) from rfl) ?_
  refine y_aload_n C D_X0_markOf_10 rfl ?_
  refine y_iload_n C D_X0_markOf_11 rfl ?_
  refine y_iload_n C D_X0_markOf_12 rfl ?_
  refine z_callV C D_X0_markOf_13 lk_X0_33 (c_X0_give23 ha hy hV hs1 hc (by omega) (by omega)) (ac_o ha) rfl rfl (Nat.le_of_ble_eq_true rfl) (Nat.le_of_ble_eq_true rfl) ⟨Nat.zero_le _, Nat.zero_le _⟩ ?_
  exact y_iret C E D_X0_markOf_16 (rfl) (rfl)
theorem c_X0_markOf5 (ha : 99 < h.length) (hy : Yat G h 7 y) (hV : Va y) {s d : Nat} (hs1 : s < y 3) (hc : c ≤ 16) (hd : d ≤ 5) (hk : y (6 + s) = 5) : Ct l G yX0_markOf 8 [qr G 98, qr G 7, .int (nI s), .int (nI d)] (ac G h c f) (some (.int (nI s - szWV y s))) (ac G h (bgC c ([23, 20] ++ szWL y s)) (bgF c f ([23, 20] ++ szWL y s))) := by
  refine ctm_intro (maxL := 4) kw_X0_markOf (by decide) (by decide) [some (qr G 98), some (qr G 7), some (.int (nI s)), some (.int (nI d))] rfl (Nat.le_of_ble_eq_true rfl) ?_
  intro X _ hcl hsl _ _ C E
  have v3 := hV.2.2.2.1
  refine y_aload_n C D_X0_markOf_0 rfl ?_
  refine y_tabM C D_X0_markOf_1 fs_X0_37 ?_
  refine y_aload_n C D_X0_markOf_4 rfl ?_
  refine y_iload_n C D_X0_markOf_5 rfl ?_
  refine z_callS C D_X0_markOf_6 lk_X0_29 (c_X0_kindOf (hy.ac (by decide)) (by omega) (by omega)) rfl rfl (Nat.le_of_ble_eq_true rfl) (Nat.le_of_ble_eq_true rfl) ⟨Nat.zero_le _, Nat.zero_le _⟩ ?_
  rw [hk]
  refine y_tldM C D_X0_markOf_9 (vp_in_nI (by decide) (by decide)) (show qtM _ = .int (nI 23) from rfl) ?_
  refine y_aload_n C D_X0_markOf_10 rfl ?_
  refine y_iload_n C D_X0_markOf_11 rfl ?_
  refine y_iload_n C D_X0_markOf_12 rfl ?_
  refine z_callV C D_X0_markOf_13 lk_X0_33 (c_X0_give23 ha hy hV hs1 hc (by omega) (by omega)) (ac_o ha) rfl rfl (Nat.le_of_ble_eq_true rfl) (Nat.le_of_ble_eq_true rfl) ⟨Nat.zero_le _, Nat.zero_le _⟩ ?_
  exact y_iret C E D_X0_markOf_16 (rfl) (rfl)
theorem c_X0_markOf (ha : 99 < h.length) (hy : Yat G h 7 y) (hV : Va y) {s d : Nat} (hs1 : s < y 3) (hc : c ≤ 16) (hd : d ≤ 5) : Ct l G yX0_markOf 8 [qr G 98, qr G 7, .int (nI s), .int (nI d)] (ac G h c f) (some (.int (mkV y s))) (ac G h (bgC c (mkL y s)) (bgF c f (mkL y s))) := by
  have v3 := hV.2.2.2.1
  have hk5 := (hV.2.2.2.2.2.1 s (by omega)).1 hs1
  unfold mkV mkL
  rcases (by omega : y (6 + s) = 1 ∨ y (6 + s) = 2 ∨ y (6 + s) = 3 ∨ y (6 + s) = 4 ∨ y (6 + s) = 5) with e | e | e | e | e
  · rw [if_neg (by omega), if_neg (by omega), if_pos e, if_neg (by omega), if_neg (by omega), if_pos e]
    exact c_X0_markOf1 ha hy hV hs1 hc (by omega) e
  · rw [if_pos e, if_pos e]
    exact c_X0_markOf2 ha hy hV hs1 hc (by omega) e
  · rw [if_neg (by omega), if_pos e, if_neg (by omega), if_pos e]
    exact c_X0_markOf3 ha hy hV hs1 hc (by omega) e
  · rw [if_neg (by omega), if_neg (by omega), if_neg (by omega), if_neg (by omega), if_neg (by omega), if_neg (by omega)]
    exact c_X0_markOf4 ha hy hV hs1 hc (by omega) e
  · rw [if_neg (by omega), if_neg (by omega), if_neg (by omega), if_neg (by omega), if_neg (by omega), if_neg (by omega)]
    exact c_X0_markOf5 ha hy hV hs1 hc (by omega) e
end
