section
variable {l : Launch} {G : qG} {h : List va_E} {y : Nat → Nat} {c : Nat} {f : Nat → Nat}
theorem c_X0_sizeOf4 (ha : 99 < h.length) (hy : Yat G h 7 y) (hV : Va y) {s d : Nat} (hs1 : s < y 3) (hc : c ≤ 16) (hd : d ≤ 6) (hk : y (6 + s) = 4) : Ct l G yX0_sizeOf 5 [qr G 98, qr G 7, .int (nI s), .int (nI d)] (ac G h c f) (some (.int (nI (mbn y s (y 0)) - nI 100))) (ac G h (bgC c [13, 10]) (bgF c f [13, 10])) := by
  refine ctm_intro (maxL := 4) kw_X0_sizeOf (by decide) (by decide) [some (qr G 98), some (qr G 7), some (.int (nI s)), some (.int (nI d))] rfl (Nat.le_of_ble_eq_true rfl) ?_
  intro X _ hcl hsl _ _ C E
  have v3 := hV.2.2.2.1
  refine y_aload_n C D_X0_sizeOf_0 rfl ?_
  refine y_tabS C D_X0_sizeOf_1 fs_X0_26 ?_
  refine y_aload_n C D_X0_sizeOf_4 rfl ?_
  refine y_iload_n C D_X0_sizeOf_5 rfl ?_
  refine z_callS C D_X0_sizeOf_6 lk_X0_29 (c_X0_kindOf (hy.ac (by decide)) (by omega) (by omega)) rfl rfl (Nat.le_of_ble_eq_true rfl) (Nat.le_of_ble_eq_true rfl) ⟨Nat.zero_le _, Nat.zero_le _⟩ ?_
  rw [hk]
  refine y_tldS C D_X0_sizeOf_9 (vp_in_nI (by decide) (by decide)) (show qtS _ = .int (nI 13) from rfl) ?_
  refine y_aload_n C D_X0_sizeOf_10 rfl ?_
  refine y_iload_n C D_X0_sizeOf_11 rfl ?_
  refine y_iload_n C D_X0_sizeOf_12 rfl ?_
  refine z_callV C D_X0_sizeOf_13 lk_X0_33 (c_X0_give13 ha hy hV hs1 hc (by omega)) (ac_o ha) rfl rfl (Nat.le_of_ble_eq_true rfl) (Nat.le_of_ble_eq_true rfl) ⟨Nat.zero_le _, Nat.zero_le _⟩ ?_
  exact y_iret C E D_X0_sizeOf_16 (rfl) (rfl)
theorem c_X0_sizeOf5 (ha : 99 < h.length) (hy : Yat G h 7 y) (hV : Va y) {s d : Nat} (hs1 : s < y 3) (hc : c ≤ 16) (hd : d ≤ 6) (hk : y (6 + s) = 5) : Ct l G yX0_sizeOf 6 [qr G 98, qr G 7, .int (nI s), .int (nI d)] (ac G h c f) (some (.int (nI 2 * (nI (mbn y s (y 0)) - nI 100)))) (ac G h (bgC c [14, 13, 10]) (bgF c f [14, 13, 10])) := by
  refine ctm_intro (maxL := 4) kw_X0_sizeOf (by decide) (by decide) [some (qr G 98), some (qr G 7), some (.int (nI s)), some (.int (nI d))] rfl (Nat.le_of_ble_eq_true rfl) ?_
  intro X _ hcl hsl _ _ C E
  have v3 := hV.2.2.2.1
  refine y_aload_n C D_X0_sizeOf_0 rfl ?_
  refine y_tabS C D_X0_sizeOf_1 fs_X0_26 ?_
  refine y_aload_n C D_X0_sizeOf_4 rfl ?_
  refine y_iload_n C D_X0_sizeOf_5 rfl ?_
  refine z_callS C D_X0_sizeOf_6 lk_X0_29 (c_X0_kindOf (hy.ac (by decide)) (by omega) (by omega)) rfl rfl (Nat.le_of_ble_eq_true rfl) (Nat.le_of_ble_eq_true rfl) ⟨Nat.zero_le _, Nat.zero_le _⟩ ?_
  rw [hk]
  refine y_tldS C D_X0_sizeOf_9 (vp_in_nI (by decide) (by decide)) (show qtS _ = .int (nI 14) from rfl) ?_
  refine y_aload_n C D_X0_sizeOf_10 rfl ?_
  refine y_iload_n C D_X0_sizeOf_11 rfl ?_
  refine y_iload_n C D_X0_sizeOf_12 rfl ?_
  refine z_callV C D_X0_sizeOf_13 lk_X0_33 (c_X0_give14 ha hy hV hs1 hc (by omega)) (ac_o ha) rfl rfl (Nat.le_of_ble_eq_true rfl) (Nat.le_of_ble_eq_true rfl) ⟨Nat.zero_le _, Nat.zero_le _⟩ ?_
  exact y_iret C E D_X0_sizeOf_16 (rfl) (rfl)
theorem c_X0_markOf1 (ha : 99 < h.length) (hy : Yat G h 7 y) (hV : Va y) {s d : Nat} (hs1 : s < y 3) (hc : c ≤ 16) (hd : d ≤ 6) (hk : y (6 + s) = 1) : Ct l G yX0_markOf 3 [qr G 98, qr G 7, .int (nI s), .int (nI d)] (ac G h c f) (some (.int (mkD y s))) (ac G h (bgC c [21, 20]) (bgF c f [21, 20])) := by
  refine ctm_intro (maxL := 4) kw_X0_markOf (by decide) (by decide) [some (qr G 98), some (qr G 7), some (.int (nI s)), some (.int (nI d))] rfl (Nat.le_of_ble_eq_true rfl) ?_
  intro X _ hcl hsl _ _ C E
  have v3 := hV.2.2.2.1
  refine y_aload_n C D_X0_markOf_0 rfl ?_
  refine y_tabM C D_X0_markOf_1 fs_X0_37 ?_
  refine y_aload_n C D_X0_markOf_4 rfl ?_
  refine y_iload_n C D_X0_markOf_5 rfl ?_
  refine z_callS C D_X0_markOf_6 lk_X0_29 (c_X0_kindOf (hy.ac (by decide)) (by omega) (by omega)) rfl rfl (Nat.le_of_ble_eq_true rfl) (Nat.le_of_ble_eq_true rfl) ⟨Nat.zero_le _, Nat.zero_le _⟩ ?_
  rw [hk]
  refine y_tldM C D_X0_markOf_9 (vp_in_nI (by decide) (by decide)) (show qtM _ = .int (nI 21) from rfl) ?_
  refine y_aload_n C D_X0_markOf_10 rfl ?_
  refine y_iload_n C D_X0_markOf_11 rfl ?_
  refine y_iload_n C D_X0_markOf_12 rfl ?_
  refine z_callV C D_X0_markOf_13 lk_X0_33 (c_X0_give21 ha hy hV hs1 hc (by omega)) (ac_o ha) rfl rfl (Nat.le_of_ble_eq_true rfl) (Nat.le_of_ble_eq_true rfl) ⟨Nat.zero_le _, Nat.zero_le _⟩ ?_
  exact y_iret C E D_X0_markOf_16 (rfl) (rfl)
theorem c_X0_markOf2 (ha : 99 < h.length) (hy : Yat G h 7 y) (hV : Va y) {s d : Nat} (hs1 : s < y 3) (hc : c ≤ 16) (hd : d ≤ 6) (hk : y (6 + s) = 2) : Ct l G yX0_markOf 4 [qr G 98, qr G 7, .int (nI s), .int (nI d)] (ac G h c f) (some (.int (nI 2 * mkD y s))) (ac G h (bgC c [24, 21, 20]) (bgF c f [24, 21, 20])) := by
  refine ctm_intro (maxL := 4) kw_X0_markOf (by decide) (by decide) [some (qr G 98), some (qr G 7), some (.int (nI s)), some (.int (nI d))] rfl (Nat.le_of_ble_eq_true rfl) ?_
  intro X _ hcl hsl _ _ C E
  have v3 := hV.2.2.2.1
  refine y_aload_n C D_X0_markOf_0 rfl ?_
  refine y_tabM C D_X0_markOf_1 fs_X0_37 ?_
  refine y_aload_n C D_X0_markOf_4 rfl ?_
  refine y_iload_n C D_X0_markOf_5 rfl ?_
  refine z_callS C D_X0_markOf_6 lk_X0_29 (c_X0_kindOf (hy.ac (by decide)) (by omega) (by omega)) rfl rfl (Nat.le_of_ble_eq_true rfl) (Nat.le_of_ble_eq_true rfl) ⟨Nat.zero_le _, Nat.zero_le _⟩ ?_
  rw [hk]
  refine y_tldM C D_X0_markOf_9 (vp_in_nI (by decide) (by decide)) (show qtM _ = .int (nI 24) from rfl) ?_
  refine y_aload_n C D_X0_markOf_10 rfl ?_
  refine y_iload_n C D_X0_markOf_11 rfl ?_
  refine y_iload_n C D_X0_markOf_12 rfl ?_
  refine z_callV C D_X0_markOf_13 lk_X0_33 (c_X0_give24 ha hy hV hs1 hc (by omega)) (ac_o ha) rfl rfl (Nat.le_of_ble_eq_true rfl) (Nat.le_of_ble_eq_true rfl) ⟨Nat.zero_le _, Nat.zero_le _⟩ ?_
  exact y_iret C E D_X0_markOf_16 (rfl) (rfl)
theorem c_X0_markOf3 (ha : 99 < h.length) (hy : Yat G h 7 y) (hV : Va y) {s d : Nat} (hs1 : s < y 3) (hc : c ≤ 16) (hd : d ≤ 6) (hk : y (6 + s) = 3) : Ct l G yX0_markOf 4 [qr G 98, qr G 7, .int (nI s), .int (nI d)] (ac G h c f) (some (.int (mkD y s - nI 1000))) (ac G h (bgC c [22, 21, 20]) (bgF c f [22, 21, 20])) := by
  refine ctm_intro (maxL := 4) kw_X0_markOf (by decide) (by decide) [some (qr G 98), some (qr G 7), some (.int (nI s)), some (.int (nI d))] rfl (Nat.le_of_ble_eq_true rfl) ?_
  intro X _ hcl hsl _ _ C E
  have v3 := hV.2.2.2.1
  refine y_aload_n C D_X0_markOf_0 rfl ?_
  refine y_tabM C D_X0_markOf_1 fs_X0_37 ?_
  refine y_aload_n C D_X0_markOf_4 rfl ?_
  refine y_iload_n C D_X0_markOf_5 rfl ?_
  refine z_callS C D_X0_markOf_6 lk_X0_29 (c_X0_kindOf (hy.ac (by decide)) (by omega) (by omega)) rfl rfl (Nat.le_of_ble_eq_true rfl) (Nat.le_of_ble_eq_true rfl) ⟨Nat.zero_le _, Nat.zero_le _⟩ ?_
  rw [hk]
  refine y_tldM C D_X0_markOf_9 (vp_in_nI (by decide) (by decide)) (show qtM _ = .int (nI 22) from rfl) ?_
  refine y_aload_n C D_X0_markOf_10 rfl ?_
  refine y_iload_n C D_X0_markOf_11 rfl ?_
  refine y_iload_n C D_X0_markOf_12 rfl ?_
  refine z_callV C D_X0_markOf_13 lk_X0_33 (c_X0_give22 ha hy hV hs1 hc (by omega)) (ac_o ha) rfl rfl (Nat.le_of_ble_eq_true rfl) (Nat.le_of_ble_eq_true rfl) ⟨Nat.zero_le _, Nat.zero_le _⟩ ?_
  exact y_iret C E D_X0_markOf_16 (rfl) (rfl)
end
