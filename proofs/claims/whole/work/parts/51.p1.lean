section
variable {l : Launch} {G : qG} {h : List va_E} {a b : Nat} {y z : Nat → Nat} {sz old : Nat}
theorem Yat.set {j : Nat} {e : va_E} (q : Yat G h b z) (hj : j < b ∨ b + 2 < j) : Yat G (h.set j e) b z :=
  ⟨(List.getElem?_set_ne (by omega)).trans q.o, (List.getElem?_set_ne (by omega)).trans q.k, (List.getElem?_set_ne (by omega)).trans q.m⟩
theorem c_X5_becomeY (qa : Yat G h a y) (q : Yat G h b z) (hd : b + 2 < a ∨ a + 2 < b) (h1 : ∀ k, k < 5 → z (11 + k) ≤ 1) (h2 : ∀ k, k < 5 → z (16 + k) ≤ 1) : Ct l G yX5_become 1 [qr G a, qr G b] h none (yc G h a z) := by
  have w := c_X5_become (l := l) (G := G) (y := y) qa.lt q hd h1 h2
  rw [qa.eq] at w
  exact w
/-- the ring of the past -/
abbrev pcl (G : qG) (sz old : Nat) : va_E := .inr (1, [.int (nI sz), .int (nI old), qr G 11])
def pfY (G : qG) : Nat → Option Nat := fun k => if k < 24 then some (G.2 4 + (12 + 3 * k)) else none
theorem pfY_at {k : Nat} (hk : k < 24) : pfY G k = some (G.2 4 + (12 + 3 * k)) := if_pos hk
theorem c_X1_clear (hP : h[10]? = some (pcl G sz old)) (hQ : h[11]? = some (qY G 24 (pfY G))) : Ct l G yX1_clear 0 [qr G 10] (h) (none) (h.set 10 (pcl G 0 0)) := by
  refine ctm_intro (maxL := 1) kw_X1_clear (by decide) (by decide) [some (qr G 10)] rfl (Nat.le_of_ble_eq_true rfl) ?_
  intro X _ hcl hsl _ _ C E
  refine y_aload_n C D_X1_clear_0 rfl ?_
  refine y_iconst C D_X1_clear_1 ki_0 ?_
  refine y_put C D_X1_clear_2 fl_X1_18 hP (Nat.le_of_ble_eq_true rfl) rfl rfl rfl ?_
  refine y_aload_n C D_X1_clear_5 rfl ?_
  refine y_iconst C D_X1_clear_6 ki_0 ?_
  refine y_put C D_X1_clear_7 fl_X1_22 (List.getElem?_set_self (at_lt hP)) (Nat.le_of_ble_eq_true rfl) rfl rfl rfl ?_
  exact y_vret C E D_X1_clear_10 (by rw [List.set_set]; rfl)
theorem c_X1_keep (hP : h[10]? = some (pcl G sz old)) (hQ : h[11]? = some (qY G 24 (pfY G))) {w : Nat → Nat → Nat} (hs1 : ∀ k, k < 24 → Yat G h (12 + 3 * k) (w k)) (hy : Yat G h 7 y) (hb1 : ∀ k, k < 5 → y (11 + k) ≤ 1) (hb2 : ∀ k, k < 5 → y (16 + k) ≤ 1) (ho : old < 24) (h2 : sz < 24) : Ct l G yX1_keep 2 [qr G 10, qr G 7] (h) (none) ((yc G h (12 + 3 * ((old + sz) % 24)) y).set 10 (pcl G (sz + 1) old)) := by
  refine ctm_intro (maxL := 2) kw_X1_keep (by decide) (by decide) [some (qr G 10), some (qr G 7)] rfl (Nat.le_of_ble_eq_true rfl) ?_
  intro X _ hcl hsl _ _ C E
  have hkk : ((old + sz) % 24) < 24 := Nat.mod_lt _ (by decide)
  refine y_aload_n C D_X1_keep_0 rfl ?_
  refine y_get C D_X1_keep_1 fl_X1_11 hP rfl ?_
  refine y_aload_n C D_X1_keep_4 rfl ?_
  refine y_get C D_X1_keep_5 fl_X1_22 hP rfl ?_
  refine y_aload_n C D_X1_keep_8 rfl ?_
  refine y_get C D_X1_keep_9 fl_X1_18 hP rfl ?_
  refine z_iadd C D_X1_keep_12 ?_
  refine y_bipush C D_X1_keep_13 kb_24 ?_
  refine z_irem C D_X1_keep_15 (by omega) (by omega) (by omega) ?_
  refine z_ald (t0 := 3) C D_X1_keep_16 hQ rfl (by omega) (by decide) (pfY_at (by omega)) ?_
  have hkk : ((old + sz) % 24) < 24 := Nat.mod_lt _ (by decide)
  refine y_aload_n C D_X1_keep_17 rfl ?_
  refine z_callVv C D_X1_keep_18 lk_X1_25 (c_X5_becomeY (hs1 ((old + sz) % 24) hkk) hy (by omega) hb1 hb2) (hs1 ((old + sz) % 24) hkk).o rfl rfl (Nat.le_of_ble_eq_true rfl) (Nat.le_of_ble_eq_true rfl) ⟨Nat.zero_le _, Nat.zero_le _⟩ ?_
  refine y_aload_n C D_X1_keep_21 rfl ?_
  refine y_get C D_X1_keep_22 fl_X1_18 ((yc_n (by omega)).trans hP) rfl ?_
  refine y_bipush C D_X1_keep_25 kb_24 ?_
  refine y_icmp_ge C D_X1_keep_27 (n_le (by omega) (by omega)) (fun c_27 => absurd c_27 (by omega)) (fun c_27 => ?_)
  refine y_aload_n C D_X1_keep_30 rfl ?_
  refine y_dup C D_X1_keep_31 rfl ?_
  refine y_get C D_X1_keep_32 fl_X1_18 ((yc_n (by omega)).trans hP) rfl ?_
  refine y_iconst C D_X1_keep_35 ki_1 ?_
  refine z_iadd C D_X1_keep_36 ?_
  refine y_put C D_X1_keep_37 fl_X1_18 ((yc_n (by omega)).trans hP) (Nat.le_of_ble_eq_true rfl) rfl rfl rfl ?_
  refine y_goto C D_X1_keep_40 ?_
  exact y_vret C E D_X1_keep_56 (rfl)
theorem c_X1_keepF (hP : h[10]? = some (pcl G sz old)) (hQ : h[11]? = some (qY G 24 (pfY G))) {w : Nat → Nat → Nat} (hs1 : ∀ k, k < 24 → Yat G h (12 + 3 * k) (w k)) (hy : Yat G h 7 y) (hb1 : ∀ k, k < 5 → y (11 + k) ≤ 1) (hb2 : ∀ k, k < 5 → y (16 + k) ≤ 1) (ho : old < 24) (h2 : sz = 24) : Ct l G yX1_keep 2 [qr G 10, qr G 7] (h) (none) ((yc G h (12 + 3 * ((old + sz) % 24)) y).set 10 (pcl G sz ((old + 1) % 24))) := by
  refine ctm_intro (maxL := 2) kw_X1_keep (by decide) (by decide) [some (qr G 10), some (qr G 7)] rfl (Nat.le_of_ble_eq_true rfl) ?_
  intro X _ hcl hsl _ _ C E
  have hkk : ((old + sz) % 24) < 24 := Nat.mod_lt _ (by decide)
  refine y_aload_n C D_X1_keep_0 rfl ?_
  refine y_get C D_X1_keep_1 fl_X1_11 hP rfl ?_
  refine y_aload_n C D_X1_keep_4 rfl ?_
  refine y_get C D_X1_keep_5 fl_X1_22 hP rfl ?_
  refine y_aload_n C D_X1_keep_8 rfl ?_
  refine y_get C D_X1_keep_9 fl_X1_18 hP rfl ?_
  refine z_iadd C D_X1_keep_12 ?_
  refine y_bipush C D_X1_keep_13 kb_24 ?_
  refine z_irem C D_X1_keep_15 (by omega) (by omega) (by omega) ?_
  refine z_ald (t0 := 3) C D_X1_keep_16 hQ rfl (by omega) (by decide) (pfY_at (by omega)) ?_
  have hkk : ((old + sz) % 24) < 24 := Nat.mod_lt _ (by decide)
  refine y_aload_n C D_X1_keep_17 rfl ?_
  refine z_callVv C D_X1_keep_18 lk_X1_25 (c_X5_becomeY (hs1 ((old + sz) % 24) hkk) hy (by omega) hb1 hb2) (hs1 ((old + sz) % 24) hkk).o rfl rfl (Nat.le_of_ble_eq_true rfl) (Nat.le_of_ble_eq_true rfl) ⟨Nat.zero_le _, Nat.zero_le _⟩ ?_
  refine y_aload_n C D_X1_keep_21 rfl ?_
  refine y_get C D_X1_keep_22 fl_X1_18 ((yc_n (by omega)).trans hP) rfl ?_
  refine y_bipush C D_X1_keep_25 kb_24 ?_
  refine y_icmp_ge C D_X1_keep_27 (n_le (by omega) (by omega)) (fun c_27 => ?_) (fun c_27 => absurd (Nat.le_of_eq h2.symm) c_27)
  refine y_aload_n C D_X1_keep_43 rfl ?_
  refine y_aload_n C D_X1_keep_44 rfl ?_
  refine y_get C D_X1_keep_45 fl_X1_22 ((yc_n (by omega)).trans hP) rfl ?_
  refine y_iconst C D_X1_keep_48 ki_1 ?_
  refine z_iadd C D_X1_keep_49 ?_
  refine y_bipush C D_X1_keep_50 kb_24 ?_
  refine z_irem C D_X1_keep_52 (by omega) (by omega) (by omega) ?_
  refine y_put C D_X1_keep_53 fl_X1_22 ((yc_n (by omega)).trans hP) (Nat.le_of_ble_eq_true rfl) rfl rfl rfl ?_
  exact y_vret C E D_X1_keep_56 (rfl)
theorem c_X1_giveBackS (hP : h[10]? = some (pcl G sz old)) (hQ : h[11]? = some (qY G 24 (pfY G))) (h2 : sz = 0) : Ct l G yX1_giveBack 2 [qr G 10, qr G 7] (h) (some (.int (nI 0))) (h) := by
  refine ctm_intro (maxL := 2) kw_X1_giveBack (by decide) (by decide) [some (qr G 10), some (qr G 7)] rfl (Nat.le_of_ble_eq_true rfl) ?_
  intro X _ hcl hsl _ _ C E
  refine y_aload_n C D_X1_giveBack_0 rfl ?_
  refine y_get C D_X1_giveBack_1 fl_X1_18 hP rfl ?_
  refine y_iconst C D_X1_giveBack_4 ki_1 ?_
  refine y_icmp_ge C D_X1_giveBack_5 (n_le (by omega) (by omega)) (fun c_5 => absurd c_5 (by omega)) (fun c_5 => ?_)
  refine y_iconst C D_X1_giveBack_8 ki_0 ?_
  exact y_zret C E D_X1_giveBack_9 nar_0 (rfl) (rfl)
theorem c_X1_giveBack (hP : h[10]? = some (pcl G sz old)) (hQ : h[11]? = some (qY G 24 (pfY G))) {w : Nat → Nat → Nat} (hs1 : ∀ k, k < 24 → Yat G h (12 + 3 * k) (w k)) (hy : Yat G h 7 y) (hb1 : ∀ i, i < 24 → ∀ k, k < 5 → w i (11 + k) ≤ 1) (hb2 : ∀ i, i < 24 → ∀ k, k < 5 → w i (16 + k) ≤ 1) (ho : old < 24) (h2 : 1 ≤ sz) (h3 : sz ≤ 24) : Ct l G yX1_giveBack 2 [qr G 10, qr G 7] (h) (some (.int (nI 1))) (yc G (h.set 10 (pcl G (sz - 1) old)) 7 (w ((old + (sz - 1)) % 24))) := by
  refine ctm_intro (maxL := 2) kw_X1_giveBack (by decide) (by decide) [some (qr G 10), some (qr G 7)] rfl (Nat.le_of_ble_eq_true rfl) ?_
  intro X _ hcl hsl _ _ C E
  have hkk : ((old + (sz - 1)) % 24) < 24 := Nat.mod_lt _ (by decide)
  refine y_aload_n C D_X1_giveBack_0 rfl ?_
  refine y_get C D_X1_giveBack_1 fl_X1_18 hP rfl ?_
  refine y_iconst C D_X1_giveBack_4 ki_1 ?_
  refine y_icmp_ge C D_X1_giveBack_5 (n_le (by omega) (by omega)) (fun c_5 => ?_) (fun c_5 => absurd c_5 (by omega))
  refine y_aload_n C D_X1_giveBack_10 rfl ?_
  refine y_dup C D_X1_giveBack_11 rfl ?_
  refine y_get C D_X1_giveBack_12 fl_X1_18 hP rfl ?_
  refine y_iconst C D_X1_giveBack_15 ki_1 ?_
  refine z_isub C D_X1_giveBack_16 (by omega) ?_
  refine y_put C D_X1_giveBack_17 fl_X1_18 hP (Nat.le_of_ble_eq_true rfl) rfl rfl rfl ?_
  refine y_aload_n C D_X1_giveBack_20 rfl ?_
  refine y_aload_n C D_X1_giveBack_21 rfl ?_
  refine y_get C D_X1_giveBack_22 fl_X1_11 (List.getElem?_set_self (at_lt hP)) rfl ?_
  refine y_aload_n C D_X1_giveBack_25 rfl ?_
  refine y_get C D_X1_giveBack_26 fl_X1_22 (List.getElem?_set_self (at_lt hP)) rfl ?_
  refine y_aload_n C D_X1_giveBack_29 rfl ?_
  refine y_get C D_X1_giveBack_30 fl_X1_18 (List.getElem?_set_self (at_lt hP)) rfl ?_
  refine z_iadd C D_X1_giveBack_33 ?_
  refine y_bipush C D_X1_giveBack_34 kb_24 ?_
  refine z_irem C D_X1_giveBack_36 (by omega) (by omega) (by omega) ?_
  refine z_ald (t0 := 3) C D_X1_giveBack_37 ((List.getElem?_set_ne (by decide)).trans hQ) rfl (by omega) (by decide) (pfY_at (by omega)) ?_
  refine z_callVv C D_X1_giveBack_38 lk_X1_25 (c_X5_becomeY (hy.set (by omega)) ((hs1 ((old + (sz - 1)) % 24) hkk).set (by omega)) (by omega) (hb1 _ hkk) (hb2 _ hkk)) (hy.set (by omega)).o rfl rfl (Nat.le_of_ble_eq_true rfl) (Nat.le_of_ble_eq_true rfl) ⟨Nat.zero_le _, Nat.zero_le _⟩ ?_
  refine y_iconst C D_X1_giveBack_41 ki_1 ?_
  exact y_zret C E D_X1_giveBack_42 nar_1 (rfl) (rfl)
end
