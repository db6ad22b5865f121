section
variable {l : Launch} {G : qG} {h : List va_E} {a : Nat} {y : Nat → Nat}
theorem c_X6_bit {n : Nat} (hn : n < 31) : Ct l G yX6_bit 0 [.int (nI n)] (h) (some (.int (nI (2 ^ n)))) (h) := by
  refine ctm_intro (maxL := 1) kw_X6_bit (by decide) (by decide) [some (.int (nI n))] rfl (Nat.le_of_ble_eq_true rfl) ?_
  intro X _ hcl hsl _ _ C E
  refine y_iload_n C D_X6_bit_0 rfl ?_
  refine y_if_ge C D_X6_bit_1 (n_ge0 (by omega)) (fun _ => ?_) (fun q => absurd trivial q)
  refine y_iconst C D_X6_bit_8 ki_1 ?_
  refine y_iload_n C D_X6_bit_9 rfl ?_
  refine z_ishl1 C D_X6_bit_10 (by omega) ?_
  exact y_iret C E D_X6_bit_11 (rfl) (rfl)
theorem c_X6_hasBit {b n : Nat} (hb : b < 2 ^ 31) (hn : n < 31) : Ct l G yX6_hasBit 0 [.int (nI b), .int (nI n)] (h) (some (.int (bI (hs b n)))) (h) := by
  refine ctm_intro (maxL := 2) kw_X6_hasBit (by decide) (by decide) [some (.int (nI b)), some (.int (nI n))] rfl (Nat.le_of_ble_eq_true rfl) ?_
  intro X _ hcl hsl _ _ C E
  have hdb := Nat.div_le_self b (2 ^ n)
  refine y_iload_n C D_X6_hasBit_0 rfl ?_
  refine y_if_lt C D_X6_hasBit_1 (n_lt0 (by omega)) (fun q => q.elim) (fun _ => ?_)
  refine y_iload_n C D_X6_hasBit_4 rfl ?_
  refine y_iload_n C D_X6_hasBit_5 rfl ?_
  refine z_ishr C D_X6_hasBit_6 (by omega) (by omega) ?_
  refine y_iconst C D_X6_hasBit_7 ki_1 ?_
  refine z_iand C D_X6_hasBit_8 ?_
  rw [and1]
  refine y_if_eq C D_X6_hasBit_9 (n_eq0 (by omega)) (fun c_9 => ?_) (fun c_9 => ?_)
  · refine y_iconst C D_X6_hasBit_16 ki_0 ?_
    exact y_zret C E D_X6_hasBit_17 nar_0 (rt_0 (by omega)) (rfl)
  · refine y_iconst C D_X6_hasBit_12 ki_1 ?_
    refine y_goto C D_X6_hasBit_13 ?_
    exact y_zret C E D_X6_hasBit_17 nar_1 (rt_1 (by omega)) (rfl)
theorem c_X5_hasRoom {s g : Nat} (h1 : s < 2 ^ 31) (h2 : g < 2 ^ 31) : Ct l G yX5_hasRoom 0 [.int (nI s), .int (nI g)] (h) (some (.int (bI (s < 5 ∧ g < 6)))) (h) := by
  refine ctm_intro (maxL := 2) kw_X5_hasRoom (by decide) (by decide) [some (.int (nI s)), some (.int (nI g))] rfl (Nat.le_of_ble_eq_true rfl) ?_
  intro X _ hcl hsl _ _ C E
  refine y_iload_n C D_X5_hasRoom_0 rfl ?_
  refine y_if_lt C D_X5_hasRoom_1 (n_lt0 (by omega)) (fun q => q.elim) (fun _ => ?_)
  refine y_iload_n C D_X5_hasRoom_4 rfl ?_
  refine y_iconst C D_X5_hasRoom_5 ki_5 ?_
  refine y_icmp_ge C D_X5_hasRoom_6 (n_le (by omega) (by omega)) (fun c_6 => ?_) (fun c_6 => ?_)
  · refine y_iconst C D_X5_hasRoom_23 ki_0 ?_
    exact y_zret C E D_X5_hasRoom_24 nar_0 (rt_0 (by omega)) (rfl)
  · refine y_iload_n C D_X5_hasRoom_9 rfl ?_
    refine y_if_lt C D_X5_hasRoom_10 (n_lt0 (by omega)) (fun q => q.elim) (fun _ => ?_)
    refine y_iload_n C D_X5_hasRoom_13 rfl ?_
    refine y_bipush C D_X5_hasRoom_14 kb_6 ?_
    refine y_icmp_ge C D_X5_hasRoom_16 (n_le (by omega) (by omega)) (fun c_16 => ?_) (fun c_16 => ?_)
    · refine y_iconst C D_X5_hasRoom_23 ki_0 ?_
      exact y_zret C E D_X5_hasRoom_24 nar_0 (rt_0 (by omega)) (rfl)
    · refine y_iconst C D_X5_hasRoom_19 ki_1 ?_
      refine y_goto C D_X5_hasRoom_20 ?_
      exact y_zret C E D_X5_hasRoom_24 nar_1 (rt_1 (by omega)) (rfl)
theorem c_X5_isNone (ha : a + 2 < h.length) (h0 : y 0 < 2 ^ 31) : Ct l G yX5_isNone 0 [qr G a] (yc G h a y) (some (.int (bI (y 0 = 0)))) (yc G h a y) := by
  refine ctm_intro (maxL := 1) kw_X5_isNone (by decide) (by decide) [some (qr G a)] rfl (Nat.le_of_ble_eq_true rfl) ?_
  intro X _ hcl hsl _ _ C E
  refine y_aload_n C D_X5_isNone_0 rfl ?_
  refine y_get C D_X5_isNone_1 fl_X5_18 (yc_o ha) rfl ?_
  refine y_if_ne C D_X5_isNone_4 (n_eq0 (by omega)) (fun c_4 => ?_) (fun c_4 => ?_)
  · refine y_iconst C D_X5_isNone_11 ki_0 ?_
    exact y_zret C E D_X5_isNone_12 nar_0 (rt_0 (c_4)) (rfl)
  · refine y_iconst C D_X5_isNone_7 ki_1 ?_
    refine y_goto C D_X5_isNone_8 ?_
    exact y_zret C E D_X5_isNone_12 nar_1 (rt_1 (c_4)) (rfl)
theorem c_X5_memoryOf (ha : a + 2 < h.length) {s g : Nat} (h1 : s < 5) (h2 : g < 6) : Ct l G yX5_memoryOf 1 [qr G a, .int (nI s), .int (nI g)] (yc G h a y) (some (.int (nI (me y s g)))) (yc G h a y) := by
  refine ctm_intro (maxL := 3) kw_X5_memoryOf (by decide) (by decide) [some (qr G a), some (.int (nI s)), some (.int (nI g))] rfl (Nat.le_of_ble_eq_true rfl) ?_
  intro X _ hcl hsl _ _ C E
  refine y_iload_n C D_X5_memoryOf_0 rfl ?_
  refine y_iload_n C D_X5_memoryOf_1 rfl ?_
  refine z_callS C D_X5_memoryOf_2 lk_X5_55 (c_X5_hasRoom (by omega) (by omega)) rfl rfl (Nat.le_of_ble_eq_true rfl) (Nat.le_of_ble_eq_true rfl) ⟨Nat.zero_le _, Nat.zero_le _⟩ ?_
  refine z_ifeqB C D_X5_memoryOf_5 (fun c_5 => absurd ⟨h1, h2⟩ c_5) (fun c_5 => ?_)
  refine y_aload_n C D_X5_memoryOf_8 rfl ?_
  refine y_get C D_X5_memoryOf_9 fl_X5_15 (yc_o ha) rfl ?_
  refine y_iload_n C D_X5_memoryOf_12 rfl ?_
  refine y_bipush C D_X5_memoryOf_13 kb_6 ?_
  refine z_imul C D_X5_memoryOf_15 ?_
  refine y_iload_n C D_X5_memoryOf_16 rfl ?_
  refine z_iadd C D_X5_memoryOf_17 ?_
  refine z_ild C D_X5_memoryOf_18 (yc_m ha) (by omega) (by decide) (tr_at (by omega)) ?_
  refine y_goto C D_X5_memoryOf_19 ?_
  exact y_iret C E D_X5_memoryOf_23 (by rw [show 21 + (s * 6 + g) = 21 + 6 * s + g by omega]) (rfl)
theorem c_X5_remember (ha : a + 2 < h.length) {s g v : Nat} (h1 : s < 5) (h2 : g < 6) : Ct l G yX5_remember 1 [qr G a, .int (nI s), .int (nI g), .int (nI v)] (yc G h a y) (none) (yc G h a (va_up y (21 + 6 * s + g) v)) := by
  refine ctm_intro (maxL := 4) kw_X5_remember (by decide) (by decide) [some (qr G a), some (.int (nI s)), some (.int (nI g)), some (.int (nI v))] rfl (Nat.le_of_ble_eq_true rfl) ?_
  intro X _ hcl hsl _ _ C E
  refine y_iload_n C D_X5_remember_0 rfl ?_
  refine y_iload_n C D_X5_remember_1 rfl ?_
  refine z_callS C D_X5_remember_2 lk_X5_55 (c_X5_hasRoom (by omega) (by omega)) rfl rfl (Nat.le_of_ble_eq_true rfl) (Nat.le_of_ble_eq_true rfl) ⟨Nat.zero_le _, Nat.zero_le _⟩ ?_
  refine z_ifeqB C D_X5_remember_5 (fun c_5 => absurd ⟨h1, h2⟩ c_5) (fun c_5 => ?_)
  refine y_aload_n C D_X5_remember_8 rfl ?_
  refine y_get C D_X5_remember_9 fl_X5_15 (yc_o ha) rfl ?_
  refine y_iload_n C D_X5_remember_12 rfl ?_
  refine y_bipush C D_X5_remember_13 kb_6 ?_
  refine z_imul C D_X5_remember_15 ?_
  refine y_iload_n C D_X5_remember_16 rfl ?_
  refine z_iadd C D_X5_remember_17 ?_
  refine y_iload_n C D_X5_remember_18 rfl ?_
  refine z_ist C D_X5_remember_19 (yc_m ha) (by omega) (by decide) (yc_wmemories (by omega) _) ?_
  exact y_vret C E D_X5_remember_20 (by rw [show 21 + (s * 6 + g) = 21 + 6 * s + g by omega])
end
