/-- the yard that is left when it is found -/
def dugY (fed g : Nat) : Nat → (Nat → Nat) → Nat → Nat
  | 0, y => if hs (y 5) g then stp fed y else y
  | n + 1, y => if hs (y 5) g then dugY fed g n (stp fed y) else y
theorem fall_bits : ∀ n, n < 6 → ∀ p, p < 5 → (2 ^ n - 1) / 2 ^ p % 2 = if p < n then 1 else 0 := by decide +kernel
theorem fall_sS {y : Nat → Nat} (h : Va y) {k : Nat} : sS y 11 (2 ^ y 3 - 1) k = fall y k := by
  have h3 := h.2.2.2.1
  unfold fall
  by_cases c : 11 ≤ k ∧ k < 11 + 5
  · rw [sS_in c, fall_bits _ (by omega) _ (by omega)]
    by_cases d : k - 11 < y 3
    · rw [if_pos d, if_pos (by omega)]
    · rw [if_neg d, if_neg (by omega)]
      have := (h.2.2.2.2.2.2.1 (k - 11) (by omega)).2 (by omega)
      rw [show 11 + (k - 11) = k by omega] at this
      exact this.symm
  · rw [sS_out c, if_neg (by omega)]
theorem pow_lt32 {n : Nat} (h : n ≤ 5) : 2 ^ n - 1 < 32 ∧ 1 ≤ 2 ^ n := by
  have := Nat.pow_le_pow_right (show 0 < 2 by decide) h
  have := Nat.one_le_two_pow (n := n)
  omega
section
variable {l : Launch} {G : qG} {h : List va_E} {y w : Nat → Nat} {fw : Nat}
abbrev scl (G : qG) (fw : Nat) : va_E := .inr (3, [.int (nI fw), qr G 86, qr G 87, qr G 88])
def sfY (G : qG) : Nat → Option Nat := fun k => if k < 3 then some (G.2 4 + (89 + 3 * k)) else none
theorem sfY_at {k : Nat} (hk : k < 3) : sfY G k = some (G.2 4 + (89 + 3 * k)) := if_pos hk
theorem c_X3_copyOf (hP : h[85]? = some (scl G fw)) (hQ : h[88]? = some (qY G 3 (sfY G))) (hs0 : Yat G h 89 w) (hy : Yat G h 7 y) (hV : Va y) : Ct l G yX3_copyOf 2 [qr G 85, qr G 7] (h) (some (qr G 89)) (yc G h 89 y) := by
  refine ctm_intro (maxL := 2) kw_X3_copyOf (by decide) (by decide) [some (qr G 85), some (qr G 7)] rfl (Nat.le_of_ble_eq_true rfl) ?_
  intro X _ hcl hsl _ _ C E
  refine y_aload_n C D_X3_copyOf_0 rfl ?_
  refine y_get C D_X3_copyOf_1 fl_X3_20 hP rfl ?_
  refine y_iconst C D_X3_copyOf_4 ki_0 ?_
  refine z_ald (t0 := 3) C D_X3_copyOf_5 hQ rfl (by omega) (by decide) (sfY_at (by decide)) ?_
  refine y_aload_n C D_X3_copyOf_6 rfl ?_
  refine z_callVv C D_X3_copyOf_7 lk_X3_25 (c_X5_becomeY hs0 hy (by decide) hV.sup hV.fev) hs0.o rfl rfl (Nat.le_of_ble_eq_true rfl) (Nat.le_of_ble_eq_true rfl) ⟨Nat.zero_le _, Nat.zero_le _⟩ ?_
  refine y_aload_n C D_X3_copyOf_10 rfl ?_
  refine y_get C D_X3_copyOf_11 fl_X3_20 ((yc_n (by decide)).trans hP) rfl ?_
  refine y_iconst C D_X3_copyOf_14 ki_0 ?_
  refine z_ald (t0 := 3) C D_X3_copyOf_15 ((yc_n (by decide)).trans hQ) rfl (by omega) (by decide) (sfY_at (by decide)) ?_
  exact y_aret C E D_X3_copyOf_16 (rfl) (rfl)
theorem lp_X3_keptBehind {X : qX} {n : Nat} (h89 : 89 + 2 < h.length) (hV : Va y) (h4 : y 4 ≤ 999) (hn : n ≤ 40) (C : qC X G cX3_keptBehind 5 RX3 5) (E : qE X G (some .int) 0 0 (some (.int (nI (yrs y n 5)))) (yc G h 89 (yrs y n))) : ∀ (m k : Nat), k + m = n → Y X G 5 0 0 9 [some (qr G 85), some (qr G 7), some (.int (nI (n))), some (qr G 89), some (.int (nI (k)))] [] (yc G h 89 (yrs y k)) := by
  intro m
  induction m with
  | zero =>
    intro k hk
    obtain rfl : k = n := by omega
    refine y_iload C D_X3_keptBehind_9 rfl ?_
    refine y_iload_n C D_X3_keptBehind_11 rfl ?_
    refine y_icmp_ge C D_X3_keptBehind_12 (n_le (by omega) (by omega)) (fun c_12 => ?_) (fun c_12 => absurd (Nat.le_refl _) c_12)
    refine y_aload_n C D_X3_keptBehind_25 rfl ?_
    refine y_get C D_X3_keptBehind_26 fl_X3_36 (yc_o h89) rfl ?_
    exact y_iret C E D_X3_keptBehind_29 (rfl) (rfl)
  | succ m ih =>
    intro k hk
    have e4 := yrs_4 y k
    refine y_iload C D_X3_keptBehind_9 rfl ?_
    refine y_iload_n C D_X3_keptBehind_11 rfl ?_
    refine y_icmp_ge C D_X3_keptBehind_12 (n_le (by omega) (by omega)) (fun c_12 => absurd c_12 (by omega)) (fun c_12 => ?_)
    refine y_aload_n C D_X3_keptBehind_15 rfl ?_
    refine z_callVv C D_X3_keptBehind_16 lk_X3_33 (c_X5_pass h89 (hV.yrs k) (by omega)) (yc_o h89) rfl rfl (Nat.le_of_ble_eq_true rfl) (Nat.le_of_ble_eq_true rfl) ⟨Nat.zero_le _, Nat.zero_le _⟩ ?_
    refine z_iinc (n := 1) C D_X3_keptBehind_19 rfl (by decide) (qok_s rfl rfl) ?_
    refine y_goto C D_X3_keptBehind_22 ?_
    exact ih (k + 1) (by omega)
theorem c_X3_keptBehind (hP : h[85]? = some (scl G fw)) (hQ : h[88]? = some (qY G 3 (sfY G))) (hs0 : Yat G h 89 w) (hy : Yat G h 7 y) (hV : Va y) (h4 : y 4 ≤ 999) {n : Nat} (hn : n ≤ 40) : Ct l G yX3_keptBehind 5 [qr G 85, qr G 7, .int (nI n)] (h) (some (.int (nI (yrs y n 5)))) (yc G h 89 (yrs y n)) := by
  refine ctm_intro (maxL := 5) kw_X3_keptBehind (by decide) (by decide) [some (qr G 85), some (qr G 7), some (.int (nI n)), none, none] rfl (Nat.le_of_ble_eq_true rfl) ?_
  intro X _ hcl hsl _ _ C E
  refine y_aload_n C D_X3_keptBehind_0 rfl ?_
  refine y_aload_n C D_X3_keptBehind_1 rfl ?_
  refine z_callV C D_X3_keptBehind_2 lk_X3_29 (c_X3_copyOf hP hQ hs0 hy hV) hP rfl rfl (Nat.le_of_ble_eq_true rfl) (Nat.le_of_ble_eq_true rfl) ⟨Nat.zero_le _, Nat.zero_le _⟩ ?_
  refine y_astore_n C D_X3_keptBehind_5 (by decide) (qok_s rfl rfl) ?_
  refine y_iconst C D_X3_keptBehind_6 ki_0 ?_
  refine y_istore C D_X3_keptBehind_7 (by decide) (qok_s rfl rfl) ?_
  exact lp_X3_keptBehind hs0.lt hV h4 hn C E n 0 (by omega)
theorem lp_X3_forgotten {X : qX} {s g m0 : Nat} (hy : Yat G h 7 y) (hV : Va y) (h4 : y 4 ≤ 999) (hm0 : m0 ≤ 27) (C : qC X G cX3_yearsTillForgotten 6 RX3 2) : ∀ (n k : Nat), k + n = 40 → qE X G (some .int) 0 0 (some (.int (fgt y m0 n k))) h → Y X G 6 0 0 11 [some (qr G 85), some (qr G 7), some (.int (nI (s))), some (.int (nI (g))), some (.int (nI (lsn y m0 k))), some (.int (nI (k)))] [] h := by
  have v1 := hV.2.1
  have v2 := hV.2.2.1
  intro n
  induction n with
  | zero =>
    intro k hk E
    have hll := lsn_le y m0 k
    obtain rfl : k = 40 := by omega
    unfold fgt at E
    refine y_iload C D_X3_yearsTillForgotten_11 rfl ?_
    refine y_bipush C D_X3_yearsTillForgotten_13 kb_40 ?_
    refine y_icmp_gt C D_X3_yearsTillForgotten_15 (n_lt (by omega) (by omega)) (fun c_15 => absurd c_15 (by omega)) (fun c_15 => ?_)
    refine y_iload C D_X3_yearsTillForgotten_18 rfl ?_
    refine y_aload_n C D_X3_yearsTillForgotten_20 rfl ?_
    refine y_get C D_X3_yearsTillForgotten_21 fl_X3_86 hy.o rfl ?_
    refine y_icmp_ge C D_X3_yearsTillForgotten_24 (n_le (by omega) (by omega)) (fun c_24 => ?_) (fun c_24 => ?_)
    · refine y_aload_n C D_X3_yearsTillForgotten_30 rfl ?_
      refine y_iload C D_X3_yearsTillForgotten_31 rfl ?_
      refine z_callV C D_X3_yearsTillForgotten_33 lk_X3_89 (hy.eq ▸ c_X5_faded hy.lt (by omega) v2.1 v2.2) hy.o rfl rfl (Nat.le_of_ble_eq_true rfl) (Nat.le_of_ble_eq_true rfl) ⟨Nat.zero_le _, Nat.zero_le _⟩ ?_
      refine y_istore C D_X3_yearsTillForgotten_36 (by decide) (qok_s rfl rfl) ?_
      refine z_iinc (n := 1) C D_X3_yearsTillForgotten_38 rfl (by decide) (qok_s rfl rfl) ?_
      refine y_goto C D_X3_yearsTillForgotten_41 ?_
      rw [if_neg (by omega)] at E
      refine y_iload C D_X3_yearsTillForgotten_11 rfl ?_
      refine y_bipush C D_X3_yearsTillForgotten_13 kb_40 ?_
      refine y_icmp_gt C D_X3_yearsTillForgotten_15 (n_lt (by omega) (by omega)) (fun c_15 => ?_) (fun c_15 => absurd (by omega) c_15)
      refine y_ldc C D_X3_yearsTillForgotten_44 lk_X3_54 ?_
      exact y_iret C E D_X3_yearsTillForgotten_46 (rfl) (rfl)
    · refine y_iload C D_X3_yearsTillForgotten_27 rfl ?_
      exact y_iret C E D_X3_yearsTillForgotten_29 (by rw [if_pos (by omega)]) (rfl)
  | succ n ih =>
    intro k hk E
    have hll := lsn_le y m0 k
    unfold fgt at E
    refine y_iload C D_X3_yearsTillForgotten_11 rfl ?_
    refine y_bipush C D_X3_yearsTillForgotten_13 kb_40 ?_
    refine y_icmp_gt C D_X3_yearsTillForgotten_15 (n_lt (by omega) (by omega)) (fun c_15 => absurd c_15 (by omega)) (fun c_15 => ?_)
    refine y_iload C D_X3_yearsTillForgotten_18 rfl ?_
    refine y_aload_n C D_X3_yearsTillForgotten_20 rfl ?_
    refine y_get C D_X3_yearsTillForgotten_21 fl_X3_86 hy.o rfl ?_
    refine y_icmp_ge C D_X3_yearsTillForgotten_24 (n_le (by omega) (by omega)) (fun c_24 => ?_) (fun c_24 => ?_)
    · refine y_aload_n C D_X3_yearsTillForgotten_30 rfl ?_
      refine y_iload C D_X3_yearsTillForgotten_31 rfl ?_
      refine z_callV C D_X3_yearsTillForgotten_33 lk_X3_89 (hy.eq ▸ c_X5_faded hy.lt (by omega) v2.1 v2.2) hy.o rfl rfl (Nat.le_of_ble_eq_true rfl) (Nat.le_of_ble_eq_true rfl) ⟨Nat.zero_le _, Nat.zero_le _⟩ ?_
      refine y_istore C D_X3_yearsTillForgotten_36 (by decide) (qok_s rfl rfl) ?_
      refine z_iinc (n := 1) C D_X3_yearsTillForgotten_38 rfl (by decide) (qok_s rfl rfl) ?_
      refine y_goto C D_X3_yearsTillForgotten_41 ?_
      rw [if_neg (by omega)] at E
      exact ih (k + 1) (by omega) E
    · refine y_iload C D_X3_yearsTillForgotten_27 rfl ?_
      exact y_iret C E D_X3_yearsTillForgotten_29 (by rw [if_pos (by omega)]) (rfl)
theorem c_X3_yearsTillForgotten (hy : Yat G h 7 y) (hV : Va y) (h4 : y 4 ≤ 999) {s g : Nat} (hs1 : s < 5) (hg1 : g < 6) : Ct l G yX3_yearsTillForgotten 2 [qr G 85, qr G 7, .int (nI s), .int (nI g)] (h) (some (.int (fgt y (me y s g) 40 0))) (h) := by
  refine ctm_intro (maxL := 6) kw_X3_yearsTillForgotten (by decide) (by decide) [some (qr G 85), some (qr G 7), some (.int (nI s)), some (.int (nI g)), none, none] rfl (Nat.le_of_ble_eq_true rfl) ?_
  intro X _ hcl hsl _ _ C E
  refine y_aload_n C D_X3_yearsTillForgotten_0 rfl ?_
  refine y_iload_n C D_X3_yearsTillForgotten_1 rfl ?_
  refine y_iload_n C D_X3_yearsTillForgotten_2 rfl ?_
  refine z_callV C D_X3_yearsTillForgotten_3 lk_X3_82 (hy.eq ▸ c_X5_memoryOf hy.lt hs1 hg1) hy.o rfl rfl (Nat.le_of_ble_eq_true rfl) (Nat.le_of_ble_eq_true rfl) ⟨Nat.zero_le _, Nat.zero_le _⟩ ?_
  refine y_istore C D_X3_yearsTillForgotten_6 (by decide) (qok_s rfl rfl) ?_
  refine y_iconst C D_X3_yearsTillForgotten_8 ki_0 ?_
  refine y_istore C D_X3_yearsTillForgotten_9 (by decide) (qok_s rfl rfl) ?_
  exact lp_X3_forgotten hy hV h4 (hV.mem hs1 hg1) C 40 0 (by omega) E
end
