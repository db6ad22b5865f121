def nB (y : Nat → Nat) : Nat → Nat := fun k => if nd y k = true then 1 else 0
theorem bits5 : ∀ b0 b1 b2 b3 b4 : Bool, (let f := fun (b : Bool) (p a : Nat) => if b = true then a ||| 2 ^ p else a
    let g := fun (b : Bool) => if b = true then 1 else 0
    f b4 4 (f b3 3 (f b2 2 (f b1 1 (f b0 0 0)))) = g b0 + 2 * g b1 + 4 * g b2 + 8 * g b3 + 16 * g b4 ∧ ones (f b4 4 (f b3 3 (f b2 2 (f b1 1 (f b0 0 0))))) = 0 + g b0 + g b1 + g b2 + g b3 + g b4) := by decide +kernel
theorem n5_5 {y : Nat → Nat} : n5 y 5 = sb (nB y) 0 := (bits5 (nd y 0) (nd y 1) (nd y 2) (nd y 3) (nd y 4)).1
theorem n5_ones {y : Nat → Nat} : ones (n5 y 5) = ndc y 5 := (bits5 (nd y 0) (nd y 1) (nd y 2) (nd y 3) (nd y 4)).2
theorem nB_le {y : Nat → Nat} : ∀ k, k < 5 → nB y (0 + k) ≤ 1 := fun k _ => by
  unfold nB
  split <;> omega
theorem nd_out {y : Nat → Nat} (h : Va y) {p : Nat} (hp : p < 5) (h3 : y 3 ≤ p) : ¬ nd y p = true := by
  intro q
  obtain ⟨g, hg, _⟩ := (nd_mo h).mp q
  have h0 := h.1
  have h1 := h.2.1
  have := mo_me hg
  have := (h.2.2.2.2.2.2.2.2.1 p g hp (by have := mo_lt hg; omega)).2 (Or.inl h3)
  omega
theorem ndc_5 {y : Nat → Nat} (h : Va y) : ∀ n, n ≤ 5 → ndc y n = ndc y (if n ≤ y 3 then n else y 3)
  | 0, _ => by rw [if_pos (Nat.zero_le _)]
  | n + 1, hn => by
    by_cases c : n + 1 ≤ y 3
    · rw [if_pos c]
    · rw [if_neg c]
      have ih := ndc_5 h n (by omega)
      rw [ndc, if_neg (nd_out h (by omega) (by omega)), Nat.add_zero, ih]
      by_cases d : n ≤ y 3
      · rw [if_pos d, show n = y 3 by omega]
      · rw [if_neg d]
theorem ndc_3 {y : Nat → Nat} (h : Va y) : ones (n5 y 5) = ndc y (y 3) := by
  have h3 := h.2.2.2.1.2
  rw [n5_ones, ndc_5 h 5 (by decide)]
  split
  · rw [show y 3 = 5 by omega]
  · rfl
theorem nd_sS {y : Nat → Nat} (h : Va y) {k : Nat} : sS y 11 (n5 y 5) k = ndL y (y 3) k := by
  have h3 := h.2.2.2.1
  unfold ndL
  by_cases c : 11 ≤ k ∧ k < 11 + 5
  · rw [sS_in c, n5_5, sb_bit nB_le (by omega), Nat.zero_add]
    by_cases d : k < 11 + y 3
    · rw [if_pos ⟨c.1, d⟩]
      rfl
    · rw [if_neg (fun z => d z.2)]
      have := (h.2.2.2.2.2.2.1 (k - 11) (by omega)).2 (by omega)
      rw [show 11 + (k - 11) = k by omega] at this
      rw [this]
      exact if_neg (nd_out h (by omega) (by omega))
  · rw [sS_out c, if_neg (by omega)]
theorem n5_lt {y : Nat → Nat} : n5 y 5 < 32 := by
  rw [n5_5]
  exact sb_lt nB_le
section
variable {l : Launch} {G : qG} {h : List va_E} {y w : Nat → Nat} {fw : Nat}
theorem lp_X3_needed {X : qX} {n : Nat} (h89 : 89 + 2 < h.length) (hV : Va y) (h4 : y 4 ≤ 999) (hn : n ≤ 40) (C : qC X G cX3_suppersNeeded 6 RX3 5) (E : qE X G (some .int) 0 0 (some (.int (nI (chS y n)))) (yc G h 89 (chN y n))) : ∀ (m k : Nat), k + m = n → Y X G 6 0 0 12 [some (qr G 85), some (qr G 7), some (.int (nI (n))), some (qr G 89), some (.int (nI (chS y k))), some (.int (nI (k)))] [] (yc G h 89 (chN y k)) := by
  intro m
  induction m with
  | zero =>
    intro k hk
    obtain rfl : k = n := by omega
    refine y_iload C D_X3_suppersNeeded_12 rfl ?_
    refine y_iload_n C D_X3_suppersNeeded_14 rfl ?_
    refine y_icmp_ge C D_X3_suppersNeeded_15 (n_le (by omega) (by omega)) (fun c_15 => ?_) (fun c_15 => absurd (Nat.le_refl _) c_15)
    refine y_iload C D_X3_suppersNeeded_48 rfl ?_
    exact y_iret C E D_X3_suppersNeeded_50 (rfl) (rfl)
  | succ m ih =>
    intro k hk
    have e4 := chN_4 hV k
    have hz := hV.chN k
    have hb := n5_lt (y := chN y k)
    have e4' : ndL (chN y k) (chN y k 3) 4 = chN y k 4 := if_neg (by omega)
    refine y_iload C D_X3_suppersNeeded_12 rfl ?_
    refine y_iload_n C D_X3_suppersNeeded_14 rfl ?_
    refine y_icmp_ge C D_X3_suppersNeeded_15 (n_le (by omega) (by omega)) (fun c_15 => absurd c_15 (by omega)) (fun c_15 => ?_)
    refine y_aload_n C D_X3_suppersNeeded_18 rfl ?_
    refine y_aload_n C D_X3_suppersNeeded_19 rfl ?_
    refine z_callV C D_X3_suppersNeeded_20 lk_X3_111 (c_X5_inNeed h89 hz (by omega)) (yc_o h89) rfl rfl (Nat.le_of_ble_eq_true rfl) (Nat.le_of_ble_eq_true rfl) ⟨Nat.zero_le _, Nat.zero_le _⟩ ?_
    refine y_put C D_X3_suppersNeeded_23 fl_X3_51 (yc_o h89) (Nat.le_of_ble_eq_true rfl) rfl rfl (yc_psuppers hb) ?_
    refine y_iload C D_X3_suppersNeeded_26 rfl ?_
    refine y_aload_n C D_X3_suppersNeeded_28 rfl ?_
    refine y_get C D_X3_suppersNeeded_29 fl_X3_51 (yc_o h89) rfl ?_
    rw [sb_sS hb]
    refine z_callS C D_X3_suppersNeeded_32 lk_X3_74 (c_J6_bitCount hb) rfl rfl (Nat.le_of_ble_eq_true rfl) (Nat.le_of_ble_eq_true rfl) ⟨Nat.zero_le _, Nat.zero_le _⟩ ?_
    rw [ndc_3 hz]
    refine z_iadd C D_X3_suppersNeeded_35 ?_
    refine y_istore C D_X3_suppersNeeded_36 (by decide) (qok_s rfl rfl) ?_
    refine y_aload_n C D_X3_suppersNeeded_38 rfl ?_
    rw [yc_c (fun k _ => nd_sS hz (k := k))]
    refine z_callVv C D_X3_suppersNeeded_39 lk_X3_33 (c_X5_pass h89 (hz.ndL (Nat.le_refl _)) (by rw [e4']; omega)) (yc_o h89) rfl rfl (Nat.le_of_ble_eq_true rfl) (Nat.le_of_ble_eq_true rfl) ⟨Nat.zero_le _, Nat.zero_le _⟩ ?_
    refine z_iinc (n := 1) C D_X3_suppersNeeded_42 rfl (by decide) (qok_s rfl rfl) ?_
    refine y_goto C D_X3_suppersNeeded_45 ?_
    exact ih (k + 1) (by omega)
theorem c_X3_suppersNeeded (hP : h[85]? = some (scl G fw)) (hQ : h[88]? = some (qY G 3 (sfY G))) (hs0 : Yat G h 89 w) (hy : Yat G h 7 y) (hV : Va y) (h4 : y 4 ≤ 999) {n : Nat} (hn : n ≤ 40) : Ct l G yX3_suppersNeeded 5 [qr G 85, qr G 7, .int (nI n)] (h) (some (.int (nI (chS y n)))) (yc G h 89 (chN y n)) := by
  refine ctm_intro (maxL := 6) kw_X3_suppersNeeded (by decide) (by decide) [some (qr G 85), some (qr G 7), some (.int (nI n)), none, none, none] rfl (Nat.le_of_ble_eq_true rfl) ?_
  intro X _ hcl hsl _ _ C E
  refine y_aload_n C D_X3_suppersNeeded_0 rfl ?_
  refine y_aload_n C D_X3_suppersNeeded_1 rfl ?_
  refine z_callV C D_X3_suppersNeeded_2 lk_X3_29 (c_X3_copyOf hP hQ hs0 hy hV) hP rfl rfl (Nat.le_of_ble_eq_true rfl) (Nat.le_of_ble_eq_true rfl) ⟨Nat.zero_le _, Nat.zero_le _⟩ ?_
  refine y_astore_n C D_X3_suppersNeeded_5 (by decide) (qok_s rfl rfl) ?_
  refine y_iconst C D_X3_suppersNeeded_6 ki_0 ?_
  refine y_istore C D_X3_suppersNeeded_7 (by decide) (qok_s rfl rfl) ?_
  refine y_iconst C D_X3_suppersNeeded_9 ki_0 ?_
  refine y_istore C D_X3_suppersNeeded_10 (by decide) (qok_s rfl rfl) ?_
  exact lp_X3_needed hs0.lt hV h4 hn C E n 0 (by omega)
end
