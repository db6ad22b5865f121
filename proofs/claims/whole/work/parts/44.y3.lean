theorem mo_up {y : Nat → Nat} {p b n : Nat} : ∀ d, (∀ g, n ≤ g → g < n + d → me y p g < y 1) → mo y p b (n + d) = mo y p b n
  | 0, _ => rfl
  | d + 1, h => by
    have ih := mo_up (b := b) d (fun g h1 h2 => h g h1 (by omega))
    have hz := h (n + d) (by omega) (by omega)
    show mo y p b (n + d + 1) = _
    conv => lhs; rw [mo]
    rw [ih]
    cases mo y p b n with
    | none => exact if_neg (fun z => by omega)
    | some q => exact if_neg (fun z => by omega)
theorem Va.mo6 {y : Nat → Nat} (h : Va y) {p : Nat} (hp : p < 5) (b : Nat) : mo y p b 6 = mo y p b (y 0) := by
  have h0 := h.1
  have h1 := h.2.1
  have e := mo_up (y := y) (p := p) (b := b) (n := y 0) (6 - y 0) (fun g ha hb => by
    have := (h.2.2.2.2.2.2.2.2.1 p g hp (by omega)).2 (Or.inr ha)
    omega)
  rw [show y 0 + (6 - y 0) = 6 by omega] at e
  exact e
theorem rb_up {y : Nat → Nat} {p n : Nat} : ∀ d, (∀ g, n ≤ g → g < n + d → me y p g = 0) → rb y p (n + d) = rb y p n
  | 0, _ => rfl
  | d + 1, h => by
    have ih := rb_up d (fun g h1 h2 => h g h1 (by omega))
    have hz := h (n + d) (by omega) (by omega)
    show rb y p (n + d + 1) = _
    rw [rb, if_neg (by omega), ih]
theorem Va.rb6 {y : Nat → Nat} (h : Va y) {p : Nat} (hp : p < 5) : rb y p 6 = rb y p (y 0) := by
  have h0 := h.1
  have e := rb_up (y := y) (p := p) (n := y 0) (6 - y 0) (fun g ha hb => (h.2.2.2.2.2.2.2.2.1 p g hp (by omega)).2 (Or.inr ha))
  rw [show y 0 + (6 - y 0) = 6 by omega] at e
  exact e
theorem and_two : ∀ b, b < 64 → ∀ n, n < 6 → b &&& 2 ^ n = if hs b n then 2 ^ n else 0 := by decide +kernel
theorem fset_rb {y : Nat → Nat} {p s : Nat} (h5 : y 5 < 64) : ∀ n, n ≤ 6 → fset y p s n = (y 5 &&& rb y p n) ||| s
  | 0, _ => by
    show s = (y 5 &&& 0) ||| s
    rw [Nat.and_zero, Nat.zero_or]
  | n + 1, hn => by
    unfold fset rb
    rw [fset_rb h5 n (by omega)]
    by_cases c : 0 < me y p n
    · rw [if_pos c, Nat.and_or_distrib_left, and_two _ h5 n (by omega)]
      by_cases d : hs (y 5) n
      · rw [if_pos ⟨d, c⟩, if_pos d, Nat.or_assoc, Nat.or_assoc, Nat.or_comm s]
      · rw [if_neg (fun z => d z.1), if_neg d, Nat.or_zero, Nat.or_zero]
    · rw [if_neg c, if_neg (fun z => c z.2), Nat.or_zero]
theorem dr_F1 {y : Nat → Nat} (h : Va y) {p : Nat} (hp : p < 5) (hf : y (16 + p) = 1) : dr y p = (y 5 &&& rb y p 6) ||| dset y p := by
  rw [dr, if_pos hf, fset_rb h.k64 _ h.1.2, h.rb6 hp]
theorem dr_F0 {y : Nat → Nat} {p : Nat} (hf : ¬ y (16 + p) = 1) : dr y p = 0 ||| dset y p := by
  rw [dr, if_neg hf, Nat.zero_or]
theorem ds_n {y : Nat → Nat} {p : Nat} (hk : y (6 + p) < 4) (h : mo y p (y 5) (y 0) = none) : dset y p = 0 := by
  rw [dset, if_neg (by omega), h]
theorem ds_1 {y : Nat → Nat} {p f : Nat} (hk : y (6 + p) = 1) (h : mo y p (y 5) (y 0) = some f) : dset y p = 2 ^ f := by
  rw [dset, if_neg (by omega), h]
  simp only [if_neg (show ¬ y (6 + p) = 3 by omega), if_neg (show ¬ y (6 + p) = 2 by omega), Nat.or_zero]
theorem ds_2 {y : Nat → Nat} {p f : Nat} (hk : y (6 + p) = 2) (h : mo y p (y 5) (y 0) = some f) : dset y p = 2 ^ f ||| two (mo y p (clr (y 5) f) (y 0)) := by
  rw [dset, if_neg (by omega), h]
  simp only [if_neg (show ¬ y (6 + p) = 3 by omega), if_pos hk]
theorem ds_3 {y : Nat → Nat} {p f : Nat} (hk : y (6 + p) = 3) (h : mo y p (y 5) (y 0) = some f) : dset y p = 2 ^ ((f + 1) % y 0) := by
  rw [dset, if_neg (by omega), h]
  simp only [if_pos hk, if_neg (show ¬ y (6 + p) = 2 by omega), Nat.or_zero]
theorem ds_4 {y : Nat → Nat} {p : Nat} (hk : y (6 + p) = 4) : dset y p = 2 ^ (y 4 % y 0) := by
  rw [dset, if_pos (by omega), if_neg (by omega), Nat.or_zero]
theorem ds_5 {y : Nat → Nat} {p : Nat} (hk : y (6 + p) = 5) : dset y p = 2 ^ (y 4 % y 0) ||| 1 := by
  rw [dset, if_pos (by omega), if_pos hk]
theorem andn_0 : ∀ b, b < 64 → nI b &&& (nI 0 ^^^ (-1)) = nI b := by decide +kernel
section
variable {l : Launch} {G : qG} {h : List va_E} {a : Nat} {y : Nat → Nat}
theorem c_X6_bitN  : Ct l G yX6_bit 0 [.int (nO none)] (h) (some (.int (nI 0))) (h) := by
  refine ctm_intro (maxL := 1) kw_X6_bit (by decide) (by decide) [some (.int (nO none))] rfl (Nat.le_of_ble_eq_true rfl) ?_
  intro X _ hcl hsl _ _ C E
  refine y_iload_n C D_X6_bit_0 rfl ?_
  refine y_if_ge C D_X6_bit_1 Iff.rfl (fun c_1 => absurd c_1 (by decide)) (fun c_1 => ?_)
  refine y_iconst C D_X6_bit_4 ki_0 ?_
  refine y_goto C D_X6_bit_5 ?_
  exact y_iret C E D_X6_bit_11 (rfl) (rfl)
theorem c_X5_nextBehindN (ha : a + 2 < h.length) : Ct l G yX5_nextBehind 0 [qr G a, .int (nO none)] (yc G h a y) (some (.int (nO none))) (yc G h a y) := by
  refine ctm_intro (maxL := 2) kw_X5_nextBehind (by decide) (by decide) [some (qr G a), some (.int (nO none))] rfl (Nat.le_of_ble_eq_true rfl) ?_
  intro X _ hcl hsl _ _ C E
  refine y_iload_n C D_X5_nextBehind_0 rfl ?_
  refine y_if_lt C D_X5_nextBehind_1 Iff.rfl (fun c_1 => ?_) (fun c_1 => absurd (by decide) c_1)
  refine y_ldc C D_X5_nextBehind_12 lk_X5_67 ?_
  refine y_goto C D_X5_nextBehind_14 ?_
  exact y_iret C E D_X5_nextBehind_25 (rfl) (rfl)
theorem c_X5_dreamsOf0 (ha : a + 2 < h.length) {p : Nat} (hp : p < 5) (hV : Va y) (h4 : y 4 < 2000) (hk : y (6 + p) = 0) : Ct l G yX5_dreamsOf 2 [qr G a, .int (nI p)] (yc G h a y) (some (.int (nI (0)))) (yc G h a y) := by
  refine ctm_intro (maxL := 4) kw_X5_dreamsOf (by decide) (by decide) [some (qr G a), some (.int (nI p)), none, none] rfl (Nat.le_of_ble_eq_true rfl) ?_
  intro X _ hcl hsl _ _ C E
  have v0 := hV.1
  have v1 := hV.2.1
  have v2 := hV.2.2.1
  have v3 := hV.2.2.2.1
  have v5 := hV.k64
  have hB : ∀ k, y k < 2000 := fun k => hV.lt h4 k
  have hfv := sb_lt (y := y) (o := 16) hV.fev
  have hfp := sb_hs (y := y) (o := 16) hV.fev hp
  have hmy : y 4 % y 0 < y 0 := Nat.mod_lt _ (by omega)
  refine y_iload_n C D_X5_dreamsOf_0 rfl ?_
  refine y_iconst C D_X5_dreamsOf_1 ki_0 ?_
  refine z_callS C D_X5_dreamsOf_2 lk_X5_55 (c_X5_hasRoom (by omega) (by omega)) rfl rfl (Nat.le_of_ble_eq_true rfl) (Nat.le_of_ble_eq_true rfl) ⟨Nat.zero_le _, Nat.zero_le _⟩ ?_
  refine z_ifneB C D_X5_dreamsOf_5 (fun c_5 => ?_) (fun c_5 => absurd ⟨hp, by decide⟩ c_5)
  refine y_aload_n C D_X5_dreamsOf_10 rfl ?_
  refine y_get C D_X5_dreamsOf_11 fl_X5_40 (yc_o ha) rfl ?_
  refine y_iload_n C D_X5_dreamsOf_14 rfl ?_
  refine z_callSN C D_X5_dreamsOf_15 lk_X5_68 (c_X6_hasBit (by omega) (by omega)) rfl rfl (Nat.le_of_ble_eq_true rfl) (Nat.le_of_ble_eq_true rfl) ⟨Nat.zero_le _, Nat.zero_le _⟩ ?_
  refine z_ifeqB C D_X5_dreamsOf_18 (fun c_18 => ?_) (fun c_18 => ?_)
  · refine y_iconst C D_X5_dreamsOf_34 ki_0 ?_
    have hd := dr_F0 (y := y) (p := p) (fun z => c_18 (hfp.mpr z))
    refine y_istore_n C D_X5_dreamsOf_35 (by decide) (qok_s rfl rfl) ?_
    refine y_aload_n C D_X5_dreamsOf_36 rfl ?_
    refine y_iload_n C D_X5_dreamsOf_37 rfl ?_
    refine y_aload_n C D_X5_dreamsOf_38 rfl ?_
    refine y_get C D_X5_dreamsOf_39 fl_X5_34 (yc_o ha) rfl ?_
    refine y_aload_n C D_X5_dreamsOf_42 rfl ?_
    refine y_get C D_X5_dreamsOf_43 fl_X5_22 (yc_o ha) rfl ?_
    refine z_callV C D_X5_dreamsOf_46 lk_X5_74 (c_X5_clearest ha hp (by omega) (by omega) hB) (yc_o ha) rfl rfl (Nat.le_of_ble_eq_true rfl) (Nat.le_of_ble_eq_true rfl) ⟨Nat.zero_le _, Nat.zero_le _⟩ ?_
    refine y_istore_n C D_X5_dreamsOf_49 (by decide) (qok_s rfl rfl) ?_
    refine y_aload_n C D_X5_dreamsOf_50 rfl ?_
    refine y_get C D_X5_dreamsOf_51 fl_X5_9 (yc_o ha) rfl ?_
    refine y_iload_n C D_X5_dreamsOf_54 rfl ?_
    refine z_ild C D_X5_dreamsOf_55 (yc_k ha) (by omega) (by decide) (tr_at (by omega)) ?_
    rw [hk]
    refine y_tabOut (tgt := 166) C D_X5_dreamsOf_56 (Or.inl (by decide)) (by decide) ?_
    refine y_iconst C D_X5_dreamsOf_166 ki_0 ?_
    exact y_iret C E D_X5_dreamsOf_167 (rfl) (rfl)
  · refine y_aload_n C D_X5_dreamsOf_21 rfl ?_
    refine y_get C D_X5_dreamsOf_22 fl_X5_34 (yc_o ha) rfl ?_
    refine y_aload_n C D_X5_dreamsOf_25 rfl ?_
    refine y_iload_n C D_X5_dreamsOf_26 rfl ?_
    refine z_callV C D_X5_dreamsOf_27 lk_X5_71 (c_X5_rememberedBy ha hp hB) (yc_o ha) rfl rfl (Nat.le_of_ble_eq_true rfl) (Nat.le_of_ble_eq_true rfl) ⟨Nat.zero_le _, Nat.zero_le _⟩ ?_
    refine z_iand C D_X5_dreamsOf_30 ?_
    refine y_goto C D_X5_dreamsOf_31 ?_
    have hd := dr_F1 hV hp (hfp.mp c_18)
    refine y_istore_n C D_X5_dreamsOf_35 (by decide) (qok_s rfl rfl) ?_
    refine y_aload_n C D_X5_dreamsOf_36 rfl ?_
    refine y_iload_n C D_X5_dreamsOf_37 rfl ?_
    refine y_aload_n C D_X5_dreamsOf_38 rfl ?_
    refine y_get C D_X5_dreamsOf_39 fl_X5_34 (yc_o ha) rfl ?_
    refine y_aload_n C D_X5_dreamsOf_42 rfl ?_
    refine y_get C D_X5_dreamsOf_43 fl_X5_22 (yc_o ha) rfl ?_
    refine z_callV C D_X5_dreamsOf_46 lk_X5_74 (c_X5_clearest ha hp (by omega) (by omega) hB) (yc_o ha) rfl rfl (Nat.le_of_ble_eq_true rfl) (Nat.le_of_ble_eq_true rfl) ⟨Nat.zero_le _, Nat.zero_le _⟩ ?_
    refine y_istore_n C D_X5_dreamsOf_49 (by decide) (qok_s rfl rfl) ?_
    refine y_aload_n C D_X5_dreamsOf_50 rfl ?_
    refine y_get C D_X5_dreamsOf_51 fl_X5_9 (yc_o ha) rfl ?_
    refine y_iload_n C D_X5_dreamsOf_54 rfl ?_
    refine z_ild C D_X5_dreamsOf_55 (yc_k ha) (by omega) (by decide) (tr_at (by omega)) ?_
    rw [hk]
    refine y_tabOut (tgt := 166) C D_X5_dreamsOf_56 (Or.inl (by decide)) (by decide) ?_
    refine y_iconst C D_X5_dreamsOf_166 ki_0 ?_
    exact y_iret C E D_X5_dreamsOf_167 (rfl) (rfl)
theorem c_X5_dreamsOf1 (ha : a + 2 < h.length) {p : Nat} (hp : p < 5) (hV : Va y) (h4 : y 4 < 2000) (hk : y (6 + p) = 1) : Ct l G yX5_dreamsOf 2 [qr G a, .int (nI p)] (yc G h a y) (some (.int (nI (dr y p)))) (yc G h a y) := by
  refine ctm_intro (maxL := 4) kw_X5_dreamsOf (by decide) (by decide) [some (qr G a), some (.int (nI p)), none, none] rfl (Nat.le_of_ble_eq_true rfl) ?_
  intro X _ hcl hsl _ _ C E
  have v0 := hV.1
  have v1 := hV.2.1
  have v2 := hV.2.2.1
  have v3 := hV.2.2.2.1
  have v5 := hV.k64
  have hB : ∀ k, y k < 2000 := fun k => hV.lt h4 k
  have hfv := sb_lt (y := y) (o := 16) hV.fev
  have hfp := sb_hs (y := y) (o := 16) hV.fev hp
  have hmy : y 4 % y 0 < y 0 := Nat.mod_lt _ (by omega)
  refine y_iload_n C D_X5_dreamsOf_0 rfl ?_
  refine y_iconst C D_X5_dreamsOf_1 ki_0 ?_
  refine z_callS C D_X5_dreamsOf_2 lk_X5_55 (c_X5_hasRoom (by omega) (by omega)) rfl rfl (Nat.le_of_ble_eq_true rfl) (Nat.le_of_ble_eq_true rfl) ⟨Nat.zero_le _, Nat.zero_le _⟩ ?_
  refine z_ifneB C D_X5_dreamsOf_5 (fun c_5 => ?_) (fun c_5 => absurd ⟨hp, by decide⟩ c_5)
  refine y_aload_n C D_X5_dreamsOf_10 rfl ?_
  refine y_get C D_X5_dreamsOf_11 fl_X5_40 (yc_o ha) rfl ?_
  refine y_iload_n C D_X5_dreamsOf_14 rfl ?_
  refine z_callSN C D_X5_dreamsOf_15 lk_X5_68 (c_X6_hasBit (by omega) (by omega)) rfl rfl (Nat.le_of_ble_eq_true rfl) (Nat.le_of_ble_eq_true rfl) ⟨Nat.zero_le _, Nat.zero_le _⟩ ?_
  refine z_ifeqB C D_X5_dreamsOf_18 (fun c_18 => ?_) (fun c_18 => ?_)
  · refine y_iconst C D_X5_dreamsOf_34 ki_0 ?_
    have hd := dr_F0 (y := y) (p := p) (fun z => c_18 (hfp.mpr z))
    refine y_istore_n C D_X5_dreamsOf_35 (by decide) (qok_s rfl rfl) ?_
    refine y_aload_n C D_X5_dreamsOf_36 rfl ?_
    refine y_iload_n C D_X5_dreamsOf_37 rfl ?_
    refine y_aload_n C D_X5_dreamsOf_38 rfl ?_
    refine y_get C D_X5_dreamsOf_39 fl_X5_34 (yc_o ha) rfl ?_
    refine y_aload_n C D_X5_dreamsOf_42 rfl ?_
    refine y_get C D_X5_dreamsOf_43 fl_X5_22 (yc_o ha) rfl ?_
    refine z_callV C D_X5_dreamsOf_46 lk_X5_74 (c_X5_clearest ha hp (by omega) (by omega) hB) (yc_o ha) rfl rfl (Nat.le_of_ble_eq_true rfl) (Nat.le_of_ble_eq_true rfl) ⟨Nat.zero_le _, Nat.zero_le _⟩ ?_
    rw [hV.mo6 hp]
    rcases hmo : mo y p (y 5) (y 0) with _ | f
    · have hds := ds_n (by omega) hmo
      refine y_istore_n C D_X5_dreamsOf_49 (by decide) (qok_s rfl rfl) ?_
      refine y_aload_n C D_X5_dreamsOf_50 rfl ?_
      refine y_get C D_X5_dreamsOf_51 fl_X5_9 (yc_o ha) rfl ?_
      refine y_iload_n C D_X5_dreamsOf_54 rfl ?_
      refine z_ild C D_X5_dreamsOf_55 (yc_k ha) (by omega) (by decide) (tr_at (by omega)) ?_
      rw [hk]
      refine y_tabIn (off := 36) (tgt := 92) C D_X5_dreamsOf_56 (by decide) (by decide) (by decide +kernel) (by decide) ?_
      refine y_iload_n C D_X5_dreamsOf_92 rfl ?_
      refine y_iload_n C D_X5_dreamsOf_93 rfl ?_
      refine z_callSN C D_X5_dreamsOf_94 lk_X5_78 (c_X6_bitN) rfl rfl (Nat.le_of_ble_eq_true rfl) (Nat.le_of_ble_eq_true rfl) ⟨Nat.zero_le _, Nat.zero_le _⟩ ?_
      refine z_ior C D_X5_dreamsOf_97 ?_
      exact y_iret C E D_X5_dreamsOf_98 (by first | (rw [hd, hds]; done) | (rw [hd, hds]; simp only [two, Nat.or_zero, Nat.or_assoc])) (rfl)
    · have hf := mo_lt hmo
      have hff : (f + 1) % y 0 < y 0 := Nat.mod_lt _ (by omega)
      have hds := ds_1 hk hmo
      refine y_istore_n C D_X5_dreamsOf_49 (by decide) (qok_s rfl rfl) ?_
      refine y_aload_n C D_X5_dreamsOf_50 rfl ?_
      refine y_get C D_X5_dreamsOf_51 fl_X5_9 (yc_o ha) rfl ?_
      refine y_iload_n C D_X5_dreamsOf_54 rfl ?_
      refine z_ild C D_X5_dreamsOf_55 (yc_k ha) (by omega) (by decide) (tr_at (by omega)) ?_
      rw [hk]
      refine y_tabIn (off := 36) (tgt := 92) C D_X5_dreamsOf_56 (by decide) (by decide) (by decide +kernel) (by decide) ?_
      refine y_iload_n C D_X5_dreamsOf_92 rfl ?_
      refine y_iload_n C D_X5_dreamsOf_93 rfl ?_
      refine z_callSN C D_X5_dreamsOf_94 lk_X5_78 (c_X6_bit (by omega)) rfl rfl (Nat.le_of_ble_eq_true rfl) (Nat.le_of_ble_eq_true rfl) ⟨Nat.zero_le _, Nat.zero_le _⟩ ?_
      refine z_ior C D_X5_dreamsOf_97 ?_
      exact y_iret C E D_X5_dreamsOf_98 (by first | (rw [hd, hds]; done) | (rw [hd, hds]; simp only [two, Nat.or_zero, Nat.or_assoc])) (rfl)
  · refine y_aload_n C D_X5_dreamsOf_21 rfl ?_
    refine y_get C D_X5_dreamsOf_22 fl_X5_34 (yc_o ha) rfl ?_
    refine y_aload_n C D_X5_dreamsOf_25 rfl ?_
    refine y_iload_n C D_X5_dreamsOf_26 rfl ?_
    refine z_callV C D_X5_dreamsOf_27 lk_X5_71 (c_X5_rememberedBy ha hp hB) (yc_o ha) rfl rfl (Nat.le_of_ble_eq_true rfl) (Nat.le_of_ble_eq_true rfl) ⟨Nat.zero_le _, Nat.zero_le _⟩ ?_
    refine z_iand C D_X5_dreamsOf_30 ?_
    refine y_goto C D_X5_dreamsOf_31 ?_
    have hd := dr_F1 hV hp (hfp.mp c_18)
    refine y_istore_n C D_X5_dreamsOf_35 (by decide) (qok_s rfl rfl) ?_
    refine y_aload_n C D_X5_dreamsOf_36 rfl ?_
    refine y_iload_n C D_X5_dreamsOf_37 rfl ?_
    refine y_aload_n C D_X5_dreamsOf_38 rfl ?_
    refine y_get C D_X5_dreamsOf_39 fl_X5_34 (yc_o ha) rfl ?_
    refine y_aload_n C D_X5_dreamsOf_42 rfl ?_
    refine y_get C D_X5_dreamsOf_43 fl_X5_22 (yc_o ha) rfl ?_
    refine z_callV C D_X5_dreamsOf_46 lk_X5_74 (c_X5_clearest ha hp (by omega) (by omega) hB) (yc_o ha) rfl rfl (Nat.le_of_ble_eq_true rfl) (Nat.le_of_ble_eq_true rfl) ⟨Nat.zero_le _, Nat.zero_le _⟩ ?_
    rw [hV.mo6 hp]
    rcases hmo : mo y p (y 5) (y 0) with _ | f
    · have hds := ds_n (by omega) hmo
      refine y_istore_n C D_X5_dreamsOf_49 (by decide) (qok_s rfl rfl) ?_
      refine y_aload_n C D_X5_dreamsOf_50 rfl ?_
      refine y_get C D_X5_dreamsOf_51 fl_X5_9 (yc_o ha) rfl ?_
      refine y_iload_n C D_X5_dreamsOf_54 rfl ?_
      refine z_ild C D_X5_dreamsOf_55 (yc_k ha) (by omega) (by decide) (tr_at (by omega)) ?_
      rw [hk]
      refine y_tabIn (off := 36) (tgt := 92) C D_X5_dreamsOf_56 (by decide) (by decide) (by decide +kernel) (by decide) ?_
      refine y_iload_n C D_X5_dreamsOf_92 rfl ?_
      refine y_iload_n C D_X5_dreamsOf_93 rfl ?_
      refine z_callSN C D_X5_dreamsOf_94 lk_X5_78 (c_X6_bitN) rfl rfl (Nat.le_of_ble_eq_true rfl) (Nat.le_of_ble_eq_true rfl) ⟨Nat.zero_le _, Nat.zero_le _⟩ ?_
      refine z_ior C D_X5_dreamsOf_97 ?_
      exact y_iret C E D_X5_dreamsOf_98 (by first | (rw [hd, hds]; done) | (rw [hd, hds]; simp only [two, Nat.or_zero, Nat.or_assoc])) (rfl)
    · have hf := mo_lt hmo
      have hff : (f + 1) % y 0 < y 0 := Nat.mod_lt _ (by omega)
      have hds := ds_1 hk hmo
      refine y_istore_n C D_X5_dreamsOf_49 (by decide) (qok_s rfl rfl) ?_
      refine y_aload_n C D_X5_dreamsOf_50 rfl ?_
      refine y_get C D_X5_dreamsOf_51 fl_X5_9 (yc_o ha) rfl ?_
      refine y_iload_n C D_X5_dreamsOf_54 rfl ?_
      refine z_ild C D_X5_dreamsOf_55 (yc_k ha) (by omega) (by decide) (tr_at (by omega)) ?_
      rw [hk]
      refine y_tabIn (off := 36) (tgt := 92) C D_X5_dreamsOf_56 (by decide) (by decide) (by decide +kernel) (by decide) ?_
      refine y_iload_n C D_X5_dreamsOf_92 rfl ?_
      refine y_iload_n C D_X5_dreamsOf_93 rfl ?_
      refine z_callSN C D_X5_dreamsOf_94 lk_X5_78 (c_X6_bit (by omega)) rfl rfl (Nat.le_of_ble_eq_true rfl) (Nat.le_of_ble_eq_true rfl) ⟨Nat.zero_le _, Nat.zero_le _⟩ ?_
      refine z_ior C D_X5_dreamsOf_97 ?_
      exact y_iret C E D_X5_dreamsOf_98 (by first | (rw [hd, hds]; done) | (rw [hd, hds]; simp only [two, Nat.or_zero, Nat.or_assoc])) (rfl)
theorem c_X5_dreamsOf2 (ha : a + 2 < h.length) {p : Nat} (hp : p < 5) (hV : Va y) (h4 : y 4 < 2000) (hk : y (6 + p) = 2) : Ct l G yX5_dreamsOf 2 [qr G a, .int (nI p)] (yc G h a y) (some (.int (nI (dr y p)))) (yc G h a y) := by
  refine ctm_intro (maxL := 4) kw_X5_dreamsOf (by decide) (by decide) [some (qr G a), some (.int (nI p)), none, none] rfl (Nat.le_of_ble_eq_true rfl) ?_
  intro X _ hcl hsl _ _ C E
  have v0 := hV.1
  have v1 := hV.2.1
  have v2 := hV.2.2.1
  have v3 := hV.2.2.2.1
  have v5 := hV.k64
  have hB : ∀ k, y k < 2000 := fun k => hV.lt h4 k
  have hfv := sb_lt (y := y) (o := 16) hV.fev
  have hfp := sb_hs (y := y) (o := 16) hV.fev hp
  have hmy : y 4 % y 0 < y 0 := Nat.mod_lt _ (by omega)
  refine y_iload_n C D_X5_dreamsOf_0 rfl ?_
  refine y_iconst C D_X5_dreamsOf_1 ki_0 ?_
  refine z_callS C D_X5_dreamsOf_2 lk_X5_55 (c_X5_hasRoom (by omega) (by omega)) rfl rfl (Nat.le_of_ble_eq_true rfl) (Nat.le_of_ble_eq_true rfl) ⟨Nat.zero_le _, Nat.zero_le _⟩ ?_
  refine z_ifneB C D_X5_dreamsOf_5 (fun c_5 => ?_) (fun c_5 => absurd ⟨hp, by decide⟩ c_5)
  refine y_aload_n C D_X5_dreamsOf_10 rfl ?_
  refine y_get C D_X5_dreamsOf_11 fl_X5_40 (yc_o ha) rfl ?_
  refine y_iload_n C D_X5_dreamsOf_14 rfl ?_
  refine z_callSN C D_X5_dreamsOf_15 lk_X5_68 (c_X6_hasBit (by omega) (by omega)) rfl rfl (Nat.le_of_ble_eq_true rfl) (Nat.le_of_ble_eq_true rfl) ⟨Nat.zero_le _, Nat.zero_le _⟩ ?_
  refine z_ifeqB C D_X5_dreamsOf_18 (fun c_18 => ?_) (fun c_18 => ?_)
  · refine y_iconst C D_X5_dreamsOf_34 ki_0 ?_
    have hd := dr_F0 (y := y) (p := p) (fun z => c_18 (hfp.mpr z))
    refine y_istore_n C D_X5_dreamsOf_35 (by decide) (qok_s rfl rfl) ?_
    refine y_aload_n C D_X5_dreamsOf_36 rfl ?_
    refine y_iload_n C D_X5_dreamsOf_37 rfl ?_
    refine y_aload_n C D_X5_dreamsOf_38 rfl ?_
    refine y_get C D_X5_dreamsOf_39 fl_X5_34 (yc_o ha) rfl ?_
    refine y_aload_n C D_X5_dreamsOf_42 rfl ?_
    refine y_get C D_X5_dreamsOf_43 fl_X5_22 (yc_o ha) rfl ?_
    refine z_callV C D_X5_dreamsOf_46 lk_X5_74 (c_X5_clearest ha hp (by omega) (by omega) hB) (yc_o ha) rfl rfl (Nat.le_of_ble_eq_true rfl) (Nat.le_of_ble_eq_true rfl) ⟨Nat.zero_le _, Nat.zero_le _⟩ ?_
    rw [hV.mo6 hp]
    rcases hmo : mo y p (y 5) (y 0) with _ | f
    · have hds := ds_n (by omega) hmo
      refine y_istore_n C D_X5_dreamsOf_49 (by decide) (qok_s rfl rfl) ?_
      refine y_aload_n C D_X5_dreamsOf_50 rfl ?_
      refine y_get C D_X5_dreamsOf_51 fl_X5_9 (yc_o ha) rfl ?_
      refine y_iload_n C D_X5_dreamsOf_54 rfl ?_
      refine z_ild C D_X5_dreamsOf_55 (yc_k ha) (by omega) (by decide) (tr_at (by omega)) ?_
      rw [hk]
      refine y_tabIn (off := 43) (tgt := 99) C D_X5_dreamsOf_56 (by decide) (by decide) (by decide +kernel) (by decide) ?_
      refine y_iload_n C D_X5_dreamsOf_99 rfl ?_
      refine y_iload_n C D_X5_dreamsOf_100 rfl ?_
      refine z_callSN C D_X5_dreamsOf_101 lk_X5_78 (c_X6_bitN) rfl rfl (Nat.le_of_ble_eq_true rfl) (Nat.le_of_ble_eq_true rfl) ⟨Nat.zero_le _, Nat.zero_le _⟩ ?_
      refine z_ior C D_X5_dreamsOf_104 ?_
      refine y_aload_n C D_X5_dreamsOf_105 rfl ?_
      refine y_iload_n C D_X5_dreamsOf_106 rfl ?_
      refine y_aload_n C D_X5_dreamsOf_107 rfl ?_
      refine y_get C D_X5_dreamsOf_108 fl_X5_34 (yc_o ha) rfl ?_
      refine y_iload_n C D_X5_dreamsOf_111 rfl ?_
      refine z_callSN C D_X5_dreamsOf_112 lk_X5_78 (c_X6_bitN) rfl rfl (Nat.le_of_ble_eq_true rfl) (Nat.le_of_ble_eq_true rfl) ⟨Nat.zero_le _, Nat.zero_le _⟩ ?_
      refine y_iconst C D_X5_dreamsOf_115 ki_m1 ?_
      refine y_ixor C D_X5_dreamsOf_116 ?_
      refine y_iand C D_X5_dreamsOf_117 ?_
      refine y_top (andn_0 _ v5) ?_
      refine y_aload_n C D_X5_dreamsOf_118 rfl ?_
      refine y_get C D_X5_dreamsOf_119 fl_X5_22 (yc_o ha) rfl ?_
      refine z_callV C D_X5_dreamsOf_122 lk_X5_74 (c_X5_clearest ha hp (by omega) (by omega) hB) (yc_o ha) rfl rfl (Nat.le_of_ble_eq_true rfl) (Nat.le_of_ble_eq_true rfl) ⟨Nat.zero_le _, Nat.zero_le _⟩ ?_
      rw [hV.mo6 hp, hmo]
      rcases (rfl : True = True) with _
      · skip
        refine z_callSN C D_X5_dreamsOf_125 lk_X5_78 (c_X6_bitN) rfl rfl (Nat.le_of_ble_eq_true rfl) (Nat.le_of_ble_eq_true rfl) ⟨Nat.zero_le _, Nat.zero_le _⟩ ?_
        refine z_ior C D_X5_dreamsOf_128 ?_
        exact y_iret C E D_X5_dreamsOf_129 (by first | (rw [hd, hds]; done) | (rw [hd, hds]; simp only [two, Nat.or_zero, Nat.or_assoc])) (rfl)
    · have hf := mo_lt hmo
      have hff : (f + 1) % y 0 < y 0 := Nat.mod_lt _ (by omega)
      have hds := ds_2 hk hmo
      refine y_istore_n C D_X5_dreamsOf_49 (by decide) (qok_s rfl rfl) ?_
      refine y_aload_n C D_X5_dreamsOf_50 rfl ?_
      refine y_get C D_X5_dreamsOf_51 fl_X5_9 (yc_o ha) rfl ?_
      refine y_iload_n C D_X5_dreamsOf_54 rfl ?_
      refine z_ild C D_X5_dreamsOf_55 (yc_k ha) (by omega) (by decide) (tr_at (by omega)) ?_
      rw [hk]
      refine y_tabIn (off := 43) (tgt := 99) C D_X5_dreamsOf_56 (by decide) (by decide) (by decide +kernel) (by decide) ?_
      refine y_iload_n C D_X5_dreamsOf_99 rfl ?_
      refine y_iload_n C D_X5_dreamsOf_100 rfl ?_
      refine z_callSN C D_X5_dreamsOf_101 lk_X5_78 (c_X6_bit (by omega)) rfl rfl (Nat.le_of_ble_eq_true rfl) (Nat.le_of_ble_eq_true rfl) ⟨Nat.zero_le _, Nat.zero_le _⟩ ?_
      refine z_ior C D_X5_dreamsOf_104 ?_
      refine y_aload_n C D_X5_dreamsOf_105 rfl ?_
      refine y_iload_n C D_X5_dreamsOf_106 rfl ?_
      refine y_aload_n C D_X5_dreamsOf_107 rfl ?_
      refine y_get C D_X5_dreamsOf_108 fl_X5_34 (yc_o ha) rfl ?_
      refine y_iload_n C D_X5_dreamsOf_111 rfl ?_
      refine z_callSN C D_X5_dreamsOf_112 lk_X5_78 (c_X6_bit (by omega)) rfl rfl (Nat.le_of_ble_eq_true rfl) (Nat.le_of_ble_eq_true rfl) ⟨Nat.zero_le _, Nat.zero_le _⟩ ?_
      refine y_iconst C D_X5_dreamsOf_115 ki_m1 ?_
      refine y_ixor C D_X5_dreamsOf_116 ?_
      refine y_iand C D_X5_dreamsOf_117 ?_
      have hcl2 := clr_lt _ v5 f (by omega)
      refine y_top (clr_eq _ v5 _ (by omega)) ?_
      refine y_aload_n C D_X5_dreamsOf_118 rfl ?_
      refine y_get C D_X5_dreamsOf_119 fl_X5_22 (yc_o ha) rfl ?_
      refine z_callV C D_X5_dreamsOf_122 lk_X5_74 (c_X5_clearest ha hp (by omega) (by omega) hB) (yc_o ha) rfl rfl (Nat.le_of_ble_eq_true rfl) (Nat.le_of_ble_eq_true rfl) ⟨Nat.zero_le _, Nat.zero_le _⟩ ?_
      rw [hV.mo6 hp]
      rcases hmq : mo y p (clr (y 5) f) (y 0) with _ | q
      · rw [hmq] at hds
        refine z_callSN C D_X5_dreamsOf_125 lk_X5_78 (c_X6_bitN) rfl rfl (Nat.le_of_ble_eq_true rfl) (Nat.le_of_ble_eq_true rfl) ⟨Nat.zero_le _, Nat.zero_le _⟩ ?_
        refine z_ior C D_X5_dreamsOf_128 ?_
        exact y_iret C E D_X5_dreamsOf_129 (by first | (rw [hd, hds]; done) | (rw [hd, hds]; simp only [two, Nat.or_zero, Nat.or_assoc])) (rfl)
      · have hq := mo_lt hmq
        rw [hmq] at hds
        refine z_callSN C D_X5_dreamsOf_125 lk_X5_78 (c_X6_bit (by omega)) rfl rfl (Nat.le_of_ble_eq_true rfl) (Nat.le_of_ble_eq_true rfl) ⟨Nat.zero_le _, Nat.zero_le _⟩ ?_
        refine z_ior C D_X5_dreamsOf_128 ?_
        exact y_iret C E D_X5_dreamsOf_129 (by first | (rw [hd, hds]; done) | (rw [hd, hds]; simp only [two, Nat.or_zero, Nat.or_assoc])) (rfl)
  · refine y_aload_n C D_X5_dreamsOf_21 rfl ?_
    refine y_get C D_X5_dreamsOf_22 fl_X5_34 (yc_o ha) rfl ?_
    refine y_aload_n C D_X5_dreamsOf_25 rfl ?_
    refine y_iload_n C D_X5_dreamsOf_26 rfl ?_
    refine z_callV C D_X5_dreamsOf_27 lk_X5_71 (c_X5_rememberedBy ha hp hB) (yc_o ha) rfl rfl (Nat.le_of_ble_eq_true rfl) (Nat.le_of_ble_eq_true rfl) ⟨Nat.zero_le _, Nat.zero_le _⟩ ?_
    refine z_iand C D_X5_dreamsOf_30 ?_
    refine y_goto C D_X5_dreamsOf_31 ?_
    have hd := dr_F1 hV hp (hfp.mp c_18)
    refine y_istore_n C D_X5_dreamsOf_35 (by decide) (qok_s rfl rfl) ?_
    refine y_aload_n C D_X5_dreamsOf_36 rfl ?_
    refine y_iload_n C D_X5_dreamsOf_37 rfl ?_
    refine y_aload_n C D_X5_dreamsOf_38 rfl ?_
    refine y_get C D_X5_dreamsOf_39 fl_X5_34 (yc_o ha) rfl ?_
    refine y_aload_n C D_X5_dreamsOf_42 rfl ?_
    refine y_get C D_X5_dreamsOf_43 fl_X5_22 (yc_o ha) rfl ?_
    refine z_callV C D_X5_dreamsOf_46 lk_X5_74 (c_X5_clearest ha hp (by omega) (by omega) hB) (yc_o ha) rfl rfl (Nat.le_of_ble_eq_true rfl) (Nat.le_of_ble_eq_true rfl) ⟨Nat.zero_le _, Nat.zero_le _⟩ ?_
    rw [hV.mo6 hp]
    rcases hmo : mo y p (y 5) (y 0) with _ | f
    · have hds := ds_n (by omega) hmo
      refine y_istore_n C D_X5_dreamsOf_49 (by decide) (qok_s rfl rfl) ?_
      refine y_aload_n C D_X5_dreamsOf_50 rfl ?_
      refine y_get C D_X5_dreamsOf_51 fl_X5_9 (yc_o ha) rfl ?_
      refine y_iload_n C D_X5_dreamsOf_54 rfl ?_
      refine z_ild C D_X5_dreamsOf_55 (yc_k ha) (by omega) (by decide) (tr_at (by omega)) ?_
      rw [hk]
      refine y_tabIn (off := 43) (tgt := 99) C D_X5_dreamsOf_56 (by decide) (by decide) (by decide +kernel) (by decide) ?_
      refine y_iload_n C D_X5_dreamsOf_99 rfl ?_
      refine y_iload_n C D_X5_dreamsOf_100 rfl ?_
      refine z_callSN C D_X5_dreamsOf_101 lk_X5_78 (c_X6_bitN) rfl rfl (Nat.le_of_ble_eq_true rfl) (Nat.le_of_ble_eq_true rfl) ⟨Nat.zero_le _, Nat.zero_le _⟩ ?_
      refine z_ior C D_X5_dreamsOf_104 ?_
      refine y_aload_n C D_X5_dreamsOf_105 rfl ?_
      refine y_iload_n C D_X5_dreamsOf_106 rfl ?_
      refine y_aload_n C D_X5_dreamsOf_107 rfl ?_
      refine y_get C D_X5_dreamsOf_108 fl_X5_34 (yc_o ha) rfl ?_
      refine y_iload_n C D_X5_dreamsOf_111 rfl ?_
      refine z_callSN C D_X5_dreamsOf_112 lk_X5_78 (c_X6_bitN) rfl rfl (Nat.le_of_ble_eq_true rfl) (Nat.le_of_ble_eq_true rfl) ⟨Nat.zero_le _, Nat.zero_le _⟩ ?_
      refine y_iconst C D_X5_dreamsOf_115 ki_m1 ?_
      refine y_ixor C D_X5_dreamsOf_116 ?_
      refine y_iand C D_X5_dreamsOf_117 ?_
      refine y_top (andn_0 _ v5) ?_
      refine y_aload_n C D_X5_dreamsOf_118 rfl ?_
      refine y_get C D_X5_dreamsOf_119 fl_X5_22 (yc_o ha) rfl ?_
      refine z_callV C D_X5_dreamsOf_122 lk_X5_74 (c_X5_clearest ha hp (by omega) (by omega) hB) (yc_o ha) rfl rfl (Nat.le_of_ble_eq_true rfl) (Nat.le_of_ble_eq_true rfl) ⟨Nat.zero_le _, Nat.zero_le _⟩ ?_
      rw [hV.mo6 hp, hmo]
      rcases (rfl : True = True) with _
      · skip
        refine z_callSN C D_X5_dreamsOf_125 lk_X5_78 (c_X6_bitN) rfl rfl (Nat.le_of_ble_eq_true rfl) (Nat.le_of_ble_eq_true rfl) ⟨Nat.zero_le _, Nat.zero_le _⟩ ?_
        refine z_ior C D_X5_dreamsOf_128 ?_
        exact y_iret C E D_X5_dreamsOf_129 (by first | (rw [hd, hds]; done) | (rw [hd, hds]; simp only [two, Nat.or_zero, Nat.or_assoc])) (rfl)
    · have hf := mo_lt hmo
      have hff : (f + 1) % y 0 < y 0 := Nat.mod_lt _ (by omega)
      have hds := ds_2 hk hmo
      refine y_istore_n C D_X5_dreamsOf_49 (by decide) (qok_s rfl rfl) ?_
      refine y_aload_n C D_X5_dreamsOf_50 rfl ?_
      refine y_get C D_X5_dreamsOf_51 fl_X5_9 (yc_o ha) rfl ?_
      refine y_iload_n C D_X5_dreamsOf_54 rfl ?_
      refine z_ild C D_X5_dreamsOf_55 (yc_k ha) (by omega) (by decide) (tr_at (by omega)) ?_
      rw [hk]
      refine y_tabIn (off := 43) (tgt := 99) C D_X5_dreamsOf_56 (by decide) (by decide) (by decide +kernel) (by decide) ?_
      refine y_iload_n C D_X5_dreamsOf_99 rfl ?_
      refine y_iload_n C D_X5_dreamsOf_100 rfl ?_
      refine z_callSN C D_X5_dreamsOf_101 lk_X5_78 (c_X6_bit (by omega)) rfl rfl (Nat.le_of_ble_eq_true rfl) (Nat.le_of_ble_eq_true rfl) ⟨Nat.zero_le _, Nat.zero_le _⟩ ?_
      refine z_ior C D_X5_dreamsOf_104 ?_
      refine y_aload_n C D_X5_dreamsOf_105 rfl ?_
      refine y_iload_n C D_X5_dreamsOf_106 rfl ?_
      refine y_aload_n C D_X5_dreamsOf_107 rfl ?_
      refine y_get C D_X5_dreamsOf_108 fl_X5_34 (yc_o ha) rfl ?_
      refine y_iload_n C D_X5_dreamsOf_111 rfl ?_
      refine z_callSN C D_X5_dreamsOf_112 lk_X5_78 (c_X6_bit (by omega)) rfl rfl (Nat.le_of_ble_eq_true rfl) (Nat.le_of_ble_eq_true rfl) ⟨Nat.zero_le _, Nat.zero_le _⟩ ?_
      refine y_iconst C D_X5_dreamsOf_115 ki_m1 ?_
      refine y_ixor C D_X5_dreamsOf_116 ?_
      refine y_iand C D_X5_dreamsOf_117 ?_
      have hcl2 := clr_lt _ v5 f (by omega)
      refine y_top (clr_eq _ v5 _ (by omega)) ?_
      refine y_aload_n C D_X5_dreamsOf_118 rfl ?_
      refine y_get C D_X5_dreamsOf_119 fl_X5_22 (yc_o ha) rfl ?_
      refine z_callV C D_X5_dreamsOf_122 lk_X5_74 (c_X5_clearest ha hp (by omega) (by omega) hB) (yc_o ha) rfl rfl (Nat.le_of_ble_eq_true rfl) (Nat.le_of_ble_eq_true rfl) ⟨Nat.zero_le _, Nat.zero_le _⟩ ?_
      rw [hV.mo6 hp]
      rcases hmq : mo y p (clr (y 5) f) (y 0) with _ | q
      · rw [hmq] at hds
        refine z_callSN C D_X5_dreamsOf_125 lk_X5_78 (c_X6_bitN) rfl rfl (Nat.le_of_ble_eq_true rfl) (Nat.le_of_ble_eq_true rfl) ⟨Nat.zero_le _, Nat.zero_le _⟩ ?_
        refine z_ior C D_X5_dreamsOf_128 ?_
        exact y_iret C E D_X5_dreamsOf_129 (by first | (rw [hd, hds]; done) | (rw [hd, hds]; simp only [two, Nat.or_zero, Nat.or_assoc])) (rfl)
      · have hq := mo_lt hmq
        rw [hmq] at hds
        refine z_callSN C D_X5_dreamsOf_125 lk_X5_78 (c_X6_bit (by omega)) rfl rfl (Nat.le_of_ble_eq_true rfl) (Nat.le_of_ble_eq_true rfl) ⟨Nat.zero_le _, Nat.zero_le _⟩ ?_
        refine z_ior C D_X5_dreamsOf_128 ?_
        exact y_iret C E D_X5_dreamsOf_129 (by first | (rw [hd, hds]; done) | (rw [hd, hds]; simp only [two, Nat.or_zero, Nat.or_assoc])) (rfl)
theorem c_X5_dreamsOf3 (ha : a + 2 < h.length) {p : Nat} (hp : p < 5) (hV : Va y) (h4 : y 4 < 2000) (hk : y (6 + p) = 3) : Ct l G yX5_dreamsOf 2 [qr G a, .int (nI p)] (yc G h a y) (some (.int (nI (dr y p)))) (yc G h a y) := by
  refine ctm_intro (maxL := 4) kw_X5_dreamsOf (by decide) (by decide) [some (qr G a), some (.int (nI p)), none, none] rfl (Nat.le_of_ble_eq_true rfl) ?_
  intro X _ hcl hsl _ _ C E
  have v0 := hV.1
  have v1 := hV.2.1
  have v2 := hV.2.2.1
  have v3 := hV.2.2.2.1
  have v5 := hV.k64
  have hB : ∀ k, y k < 2000 := fun k => hV.lt h4 k
  have hfv := sb_lt (y := y) (o := 16) hV.fev
  have hfp := sb_hs (y := y) (o := 16) hV.fev hp
  have hmy : y 4 % y 0 < y 0 := Nat.mod_lt _ (by omega)
  refine y_iload_n C D_X5_dreamsOf_0 rfl ?_
  refine y_iconst C D_X5_dreamsOf_1 ki_0 ?_
  refine z_callS C D_X5_dreamsOf_2 lk_X5_55 (c_X5_hasRoom (by omega) (by omega)) rfl rfl (Nat.le_of_ble_eq_true rfl) (Nat.le_of_ble_eq_true rfl) ⟨Nat.zero_le _, Nat.zero_le _⟩ ?_
  refine z_ifneB C D_X5_dreamsOf_5 (fun c_5 => ?_) (fun c_5 => absurd ⟨hp, by decide⟩ c_5)
  refine y_aload_n C D_X5_dreamsOf_10 rfl ?_
  refine y_get C D_X5_dreamsOf_11 fl_X5_40 (yc_o ha) rfl ?_
  refine y_iload_n C D_X5_dreamsOf_14 rfl ?_
  refine z_callSN C D_X5_dreamsOf_15 lk_X5_68 (c_X6_hasBit (by omega) (by omega)) rfl rfl (Nat.le_of_ble_eq_true rfl) (Nat.le_of_ble_eq_true rfl) ⟨Nat.zero_le _, Nat.zero_le _⟩ ?_
  refine z_ifeqB C D_X5_dreamsOf_18 (fun c_18 => ?_) (fun c_18 => ?_)
  · refine y_iconst C D_X5_dreamsOf_34 ki_0 ?_
    have hd := dr_F0 (y := y) (p := p) (fun z => c_18 (hfp.mpr z))
    refine y_istore_n C D_X5_dreamsOf_35 (by decide) (qok_s rfl rfl) ?_
    refine y_aload_n C D_X5_dreamsOf_36 rfl ?_
    refine y_iload_n C D_X5_dreamsOf_37 rfl ?_
    refine y_aload_n C D_X5_dreamsOf_38 rfl ?_
    refine y_get C D_X5_dreamsOf_39 fl_X5_34 (yc_o ha) rfl ?_
    refine y_aload_n C D_X5_dreamsOf_42 rfl ?_
    refine y_get C D_X5_dreamsOf_43 fl_X5_22 (yc_o ha) rfl ?_
    refine z_callV C D_X5_dreamsOf_46 lk_X5_74 (c_X5_clearest ha hp (by omega) (by omega) hB) (yc_o ha) rfl rfl (Nat.le_of_ble_eq_true rfl) (Nat.le_of_ble_eq_true rfl) ⟨Nat.zero_le _, Nat.zero_le _⟩ ?_
    rw [hV.mo6 hp]
    rcases hmo : mo y p (y 5) (y 0) with _ | f
    · have hds := ds_n (by omega) hmo
      refine y_istore_n C D_X5_dreamsOf_49 (by decide) (qok_s rfl rfl) ?_
      refine y_aload_n C D_X5_dreamsOf_50 rfl ?_
      refine y_get C D_X5_dreamsOf_51 fl_X5_9 (yc_o ha) rfl ?_
      refine y_iload_n C D_X5_dreamsOf_54 rfl ?_
      refine z_ild C D_X5_dreamsOf_55 (yc_k ha) (by omega) (by decide) (tr_at (by omega)) ?_
      rw [hk]
      refine y_tabIn (off := 74) (tgt := 130) C D_X5_dreamsOf_56 (by decide) (by decide) (by decide +kernel) (by decide) ?_
      refine y_iload_n C D_X5_dreamsOf_130 rfl ?_
      refine y_aload_n C D_X5_dreamsOf_131 rfl ?_
      refine y_iload_n C D_X5_dreamsOf_132 rfl ?_
      refine z_callV C D_X5_dreamsOf_133 lk_X5_81 (c_X5_nextBehindN ha) (yc_o ha) rfl rfl (Nat.le_of_ble_eq_true rfl) (Nat.le_of_ble_eq_true rfl) ⟨Nat.zero_le _, Nat.zero_le _⟩ ?_
      refine z_callSN C D_X5_dreamsOf_136 lk_X5_78 (c_X6_bitN) rfl rfl (Nat.le_of_ble_eq_true rfl) (Nat.le_of_ble_eq_true rfl) ⟨Nat.zero_le _, Nat.zero_le _⟩ ?_
      refine z_ior C D_X5_dreamsOf_139 ?_
      exact y_iret C E D_X5_dreamsOf_140 (by first | (rw [hd, hds]; done) | (rw [hd, hds]; simp only [two, Nat.or_zero, Nat.or_assoc])) (rfl)
    · have hf := mo_lt hmo
      have hff : (f + 1) % y 0 < y 0 := Nat.mod_lt _ (by omega)
      have hds := ds_3 hk hmo
      refine y_istore_n C D_X5_dreamsOf_49 (by decide) (qok_s rfl rfl) ?_
      refine y_aload_n C D_X5_dreamsOf_50 rfl ?_
      refine y_get C D_X5_dreamsOf_51 fl_X5_9 (yc_o ha) rfl ?_
      refine y_iload_n C D_X5_dreamsOf_54 rfl ?_
      refine z_ild C D_X5_dreamsOf_55 (yc_k ha) (by omega) (by decide) (tr_at (by omega)) ?_
      rw [hk]
      refine y_tabIn (off := 74) (tgt := 130) C D_X5_dreamsOf_56 (by decide) (by decide) (by decide +kernel) (by decide) ?_
      refine y_iload_n C D_X5_dreamsOf_130 rfl ?_
      refine y_aload_n C D_X5_dreamsOf_131 rfl ?_
      refine y_iload_n C D_X5_dreamsOf_132 rfl ?_
      refine z_callV C D_X5_dreamsOf_133 lk_X5_81 (c_X5_nextBehind ha (by omega) (by omega) (by omega)) (yc_o ha) rfl rfl (Nat.le_of_ble_eq_true rfl) (Nat.le_of_ble_eq_true rfl) ⟨Nat.zero_le _, Nat.zero_le _⟩ ?_
      refine z_callSN C D_X5_dreamsOf_136 lk_X5_78 (c_X6_bit (by omega)) rfl rfl (Nat.le_of_ble_eq_true rfl) (Nat.le_of_ble_eq_true rfl) ⟨Nat.zero_le _, Nat.zero_le _⟩ ?_
      refine z_ior C D_X5_dreamsOf_139 ?_
      exact y_iret C E D_X5_dreamsOf_140 (by first | (rw [hd, hds]; done) | (rw [hd, hds]; simp only [two, Nat.or_zero, Nat.or_assoc])) (rfl)
  · refine y_aload_n C D_X5_dreamsOf_21 rfl ?_
    refine y_get C D_X5_dreamsOf_22 fl_X5_34 (yc_o ha) rfl ?_
    refine y_aload_n C D_X5_dreamsOf_25 rfl ?_
    refine y_iload_n C D_X5_dreamsOf_26 rfl ?_
    refine z_callV C D_X5_dreamsOf_27 lk_X5_71 (c_X5_rememberedBy ha hp hB) (yc_o ha) rfl rfl (Nat.le_of_ble_eq_true rfl) (Nat.le_of_ble_eq_true rfl) ⟨Nat.zero_le _, Nat.zero_le _⟩ ?_
    refine z_iand C D_X5_dreamsOf_30 ?_
    refine y_goto C D_X5_dreamsOf_31 ?_
    have hd := dr_F1 hV hp (hfp.mp c_18)
    refine y_istore_n C D_X5_dreamsOf_35 (by decide) (qok_s rfl rfl) ?_
    refine y_aload_n C D_X5_dreamsOf_36 rfl ?_
    refine y_iload_n C D_X5_dreamsOf_37 rfl ?_
    refine y_aload_n C D_X5_dreamsOf_38 rfl ?_
    refine y_get C D_X5_dreamsOf_39 fl_X5_34 (yc_o ha) rfl ?_
    refine y_aload_n C D_X5_dreamsOf_42 rfl ?_
    refine y_get C D_X5_dreamsOf_43 fl_X5_22 (yc_o ha) rfl ?_
    refine z_callV C D_X5_dreamsOf_46 lk_X5_74 (c_X5_clearest ha hp (by omega) (by omega) hB) (yc_o ha) rfl rfl (Nat.le_of_ble_eq_true rfl) (Nat.le_of_ble_eq_true rfl) ⟨Nat.zero_le _, Nat.zero_le _⟩ ?_
    rw [hV.mo6 hp]
    rcases hmo : mo y p (y 5) (y 0) with _ | f
    · have hds := ds_n (by omega) hmo
      refine y_istore_n C D_X5_dreamsOf_49 (by decide) (qok_s rfl rfl) ?_
      refine y_aload_n C D_X5_dreamsOf_50 rfl ?_
      refine y_get C D_X5_dreamsOf_51 fl_X5_9 (yc_o ha) rfl ?_
      refine y_iload_n C D_X5_dreamsOf_54 rfl ?_
      refine z_ild C D_X5_dreamsOf_55 (yc_k ha) (by omega) (by decide) (tr_at (by omega)) ?_
      rw [hk]
      refine y_tabIn (off := 74) (tgt := 130) C D_X5_dreamsOf_56 (by decide) (by decide) (by decide +kernel) (by decide) ?_
      refine y_iload_n C D_X5_dreamsOf_130 rfl ?_
      refine y_aload_n C D_X5_dreamsOf_131 rfl ?_
      refine y_iload_n C D_X5_dreamsOf_132 rfl ?_
      refine z_callV C D_X5_dreamsOf_133 lk_X5_81 (c_X5_nextBehindN ha) (yc_o ha) rfl rfl (Nat.le_of_ble_eq_true rfl) (Nat.le_of_ble_eq_true rfl) ⟨Nat.zero_le _, Nat.zero_le _⟩ ?_
      refine z_callSN C D_X5_dreamsOf_136 lk_X5_78 (c_X6_bitN) rfl rfl (Nat.le_of_ble_eq_true rfl) (Nat.le_of_ble_eq_true rfl) ⟨Nat.zero_le _, Nat.zero_le _⟩ ?_
      refine z_ior C D_X5_dreamsOf_139 ?_
      exact y_iret C E D_X5_dreamsOf_140 (by first | (rw [hd, hds]; done) | (rw [hd, hds]; simp only [two, Nat.or_zero, Nat.or_assoc])) (rfl)
    · have hf := mo_lt hmo
      have hff : (f + 1) % y 0 < y 0 := Nat.mod_lt _ (by omega)
      have hds := ds_3 hk hmo
      refine y_istore_n C D_X5_dreamsOf_49 (by decide) (qok_s rfl rfl) ?_
      refine y_aload_n C D_X5_dreamsOf_50 rfl ?_
      refine y_get C D_X5_dreamsOf_51 fl_X5_9 (yc_o ha) rfl ?_
      refine y_iload_n C D_X5_dreamsOf_54 rfl ?_
      refine z_ild C D_X5_dreamsOf_55 (yc_k ha) (by omega) (by decide) (tr_at (by omega)) ?_
      rw [hk]
      refine y_tabIn (off := 74) (tgt := 130) C D_X5_dreamsOf_56 (by decide) (by decide) (by decide +kernel) (by decide) ?_
      refine y_iload_n C D_X5_dreamsOf_130 rfl ?_
      refine y_aload_n C D_X5_dreamsOf_131 rfl ?_
      refine y_iload_n C D_X5_dreamsOf_132 rfl ?_
      refine z_callV C D_X5_dreamsOf_133 lk_X5_81 (c_X5_nextBehind ha (by omega) (by omega) (by omega)) (yc_o ha) rfl rfl (Nat.le_of_ble_eq_true rfl) (Nat.le_of_ble_eq_true rfl) ⟨Nat.zero_le _, Nat.zero_le _⟩ ?_
      refine z_callSN C D_X5_dreamsOf_136 lk_X5_78 (c_X6_bit (by omega)) rfl rfl (Nat.le_of_ble_eq_true rfl) (Nat.le_of_ble_eq_true rfl) ⟨Nat.zero_le _, Nat.zero_le _⟩ ?_
      refine z_ior C D_X5_dreamsOf_139 ?_
      exact y_iret C E D_X5_dreamsOf_140 (by first | (rw [hd, hds]; done) | (rw [hd, hds]; simp only [two, Nat.or_zero, Nat.or_assoc])) (rfl)
theorem c_X5_dreamsOf4 (ha : a + 2 < h.length) {p : Nat} (hp : p < 5) (hV : Va y) (h4 : y 4 < 2000) (hk : y (6 + p) = 4) : Ct l G yX5_dreamsOf 2 [qr G a, .int (nI p)] (yc G h a y) (some (.int (nI (dr y p)))) (yc G h a y) := by
  refine ctm_intro (maxL := 4) kw_X5_dreamsOf (by decide) (by decide) [some (qr G a), some (.int (nI p)), none, none] rfl (Nat.le_of_ble_eq_true rfl) ?_
  intro X _ hcl hsl _ _ C E
  have v0 := hV.1
  have v1 := hV.2.1
  have v2 := hV.2.2.1
  have v3 := hV.2.2.2.1
  have v5 := hV.k64
  have hB : ∀ k, y k < 2000 := fun k => hV.lt h4 k
  have hfv := sb_lt (y := y) (o := 16) hV.fev
  have hfp := sb_hs (y := y) (o := 16) hV.fev hp
  have hmy : y 4 % y 0 < y 0 := Nat.mod_lt _ (by omega)
  refine y_iload_n C D_X5_dreamsOf_0 rfl ?_
  refine y_iconst C D_X5_dreamsOf_1 ki_0 ?_
  refine z_callS C D_X5_dreamsOf_2 lk_X5_55 (c_X5_hasRoom (by omega) (by omega)) rfl rfl (Nat.le_of_ble_eq_true rfl) (Nat.le_of_ble_eq_true rfl) ⟨Nat.zero_le _, Nat.zero_le _⟩ ?_
  refine z_ifneB C D_X5_dreamsOf_5 (fun c_5 => ?_) (fun c_5 => absurd ⟨hp, by decide⟩ c_5)
  refine y_aload_n C D_X5_dreamsOf_10 rfl ?_
  refine y_get C D_X5_dreamsOf_11 fl_X5_40 (yc_o ha) rfl ?_
  refine y_iload_n C D_X5_dreamsOf_14 rfl ?_
  refine z_callSN C D_X5_dreamsOf_15 lk_X5_68 (c_X6_hasBit (by omega) (by omega)) rfl rfl (Nat.le_of_ble_eq_true rfl) (Nat.le_of_ble_eq_true rfl) ⟨Nat.zero_le _, Nat.zero_le _⟩ ?_
  refine z_ifeqB C D_X5_dreamsOf_18 (fun c_18 => ?_) (fun c_18 => ?_)
  · refine y_iconst C D_X5_dreamsOf_34 ki_0 ?_
    have hd := dr_F0 (y := y) (p := p) (fun z => c_18 (hfp.mpr z))
    refine y_istore_n C D_X5_dreamsOf_35 (by decide) (qok_s rfl rfl) ?_
    refine y_aload_n C D_X5_dreamsOf_36 rfl ?_
    refine y_iload_n C D_X5_dreamsOf_37 rfl ?_
    refine y_aload_n C D_X5_dreamsOf_38 rfl ?_
    refine y_get C D_X5_dreamsOf_39 fl_X5_34 (yc_o ha) rfl ?_
    refine y_aload_n C D_X5_dreamsOf_42 rfl ?_
    refine y_get C D_X5_dreamsOf_43 fl_X5_22 (yc_o ha) rfl ?_
    refine z_callV C D_X5_dreamsOf_46 lk_X5_74 (c_X5_clearest ha hp (by omega) (by omega) hB) (yc_o ha) rfl rfl (Nat.le_of_ble_eq_true rfl) (Nat.le_of_ble_eq_true rfl) ⟨Nat.zero_le _, Nat.zero_le _⟩ ?_
    refine y_istore_n C D_X5_dreamsOf_49 (by decide) (qok_s rfl rfl) ?_
    have hds := ds_4 hk
    refine y_aload_n C D_X5_dreamsOf_50 rfl ?_
    refine y_get C D_X5_dreamsOf_51 fl_X5_9 (yc_o ha) rfl ?_
    refine y_iload_n C D_X5_dreamsOf_54 rfl ?_
    refine z_ild C D_X5_dreamsOf_55 (yc_k ha) (by omega) (by decide) (tr_at (by omega)) ?_
    rw [hk]
    refine y_tabIn (off := 85) (tgt := 141) C D_X5_dreamsOf_56 (by decide) (by decide) (by decide +kernel) (by decide) ?_
    refine y_iload_n C D_X5_dreamsOf_141 rfl ?_
    refine y_aload_n C D_X5_dreamsOf_142 rfl ?_
    refine z_callV C D_X5_dreamsOf_143 lk_X5_84 (c_X5_graveOfYear ha (by omega) (by omega) (by omega)) (yc_o ha) rfl rfl (Nat.le_of_ble_eq_true rfl) (Nat.le_of_ble_eq_true rfl) ⟨Nat.zero_le _, Nat.zero_le _⟩ ?_
    refine z_callSN C D_X5_dreamsOf_146 lk_X5_78 (c_X6_bit (by omega)) rfl rfl (Nat.le_of_ble_eq_true rfl) (Nat.le_of_ble_eq_true rfl) ⟨Nat.zero_le _, Nat.zero_le _⟩ ?_
    refine z_ior C D_X5_dreamsOf_149 ?_
    exact y_iret C E D_X5_dreamsOf_150 (by first | (rw [hd, hds]; done) | (rw [hd, hds]; simp only [two, Nat.or_zero, Nat.or_assoc])) (rfl)
  · refine y_aload_n C D_X5_dreamsOf_21 rfl ?_
    refine y_get C D_X5_dreamsOf_22 fl_X5_34 (yc_o ha) rfl ?_
    refine y_aload_n C D_X5_dreamsOf_25 rfl ?_
    refine y_iload_n C D_X5_dreamsOf_26 rfl ?_
    refine z_callV C D_X5_dreamsOf_27 lk_X5_71 (c_X5_rememberedBy ha hp hB) (yc_o ha) rfl rfl (Nat.le_of_ble_eq_true rfl) (Nat.le_of_ble_eq_true rfl) ⟨Nat.zero_le _, Nat.zero_le _⟩ ?_
    refine z_iand C D_X5_dreamsOf_30 ?_
    refine y_goto C D_X5_dreamsOf_31 ?_
    have hd := dr_F1 hV hp (hfp.mp c_18)
    refine y_istore_n C D_X5_dreamsOf_35 (by decide) (qok_s rfl rfl) ?_
    refine y_aload_n C D_X5_dreamsOf_36 rfl ?_
    refine y_iload_n C D_X5_dreamsOf_37 rfl ?_
    refine y_aload_n C D_X5_dreamsOf_38 rfl ?_
    refine y_get C D_X5_dreamsOf_39 fl_X5_34 (yc_o ha) rfl ?_
    refine y_aload_n C D_X5_dreamsOf_42 rfl ?_
    refine y_get C D_X5_dreamsOf_43 fl_X5_22 (yc_o ha) rfl ?_
    refine z_callV C D_X5_dreamsOf_46 lk_X5_74 (c_X5_clearest ha hp (by omega) (by omega) hB) (yc_o ha) rfl rfl (Nat.le_of_ble_eq_true rfl) (Nat.le_of_ble_eq_true rfl) ⟨Nat.zero_le _, Nat.zero_le _⟩ ?_
    refine y_istore_n C D_X5_dreamsOf_49 (by decide) (qok_s rfl rfl) ?_
    have hds := ds_4 hk
    refine y_aload_n C D_X5_dreamsOf_50 rfl ?_
    refine y_get C D_X5_dreamsOf_51 fl_X5_9 (yc_o ha) rfl ?_
    refine y_iload_n C D_X5_dreamsOf_54 rfl ?_
    refine z_ild C D_X5_dreamsOf_55 (yc_k ha) (by omega) (by decide) (tr_at (by omega)) ?_
    rw [hk]
    refine y_tabIn (off := 85) (tgt := 141) C D_X5_dreamsOf_56 (by decide) (by decide) (by decide +kernel) (by decide) ?_
    refine y_iload_n C D_X5_dreamsOf_141 rfl ?_
    refine y_aload_n C D_X5_dreamsOf_142 rfl ?_
    refine z_callV C D_X5_dreamsOf_143 lk_X5_84 (c_X5_graveOfYear ha (by omega) (by omega) (by omega)) (yc_o ha) rfl rfl (Nat.le_of_ble_eq_true rfl) (Nat.le_of_ble_eq_true rfl) ⟨Nat.zero_le _, Nat.zero_le _⟩ ?_
    refine z_callSN C D_X5_dreamsOf_146 lk_X5_78 (c_X6_bit (by omega)) rfl rfl (Nat.le_of_ble_eq_true rfl) (Nat.le_of_ble_eq_true rfl) ⟨Nat.zero_le _, Nat.zero_le _⟩ ?_
    refine z_ior C D_X5_dreamsOf_149 ?_
    exact y_iret C E D_X5_dreamsOf_150 (by first | (rw [hd, hds]; done) | (rw [hd, hds]; simp only [two, Nat.or_zero, Nat.or_assoc])) (rfl)
theorem c_X5_dreamsOf5 (ha : a + 2 < h.length) {p : Nat} (hp : p < 5) (hV : Va y) (h4 : y 4 < 2000) (hk : y (6 + p) = 5) : Ct l G yX5_dreamsOf 2 [qr G a, .int (nI p)] (yc G h a y) (some (.int (nI (dr y p)))) (yc G h a y) := by
  refine ctm_intro (maxL := 4) kw_X5_dreamsOf (by decide) (by decide) [some (qr G a), some (.int (nI p)), none, none] rfl (Nat.le_of_ble_eq_true rfl) ?_
  intro X _ hcl hsl _ _ C E
  have v0 := hV.1
  have v1 := hV.2.1
  have v2 := hV.2.2.1
  have v3 := hV.2.2.2.1
  have v5 := hV.k64
  have hB : ∀ k, y k < 2000 := fun k => hV.lt h4 k
  have hfv := sb_lt (y := y) (o := 16) hV.fev
  have hfp := sb_hs (y := y) (o := 16) hV.fev hp
  have hmy : y 4 % y 0 < y 0 := Nat.mod_lt _ (by omega)
  refine y_iload_n C D_X5_dreamsOf_0 rfl ?_
  refine y_iconst C D_X5_dreamsOf_1 ki_0 ?_
  refine z_callS C D_X5_dreamsOf_2 lk_X5_55 (c_X5_hasRoom (by omega) (by omega)) rfl rfl (Nat.le_of_ble_eq_true rfl) (Nat.le_of_ble_eq_true rfl) ⟨Nat.zero_le _, Nat.zero_le _⟩ ?_
  refine z_ifneB C D_X5_dreamsOf_5 (fun c_5 => ?_) (fun c_5 => absurd ⟨hp, by decide⟩ c_5)
  refine y_aload_n C D_X5_dreamsOf_10 rfl ?_
  refine y_get C D_X5_dreamsOf_11 fl_X5_40 (yc_o ha) rfl ?_
  refine y_iload_n C D_X5_dreamsOf_14 rfl ?_
  refine z_callSN C D_X5_dreamsOf_15 lk_X5_68 (c_X6_hasBit (by omega) (by omega)) rfl rfl (Nat.le_of_ble_eq_true rfl) (Nat.le_of_ble_eq_true rfl) ⟨Nat.zero_le _, Nat.zero_le _⟩ ?_
  refine z_ifeqB C D_X5_dreamsOf_18 (fun c_18 => ?_) (fun c_18 => ?_)
  · refine y_iconst C D_X5_dreamsOf_34 ki_0 ?_
    have hd := dr_F0 (y := y) (p := p) (fun z => c_18 (hfp.mpr z))
    refine y_istore_n C D_X5_dreamsOf_35 (by decide) (qok_s rfl rfl) ?_
    refine y_aload_n C D_X5_dreamsOf_36 rfl ?_
    refine y_iload_n C D_X5_dreamsOf_37 rfl ?_
    refine y_aload_n C D_X5_dreamsOf_38 rfl ?_
    refine y_get C D_X5_dreamsOf_39 fl_X5_34 (yc_o ha) rfl ?_
    refine y_aload_n C D_X5_dreamsOf_42 rfl ?_
    refine y_get C D_X5_dreamsOf_43 fl_X5_22 (yc_o ha) rfl ?_
    refine z_callV C D_X5_dreamsOf_46 lk_X5_74 (c_X5_clearest ha hp (by omega) (by omega) hB) (yc_o ha) rfl rfl (Nat.le_of_ble_eq_true rfl) (Nat.le_of_ble_eq_true rfl) ⟨Nat.zero_le _, Nat.zero_le _⟩ ?_
    refine y_istore_n C D_X5_dreamsOf_49 (by decide) (qok_s rfl rfl) ?_
    have hds := ds_5 hk
    refine y_aload_n C D_X5_dreamsOf_50 rfl ?_
    refine y_get C D_X5_dreamsOf_51 fl_X5_9 (yc_o ha) rfl ?_
    refine y_iload_n C D_X5_dreamsOf_54 rfl ?_
    refine z_ild C D_X5_dreamsOf_55 (yc_k ha) (by omega) (by decide) (tr_at (by omega)) ?_
    rw [hk]
    refine y_tabIn (off := 95) (tgt := 151) C D_X5_dreamsOf_56 (by decide) (by decide) (by decide +kernel) (by decide) ?_
    refine y_iload_n C D_X5_dreamsOf_151 rfl ?_
    refine y_aload_n C D_X5_dreamsOf_152 rfl ?_
    refine z_callV C D_X5_dreamsOf_153 lk_X5_84 (c_X5_graveOfYear ha (by omega) (by omega) (by omega)) (yc_o ha) rfl rfl (Nat.le_of_ble_eq_true rfl) (Nat.le_of_ble_eq_true rfl) ⟨Nat.zero_le _, Nat.zero_le _⟩ ?_
    refine z_callSN C D_X5_dreamsOf_156 lk_X5_78 (c_X6_bit (by omega)) rfl rfl (Nat.le_of_ble_eq_true rfl) (Nat.le_of_ble_eq_true rfl) ⟨Nat.zero_le _, Nat.zero_le _⟩ ?_
    refine z_ior C D_X5_dreamsOf_159 ?_
    refine y_iconst C D_X5_dreamsOf_160 ki_0 ?_
    refine z_callSN C D_X5_dreamsOf_161 lk_X5_78 (c_X6_bit (by omega)) rfl rfl (Nat.le_of_ble_eq_true rfl) (Nat.le_of_ble_eq_true rfl) ⟨Nat.zero_le _, Nat.zero_le _⟩ ?_
    refine z_ior C D_X5_dreamsOf_164 ?_
    exact y_iret C E D_X5_dreamsOf_165 (by first | (rw [hd, hds]; done) | (rw [hd, hds]; simp only [two, Nat.or_zero, Nat.or_assoc])) (rfl)
  · refine y_aload_n C D_X5_dreamsOf_21 rfl ?_
    refine y_get C D_X5_dreamsOf_22 fl_X5_34 (yc_o ha) rfl ?_
    refine y_aload_n C D_X5_dreamsOf_25 rfl ?_
    refine y_iload_n C D_X5_dreamsOf_26 rfl ?_
    refine z_callV C D_X5_dreamsOf_27 lk_X5_71 (c_X5_rememberedBy ha hp hB) (yc_o ha) rfl rfl (Nat.le_of_ble_eq_true rfl) (Nat.le_of_ble_eq_true rfl) ⟨Nat.zero_le _, Nat.zero_le _⟩ ?_
    refine z_iand C D_X5_dreamsOf_30 ?_
    refine y_goto C D_X5_dreamsOf_31 ?_
    have hd := dr_F1 hV hp (hfp.mp c_18)
    refine y_istore_n C D_X5_dreamsOf_35 (by decide) (qok_s rfl rfl) ?_
    refine y_aload_n C D_X5_dreamsOf_36 rfl ?_
    refine y_iload_n C D_X5_dreamsOf_37 rfl ?_
    refine y_aload_n C D_X5_dreamsOf_38 rfl ?_
    refine y_get C D_X5_dreamsOf_39 fl_X5_34 (yc_o ha) rfl ?_
    refine y_aload_n C D_X5_dreamsOf_42 rfl ?_
    refine y_get C D_X5_dreamsOf_43 fl_X5_22 (yc_o ha) rfl ?_
    refine z_callV C D_X5_dreamsOf_46 lk_X5_74 (c_X5_clearest ha hp (by omega) (by omega) hB) (yc_o ha) rfl rfl (Nat.le_of_ble_eq_true rfl) (Nat.le_of_ble_eq_true rfl) ⟨Nat.zero_le _, Nat.zero_le _⟩ ?_
    refine y_istore_n C D_X5_dreamsOf_49 (by decide) (qok_s rfl rfl) ?_
    have hds := ds_5 hk
    refine y_aload_n C D_X5_dreamsOf_50 rfl ?_
    refine y_get C D_X5_dreamsOf_51 fl_X5_9 (yc_o ha) rfl ?_
    refine y_iload_n C D_X5_dreamsOf_54 rfl ?_
    refine z_ild C D_X5_dreamsOf_55 (yc_k ha) (by omega) (by decide) (tr_at (by omega)) ?_
    rw [hk]
    refine y_tabIn (off := 95) (tgt := 151) C D_X5_dreamsOf_56 (by decide) (by decide) (by decide +kernel) (by decide) ?_
    refine y_iload_n C D_X5_dreamsOf_151 rfl ?_
    refine y_aload_n C D_X5_dreamsOf_152 rfl ?_
    refine z_callV C D_X5_dreamsOf_153 lk_X5_84 (c_X5_graveOfYear ha (by omega) (by omega) (by omega)) (yc_o ha) rfl rfl (Nat.le_of_ble_eq_true rfl) (Nat.le_of_ble_eq_true rfl) ⟨Nat.zero_le _, Nat.zero_le _⟩ ?_
    refine z_callSN C D_X5_dreamsOf_156 lk_X5_78 (c_X6_bit (by omega)) rfl rfl (Nat.le_of_ble_eq_true rfl) (Nat.le_of_ble_eq_true rfl) ⟨Nat.zero_le _, Nat.zero_le _⟩ ?_
    refine z_ior C D_X5_dreamsOf_159 ?_
    refine y_iconst C D_X5_dreamsOf_160 ki_0 ?_
    refine z_callSN C D_X5_dreamsOf_161 lk_X5_78 (c_X6_bit (by omega)) rfl rfl (Nat.le_of_ble_eq_true rfl) (Nat.le_of_ble_eq_true rfl) ⟨Nat.zero_le _, Nat.zero_le _⟩ ?_
    refine z_ior C D_X5_dreamsOf_164 ?_
    exact y_iret C E D_X5_dreamsOf_165 (by first | (rw [hd, hds]; done) | (rw [hd, hds]; simp only [two, Nat.or_zero, Nat.or_assoc])) (rfl)
end
