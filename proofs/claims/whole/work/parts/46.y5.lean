/-- one sleeper's fading, the first g graves -/
def fdR (y : Nat → Nat) (s g : Nat) : Nat → Nat := fun k => if 21 ≤ k ∧ (k - 21) / 6 = s ∧ (k - 21) % 6 < g then less y (y k) else y k
theorem fdR_0 {y : Nat → Nat} {s : Nat} : fdR y s 0 = y := by
  funext k
  exact if_neg (fun z => by omega)
theorem fdR_lo {y : Nat → Nat} {s g k : Nat} (h : k < 21) : fdR y s g k = y k := if_neg (fun z => by omega)
theorem fdR_at {y : Nat → Nat} {s g : Nat} (hg : g < 6) : fdR y s g (21 + 6 * s + g) = me y s g := if_neg (fun z => by omega)
theorem fdR_step {y : Nat → Nat} {s g : Nat} (hg : g < 6) : va_up (fdR y s g) (21 + 6 * s + g) (less y (me y s g)) = fdR y s (g + 1) := by
  funext k
  unfold va_up fdR
  by_cases c : k = 21 + 6 * s + g
  · rw [if_pos c, if_pos (by omega), c]
  · rw [if_neg c]
    by_cases d : 21 ≤ k ∧ (k - 21) / 6 = s ∧ (k - 21) % 6 < g
    · rw [if_pos d, if_pos (by omega)]
    · rw [if_neg d, if_neg (fun z => by omega)]
theorem less_c {y z : Nat → Nat} (h : y 2 = z 2) (m : Nat) : less y m = less z m := by
  unfold less
  rw [h]
/-- the year's end, the first s sleepers -/
def eY (y : Nat → Nat) (s : Nat) : Nat → Nat := fun k => if 21 ≤ k ∧ (k - 21) / 6 < s ∧ y (11 + (k - 21) / 6) = 0 then less y (y k) else y k
theorem eY_0 {y : Nat → Nat} : eY y 0 = y := by
  funext k
  exact if_neg (fun z => by omega)
theorem eY_lo {y : Nat → Nat} {s k : Nat} (h : k < 21) : eY y s k = y k := if_neg (fun z => by omega)
theorem eY_skip {y : Nat → Nat} {s : Nat} (h : ¬ y (11 + s) = 0) : eY y s = eY y (s + 1) := by
  funext k
  unfold eY
  by_cases d : 21 ≤ k ∧ (k - 21) / 6 < s ∧ y (11 + (k - 21) / 6) = 0
  · rw [if_pos d, if_pos ⟨d.1, by omega, d.2.2⟩]
  · rw [if_neg d, if_neg (fun z => d ⟨z.1, by
      by_cases e : (k - 21) / 6 = s
      · exact absurd (e ▸ z.2.2) h
      · omega, z.2.2⟩)]
theorem eY_fade {y : Nat → Nat} {s : Nat} (h : y (11 + s) = 0) : fdR (eY y s) s 6 = eY y (s + 1) := by
  funext k
  unfold fdR
  rw [less_c (z := y) (eY_lo (by decide))]
  unfold eY
  by_cases c : 21 ≤ k ∧ (k - 21) / 6 = s
  · rw [if_pos ⟨c.1, c.2, by omega⟩, if_neg (fun z => by omega), if_pos ⟨c.1, by omega, by rw [c.2]; exact h⟩]
  · rw [if_neg (fun z => c ⟨z.1, z.2.1⟩)]
    by_cases d : 21 ≤ k ∧ (k - 21) / 6 < s ∧ y (11 + (k - 21) / 6) = 0
    · rw [if_pos d, if_pos ⟨d.1, by omega, d.2.2⟩]
    · rw [if_neg d, if_neg (fun z => d ⟨z.1, by omega, z.2.2⟩)]
theorem eY_end {y : Nat → Nat} {k n : Nat} (hk : k < 51) : va_up (sS (sS (eY y 5) 11 0) 16 0) 4 n k = va_up (fd y) 4 n k := by
  by_cases c : k = 4
  · rw [c, up_eq, up_eq]
  · rw [up_ne _ _ c, up_ne _ _ c]
    by_cases d : 16 ≤ k ∧ k < 16 + 5
    · rw [sS_in d, Nat.zero_div, fd_mid (by omega) (by omega)]
    · rw [sS_out d]
      by_cases e : 11 ≤ k ∧ k < 11 + 5
      · rw [sS_in e, Nat.zero_div, fd_mid (by omega) (by omega)]
      · rw [sS_out e]
        unfold eY fd
        by_cases f : 21 ≤ k
        · rw [if_pos f]
          by_cases g : y (11 + (k - 21) / 6) = 0
          · rw [if_pos ⟨f, by omega, g⟩, if_pos g]
          · rw [if_neg (fun z => g z.2.2), if_neg g]
        · rw [if_neg f, if_neg (fun z => f z.1), if_neg (by omega)]
section
variable {l : Launch} {G : qG} {h : List va_E} {a : Nat} {y : Nat → Nat}
theorem lp_X5_fadeFor {X : qX} {s : Nat} (ha : a + 2 < h.length) (h1 : s < 5) (h2 : 2 ≤ y 2) (h9 : y 2 ≤ 9) (hB : ∀ k, y k < 2000) (C : qC X G cX5_fadeFor 4 RX5 1) (E : qE X G none 0 0 none (yc G h a (fdR y s 6))) : ∀ (m g : Nat), g + m = 6 → Y X G 4 0 0 2 [some (qr G a), some (.int (nI (s))), some (.int (nI (g))), none] [] (yc G h a (fdR y s g)) := by
  intro m
  induction m with
  | zero =>
    intro g hg
    obtain rfl : g = 6 := by omega
    refine y_iload_n C D_X5_fadeFor_2 rfl ?_
    refine y_bipush C D_X5_fadeFor_3 kb_6 ?_
    refine y_icmp_ge C D_X5_fadeFor_5 (n_le (by omega) (by omega)) (fun c_5 => ?_) (fun c_5 => absurd (Nat.le_refl _) c_5)
    exact y_vret C E D_X5_fadeFor_45 (rfl)
  | succ m ih =>
    intro g hg
    have hbb : me y s g < 2000 := hB _
    have e2 : fdR y s g 2 = y 2 := fdR_lo (by decide)
    have el : less (fdR y s g) (me y s g) = less y (me y s g) := less_c e2 _
    refine y_iload_n C D_X5_fadeFor_2 rfl ?_
    refine y_bipush C D_X5_fadeFor_3 kb_6 ?_
    refine y_icmp_ge C D_X5_fadeFor_5 (n_le (by omega) (by omega)) (fun c_5 => absurd c_5 (by omega)) (fun c_5 => ?_)
    refine y_iload_n C D_X5_fadeFor_8 rfl ?_
    refine y_iload_n C D_X5_fadeFor_9 rfl ?_
    refine z_callS C D_X5_fadeFor_10 lk_X5_55 (c_X5_hasRoom (by omega) (by omega)) rfl rfl (Nat.le_of_ble_eq_true rfl) (Nat.le_of_ble_eq_true rfl) ⟨Nat.zero_le _, Nat.zero_le _⟩ ?_
    refine z_ifeqB C D_X5_fadeFor_13 (fun c_13 => absurd ⟨h1, by omega⟩ c_13) (fun c_13 => ?_)
    refine y_iload_n C D_X5_fadeFor_16 rfl ?_
    refine y_bipush C D_X5_fadeFor_17 kb_6 ?_
    refine z_imul C D_X5_fadeFor_19 ?_
    refine y_iload_n C D_X5_fadeFor_20 rfl ?_
    refine z_iadd C D_X5_fadeFor_21 ?_
    refine y_istore_n C D_X5_fadeFor_22 (by decide) (qok_s rfl rfl) ?_
    refine y_aload_n C D_X5_fadeFor_23 rfl ?_
    refine y_get C D_X5_fadeFor_24 fl_X5_15 (yc_o ha) rfl ?_
    refine y_iload_n C D_X5_fadeFor_27 rfl ?_
    refine y_aload_n C D_X5_fadeFor_28 rfl ?_
    refine y_aload_n C D_X5_fadeFor_29 rfl ?_
    refine y_get C D_X5_fadeFor_30 fl_X5_15 (yc_o ha) rfl ?_
    refine y_iload_n C D_X5_fadeFor_33 rfl ?_
    refine z_ild C D_X5_fadeFor_34 (yc_m ha) (by omega) (by decide) (tr_at (by omega)) ?_
    rw [show fdR y s g (21 + (s * 6 + g)) = me y s g from by rw [show 21 + (s * 6 + g) = 21 + 6 * s + g by omega]; exact fdR_at (by omega)]
    refine z_callV C D_X5_fadeFor_35 lk_X5_108 (c_X5_faded ha (by omega) (by omega) (by omega)) (yc_o ha) rfl rfl (Nat.le_of_ble_eq_true rfl) (Nat.le_of_ble_eq_true rfl) ⟨Nat.zero_le _, Nat.zero_le _⟩ ?_
    rw [el]
    refine z_ist C D_X5_fadeFor_38 (yc_m ha) (by omega) (by decide) (yc_wmemories (by omega) _) ?_
    refine z_iinc (n := 1) C D_X5_fadeFor_39 rfl (by decide) (qok_s rfl rfl) ?_
    refine y_goto C D_X5_fadeFor_42 ?_
    refine y_fg 3 ?_
    rw [show 21 + (s * 6 + g) = 21 + 6 * s + g by omega, fdR_step (by omega)]
    exact ih (g + 1) (by omega)
theorem c_X5_fadeFor (ha : a + 2 < h.length) {s : Nat} (h1 : s < 5) (h2 : 2 ≤ y 2) (h9 : y 2 ≤ 9) (hB : ∀ k, y k < 2000) : Ct l G yX5_fadeFor 1 [qr G a, .int (nI s)] (yc G h a y) (none) (yc G h a (fdR y s 6)) := by
  refine ctm_intro (maxL := 4) kw_X5_fadeFor (by decide) (by decide) [some (qr G a), some (.int (nI s)), none, none] rfl (Nat.le_of_ble_eq_true rfl) ?_
  intro X _ hcl hsl _ _ C E
  refine y_iconst C D_X5_fadeFor_0 ki_0 ?_
  refine y_istore_n C D_X5_fadeFor_1 (by decide) (qok_s rfl rfl) ?_
  have z := lp_X5_fadeFor ha h1 h2 h9 hB C E 6 0 (by omega)
  rw [fdR_0] at z
  exact z
theorem lp_X5_endYear {X : qX} (ha : a + 2 < h.length) (h2 : 2 ≤ y 2) (h9 : y 2 ≤ 9) (hB : ∀ k, y k < 2000) (hb : ∀ k, k < 5 → y (11 + k) ≤ 1) (C : qC X G cX5_endYear 2 RX5 2) (K : Y X G 2 0 0 29 [some (qr G a), none] [] (yc G h a (eY y 5))) : ∀ (m s : Nat), s + m = 5 → Y X G 2 0 0 2 [some (qr G a), some (.int (nI (s)))] [] (yc G h a (eY y s)) := by
  intro m
  induction m with
  | zero =>
    intro s hs'
    obtain rfl : s = 5 := by omega
    refine y_iload_n C D_X5_endYear_2 rfl ?_
    refine y_iconst C D_X5_endYear_3 ki_5 ?_
    refine y_icmp_ge C D_X5_endYear_4 (n_le (by omega) (by omega)) (fun c_4 => ?_) (fun c_4 => absurd (Nat.le_refl _) c_4)
    refine y_fg 1 ?_
    exact K
  | succ m ih =>
    intro s hs'
    have hbs := hb s (by omega)
    have hbe : ∀ k, k < 5 → eY y s (11 + k) ≤ 1 := fun k hk => by rw [eY_lo (by omega)]; exact hb k hk
    have hlt := sb_lt (o := 11) hbe
    have hiff := sb_hs (o := 11) (p := s) hbe (by omega)
    rw [eY_lo (by omega)] at hiff
    have e2 : eY y s 2 = y 2 := eY_lo (by decide)
    have hBe : ∀ k, eY y s k < 2000 := fun k => by
      have := hB k
      have := less_le y (y k)
      unfold eY
      split <;> omega
    refine y_iload_n C D_X5_endYear_2 rfl ?_
    refine y_iconst C D_X5_endYear_3 ki_5 ?_
    refine y_icmp_ge C D_X5_endYear_4 (n_le (by omega) (by omega)) (fun c_4 => absurd c_4 (by omega)) (fun c_4 => ?_)
    refine y_aload_n C D_X5_endYear_7 rfl ?_
    refine y_get C D_X5_endYear_8 fl_X5_37 (yc_o ha) rfl ?_
    refine y_iload_n C D_X5_endYear_11 rfl ?_
    refine z_callSN C D_X5_endYear_12 lk_X5_68 (c_X6_hasBit (by omega) (by omega)) rfl rfl (Nat.le_of_ble_eq_true rfl) (Nat.le_of_ble_eq_true rfl) ⟨Nat.zero_le _, Nat.zero_le _⟩ ?_
    refine z_ifneB C D_X5_endYear_15 (fun c_15 => ?_) (fun c_15 => ?_)
    · refine z_iinc (n := 1) C D_X5_endYear_23 rfl (by decide) (qok_s rfl rfl) ?_
      refine y_goto C D_X5_endYear_26 ?_
      have c := hiff.mp c_15
      rw [eY_skip (by omega)]
      exact ih (s + 1) (by omega)
    · refine y_aload_n C D_X5_endYear_18 rfl ?_
      refine y_iload_n C D_X5_endYear_19 rfl ?_
      refine z_callVv C D_X5_endYear_20 lk_X5_105 (c_X5_fadeFor ha (by omega) (by omega) (by omega) hBe) (yc_o ha) rfl rfl (Nat.le_of_ble_eq_true rfl) (Nat.le_of_ble_eq_true rfl) ⟨Nat.zero_le _, Nat.zero_le _⟩ ?_
      refine z_iinc (n := 1) C D_X5_endYear_23 rfl (by decide) (qok_s rfl rfl) ?_
      refine y_goto C D_X5_endYear_26 ?_
      have c := fun z => c_15 (hiff.mpr z)
      rw [eY_fade (by omega)]
      exact ih (s + 1) (by omega)
theorem c_X5_endYear (ha : a + 2 < h.length) (h2 : 2 ≤ y 2) (h9 : y 2 ≤ 9) (hB : ∀ k, y k < 2000) (hb : ∀ k, k < 5 → y (11 + k) ≤ 1) : Ct l G yX5_endYear 2 [qr G a] (yc G h a y) (none) (yc G h a (va_up (fd y) 4 (y 4 + 1))) := by
  refine ctm_intro (maxL := 2) kw_X5_endYear (by decide) (by decide) [some (qr G a), none] rfl (Nat.le_of_ble_eq_true rfl) ?_
  intro X _ hcl hsl _ _ C E
  refine y_iconst C D_X5_endYear_0 ki_0 ?_
  refine y_istore_n C D_X5_endYear_1 (by decide) (qok_s rfl rfl) ?_
  have e4 : sS (sS (eY y 5) 11 0) 16 0 4 = y 4 := by rw [sS_out (by omega), sS_out (by omega), eY_lo (by decide)]
  refine eY_0 (y := y) ▸ lp_X5_endYear ha h2 h9 hB hb C ?_ 5 0 (by omega)
  refine y_aload_n C D_X5_endYear_29 rfl ?_
  refine y_iconst C D_X5_endYear_30 ki_0 ?_
  refine y_put C D_X5_endYear_31 fl_X5_37 (yc_o ha) (Nat.le_of_ble_eq_true rfl) rfl rfl (yc_psuppers (by omega)) ?_
  refine y_aload_n C D_X5_endYear_34 rfl ?_
  refine y_iconst C D_X5_endYear_35 ki_0 ?_
  refine y_put C D_X5_endYear_36 fl_X5_40 (yc_o ha) (Nat.le_of_ble_eq_true rfl) rfl rfl (yc_pfevers (by omega)) ?_
  refine y_aload_n C D_X5_endYear_39 rfl ?_
  refine y_dup C D_X5_endYear_40 rfl ?_
  refine y_get C D_X5_endYear_41 fl_X5_31 (yc_o ha) rfl ?_
  rw [e4]
  refine y_iconst C D_X5_endYear_44 ki_1 ?_
  refine z_iadd C D_X5_endYear_45 ?_
  refine y_put C D_X5_endYear_46 fl_X5_31 (yc_o ha) (Nat.le_of_ble_eq_true rfl) rfl rfl (yc_pyear _) ?_
  exact y_vret C E D_X5_endYear_49 (yc_c (fun k hk => eY_end hk))
theorem c_X5_pass (ha : a + 2 < h.length) (hV : Va y) (h4 : y 4 < 2000) : Ct l G yX5_pass 4 [qr G a] (yc G h a y) (none) (yc G h a (yr y)) := by
  refine ctm_intro (maxL := 1) kw_X5_pass (by decide) (by decide) [some (qr G a)] rfl (Nat.le_of_ble_eq_true rfl) ?_
  intro X _ hcl hsl _ _ C E
  have h14 : y1 y 4 = y 4 := y1_lo (by decide) (by decide)
  have v1 := hV.y1
  have vb := fun k => v1.lt (by omega) k
  have v2 := v1.2.2.1
  refine y_aload_n C D_X5_pass_0 rfl ?_
  refine z_callVv C D_X5_pass_1 lk_X5_91 (c_X5_digUndreamt ha hV h4) (yc_o ha) rfl rfl (Nat.le_of_ble_eq_true rfl) (Nat.le_of_ble_eq_true rfl) ⟨Nat.zero_le _, Nat.zero_le _⟩ ?_
  refine y_aload_n C D_X5_pass_4 rfl ?_
  refine z_callVv C D_X5_pass_5 lk_X5_94 (c_X5_endYear ha v2.1 v2.2 vb v1.sup) (yc_o ha) rfl rfl (Nat.le_of_ble_eq_true rfl) (Nat.le_of_ble_eq_true rfl) ⟨Nat.zero_le _, Nat.zero_le _⟩ ?_
  exact y_vret C E D_X5_pass_8 (by rw [h14]; rfl)
end
