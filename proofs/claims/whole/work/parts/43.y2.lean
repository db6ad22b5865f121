theorem mo_me {y : Nat → Nat} {p b : Nat} : ∀ {n q : Nat}, mo y p b n = some q → y 1 ≤ me y p q
  | 0, q, h => by simp [mo] at h
  | n + 1, q, h => by
    unfold mo at h
    cases e : mo y p b n with
    | none =>
      rw [e] at h
      simp only at h
      split at h
      · rename_i c
        cases h
        exact c.2
      · cases h
    | some r =>
      rw [e] at h
      have := mo_me e
      simp only at h
      split at h
      · rename_i c
        cases h
        exact c.2.1
      · cases h
        exact this
def mB (y : Nat → Nat) (p b g : Nat) : Nat := match mo y p b g with
  | none => y 1 - 1
  | some q => me y p q
/-- the graves that one remembers, of the first n -/
def rb (y : Nat → Nat) (p : Nat) : Nat → Nat
  | 0 => 0
  | n + 1 => if 0 < me y p n then rb y p n ||| 2 ^ n else rb y p n
theorem rb_lt {y : Nat → Nat} {p : Nat} : ∀ n, rb y p n < 2 ^ n
  | 0 => Nat.zero_lt_one
  | n + 1 => by
    have := rb_lt (y := y) (p := p) n
    have e : 2 ^ (n + 1) = 2 ^ n * 2 := Nat.pow_succ 2 n
    unfold rb
    split
    · exact Nat.or_lt_two_pow (by omega) (by omega)
    · omega
section
variable {l : Launch} {G : qG} {h : List va_E} {a : Nat} {y : Nat → Nat}
theorem c_X5_faded (ha : a + 2 < h.length) {m : Nat} (hm1 : m < 2 ^ 31) (h2 : 2 ≤ y 2) (h9 : y 2 ≤ 9) : Ct l G yX5_faded 0 [qr G a, .int (nI m)] (yc G h a y) (some (.int (nI (less y m)))) (yc G h a y) := by
  refine ctm_intro (maxL := 2) kw_X5_faded (by decide) (by decide) [some (qr G a), some (.int (nI m))] rfl (Nat.le_of_ble_eq_true rfl) ?_
  intro X _ hcl hsl _ _ C E
  have hd : m / y 2 ≤ m / 2 := Nat.div_le_div_left h2 (by decide)
  refine y_iload_n C D_X5_faded_0 rfl ?_
  refine y_iconst C D_X5_faded_1 ki_1 ?_
  refine y_icmp_lt C D_X5_faded_2 (n_lt (by omega) (by omega)) (fun c_2 => ?_) (fun c_2 => ?_)
  · refine y_iconst C D_X5_faded_13 ki_0 ?_
    refine y_goto C D_X5_faded_14 ?_
    exact y_iret C E D_X5_faded_27 (by rw [less, if_pos (by omega)]) (rfl)
  · refine y_aload_n C D_X5_faded_5 rfl ?_
    refine y_get C D_X5_faded_6 fl_X5_25 (yc_o ha) rfl ?_
    refine y_iconst C D_X5_faded_9 ki_1 ?_
    refine y_icmp_ge C D_X5_faded_10 (n_le (by omega) (by omega)) (fun c_10 => ?_) (fun c_10 => absurd c_10 (by omega))
    refine y_iload_n C D_X5_faded_17 rfl ?_
    refine y_iload_n C D_X5_faded_18 rfl ?_
    refine y_aload_n C D_X5_faded_19 rfl ?_
    refine y_get C D_X5_faded_20 fl_X5_25 (yc_o ha) rfl ?_
    refine z_idiv C D_X5_faded_23 (by omega) (by omega) (by omega) ?_
    refine z_isub C D_X5_faded_24 (by omega) ?_
    refine y_iconst C D_X5_faded_25 ki_1 ?_
    refine z_isub C D_X5_faded_26 (by omega) ?_
    exact y_iret C E D_X5_faded_27 (by rw [less, if_neg (by omega)]) (rfl)
theorem c_X5_nextBehind (ha : a + 2 < h.length) {g : Nat} (hg : g < 2 ^ 30) (h1 : 1 ≤ y 0) (h2 : y 0 < 2 ^ 31) : Ct l G yX5_nextBehind 0 [qr G a, .int (nI g)] (yc G h a y) (some (.int (nI ((g + 1) % y 0)))) (yc G h a y) := by
  refine ctm_intro (maxL := 2) kw_X5_nextBehind (by decide) (by decide) [some (qr G a), some (.int (nI g))] rfl (Nat.le_of_ble_eq_true rfl) ?_
  intro X _ hcl hsl _ _ C E
  refine y_iload_n C D_X5_nextBehind_0 rfl ?_
  refine y_if_lt C D_X5_nextBehind_1 (n_lt0 (by omega)) (fun q => q.elim) (fun _ => ?_)
  refine y_aload_n C D_X5_nextBehind_4 rfl ?_
  refine y_get C D_X5_nextBehind_5 fl_X5_18 (yc_o ha) rfl ?_
  refine y_iconst C D_X5_nextBehind_8 ki_1 ?_
  refine y_icmp_ge C D_X5_nextBehind_9 (n_le (by omega) (by omega)) (fun c_9 => ?_) (fun c_9 => absurd h1 c_9)
  refine y_iload_n C D_X5_nextBehind_17 rfl ?_
  refine y_iconst C D_X5_nextBehind_18 ki_1 ?_
  refine z_iadd C D_X5_nextBehind_19 ?_
  refine y_aload_n C D_X5_nextBehind_20 rfl ?_
  refine y_get C D_X5_nextBehind_21 fl_X5_18 (yc_o ha) rfl ?_
  refine z_irem C D_X5_nextBehind_24 (by omega) (by omega) (by omega) ?_
  exact y_iret C E D_X5_nextBehind_25 (rfl) (rfl)
theorem c_X5_graveOfYear (ha : a + 2 < h.length) (h1 : 1 ≤ y 0) (h2 : y 0 < 2 ^ 31) (h4 : y 4 < 2 ^ 31) : Ct l G yX5_graveOfYear 0 [qr G a] (yc G h a y) (some (.int (nI (y 4 % y 0)))) (yc G h a y) := by
  refine ctm_intro (maxL := 1) kw_X5_graveOfYear (by decide) (by decide) [some (qr G a)] rfl (Nat.le_of_ble_eq_true rfl) ?_
  intro X _ hcl hsl _ _ C E
  refine y_aload_n C D_X5_graveOfYear_0 rfl ?_
  refine y_get C D_X5_graveOfYear_1 fl_X5_18 (yc_o ha) rfl ?_
  refine y_iconst C D_X5_graveOfYear_4 ki_1 ?_
  refine y_icmp_ge C D_X5_graveOfYear_5 (n_le (by omega) (by omega)) (fun c_5 => ?_) (fun c_5 => absurd h1 c_5)
  refine y_aload_n C D_X5_graveOfYear_13 rfl ?_
  refine y_get C D_X5_graveOfYear_14 fl_X5_31 (yc_o ha) rfl ?_
  refine y_aload_n C D_X5_graveOfYear_17 rfl ?_
  refine y_get C D_X5_graveOfYear_18 fl_X5_18 (yc_o ha) rfl ?_
  refine z_irem C D_X5_graveOfYear_21 (by omega) (by omega) (by omega) ?_
  exact y_iret C E D_X5_graveOfYear_22 (rfl) (rfl)
theorem lp_X5_rememberedBy {X : qX} {s : Nat} (ha : a + 2 < h.length) (h1 : s < 5) (hB : ∀ k, y k < 2000) (C : qC X G cX5_rememberedBy 4 RX5 1) (E : qE X G (some .int) 0 0 (some (.int (nI (rb y s 6)))) (yc G h a y)) : ∀ (m g : Nat), g + m = 6 → Y X G 4 0 0 4 [some (qr G a), some (.int (nI (s))), some (.int (nI (rb y s g))), some (.int (nI (g)))] [] (yc G h a y) := by
  intro m
  induction m with
  | zero =>
    intro g hg
    obtain rfl : g = 6 := by omega
    refine y_iload_n C D_X5_rememberedBy_4 rfl ?_
    refine y_bipush C D_X5_rememberedBy_5 kb_6 ?_
    refine y_icmp_ge C D_X5_rememberedBy_7 (n_le (by omega) (by omega)) (fun c_7 => ?_) (fun c_7 => absurd (Nat.le_refl _) c_7)
    refine y_iload_n C D_X5_rememberedBy_45 rfl ?_
    exact y_iret C E D_X5_rememberedBy_46 (rfl) (rfl)
  | succ m ih =>
    intro g hg
    have hbb : me y s g < 2000 := hB (21 + 6 * s + g)
    have z := ih (g + 1) (by omega)
    unfold rb at z
    refine y_iload_n C D_X5_rememberedBy_4 rfl ?_
    refine y_bipush C D_X5_rememberedBy_5 kb_6 ?_
    refine y_icmp_ge C D_X5_rememberedBy_7 (n_le (by omega) (by omega)) (fun c_7 => absurd c_7 (by omega)) (fun c_7 => ?_)
    refine y_iload_n C D_X5_rememberedBy_10 rfl ?_
    refine y_iload_n C D_X5_rememberedBy_11 rfl ?_
    refine z_callS C D_X5_rememberedBy_12 lk_X5_55 (c_X5_hasRoom (by omega) (by omega)) rfl rfl (Nat.le_of_ble_eq_true rfl) (Nat.le_of_ble_eq_true rfl) ⟨Nat.zero_le _, Nat.zero_le _⟩ ?_
    refine z_ifeqB C D_X5_rememberedBy_15 (fun c_15 => absurd ⟨h1, by omega⟩ c_15) (fun c_15 => ?_)
    refine y_aload_n C D_X5_rememberedBy_18 rfl ?_
    refine y_get C D_X5_rememberedBy_19 fl_X5_15 (yc_o ha) rfl ?_
    refine y_iload_n C D_X5_rememberedBy_22 rfl ?_
    refine y_bipush C D_X5_rememberedBy_23 kb_6 ?_
    refine z_imul C D_X5_rememberedBy_25 ?_
    refine y_iload_n C D_X5_rememberedBy_26 rfl ?_
    refine z_iadd C D_X5_rememberedBy_27 ?_
    refine z_ild C D_X5_rememberedBy_28 (yc_m ha) (by omega) (by decide) (tr_at (by omega)) ?_
    rw [show y (21 + (s * 6 + g)) = me y s g from by rw [show 21 + (s * 6 + g) = 21 + 6 * s + g by omega]]
    refine y_if_le C D_X5_rememberedBy_29 (n_le0 (by omega)) (fun c_29 => ?_) (fun c_29 => ?_)
    · refine z_iinc (n := 1) C D_X5_rememberedBy_39 rfl (by decide) (qok_s rfl rfl) ?_
      refine y_goto C D_X5_rememberedBy_42 ?_
      rw [if_neg (by omega)] at z
      exact z
    · refine y_iload_n C D_X5_rememberedBy_32 rfl ?_
      refine y_iload_n C D_X5_rememberedBy_33 rfl ?_
      refine z_callSN C D_X5_rememberedBy_34 lk_X5_78 (c_X6_bit (by omega)) rfl rfl (Nat.le_of_ble_eq_true rfl) (Nat.le_of_ble_eq_true rfl) ⟨Nat.zero_le _, Nat.zero_le _⟩ ?_
      refine z_ior C D_X5_rememberedBy_37 ?_
      refine y_istore_n C D_X5_rememberedBy_38 (by decide) (qok_s rfl rfl) ?_
      refine z_iinc (n := 1) C D_X5_rememberedBy_39 rfl (by decide) (qok_s rfl rfl) ?_
      refine y_goto C D_X5_rememberedBy_42 ?_
      rw [if_pos (by omega)] at z
      exact z
theorem c_X5_rememberedBy (ha : a + 2 < h.length) {s : Nat} (h1 : s < 5) (hB : ∀ k, y k < 2000) : Ct l G yX5_rememberedBy 1 [qr G a, .int (nI s)] (yc G h a y) (some (.int (nI (rb y s 6)))) (yc G h a y) := by
  refine ctm_intro (maxL := 4) kw_X5_rememberedBy (by decide) (by decide) [some (qr G a), some (.int (nI s)), none, none] rfl (Nat.le_of_ble_eq_true rfl) ?_
  intro X _ hcl hsl _ _ C E
  refine y_iconst C D_X5_rememberedBy_0 ki_0 ?_
  refine y_istore_n C D_X5_rememberedBy_1 (by decide) (qok_s rfl rfl) ?_
  refine y_iconst C D_X5_rememberedBy_2 ki_0 ?_
  refine y_istore_n C D_X5_rememberedBy_3 (by decide) (qok_s rfl rfl) ?_
  exact lp_X5_rememberedBy ha h1 hB C E 6 0 (by omega)
theorem lp_X5_clearest {X : qX} {s b : Nat} (ha : a + 2 < h.length) (h1 : s < 5) (hb : b < 64) (h2 : 1 ≤ y 1) (hB : ∀ k, y k < 2000) (C : qC X G cX5_clearest 8 RX5 1) (E : qE X G (some .int) 0 0 (some (.int (nO (mo y s b 6)))) (yc G h a y)) : ∀ (m g : Nat), g + m = 6 → Y X G 8 0 0 23 [some (qr G a), some (.int (nI (s))), some (.int (nI (b))), some (.int (nI (y 1))), some (.int (nO (mo y s b g))), some (.int (nI (mB y s b g))), some (.int (nI (g))), none] [] (yc G h a y) := by
  intro m
  induction m with
  | zero =>
    intro g hg
    obtain rfl : g = 6 := by omega
    refine y_iload C D_X5_clearest_23 rfl ?_
    refine y_bipush C D_X5_clearest_25 kb_6 ?_
    refine y_icmp_ge C D_X5_clearest_27 (n_le (by omega) (by omega)) (fun c_27 => ?_) (fun c_27 => absurd (Nat.le_refl _) c_27)
    refine y_iload C D_X5_clearest_74 rfl ?_
    exact y_iret C E D_X5_clearest_76 (rfl) (rfl)
  | succ m ih =>
    intro g hg
    have hb1 := hB 1
    have hbb : me y s g < 2000 := hB (21 + 6 * s + g)
    have z := ih (g + 1) (by omega)
    rcases hm1 : mo y s b g with _ | q
    · rw [show mB y s b g = y 1 - 1 from by rw [mB, hm1]]
      refine y_iload C D_X5_clearest_23 rfl ?_
      refine y_bipush C D_X5_clearest_25 kb_6 ?_
      refine y_icmp_ge C D_X5_clearest_27 (n_le (by omega) (by omega)) (fun c_27 => absurd c_27 (by omega)) (fun c_27 => ?_)
      refine y_aload_n C D_X5_clearest_30 rfl ?_
      refine y_get C D_X5_clearest_31 fl_X5_15 (yc_o ha) rfl ?_
      refine y_iload_n C D_X5_clearest_34 rfl ?_
      refine y_bipush C D_X5_clearest_35 kb_6 ?_
      refine z_imul C D_X5_clearest_37 ?_
      refine y_iload C D_X5_clearest_38 rfl ?_
      refine z_iadd C D_X5_clearest_40 ?_
      refine z_ild C D_X5_clearest_41 (yc_m ha) (by omega) (by decide) (tr_at (by omega)) ?_
      rw [show y (21 + (s * 6 + g)) = me y s g from by rw [show 21 + (s * 6 + g) = 21 + 6 * s + g by omega]]
      refine y_istore C D_X5_clearest_42 (by decide) (qok_s rfl rfl) ?_
      refine y_iload C D_X5_clearest_44 rfl ?_
      refine y_iload C D_X5_clearest_46 rfl ?_
      refine y_icmp_le C D_X5_clearest_48 (n_le (by omega) (by omega)) (fun c_48 => ?_) (fun c_48 => ?_)
      · refine z_iinc (n := 1) C D_X5_clearest_68 rfl (by decide) (qok_s rfl rfl) ?_
        refine y_goto C D_X5_clearest_71 ?_
        refine y_fg 7 ?_
        have e : mo y s b (g + 1) = none := by simp [mo, hm1, show ¬ y 1 ≤ me y s g from by omega]
        rw [e, show mB y s b (g + 1) = y 1 - 1 from by rw [mB, e]] at z
        exact z
      · refine y_iload_n C D_X5_clearest_51 rfl ?_
        refine y_iload C D_X5_clearest_52 rfl ?_
        refine z_callSN C D_X5_clearest_54 lk_X5_68 (c_X6_hasBit (by omega) (by omega)) rfl rfl (Nat.le_of_ble_eq_true rfl) (Nat.le_of_ble_eq_true rfl) ⟨Nat.zero_le _, Nat.zero_le _⟩ ?_
        refine z_ifeqB C D_X5_clearest_57 (fun c_57 => ?_) (fun c_57 => ?_)
        · refine z_iinc (n := 1) C D_X5_clearest_68 rfl (by decide) (qok_s rfl rfl) ?_
          refine y_goto C D_X5_clearest_71 ?_
          refine y_fg 7 ?_
          have e : mo y s b (g + 1) = none := by simp [mo, hm1, c_57]
          rw [e, show mB y s b (g + 1) = y 1 - 1 from by rw [mB, e]] at z
          exact z
        · refine y_iload C D_X5_clearest_60 rfl ?_
          refine y_istore C D_X5_clearest_62 (by decide) (qok_s rfl rfl) ?_
          refine y_iload C D_X5_clearest_64 rfl ?_
          refine y_istore C D_X5_clearest_66 (by decide) (qok_s rfl rfl) ?_
          refine z_iinc (n := 1) C D_X5_clearest_68 rfl (by decide) (qok_s rfl rfl) ?_
          refine y_goto C D_X5_clearest_71 ?_
          refine y_fg 7 ?_
          have e : mo y s b (g + 1) = some g := by simp [mo, hm1, c_57, show y 1 ≤ me y s g from by omega]
          rw [e, show mB y s b (g + 1) = me y s g from by rw [mB, e]] at z
          exact z
    · have hbq : me y s q < 2000 := hB _
      have hq := mo_me hm1
      rw [show mB y s b g = me y s q from by rw [mB, hm1]]
      refine y_iload C D_X5_clearest_23 rfl ?_
      refine y_bipush C D_X5_clearest_25 kb_6 ?_
      refine y_icmp_ge C D_X5_clearest_27 (n_le (by omega) (by omega)) (fun c_27 => absurd c_27 (by omega)) (fun c_27 => ?_)
      refine y_aload_n C D_X5_clearest_30 rfl ?_
      refine y_get C D_X5_clearest_31 fl_X5_15 (yc_o ha) rfl ?_
      refine y_iload_n C D_X5_clearest_34 rfl ?_
      refine y_bipush C D_X5_clearest_35 kb_6 ?_
      refine z_imul C D_X5_clearest_37 ?_
      refine y_iload C D_X5_clearest_38 rfl ?_
      refine z_iadd C D_X5_clearest_40 ?_
      refine z_ild C D_X5_clearest_41 (yc_m ha) (by omega) (by decide) (tr_at (by omega)) ?_
      rw [show y (21 + (s * 6 + g)) = me y s g from by rw [show 21 + (s * 6 + g) = 21 + 6 * s + g by omega]]
      refine y_istore C D_X5_clearest_42 (by decide) (qok_s rfl rfl) ?_
      refine y_iload C D_X5_clearest_44 rfl ?_
      refine y_iload C D_X5_clearest_46 rfl ?_
      refine y_icmp_le C D_X5_clearest_48 (n_le (by omega) (by omega)) (fun c_48 => ?_) (fun c_48 => ?_)
      · refine z_iinc (n := 1) C D_X5_clearest_68 rfl (by decide) (qok_s rfl rfl) ?_
        refine y_goto C D_X5_clearest_71 ?_
        refine y_fg 7 ?_
        have e : mo y s b (g + 1) = some q := by simp [mo, hm1, show ¬ me y s q < me y s g from by omega]
        rw [e, show mB y s b (g + 1) = me y s q from by rw [mB, e]] at z
        exact z
      · refine y_iload_n C D_X5_clearest_51 rfl ?_
        refine y_iload C D_X5_clearest_52 rfl ?_
        refine z_callSN C D_X5_clearest_54 lk_X5_68 (c_X6_hasBit (by omega) (by omega)) rfl rfl (Nat.le_of_ble_eq_true rfl) (Nat.le_of_ble_eq_true rfl) ⟨Nat.zero_le _, Nat.zero_le _⟩ ?_
        refine z_ifeqB C D_X5_clearest_57 (fun c_57 => ?_) (fun c_57 => ?_)
        · refine z_iinc (n := 1) C D_X5_clearest_68 rfl (by decide) (qok_s rfl rfl) ?_
          refine y_goto C D_X5_clearest_71 ?_
          refine y_fg 7 ?_
          have e : mo y s b (g + 1) = some q := by simp [mo, hm1, c_57]
          rw [e, show mB y s b (g + 1) = me y s q from by rw [mB, e]] at z
          exact z
        · refine y_iload C D_X5_clearest_60 rfl ?_
          refine y_istore C D_X5_clearest_62 (by decide) (qok_s rfl rfl) ?_
          refine y_iload C D_X5_clearest_64 rfl ?_
          refine y_istore C D_X5_clearest_66 (by decide) (qok_s rfl rfl) ?_
          refine z_iinc (n := 1) C D_X5_clearest_68 rfl (by decide) (qok_s rfl rfl) ?_
          refine y_goto C D_X5_clearest_71 ?_
          refine y_fg 7 ?_
          have e : mo y s b (g + 1) = some g := by simp [mo, hm1, c_57, show y 1 ≤ me y s g from by omega, show me y s q < me y s g from by omega]
          rw [e, show mB y s b (g + 1) = me y s g from by rw [mB, e]] at z
          exact z
theorem c_X5_clearest (ha : a + 2 < h.length) {s b : Nat} (h1 : s < 5) (hb : b < 64) (h2 : 1 ≤ y 1) (hB : ∀ k, y k < 2000) : Ct l G yX5_clearest 1 [qr G a, .int (nI s), .int (nI b), .int (nI (y 1))] (yc G h a y) (some (.int (nO (mo y s b 6)))) (yc G h a y) := by
  refine ctm_intro (maxL := 8) kw_X5_clearest (by decide) (by decide) [some (qr G a), some (.int (nI s)), some (.int (nI b)), some (.int (nI (y 1))), none, none, none, none] rfl (Nat.le_of_ble_eq_true rfl) ?_
  intro X _ hcl hsl _ _ C E
  refine y_ldc C D_X5_clearest_0 lk_X5_67 ?_
  refine y_istore C D_X5_clearest_2 (by decide) (qok_s rfl rfl) ?_
  refine y_iload_n C D_X5_clearest_4 rfl ?_
  refine y_iconst C D_X5_clearest_5 ki_0 ?_
  refine z_callS C D_X5_clearest_6 lk_X5_55 (c_X5_hasRoom (by omega) (by omega)) rfl rfl (Nat.le_of_ble_eq_true rfl) (Nat.le_of_ble_eq_true rfl) ⟨Nat.zero_le _, Nat.zero_le _⟩ ?_
  refine z_ifneB C D_X5_clearest_9 (fun c_9 => ?_) (fun c_9 => absurd ⟨h1, by decide⟩ c_9)
  have hb1 := hB 1
  refine y_iload_n C D_X5_clearest_15 rfl ?_
  refine y_iconst C D_X5_clearest_16 ki_1 ?_
  refine z_isub C D_X5_clearest_17 (by omega) ?_
  refine y_istore C D_X5_clearest_18 (by decide) (qok_s rfl rfl) ?_
  refine y_iconst C D_X5_clearest_20 ki_0 ?_
  refine y_istore C D_X5_clearest_21 (by decide) (qok_s rfl rfl) ?_
  exact lp_X5_clearest ha h1 hb h2 hB C E 6 0 (by omega)
end
