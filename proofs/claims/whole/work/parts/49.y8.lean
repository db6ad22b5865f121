theorem mb_out {y : Nat → Nat} (h : Va y) {p : Nat} (hp : p < 5) (h3 : y 3 ≤ p) : ∀ n, n ≤ 6 → mbn y p n = 0
  | 0, _ => rfl
  | n + 1, hn => by
    rw [mbn, mb_out h hp h3 n (by omega), (h.2.2.2.2.2.2.2.2.1 p n hp (by omega)).2 (Or.inl h3)]
theorem sm6_sm {y : Nat → Nat} (h : Va y) : ∀ n, n ≤ 5 → sm6 y n = smN y (if n ≤ y 3 then n else y 3)
  | 0, _ => by
    rw [if_pos (Nat.zero_le _)]
    rfl
  | n + 1, hn => by
    have ih := sm6_sm h n (by omega)
    unfold sm6
    rw [ih]
    by_cases c : n + 1 ≤ y 3
    · rw [if_pos (by omega), if_pos c, h.mb6 (by omega)]
      rfl
    · rw [if_neg c, mb_out h (by omega) (by omega) 6 (by decide), Nat.add_zero]
      by_cases d : n ≤ y 3
      · rw [if_pos d, show n = y 3 by omega]
      · rw [if_neg d]
theorem sm6_5 {y : Nat → Nat} (h : Va y) : sm6 y 5 = smN y (y 3) := by
  have h3 := h.2.2.2.1.2
  rw [sm6_sm h 5 (by decide)]
  split
  · rw [show y 3 = 5 by omega]
  · rfl
/-! who is in need: fading keeps the order of memories -/
theorem less_mono {y : Nat → Nat} (h2 : 2 ≤ y 2) {m n : Nat} (h : m ≤ n) : less y m ≤ less y n := by
  unfold less
  by_cases c : m = 0
  · rw [if_pos c]
    exact Nat.zero_le _
  · rw [if_neg c, if_neg (by omega)]
    have h1 : n / y 2 ≤ m / y 2 + (n - m) := by
      have e : n = m + (n - m) := by omega
      have : (m + (n - m)) / y 2 ≤ (m + (n - m) * y 2) / y 2 := Nat.div_le_div_right (Nat.add_le_add_left (Nat.le_mul_of_pos_right _ (by omega)) _)
      rw [Nat.add_mul_div_right _ _ (by omega)] at this
      rw [← e] at this
      exact this
    omega
theorem mo_enB {y : Nat → Nat} {p : Nat} (h1 : 1 ≤ y 1) : ∀ n, (enB y p n = true ↔ mo y p (y 5) n ≠ none)
  | 0 => by simp [enB, mo]
  | n + 1 => by
    have ih := mo_enB (p := p) h1 n
    have e : y 1 ≤ mk y p n ↔ hs (y 5) n ∧ y 1 ≤ me y p n := by
      unfold mk
      by_cases c : hs (y 5) n
      · rw [if_pos c]; exact ⟨fun z => ⟨c, z⟩, fun z => z.2⟩
      · rw [if_neg c]; exact ⟨fun z => (by omega), fun z => absurd z.1 c⟩
    unfold enB
    rw [Bool.or_eq_true, decide_eq_true_iff, ih, e, show mo y p (y 5) (n + 1) = (match mo y p (y 5) n with
      | none => if hs (y 5) n ∧ y 1 ≤ me y p n then some n else none
      | some q => if hs (y 5) n ∧ y 1 ≤ me y p n ∧ me y p q < me y p n then some n else some q) from rfl]
    cases hm1 : mo y p (y 5) n with
    | none =>
      simp only
      by_cases c : hs (y 5) n ∧ y 1 ≤ me y p n
      · rw [if_pos c]; exact ⟨fun _ z => (by cases z), fun _ => Or.inr c⟩
      · rw [if_neg c]; exact ⟨fun z => z.elim (fun q => absurd rfl q) (fun q => absurd q c), fun z => absurd rfl z⟩
    | some q =>
      simp only
      refine ⟨fun _ z => ?_, fun _ => Or.inl (fun z => by cases z)⟩
      split at z <;> cases z
theorem mo_none {y : Nat → Nat} {p b : Nat} : ∀ {n : Nat}, mo y p b n = none → ∀ {g}, g < n → hs b g → me y p g < y 1
  | 0, _, g, hg, _ => by omega
  | n + 1, h, g, hg, hb => by
    unfold mo at h
    cases hm1 : mo y p b n with
    | none =>
      rw [hm1] at h
      simp only at h
      split at h
      · cases h
      · rename_i c
        by_cases e : g = n
        · subst e
          rcases Nat.lt_or_ge (me y p g) (y 1) with k | k
          · exact k
          · exact absurd ⟨hb, k⟩ c
        · exact mo_none hm1 (by omega) hb
    | some r =>
      rw [hm1] at h
      simp only at h
      split at h <;> cases h
/-- the first with most memory has most memory -/
theorem mo_max {y : Nat → Nat} {p b : Nat} : ∀ {n q : Nat}, mo y p b n = some q → hs b q ∧ ∀ g, g < n → hs b g → me y p g ≤ me y p q
  | 0, q, h => by simp [mo] at h
  | n + 1, q, h => by
    unfold mo at h
    cases hm1 : mo y p b n with
    | none =>
      rw [hm1] at h
      simp only at h
      split at h
      · rename_i c
        cases h
        refine ⟨c.1, fun g hg hb => ?_⟩
        by_cases e : g = n
        · rw [e]; exact Nat.le_refl _
        · rcases Nat.lt_or_ge (me y p g) (y 1) with k | k
          · omega
          · exact absurd (mo_none hm1 (show g < n by omega) hb) (by omega)
      · cases h
    | some r =>
      rw [hm1] at h
      have ih := mo_max hm1
      have hme := mo_me hm1
      simp only at h
      split at h
      · rename_i c
        cases h
        refine ⟨c.1, fun g hg hb => ?_⟩
        by_cases e : g = n
        · rw [e]; exact Nat.le_refl _
        · have := ih.2 g (by omega) hb
          omega
      · rename_i c
        cases h
        refine ⟨ih.1, fun g hg hb => ?_⟩
        by_cases e : g = n
        · subst e
          rcases Nat.lt_or_ge (me y p q) (me y p g) with k | k
          · exact absurd ⟨hb, by omega, k⟩ c
          · exact k
        · exact ih.2 g (by omega) hb
theorem keB_iff {y : Nat → Nat} {p : Nat} : ∀ n, (keB y p n = true ↔ ∃ g, g < n ∧ y 1 ≤ less y (mk y p g))
  | 0 => ⟨fun z => by simp [keB] at z, fun ⟨g, hg, _⟩ => by omega⟩
  | n + 1 => by
    have ih := keB_iff (y := y) (p := p) n
    unfold keB
    rw [Bool.or_eq_true, decide_eq_true_iff, ih]
    refine ⟨fun z => z.elim (fun ⟨g, hg, hl⟩ => ⟨g, by omega, hl⟩) (fun z => ⟨n, by omega, z⟩), fun ⟨g, hg, hl⟩ => ?_⟩
    by_cases e : g = n
    · subst e; exact Or.inr hl
    · exact Or.inl ⟨g, by omega, hl⟩
theorem nd_mo {y : Nat → Nat} (h : Va y) {p : Nat} : (nd y p = true ↔ ∃ q, mo y p (y 5) (y 0) = some q ∧ less y (me y p q) < y 1) := by
  have h1 := h.2.1.1
  have h2 := h.2.2.1.1
  unfold nd
  rw [Bool.and_eq_true, mo_enB h1, Bool.not_eq_true', ← Bool.not_eq_true, keB_iff]
  constructor
  · intro z
    cases hm1 : mo y p (y 5) (y 0) with
    | none => exact absurd hm1 z.1
    | some q =>
      refine ⟨q, rfl, ?_⟩
      rcases Nat.lt_or_ge (less y (me y p q)) (y 1) with k | k
      · exact k
      · refine absurd ⟨q, mo_lt hm1, ?_⟩ z.2
        rw [mk, if_pos (mo_max hm1).1]
        exact k
  · rintro ⟨q, hq, hl⟩
    refine ⟨fun z => (by rw [hq] at z; cases z), fun ⟨g, hg, hk⟩ => ?_⟩
    unfold mk at hk
    by_cases c : hs (y 5) g
    · rw [if_pos c] at hk
      have := less_mono h2 ((mo_max hq).2 g hg c)
      omega
    · rw [if_neg c, less_0] at hk
      omega
/-- who is in need, of the first n places -/
def n5 (y : Nat → Nat) : Nat → Nat
  | 0 => 0
  | p + 1 => if nd y p = true then n5 y p ||| 2 ^ p else n5 y p
section
variable {l : Launch} {G : qG} {h : List va_E} {a : Nat} {y : Nat → Nat}
theorem lp_X5_allMemoryOf {X : qX} {s : Nat} (ha : a + 2 < h.length) (h1 : s < 5) (C : qC X G cX5_allMemoryOf 4 RX5 2) (E : qE X G (some .int) 0 0 (some (.int (nI (mbn y s 6)))) (yc G h a y)) : ∀ (m g : Nat), g + m = 6 → Y X G 4 0 0 4 [some (qr G a), some (.int (nI (s))), some (.int (nI (mbn y s g))), some (.int (nI (g)))] [] (yc G h a y) := by
  intro m
  induction m with
  | zero =>
    intro g hg
    obtain rfl : g = 6 := by omega
    refine y_iload_n C D_X5_allMemoryOf_4 rfl ?_
    refine y_bipush C D_X5_allMemoryOf_5 kb_6 ?_
    refine y_icmp_ge C D_X5_allMemoryOf_7 (n_le (by omega) (by omega)) (fun c_7 => ?_) (fun c_7 => absurd (Nat.le_refl _) c_7)
    refine y_iload_n C D_X5_allMemoryOf_25 rfl ?_
    exact y_iret C E D_X5_allMemoryOf_26 (rfl) (rfl)
  | succ m ih =>
    intro g hg
    refine y_iload_n C D_X5_allMemoryOf_4 rfl ?_
    refine y_bipush C D_X5_allMemoryOf_5 kb_6 ?_
    refine y_icmp_ge C D_X5_allMemoryOf_7 (n_le (by omega) (by omega)) (fun c_7 => absurd c_7 (by omega)) (fun c_7 => ?_)
    refine y_iload_n C D_X5_allMemoryOf_10 rfl ?_
    refine y_aload_n C D_X5_allMemoryOf_11 rfl ?_
    refine y_iload_n C D_X5_allMemoryOf_12 rfl ?_
    refine y_iload_n C D_X5_allMemoryOf_13 rfl ?_
    refine z_callV C D_X5_allMemoryOf_14 lk_X5_59 (c_X5_memoryOf ha (by omega) (by omega)) (yc_o ha) rfl rfl (Nat.le_of_ble_eq_true rfl) (Nat.le_of_ble_eq_true rfl) ⟨Nat.zero_le _, Nat.zero_le _⟩ ?_
    refine z_iadd C D_X5_allMemoryOf_17 ?_
    refine y_istore_n C D_X5_allMemoryOf_18 (by decide) (qok_s rfl rfl) ?_
    refine z_iinc (n := 1) C D_X5_allMemoryOf_19 rfl (by decide) (qok_s rfl rfl) ?_
    refine y_goto C D_X5_allMemoryOf_22 ?_
    exact ih (g + 1) (by omega)
theorem c_X5_allMemoryOf6 (ha : a + 2 < h.length) {s : Nat} (h1 : s < 5) : Ct l G yX5_allMemoryOf 2 [qr G a, .int (nI s)] (yc G h a y) (some (.int (nI (mbn y s 6)))) (yc G h a y) := by
  refine ctm_intro (maxL := 4) kw_X5_allMemoryOf (by decide) (by decide) [some (qr G a), some (.int (nI s)), none, none] rfl (Nat.le_of_ble_eq_true rfl) ?_
  intro X _ hcl hsl _ _ C E
  refine y_iconst C D_X5_allMemoryOf_0 ki_0 ?_
  refine y_istore_n C D_X5_allMemoryOf_1 (by decide) (qok_s rfl rfl) ?_
  refine y_iconst C D_X5_allMemoryOf_2 ki_0 ?_
  refine y_istore_n C D_X5_allMemoryOf_3 (by decide) (qok_s rfl rfl) ?_
  exact lp_X5_allMemoryOf ha h1 C E 6 0 (by omega)
theorem c_X5_allMemoryOf (ha : a + 2 < h.length) {s : Nat} (h1 : s < 5) (hV : Va y) : Ct l G yX5_allMemoryOf 2 [qr G a, .int (nI s)] (yc G h a y) (some (.int (nI (mbn y s (y 0))))) (yc G h a y) := hV.mb6 h1 ▸ c_X5_allMemoryOf6 ha h1
theorem lp_X5_allMemory {X : qX} (ha : a + 2 < h.length) (C : qC X G cX5_allMemory 3 RX5 3) (E : qE X G (some .int) 0 0 (some (.int (nI (sm6 y 5)))) (yc G h a y)) : ∀ (m s : Nat), s + m = 5 → Y X G 3 0 0 4 [some (qr G a), some (.int (nI (sm6 y s))), some (.int (nI (s)))] [] (yc G h a y) := by
  intro m
  induction m with
  | zero =>
    intro s hs'
    obtain rfl : s = 5 := by omega
    refine y_iload_n C D_X5_allMemory_4 rfl ?_
    refine y_iconst C D_X5_allMemory_5 ki_5 ?_
    refine y_icmp_ge C D_X5_allMemory_6 (n_le (by omega) (by omega)) (fun c_6 => ?_) (fun c_6 => absurd (Nat.le_refl _) c_6)
    refine y_iload_n C D_X5_allMemory_23 rfl ?_
    exact y_iret C E D_X5_allMemory_24 (rfl) (rfl)
  | succ m ih =>
    intro s hs' 
    refine y_iload_n C D_X5_allMemory_4 rfl ?_
    refine y_iconst C D_X5_allMemory_5 ki_5 ?_
    refine y_icmp_ge C D_X5_allMemory_6 (n_le (by omega) (by omega)) (fun c_6 => absurd c_6 (by omega)) (fun c_6 => ?_)
    refine y_iload_n C D_X5_allMemory_9 rfl ?_
    refine y_aload_n C D_X5_allMemory_10 rfl ?_
    refine y_iload_n C D_X5_allMemory_11 rfl ?_
    refine z_callV C D_X5_allMemory_12 lk_X5_63 (c_X5_allMemoryOf6 ha (by omega)) (yc_o ha) rfl rfl (Nat.le_of_ble_eq_true rfl) (Nat.le_of_ble_eq_true rfl) ⟨Nat.zero_le _, Nat.zero_le _⟩ ?_
    refine z_iadd C D_X5_allMemory_15 ?_
    refine y_istore_n C D_X5_allMemory_16 (by decide) (qok_s rfl rfl) ?_
    refine z_iinc (n := 1) C D_X5_allMemory_17 rfl (by decide) (qok_s rfl rfl) ?_
    refine y_goto C D_X5_allMemory_20 ?_
    exact ih (s + 1) (by omega)
theorem c_X5_allMemory (ha : a + 2 < h.length) (hV : Va y) : Ct l G yX5_allMemory 3 [qr G a] (yc G h a y) (some (.int (nI (smN y (y 3))))) (yc G h a y) := by
  refine ctm_intro (maxL := 3) kw_X5_allMemory (by decide) (by decide) [some (qr G a), none, none] rfl (Nat.le_of_ble_eq_true rfl) ?_
  intro X _ hcl hsl _ _ C E
  refine y_iconst C D_X5_allMemory_0 ki_0 ?_
  refine y_istore_n C D_X5_allMemory_1 (by decide) (qok_s rfl rfl) ?_
  refine y_iconst C D_X5_allMemory_2 ki_0 ?_
  refine y_istore_n C D_X5_allMemory_3 (by decide) (qok_s rfl rfl) ?_
  rw [← sm6_5 hV] at E
  exact lp_X5_allMemory ha C E 5 0 (by omega)
theorem lp_X5_dreamersOf {X : qX} {g : Nat} (ha : a + 2 < h.length) (hg : g < 6) (hV : Va y) (h4 : y 4 < 2000) (C : qC X G cX5_dreamersOf 4 RX5 3) (E : qE X G (some .int) 0 0 (some (.int (nI (d5 y g 5)))) (yc G h a y)) : ∀ (m s : Nat), s + m = 5 → Y X G 4 0 0 4 [some (qr G a), some (.int (nI (g))), some (.int (nI (d5 y g s))), some (.int (nI (s)))] [] (yc G h a y) := by
  intro m
  induction m with
  | zero =>
    intro s hs'
    obtain rfl : s = 5 := by omega
    refine y_iload_n C D_X5_dreamersOf_4 rfl ?_
    refine y_iconst C D_X5_dreamersOf_5 ki_5 ?_
    refine y_icmp_ge C D_X5_dreamersOf_6 (n_le (by omega) (by omega)) (fun c_6 => ?_) (fun c_6 => absurd (Nat.le_refl _) c_6)
    refine y_iload_n C D_X5_dreamersOf_34 rfl ?_
    exact y_iret C E D_X5_dreamersOf_35 (rfl) (rfl)
  | succ m ih =>
    intro s hs'
    have hdl := dr_lt (y := y) (p := s) hV.1.1 hV.1.2
    have hdi : (if s < y 3 then dr y s else 0) < 64 := by split <;> omega
    have z := ih (s + 1) (by omega)
    unfold d5 at z
    refine y_iload_n C D_X5_dreamersOf_4 rfl ?_
    refine y_iconst C D_X5_dreamersOf_5 ki_5 ?_
    refine y_icmp_ge C D_X5_dreamersOf_6 (n_le (by omega) (by omega)) (fun c_6 => absurd c_6 (by omega)) (fun c_6 => ?_)
    refine y_aload_n C D_X5_dreamersOf_9 rfl ?_
    refine y_iload_n C D_X5_dreamersOf_10 rfl ?_
    refine z_callV C D_X5_dreamersOf_11 lk_X5_88 (c_X5_dreamsOf ha (by omega) hV h4) (yc_o ha) rfl rfl (Nat.le_of_ble_eq_true rfl) (Nat.le_of_ble_eq_true rfl) ⟨Nat.zero_le _, Nat.zero_le _⟩ ?_
    refine y_iload_n C D_X5_dreamersOf_14 rfl ?_
    refine z_callSN C D_X5_dreamersOf_15 lk_X5_68 (c_X6_hasBit (Nat.lt_trans hdi (by decide)) (by omega)) rfl rfl (Nat.le_of_ble_eq_true rfl) (Nat.le_of_ble_eq_true rfl) ⟨Nat.zero_le _, Nat.zero_le _⟩ ?_
    refine z_ifeqB C D_X5_dreamersOf_18 (fun c_18 => ?_) (fun c_18 => ?_)
    · refine z_iinc (n := 1) C D_X5_dreamersOf_28 rfl (by decide) (qok_s rfl rfl) ?_
      refine y_goto C D_X5_dreamersOf_31 ?_
      rw [if_neg c_18, Nat.or_zero] at z
      exact z
    · refine y_iload_n C D_X5_dreamersOf_21 rfl ?_
      refine y_iload_n C D_X5_dreamersOf_22 rfl ?_
      refine z_callSN C D_X5_dreamersOf_23 lk_X5_78 (c_X6_bit (by omega)) rfl rfl (Nat.le_of_ble_eq_true rfl) (Nat.le_of_ble_eq_true rfl) ⟨Nat.zero_le _, Nat.zero_le _⟩ ?_
      refine z_ior C D_X5_dreamersOf_26 ?_
      refine y_istore_n C D_X5_dreamersOf_27 (by decide) (qok_s rfl rfl) ?_
      refine z_iinc (n := 1) C D_X5_dreamersOf_28 rfl (by decide) (qok_s rfl rfl) ?_
      refine y_goto C D_X5_dreamersOf_31 ?_
      rw [if_pos c_18] at z
      exact z
theorem c_X5_dreamersOf (ha : a + 2 < h.length) {g : Nat} (hg : g < 6) (hV : Va y) (h4 : y 4 < 2000) : Ct l G yX5_dreamersOf 3 [qr G a, .int (nI g)] (yc G h a y) (some (.int (nI (dwn y g (y 3))))) (yc G h a y) := by
  refine ctm_intro (maxL := 4) kw_X5_dreamersOf (by decide) (by decide) [some (qr G a), some (.int (nI g)), none, none] rfl (Nat.le_of_ble_eq_true rfl) ?_
  intro X _ hcl hsl _ _ C E
  refine y_iconst C D_X5_dreamersOf_0 ki_0 ?_
  refine y_istore_n C D_X5_dreamersOf_1 (by decide) (qok_s rfl rfl) ?_
  refine y_iconst C D_X5_dreamersOf_2 ki_0 ?_
  refine y_istore_n C D_X5_dreamersOf_3 (by decide) (qok_s rfl rfl) ?_
  rw [← d5_5 hV.2.2.2.1.2] at E
  exact lp_X5_dreamersOf ha hg hV h4 C E 5 0 (by omega)
theorem lp_X5_inNeed {X : qX} (ha : a + 2 < h.length) (hV : Va y) (h4 : y 4 < 2000) (C : qC X G cX5_inNeed 4 RX5 2) (E : qE X G (some .int) 0 0 (some (.int (nI (n5 y 5)))) (yc G h a y)) : ∀ (m s : Nat), s + m = 5 → Y X G 4 0 0 4 [some (qr G a), some (.int (nI (n5 y s))), some (.int (nI (s))), none] [] (yc G h a y) := by
  have v0 := hV.1
  have v1 := hV.2.1
  have v2 := hV.2.2.1
  have v3 := hV.2.2.2.1
  have v5 := hV.k64
  have hB : ∀ k, y k < 2000 := fun k => hV.lt h4 k
  intro m
  induction m with
  | zero =>
    intro s hs'
    obtain rfl : s = 5 := by omega
    refine y_iload_n C D_X5_inNeed_4 rfl ?_
    refine y_iconst C D_X5_inNeed_5 ki_5 ?_
    refine y_icmp_ge C D_X5_inNeed_6 (n_le (by omega) (by omega)) (fun c_6 => ?_) (fun c_6 => absurd (Nat.le_refl _) c_6)
    refine y_iload_n C D_X5_inNeed_57 rfl ?_
    exact y_iret C E D_X5_inNeed_58 (rfl) (rfl)
  | succ m ih =>
    intro s hs'
    have hiff := nd_mo hV (p := s)
    have z := ih (s + 1) (by omega)
    unfold n5 at z
    refine y_iload_n C D_X5_inNeed_4 rfl ?_
    refine y_iconst C D_X5_inNeed_5 ki_5 ?_
    refine y_icmp_ge C D_X5_inNeed_6 (n_le (by omega) (by omega)) (fun c_6 => absurd c_6 (by omega)) (fun c_6 => ?_)
    refine y_aload_n C D_X5_inNeed_9 rfl ?_
    refine y_iload_n C D_X5_inNeed_10 rfl ?_
    refine y_aload_n C D_X5_inNeed_11 rfl ?_
    refine y_get C D_X5_inNeed_12 fl_X5_34 (yc_o ha) rfl ?_
    refine y_aload_n C D_X5_inNeed_15 rfl ?_
    refine y_get C D_X5_inNeed_16 fl_X5_22 (yc_o ha) rfl ?_
    refine z_callV C D_X5_inNeed_19 lk_X5_74 (c_X5_clearest ha (by omega) (by omega) (by omega) hB) (yc_o ha) rfl rfl (Nat.le_of_ble_eq_true rfl) (Nat.le_of_ble_eq_true rfl) ⟨Nat.zero_le _, Nat.zero_le _⟩ ?_
    rw [hV.mo6 (by omega)]
    rcases hmo : mo y s (y 5) (y 0) with _ | q
    · rw [if_neg (fun e => by obtain ⟨q, hq, _⟩ := hiff.mp e; rw [hmo] at hq; cases hq)] at z
      refine y_istore_n C D_X5_inNeed_22 (by decide) (qok_s rfl rfl) ?_
      refine y_iload_n C D_X5_inNeed_23 rfl ?_
      refine y_if_lt C D_X5_inNeed_24 Iff.rfl (fun _ => ?_) (fun q => absurd (by decide) q)
      refine z_iinc (n := 1) C D_X5_inNeed_51 rfl (by decide) (qok_s rfl rfl) ?_
      refine y_goto C D_X5_inNeed_54 ?_
      refine y_fg 3 ?_
      exact z
    · have hq := mo_lt hmo
      have hmq : me y s q < 2000 := hB _
      have hlq := less_le y (me y s q)
      have hb1 := hB 1
      refine y_istore_n C D_X5_inNeed_22 (by decide) (qok_s rfl rfl) ?_
      refine y_iload_n C D_X5_inNeed_23 rfl ?_
      refine y_if_lt C D_X5_inNeed_24 (n_lt0 (by omega)) (fun q => q.elim) (fun _ => ?_)
      refine y_aload_n C D_X5_inNeed_27 rfl ?_
      refine y_aload_n C D_X5_inNeed_28 rfl ?_
      refine y_iload_n C D_X5_inNeed_29 rfl ?_
      refine y_iload_n C D_X5_inNeed_30 rfl ?_
      refine z_callV C D_X5_inNeed_31 lk_X5_59 (c_X5_memoryOf ha (by omega) (by omega)) (yc_o ha) rfl rfl (Nat.le_of_ble_eq_true rfl) (Nat.le_of_ble_eq_true rfl) ⟨Nat.zero_le _, Nat.zero_le _⟩ ?_
      refine z_callV C D_X5_inNeed_34 lk_X5_108 (c_X5_faded ha (by omega) (by omega) (by omega)) (yc_o ha) rfl rfl (Nat.le_of_ble_eq_true rfl) (Nat.le_of_ble_eq_true rfl) ⟨Nat.zero_le _, Nat.zero_le _⟩ ?_
      refine y_aload_n C D_X5_inNeed_37 rfl ?_
      refine y_get C D_X5_inNeed_38 fl_X5_22 (yc_o ha) rfl ?_
      refine y_icmp_ge C D_X5_inNeed_41 (n_le (by omega) (by omega)) (fun c_41 => ?_) (fun c_41 => ?_)
      · refine z_iinc (n := 1) C D_X5_inNeed_51 rfl (by decide) (qok_s rfl rfl) ?_
        refine y_goto C D_X5_inNeed_54 ?_
        refine y_fg 3 ?_
        rw [if_neg (fun e => by obtain ⟨q2, hq2, hl2⟩ := hiff.mp e; rw [hmo] at hq2; cases hq2; omega)] at z
        exact z
      · refine y_iload_n C D_X5_inNeed_44 rfl ?_
        refine y_iload_n C D_X5_inNeed_45 rfl ?_
        refine z_callSN C D_X5_inNeed_46 lk_X5_78 (c_X6_bit (by omega)) rfl rfl (Nat.le_of_ble_eq_true rfl) (Nat.le_of_ble_eq_true rfl) ⟨Nat.zero_le _, Nat.zero_le _⟩ ?_
        refine z_ior C D_X5_inNeed_49 ?_
        refine y_istore_n C D_X5_inNeed_50 (by decide) (qok_s rfl rfl) ?_
        refine z_iinc (n := 1) C D_X5_inNeed_51 rfl (by decide) (qok_s rfl rfl) ?_
        refine y_goto C D_X5_inNeed_54 ?_
        refine y_fg 3 ?_
        rw [if_pos (hiff.mpr ⟨q, hmo, by omega⟩)] at z
        exact z
theorem c_X5_inNeed (ha : a + 2 < h.length) (hV : Va y) (h4 : y 4 < 2000) : Ct l G yX5_inNeed 2 [qr G a] (yc G h a y) (some (.int (nI (n5 y 5)))) (yc G h a y) := by
  refine ctm_intro (maxL := 4) kw_X5_inNeed (by decide) (by decide) [some (qr G a), none, none, none] rfl (Nat.le_of_ble_eq_true rfl) ?_
  intro X _ hcl hsl _ _ C E
  refine y_iconst C D_X5_inNeed_0 ki_0 ?_
  refine y_istore_n C D_X5_inNeed_1 (by decide) (qok_s rfl rfl) ?_
  refine y_iconst C D_X5_inNeed_2 ki_0 ?_
  refine y_istore_n C D_X5_inNeed_3 (by decide) (qok_s rfl rfl) ?_
  exact lp_X5_inNeed ha hV h4 C E 5 0 (by omega)
end
