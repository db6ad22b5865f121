def dN (y : Nat → Nat) : Nat → Nat
  | 0 => 0
  | p + 1 => dN y p ||| (if p < y 3 then dr y p else 0)
theorem dN_ad {y : Nat → Nat} : ∀ n, dN y n = adn y (if n ≤ y 3 then n else y 3)
  | 0 => by
    rw [if_pos (Nat.zero_le _)]
    rfl
  | n + 1 => by
    have ih := dN_ad (y := y) n
    unfold dN
    rw [ih]
    by_cases c : n + 1 ≤ y 3
    · rw [if_pos (by omega), if_pos (by omega), if_pos c]
      rfl
    · rw [if_neg c, if_neg (show ¬ n < y 3 by omega), Nat.or_zero]
      by_cases d : n ≤ y 3
      · rw [if_pos d, show n = y 3 by omega]
      · rw [if_neg d]
theorem dN_5 {y : Nat → Nat} (h : y 3 ≤ 5) : dN y 5 = ad y := by
  rw [dN_ad]
  split
  · show adn y 5 = adn y (y 3)
    rw [show y 3 = 5 by omega]
  · rfl
theorem dN_lt {y : Nat → Nat} (h : Va y) (n : Nat) : dN y n < 64 := by
  rw [dN_ad]
  exact adn_lt h.1.1 h.1.2 _
/-- one grave forgotten by the first s -/
def fgL (y : Nat → Nat) (g s : Nat) : Nat → Nat := fun k => if 21 ≤ k ∧ (k - 21) % 6 = g ∧ (k - 21) / 6 < s then 0 else y k
theorem fgL_0 {y : Nat → Nat} {g : Nat} : fgL y g 0 = y := by
  funext k
  exact if_neg (fun z => by omega)
theorem fgL_step {y : Nat → Nat} {g s : Nat} (hg : g < 6) : va_up (fgL y g s) (21 + 6 * s + g) 0 = fgL y g (s + 1) := by
  funext k
  unfold va_up fgL
  by_cases c : k = 21 + 6 * s + g
  · rw [if_pos c, if_pos (by omega)]
  · rw [if_neg c]
    by_cases d : 21 ≤ k ∧ (k - 21) % 6 = g ∧ (k - 21) / 6 < s
    · rw [if_pos d, if_pos (by omega)]
    · rw [if_neg d, if_neg (fun z => by omega)]
theorem fgL_dgL {y : Nat → Nat} {lost g k : Nat} (hl : hs lost g) (hk : k < 51) : fgL (dgL y lost g 0) g 5 k = dgL y lost (g + 1) 0 k := by
  unfold fgL dgL
  by_cases c : 21 ≤ k ∧ (k - 21) % 6 = g
  · rw [if_pos (by omega), if_pos ⟨c.1, c.2.symm ▸ hl, Or.inl (by omega)⟩]
  · rw [if_neg (fun z => c ⟨z.1, z.2.1⟩)]
    by_cases d : 21 ≤ k ∧ hs lost ((k - 21) % 6) ∧ (k - 21) % 6 < g
    · rw [if_pos ⟨d.1, d.2.1, Or.inl d.2.2⟩, if_pos ⟨d.1, d.2.1, Or.inl (by omega)⟩]
    · rw [if_neg (fun z => d ⟨z.1, z.2.1, by omega⟩), if_neg (fun z => d ⟨z.1, z.2.1, by omega⟩)]
theorem dgL_skip {y : Nat → Nat} {lost g k : Nat} (hl : ¬ hs lost g) : dgL y lost g 0 k = dgL y lost (g + 1) 0 k := by
  unfold dgL
  by_cases d : 21 ≤ k ∧ hs lost ((k - 21) % 6) ∧ (k - 21) % 6 < g
  · rw [if_pos ⟨d.1, d.2.1, Or.inl d.2.2⟩, if_pos ⟨d.1, d.2.1, Or.inl (by omega)⟩]
  · rw [if_neg (fun z => d ⟨z.1, z.2.1, by omega⟩), if_neg (fun z => d ⟨z.1, z.2.1, by
      by_cases e : (k - 21) % 6 = g
      · exact absurd (e ▸ z.2.1) hl
      · omega⟩)]
theorem dgL_y1 {y : Nat → Nat} {k : Nat} : dgL (va_up y 5 (y 5 &&& ad y)) (lostY y) 6 0 k = y1 y k := by
  unfold y1
  by_cases c : k = 5
  · subst c
    rw [dgL_lo (by decide), up_eq, up_eq]
  · rw [up_ne _ _ c]
    unfold dgL dg
    rw [up_ne _ _ c]
    by_cases d : 21 ≤ k ∧ hs (lostY y) ((k - 21) % 6)
    · rw [if_pos d, if_pos ⟨d.1, d.2, Or.inl (by omega)⟩]
    · rw [if_neg d, if_neg (fun z => d ⟨z.1, z.2.1⟩)]
section
variable {l : Launch} {G : qG} {h : List va_E} {a : Nat} {y : Nat → Nat}
theorem c_X5_dreamsOf (ha : a + 2 < h.length) {p : Nat} (hp : p < 5) (hV : Va y) (h4 : y 4 < 2000) : Ct l G yX5_dreamsOf 2 [qr G a, .int (nI p)] (yc G h a y) (some (.int (nI (if p < y 3 then dr y p else 0)))) (yc G h a y) := by
  have hk := hV.2.2.2.2.2.1 p hp
  by_cases c : p < y 3
  · rw [if_pos c]
    have hk := hk.1 c
    rcases (by omega : y (6 + p) = 1 ∨ y (6 + p) = 2 ∨ y (6 + p) = 3 ∨ y (6 + p) = 4 ∨ y (6 + p) = 5) with e | e | e | e | e
    · exact c_X5_dreamsOf1 ha hp hV h4 e
    · exact c_X5_dreamsOf2 ha hp hV h4 e
    · exact c_X5_dreamsOf3 ha hp hV h4 e
    · exact c_X5_dreamsOf4 ha hp hV h4 e
    · exact c_X5_dreamsOf5 ha hp hV h4 e
  · rw [if_neg c]
    exact c_X5_dreamsOf0 ha hp hV h4 (hk.2 (by omega))
theorem lp_X5_forgetByAll {X : qX} {g : Nat} (ha : a + 2 < h.length) (hg : g < 6) (C : qC X G cX5_forgetByAll 3 RX5 2) (E : qE X G none 0 0 none (yc G h a (fgL y g 5))) : ∀ (m s : Nat), s + m = 5 → Y X G 3 0 0 2 [some (qr G a), some (.int (nI (g))), some (.int (nI (s)))] [] (yc G h a (fgL y g s)) := by
  intro m
  induction m with
  | zero =>
    intro s hs'
    obtain rfl : s = 5 := by omega
    refine y_iload_n C D_X5_forgetByAll_2 rfl ?_
    refine y_iconst C D_X5_forgetByAll_3 ki_5 ?_
    refine y_icmp_ge C D_X5_forgetByAll_4 (n_le (by omega) (by omega)) (fun c_4 => ?_) (fun c_4 => absurd (Nat.le_refl _) c_4)
    exact y_vret C E D_X5_forgetByAll_20 (rfl)
  | succ m ih =>
    intro s hs' 
    refine y_iload_n C D_X5_forgetByAll_2 rfl ?_
    refine y_iconst C D_X5_forgetByAll_3 ki_5 ?_
    refine y_icmp_ge C D_X5_forgetByAll_4 (n_le (by omega) (by omega)) (fun c_4 => absurd c_4 (by omega)) (fun c_4 => ?_)
    refine y_aload_n C D_X5_forgetByAll_7 rfl ?_
    refine y_iload_n C D_X5_forgetByAll_8 rfl ?_
    refine y_iload_n C D_X5_forgetByAll_9 rfl ?_
    refine y_iconst C D_X5_forgetByAll_10 ki_0 ?_
    refine z_callVv C D_X5_forgetByAll_11 lk_X5_101 (c_X5_remember ha (by omega) (by omega)) (yc_o ha) rfl rfl (Nat.le_of_ble_eq_true rfl) (Nat.le_of_ble_eq_true rfl) ⟨Nat.zero_le _, Nat.zero_le _⟩ ?_
    refine z_iinc (n := 1) C D_X5_forgetByAll_14 rfl (by decide) (qok_s rfl rfl) ?_
    refine y_goto C D_X5_forgetByAll_17 ?_
    rw [fgL_step hg]
    exact ih (s + 1) (by omega)
theorem c_X5_forgetByAll (ha : a + 2 < h.length) {g : Nat} (hg : g < 6) : Ct l G yX5_forgetByAll 2 [qr G a, .int (nI g)] (yc G h a y) (none) (yc G h a (fgL y g 5)) := by
  refine ctm_intro (maxL := 3) kw_X5_forgetByAll (by decide) (by decide) [some (qr G a), some (.int (nI g)), none] rfl (Nat.le_of_ble_eq_true rfl) ?_
  intro X _ hcl hsl _ _ C E
  refine y_iconst C D_X5_forgetByAll_0 ki_0 ?_
  refine y_istore_n C D_X5_forgetByAll_1 (by decide) (qok_s rfl rfl) ?_
  have z := lp_X5_forgetByAll ha hg C E 5 0 (by omega)
  rw [fgL_0] at z
  exact z
theorem lp_X5_dig {X : qX} {lost d : Nat} (ha : a + 2 < h.length) (hl : lost < 64) (C : qC X G cX5_digUndreamt 4 RX5 3) (E : qE X G none 0 0 none (yc G h a (dgL y lost 6 0))) : ∀ (m g : Nat), g + m = 6 → Y X G 4 0 0 44 [some (qr G a), some (.int (nI (d))), some (.int (nI (lost))), some (.int (nI (g)))] [] (yc G h a (dgL y lost g 0)) := by
  intro m
  induction m with
  | zero =>
    intro g hg
    obtain rfl : g = 6 := by omega
    refine y_iload_n C D_X5_digUndreamt_44 rfl ?_
    refine y_bipush C D_X5_digUndreamt_45 kb_6 ?_
    refine y_icmp_ge C D_X5_digUndreamt_47 (n_le (by omega) (by omega)) (fun c_47 => ?_) (fun c_47 => absurd (Nat.le_refl _) c_47)
    exact y_vret C E D_X5_digUndreamt_69 (rfl)
  | succ m ih =>
    intro g hg
    refine y_iload_n C D_X5_digUndreamt_44 rfl ?_
    refine y_bipush C D_X5_digUndreamt_45 kb_6 ?_
    refine y_icmp_ge C D_X5_digUndreamt_47 (n_le (by omega) (by omega)) (fun c_47 => absurd c_47 (by omega)) (fun c_47 => ?_)
    refine y_iload_n C D_X5_digUndreamt_50 rfl ?_
    refine y_iload_n C D_X5_digUndreamt_51 rfl ?_
    refine z_callSN C D_X5_digUndreamt_52 lk_X5_68 (c_X6_hasBit (by omega) (by omega)) rfl rfl (Nat.le_of_ble_eq_true rfl) (Nat.le_of_ble_eq_true rfl) ⟨Nat.zero_le _, Nat.zero_le _⟩ ?_
    refine z_ifeqB C D_X5_digUndreamt_55 (fun c_55 => ?_) (fun c_55 => ?_)
    · refine z_iinc (n := 1) C D_X5_digUndreamt_63 rfl (by decide) (qok_s rfl rfl) ?_
      refine y_goto C D_X5_digUndreamt_66 ?_
      rw [yc_c (fun k _ => dgL_skip (k := k) c_55)]
      exact ih (g + 1) (by omega)
    · refine y_aload_n C D_X5_digUndreamt_58 rfl ?_
      refine y_iload_n C D_X5_digUndreamt_59 rfl ?_
      refine z_callVv C D_X5_digUndreamt_60 lk_X5_97 (c_X5_forgetByAll ha (by omega)) (yc_o ha) rfl rfl (Nat.le_of_ble_eq_true rfl) (Nat.le_of_ble_eq_true rfl) ⟨Nat.zero_le _, Nat.zero_le _⟩ ?_
      refine z_iinc (n := 1) C D_X5_digUndreamt_63 rfl (by decide) (qok_s rfl rfl) ?_
      refine y_goto C D_X5_digUndreamt_66 ?_
      rw [yc_c (fun k hk => fgL_dgL c_55 hk)]
      exact ih (g + 1) (by omega)
theorem lp_X5_dream {X : qX} (ha : a + 2 < h.length) (hV : Va y) (h4 : y 4 < 2000) (C : qC X G cX5_digUndreamt 4 RX5 3) (K : Y X G 4 0 0 23 [some (qr G a), some (.int (nI (dN y 5))), none, none] [] (yc G h a y)) : ∀ (m s : Nat), s + m = 5 → Y X G 4 0 0 4 [some (qr G a), some (.int (nI (dN y s))), some (.int (nI (s))), none] [] (yc G h a y) := by
  intro m
  induction m with
  | zero =>
    intro s hs'
    obtain rfl : s = 5 := by omega
    refine y_iload_n C D_X5_digUndreamt_4 rfl ?_
    refine y_iconst C D_X5_digUndreamt_5 ki_5 ?_
    refine y_icmp_ge C D_X5_digUndreamt_6 (n_le (by omega) (by omega)) (fun c_6 => ?_) (fun c_6 => absurd (Nat.le_refl _) c_6)
    refine y_fg 2 ?_
    exact K
  | succ m ih =>
    intro s hs' 
    refine y_iload_n C D_X5_digUndreamt_4 rfl ?_
    refine y_iconst C D_X5_digUndreamt_5 ki_5 ?_
    refine y_icmp_ge C D_X5_digUndreamt_6 (n_le (by omega) (by omega)) (fun c_6 => absurd c_6 (by omega)) (fun c_6 => ?_)
    refine y_iload_n C D_X5_digUndreamt_9 rfl ?_
    refine y_aload_n C D_X5_digUndreamt_10 rfl ?_
    refine y_iload_n C D_X5_digUndreamt_11 rfl ?_
    refine z_callV C D_X5_digUndreamt_12 lk_X5_88 (c_X5_dreamsOf ha (by omega) hV h4) (yc_o ha) rfl rfl (Nat.le_of_ble_eq_true rfl) (Nat.le_of_ble_eq_true rfl) ⟨Nat.zero_le _, Nat.zero_le _⟩ ?_
    refine z_ior C D_X5_digUndreamt_15 ?_
    refine y_istore_n C D_X5_digUndreamt_16 (by decide) (qok_s rfl rfl) ?_
    refine z_iinc (n := 1) C D_X5_digUndreamt_17 rfl (by decide) (qok_s rfl rfl) ?_
    refine y_goto C D_X5_digUndreamt_20 ?_
    exact ih (s + 1) (by omega)
theorem c_X5_digUndreamt (ha : a + 2 < h.length) (hV : Va y) (h4 : y 4 < 2000) : Ct l G yX5_digUndreamt 3 [qr G a] (yc G h a y) (none) (yc G h a (y1 y)) := by
  refine ctm_intro (maxL := 4) kw_X5_digUndreamt (by decide) (by decide) [some (qr G a), none, none, none] rfl (Nat.le_of_ble_eq_true rfl) ?_
  intro X _ hcl hsl _ _ C E
  refine y_iconst C D_X5_digUndreamt_0 ki_0 ?_
  refine y_istore_n C D_X5_digUndreamt_1 (by decide) (qok_s rfl rfl) ?_
  refine y_iconst C D_X5_digUndreamt_2 ki_0 ?_
  refine y_istore_n C D_X5_digUndreamt_3 (by decide) (qok_s rfl rfl) ?_
  refine lp_X5_dream ha hV h4 C ?_ 5 0 (by omega)
  rw [dN_5 hV.2.2.2.1.2]
  have hk := hV.k64
  have had : ad y < 64 := adn_lt hV.1.1 hV.1.2 _
  have hlo := andn_lt _ hk _ had
  rw [← yc_c (fun k _ => dgL_y1 (y := y) (k := k))] at E
  refine y_aload_n C D_X5_digUndreamt_23 rfl ?_
  refine y_get C D_X5_digUndreamt_24 fl_X5_34 (yc_o ha) rfl ?_
  refine y_iload_n C D_X5_digUndreamt_27 rfl ?_
  refine y_iconst C D_X5_digUndreamt_28 ki_m1 ?_
  refine y_ixor C D_X5_digUndreamt_29 ?_
  refine y_iand C D_X5_digUndreamt_30 ?_
  refine y_top (andn_eq _ hk _ had) ?_
  refine y_istore_n C D_X5_digUndreamt_31 (by decide) (qok_s rfl rfl) ?_
  refine y_aload_n C D_X5_digUndreamt_32 rfl ?_
  refine y_dup C D_X5_digUndreamt_33 rfl ?_
  refine y_get C D_X5_digUndreamt_34 fl_X5_34 (yc_o ha) rfl ?_
  refine y_iload_n C D_X5_digUndreamt_37 rfl ?_
  refine z_iand C D_X5_digUndreamt_38 ?_
  refine y_put C D_X5_digUndreamt_39 fl_X5_34 (yc_o ha) (Nat.le_of_ble_eq_true rfl) rfl rfl (yc_pkept _) ?_
  refine y_iconst C D_X5_digUndreamt_42 ki_0 ?_
  refine y_istore_n C D_X5_digUndreamt_43 (by decide) (qok_s rfl rfl) ?_
  have z := lp_X5_dig (y := va_up y 5 (y 5 &&& ad y)) (d := ad y) ha (show lostY y < 64 from hlo) C E 6 0 (by omega)
  rw [dgL_0] at z
  exact z
end
