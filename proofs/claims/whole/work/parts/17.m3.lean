section
variable {l : Launch} {G : qG} {U : List va_E} {i : Nat → Nat} {A : Nat → Nat → Nat} {B : Nat → Nat → Int32} {h : List va_E}
theorem lp_X7_allDreams {X : qX} {r : Option Value} (hU : U.length = 122) (h1 : 1 ≤ A 5 0) (h0 : A 5 0 ≤ 6) (h3 : A 5 3 ≤ 5) (hB : ∀ k, A 5 k < 2000) (h5 : A 5 5 < 64) (C : qC X G cX7_allDreams 3 RX7 3) (E : qE X G (some .int) 0 0 r (hm G U i A B)) (hr : r = some (.int (nI (ad (A 5))))) : ∀ (n p : Nat), p + n = A 5 3 → Y X G 3 0 0 4 [some (qr G 122), some (.int (nI (adn (A 5) p))), some (.int (nI p))] [] (hm G U i A B) := by
  intro n
  induction n with
  | zero =>
    intro p hp
    obtain rfl : p = A 5 3 := by omega
    refine y_iload_n C D_X7_allDreams_4 rfl ?_
    refine y_aload_n C D_X7_allDreams_5 rfl ?_
    refine y_get C D_X7_allDreams_6 fl_X7_19 (hm_o hU) rfl ?_
    refine y_iconst C D_X7_allDreams_9 ki_3 ?_
    refine z_ild C D_X7_allDreams_10 (hm_st hU) (by omega) (by decide) rfl ?_
    refine y_icmp_ge C D_X7_allDreams_11 (n_le (by omega) (by omega)) (fun c_11 => ?_) (fun c_11 => absurd (Nat.le_refl _) c_11)
    refine y_iload_n C D_X7_allDreams_28 rfl ?_
    exact y_iret C E D_X7_allDreams_29 (hr.symm) (rfl)
  | succ n ih =>
    intro p hp
    refine y_iload_n C D_X7_allDreams_4 rfl ?_
    refine y_aload_n C D_X7_allDreams_5 rfl ?_
    refine y_get C D_X7_allDreams_6 fl_X7_19 (hm_o hU) rfl ?_
    refine y_iconst C D_X7_allDreams_9 ki_3 ?_
    refine z_ild C D_X7_allDreams_10 (hm_st hU) (by omega) (by decide) rfl ?_
    refine y_icmp_ge C D_X7_allDreams_11 (n_le (by omega) (by omega)) (fun c_11 => absurd c_11 (by omega)) (fun c_11 => ?_)
    refine y_iload_n C D_X7_allDreams_14 rfl ?_
    refine y_aload_n C D_X7_allDreams_15 rfl ?_
    refine y_iload_n C D_X7_allDreams_16 rfl ?_
    refine z_callV C D_X7_allDreams_17 lk_X7_152 (c_X7_dreams hU (by omega) h1 h0 hB h5) (hm_o hU) rfl rfl (Nat.le_of_ble_eq_true rfl) (Nat.le_of_ble_eq_true rfl) ⟨Nat.zero_le _, Nat.zero_le _⟩ ?_
    refine z_ior C D_X7_allDreams_20 ?_
    refine y_istore_n C D_X7_allDreams_21 (by decide) (qok_s rfl rfl) ?_
    refine z_iinc (n := 1) C D_X7_allDreams_22 rfl (by decide) (qok_s rfl rfl) ?_
    refine y_goto C D_X7_allDreams_25 ?_
    exact ih (p + 1) (by omega)
theorem c_X7_allDreams (hU : U.length = 122) (h1 : 1 ≤ A 5 0) (h0 : A 5 0 ≤ 6) (h3 : A 5 3 ≤ 5) (hB : ∀ k, A 5 k < 2000) (h5 : A 5 5 < 64) : Ct l G yX7_allDreams 3 [qr G 122] (hm G U i A B) (some (.int (nI (ad (A 5))))) (hm G U i A B) := by
  refine ctm_intro (maxL := 3) kw_X7_allDreams (by decide) (by decide) [some (qr G 122), none, none] rfl (Nat.le_of_ble_eq_true rfl) ?_
  intro X _ hcl hsl _ _ C E
  refine y_iconst C D_X7_allDreams_0 ki_0 ?_
  refine y_istore_n C D_X7_allDreams_1 (by decide) (qok_s rfl rfl) ?_
  refine y_iconst C D_X7_allDreams_2 ki_0 ?_
  refine y_istore_n C D_X7_allDreams_3 (by decide) (qok_s rfl rfl) ?_
  exact lp_X7_allDreams hU h1 h0 h3 hB h5 C E rfl (A 5 3) 0 (by omega)
theorem lp_X7_oneYear_19 {X : qX} {y : Nat → Nat} {d lost : Nat} (hU : U.length = 122) (hV : Va y) (h4 : y 4 < 1999) (hd : d < 64) (hl : andn (y 5) d = lost) (C : qC X G cX7_oneYear 4 RX7 4) {g : Nat} (hg : g < y 0) (K : Y X G 4 0 0 67 [some (qr G 122), some (.int (nI (d))), some (.int (nI (g))), none] [] (hm G U i (va_up A 5 (dgL y lost (g + 1) 0)) B)) : ∀ (n p : Nat) (A' : Nat → Nat → Nat), p + n = y 3 → A' = va_up A 5 (dgL y lost g p) → Y X G 4 0 0 19 [some (qr G 122), some (.int (nI (d))), some (.int (nI (g))), some (.int (nI (p)))] [] (hm G U i A' B) := by
  intro n
  induction n with
  | zero =>
    intro p A' hp hA
    have hA5 : A' 5 = dgL y lost g p := by rw [hA]; exact up_eq _ _ _
    have e0 : A' 5 0 = y 0 := by rw [hA5]; exact dgL_lo (by decide)
    have e3 : A' 5 3 = y 3 := by rw [hA5]; exact dgL_lo (by decide)
    have e5 : A' 5 5 = y 5 := by rw [hA5]; exact dgL_lo (by decide)
    have v0 := hV.1
    have v3 := hV.2.2.2.1
    have v5 := hV.k64
    refine y_iload_n C D_X7_oneYear_19 rfl ?_
    refine y_aload_n C D_X7_oneYear_20 rfl ?_
    refine y_get C D_X7_oneYear_21 fl_X7_19 (hm_o hU) rfl ?_
    refine y_iconst C D_X7_oneYear_24 ki_3 ?_
    refine z_ild C D_X7_oneYear_25 (hm_st hU) (by omega) (by decide) rfl ?_
    refine y_icmp_ge C D_X7_oneYear_26 (n_le (by omega) (by omega)) (fun c_26 => ?_) (fun c_26 => absurd c_26 (by omega))
    refine y_fg 3 ?_
    rw [hA, dgL_row hV (Or.inl (by omega))]
    exact K
  | succ n ih =>
    intro p A' hp hA
    have hA5 : A' 5 = dgL y lost g p := by rw [hA]; exact up_eq _ _ _
    have e0 : A' 5 0 = y 0 := by rw [hA5]; exact dgL_lo (by decide)
    have e3 : A' 5 3 = y 3 := by rw [hA5]; exact dgL_lo (by decide)
    have e5 : A' 5 5 = y 5 := by rw [hA5]; exact dgL_lo (by decide)
    have v0 := hV.1
    have v3 := hV.2.2.2.1
    have v5 := hV.k64
    have hlt : lost < 64 := by rw [← hl]; exact andn_lt _ v5 _ hd
    refine y_iload_n C D_X7_oneYear_19 rfl ?_
    refine y_aload_n C D_X7_oneYear_20 rfl ?_
    refine y_get C D_X7_oneYear_21 fl_X7_19 (hm_o hU) rfl ?_
    refine y_iconst C D_X7_oneYear_24 ki_3 ?_
    refine z_ild C D_X7_oneYear_25 (hm_st hU) (by omega) (by decide) rfl ?_
    refine y_icmp_ge C D_X7_oneYear_26 (n_le (by omega) (by omega)) (fun c_26 => absurd c_26 (by omega)) (fun c_26 => ?_)
    refine y_aload_n C D_X7_oneYear_29 rfl ?_
    refine y_get C D_X7_oneYear_30 fl_X7_19 (hm_o hU) rfl ?_
    refine y_iconst C D_X7_oneYear_33 ki_5 ?_
    refine z_ild C D_X7_oneYear_34 (hm_st hU) (by omega) (by decide) rfl ?_
    refine y_iload_n C D_X7_oneYear_35 rfl ?_
    refine y_iconst C D_X7_oneYear_36 ki_m1 ?_
    refine y_ixor C D_X7_oneYear_37 ?_
    refine y_iand C D_X7_oneYear_38 ?_
    rw [e5]
    refine y_top ((andn_eq _ v5 _ hd).trans (congrArg nI hl)) ?_
    refine y_iload_n C D_X7_oneYear_39 rfl ?_
    refine z_callS C D_X7_oneYear_40 lk_X7_142 (c_X7_has (by omega) (by omega)) rfl rfl (Nat.le_of_ble_eq_true rfl) (Nat.le_of_ble_eq_true rfl) ⟨Nat.zero_le _, Nat.zero_le _⟩ ?_
    refine z_ifeqB C D_X7_oneYear_43 (fun c_43 => ?_) (fun c_43 => ?_)
    · refine y_fg 3 ?_
      rw [hA, dgL_row hV (Or.inr c_43)]
      exact K
    · refine y_aload_n C D_X7_oneYear_46 rfl ?_
      refine y_get C D_X7_oneYear_47 fl_X7_19 (hm_o hU) rfl ?_
      refine y_bipush C D_X7_oneYear_50 kb_21 ?_
      refine y_bipush C D_X7_oneYear_52 kb_6 ?_
      refine y_iload_n C D_X7_oneYear_54 rfl ?_
      refine z_imul C D_X7_oneYear_55 ?_
      refine z_iadd C D_X7_oneYear_56 ?_
      refine y_iload_n C D_X7_oneYear_57 rfl ?_
      refine z_iadd C D_X7_oneYear_58 ?_
      refine y_iconst C D_X7_oneYear_59 ki_0 ?_
      refine z_ist C D_X7_oneYear_60 (hm_st hU) (by omega) (by decide) (hm_wst hU _ _) ?_
      refine z_iinc (n := 1) C D_X7_oneYear_61 rfl (by decide) (qok_s rfl rfl) ?_
      refine y_goto C D_X7_oneYear_64 ?_
      exact ih (p + 1) _ (by omega) (by rw [hA5, hA, bx_uu, dgL_step (by omega) c_43])
theorem lp_X7_oneYear_7 {X : qX} {y : Nat → Nat} {d lost : Nat} (hU : U.length = 122) (hV : Va y) (h4 : y 4 < 1999) (hd : d < 64) (hl : andn (y 5) d = lost) (C : qC X G cX7_oneYear 4 RX7 4) (K : Y X G 4 0 0 73 [some (qr G 122), some (.int (nI (d))), none, none] [] (hm G U i (va_up A 5 (dg y lost)) B)) : ∀ (n g : Nat) (A' : Nat → Nat → Nat), g + n = y 0 → A' = va_up A 5 (dgL y lost g 0) → Y X G 4 0 0 7 [some (qr G 122), some (.int (nI (d))), some (.int (nI (g))), none] [] (hm G U i A' B) := by
  intro n
  induction n with
  | zero =>
    intro g A' hg hA
    have hA5 : A' 5 = dgL y lost g 0 := by rw [hA]; exact up_eq _ _ _
    have e0 : A' 5 0 = y 0 := by rw [hA5]; exact dgL_lo (by decide)
    have e3 : A' 5 3 = y 3 := by rw [hA5]; exact dgL_lo (by decide)
    have e5 : A' 5 5 = y 5 := by rw [hA5]; exact dgL_lo (by decide)
    have v0 := hV.1
    have v3 := hV.2.2.2.1
    have v5 := hV.k64
    refine y_iload_n C D_X7_oneYear_7 rfl ?_
    refine y_aload_n C D_X7_oneYear_8 rfl ?_
    refine y_get C D_X7_oneYear_9 fl_X7_19 (hm_o hU) rfl ?_
    refine y_iconst C D_X7_oneYear_12 ki_0 ?_
    refine z_ild C D_X7_oneYear_13 (hm_st hU) (by omega) (by decide) rfl ?_
    refine y_icmp_ge C D_X7_oneYear_14 (n_le (by omega) (by omega)) (fun c_14 => ?_) (fun c_14 => absurd c_14 (by omega))
    refine y_fg 2 ?_
    obtain rfl : g = y 0 := by omega
    rw [hA, dgL_end hV]
    exact K
  | succ n ih =>
    intro g A' hg hA
    have hA5 : A' 5 = dgL y lost g 0 := by rw [hA]; exact up_eq _ _ _
    have e0 : A' 5 0 = y 0 := by rw [hA5]; exact dgL_lo (by decide)
    have e3 : A' 5 3 = y 3 := by rw [hA5]; exact dgL_lo (by decide)
    have e5 : A' 5 5 = y 5 := by rw [hA5]; exact dgL_lo (by decide)
    have v0 := hV.1
    have v3 := hV.2.2.2.1
    have v5 := hV.k64
    have K2 : Y X G 4 0 0 67 [some (qr G 122), some (.int (nI (d))), some (.int (nI (g))), none] [] (hm G U i (va_up A 5 (dgL y lost (g + 1) 0)) B) := by
      refine z_iinc (n := 1) C D_X7_oneYear_67 rfl (by decide) (qok_s rfl rfl) ?_
      refine y_goto C D_X7_oneYear_70 ?_
      exact ih (g + 1) _ (by omega) rfl
    refine y_iload_n C D_X7_oneYear_7 rfl ?_
    refine y_aload_n C D_X7_oneYear_8 rfl ?_
    refine y_get C D_X7_oneYear_9 fl_X7_19 (hm_o hU) rfl ?_
    refine y_iconst C D_X7_oneYear_12 ki_0 ?_
    refine z_ild C D_X7_oneYear_13 (hm_st hU) (by omega) (by decide) rfl ?_
    refine y_icmp_ge C D_X7_oneYear_14 (n_le (by omega) (by omega)) (fun c_14 => absurd c_14 (by omega)) (fun c_14 => ?_)
    refine y_iconst C D_X7_oneYear_17 ki_0 ?_
    refine y_istore_n C D_X7_oneYear_18 (by decide) (qok_s rfl rfl) ?_
    exact lp_X7_oneYear_19 hU hV h4 hd hl C (by omega) K2 (y 3) 0 A' (by omega) hA
theorem lp_X7_oneYear_97 {X : qX} {z : Nat → Nat} {d : Nat} (hU : U.length = 122) (hV : Va z) (h4 : z 4 < 1999) (C : qC X G cX7_oneYear 4 RX7 4) {p : Nat} (hp : p < z 3) (K : ∀ g, (z 0 ≤ g ∨ z (11 + p) ≠ 0) → Y X G 4 0 0 149 [some (qr G 122), some (.int (nI (d))), some (.int (nI (p))), none] [] (hm G U i (va_up A 5 (fdL z p g)) B)) : ∀ (n g : Nat) (A' : Nat → Nat → Nat), g + n = z 0 → A' = va_up A 5 (fdL z p g) → Y X G 4 0 0 97 [some (qr G 122), some (.int (nI (d))), some (.int (nI (p))), some (.int (nI (g)))] [] (hm G U i A' B) := by
  intro n
  induction n with
  | zero =>
    intro g A' hg hA
    have hA5 : A' 5 = fdL z p g := by rw [hA]; exact up_eq _ _ _
    have e0 : A' 5 0 = z 0 := by rw [hA5]; exact fdL_lo (by decide)
    have e2 : A' 5 2 = z 2 := by rw [hA5]; exact fdL_lo (by decide)
    have e3 : A' 5 3 = z 3 := by rw [hA5]; exact fdL_lo (by decide)
    have v0 := hV.1
    have v2 := hV.2.2.1
    have v3 := hV.2.2.2.1

    refine y_iload_n C D_X7_oneYear_97 rfl ?_
    refine y_aload_n C D_X7_oneYear_98 rfl ?_
    refine y_get C D_X7_oneYear_99 fl_X7_19 (hm_o hU) rfl ?_
    refine y_iconst C D_X7_oneYear_102 ki_0 ?_
    refine z_ild C D_X7_oneYear_103 (hm_st hU) (by omega) (by decide) rfl ?_
    refine y_icmp_ge C D_X7_oneYear_104 (n_le (by omega) (by omega)) (fun c_104 => ?_) (fun c_104 => absurd c_104 (by omega))
    refine y_fg 3 ?_
    rw [hA]
    exact K g (Or.inl (by omega))
  | succ n ih =>
    intro g A' hg hA
    have hA5 : A' 5 = fdL z p g := by rw [hA]; exact up_eq _ _ _
    have e0 : A' 5 0 = z 0 := by rw [hA5]; exact fdL_lo (by decide)
    have e2 : A' 5 2 = z 2 := by rw [hA5]; exact fdL_lo (by decide)
    have e3 : A' 5 3 = z 3 := by rw [hA5]; exact fdL_lo (by decide)
    have v0 := hV.1
    have v2 := hV.2.2.1
    have v3 := hV.2.2.2.1
    have e11 : A' 5 (11 + p) = z (11 + p) := by rw [hA5]; exact fdL_sup (by omega)
    have em : me (A' 5) p g = me z p g := by rw [hA5]; exact fdL_mem (by omega)
    have hb11 := hV.lt (by omega) (11 + p)
    have hbm : me z p g < 2000 := hV.lt (by omega) _
    have hls : less (A' 5) (me (A' 5) p g) = less z (me z p g) := by rw [em]; unfold less; rw [e2]
    refine y_iload_n C D_X7_oneYear_97 rfl ?_
    refine y_aload_n C D_X7_oneYear_98 rfl ?_
    refine y_get C D_X7_oneYear_99 fl_X7_19 (hm_o hU) rfl ?_
    refine y_iconst C D_X7_oneYear_102 ki_0 ?_
    refine z_ild C D_X7_oneYear_103 (hm_st hU) (by omega) (by decide) rfl ?_
    refine y_icmp_ge C D_X7_oneYear_104 (n_le (by omega) (by omega)) (fun c_104 => absurd c_104 (by omega)) (fun c_104 => ?_)
    refine y_aload_n C D_X7_oneYear_107 rfl ?_
    refine y_get C D_X7_oneYear_108 fl_X7_19 (hm_o hU) rfl ?_
    refine y_bipush C D_X7_oneYear_111 kb_11 ?_
    refine y_iload_n C D_X7_oneYear_113 rfl ?_
    refine z_iadd C D_X7_oneYear_114 ?_
    refine z_ild C D_X7_oneYear_115 (hm_st hU) (by omega) (by decide) rfl ?_
    refine y_if_ne C D_X7_oneYear_116 (n_eq0 (by omega)) (fun c_116 => ?_) (fun c_116 => ?_)
    · refine y_fg 3 ?_
      rw [hA]
      exact K g (Or.inr (by omega))
    · refine y_aload_n C D_X7_oneYear_119 rfl ?_
      refine y_get C D_X7_oneYear_120 fl_X7_19 (hm_o hU) rfl ?_
      refine y_bipush C D_X7_oneYear_123 kb_21 ?_
      refine y_bipush C D_X7_oneYear_125 kb_6 ?_
      refine y_iload_n C D_X7_oneYear_127 rfl ?_
      refine z_imul C D_X7_oneYear_128 ?_
      refine z_iadd C D_X7_oneYear_129 ?_
      refine y_iload_n C D_X7_oneYear_130 rfl ?_
      refine z_iadd C D_X7_oneYear_131 ?_
      refine y_aload_n C D_X7_oneYear_132 rfl ?_
      refine y_aload_n C D_X7_oneYear_133 rfl ?_
      refine y_iload_n C D_X7_oneYear_134 rfl ?_
      refine y_iload_n C D_X7_oneYear_135 rfl ?_
      refine z_callV C D_X7_oneYear_136 lk_X7_146 (c_X7_memoryOf hU (by omega) (by omega)) (hm_o hU) rfl rfl (Nat.le_of_ble_eq_true rfl) (Nat.le_of_ble_eq_true rfl) ⟨Nat.zero_le _, Nat.zero_le _⟩ ?_
      refine z_callV C D_X7_oneYear_139 lk_X7_159 (c_X7_lessOf hU (by omega) (by omega) (by omega)) (hm_o hU) rfl rfl (Nat.le_of_ble_eq_true rfl) (Nat.le_of_ble_eq_true rfl) ⟨Nat.zero_le _, Nat.zero_le _⟩ ?_
      refine z_ist C D_X7_oneYear_142 (hm_st hU) (by omega) (by decide) (hm_wst hU _ _) ?_
      refine z_iinc (n := 1) C D_X7_oneYear_143 rfl (by decide) (qok_s rfl rfl) ?_
      refine y_goto C D_X7_oneYear_146 ?_
      exact ih (g + 1) _ (by omega) (by rw [hls, hA5, hA, bx_uu, fdL_step (by omega) (by omega)])
theorem lp_X7_oneYear_85 {X : qX} {z : Nat → Nat} {d : Nat} (hU : U.length = 122) (hV : Va z) (h4 : z 4 < 1999) (C : qC X G cX7_oneYear 4 RX7 4) (E : qE X G none 0 0 none (hm G U i (va_up A 5 (va_up (fd z) 4 (z 4 + 1))) B)) : ∀ (n p : Nat) (A' : Nat → Nat → Nat), p + n = z 3 → A' = va_up A 5 (fdL z p 0) → Y X G 4 0 0 85 [some (qr G 122), some (.int (nI (d))), some (.int (nI (p))), none] [] (hm G U i A' B) := by
  intro n
  induction n with
  | zero =>
    intro p A' hp hA
    have hA5 : A' 5 = fdL z p 0 := by rw [hA]; exact up_eq _ _ _
    have e0 : A' 5 0 = z 0 := by rw [hA5]; exact fdL_lo (by decide)
    have e2 : A' 5 2 = z 2 := by rw [hA5]; exact fdL_lo (by decide)
    have e3 : A' 5 3 = z 3 := by rw [hA5]; exact fdL_lo (by decide)
    have v0 := hV.1
    have v2 := hV.2.2.1
    have v3 := hV.2.2.2.1
    obtain rfl : p = z 3 := by omega
    have e4 : A' 5 4 = z 4 := by rw [hA5]; exact fdL_lo (by decide)
    refine y_iload_n C D_X7_oneYear_85 rfl ?_
    refine y_aload_n C D_X7_oneYear_86 rfl ?_
    refine y_get C D_X7_oneYear_87 fl_X7_19 (hm_o hU) rfl ?_
    refine y_iconst C D_X7_oneYear_90 ki_3 ?_
    refine z_ild C D_X7_oneYear_91 (hm_st hU) (by omega) (by decide) rfl ?_
    refine y_icmp_ge C D_X7_oneYear_92 (n_le (by omega) (by omega)) (fun c_92 => ?_) (fun c_92 => absurd c_92 (by omega))
    refine y_aload_n C D_X7_oneYear_175 rfl ?_
    refine y_get C D_X7_oneYear_176 fl_X7_19 (hm_o hU) rfl ?_
    refine y_iconst C D_X7_oneYear_179 ki_4 ?_
    refine y_dup2 C D_X7_oneYear_180 rfl rfl ?_
    refine z_ild C D_X7_oneYear_181 (hm_st hU) (by omega) (by decide) rfl ?_
    refine y_iconst C D_X7_oneYear_182 ki_1 ?_
    refine z_iadd C D_X7_oneYear_183 ?_
    refine z_ist C D_X7_oneYear_184 (hm_st hU) (by omega) (by decide) (hm_wst hU _ _) ?_
    exact y_vret C E D_X7_oneYear_185 (by rw [e4, hA5, hA, bx_uu, fdL_end hV])
  | succ n ih =>
    intro p A' hp hA
    have hA5 : A' 5 = fdL z p 0 := by rw [hA]; exact up_eq _ _ _
    have e0 : A' 5 0 = z 0 := by rw [hA5]; exact fdL_lo (by decide)
    have e2 : A' 5 2 = z 2 := by rw [hA5]; exact fdL_lo (by decide)
    have e3 : A' 5 3 = z 3 := by rw [hA5]; exact fdL_lo (by decide)
    have v0 := hV.1
    have v2 := hV.2.2.1
    have v3 := hV.2.2.2.1
    have K2 : ∀ g, (z 0 ≤ g ∨ z (11 + p) ≠ 0) → Y X G 4 0 0 149 [some (qr G 122), some (.int (nI (d))), some (.int (nI (p))), none] [] (hm G U i (va_up A 5 (fdL z p g)) B) := by
      intro g hg
      refine y_aload_n C D_X7_oneYear_149 rfl ?_
      refine y_get C D_X7_oneYear_150 fl_X7_19 (hm_o hU) rfl ?_
      refine y_bipush C D_X7_oneYear_153 kb_11 ?_
      refine y_iload_n C D_X7_oneYear_155 rfl ?_
      refine z_iadd C D_X7_oneYear_156 ?_
      refine y_iconst C D_X7_oneYear_157 ki_0 ?_
      refine z_ist C D_X7_oneYear_158 (hm_st hU) (by omega) (by decide) (hm_wst hU _ _) ?_
      refine y_aload_n C D_X7_oneYear_159 rfl ?_
      refine y_get C D_X7_oneYear_160 fl_X7_19 (hm_o hU) rfl ?_
      refine y_bipush C D_X7_oneYear_163 kb_16 ?_
      refine y_iload_n C D_X7_oneYear_165 rfl ?_
      refine z_iadd C D_X7_oneYear_166 ?_
      refine y_iconst C D_X7_oneYear_167 ki_0 ?_
      refine z_ist C D_X7_oneYear_168 (hm_st hU) (by omega) (by decide) (hm_wst hU _ _) ?_
      refine z_iinc (n := 1) C D_X7_oneYear_169 rfl (by decide) (qok_s rfl rfl) ?_
      refine y_goto C D_X7_oneYear_172 ?_
      exact ih (p + 1) _ (by omega) (by rw [bx_uu, up_eq, bx_uu, up_eq, fdL_row hV (by omega) hg])
    refine y_iload_n C D_X7_oneYear_85 rfl ?_
    refine y_aload_n C D_X7_oneYear_86 rfl ?_
    refine y_get C D_X7_oneYear_87 fl_X7_19 (hm_o hU) rfl ?_
    refine y_iconst C D_X7_oneYear_90 ki_3 ?_
    refine z_ild C D_X7_oneYear_91 (hm_st hU) (by omega) (by decide) rfl ?_
    refine y_icmp_ge C D_X7_oneYear_92 (n_le (by omega) (by omega)) (fun c_92 => absurd c_92 (by omega)) (fun c_92 => ?_)
    refine y_iconst C D_X7_oneYear_95 ki_0 ?_
    refine y_istore_n C D_X7_oneYear_96 (by decide) (qok_s rfl rfl) ?_
    exact lp_X7_oneYear_97 hU hV h4 C (by omega) K2 (z 0) 0 A' (by omega) hA
theorem c_X7_oneYear (hU : U.length = 122) (hV : Va (A 5)) (h4 : A 5 4 < 1999) : Ct l G yX7_oneYear 4 [qr G 122] (hm G U i A B) none (hm G U i (va_up A 5 (yr (A 5))) B) := by
  refine ctm_intro (maxL := 4) kw_X7_oneYear (by decide) (by decide) [some (qr G 122), none, none, none] rfl (Nat.le_of_ble_eq_true rfl) ?_
  intro X _ hcl hsl _ _ C E
  have v0 := hV.1
  have v3 := hV.2.2.2.1
  have v5 := hV.k64
  have hd := adn_lt v0.1 v0.2 (A 5 3)
  have hz4 : y1 (A 5) 4 = A 5 4 := y1_lo (by decide) (by decide)
  have E : qE X G none 0 0 none (hm G U i (va_up A 5 (va_up (fd (y1 (A 5))) 4 (y1 (A 5) 4 + 1))) B) := by rw [hz4]; exact E
  have K : Y X G 4 0 0 73 [some (qr G 122), some (.int (nI (ad (A 5)))), none, none] [] (hm G U i (va_up A 5 (dg (A 5) (lostY (A 5)))) B) := by
    have f5 : va_up A 5 (dg (A 5) (lostY (A 5))) 5 = dg (A 5) (lostY (A 5)) := up_eq _ _ _
    have g5 : dg (A 5) (lostY (A 5)) 5 = A 5 5 := dg_lo (by decide)
    refine y_aload_n C D_X7_oneYear_73 rfl ?_
    refine y_get C D_X7_oneYear_74 fl_X7_19 (hm_o hU) rfl ?_
    refine y_iconst C D_X7_oneYear_77 ki_5 ?_
    refine y_dup2 C D_X7_oneYear_78 rfl rfl ?_
    refine z_ild C D_X7_oneYear_79 (hm_st hU) (by omega) (by decide) rfl ?_
    refine y_iload_n C D_X7_oneYear_80 rfl ?_
    refine z_iand C D_X7_oneYear_81 ?_
    refine z_ist C D_X7_oneYear_82 (hm_st hU) (by omega) (by decide) (hm_wst hU _ _) ?_
    refine y_iconst C D_X7_oneYear_83 ki_0 ?_
    refine y_istore_n C D_X7_oneYear_84 (by decide) (qok_s rfl rfl) ?_
    exact lp_X7_oneYear_85 hU hV.y1 (by omega) C E (y1 (A 5) 3) 0 _ (by omega) (by rw [f5, g5, bx_uu, fdL_0]; rfl)
  refine y_aload_n C D_X7_oneYear_0 rfl ?_
  refine z_callV C D_X7_oneYear_1 lk_X7_155 (c_X7_allDreams hU (by omega) (by omega) (by omega) (fun k => hV.lt (by omega) k) hV.k64) (hm_o hU) rfl rfl (Nat.le_of_ble_eq_true rfl) (Nat.le_of_ble_eq_true rfl) ⟨Nat.zero_le _, Nat.zero_le _⟩ ?_
  refine y_istore_n C D_X7_oneYear_4 (by decide) (qok_s rfl rfl) ?_
  refine y_iconst C D_X7_oneYear_5 ki_0 ?_
  refine y_istore_n C D_X7_oneYear_6 (by decide) (qok_s rfl rfl) ?_
  exact lp_X7_oneYear_7 hU hV h4 hd rfl C K (A 5 0) 0 A (by omega) (by rw [dgL_0]; exact (up_id A 5).symm)
end
