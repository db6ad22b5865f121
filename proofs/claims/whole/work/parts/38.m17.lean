abbrev hmp (G : qG) (U : List va_E) (i : Nat → Nat) (A : Nat → Nat → Nat) (B : Nat → Nat → Int32) (s : Nat) (rd : Nat → Nat) (w : Nat) : List va_E := hm G U (tokS (va_up i 14 w) (A 7) (i 8) s) (va_up A 15 rd) B
abbrev hmq (G : qG) (U : List va_E) (i : Nat → Nat) (A : Nat → Nat → Nat) (B : Nat → Nat → Int32) (q : PS) : List va_E := hmp G U i A B q.2.1 q.2.2.1 q.2.2.2
section
variable {l : Launch} {G : qG} {U : List va_E} {i : Nat → Nat} {A : Nat → Nat → Nat} {B : Nat → Nat → Int32} {h : List va_E}
theorem c_X7_ntp (hU : U.length = 122) (h8 : i 8 ≤ 120) (ht : ∀ k, A 7 k < 256) {s w : Nat} {rd : Nat → Nat} (hs1 : s ≤ i 8) : Ct l G yX7_nextToken 1 [qr G 122] (hmp G U i A B (s) (rd) (w)) none (hmp G U i A B (tkN (A 7) (i 8) s) (rd) (w)) := by
  have e8 : tokS (va_up i 14 w) (A 7) (i 8) s 8 = i 8 := by rw [tokS_o (by omega), up_ne _ _ (by decide)]
  have e10 : tokS (va_up i 14 w) (A 7) (i 8) s 10 = tkN (A 7) (i 8) s := tokS_10 _ _ _ _
  have e7 : va_up A 15 rd 7 = A 7 := up_ne _ _ (by decide)
  have z := c_X7_nextToken (l := l) (G := G) (U := U) (i := tokS (va_up i 14 w) (A 7) (i 8) s) (A := va_up A 15 rd) (B := B) hU (by rw [e8, e10]; exact tkN_le hs1) (by rw [e8]; exact h8) (by rw [e7]; exact ht)
  rw [e8, e10, e7, tokS_tokS] at z
  exact z
theorem c_X7_faults (hU : U.length = 122) {s w : Nat} {rd : Nat → Nat} {f : Nat} : Ct l G yX7_faults 0 [qr G 122, .int (nI f)] (hmp G U i A B (s) (rd) (w)) (some (.int (nI 0))) (hmp G U i A B (s) (rd) (f)) := by
  refine ctm_intro (maxL := 2) kw_X7_faults (by decide) (by decide) [some (qr G 122), some (.int (nI f))] rfl (Nat.le_of_ble_eq_true rfl) ?_
  intro X _ hcl hsl _ _ C E
  refine y_aload_n C D_X7_faults_0 rfl ?_
  refine y_iload_n C D_X7_faults_1 rfl ?_
  refine y_put C D_X7_faults_2 fl_X7_105 (hm_o hU) (Nat.le_of_ble_eq_true rfl) rfl rfl (hm_pwrong hU _) ?_
  refine y_iconst C D_X7_faults_5 ki_0 ?_
  exact y_zret C E D_X7_faults_6 nar_0 (rfl) (by rw [tokS_14, bx_uu])
theorem c_X7_isLetter (hU : U.length = 122) (h8 : i 8 ≤ 120) (ht : ∀ k, A 7 k < 256) {s w : Nat} {rd : Nat → Nat} {c : Nat} (hc : c < 256) : Ct l G yX7_isLetter 0 [qr G 122, .int (nI c)] (hmp G U i A B (s) (rd) (w)) (some (.int (bI (tks (A 7) (i 8) s c)))) (hmp G U i A B (s) (rd) (w)) := by
  refine ctm_intro (maxL := 2) kw_X7_isLetter (by decide) (by decide) [some (qr G 122), some (.int (nI c))] rfl (Nat.le_of_ble_eq_true rfl) ?_
  intro X _ hcl hsl _ _ C E
  have t11 : tokS (va_up i 14 w) (A 7) (i 8) s 11 = tkK (A 7) (i 8) s := tokS_11 _ _ _ _
  have t12 : tokS (va_up i 14 w) (A 7) (i 8) s 12 = tkV (A 7) (i 8) s := tokS_12 _ _ _ _
  have hkk := tkK_lt (A 7) (i 8) s
  have hvv := tkV_le (n := i 8) (s := s) ht
  refine y_aload_n C D_X7_isLetter_0 rfl ?_
  refine y_get C D_X7_isLetter_1 fl_X7_91 (hm_o hU) rfl ?_
  rw [t11]
  refine y_iconst C D_X7_isLetter_4 ki_1 ?_
  refine y_icmp_ne C D_X7_isLetter_5 (n_eq (by omega) (by omega)) (fun c_5 => ?_) (fun c_5 => ?_)
  · refine y_iconst C D_X7_isLetter_20 ki_0 ?_
    exact y_zret C E D_X7_isLetter_21 nar_0 (rt_0 (fun z => c_5 z.1)) (rfl)
  · refine y_aload_n C D_X7_isLetter_8 rfl ?_
    refine y_get C D_X7_isLetter_9 fl_X7_94 (hm_o hU) rfl ?_
    rw [t12]
    refine y_iload_n C D_X7_isLetter_12 rfl ?_
    refine y_icmp_ne C D_X7_isLetter_13 (n_eq (by omega) (by omega)) (fun c_13 => ?_) (fun c_13 => ?_)
    · refine y_iconst C D_X7_isLetter_20 ki_0 ?_
      exact y_zret C E D_X7_isLetter_21 nar_0 (rt_0 (fun z => c_13 z.2)) (rfl)
    · refine y_iconst C D_X7_isLetter_16 ki_1 ?_
      refine y_goto C D_X7_isLetter_17 ?_
      exact y_zret C E D_X7_isLetter_21 nar_1 (rt_1 (⟨c_5, c_13⟩)) (rfl)
theorem c_X7_takes (hU : U.length = 122) (h8 : i 8 ≤ 120) (ht : ∀ k, A 7 k < 256) {s w : Nat} {rd : Nat → Nat} {c : Nat} (hs1 : s ≤ i 8) (hc : c < 256) : Ct l G yX7_takes 2 [qr G 122, .int (nI c)] (hmp G U i A B (s) (rd) (w)) (some (.int (bI (tks (A 7) (i 8) s c)))) (hmp G U i A B (tS (A 7) (i 8) s c) (rd) (tW (A 7) (i 8) s c w)) := by
  refine ctm_intro (maxL := 2) kw_X7_takes (by decide) (by decide) [some (qr G 122), some (.int (nI c))] rfl (Nat.le_of_ble_eq_true rfl) ?_
  intro X _ hcl hsl _ _ C E
  refine y_aload_n C D_X7_takes_0 rfl ?_
  refine y_iload_n C D_X7_takes_1 rfl ?_
  refine z_callV C D_X7_takes_2 lk_X7_108 (c_X7_isLetter hU h8 ht (by omega)) (hm_o hU) rfl rfl (Nat.le_of_ble_eq_true rfl) (Nat.le_of_ble_eq_true rfl) ⟨Nat.zero_le _, Nat.zero_le _⟩ ?_
  refine z_ifneB C D_X7_takes_5 (fun c_5 => ?_) (fun c_5 => ?_)
  · refine y_aload_n C D_X7_takes_14 rfl ?_
    refine z_callVv C D_X7_takes_15 lk_X7_114 (c_X7_ntp hU h8 ht (by omega)) (hm_o hU) rfl rfl (Nat.le_of_ble_eq_true rfl) (Nat.le_of_ble_eq_true rfl) ⟨Nat.zero_le _, Nat.zero_le _⟩ ?_
    refine y_iconst C D_X7_takes_18 ki_1 ?_
    exact y_zret C E D_X7_takes_19 nar_1 (rt_1 (c_5)) (by rw [tS, tW, if_pos c_5, if_pos c_5])
  · refine y_aload_n C D_X7_takes_8 rfl ?_
    refine y_iconst C D_X7_takes_9 ki_1 ?_
    refine z_callV C D_X7_takes_10 lk_X7_111 (c_X7_faults hU) (hm_o hU) rfl rfl (Nat.le_of_ble_eq_true rfl) (Nat.le_of_ble_eq_true rfl) ⟨Nat.zero_le _, Nat.zero_le _⟩ ?_
    exact y_zret C E D_X7_takes_13 nar_0 (rt_0 (c_5)) (by rw [tS, tW, if_neg c_5, if_neg c_5])
theorem c_X7_takesNumber (hU : U.length = 122) (h8 : i 8 ≤ 120) (ht : ∀ k, A 7 k < 256) {s w : Nat} {rd : Nat → Nat} {lo hi at_ sg : Nat} (hs1 : s ≤ i 8) (hlo : lo < 100) (hhi : hi < 100) (hat : at_ < 51) (hsg : sg < 256) : Ct l G yX7_takesNumber 3 [qr G 122, .int (nI lo), .int (nI hi), .int (nI at_), .int (nI sg)] (hmp G U i A B (s) (rd) (w)) (some (.int (bI (nP (A 7) (i 8) s lo hi ∧ tks (A 7) (i 8) (tkN (A 7) (i 8) s) sg)))) (hmp G U i A B (nS (A 7) (i 8) s lo hi sg) (nR (A 7) (i 8) s lo hi at_ rd) (nW (A 7) (i 8) s lo hi sg w)) := by
  refine ctm_intro (maxL := 5) kw_X7_takesNumber (by decide) (by decide) [some (qr G 122), some (.int (nI lo)), some (.int (nI hi)), some (.int (nI at_)), some (.int (nI sg))] rfl (Nat.le_of_ble_eq_true rfl) ?_
  intro X _ hcl hsl _ _ C E
  have t11 : tokS (va_up i 14 w) (A 7) (i 8) s 11 = tkK (A 7) (i 8) s := tokS_11 _ _ _ _
  have t12 : tokS (va_up i 14 w) (A 7) (i 8) s 12 = tkV (A 7) (i 8) s := tokS_12 _ _ _ _
  have hkk := tkK_lt (A 7) (i 8) s
  have hvv := tkV_le (n := i 8) (s := s) ht
  refine y_aload_n C D_X7_takesNumber_0 rfl ?_
  refine y_get C D_X7_takesNumber_1 fl_X7_91 (hm_o hU) rfl ?_
  rw [t11]
  refine y_iconst C D_X7_takesNumber_4 ki_2 ?_
  refine y_icmp_ne C D_X7_takesNumber_5 (n_eq (by omega) (by omega)) (fun c_5 => ?_) (fun c_5 => ?_)
  · refine y_aload_n C D_X7_takesNumber_23 rfl ?_
    refine y_aload_n C D_X7_takesNumber_24 rfl ?_
    refine y_get C D_X7_takesNumber_25 fl_X7_91 (hm_o hU) rfl ?_
    rw [t11]
    refine y_iconst C D_X7_takesNumber_28 ki_2 ?_
    refine y_icmp_ne C D_X7_takesNumber_29 (n_eq (by omega) (by omega)) (fun c_29 => ?_) (fun c_29 => ?_)
    · refine y_iconst C D_X7_takesNumber_36 ki_1 ?_
      refine z_callV C D_X7_takesNumber_37 lk_X7_111 (c_X7_faults hU) (hm_o hU) rfl rfl (Nat.le_of_ble_eq_true rfl) (Nat.le_of_ble_eq_true rfl) ⟨Nat.zero_le _, Nat.zero_le _⟩ ?_
      exact y_zret C E D_X7_takesNumber_40 nar_0 (rt_0 (fun z => c_5 z.1.1)) (by rw [nS, nR, nW, if_neg (fun z => c_5 z.1), if_neg (fun z => c_5 z.1), if_neg (fun z => c_5 z.1), if_neg c_5])
    · refine y_iconst C D_X7_takesNumber_32 ki_2 ?_
      refine y_goto C D_X7_takesNumber_33 ?_
      refine z_callV C D_X7_takesNumber_37 lk_X7_111 (c_X7_faults hU) (hm_o hU) rfl rfl (Nat.le_of_ble_eq_true rfl) (Nat.le_of_ble_eq_true rfl) ⟨Nat.zero_le _, Nat.zero_le _⟩ ?_
      exact y_zret C E D_X7_takesNumber_40 nar_0 (rt_0 (absurd c_29 c_5)) (absurd c_29 c_5)
  · refine y_aload_n C D_X7_takesNumber_8 rfl ?_
    refine y_get C D_X7_takesNumber_9 fl_X7_94 (hm_o hU) rfl ?_
    rw [t12]
    refine y_i2l C D_X7_takesNumber_12 ?_
    refine y_iload_n C D_X7_takesNumber_13 rfl ?_
    refine y_i2l C D_X7_takesNumber_14 ?_
    refine y_iload_n C D_X7_takesNumber_15 rfl ?_
    refine y_i2l C D_X7_takesNumber_16 ?_
    refine z_callS C D_X7_takesNumber_17 lk_X7_57 (c_X7_in) rfl rfl (Nat.le_of_ble_eq_true rfl) (Nat.le_of_ble_eq_true rfl) ⟨Nat.zero_le _, Nat.zero_le _⟩ ?_
    refine y_top (bI_c ((in_inr (y := nI lo) (z := nI hi) (a := lo) (b := hi) rfl rfl).trans (inr_n' (by omega) (by omega) (by omega)))) ?_
    refine z_ifneB C D_X7_takesNumber_20 (fun c_20 => ?_) (fun c_20 => ?_)
    · refine y_aload_n C D_X7_takesNumber_41 rfl ?_
      refine y_get C D_X7_takesNumber_42 fl_X7_28 (hm_o hU) rfl ?_
      refine y_iload_n C D_X7_takesNumber_45 rfl ?_
      refine y_aload_n C D_X7_takesNumber_46 rfl ?_
      refine y_get C D_X7_takesNumber_47 fl_X7_94 (hm_o hU) rfl ?_
      rw [t12]
      refine z_ist C D_X7_takesNumber_50 (hm_read hU) (by omega) (by decide) (hm_wread hU _ _) ?_
      refine y_aload_n C D_X7_takesNumber_51 rfl ?_
      refine z_callVv C D_X7_takesNumber_52 lk_X7_114 (c_X7_ntp hU h8 ht (by omega)) (hm_o hU) rfl rfl (Nat.le_of_ble_eq_true rfl) (Nat.le_of_ble_eq_true rfl) ⟨Nat.zero_le _, Nat.zero_le _⟩ ?_
      refine y_aload_n C D_X7_takesNumber_55 rfl ?_
      refine y_iload C D_X7_takesNumber_56 rfl ?_
      refine z_callV C D_X7_takesNumber_58 lk_X7_117 (c_X7_takes hU h8 ht (tkN_le hs1) (by omega)) (hm_o hU) rfl rfl (Nat.le_of_ble_eq_true rfl) (Nat.le_of_ble_eq_true rfl) ⟨Nat.zero_le _, Nat.zero_le _⟩ ?_
      exact y_zret C E D_X7_takesNumber_61 bI_nar (congrArg (fun v => some (Value.int v)) (bI_c ⟨fun z => ⟨⟨c_5, c_20⟩, z⟩, fun z => z.2⟩)) (by rw [nS, nR, nW, if_pos ⟨c_5, c_20⟩, if_pos ⟨c_5, c_20⟩, if_pos ⟨c_5, c_20⟩, up_eq])
    · refine y_aload_n C D_X7_takesNumber_23 rfl ?_
      refine y_aload_n C D_X7_takesNumber_24 rfl ?_
      refine y_get C D_X7_takesNumber_25 fl_X7_91 (hm_o hU) rfl ?_
      rw [t11]
      refine y_iconst C D_X7_takesNumber_28 ki_2 ?_
      refine y_icmp_ne C D_X7_takesNumber_29 (n_eq (by omega) (by omega)) (fun c_29 => ?_) (fun c_29 => ?_)
      · refine y_iconst C D_X7_takesNumber_36 ki_1 ?_
        refine z_callV C D_X7_takesNumber_37 lk_X7_111 (c_X7_faults hU) (hm_o hU) rfl rfl (Nat.le_of_ble_eq_true rfl) (Nat.le_of_ble_eq_true rfl) ⟨Nat.zero_le _, Nat.zero_le _⟩ ?_
        exact y_zret C E D_X7_takesNumber_40 nar_0 (rt_0 (absurd c_5 c_29)) (absurd c_5 c_29)
      · refine y_iconst C D_X7_takesNumber_32 ki_2 ?_
        refine y_goto C D_X7_takesNumber_33 ?_
        refine z_callV C D_X7_takesNumber_37 lk_X7_111 (c_X7_faults hU) (hm_o hU) rfl rfl (Nat.le_of_ble_eq_true rfl) (Nat.le_of_ble_eq_true rfl) ⟨Nat.zero_le _, Nat.zero_le _⟩ ?_
        exact y_zret C E D_X7_takesNumber_40 nar_0 (rt_0 (fun z => c_20 z.1.2)) (by rw [nS, nR, nW, if_neg (fun z => c_20 z.2), if_neg (fun z => c_20 z.2), if_neg (fun z => c_20 z.2), if_pos c_5])
theorem lp_X7_readSleeper {X : qX} {p gs kind : Nat} {q : PS} (hU : U.length = 122) (h8 : i 8 ≤ 120) (ht : ∀ k, A 7 k < 256) (hq : q.2.1 ≤ i 8) (h0 : q.2.2.1 0 = gs) (hg : gs ≤ 6) (hp : p ≤ 4) (C : qC X G cX7_readSleeper 5 RX7 4) (E : qE X G (some .boolean) 0 0 (some (.int (bI ((psL (A 7) (i 8) p gs q gs).1 = true)))) (hmq G U i A B (psL (A 7) (i 8) p gs q gs))) : ∀ (m g : Nat), g + m = gs → Y X G 5 0 0 47 [some (qr G 122), some (.int (nI (kind))), some (.int (nI (p))), some (.int (bI ((psL (A 7) (i 8) p gs q g).1 = true))), some (.int (nI (g)))] [] (hmq G U i A B (psL (A 7) (i 8) p gs q g)) := by
  intro m
  induction m with
  | zero =>
    intro g hm'
    have e0 : (psL (A 7) (i 8) p gs q g).2.2.1 0 = gs := (psL_rd (by decide) g).trans h0
    obtain rfl : g = gs := by omega
    refine y_iload C D_X7_readSleeper_47 rfl ?_
    refine y_aload_n C D_X7_readSleeper_49 rfl ?_
    refine y_get C D_X7_readSleeper_50 fl_X7_28 (hm_o hU) rfl ?_
    refine y_iconst C D_X7_readSleeper_53 ki_0 ?_
    refine z_ild C D_X7_readSleeper_54 (hm_read hU) (by omega) (by decide) rfl ?_
    rw [up_eq, e0]
    refine y_icmp_ge C D_X7_readSleeper_55 (n_le (by omega) (by omega)) (fun c_55 => ?_) (fun c_55 => absurd (Nat.le_refl _) c_55)
    refine y_iload_n C D_X7_readSleeper_106 rfl ?_
    exact y_zret C E D_X7_readSleeper_107 bI_nar (rfl) (rfl)
  | succ m ih =>
    intro g hm'
    have e0 : (psL (A 7) (i 8) p gs q g).2.2.1 0 = gs := (psL_rd (by decide) g).trans h0
    have es := psL_le (p := p) (gs := gs) (t := A 7) hq g
    refine y_iload C D_X7_readSleeper_47 rfl ?_
    refine y_aload_n C D_X7_readSleeper_49 rfl ?_
    refine y_get C D_X7_readSleeper_50 fl_X7_28 (hm_o hU) rfl ?_
    refine y_iconst C D_X7_readSleeper_53 ki_0 ?_
    refine z_ild C D_X7_readSleeper_54 (hm_read hU) (by omega) (by decide) rfl ?_
    rw [up_eq, e0]
    refine y_icmp_ge C D_X7_readSleeper_55 (n_le (by omega) (by omega)) (fun c_55 => absurd c_55 (by omega)) (fun c_55 => ?_)
    refine y_iload_n C D_X7_readSleeper_58 rfl ?_
    refine z_ifeqB C D_X7_readSleeper_59 (fun c_59 => ?_) (fun c_59 => ?_)
    · have ebad : psL (A 7) (i 8) p gs q gs = psL (A 7) (i 8) p gs q g := (congrArg (psL (A 7) (i 8) p gs q) hm'.symm).trans (psL_bad c_59 (m + 1))
      refine y_iload_n C D_X7_readSleeper_106 rfl ?_
      exact y_zret C E D_X7_readSleeper_107 bI_nar (by rw [ebad]) (by rw [ebad])
    · refine y_aload_n C D_X7_readSleeper_62 rfl ?_
      refine y_iconst C D_X7_readSleeper_63 ki_0 ?_
      refine y_bipush C D_X7_readSleeper_64 kb_27 ?_
      refine y_bipush C D_X7_readSleeper_66 kb_21 ?_
      refine y_bipush C D_X7_readSleeper_68 kb_6 ?_
      refine y_iload_n C D_X7_readSleeper_70 rfl ?_
      refine z_imul C D_X7_readSleeper_71 ?_
      refine z_iadd C D_X7_readSleeper_72 ?_
      refine y_iload C D_X7_readSleeper_73 rfl ?_
      refine z_iadd C D_X7_readSleeper_75 ?_
      refine y_iload C D_X7_readSleeper_76 rfl ?_
      refine y_iconst C D_X7_readSleeper_78 ki_1 ?_
      refine z_iadd C D_X7_readSleeper_79 ?_
      refine y_aload_n C D_X7_readSleeper_80 rfl ?_
      refine y_get C D_X7_readSleeper_81 fl_X7_28 (hm_o hU) rfl ?_
      refine y_iconst C D_X7_readSleeper_84 ki_0 ?_
      refine z_ild C D_X7_readSleeper_85 (hm_read hU) (by omega) (by decide) rfl ?_
      rw [up_eq, e0]
      refine y_icmp_ne C D_X7_readSleeper_86 (n_eq (by omega) (by omega)) (fun c_86 => ?_) (fun c_86 => ?_)
      · refine y_bipush C D_X7_readSleeper_94 kb_44 ?_
        refine z_callV C D_X7_readSleeper_96 lk_X7_120 (c_X7_takesNumber hU h8 ht es (by omega) (by omega) (by omega) (by omega)) (hm_o hU) rfl rfl (Nat.le_of_ble_eq_true rfl) (Nat.le_of_ble_eq_true rfl) ⟨Nat.zero_le _, Nat.zero_le _⟩ ?_
        refine y_istore_n C D_X7_readSleeper_99 (by decide) (qok_s rfl rfl) ?_
        refine z_iinc (n := 1) C D_X7_readSleeper_100 rfl (by decide) (qok_s rfl rfl) ?_
        refine y_goto C D_X7_readSleeper_103 ?_
        have z := ih (g + 1) (by omega)
        rw [show psL (A 7) (i 8) p gs q (g + 1) = _ from by rw [psL, if_pos c_59, if_neg c_86]] at z
        unfold psN at z
        rw [bI_c (P := (decide _ = true)) decide_eq_true_iff] at z
        exact z
      · refine y_bipush C D_X7_readSleeper_89 kb_59 ?_
        refine y_goto C D_X7_readSleeper_91 ?_
        refine z_callV C D_X7_readSleeper_96 lk_X7_120 (c_X7_takesNumber hU h8 ht es (by omega) (by omega) (by omega) (by omega)) (hm_o hU) rfl rfl (Nat.le_of_ble_eq_true rfl) (Nat.le_of_ble_eq_true rfl) ⟨Nat.zero_le _, Nat.zero_le _⟩ ?_
        refine y_istore_n C D_X7_readSleeper_99 (by decide) (qok_s rfl rfl) ?_
        refine z_iinc (n := 1) C D_X7_readSleeper_100 rfl (by decide) (qok_s rfl rfl) ?_
        refine y_goto C D_X7_readSleeper_103 ?_
        have z := ih (g + 1) (by omega)
        rw [show psL (A 7) (i 8) p gs q (g + 1) = _ from by rw [psL, if_pos c_59, if_pos c_86]] at z
        unfold psN at z
        rw [bI_c (P := (decide _ = true)) decide_eq_true_iff] at z
        exact z
theorem c_X7_readSleeper (hU : U.length = 122) (h8 : i 8 ≤ 120) (ht : ∀ k, A 7 k < 256) {s w : Nat} {rd : Nat → Nat} {kind : Nat} {b : Bool} (hs1 : s ≤ i 8) (h3 : rd 3 ≤ 5) (h0 : rd 0 ≤ 6) : Ct l G yX7_readSleeper 4 [qr G 122, .int (nI kind)] (hmp G U i A B (s) (rd) (w)) (some (.int (bI ((psS (A 7) (i 8) kind (b, s, rd, w)).1 = true)))) (hmq G U i A B (psS (A 7) (i 8) kind (b, s, rd, w))) := by
  refine ctm_intro (maxL := 5) kw_X7_readSleeper (by decide) (by decide) [some (qr G 122), some (.int (nI kind)), none, none, none] rfl (Nat.le_of_ble_eq_true rfl) ?_
  intro X _ hcl hsl _ _ C E
  refine y_aload_n C D_X7_readSleeper_0 rfl ?_
  refine y_get C D_X7_readSleeper_1 fl_X7_28 (hm_o hU) rfl ?_
  refine y_iconst C D_X7_readSleeper_4 ki_3 ?_
  refine z_ild C D_X7_readSleeper_5 (hm_read hU) (by omega) (by decide) rfl ?_
  rw [up_eq]
  refine y_istore_n C D_X7_readSleeper_6 (by decide) (qok_s rfl rfl) ?_
  refine y_iload_n C D_X7_readSleeper_7 rfl ?_
  refine y_iconst C D_X7_readSleeper_8 ki_5 ?_
  refine y_icmp_ne C D_X7_readSleeper_9 (n_eq (by omega) (by omega)) (fun c_9 => ?_) (fun c_9 => ?_)
  · refine y_aload_n C D_X7_readSleeper_18 rfl ?_
    refine z_callVv C D_X7_readSleeper_19 lk_X7_114 (c_X7_ntp hU h8 ht (by omega)) (hm_o hU) rfl rfl (Nat.le_of_ble_eq_true rfl) (Nat.le_of_ble_eq_true rfl) ⟨Nat.zero_le _, Nat.zero_le _⟩ ?_
    refine y_aload_n C D_X7_readSleeper_22 rfl ?_
    refine y_get C D_X7_readSleeper_23 fl_X7_28 (hm_o hU) rfl ?_
    refine y_bipush C D_X7_readSleeper_26 kb_6 ?_
    refine y_iload_n C D_X7_readSleeper_28 rfl ?_
    refine z_iadd C D_X7_readSleeper_29 ?_
    refine y_iload_n C D_X7_readSleeper_30 rfl ?_
    refine z_ist C D_X7_readSleeper_31 (hm_read hU) (by omega) (by decide) (hm_wread hU _ _) ?_
    refine y_aload_n C D_X7_readSleeper_32 rfl ?_
    refine y_get C D_X7_readSleeper_33 fl_X7_28 (hm_o hU) rfl ?_
    refine y_iconst C D_X7_readSleeper_36 ki_3 ?_
    refine y_dup2 C D_X7_readSleeper_37 rfl rfl ?_
    refine z_ild C D_X7_readSleeper_38 (hm_read hU) (by omega) (by decide) rfl ?_
    rw [up_eq, up_eq, up_ne _ _ (by omega)]
    refine y_iconst C D_X7_readSleeper_39 ki_1 ?_
    refine z_iadd C D_X7_readSleeper_40 ?_
    refine z_ist C D_X7_readSleeper_41 (hm_read hU) (by omega) (by decide) (hm_wread hU _ _) ?_
    refine y_iconst C D_X7_readSleeper_42 ki_1 ?_
    refine y_istore_n C D_X7_readSleeper_43 (by decide) (qok_s rfl rfl) ?_
    refine y_iconst C D_X7_readSleeper_44 ki_0 ?_
    refine y_istore C D_X7_readSleeper_45 (by decide) (qok_s rfl rfl) ?_
    rw [psS, if_neg c_9] at E
    rw [bx_uu, bx_uu, up_eq]
    exact lp_X7_readSleeper (q := (true, tkN (A 7) (i 8) s, va_up (va_up rd (6 + rd 3) kind) 3 (rd 3 + 1), w)) hU h8 ht (tkN_le hs1) (by show va_up (va_up rd (6 + rd 3) kind) 3 (rd 3 + 1) 0 = rd 0; rw [up_ne _ _ (by decide), up_ne _ _ (by omega)]) h0 (show rd 3 ≤ 4 by omega) C E (rd 0) 0 (Nat.zero_add _)
  · refine y_aload_n C D_X7_readSleeper_12 rfl ?_
    refine y_iconst C D_X7_readSleeper_13 ki_3 ?_
    refine z_callV C D_X7_readSleeper_14 lk_X7_111 (c_X7_faults hU) (hm_o hU) rfl rfl (Nat.le_of_ble_eq_true rfl) (Nat.le_of_ble_eq_true rfl) ⟨Nat.zero_le _, Nat.zero_le _⟩ ?_
    exact y_zret C E D_X7_readSleeper_17 nar_0 (rt_0 (fun z => by rw [psS, if_pos c_9] at z; exact Bool.noConfusion z)) (by rw [psS, if_pos c_9])
theorem lp_X7_readYard {X : qX} (hU : U.length = 122) (h8 : i 8 ≤ 120) (ht : ∀ k, A 7 k < 256) (C : qC X G cX7_readYard 3 RX7 5) : ∀ (f : Nat) (q : PS), qE X G (some .boolean) 0 0 (some (.int (bI ((psY (A 7) (i 8) f q).1 = true)))) (hmq G U i A B (psY (A 7) (i 8) f q)) → q.2.1 ≤ i 8 → q.2.2.1 3 ≤ 5 → q.2.2.1 0 ≤ 6 → (q.1 = true → 6 ≤ f + q.2.2.1 3) → Y X G 3 0 0 82 [some (qr G 122), some (.int (bI (q.1 = true))), none] [] (hmq G U i A B (q)) := by
  intro f
  induction f with
  | zero =>
    intro q E hq h3 h0 hf
    refine y_iload_n C D_X7_readYard_82 rfl ?_
    refine z_ifeqB C D_X7_readYard_83 (fun c_83 => ?_) (fun c_83 => absurd (hf c_83) (by omega))
    refine y_iload_n C D_X7_readYard_191 rfl ?_
    exact y_zret C E D_X7_readYard_192 bI_nar (rfl) (rfl)
  | succ f ih =>
    intro q E hq h3 h0 hf
    have t11 : tokS (va_up i 14 q.2.2.2) (A 7) (i 8) q.2.1 11 = tkK (A 7) (i 8) q.2.1 := tokS_11 _ _ _ _
    have hkk := tkK_lt (A 7) (i 8) q.2.1
    have K : q.1 = true → (tkK (A 7) (i 8) q.2.1 ≠ 3 ∨ q.2.2.1 3 = 0) → Y X G 3 0 0 103 [some (qr G 122), some (.int (bI (q.1 = true))), none] [] (hmq G U i A B (q)) := by
      intro c_83 hc
      refine y_aload_n C D_X7_readYard_103 rfl ?_
      refine y_bipush C D_X7_readYard_104 kb_100 ?_
      refine z_callV C D_X7_readYard_106 lk_X7_108 (c_X7_isLetter hU h8 ht (by omega)) (hm_o hU) rfl rfl (Nat.le_of_ble_eq_true rfl) (Nat.le_of_ble_eq_true rfl) ⟨Nat.zero_le _, Nat.zero_le _⟩ ?_
      refine z_ifeqB C D_X7_readYard_109 (fun c_109 => ?_) (fun c_109 => ?_)
      · refine y_aload_n C D_X7_readYard_116 rfl ?_
        refine y_bipush C D_X7_readYard_117 kb_116 ?_
        refine z_callV C D_X7_readYard_119 lk_X7_108 (c_X7_isLetter hU h8 ht (by omega)) (hm_o hU) rfl rfl (Nat.le_of_ble_eq_true rfl) (Nat.le_of_ble_eq_true rfl) ⟨Nat.zero_le _, Nat.zero_le _⟩ ?_
        refine z_ifeqB C D_X7_readYard_122 (fun c_122 => ?_) (fun c_122 => ?_)
        · refine y_aload_n C D_X7_readYard_129 rfl ?_
          refine y_bipush C D_X7_readYard_130 kb_119 ?_
          refine z_callV C D_X7_readYard_132 lk_X7_108 (c_X7_isLetter hU h8 ht (by omega)) (hm_o hU) rfl rfl (Nat.le_of_ble_eq_true rfl) (Nat.le_of_ble_eq_true rfl) ⟨Nat.zero_le _, Nat.zero_le _⟩ ?_
          refine z_ifeqB C D_X7_readYard_135 (fun c_135 => ?_) (fun c_135 => ?_)
          · refine y_aload_n C D_X7_readYard_142 rfl ?_
            refine y_bipush C D_X7_readYard_143 kb_115 ?_
            refine z_callV C D_X7_readYard_145 lk_X7_108 (c_X7_isLetter hU h8 ht (by omega)) (hm_o hU) rfl rfl (Nat.le_of_ble_eq_true rfl) (Nat.le_of_ble_eq_true rfl) ⟨Nat.zero_le _, Nat.zero_le _⟩ ?_
            refine z_ifeqB C D_X7_readYard_148 (fun c_148 => ?_) (fun c_148 => ?_)
            · refine y_aload_n C D_X7_readYard_155 rfl ?_
              refine y_bipush C D_X7_readYard_156 kb_109 ?_
              refine z_callV C D_X7_readYard_158 lk_X7_108 (c_X7_isLetter hU h8 ht (by omega)) (hm_o hU) rfl rfl (Nat.le_of_ble_eq_true rfl) (Nat.le_of_ble_eq_true rfl) ⟨Nat.zero_le _, Nat.zero_le _⟩ ?_
              refine z_ifeqB C D_X7_readYard_161 (fun c_161 => ?_) (fun c_161 => ?_)
              · refine y_iconst C D_X7_readYard_168 ki_0 ?_
                refine y_istore_n C D_X7_readYard_169 (by decide) (qok_s rfl rfl) ?_
                refine y_iload_n C D_X7_readYard_170 rfl ?_
                refine y_if_le C D_X7_readYard_171 (n_le0 (by decide)) (fun _ => ?_) (fun q => absurd rfl q)
                refine y_aload_n C D_X7_readYard_182 rfl ?_
                refine y_iconst C D_X7_readYard_183 ki_1 ?_
                refine z_callV C D_X7_readYard_184 lk_X7_111 (c_X7_faults hU) (hm_o hU) rfl rfl (Nat.le_of_ble_eq_true rfl) (Nat.le_of_ble_eq_true rfl) ⟨Nat.zero_le _, Nat.zero_le _⟩ ?_
                refine y_istore_n C D_X7_readYard_187 (by decide) (qok_s rfl rfl) ?_
                refine y_goto C D_X7_readYard_188 ?_
                have e : psY (A 7) (i 8) (f + 1) q = psY (A 7) (i 8) f (((false, q.2.1, q.2.2.1, 1) : PS)) := by rw [psY, if_pos ⟨c_83, hc⟩, show kdT (A 7) (i 8) q.2.1 = 0 from by rw [kdT, if_neg c_109, if_neg c_122, if_neg c_135, if_neg c_148, if_neg c_161], if_neg (by decide)]
                rw [e] at E
                refine y_fg 2 ?_
                exact ih _ E hq h3 h0 (fun z => Bool.noConfusion z)
              · refine y_iconst C D_X7_readYard_164 ki_5 ?_
                refine y_goto C D_X7_readYard_165 ?_
                refine y_istore_n C D_X7_readYard_169 (by decide) (qok_s rfl rfl) ?_
                refine y_iload_n C D_X7_readYard_170 rfl ?_
                refine y_if_le C D_X7_readYard_171 (n_le0 (by decide)) (fun q => absurd q (by decide)) (fun _ => ?_)
                refine y_aload_n C D_X7_readYard_174 rfl ?_
                refine y_iload_n C D_X7_readYard_175 rfl ?_
                refine z_callV C D_X7_readYard_176 lk_X7_124 (c_X7_readSleeper (b := q.1) hU h8 ht hq h3 h0) (hm_o hU) rfl rfl (Nat.le_of_ble_eq_true rfl) (Nat.le_of_ble_eq_true rfl) ⟨Nat.zero_le _, Nat.zero_le _⟩ ?_
                refine y_goto C D_X7_readYard_179 ?_
                refine y_istore_n C D_X7_readYard_187 (by decide) (qok_s rfl rfl) ?_
                refine y_goto C D_X7_readYard_188 ?_
                have e : psY (A 7) (i 8) (f + 1) q = psY (A 7) (i 8) f (psS (A 7) (i 8) 5 q) := by rw [psY, if_pos ⟨c_83, hc⟩, show kdT (A 7) (i 8) q.2.1 = 5 from by rw [kdT, if_neg c_109, if_neg c_122, if_neg c_135, if_neg c_148, if_pos c_161], if_pos (by decide)]
                rw [e] at E
                refine y_fg 2 ?_
                have z3 := psS_3 (t := A 7) (n := i 8) (k := 5) h3
                exact ih _ E (psS_le hq) z3.1 (by rw [psS_0]; exact h0) (fun z => by rw [z3.2 z]; have := hf c_83; omega)
            · refine y_iconst C D_X7_readYard_151 ki_4 ?_
              refine y_goto C D_X7_readYard_152 ?_
              refine y_istore_n C D_X7_readYard_169 (by decide) (qok_s rfl rfl) ?_
              refine y_iload_n C D_X7_readYard_170 rfl ?_
              refine y_if_le C D_X7_readYard_171 (n_le0 (by decide)) (fun q => absurd q (by decide)) (fun _ => ?_)
              refine y_aload_n C D_X7_readYard_174 rfl ?_
              refine y_iload_n C D_X7_readYard_175 rfl ?_
              refine z_callV C D_X7_readYard_176 lk_X7_124 (c_X7_readSleeper (b := q.1) hU h8 ht hq h3 h0) (hm_o hU) rfl rfl (Nat.le_of_ble_eq_true rfl) (Nat.le_of_ble_eq_true rfl) ⟨Nat.zero_le _, Nat.zero_le _⟩ ?_
              refine y_goto C D_X7_readYard_179 ?_
              refine y_istore_n C D_X7_readYard_187 (by decide) (qok_s rfl rfl) ?_
              refine y_goto C D_X7_readYard_188 ?_
              have e : psY (A 7) (i 8) (f + 1) q = psY (A 7) (i 8) f (psS (A 7) (i 8) 4 q) := by rw [psY, if_pos ⟨c_83, hc⟩, show kdT (A 7) (i 8) q.2.1 = 4 from by rw [kdT, if_neg c_109, if_neg c_122, if_neg c_135, if_pos c_148], if_pos (by decide)]
              rw [e] at E
              refine y_fg 2 ?_
              have z3 := psS_3 (t := A 7) (n := i 8) (k := 4) h3
              exact ih _ E (psS_le hq) z3.1 (by rw [psS_0]; exact h0) (fun z => by rw [z3.2 z]; have := hf c_83; omega)
          · refine y_iconst C D_X7_readYard_138 ki_3 ?_
            refine y_goto C D_X7_readYard_139 ?_
            refine y_istore_n C D_X7_readYard_169 (by decide) (qok_s rfl rfl) ?_
            refine y_iload_n C D_X7_readYard_170 rfl ?_
            refine y_if_le C D_X7_readYard_171 (n_le0 (by decide)) (fun q => absurd q (by decide)) (fun _ => ?_)
            refine y_aload_n C D_X7_readYard_174 rfl ?_
            refine y_iload_n C D_X7_readYard_175 rfl ?_
            refine z_callV C D_X7_readYard_176 lk_X7_124 (c_X7_readSleeper (b := q.1) hU h8 ht hq h3 h0) (hm_o hU) rfl rfl (Nat.le_of_ble_eq_true rfl) (Nat.le_of_ble_eq_true rfl) ⟨Nat.zero_le _, Nat.zero_le _⟩ ?_
            refine y_goto C D_X7_readYard_179 ?_
            refine y_istore_n C D_X7_readYard_187 (by decide) (qok_s rfl rfl) ?_
            refine y_goto C D_X7_readYard_188 ?_
            have e : psY (A 7) (i 8) (f + 1) q = psY (A 7) (i 8) f (psS (A 7) (i 8) 3 q) := by rw [psY, if_pos ⟨c_83, hc⟩, show kdT (A 7) (i 8) q.2.1 = 3 from by rw [kdT, if_neg c_109, if_neg c_122, if_pos c_135], if_pos (by decide)]
            rw [e] at E
            refine y_fg 2 ?_
            have z3 := psS_3 (t := A 7) (n := i 8) (k := 3) h3
            exact ih _ E (psS_le hq) z3.1 (by rw [psS_0]; exact h0) (fun z => by rw [z3.2 z]; have := hf c_83; omega)
        · refine y_iconst C D_X7_readYard_125 ki_2 ?_
          refine y_goto C D_X7_readYard_126 ?_
          refine y_istore_n C D_X7_readYard_169 (by decide) (qok_s rfl rfl) ?_
          refine y_iload_n C D_X7_readYard_170 rfl ?_
          refine y_if_le C D_X7_readYard_171 (n_le0 (by decide)) (fun q => absurd q (by decide)) (fun _ => ?_)
          refine y_aload_n C D_X7_readYard_174 rfl ?_
          refine y_iload_n C D_X7_readYard_175 rfl ?_
          refine z_callV C D_X7_readYard_176 lk_X7_124 (c_X7_readSleeper (b := q.1) hU h8 ht hq h3 h0) (hm_o hU) rfl rfl (Nat.le_of_ble_eq_true rfl) (Nat.le_of_ble_eq_true rfl) ⟨Nat.zero_le _, Nat.zero_le _⟩ ?_
          refine y_goto C D_X7_readYard_179 ?_
          refine y_istore_n C D_X7_readYard_187 (by decide) (qok_s rfl rfl) ?_
          refine y_goto C D_X7_readYard_188 ?_
          have e : psY (A 7) (i 8) (f + 1) q = psY (A 7) (i 8) f (psS (A 7) (i 8) 2 q) := by rw [psY, if_pos ⟨c_83, hc⟩, show kdT (A 7) (i 8) q.2.1 = 2 from by rw [kdT, if_neg c_109, if_pos c_122], if_pos (by decide)]
          rw [e] at E
          refine y_fg 2 ?_
          have z3 := psS_3 (t := A 7) (n := i 8) (k := 2) h3
          exact ih _ E (psS_le hq) z3.1 (by rw [psS_0]; exact h0) (fun z => by rw [z3.2 z]; have := hf c_83; omega)
      · refine y_iconst C D_X7_readYard_112 ki_1 ?_
        refine y_goto C D_X7_readYard_113 ?_
        refine y_istore_n C D_X7_readYard_169 (by decide) (qok_s rfl rfl) ?_
        refine y_iload_n C D_X7_readYard_170 rfl ?_
        refine y_if_le C D_X7_readYard_171 (n_le0 (by decide)) (fun q => absurd q (by decide)) (fun _ => ?_)
        refine y_aload_n C D_X7_readYard_174 rfl ?_
        refine y_iload_n C D_X7_readYard_175 rfl ?_
        refine z_callV C D_X7_readYard_176 lk_X7_124 (c_X7_readSleeper (b := q.1) hU h8 ht hq h3 h0) (hm_o hU) rfl rfl (Nat.le_of_ble_eq_true rfl) (Nat.le_of_ble_eq_true rfl) ⟨Nat.zero_le _, Nat.zero_le _⟩ ?_
        refine y_goto C D_X7_readYard_179 ?_
        refine y_istore_n C D_X7_readYard_187 (by decide) (qok_s rfl rfl) ?_
        refine y_goto C D_X7_readYard_188 ?_
        have e : psY (A 7) (i 8) (f + 1) q = psY (A 7) (i 8) f (psS (A 7) (i 8) 1 q) := by rw [psY, if_pos ⟨c_83, hc⟩, show kdT (A 7) (i 8) q.2.1 = 1 from by rw [kdT, if_pos c_109], if_pos (by decide)]
        rw [e] at E
        refine y_fg 2 ?_
        have z3 := psS_3 (t := A 7) (n := i 8) (k := 1) h3
        exact ih _ E (psS_le hq) z3.1 (by rw [psS_0]; exact h0) (fun z => by rw [z3.2 z]; have := hf c_83; omega)
    refine y_iload_n C D_X7_readYard_82 rfl ?_
    refine z_ifeqB C D_X7_readYard_83 (fun c_83 => ?_) (fun c_83 => ?_)
    · refine y_iload_n C D_X7_readYard_191 rfl ?_
      exact y_zret C E D_X7_readYard_192 bI_nar (by rw [psY, if_neg (fun z => c_83 z.1)]) (by rw [psY, if_neg (fun z => c_83 z.1)])
    · refine y_aload_n C D_X7_readYard_86 rfl ?_
      refine y_get C D_X7_readYard_87 fl_X7_91 (hm_o hU) rfl ?_
      rw [t11]
      refine y_iconst C D_X7_readYard_90 ki_3 ?_
      refine y_icmp_ne C D_X7_readYard_91 (n_eq (by omega) (by omega)) (fun c_91 => ?_) (fun c_91 => ?_)
      · exact K c_83 (Or.inl c_91)
      · refine y_aload_n C D_X7_readYard_94 rfl ?_
        refine y_get C D_X7_readYard_95 fl_X7_28 (hm_o hU) rfl ?_
        refine y_iconst C D_X7_readYard_98 ki_3 ?_
        refine z_ild C D_X7_readYard_99 (hm_read hU) (by omega) (by decide) rfl ?_
        rw [up_eq]
        refine y_if_ne C D_X7_readYard_100 (n_eq0 (by omega)) (fun c_100 => ?_) (fun c_100 => ?_)
        · refine y_iload_n C D_X7_readYard_191 rfl ?_
          exact y_zret C E D_X7_readYard_192 bI_nar (by rw [psY, if_neg (fun z => z.2.elim (fun y => y c_91) c_100)]) (by rw [psY, if_neg (fun z => z.2.elim (fun y => y c_91) c_100)])
        · exact K c_83 (Or.inr c_100)
end
