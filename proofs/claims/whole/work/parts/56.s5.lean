def kbU (it : Nat → Int32) (o : Nat) (y : Nat → Nat) (s n : Nat) (w : Nat → Nat) : Nat → Nat → Nat
  | 0 => w
  | k + 1 => yrs (va_up y (6 + s) (k + 1)) (gaN it o (va_up y (6 + s) (k + 1)) n 0)
def wbU (it : Nat → Int32) (o : Nat) (y : Nat → Nat) (g n : Nat) (w : Nat → Nat) : Nat → Nat → Nat
  | 0 => w
  | p + 1 => yrs (va_up y (21 + 6 * p + g) 27) (gaN it o (va_up y (21 + 6 * p + g) 27) n 0)
section
variable {l : Launch} {G : qG} {h : List va_E} {y w : Nat → Nat} {fw ra z : Nat} {ln : Int32} {it : Nat → Int32}
theorem lp_X3_kindsBy {X : qX} {s o n : Nat} (hP : h[85]? = some (scl G fw)) (hQ : h[88]? = some (qY G 3 (sfY G))) (hs0 : Yat G h 89 w) (hy : Yat G h 7 y) (hR : Rat G h ra ln (nI z) it) (hra : 99 < ra) (hz : z ≤ 40) (hV : Va y) (h4 : y 4 ≤ 999) (hs1 : s < y 3) (ho : o + n ≤ z) (hn : n ≤ 40) (C : qC X G cX3_kindsBy 9 RX3 6) (E : qE X G (some .int) 0 0 (some (.int (nI (whoN it o y s n 5)))) (yc G h 89 (kbU it o y s n w (5)))) : ∀ (m k : Nat), k + m = 5 → Y X G 9 0 0 18 [some (qr G 85), some (qr G 7), some (.int (nI (s))), some (qr G ra), some (.int (nI (o))), some (.int (nI (n))), some (.int (nI (whoN it o y s n k))), some (.int (nI (k + 1))), none] [] (yc G h 89 (kbU it o y s n w (k))) := by
  have v3 := hV.2.2.2.1
  intro m
  induction m with
  | zero =>
    intro k hk
    obtain rfl : k = 5 := by omega
    refine y_iload C D_X3_kindsBy_18 rfl ?_
    refine y_iconst C D_X3_kindsBy_20 ki_5 ?_
    refine y_icmp_gt C D_X3_kindsBy_21 (n_lt (by omega) (by omega)) (fun c_21 => ?_) (fun c_21 => absurd (by omega) c_21)
    refine y_iload C D_X3_kindsBy_69 rfl ?_
    exact y_iret C E D_X3_kindsBy_71 (rfl) (rfl)
  | succ m ih =>
    intro k hk
    have q := ih (k + 1) (by omega)
    unfold whoN at q
    refine y_iload C D_X3_kindsBy_18 rfl ?_
    refine y_iconst C D_X3_kindsBy_20 ki_5 ?_
    refine y_icmp_gt C D_X3_kindsBy_21 (n_lt (by omega) (by omega)) (fun c_21 => absurd c_21 (by omega)) (fun c_21 => ?_)
    refine y_aload_n C D_X3_kindsBy_24 rfl ?_
    refine y_aload_n C D_X3_kindsBy_25 rfl ?_
    refine z_callV C D_X3_kindsBy_26 lk_X3_29 (c_X3_copyOf ((yc_n (by decide)).trans hP) ((yc_n (by decide)).trans hQ) (Yat.mk' hs0.lt) (hy.far (by decide)) hV) ((yc_n (by decide)).trans hP) rfl rfl (Nat.le_of_ble_eq_true rfl) (Nat.le_of_ble_eq_true rfl) ⟨Nat.zero_le _, Nat.zero_le _⟩ ?_
    rw [yc_yc]
    refine y_astore C D_X3_kindsBy_29 (by decide) (qok_s rfl rfl) ?_
    refine y_aload C D_X3_kindsBy_31 rfl ?_
    refine y_get C D_X3_kindsBy_33 fl_X3_92 (yc_o hs0.lt) rfl ?_
    refine y_iload_n C D_X3_kindsBy_36 rfl ?_
    refine y_iload C D_X3_kindsBy_37 rfl ?_
    refine z_ist C D_X3_kindsBy_39 (yc_k hs0.lt) (by omega) (by decide) (yc_wkinds (by omega) _) ?_
    refine y_aload C D_X3_kindsBy_40 rfl ?_
    refine y_aload_n C D_X3_kindsBy_42 rfl ?_
    refine y_iload C D_X3_kindsBy_43 rfl ?_
    refine y_iload C D_X3_kindsBy_45 rfl ?_
    refine z_callS C D_X3_kindsBy_47 lk_X3_95 (c_X3_goesAsTold hs0.lt hR hra hz (hV.kindd hs1 (by omega) (by omega)) (by rw [up_ne _ _ (by omega)]; exact h4) ho hn) rfl rfl (Nat.le_of_ble_eq_true rfl) (Nat.le_of_ble_eq_true rfl) ⟨Nat.zero_le _, Nat.zero_le _⟩ ?_
    refine z_ifeqB C D_X3_kindsBy_50 (fun c_50 => ?_) (fun c_50 => ?_)
    · refine z_iinc (n := 1) C D_X3_kindsBy_63 rfl (by decide) (qok_s rfl rfl) ?_
      refine y_goto C D_X3_kindsBy_66 ?_
      refine y_fg 8 ?_
      rw [if_neg c_50, Nat.or_zero] at q
      exact q
    · refine y_iload C D_X3_kindsBy_53 rfl ?_
      refine y_iload C D_X3_kindsBy_55 rfl ?_
      refine z_callSN C D_X3_kindsBy_57 lk_X3_47 (c_X6_bit (by omega)) rfl rfl (Nat.le_of_ble_eq_true rfl) (Nat.le_of_ble_eq_true rfl) ⟨Nat.zero_le _, Nat.zero_le _⟩ ?_
      refine z_ior C D_X3_kindsBy_60 ?_
      refine y_istore C D_X3_kindsBy_61 (by decide) (qok_s rfl rfl) ?_
      refine z_iinc (n := 1) C D_X3_kindsBy_63 rfl (by decide) (qok_s rfl rfl) ?_
      refine y_goto C D_X3_kindsBy_66 ?_
      refine y_fg 8 ?_
      rw [if_pos c_50] at q
      exact q
theorem c_X3_kindsBy (hP : h[85]? = some (scl G fw)) (hQ : h[88]? = some (qY G 3 (sfY G))) (hs0 : Yat G h 89 w) (hy : Yat G h 7 y) (hR : Rat G h ra ln (nI z) it) (hra : 99 < ra) (hz : z ≤ 40) (hV : Va y) (h4 : y 4 ≤ 999) {s o n : Nat} (hs1 : s < y 3) (ho : o + n ≤ z) (hn : n ≤ 40) : Ct l G yX3_kindsBy 6 [qr G 85, qr G 7, .int (nI s), qr G ra, .int (nI o), .int (nI n)] (h) (some (.int (nI (whoN it o y s n 5)))) (yc G h 89 (kbU it o y s n w (5))) := by
  refine ctm_intro (maxL := 9) kw_X3_kindsBy (by decide) (by decide) [some (qr G 85), some (qr G 7), some (.int (nI s)), some (qr G ra), some (.int (nI o)), some (.int (nI n)), none, none, none] rfl (Nat.le_of_ble_eq_true rfl) ?_
  intro X _ hcl hsl _ _ C E
  have v3 := hV.2.2.2.1
  refine y_iconst C D_X3_kindsBy_0 ki_0 ?_
  refine y_istore C D_X3_kindsBy_1 (by decide) (qok_s rfl rfl) ?_
  refine y_iload_n C D_X3_kindsBy_3 rfl ?_
  refine y_if_lt C D_X3_kindsBy_4 (n_lt0 (by omega)) (fun q => q.elim) (fun _ => ?_)
  refine y_iload_n C D_X3_kindsBy_7 rfl ?_
  refine y_iconst C D_X3_kindsBy_8 ki_5 ?_
  refine y_icmp_lt C D_X3_kindsBy_9 (n_lt (by omega) (by omega)) (fun c_9 => ?_) (fun c_9 => absurd c_9 (by omega))
  refine y_iconst C D_X3_kindsBy_15 ki_1 ?_
  refine y_istore C D_X3_kindsBy_16 (by decide) (qok_s rfl rfl) ?_
  have q := lp_X3_kindsBy hP hQ hs0 hy hR hra hz hV h4 hs1 ho hn C E 5 0 (by omega)
  rw [kbU, hs0.eq] at q
  exact q
theorem lp_X3_whisperersBy {X : qX} {g o n : Nat} (hP : h[85]? = some (scl G fw)) (hQ : h[88]? = some (qY G 3 (sfY G))) (hs0 : Yat G h 89 w) (hy : Yat G h 7 y) (hR : Rat G h ra ln (nI z) it) (hra : 99 < ra) (hz : z ≤ 40) (hV : Va y) (h4 : y 4 ≤ 999) (hg1 : g < y 0) (ho : o + n ≤ z) (hn : n ≤ 40) (C : qC X G cX3_whisperersBy 9 RX3 6) (E : qE X G (some .int) 0 0 (some (.int (nI (whiN it o y g n (y 3))))) (yc G h 89 (wbU it o y g n w (y 3)))) : ∀ (m k : Nat), k + m = y 3 → Y X G 9 0 0 6 [some (qr G 85), some (qr G 7), some (.int (nI (g))), some (qr G ra), some (.int (nI (o))), some (.int (nI (n))), some (.int (nI (whiN it o y g n k))), some (.int (nI (k))), none] [] (yc G h 89 (wbU it o y g n w (k))) := by
  have v3 := hV.2.2.2.1
  have v0 := hV.1
  intro m
  induction m with
  | zero =>
    intro k hk
    obtain rfl : k = y 3 := by omega
    refine y_iload C D_X3_whisperersBy_6 rfl ?_
    refine y_aload_n C D_X3_whisperersBy_8 rfl ?_
    refine y_get C D_X3_whisperersBy_9 fl_X3_44 ((yc_n (by decide)).trans hy.o) rfl ?_
    refine y_icmp_ge C D_X3_whisperersBy_12 (n_le (by omega) (by omega)) (fun c_12 => ?_) (fun c_12 => absurd (Nat.le_refl _) c_12)
    refine y_iload C D_X3_whisperersBy_61 rfl ?_
    exact y_iret C E D_X3_whisperersBy_63 (rfl) (rfl)
  | succ m ih =>
    intro k hk
    have q := ih (k + 1) (by omega)
    unfold whiN at q
    refine y_iload C D_X3_whisperersBy_6 rfl ?_
    refine y_aload_n C D_X3_whisperersBy_8 rfl ?_
    refine y_get C D_X3_whisperersBy_9 fl_X3_44 ((yc_n (by decide)).trans hy.o) rfl ?_
    refine y_icmp_ge C D_X3_whisperersBy_12 (n_le (by omega) (by omega)) (fun c_12 => absurd c_12 (by omega)) (fun c_12 => ?_)
    refine y_aload_n C D_X3_whisperersBy_15 rfl ?_
    refine y_aload_n C D_X3_whisperersBy_16 rfl ?_
    refine z_callV C D_X3_whisperersBy_17 lk_X3_29 (c_X3_copyOf ((yc_n (by decide)).trans hP) ((yc_n (by decide)).trans hQ) (Yat.mk' hs0.lt) (hy.far (by decide)) hV) ((yc_n (by decide)).trans hP) rfl rfl (Nat.le_of_ble_eq_true rfl) (Nat.le_of_ble_eq_true rfl) ⟨Nat.zero_le _, Nat.zero_le _⟩ ?_
    rw [yc_yc]
    refine y_astore C D_X3_whisperersBy_20 (by decide) (qok_s rfl rfl) ?_
    refine y_aload C D_X3_whisperersBy_22 rfl ?_
    refine y_iload C D_X3_whisperersBy_24 rfl ?_
    refine y_iload_n C D_X3_whisperersBy_26 rfl ?_
    refine y_bipush C D_X3_whisperersBy_27 kb_27 ?_
    refine z_callVv C D_X3_whisperersBy_29 lk_X3_99 (c_X5_remember hs0.lt (by omega) (by omega)) (yc_o hs0.lt) rfl rfl (Nat.le_of_ble_eq_true rfl) (Nat.le_of_ble_eq_true rfl) ⟨Nat.zero_le _, Nat.zero_le _⟩ ?_
    refine y_aload C D_X3_whisperersBy_32 rfl ?_
    refine y_aload_n C D_X3_whisperersBy_34 rfl ?_
    refine y_iload C D_X3_whisperersBy_35 rfl ?_
    refine y_iload C D_X3_whisperersBy_37 rfl ?_
    refine z_callS C D_X3_whisperersBy_39 lk_X3_95 (c_X3_goesAsTold hs0.lt hR hra hz (hV.memd (by omega) hg1 (by decide)) (by rw [up_ne _ _ (by omega)]; exact h4) ho hn) rfl rfl (Nat.le_of_ble_eq_true rfl) (Nat.le_of_ble_eq_true rfl) ⟨Nat.zero_le _, Nat.zero_le _⟩ ?_
    refine z_ifeqB C D_X3_whisperersBy_42 (fun c_42 => ?_) (fun c_42 => ?_)
    · refine z_iinc (n := 1) C D_X3_whisperersBy_55 rfl (by decide) (qok_s rfl rfl) ?_
      refine y_goto C D_X3_whisperersBy_58 ?_
      refine y_fg 8 ?_
      rw [if_neg c_42, Nat.or_zero] at q
      exact q
    · refine y_iload C D_X3_whisperersBy_45 rfl ?_
      refine y_iload C D_X3_whisperersBy_47 rfl ?_
      refine z_callSN C D_X3_whisperersBy_49 lk_X3_47 (c_X6_bit (by omega)) rfl rfl (Nat.le_of_ble_eq_true rfl) (Nat.le_of_ble_eq_true rfl) ⟨Nat.zero_le _, Nat.zero_le _⟩ ?_
      refine z_ior C D_X3_whisperersBy_52 ?_
      refine y_istore C D_X3_whisperersBy_53 (by decide) (qok_s rfl rfl) ?_
      refine z_iinc (n := 1) C D_X3_whisperersBy_55 rfl (by decide) (qok_s rfl rfl) ?_
      refine y_goto C D_X3_whisperersBy_58 ?_
      refine y_fg 8 ?_
      rw [if_pos c_42] at q
      exact q
theorem c_X3_whisperersBy (hP : h[85]? = some (scl G fw)) (hQ : h[88]? = some (qY G 3 (sfY G))) (hs0 : Yat G h 89 w) (hy : Yat G h 7 y) (hR : Rat G h ra ln (nI z) it) (hra : 99 < ra) (hz : z ≤ 40) (hV : Va y) (h4 : y 4 ≤ 999) {g o n : Nat} (hg1 : g < y 0) (ho : o + n ≤ z) (hn : n ≤ 40) : Ct l G yX3_whisperersBy 6 [qr G 85, qr G 7, .int (nI g), qr G ra, .int (nI o), .int (nI n)] (h) (some (.int (nI (whiN it o y g n (y 3))))) (yc G h 89 (wbU it o y g n w (y 3))) := by
  refine ctm_intro (maxL := 9) kw_X3_whisperersBy (by decide) (by decide) [some (qr G 85), some (qr G 7), some (.int (nI g)), some (qr G ra), some (.int (nI o)), some (.int (nI n)), none, none, none] rfl (Nat.le_of_ble_eq_true rfl) ?_
  intro X _ hcl hsl _ _ C E
  refine y_iconst C D_X3_whisperersBy_0 ki_0 ?_
  refine y_istore C D_X3_whisperersBy_1 (by decide) (qok_s rfl rfl) ?_
  refine y_iconst C D_X3_whisperersBy_3 ki_0 ?_
  refine y_istore C D_X3_whisperersBy_4 (by decide) (qok_s rfl rfl) ?_
  have q := lp_X3_whisperersBy hP hQ hs0 hy hR hra hz hV h4 hg1 ho hn C E (y 3) 0 (by omega)
  rw [wbU, hs0.eq] at q
  exact q
end
