theorem or_bit : ∀ b, b < 32 → ∀ p, p < 5 → (b ||| 2 ^ p < 32 ∧ ∀ q, q < 5 → (b ||| 2 ^ p) / 2 ^ q % 2 = if q = p then 1 else b / 2 ^ q % 2) := by decide +kernel
theorem or_sS {y : Nat → Nat} {o p k : Nat} (hb : ∀ k, k < 5 → y (o + k) ≤ 1) (hp : p < 5) : sS y o (sb y o ||| 2 ^ p) k = va_up y (o + p) 1 k := by
  unfold va_up
  by_cases c : o ≤ k ∧ k < o + 5
  · rw [sS_in c, (or_bit _ (sb_lt hb) p hp).2 (k - o) (by omega)]
    by_cases d : k = o + p
    · rw [if_pos d, if_pos (by omega)]
    · rw [if_neg d, if_neg (by omega), sb_bit hb (by omega), show o + (k - o) = k by omega]
  · rw [sS_out c, if_neg (by omega)]
section
variable {l : Launch} {G : qG} {h : List va_E} {y w : Nat → Nat} {fw : Nat}
theorem lp_X3_draws {X : qX} {n s : Nat} (h89 : 89 + 2 < h.length) (hV : Va y) (h4 : y 4 ≤ 999) (hn : n ≤ 40) (hs2 : s < 2147483647) (C : qC X G cX3_yearsByDraws 9 RX3 5) (E : qE X G (some (.object "DreamGraves$Yard")) 0 0 (some (qr G 89)) (yc G h 89 (dwY y s n))) : ∀ (m k : Nat), k + m = n → Y X G 9 0 0 14 [some (qr G 85), some (qr G 7), some (.int (nI (n))), some (.int (nI (s))), some (qr G 89), some (.long (lN (dwX s k))), none, some (.int (nI (k))), none] [] (yc G h 89 (dwY y s k)) := by
  intro m
  induction m with
  | zero =>
    intro k hk
    obtain rfl : k = n := by omega
    refine y_iload C D_X3_yearsByDraws_14 rfl ?_
    refine y_iload_n C D_X3_yearsByDraws_16 rfl ?_
    refine y_icmp_ge C D_X3_yearsByDraws_17 (n_le (by omega) (by omega)) (fun c_17 => ?_) (fun c_17 => absurd (Nat.le_refl _) c_17)
    refine y_aload C D_X3_yearsByDraws_119 rfl ?_
    exact y_aret C E D_X3_yearsByDraws_121 (rfl) (rfl)
  | succ m ih =>
    intro k hk
    have e4 := dwY_4 y s k
    have hz := hV.dwY s k
    have hx0 := dwX_lt hs2 k
    have hx := dwX_lt hs2 (k + 1)
    have ex : dwX s k * 16807 % 2147483647 = dwX s (k + 1) := rfl
    obtain ⟨x, hxe⟩ : ∃ x, x = dwX s (k + 1) := ⟨_, rfl⟩
    rw [← hxe] at hx ex
    obtain ⟨t, hte⟩ : ∃ t, t = dwY y s k := ⟨_, rfl⟩
    rw [← hte] at e4 hz ⊢
    have v3 := hz.2.2.2.1
    have hp3 : x % t 3 < t 3 := Nat.mod_lt _ (by omega)
    have hps : x % t 3 < 5 := by omega
    have hs := hz.sup
    have hz1 := hz.sup1 hp3
    have o1 := (or_bit _ (sb_lt hs) _ hps).1
    have h5 : x % 5 < 5 := Nat.mod_lt _ (by decide)
    have t3 : va_up t (11 + x % t 3) 1 3 = t 3 := up_ne _ _ (by omega)
    have o2 := (or_bit _ (sb_lt hz1.fev) _ h5).1
    have K : ∀ u, u = dwP t x → Y X G 9 0 0 108 [some (qr G 85), some (qr G 7), some (.int (nI (n))), some (.int (nI (s))), some (qr G 89), some (.long (lN (x))), none, some (.int (nI (k))), some (.int (nI (x % 5)))] [] (yc G h 89 u) := by
      intro u hu
      have hVu : Va u := hu ▸ hz.dwP x
      have hu4 : u 4 = t 4 := by rw [hu]; exact dwP_4 t x
      refine y_aload C D_X3_yearsByDraws_108 rfl ?_
      refine z_callVv C D_X3_yearsByDraws_110 lk_X3_33 (c_X5_pass h89 hVu (by omega)) (yc_o h89) rfl rfl (Nat.le_of_ble_eq_true rfl) (Nat.le_of_ble_eq_true rfl) ⟨Nat.zero_le _, Nat.zero_le _⟩ ?_
      refine z_iinc (n := 1) C D_X3_yearsByDraws_113 rfl (by decide) (qok_n rfl) ?_
      refine y_goto C D_X3_yearsByDraws_116 ?_
      refine y_fg 8 ?_
      have q := ih (k + 1) (by omega)
      rw [show dwY y s (k + 1) = yr (dwP (dwY y s k) (dwX s (k + 1))) from rfl, ← hte, ← hxe, ← hu] at q
      exact q
    refine y_iload C D_X3_yearsByDraws_14 rfl ?_
    refine y_iload_n C D_X3_yearsByDraws_16 rfl ?_
    refine y_icmp_ge C D_X3_yearsByDraws_17 (n_le (by omega) (by omega)) (fun c_17 => absurd c_17 (by omega)) (fun c_17 => ?_)
    refine y_aload C D_X3_yearsByDraws_20 rfl ?_
    refine y_get C D_X3_yearsByDraws_22 fl_X3_44 (yc_o h89) rfl ?_
    refine y_if_le C D_X3_yearsByDraws_25 (n_le0 (by omega)) (fun c_25 => absurd c_25 (by omega)) (fun c_25 => ?_)
    refine y_lload C D_X3_yearsByDraws_28 rfl ?_
    refine y_ldc2 C D_X3_yearsByDraws_30 lk_X3_124 ?_
    refine y_topl (show (16807 : Int64) = lN 16807 from rfl) ?_
    refine z_lmul C D_X3_yearsByDraws_33 ?_
    refine y_ldc2 C D_X3_yearsByDraws_34 lk_X3_126 ?_
    refine y_topl (show (2147483647 : Int64) = lN 2147483647 from rfl) ?_
    refine z_lrem C D_X3_yearsByDraws_37 (by omega) (by omega) (by omega) ?_
    rw [ex]
    refine y_lstore C D_X3_yearsByDraws_38 (by decide) (qok_s rfl rfl) ?_
    refine y_aload C D_X3_yearsByDraws_40 rfl ?_
    refine y_dup C D_X3_yearsByDraws_42 rfl ?_
    refine y_get C D_X3_yearsByDraws_43 fl_X3_51 (yc_o h89) rfl ?_
    refine y_lload C D_X3_yearsByDraws_46 rfl ?_
    refine y_aload C D_X3_yearsByDraws_48 rfl ?_
    refine y_get C D_X3_yearsByDraws_50 fl_X3_44 (yc_o h89) rfl ?_
    refine z_i2l C D_X3_yearsByDraws_53 (by omega) ?_
    refine z_lrem C D_X3_yearsByDraws_54 (by omega) (by omega) (by omega) ?_
    refine z_l2i C D_X3_yearsByDraws_55 ?_
    refine z_callSN C D_X3_yearsByDraws_56 lk_X3_47 (c_X6_bit (by omega)) rfl rfl (Nat.le_of_ble_eq_true rfl) (Nat.le_of_ble_eq_true rfl) ⟨Nat.zero_le _, Nat.zero_le _⟩ ?_
    refine z_ior C D_X3_yearsByDraws_59 ?_
    refine y_put C D_X3_yearsByDraws_60 fl_X3_51 (yc_o h89) (Nat.le_of_ble_eq_true rfl) rfl rfl (yc_psuppers o1) ?_
    rw [yc_c (z := va_up t (11 + x % t 3) 1) (fun k _ => or_sS (k := k) hs hps)]
    refine y_lload C D_X3_yearsByDraws_63 rfl ?_
    refine y_ldc2 C D_X3_yearsByDraws_65 lk_X3_128 ?_
    refine y_topl (show (5 : Int64) = lN 5 from rfl) ?_
    refine z_lrem C D_X3_yearsByDraws_68 (by omega) (by omega) (by omega) ?_
    refine z_l2i C D_X3_yearsByDraws_69 ?_
    refine y_istore C D_X3_yearsByDraws_70 (by decide) (qok_s rfl rfl) ?_
    refine y_lload C D_X3_yearsByDraws_72 rfl ?_
    refine y_ldc2 C D_X3_yearsByDraws_74 lk_X3_130 ?_
    refine y_topl (show (3 : Int64) = lN 3 from rfl) ?_
    refine z_lrem C D_X3_yearsByDraws_77 (by omega) (by omega) (by omega) ?_
    refine y_lconst (v := lN 0) C D_X3_yearsByDraws_78 rfl ?_
    refine y_lcmp C D_X3_yearsByDraws_79 ?_
    refine y_if_ne C D_X3_yearsByDraws_80 (z_lceq (by omega) (by omega)) (fun c_80 => ?_) (fun c_80 => ?_)
    · exact K _ (by rw [dwP, if_neg (fun q => c_80 q.1)])
    · refine y_iload C D_X3_yearsByDraws_83 rfl ?_
      refine y_aload C D_X3_yearsByDraws_85 rfl ?_
      refine y_get C D_X3_yearsByDraws_87 fl_X3_44 (yc_o h89) rfl ?_
      rw [t3]
      refine y_icmp_ge C D_X3_yearsByDraws_90 (n_le (by omega) (by omega)) (fun c_90 => ?_) (fun c_90 => ?_)
      · exact K _ (by rw [dwP, if_neg (fun q => by omega)])
      · refine y_aload C D_X3_yearsByDraws_93 rfl ?_
        refine y_dup C D_X3_yearsByDraws_95 rfl ?_
        refine y_get C D_X3_yearsByDraws_96 fl_X3_132 (yc_o h89) rfl ?_
        refine y_iload C D_X3_yearsByDraws_99 rfl ?_
        refine z_callSN C D_X3_yearsByDraws_101 lk_X3_47 (c_X6_bit (by omega)) rfl rfl (Nat.le_of_ble_eq_true rfl) (Nat.le_of_ble_eq_true rfl) ⟨Nat.zero_le _, Nat.zero_le _⟩ ?_
        refine z_ior C D_X3_yearsByDraws_104 ?_
        refine y_put C D_X3_yearsByDraws_105 fl_X3_132 (yc_o h89) (Nat.le_of_ble_eq_true rfl) rfl rfl (yc_pfevers o2) ?_
        rw [yc_c (z := va_up (va_up t (11 + x % t 3) 1) (16 + x % 5) 1) (fun k _ => or_sS (k := k) hz1.fev h5)]
        exact K _ (by rw [dwP, if_pos ⟨c_80, by omega⟩])
theorem c_X3_yearsByDraws (hP : h[85]? = some (scl G fw)) (hQ : h[88]? = some (qY G 3 (sfY G))) (hs0 : Yat G h 89 w) (hy : Yat G h 7 y) (hV : Va y) (h4 : y 4 ≤ 999) {n s : Nat} (hn : n ≤ 40) (hs2 : s ≤ 999999) : Ct l G yX3_yearsByDraws 5 [qr G 85, qr G 7, .int (nI n), .int (nI s)] (h) (some (qr G 89)) (yc G h 89 (dwY y s n)) := by
  refine ctm_intro (maxL := 9) kw_X3_yearsByDraws (by decide) (by decide) [some (qr G 85), some (qr G 7), some (.int (nI n)), some (.int (nI s)), none, none, none, none, none] rfl (Nat.le_of_ble_eq_true rfl) ?_
  intro X _ hcl hsl _ _ C E
  refine y_aload_n C D_X3_yearsByDraws_0 rfl ?_
  refine y_aload_n C D_X3_yearsByDraws_1 rfl ?_
  refine z_callV C D_X3_yearsByDraws_2 lk_X3_29 (c_X3_copyOf hP hQ hs0 hy hV) hP rfl rfl (Nat.le_of_ble_eq_true rfl) (Nat.le_of_ble_eq_true rfl) ⟨Nat.zero_le _, Nat.zero_le _⟩ ?_
  refine y_astore C D_X3_yearsByDraws_5 (by decide) (qok_s rfl rfl) ?_
  refine y_iload_n C D_X3_yearsByDraws_7 rfl ?_
  refine z_i2l C D_X3_yearsByDraws_8 (by omega) ?_
  refine y_lstore C D_X3_yearsByDraws_9 (by decide) (qok_s rfl rfl) ?_
  refine y_iconst C D_X3_yearsByDraws_11 ki_0 ?_
  refine y_istore C D_X3_yearsByDraws_12 (by decide) (qok_n rfl) ?_
  exact lp_X3_draws hs0.lt hV h4 hn (by omega) C E n 0 (by omega)
end
