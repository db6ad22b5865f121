section
variable {l : Launch} {G : qG} {h : List va_E} {n lf s e v x : Nat} {tok : Int32} {b y : Nat → Nat}
theorem lp_X4_readSleepers (ha : 6 < h.length) (hn : n ≤ 120) (hb : ∀ k, b k < 256) : ∀ (m p v x f : Nat) (q : PS) (yd : Nat → Nat), p + m = 5 → 6 ≤ f + p → q.1 = true → q.2.1 ≤ n → (tkK b n q.2.1 = 2 → v = tkV b n q.2.1) → q.2.2.1 3 = p → 1 ≤ q.2.2.1 0 → q.2.2.1 0 ≤ 6 → (∀ k, k < 51 → yd k = dY q.2.2.1 k) → ∃ lf2 s2 v2 x2 y2, Rz b n lf (psY b n f q) lf2 s2 v2 y2 ∧ ∀ X : qX, X.2.1 = l → qC X G cX4_readSleepers 2 RX4 5 → qE X G (some .boolean) 0 0 (some (.int (bI ((psY b n f q).1 = true)))) (tz G (yc G h 3 (y2)) b n (lf2) (s2) (v2) (x2)) → Y X G 2 0 0 2 [some (qr G 2), some (.int (nI (p)))] [] (tz G (yc G h 3 (yd)) b n (lf) (q.2.1) (v) (x)) := by
  have ha' : ∀ z, 6 < (yc G h 3 z).length := fun z => by rw [yc_len]; exact ha
  intro m
  induction m with
  | zero =>
    intro p v x f q yd hm hf hq hs1 hv h3 h01 h06 hy
    obtain rfl : p = 5 := by omega
    obtain ⟨f, rfl⟩ : ∃ k, f = k + 1 := ⟨f - 1, by omega⟩
    have hkl := kdT_lt b n q.2.1
    by_cases a : tkK b n q.2.1 = 3
    · have e : psY b n (f + 1) q = q := by rw [psY, if_neg (fun z => z.2.elim (fun y => y a) (fun y => by omega))]
      rw [e]
      refine ⟨lf, q.2.1, v, x, yd, ⟨rfl, fun _ => ⟨rfl, hv, hy⟩, fun z => absurd hq z⟩, ?_⟩
      intro X hX C E
      subst hX
      rw [bI_1 hq] at E
      refine y_iload_n C D_X4_readSleepers_2 rfl ?_
      refine y_iconst C D_X4_readSleepers_3 ki_5 ?_
      refine y_icmp_ge C D_X4_readSleepers_4 (n_le (by omega) (by omega)) (fun c_4 => ?_) (fun c_4 => absurd (Nat.le_refl _) c_4)
      refine y_aload_n C D_X4_readSleepers_37 rfl ?_
      refine y_get C D_X4_readSleepers_38 fl_X4_72 (xc_o (ha' _)) rfl ?_
      refine y_iconst C D_X4_readSleepers_41 ki_m1 ?_
      refine y_icmp_eq C D_X4_readSleepers_42 (ctk_3 hb) (fun c_42 => ?_) (fun c_42 => absurd a c_42)
      refine y_iconst C D_X4_readSleepers_67 ki_1 ?_
      refine y_goto C D_X4_readSleepers_68 ?_
      exact y_zret C E D_X4_readSleepers_72 nar_1 (rfl) (rfl)
    · by_cases k : kdT b n q.2.1 = 0
      · have e : psY b n (f + 1) q = (false, q.2.1, q.2.2.1, 1) := by rw [psY, if_pos ⟨hq, Or.inl a⟩, k, if_neg (by decide), psY_n (by exact fun z => absurd (show false = true from z) (by decide))]
        rw [e]
        refine ⟨1, q.2.1, v, x, yd, ⟨rfl, fun z => absurd (show false = true from z) (by decide), fun _ => rfl⟩, ?_⟩
        intro X hX C E
        subst hX
        refine y_iload_n C D_X4_readSleepers_2 rfl ?_
        refine y_iconst C D_X4_readSleepers_3 ki_5 ?_
        refine y_icmp_ge C D_X4_readSleepers_4 (n_le (by omega) (by omega)) (fun c_4 => ?_) (fun c_4 => absurd (Nat.le_refl _) c_4)
        refine y_aload_n C D_X4_readSleepers_37 rfl ?_
        refine y_get C D_X4_readSleepers_38 fl_X4_72 (xc_o (ha' _)) rfl ?_
        refine y_iconst C D_X4_readSleepers_41 ki_m1 ?_
        refine y_icmp_eq C D_X4_readSleepers_42 (ctk_3 hb) (fun c_42 => absurd c_42 a) (fun c_42 => ?_)
        refine y_aload_n C D_X4_readSleepers_45 rfl ?_
        refine y_aload_n C D_X4_readSleepers_46 rfl ?_
        refine y_get C D_X4_readSleepers_47 fl_X4_72 (xc_o (ha' _)) rfl ?_
        refine z_callS C D_X4_readSleepers_50 lk_X4_78 (c_X4_kindTold hb) rfl rfl (Nat.le_of_ble_eq_true rfl) (Nat.le_of_ble_eq_true rfl) ⟨Nat.zero_le _, Nat.zero_le _⟩ ?_
        refine y_if_ne C D_X4_readSleepers_53 (n_eq0 (by omega)) (fun c_53 => absurd k c_53) (fun c_53 => ?_)
        refine y_iconst C D_X4_readSleepers_56 ki_1 ?_
        refine y_goto C D_X4_readSleepers_57 ?_
        refine z_callV C D_X4_readSleepers_61 lk_X4_81 (c_X4_fail (ha' _)) (xc_o (ha' _)) rfl rfl (Nat.le_of_ble_eq_true rfl) (Nat.le_of_ble_eq_true rfl) ⟨Nat.zero_le _, Nat.zero_le _⟩ ?_
        refine z_ifeq0 C D_X4_readSleepers_64 ?_
        refine y_iconst C D_X4_readSleepers_71 ki_0 ?_
        exact y_zret C E D_X4_readSleepers_72 nar_0 (rfl) (rfl)
      · have e : psY b n (f + 1) q = (false, q.2.1, q.2.2.1, 3) := by rw [psY, if_pos ⟨hq, Or.inl a⟩, if_pos (by omega), psS, if_pos h3, psY_n (by exact fun z => absurd (show false = true from z) (by decide))]
        rw [e]
        refine ⟨3, q.2.1, v, x, yd, ⟨rfl, fun z => absurd (show false = true from z) (by decide), fun _ => rfl⟩, ?_⟩
        intro X hX C E
        subst hX
        refine y_iload_n C D_X4_readSleepers_2 rfl ?_
        refine y_iconst C D_X4_readSleepers_3 ki_5 ?_
        refine y_icmp_ge C D_X4_readSleepers_4 (n_le (by omega) (by omega)) (fun c_4 => ?_) (fun c_4 => absurd (Nat.le_refl _) c_4)
        refine y_aload_n C D_X4_readSleepers_37 rfl ?_
        refine y_get C D_X4_readSleepers_38 fl_X4_72 (xc_o (ha' _)) rfl ?_
        refine y_iconst C D_X4_readSleepers_41 ki_m1 ?_
        refine y_icmp_eq C D_X4_readSleepers_42 (ctk_3 hb) (fun c_42 => absurd c_42 a) (fun c_42 => ?_)
        refine y_aload_n C D_X4_readSleepers_45 rfl ?_
        refine y_aload_n C D_X4_readSleepers_46 rfl ?_
        refine y_get C D_X4_readSleepers_47 fl_X4_72 (xc_o (ha' _)) rfl ?_
        refine z_callS C D_X4_readSleepers_50 lk_X4_78 (c_X4_kindTold hb) rfl rfl (Nat.le_of_ble_eq_true rfl) (Nat.le_of_ble_eq_true rfl) ⟨Nat.zero_le _, Nat.zero_le _⟩ ?_
        refine y_if_ne C D_X4_readSleepers_53 (n_eq0 (by omega)) (fun c_53 => ?_) (fun c_53 => absurd c_53 k)
        refine y_iconst C D_X4_readSleepers_60 ki_3 ?_
        refine z_callV C D_X4_readSleepers_61 lk_X4_81 (c_X4_fail (ha' _)) (xc_o (ha' _)) rfl rfl (Nat.le_of_ble_eq_true rfl) (Nat.le_of_ble_eq_true rfl) ⟨Nat.zero_le _, Nat.zero_le _⟩ ?_
        refine z_ifeq0 C D_X4_readSleepers_64 ?_
        refine y_iconst C D_X4_readSleepers_71 ki_0 ?_
        exact y_zret C E D_X4_readSleepers_72 nar_0 (rfl) (rfl)
  | succ m ih =>
    intro p v x f q yd hm hf hq hs1 hv h3 h01 h06 hy
    obtain ⟨f, rfl⟩ : ∃ k, f = k + 1 := ⟨f - 1, by omega⟩
    have hkl := kdT_lt b n q.2.1
    have eq : q = (true, q.2.1, q.2.2.1, q.2.2.2) := by rw [← hq]
    by_cases a : 0 < p ∧ tkK b n q.2.1 = 3
    · have e : psY b n (f + 1) q = q := by rw [psY, if_neg (fun z => z.2.elim (fun y => y a.2) (fun y => by omega))]
      rw [e]
      refine ⟨lf, q.2.1, v, x, yd, ⟨rfl, fun _ => ⟨rfl, hv, hy⟩, fun z => absurd hq z⟩, ?_⟩
      intro X hX C E
      subst hX
      rw [bI_1 hq] at E
      refine y_iload_n C D_X4_readSleepers_2 rfl ?_
      refine y_iconst C D_X4_readSleepers_3 ki_5 ?_
      refine y_icmp_ge C D_X4_readSleepers_4 (n_le (by omega) (by omega)) (fun c_4 => absurd c_4 (by omega)) (fun c_4 => ?_)
      refine y_iload_n C D_X4_readSleepers_7 rfl ?_
      refine y_if_le C D_X4_readSleepers_8 (n_le0 (by omega)) (fun c_8 => absurd c_8 (by omega)) (fun c_8 => ?_)
      refine y_aload_n C D_X4_readSleepers_11 rfl ?_
      refine y_get C D_X4_readSleepers_12 fl_X4_72 (xc_o (ha' _)) rfl ?_
      refine y_iconst C D_X4_readSleepers_15 ki_m1 ?_
      refine y_icmp_ne C D_X4_readSleepers_16 (ctk_3 hb) (fun c_16 => absurd a.2 c_16) (fun c_16 => ?_)
      refine y_iconst C D_X4_readSleepers_19 ki_1 ?_
      exact y_zret C E D_X4_readSleepers_20 nar_1 (rfl) (rfl)
    · have hc : tkK b n q.2.1 ≠ 3 ∨ q.2.2.1 3 = 0 := by
        by_cases z : tkK b n q.2.1 = 3
        · exact Or.inr (by omega)
        · exact Or.inl z
      have K21 : ∃ lf2 s2 v2 x2 y2, Rz b n lf (psY b n (f + 1) q) lf2 s2 v2 y2 ∧ ∀ X : qX, X.2.1 = l → qC X G cX4_readSleepers 2 RX4 5 → qE X G (some .boolean) 0 0 (some (.int (bI ((psY b n (f + 1) q).1 = true)))) (tz G (yc G h 3 (y2)) b n (lf2) (s2) (v2) (x2)) → Y X G 2 0 0 21 [some (qr G 2), some (.int (nI (p)))] [] (tz G (yc G h 3 (yd)) b n (lf) (q.2.1) (v) (x)) := by
        by_cases k : kdT b n q.2.1 = 0
        · have e : psY b n (f + 1) q = (false, q.2.1, q.2.2.1, 1) := by rw [psY, if_pos ⟨hq, hc⟩, k, if_neg (by decide), psY_n (by exact fun z => absurd (show false = true from z) (by decide))]
          rw [e]
          refine ⟨1, q.2.1, v, x, yd, ⟨rfl, fun z => absurd (show false = true from z) (by decide), fun _ => rfl⟩, ?_⟩
          intro X hX C E
          subst hX
          refine y_aload_n C D_X4_readSleepers_21 rfl ?_
          refine y_iload_n C D_X4_readSleepers_22 rfl ?_
          refine z_callV C D_X4_readSleepers_23 lk_X4_75 (c_X4_readSleeper0 ha hn hb k) (xc_o (ha' _)) rfl rfl (Nat.le_of_ble_eq_true rfl) (Nat.le_of_ble_eq_true rfl) ⟨Nat.zero_le _, Nat.zero_le _⟩ ?_
          refine z_ifne0 C D_X4_readSleepers_26 ?_
          refine y_iconst C D_X4_readSleepers_29 ki_0 ?_
          exact y_zret C E D_X4_readSleepers_30 nar_0 (rfl) (rfl)
        · have e : psY b n (f + 1) q = psY b n f (psS b n (kdT b n q.2.1) (true, q.2.1, q.2.2.1, q.2.2.2)) := by
            rw [psY, if_pos ⟨hq, hc⟩, if_pos (by omega)]
            rfl
          obtain ⟨lf2, s2, v2, x2, y2, hR, hC⟩ := c_X4_readSleeper (l := l) (G := G) (h := h) (lf := lf) (v := v) (x := x) (w := q.2.2.2) ha hn hb hs1 (by omega : p < 5) h3 h01 h06 hy k
          obtain ⟨q', hq'⟩ : ∃ z, psS b n (kdT b n q.2.1) (true, q.2.1, q.2.2.1, q.2.2.2) = z := ⟨_, rfl⟩
          rw [e]
          have p1 := psS_le (t := b) (n := n) (k := kdT b n q.2.1) (q := (true, q.2.1, q.2.2.1, q.2.2.2)) hs1
          have p2 := psS_0 (t := b) (n := n) (k := kdT b n q.2.1) (q := (true, q.2.1, q.2.2.1, q.2.2.2))
          have p3 := psS_3 (t := b) (n := n) (k := kdT b n q.2.1) (q := (true, q.2.1, q.2.2.1, q.2.2.2)) (show q.2.2.1 3 ≤ 5 by omega)
          rw [hq'] at hR hC p1 p2 p3 ⊢
          by_cases g : q'.1 = true
          · obtain ⟨hs2, hR1, hR2⟩ := hR
            obtain ⟨r1, r2, r3⟩ := hR1 g
            subst hs2
            subst r1
            rw [bI_1 g] at hC
            obtain ⟨lf3, s3, v3, x3, y3, hR3, hY⟩ := ih (p + 1) v2 x2 f q' y2 (by omega) (by omega) g p1 r2 ((p3.2 g).trans (by show q.2.2.1 3 + 1 = p + 1; omega)) (by rw [p2]; exact h01) (by rw [p2]; exact h06) r3
            refine ⟨lf3, s3, v3, x3, y3, hR3, fun X hX C E => ?_⟩
            have hY2 := hY X hX C E
            subst hX
            refine y_aload_n C D_X4_readSleepers_21 rfl ?_
            refine y_iload_n C D_X4_readSleepers_22 rfl ?_
            refine z_callV C D_X4_readSleepers_23 lk_X4_75 (hC) (xc_o (ha' _)) rfl rfl (Nat.le_of_ble_eq_true rfl) (Nat.le_of_ble_eq_true rfl) ⟨Nat.zero_le _, Nat.zero_le _⟩ ?_
            refine z_ifne1 C D_X4_readSleepers_26 ?_
            refine z_iinc (n := 1) C D_X4_readSleepers_31 rfl (by decide) (qok_s rfl rfl) ?_
            refine y_goto C D_X4_readSleepers_34 ?_
            exact hY2
          · obtain ⟨hs2, hR1, hR2⟩ := hR
            rw [psY_n g]
            rw [bI_0 g] at hC
            refine ⟨lf2, s2, v2, x2, y2, ⟨hs2, fun z => absurd z g, hR2⟩, fun X hX C E => ?_⟩
            rw [bI_0 g] at E
            subst hX
            refine y_aload_n C D_X4_readSleepers_21 rfl ?_
            refine y_iload_n C D_X4_readSleepers_22 rfl ?_
            refine z_callV C D_X4_readSleepers_23 lk_X4_75 (hC) (xc_o (ha' _)) rfl rfl (Nat.le_of_ble_eq_true rfl) (Nat.le_of_ble_eq_true rfl) ⟨Nat.zero_le _, Nat.zero_le _⟩ ?_
            refine z_ifne0 C D_X4_readSleepers_26 ?_
            refine y_iconst C D_X4_readSleepers_29 ki_0 ?_
            exact y_zret C E D_X4_readSleepers_30 nar_0 (rfl) (rfl)
      obtain ⟨lf2, s2, v2, x2, y2, hR, hY⟩ := K21
      refine ⟨lf2, s2, v2, x2, y2, hR, fun X hX C E => ?_⟩
      have hY2 := hY X hX C E
      subst hX
      refine y_iload_n C D_X4_readSleepers_2 rfl ?_
      refine y_iconst C D_X4_readSleepers_3 ki_5 ?_
      refine y_icmp_ge C D_X4_readSleepers_4 (n_le (by omega) (by omega)) (fun c_4 => absurd c_4 (by omega)) (fun c_4 => ?_)
      refine y_iload_n C D_X4_readSleepers_7 rfl ?_
      refine y_if_le C D_X4_readSleepers_8 (n_le0 (by omega)) (fun c_8 => ?_) (fun c_8 => ?_)
      · exact hY2
      · refine y_aload_n C D_X4_readSleepers_11 rfl ?_
        refine y_get C D_X4_readSleepers_12 fl_X4_72 (xc_o (ha' _)) rfl ?_
        refine y_iconst C D_X4_readSleepers_15 ki_m1 ?_
        refine y_icmp_ne C D_X4_readSleepers_16 (ctk_3 hb) (fun c_16 => ?_) (fun c_16 => absurd ⟨by omega, c_16⟩ a)
        exact hY2
theorem c_X4_readSleepers (ha : 6 < h.length) (hn : n ≤ 120) (hb : ∀ k, b k < 256) {q : PS} (hq : q.1 = true) (hs1 : q.2.1 ≤ n) (hv : tkK b n q.2.1 = 2 → v = tkV b n q.2.1) (h3 : q.2.2.1 3 = 0) (h01 : 1 ≤ q.2.2.1 0) (h06 : q.2.2.1 0 ≤ 6) (hy : ∀ k, k < 51 → y k = dY q.2.2.1 k) : ∃ lf2 s2 v2 x2 y2, Rz b n lf (psY b n 8 q) lf2 s2 v2 y2 ∧ Ct l G yX4_readSleepers 5 [qr G 2] (tz G (yc G h 3 (y)) b n (lf) (q.2.1) (v) (x)) (some (.int (bI ((psY b n 8 q).1 = true)))) (tz G (yc G h 3 (y2)) b n (lf2) (s2) (v2) (x2)) := by
  obtain ⟨lf2, s2, v2, x2, y2, hR, hY⟩ := lp_X4_readSleepers (l := l) (G := G) (h := h) (lf := lf) ha hn hb 5 0 v x 8 q y rfl (by decide) hq hs1 hv h3 h01 h06 hy
  refine ⟨lf2, s2, v2, x2, y2, hR, ?_⟩
  refine ctm_intro (maxL := 2) kw_X4_readSleepers (by decide) (by decide) [some (qr G 2), none] rfl (Nat.le_of_ble_eq_true rfl) ?_
  intro X hX hcl hsl _ _ C E
  have hY2 := hY X hX C E
  subst hX
  refine y_iconst C D_X4_readSleepers_0 ki_0 ?_
  refine y_istore_n C D_X4_readSleepers_1 (by decide) (qok_s rfl rfl) ?_
  exact hY2
theorem c_X4_read (ha : 6 < h.length) (hn : n ≤ 120) (hb : ∀ k, b k < 256) {w : Nat} {r0 : Nat → Nat} (hr : ∀ k, k < 51 → r0 k = 0) : ∃ lf2 e2 v2 x2 tok2 y2, ((ps b n w r0).1 = true → lf2 = lf ∧ ∀ k, k < 51 → y2 k = dY (ps b n w r0).2.2.1 k) ∧ (¬ (ps b n w r0).1 = true → lf2 = (ps b n w r0).2.2.2) ∧ Ct l G yX4_read 6 [qr G 2] (xc G (yc G h 3 y) n lf s e v x tok b) (some (.int (if (ps b n w r0).1 = true then -1 else nI (ps b n w r0).2.1))) (xc G (yc G h 3 y2) 0 lf2 (ps b n w r0).2.1 e2 v2 x2 tok2 b) := by
  have ha' : ∀ z, 6 < (yc G h 3 z).length := fun z => by rw [yc_len]; exact ha
  obtain ⟨lf2, s2, v2, x2, y2, ⟨hs2, hR1, hR2⟩, hI, hC⟩ := c_X4_readLaw (l := l) (G := G) (h := h) (lf := lf) (v := cvV b n 0 v) (x := x) (y := fun _ => 0) (w := w) (r0 := r0) ha hn hb (fun z => cvV_ok z) (fun k hk => (hr k hk).symm)
  subst hs2
  by_cases g : (psG b n w r0).1 = true
  · obtain ⟨r1, r2, r3⟩ := hR1 g
    subst r1
    obtain ⟨i1, i2, i3, i4, i5⟩ := hI g
    rw [bI_1 g] at hC
    obtain ⟨lf3, s3, v3, x3, y3, ⟨hs3, hS1, hS2⟩, hD⟩ := c_X4_readSleepers (l := l) (G := G) (h := h) (lf := lf2) (x := x2) ha hn hb g i5 r2 (i3.trans (hr 3 (by decide))) i1 i2 r3
    subst hs3
    have hps : ps b n w r0 = psY b n 8 (psG b n w r0) := rfl
    rw [hps]
    refine ⟨lf3, tkN b n (psY b n 8 (psG b n w r0)).2.1, v3, x3, ctk b n (psY b n 8 (psG b n w r0)).2.1, y3, fun z => ⟨(hS1 z).1, (hS1 z).2.2⟩, hS2, ?_⟩
    by_cases g2 : (psY b n 8 (psG b n w r0)).1 = true
    · rw [bI_1 g2] at hD
      rw [if_pos g2]
      refine ctm_intro (maxL := 2) kw_X4_read (by decide) (by decide) [some (qr G 2), none] rfl (Nat.le_of_ble_eq_true rfl) ?_
      intro X hX hcl hsl _ _ C E
      subst hX
      refine y_aload_n C D_X4_read_0 rfl ?_
      refine y_get C D_X4_read_1 fl_X4_12 (xc_o (ha' _)) rfl ?_
      refine z_callVv C D_X4_read_4 lk_X4_26 (c_X4_clr ha) (xy_o ha) rfl rfl (Nat.le_of_ble_eq_true rfl) (Nat.le_of_ble_eq_true rfl) ⟨Nat.zero_le _, Nat.zero_le _⟩ ?_
      refine y_aload_n C D_X4_read_7 rfl ?_
      refine y_iconst C D_X4_read_8 ki_0 ?_
      refine y_put C D_X4_read_9 fl_X4_29 (xc_o (ha' _)) (Nat.le_of_ble_eq_true rfl) rfl rfl (xc_pbehind _) ?_
      refine y_aload_n C D_X4_read_12 rfl ?_
      refine z_callVv C D_X4_read_13 lk_X4_32 (c_X4_nextToken (ha' _) hn (Nat.zero_le _) hb) (xc_o (ha' _)) rfl rfl (Nat.le_of_ble_eq_true rfl) (Nat.le_of_ble_eq_true rfl) ⟨Nat.zero_le _, Nat.zero_le _⟩ ?_
      refine y_aload_n C D_X4_read_16 rfl ?_
      refine z_callV C D_X4_read_17 lk_X4_35 (hC) (xc_o (ha' _)) rfl rfl (Nat.le_of_ble_eq_true rfl) (Nat.le_of_ble_eq_true rfl) ⟨Nat.zero_le _, Nat.zero_le _⟩ ?_
      refine z_ifeq1 C D_X4_read_20 ?_
      refine y_aload_n C D_X4_read_23 rfl ?_
      refine z_callV C D_X4_read_24 lk_X4_39 (hD) (xc_o (ha' _)) rfl rfl (Nat.le_of_ble_eq_true rfl) (Nat.le_of_ble_eq_true rfl) ⟨Nat.zero_le _, Nat.zero_le _⟩ ?_
      refine z_ifeq1 C D_X4_read_27 ?_
      refine y_iconst C D_X4_read_30 ki_1 ?_
      refine y_goto C D_X4_read_31 ?_
      refine y_istore_n C D_X4_read_35 (by decide) (qok_s rfl rfl) ?_
      refine y_aload_n C D_X4_read_36 rfl ?_
      refine y_iconst C D_X4_read_37 ki_0 ?_
      refine y_put C D_X4_read_38 fl_X4_22 (xc_o (ha' _)) (Nat.le_of_ble_eq_true rfl) rfl rfl (xc_psize _) ?_
      refine y_iload_n C D_X4_read_41 rfl ?_
      refine z_ifeq1 C D_X4_read_42 ?_
      refine y_iconst C D_X4_read_45 ki_m1 ?_
      refine y_goto C D_X4_read_46 ?_
      exact y_iret C E D_X4_read_53 (rfl) (rfl)
    · rw [bI_0 g2] at hD
      rw [if_neg g2]
      refine ctm_intro (maxL := 2) kw_X4_read (by decide) (by decide) [some (qr G 2), none] rfl (Nat.le_of_ble_eq_true rfl) ?_
      intro X hX hcl hsl _ _ C E
      subst hX
      refine y_aload_n C D_X4_read_0 rfl ?_
      refine y_get C D_X4_read_1 fl_X4_12 (xc_o (ha' _)) rfl ?_
      refine z_callVv C D_X4_read_4 lk_X4_26 (c_X4_clr ha) (xy_o ha) rfl rfl (Nat.le_of_ble_eq_true rfl) (Nat.le_of_ble_eq_true rfl) ⟨Nat.zero_le _, Nat.zero_le _⟩ ?_
      refine y_aload_n C D_X4_read_7 rfl ?_
      refine y_iconst C D_X4_read_8 ki_0 ?_
      refine y_put C D_X4_read_9 fl_X4_29 (xc_o (ha' _)) (Nat.le_of_ble_eq_true rfl) rfl rfl (xc_pbehind _) ?_
      refine y_aload_n C D_X4_read_12 rfl ?_
      refine z_callVv C D_X4_read_13 lk_X4_32 (c_X4_nextToken (ha' _) hn (Nat.zero_le _) hb) (xc_o (ha' _)) rfl rfl (Nat.le_of_ble_eq_true rfl) (Nat.le_of_ble_eq_true rfl) ⟨Nat.zero_le _, Nat.zero_le _⟩ ?_
      refine y_aload_n C D_X4_read_16 rfl ?_
      refine z_callV C D_X4_read_17 lk_X4_35 (hC) (xc_o (ha' _)) rfl rfl (Nat.le_of_ble_eq_true rfl) (Nat.le_of_ble_eq_true rfl) ⟨Nat.zero_le _, Nat.zero_le _⟩ ?_
      refine z_ifeq1 C D_X4_read_20 ?_
      refine y_aload_n C D_X4_read_23 rfl ?_
      refine z_callV C D_X4_read_24 lk_X4_39 (hD) (xc_o (ha' _)) rfl rfl (Nat.le_of_ble_eq_true rfl) (Nat.le_of_ble_eq_true rfl) ⟨Nat.zero_le _, Nat.zero_le _⟩ ?_
      refine z_ifeq0 C D_X4_read_27 ?_
      refine y_iconst C D_X4_read_34 ki_0 ?_
      refine y_istore_n C D_X4_read_35 (by decide) (qok_s rfl rfl) ?_
      refine y_aload_n C D_X4_read_36 rfl ?_
      refine y_iconst C D_X4_read_37 ki_0 ?_
      refine y_put C D_X4_read_38 fl_X4_22 (xc_o (ha' _)) (Nat.le_of_ble_eq_true rfl) rfl rfl (xc_psize _) ?_
      refine y_iload_n C D_X4_read_41 rfl ?_
      refine z_ifeq0 C D_X4_read_42 ?_
      refine y_aload_n C D_X4_read_49 rfl ?_
      refine y_get C D_X4_read_50 fl_X4_42 (xc_o (ha' _)) rfl ?_
      exact y_iret C E D_X4_read_53 (rfl) (rfl)
  · have hps : ps b n w r0 = psG b n w r0 := psY_n g 8
    rw [bI_0 g] at hC
    rw [hps, if_neg g]
    refine ⟨lf2, tkN b n (psG b n w r0).2.1, v2, x2, ctk b n (psG b n w r0).2.1, y2, fun z => absurd z g, hR2, ?_⟩
    refine ctm_intro (maxL := 2) kw_X4_read (by decide) (by decide) [some (qr G 2), none] rfl (Nat.le_of_ble_eq_true rfl) ?_
    intro X hX hcl hsl _ _ C E
    subst hX
    refine y_aload_n C D_X4_read_0 rfl ?_
    refine y_get C D_X4_read_1 fl_X4_12 (xc_o (ha' _)) rfl ?_
    refine z_callVv C D_X4_read_4 lk_X4_26 (c_X4_clr ha) (xy_o ha) rfl rfl (Nat.le_of_ble_eq_true rfl) (Nat.le_of_ble_eq_true rfl) ⟨Nat.zero_le _, Nat.zero_le _⟩ ?_
    refine y_aload_n C D_X4_read_7 rfl ?_
    refine y_iconst C D_X4_read_8 ki_0 ?_
    refine y_put C D_X4_read_9 fl_X4_29 (xc_o (ha' _)) (Nat.le_of_ble_eq_true rfl) rfl rfl (xc_pbehind _) ?_
    refine y_aload_n C D_X4_read_12 rfl ?_
    refine z_callVv C D_X4_read_13 lk_X4_32 (c_X4_nextToken (ha' _) hn (Nat.zero_le _) hb) (xc_o (ha' _)) rfl rfl (Nat.le_of_ble_eq_true rfl) (Nat.le_of_ble_eq_true rfl) ⟨Nat.zero_le _, Nat.zero_le _⟩ ?_
    refine y_aload_n C D_X4_read_16 rfl ?_
    refine z_callV C D_X4_read_17 lk_X4_35 (hC) (xc_o (ha' _)) rfl rfl (Nat.le_of_ble_eq_true rfl) (Nat.le_of_ble_eq_true rfl) ⟨Nat.zero_le _, Nat.zero_le _⟩ ?_
    refine z_ifeq0 C D_X4_read_20 ?_
    refine y_iconst C D_X4_read_34 ki_0 ?_
    refine y_istore_n C D_X4_read_35 (by decide) (qok_s rfl rfl) ?_
    refine y_aload_n C D_X4_read_36 rfl ?_
    refine y_iconst C D_X4_read_37 ki_0 ?_
    refine y_put C D_X4_read_38 fl_X4_22 (xc_o (ha' _)) (Nat.le_of_ble_eq_true rfl) rfl rfl (xc_psize _) ?_
    refine y_iload_n C D_X4_read_41 rfl ?_
    refine z_ifeq0 C D_X4_read_42 ?_
    refine y_aload_n C D_X4_read_49 rfl ?_
    refine y_get C D_X4_read_50 fl_X4_42 (xc_o (ha' _)) rfl ?_
    exact y_iret C E D_X4_read_53 (rfl) (rfl)
end
