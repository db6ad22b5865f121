theorem dY_up {rd : Nat → Nat} {j w : Nat} (h0 : j ≠ 0) (h5 : j ≠ 5) {y : Nat → Nat} (hy : ∀ k, k < 51 → y k = dY rd k) : ∀ k, k < 51 → va_up y j w k = dY (va_up rd j w) k := by
  intro k hk
  have := hy k hk
  unfold dY at *
  rw [show va_up rd j w 0 = rd 0 from up_ne _ _ (Ne.symm h0)]
  by_cases c : k = j
  · subst c
    rw [up_eq, up_ne _ _ h5, up_eq]
  · rw [up_ne _ _ c, this]
    by_cases c5 : k = 5
    · subst c5
      rw [up_eq, up_eq]
    · rw [up_ne _ _ c5, up_ne _ _ c5, up_ne _ _ c]
section
variable {l : Launch} {G : qG} {h : List va_E} {n lf s e v x : Nat} {tok : Int32} {b y : Nat → Nat}
theorem lp_X4_readSleeper (ha : 6 < h.length) (hn : n ≤ 120) (hb : ∀ k, b k < 256) {p gs kd w : Nat} {q0 : PS} (h0 : q0.2.2.1 0 = gs) (hg : gs ≤ 6) (hp : p < 5) : ∀ (m g c v x : Nat) (rd yd : Nat → Nat), g + m = gs → c ≤ n → (tkK b n c = 2 → v = tkV b n c) → (∀ k, k < 51 → yd k = dY rd k) → ((g = 0 ∧ 0 < m ∧ psL b n p gs q0 g = (true, c, rd, w)) ∨ (1 ≤ g ∧ psL b n p gs q0 g = (decide (tks b n c (if g = gs then 59 else 44)), tS b n c (if g = gs then 59 else 44), rd, tW b n c (if g = gs then 59 else 44) w))) → ∃ lf2 s2 v2 x2 y2, Rz b n lf (psL b n p gs q0 gs) lf2 s2 v2 y2 ∧ ∀ X : qX, X.2.1 = l → qC X G cX4_readSleeper 4 RX4 4 → qE X G (some .boolean) 0 0 (some (.int (bI ((psL b n p gs q0 gs).1 = true)))) (tz G (yc G h 3 (y2)) b n (lf2) (s2) (v2) (x2)) → Y X G 4 0 0 44 [some (qr G 2), some (.int (nI (p))), some (.int (nI (kd))), some (.int (nI (g)))] [] (tz G (yc G h 3 (yd)) b n (lf) (c) (v) (x)) := by
  have ha' : ∀ z, 6 < (yc G h 3 z).length := fun z => by rw [yc_len]; exact ha
  intro m
  induction m with
  | zero =>
    intro g c v x rd yd hm hc hv hy hr
    obtain rfl : g = gs := by omega
    have hr : psL b n p g q0 g = (decide (tks b n c 59), tS b n c 59, rd, tW b n c 59 w) := by
      rcases hr with z | z
      · omega
      · rw [if_pos rfl] at z
        exact z.2
    have e0 : rd 0 = g := by
      have := psL_rd (t := b) (n := n) (p := p) (gs := g) (q := q0) (k := 0) (by decide) g
      rw [hr] at this
      exact this.trans h0
    have ed : yd 0 = g := by rw [hy 0 (by decide), dY, up_ne _ _ (by decide), e0]
    by_cases a : tks b n c 59
    · have hq : psL b n p g q0 g = (true, tkN b n c, rd, w) := by rw [hr, tS, tW, if_pos a, if_pos a, decide_eq_true a]
      rw [hq]
      refine ⟨lf, _, cvV b n (tkN b n c) v, x, yd, ⟨rfl, fun _ => ⟨rfl, fun z => cvV_ok z, hy⟩, fun z => absurd rfl z⟩, ?_⟩
      intro X hX C E
      subst hX
      refine y_iload_n C D_X4_readSleeper_44 rfl ?_
      refine y_aload_n C D_X4_readSleeper_45 rfl ?_
      refine y_get C D_X4_readSleeper_46 fl_X4_12 (xc_o (ha' _)) rfl ?_
      refine y_get C D_X4_readSleeper_49 fl_X4_56 (xy_o ha) rfl ?_
      rw [ed]
      refine y_icmp_ge C D_X4_readSleeper_52 (n_le (by omega) (by omega)) (fun c_52 => ?_) (fun c_52 => absurd (Nat.le_refl _) c_52)
      refine y_aload_n C D_X4_readSleeper_101 rfl ?_
      refine y_bipush C D_X4_readSleeper_102 kb_59 ?_
      refine z_callV C D_X4_readSleeper_104 lk_X4_45 (c_X4_takeSign1 (ha' _) hn hc hb (by decide) a) (xc_o (ha' _)) rfl rfl (Nat.le_of_ble_eq_true rfl) (Nat.le_of_ble_eq_true rfl) ⟨Nat.zero_le _, Nat.zero_le _⟩ ?_
      exact y_zret C E D_X4_readSleeper_107 nar_1 (rfl) (rfl)
    · have hq : psL b n p g q0 g = (false, c, rd, 1) := by rw [hr, tS, tW, if_neg a, if_neg a, decide_eq_false a]
      rw [hq]
      refine ⟨1, _, v, x, yd, ⟨rfl, fun z => absurd (show false = true from z) (by decide), fun _ => rfl⟩, ?_⟩
      intro X hX C E
      subst hX
      refine y_iload_n C D_X4_readSleeper_44 rfl ?_
      refine y_aload_n C D_X4_readSleeper_45 rfl ?_
      refine y_get C D_X4_readSleeper_46 fl_X4_12 (xc_o (ha' _)) rfl ?_
      refine y_get C D_X4_readSleeper_49 fl_X4_56 (xy_o ha) rfl ?_
      rw [ed]
      refine y_icmp_ge C D_X4_readSleeper_52 (n_le (by omega) (by omega)) (fun c_52 => ?_) (fun c_52 => absurd (Nat.le_refl _) c_52)
      refine y_aload_n C D_X4_readSleeper_101 rfl ?_
      refine y_bipush C D_X4_readSleeper_102 kb_59 ?_
      refine z_callV C D_X4_readSleeper_104 lk_X4_45 (c_X4_takeSign0 (ha' _) hn hc hb (by decide) a) (xc_o (ha' _)) rfl rfl (Nat.le_of_ble_eq_true rfl) (Nat.le_of_ble_eq_true rfl) ⟨Nat.zero_le _, Nat.zero_le _⟩ ?_
      exact y_zret C E D_X4_readSleeper_107 nar_0 (rfl) (rfl)
  | succ m ih =>
    intro g c v x rd yd hm hc hv hy hr
    have e0 : rd 0 = gs := by
      have := psL_rd (t := b) (n := n) (p := p) (gs := gs) (q := q0) (k := 0) (by decide) g
      rcases hr with z | z
      · rw [z.2.2] at this
        exact this.trans h0
      · rw [z.2] at this
        exact this.trans h0
    have ed : yd 0 = gs := by rw [hy 0 (by decide), dY, up_ne _ _ (by decide), e0]
    have K70 : ∀ c v x : Nat, c ≤ n → (tkK b n c = 2 → v = tkV b n c) → psL b n p gs q0 g = (true, c, rd, w) → ∃ lf2 s2 v2 x2 y2, Rz b n lf (psL b n p gs q0 gs) lf2 s2 v2 y2 ∧ ∀ X : qX, X.2.1 = l → qC X G cX4_readSleeper 4 RX4 4 → qE X G (some .boolean) 0 0 (some (.int (bI ((psL b n p gs q0 gs).1 = true)))) (tz G (yc G h 3 (y2)) b n (lf2) (s2) (v2) (x2)) → Y X G 4 0 0 70 [some (qr G 2), some (.int (nI (p))), some (.int (nI (kd))), some (.int (nI (g)))] [] (tz G (yc G h 3 (yd)) b n (lf) (c) (v) (x)) := by
      intro c v x hc hv hq
      have hq1 : psL b n p gs q0 (g + 1) = psN b n 0 27 (21 + 6 * p + g) (if g + 1 = gs then 59 else 44) (true, c, rd, w) := by
        rw [psL, hq, if_pos rfl]
      by_cases a : nP b n c 0 27
      · rw [psN_md a] at hq1
        obtain ⟨lf2, s2, v2, x2, y2, hR, hY⟩ := ih (g + 1) (tkN b n c) (cvV b n (tkN b n c) v) (tkV b n c) (va_up rd (21 + 6 * p + g) (tkV b n c)) (va_up yd (21 + 6 * p + g) (tkV b n c)) (by omega) (tkN_le hc) (fun z => cvV_ok z) (dY_up (by omega) (by omega) hy) (Or.inr ⟨by omega, hq1⟩)
        refine ⟨lf2, s2, v2, x2, y2, hR, fun X hX C E => ?_⟩
        have hY2 := hY X hX C E
        subst hX
        refine y_aload_n C D_X4_readSleeper_70 rfl ?_
        refine y_iconst C D_X4_readSleeper_71 ki_0 ?_
        refine y_bipush C D_X4_readSleeper_72 kb_27 ?_
        refine z_callV C D_X4_readSleeper_74 lk_X4_49 (c_X4_takeNumber1 (ha' _) hn hc hb (by decide) (by decide) hv a) (xc_o (ha' _)) rfl rfl (Nat.le_of_ble_eq_true rfl) (Nat.le_of_ble_eq_true rfl) ⟨Nat.zero_le _, Nat.zero_le _⟩ ?_
        refine z_ifne1 C D_X4_readSleeper_77 ?_
        refine y_aload_n C D_X4_readSleeper_82 rfl ?_
        refine y_get C D_X4_readSleeper_83 fl_X4_12 (xc_o (ha' _)) rfl ?_
        refine y_iload_n C D_X4_readSleeper_86 rfl ?_
        refine y_iload_n C D_X4_readSleeper_87 rfl ?_
        refine y_aload_n C D_X4_readSleeper_88 rfl ?_
        refine y_get C D_X4_readSleeper_89 fl_X4_53 (xc_o (ha' _)) rfl ?_
        refine z_callVv C D_X4_readSleeper_92 lk_X4_90 (c_X4_rem ha (by omega) (by omega)) (xy_o ha) rfl rfl (Nat.le_of_ble_eq_true rfl) (Nat.le_of_ble_eq_true rfl) ⟨Nat.zero_le _, Nat.zero_le _⟩ ?_
        refine z_iinc (n := 1) C D_X4_readSleeper_95 rfl (by decide) (qok_s rfl rfl) ?_
        refine y_goto C D_X4_readSleeper_98 ?_
        exact hY2
      · rw [psN_no a] at hq1
        have hq2 : psL b n p gs q0 gs = (false, c, rd, if tkK b n c = 2 then 2 else 1) := by
          have := psL_bad (t := b) (n := n) (p := p) (gs := gs) (q := q0) (g := g + 1) (by rw [hq1]; exact fun z => absurd (show false = true from z) (by decide)) m
          rw [show g + 1 + m = gs by omega, hq1] at this
          exact this
        rw [hq2]
        refine ⟨_, _, v, x, yd, ⟨rfl, fun z => absurd (show false = true from z) (by decide), fun _ => rfl⟩, ?_⟩
        intro X hX C E
        subst hX
        refine y_aload_n C D_X4_readSleeper_70 rfl ?_
        refine y_iconst C D_X4_readSleeper_71 ki_0 ?_
        refine y_bipush C D_X4_readSleeper_72 kb_27 ?_
        refine z_callV C D_X4_readSleeper_74 lk_X4_49 (c_X4_takeNumber0 (ha' _) hn hc hb (by decide) (by decide) hv a) (xc_o (ha' _)) rfl rfl (Nat.le_of_ble_eq_true rfl) (Nat.le_of_ble_eq_true rfl) ⟨Nat.zero_le _, Nat.zero_le _⟩ ?_
        refine z_ifne0 C D_X4_readSleeper_77 ?_
        refine y_iconst C D_X4_readSleeper_80 ki_0 ?_
        exact y_zret C E D_X4_readSleeper_81 nar_0 (rfl) (rfl)
    by_cases g0 : g = 0
    · have hq : psL b n p gs q0 g = (true, c, rd, w) := by
        rcases hr with z | z
        · exact z.2.2
        · omega
      obtain ⟨lf2, s2, v2, x2, y2, hR, hY⟩ := K70 c v x hc hv hq
      refine ⟨lf2, s2, v2, x2, y2, hR, fun X hX C E => ?_⟩
      have hY2 := hY X hX C E
      subst hX
      refine y_iload_n C D_X4_readSleeper_44 rfl ?_
      refine y_aload_n C D_X4_readSleeper_45 rfl ?_
      refine y_get C D_X4_readSleeper_46 fl_X4_12 (xc_o (ha' _)) rfl ?_
      refine y_get C D_X4_readSleeper_49 fl_X4_56 (xy_o ha) rfl ?_
      rw [ed]
      refine y_icmp_ge C D_X4_readSleeper_52 (n_le (by omega) (by omega)) (fun c_52 => absurd c_52 (by omega)) (fun c_52 => ?_)
      refine y_iload_n C D_X4_readSleeper_55 rfl ?_
      refine y_if_le C D_X4_readSleeper_56 (n_le0 (by omega)) (fun c_56 => ?_) (fun c_56 => absurd g0 c_56)
      exact hY2
    · have hr : psL b n p gs q0 g = (decide (tks b n c 44), tS b n c 44, rd, tW b n c 44 w) := by
        rcases hr with z | z
        · omega
        · rw [if_neg (by omega)] at z
          exact z.2
      by_cases a : tks b n c 44
      · have hq : psL b n p gs q0 g = (true, tkN b n c, rd, w) := by rw [hr, tS, tW, if_pos a, if_pos a, decide_eq_true a]
        obtain ⟨lf2, s2, v2, x2, y2, hR, hY⟩ := K70 (tkN b n c) (cvV b n (tkN b n c) v) x (tkN_le hc) (fun z => cvV_ok z) hq
        refine ⟨lf2, s2, v2, x2, y2, hR, fun X hX C E => ?_⟩
        have hY2 := hY X hX C E
        subst hX
        refine y_iload_n C D_X4_readSleeper_44 rfl ?_
        refine y_aload_n C D_X4_readSleeper_45 rfl ?_
        refine y_get C D_X4_readSleeper_46 fl_X4_12 (xc_o (ha' _)) rfl ?_
        refine y_get C D_X4_readSleeper_49 fl_X4_56 (xy_o ha) rfl ?_
        rw [ed]
        refine y_icmp_ge C D_X4_readSleeper_52 (n_le (by omega) (by omega)) (fun c_52 => absurd c_52 (by omega)) (fun c_52 => ?_)
        refine y_iload_n C D_X4_readSleeper_55 rfl ?_
        refine y_if_le C D_X4_readSleeper_56 (n_le0 (by omega)) (fun c_56 => absurd c_56 g0) (fun c_56 => ?_)
        refine y_aload_n C D_X4_readSleeper_59 rfl ?_
        refine y_bipush C D_X4_readSleeper_60 kb_44 ?_
        refine z_callV C D_X4_readSleeper_62 lk_X4_45 (c_X4_takeSign1 (ha' _) hn hc hb (by decide) a) (xc_o (ha' _)) rfl rfl (Nat.le_of_ble_eq_true rfl) (Nat.le_of_ble_eq_true rfl) ⟨Nat.zero_le _, Nat.zero_le _⟩ ?_
        refine z_ifne1 C D_X4_readSleeper_65 ?_
        exact hY2
      · have hq : psL b n p gs q0 g = (false, c, rd, 1) := by rw [hr, tS, tW, if_neg a, if_neg a, decide_eq_false a]
        have hq2 : psL b n p gs q0 gs = (false, c, rd, 1) := by
          have := psL_bad (t := b) (n := n) (p := p) (gs := gs) (q := q0) (g := g) (by rw [hq]; exact fun z => absurd (show false = true from z) (by decide)) (m + 1)
          rw [show g + (m + 1) = gs by omega, hq] at this
          exact this
        rw [hq2]
        refine ⟨1, _, v, x, yd, ⟨rfl, fun z => absurd (show false = true from z) (by decide), fun _ => rfl⟩, ?_⟩
        intro X hX C E
        subst hX
        refine y_iload_n C D_X4_readSleeper_44 rfl ?_
        refine y_aload_n C D_X4_readSleeper_45 rfl ?_
        refine y_get C D_X4_readSleeper_46 fl_X4_12 (xc_o (ha' _)) rfl ?_
        refine y_get C D_X4_readSleeper_49 fl_X4_56 (xy_o ha) rfl ?_
        rw [ed]
        refine y_icmp_ge C D_X4_readSleeper_52 (n_le (by omega) (by omega)) (fun c_52 => absurd c_52 (by omega)) (fun c_52 => ?_)
        refine y_iload_n C D_X4_readSleeper_55 rfl ?_
        refine y_if_le C D_X4_readSleeper_56 (n_le0 (by omega)) (fun c_56 => absurd c_56 g0) (fun c_56 => ?_)
        refine y_aload_n C D_X4_readSleeper_59 rfl ?_
        refine y_bipush C D_X4_readSleeper_60 kb_44 ?_
        refine z_callV C D_X4_readSleeper_62 lk_X4_45 (c_X4_takeSign0 (ha' _) hn hc hb (by decide) a) (xc_o (ha' _)) rfl rfl (Nat.le_of_ble_eq_true rfl) (Nat.le_of_ble_eq_true rfl) ⟨Nat.zero_le _, Nat.zero_le _⟩ ?_
        refine z_ifne0 C D_X4_readSleeper_65 ?_
        refine y_iconst C D_X4_readSleeper_68 ki_0 ?_
        exact y_zret C E D_X4_readSleeper_69 nar_0 (rfl) (rfl)
theorem kdT_lt (b : Nat → Nat) (n s : Nat) : kdT b n s < 6 := by
  unfold kdT
  split
  · decide
  · split
    · decide
    · split
      · decide
      · split
        · decide
        · split <;> decide
theorem c_X4_readSleeper0 (ha : 6 < h.length) (hn : n ≤ 120) (hb : ∀ k, b k < 256) {p : Nat} (hk : kdT b n s = 0) : Ct l G yX4_readSleeper 4 [qr G 2, .int (nI p)] (tz G (yc G h 3 (y)) b n (lf) (s) (v) (x)) (some (.int (nI 0))) (tz G (yc G h 3 (y)) b n (1) (s) (v) (x)) := by
  have ha' : ∀ z, 6 < (yc G h 3 z).length := fun z => by rw [yc_len]; exact ha
  refine ctm_intro (maxL := 4) kw_X4_readSleeper (by decide) (by decide) [some (qr G 2), some (.int (nI p)), none, none] rfl (Nat.le_of_ble_eq_true rfl) ?_
  intro X _ hcl hsl _ _ C E
  refine y_aload_n C D_X4_readSleeper_0 rfl ?_
  refine y_get C D_X4_readSleeper_1 fl_X4_72 (xc_o (ha' _)) rfl ?_
  refine z_callS C D_X4_readSleeper_4 lk_X4_78 (c_X4_kindTold hb) rfl rfl (Nat.le_of_ble_eq_true rfl) (Nat.le_of_ble_eq_true rfl) ⟨Nat.zero_le _, Nat.zero_le _⟩ ?_
  refine y_istore_n C D_X4_readSleeper_7 (by decide) (qok_s rfl rfl) ?_
  refine y_iload_n C D_X4_readSleeper_8 rfl ?_
  rw [hk]
  refine y_if_ne C D_X4_readSleeper_9 (n_eq0 (by omega)) (fun c_9 => absurd rfl c_9) (fun c_9 => ?_)
  refine y_aload_n C D_X4_readSleeper_12 rfl ?_
  refine y_iconst C D_X4_readSleeper_13 ki_1 ?_
  refine z_callV C D_X4_readSleeper_14 lk_X4_81 (c_X4_fail (ha' _)) (xc_o (ha' _)) rfl rfl (Nat.le_of_ble_eq_true rfl) (Nat.le_of_ble_eq_true rfl) ⟨Nat.zero_le _, Nat.zero_le _⟩ ?_
  exact y_zret C E D_X4_readSleeper_17 nar_0 (rfl) (rfl)
theorem c_X4_readSleeper (ha : 6 < h.length) (hn : n ≤ 120) (hb : ∀ k, b k < 256) {p w : Nat} {rd : Nat → Nat} (hs1 : s ≤ n) (hp : p < 5) (h3 : rd 3 = p) (h01 : 1 ≤ rd 0) (h06 : rd 0 ≤ 6) (hy : ∀ k, k < 51 → y k = dY rd k) (hk : kdT b n s ≠ 0) : ∃ lf2 s2 v2 x2 y2, Rz b n lf (psS b n (kdT b n s) (true, s, rd, w)) lf2 s2 v2 y2 ∧ Ct l G yX4_readSleeper 4 [qr G 2, .int (nI p)] (tz G (yc G h 3 (y)) b n (lf) (s) (v) (x)) (some (.int (bI ((psS b n (kdT b n s) (true, s, rd, w)).1 = true)))) (tz G (yc G h 3 (y2)) b n (lf2) (s2) (v2) (x2)) := by
  have ha' : ∀ z, 6 < (yc G h 3 z).length := fun z => by rw [yc_len]; exact ha
  have hkl := kdT_lt b n s
  have hq : psS b n (kdT b n s) (true, s, rd, w) = psL b n p (rd 0) (true, tkN b n s, va_up (va_up rd (6 + p) (kdT b n s)) 3 (p + 1), w) (rd 0) := by
    rw [psS]
    show (if rd 3 = 5 then _ else psL b n (rd 3) (rd 0) (true, tkN b n s, va_up (va_up rd (6 + rd 3) (kdT b n s)) 3 (rd 3 + 1), w) (rd 0)) = _
    rw [h3, if_neg (by omega)]
  rw [hq]
  obtain ⟨lf2, s2, v2, x2, y2, hR, hY⟩ := lp_X4_readSleeper (l := l) (G := G) (h := h) (lf := lf) (w := w) (kd := kdT b n s) (q0 := (true, tkN b n s, va_up (va_up rd (6 + p) (kdT b n s)) 3 (p + 1), w)) ha hn hb (gs := rd 0) (by show va_up (va_up rd (6 + p) (kdT b n s)) 3 (p + 1) 0 = rd 0; rw [up_ne _ _ (by decide), up_ne _ _ (by omega)]) h06 hp (rd 0) 0 (tkN b n s) (cvV b n (tkN b n s) v) x (va_up (va_up rd (6 + p) (kdT b n s)) 3 (p + 1)) (va_up (va_up y (6 + p) (kdT b n s)) 3 (p + 1)) (Nat.zero_add _) (tkN_le hs1) (fun z => cvV_ok z) (dY_up (by decide) (by decide) (dY_up (by omega) (by omega) hy)) (Or.inl ⟨rfl, h01, rfl⟩)
  refine ⟨lf2, s2, v2, x2, y2, hR, ?_⟩
  refine ctm_intro (maxL := 4) kw_X4_readSleeper (by decide) (by decide) [some (qr G 2), some (.int (nI p)), none, none] rfl (Nat.le_of_ble_eq_true rfl) ?_
  intro X hX hcl hsl _ _ C E
  have hY2 := hY X hX C E
  subst hX
  refine y_aload_n C D_X4_readSleeper_0 rfl ?_
  refine y_get C D_X4_readSleeper_1 fl_X4_72 (xc_o (ha' _)) rfl ?_
  refine z_callS C D_X4_readSleeper_4 lk_X4_78 (c_X4_kindTold hb) rfl rfl (Nat.le_of_ble_eq_true rfl) (Nat.le_of_ble_eq_true rfl) ⟨Nat.zero_le _, Nat.zero_le _⟩ ?_
  refine y_istore_n C D_X4_readSleeper_7 (by decide) (qok_s rfl rfl) ?_
  refine y_iload_n C D_X4_readSleeper_8 rfl ?_
  refine y_if_ne C D_X4_readSleeper_9 (n_eq0 (by omega)) (fun c_9 => ?_) (fun c_9 => absurd c_9 hk)
  refine y_aload_n C D_X4_readSleeper_18 rfl ?_
  refine z_callVv C D_X4_readSleeper_19 lk_X4_32 (c_X4_nt (ha' _) hn hs1 hb) (xc_o (ha' _)) rfl rfl (Nat.le_of_ble_eq_true rfl) (Nat.le_of_ble_eq_true rfl) ⟨Nat.zero_le _, Nat.zero_le _⟩ ?_
  refine y_aload_n C D_X4_readSleeper_22 rfl ?_
  refine y_get C D_X4_readSleeper_23 fl_X4_12 (xc_o (ha' _)) rfl ?_
  refine y_get C D_X4_readSleeper_26 fl_X4_84 (xy_o ha) rfl ?_
  refine y_iload_n C D_X4_readSleeper_29 rfl ?_
  refine y_iload_n C D_X4_readSleeper_30 rfl ?_
  refine z_ist C D_X4_readSleeper_31 (xy_k ha) (by omega) (by decide) (xy_w (by omega) _) ?_
  refine y_aload_n C D_X4_readSleeper_32 rfl ?_
  refine y_get C D_X4_readSleeper_33 fl_X4_12 (xc_o (ha' _)) rfl ?_
  refine y_iload_n C D_X4_readSleeper_36 rfl ?_
  refine y_iconst C D_X4_readSleeper_37 ki_1 ?_
  refine z_iadd C D_X4_readSleeper_38 ?_
  refine y_put C D_X4_readSleeper_39 fl_X4_87 (xy_o ha) (Nat.le_of_ble_eq_true rfl) rfl rfl (xy_psleepers _) ?_
  refine y_iconst C D_X4_readSleeper_42 ki_0 ?_
  refine y_istore_n C D_X4_readSleeper_43 (by decide) (qok_s rfl rfl) ?_
  exact hY2
end
