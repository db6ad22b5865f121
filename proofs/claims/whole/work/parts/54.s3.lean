/-- the first of a set -/
def fo (b : Nat) : Nat → Nat → Option Nat
  | 0, _ => none
  | n + 1, k => if hs b k then some k else fo b n (k + 1)
/-- the first grave dug, in the class's way: n years more are looked at -/
def gdF (y : Nat → Nat) : Nat → Nat → Option Nat
  | 0, _ => none
  | n + 1, k => if yrs y (k + 1) 5 = y 5 then gdF y n (k + 1) else fo (andn (y 5) (yrs y (k + 1) 5)) 6 0
def gdY (y : Nat → Nat) : Nat → Nat → Nat → Nat
  | 0, k => yrs y k
  | n + 1, k => if yrs y (k + 1) 5 = y 5 then gdY y n (k + 1) else yrs y (k + 1)
section
variable {l : Launch} {G : qG} {h : List va_E} {y w : Nat → Nat} {fw : Nat}
theorem lp_X3_firstOf {X : qX} {b : Nat} (hb : b < 64) (C : qC X G cX3_firstOf 2 RX3 1) : ∀ (n k : Nat), k + n = 6 → qE X G (some .int) 0 0 (some (.int (nO (fo b n k)))) h → Y X G 2 0 0 2 [some (.int (nI (b))), some (.int (nI (k)))] [] h := by
  intro n
  induction n with
  | zero =>
    intro k hk E
    obtain rfl : k = 6 := by omega
    refine y_iload_n C D_X3_firstOf_2 rfl ?_
    refine y_bipush C D_X3_firstOf_3 kb_6 ?_
    refine y_icmp_ge C D_X3_firstOf_5 (n_le (by omega) (by omega)) (fun c_5 => ?_) (fun c_5 => absurd (Nat.le_refl _) c_5)
    refine y_ldc C D_X3_firstOf_24 lk_X3_54 ?_
    exact y_iret C E D_X3_firstOf_26 (rfl) (rfl)
  | succ n ih =>
    intro k hk E
    unfold fo at E
    refine y_iload_n C D_X3_firstOf_2 rfl ?_
    refine y_bipush C D_X3_firstOf_3 kb_6 ?_
    refine y_icmp_ge C D_X3_firstOf_5 (n_le (by omega) (by omega)) (fun c_5 => absurd c_5 (by omega)) (fun c_5 => ?_)
    refine y_iload_n C D_X3_firstOf_8 rfl ?_
    refine y_iload_n C D_X3_firstOf_9 rfl ?_
    refine z_callSN C D_X3_firstOf_10 lk_X3_40 (c_X6_hasBit (by omega) (by omega)) rfl rfl (Nat.le_of_ble_eq_true rfl) (Nat.le_of_ble_eq_true rfl) ⟨Nat.zero_le _, Nat.zero_le _⟩ ?_
    refine z_ifeqB C D_X3_firstOf_13 (fun c_13 => ?_) (fun c_13 => ?_)
    · refine z_iinc (n := 1) C D_X3_firstOf_18 rfl (by decide) (qok_s rfl rfl) ?_
      refine y_goto C D_X3_firstOf_21 ?_
      rw [if_neg c_13] at E
      exact ih (k + 1) (by omega) E
    · refine y_iload_n C D_X3_firstOf_16 rfl ?_
      exact y_iret C E D_X3_firstOf_17 (by rw [if_pos c_13]; rfl) (rfl)
theorem c_X3_firstOf {b : Nat} (hb : b < 64) : Ct l G yX3_firstOf 1 [.int (nI b)] (h) (some (.int (nO (fo b 6 0)))) (h) := by
  refine ctm_intro (maxL := 2) kw_X3_firstOf (by decide) (by decide) [some (.int (nI b)), none] rfl (Nat.le_of_ble_eq_true rfl) ?_
  intro X _ hcl hsl _ _ C E
  refine y_iconst C D_X3_firstOf_0 ki_0 ?_
  refine y_istore_n C D_X3_firstOf_1 (by decide) (qok_s rfl rfl) ?_
  exact lp_X3_firstOf hb C 6 0 (by omega) E
theorem lp_X3_first {X : qX} (h89 : 89 + 2 < h.length) (hy : Yat G h 7 y) (hV : Va y) (h4 : y 4 ≤ 999) (C : qC X G cX3_graveDugFirst 4 RX3 5) : ∀ (n k : Nat), k + n = 40 → qE X G (some .int) 0 0 (some (.int (nO (gdF y n k)))) (yc G h 89 (gdY y n k)) → Y X G 4 0 0 8 [some (qr G 85), some (qr G 7), some (qr G 89), some (.int (nI (k)))] [] (yc G h 89 (yrs y k)) := by
  intro n
  induction n with
  | zero =>
    intro k hk E
    obtain rfl : k = 40 := by omega
    refine y_iload_n C D_X3_graveDugFirst_8 rfl ?_
    refine y_bipush C D_X3_graveDugFirst_9 kb_40 ?_
    refine y_icmp_ge C D_X3_graveDugFirst_11 (n_le (by omega) (by omega)) (fun c_11 => ?_) (fun c_11 => absurd (Nat.le_refl _) c_11)
    refine y_ldc C D_X3_graveDugFirst_50 lk_X3_54 ?_
    exact y_iret C E D_X3_graveDugFirst_52 (rfl) (rfl)
  | succ n ih =>
    intro k hk E
    have e4 := yrs_4 y k
    have v5 := hV.k64
    have w5 : yrs y (k + 1) 5 < 64 := (hV.yrs (k + 1)).k64
    have hal := andn_lt _ v5 _ w5
    unfold gdF gdY at E
    refine y_iload_n C D_X3_graveDugFirst_8 rfl ?_
    refine y_bipush C D_X3_graveDugFirst_9 kb_40 ?_
    refine y_icmp_ge C D_X3_graveDugFirst_11 (n_le (by omega) (by omega)) (fun c_11 => absurd c_11 (by omega)) (fun c_11 => ?_)
    refine y_aload_n C D_X3_graveDugFirst_14 rfl ?_
    refine z_callVv C D_X3_graveDugFirst_15 lk_X3_33 (c_X5_pass h89 (hV.yrs k) (by omega)) (yc_o h89) rfl rfl (Nat.le_of_ble_eq_true rfl) (Nat.le_of_ble_eq_true rfl) ⟨Nat.zero_le _, Nat.zero_le _⟩ ?_
    rw [show yr (yrs y k) = yrs y (k + 1) from rfl]
    refine y_aload_n C D_X3_graveDugFirst_18 rfl ?_
    refine y_get C D_X3_graveDugFirst_19 fl_X3_36 (yc_o h89) rfl ?_
    refine y_aload_n C D_X3_graveDugFirst_22 rfl ?_
    refine y_get C D_X3_graveDugFirst_23 fl_X3_36 ((yc_n (by decide)).trans hy.o) rfl ?_
    refine y_icmp_eq C D_X3_graveDugFirst_26 (n_eq (by omega) (by omega)) (fun c_26 => ?_) (fun c_26 => ?_)
    · refine z_iinc (n := 1) C D_X3_graveDugFirst_44 rfl (by decide) (qok_s rfl rfl) ?_
      refine y_goto C D_X3_graveDugFirst_47 ?_
      rw [if_pos c_26, if_pos c_26] at E
      exact ih (k + 1) (by omega) E
    · refine y_aload_n C D_X3_graveDugFirst_29 rfl ?_
      refine y_get C D_X3_graveDugFirst_30 fl_X3_36 ((yc_n (by decide)).trans hy.o) rfl ?_
      refine y_aload_n C D_X3_graveDugFirst_33 rfl ?_
      refine y_get C D_X3_graveDugFirst_34 fl_X3_36 (yc_o h89) rfl ?_
      refine y_iconst C D_X3_graveDugFirst_37 ki_m1 ?_
      refine y_ixor C D_X3_graveDugFirst_38 ?_
      refine y_iand C D_X3_graveDugFirst_39 ?_
      refine y_top (andn_eq _ v5 _ w5) ?_
      refine z_callS C D_X3_graveDugFirst_40 lk_X3_55 (c_X3_firstOf hal) rfl rfl (Nat.le_of_ble_eq_true rfl) (Nat.le_of_ble_eq_true rfl) ⟨Nat.zero_le _, Nat.zero_le _⟩ ?_
      exact y_iret C E D_X3_graveDugFirst_43 (by rw [if_neg c_26]) (by rw [if_neg c_26])
theorem c_X3_graveDugFirst (hP : h[85]? = some (scl G fw)) (hQ : h[88]? = some (qY G 3 (sfY G))) (hs0 : Yat G h 89 w) (hy : Yat G h 7 y) (hV : Va y) (h4 : y 4 ≤ 999) : Ct l G yX3_graveDugFirst 5 [qr G 85, qr G 7] (h) (some (.int (nO (gdF y 40 0)))) (yc G h 89 (gdY y 40 0)) := by
  refine ctm_intro (maxL := 4) kw_X3_graveDugFirst (by decide) (by decide) [some (qr G 85), some (qr G 7), none, none] rfl (Nat.le_of_ble_eq_true rfl) ?_
  intro X _ hcl hsl _ _ C E
  refine y_aload_n C D_X3_graveDugFirst_0 rfl ?_
  refine y_aload_n C D_X3_graveDugFirst_1 rfl ?_
  refine z_callV C D_X3_graveDugFirst_2 lk_X3_29 (c_X3_copyOf hP hQ hs0 hy hV) hP rfl rfl (Nat.le_of_ble_eq_true rfl) (Nat.le_of_ble_eq_true rfl) ⟨Nat.zero_le _, Nat.zero_le _⟩ ?_
  refine y_astore_n C D_X3_graveDugFirst_5 (by decide) (qok_s rfl rfl) ?_
  refine y_iconst C D_X3_graveDugFirst_6 ki_0 ?_
  refine y_istore_n C D_X3_graveDugFirst_7 (by decide) (qok_s rfl rfl) ?_
  exact lp_X3_first hs0.lt hy hV h4 C 40 0 (by omega) E
end
