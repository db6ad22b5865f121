theorem dwn_lt {y : Nat → Nat} {g : Nat} : ∀ n, dwn y g n < 2 ^ n
  | 0 => Nat.zero_lt_one
  | n + 1 => by
    have := dwn_lt (y := y) (g := g) n
    have e : 2 ^ (n + 1) = 2 ^ n * 2 := Nat.pow_succ 2 n
    unfold dwn
    refine Nat.or_lt_two_pow (by omega) ?_
    split <;> omega
/-- how many dream of a kept grave -/
def dmN (y : Nat → Nat) (g : Nat) : Nat := if hs (y 5) g then ones (dwn y g (y 3)) else 0
theorem dmN_le (y : Nat → Nat) (g : Nat) : dmN y g ≤ 5 := by
  unfold dmN
  split
  · exact ones_le _
  · omega
def chV (q d w : Nat) : Nat := (if w = 0 then 10 ^ d else 10 ^ d - q ^ d) / Nat.gcd (10 ^ d) (10 ^ d - q ^ d)
section
variable {l : Launch} {G : qG} {h : List va_E} {y : Nat → Nat}
theorem lp_X3_chance58 {X : qX} {g q w d : Nat} (hq : q ≤ 10) (hw : w < 2) (hd : d ≤ 5) (C : qC X G cX3_chanceOfKeeping 11 RX3 4) (E : qE X G (some .long) 0 0 (some (.long (lN (chV q d w)))) h) : Y X G 11 0 0 58 [some (qr G 85), some (qr G 7), some (.int (nI (g))), some (.int (nI (q))), some (.int (nI (w))), some (.long (lN (10 ^ d))), none, some (.long (lN (q ^ d))), none, none, none] [] h := by
  have hl : q ^ d ≤ 10 ^ d := Nat.pow_le_pow_left hq d
  have h1 : 10 ^ d ≤ 10 ^ 5 := Nat.pow_le_pow_right (by decide) hd
  have h0 : 1 ≤ 10 ^ d := Nat.pow_pos (by decide)
  have hg1 : 1 ≤ Nat.gcd (10 ^ d) (10 ^ d - q ^ d) := Nat.gcd_pos_of_pos_left _ h0
  have hg2 : Nat.gcd (10 ^ d) (10 ^ d - q ^ d) ≤ 10 ^ d := Nat.gcd_le_left _ h0
  unfold chV at E
  refine y_lload C D_X3_chanceOfKeeping_58 rfl ?_
  refine y_lload C D_X3_chanceOfKeeping_60 rfl ?_
  refine y_lload C D_X3_chanceOfKeeping_62 rfl ?_
  refine z_lsub C D_X3_chanceOfKeeping_64 (by omega) ?_
  refine z_callS C D_X3_chanceOfKeeping_65 lk_X3_120 (c_X3_commonDivisor (by omega) (by omega) (by omega)) rfl rfl (Nat.le_of_ble_eq_true rfl) (Nat.le_of_ble_eq_true rfl) ⟨Nat.zero_le _, Nat.zero_le _⟩ ?_
  refine y_lstore C D_X3_chanceOfKeeping_68 (by decide) (qok_n rfl) ?_
  refine y_iload C D_X3_chanceOfKeeping_70 rfl ?_
  refine y_if_eq C D_X3_chanceOfKeeping_72 (n_eq0 (by omega)) (fun c_72 => ?_) (fun c_72 => ?_)
  · refine y_lload C D_X3_chanceOfKeeping_83 rfl ?_
    refine y_lload C D_X3_chanceOfKeeping_85 rfl ?_
    refine z_ldiv C D_X3_chanceOfKeeping_87 (by omega) (by omega) (by omega) ?_
    exact y_lret C E D_X3_chanceOfKeeping_88 (by rw [if_pos c_72]) (rfl)
  · refine y_lload C D_X3_chanceOfKeeping_75 rfl ?_
    refine y_lload C D_X3_chanceOfKeeping_77 rfl ?_
    refine z_lsub C D_X3_chanceOfKeeping_79 (by omega) ?_
    refine y_goto C D_X3_chanceOfKeeping_80 ?_
    refine y_lload C D_X3_chanceOfKeeping_85 rfl ?_
    refine z_ldiv C D_X3_chanceOfKeeping_87 (by omega) (by omega) (by omega) ?_
    exact y_lret C E D_X3_chanceOfKeeping_88 (by rw [if_neg c_72]) (rfl)
theorem lp_X3_chance30 {X : qX} {g q w d : Nat} (hq : q ≤ 10) (hw : w < 2) (hd : d ≤ 5) (C : qC X G cX3_chanceOfKeeping 11 RX3 4) (E : qE X G (some .long) 0 0 (some (.long (lN (chV q d w)))) h) : ∀ (m k : Nat), k + m = d → Y X G 11 0 0 30 [some (qr G 85), some (qr G 7), some (.int (nI (g))), some (.int (nI (q))), some (.int (nI (w))), some (.long (lN (10 ^ k))), none, some (.long (lN (q ^ k))), none, some (.int (nI (d))), some (.int (nI (k)))] [] h := by
  intro m
  induction m with
  | zero =>
    intro k hk
    obtain rfl : k = d := by omega
    refine y_iload C D_X3_chanceOfKeeping_30 rfl ?_
    refine y_iload C D_X3_chanceOfKeeping_32 rfl ?_
    refine y_icmp_ge C D_X3_chanceOfKeeping_34 (n_le (by omega) (by omega)) (fun c_34 => ?_) (fun c_34 => absurd (Nat.le_refl _) c_34)
    refine y_fg 9 (y_fg 10 ?_)
    exact lp_X3_chance58 hq hw hd C E
  | succ m ih =>
    intro k hk
    have z := ih (k + 1) (by omega)
    rw [Nat.pow_succ, Nat.pow_succ] at z
    refine y_iload C D_X3_chanceOfKeeping_30 rfl ?_
    refine y_iload C D_X3_chanceOfKeeping_32 rfl ?_
    refine y_icmp_ge C D_X3_chanceOfKeeping_34 (n_le (by omega) (by omega)) (fun c_34 => absurd c_34 (by omega)) (fun c_34 => ?_)
    refine y_lload C D_X3_chanceOfKeeping_37 rfl ?_
    refine y_ldc2 C D_X3_chanceOfKeeping_39 lk_X3_118 ?_
    refine y_topl (show (10 : Int64) = lN 10 from rfl) ?_
    refine z_lmul C D_X3_chanceOfKeeping_42 ?_
    refine y_lstore C D_X3_chanceOfKeeping_43 (by decide) (qok_s rfl rfl) ?_
    refine y_lload C D_X3_chanceOfKeeping_45 rfl ?_
    refine y_iload_n C D_X3_chanceOfKeeping_47 rfl ?_
    refine z_i2l C D_X3_chanceOfKeeping_48 (by omega) ?_
    refine z_lmul C D_X3_chanceOfKeeping_49 ?_
    refine y_lstore C D_X3_chanceOfKeeping_50 (by decide) (qok_n rfl) ?_
    refine z_iinc (n := 1) C D_X3_chanceOfKeeping_52 rfl (by decide) (qok_s rfl rfl) ?_
    refine y_goto C D_X3_chanceOfKeeping_55 ?_
    exact z
theorem c_X3_chanceOfKeeping (hy : Yat G h 7 y) (hV : Va y) (h4 : y 4 ≤ 999) {g q w : Nat} (hg : g < 6) (hq : q ≤ 10) (hw : w < 2) : Ct l G yX3_chanceOfKeeping 4 [qr G 85, qr G 7, .int (nI g), .int (nI q), .int (nI w)] (h) (some (.long (lN (chV q (dmN y g) w)))) (h) := by
  refine ctm_intro (maxL := 11) kw_X3_chanceOfKeeping (by decide) (by decide) [some (qr G 85), some (qr G 7), some (.int (nI g)), some (.int (nI q)), some (.int (nI w)), none, none, none, none, none, none] rfl (Nat.le_of_ble_eq_true rfl) ?_
  intro X _ hcl hsl _ _ C E
  have v5 := hV.k64
  have hd5 := dmN_le y g
  have hdl : dwn y g (y 3) < 32 := Nat.lt_of_lt_of_le (dwn_lt (y 3)) (Nat.pow_le_pow_right (by decide) hV.2.2.2.1.2 : 2 ^ y 3 ≤ 2 ^ 5)
  refine y_lconst (v := lN 1) C D_X3_chanceOfKeeping_0 rfl ?_
  refine y_lstore C D_X3_chanceOfKeeping_1 (by decide) (qok_s rfl rfl) ?_
  refine y_lconst (v := lN 1) C D_X3_chanceOfKeeping_3 rfl ?_
  refine y_lstore C D_X3_chanceOfKeeping_4 (by decide) (qok_n rfl) ?_
  refine y_aload_n C D_X3_chanceOfKeeping_6 rfl ?_
  refine y_get C D_X3_chanceOfKeeping_7 fl_X3_36 hy.o rfl ?_
  refine y_iload_n C D_X3_chanceOfKeeping_10 rfl ?_
  refine z_callSN C D_X3_chanceOfKeeping_11 lk_X3_40 (c_X6_hasBit (by omega) (by omega)) rfl rfl (Nat.le_of_ble_eq_true rfl) (Nat.le_of_ble_eq_true rfl) ⟨Nat.zero_le _, Nat.zero_le _⟩ ?_
  refine z_ifeqB C D_X3_chanceOfKeeping_14 (fun c_14 => ?_) (fun c_14 => ?_)
  · have e0 : dmN y g = 0 := if_neg c_14
    rw [e0] at E
    exact lp_X3_chance58 (d := 0) hq hw (by decide) C E
  · refine y_aload_n C D_X3_chanceOfKeeping_17 rfl ?_
    refine y_iload_n C D_X3_chanceOfKeeping_18 rfl ?_
    refine z_callV C D_X3_chanceOfKeeping_19 lk_X3_115 (hy.eq ▸ c_X5_dreamersOf hy.lt hg hV (by omega)) hy.o rfl rfl (Nat.le_of_ble_eq_true rfl) (Nat.le_of_ble_eq_true rfl) ⟨Nat.zero_le _, Nat.zero_le _⟩ ?_
    refine z_callS C D_X3_chanceOfKeeping_22 lk_X3_74 (c_J6_bitCount hdl) rfl rfl (Nat.le_of_ble_eq_true rfl) (Nat.le_of_ble_eq_true rfl) ⟨Nat.zero_le _, Nat.zero_le _⟩ ?_
    rw [show ones (dwn y g (y 3)) = dmN y g from (if_pos c_14).symm]
    refine y_istore C D_X3_chanceOfKeeping_25 (by decide) (qok_n rfl) ?_
    refine y_iconst C D_X3_chanceOfKeeping_27 ki_0 ?_
    refine y_istore C D_X3_chanceOfKeeping_28 (by decide) (qok_s rfl rfl) ?_
    exact lp_X3_chance30 hq hw hd5 C E (dmN y g) 0 (by omega)
end
