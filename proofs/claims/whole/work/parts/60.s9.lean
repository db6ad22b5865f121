theorem z_lcge {a b : Nat} (ha : a < 2 ^ 63) (hb : b < 2 ^ 63) : 0 ≤ lg_cmp (lN a) (lN b) ↔ b ≤ a := by
  rw [← Int32.not_lt, lg_cmp_lt, pk_lLT ha hb]
  exact Nat.not_lt
def cdN (a b : Nat) : Nat → Nat
  | 0 => a
  | n + 1 => if b = 0 then a else cdN b (a % b) n
theorem cdN_gcd : ∀ n a b, b < 2 ^ n → cdN a b (2 * n) = Nat.gcd a b
  | 0, a, b, h => by
    have : b = 0 := by omega
    rw [this, Nat.gcd_zero_right]
    rfl
  | n + 1, a, b, h => by
    rw [show 2 * (n + 1) = 2 * n + 1 + 1 by omega, cdN]
    by_cases c : b = 0
    · rw [if_pos c, c, Nat.gcd_zero_right]
    · rw [if_neg c, cdN, ← gcd_step a b]
      by_cases d : a % b = 0
      · rw [if_pos d, d, Nat.gcd_zero_right]
      · rw [if_neg d, ← gcd_step b (a % b)]
        have h1 : a % b < b := Nat.mod_lt _ (by omega)
        have h2 : b % (a % b) < a % b := Nat.mod_lt _ (by omega)
        have h3 : b = (a % b) * (b / (a % b)) + b % (a % b) := (Nat.div_add_mod b (a % b)).symm
        have h4 : 1 ≤ b / (a % b) := Nat.div_pos (by omega) (by omega)
        have h5 : a % b ≤ (a % b) * (b / (a % b)) := Nat.le_mul_of_pos_right _ h4
        have h6 : 2 ^ (n + 1) = 2 ^ n * 2 := Nat.pow_succ 2 n
        exact cdN_gcd n (a % b) (b % (a % b)) (by omega)
section
variable {l : Launch} {G : qG} {h : List va_E} {a b : Nat}
theorem lp_X3_cd {X : qX} {a0 b0 : Nat} (C : qC X G cX3_commonDivisor 11 RX3 0) : ∀ (m k a b : Nat), k + m = 64 → 1 ≤ a → a < 2 ^ 62 → b < 2 ^ 62 → qE X G (some .long) 0 0 (some (.long (lN (cdN a b m)))) h → Y X G 11 0 0 9 [some (.long (lN (a0))), none, some (.long (lN (b0))), none, some (.long (lN (a))), none, some (.long (lN (b))), none, some (.int (nI (k))), none, none] [] h := by
  have K : ∀ (a b k : Nat), 1 ≤ a → a < 2 ^ 62 → ∀ X : qX, qC X G cX3_commonDivisor 11 RX3 0 → qE X G (some .long) 0 0 (some (.long (lN a))) h → Y X G 11 0 0 44 [some (.long (lN (a0))), none, some (.long (lN (b0))), none, some (.long (lN (a))), none, some (.long (lN (b))), none, some (.int (nI (k))), none, none] [] h := by
    intro a b k h1 h2 X C E
    refine y_lload C D_X3_commonDivisor_44 rfl ?_
    refine y_lconst (v := lN 1) C D_X3_commonDivisor_46 rfl ?_
    refine y_lcmp C D_X3_commonDivisor_47 ?_
    refine y_if_ge C D_X3_commonDivisor_48 (z_lcge (by omega) (by omega)) (fun c_48 => ?_) (fun c_48 => absurd h1 c_48)
    refine y_lload C D_X3_commonDivisor_55 rfl ?_
    exact y_lret C E D_X3_commonDivisor_57 (rfl) (rfl)
  intro m
  induction m with
  | zero =>
    intro k a b hk h1 h2 h3 E
    obtain rfl : k = 64 := by omega
    refine y_iload C D_X3_commonDivisor_9 rfl ?_
    refine y_bipush C D_X3_commonDivisor_11 kb_64 ?_
    refine y_icmp_ge C D_X3_commonDivisor_13 (n_le (by omega) (by omega)) (fun c_13 => ?_) (fun c_13 => absurd (Nat.le_refl _) c_13)
    exact K a b _ h1 h2 X C E
  | succ m ih =>
    intro k a b hk h1 h2 h3 E
    unfold cdN at E
    refine y_iload C D_X3_commonDivisor_9 rfl ?_
    refine y_bipush C D_X3_commonDivisor_11 kb_64 ?_
    refine y_icmp_ge C D_X3_commonDivisor_13 (n_le (by omega) (by omega)) (fun c_13 => absurd c_13 (by omega)) (fun c_13 => ?_)
    refine y_lload C D_X3_commonDivisor_16 rfl ?_
    refine y_lconst (v := lN 0) C D_X3_commonDivisor_18 rfl ?_
    refine y_lcmp C D_X3_commonDivisor_19 ?_
    refine y_if_eq C D_X3_commonDivisor_20 (z_lceq (by omega) (by omega)) (fun c_20 => ?_) (fun c_20 => ?_)
    · rw [if_pos c_20] at E
      exact K a b _ h1 h2 X C E
    · refine y_lload C D_X3_commonDivisor_23 rfl ?_
      refine y_lload C D_X3_commonDivisor_25 rfl ?_
      refine z_lrem C D_X3_commonDivisor_27 (by omega) (by omega) (by omega) ?_
      refine y_lstore C D_X3_commonDivisor_28 (by decide) (qok_s rfl rfl) ?_
      refine y_lload C D_X3_commonDivisor_30 rfl ?_
      refine y_lstore C D_X3_commonDivisor_32 (by decide) (qok_n rfl) ?_
      refine y_lload C D_X3_commonDivisor_34 rfl ?_
      refine y_lstore C D_X3_commonDivisor_36 (by decide) (qok_n rfl) ?_
      refine z_iinc (n := 1) C D_X3_commonDivisor_38 rfl (by decide) (qok_n rfl) ?_
      refine y_goto C D_X3_commonDivisor_41 ?_
      refine y_fg 9 ?_
      rw [if_neg c_20] at E
      have h4 : a % b < b := Nat.mod_lt _ (by omega)
      exact ih (k + 1) b (a % b) (by omega) (by omega) (by omega) (by omega) E
theorem c_X3_commonDivisor (h1 : 1 ≤ a) (h2 : a < 2 ^ 30) (h3 : b < 2 ^ 30) : Ct l G yX3_commonDivisor 0 [.long (lN a), .long (lN b)] (h) (some (.long (lN (Nat.gcd a b)))) (h) := by
  refine ctm_intro (maxL := 11) kw_X3_commonDivisor (by decide) (by decide) [some (.long (lN a)), none, some (.long (lN b)), none, none, none, none, none, none, none, none] rfl (Nat.le_of_ble_eq_true rfl) ?_
  intro X _ hcl hsl _ _ C E
  rw [← cdN_gcd 32 a b (by omega)] at E
  refine y_lload_n C D_X3_commonDivisor_0 rfl ?_
  refine y_lstore C D_X3_commonDivisor_1 (by decide) (qok_n rfl) ?_
  refine y_lload_n C D_X3_commonDivisor_3 rfl ?_
  refine y_lstore C D_X3_commonDivisor_4 (by decide) (qok_n rfl) ?_
  refine y_iconst C D_X3_commonDivisor_6 ki_0 ?_
  refine y_istore C D_X3_commonDivisor_7 (by decide) (qok_n rfl) ?_
  exact lp_X3_cd C 64 0 a b (by omega) h1 (by omega) (by omega) E
end
