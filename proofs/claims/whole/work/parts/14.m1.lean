section
variable {l : Launch} {G : qG} {U : List va_E} {i : Nat → Nat} {A : Nat → Nat → Nat} {B : Nat → Nat → Int32} {h : List va_E}
theorem c_X7_in {x y z : Int64} : Ct l G yX7_in 0 [.long x, .long y, .long z] h (some (.int (bI (y ≤ x ∧ x ≤ z)))) h := by
  refine ctm_intro (maxL := 6) kw_X7_in (by decide) (by decide) [some (.long x), none, some (.long y), none, some (.long z), none] rfl (Nat.le_of_ble_eq_true rfl) ?_
  intro X _ hcl hsl _ _ C E
  refine y_lload_n C D_X7_in_0 rfl ?_
  refine y_lload_n C D_X7_in_1 rfl ?_
  refine y_lcmp C D_X7_in_2 ?_
  refine y_if_lt C D_X7_in_3 (lg_cmp_lt _ _) (fun c_3 => ?_) (fun c_3 => ?_)
  · refine y_iconst C D_X7_in_17 ki_0 ?_
    exact y_zret C E D_X7_in_18 nar_0 (rt_0 (fun q => absurd c_3 (Int64.not_lt.mpr q.1))) (rfl)
  · refine y_lload_n C D_X7_in_6 rfl ?_
    refine y_lload C D_X7_in_7 rfl ?_
    refine y_lcmp C D_X7_in_9 ?_
    refine y_if_gt C D_X7_in_10 (lg_cmp_gt _ _) (fun c_10 => ?_) (fun c_10 => ?_)
    · refine y_iconst C D_X7_in_17 ki_0 ?_
      exact y_zret C E D_X7_in_18 nar_0 (rt_0 (fun q => absurd c_10 (Int64.not_lt.mpr q.2))) (rfl)
    · refine y_iconst C D_X7_in_13 ki_1 ?_
      refine y_goto C D_X7_in_14 ?_
      exact y_zret C E D_X7_in_18 nar_1 (rt_1 (⟨Int64.not_lt.mp c_3, Int64.not_lt.mp c_10⟩)) (rfl)
theorem c_X7_has {b k : Nat} (hb : b < 2 ^ 31) (hk : k < 32) : Ct l G yX7_has 0 [.int (nI b), .int (nI k)] (h) (some (.int (bI (hs b k)))) (h) := by
  refine ctm_intro (maxL := 2) kw_X7_has (by decide) (by decide) [some (.int (nI b)), some (.int (nI k))] rfl (Nat.le_of_ble_eq_true rfl) ?_
  intro X _ hcl hsl _ _ C E
  refine y_iload_n C D_X7_has_0 rfl ?_
  refine y_iload_n C D_X7_has_1 rfl ?_
  refine z_ishr C D_X7_has_2 (by omega) (by omega) ?_
  refine y_iconst C D_X7_has_3 ki_1 ?_
  refine z_iand C D_X7_has_4 ?_
  refine y_iconst C D_X7_has_5 ki_1 ?_
  refine y_icmp_ne C D_X7_has_6 (has_iff _ _) (fun c_6 => ?_) (fun c_6 => ?_)
  · refine y_iconst C D_X7_has_13 ki_0 ?_
    exact y_zret C E D_X7_has_14 nar_0 (rt_0 (c_6)) (rfl)
  · refine y_iconst C D_X7_has_9 ki_1 ?_
    refine y_goto C D_X7_has_10 ?_
    exact y_zret C E D_X7_has_14 nar_1 (rt_1 (c_6)) (rfl)
theorem lp_X7_ones {X : qX} {d : Nat} {r : Option Value} (C : qC X G cX7_ones 3 RX7 d) (E : qE X G (some .int) 0 0 r h) (v0 : Nat) : ∀ (n s c : Nat), s ≤ n → s < 32 → r = some (.int (nI (c + ones s))) → Y X G 3 0 0 4 [some (.int (nI v0)), some (.int (nI c)), some (.int (nI s))] [] h := by
  intro n
  induction n with
  | zero =>
    intro s c h1 h2 hr
    obtain rfl : s = 0 := by omega
    refine y_iload_n C D_X7_ones_4 rfl ?_
    refine y_if_eq C D_X7_ones_5 (n_eq0 (by omega)) (fun c_5 => ?_) (fun c_5 => absurd rfl c_5)
    refine y_iload_n C D_X7_ones_20 rfl ?_
    exact y_iret C E D_X7_ones_21 (hr.symm) (rfl)
  | succ n ih =>
    intro s c h1 h2 hr
    refine y_iload_n C D_X7_ones_4 rfl ?_
    refine y_if_eq C D_X7_ones_5 (n_eq0 (by omega)) (fun c_5 => ?_) (fun c_5 => ?_)
    · refine y_iload_n C D_X7_ones_20 rfl ?_
      exact y_iret C E D_X7_ones_21 (by rw [hr, c_5]; rfl) (rfl)
    · refine z_iinc (n := 1) C D_X7_ones_8 rfl (by decide) (qok_s rfl rfl) ?_
      refine y_iload_n C D_X7_ones_11 rfl ?_
      refine y_iload_n C D_X7_ones_12 rfl ?_
      refine y_iconst C D_X7_ones_13 ki_1 ?_
      refine z_isub C D_X7_ones_14 (by omega) ?_
      refine z_iand C D_X7_ones_15 ?_
      refine y_istore_n C D_X7_ones_16 (by decide) (qok_s rfl rfl) ?_
      refine y_goto C D_X7_ones_17 ?_
      have hst := ones_step s h2 (by omega)
      exact ih (s &&& (s - 1)) (c + 1) (by omega) (by omega) (by rw [hr, hst.2, Nat.add_assoc])
theorem c_X7_ones {b : Nat} (hb : b < 32) : Ct l G yX7_ones 0 [.int (nI b)] (h) (some (.int (nI (ones b)))) (h) := by
  refine ctm_intro (maxL := 3) kw_X7_ones (by decide) (by decide) [some (.int (nI b)), none, none] rfl (Nat.le_of_ble_eq_true rfl) ?_
  intro X _ hcl hsl _ _ C E
  refine y_iconst C D_X7_ones_0 ki_0 ?_
  refine y_istore_n C D_X7_ones_1 (by decide) (qok_s rfl rfl) ?_
  refine y_iload_n C D_X7_ones_2 rfl ?_
  refine y_istore_n C D_X7_ones_3 (by decide) (qok_s rfl rfl) ?_
  exact lp_X7_ones C E _ 32 b 0 (by omega) hb (by rw [Nat.zero_add])
theorem c_X7_find (hU : U.length = 122) {f : Nat} : Ct l G yX7_find 0 [qr G 122, .int (nI f)] (hm G U i A B) (some (.int (-1000010 - nI f))) (hm G U (va_up i 3 f) A B) := by
  refine ctm_intro (maxL := 2) kw_X7_find (by decide) (by decide) [some (qr G 122), some (.int (nI f))] rfl (Nat.le_of_ble_eq_true rfl) ?_
  intro X _ hcl hsl _ _ C E
  refine y_aload_n C D_X7_find_0 rfl ?_
  refine y_iload_n C D_X7_find_1 rfl ?_
  refine y_put C D_X7_find_2 fl_X7_50 (hm_o hU) (Nat.le_of_ble_eq_true rfl) rfl rfl (hm_pstatus hU _) ?_
  refine y_ldc C D_X7_find_5 lk_X7_54 ?_
  refine y_iload_n C D_X7_find_7 rfl ?_
  refine y_isub C D_X7_find_8 ?_
  exact y_iret C E D_X7_find_9 (rfl) (rfl)
theorem c_X7_well (hU : U.length = 122) {v : Int32} : Ct l G yX7_well 0 [qr G 122, .int v] (hm G U i A B) (some (.int v)) (hm G U (va_up i 3 0) A B) := by
  refine ctm_intro (maxL := 2) kw_X7_well (by decide) (by decide) [some (qr G 122), some (.int v)] rfl (Nat.le_of_ble_eq_true rfl) ?_
  intro X _ hcl hsl _ _ C E
  refine y_aload_n C D_X7_well_0 rfl ?_
  refine y_iconst C D_X7_well_1 ki_0 ?_
  refine y_put C D_X7_well_2 fl_X7_50 (hm_o hU) (Nat.le_of_ble_eq_true rfl) rfl rfl (hm_pstatus hU _) ?_
  refine y_iload_n C D_X7_well_5 rfl ?_
  exact y_iret C E D_X7_well_6 (rfl) (rfl)
theorem c_X7_isRow {x : Int32} : Ct l G yX7_isRow 1 [.int x] (h) (some (.int (bI (isx x 8)))) (h) := by
  refine ctm_intro (maxL := 1) kw_X7_isRow (by decide) (by decide) [some (.int x)] rfl (Nat.le_of_ble_eq_true rfl) ?_
  intro X _ hcl hsl _ _ C E
  refine y_iload_n C D_X7_isRow_0 rfl ?_
  refine y_i2l C D_X7_isRow_1 ?_
  refine y_lconst C D_X7_isRow_2 rfl ?_
  refine y_ldc2 C D_X7_isRow_3 lk_X7_55 ?_
  refine z_callS C D_X7_isRow_6 lk_X7_57 (c_X7_in) rfl rfl (Nat.le_of_ble_eq_true rfl) (Nat.le_of_ble_eq_true rfl) ⟨Nat.zero_le _, Nat.zero_le _⟩ ?_
  exact y_zret C E D_X7_isRow_9 bI_nar (rv (bI_c (in_isx (z := 7) (by decide) rfl))) (rfl)
theorem c_X7_isSleeper (hU : U.length = 122) {x : Int32} (hn : A 5 3 < 2 ^ 31) : Ct l G yX7_isSleeper 1 [qr G 122, .int x] (hm G U i A B) (some (.int (bI (isx x (A 5 3))))) (hm G U i A B) := by
  refine ctm_intro (maxL := 2) kw_X7_isSleeper (by decide) (by decide) [some (qr G 122), some (.int x)] rfl (Nat.le_of_ble_eq_true rfl) ?_
  intro X _ hcl hsl _ _ C E
  refine y_iload_n C D_X7_isSleeper_0 rfl ?_
  refine y_i2l C D_X7_isSleeper_1 ?_
  refine y_lconst C D_X7_isSleeper_2 rfl ?_
  refine y_aload_n C D_X7_isSleeper_3 rfl ?_
  refine y_get C D_X7_isSleeper_4 fl_X7_19 (hm_o hU) rfl ?_
  refine y_iconst C D_X7_isSleeper_7 ki_3 ?_
  refine z_ild C D_X7_isSleeper_8 (hm_st hU) (by omega) (by decide) rfl ?_
  refine y_iconst C D_X7_isSleeper_9 ki_1 ?_
  refine y_isub C D_X7_isSleeper_10 ?_
  refine y_i2l C D_X7_isSleeper_11 ?_
  refine z_callS C D_X7_isSleeper_12 lk_X7_57 (c_X7_in) rfl rfl (Nat.le_of_ble_eq_true rfl) (Nat.le_of_ble_eq_true rfl) ⟨Nat.zero_le _, Nat.zero_le _⟩ ?_
  exact y_zret C E D_X7_isSleeper_15 bI_nar (rv (bI_c (in_isx hn (nI_sub1 hn)))) (rfl)
theorem c_X7_isGrave (hU : U.length = 122) {x : Int32} (hn : A 5 0 < 2 ^ 31) : Ct l G yX7_isGrave 1 [qr G 122, .int x] (hm G U i A B) (some (.int (bI (isx x (A 5 0))))) (hm G U i A B) := by
  refine ctm_intro (maxL := 2) kw_X7_isGrave (by decide) (by decide) [some (qr G 122), some (.int x)] rfl (Nat.le_of_ble_eq_true rfl) ?_
  intro X _ hcl hsl _ _ C E
  refine y_iload_n C D_X7_isGrave_0 rfl ?_
  refine y_i2l C D_X7_isGrave_1 ?_
  refine y_lconst C D_X7_isGrave_2 rfl ?_
  refine y_aload_n C D_X7_isGrave_3 rfl ?_
  refine y_get C D_X7_isGrave_4 fl_X7_19 (hm_o hU) rfl ?_
  refine y_iconst C D_X7_isGrave_7 ki_0 ?_
  refine z_ild C D_X7_isGrave_8 (hm_st hU) (by omega) (by decide) rfl ?_
  refine y_iconst C D_X7_isGrave_9 ki_1 ?_
  refine y_isub C D_X7_isGrave_10 ?_
  refine y_i2l C D_X7_isGrave_11 ?_
  refine z_callS C D_X7_isGrave_12 lk_X7_57 (c_X7_in) rfl rfl (Nat.le_of_ble_eq_true rfl) (Nat.le_of_ble_eq_true rfl) ⟨Nat.zero_le _, Nat.zero_le _⟩ ?_
  exact y_zret C E D_X7_isGrave_15 bI_nar (rv (bI_c (in_isx hn (nI_sub1 hn)))) (rfl)
theorem c_X7_memoryOf (hU : U.length = 122) {p g : Nat} (hp : p < 5) (hg : g < 6) : Ct l G yX7_memoryOf 0 [qr G 122, .int (nI p), .int (nI g)] (hm G U i A B) (some (.int (nI (me (A 5) p g)))) (hm G U i A B) := by
  refine ctm_intro (maxL := 3) kw_X7_memoryOf (by decide) (by decide) [some (qr G 122), some (.int (nI p)), some (.int (nI g))] rfl (Nat.le_of_ble_eq_true rfl) ?_
  intro X _ hcl hsl _ _ C E
  refine y_aload_n C D_X7_memoryOf_0 rfl ?_
  refine y_get C D_X7_memoryOf_1 fl_X7_19 (hm_o hU) rfl ?_
  refine y_bipush C D_X7_memoryOf_4 kb_21 ?_
  refine y_bipush C D_X7_memoryOf_6 kb_6 ?_
  refine y_iload_n C D_X7_memoryOf_8 rfl ?_
  refine z_imul C D_X7_memoryOf_9 ?_
  refine z_iadd C D_X7_memoryOf_10 ?_
  refine y_iload_n C D_X7_memoryOf_11 rfl ?_
  refine z_iadd C D_X7_memoryOf_12 ?_
  refine z_ild C D_X7_memoryOf_13 (hm_st hU) (by omega) (by decide) rfl ?_
  exact y_iret C E D_X7_memoryOf_14 (rfl) (rfl)
theorem c_X7_lessOf (hU : U.length = 122) {m : Nat} (hm1 : m < 2 ^ 20) (h2 : 2 ≤ A 5 2) (h9 : A 5 2 < 2 ^ 20) : Ct l G yX7_lessOf 0 [qr G 122, .int (nI m)] (hm G U i A B) (some (.int (nI (less (A 5) m)))) (hm G U i A B) := by
  refine ctm_intro (maxL := 2) kw_X7_lessOf (by decide) (by decide) [some (qr G 122), some (.int (nI m))] rfl (Nat.le_of_ble_eq_true rfl) ?_
  intro X _ hcl hsl _ _ C E
  refine y_iload_n C D_X7_lessOf_0 rfl ?_
  refine y_if_ne C D_X7_lessOf_1 (n_eq0 (by omega)) (fun c_1 => ?_) (fun c_1 => ?_)
  · refine y_iload_n C D_X7_lessOf_8 rfl ?_
    refine y_iload_n C D_X7_lessOf_9 rfl ?_
    refine y_aload_n C D_X7_lessOf_10 rfl ?_
    refine y_get C D_X7_lessOf_11 fl_X7_19 (hm_o hU) rfl ?_
    refine y_iconst C D_X7_lessOf_14 ki_2 ?_
    refine z_ild C D_X7_lessOf_15 (hm_st hU) (by omega) (by decide) rfl ?_
    refine z_idiv C D_X7_lessOf_16 (by omega) (by omega) (by omega) ?_
    have hq : m / A 5 2 < m := Nat.div_lt_self (by omega) (by omega)
    refine z_isub C D_X7_lessOf_17 (by omega) ?_
    refine y_iconst C D_X7_lessOf_18 ki_1 ?_
    refine z_isub C D_X7_lessOf_19 (by omega) ?_
    exact y_iret C E D_X7_lessOf_20 (by rw [less, if_neg c_1]) (rfl)
  · refine y_iconst C D_X7_lessOf_4 ki_0 ?_
    refine y_goto C D_X7_lessOf_5 ?_
    exact y_iret C E D_X7_lessOf_20 (by rw [less, if_pos c_1]) (rfl)
end
