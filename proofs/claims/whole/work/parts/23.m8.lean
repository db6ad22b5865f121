section
variable {l : Launch} {G : qG} {U : List va_E} {i : Nat → Nat} {A : Nat → Nat → Nat} {B : Nat → Nat → Int32} {h : List va_E}
theorem c_X7_firstDugS (hU : U.length = 122) (ht : i 4 = 0) : Ct l G yX7_firstDug 6 [qr G 122] (hm G U i A B) (some (.int (-1000002))) (hm G U i A B) := by
  refine ctm_intro (maxL := 5) kw_X7_firstDug (by decide) (by decide) [some (qr G 122), none, none, none, none] rfl (Nat.le_of_ble_eq_true rfl) ?_
  intro X _ hcl hsl _ _ C E
  refine y_aload_n C D_X7_firstDug_0 rfl ?_
  refine y_get C D_X7_firstDug_1 fl_X7_135 (hm_o hU) rfl ?_
  refine y_if_ne C D_X7_firstDug_4 (n_eq0 (by omega)) (fun c_4 => absurd ht c_4) (fun c_4 => ?_)
  refine y_ldc C D_X7_firstDug_7 lk_X7_162 ?_
  exact y_iret C E D_X7_firstDug_9 (rfl) (rfl)
theorem lp_X7_firstDug {X : qX} {r : Option Value} (hU : U.length = 122) (hV : Va (A 5)) (h4 : A 5 4 ≤ 999) (C : qC X G cX7_firstDug 5 RX7 6) (E : qE X G (some .int) 0 0 r (hm G U i (asd A) B)) (hr : r = some (.int (nO (fsG (A 5) (A 5 0)).1))) : ∀ (n g : Nat) (A' : Nat → Nat → Nat), g + n = A 5 0 → A' 5 = A 5 → asd A' = asd A → (0 < g → A' = asd A) → Y X G 5 0 0 19 [some (qr G 122), some (.int (nO (fsG (A 5) g).1)), some (.int (nI ((fsG (A 5) g).2))), some (.int (nI (g))), none] [] (hm G U i A' B) := by
  have v0 := hV.1
  intro n
  induction n with
  | zero =>
    intro g A' hg e5 ea hA
    have e50 : A' 5 0 = A 5 0 := by rw [e5]
    obtain rfl : g = A 5 0 := by omega
    refine y_iload_n C D_X7_firstDug_19 rfl ?_
    refine y_aload_n C D_X7_firstDug_20 rfl ?_
    refine y_get C D_X7_firstDug_21 fl_X7_19 (hm_o hU) rfl ?_
    refine y_iconst C D_X7_firstDug_24 ki_0 ?_
    refine z_ild C D_X7_firstDug_25 (hm_st hU) (by omega) (by decide) rfl ?_
    refine y_icmp_ge C D_X7_firstDug_26 (n_le (by omega) (by omega)) (fun c_26 => ?_) (fun c_26 => absurd c_26 (by omega))
    refine y_iload_n C D_X7_firstDug_59 rfl ?_
    exact y_iret C E D_X7_firstDug_60 (hr.symm) (by rw [hA (by omega)])
  | succ n ih =>
    intro g A' hg e5 ea hA
    have e50 : A' 5 0 = A 5 0 := by rw [e5]
    have e54 : A' 5 4 = A 5 4 := by rw [e5]
    have hl := fsG_lt (y := A 5) g
    refine y_iload_n C D_X7_firstDug_19 rfl ?_
    refine y_aload_n C D_X7_firstDug_20 rfl ?_
    refine y_get C D_X7_firstDug_21 fl_X7_19 (hm_o hU) rfl ?_
    refine y_iconst C D_X7_firstDug_24 ki_0 ?_
    refine z_ild C D_X7_firstDug_25 (hm_st hU) (by omega) (by decide) rfl ?_
    refine y_icmp_ge C D_X7_firstDug_26 (n_le (by omega) (by omega)) (fun c_26 => absurd c_26 (by omega)) (fun c_26 => ?_)
    refine y_aload_n C D_X7_firstDug_29 rfl ?_
    refine y_iload_n C D_X7_firstDug_30 rfl ?_
    refine y_iconst C D_X7_firstDug_31 ki_0 ?_
    refine z_callV C D_X7_firstDug_32 lk_X7_198 (c_X7_dugIn hU (by rw [e5]; exact hV) (by omega) (by omega) (by decide)) (hm_o hU) rfl rfl (Nat.le_of_ble_eq_true rfl) (Nat.le_of_ble_eq_true rfl) ⟨Nat.zero_le _, Nat.zero_le _⟩ ?_
    rw [e5, ea, dugR_O]
    refine y_istore C D_X7_firstDug_35 (by decide) (qok_s rfl rfl) ?_
    rcases hd : dugO 0 g 40 0 (A 5) with _ | k
    · refine y_iload C D_X7_firstDug_37 rfl ?_
      refine y_if_le C D_X7_firstDug_39 Iff.rfl (fun c_39 => ?_) (fun c_39 => absurd (by decide) c_39)
      refine z_iinc (n := 1) C D_X7_firstDug_53 rfl (by decide) (qok_s rfl rfl) ?_
      refine y_goto C D_X7_firstDug_56 ?_
      refine y_fg 4 ?_
      have e : fsG (A 5) (g + 1) = fsG (A 5) g := by rw [fsG, hd]
      have z := ih (g + 1) (asd A) (by omega) (asd_5 A) (asd_asd A) (fun _ => rfl)
      rw [e] at z
      exact z
    · have hk := dugO_le hd
      refine y_iload C D_X7_firstDug_37 rfl ?_
      refine y_if_le C D_X7_firstDug_39 (n_le0 (by omega)) (fun c_39 => ?_) (fun c_39 => ?_)
      · refine z_iinc (n := 1) C D_X7_firstDug_53 rfl (by decide) (qok_s rfl rfl) ?_
        refine y_goto C D_X7_firstDug_56 ?_
        refine y_fg 4 ?_
        have e : fsG (A 5) (g + 1) = fsG (A 5) g := by rw [fsG, hd]; simp only [if_neg (show ¬ (0 < k ∧ k < (fsG (A 5) g).2) by omega)]
        have z := ih (g + 1) (asd A) (by omega) (asd_5 A) (asd_asd A) (fun _ => rfl)
        rw [e] at z
        exact z
      · refine y_iload C D_X7_firstDug_42 rfl ?_
        refine y_iload_n C D_X7_firstDug_44 rfl ?_
        refine y_icmp_ge C D_X7_firstDug_45 (n_le (by omega) (by omega)) (fun c_45 => ?_) (fun c_45 => ?_)
        · refine z_iinc (n := 1) C D_X7_firstDug_53 rfl (by decide) (qok_s rfl rfl) ?_
          refine y_goto C D_X7_firstDug_56 ?_
          refine y_fg 4 ?_
          have e : fsG (A 5) (g + 1) = fsG (A 5) g := by rw [fsG, hd]; simp only [if_neg (show ¬ (0 < k ∧ k < (fsG (A 5) g).2) by omega)]
          have z := ih (g + 1) (asd A) (by omega) (asd_5 A) (asd_asd A) (fun _ => rfl)
          rw [e] at z
          exact z
        · refine y_iload_n C D_X7_firstDug_48 rfl ?_
          refine y_istore_n C D_X7_firstDug_49 (by decide) (qok_s rfl rfl) ?_
          refine y_iload C D_X7_firstDug_50 rfl ?_
          refine y_istore_n C D_X7_firstDug_52 (by decide) (qok_s rfl rfl) ?_
          refine z_iinc (n := 1) C D_X7_firstDug_53 rfl (by decide) (qok_s rfl rfl) ?_
          refine y_goto C D_X7_firstDug_56 ?_
          refine y_fg 4 ?_
          have e : fsG (A 5) (g + 1) = (some g, k) := by rw [fsG, hd]; simp only [if_pos (show (0 < k ∧ k < (fsG (A 5) g).2) by omega)]
          have z := ih (g + 1) (asd A) (by omega) (asd_5 A) (asd_asd A) (fun _ => rfl)
          rw [e] at z
          exact z
theorem c_X7_firstDug (hU : U.length = 122) (ht : i 4 = 1) (hV : Va (A 5)) (h4 : A 5 4 ≤ 999) : Ct l G yX7_firstDug 6 [qr G 122] (hm G U i A B) (some (.int (nO (fsG (A 5) (A 5 0)).1))) (hm G U i (asd A) B) := by
  refine ctm_intro (maxL := 5) kw_X7_firstDug (by decide) (by decide) [some (qr G 122), none, none, none, none] rfl (Nat.le_of_ble_eq_true rfl) ?_
  intro X _ hcl hsl _ _ C E
  have v0 := hV.1
  refine y_aload_n C D_X7_firstDug_0 rfl ?_
  refine y_get C D_X7_firstDug_1 fl_X7_135 (hm_o hU) rfl ?_
  refine y_if_ne C D_X7_firstDug_4 (n_eq0 (by omega)) (fun c_4 => ?_) (fun c_4 => absurd c_4 (by omega))
  refine y_ldc C D_X7_firstDug_10 lk_X7_197 ?_
  refine y_istore_n C D_X7_firstDug_12 (by decide) (qok_s rfl rfl) ?_
  refine y_sipush C D_X7_firstDug_13 kn_999 ?_
  refine y_istore_n C D_X7_firstDug_16 (by decide) (qok_s rfl rfl) ?_
  refine y_iconst C D_X7_firstDug_17 ki_0 ?_
  refine y_istore_n C D_X7_firstDug_18 (by decide) (qok_s rfl rfl) ?_
  exact lp_X7_firstDug hU hV h4 C E rfl (A 5 0) 0 A (by omega) rfl rfl (fun z => absurd z (by decide))
theorem lp_X7_isSo {X : qX} {o n : Nat} (hU : U.length = 122) (hV : Va (A 5)) (h4 : A 5 4 + n < 1999) (ho : o + n ≤ 320) (C : qC X G cX7_isSo 5 RX7 5) (E : qE X G (some .boolean) 0 0 (some (.int (bI (soB (B 2) o (A 5) n = true)))) (hm G U i (va_up A 5 (va_cpy (A 18) (yrs (A 5) n) 0 0 51)) B)) : ∀ (m k : Nat) (A' : Nat → Nat → Nat), k + m = n → A' = va_up A 5 (yrs (A 5) k) → Y X G 5 0 0 5 [some (qr G 122), some (.int (nI (o))), some (.int (nI (n))), some (.int (bI (soB (B 2) o (A 5) k = true))), some (.int (nI (k)))] [] (hm G U i A' B) := by
  intro m
  induction m with
  | zero =>
    intro k A' hk hA
    have e5 : A' 5 = yrs (A 5) k := by rw [hA]; exact up_eq _ _ _
    have e18 : A' 18 = A 18 := by rw [hA]; exact up_ne _ _ (by decide)
    obtain rfl : k = n := by omega
    refine y_iload C D_X7_isSo_5 rfl ?_
    refine y_iload_n C D_X7_isSo_7 rfl ?_
    refine y_icmp_ge C D_X7_isSo_8 (n_le (by omega) (by omega)) (fun c_8 => ?_) (fun c_8 => absurd (Nat.le_refl _) c_8)
    refine y_aload_n C D_X7_isSo_49 rfl ?_
    refine z_callVv C D_X7_isSo_50 lk_X7_191 (c_X7_takeBack hU) (hm_o hU) rfl rfl (Nat.le_of_ble_eq_true rfl) (Nat.le_of_ble_eq_true rfl) ⟨Nat.zero_le _, Nat.zero_le _⟩ ?_
    refine y_iload_n C D_X7_isSo_53 rfl ?_
    exact y_zret C E D_X7_isSo_54 bI_nar (rfl) (by rw [e18, e5, hA, bx_uu])
  | succ m ih =>
    intro k A' hk hA
    have e5 : A' 5 = yrs (A 5) k := by rw [hA]; exact up_eq _ _ _
    have e4 : yrs (A 5) k 4 = A 5 4 + k := yrs_4 _ k
    have z := ih (k + 1) (va_up A' 5 (yr (A' 5))) (by omega) (by rw [e5, hA, bx_uu]; rfl)
    refine y_iload C D_X7_isSo_5 rfl ?_
    refine y_iload_n C D_X7_isSo_7 rfl ?_
    refine y_icmp_ge C D_X7_isSo_8 (n_le (by omega) (by omega)) (fun c_8 => absurd c_8 (by omega)) (fun c_8 => ?_)
    refine y_aload_n C D_X7_isSo_11 rfl ?_
    refine z_callVv C D_X7_isSo_12 lk_X7_168 (c_X7_oneYear hU (by rw [e5]; exact hV.yrs k) (by rw [e5, e4]; omega)) (hm_o hU) rfl rfl (Nat.le_of_ble_eq_true rfl) (Nat.le_of_ble_eq_true rfl) ⟨Nat.zero_le _, Nat.zero_le _⟩ ?_
    have w5 : va_up A' 5 (yr (A' 5)) 5 = yrs (A 5) (k + 1) := by rw [up_eq, e5]; rfl
    refine y_iload_n C D_X7_isSo_15 rfl ?_
    refine z_ifeqB C D_X7_isSo_16 (fun c_16 => ?_) (fun c_16 => ?_)
    · refine y_iconst C D_X7_isSo_41 ki_0 ?_
      refine y_istore_n C D_X7_isSo_42 (by decide) (qok_s rfl rfl) ?_
      refine z_iinc (n := 1) C D_X7_isSo_43 rfl (by decide) (qok_s rfl rfl) ?_
      refine y_goto C D_X7_isSo_46 ?_
      rw [bI_0 (by simp [soB, c_16])] at z
      exact z
    · refine y_aload_n C D_X7_isSo_19 rfl ?_
      refine y_get C D_X7_isSo_20 fl_X7_16 (hm_o hU) rfl ?_
      refine y_iload_n C D_X7_isSo_23 rfl ?_
      refine y_iload C D_X7_isSo_24 rfl ?_
      refine z_iadd C D_X7_isSo_26 ?_
      refine z_ild C D_X7_isSo_27 (hm_items hU) (by omega) (by decide) rfl ?_
      refine y_aload_n C D_X7_isSo_28 rfl ?_
      refine y_get C D_X7_isSo_29 fl_X7_19 (hm_o hU) rfl ?_
      refine y_iconst C D_X7_isSo_32 ki_5 ?_
      refine z_ild C D_X7_isSo_33 (hm_st hU) (by omega) (by decide) rfl ?_
      rw [w5]
      refine y_icmp_ne C D_X7_isSo_34 Iff.rfl (fun c_34 => ?_) (fun c_34 => ?_)
      · refine y_iconst C D_X7_isSo_41 ki_0 ?_
        refine y_istore_n C D_X7_isSo_42 (by decide) (qok_s rfl rfl) ?_
        refine z_iinc (n := 1) C D_X7_isSo_43 rfl (by decide) (qok_s rfl rfl) ?_
        refine y_goto C D_X7_isSo_46 ?_
        rw [bI_0 (by simp [soB, c_34])] at z
        exact z
      · refine y_iconst C D_X7_isSo_37 ki_1 ?_
        refine y_goto C D_X7_isSo_38 ?_
        refine y_istore_n C D_X7_isSo_42 (by decide) (qok_s rfl rfl) ?_
        refine z_iinc (n := 1) C D_X7_isSo_43 rfl (by decide) (qok_s rfl rfl) ?_
        refine y_goto C D_X7_isSo_46 ?_
        rw [bI_1 (by simp [soB, c_16, c_34])] at z
        exact z
theorem c_X7_isSo (hU : U.length = 122) {o n : Nat} (hV : Va (A 5)) (h4 : A 5 4 + n < 1999) (ho : o + n ≤ 320) : Ct l G yX7_isSo 5 [qr G 122, .int (nI o), .int (nI n)] (hm G U i A B) (some (.int (bI (soB (B 2) o (A 5) n = true)))) (hm G U i (va_up A 5 (va_cpy (A 18) (yrs (A 5) n) 0 0 51)) B) := by
  refine ctm_intro (maxL := 5) kw_X7_isSo (by decide) (by decide) [some (qr G 122), some (.int (nI o)), some (.int (nI n)), none, none] rfl (Nat.le_of_ble_eq_true rfl) ?_
  intro X _ hcl hsl _ _ C E
  refine y_iconst C D_X7_isSo_0 ki_1 ?_
  refine y_istore_n C D_X7_isSo_1 (by decide) (qok_s rfl rfl) ?_
  refine y_iconst C D_X7_isSo_2 ki_0 ?_
  refine y_istore C D_X7_isSo_3 (by decide) (qok_s rfl rfl) ?_
  have z := lp_X7_isSo hU hV h4 ho C E n 0 A (by omega) (up_id A 5).symm
  rw [bI_1 (show soB (B 2) o (A 5) 0 = true from rfl)] at z
  exact z
theorem c_X7_lacksN (hU : U.length = 122) {q n : Nat} {x : Int32} (hq : q < 8) (hz : B 1 q = -1) : Ct l G yX7_lacks 1 [qr G 122, .int (nI q), .int x, .int (nI n)] (hm G U i A B) (some (.int (-1000010 - nI 1))) (hm G U (va_up i 3 1) A B) := by
  refine ctm_intro (maxL := 4) kw_X7_lacks (by decide) (by decide) [some (qr G 122), some (.int (nI q)), some (.int x), some (.int (nI n))] rfl (Nat.le_of_ble_eq_true rfl) ?_
  intro X _ hcl hsl _ _ C E
  refine y_aload_n C D_X7_lacks_0 rfl ?_
  refine y_get C D_X7_lacks_1 fl_X7_13 (hm_o hU) rfl ?_
  refine y_iload_n C D_X7_lacks_4 rfl ?_
  refine z_ild C D_X7_lacks_5 (hm_sizes hU) (by omega) (by decide) rfl ?_
  rw [hz]
  refine z_ifgeM C D_X7_lacks_6 ?_
  refine y_aload_n C D_X7_lacks_9 rfl ?_
  refine y_iconst C D_X7_lacks_10 ki_1 ?_
  refine z_callV C D_X7_lacks_11 lk_X7_68 (c_X7_find hU) (hm_o hU) rfl rfl (Nat.le_of_ble_eq_true rfl) (Nat.le_of_ble_eq_true rfl) ⟨Nat.zero_le _, Nat.zero_le _⟩ ?_
  exact y_iret C E D_X7_lacks_14 (rfl) (rfl)
theorem c_X7_lacksP (hU : U.length = 122) {q n z : Nat} {x : Int32} (hq : q < 8) (hn : n ≤ 12) (hz : B 1 q = nI z) (hz40 : z ≤ 40) (hp : ¬ plc x n z) : Ct l G yX7_lacks 1 [qr G 122, .int (nI q), .int x, .int (nI n)] (hm G U i A B) (some (.int (-1000010 - nI 2))) (hm G U (va_up i 3 2) A B) := by
  refine ctm_intro (maxL := 4) kw_X7_lacks (by decide) (by decide) [some (qr G 122), some (.int (nI q)), some (.int x), some (.int (nI n))] rfl (Nat.le_of_ble_eq_true rfl) ?_
  intro X _ hcl hsl _ _ C E
  refine y_aload_n C D_X7_lacks_0 rfl ?_
  refine y_get C D_X7_lacks_1 fl_X7_13 (hm_o hU) rfl ?_
  refine y_iload_n C D_X7_lacks_4 rfl ?_
  refine z_ild C D_X7_lacks_5 (hm_sizes hU) (by omega) (by decide) rfl ?_
  rw [hz]
  refine y_if_ge C D_X7_lacks_6 (n_ge0 (by omega)) (fun _ => ?_) (fun q => absurd trivial q)
  refine y_iload_n C D_X7_lacks_15 rfl ?_
  refine y_i2l C D_X7_lacks_16 ?_
  refine y_lconst C D_X7_lacks_17 rfl ?_
  refine y_aload_n C D_X7_lacks_18 rfl ?_
  refine y_get C D_X7_lacks_19 fl_X7_13 (hm_o hU) rfl ?_
  refine y_iload_n C D_X7_lacks_22 rfl ?_
  refine z_ild C D_X7_lacks_23 (hm_sizes hU) (by omega) (by decide) rfl ?_
  rw [hz]
  refine y_iload_n C D_X7_lacks_24 rfl ?_
  refine y_isub C D_X7_lacks_25 ?_
  refine y_i2l C D_X7_lacks_26 ?_
  refine z_callS C D_X7_lacks_27 lk_X7_57 (c_X7_in) rfl rfl (Nat.le_of_ble_eq_true rfl) (Nat.le_of_ble_eq_true rfl) ⟨Nat.zero_le _, Nat.zero_le _⟩ ?_
  refine y_top (bI_c (in_plc (n := n) (z := z) (by omega) (by omega) (pk_sub_toInt (by omega) (by omega)))) ?_
  refine z_ifeqB C D_X7_lacks_30 (fun c_30 => ?_) (fun c_30 => absurd c_30 hp)
  refine y_aload_n C D_X7_lacks_37 rfl ?_
  refine y_iconst C D_X7_lacks_38 ki_2 ?_
  refine z_callV C D_X7_lacks_39 lk_X7_68 (c_X7_find hU) (hm_o hU) rfl rfl (Nat.le_of_ble_eq_true rfl) (Nat.le_of_ble_eq_true rfl) ⟨Nat.zero_le _, Nat.zero_le _⟩ ?_
  exact y_iret C E D_X7_lacks_42 (rfl) (rfl)
theorem c_X7_lacks (hU : U.length = 122) {q n z : Nat} {x : Int32} (hq : q < 8) (hn : n ≤ 12) (hz : B 1 q = nI z) (hz40 : z ≤ 40) (hp : plc x n z) : Ct l G yX7_lacks 1 [qr G 122, .int (nI q), .int x, .int (nI n)] (hm G U i A B) (some (.int (nI 0))) (hm G U i A B) := by
  refine ctm_intro (maxL := 4) kw_X7_lacks (by decide) (by decide) [some (qr G 122), some (.int (nI q)), some (.int x), some (.int (nI n))] rfl (Nat.le_of_ble_eq_true rfl) ?_
  intro X _ hcl hsl _ _ C E
  refine y_aload_n C D_X7_lacks_0 rfl ?_
  refine y_get C D_X7_lacks_1 fl_X7_13 (hm_o hU) rfl ?_
  refine y_iload_n C D_X7_lacks_4 rfl ?_
  refine z_ild C D_X7_lacks_5 (hm_sizes hU) (by omega) (by decide) rfl ?_
  rw [hz]
  refine y_if_ge C D_X7_lacks_6 (n_ge0 (by omega)) (fun _ => ?_) (fun q => absurd trivial q)
  refine y_iload_n C D_X7_lacks_15 rfl ?_
  refine y_i2l C D_X7_lacks_16 ?_
  refine y_lconst C D_X7_lacks_17 rfl ?_
  refine y_aload_n C D_X7_lacks_18 rfl ?_
  refine y_get C D_X7_lacks_19 fl_X7_13 (hm_o hU) rfl ?_
  refine y_iload_n C D_X7_lacks_22 rfl ?_
  refine z_ild C D_X7_lacks_23 (hm_sizes hU) (by omega) (by decide) rfl ?_
  rw [hz]
  refine y_iload_n C D_X7_lacks_24 rfl ?_
  refine y_isub C D_X7_lacks_25 ?_
  refine y_i2l C D_X7_lacks_26 ?_
  refine z_callS C D_X7_lacks_27 lk_X7_57 (c_X7_in) rfl rfl (Nat.le_of_ble_eq_true rfl) (Nat.le_of_ble_eq_true rfl) ⟨Nat.zero_le _, Nat.zero_le _⟩ ?_
  refine y_top (bI_c (in_plc (n := n) (z := z) (by omega) (by omega) (pk_sub_toInt (by omega) (by omega)))) ?_
  refine z_ifeqB C D_X7_lacks_30 (fun c_30 => absurd hp c_30) (fun c_30 => ?_)
  refine y_iconst C D_X7_lacks_33 ki_0 ?_
  refine y_goto C D_X7_lacks_34 ?_
  exact y_iret C E D_X7_lacks_42 (rfl) (rfl)
end
