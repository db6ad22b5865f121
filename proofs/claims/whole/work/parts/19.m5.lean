section
variable {l : Launch} {G : qG} {U : List va_E} {i : Nat → Nat} {A : Nat → Nat → Nat} {B : Nat → Nat → Int32} {h : List va_E}
theorem c_X7_nt (hU : U.length = 122) (hi : i 17 ≤ 24) : Ct l G yX7_note 0 [qr G 122] (hm G U i A B) none (hm G U (ntI i) (va_up A 16 (ntA i A)) B) := by
  unfold ntI ntA
  by_cases h : i 17 < 24
  · rw [if_pos h, if_pos h]
    exact c_X7_note hU h
  · rw [if_neg h, if_neg h]
    exact c_X7_noteF hU (by omega)
theorem lp_X7_suppered {X : qX} {r : Option Value} (hU : U.length = 122) (h3 : A 5 3 ≤ 5) (C : qC X G cX7_suppered 3 RX7 0) (E : qE X G (some .int) 0 0 r (hm G U i A B)) (hr : r = some (.int (nI (spn (A 5) (A 5 3))))) : ∀ (n q : Nat), q + n = A 5 3 → Y X G 3 0 0 4 [some (qr G 122), some (.int (nI (spn (A 5) q))), some (.int (nI (q)))] [] (hm G U i A B) := by
  intro n
  induction n with
  | zero =>
    intro q hq
    obtain rfl : q = A 5 3 := by omega
    refine y_iload_n C D_X7_suppered_4 rfl ?_
    refine y_aload_n C D_X7_suppered_5 rfl ?_
    refine y_get C D_X7_suppered_6 fl_X7_19 (hm_o hU) rfl ?_
    refine y_iconst C D_X7_suppered_9 ki_3 ?_
    refine z_ild C D_X7_suppered_10 (hm_st hU) (by omega) (by decide) rfl ?_
    refine y_icmp_ge C D_X7_suppered_11 (n_le (by omega) (by omega)) (fun c_11 => ?_) (fun c_11 => absurd (Nat.le_refl _) c_11)
    refine y_iload_n C D_X7_suppered_34 rfl ?_
    exact y_iret C E D_X7_suppered_35 (hr.symm) (rfl)
  | succ n ih =>
    intro q hq
    refine y_iload_n C D_X7_suppered_4 rfl ?_
    refine y_aload_n C D_X7_suppered_5 rfl ?_
    refine y_get C D_X7_suppered_6 fl_X7_19 (hm_o hU) rfl ?_
    refine y_iconst C D_X7_suppered_9 ki_3 ?_
    refine z_ild C D_X7_suppered_10 (hm_st hU) (by omega) (by decide) rfl ?_
    refine y_icmp_ge C D_X7_suppered_11 (n_le (by omega) (by omega)) (fun c_11 => absurd c_11 (by omega)) (fun c_11 => ?_)
    refine y_iload_n C D_X7_suppered_14 rfl ?_
    refine y_aload_n C D_X7_suppered_15 rfl ?_
    refine y_get C D_X7_suppered_16 fl_X7_19 (hm_o hU) rfl ?_
    refine y_bipush C D_X7_suppered_19 kb_11 ?_
    refine y_iload_n C D_X7_suppered_21 rfl ?_
    refine z_iadd C D_X7_suppered_22 ?_
    refine z_ild C D_X7_suppered_23 (hm_st hU) (by omega) (by decide) rfl ?_
    refine y_iload_n C D_X7_suppered_24 rfl ?_
    refine z_ishl C D_X7_suppered_25 (by omega) ?_
    refine z_ior C D_X7_suppered_26 ?_
    refine y_istore_n C D_X7_suppered_27 (by decide) (qok_s rfl rfl) ?_
    refine z_iinc (n := 1) C D_X7_suppered_28 rfl (by decide) (qok_s rfl rfl) ?_
    refine y_goto C D_X7_suppered_31 ?_
    exact ih (q + 1) (by omega)
theorem c_X7_suppered (hU : U.length = 122) (h3 : A 5 3 ≤ 5) : Ct l G yX7_suppered 0 [qr G 122] (hm G U i A B) (some (.int (nI (spn (A 5) (A 5 3))))) (hm G U i A B) := by
  refine ctm_intro (maxL := 3) kw_X7_suppered (by decide) (by decide) [some (qr G 122), none, none] rfl (Nat.le_of_ble_eq_true rfl) ?_
  intro X _ hcl hsl _ _ C E
  refine y_iconst C D_X7_suppered_0 ki_0 ?_
  refine y_istore_n C D_X7_suppered_1 (by decide) (qok_s rfl rfl) ?_
  refine y_iconst C D_X7_suppered_2 ki_0 ?_
  refine y_istore_n C D_X7_suppered_3 (by decide) (qok_s rfl rfl) ?_
  exact lp_X7_suppered hU h3 C E rfl (A 5 3) 0 (by omega)
theorem lp_X7_memoryBy {X : qX} {r : Option Value} {q : Nat} (hU : U.length = 122) (hq : q < 5) (h0 : A 5 0 ≤ 6) (C : qC X G cX7_memoryBy 4 RX7 1) (E : qE X G (some .int) 0 0 r (hm G U i A B)) (hr : r = some (.int (nI (mbn (A 5) q (A 5 0))))) : ∀ (n g : Nat), g + n = A 5 0 → Y X G 4 0 0 4 [some (qr G 122), some (.int (nI (q))), some (.int (nI (mbn (A 5) q g))), some (.int (nI (g)))] [] (hm G U i A B) := by
  intro n
  induction n with
  | zero =>
    intro g hg
    obtain rfl : g = A 5 0 := by omega
    refine y_iload_n C D_X7_memoryBy_4 rfl ?_
    refine y_aload_n C D_X7_memoryBy_5 rfl ?_
    refine y_get C D_X7_memoryBy_6 fl_X7_19 (hm_o hU) rfl ?_
    refine y_iconst C D_X7_memoryBy_9 ki_0 ?_
    refine z_ild C D_X7_memoryBy_10 (hm_st hU) (by omega) (by decide) rfl ?_
    refine y_icmp_ge C D_X7_memoryBy_11 (n_le (by omega) (by omega)) (fun c_11 => ?_) (fun c_11 => absurd (Nat.le_refl _) c_11)
    refine y_iload_n C D_X7_memoryBy_29 rfl ?_
    exact y_iret C E D_X7_memoryBy_30 (hr.symm) (rfl)
  | succ n ih =>
    intro g hg
    refine y_iload_n C D_X7_memoryBy_4 rfl ?_
    refine y_aload_n C D_X7_memoryBy_5 rfl ?_
    refine y_get C D_X7_memoryBy_6 fl_X7_19 (hm_o hU) rfl ?_
    refine y_iconst C D_X7_memoryBy_9 ki_0 ?_
    refine z_ild C D_X7_memoryBy_10 (hm_st hU) (by omega) (by decide) rfl ?_
    refine y_icmp_ge C D_X7_memoryBy_11 (n_le (by omega) (by omega)) (fun c_11 => absurd c_11 (by omega)) (fun c_11 => ?_)
    refine y_iload_n C D_X7_memoryBy_14 rfl ?_
    refine y_aload_n C D_X7_memoryBy_15 rfl ?_
    refine y_iload_n C D_X7_memoryBy_16 rfl ?_
    refine y_iload_n C D_X7_memoryBy_17 rfl ?_
    refine z_callV C D_X7_memoryBy_18 lk_X7_146 (c_X7_memoryOf hU (by omega) (by omega)) (hm_o hU) rfl rfl (Nat.le_of_ble_eq_true rfl) (Nat.le_of_ble_eq_true rfl) ⟨Nat.zero_le _, Nat.zero_le _⟩ ?_
    refine z_iadd C D_X7_memoryBy_21 ?_
    refine y_istore_n C D_X7_memoryBy_22 (by decide) (qok_s rfl rfl) ?_
    refine z_iinc (n := 1) C D_X7_memoryBy_23 rfl (by decide) (qok_s rfl rfl) ?_
    refine y_goto C D_X7_memoryBy_26 ?_
    exact ih (g + 1) (by omega)
theorem c_X7_memoryBy (hU : U.length = 122) {q : Nat} (hq : q < 5) (h0 : A 5 0 ≤ 6) : Ct l G yX7_memoryBy 1 [qr G 122, .int (nI q)] (hm G U i A B) (some (.int (nI (mbn (A 5) q (A 5 0))))) (hm G U i A B) := by
  refine ctm_intro (maxL := 4) kw_X7_memoryBy (by decide) (by decide) [some (qr G 122), some (.int (nI q)), none, none] rfl (Nat.le_of_ble_eq_true rfl) ?_
  intro X _ hcl hsl _ _ C E
  refine y_iconst C D_X7_memoryBy_0 ki_0 ?_
  refine y_istore_n C D_X7_memoryBy_1 (by decide) (qok_s rfl rfl) ?_
  refine y_iconst C D_X7_memoryBy_2 ki_0 ?_
  refine y_istore_n C D_X7_memoryBy_3 (by decide) (qok_s rfl rfl) ?_
  exact lp_X7_memoryBy hU hq h0 C E rfl (A 5 0) 0 (by omega)
theorem c_X7_supperB (hU : U.length = 122) (h3 : A 5 3 ≤ 5) {x : Int32} (hx : ¬ isx x (A 5 3)) : Ct l G yX7_supper 3 [qr G 122, .int x] (hm G U i A B) (some (.int (-1000001))) (hm G U i A B) := by
  refine ctm_intro (maxL := 2) kw_X7_supper (by decide) (by decide) [some (qr G 122), some (.int x)] rfl (Nat.le_of_ble_eq_true rfl) ?_
  intro X _ hcl hsl _ _ C E
  refine y_aload_n C D_X7_supper_0 rfl ?_
  refine y_iload_n C D_X7_supper_1 rfl ?_
  refine z_callV C D_X7_supper_2 lk_X7_171 (c_X7_isSleeper hU (by omega)) (hm_o hU) rfl rfl (Nat.le_of_ble_eq_true rfl) (Nat.le_of_ble_eq_true rfl) ⟨Nat.zero_le _, Nat.zero_le _⟩ ?_
  refine z_ifneB C D_X7_supper_5 (fun c_5 => absurd c_5 hx) (fun c_5 => ?_)
  refine y_ldc C D_X7_supper_8 lk_X7_67 ?_
  exact y_iret C E D_X7_supper_10 (rfl) (rfl)
theorem c_X7_supperS (hU : U.length = 122) (h3 : A 5 3 ≤ 5) {s : Nat} (hs1 : s < A 5 3) (hz : A 5 (11 + s) = 1) : Ct l G yX7_supper 3 [qr G 122, .int (nI s)] (hm G U i A B) (some (.int (-1000002))) (hm G U i A B) := by
  refine ctm_intro (maxL := 2) kw_X7_supper (by decide) (by decide) [some (qr G 122), some (.int (nI s))] rfl (Nat.le_of_ble_eq_true rfl) ?_
  intro X _ hcl hsl _ _ C E
  refine y_aload_n C D_X7_supper_0 rfl ?_
  refine y_iload_n C D_X7_supper_1 rfl ?_
  refine z_callV C D_X7_supper_2 lk_X7_171 (c_X7_isSleeper hU (by omega)) (hm_o hU) rfl rfl (Nat.le_of_ble_eq_true rfl) (Nat.le_of_ble_eq_true rfl) ⟨Nat.zero_le _, Nat.zero_le _⟩ ?_
  refine z_ifneB C D_X7_supper_5 (fun c_5 => ?_) (fun c_5 => absurd (isx_n (by omega) hs1) c_5)
  refine y_aload_n C D_X7_supper_11 rfl ?_
  refine y_get C D_X7_supper_12 fl_X7_19 (hm_o hU) rfl ?_
  refine y_bipush C D_X7_supper_15 kb_11 ?_
  refine y_iload_n C D_X7_supper_17 rfl ?_
  refine z_iadd C D_X7_supper_18 ?_
  refine z_ild C D_X7_supper_19 (hm_st hU) (by omega) (by decide) rfl ?_
  refine y_iconst C D_X7_supper_20 ki_1 ?_
  refine y_icmp_ne C D_X7_supper_21 (n_eq (by omega) (by omega)) (fun c_21 => absurd hz c_21) (fun c_21 => ?_)
  refine y_ldc C D_X7_supper_24 lk_X7_162 ?_
  exact y_iret C E D_X7_supper_26 (rfl) (rfl)
theorem c_X7_supper (hU : U.length = 122) (h3 : A 5 3 ≤ 5) {s : Nat} (hV : Va (A 5)) (hi : i 17 ≤ 24) (hs1 : s < A 5 3) (hz : A 5 (11 + s) = 0) : Ct l G yX7_supper 3 [qr G 122, .int (nI s)] (hm G U i A B) (some (.int (nI (ones (spn (va_up (A 5) (11 + s) 1) (A 5 3)))))) (hm G U (ntI i) (va_up (va_up A 16 (ntA i A)) 5 (va_up (A 5) (11 + s) 1)) B) := by
  refine ctm_intro (maxL := 2) kw_X7_supper (by decide) (by decide) [some (qr G 122), some (.int (nI s))] rfl (Nat.le_of_ble_eq_true rfl) ?_
  intro X _ hcl hsl _ _ C E
  refine y_aload_n C D_X7_supper_0 rfl ?_
  refine y_iload_n C D_X7_supper_1 rfl ?_
  refine z_callV C D_X7_supper_2 lk_X7_171 (c_X7_isSleeper hU (by omega)) (hm_o hU) rfl rfl (Nat.le_of_ble_eq_true rfl) (Nat.le_of_ble_eq_true rfl) ⟨Nat.zero_le _, Nat.zero_le _⟩ ?_
  refine z_ifneB C D_X7_supper_5 (fun c_5 => ?_) (fun c_5 => absurd (isx_n (by omega) hs1) c_5)
  refine y_aload_n C D_X7_supper_11 rfl ?_
  refine y_get C D_X7_supper_12 fl_X7_19 (hm_o hU) rfl ?_
  refine y_bipush C D_X7_supper_15 kb_11 ?_
  refine y_iload_n C D_X7_supper_17 rfl ?_
  refine z_iadd C D_X7_supper_18 ?_
  refine z_ild C D_X7_supper_19 (hm_st hU) (by omega) (by decide) rfl ?_
  refine y_iconst C D_X7_supper_20 ki_1 ?_
  refine y_icmp_ne C D_X7_supper_21 (n_eq (by omega) (by omega)) (fun c_21 => ?_) (fun c_21 => absurd c_21 (by omega))
  refine y_aload_n C D_X7_supper_27 rfl ?_
  refine z_callVv C D_X7_supper_28 lk_X7_165 (c_X7_nt hU hi) (hm_o hU) rfl rfl (Nat.le_of_ble_eq_true rfl) (Nat.le_of_ble_eq_true rfl) ⟨Nat.zero_le _, Nat.zero_le _⟩ ?_
  have e5 : va_up A 16 (ntA i A) 5 = A 5 := up_ne _ _ (by decide)
  refine y_aload_n C D_X7_supper_31 rfl ?_
  refine y_get C D_X7_supper_32 fl_X7_19 (hm_o hU) rfl ?_
  refine y_bipush C D_X7_supper_35 kb_11 ?_
  refine y_iload_n C D_X7_supper_37 rfl ?_
  refine z_iadd C D_X7_supper_38 ?_
  refine y_iconst C D_X7_supper_39 ki_1 ?_
  refine z_ist C D_X7_supper_40 (hm_st hU) (by omega) (by decide) (hm_wst hU _ _) ?_
  refine y_aload_n C D_X7_supper_41 rfl ?_
  rw [e5]
  have q5 : va_up (va_up A 16 (ntA i A)) 5 (va_up (A 5) (11 + s) 1) 5 = va_up (A 5) (11 + s) 1 := up_eq _ _ _
  refine z_callV C D_X7_supper_42 lk_X7_174 (c_X7_suppered hU (by rw [q5]; rw [up_ne _ _ (by omega)]; omega)) (hm_o hU) rfl rfl (Nat.le_of_ble_eq_true rfl) (Nat.le_of_ble_eq_true rfl) ⟨Nat.zero_le _, Nat.zero_le _⟩ ?_
  rw [q5, up_ne _ _ (by omega : (3 : Nat) ≠ 11 + s)]
  have hlt : spn (va_up (A 5) (11 + s) 1) (A 5 3) < 32 := spn_lt (up_sup hV.sup) _ (by omega)
  refine z_callS C D_X7_supper_45 lk_X7_177 (c_X7_ones hlt) rfl rfl (Nat.le_of_ble_eq_true rfl) (Nat.le_of_ble_eq_true rfl) ⟨Nat.zero_le _, Nat.zero_le _⟩ ?_
  exact y_iret C E D_X7_supper_48 (rfl) (rfl)
theorem c_X7_feverB (hU : U.length = 122) (h3 : A 5 3 ≤ 5) {x : Int32} (hx : ¬ isx x (A 5 3)) : Ct l G yX7_fever 3 [qr G 122, .int x] (hm G U i A B) (some (.int (-1000001))) (hm G U i A B) := by
  refine ctm_intro (maxL := 2) kw_X7_fever (by decide) (by decide) [some (qr G 122), some (.int x)] rfl (Nat.le_of_ble_eq_true rfl) ?_
  intro X _ hcl hsl _ _ C E
  refine y_aload_n C D_X7_fever_0 rfl ?_
  refine y_iload_n C D_X7_fever_1 rfl ?_
  refine z_callV C D_X7_fever_2 lk_X7_171 (c_X7_isSleeper hU (by omega)) (hm_o hU) rfl rfl (Nat.le_of_ble_eq_true rfl) (Nat.le_of_ble_eq_true rfl) ⟨Nat.zero_le _, Nat.zero_le _⟩ ?_
  refine z_ifneB C D_X7_fever_5 (fun c_5 => absurd c_5 hx) (fun c_5 => ?_)
  refine y_ldc C D_X7_fever_8 lk_X7_67 ?_
  exact y_iret C E D_X7_fever_10 (rfl) (rfl)
theorem c_X7_feverS (hU : U.length = 122) (h3 : A 5 3 ≤ 5) {s : Nat} (hs1 : s < A 5 3) (hz : A 5 (16 + s) = 1) : Ct l G yX7_fever 3 [qr G 122, .int (nI s)] (hm G U i A B) (some (.int (-1000002))) (hm G U i A B) := by
  refine ctm_intro (maxL := 2) kw_X7_fever (by decide) (by decide) [some (qr G 122), some (.int (nI s))] rfl (Nat.le_of_ble_eq_true rfl) ?_
  intro X _ hcl hsl _ _ C E
  refine y_aload_n C D_X7_fever_0 rfl ?_
  refine y_iload_n C D_X7_fever_1 rfl ?_
  refine z_callV C D_X7_fever_2 lk_X7_171 (c_X7_isSleeper hU (by omega)) (hm_o hU) rfl rfl (Nat.le_of_ble_eq_true rfl) (Nat.le_of_ble_eq_true rfl) ⟨Nat.zero_le _, Nat.zero_le _⟩ ?_
  refine z_ifneB C D_X7_fever_5 (fun c_5 => ?_) (fun c_5 => absurd (isx_n (by omega) hs1) c_5)
  refine y_aload_n C D_X7_fever_11 rfl ?_
  refine y_get C D_X7_fever_12 fl_X7_19 (hm_o hU) rfl ?_
  refine y_bipush C D_X7_fever_15 kb_16 ?_
  refine y_iload_n C D_X7_fever_17 rfl ?_
  refine z_iadd C D_X7_fever_18 ?_
  refine z_ild C D_X7_fever_19 (hm_st hU) (by omega) (by decide) rfl ?_
  refine y_iconst C D_X7_fever_20 ki_1 ?_
  refine y_icmp_ne C D_X7_fever_21 (n_eq (by omega) (by omega)) (fun c_21 => absurd hz c_21) (fun c_21 => ?_)
  refine y_ldc C D_X7_fever_24 lk_X7_162 ?_
  exact y_iret C E D_X7_fever_26 (rfl) (rfl)
theorem c_X7_fever (hU : U.length = 122) {s : Nat} (hV : Va (A 5)) (h4 : A 5 4 < 1999) (hi : i 17 ≤ 24) (hs1 : s < A 5 3) (hz : A 5 (16 + s) = 0) : Ct l G yX7_fever 3 [qr G 122, .int (nI s)] (hm G U i A B) (some (.int (nI (dr (va_up (A 5) (16 + s) 1) s)))) (hm G U (ntI i) (va_up (va_up A 16 (ntA i A)) 5 (va_up (A 5) (16 + s) 1)) B) := by
  refine ctm_intro (maxL := 2) kw_X7_fever (by decide) (by decide) [some (qr G 122), some (.int (nI s))] rfl (Nat.le_of_ble_eq_true rfl) ?_
  intro X _ hcl hsl _ _ C E
  have v0 := hV.1
  have v1 := hV.2.1
  have v2 := hV.2.2.1
  have v3 := hV.2.2.2.1
  have v5 := hV.k64
  have hB : ∀ k, A 5 k < 2000 := fun k => hV.lt (by omega) k
  refine y_aload_n C D_X7_fever_0 rfl ?_
  refine y_iload_n C D_X7_fever_1 rfl ?_
  refine z_callV C D_X7_fever_2 lk_X7_171 (c_X7_isSleeper hU (by omega)) (hm_o hU) rfl rfl (Nat.le_of_ble_eq_true rfl) (Nat.le_of_ble_eq_true rfl) ⟨Nat.zero_le _, Nat.zero_le _⟩ ?_
  refine z_ifneB C D_X7_fever_5 (fun c_5 => ?_) (fun c_5 => absurd (isx_n (by omega) hs1) c_5)
  refine y_aload_n C D_X7_fever_11 rfl ?_
  refine y_get C D_X7_fever_12 fl_X7_19 (hm_o hU) rfl ?_
  refine y_bipush C D_X7_fever_15 kb_16 ?_
  refine y_iload_n C D_X7_fever_17 rfl ?_
  refine z_iadd C D_X7_fever_18 ?_
  refine z_ild C D_X7_fever_19 (hm_st hU) (by omega) (by decide) rfl ?_
  refine y_iconst C D_X7_fever_20 ki_1 ?_
  refine y_icmp_ne C D_X7_fever_21 (n_eq (by omega) (by omega)) (fun c_21 => ?_) (fun c_21 => absurd c_21 (by omega))
  refine y_aload_n C D_X7_fever_27 rfl ?_
  refine z_callVv C D_X7_fever_28 lk_X7_165 (c_X7_nt hU hi) (hm_o hU) rfl rfl (Nat.le_of_ble_eq_true rfl) (Nat.le_of_ble_eq_true rfl) ⟨Nat.zero_le _, Nat.zero_le _⟩ ?_
  have e5 : va_up A 16 (ntA i A) 5 = A 5 := up_ne _ _ (by decide)
  refine y_aload_n C D_X7_fever_31 rfl ?_
  refine y_get C D_X7_fever_32 fl_X7_19 (hm_o hU) rfl ?_
  refine y_bipush C D_X7_fever_35 kb_16 ?_
  refine y_iload_n C D_X7_fever_37 rfl ?_
  refine z_iadd C D_X7_fever_38 ?_
  refine y_iconst C D_X7_fever_39 ki_1 ?_
  refine z_ist C D_X7_fever_40 (hm_st hU) (by omega) (by decide) (hm_wst hU _ _) ?_
  refine y_aload_n C D_X7_fever_41 rfl ?_
  refine y_iload_n C D_X7_fever_42 rfl ?_
  rw [e5]
  have q5 : va_up (va_up A 16 (ntA i A)) 5 (va_up (A 5) (16 + s) 1) 5 = va_up (A 5) (16 + s) 1 := up_eq _ _ _
  have q0 : va_up (A 5) (16 + s) 1 0 = A 5 0 := up_ne _ _ (by omega)
  refine z_callV C D_X7_fever_43 lk_X7_152 (c_X7_dreams hU (by omega) (by rw [q5, q0]; exact v0.1) (by rw [q5, q0]; exact v0.2) (by rw [q5]; exact up_lt hB (by decide)) (by rw [q5, up_ne _ _ (by omega)]; exact v5)) (hm_o hU) rfl rfl (Nat.le_of_ble_eq_true rfl) (Nat.le_of_ble_eq_true rfl) ⟨Nat.zero_le _, Nat.zero_le _⟩ ?_
  rw [q5]
  exact y_iret C E D_X7_fever_46 (rfl) (rfl)
theorem c_X7_tellB (hU : U.length = 122) (h3 : A 5 3 ≤ 5) (h0 : A 5 0 ≤ 6) {sx gx : Int32} (hx : ¬ isx sx (A 5 3) ∨ ¬ isx gx (A 5 0)) : Ct l G yX7_tell 3 [qr G 122, .int sx, .int gx] (hm G U i A B) (some (.int (-1000001))) (hm G U i A B) := by
  refine ctm_intro (maxL := 4) kw_X7_tell (by decide) (by decide) [some (qr G 122), some (.int sx), some (.int gx), none] rfl (Nat.le_of_ble_eq_true rfl) ?_
  intro X _ hcl hsl _ _ C E
  refine y_aload_n C D_X7_tell_0 rfl ?_
  refine y_iload_n C D_X7_tell_1 rfl ?_
  refine z_callV C D_X7_tell_2 lk_X7_171 (c_X7_isSleeper hU (by omega)) (hm_o hU) rfl rfl (Nat.le_of_ble_eq_true rfl) (Nat.le_of_ble_eq_true rfl) ⟨Nat.zero_le _, Nat.zero_le _⟩ ?_
  refine z_ifeqB C D_X7_tell_5 (fun c_5 => ?_) (fun c_5 => ?_)
  · refine y_ldc C D_X7_tell_16 lk_X7_67 ?_
    exact y_iret C E D_X7_tell_18 (rfl) (rfl)
  · refine y_aload_n C D_X7_tell_8 rfl ?_
    refine y_iload_n C D_X7_tell_9 rfl ?_
    refine z_callV C D_X7_tell_10 lk_X7_180 (c_X7_isGrave hU (by omega)) (hm_o hU) rfl rfl (Nat.le_of_ble_eq_true rfl) (Nat.le_of_ble_eq_true rfl) ⟨Nat.zero_le _, Nat.zero_le _⟩ ?_
    refine z_ifneB C D_X7_tell_13 (fun c_13 => hx.elim (fun z => absurd c_5 z) (fun z => absurd c_13 z)) (fun c_13 => ?_)
    refine y_ldc C D_X7_tell_16 lk_X7_67 ?_
    exact y_iret C E D_X7_tell_18 (rfl) (rfl)
theorem c_X7_tellS (hU : U.length = 122) (h3 : A 5 3 ≤ 5) (h0 : A 5 0 ≤ 6) {s g : Nat} (h5 : A 5 5 < 64) (hs1 : s < A 5 3) (hg1 : g < A 5 0) (hz : ¬ hs (A 5 5) g) : Ct l G yX7_tell 3 [qr G 122, .int (nI s), .int (nI g)] (hm G U i A B) (some (.int (-1000002))) (hm G U i A B) := by
  refine ctm_intro (maxL := 4) kw_X7_tell (by decide) (by decide) [some (qr G 122), some (.int (nI s)), some (.int (nI g)), none] rfl (Nat.le_of_ble_eq_true rfl) ?_
  intro X _ hcl hsl _ _ C E
  refine y_aload_n C D_X7_tell_0 rfl ?_
  refine y_iload_n C D_X7_tell_1 rfl ?_
  refine z_callV C D_X7_tell_2 lk_X7_171 (c_X7_isSleeper hU (by omega)) (hm_o hU) rfl rfl (Nat.le_of_ble_eq_true rfl) (Nat.le_of_ble_eq_true rfl) ⟨Nat.zero_le _, Nat.zero_le _⟩ ?_
  refine z_ifeqB C D_X7_tell_5 (fun c_5 => absurd (isx_n (by omega) hs1) c_5) (fun c_5 => ?_)
  refine y_aload_n C D_X7_tell_8 rfl ?_
  refine y_iload_n C D_X7_tell_9 rfl ?_
  refine z_callV C D_X7_tell_10 lk_X7_180 (c_X7_isGrave hU (by omega)) (hm_o hU) rfl rfl (Nat.le_of_ble_eq_true rfl) (Nat.le_of_ble_eq_true rfl) ⟨Nat.zero_le _, Nat.zero_le _⟩ ?_
  refine z_ifneB C D_X7_tell_13 (fun c_13 => ?_) (fun c_13 => absurd (isx_n (by omega) hg1) c_13)
  refine y_aload_n C D_X7_tell_19 rfl ?_
  refine y_get C D_X7_tell_20 fl_X7_19 (hm_o hU) rfl ?_
  refine y_iconst C D_X7_tell_23 ki_5 ?_
  refine z_ild C D_X7_tell_24 (hm_st hU) (by omega) (by decide) rfl ?_
  refine y_iload_n C D_X7_tell_25 rfl ?_
  refine z_callS C D_X7_tell_26 lk_X7_142 (c_X7_has (by omega) (by omega)) rfl rfl (Nat.le_of_ble_eq_true rfl) (Nat.le_of_ble_eq_true rfl) ⟨Nat.zero_le _, Nat.zero_le _⟩ ?_
  refine z_ifneB C D_X7_tell_29 (fun c_29 => absurd c_29 hz) (fun c_29 => ?_)
  refine y_ldc C D_X7_tell_32 lk_X7_162 ?_
  exact y_iret C E D_X7_tell_34 (rfl) (rfl)
theorem c_X7_tell (hU : U.length = 122) (h3 : A 5 3 ≤ 5) (h0 : A 5 0 ≤ 6) {s g : Nat} (h5 : A 5 5 < 64) (hi : i 17 ≤ 24) (hs1 : s < A 5 3) (hg1 : g < A 5 0) (hz : hs (A 5 5) g) : Ct l G yX7_tell 3 [qr G 122, .int (nI s), .int (nI g)] (hm G U i A B) (some (.int (nI (me (A 5) s g)))) (hm G U (ntI i) (va_up (va_up A 16 (ntA i A)) 5 (va_up (A 5) (21 + 6 * s + g) 27)) B) := by
  refine ctm_intro (maxL := 4) kw_X7_tell (by decide) (by decide) [some (qr G 122), some (.int (nI s)), some (.int (nI g)), none] rfl (Nat.le_of_ble_eq_true rfl) ?_
  intro X _ hcl hsl _ _ C E
  refine y_aload_n C D_X7_tell_0 rfl ?_
  refine y_iload_n C D_X7_tell_1 rfl ?_
  refine z_callV C D_X7_tell_2 lk_X7_171 (c_X7_isSleeper hU (by omega)) (hm_o hU) rfl rfl (Nat.le_of_ble_eq_true rfl) (Nat.le_of_ble_eq_true rfl) ⟨Nat.zero_le _, Nat.zero_le _⟩ ?_
  refine z_ifeqB C D_X7_tell_5 (fun c_5 => absurd (isx_n (by omega) hs1) c_5) (fun c_5 => ?_)
  refine y_aload_n C D_X7_tell_8 rfl ?_
  refine y_iload_n C D_X7_tell_9 rfl ?_
  refine z_callV C D_X7_tell_10 lk_X7_180 (c_X7_isGrave hU (by omega)) (hm_o hU) rfl rfl (Nat.le_of_ble_eq_true rfl) (Nat.le_of_ble_eq_true rfl) ⟨Nat.zero_le _, Nat.zero_le _⟩ ?_
  refine z_ifneB C D_X7_tell_13 (fun c_13 => ?_) (fun c_13 => absurd (isx_n (by omega) hg1) c_13)
  refine y_aload_n C D_X7_tell_19 rfl ?_
  refine y_get C D_X7_tell_20 fl_X7_19 (hm_o hU) rfl ?_
  refine y_iconst C D_X7_tell_23 ki_5 ?_
  refine z_ild C D_X7_tell_24 (hm_st hU) (by omega) (by decide) rfl ?_
  refine y_iload_n C D_X7_tell_25 rfl ?_
  refine z_callS C D_X7_tell_26 lk_X7_142 (c_X7_has (by omega) (by omega)) rfl rfl (Nat.le_of_ble_eq_true rfl) (Nat.le_of_ble_eq_true rfl) ⟨Nat.zero_le _, Nat.zero_le _⟩ ?_
  refine z_ifneB C D_X7_tell_29 (fun c_29 => ?_) (fun c_29 => absurd hz c_29)
  refine y_aload_n C D_X7_tell_35 rfl ?_
  refine z_callVv C D_X7_tell_36 lk_X7_165 (c_X7_nt hU hi) (hm_o hU) rfl rfl (Nat.le_of_ble_eq_true rfl) (Nat.le_of_ble_eq_true rfl) ⟨Nat.zero_le _, Nat.zero_le _⟩ ?_
  have e5 : va_up A 16 (ntA i A) 5 = A 5 := up_ne _ _ (by decide)
  refine y_aload_n C D_X7_tell_39 rfl ?_
  refine y_iload_n C D_X7_tell_40 rfl ?_
  refine y_iload_n C D_X7_tell_41 rfl ?_
  refine z_callV C D_X7_tell_42 lk_X7_146 (c_X7_memoryOf hU (by omega) (by omega)) (hm_o hU) rfl rfl (Nat.le_of_ble_eq_true rfl) (Nat.le_of_ble_eq_true rfl) ⟨Nat.zero_le _, Nat.zero_le _⟩ ?_
  rw [e5]
  refine y_istore_n C D_X7_tell_45 (by decide) (qok_s rfl rfl) ?_
  refine y_aload_n C D_X7_tell_46 rfl ?_
  refine y_get C D_X7_tell_47 fl_X7_19 (hm_o hU) rfl ?_
  refine y_bipush C D_X7_tell_50 kb_21 ?_
  refine y_bipush C D_X7_tell_52 kb_6 ?_
  refine y_iload_n C D_X7_tell_54 rfl ?_
  refine z_imul C D_X7_tell_55 ?_
  refine z_iadd C D_X7_tell_56 ?_
  refine y_iload_n C D_X7_tell_57 rfl ?_
  refine z_iadd C D_X7_tell_58 ?_
  refine y_bipush C D_X7_tell_59 kb_27 ?_
  refine z_ist C D_X7_tell_61 (hm_st hU) (by omega) (by decide) (hm_wst hU _ _) ?_
  refine y_iload_n C D_X7_tell_62 rfl ?_
  exact y_iret C E D_X7_tell_63 (rfl) (by rw [e5])
theorem c_X7_buryB (hU : U.length = 122) (h3 : A 5 3 ≤ 5) (h0 : A 5 0 ≤ 6) {sx gx : Int32} (hx : ¬ isx sx (A 5 3) ∨ ¬ isx gx (A 5 0)) : Ct l G yX7_bury 3 [qr G 122, .int gx, .int sx] (hm G U i A B) (some (.int (-1000001))) (hm G U i A B) := by
  refine ctm_intro (maxL := 3) kw_X7_bury (by decide) (by decide) [some (qr G 122), some (.int gx), some (.int sx)] rfl (Nat.le_of_ble_eq_true rfl) ?_
  intro X _ hcl hsl _ _ C E
  refine y_aload_n C D_X7_bury_0 rfl ?_
  refine y_iload_n C D_X7_bury_1 rfl ?_
  refine z_callV C D_X7_bury_2 lk_X7_171 (c_X7_isSleeper hU (by omega)) (hm_o hU) rfl rfl (Nat.le_of_ble_eq_true rfl) (Nat.le_of_ble_eq_true rfl) ⟨Nat.zero_le _, Nat.zero_le _⟩ ?_
  refine z_ifeqB C D_X7_bury_5 (fun c_5 => ?_) (fun c_5 => ?_)
  · refine y_ldc C D_X7_bury_16 lk_X7_67 ?_
    exact y_iret C E D_X7_bury_18 (rfl) (rfl)
  · refine y_aload_n C D_X7_bury_8 rfl ?_
    refine y_iload_n C D_X7_bury_9 rfl ?_
    refine z_callV C D_X7_bury_10 lk_X7_180 (c_X7_isGrave hU (by omega)) (hm_o hU) rfl rfl (Nat.le_of_ble_eq_true rfl) (Nat.le_of_ble_eq_true rfl) ⟨Nat.zero_le _, Nat.zero_le _⟩ ?_
    refine z_ifneB C D_X7_bury_13 (fun c_13 => hx.elim (fun z => absurd c_5 z) (fun z => absurd c_13 z)) (fun c_13 => ?_)
    refine y_ldc C D_X7_bury_16 lk_X7_67 ?_
    exact y_iret C E D_X7_bury_18 (rfl) (rfl)
theorem c_X7_buryS (hU : U.length = 122) (h3 : A 5 3 ≤ 5) (h0 : A 5 0 ≤ 6) {s g : Nat} (h5 : A 5 5 < 64) (hs1 : s < A 5 3) (hg1 : g < A 5 0) (hz : hs (A 5 5) g) : Ct l G yX7_bury 3 [qr G 122, .int (nI g), .int (nI s)] (hm G U i A B) (some (.int (-1000002))) (hm G U i A B) := by
  refine ctm_intro (maxL := 3) kw_X7_bury (by decide) (by decide) [some (qr G 122), some (.int (nI g)), some (.int (nI s))] rfl (Nat.le_of_ble_eq_true rfl) ?_
  intro X _ hcl hsl _ _ C E
  refine y_aload_n C D_X7_bury_0 rfl ?_
  refine y_iload_n C D_X7_bury_1 rfl ?_
  refine z_callV C D_X7_bury_2 lk_X7_171 (c_X7_isSleeper hU (by omega)) (hm_o hU) rfl rfl (Nat.le_of_ble_eq_true rfl) (Nat.le_of_ble_eq_true rfl) ⟨Nat.zero_le _, Nat.zero_le _⟩ ?_
  refine z_ifeqB C D_X7_bury_5 (fun c_5 => absurd (isx_n (by omega) hs1) c_5) (fun c_5 => ?_)
  refine y_aload_n C D_X7_bury_8 rfl ?_
  refine y_iload_n C D_X7_bury_9 rfl ?_
  refine z_callV C D_X7_bury_10 lk_X7_180 (c_X7_isGrave hU (by omega)) (hm_o hU) rfl rfl (Nat.le_of_ble_eq_true rfl) (Nat.le_of_ble_eq_true rfl) ⟨Nat.zero_le _, Nat.zero_le _⟩ ?_
  refine z_ifneB C D_X7_bury_13 (fun c_13 => ?_) (fun c_13 => absurd (isx_n (by omega) hg1) c_13)
  refine y_aload_n C D_X7_bury_19 rfl ?_
  refine y_get C D_X7_bury_20 fl_X7_19 (hm_o hU) rfl ?_
  refine y_iconst C D_X7_bury_23 ki_5 ?_
  refine z_ild C D_X7_bury_24 (hm_st hU) (by omega) (by decide) rfl ?_
  refine y_iload_n C D_X7_bury_25 rfl ?_
  refine z_callS C D_X7_bury_26 lk_X7_142 (c_X7_has (by omega) (by omega)) rfl rfl (Nat.le_of_ble_eq_true rfl) (Nat.le_of_ble_eq_true rfl) ⟨Nat.zero_le _, Nat.zero_le _⟩ ?_
  refine z_ifeqB C D_X7_bury_29 (fun c_29 => absurd hz c_29) (fun c_29 => ?_)
  refine y_ldc C D_X7_bury_32 lk_X7_162 ?_
  exact y_iret C E D_X7_bury_34 (rfl) (rfl)
theorem c_X7_bury (hU : U.length = 122) (h3 : A 5 3 ≤ 5) (h0 : A 5 0 ≤ 6) {s g : Nat} (h5 : A 5 5 < 64) (hi : i 17 ≤ 24) (hs1 : s < A 5 3) (hg1 : g < A 5 0) (hz : ¬ hs (A 5 5) g) : Ct l G yX7_bury 3 [qr G 122, .int (nI g), .int (nI s)] (hm G U i A B) (some (.int (nI (A 5 5 ||| 2 ^ g)))) (hm G U (ntI i) (va_up (va_up A 16 (ntA i A)) 5 (va_up (va_up (A 5) 5 (A 5 5 ||| 2 ^ g)) (21 + 6 * s + g) 27)) B) := by
  refine ctm_intro (maxL := 3) kw_X7_bury (by decide) (by decide) [some (qr G 122), some (.int (nI g)), some (.int (nI s))] rfl (Nat.le_of_ble_eq_true rfl) ?_
  intro X _ hcl hsl _ _ C E
  refine y_aload_n C D_X7_bury_0 rfl ?_
  refine y_iload_n C D_X7_bury_1 rfl ?_
  refine z_callV C D_X7_bury_2 lk_X7_171 (c_X7_isSleeper hU (by omega)) (hm_o hU) rfl rfl (Nat.le_of_ble_eq_true rfl) (Nat.le_of_ble_eq_true rfl) ⟨Nat.zero_le _, Nat.zero_le _⟩ ?_
  refine z_ifeqB C D_X7_bury_5 (fun c_5 => absurd (isx_n (by omega) hs1) c_5) (fun c_5 => ?_)
  refine y_aload_n C D_X7_bury_8 rfl ?_
  refine y_iload_n C D_X7_bury_9 rfl ?_
  refine z_callV C D_X7_bury_10 lk_X7_180 (c_X7_isGrave hU (by omega)) (hm_o hU) rfl rfl (Nat.le_of_ble_eq_true rfl) (Nat.le_of_ble_eq_true rfl) ⟨Nat.zero_le _, Nat.zero_le _⟩ ?_
  refine z_ifneB C D_X7_bury_13 (fun c_13 => ?_) (fun c_13 => absurd (isx_n (by omega) hg1) c_13)
  refine y_aload_n C D_X7_bury_19 rfl ?_
  refine y_get C D_X7_bury_20 fl_X7_19 (hm_o hU) rfl ?_
  refine y_iconst C D_X7_bury_23 ki_5 ?_
  refine z_ild C D_X7_bury_24 (hm_st hU) (by omega) (by decide) rfl ?_
  refine y_iload_n C D_X7_bury_25 rfl ?_
  refine z_callS C D_X7_bury_26 lk_X7_142 (c_X7_has (by omega) (by omega)) rfl rfl (Nat.le_of_ble_eq_true rfl) (Nat.le_of_ble_eq_true rfl) ⟨Nat.zero_le _, Nat.zero_le _⟩ ?_
  refine z_ifeqB C D_X7_bury_29 (fun c_29 => ?_) (fun c_29 => absurd c_29 hz)
  refine y_aload_n C D_X7_bury_35 rfl ?_
  refine z_callVv C D_X7_bury_36 lk_X7_165 (c_X7_nt hU hi) (hm_o hU) rfl rfl (Nat.le_of_ble_eq_true rfl) (Nat.le_of_ble_eq_true rfl) ⟨Nat.zero_le _, Nat.zero_le _⟩ ?_
  have e5 : va_up A 16 (ntA i A) 5 = A 5 := up_ne _ _ (by decide)
  refine y_aload_n C D_X7_bury_39 rfl ?_
  refine y_get C D_X7_bury_40 fl_X7_19 (hm_o hU) rfl ?_
  refine y_iconst C D_X7_bury_43 ki_5 ?_
  refine y_dup2 C D_X7_bury_44 rfl rfl ?_
  refine z_ild C D_X7_bury_45 (hm_st hU) (by omega) (by decide) rfl ?_
  refine y_iconst C D_X7_bury_46 ki_1 ?_
  refine y_iload_n C D_X7_bury_47 rfl ?_
  refine z_ishl1 C D_X7_bury_48 (by omega) ?_
  refine z_ior C D_X7_bury_49 ?_
  refine z_ist C D_X7_bury_50 (hm_st hU) (by omega) (by decide) (hm_wst hU _ _) ?_
  refine y_aload_n C D_X7_bury_51 rfl ?_
  refine y_get C D_X7_bury_52 fl_X7_19 (hm_o hU) rfl ?_
  refine y_bipush C D_X7_bury_55 kb_21 ?_
  refine y_bipush C D_X7_bury_57 kb_6 ?_
  refine y_iload_n C D_X7_bury_59 rfl ?_
  refine z_imul C D_X7_bury_60 ?_
  refine z_iadd C D_X7_bury_61 ?_
  refine y_iload_n C D_X7_bury_62 rfl ?_
  refine z_iadd C D_X7_bury_63 ?_
  refine y_bipush C D_X7_bury_64 kb_27 ?_
  refine z_ist C D_X7_bury_66 (hm_st hU) (by omega) (by decide) (hm_wst hU _ _) ?_
  refine y_aload_n C D_X7_bury_67 rfl ?_
  refine y_get C D_X7_bury_68 fl_X7_19 (hm_o hU) rfl ?_
  refine y_iconst C D_X7_bury_71 ki_5 ?_
  refine z_ild C D_X7_bury_72 (hm_st hU) (by omega) (by decide) rfl ?_
  exact y_iret C E D_X7_bury_73 (by rw [e5, up_eq, up_eq, up_ne _ _ (by omega : (5 : Nat) ≠ 21 + 6 * s + g), up_eq]) (by rw [e5, up_eq, bx_uu])
end
