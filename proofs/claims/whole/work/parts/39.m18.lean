section
variable {l : Launch} {G : qG} {U : List va_E} {i : Nat → Nat} {A : Nat → Nat → Nat} {B : Nat → Nat → Int32} {h : List va_E}
theorem tokS_u10 (i t : Nat → Nat) (n s v : Nat) : tokS (va_up i 10 v) t n s = tokS i t n s :=
  tokS_ext (fun k hk => by rw [tokS_o hk, up_ne _ _ (by omega)]) (tokS_10 _ _ _ _) (tokS_11 _ _ _ _) (tokS_12 _ _ _ _) (tokS_13 _ _ _ _)
theorem lp_X7_zero {X : qX} (hU : U.length = 122) (C : qC X G cX7_readYard 3 RX7 5) (K : Y X G 3 0 0 26 [some (qr G 122), none, none] [] (hm G U i (va_up A 15 (va_cpy (fun _ => 0) (A 15) 0 0 (51))) B)) : ∀ (m k : Nat) (A' : Nat → Nat → Nat), k + m = 51 → A' = va_up A 15 (va_cpy (fun _ => 0) (A 15) 0 0 (k)) → Y X G 3 0 0 7 [some (qr G 122), some (.int (nI (k))), none] [] (hm G U i A' B) := by
  intro m
  induction m with
  | zero =>
    intro k A' hk hA
    obtain rfl : k = 51 := by omega
    refine y_iload_n C D_X7_readYard_7 rfl ?_
    refine y_bipush C D_X7_readYard_8 kb_51 ?_
    refine y_icmp_ge C D_X7_readYard_10 (n_le (by omega) (by omega)) (fun c_10 => ?_) (fun c_10 => absurd (Nat.le_refl _) c_10)
    refine y_fg 1 ?_
    rw [hA]
    exact K
  | succ m ih =>
    intro k A' hk hA
    have e5 : A' 15 = va_cpy (fun _ => 0) (A 15) 0 0 (k) := by rw [hA]; exact up_eq _ _ _
    have es := cpy_step (fun _ => 0) (A 15) 0 0 k
    rw [Nat.zero_add] at es
    refine y_iload_n C D_X7_readYard_7 rfl ?_
    refine y_bipush C D_X7_readYard_8 kb_51 ?_
    refine y_icmp_ge C D_X7_readYard_10 (n_le (by omega) (by omega)) (fun c_10 => absurd c_10 (by omega)) (fun c_10 => ?_)
    refine y_aload_n C D_X7_readYard_13 rfl ?_
    refine y_get C D_X7_readYard_14 fl_X7_28 (hm_o hU) rfl ?_
    refine y_iload_n C D_X7_readYard_17 rfl ?_
    refine y_iconst C D_X7_readYard_18 ki_0 ?_
    refine z_ist C D_X7_readYard_19 (hm_read hU) (by omega) (by decide) (hm_wread hU _ _) ?_
    refine z_iinc (n := 1) C D_X7_readYard_20 rfl (by decide) (qok_s rfl rfl) ?_
    refine y_goto C D_X7_readYard_23 ?_
    exact ih (k + 1) _ (by omega) (by rw [e5, hA, bx_uu]; exact congrArg (va_up A 15) es)
theorem c_X7_tnQ (hU : U.length = 122) (h8 : i 8 ≤ 120) (ht : ∀ k, A 7 k < 256) {q : PS} {lo hi at_ sg : Nat} (hs1 : q.2.1 ≤ i 8) (hlo : lo < 100) (hhi : hi < 100) (hat : at_ < 51) (hsg : sg < 256) : Ct l G yX7_takesNumber 3 [qr G 122, .int (nI lo), .int (nI hi), .int (nI at_), .int (nI sg)] (hmq G U i A B (q)) (some (.int (bI ((psN (A 7) (i 8) lo hi at_ sg q).1 = true)))) (hmq G U i A B (psN (A 7) (i 8) lo hi at_ sg q)) := by
  have z := c_X7_takesNumber (l := l) (G := G) (U := U) (i := i) (A := A) (B := B) (s := q.2.1) (rd := q.2.2.1) (w := q.2.2.2) (at_ := at_) hU h8 ht hs1 hlo hhi hat hsg
  unfold psN
  rw [bI_c (P := (decide _ = true)) decide_eq_true_iff]
  exact z
theorem c_X7_tk0 (hU : U.length = 122) (h8 : i 8 ≤ 120) (ht : ∀ k, A 7 k < 256) {w : Nat} {rd : Nat → Nat} : Ct l G yX7_takes 2 [qr G 122, .int (nI 103)] (hmp G U i A B 0 rd w) (some (.int (bI ((ps0 (A 7) (i 8) w rd).1 = true)))) (hmq G U i A B (ps0 (A 7) (i 8) w rd)) := by
  have z := c_X7_takes (l := l) (G := G) (U := U) (i := i) (A := A) (B := B) (s := 0) (rd := rd) (w := w) (c := 103) hU h8 ht (Nat.zero_le _) (by decide)
  unfold ps0
  rw [bI_c (P := (decide _ = true)) decide_eq_true_iff]
  exact z
theorem ps0_le {t : Nat → Nat} {n w : Nat} {r0 : Nat → Nat} : (ps0 t n w r0).2.1 ≤ n := tS_le (Nat.zero_le _)
theorem ps1_le {t : Nat → Nat} {n w : Nat} {r0 : Nat → Nat} : (ps1 t n w r0).2.1 ≤ n := psN_le ps0_le
theorem ps2_le {t : Nat → Nat} {n w : Nat} {r0 : Nat → Nat} : (ps2 t n w r0).2.1 ≤ n := psN_le ps1_le
theorem c_X7_tn0 (hU : U.length = 122) (h8 : i 8 ≤ 120) (ht : ∀ k, A 7 k < 256) {w : Nat} {rd : Nat → Nat} : Ct l G yX7_takesNumber 3 [qr G 122, .int (nI 1), .int (nI 6), .int (nI 0), .int (nI 44)] (hmq G U i A B (ps0 (A 7) (i 8) w rd)) (some (.int (bI ((ps1 (A 7) (i 8) w rd).1 = true)))) (hmq G U i A B (ps1 (A 7) (i 8) w rd)) := by
  unfold ps1
  exact c_X7_tnQ hU h8 ht ps0_le (by decide) (by decide) (by decide) (by decide)
theorem c_X7_tn1 (hU : U.length = 122) (h8 : i 8 ≤ 120) (ht : ∀ k, A 7 k < 256) {w : Nat} {rd : Nat → Nat} : Ct l G yX7_takesNumber 3 [qr G 122, .int (nI 1), .int (nI 9), .int (nI 1), .int (nI 44)] (hmq G U i A B (ps1 (A 7) (i 8) w rd)) (some (.int (bI ((ps2 (A 7) (i 8) w rd).1 = true)))) (hmq G U i A B (ps2 (A 7) (i 8) w rd)) := by
  unfold ps2
  exact c_X7_tnQ hU h8 ht ps1_le (by decide) (by decide) (by decide) (by decide)
theorem c_X7_tn2 (hU : U.length = 122) (h8 : i 8 ≤ 120) (ht : ∀ k, A 7 k < 256) {w : Nat} {rd : Nat → Nat} : Ct l G yX7_takesNumber 3 [qr G 122, .int (nI 2), .int (nI 9), .int (nI 2), .int (nI 59)] (hmq G U i A B (ps2 (A 7) (i 8) w rd)) (some (.int (bI ((ps3 (A 7) (i 8) w rd).1 = true)))) (hmq G U i A B (ps3 (A 7) (i 8) w rd)) := by
  unfold ps3
  exact c_X7_tnQ hU h8 ht ps2_le (by decide) (by decide) (by decide) (by decide)
theorem c_X7_readYard (hU : U.length = 122) (h8 : i 8 ≤ 120) (ht : ∀ k, A 7 k < 256) : Ct l G yX7_readYard 5 [qr G 122] (hm G U i A B) (some (.int (bI ((ps (A 7) (i 8) (i 14) (va_cpy (fun _ => 0) (A 15) 0 0 51)).1 = true)))) (hmq G U i A B (ps (A 7) (i 8) (i 14) (va_cpy (fun _ => 0) (A 15) 0 0 51))) := by
  refine ctm_intro (maxL := 3) kw_X7_readYard (by decide) (by decide) [some (qr G 122), none, none] rfl (Nat.le_of_ble_eq_true rfl) ?_
  intro X _ hcl hsl _ _ C E
  refine y_aload_n C D_X7_readYard_0 rfl ?_
  refine y_iconst C D_X7_readYard_1 ki_0 ?_
  refine y_put C D_X7_readYard_2 fl_X7_85 (hm_o hU) (Nat.le_of_ble_eq_true rfl) rfl rfl (hm_pplace hU _) ?_
  refine y_iconst C D_X7_readYard_5 ki_0 ?_
  refine y_istore_n C D_X7_readYard_6 (by decide) (qok_s rfl rfl) ?_
  refine lp_X7_zero (i := va_up i 10 0) hU C ?_ 51 0 A (by omega) (by rw [cpy_0]; exact (up_id A 15).symm)
  refine y_aload_n C D_X7_readYard_26 rfl ?_
  refine z_callVv C D_X7_readYard_27 lk_X7_114 (c_X7_nextToken hU (by rw [up_eq]; exact Nat.zero_le _) (by rw [up_ne _ _ (by decide)]; exact h8) (by rw [up_ne _ _ (by decide)]; exact ht)) (hm_o hU) rfl rfl (Nat.le_of_ble_eq_true rfl) (Nat.le_of_ble_eq_true rfl) ⟨Nat.zero_le _, Nat.zero_le _⟩ ?_
  have eh : hm G U (tokS (va_up i 10 0) (va_up A 15 (va_cpy (fun _ => 0) (A 15) 0 0 51) 7) (va_up i 10 0 8) (va_up i 10 0 10)) (va_up A 15 (va_cpy (fun _ => 0) (A 15) 0 0 51)) B = hmp G U i A B 0 (va_cpy (fun _ => 0) (A 15) 0 0 51) (i 14) := by
    rw [up_ne _ _ (by decide), up_ne _ _ (by decide), up_eq, tokS_u10]
    unfold hmp
    rw [up_id i 14]
  rw [eh]
  refine y_aload_n C D_X7_readYard_30 rfl ?_
  refine y_bipush C D_X7_readYard_31 kb_103 ?_
  refine z_callV C D_X7_readYard_33 lk_X7_117 (c_X7_tk0 hU h8 ht) (hm_o hU) rfl rfl (Nat.le_of_ble_eq_true rfl) (Nat.le_of_ble_eq_true rfl) ⟨Nat.zero_le _, Nat.zero_le _⟩ ?_
  refine z_ifeqB C D_X7_readYard_36 (fun c_36 => ?_) (fun c_36 => ?_)
  · refine y_iconst C D_X7_readYard_78 ki_0 ?_
    exact y_zret C E D_X7_readYard_79 nar_0 (rt_0 (fun z => c_36 ((congrArg (fun x : PS => x.1) (ps_e0 c_36)).symm.trans z))) ((congrArg (hmq G U i A B) (ps_e0 c_36)).symm)
  · refine y_aload_n C D_X7_readYard_39 rfl ?_
    refine y_iconst C D_X7_readYard_40 ki_1 ?_
    refine y_bipush C D_X7_readYard_41 kb_6 ?_
    refine y_iconst C D_X7_readYard_43 ki_0 ?_
    refine y_bipush C D_X7_readYard_44 kb_44 ?_
    refine z_callV C D_X7_readYard_46 lk_X7_120 (c_X7_tn0 hU h8 ht) (hm_o hU) rfl rfl (Nat.le_of_ble_eq_true rfl) (Nat.le_of_ble_eq_true rfl) ⟨Nat.zero_le _, Nat.zero_le _⟩ ?_
    refine z_ifeqB C D_X7_readYard_49 (fun c_49 => ?_) (fun c_49 => ?_)
    · refine y_iconst C D_X7_readYard_78 ki_0 ?_
      exact y_zret C E D_X7_readYard_79 nar_0 (rt_0 (fun z => c_49 ((congrArg (fun x : PS => x.1) (ps_e1 c_36 c_49)).symm.trans z))) ((congrArg (hmq G U i A B) (ps_e1 c_36 c_49)).symm)
    · refine y_aload_n C D_X7_readYard_52 rfl ?_
      refine y_iconst C D_X7_readYard_53 ki_1 ?_
      refine y_bipush C D_X7_readYard_54 kb_9 ?_
      refine y_iconst C D_X7_readYard_56 ki_1 ?_
      refine y_bipush C D_X7_readYard_57 kb_44 ?_
      refine z_callV C D_X7_readYard_59 lk_X7_120 (c_X7_tn1 hU h8 ht) (hm_o hU) rfl rfl (Nat.le_of_ble_eq_true rfl) (Nat.le_of_ble_eq_true rfl) ⟨Nat.zero_le _, Nat.zero_le _⟩ ?_
      refine z_ifeqB C D_X7_readYard_62 (fun c_62 => ?_) (fun c_62 => ?_)
      · refine y_iconst C D_X7_readYard_78 ki_0 ?_
        exact y_zret C E D_X7_readYard_79 nar_0 (rt_0 (fun z => c_62 ((congrArg (fun x : PS => x.1) (ps_e2 c_36 c_49 c_62)).symm.trans z))) ((congrArg (hmq G U i A B) (ps_e2 c_36 c_49 c_62)).symm)
      · refine y_aload_n C D_X7_readYard_65 rfl ?_
        refine y_iconst C D_X7_readYard_66 ki_2 ?_
        refine y_bipush C D_X7_readYard_67 kb_9 ?_
        refine y_iconst C D_X7_readYard_69 ki_2 ?_
        refine y_bipush C D_X7_readYard_70 kb_59 ?_
        refine z_callV C D_X7_readYard_72 lk_X7_120 (c_X7_tn2 hU h8 ht) (hm_o hU) rfl rfl (Nat.le_of_ble_eq_true rfl) (Nat.le_of_ble_eq_true rfl) ⟨Nat.zero_le _, Nat.zero_le _⟩ ?_
        refine z_ifneB C D_X7_readYard_75 (fun c_75 => ?_) (fun c_75 => ?_)
        · refine y_iconst C D_X7_readYard_80 ki_1 ?_
          refine y_istore_n C D_X7_readYard_81 (by decide) (qok_s rfl rfl) ?_
          rw [ps_e3 c_36 c_49 c_62] at E
          have z := lp_X7_readYard hU h8 ht C 8 (ps3 (A 7) (i 8) (i 14) (va_cpy (fun _ => 0) (A 15) 0 0 51)) E ps3_le (by rw [ps3_3]; exact Nat.zero_le _) (ps3_0 (Nat.zero_le _)) (fun _ => by omega)
          rw [bI_1 c_75] at z
          exact z
        · refine y_iconst C D_X7_readYard_78 ki_0 ?_
          exact y_zret C E D_X7_readYard_79 nar_0 (rt_0 (fun z => c_75 ((congrArg (fun x : PS => x.1) ((ps_e3 c_36 c_49 c_62).trans (psY_n c_75 8))).symm.trans z))) ((congrArg (hmq G U i A B) ((ps_e3 c_36 c_49 c_62).trans (psY_n c_75 8))).symm)
end
