section
variable {X : qX} {G : qG} {b L : Nat} {xs : Nat → Int32}
theorem law_loop (hL : L ≤ 384) (hX : va_X b L xs X.2.2.2.2.1 X.2.2.2.2.1.heap) (hbl : b < X.2.2.2.2.1.heap.size) (hbA : ¬ qA G b) (C : qC X G cL_law 4 RL 100) (hRc : 136 ≤ X.2.2.2.1.cells ∧ 3965 ≤ X.2.2.2.1.slots) (K : ∀ (n : Nat) (h : List va_E), Y X G 4 136 3965 1304 [some (.ref b), some (qr G 0), some (qr G 122), some (.int (nI n))] [] h) : ∀ (m n : Nat), L ≤ n + 6 * m → n ≤ 390 → ∀ (h : List va_E) (i : Nat → Nat) (A : Nat → Nat → Nat) (B : Nat → Nat → Int32), Inv G h i A B → Y X G 4 136 3965 18 [some (.ref b), some (qr G 0), some (qr G 122), some (.int (nI n))] [] h := by
  intro m
  induction m with
  | zero =>
    intro n hm hn h i A B V
    refine y_iload_n C D_L_law_18 rfl ?_
    refine y_aload_n C D_L_law_19 rfl ?_
    refine y_slen C D_L_law_20 hX hbl hbA ?_
    refine y_bipush C D_L_law_21 kb_6 ?_
    refine y_isub C D_L_law_23 ?_
    refine y_icmp_gt C D_L_law_24 (gt6 hL (by omega)) (fun c_0 => ?_) (fun c_0 => absurd (by omega) c_0)
    exact K n h
  | succ m ih =>
    intro n hm hn h i A B V
    refine y_iload_n C D_L_law_18 rfl ?_
    refine y_aload_n C D_L_law_19 rfl ?_
    refine y_slen C D_L_law_20 hX hbl hbA ?_
    refine y_bipush C D_L_law_21 kb_6 ?_
    refine y_isub C D_L_law_23 ?_
    refine y_icmp_gt C D_L_law_24 (gt6 hL (by omega)) (fun c_0 => ?_) (fun c_0 => ?_)
    · exact K n h
    have hnL : n + 6 ≤ L := by omega
    have NX : ∀ h2 i' A' B', Inv G h2 i' A' B' → Y X G 4 136 3965 1298 [some (.ref b), some (qr G 0), some (qr G 122), some (.int (nI n))] [] h2 := by
      intro h2 i' A' B' V'
      refine z_iinc (n := 6) C D_L_law_1298 rfl (by decide) (qok_s rfl rfl) ?_
      refine y_goto C D_L_law_1301 ?_
      exact ih (n + 6) (by omega) (by omega) h2 i' A' B' V'
    refine y_aload_n C D_L_law_27 rfl ?_
    refine y_iload_n C D_L_law_28 rfl ?_
    refine y_sld C D_L_law_29 hX hbl hbA (by omega) (by omega) ?_
    refine y_bipush C D_L_law_30 kb_63 ?_
    refine y_iand C D_L_law_32 ?_
    obtain ⟨k, hk, ek⟩ := and63 (xs n)
    refine y_top ek ?_
    by_cases hk37 : 37 ≤ k
    · refine y_tabOut (tgt := 1298) C D_L_law_33 (Or.inr (by rw [nI_int (by omega)]; omega)) (by decide) ?_
      exact NX _ _ _ _ V
    · match k, (by omega : k < 37) with
      | 0, _ => exact y_tabIn (off := 163) (tgt := 196) C D_L_law_33 (by decide) (by decide) (by decide +kernel) (by decide) (lc_0 hL hX hbl hbA C hRc V hnL NX)
      | 1, _ => exact y_tabIn (off := 206) (tgt := 239) C D_L_law_33 (by decide) (by decide) (by decide +kernel) (by decide) (lc_1 hL hX hbl hbA C hRc V hnL NX)
      | 2, _ => exact y_tabIn (off := 249) (tgt := 282) C D_L_law_33 (by decide) (by decide) (by decide +kernel) (by decide) (lc_2 hL hX hbl hbA C hRc V hnL NX)
      | 3, _ => exact y_tabIn (off := 312) (tgt := 345) C D_L_law_33 (by decide) (by decide) (by decide +kernel) (by decide) (lc_3 hL hX hbl hbA C hRc V hnL NX)
      | 4, _ => exact y_tabIn (off := 335) (tgt := 368) C D_L_law_33 (by decide) (by decide) (by decide +kernel) (by decide) (lc_4 hL hX hbl hbA C hRc V hnL NX)
      | 5, _ => exact y_tabIn (off := 358) (tgt := 391) C D_L_law_33 (by decide) (by decide) (by decide +kernel) (by decide) (lc_5 hL hX hbl hbA C hRc V hnL NX)
      | 6, _ => exact y_tabIn (off := 371) (tgt := 404) C D_L_law_33 (by decide) (by decide) (by decide +kernel) (by decide) (lc_6 hL hX hbl hbA C hRc V hnL NX)
      | 7, _ => exact y_tabIn (off := 384) (tgt := 417) C D_L_law_33 (by decide) (by decide) (by decide +kernel) (by decide) (lc_7 hL hX hbl hbA C hRc V hnL NX)
      | 8, _ => exact y_tabIn (off := 397) (tgt := 430) C D_L_law_33 (by decide) (by decide) (by decide +kernel) (by decide) (lc_8 hL hX hbl hbA C hRc V hnL NX)
      | 9, _ => exact y_tabIn (off := 420) (tgt := 453) C D_L_law_33 (by decide) (by decide) (by decide +kernel) (by decide) (lc_9 hL hX hbl hbA C hRc V hnL NX)
      | 10, _ => exact y_tabIn (off := 443) (tgt := 476) C D_L_law_33 (by decide) (by decide) (by decide +kernel) (by decide) (lc_10 hL hX hbl hbA C hRc V hnL NX)
      | 11, _ => exact y_tabIn (off := 466) (tgt := 499) C D_L_law_33 (by decide) (by decide) (by decide +kernel) (by decide) (lc_11 hL hX hbl hbA C hRc V hnL NX)
      | 12, _ => exact y_tabIn (off := 499) (tgt := 532) C D_L_law_33 (by decide) (by decide) (by decide +kernel) (by decide) (lc_12 hL hX hbl hbA C hRc V hnL NX)
      | 13, _ => exact y_tabIn (off := 532) (tgt := 565) C D_L_law_33 (by decide) (by decide) (by decide +kernel) (by decide) (lc_13 hL hX hbl hbA C hRc V hnL NX)
      | 14, _ => exact y_tabIn (off := 565) (tgt := 598) C D_L_law_33 (by decide) (by decide) (by decide +kernel) (by decide) (lc_14 hL hX hbl hbA C hRc V hnL NX)
      | 15, _ => exact y_tabIn (off := 598) (tgt := 631) C D_L_law_33 (by decide) (by decide) (by decide +kernel) (by decide) (lc_15 hL hX hbl hbA C hRc V hnL NX)
      | 16, _ => exact y_tabIn (off := 631) (tgt := 664) C D_L_law_33 (by decide) (by decide) (by decide +kernel) (by decide) (lc_16 hL hX hbl hbA C hRc V hnL NX)
      | 17, _ => exact y_tabIn (off := 654) (tgt := 687) C D_L_law_33 (by decide) (by decide) (by decide +kernel) (by decide) (lc_17 hL hX hbl hbA C hRc V hnL NX)
      | 18, _ => exact y_tabIn (off := 677) (tgt := 710) C D_L_law_33 (by decide) (by decide) (by decide +kernel) (by decide) (lc_18 hL hX hbl hbA C hRc V hnL NX)
      | 19, _ => exact y_tabIn (off := 690) (tgt := 723) C D_L_law_33 (by decide) (by decide) (by decide +kernel) (by decide) (lc_19 hL hX hbl hbA C hRc V hnL NX)
      | 20, _ => exact y_tabIn (off := 733) (tgt := 766) C D_L_law_33 (by decide) (by decide) (by decide +kernel) (by decide) (lc_20 hL hX hbl hbA C hRc V hnL NX)
      | 21, _ => exact y_tabIn (off := 756) (tgt := 789) C D_L_law_33 (by decide) (by decide) (by decide +kernel) (by decide) (lc_21 hL hX hbl hbA C hRc V hnL NX)
      | 22, _ => exact y_tabIn (off := 789) (tgt := 822) C D_L_law_33 (by decide) (by decide) (by decide +kernel) (by decide) (lc_22 hL hX hbl hbA C hRc V hnL NX)
      | 23, _ => exact y_tabIn (off := 822) (tgt := 855) C D_L_law_33 (by decide) (by decide) (by decide +kernel) (by decide) (lc_23 hL hX hbl hbA C hRc V hnL NX)
      | 24, _ => exact y_tabIn (off := 855) (tgt := 888) C D_L_law_33 (by decide) (by decide) (by decide +kernel) (by decide) (lc_24 hL hX hbl hbA C hRc V hnL NX)
      | 25, _ => exact y_tabIn (off := 908) (tgt := 941) C D_L_law_33 (by decide) (by decide) (by decide +kernel) (by decide) (lc_25 hL hX hbl hbA C hRc V hnL NX)
      | 26, _ => exact y_tabIn (off := 961) (tgt := 994) C D_L_law_33 (by decide) (by decide) (by decide +kernel) (by decide) (lc_26 hL hX hbl hbA C hRc V hnL NX)
      | 27, _ => exact y_tabIn (off := 984) (tgt := 1017) C D_L_law_33 (by decide) (by decide) (by decide +kernel) (by decide) (lc_27 hL hX hbl hbA C hRc V hnL NX)
      | 28, _ => exact y_tabIn (off := 1028) (tgt := 1061) C D_L_law_33 (by decide) (by decide) (by decide +kernel) (by decide) (lc_28 hL hX hbl hbA C hRc V hnL NX)
      | 29, _ => exact y_tabIn (off := 1071) (tgt := 1104) C D_L_law_33 (by decide) (by decide) (by decide +kernel) (by decide) (lc_29 hL hX hbl hbA C hRc V hnL NX)
      | 30, _ => exact y_tabIn (off := 1094) (tgt := 1127) C D_L_law_33 (by decide) (by decide) (by decide +kernel) (by decide) (lc_30 hL hX hbl hbA C hRc V hnL NX)
      | 31, _ => exact y_tabIn (off := 1117) (tgt := 1150) C D_L_law_33 (by decide) (by decide) (by decide +kernel) (by decide) (lc_31 hL hX hbl hbA C hRc V hnL NX)
      | 32, _ => exact y_tabIn (off := 1140) (tgt := 1173) C D_L_law_33 (by decide) (by decide) (by decide +kernel) (by decide) (lc_32 hL hX hbl hbA C hRc V hnL NX)
      | 33, _ => exact y_tabIn (off := 1173) (tgt := 1206) C D_L_law_33 (by decide) (by decide) (by decide +kernel) (by decide) (lc_33 hL hX hbl hbA C hRc V hnL NX)
      | 34, _ => exact y_tabIn (off := 1206) (tgt := 1239) C D_L_law_33 (by decide) (by decide) (by decide +kernel) (by decide) (lc_34 hL hX hbl hbA C hRc V hnL NX)
      | 35, _ => exact y_tabIn (off := 1229) (tgt := 1262) C D_L_law_33 (by decide) (by decide) (by decide +kernel) (by decide) (lc_35 hL hX hbl hbA C hRc V hnL NX)
      | 36, _ => exact y_tabIn (off := 1252) (tgt := 1285) C D_L_law_33 (by decide) (by decide) (by decide +kernel) (by decide) (lc_36 hL hX hbl hbA C hRc V hnL NX)
      | _ + 37, q => exact absurd q (by omega)
end
