section
variable {l : Launch} {G : qG} {h : List va_E} {y : Nat → Nat} {c : Nat} {f : Nat → Nat}
theorem c_X0_answer1 (ha : 99 < h.length) (hy : Yat G h 7 y) (hV : Va y) {s : Nat} (hs1 : s < y 3) : Ct l G yX0_answer 12 [qr G 98, qr G 7, .int (nI s), .int (nI 1)] (ac G h c f) (some (.int (mkV y s))) (ac G h (bgC 0 (mkL y s)) (bgF 0 f (mkL y s))) := by
  refine ctm_intro (maxL := 4) kw_X0_answer (by decide) (by decide) [some (qr G 98), some (qr G 7), some (.int (nI s)), some (.int (nI 1))] rfl (Nat.le_of_ble_eq_true rfl) ?_
  intro X _ hcl hsl _ _ C E
  have v3 := hV.2.2.2.1
  refine y_aload_n C D_X0_answer_0 rfl ?_
  refine y_iconst C D_X0_answer_1 ki_0 ?_
  refine y_put C D_X0_answer_2 fl_X0_15 (ac_o ha) (Nat.le_of_ble_eq_true rfl) rfl rfl (ac_ptraced _) ?_
  refine y_iload_n C D_X0_answer_5 rfl ?_
  refine z_ifne1 C D_X0_answer_6 ?_
  refine y_aload_n C D_X0_answer_19 rfl ?_
  refine y_aload_n C D_X0_answer_20 rfl ?_
  refine y_iload_n C D_X0_answer_21 rfl ?_
  refine y_iconst C D_X0_answer_22 ki_0 ?_
  refine z_callV C D_X0_answer_23 lk_X0_23 (c_X0_markOf (d := 0) ha hy hV hs1 (Nat.zero_le _) (Nat.zero_le _)) (ac_o ha) rfl rfl (Nat.le_of_ble_eq_true rfl) (Nat.le_of_ble_eq_true rfl) ⟨Nat.zero_le _, Nat.zero_le _⟩ ?_
  exact y_iret C E D_X0_answer_26 (rfl) (rfl)
theorem c_X0_answer0_1 (ha : 99 < h.length) (hy : Yat G h 7 y) (hV : Va y) {s : Nat} (hs1 : s < y 3) (hk : y (6 + s) = 1) : Ct l G yX0_answer 12 [qr G 98, qr G 7, .int (nI s), .int (nI 0)] (ac G h c f) (some (.int (szDV y s))) (ac G h (bgC 0 (szDL y s)) (bgF 0 f (szDL y s))) := by
  refine ctm_intro (maxL := 4) kw_X0_answer (by decide) (by decide) [some (qr G 98), some (qr G 7), some (.int (nI s)), some (.int (nI 0))] rfl (Nat.le_of_ble_eq_true rfl) ?_
  intro X _ hcl hsl _ _ C E
  have v3 := hV.2.2.2.1
  refine y_aload_n C D_X0_answer_0 rfl ?_
  refine y_iconst C D_X0_answer_1 ki_0 ?_
  refine y_put C D_X0_answer_2 fl_X0_15 (ac_o ha) (Nat.le_of_ble_eq_true rfl) rfl rfl (ac_ptraced _) ?_
  refine y_iload_n C D_X0_answer_5 rfl ?_
  refine z_ifne0 C D_X0_answer_6 ?_
  refine y_aload_n C D_X0_answer_9 rfl ?_
  refine y_aload_n C D_X0_answer_10 rfl ?_
  refine y_iload_n C D_X0_answer_11 rfl ?_
  refine y_iconst C D_X0_answer_12 ki_0 ?_
  refine z_callV C D_X0_answer_13 lk_X0_19 (c_X0_sizeOf1 (d := 0) ha hy hV hs1 (Nat.zero_le _) (Nat.zero_le _) hk) (ac_o ha) rfl rfl (Nat.le_of_ble_eq_true rfl) (Nat.le_of_ble_eq_true rfl) ⟨Nat.zero_le _, Nat.zero_le _⟩ ?_
  refine y_goto C D_X0_answer_16 ?_
  exact y_iret C E D_X0_answer_26 (rfl) (rfl)
theorem c_X0_answer0_3 (ha : 99 < h.length) (hy : Yat G h 7 y) (hV : Va y) {s : Nat} (hs1 : s < y 3) (hk : y (6 + s) = 3) : Ct l G yX0_answer 12 [qr G 98, qr G 7, .int (nI s), .int (nI 0)] (ac G h c f) (some (.int (szDV y s))) (ac G h (bgC 0 (szDL y s)) (bgF 0 f (szDL y s))) := by
  refine ctm_intro (maxL := 4) kw_X0_answer (by decide) (by decide) [some (qr G 98), some (qr G 7), some (.int (nI s)), some (.int (nI 0))] rfl (Nat.le_of_ble_eq_true rfl) ?_
  intro X _ hcl hsl _ _ C E
  have v3 := hV.2.2.2.1
  refine y_aload_n C D_X0_answer_0 rfl ?_
  refine y_iconst C D_X0_answer_1 ki_0 ?_
  refine y_put C D_X0_answer_2 fl_X0_15 (ac_o ha) (Nat.le_of_ble_eq_true rfl) rfl rfl (ac_ptraced _) ?_
  refine y_iload_n C D_X0_answer_5 rfl ?_
  refine z_ifne0 C D_X0_answer_6 ?_
  refine y_aload_n C D_X0_answer_9 rfl ?_
  refine y_aload_n C D_X0_answer_10 rfl ?_
  refine y_iload_n C D_X0_answer_11 rfl ?_
  refine y_iconst C D_X0_answer_12 ki_0 ?_
  refine z_callV C D_X0_answer_13 lk_X0_19 (c_X0_sizeOf3 (d := 0) ha hy hV hs1 (Nat.zero_le _) (Nat.zero_le _) hk) (ac_o ha) rfl rfl (Nat.le_of_ble_eq_true rfl) (Nat.le_of_ble_eq_true rfl) ⟨Nat.zero_le _, Nat.zero_le _⟩ ?_
  refine y_goto C D_X0_answer_16 ?_
  exact y_iret C E D_X0_answer_26 (rfl) (rfl)
theorem c_X0_answer0_2 (ha : 99 < h.length) (hy : Yat G h 7 y) (hV : Va y) {s : Nat} (hs1 : s < y 3) (hk : y (6 + s) = 2) : Ct l G yX0_answer 12 [qr G 98, qr G 7, .int (nI s), .int (nI 0)] (ac G h c f) (some (.int (-szDV y s))) (ac G h (bgC 0 ([12] ++ szDL y s)) (bgF 0 f ([12] ++ szDL y s))) := by
  refine ctm_intro (maxL := 4) kw_X0_answer (by decide) (by decide) [some (qr G 98), some (qr G 7), some (.int (nI s)), some (.int (nI 0))] rfl (Nat.le_of_ble_eq_true rfl) ?_
  intro X _ hcl hsl _ _ C E
  have v3 := hV.2.2.2.1
  refine y_aload_n C D_X0_answer_0 rfl ?_
  refine y_iconst C D_X0_answer_1 ki_0 ?_
  refine y_put C D_X0_answer_2 fl_X0_15 (ac_o ha) (Nat.le_of_ble_eq_true rfl) rfl rfl (ac_ptraced _) ?_
  refine y_iload_n C D_X0_answer_5 rfl ?_
  refine z_ifne0 C D_X0_answer_6 ?_
  refine y_aload_n C D_X0_answer_9 rfl ?_
  refine y_aload_n C D_X0_answer_10 rfl ?_
  refine y_iload_n C D_X0_answer_11 rfl ?_
  refine y_iconst C D_X0_answer_12 ki_0 ?_
  refine z_callV C D_X0_answer_13 lk_X0_19 (c_X0_sizeOf2 (d := 0) ha hy hV hs1 (Nat.zero_le _) (Nat.zero_le _) hk) (ac_o ha) rfl rfl (Nat.le_of_ble_eq_true rfl) (Nat.le_of_ble_eq_true rfl) ⟨Nat.zero_le _, Nat.zero_le _⟩ ?_
  refine y_goto C D_X0_answer_16 ?_
  exact y_iret C E D_X0_answer_26 (rfl) (rfl)
theorem c_X0_answer0_W (ha : 99 < h.length) (hy : Yat G h 7 y) (hV : Va y) {s : Nat} (hs1 : s < y 3) (hk : 4 ≤ y (6 + s)) : Ct l G yX0_answer 12 [qr G 98, qr G 7, .int (nI s), .int (nI 0)] (ac G h c f) (some (.int (szWV y s))) (ac G h (bgC 0 (szWL y s)) (bgF 0 f (szWL y s))) := by
  refine ctm_intro (maxL := 4) kw_X0_answer (by decide) (by decide) [some (qr G 98), some (qr G 7), some (.int (nI s)), some (.int (nI 0))] rfl (Nat.le_of_ble_eq_true rfl) ?_
  intro X _ hcl hsl _ _ C E
  have v3 := hV.2.2.2.1
  refine y_aload_n C D_X0_answer_0 rfl ?_
  refine y_iconst C D_X0_answer_1 ki_0 ?_
  refine y_put C D_X0_answer_2 fl_X0_15 (ac_o ha) (Nat.le_of_ble_eq_true rfl) rfl rfl (ac_ptraced _) ?_
  refine y_iload_n C D_X0_answer_5 rfl ?_
  refine z_ifne0 C D_X0_answer_6 ?_
  refine y_aload_n C D_X0_answer_9 rfl ?_
  refine y_aload_n C D_X0_answer_10 rfl ?_
  refine y_iload_n C D_X0_answer_11 rfl ?_
  refine y_iconst C D_X0_answer_12 ki_0 ?_
  refine z_callV C D_X0_answer_13 lk_X0_19 (c_X0_sizeOfW (d := 0) ha hy hV hs1 (Nat.zero_le _) (Nat.zero_le _) hk) (ac_o ha) rfl rfl (Nat.le_of_ble_eq_true rfl) (Nat.le_of_ble_eq_true rfl) ⟨Nat.zero_le _, Nat.zero_le _⟩ ?_
  refine y_goto C D_X0_answer_16 ?_
  exact y_iret C E D_X0_answer_26 (rfl) (rfl)
theorem c_X0_answer0 (ha : 99 < h.length) (hy : Yat G h 7 y) (hV : Va y) {s : Nat} (hs1 : s < y 3) : Ct l G yX0_answer 12 [qr G 98, qr G 7, .int (nI s), .int (nI 0)] (ac G h c f) (some (.int (szV y s))) (ac G h (bgC 0 (szL y s)) (bgF 0 f (szL y s))) := by
  have v3 := hV.2.2.2.1
  have hk5 := (hV.2.2.2.2.2.1 s (by omega)).1 hs1
  unfold szV szL
  by_cases e2 : y (6 + s) = 2
  · rw [if_pos e2, if_pos e2]
    exact c_X0_answer0_2 ha hy hV hs1 e2
  · rw [if_neg e2, if_neg e2]
    by_cases e4 : 4 ≤ y (6 + s)
    · rw [if_pos e4, if_pos e4]
      exact c_X0_answer0_W ha hy hV hs1 e4
    · rw [if_neg e4, if_neg e4]
      rcases (by omega : y (6 + s) = 1 ∨ y (6 + s) = 3) with e | e
      · exact c_X0_answer0_1 ha hy hV hs1 e
      · exact c_X0_answer0_3 ha hy hV hs1 e
end
