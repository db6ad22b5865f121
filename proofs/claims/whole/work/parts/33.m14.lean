section
variable {l : Launch} {G : qG} {U : List va_E} {i : Nat → Nat} {A : Nat → Nat → Nat} {B : Nat → Nat → Int32} {h : List va_E}
theorem c_X7_begin (hU : U.length = 122) {b : Nat} (hi : i 24 ≤ 16) : Ct l G yX7_begin 0 [qr G 122, .int (nI b)] (hm G U i A B) none (hmt G U i A B ([b])) := by
  refine ctm_intro (maxL := 2) kw_X7_begin (by decide) (by decide) [some (qr G 122), some (.int (nI b))] rfl (Nat.le_of_ble_eq_true rfl) ?_
  intro X _ hcl hsl _ _ C E
  refine y_aload_n C D_X7_begin_0 rfl ?_
  refine y_get C D_X7_begin_1 fl_X7_248 (hm_o hU) rfl ?_
  refine y_bipush C D_X7_begin_4 kb_16 ?_
  refine y_icmp_ge C D_X7_begin_6 (n_le (by omega) (by omega)) (fun c_6 => ?_) (fun c_6 => ?_)
  · exact y_vret C E D_X7_begin_29 (by unfold hmt; simp only [bgC, bgF, if_neg (Nat.not_lt.mpr c_6)]; rw [up_id, up_id])
  · refine y_aload_n C D_X7_begin_9 rfl ?_
    refine y_get C D_X7_begin_10 fl_X7_47 (hm_o hU) rfl ?_
    refine y_aload_n C D_X7_begin_13 rfl ?_
    refine y_get C D_X7_begin_14 fl_X7_248 (hm_o hU) rfl ?_
    refine y_iload_n C D_X7_begin_17 rfl ?_
    refine z_ist C D_X7_begin_18 (hm_trace hU) (by omega) (by decide) (hm_wtrace hU _ _) ?_
    refine y_aload_n C D_X7_begin_19 rfl ?_
    refine y_dup C D_X7_begin_20 rfl ?_
    refine y_get C D_X7_begin_21 fl_X7_248 (hm_o hU) rfl ?_
    refine y_iconst C D_X7_begin_24 ki_1 ?_
    refine z_iadd C D_X7_begin_25 ?_
    refine y_put C D_X7_begin_26 fl_X7_248 (hm_o hU) (Nat.le_of_ble_eq_true rfl) rfl rfl (hm_ptraced hU _) ?_
    exact y_vret C E D_X7_begin_29 (by unfold hmt; simp only [bgC, bgF, if_pos (Nat.not_le.mp c_6)])
theorem c_X7_lent10 (hU : U.length = 122) {w : Nat} (hw : w < 5) (hi : i 24 ≤ 16) (h0 : A 5 0 ≤ 6) : Ct l G yX7_lent 2 [qr G 122, .int (nI w), .int (nI 10)] (hm G U i A B) (some (.int (nI (mbn (A 5) w (A 5 0))))) (hmt G U i A B ([10])) := by
  refine ctm_intro (maxL := 3) kw_X7_lent (by decide) (by decide) [some (qr G 122), some (.int (nI w)), some (.int (nI 10))] rfl (Nat.le_of_ble_eq_true rfl) ?_
  intro X _ hcl hsl _ _ C E
  refine y_aload_n C D_X7_lent_0 rfl ?_
  refine y_iload_n C D_X7_lent_1 rfl ?_
  refine z_callVv C D_X7_lent_2 lk_X7_251 (c_X7_begin hU hi) (hm_o hU) rfl rfl (Nat.le_of_ble_eq_true rfl) (Nat.le_of_ble_eq_true rfl) ⟨Nat.zero_le _, Nat.zero_le _⟩ ?_
  refine y_iload_n C D_X7_lent_5 rfl ?_
  refine y_bipush C D_X7_lent_6 kb_10 ?_
  refine y_icmp_ne C D_X7_lent_8 (n_eq (by omega) (by omega)) (fun c_8 => absurd rfl c_8) (fun c_8 => ?_)
  refine y_aload_n C D_X7_lent_11 rfl ?_
  refine y_iload_n C D_X7_lent_12 rfl ?_
  refine z_callV C D_X7_lent_13 lk_X7_183 (c_X7_memoryBy hU hw (by rw [up23]; exact h0)) (hm_o hU) rfl rfl (Nat.le_of_ble_eq_true rfl) (Nat.le_of_ble_eq_true rfl) ⟨Nat.zero_le _, Nat.zero_le _⟩ ?_
  rw [up23]
  refine y_goto C D_X7_lent_16 ?_
  exact y_iret C E D_X7_lent_20 (rfl) (rfl)
theorem c_X7_lent20 (hU : U.length = 122) {w : Nat} (hw : w < 5) (hi : i 24 ≤ 16) (h0 : A 5 0 ≤ 6) : Ct l G yX7_lent 2 [qr G 122, .int (nI w), .int (nI 20)] (hm G U i A B) (some (.int (nI (w)))) (hmt G U i A B ([20])) := by
  refine ctm_intro (maxL := 3) kw_X7_lent (by decide) (by decide) [some (qr G 122), some (.int (nI w)), some (.int (nI 20))] rfl (Nat.le_of_ble_eq_true rfl) ?_
  intro X _ hcl hsl _ _ C E
  refine y_aload_n C D_X7_lent_0 rfl ?_
  refine y_iload_n C D_X7_lent_1 rfl ?_
  refine z_callVv C D_X7_lent_2 lk_X7_251 (c_X7_begin hU hi) (hm_o hU) rfl rfl (Nat.le_of_ble_eq_true rfl) (Nat.le_of_ble_eq_true rfl) ⟨Nat.zero_le _, Nat.zero_le _⟩ ?_
  refine y_iload_n C D_X7_lent_5 rfl ?_
  refine y_bipush C D_X7_lent_6 kb_10 ?_
  refine y_icmp_ne C D_X7_lent_8 (n_eq (by omega) (by omega)) (fun c_8 => ?_) (fun c_8 => absurd c_8 (by decide))
  refine y_iload_n C D_X7_lent_19 rfl ?_
  exact y_iret C E D_X7_lent_20 (rfl) (rfl)
theorem c_X7_dreamerMark (hU : U.length = 122) {w : Nat} (hw : w < 5) (hi : i 24 ≤ 16) (h0 : A 5 0 ≤ 6) : Ct l G yX7_dreamerMark 3 [qr G 122, .int (nI w)] (hm G U i A B) (some (.int (mkD (A 5) w))) (hmt G U i A B ([21, 20])) := by
  refine ctm_intro (maxL := 2) kw_X7_dreamerMark (by decide) (by decide) [some (qr G 122), some (.int (nI w))] rfl (Nat.le_of_ble_eq_true rfl) ?_
  intro X _ hcl hsl _ _ C E
  refine y_aload_n C D_X7_dreamerMark_0 rfl ?_
  refine y_bipush C D_X7_dreamerMark_1 kb_21 ?_
  refine z_callVv C D_X7_dreamerMark_3 lk_X7_251 (c_X7_begin hU hi) (hm_o hU) rfl rfl (Nat.le_of_ble_eq_true rfl) (Nat.le_of_ble_eq_true rfl) ⟨Nat.zero_le _, Nat.zero_le _⟩ ?_
  skip
  refine y_aload_n C D_X7_dreamerMark_6 rfl ?_
  refine y_iload_n C D_X7_dreamerMark_7 rfl ?_
  refine y_bipush C D_X7_dreamerMark_8 kb_20 ?_
  refine z_callV C D_X7_dreamerMark_10 lk_X7_254 (c_X7_lent20 hU hw (by rw [up_eq]; exact bgC_le _ _ hi) (by rw [up23]; exact h0)) (hm_o hU) rfl rfl (Nat.le_of_ble_eq_true rfl) (Nat.le_of_ble_eq_true rfl) ⟨Nat.zero_le _, Nat.zero_le _⟩ ?_
  rw [hmt_hmt]
  refine y_aload_n C D_X7_dreamerMark_13 rfl ?_
  refine y_iload_n C D_X7_dreamerMark_14 rfl ?_
  refine y_iconst C D_X7_dreamerMark_15 ki_0 ?_
  refine z_callV C D_X7_dreamerMark_16 lk_X7_146 (c_X7_memoryOf hU (by omega) (by omega)) (hm_o hU) rfl rfl (Nat.le_of_ble_eq_true rfl) (Nat.le_of_ble_eq_true rfl) ⟨Nat.zero_le _, Nat.zero_le _⟩ ?_
  rw [up23]
  refine z_iadd C D_X7_dreamerMark_19 ?_
  exact y_iret C E D_X7_dreamerMark_20 (rfl) (rfl)
theorem c_X7_wifeSize (hU : U.length = 122) {w : Nat} (hw : w < 5) (hi : i 24 ≤ 16) (h0 : A 5 0 ≤ 6) : Ct l G yX7_wifeSize 3 [qr G 122, .int (nI w)] (hm G U i A B) (some (.int (nI (mbn (A 5) w (A 5 0)) - nI 100))) (hmt G U i A B ([13, 10])) := by
  refine ctm_intro (maxL := 2) kw_X7_wifeSize (by decide) (by decide) [some (qr G 122), some (.int (nI w))] rfl (Nat.le_of_ble_eq_true rfl) ?_
  intro X _ hcl hsl _ _ C E
  refine y_aload_n C D_X7_wifeSize_0 rfl ?_
  refine y_bipush C D_X7_wifeSize_1 kb_13 ?_
  refine z_callVv C D_X7_wifeSize_3 lk_X7_251 (c_X7_begin hU hi) (hm_o hU) rfl rfl (Nat.le_of_ble_eq_true rfl) (Nat.le_of_ble_eq_true rfl) ⟨Nat.zero_le _, Nat.zero_le _⟩ ?_
  skip
  refine y_aload_n C D_X7_wifeSize_6 rfl ?_
  refine y_iload_n C D_X7_wifeSize_7 rfl ?_
  refine y_bipush C D_X7_wifeSize_8 kb_10 ?_
  refine z_callV C D_X7_wifeSize_10 lk_X7_254 (c_X7_lent10 hU hw (by rw [up_eq]; exact bgC_le _ _ hi) (by rw [up23]; exact h0)) (hm_o hU) rfl rfl (Nat.le_of_ble_eq_true rfl) (Nat.le_of_ble_eq_true rfl) ⟨Nat.zero_le _, Nat.zero_le _⟩ ?_
  rw [hmt_hmt]
  rw [up23]
  refine y_bipush C D_X7_wifeSize_13 kb_100 ?_
  refine y_isub C D_X7_wifeSize_15 ?_
  exact y_iret C E D_X7_wifeSize_16 (rfl) (rfl)
theorem c_X7_sizeOfWife (hU : U.length = 122) {w : Nat} (hw : w < 5) (hi : i 24 ≤ 16) (h0 : A 5 0 ≤ 6) (hb : A 5 (6 + w) < 2000) : Ct l G yX7_sizeOfWife 4 [qr G 122, .int (nI w)] (hm G U i A B) (some (.int (szWV (A 5) w))) (hmt G U i A B (szWL (A 5) w)) := by
  refine ctm_intro (maxL := 2) kw_X7_sizeOfWife (by decide) (by decide) [some (qr G 122), some (.int (nI w))] rfl (Nat.le_of_ble_eq_true rfl) ?_
  intro X _ hcl hsl _ _ C E
  refine y_aload_n C D_X7_sizeOfWife_0 rfl ?_
  refine y_get C D_X7_sizeOfWife_1 fl_X7_19 (hm_o hU) rfl ?_
  refine y_bipush C D_X7_sizeOfWife_4 kb_6 ?_
  refine y_iload_n C D_X7_sizeOfWife_6 rfl ?_
  refine z_iadd C D_X7_sizeOfWife_7 ?_
  refine z_ild C D_X7_sizeOfWife_8 (hm_st hU) (by omega) (by decide) rfl ?_
  refine y_iconst C D_X7_sizeOfWife_9 ki_5 ?_
  refine y_icmp_ne C D_X7_sizeOfWife_10 (n_eq (by omega) (by omega)) (fun c_10 => ?_) (fun c_10 => ?_)
  · refine y_aload_n C D_X7_sizeOfWife_27 rfl ?_
    refine y_iload_n C D_X7_sizeOfWife_28 rfl ?_
    refine z_callV C D_X7_sizeOfWife_29 lk_X7_257 (c_X7_wifeSize hU hw hi h0) (hm_o hU) rfl rfl (Nat.le_of_ble_eq_true rfl) (Nat.le_of_ble_eq_true rfl) ⟨Nat.zero_le _, Nat.zero_le _⟩ ?_
    skip
    exact y_iret C E D_X7_sizeOfWife_32 (rv (by rw [szWV, if_neg c_10])) (by rw [szWL, if_neg c_10])
  · refine y_aload_n C D_X7_sizeOfWife_13 rfl ?_
    refine y_bipush C D_X7_sizeOfWife_14 kb_14 ?_
    refine z_callVv C D_X7_sizeOfWife_16 lk_X7_251 (c_X7_begin hU hi) (hm_o hU) rfl rfl (Nat.le_of_ble_eq_true rfl) (Nat.le_of_ble_eq_true rfl) ⟨Nat.zero_le _, Nat.zero_le _⟩ ?_
    skip
    refine y_iconst C D_X7_sizeOfWife_19 ki_2 ?_
    refine y_aload_n C D_X7_sizeOfWife_20 rfl ?_
    refine y_iload_n C D_X7_sizeOfWife_21 rfl ?_
    refine z_callV C D_X7_sizeOfWife_22 lk_X7_257 (c_X7_wifeSize hU hw (by rw [up_eq]; exact bgC_le _ _ hi) (by rw [up23]; exact h0)) (hm_o hU) rfl rfl (Nat.le_of_ble_eq_true rfl) (Nat.le_of_ble_eq_true rfl) ⟨Nat.zero_le _, Nat.zero_le _⟩ ?_
    rw [hmt_hmt]
    rw [up23]
    refine y_imul C D_X7_sizeOfWife_25 ?_
    exact y_iret C E D_X7_sizeOfWife_26 (rv (by rw [szWV, if_pos c_10])) (by rw [szWL, if_pos c_10]; rfl)
theorem c_X7_markOf (hU : U.length = 122) {w : Nat} (hw : w < 5) (hi : i 24 ≤ 16) (h0 : A 5 0 ≤ 6) (hb : A 5 (6 + w) < 2000) : Ct l G yX7_markOf 5 [qr G 122, .int (nI w)] (hm G U i A B) (some (.int (mkV (A 5) w))) (hmt G U i A B (mkL (A 5) w)) := by
  refine ctm_intro (maxL := 4) kw_X7_markOf (by decide) (by decide) [some (qr G 122), some (.int (nI w)), none, none] rfl (Nat.le_of_ble_eq_true rfl) ?_
  intro X _ hcl hsl _ _ C E
  refine y_aload_n C D_X7_markOf_0 rfl ?_
  refine y_get C D_X7_markOf_1 fl_X7_19 (hm_o hU) rfl ?_
  refine y_bipush C D_X7_markOf_4 kb_6 ?_
  refine y_iload_n C D_X7_markOf_6 rfl ?_
  refine z_iadd C D_X7_markOf_7 ?_
  refine z_ild C D_X7_markOf_8 (hm_st hU) (by omega) (by decide) rfl ?_
  refine y_istore_n C D_X7_markOf_9 (by decide) (qok_s rfl rfl) ?_
  refine y_iload_n C D_X7_markOf_10 rfl ?_
  refine y_iconst C D_X7_markOf_11 ki_2 ?_
  refine y_icmp_ne C D_X7_markOf_12 (n_eq (by omega) (by omega)) (fun c_12 => ?_) (fun c_12 => ?_)
  · refine y_iload_n C D_X7_markOf_29 rfl ?_
    refine y_iconst C D_X7_markOf_30 ki_3 ?_
    refine y_icmp_ne C D_X7_markOf_31 (n_eq (by omega) (by omega)) (fun c_31 => ?_) (fun c_31 => ?_)
    · refine y_iload_n C D_X7_markOf_50 rfl ?_
      refine y_iconst C D_X7_markOf_51 ki_1 ?_
      refine y_icmp_ne C D_X7_markOf_52 (n_eq (by omega) (by omega)) (fun c_52 => ?_) (fun c_52 => ?_)
      · refine y_aload_n C D_X7_markOf_61 rfl ?_
        refine y_bipush C D_X7_markOf_62 kb_23 ?_
        refine z_callVv C D_X7_markOf_64 lk_X7_251 (c_X7_begin hU hi) (hm_o hU) rfl rfl (Nat.le_of_ble_eq_true rfl) (Nat.le_of_ble_eq_true rfl) ⟨Nat.zero_le _, Nat.zero_le _⟩ ?_
        skip
        refine y_aload_n C D_X7_markOf_67 rfl ?_
        refine y_iload_n C D_X7_markOf_68 rfl ?_
        refine y_bipush C D_X7_markOf_69 kb_20 ?_
        refine z_callV C D_X7_markOf_71 lk_X7_254 (c_X7_lent20 hU hw (by rw [up_eq]; exact bgC_le _ _ hi) (by rw [up23]; exact h0)) (hm_o hU) rfl rfl (Nat.le_of_ble_eq_true rfl) (Nat.le_of_ble_eq_true rfl) ⟨Nat.zero_le _, Nat.zero_le _⟩ ?_
        rw [hmt_hmt]
        refine y_istore_n C D_X7_markOf_74 (by decide) (qok_s rfl rfl) ?_
        refine y_iload_n C D_X7_markOf_75 rfl ?_
        refine y_aload_n C D_X7_markOf_76 rfl ?_
        refine y_iload_n C D_X7_markOf_77 rfl ?_
        refine z_callV C D_X7_markOf_78 lk_X7_263 (c_X7_sizeOfWife hU hw (by rw [up_eq]; exact bgC_le _ _ hi) (by rw [up23]; exact h0) (by rw [up23]; exact hb)) (hm_o hU) rfl rfl (Nat.le_of_ble_eq_true rfl) (Nat.le_of_ble_eq_true rfl) ⟨Nat.zero_le _, Nat.zero_le _⟩ ?_
        rw [hmt_hmt]
        rw [up23]
        refine y_isub C D_X7_markOf_81 ?_
        exact y_iret C E D_X7_markOf_82 (rv (by rw [mkV, if_neg c_12, if_neg c_31, if_neg c_52])) (by rw [mkL, if_neg c_12, if_neg c_31, if_neg c_52]; rfl)
      · refine y_aload_n C D_X7_markOf_55 rfl ?_
        refine y_iload_n C D_X7_markOf_56 rfl ?_
        refine z_callV C D_X7_markOf_57 lk_X7_260 (c_X7_dreamerMark hU hw hi h0) (hm_o hU) rfl rfl (Nat.le_of_ble_eq_true rfl) (Nat.le_of_ble_eq_true rfl) ⟨Nat.zero_le _, Nat.zero_le _⟩ ?_
        skip
        exact y_iret C E D_X7_markOf_60 (rv (by rw [mkV, if_neg c_12, if_neg c_31, if_pos c_52])) (by rw [mkL, if_neg c_12, if_neg c_31, if_pos c_52])
    · refine y_aload_n C D_X7_markOf_34 rfl ?_
      refine y_bipush C D_X7_markOf_35 kb_22 ?_
      refine z_callVv C D_X7_markOf_37 lk_X7_251 (c_X7_begin hU hi) (hm_o hU) rfl rfl (Nat.le_of_ble_eq_true rfl) (Nat.le_of_ble_eq_true rfl) ⟨Nat.zero_le _, Nat.zero_le _⟩ ?_
      skip
      refine y_aload_n C D_X7_markOf_40 rfl ?_
      refine y_iload_n C D_X7_markOf_41 rfl ?_
      refine z_callV C D_X7_markOf_42 lk_X7_260 (c_X7_dreamerMark hU hw (by rw [up_eq]; exact bgC_le _ _ hi) (by rw [up23]; exact h0)) (hm_o hU) rfl rfl (Nat.le_of_ble_eq_true rfl) (Nat.le_of_ble_eq_true rfl) ⟨Nat.zero_le _, Nat.zero_le _⟩ ?_
      rw [hmt_hmt]
      rw [up23]
      refine y_sipush C D_X7_markOf_45 kn_1000 ?_
      refine y_isub C D_X7_markOf_48 ?_
      exact y_iret C E D_X7_markOf_49 (rv (by rw [mkV, if_neg c_12, if_pos c_31])) (by rw [mkL, if_neg c_12, if_pos c_31]; rfl)
  · refine y_aload_n C D_X7_markOf_15 rfl ?_
    refine y_bipush C D_X7_markOf_16 kb_24 ?_
    refine z_callVv C D_X7_markOf_18 lk_X7_251 (c_X7_begin hU hi) (hm_o hU) rfl rfl (Nat.le_of_ble_eq_true rfl) (Nat.le_of_ble_eq_true rfl) ⟨Nat.zero_le _, Nat.zero_le _⟩ ?_
    skip
    refine y_iconst C D_X7_markOf_21 ki_2 ?_
    refine y_aload_n C D_X7_markOf_22 rfl ?_
    refine y_iload_n C D_X7_markOf_23 rfl ?_
    refine z_callV C D_X7_markOf_24 lk_X7_260 (c_X7_dreamerMark hU hw (by rw [up_eq]; exact bgC_le _ _ hi) (by rw [up23]; exact h0)) (hm_o hU) rfl rfl (Nat.le_of_ble_eq_true rfl) (Nat.le_of_ble_eq_true rfl) ⟨Nat.zero_le _, Nat.zero_le _⟩ ?_
    rw [hmt_hmt]
    rw [up23]
    refine y_imul C D_X7_markOf_27 ?_
    exact y_iret C E D_X7_markOf_28 (rv (by rw [mkV, if_pos c_12])) (by rw [mkL, if_pos c_12]; rfl)
theorem c_X7_dreamerSize (hU : U.length = 122) {w : Nat} (hw : w < 5) (hi : i 24 ≤ 16) (h0 : A 5 0 ≤ 6) (hb : A 5 (6 + w) < 2000) : Ct l G yX7_dreamerSize 6 [qr G 122, .int (nI w)] (hm G U i A B) (some (.int (szDV (A 5) w))) (hmt G U i A B (szDL (A 5) w)) := by
  refine ctm_intro (maxL := 3) kw_X7_dreamerSize (by decide) (by decide) [some (qr G 122), some (.int (nI w)), none] rfl (Nat.le_of_ble_eq_true rfl) ?_
  intro X _ hcl hsl _ _ C E
  refine y_aload_n C D_X7_dreamerSize_0 rfl ?_
  refine y_bipush C D_X7_dreamerSize_1 kb_11 ?_
  refine z_callVv C D_X7_dreamerSize_3 lk_X7_251 (c_X7_begin hU hi) (hm_o hU) rfl rfl (Nat.le_of_ble_eq_true rfl) (Nat.le_of_ble_eq_true rfl) ⟨Nat.zero_le _, Nat.zero_le _⟩ ?_
  skip
  refine y_aload_n C D_X7_dreamerSize_6 rfl ?_
  refine y_iload_n C D_X7_dreamerSize_7 rfl ?_
  refine y_bipush C D_X7_dreamerSize_8 kb_10 ?_
  refine z_callV C D_X7_dreamerSize_10 lk_X7_254 (c_X7_lent10 hU hw (by rw [up_eq]; exact bgC_le _ _ hi) (by rw [up23]; exact h0)) (hm_o hU) rfl rfl (Nat.le_of_ble_eq_true rfl) (Nat.le_of_ble_eq_true rfl) ⟨Nat.zero_le _, Nat.zero_le _⟩ ?_
  rw [hmt_hmt]
  rw [up23]
  refine y_istore_n C D_X7_dreamerSize_13 (by decide) (qok_s rfl rfl) ?_
  refine y_iload_n C D_X7_dreamerSize_14 rfl ?_
  refine y_aload_n C D_X7_dreamerSize_15 rfl ?_
  refine y_iload_n C D_X7_dreamerSize_16 rfl ?_
  refine z_callV C D_X7_dreamerSize_17 lk_X7_266 (c_X7_markOf hU hw (by rw [up_eq]; exact bgC_le _ _ hi) (by rw [up23]; exact h0) (by rw [up23]; exact hb)) (hm_o hU) rfl rfl (Nat.le_of_ble_eq_true rfl) (Nat.le_of_ble_eq_true rfl) ⟨Nat.zero_le _, Nat.zero_le _⟩ ?_
  rw [hmt_hmt]
  rw [up23]
  refine y_iadd C D_X7_dreamerSize_20 ?_
  exact y_iret C E D_X7_dreamerSize_21 (rfl) (rfl)
theorem c_X7_sizeOf (hU : U.length = 122) {w : Nat} (hw : w < 5) (hi : i 24 ≤ 16) (h0 : A 5 0 ≤ 6) (hb : A 5 (6 + w) < 2000) : Ct l G yX7_sizeOf 7 [qr G 122, .int (nI w)] (hm G U i A B) (some (.int (szV (A 5) w))) (hmt G U i A B (szL (A 5) w)) := by
  refine ctm_intro (maxL := 3) kw_X7_sizeOf (by decide) (by decide) [some (qr G 122), some (.int (nI w)), none] rfl (Nat.le_of_ble_eq_true rfl) ?_
  intro X _ hcl hsl _ _ C E
  refine y_aload_n C D_X7_sizeOf_0 rfl ?_
  refine y_get C D_X7_sizeOf_1 fl_X7_19 (hm_o hU) rfl ?_
  refine y_bipush C D_X7_sizeOf_4 kb_6 ?_
  refine y_iload_n C D_X7_sizeOf_6 rfl ?_
  refine z_iadd C D_X7_sizeOf_7 ?_
  refine z_ild C D_X7_sizeOf_8 (hm_st hU) (by omega) (by decide) rfl ?_
  refine y_istore_n C D_X7_sizeOf_9 (by decide) (qok_s rfl rfl) ?_
  refine y_iload_n C D_X7_sizeOf_10 rfl ?_
  refine y_iconst C D_X7_sizeOf_11 ki_2 ?_
  refine y_icmp_ne C D_X7_sizeOf_12 (n_eq (by omega) (by omega)) (fun c_12 => ?_) (fun c_12 => ?_)
  · refine y_iload_n C D_X7_sizeOf_28 rfl ?_
    refine y_iconst C D_X7_sizeOf_29 ki_4 ?_
    refine y_icmp_lt C D_X7_sizeOf_30 (n_lt (by omega) (by omega)) (fun c_30 => ?_) (fun c_30 => ?_)
    · refine y_aload_n C D_X7_sizeOf_41 rfl ?_
      refine y_iload_n C D_X7_sizeOf_42 rfl ?_
      refine z_callV C D_X7_sizeOf_43 lk_X7_269 (c_X7_dreamerSize hU hw hi h0 hb) (hm_o hU) rfl rfl (Nat.le_of_ble_eq_true rfl) (Nat.le_of_ble_eq_true rfl) ⟨Nat.zero_le _, Nat.zero_le _⟩ ?_
      exact y_iret C E D_X7_sizeOf_46 (rv (by rw [szV, if_neg c_12, if_neg (by omega)])) (by rw [szL, if_neg c_12, if_neg (by omega)])
    · refine y_aload_n C D_X7_sizeOf_33 rfl ?_
      refine y_iload_n C D_X7_sizeOf_34 rfl ?_
      refine z_callV C D_X7_sizeOf_35 lk_X7_263 (c_X7_sizeOfWife hU hw hi h0 hb) (hm_o hU) rfl rfl (Nat.le_of_ble_eq_true rfl) (Nat.le_of_ble_eq_true rfl) ⟨Nat.zero_le _, Nat.zero_le _⟩ ?_
      refine y_goto C D_X7_sizeOf_38 ?_
      exact y_iret C E D_X7_sizeOf_46 (rv (by rw [szV, if_neg c_12, if_pos (by omega)])) (by rw [szL, if_neg c_12, if_pos (by omega)])
  · refine y_aload_n C D_X7_sizeOf_15 rfl ?_
    refine y_bipush C D_X7_sizeOf_16 kb_12 ?_
    refine z_callVv C D_X7_sizeOf_18 lk_X7_251 (c_X7_begin hU hi) (hm_o hU) rfl rfl (Nat.le_of_ble_eq_true rfl) (Nat.le_of_ble_eq_true rfl) ⟨Nat.zero_le _, Nat.zero_le _⟩ ?_
    skip
    refine y_aload_n C D_X7_sizeOf_21 rfl ?_
    refine y_iload_n C D_X7_sizeOf_22 rfl ?_
    refine z_callV C D_X7_sizeOf_23 lk_X7_269 (c_X7_dreamerSize hU hw (by rw [up_eq]; exact bgC_le _ _ hi) (by rw [up23]; exact h0) (by rw [up23]; exact hb)) (hm_o hU) rfl rfl (Nat.le_of_ble_eq_true rfl) (Nat.le_of_ble_eq_true rfl) ⟨Nat.zero_le _, Nat.zero_le _⟩ ?_
    rw [hmt_hmt]
    rw [up23]
    refine y_ineg C D_X7_sizeOf_26 ?_
    exact y_iret C E D_X7_sizeOf_27 (rv (by rw [szV, if_pos c_12])) (by rw [szL, if_pos c_12])
theorem c_X7_askB (hU : U.length = 122) (h3 : A 5 3 ≤ 5) {x w : Int32} (hx : ¬ isx x (A 5 3) ∨ ¬ isx w 2) : Ct l G yX7_ask 8 [qr G 122, .int x, .int w] (hm G U i A B) (some (.int (-1000001))) (hm G U i A B) := by
  refine ctm_intro (maxL := 3) kw_X7_ask (by decide) (by decide) [some (qr G 122), some (.int x), some (.int w)] rfl (Nat.le_of_ble_eq_true rfl) ?_
  intro X _ hcl hsl _ _ C E
  refine y_aload_n C D_X7_ask_0 rfl ?_
  refine y_iload_n C D_X7_ask_1 rfl ?_
  refine z_callV C D_X7_ask_2 lk_X7_171 (c_X7_isSleeper hU (by omega)) (hm_o hU) rfl rfl (Nat.le_of_ble_eq_true rfl) (Nat.le_of_ble_eq_true rfl) ⟨Nat.zero_le _, Nat.zero_le _⟩ ?_
  refine z_ifeqB C D_X7_ask_5 (fun c_5 => ?_) (fun c_5 => ?_)
  · refine y_ldc C D_X7_ask_18 lk_X7_67 ?_
    exact y_iret C E D_X7_ask_20 (rfl) (rfl)
  · refine y_iload_n C D_X7_ask_8 rfl ?_
    refine y_i2l C D_X7_ask_9 ?_
    refine y_lconst C D_X7_ask_10 rfl ?_
    refine y_lconst C D_X7_ask_11 rfl ?_
    refine z_callS C D_X7_ask_12 lk_X7_57 (c_X7_in) rfl rfl (Nat.le_of_ble_eq_true rfl) (Nat.le_of_ble_eq_true rfl) ⟨Nat.zero_le _, Nat.zero_le _⟩ ?_
    refine y_top (bI_c (in_isx (z := 1) (n := 2) (by decide) rfl)) ?_
    refine z_ifneB C D_X7_ask_15 (fun c_15 => hx.elim (fun z => absurd c_5 z) (fun z => absurd c_15 z)) (fun c_15 => ?_)
    refine y_ldc C D_X7_ask_18 lk_X7_67 ?_
    exact y_iret C E D_X7_ask_20 (rfl) (rfl)
theorem c_X7_ask0 (hU : U.length = 122) (h3 : A 5 3 ≤ 5) (h0 : A 5 0 ≤ 6) {s : Nat} (hs1 : s < A 5 3) (hb : A 5 (6 + s) < 2000) : Ct l G yX7_ask 8 [qr G 122, .int (nI s), .int (nI 0)] (hm G U i A B) (some (.int (szV (A 5) s))) (hm G U (va_up i 24 (bgC 0 (szL (A 5) s))) (va_up A 23 (bgF 0 (A 23) (szL (A 5) s))) B) := by
  refine ctm_intro (maxL := 3) kw_X7_ask (by decide) (by decide) [some (qr G 122), some (.int (nI s)), some (.int (nI 0))] rfl (Nat.le_of_ble_eq_true rfl) ?_
  intro X _ hcl hsl _ _ C E
  refine y_aload_n C D_X7_ask_0 rfl ?_
  refine y_iload_n C D_X7_ask_1 rfl ?_
  refine z_callV C D_X7_ask_2 lk_X7_171 (c_X7_isSleeper hU (by omega)) (hm_o hU) rfl rfl (Nat.le_of_ble_eq_true rfl) (Nat.le_of_ble_eq_true rfl) ⟨Nat.zero_le _, Nat.zero_le _⟩ ?_
  refine z_ifeqB C D_X7_ask_5 (fun c_5 => absurd (isx_n (by omega) hs1) c_5) (fun c_5 => ?_)
  refine y_iload_n C D_X7_ask_8 rfl ?_
  refine y_i2l C D_X7_ask_9 ?_
  refine y_lconst C D_X7_ask_10 rfl ?_
  refine y_lconst C D_X7_ask_11 rfl ?_
  refine z_callS C D_X7_ask_12 lk_X7_57 (c_X7_in) rfl rfl (Nat.le_of_ble_eq_true rfl) (Nat.le_of_ble_eq_true rfl) ⟨Nat.zero_le _, Nat.zero_le _⟩ ?_
  refine y_top (bI_c (in_isx (z := 1) (n := 2) (by decide) rfl)) ?_
  refine z_ifneB C D_X7_ask_15 (fun c_15 => ?_) (fun c_15 => absurd (isx_n (by decide) (by decide)) c_15)
  refine y_aload_n C D_X7_ask_21 rfl ?_
  refine y_iconst C D_X7_ask_22 ki_0 ?_
  refine y_put C D_X7_ask_23 fl_X7_248 (hm_o hU) (Nat.le_of_ble_eq_true rfl) rfl rfl (hm_ptraced hU _) ?_
  refine y_iload_n C D_X7_ask_26 rfl ?_
  refine z_ifne0 C D_X7_ask_27 ?_
  refine y_aload_n C D_X7_ask_30 rfl ?_
  refine y_iload_n C D_X7_ask_31 rfl ?_
  refine z_callV C D_X7_ask_32 lk_X7_272 (c_X7_sizeOf hU (by omega) (by rw [up_eq]; decide) (by omega) (by omega)) (hm_o hU) rfl rfl (Nat.le_of_ble_eq_true rfl) (Nat.le_of_ble_eq_true rfl) ⟨Nat.zero_le _, Nat.zero_le _⟩ ?_
  refine y_goto C D_X7_ask_35 ?_
  exact y_iret C E D_X7_ask_43 (rfl) (by unfold hmt; rw [up_eq, bx_uu])
theorem c_X7_ask1 (hU : U.length = 122) (h3 : A 5 3 ≤ 5) (h0 : A 5 0 ≤ 6) {s : Nat} (hs1 : s < A 5 3) (hb : A 5 (6 + s) < 2000) : Ct l G yX7_ask 8 [qr G 122, .int (nI s), .int (nI 1)] (hm G U i A B) (some (.int (mkV (A 5) s))) (hm G U (va_up i 24 (bgC 0 (mkL (A 5) s))) (va_up A 23 (bgF 0 (A 23) (mkL (A 5) s))) B) := by
  refine ctm_intro (maxL := 3) kw_X7_ask (by decide) (by decide) [some (qr G 122), some (.int (nI s)), some (.int (nI 1))] rfl (Nat.le_of_ble_eq_true rfl) ?_
  intro X _ hcl hsl _ _ C E
  refine y_aload_n C D_X7_ask_0 rfl ?_
  refine y_iload_n C D_X7_ask_1 rfl ?_
  refine z_callV C D_X7_ask_2 lk_X7_171 (c_X7_isSleeper hU (by omega)) (hm_o hU) rfl rfl (Nat.le_of_ble_eq_true rfl) (Nat.le_of_ble_eq_true rfl) ⟨Nat.zero_le _, Nat.zero_le _⟩ ?_
  refine z_ifeqB C D_X7_ask_5 (fun c_5 => absurd (isx_n (by omega) hs1) c_5) (fun c_5 => ?_)
  refine y_iload_n C D_X7_ask_8 rfl ?_
  refine y_i2l C D_X7_ask_9 ?_
  refine y_lconst C D_X7_ask_10 rfl ?_
  refine y_lconst C D_X7_ask_11 rfl ?_
  refine z_callS C D_X7_ask_12 lk_X7_57 (c_X7_in) rfl rfl (Nat.le_of_ble_eq_true rfl) (Nat.le_of_ble_eq_true rfl) ⟨Nat.zero_le _, Nat.zero_le _⟩ ?_
  refine y_top (bI_c (in_isx (z := 1) (n := 2) (by decide) rfl)) ?_
  refine z_ifneB C D_X7_ask_15 (fun c_15 => ?_) (fun c_15 => absurd (isx_n (by decide) (by decide)) c_15)
  refine y_aload_n C D_X7_ask_21 rfl ?_
  refine y_iconst C D_X7_ask_22 ki_0 ?_
  refine y_put C D_X7_ask_23 fl_X7_248 (hm_o hU) (Nat.le_of_ble_eq_true rfl) rfl rfl (hm_ptraced hU _) ?_
  refine y_iload_n C D_X7_ask_26 rfl ?_
  refine z_ifne1 C D_X7_ask_27 ?_
  refine y_aload_n C D_X7_ask_38 rfl ?_
  refine y_iload_n C D_X7_ask_39 rfl ?_
  refine z_callV C D_X7_ask_40 lk_X7_266 (c_X7_markOf hU (by omega) (by rw [up_eq]; decide) (by omega) (by omega)) (hm_o hU) rfl rfl (Nat.le_of_ble_eq_true rfl) (Nat.le_of_ble_eq_true rfl) ⟨Nat.zero_le _, Nat.zero_le _⟩ ?_
  exact y_iret C E D_X7_ask_43 (rfl) (by unfold hmt; rw [up_eq, bx_uu])
theorem c_X7_traceN (hU : U.length = 122) {x : Int32} (hi : i 24 ≤ 16) (hx : ¬ isx x (i 24)) : Ct l G yX7_trace 1 [qr G 122, .int x] (hm G U i A B) (some (.int (-1000000))) (hm G U i A B) := by
  refine ctm_intro (maxL := 2) kw_X7_trace (by decide) (by decide) [some (qr G 122), some (.int x)] rfl (Nat.le_of_ble_eq_true rfl) ?_
  intro X _ hcl hsl _ _ C E
  refine y_iload_n C D_X7_trace_0 rfl ?_
  refine y_i2l C D_X7_trace_1 ?_
  refine y_lconst C D_X7_trace_2 rfl ?_
  refine y_aload_n C D_X7_trace_3 rfl ?_
  refine y_get C D_X7_trace_4 fl_X7_248 (hm_o hU) rfl ?_
  refine y_iconst C D_X7_trace_7 ki_1 ?_
  refine y_isub C D_X7_trace_8 ?_
  refine y_i2l C D_X7_trace_9 ?_
  refine z_callS C D_X7_trace_10 lk_X7_57 (c_X7_in) rfl rfl (Nat.le_of_ble_eq_true rfl) (Nat.le_of_ble_eq_true rfl) ⟨Nat.zero_le _, Nat.zero_le _⟩ ?_
  refine y_top (bI_c (in_isx (n := i 24) (by omega) (nI_sub1 (by omega)))) ?_
  refine z_ifeqB C D_X7_trace_13 (fun c_13 => ?_) (fun c_13 => absurd c_13 hx)
  refine y_ldc C D_X7_trace_25 lk_X7_197 ?_
  exact y_iret C E D_X7_trace_27 (rfl) (rfl)
theorem c_X7_trace (hU : U.length = 122) {q : Nat} (hi : i 24 ≤ 16) (hq : q < i 24) : Ct l G yX7_trace 1 [qr G 122, .int (nI q)] (hm G U i A B) (some (.int (nI (A 23 q)))) (hm G U i A B) := by
  refine ctm_intro (maxL := 2) kw_X7_trace (by decide) (by decide) [some (qr G 122), some (.int (nI q))] rfl (Nat.le_of_ble_eq_true rfl) ?_
  intro X _ hcl hsl _ _ C E
  refine y_iload_n C D_X7_trace_0 rfl ?_
  refine y_i2l C D_X7_trace_1 ?_
  refine y_lconst C D_X7_trace_2 rfl ?_
  refine y_aload_n C D_X7_trace_3 rfl ?_
  refine y_get C D_X7_trace_4 fl_X7_248 (hm_o hU) rfl ?_
  refine y_iconst C D_X7_trace_7 ki_1 ?_
  refine y_isub C D_X7_trace_8 ?_
  refine y_i2l C D_X7_trace_9 ?_
  refine z_callS C D_X7_trace_10 lk_X7_57 (c_X7_in) rfl rfl (Nat.le_of_ble_eq_true rfl) (Nat.le_of_ble_eq_true rfl) ⟨Nat.zero_le _, Nat.zero_le _⟩ ?_
  refine y_top (bI_c (in_isx (n := i 24) (by omega) (nI_sub1 (by omega)))) ?_
  refine z_ifeqB C D_X7_trace_13 (fun c_13 => absurd (isx_n (by omega) hq) c_13) (fun c_13 => ?_)
  refine y_aload_n C D_X7_trace_16 rfl ?_
  refine y_get C D_X7_trace_17 fl_X7_47 (hm_o hU) rfl ?_
  refine y_iload_n C D_X7_trace_20 rfl ?_
  refine z_ild C D_X7_trace_21 (hm_trace hU) (by omega) (by decide) rfl ?_
  refine y_goto C D_X7_trace_22 ?_
  exact y_iret C E D_X7_trace_27 (rfl) (rfl)
theorem c_X7_isKind {o k : Nat} (ho : o < 6) (hk : k < 6) : Ct l G yX7_isKind 0 [.int (nI o), .int (nI k)] (h) (some (.int (bI (isK o k)))) (h) := by
  refine ctm_intro (maxL := 2) kw_X7_isKind (by decide) (by decide) [some (.int (nI o)), some (.int (nI k))] rfl (Nat.le_of_ble_eq_true rfl) ?_
  intro X _ hcl hsl _ _ C E
  refine y_iload_n C D_X7_isKind_0 rfl ?_
  refine y_if_eq C D_X7_isKind_1 (n_eq0 (by omega)) (fun c_1 => ?_) (fun c_1 => ?_)
  · refine y_iconst C D_X7_isKind_29 ki_1 ?_
    refine y_goto C D_X7_isKind_30 ?_
    exact y_zret C E D_X7_isKind_34 nar_1 (rt_1 (by omega)) (rfl)
  · refine y_iload_n C D_X7_isKind_4 rfl ?_
    refine y_iload_n C D_X7_isKind_5 rfl ?_
    refine y_icmp_eq C D_X7_isKind_6 (n_eq (by omega) (by omega)) (fun c_6 => ?_) (fun c_6 => ?_)
    · refine y_iconst C D_X7_isKind_29 ki_1 ?_
      refine y_goto C D_X7_isKind_30 ?_
      exact y_zret C E D_X7_isKind_34 nar_1 (rt_1 (by omega)) (rfl)
    · refine y_iload_n C D_X7_isKind_9 rfl ?_
      refine y_iconst C D_X7_isKind_10 ki_1 ?_
      refine y_icmp_ne C D_X7_isKind_11 (n_eq (by omega) (by omega)) (fun c_11 => ?_) (fun c_11 => ?_)
      · refine y_iload_n C D_X7_isKind_19 rfl ?_
        refine y_iconst C D_X7_isKind_20 ki_4 ?_
        refine y_icmp_ne C D_X7_isKind_21 (n_eq (by omega) (by omega)) (fun c_21 => ?_) (fun c_21 => ?_)
        · refine y_iconst C D_X7_isKind_33 ki_0 ?_
          exact y_zret C E D_X7_isKind_34 nar_0 (rt_0 (by omega)) (rfl)
        · refine y_iload_n C D_X7_isKind_24 rfl ?_
          refine y_iconst C D_X7_isKind_25 ki_5 ?_
          refine y_icmp_ne C D_X7_isKind_26 (n_eq (by omega) (by omega)) (fun c_26 => ?_) (fun c_26 => ?_)
          · refine y_iconst C D_X7_isKind_33 ki_0 ?_
            exact y_zret C E D_X7_isKind_34 nar_0 (rt_0 (by omega)) (rfl)
          · refine y_iconst C D_X7_isKind_29 ki_1 ?_
            refine y_goto C D_X7_isKind_30 ?_
            exact y_zret C E D_X7_isKind_34 nar_1 (rt_1 (by omega)) (rfl)
      · refine y_iload_n C D_X7_isKind_14 rfl ?_
        refine y_iconst C D_X7_isKind_15 ki_4 ?_
        refine y_icmp_lt C D_X7_isKind_16 (n_lt (by omega) (by omega)) (fun c_16 => ?_) (fun c_16 => ?_)
        · refine y_iconst C D_X7_isKind_29 ki_1 ?_
          refine y_goto C D_X7_isKind_30 ?_
          exact y_zret C E D_X7_isKind_34 nar_1 (rt_1 (by omega)) (rfl)
        · refine y_iload_n C D_X7_isKind_19 rfl ?_
          refine y_iconst C D_X7_isKind_20 ki_4 ?_
          refine y_icmp_ne C D_X7_isKind_21 (n_eq (by omega) (by omega)) (fun c_21 => ?_) (fun c_21 => ?_)
          · refine y_iconst C D_X7_isKind_33 ki_0 ?_
            exact y_zret C E D_X7_isKind_34 nar_0 (rt_0 (by omega)) (rfl)
          · refine y_iload_n C D_X7_isKind_24 rfl ?_
            refine y_iconst C D_X7_isKind_25 ki_5 ?_
            refine y_icmp_ne C D_X7_isKind_26 (n_eq (by omega) (by omega)) (fun c_26 => ?_) (fun c_26 => ?_)
            · refine y_iconst C D_X7_isKind_33 ki_0 ?_
              exact y_zret C E D_X7_isKind_34 nar_0 (rt_0 (by omega)) (rfl)
            · refine y_iconst C D_X7_isKind_29 ki_1 ?_
              refine y_goto C D_X7_isKind_30 ?_
              exact y_zret C E D_X7_isKind_34 nar_1 (rt_1 (by omega)) (rfl)
theorem c_X7_asB (hU : U.length = 122) (h3 : A 5 3 ≤ 5) {x w : Int32} (hx : ¬ isx x (A 5 3) ∨ ¬ isx w 6) : Ct l G yX7_as 2 [qr G 122, .int x, .int w] (hm G U i A B) (some (.int (-1000001))) (hm G U i A B) := by
  refine ctm_intro (maxL := 3) kw_X7_as (by decide) (by decide) [some (qr G 122), some (.int x), some (.int w)] rfl (Nat.le_of_ble_eq_true rfl) ?_
  intro X _ hcl hsl _ _ C E
  refine y_aload_n C D_X7_as_0 rfl ?_
  refine y_iload_n C D_X7_as_1 rfl ?_
  refine z_callV C D_X7_as_2 lk_X7_171 (c_X7_isSleeper hU (by omega)) (hm_o hU) rfl rfl (Nat.le_of_ble_eq_true rfl) (Nat.le_of_ble_eq_true rfl) ⟨Nat.zero_le _, Nat.zero_le _⟩ ?_
  refine z_ifeqB C D_X7_as_5 (fun c_5 => ?_) (fun c_5 => ?_)
  · refine y_ldc C D_X7_as_20 lk_X7_67 ?_
    exact y_iret C E D_X7_as_22 (rfl) (rfl)
  · refine y_iload_n C D_X7_as_8 rfl ?_
    refine y_i2l C D_X7_as_9 ?_
    refine y_lconst C D_X7_as_10 rfl ?_
    refine y_ldc2 C D_X7_as_11 lk_X7_243 ?_
    refine z_callS C D_X7_as_14 lk_X7_57 (c_X7_in) rfl rfl (Nat.le_of_ble_eq_true rfl) (Nat.le_of_ble_eq_true rfl) ⟨Nat.zero_le _, Nat.zero_le _⟩ ?_
    refine y_top (bI_c (in_isx (z := 5) (n := 6) (by decide) rfl)) ?_
    refine z_ifneB C D_X7_as_17 (fun c_17 => hx.elim (fun z => absurd c_5 z) (fun z => absurd c_17 z)) (fun c_17 => ?_)
    refine y_ldc C D_X7_as_20 lk_X7_67 ?_
    exact y_iret C E D_X7_as_22 (rfl) (rfl)
theorem c_X7_as (hU : U.length = 122) (h3 : A 5 3 ≤ 5) {s k : Nat} (hs1 : s < A 5 3) (hk : k < 6) (ho : A 5 (6 + s) < 6) (hz : isK (A 5 (6 + s)) k) : Ct l G yX7_as 2 [qr G 122, .int (nI s), .int (nI k)] (hm G U i A B) (some (.int (nI s))) (hm G U (va_up i 3 0) A B) := by
  refine ctm_intro (maxL := 3) kw_X7_as (by decide) (by decide) [some (qr G 122), some (.int (nI s)), some (.int (nI k))] rfl (Nat.le_of_ble_eq_true rfl) ?_
  intro X _ hcl hsl _ _ C E
  refine y_aload_n C D_X7_as_0 rfl ?_
  refine y_iload_n C D_X7_as_1 rfl ?_
  refine z_callV C D_X7_as_2 lk_X7_171 (c_X7_isSleeper hU (by omega)) (hm_o hU) rfl rfl (Nat.le_of_ble_eq_true rfl) (Nat.le_of_ble_eq_true rfl) ⟨Nat.zero_le _, Nat.zero_le _⟩ ?_
  refine z_ifeqB C D_X7_as_5 (fun c_5 => absurd (isx_n (by omega) hs1) c_5) (fun c_5 => ?_)
  refine y_iload_n C D_X7_as_8 rfl ?_
  refine y_i2l C D_X7_as_9 ?_
  refine y_lconst C D_X7_as_10 rfl ?_
  refine y_ldc2 C D_X7_as_11 lk_X7_243 ?_
  refine z_callS C D_X7_as_14 lk_X7_57 (c_X7_in) rfl rfl (Nat.le_of_ble_eq_true rfl) (Nat.le_of_ble_eq_true rfl) ⟨Nat.zero_le _, Nat.zero_le _⟩ ?_
  refine y_top (bI_c (in_isx (z := 5) (n := 6) (by decide) rfl)) ?_
  refine z_ifneB C D_X7_as_17 (fun c_17 => ?_) (fun c_17 => absurd (isx_n (by decide) hk) c_17)
  refine y_aload_n C D_X7_as_23 rfl ?_
  refine y_get C D_X7_as_24 fl_X7_19 (hm_o hU) rfl ?_
  refine y_bipush C D_X7_as_27 kb_6 ?_
  refine y_iload_n C D_X7_as_29 rfl ?_
  refine z_iadd C D_X7_as_30 ?_
  refine z_ild C D_X7_as_31 (hm_st hU) (by omega) (by decide) rfl ?_
  refine y_iload_n C D_X7_as_32 rfl ?_
  refine z_callS C D_X7_as_33 lk_X7_245 (c_X7_isKind (by omega) hk) rfl rfl (Nat.le_of_ble_eq_true rfl) (Nat.le_of_ble_eq_true rfl) ⟨Nat.zero_le _, Nat.zero_le _⟩ ?_
  refine z_ifeqB C D_X7_as_36 (fun c_36 => absurd hz c_36) (fun c_36 => ?_)
  refine y_aload_n C D_X7_as_39 rfl ?_
  refine y_iload_n C D_X7_as_40 rfl ?_
  refine z_callV C D_X7_as_41 lk_X7_72 (c_X7_well hU) (hm_o hU) rfl rfl (Nat.le_of_ble_eq_true rfl) (Nat.le_of_ble_eq_true rfl) ⟨Nat.zero_le _, Nat.zero_le _⟩ ?_
  refine y_goto C D_X7_as_44 ?_
  exact y_iret C E D_X7_as_52 (rfl) (rfl)
theorem c_X7_asK (hU : U.length = 122) (h3 : A 5 3 ≤ 5) {s k : Nat} (hs1 : s < A 5 3) (hk : k < 6) (ho : A 5 (6 + s) < 6) (hz : ¬ isK (A 5 (6 + s)) k) : Ct l G yX7_as 2 [qr G 122, .int (nI s), .int (nI k)] (hm G U i A B) (some (.int (-1000010 - nI 3))) (hm G U (va_up i 3 3) A B) := by
  refine ctm_intro (maxL := 3) kw_X7_as (by decide) (by decide) [some (qr G 122), some (.int (nI s)), some (.int (nI k))] rfl (Nat.le_of_ble_eq_true rfl) ?_
  intro X _ hcl hsl _ _ C E
  refine y_aload_n C D_X7_as_0 rfl ?_
  refine y_iload_n C D_X7_as_1 rfl ?_
  refine z_callV C D_X7_as_2 lk_X7_171 (c_X7_isSleeper hU (by omega)) (hm_o hU) rfl rfl (Nat.le_of_ble_eq_true rfl) (Nat.le_of_ble_eq_true rfl) ⟨Nat.zero_le _, Nat.zero_le _⟩ ?_
  refine z_ifeqB C D_X7_as_5 (fun c_5 => absurd (isx_n (by omega) hs1) c_5) (fun c_5 => ?_)
  refine y_iload_n C D_X7_as_8 rfl ?_
  refine y_i2l C D_X7_as_9 ?_
  refine y_lconst C D_X7_as_10 rfl ?_
  refine y_ldc2 C D_X7_as_11 lk_X7_243 ?_
  refine z_callS C D_X7_as_14 lk_X7_57 (c_X7_in) rfl rfl (Nat.le_of_ble_eq_true rfl) (Nat.le_of_ble_eq_true rfl) ⟨Nat.zero_le _, Nat.zero_le _⟩ ?_
  refine y_top (bI_c (in_isx (z := 5) (n := 6) (by decide) rfl)) ?_
  refine z_ifneB C D_X7_as_17 (fun c_17 => ?_) (fun c_17 => absurd (isx_n (by decide) hk) c_17)
  refine y_aload_n C D_X7_as_23 rfl ?_
  refine y_get C D_X7_as_24 fl_X7_19 (hm_o hU) rfl ?_
  refine y_bipush C D_X7_as_27 kb_6 ?_
  refine y_iload_n C D_X7_as_29 rfl ?_
  refine z_iadd C D_X7_as_30 ?_
  refine z_ild C D_X7_as_31 (hm_st hU) (by omega) (by decide) rfl ?_
  refine y_iload_n C D_X7_as_32 rfl ?_
  refine z_callS C D_X7_as_33 lk_X7_245 (c_X7_isKind (by omega) hk) rfl rfl (Nat.le_of_ble_eq_true rfl) (Nat.le_of_ble_eq_true rfl) ⟨Nat.zero_le _, Nat.zero_le _⟩ ?_
  refine z_ifeqB C D_X7_as_36 (fun c_36 => ?_) (fun c_36 => absurd c_36 hz)
  refine y_aload_n C D_X7_as_47 rfl ?_
  refine y_iconst C D_X7_as_48 ki_3 ?_
  refine z_callV C D_X7_as_49 lk_X7_68 (c_X7_find hU) (hm_o hU) rfl rfl (Nat.le_of_ble_eq_true rfl) (Nat.le_of_ble_eq_true rfl) ⟨Nat.zero_le _, Nat.zero_le _⟩ ?_
  exact y_iret C E D_X7_as_52 (rfl) (rfl)
theorem lp_X7_count {X : qX} {w : Int32} (hU : U.length = 122) (C : qC X G cX7_count 4 RX7 1) (K : Y X G 4 0 0 33 [some (qr G 122), some (.int w), some (.int (nI (rcN (B 1) 8))), none] [] (hm G U i A B)) : ∀ (m k : Nat), k + m = 8 → Y X G 4 0 0 4 [some (qr G 122), some (.int w), some (.int (nI (rcN (B 1) k))), some (.int (nI (k)))] [] (hm G U i A B) := by
  intro m
  induction m with
  | zero =>
    intro k hk
    obtain rfl : k = 8 := by omega
    refine y_iload_n C D_X7_count_4 rfl ?_
    refine y_bipush C D_X7_count_5 kb_8 ?_
    refine y_icmp_ge C D_X7_count_7 (n_le (by omega) (by omega)) (fun c_7 => ?_) (fun c_7 => absurd (Nat.le_refl _) c_7)
    refine y_fg 3 ?_
    exact K
  | succ m ih =>
    intro k hk
    have z := ih (k + 1) (by omega)
    refine y_iload_n C D_X7_count_4 rfl ?_
    refine y_bipush C D_X7_count_5 kb_8 ?_
    refine y_icmp_ge C D_X7_count_7 (n_le (by omega) (by omega)) (fun c_7 => absurd c_7 (by omega)) (fun c_7 => ?_)
    refine y_iload_n C D_X7_count_10 rfl ?_
    refine y_aload_n C D_X7_count_11 rfl ?_
    refine y_get C D_X7_count_12 fl_X7_13 (hm_o hU) rfl ?_
    refine y_iload_n C D_X7_count_15 rfl ?_
    refine z_ild C D_X7_count_16 (hm_sizes hU) (by omega) (by decide) rfl ?_
    refine y_if_lt C D_X7_count_17 Iff.rfl (fun c_17 => ?_) (fun c_17 => ?_)
    · refine y_iconst C D_X7_count_24 ki_0 ?_
      refine z_iadd C D_X7_count_25 ?_
      refine y_istore_n C D_X7_count_26 (by decide) (qok_s rfl rfl) ?_
      refine z_iinc (n := 1) C D_X7_count_27 rfl (by decide) (qok_s rfl rfl) ?_
      refine y_goto C D_X7_count_30 ?_
      have e : rcN (B 1) (k + 1) = rcN (B 1) k + 0 := by rw [rcN, if_pos c_17]
      rw [e] at z
      exact z
    · refine y_iconst C D_X7_count_20 ki_1 ?_
      refine y_goto C D_X7_count_21 ?_
      refine z_iadd C D_X7_count_25 ?_
      refine y_istore_n C D_X7_count_26 (by decide) (qok_s rfl rfl) ?_
      refine z_iinc (n := 1) C D_X7_count_27 rfl (by decide) (qok_s rfl rfl) ?_
      refine y_goto C D_X7_count_30 ?_
      have e : rcN (B 1) (k + 1) = rcN (B 1) k + 1 := by rw [rcN, if_neg c_17]
      rw [e] at z
      exact z
theorem c_X7_countB (hU : U.length = 122) {x : Int32} (hx : ¬ isx x 8) : Ct l G yX7_count 1 [qr G 122, .int x] (hm G U i A B) (some (.int (-1000001))) (hm G U i A B) := by
  refine ctm_intro (maxL := 4) kw_X7_count (by decide) (by decide) [some (qr G 122), some (.int x), none, none] rfl (Nat.le_of_ble_eq_true rfl) ?_
  intro X _ hcl hsl _ _ C E
  refine y_iconst C D_X7_count_0 ki_0 ?_
  refine y_istore_n C D_X7_count_1 (by decide) (qok_s rfl rfl) ?_
  refine y_iconst C D_X7_count_2 ki_0 ?_
  refine y_istore_n C D_X7_count_3 (by decide) (qok_s rfl rfl) ?_
  refine lp_X7_count hU C ?_ 8 0 (by omega)
  refine y_iload_n C D_X7_count_33 rfl ?_
  refine y_tabOut (tgt := 125) C D_X7_count_34 (isx_out (by decide) hx) (by decide) ?_
  refine y_ldc C D_X7_count_125 lk_X7_67 ?_
  exact y_iret C E D_X7_count_127 (rfl) (rfl)
theorem c_X7_count0 (hU : U.length = 122) (h3 : A 5 3 ≤ 5) : Ct l G yX7_count 1 [qr G 122, .int (nI 0)] (hm G U i A B) (some (.int (nI (rcN (B 1) 8)))) (hm G U i A B) := by
  refine ctm_intro (maxL := 4) kw_X7_count (by decide) (by decide) [some (qr G 122), some (.int (nI 0)), none, none] rfl (Nat.le_of_ble_eq_true rfl) ?_
  intro X _ hcl hsl _ _ C E
  refine y_iconst C D_X7_count_0 ki_0 ?_
  refine y_istore_n C D_X7_count_1 (by decide) (qok_s rfl rfl) ?_
  refine y_iconst C D_X7_count_2 ki_0 ?_
  refine y_istore_n C D_X7_count_3 (by decide) (qok_s rfl rfl) ?_
  refine lp_X7_count hU C ?_ 8 0 (by omega)
  refine y_iload_n C D_X7_count_33 rfl ?_
  refine y_tabIn (off := 46) (tgt := 80) C D_X7_count_34 (by decide) (by decide) (by decide +kernel) (by decide) ?_
  refine y_iload_n C D_X7_count_80 rfl ?_
  exact y_iret C E D_X7_count_81 (rfl) (rfl)
theorem c_X7_count1 (hU : U.length = 122) (h3 : A 5 3 ≤ 5) : Ct l G yX7_count 1 [qr G 122, .int (nI 1)] (hm G U i A B) (some (.int (nI (A 5 0)))) (hm G U i A B) := by
  refine ctm_intro (maxL := 4) kw_X7_count (by decide) (by decide) [some (qr G 122), some (.int (nI 1)), none, none] rfl (Nat.le_of_ble_eq_true rfl) ?_
  intro X _ hcl hsl _ _ C E
  refine y_iconst C D_X7_count_0 ki_0 ?_
  refine y_istore_n C D_X7_count_1 (by decide) (qok_s rfl rfl) ?_
  refine y_iconst C D_X7_count_2 ki_0 ?_
  refine y_istore_n C D_X7_count_3 (by decide) (qok_s rfl rfl) ?_
  refine lp_X7_count hU C ?_ 8 0 (by omega)
  refine y_iload_n C D_X7_count_33 rfl ?_
  refine y_tabIn (off := 48) (tgt := 82) C D_X7_count_34 (by decide) (by decide) (by decide +kernel) (by decide) ?_
  refine y_aload_n C D_X7_count_82 rfl ?_
  refine y_get C D_X7_count_83 fl_X7_19 (hm_o hU) rfl ?_
  refine y_iconst C D_X7_count_86 ki_0 ?_
  refine z_ild C D_X7_count_87 (hm_st hU) (by omega) (by decide) rfl ?_
  exact y_iret C E D_X7_count_88 (rfl) (rfl)
theorem c_X7_count2 (hU : U.length = 122) (h3 : A 5 3 ≤ 5) : Ct l G yX7_count 1 [qr G 122, .int (nI 2)] (hm G U i A B) (some (.int (nI (A 5 3)))) (hm G U i A B) := by
  refine ctm_intro (maxL := 4) kw_X7_count (by decide) (by decide) [some (qr G 122), some (.int (nI 2)), none, none] rfl (Nat.le_of_ble_eq_true rfl) ?_
  intro X _ hcl hsl _ _ C E
  refine y_iconst C D_X7_count_0 ki_0 ?_
  refine y_istore_n C D_X7_count_1 (by decide) (qok_s rfl rfl) ?_
  refine y_iconst C D_X7_count_2 ki_0 ?_
  refine y_istore_n C D_X7_count_3 (by decide) (qok_s rfl rfl) ?_
  refine lp_X7_count hU C ?_ 8 0 (by omega)
  refine y_iload_n C D_X7_count_33 rfl ?_
  refine y_tabIn (off := 55) (tgt := 89) C D_X7_count_34 (by decide) (by decide) (by decide +kernel) (by decide) ?_
  refine y_aload_n C D_X7_count_89 rfl ?_
  refine y_get C D_X7_count_90 fl_X7_19 (hm_o hU) rfl ?_
  refine y_iconst C D_X7_count_93 ki_3 ?_
  refine z_ild C D_X7_count_94 (hm_st hU) (by omega) (by decide) rfl ?_
  exact y_iret C E D_X7_count_95 (rfl) (rfl)
theorem c_X7_count3 (hU : U.length = 122) (h3 : A 5 3 ≤ 5) : Ct l G yX7_count 1 [qr G 122, .int (nI 3)] (hm G U i A B) (some (.int (nI (A 5 4)))) (hm G U i A B) := by
  refine ctm_intro (maxL := 4) kw_X7_count (by decide) (by decide) [some (qr G 122), some (.int (nI 3)), none, none] rfl (Nat.le_of_ble_eq_true rfl) ?_
  intro X _ hcl hsl _ _ C E
  refine y_iconst C D_X7_count_0 ki_0 ?_
  refine y_istore_n C D_X7_count_1 (by decide) (qok_s rfl rfl) ?_
  refine y_iconst C D_X7_count_2 ki_0 ?_
  refine y_istore_n C D_X7_count_3 (by decide) (qok_s rfl rfl) ?_
  refine lp_X7_count hU C ?_ 8 0 (by omega)
  refine y_iload_n C D_X7_count_33 rfl ?_
  refine y_tabIn (off := 62) (tgt := 96) C D_X7_count_34 (by decide) (by decide) (by decide +kernel) (by decide) ?_
  refine y_aload_n C D_X7_count_96 rfl ?_
  refine y_get C D_X7_count_97 fl_X7_19 (hm_o hU) rfl ?_
  refine y_iconst C D_X7_count_100 ki_4 ?_
  refine z_ild C D_X7_count_101 (hm_st hU) (by omega) (by decide) rfl ?_
  exact y_iret C E D_X7_count_102 (rfl) (rfl)
theorem c_X7_count4 (hU : U.length = 122) (h3 : A 5 3 ≤ 5) : Ct l G yX7_count 1 [qr G 122, .int (nI 4)] (hm G U i A B) (some (.int (nI (A 5 5)))) (hm G U i A B) := by
  refine ctm_intro (maxL := 4) kw_X7_count (by decide) (by decide) [some (qr G 122), some (.int (nI 4)), none, none] rfl (Nat.le_of_ble_eq_true rfl) ?_
  intro X _ hcl hsl _ _ C E
  refine y_iconst C D_X7_count_0 ki_0 ?_
  refine y_istore_n C D_X7_count_1 (by decide) (qok_s rfl rfl) ?_
  refine y_iconst C D_X7_count_2 ki_0 ?_
  refine y_istore_n C D_X7_count_3 (by decide) (qok_s rfl rfl) ?_
  refine lp_X7_count hU C ?_ 8 0 (by omega)
  refine y_iload_n C D_X7_count_33 rfl ?_
  refine y_tabIn (off := 69) (tgt := 103) C D_X7_count_34 (by decide) (by decide) (by decide +kernel) (by decide) ?_
  refine y_aload_n C D_X7_count_103 rfl ?_
  refine y_get C D_X7_count_104 fl_X7_19 (hm_o hU) rfl ?_
  refine y_iconst C D_X7_count_107 ki_5 ?_
  refine z_ild C D_X7_count_108 (hm_st hU) (by omega) (by decide) rfl ?_
  exact y_iret C E D_X7_count_109 (rfl) (rfl)
theorem c_X7_count5 (hU : U.length = 122) (h3 : A 5 3 ≤ 5) : Ct l G yX7_count 1 [qr G 122, .int (nI 5)] (hm G U i A B) (some (.int (nI (spn (A 5) (A 5 3))))) (hm G U i A B) := by
  refine ctm_intro (maxL := 4) kw_X7_count (by decide) (by decide) [some (qr G 122), some (.int (nI 5)), none, none] rfl (Nat.le_of_ble_eq_true rfl) ?_
  intro X _ hcl hsl _ _ C E
  refine y_iconst C D_X7_count_0 ki_0 ?_
  refine y_istore_n C D_X7_count_1 (by decide) (qok_s rfl rfl) ?_
  refine y_iconst C D_X7_count_2 ki_0 ?_
  refine y_istore_n C D_X7_count_3 (by decide) (qok_s rfl rfl) ?_
  refine lp_X7_count hU C ?_ 8 0 (by omega)
  refine y_iload_n C D_X7_count_33 rfl ?_
  refine y_tabIn (off := 76) (tgt := 110) C D_X7_count_34 (by decide) (by decide) (by decide +kernel) (by decide) ?_
  refine y_aload_n C D_X7_count_110 rfl ?_
  refine z_callV C D_X7_count_111 lk_X7_174 (c_X7_suppered hU h3) (hm_o hU) rfl rfl (Nat.le_of_ble_eq_true rfl) (Nat.le_of_ble_eq_true rfl) ⟨Nat.zero_le _, Nat.zero_le _⟩ ?_
  exact y_iret C E D_X7_count_114 (rfl) (rfl)
theorem c_X7_count6 (hU : U.length = 122) (h3 : A 5 3 ≤ 5) : Ct l G yX7_count 1 [qr G 122, .int (nI 6)] (hm G U i A B) (some (.int (nI (i 17)))) (hm G U i A B) := by
  refine ctm_intro (maxL := 4) kw_X7_count (by decide) (by decide) [some (qr G 122), some (.int (nI 6)), none, none] rfl (Nat.le_of_ble_eq_true rfl) ?_
  intro X _ hcl hsl _ _ C E
  refine y_iconst C D_X7_count_0 ki_0 ?_
  refine y_istore_n C D_X7_count_1 (by decide) (qok_s rfl rfl) ?_
  refine y_iconst C D_X7_count_2 ki_0 ?_
  refine y_istore_n C D_X7_count_3 (by decide) (qok_s rfl rfl) ?_
  refine lp_X7_count hU C ?_ 8 0 (by omega)
  refine y_iload_n C D_X7_count_33 rfl ?_
  refine y_tabIn (off := 81) (tgt := 115) C D_X7_count_34 (by decide) (by decide) (by decide +kernel) (by decide) ?_
  refine y_aload_n C D_X7_count_115 rfl ?_
  refine y_get C D_X7_count_116 fl_X7_139 (hm_o hU) rfl ?_
  exact y_iret C E D_X7_count_119 (rfl) (rfl)
theorem c_X7_count7 (hU : U.length = 122) (h3 : A 5 3 ≤ 5) : Ct l G yX7_count 1 [qr G 122, .int (nI 7)] (hm G U i A B) (some (.int (nI (i 8)))) (hm G U i A B) := by
  refine ctm_intro (maxL := 4) kw_X7_count (by decide) (by decide) [some (qr G 122), some (.int (nI 7)), none, none] rfl (Nat.le_of_ble_eq_true rfl) ?_
  intro X _ hcl hsl _ _ C E
  refine y_iconst C D_X7_count_0 ki_0 ?_
  refine y_istore_n C D_X7_count_1 (by decide) (qok_s rfl rfl) ?_
  refine y_iconst C D_X7_count_2 ki_0 ?_
  refine y_istore_n C D_X7_count_3 (by decide) (qok_s rfl rfl) ?_
  refine lp_X7_count hU C ?_ 8 0 (by omega)
  refine y_iload_n C D_X7_count_33 rfl ?_
  refine y_tabIn (off := 86) (tgt := 120) C D_X7_count_34 (by decide) (by decide) (by decide +kernel) (by decide) ?_
  refine y_aload_n C D_X7_count_120 rfl ?_
  refine y_get C D_X7_count_121 fl_X7_81 (hm_o hU) rfl ?_
  exact y_iret C E D_X7_count_124 (rfl) (rfl)
end
