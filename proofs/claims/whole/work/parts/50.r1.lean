theorem hold3 {x n : Int32} {z : Nat} (hz : z ≤ 40) (c : nI z < n) : ¬ hld x n z := by
  intro q
  have h0 := Int32.le_iff_toInt_le.mp q.1
  have h1 := Int32.lt_iff_toInt_lt.mp c
  have h2 := q.2.2
  rw [nI_int (by omega)] at h1
  have e : (0 : Int32).toInt = 0 := rfl
  omega
theorem hold4 {x n : Int32} {z : Nat} (hz : z ≤ 40) (hx : ¬ x < 0) (hn : ¬ n < 0) (c : ¬ nI z < n) : nI z - n < x ↔ ¬ hld x n z := by
  have h0 := Int32.le_iff_toInt_le.mp (Int32.not_lt.mp hn)
  have h1 := Int32.le_iff_toInt_le.mp (Int32.not_lt.mp c)
  rw [nI_int (by omega)] at h1
  have e : (0 : Int32).toInt = 0 := rfl
  have h2 : (nI z - n).toInt = (z : Int) - n.toInt := by
    rw [Int32.toInt_sub, nI_int (by omega)]
    apply Int.bmod_eq_of_le <;> omega
  rw [Int32.lt_iff_toInt_lt, h2]
  constructor
  · intro q w
    have := w.2.2
    omega
  · intro q
    rcases Int.lt_or_le ((z : Int) - n.toInt) x.toInt with k | k
    · exact k
    · exact absurd ⟨Int32.not_lt.mp hx, Int32.not_lt.mp hn, by omega⟩ q
section
variable {l : Launch} {G : qG} {h : List va_E} {a : Nat} {ln sz : Int32} {it : Nat → Int32}
/-! a row: its cell and its items -/
def rc (G : qG) (h : List va_E) (a : Nat) (ln sz : Int32) (it : Nat → Int32) : List va_E := (h.set a (.inr (2, [.int ln, .int sz, qr G (a + 1)]))).set (a + 1) (qI G 40 (tr 40 it))
theorem rc_o (ha : a + 1 < h.length) : (rc G h a ln sz it)[a]? = some (.inr (2, [.int ln, .int sz, qr G (a + 1)])) := by
  unfold rc
  rw [List.getElem?_set_ne (by omega), List.getElem?_set_self (by omega)]
theorem rc_i (ha : a + 1 < h.length) : (rc G h a ln sz it)[a + 1]? = some (qI G 40 (tr 40 it)) := by
  unfold rc
  rw [List.getElem?_set_self (by rw [List.length_set]; omega)]
theorem rc_n {j : Nat} (hj : j < a ∨ a + 1 < j) : (rc G h a ln sz it)[j]? = h[j]? := by
  unfold rc
  rw [List.getElem?_set_ne (by omega), List.getElem?_set_ne (by omega)]
theorem rc_len : (rc G h a ln sz it).length = h.length := by
  unfold rc
  rw [List.length_set, List.length_set]
theorem rc_plane (v : Int32) : (rc G h a ln sz it).set a (.inr (2, ([.int ln, .int sz, qr G (a + 1)] : List Value).set 0 (.int v))) = rc G h a v sz it := by
  unfold rc
  rw [List.set_comm _ _ (by omega : a + 1 ≠ a), List.set_set]
  rfl
theorem rc_psize (v : Int32) : (rc G h a ln sz it).set a (.inr (2, ([.int ln, .int sz, qr G (a + 1)] : List Value).set 1 (.int v))) = rc G h a ln v it := by
  unfold rc
  rw [List.set_comm _ _ (by omega : a + 1 ≠ a), List.set_set]
  rfl
theorem rc_w {j : Nat} (hj : j < 40) (v : Int32) : (rc G h a ln sz it).set (a + 1) (qI G 40 (upd (tr 40 it) j v)) = rc G h a ln sz (upd it j v) := by
  unfold rc
  rw [List.set_set, tr_upd hj]
theorem rc_fill : (rc G h a ln sz it).set (a + 1) (qI G 40 (flF (tr 40 it) (nI 0) 40)) = rc G h a ln sz (fun _ => 0) := by
  unfold rc
  rw [List.set_set, flF_tr]
  rfl
theorem rc_c {it2 : Nat → Int32} (hc : ∀ k, k < 40 → it k = it2 k) : rc G h a ln sz it = rc G h a ln sz it2 := by
  unfold rc
  rw [tr_c hc]
theorem c_X2_isMissing (ha : a + 1 < h.length) : Ct l G yX2_isMissing 0 [qr G a] (rc G h a ln sz it) (some (.int (bI (ln = -1)))) (rc G h a ln sz it) := by
  refine ctm_intro (maxL := 1) kw_X2_isMissing (by decide) (by decide) [some (qr G a)] rfl (Nat.le_of_ble_eq_true rfl) ?_
  intro X _ hcl hsl _ _ C E
  refine y_aload_n C D_X2_isMissing_0 rfl ?_
  refine y_get C D_X2_isMissing_1 fl_X2_9 (rc_o ha) rfl ?_
  refine y_iconst C D_X2_isMissing_4 ki_m1 ?_
  refine y_icmp_ne C D_X2_isMissing_5 Iff.rfl (fun c_5 => ?_) (fun c_5 => ?_)
  · refine y_iconst C D_X2_isMissing_12 ki_0 ?_
    exact y_zret C E D_X2_isMissing_13 nar_0 (rt_0 (c_5)) (rfl)
  · refine y_iconst C D_X2_isMissing_8 ki_1 ?_
    refine y_goto C D_X2_isMissing_9 ?_
    exact y_zret C E D_X2_isMissing_13 nar_1 (rt_1 (c_5)) (rfl)
theorem c_X2_lay (ha : a + 1 < h.length) {x n : Int32} : Ct l G yX2_lay 1 [qr G a, .int x, .int n] (rc G h a ln sz it) (none) (rc G h a x n (fun _ => 0)) := by
  refine ctm_intro (maxL := 3) kw_X2_lay (by decide) (by decide) [some (qr G a), some (.int x), some (.int n)] rfl (Nat.le_of_ble_eq_true rfl) ?_
  intro X _ hcl hsl _ _ C E
  refine y_aload_n C D_X2_lay_0 rfl ?_
  refine y_iload_n C D_X2_lay_1 rfl ?_
  refine y_put C D_X2_lay_2 fl_X2_9 (rc_o ha) (Nat.le_of_ble_eq_true rfl) rfl rfl (rc_plane _) ?_
  refine y_aload_n C D_X2_lay_5 rfl ?_
  refine y_iload_n C D_X2_lay_6 rfl ?_
  refine y_put C D_X2_lay_7 fl_X2_19 (rc_o ha) (Nat.le_of_ble_eq_true rfl) rfl rfl (rc_psize _) ?_
  refine y_aload_n C D_X2_lay_10 rfl ?_
  refine y_get C D_X2_lay_11 fl_X2_15 (rc_o ha) rfl ?_
  refine y_iconst C D_X2_lay_14 ki_0 ?_
  refine z_callSv C D_X2_lay_15 lk_X2_22 (c_J7_fill (by decide) (rc_i ha)) rfl rfl (Nat.le_of_ble_eq_true rfl) (Nat.le_of_ble_eq_true rfl) ⟨Nat.zero_le _, Nat.zero_le _⟩ ?_
  rw [rc_fill]
  exact y_vret C E D_X2_lay_18 (rfl)
theorem c_X2_holds (ha : a + 1 < h.length) {x n : Int32} {z : Nat} (hz : z ≤ 40) : Ct l G yX2_holds 0 [qr G a, .int x, .int n] (rc G h a ln (nI z) it) (some (.int (bI (hld x n z)))) (rc G h a ln (nI z) it) := by
  refine ctm_intro (maxL := 3) kw_X2_holds (by decide) (by decide) [some (qr G a), some (.int x), some (.int n)] rfl (Nat.le_of_ble_eq_true rfl) ?_
  intro X _ hcl hsl _ _ C E
  refine y_iload_n C D_X2_holds_0 rfl ?_
  refine y_if_lt C D_X2_holds_1 Iff.rfl (fun c_1 => ?_) (fun c_1 => ?_)
  · refine y_iconst C D_X2_holds_30 ki_0 ?_
    exact y_zret C E D_X2_holds_31 nar_0 (rt_0 (fun q => absurd c_1 (Int32.not_lt.mpr q.1))) (rfl)
  · refine y_iload_n C D_X2_holds_4 rfl ?_
    refine y_if_lt C D_X2_holds_5 Iff.rfl (fun c_5 => ?_) (fun c_5 => ?_)
    · refine y_iconst C D_X2_holds_30 ki_0 ?_
      exact y_zret C E D_X2_holds_31 nar_0 (rt_0 (fun q => absurd c_5 (Int32.not_lt.mpr q.2.1))) (rfl)
    · refine y_iload_n C D_X2_holds_8 rfl ?_
      refine y_aload_n C D_X2_holds_9 rfl ?_
      refine y_get C D_X2_holds_10 fl_X2_19 (rc_o ha) rfl ?_
      refine y_icmp_gt C D_X2_holds_13 Iff.rfl (fun c_13 => ?_) (fun c_13 => ?_)
      · refine y_iconst C D_X2_holds_30 ki_0 ?_
        exact y_zret C E D_X2_holds_31 nar_0 (rt_0 (hold3 hz c_13)) (rfl)
      · refine y_iload_n C D_X2_holds_16 rfl ?_
        refine y_aload_n C D_X2_holds_17 rfl ?_
        refine y_get C D_X2_holds_18 fl_X2_19 (rc_o ha) rfl ?_
        refine y_iload_n C D_X2_holds_21 rfl ?_
        refine y_isub C D_X2_holds_22 ?_
        refine y_icmp_gt C D_X2_holds_23 (hold4 hz c_1 c_5 c_13) (fun c_23 => ?_) (fun c_23 => ?_)
        · refine y_iconst C D_X2_holds_30 ki_0 ?_
          exact y_zret C E D_X2_holds_31 nar_0 (rt_0 (c_23)) (rfl)
        · refine y_iconst C D_X2_holds_26 ki_1 ?_
          refine y_goto C D_X2_holds_27 ?_
          exact y_zret C E D_X2_holds_31 nar_1 (rt_1 (Decidable.not_not.mp c_23)) (rfl)
theorem c_X2_findingN (ha : a + 1 < h.length) {x n : Int32} (hl : ln = -1) : Ct l G yX2_findingAt 1 [qr G a, .int x, .int n] (rc G h a ln sz it) (some (.int (nI 1))) (rc G h a ln sz it) := by
  refine ctm_intro (maxL := 3) kw_X2_findingAt (by decide) (by decide) [some (qr G a), some (.int x), some (.int n)] rfl (Nat.le_of_ble_eq_true rfl) ?_
  intro X _ hcl hsl _ _ C E
  refine y_aload_n C D_X2_findingAt_0 rfl ?_
  refine z_callV C D_X2_findingAt_1 lk_X2_28 (c_X2_isMissing ha) (rc_o ha) rfl rfl (Nat.le_of_ble_eq_true rfl) (Nat.le_of_ble_eq_true rfl) ⟨Nat.zero_le _, Nat.zero_le _⟩ ?_
  refine z_ifeqB C D_X2_findingAt_4 (fun c_4 => absurd hl c_4) (fun c_4 => ?_)
  refine y_iconst C D_X2_findingAt_7 ki_1 ?_
  exact y_iret C E D_X2_findingAt_8 (rfl) (rfl)
theorem c_X2_findingAt (ha : a + 1 < h.length) {x n : Int32} {z : Nat} (hz : z ≤ 40) (hl : ¬ ln = -1) : Ct l G yX2_findingAt 1 [qr G a, .int x, .int n] (rc G h a ln (nI z) it) (some (.int (nI (if hld x n z then 0 else 2)))) (rc G h a ln (nI z) it) := by
  refine ctm_intro (maxL := 3) kw_X2_findingAt (by decide) (by decide) [some (qr G a), some (.int x), some (.int n)] rfl (Nat.le_of_ble_eq_true rfl) ?_
  intro X _ hcl hsl _ _ C E
  refine y_aload_n C D_X2_findingAt_0 rfl ?_
  refine z_callV C D_X2_findingAt_1 lk_X2_28 (c_X2_isMissing ha) (rc_o ha) rfl rfl (Nat.le_of_ble_eq_true rfl) (Nat.le_of_ble_eq_true rfl) ⟨Nat.zero_le _, Nat.zero_le _⟩ ?_
  refine z_ifeqB C D_X2_findingAt_4 (fun c_4 => ?_) (fun c_4 => absurd c_4 hl)
  refine y_aload_n C D_X2_findingAt_9 rfl ?_
  refine y_iload_n C D_X2_findingAt_10 rfl ?_
  refine y_iload_n C D_X2_findingAt_11 rfl ?_
  refine z_callV C D_X2_findingAt_12 lk_X2_32 (c_X2_holds ha hz) (rc_o ha) rfl rfl (Nat.le_of_ble_eq_true rfl) (Nat.le_of_ble_eq_true rfl) ⟨Nat.zero_le _, Nat.zero_le _⟩ ?_
  refine z_ifeqB C D_X2_findingAt_15 (fun c_15 => ?_) (fun c_15 => ?_)
  · refine y_iconst C D_X2_findingAt_22 ki_2 ?_
    exact y_iret C E D_X2_findingAt_23 (by rw [if_neg c_15]) (rfl)
  · refine y_iconst C D_X2_findingAt_18 ki_0 ?_
    refine y_goto C D_X2_findingAt_19 ?_
    exact y_iret C E D_X2_findingAt_23 (by rw [if_pos c_15]) (rfl)
theorem c_X2_put (ha : a + 1 < h.length) {la o : Nat} {v : Int32} (hl : la < 3) (ho : o < 40) : Ct l G yX2_put 0 [qr G a, .int (nI o), .int v] (rc G h a (nI la) sz it) (some (.int (lnI la v))) (rc G h a (nI la) sz (upd it o (lnI la v))) := by
  refine ctm_intro (maxL := 4) kw_X2_put (by decide) (by decide) [some (qr G a), some (.int (nI o)), some (.int v), none] rfl (Nat.le_of_ble_eq_true rfl) ?_
  intro X _ hcl hsl _ _ C E
  refine y_aload_n C D_X2_put_0 rfl ?_
  refine y_get C D_X2_put_1 fl_X2_9 (rc_o ha) rfl ?_
  refine y_if_ne C D_X2_put_4 (n_eq0 (by omega)) (fun c_4 => ?_) (fun c_4 => ?_)
  · refine y_aload_n C D_X2_put_12 rfl ?_
    refine y_get C D_X2_put_13 fl_X2_9 (rc_o ha) rfl ?_
    refine y_iconst C D_X2_put_16 ki_1 ?_
    refine y_icmp_ne C D_X2_put_17 (n_eq (by omega) (by omega)) (fun c_17 => ?_) (fun c_17 => ?_)
    · refine y_iload_n C D_X2_put_25 rfl ?_
      refine y_istore_n C D_X2_put_26 (by decide) (qok_s rfl rfl) ?_
      refine y_aload_n C D_X2_put_27 rfl ?_
      refine y_get C D_X2_put_28 fl_X2_15 (rc_o ha) rfl ?_
      refine y_iload_n C D_X2_put_31 rfl ?_
      refine y_iload_n C D_X2_put_32 rfl ?_
      refine z_ist C D_X2_put_33 (rc_i ha) (by omega) (by decide) (rc_w (by omega) _) ?_
      refine y_iload_n C D_X2_put_34 rfl ?_
      exact y_iret C E D_X2_put_35 (rv (by rw [lnI, if_neg c_4, if_neg c_17])) (by rw [lnI, if_neg c_4, if_neg c_17])
    · refine y_iload_n C D_X2_put_20 rfl ?_
      refine y_i2s C D_X2_put_21 ?_
      refine y_goto C D_X2_put_22 ?_
      refine y_istore_n C D_X2_put_26 (by decide) (qok_s rfl rfl) ?_
      refine y_aload_n C D_X2_put_27 rfl ?_
      refine y_get C D_X2_put_28 fl_X2_15 (rc_o ha) rfl ?_
      refine y_iload_n C D_X2_put_31 rfl ?_
      refine y_iload_n C D_X2_put_32 rfl ?_
      refine z_ist C D_X2_put_33 (rc_i ha) (by omega) (by decide) (rc_w (by omega) _) ?_
      refine y_iload_n C D_X2_put_34 rfl ?_
      exact y_iret C E D_X2_put_35 (rv (by rw [lnI, if_neg c_4, if_pos c_17])) (by rw [lnI, if_neg c_4, if_pos c_17])
  · refine y_iload_n C D_X2_put_7 rfl ?_
    refine y_i2b C D_X2_put_8 ?_
    refine y_goto C D_X2_put_9 ?_
    refine y_istore_n C D_X2_put_26 (by decide) (qok_s rfl rfl) ?_
    refine y_aload_n C D_X2_put_27 rfl ?_
    refine y_get C D_X2_put_28 fl_X2_15 (rc_o ha) rfl ?_
    refine y_iload_n C D_X2_put_31 rfl ?_
    refine y_iload_n C D_X2_put_32 rfl ?_
    refine z_ist C D_X2_put_33 (rc_i ha) (by omega) (by decide) (rc_w (by omega) _) ?_
    refine y_iload_n C D_X2_put_34 rfl ?_
    exact y_iret C E D_X2_put_35 (rv (by rw [lnI, if_pos c_4])) (by rw [lnI, if_pos c_4])
end
