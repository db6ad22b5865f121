section
variable {l : Launch} {G : qG} {h : List va_E} {t : Nat → Nat} {tok : Int32} {b : Nat → Nat}
/-! the tape: int fields t by slot, the token, the bytes -/
abbrev tf (G : qG) (t : Nat → Nat) (tok : Int32) : List Value := [qr G 3, .int (nI (t 1)), .int (nI (t 2)), qr G 6, .int (nI (t 4)), .int (nI (t 5)), .int tok, .int (nI (t 7)), .int (nI (t 8))]
def tc (G : qG) (h : List va_E) (t : Nat → Nat) (tok : Int32) (b : Nat → Nat) : List va_E := (h.set 2 (.inr (4, tf G t tok))).set 6 (qI G 120 (tr 120 (fun k => nI (b k))))
theorem tc_o (ha : 6 < h.length) : (tc G h t tok b)[2]? = some (.inr (4, tf G t tok)) := by
  unfold tc
  rw [List.getElem?_set_ne (by decide), List.getElem?_set_self (by omega)]
theorem tc_b (ha : 6 < h.length) : (tc G h t tok b)[6]? = some (qI G 120 (tr 120 (fun k => nI (b k)))) := by
  unfold tc
  rw [List.getElem?_set_self (by rw [List.length_set]; omega)]
theorem tc_s (e : va_E) : (tc G h t tok b).set 2 e = (h.set 2 e).set 6 (qI G 120 (tr 120 (fun k => nI (b k)))) := by
  unfold tc
  rw [List.set_comm _ _ (by decide : 6 ≠ 2), List.set_set]
theorem tc_w {j : Nat} (hj : j < 120) (v : Nat) : (tc G h t tok b).set 6 (qI G 120 (upd (tr 120 (fun k => nI (b k))) j (nI v))) = tc G h t tok (va_up b j v) := by
  unfold tc
  rw [List.set_set, tr_upd hj, va_upn]
theorem tc_psize (v : Nat) : (tc G h t tok b).set 2 (.inr (4, (tf G t tok).set 1 (.int (nI v)))) = tc G h (va_up t 1 v) tok b := (tc_s _).trans rfl
theorem tc_platestFault (v : Nat) : (tc G h t tok b).set 2 (.inr (4, (tf G t tok).set 2 (.int (nI v)))) = tc G h (va_up t 2 v) tok b := (tc_s _).trans rfl
theorem tc_pstart (v : Nat) : (tc G h t tok b).set 2 (.inr (4, (tf G t tok).set 4 (.int (nI v)))) = tc G h (va_up t 4 v) tok b := (tc_s _).trans rfl
theorem tc_pbehind (v : Nat) : (tc G h t tok b).set 2 (.inr (4, (tf G t tok).set 5 (.int (nI v)))) = tc G h (va_up t 5 v) tok b := (tc_s _).trans rfl
theorem tc_pvalue (v : Nat) : (tc G h t tok b).set 2 (.inr (4, (tf G t tok).set 7 (.int (nI v)))) = tc G h (va_up t 7 v) tok b := (tc_s _).trans rfl
theorem tc_ptaken (v : Nat) : (tc G h t tok b).set 2 (.inr (4, (tf G t tok).set 8 (.int (nI v)))) = tc G h (va_up t 8 v) tok b := (tc_s _).trans rfl
theorem tc_ptoken (v : Int32) : (tc G h t tok b).set 2 (.inr (4, (tf G t tok).set 6 (.int v))) = tc G h t v b := (tc_s _).trans rfl
theorem c_X4_isFigure {n : Nat} (hn : n < 2 ^ 31) : Ct l G yX4_isFigure 0 [.int (nI n)] (h) (some (.int (bI (48 ≤ n ∧ n ≤ 57)))) (h) := by
  refine ctm_intro (maxL := 1) kw_X4_isFigure (by decide) (by decide) [some (.int (nI n))] rfl (Nat.le_of_ble_eq_true rfl) ?_
  intro X _ hcl hsl _ _ C E
  refine y_iload_n C D_X4_isFigure_0 rfl ?_
  refine y_bipush C D_X4_isFigure_1 kb_48 ?_
  refine y_icmp_lt C D_X4_isFigure_3 (n_lt (by omega) (by omega)) (fun c_3 => ?_) (fun c_3 => ?_)
  · refine y_iconst C D_X4_isFigure_16 ki_0 ?_
    exact y_zret C E D_X4_isFigure_17 nar_0 (rt_0 (by omega)) (rfl)
  · refine y_iload_n C D_X4_isFigure_6 rfl ?_
    refine y_bipush C D_X4_isFigure_7 kb_57 ?_
    refine y_icmp_gt C D_X4_isFigure_9 (n_lt (by omega) (by omega)) (fun c_9 => ?_) (fun c_9 => ?_)
    · refine y_iconst C D_X4_isFigure_16 ki_0 ?_
      exact y_zret C E D_X4_isFigure_17 nar_0 (rt_0 (by omega)) (rfl)
    · refine y_iconst C D_X4_isFigure_12 ki_1 ?_
      refine y_goto C D_X4_isFigure_13 ?_
      exact y_zret C E D_X4_isFigure_17 nar_1 (rt_1 (by omega)) (rfl)
theorem c_X4_fail (ha : 6 < h.length) {n : Nat} : Ct l G yX4_fail 0 [qr G 2, .int (nI n)] (tc G h t tok b) (some (.int (nI 0))) (tc G h (va_up t 2 n) tok b) := by
  refine ctm_intro (maxL := 2) kw_X4_fail (by decide) (by decide) [some (qr G 2), some (.int (nI n))] rfl (Nat.le_of_ble_eq_true rfl) ?_
  intro X _ hcl hsl _ _ C E
  refine y_aload_n C D_X4_fail_0 rfl ?_
  refine y_iload_n C D_X4_fail_1 rfl ?_
  refine y_put C D_X4_fail_2 fl_X4_94 (tc_o ha) (Nat.le_of_ble_eq_true rfl) rfl rfl (tc_platestFault _) ?_
  refine y_iconst C D_X4_fail_5 ki_0 ?_
  exact y_zret C E D_X4_fail_6 nar_0 (rfl) (rfl)
theorem c_X4_addF (ha : 6 < h.length) {n : Nat} (h1 : t 1 = 120) : Ct l G yX4_add 0 [qr G 2, .int (nI n)] (tc G h t tok b) (some (.int (nI 0))) (tc G h t tok b) := by
  refine ctm_intro (maxL := 2) kw_X4_add (by decide) (by decide) [some (qr G 2), some (.int (nI n))] rfl (Nat.le_of_ble_eq_true rfl) ?_
  intro X _ hcl hsl _ _ C E
  refine y_aload_n C D_X4_add_0 rfl ?_
  refine y_get C D_X4_add_1 fl_X4_22 (tc_o ha) rfl ?_
  refine y_bipush C D_X4_add_4 kb_120 ?_
  refine y_icmp_lt C D_X4_add_6 (n_lt (by omega) (by omega)) (fun c_6 => absurd c_6 (by omega)) (fun c_6 => ?_)
  refine y_iconst C D_X4_add_9 ki_0 ?_
  exact y_zret C E D_X4_add_10 nar_0 (rfl) (rfl)
theorem c_X4_add (ha : 6 < h.length) {n : Nat} (h1 : t 1 < 120) : Ct l G yX4_add 0 [qr G 2, .int (nI n)] (tc G h t tok b) (some (.int (nI 1))) (tc G h (va_up t 1 (t 1 + 1)) tok (va_up b (t 1) n)) := by
  refine ctm_intro (maxL := 2) kw_X4_add (by decide) (by decide) [some (qr G 2), some (.int (nI n))] rfl (Nat.le_of_ble_eq_true rfl) ?_
  intro X _ hcl hsl _ _ C E
  refine y_aload_n C D_X4_add_0 rfl ?_
  refine y_get C D_X4_add_1 fl_X4_22 (tc_o ha) rfl ?_
  refine y_bipush C D_X4_add_4 kb_120 ?_
  refine y_icmp_lt C D_X4_add_6 (n_lt (by omega) (by omega)) (fun c_6 => ?_) (fun c_6 => absurd h1 c_6)
  refine y_aload_n C D_X4_add_11 rfl ?_
  refine y_get C D_X4_add_12 fl_X4_18 (tc_o ha) rfl ?_
  refine y_aload_n C D_X4_add_15 rfl ?_
  refine y_get C D_X4_add_16 fl_X4_22 (tc_o ha) rfl ?_
  refine y_iload_n C D_X4_add_19 rfl ?_
  refine z_ist C D_X4_add_20 (tc_b ha) (by omega) (by decide) (tc_w (by omega) _) ?_
  refine y_aload_n C D_X4_add_21 rfl ?_
  refine y_dup C D_X4_add_22 rfl ?_
  refine y_get C D_X4_add_23 fl_X4_22 (tc_o ha) rfl ?_
  refine y_iconst C D_X4_add_26 ki_1 ?_
  refine z_iadd C D_X4_add_27 ?_
  refine y_put C D_X4_add_28 fl_X4_22 (tc_o ha) (Nat.le_of_ble_eq_true rfl) rfl rfl (tc_psize _) ?_
  refine y_iconst C D_X4_add_31 ki_1 ?_
  exact y_zret C E D_X4_add_32 nar_1 (rfl) (rfl)
end
