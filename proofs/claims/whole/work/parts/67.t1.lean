section
variable {l : Launch} {G : qG} {h : List va_E} {n lf s e v x : Nat} {tok : Int32} {b : Nat → Nat}
/-! the tape: size n, latest fault lf, start s, behind e, value v, taken x, the token, the bytes b -/
abbrev xf (G : qG) (n lf s e v x : Nat) (tok : Int32) : List Value := [qr G 3, .int (nI n), .int (nI lf), qr G 6, .int (nI s), .int (nI e), .int tok, .int (nI v), .int (nI x)]
def xc (G : qG) (h : List va_E) (n lf s e v x : Nat) (tok : Int32) (b : Nat → Nat) : List va_E := (h.set 2 (.inr (4, xf G n lf s e v x tok))).set 6 (qI G 120 (tr 120 (fun k => nI (b k))))
theorem xc_len : (xc G h n lf s e v x tok b).length = h.length := by
  unfold xc
  rw [List.length_set, List.length_set]
theorem xc_o (ha : 6 < h.length) : (xc G h n lf s e v x tok b)[2]? = some (.inr (4, xf G n lf s e v x tok)) := by
  unfold xc
  rw [List.getElem?_set_ne (by decide), List.getElem?_set_self (by omega)]
theorem xc_b (ha : 6 < h.length) : (xc G h n lf s e v x tok b)[6]? = some (qI G 120 (tr 120 (fun k => nI (b k)))) := by
  unfold xc
  rw [List.getElem?_set_self (by rw [List.length_set]; omega)]
theorem xc_n {j : Nat} (h2 : j ≠ 2) (h6 : j ≠ 6) : (xc G h n lf s e v x tok b)[j]? = h[j]? := by
  unfold xc
  rw [List.getElem?_set_ne (Ne.symm h6), List.getElem?_set_ne (Ne.symm h2)]
theorem xc_s (e' : va_E) : (xc G h n lf s e v x tok b).set 2 e' = (h.set 2 e').set 6 (qI G 120 (tr 120 (fun k => nI (b k)))) := by
  unfold xc
  rw [List.set_comm _ _ (by decide : 6 ≠ 2), List.set_set]
theorem xc_w {j : Nat} (hj : j < 120) (w : Nat) : (xc G h n lf s e v x tok b).set 6 (qI G 120 (upd (tr 120 (fun k => nI (b k))) j (nI w))) = xc G h n lf s e v x tok (va_up b j w) := by
  unfold xc
  rw [List.set_set, tr_upd hj, va_upn]
theorem xc_psize (w : Nat) : (xc G h n lf s e v x tok b).set 2 (.inr (4, (xf G n lf s e v x tok).set 1 (.int (nI w)))) = xc G h w lf s e v x tok b := (xc_s _).trans rfl
theorem xc_platestFault (w : Nat) : (xc G h n lf s e v x tok b).set 2 (.inr (4, (xf G n lf s e v x tok).set 2 (.int (nI w)))) = xc G h n w s e v x tok b := (xc_s _).trans rfl
theorem xc_pstart (w : Nat) : (xc G h n lf s e v x tok b).set 2 (.inr (4, (xf G n lf s e v x tok).set 4 (.int (nI w)))) = xc G h n lf w e v x tok b := (xc_s _).trans rfl
theorem xc_pbehind (w : Nat) : (xc G h n lf s e v x tok b).set 2 (.inr (4, (xf G n lf s e v x tok).set 5 (.int (nI w)))) = xc G h n lf s w v x tok b := (xc_s _).trans rfl
theorem xc_pvalue (w : Nat) : (xc G h n lf s e v x tok b).set 2 (.inr (4, (xf G n lf s e v x tok).set 7 (.int (nI w)))) = xc G h n lf s e w x tok b := (xc_s _).trans rfl
theorem xc_ptaken (w : Nat) : (xc G h n lf s e v x tok b).set 2 (.inr (4, (xf G n lf s e v x tok).set 8 (.int (nI w)))) = xc G h n lf s e v w tok b := (xc_s _).trans rfl
theorem xc_ptoken (w : Int32) : (xc G h n lf s e v x tok b).set 2 (.inr (4, (xf G n lf s e v x tok).set 6 (.int w))) = xc G h n lf s e v x w b := (xc_s _).trans rfl
theorem c_X4_isFigure {c : Nat} (hn : c < 2 ^ 31) : Ct l G yX4_isFigure 0 [.int (nI c)] (h) (some (.int (bI (isD c)))) (h) := by
  refine ctm_intro (maxL := 1) kw_X4_isFigure (by decide) (by decide) [some (.int (nI c))] rfl (Nat.le_of_ble_eq_true rfl) ?_
  intro X _ hcl hsl _ _ C E
  refine y_iload_n C D_X4_isFigure_0 rfl ?_
  refine y_bipush C D_X4_isFigure_1 kb_48 ?_
  refine y_icmp_lt C D_X4_isFigure_3 (n_lt (by omega) (by omega)) (fun c_3 => ?_) (fun c_3 => ?_)
  · refine y_iconst C D_X4_isFigure_16 ki_0 ?_
    exact y_zret C E D_X4_isFigure_17 nar_0 (rt_0 (by omega)) (rfl)
  · refine y_iload_n C D_X4_isFigure_6 rfl ?_
    refine y_bipush C D_X4_isFigure_7 kb_57 ?_
    refine y_icmp_gt C D_X4_isFigure_9 (n_lt (by omega) (by omega)) (fun c_9 => ?_) (fun c_9 => ?_)
    · refine y_iconst C D_X4_isFigure_16 ki_0 ?_
      exact y_zret C E D_X4_isFigure_17 nar_0 (rt_0 (by omega)) (rfl)
    · refine y_iconst C D_X4_isFigure_12 ki_1 ?_
      refine y_goto C D_X4_isFigure_13 ?_
      exact y_zret C E D_X4_isFigure_17 nar_1 (rt_1 (by omega)) (rfl)
theorem c_X4_fail (ha : 6 < h.length) {f : Nat} : Ct l G yX4_fail 0 [qr G 2, .int (nI f)] (xc G h n lf s e v x tok b) (some (.int (nI 0))) (xc G h n f s e v x tok b) := by
  refine ctm_intro (maxL := 2) kw_X4_fail (by decide) (by decide) [some (qr G 2), some (.int (nI f))] rfl (Nat.le_of_ble_eq_true rfl) ?_
  intro X _ hcl hsl _ _ C E
  refine y_aload_n C D_X4_fail_0 rfl ?_
  refine y_iload_n C D_X4_fail_1 rfl ?_
  refine y_put C D_X4_fail_2 fl_X4_94 (xc_o ha) (Nat.le_of_ble_eq_true rfl) rfl rfl (xc_platestFault _) ?_
  refine y_iconst C D_X4_fail_5 ki_0 ?_
  exact y_zret C E D_X4_fail_6 nar_0 (rfl) (rfl)
theorem c_X4_addF (ha : 6 < h.length) {c : Nat} (h1 : n = 120) : Ct l G yX4_add 0 [qr G 2, .int (nI c)] (xc G h n lf s e v x tok b) (some (.int (nI 0))) (xc G h n lf s e v x tok b) := by
  refine ctm_intro (maxL := 2) kw_X4_add (by decide) (by decide) [some (qr G 2), some (.int (nI c))] rfl (Nat.le_of_ble_eq_true rfl) ?_
  intro X _ hcl hsl _ _ C E
  refine y_aload_n C D_X4_add_0 rfl ?_
  refine y_get C D_X4_add_1 fl_X4_22 (xc_o ha) rfl ?_
  refine y_bipush C D_X4_add_4 kb_120 ?_
  refine y_icmp_lt C D_X4_add_6 (n_lt (by omega) (by omega)) (fun c_6 => absurd c_6 (by omega)) (fun c_6 => ?_)
  refine y_iconst C D_X4_add_9 ki_0 ?_
  exact y_zret C E D_X4_add_10 nar_0 (rfl) (rfl)
theorem c_X4_add (ha : 6 < h.length) {c : Nat} (h1 : n < 120) : Ct l G yX4_add 0 [qr G 2, .int (nI c)] (xc G h n lf s e v x tok b) (some (.int (nI 1))) (xc G h (n + 1) lf s e v x tok (va_up b n c)) := by
  refine ctm_intro (maxL := 2) kw_X4_add (by decide) (by decide) [some (qr G 2), some (.int (nI c))] rfl (Nat.le_of_ble_eq_true rfl) ?_
  intro X _ hcl hsl _ _ C E
  refine y_aload_n C D_X4_add_0 rfl ?_
  refine y_get C D_X4_add_1 fl_X4_22 (xc_o ha) rfl ?_
  refine y_bipush C D_X4_add_4 kb_120 ?_
  refine y_icmp_lt C D_X4_add_6 (n_lt (by omega) (by omega)) (fun c_6 => ?_) (fun c_6 => absurd h1 c_6)
  refine y_aload_n C D_X4_add_11 rfl ?_
  refine y_get C D_X4_add_12 fl_X4_18 (xc_o ha) rfl ?_
  refine y_aload_n C D_X4_add_15 rfl ?_
  refine y_get C D_X4_add_16 fl_X4_22 (xc_o ha) rfl ?_
  refine y_iload_n C D_X4_add_19 rfl ?_
  refine z_ist C D_X4_add_20 (xc_b ha) (by omega) (by decide) (xc_w (by omega) _) ?_
  refine y_aload_n C D_X4_add_21 rfl ?_
  refine y_dup C D_X4_add_22 rfl ?_
  refine y_get C D_X4_add_23 fl_X4_22 (xc_o ha) rfl ?_
  refine y_iconst C D_X4_add_26 ki_1 ?_
  refine z_iadd C D_X4_add_27 ?_
  refine y_put C D_X4_add_28 fl_X4_22 (xc_o ha) (Nat.le_of_ble_eq_true rfl) rfl rfl (xc_psize _) ?_
  refine y_iconst C D_X4_add_31 ki_1 ?_
  exact y_zret C E D_X4_add_32 nar_1 (rfl) (rfl)
end
