section
variable {l : Launch} {G : qG} {h : List va_E} {y : Nat → Nat} {c : Nat} {f : Nat → Nat}
/-! the asker: its cell and what bodies left -/
def ac (G : qG) (h : List va_E) (c : Nat) (f : Nat → Nat) : List va_E := (h.set 98 (.inr (0, [.int (nI c), qr G 99]))).set 99 (qI G 16 (tr 16 (fun k => nI (f k))))
theorem ac_o (ha : 99 < h.length) : (ac G h c f)[98]? = some (.inr (0, [.int (nI c), qr G 99])) := by
  unfold ac
  rw [List.getElem?_set_ne (by decide), List.getElem?_set_self (by omega)]
theorem ac_l (ha : 99 < h.length) : (ac G h c f)[99]? = some (qI G 16 (tr 16 (fun k => nI (f k)))) := by
  unfold ac
  rw [List.getElem?_set_self (by rw [List.length_set]; omega)]
theorem ac_n {j : Nat} (hj : j < 98 ∨ 99 < j) : (ac G h c f)[j]? = h[j]? := by
  unfold ac
  rw [List.getElem?_set_ne (by omega), List.getElem?_set_ne (by omega)]
theorem ac_ptraced (v : Nat) : (ac G h c f).set 98 (.inr (0, ([.int (nI c), qr G 99] : List Value).set 0 (.int (nI v)))) = ac G h v f := by
  unfold ac
  rw [List.set_comm _ _ (by decide : 99 ≠ 98), List.set_set]
  rfl
theorem ac_w {j : Nat} (hj : j < 16) (v : Nat) : (ac G h c f).set 99 (qI G 16 (upd (tr 16 (fun k => nI (f k))) j (nI v))) = ac G h c (va_up f j v) := by
  unfold ac
  rw [List.set_set, tr_upd hj, va_upn]
theorem Yat.ac {b : Nat} (q : Yat G h b y) (hb : b + 2 < 98) : Yat G (ac G h c f) b y := ⟨(ac_n (by omega)).trans q.o, (ac_n (by omega)).trans q.k, (ac_n (by omega)).trans q.m⟩
theorem c_X0_leave (ha : 99 < h.length) {b : Nat} (hc : c ≤ 16) : Ct l G yX0_leave 0 [qr G 98, .int (nI b)] (ac G h c f) (none) (ac G h (bgC c [b]) (bgF c f [b])) := by
  refine ctm_intro (maxL := 2) kw_X0_leave (by decide) (by decide) [some (qr G 98), some (.int (nI b))] rfl (Nat.le_of_ble_eq_true rfl) ?_
  intro X _ hcl hsl _ _ C E
  refine y_aload_n C D_X0_leave_0 rfl ?_
  refine y_get C D_X0_leave_1 fl_X0_15 (ac_o ha) rfl ?_
  refine y_bipush C D_X0_leave_4 kb_16 ?_
  refine y_icmp_ge C D_X0_leave_6 (n_le (by omega) (by omega)) (fun c_6 => ?_) (fun c_6 => ?_)
  · exact y_vret C E D_X0_leave_29 (by rw [bgC, bgC, bgF, bgF, if_neg (by omega), if_neg (by omega)])
  · refine y_aload_n C D_X0_leave_9 rfl ?_
    refine y_get C D_X0_leave_10 fl_X0_9 (ac_o ha) rfl ?_
    refine y_aload_n C D_X0_leave_13 rfl ?_
    refine y_get C D_X0_leave_14 fl_X0_15 (ac_o ha) rfl ?_
    refine y_iload_n C D_X0_leave_17 rfl ?_
    refine z_ist C D_X0_leave_18 (ac_l ha) (by omega) (by decide) (ac_w (by omega) _) ?_
    refine y_aload_n C D_X0_leave_19 rfl ?_
    refine y_dup C D_X0_leave_20 rfl ?_
    refine y_get C D_X0_leave_21 fl_X0_15 (ac_o ha) rfl ?_
    refine y_iconst C D_X0_leave_24 ki_1 ?_
    refine z_iadd C D_X0_leave_25 ?_
    refine y_put C D_X0_leave_26 fl_X0_15 (ac_o ha) (Nat.le_of_ble_eq_true rfl) rfl rfl (ac_ptraced _) ?_
    exact y_vret C E D_X0_leave_29 (by rw [bgC, bgC, bgF, bgF, if_pos (by omega), if_pos (by omega)])
theorem c_X0_kindOf (hy : Yat G h 7 y) {s : Nat} (hs1 : s < 5) (hk : y (6 + s) ≤ 5) : Ct l G yX0_kindOf 0 [qr G 7, .int (nI s)] (h) (some (.int (nI (y (6 + s))))) (h) := by
  refine ctm_intro (maxL := 3) kw_X0_kindOf (by decide) (by decide) [some (qr G 7), some (.int (nI s)), none] rfl (Nat.le_of_ble_eq_true rfl) ?_
  intro X _ hcl hsl _ _ C E
  refine y_iload_n C D_X0_kindOf_0 rfl ?_
  refine y_if_lt C D_X0_kindOf_1 (n_lt0 (by omega)) (fun q => q.elim) (fun _ => ?_)
  refine y_iload_n C D_X0_kindOf_4 rfl ?_
  refine y_iconst C D_X0_kindOf_5 ki_5 ?_
  refine y_icmp_lt C D_X0_kindOf_6 (n_lt (by omega) (by omega)) (fun c_6 => ?_) (fun c_6 => absurd hs1 c_6)
  refine y_aload_n C D_X0_kindOf_13 rfl ?_
  refine y_get C D_X0_kindOf_14 fl_X0_40 hy.o rfl ?_
  refine y_iload_n C D_X0_kindOf_17 rfl ?_
  refine z_ild C D_X0_kindOf_18 hy.k (by omega) (by decide) (tr_at (by omega)) ?_
  refine y_istore_n C D_X0_kindOf_19 (by decide) (qok_s rfl rfl) ?_
  refine y_iload_n C D_X0_kindOf_20 rfl ?_
  refine y_if_lt C D_X0_kindOf_21 (n_lt0 (by omega)) (fun q => q.elim) (fun _ => ?_)
  refine y_iload_n C D_X0_kindOf_24 rfl ?_
  refine y_iconst C D_X0_kindOf_25 ki_5 ?_
  refine y_icmp_le C D_X0_kindOf_26 (n_le (by omega) (by omega)) (fun c_26 => ?_) (fun c_26 => absurd hk c_26)
  refine y_iload_n C D_X0_kindOf_33 rfl ?_
  exact y_iret C E D_X0_kindOf_34 (rfl) (rfl)
end
