def flF (f : Nat → Int32) (v : Int32) (k : Nat) : Nat → Int32 := fun i => if i < k then v else f i
theorem flF_0 {f : Nat → Int32} {v : Int32} : flF f v 0 = f := by
  funext i
  exact if_neg (by omega)
theorem flF_step {f : Nat → Int32} {v : Int32} {k : Nat} : upd (flF f v k) k v = flF f v (k + 1) := by
  funext i
  unfold upd flF
  by_cases c : i = k
  · rw [if_pos c, if_pos (by omega)]
  · rw [if_neg c]
    by_cases d : i < k
    · rw [if_pos d, if_pos (by omega)]
    · rw [if_neg d, if_neg (by omega)]
def zr (y : Nat → Nat) (o n : Nat) : Nat → Nat := fun k => if o ≤ k ∧ k < o + n then 0 else y k
theorem zr_out {y : Nat → Nat} {o n k : Nat} (h : ¬ (o ≤ k ∧ k < o + n)) : zr y o n k = y k := if_neg h
theorem zr_in {y : Nat → Nat} {o n k : Nat} (h : o ≤ k ∧ k < o + n) : zr y o n k = 0 := if_pos h
theorem flF_tr {f : Nat → Int32} {n : Nat} : flF (tr n f) (nI 0) n = tr n (fun _ => nI 0) := by
  funext k
  unfold flF tr
  by_cases c : k < n
  · rw [if_pos c, if_pos c]
  · rw [if_neg c, if_neg c, if_neg c]
theorem mbn_up {y : Nat → Nat} {p n : Nat} : ∀ d, (∀ g, n ≤ g → g < n + d → me y p g = 0) → mbn y p (n + d) = mbn y p n
  | 0, _ => rfl
  | d + 1, h => by
    have ih := mbn_up d (fun g h1 h2 => h g h1 (by omega))
    have hz := h (n + d) (by omega) (by omega)
    show mbn y p (n + d + 1) = _
    rw [mbn, ih, hz, Nat.add_zero]
theorem Va.mb6 {y : Nat → Nat} (h : Va y) {p : Nat} (hp : p < 5) : mbn y p 6 = mbn y p (y 0) := by
  have h0 := h.1
  have e := mbn_up (y := y) (p := p) (n := y 0) (6 - y 0) (fun g ha hb => (h.2.2.2.2.2.2.2.2.1 p g hp (by omega)).2 (Or.inr ha))
  rw [show y 0 + (6 - y 0) = 6 by omega] at e
  exact e
def sm6 (y : Nat → Nat) : Nat → Nat
  | 0 => 0
  | p + 1 => sm6 y p + mbn y p 6
/-- who dreams of g, of the first n places -/
def d5 (y : Nat → Nat) (g : Nat) : Nat → Nat
  | 0 => 0
  | p + 1 => d5 y g p ||| (if hs (if p < y 3 then dr y p else 0) g then 2 ^ p else 0)
theorem hs_0 (g : Nat) : ¬ hs 0 g := by
  unfold hs
  rw [Nat.zero_div]
  decide
theorem d5_dw {y : Nat → Nat} {g : Nat} : ∀ n, d5 y g n = dwn y g (if n ≤ y 3 then n else y 3)
  | 0 => by
    rw [if_pos (Nat.zero_le _)]
    rfl
  | n + 1 => by
    have ih := d5_dw (y := y) (g := g) n
    unfold d5
    rw [ih]
    by_cases c : n + 1 ≤ y 3
    · rw [if_pos (by omega), if_pos (show n < y 3 by omega), if_pos c]
      rfl
    · rw [if_neg c, if_neg (show ¬ n < y 3 by omega), if_neg (hs_0 g), Nat.or_zero]
      by_cases d : n ≤ y 3
      · rw [if_pos d, show n = y 3 by omega]
      · rw [if_neg d]
theorem d5_5 {y : Nat → Nat} {g : Nat} (h : y 3 ≤ 5) : d5 y g 5 = dwn y g (y 3) := by
  rw [d5_dw]
  split
  · rw [show y 3 = 5 by omega]
  · rfl
section
variable {l : Launch} {G : qG} {h : List va_E} {a j n : Nat} {y : Nat → Nat} {f : Nat → Int32} {v : Int32}
theorem fl_at (hj : h[j]? = some (qI G n f)) (k : Nat) : (h.set j (qI G n (flF f v (k))))[j]? = some (qI G n (flF f v k)) := List.getElem?_set_self (at_lt hj)
theorem fl_w {k : Nat} : (h.set j (qI G n (flF f v (k)))).set j (qI G n (upd (flF f v k) k v)) = h.set j (qI G n (flF f v (k + 1))) := by rw [List.set_set, flF_step]
theorem lp_J7_fill {X : qX} (hn : n < 2 ^ 31) (hj : h[j]? = some (qI G n f)) (C : qC X G cJ7_fill_53178 4 RJ7 0) (E : qE X G none 0 0 none (h.set j (qI G n (flF f v (n))))) : ∀ (m k : Nat), k + m = n → Y X G 4 0 0 5 [some (qr G j), some (.int v), some (.int (nI (k))), some (.int (nI (n)))] [] (h.set j (qI G n (flF f v (k)))) := by
  intro m
  induction m with
  | zero =>
    intro k hk
    obtain rfl : k = n := by omega
    refine y_iload_n C D_J7_fill_53178_5 rfl ?_
    refine y_iload_n C D_J7_fill_53178_6 rfl ?_
    refine y_icmp_ge C D_J7_fill_53178_7 (n_le (by omega) (by omega)) (fun c_7 => ?_) (fun c_7 => absurd (Nat.le_refl _) c_7)
    exact y_vret C E D_J7_fill_53178_20 (rfl)
  | succ m ih =>
    intro k hk
    refine y_iload_n C D_J7_fill_53178_5 rfl ?_
    refine y_iload_n C D_J7_fill_53178_6 rfl ?_
    refine y_icmp_ge C D_J7_fill_53178_7 (n_le (by omega) (by omega)) (fun c_7 => absurd c_7 (by omega)) (fun c_7 => ?_)
    refine y_aload_n C D_J7_fill_53178_10 rfl ?_
    refine y_iload_n C D_J7_fill_53178_11 rfl ?_
    refine y_iload_n C D_J7_fill_53178_12 rfl ?_
    refine z_ist C D_J7_fill_53178_13 (fl_at hj _) (by omega) hn fl_w ?_
    refine z_iinc (n := 1) C D_J7_fill_53178_14 rfl (by decide) (qok_s rfl rfl) ?_
    refine y_goto C D_J7_fill_53178_17 ?_
    exact ih (k + 1) (by omega)
theorem c_J7_fill (hn : n < 2 ^ 31) (hj : h[j]? = some (qI G n f)) : Ct l G yJ7_fill_53178 0 [qr G j, .int v] (h) (none) (h.set j (qI G n (flF f v (n)))) := by
  refine ctm_intro (maxL := 4) kw_J7_fill_53178 (by decide) (by decide) [some (qr G j), some (.int v), none, none] rfl (Nat.le_of_ble_eq_true rfl) ?_
  intro X _ hcl hsl _ _ C E
  refine y_iconst C D_J7_fill_53178_0 ki_0 ?_
  refine y_istore_n C D_J7_fill_53178_1 (by decide) (qok_s rfl rfl) ?_
  refine y_aload_n C D_J7_fill_53178_2 rfl ?_
  refine y_alen (t0 := 0) C D_J7_fill_53178_3 hj rfl rfl ?_
  refine y_istore_n C D_J7_fill_53178_4 (by decide) (qok_s rfl rfl) ?_
  have z := lp_J7_fill (v := v) hn hj C E n 0 (by omega)
  rw [flF_0, set_same hj] at z
  exact z
theorem yc_fkinds : (yc G h a y).set (a + 1) (qI G 5 (flF (tr 5 (fun k => nI (y (6 + k)))) (nI 0) 5)) = yc G h a (zr y 6 5) := by
  rw [yc_s1, flF_tr]
  exact yc_mk (congrArg (fun v => Sum.inr (5, v)) (yf_c (fun k hk => (zr_out (by omega)).symm) (sb_c (fun k hk => (zr_out (by omega)).symm)) (sb_c (fun k hk => (zr_out (by omega)).symm)))) (congrArg (qI G 5) (tr_c (fun k hk => by rw [zr_in (by omega)]))) (ym_c (fun k hk => (zr_out (by omega)).symm))
theorem yc_fmemories : (yc G h a y).set (a + 2) (qI G 30 (flF (tr 30 (fun k => nI (y (21 + k)))) (nI 0) 30)) = yc G h a (zr y 21 30) := by
  rw [yc_s2, flF_tr]
  exact yc_mk (congrArg (fun v => Sum.inr (5, v)) (yf_c (fun k hk => (zr_out (by omega)).symm) (sb_c (fun k hk => (zr_out (by omega)).symm)) (sb_c (fun k hk => (zr_out (by omega)).symm)))) (yk_c (fun k hk => (zr_out (by omega)).symm)) (congrArg (qI G 30) (tr_c (fun k hk => by rw [zr_in (by omega)])))
theorem clear_eq {k : Nat} (hk : k < 51) : zr (zr (sS (sS (va_up (va_up (va_up (va_up (va_up (va_up y 0 0) 1 0) 2 0) 3 0) 4 0) 5 0) 11 0) 16 0) 6 5) 21 30 k = 0 := by
  by_cases c1 : 21 ≤ k
  · exact zr_in (by omega)
  · rw [zr_out (by omega)]
    by_cases c2 : 6 ≤ k ∧ k < 11
    · exact zr_in (by omega)
    · rw [zr_out (by omega)]
      by_cases c3 : 16 ≤ k
      · rw [sS_in ⟨c3, by omega⟩, Nat.zero_div]
      · rw [sS_out (by omega)]
        by_cases c4 : 11 ≤ k
        · rw [sS_in ⟨c4, by omega⟩, Nat.zero_div]
        · rw [sS_out (by omega)]
          unfold va_up
          match k, (show k < 6 by omega) with
          | 0, _ => rfl
          | 1, _ => rfl
          | 2, _ => rfl
          | 3, _ => rfl
          | 4, _ => rfl
          | 5, _ => rfl
theorem c_X5_clear (ha : a + 2 < h.length) : Ct l G yX5_clear 1 [qr G a] (yc G h a y) (none) (yc G h a (fun _ => 0)) := by
  refine ctm_intro (maxL := 1) kw_X5_clear (by decide) (by decide) [some (qr G a)] rfl (Nat.le_of_ble_eq_true rfl) ?_
  intro X _ hcl hsl _ _ C E
  refine y_aload_n C D_X5_clear_0 rfl ?_
  refine y_iconst C D_X5_clear_1 ki_0 ?_
  refine y_put C D_X5_clear_2 fl_X5_18 (yc_o ha) (Nat.le_of_ble_eq_true rfl) rfl rfl (yc_pgraves _) ?_
  refine y_aload_n C D_X5_clear_5 rfl ?_
  refine y_iconst C D_X5_clear_6 ki_0 ?_
  refine y_put C D_X5_clear_7 fl_X5_22 (yc_o ha) (Nat.le_of_ble_eq_true rfl) rfl rfl (yc_pleast _) ?_
  refine y_aload_n C D_X5_clear_10 rfl ?_
  refine y_iconst C D_X5_clear_11 ki_0 ?_
  refine y_put C D_X5_clear_12 fl_X5_25 (yc_o ha) (Nat.le_of_ble_eq_true rfl) rfl rfl (yc_pshare _) ?_
  refine y_aload_n C D_X5_clear_15 rfl ?_
  refine y_iconst C D_X5_clear_16 ki_0 ?_
  refine y_put C D_X5_clear_17 fl_X5_28 (yc_o ha) (Nat.le_of_ble_eq_true rfl) rfl rfl (yc_psleepers _) ?_
  refine y_aload_n C D_X5_clear_20 rfl ?_
  refine y_iconst C D_X5_clear_21 ki_0 ?_
  refine y_put C D_X5_clear_22 fl_X5_31 (yc_o ha) (Nat.le_of_ble_eq_true rfl) rfl rfl (yc_pyear _) ?_
  refine y_aload_n C D_X5_clear_25 rfl ?_
  refine y_iconst C D_X5_clear_26 ki_0 ?_
  refine y_put C D_X5_clear_27 fl_X5_34 (yc_o ha) (Nat.le_of_ble_eq_true rfl) rfl rfl (yc_pkept _) ?_
  refine y_aload_n C D_X5_clear_30 rfl ?_
  refine y_iconst C D_X5_clear_31 ki_0 ?_
  refine y_put C D_X5_clear_32 fl_X5_37 (yc_o ha) (Nat.le_of_ble_eq_true rfl) rfl rfl (yc_psuppers (by omega)) ?_
  refine y_aload_n C D_X5_clear_35 rfl ?_
  refine y_iconst C D_X5_clear_36 ki_0 ?_
  refine y_put C D_X5_clear_37 fl_X5_40 (yc_o ha) (Nat.le_of_ble_eq_true rfl) rfl rfl (yc_pfevers (by omega)) ?_
  refine y_aload_n C D_X5_clear_40 rfl ?_
  refine y_get C D_X5_clear_41 fl_X5_9 (yc_o ha) rfl ?_
  refine y_iconst C D_X5_clear_44 ki_0 ?_
  refine z_callSv C D_X5_clear_45 lk_X5_43 (c_J7_fill (by decide) (yc_k ha)) rfl rfl (Nat.le_of_ble_eq_true rfl) (Nat.le_of_ble_eq_true rfl) ⟨Nat.zero_le _, Nat.zero_le _⟩ ?_
  rw [yc_fkinds]
  refine y_aload_n C D_X5_clear_48 rfl ?_
  refine y_get C D_X5_clear_49 fl_X5_15 (yc_o ha) rfl ?_
  refine y_iconst C D_X5_clear_52 ki_0 ?_
  refine z_callSv C D_X5_clear_53 lk_X5_43 (c_J7_fill (by decide) (yc_m ha)) rfl rfl (Nat.le_of_ble_eq_true rfl) (Nat.le_of_ble_eq_true rfl) ⟨Nat.zero_le _, Nat.zero_le _⟩ ?_
  rw [yc_fmemories]
  exact y_vret C E D_X5_clear_56 (yc_c (fun k hk => clear_eq hk))
end
