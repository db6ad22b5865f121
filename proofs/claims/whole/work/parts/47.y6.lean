theorem set_same {h : List va_E} {j : Nat} {x : va_E} (hx : h[j]? = some x) : h.set j x = h := by
  apply List.ext_getElem?
  intro i
  by_cases c : j = i
  · subst c
    have hj : j < h.length := by
      rcases Nat.lt_or_ge j h.length with q | q
      · exact q
      · rw [List.getElem?_eq_none q] at hx
        cases hx
    rw [List.getElem?_set_self hj, hx]
  · rw [List.getElem?_set_ne c]
theorem at_lt {h : List va_E} {j : Nat} {x : va_E} (hx : h[j]? = some x) : j < h.length := by
  rcases Nat.lt_or_ge j h.length with q | q
  · exact q
  · rw [List.getElem?_eq_none q] at hx
    cases hx
/-- the yard z lies at b -/
def Yat (G : qG) (h : List va_E) (b : Nat) (z : Nat → Nat) : Prop := h[b]? = some (.inr (5, yf G b z)) ∧ h[b + 1]? = some (yk G z) ∧ h[b + 2]? = some (ym G z)
theorem Yat.o {G : qG} {h : List va_E} {b : Nat} {z : Nat → Nat} (q : Yat G h b z) : h[b]? = some (.inr (5, yf G b z)) := q.1
theorem Yat.k {G : qG} {h : List va_E} {b : Nat} {z : Nat → Nat} (q : Yat G h b z) : h[b + 1]? = some (yk G z) := q.2.1
theorem Yat.m {G : qG} {h : List va_E} {b : Nat} {z : Nat → Nat} (q : Yat G h b z) : h[b + 2]? = some (ym G z) := q.2.2
theorem Yat.lt {G : qG} {h : List va_E} {b : Nat} {z : Nat → Nat} (q : Yat G h b z) : b + 2 < h.length := at_lt q.m
theorem Yat.eq {G : qG} {h : List va_E} {b : Nat} {z : Nat → Nat} (q : Yat G h b z) : yc G h b z = h := by
  unfold yc
  rw [set_same q.o, set_same q.k, set_same q.m]
theorem Yat.mk' {G : qG} {h : List va_E} {b : Nat} {z : Nat → Nat} (hb : b + 2 < h.length) : Yat G (yc G h b z) b z := ⟨yc_o hb, yc_k hb, yc_m hb⟩
theorem Yat.far {G : qG} {h : List va_E} {a b : Nat} {y z : Nat → Nat} (q : Yat G h b z) (hd : b + 2 < a ∨ a + 2 < b) : Yat G (yc G h a y) b z := ⟨(yc_n (by omega)).trans q.o, (yc_n (by omega)).trans q.k, (yc_n (by omega)).trans q.m⟩
theorem Yat.c {G : qG} {h : List va_E} {b : Nat} {y z : Nat → Nat} (q : Yat G h b z) (hc : ∀ k, k < 51 → z k = y k) : Yat G h b y :=
  ⟨q.o.trans (congrArg (fun v => some (Sum.inr (5, v))) (yf_c (fun k hk => hc k (by omega)) (sb_c (fun k hk => hc _ (by omega))) (sb_c (fun k hk => hc _ (by omega))))), q.k.trans (congrArg some (yk_c (fun k hk => hc _ (by omega)))), q.m.trans (congrArg some (ym_c (fun k hk => hc _ (by omega))))⟩
theorem sb_bit {y : Nat → Nat} {o p : Nat} (hb : ∀ k, k < 5 → y (o + k) ≤ 1) (hp : p < 5) : sb y o / 2 ^ p % 2 = y (o + p) := by
  have := sb_hs hb hp
  have := hb p hp
  unfold hs at *
  omega
section
variable {l : Launch} {G : qG} {h : List va_E} {a b : Nat} {y z : Nat → Nat}
theorem yc_ckinds : (yc G h a y).set (a + 1) (qI G 5 (va_cpy (tr 5 (fun k => nI (z (6 + k)))) (tr 5 (fun k => nI (y (6 + k)))) (nI 0).toNatClampNeg (nI 0).toNatClampNeg (nI 5).toNatClampNeg)) = yc G h a (va_cpy z y 6 6 5) := by
  rw [yc_s1]
  refine yc_mk (congrArg (fun v => Sum.inr (5, v)) (yf_c (fun k hk => (cpy_out (by omega)).symm) (sb_c (fun k hk => (cpy_out (by omega)).symm)) (sb_c (fun k hk => (cpy_out (by omega)).symm)))) (congrArg (qI G 5) ?_) (ym_c (fun k hk => (cpy_out (by omega)).symm))
  show va_cpy _ _ 0 0 5 = _
  funext k
  by_cases c : k < 5
  · rw [cpy_in (by omega) (by omega), tr_at (by omega), tr_at c, cpy_in (by omega) (by omega)]
    rw [show 6 + (0 + (k - 0)) = 6 + (6 + k - 6) by omega]
  · rw [cpy_out (by omega)]
    unfold tr
    rw [if_neg c, if_neg c]
theorem yc_cmemories : (yc G h a y).set (a + 2) (qI G 30 (va_cpy (tr 30 (fun k => nI (z (21 + k)))) (tr 30 (fun k => nI (y (21 + k)))) (nI 0).toNatClampNeg (nI 0).toNatClampNeg (nI 30).toNatClampNeg)) = yc G h a (va_cpy z y 21 21 30) := by
  rw [yc_s2]
  refine yc_mk (congrArg (fun v => Sum.inr (5, v)) (yf_c (fun k hk => (cpy_out (by omega)).symm) (sb_c (fun k hk => (cpy_out (by omega)).symm)) (sb_c (fun k hk => (cpy_out (by omega)).symm)))) (yk_c (fun k hk => (cpy_out (by omega)).symm)) (congrArg (qI G 30) ?_)
  show va_cpy _ _ 0 0 30 = _
  funext k
  by_cases c : k < 30
  · rw [cpy_in (by omega) (by omega), tr_at (by omega), tr_at c, cpy_in (by omega) (by omega)]
    rw [show 21 + (0 + (k - 0)) = 21 + (21 + k - 21) by omega]
  · rw [cpy_out (by omega)]
    unfold tr
    rw [if_neg c, if_neg c]
theorem become_eq (h1 : ∀ k, k < 5 → z (11 + k) ≤ 1) (h2 : ∀ k, k < 5 → z (16 + k) ≤ 1) {k : Nat} (hk : k < 51) : va_cpy z (va_cpy z (sS (sS (va_up (va_up (va_up (va_up (va_up (va_up y 0 (z 0)) 1 (z 1)) 2 (z 2)) 3 (z 3)) 4 (z 4)) 5 (z 5)) 11 (sb z 11)) 16 (sb z 16)) 6 6 5) 21 21 30 k = z k := by
  by_cases c1 : 21 ≤ k
  · rw [cpy_in c1 (by omega), show 21 + (k - 21) = k by omega]
  · rw [cpy_out (by omega)]
    by_cases c2 : 6 ≤ k ∧ k < 11
    · rw [cpy_in c2.1 (by omega), show 6 + (k - 6) = k by omega]
    · rw [cpy_out (by omega)]
      by_cases c3 : 16 ≤ k
      · rw [sS_in ⟨c3, by omega⟩, sb_bit h2 (by omega), show 16 + (k - 16) = k by omega]
      · rw [sS_out (by omega)]
        by_cases c4 : 11 ≤ k
        · rw [sS_in ⟨c4, by omega⟩, sb_bit h1 (by omega), show 11 + (k - 11) = k by omega]
        · rw [sS_out (by omega)]
          unfold va_up
          match k, (show k < 6 by omega) with
          | 0, _ => rfl
          | 1, _ => rfl
          | 2, _ => rfl
          | 3, _ => rfl
          | 4, _ => rfl
          | 5, _ => rfl
theorem c_X5_become (ha : a + 2 < h.length) (q : Yat G h b z) (hd : b + 2 < a ∨ a + 2 < b) (h1 : ∀ k, k < 5 → z (11 + k) ≤ 1) (h2 : ∀ k, k < 5 → z (16 + k) ≤ 1) : Ct l G yX5_become 1 [qr G a, qr G b] (yc G h a y) (none) (yc G h a z) := by
  refine ctm_intro (maxL := 2) kw_X5_become (by decide) (by decide) [some (qr G a), some (qr G b)] rfl (Nat.le_of_ble_eq_true rfl) ?_
  intro X _ hcl hsl _ _ C E
  have hs1 := sb_lt h1
  have hs2 := sb_lt h2
  refine y_aload_n C D_X5_become_0 rfl ?_
  refine y_aload_n C D_X5_become_1 rfl ?_
  refine y_get C D_X5_become_2 fl_X5_18 ((yc_n (by omega)).trans q.o) rfl ?_
  refine y_put C D_X5_become_5 fl_X5_18 (yc_o ha) (Nat.le_of_ble_eq_true rfl) rfl rfl (yc_pgraves _) ?_
  refine y_aload_n C D_X5_become_8 rfl ?_
  refine y_aload_n C D_X5_become_9 rfl ?_
  refine y_get C D_X5_become_10 fl_X5_22 ((yc_n (by omega)).trans q.o) rfl ?_
  refine y_put C D_X5_become_13 fl_X5_22 (yc_o ha) (Nat.le_of_ble_eq_true rfl) rfl rfl (yc_pleast _) ?_
  refine y_aload_n C D_X5_become_16 rfl ?_
  refine y_aload_n C D_X5_become_17 rfl ?_
  refine y_get C D_X5_become_18 fl_X5_25 ((yc_n (by omega)).trans q.o) rfl ?_
  refine y_put C D_X5_become_21 fl_X5_25 (yc_o ha) (Nat.le_of_ble_eq_true rfl) rfl rfl (yc_pshare _) ?_
  refine y_aload_n C D_X5_become_24 rfl ?_
  refine y_aload_n C D_X5_become_25 rfl ?_
  refine y_get C D_X5_become_26 fl_X5_28 ((yc_n (by omega)).trans q.o) rfl ?_
  refine y_put C D_X5_become_29 fl_X5_28 (yc_o ha) (Nat.le_of_ble_eq_true rfl) rfl rfl (yc_psleepers _) ?_
  refine y_aload_n C D_X5_become_32 rfl ?_
  refine y_aload_n C D_X5_become_33 rfl ?_
  refine y_get C D_X5_become_34 fl_X5_31 ((yc_n (by omega)).trans q.o) rfl ?_
  refine y_put C D_X5_become_37 fl_X5_31 (yc_o ha) (Nat.le_of_ble_eq_true rfl) rfl rfl (yc_pyear _) ?_
  refine y_aload_n C D_X5_become_40 rfl ?_
  refine y_aload_n C D_X5_become_41 rfl ?_
  refine y_get C D_X5_become_42 fl_X5_34 ((yc_n (by omega)).trans q.o) rfl ?_
  refine y_put C D_X5_become_45 fl_X5_34 (yc_o ha) (Nat.le_of_ble_eq_true rfl) rfl rfl (yc_pkept _) ?_
  refine y_aload_n C D_X5_become_48 rfl ?_
  refine y_aload_n C D_X5_become_49 rfl ?_
  refine y_get C D_X5_become_50 fl_X5_37 ((yc_n (by omega)).trans q.o) rfl ?_
  refine y_put C D_X5_become_53 fl_X5_37 (yc_o ha) (Nat.le_of_ble_eq_true rfl) rfl rfl (yc_psuppers (by omega)) ?_
  refine y_aload_n C D_X5_become_56 rfl ?_
  refine y_aload_n C D_X5_become_57 rfl ?_
  refine y_get C D_X5_become_58 fl_X5_40 ((yc_n (by omega)).trans q.o) rfl ?_
  refine y_put C D_X5_become_61 fl_X5_40 (yc_o ha) (Nat.le_of_ble_eq_true rfl) rfl rfl (yc_pfevers (by omega)) ?_
  refine y_aload_n C D_X5_become_64 rfl ?_
  refine y_get C D_X5_become_65 fl_X5_9 ((yc_n (by omega)).trans q.o) rfl ?_
  refine y_iconst C D_X5_become_68 ki_0 ?_
  refine y_aload_n C D_X5_become_69 rfl ?_
  refine y_get C D_X5_become_70 fl_X5_9 (yc_o ha) rfl ?_
  refine y_iconst C D_X5_become_73 ki_0 ?_
  refine y_iconst C D_X5_become_74 ki_5 ?_
  refine y_copy C D_X5_become_75 lk_X5_49 ((yc_n (by omega)).trans q.k) (yc_k ha) (by decide) (by decide) (by decide) (by decide) (by decide) (Nat.le_of_ble_eq_true rfl) (Nat.le_of_ble_eq_true rfl) yc_ckinds ?_
  refine y_aload_n C D_X5_become_78 rfl ?_
  refine y_get C D_X5_become_79 fl_X5_15 ((yc_n (by omega)).trans q.o) rfl ?_
  refine y_iconst C D_X5_become_82 ki_0 ?_
  refine y_aload_n C D_X5_become_83 rfl ?_
  refine y_get C D_X5_become_84 fl_X5_15 (yc_o ha) rfl ?_
  refine y_iconst C D_X5_become_87 ki_0 ?_
  refine y_bipush C D_X5_become_88 kb_30 ?_
  refine y_copy C D_X5_become_90 lk_X5_49 ((yc_n (by omega)).trans q.m) (yc_m ha) (by decide) (by decide) (by decide) (by decide) (by decide) (Nat.le_of_ble_eq_true rfl) (Nat.le_of_ble_eq_true rfl) yc_cmemories ?_
  exact y_vret C E D_X5_become_93 (yc_c (fun k hk => become_eq h1 h2 hk))
end
