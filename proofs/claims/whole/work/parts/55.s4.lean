/-- how many years of the copy pass till it is told otherwise -/
def gaN (it : Nat → Int32) (o : Nat) (y : Nat → Nat) : Nat → Nat → Nat
  | 0, k => k
  | n + 1, k => if nI (yrs y (k + 1) 5) = it (o + k) then gaN it o y n (k + 1) else k + 1
theorem soB_bad {it : Nat → Int32} {o : Nat} {y : Nat → Nat} {k : Nat} (h : ¬ soB it o y k = true) : ∀ d, ¬ soB it o y (k + d) = true
  | 0 => h
  | d + 1 => by
    show ¬ (soB it o y (k + d) && _) = true
    rw [Bool.and_eq_true]
    exact fun z => soB_bad h d z.1
def Rat (G : qG) (h : List va_E) (a : Nat) (ln sz : Int32) (it : Nat → Int32) : Prop := h[a]? = some (.inr (2, [.int ln, .int sz, qr G (a + 1)])) ∧ h[a + 1]? = some (qI G 40 (tr 40 it))
theorem Rat.lt {G : qG} {h : List va_E} {a : Nat} {ln sz : Int32} {it : Nat → Int32} (q : Rat G h a ln sz it) : a + 1 < h.length := at_lt q.2
theorem Rat.eq {G : qG} {h : List va_E} {a : Nat} {ln sz : Int32} {it : Nat → Int32} (q : Rat G h a ln sz it) : rc G h a ln sz it = h := by
  unfold rc
  rw [set_same q.1, set_same q.2]
theorem Rat.far {G : qG} {h : List va_E} {a b : Nat} {ln sz : Int32} {it : Nat → Int32} {y : Nat → Nat} (q : Rat G h a ln sz it) (hd : a + 1 < b ∨ b + 2 < a) : Rat G (yc G h b y) a ln sz it := ⟨(yc_n (by omega)).trans q.1, (yc_n (by omega)).trans q.2⟩
section
variable {l : Launch} {G : qG} {h : List va_E} {y w : Nat → Nat} {fw ra z : Nat} {ln : Int32} {it : Nat → Int32}
theorem c_X2_holdsY {x n : Int32} (q : Rat G h ra ln (nI z) it) (hz : z ≤ 40) : Ct l G yX2_holds 0 [qr G ra, .int x, .int n] h (some (.int (bI (hld x n z)))) h := by
  have w := c_X2_holds (l := l) (G := G) (x := x) (n := n) (ln := ln) (it := it) q.lt hz
  rw [q.eq] at w
  exact w
theorem lp_X3_goes {X : qX} {o n : Nat} (h89 : 89 + 2 < h.length) (hR : Rat G h ra ln (nI z) it) (hra : 99 < ra) (hz : z ≤ 40) (hV : Va y) (h4 : y 4 ≤ 999) (ho : o + n ≤ z) (C : qC X G cX3_goesAsTold 5 RX3 5) : ∀ (m k : Nat), k + m = n → soB it o y k = true → qE X G (some .boolean) 0 0 (some (.int (bI (soB it o y n = true)))) (yc G h 89 (yrs y (gaN it o y m k))) → Y X G 5 0 0 14 [some (qr G 89), some (qr G ra), some (.int (nI (o))), some (.int (nI (n))), some (.int (nI (k)))] [] (yc G h 89 (yrs y k)) := by
  intro m
  induction m with
  | zero =>
    intro k hk hs1 E
    obtain rfl : k = n := by omega
    refine y_iload C D_X3_goesAsTold_14 rfl ?_
    refine y_iload_n C D_X3_goesAsTold_16 rfl ?_
    refine y_icmp_ge C D_X3_goesAsTold_17 (n_le (by omega) (by omega)) (fun c_17 => ?_) (fun c_17 => absurd (Nat.le_refl _) c_17)
    refine y_iconst C D_X3_goesAsTold_48 ki_1 ?_
    exact y_zret C E D_X3_goesAsTold_49 nar_1 (rt_1 (hs1)) (rfl)
  | succ m ih =>
    intro k hk hs1 E
    have e4 := yrs_4 y k
    unfold gaN at E
    refine y_iload C D_X3_goesAsTold_14 rfl ?_
    refine y_iload_n C D_X3_goesAsTold_16 rfl ?_
    refine y_icmp_ge C D_X3_goesAsTold_17 (n_le (by omega) (by omega)) (fun c_17 => absurd c_17 (by omega)) (fun c_17 => ?_)
    refine y_aload_n C D_X3_goesAsTold_20 rfl ?_
    refine z_callVv C D_X3_goesAsTold_21 lk_X3_33 (c_X5_pass h89 (hV.yrs k) (by omega)) (yc_o h89) rfl rfl (Nat.le_of_ble_eq_true rfl) (Nat.le_of_ble_eq_true rfl) ⟨Nat.zero_le _, Nat.zero_le _⟩ ?_
    rw [show yr (yrs y k) = yrs y (k + 1) from rfl]
    refine y_aload_n C D_X3_goesAsTold_24 rfl ?_
    refine y_get C D_X3_goesAsTold_25 fl_X3_36 (yc_o h89) rfl ?_
    refine y_aload_n C D_X3_goesAsTold_28 rfl ?_
    refine y_get C D_X3_goesAsTold_29 fl_X3_108 (hR.far (by omega)).1 rfl ?_
    refine y_iload_n C D_X3_goesAsTold_32 rfl ?_
    refine y_iload C D_X3_goesAsTold_33 rfl ?_
    refine z_iadd C D_X3_goesAsTold_35 ?_
    refine z_ild C D_X3_goesAsTold_36 (hR.far (by omega)).2 (by omega) (by decide) (tr_at (by omega)) ?_
    refine y_icmp_eq C D_X3_goesAsTold_37 Iff.rfl (fun c_37 => ?_) (fun c_37 => ?_)
    · refine z_iinc (n := 1) C D_X3_goesAsTold_42 rfl (by decide) (qok_s rfl rfl) ?_
      refine y_goto C D_X3_goesAsTold_45 ?_
      rw [if_pos c_37] at E
      exact ih (k + 1) (by omega) (by rw [soB, Bool.and_eq_true]; exact ⟨hs1, decide_eq_true c_37.symm⟩) E
    · have hbad := soB_bad (it := it) (o := o) (y := y) (k := k + 1) (fun q => by rw [soB, Bool.and_eq_true] at q; exact c_37 (of_decide_eq_true q.2).symm) m
      rw [show k + 1 + m = n by omega] at hbad
      refine y_iconst C D_X3_goesAsTold_40 ki_0 ?_
      exact y_zret C E D_X3_goesAsTold_41 nar_0 (rt_0 (hbad)) (by rw [if_neg c_37])
theorem c_X3_goesAsTold (h89 : 89 + 2 < h.length) (hR : Rat G h ra ln (nI z) it) (hra : 99 < ra) (hz : z ≤ 40) (hV : Va y) (h4 : y 4 ≤ 999) {o n : Nat} (ho : o + n ≤ z) (hn : n ≤ 40) : Ct l G yX3_goesAsTold 5 [qr G 89, qr G ra, .int (nI o), .int (nI n)] (yc G h 89 y) (some (.int (bI (soB it o y n = true)))) (yc G h 89 (yrs y (gaN it o y n 0))) := by
  refine ctm_intro (maxL := 5) kw_X3_goesAsTold (by decide) (by decide) [some (qr G 89), some (qr G ra), some (.int (nI o)), some (.int (nI n)), none] rfl (Nat.le_of_ble_eq_true rfl) ?_
  intro X _ hcl hsl _ _ C E
  refine y_aload_n C D_X3_goesAsTold_0 rfl ?_
  refine y_iload_n C D_X3_goesAsTold_1 rfl ?_
  refine y_iload_n C D_X3_goesAsTold_2 rfl ?_
  refine z_callV C D_X3_goesAsTold_3 lk_X3_103 (c_X2_holdsY (hR.far (by omega)) hz) (hR.far (by omega)).1 rfl rfl (Nat.le_of_ble_eq_true rfl) (Nat.le_of_ble_eq_true rfl) ⟨Nat.zero_le _, Nat.zero_le _⟩ ?_
  refine z_ifneB C D_X3_goesAsTold_6 (fun c_6 => ?_) (fun c_6 => absurd (hld_n hz ho) c_6)
  refine y_iconst C D_X3_goesAsTold_11 ki_0 ?_
  refine y_istore C D_X3_goesAsTold_12 (by decide) (qok_s rfl rfl) ?_
  exact lp_X3_goes h89 hR hra hz hV h4 ho C n 0 (by omega) rfl E
end
