/-! constructors -/
theorem tr_z (n : Nat) : tr n (fun _ => nI 0) = fun _ => 0 := by
  funext k
  unfold tr
  split <;> rfl
abbrev bl0 : List Value := [.int (nI 0), .null]
theorem df_0 : ∀ j, j < 2 → defaultValue (tyX0 j) = vp_V bl0 j := by
  intro j hj
  match j, hj with
  | 0, _ => rfl
  | 1, _ => rfl
abbrev bl1 : List Value := [.int (nI 0), .int (nI 0), .null]
theorem df_1 : ∀ j, j < 3 → defaultValue (tyX1 j) = vp_V bl1 j := by
  intro j hj
  match j, hj with
  | 0, _ => rfl
  | 1, _ => rfl
  | 2, _ => rfl
abbrev bl2 : List Value := [.int (nI 0), .int (nI 0), .null]
theorem df_2 : ∀ j, j < 3 → defaultValue (tyX2 j) = vp_V bl2 j := by
  intro j hj
  match j, hj with
  | 0, _ => rfl
  | 1, _ => rfl
  | 2, _ => rfl
abbrev bl3 : List Value := [.int (nI 0), .null, .null, .null]
theorem df_3 : ∀ j, j < 4 → defaultValue (tyX3 j) = vp_V bl3 j := by
  intro j hj
  match j, hj with
  | 0, _ => rfl
  | 1, _ => rfl
  | 2, _ => rfl
  | 3, _ => rfl
abbrev bl4 : List Value := [.null, .int (nI 0), .int (nI 0), .null, .int (nI 0), .int (nI 0), .int (nI 0), .int (nI 0), .int (nI 0)]
theorem df_4 : ∀ j, j < 9 → defaultValue (tyX4 j) = vp_V bl4 j := by
  intro j hj
  match j, hj with
  | 0, _ => rfl
  | 1, _ => rfl
  | 2, _ => rfl
  | 3, _ => rfl
  | 4, _ => rfl
  | 5, _ => rfl
  | 6, _ => rfl
  | 7, _ => rfl
  | 8, _ => rfl
abbrev bl5 : List Value := [.int (nI 0), .int (nI 0), .int (nI 0), .int (nI 0), .int (nI 0), .int (nI 0), .int (nI 0), .int (nI 0), .null, .null]
theorem df_5 : ∀ j, j < 10 → defaultValue (tyX5 j) = vp_V bl5 j := by
  intro j hj
  match j, hj with
  | 0, _ => rfl
  | 1, _ => rfl
  | 2, _ => rfl
  | 3, _ => rfl
  | 4, _ => rfl
  | 5, _ => rfl
  | 6, _ => rfl
  | 7, _ => rfl
  | 8, _ => rfl
  | 9, _ => rfl
abbrev bl6 : List Value := [.null, .null, .null, .null, .null, .null, .null, .int (nI 0)]
theorem df_6 : ∀ j, j < 8 → defaultValue (tyX6 j) = vp_V bl6 j := by
  intro j hj
  match j, hj with
  | 0, _ => rfl
  | 1, _ => rfl
  | 2, _ => rfl
  | 3, _ => rfl
  | 4, _ => rfl
  | 5, _ => rfl
  | 6, _ => rfl
  | 7, _ => rfl
abbrev bl7 : List Value := [.null, .null, .null, .int (nI 0), .int (nI 0), .null, .null, .null, .int (nI 0), .int (nI 0), .int (nI 0), .int (nI 0), .int (nI 0), .int (nI 0), .int (nI 0), .null, .null, .int (nI 0), .null, .null, .int (nI 0), .null, .null, .null, .int (nI 0)]
theorem df_7 : ∀ j, j < 25 → defaultValue (tyX7 j) = vp_V bl7 j := by
  intro j hj
  match j, hj with
  | 0, _ => rfl
  | 1, _ => rfl
  | 2, _ => rfl
  | 3, _ => rfl
  | 4, _ => rfl
  | 5, _ => rfl
  | 6, _ => rfl
  | 7, _ => rfl
  | 8, _ => rfl
  | 9, _ => rfl
  | 10, _ => rfl
  | 11, _ => rfl
  | 12, _ => rfl
  | 13, _ => rfl
  | 14, _ => rfl
  | 15, _ => rfl
  | 16, _ => rfl
  | 17, _ => rfl
  | 18, _ => rfl
  | 19, _ => rfl
  | 20, _ => rfl
  | 21, _ => rfl
  | 22, _ => rfl
  | 23, _ => rfl
  | 24, _ => rfl
  | _ + 25, h => exact absurd h (by omega)
theorem nw_X4_9 : qnw RX4 9 5 10 bl5 := ⟨RX5, TX5, tyX5, rfl, iw_X5, tyX5_ok, cl_X4_9, im_X5, it_X5, df_5⟩
theorem nw_X1_9 : qnw RX1 9 5 10 bl5 := ⟨RX5, TX5, tyX5, rfl, iw_X5, tyX5_ok, cl_X1_9, im_X5, it_X5, df_5⟩
theorem nw_X3_18 : qnw RX3 18 5 10 bl5 := ⟨RX5, TX5, tyX5, rfl, iw_X5, tyX5_ok, cl_X3_18, im_X5, it_X5, df_5⟩
theorem nw_X6_15 : qnw RX6 15 4 9 bl4 := ⟨RX4, TX4, tyX4, rfl, iw_X4, tyX4_ok, cl_X6_15, im_X4, it_X4, df_4⟩
theorem nw_X6_22 : qnw RX6 22 5 10 bl5 := ⟨RX5, TX5, tyX5, rfl, iw_X5, tyX5_ok, cl_X6_22, im_X5, it_X5, df_5⟩
theorem nw_X6_29 : qnw RX6 29 1 3 bl1 := ⟨RX1, TX1, tyX1, rfl, iw_X1, tyX1_ok, cl_X6_29, im_X1, it_X1, df_1⟩
theorem nw_X6_40 : qnw RX6 40 3 4 bl3 := ⟨RX3, TX3, tyX3, rfl, iw_X3, tyX3_ok, cl_X6_40, im_X3, it_X3, df_3⟩
theorem nw_X6_47 : qnw RX6 47 0 2 bl0 := ⟨RX0, TX0, tyX0, rfl, iw_X0, tyX0_ok, cl_X6_47, im_X0, it_X0, df_0⟩
theorem nw_X6_9 : qnw RX6 9 2 3 bl2 := ⟨RX2, TX2, tyX2, rfl, iw_X2, tyX2_ok, cl_X6_9, im_X2, it_X2, df_2⟩
theorem nw_L_7 : qnw RL 7 6 8 bl6 := ⟨RX6, TX6, tyX6, rfl, iw_X6, tyX6_ok, cl_L_7, im_X6, it_X6, df_6⟩
theorem nw_L_10 : qnw RL 10 7 25 bl7 := ⟨RX7, TX7, tyX7, rfl, iw_X7, tyX7_ok, cl_L_10, im_X7, it_X7, df_7⟩
section
variable {l : Launch} {G : qG} {P T : List va_E} {a b : Nat}
theorem pa (hP : P.length = a) (j : Nat) : (P ++ T)[a + j]? = T[j]? := by
  rw [List.getElem?_append_right (by omega), hP, Nat.add_sub_cancel_left]
theorem pt (hP : P.length = a) (j : Nat) (e : va_E) : (P ++ T).set (a + j) e = P ++ T.set j e := by
  rw [List.set_append, if_neg (by omega), hP, Nat.add_sub_cancel_left]
theorem pl (hP : P.length = a) : (P ++ T).length = a + T.length := by rw [List.length_append, hP]
theorem pn {e : va_E} : P ++ e :: T ≠ [] := by
  intro h
  have := congrArg List.length h
  simp at this
abbrev y0 : Nat → Nat := fun _ => 0
theorem c_X5_init (hP : P.length = a) : Cti l G yX5_init 1 2 35 [qr G a] (P ++ [.inr (5, bl5)]) (P ++ [.inr (5, yf G (a) y0), yk G y0, ym G y0]) := by
  have ek : qI G 5 (fun _ => 0) = yk G y0 := congrArg (qI G 5) (tr_z 5).symm
  have em : qI G 30 (fun _ => 0) = ym G y0 := congrArg (qI G 30) (tr_z 30).symm
  refine cti_intro (maxL := 1) kw_X5_init (by decide) (by decide) [some (qr G a)] rfl (Nat.le_of_ble_eq_true rfl) ?_
  intro X hX hcl hsl hnm hsz C E
  have hz := hsz (by decide)
  rw [pl hP] at hz
  simp only [List.length_cons, List.length_nil] at hz
  refine y_aload_n C D_X5_init_0 rfl ?_
  refine y_obj C D_X5_init_1 oi_X5 (by decide) (Nat.le_of_ble_eq_true rfl) ?_
  refine y_aload_n C D_X5_init_4 rfl ?_
  refine y_iconst C D_X5_init_5 ki_5 ?_
  refine y_newi (a := a + 1) C D_X5_init_6 (by rw [pl hP]; simp only [List.length_cons, List.length_nil]; omega) (Or.inl pn) (by rw [pl hP]; rfl) (by decide) ⟨by rw [hcl]; decide, by rw [hsl]; decide⟩ ?_
  refine y_hp (show _ = P ++ [.inr (5, bl5), qI G 5 (fun _ => 0)] from List.append_assoc P [.inr (5, bl5)] [qI G 5 (fun _ => 0)]) ?_
  refine y_putF C D_X5_init_8 fl_X5_9 hnm rfl ((pa hP 0).trans rfl) (Nat.le_of_ble_eq_true rfl) rfl rfl (pt hP 0 _) ?_
  refine y_hp (show _ = P ++ [.inr (5, [.int (nI 0), .int (nI 0), .int (nI 0), .int (nI 0), .int (nI 0), .int (nI 0), .int (nI 0), .int (nI 0), qr G (a + 1), .null]), qI G 5 (fun _ => 0)] from rfl) ?_
  refine y_aload_n C D_X5_init_11 rfl ?_
  refine y_bipush C D_X5_init_12 kb_30 ?_
  refine y_newi (a := a + 2) C D_X5_init_14 (by rw [pl hP]; simp only [List.length_cons, List.length_nil]; omega) (Or.inl pn) (by rw [pl hP]; rfl) (by decide) ⟨by rw [hcl]; decide, by rw [hsl]; decide⟩ ?_
  refine y_hp (show _ = P ++ [.inr (5, [.int (nI 0), .int (nI 0), .int (nI 0), .int (nI 0), .int (nI 0), .int (nI 0), .int (nI 0), .int (nI 0), qr G (a + 1), .null]), qI G 5 (fun _ => 0), qI G 30 (fun _ => 0)] from List.append_assoc P [.inr (5, [.int (nI 0), .int (nI 0), .int (nI 0), .int (nI 0), .int (nI 0), .int (nI 0), .int (nI 0), .int (nI 0), qr G (a + 1), .null]), qI G 5 (fun _ => 0)] [qI G 30 (fun _ => 0)]) ?_
  refine y_putF C D_X5_init_16 fl_X5_15 hnm rfl ((pa hP 0).trans rfl) (Nat.le_of_ble_eq_true rfl) rfl rfl (pt hP 0 _) ?_
  refine y_hp (show _ = P ++ [.inr (5, [.int (nI 0), .int (nI 0), .int (nI 0), .int (nI 0), .int (nI 0), .int (nI 0), .int (nI 0), .int (nI 0), qr G (a + 1), qr G (a + 2)]), qI G 5 (fun _ => 0), qI G 30 (fun _ => 0)] from rfl) ?_
  rw [ek, em]
  exact y_vret C E D_X5_init_19 (rfl)
theorem c_X5_initA (hP : P.length = a) (hT : a + T.length = b) : Cti l G yX5_init 1 2 35 [qr G b] (P ++ (T ++ [.inr (5, bl5)])) (P ++ (T ++ [.inr (5, yf G (b) y0), yk G y0, ym G y0])) := by
  have z := c_X5_init (l := l) (G := G) (P := P ++ T) (a := b) (by rw [List.length_append]; omega)
  rw [List.append_assoc, List.append_assoc] at z
  exact z
theorem c_X0_init (hP : P.length = a) : Cti l G yX0_init 1 1 16 [qr G a] (P ++ [.inr (0, bl0)]) (P ++ [.inr (0, [.int (nI 0), qr G (a + 1)]), qI G 16 (fun _ => 0)]) := by
  refine cti_intro (maxL := 1) kw_X0_init (by decide) (by decide) [some (qr G a)] rfl (Nat.le_of_ble_eq_true rfl) ?_
  intro X hX hcl hsl hnm hsz C E
  have hz := hsz (by decide)
  rw [pl hP] at hz
  simp only [List.length_cons, List.length_nil] at hz
  refine y_aload_n C D_X0_init_0 rfl ?_
  refine y_obj C D_X0_init_1 oi_X0 (by decide) (Nat.le_of_ble_eq_true rfl) ?_
  refine y_aload_n C D_X0_init_4 rfl ?_
  refine y_bipush C D_X0_init_5 kb_16 ?_
  refine y_newi (a := a + 1) C D_X0_init_7 (by rw [pl hP]; simp only [List.length_cons, List.length_nil]; omega) (Or.inl pn) (by rw [pl hP]; rfl) (by decide) ⟨by rw [hcl]; decide, by rw [hsl]; decide⟩ ?_
  refine y_hp (show _ = P ++ [.inr (0, bl0), qI G 16 (fun _ => 0)] from List.append_assoc P [.inr (0, bl0)] [qI G 16 (fun _ => 0)]) ?_
  refine y_putF C D_X0_init_9 fl_X0_9 hnm rfl ((pa hP 0).trans rfl) (Nat.le_of_ble_eq_true rfl) rfl rfl (pt hP 0 _) ?_
  refine y_hp (show _ = P ++ [.inr (0, [.int (nI 0), qr G (a + 1)]), qI G 16 (fun _ => 0)] from rfl) ?_
  exact y_vret C E D_X0_init_12 (rfl)
theorem c_X2_init (hP : P.length = a) : Cti l G yX2_init 1 1 40 [qr G a] (P ++ [.inr (2, bl2)]) (P ++ [.inr (2, [.int (-1), .int (nI 0), qr G (a + 1)]), qI G 40 (fun _ => 0)]) := by
  refine cti_intro (maxL := 1) kw_X2_init (by decide) (by decide) [some (qr G a)] rfl (Nat.le_of_ble_eq_true rfl) ?_
  intro X hX hcl hsl hnm hsz C E
  have hz := hsz (by decide)
  rw [pl hP] at hz
  simp only [List.length_cons, List.length_nil] at hz
  refine y_aload_n C D_X2_init_0 rfl ?_
  refine y_obj C D_X2_init_1 oi_X2 (by decide) (Nat.le_of_ble_eq_true rfl) ?_
  refine y_aload_n C D_X2_init_4 rfl ?_
  refine y_iconst C D_X2_init_5 ki_m1 ?_
  refine y_put C D_X2_init_6 fl_X2_9 ((pa hP 0).trans rfl) (Nat.le_of_ble_eq_true rfl) rfl rfl (pt hP 0 _) ?_
  refine y_hp (show _ = P ++ [.inr (2, [.int (-1), .int (nI 0), .null])] from rfl) ?_
  refine y_aload_n C D_X2_init_9 rfl ?_
  refine y_bipush C D_X2_init_10 kb_40 ?_
  refine y_newi (a := a + 1) C D_X2_init_12 (by rw [pl hP]; simp only [List.length_cons, List.length_nil]; omega) (Or.inl pn) (by rw [pl hP]; rfl) (by decide) ⟨by rw [hcl]; decide, by rw [hsl]; decide⟩ ?_
  refine y_hp (show _ = P ++ [.inr (2, [.int (-1), .int (nI 0), .null]), qI G 40 (fun _ => 0)] from List.append_assoc P [.inr (2, [.int (-1), .int (nI 0), .null])] [qI G 40 (fun _ => 0)]) ?_
  refine y_putF C D_X2_init_14 fl_X2_15 hnm rfl ((pa hP 0).trans rfl) (Nat.le_of_ble_eq_true rfl) rfl rfl (pt hP 0 _) ?_
  refine y_hp (show _ = P ++ [.inr (2, [.int (-1), .int (nI 0), qr G (a + 1)]), qI G 40 (fun _ => 0)] from rfl) ?_
  exact y_vret C E D_X2_init_17 (rfl)
theorem c_X4_init (hP : P.length = a) : Cti l G yX4_init 2 4 165 [qr G a] (P ++ [.inr (4, bl4)]) (P ++ [.inr (4, [qr G (a + 1), .int (nI 0), .int (nI 0), qr G (a + 4), .int (nI 0), .int (nI 0), .int (nI 0), .int (nI 0), .int (nI 0)]), .inr (5, yf G (a + 1) y0), yk G y0, ym G y0, qI G 120 (fun _ => 0)]) := by
  refine cti_intro (maxL := 1) kw_X4_init (by decide) (by decide) [some (qr G a)] rfl (Nat.le_of_ble_eq_true rfl) ?_
  intro X hX hcl hsl hnm hsz C E
  have hz := hsz (by decide)
  rw [pl hP] at hz
  simp only [List.length_cons, List.length_nil] at hz
  subst hX
  refine y_aload_n C D_X4_init_0 rfl ?_
  refine y_obj C D_X4_init_1 oi_X4 (by decide) (Nat.le_of_ble_eq_true rfl) ?_
  refine y_aload_n C D_X4_init_4 rfl ?_
  refine y_new (a := a + 1) C D_X4_init_5 nw_X4_9 (by rw [pl hP]; simp only [List.length_cons, List.length_nil]; omega) (Or.inl pn) (by rw [pl hP]; rfl) ⟨by rw [hcl]; decide, by rw [hsl]; decide⟩ ?_
  refine y_hp (show _ = P ++ [.inr (4, bl4), .inr (5, bl5)] from List.append_assoc P [.inr (4, bl4)] [.inr (5, bl5)]) ?_
  refine y_dup C D_X4_init_8 rfl ?_
  refine y_callIN C D_X4_init_9 lk_X4_11 (c_X5_initA (T := [.inr (4, bl4)]) (b := a + 1) hP rfl) rfl rfl (Nat.le_of_ble_eq_true rfl) (Nat.le_of_ble_eq_true rfl) ⟨by rw [hcl]; decide, by rw [hsl]; decide⟩ (by rw [pl hP]; simp only [List.length_cons, List.length_nil]; omega) pn ?_
  refine y_hp (show _ = P ++ [.inr (4, bl4), .inr (5, yf G (a + 1) y0), yk G y0, ym G y0] from rfl) ?_
  refine y_putF C D_X4_init_12 fl_X4_12 hnm rfl ((pa hP 0).trans rfl) (Nat.le_of_ble_eq_true rfl) rfl rfl (pt hP 0 _) ?_
  refine y_hp (show _ = P ++ [.inr (4, [qr G (a + 1), .int (nI 0), .int (nI 0), .null, .int (nI 0), .int (nI 0), .int (nI 0), .int (nI 0), .int (nI 0)]), .inr (5, yf G (a + 1) y0), yk G y0, ym G y0] from rfl) ?_
  refine y_aload_n C D_X4_init_15 rfl ?_
  refine y_bipush C D_X4_init_16 kb_120 ?_
  refine y_newi (a := a + 4) C D_X4_init_18 (by rw [pl hP]; simp only [List.length_cons, List.length_nil]; omega) (Or.inl pn) (by rw [pl hP]; rfl) (by decide) ⟨by rw [hcl]; decide, by rw [hsl]; decide⟩ ?_
  refine y_hp (show _ = P ++ [.inr (4, [qr G (a + 1), .int (nI 0), .int (nI 0), .null, .int (nI 0), .int (nI 0), .int (nI 0), .int (nI 0), .int (nI 0)]), .inr (5, yf G (a + 1) y0), yk G y0, ym G y0, qI G 120 (fun _ => 0)] from List.append_assoc P [.inr (4, [qr G (a + 1), .int (nI 0), .int (nI 0), .null, .int (nI 0), .int (nI 0), .int (nI 0), .int (nI 0), .int (nI 0)]), .inr (5, yf G (a + 1) y0), yk G y0, ym G y0] [qI G 120 (fun _ => 0)]) ?_
  refine y_putF C D_X4_init_20 fl_X4_18 hnm rfl ((pa hP 0).trans rfl) (Nat.le_of_ble_eq_true rfl) rfl rfl (pt hP 0 _) ?_
  refine y_hp (show _ = P ++ [.inr (4, [qr G (a + 1), .int (nI 0), .int (nI 0), qr G (a + 4), .int (nI 0), .int (nI 0), .int (nI 0), .int (nI 0), .int (nI 0)]), .inr (5, yf G (a + 1) y0), yk G y0, ym G y0, qI G 120 (fun _ => 0)] from rfl) ?_
  exact y_vret C E D_X4_init_23 (rfl)
def Ys (G : qG) (b : Nat) : Nat → List va_E
  | 0 => []
  | k + 1 => Ys G b k ++ [.inr (5, yf G (b + 3 * k) y0), yk G y0, ym G y0]
theorem Ys_len {b : Nat} : ∀ k, (Ys G b k).length = 3 * k
  | 0 => rfl
  | k + 1 => by
    unfold Ys
    rw [List.length_append, Ys_len k]
    rfl
theorem Ys_at {b n : Nat} : ∀ k, k < n → (Ys G b n)[3 * k]? = some (.inr (5, yf G (b + 3 * k) y0)) ∧ (Ys G b n)[3 * k + 1]? = some (yk G y0) ∧ (Ys G b n)[3 * k + 2]? = some (ym G y0) := by
  induction n with
  | zero => intro k hk; omega
  | succ n ih =>
    intro k hk
    have hl := Ys_len (G := G) (b := b) n
    unfold Ys
    by_cases c : k < n
    · rw [List.getElem?_append_left (by omega), List.getElem?_append_left (by omega), List.getElem?_append_left (by omega)]
      exact ih k c
    · obtain rfl : k = n := by omega
      rw [List.getElem?_append_right (by omega), List.getElem?_append_right (by omega), List.getElem?_append_right (by omega), hl, Nat.sub_self, Nat.add_sub_cancel_left, Nat.add_sub_cancel_left]
      exact ⟨rfl, rfl, rfl⟩
def rfF (G : qG) (b s k : Nat) : Nat → Option Nat := fun j => if j < k then some (G.2 4 + (b + s * j)) else none
theorem rfF_0 {b s : Nat} : (fun _ => none) = rfF G b s 0 := by
  funext j
  unfold rfF
  rw [if_neg (by omega)]
theorem rfF_s {b s k c : Nat} (hc : c = b + s * k) : va_up (rfF G b s k) k (some (G.2 4 + c)) = rfF G b s (k + 1) := by
  subst hc
  funext j
  unfold va_up rfF
  by_cases e : j = k
  · subst e
    rw [if_pos rfl, if_pos (by omega)]
  · rw [if_neg e]
    by_cases c : j < k
    · rw [if_pos c, if_pos (by omega)]
    · rw [if_neg c, if_neg (by omega)]
theorem lp_X1_init {X : qX} (hP : P.length = a) (hcl : X.2.2.2.1.cells = 73) (hsl : X.2.2.2.1.slots = 1104) (hz : X.2.2.2.2.1.heap.size = G.2 4 + (a + 1)) (C : qC X G cX1_init 2 RX1 2) (E : qE X G none 73 1104 none (P ++ (.inr (1, [.int (nI 0), .int (nI 0), qr G (a + 1)]) :: qY G 24 (rfF G (a + 2) 3 24) :: Ys G (a + 2) 24))) : ∀ (m k : Nat), k + m = 24 → Y X G 2 (1 + 3 * k) (24 + 45 * k) 15 [some (qr G a), some (.int (nI k))] [] (P ++ (.inr (1, [.int (nI 0), .int (nI 0), qr G (a + 1)]) :: qY G 24 (rfF G (a + 2) 3 k) :: Ys G (a + 2) k)) := by
  intro m
  induction m with
  | zero =>
    intro k hk
    obtain rfl : k = 24 := by omega
    refine y_iload_n C D_X1_init_15 rfl ?_
    refine y_bipush C D_X1_init_16 kb_24 ?_
    refine y_icmp_ge C D_X1_init_18 (n_le (by omega) (by omega)) (fun c_0 => ?_) (fun c_0 => absurd (Nat.le_refl _) c_0)
    exact y_vret C E D_X1_init_40 (rfl)
  | succ m ih =>
    intro k hk
    have hYl := Ys_len (G := G) (b := a + 2) k
    have zz := ih (k + 1) (by omega)
    refine y_iload_n C D_X1_init_15 rfl ?_
    refine y_bipush C D_X1_init_16 kb_24 ?_
    refine y_icmp_ge C D_X1_init_18 (n_le (by omega) (by omega)) (fun c_0 => absurd c_0 (by omega)) (fun c_0 => ?_)
    refine y_aload_n C D_X1_init_21 rfl ?_
    refine y_get C D_X1_init_22 fl_X1_11 ((pa hP 0).trans rfl) rfl ?_
    refine y_iload_n C D_X1_init_25 rfl ?_
    refine y_new (a := a + 2 + 3 * k) C D_X1_init_26 nw_X1_9 (by rw [pl hP]; simp only [List.length_cons, Ys_len]; omega) (Or.inl pn) (by rw [pl hP]; simp only [List.length_cons, Ys_len]; omega) ⟨by rw [hcl]; omega, by rw [hsl]; omega⟩ ?_
    refine y_hp (List.append_assoc P (.inr (1, [.int (nI 0), .int (nI 0), qr G (a + 1)]) :: qY G 24 (rfF G (a + 2) 3 k) :: Ys G (a + 2) k) [.inr (5, bl5)]) ?_
    refine y_dup C D_X1_init_29 rfl ?_
    refine y_callIN C D_X1_init_30 lk_X1_17 (c_X5_initA (T := (.inr (1, [.int (nI 0), .int (nI 0), qr G (a + 1)]) :: qY G 24 (rfF G (a + 2) 3 k) :: Ys G (a + 2) k)) (b := a + 2 + 3 * k) hP (by simp only [List.length_cons, Ys_len]; omega)) rfl rfl (Nat.le_of_ble_eq_true rfl) (Nat.le_of_ble_eq_true rfl) ⟨by rw [hcl]; omega, by rw [hsl]; omega⟩ (by rw [pl hP, List.length_append]; simp only [List.length_cons, List.length_nil, Ys_len]; omega) pn ?_
    have ev : (P ++ ((.inr (1, [.int (nI 0), .int (nI 0), qr G (a + 1)]) :: qY G 24 (rfF G (a + 2) 3 k) :: Ys G (a + 2) k) ++ [.inr (5, yf G (a + 2 + 3 * k) y0), yk G y0, ym G y0]))[a + 2 + 3 * k]? = some (.inr (5, yf G (a + 2 + 3 * k) y0)) := by
      rw [show a + 2 + 3 * k = a + (2 + 3 * k) by omega, pa hP, List.getElem?_append_right (by simp only [List.length_cons, Ys_len]; omega)]
      rw [show 2 + 3 * k - ((.inr (1, [.int (nI 0), .int (nI 0), qr G (a + 1)]) :: qY G 24 (rfF G (a + 2) 3 k) :: Ys G (a + 2) k)).length = 0 by simp only [List.length_cons, Ys_len]; omega]
      rfl
    refine y_ast (t0 := 3) C D_X1_init_33 ((pa hP 1).trans rfl) rfl ev rfl (vp_in_nI (by omega) (by decide)) (pt hP 1 _) ?_
    rw [nI_clamp (by omega), rfF_s (by omega)]
    refine z_iinc (n := 1) C D_X1_init_34 rfl (by decide) (qok_s rfl rfl) ?_
    refine y_goto C D_X1_init_37 ?_
    exact zz
theorem c_X1_init (hP : P.length = a) : Cti l G yX1_init 2 73 1104 [qr G a] (P ++ [.inr (1, bl1)]) (P ++ (.inr (1, [.int (nI 0), .int (nI 0), qr G (a + 1)]) :: qY G 24 (rfF G (a + 2) 3 24) :: Ys G (a + 2) 24)) := by
  refine cti_intro (maxL := 2) kw_X1_init (by decide) (by decide) [some (qr G a), none] rfl (Nat.le_of_ble_eq_true rfl) ?_
  intro X hX hcl hsl hnm hsz C E
  have hz := hsz (by decide)
  rw [pl hP] at hz
  simp only [List.length_cons, List.length_nil] at hz
  refine y_aload_n C D_X1_init_0 rfl ?_
  refine y_obj C D_X1_init_1 oi_X1 (by decide) (Nat.le_of_ble_eq_true rfl) ?_
  refine y_aload_n C D_X1_init_4 rfl ?_
  refine y_bipush C D_X1_init_5 kb_24 ?_
  refine y_anew (t0 := 3) (a := a + 1) C D_X1_init_7 cl_X1_9 C.2.2.2.2.2.2.2.1.2.2.2.1 rfl (by rw [pl hP]; simp only [List.length_cons, List.length_nil]; omega) (Or.inl pn) (by rw [pl hP]; rfl) (by decide) ⟨by rw [hcl]; decide, by rw [hsl]; decide⟩ ?_
  refine y_hp (show _ = P ++ [.inr (1, bl1), .inl (G.2 3, 24, .inr (.inr (.inr (.inr (fun _ => none)))))] from List.append_assoc P [.inr (1, bl1)] [.inl (G.2 3, 24, .inr (.inr (.inr (.inr (fun _ => none)))))]) ?_
  refine y_putF C D_X1_init_10 fl_X1_11 hnm rfl ((pa hP 0).trans rfl) (Nat.le_of_ble_eq_true rfl) rfl rfl (pt hP 0 _) ?_
  refine y_hp (show _ = P ++ [.inr (1, [.int (nI 0), .int (nI 0), qr G (a + 1)]), .inl (G.2 3, 24, .inr (.inr (.inr (.inr (fun _ => none)))))] from rfl) ?_
  refine y_iconst C D_X1_init_13 ki_0 ?_
  refine y_istore_n C D_X1_init_14 (by decide) (qok_s rfl rfl) ?_
  rw [rfF_0 (G := G) (b := a + 2) (s := 3)]
  exact lp_X1_init hP hcl hsl hz C E 24 0 rfl
theorem lp_X3_init {X : qX} (hP : P.length = a) (hcl : X.2.2.2.1.cells = 12) (hsl : X.2.2.2.1.slots = 144) (hz : X.2.2.2.2.1.heap.size = G.2 4 + (a + 1)) (C : qC X G cX3_init 2 RX3 2) (E : qE X G none 12 144 none (P ++ (.inr (3, [.int (nI 0), qr G (a + 1), qr G (a + 2), qr G (a + 3)]) :: qI G 3 (fun _ => 0) :: qI G 3 (fun _ => 0) :: qY G 3 (rfF G (a + 4) 3 3) :: Ys G (a + 4) 3))) : ∀ (m k : Nat), k + m = 3 → Y X G 2 (3 + 3 * k) (9 + 45 * k) 28 [some (qr G a), some (.int (nI k))] [] (P ++ (.inr (3, [.int (nI 0), qr G (a + 1), qr G (a + 2), qr G (a + 3)]) :: qI G 3 (fun _ => 0) :: qI G 3 (fun _ => 0) :: qY G 3 (rfF G (a + 4) 3 k) :: Ys G (a + 4) k)) := by
  intro m
  induction m with
  | zero =>
    intro k hk
    obtain rfl : k = 3 := by omega
    refine y_iload_n C D_X3_init_28 rfl ?_
    refine y_iconst C D_X3_init_29 ki_3 ?_
    refine y_icmp_ge C D_X3_init_30 (n_le (by omega) (by omega)) (fun c_0 => ?_) (fun c_0 => absurd (Nat.le_refl _) c_0)
    exact y_vret C E D_X3_init_52 (rfl)
  | succ m ih =>
    intro k hk
    have hYl := Ys_len (G := G) (b := a + 4) k
    have zz := ih (k + 1) (by omega)
    refine y_iload_n C D_X3_init_28 rfl ?_
    refine y_iconst C D_X3_init_29 ki_3 ?_
    refine y_icmp_ge C D_X3_init_30 (n_le (by omega) (by omega)) (fun c_0 => absurd c_0 (by omega)) (fun c_0 => ?_)
    refine y_aload_n C D_X3_init_33 rfl ?_
    refine y_get C D_X3_init_34 fl_X3_20 ((pa hP 0).trans rfl) rfl ?_
    refine y_iload_n C D_X3_init_37 rfl ?_
    refine y_new (a := a + 4 + 3 * k) C D_X3_init_38 nw_X3_18 (by rw [pl hP]; simp only [List.length_cons, Ys_len]; omega) (Or.inl pn) (by rw [pl hP]; simp only [List.length_cons, Ys_len]; omega) ⟨by rw [hcl]; omega, by rw [hsl]; omega⟩ ?_
    refine y_hp (List.append_assoc P (.inr (3, [.int (nI 0), qr G (a + 1), qr G (a + 2), qr G (a + 3)]) :: qI G 3 (fun _ => 0) :: qI G 3 (fun _ => 0) :: qY G 3 (rfF G (a + 4) 3 k) :: Ys G (a + 4) k) [.inr (5, bl5)]) ?_
    refine y_dup C D_X3_init_41 rfl ?_
    refine y_callIN C D_X3_init_42 lk_X3_24 (c_X5_initA (T := (.inr (3, [.int (nI 0), qr G (a + 1), qr G (a + 2), qr G (a + 3)]) :: qI G 3 (fun _ => 0) :: qI G 3 (fun _ => 0) :: qY G 3 (rfF G (a + 4) 3 k) :: Ys G (a + 4) k)) (b := a + 4 + 3 * k) hP (by simp only [List.length_cons, Ys_len]; omega)) rfl rfl (Nat.le_of_ble_eq_true rfl) (Nat.le_of_ble_eq_true rfl) ⟨by rw [hcl]; omega, by rw [hsl]; omega⟩ (by rw [pl hP, List.length_append]; simp only [List.length_cons, List.length_nil, Ys_len]; omega) pn ?_
    have ev : (P ++ ((.inr (3, [.int (nI 0), qr G (a + 1), qr G (a + 2), qr G (a + 3)]) :: qI G 3 (fun _ => 0) :: qI G 3 (fun _ => 0) :: qY G 3 (rfF G (a + 4) 3 k) :: Ys G (a + 4) k) ++ [.inr (5, yf G (a + 4 + 3 * k) y0), yk G y0, ym G y0]))[a + 4 + 3 * k]? = some (.inr (5, yf G (a + 4 + 3 * k) y0)) := by
      rw [show a + 4 + 3 * k = a + (4 + 3 * k) by omega, pa hP, List.getElem?_append_right (by simp only [List.length_cons, Ys_len]; omega)]
      rw [show 4 + 3 * k - ((.inr (3, [.int (nI 0), qr G (a + 1), qr G (a + 2), qr G (a + 3)]) :: qI G 3 (fun _ => 0) :: qI G 3 (fun _ => 0) :: qY G 3 (rfF G (a + 4) 3 k) :: Ys G (a + 4) k)).length = 0 by simp only [List.length_cons, Ys_len]; omega]
      rfl
    refine y_ast (t0 := 3) C D_X3_init_45 ((pa hP 3).trans rfl) rfl ev rfl (vp_in_nI (by omega) (by decide)) (pt hP 3 _) ?_
    rw [nI_clamp (by omega), rfF_s (by omega)]
    refine z_iinc (n := 1) C D_X3_init_46 rfl (by decide) (qok_s rfl rfl) ?_
    refine y_goto C D_X3_init_49 ?_
    exact zz
theorem c_X3_init (hP : P.length = a) : Cti l G yX3_init 2 12 144 [qr G a] (P ++ [.inr (3, bl3)]) (P ++ (.inr (3, [.int (nI 0), qr G (a + 1), qr G (a + 2), qr G (a + 3)]) :: qI G 3 (fun _ => 0) :: qI G 3 (fun _ => 0) :: qY G 3 (rfF G (a + 4) 3 3) :: Ys G (a + 4) 3)) := by
  refine cti_intro (maxL := 2) kw_X3_init (by decide) (by decide) [some (qr G a), none] rfl (Nat.le_of_ble_eq_true rfl) ?_
  intro X hX hcl hsl hnm hsz C E
  have hz := hsz (by decide)
  rw [pl hP] at hz
  simp only [List.length_cons, List.length_nil] at hz
  refine y_aload_n C D_X3_init_0 rfl ?_
  refine y_obj C D_X3_init_1 oi_X3 (by decide) (Nat.le_of_ble_eq_true rfl) ?_
  refine y_aload_n C D_X3_init_4 rfl ?_
  refine y_iconst C D_X3_init_5 ki_3 ?_
  refine y_newi (a := a + 1) C D_X3_init_6 (by rw [pl hP]; simp only [List.length_cons, List.length_nil]; omega) (Or.inl pn) (by rw [pl hP]; rfl) (by decide) ⟨by rw [hcl]; decide, by rw [hsl]; decide⟩ ?_
  refine y_hp (show _ = P ++ [.inr (3, bl3), qI G 3 (fun _ => 0)] from List.append_assoc P [.inr (3, bl3)] [qI G 3 (fun _ => 0)]) ?_
  refine y_putF C D_X3_init_8 fl_X3_9 hnm rfl ((pa hP 0).trans rfl) (Nat.le_of_ble_eq_true rfl) rfl rfl (pt hP 0 _) ?_
  refine y_hp (show _ = P ++ [.inr (3, [.int (nI 0), qr G (a + 1), .null, .null]), qI G 3 (fun _ => 0)] from rfl) ?_
  refine y_aload_n C D_X3_init_11 rfl ?_
  refine y_iconst C D_X3_init_12 ki_3 ?_
  refine y_newi (a := a + 2) C D_X3_init_13 (by rw [pl hP]; simp only [List.length_cons, List.length_nil]; omega) (Or.inl pn) (by rw [pl hP]; rfl) (by decide) ⟨by rw [hcl]; decide, by rw [hsl]; decide⟩ ?_
  refine y_hp (show _ = P ++ [.inr (3, [.int (nI 0), qr G (a + 1), .null, .null]), qI G 3 (fun _ => 0), qI G 3 (fun _ => 0)] from List.append_assoc P [.inr (3, [.int (nI 0), qr G (a + 1), .null, .null]), qI G 3 (fun _ => 0)] [qI G 3 (fun _ => 0)]) ?_
  refine y_putF C D_X3_init_15 fl_X3_15 hnm rfl ((pa hP 0).trans rfl) (Nat.le_of_ble_eq_true rfl) rfl rfl (pt hP 0 _) ?_
  refine y_hp (show _ = P ++ [.inr (3, [.int (nI 0), qr G (a + 1), qr G (a + 2), .null]), qI G 3 (fun _ => 0), qI G 3 (fun _ => 0)] from rfl) ?_
  refine y_aload_n C D_X3_init_18 rfl ?_
  refine y_iconst C D_X3_init_19 ki_3 ?_
  refine y_anew (t0 := 3) (a := a + 3) C D_X3_init_20 cl_X3_18 C.2.2.2.2.2.2.2.1.2.2.2.1 rfl (by rw [pl hP]; simp only [List.length_cons, List.length_nil]; omega) (Or.inl pn) (by rw [pl hP]; rfl) (by decide) ⟨by rw [hcl]; decide, by rw [hsl]; decide⟩ ?_
  refine y_hp (show _ = P ++ [.inr (3, [.int (nI 0), qr G (a + 1), qr G (a + 2), .null]), qI G 3 (fun _ => 0), qI G 3 (fun _ => 0), .inl (G.2 3, 3, .inr (.inr (.inr (.inr (fun _ => none)))))] from List.append_assoc P [.inr (3, [.int (nI 0), qr G (a + 1), qr G (a + 2), .null]), qI G 3 (fun _ => 0), qI G 3 (fun _ => 0)] [.inl (G.2 3, 3, .inr (.inr (.inr (.inr (fun _ => none)))))]) ?_
  refine y_putF C D_X3_init_23 fl_X3_20 hnm rfl ((pa hP 0).trans rfl) (Nat.le_of_ble_eq_true rfl) rfl rfl (pt hP 0 _) ?_
  refine y_hp (show _ = P ++ [.inr (3, [.int (nI 0), qr G (a + 1), qr G (a + 2), qr G (a + 3)]), qI G 3 (fun _ => 0), qI G 3 (fun _ => 0), .inl (G.2 3, 3, .inr (.inr (.inr (.inr (fun _ => none)))))] from rfl) ?_
  refine y_iconst C D_X3_init_26 ki_0 ?_
  refine y_istore_n C D_X3_init_27 (by decide) (qok_s rfl rfl) ?_
  rw [rfF_0 (G := G) (b := a + 4) (s := 3)]
  exact lp_X3_init hP hcl hsl hz C E 3 0 rfl
end
