def szF (k : Nat) : Nat → Int32 := fun j => if j < k then -1 else 0
theorem szF_0 : (fun _ => (0 : Int32)) = szF 0 := by
  funext j
  unfold szF
  rw [if_neg (by omega)]
theorem szF_s (k : Nat) : upd (szF k) k (-1) = szF (k + 1) := by
  funext j
  unfold upd szF
  by_cases e : j = k
  · rw [if_pos e, if_pos (by omega)]
  · rw [if_neg e]
    by_cases c : j < k
    · rw [if_pos c, if_pos (by omega)]
    · rw [if_neg c, if_neg (by omega)]
abbrev i00 : Nat → Nat := fun _ => 0
abbrev A00 : Nat → Nat → Nat := fun _ _ => 0
def B00 (k : Nat) : Nat → Nat → Int32 := fun s => if s = 1 then szF k else fun _ => 0
section
variable {l : Launch} {G : qG} {P : List va_E}
theorem lp_X7_init {X : qX} (hP : P.length = 122) (C : qC X G cX7_init 2 RX7 1) (E : qE X G none 13 1996 none (hm G P i00 A00 (B00 8))) : ∀ (m k : Nat), k + m = 8 → Y X G 2 13 1996 110 [some (qr G 122), some (.int (nI k))] [] (hm G P i00 A00 (B00 k)) := by
  intro m
  induction m with
  | zero =>
    intro k hk
    obtain rfl : k = 8 := by omega
    refine y_iload_n C D_X7_init_110 rfl ?_
    refine y_bipush C D_X7_init_111 kb_8 ?_
    refine y_icmp_ge C D_X7_init_113 (n_le (by omega) (by omega)) (fun c_0 => ?_) (fun c_0 => absurd (Nat.le_refl _) c_0)
    exact y_vret C E D_X7_init_129 (rfl)
  | succ m ih =>
    intro k hk
    have zz := ih (k + 1) (by omega)
    have eB : va_up (B00 k) 1 (upd (B00 k 1) k (-1)) = B00 (k + 1) := by
      funext s
      unfold va_up
      by_cases c : s = 1
      · rw [if_pos c, c]
        exact szF_s k
      · rw [if_neg c]
        unfold B00
        rw [if_neg c, if_neg c]
    refine y_iload_n C D_X7_init_110 rfl ?_
    refine y_bipush C D_X7_init_111 kb_8 ?_
    refine y_icmp_ge C D_X7_init_113 (n_le (by omega) (by omega)) (fun c_0 => absurd c_0 (by omega)) (fun c_0 => ?_)
    refine y_aload_n C D_X7_init_116 rfl ?_
    refine y_get C D_X7_init_117 fl_X7_13 (hm_o hP) rfl ?_
    refine y_iload_n C D_X7_init_120 rfl ?_
    refine y_iconst C D_X7_init_121 ki_m1 ?_
    refine z_ist C D_X7_init_122 (hm_sizes hP) (by omega) (by decide) (hm_wsizes hP _ _) ?_
    rw [eB]
    refine z_iinc (n := 1) C D_X7_init_123 rfl (by decide) (qok_s rfl rfl) ?_
    refine y_goto C D_X7_init_126 ?_
    exact zz
theorem c_X7_init (hP : P.length = 122) : Cti l G yX7_init 1 13 1996 [qr G 122] (P ++ [.inr (7, bl7)]) (hm G P i00 A00 (B00 8)) := by
  refine cti_intro (maxL := 2) kw_X7_init (by decide) (by decide) [some (qr G 122), none] rfl (Nat.le_of_ble_eq_true rfl) ?_
  intro X hX hcl hsl hnm hsz C E
  have hz := hsz (by decide)
  rw [pl hP] at hz
  simp only [List.length_cons, List.length_nil] at hz
  refine y_aload_n C D_X7_init_0 rfl ?_
  refine y_obj C D_X7_init_1 oi_X7 (by decide) (Nat.le_of_ble_eq_true rfl) ?_
  refine y_aload_n C D_X7_init_4 rfl ?_
  refine y_bipush C D_X7_init_5 kb_8 ?_
  refine y_newi (a := 122 + 1) C D_X7_init_7 (by rw [pl hP]; simp only [List.length_cons, List.length_nil]; omega) (Or.inl pn) (by rw [pl hP]; rfl) (by decide) ⟨by rw [hcl]; decide, by rw [hsl]; decide⟩ ?_
  refine y_hp (show _ = P ++ [.inr (7, bl7), qI G 8 (fun _ => 0)] from List.append_assoc P [.inr (7, bl7)] [qI G 8 (fun _ => 0)]) ?_
  refine y_putF C D_X7_init_9 fl_X7_7 hnm rfl ((pa hP 0).trans rfl) (Nat.le_of_ble_eq_true rfl) rfl rfl (pt hP 0 _) ?_
  refine y_hp (show _ = P ++ [.inr (7, [qr G (122 + 1), .null, .null, .int (nI 0), .int (nI 0), .null, .null, .null, .int (nI 0), .int (nI 0), .int (nI 0), .int (nI 0), .int (nI 0), .int (nI 0), .int (nI 0), .null, .null, .int (nI 0), .null, .null, .int (nI 0), .null, .null, .null, .int (nI 0)]), qI G 8 (fun _ => 0)] from rfl) ?_
  refine y_aload_n C D_X7_init_12 rfl ?_
  refine y_bipush C D_X7_init_13 kb_8 ?_
  refine y_newi (a := 122 + 2) C D_X7_init_15 (by rw [pl hP]; simp only [List.length_cons, List.length_nil]; omega) (Or.inl pn) (by rw [pl hP]; rfl) (by decide) ⟨by rw [hcl]; decide, by rw [hsl]; decide⟩ ?_
  refine y_hp (show _ = P ++ [.inr (7, [qr G (122 + 1), .null, .null, .int (nI 0), .int (nI 0), .null, .null, .null, .int (nI 0), .int (nI 0), .int (nI 0), .int (nI 0), .int (nI 0), .int (nI 0), .int (nI 0), .null, .null, .int (nI 0), .null, .null, .int (nI 0), .null, .null, .null, .int (nI 0)]), qI G 8 (fun _ => 0), qI G 8 (fun _ => 0)] from List.append_assoc P [.inr (7, [qr G (122 + 1), .null, .null, .int (nI 0), .int (nI 0), .null, .null, .null, .int (nI 0), .int (nI 0), .int (nI 0), .int (nI 0), .int (nI 0), .int (nI 0), .int (nI 0), .null, .null, .int (nI 0), .null, .null, .int (nI 0), .null, .null, .null, .int (nI 0)]), qI G 8 (fun _ => 0)] [qI G 8 (fun _ => 0)]) ?_
  refine y_putF C D_X7_init_17 fl_X7_13 hnm rfl ((pa hP 0).trans rfl) (Nat.le_of_ble_eq_true rfl) rfl rfl (pt hP 0 _) ?_
  refine y_hp (show _ = P ++ [.inr (7, [qr G (122 + 1), qr G (122 + 2), .null, .int (nI 0), .int (nI 0), .null, .null, .null, .int (nI 0), .int (nI 0), .int (nI 0), .int (nI 0), .int (nI 0), .int (nI 0), .int (nI 0), .null, .null, .int (nI 0), .null, .null, .int (nI 0), .null, .null, .null, .int (nI 0)]), qI G 8 (fun _ => 0), qI G 8 (fun _ => 0)] from rfl) ?_
  refine y_aload_n C D_X7_init_20 rfl ?_
  refine y_sipush C D_X7_init_21 kn_320 ?_
  refine y_newi (a := 122 + 3) C D_X7_init_24 (by rw [pl hP]; simp only [List.length_cons, List.length_nil]; omega) (Or.inl pn) (by rw [pl hP]; rfl) (by decide) ⟨by rw [hcl]; decide, by rw [hsl]; decide⟩ ?_
  refine y_hp (show _ = P ++ [.inr (7, [qr G (122 + 1), qr G (122 + 2), .null, .int (nI 0), .int (nI 0), .null, .null, .null, .int (nI 0), .int (nI 0), .int (nI 0), .int (nI 0), .int (nI 0), .int (nI 0), .int (nI 0), .null, .null, .int (nI 0), .null, .null, .int (nI 0), .null, .null, .null, .int (nI 0)]), qI G 8 (fun _ => 0), qI G 8 (fun _ => 0), qI G 320 (fun _ => 0)] from List.append_assoc P [.inr (7, [qr G (122 + 1), qr G (122 + 2), .null, .int (nI 0), .int (nI 0), .null, .null, .null, .int (nI 0), .int (nI 0), .int (nI 0), .int (nI 0), .int (nI 0), .int (nI 0), .int (nI 0), .null, .null, .int (nI 0), .null, .null, .int (nI 0), .null, .null, .null, .int (nI 0)]), qI G 8 (fun _ => 0), qI G 8 (fun _ => 0)] [qI G 320 (fun _ => 0)]) ?_
  refine y_putF C D_X7_init_26 fl_X7_16 hnm rfl ((pa hP 0).trans rfl) (Nat.le_of_ble_eq_true rfl) rfl rfl (pt hP 0 _) ?_
  refine y_hp (show _ = P ++ [.inr (7, [qr G (122 + 1), qr G (122 + 2), qr G (122 + 3), .int (nI 0), .int (nI 0), .null, .null, .null, .int (nI 0), .int (nI 0), .int (nI 0), .int (nI 0), .int (nI 0), .int (nI 0), .int (nI 0), .null, .null, .int (nI 0), .null, .null, .int (nI 0), .null, .null, .null, .int (nI 0)]), qI G 8 (fun _ => 0), qI G 8 (fun _ => 0), qI G 320 (fun _ => 0)] from rfl) ?_
  refine y_aload_n C D_X7_init_29 rfl ?_
  refine y_bipush C D_X7_init_30 kb_51 ?_
  refine y_newi (a := 122 + 4) C D_X7_init_32 (by rw [pl hP]; simp only [List.length_cons, List.length_nil]; omega) (Or.inl pn) (by rw [pl hP]; rfl) (by decide) ⟨by rw [hcl]; decide, by rw [hsl]; decide⟩ ?_
  refine y_hp (show _ = P ++ [.inr (7, [qr G (122 + 1), qr G (122 + 2), qr G (122 + 3), .int (nI 0), .int (nI 0), .null, .null, .null, .int (nI 0), .int (nI 0), .int (nI 0), .int (nI 0), .int (nI 0), .int (nI 0), .int (nI 0), .null, .null, .int (nI 0), .null, .null, .int (nI 0), .null, .null, .null, .int (nI 0)]), qI G 8 (fun _ => 0), qI G 8 (fun _ => 0), qI G 320 (fun _ => 0), qI G 51 (fun _ => 0)] from List.append_assoc P [.inr (7, [qr G (122 + 1), qr G (122 + 2), qr G (122 + 3), .int (nI 0), .int (nI 0), .null, .null, .null, .int (nI 0), .int (nI 0), .int (nI 0), .int (nI 0), .int (nI 0), .int (nI 0), .int (nI 0), .null, .null, .int (nI 0), .null, .null, .int (nI 0), .null, .null, .null, .int (nI 0)]), qI G 8 (fun _ => 0), qI G 8 (fun _ => 0), qI G 320 (fun _ => 0)] [qI G 51 (fun _ => 0)]) ?_
  refine y_putF C D_X7_init_34 fl_X7_19 hnm rfl ((pa hP 0).trans rfl) (Nat.le_of_ble_eq_true rfl) rfl rfl (pt hP 0 _) ?_
  refine y_hp (show _ = P ++ [.inr (7, [qr G (122 + 1), qr G (122 + 2), qr G (122 + 3), .int (nI 0), .int (nI 0), qr G (122 + 4), .null, .null, .int (nI 0), .int (nI 0), .int (nI 0), .int (nI 0), .int (nI 0), .int (nI 0), .int (nI 0), .null, .null, .int (nI 0), .null, .null, .int (nI 0), .null, .null, .null, .int (nI 0)]), qI G 8 (fun _ => 0), qI G 8 (fun _ => 0), qI G 320 (fun _ => 0), qI G 51 (fun _ => 0)] from rfl) ?_
  refine y_aload_n C D_X7_init_37 rfl ?_
  refine y_bipush C D_X7_init_38 kb_40 ?_
  refine y_newi (a := 122 + 5) C D_X7_init_40 (by rw [pl hP]; simp only [List.length_cons, List.length_nil]; omega) (Or.inl pn) (by rw [pl hP]; rfl) (by decide) ⟨by rw [hcl]; decide, by rw [hsl]; decide⟩ ?_
  refine y_hp (show _ = P ++ [.inr (7, [qr G (122 + 1), qr G (122 + 2), qr G (122 + 3), .int (nI 0), .int (nI 0), qr G (122 + 4), .null, .null, .int (nI 0), .int (nI 0), .int (nI 0), .int (nI 0), .int (nI 0), .int (nI 0), .int (nI 0), .null, .null, .int (nI 0), .null, .null, .int (nI 0), .null, .null, .null, .int (nI 0)]), qI G 8 (fun _ => 0), qI G 8 (fun _ => 0), qI G 320 (fun _ => 0), qI G 51 (fun _ => 0), qI G 40 (fun _ => 0)] from List.append_assoc P [.inr (7, [qr G (122 + 1), qr G (122 + 2), qr G (122 + 3), .int (nI 0), .int (nI 0), qr G (122 + 4), .null, .null, .int (nI 0), .int (nI 0), .int (nI 0), .int (nI 0), .int (nI 0), .int (nI 0), .int (nI 0), .null, .null, .int (nI 0), .null, .null, .int (nI 0), .null, .null, .null, .int (nI 0)]), qI G 8 (fun _ => 0), qI G 8 (fun _ => 0), qI G 320 (fun _ => 0), qI G 51 (fun _ => 0)] [qI G 40 (fun _ => 0)]) ?_
  refine y_putF C D_X7_init_42 fl_X7_22 hnm rfl ((pa hP 0).trans rfl) (Nat.le_of_ble_eq_true rfl) rfl rfl (pt hP 0 _) ?_
  refine y_hp (show _ = P ++ [.inr (7, [qr G (122 + 1), qr G (122 + 2), qr G (122 + 3), .int (nI 0), .int (nI 0), qr G (122 + 4), qr G (122 + 5), .null, .int (nI 0), .int (nI 0), .int (nI 0), .int (nI 0), .int (nI 0), .int (nI 0), .int (nI 0), .null, .null, .int (nI 0), .null, .null, .int (nI 0), .null, .null, .null, .int (nI 0)]), qI G 8 (fun _ => 0), qI G 8 (fun _ => 0), qI G 320 (fun _ => 0), qI G 51 (fun _ => 0), qI G 40 (fun _ => 0)] from rfl) ?_
  refine y_aload_n C D_X7_init_45 rfl ?_
  refine y_bipush C D_X7_init_46 kb_120 ?_
  refine y_newi (a := 122 + 6) C D_X7_init_48 (by rw [pl hP]; simp only [List.length_cons, List.length_nil]; omega) (Or.inl pn) (by rw [pl hP]; rfl) (by decide) ⟨by rw [hcl]; decide, by rw [hsl]; decide⟩ ?_
  refine y_hp (show _ = P ++ [.inr (7, [qr G (122 + 1), qr G (122 + 2), qr G (122 + 3), .int (nI 0), .int (nI 0), qr G (122 + 4), qr G (122 + 5), .null, .int (nI 0), .int (nI 0), .int (nI 0), .int (nI 0), .int (nI 0), .int (nI 0), .int (nI 0), .null, .null, .int (nI 0), .null, .null, .int (nI 0), .null, .null, .null, .int (nI 0)]), qI G 8 (fun _ => 0), qI G 8 (fun _ => 0), qI G 320 (fun _ => 0), qI G 51 (fun _ => 0), qI G 40 (fun _ => 0), qI G 120 (fun _ => 0)] from List.append_assoc P [.inr (7, [qr G (122 + 1), qr G (122 + 2), qr G (122 + 3), .int (nI 0), .int (nI 0), qr G (122 + 4), qr G (122 + 5), .null, .int (nI 0), .int (nI 0), .int (nI 0), .int (nI 0), .int (nI 0), .int (nI 0), .int (nI 0), .null, .null, .int (nI 0), .null, .null, .int (nI 0), .null, .null, .null, .int (nI 0)]), qI G 8 (fun _ => 0), qI G 8 (fun _ => 0), qI G 320 (fun _ => 0), qI G 51 (fun _ => 0), qI G 40 (fun _ => 0)] [qI G 120 (fun _ => 0)]) ?_
  refine y_putF C D_X7_init_50 fl_X7_25 hnm rfl ((pa hP 0).trans rfl) (Nat.le_of_ble_eq_true rfl) rfl rfl (pt hP 0 _) ?_
  refine y_hp (show _ = P ++ [.inr (7, [qr G (122 + 1), qr G (122 + 2), qr G (122 + 3), .int (nI 0), .int (nI 0), qr G (122 + 4), qr G (122 + 5), qr G (122 + 6), .int (nI 0), .int (nI 0), .int (nI 0), .int (nI 0), .int (nI 0), .int (nI 0), .int (nI 0), .null, .null, .int (nI 0), .null, .null, .int (nI 0), .null, .null, .null, .int (nI 0)]), qI G 8 (fun _ => 0), qI G 8 (fun _ => 0), qI G 320 (fun _ => 0), qI G 51 (fun _ => 0), qI G 40 (fun _ => 0), qI G 120 (fun _ => 0)] from rfl) ?_
  refine y_aload_n C D_X7_init_53 rfl ?_
  refine y_bipush C D_X7_init_54 kb_51 ?_
  refine y_newi (a := 122 + 7) C D_X7_init_56 (by rw [pl hP]; simp only [List.length_cons, List.length_nil]; omega) (Or.inl pn) (by rw [pl hP]; rfl) (by decide) ⟨by rw [hcl]; decide, by rw [hsl]; decide⟩ ?_
  refine y_hp (show _ = P ++ [.inr (7, [qr G (122 + 1), qr G (122 + 2), qr G (122 + 3), .int (nI 0), .int (nI 0), qr G (122 + 4), qr G (122 + 5), qr G (122 + 6), .int (nI 0), .int (nI 0), .int (nI 0), .int (nI 0), .int (nI 0), .int (nI 0), .int (nI 0), .null, .null, .int (nI 0), .null, .null, .int (nI 0), .null, .null, .null, .int (nI 0)]), qI G 8 (fun _ => 0), qI G 8 (fun _ => 0), qI G 320 (fun _ => 0), qI G 51 (fun _ => 0), qI G 40 (fun _ => 0), qI G 120 (fun _ => 0), qI G 51 (fun _ => 0)] from List.append_assoc P [.inr (7, [qr G (122 + 1), qr G (122 + 2), qr G (122 + 3), .int (nI 0), .int (nI 0), qr G (122 + 4), qr G (122 + 5), qr G (122 + 6), .int (nI 0), .int (nI 0), .int (nI 0), .int (nI 0), .int (nI 0), .int (nI 0), .int (nI 0), .null, .null, .int (nI 0), .null, .null, .int (nI 0), .null, .null, .null, .int (nI 0)]), qI G 8 (fun _ => 0), qI G 8 (fun _ => 0), qI G 320 (fun _ => 0), qI G 51 (fun _ => 0), qI G 40 (fun _ => 0), qI G 120 (fun _ => 0)] [qI G 51 (fun _ => 0)]) ?_
  refine y_putF C D_X7_init_58 fl_X7_28 hnm rfl ((pa hP 0).trans rfl) (Nat.le_of_ble_eq_true rfl) rfl rfl (pt hP 0 _) ?_
  refine y_hp (show _ = P ++ [.inr (7, [qr G (122 + 1), qr G (122 + 2), qr G (122 + 3), .int (nI 0), .int (nI 0), qr G (122 + 4), qr G (122 + 5), qr G (122 + 6), .int (nI 0), .int (nI 0), .int (nI 0), .int (nI 0), .int (nI 0), .int (nI 0), .int (nI 0), qr G (122 + 7), .null, .int (nI 0), .null, .null, .int (nI 0), .null, .null, .null, .int (nI 0)]), qI G 8 (fun _ => 0), qI G 8 (fun _ => 0), qI G 320 (fun _ => 0), qI G 51 (fun _ => 0), qI G 40 (fun _ => 0), qI G 120 (fun _ => 0), qI G 51 (fun _ => 0)] from rfl) ?_
  refine y_aload_n C D_X7_init_61 rfl ?_
  refine y_sipush C D_X7_init_62 kn_1224 ?_
  refine y_newi (a := 122 + 8) C D_X7_init_65 (by rw [pl hP]; simp only [List.length_cons, List.length_nil]; omega) (Or.inl pn) (by rw [pl hP]; rfl) (by decide) ⟨by rw [hcl]; decide, by rw [hsl]; decide⟩ ?_
  refine y_hp (show _ = P ++ [.inr (7, [qr G (122 + 1), qr G (122 + 2), qr G (122 + 3), .int (nI 0), .int (nI 0), qr G (122 + 4), qr G (122 + 5), qr G (122 + 6), .int (nI 0), .int (nI 0), .int (nI 0), .int (nI 0), .int (nI 0), .int (nI 0), .int (nI 0), qr G (122 + 7), .null, .int (nI 0), .null, .null, .int (nI 0), .null, .null, .null, .int (nI 0)]), qI G 8 (fun _ => 0), qI G 8 (fun _ => 0), qI G 320 (fun _ => 0), qI G 51 (fun _ => 0), qI G 40 (fun _ => 0), qI G 120 (fun _ => 0), qI G 51 (fun _ => 0), qI G 1224 (fun _ => 0)] from List.append_assoc P [.inr (7, [qr G (122 + 1), qr G (122 + 2), qr G (122 + 3), .int (nI 0), .int (nI 0), qr G (122 + 4), qr G (122 + 5), qr G (122 + 6), .int (nI 0), .int (nI 0), .int (nI 0), .int (nI 0), .int (nI 0), .int (nI 0), .int (nI 0), qr G (122 + 7), .null, .int (nI 0), .null, .null, .int (nI 0), .null, .null, .null, .int (nI 0)]), qI G 8 (fun _ => 0), qI G 8 (fun _ => 0), qI G 320 (fun _ => 0), qI G 51 (fun _ => 0), qI G 40 (fun _ => 0), qI G 120 (fun _ => 0), qI G 51 (fun _ => 0)] [qI G 1224 (fun _ => 0)]) ?_
  refine y_putF C D_X7_init_67 fl_X7_31 hnm rfl ((pa hP 0).trans rfl) (Nat.le_of_ble_eq_true rfl) rfl rfl (pt hP 0 _) ?_
  refine y_hp (show _ = P ++ [.inr (7, [qr G (122 + 1), qr G (122 + 2), qr G (122 + 3), .int (nI 0), .int (nI 0), qr G (122 + 4), qr G (122 + 5), qr G (122 + 6), .int (nI 0), .int (nI 0), .int (nI 0), .int (nI 0), .int (nI 0), .int (nI 0), .int (nI 0), qr G (122 + 7), qr G (122 + 8), .int (nI 0), .null, .null, .int (nI 0), .null, .null, .null, .int (nI 0)]), qI G 8 (fun _ => 0), qI G 8 (fun _ => 0), qI G 320 (fun _ => 0), qI G 51 (fun _ => 0), qI G 40 (fun _ => 0), qI G 120 (fun _ => 0), qI G 51 (fun _ => 0), qI G 1224 (fun _ => 0)] from rfl) ?_
  refine y_aload_n C D_X7_init_70 rfl ?_
  refine y_bipush C D_X7_init_71 kb_51 ?_
  refine y_newi (a := 122 + 9) C D_X7_init_73 (by rw [pl hP]; simp only [List.length_cons, List.length_nil]; omega) (Or.inl pn) (by rw [pl hP]; rfl) (by decide) ⟨by rw [hcl]; decide, by rw [hsl]; decide⟩ ?_
  refine y_hp (show _ = P ++ [.inr (7, [qr G (122 + 1), qr G (122 + 2), qr G (122 + 3), .int (nI 0), .int (nI 0), qr G (122 + 4), qr G (122 + 5), qr G (122 + 6), .int (nI 0), .int (nI 0), .int (nI 0), .int (nI 0), .int (nI 0), .int (nI 0), .int (nI 0), qr G (122 + 7), qr G (122 + 8), .int (nI 0), .null, .null, .int (nI 0), .null, .null, .null, .int (nI 0)]), qI G 8 (fun _ => 0), qI G 8 (fun _ => 0), qI G 320 (fun _ => 0), qI G 51 (fun _ => 0), qI G 40 (fun _ => 0), qI G 120 (fun _ => 0), qI G 51 (fun _ => 0), qI G 1224 (fun _ => 0), qI G 51 (fun _ => 0)] from List.append_assoc P [.inr (7, [qr G (122 + 1), qr G (122 + 2), qr G (122 + 3), .int (nI 0), .int (nI 0), qr G (122 + 4), qr G (122 + 5), qr G (122 + 6), .int (nI 0), .int (nI 0), .int (nI 0), .int (nI 0), .int (nI 0), .int (nI 0), .int (nI 0), qr G (122 + 7), qr G (122 + 8), .int (nI 0), .null, .null, .int (nI 0), .null, .null, .null, .int (nI 0)]), qI G 8 (fun _ => 0), qI G 8 (fun _ => 0), qI G 320 (fun _ => 0), qI G 51 (fun _ => 0), qI G 40 (fun _ => 0), qI G 120 (fun _ => 0), qI G 51 (fun _ => 0), qI G 1224 (fun _ => 0)] [qI G 51 (fun _ => 0)]) ?_
  refine y_putF C D_X7_init_75 fl_X7_34 hnm rfl ((pa hP 0).trans rfl) (Nat.le_of_ble_eq_true rfl) rfl rfl (pt hP 0 _) ?_
  refine y_hp (show _ = P ++ [.inr (7, [qr G (122 + 1), qr G (122 + 2), qr G (122 + 3), .int (nI 0), .int (nI 0), qr G (122 + 4), qr G (122 + 5), qr G (122 + 6), .int (nI 0), .int (nI 0), .int (nI 0), .int (nI 0), .int (nI 0), .int (nI 0), .int (nI 0), qr G (122 + 7), qr G (122 + 8), .int (nI 0), qr G (122 + 9), .null, .int (nI 0), .null, .null, .null, .int (nI 0)]), qI G 8 (fun _ => 0), qI G 8 (fun _ => 0), qI G 320 (fun _ => 0), qI G 51 (fun _ => 0), qI G 40 (fun _ => 0), qI G 120 (fun _ => 0), qI G 51 (fun _ => 0), qI G 1224 (fun _ => 0), qI G 51 (fun _ => 0)] from rfl) ?_
  refine y_aload_n C D_X7_init_78 rfl ?_
  refine y_iconst C D_X7_init_79 ki_3 ?_
  refine y_newi (a := 122 + 10) C D_X7_init_80 (by rw [pl hP]; simp only [List.length_cons, List.length_nil]; omega) (Or.inl pn) (by rw [pl hP]; rfl) (by decide) ⟨by rw [hcl]; decide, by rw [hsl]; decide⟩ ?_
  refine y_hp (show _ = P ++ [.inr (7, [qr G (122 + 1), qr G (122 + 2), qr G (122 + 3), .int (nI 0), .int (nI 0), qr G (122 + 4), qr G (122 + 5), qr G (122 + 6), .int (nI 0), .int (nI 0), .int (nI 0), .int (nI 0), .int (nI 0), .int (nI 0), .int (nI 0), qr G (122 + 7), qr G (122 + 8), .int (nI 0), qr G (122 + 9), .null, .int (nI 0), .null, .null, .null, .int (nI 0)]), qI G 8 (fun _ => 0), qI G 8 (fun _ => 0), qI G 320 (fun _ => 0), qI G 51 (fun _ => 0), qI G 40 (fun _ => 0), qI G 120 (fun _ => 0), qI G 51 (fun _ => 0), qI G 1224 (fun _ => 0), qI G 51 (fun _ => 0), qI G 3 (fun _ => 0)] from List.append_assoc P [.inr (7, [qr G (122 + 1), qr G (122 + 2), qr G (122 + 3), .int (nI 0), .int (nI 0), qr G (122 + 4), qr G (122 + 5), qr G (122 + 6), .int (nI 0), .int (nI 0), .int (nI 0), .int (nI 0), .int (nI 0), .int (nI 0), .int (nI 0), qr G (122 + 7), qr G (122 + 8), .int (nI 0), qr G (122 + 9), .null, .int (nI 0), .null, .null, .null, .int (nI 0)]), qI G 8 (fun _ => 0), qI G 8 (fun _ => 0), qI G 320 (fun _ => 0), qI G 51 (fun _ => 0), qI G 40 (fun _ => 0), qI G 120 (fun _ => 0), qI G 51 (fun _ => 0), qI G 1224 (fun _ => 0), qI G 51 (fun _ => 0)] [qI G 3 (fun _ => 0)]) ?_
  refine y_putF C D_X7_init_82 fl_X7_37 hnm rfl ((pa hP 0).trans rfl) (Nat.le_of_ble_eq_true rfl) rfl rfl (pt hP 0 _) ?_
  refine y_hp (show _ = P ++ [.inr (7, [qr G (122 + 1), qr G (122 + 2), qr G (122 + 3), .int (nI 0), .int (nI 0), qr G (122 + 4), qr G (122 + 5), qr G (122 + 6), .int (nI 0), .int (nI 0), .int (nI 0), .int (nI 0), .int (nI 0), .int (nI 0), .int (nI 0), qr G (122 + 7), qr G (122 + 8), .int (nI 0), qr G (122 + 9), qr G (122 + 10), .int (nI 0), .null, .null, .null, .int (nI 0)]), qI G 8 (fun _ => 0), qI G 8 (fun _ => 0), qI G 320 (fun _ => 0), qI G 51 (fun _ => 0), qI G 40 (fun _ => 0), qI G 120 (fun _ => 0), qI G 51 (fun _ => 0), qI G 1224 (fun _ => 0), qI G 51 (fun _ => 0), qI G 3 (fun _ => 0)] from rfl) ?_
  refine y_aload_n C D_X7_init_85 rfl ?_
  refine y_iconst C D_X7_init_86 ki_2 ?_
  refine y_newz (a := 122 + 11) C D_X7_init_87 (by rw [pl hP]; simp only [List.length_cons, List.length_nil]; omega) (Or.inl pn) (by rw [pl hP]; rfl) (by decide) ⟨by rw [hcl]; decide, by rw [hsl]; decide⟩ ?_
  refine y_hp (show _ = P ++ [.inr (7, [qr G (122 + 1), qr G (122 + 2), qr G (122 + 3), .int (nI 0), .int (nI 0), qr G (122 + 4), qr G (122 + 5), qr G (122 + 6), .int (nI 0), .int (nI 0), .int (nI 0), .int (nI 0), .int (nI 0), .int (nI 0), .int (nI 0), qr G (122 + 7), qr G (122 + 8), .int (nI 0), qr G (122 + 9), qr G (122 + 10), .int (nI 0), .null, .null, .null, .int (nI 0)]), qI G 8 (fun _ => 0), qI G 8 (fun _ => 0), qI G 320 (fun _ => 0), qI G 51 (fun _ => 0), qI G 40 (fun _ => 0), qI G 120 (fun _ => 0), qI G 51 (fun _ => 0), qI G 1224 (fun _ => 0), qI G 51 (fun _ => 0), qI G 3 (fun _ => 0), qZ G 2 (fun _ => 0)] from List.append_assoc P [.inr (7, [qr G (122 + 1), qr G (122 + 2), qr G (122 + 3), .int (nI 0), .int (nI 0), qr G (122 + 4), qr G (122 + 5), qr G (122 + 6), .int (nI 0), .int (nI 0), .int (nI 0), .int (nI 0), .int (nI 0), .int (nI 0), .int (nI 0), qr G (122 + 7), qr G (122 + 8), .int (nI 0), qr G (122 + 9), qr G (122 + 10), .int (nI 0), .null, .null, .null, .int (nI 0)]), qI G 8 (fun _ => 0), qI G 8 (fun _ => 0), qI G 320 (fun _ => 0), qI G 51 (fun _ => 0), qI G 40 (fun _ => 0), qI G 120 (fun _ => 0), qI G 51 (fun _ => 0), qI G 1224 (fun _ => 0), qI G 51 (fun _ => 0), qI G 3 (fun _ => 0)] [qZ G 2 (fun _ => 0)]) ?_
  refine y_putF C D_X7_init_89 fl_X7_40 hnm rfl ((pa hP 0).trans rfl) (Nat.le_of_ble_eq_true rfl) rfl rfl (pt hP 0 _) ?_
  refine y_hp (show _ = P ++ [.inr (7, [qr G (122 + 1), qr G (122 + 2), qr G (122 + 3), .int (nI 0), .int (nI 0), qr G (122 + 4), qr G (122 + 5), qr G (122 + 6), .int (nI 0), .int (nI 0), .int (nI 0), .int (nI 0), .int (nI 0), .int (nI 0), .int (nI 0), qr G (122 + 7), qr G (122 + 8), .int (nI 0), qr G (122 + 9), qr G (122 + 10), .int (nI 0), qr G (122 + 11), .null, .null, .int (nI 0)]), qI G 8 (fun _ => 0), qI G 8 (fun _ => 0), qI G 320 (fun _ => 0), qI G 51 (fun _ => 0), qI G 40 (fun _ => 0), qI G 120 (fun _ => 0), qI G 51 (fun _ => 0), qI G 1224 (fun _ => 0), qI G 51 (fun _ => 0), qI G 3 (fun _ => 0), qZ G 2 (fun _ => 0)] from rfl) ?_
  refine y_aload_n C D_X7_init_92 rfl ?_
  refine y_bipush C D_X7_init_93 kb_102 ?_
  refine y_newi (a := 122 + 12) C D_X7_init_95 (by rw [pl hP]; simp only [List.length_cons, List.length_nil]; omega) (Or.inl pn) (by rw [pl hP]; rfl) (by decide) ⟨by rw [hcl]; decide, by rw [hsl]; decide⟩ ?_
  refine y_hp (show _ = P ++ [.inr (7, [qr G (122 + 1), qr G (122 + 2), qr G (122 + 3), .int (nI 0), .int (nI 0), qr G (122 + 4), qr G (122 + 5), qr G (122 + 6), .int (nI 0), .int (nI 0), .int (nI 0), .int (nI 0), .int (nI 0), .int (nI 0), .int (nI 0), qr G (122 + 7), qr G (122 + 8), .int (nI 0), qr G (122 + 9), qr G (122 + 10), .int (nI 0), qr G (122 + 11), .null, .null, .int (nI 0)]), qI G 8 (fun _ => 0), qI G 8 (fun _ => 0), qI G 320 (fun _ => 0), qI G 51 (fun _ => 0), qI G 40 (fun _ => 0), qI G 120 (fun _ => 0), qI G 51 (fun _ => 0), qI G 1224 (fun _ => 0), qI G 51 (fun _ => 0), qI G 3 (fun _ => 0), qZ G 2 (fun _ => 0), qI G 102 (fun _ => 0)] from List.append_assoc P [.inr (7, [qr G (122 + 1), qr G (122 + 2), qr G (122 + 3), .int (nI 0), .int (nI 0), qr G (122 + 4), qr G (122 + 5), qr G (122 + 6), .int (nI 0), .int (nI 0), .int (nI 0), .int (nI 0), .int (nI 0), .int (nI 0), .int (nI 0), qr G (122 + 7), qr G (122 + 8), .int (nI 0), qr G (122 + 9), qr G (122 + 10), .int (nI 0), qr G (122 + 11), .null, .null, .int (nI 0)]), qI G 8 (fun _ => 0), qI G 8 (fun _ => 0), qI G 320 (fun _ => 0), qI G 51 (fun _ => 0), qI G 40 (fun _ => 0), qI G 120 (fun _ => 0), qI G 51 (fun _ => 0), qI G 1224 (fun _ => 0), qI G 51 (fun _ => 0), qI G 3 (fun _ => 0), qZ G 2 (fun _ => 0)] [qI G 102 (fun _ => 0)]) ?_
  refine y_putF C D_X7_init_97 fl_X7_44 hnm rfl ((pa hP 0).trans rfl) (Nat.le_of_ble_eq_true rfl) rfl rfl (pt hP 0 _) ?_
  refine y_hp (show _ = P ++ [.inr (7, [qr G (122 + 1), qr G (122 + 2), qr G (122 + 3), .int (nI 0), .int (nI 0), qr G (122 + 4), qr G (122 + 5), qr G (122 + 6), .int (nI 0), .int (nI 0), .int (nI 0), .int (nI 0), .int (nI 0), .int (nI 0), .int (nI 0), qr G (122 + 7), qr G (122 + 8), .int (nI 0), qr G (122 + 9), qr G (122 + 10), .int (nI 0), qr G (122 + 11), qr G (122 + 12), .null, .int (nI 0)]), qI G 8 (fun _ => 0), qI G 8 (fun _ => 0), qI G 320 (fun _ => 0), qI G 51 (fun _ => 0), qI G 40 (fun _ => 0), qI G 120 (fun _ => 0), qI G 51 (fun _ => 0), qI G 1224 (fun _ => 0), qI G 51 (fun _ => 0), qI G 3 (fun _ => 0), qZ G 2 (fun _ => 0), qI G 102 (fun _ => 0)] from rfl) ?_
  refine y_aload_n C D_X7_init_100 rfl ?_
  refine y_bipush C D_X7_init_101 kb_16 ?_
  refine y_newi (a := 122 + 13) C D_X7_init_103 (by rw [pl hP]; simp only [List.length_cons, List.length_nil]; omega) (Or.inl pn) (by rw [pl hP]; rfl) (by decide) ⟨by rw [hcl]; decide, by rw [hsl]; decide⟩ ?_
  refine y_hp (show _ = P ++ [.inr (7, [qr G (122 + 1), qr G (122 + 2), qr G (122 + 3), .int (nI 0), .int (nI 0), qr G (122 + 4), qr G (122 + 5), qr G (122 + 6), .int (nI 0), .int (nI 0), .int (nI 0), .int (nI 0), .int (nI 0), .int (nI 0), .int (nI 0), qr G (122 + 7), qr G (122 + 8), .int (nI 0), qr G (122 + 9), qr G (122 + 10), .int (nI 0), qr G (122 + 11), qr G (122 + 12), .null, .int (nI 0)]), qI G 8 (fun _ => 0), qI G 8 (fun _ => 0), qI G 320 (fun _ => 0), qI G 51 (fun _ => 0), qI G 40 (fun _ => 0), qI G 120 (fun _ => 0), qI G 51 (fun _ => 0), qI G 1224 (fun _ => 0), qI G 51 (fun _ => 0), qI G 3 (fun _ => 0), qZ G 2 (fun _ => 0), qI G 102 (fun _ => 0), qI G 16 (fun _ => 0)] from List.append_assoc P [.inr (7, [qr G (122 + 1), qr G (122 + 2), qr G (122 + 3), .int (nI 0), .int (nI 0), qr G (122 + 4), qr G (122 + 5), qr G (122 + 6), .int (nI 0), .int (nI 0), .int (nI 0), .int (nI 0), .int (nI 0), .int (nI 0), .int (nI 0), qr G (122 + 7), qr G (122 + 8), .int (nI 0), qr G (122 + 9), qr G (122 + 10), .int (nI 0), qr G (122 + 11), qr G (122 + 12), .null, .int (nI 0)]), qI G 8 (fun _ => 0), qI G 8 (fun _ => 0), qI G 320 (fun _ => 0), qI G 51 (fun _ => 0), qI G 40 (fun _ => 0), qI G 120 (fun _ => 0), qI G 51 (fun _ => 0), qI G 1224 (fun _ => 0), qI G 51 (fun _ => 0), qI G 3 (fun _ => 0), qZ G 2 (fun _ => 0), qI G 102 (fun _ => 0)] [qI G 16 (fun _ => 0)]) ?_
  refine y_putF C D_X7_init_105 fl_X7_47 hnm rfl ((pa hP 0).trans rfl) (Nat.le_of_ble_eq_true rfl) rfl rfl (pt hP 0 _) ?_
  refine y_hp (show _ = P ++ [.inr (7, [qr G (122 + 1), qr G (122 + 2), qr G (122 + 3), .int (nI 0), .int (nI 0), qr G (122 + 4), qr G (122 + 5), qr G (122 + 6), .int (nI 0), .int (nI 0), .int (nI 0), .int (nI 0), .int (nI 0), .int (nI 0), .int (nI 0), qr G (122 + 7), qr G (122 + 8), .int (nI 0), qr G (122 + 9), qr G (122 + 10), .int (nI 0), qr G (122 + 11), qr G (122 + 12), qr G (122 + 13), .int (nI 0)]), qI G 8 (fun _ => 0), qI G 8 (fun _ => 0), qI G 320 (fun _ => 0), qI G 51 (fun _ => 0), qI G 40 (fun _ => 0), qI G 120 (fun _ => 0), qI G 51 (fun _ => 0), qI G 1224 (fun _ => 0), qI G 51 (fun _ => 0), qI G 3 (fun _ => 0), qZ G 2 (fun _ => 0), qI G 102 (fun _ => 0), qI G 16 (fun _ => 0)] from rfl) ?_
  refine y_iconst C D_X7_init_108 ki_0 ?_
  refine y_istore_n C D_X7_init_109 (by decide) (qok_s rfl rfl) ?_
  have e0 : B00 0 1 = fun _ => 0 := szF_0.symm
  refine y_hp (show _ = hm G P i00 A00 (B00 0) from ?_) ?_
  · unfold hm mc mf
    rw [e0]
    rfl
  exact lp_X7_init hP C E 8 0 rfl
end
section
variable {l : Launch} {G : qG}
/-- rows in a row -/
def Rw (G : qG) (b : Nat) : Nat → List va_E
  | 0 => []
  | k + 1 => Rw G b k ++ [.inr (2, [.int (-1), .int (nI 0), qr G (b + 2 * k + 1)]), qI G 40 (fun _ => 0)]
theorem Rw_len {b : Nat} : ∀ k, (Rw G b k).length = 2 * k
  | 0 => rfl
  | k + 1 => by
    unfold Rw
    rw [List.length_append, Rw_len k]
    rfl
theorem Rw_at {b n : Nat} : ∀ k, k < n → (Rw G b n)[2 * k]? = some (.inr (2, [.int (-1), .int (nI 0), qr G (b + 2 * k + 1)])) ∧ (Rw G b n)[2 * k + 1]? = some (qI G 40 (fun _ => 0)) := by
  induction n with
  | zero => intro k hk; omega
  | succ n ih =>
    intro k hk
    have hl := Rw_len (G := G) (b := b) n
    unfold Rw
    by_cases c : k < n
    · rw [List.getElem?_append_left (by omega), List.getElem?_append_left (by omega)]
      exact ih k c
    · obtain rfl : k = n := by omega
      rw [List.getElem?_append_right (by omega), List.getElem?_append_right (by omega), hl, Nat.sub_self, Nat.add_sub_cancel_left]
      exact ⟨rfl, rfl⟩
/-- the class's cells up to the images' row -/
abbrev P84 (G : qG) (d r : va_E) : List va_E := d :: r :: .inr (4, [qr G 3, .int (nI 0), .int (nI 0), qr G 6, .int (nI 0), .int (nI 0), .int (nI 0), .int (nI 0), .int (nI 0)]) :: .inr (5, yf G (3) y0) :: yk G y0 :: ym G y0 :: qI G 120 (fun _ => 0) :: .inr (5, yf G (7) y0) :: yk G y0 :: ym G y0 :: .inr (1, [.int (nI 0), .int (nI 0), qr G 11]) :: qY G 24 (rfF G 12 3 24) :: Ys G 12 24
/-- behind it -/
abbrev Q84 (G : qG) (im : va_E) (t : List va_E) : List va_E := im :: .inr (3, [.int (nI 0), qr G 86, qr G 87, qr G 88]) :: qI G 3 (fun _ => 0) :: qI G 3 (fun _ => 0) :: qY G 3 (rfF G 89 3 3) :: (Ys G 89 3 ++ (.inr (0, [.int (nI 0), qr G 99]) :: qI G 16 (fun _ => 0) :: t))
theorem P84_len {d r : va_E} : (P84 G d r).length = 84 := by
  simp only [P84, List.length_cons, Ys_len]
theorem PQ_len {d r im : va_E} {t : List va_E} : (P84 G d r ++ Q84 G im t).length = 100 + t.length := by
  rw [List.length_append, P84_len]
  simp only [Q84, List.length_cons, List.length_append, Ys_len]
  omega
theorem PQ_app {d r im : va_E} {t s : List va_E} : (P84 G d r ++ Q84 G im t) ++ s = P84 G d r ++ Q84 G im (t ++ s) := by
  simp only [P84, Q84, List.append_assoc, List.cons_append]
theorem PQ_at {d r im : va_E} {t : List va_E} (j : Nat) : (P84 G d r ++ Q84 G im t)[100 + j]? = t[j]? := by
  rw [show 100 + j = 84 + (16 + j) by omega, pa P84_len]
  show ((im :: .inr (3, [.int (nI 0), qr G 86, qr G 87, qr G 88]) :: qI G 3 (fun _ => 0) :: qI G 3 (fun _ => 0) :: qY G 3 (rfF G 89 3 3) :: (Ys G 89 3 ++ (.inr (0, [.int (nI 0), qr G 99]) :: qI G 16 (fun _ => 0) :: t))) : List va_E)[16 + j]? = _
  rw [show 16 + j = (9 + 2 + j) + 1 + 1 + 1 + 1 + 1 by omega]
  simp only [List.getElem?_cons_succ]
  rw [List.getElem?_append_right (by rw [Ys_len]; omega), Ys_len, show 9 + 2 + j - 3 * 3 = j + 1 + 1 by omega]
  simp only [List.getElem?_cons_succ]
abbrev dF (G : qG) : va_E := .inr (6, [qr G 1, qr G 2, qr G 7, qr G 10, qr G 84, qr G 85, qr G 98, .int (nI 0)])
abbrev rwF (G : qG) (k : Nat) : va_E := qR G 8 (rfF G 100 2 k)
abbrev imF (G : qG) (k : Nat) : va_E := qY G 2 (rfF G 116 3 k)
abbrev FF (G : qG) (k : Nat) : List va_E := P84 G (dF G) (rwF G 8) ++ Q84 G (imF G k) (Rw G 100 8 ++ Ys G 116 k)
theorem lp_X6_rows {X : qX} (hcl : X.2.2.2.1.cells = 121) (hsl : X.2.2.2.1.slots = 1936) (hz : X.2.2.2.2.1.heap.size = G.2 4 + 1) (C : qC X G cX6_init 2 RX6 3) (K : Y X G 2 115 1846 103 [some (qr G 0), some (.int (nI 8))] [] (P84 G (dF G) (rwF G 8) ++ Q84 G (imF G 0) (Rw G 100 8))) : ∀ (m k : Nat), k + m = 8 → Y X G 2 (99 + 2 * k) (1502 + 43 * k) 78 [some (qr G 0), some (.int (nI k))] [] (P84 G (dF G) (rwF G k) ++ Q84 G (imF G 0) (Rw G 100 k)) := by
  intro m
  induction m with
  | zero =>
    intro k hk
    obtain rfl : k = 8 := by omega
    refine y_iload_n C D_X6_init_78 rfl ?_
    refine y_bipush C D_X6_init_79 kb_8 ?_
    refine y_icmp_ge C D_X6_init_81 (n_le (by omega) (by omega)) (fun c_0 => ?_) (fun c_0 => absurd (Nat.le_refl _) c_0)
    exact K
  | succ m ih =>
    intro k hk
    have hl := Rw_len (G := G) (b := 100) k
    have zz := ih (k + 1) (by omega)
    have hne : ∀ t, P84 G (dF G) (rwF G k) ++ Q84 G (imF G 0) t ≠ [] := fun t z => by
      have := congrArg List.length z
      rw [PQ_len] at this
      simp only [List.length_nil] at this
      omega
    refine y_iload_n C D_X6_init_78 rfl ?_
    refine y_bipush C D_X6_init_79 kb_8 ?_
    refine y_icmp_ge C D_X6_init_81 (n_le (by omega) (by omega)) (fun c_0 => absurd c_0 (by omega)) (fun c_0 => ?_)
    refine y_aload_n C D_X6_init_84 rfl ?_
    refine y_get C D_X6_init_85 fl_X6_11 (show (P84 G (dF G) (rwF G k) ++ Q84 G (imF G 0) (Rw G 100 k))[0]? = some (dF G) from rfl) rfl ?_
    refine y_iload_n C D_X6_init_88 rfl ?_
    refine y_new (a := 100 + 2 * k) C D_X6_init_89 nw_X6_9 (by rw [PQ_len]; omega) (Or.inl (hne _)) (by rw [PQ_len]; omega) ⟨by rw [hcl]; omega, by rw [hsl]; omega⟩ ?_
    refine y_dup C D_X6_init_92 rfl ?_
    refine y_callIN C D_X6_init_93 lk_X6_54 (c_X2_init (P := P84 G (dF G) (rwF G k) ++ Q84 G (imF G 0) (Rw G 100 k)) (a := 100 + 2 * k) (by rw [PQ_len]; omega)) rfl rfl (Nat.le_of_ble_eq_true rfl) (Nat.le_of_ble_eq_true rfl) ⟨by rw [hcl]; omega, by rw [hsl]; omega⟩ (by rw [List.length_append, PQ_len]; simp only [List.length_cons, List.length_nil]; omega) (by simp) ?_
    refine y_hp PQ_app ?_
    have ev : (P84 G (dF G) (rwF G k) ++ Q84 G (imF G 0) (Rw G 100 k ++ [.inr (2, [.int (-1), .int (nI 0), qr G (100 + 2 * k + 1)]), qI G 40 (fun _ => 0)]))[100 + 2 * k]? = some (.inr (2, [.int (-1), .int (nI 0), qr G (100 + 2 * k + 1)])) := by
      rw [PQ_at, List.getElem?_append_right (by omega), hl, Nat.sub_self]
      rfl
    refine y_ast (t0 := 2) C D_X6_init_96 (show (P84 G (dF G) (rwF G k) ++ Q84 G (imF G 0) _)[1]? = some (rwF G k) from rfl) rfl ev rfl (vp_in_nI (by omega) (by decide)) (show _ = P84 G (dF G) _ ++ Q84 G (imF G 0) _ from rfl) ?_
    rw [nI_clamp (by omega), rfF_s (by omega)]
    refine z_iinc (n := 1) C D_X6_init_97 rfl (by decide) (qok_s rfl rfl) ?_
    refine y_goto C D_X6_init_100 ?_
    exact zz
theorem lp_X6_imgs {X : qX} (hcl : X.2.2.2.1.cells = 121) (hsl : X.2.2.2.1.slots = 1936) (hz : X.2.2.2.2.1.heap.size = G.2 4 + 1) (C : qC X G cX6_init 2 RX6 3) (E : qE X G none 121 1936 none (FF G 2)) : ∀ (m k : Nat), k + m = 2 → Y X G 2 (115 + 3 * k) (1846 + 45 * k) 105 [some (qr G 0), some (.int (nI k))] [] (FF G k) := by
  intro m
  induction m with
  | zero =>
    intro k hk
    obtain rfl : k = 2 := by omega
    refine y_iload_n C D_X6_init_105 rfl ?_
    refine y_iconst C D_X6_init_106 ki_2 ?_
    refine y_icmp_ge C D_X6_init_107 (n_le (by omega) (by omega)) (fun c_0 => ?_) (fun c_0 => absurd (Nat.le_refl _) c_0)
    exact y_vret C E D_X6_init_129 (rfl)
  | succ m ih =>
    intro k hk
    have hl := Ys_len (G := G) (b := 116) k
    have hl8 := Rw_len (G := G) (b := 100) 8
    have hl16 : (Rw G 100 8 ++ Ys G 116 k).length = 16 + 3 * k := by rw [List.length_append, hl, hl8]
    have zz := ih (k + 1) (by omega)
    have hne : FF G k ≠ [] := fun z => by
      have := congrArg List.length z
      rw [PQ_len] at this
      simp only [List.length_nil] at this
      omega
    refine y_iload_n C D_X6_init_105 rfl ?_
    refine y_iconst C D_X6_init_106 ki_2 ?_
    refine y_icmp_ge C D_X6_init_107 (n_le (by omega) (by omega)) (fun c_0 => absurd c_0 (by omega)) (fun c_0 => ?_)
    refine y_aload_n C D_X6_init_110 rfl ?_
    refine y_get C D_X6_init_111 fl_X6_36 (show (FF G k)[0]? = some (dF G) from rfl) rfl ?_
    refine y_iload_n C D_X6_init_114 rfl ?_
    refine y_new (a := 116 + 3 * k) C D_X6_init_115 nw_X6_22 (by rw [PQ_len, hl16]; omega) (Or.inl hne) (by rw [PQ_len, hl16]; omega) ⟨by rw [hcl]; omega, by rw [hsl]; omega⟩ ?_
    refine y_dup C D_X6_init_118 rfl ?_
    refine y_callIN C D_X6_init_119 lk_X6_24 (c_X5_init (P := FF G k) (a := 116 + 3 * k) (by rw [PQ_len, hl16]; omega)) rfl rfl (Nat.le_of_ble_eq_true rfl) (Nat.le_of_ble_eq_true rfl) ⟨by rw [hcl]; omega, by rw [hsl]; omega⟩ (by rw [List.length_append, PQ_len, hl16]; simp only [List.length_cons, List.length_nil]; omega) (by simp) ?_
    refine y_hp PQ_app ?_
    have ev : (P84 G (dF G) (rwF G 8) ++ Q84 G (imF G k) (Rw G 100 8 ++ Ys G 116 k ++ [.inr (5, yf G (116 + 3 * k) y0), yk G y0, ym G y0]))[116 + 3 * k]? = some (.inr (5, yf G (116 + 3 * k) y0)) := by
      rw [show 116 + 3 * k = 100 + (16 + 3 * k) by omega, PQ_at, List.getElem?_append_right (by omega), hl16, Nat.sub_self]
      rfl
    refine y_ast (t0 := 3) C D_X6_init_122 ((pa P84_len 0).trans rfl) rfl ev rfl (vp_in_nI (by omega) (by decide)) (pt P84_len 0 _) ?_
    rw [nI_clamp (by omega), rfF_s (by omega)]
    refine z_iinc (n := 1) C D_X6_init_123 rfl (by decide) (qok_s rfl rfl) ?_
    refine y_goto C D_X6_init_126 ?_
    refine y_hp (show _ = FF G (k + 1) from ?_) ?_
    · show P84 G (dF G) (rwF G 8) ++ Q84 G (imF G (k + 1)) (Rw G 100 8 ++ Ys G 116 k ++ _) = P84 G (dF G) (rwF G 8) ++ Q84 G (imF G (k + 1)) (Rw G 100 8 ++ (Ys G 116 k ++ _))
      rw [List.append_assoc]
    exact zz
theorem c_X6_init : Cti l G yX6_init 3 121 1936 [qr G 0] [.inr (6, bl6)] (FF G 2) := by
  refine cti_intro (maxL := 2) kw_X6_init (by decide) (by decide) [some (qr G 0), none] rfl (Nat.le_of_ble_eq_true rfl) ?_
  intro X hX hcl hsl hnm hsz C E
  have hz : X.2.2.2.2.1.heap.size = G.2 4 + 1 := hsz (by decide)
  subst hX
  refine y_aload_n C D_X6_init_0 rfl ?_
  refine y_obj C D_X6_init_1 oi_X6 (by decide) (Nat.le_of_ble_eq_true rfl) ?_
  refine y_aload_n C D_X6_init_4 rfl ?_
  refine y_bipush C D_X6_init_5 kb_8 ?_
  have hL1 : (((.inr (6, [.null, .null, .null, .null, .null, .null, .null, .int (nI 0)]) :: []) : List va_E)).length = 1 := by simp only [List.length_cons, List.length_nil, List.length_append, Ys_len]
  refine y_anew (t0 := 2) (a := 1) C D_X6_init_7 cl_X6_9 C.2.2.2.2.2.2.2.1.2.2.1 rfl (by rw [hL1]; omega) (Or.inl (by simp)) hL1 (by decide) ⟨by rw [hcl]; omega, by rw [hsl]; omega⟩ ?_
  refine y_hp (show ((.inr (6, [.null, .null, .null, .null, .null, .null, .null, .int (nI 0)]) :: []) : List va_E) ++ [.inl (G.2 2, 8, .inr (.inr (.inr (.inr (fun _ => none)))))] = ((.inr (6, [.null, .null, .null, .null, .null, .null, .null, .int (nI 0)]) :: qR G 8 (fun _ => none) :: []) : List va_E) from by simp only [List.cons_append, List.append_assoc, List.nil_append]) ?_
  refine y_putF C D_X6_init_10 fl_X6_11 hnm rfl (show ((.inr (6, [.null, .null, .null, .null, .null, .null, .null, .int (nI 0)]) :: qR G 8 (fun _ => none) :: []) : List va_E)[0]? = _ from rfl) (Nat.le_of_ble_eq_true rfl) rfl rfl (show _ = ((.inr (6, [qr G 1, .null, .null, .null, .null, .null, .null, .int (nI 0)]) :: qR G 8 (fun _ => none) :: []) : List va_E) from rfl) ?_
  refine y_aload_n C D_X6_init_13 rfl ?_
  have hL2 : (((.inr (6, [qr G 1, .null, .null, .null, .null, .null, .null, .int (nI 0)]) :: qR G 8 (fun _ => none) :: []) : List va_E)).length = 2 := by simp only [List.length_cons, List.length_nil, List.length_append, Ys_len]
  refine y_new (a := 2) C D_X6_init_14 nw_X6_15 (by rw [hL2]; omega) (Or.inl (by simp)) hL2 ⟨by rw [hcl]; omega, by rw [hsl]; omega⟩ ?_
  refine y_dup C D_X6_init_17 rfl ?_
  refine y_callIN C D_X6_init_18 lk_X6_17 (c_X4_init (P := ((.inr (6, [qr G 1, .null, .null, .null, .null, .null, .null, .int (nI 0)]) :: qR G 8 (fun _ => none) :: []) : List va_E)) (a := 2) hL2) rfl rfl (Nat.le_of_ble_eq_true rfl) (Nat.le_of_ble_eq_true rfl) ⟨by rw [hcl]; omega, by rw [hsl]; omega⟩ (by rw [List.length_append, hL2]; simp only [List.length_cons, List.length_nil]; omega) (by simp) ?_
  refine y_hp (show ((.inr (6, [qr G 1, .null, .null, .null, .null, .null, .null, .int (nI 0)]) :: qR G 8 (fun _ => none) :: []) : List va_E) ++ (.inr (4, [qr G 3, .int (nI 0), .int (nI 0), qr G 6, .int (nI 0), .int (nI 0), .int (nI 0), .int (nI 0), .int (nI 0)]) :: .inr (5, yf G (3) y0) :: yk G y0 :: ym G y0 :: qI G 120 (fun _ => 0) :: []) = ((.inr (6, [qr G 1, .null, .null, .null, .null, .null, .null, .int (nI 0)]) :: qR G 8 (fun _ => none) :: .inr (4, [qr G 3, .int (nI 0), .int (nI 0), qr G 6, .int (nI 0), .int (nI 0), .int (nI 0), .int (nI 0), .int (nI 0)]) :: .inr (5, yf G (3) y0) :: yk G y0 :: ym G y0 :: qI G 120 (fun _ => 0) :: []) : List va_E) from by simp only [List.cons_append, List.append_assoc, List.nil_append]) ?_
  refine y_putF C D_X6_init_21 fl_X6_18 hnm rfl (show ((.inr (6, [qr G 1, .null, .null, .null, .null, .null, .null, .int (nI 0)]) :: qR G 8 (fun _ => none) :: .inr (4, [qr G 3, .int (nI 0), .int (nI 0), qr G 6, .int (nI 0), .int (nI 0), .int (nI 0), .int (nI 0), .int (nI 0)]) :: .inr (5, yf G (3) y0) :: yk G y0 :: ym G y0 :: qI G 120 (fun _ => 0) :: []) : List va_E)[0]? = _ from rfl) (Nat.le_of_ble_eq_true rfl) rfl rfl (show _ = ((.inr (6, [qr G 1, qr G 2, .null, .null, .null, .null, .null, .int (nI 0)]) :: qR G 8 (fun _ => none) :: .inr (4, [qr G 3, .int (nI 0), .int (nI 0), qr G 6, .int (nI 0), .int (nI 0), .int (nI 0), .int (nI 0), .int (nI 0)]) :: .inr (5, yf G (3) y0) :: yk G y0 :: ym G y0 :: qI G 120 (fun _ => 0) :: []) : List va_E) from rfl) ?_
  refine y_aload_n C D_X6_init_24 rfl ?_
  have hL3 : (((.inr (6, [qr G 1, qr G 2, .null, .null, .null, .null, .null, .int (nI 0)]) :: qR G 8 (fun _ => none) :: .inr (4, [qr G 3, .int (nI 0), .int (nI 0), qr G 6, .int (nI 0), .int (nI 0), .int (nI 0), .int (nI 0), .int (nI 0)]) :: .inr (5, yf G (3) y0) :: yk G y0 :: ym G y0 :: qI G 120 (fun _ => 0) :: []) : List va_E)).length = 7 := by simp only [List.length_cons, List.length_nil, List.length_append, Ys_len]
  refine y_new (a := 7) C D_X6_init_25 nw_X6_22 (by rw [hL3]; omega) (Or.inl (by simp)) hL3 ⟨by rw [hcl]; omega, by rw [hsl]; omega⟩ ?_
  refine y_dup C D_X6_init_28 rfl ?_
  refine y_callIN C D_X6_init_29 lk_X6_24 (c_X5_init (P := ((.inr (6, [qr G 1, qr G 2, .null, .null, .null, .null, .null, .int (nI 0)]) :: qR G 8 (fun _ => none) :: .inr (4, [qr G 3, .int (nI 0), .int (nI 0), qr G 6, .int (nI 0), .int (nI 0), .int (nI 0), .int (nI 0), .int (nI 0)]) :: .inr (5, yf G (3) y0) :: yk G y0 :: ym G y0 :: qI G 120 (fun _ => 0) :: []) : List va_E)) (a := 7) hL3) rfl rfl (Nat.le_of_ble_eq_true rfl) (Nat.le_of_ble_eq_true rfl) ⟨by rw [hcl]; omega, by rw [hsl]; omega⟩ (by rw [List.length_append, hL3]; simp only [List.length_cons, List.length_nil]; omega) (by simp) ?_
  refine y_hp (show ((.inr (6, [qr G 1, qr G 2, .null, .null, .null, .null, .null, .int (nI 0)]) :: qR G 8 (fun _ => none) :: .inr (4, [qr G 3, .int (nI 0), .int (nI 0), qr G 6, .int (nI 0), .int (nI 0), .int (nI 0), .int (nI 0), .int (nI 0)]) :: .inr (5, yf G (3) y0) :: yk G y0 :: ym G y0 :: qI G 120 (fun _ => 0) :: []) : List va_E) ++ (.inr (5, yf G (7) y0) :: yk G y0 :: ym G y0 :: []) = ((.inr (6, [qr G 1, qr G 2, .null, .null, .null, .null, .null, .int (nI 0)]) :: qR G 8 (fun _ => none) :: .inr (4, [qr G 3, .int (nI 0), .int (nI 0), qr G 6, .int (nI 0), .int (nI 0), .int (nI 0), .int (nI 0), .int (nI 0)]) :: .inr (5, yf G (3) y0) :: yk G y0 :: ym G y0 :: qI G 120 (fun _ => 0) :: .inr (5, yf G (7) y0) :: yk G y0 :: ym G y0 :: []) : List va_E) from by simp only [List.cons_append, List.append_assoc, List.nil_append]) ?_
  refine y_putF C D_X6_init_32 fl_X6_25 hnm rfl (show ((.inr (6, [qr G 1, qr G 2, .null, .null, .null, .null, .null, .int (nI 0)]) :: qR G 8 (fun _ => none) :: .inr (4, [qr G 3, .int (nI 0), .int (nI 0), qr G 6, .int (nI 0), .int (nI 0), .int (nI 0), .int (nI 0), .int (nI 0)]) :: .inr (5, yf G (3) y0) :: yk G y0 :: ym G y0 :: qI G 120 (fun _ => 0) :: .inr (5, yf G (7) y0) :: yk G y0 :: ym G y0 :: []) : List va_E)[0]? = _ from rfl) (Nat.le_of_ble_eq_true rfl) rfl rfl (show _ = ((.inr (6, [qr G 1, qr G 2, qr G 7, .null, .null, .null, .null, .int (nI 0)]) :: qR G 8 (fun _ => none) :: .inr (4, [qr G 3, .int (nI 0), .int (nI 0), qr G 6, .int (nI 0), .int (nI 0), .int (nI 0), .int (nI 0), .int (nI 0)]) :: .inr (5, yf G (3) y0) :: yk G y0 :: ym G y0 :: qI G 120 (fun _ => 0) :: .inr (5, yf G (7) y0) :: yk G y0 :: ym G y0 :: []) : List va_E) from rfl) ?_
  refine y_aload_n C D_X6_init_35 rfl ?_
  have hL4 : (((.inr (6, [qr G 1, qr G 2, qr G 7, .null, .null, .null, .null, .int (nI 0)]) :: qR G 8 (fun _ => none) :: .inr (4, [qr G 3, .int (nI 0), .int (nI 0), qr G 6, .int (nI 0), .int (nI 0), .int (nI 0), .int (nI 0), .int (nI 0)]) :: .inr (5, yf G (3) y0) :: yk G y0 :: ym G y0 :: qI G 120 (fun _ => 0) :: .inr (5, yf G (7) y0) :: yk G y0 :: ym G y0 :: []) : List va_E)).length = 10 := by simp only [List.length_cons, List.length_nil, List.length_append, Ys_len]
  refine y_new (a := 10) C D_X6_init_36 nw_X6_29 (by rw [hL4]; omega) (Or.inl (by simp)) hL4 ⟨by rw [hcl]; omega, by rw [hsl]; omega⟩ ?_
  refine y_dup C D_X6_init_39 rfl ?_
  refine y_callI C D_X6_init_40 lk_X6_31 (c_X1_init (P := ((.inr (6, [qr G 1, qr G 2, qr G 7, .null, .null, .null, .null, .int (nI 0)]) :: qR G 8 (fun _ => none) :: .inr (4, [qr G 3, .int (nI 0), .int (nI 0), qr G 6, .int (nI 0), .int (nI 0), .int (nI 0), .int (nI 0), .int (nI 0)]) :: .inr (5, yf G (3) y0) :: yk G y0 :: ym G y0 :: qI G 120 (fun _ => 0) :: .inr (5, yf G (7) y0) :: yk G y0 :: ym G y0 :: []) : List va_E)) (a := 10) hL4) rfl rfl (Nat.le_of_ble_eq_true rfl) (Nat.le_of_ble_eq_true rfl) ⟨by rw [hcl]; omega, by rw [hsl]; omega⟩ (by rw [List.length_append, hL4]; simp only [List.length_cons, List.length_nil]; omega) (by simp) ?_
  refine y_hp (show ((.inr (6, [qr G 1, qr G 2, qr G 7, .null, .null, .null, .null, .int (nI 0)]) :: qR G 8 (fun _ => none) :: .inr (4, [qr G 3, .int (nI 0), .int (nI 0), qr G 6, .int (nI 0), .int (nI 0), .int (nI 0), .int (nI 0), .int (nI 0)]) :: .inr (5, yf G (3) y0) :: yk G y0 :: ym G y0 :: qI G 120 (fun _ => 0) :: .inr (5, yf G (7) y0) :: yk G y0 :: ym G y0 :: []) : List va_E) ++ (.inr (1, [.int (nI 0), .int (nI 0), qr G 11]) :: qY G 24 (rfF G 12 3 24) :: Ys G 12 24) = ((.inr (6, [qr G 1, qr G 2, qr G 7, .null, .null, .null, .null, .int (nI 0)]) :: qR G 8 (fun _ => none) :: .inr (4, [qr G 3, .int (nI 0), .int (nI 0), qr G 6, .int (nI 0), .int (nI 0), .int (nI 0), .int (nI 0), .int (nI 0)]) :: .inr (5, yf G (3) y0) :: yk G y0 :: ym G y0 :: qI G 120 (fun _ => 0) :: .inr (5, yf G (7) y0) :: yk G y0 :: ym G y0 :: .inr (1, [.int (nI 0), .int (nI 0), qr G 11]) :: qY G 24 (rfF G 12 3 24) :: Ys G 12 24) : List va_E) from by simp only [List.cons_append, List.append_assoc, List.nil_append]) ?_
  refine y_putF C D_X6_init_43 fl_X6_32 hnm rfl (show ((.inr (6, [qr G 1, qr G 2, qr G 7, .null, .null, .null, .null, .int (nI 0)]) :: qR G 8 (fun _ => none) :: .inr (4, [qr G 3, .int (nI 0), .int (nI 0), qr G 6, .int (nI 0), .int (nI 0), .int (nI 0), .int (nI 0), .int (nI 0)]) :: .inr (5, yf G (3) y0) :: yk G y0 :: ym G y0 :: qI G 120 (fun _ => 0) :: .inr (5, yf G (7) y0) :: yk G y0 :: ym G y0 :: .inr (1, [.int (nI 0), .int (nI 0), qr G 11]) :: qY G 24 (rfF G 12 3 24) :: Ys G 12 24) : List va_E)[0]? = _ from rfl) (Nat.le_of_ble_eq_true rfl) rfl rfl (show _ = ((.inr (6, [qr G 1, qr G 2, qr G 7, qr G 10, .null, .null, .null, .int (nI 0)]) :: qR G 8 (fun _ => none) :: .inr (4, [qr G 3, .int (nI 0), .int (nI 0), qr G 6, .int (nI 0), .int (nI 0), .int (nI 0), .int (nI 0), .int (nI 0)]) :: .inr (5, yf G (3) y0) :: yk G y0 :: ym G y0 :: qI G 120 (fun _ => 0) :: .inr (5, yf G (7) y0) :: yk G y0 :: ym G y0 :: .inr (1, [.int (nI 0), .int (nI 0), qr G 11]) :: qY G 24 (rfF G 12 3 24) :: Ys G 12 24) : List va_E) from rfl) ?_
  refine y_aload_n C D_X6_init_46 rfl ?_
  refine y_iconst C D_X6_init_47 ki_2 ?_
  have hL5 : (((.inr (6, [qr G 1, qr G 2, qr G 7, qr G 10, .null, .null, .null, .int (nI 0)]) :: qR G 8 (fun _ => none) :: .inr (4, [qr G 3, .int (nI 0), .int (nI 0), qr G 6, .int (nI 0), .int (nI 0), .int (nI 0), .int (nI 0), .int (nI 0)]) :: .inr (5, yf G (3) y0) :: yk G y0 :: ym G y0 :: qI G 120 (fun _ => 0) :: .inr (5, yf G (7) y0) :: yk G y0 :: ym G y0 :: .inr (1, [.int (nI 0), .int (nI 0), qr G 11]) :: qY G 24 (rfF G 12 3 24) :: Ys G 12 24) : List va_E)).length = 84 := by simp only [List.length_cons, List.length_nil, List.length_append, Ys_len]
  refine y_anew (t0 := 3) (a := 84) C D_X6_init_48 cl_X6_22 C.2.2.2.2.2.2.2.1.2.2.2.1 rfl (by rw [hL5]; omega) (Or.inl (by simp)) hL5 (by decide) ⟨by rw [hcl]; omega, by rw [hsl]; omega⟩ ?_
  refine y_hp (show ((.inr (6, [qr G 1, qr G 2, qr G 7, qr G 10, .null, .null, .null, .int (nI 0)]) :: qR G 8 (fun _ => none) :: .inr (4, [qr G 3, .int (nI 0), .int (nI 0), qr G 6, .int (nI 0), .int (nI 0), .int (nI 0), .int (nI 0), .int (nI 0)]) :: .inr (5, yf G (3) y0) :: yk G y0 :: ym G y0 :: qI G 120 (fun _ => 0) :: .inr (5, yf G (7) y0) :: yk G y0 :: ym G y0 :: .inr (1, [.int (nI 0), .int (nI 0), qr G 11]) :: qY G 24 (rfF G 12 3 24) :: Ys G 12 24) : List va_E) ++ [.inl (G.2 3, 2, .inr (.inr (.inr (.inr (fun _ => none)))))] = ((.inr (6, [qr G 1, qr G 2, qr G 7, qr G 10, .null, .null, .null, .int (nI 0)]) :: qR G 8 (fun _ => none) :: .inr (4, [qr G 3, .int (nI 0), .int (nI 0), qr G 6, .int (nI 0), .int (nI 0), .int (nI 0), .int (nI 0), .int (nI 0)]) :: .inr (5, yf G (3) y0) :: yk G y0 :: ym G y0 :: qI G 120 (fun _ => 0) :: .inr (5, yf G (7) y0) :: yk G y0 :: ym G y0 :: .inr (1, [.int (nI 0), .int (nI 0), qr G 11]) :: qY G 24 (rfF G 12 3 24) :: (Ys G 12 24 ++ (qY G 2 (fun _ => none) :: []))) : List va_E) from by simp only [List.cons_append, List.append_assoc, List.nil_append]) ?_
  refine y_putF C D_X6_init_51 fl_X6_36 hnm rfl (show ((.inr (6, [qr G 1, qr G 2, qr G 7, qr G 10, .null, .null, .null, .int (nI 0)]) :: qR G 8 (fun _ => none) :: .inr (4, [qr G 3, .int (nI 0), .int (nI 0), qr G 6, .int (nI 0), .int (nI 0), .int (nI 0), .int (nI 0), .int (nI 0)]) :: .inr (5, yf G (3) y0) :: yk G y0 :: ym G y0 :: qI G 120 (fun _ => 0) :: .inr (5, yf G (7) y0) :: yk G y0 :: ym G y0 :: .inr (1, [.int (nI 0), .int (nI 0), qr G 11]) :: qY G 24 (rfF G 12 3 24) :: (Ys G 12 24 ++ (qY G 2 (fun _ => none) :: []))) : List va_E)[0]? = _ from rfl) (Nat.le_of_ble_eq_true rfl) rfl rfl (show _ = ((.inr (6, [qr G 1, qr G 2, qr G 7, qr G 10, qr G 84, .null, .null, .int (nI 0)]) :: qR G 8 (fun _ => none) :: .inr (4, [qr G 3, .int (nI 0), .int (nI 0), qr G 6, .int (nI 0), .int (nI 0), .int (nI 0), .int (nI 0), .int (nI 0)]) :: .inr (5, yf G (3) y0) :: yk G y0 :: ym G y0 :: qI G 120 (fun _ => 0) :: .inr (5, yf G (7) y0) :: yk G y0 :: ym G y0 :: .inr (1, [.int (nI 0), .int (nI 0), qr G 11]) :: qY G 24 (rfF G 12 3 24) :: (Ys G 12 24 ++ (qY G 2 (fun _ => none) :: []))) : List va_E) from rfl) ?_
  refine y_aload_n C D_X6_init_54 rfl ?_
  have hL6 : (((.inr (6, [qr G 1, qr G 2, qr G 7, qr G 10, qr G 84, .null, .null, .int (nI 0)]) :: qR G 8 (fun _ => none) :: .inr (4, [qr G 3, .int (nI 0), .int (nI 0), qr G 6, .int (nI 0), .int (nI 0), .int (nI 0), .int (nI 0), .int (nI 0)]) :: .inr (5, yf G (3) y0) :: yk G y0 :: ym G y0 :: qI G 120 (fun _ => 0) :: .inr (5, yf G (7) y0) :: yk G y0 :: ym G y0 :: .inr (1, [.int (nI 0), .int (nI 0), qr G 11]) :: qY G 24 (rfF G 12 3 24) :: (Ys G 12 24 ++ (qY G 2 (fun _ => none) :: []))) : List va_E)).length = 85 := by simp only [List.length_cons, List.length_nil, List.length_append, Ys_len]
  refine y_new (a := 85) C D_X6_init_55 nw_X6_40 (by rw [hL6]; omega) (Or.inl (by simp)) hL6 ⟨by rw [hcl]; omega, by rw [hsl]; omega⟩ ?_
  refine y_dup C D_X6_init_58 rfl ?_
  refine y_callI C D_X6_init_59 lk_X6_42 (c_X3_init (P := ((.inr (6, [qr G 1, qr G 2, qr G 7, qr G 10, qr G 84, .null, .null, .int (nI 0)]) :: qR G 8 (fun _ => none) :: .inr (4, [qr G 3, .int (nI 0), .int (nI 0), qr G 6, .int (nI 0), .int (nI 0), .int (nI 0), .int (nI 0), .int (nI 0)]) :: .inr (5, yf G (3) y0) :: yk G y0 :: ym G y0 :: qI G 120 (fun _ => 0) :: .inr (5, yf G (7) y0) :: yk G y0 :: ym G y0 :: .inr (1, [.int (nI 0), .int (nI 0), qr G 11]) :: qY G 24 (rfF G 12 3 24) :: (Ys G 12 24 ++ (qY G 2 (fun _ => none) :: []))) : List va_E)) (a := 85) hL6) rfl rfl (Nat.le_of_ble_eq_true rfl) (Nat.le_of_ble_eq_true rfl) ⟨by rw [hcl]; omega, by rw [hsl]; omega⟩ (by rw [List.length_append, hL6]; simp only [List.length_cons, List.length_nil]; omega) (by simp) ?_
  refine y_hp (show ((.inr (6, [qr G 1, qr G 2, qr G 7, qr G 10, qr G 84, .null, .null, .int (nI 0)]) :: qR G 8 (fun _ => none) :: .inr (4, [qr G 3, .int (nI 0), .int (nI 0), qr G 6, .int (nI 0), .int (nI 0), .int (nI 0), .int (nI 0), .int (nI 0)]) :: .inr (5, yf G (3) y0) :: yk G y0 :: ym G y0 :: qI G 120 (fun _ => 0) :: .inr (5, yf G (7) y0) :: yk G y0 :: ym G y0 :: .inr (1, [.int (nI 0), .int (nI 0), qr G 11]) :: qY G 24 (rfF G 12 3 24) :: (Ys G 12 24 ++ (qY G 2 (fun _ => none) :: []))) : List va_E) ++ (.inr (3, [.int (nI 0), qr G 86, qr G 87, qr G 88]) :: qI G 3 (fun _ => 0) :: qI G 3 (fun _ => 0) :: qY G 3 (rfF G 89 3 3) :: Ys G 89 3) = ((.inr (6, [qr G 1, qr G 2, qr G 7, qr G 10, qr G 84, .null, .null, .int (nI 0)]) :: qR G 8 (fun _ => none) :: .inr (4, [qr G 3, .int (nI 0), .int (nI 0), qr G 6, .int (nI 0), .int (nI 0), .int (nI 0), .int (nI 0), .int (nI 0)]) :: .inr (5, yf G (3) y0) :: yk G y0 :: ym G y0 :: qI G 120 (fun _ => 0) :: .inr (5, yf G (7) y0) :: yk G y0 :: ym G y0 :: .inr (1, [.int (nI 0), .int (nI 0), qr G 11]) :: qY G 24 (rfF G 12 3 24) :: (Ys G 12 24 ++ (qY G 2 (fun _ => none) :: .inr (3, [.int (nI 0), qr G 86, qr G 87, qr G 88]) :: qI G 3 (fun _ => 0) :: qI G 3 (fun _ => 0) :: qY G 3 (rfF G 89 3 3) :: Ys G 89 3))) : List va_E) from by simp only [List.cons_append, List.append_assoc, List.nil_append]) ?_
  refine y_putF C D_X6_init_62 fl_X6_43 hnm rfl (show ((.inr (6, [qr G 1, qr G 2, qr G 7, qr G 10, qr G 84, .null, .null, .int (nI 0)]) :: qR G 8 (fun _ => none) :: .inr (4, [qr G 3, .int (nI 0), .int (nI 0), qr G 6, .int (nI 0), .int (nI 0), .int (nI 0), .int (nI 0), .int (nI 0)]) :: .inr (5, yf G (3) y0) :: yk G y0 :: ym G y0 :: qI G 120 (fun _ => 0) :: .inr (5, yf G (7) y0) :: yk G y0 :: ym G y0 :: .inr (1, [.int (nI 0), .int (nI 0), qr G 11]) :: qY G 24 (rfF G 12 3 24) :: (Ys G 12 24 ++ (qY G 2 (fun _ => none) :: .inr (3, [.int (nI 0), qr G 86, qr G 87, qr G 88]) :: qI G 3 (fun _ => 0) :: qI G 3 (fun _ => 0) :: qY G 3 (rfF G 89 3 3) :: Ys G 89 3))) : List va_E)[0]? = _ from rfl) (Nat.le_of_ble_eq_true rfl) rfl rfl (show _ = ((.inr (6, [qr G 1, qr G 2, qr G 7, qr G 10, qr G 84, qr G 85, .null, .int (nI 0)]) :: qR G 8 (fun _ => none) :: .inr (4, [qr G 3, .int (nI 0), .int (nI 0), qr G 6, .int (nI 0), .int (nI 0), .int (nI 0), .int (nI 0), .int (nI 0)]) :: .inr (5, yf G (3) y0) :: yk G y0 :: ym G y0 :: qI G 120 (fun _ => 0) :: .inr (5, yf G (7) y0) :: yk G y0 :: ym G y0 :: .inr (1, [.int (nI 0), .int (nI 0), qr G 11]) :: qY G 24 (rfF G 12 3 24) :: (Ys G 12 24 ++ (qY G 2 (fun _ => none) :: .inr (3, [.int (nI 0), qr G 86, qr G 87, qr G 88]) :: qI G 3 (fun _ => 0) :: qI G 3 (fun _ => 0) :: qY G 3 (rfF G 89 3 3) :: Ys G 89 3))) : List va_E) from rfl) ?_
  refine y_aload_n C D_X6_init_65 rfl ?_
  have hL7 : (((.inr (6, [qr G 1, qr G 2, qr G 7, qr G 10, qr G 84, qr G 85, .null, .int (nI 0)]) :: qR G 8 (fun _ => none) :: .inr (4, [qr G 3, .int (nI 0), .int (nI 0), qr G 6, .int (nI 0), .int (nI 0), .int (nI 0), .int (nI 0), .int (nI 0)]) :: .inr (5, yf G (3) y0) :: yk G y0 :: ym G y0 :: qI G 120 (fun _ => 0) :: .inr (5, yf G (7) y0) :: yk G y0 :: ym G y0 :: .inr (1, [.int (nI 0), .int (nI 0), qr G 11]) :: qY G 24 (rfF G 12 3 24) :: (Ys G 12 24 ++ (qY G 2 (fun _ => none) :: .inr (3, [.int (nI 0), qr G 86, qr G 87, qr G 88]) :: qI G 3 (fun _ => 0) :: qI G 3 (fun _ => 0) :: qY G 3 (rfF G 89 3 3) :: Ys G 89 3))) : List va_E)).length = 98 := by simp only [List.length_cons, List.length_nil, List.length_append, Ys_len]
  refine y_new (a := 98) C D_X6_init_66 nw_X6_47 (by rw [hL7]; omega) (Or.inl (by simp)) hL7 ⟨by rw [hcl]; omega, by rw [hsl]; omega⟩ ?_
  refine y_dup C D_X6_init_69 rfl ?_
  refine y_callIN C D_X6_init_70 lk_X6_49 (c_X0_init (P := ((.inr (6, [qr G 1, qr G 2, qr G 7, qr G 10, qr G 84, qr G 85, .null, .int (nI 0)]) :: qR G 8 (fun _ => none) :: .inr (4, [qr G 3, .int (nI 0), .int (nI 0), qr G 6, .int (nI 0), .int (nI 0), .int (nI 0), .int (nI 0), .int (nI 0)]) :: .inr (5, yf G (3) y0) :: yk G y0 :: ym G y0 :: qI G 120 (fun _ => 0) :: .inr (5, yf G (7) y0) :: yk G y0 :: ym G y0 :: .inr (1, [.int (nI 0), .int (nI 0), qr G 11]) :: qY G 24 (rfF G 12 3 24) :: (Ys G 12 24 ++ (qY G 2 (fun _ => none) :: .inr (3, [.int (nI 0), qr G 86, qr G 87, qr G 88]) :: qI G 3 (fun _ => 0) :: qI G 3 (fun _ => 0) :: qY G 3 (rfF G 89 3 3) :: Ys G 89 3))) : List va_E)) (a := 98) hL7) rfl rfl (Nat.le_of_ble_eq_true rfl) (Nat.le_of_ble_eq_true rfl) ⟨by rw [hcl]; omega, by rw [hsl]; omega⟩ (by rw [List.length_append, hL7]; simp only [List.length_cons, List.length_nil]; omega) (by simp) ?_
  refine y_hp (show ((.inr (6, [qr G 1, qr G 2, qr G 7, qr G 10, qr G 84, qr G 85, .null, .int (nI 0)]) :: qR G 8 (fun _ => none) :: .inr (4, [qr G 3, .int (nI 0), .int (nI 0), qr G 6, .int (nI 0), .int (nI 0), .int (nI 0), .int (nI 0), .int (nI 0)]) :: .inr (5, yf G (3) y0) :: yk G y0 :: ym G y0 :: qI G 120 (fun _ => 0) :: .inr (5, yf G (7) y0) :: yk G y0 :: ym G y0 :: .inr (1, [.int (nI 0), .int (nI 0), qr G 11]) :: qY G 24 (rfF G 12 3 24) :: (Ys G 12 24 ++ (qY G 2 (fun _ => none) :: .inr (3, [.int (nI 0), qr G 86, qr G 87, qr G 88]) :: qI G 3 (fun _ => 0) :: qI G 3 (fun _ => 0) :: qY G 3 (rfF G 89 3 3) :: Ys G 89 3))) : List va_E) ++ (.inr (0, [.int (nI 0), qr G 99]) :: qI G 16 (fun _ => 0) :: []) = ((.inr (6, [qr G 1, qr G 2, qr G 7, qr G 10, qr G 84, qr G 85, .null, .int (nI 0)]) :: qR G 8 (fun _ => none) :: .inr (4, [qr G 3, .int (nI 0), .int (nI 0), qr G 6, .int (nI 0), .int (nI 0), .int (nI 0), .int (nI 0), .int (nI 0)]) :: .inr (5, yf G (3) y0) :: yk G y0 :: ym G y0 :: qI G 120 (fun _ => 0) :: .inr (5, yf G (7) y0) :: yk G y0 :: ym G y0 :: .inr (1, [.int (nI 0), .int (nI 0), qr G 11]) :: qY G 24 (rfF G 12 3 24) :: (Ys G 12 24 ++ (qY G 2 (fun _ => none) :: .inr (3, [.int (nI 0), qr G 86, qr G 87, qr G 88]) :: qI G 3 (fun _ => 0) :: qI G 3 (fun _ => 0) :: qY G 3 (rfF G 89 3 3) :: (Ys G 89 3 ++ (.inr (0, [.int (nI 0), qr G 99]) :: qI G 16 (fun _ => 0) :: []))))) : List va_E) from by simp only [List.cons_append, List.append_assoc, List.nil_append]) ?_
  refine y_putF C D_X6_init_73 fl_X6_50 hnm rfl (show ((.inr (6, [qr G 1, qr G 2, qr G 7, qr G 10, qr G 84, qr G 85, .null, .int (nI 0)]) :: qR G 8 (fun _ => none) :: .inr (4, [qr G 3, .int (nI 0), .int (nI 0), qr G 6, .int (nI 0), .int (nI 0), .int (nI 0), .int (nI 0), .int (nI 0)]) :: .inr (5, yf G (3) y0) :: yk G y0 :: ym G y0 :: qI G 120 (fun _ => 0) :: .inr (5, yf G (7) y0) :: yk G y0 :: ym G y0 :: .inr (1, [.int (nI 0), .int (nI 0), qr G 11]) :: qY G 24 (rfF G 12 3 24) :: (Ys G 12 24 ++ (qY G 2 (fun _ => none) :: .inr (3, [.int (nI 0), qr G 86, qr G 87, qr G 88]) :: qI G 3 (fun _ => 0) :: qI G 3 (fun _ => 0) :: qY G 3 (rfF G 89 3 3) :: (Ys G 89 3 ++ (.inr (0, [.int (nI 0), qr G 99]) :: qI G 16 (fun _ => 0) :: []))))) : List va_E)[0]? = _ from rfl) (Nat.le_of_ble_eq_true rfl) rfl rfl (show _ = ((.inr (6, [qr G 1, qr G 2, qr G 7, qr G 10, qr G 84, qr G 85, qr G 98, .int (nI 0)]) :: qR G 8 (fun _ => none) :: .inr (4, [qr G 3, .int (nI 0), .int (nI 0), qr G 6, .int (nI 0), .int (nI 0), .int (nI 0), .int (nI 0), .int (nI 0)]) :: .inr (5, yf G (3) y0) :: yk G y0 :: ym G y0 :: qI G 120 (fun _ => 0) :: .inr (5, yf G (7) y0) :: yk G y0 :: ym G y0 :: .inr (1, [.int (nI 0), .int (nI 0), qr G 11]) :: qY G 24 (rfF G 12 3 24) :: (Ys G 12 24 ++ (qY G 2 (fun _ => none) :: .inr (3, [.int (nI 0), qr G 86, qr G 87, qr G 88]) :: qI G 3 (fun _ => 0) :: qI G 3 (fun _ => 0) :: qY G 3 (rfF G 89 3 3) :: (Ys G 89 3 ++ (.inr (0, [.int (nI 0), qr G 99]) :: qI G 16 (fun _ => 0) :: []))))) : List va_E) from rfl) ?_
  refine y_iconst C D_X6_init_76 ki_0 ?_
  refine y_istore_n C D_X6_init_77 (by decide) (qok_s rfl rfl) ?_
  rw [rfF_0 (G := G) (b := 100) (s := 2)]
  refine y_hp (show _ = P84 G (dF G) (rwF G 0) ++ Q84 G (imF G 0) (Rw G 100 0) from ?_) ?_
  · show ((.inr (6, [qr G 1, qr G 2, qr G 7, qr G 10, qr G 84, qr G 85, qr G 98, .int (nI 0)]) :: qR G 8 (rfF G 100 2 0) :: .inr (4, [qr G 3, .int (nI 0), .int (nI 0), qr G 6, .int (nI 0), .int (nI 0), .int (nI 0), .int (nI 0), .int (nI 0)]) :: .inr (5, yf G (3) y0) :: yk G y0 :: ym G y0 :: qI G 120 (fun _ => 0) :: .inr (5, yf G (7) y0) :: yk G y0 :: ym G y0 :: .inr (1, [.int (nI 0), .int (nI 0), qr G 11]) :: qY G 24 (rfF G 12 3 24) :: (Ys G 12 24 ++ (qY G 2 (rfF G 100 2 0) :: .inr (3, [.int (nI 0), qr G 86, qr G 87, qr G 88]) :: qI G 3 (fun _ => 0) :: qI G 3 (fun _ => 0) :: qY G 3 (rfF G 89 3 3) :: (Ys G 89 3 ++ (.inr (0, [.int (nI 0), qr G 99]) :: qI G 16 (fun _ => 0) :: []))))) : List va_E) = _
    simp only [P84, Q84, dF, rwF, imF, List.cons_append, List.append_assoc, List.nil_append, Rw]
    rw [← rfF_0 (G := G) (b := 100) (s := 2), ← rfF_0 (G := G) (b := 116) (s := 3)]
  refine lp_X6_rows hcl hsl hz C ?_ 8 0 rfl
  refine y_iconst C D_X6_init_103 ki_0 ?_
  refine y_istore_n C D_X6_init_104 (by decide) (qok_s rfl rfl) ?_
  refine y_hp (show _ = FF G 0 from ?_) ?_
  · show _ = P84 G (dF G) (rwF G 8) ++ Q84 G (imF G 0) (Rw G 100 8 ++ [])
    rw [List.append_nil]
  exact lp_X6_imgs hcl hsl hz C E 2 0 rfl
end
