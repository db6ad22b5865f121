/-! the class's tokens -/
def ctk (b : Nat → Nat) (n s : Nat) : Int32 := if tkK b n s = 3 then -1 else if tkK b n s = 2 then -2 else if tkK b n s = 1 then nI (tkV b n s) else -3
def cv (b : Nat → Nat) (s : Nat) : Nat → Nat → Nat → Nat
  | 0, _, v => v
  | f + 1, p, v => if isD (b p) then cv b s f (p + 1) (if p - s < 2 then v * 10 + b p - 48 else v) else v
theorem cv_dv {b : Nat → Nat} {n s : Nat} : ∀ {f : Nat}, de b n f s ≤ s + 2 → cv b s f s 0 = dv b n f s 0
  | 0, _ => rfl
  | f + 1, h => by
    unfold cv dv
    unfold de at h
    by_cases c0 : isD (b s)
    · rw [if_pos c0] at h
      rw [if_pos c0, if_pos c0, if_pos (by omega : s - s < 2), if_pos (by decide : (0 : Nat) ≤ 99)]
      match f, h with
      | 0, _ => show 0 * 10 + b s - 48 = 10 * 0 + b s - 48; omega
      | f + 1, h =>
        unfold cv dv
        unfold de at h
        by_cases c1 : isD (b (s + 1))
        · rw [if_pos c1] at h
          rw [if_pos c1, if_pos c1, if_pos (by omega : s + 1 - s < 2), if_pos (by omega : 10 * 0 + b s - 48 ≤ 99)]
          match f, h with
          | 0, _ => show (0 * 10 + b s - 48) * 10 + b (s + 1) - 48 = 10 * (10 * 0 + b s - 48) + b (s + 1) - 48; omega
          | f + 1, h =>
            unfold cv dv
            unfold de at h
            by_cases c2 : isD (b (s + 1 + 1))
            · rw [if_pos c2] at h
              have := de_ge b n f (s + 1 + 1 + 1)
              omega
            · rw [if_neg c2, if_neg c2]
              omega
        · rw [if_neg c1, if_neg c1]
          first | done | omega
    · rw [if_neg c0, if_neg c0]
def cvV (b : Nat → Nat) (n e v : Nat) : Nat := if e < dE b n e then cv b e (n - e) e 0 else v
theorem dE_gt {b : Nat → Nat} {n e : Nat} (he : e < n) (hd : isD (b e)) : e < dE b n e := by
  unfold dE
  obtain ⟨k, hk⟩ : ∃ k, n - e = k + 1 := ⟨n - e - 1, by omega⟩
  rw [hk]
  unfold de
  rw [if_pos hd]
  have := de_ge b n k (e + 1)
  omega
theorem dE_eq {b : Nat → Nat} {n e : Nat} (hd : ¬ isD (b e)) : dE b n e = e := by
  unfold dE
  cases n - e with
  | zero => rfl
  | succ k =>
    unfold de
    rw [if_neg hd]
theorem dE_end {b : Nat → Nat} {n : Nat} : dE b n n = n := by
  unfold dE
  rw [Nat.sub_self]
  rfl
theorem tk_end {b : Nat → Nat} {n v : Nat} : tkN b n n = n ∧ cvV b n n v = v ∧ ctk b n n = -1 ∧ tkK b n n = 3 := by
  have h : ¬ n < dE b n n := by rw [dE_end]; omega
  have hk : tkK b n n = 3 := by rw [tkK, if_neg h, if_pos rfl]
  exact ⟨by rw [tkN, if_neg h, if_pos rfl], by rw [cvV, if_neg h], by rw [ctk, if_pos hk], hk⟩
theorem tk_num {b : Nat → Nat} {n e v : Nat} (he : e < n) (hd : isD (b e)) : tkN b n e = dE b n e ∧ cvV b n e v = cv b e (n - e) e 0 ∧ ctk b n e = (if 2 < dE b n e - e then -3 else -2) := by
  have h := dE_gt he hd
  refine ⟨by rw [tkN, if_pos h], by rw [cvV, if_pos h], ?_⟩
  by_cases c : 2 < dE b n e - e
  · have hk : tkK b n e = 0 := by rw [tkK, if_pos h, if_pos c]
    rw [ctk, hk, if_pos c]
    rfl
  · have hk : tkK b n e = 2 := by rw [tkK, if_pos h, if_neg c]
    rw [ctk, hk, if_neg c]
    rfl
theorem tk_sgn {b : Nat → Nat} {n e v : Nat} (he : e < n) (hd : ¬ isD (b e)) : tkN b n e = e + 1 ∧ cvV b n e v = v ∧ ctk b n e = (if sgn (b e) then nI (b e) else -3) := by
  have h : ¬ e < dE b n e := by rw [dE_eq hd]; omega
  have hn : ¬ e = n := by omega
  refine ⟨by rw [tkN, if_neg h, if_neg hn], by rw [cvV, if_neg h], ?_⟩
  by_cases c : sgn (b e)
  · have hk : tkK b n e = 1 := by rw [tkK, if_neg h, if_neg hn, if_pos c]
    rw [ctk, hk, if_pos c, tkV, if_neg h, if_neg hn]
    rfl
  · have hk : tkK b n e = 0 := by rw [tkK, if_neg h, if_neg hn, if_neg c]
    rw [ctk, hk, if_neg c]
    rfl
theorem cvV_ok {b : Nat → Nat} {n e v : Nat} (hk : tkK b n e = 2) : cvV b n e v = tkV b n e := by
  have h : e < dE b n e := by
    rcases Nat.lt_or_ge e (dE b n e) with c | c
    · exact c
    · rw [tkK, if_neg (by omega)] at hk
      split at hk
      · cases hk
      · split at hk <;> cases hk
  rw [tkK, if_pos h] at hk
  rw [cvV, tkV, if_pos h, if_pos h]
  refine cv_dv ?_
  split at hk
  · cases hk
  · rename_i c
    show dE b n e ≤ e + 2
    omega
theorem ctk_2 {b : Nat → Nat} {n s : Nat} (hb : ∀ k, b k < 256) : ctk b n s = -2 ↔ tkK b n s = 2 := by
  have hv := tkV_le (n := n) (s := s) hb
  unfold ctk
  constructor
  · intro z
    split at z
    · exact absurd z (by decide)
    · split at z
      · assumption
      · split at z
        · have := congrArg Int32.toInt z
          rw [nI_int (by omega)] at this
          exact absurd this (by show ¬ ((tkV b n s : Nat) : Int) = -2; omega)
        · exact absurd z (by decide)
  · intro z
    rw [z]
    rfl
theorem ctk_3 {b : Nat → Nat} {n s : Nat} (hb : ∀ k, b k < 256) : ctk b n s = -1 ↔ tkK b n s = 3 := by
  have hv := tkV_le (n := n) (s := s) hb
  unfold ctk
  constructor
  · intro z
    split at z
    · assumption
    · split at z
      · exact absurd z (by decide)
      · split at z
        · have := congrArg Int32.toInt z
          rw [nI_int (by omega)] at this
          exact absurd this (by show ¬ ((tkV b n s : Nat) : Int) = -1; omega)
        · exact absurd z (by decide)
  · intro z
    rw [z]
    rfl
theorem ctk_c {b : Nat → Nat} {n s c : Nat} (hb : ∀ k, b k < 256) (hc : c < 256) : ctk b n s = nI c ↔ tks b n s c := by
  have hv := tkV_le (n := n) (s := s) hb
  have hneg : ∀ z : Int32, z.toInt < 0 → z ≠ nI c := fun z hz e => by
    have := congrArg Int32.toInt e
    rw [nI_int (by omega)] at this
    omega
  unfold ctk tks
  constructor
  · intro z
    split at z
    · exact absurd z (hneg _ (by decide))
    · split at z
      · exact absurd z (hneg _ (by decide))
      · split at z
        · rename_i k
          exact ⟨k, (n_eq (by omega) (by omega)).mp z⟩
        · exact absurd z (hneg _ (by decide))
  · intro z
    rw [z.1, z.2]
    rfl
section
variable {l : Launch} {G : qG} {h : List va_E} {n lf s e v x : Nat} {tok : Int32} {b : Nat → Nat}
theorem lp_X4_takeFigures {X : qX} (ha : 6 < h.length) (hn : n ≤ 120) (hb : ∀ k, b k < 256) (C : qC X G cX4_takeFigures 1 RX4 1) : ∀ (f p v : Nat), f + p = n → s ≤ p → Y X G 1 0 0 81 [some (qr G 2)] [] (xc G h n lf (s) (de b n f p) (cv b s f p v) (x) (tok) b) → Y X G 1 0 0 5 [some (qr G 2)] [] (xc G h n lf (s) (p) (v) (x) (tok) b) := by
  intro f
  induction f with
  | zero =>
    intro p v hf hs1 K
    refine y_aload_n C D_X4_takeFigures_5 rfl ?_
    refine y_get C D_X4_takeFigures_6 fl_X4_29 (xc_o ha) rfl ?_
    refine y_aload_n C D_X4_takeFigures_9 rfl ?_
    refine y_get C D_X4_takeFigures_10 fl_X4_22 (xc_o ha) rfl ?_
    refine y_icmp_ge C D_X4_takeFigures_13 (n_le (by omega) (by omega)) (fun c_13 => ?_) (fun c_13 => absurd (by omega) c_13)
    exact K
  | succ f ih =>
    intro p v hf hs1 K
    have hbp := hb p
    unfold cv de at K
    refine y_aload_n C D_X4_takeFigures_5 rfl ?_
    refine y_get C D_X4_takeFigures_6 fl_X4_29 (xc_o ha) rfl ?_
    refine y_aload_n C D_X4_takeFigures_9 rfl ?_
    refine y_get C D_X4_takeFigures_10 fl_X4_22 (xc_o ha) rfl ?_
    refine y_icmp_ge C D_X4_takeFigures_13 (n_le (by omega) (by omega)) (fun c_13 => absurd c_13 (by omega)) (fun c_13 => ?_)
    refine y_aload_n C D_X4_takeFigures_16 rfl ?_
    refine y_get C D_X4_takeFigures_17 fl_X4_18 (xc_o ha) rfl ?_
    refine y_aload_n C D_X4_takeFigures_20 rfl ?_
    refine y_get C D_X4_takeFigures_21 fl_X4_29 (xc_o ha) rfl ?_
    refine z_ild C D_X4_takeFigures_24 (xc_b ha) (by omega) (by decide) (tr_at (by omega)) ?_
    refine z_callS C D_X4_takeFigures_25 lk_X4_100 (c_X4_isFigure (by omega)) rfl rfl (Nat.le_of_ble_eq_true rfl) (Nat.le_of_ble_eq_true rfl) ⟨Nat.zero_le _, Nat.zero_le _⟩ ?_
    refine z_ifeqB C D_X4_takeFigures_28 (fun c_28 => ?_) (fun c_28 => ?_)
    · rw [if_neg c_28, if_neg c_28] at K
      exact K
    · refine y_aload_n C D_X4_takeFigures_31 rfl ?_
      refine y_get C D_X4_takeFigures_32 fl_X4_29 (xc_o ha) rfl ?_
      refine y_aload_n C D_X4_takeFigures_35 rfl ?_
      refine y_get C D_X4_takeFigures_36 fl_X4_42 (xc_o ha) rfl ?_
      refine z_isub C D_X4_takeFigures_39 (by omega) ?_
      refine y_iconst C D_X4_takeFigures_40 ki_2 ?_
      refine y_icmp_ge C D_X4_takeFigures_41 (n_le (by omega) (by omega)) (fun c_41 => ?_) (fun c_41 => ?_)
      · refine y_aload_n C D_X4_takeFigures_68 rfl ?_
        refine y_dup C D_X4_takeFigures_69 rfl ?_
        refine y_get C D_X4_takeFigures_70 fl_X4_29 (xc_o ha) rfl ?_
        refine y_iconst C D_X4_takeFigures_73 ki_1 ?_
        refine z_iadd C D_X4_takeFigures_74 ?_
        refine y_put C D_X4_takeFigures_75 fl_X4_29 (xc_o ha) (Nat.le_of_ble_eq_true rfl) rfl rfl (xc_pbehind _) ?_
        refine y_goto C D_X4_takeFigures_78 ?_
        rw [if_pos c_28, if_pos c_28, if_neg (by omega)] at K
        exact ih (p + 1) _ (by omega) (by omega) K
      · refine y_aload_n C D_X4_takeFigures_44 rfl ?_
        refine y_aload_n C D_X4_takeFigures_45 rfl ?_
        refine y_get C D_X4_takeFigures_46 fl_X4_97 (xc_o ha) rfl ?_
        refine y_bipush C D_X4_takeFigures_49 kb_10 ?_
        refine z_imul C D_X4_takeFigures_51 ?_
        refine y_aload_n C D_X4_takeFigures_52 rfl ?_
        refine y_get C D_X4_takeFigures_53 fl_X4_18 (xc_o ha) rfl ?_
        refine y_aload_n C D_X4_takeFigures_56 rfl ?_
        refine y_get C D_X4_takeFigures_57 fl_X4_29 (xc_o ha) rfl ?_
        refine z_ild C D_X4_takeFigures_60 (xc_b ha) (by omega) (by decide) (tr_at (by omega)) ?_
        refine z_iadd C D_X4_takeFigures_61 ?_
        refine y_bipush C D_X4_takeFigures_62 kb_48 ?_
        refine z_isub C D_X4_takeFigures_64 (by omega) ?_
        refine y_put C D_X4_takeFigures_65 fl_X4_97 (xc_o ha) (Nat.le_of_ble_eq_true rfl) rfl rfl (xc_pvalue _) ?_
        refine y_aload_n C D_X4_takeFigures_68 rfl ?_
        refine y_dup C D_X4_takeFigures_69 rfl ?_
        refine y_get C D_X4_takeFigures_70 fl_X4_29 (xc_o ha) rfl ?_
        refine y_iconst C D_X4_takeFigures_73 ki_1 ?_
        refine z_iadd C D_X4_takeFigures_74 ?_
        refine y_put C D_X4_takeFigures_75 fl_X4_29 (xc_o ha) (Nat.le_of_ble_eq_true rfl) rfl rfl (xc_pbehind _) ?_
        refine y_goto C D_X4_takeFigures_78 ?_
        rw [if_pos c_28, if_pos c_28, if_pos (by omega)] at K
        exact ih (p + 1) _ (by omega) (by omega) K
theorem c_X4_takeFigures (ha : 6 < h.length) (hn : n ≤ 120) (hs1 : s ≤ n) (hb : ∀ k, b k < 256) : Ct l G yX4_takeFigures 1 [qr G 2] (xc G h n lf (s) (s) (v) (x) (tok) b) none (xc G h n lf (s) (dE b n s) (cv b s (n - s) s 0) (x) (if 2 < dE b n s - s then -3 else -2) b) := by
  have hge := de_ge b n (n - s) s
  have hle := de_le b n (n - s) s
  refine ctm_intro (maxL := 1) kw_X4_takeFigures (by decide) (by decide) [some (qr G 2)] rfl (Nat.le_of_ble_eq_true rfl) ?_
  intro X _ hcl hsl _ _ C E
  refine y_aload_n C D_X4_takeFigures_0 rfl ?_
  refine y_iconst C D_X4_takeFigures_1 ki_0 ?_
  refine y_put C D_X4_takeFigures_2 fl_X4_97 (xc_o ha) (Nat.le_of_ble_eq_true rfl) rfl rfl (xc_pvalue _) ?_
  refine lp_X4_takeFigures ha hn hb C (n - s) s 0 (by omega) (Nat.le_refl _) ?_
  refine y_aload_n C D_X4_takeFigures_81 rfl ?_
  refine y_aload_n C D_X4_takeFigures_82 rfl ?_
  refine y_get C D_X4_takeFigures_83 fl_X4_29 (xc_o ha) rfl ?_
  refine y_aload_n C D_X4_takeFigures_86 rfl ?_
  refine y_get C D_X4_takeFigures_87 fl_X4_42 (xc_o ha) rfl ?_
  refine z_isub C D_X4_takeFigures_90 (by omega) ?_
  refine y_iconst C D_X4_takeFigures_91 ki_2 ?_
  refine y_icmp_le C D_X4_takeFigures_92 (n_le (by omega) (by omega)) (fun c_92 => ?_) (fun c_92 => ?_)
  · refine y_bipush C D_X4_takeFigures_100 kb_m2 ?_
    refine y_put C D_X4_takeFigures_102 fl_X4_72 (xc_o ha) (Nat.le_of_ble_eq_true rfl) rfl rfl (xc_ptoken _) ?_
    exact y_vret C E D_X4_takeFigures_105 (by rw [if_neg (by unfold dE; omega)])
  · refine y_bipush C D_X4_takeFigures_95 kb_m3 ?_
    refine y_goto C D_X4_takeFigures_97 ?_
    refine y_put C D_X4_takeFigures_102 fl_X4_72 (xc_o ha) (Nat.le_of_ble_eq_true rfl) rfl rfl (xc_ptoken _) ?_
    exact y_vret C E D_X4_takeFigures_105 (by rw [if_pos (by unfold dE; omega)])
theorem c_X4_nextToken (ha : 6 < h.length) (hn : n ≤ 120) (he : e ≤ n) (hb : ∀ k, b k < 256) : Ct l G yX4_nextToken 2 [qr G 2] (xc G h n lf s e v x tok b) none (xc G h n lf (e) (tkN b n e) (cvV b n e v) (x) (ctk b n e) b) := by
  have hbe := hb e
  refine ctm_intro (maxL := 2) kw_X4_nextToken (by decide) (by decide) [some (qr G 2), none] rfl (Nat.le_of_ble_eq_true rfl) ?_
  intro X _ hcl hsl _ _ C E
  refine y_aload_n C D_X4_nextToken_0 rfl ?_
  refine y_aload_n C D_X4_nextToken_1 rfl ?_
  refine y_get C D_X4_nextToken_2 fl_X4_29 (xc_o ha) rfl ?_
  refine y_put C D_X4_nextToken_5 fl_X4_42 (xc_o ha) (Nat.le_of_ble_eq_true rfl) rfl rfl (xc_pstart _) ?_
  refine y_aload_n C D_X4_nextToken_8 rfl ?_
  refine y_get C D_X4_nextToken_9 fl_X4_42 (xc_o ha) rfl ?_
  refine y_aload_n C D_X4_nextToken_12 rfl ?_
  refine y_get C D_X4_nextToken_13 fl_X4_22 (xc_o ha) rfl ?_
  refine y_icmp_lt C D_X4_nextToken_16 (n_lt (by omega) (by omega)) (fun c_16 => ?_) (fun c_16 => ?_)
  · refine y_aload_n C D_X4_nextToken_25 rfl ?_
    refine y_get C D_X4_nextToken_26 fl_X4_18 (xc_o ha) rfl ?_
    refine y_aload_n C D_X4_nextToken_29 rfl ?_
    refine y_get C D_X4_nextToken_30 fl_X4_42 (xc_o ha) rfl ?_
    refine z_ild C D_X4_nextToken_33 (xc_b ha) (by omega) (by decide) (tr_at (by omega)) ?_
    refine y_istore_n C D_X4_nextToken_34 (by decide) (qok_s rfl rfl) ?_
    refine y_iload_n C D_X4_nextToken_35 rfl ?_
    refine z_callS C D_X4_nextToken_36 lk_X4_100 (c_X4_isFigure (by omega)) rfl rfl (Nat.le_of_ble_eq_true rfl) (Nat.le_of_ble_eq_true rfl) ⟨Nat.zero_le _, Nat.zero_le _⟩ ?_
    refine z_ifeqB C D_X4_nextToken_39 (fun c_39 => ?_) (fun c_39 => ?_)
    · refine y_aload_n C D_X4_nextToken_47 rfl ?_
      refine y_aload_n C D_X4_nextToken_48 rfl ?_
      refine y_get C D_X4_nextToken_49 fl_X4_42 (xc_o ha) rfl ?_
      refine y_iconst C D_X4_nextToken_52 ki_1 ?_
      refine z_iadd C D_X4_nextToken_53 ?_
      refine y_put C D_X4_nextToken_54 fl_X4_29 (xc_o ha) (Nat.le_of_ble_eq_true rfl) rfl rfl (xc_pbehind _) ?_
      refine y_aload_n C D_X4_nextToken_57 rfl ?_
      refine y_iload_n C D_X4_nextToken_58 rfl ?_
      refine y_bipush C D_X4_nextToken_59 kb_97 ?_
      refine y_icmp_lt C D_X4_nextToken_61 (n_lt (by omega) (by omega)) (fun c_61 => ?_) (fun c_61 => ?_)
      · refine y_iload_n C D_X4_nextToken_70 rfl ?_
        refine y_bipush C D_X4_nextToken_71 kb_44 ?_
        refine y_icmp_eq C D_X4_nextToken_73 (n_eq (by omega) (by omega)) (fun c_73 => ?_) (fun c_73 => ?_)
        · refine y_iload_n C D_X4_nextToken_82 rfl ?_
          refine y_goto C D_X4_nextToken_83 ?_
          refine y_put C D_X4_nextToken_88 fl_X4_72 (xc_o ha) (Nat.le_of_ble_eq_true rfl) rfl rfl (xc_ptoken _) ?_
          exact y_vret C E D_X4_nextToken_91 (by have z := tk_sgn (v := v) c_16 c_39; rw [z.1, z.2.1, z.2.2, if_pos (Or.inr (Or.inl c_73))])
        · refine y_iload_n C D_X4_nextToken_76 rfl ?_
          refine y_bipush C D_X4_nextToken_77 kb_59 ?_
          refine y_icmp_ne C D_X4_nextToken_79 (n_eq (by omega) (by omega)) (fun c_79 => ?_) (fun c_79 => ?_)
          · refine y_bipush C D_X4_nextToken_86 kb_m3 ?_
            refine y_put C D_X4_nextToken_88 fl_X4_72 (xc_o ha) (Nat.le_of_ble_eq_true rfl) rfl rfl (xc_ptoken _) ?_
            exact y_vret C E D_X4_nextToken_91 (by have z := tk_sgn (v := v) c_16 c_39; rw [z.1, z.2.1, z.2.2, if_neg (by omega)])
          · refine y_iload_n C D_X4_nextToken_82 rfl ?_
            refine y_goto C D_X4_nextToken_83 ?_
            refine y_put C D_X4_nextToken_88 fl_X4_72 (xc_o ha) (Nat.le_of_ble_eq_true rfl) rfl rfl (xc_ptoken _) ?_
            exact y_vret C E D_X4_nextToken_91 (by have z := tk_sgn (v := v) c_16 c_39; rw [z.1, z.2.1, z.2.2, if_pos (Or.inr (Or.inr c_79))])
      · refine y_iload_n C D_X4_nextToken_64 rfl ?_
        refine y_bipush C D_X4_nextToken_65 kb_122 ?_
        refine y_icmp_le C D_X4_nextToken_67 (n_le (by omega) (by omega)) (fun c_67 => ?_) (fun c_67 => ?_)
        · refine y_iload_n C D_X4_nextToken_82 rfl ?_
          refine y_goto C D_X4_nextToken_83 ?_
          refine y_put C D_X4_nextToken_88 fl_X4_72 (xc_o ha) (Nat.le_of_ble_eq_true rfl) rfl rfl (xc_ptoken _) ?_
          exact y_vret C E D_X4_nextToken_91 (by have z := tk_sgn (v := v) c_16 c_39; rw [z.1, z.2.1, z.2.2, if_pos (Or.inl ⟨by omega, c_67⟩)])
        · refine y_iload_n C D_X4_nextToken_70 rfl ?_
          refine y_bipush C D_X4_nextToken_71 kb_44 ?_
          refine y_icmp_eq C D_X4_nextToken_73 (n_eq (by omega) (by omega)) (fun c_73 => ?_) (fun c_73 => ?_)
          · refine y_iload_n C D_X4_nextToken_82 rfl ?_
            refine y_goto C D_X4_nextToken_83 ?_
            refine y_put C D_X4_nextToken_88 fl_X4_72 (xc_o ha) (Nat.le_of_ble_eq_true rfl) rfl rfl (xc_ptoken _) ?_
            exact y_vret C E D_X4_nextToken_91 (by have z := tk_sgn (v := v) c_16 c_39; rw [z.1, z.2.1, z.2.2, if_pos (Or.inr (Or.inl c_73))])
          · refine y_iload_n C D_X4_nextToken_76 rfl ?_
            refine y_bipush C D_X4_nextToken_77 kb_59 ?_
            refine y_icmp_ne C D_X4_nextToken_79 (n_eq (by omega) (by omega)) (fun c_79 => ?_) (fun c_79 => ?_)
            · refine y_bipush C D_X4_nextToken_86 kb_m3 ?_
              refine y_put C D_X4_nextToken_88 fl_X4_72 (xc_o ha) (Nat.le_of_ble_eq_true rfl) rfl rfl (xc_ptoken _) ?_
              exact y_vret C E D_X4_nextToken_91 (by have z := tk_sgn (v := v) c_16 c_39; rw [z.1, z.2.1, z.2.2, if_neg (by omega)])
            · refine y_iload_n C D_X4_nextToken_82 rfl ?_
              refine y_goto C D_X4_nextToken_83 ?_
              refine y_put C D_X4_nextToken_88 fl_X4_72 (xc_o ha) (Nat.le_of_ble_eq_true rfl) rfl rfl (xc_ptoken _) ?_
              exact y_vret C E D_X4_nextToken_91 (by have z := tk_sgn (v := v) c_16 c_39; rw [z.1, z.2.1, z.2.2, if_pos (Or.inr (Or.inr c_79))])
    · refine y_aload_n C D_X4_nextToken_42 rfl ?_
      refine z_callVv C D_X4_nextToken_43 lk_X4_103 (c_X4_takeFigures ha hn (by omega) hb) (xc_o ha) rfl rfl (Nat.le_of_ble_eq_true rfl) (Nat.le_of_ble_eq_true rfl) ⟨Nat.zero_le _, Nat.zero_le _⟩ ?_
      exact y_vret C E D_X4_nextToken_46 (by have z := tk_num (v := v) c_16 c_39; rw [z.1, z.2.1, z.2.2])
  · refine y_aload_n C D_X4_nextToken_19 rfl ?_
    refine y_iconst C D_X4_nextToken_20 ki_m1 ?_
    refine y_put C D_X4_nextToken_21 fl_X4_72 (xc_o ha) (Nat.le_of_ble_eq_true rfl) rfl rfl (xc_ptoken _) ?_
    exact y_vret C E D_X4_nextToken_24 (by have e0 : e = n := (by omega); subst e0; have z := tk_end (b := b) (n := e) (v := v); rw [z.1, z.2.1, z.2.2.1])
abbrev tz (G : qG) (h : List va_E) (b : Nat → Nat) (n lf s v x : Nat) : List va_E := xc G h n lf s (tkN b n s) v x (ctk b n s) b
theorem c_X4_nt (ha : 6 < h.length) (hn : n ≤ 120) (hs1 : s ≤ n) (hb : ∀ k, b k < 256) : Ct l G yX4_nextToken 2 [qr G 2] (tz G h b n lf s v x) none (tz G h b n lf (tkN b n s) (cvV b n (tkN b n s) v) x) := c_X4_nextToken ha hn (tkN_le hs1) hb
theorem c_X4_takeSign1 (ha : 6 < h.length) (hn : n ≤ 120) (hs1 : s ≤ n) (hb : ∀ k, b k < 256) {c : Nat} (hc : c < 256) (ht : tks b n s c) : Ct l G yX4_takeSign 3 [qr G 2, .int (nI c)] (tz G h b n lf s v x) (some (.int (nI 1))) (tz G h b n lf (tkN b n s) (cvV b n (tkN b n s) v) x) := by
  refine ctm_intro (maxL := 2) kw_X4_takeSign (by decide) (by decide) [some (qr G 2), some (.int (nI c))] rfl (Nat.le_of_ble_eq_true rfl) ?_
  intro X _ hcl hsl _ _ C E
  refine y_aload_n C D_X4_takeSign_0 rfl ?_
  refine y_get C D_X4_takeSign_1 fl_X4_72 (xc_o ha) rfl ?_
  refine y_iload_n C D_X4_takeSign_4 rfl ?_
  refine y_icmp_eq C D_X4_takeSign_5 (ctk_c hb hc) (fun c_5 => ?_) (fun c_5 => absurd ht c_5)
  refine y_aload_n C D_X4_takeSign_14 rfl ?_
  refine z_callVv C D_X4_takeSign_15 lk_X4_32 (c_X4_nt ha hn hs1 hb) (xc_o ha) rfl rfl (Nat.le_of_ble_eq_true rfl) (Nat.le_of_ble_eq_true rfl) ⟨Nat.zero_le _, Nat.zero_le _⟩ ?_
  refine y_iconst C D_X4_takeSign_18 ki_1 ?_
  exact y_zret C E D_X4_takeSign_19 nar_1 (rfl) (rfl)
theorem c_X4_takeSign0 (ha : 6 < h.length) (hn : n ≤ 120) (hs1 : s ≤ n) (hb : ∀ k, b k < 256) {c : Nat} (hc : c < 256) (ht : ¬ tks b n s c) : Ct l G yX4_takeSign 3 [qr G 2, .int (nI c)] (tz G h b n lf s v x) (some (.int (nI 0))) (tz G h b n 1 s v x) := by
  refine ctm_intro (maxL := 2) kw_X4_takeSign (by decide) (by decide) [some (qr G 2), some (.int (nI c))] rfl (Nat.le_of_ble_eq_true rfl) ?_
  intro X _ hcl hsl _ _ C E
  refine y_aload_n C D_X4_takeSign_0 rfl ?_
  refine y_get C D_X4_takeSign_1 fl_X4_72 (xc_o ha) rfl ?_
  refine y_iload_n C D_X4_takeSign_4 rfl ?_
  refine y_icmp_eq C D_X4_takeSign_5 (ctk_c hb hc) (fun c_5 => absurd c_5 ht) (fun c_5 => ?_)
  refine y_aload_n C D_X4_takeSign_8 rfl ?_
  refine y_iconst C D_X4_takeSign_9 ki_1 ?_
  refine z_callV C D_X4_takeSign_10 lk_X4_81 (c_X4_fail ha) (xc_o ha) rfl rfl (Nat.le_of_ble_eq_true rfl) (Nat.le_of_ble_eq_true rfl) ⟨Nat.zero_le _, Nat.zero_le _⟩ ?_
  exact y_zret C E D_X4_takeSign_13 nar_0 (rfl) (rfl)
theorem c_X4_takeNumber1 (ha : 6 < h.length) (hn : n ≤ 120) (hs1 : s ≤ n) (hb : ∀ k, b k < 256) {lo hi : Nat} (hlo : lo < 100) (hhi : hi < 100) (hv : tkK b n s = 2 → v = tkV b n s) (ht : nP b n s lo hi) : Ct l G yX4_takeNumber 3 [qr G 2, .int (nI lo), .int (nI hi)] (tz G h b n lf s v x) (some (.int (nI 1))) (tz G h b n lf (tkN b n s) (cvV b n (tkN b n s) v) (tkV b n s)) := by
  refine ctm_intro (maxL := 3) kw_X4_takeNumber (by decide) (by decide) [some (qr G 2), some (.int (nI lo)), some (.int (nI hi))] rfl (Nat.le_of_ble_eq_true rfl) ?_
  intro X _ hcl hsl _ _ C E
  refine y_aload_n C D_X4_takeNumber_0 rfl ?_
  refine y_get C D_X4_takeNumber_1 fl_X4_72 (xc_o ha) rfl ?_
  refine y_bipush C D_X4_takeNumber_4 kb_m2 ?_
  refine y_icmp_eq C D_X4_takeNumber_6 (ctk_2 hb) (fun c_6 => ?_) (fun c_6 => absurd ht.1 c_6)
  have ev := hv c_6
  have hvv := tkV_le (n := n) (s := s) hb
  refine y_aload_n C D_X4_takeNumber_15 rfl ?_
  refine y_get C D_X4_takeNumber_16 fl_X4_97 (xc_o ha) rfl ?_
  refine y_iload_n C D_X4_takeNumber_19 rfl ?_
  refine y_icmp_lt C D_X4_takeNumber_20 (n_lt (by omega) (by omega)) (fun c_20 => absurd c_20 (by omega)) (fun c_20 => ?_)
  refine y_aload_n C D_X4_takeNumber_23 rfl ?_
  refine y_get C D_X4_takeNumber_24 fl_X4_97 (xc_o ha) rfl ?_
  refine y_iload_n C D_X4_takeNumber_27 rfl ?_
  refine y_icmp_le C D_X4_takeNumber_28 (n_le (by omega) (by omega)) (fun c_28 => ?_) (fun c_28 => absurd (by omega) c_28)
  refine y_aload_n C D_X4_takeNumber_37 rfl ?_
  refine y_aload_n C D_X4_takeNumber_38 rfl ?_
  refine y_get C D_X4_takeNumber_39 fl_X4_97 (xc_o ha) rfl ?_
  refine y_put C D_X4_takeNumber_42 fl_X4_53 (xc_o ha) (Nat.le_of_ble_eq_true rfl) rfl rfl (xc_ptaken _) ?_
  refine y_aload_n C D_X4_takeNumber_45 rfl ?_
  refine z_callVv C D_X4_takeNumber_46 lk_X4_32 (c_X4_nt ha hn hs1 hb) (xc_o ha) rfl rfl (Nat.le_of_ble_eq_true rfl) (Nat.le_of_ble_eq_true rfl) ⟨Nat.zero_le _, Nat.zero_le _⟩ ?_
  refine y_iconst C D_X4_takeNumber_49 ki_1 ?_
  exact y_zret C E D_X4_takeNumber_50 nar_1 (rfl) (by rw [ev])
theorem c_X4_takeNumberK (ha : 6 < h.length) (hn : n ≤ 120) (hs1 : s ≤ n) (hb : ∀ k, b k < 256) {lo hi : Nat} (ht : ¬ tkK b n s = 2) : Ct l G yX4_takeNumber 3 [qr G 2, .int (nI lo), .int (nI hi)] (tz G h b n lf s v x) (some (.int (nI 0))) (tz G h b n 1 s v x) := by
  refine ctm_intro (maxL := 3) kw_X4_takeNumber (by decide) (by decide) [some (qr G 2), some (.int (nI lo)), some (.int (nI hi))] rfl (Nat.le_of_ble_eq_true rfl) ?_
  intro X _ hcl hsl _ _ C E
  refine y_aload_n C D_X4_takeNumber_0 rfl ?_
  refine y_get C D_X4_takeNumber_1 fl_X4_72 (xc_o ha) rfl ?_
  refine y_bipush C D_X4_takeNumber_4 kb_m2 ?_
  refine y_icmp_eq C D_X4_takeNumber_6 (ctk_2 hb) (fun c_6 => absurd c_6 ht) (fun c_6 => ?_)
  refine y_aload_n C D_X4_takeNumber_9 rfl ?_
  refine y_iconst C D_X4_takeNumber_10 ki_1 ?_
  refine z_callV C D_X4_takeNumber_11 lk_X4_81 (c_X4_fail ha) (xc_o ha) rfl rfl (Nat.le_of_ble_eq_true rfl) (Nat.le_of_ble_eq_true rfl) ⟨Nat.zero_le _, Nat.zero_le _⟩ ?_
  exact y_zret C E D_X4_takeNumber_14 nar_0 (rfl) (rfl)
theorem c_X4_takeNumberR (ha : 6 < h.length) (hn : n ≤ 120) (hs1 : s ≤ n) (hb : ∀ k, b k < 256) {lo hi : Nat} (hlo : lo < 100) (hhi : hi < 100) (hv : tkK b n s = 2 → v = tkV b n s) (hk : tkK b n s = 2) (ht : ¬ nP b n s lo hi) : Ct l G yX4_takeNumber 3 [qr G 2, .int (nI lo), .int (nI hi)] (tz G h b n lf s v x) (some (.int (nI 0))) (tz G h b n 2 s v x) := by
  refine ctm_intro (maxL := 3) kw_X4_takeNumber (by decide) (by decide) [some (qr G 2), some (.int (nI lo)), some (.int (nI hi))] rfl (Nat.le_of_ble_eq_true rfl) ?_
  intro X _ hcl hsl _ _ C E
  refine y_aload_n C D_X4_takeNumber_0 rfl ?_
  refine y_get C D_X4_takeNumber_1 fl_X4_72 (xc_o ha) rfl ?_
  refine y_bipush C D_X4_takeNumber_4 kb_m2 ?_
  refine y_icmp_eq C D_X4_takeNumber_6 (ctk_2 hb) (fun c_6 => ?_) (fun c_6 => absurd hk c_6)
  have ev := hv c_6
  have hvv := tkV_le (n := n) (s := s) hb
  refine y_aload_n C D_X4_takeNumber_15 rfl ?_
  refine y_get C D_X4_takeNumber_16 fl_X4_97 (xc_o ha) rfl ?_
  refine y_iload_n C D_X4_takeNumber_19 rfl ?_
  refine y_icmp_lt C D_X4_takeNumber_20 (n_lt (by omega) (by omega)) (fun c_20 => ?_) (fun c_20 => ?_)
  · refine y_aload_n C D_X4_takeNumber_31 rfl ?_
    refine y_iconst C D_X4_takeNumber_32 ki_2 ?_
    refine z_callV C D_X4_takeNumber_33 lk_X4_81 (c_X4_fail ha) (xc_o ha) rfl rfl (Nat.le_of_ble_eq_true rfl) (Nat.le_of_ble_eq_true rfl) ⟨Nat.zero_le _, Nat.zero_le _⟩ ?_
    exact y_zret C E D_X4_takeNumber_36 nar_0 (rfl) (rfl)
  · refine y_aload_n C D_X4_takeNumber_23 rfl ?_
    refine y_get C D_X4_takeNumber_24 fl_X4_97 (xc_o ha) rfl ?_
    refine y_iload_n C D_X4_takeNumber_27 rfl ?_
    refine y_icmp_le C D_X4_takeNumber_28 (n_le (by omega) (by omega)) (fun c_28 => absurd ⟨hk, by omega, by omega⟩ ht) (fun c_28 => ?_)
    refine y_aload_n C D_X4_takeNumber_31 rfl ?_
    refine y_iconst C D_X4_takeNumber_32 ki_2 ?_
    refine z_callV C D_X4_takeNumber_33 lk_X4_81 (c_X4_fail ha) (xc_o ha) rfl rfl (Nat.le_of_ble_eq_true rfl) (Nat.le_of_ble_eq_true rfl) ⟨Nat.zero_le _, Nat.zero_le _⟩ ?_
    exact y_zret C E D_X4_takeNumber_36 nar_0 (rfl) (rfl)
theorem kT_ne {x : Int32} (h : x ≠ nI 100 ∧ x ≠ nI 109 ∧ x ≠ nI 115 ∧ x ≠ nI 116 ∧ x ≠ nI 119) : Op.lookupswitch.offset (#[(100, 51), (109, 59), (115, 57), (116, 53), (119, 55)] : Array (Int × Int)).toList 61 x.toInt = 61 := by
  have k0 : ∀ c : Nat, c < 256 → x ≠ nI c → ¬ ((c : Int) = x.toInt) := fun c hc hx e => hx (Int32.toInt_inj.mp (by rw [← e, nI_int (by omega)]))
  show Op.lookupswitch.offset [(100, 51), (109, 59), (115, 57), (116, 53), (119, 55)] 61 x.toInt = 61
  rw [Op.lookupswitch.offset_cons, if_neg (show ¬ (100 : Int) = x.toInt from k0 100 (by decide) h.1), Op.lookupswitch.offset_cons, if_neg (show ¬ (109 : Int) = x.toInt from k0 109 (by decide) h.2.1), Op.lookupswitch.offset_cons, if_neg (show ¬ (115 : Int) = x.toInt from k0 115 (by decide) h.2.2.1), Op.lookupswitch.offset_cons, if_neg (show ¬ (116 : Int) = x.toInt from k0 116 (by decide) h.2.2.2.1), Op.lookupswitch.offset_cons, if_neg (show ¬ (119 : Int) = x.toInt from k0 119 (by decide) h.2.2.2.2)]
  rfl
theorem c_X4_kindTold (hb : ∀ k, b k < 256) : Ct l G yX4_kindTold 0 [.int (ctk b n s)] h (some (.int (nI (kdT b n s)))) h := by
  refine ctm_intro (maxL := 1) kw_X4_kindTold (by decide) (by decide) [some (.int (ctk b n s))] rfl (Nat.le_of_ble_eq_true rfl) ?_
  intro X _ hcl hsl _ _ C E
  by_cases k0 : tks b n s 100
  · have e : ctk b n s = nI 100 := (ctk_c hb (by decide)).mpr k0
    rw [e]
    refine y_iload_n C D_X4_kindTold_0 rfl ?_
    refine y_lookup (off := 51) (tgt := 52) C D_X4_kindTold_1 (by decide +kernel) (by decide +kernel) (by decide) ?_
    refine y_iconst C D_X4_kindTold_52 ki_1 ?_
    exact y_iret C E D_X4_kindTold_53 (by rw [kdT, if_pos k0]) (rfl)
  · skip
    by_cases k1 : tks b n s 116
    · have e : ctk b n s = nI 116 := (ctk_c hb (by decide)).mpr k1
      rw [e]
      refine y_iload_n C D_X4_kindTold_0 rfl ?_
      refine y_lookup (off := 53) (tgt := 54) C D_X4_kindTold_1 (by decide +kernel) (by decide +kernel) (by decide) ?_
      refine y_iconst C D_X4_kindTold_54 ki_2 ?_
      exact y_iret C E D_X4_kindTold_55 (by rw [kdT, if_neg k0, if_pos k1]) (rfl)
    · skip
      by_cases k2 : tks b n s 119
      · have e : ctk b n s = nI 119 := (ctk_c hb (by decide)).mpr k2
        rw [e]
        refine y_iload_n C D_X4_kindTold_0 rfl ?_
        refine y_lookup (off := 55) (tgt := 56) C D_X4_kindTold_1 (by decide +kernel) (by decide +kernel) (by decide) ?_
        refine y_iconst C D_X4_kindTold_56 ki_3 ?_
        exact y_iret C E D_X4_kindTold_57 (by rw [kdT, if_neg k0, if_neg k1, if_pos k2]) (rfl)
      · skip
        by_cases k3 : tks b n s 115
        · have e : ctk b n s = nI 115 := (ctk_c hb (by decide)).mpr k3
          rw [e]
          refine y_iload_n C D_X4_kindTold_0 rfl ?_
          refine y_lookup (off := 57) (tgt := 58) C D_X4_kindTold_1 (by decide +kernel) (by decide +kernel) (by decide) ?_
          refine y_iconst C D_X4_kindTold_58 ki_4 ?_
          exact y_iret C E D_X4_kindTold_59 (by rw [kdT, if_neg k0, if_neg k1, if_neg k2, if_pos k3]) (rfl)
        · skip
          by_cases k4 : tks b n s 109
          · have e : ctk b n s = nI 109 := (ctk_c hb (by decide)).mpr k4
            rw [e]
            refine y_iload_n C D_X4_kindTold_0 rfl ?_
            refine y_lookup (off := 59) (tgt := 60) C D_X4_kindTold_1 (by decide +kernel) (by decide +kernel) (by decide) ?_
            refine y_iconst C D_X4_kindTold_60 ki_5 ?_
            exact y_iret C E D_X4_kindTold_61 (by rw [kdT, if_neg k0, if_neg k1, if_neg k2, if_neg k3, if_pos k4]) (rfl)
          · skip
            refine y_iload_n C D_X4_kindTold_0 rfl ?_
            refine y_lookup (off := 61) (tgt := 62) C D_X4_kindTold_1 (by decide +kernel) (kT_ne ⟨fun z => k0 ((ctk_c hb (by decide)).mp z), fun z => k4 ((ctk_c hb (by decide)).mp z), fun z => k3 ((ctk_c hb (by decide)).mp z), fun z => k1 ((ctk_c hb (by decide)).mp z), fun z => k2 ((ctk_c hb (by decide)).mp z)⟩) (by decide) ?_
            refine y_iconst C D_X4_kindTold_62 ki_0 ?_
            exact y_iret C E D_X4_kindTold_63 (by rw [kdT, if_neg k0, if_neg k1, if_neg k2, if_neg k3, if_neg k4]) (rfl)
end
