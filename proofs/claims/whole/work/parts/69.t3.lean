theorem pst_f {f : PS → PS} {z : Nat × (Nat → Nat) × Nat} : pst f (false, z) = (false, z) := rfl
theorem pst_t {f : PS → PS} {z : Nat × (Nat → Nat) × Nat} : pst f (true, z) = f (true, z) := rfl
theorem ps0_ok {t : Nat → Nat} {n w : Nat} {r0 : Nat → Nat} (h : tks t n 0 103) : ps0 t n w r0 = (true, tkN t n 0, r0, w) := by
  rw [ps0, tS, tW, if_pos h, if_pos h, decide_eq_true h]
theorem ps0_no {t : Nat → Nat} {n w : Nat} {r0 : Nat → Nat} (h : ¬ tks t n 0 103) : ps0 t n w r0 = (false, 0, r0, 1) := by
  rw [ps0, tS, tW, if_neg h, if_neg h, decide_eq_false h]
theorem psN_ok {t : Nat → Nat} {n lo hi at_ sg s w : Nat} {rd : Nat → Nat} {o : Bool} (h : nP t n s lo hi) (k : tks t n (tkN t n s) sg) : psN t n lo hi at_ sg (o, s, rd, w) = (true, tkN t n (tkN t n s), va_up rd at_ (tkV t n s), w) := by
  show (decide (nP t n s lo hi ∧ tks t n (tkN t n s) sg), nS t n s lo hi sg, nR t n s lo hi at_ rd, nW t n s lo hi sg w) = _
  rw [nS, nR, nW, if_pos h, if_pos h, if_pos h, tS, tW, if_pos k, if_pos k, decide_eq_true ⟨h, k⟩]
theorem psN_sg {t : Nat → Nat} {n lo hi at_ sg s w : Nat} {rd : Nat → Nat} {o : Bool} (h : nP t n s lo hi) (k : ¬ tks t n (tkN t n s) sg) : psN t n lo hi at_ sg (o, s, rd, w) = (false, tkN t n s, va_up rd at_ (tkV t n s), 1) := by
  show (decide (nP t n s lo hi ∧ tks t n (tkN t n s) sg), nS t n s lo hi sg, nR t n s lo hi at_ rd, nW t n s lo hi sg w) = _
  rw [nS, nR, nW, if_pos h, if_pos h, if_pos h, tS, tW, if_neg k, if_neg k, decide_eq_false (fun z => k z.2)]
theorem psN_no {t : Nat → Nat} {n lo hi at_ sg s w : Nat} {rd : Nat → Nat} {o : Bool} (h : ¬ nP t n s lo hi) : psN t n lo hi at_ sg (o, s, rd, w) = (false, s, rd, if tkK t n s = 2 then 2 else 1) := by
  show (decide (nP t n s lo hi ∧ tks t n (tkN t n s) sg), nS t n s lo hi sg, nR t n s lo hi at_ rd, nW t n s lo hi sg w) = _
  rw [nS, nR, nW, if_neg h, if_neg h, if_neg h, decide_eq_false (fun z => h z.1)]
theorem psN_md {t : Nat → Nat} {n lo hi at_ sg s w : Nat} {rd : Nat → Nat} {o : Bool} (h : nP t n s lo hi) : psN t n lo hi at_ sg (o, s, rd, w) = (decide (tks t n (tkN t n s) sg), tS t n (tkN t n s) sg, va_up rd at_ (tkV t n s), tW t n (tkN t n s) sg w) := by
  by_cases k : tks t n (tkN t n s) sg
  · rw [psN_ok h k, tS, tW, if_pos k, if_pos k, decide_eq_true k]
  · rw [psN_sg h k, tS, tW, if_neg k, if_neg k, decide_eq_false k]
theorem psN_okE {t : Nat → Nat} {n lo hi at_ sg s w s' s2 : Nat} {rd : Nat → Nat} {o : Bool} (h : nP t n s lo hi) (e : tkN t n s = s') (k : tks t n s' sg) (e2 : tkN t n s' = s2) : psN t n lo hi at_ sg (o, s, rd, w) = (true, s2, va_up rd at_ (tkV t n s), w) := by
  subst e; subst e2
  exact psN_ok h k
theorem psN_sgE {t : Nat → Nat} {n lo hi at_ sg s w s' : Nat} {rd : Nat → Nat} {o : Bool} (h : nP t n s lo hi) (e : tkN t n s = s') (k : ¬ tks t n s' sg) : psN t n lo hi at_ sg (o, s, rd, w) = (false, s', va_up rd at_ (tkV t n s), 1) := by
  subst e
  exact psN_sg h k
/-- the draft, by what the reference read -/
def dY (rd : Nat → Nat) : Nat → Nat := va_up rd 5 (2 ^ rd 0 - 1)
/-- the tape's end against the reference's -/
def Rz (b : Nat → Nat) (n lf : Nat) (q : PS) (lf2 s2 v2 : Nat) (y2 : Nat → Nat) : Prop := s2 = q.2.1 ∧ (q.1 = true → lf2 = lf ∧ (tkK b n s2 = 2 → v2 = tkV b n s2) ∧ ∀ k, k < 51 → y2 k = dY q.2.2.1 k) ∧ (¬ q.1 = true → lf2 = q.2.2.2)
section
variable {l : Launch} {G : qG} {h : List va_E} {n lf s e v x : Nat} {tok : Int32} {b y : Nat → Nat}
theorem xy : xc G (yc G h 3 y) n lf s e v x tok b = yc G (xc G h n lf s e v x tok b) 3 y := by
  unfold xc yc
  rw [List.set_comm _ _ (by decide : 3 + 2 ≠ 2), List.set_comm _ _ (by decide : 3 + 1 ≠ 2), List.set_comm _ _ (by decide : 3 ≠ 2), List.set_comm _ _ (by decide : 3 + 2 ≠ 6), List.set_comm _ _ (by decide : 3 + 1 ≠ 6), List.set_comm _ _ (by decide : 3 ≠ 6)]
theorem xy_o (ha : 6 < h.length) : (xc G (yc G h 3 y) n lf s e v x tok b)[3]? = some (.inr (5, yf G 3 y)) := (xc_n (by decide) (by decide)).trans (yc_o (by omega))
theorem xy_k (ha : 6 < h.length) : (xc G (yc G h 3 y) n lf s e v x tok b)[3 + 1]? = some (yk G y) := (xc_n (by decide) (by decide)).trans (yc_k (by omega))
theorem xy_w {j : Nat} (hj : j < 5) (w : Nat) : (xc G (yc G h 3 y) n lf s e v x tok b).set (3 + 1) (qI G 5 (upd (tr 5 (fun k => nI (y (6 + k)))) j (nI w))) = xc G (yc G h 3 (va_up y (6 + j) w)) n lf s e v x tok b := by
  rw [xy, xy, yc_wkinds hj]
theorem c_X4_rem (ha : 6 < h.length) {p g w : Nat} (h1 : p < 5) (h2 : g < 6) : Ct l G yX5_remember 1 [qr G 3, .int (nI p), .int (nI g), .int (nI w)] (xc G (yc G h 3 y) n lf s e v x tok b) none (xc G (yc G h 3 (va_up y (21 + 6 * p + g) w)) n lf s e v x tok b) := by
  rw [xy, xy]
  exact c_X5_remember (by rw [xc_len]; omega) h1 h2
theorem c_X4_clr (ha : 6 < h.length) : Ct l G yX5_clear 1 [qr G 3] (xc G (yc G h 3 y) n lf s e v x tok b) none (xc G (yc G h 3 (fun _ => 0)) n lf s e v x tok b) := by
  rw [xy, xy]
  exact c_X5_clear (by rw [xc_len]; omega)
theorem xy_pgraves (w : Nat) : (xc G (yc G h 3 y) n lf s e v x tok b).set 3 (.inr (5, (yf G 3 y).set 0 (.int (nI w)))) = xc G (yc G h 3 (va_up y 0 w)) n lf s e v x tok b := by
  rw [xy, xy, yc_pgraves]
theorem xy_pleast (w : Nat) : (xc G (yc G h 3 y) n lf s e v x tok b).set 3 (.inr (5, (yf G 3 y).set 1 (.int (nI w)))) = xc G (yc G h 3 (va_up y 1 w)) n lf s e v x tok b := by
  rw [xy, xy, yc_pleast]
theorem xy_pshare (w : Nat) : (xc G (yc G h 3 y) n lf s e v x tok b).set 3 (.inr (5, (yf G 3 y).set 2 (.int (nI w)))) = xc G (yc G h 3 (va_up y 2 w)) n lf s e v x tok b := by
  rw [xy, xy, yc_pshare]
theorem xy_psleepers (w : Nat) : (xc G (yc G h 3 y) n lf s e v x tok b).set 3 (.inr (5, (yf G 3 y).set 3 (.int (nI w)))) = xc G (yc G h 3 (va_up y 3 w)) n lf s e v x tok b := by
  rw [xy, xy, yc_psleepers]
theorem xy_pkept (w : Nat) : (xc G (yc G h 3 y) n lf s e v x tok b).set 3 (.inr (5, (yf G 3 y).set 5 (.int (nI w)))) = xc G (yc G h 3 (va_up y 5 w)) n lf s e v x tok b := by
  rw [xy, xy, yc_pkept]
theorem c_X4_takeNumber0 (ha : 6 < h.length) (hn : n ≤ 120) (hs1 : s ≤ n) (hb : ∀ k, b k < 256) {lo hi : Nat} (hlo : lo < 100) (hhi : hi < 100) (hv : tkK b n s = 2 → v = tkV b n s) (ht : ¬ nP b n s lo hi) : Ct l G yX4_takeNumber 3 [qr G 2, .int (nI lo), .int (nI hi)] (tz G h b n lf s v x) (some (.int (nI 0))) (tz G h b n (if tkK b n s = 2 then 2 else 1) s v x) := by
  by_cases k : tkK b n s = 2
  · rw [if_pos k]
    exact c_X4_takeNumberR ha hn hs1 hb hlo hhi hv k ht
  · rw [if_neg k]
    exact c_X4_takeNumberK ha hn hs1 hb k
theorem c_X4_takeSign1e (ha : 6 < h.length) (hn : n ≤ 120) (hs1 : s ≤ n) (hb : ∀ k, b k < 256) {c s' : Nat} (hc : c < 256) (ht : tks b n s c) (e : tkN b n s = s') : Ct l G yX4_takeSign 3 [qr G 2, .int (nI c)] (tz G h b n lf s v x) (some (.int (nI 1))) (tz G h b n lf s' (cvV b n s' v) x) := by
  subst e
  exact c_X4_takeSign1 ha hn hs1 hb hc ht
theorem c_X4_takeNumber1e (ha : 6 < h.length) (hn : n ≤ 120) (hs1 : s ≤ n) (hb : ∀ k, b k < 256) {lo hi : Nat} (hlo : lo < 100) (hhi : hi < 100) (hv : tkK b n s = 2 → v = tkV b n s) {s' : Nat} (ht : nP b n s lo hi) (e : tkN b n s = s') : Ct l G yX4_takeNumber 3 [qr G 2, .int (nI lo), .int (nI hi)] (tz G h b n lf s v x) (some (.int (nI 1))) (tz G h b n lf s' (cvV b n s' v) (tkV b n s)) := by
  subst e
  exact c_X4_takeNumber1 ha hn hs1 hb hlo hhi hv ht
theorem c_X4_readLaw (ha : 6 < h.length) (hn : n ≤ 120) (hb : ∀ k, b k < 256) {w : Nat} {r0 : Nat → Nat} (hv : tkK b n 0 = 2 → v = tkV b n 0) (hy : ∀ k, k < 51 → y k = r0 k) : ∃ lf2 s2 v2 x2 y2, Rz b n lf (psG b n w r0) lf2 s2 v2 y2 ∧ ((psG b n w r0).1 = true → 1 ≤ (psG b n w r0).2.2.1 0 ∧ (psG b n w r0).2.2.1 0 ≤ 6 ∧ (psG b n w r0).2.2.1 3 = r0 3 ∧ (psG b n w r0).2.2.2 = w ∧ (psG b n w r0).2.1 ≤ n) ∧ Ct l G yX4_readLaw 4 [qr G 2] (tz G (yc G h 3 (y)) b n (lf) 0 v x) (some (.int (bI ((psG b n w r0).1 = true)))) (tz G (yc G h 3 (y2)) b n (lf2) s2 v2 x2) := by
  have ha' : ∀ z, 6 < (yc G h 3 z).length := fun z => by rw [yc_len]; exact ha
  have l0 : 0 ≤ n := Nat.zero_le _
  obtain ⟨s1, e1⟩ : ∃ z, tkN b n 0 = z := ⟨_, rfl⟩
  have l1 : s1 ≤ n := e1 ▸ tkN_le l0
  obtain ⟨s2, e2⟩ : ∃ z, tkN b n s1 = z := ⟨_, rfl⟩
  have l2 : s2 ≤ n := e2 ▸ tkN_le l1
  obtain ⟨s3, e3⟩ : ∃ z, tkN b n s2 = z := ⟨_, rfl⟩
  have l3 : s3 ≤ n := e3 ▸ tkN_le l2
  obtain ⟨s4, e4⟩ : ∃ z, tkN b n s3 = z := ⟨_, rfl⟩
  have l4 : s4 ≤ n := e4 ▸ tkN_le l3
  obtain ⟨s5, e5⟩ : ∃ z, tkN b n s4 = z := ⟨_, rfl⟩
  have l5 : s5 ≤ n := e5 ▸ tkN_le l4
  obtain ⟨s6, e6⟩ : ∃ z, tkN b n s5 = z := ⟨_, rfl⟩
  have l6 : s6 ≤ n := e6 ▸ tkN_le l5
  obtain ⟨s7, e7⟩ : ∃ z, tkN b n s6 = z := ⟨_, rfl⟩
  have l7 : s7 ≤ n := e7 ▸ tkN_le l6
  by_cases a0 : tks b n 0 103
  case neg =>
    have hq : psG b n w r0 = (false, 0, r0, 1) := by rw [psG, ps0_no a0, pst_f, pst_f, pst_f]
    rw [hq]
    refine ⟨1, 0, v, x, y, ⟨rfl, fun z => absurd (show false = true from z) (by decide), fun _ => rfl⟩, fun z => absurd (show false = true from z) (by decide), ?_⟩
    · refine ctm_intro (maxL := 1) kw_X4_readLaw (by decide) (by decide) [some (qr G 2)] rfl (Nat.le_of_ble_eq_true rfl) ?_
      intro X _ hcl hsl _ _ C E
      refine y_aload_n C D_X4_readLaw_0 rfl ?_
      refine y_bipush C D_X4_readLaw_1 kb_103 ?_
      refine z_callV C D_X4_readLaw_3 lk_X4_45 (c_X4_takeSign0 (ha' _) hn l0 hb (by decide) a0) (xc_o (ha' _)) rfl rfl (Nat.le_of_ble_eq_true rfl) (Nat.le_of_ble_eq_true rfl) ⟨Nat.zero_le _, Nat.zero_le _⟩ ?_
      refine z_ifeq0 C D_X4_readLaw_6 ?_
      refine y_iconst C D_X4_readLaw_19 ki_0 ?_
      exact y_zret C E D_X4_readLaw_20 nar_0 (rfl) (rfl)
  by_cases a1 : nP b n s1 1 6
  case neg =>
    have hq : psG b n w r0 = (false, s1, r0, if tkK b n s1 = 2 then 2 else 1) := by rw [psG, ps0_ok a0, e1, pst_t, psN_no a1, pst_f, pst_f]
    rw [hq]
    refine ⟨(if tkK b n s1 = 2 then 2 else 1), s1, (cvV b n s1 v), x, y, ⟨rfl, fun z => absurd (show false = true from z) (by decide), fun _ => rfl⟩, fun z => absurd (show false = true from z) (by decide), ?_⟩
    · refine ctm_intro (maxL := 1) kw_X4_readLaw (by decide) (by decide) [some (qr G 2)] rfl (Nat.le_of_ble_eq_true rfl) ?_
      intro X _ hcl hsl _ _ C E
      refine y_aload_n C D_X4_readLaw_0 rfl ?_
      refine y_bipush C D_X4_readLaw_1 kb_103 ?_
      refine z_callV C D_X4_readLaw_3 lk_X4_45 (c_X4_takeSign1e (ha' _) hn l0 hb (by decide) a0 e1) (xc_o (ha' _)) rfl rfl (Nat.le_of_ble_eq_true rfl) (Nat.le_of_ble_eq_true rfl) ⟨Nat.zero_le _, Nat.zero_le _⟩ ?_
      refine z_ifeq1 C D_X4_readLaw_6 ?_
      refine y_aload_n C D_X4_readLaw_9 rfl ?_
      refine y_iconst C D_X4_readLaw_10 ki_1 ?_
      refine y_bipush C D_X4_readLaw_11 kb_6 ?_
      refine z_callV C D_X4_readLaw_13 lk_X4_49 (c_X4_takeNumber0 (ha' _) hn l1 hb (by decide) (by decide) (fun z => cvV_ok z) a1) (xc_o (ha' _)) rfl rfl (Nat.le_of_ble_eq_true rfl) (Nat.le_of_ble_eq_true rfl) ⟨Nat.zero_le _, Nat.zero_le _⟩ ?_
      refine z_ifne0 C D_X4_readLaw_16 ?_
      refine y_iconst C D_X4_readLaw_19 ki_0 ?_
      exact y_zret C E D_X4_readLaw_20 nar_0 (rfl) (rfl)
  by_cases a2 : tks b n s2 44
  case neg =>
    have hq : psG b n w r0 = (false, s2, va_up r0 0 (tkV b n s1), 1) := by rw [psG, ps0_ok a0, e1, pst_t, psN_sgE a1 e2 a2, pst_f, pst_f]
    rw [hq]
    refine ⟨1, s2, (cvV b n s2 (cvV b n s1 v)), (tkV b n s1), va_up (va_up y 0 (tkV b n s1)) 5 (2 ^ (tkV b n s1) - 1), ⟨rfl, fun z => absurd (show false = true from z) (by decide), fun _ => rfl⟩, fun z => absurd (show false = true from z) (by decide), ?_⟩
    · refine ctm_intro (maxL := 1) kw_X4_readLaw (by decide) (by decide) [some (qr G 2)] rfl (Nat.le_of_ble_eq_true rfl) ?_
      intro X _ hcl hsl _ _ C E
      have hp1 : 1 ≤ 2 ^ tkV b n s1 := Nat.two_pow_pos _
      have hp2 := a1.2.2
      refine y_aload_n C D_X4_readLaw_0 rfl ?_
      refine y_bipush C D_X4_readLaw_1 kb_103 ?_
      refine z_callV C D_X4_readLaw_3 lk_X4_45 (c_X4_takeSign1e (ha' _) hn l0 hb (by decide) a0 e1) (xc_o (ha' _)) rfl rfl (Nat.le_of_ble_eq_true rfl) (Nat.le_of_ble_eq_true rfl) ⟨Nat.zero_le _, Nat.zero_le _⟩ ?_
      refine z_ifeq1 C D_X4_readLaw_6 ?_
      refine y_aload_n C D_X4_readLaw_9 rfl ?_
      refine y_iconst C D_X4_readLaw_10 ki_1 ?_
      refine y_bipush C D_X4_readLaw_11 kb_6 ?_
      refine z_callV C D_X4_readLaw_13 lk_X4_49 (c_X4_takeNumber1e (ha' _) hn l1 hb (by decide) (by decide) (fun z => cvV_ok z) a1 e2) (xc_o (ha' _)) rfl rfl (Nat.le_of_ble_eq_true rfl) (Nat.le_of_ble_eq_true rfl) ⟨Nat.zero_le _, Nat.zero_le _⟩ ?_
      refine z_ifne1 C D_X4_readLaw_16 ?_
      refine y_aload_n C D_X4_readLaw_21 rfl ?_
      refine y_get C D_X4_readLaw_22 fl_X4_12 (xc_o (ha' _)) rfl ?_
      refine y_aload_n C D_X4_readLaw_25 rfl ?_
      refine y_get C D_X4_readLaw_26 fl_X4_53 (xc_o (ha' _)) rfl ?_
      refine y_put C D_X4_readLaw_29 fl_X4_56 (xy_o ha) (Nat.le_of_ble_eq_true rfl) rfl rfl (xy_pgraves _) ?_
      refine y_aload_n C D_X4_readLaw_32 rfl ?_
      refine y_get C D_X4_readLaw_33 fl_X4_12 (xc_o (ha' _)) rfl ?_
      refine y_aload_n C D_X4_readLaw_36 rfl ?_
      refine y_get C D_X4_readLaw_37 fl_X4_53 (xc_o (ha' _)) rfl ?_
      refine z_callSN C D_X4_readLaw_40 lk_X4_59 (c_X6_bit (by omega)) rfl rfl (Nat.le_of_ble_eq_true rfl) (Nat.le_of_ble_eq_true rfl) ⟨Nat.zero_le _, Nat.zero_le _⟩ ?_
      refine y_iconst C D_X4_readLaw_43 ki_1 ?_
      refine z_isub C D_X4_readLaw_44 (by omega) ?_
      refine y_put C D_X4_readLaw_45 fl_X4_63 (xy_o ha) (Nat.le_of_ble_eq_true rfl) rfl rfl (xy_pkept _) ?_
      refine y_aload_n C D_X4_readLaw_48 rfl ?_
      refine y_bipush C D_X4_readLaw_49 kb_44 ?_
      refine z_callV C D_X4_readLaw_51 lk_X4_45 (c_X4_takeSign0 (ha' _) hn l2 hb (by decide) a2) (xc_o (ha' _)) rfl rfl (Nat.le_of_ble_eq_true rfl) (Nat.le_of_ble_eq_true rfl) ⟨Nat.zero_le _, Nat.zero_le _⟩ ?_
      refine z_ifeq0 C D_X4_readLaw_54 ?_
      refine y_iconst C D_X4_readLaw_67 ki_0 ?_
      exact y_zret C E D_X4_readLaw_68 nar_0 (rfl) (rfl)
  by_cases a3 : nP b n s3 1 9
  case neg =>
    have hq : psG b n w r0 = (false, s3, va_up r0 0 (tkV b n s1), if tkK b n s3 = 2 then 2 else 1) := by rw [psG, ps0_ok a0, e1, pst_t, psN_okE a1 e2 a2 e3, pst_t, psN_no a3, pst_f]
    rw [hq]
    refine ⟨(if tkK b n s3 = 2 then 2 else 1), s3, (cvV b n s3 (cvV b n s2 (cvV b n s1 v))), (tkV b n s1), va_up (va_up y 0 (tkV b n s1)) 5 (2 ^ (tkV b n s1) - 1), ⟨rfl, fun z => absurd (show false = true from z) (by decide), fun _ => rfl⟩, fun z => absurd (show false = true from z) (by decide), ?_⟩
    · refine ctm_intro (maxL := 1) kw_X4_readLaw (by decide) (by decide) [some (qr G 2)] rfl (Nat.le_of_ble_eq_true rfl) ?_
      intro X _ hcl hsl _ _ C E
      have hp1 : 1 ≤ 2 ^ tkV b n s1 := Nat.two_pow_pos _
      have hp2 := a1.2.2
      refine y_aload_n C D_X4_readLaw_0 rfl ?_
      refine y_bipush C D_X4_readLaw_1 kb_103 ?_
      refine z_callV C D_X4_readLaw_3 lk_X4_45 (c_X4_takeSign1e (ha' _) hn l0 hb (by decide) a0 e1) (xc_o (ha' _)) rfl rfl (Nat.le_of_ble_eq_true rfl) (Nat.le_of_ble_eq_true rfl) ⟨Nat.zero_le _, Nat.zero_le _⟩ ?_
      refine z_ifeq1 C D_X4_readLaw_6 ?_
      refine y_aload_n C D_X4_readLaw_9 rfl ?_
      refine y_iconst C D_X4_readLaw_10 ki_1 ?_
      refine y_bipush C D_X4_readLaw_11 kb_6 ?_
      refine z_callV C D_X4_readLaw_13 lk_X4_49 (c_X4_takeNumber1e (ha' _) hn l1 hb (by decide) (by decide) (fun z => cvV_ok z) a1 e2) (xc_o (ha' _)) rfl rfl (Nat.le_of_ble_eq_true rfl) (Nat.le_of_ble_eq_true rfl) ⟨Nat.zero_le _, Nat.zero_le _⟩ ?_
      refine z_ifne1 C D_X4_readLaw_16 ?_
      refine y_aload_n C D_X4_readLaw_21 rfl ?_
      refine y_get C D_X4_readLaw_22 fl_X4_12 (xc_o (ha' _)) rfl ?_
      refine y_aload_n C D_X4_readLaw_25 rfl ?_
      refine y_get C D_X4_readLaw_26 fl_X4_53 (xc_o (ha' _)) rfl ?_
      refine y_put C D_X4_readLaw_29 fl_X4_56 (xy_o ha) (Nat.le_of_ble_eq_true rfl) rfl rfl (xy_pgraves _) ?_
      refine y_aload_n C D_X4_readLaw_32 rfl ?_
      refine y_get C D_X4_readLaw_33 fl_X4_12 (xc_o (ha' _)) rfl ?_
      refine y_aload_n C D_X4_readLaw_36 rfl ?_
      refine y_get C D_X4_readLaw_37 fl_X4_53 (xc_o (ha' _)) rfl ?_
      refine z_callSN C D_X4_readLaw_40 lk_X4_59 (c_X6_bit (by omega)) rfl rfl (Nat.le_of_ble_eq_true rfl) (Nat.le_of_ble_eq_true rfl) ⟨Nat.zero_le _, Nat.zero_le _⟩ ?_
      refine y_iconst C D_X4_readLaw_43 ki_1 ?_
      refine z_isub C D_X4_readLaw_44 (by omega) ?_
      refine y_put C D_X4_readLaw_45 fl_X4_63 (xy_o ha) (Nat.le_of_ble_eq_true rfl) rfl rfl (xy_pkept _) ?_
      refine y_aload_n C D_X4_readLaw_48 rfl ?_
      refine y_bipush C D_X4_readLaw_49 kb_44 ?_
      refine z_callV C D_X4_readLaw_51 lk_X4_45 (c_X4_takeSign1e (ha' _) hn l2 hb (by decide) a2 e3) (xc_o (ha' _)) rfl rfl (Nat.le_of_ble_eq_true rfl) (Nat.le_of_ble_eq_true rfl) ⟨Nat.zero_le _, Nat.zero_le _⟩ ?_
      refine z_ifeq1 C D_X4_readLaw_54 ?_
      refine y_aload_n C D_X4_readLaw_57 rfl ?_
      refine y_iconst C D_X4_readLaw_58 ki_1 ?_
      refine y_bipush C D_X4_readLaw_59 kb_9 ?_
      refine z_callV C D_X4_readLaw_61 lk_X4_49 (c_X4_takeNumber0 (ha' _) hn l3 hb (by decide) (by decide) (fun z => cvV_ok z) a3) (xc_o (ha' _)) rfl rfl (Nat.le_of_ble_eq_true rfl) (Nat.le_of_ble_eq_true rfl) ⟨Nat.zero_le _, Nat.zero_le _⟩ ?_
      refine z_ifne0 C D_X4_readLaw_64 ?_
      refine y_iconst C D_X4_readLaw_67 ki_0 ?_
      exact y_zret C E D_X4_readLaw_68 nar_0 (rfl) (rfl)
  by_cases a4 : tks b n s4 44
  case neg =>
    have hq : psG b n w r0 = (false, s4, va_up (va_up r0 0 (tkV b n s1)) 1 (tkV b n s3), 1) := by rw [psG, ps0_ok a0, e1, pst_t, psN_okE a1 e2 a2 e3, pst_t, psN_sgE a3 e4 a4, pst_f]
    rw [hq]
    refine ⟨1, s4, (cvV b n s4 (cvV b n s3 (cvV b n s2 (cvV b n s1 v)))), (tkV b n s3), va_up (va_up (va_up y 0 (tkV b n s1)) 5 (2 ^ (tkV b n s1) - 1)) 1 (tkV b n s3), ⟨rfl, fun z => absurd (show false = true from z) (by decide), fun _ => rfl⟩, fun z => absurd (show false = true from z) (by decide), ?_⟩
    · refine ctm_intro (maxL := 1) kw_X4_readLaw (by decide) (by decide) [some (qr G 2)] rfl (Nat.le_of_ble_eq_true rfl) ?_
      intro X _ hcl hsl _ _ C E
      have hp1 : 1 ≤ 2 ^ tkV b n s1 := Nat.two_pow_pos _
      have hp2 := a1.2.2
      refine y_aload_n C D_X4_readLaw_0 rfl ?_
      refine y_bipush C D_X4_readLaw_1 kb_103 ?_
      refine z_callV C D_X4_readLaw_3 lk_X4_45 (c_X4_takeSign1e (ha' _) hn l0 hb (by decide) a0 e1) (xc_o (ha' _)) rfl rfl (Nat.le_of_ble_eq_true rfl) (Nat.le_of_ble_eq_true rfl) ⟨Nat.zero_le _, Nat.zero_le _⟩ ?_
      refine z_ifeq1 C D_X4_readLaw_6 ?_
      refine y_aload_n C D_X4_readLaw_9 rfl ?_
      refine y_iconst C D_X4_readLaw_10 ki_1 ?_
      refine y_bipush C D_X4_readLaw_11 kb_6 ?_
      refine z_callV C D_X4_readLaw_13 lk_X4_49 (c_X4_takeNumber1e (ha' _) hn l1 hb (by decide) (by decide) (fun z => cvV_ok z) a1 e2) (xc_o (ha' _)) rfl rfl (Nat.le_of_ble_eq_true rfl) (Nat.le_of_ble_eq_true rfl) ⟨Nat.zero_le _, Nat.zero_le _⟩ ?_
      refine z_ifne1 C D_X4_readLaw_16 ?_
      refine y_aload_n C D_X4_readLaw_21 rfl ?_
      refine y_get C D_X4_readLaw_22 fl_X4_12 (xc_o (ha' _)) rfl ?_
      refine y_aload_n C D_X4_readLaw_25 rfl ?_
      refine y_get C D_X4_readLaw_26 fl_X4_53 (xc_o (ha' _)) rfl ?_
      refine y_put C D_X4_readLaw_29 fl_X4_56 (xy_o ha) (Nat.le_of_ble_eq_true rfl) rfl rfl (xy_pgraves _) ?_
      refine y_aload_n C D_X4_readLaw_32 rfl ?_
      refine y_get C D_X4_readLaw_33 fl_X4_12 (xc_o (ha' _)) rfl ?_
      refine y_aload_n C D_X4_readLaw_36 rfl ?_
      refine y_get C D_X4_readLaw_37 fl_X4_53 (xc_o (ha' _)) rfl ?_
      refine z_callSN C D_X4_readLaw_40 lk_X4_59 (c_X6_bit (by omega)) rfl rfl (Nat.le_of_ble_eq_true rfl) (Nat.le_of_ble_eq_true rfl) ⟨Nat.zero_le _, Nat.zero_le _⟩ ?_
      refine y_iconst C D_X4_readLaw_43 ki_1 ?_
      refine z_isub C D_X4_readLaw_44 (by omega) ?_
      refine y_put C D_X4_readLaw_45 fl_X4_63 (xy_o ha) (Nat.le_of_ble_eq_true rfl) rfl rfl (xy_pkept _) ?_
      refine y_aload_n C D_X4_readLaw_48 rfl ?_
      refine y_bipush C D_X4_readLaw_49 kb_44 ?_
      refine z_callV C D_X4_readLaw_51 lk_X4_45 (c_X4_takeSign1e (ha' _) hn l2 hb (by decide) a2 e3) (xc_o (ha' _)) rfl rfl (Nat.le_of_ble_eq_true rfl) (Nat.le_of_ble_eq_true rfl) ⟨Nat.zero_le _, Nat.zero_le _⟩ ?_
      refine z_ifeq1 C D_X4_readLaw_54 ?_
      refine y_aload_n C D_X4_readLaw_57 rfl ?_
      refine y_iconst C D_X4_readLaw_58 ki_1 ?_
      refine y_bipush C D_X4_readLaw_59 kb_9 ?_
      refine z_callV C D_X4_readLaw_61 lk_X4_49 (c_X4_takeNumber1e (ha' _) hn l3 hb (by decide) (by decide) (fun z => cvV_ok z) a3 e4) (xc_o (ha' _)) rfl rfl (Nat.le_of_ble_eq_true rfl) (Nat.le_of_ble_eq_true rfl) ⟨Nat.zero_le _, Nat.zero_le _⟩ ?_
      refine z_ifne1 C D_X4_readLaw_64 ?_
      refine y_aload_n C D_X4_readLaw_69 rfl ?_
      refine y_get C D_X4_readLaw_70 fl_X4_12 (xc_o (ha' _)) rfl ?_
      refine y_aload_n C D_X4_readLaw_73 rfl ?_
      refine y_get C D_X4_readLaw_74 fl_X4_53 (xc_o (ha' _)) rfl ?_
      refine y_put C D_X4_readLaw_77 fl_X4_66 (xy_o ha) (Nat.le_of_ble_eq_true rfl) rfl rfl (xy_pleast _) ?_
      refine y_aload_n C D_X4_readLaw_80 rfl ?_
      refine y_bipush C D_X4_readLaw_81 kb_44 ?_
      refine z_callV C D_X4_readLaw_83 lk_X4_45 (c_X4_takeSign0 (ha' _) hn l4 hb (by decide) a4) (xc_o (ha' _)) rfl rfl (Nat.le_of_ble_eq_true rfl) (Nat.le_of_ble_eq_true rfl) ⟨Nat.zero_le _, Nat.zero_le _⟩ ?_
      refine z_ifeq0 C D_X4_readLaw_86 ?_
      refine y_iconst C D_X4_readLaw_99 ki_0 ?_
      exact y_zret C E D_X4_readLaw_100 nar_0 (rfl) (rfl)
  by_cases a5 : nP b n s5 2 9
  case neg =>
    have hq : psG b n w r0 = (false, s5, va_up (va_up r0 0 (tkV b n s1)) 1 (tkV b n s3), if tkK b n s5 = 2 then 2 else 1) := by rw [psG, ps0_ok a0, e1, pst_t, psN_okE a1 e2 a2 e3, pst_t, psN_okE a3 e4 a4 e5, pst_t, psN_no a5]
    rw [hq]
    refine ⟨(if tkK b n s5 = 2 then 2 else 1), s5, (cvV b n s5 (cvV b n s4 (cvV b n s3 (cvV b n s2 (cvV b n s1 v))))), (tkV b n s3), va_up (va_up (va_up y 0 (tkV b n s1)) 5 (2 ^ (tkV b n s1) - 1)) 1 (tkV b n s3), ⟨rfl, fun z => absurd (show false = true from z) (by decide), fun _ => rfl⟩, fun z => absurd (show false = true from z) (by decide), ?_⟩
    · refine ctm_intro (maxL := 1) kw_X4_readLaw (by decide) (by decide) [some (qr G 2)] rfl (Nat.le_of_ble_eq_true rfl) ?_
      intro X _ hcl hsl _ _ C E
      have hp1 : 1 ≤ 2 ^ tkV b n s1 := Nat.two_pow_pos _
      have hp2 := a1.2.2
      refine y_aload_n C D_X4_readLaw_0 rfl ?_
      refine y_bipush C D_X4_readLaw_1 kb_103 ?_
      refine z_callV C D_X4_readLaw_3 lk_X4_45 (c_X4_takeSign1e (ha' _) hn l0 hb (by decide) a0 e1) (xc_o (ha' _)) rfl rfl (Nat.le_of_ble_eq_true rfl) (Nat.le_of_ble_eq_true rfl) ⟨Nat.zero_le _, Nat.zero_le _⟩ ?_
      refine z_ifeq1 C D_X4_readLaw_6 ?_
      refine y_aload_n C D_X4_readLaw_9 rfl ?_
      refine y_iconst C D_X4_readLaw_10 ki_1 ?_
      refine y_bipush C D_X4_readLaw_11 kb_6 ?_
      refine z_callV C D_X4_readLaw_13 lk_X4_49 (c_X4_takeNumber1e (ha' _) hn l1 hb (by decide) (by decide) (fun z => cvV_ok z) a1 e2) (xc_o (ha' _)) rfl rfl (Nat.le_of_ble_eq_true rfl) (Nat.le_of_ble_eq_true rfl) ⟨Nat.zero_le _, Nat.zero_le _⟩ ?_
      refine z_ifne1 C D_X4_readLaw_16 ?_
      refine y_aload_n C D_X4_readLaw_21 rfl ?_
      refine y_get C D_X4_readLaw_22 fl_X4_12 (xc_o (ha' _)) rfl ?_
      refine y_aload_n C D_X4_readLaw_25 rfl ?_
      refine y_get C D_X4_readLaw_26 fl_X4_53 (xc_o (ha' _)) rfl ?_
      refine y_put C D_X4_readLaw_29 fl_X4_56 (xy_o ha) (Nat.le_of_ble_eq_true rfl) rfl rfl (xy_pgraves _) ?_
      refine y_aload_n C D_X4_readLaw_32 rfl ?_
      refine y_get C D_X4_readLaw_33 fl_X4_12 (xc_o (ha' _)) rfl ?_
      refine y_aload_n C D_X4_readLaw_36 rfl ?_
      refine y_get C D_X4_readLaw_37 fl_X4_53 (xc_o (ha' _)) rfl ?_
      refine z_callSN C D_X4_readLaw_40 lk_X4_59 (c_X6_bit (by omega)) rfl rfl (Nat.le_of_ble_eq_true rfl) (Nat.le_of_ble_eq_true rfl) ⟨Nat.zero_le _, Nat.zero_le _⟩ ?_
      refine y_iconst C D_X4_readLaw_43 ki_1 ?_
      refine z_isub C D_X4_readLaw_44 (by omega) ?_
      refine y_put C D_X4_readLaw_45 fl_X4_63 (xy_o ha) (Nat.le_of_ble_eq_true rfl) rfl rfl (xy_pkept _) ?_
      refine y_aload_n C D_X4_readLaw_48 rfl ?_
      refine y_bipush C D_X4_readLaw_49 kb_44 ?_
      refine z_callV C D_X4_readLaw_51 lk_X4_45 (c_X4_takeSign1e (ha' _) hn l2 hb (by decide) a2 e3) (xc_o (ha' _)) rfl rfl (Nat.le_of_ble_eq_true rfl) (Nat.le_of_ble_eq_true rfl) ⟨Nat.zero_le _, Nat.zero_le _⟩ ?_
      refine z_ifeq1 C D_X4_readLaw_54 ?_
      refine y_aload_n C D_X4_readLaw_57 rfl ?_
      refine y_iconst C D_X4_readLaw_58 ki_1 ?_
      refine y_bipush C D_X4_readLaw_59 kb_9 ?_
      refine z_callV C D_X4_readLaw_61 lk_X4_49 (c_X4_takeNumber1e (ha' _) hn l3 hb (by decide) (by decide) (fun z => cvV_ok z) a3 e4) (xc_o (ha' _)) rfl rfl (Nat.le_of_ble_eq_true rfl) (Nat.le_of_ble_eq_true rfl) ⟨Nat.zero_le _, Nat.zero_le _⟩ ?_
      refine z_ifne1 C D_X4_readLaw_64 ?_
      refine y_aload_n C D_X4_readLaw_69 rfl ?_
      refine y_get C D_X4_readLaw_70 fl_X4_12 (xc_o (ha' _)) rfl ?_
      refine y_aload_n C D_X4_readLaw_73 rfl ?_
      refine y_get C D_X4_readLaw_74 fl_X4_53 (xc_o (ha' _)) rfl ?_
      refine y_put C D_X4_readLaw_77 fl_X4_66 (xy_o ha) (Nat.le_of_ble_eq_true rfl) rfl rfl (xy_pleast _) ?_
      refine y_aload_n C D_X4_readLaw_80 rfl ?_
      refine y_bipush C D_X4_readLaw_81 kb_44 ?_
      refine z_callV C D_X4_readLaw_83 lk_X4_45 (c_X4_takeSign1e (ha' _) hn l4 hb (by decide) a4 e5) (xc_o (ha' _)) rfl rfl (Nat.le_of_ble_eq_true rfl) (Nat.le_of_ble_eq_true rfl) ⟨Nat.zero_le _, Nat.zero_le _⟩ ?_
      refine z_ifeq1 C D_X4_readLaw_86 ?_
      refine y_aload_n C D_X4_readLaw_89 rfl ?_
      refine y_iconst C D_X4_readLaw_90 ki_2 ?_
      refine y_bipush C D_X4_readLaw_91 kb_9 ?_
      refine z_callV C D_X4_readLaw_93 lk_X4_49 (c_X4_takeNumber0 (ha' _) hn l5 hb (by decide) (by decide) (fun z => cvV_ok z) a5) (xc_o (ha' _)) rfl rfl (Nat.le_of_ble_eq_true rfl) (Nat.le_of_ble_eq_true rfl) ⟨Nat.zero_le _, Nat.zero_le _⟩ ?_
      refine z_ifne0 C D_X4_readLaw_96 ?_
      refine y_iconst C D_X4_readLaw_99 ki_0 ?_
      exact y_zret C E D_X4_readLaw_100 nar_0 (rfl) (rfl)
  by_cases a6 : tks b n s6 59
  case neg =>
    have hq : psG b n w r0 = (false, s6, va_up (va_up (va_up r0 0 (tkV b n s1)) 1 (tkV b n s3)) 2 (tkV b n s5), 1) := by rw [psG, ps0_ok a0, e1, pst_t, psN_okE a1 e2 a2 e3, pst_t, psN_okE a3 e4 a4 e5, pst_t, psN_sgE a5 e6 a6]
    rw [hq]
    refine ⟨1, s6, (cvV b n s6 (cvV b n s5 (cvV b n s4 (cvV b n s3 (cvV b n s2 (cvV b n s1 v)))))), (tkV b n s5), va_up (va_up (va_up (va_up y 0 (tkV b n s1)) 5 (2 ^ (tkV b n s1) - 1)) 1 (tkV b n s3)) 2 (tkV b n s5), ⟨rfl, fun z => absurd (show false = true from z) (by decide), fun _ => rfl⟩, fun z => absurd (show false = true from z) (by decide), ?_⟩
    · refine ctm_intro (maxL := 1) kw_X4_readLaw (by decide) (by decide) [some (qr G 2)] rfl (Nat.le_of_ble_eq_true rfl) ?_
      intro X _ hcl hsl _ _ C E
      have hp1 : 1 ≤ 2 ^ tkV b n s1 := Nat.two_pow_pos _
      have hp2 := a1.2.2
      refine y_aload_n C D_X4_readLaw_0 rfl ?_
      refine y_bipush C D_X4_readLaw_1 kb_103 ?_
      refine z_callV C D_X4_readLaw_3 lk_X4_45 (c_X4_takeSign1e (ha' _) hn l0 hb (by decide) a0 e1) (xc_o (ha' _)) rfl rfl (Nat.le_of_ble_eq_true rfl) (Nat.le_of_ble_eq_true rfl) ⟨Nat.zero_le _, Nat.zero_le _⟩ ?_
      refine z_ifeq1 C D_X4_readLaw_6 ?_
      refine y_aload_n C D_X4_readLaw_9 rfl ?_
      refine y_iconst C D_X4_readLaw_10 ki_1 ?_
      refine y_bipush C D_X4_readLaw_11 kb_6 ?_
      refine z_callV C D_X4_readLaw_13 lk_X4_49 (c_X4_takeNumber1e (ha' _) hn l1 hb (by decide) (by decide) (fun z => cvV_ok z) a1 e2) (xc_o (ha' _)) rfl rfl (Nat.le_of_ble_eq_true rfl) (Nat.le_of_ble_eq_true rfl) ⟨Nat.zero_le _, Nat.zero_le _⟩ ?_
      refine z_ifne1 C D_X4_readLaw_16 ?_
      refine y_aload_n C D_X4_readLaw_21 rfl ?_
      refine y_get C D_X4_readLaw_22 fl_X4_12 (xc_o (ha' _)) rfl ?_
      refine y_aload_n C D_X4_readLaw_25 rfl ?_
      refine y_get C D_X4_readLaw_26 fl_X4_53 (xc_o (ha' _)) rfl ?_
      refine y_put C D_X4_readLaw_29 fl_X4_56 (xy_o ha) (Nat.le_of_ble_eq_true rfl) rfl rfl (xy_pgraves _) ?_
      refine y_aload_n C D_X4_readLaw_32 rfl ?_
      refine y_get C D_X4_readLaw_33 fl_X4_12 (xc_o (ha' _)) rfl ?_
      refine y_aload_n C D_X4_readLaw_36 rfl ?_
      refine y_get C D_X4_readLaw_37 fl_X4_53 (xc_o (ha' _)) rfl ?_
      refine z_callSN C D_X4_readLaw_40 lk_X4_59 (c_X6_bit (by omega)) rfl rfl (Nat.le_of_ble_eq_true rfl) (Nat.le_of_ble_eq_true rfl) ⟨Nat.zero_le _, Nat.zero_le _⟩ ?_
      refine y_iconst C D_X4_readLaw_43 ki_1 ?_
      refine z_isub C D_X4_readLaw_44 (by omega) ?_
      refine y_put C D_X4_readLaw_45 fl_X4_63 (xy_o ha) (Nat.le_of_ble_eq_true rfl) rfl rfl (xy_pkept _) ?_
      refine y_aload_n C D_X4_readLaw_48 rfl ?_
      refine y_bipush C D_X4_readLaw_49 kb_44 ?_
      refine z_callV C D_X4_readLaw_51 lk_X4_45 (c_X4_takeSign1e (ha' _) hn l2 hb (by decide) a2 e3) (xc_o (ha' _)) rfl rfl (Nat.le_of_ble_eq_true rfl) (Nat.le_of_ble_eq_true rfl) ⟨Nat.zero_le _, Nat.zero_le _⟩ ?_
      refine z_ifeq1 C D_X4_readLaw_54 ?_
      refine y_aload_n C D_X4_readLaw_57 rfl ?_
      refine y_iconst C D_X4_readLaw_58 ki_1 ?_
      refine y_bipush C D_X4_readLaw_59 kb_9 ?_
      refine z_callV C D_X4_readLaw_61 lk_X4_49 (c_X4_takeNumber1e (ha' _) hn l3 hb (by decide) (by decide) (fun z => cvV_ok z) a3 e4) (xc_o (ha' _)) rfl rfl (Nat.le_of_ble_eq_true rfl) (Nat.le_of_ble_eq_true rfl) ⟨Nat.zero_le _, Nat.zero_le _⟩ ?_
      refine z_ifne1 C D_X4_readLaw_64 ?_
      refine y_aload_n C D_X4_readLaw_69 rfl ?_
      refine y_get C D_X4_readLaw_70 fl_X4_12 (xc_o (ha' _)) rfl ?_
      refine y_aload_n C D_X4_readLaw_73 rfl ?_
      refine y_get C D_X4_readLaw_74 fl_X4_53 (xc_o (ha' _)) rfl ?_
      refine y_put C D_X4_readLaw_77 fl_X4_66 (xy_o ha) (Nat.le_of_ble_eq_true rfl) rfl rfl (xy_pleast _) ?_
      refine y_aload_n C D_X4_readLaw_80 rfl ?_
      refine y_bipush C D_X4_readLaw_81 kb_44 ?_
      refine z_callV C D_X4_readLaw_83 lk_X4_45 (c_X4_takeSign1e (ha' _) hn l4 hb (by decide) a4 e5) (xc_o (ha' _)) rfl rfl (Nat.le_of_ble_eq_true rfl) (Nat.le_of_ble_eq_true rfl) ⟨Nat.zero_le _, Nat.zero_le _⟩ ?_
      refine z_ifeq1 C D_X4_readLaw_86 ?_
      refine y_aload_n C D_X4_readLaw_89 rfl ?_
      refine y_iconst C D_X4_readLaw_90 ki_2 ?_
      refine y_bipush C D_X4_readLaw_91 kb_9 ?_
      refine z_callV C D_X4_readLaw_93 lk_X4_49 (c_X4_takeNumber1e (ha' _) hn l5 hb (by decide) (by decide) (fun z => cvV_ok z) a5 e6) (xc_o (ha' _)) rfl rfl (Nat.le_of_ble_eq_true rfl) (Nat.le_of_ble_eq_true rfl) ⟨Nat.zero_le _, Nat.zero_le _⟩ ?_
      refine z_ifne1 C D_X4_readLaw_96 ?_
      refine y_aload_n C D_X4_readLaw_101 rfl ?_
      refine y_get C D_X4_readLaw_102 fl_X4_12 (xc_o (ha' _)) rfl ?_
      refine y_aload_n C D_X4_readLaw_105 rfl ?_
      refine y_get C D_X4_readLaw_106 fl_X4_53 (xc_o (ha' _)) rfl ?_
      refine y_put C D_X4_readLaw_109 fl_X4_69 (xy_o ha) (Nat.le_of_ble_eq_true rfl) rfl rfl (xy_pshare _) ?_
      refine y_aload_n C D_X4_readLaw_112 rfl ?_
      refine y_bipush C D_X4_readLaw_113 kb_59 ?_
      refine z_callV C D_X4_readLaw_115 lk_X4_45 (c_X4_takeSign0 (ha' _) hn l6 hb (by decide) a6) (xc_o (ha' _)) rfl rfl (Nat.le_of_ble_eq_true rfl) (Nat.le_of_ble_eq_true rfl) ⟨Nat.zero_le _, Nat.zero_le _⟩ ?_
      exact y_zret C E D_X4_readLaw_118 nar_0 (rfl) (rfl)
  have hq : psG b n w r0 = (true, s7, va_up (va_up (va_up r0 0 (tkV b n s1)) 1 (tkV b n s3)) 2 (tkV b n s5), w) := by rw [psG, ps0_ok a0, e1, pst_t, psN_okE a1 e2 a2 e3, pst_t, psN_okE a3 e4 a4 e5, pst_t, psN_okE a5 e6 a6 e7]
  rw [hq]
  refine ⟨lf, s7, (cvV b n s7 (cvV b n s6 (cvV b n s5 (cvV b n s4 (cvV b n s3 (cvV b n s2 (cvV b n s1 v))))))), (tkV b n s5), va_up (va_up (va_up (va_up y 0 (tkV b n s1)) 5 (2 ^ (tkV b n s1) - 1)) 1 (tkV b n s3)) 2 (tkV b n s5), ⟨rfl, fun _ => ⟨rfl, fun z => cvV_ok z, fun k hk => ?_⟩, fun z => absurd rfl z⟩, fun _ => ⟨?_, ?_, ?_, rfl, l7⟩, ?_⟩
  · show va_up (va_up (va_up (va_up y 0 _) 5 _) 1 _) 2 _ k = dY (va_up (va_up (va_up r0 0 _) 1 _) 2 _) k
    have e0 : va_up (va_up (va_up r0 0 (tkV b n s1)) 1 (tkV b n s3)) 2 (tkV b n s5) 0 = tkV b n s1 := by rw [up_ne _ _ (by decide), up_ne _ _ (by decide), up_eq]
    rw [dY, e0]
    have hy := hy k hk
    unfold va_up
    by_cases c0 : k = 2
    · subst c0; rfl
    · by_cases c1 : k = 1
      · subst c1; rfl
      · by_cases c2 : k = 5
        · subst c2; rfl
        · by_cases c3 : k = 0
          · subst c3; rfl
          · rw [if_neg c0, if_neg c1, if_neg c2, if_neg c3, if_neg c2, if_neg c0, if_neg c1, if_neg c3, hy]
  · show 1 ≤ (va_up (va_up (va_up r0 0 (tkV b n s1)) 1 (tkV b n s3)) 2 (tkV b n s5)) 0
    rw [up_ne _ _ (by decide), up_ne _ _ (by decide), up_eq]
    exact a1.2.1
  · show (va_up (va_up (va_up r0 0 (tkV b n s1)) 1 (tkV b n s3)) 2 (tkV b n s5)) 0 ≤ 6
    rw [up_ne _ _ (by decide), up_ne _ _ (by decide), up_eq]
    exact a1.2.2
  · show (va_up (va_up (va_up r0 0 (tkV b n s1)) 1 (tkV b n s3)) 2 (tkV b n s5)) 3 = _
    rw [up_ne _ _ (by decide), up_ne _ _ (by decide), up_ne _ _ (by decide)]
  · refine ctm_intro (maxL := 1) kw_X4_readLaw (by decide) (by decide) [some (qr G 2)] rfl (Nat.le_of_ble_eq_true rfl) ?_
    intro X _ hcl hsl _ _ C E
    have hp1 : 1 ≤ 2 ^ tkV b n s1 := Nat.two_pow_pos _
    have hp2 := a1.2.2
    refine y_aload_n C D_X4_readLaw_0 rfl ?_
    refine y_bipush C D_X4_readLaw_1 kb_103 ?_
    refine z_callV C D_X4_readLaw_3 lk_X4_45 (c_X4_takeSign1e (ha' _) hn l0 hb (by decide) a0 e1) (xc_o (ha' _)) rfl rfl (Nat.le_of_ble_eq_true rfl) (Nat.le_of_ble_eq_true rfl) ⟨Nat.zero_le _, Nat.zero_le _⟩ ?_
    refine z_ifeq1 C D_X4_readLaw_6 ?_
    refine y_aload_n C D_X4_readLaw_9 rfl ?_
    refine y_iconst C D_X4_readLaw_10 ki_1 ?_
    refine y_bipush C D_X4_readLaw_11 kb_6 ?_
    refine z_callV C D_X4_readLaw_13 lk_X4_49 (c_X4_takeNumber1e (ha' _) hn l1 hb (by decide) (by decide) (fun z => cvV_ok z) a1 e2) (xc_o (ha' _)) rfl rfl (Nat.le_of_ble_eq_true rfl) (Nat.le_of_ble_eq_true rfl) ⟨Nat.zero_le _, Nat.zero_le _⟩ ?_
    refine z_ifne1 C D_X4_readLaw_16 ?_
    refine y_aload_n C D_X4_readLaw_21 rfl ?_
    refine y_get C D_X4_readLaw_22 fl_X4_12 (xc_o (ha' _)) rfl ?_
    refine y_aload_n C D_X4_readLaw_25 rfl ?_
    refine y_get C D_X4_readLaw_26 fl_X4_53 (xc_o (ha' _)) rfl ?_
    refine y_put C D_X4_readLaw_29 fl_X4_56 (xy_o ha) (Nat.le_of_ble_eq_true rfl) rfl rfl (xy_pgraves _) ?_
    refine y_aload_n C D_X4_readLaw_32 rfl ?_
    refine y_get C D_X4_readLaw_33 fl_X4_12 (xc_o (ha' _)) rfl ?_
    refine y_aload_n C D_X4_readLaw_36 rfl ?_
    refine y_get C D_X4_readLaw_37 fl_X4_53 (xc_o (ha' _)) rfl ?_
    refine z_callSN C D_X4_readLaw_40 lk_X4_59 (c_X6_bit (by omega)) rfl rfl (Nat.le_of_ble_eq_true rfl) (Nat.le_of_ble_eq_true rfl) ⟨Nat.zero_le _, Nat.zero_le _⟩ ?_
    refine y_iconst C D_X4_readLaw_43 ki_1 ?_
    refine z_isub C D_X4_readLaw_44 (by omega) ?_
    refine y_put C D_X4_readLaw_45 fl_X4_63 (xy_o ha) (Nat.le_of_ble_eq_true rfl) rfl rfl (xy_pkept _) ?_
    refine y_aload_n C D_X4_readLaw_48 rfl ?_
    refine y_bipush C D_X4_readLaw_49 kb_44 ?_
    refine z_callV C D_X4_readLaw_51 lk_X4_45 (c_X4_takeSign1e (ha' _) hn l2 hb (by decide) a2 e3) (xc_o (ha' _)) rfl rfl (Nat.le_of_ble_eq_true rfl) (Nat.le_of_ble_eq_true rfl) ⟨Nat.zero_le _, Nat.zero_le _⟩ ?_
    refine z_ifeq1 C D_X4_readLaw_54 ?_
    refine y_aload_n C D_X4_readLaw_57 rfl ?_
    refine y_iconst C D_X4_readLaw_58 ki_1 ?_
    refine y_bipush C D_X4_readLaw_59 kb_9 ?_
    refine z_callV C D_X4_readLaw_61 lk_X4_49 (c_X4_takeNumber1e (ha' _) hn l3 hb (by decide) (by decide) (fun z => cvV_ok z) a3 e4) (xc_o (ha' _)) rfl rfl (Nat.le_of_ble_eq_true rfl) (Nat.le_of_ble_eq_true rfl) ⟨Nat.zero_le _, Nat.zero_le _⟩ ?_
    refine z_ifne1 C D_X4_readLaw_64 ?_
    refine y_aload_n C D_X4_readLaw_69 rfl ?_
    refine y_get C D_X4_readLaw_70 fl_X4_12 (xc_o (ha' _)) rfl ?_
    refine y_aload_n C D_X4_readLaw_73 rfl ?_
    refine y_get C D_X4_readLaw_74 fl_X4_53 (xc_o (ha' _)) rfl ?_
    refine y_put C D_X4_readLaw_77 fl_X4_66 (xy_o ha) (Nat.le_of_ble_eq_true rfl) rfl rfl (xy_pleast _) ?_
    refine y_aload_n C D_X4_readLaw_80 rfl ?_
    refine y_bipush C D_X4_readLaw_81 kb_44 ?_
    refine z_callV C D_X4_readLaw_83 lk_X4_45 (c_X4_takeSign1e (ha' _) hn l4 hb (by decide) a4 e5) (xc_o (ha' _)) rfl rfl (Nat.le_of_ble_eq_true rfl) (Nat.le_of_ble_eq_true rfl) ⟨Nat.zero_le _, Nat.zero_le _⟩ ?_
    refine z_ifeq1 C D_X4_readLaw_86 ?_
    refine y_aload_n C D_X4_readLaw_89 rfl ?_
    refine y_iconst C D_X4_readLaw_90 ki_2 ?_
    refine y_bipush C D_X4_readLaw_91 kb_9 ?_
    refine z_callV C D_X4_readLaw_93 lk_X4_49 (c_X4_takeNumber1e (ha' _) hn l5 hb (by decide) (by decide) (fun z => cvV_ok z) a5 e6) (xc_o (ha' _)) rfl rfl (Nat.le_of_ble_eq_true rfl) (Nat.le_of_ble_eq_true rfl) ⟨Nat.zero_le _, Nat.zero_le _⟩ ?_
    refine z_ifne1 C D_X4_readLaw_96 ?_
    refine y_aload_n C D_X4_readLaw_101 rfl ?_
    refine y_get C D_X4_readLaw_102 fl_X4_12 (xc_o (ha' _)) rfl ?_
    refine y_aload_n C D_X4_readLaw_105 rfl ?_
    refine y_get C D_X4_readLaw_106 fl_X4_53 (xc_o (ha' _)) rfl ?_
    refine y_put C D_X4_readLaw_109 fl_X4_69 (xy_o ha) (Nat.le_of_ble_eq_true rfl) rfl rfl (xy_pshare _) ?_
    refine y_aload_n C D_X4_readLaw_112 rfl ?_
    refine y_bipush C D_X4_readLaw_113 kb_59 ?_
    refine z_callV C D_X4_readLaw_115 lk_X4_45 (c_X4_takeSign1e (ha' _) hn l6 hb (by decide) a6 e7) (xc_o (ha' _)) rfl rfl (Nat.le_of_ble_eq_true rfl) (Nat.le_of_ble_eq_true rfl) ⟨Nat.zero_le _, Nat.zero_le _⟩ ?_
    exact y_zret C E D_X4_readLaw_118 nar_1 (rfl) (rfl)
end
