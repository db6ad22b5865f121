section
variable {l : Launch} {G : qG} {y0 : Nat → Nat} {gs W n b0 : Nat}
theorem TY_s (hV : Va y0) (h4 : y0 4 ≤ 999) (hW : W = 2 ^ y0 3) (hg : gs < 64) (h1 : 1 ≤ n) (h3 : n ≤ 3) {d : Nat} (hdn : d + 1 ≤ n) (ih : 1 ≤ d → TY l G y0 gs W n b0 d) : TY l G y0 gs W n b0 (d + 1) := by
  intro yy P c spent h wf gf Z hd S hZ hgf hsp hlt hto hr
  obtain ⟨z, hz⟩ : ∃ z, z = Z yy := ⟨_, rfl⟩
  have hzk : z = kyN y0 (wy W n (P * W ^ (d + 1))) yy := hz.trans hZ
  have hVz : Va z := by rw [hzk]; exact hV.kyN _ _
  have hz4 : z 4 = y0 4 + yy := by rw [hzk]; exact kyN_4 hV _ _
  have hV1 := hVz.y1
  have h164 := hV1.k64
  have hy03 := hV.2.2.2.1
  have hW32 : W ≤ 32 := by rw [hW]; exact Nat.pow_le_pow_right (by decide) hy03.2
  have hW0 : 0 < W := by rw [hW]; exact Nat.two_pow_pos _
  have hsl := pc_5 W n (P * W ^ (d + 1)) yy
  have hc16 := hr.le
  have hyn : n - (d + 1) = yy := by omega
  have hwp : 0 < W ^ (d + 1) := Nat.pow_pos hW0
  have hpre : ∀ r, P * W ^ (d + 1) ≤ r → r < P * W ^ (d + 1) + W ^ (d + 1) → ∀ k, k < yy → wy W n r k = wy W n (P * W ^ (d + 1)) k := fun r r1 r2 k hk => wy_blk hW0 (by omega) r1 r2 (by omega)
  have hk5 : ∀ r, P * W ^ (d + 1) ≤ r → r < P * W ^ (d + 1) + W ^ (d + 1) → kyN y0 (wy W n (r)) (yy + 1) 5 = y1 z 5 := fun r r1 r2 => by
    rw [ky_y1 hV, kyN_congr yy (hpre r r1 r2), ← hzk]
  have S1 := (S.my (j := yy) (by omega) (z := y1 z)).1
  have F1 := (S.my (j := yy) (by omega) (z := y1 z)).2
  have ya := S1.y yy (by omega)
  rw [up_eq] at ya
  have yz := S.y yy (by omega)
  rw [← hz] at yz
  by_cases kp : andn gs (y1 z 5) = 0
  case neg =>
    refine ⟨_, c, wf, gf, _, S1, F1, fun j hj => ⟨rfl, upw (by omega)⟩, ?_, ?_⟩
    · rw [fw_skip (R := P * W ^ (d + 1))]
      · exact hr
      · intro r r1 r2 hA
        refine kp ?_
        rw [← hk5 r r1 r2]
        have := hA.2
        rw [show n = yy + 1 + (n - (yy + 1)) by omega] at this
        exact kept_end hV hg (w := wy W n r) (by rw [show n = yy + 1 + (n - (yy + 1)) by omega]; exact this)
    · refine ctm_intro (maxL := 8) kw_X3_tryYear (by decide) (by decide) [some (qr G 85), some (.int (nI yy)), some (.int (nI n)), some (.int (nI gs)), some (.int (nI spent)), none, none, none] rfl (Nat.le_of_ble_eq_true rfl) ?_
      intro X _ hcl hsl _ _ C E
      refine y_iload_n C D_X3_tryYear_0 rfl ?_
      refine y_if_lt C D_X3_tryYear_1 (n_lt0 (by omega)) (fun q => q.elim) (fun _ => ?_)
      refine y_iload_n C D_X3_tryYear_4 rfl ?_
      refine y_iload_n C D_X3_tryYear_5 rfl ?_
      refine y_icmp_ge C D_X3_tryYear_6 (n_le (by omega) (by omega)) (fun c_6 => absurd c_6 (by omega)) (fun c_6 => ?_)
      refine y_iload_n C D_X3_tryYear_9 rfl ?_
      refine y_iconst C D_X3_tryYear_10 ki_3 ?_
      refine y_icmp_le C D_X3_tryYear_11 (n_le (by omega) (by omega)) (fun c_11 => ?_) (fun c_11 => absurd h3 c_11)
      refine y_aload_n C D_X3_tryYear_15 rfl ?_
      refine y_get C D_X3_tryYear_16 fl_X3_20 S.o rfl ?_
      refine y_iload_n C D_X3_tryYear_19 rfl ?_
      refine z_ald (t0 := 3) C D_X3_tryYear_20 S.q rfl (by omega) (by decide) (sfY_k (by omega)) ?_
      refine y_astore C D_X3_tryYear_21 (by decide) (qok_s rfl rfl) ?_
      refine y_aload C D_X3_tryYear_23 rfl ?_
      refine z_callVv C D_X3_tryYear_25 lk_X3_65 (c_X5_digY yz hVz (by omega)) yz.o rfl rfl (by omega) (Nat.le_of_ble_eq_true rfl) ⟨Nat.zero_le _, Nat.zero_le _⟩ ?_
      refine y_iload_n C D_X3_tryYear_28 rfl ?_
      refine y_aload C D_X3_tryYear_29 rfl ?_
      refine y_get C D_X3_tryYear_31 fl_X3_36 ya.o rfl ?_
      refine y_iconst C D_X3_tryYear_34 ki_m1 ?_
      refine y_ixor C D_X3_tryYear_35 ?_
      refine y_iand C D_X3_tryYear_36 ?_
      refine y_top (andn_eq gs hg _ (by omega)) ?_
      have han := andn_lt gs hg _ h164
      refine y_if_eq C D_X3_tryYear_37 (n_eq0 (by omega)) (fun c_37 => absurd c_37 kp) (fun c_37 => ?_)
      exact y_vret C E D_X3_tryYear_40 (rfl)
  case pos =>
    have S2 := (S1.m87 (gf' := va_up gf yy 0)).1
    have F2 := (S1.m87 (gf' := va_up gf yy 0)).2
    by_cases hd0 : d = 0
    · subst hd0
      have hlast : wy W n (P * W ^ (0 + 1)) yy = 0 := by
        unfold wy
        rw [show n - 1 - yy = 0 by omega, Nat.pow_zero, Nat.div_one, Nat.zero_add, Nat.pow_one, Nat.mul_mod_left]
      have hpcn : ∀ r, pc W n r n = pc W n r yy + ones (wy W n r yy) := fun r => by
        rw [show n = yy + 1 by omega]
        rfl
      have S3 := (S2.m85 (c' := spent)).1
      have F3 := (S2.m85 (c' := spent)).2
      have S4 := (S3.m86 (wf' := va_up gf yy 0)).1
      have F4 := (S3.m86 (wf' := va_up gf yy 0)).2
      refine ⟨_, spent, _, _, _, S4, (F1.tr F2).tr (F3.tr F4), fun j hj => ⟨upw (by omega), upw (by omega)⟩, ?_, ?_⟩
      · have hfst : fw y0 gs W n (spn y0 (y0 3)) b0 (P * W ^ (0 + 1) + 1) = (some spent, P * W ^ (0 + 1)) := by
          have hwo : wo W n (P * W ^ (0 + 1)) n = spent := by
            rw [wo_pc h1 h3, hpcn, hlast, hsp]
            rfl
          unfold fw
          rw [hwo, if_pos]
          refine ⟨⟨?_, (hr.ls (by omega)).mpr hlt⟩, ?_⟩
          · by_cases y00 : yy = 0
            · subst y00
              rw [hlast]
              exact Nat.zero_and _
            · exact hto (by omega)
          · have := hk5 (P * W ^ (0 + 1)) (Nat.le_refl _) (by omega)
            rw [show yy + 1 = n by omega] at this
            rw [this]
            exact kp
        have hall : fw y0 gs W n (spn y0 (y0 3)) b0 (P * W ^ (0 + 1) + W ^ (0 + 1)) = (some spent, P * W ^ (0 + 1)) := by
          have e1 : P * W ^ (0 + 1) + W ^ (0 + 1) = P * W ^ (0 + 1) + 1 + (W ^ (0 + 1) - 1) := by omega
          rw [e1, fw_skip (R := P * W ^ (0 + 1) + 1), hfst]
          intro r r1 r2 hA
          have h2 := hA.1.2
          rw [hfst] at h2
          have h2' : wo W n r n < spent := of_decide_eq_true h2
          rw [wo_pc h1 h3, hpcn, pc_c yy (hpre r (by omega) (by omega)), ← hsp] at h2'
          omega
        rw [hall]
        refine Or.inr ⟨rfl, by omega, fun t ht => ?_⟩
        show va_up gf yy 0 t = wy W n (P * W ^ (0 + 1)) t
        by_cases e : t = yy
        · rw [e, up_eq, hlast]
        · rw [upw e]
          exact hgf t (by omega)
      · refine ctm_intro (maxL := 8) kw_X3_tryYear (by decide) (by decide) [some (qr G 85), some (.int (nI yy)), some (.int (nI n)), some (.int (nI gs)), some (.int (nI spent)), none, none, none] rfl (Nat.le_of_ble_eq_true rfl) ?_
        intro X _ hcl hsl _ _ C E
        refine y_iload_n C D_X3_tryYear_0 rfl ?_
        refine y_if_lt C D_X3_tryYear_1 (n_lt0 (by omega)) (fun q => q.elim) (fun _ => ?_)
        refine y_iload_n C D_X3_tryYear_4 rfl ?_
        refine y_iload_n C D_X3_tryYear_5 rfl ?_
        refine y_icmp_ge C D_X3_tryYear_6 (n_le (by omega) (by omega)) (fun c_6 => absurd c_6 (by omega)) (fun c_6 => ?_)
        refine y_iload_n C D_X3_tryYear_9 rfl ?_
        refine y_iconst C D_X3_tryYear_10 ki_3 ?_
        refine y_icmp_le C D_X3_tryYear_11 (n_le (by omega) (by omega)) (fun c_11 => ?_) (fun c_11 => absurd h3 c_11)
        refine y_aload_n C D_X3_tryYear_15 rfl ?_
        refine y_get C D_X3_tryYear_16 fl_X3_20 S.o rfl ?_
        refine y_iload_n C D_X3_tryYear_19 rfl ?_
        refine z_ald (t0 := 3) C D_X3_tryYear_20 S.q rfl (by omega) (by decide) (sfY_k (by omega)) ?_
        refine y_astore C D_X3_tryYear_21 (by decide) (qok_s rfl rfl) ?_
        refine y_aload C D_X3_tryYear_23 rfl ?_
        refine z_callVv C D_X3_tryYear_25 lk_X3_65 (c_X5_digY yz hVz (by omega)) yz.o rfl rfl (by omega) (Nat.le_of_ble_eq_true rfl) ⟨Nat.zero_le _, Nat.zero_le _⟩ ?_
        refine y_iload_n C D_X3_tryYear_28 rfl ?_
        refine y_aload C D_X3_tryYear_29 rfl ?_
        refine y_get C D_X3_tryYear_31 fl_X3_36 ya.o rfl ?_
        refine y_iconst C D_X3_tryYear_34 ki_m1 ?_
        refine y_ixor C D_X3_tryYear_35 ?_
        refine y_iand C D_X3_tryYear_36 ?_
        refine y_top (andn_eq gs hg _ (by omega)) ?_
        have han := andn_lt gs hg _ h164
        refine y_if_eq C D_X3_tryYear_37 (n_eq0 (by omega)) (fun c_37 => ?_) (fun c_37 => absurd kp c_37)
        refine y_aload_n C D_X3_tryYear_41 rfl ?_
        refine y_get C D_X3_tryYear_42 fl_X3_15 S1.o rfl ?_
        refine y_iload_n C D_X3_tryYear_45 rfl ?_
        refine y_iconst C D_X3_tryYear_46 ki_0 ?_
        refine z_ist C D_X3_tryYear_47 S1.g (by omega) (by decide) (g87 (by omega)) ?_
        refine y_iload_n C D_X3_tryYear_48 rfl ?_
        refine y_iload_n C D_X3_tryYear_49 rfl ?_
        refine y_iconst C D_X3_tryYear_50 ki_1 ?_
        refine z_isub C D_X3_tryYear_51 (by omega) ?_
        refine y_icmp_ne C D_X3_tryYear_52 (n_eq (by omega) (by omega)) (fun c_52 => absurd (by omega) c_52) (fun c_52 => ?_)
        refine y_aload_n C D_X3_tryYear_55 rfl ?_
        refine y_iload C D_X3_tryYear_56 rfl ?_
        refine y_put C D_X3_tryYear_58 fl_X3_58 S2.o (Nat.le_of_ble_eq_true rfl) rfl rfl rfl ?_
        refine y_aload_n C D_X3_tryYear_61 rfl ?_
        refine y_get C D_X3_tryYear_62 fl_X3_15 S3.o rfl ?_
        refine y_iconst C D_X3_tryYear_65 ki_0 ?_
        refine y_aload_n C D_X3_tryYear_66 rfl ?_
        refine y_get C D_X3_tryYear_67 fl_X3_9 S3.o rfl ?_
        refine y_iconst C D_X3_tryYear_70 ki_0 ?_
        refine y_iconst C D_X3_tryYear_71 ki_3 ?_
        have hw : ∀ hh : List va_E, hh.set 86 (qI G 3 (va_cpy (tr 3 (fun k => nI (va_up gf yy 0 k))) (tr 3 (fun k => nI (wf k))) (nI 0).toNatClampNeg (nI 0).toNatClampNeg (nI 3).toNatClampNeg)) = hh.set 86 (qI G 3 (tr 3 (fun k => nI (va_up gf yy 0 k)))) := fun hh => by
          refine congrArg (fun z => hh.set 86 (qI G 3 z)) ?_
          show va_cpy _ _ 0 0 3 = _
          funext k
          by_cases q : k < 3
          · rw [cpy_in (by omega) (by omega)]
            exact congrArg _ (by omega)
          · rw [cpy_out (by omega)]
            unfold tr
            rw [if_neg q, if_neg q]
        refine y_copy C D_X3_tryYear_72 lk_X3_68 S3.g S3.w (by decide) (by decide) (by decide) (by decide) (by decide) (Nat.le_of_ble_eq_true rfl) (Nat.le_of_ble_eq_true rfl) (hw _) ?_
        exact y_vret C E D_X3_tryYear_75 (rfl)
    · obtain ⟨h2, c2, wf2, gf2, Z2, S5, F5, K5, R5, hY⟩ := lp_X3_guests (l := l) (G := G) hV h4 hW hg h1 h3 (yy := yy) (P := P) (spent := spent) hd (by omega) (ih (by omega)) hto hsp hzk W 0 _ c wf (va_up gf yy 0) (va_up Z yy (y1 z)) (Nat.zero_add _) S2 (up_eq _ _ _) (fun k hk => by rw [upw (by omega)]; exact hgf k hk) (by rw [Nat.zero_mul]; exact hr)
      refine ⟨h2, c2, wf2, gf2, Z2, S5, (F1.tr F2).tr F5, fun j hj => ⟨(K5 j hj).1.trans (upw (by omega)), (K5 j hj).2.trans (upw (by omega))⟩, R5, ?_⟩
      refine ctm_intro (maxL := 8) kw_X3_tryYear (by decide) (by decide) [some (qr G 85), some (.int (nI yy)), some (.int (nI n)), some (.int (nI gs)), some (.int (nI spent)), none, none, none] rfl (Nat.le_of_ble_eq_true rfl) ?_
      intro X hX hcl hsl _ _ C E
      have hY2 := hY X hX C E
      subst hX
      refine y_iload_n C D_X3_tryYear_0 rfl ?_
      refine y_if_lt C D_X3_tryYear_1 (n_lt0 (by omega)) (fun q => q.elim) (fun _ => ?_)
      refine y_iload_n C D_X3_tryYear_4 rfl ?_
      refine y_iload_n C D_X3_tryYear_5 rfl ?_
      refine y_icmp_ge C D_X3_tryYear_6 (n_le (by omega) (by omega)) (fun c_6 => absurd c_6 (by omega)) (fun c_6 => ?_)
      refine y_iload_n C D_X3_tryYear_9 rfl ?_
      refine y_iconst C D_X3_tryYear_10 ki_3 ?_
      refine y_icmp_le C D_X3_tryYear_11 (n_le (by omega) (by omega)) (fun c_11 => ?_) (fun c_11 => absurd h3 c_11)
      refine y_aload_n C D_X3_tryYear_15 rfl ?_
      refine y_get C D_X3_tryYear_16 fl_X3_20 S.o rfl ?_
      refine y_iload_n C D_X3_tryYear_19 rfl ?_
      refine z_ald (t0 := 3) C D_X3_tryYear_20 S.q rfl (by omega) (by decide) (sfY_k (by omega)) ?_
      refine y_astore C D_X3_tryYear_21 (by decide) (qok_s rfl rfl) ?_
      refine y_aload C D_X3_tryYear_23 rfl ?_
      refine z_callVv C D_X3_tryYear_25 lk_X3_65 (c_X5_digY yz hVz (by omega)) yz.o rfl rfl (by omega) (Nat.le_of_ble_eq_true rfl) ⟨Nat.zero_le _, Nat.zero_le _⟩ ?_
      refine y_iload_n C D_X3_tryYear_28 rfl ?_
      refine y_aload C D_X3_tryYear_29 rfl ?_
      refine y_get C D_X3_tryYear_31 fl_X3_36 ya.o rfl ?_
      refine y_iconst C D_X3_tryYear_34 ki_m1 ?_
      refine y_ixor C D_X3_tryYear_35 ?_
      refine y_iand C D_X3_tryYear_36 ?_
      refine y_top (andn_eq gs hg _ (by omega)) ?_
      have han := andn_lt gs hg _ h164
      refine y_if_eq C D_X3_tryYear_37 (n_eq0 (by omega)) (fun c_37 => ?_) (fun c_37 => absurd kp c_37)
      refine y_aload_n C D_X3_tryYear_41 rfl ?_
      refine y_get C D_X3_tryYear_42 fl_X3_15 S1.o rfl ?_
      refine y_iload_n C D_X3_tryYear_45 rfl ?_
      refine y_iconst C D_X3_tryYear_46 ki_0 ?_
      refine z_ist C D_X3_tryYear_47 S1.g (by omega) (by decide) (g87 (by omega)) ?_
      refine y_iload_n C D_X3_tryYear_48 rfl ?_
      refine y_iload_n C D_X3_tryYear_49 rfl ?_
      refine y_iconst C D_X3_tryYear_50 ki_1 ?_
      refine z_isub C D_X3_tryYear_51 (by omega) ?_
      refine y_icmp_ne C D_X3_tryYear_52 (n_eq (by omega) (by omega)) (fun c_52 => ?_) (fun c_52 => absurd c_52 (by omega))
      refine y_iconst C D_X3_tryYear_76 ki_0 ?_
      refine y_istore C D_X3_tryYear_77 (by decide) (qok_s rfl rfl) ?_
      exact hY2
theorem TY_all (hV : Va y0) (h4 : y0 4 ≤ 999) (hW : W = 2 ^ y0 3) (hg : gs < 64) (h1 : 1 ≤ n) (h3 : n ≤ 3) : ∀ d, d + 1 ≤ n → TY l G y0 gs W n b0 (d + 1)
  | 0, hd => TY_s hV h4 hW hg h1 h3 hd (fun q => absurd q (by decide))
  | d + 1, hd => TY_s hV h4 hW hg h1 h3 hd (fun _ => TY_all hV h4 hW hg h1 h3 d (by omega))
end
section
variable {l : Launch} {G : qG} {h h1 : List va_E} {i : Nat → Nat} {A : Nat → Nat → Nat} {B : Nat → Nat → Int32} {fin : Nat} {n : Nat} {lf : Nat} {b : Nat → Nat} {y : Nat → Nat} {sz : Nat} {old : Nat} {w : Nat → Nat → Nat} {c : Nat} {f : Nat → Nat} {ln : Nat → Int32} {rz : Nat → Int32} {it : Nat → Nat → Int32} {im : Nat → Nat → Nat}
theorem CI.sl (I : CI G (h) (i) (A) (B) (fin) (n) (lf) (b) (y) (sz) (old) (w) (c) (f) (ln) (rz) (it) (im)) : ∃ c0 wf gf Z, SL G h c0 wf gf Z := by
  obtain ⟨c0, h85⟩ := I.s
  obtain ⟨wf, h86⟩ := I.sw
  obtain ⟨gf, h87⟩ := I.sg
  obtain ⟨z0, q0⟩ := I.s0
  obtain ⟨z1, q1⟩ := I.s1
  obtain ⟨z2, q2⟩ := I.s2
  refine ⟨c0, wf, gf, fun j => if j = 0 then z0 else if j = 1 then z1 else z2, I.L, h85, h86, h87, I.sq, fun j hj => ?_⟩
  rcases (by omega : j = 0 ∨ j = 1 ∨ j = 2) with rfl | rfl | rfl
  · exact q0
  · exact q1
  · exact q2
theorem CI.fr (I : CI G (h) (i) (A) (B) (fin) (n) (lf) (b) (y) (sz) (old) (w) (c) (f) (ln) (rz) (it) (im)) {h' : List va_E} {c0 : Nat} {wf gf : Nat → Nat} {Z : Nat → Nat → Nat} (S : SL G h' c0 wf gf Z) (F : Fr h h') : CI G (h') (i) (A) (B) (fin) (n) (lf) (b) (y) (sz) (old) (w) (c) (f) (ln) (rz) (it) (im) := by
  have hl := S.L
  have hn : ∀ j : Nat, j < 85 ∨ 97 < j → h'[j]? = h[j]? := F.2
  exact ⟨hl, (hn _ (by omega)).trans I.o, (hn _ (by omega)).trans I.rs, (hn _ (by omega)).trans I.is, (hn _ (by omega)).trans I.pq, S.q, (let ⟨s, e, v, x, tok, q⟩ := I.t; ⟨s, e, v, x, tok, (hn _ (by omega)).trans q⟩), (hn _ (by omega)).trans I.tb, (let ⟨z, q⟩ := I.d; ⟨z, q.of hn (by omega)⟩), I.yd.of hn (by omega), (hn _ (by omega)).trans I.p, fun k hk => (I.pw k hk).of hn (by omega), ⟨_, S.o⟩, ⟨_, S.w⟩, ⟨_, S.g⟩, ⟨_, S.y 0 (by decide)⟩, ⟨_, S.y 1 (by decide)⟩, ⟨_, S.y 2 (by decide)⟩, (hn _ (by omega)).trans I.a, (hn _ (by omega)).trans I.al, fun k hk => (I.rw k hk).of hn (by omega), fun k hk => (I.iw k hk).of hn (by omega), fun j hj => (hn _ (by omega)).trans (I.m j hj)⟩
theorem c_X3_find (I : CI G (h) (i) (A) (B) (fin) (n) (lf) (b) (y) (sz) (old) (w) (c) (f) (ln) (rz) (it) (im)) (hV : Va y) (h4 : y 4 ≤ 999) {gs n1 b0 : Nat} (hg : gs < 64) (h1 : 1 ≤ n1) (h3 : n1 ≤ 3) : ∃ h' c' wf' gf' Z', SL G h' c' wf' gf' Z' ∧ CI G (h') (i) (A) (B) (fin) (n) (lf) (b) (y) (sz) (old) (w) (c) (f) (ln) (rz) (it) (im) ∧ rwB (2 ^ y 3) n1 c' wf' (fw y gs (2 ^ y 3) n1 (spn y (y 3)) b0 ((2 ^ y 3) ^ n1)) ∧ Ct l G yX3_findFewestSuppers 8 [qr G 85, qr G 7, .int (nI gs), .int (nI n1)] h (some (.int (bI (c' < 16)))) h' := by
  obtain ⟨c0, wf, gf, Z, S⟩ := I.sl
  have S1 := (S.m85 (c' := 16)).1
  have F1 := (S.m85 (c' := 16)).2
  have I1 := I.fr S1 F1
  have S2 := (S1.my (j := 0) (by decide) (z := y)).1
  have F2 := (S1.my (j := 0) (by decide) (z := y)).2
  obtain ⟨d, rfl⟩ : ∃ d, n1 = d + 1 := ⟨n1 - 1, by omega⟩
  obtain ⟨h', c', wf', gf', Z', S', F', K', R', hC⟩ := TY_all (l := l) (G := G) (b0 := b0) hV h4 rfl hg h1 h3 d (Nat.le_refl _) 0 0 16 0 _ wf gf _ (Nat.zero_add _) S2 (up_eq _ _ _) (fun k hk => by omega) rfl (by decide) (fun q => by omega) (by rw [Nat.zero_mul]; exact Or.inl ⟨rfl, rfl⟩)
  rw [Nat.zero_mul, Nat.zero_add] at R'
  have hc16 := R'.le
  refine ⟨h', c', wf', gf', Z', S', I.fr S' ((F1.tr F2).tr F'), R', ?_⟩
  refine ctm_intro (maxL := 4) kw_X3_findFewestSuppers (by decide) (by decide) [some (qr G 85), some (qr G 7), some (.int (nI gs)), some (.int (nI (d + 1)))] rfl (Nat.le_of_ble_eq_true rfl) ?_
  intro X hX hcl hsl _ _ C E
  subst hX
  refine y_aload_n C D_X3_findFewestSuppers_0 rfl ?_
  refine y_bipush C D_X3_findFewestSuppers_1 kb_16 ?_
  refine y_put C D_X3_findFewestSuppers_3 fl_X3_58 S.o (Nat.le_of_ble_eq_true rfl) rfl rfl rfl ?_
  refine y_aload_n C D_X3_findFewestSuppers_6 rfl ?_
  refine y_aload_n C D_X3_findFewestSuppers_7 rfl ?_
  refine z_callV C D_X3_findFewestSuppers_8 lk_X3_29 (c_X3_copyOf S1.o S1.q (S1.y 0 (by decide)) I1.yd hV) S1.o rfl rfl (Nat.le_of_ble_eq_true rfl) (Nat.le_of_ble_eq_true rfl) ⟨Nat.zero_le _, Nat.zero_le _⟩ ?_
  refine y_pop C D_X3_findFewestSuppers_11 rfl ?_
  refine y_aload_n C D_X3_findFewestSuppers_12 rfl ?_
  refine y_iconst C D_X3_findFewestSuppers_13 ki_0 ?_
  refine y_iload_n C D_X3_findFewestSuppers_14 rfl ?_
  refine y_iload_n C D_X3_findFewestSuppers_15 rfl ?_
  refine y_iconst C D_X3_findFewestSuppers_16 ki_0 ?_
  refine z_callVv C D_X3_findFewestSuppers_17 lk_X3_61 (hC) S2.o rfl rfl (by omega) (Nat.le_of_ble_eq_true rfl) ⟨Nat.zero_le _, Nat.zero_le _⟩ ?_
  refine y_aload_n C D_X3_findFewestSuppers_20 rfl ?_
  refine y_get C D_X3_findFewestSuppers_21 fl_X3_58 S'.o rfl ?_
  refine y_bipush C D_X3_findFewestSuppers_24 kb_16 ?_
  refine y_icmp_ge C D_X3_findFewestSuppers_26 (n_le (by omega) (by omega)) (fun c_26 => ?_) (fun c_26 => ?_)
  · refine y_iconst C D_X3_findFewestSuppers_33 ki_0 ?_
    exact y_zret C E D_X3_findFewestSuppers_34 nar_0 (rt_0 (by omega)) (rfl)
  · refine y_iconst C D_X3_findFewestSuppers_29 ki_1 ?_
    refine y_goto C D_X3_findFewestSuppers_30 ?_
    exact y_zret C E D_X3_findFewestSuppers_34 nar_1 (rt_1 (by omega)) (rfl)
end
