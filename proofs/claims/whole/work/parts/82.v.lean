/-! the seer's cells -/
def SL (G : qG) (h : List va_E) (c : Nat) (wf gf : Nat → Nat) (Z : Nat → Nat → Nat) : Prop := h.length = 136 ∧ h[85]? = some (scl G c) ∧ h[86]? = some (qI G 3 (tr 3 (fun k => nI (wf k)))) ∧ h[87]? = some (qI G 3 (tr 3 (fun k => nI (gf k)))) ∧ h[88]? = some (qY G 3 (sfY G)) ∧ ∀ j, j < 3 → Yat G h (89 + 3 * j) (Z j)
/-- nothing but the seer's cells has changed -/
def Fr (h h1 : List va_E) : Prop := h1.length = h.length ∧ ∀ j : Nat, j < 85 ∨ 97 < j → h1[j]? = h[j]?
theorem Fr.rf {h : List va_E} : Fr h h := ⟨rfl, fun _ _ => rfl⟩
theorem Fr.tr {h h1 h2 : List va_E} (a : Fr h h1) (b : Fr h1 h2) : Fr h h2 := ⟨b.1.trans a.1, fun j hj => (b.2 j hj).trans (a.2 j hj)⟩
section
variable {l : Launch} {G : qG} {h h1 : List va_E} {c : Nat} {wf gf : Nat → Nat} {Z : Nat → Nat → Nat}
theorem SL.L (S : SL G h c wf gf Z) : h.length = 136 := S.1
theorem SL.o (S : SL G h c wf gf Z) : h[85]? = some (scl G c) := S.2.1
theorem SL.w (S : SL G h c wf gf Z) : h[86]? = some (qI G 3 (tr 3 (fun k => nI (wf k)))) := S.2.2.1
theorem SL.g (S : SL G h c wf gf Z) : h[87]? = some (qI G 3 (tr 3 (fun k => nI (gf k)))) := S.2.2.2.1
theorem SL.q (S : SL G h c wf gf Z) : h[88]? = some (qY G 3 (sfY G)) := S.2.2.2.2.1
theorem SL.y (S : SL G h c wf gf Z) : ∀ j, j < 3 → Yat G h (89 + 3 * j) (Z j) := S.2.2.2.2.2
theorem SL.my (S : SL G h c wf gf Z) {j : Nat} (hj : j < 3) {z : Nat → Nat} : SL G (yc G h (89 + 3 * j) z) c wf gf (va_up Z j z) ∧ Fr h (yc G h (89 + 3 * j) z) := by
  have hL := S.L
  have hn : ∀ k : Nat, k < 89 + 3 * j ∨ 89 + 3 * j + 2 < k → (yc G h (89 + 3 * j) z)[k]? = h[k]? := fun k hk => yc_n hk
  refine ⟨⟨yc_len.trans hL, (hn _ (by omega)).trans S.o, (hn _ (by omega)).trans S.w, (hn _ (by omega)).trans S.g, (hn _ (by omega)).trans S.q, fun k hk => ?_⟩, yc_len, fun k hk => hn k (by omega)⟩
  by_cases e : k = j
  · subst e
    rw [up_eq]
    exact Yat.mk' (by omega)
  · rw [upw e]
    exact (S.y k hk).of hn (by omega)
theorem SL.m85 (S : SL G h c wf gf Z) {c' : Nat} : SL G (h.set 85 (scl G c')) c' wf gf Z ∧ Fr h (h.set 85 (scl G c')) := by
  have hL := S.L
  have hn : ∀ k : Nat, k < 85 ∨ 85 < k → (h.set 85 (scl G c'))[k]? = h[k]? := fun k hk => List.getElem?_set_ne (by omega)
  exact ⟨⟨List.length_set.trans hL, List.getElem?_set_self (by omega), (hn _ (by omega)).trans S.w, (hn _ (by omega)).trans S.g, (hn _ (by omega)).trans S.q, fun k hk => (S.y k hk).of hn (by omega)⟩, List.length_set, fun k hk => hn k (by omega)⟩
theorem SL.m86 (S : SL G h c wf gf Z) {wf' : Nat → Nat} : SL G (h.set 86 (qI G 3 (tr 3 (fun k => nI (wf' k))))) c wf' gf Z ∧ Fr h (h.set 86 (qI G 3 (tr 3 (fun k => nI (wf' k))))) := by
  have hL := S.L
  have hn : ∀ k : Nat, k < 86 ∨ 86 < k → (h.set 86 (qI G 3 (tr 3 (fun k => nI (wf' k)))))[k]? = h[k]? := fun k hk => List.getElem?_set_ne (by omega)
  exact ⟨⟨List.length_set.trans hL, (hn _ (by omega)).trans S.o, List.getElem?_set_self (by omega), (hn _ (by omega)).trans S.g, (hn _ (by omega)).trans S.q, fun k hk => (S.y k hk).of hn (by omega)⟩, List.length_set, fun k hk => hn k (by omega)⟩
theorem SL.m87 (S : SL G h c wf gf Z) {gf' : Nat → Nat} : SL G (h.set 87 (qI G 3 (tr 3 (fun k => nI (gf' k))))) c wf gf' Z ∧ Fr h (h.set 87 (qI G 3 (tr 3 (fun k => nI (gf' k))))) := by
  have hL := S.L
  have hn : ∀ k : Nat, k < 87 ∨ 87 < k → (h.set 87 (qI G 3 (tr 3 (fun k => nI (gf' k)))))[k]? = h[k]? := fun k hk => List.getElem?_set_ne (by omega)
  exact ⟨⟨List.length_set.trans hL, (hn _ (by omega)).trans S.o, (hn _ (by omega)).trans S.w, List.getElem?_set_self (by omega), (hn _ (by omega)).trans S.q, fun k hk => (S.y k hk).of hn (by omega)⟩, List.length_set, fun k hk => hn k (by omega)⟩
theorem g87 {j v : Nat} (hj : j < 3) : h.set 87 (qI G 3 (upd (tr 3 (fun k => nI (gf k))) j (nI v))) = h.set 87 (qI G 3 (tr 3 (fun k => nI (va_up gf j v k)))) := by
  rw [tr_upd hj, va_upn]
theorem sfY_k {k : Nat} (hk : k < 3) : sfY G k = some (G.2 4 + (89 + 3 * k)) := if_pos hk
theorem c_X5_digY {a : Nat} {z : Nat → Nat} (q : Yat G h a z) (hV : Va z) (h4 : z 4 < 2000) : Ct l G yX5_digUndreamt 3 [qr G a] h none (yc G h a (y1 z)) := by
  have w := c_X5_digUndreamt (l := l) (G := G) (h := h) (y := z) q.lt hV h4
  rw [q.eq] at w
  exact w
theorem c_X5_endY {a : Nat} {z : Nat → Nat} (q : Yat G h a z) (h2 : 2 ≤ z 2) (h9 : z 2 ≤ 9) (hB : ∀ k, z k < 2000) (hb : ∀ k, k < 5 → z (11 + k) ≤ 1) : Ct l G yX5_endYear 2 [qr G a] h none (yc G h a (va_up (fd z) 4 (z 4 + 1))) := by
  have w := c_X5_endYear (l := l) (G := G) (h := h) (y := z) q.lt h2 h9 hB hb
  rw [q.eq] at w
  exact w
end
theorem up_up_ne {α : Type} {f : Nat → α} {k j : Nat} {a b : α} (h : j ≠ k) : va_up (va_up f k a) k b j = f j := by rw [upw h, upw h]
section
variable {l : Launch} {G : qG} {y0 : Nat → Nat} {gs W n b0 : Nat}
/-- the search from a year on, d years before the end -/
def TY (l : Launch) (G : qG) (y0 : Nat → Nat) (gs W n b0 d : Nat) : Prop := ∀ (yy P c spent : Nat) (h : List va_E) (wf gf : Nat → Nat) (Z : Nat → Nat → Nat), yy + d = n → SL G h c wf gf Z → Z yy = kyN y0 (wy W n (P * W ^ d)) yy → (∀ k, k < yy → gf k = wy W n (P * W ^ d) k) → spent = pc W n (P * W ^ d) yy → spent < c → (1 ≤ yy → wy W n (P * W ^ d) 0 &&& spn y0 (y0 3) = 0) → rwB W n c wf (fw y0 gs W n (spn y0 (y0 3)) b0 (P * W ^ d)) → ∃ h' c' wf' gf' Z', SL G h' c' wf' gf' Z' ∧ Fr h h' ∧ (∀ j, j < yy → gf' j = gf j ∧ Z' j = Z j) ∧ rwB W n c' wf' (fw y0 gs W n (spn y0 (y0 3)) b0 (P * W ^ d + W ^ d)) ∧ Ct l G yX3_tryYear (d + 4) [qr G 85, .int (nI yy), .int (nI n), .int (nI gs), .int (nI spent)] h none h'
theorem lp_X3_guests (hV : Va y0) (h4 : y0 4 ≤ 999) (hW : W = 2 ^ y0 3) (hg : gs < 64) (h1 : 1 ≤ n) (h3 : n ≤ 3) {d yy P spent : Nat} (hd : yy + (d + 1) = n) (hd1 : 1 ≤ d) (hT : TY l G y0 gs W n b0 d) (hto : 1 ≤ yy → wy W n (P * W ^ (d + 1)) 0 &&& spn y0 (y0 3) = 0) (hsp : spent = pc W n (P * W ^ (d + 1)) yy) {z : Nat → Nat} (hz : z = kyN y0 (wy W n (P * W ^ (d + 1))) yy) : ∀ (m t : Nat) (h : List va_E) (c : Nat) (wf gf : Nat → Nat) (Z : Nat → Nat → Nat), t + m = W → SL G h c wf gf Z → Z yy = y1 z → (∀ k, k < yy → gf k = wy W n (P * W ^ (d + 1)) k) → rwB W n c wf (fw y0 gs W n (spn y0 (y0 3)) b0 (P * W ^ (d + 1) + t * W ^ d)) → ∃ h' c' wf' gf' Z', SL G h' c' wf' gf' Z' ∧ Fr h h' ∧ (∀ j, j < yy → gf' j = gf j ∧ Z' j = Z j) ∧ rwB W n c' wf' (fw y0 gs W n (spn y0 (y0 3)) b0 (P * W ^ (d + 1) + W ^ (d + 1))) ∧ ∀ X : qX, X.2.1 = l → qC X G cX3_tryYear 8 RX3 (d + 1 + 4) → qE X G none 0 0 none h' → Y X G 8 0 0 79 [some (qr G 85), some (.int (nI (yy))), some (.int (nI (n))), some (.int (nI (gs))), some (.int (nI (spent))), some (qr G (89 + 3 * yy)), some (.int (nI (t))), none] [] h := by
  have hVz : Va z := by rw [hz]; exact hV.kyN _ _
  have hz4 : z 4 = y0 4 + yy := by rw [hz]; exact kyN_4 hV _ _
  have hV1 := hVz.y1
  have e14 : y1 z 4 = z 4 := y1_lo (by decide) (by decide)
  have hy03 := hV.2.2.2.1
  have ez3 : z 3 = y0 3 := by
    rw [hz]
    exact kyN_3 hV _ _
  have e13 : y1 z 3 = y0 3 := (y1_lo (by decide) (by decide)).trans ez3
  have hW32 : W ≤ 32 := by rw [hW]; exact Nat.pow_le_pow_right (by decide) hy03.2
  have hW0 : 0 < W := by rw [hW]; exact Nat.two_pow_pos _
  have hsl := pc_5 W n (P * W ^ (d + 1)) yy
  intro m
  induction m with
  | zero =>
    intro t h c wf gf Z ht S hZ hgf hr
    obtain rfl : t = W := by omega
    refine ⟨h, c, wf, gf, Z, S, Fr.rf, fun j hj => ⟨rfl, rfl⟩, ?_, ?_⟩
    · rw [show t ^ (d + 1) = t * t ^ d by rw [Nat.pow_succ, Nat.mul_comm]] at hr ⊢
      exact hr
    · intro X hX C E
      subst hX
      have hZ3 : Z yy 3 = y0 3 := by rw [hZ]; exact e13
      refine y_iload C D_X3_tryYear_79 rfl ?_
      refine y_aload C D_X3_tryYear_81 rfl ?_
      refine y_get C D_X3_tryYear_83 fl_X3_44 (S.y yy (by omega)).o rfl ?_
      rw [hZ3]
      refine z_callSN C D_X3_tryYear_86 lk_X3_47 (c_X6_bit (by omega)) rfl rfl (Nat.le_of_ble_eq_true rfl) (Nat.le_of_ble_eq_true rfl) ⟨Nat.zero_le _, Nat.zero_le _⟩ ?_
      rw [← hW]
      refine y_icmp_ge C D_X3_tryYear_89 (n_le (by omega) (by omega)) (fun c_89 => ?_) (fun c_89 => absurd (Nat.le_refl _) c_89)
      exact y_vret C E D_X3_tryYear_189 (rfl)
  | succ m ih =>
    intro t h c wf gf Z ht S hZ hgf hr
    have hZ3 : Z yy 3 = y0 3 := by rw [hZ]; exact e13
    have htW : t < W := by omega
    obtain ⟨b1, b2, b3⟩ := blk_child (d := d) (P := P) htW
    have hot := ones_le t
    have hnx : P * W ^ (d + 1) + (t + 1) * W ^ d = (P * W + t) * W ^ d + W ^ d := by rw [Nat.succ_mul, ← Nat.add_assoc, b1]
    have hyn : n - (d + 1) = yy := by omega
    have hdig : wy W n ((P * W + t) * W ^ d) yy = t := by
      have := wy_dig (W := W) (n := n) (d := d) (P := P) htW (by omega)
      rw [hyn] at this
      exact this
    have hpre : ∀ r, (P * W + t) * W ^ d ≤ r → r < (P * W + t) * W ^ d + W ^ d → (∀ k, k < yy → wy W n r k = wy W n (P * W ^ (d + 1)) k) ∧ wy W n r yy = t := by
      intro r r1 r2
      refine ⟨fun k hk => wy_blk hW0 (by omega) (by omega) (by omega) (by omega), ?_⟩
      rw [wy_blk (d := d) hW0 (by omega) r1 r2 (by omega), hdig]
    have hprR := hpre ((P * W + t) * W ^ d) (Nat.le_refl _) (by have : 0 < W ^ d := Nat.pow_pos hW0; omega)
    have hcost : pc W n ((P * W + t) * W ^ d) (yy + 1) = spent + ones t := by
      unfold pc
      rw [hdig, hsp, pc_c yy hprR.1]
    have hsup : sb (Z yy) 11 = sb z 11 := by rw [hZ]; exact sb_y1 z
    have hsb : sb z 11 < 32 := sb_lt hVz.sup
    have hc16 := hr.le
    have hand : t &&& sb z 11 ≤ t := Nat.and_le_left
    /- a block that is passed over -/
    have hskip : ¬ (spent + ones t < c ∧ t &&& sb z 11 = 0) → rwB W n c wf (fw y0 gs W n (spn y0 (y0 3)) b0 (P * W ^ (d + 1) + (t + 1) * W ^ d)) := by
      intro hno
      rw [hnx, fw_skip (R := (P * W + t) * W ^ d)]
      · rw [← b1]
        exact hr
      · intro r r1 r2 hA
        obtain ⟨⟨a1, a2⟩, a3⟩ := hA
        obtain ⟨p1, p2⟩ := hpre r r1 r2
        have hc : pc W n r (yy + 1) = spent + ones t := by
          unfold pc
          rw [p2, hsp, pc_c yy p1]
        have hwo := wo_pc (W := W) (r := r) h1 h3
        have hle := pc_le W n r (n - (yy + 1)) (yy + 1)
        rw [show yy + 1 + (n - (yy + 1)) = n by omega] at hle
        have h5 := pc_5 W n r n
        rw [← b1] at a2
        have := (hr.ls (by omega)).mp a2
        refine hno ⟨by omega, ?_⟩
        by_cases y00 : yy = 0
        · subst y00
          have ez : z = y0 := hz
          rw [ez, ← spn_sb hV, ← p2]
          exact a1
        · obtain ⟨q, rfl⟩ : ∃ q, yy = q + 1 := ⟨yy - 1, by omega⟩
          have : sb z 11 = 0 := by rw [hz]; exact sb_yr _
          rw [this]
          exact Nat.and_zero _
    by_cases hok : spent + ones t < c ∧ t &&& sb z 11 = 0
    · /- the block is gone through -/
      have S1 := (S.m87 (gf' := va_up gf yy t)).1
      have F1 := (S.m87 (gf' := va_up gf yy t)).2
      have S2 := (S1.my (j := yy + 1) (by omega) (z := Z yy)).1
      have F2 := (S1.my (j := yy + 1) (by omega) (z := Z yy)).2
      have hv32 : sb (Z yy) 11 ||| t < 32 := Nat.or_lt_two_pow (n := 5) (by omega) (by show t < 32; omega)
      have y2a := S2.y (yy + 1) (by omega)
      rw [up_eq] at y2a
      have es : sS (Z yy) 11 (sb (Z yy) 11 ||| t) = gv (y1 z) t := by
        rw [hZ]
        exact sS_gv hV1 (by rw [e13, ← hW]; exact htW)
      have S3 := (S2.my (j := yy + 1) (by omega) (z := gv (y1 z) t)).1
      have F3 := (S2.my (j := yy + 1) (by omega) (z := gv (y1 z) t)).2
      have hVg : Va (gv (y1 z) t) := hV1.gv t
      have eg4 : gv (y1 z) t 4 = z 4 := (gv_lo hV1 (by omega)).trans e14
      have S4 := (S3.my (j := yy + 1) (by omega) (z := va_up (fd (gv (y1 z) t)) 4 (gv (y1 z) t 4 + 1))).1
      have F4 := (S3.my (j := yy + 1) (by omega) (z := va_up (fd (gv (y1 z) t)) 4 (gv (y1 z) t 4 + 1))).2
      have y3a := S3.y (yy + 1) (by omega)
      rw [up_eq] at y3a
      have ek : va_up (fd (gv (y1 z) t)) 4 (gv (y1 z) t 4 + 1) = kyN y0 (wy W n ((P * W + t) * W ^ d)) (yy + 1) := by
        show _ = yr (gv (kyN y0 (wy W n ((P * W + t) * W ^ d)) yy) (wy W n ((P * W + t) * W ^ d) yy))
        rw [hdig, kyN_congr yy hprR.1, ← hz, yr_gv hVz, eg4]
      obtain ⟨h', c', wf', gf', Z', S', F', K', R', hC⟩ := hT (yy + 1) (P * W + t) c (spent + ones t) _ _ _ _ (by omega) S4 (by rw [up_eq]; exact ek) (fun k hk => by
        by_cases e : k = yy
        · rw [e, up_eq, hdig]
        · rw [upw e, hprR.1 k (by omega)]
          exact hgf k (by omega)) hcost.symm hok.1 (fun _ => by
        by_cases y00 : yy = 0
        · subst y00
          have ez : z = y0 := hz
          rw [hdig, spn_sb hV, ← ez]
          exact hok.2
        · rw [hprR.1 0 (by omega)]
          exact hto (by omega)) (by rw [← b1]; exact hr)
      have hK : ∀ j, j < yy → gf' j = gf j ∧ Z' j = Z j := fun j hj => by
        obtain ⟨k1, k2⟩ := K' j (by omega)
        refine ⟨k1.trans (upw (by omega)), k2.trans ?_⟩
        rw [upw (by omega), upw (by omega), upw (by omega)]
      have hZ' : Z' yy = y1 z := by
        rw [(K' yy (by omega)).2, upw (by omega), upw (by omega), upw (by omega)]
        exact hZ
      rw [← hnx] at R'
      obtain ⟨h2, c2, wf2, gf2, Z2, S5, F5, K5, R5, hY⟩ := ih (t + 1) h' c' wf' gf' Z' (by omega) S' hZ' (fun k hk => by rw [(hK k hk).1]; exact hgf k hk) R'
      refine ⟨h2, c2, wf2, gf2, Z2, S5, (((F1.tr F2).tr (F3.tr F4)).tr F').tr F5, fun j hj => ⟨(K5 j hj).1.trans (hK j hj).1, (K5 j hj).2.trans (hK j hj).2⟩, R5, fun X hX C E => ?_⟩
      have hY2 := hY X hX C E
      subst hX
      refine y_iload C D_X3_tryYear_79 rfl ?_
      refine y_aload C D_X3_tryYear_81 rfl ?_
      refine y_get C D_X3_tryYear_83 fl_X3_44 (S.y yy (by omega)).o rfl ?_
      rw [hZ3]
      refine z_callSN C D_X3_tryYear_86 lk_X3_47 (c_X6_bit (by omega)) rfl rfl (Nat.le_of_ble_eq_true rfl) (Nat.le_of_ble_eq_true rfl) ⟨Nat.zero_le _, Nat.zero_le _⟩ ?_
      rw [← hW]
      refine y_icmp_ge C D_X3_tryYear_89 (n_le (by omega) (by omega)) (fun c_89 => absurd c_89 (by omega)) (fun c_89 => ?_)
      refine y_iload C D_X3_tryYear_92 rfl ?_
      refine y_iload C D_X3_tryYear_94 rfl ?_
      refine z_callS C D_X3_tryYear_96 lk_X3_74 (c_J6_bitCount (by omega)) rfl rfl (Nat.le_of_ble_eq_true rfl) (Nat.le_of_ble_eq_true rfl) ⟨Nat.zero_le _, Nat.zero_le _⟩ ?_
      refine z_iadd C D_X3_tryYear_99 ?_
      refine y_istore C D_X3_tryYear_100 (by decide) (qok_s rfl rfl) ?_
      refine y_iload C D_X3_tryYear_102 rfl ?_
      refine y_aload_n C D_X3_tryYear_104 rfl ?_
      refine y_get C D_X3_tryYear_105 fl_X3_58 S.o rfl ?_
      refine y_icmp_ge C D_X3_tryYear_108 (n_le (by omega) (by omega)) (fun c_108 => absurd hok.1 (by omega)) (fun c_108 => ?_)
      refine y_iload C D_X3_tryYear_111 rfl ?_
      refine y_aload C D_X3_tryYear_113 rfl ?_
      refine y_get C D_X3_tryYear_115 fl_X3_51 (S.y yy (by omega)).o rfl ?_
      rw [hsup]
      refine z_iand C D_X3_tryYear_118 ?_
      refine y_if_ne C D_X3_tryYear_119 (n_eq0 (by omega)) (fun c_119 => absurd hok.2 c_119) (fun c_119 => ?_)
      refine y_aload_n C D_X3_tryYear_122 rfl ?_
      refine y_get C D_X3_tryYear_123 fl_X3_15 S.o rfl ?_
      refine y_iload_n C D_X3_tryYear_126 rfl ?_
      refine y_iload C D_X3_tryYear_127 rfl ?_
      refine z_ist C D_X3_tryYear_129 S.g (by omega) (by decide) (g87 (by omega)) ?_
      refine y_aload_n C D_X3_tryYear_130 rfl ?_
      refine y_get C D_X3_tryYear_131 fl_X3_20 S1.o rfl ?_
      refine y_iload_n C D_X3_tryYear_134 rfl ?_
      refine y_iconst C D_X3_tryYear_135 ki_1 ?_
      refine z_iadd C D_X3_tryYear_136 ?_
      refine z_ald (t0 := 3) C D_X3_tryYear_137 S1.q rfl (by omega) (by decide) (sfY_k (by omega)) ?_
      refine y_aload C D_X3_tryYear_138 rfl ?_
      refine z_callVv C D_X3_tryYear_140 lk_X3_25 (c_X5_becomeY (S1.y (yy + 1) (by omega)) (S1.y yy (by omega)) (by omega) (by rw [hZ]; exact hV1.sup) (by rw [hZ]; exact hV1.fev)) (S1.y (yy + 1) (by omega)).o rfl rfl (Nat.le_of_ble_eq_true rfl) (Nat.le_of_ble_eq_true rfl) ⟨Nat.zero_le _, Nat.zero_le _⟩ ?_
      refine y_aload_n C D_X3_tryYear_143 rfl ?_
      refine y_get C D_X3_tryYear_144 fl_X3_20 S2.o rfl ?_
      refine y_iload_n C D_X3_tryYear_147 rfl ?_
      refine y_iconst C D_X3_tryYear_148 ki_1 ?_
      refine z_iadd C D_X3_tryYear_149 ?_
      refine z_ald (t0 := 3) C D_X3_tryYear_150 S2.q rfl (by omega) (by decide) (sfY_k (by omega)) ?_
      refine y_dup C D_X3_tryYear_151 rfl ?_
      refine y_get C D_X3_tryYear_152 fl_X3_51 y2a.o rfl ?_
      refine y_iload C D_X3_tryYear_155 rfl ?_
      refine z_ior C D_X3_tryYear_157 ?_
      refine y_put C D_X3_tryYear_158 fl_X3_51 y2a.o (Nat.le_of_ble_eq_true rfl) rfl rfl ((y2a.psup hv32).trans (by rw [es])) ?_
      refine y_aload_n C D_X3_tryYear_161 rfl ?_
      refine y_get C D_X3_tryYear_162 fl_X3_20 S3.o rfl ?_
      refine y_iload_n C D_X3_tryYear_165 rfl ?_
      refine y_iconst C D_X3_tryYear_166 ki_1 ?_
      refine z_iadd C D_X3_tryYear_167 ?_
      refine z_ald (t0 := 3) C D_X3_tryYear_168 S3.q rfl (by omega) (by decide) (sfY_k (by omega)) ?_
      refine z_callVv C D_X3_tryYear_169 lk_X3_79 (c_X5_endY y3a hVg.2.2.1.1 hVg.2.2.1.2 (hVg.lt (by omega)) hVg.sup) (S3.y (yy + 1) (by omega)).o rfl rfl (Nat.le_of_ble_eq_true rfl) (Nat.le_of_ble_eq_true rfl) ⟨Nat.zero_le _, Nat.zero_le _⟩ ?_
      refine y_aload_n C D_X3_tryYear_172 rfl ?_
      refine y_iload_n C D_X3_tryYear_173 rfl ?_
      refine y_iconst C D_X3_tryYear_174 ki_1 ?_
      refine z_iadd C D_X3_tryYear_175 ?_
      refine y_iload_n C D_X3_tryYear_176 rfl ?_
      refine y_iload_n C D_X3_tryYear_177 rfl ?_
      refine y_iload C D_X3_tryYear_178 rfl ?_
      refine z_callVv C D_X3_tryYear_180 lk_X3_61 (hC) S4.o rfl rfl (by omega) (Nat.le_of_ble_eq_true rfl) ⟨Nat.zero_le _, Nat.zero_le _⟩ ?_
      refine y_fg 7 ?_
      refine z_iinc (n := 1) C D_X3_tryYear_183 rfl (by decide) (qok_s rfl rfl) ?_
      refine y_goto C D_X3_tryYear_186 ?_
      exact hY2
    · obtain ⟨h2, c2, wf2, gf2, Z2, S5, F5, K5, R5, hY⟩ := ih (t + 1) h c wf gf Z (by omega) S hZ hgf (hskip hok)
      refine ⟨h2, c2, wf2, gf2, Z2, S5, F5, K5, R5, fun X hX C E => ?_⟩
      have hY2 := hY X hX C E
      subst hX
      refine y_iload C D_X3_tryYear_79 rfl ?_
      refine y_aload C D_X3_tryYear_81 rfl ?_
      refine y_get C D_X3_tryYear_83 fl_X3_44 (S.y yy (by omega)).o rfl ?_
      rw [hZ3]
      refine z_callSN C D_X3_tryYear_86 lk_X3_47 (c_X6_bit (by omega)) rfl rfl (Nat.le_of_ble_eq_true rfl) (Nat.le_of_ble_eq_true rfl) ⟨Nat.zero_le _, Nat.zero_le _⟩ ?_
      rw [← hW]
      refine y_icmp_ge C D_X3_tryYear_89 (n_le (by omega) (by omega)) (fun c_89 => absurd c_89 (by omega)) (fun c_89 => ?_)
      refine y_iload C D_X3_tryYear_92 rfl ?_
      refine y_iload C D_X3_tryYear_94 rfl ?_
      refine z_callS C D_X3_tryYear_96 lk_X3_74 (c_J6_bitCount (by omega)) rfl rfl (Nat.le_of_ble_eq_true rfl) (Nat.le_of_ble_eq_true rfl) ⟨Nat.zero_le _, Nat.zero_le _⟩ ?_
      refine z_iadd C D_X3_tryYear_99 ?_
      refine y_istore C D_X3_tryYear_100 (by decide) (qok_s rfl rfl) ?_
      refine y_iload C D_X3_tryYear_102 rfl ?_
      refine y_aload_n C D_X3_tryYear_104 rfl ?_
      refine y_get C D_X3_tryYear_105 fl_X3_58 S.o rfl ?_
      refine y_icmp_ge C D_X3_tryYear_108 (n_le (by omega) (by omega)) (fun c_108 => ?_) (fun c_108 => ?_)
      · refine y_fg 7 ?_
        refine z_iinc (n := 1) C D_X3_tryYear_183 rfl (by decide) (qok_s rfl rfl) ?_
        refine y_goto C D_X3_tryYear_186 ?_
        exact hY2
      · refine y_iload C D_X3_tryYear_111 rfl ?_
        refine y_aload C D_X3_tryYear_113 rfl ?_
        refine y_get C D_X3_tryYear_115 fl_X3_51 (S.y yy (by omega)).o rfl ?_
        rw [hsup]
        refine z_iand C D_X3_tryYear_118 ?_
        refine y_if_ne C D_X3_tryYear_119 (n_eq0 (by omega)) (fun c_119 => ?_) (fun c_119 => absurd ⟨by omega, c_119⟩ hok)
        refine y_fg 7 ?_
        refine z_iinc (n := 1) C D_X3_tryYear_183 rfl (by decide) (qok_s rfl rfl) ?_
        refine y_goto C D_X3_tryYear_186 ?_
        exact hY2
end
