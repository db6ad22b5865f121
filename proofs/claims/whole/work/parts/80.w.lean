/-! suppers that keep graves: the class's search is the reference's -/
section
variable {z z' : Nat → Nat}
theorem mo_c {p b : Nat} (h1 : z' 1 = z 1) (hm : me z' p = me z p) : ∀ n, mo z' p b n = mo z p b n
  | 0 => rfl
  | n + 1 => by
    unfold mo
    rw [mo_c h1 hm n, h1, hm]
theorem fset_c {p s : Nat} (h5 : z' 5 = z 5) (hm : me z' p = me z p) : ∀ n, fset z' p s n = fset z p s n
  | 0 => rfl
  | n + 1 => by
    unfold fset
    rw [fset_c h5 hm n, h5, hm]
theorem dr_c (hz : ∀ k, ¬ (11 ≤ k ∧ k < 16) → z' k = z k) {p : Nat} (hp : p < 5) : dr z' p = dr z p := by
  have hm : me z' p = me z p := funext (fun g => hz _ (by omega))
  have h0 := hz 0 (by omega)
  have h1 := hz 1 (by omega)
  have h4 := hz 4 (by omega)
  have h5 := hz 5 (by omega)
  have h6 := hz (6 + p) (by omega)
  have h16 := hz (16 + p) (by omega)
  have ed : dset z' p = dset z p := by
    unfold dset
    rw [h6, h4, h0, h5, mo_c h1 hm]
    split
    · rfl
    · cases mo z p (z 5) (z 0) with
      | none => rfl
      | some f =>
        simp only
        rw [mo_c h1 hm]
  unfold dr
  rw [h16, ed, h0, fset_c h5 hm]
theorem adn_c (hz : ∀ k, ¬ (11 ≤ k ∧ k < 16) → z' k = z k) : ∀ n, n ≤ 5 → adn z' n = adn z n
  | 0, _ => rfl
  | n + 1, hn => by
    unfold adn
    rw [adn_c hz n (by omega), dr_c hz (by omega)]
theorem ad_c (hz : ∀ k, ¬ (11 ≤ k ∧ k < 16) → z' k = z k) (h3 : z 3 ≤ 5) : ad z' = ad z := by
  show adn z' (z' 3) = adn z (z 3)
  rw [hz 3 (by omega)]
  exact adn_c hz _ h3
end
theorem gv_lo {z : Nat → Nat} {b k : Nat} (hV : Va z) (h : ¬ (11 ≤ k ∧ k < 16)) : gv z b k = z k := gvL_lo h hV.2.2.2.1.2
theorem y1_gv {z : Nat → Nat} (hV : Va z) (b : Nat) : y1 (gv z b) = gv (y1 z) b := by
  have h3 := hV.2.2.2.1.2
  have hz : ∀ k, ¬ (11 ≤ k ∧ k < 16) → gv z b k = z k := fun k hk => gv_lo hV hk
  have ea : ad (gv z b) = ad z := ad_c hz h3
  have el : lostY (gv z b) = lostY z := by
    unfold lostY
    rw [ea, hz 5 (by omega)]
  have e3 : y1 z 3 = z 3 := y1_lo (by decide) (by decide)
  funext k
  by_cases c : k = 5
  · subst c
    rw [y1_5, ea, hz 5 (by omega)]
    show _ = gvL (y1 z) b (y1 z 3) 5
    rw [gvL_lo (by omega) (by rw [e3]; exact h3), y1_5]
  · rw [y1_ne c, el]
    show _ = gvL (y1 z) b (y1 z 3) k
    rw [e3]
    by_cases d : 11 ≤ k ∧ k < 16
    · rw [dg_lo (by omega)]
      show gvL z b (z 3) k = _
      unfold gvL
      rw [y1_lo c (by omega)]
    · rw [gvL_lo d h3, y1_ne c]
      unfold dg
      rw [hz k d]
theorem yr_gv {z : Nat → Nat} (hV : Va z) (b : Nat) : yr (gv z b) = va_up (fd (gv (y1 z) b)) 4 (z 4 + 1) := by
  unfold yr
  rw [y1_gv hV, gv_lo hV (by omega)]
theorem or_bits : ∀ v, v < 32 → ∀ t, t < 32 → ∀ p, p < 5 → (v ||| t) / 2 ^ p % 2 = (v / 2 ^ p % 2) ||| (t / 2 ^ p &&& 1) := by decide +kernel
theorem sS_gv {z : Nat → Nat} (hV : Va z) {t : Nat} (ht : t < 2 ^ z 3) : sS z 11 (sb z 11 ||| t) = gv z t := by
  have h3 := hV.2.2.2.1.2
  have ht32 : t < 32 := Nat.lt_of_lt_of_le ht (Nat.pow_le_pow_right (by decide) h3 : 2 ^ z 3 ≤ 2 ^ 5)
  funext k
  show _ = gvL z t (z 3) k
  by_cases c : 11 ≤ k ∧ k < 16
  · rw [sS_in c, or_bits _ (sb_lt hV.sup) _ ht32 (k - 11) (by omega), sb_bit hV.sup (by omega), show 11 + (k - 11) = k by omega]
    unfold gvL
    by_cases d : k < 11 + z 3
    · rw [if_pos ⟨c.1, d⟩]
    · rw [if_neg (fun q => d q.2)]
      have e0 : t / 2 ^ (k - 11) = 0 := Nat.div_eq_of_lt (Nat.lt_of_lt_of_le ht (Nat.pow_le_pow_right (by decide) (by omega)))
      rw [e0]
      exact Nat.or_zero _
  · rw [sS_out c, gvL_lo c h3]
/-- who has a supper told in the yard at year k -/
theorem sb_y1 (z : Nat → Nat) : sb (y1 z) 11 = sb z 11 := sb_c (fun k hk => y1_lo (by omega) (by omega))
theorem sb_yr (z : Nat → Nat) : sb (yr z) 11 = 0 := by
  have e : ∀ k, k < 5 → yr z (11 + k) = 0 := fun k hk => by
    unfold yr
    rw [up_ne _ _ (by omega)]
    unfold fd
    rw [if_neg (by omega), if_pos (by omega)]
  unfold sb
  have e0 := e 0 (by decide)
  rw [Nat.add_zero] at e0
  rw [e0, e 1 (by decide), e 2 (by decide), e 3 (by decide), e 4 (by decide)]
/-! rows of digits -/
def pc (W n r : Nat) : Nat → Nat
  | 0 => 0
  | k + 1 => pc W n r k + ones (wy W n r k)
theorem pc_le (W n r : Nat) : ∀ m k, pc W n r k ≤ pc W n r (k + m)
  | 0, k => Nat.le_refl _
  | m + 1, k => Nat.le_trans (pc_le W n r m k) (Nat.le_add_right _ _)
theorem pc_5 (W n r : Nat) : ∀ k, pc W n r k ≤ 5 * k
  | 0 => Nat.le_refl _
  | k + 1 => by
    have h1 := pc_5 W n r k
    have h2 := ones_le (wy W n r k)
    unfold pc
    omega
theorem pc_c {W n r s : Nat} : ∀ k, (∀ j, j < k → wy W n r j = wy W n s j) → pc W n r k = pc W n s k
  | 0, _ => rfl
  | k + 1, h => by
    unfold pc
    rw [pc_c k (fun j hj => h j (by omega)), h k (by omega)]
theorem wo_pc {W n r : Nat} (h1 : 1 ≤ n) (h3 : n ≤ 3) : wo W n r n = pc W n r n := by
  rcases (by omega : n = 1 ∨ n = 2 ∨ n = 3) with rfl | rfl | rfl
  · show 0 + ones (wy W 1 r 0) = 0 + ones (wy W 1 r 0)
    rfl
  · show 0 + ones (wy W 2 r 1) + ones (wy W 2 r 0) = 0 + ones (wy W 2 r 0) + ones (wy W 2 r 1)
    omega
  · show 0 + ones (wy W 3 r 2) + ones (wy W 3 r 1) + ones (wy W 3 r 0) = 0 + ones (wy W 3 r 0) + ones (wy W 3 r 1) + ones (wy W 3 r 2)
    omega
/-- in a block all rows have the same digits ahead -/
theorem wy_blk {W n d P r : Nat} (hW : 0 < W) (hd : d ≤ n) (h1 : P * W ^ d ≤ r) (h2 : r < P * W ^ d + W ^ d) {k : Nat} (hk : k < n - d) : wy W n r k = wy W n (P * W ^ d) k := by
  have hp : 0 < W ^ d := Nat.pow_pos hW
  have e : ∀ x, x / W ^ (n - 1 - k) = x / W ^ d / W ^ (n - 1 - k - d) := fun x => by
    rw [Nat.div_div_eq_div_mul, ← Nat.pow_add]
    rw [show d + (n - 1 - k - d) = n - 1 - k by omega]
  have e1 : r / W ^ d = P := by
    rw [Nat.div_eq_iff hp]
    constructor
    · exact h1
    · omega
  unfold wy
  rw [e r, e (P * W ^ d), e1, Nat.mul_div_cancel _ hp]
theorem wy_dig {W n d P t : Nat} (ht : t < W) (hd : d + 1 ≤ n) : wy W n ((P * W + t) * W ^ d) (n - (d + 1)) = t := by
  have hp : 0 < W ^ d := Nat.pow_pos (by omega)
  unfold wy
  rw [show n - 1 - (n - (d + 1)) = d by omega, Nat.mul_div_cancel _ hp, Nat.mul_comm P W, Nat.mul_add_mod, Nat.mod_eq_of_lt ht]
theorem blk_child {W d P t : Nat} (ht : t < W) : P * W ^ (d + 1) + t * W ^ d = (P * W + t) * W ^ d ∧ P * W ^ (d + 1) ≤ (P * W + t) * W ^ d ∧ (P * W + t) * W ^ d + W ^ d ≤ P * W ^ (d + 1) + W ^ (d + 1) := by
  have e1 : P * W ^ (d + 1) = P * W * W ^ d := by rw [Nat.pow_succ, Nat.mul_comm (W ^ d) W, Nat.mul_assoc]
  have e2 : (P * W + t) * W ^ d = P * W * W ^ d + t * W ^ d := Nat.add_mul _ _ _
  have e3 : W ^ (d + 1) = W * W ^ d := by rw [Nat.pow_succ, Nat.mul_comm]
  have e4 : (t + 1) * W ^ d ≤ W * W ^ d := Nat.mul_le_mul_right _ ht
  rw [Nat.succ_mul] at e4
  rw [e1, e2, e3]
  exact ⟨rfl, Nat.le_add_right _ _, by omega⟩
/-- the class's best against the reference's -/
def rwB (W n c : Nat) (wf : Nat → Nat) (q : Option Nat × Nat) : Prop := (q.1 = none ∧ c = 16) ∨ (q.1 = some c ∧ c < 16 ∧ ∀ t, t < n → wf t = wy W n q.2 t)
theorem rwB.ls {W n c : Nat} {wf : Nat → Nat} {q : Option Nat × Nat} (h : rwB W n c wf q) {m : Nat} (hm : m < 16) : lsB q.1 m = true ↔ m < c := by
  rcases h with ⟨a, b⟩ | ⟨a, b, _⟩
  · rw [a, b]
    exact ⟨fun _ => hm, fun _ => rfl⟩
  · rw [a]
    exact decide_eq_true_iff
section
variable {y : Nat → Nat} {gs W n told b0 : Nat}
theorem fw_skip {R : Nat} : ∀ m, (∀ r, R ≤ r → r < R + m → ¬ ((wy W n r 0 &&& told = 0 ∧ lsB (fw y gs W n told b0 R).1 (wo W n r n) = true) ∧ andn gs (kyN y (wy W n r) n 5) = 0)) → fw y gs W n told b0 (R + m) = fw y gs W n told b0 R
  | 0, _ => rfl
  | m + 1, h => by
    have ih := fw_skip m (fun r h1 h2 => h r h1 (by omega))
    show (if (wy W n (R + m) 0 &&& told = 0 ∧ lsB (fw y gs W n told b0 (R + m)).1 (wo W n (R + m) n) = true) ∧ andn gs (kyN y (wy W n (R + m)) n 5) = 0 then _ else fw y gs W n told b0 (R + m)) = _
    rw [ih, if_neg (h (R + m) (by omega) (by omega))]
theorem kept_le {hV : Va y} {w : Nat → Nat} : ∀ m k, ∃ x, x < 64 ∧ kyN y w (k + m) 5 = kyN y w k 5 &&& x
  | 0, k => ⟨63, by decide, by
      have := (hV.kyN w k).k64
      exact (show ∀ a, a < 64 → a = a &&& 63 by decide +kernel) _ this⟩
  | m + 1, k => by
    obtain ⟨x, hx, e⟩ := kept_le (hV := hV) (w := w) m k
    have hk := hV.kyN w (k + m)
    refine ⟨x &&& ad (gv (kyN y w (k + m)) (w (k + m))), Nat.lt_of_le_of_lt Nat.and_le_left hx, ?_⟩
    show yr (gv (kyN y w (k + m)) (w (k + m))) 5 = _
    rw [yr_5a, gv_lo hk (by omega), e, Nat.and_assoc]
theorem andn_mono : ∀ a, a < 64 → ∀ b, b < 64 → ∀ x, x < 64 → andn a (b &&& x) = 0 → andn a b = 0 := by
  intro a ha b hb x hx h
  have k1 : ∀ a, a < 64 → ∀ b, b < 64 → ((∀ g, g < 6 → ¬ hs (andn a b) g) ↔ andn a b = 0) := by decide +kernel
  refine (k1 a ha b hb).mp (fun g hg q => ?_)
  obtain ⟨q1, q2⟩ := (andn_hs a ha b hb g hg).mp q
  have hbx : b &&& x < 64 := Nat.lt_of_le_of_lt Nat.and_le_left hb
  exact (k1 a ha _ hbx).mpr h g hg ((andn_hs a ha _ hbx g hg).mpr ⟨q1, fun r => q2 (and_sub b hb x hx g hg r)⟩)
/-- kept at the end, so kept behind each year -/
theorem kept_end {w : Nat → Nat} (hV : Va y) (hg : gs < 64) {k m : Nat} (h : andn gs (kyN y w (k + m) 5) = 0) : andn gs (kyN y w k 5) = 0 := by
  obtain ⟨x, hx, e⟩ := kept_le (hV := hV) (w := w) m k
  rw [e] at h
  exact andn_mono gs hg _ (hV.kyN w k).k64 x hx h
theorem ky_y1 {w : Nat → Nat} (hV : Va y) (k : Nat) : kyN y w (k + 1) 5 = y1 (kyN y w k) 5 := by
  show yr (gv (kyN y w k) (w k)) 5 = _
  rw [yr_gv (hV.kyN w k), up_ne _ _ (by decide)]
  have hk := (hV.kyN w k).y1
  show fd (gv (y1 (kyN y w k)) (w k)) 5 = _
  unfold fd
  rw [if_neg (by decide), if_neg (by decide), gv_lo hk (by omega)]
end
