/-! the first grave dug: the class's way is the reference's -/
theorem yr_5a (y : Nat → Nat) : yr y 5 = y 5 &&& ad y := by
  unfold yr
  rw [up_ne _ _ (by decide)]
  exact y1_5 y
theorem and_sub : ∀ a, a < 64 → ∀ b, b < 64 → ∀ g, g < 6 → hs (a &&& b) g → hs a g := by decide +kernel
theorem andn_hs : ∀ a, a < 64 → ∀ b, b < 64 → ∀ g, g < 6 → (hs (andn a b) g ↔ hs a g ∧ ¬ hs b g) := by decide +kernel
theorem andn_z : ∀ a, a < 64 → ∀ b, b < 64 → andn a b = 0 → a &&& b = a := by decide +kernel
theorem fo_z : ∀ b, b < 64 → fo b 6 0 = none → b = 0 := by decide +kernel
theorem fo_s : ∀ b, b < 64 → ∀ g, g < 6 → fo b 6 0 = some g → hs b g ∧ ∀ k, k < g → ¬ hs b k := by decide +kernel
theorem fo_lt : ∀ b, b < 64 → ∀ g, fo b 6 0 = some g → g < 6 := by
  intro b _ g h
  have k : ∀ n s, ∀ g, fo b n s = some g → g < s + n := by
    intro n
    induction n with
    | zero => intro s g h; cases h
    | succ n ih =>
      intro s g h
      unfold fo at h
      split at h
      · cases h; omega
      · have := ih (s + 1) g h; omega
  have := k 6 0 g h
  omega
theorem kept_lt {y : Nat → Nat} (hV : Va y) (k : Nat) : yrs y k 5 < 64 := (hV.yrs k).k64
theorem ad_lt {y : Nat → Nat} (hV : Va y) : ad y < 64 := adn_lt hV.1.1 hV.1.2 _
theorem kept_dn {y : Nat → Nat} (hV : Va y) {g : Nat} (hg : g < 6) : ∀ m k, hs (yrs y (k + m) 5) g → hs (yrs y k 5) g
  | 0, k, h => h
  | m + 1, k, h => by
    refine kept_dn hV hg m k ?_
    have e : yrs y (k + (m + 1)) 5 = yrs y (k + m) 5 &&& ad (yrs y (k + m)) := yr_5a _
    rw [e] at h
    exact and_sub _ (kept_lt hV _) _ (ad_lt (hV.yrs _)) g hg h
theorem kept_and {y : Nat → Nat} (hV : Va y) : ∀ k, y 5 &&& yrs y k 5 = yrs y k 5
  | 0 => Nat.and_self _
  | k + 1 => by
    have e : yrs y (k + 1) 5 = yrs y k 5 &&& ad (yrs y k) := yr_5a _
    rw [e, ← Nat.and_assoc, kept_and hV k]
theorem dO_some {y : Nat → Nat} {g : Nat} : ∀ n k q, dugO 0 g n k (yrs y k) = some q → k ≤ q ∧ q ≤ k + n ∧ ¬ hs (yrs y q 5) g ∧ ∀ j, k ≤ j → j < q → hs (yrs y j 5) g
  | 0, k, q, h => by
    unfold dugO at h
    split at h
    · cases h
    · rename_i c
      cases h
      exact ⟨Nat.le_refl _, by omega, c, fun j h1 h2 => by omega⟩
  | n + 1, k, q, h => by
    unfold dugO at h
    split at h
    · rename_i c
      obtain ⟨a1, a2, a3, a4⟩ := dO_some n (k + 1) q h
      refine ⟨by omega, by omega, a3, fun j h1 h2 => ?_⟩
      by_cases d : j = k
      · rw [d]; exact c
      · exact a4 j (by omega) h2
    · rename_i c
      cases h
      exact ⟨Nat.le_refl _, by omega, c, fun j h1 h2 => by omega⟩
theorem dO_none {y : Nat → Nat} {g : Nat} : ∀ n k, dugO 0 g n k (yrs y k) = none → ∀ j, k ≤ j → j ≤ k + n → hs (yrs y j 5) g
  | 0, k, h, j, h1, h2 => by
    unfold dugO at h
    split at h
    · rename_i c
      rw [show j = k by omega]
      exact c
    · cases h
  | n + 1, k, h, j, h1, h2 => by
    unfold dugO at h
    split at h
    · rename_i c
      by_cases d : j = k
      · rw [d]; exact c
      · exact dO_none n (k + 1) h j (by omega) (by omega)
    · cases h
theorem gd_cases (y : Nat → Nat) : ∀ n k, ((∀ j, k < j → j ≤ k + n → yrs y j 5 = y 5) ∧ gdF y n k = none) ∨ ∃ j, k < j ∧ j ≤ k + n ∧ yrs y j 5 ≠ y 5 ∧ (∀ q, k < q → q < j → yrs y q 5 = y 5) ∧ gdF y n k = fo (andn (y 5) (yrs y j 5)) 6 0
  | 0, k => Or.inl ⟨fun j h1 h2 => by omega, rfl⟩
  | n + 1, k => by
    unfold gdF
    by_cases c : yrs y (k + 1) 5 = y 5
    · rw [if_pos c]
      rcases gd_cases y n (k + 1) with ⟨a, b⟩ | ⟨j, a1, a2, a3, a4, a5⟩
      · refine Or.inl ⟨fun j h1 h2 => ?_, b⟩
        by_cases d : j = k + 1
        · rw [d]; exact c
        · exact a j (by omega) (by omega)
      · refine Or.inr ⟨j, by omega, by omega, a3, fun q h1 h2 => ?_, a5⟩
        by_cases d : q = k + 1
        · rw [d]; exact c
        · exact a4 q (by omega) h2
    · rw [if_neg c]
      exact Or.inr ⟨k + 1, by omega, by omega, c, fun q h1 h2 => by omega, rfl⟩
theorem hs_big {b n g : Nat} (hb : b < 2 ^ n) (h : hs b g) : g < n := by
  rcases Nat.lt_or_ge g n with c | c
  · exact c
  · unfold hs at h
    rw [Nat.div_eq_of_lt (Nat.lt_of_lt_of_le hb (Nat.pow_le_pow_right (by decide) c))] at h
    cases h
theorem gdF_fsG {y : Nat → Nat} (hV : Va y) : gdF y 40 0 = (fsG y (y 0)).1 := by
  have h6 := hV.1.2
  rcases gd_cases y 40 0 with ⟨a, b⟩ | ⟨j, a1, a2, a3, a4, a5⟩
  · rw [b]
    have k : ∀ m, fsG y m = (none, 999) := by
      intro m
      induction m with
      | zero => rfl
      | succ m ih =>
        unfold fsG
        split
        · exact ih
        · rename_i q hq
          obtain ⟨q1, q2, q3, q4⟩ := dO_some 40 0 q hq
          rw [if_neg]
          · exact ih
          · intro z
            have := q4 0 (Nat.le_refl _) z.1
            rw [a q z.1 q2] at q3
            exact q3 this
    rw [k]
  · rw [a5]
    have hk0 : y 5 < 64 := hV.k64
    have hkj := kept_lt hV j
    cases hf : fo (andn (y 5) (yrs y j 5)) 6 0 with
    | none =>
      have e0 := fo_z _ (andn_lt _ hk0 _ hkj) hf
      have e1 := andn_z _ hk0 _ hkj e0
      rw [kept_and hV j] at e1
      exact absurd e1 a3
    | some g0 =>
      have g6 := fo_lt _ (andn_lt _ hk0 _ hkj) g0 hf
      obtain ⟨b1, b2⟩ := fo_s _ (andn_lt _ hk0 _ hkj) g0 g6 hf
      obtain ⟨c1, c2⟩ := (andn_hs _ hk0 _ hkj g0 g6).mp b1
      have g0y : g0 < y 0 := hs_big hV.2.2.2.2.1 c1
      have hq : ∀ g q, g < 6 → dugO 0 g 40 0 y = some q → 0 < q → j ≤ q ∧ (q = j → ¬ hs (yrs y j 5) g ∧ hs (y 5) g) := by
        intro g q hg hd h0
        obtain ⟨q1, q2, q3, q4⟩ := dO_some 40 0 q hd
        have hin := q4 0 (Nat.le_refl _) h0
        refine ⟨?_, fun e => ⟨e ▸ q3, hin⟩⟩
        rcases Nat.lt_or_ge q j with z | z
        · rw [a4 q h0 z] at q3
          exact absurd hin q3
        · exact z
      have k1 : ∀ m, m ≤ g0 → j < (fsG y m).2 := by
        intro m
        induction m with
        | zero => intro _; show j < 999; omega
        | succ m ih =>
          intro hm
          have ih := ih (by omega)
          unfold fsG
          split
          · exact ih
          · rename_i q hd
            split
            · rename_i z
              obtain ⟨r1, r2⟩ := hq m q (by omega) hd z.1
              show j < q
              rcases Nat.lt_or_ge j q with w | w
              · exact w
              · have := r2 (by omega)
                exact absurd ((andn_hs _ hk0 _ hkj m (by omega)).mpr ⟨this.2, this.1⟩) (b2 m (by omega))
            · exact ih
      have k2 : ∀ m, g0 + 1 + m ≤ y 0 → fsG y (g0 + 1 + m) = (some g0, j) := by
        intro m
        induction m with
        | zero =>
          intro hm
          show fsG y (g0 + 1) = _
          have hj := k1 g0 (Nat.le_refl _)
          unfold fsG
          split
          · rename_i hd
            exact absurd (dO_none 40 0 hd j (by omega) (by omega)) c2
          · rename_i q hd
            obtain ⟨q1, q2, q3, q4⟩ := dO_some 40 0 q hd
            have h0 : 0 < q := by
              rcases Nat.eq_zero_or_pos q with z | z
              · rw [z] at q3
                exact absurd c1 q3
              · exact z
            have hge := (hq g0 q g6 hd h0).1
            have e : q = j := by
              rcases Nat.lt_or_ge j q with w | w
              · exact absurd (q4 j (by omega) w) c2
              · omega
            rw [e, if_pos ⟨a1, hj⟩]
        | succ m ih =>
          intro hm
          have ih := ih (by omega)
          show fsG y (g0 + 1 + m + 1) = _
          unfold fsG
          split
          · exact ih
          · rename_i q hd
            rw [if_neg]
            · exact ih
            · intro z
              have := (hq (g0 + 1 + m) q (by omega) hd z.1).1
              rw [ih] at z
              have := z.2
              show False
              simp only at this
              omega
      have := k2 (y 0 - (g0 + 1)) (by omega)
      rw [show g0 + 1 + (y 0 - (g0 + 1)) = y 0 by omega] at this
      rw [this]
/-! how likely a grave is kept: the class's way is the reference's -/
def iB (D s : Nat) : Nat → Bool
  | 0 => false
  | k + 1 => iB D s k || (!decide (hs s k) && decide (hs D k))
def aB (D m p : Nat) : Nat → Nat
  | 0 => 0
  | s + 1 => aB D m p s + (if iB D s m = true then ptN p s m else 0)
theorem isB_iB {y : Nat → Nat} {g s D : Nat} : ∀ m, (∀ k, k < m → (hs D k ↔ hs (dr y k) g)) → isB y g s m = iB D s m
  | 0, _ => rfl
  | m + 1, h => by
    unfold isB iB
    rw [isB_iB m (fun k hk => h k (by omega))]
    have := h m (by omega)
    by_cases c : hs D m
    · rw [decide_eq_true c, decide_eq_true (this.mp c)]
    · rw [decide_eq_false c, decide_eq_false (fun z => c (this.mpr z))]
theorem abN_aB {y : Nat → Nat} {g p D : Nat} (hk : hs (y 5) g) (h : ∀ k, k < y 3 → (hs D k ↔ hs (dr y k) g)) : ∀ s, abN y g p s = aB D (y 3) p s
  | 0 => rfl
  | s + 1 => by
    unfold abN aB
    rw [abN_aB hk h s, isB_iB (y 3) h]
    by_cases c : iB D s (y 3) = true
    · rw [if_pos ⟨c, hk⟩, if_pos c]
    · rw [if_neg (fun z => c z.1), if_neg c]
theorem abN_0 {y : Nat → Nat} {g p : Nat} (hk : ¬ hs (y 5) g) : ∀ s, abN y g p s = 0
  | 0 => rfl
  | s + 1 => by
    unfold abN
    rw [abN_0 hk s, if_neg (fun z => hk z.2)]
theorem or_hs : ∀ a, a < 32 → ∀ p, p < 5 → ∀ k, k < 5 → ((hs (a ||| 2 ^ p) k ↔ (hs a k ∨ k = p)) ∧ (hs (a ||| 0) k ↔ hs a k)) := by decide +kernel
theorem dwn_hs {y : Nat → Nat} {g : Nat} : ∀ m, m ≤ 5 → ∀ k, k < 5 → (hs (dwn y g m) k ↔ k < m ∧ hs (dr y k) g)
  | 0, _, k, hk => by
    unfold dwn hs
    rw [Nat.zero_div]
    omega
  | m + 1, hm, k, hk => by
    have ih := dwn_hs (y := y) (g := g) m (by omega) k hk
    have hl : dwn y g m < 32 := Nat.lt_of_lt_of_le (dwn_lt m) (Nat.pow_le_pow_right (by decide) (by omega : m ≤ 5))
    have ho := or_hs _ hl m (by omega) k hk
    unfold dwn
    by_cases c : hs (dr y m) g
    · rw [if_pos c, ho.1, ih]
      constructor
      · rintro (z | z)
        · exact ⟨by omega, z.2⟩
        · rw [z]; exact ⟨by omega, c⟩
      · intro z
        by_cases d : k = m
        · exact Or.inr d
        · exact Or.inl ⟨by omega, z.2⟩
    · rw [if_neg c, ho.2, ih]
      constructor
      · intro z
        exact ⟨by omega, z.2⟩
      · intro z
        refine ⟨?_, z.2⟩
        rcases Nat.lt_or_ge k m with d | d
        · exact d
        · have : k = m := by omega
          rw [this] at z
          exact absurd z.2 c
theorem chance_all : ∀ m, m < 6 → ∀ D, D < 32 → D < 2 ^ m → ∀ q, q < 11 → aB D m q (2 ^ m) / Nat.gcd (aB D m q (2 ^ m)) (10 ^ m) = chV q (ones D) 1 ∧ 10 ^ m / Nat.gcd (aB D m q (2 ^ m)) (10 ^ m) = chV q (ones D) 0 := by decide +kernel
theorem chance_0 : ∀ m, m < 6 → ∀ q, q < 11 → 0 / Nat.gcd 0 (10 ^ m) = chV q 0 1 ∧ 10 ^ m / Nat.gcd 0 (10 ^ m) = chV q 0 0 := by decide +kernel
theorem chance_eq {y : Nat → Nat} (hV : Va y) {g q : Nat} (hq : q ≤ 10) : abN y g q (2 ^ y 3) / Nat.gcd (abN y g q (2 ^ y 3)) (10 ^ y 3) = chV q (dmN y g) 1 ∧ 10 ^ y 3 / Nat.gcd (abN y g q (2 ^ y 3)) (10 ^ y 3) = chV q (dmN y g) 0 := by
  have h3 := hV.2.2.2.1
  unfold dmN
  by_cases c : hs (y 5) g
  · rw [if_pos c, abN_aB (D := dwn y g (y 3)) c (fun k hk => by rw [dwn_hs (y 3) h3.2 k (by omega)]; exact ⟨fun z => z.2, fun z => ⟨hk, z⟩⟩)]
    have hl := dwn_lt (y := y) (g := g) (y 3)
    exact chance_all (y 3) (by omega) _ (Nat.lt_of_lt_of_le hl (Nat.pow_le_pow_right (by decide) h3.2 : 2 ^ y 3 ≤ 2 ^ 5)) hl q (by omega)
  · rw [if_neg c, abN_0 c]
    exact chance_0 (y 3) (by omega) q (by omega)
