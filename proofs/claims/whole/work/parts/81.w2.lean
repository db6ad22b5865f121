theorem kyN_3 {y : Nat → Nat} (h : Va y) (w : Nat → Nat) : ∀ n, kyN y w n 3 = y 3
  | 0 => rfl
  | n + 1 => by
    have hk := h.kyN w n
    show yr (gv (kyN y w n) (w n)) 3 = _
    rw [yr_gv hk, up_ne _ _ (by decide)]
    unfold fd
    rw [if_neg (by decide), if_neg (by decide), gv_lo hk.y1 (by omega), y1_lo (by decide) (by decide), kyN_3 h w n]
theorem rwB.le {W n c : Nat} {wf : Nat → Nat} {q : Option Nat × Nat} (h : rwB W n c wf q) : c ≤ 16 := by
  rcases h with ⟨_, b⟩ | ⟨_, b, _⟩ <;> omega
