section
variable {l : Launch} {G : qG} {U : List va_E} {i : Nat → Nat} {A : Nat → Nat → Nat} {B : Nat → Nat → Int32} {h : List va_E}
theorem c_X7_sleeperB (hU : U.length = 122) (h3 : A 5 3 ≤ 5) {x w : Int32} (hx : ¬ isx x (A 5 3)) : Ct l G yX7_sleeper 3 [qr G 122, .int x, .int w] (hm G U i A B) (some (.int (-1000001))) (hm G U i A B) := by
  refine ctm_intro (maxL := 3) kw_X7_sleeper (by decide) (by decide) [some (qr G 122), some (.int x), some (.int w)] rfl (Nat.le_of_ble_eq_true rfl) ?_
  intro X _ hcl hsl _ _ C E
  refine y_aload_n C D_X7_sleeper_0 rfl ?_
  refine y_iload_n C D_X7_sleeper_1 rfl ?_
  refine z_callV C D_X7_sleeper_2 lk_X7_171 (c_X7_isSleeper hU (by omega)) (hm_o hU) rfl rfl (Nat.le_of_ble_eq_true rfl) (Nat.le_of_ble_eq_true rfl) ⟨Nat.zero_le _, Nat.zero_le _⟩ ?_
  refine z_ifneB C D_X7_sleeper_5 (fun c_5 => absurd c_5 hx) (fun c_5 => ?_)
  refine y_ldc C D_X7_sleeper_8 lk_X7_67 ?_
  exact y_iret C E D_X7_sleeper_10 (rfl) (rfl)
theorem c_X7_sleeperW (hU : U.length = 122) (h3 : A 5 3 ≤ 5) {s : Nat} {w : Int32} (hs1 : s < A 5 3) (hw : ¬ isx w 4) : Ct l G yX7_sleeper 3 [qr G 122, .int (nI s), .int w] (hm G U i A B) (some (.int (-1000001))) (hm G U i A B) := by
  refine ctm_intro (maxL := 3) kw_X7_sleeper (by decide) (by decide) [some (qr G 122), some (.int (nI s)), some (.int w)] rfl (Nat.le_of_ble_eq_true rfl) ?_
  intro X _ hcl hsl _ _ C E
  refine y_aload_n C D_X7_sleeper_0 rfl ?_
  refine y_iload_n C D_X7_sleeper_1 rfl ?_
  refine z_callV C D_X7_sleeper_2 lk_X7_171 (c_X7_isSleeper hU (by omega)) (hm_o hU) rfl rfl (Nat.le_of_ble_eq_true rfl) (Nat.le_of_ble_eq_true rfl) ⟨Nat.zero_le _, Nat.zero_le _⟩ ?_
  refine z_ifneB C D_X7_sleeper_5 (fun c_5 => ?_) (fun c_5 => absurd (isx_n (by omega) hs1) c_5)
  refine y_iload_n C D_X7_sleeper_11 rfl ?_
  refine y_tabOut (tgt := 76) C D_X7_sleeper_12 (isx_out (by decide) hw) (by decide) ?_
  refine y_ldc C D_X7_sleeper_76 lk_X7_67 ?_
  exact y_iret C E D_X7_sleeper_78 (rfl) (rfl)
theorem c_X7_sleeper0 (hU : U.length = 122) {s : Nat} (hV : Va (A 5)) (h4 : A 5 4 < 1999) (hs1 : s < A 5 3) : Ct l G yX7_sleeper 3 [qr G 122, .int (nI s), .int (nI 0)] (hm G U i A B) (some (.int (nI (dr (A 5) s)))) (hm G U i A B) := by
  refine ctm_intro (maxL := 3) kw_X7_sleeper (by decide) (by decide) [some (qr G 122), some (.int (nI s)), some (.int (nI 0))] rfl (Nat.le_of_ble_eq_true rfl) ?_
  intro X _ hcl hsl _ _ C E
  have v0 := hV.1
  have v1 := hV.2.1
  have v2 := hV.2.2.1
  have v3 := hV.2.2.2.1
  have v5 := hV.k64
  have hB : ∀ k, A 5 k < 2000 := fun k => hV.lt (by omega) k
  refine y_aload_n C D_X7_sleeper_0 rfl ?_
  refine y_iload_n C D_X7_sleeper_1 rfl ?_
  refine z_callV C D_X7_sleeper_2 lk_X7_171 (c_X7_isSleeper hU (by omega)) (hm_o hU) rfl rfl (Nat.le_of_ble_eq_true rfl) (Nat.le_of_ble_eq_true rfl) ⟨Nat.zero_le _, Nat.zero_le _⟩ ?_
  refine z_ifneB C D_X7_sleeper_5 (fun c_5 => ?_) (fun c_5 => absurd (isx_n (by omega) hs1) c_5)
  refine y_iload_n C D_X7_sleeper_11 rfl ?_
  refine y_tabIn (off := 32) (tgt := 44) C D_X7_sleeper_12 (by decide) (by decide) (by decide +kernel) (by decide) ?_
  refine y_aload_n C D_X7_sleeper_44 rfl ?_
  refine y_iload_n C D_X7_sleeper_45 rfl ?_
  refine z_callV C D_X7_sleeper_46 lk_X7_152 (c_X7_dreams hU (by omega) v0.1 v0.2 hB v5) (hm_o hU) rfl rfl (Nat.le_of_ble_eq_true rfl) (Nat.le_of_ble_eq_true rfl) ⟨Nat.zero_le _, Nat.zero_le _⟩ ?_
  exact y_iret C E D_X7_sleeper_49 (rfl) (rfl)
theorem c_X7_sleeper1 (hU : U.length = 122) {s : Nat} (hV : Va (A 5)) (h4 : A 5 4 < 1999) (hs1 : s < A 5 3) : Ct l G yX7_sleeper 3 [qr G 122, .int (nI s), .int (nI 1)] (hm G U i A B) (some (.int (nI (mbn (A 5) s (A 5 0))))) (hm G U i A B) := by
  refine ctm_intro (maxL := 3) kw_X7_sleeper (by decide) (by decide) [some (qr G 122), some (.int (nI s)), some (.int (nI 1))] rfl (Nat.le_of_ble_eq_true rfl) ?_
  intro X _ hcl hsl _ _ C E
  have v0 := hV.1
  have v1 := hV.2.1
  have v2 := hV.2.2.1
  have v3 := hV.2.2.2.1
  have v5 := hV.k64
  have hB : ∀ k, A 5 k < 2000 := fun k => hV.lt (by omega) k
  refine y_aload_n C D_X7_sleeper_0 rfl ?_
  refine y_iload_n C D_X7_sleeper_1 rfl ?_
  refine z_callV C D_X7_sleeper_2 lk_X7_171 (c_X7_isSleeper hU (by omega)) (hm_o hU) rfl rfl (Nat.le_of_ble_eq_true rfl) (Nat.le_of_ble_eq_true rfl) ⟨Nat.zero_le _, Nat.zero_le _⟩ ?_
  refine z_ifneB C D_X7_sleeper_5 (fun c_5 => ?_) (fun c_5 => absurd (isx_n (by omega) hs1) c_5)
  refine y_iload_n C D_X7_sleeper_11 rfl ?_
  refine y_tabIn (off := 38) (tgt := 50) C D_X7_sleeper_12 (by decide) (by decide) (by decide +kernel) (by decide) ?_
  refine y_aload_n C D_X7_sleeper_50 rfl ?_
  refine y_iload_n C D_X7_sleeper_51 rfl ?_
  refine z_callV C D_X7_sleeper_52 lk_X7_183 (c_X7_memoryBy hU (by omega) (by omega)) (hm_o hU) rfl rfl (Nat.le_of_ble_eq_true rfl) (Nat.le_of_ble_eq_true rfl) ⟨Nat.zero_le _, Nat.zero_le _⟩ ?_
  exact y_iret C E D_X7_sleeper_55 (rfl) (rfl)
theorem c_X7_sleeper2 (hU : U.length = 122) {s : Nat} (hV : Va (A 5)) (h4 : A 5 4 < 1999) (hs1 : s < A 5 3) : Ct l G yX7_sleeper 3 [qr G 122, .int (nI s), .int (nI 2)] (hm G U i A B) (some (.int (nI (A 5 (11 + s))))) (hm G U i A B) := by
  refine ctm_intro (maxL := 3) kw_X7_sleeper (by decide) (by decide) [some (qr G 122), some (.int (nI s)), some (.int (nI 2))] rfl (Nat.le_of_ble_eq_true rfl) ?_
  intro X _ hcl hsl _ _ C E
  have v0 := hV.1
  have v1 := hV.2.1
  have v2 := hV.2.2.1
  have v3 := hV.2.2.2.1
  have v5 := hV.k64
  have hB : ∀ k, A 5 k < 2000 := fun k => hV.lt (by omega) k
  refine y_aload_n C D_X7_sleeper_0 rfl ?_
  refine y_iload_n C D_X7_sleeper_1 rfl ?_
  refine z_callV C D_X7_sleeper_2 lk_X7_171 (c_X7_isSleeper hU (by omega)) (hm_o hU) rfl rfl (Nat.le_of_ble_eq_true rfl) (Nat.le_of_ble_eq_true rfl) ⟨Nat.zero_le _, Nat.zero_le _⟩ ?_
  refine z_ifneB C D_X7_sleeper_5 (fun c_5 => ?_) (fun c_5 => absurd (isx_n (by omega) hs1) c_5)
  refine y_iload_n C D_X7_sleeper_11 rfl ?_
  refine y_tabIn (off := 44) (tgt := 56) C D_X7_sleeper_12 (by decide) (by decide) (by decide +kernel) (by decide) ?_
  refine y_aload_n C D_X7_sleeper_56 rfl ?_
  refine y_get C D_X7_sleeper_57 fl_X7_19 (hm_o hU) rfl ?_
  refine y_bipush C D_X7_sleeper_60 kb_11 ?_
  refine y_iload_n C D_X7_sleeper_62 rfl ?_
  refine z_iadd C D_X7_sleeper_63 ?_
  refine z_ild C D_X7_sleeper_64 (hm_st hU) (by omega) (by decide) rfl ?_
  exact y_iret C E D_X7_sleeper_65 (rfl) (rfl)
theorem c_X7_sleeper3 (hU : U.length = 122) {s : Nat} (hV : Va (A 5)) (h4 : A 5 4 < 1999) (hs1 : s < A 5 3) : Ct l G yX7_sleeper 3 [qr G 122, .int (nI s), .int (nI 3)] (hm G U i A B) (some (.int (nI (A 5 (16 + s))))) (hm G U i A B) := by
  refine ctm_intro (maxL := 3) kw_X7_sleeper (by decide) (by decide) [some (qr G 122), some (.int (nI s)), some (.int (nI 3))] rfl (Nat.le_of_ble_eq_true rfl) ?_
  intro X _ hcl hsl _ _ C E
  have v0 := hV.1
  have v1 := hV.2.1
  have v2 := hV.2.2.1
  have v3 := hV.2.2.2.1
  have v5 := hV.k64
  have hB : ∀ k, A 5 k < 2000 := fun k => hV.lt (by omega) k
  refine y_aload_n C D_X7_sleeper_0 rfl ?_
  refine y_iload_n C D_X7_sleeper_1 rfl ?_
  refine z_callV C D_X7_sleeper_2 lk_X7_171 (c_X7_isSleeper hU (by omega)) (hm_o hU) rfl rfl (Nat.le_of_ble_eq_true rfl) (Nat.le_of_ble_eq_true rfl) ⟨Nat.zero_le _, Nat.zero_le _⟩ ?_
  refine z_ifneB C D_X7_sleeper_5 (fun c_5 => ?_) (fun c_5 => absurd (isx_n (by omega) hs1) c_5)
  refine y_iload_n C D_X7_sleeper_11 rfl ?_
  refine y_tabIn (off := 54) (tgt := 66) C D_X7_sleeper_12 (by decide) (by decide) (by decide +kernel) (by decide) ?_
  refine y_aload_n C D_X7_sleeper_66 rfl ?_
  refine y_get C D_X7_sleeper_67 fl_X7_19 (hm_o hU) rfl ?_
  refine y_bipush C D_X7_sleeper_70 kb_16 ?_
  refine y_iload_n C D_X7_sleeper_72 rfl ?_
  refine z_iadd C D_X7_sleeper_73 ?_
  refine z_ild C D_X7_sleeper_74 (hm_st hU) (by omega) (by decide) rfl ?_
  exact y_iret C E D_X7_sleeper_75 (rfl) (rfl)
theorem c_X7_memoryB (hU : U.length = 122) (h3 : A 5 3 ≤ 5) (h0 : A 5 0 ≤ 6) {x w : Int32} (hx : ¬ isx x (A 5 3) ∨ ¬ isx w (A 5 0)) : Ct l G yX7_memory 2 [qr G 122, .int x, .int w] (hm G U i A B) (some (.int (-1000001))) (hm G U i A B) := by
  refine ctm_intro (maxL := 3) kw_X7_memory (by decide) (by decide) [some (qr G 122), some (.int x), some (.int w)] rfl (Nat.le_of_ble_eq_true rfl) ?_
  intro X _ hcl hsl _ _ C E
  refine y_aload_n C D_X7_memory_0 rfl ?_
  refine y_iload_n C D_X7_memory_1 rfl ?_
  refine z_callV C D_X7_memory_2 lk_X7_171 (c_X7_isSleeper hU (by omega)) (hm_o hU) rfl rfl (Nat.le_of_ble_eq_true rfl) (Nat.le_of_ble_eq_true rfl) ⟨Nat.zero_le _, Nat.zero_le _⟩ ?_
  refine z_ifeqB C D_X7_memory_5 (fun c_5 => ?_) (fun c_5 => ?_)
  · refine y_ldc C D_X7_memory_25 lk_X7_67 ?_
    exact y_iret C E D_X7_memory_27 (rfl) (rfl)
  · refine y_aload_n C D_X7_memory_8 rfl ?_
    refine y_iload_n C D_X7_memory_9 rfl ?_
    refine z_callV C D_X7_memory_10 lk_X7_180 (c_X7_isGrave hU (by omega)) (hm_o hU) rfl rfl (Nat.le_of_ble_eq_true rfl) (Nat.le_of_ble_eq_true rfl) ⟨Nat.zero_le _, Nat.zero_le _⟩ ?_
    refine z_ifeqB C D_X7_memory_13 (fun c_13 => ?_) (fun c_13 => hx.elim (fun z => absurd c_5 z) (fun z => absurd c_13 z))
    refine y_ldc C D_X7_memory_25 lk_X7_67 ?_
    exact y_iret C E D_X7_memory_27 (rfl) (rfl)
theorem c_X7_memory (hU : U.length = 122) (h3 : A 5 3 ≤ 5) (h0 : A 5 0 ≤ 6) {s g : Nat} (hs1 : s < A 5 3) (hg1 : g < A 5 0) : Ct l G yX7_memory 2 [qr G 122, .int (nI s), .int (nI g)] (hm G U i A B) (some (.int (nI (me (A 5) s g)))) (hm G U i A B) := by
  refine ctm_intro (maxL := 3) kw_X7_memory (by decide) (by decide) [some (qr G 122), some (.int (nI s)), some (.int (nI g))] rfl (Nat.le_of_ble_eq_true rfl) ?_
  intro X _ hcl hsl _ _ C E
  refine y_aload_n C D_X7_memory_0 rfl ?_
  refine y_iload_n C D_X7_memory_1 rfl ?_
  refine z_callV C D_X7_memory_2 lk_X7_171 (c_X7_isSleeper hU (by omega)) (hm_o hU) rfl rfl (Nat.le_of_ble_eq_true rfl) (Nat.le_of_ble_eq_true rfl) ⟨Nat.zero_le _, Nat.zero_le _⟩ ?_
  refine z_ifeqB C D_X7_memory_5 (fun c_5 => absurd (isx_n (by omega) hs1) c_5) (fun c_5 => ?_)
  refine y_aload_n C D_X7_memory_8 rfl ?_
  refine y_iload_n C D_X7_memory_9 rfl ?_
  refine z_callV C D_X7_memory_10 lk_X7_180 (c_X7_isGrave hU (by omega)) (hm_o hU) rfl rfl (Nat.le_of_ble_eq_true rfl) (Nat.le_of_ble_eq_true rfl) ⟨Nat.zero_le _, Nat.zero_le _⟩ ?_
  refine z_ifeqB C D_X7_memory_13 (fun c_13 => absurd (isx_n (by omega) hg1) c_13) (fun c_13 => ?_)
  refine y_aload_n C D_X7_memory_16 rfl ?_
  refine y_iload_n C D_X7_memory_17 rfl ?_
  refine y_iload_n C D_X7_memory_18 rfl ?_
  refine z_callV C D_X7_memory_19 lk_X7_146 (c_X7_memoryOf hU (by omega) (by omega)) (hm_o hU) rfl rfl (Nat.le_of_ble_eq_true rfl) (Nat.le_of_ble_eq_true rfl) ⟨Nat.zero_le _, Nat.zero_le _⟩ ?_
  refine y_goto C D_X7_memory_22 ?_
  exact y_iret C E D_X7_memory_27 (rfl) (rfl)
theorem c_X7_kindB (hU : U.length = 122) (h3 : A 5 3 ≤ 5) {x : Int32} (hx : ¬ isx x (A 5 3)) : Ct l G yX7_kind 2 [qr G 122, .int x] (hm G U i A B) (some (.int (-1000001))) (hm G U i A B) := by
  refine ctm_intro (maxL := 2) kw_X7_kind (by decide) (by decide) [some (qr G 122), some (.int x)] rfl (Nat.le_of_ble_eq_true rfl) ?_
  intro X _ hcl hsl _ _ C E
  refine y_aload_n C D_X7_kind_0 rfl ?_
  refine y_iload_n C D_X7_kind_1 rfl ?_
  refine z_callV C D_X7_kind_2 lk_X7_171 (c_X7_isSleeper hU (by omega)) (hm_o hU) rfl rfl (Nat.le_of_ble_eq_true rfl) (Nat.le_of_ble_eq_true rfl) ⟨Nat.zero_le _, Nat.zero_le _⟩ ?_
  refine z_ifeqB C D_X7_kind_5 (fun c_5 => ?_) (fun c_5 => absurd c_5 hx)
  refine y_ldc C D_X7_kind_20 lk_X7_67 ?_
  exact y_iret C E D_X7_kind_22 (rfl) (rfl)
theorem c_X7_kind (hU : U.length = 122) (h3 : A 5 3 ≤ 5) {s : Nat} (hs1 : s < A 5 3) : Ct l G yX7_kind 2 [qr G 122, .int (nI s)] (hm G U i A B) (some (.int (nI (A 5 (6 + s))))) (hm G U i A B) := by
  refine ctm_intro (maxL := 2) kw_X7_kind (by decide) (by decide) [some (qr G 122), some (.int (nI s))] rfl (Nat.le_of_ble_eq_true rfl) ?_
  intro X _ hcl hsl _ _ C E
  refine y_aload_n C D_X7_kind_0 rfl ?_
  refine y_iload_n C D_X7_kind_1 rfl ?_
  refine z_callV C D_X7_kind_2 lk_X7_171 (c_X7_isSleeper hU (by omega)) (hm_o hU) rfl rfl (Nat.le_of_ble_eq_true rfl) (Nat.le_of_ble_eq_true rfl) ⟨Nat.zero_le _, Nat.zero_le _⟩ ?_
  refine z_ifeqB C D_X7_kind_5 (fun c_5 => absurd (isx_n (by omega) hs1) c_5) (fun c_5 => ?_)
  refine y_aload_n C D_X7_kind_8 rfl ?_
  refine y_get C D_X7_kind_9 fl_X7_19 (hm_o hU) rfl ?_
  refine y_bipush C D_X7_kind_12 kb_6 ?_
  refine y_iload_n C D_X7_kind_14 rfl ?_
  refine z_iadd C D_X7_kind_15 ?_
  refine z_ild C D_X7_kind_16 (hm_st hU) (by omega) (by decide) rfl ?_
  refine y_goto C D_X7_kind_17 ?_
  exact y_iret C E D_X7_kind_22 (rfl) (rfl)
theorem c_X7_pairB (hU : U.length = 122) (h3 : A 5 3 ≤ 5) {x w : Int32} (hx : ¬ isx x (A 5 3) ∨ ¬ isx w (A 5 3) ∨ x = w) : Ct l G yX7_pair 3 [qr G 122, .int x, .int w] (hm G U i A B) (some (.int (-1000001))) (hm G U i A B) := by
  refine ctm_intro (maxL := 3) kw_X7_pair (by decide) (by decide) [some (qr G 122), some (.int x), some (.int w)] rfl (Nat.le_of_ble_eq_true rfl) ?_
  intro X _ hcl hsl _ _ C E
  refine y_aload_n C D_X7_pair_0 rfl ?_
  refine y_iload_n C D_X7_pair_1 rfl ?_
  refine z_callV C D_X7_pair_2 lk_X7_171 (c_X7_isSleeper hU (by omega)) (hm_o hU) rfl rfl (Nat.le_of_ble_eq_true rfl) (Nat.le_of_ble_eq_true rfl) ⟨Nat.zero_le _, Nat.zero_le _⟩ ?_
  refine z_ifeqB C D_X7_pair_5 (fun c_5 => ?_) (fun c_5 => ?_)
  · refine y_ldc C D_X7_pair_35 lk_X7_67 ?_
    exact y_iret C E D_X7_pair_37 (rfl) (rfl)
  · refine y_aload_n C D_X7_pair_8 rfl ?_
    refine y_iload_n C D_X7_pair_9 rfl ?_
    refine z_callV C D_X7_pair_10 lk_X7_171 (c_X7_isSleeper hU (by omega)) (hm_o hU) rfl rfl (Nat.le_of_ble_eq_true rfl) (Nat.le_of_ble_eq_true rfl) ⟨Nat.zero_le _, Nat.zero_le _⟩ ?_
    refine z_ifeqB C D_X7_pair_13 (fun c_13 => ?_) (fun c_13 => ?_)
    · refine y_ldc C D_X7_pair_35 lk_X7_67 ?_
      exact y_iret C E D_X7_pair_37 (rfl) (rfl)
    · refine y_iload_n C D_X7_pair_16 rfl ?_
      refine y_iload_n C D_X7_pair_17 rfl ?_
      refine y_icmp_eq C D_X7_pair_18 Iff.rfl (fun c_18 => ?_) (fun c_18 => hx.elim (fun z => absurd c_5 z) (fun z => z.elim (fun z => absurd c_13 z) (fun z => absurd z c_18)))
      refine y_ldc C D_X7_pair_35 lk_X7_67 ?_
      exact y_iret C E D_X7_pair_37 (rfl) (rfl)
theorem c_X7_pair (hU : U.length = 122) {s g : Nat} (hV : Va (A 5)) (h4 : A 5 4 < 1999) (hs1 : s < A 5 3) (hg1 : g < A 5 3) (hne : s ≠ g) : Ct l G yX7_pair 3 [qr G 122, .int (nI s), .int (nI g)] (hm G U i A B) (some (.int (nI (dr (A 5) s &&& dr (A 5) g)))) (hm G U i A B) := by
  refine ctm_intro (maxL := 3) kw_X7_pair (by decide) (by decide) [some (qr G 122), some (.int (nI s)), some (.int (nI g))] rfl (Nat.le_of_ble_eq_true rfl) ?_
  intro X _ hcl hsl _ _ C E
  have v0 := hV.1
  have v1 := hV.2.1
  have v2 := hV.2.2.1
  have v3 := hV.2.2.2.1
  have v5 := hV.k64
  have hB : ∀ k, A 5 k < 2000 := fun k => hV.lt (by omega) k
  refine y_aload_n C D_X7_pair_0 rfl ?_
  refine y_iload_n C D_X7_pair_1 rfl ?_
  refine z_callV C D_X7_pair_2 lk_X7_171 (c_X7_isSleeper hU (by omega)) (hm_o hU) rfl rfl (Nat.le_of_ble_eq_true rfl) (Nat.le_of_ble_eq_true rfl) ⟨Nat.zero_le _, Nat.zero_le _⟩ ?_
  refine z_ifeqB C D_X7_pair_5 (fun c_5 => absurd (isx_n (by omega) hs1) c_5) (fun c_5 => ?_)
  refine y_aload_n C D_X7_pair_8 rfl ?_
  refine y_iload_n C D_X7_pair_9 rfl ?_
  refine z_callV C D_X7_pair_10 lk_X7_171 (c_X7_isSleeper hU (by omega)) (hm_o hU) rfl rfl (Nat.le_of_ble_eq_true rfl) (Nat.le_of_ble_eq_true rfl) ⟨Nat.zero_le _, Nat.zero_le _⟩ ?_
  refine z_ifeqB C D_X7_pair_13 (fun c_13 => absurd (isx_n (by omega) hg1) c_13) (fun c_13 => ?_)
  refine y_iload_n C D_X7_pair_16 rfl ?_
  refine y_iload_n C D_X7_pair_17 rfl ?_
  refine y_icmp_eq C D_X7_pair_18 (n_eq (by omega) (by omega)) (fun c_18 => absurd c_18 hne) (fun c_18 => ?_)
  refine y_aload_n C D_X7_pair_21 rfl ?_
  refine y_iload_n C D_X7_pair_22 rfl ?_
  refine z_callV C D_X7_pair_23 lk_X7_152 (c_X7_dreams hU (by omega) v0.1 v0.2 hB v5) (hm_o hU) rfl rfl (Nat.le_of_ble_eq_true rfl) (Nat.le_of_ble_eq_true rfl) ⟨Nat.zero_le _, Nat.zero_le _⟩ ?_
  refine y_aload_n C D_X7_pair_26 rfl ?_
  refine y_iload_n C D_X7_pair_27 rfl ?_
  refine z_callV C D_X7_pair_28 lk_X7_152 (c_X7_dreams hU (by omega) v0.1 v0.2 hB v5) (hm_o hU) rfl rfl (Nat.le_of_ble_eq_true rfl) (Nat.le_of_ble_eq_true rfl) ⟨Nat.zero_le _, Nat.zero_le _⟩ ?_
  refine z_iand C D_X7_pair_31 ?_
  refine y_goto C D_X7_pair_32 ?_
  exact y_iret C E D_X7_pair_37 (rfl) (rfl)
theorem c_X7_graveS (hU : U.length = 122) {x w : Int32} (h4 : i 4 = 0) : Ct l G yX7_grave 3 [qr G 122, .int x, .int w] (hm G U i A B) (some (.int (-1000002))) (hm G U i A B) := by
  refine ctm_intro (maxL := 5) kw_X7_grave (by decide) (by decide) [some (qr G 122), some (.int x), some (.int w), none, none] rfl (Nat.le_of_ble_eq_true rfl) ?_
  intro X _ hcl hsl _ _ C E
  refine y_aload_n C D_X7_grave_0 rfl ?_
  refine y_get C D_X7_grave_1 fl_X7_135 (hm_o hU) rfl ?_
  refine y_if_ne C D_X7_grave_4 (n_eq0 (by omega)) (fun c_4 => absurd h4 c_4) (fun c_4 => ?_)
  refine y_ldc C D_X7_grave_7 lk_X7_162 ?_
  exact y_iret C E D_X7_grave_9 (rfl) (rfl)
theorem c_X7_graveB (hU : U.length = 122) (h0 : A 5 0 ≤ 6) {x w : Int32} (h4 : i 4 = 1) (hx : ¬ isx x (A 5 0) ∨ ¬ isx w 2) : Ct l G yX7_grave 3 [qr G 122, .int x, .int w] (hm G U i A B) (some (.int (-1000001))) (hm G U i A B) := by
  refine ctm_intro (maxL := 5) kw_X7_grave (by decide) (by decide) [some (qr G 122), some (.int x), some (.int w), none, none] rfl (Nat.le_of_ble_eq_true rfl) ?_
  intro X _ hcl hsl _ _ C E
  refine y_aload_n C D_X7_grave_0 rfl ?_
  refine y_get C D_X7_grave_1 fl_X7_135 (hm_o hU) rfl ?_
  refine y_if_ne C D_X7_grave_4 (n_eq0 (by omega)) (fun c_4 => ?_) (fun c_4 => absurd c_4 (by omega))
  refine y_aload_n C D_X7_grave_10 rfl ?_
  refine y_iload_n C D_X7_grave_11 rfl ?_
  refine z_callV C D_X7_grave_12 lk_X7_180 (c_X7_isGrave hU (by omega)) (hm_o hU) rfl rfl (Nat.le_of_ble_eq_true rfl) (Nat.le_of_ble_eq_true rfl) ⟨Nat.zero_le _, Nat.zero_le _⟩ ?_
  refine z_ifeqB C D_X7_grave_15 (fun c_15 => ?_) (fun c_15 => ?_)
  · refine y_ldc C D_X7_grave_28 lk_X7_67 ?_
    exact y_iret C E D_X7_grave_30 (rfl) (rfl)
  · refine y_iload_n C D_X7_grave_18 rfl ?_
    refine y_i2l C D_X7_grave_19 ?_
    refine y_lconst C D_X7_grave_20 rfl ?_
    refine y_lconst C D_X7_grave_21 rfl ?_
    refine z_callS C D_X7_grave_22 lk_X7_57 (c_X7_in) rfl rfl (Nat.le_of_ble_eq_true rfl) (Nat.le_of_ble_eq_true rfl) ⟨Nat.zero_le _, Nat.zero_le _⟩ ?_
    refine y_top (bI_c (in_isx (z := 1) (n := 2) (by decide) rfl)) ?_
    refine z_ifneB C D_X7_grave_25 (fun c_25 => hx.elim (fun z => absurd c_15 z) (fun z => absurd c_25 z)) (fun c_25 => ?_)
    refine y_ldc C D_X7_grave_28 lk_X7_67 ?_
    exact y_iret C E D_X7_grave_30 (rfl) (rfl)
theorem lp_X7_grave {X : qX} {g w : Nat} (hU : U.length = 122) (hV : Va (A 5)) (h4 : A 5 4 < 1999) (hg1 : g < A 5 0) (C : qC X G cX7_grave 5 RX7 3) (K : Y X G 5 0 0 77 [some (qr G 122), some (.int (nI (g))), some (.int (nI (w))), some (.int (nI (dwn (A 5) g (A 5 3)))), none] [] (hm G U i A B)) : ∀ (n q : Nat), q + n = A 5 3 → Y X G 5 0 0 36 [some (qr G 122), some (.int (nI (g))), some (.int (nI (w))), some (.int (nI (dwn (A 5) g q))), some (.int (nI (q)))] [] (hm G U i A B) := by
  have v0 := hV.1
  have v1 := hV.2.1
  have v2 := hV.2.2.1
  have v3 := hV.2.2.2.1
  have v5 := hV.k64
  have hB : ∀ k, A 5 k < 2000 := fun k => hV.lt (by omega) k
  intro n
  induction n with
  | zero =>
    intro q hq
    obtain rfl : q = A 5 3 := by omega
    refine y_iload C D_X7_grave_36 rfl ?_
    refine y_aload_n C D_X7_grave_38 rfl ?_
    refine y_get C D_X7_grave_39 fl_X7_19 (hm_o hU) rfl ?_
    refine y_iconst C D_X7_grave_42 ki_3 ?_
    refine z_ild C D_X7_grave_43 (hm_st hU) (by omega) (by decide) rfl ?_
    refine y_icmp_ge C D_X7_grave_44 (n_le (by omega) (by omega)) (fun c_44 => ?_) (fun c_44 => absurd (Nat.le_refl _) c_44)
    refine y_fg 4 ?_
    exact K
  | succ n ih =>
    intro q hq
    refine y_iload C D_X7_grave_36 rfl ?_
    refine y_aload_n C D_X7_grave_38 rfl ?_
    refine y_get C D_X7_grave_39 fl_X7_19 (hm_o hU) rfl ?_
    refine y_iconst C D_X7_grave_42 ki_3 ?_
    refine z_ild C D_X7_grave_43 (hm_st hU) (by omega) (by decide) rfl ?_
    refine y_icmp_ge C D_X7_grave_44 (n_le (by omega) (by omega)) (fun c_44 => absurd c_44 (by omega)) (fun c_44 => ?_)
    refine y_iload_n C D_X7_grave_47 rfl ?_
    refine y_aload_n C D_X7_grave_48 rfl ?_
    refine y_iload C D_X7_grave_49 rfl ?_
    refine z_callV C D_X7_grave_51 lk_X7_152 (c_X7_dreams hU (by omega) v0.1 v0.2 hB v5) (hm_o hU) rfl rfl (Nat.le_of_ble_eq_true rfl) (Nat.le_of_ble_eq_true rfl) ⟨Nat.zero_le _, Nat.zero_le _⟩ ?_
    refine y_iload_n C D_X7_grave_54 rfl ?_
    refine z_callS C D_X7_grave_55 lk_X7_142 (c_X7_has (Nat.lt_of_lt_of_le (dr_lt v0.1 v0.2) (by decide)) (by omega)) rfl rfl (Nat.le_of_ble_eq_true rfl) (Nat.le_of_ble_eq_true rfl) ⟨Nat.zero_le _, Nat.zero_le _⟩ ?_
    refine z_ifeqB C D_X7_grave_58 (fun c_58 => ?_) (fun c_58 => ?_)
    · refine y_iconst C D_X7_grave_68 ki_0 ?_
      refine z_ior C D_X7_grave_69 ?_
      refine y_istore_n C D_X7_grave_70 (by decide) (qok_s rfl rfl) ?_
      refine z_iinc (n := 1) C D_X7_grave_71 rfl (by decide) (qok_s rfl rfl) ?_
      refine y_goto C D_X7_grave_74 ?_
      have e : dwn (A 5) g (q + 1) = dwn (A 5) g q ||| 0 := by rw [dwn, if_neg c_58]
      have z := ih (q + 1) (by omega)
      rw [e] at z
      exact z
    · refine y_iconst C D_X7_grave_61 ki_1 ?_
      refine y_iload C D_X7_grave_62 rfl ?_
      refine z_ishl1 C D_X7_grave_64 (by omega) ?_
      refine y_goto C D_X7_grave_65 ?_
      refine z_ior C D_X7_grave_69 ?_
      refine y_istore_n C D_X7_grave_70 (by decide) (qok_s rfl rfl) ?_
      refine z_iinc (n := 1) C D_X7_grave_71 rfl (by decide) (qok_s rfl rfl) ?_
      refine y_goto C D_X7_grave_74 ?_
      have e : dwn (A 5) g (q + 1) = dwn (A 5) g q ||| 2 ^ q := by rw [dwn, if_pos c_58]
      have z := ih (q + 1) (by omega)
      rw [e] at z
      exact z
theorem c_X7_grave0 (hU : U.length = 122) {g : Nat} (hV : Va (A 5)) (h4 : A 5 4 < 1999) (ht : i 4 = 1) (hg1 : g < A 5 0) : Ct l G yX7_grave 3 [qr G 122, .int (nI g), .int (nI 0)] (hm G U i A B) (some (.int (nI (A 5 5 / 2 ^ g % 2)))) (hm G U i A B) := by
  refine ctm_intro (maxL := 5) kw_X7_grave (by decide) (by decide) [some (qr G 122), some (.int (nI g)), some (.int (nI 0)), none, none] rfl (Nat.le_of_ble_eq_true rfl) ?_
  intro X _ hcl hsl _ _ C E
  have v0 := hV.1
  have v1 := hV.2.1
  have v2 := hV.2.2.1
  have v3 := hV.2.2.2.1
  have v5 := hV.k64
  have hB : ∀ k, A 5 k < 2000 := fun k => hV.lt (by omega) k
  refine y_aload_n C D_X7_grave_0 rfl ?_
  refine y_get C D_X7_grave_1 fl_X7_135 (hm_o hU) rfl ?_
  refine y_if_ne C D_X7_grave_4 (n_eq0 (by omega)) (fun c_4 => ?_) (fun c_4 => absurd c_4 (by omega))
  refine y_aload_n C D_X7_grave_10 rfl ?_
  refine y_iload_n C D_X7_grave_11 rfl ?_
  refine z_callV C D_X7_grave_12 lk_X7_180 (c_X7_isGrave hU (by omega)) (hm_o hU) rfl rfl (Nat.le_of_ble_eq_true rfl) (Nat.le_of_ble_eq_true rfl) ⟨Nat.zero_le _, Nat.zero_le _⟩ ?_
  refine z_ifeqB C D_X7_grave_15 (fun c_15 => absurd (isx_n (by omega) hg1) c_15) (fun c_15 => ?_)
  refine y_iload_n C D_X7_grave_18 rfl ?_
  refine y_i2l C D_X7_grave_19 ?_
  refine y_lconst C D_X7_grave_20 rfl ?_
  refine y_lconst C D_X7_grave_21 rfl ?_
  refine z_callS C D_X7_grave_22 lk_X7_57 (c_X7_in) rfl rfl (Nat.le_of_ble_eq_true rfl) (Nat.le_of_ble_eq_true rfl) ⟨Nat.zero_le _, Nat.zero_le _⟩ ?_
  refine y_top (bI_c (in_isx (z := 1) (n := 2) (by decide) rfl)) ?_
  refine z_ifneB C D_X7_grave_25 (fun c_25 => ?_) (fun c_25 => absurd (isx_n (by decide) (by decide)) c_25)
  refine y_iconst C D_X7_grave_31 ki_0 ?_
  refine y_istore_n C D_X7_grave_32 (by decide) (qok_s rfl rfl) ?_
  refine y_iconst C D_X7_grave_33 ki_0 ?_
  refine y_istore C D_X7_grave_34 (by decide) (qok_s rfl rfl) ?_
  refine lp_X7_grave hU hV h4 hg1 C ?_ (A 5 3) 0 (by omega)
  refine y_iload_n C D_X7_grave_77 rfl ?_
  refine z_ifne0 C D_X7_grave_78 ?_
  refine y_aload_n C D_X7_grave_81 rfl ?_
  refine y_get C D_X7_grave_82 fl_X7_19 (hm_o hU) rfl ?_
  refine y_iconst C D_X7_grave_85 ki_5 ?_
  refine z_ild C D_X7_grave_86 (hm_st hU) (by omega) (by decide) rfl ?_
  refine y_iload_n C D_X7_grave_87 rfl ?_
  refine z_ishr C D_X7_grave_88 (by omega) (by omega) ?_
  refine y_iconst C D_X7_grave_89 ki_1 ?_
  refine z_iand C D_X7_grave_90 ?_
  refine y_goto C D_X7_grave_91 ?_
  exact y_iret C E D_X7_grave_95 (by rw [and1]) (rfl)
theorem c_X7_grave1 (hU : U.length = 122) {g : Nat} (hV : Va (A 5)) (h4 : A 5 4 < 1999) (ht : i 4 = 1) (hg1 : g < A 5 0) : Ct l G yX7_grave 3 [qr G 122, .int (nI g), .int (nI 1)] (hm G U i A B) (some (.int (nI (dwn (A 5) g (A 5 3))))) (hm G U i A B) := by
  refine ctm_intro (maxL := 5) kw_X7_grave (by decide) (by decide) [some (qr G 122), some (.int (nI g)), some (.int (nI 1)), none, none] rfl (Nat.le_of_ble_eq_true rfl) ?_
  intro X _ hcl hsl _ _ C E
  have v0 := hV.1
  have v1 := hV.2.1
  have v2 := hV.2.2.1
  have v3 := hV.2.2.2.1
  have v5 := hV.k64
  have hB : ∀ k, A 5 k < 2000 := fun k => hV.lt (by omega) k
  refine y_aload_n C D_X7_grave_0 rfl ?_
  refine y_get C D_X7_grave_1 fl_X7_135 (hm_o hU) rfl ?_
  refine y_if_ne C D_X7_grave_4 (n_eq0 (by omega)) (fun c_4 => ?_) (fun c_4 => absurd c_4 (by omega))
  refine y_aload_n C D_X7_grave_10 rfl ?_
  refine y_iload_n C D_X7_grave_11 rfl ?_
  refine z_callV C D_X7_grave_12 lk_X7_180 (c_X7_isGrave hU (by omega)) (hm_o hU) rfl rfl (Nat.le_of_ble_eq_true rfl) (Nat.le_of_ble_eq_true rfl) ⟨Nat.zero_le _, Nat.zero_le _⟩ ?_
  refine z_ifeqB C D_X7_grave_15 (fun c_15 => absurd (isx_n (by omega) hg1) c_15) (fun c_15 => ?_)
  refine y_iload_n C D_X7_grave_18 rfl ?_
  refine y_i2l C D_X7_grave_19 ?_
  refine y_lconst C D_X7_grave_20 rfl ?_
  refine y_lconst C D_X7_grave_21 rfl ?_
  refine z_callS C D_X7_grave_22 lk_X7_57 (c_X7_in) rfl rfl (Nat.le_of_ble_eq_true rfl) (Nat.le_of_ble_eq_true rfl) ⟨Nat.zero_le _, Nat.zero_le _⟩ ?_
  refine y_top (bI_c (in_isx (z := 1) (n := 2) (by decide) rfl)) ?_
  refine z_ifneB C D_X7_grave_25 (fun c_25 => ?_) (fun c_25 => absurd (isx_n (by decide) (by decide)) c_25)
  refine y_iconst C D_X7_grave_31 ki_0 ?_
  refine y_istore_n C D_X7_grave_32 (by decide) (qok_s rfl rfl) ?_
  refine y_iconst C D_X7_grave_33 ki_0 ?_
  refine y_istore C D_X7_grave_34 (by decide) (qok_s rfl rfl) ?_
  refine lp_X7_grave hU hV h4 hg1 C ?_ (A 5 3) 0 (by omega)
  refine y_iload_n C D_X7_grave_77 rfl ?_
  refine z_ifne1 C D_X7_grave_78 ?_
  refine y_iload_n C D_X7_grave_94 rfl ?_
  exact y_iret C E D_X7_grave_95 (rfl) (rfl)
theorem c_X7_mostB (hU : U.length = 122) (h3 : A 5 3 ≤ 5) {x w : Int32} (hx : ¬ isx x (A 5 3) ∨ ¬ isx w 2) : Ct l G yX7_most 2 [qr G 122, .int x, .int w] (hm G U i A B) (some (.int (-1000001))) (hm G U i A B) := by
  refine ctm_intro (maxL := 5) kw_X7_most (by decide) (by decide) [some (qr G 122), some (.int x), some (.int w), none, none] rfl (Nat.le_of_ble_eq_true rfl) ?_
  intro X _ hcl hsl _ _ C E
  refine y_aload_n C D_X7_most_0 rfl ?_
  refine y_iload_n C D_X7_most_1 rfl ?_
  refine z_callV C D_X7_most_2 lk_X7_171 (c_X7_isSleeper hU (by omega)) (hm_o hU) rfl rfl (Nat.le_of_ble_eq_true rfl) (Nat.le_of_ble_eq_true rfl) ⟨Nat.zero_le _, Nat.zero_le _⟩ ?_
  refine z_ifeqB C D_X7_most_5 (fun c_5 => ?_) (fun c_5 => ?_)
  · refine y_ldc C D_X7_most_18 lk_X7_67 ?_
    exact y_iret C E D_X7_most_20 (rfl) (rfl)
  · refine y_iload_n C D_X7_most_8 rfl ?_
    refine y_i2l C D_X7_most_9 ?_
    refine y_lconst C D_X7_most_10 rfl ?_
    refine y_lconst C D_X7_most_11 rfl ?_
    refine z_callS C D_X7_most_12 lk_X7_57 (c_X7_in) rfl rfl (Nat.le_of_ble_eq_true rfl) (Nat.le_of_ble_eq_true rfl) ⟨Nat.zero_le _, Nat.zero_le _⟩ ?_
    refine y_top (bI_c (in_isx (z := 1) (n := 2) (by decide) rfl)) ?_
    refine z_ifneB C D_X7_most_15 (fun c_15 => hx.elim (fun z => absurd c_5 z) (fun z => absurd c_15 z)) (fun c_15 => ?_)
    refine y_ldc C D_X7_most_18 lk_X7_67 ?_
    exact y_iret C E D_X7_most_20 (rfl) (rfl)
theorem lp_X7_most {X : qX} {s w : Nat} (hU : U.length = 122) (hV : Va (A 5)) (h4 : A 5 4 < 1999) (hs1 : s < A 5 3) (C : qC X G cX7_most 5 RX7 2) (K : Y X G 5 0 0 66 [some (qr G 122), some (.int (nI (s))), some (.int (nI (w))), some (.int (nI (mx (A 5) s (A 5 0 - 1)))), none] [] (hm G U i A B)) : ∀ (n g : Nat), g + n = A 5 0 - 1 → Y X G 5 0 0 26 [some (qr G 122), some (.int (nI (s))), some (.int (nI (w))), some (.int (nI (mx (A 5) s g))), some (.int (nI (g + 1)))] [] (hm G U i A B) := by
  have v0 := hV.1
  have v1 := hV.2.1
  have v2 := hV.2.2.1
  have v3 := hV.2.2.2.1
  have v5 := hV.k64
  have hB : ∀ k, A 5 k < 2000 := fun k => hV.lt (by omega) k
  intro n
  induction n with
  | zero =>
    intro g hg
    obtain rfl : g = A 5 0 - 1 := by omega
    refine y_iload C D_X7_most_26 rfl ?_
    refine y_aload_n C D_X7_most_28 rfl ?_
    refine y_get C D_X7_most_29 fl_X7_19 (hm_o hU) rfl ?_
    refine y_iconst C D_X7_most_32 ki_0 ?_
    refine z_ild C D_X7_most_33 (hm_st hU) (by omega) (by decide) rfl ?_
    refine y_icmp_ge C D_X7_most_34 (n_le (by omega) (by omega)) (fun c_34 => ?_) (fun c_34 => absurd c_34 (by omega))
    refine y_fg 4 ?_
    exact K
  | succ n ih =>
    intro g hg
    have hm1 := mx_le (y := A 5) (p := s) g
    have hb1 : me (A 5) s (g + 1) < 2000 := hB _
    have hb2 : me (A 5) s (mx (A 5) s g) < 2000 := hB _
    refine y_iload C D_X7_most_26 rfl ?_
    refine y_aload_n C D_X7_most_28 rfl ?_
    refine y_get C D_X7_most_29 fl_X7_19 (hm_o hU) rfl ?_
    refine y_iconst C D_X7_most_32 ki_0 ?_
    refine z_ild C D_X7_most_33 (hm_st hU) (by omega) (by decide) rfl ?_
    refine y_icmp_ge C D_X7_most_34 (n_le (by omega) (by omega)) (fun c_34 => absurd c_34 (by omega)) (fun c_34 => ?_)
    refine y_aload_n C D_X7_most_37 rfl ?_
    refine y_iload_n C D_X7_most_38 rfl ?_
    refine y_iload C D_X7_most_39 rfl ?_
    refine z_callV C D_X7_most_41 lk_X7_146 (c_X7_memoryOf hU (by omega) (by omega)) (hm_o hU) rfl rfl (Nat.le_of_ble_eq_true rfl) (Nat.le_of_ble_eq_true rfl) ⟨Nat.zero_le _, Nat.zero_le _⟩ ?_
    refine y_aload_n C D_X7_most_44 rfl ?_
    refine y_iload_n C D_X7_most_45 rfl ?_
    refine y_iload_n C D_X7_most_46 rfl ?_
    refine z_callV C D_X7_most_47 lk_X7_146 (c_X7_memoryOf hU (by omega) (by omega)) (hm_o hU) rfl rfl (Nat.le_of_ble_eq_true rfl) (Nat.le_of_ble_eq_true rfl) ⟨Nat.zero_le _, Nat.zero_le _⟩ ?_
    refine y_icmp_le C D_X7_most_50 (n_le (by omega) (by omega)) (fun c_50 => ?_) (fun c_50 => ?_)
    · refine y_iload_n C D_X7_most_58 rfl ?_
      refine y_istore_n C D_X7_most_59 (by decide) (qok_s rfl rfl) ?_
      refine z_iinc (n := 1) C D_X7_most_60 rfl (by decide) (qok_s rfl rfl) ?_
      refine y_goto C D_X7_most_63 ?_
      have e : mx (A 5) s (g + 1) = mx (A 5) s g := by rw [mx, if_neg (by omega)]
      have z := ih (g + 1) (by omega)
      rw [e] at z
      exact z
    · refine y_iload C D_X7_most_53 rfl ?_
      refine y_goto C D_X7_most_55 ?_
      refine y_istore_n C D_X7_most_59 (by decide) (qok_s rfl rfl) ?_
      refine z_iinc (n := 1) C D_X7_most_60 rfl (by decide) (qok_s rfl rfl) ?_
      refine y_goto C D_X7_most_63 ?_
      have e : mx (A 5) s (g + 1) = g + 1 := by rw [mx, if_pos (by omega)]
      have z := ih (g + 1) (by omega)
      rw [e] at z
      exact z
theorem c_X7_most0 (hU : U.length = 122) {s : Nat} (hV : Va (A 5)) (h4 : A 5 4 < 1999) (hs1 : s < A 5 3) : Ct l G yX7_most 2 [qr G 122, .int (nI s), .int (nI 0)] (hm G U i A B) (some (.int (nI (mx (A 5) s (A 5 0 - 1))))) (hm G U i A B) := by
  refine ctm_intro (maxL := 5) kw_X7_most (by decide) (by decide) [some (qr G 122), some (.int (nI s)), some (.int (nI 0)), none, none] rfl (Nat.le_of_ble_eq_true rfl) ?_
  intro X _ hcl hsl _ _ C E
  have v0 := hV.1
  have v1 := hV.2.1
  have v2 := hV.2.2.1
  have v3 := hV.2.2.2.1
  have v5 := hV.k64
  have hB : ∀ k, A 5 k < 2000 := fun k => hV.lt (by omega) k
  refine y_aload_n C D_X7_most_0 rfl ?_
  refine y_iload_n C D_X7_most_1 rfl ?_
  refine z_callV C D_X7_most_2 lk_X7_171 (c_X7_isSleeper hU (by omega)) (hm_o hU) rfl rfl (Nat.le_of_ble_eq_true rfl) (Nat.le_of_ble_eq_true rfl) ⟨Nat.zero_le _, Nat.zero_le _⟩ ?_
  refine z_ifeqB C D_X7_most_5 (fun c_5 => absurd (isx_n (by omega) hs1) c_5) (fun c_5 => ?_)
  refine y_iload_n C D_X7_most_8 rfl ?_
  refine y_i2l C D_X7_most_9 ?_
  refine y_lconst C D_X7_most_10 rfl ?_
  refine y_lconst C D_X7_most_11 rfl ?_
  refine z_callS C D_X7_most_12 lk_X7_57 (c_X7_in) rfl rfl (Nat.le_of_ble_eq_true rfl) (Nat.le_of_ble_eq_true rfl) ⟨Nat.zero_le _, Nat.zero_le _⟩ ?_
  refine y_top (bI_c (in_isx (z := 1) (n := 2) (by decide) rfl)) ?_
  refine z_ifneB C D_X7_most_15 (fun c_15 => ?_) (fun c_15 => absurd (isx_n (by decide) (by decide)) c_15)
  refine y_iconst C D_X7_most_21 ki_0 ?_
  refine y_istore_n C D_X7_most_22 (by decide) (qok_s rfl rfl) ?_
  refine y_iconst C D_X7_most_23 ki_1 ?_
  refine y_istore C D_X7_most_24 (by decide) (qok_s rfl rfl) ?_
  have hm1 := mx_le (y := A 5) (p := s) (A 5 0 - 1)
  refine lp_X7_most hU hV h4 hs1 C ?_ (A 5 0 - 1) 0 (by omega)
  refine y_iload_n C D_X7_most_66 rfl ?_
  refine z_ifne0 C D_X7_most_67 ?_
  refine y_iload_n C D_X7_most_70 rfl ?_
  refine y_goto C D_X7_most_71 ?_
  exact y_iret C E D_X7_most_80 (rfl) (rfl)
theorem c_X7_most1 (hU : U.length = 122) {s : Nat} (hV : Va (A 5)) (h4 : A 5 4 < 1999) (hs1 : s < A 5 3) : Ct l G yX7_most 2 [qr G 122, .int (nI s), .int (nI 1)] (hm G U i A B) (some (.int (nI (me (A 5) s (mx (A 5) s (A 5 0 - 1)))))) (hm G U i A B) := by
  refine ctm_intro (maxL := 5) kw_X7_most (by decide) (by decide) [some (qr G 122), some (.int (nI s)), some (.int (nI 1)), none, none] rfl (Nat.le_of_ble_eq_true rfl) ?_
  intro X _ hcl hsl _ _ C E
  have v0 := hV.1
  have v1 := hV.2.1
  have v2 := hV.2.2.1
  have v3 := hV.2.2.2.1
  have v5 := hV.k64
  have hB : ∀ k, A 5 k < 2000 := fun k => hV.lt (by omega) k
  refine y_aload_n C D_X7_most_0 rfl ?_
  refine y_iload_n C D_X7_most_1 rfl ?_
  refine z_callV C D_X7_most_2 lk_X7_171 (c_X7_isSleeper hU (by omega)) (hm_o hU) rfl rfl (Nat.le_of_ble_eq_true rfl) (Nat.le_of_ble_eq_true rfl) ⟨Nat.zero_le _, Nat.zero_le _⟩ ?_
  refine z_ifeqB C D_X7_most_5 (fun c_5 => absurd (isx_n (by omega) hs1) c_5) (fun c_5 => ?_)
  refine y_iload_n C D_X7_most_8 rfl ?_
  refine y_i2l C D_X7_most_9 ?_
  refine y_lconst C D_X7_most_10 rfl ?_
  refine y_lconst C D_X7_most_11 rfl ?_
  refine z_callS C D_X7_most_12 lk_X7_57 (c_X7_in) rfl rfl (Nat.le_of_ble_eq_true rfl) (Nat.le_of_ble_eq_true rfl) ⟨Nat.zero_le _, Nat.zero_le _⟩ ?_
  refine y_top (bI_c (in_isx (z := 1) (n := 2) (by decide) rfl)) ?_
  refine z_ifneB C D_X7_most_15 (fun c_15 => ?_) (fun c_15 => absurd (isx_n (by decide) (by decide)) c_15)
  refine y_iconst C D_X7_most_21 ki_0 ?_
  refine y_istore_n C D_X7_most_22 (by decide) (qok_s rfl rfl) ?_
  refine y_iconst C D_X7_most_23 ki_1 ?_
  refine y_istore C D_X7_most_24 (by decide) (qok_s rfl rfl) ?_
  have hm1 := mx_le (y := A 5) (p := s) (A 5 0 - 1)
  refine lp_X7_most hU hV h4 hs1 C ?_ (A 5 0 - 1) 0 (by omega)
  refine y_iload_n C D_X7_most_66 rfl ?_
  refine z_ifne1 C D_X7_most_67 ?_
  refine y_aload_n C D_X7_most_74 rfl ?_
  refine y_iload_n C D_X7_most_75 rfl ?_
  refine y_iload_n C D_X7_most_76 rfl ?_
  refine z_callV C D_X7_most_77 lk_X7_146 (c_X7_memoryOf hU (by omega) (by omega)) (hm_o hU) rfl rfl (Nat.le_of_ble_eq_true rfl) (Nat.le_of_ble_eq_true rfl) ⟨Nat.zero_le _, Nat.zero_le _⟩ ?_
  exact y_iret C E D_X7_most_80 (rfl) (rfl)
theorem c_X7_forgetsB (hU : U.length = 122) (h3 : A 5 3 ≤ 5) (h0 : A 5 0 ≤ 6) {x w : Int32} (hx : ¬ isx x (A 5 3) ∨ ¬ isx w (A 5 0)) : Ct l G yX7_forgets 2 [qr G 122, .int x, .int w] (hm G U i A B) (some (.int (-1000001))) (hm G U i A B) := by
  refine ctm_intro (maxL := 5) kw_X7_forgets (by decide) (by decide) [some (qr G 122), some (.int x), some (.int w), none, none] rfl (Nat.le_of_ble_eq_true rfl) ?_
  intro X _ hcl hsl _ _ C E
  refine y_aload_n C D_X7_forgets_0 rfl ?_
  refine y_iload_n C D_X7_forgets_1 rfl ?_
  refine z_callV C D_X7_forgets_2 lk_X7_171 (c_X7_isSleeper hU (by omega)) (hm_o hU) rfl rfl (Nat.le_of_ble_eq_true rfl) (Nat.le_of_ble_eq_true rfl) ⟨Nat.zero_le _, Nat.zero_le _⟩ ?_
  refine z_ifeqB C D_X7_forgets_5 (fun c_5 => ?_) (fun c_5 => ?_)
  · refine y_ldc C D_X7_forgets_16 lk_X7_67 ?_
    exact y_iret C E D_X7_forgets_18 (rfl) (rfl)
  · refine y_aload_n C D_X7_forgets_8 rfl ?_
    refine y_iload_n C D_X7_forgets_9 rfl ?_
    refine z_callV C D_X7_forgets_10 lk_X7_180 (c_X7_isGrave hU (by omega)) (hm_o hU) rfl rfl (Nat.le_of_ble_eq_true rfl) (Nat.le_of_ble_eq_true rfl) ⟨Nat.zero_le _, Nat.zero_le _⟩ ?_
    refine z_ifneB C D_X7_forgets_13 (fun c_13 => hx.elim (fun z => absurd c_5 z) (fun z => absurd c_13 z)) (fun c_13 => ?_)
    refine y_ldc C D_X7_forgets_16 lk_X7_67 ?_
    exact y_iret C E D_X7_forgets_18 (rfl) (rfl)
theorem lp_X7_forgets {X : qX} {r : Option Value} {s g m : Nat} (hU : U.length = 122) (hV : Va (A 5)) (h4 : A 5 4 < 1999) (hm27 : m ≤ 27) (C : qC X G cX7_forgets 5 RX7 2) (E : qE X G (some .int) 0 0 r (hm G U i A B)) : ∀ (n k : Nat), k + n = 40 → r = some (.int (fgt (A 5) m n k)) → Y X G 5 0 0 29 [some (qr G 122), some (.int (nI (s))), some (.int (nI (g))), some (.int (nI (lsn (A 5) m k))), some (.int (nI (k)))] [] (hm G U i A B) := by
  have v0 := hV.1
  have v1 := hV.2.1
  have v2 := hV.2.2.1
  have v3 := hV.2.2.2.1
  have v5 := hV.k64
  have hB : ∀ k, A 5 k < 2000 := fun k => hV.lt (by omega) k
  intro n
  induction n with
  | zero =>
    intro k hk hr
    have hl := lsn_le (A 5) m k
    obtain rfl : k = 40 := by omega
    unfold fgt at hr
    refine y_iload_n C D_X7_forgets_29 rfl ?_
    refine y_aload_n C D_X7_forgets_30 rfl ?_
    refine y_get C D_X7_forgets_31 fl_X7_19 (hm_o hU) rfl ?_
    refine y_iconst C D_X7_forgets_34 ki_1 ?_
    refine z_ild C D_X7_forgets_35 (hm_st hU) (by omega) (by decide) rfl ?_
    refine y_icmp_lt C D_X7_forgets_36 (n_lt (by omega) (by omega)) (fun c_36 => ?_) (fun c_36 => ?_)
    · refine y_iload_n C D_X7_forgets_58 rfl ?_
      refine y_aload_n C D_X7_forgets_59 rfl ?_
      refine y_get C D_X7_forgets_60 fl_X7_19 (hm_o hU) rfl ?_
      refine y_iconst C D_X7_forgets_63 ki_1 ?_
      refine z_ild C D_X7_forgets_64 (hm_st hU) (by omega) (by decide) rfl ?_
      refine y_icmp_ge C D_X7_forgets_65 (n_le (by omega) (by omega)) (fun c_65 => ?_) (fun c_65 => ?_)
      · refine y_ldc C D_X7_forgets_73 lk_X7_197 ?_
        exact y_iret C E D_X7_forgets_75 (absurd c_65 (by omega)) (rfl)
      · refine y_iload C D_X7_forgets_68 rfl ?_
        refine y_goto C D_X7_forgets_70 ?_
        exact y_iret C E D_X7_forgets_75 (by rw [hr, if_pos c_36]) (rfl)
    · refine y_iload C D_X7_forgets_39 rfl ?_
      refine y_bipush C D_X7_forgets_41 kb_40 ?_
      refine y_icmp_ge C D_X7_forgets_43 (n_le (by omega) (by omega)) (fun c_43 => ?_) (fun c_43 => absurd c_43 (by omega))
      refine y_iload_n C D_X7_forgets_58 rfl ?_
      refine y_aload_n C D_X7_forgets_59 rfl ?_
      refine y_get C D_X7_forgets_60 fl_X7_19 (hm_o hU) rfl ?_
      refine y_iconst C D_X7_forgets_63 ki_1 ?_
      refine z_ild C D_X7_forgets_64 (hm_st hU) (by omega) (by decide) rfl ?_
      refine y_icmp_ge C D_X7_forgets_65 (n_le (by omega) (by omega)) (fun c_65 => ?_) (fun c_65 => ?_)
      · refine y_ldc C D_X7_forgets_73 lk_X7_197 ?_
        exact y_iret C E D_X7_forgets_75 (by rw [hr, if_neg c_36]) (rfl)
      · refine y_iload C D_X7_forgets_68 rfl ?_
        refine y_goto C D_X7_forgets_70 ?_
        exact y_iret C E D_X7_forgets_75 (absurd c_36 (by omega)) (rfl)
  | succ n ih =>
    intro k hk hr
    have hl := lsn_le (A 5) m k
    unfold fgt at hr
    refine y_iload_n C D_X7_forgets_29 rfl ?_
    refine y_aload_n C D_X7_forgets_30 rfl ?_
    refine y_get C D_X7_forgets_31 fl_X7_19 (hm_o hU) rfl ?_
    refine y_iconst C D_X7_forgets_34 ki_1 ?_
    refine z_ild C D_X7_forgets_35 (hm_st hU) (by omega) (by decide) rfl ?_
    refine y_icmp_lt C D_X7_forgets_36 (n_lt (by omega) (by omega)) (fun c_36 => ?_) (fun c_36 => ?_)
    · refine y_iload_n C D_X7_forgets_58 rfl ?_
      refine y_aload_n C D_X7_forgets_59 rfl ?_
      refine y_get C D_X7_forgets_60 fl_X7_19 (hm_o hU) rfl ?_
      refine y_iconst C D_X7_forgets_63 ki_1 ?_
      refine z_ild C D_X7_forgets_64 (hm_st hU) (by omega) (by decide) rfl ?_
      refine y_icmp_ge C D_X7_forgets_65 (n_le (by omega) (by omega)) (fun c_65 => ?_) (fun c_65 => ?_)
      · refine y_ldc C D_X7_forgets_73 lk_X7_197 ?_
        exact y_iret C E D_X7_forgets_75 (absurd c_65 (by omega)) (rfl)
      · refine y_iload C D_X7_forgets_68 rfl ?_
        refine y_goto C D_X7_forgets_70 ?_
        exact y_iret C E D_X7_forgets_75 (by rw [hr, if_pos c_36]) (rfl)
    · refine y_iload C D_X7_forgets_39 rfl ?_
      refine y_bipush C D_X7_forgets_41 kb_40 ?_
      refine y_icmp_ge C D_X7_forgets_43 (n_le (by omega) (by omega)) (fun c_43 => absurd c_43 (by omega)) (fun c_43 => ?_)
      refine y_aload_n C D_X7_forgets_46 rfl ?_
      refine y_iload_n C D_X7_forgets_47 rfl ?_
      refine z_callV C D_X7_forgets_48 lk_X7_159 (c_X7_lessOf hU (by omega) (by omega) (by omega)) (hm_o hU) rfl rfl (Nat.le_of_ble_eq_true rfl) (Nat.le_of_ble_eq_true rfl) ⟨Nat.zero_le _, Nat.zero_le _⟩ ?_
      refine y_istore_n C D_X7_forgets_51 (by decide) (qok_s rfl rfl) ?_
      refine z_iinc (n := 1) C D_X7_forgets_52 rfl (by decide) (qok_s rfl rfl) ?_
      refine y_goto C D_X7_forgets_55 ?_
      exact ih (k + 1) (by omega) (by rw [hr, if_neg c_36])
theorem c_X7_forgets (hU : U.length = 122) {s g : Nat} (hV : Va (A 5)) (h4 : A 5 4 < 1999) (hs1 : s < A 5 3) (hg1 : g < A 5 0) : Ct l G yX7_forgets 2 [qr G 122, .int (nI s), .int (nI g)] (hm G U i A B) (some (.int (fgt (A 5) (me (A 5) s g) 40 0))) (hm G U i A B) := by
  refine ctm_intro (maxL := 5) kw_X7_forgets (by decide) (by decide) [some (qr G 122), some (.int (nI s)), some (.int (nI g)), none, none] rfl (Nat.le_of_ble_eq_true rfl) ?_
  intro X _ hcl hsl _ _ C E
  have v0 := hV.1
  have v1 := hV.2.1
  have v2 := hV.2.2.1
  have v3 := hV.2.2.2.1
  have v5 := hV.k64
  have hB : ∀ k, A 5 k < 2000 := fun k => hV.lt (by omega) k
  refine y_aload_n C D_X7_forgets_0 rfl ?_
  refine y_iload_n C D_X7_forgets_1 rfl ?_
  refine z_callV C D_X7_forgets_2 lk_X7_171 (c_X7_isSleeper hU (by omega)) (hm_o hU) rfl rfl (Nat.le_of_ble_eq_true rfl) (Nat.le_of_ble_eq_true rfl) ⟨Nat.zero_le _, Nat.zero_le _⟩ ?_
  refine z_ifeqB C D_X7_forgets_5 (fun c_5 => absurd (isx_n (by omega) hs1) c_5) (fun c_5 => ?_)
  refine y_aload_n C D_X7_forgets_8 rfl ?_
  refine y_iload_n C D_X7_forgets_9 rfl ?_
  refine z_callV C D_X7_forgets_10 lk_X7_180 (c_X7_isGrave hU (by omega)) (hm_o hU) rfl rfl (Nat.le_of_ble_eq_true rfl) (Nat.le_of_ble_eq_true rfl) ⟨Nat.zero_le _, Nat.zero_le _⟩ ?_
  refine z_ifneB C D_X7_forgets_13 (fun c_13 => ?_) (fun c_13 => absurd (isx_n (by omega) hg1) c_13)
  refine y_aload_n C D_X7_forgets_19 rfl ?_
  refine y_iload_n C D_X7_forgets_20 rfl ?_
  refine y_iload_n C D_X7_forgets_21 rfl ?_
  refine z_callV C D_X7_forgets_22 lk_X7_146 (c_X7_memoryOf hU (by omega) (by omega)) (hm_o hU) rfl rfl (Nat.le_of_ble_eq_true rfl) (Nat.le_of_ble_eq_true rfl) ⟨Nat.zero_le _, Nat.zero_le _⟩ ?_
  refine y_istore_n C D_X7_forgets_25 (by decide) (qok_s rfl rfl) ?_
  refine y_iconst C D_X7_forgets_26 ki_0 ?_
  refine y_istore C D_X7_forgets_27 (by decide) (qok_s rfl rfl) ?_
  exact lp_X7_forgets hU hV h4 (hV.mem (by omega) (by omega)) C E 40 0 rfl rfl
theorem c_X7_yearsS (hU : U.length = 122) {x : Int32} (h4 : i 4 = 0) : Ct l G yX7_years 5 [qr G 122, .int x] (hm G U i A B) (some (.int (-1000002))) (hm G U i A B) := by
  refine ctm_intro (maxL := 3) kw_X7_years (by decide) (by decide) [some (qr G 122), some (.int x), none] rfl (Nat.le_of_ble_eq_true rfl) ?_
  intro X _ hcl hsl _ _ C E
  refine y_aload_n C D_X7_years_0 rfl ?_
  refine y_get C D_X7_years_1 fl_X7_135 (hm_o hU) rfl ?_
  refine y_if_ne C D_X7_years_4 (n_eq0 (by omega)) (fun c_4 => absurd h4 c_4) (fun c_4 => ?_)
  refine y_ldc C D_X7_years_7 lk_X7_162 ?_
  exact y_iret C E D_X7_years_9 (rfl) (rfl)
theorem c_X7_yearsB (hU : U.length = 122) {x : Int32} (h4 : i 4 = 1) (hx : ¬ inr x 1 24) : Ct l G yX7_years 5 [qr G 122, .int x] (hm G U i A B) (some (.int (-1000001))) (hm G U i A B) := by
  refine ctm_intro (maxL := 3) kw_X7_years (by decide) (by decide) [some (qr G 122), some (.int x), none] rfl (Nat.le_of_ble_eq_true rfl) ?_
  intro X _ hcl hsl _ _ C E
  refine y_aload_n C D_X7_years_0 rfl ?_
  refine y_get C D_X7_years_1 fl_X7_135 (hm_o hU) rfl ?_
  refine y_if_ne C D_X7_years_4 (n_eq0 (by omega)) (fun c_4 => ?_) (fun c_4 => absurd c_4 (by omega))
  refine y_iload_n C D_X7_years_10 rfl ?_
  refine y_i2l C D_X7_years_11 ?_
  refine y_lconst C D_X7_years_12 rfl ?_
  refine y_ldc2 C D_X7_years_13 lk_X7_163 ?_
  refine z_callS C D_X7_years_16 lk_X7_57 (c_X7_in) rfl rfl (Nat.le_of_ble_eq_true rfl) (Nat.le_of_ble_eq_true rfl) ⟨Nat.zero_le _, Nat.zero_le _⟩ ?_
  refine y_top (bI_c (in_inr (y := 1) (z := 24) (a := 1) (b := 24) rfl rfl)) ?_
  refine z_ifneB C D_X7_years_19 (fun c_19 => absurd c_19 hx) (fun c_19 => ?_)
  refine y_ldc C D_X7_years_22 lk_X7_67 ?_
  exact y_iret C E D_X7_years_24 (rfl) (rfl)
theorem c_X7_yearsF (hU : U.length = 122) {n : Nat} (ht : i 4 = 1) (h1 : 1 ≤ n) (h24 : n ≤ 24) (hb : A 5 4 < 2000) (hf : 999 < A 5 4 + n) : Ct l G yX7_years 5 [qr G 122, .int (nI n)] (hm G U i A B) (some (.int (-1000003))) (hm G U i A B) := by
  refine ctm_intro (maxL := 3) kw_X7_years (by decide) (by decide) [some (qr G 122), some (.int (nI n)), none] rfl (Nat.le_of_ble_eq_true rfl) ?_
  intro X _ hcl hsl _ _ C E
  refine y_aload_n C D_X7_years_0 rfl ?_
  refine y_get C D_X7_years_1 fl_X7_135 (hm_o hU) rfl ?_
  refine y_if_ne C D_X7_years_4 (n_eq0 (by omega)) (fun c_4 => ?_) (fun c_4 => absurd c_4 (by omega))
  refine y_iload_n C D_X7_years_10 rfl ?_
  refine y_i2l C D_X7_years_11 ?_
  refine y_lconst C D_X7_years_12 rfl ?_
  refine y_ldc2 C D_X7_years_13 lk_X7_163 ?_
  refine z_callS C D_X7_years_16 lk_X7_57 (c_X7_in) rfl rfl (Nat.le_of_ble_eq_true rfl) (Nat.le_of_ble_eq_true rfl) ⟨Nat.zero_le _, Nat.zero_le _⟩ ?_
  refine y_top (bI_c (in_inr (y := 1) (z := 24) (a := 1) (b := 24) rfl rfl)) ?_
  refine z_ifneB C D_X7_years_19 (fun c_19 => ?_) (fun c_19 => absurd (inr_n (by decide) h1 h24) c_19)
  refine y_aload_n C D_X7_years_25 rfl ?_
  refine y_get C D_X7_years_26 fl_X7_19 (hm_o hU) rfl ?_
  refine y_iconst C D_X7_years_29 ki_4 ?_
  refine z_ild C D_X7_years_30 (hm_st hU) (by omega) (by decide) rfl ?_
  refine y_iload_n C D_X7_years_31 rfl ?_
  refine z_iadd C D_X7_years_32 ?_
  refine y_sipush C D_X7_years_33 kn_999 ?_
  refine y_icmp_le C D_X7_years_36 (n_le (by omega) (by omega)) (fun c_36 => absurd c_36 (by omega)) (fun c_36 => ?_)
  refine y_ldc C D_X7_years_39 lk_X7_84 ?_
  exact y_iret C E D_X7_years_41 (rfl) (rfl)
theorem lp_X7_years {X : qX} {n : Nat} (hU : U.length = 122) (hn : n ≤ 24) (C : qC X G cX7_years 3 RX7 5) : ∀ (m k : Nat) (i : Nat → Nat) (A : Nat → Nat → Nat), k + m = n → Va (A 5) → A 5 4 + m ≤ 999 → i 17 ≤ 24 → Y X G 3 0 0 63 [some (qr G 122), some (.int (nI (n))), none] [] (hm G U (yI i m) (yA i A m) B) → Y X G 3 0 0 44 [some (qr G 122), some (.int (nI (n))), some (.int (nI (k)))] [] (hm G U i A B) := by
  intro m
  induction m with
  | zero =>
    intro k i A hk hV h4 hi K
    obtain rfl : k = n := by omega
    refine y_iload_n C D_X7_years_44 rfl ?_
    refine y_iload_n C D_X7_years_45 rfl ?_
    refine y_icmp_ge C D_X7_years_46 (n_le (by omega) (by omega)) (fun c_46 => ?_) (fun c_46 => absurd (Nat.le_refl _) c_46)
    refine y_fg 2 ?_
    exact K
  | succ m ih =>
    intro k i A hk hV h4 hi K
    have e5 : va_up A 16 (ntA i A) 5 = A 5 := up_ne _ _ (by decide)
    refine y_iload_n C D_X7_years_44 rfl ?_
    refine y_iload_n C D_X7_years_45 rfl ?_
    refine y_icmp_ge C D_X7_years_46 (n_le (by omega) (by omega)) (fun c_46 => absurd c_46 (by omega)) (fun c_46 => ?_)
    refine y_aload_n C D_X7_years_49 rfl ?_
    refine z_callVv C D_X7_years_50 lk_X7_165 (c_X7_nt hU hi) (hm_o hU) rfl rfl (Nat.le_of_ble_eq_true rfl) (Nat.le_of_ble_eq_true rfl) ⟨Nat.zero_le _, Nat.zero_le _⟩ ?_
    refine y_aload_n C D_X7_years_53 rfl ?_
    refine z_callVv C D_X7_years_54 lk_X7_168 (c_X7_oneYear hU (by rw [e5]; exact hV) (by rw [e5]; omega)) (hm_o hU) rfl rfl (Nat.le_of_ble_eq_true rfl) (Nat.le_of_ble_eq_true rfl) ⟨Nat.zero_le _, Nat.zero_le _⟩ ?_
    rw [e5]
    refine z_iinc (n := 1) C D_X7_years_57 rfl (by decide) (qok_s rfl rfl) ?_
    refine y_goto C D_X7_years_60 ?_
    exact ih (k + 1) (ntI i) _ (by omega) (by rw [up_eq]; exact hV.yr) (by rw [up_eq, yr_4]; omega) (ntI_le i) K
theorem c_X7_years (hU : U.length = 122) {n : Nat} (ht : i 4 = 1) (h1 : 1 ≤ n) (h24 : n ≤ 24) (hV : Va (A 5)) (hf : A 5 4 + n ≤ 999) (hi : i 17 ≤ 24) : Ct l G yX7_years 5 [qr G 122, .int (nI n)] (hm G U i A B) (some (.int (nI (yA i A n 5 5)))) (hm G U (yI i n) (yA i A n) B) := by
  refine ctm_intro (maxL := 3) kw_X7_years (by decide) (by decide) [some (qr G 122), some (.int (nI n)), none] rfl (Nat.le_of_ble_eq_true rfl) ?_
  intro X _ hcl hsl _ _ C E
  refine y_aload_n C D_X7_years_0 rfl ?_
  refine y_get C D_X7_years_1 fl_X7_135 (hm_o hU) rfl ?_
  refine y_if_ne C D_X7_years_4 (n_eq0 (by omega)) (fun c_4 => ?_) (fun c_4 => absurd c_4 (by omega))
  refine y_iload_n C D_X7_years_10 rfl ?_
  refine y_i2l C D_X7_years_11 ?_
  refine y_lconst C D_X7_years_12 rfl ?_
  refine y_ldc2 C D_X7_years_13 lk_X7_163 ?_
  refine z_callS C D_X7_years_16 lk_X7_57 (c_X7_in) rfl rfl (Nat.le_of_ble_eq_true rfl) (Nat.le_of_ble_eq_true rfl) ⟨Nat.zero_le _, Nat.zero_le _⟩ ?_
  refine y_top (bI_c (in_inr (y := 1) (z := 24) (a := 1) (b := 24) rfl rfl)) ?_
  refine z_ifneB C D_X7_years_19 (fun c_19 => ?_) (fun c_19 => absurd (inr_n (by decide) h1 h24) c_19)
  refine y_aload_n C D_X7_years_25 rfl ?_
  refine y_get C D_X7_years_26 fl_X7_19 (hm_o hU) rfl ?_
  refine y_iconst C D_X7_years_29 ki_4 ?_
  refine z_ild C D_X7_years_30 (hm_st hU) (by omega) (by decide) rfl ?_
  refine y_iload_n C D_X7_years_31 rfl ?_
  refine z_iadd C D_X7_years_32 ?_
  refine y_sipush C D_X7_years_33 kn_999 ?_
  refine y_icmp_le C D_X7_years_36 (n_le (by omega) (by omega)) (fun c_36 => ?_) (fun c_36 => absurd c_36 (by omega))
  refine y_iconst C D_X7_years_42 ki_0 ?_
  refine y_istore_n C D_X7_years_43 (by decide) (qok_s rfl rfl) ?_
  refine lp_X7_years hU h24 C n 0 i A (by omega) hV hf hi ?_
  refine y_aload_n C D_X7_years_63 rfl ?_
  refine y_get C D_X7_years_64 fl_X7_19 (hm_o hU) rfl ?_
  refine y_iconst C D_X7_years_67 ki_5 ?_
  refine z_ild C D_X7_years_68 (hm_st hU) (by omega) (by decide) rfl ?_
  exact y_iret C E D_X7_years_69 (rfl) (rfl)
end
