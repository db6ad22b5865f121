theorem whole_start {p : Program} {e : Env} {s : State} {m : MethodId} {below : List Frame} {meth : Method} {c : Code} (l : Launch) {b L : Nat} {xs : Nat → Int32} (hL : L ≤ 384) (C0 : lw_At p s m meth c b L xs) : W p l e room_1 s m #[Value.ref b] below meth c s.heap [] 0 0 (lw_Z below #[Value.ref b] s) (entryFrame m ([Value.ref b] : List Value).toArray 4) := by
  obtain ⟨G, hG4, hF⟩ := qF_of C0
  obtain ⟨q1, q2, q3, q4, q5, q6, q7, q8, q9, q10⟩ := id C0
  have hl := lv_entry [Value.ref b] (n := 4) (Nat.le_of_ble_eq_true rfl)
  rw [lg_entry_eq]
  obtain ⟨X, hX⟩ : ∃ X : qX, X = (p, l, e, room_1, s, m, #[Value.ref b], below, meth, c, lw_Z below #[Value.ref b] s) := ⟨_, rfl⟩
  have C : qC X G cL_law 4 RL 100 := by
    rw [hX]
    exact ⟨q1, q2, q4, q5, fun w hw => q6 w (List.mem_filter.mp hw).1, Nat.le_of_ble_eq_true rfl, Nat.le_of_ble_eq_true rfl, hF, Nat.le_of_eq hG4, q9⟩
  have hs : X.2.2.2.2.1 = s := by rw [hX]
  have hr : X.2.2.2.1 = room_1 := by rw [hX]
  have hc1 : X.2.2.2.1.cells = 600000 := by rw [hr]; rfl
  have hs1 : X.2.2.2.1.slots = 7302250 := by rw [hr]; rfl
  have hz : X.2.2.2.2.1.heap.size = G.2 4 := by rw [hs, hG4]
  have hbA : ¬ qA G b := by
    show ¬ G.2 4 ≤ b
    rw [hG4]
    omega
  have K : ∀ (n : Nat) (h : List va_E), Y X G 4 136 3965 1304 [some (.ref b), some (qr G 0), some (qr G 122), some (.int (nI n))] [] h := by
    intro n h
    refine y_iconst C D_L_law_1304 ki_1 ?_
    intro H locs ls eH bS cL
    rw [hX] at bS ⊢
    refine va_forget (fun q hq => ?_) (W.widen (k := 600000) (n := 7302250) (Nat.le_of_ble_eq_true rfl) (Nat.le_of_ble_eq_true rfl) (lw_ret q1 q2 q3 q9 D_L_law_1305.1))
    have := bS.2.2 q hq
    rw [← hG4]
    exact this
  have main : Y X G 4 0 0 0 [some (.ref b), none, none, none] [] [] := by
    refine y_new (a := 0) C D_L_law_0 nw_L_7 (by rw [hz]; rfl) (Or.inr rfl) rfl ⟨by rw [hc1]; omega, by rw [hs1]; omega⟩ ?_
    refine y_hp (show _ = [.inr (6, bl6)] from rfl) ?_
    refine y_dup C D_L_law_3 rfl ?_
    refine y_callI C D_L_law_4 lk_L_9 c_X6_init rfl rfl (Nat.le_of_ble_eq_true rfl) (Nat.le_of_ble_eq_true rfl) ⟨by rw [hc1]; omega, by rw [hs1]; omega⟩ (by rw [hz]; rfl) (by simp) ?_
    refine y_astore_n C D_L_law_7 (by decide) (qok_s rfl rfl) ?_
    refine y_new (a := 122) C D_L_law_8 nw_L_10 (by rw [hz, U0_len]) (Or.inl (fun z => by
      have := congrArg List.length z
      rw [U0_len] at this
      cases this)) U0_len ⟨by rw [hc1]; omega, by rw [hs1]; omega⟩ ?_
    refine y_dup C D_L_law_11 rfl ?_
    refine y_callI C D_L_law_12 lk_L_12 (c_X7_init U0_len) rfl rfl (Nat.le_of_ble_eq_true rfl) (Nat.le_of_ble_eq_true rfl) ⟨by rw [hc1]; omega, by rw [hs1]; omega⟩ (by rw [hz, List.length_append, U0_len]; rfl) (by simp) ?_
    refine y_astore_n C D_L_law_15 (by decide) (qok_s rfl rfl) ?_
    refine y_iconst C D_L_law_16 ki_0 ?_
    refine y_istore_n C D_L_law_17 (by decide) (qok_s rfl rfl) ?_
    exact law_loop hL (by rw [hs]; exact q7) (by rw [hs]; exact q8) hbA C ⟨by rw [hc1]; omega, by rw [hs1]; omega⟩ K 65 0 (by omega) (by omega) (h00 G) i00 A00 (B00 8) Inv_00
  have z := main s.heap [] _ (fun k q hq => by simp [qw] at hq) (by rw [hs]; exact va_S.rf) (show qh _ 4 _ from hl)
  rw [hX] at z
  exact z
