section
variable {l : Launch} {G : qG} {h : List va_E} {b : Nat}
theorem lk_J6_265 : Cond.constant RJ6 265 1431655765 ∈ lwg := (lwg_of (tb2 (List.mem_of_getElem? (i := 211) rfl)) rfl)
theorem lk_J6_266 : Cond.constant RJ6 266 858993459 ∈ lwg := (lwg_of (tb2 (List.mem_of_getElem? (i := 212) rfl)) rfl)
theorem lk_J6_267 : Cond.constant RJ6 267 252645135 ∈ lwg := (lwg_of (tb2 (List.mem_of_getElem? (i := 213) rfl)) rfl)
theorem c_J6_bitCount (hb : b < 32) : Ct l G yJ6_bitCount_0f7a4 0 [.int (nI b)] (h) (some (.int (nI (ones b)))) (h) := by
  refine ctm_intro (maxL := 1) kw_J6_bitCount_0f7a4 (by decide) (by decide) [some (.int (nI b))] rfl (Nat.le_of_ble_eq_true rfl) ?_
  intro X _ hcl hsl _ _ C E
  refine y_iload_n C D_J6_bitCount_0f7a4_0 rfl ?_
  refine y_iload_n C D_J6_bitCount_0f7a4_1 rfl ?_
  refine y_iconst C D_J6_bitCount_0f7a4_2 ki_1 ?_
  refine y_iushr C D_J6_bitCount_0f7a4_3 ?_
  refine y_ldcw C D_J6_bitCount_0f7a4_4 lk_J6_265 ?_
  refine y_iand C D_J6_bitCount_0f7a4_7 ?_
  refine y_isub C D_J6_bitCount_0f7a4_8 ?_
  refine y_istore_n C D_J6_bitCount_0f7a4_9 (by decide) qok_0 ?_
  refine y_iload_n C D_J6_bitCount_0f7a4_10 rfl ?_
  refine y_ldcw C D_J6_bitCount_0f7a4_11 lk_J6_266 ?_
  refine y_iand C D_J6_bitCount_0f7a4_14 ?_
  refine y_iload_n C D_J6_bitCount_0f7a4_15 rfl ?_
  refine y_iconst C D_J6_bitCount_0f7a4_16 ki_2 ?_
  refine y_iushr C D_J6_bitCount_0f7a4_17 ?_
  refine y_ldcw C D_J6_bitCount_0f7a4_18 lk_J6_266 ?_
  refine y_iand C D_J6_bitCount_0f7a4_21 ?_
  refine y_iadd C D_J6_bitCount_0f7a4_22 ?_
  refine y_istore_n C D_J6_bitCount_0f7a4_23 (by decide) qok_0 ?_
  refine y_iload_n C D_J6_bitCount_0f7a4_24 rfl ?_
  refine y_iload_n C D_J6_bitCount_0f7a4_25 rfl ?_
  refine y_iconst C D_J6_bitCount_0f7a4_26 ki_4 ?_
  refine y_iushr C D_J6_bitCount_0f7a4_27 ?_
  refine y_iadd C D_J6_bitCount_0f7a4_28 ?_
  refine y_ldcw C D_J6_bitCount_0f7a4_29 lk_J6_267 ?_
  refine y_iand C D_J6_bitCount_0f7a4_32 ?_
  refine y_istore_n C D_J6_bitCount_0f7a4_33 (by decide) qok_0 ?_
  refine y_iload_n C D_J6_bitCount_0f7a4_34 rfl ?_
  refine y_iload_n C D_J6_bitCount_0f7a4_35 rfl ?_
  refine y_bipush C D_J6_bitCount_0f7a4_36 kb_8 ?_
  refine y_iushr C D_J6_bitCount_0f7a4_38 ?_
  refine y_iadd C D_J6_bitCount_0f7a4_39 ?_
  refine y_istore_n C D_J6_bitCount_0f7a4_40 (by decide) qok_0 ?_
  refine y_iload_n C D_J6_bitCount_0f7a4_41 rfl ?_
  refine y_iload_n C D_J6_bitCount_0f7a4_42 rfl ?_
  refine y_bipush C D_J6_bitCount_0f7a4_43 kb_16 ?_
  refine y_iushr C D_J6_bitCount_0f7a4_45 ?_
  refine y_iadd C D_J6_bitCount_0f7a4_46 ?_
  refine y_istore_n C D_J6_bitCount_0f7a4_47 (by decide) qok_0 ?_
  refine y_iload_n C D_J6_bitCount_0f7a4_48 rfl ?_
  refine y_bipush C D_J6_bitCount_0f7a4_49 kb_63 ?_
  refine y_iand C D_J6_bitCount_0f7a4_51 ?_
  exact y_iret C E D_J6_bitCount_0f7a4_52 (rv (by rcases (by omega : b = 0 ∨ b = 1 ∨ b = 2 ∨ b = 3 ∨ b = 4 ∨ b = 5 ∨ b = 6 ∨ b = 7 ∨ b = 8 ∨ b = 9 ∨ b = 10 ∨ b = 11 ∨ b = 12 ∨ b = 13 ∨ b = 14 ∨ b = 15 ∨ b = 16 ∨ b = 17 ∨ b = 18 ∨ b = 19 ∨ b = 20 ∨ b = 21 ∨ b = 22 ∨ b = 23 ∨ b = 24 ∨ b = 25 ∨ b = 26 ∨ b = 27 ∨ b = 28 ∨ b = 29 ∨ b = 30 ∨ b = 31) with c | c | c | c | c | c | c | c | c | c | c | c | c | c | c | c | c | c | c | c | c | c | c | c | c | c | c | c | c | c | c | c <;> rw [c] <;> decide +kernel)) (rfl)
end
