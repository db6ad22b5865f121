section
variable {G : qG} {U : List va_E} {i : Nat → Nat} {A : Nat → Nat → Nat} {B : Nat → Nat → Int32}
/-- the reference: int fields i, arrays of naturals A, arrays of ints B, each by its field's number -/
abbrev mf (G : qG) (i : Nat → Nat) : List Value := [qr G 123, qr G 124, qr G 125, .int (nI (i 3)), .int (nI (i 4)), qr G 126, qr G 127, qr G 128, .int (nI (i 8)), .int (nI (i 9)), .int (nI (i 10)), .int (nI (i 11)), .int (nI (i 12)), .int (nI (i 13)), .int (nI (i 14)), qr G 129, qr G 130, .int (nI (i 17)), qr G 131, qr G 132, .int (nI (i 20)), qr G 133, qr G 134, qr G 135, .int (nI (i 24))]
abbrev mc (G : qG) (i : Nat → Nat) (A : Nat → Nat → Nat) (B : Nat → Nat → Int32) : List va_E := [.inr (7, mf G i), qI G 8 (fun k => nI (A 0 k)), qI G 8 (B 1), qI G 320 (B 2), qI G 51 (fun k => nI (A 5 k)), qI G 40 (B 6), qI G 120 (fun k => nI (A 7 k)), qI G 51 (fun k => nI (A 15 k)), qI G 1224 (fun k => nI (A 16 k)), qI G 51 (fun k => nI (A 18 k)), qI G 3 (fun k => nI (A 19 k)), qZ G 2 (fun k => nI (A 21 k)), qI G 102 (fun k => nI (A 22 k)), qI G 16 (fun k => nI (A 23 k))]
def hm (G : qG) (U : List va_E) (i : Nat → Nat) (A : Nat → Nat → Nat) (B : Nat → Nat → Int32) : List va_E := U ++ mc G i A B
theorem hm_at (hU : U.length = 122) (j : Nat) : (hm G U i A B)[122 + j]? = (mc G i A B)[j]? := by
  unfold hm
  rw [List.getElem?_append_right (by omega), hU, Nat.add_sub_cancel_left]
theorem hm_set (hU : U.length = 122) (j : Nat) (e : va_E) : (hm G U i A B).set (122 + j) e = U ++ (mc G i A B).set j e := by
  unfold hm
  rw [List.set_append, if_neg (by omega), hU, Nat.add_sub_cancel_left]
theorem hm_o (hU : U.length = 122) : (hm G U i A B)[122]? = some (.inr (7, mf G i)) := (hm_at hU 0).trans rfl
theorem hm_lanes (hU : U.length = 122) : (hm G U i A B)[123]? = some (qI G 8 (fun k => nI (A 0 k))) := (hm_at hU 1).trans rfl
theorem hm_sizes (hU : U.length = 122) : (hm G U i A B)[124]? = some (qI G 8 (B 1)) := (hm_at hU 2).trans rfl
theorem hm_items (hU : U.length = 122) : (hm G U i A B)[125]? = some (qI G 320 (B 2)) := (hm_at hU 3).trans rfl
theorem hm_st (hU : U.length = 122) : (hm G U i A B)[126]? = some (qI G 51 (fun k => nI (A 5 k))) := (hm_at hU 4).trans rfl
theorem hm_moved (hU : U.length = 122) : (hm G U i A B)[127]? = some (qI G 40 (B 6)) := (hm_at hU 5).trans rfl
theorem hm_tape (hU : U.length = 122) : (hm G U i A B)[128]? = some (qI G 120 (fun k => nI (A 7 k))) := (hm_at hU 6).trans rfl
theorem hm_read (hU : U.length = 122) : (hm G U i A B)[129]? = some (qI G 51 (fun k => nI (A 15 k))) := (hm_at hU 7).trans rfl
theorem hm_acts (hU : U.length = 122) : (hm G U i A B)[130]? = some (qI G 1224 (fun k => nI (A 16 k))) := (hm_at hU 8).trans rfl
theorem hm_aside (hU : U.length = 122) : (hm G U i A B)[131]? = some (qI G 51 (fun k => nI (A 18 k))) := (hm_at hU 9).trans rfl
theorem hm_way (hU : U.length = 122) : (hm G U i A B)[132]? = some (qI G 3 (fun k => nI (A 19 k))) := (hm_at hU 10).trans rfl
theorem hm_isHeld (hU : U.length = 122) : (hm G U i A B)[133]? = some (qZ G 2 (fun k => nI (A 21 k))) := (hm_at hU 11).trans rfl
theorem hm_held (hU : U.length = 122) : (hm G U i A B)[134]? = some (qI G 102 (fun k => nI (A 22 k))) := (hm_at hU 12).trans rfl
theorem hm_trace (hU : U.length = 122) : (hm G U i A B)[135]? = some (qI G 16 (fun k => nI (A 23 k))) := (hm_at hU 13).trans rfl
theorem va_upn (f : Nat → Nat) (k v : Nat) : upd (fun j => nI (f j)) k (nI v) = fun j => nI (va_up f k v j) := by
  funext j
  unfold upd va_up
  split <;> rfl
theorem up_eq {α : Type} (f : Nat → α) (k : Nat) (v : α) : va_up f k v k = v := if_pos rfl
theorem up_ne {α : Type} (f : Nat → α) {k j : Nat} (v : α) (h : j ≠ k) : va_up f k v j = f j := if_neg h
theorem hm_pstatus (hU : U.length = 122) (v : Nat) : (hm G U i A B).set 122 (.inr (7, (mf G i).set 3 (.int (nI v)))) = hm G U (va_up i 3 v) A B := (hm_set hU 0 _).trans rfl
theorem hm_pisThere (hU : U.length = 122) (v : Nat) : (hm G U i A B).set 122 (.inr (7, (mf G i).set 4 (.int (nI v)))) = hm G U (va_up i 4 v) A B := (hm_set hU 0 _).trans rfl
theorem hm_pbytes (hU : U.length = 122) (v : Nat) : (hm G U i A B).set 122 (.inr (7, (mf G i).set 8 (.int (nI v)))) = hm G U (va_up i 8 v) A B := (hm_set hU 0 _).trans rfl
theorem hm_platest (hU : U.length = 122) (v : Nat) : (hm G U i A B).set 122 (.inr (7, (mf G i).set 9 (.int (nI v)))) = hm G U (va_up i 9 v) A B := (hm_set hU 0 _).trans rfl
theorem hm_pplace (hU : U.length = 122) (v : Nat) : (hm G U i A B).set 122 (.inr (7, (mf G i).set 10 (.int (nI v)))) = hm G U (va_up i 10 v) A B := (hm_set hU 0 _).trans rfl
theorem hm_ptoken (hU : U.length = 122) (v : Nat) : (hm G U i A B).set 122 (.inr (7, (mf G i).set 11 (.int (nI v)))) = hm G U (va_up i 11 v) A B := (hm_set hU 0 _).trans rfl
theorem hm_pvalue (hU : U.length = 122) (v : Nat) : (hm G U i A B).set 122 (.inr (7, (mf G i).set 12 (.int (nI v)))) = hm G U (va_up i 12 v) A B := (hm_set hU 0 _).trans rfl
theorem hm_pbegins (hU : U.length = 122) (v : Nat) : (hm G U i A B).set 122 (.inr (7, (mf G i).set 13 (.int (nI v)))) = hm G U (va_up i 13 v) A B := (hm_set hU 0 _).trans rfl
theorem hm_pwrong (hU : U.length = 122) (v : Nat) : (hm G U i A B).set 122 (.inr (7, (mf G i).set 14 (.int (nI v)))) = hm G U (va_up i 14 v) A B := (hm_set hU 0 _).trans rfl
theorem hm_pactMany (hU : U.length = 122) (v : Nat) : (hm G U i A B).set 122 (.inr (7, (mf G i).set 17 (.int (nI v)))) = hm G U (va_up i 17 v) A B := (hm_set hU 0 _).trans rfl
theorem hm_pbestWay (hU : U.length = 122) (v : Nat) : (hm G U i A B).set 122 (.inr (7, (mf G i).set 20 (.int (nI v)))) = hm G U (va_up i 20 v) A B := (hm_set hU 0 _).trans rfl
theorem hm_ptraced (hU : U.length = 122) (v : Nat) : (hm G U i A B).set 122 (.inr (7, (mf G i).set 24 (.int (nI v)))) = hm G U (va_up i 24 v) A B := (hm_set hU 0 _).trans rfl
theorem hm_wlanes (hU : U.length = 122) (j v : Nat) : (hm G U i A B).set 123 (qI G 8 (upd (fun k => nI (A 0 k)) j (nI v))) = hm G U i (va_up A 0 (va_up (A 0) j v)) B := by
  rw [va_upn]
  exact (hm_set hU 1 _).trans rfl
theorem hm_wsizes (hU : U.length = 122) (j : Nat) (v : Int32) : (hm G U i A B).set 124 (qI G 8 (upd (B 1) j v)) = hm G U i A (va_up B 1 (upd (B 1) j v)) := (hm_set hU 2 _).trans rfl
theorem hm_witems (hU : U.length = 122) (j : Nat) (v : Int32) : (hm G U i A B).set 125 (qI G 320 (upd (B 2) j v)) = hm G U i A (va_up B 2 (upd (B 2) j v)) := (hm_set hU 3 _).trans rfl
theorem hm_wst (hU : U.length = 122) (j v : Nat) : (hm G U i A B).set 126 (qI G 51 (upd (fun k => nI (A 5 k)) j (nI v))) = hm G U i (va_up A 5 (va_up (A 5) j v)) B := by
  rw [va_upn]
  exact (hm_set hU 4 _).trans rfl
theorem hm_wmoved (hU : U.length = 122) (j : Nat) (v : Int32) : (hm G U i A B).set 127 (qI G 40 (upd (B 6) j v)) = hm G U i A (va_up B 6 (upd (B 6) j v)) := (hm_set hU 5 _).trans rfl
theorem hm_wtape (hU : U.length = 122) (j v : Nat) : (hm G U i A B).set 128 (qI G 120 (upd (fun k => nI (A 7 k)) j (nI v))) = hm G U i (va_up A 7 (va_up (A 7) j v)) B := by
  rw [va_upn]
  exact (hm_set hU 6 _).trans rfl
theorem hm_wread (hU : U.length = 122) (j v : Nat) : (hm G U i A B).set 129 (qI G 51 (upd (fun k => nI (A 15 k)) j (nI v))) = hm G U i (va_up A 15 (va_up (A 15) j v)) B := by
  rw [va_upn]
  exact (hm_set hU 7 _).trans rfl
theorem hm_wacts (hU : U.length = 122) (j v : Nat) : (hm G U i A B).set 130 (qI G 1224 (upd (fun k => nI (A 16 k)) j (nI v))) = hm G U i (va_up A 16 (va_up (A 16) j v)) B := by
  rw [va_upn]
  exact (hm_set hU 8 _).trans rfl
theorem hm_waside (hU : U.length = 122) (j v : Nat) : (hm G U i A B).set 131 (qI G 51 (upd (fun k => nI (A 18 k)) j (nI v))) = hm G U i (va_up A 18 (va_up (A 18) j v)) B := by
  rw [va_upn]
  exact (hm_set hU 9 _).trans rfl
theorem hm_wway (hU : U.length = 122) (j v : Nat) : (hm G U i A B).set 132 (qI G 3 (upd (fun k => nI (A 19 k)) j (nI v))) = hm G U i (va_up A 19 (va_up (A 19) j v)) B := by
  rw [va_upn]
  exact (hm_set hU 10 _).trans rfl
theorem hm_wisHeld (hU : U.length = 122) (j v : Nat) : (hm G U i A B).set 133 (qZ G 2 (upd (fun k => nI (A 21 k)) j (nI v))) = hm G U i (va_up A 21 (va_up (A 21) j v)) B := by
  rw [va_upn]
  exact (hm_set hU 11 _).trans rfl
theorem hm_wheld (hU : U.length = 122) (j v : Nat) : (hm G U i A B).set 134 (qI G 102 (upd (fun k => nI (A 22 k)) j (nI v))) = hm G U i (va_up A 22 (va_up (A 22) j v)) B := by
  rw [va_upn]
  exact (hm_set hU 12 _).trans rfl
theorem hm_wtrace (hU : U.length = 122) (j v : Nat) : (hm G U i A B).set 135 (qI G 16 (upd (fun k => nI (A 23 k)) j (nI v))) = hm G U i (va_up A 23 (va_up (A 23) j v)) B := by
  rw [va_upn]
  exact (hm_set hU 13 _).trans rfl
end
