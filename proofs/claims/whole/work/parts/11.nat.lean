/-! numbers: ints that are small naturals; the rows of instructions over them -/
section
theorem n_lt {a b : Nat} (ha : a < 2 ^ 31) (hb : b < 2 ^ 31) : nI a < nI b ↔ a < b := nI_ltI ha hb
theorem n_le {a b : Nat} (ha : a < 2 ^ 31) (hb : b < 2 ^ 31) : nI a ≤ nI b ↔ a ≤ b := nI_leI ha hb
theorem n_eq {a b : Nat} (ha : a < 2 ^ 31) (hb : b < 2 ^ 31) : nI a = nI b ↔ a = b := nI_eq ha hb
theorem n_z : (0 : Int32) = nI 0 := rfl
theorem n_and (a b : Nat) : nI a &&& nI b = nI (a &&& b) := by
  unfold nI; apply Int32.toBitVec_inj.mp; simp
theorem n_or (a b : Nat) : nI a ||| nI b = nI (a ||| b) := by
  unfold nI; apply Int32.toBitVec_inj.mp; simp
theorem n_xor (a b : Nat) : nI a ^^^ nI b = nI (a ^^^ b) := by
  unfold nI; apply Int32.toBitVec_inj.mp; simp
theorem n_shc : ∀ b, b < 32 → ((nI b &&& 31).toBitVec.smod 32).toNat = b := by decide +kernel
theorem n_shl (a : Nat) {b : Nat} (hb : b < 32) : nI a <<< (nI b &&& 31) = nI (a * 2 ^ b) := by
  apply Int32.toBitVec_inj.mp
  apply BitVec.eq_of_toNat_eq
  rw [pk_shl _ _ b (n_shc b hb)]
  unfold nI
  simp
theorem n_shr {a b : Nat} (ha : a < 2 ^ 31) (hb : b < 32) : nI a >>> (nI b &&& 31) = nI (a / 2 ^ b) := pk_shrN ha _ b (n_shc b hb)
theorem n_div {a b : Nat} (ha : a < 2 ^ 31) (h0 : 0 < b) (hb : b < 2 ^ 31) : nI a / nI b = nI (a / b) := pk_div ha h0 hb
theorem n_rem {a b : Nat} (ha : a < 2 ^ 31) (h0 : 0 < b) (hb : b < 2 ^ 31) : nI a - nI a / nI b * nI b = nI (a % b) := pk_rem ha h0 hb
theorem n_ne0 {b : Nat} (h0 : 0 < b) (hb : b < 2 ^ 31) : ¬ nI b = 0 := nI_ne0 h0 hb
variable {X : qX} {G : qG} {cc : ByteArray} {nL kc ks pc pc' d : Nat} {own : String} {lv : List (Option Value)} {st : List Value} {h : List va_E} {a b : Nat}
theorem z_iadd (C : qC X G cc nL own d) (hd : qd cc pc (.iadd) 1 pc') (k : Y X G nL kc ks pc' lv (.int (nI (a + b)) :: st) h) : Y X G nL kc ks pc lv (.int (nI b) :: .int (nI a) :: st) h := y_iadd C hd (y_top (nI_add a b) k)
theorem z_isub (C : qC X G cc nL own d) (hd : qd cc pc (.isub) 1 pc') (hb : b ≤ a) (k : Y X G nL kc ks pc' lv (.int (nI (a - b)) :: st) h) : Y X G nL kc ks pc lv (.int (nI b) :: .int (nI a) :: st) h := y_isub C hd (y_top (pk_sub hb) k)
theorem z_imul (C : qC X G cc nL own d) (hd : qd cc pc (.imul) 1 pc') (k : Y X G nL kc ks pc' lv (.int (nI (a * b)) :: st) h) : Y X G nL kc ks pc lv (.int (nI b) :: .int (nI a) :: st) h := y_imul C hd (y_top (pk_mul a b) k)
theorem z_iand (C : qC X G cc nL own d) (hd : qd cc pc (.iand) 1 pc') (k : Y X G nL kc ks pc' lv (.int (nI (a &&& b)) :: st) h) : Y X G nL kc ks pc lv (.int (nI b) :: .int (nI a) :: st) h := y_iand C hd (y_top (n_and a b) k)
theorem z_ior (C : qC X G cc nL own d) (hd : qd cc pc (.ior) 1 pc') (k : Y X G nL kc ks pc' lv (.int (nI (a ||| b)) :: st) h) : Y X G nL kc ks pc lv (.int (nI b) :: .int (nI a) :: st) h := y_ior C hd (y_top (n_or a b) k)
theorem z_ixor (C : qC X G cc nL own d) (hd : qd cc pc (.ixor) 1 pc') (k : Y X G nL kc ks pc' lv (.int (nI (a ^^^ b)) :: st) h) : Y X G nL kc ks pc lv (.int (nI b) :: .int (nI a) :: st) h := y_ixor C hd (y_top (n_xor a b) k)
theorem z_ishl (C : qC X G cc nL own d) (hd : qd cc pc (.ishl) 1 pc') (hb : b < 32) (k : Y X G nL kc ks pc' lv (.int (nI (a * 2 ^ b)) :: st) h) : Y X G nL kc ks pc lv (.int (nI b) :: .int (nI a) :: st) h := y_ishl C hd (y_top (n_shl a hb) k)
theorem z_ishr (C : qC X G cc nL own d) (hd : qd cc pc (.ishr) 1 pc') (ha : a < 2 ^ 31) (hb : b < 32) (k : Y X G nL kc ks pc' lv (.int (nI (a / 2 ^ b)) :: st) h) : Y X G nL kc ks pc lv (.int (nI b) :: .int (nI a) :: st) h := y_ishr C hd (y_top (n_shr ha hb) k)
theorem z_idiv (C : qC X G cc nL own d) (hd : qd cc pc (.idiv) 1 pc') (ha : a < 2 ^ 31) (h0 : 0 < b) (hb : b < 2 ^ 31) (k : Y X G nL kc ks pc' lv (.int (nI (a / b)) :: st) h) : Y X G nL kc ks pc lv (.int (nI b) :: .int (nI a) :: st) h := y_idiv C hd (n_ne0 h0 hb) (y_top (n_div ha h0 hb) k)
theorem z_irem (C : qC X G cc nL own d) (hd : qd cc pc (.irem) 1 pc') (ha : a < 2 ^ 31) (h0 : 0 < b) (hb : b < 2 ^ 31) (k : Y X G nL kc ks pc' lv (.int (nI (a % b)) :: st) h) : Y X G nL kc ks pc lv (.int (nI b) :: .int (nI a) :: st) h := y_irem C hd (n_ne0 h0 hb) (y_top (n_rem ha h0 hb) k)
theorem z_iinc {i : Nat} {n : Nat} (C : qC X G cc nL own d) (hd : qd cc pc (.iinc i (n : Int)) 3 pc') (hl : lv[i]? = some (some (.int (nI a)))) (hn : i < nL) (ho : qok lv i) (k : Y X G nL kc ks pc' (lv.set i (some (.int (nI (a + n))))) st h) : Y X G nL kc ks pc lv st h :=
  y_iinc C hd hl (by rw [← nI_add]; rfl) hn ho k
theorem z_ild {n k : Nat} {f : Nat → Int32} {ad : Nat} {v : Int32} (C : qC X G cc nL own d) (hd : qd cc pc (.iaload) 1 pc') (hl : h[ad]? = some (qI G n f)) (hk : k < n) (hn : n < 2 ^ 31) (hv : f k = v) (kk : Y X G nL kc ks pc' lv (.int v :: st) h) : Y X G nL kc ks pc lv (.int (nI k) :: qr G ad :: st) h := by
  refine y_ild C hd hl (vp_in_nI hk hn) ?_
  rw [nI_clamp (Nat.lt_trans hk hn), hv]
  exact kk
theorem z_zld {n k : Nat} {f : Nat → Int32} {ad : Nat} {v : Int32} (C : qC X G cc nL own d) (hd : qd cc pc (.baload) 1 pc') (hl : h[ad]? = some (qZ G n f)) (hk : k < n) (hn : n < 2 ^ 31) (hv : f k = v) (kk : Y X G nL kc ks pc' lv (.int v :: st) h) : Y X G nL kc ks pc lv (.int (nI k) :: qr G ad :: st) h := by
  refine y_zld C hd hl (vp_in_nI hk hn) ?_
  rw [nI_clamp (Nat.lt_trans hk hn), hv]
  exact kk
theorem z_ist {n k : Nat} {f : Nat → Int32} {ad : Nat} {x : Int32} {h' : List va_E} (C : qC X G cc nL own d) (hd : qd cc pc (.iastore) 1 pc') (hl : h[ad]? = some (qI G n f)) (hk : k < n) (hn : n < 2 ^ 31) (hh : h.set ad (qI G n (upd f k x)) = h') (kk : Y X G nL kc ks pc' lv st h') : Y X G nL kc ks pc lv (.int x :: .int (nI k) :: qr G ad :: st) h := by
  refine y_ist C hd hl (vp_in_nI hk hn) ?_ kk
  rw [nI_clamp (Nat.lt_trans hk hn)]
  exact hh
theorem z_zst {n k : Nat} {f : Nat → Int32} {ad : Nat} {x : Int32} {h' : List va_E} (C : qC X G cc nL own d) (hd : qd cc pc (.bastore) 1 pc') (hl : h[ad]? = some (qZ G n f)) (hk : k < n) (hn : n < 2 ^ 31) (hx : vp_nar .boolean x = x) (hh : h.set ad (qZ G n (upd f k x)) = h') (kk : Y X G nL kc ks pc' lv st h') : Y X G nL kc ks pc lv (.int x :: .int (nI k) :: qr G ad :: st) h := by
  refine y_zst C hd hl (vp_in_nI hk hn) ?_ kk
  rw [nI_clamp (Nat.lt_trans hk hn), hx]
  exact hh
theorem z_ald {n k t0 : Nat} {E : String} {cA : ClassId} {f : Nat → Option Nat} {ad v : Nat} (C : qC X G cc nL own d) (hd : qd cc pc (.aaload) 1 pc') (hl : h[ad]? = some (.inl (cA, n, .inr (.inr (.inr (.inr f)))))) (ht : (qT G)[t0]? = some (cA, .object E)) (hk : k < n) (hn : n < 2 ^ 31) (hv : f k = some (G.2 4 + v)) (kk : Y X G nL kc ks pc' lv (qr G v :: st) h) : Y X G nL kc ks pc lv (.int (nI k) :: qr G ad :: st) h := by
  refine y_ald C hd hl ht (vp_in_nI hk hn) ?_ kk
  rw [nI_clamp (Nat.lt_trans hk hn), hv]
  rfl
/-- a truth value on the stack -/
abbrev bI (P : Prop) [Decidable P] : Int32 := if P then 1 else 0
theorem bI_1 {P : Prop} [Decidable P] (h : P) : bI P = nI 1 := if_pos h
theorem bI_0 {P : Prop} [Decidable P] (h : ¬ P) : bI P = nI 0 := if_neg h
theorem bI_iff {P : Prop} [Decidable P] : bI P = 0 ↔ ¬ P := by
  unfold bI
  by_cases h : P <;> simp [h]
theorem bI_nar {P : Prop} [Decidable P] : narrow .boolean (.int (bI P)) = .int (bI P) := by
  unfold bI
  by_cases h : P <;> simp [h] <;> decide
theorem nar_0 : narrow .boolean (.int (nI 0)) = .int (nI 0) := by decide
theorem nar_1 : narrow .boolean (.int (nI 1)) = .int (nI 1) := by decide
theorem z_ifeqB {P : Prop} [Decidable P] {off : Int} {tgt : Nat} (C : qC X G cc nL own d) (hd : qj cc pc (.ifCond .eq off) off pc' tgt) (kt : ¬ P → Y X G nL kc ks tgt lv st h) (kf : P → Y X G nL kc ks pc' lv st h) : Y X G nL kc ks pc lv (.int (bI P) :: st) h :=
  y_if_eq C hd bI_iff kt (fun q => kf (Decidable.not_not.mp q))
theorem z_ifneB {P : Prop} [Decidable P] {off : Int} {tgt : Nat} (C : qC X G cc nL own d) (hd : qj cc pc (.ifCond .ne off) off pc' tgt) (kt : P → Y X G nL kc ks tgt lv st h) (kf : ¬ P → Y X G nL kc ks pc' lv st h) : Y X G nL kc ks pc lv (.int (bI P) :: st) h :=
  y_if_ne C hd bI_iff (fun q => kt (Decidable.not_not.mp q)) kf
/-- constants: the branch is known -/
theorem z_ifeq0 {off : Int} {tgt : Nat} (C : qC X G cc nL own d) (hd : qj cc pc (.ifCond .eq off) off pc' tgt) (kt : Y X G nL kc ks tgt lv st h) : Y X G nL kc ks pc lv (.int (nI 0) :: st) h :=
  y_if_eq C hd (P := True) (iff_of_true rfl trivial) (fun _ => kt) (fun q => absurd trivial q)
theorem z_ifeq1 {off : Int} {tgt : Nat} (C : qC X G cc nL own d) (hd : qj cc pc (.ifCond .eq off) off pc' tgt) (kf : Y X G nL kc ks pc' lv st h) : Y X G nL kc ks pc lv (.int (nI 1) :: st) h :=
  y_if_eq C hd (P := False) (iff_of_false (by decide) id) (fun q => q.elim) (fun _ => kf)
theorem z_ifne0 {off : Int} {tgt : Nat} (C : qC X G cc nL own d) (hd : qj cc pc (.ifCond .ne off) off pc' tgt) (kf : Y X G nL kc ks pc' lv st h) : Y X G nL kc ks pc lv (.int (nI 0) :: st) h :=
  y_if_ne C hd (P := True) (iff_of_true rfl trivial) (fun q => absurd trivial q) (fun _ => kf)
theorem z_ifne1 {off : Int} {tgt : Nat} (C : qC X G cc nL own d) (hd : qj cc pc (.ifCond .ne off) off pc' tgt) (kt : Y X G nL kc ks tgt lv st h) : Y X G nL kc ks pc lv (.int (nI 1) :: st) h :=
  y_if_ne C hd (P := False) (iff_of_false (by decide) id) (fun _ => kt) (fun q => q.elim)
theorem n_eq0 {a : Nat} (ha : a < 2 ^ 31) : nI a = 0 ↔ a = 0 := nI_eq (b := 0) ha (by decide)
theorem n_gt0 {a : Nat} (ha : a < 2 ^ 31) : 0 < nI a ↔ 0 < a := nI_ltI (a := 0) (by decide) ha
theorem n_le0 {a : Nat} (ha : a < 2 ^ 31) : nI a ≤ 0 ↔ a = 0 := (nI_leI (b := 0) ha (by decide)).trans Nat.le_zero
theorem n_lt0 {a : Nat} (ha : a < 2 ^ 31) : nI a < 0 ↔ False := iff_of_false (nI_pos ha) id
theorem n_ge0 {a : Nat} (ha : a < 2 ^ 31) : 0 ≤ nI a ↔ True := iff_of_true (nI_pos' ha) trivial
end
section
variable {X : qX} {G : qG} {cc : ByteArray} {nL kc ks pc pc' d d' : Nat} {own : String} {lv : List (Option Value)} {st sk : List Value} {h h' : List va_E} {y : MethodName} {v : Value} {As : List Value}
theorem z_callV {idx ci n a : Nat} {fs : List Value} (C : qC X G cc nL own d) (hd : qd cc pc (.invokevirtual idx) 3 pc') (hk : qcV own idx y ci n) (hM : Ct X.2.1 G y d' (qr G a :: As) h (some v) h') (hl : h[a]? = some (.inr (ci, fs))) (hs : sk = As.reverse ++ qr G a :: st) (hn : As.length = n) (hdd : d' + 1 ≤ d) (hst : (st.map fun v => v.category).sum ≤ 8) (hkc : kc ≤ X.2.2.2.1.cells ∧ ks ≤ X.2.2.2.1.slots) (k : Y X G nL kc ks pc' lv (v :: st) h') : Y X G nL kc ks pc lv sk h := y_callV C hd hk hM hl hs hn hdd hst hkc k
theorem z_callVv {idx ci n a : Nat} {fs : List Value} (C : qC X G cc nL own d) (hd : qd cc pc (.invokevirtual idx) 3 pc') (hk : qcV own idx y ci n) (hM : Ct X.2.1 G y d' (qr G a :: As) h none h') (hl : h[a]? = some (.inr (ci, fs))) (hs : sk = As.reverse ++ qr G a :: st) (hn : As.length = n) (hdd : d' + 1 ≤ d) (hst : (st.map fun v => v.category).sum ≤ 8) (hkc : kc ≤ X.2.2.2.1.cells ∧ ks ≤ X.2.2.2.1.slots) (k : Y X G nL kc ks pc' lv st h') : Y X G nL kc ks pc lv sk h := y_callV C hd hk hM hl hs hn hdd hst hkc k
theorem z_callS {idx n : Nat} (C : qC X G cc nL own d) (hd : qd cc pc (.invokestatic idx) 3 pc') (hk : qcS own idx y n) (hM : Ct X.2.1 G y d' As h (some v) h') (hs : sk = As.reverse ++ st) (hn : As.length = n) (hdd : d' + 1 ≤ d) (hst : (st.map fun v => v.category).sum ≤ 8) (hkc : kc ≤ X.2.2.2.1.cells ∧ ks ≤ X.2.2.2.1.slots) (k : Y X G nL kc ks pc' lv (v :: st) h') : Y X G nL kc ks pc lv sk h := y_callS C hd hk hM hs hn hdd hst hkc k
theorem z_callSv {idx n : Nat} (C : qC X G cc nL own d) (hd : qd cc pc (.invokestatic idx) 3 pc') (hk : qcS own idx y n) (hM : Ct X.2.1 G y d' As h none h') (hs : sk = As.reverse ++ st) (hn : As.length = n) (hdd : d' + 1 ≤ d) (hst : (st.map fun v => v.category).sum ≤ 8) (hkc : kc ≤ X.2.2.2.1.cells ∧ ks ≤ X.2.2.2.1.slots) (k : Y X G nL kc ks pc' lv st h') : Y X G nL kc ks pc lv sk h := y_callS C hd hk hM hs hn hdd hst hkc k
theorem z_callSN {idx n : Nat} (C : qC X G cc nL own d) (hd : qd cc pc (.invokestatic idx) 3 pc') (hk : qcSN own idx y n) (hM : Ct X.2.1 G y d' As h (some v) h') (hs : sk = As.reverse ++ st) (hn : As.length = n) (hdd : d' + 1 ≤ d) (hst : (st.map fun v => v.category).sum ≤ 8) (hkc : kc ≤ X.2.2.2.1.cells ∧ ks ≤ X.2.2.2.1.slots) (k : Y X G nL kc ks pc' lv (v :: st) h') : Y X G nL kc ks pc lv sk h := y_callSN C hd hk hM hs hn hdd hst hkc k
end
theorem ki_0 : Int32.ofInt 0 = nI 0 := rfl
theorem ki_1 : Int32.ofInt 1 = nI 1 := rfl
theorem ki_2 : Int32.ofInt 2 = nI 2 := rfl
theorem ki_3 : Int32.ofInt 3 = nI 3 := rfl
theorem ki_4 : Int32.ofInt 4 = nI 4 := rfl
theorem ki_5 : Int32.ofInt 5 = nI 5 := rfl
theorem ki_m1 : Int32.ofInt (-1) = -1 := rfl
theorem kb_m3 : (Int8.ofInt (-3)).toInt32 = -3 := by decide
theorem kb_m2 : (Int8.ofInt (-2)).toInt32 = -2 := by decide
theorem kb_6 : (Int8.ofInt 6).toInt32 = nI 6 := by decide
theorem kb_8 : (Int8.ofInt 8).toInt32 = nI 8 := by decide
theorem kb_9 : (Int8.ofInt 9).toInt32 = nI 9 := by decide
theorem kb_10 : (Int8.ofInt 10).toInt32 = nI 10 := by decide
theorem kb_11 : (Int8.ofInt 11).toInt32 = nI 11 := by decide
theorem kb_12 : (Int8.ofInt 12).toInt32 = nI 12 := by decide
theorem kb_13 : (Int8.ofInt 13).toInt32 = nI 13 := by decide
theorem kb_14 : (Int8.ofInt 14).toInt32 = nI 14 := by decide
theorem kb_16 : (Int8.ofInt 16).toInt32 = nI 16 := by decide
theorem kb_20 : (Int8.ofInt 20).toInt32 = nI 20 := by decide
theorem kb_21 : (Int8.ofInt 21).toInt32 = nI 21 := by decide
theorem kb_22 : (Int8.ofInt 22).toInt32 = nI 22 := by decide
theorem kb_23 : (Int8.ofInt 23).toInt32 = nI 23 := by decide
theorem kb_24 : (Int8.ofInt 24).toInt32 = nI 24 := by decide
theorem kb_27 : (Int8.ofInt 27).toInt32 = nI 27 := by decide
theorem kb_30 : (Int8.ofInt 30).toInt32 = nI 30 := by decide
theorem kb_40 : (Int8.ofInt 40).toInt32 = nI 40 := by decide
theorem kb_44 : (Int8.ofInt 44).toInt32 = nI 44 := by decide
theorem kb_48 : (Int8.ofInt 48).toInt32 = nI 48 := by decide
theorem kb_51 : (Int8.ofInt 51).toInt32 = nI 51 := by decide
theorem kb_57 : (Int8.ofInt 57).toInt32 = nI 57 := by decide
theorem kb_59 : (Int8.ofInt 59).toInt32 = nI 59 := by decide
theorem kb_63 : (Int8.ofInt 63).toInt32 = nI 63 := by decide
theorem kb_64 : (Int8.ofInt 64).toInt32 = nI 64 := by decide
theorem kb_97 : (Int8.ofInt 97).toInt32 = nI 97 := by decide
theorem kb_99 : (Int8.ofInt 99).toInt32 = nI 99 := by decide
theorem kb_100 : (Int8.ofInt 100).toInt32 = nI 100 := by decide
theorem kb_102 : (Int8.ofInt 102).toInt32 = nI 102 := by decide
theorem kb_103 : (Int8.ofInt 103).toInt32 = nI 103 := by decide
theorem kb_109 : (Int8.ofInt 109).toInt32 = nI 109 := by decide
theorem kb_115 : (Int8.ofInt 115).toInt32 = nI 115 := by decide
theorem kb_116 : (Int8.ofInt 116).toInt32 = nI 116 := by decide
theorem kb_119 : (Int8.ofInt 119).toInt32 = nI 119 := by decide
theorem kb_120 : (Int8.ofInt 120).toInt32 = nI 120 := by decide
theorem kb_122 : (Int8.ofInt 122).toInt32 = nI 122 := by decide
theorem kn_255 : (Int16.ofInt 255).toInt32 = nI 255 := by decide
theorem kn_320 : (Int16.ofInt 320).toInt32 = nI 320 := by decide
theorem kn_999 : (Int16.ofInt 999).toInt32 = nI 999 := by decide
theorem kn_1000 : (Int16.ofInt 1000).toInt32 = nI 1000 := by decide
theorem kn_1173 : (Int16.ofInt 1173).toInt32 = nI 1173 := by decide
theorem kn_1224 : (Int16.ofInt 1224).toInt32 = nI 1224 := by decide
section
variable {X : qX} {G : qG} {cc : ByteArray} {nL kc ks pc pc' d : Nat} {own : String} {lv : List (Option Value)} {st : List Value} {h : List va_E} {off : Int} {tgt : Nat}
theorem z_ifltM (C : qC X G cc nL own d) (hd : qj cc pc (.ifCond .lt off) off pc' tgt) (k : Y X G nL kc ks tgt lv st h) : Y X G nL kc ks pc lv (.int (-1) :: st) h := y_if_lt C hd (P := True) (iff_of_true (by decide) trivial) (fun _ => k) (fun q => absurd trivial q)
theorem z_ifgeM (C : qC X G cc nL own d) (hd : qj cc pc (.ifCond .ge off) off pc' tgt) (k : Y X G nL kc ks pc' lv st h) : Y X G nL kc ks pc lv (.int (-1) :: st) h := y_if_ge C hd (P := False) (iff_of_false (by decide) id) (fun q => q.elim) (fun _ => k)
end
/-- an option as the code tells it: -1 is none -/
def oI : Option Nat → Int32
  | none => -1
  | some k => nI k
theorem oI_n : oI none = -1 := rfl
theorem oI_s (k : Nat) : oI (some k) = nI k := rfl
section
variable {X : qX} {G : qG} {nL kc ks pc : Nat} {lv : List (Option Value)} {st : List Value} {h : List va_E}
/-- a local that is forgotten -/
theorem y_fg (j : Nat) (k : Y X G nL kc ks pc (lv.set j none) st h) : Y X G nL kc ks pc lv st h := by
  intro H locs ls a b c
  refine k H locs ls a b ⟨c.1, c.2.1, fun q hq => ?_⟩
  obtain ⟨m, h1, h2⟩ := qlv_of _ 0 q hq
  by_cases hm : j = m
  · subst hm
    rw [List.getElem?_set] at h2
    simp at h2
  · rw [List.getElem?_set_ne hm] at h2
    have := qlv_mem lv 0 m q.2 h2
    rw [← h1] at this
    exact c.2.2 q this
end
theorem z_ishl1 {X : qX} {G : qG} {cc : ByteArray} {nL kc ks pc pc' d : Nat} {own : String} {lv : List (Option Value)} {st : List Value} {h : List va_E} {b : Nat} (C : qC X G cc nL own d) (hd : qd cc pc (.ishl) 1 pc') (hb : b < 32) (k : Y X G nL kc ks pc' lv (.int (nI (2 ^ b)) :: st) h) : Y X G nL kc ks pc lv (.int (nI b) :: .int (nI 1) :: st) h := z_ishl C hd hb (y_top (by rw [Nat.one_mul]) k)
