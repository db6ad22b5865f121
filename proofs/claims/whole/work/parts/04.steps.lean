section
variable {X : qX} {G : qG} {cc : ByteArray} {nL kc ks pc pc' d : Nat} {own : String} {lv : List (Option Value)} {st : List Value} {h : List va_E}
theorem y_eq {lv' : List (Option Value)} {st' : List Value} {h' : List va_E} (h1 : lv = lv') (h2 : st = st') (h3 : h = h') (k : Y X G nL kc ks pc lv' st' h') : Y X G nL kc ks pc lv st h := by
  subst h1; subst h2; subst h3; exact k
theorem y_hp {h' : List va_E} (h3 : h = h') (k : Y X G nL kc ks pc lv st h') : Y X G nL kc ks pc lv st h := h3 ▸ k
theorem y_st {st' : List Value} (h3 : st = st') (k : Y X G nL kc ks pc lv st' h) : Y X G nL kc ks pc lv st h := h3 ▸ k
theorem y_lv {lv' : List (Option Value)} (h3 : lv = lv') (k : Y X G nL kc ks pc lv' st h) : Y X G nL kc ks pc lv st h := h3 ▸ k
theorem y_top {x y : Int32} (e : x = y) (k : Y X G nL kc ks pc lv (.int y :: st) h) : Y X G nL kc ks pc lv (.int x :: st) h := e ▸ k
theorem y_topl {x y : Int64} (e : x = y) (k : Y X G nL kc ks pc lv (.long y :: st) h) : Y X G nL kc ks pc lv (.long x :: st) h := e ▸ k
theorem y_iconst {i : Int} {v : Int32} (C : qC X G cc nL own d) (hd : qd cc pc (.iconst i) 1 pc') (hv : Int32.ofInt i = v) (k : Y X G nL kc ks pc' lv (.int v :: st) h) : Y X G nL kc ks pc lv (st) h := by
  obtain ⟨hd, rfl⟩ := hd
  exact fun H locs ls a b c => lv_iconst C.1 C.2.1 hd hv (k H locs ls a b c)
theorem y_bipush {i : Int} {v : Int32} (C : qC X G cc nL own d) (hd : qd cc pc (.bipush i) 2 pc') (hv : (Int8.ofInt i).toInt32 = v) (k : Y X G nL kc ks pc' lv (.int v :: st) h) : Y X G nL kc ks pc lv (st) h := by
  obtain ⟨hd, rfl⟩ := hd
  exact fun H locs ls a b c => lv_bipush C.1 C.2.1 hd hv (k H locs ls a b c)
theorem y_sipush {i : Int} {v : Int32} (C : qC X G cc nL own d) (hd : qd cc pc (.sipush i) 3 pc') (hv : (Int16.ofInt i).toInt32 = v) (k : Y X G nL kc ks pc' lv (.int v :: st) h) : Y X G nL kc ks pc lv (st) h := by
  obtain ⟨hd, rfl⟩ := hd
  exact fun H locs ls a b c => lv_sipush C.1 C.2.1 hd hv (k H locs ls a b c)
theorem y_lconst {i : Fin 2} {v : Int64} (C : qC X G cc nL own d) (hd : qd cc pc (.lconst i) 1 pc') (hv : Int64.ofNat (i : Nat) = v) (k : Y X G nL kc ks pc' lv (.long v :: st) h) : Y X G nL kc ks pc lv (st) h := by
  obtain ⟨hd, rfl⟩ := hd
  exact fun H locs ls a b c => lv_lconst C.1 C.2.1 hd hv (k H locs ls a b c)
theorem y_iload_n {i : Fin 4} {x : Int32} (C : qC X G cc nL own d) (hd : qd cc pc (.iload_n i) 1 pc') (hl : lv[(i : Nat)]? = some (some (.int x))) (k : Y X G nL kc ks pc' lv (.int x :: st) h) : Y X G nL kc ks pc lv (st) h := by
  obtain ⟨hd, rfl⟩ := hd
  exact fun H locs ls a b c => lv_iload_n C.1 C.2.1 hd rfl (qh_at c hl) (k H locs ls a b c)
theorem y_iload {i : Nat} {x : Int32} (C : qC X G cc nL own d) (hd : qd cc pc (.iload i) 2 pc') (hl : lv[i]? = some (some (.int x))) (k : Y X G nL kc ks pc' lv (.int x :: st) h) : Y X G nL kc ks pc lv (st) h := by
  obtain ⟨hd, rfl⟩ := hd
  exact fun H locs ls a b c => lv_iload C.1 C.2.1 hd (qh_at c hl) (k H locs ls a b c)
theorem y_lload_n {i : Fin 4} {x : Int64} (C : qC X G cc nL own d) (hd : qd cc pc (.lload_n i) 1 pc') (hl : lv[(i : Nat)]? = some (some (.long x))) (k : Y X G nL kc ks pc' lv (.long x :: st) h) : Y X G nL kc ks pc lv (st) h := by
  obtain ⟨hd, rfl⟩ := hd
  exact fun H locs ls a b c => lv_lload_n C.1 C.2.1 hd rfl (qh_at c hl) (k H locs ls a b c)
theorem y_lload {i : Nat} {x : Int64} (C : qC X G cc nL own d) (hd : qd cc pc (.lload i) 2 pc') (hl : lv[i]? = some (some (.long x))) (k : Y X G nL kc ks pc' lv (.long x :: st) h) : Y X G nL kc ks pc lv (st) h := by
  obtain ⟨hd, rfl⟩ := hd
  exact fun H locs ls a b c => lv_lload C.1 C.2.1 hd (qh_at c hl) (k H locs ls a b c)
theorem y_aload_n {i : Fin 4} {x : Nat} (C : qC X G cc nL own d) (hd : qd cc pc (.aload_n i) 1 pc') (hl : lv[(i : Nat)]? = some (some (.ref x))) (k : Y X G nL kc ks pc' lv (.ref x :: st) h) : Y X G nL kc ks pc lv (st) h := by
  obtain ⟨hd, rfl⟩ := hd
  exact fun H locs ls a b c => lv_aload_n C.1 C.2.1 hd rfl (qh_at c hl) (k H locs ls a b c)
theorem y_aload {i : Nat} {x : Nat} (C : qC X G cc nL own d) (hd : qd cc pc (.aload i) 2 pc') (hl : lv[i]? = some (some (.ref x))) (k : Y X G nL kc ks pc' lv (.ref x :: st) h) : Y X G nL kc ks pc lv (st) h := by
  obtain ⟨hd, rfl⟩ := hd
  exact fun H locs ls a b c => lv_aload C.1 C.2.1 hd (qh_at c hl) (k H locs ls a b c)
theorem y_istore {i : Nat} {x : Int32} (C : qC X G cc nL own d) (hd : qd cc pc (.istore i) 2 pc') (hn : i < nL) (ho : qok lv i) (k : Y X G nL kc ks pc' (lv.set i (some (.int x))) st h) : Y X G nL kc ks pc lv (.int x :: st) h := by
  obtain ⟨hd, rfl⟩ := hd
  exact fun H locs ls a b c => lv_istore C.1 C.2.1 hd c hn rfl (fun ls' c' => k H locs ls' a b (qh_s1 (ls := ls) ho c'))
theorem y_istore_n {i : Fin 4} {x : Int32} (C : qC X G cc nL own d) (hd : qd cc pc (.istore_n i) 1 pc') (hn : (i : Nat) < nL) (ho : qok lv (i : Nat)) (k : Y X G nL kc ks pc' (lv.set (i : Nat) (some (.int x))) st h) : Y X G nL kc ks pc lv (.int x :: st) h := by
  obtain ⟨hd, rfl⟩ := hd
  exact fun H locs ls a b c => lv_istore_n C.1 C.2.1 hd rfl c hn rfl (fun ls' c' => k H locs ls' a b (qh_s1 (ls := ls) ho c'))
theorem y_astore {i : Nat} {x : Nat} (C : qC X G cc nL own d) (hd : qd cc pc (.astore i) 2 pc') (hn : i < nL) (ho : qok lv i) (k : Y X G nL kc ks pc' (lv.set i (some (.ref x))) st h) : Y X G nL kc ks pc lv (.ref x :: st) h := by
  obtain ⟨hd, rfl⟩ := hd
  exact fun H locs ls a b c => lv_astore C.1 C.2.1 hd c hn rfl (fun ls' c' => k H locs ls' a b (qh_s1 (ls := ls) ho c'))
theorem y_astore_n {i : Fin 4} {x : Nat} (C : qC X G cc nL own d) (hd : qd cc pc (.astore_n i) 1 pc') (hn : (i : Nat) < nL) (ho : qok lv (i : Nat)) (k : Y X G nL kc ks pc' (lv.set (i : Nat) (some (.ref x))) st h) : Y X G nL kc ks pc lv (.ref x :: st) h := by
  obtain ⟨hd, rfl⟩ := hd
  exact fun H locs ls a b c => lv_astore_n C.1 C.2.1 hd rfl c hn rfl (fun ls' c' => k H locs ls' a b (qh_s1 (ls := ls) ho c'))
theorem y_lstore {i : Nat} {x : Int64} (C : qC X G cc nL own d) (hd : qd cc pc (.lstore i) 2 pc') (hn : i + 1 < nL) (ho : qok lv i) (k : Y X G nL kc ks pc' ((lv.set i (some (.long x))).set (i + 1) none) st h) : Y X G nL kc ks pc lv (.long x :: st) h := by
  obtain ⟨hd, rfl⟩ := hd
  exact fun H locs ls a b c => lv_lstore C.1 C.2.1 hd c hn rfl (fun ls' c' => k H locs ls' a b (qh_s2 (ls := ls) ho c'))
theorem y_lstore_n {i : Fin 4} {x : Int64} (C : qC X G cc nL own d) (hd : qd cc pc (.lstore_n i) 1 pc') (hn : (i : Nat) + 1 < nL) (ho : qok lv (i : Nat)) (k : Y X G nL kc ks pc' ((lv.set (i : Nat) (some (.long x))).set ((i : Nat) + 1) none) st h) : Y X G nL kc ks pc lv (.long x :: st) h := by
  obtain ⟨hd, rfl⟩ := hd
  exact fun H locs ls a b c => lv_lstore_n C.1 C.2.1 hd rfl c hn rfl (fun ls' c' => k H locs ls' a b (qh_s2 (ls := ls) ho c'))
theorem qlv_idx {lv : List (Option Value)} {i : Nat} {v : Value} (h : lv[i]? = some (some v)) : ∃ k : Nat, (qlv 0 lv)[k]? = some (i, v) := by
  have := qlv_mem lv 0 i v h
  rw [Nat.zero_add] at this
  exact List.getElem?_of_mem this
theorem y_iinc {i : Nat} {n : Int} {x v : Int32} (C : qC X G cc nL own d) (hd : qd cc pc (.iinc i n) 3 pc') (hl : lv[i]? = some (some (.int x))) (hv : x + Int32.ofInt n = v) (hn : i < nL) (ho : qok lv i) (k : Y X G nL kc ks pc' (lv.set i (some (.int v))) st h) : Y X G nL kc ks pc lv st h := by
  obtain ⟨hd, rfl⟩ := hd
  obtain ⟨kk, hk⟩ := qlv_idx hl
  exact fun H locs ls a b c => lv_iinc C.1 C.2.1 hd c hk hv hn rfl (fun ls' c' => k H locs ls' a b (qh_s1 (ls := ls) ho c'))
theorem y_iadd {x y : Int32} (C : qC X G cc nL own d) (hd : qd cc pc (.iadd) 1 pc') (k : Y X G nL kc ks pc' lv (.int (x + y) :: st) h) : Y X G nL kc ks pc lv (.int y :: .int x :: st) h := by
  obtain ⟨hd, rfl⟩ := hd
  exact fun H locs ls a b c => lv_iadd C.1 C.2.1 hd (k H locs ls a b c)
theorem y_isub {x y : Int32} (C : qC X G cc nL own d) (hd : qd cc pc (.isub) 1 pc') (k : Y X G nL kc ks pc' lv (.int (x - y) :: st) h) : Y X G nL kc ks pc lv (.int y :: .int x :: st) h := by
  obtain ⟨hd, rfl⟩ := hd
  exact fun H locs ls a b c => lv_isub C.1 C.2.1 hd (k H locs ls a b c)
theorem y_imul {x y : Int32} (C : qC X G cc nL own d) (hd : qd cc pc (.imul) 1 pc') (k : Y X G nL kc ks pc' lv (.int (x * y) :: st) h) : Y X G nL kc ks pc lv (.int y :: .int x :: st) h := by
  obtain ⟨hd, rfl⟩ := hd
  exact fun H locs ls a b c => lv_imul C.1 C.2.1 hd (k H locs ls a b c)
theorem y_iand {x y : Int32} (C : qC X G cc nL own d) (hd : qd cc pc (.iand) 1 pc') (k : Y X G nL kc ks pc' lv (.int (x &&& y) :: st) h) : Y X G nL kc ks pc lv (.int y :: .int x :: st) h := by
  obtain ⟨hd, rfl⟩ := hd
  exact fun H locs ls a b c => lv_iand C.1 C.2.1 hd (k H locs ls a b c)
theorem y_ior {x y : Int32} (C : qC X G cc nL own d) (hd : qd cc pc (.ior) 1 pc') (k : Y X G nL kc ks pc' lv (.int (x ||| y) :: st) h) : Y X G nL kc ks pc lv (.int y :: .int x :: st) h := by
  obtain ⟨hd, rfl⟩ := hd
  exact fun H locs ls a b c => lv_ior C.1 C.2.1 hd (k H locs ls a b c)
theorem y_ixor {x y : Int32} (C : qC X G cc nL own d) (hd : qd cc pc (.ixor) 1 pc') (k : Y X G nL kc ks pc' lv (.int (x ^^^ y) :: st) h) : Y X G nL kc ks pc lv (.int y :: .int x :: st) h := by
  obtain ⟨hd, rfl⟩ := hd
  exact fun H locs ls a b c => lv_ixor C.1 C.2.1 hd (k H locs ls a b c)
theorem y_ishl {x y : Int32} (C : qC X G cc nL own d) (hd : qd cc pc (.ishl) 1 pc') (k : Y X G nL kc ks pc' lv (.int (x <<< (y &&& 31)) :: st) h) : Y X G nL kc ks pc lv (.int y :: .int x :: st) h := by
  obtain ⟨hd, rfl⟩ := hd
  exact fun H locs ls a b c => lv_ishl C.1 C.2.1 hd (k H locs ls a b c)
theorem y_ishr {x y : Int32} (C : qC X G cc nL own d) (hd : qd cc pc (.ishr) 1 pc') (k : Y X G nL kc ks pc' lv (.int (x >>> (y &&& 31)) :: st) h) : Y X G nL kc ks pc lv (.int y :: .int x :: st) h := by
  obtain ⟨hd, rfl⟩ := hd
  exact fun H locs ls a b c => lv_ishr C.1 C.2.1 hd (k H locs ls a b c)
theorem y_iushr {x y : Int32} (C : qC X G cc nL own d) (hd : qd cc pc (.iushr) 1 pc') (k : Y X G nL kc ks pc' lv (.int ((x.toUInt32 >>> (y.toUInt32 &&& Int32.toUInt32 31)).toInt32) :: st) h) : Y X G nL kc ks pc lv (.int y :: .int x :: st) h := by
  obtain ⟨hd, rfl⟩ := hd
  exact fun H locs ls a b c => lv_iushr C.1 C.2.1 hd rfl (k H locs ls a b c)
theorem y_idiv {x y : Int32} (C : qC X G cc nL own d) (hd : qd cc pc (.idiv) 1 pc') (hne : ¬ y = 0) (k : Y X G nL kc ks pc' lv (.int (x / y) :: st) h) : Y X G nL kc ks pc lv (.int y :: .int x :: st) h := by
  obtain ⟨hd, rfl⟩ := hd
  exact fun H locs ls a b c => lv_idiv C.1 C.2.1 hd hne (k H locs ls a b c)
theorem y_irem {x y : Int32} (C : qC X G cc nL own d) (hd : qd cc pc (.irem) 1 pc') (hne : ¬ y = 0) (k : Y X G nL kc ks pc' lv (.int (x - x / y * y) :: st) h) : Y X G nL kc ks pc lv (.int y :: .int x :: st) h := by
  obtain ⟨hd, rfl⟩ := hd
  exact fun H locs ls a b c => lv_irem C.1 C.2.1 hd hne (k H locs ls a b c)
theorem y_ineg {x : Int32} (C : qC X G cc nL own d) (hd : qd cc pc (.ineg) 1 pc') (k : Y X G nL kc ks pc' lv (.int (-x) :: st) h) : Y X G nL kc ks pc lv (.int x :: st) h := by
  obtain ⟨hd, rfl⟩ := hd
  exact fun H locs ls a b c => lv_ineg C.1 C.2.1 hd (k H locs ls a b c)
theorem y_ladd {x y : Int64} (C : qC X G cc nL own d) (hd : qd cc pc (.ladd) 1 pc') (k : Y X G nL kc ks pc' lv (.long (x + y) :: st) h) : Y X G nL kc ks pc lv (.long y :: .long x :: st) h := by
  obtain ⟨hd, rfl⟩ := hd
  exact fun H locs ls a b c => lv_ladd C.1 C.2.1 hd (k H locs ls a b c)
theorem y_lsub {x y : Int64} (C : qC X G cc nL own d) (hd : qd cc pc (.lsub) 1 pc') (k : Y X G nL kc ks pc' lv (.long (x - y) :: st) h) : Y X G nL kc ks pc lv (.long y :: .long x :: st) h := by
  obtain ⟨hd, rfl⟩ := hd
  exact fun H locs ls a b c => lv_lsub C.1 C.2.1 hd (k H locs ls a b c)
theorem y_lmul {x y : Int64} (C : qC X G cc nL own d) (hd : qd cc pc (.lmul) 1 pc') (k : Y X G nL kc ks pc' lv (.long (x * y) :: st) h) : Y X G nL kc ks pc lv (.long y :: .long x :: st) h := by
  obtain ⟨hd, rfl⟩ := hd
  exact fun H locs ls a b c => lv_lmul C.1 C.2.1 hd (k H locs ls a b c)
theorem y_ldiv {x y : Int64} (C : qC X G cc nL own d) (hd : qd cc pc (.ldiv) 1 pc') (hne : ¬ y = 0) (k : Y X G nL kc ks pc' lv (.long (x / y) :: st) h) : Y X G nL kc ks pc lv (.long y :: .long x :: st) h := by
  obtain ⟨hd, rfl⟩ := hd
  exact fun H locs ls a b c => lv_ldiv C.1 C.2.1 hd hne (k H locs ls a b c)
theorem y_lrem {x y : Int64} (C : qC X G cc nL own d) (hd : qd cc pc (.lrem) 1 pc') (hne : ¬ y = 0) (k : Y X G nL kc ks pc' lv (.long (x - x / y * y) :: st) h) : Y X G nL kc ks pc lv (.long y :: .long x :: st) h := by
  obtain ⟨hd, rfl⟩ := hd
  exact fun H locs ls a b c => lv_lrem C.1 C.2.1 hd hne (k H locs ls a b c)
theorem y_i2l {x : Int32} (C : qC X G cc nL own d) (hd : qd cc pc (.i2l) 1 pc') (k : Y X G nL kc ks pc' lv (.long x.toInt64 :: st) h) : Y X G nL kc ks pc lv (.int x :: st) h := by
  obtain ⟨hd, rfl⟩ := hd
  exact fun H locs ls a b c => lv_i2l C.1 C.2.1 hd rfl (k H locs ls a b c)
theorem y_l2i {x : Int64} (C : qC X G cc nL own d) (hd : qd cc pc (.l2i) 1 pc') (k : Y X G nL kc ks pc' lv (.int x.toInt32 :: st) h) : Y X G nL kc ks pc lv (.long x :: st) h := by
  obtain ⟨hd, rfl⟩ := hd
  exact fun H locs ls a b c => lv_l2i C.1 C.2.1 hd rfl (k H locs ls a b c)
theorem y_i2b {x : Int32} (C : qC X G cc nL own d) (hd : qd cc pc (.i2b) 1 pc') (k : Y X G nL kc ks pc' lv (.int x.toInt8.toInt32 :: st) h) : Y X G nL kc ks pc lv (.int x :: st) h := by
  obtain ⟨hd, rfl⟩ := hd
  exact fun H locs ls a b c => lv_i2b C.1 C.2.1 hd rfl (k H locs ls a b c)
theorem y_i2s {x : Int32} (C : qC X G cc nL own d) (hd : qd cc pc (.i2s) 1 pc') (k : Y X G nL kc ks pc' lv (.int x.toInt16.toInt32 :: st) h) : Y X G nL kc ks pc lv (.int x :: st) h := by
  obtain ⟨hd, rfl⟩ := hd
  exact fun H locs ls a b c => lv_i2s C.1 C.2.1 hd rfl (k H locs ls a b c)
theorem y_dup {va : Value} (C : qC X G cc nL own d) (hd : qd cc pc (.dup) 1 pc') (hva : va.category = 1) (k : Y X G nL kc ks pc' lv (va :: va :: st) h) : Y X G nL kc ks pc lv (va :: st) h := by
  obtain ⟨hd, rfl⟩ := hd
  exact fun H locs ls a b c => lv_dup C.1 C.2.1 hd hva (k H locs ls a b c)
theorem y_pop {va : Value} (C : qC X G cc nL own d) (hd : qd cc pc (.pop) 1 pc') (hva : va.category = 1) (k : Y X G nL kc ks pc' lv (st) h) : Y X G nL kc ks pc lv (va :: st) h := by
  obtain ⟨hd, rfl⟩ := hd
  exact fun H locs ls a b c => lv_pop C.1 C.2.1 hd hva (k H locs ls a b c)
theorem y_dup2 {va vb : Value} (C : qC X G cc nL own d) (hd : qd cc pc (.dup2) 1 pc') (hva : va.category = 1) (hvb : vb.category = 1) (k : Y X G nL kc ks pc' lv (va :: vb :: va :: vb :: st) h) : Y X G nL kc ks pc lv (va :: vb :: st) h := by
  obtain ⟨hd, rfl⟩ := hd
  exact fun H locs ls a b c => lv_dup2_11 C.1 C.2.1 hd hva hvb (k H locs ls a b c)
def qj (cc : ByteArray) (pc : Nat) (i : Instr) (off : Int) (pc' tgt : Nat) : Prop := decode cc pc = .ok (i, 3) ∧ pc + 3 = pc' ∧ (pc : Int) + off = (tgt : Int)
theorem y_if_eq {x : Int32} {off : Int} {tgt : Nat} {P : Prop} (C : qC X G cc nL own d) (hd : qj cc pc (.ifCond .eq off) off pc' tgt) (hP : x = 0 ↔ P) (kt : P → Y X G nL kc ks tgt lv st h) (kf : ¬ P → Y X G nL kc ks pc' lv st h) : Y X G nL kc ks pc lv (.int x :: st) h := by
  obtain ⟨hd, rfl, ht⟩ := hd
  exact fun H locs ls a b c => lv_if_eq C.1 C.2.1 hd ht (fun q => kt (hP.mp q) H locs ls a b c) (fun q => kf (fun z => q (hP.mpr z)) H locs ls a b c)
theorem y_icmp_eq {x y : Int32} {off : Int} {tgt : Nat} {P : Prop} (C : qC X G cc nL own d) (hd : qj cc pc (.if_icmp .eq off) off pc' tgt) (hP : x = y ↔ P) (kt : P → Y X G nL kc ks tgt lv st h) (kf : ¬ P → Y X G nL kc ks pc' lv st h) : Y X G nL kc ks pc lv (.int y :: .int x :: st) h := by
  obtain ⟨hd, rfl, ht⟩ := hd
  exact fun H locs ls a b c => lv_icmp_eq C.1 C.2.1 hd ht (fun q => kt (hP.mp q) H locs ls a b c) (fun q => kf (fun z => q (hP.mpr z)) H locs ls a b c)
theorem y_if_ne {x : Int32} {off : Int} {tgt : Nat} {P : Prop} (C : qC X G cc nL own d) (hd : qj cc pc (.ifCond .ne off) off pc' tgt) (hP : x = 0 ↔ P) (kt : ¬ P → Y X G nL kc ks tgt lv st h) (kf : P → Y X G nL kc ks pc' lv st h) : Y X G nL kc ks pc lv (.int x :: st) h := by
  obtain ⟨hd, rfl, ht⟩ := hd
  exact fun H locs ls a b c => lv_if_ne C.1 C.2.1 hd ht (fun q => kt (fun z => q (hP.mpr z)) H locs ls a b c) (fun q => kf (hP.mp q) H locs ls a b c)
theorem y_icmp_ne {x y : Int32} {off : Int} {tgt : Nat} {P : Prop} (C : qC X G cc nL own d) (hd : qj cc pc (.if_icmp .ne off) off pc' tgt) (hP : x = y ↔ P) (kt : ¬ P → Y X G nL kc ks tgt lv st h) (kf : P → Y X G nL kc ks pc' lv st h) : Y X G nL kc ks pc lv (.int y :: .int x :: st) h := by
  obtain ⟨hd, rfl, ht⟩ := hd
  exact fun H locs ls a b c => lv_icmp_ne C.1 C.2.1 hd ht (fun q => kt (fun z => q (hP.mpr z)) H locs ls a b c) (fun q => kf (hP.mp q) H locs ls a b c)
theorem y_if_lt {x : Int32} {off : Int} {tgt : Nat} {P : Prop} (C : qC X G cc nL own d) (hd : qj cc pc (.ifCond .lt off) off pc' tgt) (hP : x < 0 ↔ P) (kt : P → Y X G nL kc ks tgt lv st h) (kf : ¬ P → Y X G nL kc ks pc' lv st h) : Y X G nL kc ks pc lv (.int x :: st) h := by
  obtain ⟨hd, rfl, ht⟩ := hd
  exact fun H locs ls a b c => lv_if_lt C.1 C.2.1 hd ht (fun q => kt (hP.mp q) H locs ls a b c) (fun q => kf (fun z => q (hP.mpr z)) H locs ls a b c)
theorem y_icmp_lt {x y : Int32} {off : Int} {tgt : Nat} {P : Prop} (C : qC X G cc nL own d) (hd : qj cc pc (.if_icmp .lt off) off pc' tgt) (hP : x < y ↔ P) (kt : P → Y X G nL kc ks tgt lv st h) (kf : ¬ P → Y X G nL kc ks pc' lv st h) : Y X G nL kc ks pc lv (.int y :: .int x :: st) h := by
  obtain ⟨hd, rfl, ht⟩ := hd
  exact fun H locs ls a b c => lv_icmp_lt C.1 C.2.1 hd ht (fun q => kt (hP.mp q) H locs ls a b c) (fun q => kf (fun z => q (hP.mpr z)) H locs ls a b c)
theorem y_if_ge {x : Int32} {off : Int} {tgt : Nat} {P : Prop} (C : qC X G cc nL own d) (hd : qj cc pc (.ifCond .ge off) off pc' tgt) (hP : 0 ≤ x ↔ P) (kt : P → Y X G nL kc ks tgt lv st h) (kf : ¬ P → Y X G nL kc ks pc' lv st h) : Y X G nL kc ks pc lv (.int x :: st) h := by
  obtain ⟨hd, rfl, ht⟩ := hd
  exact fun H locs ls a b c => lv_if_ge C.1 C.2.1 hd ht (fun q => kt (hP.mp q) H locs ls a b c) (fun q => kf (fun z => q (hP.mpr z)) H locs ls a b c)
theorem y_icmp_ge {x y : Int32} {off : Int} {tgt : Nat} {P : Prop} (C : qC X G cc nL own d) (hd : qj cc pc (.if_icmp .ge off) off pc' tgt) (hP : y ≤ x ↔ P) (kt : P → Y X G nL kc ks tgt lv st h) (kf : ¬ P → Y X G nL kc ks pc' lv st h) : Y X G nL kc ks pc lv (.int y :: .int x :: st) h := by
  obtain ⟨hd, rfl, ht⟩ := hd
  exact fun H locs ls a b c => lv_icmp_ge C.1 C.2.1 hd ht (fun q => kt (hP.mp q) H locs ls a b c) (fun q => kf (fun z => q (hP.mpr z)) H locs ls a b c)
theorem y_if_gt {x : Int32} {off : Int} {tgt : Nat} {P : Prop} (C : qC X G cc nL own d) (hd : qj cc pc (.ifCond .gt off) off pc' tgt) (hP : 0 < x ↔ P) (kt : P → Y X G nL kc ks tgt lv st h) (kf : ¬ P → Y X G nL kc ks pc' lv st h) : Y X G nL kc ks pc lv (.int x :: st) h := by
  obtain ⟨hd, rfl, ht⟩ := hd
  exact fun H locs ls a b c => lv_if_gt C.1 C.2.1 hd ht (fun q => kt (hP.mp q) H locs ls a b c) (fun q => kf (fun z => q (hP.mpr z)) H locs ls a b c)
theorem y_icmp_gt {x y : Int32} {off : Int} {tgt : Nat} {P : Prop} (C : qC X G cc nL own d) (hd : qj cc pc (.if_icmp .gt off) off pc' tgt) (hP : y < x ↔ P) (kt : P → Y X G nL kc ks tgt lv st h) (kf : ¬ P → Y X G nL kc ks pc' lv st h) : Y X G nL kc ks pc lv (.int y :: .int x :: st) h := by
  obtain ⟨hd, rfl, ht⟩ := hd
  exact fun H locs ls a b c => lv_icmp_gt C.1 C.2.1 hd ht (fun q => kt (hP.mp q) H locs ls a b c) (fun q => kf (fun z => q (hP.mpr z)) H locs ls a b c)
theorem y_if_le {x : Int32} {off : Int} {tgt : Nat} {P : Prop} (C : qC X G cc nL own d) (hd : qj cc pc (.ifCond .le off) off pc' tgt) (hP : x ≤ 0 ↔ P) (kt : P → Y X G nL kc ks tgt lv st h) (kf : ¬ P → Y X G nL kc ks pc' lv st h) : Y X G nL kc ks pc lv (.int x :: st) h := by
  obtain ⟨hd, rfl, ht⟩ := hd
  exact fun H locs ls a b c => lv_if_le C.1 C.2.1 hd ht (fun q => kt (hP.mp q) H locs ls a b c) (fun q => kf (fun z => q (hP.mpr z)) H locs ls a b c)
theorem y_icmp_le {x y : Int32} {off : Int} {tgt : Nat} {P : Prop} (C : qC X G cc nL own d) (hd : qj cc pc (.if_icmp .le off) off pc' tgt) (hP : x ≤ y ↔ P) (kt : P → Y X G nL kc ks tgt lv st h) (kf : ¬ P → Y X G nL kc ks pc' lv st h) : Y X G nL kc ks pc lv (.int y :: .int x :: st) h := by
  obtain ⟨hd, rfl, ht⟩ := hd
  exact fun H locs ls a b c => lv_icmp_le C.1 C.2.1 hd ht (fun q => kt (hP.mp q) H locs ls a b c) (fun q => kf (fun z => q (hP.mpr z)) H locs ls a b c)
theorem y_goto {off : Int} {tgt : Nat} (C : qC X G cc nL own d) (hd : qj cc pc (.goto off) off pc' tgt) (k : Y X G nL kc ks tgt lv st h) : Y X G nL kc ks pc lv st h := by
  obtain ⟨hd, rfl, ht⟩ := hd
  exact fun H locs ls a b c => lv_goto C.1 C.2.1 hd ht (k H locs ls a b c)
theorem y_lookup {dflt off : Int} {ps : Array (Int × Int)} {len tgt : Nat} {x : Int32} (C : qC X G cc nL own d) (hd : qd cc pc (.lookupswitch dflt ps) len pc') (hp : (ps.toList.zip (ps.toList.drop 1)).all (fun (a, next) => a.1 < next.1) = true) (ho : Op.lookupswitch.offset ps.toList dflt x.toInt = off) (ht : (pc : Int) + off = (tgt : Int)) (k : Y X G nL kc ks tgt lv st h) : Y X G nL kc ks pc lv (.int x :: st) h :=
  fun H locs ls a b c => lv_lookup C.1 C.2.1 hd.1 hp ho ht (k H locs ls a b c)
theorem y_tabOut {dflt lo hi : Int} {offs : Array Int} {len tgt : Nat} {x : Int32} (C : qC X G cc nL own d) (hd : qd cc pc (.tableswitch dflt lo hi offs) len pc') (hx : x.toInt < lo ∨ hi < x.toInt) (ht : (pc : Int) + dflt = (tgt : Int)) (k : Y X G nL kc ks tgt lv st h) : Y X G nL kc ks pc lv (.int x :: st) h :=
  fun H locs ls a b c => lv_tableOut C.1 C.2.1 hd.1 hx ht (k H locs ls a b c)
theorem y_tabIn {dflt lo hi off : Int} {offs : Array Int} {len tgt : Nat} {x : Int32} (C : qC X G cc nL own d) (hd : qd cc pc (.tableswitch dflt lo hi offs) len pc') (h1 : ¬ x.toInt < lo) (h2 : ¬ hi < x.toInt) (ho : offs[(x.toInt - lo).toNat]? = some off) (ht : (pc : Int) + off = (tgt : Int)) (k : Y X G nL kc ks tgt lv st h) : Y X G nL kc ks pc lv (.int x :: st) h :=
  fun H locs ls a b c => lv_tableIn C.1 C.2.1 hd.1 h1 h2 ho ht (k H locs ls a b c)
theorem y_lcmp {x y : Int64} (C : qC X G cc nL own d) (hd : qd cc pc (.lcmp) 1 pc') (k : Y X G nL kc ks pc' lv (.int (lg_cmp x y) :: st) h) : Y X G nL kc ks pc lv (.long y :: .long x :: st) h := by
  obtain ⟨hd, rfl⟩ := hd
  exact fun H locs ls a b c => W.lcmp C.1 C.2.1 hd (k H locs ls a b c)
theorem y_ldc {idx : Nat} {v : Int32} (C : qC X G cc nL own d) (hd : qd cc pc (.ldc idx) 2 pc') (hw : Cond.constant own idx v ∈ lwg) (k : Y X G nL kc ks pc' lv (.int v :: st) h) : Y X G nL kc ks pc lv st h := by
  obtain ⟨hd, rfl⟩ := hd
  exact fun H locs ls a b c => lv_ldc C.1 C.2.1 C.2.2.2.1 (C.2.2.2.2.1 _ hw) hd (k H locs ls a b c)
theorem y_ldcw {idx : Nat} {v : Int32} (C : qC X G cc nL own d) (hd : qd cc pc (.ldc_w idx) 3 pc') (hw : Cond.constant own idx v ∈ lwg) (k : Y X G nL kc ks pc' lv (.int v :: st) h) : Y X G nL kc ks pc lv st h := by
  obtain ⟨hd, rfl⟩ := hd
  exact fun H locs ls a b c => lv_ldcw C.1 C.2.1 C.2.2.2.1 (C.2.2.2.2.1 _ hw) hd (k H locs ls a b c)
theorem y_ldc2 {idx : Nat} {v : Int64} (C : qC X G cc nL own d) (hd : qd cc pc (.ldc2_w idx) 3 pc') (hw : Cond.constantLong own idx v ∈ lwg) (k : Y X G nL kc ks pc' lv (.long v :: st) h) : Y X G nL kc ks pc lv st h := by
  obtain ⟨hd, rfl⟩ := hd
  exact fun H locs ls a b c => lv_ldc2 C.1 C.2.1 C.2.2.2.1 (C.2.2.2.2.1 _ hw) hd (k H locs ls a b c)
/-- a field's link: entry idx of own's pool is field k of the class ci -/
def qfl (own : String) (idx ci k : Nat) (ty : FieldType) (fin : Bool) : Prop := ∃ (D : String) (T : u_T) (N : Nat) (ty0 : Nat → FieldType), vwCl[ci]? = some (D, T, N) ∧ k < N ∧ (∀ w ∈ u_ws D T N, w ∈ lwg) ∧ (∀ k, k < N → parseFieldDescriptor (T k).2.2.1 = some (ty0 k)) ∧ (∀ a, a < N → ∀ b, b < N → a ≠ b → (T a).2.1 ≠ (T b).2.1) ∧ Cond.fieldLink own idx (T k).1 (T k).2.1 (T k).2.2.1 ∈ lwg ∧ parseFieldDescriptor (T k).2.2.1 = some ty ∧ (T k).2.2.2 = fin ∧ (T k).1 = D
theorem y_get {idx a ci k : Nat} {fs : List Value} {v : Value} {ty : FieldType} {fin : Bool} (C : qC X G cc nL own d) (hd : qd cc pc (.getfield idx) 3 pc') (hf : qfl own idx ci k ty fin) (hl : h[a]? = some (.inr (ci, fs))) (hv : fs[k]? = some v) (kk : Y X G nL kc ks pc' lv (v :: st) h) : Y X G nL kc ks pc lv (qr G a :: st) h := by
  obtain ⟨hd, rfl⟩ := hd
  obtain ⟨D, T, N, ty0, f1, f2, f3, f4, f5, f6, f7, f8, f9⟩ := hf
  exact fun H locs ls a b c => va_get C.1 C.2.1 C.2.2.2.2.1 f3 C.2.2.2.1 C.2.2.2.2.2.2.2.1.1 a _ (qw_at hl) f1 k f2 (C.2.2.2.2.1 _ f6) (fun _ h => h) hv hd (kk H locs ls a b c)
theorem y_put {idx a ci k : Nat} {fs : List Value} {v : Value} {ty : FieldType} {h' : List va_E} (C : qC X G cc nL own d) (hd : qd cc pc (.putfield idx) 3 pc') (hf : qfl own idx ci k ty false) (hl : h[a]? = some (.inr (ci, fs))) (hk : k < fs.length) (hn : narrow ty v = v) (hfit : fits ty v = true) (hh : h.set a (.inr (ci, fs.set k v)) = h') (kk : Y X G nL kc ks pc' lv st h') : Y X G nL kc ks pc lv (v :: qr G a :: st) h := by
  obtain ⟨hd, rfl⟩ := hd
  subst hh
  obtain ⟨D, T, N, ty0, f1, f2, f3, f4, f5, f6, f7, f8, f9⟩ := hf
  intro H locs ls e b c
  exact va_put C.1 C.2.1 C.2.2.2.2.1 f3 ty0 f4 f5 C.2.2.2.1 C.2.2.2.2.2.2.2.1.1 e qw_D b _ (qw_at hl) f1 k f2 (C.2.2.2.2.1 _ f6) (fun _ h => h) f8 f7 hn hfit hk hd (fun H1 locs1 p1 p2 p3 => kk H1 locs1 ls (qH_set p1) p3 c)
theorem y_putF {idx a ci k : Nat} {fs : List Value} {v : Value} {ty : FieldType} {h' : List va_E} (C : qC X G cc nL own d) (hd : qd cc pc (.putfield idx) 3 pc') (hf : qfl own idx ci k ty true) (hnm : X.2.2.2.2.2.2.2.2.1.name = "<init>") (hcl : (vwCl[ci]?).map (·.1) = some own) (hl : h[a]? = some (.inr (ci, fs))) (hk : k < fs.length) (hn : narrow ty v = v) (hfit : fits ty v = true) (hh : h.set a (.inr (ci, fs.set k v)) = h') (kk : Y X G nL kc ks pc' lv st h') : Y X G nL kc ks pc lv (v :: qr G a :: st) h := by
  obtain ⟨hd, rfl⟩ := hd
  subst hh
  obtain ⟨D, T, N, ty0, f1, f2, f3, f4, f5, f6, f7, f8, f9⟩ := hf
  rw [f1] at hcl
  have hD : D = own := Option.some.inj hcl
  intro H locs ls e b c
  exact va_putF C.1 C.2.1 C.2.2.2.2.1 f3 ty0 f4 f5 C.2.2.2.1 C.2.2.2.2.2.2.2.1.1 e qw_D b _ (qw_at hl) f1 k f2 (C.2.2.2.2.1 _ f6) (fun _ h => h) f8 hnm (f9.trans hD) f7 hn hfit hk hd (fun H1 locs1 p1 p2 p3 => kk H1 locs1 ls (qH_set p1) p3 c)
theorem y_ild {a n : Nat} {f : Nat → Int32} {i : Int32} (C : qC X G cc nL own d) (hd : qd cc pc (.iaload) 1 pc') (hl : h[a]? = some (qI G n f)) (hin : vp_in i n) (kk : Y X G nL kc ks pc' lv (.int (f i.toNatClampNeg) :: st) h) : Y X G nL kc ks pc lv (.int i :: qr G a :: st) h := by
  obtain ⟨hd, rfl⟩ := hd
  exact fun H locs ls e b c => va_iald C.1 C.2.1 C.2.2.2.2.2.2.2.1.1 e _ 0 (qw_at hl) rfl hin hd (kk H locs ls e b c)
theorem y_zld {a n : Nat} {f : Nat → Int32} {i : Int32} (C : qC X G cc nL own d) (hd : qd cc pc (.baload) 1 pc') (hl : h[a]? = some (qZ G n f)) (hin : vp_in i n) (kk : Y X G nL kc ks pc' lv (.int (f i.toNatClampNeg) :: st) h) : Y X G nL kc ks pc lv (.int i :: qr G a :: st) h := by
  obtain ⟨hd, rfl⟩ := hd
  exact fun H locs ls e b c => va_zald C.1 C.2.1 C.2.2.2.2.2.2.2.1.1 e _ 1 (qw_at hl) rfl hin hd (kk H locs ls e b c)
theorem y_ist {a n : Nat} {f : Nat → Int32} {i x : Int32} {h' : List va_E} (C : qC X G cc nL own d) (hd : qd cc pc (.iastore) 1 pc') (hl : h[a]? = some (qI G n f)) (hin : vp_in i n) (hh : h.set a (qI G n (upd f i.toNatClampNeg x)) = h') (kk : Y X G nL kc ks pc' lv st h') : Y X G nL kc ks pc lv (.int x :: .int i :: qr G a :: st) h := by
  obtain ⟨hd, rfl⟩ := hd
  subst hh
  exact fun H locs ls e b c => va_iast C.1 C.2.1 C.2.2.2.2.2.2.2.1.1 e qw_D b _ 0 (qw_at hl) rfl hin hd (fun H1 locs1 p1 p2 p3 => kk H1 locs1 ls (qH_set p1) p3 c)
theorem y_zst {a n : Nat} {f : Nat → Int32} {i x : Int32} {h' : List va_E} (C : qC X G cc nL own d) (hd : qd cc pc (.bastore) 1 pc') (hl : h[a]? = some (qZ G n f)) (hin : vp_in i n) (hh : h.set a (qZ G n (upd f i.toNatClampNeg (vp_nar .boolean x))) = h') (kk : Y X G nL kc ks pc' lv st h') : Y X G nL kc ks pc lv (.int x :: .int i :: qr G a :: st) h := by
  obtain ⟨hd, rfl⟩ := hd
  subst hh
  exact fun H locs ls e b c => va_zast C.1 C.2.1 C.2.2.2.2.2.2.2.1.1 e qw_D b _ 1 (qw_at hl) rfl hin hd (fun H1 locs1 p1 p2 p3 => kk H1 locs1 ls (qH_set p1) p3 c)
theorem y_ald {a n t0 : Nat} {E : String} {cA : ClassId} {f : Nat → Option Nat} {i : Int32} {v : Value} (C : qC X G cc nL own d) (hd : qd cc pc (.aaload) 1 pc') (hl : h[a]? = some (.inl (cA, n, .inr (.inr (.inr (.inr f)))))) (ht : (qT G)[t0]? = some (cA, .object E)) (hin : vp_in i n) (hv : va_rf (f i.toNatClampNeg) = v) (kk : Y X G nL kc ks pc' lv (v :: st) h) : Y X G nL kc ks pc lv (.int i :: qr G a :: st) h := by
  obtain ⟨hd, rfl⟩ := hd
  subst hv
  exact fun H locs ls e b c => va_aldq C.1 C.2.1 C.2.2.2.2.2.2.2.1.1 e _ t0 (qw_at hl) ht hin hd (kk H locs ls e b c)
theorem y_ast {a n t0 v ci : Nat} {E : String} {T : u_T} {N : Nat} {cA : ClassId} {f : Nat → Option Nat} {i : Int32} {fs : List Value} {h' : List va_E} (C : qC X G cc nL own d) (hd : qd cc pc (.aastore) 1 pc') (hl : h[a]? = some (.inl (cA, n, .inr (.inr (.inr (.inr f)))))) (ht : (qT G)[t0]? = some (cA, .object E)) (hv : h[v]? = some (.inr (ci, fs))) (hc : vwCl[ci]? = some (E, T, N)) (hin : vp_in i n) (hh : h.set a (.inl (cA, n, .inr (.inr (.inr (.inr (va_up f i.toNatClampNeg (some (G.2 4 + v)))))))) = h') (kk : Y X G nL kc ks pc' lv st h') : Y X G nL kc ks pc lv (qr G v :: .int i :: qr G a :: st) h := by
  obtain ⟨hd, rfl⟩ := hd
  subst hh
  exact fun H locs ls e b c => va_astq C.1 C.2.1 C.2.2.2.2.2.2.2.1.1 e qw_D b _ t0 _ ci (qw_at hl) ht (qw_at hv) hc hin hd (fun H1 locs1 p1 p2 p3 => kk H1 locs1 ls (qH_set p1) p3 c)
theorem y_alen {a t0 : Nat} {cA : ClassId} {x : vp_A} {ty : FieldType} {v : Int32} (C : qC X G cc nL own d) (hd : qd cc pc (.arraylength) 1 pc') (hl : h[a]? = some (.inl (cA, x))) (ht : (qT G)[t0]? = some (cA, ty)) (hv : Int32.ofNat x.1 = v) (kk : Y X G nL kc ks pc' lv (.int v :: st) h) : Y X G nL kc ks pc lv (qr G a :: st) h := by
  obtain ⟨hd, rfl⟩ := hd
  exact fun H locs ls e b c => va_alen C.1 C.2.1 C.2.2.2.2.2.2.2.1.1 e _ t0 (qw_at hl) ht hv hd (kk H locs ls e b c)
theorem y_copy {idx a b n0 n1 : Nat} {f g : Nat → Int32} {sp dp n : Int32} {h' : List va_E} (C : qC X G cc nL own d) (hd : qd cc pc (.invokestatic idx) 3 pc') (hw : Cond.methodLink own idx arraycopyName ∈ lwg) (hl0 : h[a]? = some (qI G n0 f)) (hl1 : h[b]? = some (qI G n1 g)) (h1 : ¬ sp < 0) (h2 : ¬ dp < 0) (h3 : ¬ n < 0) (h4 : sp.toNatClampNeg + n.toNatClampNeg ≤ n0) (h5 : dp.toNatClampNeg + n.toNatClampNeg ≤ n1) (hdep : 1 ≤ d) (hst : (st.map fun v => v.category).sum ≤ 8) (hh : h.set b (qI G n1 (va_cpy f g sp.toNatClampNeg dp.toNatClampNeg n.toNatClampNeg)) = h') (kk : Y X G nL kc ks pc' lv st h') : Y X G nL kc ks pc lv (.int n :: .int dp :: qr G b :: .int sp :: qr G a :: st) h := by
  obtain ⟨hd, rfl⟩ := hd
  subst hh
  have hn : nativeFrameWords "java/lang/System" "arraycopy" 5 + 11 ≤ 32 := by decide +kernel
  exact fun H locs ls e b c => va_copyi C.1 C.2.1 (C.2.2.1.trans c.1.symm) C.2.2.2.1 (C.2.2.2.2.1 _ hw) (C.2.2.2.2.1 _ (by decide +kernel)) (C.2.2.2.2.1 _ (by decide +kernel)) (C.2.2.2.2.1 _ (by decide +kernel)) C.2.2.2.2.2.2.2.1.1 e qw_D b _ _ 0 0 (qw_at hl0) (qw_at hl1) rfl rfl rfl h1 h2 h3 h4 h5 (fun i _ => rfl) (Nat.le_trans hdep C.2.2.2.2.2.1) (Nat.le_trans (Nat.le_trans (Nat.add_le_add hst hn) (by omega)) C.2.2.2.2.2.2.1) hd (fun H1 locs1 p1 p2 p3 => kk H1 locs1 ls (qH_set p1) p3 c)
theorem y_tabS {idx : Nat} (C : qC X G cc nL own d) (hd : qd cc pc (.getstatic idx) 3 pc') (hw : Cond.fieldLink own idx "DreamGraves$Asker" "SIZE_BODIES" "[I" ∈ lwg) (kk : Y X G nL kc ks pc' lv (.ref (G.2 5) :: st) h) : Y X G nL kc ks pc lv st h := by
  obtain ⟨hd, rfl⟩ := hd
  exact fun H locs ls e b c => va_gets C.1 C.2.1 C.2.2.2.2.2.2.2.1.2.2.2.2.1 b C.2.2.2.1 (C.2.2.2.2.1 _ hw) (fun _ h => h) hd (kk H locs ls e b c)
theorem y_tabM {idx : Nat} (C : qC X G cc nL own d) (hd : qd cc pc (.getstatic idx) 3 pc') (hw : Cond.fieldLink own idx "DreamGraves$Asker" "MARK_BODIES" "[I" ∈ lwg) (kk : Y X G nL kc ks pc' lv (.ref (G.2 6) :: st) h) : Y X G nL kc ks pc lv st h := by
  obtain ⟨hd, rfl⟩ := hd
  exact fun H locs ls e b c => va_gets C.1 C.2.1 C.2.2.2.2.2.2.2.1.2.2.2.2.2.2.1 b C.2.2.2.1 (C.2.2.2.2.1 _ hw) (fun _ h => h) hd (kk H locs ls e b c)
theorem y_tldS {i : Int32} {v : Value} (C : qC X G cc nL own d) (hd : qd cc pc (.iaload) 1 pc') (hin : vp_in i 6) (hv : qtS i.toNatClampNeg = v) (kk : Y X G nL kc ks pc' lv (v :: st) h) : Y X G nL kc ks pc lv (.int i :: .ref (G.2 5) :: st) h := by
  obtain ⟨hd, rfl⟩ := hd
  exact fun H locs ls e b c => va_ti C.1 C.2.1 C.2.2.2.2.2.2.2.1.2.2.2.2.2.1 b hin hv hd (kk H locs ls e b c)
theorem y_tldM {i : Int32} {v : Value} (C : qC X G cc nL own d) (hd : qd cc pc (.iaload) 1 pc') (hin : vp_in i 6) (hv : qtM i.toNatClampNeg = v) (kk : Y X G nL kc ks pc' lv (v :: st) h) : Y X G nL kc ks pc lv (.int i :: .ref (G.2 6) :: st) h := by
  obtain ⟨hd, rfl⟩ := hd
  exact fun H locs ls e b c => va_ti C.1 C.2.1 C.2.2.2.2.2.2.2.1.2.2.2.2.2.2.2 b hin hv hd (kk H locs ls e b c)
theorem q_end {H : Heap} {locs : List Loc} {r : Option Value} {h' : List va_E} (C : qC X G cc nL own d) (e : qH G h H) (b : va_S (qA G) X.2.2.2.2.1.heap H locs) (hh : h = h') : ∀ t : State, t.heap = H → X.2.2.2.2.1.WarmedH t.vm → qQ G r h' X.2.2.2.2.2.2.1 X.2.2.2.2.1 (.returned r) t := by
  intro t ht hW
  subst hh
  refine ⟨rfl, ⟨by rw [ht]; exact e, ?_⟩, b.F ht⟩
  rw [ht]
  exact qF_moved hW (fun a h1 h2 => b.2.1 a h1 h2) C.2.2.2.2.2.2.2.1
theorem y_iret {r : Option Value} {h' : List va_E} {v : Int32} (C : qC X G cc nL own d) (E : qE X G (some .int) kc ks r h') (hd : qd cc pc (.ireturn) 1 pc') (hr : some (.int v) = r) (hh : h = h') : Y X G nL kc ks pc lv [.int v] h := by
  obtain ⟨E1, E2⟩ := E
  subst hr
  intro H locs ls e b c
  rw [E1]
  exact W.iret C.1 C.2.1 E2 (q_end C e b hh) b.2.2 hd.1 C.2.2.2.2.2.2.2.2.2
theorem y_zret {r : Option Value} {h' : List va_E} {v : Int32} (C : qC X G cc nL own d) (E : qE X G (some .boolean) kc ks r h') (hd : qd cc pc (.ireturn) 1 pc') (hn : narrow .boolean (.int v) = .int v) (hr : some (.int v) = r) (hh : h = h') : Y X G nL kc ks pc lv [.int v] h := by
  obtain ⟨E1, E2⟩ := E
  subst hr
  intro H locs ls e b c
  rw [E1]
  exact W.zret C.1 C.2.1 E2 hn (q_end C e b hh) b.2.2 hd.1 C.2.2.2.2.2.2.2.2.2
theorem y_lret {r : Option Value} {h' : List va_E} {v : Int64} (C : qC X G cc nL own d) (E : qE X G (some .long) kc ks r h') (hd : qd cc pc (.lreturn) 1 pc') (hr : some (.long v) = r) (hh : h = h') : Y X G nL kc ks pc lv [.long v] h := by
  obtain ⟨E1, E2⟩ := E
  subst hr
  intro H locs ls e b c
  rw [E1]
  exact W.lret C.1 C.2.1 E2 (q_end C e b hh) b.2.2 hd.1 C.2.2.2.2.2.2.2.2.2
theorem y_vret {h' : List va_E} (C : qC X G cc nL own d) (E : qE X G none kc ks none h') (hd : qd cc pc (.return_) 1 pc') (hh : h = h') : Y X G nL kc ks pc lv [] h := by
  obtain ⟨E1, E2⟩ := E
  intro H locs ls e b c
  rw [E1]
  exact W.vret C.1 C.2.1 E2 (q_end C e b hh) b.2.2 hd.1 C.2.2.2.2.2.2.2.2.2
theorem y_aret {r : Option Value} {h' : List va_E} {v : Nat} {cn : String} (C : qC X G cc nL own d) (E : qE X G (some (.object cn)) kc ks r h') (hd : qd cc pc (.areturn) 1 pc') (hr : some (.ref v) = r) (hh : h = h') : Y X G nL kc ks pc lv [.ref v] h := by
  obtain ⟨E1, E2⟩ := E
  subst hr
  intro H locs ls e b c
  rw [E1]
  exact W.aret C.1 C.2.1 E2 (Or.inl ⟨cn, rfl⟩) (Or.inr ⟨v, rfl⟩) (q_end C e b hh) b.2.2 hd.1 C.2.2.2.2.2.2.2.2.2

end
