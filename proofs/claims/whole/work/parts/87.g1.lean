theorem wrd_i : Cond.arrayClass .int ∈ lwg := (lwg_of (tb1 (List.mem_of_getElem? (i := 85) rfl)) rfl)
theorem wrd_z : Cond.arrayClass .boolean ∈ lwg := (lwg_of (tb4 (List.mem_of_getElem? (i := 69) rfl)) rfl)
theorem wrd_oi : Cond.instanceMethod Lib.objectInit ∈ lwg := (lwg_of (tb1 (List.mem_of_getElem? (i := 18) rfl)) rfl)
theorem wrd_oc : Cond.code Lib.objectInit ⟨#[0xb1]⟩ 1 none ∈ lwg := (lwg_of (tb1 (List.mem_of_getElem? (i := 19) rfl)) rfl)
theorem it_L : Cond.initialized RL ∈ lwg := (lwg_of (tb1 (List.mem_of_getElem? (i := 0) rfl)) rfl)
theorem it_X6 : Cond.initialized RX6 ∈ lwg := (lwg_of (tb1 (List.mem_of_getElem? (i := 1) rfl)) rfl)
theorem it_X4 : Cond.initialized RX4 ∈ lwg := (lwg_of (tb1 (List.mem_of_getElem? (i := 2) rfl)) rfl)
theorem it_X5 : Cond.initialized RX5 ∈ lwg := (lwg_of (tb1 (List.mem_of_getElem? (i := 3) rfl)) rfl)
theorem it_X1 : Cond.initialized RX1 ∈ lwg := (lwg_of (tb1 (List.mem_of_getElem? (i := 4) rfl)) rfl)
theorem it_X3 : Cond.initialized RX3 ∈ lwg := (lwg_of (tb1 (List.mem_of_getElem? (i := 5) rfl)) rfl)
theorem it_X0 : Cond.initialized RX0 ∈ lwg := (lwg_of (tb1 (List.mem_of_getElem? (i := 6) rfl)) rfl)
theorem it_X2 : Cond.initialized RX2 ∈ lwg := (lwg_of (tb1 (List.mem_of_getElem? (i := 7) rfl)) rfl)
theorem it_X7 : Cond.initialized RX7 ∈ lwg := (lwg_of (tb1 (List.mem_of_getElem? (i := 8) rfl)) rfl)
theorem cl_L_7 : Cond.classLink RL 7 RX6 ∈ lwg := (lwg_of (tb1 (List.mem_of_getElem? (i := 12) rfl)) rfl)
theorem im_X6 : Cond.instantiable RX6 8 ∈ lwg := (lwg_of (tb1 (List.mem_of_getElem? (i := 13) rfl)) rfl)
theorem oi_X6 : Cond.methodLink RX6 1 Lib.objectInit ∈ lwg := (lwg_of (tb1 (List.mem_of_getElem? (i := 17) rfl)) rfl)
theorem cl_X6_9 : Cond.classLink RX6 9 RX2 ∈ lwg := (lwg_of (tb1 (List.mem_of_getElem? (i := 20) rfl)) rfl)
theorem cl_X6_15 : Cond.classLink RX6 15 RX4 ∈ lwg := (lwg_of (tb1 (List.mem_of_getElem? (i := 22) rfl)) rfl)
theorem im_X4 : Cond.instantiable RX4 9 ∈ lwg := (lwg_of (tb1 (List.mem_of_getElem? (i := 23) rfl)) rfl)
theorem oi_X4 : Cond.methodLink RX4 3 Lib.objectInit ∈ lwg := (lwg_of (tb1 (List.mem_of_getElem? (i := 27) rfl)) rfl)
theorem cl_X4_9 : Cond.classLink RX4 9 RX5 ∈ lwg := (lwg_of (tb1 (List.mem_of_getElem? (i := 28) rfl)) rfl)
theorem im_X5 : Cond.instantiable RX5 10 ∈ lwg := (lwg_of (tb1 (List.mem_of_getElem? (i := 29) rfl)) rfl)
theorem oi_X5 : Cond.methodLink RX5 3 Lib.objectInit ∈ lwg := (lwg_of (tb1 (List.mem_of_getElem? (i := 33) rfl)) rfl)
theorem cl_X6_22 : Cond.classLink RX6 22 RX5 ∈ lwg := (lwg_of (tb1 (List.mem_of_getElem? (i := 117) rfl)) rfl)
theorem cl_X6_29 : Cond.classLink RX6 29 RX1 ∈ lwg := (lwg_of (tb1 (List.mem_of_getElem? (i := 119) rfl)) rfl)
theorem im_X1 : Cond.instantiable RX1 3 ∈ lwg := (lwg_of (tb1 (List.mem_of_getElem? (i := 120) rfl)) rfl)
theorem oi_X1 : Cond.methodLink RX1 3 Lib.objectInit ∈ lwg := (lwg_of (tb1 (List.mem_of_getElem? (i := 124) rfl)) rfl)
theorem cl_X1_9 : Cond.classLink RX1 9 RX5 ∈ lwg := (lwg_of (tb1 (List.mem_of_getElem? (i := 125) rfl)) rfl)
theorem cl_X6_40 : Cond.classLink RX6 40 RX3 ∈ lwg := (lwg_of (tb1 (List.mem_of_getElem? (i := 139) rfl)) rfl)
theorem im_X3 : Cond.instantiable RX3 4 ∈ lwg := (lwg_of (tb1 (List.mem_of_getElem? (i := 140) rfl)) rfl)
theorem oi_X3 : Cond.methodLink RX3 3 Lib.objectInit ∈ lwg := (lwg_of (tb1 (List.mem_of_getElem? (i := 144) rfl)) rfl)
theorem cl_X3_18 : Cond.classLink RX3 18 RX5 ∈ lwg := (lwg_of (tb1 (List.mem_of_getElem? (i := 145) rfl)) rfl)
theorem cl_X6_47 : Cond.classLink RX6 47 RX0 ∈ lwg := (lwg_of (tb1 (List.mem_of_getElem? (i := 162) rfl)) rfl)
theorem im_X0 : Cond.instantiable RX0 2 ∈ lwg := (lwg_of (tb1 (List.mem_of_getElem? (i := 163) rfl)) rfl)
theorem oi_X0 : Cond.methodLink RX0 3 Lib.objectInit ∈ lwg := (lwg_of (tb1 (List.mem_of_getElem? (i := 167) rfl)) rfl)
theorem im_X2 : Cond.instantiable RX2 3 ∈ lwg := (lwg_of (tb1 (List.mem_of_getElem? (i := 177) rfl)) rfl)
theorem oi_X2 : Cond.methodLink RX2 3 Lib.objectInit ∈ lwg := (lwg_of (tb1 (List.mem_of_getElem? (i := 181) rfl)) rfl)
theorem cl_L_10 : Cond.classLink RL 10 RX7 ∈ lwg := (lwg_of (tb3 (List.mem_of_getElem? (i := 227) rfl)) rfl)
theorem im_X7 : Cond.instantiable RX7 25 ∈ lwg := (lwg_of (tb3 (List.mem_of_getElem? (i := 228) rfl)) rfl)
theorem oi_X7 : Cond.methodLink RX7 1 Lib.objectInit ∈ lwg := (lwg_of (tb3 (List.mem_of_getElem? (i := 232) rfl)) rfl)
/-! new cells -/
section
variable {X : qX} {G : qG} {cc : ByteArray} {nL kc ks pc pc' d d' : Nat} {own : String} {lv : List (Option Value)} {st sk : List Value} {h h' : List va_E} {y : MethodName} {As : List Value}
theorem qw_app {b : Nat} {e : va_E} : qw b (h ++ [e]) = qw b h ++ [(b + h.length, e)] := by
  unfold qw
  rw [List.mapIdx_append]
  show _ ++ [(b + (0 + h.length), e)] = _
  rw [Nat.zero_add]
theorem y_sz {H : Heap} {locs : List Loc} {g : JFrame} (hz : X.2.2.2.2.1.heap.size + kc = G.2 4 + h.length) (hor : h ≠ [] ∨ kc = 0) (b : va_S (qA G) X.2.2.2.2.1.heap H locs) (k : H.size = G.2 4 + h.length → W X.1 X.2.1 X.2.2.1 X.2.2.2.1 X.2.2.2.2.1 X.2.2.2.2.2.1 X.2.2.2.2.2.2.1 X.2.2.2.2.2.2.2.1 X.2.2.2.2.2.2.2.2.1 X.2.2.2.2.2.2.2.2.2.1 H locs kc ks X.2.2.2.2.2.2.2.2.2.2 g) (e : qH G h H) : W X.1 X.2.1 X.2.2.1 X.2.2.2.1 X.2.2.2.2.1 X.2.2.2.2.2.1 X.2.2.2.2.2.2.1 X.2.2.2.2.2.2.2.1 X.2.2.2.2.2.2.2.2.1 X.2.2.2.2.2.2.2.2.2.1 H locs kc ks X.2.2.2.2.2.2.2.2.2.2 g := by
  intro T hT Z
  have h1 := Z.heapSize
  rw [hT] at h1
  have h2 : G.2 4 + h.length ≤ H.size := by
    rcases hor with q | q
    · exact (qH_le e).resolve_left q
    · have := b.1
      omega
  exact k (by omega) T hT Z
/-- a class that can be made -/
def qnw (own : String) (idx ci N : Nat) (fs : List Value) : Prop := ∃ (D : String) (T : u_T) (ty : Nat → FieldType), vwCl[ci]? = some (D, T, N) ∧ (∀ w ∈ u_ws D T N, w ∈ lwg) ∧ (∀ k, k < N → parseFieldDescriptor (T k).2.2.1 = some (ty k)) ∧ Cond.classLink own idx D ∈ lwg ∧ Cond.instantiable D N ∈ lwg ∧ Cond.initialized D ∈ lwg ∧ ∀ j, j < N → defaultValue (ty j) = vp_V fs j
theorem y_new {idx ci N a : Nat} {fs : List Value} (C : qC X G cc nL own d) (hd : qd cc pc (.new idx) 3 pc') (hn : qnw own idx ci N fs) (hz : X.2.2.2.2.1.heap.size + kc = G.2 4 + h.length) (hor : h ≠ [] ∨ kc = 0) (ha : h.length = a) (hc : kc + 1 ≤ X.2.2.2.1.cells ∧ ks + N ≤ X.2.2.2.1.slots) (k : Y X G nL (kc + 1) (ks + N) pc' lv (qr G a :: st) (h ++ [.inr (ci, fs)])) : Y X G nL kc ks pc lv st h := by
  obtain ⟨hd, rfl⟩ := hd
  obtain ⟨D, T, ty, n1, n2, n3, n4, n5, n6, n7⟩ := hn
  subst ha
  have hts := C.2.2.2.2.1
  intro H locs ls e b c
  refine y_sz hz hor b (fun hsz => ?_) e
  have hKn := C.2.2.2.2.2.2.2.1.1.1 ci _ n1
  refine W.newcK C.1 C.2.1 C.2.2.2.1 (hts _ n4) (hts _ n5) (hts _ n6) rfl hd hc.1 hc.2 hKn.2.1 hsz fun H1 kC hkC e1 z1 o1 => ?_
  have hk : ∀ (k : Nat) (x : Nat × va_E), (qw (G.2 4) h)[k]? = some x → H1[x.1]? = H[x.1]? := fun k x hx => o1 x.1 (by have := (e k x hx).lt; omega)
  refine k H1 locs ls ?_ ⟨Nat.le_trans b.1 (by omega), fun x h1 h2 => (o1 x (by have := b.1; omega)).trans (b.2.1 x h1 h2), b.2.2⟩ c
  unfold qH
  rw [qw_app]
  refine (va_P.kept e hk).app (fun k x hx => ?_)
  have hz : k < 1 := (List.getElem?_eq_some_iff.mp hx).1
  rw [show k = 0 by omega] at hx
  cases hx
  exact ⟨_, n1, (u_born ty hts n2 hKn hkC e1 n3).to n7⟩
theorem y_newi {n a : Nat} (C : qC X G cc nL own d) (hd : qd cc pc (.newarray .int) 2 pc') (hz : X.2.2.2.2.1.heap.size + kc = G.2 4 + h.length) (hor : h ≠ [] ∨ kc = 0) (ha : h.length = a) (hn : n < 100000) (hc : kc + 1 ≤ X.2.2.2.1.cells ∧ ks + n ≤ X.2.2.2.1.slots) (k : Y X G nL (kc + 1) (ks + n) pc' lv (qr G a :: st) (h ++ [qI G n (fun _ => 0)])) : Y X G nL kc ks pc lv (.int (nI n) :: st) h := by
  obtain ⟨hd, rfl⟩ := hd
  subst ha
  have hts := C.2.2.2.2.1
  intro H locs ls e b c
  refine y_sz hz hor b (fun hsz => ?_) e
  have hw4 : n * componentBytes (newarray.typeOf .int) ≤ 536870912 := by
    have : componentBytes (newarray.typeOf .int) = 4 := rfl
    rw [this]
    omega
  have hwa : (Cond.arrayClass (newarray.typeOf .int)).before X.2.2.2.2.2.2.1 X.2.2.2.2.1 = true := hts (.arrayClass .int) wrd_i
  refine va_newaK (atype := .int) (N := n) C.1 C.2.1 hwa rfl hd rfl (nI_pos (by omega)) (nI_clamp (by omega)) hw4 hc.1 hc.2 hsz fun H1 cA e1 z1 o1 hAr hNm => ?_
  have hK : X.2.2.2.2.1.vm.findClass ("[" ++ FieldType.int.toString) = some (G.2 0) := (C.2.2.2.2.2.2.2.1.1.2 0 (G.2 0, .int) rfl).2
  have hNm2 : X.2.2.2.2.1.vm.findClass ("[" ++ FieldType.int.toString) = some cA := hNm
  rw [hK] at hNm2
  have hcA := Option.some.inj hNm2
  subst hcA
  have hk : ∀ (k : Nat) (x : Nat × va_E), (qw (G.2 4) h)[k]? = some x → H1[x.1]? = H[x.1]? := fun k x hx => o1 x.1 (by have := (e k x hx).lt; omega)
  refine k H1 locs ls ?_ ⟨Nat.le_trans b.1 (by omega), fun x h1 h2 => (o1 x (by have := b.1; omega)).trans (b.2.1 x h1 h2), b.2.2⟩ c
  unfold qH
  rw [qw_app]
  refine (va_P.kept e hk).app (fun k x hx => ?_)
  have hz : k < 1 := (List.getElem?_eq_some_iff.mp hx).1
  rw [show k = 0 by omega] at hx
  cases hx
  show H1[G.2 4 + h.length]? = some (vp_cell (G.2 0) (n, .inl (fun _ => 0)))
  rw [vp_cell_i]
  exact e1
theorem y_newz {n a : Nat} (C : qC X G cc nL own d) (hd : qd cc pc (.newarray .boolean) 2 pc') (hz : X.2.2.2.2.1.heap.size + kc = G.2 4 + h.length) (hor : h ≠ [] ∨ kc = 0) (ha : h.length = a) (hn : n < 100000) (hc : kc + 1 ≤ X.2.2.2.1.cells ∧ ks + n ≤ X.2.2.2.1.slots) (k : Y X G nL (kc + 1) (ks + n) pc' lv (qr G a :: st) (h ++ [qZ G n (fun _ => 0)])) : Y X G nL kc ks pc lv (.int (nI n) :: st) h := by
  obtain ⟨hd, rfl⟩ := hd
  subst ha
  have hts := C.2.2.2.2.1
  intro H locs ls e b c
  refine y_sz hz hor b (fun hsz => ?_) e
  have hw4 : n * componentBytes (newarray.typeOf .boolean) ≤ 536870912 := by
    have : componentBytes (newarray.typeOf .boolean) = 1 := rfl
    rw [this]
    omega
  have hwa : (Cond.arrayClass (newarray.typeOf .boolean)).before X.2.2.2.2.2.2.1 X.2.2.2.2.1 = true := hts (.arrayClass .boolean) wrd_z
  refine va_newaK (atype := .boolean) (N := n) C.1 C.2.1 hwa rfl hd rfl (nI_pos (by omega)) (nI_clamp (by omega)) hw4 hc.1 hc.2 hsz fun H1 cA e1 z1 o1 hAr hNm => ?_
  have hK : X.2.2.2.2.1.vm.findClass ("[" ++ FieldType.boolean.toString) = some (G.2 1) := (C.2.2.2.2.2.2.2.1.1.2 1 (G.2 1, .boolean) rfl).2
  have hNm2 : X.2.2.2.2.1.vm.findClass ("[" ++ FieldType.boolean.toString) = some cA := hNm
  rw [hK] at hNm2
  have hcA := Option.some.inj hNm2
  subst hcA
  have hk : ∀ (k : Nat) (x : Nat × va_E), (qw (G.2 4) h)[k]? = some x → H1[x.1]? = H[x.1]? := fun k x hx => o1 x.1 (by have := (e k x hx).lt; omega)
  refine k H1 locs ls ?_ ⟨Nat.le_trans b.1 (by omega), fun x h1 h2 => (o1 x (by have := b.1; omega)).trans (b.2.1 x h1 h2), b.2.2⟩ c
  unfold qH
  rw [qw_app]
  refine (va_P.kept e hk).app (fun k x hx => ?_)
  have hz : k < 1 := (List.getElem?_eq_some_iff.mp hx).1
  rw [show k = 0 by omega] at hx
  cases hx
  show H1[G.2 4 + h.length]? = some (vp_cell (G.2 1) (n, .inl (fun _ => 0)))
  rw [vp_cell_i]
  exact e1
theorem y_anew {n a t0 idx : Nat} {E : String} {cA0 : ClassId} (C : qC X G cc nL own d) (hd : qd cc pc (.anewarray idx) 3 pc') (hl : Cond.classLink own idx E ∈ lwg) (hO : va_AO E X.2.2.2.2.1) (ht : (qT G)[t0]? = some (cA0, .object E)) (hz : X.2.2.2.2.1.heap.size + kc = G.2 4 + h.length) (hor : h ≠ [] ∨ kc = 0) (ha : h.length = a) (hn : n < 100000) (hc : kc + 1 ≤ X.2.2.2.1.cells ∧ ks + n ≤ X.2.2.2.1.slots) (k : Y X G nL (kc + 1) (ks + n) pc' lv (qr G a :: st) (h ++ [.inl (cA0, n, .inr (.inr (.inr (.inr (fun _ => none)))))])) : Y X G nL kc ks pc lv (.int (nI n) :: st) h := by
  obtain ⟨hd, rfl⟩ := hd
  subst ha
  have hts := C.2.2.2.2.1
  have ecl : (nI n).toNatClampNeg = n := nI_clamp (by omega)
  intro H locs ls e b c
  refine y_sz hz hor b (fun hsz => ?_) e
  refine W.anew C.1 C.2.1 C.2.2.2.1 (hts _ hl) (va_AO.use hO) rfl hd rfl (nI_pos (by omega)) (by rw [ecl]; omega) hc.1 (by rw [ecl]; exact hc.2) fun cA kA comp f1 f2 f3 f4 => ?_
  rw [ecl, hsz]
  generalize hH1 : H.push ({ cls := cA, slots := Array.replicate n .null, vm := .none } : Cell) = H1
  have z1 : H1.size = H.size + 1 := by rw [← hH1, Array.size_push]
  have e1 : H1[H.size]? = some (arrV cA n (fun _ => .null)) := by rw [← hH1, Array.getElem?_push_size, ← arrV_new]
  have o1 : ∀ q : Nat, q < H.size → H1[q]? = H[q]? := fun q hq => by rw [← hH1, Array.getElem?_push, if_neg (Nat.ne_of_lt hq)]
  obtain ⟨kA', comp', r1, r2, r3, r4⟩ := (C.2.2.2.2.2.2.2.1.1.2 t0 _ ht).2
  rw [r4] at f1
  have hcA := Option.some.inj f1
  subst hcA
  have hk : ∀ (k : Nat) (x : Nat × va_E), (qw (G.2 4) h)[k]? = some x → H1[x.1]? = H[x.1]? := fun k x hx => o1 x.1 (e k x hx).lt
  refine k H1 locs ls ?_ ⟨Nat.le_trans b.1 (by omega), fun x h1 h2 => (o1 x (by have := b.1; omega)).trans (b.2.1 x h1 h2), b.2.2⟩ c
  unfold qH
  rw [qw_app]
  refine (va_P.kept e hk).app (fun k x hx => ?_)
  have hz : k < 1 := (List.getElem?_eq_some_iff.mp hx).1
  rw [show k = 0 by omega] at hx
  cases hx
  show H1[G.2 4 + h.length]? = some (vp_cell _ _)
  rw [← hsz, vp_cell_q]
  exact e1
theorem y_obj {idx a : Nat} (C : qC X G cc nL own d) (hd : qd cc pc (.invokespecial idx) 3 pc') (hl : Cond.methodLink own idx Lib.objectInit ∈ lwg) (h1 : 1 ≤ d) (hst : (st.map fun v => v.category).sum ≤ 8) (k : Y X G nL kc ks pc' lv st h) : Y X G nL kc ks pc lv (qr G a :: st) h := by
  obtain ⟨hd, rfl⟩ := hd
  have hts := C.2.2.2.2.1
  intro H locs ls e b c
  refine W.objInit C.1 C.2.1 C.2.2.2.1 (hts _ hl) (hts _ wrd_oi) (hts _ wrd_oc) rfl (c.1.trans C.2.2.1.symm) rfl hd (Nat.le_trans h1 C.2.2.2.2.2.1) ?_ (k H locs ls e b c)
  have := C.2.2.2.2.2.2.1
  show 2 * 0 + _ + 12 ≤ _
  omega
/-- a constructor's contract -/
def Cti (l : Launch) (G : qG) (y : MethodName) (d mc ms : Nat) (av : List Value) (h h' : List va_E) : Prop :=
  ∃ (bytes : ByteArray) (maxL : Nat), Cond.code y bytes maxL none ∈ lwg ∧ maxL ≤ 20 ∧ Met l y (Cond.code y bytes maxL none :: lwg) (qm d mc ms) (qP G mc av h) (qQ G none h') mc ms (qA G)
theorem cti_intro {l : Launch} {mc ms : Nat} {av : List Value} {bytes : ByteArray} {maxL : Nat} (hcode : Cond.code y bytes maxL none ∈ lwg) (hm : maxL ≤ 20) (hy : plainName y.cls = true) (lv0 : List (Option Value)) (hlv : qlv 0 lv0 = lv_args 0 av) (hlen : (lg_sl av).length ≤ maxL)
    (body : ∀ X : qX, X.2.1 = l → X.2.2.2.1.cells = mc → X.2.2.2.1.slots = ms → X.2.2.2.2.2.2.2.2.1.name = y.name → (mc ≠ 0 → X.2.2.2.2.1.heap.size = G.2 4 + h.length) → qC X G bytes maxL y.cls d → qE X G none mc ms none h' → Y X G maxL 0 0 0 lv0 [] h) : Cti l G y d mc ms av h h' := by
  refine ⟨bytes, maxL, hcode, hm, ?_⟩
  refine Met.ofW (cc := bytes) (maxL := maxL) (ret := none) hy rfl ?_
  intro p e s m args below meth c s₁ B hml hv
  obtain ⟨rfl, ⟨hP, hF⟩, hb4, hsz⟩ := hv
  have hts := atoms_spec (ws := Cond.code y bytes maxL none :: lwg) B.pre
  have hl := lv_entry av (n := maxL) hlen
  rw [lg_entry_eq]
  refine body (p, l, e, _, s, m, av.toArray, below, meth, c, _) rfl rfl rfl (name_of_methodNamed B.named B.method).1 hsz ?_ ⟨rfl, B.returns⟩ s.heap [] _ hP va_S.rf ?_
  · exact ⟨B.exec, B.bytes, hml, findClass_of_methodNamed B.named, fun w hw => hts w (List.mem_cons_of_mem _ hw), Nat.le_refl _, Nat.le_refl _, hF, hb4, B.notSynchronized⟩
  · show lv_has _ _ (qlv 0 lv0)
    rw [hlv]
    exact hl
theorem y_callI {idx n a mc ms : Nat} (C : qC X G cc nL own d) (hd : qd cc pc (.invokespecial idx) 3 pc') (hk : qcI own idx y n) (hM : Cti X.2.1 G y d' mc ms (qr G a :: As) h h') (hs : sk = As.reverse ++ qr G a :: st) (hn : As.length = n) (hdd : d' + 1 ≤ d) (hst : (st.map fun v => v.category).sum ≤ 8) (hkc : kc + mc ≤ X.2.2.2.1.cells ∧ ks + ms ≤ X.2.2.2.1.slots) (hz : X.2.2.2.2.1.heap.size + kc = G.2 4 + h.length) (hne : h ≠ []) (k : Y X G nL (kc + mc) (ks + ms) pc' lv st h') : Y X G nL kc ks pc lv sk h := by
  obtain ⟨hd, rfl⟩ := hd
  subst hs
  obtain ⟨k1, k2, k4, k5, k6⟩ := hk
  obtain ⟨bytes, maxL, m1, m2, hM⟩ := hM
  have hts := C.2.2.2.2.1
  intro H locs ls e b c
  refine y_size hz hne (fun e hsz => ?_) e
  refine y_run (r := none) (mc := mc) (ms := ms) (arr := (qr G a :: As).toArray) b c ?_ k
  exact va_runI (Ts := lwg) ⟨C.1, C.2.1, C.2.2.1, C.2.2.2.1, hts⟩ hM ⟨callB_of n hts (q_goodc m1) rfl rfl rfl (hts _ k4) (hts _ k1) k6 (q_rm C.2.2.2.2.2.1 C.2.2.2.2.2.2.1 m2 hdd mc ms), k5, hts _ k2⟩ ⟨qP_blind, qP_pre C e b (fun _ => hsz)⟩ rfl hn c.1 rfl (lv_room hst) hd hkc
theorem y_callIN {idx n a mc ms : Nat} (C : qC X G cc nL own d) (hd : qd cc pc (.invokespecial idx) 3 pc') (hk : qcIN own idx y n) (hM : Cti X.2.1 G y d' mc ms (qr G a :: As) h h') (hs : sk = As.reverse ++ qr G a :: st) (hn : As.length = n) (hdd : d' + 1 ≤ d) (hst : (st.map fun v => v.category).sum ≤ 8) (hkc : kc + mc ≤ X.2.2.2.1.cells ∧ ks + ms ≤ X.2.2.2.1.slots) (hz : X.2.2.2.2.1.heap.size + kc = G.2 4 + h.length) (hne : h ≠ []) (k : Y X G nL (kc + mc) (ks + ms) pc' lv st h') : Y X G nL kc ks pc lv sk h := by
  obtain ⟨hd, rfl⟩ := hd
  subst hs
  obtain ⟨⟨host, k1⟩, k2, k4, k5, k6⟩ := hk
  obtain ⟨bytes, maxL, m1, m2, hM⟩ := hM
  have hts := C.2.2.2.2.1
  intro H locs ls e b c
  refine y_size hz hne (fun e hsz => ?_) e
  refine y_run (r := none) (mc := mc) (ms := ms) (arr := (qr G a :: As).toArray) b c ?_ k
  exact va_runIN (Ts := lwg) ⟨C.1, C.2.1, C.2.2.1, C.2.2.2.1, hts⟩ hM ⟨va_cnB n hts (q_goodc m1) rfl rfl rfl (C.2.2.2.2.2.2.2.1.2.1 _ k1) (hts _ k4) k6 (q_rm C.2.2.2.2.2.1 C.2.2.2.2.2.2.1 m2 hdd mc ms), k5, hts _ k2⟩ ⟨qP_blind, qP_pre C e b (fun _ => hsz)⟩ rfl hn c.1 rfl (lv_room hst) hd hkc
end
