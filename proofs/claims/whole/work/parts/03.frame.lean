/-! THE FRAME: an abstract heap is a list of cells, the cell k at the address base + k; one predicate Y of a point of a method, a row an instruction; a contract Ctm of a method. -/
/-- the tables' words that stay -/
def lwg : List Cond := lw_tbl.filter goodWord
theorem lwg_good : GoodIn lwg lwg := fun w h => ⟨h, good_of_word (List.mem_filter.mp h).2⟩
theorem lwg_of {w : Cond} (h : w ∈ lw_tbl) (hg : goodWord w = true) : w ∈ lwg := List.mem_filter.mpr ⟨h, hg⟩
abbrev qX : Type := Program × Launch × Env × Room × State × MethodId × Array Value × List Frame × Method × Code × (State → Prop)
/-- class numbers; 0 int[], 1 boolean[], 2 Row[], 3 Yard[], 4 the base, 5 and 6 the two static tables -/
abbrev qG : Type := va_G × (Nat → Nat)
abbrev qr (G : qG) (a : Nat) : Value := .ref (G.2 4 + a)
abbrev qI (G : qG) (n : Nat) (f : Nat → Int32) : va_E := .inl (G.2 0, n, .inl f)
abbrev qZ (G : qG) (n : Nat) (f : Nat → Int32) : va_E := .inl (G.2 1, n, .inl f)
abbrev qR (G : qG) (n : Nat) (f : Nat → Option Nat) : va_E := .inl (G.2 2, n, .inr (.inr (.inr (.inr f))))
abbrev qY (G : qG) (n : Nat) (f : Nat → Option Nat) : va_E := .inl (G.2 3, n, .inr (.inr (.inr (.inr f))))
abbrev qT (G : qG) : List (ClassId × FieldType) := [(G.2 0, .int), (G.2 1, .boolean), (G.2 2, .object "DreamGraves$Row"), (G.2 3, .object "DreamGraves$Yard")]
abbrev qA (G : qG) : Nat → Prop := fun q => G.2 4 ≤ q
/-- the list as the kit's world -/
def qw (b : Nat) (h : List va_E) : va_W := h.mapIdx (fun k e => (b + k, e))
theorem qw_at {b : Nat} {h : List va_E} {k : Nat} {e : va_E} (hk : h[k]? = some e) : (qw b h)[k]? = some (b + k, e) := by
  simp [qw, hk]
theorem qw_of {b : Nat} {h : List va_E} {k : Nat} {q : Nat × va_E} (hk : (qw b h)[k]? = some q) : q.1 = b + k ∧ h[k]? = some q.2 := by
  simp only [qw, List.getElem?_mapIdx, Option.map_eq_some_iff] at hk
  obtain ⟨e, h1, rfl⟩ := hk
  exact ⟨rfl, h1⟩
theorem qw_set {b : Nat} {h : List va_E} {k : Nat} {e : va_E} : (qw b h).set k (b + k, e) = qw b (h.set k e) := by
  apply List.ext_getElem?
  intro j
  by_cases hj : j = k
  · subst hj
    by_cases hl : j < h.length
    · rw [List.getElem?_set_self (by simpa [qw] using hl)]
      exact (qw_at (List.getElem?_set_self hl)).symm
    · rw [List.getElem?_eq_none (by simp [qw]; omega), List.getElem?_eq_none (by simp [qw]; omega)]
  · rw [List.getElem?_set_ne (Ne.symm hj)]
    simp only [qw, List.getElem?_mapIdx]
    rw [List.getElem?_set_ne (Ne.symm hj)]
theorem qw_D {b : Nat} {h : List va_E} : va_D (fun q => b ≤ q) (qw b h) := by
  refine ⟨fun i j x y hx hy e => ?_, fun k q hk => ?_⟩
  · have h1 := (qw_of hx).1
    have h2 := (qw_of hy).1
    omega
  · have h1 := (qw_of hk).1
    show b ≤ q.1
    omega
/-- the heap holds the list -/
def qH (G : qG) (h : List va_E) (H : Heap) : Prop := va_P G.1 vwCl (qw (G.2 4) h) H
theorem qH_set {G : qG} {h : List va_E} {H1 : Heap} {k : Nat} {e : va_E} (hP : va_P G.1 vwCl ((qw (G.2 4) h).set k (G.2 4 + k, e)) H1) : qH G (h.set k e) H1 := by
  rw [qw_set] at hP
  exact hP
theorem qH_le {G : qG} {h : List va_E} {H : Heap} (hP : qH G h H) : h = [] ∨ G.2 4 + h.length ≤ H.size := by
  cases hh : h with
  | nil => exact Or.inl rfl
  | cons a t =>
    refine Or.inr ?_
    have hl : h.length - 1 < h.length := by rw [hh]; simp
    have := (hP _ _ (qw_at (List.getElem?_eq_getElem hl))).lt
    rw [← hh]
    simp only at this
    omega
/-- the nest's links, used by their numbers -/
def qNl : List Cond := tables_1.filter (fun w => match w with | .methodLinkNest _ _ _ _ => true | _ => false)
def qtS : Nat → Value := fun j => .int (nI ([10, 11, 12, 11, 13, 14].getD j 0))
def qtM : Nat → Value := fun j => .int (nI ([20, 21, 24, 22, 23, 23].getD j 0))
/-- what is fixed: tables, nests, statics -/
def qF (G : qG) (U : State) (H : Heap) : Prop :=
  va_K G.1 vwCl (qT G) U ∧ (∀ w ∈ qNl, va_Nw w U) ∧ va_AO "DreamGraves$Row" U ∧ va_AO "DreamGraves$Yard" U ∧
  va_Z "DreamGraves$Asker" "SIZE_BODIES" "[I" (.ref (G.2 5)) (qA G) U H ∧ va_T .int (G.2 5) 6 qtS (qA G) U H ∧
  va_Z "DreamGraves$Asker" "MARK_BODIES" "[I" (.ref (G.2 6)) (qA G) U H ∧ va_T .int (G.2 6) 6 qtM (qA G) U H
theorem qNl_form : ∀ w ∈ qNl, ∃ a i x h, w = .methodLinkNest a i x h := by
  intro w hw
  have h := (List.mem_filter.mp hw).2
  split at h
  · exact ⟨_, _, _, _, rfl⟩
  · cases h
theorem qF_moved {G : qG} {s U : State} {H H1 : Heap} (hW : s.WarmedH U.vm) (hq : ∀ a : Nat, a < H.size → ¬ qA G a → H1[a]? = H[a]?) (h : qF G s H) : qF G U H1 := by
  obtain ⟨h1, h2, h3, h4, h5, h6, h7, h8⟩ := h
  refine ⟨va_K.moved hW.alike h1, fun w hw => ?_, va_AO.moved hW.alike h3, va_AO.moved hW.alike h4, va_Z.kept (va_Z.moved hW.alike h5) hq, va_T.kept (va_T.moved hW.alike h6) hq, va_Z.kept (va_Z.moved hW.alike h7) hq, va_T.kept (va_T.moved hW.alike h8) hq⟩
  obtain ⟨a, i, x, hh, rfl⟩ := qNl_form w hw
  exact va_Nw.warmM hW (h2 _ hw)
theorem qF_blind {G : qG} {U : State} {H : Heap} {g : JFrame} {mk : MethodId} {a : Array Value} (h : qF G U H) : qF G (U.calling g mk a) H := by
  obtain ⟨h1, h2, h3, h4, h5, h6, h7, h8⟩ := h
  have hv : U.vm.Alike (U.calling g mk a).vm := Vm.Alike.refl U.vm
  refine ⟨va_K.moved hv h1, fun w hw => ?_, va_AO.moved hv h3, va_AO.moved hv h4, va_Z.moved hv h5, va_T.moved hv h6, va_Z.moved hv h7, va_T.moved hv h8⟩
  obtain ⟨a, i, x, hh, rfl⟩ := qNl_form w hw
  exact va_Nw.same rfl (rfl : U.vm = (U.calling g mk _).vm) (h2 _ hw)
def qW (G : qG) (h : List va_E) (U : State) : Prop := qH G h U.heap ∧ qF G U U.heap
abbrev qm (d mc ms : Nat) : Room := { frames := d, cells := mc, slots := ms, locals := 40 * d }
abbrev qP (G : qG) (mc : Nat) (av : List Value) (h : List va_E) : Array Value → State → Prop := va_Pc av (fun U => qW G h U ∧ G.2 4 ≤ U.heap.size ∧ (mc ≠ 0 → U.heap.size = G.2 4 + h.length))
abbrev qQ (G : qG) (r : Option Value) (h' : List va_E) : Array Value → State → Outcome → State → Prop := fun _ st o t => o = .returned r ∧ qW G h' t ∧ va_F (qA G) st t
/-- the contract: on these arguments and this heap the method answers r and leaves h' -/
def Ctm (l : Launch) (G : qG) (y : MethodName) (d mc ms : Nat) (av : List Value) (h : List va_E) (r : Option Value) (h' : List va_E) : Prop :=
  ∃ (bytes : ByteArray) (maxL : Nat) (ret : Option FieldType), Cond.code y bytes maxL ret ∈ lwg ∧ maxL ≤ 20 ∧ Met l y (Cond.code y bytes maxL ret :: lwg) (qm d mc ms) (qP G mc av h) (qQ G r h') mc ms (qA G)
abbrev Ct (l : Launch) (G : qG) (y : MethodName) (d : Nat) (av : List Value) (h : List va_E) (r : Option Value) (h' : List va_E) : Prop := Ctm l G y d 0 0 av h r h'
/-- the locals by their places -/
def qlv : Nat → List (Option Value) → List (Nat × Value)
  | _, [] => []
  | i, none :: t => qlv (i + 1) t
  | i, some v :: t => (i, v) :: qlv (i + 1) t
theorem qlv_mem : ∀ (lv : List (Option Value)) (i k : Nat) (v : Value), lv[k]? = some (some v) → (i + k, v) ∈ qlv i lv
  | [], i, k, v, h => by simp at h
  | none :: t, i, 0, v, h => by simp at h
  | none :: t, i, k + 1, v, h => by
    have := qlv_mem t (i + 1) k v (by simpa using h)
    rw [show i + (k + 1) = i + 1 + k by omega]
    exact this
  | some w :: t, i, 0, v, h => by
    simp at h
    subst h
    exact List.mem_cons_self
  | some w :: t, i, k + 1, v, h => by
    have := qlv_mem t (i + 1) k v (by simpa using h)
    rw [show i + (k + 1) = i + 1 + k by omega]
    exact List.mem_cons_of_mem _ this
theorem qlv_of : ∀ (lv : List (Option Value)) (i : Nat) (q : Nat × Value), q ∈ qlv i lv → ∃ k, q.1 = i + k ∧ lv[k]? = some (some q.2)
  | [], i, q, h => by simp [qlv] at h
  | none :: t, i, q, h => by
    obtain ⟨k, h1, h2⟩ := qlv_of t (i + 1) q h
    exact ⟨k + 1, by omega, by simpa using h2⟩
  | some w :: t, i, q, h => by
    rcases List.mem_cons.mp h with rfl | h
    · exact ⟨0, rfl, rfl⟩
    · obtain ⟨k, h1, h2⟩ := qlv_of t (i + 1) q h
      exact ⟨k + 1, by omega, by simpa using h2⟩
def qh (ls : Array Slot) (nL : Nat) (lv : List (Option Value)) : Prop := lv_has ls nL (qlv 0 lv)
theorem qh_at {ls : Array Slot} {nL k : Nat} {lv : List (Option Value)} {v : Value} (h : qh ls nL lv) (hk : lv[k]? = some (some v)) : ls[k]? = some (.val v) := by
  have := h.2.2 (0 + k, v) (qlv_mem lv 0 k v hk)
  simpa using this
/-- no long stands just ahead of place i -/
def qok (lv : List (Option Value)) (i : Nat) : Prop := ∀ (j : Nat) (w : Value), j + 1 = i → lv[j]? = some (some w) → w.category = 1
theorem qok_0 {lv : List (Option Value)} : qok lv 0 := fun j w h => by omega
theorem qok_n {lv : List (Option Value)} {j : Nat} (h : lv[j]? = some none) : qok lv (j + 1) := fun k w e hk => by
  obtain rfl : k = j := by omega
  rw [h] at hk
  cases hk
theorem qok_s {lv : List (Option Value)} {j : Nat} {v : Value} (h : lv[j]? = some (some v)) (hc : v.category = 1) : qok lv (j + 1) := fun k w e hk => by
  obtain rfl : k = j := by omega
  rw [h] at hk
  cases hk
  exact hc
theorem qh_s1 {ls ls' : Array Slot} {nL i : Nat} {lv : List (Option Value)} {v : Value} (ho : qok lv i) (h : lv_has ls' nL ((i, v) :: (qlv 0 lv).filter (fun q => !(q.1 == i) && !(q.1 + 1 == i && q.2.category == 2)))) : qh ls' nL (lv.set i (some v)) := by
  refine ⟨h.1, h.2.1, fun q hq => ?_⟩
  obtain ⟨k, h1, h2⟩ := qlv_of _ 0 q hq
  by_cases hk : k = i
  · subst hk
    by_cases hl : k < lv.length
    · rw [List.getElem?_set_self hl] at h2
      have e2 := Option.some.inj (Option.some.inj h2)
      have := h.2.2 (k, v) List.mem_cons_self
      rw [h1, Nat.zero_add, ← e2]
      exact this
    · rw [List.getElem?_eq_none (by simp; omega)] at h2
      cases h2
  · rw [List.getElem?_set_ne (Ne.symm hk)] at h2
    refine h.2.2 q (List.mem_cons_of_mem _ (List.mem_filter.mpr ⟨?_, ?_⟩))
    · have := qlv_mem lv 0 k q.2 h2
      rw [← h1] at this
      exact this
    · have e : q.1 = k := by omega
      by_cases hc : k + 1 = i
      · have := ho k q.2 hc h2
        simp [e, hk, this]
      · simp [e, hk, hc]
theorem qh_s2 {ls ls' : Array Slot} {nL i : Nat} {lv : List (Option Value)} {v : Value} (ho : qok lv i) (h : lv_has ls' nL ((i, v) :: (qlv 0 lv).filter (fun q => !(q.1 == i) && (!(q.1 == i + 1) && !(q.1 + 1 == i && q.2.category == 2))))) : qh ls' nL ((lv.set i (some v)).set (i + 1) none) := by
  refine ⟨h.1, h.2.1, fun q hq => ?_⟩
  obtain ⟨k, h1, h2⟩ := qlv_of _ 0 q hq
  by_cases hk1 : k = i + 1
  · subst hk1
    rw [List.getElem?_set] at h2
    simp at h2
  · rw [List.getElem?_set_ne (Ne.symm hk1)] at h2
    by_cases hk : k = i
    · subst hk
      by_cases hl : k < lv.length
      · rw [List.getElem?_set_self hl] at h2
        have e2 := Option.some.inj (Option.some.inj h2)
        have := h.2.2 (k, v) List.mem_cons_self
        rw [h1, Nat.zero_add, ← e2]
        exact this
      · rw [List.getElem?_eq_none (by simp; omega)] at h2
        cases h2
    · rw [List.getElem?_set_ne (Ne.symm hk)] at h2
      refine h.2.2 q (List.mem_cons_of_mem _ (List.mem_filter.mpr ⟨?_, ?_⟩))
      · have := qlv_mem lv 0 k q.2 h2
        rw [← h1] at this
        exact this
      · have e : q.1 = k := by omega
        by_cases hc : k + 1 = i
        · have := ho k q.2 hc h2
          simp [e, hk, hk1, this]
        · simp [e, hk, hk1, hc]
/-- a point of a method -/
def Y (X : qX) (G : qG) (nL kc ks pc : Nat) (lv : List (Option Value)) (st : List Value) (h : List va_E) : Prop :=
  ∀ (H : Heap) (locs : List Loc) (ls : Array Slot), qH G h H → va_S (qA G) X.2.2.2.2.1.heap H locs → qh ls nL lv →
    W X.1 X.2.1 X.2.2.1 X.2.2.2.1 X.2.2.2.2.1 X.2.2.2.2.2.1 X.2.2.2.2.2.2.1 X.2.2.2.2.2.2.2.1 X.2.2.2.2.2.2.2.2.1 X.2.2.2.2.2.2.2.2.2.1 H locs kc ks X.2.2.2.2.2.2.2.2.2.2 (F0 X.2.2.2.2.2.1 pc ls st)
/-- what holds all through a method's body -/
def qC (X : qX) (G : qG) (cc : ByteArray) (nL : Nat) (own : String) (d : Nat) : Prop :=
  X.1.tables.exec = Jvm.exec ∧ X.2.2.2.2.2.2.2.2.2.1.code = cc ∧ X.2.2.2.2.2.2.2.2.2.1.maxLocals = nL ∧ X.2.2.2.2.1.vm.findClass own = some X.2.2.2.2.2.1.cls ∧ (∀ w ∈ lwg, w.before X.2.2.2.2.2.2.1 X.2.2.2.2.1 = true) ∧
  d ≤ X.2.2.2.1.frames ∧ 40 * d ≤ X.2.2.2.1.locals ∧ qF G X.2.2.2.2.1 X.2.2.2.2.1.heap ∧ G.2 4 ≤ X.2.2.2.2.1.heap.size ∧ X.2.2.2.2.2.2.2.2.1.locks = false
/-- its end: the answer and the heap that are due -/
def qE (X : qX) (G : qG) (rt : Option FieldType) (kc ks : Nat) (r : Option Value) (h' : List va_E) : Prop :=
  X.2.2.2.2.2.2.2.2.2.2 = MQ X.2.2.2.2.2.2.2.1 (qQ G r h') X.2.2.2.2.2.2.1 X.2.2.2.2.1 kc ks (qA G) ∧ X.2.2.2.2.2.2.2.2.1.sig.returnType = rt
def qd (cc : ByteArray) (pc : Nat) (i : Instr) (n pc' : Nat) : Prop := decode cc pc = .ok (i, n) ∧ pc + n = pc'
