section
variable {l : Launch} {G : qG} {y : MethodName} {d mc ms : Nat} {av : List Value} {h : List va_E} {r : Option Value} {h' : List va_E}
theorem ctm_intro {bytes : ByteArray} {maxL : Nat} {ret : Option FieldType} (hcode : Cond.code y bytes maxL ret ∈ lwg) (hm : maxL ≤ 20) (hy : plainName y.cls = true) (lv0 : List (Option Value)) (hlv : qlv 0 lv0 = lv_args 0 av) (hlen : (lg_sl av).length ≤ maxL)
    (body : ∀ X : qX, X.2.1 = l → X.2.2.2.1.cells = mc → X.2.2.2.1.slots = ms → X.2.2.2.2.2.2.2.2.1.name = y.name → (mc ≠ 0 → X.2.2.2.2.1.heap.size = G.2 4 + h.length) → qC X G bytes maxL y.cls d → qE X G ret mc ms r h' → Y X G maxL 0 0 0 lv0 [] h) : Ctm l G y d mc ms av h r h' := by
  refine ⟨bytes, maxL, ret, hcode, hm, ?_⟩
  refine Met.ofW (cc := bytes) (maxL := maxL) (ret := ret) hy rfl ?_
  intro p e s m args below meth c s₁ B hml hv
  obtain ⟨rfl, ⟨hP, hF⟩, hb4, hsz⟩ := hv
  have hts := atoms_spec (ws := Cond.code y bytes maxL ret :: lwg) B.pre
  have hl := lv_entry av (n := maxL) hlen
  rw [lg_entry_eq]
  refine body (p, l, e, _, s, m, av.toArray, below, meth, c, _) rfl rfl rfl (name_of_methodNamed B.named B.method).1 hsz ?_ ⟨rfl, B.returns⟩ s.heap [] _ hP va_S.rf ?_
  · exact ⟨B.exec, B.bytes, hml, findClass_of_methodNamed B.named, fun w hw => hts w (List.mem_cons_of_mem _ hw), Nat.le_refl _, Nat.le_refl _, hF, hb4, B.notSynchronized⟩
  · show lv_has _ _ (qlv 0 lv0)
    rw [hlv]
    exact hl
/-- behind a call -/
theorem y_run {X : qX} {nL kc ks pc : Nat} {lv : List (Option Value)} {sk rest : List Value} {arr : Array Value} {H : Heap} {locs : List Loc} {ls : Array Slot} (b : va_S (qA G) X.2.2.2.2.1.heap H locs) (c : qh ls nL lv)
    (hr : va_Run X.1 X.2.1 X.2.2.1 X.2.2.2.1 X.2.2.2.2.1 X.2.2.2.2.2.1 X.2.2.2.2.2.2.1 X.2.2.2.2.2.2.2.1 X.2.2.2.2.2.2.2.2.1 X.2.2.2.2.2.2.2.2.2.1 H locs kc ks mc ms (F0 X.2.2.2.2.2.1 pc ls sk) rest (qQ G r h' arr) (qA G))
    (k : Y X G nL (kc + mc) (ks + ms) (pc + 3) lv (r.toList ++ rest) h') :
    W X.1 X.2.1 X.2.2.1 X.2.2.2.1 X.2.2.2.2.1 X.2.2.2.2.2.1 X.2.2.2.2.2.2.1 X.2.2.2.2.2.2.2.1 X.2.2.2.2.2.2.2.2.1 X.2.2.2.2.2.2.2.2.2.1 H locs kc ks X.2.2.2.2.2.2.2.2.2.2 (F0 X.2.2.2.2.2.1 pc ls sk) := by
  intro T hT Z
  obtain ⟨v, st₀, t, T', L, h0, X', hL, e1, e2, ⟨hv, hw, hz, hk⟩, st⟩ := hr T hT Z
  have hv : v = r := by
    have := hv
    simp only [Outcome.returned.injEq] at this
    exact this
  subst hv
  rw [h0] at hz hk
  obtain ⟨t2, a1, b1⟩ := k T'.heap (locs ++ L) ls (by rw [e1]; exact hw.1)
    ⟨Nat.le_trans b.1 (by rw [e1]; exact hz), fun q h1 h2 => by rw [e1, hk q (Nat.lt_of_lt_of_le h1 b.1) h2]; exact b.2.1 q h1 h2, fun q hq => by
      rcases List.mem_append.mp hq with h | h
      · exact b.2.2 q h
      · exact hL q h⟩ c T' rfl X'
  exact ⟨t2, st t2 a1, b1⟩
theorem qP_blind : FrameBlind (qP G mc av h) := by
  intro a U g mk q
  obtain ⟨q0, ⟨q1, q2⟩, q3, q4⟩ := q
  exact ⟨q0, ⟨q1, qF_blind q2⟩, q3, q4⟩
theorem qP_pre {X : qX} {cc : ByteArray} {nL : Nat} {own : String} {d : Nat} {H : Heap} {locs : List Loc} (C : qC X G cc nL own d) (e : qH G h H) (b : va_S (qA G) X.2.2.2.2.1.heap H locs) (hs : mc ≠ 0 → H.size = G.2 4 + h.length) : ∀ U : State, U.heap = H → X.2.2.2.2.1.WarmedH U.vm → qP G mc av h av.toArray U := by
  intro U hU hW
  refine ⟨rfl, ⟨by rw [hU]; exact e, ?_⟩, ?_, ?_⟩
  · rw [hU]
    exact qF_moved hW (fun a h1 h2 => b.2.1 a h1 h2) C.2.2.2.2.2.2.2.1
  · rw [hU]
    exact Nat.le_trans C.2.2.2.2.2.2.2.2.1 b.1
  · rw [hU]
    exact hs
theorem q_goodc {bytes : ByteArray} {maxL : Nat} {ret : Option FieldType} (hc : Cond.code y bytes maxL ret ∈ lwg) : GoodIn lwg (Cond.code y bytes maxL ret :: lwg) := fun w hw => (List.mem_cons.mp hw).elim (fun e => by rw [e]; exact lwg_good _ hc) (fun h => lwg_good _ h)
end
section
variable {X : qX} {G : qG} {cc : ByteArray} {nL kc ks pc pc' d d' : Nat} {own : String} {lv : List (Option Value)} {st sk : List Value} {h h' : List va_E} {y : MethodName} {r : Option Value} {As : List Value}
abbrev qyn (y : MethodName) (n : Nat) : Prop := y.cls ≠ "java/lang/invoke/MethodHandle" ∧ y.cls ≠ "java/lang/invoke/VarHandle" ∧ (parseMethodDescriptor y.desc).map (fun d => d.parameters.length) = some n
/-- a virtual call: entry idx of own's pool is y, of the class ci, with n arguments -/
def qcV (own : String) (idx : Nat) (y : MethodName) (ci n : Nat) : Prop := Cond.methodLink own idx y ∈ lwg ∧ Cond.instanceMethod y ∈ lwg ∧ Cond.selects y.cls y y ∈ lwg ∧ Cond.initialized y.cls ∈ lwg ∧ (∃ (T : u_T) (N : Nat), vwCl[ci]? = some (y.cls, T, N)) ∧ qyn y n
def qcS (own : String) (idx : Nat) (y : MethodName) (n : Nat) : Prop := Cond.methodLink own idx y ∈ lwg ∧ Cond.static y ∈ lwg ∧ Cond.initialized y.cls ∈ lwg ∧ qyn y n
def qcSN (own : String) (idx : Nat) (y : MethodName) (n : Nat) : Prop := (∃ host, Cond.methodLinkNest own idx y host ∈ qNl) ∧ Cond.static y ∈ lwg ∧ Cond.initialized y.cls ∈ lwg ∧ qyn y n
def qcI (own : String) (idx : Nat) (y : MethodName) (n : Nat) : Prop := Cond.methodLink own idx y ∈ lwg ∧ Cond.instanceMethod y ∈ lwg ∧ Cond.initialized y.cls ∈ lwg ∧ y.name = "<init>" ∧ qyn y n
def qcIN (own : String) (idx : Nat) (y : MethodName) (n : Nat) : Prop := (∃ host, Cond.methodLinkNest own idx y host ∈ qNl) ∧ Cond.instanceMethod y ∈ lwg ∧ Cond.initialized y.cls ∈ lwg ∧ y.name = "<init>" ∧ qyn y n
theorem q_rm {d d' maxL : Nat} {R : Room} (h1 : d ≤ R.frames) (h2 : 40 * d ≤ R.locals) (hm : maxL ≤ 20) (hd : d' + 1 ≤ d) (mc ms : Nat) : (qm d' mc ms).frames + 1 ≤ R.frames ∧ 8 + (maxL + 11) + (qm d' mc ms).locals ≤ R.locals := by
  constructor
  · show d' + 1 ≤ _
    omega
  · show 8 + (maxL + 11) + 40 * d' ≤ _
    omega
theorem y_callV {idx ci n a : Nat} {fs : List Value} (C : qC X G cc nL own d) (hd : qd cc pc (.invokevirtual idx) 3 pc') (hk : qcV own idx y ci n) (hM : Ct X.2.1 G y d' (qr G a :: As) h r h') (hl : h[a]? = some (.inr (ci, fs))) (hs : sk = As.reverse ++ qr G a :: st) (hn : As.length = n) (hdd : d' + 1 ≤ d) (hst : (st.map fun v => v.category).sum ≤ 8) (hkc : kc ≤ X.2.2.2.1.cells ∧ ks ≤ X.2.2.2.1.slots) (k : Y X G nL kc ks pc' lv (r.toList ++ st) h') : Y X G nL kc ks pc lv sk h := by
  obtain ⟨hd, rfl⟩ := hd
  subst hs
  obtain ⟨k1, k2, k3, k4, ⟨T, N, k5⟩, k6⟩ := hk
  obtain ⟨bytes, maxL, ret, m1, m2, hM⟩ := hM
  have hts := C.2.2.2.2.1
  intro H locs ls e b c
  refine y_run (mc := 0) (ms := 0) (arr := (qr G a :: As).toArray) b c ?_ k
  exact va_runV (Ts := lwg) ⟨C.1, C.2.1, C.2.2.1, C.2.2.2.1, hts⟩ hM ⟨callB_of n hts (q_goodc m1) rfl rfl rfl (hts _ k4) (hts _ k1) k6 (q_rm C.2.2.2.2.2.1 C.2.2.2.2.2.2.1 m2 hdd 0 0), hts _ k2, hts _ k3⟩ ⟨qP_blind, va_recv C.2.2.2.2.2.2.2.1.1 e k5 (qw_at hl), qP_pre C e b (fun h => absurd rfl h)⟩ rfl hn c.1 rfl (lv_room hst) hd hkc
theorem y_callS {idx n : Nat} (C : qC X G cc nL own d) (hd : qd cc pc (.invokestatic idx) 3 pc') (hk : qcS own idx y n) (hM : Ct X.2.1 G y d' As h r h') (hs : sk = As.reverse ++ st) (hn : As.length = n) (hdd : d' + 1 ≤ d) (hst : (st.map fun v => v.category).sum ≤ 8) (hkc : kc ≤ X.2.2.2.1.cells ∧ ks ≤ X.2.2.2.1.slots) (k : Y X G nL kc ks pc' lv (r.toList ++ st) h') : Y X G nL kc ks pc lv sk h := by
  obtain ⟨hd, rfl⟩ := hd
  subst hs
  obtain ⟨k1, k2, k4, k6⟩ := hk
  obtain ⟨bytes, maxL, ret, m1, m2, hM⟩ := hM
  have hts := C.2.2.2.2.1
  intro H locs ls e b c
  refine y_run (mc := 0) (ms := 0) (arr := As.toArray) b c ?_ k
  exact va_runS (Ts := lwg) ⟨C.1, C.2.1, C.2.2.1, C.2.2.2.1, hts⟩ hM ⟨callB_of n hts (q_goodc m1) rfl rfl rfl (hts _ k4) (hts _ k1) k6 (q_rm C.2.2.2.2.2.1 C.2.2.2.2.2.2.1 m2 hdd 0 0), hts _ k2⟩ ⟨qP_blind, qP_pre C e b (fun h => absurd rfl h)⟩ rfl hn c.1 rfl (lv_room hst) hd hkc
theorem y_callSN {idx n : Nat} (C : qC X G cc nL own d) (hd : qd cc pc (.invokestatic idx) 3 pc') (hk : qcSN own idx y n) (hM : Ct X.2.1 G y d' As h r h') (hs : sk = As.reverse ++ st) (hn : As.length = n) (hdd : d' + 1 ≤ d) (hst : (st.map fun v => v.category).sum ≤ 8) (hkc : kc ≤ X.2.2.2.1.cells ∧ ks ≤ X.2.2.2.1.slots) (k : Y X G nL kc ks pc' lv (r.toList ++ st) h') : Y X G nL kc ks pc lv sk h := by
  obtain ⟨hd, rfl⟩ := hd
  subst hs
  obtain ⟨⟨host, k1⟩, k2, k4, k6⟩ := hk
  obtain ⟨bytes, maxL, ret, m1, m2, hM⟩ := hM
  have hts := C.2.2.2.2.1
  intro H locs ls e b c
  refine y_run (mc := 0) (ms := 0) (arr := As.toArray) b c ?_ k
  exact va_runSN (Ts := lwg) ⟨C.1, C.2.1, C.2.2.1, C.2.2.2.1, hts⟩ hM ⟨va_cnB n hts (q_goodc m1) rfl rfl rfl (C.2.2.2.2.2.2.2.1.2.1 _ k1) (hts _ k4) k6 (q_rm C.2.2.2.2.2.1 C.2.2.2.2.2.2.1 m2 hdd 0 0), hts _ k2, trivial⟩ ⟨qP_blind, qP_pre C e b (fun h => absurd rfl h)⟩ rfl hn c.1 rfl (lv_room hst) hd hkc
/-- the heap's size, by the count of the cells -/
theorem y_size {H : Heap} {locs : List Loc} {g : JFrame} (hz : X.2.2.2.2.1.heap.size + kc = G.2 4 + h.length) (hne : h ≠ []) (k : qH G h H → H.size = G.2 4 + h.length → W X.1 X.2.1 X.2.2.1 X.2.2.2.1 X.2.2.2.2.1 X.2.2.2.2.2.1 X.2.2.2.2.2.2.1 X.2.2.2.2.2.2.2.1 X.2.2.2.2.2.2.2.2.1 X.2.2.2.2.2.2.2.2.2.1 H locs kc ks X.2.2.2.2.2.2.2.2.2.2 g) (e : qH G h H) : W X.1 X.2.1 X.2.2.1 X.2.2.2.1 X.2.2.2.2.1 X.2.2.2.2.2.1 X.2.2.2.2.2.2.1 X.2.2.2.2.2.2.2.1 X.2.2.2.2.2.2.2.2.1 X.2.2.2.2.2.2.2.2.2.1 H locs kc ks X.2.2.2.2.2.2.2.2.2.2 g := by
  intro T hT Z
  have h1 := Z.heapSize
  rw [hT] at h1
  have h2 := (qH_le e).resolve_left hne
  exact k e (by omega) T hT Z
end
