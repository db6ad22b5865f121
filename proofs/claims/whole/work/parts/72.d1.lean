/-! THE CLASS, all of it: what lies where -/
abbrev dcl (G : qG) (fin : Nat) : va_E := .inr (6, [qr G 1, qr G 2, qr G 7, qr G 10, qr G 84, qr G 85, qr G 98, .int (nI fin)])
def rfR (G : qG) : Nat → Option Nat := fun k => if k < 8 then some (G.2 4 + (100 + 2 * k)) else none
theorem rfR_at {G : qG} {k : Nat} (hk : k < 8) : rfR G k = some (G.2 4 + (100 + 2 * k)) := if_pos hk
def ifY (G : qG) : Nat → Option Nat := fun k => if k < 2 then some (G.2 4 + (116 + 3 * k)) else none
theorem ifY_at {G : qG} {k : Nat} (hk : k < 2) : ifY G k = some (G.2 4 + (116 + 3 * k)) := if_pos hk
theorem Yat.of {G : qG} {h h1 : List va_E} {b lo hi : Nat} {z : Nat → Nat} (q : Yat G h b z) (hn : ∀ j : Nat, j < lo ∨ hi < j → h1[j]? = h[j]?) (hd : b + 2 < lo ∨ hi < b) : Yat G h1 b z := ⟨(hn _ (by omega)).trans q.o, (hn _ (by omega)).trans q.k, (hn _ (by omega)).trans q.m⟩
theorem Rat.of {G : qG} {h h1 : List va_E} {b lo hi : Nat} {ln sz : Int32} {it : Nat → Int32} (q : Rat G h b ln sz it) (hn : ∀ j : Nat, j < lo ∨ hi < j → h1[j]? = h[j]?) (hd : b + 1 < lo ∨ hi < b) : Rat G h1 b ln sz it := ⟨(hn _ (by omega)).trans q.1, (hn _ (by omega)).trans q.2⟩
theorem upw {α : Type} {w : Nat → α} {k j : Nat} {z : α} (h : j ≠ k) : va_up w k z j = w j := if_neg h
def CI (G : qG) (h : List va_E) (i : Nat → Nat) (A : Nat → Nat → Nat) (B : Nat → Nat → Int32) (fin : Nat) (n : Nat) (lf : Nat) (b : Nat → Nat) (y : Nat → Nat) (sz : Nat) (old : Nat) (w : Nat → Nat → Nat) (c : Nat) (f : Nat → Nat) (ln : Nat → Int32) (rz : Nat → Int32) (it : Nat → Nat → Int32) (im : Nat → Nat → Nat) : Prop :=
  (h.length = 136) ∧ (h[0]? = some (dcl G fin)) ∧ (h[1]? = some (qR G 8 (rfR G))) ∧ (h[84]? = some (qY G 2 (ifY G))) ∧ (h[11]? = some (qY G 24 (pfY G))) ∧ (h[88]? = some (qY G 3 (sfY G))) ∧ (∃ s e v x tok, h[2]? = some (.inr (4, xf G n lf s e v x tok))) ∧ (h[6]? = some (qI G 120 (tr 120 (fun k => nI (b k))))) ∧ (∃ z, Yat G h 3 z) ∧ (Yat G h 7 y) ∧ (h[10]? = some (pcl G sz old)) ∧ (∀ k, k < 24 → Yat G h (12 + 3 * k) (w k)) ∧ (∃ fw, h[85]? = some (scl G fw)) ∧ (∃ g : Nat → Nat, h[86]? = some (qI G 3 (tr 3 (fun k => nI (g k))))) ∧ (∃ g : Nat → Nat, h[87]? = some (qI G 3 (tr 3 (fun k => nI (g k))))) ∧ (∃ z, Yat G h 89 z) ∧ (∃ z, Yat G h 92 z) ∧ (∃ z, Yat G h 95 z) ∧ (h[98]? = some (.inr (0, [.int (nI c), qr G 99]))) ∧ (h[99]? = some (qI G 16 (tr 16 (fun k => nI (f k))))) ∧ (∀ r, r < 8 → Rat G h (100 + 2 * r) (ln r) (rz r) (it r)) ∧ (∀ k, k < 2 → Yat G h (116 + 3 * k) (im k)) ∧ (∀ j, j < 14 → h[122 + j]? = (mc G i A B)[j]?)
section
variable {l : Launch} {G : qG} {h h1 : List va_E} {i : Nat → Nat} {A : Nat → Nat → Nat} {B : Nat → Nat → Int32} {fin : Nat} {n : Nat} {lf : Nat} {b : Nat → Nat} {y : Nat → Nat} {sz : Nat} {old : Nat} {w : Nat → Nat → Nat} {c : Nat} {f : Nat → Nat} {ln : Nat → Int32} {rz : Nat → Int32} {it : Nat → Nat → Int32} {im : Nat → Nat → Nat}
theorem CI.L (I : CI G (h) (i) (A) (B) (fin) (n) (lf) (b) (y) (sz) (old) (w) (c) (f) (ln) (rz) (it) (im)) : h.length = 136 := I.1
theorem CI.o (I : CI G (h) (i) (A) (B) (fin) (n) (lf) (b) (y) (sz) (old) (w) (c) (f) (ln) (rz) (it) (im)) : h[0]? = some (dcl G fin) := I.2.1
theorem CI.rs (I : CI G (h) (i) (A) (B) (fin) (n) (lf) (b) (y) (sz) (old) (w) (c) (f) (ln) (rz) (it) (im)) : h[1]? = some (qR G 8 (rfR G)) := I.2.2.1
theorem CI.is (I : CI G (h) (i) (A) (B) (fin) (n) (lf) (b) (y) (sz) (old) (w) (c) (f) (ln) (rz) (it) (im)) : h[84]? = some (qY G 2 (ifY G)) := I.2.2.2.1
theorem CI.pq (I : CI G (h) (i) (A) (B) (fin) (n) (lf) (b) (y) (sz) (old) (w) (c) (f) (ln) (rz) (it) (im)) : h[11]? = some (qY G 24 (pfY G)) := I.2.2.2.2.1
theorem CI.sq (I : CI G (h) (i) (A) (B) (fin) (n) (lf) (b) (y) (sz) (old) (w) (c) (f) (ln) (rz) (it) (im)) : h[88]? = some (qY G 3 (sfY G)) := I.2.2.2.2.2.1
theorem CI.t (I : CI G (h) (i) (A) (B) (fin) (n) (lf) (b) (y) (sz) (old) (w) (c) (f) (ln) (rz) (it) (im)) : ∃ s e v x tok, h[2]? = some (.inr (4, xf G n lf s e v x tok)) := I.2.2.2.2.2.2.1
theorem CI.tb (I : CI G (h) (i) (A) (B) (fin) (n) (lf) (b) (y) (sz) (old) (w) (c) (f) (ln) (rz) (it) (im)) : h[6]? = some (qI G 120 (tr 120 (fun k => nI (b k)))) := I.2.2.2.2.2.2.2.1
theorem CI.d (I : CI G (h) (i) (A) (B) (fin) (n) (lf) (b) (y) (sz) (old) (w) (c) (f) (ln) (rz) (it) (im)) : ∃ z, Yat G h 3 z := I.2.2.2.2.2.2.2.2.1
theorem CI.yd (I : CI G (h) (i) (A) (B) (fin) (n) (lf) (b) (y) (sz) (old) (w) (c) (f) (ln) (rz) (it) (im)) : Yat G h 7 y := I.2.2.2.2.2.2.2.2.2.1
theorem CI.p (I : CI G (h) (i) (A) (B) (fin) (n) (lf) (b) (y) (sz) (old) (w) (c) (f) (ln) (rz) (it) (im)) : h[10]? = some (pcl G sz old) := I.2.2.2.2.2.2.2.2.2.2.1
theorem CI.pw (I : CI G (h) (i) (A) (B) (fin) (n) (lf) (b) (y) (sz) (old) (w) (c) (f) (ln) (rz) (it) (im)) : ∀ k, k < 24 → Yat G h (12 + 3 * k) (w k) := I.2.2.2.2.2.2.2.2.2.2.2.1
theorem CI.s (I : CI G (h) (i) (A) (B) (fin) (n) (lf) (b) (y) (sz) (old) (w) (c) (f) (ln) (rz) (it) (im)) : ∃ fw, h[85]? = some (scl G fw) := I.2.2.2.2.2.2.2.2.2.2.2.2.1
theorem CI.sw (I : CI G (h) (i) (A) (B) (fin) (n) (lf) (b) (y) (sz) (old) (w) (c) (f) (ln) (rz) (it) (im)) : ∃ g : Nat → Nat, h[86]? = some (qI G 3 (tr 3 (fun k => nI (g k)))) := I.2.2.2.2.2.2.2.2.2.2.2.2.2.1
theorem CI.sg (I : CI G (h) (i) (A) (B) (fin) (n) (lf) (b) (y) (sz) (old) (w) (c) (f) (ln) (rz) (it) (im)) : ∃ g : Nat → Nat, h[87]? = some (qI G 3 (tr 3 (fun k => nI (g k)))) := I.2.2.2.2.2.2.2.2.2.2.2.2.2.2.1
theorem CI.s0 (I : CI G (h) (i) (A) (B) (fin) (n) (lf) (b) (y) (sz) (old) (w) (c) (f) (ln) (rz) (it) (im)) : ∃ z, Yat G h 89 z := I.2.2.2.2.2.2.2.2.2.2.2.2.2.2.2.1
theorem CI.s1 (I : CI G (h) (i) (A) (B) (fin) (n) (lf) (b) (y) (sz) (old) (w) (c) (f) (ln) (rz) (it) (im)) : ∃ z, Yat G h 92 z := I.2.2.2.2.2.2.2.2.2.2.2.2.2.2.2.2.1
theorem CI.s2 (I : CI G (h) (i) (A) (B) (fin) (n) (lf) (b) (y) (sz) (old) (w) (c) (f) (ln) (rz) (it) (im)) : ∃ z, Yat G h 95 z := I.2.2.2.2.2.2.2.2.2.2.2.2.2.2.2.2.2.1
theorem CI.a (I : CI G (h) (i) (A) (B) (fin) (n) (lf) (b) (y) (sz) (old) (w) (c) (f) (ln) (rz) (it) (im)) : h[98]? = some (.inr (0, [.int (nI c), qr G 99])) := I.2.2.2.2.2.2.2.2.2.2.2.2.2.2.2.2.2.2.1
theorem CI.al (I : CI G (h) (i) (A) (B) (fin) (n) (lf) (b) (y) (sz) (old) (w) (c) (f) (ln) (rz) (it) (im)) : h[99]? = some (qI G 16 (tr 16 (fun k => nI (f k)))) := I.2.2.2.2.2.2.2.2.2.2.2.2.2.2.2.2.2.2.2.1
theorem CI.rw (I : CI G (h) (i) (A) (B) (fin) (n) (lf) (b) (y) (sz) (old) (w) (c) (f) (ln) (rz) (it) (im)) : ∀ r, r < 8 → Rat G h (100 + 2 * r) (ln r) (rz r) (it r) := I.2.2.2.2.2.2.2.2.2.2.2.2.2.2.2.2.2.2.2.2.1
theorem CI.iw (I : CI G (h) (i) (A) (B) (fin) (n) (lf) (b) (y) (sz) (old) (w) (c) (f) (ln) (rz) (it) (im)) : ∀ k, k < 2 → Yat G h (116 + 3 * k) (im k) := I.2.2.2.2.2.2.2.2.2.2.2.2.2.2.2.2.2.2.2.2.2.1
theorem CI.m (I : CI G (h) (i) (A) (B) (fin) (n) (lf) (b) (y) (sz) (old) (w) (c) (f) (ln) (rz) (it) (im)) : ∀ j, j < 14 → h[122 + j]? = (mc G i A B)[j]? := I.2.2.2.2.2.2.2.2.2.2.2.2.2.2.2.2.2.2.2.2.2.2
theorem CI.y7 (I : CI G (h) (i) (A) (B) (fin) (n) (lf) (b) (y) (sz) (old) (w) (c) (f) (ln) (rz) (it) (im)) {z : Nat → Nat} : CI G (yc G h (7) z) (i) (A) (B) (fin) (n) (lf) (b) (z) (sz) (old) (w) (c) (f) (ln) (rz) (it) (im) := by
  have hL := I.L
  have hl : (yc G h (7) z).length = 136 := yc_len.trans hL
  have hn : ∀ j : Nat, j < 7 ∨ 7 + 2 < j → (yc G h (7) z)[j]? = h[j]? := fun j hj => yc_n hj
  exact ⟨hl, (hn _ (by omega)).trans I.o, (hn _ (by omega)).trans I.rs, (hn _ (by omega)).trans I.is, (hn _ (by omega)).trans I.pq, (hn _ (by omega)).trans I.sq, (let ⟨s, e, v, x, tok, q⟩ := I.t; ⟨s, e, v, x, tok, (hn _ (by omega)).trans q⟩), (hn _ (by omega)).trans I.tb, (let ⟨z, q⟩ := I.d; ⟨z, q.of hn (by omega)⟩), Yat.mk' (by omega), (hn _ (by omega)).trans I.p, fun k hk => (I.pw k hk).of hn (by omega), (let ⟨g, q⟩ := I.s; ⟨g, (hn _ (by omega)).trans q⟩), (let ⟨g, q⟩ := I.sw; ⟨g, (hn _ (by omega)).trans q⟩), (let ⟨g, q⟩ := I.sg; ⟨g, (hn _ (by omega)).trans q⟩), (let ⟨z, q⟩ := I.s0; ⟨z, q.of hn (by omega)⟩), (let ⟨z, q⟩ := I.s1; ⟨z, q.of hn (by omega)⟩), (let ⟨z, q⟩ := I.s2; ⟨z, q.of hn (by omega)⟩), (hn _ (by omega)).trans I.a, (hn _ (by omega)).trans I.al, fun k hk => (I.rw k hk).of hn (by omega), fun k hk => (I.iw k hk).of hn (by omega), fun j hj => (hn _ (by omega)).trans (I.m j hj)⟩
theorem CI.y3 (I : CI G (h) (i) (A) (B) (fin) (n) (lf) (b) (y) (sz) (old) (w) (c) (f) (ln) (rz) (it) (im)) {z : Nat → Nat} : CI G (yc G h (3) z) (i) (A) (B) (fin) (n) (lf) (b) (y) (sz) (old) (w) (c) (f) (ln) (rz) (it) (im) := by
  have hL := I.L
  have hl : (yc G h (3) z).length = 136 := yc_len.trans hL
  have hn : ∀ j : Nat, j < 3 ∨ 3 + 2 < j → (yc G h (3) z)[j]? = h[j]? := fun j hj => yc_n hj
  exact ⟨hl, (hn _ (by omega)).trans I.o, (hn _ (by omega)).trans I.rs, (hn _ (by omega)).trans I.is, (hn _ (by omega)).trans I.pq, (hn _ (by omega)).trans I.sq, (let ⟨s, e, v, x, tok, q⟩ := I.t; ⟨s, e, v, x, tok, (hn _ (by omega)).trans q⟩), (hn _ (by omega)).trans I.tb, ⟨z, Yat.mk' (by omega)⟩, I.yd.of hn (by omega), (hn _ (by omega)).trans I.p, fun k hk => (I.pw k hk).of hn (by omega), (let ⟨g, q⟩ := I.s; ⟨g, (hn _ (by omega)).trans q⟩), (let ⟨g, q⟩ := I.sw; ⟨g, (hn _ (by omega)).trans q⟩), (let ⟨g, q⟩ := I.sg; ⟨g, (hn _ (by omega)).trans q⟩), (let ⟨z, q⟩ := I.s0; ⟨z, q.of hn (by omega)⟩), (let ⟨z, q⟩ := I.s1; ⟨z, q.of hn (by omega)⟩), (let ⟨z, q⟩ := I.s2; ⟨z, q.of hn (by omega)⟩), (hn _ (by omega)).trans I.a, (hn _ (by omega)).trans I.al, fun k hk => (I.rw k hk).of hn (by omega), fun k hk => (I.iw k hk).of hn (by omega), fun j hj => (hn _ (by omega)).trans (I.m j hj)⟩
theorem CI.y89 (I : CI G (h) (i) (A) (B) (fin) (n) (lf) (b) (y) (sz) (old) (w) (c) (f) (ln) (rz) (it) (im)) {z : Nat → Nat} : CI G (yc G h (89) z) (i) (A) (B) (fin) (n) (lf) (b) (y) (sz) (old) (w) (c) (f) (ln) (rz) (it) (im) := by
  have hL := I.L
  have hl : (yc G h (89) z).length = 136 := yc_len.trans hL
  have hn : ∀ j : Nat, j < 89 ∨ 89 + 2 < j → (yc G h (89) z)[j]? = h[j]? := fun j hj => yc_n hj
  exact ⟨hl, (hn _ (by omega)).trans I.o, (hn _ (by omega)).trans I.rs, (hn _ (by omega)).trans I.is, (hn _ (by omega)).trans I.pq, (hn _ (by omega)).trans I.sq, (let ⟨s, e, v, x, tok, q⟩ := I.t; ⟨s, e, v, x, tok, (hn _ (by omega)).trans q⟩), (hn _ (by omega)).trans I.tb, (let ⟨z, q⟩ := I.d; ⟨z, q.of hn (by omega)⟩), I.yd.of hn (by omega), (hn _ (by omega)).trans I.p, fun k hk => (I.pw k hk).of hn (by omega), (let ⟨g, q⟩ := I.s; ⟨g, (hn _ (by omega)).trans q⟩), (let ⟨g, q⟩ := I.sw; ⟨g, (hn _ (by omega)).trans q⟩), (let ⟨g, q⟩ := I.sg; ⟨g, (hn _ (by omega)).trans q⟩), ⟨z, Yat.mk' (by omega)⟩, (let ⟨z, q⟩ := I.s1; ⟨z, q.of hn (by omega)⟩), (let ⟨z, q⟩ := I.s2; ⟨z, q.of hn (by omega)⟩), (hn _ (by omega)).trans I.a, (hn _ (by omega)).trans I.al, fun k hk => (I.rw k hk).of hn (by omega), fun k hk => (I.iw k hk).of hn (by omega), fun j hj => (hn _ (by omega)).trans (I.m j hj)⟩
theorem CI.y92 (I : CI G (h) (i) (A) (B) (fin) (n) (lf) (b) (y) (sz) (old) (w) (c) (f) (ln) (rz) (it) (im)) {z : Nat → Nat} : CI G (yc G h (92) z) (i) (A) (B) (fin) (n) (lf) (b) (y) (sz) (old) (w) (c) (f) (ln) (rz) (it) (im) := by
  have hL := I.L
  have hl : (yc G h (92) z).length = 136 := yc_len.trans hL
  have hn : ∀ j : Nat, j < 92 ∨ 92 + 2 < j → (yc G h (92) z)[j]? = h[j]? := fun j hj => yc_n hj
  exact ⟨hl, (hn _ (by omega)).trans I.o, (hn _ (by omega)).trans I.rs, (hn _ (by omega)).trans I.is, (hn _ (by omega)).trans I.pq, (hn _ (by omega)).trans I.sq, (let ⟨s, e, v, x, tok, q⟩ := I.t; ⟨s, e, v, x, tok, (hn _ (by omega)).trans q⟩), (hn _ (by omega)).trans I.tb, (let ⟨z, q⟩ := I.d; ⟨z, q.of hn (by omega)⟩), I.yd.of hn (by omega), (hn _ (by omega)).trans I.p, fun k hk => (I.pw k hk).of hn (by omega), (let ⟨g, q⟩ := I.s; ⟨g, (hn _ (by omega)).trans q⟩), (let ⟨g, q⟩ := I.sw; ⟨g, (hn _ (by omega)).trans q⟩), (let ⟨g, q⟩ := I.sg; ⟨g, (hn _ (by omega)).trans q⟩), (let ⟨z, q⟩ := I.s0; ⟨z, q.of hn (by omega)⟩), ⟨z, Yat.mk' (by omega)⟩, (let ⟨z, q⟩ := I.s2; ⟨z, q.of hn (by omega)⟩), (hn _ (by omega)).trans I.a, (hn _ (by omega)).trans I.al, fun k hk => (I.rw k hk).of hn (by omega), fun k hk => (I.iw k hk).of hn (by omega), fun j hj => (hn _ (by omega)).trans (I.m j hj)⟩
theorem CI.y95 (I : CI G (h) (i) (A) (B) (fin) (n) (lf) (b) (y) (sz) (old) (w) (c) (f) (ln) (rz) (it) (im)) {z : Nat → Nat} : CI G (yc G h (95) z) (i) (A) (B) (fin) (n) (lf) (b) (y) (sz) (old) (w) (c) (f) (ln) (rz) (it) (im) := by
  have hL := I.L
  have hl : (yc G h (95) z).length = 136 := yc_len.trans hL
  have hn : ∀ j : Nat, j < 95 ∨ 95 + 2 < j → (yc G h (95) z)[j]? = h[j]? := fun j hj => yc_n hj
  exact ⟨hl, (hn _ (by omega)).trans I.o, (hn _ (by omega)).trans I.rs, (hn _ (by omega)).trans I.is, (hn _ (by omega)).trans I.pq, (hn _ (by omega)).trans I.sq, (let ⟨s, e, v, x, tok, q⟩ := I.t; ⟨s, e, v, x, tok, (hn _ (by omega)).trans q⟩), (hn _ (by omega)).trans I.tb, (let ⟨z, q⟩ := I.d; ⟨z, q.of hn (by omega)⟩), I.yd.of hn (by omega), (hn _ (by omega)).trans I.p, fun k hk => (I.pw k hk).of hn (by omega), (let ⟨g, q⟩ := I.s; ⟨g, (hn _ (by omega)).trans q⟩), (let ⟨g, q⟩ := I.sw; ⟨g, (hn _ (by omega)).trans q⟩), (let ⟨g, q⟩ := I.sg; ⟨g, (hn _ (by omega)).trans q⟩), (let ⟨z, q⟩ := I.s0; ⟨z, q.of hn (by omega)⟩), (let ⟨z, q⟩ := I.s1; ⟨z, q.of hn (by omega)⟩), ⟨z, Yat.mk' (by omega)⟩, (hn _ (by omega)).trans I.a, (hn _ (by omega)).trans I.al, fun k hk => (I.rw k hk).of hn (by omega), fun k hk => (I.iw k hk).of hn (by omega), fun j hj => (hn _ (by omega)).trans (I.m j hj)⟩
theorem CI.yp (I : CI G (h) (i) (A) (B) (fin) (n) (lf) (b) (y) (sz) (old) (w) (c) (f) (ln) (rz) (it) (im)) {z : Nat → Nat} {q : Nat} (hq : q < 24) : CI G (yc G h (12 + 3 * q) z) (i) (A) (B) (fin) (n) (lf) (b) (y) (sz) (old) (va_up w q z) (c) (f) (ln) (rz) (it) (im) := by
  have hL := I.L
  have hl : (yc G h (12 + 3 * q) z).length = 136 := yc_len.trans hL
  have hn : ∀ j : Nat, j < 12 + 3 * q ∨ 12 + 3 * q + 2 < j → (yc G h (12 + 3 * q) z)[j]? = h[j]? := fun j hj => yc_n hj
  exact ⟨hl, (hn _ (by omega)).trans I.o, (hn _ (by omega)).trans I.rs, (hn _ (by omega)).trans I.is, (hn _ (by omega)).trans I.pq, (hn _ (by omega)).trans I.sq, (let ⟨s, e, v, x, tok, q⟩ := I.t; ⟨s, e, v, x, tok, (hn _ (by omega)).trans q⟩), (hn _ (by omega)).trans I.tb, (let ⟨z, q⟩ := I.d; ⟨z, q.of hn (by omega)⟩), I.yd.of hn (by omega), (hn _ (by omega)).trans I.p, fun k hk => (by
    by_cases e : k = q
    · subst e
      rw [up_eq]
      exact Yat.mk' (by omega)
    · rw [upw e]
      exact (I.pw k hk).of hn (by omega)), (let ⟨g, q⟩ := I.s; ⟨g, (hn _ (by omega)).trans q⟩), (let ⟨g, q⟩ := I.sw; ⟨g, (hn _ (by omega)).trans q⟩), (let ⟨g, q⟩ := I.sg; ⟨g, (hn _ (by omega)).trans q⟩), (let ⟨z, q⟩ := I.s0; ⟨z, q.of hn (by omega)⟩), (let ⟨z, q⟩ := I.s1; ⟨z, q.of hn (by omega)⟩), (let ⟨z, q⟩ := I.s2; ⟨z, q.of hn (by omega)⟩), (hn _ (by omega)).trans I.a, (hn _ (by omega)).trans I.al, fun k hk => (I.rw k hk).of hn (by omega), fun k hk => (I.iw k hk).of hn (by omega), fun j hj => (hn _ (by omega)).trans (I.m j hj)⟩
theorem CI.yi (I : CI G (h) (i) (A) (B) (fin) (n) (lf) (b) (y) (sz) (old) (w) (c) (f) (ln) (rz) (it) (im)) {z : Nat → Nat} {q : Nat} (hq : q < 2) : CI G (yc G h (116 + 3 * q) z) (i) (A) (B) (fin) (n) (lf) (b) (y) (sz) (old) (w) (c) (f) (ln) (rz) (it) (va_up im q z) := by
  have hL := I.L
  have hl : (yc G h (116 + 3 * q) z).length = 136 := yc_len.trans hL
  have hn : ∀ j : Nat, j < 116 + 3 * q ∨ 116 + 3 * q + 2 < j → (yc G h (116 + 3 * q) z)[j]? = h[j]? := fun j hj => yc_n hj
  exact ⟨hl, (hn _ (by omega)).trans I.o, (hn _ (by omega)).trans I.rs, (hn _ (by omega)).trans I.is, (hn _ (by omega)).trans I.pq, (hn _ (by omega)).trans I.sq, (let ⟨s, e, v, x, tok, q⟩ := I.t; ⟨s, e, v, x, tok, (hn _ (by omega)).trans q⟩), (hn _ (by omega)).trans I.tb, (let ⟨z, q⟩ := I.d; ⟨z, q.of hn (by omega)⟩), I.yd.of hn (by omega), (hn _ (by omega)).trans I.p, fun k hk => (I.pw k hk).of hn (by omega), (let ⟨g, q⟩ := I.s; ⟨g, (hn _ (by omega)).trans q⟩), (let ⟨g, q⟩ := I.sw; ⟨g, (hn _ (by omega)).trans q⟩), (let ⟨g, q⟩ := I.sg; ⟨g, (hn _ (by omega)).trans q⟩), (let ⟨z, q⟩ := I.s0; ⟨z, q.of hn (by omega)⟩), (let ⟨z, q⟩ := I.s1; ⟨z, q.of hn (by omega)⟩), (let ⟨z, q⟩ := I.s2; ⟨z, q.of hn (by omega)⟩), (hn _ (by omega)).trans I.a, (hn _ (by omega)).trans I.al, fun k hk => (I.rw k hk).of hn (by omega), fun k hk => (by
    by_cases e : k = q
    · subst e
      rw [up_eq]
      exact Yat.mk' (by omega)
    · rw [upw e]
      exact (I.iw k hk).of hn (by omega)), fun j hj => (hn _ (by omega)).trans (I.m j hj)⟩
theorem CI.f0 (I : CI G (h) (i) (A) (B) (fin) (n) (lf) (b) (y) (sz) (old) (w) (c) (f) (ln) (rz) (it) (im)) {z : Nat} : CI G (h.set 0 (dcl G z)) (i) (A) (B) (z) (n) (lf) (b) (y) (sz) (old) (w) (c) (f) (ln) (rz) (it) (im) := by
  have hL := I.L
  have hl : (h.set 0 (dcl G z)).length = 136 := List.length_set.trans hL
  have hs : (h.set 0 (dcl G z))[0]? = some (dcl G z) := List.getElem?_set_self (by omega)
  have hn : ∀ j : Nat, j < 0 ∨ 0 < j → (h.set 0 (dcl G z))[j]? = h[j]? := fun j hj => List.getElem?_set_ne (by omega)
  exact ⟨hl, hs, (hn _ (by omega)).trans I.rs, (hn _ (by omega)).trans I.is, (hn _ (by omega)).trans I.pq, (hn _ (by omega)).trans I.sq, (let ⟨s, e, v, x, tok, q⟩ := I.t; ⟨s, e, v, x, tok, (hn _ (by omega)).trans q⟩), (hn _ (by omega)).trans I.tb, (let ⟨z, q⟩ := I.d; ⟨z, q.of hn (by omega)⟩), I.yd.of hn (by omega), (hn _ (by omega)).trans I.p, fun k hk => (I.pw k hk).of hn (by omega), (let ⟨g, q⟩ := I.s; ⟨g, (hn _ (by omega)).trans q⟩), (let ⟨g, q⟩ := I.sw; ⟨g, (hn _ (by omega)).trans q⟩), (let ⟨g, q⟩ := I.sg; ⟨g, (hn _ (by omega)).trans q⟩), (let ⟨z, q⟩ := I.s0; ⟨z, q.of hn (by omega)⟩), (let ⟨z, q⟩ := I.s1; ⟨z, q.of hn (by omega)⟩), (let ⟨z, q⟩ := I.s2; ⟨z, q.of hn (by omega)⟩), (hn _ (by omega)).trans I.a, (hn _ (by omega)).trans I.al, fun k hk => (I.rw k hk).of hn (by omega), fun k hk => (I.iw k hk).of hn (by omega), fun j hj => (hn _ (by omega)).trans (I.m j hj)⟩
theorem CI.p10 (I : CI G (h) (i) (A) (B) (fin) (n) (lf) (b) (y) (sz) (old) (w) (c) (f) (ln) (rz) (it) (im)) {z z1 : Nat} : CI G (h.set 10 (pcl G z z1)) (i) (A) (B) (fin) (n) (lf) (b) (y) (z) (z1) (w) (c) (f) (ln) (rz) (it) (im) := by
  have hL := I.L
  have hl : (h.set 10 (pcl G z z1)).length = 136 := List.length_set.trans hL
  have hs : (h.set 10 (pcl G z z1))[10]? = some (pcl G z z1) := List.getElem?_set_self (by omega)
  have hn : ∀ j : Nat, j < 10 ∨ 10 < j → (h.set 10 (pcl G z z1))[j]? = h[j]? := fun j hj => List.getElem?_set_ne (by omega)
  exact ⟨hl, (hn _ (by omega)).trans I.o, (hn _ (by omega)).trans I.rs, (hn _ (by omega)).trans I.is, (hn _ (by omega)).trans I.pq, (hn _ (by omega)).trans I.sq, (let ⟨s, e, v, x, tok, q⟩ := I.t; ⟨s, e, v, x, tok, (hn _ (by omega)).trans q⟩), (hn _ (by omega)).trans I.tb, (let ⟨z, q⟩ := I.d; ⟨z, q.of hn (by omega)⟩), I.yd.of hn (by omega), hs, fun k hk => (I.pw k hk).of hn (by omega), (let ⟨g, q⟩ := I.s; ⟨g, (hn _ (by omega)).trans q⟩), (let ⟨g, q⟩ := I.sw; ⟨g, (hn _ (by omega)).trans q⟩), (let ⟨g, q⟩ := I.sg; ⟨g, (hn _ (by omega)).trans q⟩), (let ⟨z, q⟩ := I.s0; ⟨z, q.of hn (by omega)⟩), (let ⟨z, q⟩ := I.s1; ⟨z, q.of hn (by omega)⟩), (let ⟨z, q⟩ := I.s2; ⟨z, q.of hn (by omega)⟩), (hn _ (by omega)).trans I.a, (hn _ (by omega)).trans I.al, fun k hk => (I.rw k hk).of hn (by omega), fun k hk => (I.iw k hk).of hn (by omega), fun j hj => (hn _ (by omega)).trans (I.m j hj)⟩
theorem CI.s85 (I : CI G (h) (i) (A) (B) (fin) (n) (lf) (b) (y) (sz) (old) (w) (c) (f) (ln) (rz) (it) (im)) {z : Nat} : CI G (h.set 85 (scl G z)) (i) (A) (B) (fin) (n) (lf) (b) (y) (sz) (old) (w) (c) (f) (ln) (rz) (it) (im) := by
  have hL := I.L
  have hl : (h.set 85 (scl G z)).length = 136 := List.length_set.trans hL
  have hs : (h.set 85 (scl G z))[85]? = some (scl G z) := List.getElem?_set_self (by omega)
  have hn : ∀ j : Nat, j < 85 ∨ 85 < j → (h.set 85 (scl G z))[j]? = h[j]? := fun j hj => List.getElem?_set_ne (by omega)
  exact ⟨hl, (hn _ (by omega)).trans I.o, (hn _ (by omega)).trans I.rs, (hn _ (by omega)).trans I.is, (hn _ (by omega)).trans I.pq, (hn _ (by omega)).trans I.sq, (let ⟨s, e, v, x, tok, q⟩ := I.t; ⟨s, e, v, x, tok, (hn _ (by omega)).trans q⟩), (hn _ (by omega)).trans I.tb, (let ⟨z, q⟩ := I.d; ⟨z, q.of hn (by omega)⟩), I.yd.of hn (by omega), (hn _ (by omega)).trans I.p, fun k hk => (I.pw k hk).of hn (by omega), ⟨_, hs⟩, (let ⟨g, q⟩ := I.sw; ⟨g, (hn _ (by omega)).trans q⟩), (let ⟨g, q⟩ := I.sg; ⟨g, (hn _ (by omega)).trans q⟩), (let ⟨z, q⟩ := I.s0; ⟨z, q.of hn (by omega)⟩), (let ⟨z, q⟩ := I.s1; ⟨z, q.of hn (by omega)⟩), (let ⟨z, q⟩ := I.s2; ⟨z, q.of hn (by omega)⟩), (hn _ (by omega)).trans I.a, (hn _ (by omega)).trans I.al, fun k hk => (I.rw k hk).of hn (by omega), fun k hk => (I.iw k hk).of hn (by omega), fun j hj => (hn _ (by omega)).trans (I.m j hj)⟩
theorem CI.s86 (I : CI G (h) (i) (A) (B) (fin) (n) (lf) (b) (y) (sz) (old) (w) (c) (f) (ln) (rz) (it) (im)) {g : Nat → Nat} : CI G (h.set 86 (qI G 3 (tr 3 (fun k => nI (g k))))) (i) (A) (B) (fin) (n) (lf) (b) (y) (sz) (old) (w) (c) (f) (ln) (rz) (it) (im) := by
  have hL := I.L
  have hl : (h.set 86 (qI G 3 (tr 3 (fun k => nI (g k))))).length = 136 := List.length_set.trans hL
  have hs : (h.set 86 (qI G 3 (tr 3 (fun k => nI (g k)))))[86]? = some (qI G 3 (tr 3 (fun k => nI (g k)))) := List.getElem?_set_self (by omega)
  have hn : ∀ j : Nat, j < 86 ∨ 86 < j → (h.set 86 (qI G 3 (tr 3 (fun k => nI (g k)))))[j]? = h[j]? := fun j hj => List.getElem?_set_ne (by omega)
  exact ⟨hl, (hn _ (by omega)).trans I.o, (hn _ (by omega)).trans I.rs, (hn _ (by omega)).trans I.is, (hn _ (by omega)).trans I.pq, (hn _ (by omega)).trans I.sq, (let ⟨s, e, v, x, tok, q⟩ := I.t; ⟨s, e, v, x, tok, (hn _ (by omega)).trans q⟩), (hn _ (by omega)).trans I.tb, (let ⟨z, q⟩ := I.d; ⟨z, q.of hn (by omega)⟩), I.yd.of hn (by omega), (hn _ (by omega)).trans I.p, fun k hk => (I.pw k hk).of hn (by omega), (let ⟨g, q⟩ := I.s; ⟨g, (hn _ (by omega)).trans q⟩), ⟨_, hs⟩, (let ⟨g, q⟩ := I.sg; ⟨g, (hn _ (by omega)).trans q⟩), (let ⟨z, q⟩ := I.s0; ⟨z, q.of hn (by omega)⟩), (let ⟨z, q⟩ := I.s1; ⟨z, q.of hn (by omega)⟩), (let ⟨z, q⟩ := I.s2; ⟨z, q.of hn (by omega)⟩), (hn _ (by omega)).trans I.a, (hn _ (by omega)).trans I.al, fun k hk => (I.rw k hk).of hn (by omega), fun k hk => (I.iw k hk).of hn (by omega), fun j hj => (hn _ (by omega)).trans (I.m j hj)⟩
theorem CI.s87 (I : CI G (h) (i) (A) (B) (fin) (n) (lf) (b) (y) (sz) (old) (w) (c) (f) (ln) (rz) (it) (im)) {g : Nat → Nat} : CI G (h.set 87 (qI G 3 (tr 3 (fun k => nI (g k))))) (i) (A) (B) (fin) (n) (lf) (b) (y) (sz) (old) (w) (c) (f) (ln) (rz) (it) (im) := by
  have hL := I.L
  have hl : (h.set 87 (qI G 3 (tr 3 (fun k => nI (g k))))).length = 136 := List.length_set.trans hL
  have hs : (h.set 87 (qI G 3 (tr 3 (fun k => nI (g k)))))[87]? = some (qI G 3 (tr 3 (fun k => nI (g k)))) := List.getElem?_set_self (by omega)
  have hn : ∀ j : Nat, j < 87 ∨ 87 < j → (h.set 87 (qI G 3 (tr 3 (fun k => nI (g k)))))[j]? = h[j]? := fun j hj => List.getElem?_set_ne (by omega)
  exact ⟨hl, (hn _ (by omega)).trans I.o, (hn _ (by omega)).trans I.rs, (hn _ (by omega)).trans I.is, (hn _ (by omega)).trans I.pq, (hn _ (by omega)).trans I.sq, (let ⟨s, e, v, x, tok, q⟩ := I.t; ⟨s, e, v, x, tok, (hn _ (by omega)).trans q⟩), (hn _ (by omega)).trans I.tb, (let ⟨z, q⟩ := I.d; ⟨z, q.of hn (by omega)⟩), I.yd.of hn (by omega), (hn _ (by omega)).trans I.p, fun k hk => (I.pw k hk).of hn (by omega), (let ⟨g, q⟩ := I.s; ⟨g, (hn _ (by omega)).trans q⟩), (let ⟨g, q⟩ := I.sw; ⟨g, (hn _ (by omega)).trans q⟩), ⟨_, hs⟩, (let ⟨z, q⟩ := I.s0; ⟨z, q.of hn (by omega)⟩), (let ⟨z, q⟩ := I.s1; ⟨z, q.of hn (by omega)⟩), (let ⟨z, q⟩ := I.s2; ⟨z, q.of hn (by omega)⟩), (hn _ (by omega)).trans I.a, (hn _ (by omega)).trans I.al, fun k hk => (I.rw k hk).of hn (by omega), fun k hk => (I.iw k hk).of hn (by omega), fun j hj => (hn _ (by omega)).trans (I.m j hj)⟩
theorem CI.aca (I : CI G (h) (i) (A) (B) (fin) (n) (lf) (b) (y) (sz) (old) (w) (c) (f) (ln) (rz) (it) (im)) {z : Nat} {g : Nat → Nat} : CI G (ac G h z g) (i) (A) (B) (fin) (n) (lf) (b) (y) (sz) (old) (w) (z) (g) (ln) (rz) (it) (im) := by
  have hL := I.L
  have hl : (ac G h z g).length = 136 := by
    show ((h.set 98 _).set 99 _).length = 136
    rw [List.length_set, List.length_set, hL]
  have hn : ∀ j : Nat, j < 98 ∨ 99 < j → (ac G h z g)[j]? = h[j]? := fun j hj => ac_n hj
  exact ⟨hl, (hn _ (by omega)).trans I.o, (hn _ (by omega)).trans I.rs, (hn _ (by omega)).trans I.is, (hn _ (by omega)).trans I.pq, (hn _ (by omega)).trans I.sq, (let ⟨s, e, v, x, tok, q⟩ := I.t; ⟨s, e, v, x, tok, (hn _ (by omega)).trans q⟩), (hn _ (by omega)).trans I.tb, (let ⟨z, q⟩ := I.d; ⟨z, q.of hn (by omega)⟩), I.yd.of hn (by omega), (hn _ (by omega)).trans I.p, fun k hk => (I.pw k hk).of hn (by omega), (let ⟨g, q⟩ := I.s; ⟨g, (hn _ (by omega)).trans q⟩), (let ⟨g, q⟩ := I.sw; ⟨g, (hn _ (by omega)).trans q⟩), (let ⟨g, q⟩ := I.sg; ⟨g, (hn _ (by omega)).trans q⟩), (let ⟨z, q⟩ := I.s0; ⟨z, q.of hn (by omega)⟩), (let ⟨z, q⟩ := I.s1; ⟨z, q.of hn (by omega)⟩), (let ⟨z, q⟩ := I.s2; ⟨z, q.of hn (by omega)⟩), ac_o (by omega), ac_l (by omega), fun k hk => (I.rw k hk).of hn (by omega), fun k hk => (I.iw k hk).of hn (by omega), fun j hj => (hn _ (by omega)).trans (I.m j hj)⟩
theorem CI.xca (I : CI G (h) (i) (A) (B) (fin) (n) (lf) (b) (y) (sz) (old) (w) (c) (f) (ln) (rz) (it) (im)) {n' lf' s e v x : Nat} {tok : Int32} {b' : Nat → Nat} : CI G (xc G h n' lf' s e v x tok b') (i) (A) (B) (fin) (n') (lf') (b') (y) (sz) (old) (w) (c) (f) (ln) (rz) (it) (im) := by
  have hL := I.L
  have hl : (xc G h n' lf' s e v x tok b').length = 136 := xc_len.trans hL
  have hm : ∀ j : Nat, j ≠ 2 → j ≠ 6 → (xc G h n' lf' s e v x tok b')[j]? = h[j]? := fun j h2 h6 => xc_n h2 h6
  have hn : ∀ j : Nat, j < 2 ∨ 6 < j → (xc G h n' lf' s e v x tok b')[j]? = h[j]? := fun j hj => xc_n (by omega) (by omega)
  obtain ⟨z, q⟩ := I.d
  exact ⟨hl, (hn _ (by omega)).trans I.o, (hn _ (by omega)).trans I.rs, (hn _ (by omega)).trans I.is, (hn _ (by omega)).trans I.pq, (hn _ (by omega)).trans I.sq, ⟨s, e, v, x, tok, xc_o (by omega)⟩, xc_b (by omega), ⟨z, (hm _ (by decide) (by decide)).trans q.o, (hm _ (by decide) (by decide)).trans q.k, (hm _ (by decide) (by decide)).trans q.m⟩, I.yd.of hn (by omega), (hn _ (by omega)).trans I.p, fun k hk => (I.pw k hk).of hn (by omega), (let ⟨g, q⟩ := I.s; ⟨g, (hn _ (by omega)).trans q⟩), (let ⟨g, q⟩ := I.sw; ⟨g, (hn _ (by omega)).trans q⟩), (let ⟨g, q⟩ := I.sg; ⟨g, (hn _ (by omega)).trans q⟩), (let ⟨z, q⟩ := I.s0; ⟨z, q.of hn (by omega)⟩), (let ⟨z, q⟩ := I.s1; ⟨z, q.of hn (by omega)⟩), (let ⟨z, q⟩ := I.s2; ⟨z, q.of hn (by omega)⟩), (hn _ (by omega)).trans I.a, (hn _ (by omega)).trans I.al, fun k hk => (I.rw k hk).of hn (by omega), fun k hk => (I.iw k hk).of hn (by omega), fun j hj => (hn _ (by omega)).trans (I.m j hj)⟩
theorem Rat.mk' {a : Nat} {x1 x2 : Int32} {g : Nat → Int32} (ha : a + 1 < h.length) : Rat G (rc G h a x1 x2 g) a x1 x2 g := by
  unfold Rat rc
  refine ⟨?_, ?_⟩
  · rw [List.getElem?_set_ne (by omega), List.getElem?_set_self (by omega)]
  · rw [List.getElem?_set_self (by rw [List.length_set]; omega)]
theorem CI.rca (I : CI G (h) (i) (A) (B) (fin) (n) (lf) (b) (y) (sz) (old) (w) (c) (f) (ln) (rz) (it) (im)) {q : Nat} (hq : q < 8) {x1 x2 : Int32} {g : Nat → Int32} : CI G (rc G h (100 + 2 * q) x1 x2 g) (i) (A) (B) (fin) (n) (lf) (b) (y) (sz) (old) (w) (c) (f) (va_up ln q x1) (va_up rz q x2) (va_up it q g) (im) := by
  have hL := I.L
  have hl : (rc G h (100 + 2 * q) x1 x2 g).length = 136 := by
    show ((h.set _ _).set _ _).length = 136
    rw [List.length_set, List.length_set, hL]
  have hn : ∀ j : Nat, j < 100 + 2 * q ∨ 100 + 2 * q + 1 < j → (rc G h (100 + 2 * q) x1 x2 g)[j]? = h[j]? := fun j hj => rc_n hj
  exact ⟨hl, (hn _ (by omega)).trans I.o, (hn _ (by omega)).trans I.rs, (hn _ (by omega)).trans I.is, (hn _ (by omega)).trans I.pq, (hn _ (by omega)).trans I.sq, (let ⟨s, e, v, x, tok, q⟩ := I.t; ⟨s, e, v, x, tok, (hn _ (by omega)).trans q⟩), (hn _ (by omega)).trans I.tb, (let ⟨z, q⟩ := I.d; ⟨z, q.of hn (by omega)⟩), I.yd.of hn (by omega), (hn _ (by omega)).trans I.p, fun k hk => (I.pw k hk).of hn (by omega), (let ⟨g, q⟩ := I.s; ⟨g, (hn _ (by omega)).trans q⟩), (let ⟨g, q⟩ := I.sw; ⟨g, (hn _ (by omega)).trans q⟩), (let ⟨g, q⟩ := I.sg; ⟨g, (hn _ (by omega)).trans q⟩), (let ⟨z, q⟩ := I.s0; ⟨z, q.of hn (by omega)⟩), (let ⟨z, q⟩ := I.s1; ⟨z, q.of hn (by omega)⟩), (let ⟨z, q⟩ := I.s2; ⟨z, q.of hn (by omega)⟩), (hn _ (by omega)).trans I.a, (hn _ (by omega)).trans I.al, fun k hk => (by
    by_cases e : k = q
    · subst e
      rw [up_eq, up_eq, up_eq]
      exact Rat.mk' (by omega)
    · rw [upw e, upw e, upw e]
      exact (I.rw k hk).of hn (by omega)), fun k hk => (I.iw k hk).of hn (by omega), fun j hj => (hn _ (by omega)).trans (I.m j hj)⟩
/-- the reference lies behind the class -/
theorem CI.hma (I : CI G (h) (i) (A) (B) (fin) (n) (lf) (b) (y) (sz) (old) (w) (c) (f) (ln) (rz) (it) (im)) : ∃ U : List va_E, U.length = 122 ∧ h = hm G U i A B := by
  have hL := I.L
  refine ⟨h.take 122, by rw [List.length_take]; omega, ?_⟩
  apply List.ext_getElem?
  intro j
  unfold hm
  by_cases c : j < 122
  · rw [List.getElem?_append_left (by rw [List.length_take]; omega), List.getElem?_take, if_pos c]
  · rw [List.getElem?_append_right (by rw [List.length_take]; omega), List.length_take, Nat.min_eq_left (by omega)]
    by_cases d : j < 136
    · have := I.m (j - 122) (by omega)
      rw [show 122 + (j - 122) = j by omega] at this
      exact this
    · rw [List.getElem?_eq_none (by omega), List.getElem?_eq_none (by show 14 ≤ j - 122; omega)]
theorem CI.ref {U : List va_E} {i' : Nat → Nat} {A' : Nat → Nat → Nat} {B' : Nat → Nat → Int32} (hU : U.length = 122) (I : CI G (hm G U i A B) (i) (A) (B) (fin) (n) (lf) (b) (y) (sz) (old) (w) (c) (f) (ln) (rz) (it) (im)) : CI G (hm G U i' A' B') (i') (A') (B') (fin) (n) (lf) (b) (y) (sz) (old) (w) (c) (f) (ln) (rz) (it) (im) := by
  have hl : (hm G U i' A' B').length = 136 := by
    unfold hm
    rw [List.length_append, hU]
    rfl
  have hn : ∀ j : Nat, j < 122 ∨ 135 < j → (hm G U i' A' B')[j]? = (hm G U i A B)[j]? := by
    intro j hj
    unfold hm
    rcases hj with c | c
    · rw [List.getElem?_append_left (by omega), List.getElem?_append_left (by omega)]
    · rw [List.getElem?_eq_none (by rw [List.length_append, hU]; show 122 + 14 ≤ j; omega), List.getElem?_eq_none (by rw [List.length_append, hU]; show 122 + 14 ≤ j; omega)]
  exact ⟨hl, (hn _ (by omega)).trans I.o, (hn _ (by omega)).trans I.rs, (hn _ (by omega)).trans I.is, (hn _ (by omega)).trans I.pq, (hn _ (by omega)).trans I.sq, (let ⟨s, e, v, x, tok, q⟩ := I.t; ⟨s, e, v, x, tok, (hn _ (by omega)).trans q⟩), (hn _ (by omega)).trans I.tb, (let ⟨z, q⟩ := I.d; ⟨z, q.of hn (by omega)⟩), I.yd.of hn (by omega), (hn _ (by omega)).trans I.p, fun k hk => (I.pw k hk).of hn (by omega), (let ⟨g, q⟩ := I.s; ⟨g, (hn _ (by omega)).trans q⟩), (let ⟨g, q⟩ := I.sw; ⟨g, (hn _ (by omega)).trans q⟩), (let ⟨g, q⟩ := I.sg; ⟨g, (hn _ (by omega)).trans q⟩), (let ⟨z, q⟩ := I.s0; ⟨z, q.of hn (by omega)⟩), (let ⟨z, q⟩ := I.s1; ⟨z, q.of hn (by omega)⟩), (let ⟨z, q⟩ := I.s2; ⟨z, q.of hn (by omega)⟩), (hn _ (by omega)).trans I.a, (hn _ (by omega)).trans I.al, fun k hk => (I.rw k hk).of hn (by omega), fun k hk => (I.iw k hk).of hn (by omega), fun j hj => hm_at hU j⟩
/-- only what lies in the yard counts -/
theorem CI.yv (I : CI G (h) (i) (A) (B) (fin) (n) (lf) (b) (y) (sz) (old) (w) (c) (f) (ln) (rz) (it) (im)) {y' : Nat → Nat} (hy : ∀ k, k < 51 → y k = y' k) : CI G (h) (i) (A) (B) (fin) (n) (lf) (b) (y') (sz) (old) (w) (c) (f) (ln) (rz) (it) (im) := by
  have hl := I.L
  have hn : ∀ j : Nat, j < 0 ∨ 200 < j → h[j]? = h[j]? := fun j hj => rfl
  exact ⟨I.L, I.o, I.rs, I.is, I.pq, I.sq, I.t, I.tb, I.d, I.yd.c hy, I.p, I.pw, I.s, I.sw, I.sg, I.s0, I.s1, I.s2, I.a, I.al, I.rw, I.iw, I.m⟩
end
