section S_C2F
/-- an address at which nothing changes -/
def sam (S S1 : HS) (b : Nat) : Prop := hK S1 b = hK S b ∧ hN S1 b = hN S b ∧ (∀ i, hI S1 i b = hI S i b) ∧ (∀ i, hR S1 i b = hR S i b) ∧ hA S1 b = hA S b ∧ hB S1 b = hB S b
/-- nothing changes but what may -/
def frM (S S1 : HS) (M : Nat → Prop) : Prop := ∀ b, ¬ M b → hK S b ≠ 0 → sam S S1 b
theorem nz_of {n k : Nat} (h : n = k) (h0 : k ≠ 0) : n ≠ 0 := fun z => h0 (by rw [← h, z])
theorem RelT.fm {S S1 : HS} {M : Nat → Prop} {t n : Nat} {op : Prop} (h : RelT S M t n op) (hf : frM S S1 M) : RelT S1 M t n op := by
  obtain ⟨h1, h2, h3, h4, h5, h6, h7, h8⟩ := h
  obtain ⟨k, _, e, _⟩ := hf t h2 (nz_of h1 (by decide))
  exact ⟨by rw [k]; exact h1, h2, fun z => by rw [e]; exact h3 z, fun z => by rw [e]; exact h4 z, by rw [e]; exact h5, by rw [e]; exact h6, fun z => by rw [e]; exact h7 z, by rw [e]; exact h8⟩
theorem RelA.fm {S S1 : HS} {M : Nat → Prop} {y v a : Nat} {μ : Nat → Int32} (h : RelA S M y μ v a) (hf : frM S S1 M) : RelA S1 M y μ v a := by
  obtain ⟨h1, h2, h3, h4, h5, h6, al, ar, g1, g2, g3, g4, g5, g6, g7, g8, g9⟩ := h
  obtain ⟨ky, _, ey, ry, _⟩ := hf y h2 (nz_of h1 (by decide))
  obtain ⟨kl, _, el, rl, _⟩ := hf al g3 (nz_of g2 (by decide))
  obtain ⟨ka, na, _, _, _, ba⟩ := hf ar g6 (nz_of g5 (by decide))
  refine ⟨by rw [ky]; exact h1, h2, by rw [ey]; exact h3, by rw [ey]; exact h4, by rw [ey]; exact h5, by rw [ey]; exact h6, al, ar, by rw [ry]; exact g1, by rw [kl]; exact g2, g3, by rw [rl]; exact g4, by rw [ka]; exact g5, g6, by rw [el]; exact g7, by rw [na]; exact g8, fun j hj => ?_⟩
  obtain ⟨t, t1, t2⟩ := g9 j hj
  exact ⟨t, by rw [ba]; exact t1, t2.fm hf⟩
theorem fz.fm {S S1 : HS} {M : Nat → Prop} {b k n : Nat} (h : fz S M b k n) (h0 : k ≠ 0) (hf : frM S S1 M) : fz S1 M b k n ∧ hA S1 b = hA S b ∧ hB S1 b = hB S b := by
  obtain ⟨e1, e2, _, _, e5, e6⟩ := hf b h.2.2 (nz_of h.1 h0)
  exact ⟨⟨by rw [e1]; exact h.1, by rw [e2]; exact h.2.1, h.2.2⟩, e5, e6⟩
theorem RelSc.fm {S S1 : HS} {M : Nat → Prop} {y v z : Nat} {μ : Nat → Int32} (h : RelSc S M y μ v z) (hf : frM S S1 M) : RelSc S1 M y μ v z := by
  obtain ⟨h1, h2, h3, h4, w, p, g1, g2, g3, g4, g5⟩ := h
  obtain ⟨k, _, e, r, _⟩ := hf y h2 (nz_of h1 (by decide))
  obtain ⟨w1, w2, _⟩ := g3.fm (by decide) hf
  obtain ⟨p1, p2, _⟩ := g4.fm (by decide) hf
  refine ⟨by rw [k]; exact h1, h2, by rw [e]; exact h3, by rw [e]; exact h4, w, p, by rw [r]; exact g1, by rw [r]; exact g2, w1, p1, fun i hi => ?_⟩
  rw [w2, p2]
  exact g5 i hi
theorem RelS.fm {S S1 : HS} {M : Nat → Prop} {y s : Nat} {μ : Nat → Int32} (h : RelS S M y μ s) (hf : frM S S1 M) : RelS S1 M y μ s := by
  obtain ⟨h1, h2, h3, h4, h5, h6, h7, h8, h9, h10, b, g1, g2, g3⟩ := h
  obtain ⟨k, _, e, r, _⟩ := hf y h2 (nz_of h1 (by decide))
  obtain ⟨b1, b2, _⟩ := g2.fm (by decide) hf
  refine ⟨by rw [k]; exact h1, h2, by rw [e]; exact h3, by rw [e]; exact h4, by rw [e]; exact h5, by rw [e]; exact h6, by rw [e]; exact h7, by rw [e]; exact h8, by rw [e]; exact h9, by rw [e]; exact h10, b, by rw [r]; exact g1, b1, fun p hp => ?_⟩
  rw [b2]
  exact g3 p hp
theorem RelV.fm {S S1 : HS} {M : Nat → Prop} {y v : Nat} {μ : Nat → Int32} (h : RelV S M y μ v) (hf : frM S S1 M) : RelV S1 M y μ v := by
  obtain ⟨⟨h1, h2, h3, h4, h5, h6, h7, h8⟩, ⟨fa, t, z, r1, r2, r3, z1, z2, z3, hh⟩, ⟨sc, r4, z4, hs⟩, ⟨ac, r5, z5, ha⟩⟩ := h
  obtain ⟨k, _, e, r, _⟩ := hf y h2 (nz_of h1 (by decide))
  obtain ⟨a1, a2, _⟩ := z1.fm (by decide) hf
  obtain ⟨b1, b2, _⟩ := z2.fm (by decide) hf
  obtain ⟨c1, c2, _⟩ := z3.fm (by decide) hf
  obtain ⟨d1, _, d2⟩ := z4.fm (by decide) hf
  obtain ⟨e1, _, e2⟩ := z5.fm (by decide) hf
  refine ⟨⟨by rw [k]; exact h1, h2, by rw [e]; exact h3, by rw [e]; exact h4, by rw [e]; exact h5, by rw [e]; exact h6, by rw [e]; exact h7, by rw [e]; exact h8⟩, ⟨fa, t, z, by rw [r]; exact r1, by rw [r]; exact r2, by rw [r]; exact r3, a1, b1, c1, fun i hi => ?_⟩, ⟨sc, by rw [r]; exact r4, d1, fun w hw => ?_⟩, ⟨ac, by rw [r]; exact r5, e1, fun a ha9 => ?_⟩⟩
  · rw [a2, b2, c2]
    exact hh i hi
  · obtain ⟨u, u1, u2⟩ := hs w hw
    exact ⟨u, by rw [d2]; exact u1, u2.fm hf⟩
  · rw [e2]
    rcases ha a ha9 with h | ⟨u1, u, u2, u3⟩
    · exact Or.inl h
    · exact Or.inr ⟨u1, u, u2, u3.fm hf⟩
/-- a state's own object and rows -/
def stA (S : HS) (y b : Nat) : Prop := b = y ∨ hR S 140 y = some b ∨ hR S 142 y = some b ∨ hR S 144 y = some b ∨ hR S 145 y = some b
theorem RelSt.fm {S S1 : HS} {M : Nat → Prop} {y : Nat} {μ : Nat → Int32} (h : RelSt S M y μ) (hf : frM S S1 M) (hs : ∀ b, stA S y b → sam S S1 b) : RelSt S1 M y μ := by
  obtain ⟨⟨h1, h2, h3, h4, h5⟩, ⟨b, r1, k1, n1, hb⟩, ⟨c, r2, k2, n2, hc⟩, ⟨t, p, r3, r4, k3, k4, n3, n4, ht⟩⟩ := h
  obtain ⟨ky, _, ey, ry, _⟩ := hs y (Or.inl rfl)
  obtain ⟨kb, nb, _, _, _, bb⟩ := hs b (Or.inr (Or.inl r1))
  obtain ⟨kc, nc, _, _, _, bc⟩ := hs c (Or.inr (Or.inr (Or.inl r2)))
  obtain ⟨kt, nt, _, _, at_, _⟩ := hs t (Or.inr (Or.inr (Or.inr (Or.inl r3))))
  obtain ⟨kp, np, _, _, ap, _⟩ := hs p (Or.inr (Or.inr (Or.inr (Or.inr r4))))
  refine ⟨⟨by rw [ky]; exact h1, by rw [ey]; exact h2, by rw [ey]; exact h3, by rw [ey]; exact h4, by rw [ey]; exact h5⟩, ⟨b, by rw [ry]; exact r1, by rw [kb]; exact k1, by rw [nb]; exact n1, fun v hv => ?_⟩, ⟨c, by rw [ry]; exact r2, by rw [kc]; exact k2, by rw [nc]; exact n2, fun s hs => ?_⟩, ⟨t, p, by rw [ry]; exact r3, by rw [ry]; exact r4, by rw [kt]; exact k3, by rw [kp]; exact k4, by rw [nt]; exact n3, by rw [np]; exact n4, fun i hi => ?_⟩⟩
  · obtain ⟨u, u1, u2⟩ := hb v hv
    exact ⟨u, by rw [bb]; exact u1, u2.fm hf⟩
  · obtain ⟨u, u1, u2⟩ := hc s hs
    exact ⟨u, by rw [bc]; exact u1, u2.fm hf⟩
  · rw [at_, ap]
    exact ht i hi
theorem sam.rf {S : HS} {b : Nat} : sam S S b := ⟨rfl, rfl, fun _ => rfl, fun _ => rfl, rfl, rfl⟩
theorem sam.tr {S S1 S2 : HS} {b : Nat} (h : sam S S1 b) (h2 : sam S1 S2 b) : sam S S2 b := ⟨h2.1.trans h.1, h2.2.1.trans h.2.1, fun i => (h2.2.2.1 i).trans (h.2.2.1 i), fun i => (h2.2.2.2.1 i).trans (h.2.2.2.1 i), h2.2.2.2.2.1.trans h.2.2.2.2.1, h2.2.2.2.2.2.trans h.2.2.2.2.2⟩
theorem frM.tr {S S1 S2 : HS} {M : Nat → Prop} (h : frM S S1 M) (h2 : frM S1 S2 M) : frM S S2 M := fun b hb h0 => (h b hb h0).tr (h2 b hb (by rw [(h b hb h0).1]; exact h0))
theorem frP.sam {S S1 : HS} {x b : Nat} {a : Nat → Nat} {I J : List Nat} (h : frP S S1 x a I J) (hx : b ≠ x) (hj : ∀ j, j ∈ J → b ≠ a j) : sam S S1 b := ⟨by rw [h.1], by rw [h.2.1], fun i => h.2.2.2.2.1 i b (Or.inl hx), fun i => by rw [h.2.2.1], h.2.2.2.2.2 b hj, by rw [h.2.2.2.1]⟩
theorem frP.M {S S1 : HS} {x : Nat} {a : Nat → Nat} {I J : List Nat} {M : Nat → Prop} (h : frP S S1 x a I J) (hx : M x) (ha : ∀ j, j ∈ J → M (a j)) : frM S S1 M := fun _ hb _ => h.sam (fun z => hb (by rw [z]; exact hx)) (fun j hj z => hb (by rw [z]; exact ha j hj))
theorem frR.sam {S S1 : HS} {x b : Nat} (h : frR S S1 x) (hx : b ≠ x) (h1 : hR S 61 x ≠ some b) (h2 : hR S 62 x ≠ some b) : sam S S1 b := ⟨by rw [h.1], by rw [h.2.1], fun i => h.2.2.2.1 i b hx, fun i => by rw [h.2.2.1], h.2.2.2.2.1 b h2, h.2.2.2.2.2 b h1⟩
theorem frR.M {S S1 : HS} {x : Nat} {M : Nat → Prop} (h : frR S S1 x) (hx : M x) (h1 : ∀ b, hR S 61 x = some b → M b) (h2 : ∀ b, hR S 62 x = some b → M b) : frM S S1 M := fun b hb _ => h.sam (fun z => hb (by rw [z]; exact hx)) (fun z => hb (h1 b z)) (fun z => hb (h2 b z))

end S_C2F
