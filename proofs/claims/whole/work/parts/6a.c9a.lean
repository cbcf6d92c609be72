section S_C9A
/-- a row of numbers in order -/
def GWF (μ : Nat → Int32) : Prop := WF μ ∧ WFR μ ∧ stO μ ∧ WFP μ
/-- the rater's own objects and rows: ten states (now, saved, eight past) with four rows each; 50 the rater, 51 the past, 52 the input, 53 the sheet, 54 to 56 the rating, 57 to 63 the plan -/
def fxK (i : Nat) : Nat := if i < 50 then (if i % 5 = 0 then 7 else if i % 5 = 1 then 29 else if i % 5 = 2 then 27 else 22) else if i = 50 then 11 else if i = 51 then 28 else if i = 52 then 21 else if i = 53 then 12 else if i = 54 then 3 else if i = 55 then 27 else if i = 57 then 2 else 22
def fxN (i : Nat) : Nat := if i < 50 then (if i % 5 = 1 then 6 else if i % 5 = 2 then 10 else 5) else if i = 51 then 8 else if i = 52 then 80 else if i = 63 then 8 else if 58 ≤ i then 256 else 10
def fxA (i : Nat) : Prop := (i < 50 ∧ ¬ i % 5 = 0) ∨ i = 51 ∨ i = 52 ∨ i = 55 ∨ i = 56 ∨ 58 ≤ i
def fxM (a : Nat → Nat) (b : Nat) : Prop := ∃ i, i < 64 ∧ b = a i
/-- what stays 0: the empty part's members, total and number of groups -/
def z58 (S : HS) (a : Nat → Nat) : Prop := hA S (a 58) 0 = 0 ∧ hA S (a 60) 0 = 0 ∧ hA S (a 61) 0 = 0
def FxO (S : HS) (a : Nat → Nat) : Prop := (∀ i, i < 64 → hK S (a i) = fxK i) ∧ (∀ i, i < 64 → fxA i → hN S (a i) = fxN i) ∧ (∀ i j, i < 64 → j < 64 → a i = a j → i = j) ∧ (∀ s, s < 10 → hR S 140 (a (5 * s)) = some (a (5 * s + 1)) ∧ hR S 142 (a (5 * s)) = some (a (5 * s + 2)) ∧ hR S 144 (a (5 * s)) = some (a (5 * s + 3)) ∧ hR S 145 (a (5 * s)) = some (a (5 * s + 4))) ∧ (hR S 220 (a 50) = some (a 0) ∧ hR S 221 (a 50) = some (a 5) ∧ hR S 223 (a 50) = some (a 51) ∧ hR S 226 (a 50) = some (a 52) ∧ hR S 228 (a 50) = some (a 53) ∧ hR S 232 (a 50) = some (a 54) ∧ hR S 233 (a 50) = some (a 57)) ∧ (∀ i, i < 8 → hB S (a 51) i = some (a (10 + 5 * i))) ∧ (hR S 61 (a 54) = some (a 55) ∧ hR S 62 (a 54) = some (a 56)) ∧ (∀ i, i < 6 → hR S (41 + i) (a 57) = some (a (58 + i))) ∧ z58 S a
/-- the sheet: a text of plain signs -/
def SbO (S : HS) (x : Nat) (sh : List Int32) : Prop := hK S x = 12 ∧ hI S 241 x = 0 ∧ hI S 243 x = nI sh.length ∧ sh.length ≤ 200 ∧ ∃ r, hR S 240 x = some r ∧ hK S r = 20 ∧ (sh.length ≤ hN S r ∧ 16 ≤ hN S r ∧ hN S r ≤ 400) ∧ (∀ j, ∃ c : Nat, c < 128 ∧ hA S r j = nI c) ∧ ∀ j y, sh[j]? = some y → hA S r j = y
def FrG (g b : Nat → Int32) : Prop := (∃ pe pc len : Nat, pe < 8 ∧ pc ≤ 8 ∧ len ≤ 80 ∧ g 224 = nI pe ∧ g 225 = nI pc ∧ g 227 = nI len ∧ chO b len) ∧ vz (g 222)
def frI (i : Nat) : Prop := i = 222 ∨ i = 224 ∨ i = 225 ∨ i = 227 ∨ i = 229 ∨ i = 230 ∨ i = 231
/-- the whole rater: its states, its numbers, its input, its sheet -/
def FrS (S : HS) (a : Nat → Nat) (mu : Nat → Nat → Int32) (g b : Nat → Int32) (sh : List Int32) : Prop := FxO S a ∧ (∀ s, s < 10 → GWF (mu s) ∧ RelSt S (fxM a) (a (5 * s)) (mu s)) ∧ FrG g b ∧ (∀ i, frI i → hI S i (a 50) = g i) ∧ (∀ i, i < 80 → hA S (a 52) i = b i) ∧ SbO S (a 53) sh
theorem fxK_ne (i : Nat) : fxK i ≠ 0 := by
  unfold fxK
  repeat' split
  all_goals decide
theorem fxK_20 (i : Nat) : fxK i ≠ 20 := by
  unfold fxK
  repeat' split
  all_goals decide
theorem FxO.ne {S : HS} {a : Nat → Nat} (h : FxO S a) {i j : Nat} (hi : i < 64) (hj : j < 64) (hij : i ≠ j) : a i ≠ a j := fun z => hij (h.2.2.1 i j hi hj z)
theorem FxO.k {S : HS} {a : Nat → Nat} (h : FxO S a) {i : Nat} (hi : i < 64) : hK S (a i) ≠ 0 := by
  rw [h.1 i hi]; exact fxK_ne i
theorem FxO.z8 {S S1 : HS} {a : Nat → Nat} (h : FxO S a) (e : ∀ i, 58 ≤ i → i < 62 → hA S1 (a i) 0 = hA S (a i) 0) : z58 S1 a := ⟨(e 58 (by omega) (by omega)).trans h.2.2.2.2.2.2.2.2.1, (e 60 (by omega) (by omega)).trans h.2.2.2.2.2.2.2.2.2.1, (e 61 (by omega) (by omega)).trans h.2.2.2.2.2.2.2.2.2.2⟩
theorem FxO.sA {S : HS} {a : Nat → Nat} (h : FxO S a) {s : Nat} (hs : s < 10) {b : Nat} (hb : stA S (a (5 * s)) b) : ∃ j, j < 5 ∧ b = a (5 * s + j) := by
  obtain ⟨r1, r2, r3, r4⟩ := h.2.2.2.1 s hs
  rcases hb with g | g | g | g | g
  · exact ⟨0, by omega, g⟩
  · exact ⟨1, by omega, (Option.some.inj (r1.symm.trans g)).symm⟩
  · exact ⟨2, by omega, (Option.some.inj (r2.symm.trans g)).symm⟩
  · exact ⟨3, by omega, (Option.some.inj (r3.symm.trans g)).symm⟩
  · exact ⟨4, by omega, (Option.some.inj (r4.symm.trans g)).symm⟩
theorem FxO.sM {S : HS} {a : Nat → Nat} (h : FxO S a) {s : Nat} (hs : s < 10) {b : Nat} (hb : stA S (a (5 * s)) b) : fxM a b := by
  obtain ⟨j, hj, e⟩ := h.sA hs hb
  exact ⟨5 * s + j, by omega, e⟩
theorem FxO.sD {S : HS} {a : Nat → Nat} (h : FxO S a) {s t : Nat} (hs : s < 10) (ht : t < 10) (hst : s ≠ t) {b : Nat} (hb : stA S (a (5 * s)) b) : ¬ stA S (a (5 * t)) b := fun hc => by
  obtain ⟨j, hj, e⟩ := h.sA hs hb
  obtain ⟨k, hk, e2⟩ := h.sA ht hc
  exact h.ne (i := 5 * s + j) (j := 5 * t + k) (by omega) (by omega) (by omega) (e.symm.trans e2)
theorem FxO.st {S : HS} {a : Nat → Nat} (h : FxO S a) {s : Nat} (hs : s < 10) : StO S (a (5 * s)) := by
  obtain ⟨r1, r2, r3, r4⟩ := h.2.2.2.1 s hs
  have hk := h.1
  have hn := h.2.1
  have k5 : ∀ j, j < 5 → hK S (a (5 * s + j)) = if j = 0 then 7 else if j = 1 then 29 else if j = 2 then 27 else 22 := fun j hj => by
    rw [hk _ (by omega)]
    unfold fxK
    rw [if_pos (by omega), show (5 * s + j) % 5 = j by omega]
  have n5 : ∀ j, 0 < j → j < 5 → hN S (a (5 * s + j)) = if j = 1 then 6 else if j = 2 then 10 else 5 := fun j h0 hj => by
    rw [hn _ (by omega) (Or.inl ⟨by omega, by omega⟩)]
    unfold fxN
    rw [if_pos (by omega), show (5 * s + j) % 5 = j by omega]
  exact ⟨k5 0 (by omega), _, _, _, _, r1, r2, r3, r4, k5 1 (by omega), n5 1 (by omega) (by omega), k5 2 (by omega), n5 2 (by omega) (by omega), k5 3 (by omega), n5 3 (by omega) (by omega), k5 4 (by omega), n5 4 (by omega) (by omega), h.ne (by omega) (by omega) (by omega)⟩
theorem FxO.rt {S : HS} {a : Nat → Nat} (h : FxO S a) : RtO S (fxM a) (a 54) (a 0) := by
  obtain ⟨_, r2, r3, r4⟩ := h.2.2.2.1 0 (by omega)
  obtain ⟨q1, q2⟩ := h.2.2.2.2.2.2.1
  refine ⟨h.1 54 (by omega), ⟨54, by omega, rfl⟩, a 55, a 56, q1, q2, h.1 55 (by omega), h.2.1 55 (by omega) (Or.inr (Or.inr (Or.inr (Or.inl rfl)))), h.1 56 (by omega), h.2.1 56 (by omega) (Or.inr (Or.inr (Or.inr (Or.inr (Or.inl rfl))))), ⟨55, by omega, rfl⟩, ⟨56, by omega, rfl⟩, fun z => ?_, fun z => ?_, fun z => ?_⟩
  · exact h.ne (i := 2) (j := 55) (by omega) (by omega) (by omega) (Option.some.inj (r2.symm.trans z))
  · exact h.ne (i := 3) (j := 56) (by omega) (by omega) (by omega) (Option.some.inj (r3.symm.trans z))
  · exact h.ne (i := 4) (j := 56) (by omega) (by omega) (by omega) (Option.some.inj (r4.symm.trans z))
theorem FxO.pl {S : HS} {a : Nat → Nat} (h : FxO S a) : PlO S (a 57) (fun i => a (58 + i)) := by
  refine ⟨h.1 57 (by omega), fun i hi => ⟨h.2.2.2.2.2.2.2.1 i hi, ?_, ?_⟩, fun i j hi hj z => ?_⟩
  · rw [h.1 (58 + i) (by omega)]
    unfold fxK
    rw [if_neg (by omega), if_neg (by omega), if_neg (by omega), if_neg (by omega), if_neg (by omega), if_neg (by omega), if_neg (by omega), if_neg (by omega)]
  · rw [h.2.1 (58 + i) (by omega) (by unfold fxA; omega)]
    unfold fxN
    rw [if_neg (by omega), if_neg (by omega), if_neg (by omega)]
    by_cases c : i = 5
    · rw [if_pos (by omega), if_pos c]
    · rw [if_neg (by omega), if_pos (by omega), if_neg c]
  · have := h.2.2.1 (58 + i) (58 + j) (by omega) (by omega) z
    omega
theorem FxO.fm {S S1 : HS} {a : Nat → Nat} (h : FxO S a) (he : ext S S1) (hr : ∀ i, i < 64 → ∀ j, hR S1 j (a i) = hR S j (a i)) (hb : ∀ i, i < 8 → hB S1 (a 51) i = hB S (a 51) i) (h58 : z58 S1 a) : FxO S1 a := by
  have h0 := h
  obtain ⟨h1, h2, h3, h4, h5, h6, h7, h8, h9⟩ := h0
  refine ⟨fun i hi => by rw [(he _ (h.k hi)).1]; exact h1 i hi, fun i hi hA => by rw [(he _ (h.k hi)).2]; exact h2 i hi hA, h3, fun s hs => ?_, ?_, fun i hi => by rw [hb i hi]; exact h6 i hi, ?_, fun i hi => by rw [hr 57 (by omega)]; exact h8 i hi, h58⟩
  · rw [hr _ (by omega), hr _ (by omega), hr _ (by omega), hr _ (by omega)]
    exact h4 s hs
  · simp only [hr 50 (by omega)]
    exact h5
  · rw [hr 54 (by omega), hr 54 (by omega)]
    exact h7
theorem SbO.fx {S S1 : HS} {x : Nat} {sh : List Int32} {N : Nat → Prop} (h : SbO S x sh) (hf : frM S S1 N) (hx : ¬ N x) (hN : ∀ c, hK S c = 20 → ¬ N c) : SbO S1 x sh := by
  obtain ⟨h1, h2, h3, h4, r, h5, h6, h7, h9, h8⟩ := h
  have sx := hf x hx (nz_of h1 (by decide))
  have sr := hf r (hN r h6) (nz_of h6 (by decide))
  exact ⟨by rw [sx.1]; exact h1, by rw [sx.2.2.1]; exact h2, by rw [sx.2.2.1]; exact h3, h4, r, by rw [sx.2.2.2.1]; exact h5, by rw [sr.1]; exact h6, by rw [sr.2.1]; exact h7, fun j => by rw [sr.2.2.2.2.1]; exact h9 j, fun j y hy => by rw [sr.2.2.2.2.1]; exact h8 j y hy⟩
/-- the rater through a change of what a method only works with -/
theorem FrS.sc {S S1 : HS} {a : Nat → Nat} {mu : Nat → Nat → Int32} {g b : Nat → Int32} {sh : List Int32} {N : Nat → Prop} (h : FrS S a mu g b sh) (he : ext S S1) (hf : frM S S1 N) (hN : ∀ c, hK S c ≠ 0 → N c → ∃ i, 54 ≤ i ∧ i < 64 ∧ c = a i) (hr : ∀ i, 54 ≤ i → i < 64 → ∀ j, hR S1 j (a i) = hR S j (a i)) (h58 : z58 S1 a) : FrS S1 a mu g b sh := by
  obtain ⟨hX, hS, hG, hI9, hA9, hB9⟩ := h
  have lo : ∀ i, i < 54 → ¬ N (a i) := fun i hi z => by
    obtain ⟨j, h1, h2, e⟩ := hN _ (hX.k (by omega)) z
    exact hX.ne (by omega) h2 (by omega) e
  have sm9 : ∀ i, i < 54 → sam S S1 (a i) := fun i hi => hf _ (lo i hi) (hX.k (by omega))
  have hf2 : frM S S1 (fxM a) := hf.mn (fun c hc z => by
    obtain ⟨j, _, h2, e⟩ := hN c hc z
    exact ⟨j, h2, e⟩)
  refine ⟨hX.fm he (fun i hi j => ?_) (fun i hi => by rw [(sm9 51 (by omega)).2.2.2.2.2]) h58, fun s hs => ⟨(hS s hs).1, (hS s hs).2.fm hf2 (fun c hc => ?_)⟩, hG, fun i hi => by rw [(sm9 50 (by omega)).2.2.1]; exact hI9 i hi, fun i hi => by rw [(sm9 52 (by omega)).2.2.2.2.1]; exact hA9 i hi, hB9.fx hf (lo 53 (by omega)) (fun c hc z => ?_)⟩
  · rcases Nat.lt_or_ge i 54 with q | q
    · exact (sm9 i q).2.2.2.1 j
    · exact hr i q hi j
  · obtain ⟨j, hj, e⟩ := hX.sA hs hc
    rw [e]
    exact sm9 _ (by omega)
  · obtain ⟨j, _, h2, e⟩ := hN c (by rw [hc]; decide) z
    rw [e, hX.1 j h2] at hc
    exact fxK_20 j hc
/-- the rater through a change of one state -/
theorem FrS.st {S S1 : HS} {a : Nat → Nat} {mu : Nat → Nat → Int32} {g b : Nat → Int32} {sh : List Int32} {s : Nat} {μ : Nat → Int32} (h : FrS S a mu g b sh) (hs : s < 10) (he : ext S S1) (hf : frM S S1 (stA S (a (5 * s)))) (hr : ∀ i, i < 5 → ∀ j, hR S1 j (a (5 * s + i)) = hR S j (a (5 * s + i))) (hW : GWF μ) (hR9 : RelSt S1 (fxM a) (a (5 * s)) μ) : FrS S1 a (fun t => if t = s then μ else mu t) g b sh := by
  obtain ⟨hX, hS, hG, hI9, hA9, hB9⟩ := h
  have lo : ∀ i, i < 64 → i / 5 ≠ s ∨ 50 ≤ i → ¬ stA S (a (5 * s)) (a i) := fun i hi h2 z => by
    obtain ⟨j, h1, e⟩ := hX.sA hs z
    have := hX.2.2.1 _ _ hi (by omega) e
    omega
  have sm9 : ∀ i, i < 64 → i / 5 ≠ s ∨ 50 ≤ i → sam S S1 (a i) := fun i hi h2 => hf _ (lo i hi h2) (hX.k hi)
  have hf2 : frM S S1 (fxM a) := hf.sub (fun c z => hX.sM hs z)
  refine ⟨hX.fm he (fun i hi j => ?_) (fun i hi => by rw [(sm9 51 (by omega) (Or.inr (by omega))).2.2.2.2.2]) (hX.z8 (fun i h1 h2 => by rw [(sm9 i (by omega) (Or.inr (by omega))).2.2.2.2.1])), fun t ht => ?_, hG, fun i hi => by rw [(sm9 50 (by omega) (Or.inr (by omega))).2.2.1]; exact hI9 i hi, fun i hi => by rw [(sm9 52 (by omega) (Or.inr (by omega))).2.2.2.2.1]; exact hA9 i hi, hB9.fx hf (lo 53 (by omega) (Or.inr (by omega))) (fun c hc z => ?_)⟩
  · by_cases q : i / 5 ≠ s ∨ 50 ≤ i
    · exact (sm9 i hi q).2.2.2.1 j
    · rw [show i = 5 * s + i % 5 by omega]
      exact hr _ (by omega) j
  · dsimp only
    by_cases c : t = s
    · rw [if_pos c, c]; exact ⟨hW, hR9⟩
    · rw [if_neg c]
      refine ⟨(hS t ht).1, (hS t ht).2.fm hf2 (fun c9 hc => ?_)⟩
      obtain ⟨j, hj, e⟩ := hX.sA ht hc
      rw [e]
      exact sm9 _ (by omega) (Or.inl (by omega))
  · obtain ⟨j, h1, e⟩ := hX.sA hs z
    rw [e, hX.1 _ (by omega)] at hc
    exact fxK_20 _ hc
/-- the rater through a change of one of its numbers -/
theorem FrS.ob {S S1 : HS} {a : Nat → Nat} {mu : Nat → Nat → Int32} {g g1 b : Nat → Int32} {sh : List Int32} {i : Nat} {v : Int32} (h : FrS S a mu g b sh) (e : S1 = putI S i (a 50) v) (h1 : ∀ j, frI j → g1 j = if j = i then v else g j) (hg : FrG g1 b) : FrS S1 a mu g1 b sh := by
  obtain ⟨hX, hS, hG, hI9, hA9, hB9⟩ := h
  have hf : frM S S1 (fun c => c = a 50) := by rw [e]; exact frM.pI (M := fun c => c = a 50) frM.rf rfl _ _
  have he : ext S S1 := by rw [e]; exact ext_putI ext_rf _ _ _
  refine ⟨hX.fm he (fun i hi j => by rw [e, px_RI]) (fun i hi => by rw [e, px_BI]) (hX.z8 (fun i _ _ => by rw [e, px_AI])), fun s hs => ⟨(hS s hs).1, (hS s hs).2.fm (hf.sub (fun c z => ⟨50, by omega, z⟩)) (fun c hc => ?_)⟩, hg, fun j hj => ?_, fun i hi => by rw [e, px_AI]; exact hA9 i hi, hB9.fx hf (hX.ne (by omega) (by omega) (by omega)) (fun c hc z => ?_)⟩
  · obtain ⟨j, hj, e2⟩ := hX.sA hs hc
    refine hf c (fun z => hX.ne (i := 5 * s + j) (j := 50) (by omega) (by omega) (by omega) (e2.symm.trans z)) ?_
    rw [e2]; exact hX.k (by omega)
  · rw [e, px_II, h1 j hj]
    by_cases c : j = i
    · rw [if_pos ⟨c, rfl⟩, if_pos c]
    · rw [if_neg (fun z => c z.1), if_neg c]; exact hI9 j hj
  · rw [z, hX.1 50 (by omega)] at hc
    exact absurd hc (by decide)

end S_C9A
