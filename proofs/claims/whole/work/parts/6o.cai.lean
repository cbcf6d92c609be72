section S_CAI
/-- the rows of a condition's tests behind its first: each the row before it or the next one; the last -/
def rsL : Nat → List (Nat × TS) → Nat → Prop
  | row, [], r => r = row
  | row, y :: l, r => (y.1 = row ∨ y.1 = row + 1) ∧ rsL y.1 l r
def rsO (x : STM) : Prop := (x.2.1.1 = [] ∧ x.2.1.2 = 0) ∨ ∃ y l r, x.2.1.1 = y :: l ∧ y.1 = 0 ∧ rsL 0 l r ∧ x.2.1.2 = r + 1
/-- what an amendment's text is, where it is good -/
def amA (g b : Nat → Int32) : List STM × PS := amF b (iv (g 227))
def amZ (g b : Nat → Int32) : Bool := (amA g b).2.2 || decide ((amA g b).2.1 < iv (g 227))
def amU (g : Nat → Int32) : Nat → Int32 := fun i => if i = 227 then 0 else g i
theorem k0_of {S S1 : HS} (he : ext S S1) {q : Nat} (h : hK S1 q = 0) : hK S q = 0 := Classical.byContradiction (fun z => z ((ext_K he rfl z).symm.trans h))
theorem cnL_rs {b : Nat → Int32} {n : Nat} : ∀ (k row : Nat) (σ : PS), rsL row (cnL b n k row σ).1 (cnL b n k row σ).2.1 := by
  intro k
  induction k with
  | zero => intro row σ; exact rfl
  | succ k ih =>
    intro row σ
    rw [cnL]
    split
    · exact rfl
    split
    · exact ⟨Or.inl rfl, ih _ _⟩
    split
    · exact ⟨Or.inr rfl, ih _ _⟩
    · exact rfl
theorem exC_rs {b : Nat → Int32} {n : Nat} {σ : PS} : ((exC b n σ).1.1 = [] ∧ (exC b n σ).1.2 = 0) ∨ ∃ y l r, (exC b n σ).1.1 = y :: l ∧ y.1 = 0 ∧ rsL 0 l r ∧ (exC b n σ).1.2 = r + 1 := by
  unfold exC
  split
  · exact Or.inr ⟨_, _, _, rfl, rfl, cnL_rs 80 0 _, rfl⟩
  · exact Or.inl ⟨rfl, rfl⟩
theorem st_rs {b : Nat → Int32} {n : Nat} {σ : PS} : rsO (stR b n σ).1 := by
  unfold stR
  split
  · exact Or.inl ⟨rfl, rfl⟩
  split
  · exact Or.inl ⟨rfl, rfl⟩
  split
  · exact exC_rs
  split
  · exact Or.inl ⟨rfl, rfl⟩
  · exact Or.inl ⟨rfl, rfl⟩
theorem am_rs {b : Nat → Int32} {n : Nat} : ∀ (k : Nat) (σ : PS), ∀ x, x ∈ (amL b n k σ).1 → rsO x := by
  intro k
  induction k with
  | zero => intro σ x hx; simp [amL] at hx
  | succ k ih =>
    intro σ x hx
    rw [amL] at hx
    by_cases ht : tkB b n (stR b n σ).2 59 = true
    · rw [if_pos ht] at hx
      rcases List.mem_cons.mp hx with e | e
      · subst e; exact st_rs
      · exact ih _ x e
    · rw [if_neg ht] at hx
      have e : x = (stR b n σ).1 := by simpa using hx
      subst e
      exact st_rs
/-- rows of tests, one after the other -/
theorem rsL_at : ∀ (l : List (Nat × TS)) (y : Nat × TS) (r : Nat), rsL y.1 l r → (∀ j, j + 1 < (y :: l).length → (gtl (y :: l) (j + 1)).1 = (gtl (y :: l) j).1 ∨ (gtl (y :: l) (j + 1)).1 = (gtl (y :: l) j).1 + 1) ∧ (gtl (y :: l) ((y :: l).length - 1)).1 = r := by
  intro l
  induction l with
  | nil => intro y r h; exact ⟨fun j hj => absurd hj (by simp), h.symm⟩
  | cons z l ih =>
    intro y r h
    obtain ⟨h1, h2⟩ := h
    obtain ⟨a1, a2⟩ := ih z r h2
    refine ⟨fun j hj => ?_, ?_⟩
    · cases j with
      | zero => exact h1
      | succ j => exact a1 j (by simpa using hj)
    · exact a2
theorem tvF_at {l : List (Nat × TS)} {j : Nat} (h : j < l.length) : tvF l j = tsE (nI (gtl l j).1) (gtl l j).2 := by
  unfold tvF gtl
  rw [List.getElem?_eq_getElem h]
  rfl
/-- what a statement's carrying out leaves -/
theorem cr_sh {μ : Nat → Int32} (hw : WF μ) {v : Nat} {x : STM} (hv : v < 6) (hx : stW x) (hB : crBx μ v x = true) : (∀ k, k < 274 + 510 * v ∨ 274 + 510 * v + 150 ≤ k → crSx μ v x k = μ k) ∨ (∃ a, a < 10 ∧ x.2.1.1.length ≤ 30 ∧ x.2.1.2 ≤ 30 ∧ (∀ y, y ∈ x.2.1.1 → y.1 < x.2.1.2 ∧ tsW y.2) ∧ crSx μ v x = seF μ v a x.1.2.2.1 x.1.2.2.2 (nI x.2.1.2) (nI x.2.1.1.length) (tvF x.2.1.1) x.2.2) ∨ ∃ a, a < 10 ∧ crSx μ v x = zf μ (274 + 510 * v + 150 + 36 * a) 36 := by
  rcases hx with ⟨c, h1, h2, h3⟩ | ⟨c, ⟨z, h1, h9, ez⟩, h2, h3⟩ | ⟨c, ⟨z, h1, h9, ez⟩, h2⟩ | ⟨c, h1⟩ | ⟨c, ⟨a, ha, ea⟩, h2, h3, h4, h5, h6, h7, h8⟩ | ⟨c, a, ha, ea⟩
  · refine Or.inl (fun k hk => ?_)
    obtain ⟨n, hn, en⟩ := hw.rng hv
    unfold crSx crS
    rw [if_pos c]
    unfold ptS
    rw [en, show iv (nI n) = n from nI_clamp (by omega), pk_un (by omega), pk_un (by omega), pk_un (by omega), pk_un (by omega)]
  · refine Or.inl (fun k hk => ?_)
    obtain ⟨n, hn, en⟩ := hw.brk hv h1 h9
    have ic : iv (μ (274 + 510 * v + 38 + z - 1)) = n := by rw [en]; exact nI_clamp (by omega)
    have hI : bxI μ v z x.1.2.2.1 ≤ n := by
      have := (bxF_le (μ := μ) (v := v) (z := z) (w := x.1.2.2.1) n 0).2
      unfold bxI
      rw [ic]
      omega
    unfold crBx crB at hB
    rw [if_neg (by rw [c]; decide), if_pos c, ez, show iv (nI z) = z from nI_clamp (by omega)] at hB
    unfold crSx crS
    rw [if_neg (by rw [c]; decide), if_pos c, ez, show iv (nI z) = z from nI_clamp (by omega)]
    refine bk_kp h1 h9 hk (by omega) (by omega) (fun cp cb => ?_) (fun cb => ?_) (by omega)
    · unfold bkB at hB
      rw [Bool.and_eq_true, if_neg cp, cb, en] at hB
      have := hB.2
      rw [ic]
      rcases Nat.lt_or_ge n 5 with q5 | q5
      · omega
      · have e5 : n = 5 := by omega
        subst e5
        exact absurd this (by decide)
    · unfold bxB at cb
      rw [ic, Bool.and_eq_true, decide_eq_true_eq] at cb
      have := cb.1
      omega
  · refine Or.inl (fun k hk => ?_)
    unfold crSx crS
    rw [if_neg (by rw [c]; decide), if_neg (by rw [c]; decide), if_pos c, ez, show iv (nI z) = z from nI_clamp (by omega)]
    exact pk_un (by omega)
  · refine Or.inl (fun k hk => ?_)
    unfold crSx crS
    rcases c with c | c | c | c
    · rw [if_neg (by rw [c]; decide), if_neg (by rw [c]; decide), if_neg (by rw [c]; decide), if_pos c]
      exact pk_un (by omega)
    · rw [if_neg (by rw [c]; decide), if_neg (by rw [c]; decide), if_neg (by rw [c]; decide), if_neg (by rw [c]; decide), if_pos c]
      exact pk_un (by omega)
    · rw [if_neg (by rw [c]; decide), if_neg (by rw [c]; decide), if_neg (by rw [c]; decide), if_neg (by rw [c]; decide), if_neg (by rw [c]; decide), if_pos c]
      exact pk_un (by omega)
    · rw [if_neg (by rw [c]; decide), if_neg (by rw [c]; decide), if_neg (by rw [c]; decide), if_neg (by rw [c]; decide), if_neg (by rw [c]; decide), if_neg (by rw [c]; decide), if_pos c]
      exact pk_un (by omega)
  · refine Or.inr (Or.inl ⟨a, ha, h4, h5, h6, ?_⟩)
    unfold crSx crS
    rw [if_neg (by rw [c]; decide), if_neg (by rw [c]; decide), if_neg (by rw [c]; decide), if_neg (by rw [c]; decide), if_neg (by rw [c]; decide), if_neg (by rw [c]; decide), if_neg (by rw [c]; decide), if_pos c, ea, show iv (nI a) = a from nI_clamp (by omega)]
  · refine Or.inr (Or.inr ⟨a, ha, ?_⟩)
    unfold crSx crS
    rw [if_neg (by rw [c]; decide), if_neg (by rw [c]; decide), if_neg (by rw [c]; decide), if_neg (by rw [c]; decide), if_neg (by rw [c]; decide), if_neg (by rw [c]; decide), if_neg (by rw [c]; decide), if_neg (by rw [c]; decide), ea, show iv (nI a) = a from nI_clamp (by omega)]
/-- outside its version nothing changes -/
theorem cr_kp {μ : Nat → Int32} (hw : WF μ) {v : Nat} {x : STM} (hv : v < 6) (hx : stW x) (hB : crBx μ v x = true) {k : Nat} (hk : k < 274 + 510 * v ∨ 274 + 510 * v + 510 ≤ k) : crSx μ v x k = μ k := by
  rcases cr_sh hw hv hx hB with h | ⟨a, ha, _, _, _, e⟩ | ⟨a, ha, e⟩
  · exact h k (by omega)
  · rw [e]
    unfold seF
    rw [if_neg (by omega), pk_un (by omega), pk_un (by omega), pk_un (by omega), pk_un (by omega), pk_un (by omega), pk_un (by omega)]
  · rw [e]
    unfold zf
    rw [if_neg (by omega)]
/-- the rows of every condition stay in order -/
theorem cr_wfr {μ : Nat → Int32} (hw : WF μ) (hr : WFR μ) {v : Nat} {x : STM} (hv : v < 6) (hx : stW x) (hs : rsO x) (hB : crBx μ v x = true) : WFR (crSx μ v x) := by
  have kp : ∀ {v' a' : Nat}, v' < 6 → a' < 10 → (∀ c, 1 ≤ c → c < 36 → crSx μ v x (274 + 510 * v' + 150 + 36 * a' + c) = μ (274 + 510 * v' + 150 + 36 * a' + c)) → rwO (crSx μ v x) v' a' := fun hv' ha' h => rwO_c3 h (hw.v30 hv' _ ha') (hr _ hv' _ ha')
  intro v' hv' a' ha'
  rcases cr_sh hw hv hx hB with h | ⟨a, ha, h4, h5, h6, e⟩ | ⟨a, ha, e⟩
  · refine kp hv' ha' (fun c c1 c2 => h _ ?_)
    rcases Nat.lt_trichotomy v' v with q | q | q
    · left; omega
    · right; omega
    · right; omega
  · by_cases g : v' = v ∧ a' = a
    · obtain ⟨g1, g2⟩ := g
      subst g1 g2
      have e4 : crSx μ v' x (274 + 510 * v' + 150 + 36 * a' + 4) = nI x.2.1.1.length := by
        rw [e]; unfold seF
        rw [if_neg (by omega), pk_un (by omega), pk_us]
      have e3 : crSx μ v' x (274 + 510 * v' + 150 + 36 * a' + 3) = nI x.2.1.2 := by
        rw [e]; unfold seF
        rw [if_neg (by omega), pk_un (by omega), pk_un (by omega), pk_us]
      have e6 : ∀ j, j < x.2.1.1.length → iv (crSx μ v' x (274 + 510 * v' + 150 + 36 * a' + 6 + j)) / 300000 = (gtl x.2.1.1 j).1 := fun j hj => by
        have hm := h6 _ (gtl_in hj)
        rw [e]; unfold seF
        rw [if_pos (by omega), show iv (nI x.2.1.1.length) = x.2.1.1.length from nI_clamp (by omega), show 274 + 510 * v' + 150 + 36 * a' + 6 + j - (274 + 510 * v' + 150 + 36 * a' + 6) = j by omega, if_pos hj, tvF_at hj]
        exact ts_row hm.2 (by omega)
      unfold rwO
      rw [e4, e3, show iv (nI x.2.1.1.length) = x.2.1.1.length from nI_clamp (by omega), show iv (nI x.2.1.2) = x.2.1.2 from nI_clamp (by omega)]
      rcases hs with ⟨s1, s2⟩ | ⟨y, l, r, s1, s2, s3, s4⟩
      · rw [s1, s2]
        exact ⟨fun _ => rfl, fun z => absurd z (by decide)⟩
      · have hl : 0 < x.2.1.1.length := by rw [s1]; exact Nat.succ_pos _
        rw [← s2] at s3
        obtain ⟨b1, b2⟩ := rsL_at l y r s3
        rw [← s1] at b1 b2
        refine ⟨fun z => absurd z (by omega), fun _ => ⟨?_, fun j hj => ?_, ?_⟩⟩
        · have := e6 0 hl
          rw [Nat.add_zero] at this
          rw [this, s1]
          exact s2
        · rw [e6 _ hj, e6 j (by omega)]
          exact b1 j hj
        · rw [e6 _ (by omega), b2]
          exact s4
    · refine kp hv' ha' (fun c c1 c2 => ?_)
      rw [e]; unfold seF
      rcases Nat.lt_trichotomy v' v with q | q | q
      · rw [if_neg (by omega), pk_un (by omega), pk_un (by omega), pk_un (by omega), pk_un (by omega), pk_un (by omega), pk_un (by omega)]
      · have : a' ≠ a := fun z => g ⟨q, z⟩
        subst q
        rw [if_neg (by omega), pk_un (by omega), pk_un (by omega), pk_un (by omega), pk_un (by omega), pk_un (by omega), pk_un (by omega)]
      · rw [if_neg (by omega), pk_un (by omega), pk_un (by omega), pk_un (by omega), pk_un (by omega), pk_un (by omega), pk_un (by omega)]
  · by_cases g : v' = v ∧ a' = a
    · obtain ⟨g1, g2⟩ := g
      subst g1 g2
      have e0 : ∀ c, c < 36 → crSx μ v' x (274 + 510 * v' + 150 + 36 * a' + c) = 0 := fun c hc => by
        rw [e]; unfold zf
        rw [if_pos (by omega)]
      unfold rwO
      rw [e0 4 (by decide), e0 3 (by decide)]
      exact ⟨fun _ => rfl, fun z => absurd z (by decide)⟩
    · refine kp hv' ha' (fun c c1 c2 => ?_)
      rw [e]; unfold zf
      rcases Nat.lt_trichotomy v' v with q | q | q
      · rw [if_neg (by omega)]
      · have : a' ≠ a := fun z => g ⟨q, z⟩
        subst q
        rw [if_neg (by omega)]
      · rw [if_neg (by omega)]
theorem cr_gw {μ : Nat → Int32} (h : GWF μ) {v : Nat} {x : STM} (hv : v < 6) (hx : stW x) (hs : rsO x) (hB : crBx μ v x = true) : GWF (crSx μ v x) := by
  obtain ⟨h1, h2, h3, h4⟩ := h
  obtain ⟨n, hn, en⟩ := h1.2.2.1
  have e2 : crSx μ v x 2 = μ 2 := cr_kp h1 hv hx hB (by omega)
  refine ⟨cr_wf h1 hv hx hB, cr_wfr h1 h2 hv hx hs hB, fun i hi => ?_, cr_wfp h1 h4 hv hx hB⟩
  rw [e2] at hi
  have i5 := hi
  rw [en, show iv (nI n) = n from nI_clamp (by omega)] at i5
  rw [cr_kp h1 hv hx hB (by omega)]
  exact h3 i hi
/-- how much text a statement takes -/
theorem zo_l1 {b : Nat → Int32} {n : Nat} {kd : Int32} {σ : PS} (h : σ.1 ≤ n) (hg : (zoR b n kd σ).2.2 = false) : σ.1 + 1 ≤ (zoR b n kd σ).2.1 := by
  have gN : ∀ τ : PS, (nbF b n τ).2.2 = false → τ.2 = false := fun τ hτ => by
    cases hs : τ.2 with
    | false => rfl
    | true => rw [nb_bad hs] at hτ; rw [hs] at hτ; cases hτ
  have gD : ∀ (τ : PS) (c : Int32), (ndS b n τ c).2 = false → τ.2 = false := fun τ c hτ => by
    cases hs : τ.2 with
    | false => rfl
    | true => rw [nd_bad hs] at hτ; rw [hs] at hτ; cases hτ
  have h1 := dgS_le (b := b) dix19 h
  have h2 := tkS_le (b := b) (c := 58) (by decide) h1.1
  have h3 := nbF_ok (b := b) (σ := ndS b n (dgS b n σ 1 9) 58) h2.1
  have key : (nbF b n (ndS b n (dgS b n σ 1 9) 58)).2.2 = false → σ.1 + 1 ≤ (nbF b n (ndS b n (dgS b n σ 1 9) 58)).2.1 := fun z9 => by
    obtain ⟨d, d1, d2, d3, d4, _⟩ := dg_ok (b := b) (n := n) (σ := σ) (a := 1) (c := 9) (by decide) (by decide) (gD _ _ (gN _ z9))
    have h2' : (dgS b n σ 1 9).1 ≤ (ndS b n (dgS b n σ 1 9) 58).1 := h2.2.1
    have d4' : (dgS b n σ 1 9).1 = σ.1 + 1 := d4
    exact Nat.le_trans (Nat.le_of_eq d4'.symm) (Nat.le_trans h2' h3.2.1)
  unfold zoR at hg ⊢
  split
  · rename_i c
    rw [if_pos c] at hg
    exact key hg
  · rename_i c
    rw [if_neg c] at hg
    have h4 := tkS_le (b := b) (c := if kd = 122 then 45 else 42) (by split <;> decide) h3.1
    have h5 := nbF_ok (b := b) (σ := ndS b n (nbF b n (ndS b n (dgS b n σ 1 9) 58)).2 (if kd = 122 then 45 else 42)) h4.1
    have h4' : (nbF b n (ndS b n (dgS b n σ 1 9) 58)).2.1 ≤ (ndS b n (nbF b n (ndS b n (dgS b n σ 1 9) 58)).2 (if kd = 122 then 45 else 42)).1 := h4.2.1
    exact Nat.le_trans (key (gD _ _ (gN _ hg))) (Nat.le_trans h4' h5.2.1)
theorem cnL_b {b : Nat → Int32} {n : Nat} : ∀ (k row : Nat) (σ : PS), σ.1 ≤ n → σ.1 + 3 * (cnL b n k row σ).1.length ≤ n + 2 := by
  intro k
  induction k with
  | zero => intro row σ h; show σ.1 + 3 * 0 ≤ n + 2; omega
  | succ k ih =>
    intro row σ h
    have gen : ∀ (c : Int32) (row1 : Nat), ¬ c = -1 → tkB b n σ c = true → σ.1 + 3 * ((cnL b n k row1 (tsR b n (tkS b n σ c)).2).1.length + 1) ≤ n + 2 := fun c row1 hc ht => by
      obtain ⟨t1, t2, t3⟩ := tkB_gd hc ht
      have hT := tsR_ok (b := b) (n := n) (σ := tkS b n σ c) (by rw [t3]; exact t2)
      have e3 : (tkS b n σ c).1 = σ.1 + 1 := by rw [t3]
      rw [e3] at hT
      cases z : (tsR b n (tkS b n σ c)).2.2 with
      | true =>
        rw [cnL_bad z]
        show σ.1 + 3 * (0 + 1) ≤ n + 2
        omega
      | false =>
        have h2 := hT.2.2 z
        have h3 := ih row1 (tsR b n (tkS b n σ c)).2 hT.1
        omega
    rw [cnL]
    split
    · show σ.1 + 3 * 0 ≤ n + 2; omega
    split
    · rename_i c; exact gen 38 row (by decide) c
    split
    · rename_i c; exact gen 124 (row + 1) (by decide) c
    · show σ.1 + 3 * 0 ≤ n + 2; omega
theorem exC_l {b : Nat → Int32} {n : Nat} {σ : PS} (h : σ.1 ≤ n) : σ.1 + 3 * (exC b n σ).1.1.length ≤ n + 5 ∧ ((exC b n σ).2.2 = false → σ.1 + 3 * (exC b n σ).1.1.length ≤ (exC b n σ).2.1) := by
  unfold exC
  by_cases c : tkB b n σ 63 = true
  · rw [if_pos c]
    obtain ⟨t1, t2, t3⟩ := tkB_gd (by decide) c
    have e3 : (tkS b n σ 63).1 = σ.1 + 1 := by rw [t3]
    have hT := tsR_ok (b := b) (n := n) (σ := tkS b n σ 63) (by rw [t3]; exact t2)
    have h3 := cnL_b (b := b) 80 0 _ hT.1
    rw [e3] at hT
    unfold cnF
    dsimp only
    rw [List.length_cons]
    refine ⟨by omega, fun z => ?_⟩
    have hgT := cnL_gd 80 0 _ z
    have h2 := hT.2.2 hgT
    have h4 := (cn_ok 80 0 _ hT.1 z).2.2.2
    omega
  · rw [if_neg c]
    dsimp only
    rw [List.length_nil]
    exact ⟨by omega, fun _ => by omega⟩
theorem st_l2 {b : Nat → Int32} {n : Nat} {σ : PS} (h : σ.1 ≤ n) : σ.1 + 3 * (stR b n σ).1.2.1.1.length ≤ n + 5 ∧ ((stR b n σ).2.2 = false → σ.1 + 2 + 3 * (stR b n σ).1.2.1.1.length ≤ (stR b n σ).2.1) := by
  have hlt : ∀ m : Int32, sg b n σ = m → ¬ m = -1 → σ.1 + 1 ≤ n := fun m hm hc => sg_in hc hm
  have gN : ∀ τ : PS, (nbF b n τ).2.2 = false → τ.2 = false := fun τ hτ => by
    cases hs : τ.2 with
    | false => rfl
    | true => rw [nb_bad hs] at hτ; rw [hs] at hτ; cases hτ
  have gD : ∀ (τ : PS) (c : Int32), (ndS b n τ c).2 = false → τ.2 = false := fun τ c hτ => by
    cases hs : τ.2 with
    | false => rfl
    | true => rw [nd_bad hs] at hτ; rw [hs] at hτ; cases hτ
  unfold stR
  split
  · rename_i c
    have hl : σ.1 + 1 ≤ n := by rcases c with c | c | c <;> exact hlt _ c (by decide)
    dsimp only
    rw [List.length_nil]
    exact ⟨by omega, fun z => by have := zo_l1 (b := b) (kd := sg b n σ) (σ := (σ.1 + 1, σ.2)) hl z; dsimp only at this; omega⟩
  split
  · rename_i c
    have hl : σ.1 + 1 ≤ n := by rcases c with c | c | c | c <;> exact hlt _ c (by decide)
    dsimp only
    rw [List.length_nil]
    refine ⟨by omega, fun z => ?_⟩
    obtain ⟨m, _, _, hm⟩ := nb_bd (b := b) (n := n) (σ := (σ.1 + 1, σ.2)) hl z
    have := (nuL_len m).2
    dsimp only at hm
    omega
  split
  · rename_i c
    have hl : σ.1 + 1 ≤ n := hlt _ c (by decide)
    have eτ : ((σ.1 + 1, σ.2) : PS).1 = σ.1 + 1 := rfl
    generalize (σ.1 + 1, σ.2) = τ at eτ ⊢
    have hτl : τ.1 ≤ n := by rw [eτ]; exact hl
    have h1 := dgS_le (b := b) dix09 hτl
    have h2 := tkS_le (b := b) (c := 58) (by decide) h1.1
    have h3 := nbF_ok (b := b) (σ := ndS b n (dgS b n τ 0 9) 58) h2.1
    have h2' : (dgS b n τ 0 9).1 ≤ (ndS b n (dgS b n τ 0 9) 58).1 := h2.2.1
    have hN : (exN b n τ).2.1 ≤ n ∧ (dgS b n τ 0 9).1 ≤ (exN b n τ).2.1 := ⟨h3.1, Nat.le_trans h2' h3.2.1⟩
    have hU : (exU b n (exN b n τ).2).2.1 ≤ n ∧ (exN b n τ).2.1 ≤ (exU b n (exN b n τ).2).2.1 := by
      unfold exU
      split
      · have := tkS_le (b := b) (c := 37) (by decide) hN.1; exact ⟨this.1, this.2.1⟩
      split
      · have := tkS_le (b := b) (c := 42) (by decide) hN.1; exact ⟨this.1, this.2.1⟩
      · exact ⟨hN.1, Nat.le_refl _⟩
    have hC := exC_l (b := b) hU.1
    show σ.1 + 3 * (exC b n (exU b n (exN b n τ).2).2).1.1.length ≤ n + 5 ∧ ((exX b n (exC b n (exU b n (exN b n τ).2).2).2).2.2 = false → σ.1 + 2 + 3 * (exC b n (exU b n (exN b n τ).2).2).1.1.length ≤ (exX b n (exC b n (exU b n (exN b n τ).2).2).2).2.1)
    have h5 := h1.2
    have h6 := hN.2
    have h7 := hU.2
    have h8 := hC.1
    refine ⟨by omega, fun hg4 => ?_⟩
    have hg3 := exX_gd hg4
    have hg2 := exC_gd hg3
    have h9 := hC.2 hg3
    rw [exU_bd] at hg2
    have hgd := gD _ _ (gN _ hg2)
    obtain ⟨d, _, d2, d3, d4, _⟩ := dg_ok (b := b) (n := n) (σ := τ) (a := 0) (c := 9) (by decide) (by decide) hgd
    have d4' : (dgS b n τ 0 9).1 = τ.1 + 1 := d4
    have hCn : (exC b n (exU b n (exN b n τ).2).2).2.1 ≤ n := by
      unfold exC
      split
      · rename_i c9
        obtain ⟨t1, t2, t3⟩ := tkB_gd (by decide) c9
        have hT := tsR_ok (b := b) (n := n) (σ := tkS b n (exU b n (exN b n τ).2).2 63) (by rw [t3]; exact t2)
        exact (cnL_le (b := b) 80 0 _ hT.1).1
      · exact hU.1
    have hX : (exC b n (exU b n (exN b n τ).2).2).2.1 ≤ (exX b n (exC b n (exU b n (exN b n τ).2).2).2).2.1 := by
      unfold exX
      split
      · have t := tkS_le (b := b) (c := 33) (by decide) hCn
        have t2 := dgS_le (b := b) dix09 t.1
        exact Nat.le_trans t.2.1 t2.2
      · exact Nat.le_refl _
    omega
  split
  · rename_i c
    have hl : σ.1 + 1 ≤ n := hlt _ c (by decide)
    dsimp only
    rw [List.length_nil]
    refine ⟨by omega, fun z => ?_⟩
    obtain ⟨d, _, d2, d3, d4, _⟩ := dg_ok (b := b) (n := n) (σ := (σ.1 + 1, σ.2)) (a := 0) (c := 9) (by decide) (by decide) z
    have d4' : (dgS b n (σ.1 + 1, σ.2) 0 9).1 = σ.1 + 1 + 1 := d4
    omega
  · dsimp only
    rw [List.length_nil]
    exact ⟨by omega, fun z => by cases z⟩
/-- what a text's statements need, at most -/
theorem am_bud {b : Nat → Int32} {n : Nat} : ∀ (k : Nat) (σ : PS), σ.1 ≤ n → budC (amL b n k σ).1 ≤ 2 * (n - σ.1) + 9 ∧ budS (amL b n k σ).1 ≤ 138 * (n - σ.1) + 1088 := by
  intro k
  induction k with
  | zero => intro σ _; exact ⟨Nat.zero_le _, Nat.zero_le _⟩
  | succ k ih =>
    intro σ h
    obtain ⟨l1, l2⟩ := st_l2 (b := b) h
    rw [amL]
    by_cases ht : tkB b n (stR b n σ).2 59 = true
    · rw [if_pos ht]
      obtain ⟨t1, t2, t3⟩ := tkB_gd (by decide) ht
      have e3 : (tkS b n (stR b n σ).2 59).1 = (stR b n σ).2.1 + 1 := by rw [t3]
      obtain ⟨i1, i2⟩ := ih (tkS b n (stR b n σ).2 59) (by rw [e3]; exact t2)
      have l3 := l2 t1
      rw [e3] at i1 i2
      dsimp only
      rw [budC, budS]
      omega
    · rw [if_neg ht]
      dsimp only
      rw [budC, budS, budC, budS]
      omega

end S_CAI
