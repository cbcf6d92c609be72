section S_DRAFT
theorem sm_cg {μ μ' : Nat → Int32} {i B : Nat} (e : μ' i = μ i) (h : sm μ i B) : sm μ' i B := by
  obtain ⟨n, hn, en⟩ := h
  exact ⟨n, hn, e.trans en⟩
theorem WFA_cg {μ μ' : Nat → Int32} {v a : Nat} (e : ∀ c, c < 36 → μ' (274 + 510 * v + 150 + 36 * a + c) = μ (274 + 510 * v + 150 + 36 * a + c)) (h : WFA μ v a) : WFA μ' v a := by
  obtain ⟨h1, h2, h3, h4, h5, h6, h7, h8, h9⟩ := h
  have e0 : μ' (274 + 510 * v + 150 + 36 * a) = μ (274 + 510 * v + 150 + 36 * a) := e 0 (by decide)
  refine ⟨by rw [e0]; exact h1, sm_cg (e 1 (by decide)) h2, sm_cg (e 2 (by decide)) h3, sm_cg (e 3 (by decide)) h4, sm_cg (e 4 (by decide)) h5, by rw [e 5 (by decide)]; exact h6.imp id (sm_cg (e 5 (by decide))), fun k hk => sm_cg (by have := e (6 + k) (by omega); rw [← Nat.add_assoc] at this; exact this) (h7 k hk), fun z9 => ?_, fun z9 => ?_⟩
  · rw [e 2 (by decide)] at z9
    exact sm_cg (e 1 (by decide)) (h8 z9)
  · rw [e 2 (by decide)] at z9
    exact sm_cg (e 1 (by decide)) (h9 z9)
theorem WFV_cg {μ μ' : Nat → Int32} {v : Nat} (e0 : μ' 0 = μ 0) (e : ∀ o, o < 510 → μ' (274 + 510 * v + o) = μ (274 + 510 * v + o)) (h : WFV μ v) : WFV μ' v := by
  obtain ⟨h1, h2, h3, h4, h5, h6, h7, h8, h9⟩ := h
  refine ⟨sm_cg (e 1 (by decide)) h1, fun z z1 z9 => ?_, fun i hi => ?_, sm_cg (e 146 (by decide)) h4, sm_cg (e 147 (by decide)) h5, sm_cg (e 148 (by decide)) h6, sm_cg (e 149 (by decide)) h7, fun a ha => WFA_cg (fun c hc => ?_) (h8 a ha), fun n hn h6' hv => ?_⟩
  · obtain ⟨a1, a2, a3⟩ := h2 z z1 z9
    refine ⟨sm_cg ?_ a1, sm_cg ?_ a2, fun i hi => ⟨sm_cg ?_ (a3 i hi).1, sm_cg ?_ (a3 i hi).2⟩⟩
    · have := e (38 + z - 1) (by omega); rw [show 274 + 510 * v + (38 + z - 1) = 274 + 510 * v + 38 + z - 1 by omega] at this; exact this
    · have := e (137 + z - 1) (by omega); rw [show 274 + 510 * v + (137 + z - 1) = 274 + 510 * v + 137 + z - 1 by omega] at this; exact this
    · have := e (47 + 10 * (z - 1) + 2 * i) (by omega); rw [show 274 + 510 * v + (47 + 10 * (z - 1) + 2 * i) = 274 + 510 * v + 47 + 10 * (z - 1) + 2 * i by omega] at this; exact this
    · have := e (47 + 10 * (z - 1) + 2 * i + 1) (by omega); rw [show 274 + 510 * v + (47 + 10 * (z - 1) + 2 * i + 1) = 274 + 510 * v + 47 + 10 * (z - 1) + 2 * i + 1 by omega] at this; exact this
  · refine sm_cg ?_ (h3 i hi)
    have := e (2 + 3 * i + 2) (by omega); rw [show 274 + 510 * v + (2 + 3 * i + 2) = 274 + 510 * v + 2 + 3 * i + 2 by omega] at this; exact this
  · have := e (150 + 36 * a + c) (by omega); rw [show 274 + 510 * v + (150 + 36 * a + c) = 274 + 510 * v + 150 + 36 * a + c by omega] at this; exact this
  · rw [e0] at hn
    obtain ⟨d, d1, d2, d3⟩ := h9 n hn h6' hv
    exact ⟨d, d1, d2, (e 146 (by decide)).trans d3⟩
theorem WFS_cg {μ μ' : Nat → Int32} {s : Nat} (e : ∀ o, o < 26 → μ' (14 + 26 * s + o) = μ (14 + 26 * s + o)) (h : WFS μ s) : WFS μ' s := by
  obtain ⟨h1, h2, h3, h4, h5, h6⟩ := h
  refine ⟨sm_cg (e 2 (by decide)) h1, sm_cg (e 3 (by decide)) h2, sm_cg (e 4 (by decide)) h3, by rw [e 5 (by decide)]; exact h4, fun p hp => ⟨fun k hk => sm_cg (e (6 + 4 * p + k) (by omega)) ((h5 p hp).1 k hk), sm_cg (e (6 + 4 * p + 3) (by omega)) (h5 p hp).2⟩, fun n hn hn5 p hp k hk => ?_⟩
  rw [e 4 (by decide)] at hn
  rw [e (6 + 4 * p + k) (by omega)]
  exact h6 n hn hn5 p hp k hk
theorem WF_cg {μ μ' : Nat → Int32} (e : ∀ k, k < 3334 → μ' k = μ k) (h : WF μ) : WF μ' := by
  obtain ⟨h1, h2, h3, h4, h5⟩ := h
  exact ⟨sm_cg (e 0 (by decide)) h1, sm_cg (e 1 (by decide)) h2, sm_cg (e 2 (by decide)) h3, fun v hv => WFV_cg (e 0 (by decide)) (fun o ho => e _ (by omega)) (h4 v hv), fun s hs => WFS_cg (fun o ho => e _ (by omega)) (h5 s hs)⟩
/-- only one version differs -/
theorem WF_v {μ μ' : Nat → Int32} {v : Nat} (hv : v < 6) (e : ∀ k, k < 274 + 510 * v ∨ 274 + 510 * v + 510 ≤ k → μ' k = μ k) (h : WF μ) (hV : WFV μ' v) : WF μ' := by
  obtain ⟨h1, h2, h3, h4, h5⟩ := h
  refine ⟨sm_cg (e 0 (by omega)) h1, sm_cg (e 1 (by omega)) h2, sm_cg (e 2 (by omega)) h3, fun w hw => ?_, fun s hs => WFS_cg (fun o ho => e _ (by omega)) (h5 s hs)⟩
  by_cases c : w = v
  · rw [c]; exact hV
  · exact WFV_cg (e 0 (by omega)) (fun o ho => e _ (by omega)) (h4 w hw)
/-- what a cell of a version may hold -/
def vOK (o : Nat) (x : Int32) : Prop := (o = 1 → bn x 12) ∧ (38 ≤ o → o < 47 → bn x 5) ∧ (137 ≤ o → o < 146 → bn x 9999) ∧ (47 ≤ o → o < 137 → (o - 47) % 2 = 0 → bn x 9999) ∧ (47 ≤ o → o < 137 → (o - 47) % 2 = 1 → bn x 99) ∧ (2 ≤ o → o < 38 → (o - 2) % 3 = 2 → bn x 9) ∧ (o = 146 → ∃ d : Nat, 1000 ≤ d ∧ d ≤ 9999 ∧ x = nI d) ∧ (o = 147 → bn x 99) ∧ (o = 148 → bn x 9999) ∧ (o = 149 → bn x 9999) ∧ (150 ≤ o → (o - 150) % 36 = 0 → x = 0 ∨ x = 1) ∧ (150 ≤ o → (o - 150) % 36 = 1 → bn x 9999) ∧ (150 ≤ o → (o - 150) % 36 = 2 → bn x 2) ∧ (150 ≤ o → (o - 150) % 36 = 3 → bn x 30) ∧ (150 ≤ o → (o - 150) % 36 = 4 → bn x 30) ∧ (150 ≤ o → (o - 150) % 36 = 5 → x = -1 ∨ bn x 9) ∧ (150 ≤ o → 6 ≤ (o - 150) % 36 → bn x 9999999)
theorem WFV_of {μ μ' : Nat → Int32} {v : Nat} (h : WFV μ v) (e0 : μ' 0 = μ 0) (hc : ∀ o, o < 510 → μ' (274 + 510 * v + o) = μ (274 + 510 * v + o) ∨ vOK o (μ' (274 + 510 * v + o))) (ha : ∀ a, a < 10 → (μ' (274 + 510 * v + 150 + 36 * a + 1) = μ (274 + 510 * v + 150 + 36 * a + 1) ∧ μ' (274 + 510 * v + 150 + 36 * a + 2) = μ (274 + 510 * v + 150 + 36 * a + 2)) ∨ ((μ' (274 + 510 * v + 150 + 36 * a + 2) = 1 → bn (μ' (274 + 510 * v + 150 + 36 * a + 1)) 99) ∧ (μ' (274 + 510 * v + 150 + 36 * a + 2) = 2 → bn (μ' (274 + 510 * v + 150 + 36 * a + 1)) 50))) : WFV μ' v := by
  obtain ⟨h1, h2, h3, h4, h5, h6, h7, h8, h9⟩ := h
  have one : ∀ o B, o < 510 → sm μ (274 + 510 * v + o) B → (vOK o (μ' (274 + 510 * v + o)) → bn (μ' (274 + 510 * v + o)) B) → sm μ' (274 + 510 * v + o) B := fun o B ho hs hk => by
    rcases hc o ho with e | e
    · exact sm_cg e hs
    · exact hk e
  refine ⟨one 1 12 (by decide) h1 (fun k => k.1 rfl), fun z z1 z9 => ?_, fun i hi => ?_, one 146 9999 (by decide) h4 (fun k => ?_), one 147 99 (by decide) h5 (fun k => k.2.2.2.2.2.2.2.1 rfl), one 148 9999 (by decide) h6 (fun k => k.2.2.2.2.2.2.2.2.1 rfl), one 149 9999 (by decide) h7 (fun k => k.2.2.2.2.2.2.2.2.2.1 rfl), fun a ha9 => ?_, fun n hn h6' hv => ?_⟩
  · obtain ⟨a1, a2, a3⟩ := h2 z z1 z9
    have x1 := one (38 + z - 1) 5 (by omega) (by rw [show 274 + 510 * v + (38 + z - 1) = 274 + 510 * v + 38 + z - 1 by omega]; exact a1) (fun k => k.2.1 (by omega) (by omega))
    have x2 := one (137 + z - 1) 9999 (by omega) (by rw [show 274 + 510 * v + (137 + z - 1) = 274 + 510 * v + 137 + z - 1 by omega]; exact a2) (fun k => k.2.2.1 (by omega) (by omega))
    rw [show 274 + 510 * v + (38 + z - 1) = 274 + 510 * v + 38 + z - 1 by omega] at x1
    rw [show 274 + 510 * v + (137 + z - 1) = 274 + 510 * v + 137 + z - 1 by omega] at x2
    refine ⟨x1, x2, fun i hi => ⟨?_, ?_⟩⟩
    · have := one (47 + 10 * (z - 1) + 2 * i) 9999 (by omega) (by rw [show 274 + 510 * v + (47 + 10 * (z - 1) + 2 * i) = 274 + 510 * v + 47 + 10 * (z - 1) + 2 * i by omega]; exact (a3 i hi).1) (fun k => k.2.2.2.1 (by omega) (by omega) (by omega))
      rw [show 274 + 510 * v + (47 + 10 * (z - 1) + 2 * i) = 274 + 510 * v + 47 + 10 * (z - 1) + 2 * i by omega] at this
      exact this
    · have := one (47 + 10 * (z - 1) + 2 * i + 1) 99 (by omega) (by rw [show 274 + 510 * v + (47 + 10 * (z - 1) + 2 * i + 1) = 274 + 510 * v + 47 + 10 * (z - 1) + 2 * i + 1 by omega]; exact (a3 i hi).2) (fun k => k.2.2.2.2.1 (by omega) (by omega) (by omega))
      rw [show 274 + 510 * v + (47 + 10 * (z - 1) + 2 * i + 1) = 274 + 510 * v + 47 + 10 * (z - 1) + 2 * i + 1 by omega] at this
      exact this
  · have := one (2 + 3 * i + 2) 9 (by omega) (by rw [show 274 + 510 * v + (2 + 3 * i + 2) = 274 + 510 * v + 2 + 3 * i + 2 by omega]; exact h3 i hi) (fun k => k.2.2.2.2.2.1 (by omega) (by omega) (by omega))
    rw [show 274 + 510 * v + (2 + 3 * i + 2) = 274 + 510 * v + 2 + 3 * i + 2 by omega] at this
    exact this
  · obtain ⟨d, d1, d2, d3⟩ := k.2.2.2.2.2.2.1 rfl
    exact ⟨d, d2, d3⟩
  · obtain ⟨b1, b2, b3, b4, b5, b6, b7, b8, b9⟩ := h8 a ha9
    have ix : ∀ c, c < 36 → 274 + 510 * v + (150 + 36 * a + c) = 274 + 510 * v + 150 + 36 * a + c := fun c _ => by omega
    have ac : ∀ c B, c < 36 → sm μ (274 + 510 * v + 150 + 36 * a + c) B → (vOK (150 + 36 * a + c) (μ' (274 + 510 * v + 150 + 36 * a + c)) → bn (μ' (274 + 510 * v + 150 + 36 * a + c)) B) → sm μ' (274 + 510 * v + 150 + 36 * a + c) B := fun c B hc9 hs hk => by
      have := one (150 + 36 * a + c) B (by omega) (by rw [ix c hc9]; exact hs) (by rw [ix c hc9]; exact hk)
      rw [ix c hc9] at this
      exact this
    refine ⟨?_, ac 1 9999 (by decide) b2 (fun k => k.2.2.2.2.2.2.2.2.2.2.2.1 (by omega) (by omega)), ac 2 2 (by decide) b3 (fun k => k.2.2.2.2.2.2.2.2.2.2.2.2.1 (by omega) (by omega)), ac 3 30 (by decide) b4 (fun k => k.2.2.2.2.2.2.2.2.2.2.2.2.2.1 (by omega) (by omega)), ac 4 30 (by decide) b5 (fun k => k.2.2.2.2.2.2.2.2.2.2.2.2.2.2.1 (by omega) (by omega)), ?_, fun k hk => ?_, fun z9 => ?_, fun z9 => ?_⟩
    · have e9 := hc (150 + 36 * a + 0) (by omega)
      rw [ix 0 (by decide), Nat.add_zero] at e9
      rcases e9 with e | e
      · rw [e]; exact b1
      · exact e.2.2.2.2.2.2.2.2.2.2.1 (by omega) (by omega)
    · have e9 := hc (150 + 36 * a + 5) (by omega)
      rw [ix 5 (by decide)] at e9
      rcases e9 with e | e
      · rw [e]; exact b6.imp id (sm_cg e)
      · exact e.2.2.2.2.2.2.2.2.2.2.2.2.2.2.2.1 (by omega) (by omega)
    · have := ac (6 + k) 9999999 (by omega) (by rw [← Nat.add_assoc]; exact b7 k hk) (fun k9 => k9.2.2.2.2.2.2.2.2.2.2.2.2.2.2.2.2 (by omega) (by omega))
      rw [← Nat.add_assoc] at this
      exact this
    · rcases ha a ha9 with ⟨e1, e2⟩ | ⟨e1, _⟩
      · rw [e2] at z9
        exact sm_cg e1 (b8 z9)
      · exact e1 z9
    · rcases ha a ha9 with ⟨e1, e2⟩ | ⟨_, e1⟩
      · rw [e2] at z9
        exact sm_cg e1 (b9 z9)
      · exact e1 z9
  · rw [e0] at hn
    rcases hc 146 (by decide) with e | e
    · obtain ⟨d, d1, d2, d3⟩ := h9 n hn h6' hv
      exact ⟨d, d1, d2, e.trans d3⟩
    · exact e.2.2.2.2.2.2.1 rfl
theorem paT_cg {μ μ' : Nat → Int32} {e : Nat} : ∀ k j, (∀ i, j ≤ i → i < j + k → μ' (e + 6 + i) = μ (e + 6 + i)) → (paT μ' e k j).length = (paT μ e k j).length := by
  intro k
  induction k with
  | zero => intro j _; rfl
  | succ k ih =>
    intro j h
    rw [paT, paT, List.length_cons, List.length_cons, List.length_append, List.length_append, h j (Nat.le_refl _) (by omega), ih (j + 1) (fun i h1 h2 => h i (by omega) (by omega))]
theorem paT_tx {μ : Nat → Int32} {e : Nat} : ∀ (l : List (Nat × TS)) (j : Nat), (∀ i y, l[i]? = some y → μ (e + 6 + (j + i)) = tsE (nI y.1) y.2) → (paT μ e l.length j).length = txL l := by
  intro l
  induction l with
  | nil => intro j _; rfl
  | cons y l ih =>
    intro j h
    have h0 : μ (e + 6 + j) = tsE (nI y.1) y.2 := h 0 y (by simp)
    rw [List.length_cons, paT, List.length_cons, List.length_append, txL, ih (j + 1) (fun i z hz => by rw [show j + 1 + i = j + (i + 1) by omega]; exact h (i + 1) z (by simpa using hz)), h0]
    unfold tsN
    omega
theorem vOK_1 {x : Int32} (h : bn x 12) : vOK 1 x := by
  unfold vOK
  refine ⟨fun _ => h, ?_, ?_, ?_, ?_, ?_, ?_, ?_, ?_, ?_, ?_, ?_, ?_, ?_, ?_, ?_, ?_⟩
  all_goals (intros; first | omega | assumption)
theorem vOK_c {x : Int32} {o : Nat} (h1 : 38 ≤ o) (h2 : o < 47) (h : bn x 5) : vOK o x := by
  unfold vOK
  refine ⟨?_, fun _ _ => h, ?_, ?_, ?_, ?_, ?_, ?_, ?_, ?_, ?_, ?_, ?_, ?_, ?_, ?_, ?_⟩
  all_goals (intros; first | omega | assumption)
theorem vOK_m {x : Int32} {o : Nat} (h1 : 137 ≤ o) (h2 : o < 146) (h : bn x 9999) : vOK o x := by
  unfold vOK
  refine ⟨?_, ?_, fun _ _ => h, ?_, ?_, ?_, ?_, ?_, ?_, ?_, ?_, ?_, ?_, ?_, ?_, ?_, ?_⟩
  all_goals (intros; first | omega | assumption)
theorem vOK_w {x : Int32} {o : Nat} (h1 : 47 ≤ o) (h2 : o < 137) (h3 : (o - 47) % 2 = 0) (h : bn x 9999) : vOK o x := by
  unfold vOK
  refine ⟨?_, ?_, ?_, fun _ _ _ => h, ?_, ?_, ?_, ?_, ?_, ?_, ?_, ?_, ?_, ?_, ?_, ?_, ?_⟩
  all_goals (intros; first | omega | assumption)
theorem vOK_p {x : Int32} {o : Nat} (h1 : 47 ≤ o) (h2 : o < 137) (h3 : (o - 47) % 2 = 1) (h : bn x 99) : vOK o x := by
  unfold vOK
  refine ⟨?_, ?_, ?_, ?_, fun _ _ _ => h, ?_, ?_, ?_, ?_, ?_, ?_, ?_, ?_, ?_, ?_, ?_, ?_⟩
  all_goals (intros; first | omega | assumption)
theorem vOK_z {x : Int32} {o : Nat} (h1 : 2 ≤ o) (h2 : o < 38) (h : (o - 2) % 3 = 2 → bn x 9) : vOK o x := by
  unfold vOK
  refine ⟨?_, ?_, ?_, ?_, ?_, fun _ _ => h, ?_, ?_, ?_, ?_, ?_, ?_, ?_, ?_, ?_, ?_, ?_⟩
  all_goals (intros; first | omega | assumption)
theorem vOK_d {x : Int32} (h : ∃ d : Nat, 1000 ≤ d ∧ d ≤ 9999 ∧ x = nI d) : vOK 146 x := by
  unfold vOK
  refine ⟨?_, ?_, ?_, ?_, ?_, ?_, fun _ => h, ?_, ?_, ?_, ?_, ?_, ?_, ?_, ?_, ?_, ?_⟩
  all_goals (intros; first | omega | assumption)
theorem vOK_f {x : Int32} (h : bn x 99) : vOK 147 x := by
  unfold vOK
  refine ⟨?_, ?_, ?_, ?_, ?_, ?_, ?_, fun _ => h, ?_, ?_, ?_, ?_, ?_, ?_, ?_, ?_, ?_⟩
  all_goals (intros; first | omega | assumption)
theorem vOK_s {x : Int32} (h : bn x 9999) : vOK 148 x := by
  unfold vOK
  refine ⟨?_, ?_, ?_, ?_, ?_, ?_, ?_, ?_, fun _ => h, ?_, ?_, ?_, ?_, ?_, ?_, ?_, ?_⟩
  all_goals (intros; first | omega | assumption)
theorem vOK_k {x : Int32} (h : bn x 9999) : vOK 149 x := by
  unfold vOK
  refine ⟨?_, ?_, ?_, ?_, ?_, ?_, ?_, ?_, ?_, fun _ => h, ?_, ?_, ?_, ?_, ?_, ?_, ?_⟩
  all_goals (intros; first | omega | assumption)
theorem vOK_a {x : Int32} {a c : Nat} (hc : c < 36) (h0 : c = 0 → x = 0 ∨ x = 1) (h1 : c = 1 → bn x 9999) (h2 : c = 2 → bn x 2) (h3 : c = 3 → bn x 30) (h4 : c = 4 → bn x 30) (h5 : c = 5 → x = -1 ∨ bn x 9) (h6 : 6 ≤ c → bn x 9999999) : vOK (150 + 36 * a + c) x := by
  have e : (150 + 36 * a + c - 150) % 36 = c := by omega
  unfold vOK
  rw [e]
  refine ⟨?_, ?_, ?_, ?_, ?_, ?_, ?_, ?_, ?_, ?_, fun _ => h0, fun _ => h1, fun _ => h2, fun _ => h3, fun _ => h4, fun _ => h5, fun _ => h6⟩
  all_goals (intros; omega)
theorem bz_bn {μ : Nat → Int32} {v z : Nat} (h : WFV μ v) (h1 : 1 ≤ z) (h9 : z ≤ 9) {j : Nat} (hj : j < 10) : (j % 2 = 0 → bn (μ (274 + 510 * v + 47 + 10 * (z - 1) + j)) 9999) ∧ (j % 2 = 1 → bn (μ (274 + 510 * v + 47 + 10 * (z - 1) + j)) 99) := by
  have a := (h.2.1 z h1 h9).2.2 (j / 2) (by omega)
  refine ⟨fun e => ?_, fun e => ?_⟩
  · have := a.1
    rw [show 2 * (j / 2) = j by omega] at this
    exact this
  · have := a.2
    rw [show 274 + 510 * v + 47 + 10 * (z - 1) + 2 * (j / 2) + 1 = 274 + 510 * v + 47 + 10 * (z - 1) + j by omega] at this
    exact this
theorem bz_ok {x : Int32} {z j : Nat} (h1 : 1 ≤ z) (h9 : z ≤ 9) (hj : j < 10) (h : (j % 2 = 0 → bn x 9999) ∧ (j % 2 = 1 → bn x 99)) : vOK (47 + 10 * (z - 1) + j) x := by
  rcases (by omega : j % 2 = 0 ∨ j % 2 = 1) with e | e
  · exact vOK_w (by omega) (by omega) (by omega) (h.1 e)
  · exact vOK_p (by omega) (by omega) (by omega) (h.2 e)
theorem bn.of0 {x : Int32} {B : Nat} (h : ¬ zin x 0 (nI B) = 0) (hB : B < 2 ^ 31) : bn x B := by
  obtain ⟨j, hj, e⟩ := zin_n hB h
  exact ⟨j, hj, e⟩
theorem bk_wf {μ : Nat → Int32} (hw : WF μ) {v z : Nat} {w p : Int32} (hv : v < 6) (h1 : 1 ≤ z) (h9 : z ≤ 9) (hx : bn w 9999) (hp : bn p 9999) (hB : bkB μ v z w p = true) : WF (bkS μ v z w p) := by
  obtain ⟨c, hc, ec⟩ := hw.brk hv h1 h9
  have ic : iv (μ (274 + 510 * v + 38 + z - 1)) = c := by rw [ec]; exact nI_clamp (by omega)
  have hI : bxI μ v z w ≤ c := by
    have := (bxF_le (μ := μ) (v := v) (z := z) (w := w) c 0).2
    unfold bxI
    rw [ic]
    omega
  have hp99 : bn p 99 := by
    obtain ⟨m, hm, em⟩ := hp
    unfold bkB at hB
    rw [Bool.and_eq_true] at hB
    have h1' := hB.1
    refine ⟨m, ?_, em⟩
    rcases Nat.lt_or_ge 99 m with q9 | q9
    · rw [decide_eq_true (show (99 : Int32) < p by rw [em]; exact (nI_ltI (a := 99) (by decide) (by omega)).mpr q9)] at h1'
      cases h1'
    · exact q9
  have hbx : bxB μ v z w = true → bxI μ v z w < c := fun h => by
    unfold bxB at h
    rw [ic, Bool.and_eq_true, decide_eq_true_eq] at h
    exact h.1
  generalize hi : bxI μ v z w = i at *
  have mk : ∀ μ' : Nat → Int32, (∀ k, k < 274 + 510 * v ∨ 274 + 510 * v + 510 ≤ k → μ' k = μ k) → (∀ o, o < 510 → (o < 38 ∨ 137 ≤ o) → μ' (274 + 510 * v + o) = μ (274 + 510 * v + o)) → (∀ o, 38 ≤ o → o < 137 → μ' (274 + 510 * v + o) = μ (274 + 510 * v + o) ∨ vOK o (μ' (274 + 510 * v + o))) → WF μ' := by
    intro μ' g1 g2 g3
    refine WF_v hv g1 hw (WFV_of (hw.v hv) (g1 0 (by omega)) (fun o ho => ?_) (fun a ha => Or.inl ⟨?_, ?_⟩))
    · rcases (by omega : (o < 38 ∨ 137 ≤ o) ∨ (38 ≤ o ∧ o < 137)) with e | e
      · exact Or.inl (g2 o ho e)
      · exact g3 o e.1 e.2
    · have := g2 (150 + 36 * a + 1) (by omega) (by omega); rw [show 274 + 510 * v + (150 + 36 * a + 1) = 274 + 510 * v + 150 + 36 * a + 1 by omega] at this; exact this
    · have := g2 (150 + 36 * a + 2) (by omega) (by omega); rw [show 274 + 510 * v + (150 + 36 * a + 2) = 274 + 510 * v + 150 + 36 * a + 2 by omega] at this; exact this
  -- a break's cell: its place and what it holds
  have cell : ∀ (o : Nat) (x : Int32) (j : Nat), o = 47 + 10 * (z - 1) + j → j < 10 → ((j % 2 = 0 → bn x 9999) ∧ (j % 2 = 1 → bn x 99)) → vOK o x := fun o x j ho hj hh => by rw [ho]; exact bz_ok h1 h9 hj hh
  by_cases cp : p = 0
  · have hb : bxB μ v z w = true := by
      unfold bkB at hB
      rw [Bool.and_eq_true, if_pos cp] at hB
      exact hB.2
    have hic := hbx hb
    have hS : bkS μ v z w p = bkD μ v z i c := by unfold bkS; rw [if_pos cp, hi, ic]
    rw [hS]
    refine mk _ (fun k hk => ?_) (fun o ho hk => ?_) (fun o ho1 ho2 => ?_)
    · unfold bkD; rw [if_neg (by omega), if_neg (by omega)]
    · unfold bkD; rw [if_neg (by omega), if_neg (by omega)]
    · unfold bkD
      by_cases e1 : 274 + 510 * v + o = 274 + 510 * v + 38 + z - 1
      · right; rw [if_pos e1]; exact vOK_c (by omega) (by omega) ⟨c - 1, by omega, rfl⟩
      · rw [if_neg e1]
        by_cases e2 : 274 + 510 * v + 47 + 10 * (z - 1) + 2 * i ≤ 274 + 510 * v + o ∧ 274 + 510 * v + o < 274 + 510 * v + 47 + 10 * (z - 1) + 2 * (c - 1)
        · right
          rw [if_pos e2]
          have hb := bz_bn (hw.v hv) h1 h9 (j := o - (47 + 10 * (z - 1)) + 2) (by omega)
          rw [show 274 + 510 * v + 47 + 10 * (z - 1) + (o - (47 + 10 * (z - 1)) + 2) = 274 + 510 * v + o + 2 by omega] at hb
          refine cell o _ (o - (47 + 10 * (z - 1))) (by omega) (by omega) ⟨fun e => hb.1 (by omega), fun e => hb.2 (by omega)⟩
        · left; rw [if_neg e2]
  · cases hb : bxB μ v z w with
    | true =>
      have hic := hbx hb
      have hS : bkS μ v z w p = upd (upd μ (274 + 510 * v + 47 + 10 * (z - 1) + 2 * i) w) (274 + 510 * v + 47 + 10 * (z - 1) + 2 * i + 1) p := by unfold bkS; rw [if_neg cp, if_pos hb, hi]
      rw [hS]
      refine mk _ (fun k hk => ?_) (fun o ho hk => ?_) (fun o ho1 ho2 => ?_)
      · rw [pk_un (by omega), pk_un (by omega)]
      · rw [pk_un (by omega), pk_un (by omega)]
      · by_cases e1 : 274 + 510 * v + o = 274 + 510 * v + 47 + 10 * (z - 1) + 2 * i + 1
        · right; rw [e1, pk_us]; exact cell o _ (2 * i + 1) (by omega) (by omega) ⟨fun e => by omega, fun _ => hp99⟩
        · rw [pk_un e1]
          by_cases e2 : 274 + 510 * v + o = 274 + 510 * v + 47 + 10 * (z - 1) + 2 * i
          · right; rw [e2, pk_us]; exact cell o _ (2 * i) (by omega) (by omega) ⟨fun _ => hx, fun e => by omega⟩
          · left; rw [pk_un e2]
    | false =>
      have hc5 : c ≤ 4 := by
        unfold bkB at hB
        rw [Bool.and_eq_true, if_neg cp, hb, ec] at hB
        have := hB.2
        rcases Nat.lt_or_ge c 5 with q5 | q5
        · omega
        · have e5 : c = 5 := by omega
          subst e5
          exact absurd this (by decide)
      have hS : bkS μ v z w p = upd (upd (upd (bkU μ v z i c) (274 + 510 * v + 38 + z - 1) (nI c + 1)) (274 + 510 * v + 47 + 10 * (z - 1) + 2 * i) w) (274 + 510 * v + 47 + 10 * (z - 1) + 2 * i + 1) p := by unfold bkS; rw [if_neg cp, hb, if_neg (by decide), hi, ic, ec]
      rw [hS]
      refine mk _ (fun k hk => ?_) (fun o ho hk => ?_) (fun o ho1 ho2 => ?_)
      · rw [pk_un (by omega), pk_un (by omega), pk_un (by omega)]; unfold bkU; rw [if_neg (by omega)]
      · rw [pk_un (by omega), pk_un (by omega), pk_un (by omega)]; unfold bkU; rw [if_neg (by omega)]
      · by_cases e1 : 274 + 510 * v + o = 274 + 510 * v + 47 + 10 * (z - 1) + 2 * i + 1
        · right; rw [e1, pk_us]; exact cell o _ (2 * i + 1) (by omega) (by omega) ⟨fun e => by omega, fun _ => hp99⟩
        · rw [pk_un e1]
          by_cases e2 : 274 + 510 * v + o = 274 + 510 * v + 47 + 10 * (z - 1) + 2 * i
          · right; rw [e2, pk_us]; exact cell o _ (2 * i) (by omega) (by omega) ⟨fun _ => hx, fun e => by omega⟩
          · rw [pk_un e2]
            by_cases e3 : 274 + 510 * v + o = 274 + 510 * v + 38 + z - 1
            · right; rw [e3, pk_us, nI_1]; exact vOK_c (by omega) (by omega) ⟨c + 1, by omega, rfl⟩
            · rw [pk_un e3]
              unfold bkU
              by_cases e4 : 274 + 510 * v + 47 + 10 * (z - 1) + 2 * i + 2 ≤ 274 + 510 * v + o ∧ 274 + 510 * v + o < 274 + 510 * v + 47 + 10 * (z - 1) + 2 * c + 2
              · right
                rw [if_pos e4]
                have hb := bz_bn (hw.v hv) h1 h9 (j := o - (47 + 10 * (z - 1)) - 2) (by omega)
                rw [show 274 + 510 * v + 47 + 10 * (z - 1) + (o - (47 + 10 * (z - 1)) - 2) = 274 + 510 * v + o - 2 by omega] at hb
                refine cell o _ (o - (47 + 10 * (z - 1))) (by omega) (by omega) ⟨fun e => hb.1 (by omega), fun e => hb.2 (by omega)⟩
              · left; rw [if_neg e4]
/-- one cell of a version is written -/
theorem up_wf {μ : Nat → Int32} (hw : WF μ) {v o : Nat} {x : Int32} (hv : v < 6) (ho1 : 38 ≤ o) (ho : o < 150) (hx : vOK o x) : WF (upd μ (274 + 510 * v + o) x) := by
  refine WF_v hv (fun k hk => pk_un (by omega)) hw (WFV_of (hw.v hv) (pk_un (by omega)) (fun p hp => ?_) (fun a ha => Or.inl ⟨pk_un (by omega), pk_un (by omega)⟩))
  by_cases e : p = o
  · right; rw [e, pk_us]; exact hx
  · left; exact pk_un (by omega)
theorem pt_wf {μ : Nat → Int32} (hw : WF μ) {v : Nat} {x1 x2 x3 : Int32} (hv : v < 6) (h1 : bn x1 9) (hB : ptB μ v x2 x3 = true) : WF (ptS μ v x1 x2 x3) := by
  obtain ⟨c, hc, ec⟩ := hw.rng hv
  have ic : iv (μ (274 + 510 * v + 1)) = c := by rw [ec]; exact nI_clamp (by omega)
  have hc12 : c ≤ 11 := by
    rcases Nat.lt_or_ge c 12 with q9 | q9
    · omega
    · have e : c = 12 := by omega
      subst e
      unfold ptB at hB
      rw [decide_eq_true (show μ (274 + 510 * v + 1) = (12 : Int32) from ec)] at hB
      simp at hB
  unfold ptS
  rw [ic, ec, nI_1]
  refine WF_v hv (fun k hk => ?_) hw (WFV_of (hw.v hv) ?_ (fun o ho => ?_) (fun a ha => Or.inl ⟨?_, ?_⟩))
  · rw [pk_un (by omega), pk_un (by omega), pk_un (by omega), pk_un (by omega)]
  · rw [pk_un (by omega), pk_un (by omega), pk_un (by omega), pk_un (by omega)]
  · by_cases e1 : o = 1
    · right; subst e1; rw [pk_us]; exact vOK_1 ⟨c + 1, by omega, rfl⟩
    · rw [pk_un (by omega)]
      by_cases e2 : 2 + 3 * c ≤ o ∧ o < 2 + 3 * c + 3
      · right
        refine vOK_z (by omega) (by omega) (fun e => ?_)
        rw [show 274 + 510 * v + o = 274 + 510 * v + 2 + 3 * c + 2 by omega, pk_us]
        exact h1
      · left; rw [pk_un (by omega), pk_un (by omega), pk_un (by omega)]
  · rw [pk_un (by omega), pk_un (by omega), pk_un (by omega), pk_un (by omega)]
  · rw [pk_un (by omega), pk_un (by omega), pk_un (by omega), pk_un (by omega)]
theorem zf_wf {μ : Nat → Int32} (hw : WF μ) {v a : Nat} (hv : v < 6) (ha : a < 10) : WF (zf μ (274 + 510 * v + 150 + 36 * a) 36) := by
  have hz : ∀ k, zf μ (274 + 510 * v + 150 + 36 * a) 36 k = if 274 + 510 * v + 150 + 36 * a ≤ k ∧ k < 274 + 510 * v + 150 + 36 * a + 36 then 0 else μ k := fun _ => rfl
  refine WF_v hv (fun k hk => by rw [hz, if_neg (by omega)]) hw (WFV_of (hw.v hv) (by rw [hz, if_neg (by omega)]) (fun o ho => ?_) (fun a' ha' => ?_))
  · by_cases e : 150 + 36 * a ≤ o ∧ o < 150 + 36 * a + 36
    · right
      rw [hz, if_pos (by omega)]
      have := vOK_a (x := 0) (a := a) (c := o - (150 + 36 * a)) (by omega) (fun _ => Or.inl rfl) (fun _ => bn.z) (fun _ => bn.z) (fun _ => bn.z) (fun _ => bn.z) (fun _ => Or.inr bn.z) (fun _ => bn.z)
      rw [show 150 + 36 * a + (o - (150 + 36 * a)) = o by omega] at this
      exact this
    · left; rw [hz, if_neg (by omega)]
  · by_cases e : a' = a
    · subst e
      right
      rw [hz, hz, if_pos (by omega), if_pos (by omega)]
      exact ⟨fun z9 => absurd z9 (by decide), fun z9 => absurd z9 (by decide)⟩
    · left
      rw [hz, hz, if_neg (by omega), if_neg (by omega)]
      exact ⟨rfl, rfl⟩
theorem tsE_bn {y : Nat × TS} (h : tsW y.2) (hr : y.1 ≤ 30) : bn (tsE (nI y.1) y.2) 9999999 := by
  obtain ⟨kd, by_, v, h1, h2, h3, hk, hb, hv⟩ := h
  refine ⟨_, ?_, tsE_n h1 h2 h3 hk hb hv hr⟩
  have : (if y.2.1 = true then 1 else 0 : Nat) ≤ 1 := by split <;> omega
  generalize (if y.2.1 = true then 1 else 0 : Nat) = m at *
  omega
theorem se_wf {μ : Nat → Int32} (hw : WF μ) {v a : Nat} {x2 x3 excl : Int32} {l : List (Nat × TS)} {rows : Nat} (hv : v < 6) (ha : a < 10) (h2 : bn x2 9999) (h3 : bn x3 2) (hl : l.length ≤ 30) (hr : rows ≤ 30) (hy : ∀ y, y ∈ l → y.1 < rows ∧ tsW y.2) (hex : excl = -1 ∨ bn excl 9) (hB : seB x2 x3 = true) : WF (seF μ v a x2 x3 (nI rows) (nI l.length) (tvF l) excl) := by
  have ev : ∀ k, k < 274 + 510 * v + 150 + 36 * a ∨ 274 + 510 * v + 150 + 36 * a + 36 ≤ k → seF μ v a x2 x3 (nI rows) (nI l.length) (tvF l) excl k = μ k := fun k hk => by
    unfold seF
    rw [if_neg (by omega), pk_un (by omega), pk_un (by omega), pk_un (by omega), pk_un (by omega), pk_un (by omega), pk_un (by omega)]
  have e0 : seF μ v a x2 x3 (nI rows) (nI l.length) (tvF l) excl (274 + 510 * v + 150 + 36 * a) = 1 := by
    unfold seF
    rw [if_neg (by omega), pk_un (by omega), pk_un (by omega), pk_un (by omega), pk_un (by omega), pk_un (by omega), pk_us]
  have e1 : seF μ v a x2 x3 (nI rows) (nI l.length) (tvF l) excl (274 + 510 * v + 150 + 36 * a + 1) = x2 := by
    unfold seF
    rw [if_neg (by omega), pk_un (by omega), pk_un (by omega), pk_un (by omega), pk_un (by omega), pk_us]
  have e2 : seF μ v a x2 x3 (nI rows) (nI l.length) (tvF l) excl (274 + 510 * v + 150 + 36 * a + 2) = x3 := by
    unfold seF
    rw [if_neg (by omega), pk_un (by omega), pk_un (by omega), pk_un (by omega), pk_us]
  have e3 : seF μ v a x2 x3 (nI rows) (nI l.length) (tvF l) excl (274 + 510 * v + 150 + 36 * a + 3) = nI rows := by
    unfold seF
    rw [if_neg (by omega), pk_un (by omega), pk_un (by omega), pk_us]
  have e4 : seF μ v a x2 x3 (nI rows) (nI l.length) (tvF l) excl (274 + 510 * v + 150 + 36 * a + 4) = nI l.length := by
    unfold seF
    rw [if_neg (by omega), pk_un (by omega), pk_us]
  have e5 : seF μ v a x2 x3 (nI rows) (nI l.length) (tvF l) excl (274 + 510 * v + 150 + 36 * a + 5) = excl := by
    unfold seF
    rw [if_neg (by omega), pk_us]
  have e6 : ∀ k, k < 30 → bn (seF μ v a x2 x3 (nI rows) (nI l.length) (tvF l) excl (274 + 510 * v + 150 + 36 * a + (6 + k))) 9999999 := fun k hk => by
    unfold seF
    rw [if_pos (by omega), show iv (nI l.length) = l.length from nI_clamp (by omega)]
    split
    · unfold tvF
      split
      · rename_i y hy9
        have hm := List.mem_of_getElem? hy9
        exact tsE_bn (hy y hm).2 (by have := (hy y hm).1; omega)
      · exact bn.z
    · exact bn.z
  refine WF_v hv (fun k hk => ev k (by omega)) hw (WFV_of (hw.v hv) (ev 0 (by omega)) (fun o ho => ?_) (fun a' ha' => ?_))
  · by_cases e : 150 + 36 * a ≤ o ∧ o < 150 + 36 * a + 36
    · right
      obtain ⟨c, hc⟩ : ∃ c, o = 150 + 36 * a + c := ⟨o - (150 + 36 * a), by omega⟩
      have hc36 : c < 36 := by omega
      rw [hc, show 274 + 510 * v + (150 + 36 * a + c) = 274 + 510 * v + 150 + 36 * a + c by omega]
      refine vOK_a hc36 (fun z => ?_) (fun z => ?_) (fun z => ?_) (fun z => ?_) (fun z => ?_) (fun z => ?_) (fun z => ?_)
      · subst z; right; exact e0
      · subst z; rw [e1]; exact h2
      · subst z; rw [e2]; exact h3
      · subst z; rw [e3]; exact ⟨rows, hr, rfl⟩
      · subst z; rw [e4]; exact ⟨l.length, hl, rfl⟩
      · subst z; rw [e5]; exact hex
      · have := e6 (c - 6) (by omega)
        rw [show 6 + (c - 6) = c by omega] at this
        exact this
    · left; exact ev _ (by omega)
  · by_cases e : a' = a
    · subst e
      right
      rw [e1, e2]
      obtain ⟨m, hm, em⟩ := h2
      have lim : ∀ B : Nat, B < 2 ^ 31 → ¬ nI B < x2 → bn x2 B := fun B hB9 z9 => by
        rw [em] at z9
        refine ⟨m, ?_, em⟩
        rcases Nat.lt_or_ge B m with q9 | q9
        · exact absurd ((nI_ltI hB9 (by omega)).mpr q9) z9
        · exact q9
      unfold seB at hB
      refine ⟨fun z9 => ?_, fun z9 => ?_⟩
      · rw [z9, if_pos rfl] at hB
        exact lim 99 (by decide) (fun w9 => by rw [decide_eq_true (show (99 : Int32) < x2 from w9)] at hB; cases hB)
      · rw [z9, if_neg (by decide), if_pos rfl] at hB
        exact lim 50 (by decide) (fun w9 => by rw [decide_eq_true (show (50 : Int32) < x2 from w9)] at hB; cases hB)
    · left
      exact ⟨ev _ (by omega), ev _ (by omega)⟩
/-- carrying out keeps the row in order -/
theorem cr_wf {μ : Nat → Int32} (hw : WF μ) {v : Nat} {x : STM} (hv : v < 6) (hx : stW x) (hB : crBx μ v x = true) : WF (crSx μ v x) := by
  have ztz : ∀ {y : Int32}, zix y → bn y 9 := fun ⟨n, _, h9, e⟩ => ⟨n, h9, e⟩
  unfold crBx crB at hB
  unfold crSx crS
  rcases hx with ⟨c, h1, h2, h3⟩ | ⟨c, ⟨z, h1, h9, ez⟩, h2, h3⟩ | ⟨c, ⟨z, h1, h9, ez⟩, h2⟩ | ⟨c, h1⟩ | ⟨c, ⟨a, ha, ea⟩, h2, h3, h4, h5, h6, h7, h8⟩ | ⟨c, a, ha, ea⟩
  · rw [if_pos c] at hB ⊢
    exact pt_wf hw hv (ztz h1) hB
  · rw [if_neg (by rw [c]; decide), if_pos c] at hB ⊢
    rw [ez, show iv (nI z) = z from nI_clamp (by omega)] at hB ⊢
    exact bk_wf hw hv h1 h9 h2 h3 hB
  · rw [if_neg (by rw [c]; decide), if_neg (by rw [c]; decide), if_pos c]
    rw [ez, show iv (nI z) = z from nI_clamp (by omega), show 274 + 510 * v + 137 + z - 1 = 274 + 510 * v + (137 + z - 1) by omega]
    exact up_wf hw hv (by omega) (by omega) (vOK_m (by omega) (by omega) h2)
  · rcases c with c | c | c | c
    · rw [if_neg (by rw [c]; decide), if_neg (by rw [c]; decide), if_neg (by rw [c]; decide), if_pos c] at hB ⊢
      obtain ⟨y1, y2⟩ := zin_0.mp (of_decide_eq_true hB)
      obtain ⟨m, hm, em⟩ := h1
      rw [em] at y1
      have := (nI_leI (a := 1000) (by decide) (by omega)).mp y1
      exact up_wf hw hv (by omega) (by omega) (vOK_d ⟨m, this, hm, em⟩)
    · rw [if_neg (by rw [c]; decide), if_neg (by rw [c]; decide), if_neg (by rw [c]; decide), if_neg (by rw [c]; decide), if_pos c] at hB ⊢
      exact up_wf hw hv (by omega) (by omega) (vOK_f (bn.of0 (B := 99) (of_decide_eq_true hB) (by decide)))
    · rw [if_neg (by rw [c]; decide), if_neg (by rw [c]; decide), if_neg (by rw [c]; decide), if_neg (by rw [c]; decide), if_neg (by rw [c]; decide), if_pos c]
      exact up_wf hw hv (by omega) (by omega) (vOK_s h1)
    · rw [if_neg (by rw [c]; decide), if_neg (by rw [c]; decide), if_neg (by rw [c]; decide), if_neg (by rw [c]; decide), if_neg (by rw [c]; decide), if_neg (by rw [c]; decide), if_pos c]
      exact up_wf hw hv (by omega) (by omega) (vOK_k h1)
  · rw [if_neg (by rw [c]; decide), if_neg (by rw [c]; decide), if_neg (by rw [c]; decide), if_neg (by rw [c]; decide), if_neg (by rw [c]; decide), if_neg (by rw [c]; decide), if_neg (by rw [c]; decide), if_pos c] at hB ⊢
    rw [ea, show iv (nI a) = a from nI_clamp (by omega)]
    exact se_wf hw hv ha h2 h3 h4 h5 h6 h8 hB
  · rw [if_neg (by rw [c]; decide), if_neg (by rw [c]; decide), if_neg (by rw [c]; decide), if_neg (by rw [c]; decide), if_neg (by rw [c]; decide), if_neg (by rw [c]; decide), if_neg (by rw [c]; decide), if_neg (by rw [c]; decide)]
    rw [ea, show iv (nI a) = a from nI_clamp (by omega)]
    exact zf_wf hw hv ha
theorem paE {μ μ' : Nat → Int32} {v a : Nat} (hw : WF μ) (hv : v < 6) (ha : a < 10) (e : ∀ c, c < 36 → μ' (274 + 510 * v + 150 + 36 * a + c) = μ (274 + 510 * v + 150 + 36 * a + c)) (h : (paT μ (274 + 510 * v + 150 + 36 * a) (iv (μ (274 + 510 * v + 150 + 36 * a + 4))) 0).length ≤ 80) : (paT μ' (274 + 510 * v + 150 + 36 * a) (iv (μ' (274 + 510 * v + 150 + 36 * a + 4))) 0).length ≤ 80 := by
  obtain ⟨c, hc, ec⟩ := (hw.acc hv ha).2.2.2.2.1
  have ic : iv (μ (274 + 510 * v + 150 + 36 * a + 4)) = c := by rw [ec]; exact nI_clamp (by omega)
  rw [e 4 (by decide), ic]
  rw [ic] at h
  rw [paT_cg (μ := μ) (μ' := μ') c 0 (fun i _ hi => by have := e (6 + i) (by omega); rw [← Nat.add_assoc] at this; exact this)]
  exact h
/-- what is kept by a statement that is no accessorial's -/
theorem bk_kp {μ : Nat → Int32} {v z : Nat} {w p : Int32} (h1 : 1 ≤ z) (h9 : z ≤ 9) {k : Nat} (hk : k < 274 + 510 * v ∨ 274 + 510 * v + 150 ≤ k) (hI : bxI μ v z w ≤ 5) (hc : iv (μ (274 + 510 * v + 38 + z - 1)) ≤ 5) (hc2 : ¬ p = 0 → bxB μ v z w = false → iv (μ (274 + 510 * v + 38 + z - 1)) ≤ 4) (hI2 : bxB μ v z w = true → bxI μ v z w ≤ 4) (hI3 : bxI μ v z w ≤ iv (μ (274 + 510 * v + 38 + z - 1))) : bkS μ v z w p k = μ k := by
  unfold bkS
  split
  · unfold bkD
    rw [if_neg (by omega), if_neg (by omega)]
  · rename_i cp
    split
    · rename_i cb
      have := hI2 cb
      rw [pk_un (by omega), pk_un (by omega)]
    · rename_i cb
      have cb' : bxB μ v z w = false := by cases h : bxB μ v z w with | true => exact absurd h cb | false => rfl
      have := hc2 cp cb'
      rw [pk_un (by omega), pk_un (by omega), pk_un (by omega)]
      unfold bkU
      rw [if_neg (by omega)]
theorem cr_wfp {μ : Nat → Int32} (hw : WF μ) (hp : WFP μ) {v : Nat} {x : STM} (hv : v < 6) (hx : stW x) (hB : crBx μ v x = true) : WFP (crSx μ v x) := by
  -- an accessorial's cells are kept
  have kp : (∀ k, k < 274 + 510 * v ∨ 274 + 510 * v + 150 ≤ k → crSx μ v x k = μ k) → WFP (crSx μ v x) := fun h v' hv' a ha => paE hw hv' ha (fun c hc => h _ (by
    rcases Nat.lt_trichotomy v' v with q9 | q9 | q9
    · left; omega
    · right; omega
    · right; omega)) (hp v' hv' a ha)
  have kp2 : ∀ a, a < 10 → (∀ k, k < 274 + 510 * v + 150 + 36 * a ∨ 274 + 510 * v + 150 + 36 * a + 36 ≤ k → crSx μ v x k = μ k) → (paT (crSx μ v x) (274 + 510 * v + 150 + 36 * a) (iv (crSx μ v x (274 + 510 * v + 150 + 36 * a + 4))) 0).length ≤ 80 → WFP (crSx μ v x) := fun a ha h h2 v' hv' a' ha' => by
    by_cases e : v' = v ∧ a' = a
    · obtain ⟨e1, e2⟩ := e
      subst e1 e2
      exact h2
    · refine paE hw hv' ha' (fun c hc => h _ ?_) (hp v' hv' a' ha')
      rcases Nat.lt_trichotomy v' v with q9 | q9 | q9
      · left; omega
      · subst q9
        have : a' ≠ a := fun z9 => e ⟨rfl, z9⟩
        omega
      · right; omega
  rcases hx with ⟨c, h1, h2, h3⟩ | ⟨c, ⟨z, h1, h9, ez⟩, h2, h3⟩ | ⟨c, ⟨z, h1, h9, ez⟩, h2⟩ | ⟨c, h1⟩ | ⟨c, ⟨a, ha, ea⟩, h2, h3, h4, h5, h6, h7, h8⟩ | ⟨c, a, ha, ea⟩
  · refine kp (fun k hk => ?_)
    obtain ⟨n, hn, en⟩ := hw.rng hv
    unfold crSx crS
    rw [if_pos c]
    unfold ptS
    rw [en, show iv (nI n) = n from nI_clamp (by omega), pk_un (by omega), pk_un (by omega), pk_un (by omega), pk_un (by omega)]
  · refine kp (fun k hk => ?_)
    obtain ⟨n, hn, en⟩ := hw.brk hv h1 h9
    have ic : iv (μ (274 + 510 * v + 38 + z - 1)) = n := by rw [en]; exact nI_clamp (by omega)
    have hI : bxI μ v z x.1.2.2.1 ≤ n := by
      have := (bxF_le (μ := μ) (v := v) (z := z) (w := x.1.2.2.1) n 0).2
      unfold bxI
      rw [ic]
      omega
    unfold crBx crB at hB
    rw [if_neg (by rw [c]; decide), if_pos c, ez, show iv (nI z) = z from nI_clamp (by omega)] at hB
    unfold crSx crS
    rw [if_neg (by rw [c]; decide), if_pos c, ez, show iv (nI z) = z from nI_clamp (by omega)]
    refine bk_kp h1 h9 hk (by omega) (by omega) (fun cp cb => ?_) (fun cb => ?_) (by omega)
    · unfold bkB at hB
      rw [Bool.and_eq_true, if_neg cp, cb, en] at hB
      have := hB.2
      rw [ic]
      rcases Nat.lt_or_ge n 5 with q5 | q5
      · omega
      · have e5 : n = 5 := by omega
        subst e5
        exact absurd this (by decide)
    · unfold bxB at cb
      rw [ic, Bool.and_eq_true, decide_eq_true_eq] at cb
      have := cb.1
      omega
  · refine kp (fun k hk => ?_)
    unfold crSx crS
    rw [if_neg (by rw [c]; decide), if_neg (by rw [c]; decide), if_pos c, ez, show iv (nI z) = z from nI_clamp (by omega)]
    exact pk_un (by omega)
  · refine kp (fun k hk => ?_)
    unfold crSx crS
    rcases c with c | c | c | c
    · rw [if_neg (by rw [c]; decide), if_neg (by rw [c]; decide), if_neg (by rw [c]; decide), if_pos c]
      exact pk_un (by omega)
    · rw [if_neg (by rw [c]; decide), if_neg (by rw [c]; decide), if_neg (by rw [c]; decide), if_neg (by rw [c]; decide), if_pos c]
      exact pk_un (by omega)
    · rw [if_neg (by rw [c]; decide), if_neg (by rw [c]; decide), if_neg (by rw [c]; decide), if_neg (by rw [c]; decide), if_neg (by rw [c]; decide), if_pos c]
      exact pk_un (by omega)
    · rw [if_neg (by rw [c]; decide), if_neg (by rw [c]; decide), if_neg (by rw [c]; decide), if_neg (by rw [c]; decide), if_neg (by rw [c]; decide), if_neg (by rw [c]; decide), if_pos c]
      exact pk_un (by omega)
  · have hS : crSx μ v x = seF μ v a x.1.2.2.1 x.1.2.2.2 (nI x.2.1.2) (nI x.2.1.1.length) (tvF x.2.1.1) x.2.2 := by
      unfold crSx crS
      rw [if_neg (by rw [c]; decide), if_neg (by rw [c]; decide), if_neg (by rw [c]; decide), if_neg (by rw [c]; decide), if_neg (by rw [c]; decide), if_neg (by rw [c]; decide), if_neg (by rw [c]; decide), if_pos c, ea, show iv (nI a) = a from nI_clamp (by omega)]
    refine kp2 a ha (fun k hk => ?_) ?_
    · rw [hS]
      unfold seF
      rw [if_neg (by omega), pk_un (by omega), pk_un (by omega), pk_un (by omega), pk_un (by omega), pk_un (by omega), pk_un (by omega)]
    · have e4 : crSx μ v x (274 + 510 * v + 150 + 36 * a + 4) = nI x.2.1.1.length := by
        rw [hS]
        unfold seF
        rw [if_neg (by omega), pk_un (by omega), pk_us]
      rw [e4, show iv (nI x.2.1.1.length) = x.2.1.1.length from nI_clamp (by omega), paT_tx x.2.1.1 0 (fun i y hy => ?_)]
      · exact h7
      · have hi : i < x.2.1.1.length := (List.getElem?_eq_some_iff.mp hy).1
        rw [hS]
        unfold seF
        rw [if_pos (by omega), show iv (nI x.2.1.1.length) = x.2.1.1.length from nI_clamp (by omega), show 274 + 510 * v + 150 + 36 * a + 6 + (0 + i) - (274 + 510 * v + 150 + 36 * a + 6) = i by omega, if_pos hi]
        unfold tvF
        rw [hy]
  · have hS : crSx μ v x = zf μ (274 + 510 * v + 150 + 36 * a) 36 := by
      unfold crSx crS
      rw [if_neg (by rw [c]; decide), if_neg (by rw [c]; decide), if_neg (by rw [c]; decide), if_neg (by rw [c]; decide), if_neg (by rw [c]; decide), if_neg (by rw [c]; decide), if_neg (by rw [c]; decide), if_neg (by rw [c]; decide), ea, show iv (nI a) = a from nI_clamp (by omega)]
    refine kp2 a ha (fun k hk => ?_) ?_
    · rw [hS]
      unfold zf
      rw [if_neg (by omega)]
    · have e4 : crSx μ v x (274 + 510 * v + 150 + 36 * a + 4) = 0 := by
        rw [hS]
        unfold zf
        rw [if_pos (by omega)]
      rw [e4, show iv (0 : Int32) = 0 from rfl]
      exact Nat.zero_le _

theorem stK.kp {w u w1 u1 : Nat → Int32} {s hi hi1 m : Nat} {x : STM} (h : stK w u s hi x) (hw : ∀ i, i < m → w1 i = w i) (hm : s + 8 ≤ m) (hu : ∀ i, i < hi → u1 i = u i) (hh : hi ≤ hi1) : stK w1 u1 s hi1 x := by
  obtain ⟨h1, h2, h3, h4, h5⟩ := h
  refine ⟨by rw [hw _ (by omega)]; exact h1, by rw [hw _ (by omega)]; exact h2, fun c => by rw [hw _ (by omega)]; exact h3 c, fun c => by rw [hw _ (by omega)]; exact h4 c, fun c => ?_⟩
  obtain ⟨t, t1, t2, t3, t4, t5, t6⟩ := h5 c
  refine ⟨t, by omega, by rw [hw _ (by omega)]; exact t2, by rw [hw _ (by omega)]; exact t3, by rw [hw _ (by omega)]; exact t4, by rw [hw _ (by omega)]; exact t5, fun j y hy => ?_⟩
  have hj : j < x.2.1.1.length := (List.getElem?_eq_some_iff.mp hy).1
  rw [hu _ (by omega)]
  exact t6 j y hy
/-- what reading the text leaves -/
def amQ (A : List STM × PS) (r : Nat → Int32) (q : Nat → Nat → Int32) (L : List STM) (r1 : Nat → Int32) (q1 : Nat → Nat → Int32) : Prop := kR r r1 [10, 11, 13, 15] ∧ kQ q q1 [5, 6] ∧ psO r1 ∧ pσ r1 = A.2 ∧ ((pσ r1).2 = false → r1 13 = nI (L.length + A.1.length) ∧ L.length + A.1.length ≤ 81 ∧ iv (r1 15) ≤ 80 ∧ stL (q1 5) (q1 6) (iv (r1 15)) (L ++ A.1))
theorem rl_am {P : Int32 → RST → Prop} {K : Int32 → (Nat → Int32) → (Nat → Nat → Int32) → Prop} {b : Nat → Int32} {n : Nat} {p : Int32} : ∀ (k fuel : Nat) (L : List STM) (r : Nat → Int32) (q : Nat → Nat → Int32), q 4 = b → iv (r 8) = n → n ≤ (pσ r).1 + k → k + 1 < fuel → psO r → (pσ r).2 = false → tsL r → r 13 = nI L.length → 2 * L.length ≤ (pσ r).1 → stL (q 5) (q 6) (iv (r 15)) L → (∀ r1 q1, amQ (amL b n (k + 1) (pσ r)) r q L r1 q1 → K p r1 q1) → wp_X11_amend_31 K P fuel p 1 r q := by
  intro k
  induction k using Nat.strongRecOn with
  | ind k ih =>
    intro fuel L r q hb hn hle hf hp hg hT h13 hL hst hK
    obtain ⟨p1, p2, p3⟩ := ps_1 hp
    have e10 : iv (r 10) = (pσ r).1 := rfl
    have il : iv (r 13) = L.length := by rw [h13]; exact nI_clamp (by omega)
    have it : iv (r 15) ≤ (pσ r).1 := by
      obtain ⟨t, ht, et⟩ := hT
      rw [et, show iv (nI t) = t from nI_clamp (by omega)]
      omega
    obtain ⟨f, rfl⟩ : ∃ f, fuel = f + 1 := ⟨fuel - 1, by omega⟩; rw [wp_X11_amend_31]; unfold wb_X11_amend_31; dsimp only
    refine ⟨fun z9 => absurd z9 (by decide), fun _ => ⟨⟨hp, hg, hT, ⟨L.length, by omega, h13⟩⟩, fun r9 q10 hs => ?_⟩⟩
    obtain ⟨s1, s2, s3, s4, s5, s6⟩ := hs
    rw [hb, hn] at s4 s6
    rw [il] at s5 s6
    have e98 : iv (r9 8) = n := by rw [s1 8 (by decide)]; exact hn
    have e104 : q10 4 = b := (s2 4 (by decide)).trans hb
    refine ⟨⟨s3, by decide⟩, fun v12 r13 q14 hh => ?_⟩
    obtain ⟨a1, a2, a3, a4, a5⟩ := hh
    subst a2
    rw [e104, e98] at a1 a5
    have k13 : kR r r13 [10, 11, 13, 15] := s1.tr a3 (fun _ h => h) (by decide)
    have e15 : r13 15 = r9 15 := a3 15 (by decide)
    have e13 : r13 13 = nI (L.length + 1) := (a3 13 (by decide)).trans s5
    have l9 := ps_1 s3
    have t9 : (pσ r9).2 = false → iv (r9 15) ≤ (pσ r9).1 := fun z9 => by
      obtain ⟨_, _, _, ⟨t, ht, et⟩, _⟩ := s6 z9
      have e9 : iv (r9 10) = (pσ r9).1 := rfl
      rw [et, show iv (nI t) = t from nI_clamp (by omega)]
      omega
    have hnew : (pσ r9).2 = false → stL (q14 5) (q14 6) (iv (r9 15)) (L ++ [(stR b n (pσ r)).1]) := fun z9 => by
      obtain ⟨_, u1, u2, _, u4, u5⟩ := s6 z9
      intro j x hx
      rcases Nat.lt_or_ge j L.length with hj | hj
      · rw [List.getElem?_append_left hj] at hx
        exact (hst j x hx).kp (m := 8 * L.length) u1 (by omega) u2 u4
      · rw [List.getElem?_append_right hj] at hx
        have ej : j = L.length := by
          rcases Nat.eq_or_lt_of_le hj with e | e
          · exact e.symm
          · rw [List.getElem?_eq_none (by rw [List.length_singleton]; omega)] at hx
            cases hx
        subst ej
        rw [Nat.sub_self] at hx
        have hx' : (stR b n (pσ r)).1 = x := by simpa using hx
        rw [← hx']
        exact u5
    cases ht : tkB b n (pσ r9) 59 with
    | false =>
      have hA : amL b n (k + 1) (pσ r) = ([(stR b n (pσ r)).1], (stR b n (pσ r)).2) := by
        rw [amL, ← s4, ht]
        rfl
      rw [hA] at hK
      rw [ht] at a1
      rw [tkS_no ht] at a5
      obtain ⟨f, rfl⟩ : ∃ g, f = g + 1 := ⟨f - 1, by omega⟩
      rw [a1, wp_X11_amend_31]; unfold wb_X11_amend_31; dsimp only
      refine ⟨fun _ => hK r13 q14 ⟨k13, s2, a4, by rw [a5]; exact s4, fun z9 => ?_⟩, fun z9 => absurd rfl z9⟩
      rw [a5] at z9
      rw [List.length_singleton, e15]
      have := t9 z9
      exact ⟨e13, by omega, by omega, hnew z9⟩
    | true =>
      obtain ⟨t1, t2, t3⟩ := tkB_gd (by decide) ht
      have u0 := (s6 t1).1
      have h13p : (pσ r13).1 = (pσ r9).1 + 1 := by rw [a5, t3]
      obtain ⟨k, rfl⟩ : ∃ k', k = k' + 1 := ⟨k - 1, by omega⟩
      have hA : amL b n (k + 1 + 1) (pσ r) = ((stR b n (pσ r)).1 :: (amL b n (k + 1) (pσ r13)).1, (amL b n (k + 1) (pσ r13)).2) := by
        rw [amL, ← s4, if_pos ht, ← a5]
      rw [hA] at hK
      rw [ht] at a1
      rw [a1]
      have tl : tsL r13 := by
        obtain ⟨t, ht9, et⟩ := (s6 t1).2.2.2.1
        refine ⟨t, ?_, by rw [e15]; exact et⟩
        have e9 : iv (r9 10) = (pσ r9).1 := rfl
        have e139 : iv (r13 10) = (pσ r13).1 := rfl
        omega
      refine ih k (by omega) f (L ++ [(stR b n (pσ r)).1]) r13 q14 e104 (by rw [a3 8 (by decide)]; exact e98) (by omega) (by omega) a4 (by rw [a5, t3]; exact t1) tl (by rw [List.length_append, List.length_singleton]; exact e13) (by rw [List.length_append, List.length_singleton]; omega) (by rw [e15]; exact hnew t1) (fun r1 q1 hq => hK r1 q1 ?_)
      obtain ⟨b1, b2, b3, b4, b5⟩ := hq
      refine ⟨k13.tr b1 (fun _ h => h) (fun _ h => h), s2.tr b2 (fun _ h => h) (fun _ h => h), b3, b4, fun z9 => ?_⟩
      obtain ⟨c1, c2, c3, c4⟩ := b5 z9
      rw [List.length_append, List.length_singleton] at c1 c2
      rw [List.append_assoc, List.singleton_append] at c4
      refine ⟨by rw [c1, List.length_cons]; congr 1; omega, by rw [List.length_cons]; omega, c3, c4⟩
theorem am_gd {b : Nat → Int32} {n : Nat} (h80 : n ≤ 80) : ∀ (k : Nat) (σ : PS), σ.1 ≤ n → σ.2 = false → (amL b n k σ).2.2 = false → ∀ x, x ∈ (amL b n k σ).1 → stW x := by
  intro k
  induction k with
  | zero => intro σ _ _ _ x hx; simp [amL] at hx
  | succ k ih =>
    intro σ h h0 hg x hx
    rw [amL] at hg hx
    by_cases ht : tkB b n (stR b n σ).2 59 = true
    · rw [if_pos ht] at hg hx
      obtain ⟨t1, t2, t3⟩ := tkB_gd (by decide) ht
      rcases List.mem_cons.mp hx with e | e
      · subst e; exact st_gd h80 h t1
      · exact ih _ (by rw [t3]; exact t2) (by rw [t3]; exact t1) hg x e
    · rw [if_neg ht] at hg hx
      have e : x = (stR b n σ).1 := by simpa using hx
      subst e
      exact st_gd h80 h hg
/-- a row copied -/
theorem rl_a99 {P : Int32 → RST → Prop} {K : Int32 → (Nat → Int32) → (Nat → Nat → Int32) → Prop} {r : Nat → Int32} {q0 : Nat → Nat → Int32} {p : Int32} : ∀ (m j fuel : Nat) (q : Nat → Nat → Int32), j + m = 3334 → m < fuel → kQ q0 q [2] → (∀ k, k < j → q 2 k = q0 0 k) → (∀ q1, kQ q0 q1 [2] → (∀ k, k < 3334 → q1 2 k = q0 0 k) → K p r q1) → wp_X11_amend_99 K P fuel p (nI j) r q := by
  intro m
  induction m with
  | zero =>
    intro j fuel q hj hf hk hc hK
    obtain ⟨f, rfl⟩ : ∃ f, fuel = f + 1 := ⟨fuel - 1, by omega⟩; rw [wp_X11_amend_99]; unfold wb_X11_amend_99; dsimp only
    simp (disch := omega) only [li_2, li_3, li_4, li_5, li_6, li_7, li_8, li_9, li_10, li_12, li_14, li_20, li_26, li_30, li_31, li_36, li_38, li_47, li_48, li_50, li_57, li_58, li_80, li_98, li_99, li_100, li_102, li_104, li_105, li_108, li_109, li_110, li_114, li_115, li_119, li_122, li_137, li_146, li_147, li_148, li_149, li_150, li_200, li_255, li_256, li_274, li_510, li_512, li_640, li_999, li_1000, li_1024, li_3334, li_5000, li_9999, li_10000, li_23338, li_26672, li_30000, li_99999, li_150000, li_300000, pk_mul, nI_add, pk_sub, nI_clamp, nI_1, nI_p1, nI_a0, nI_0a, nI_m0, nI_m1, cl_0, cl_1, z01, z11, nI_leI, nI_ltI, nI_eq, nz_lt0, nz_le, nz_eq0, nz_pos, nz_le0, nz_eq1, nz_lt1, nz_ge1, nz_le1, nz_gt1, nz_vp, nz_vp0, nz_vp1, six_nI, vix_nI, bix_nI, pix_nI, fix_nI, gix_nI, rix_nI, zix_nI, pix_0, pix_1, bix_0, fix_0, fix_1, rix_1, true_and, and_true]
    refine ⟨fun _ => hK q hk (fun k hk9 => hc k (by omega)), fun z9 => absurd (by omega) z9⟩
  | succ m ih =>
    intro j fuel q hj hf hk hc hK
    obtain ⟨f, rfl⟩ : ∃ f, fuel = f + 1 := ⟨fuel - 1, by omega⟩; rw [wp_X11_amend_99]; unfold wb_X11_amend_99; dsimp only
    simp (disch := omega) only [li_2, li_3, li_4, li_5, li_6, li_7, li_8, li_9, li_10, li_12, li_14, li_20, li_26, li_30, li_31, li_36, li_38, li_47, li_48, li_50, li_57, li_58, li_80, li_98, li_99, li_100, li_102, li_104, li_105, li_108, li_109, li_110, li_114, li_115, li_119, li_122, li_137, li_146, li_147, li_148, li_149, li_150, li_200, li_255, li_256, li_274, li_510, li_512, li_640, li_999, li_1000, li_1024, li_3334, li_5000, li_9999, li_10000, li_23338, li_26672, li_30000, li_99999, li_150000, li_300000, pk_mul, nI_add, pk_sub, nI_clamp, nI_1, nI_p1, nI_a0, nI_0a, nI_m0, nI_m1, cl_0, cl_1, z01, z11, nI_leI, nI_ltI, nI_eq, nz_lt0, nz_le, nz_eq0, nz_pos, nz_le0, nz_eq1, nz_lt1, nz_ge1, nz_le1, nz_gt1, nz_vp, nz_vp0, nz_vp1, six_nI, vix_nI, bix_nI, pix_nI, fix_nI, gix_nI, rix_nI, zix_nI, pix_0, pix_1, bix_0, fix_0, fix_1, rix_1, true_and, and_true]
    refine ⟨fun z9 => absurd z9 (by omega), fun _ => ⟨by omega, by omega, fun q27 e27 v28 e28 => ?_⟩⟩
    subst e28
    refine ih (j + 1) f q27 (by omega) (by omega) (by rw [e27]; exact hk.up (by decide) _) (fun k hk9 => ?_) hK
    rw [e27, va_up_self]
    by_cases e : k = j
    · subst e; rw [pk_us, hk 0 (by decide)]
    · rw [pk_un e]; exact hc k (by omega)
theorem rl_a161 {P : Int32 → RST → Prop} {r : Nat → Int32} {q0 : Nat → Nat → Int32} : ∀ (m j fuel : Nat) (q : Nat → Nat → Int32), j + m = 3334 → m < fuel → kQ q0 q [0] → (∀ k, k < j → q 0 k = q0 2 k) → (∀ q1, kQ q0 q1 [0] → (∀ k, k < 3334 → q1 0 k = q0 2 k) → P 0 (va_up r 6 2, q1)) → wp_X11_amend_161 P fuel (nI j) r q := by
  intro m
  induction m with
  | zero =>
    intro j fuel q hj hf hk hc hK
    obtain ⟨f, rfl⟩ : ∃ f, fuel = f + 1 := ⟨fuel - 1, by omega⟩; rw [wp_X11_amend_161]; unfold wb_X11_amend_161; dsimp only
    simp (disch := omega) only [li_2, li_3, li_4, li_5, li_6, li_7, li_8, li_9, li_10, li_12, li_14, li_20, li_26, li_30, li_31, li_36, li_38, li_47, li_48, li_50, li_57, li_58, li_80, li_98, li_99, li_100, li_102, li_104, li_105, li_108, li_109, li_110, li_114, li_115, li_119, li_122, li_137, li_146, li_147, li_148, li_149, li_150, li_200, li_255, li_256, li_274, li_510, li_512, li_640, li_999, li_1000, li_1024, li_3334, li_5000, li_9999, li_10000, li_23338, li_26672, li_30000, li_99999, li_150000, li_300000, pk_mul, nI_add, pk_sub, nI_clamp, nI_1, nI_p1, nI_a0, nI_0a, nI_m0, nI_m1, cl_0, cl_1, z01, z11, nI_leI, nI_ltI, nI_eq, nz_lt0, nz_le, nz_eq0, nz_pos, nz_le0, nz_eq1, nz_lt1, nz_ge1, nz_le1, nz_gt1, nz_vp, nz_vp0, nz_vp1, six_nI, vix_nI, bix_nI, pix_nI, fix_nI, gix_nI, rix_nI, zix_nI, pix_0, pix_1, bix_0, fix_0, fix_1, rix_1, true_and, and_true]
    refine ⟨fun _ v48 r49 q50 hh => ?_, fun z9 => absurd (by omega) z9⟩
    obtain ⟨h1, h2, h3⟩ := hh
    subst h3
    rw [h1, h2]
    exact hK q50 hk (fun k hk9 => hc k (by omega))
  | succ m ih =>
    intro j fuel q hj hf hk hc hK
    obtain ⟨f, rfl⟩ : ∃ f, fuel = f + 1 := ⟨fuel - 1, by omega⟩; rw [wp_X11_amend_161]; unfold wb_X11_amend_161; dsimp only
    simp (disch := omega) only [li_2, li_3, li_4, li_5, li_6, li_7, li_8, li_9, li_10, li_12, li_14, li_20, li_26, li_30, li_31, li_36, li_38, li_47, li_48, li_50, li_57, li_58, li_80, li_98, li_99, li_100, li_102, li_104, li_105, li_108, li_109, li_110, li_114, li_115, li_119, li_122, li_137, li_146, li_147, li_148, li_149, li_150, li_200, li_255, li_256, li_274, li_510, li_512, li_640, li_999, li_1000, li_1024, li_3334, li_5000, li_9999, li_10000, li_23338, li_26672, li_30000, li_99999, li_150000, li_300000, pk_mul, nI_add, pk_sub, nI_clamp, nI_1, nI_p1, nI_a0, nI_0a, nI_m0, nI_m1, cl_0, cl_1, z01, z11, nI_leI, nI_ltI, nI_eq, nz_lt0, nz_le, nz_eq0, nz_pos, nz_le0, nz_eq1, nz_lt1, nz_ge1, nz_le1, nz_gt1, nz_vp, nz_vp0, nz_vp1, six_nI, vix_nI, bix_nI, pix_nI, fix_nI, gix_nI, rix_nI, zix_nI, pix_0, pix_1, bix_0, fix_0, fix_1, rix_1, true_and, and_true]
    refine ⟨fun z9 => absurd z9 (by omega), fun _ => ⟨by omega, by omega, fun q27 e27 v28 e28 => ?_⟩⟩
    subst e28
    refine ih (j + 1) f q27 (by omega) (by omega) (by rw [e27]; exact hk.up (by decide) _) (fun k hk9 => ?_) hK
    rw [e27, va_up_self]
    by_cases e : k = j
    · subst e; rw [pk_us, hk 2 (by decide)]
    · rw [pk_un e]; exact hc k (by omega)
theorem st_le {b : Nat → Int32} {n : Nat} {σ : PS} (h : σ.1 ≤ n) (hg : (stR b n σ).2.2 = false) : σ.1 + 1 ≤ (stR b n σ).2.1 := by
  have hlt : ∀ m : Int32, sg b n σ = m → ¬ m = -1 → σ.1 + 1 ≤ n := fun m hm hc => sg_in hc hm
  unfold stR at hg ⊢
  split
  · rename_i c
    have hl : σ.1 + 1 ≤ n := by rcases c with c | c | c <;> exact hlt _ c (by decide)
    exact (zoR_le (σ := (σ.1 + 1, σ.2)) hl).2
  rename_i c1
  rw [if_neg c1] at hg
  split
  · rename_i c
    have hl : σ.1 + 1 ≤ n := by rcases c with c | c | c | c <;> exact hlt _ c (by decide)
    exact (nbF_ok (b := b) (σ := (σ.1 + 1, σ.2)) hl).2.1
  rename_i c2
  rw [if_neg c2] at hg
  split
  · rename_i c
    exact (exR_le (b := b) (σ := (σ.1 + 1, σ.2)) (hlt _ c (by decide))).2
  rename_i c3
  rw [if_neg c3] at hg
  split
  · rename_i c
    exact (dgS_le (b := b) (σ := (σ.1 + 1, σ.2)) dix09 (hlt _ c (by decide))).2
  · rename_i c
    rw [if_neg c] at hg
    cases hg
theorem am_len {b : Nat → Int32} {n : Nat} : ∀ (k : Nat) (σ : PS), σ.1 ≤ n → σ.2 = false → (amL b n k σ).2.2 = false → σ.1 + 2 * (amL b n k σ).1.length ≤ (amL b n k σ).2.1 + 1 := by
  intro k
  induction k with
  | zero => intro σ _ _ _; show σ.1 + 2 * 0 ≤ σ.1 + 1; omega
  | succ k ih =>
    intro σ h h0 hg
    have one : (stR b n σ).2.2 = false → σ.1 + 1 ≤ (stR b n σ).2.1 := fun z9 => st_le h z9
    rw [amL] at hg ⊢
    by_cases ht : tkB b n (stR b n σ).2 59 = true
    · rw [if_pos ht] at hg ⊢
      obtain ⟨t1, t2, t3⟩ := tkB_gd (by decide) ht
      have := ih (tkS b n (stR b n σ).2 59) (by rw [t3]; exact t2) (by rw [t3]; exact t1) hg
      have h1 := one t1
      have e3 : (tkS b n (stR b n σ).2 59).1 = (stR b n σ).2.1 + 1 := by rw [t3]
      dsimp only
      rw [List.length_cons]
      omega
    · rw [if_neg ht] at hg ⊢
      have h1 := one hg
      dsimp only
      rw [List.length_singleton]
      omega
theorem psh_cg {Pa P1 row row1 : Nat → Int32} {c c1 : Int32} (h : psh Pa P1 row c c1) (e : ∀ k, k < 3334 → row k = row1 k) : psh Pa P1 row1 c c1 := by
  obtain ⟨n, hn, ec, h⟩ := h
  refine ⟨n, hn, ec, ?_⟩
  split at h
  · rename_i c9
    rw [if_pos c9]
    exact ⟨h.1, h.2.1, fun k hk => (h.2.2 k hk).trans (e k hk)⟩
  · rename_i c9
    rw [if_neg c9]
    exact ⟨h.1, h.2.1, fun k hk => (h.2.2 k hk).trans (e k hk)⟩
theorem crO_of {w u : Nat → Int32} {s hi : Nat} {x : STM} (h : stK w u s hi x) (hx : stW x) (hh : hi ≤ 80) : crO w s := by
  obtain ⟨h1, h2, h3, h4, h5⟩ := h
  unfold crO
  rw [h1, h2]
  rcases hx with ⟨c, g1, g2, g3⟩ | ⟨c, g1, g2, g3⟩ | ⟨c, g1, g2⟩ | ⟨c, g1⟩ | ⟨c, g1, g2, g3, g4, g5, g6, g7, g8⟩ | ⟨c, g1⟩
  · rw [c]
    exact ⟨fun z9 => absurd z9 (by decide), fun z9 => absurd z9 (by decide), fun z9 => absurd z9 (by decide), fun z9 => absurd rfl z9.1⟩
  · have e3 := h4 (Or.inr (Or.inl c))
    rw [e3, c]
    exact ⟨fun _ => g1, fun _ => g3, fun z9 => absurd z9 (by decide), fun z9 => absurd rfl z9.2.1⟩
  · rw [c]
    exact ⟨fun _ => g1, fun z9 => absurd z9 (by decide), fun z9 => absurd z9 (by decide), fun z9 => absurd rfl z9.2.2.1⟩
  · rcases c with c | c | c | c <;> rw [c]
    · exact ⟨fun z9 => absurd z9 (by decide), fun z9 => absurd z9 (by decide), fun z9 => absurd z9 (by decide), fun z9 => absurd rfl z9.2.2.2.1⟩
    · exact ⟨fun z9 => absurd z9 (by decide), fun z9 => absurd z9 (by decide), fun z9 => absurd z9 (by decide), fun z9 => absurd rfl z9.2.2.2.2.1⟩
    · exact ⟨fun z9 => absurd z9 (by decide), fun z9 => absurd z9 (by decide), fun z9 => absurd z9 (by decide), fun z9 => absurd rfl z9.2.2.2.2.2.1⟩
    · exact ⟨fun z9 => absurd z9 (by decide), fun z9 => absurd z9 (by decide), fun z9 => absurd z9 (by decide), fun z9 => absurd rfl z9.2.2.2.2.2.2.1⟩
  · obtain ⟨t, t1, t2, t3, t4, t5, t6⟩ := h5 c
    rw [c]
    exact ⟨fun z9 => absurd z9 (by decide), fun z9 => absurd z9 (by decide), fun _ => ⟨g1, ⟨t, x.2.1.1.length, by omega, t2, t4⟩⟩, fun z9 => absurd rfl z9.2.2.2.2.2.2.2⟩
  · rw [c]
    exact ⟨fun z9 => absurd z9 (by decide), fun z9 => absurd z9 (by decide), fun z9 => absurd z9 (by decide), fun _ => g1⟩
theorem seF_cg {μ : Nat → Int32} {v a : Nat} {x2 x3 rows tested excl : Int32} {tv tv' : Nat → Int32} (h : ∀ j, j < iv tested → tv j = tv' j) : seF μ v a x2 x3 rows tested tv excl = seF μ v a x2 x3 rows tested tv' excl := by
  funext k
  unfold seF
  split
  · split
    · rename_i c; exact h _ c
    · rfl
  · rfl
theorem crB_122 {μ : Nat → Int32} {v : Nat} {x1 x2 x3 : Int32} : crB μ v 122 x1 x2 x3 = ptB μ v x2 x3 := by
  unfold crB
  rw [if_pos rfl]
theorem crS_122 {μ : Nat → Int32} {v : Nat} {x1 x2 x3 rows tested excl : Int32} {tv : Nat → Int32} : crS μ v 122 x1 x2 x3 rows tested tv excl = ptS μ v x1 x2 x3 := by
  unfold crS
  rw [if_pos rfl]
theorem crB_98 {μ : Nat → Int32} {v : Nat} {x1 x2 x3 : Int32} : crB μ v 98 x1 x2 x3 = bkB μ v (iv x1) x2 x3 := by
  unfold crB
  rw [if_neg (by decide), if_pos rfl]
theorem crS_98 {μ : Nat → Int32} {v : Nat} {x1 x2 x3 rows tested excl : Int32} {tv : Nat → Int32} : crS μ v 98 x1 x2 x3 rows tested tv excl = bkS μ v (iv x1) x2 x3 := by
  unfold crS
  rw [if_neg (by decide), if_pos rfl]
theorem crB_109 {μ : Nat → Int32} {v : Nat} {x1 x2 x3 : Int32} : crB μ v 109 x1 x2 x3 = decide (¬ zin x2 0 9999 = 0) := by
  unfold crB
  rw [if_neg (by decide), if_neg (by decide), if_pos rfl]
theorem crS_109 {μ : Nat → Int32} {v : Nat} {x1 x2 x3 rows tested excl : Int32} {tv : Nat → Int32} : crS μ v 109 x1 x2 x3 rows tested tv excl = upd μ (274 + 510 * v + 137 + iv x1 - 1) x2 := by
  unfold crS
  rw [if_neg (by decide), if_neg (by decide), if_pos rfl]
theorem crB_100 {μ : Nat → Int32} {v : Nat} {x1 x2 x3 : Int32} : crB μ v 100 x1 x2 x3 = decide (¬ zin x1 1000 9999 = 0) := by
  unfold crB
  rw [if_neg (by decide), if_neg (by decide), if_neg (by decide), if_pos rfl]
theorem crS_100 {μ : Nat → Int32} {v : Nat} {x1 x2 x3 rows tested excl : Int32} {tv : Nat → Int32} : crS μ v 100 x1 x2 x3 rows tested tv excl = upd μ (274 + 510 * v + 146) x1 := by
  unfold crS
  rw [if_neg (by decide), if_neg (by decide), if_neg (by decide), if_pos rfl]
theorem crB_102 {μ : Nat → Int32} {v : Nat} {x1 x2 x3 : Int32} : crB μ v 102 x1 x2 x3 = decide (¬ zin x1 0 99 = 0) := by
  unfold crB
  rw [if_neg (by decide), if_neg (by decide), if_neg (by decide), if_neg (by decide), if_pos rfl]
theorem crS_102 {μ : Nat → Int32} {v : Nat} {x1 x2 x3 rows tested excl : Int32} {tv : Nat → Int32} : crS μ v 102 x1 x2 x3 rows tested tv excl = upd μ (274 + 510 * v + 147) x1 := by
  unfold crS
  rw [if_neg (by decide), if_neg (by decide), if_neg (by decide), if_neg (by decide), if_pos rfl]
theorem crB_115 {μ : Nat → Int32} {v : Nat} {x1 x2 x3 : Int32} : crB μ v 115 x1 x2 x3 = decide (¬ zin x1 0 9999 = 0) := by
  unfold crB
  rw [if_neg (by decide), if_neg (by decide), if_neg (by decide), if_neg (by decide), if_neg (by decide), if_pos rfl]
theorem crS_115 {μ : Nat → Int32} {v : Nat} {x1 x2 x3 rows tested excl : Int32} {tv : Nat → Int32} : crS μ v 115 x1 x2 x3 rows tested tv excl = upd μ (274 + 510 * v + 148) x1 := by
  unfold crS
  rw [if_neg (by decide), if_neg (by decide), if_neg (by decide), if_neg (by decide), if_neg (by decide), if_pos rfl]
theorem crB_99 {μ : Nat → Int32} {v : Nat} {x1 x2 x3 : Int32} : crB μ v 99 x1 x2 x3 = decide (¬ zin x1 0 9999 = 0) := by
  unfold crB
  rw [if_neg (by decide), if_neg (by decide), if_neg (by decide), if_neg (by decide), if_neg (by decide), if_neg (by decide), if_pos rfl]
theorem crS_99 {μ : Nat → Int32} {v : Nat} {x1 x2 x3 rows tested excl : Int32} {tv : Nat → Int32} : crS μ v 99 x1 x2 x3 rows tested tv excl = upd μ (274 + 510 * v + 149) x1 := by
  unfold crS
  rw [if_neg (by decide), if_neg (by decide), if_neg (by decide), if_neg (by decide), if_neg (by decide), if_neg (by decide), if_pos rfl]
theorem crB_97 {μ : Nat → Int32} {v : Nat} {x1 x2 x3 : Int32} : crB μ v 97 x1 x2 x3 = seB x2 x3 := by
  unfold crB
  rw [if_neg (by decide), if_neg (by decide), if_neg (by decide), if_neg (by decide), if_neg (by decide), if_neg (by decide), if_neg (by decide), if_pos rfl]
theorem crS_97 {μ : Nat → Int32} {v : Nat} {x1 x2 x3 rows tested excl : Int32} {tv : Nat → Int32} : crS μ v 97 x1 x2 x3 rows tested tv excl = seF μ v (iv x1) x2 x3 rows tested tv excl := by
  unfold crS
  rw [if_neg (by decide), if_neg (by decide), if_neg (by decide), if_neg (by decide), if_neg (by decide), if_neg (by decide), if_neg (by decide), if_pos rfl]
theorem crB_114 {μ : Nat → Int32} {v : Nat} {x1 x2 x3 : Int32} : crB μ v 114 x1 x2 x3 = decide (μ (274 + 510 * v + 150 + 36 * iv x1) = 1) := by
  unfold crB
  rw [if_neg (by decide), if_neg (by decide), if_neg (by decide), if_neg (by decide), if_neg (by decide), if_neg (by decide), if_neg (by decide), if_neg (by decide)]
theorem crS_114 {μ : Nat → Int32} {v : Nat} {x1 x2 x3 rows tested excl : Int32} {tv : Nat → Int32} : crS μ v 114 x1 x2 x3 rows tested tv excl = zf μ (274 + 510 * v + 150 + 36 * iv x1) 36 := by
  unfold crS
  rw [if_neg (by decide), if_neg (by decide), if_neg (by decide), if_neg (by decide), if_neg (by decide), if_neg (by decide), if_neg (by decide), if_neg (by decide)]
theorem cr_of {μ w u : Nat → Int32} {v s hi : Nat} {x : STM} (h : stK w u s hi x) (hx : stW x) (hh : hi ≤ 80) : crB μ v (w s) (w (s + 1)) (w (s + 2)) (w (s + 3)) = crBx μ v x ∧ crS μ v (w s) (w (s + 1)) (w (s + 2)) (w (s + 3)) (w (s + 5)) (w (s + 6) - w (s + 4)) (fun j => u (iv (w (s + 4)) + j)) (w (s + 7)) = crSx μ v x := by
  obtain ⟨h1, h2, h3, h4, h5⟩ := h
  unfold crBx crSx
  rw [h1, h2]
  rcases hx with ⟨c, g1, g2, g3⟩ | ⟨c, g1, g2, g3⟩ | ⟨c, g1, g2⟩ | ⟨c, g1⟩ | ⟨c, g1, g2, g3, g4, g5, g6, g7, g8⟩ | ⟨c, g1⟩
  · rw [h3 (Or.inl c), h4 (Or.inl c), c, crB_122, crS_122, crS_122]
    exact ⟨rfl, rfl⟩
  · rw [h3 (Or.inr (Or.inl c)), h4 (Or.inr (Or.inl c)), c, crB_98, crS_98, crS_98]
    exact ⟨rfl, rfl⟩
  · rw [h3 (Or.inr (Or.inr (Or.inl c))), c, crB_109, crB_109, crS_109, crS_109]
    exact ⟨rfl, rfl⟩
  · rcases c with c | c | c | c <;> rw [c]
    · rw [crB_100, crB_100, crS_100, crS_100]; exact ⟨rfl, rfl⟩
    · rw [crB_102, crB_102, crS_102, crS_102]; exact ⟨rfl, rfl⟩
    · rw [crB_115, crB_115, crS_115, crS_115]; exact ⟨rfl, rfl⟩
    · rw [crB_99, crB_99, crS_99, crS_99]; exact ⟨rfl, rfl⟩
  · rw [h3 (Or.inr (Or.inr (Or.inr c))), h4 (Or.inr (Or.inr c))]
    obtain ⟨t, t1, t2, t3, t4, t5, t6⟩ := h5 c
    refine ⟨rfl, ?_⟩
    rw [t2, t3, t4, t5, pk_sub (by omega), show t + x.2.1.1.length - t = x.2.1.1.length by omega, show iv (nI t) = t from nI_clamp (by omega), c, crS_97, crS_97]
    refine seF_cg (fun j hj => ?_)
    rw [show iv (nI x.2.1.1.length) = x.2.1.1.length from nI_clamp (by omega)] at hj
    unfold tvF
    have hg : x.2.1.1[j]? = some x.2.1.1[j] := List.getElem?_eq_getElem hj
    rw [hg]
    exact t6 j _ hg
  · rw [c, crB_114, crB_114, crS_114, crS_114]
    exact ⟨rfl, rfl⟩
theorem rl_a130 {P : Int32 → RST → Prop} {K : Int32 → (Nat → Int32) → (Nat → Nat → Int32) → Prop} {r : Nat → Int32} {v n hi : Nat} (hv : v < 6) (hh : hi ≤ 80) (hn : n ≤ 81) (h13 : r 13 = nI n) (hc8 : CW8 r) : ∀ (l : List STM) (i fuel : Nat) (q : Nat → Nat → Int32), i + l.length = n → l.length < fuel → 8 * n + 8 ≤ 640 → WF (q 0) → (∀ j x, l[j]? = some x → stK (q 5) (q 6) (8 * (i + j)) hi x) → (∀ x, x ∈ l → stW x) → (∀ q', kQ q q' [0] → (amG v l i (q 0)).1 = none → q' 0 = (amG v l i (q 0)).2 → ∀ (r34 : Nat → Int32) (q35 : Nat → Nat → Int32), (kR r r34 [5] ∧ kQ q' q35 [3] ∧ psh (q' 3) (q35 3) (q' 2) (r 5) (r34 5)) → P (r34 13) (r34, q35)) → (∀ q' j, kQ q q' [0] → (amG v l i (q 0)).1 = some j → K (nI j) r q') → wp_X11_amend_130 K P fuel (nI v) (nI i) r q := by
  intro l
  induction l with
  | nil =>
    intro i fuel q hi9 hf h64 hw hst hgd hN hS
    obtain ⟨f, rfl⟩ : ∃ f, fuel = f + 1 := ⟨fuel - 1, by omega⟩; rw [wp_X11_amend_130]; unfold wb_X11_amend_130; dsimp only
    rw [h13, nI_leI (by omega) (by omega)]
    rw [List.length_nil] at hi9
    refine ⟨fun _ => ⟨hc8, fun r34 q35 hh => ?_⟩, fun z9 => absurd (by omega) z9⟩
    exact hN q kQ.rf rfl rfl r34 q35 hh
  | cons x l ih =>
    intro i fuel q hi9 hf h64 hw hst hgd hN hS
    rw [List.length_cons] at hi9 hf
    have hx := hst 0 x (by simp)
    rw [Nat.add_zero] at hx
    have hxW := hgd x (List.mem_cons_self ..)
    have e8 : (8 : Int32) * nI i = nI (8 * i) := pk_mul 8 i
    have ie : iv (nI (8 * i)) = 8 * i := nI_clamp (by omega)
    have iev : iv (nI v) = v := nI_clamp (by omega)
    obtain ⟨eB, eS⟩ := cr_of (μ := q 0) (v := v) hx hxW hh
    obtain ⟨f, rfl⟩ : ∃ f, fuel = f + 1 := ⟨fuel - 1, by omega⟩; rw [wp_X11_amend_130]; unfold wb_X11_amend_130; dsimp only
    rw [h13, nI_leI (by omega) (by omega), e8, ie, iev, eB, eS]
    refine ⟨fun z9 => absurd z9 (by omega), fun _ => ⟨⟨hw, ⟨v, hv, rfl⟩, ⟨8 * i, by omega, rfl⟩, crO_of hx hxW hh⟩, fun v37 r38 q39 hr => ?_⟩⟩
    obtain ⟨a1, a2, a3, a4⟩ := hr
    subst a2
    rw [amG] at hN hS
    cases hb : crBx (q 0) v x with
    | true =>
      rw [hb] at a1 hN hS
      rw [if_pos rfl] at hN hS
      have e0 := a4 hb
      refine ⟨fun _ v42 e42 => ?_, fun z9 => absurd (a1.symm.trans z9) (by decide)⟩
      rw [nI_1] at e42
      subst e42
      have e5 : q39 5 = q 5 := a3 5 (by decide)
      have e6 : q39 6 = q 6 := a3 6 (by decide)
      refine ih (i + 1) f q39 (by omega) (by omega) h64 (by rw [e0]; exact cr_wf hw hv hxW hb) (fun j y hy => ?_) (fun y hy => hgd y (List.mem_cons_of_mem _ hy)) (fun q' g1 g2 g3 => hN q' (a3.tr g1 (fun _ h => h) (fun _ h => h)) (by rw [← e0]; exact g2) (by rw [← e0]; exact g3)) (fun q' j g1 g2 => hS q' j (a3.tr g1 (fun _ h => h) (fun _ h => h)) (by rw [← e0]; exact g2))
      rw [e5, e6]
      have := hst (j + 1) y (by simpa using hy)
      rw [show i + 1 + j = i + (j + 1) by omega]
      exact this
    | false =>
      rw [hb] at a1 hN hS
      rw [if_neg (by decide)] at hN hS
      refine ⟨fun z9 => absurd a1 z9, fun _ => hS q39 i a3 rfl⟩
theorem kd_X11_amend (l : Launch) (D : va_G) (T : Nat → ClassId) (m0 : Nat) (a : Nat → Nat) (p0 : Int32) (r : Nat → Int32) (q : Nat → Nat → Int32) (h : WF (q 0) ∧ FW r ∧ CW8 r) : RMi l yX11_amend (ws_X11_amend) rm_X11_amend D T m0 a [.ref m0, .int p0] r q (fun v u => (amP r q p0 v u.1 u.2)) := c_X11_amend l D T m0 a p0 r q _ <|
  (by
    obtain ⟨hw, ⟨n, hn, e8⟩, hc8⟩ := h
    have ien : iv (r 8) = n := by rw [e8]; exact nI_clamp (by omega)
    unfold wp_X11_amend
    intro r1 e1 r2 e2 r3 e3 r4 e4 r5 e5 v6 e6
    have g5 : ∀ j, j ≠ 6 → j ≠ 10 → j ≠ 11 → j ≠ 13 → j ≠ 15 → r5 j = r j := fun j h6 h10 h11 h13 h15 => by rw [e5, va_up_ne _ _ h15, e4, va_up_ne _ _ h13, e3, va_up_ne _ _ h11, e2, va_up_ne _ _ h10, e1, va_up_ne _ _ h6]
    have k5 : kR r r5 (5 :: 8 :: 12 :: SC) := by rw [e5, e4, e3, e2, e1]; exact ((((kR.rf.up (by decide) _).up (by decide) _).up (by decide) _).up (by decide) _).up (by decide) _
    have s6 : r5 6 = 0 := by rw [e5, va_up_ne _ _ (by decide), e4, va_up_ne _ _ (by decide), e3, va_up_ne _ _ (by decide), e2, va_up_ne _ _ (by decide), e1, va_up_self]
    have s10 : r5 10 = 0 := by rw [e5, va_up_ne _ _ (by decide), e4, va_up_ne _ _ (by decide), e3, va_up_ne _ _ (by decide), e2, va_up_self]
    have s11 : r5 11 = 0 := by rw [e5, va_up_ne _ _ (by decide), e4, va_up_ne _ _ (by decide), e3, va_up_self]
    have s13 : r5 13 = 0 := by rw [e5, va_up_ne _ _ (by decide), e4, va_up_self]
    have s15 : r5 15 = 0 := by rw [e5, va_up_self]
    have s8 : r5 8 = nI n := (g5 8 (by decide) (by decide) (by decide) (by decide) (by decide)).trans e8
    have i8 : iv (r5 8) = n := by rw [s8]; exact nI_clamp (by omega)
    have hp5 : psO r5 := ⟨⟨n, hn, s8⟩, ⟨0, Nat.zero_le _, s10⟩, by rw [s11]; exact vz0⟩
    have hσ5 : pσ r5 = (0, false) := by unfold pσ; rw [s10, s11]; rfl
    have hnil : stL (q 5) (q 6) (iv (r5 15)) [] := fun j x hx => by simp at hx
    by_cases c0 : zin p0 0 (q 0 0 - 1) = 0
    · rw [c0] at e6
      subst e6
      refine ⟨1, ?_⟩
      rw [wp_X11_amend_31]; unfold wb_X11_amend_31; dsimp only
      refine ⟨fun _ v19 e19 r20 e20 => ⟨fun z9 => absurd c0 z9, fun _ v58 r59 q60 hh => ?_⟩, fun z9 => absurd rfl z9⟩
      obtain ⟨h1, h2, h3⟩ := hh
      subst h3
      refine ⟨by (try dsimp only); rw [h2, e20]; exact (k5.up (by decide) _).up (by decide) _, kQ.rf, ?_, fun _ => ⟨?_, ?_, ?_, rfl, rfl⟩, fun z9 => absurd c0 z9, fun z9 => absurd c0 z9⟩
      · (try dsimp only); rw [h2, va_up_ne _ _ (by decide), e20, va_up_self]
      · (try dsimp only); rw [h2, va_up_self]
      · (try dsimp only); rw [h2, va_up_ne _ _ (by decide), e20, va_up_ne _ _ (by decide)]; exact g5 5 (by decide) (by decide) (by decide) (by decide) (by decide)
      · (try dsimp only); rw [h2, va_up_ne _ _ (by decide), e20, va_up_ne _ _ (by decide)]; exact g5 12 (by decide) (by decide) (by decide) (by decide) (by decide)
    · obtain ⟨v, nv, hv, hnv, env, ev⟩ := vers_ix hw c0
      have e6' : v6 = 1 := by
        rw [e6]
        unfold zin at c0 ⊢
        split at c0
        · exact absurd rfl c0
        split at c0
        · exact absurd rfl c0
        · rename_i h1 h2; rw [if_neg h1, if_neg h2]
      subst e6'
      have iv0 : iv p0 = v := by rw [ev]; exact nI_clamp (by omega)
      refine ⟨200, rl_am (b := q 4) (n := n) 80 200 [] r5 q rfl i8 (by omega) (by omega) hp5 (by rw [hσ5]) ⟨0, Nat.zero_le _, s15⟩ s13 (Nat.zero_le _) hnil (fun r17 q18 hq => ?_)⟩
      rw [hσ5] at hq
      obtain ⟨b1, b2, b3, b4, b5⟩ := hq
      have hA : amL (q 4) n (80 + 1) (0, false) = amF (q 4) n := rfl
      rw [hA] at b4 b5
      rw [List.nil_append, List.length_nil, Nat.zero_add] at b5
      have k17 : kR r r17 (5 :: 8 :: 12 :: SC) := k5.tr b1 (fun _ h => h) (by decide)
      have m17 : kQ q q18 [0, 2, 3, 5, 6] := b2.mn (by decide)
      intro v19 e19 r20 e20
      have e17 : r17 8 = nI n := (b1 8 (by decide)).trans s8
      rw [e17] at e19
      have k20 : kR r r20 (5 :: 8 :: 12 :: SC) := by rw [e20]; exact k17.up (by decide) _
      have f : ∀ j, j ≠ 8 → r20 j = r17 j := fun j hj => by rw [e20, va_up_ne _ _ hj]
      have f8 : r20 8 = 0 := by rw [e20, va_up_self]
      have f6 : r20 6 = 0 := by rw [f 6 (by decide), b1 6 (by decide)]; exact s6
      have f5 : r20 5 = r 5 := by rw [f 5 (by decide), b1 5 (by decide)]; exact g5 5 (by decide) (by decide) (by decide) (by decide) (by decide)
      have f12 : r20 12 = r 12 := by rw [f 12 (by decide), b1 12 (by decide)]; exact g5 12 (by decide) (by decide) (by decide) (by decide) (by decide)
      have pl := ps_1 b3
      have f10 : r20 10 = nI (amF (q 4) n).2.1 := by rw [f 10 (by decide), pl.2.2, b4]
      have h11 : r20 11 = r17 11 := f 11 (by decide)
      have q0e : q18 0 = q 0 := b2 0 (by decide)
      have q3e : q18 3 = q 3 := b2 3 (by decide)
      have hpl : (amF (q 4) n).2.1 ≤ n := by
        have := pl.1
        rw [b4, e17, show iv (nI n) = n from nI_clamp (by omega)] at this
        exact this
      rw [q0e]
      -- what stands still
      have stop : ((amF (q 4) n).2.2 = true ∨ (amF (q 4) n).2.1 < n) → amP r q p0 ((-100) - r20 10) r20 q18 := by
        intro hs
        refine ⟨k20, m17, f8, fun z9 => absurd z9 c0, fun _ _ => ⟨f6, by rw [f10, ien], f5, f12, q0e, q3e⟩, fun _ z9 z8 => ?_⟩
        rw [ien] at z9 z8
        rcases hs with hs | hs
        · rw [hs] at z9; cases z9
        · omega
      have mb := pb_of b3.2.2
      rw [h11]
      refine ⟨fun _ => ⟨fun z9 => stop (Or.inl ?_), fun z9 => ⟨fun z8 => ?_, fun z8 => stop (Or.inr ?_)⟩⟩, fun z9 => absurd z9 c0⟩
      · rw [← b4]; exact bd_of b3.2.2 z9
      · have hgd := mb.mp z9
        have hgA : (amF (q 4) n).2.2 = false := by rw [← b4]; exact hgd
        rw [e19, f10, nI_leI (by omega) (by omega)] at z8
        obtain ⟨c1, c2, c3, c4⟩ := b5 hgd
        have hst := am_gd (b := q 4) hn 81 (0, false) (Nat.zero_le _) rfl hgA
        -- at most forty statements
        have c40 : 8 * (amF (q 4) n).1.length + 8 ≤ 640 := by
          have := am_len (b := q 4) (n := n) 81 (0, false) (Nat.zero_le _) rfl hgA
          rw [show ((0 : Nat), false).1 = 0 from rfl, Nat.zero_add] at this
          have h9 : 2 * (amF (q 4) n).1.length ≤ (amF (q 4) n).2.1 + 1 := this
          omega
        refine ⟨4000, rl_a99 (q0 := q18) 3334 0 4000 q18 (by omega) (by omega) kQ.rf (fun k hk => by omega) (fun q31 d1 d2 => ?_)⟩
        have q31e : q31 0 = q 0 := (d1 0 (by decide)).trans q0e
        have cw : CW8 r20 := by
          obtain ⟨m, hm, em⟩ := hc8
          exact ⟨m, hm, f5.trans em⟩
        refine ⟨200, ?_⟩
        rw [ev]
        refine rl_a130 (hi := iv (r17 15)) (n := (amF (q 4) n).1.length) (by omega) c3 c2 (by rw [f 13 (by decide)]; exact c1) cw (amF (q 4) n).1 0 200 q31 (Nat.zero_add _) (by omega) c40 (by rw [q31e]; exact hw) (fun j x hx => ?_) hst (fun q' g1 g2 g3 r34 q35 hh => ?_) (fun q' j g1 g2 => ?_)
        · rw [d1 5 (by decide), d1 6 (by decide), Nat.zero_add]
          exact c4 j x hx
        · obtain ⟨y1, y2, y3⟩ := hh
          rw [q31e] at g2 g3
          have e2' : q' 2 = q31 2 := g1 2 (by decide)
          have m35 : kQ q q35 [0, 2, 3, 5, 6] := ((m17.tr d1 (fun _ h => h) (by decide)).tr g1 (L := [0, 2, 3, 5, 6]) (fun _ h => h) (by decide)).tr y2 (fun _ h => h) (by decide)
          have k34 : kR r r34 (5 :: 8 :: 12 :: SC) := k20.tr y1 (fun _ h => h) (by decide)
          refine ⟨k34, m35, by (try dsimp only); rw [y1 8 (by decide)]; exact f8, fun z9 => absurd z9 (by rw [← ev]; exact c0), fun _ z9 => ?_, fun _ _ _ => ⟨fun i hi9 => ?_, fun _ => ⟨?_, ?_, ?_, ?_, ?_⟩⟩⟩
          · rw [ien] at z9
            rcases z9 with z9 | z9
            · rw [hgA] at z9; cases z9
            · omega
          · rw [ien, show iv (nI v) = v from nI_clamp (by omega), g2] at hi9
            cases hi9
          · (try dsimp only); rw [y1 6 (by decide)]; exact f6
          · (try dsimp only); rw [y1 12 (by decide)]; exact f12
          · (try dsimp only); rw [y1 13 (by decide), f 13 (by decide), ien]; exact c1
          · (try dsimp only); rw [ien, show iv (nI v) = v from nI_clamp (by omega), y2 0 (by decide)]; exact g3
          · (try dsimp only)
            rw [e2', g1 3 (by decide), d1 3 (by decide), q3e, f5] at y3
            exact psh_cg y3 (fun k hk => by rw [d2 k hk, q0e])
        · rw [q31e] at g2
          intro r46 e46
          refine ⟨4000, rl_a161 (q0 := q') 3334 0 4000 q' (by omega) (by omega) kQ.rf (fun k hk => by omega) (fun q1 y1 y2 => ?_)⟩
          have e2' : q' 2 = q31 2 := g1 2 (by decide)
          have m1 : kQ q q1 [0, 2, 3, 5, 6] := ((m17.tr d1 (fun _ h => h) (by decide)).tr g1 (L := [0, 2, 3, 5, 6]) (fun _ h => h) (by decide)).tr y1 (fun _ h => h) (by decide)
          have k46 : kR r (va_up r46 6 2) (5 :: 8 :: 12 :: SC) := by rw [e46]; exact (k20.up (by decide) _).up (by decide) _
          have h46 : ∀ i, i ≠ 6 → i ≠ 12 → va_up r46 6 2 i = r20 i := fun i h6 h12 => by rw [va_up_ne _ _ h6, e46, va_up_ne _ _ h12]
          refine ⟨k46, m1, by (try dsimp only); rw [h46 8 (by decide) (by decide)]; exact f8, fun z9 => absurd z9 (by rw [← ev]; exact c0), fun _ z9 => ?_, fun _ _ _ => ⟨fun i hi9 => ?_, fun z9 => ?_⟩⟩
          · rw [ien] at z9
            rcases z9 with z9 | z9
            · rw [hgA] at z9; cases z9
            · omega
          · rw [ien, show iv (nI v) = v from nI_clamp (by omega), g2] at hi9
            have e9 : j = i := Option.some.inj hi9
            subst e9
            refine ⟨by (try dsimp only); rw [va_up_self], by (try dsimp only); rw [va_up_ne _ _ (by decide), e46, va_up_self], by (try dsimp only); rw [h46 5 (by decide) (by decide)]; exact f5, fun k hk => ?_, ?_⟩
            · (try dsimp only); rw [y2 k hk, e2', d2 k hk, q0e]
            · (try dsimp only); rw [y1 3 (by decide), g1 3 (by decide), d1 3 (by decide)]; exact q3e
          · rw [ien, show iv (nI v) = v from nI_clamp (by omega), g2] at z9
            cases z9
      · rw [e19, f10, nI_leI (by omega) (by omega)] at z8
        omega)

theorem alL_len {w : Nat → Int32} {n : Nat} : (alL w n).length = n := by unfold alL; rw [List.length_map, List.length_range]
theorem alL_gl {w : Nat → Int32} {n i : Nat} (h : i < n) : gl (alL w n) i = iv (w i) := by
  unfold gl alL
  rw [List.getElem?_map, List.getElem?_range h]
  rfl
theorem or_lt {a b : Nat} (h : a < 1024) (h2 : b < 1024) : a ||| b < 1024 := Nat.or_lt_two_pow (n := 10) h h2
theorem or_pos {a b : Nat} (h : 0 < a) : 0 < a ||| b := Nat.lt_of_lt_of_le h Nat.left_le_or
/-- how the best pair stands in the fields -/
def fpR (r : Nat → Int32) (n : Nat) (s : MS) : Prop := match s.2 with | none => r 38 = -1 | some (a, b) => a < n ∧ b < n ∧ r 38 = nI a ∧ r 39 = nI b
theorem w_fp172 {P : Int32 → RST → Prop} {K : Int32 → Int32 → Int32 → (Nat → Int32) → (Nat → Nat → Int32) → Prop} {r : Nat → Int32} {q : Nat → Nat → Int32} {T : Nat → Int32} {G : List Nat} {a b n : Nat} {s : MS} {s0 : Int32} (hn : n ≤ 10) (ha : a < n) (hb : b < n) (hv : gl G a < gl G b ∧ 0 ≤ T (gl G a ||| gl G b)) (hR : fpR r n s) (hs : s0 = b2i (sonB T G a b s) ∨ s.1 < gaF T G a b) (hK : ∀ r1, kR r r1 [38, 39] → fpR r1 n (fpS T G a b s) → K (fpS T G a b s).1 (nI a) (nI (b + 1)) r1 q) : wp_X11_findsPair_172 K P s.1 (nI a) (nI b) (gaF T G a b) s0 r q := by
  have hS : fpS T G a b s = if s.1 < gaF T G a b ∨ sonB T G a b s = true then (gaF T G a b, some (a, b)) else s := by unfold fpS; rw [if_pos hv]
  have take : (s.1 < gaF T G a b ∨ sonB T G a b s = true) → (∀ r23 : Nat → Int32, r23 = va_up r 38 (nI a) → (∀ r24 : Nat → Int32, r24 = va_up r23 39 (nI b) → (∀ v25 : Int32, v25 = nI (b + 1) → (K (gaF T G a b) (nI a) v25 r24 q)))) := by
    intro hc r23 e23 r24 e24 v25 e25
    subst e25
    rw [if_pos hc] at hS
    rw [hS] at hK
    refine hK r24 (by rw [e24, e23]; exact (kR.rf.up (by decide) _).up (by decide) _) ⟨ha, hb, ?_, ?_⟩
    · rw [e24, va_up_ne _ _ (by decide), e23, va_up_self]
    · rw [e24, va_up_self]
  unfold wp_X11_findsPair_172
  rw [nI_1]
  refine ⟨fun c => take (Or.inl c), fun c => ⟨fun c2 v27 e27 => ?_, fun c2 => take (Or.inr ?_)⟩⟩
  · subst e27
    rcases hs with hs | hs
    · have : sonB T G a b s = false := (b2i_0 _).mp (hs.symm.trans c2)
      rw [if_neg (by rw [this]; rintro (w9 | w9); exact c w9; cases w9)] at hS
      rw [hS] at hK
      exact hK r kR.rf hR
    · exact absurd hs c
  · rcases hs with hs | hs
    · exact bx_of hs c2
    · exact absurd hs c
theorem rl_fpB {P : Int32 → RST → Prop} {K : Int32 → Int32 → (Nat → Int32) → (Nat → Nat → Int32) → Prop} {q : Nat → Nat → Int32} {G : List Nat} {a n : Nat} (hn : n ≤ 10) (ha : a < n) (hl : G.length = n) (hG : ∀ i, i < n → 0 < gl G i ∧ gl G i < 1024 ∧ q 11 i = nI (gl G i)) : ∀ (k b fuel : Nat) (s : MS) (r : Nat → Int32), b + k = n → k < fuel → r 36 = nI n → fpR r n s → (∀ r1, kR r r1 [38, 39] → fpR r1 n (fpB (q 7) G a k b s) → K (fpB (q 7) G a k b s).1 (nI a) r1 q) → wp_X11_findsPair_19 K P fuel s.1 (nI a) (nI b) r q := by
  intro k
  induction k with
  | zero =>
    intro b fuel s r hb hf h36 hR hK
    obtain ⟨f, rfl⟩ : ∃ f, fuel = f + 1 := ⟨fuel - 1, by omega⟩; rw [wp_X11_findsPair_19]; unfold wb_X11_findsPair_19; dsimp only
    rw [h36, nI_leI (by omega) (by omega)]
    exact ⟨fun _ => hK r kR.rf hR, fun z9 => absurd (by omega) z9⟩
  | succ k ih =>
    intro b fuel s r hb hf h36 hR hK
    obtain ⟨ga0, ga1, ga2⟩ := hG a ha
    obtain ⟨gb0, gb1, gb2⟩ := hG b (by omega)
    have hor := or_lt ga1 gb1
    rw [fpB] at hK
    obtain ⟨f, rfl⟩ : ∃ f, fuel = f + 1 := ⟨fuel - 1, by omega⟩; rw [wp_X11_findsPair_19]; unfold wb_X11_findsPair_19; dsimp only
    rw [h36, nI_leI (by omega) (by omega), nz_vp (a := a) (by omega) (by decide), nz_vp (a := b) (by omega) (by decide), nI_clamp (n := a) (by omega), nI_clamp (n := b) (by omega), ga2, gb2, nI_or, nI_leI (by omega) (by omega)]
    -- the next one
    have nxt : fpS (q 7) G a b s = s → ∀ v : Int32, v = nI b + 1 → wp_X11_findsPair_19 K P f s.1 (nI a) v r q := fun hs v e => by
      rw [nI_1] at e
      subst e
      rw [hs] at hK
      exact ih (b + 1) f s r (by omega) (by omega) h36 hR hK
    refine ⟨fun z9 => absurd z9 (by omega), fun _ => ⟨by omega, by omega, fun v7 e7 => ⟨by omega, by omega, fun c => nxt (by unfold fpS; rw [if_neg (fun w9 => by omega)]), fun c => ?_⟩⟩⟩
    subst e7
    rw [nz_vp (a := gl G a ||| gl G b) (by omega) (by decide), nI_clamp (n := gl G a ||| gl G b) (by omega)]
    refine ⟨hor, fun c2 => nxt (by unfold fpS; rw [if_neg (fun w9 => absurd c2 (Int32.not_lt.mpr w9.2))]), fun c2 => ?_⟩
    rw [nz_vp (a := gl G a) (by omega) (by decide), nz_vp (a := gl G b) (by omega) (by decide), nI_clamp (n := gl G a) (by omega), nI_clamp (n := gl G b) (by omega)]
    refine ⟨by omega, ga1, by omega, gb1, hor, fun v20 e20 => ?_⟩
    have e20' : v20 = gaF (q 7) G a b := e20
    clear e20
    subst e20'
    have hv : gl G a < gl G b ∧ 0 ≤ q 7 (gl G a ||| gl G b) := ⟨by omega, Int32.not_lt.mp c2⟩
    have go : ∀ s0 : Int32, s0 = b2i (sonB (q 7) G a b s) → wp_X11_findsPair_172 (fun (y31 : Int32) (y32 : Int32) (y33 : Int32) (r34 : Nat → Int32) (q35 : Nat → Nat → Int32) => wp_X11_findsPair_19 K P f y31 y32 y33 r34 q35) P s.1 (nI a) (nI b) (gaF (q 7) G a b) s0 r q := fun s0 hs => w_fp172 hn ha (by omega) hv hR (Or.inl hs) (fun r1 h1 h2 => ih (b + 1) f _ r1 (by omega) (by omega) (by rw [h1 36 (by decide)]; exact h36) h2 (fun r2 g1 g2 => hK r2 (h1.tr g1 (fun _ h => h) (fun _ h => h)) g2))
    cases hs2 : s.2 with
    | none =>
      have h38 : r 38 = -1 := by unfold fpR at hR; rw [hs2] at hR; exact hR
      have hson : sonB (q 7) G a b s = false := by unfold sonB; rw [hs2]
      rw [h38]
      exact ⟨fun _ => go 0 (by rw [hson]; rfl), fun z9 => absurd (by decide) z9⟩
    | some op =>
      obtain ⟨o, p⟩ := op
      have hR' : o < n ∧ p < n ∧ r 38 = nI o ∧ r 39 = nI p := by unfold fpR at hR; rw [hs2] at hR; exact hR
      obtain ⟨ho, hp, h38, h39⟩ := hR'
      obtain ⟨go0, go1, go2⟩ := hG o ho
      obtain ⟨gp0, gp1, gp2⟩ := hG p hp
      have hson : sonB (q 7) G a b s = (decide (gaF (q 7) G a b = s.1) && (decide (gl G a < gl G o) || (decide (gl G a = gl G o) && decide (gl G b < gl G p)))) := by unfold sonB; rw [hs2]
      rw [h38, h39, nz_lt0 (by omega), nz_vp (a := o) (by omega) (by decide), nz_vp (a := p) (by omega) (by decide), nI_clamp (n := o) (by omega), nI_clamp (n := p) (by omega), go2, gp2, nI_ltI (by omega) (by omega), nI_eq (by omega) (by omega), nI_leI (by omega) (by omega)]
      refine ⟨fun z9 => absurd z9 (by decide), fun _ => ⟨fun c3 => go 0 (by rw [hson, decide_eq_false c3]; rfl), fun c3 => ⟨by omega, by omega, fun c4 => go 1 (by rw [hson, decide_eq_true c3, decide_eq_true c4]; rfl), fun c4 => ⟨by omega, by omega, fun c5 => go 0 (by rw [hson, decide_eq_true c3, decide_eq_false c4, decide_eq_false c5]; rfl), fun c5 => ⟨by omega, by omega, fun c6 => go 0 (by rw [hson, decide_eq_true c3, decide_eq_false c4, decide_eq_true c5, decide_eq_false (by omega)]; rfl), fun c6 => go 1 (by rw [hson, decide_eq_true c3, decide_eq_false c4, decide_eq_true c5, decide_eq_true (by omega)]; rfl)⟩⟩⟩⟩⟩
theorem rl_fpA {P : Int32 → RST → Prop} {q : Nat → Nat → Int32} {G : List Nat} {n : Nat} (hn : n ≤ 10) (hl : G.length = n) (hG : ∀ i, i < n → 0 < gl G i ∧ gl G i < 1024 ∧ q 11 i = nI (gl G i)) : ∀ (k a fuel : Nat) (s : MS) (r : Nat → Int32), a + k = n → k < fuel → r 36 = nI n → fpR r n s → (∀ r1, kR r r1 [38, 39] → fpR r1 n (fpA (q 7) G k a s) → P (match (fpA (q 7) G k a s).2 with | none => 0 | some _ => 1) (r1, q)) → wp_X11_findsPair_9 P fuel s.1 (nI a) r q := by
  intro k
  induction k with
  | zero =>
    intro a fuel s r ha hf h36 hR hP
    obtain ⟨f, rfl⟩ : ∃ f, fuel = f + 1 := ⟨fuel - 1, by omega⟩; rw [wp_X11_findsPair_9]; unfold wb_X11_findsPair_9; dsimp only
    rw [h36, nI_leI (by omega) (by omega)]
    have hP := hP r kR.rf hR
    refine ⟨fun _ => ?_, fun z9 => absurd (by omega) z9⟩
    unfold fpA at hP
    cases hs2 : s.2 with
    | none =>
      have h38 : r 38 = -1 := by unfold fpR at hR; rw [hs2] at hR; exact hR
      rw [hs2] at hP
      rw [h38]
      exact ⟨fun _ => hP, fun z9 => absurd (by decide) z9⟩
    | some op =>
      obtain ⟨o, p⟩ := op
      have hR' : o < n ∧ p < n ∧ r 38 = nI o ∧ r 39 = nI p := by unfold fpR at hR; rw [hs2] at hR; exact hR
      rw [hs2] at hP
      rw [hR'.2.2.1, nz_lt0 (by omega)]
      exact ⟨fun z9 => absurd z9 (by decide), fun _ => hP⟩
  | succ k ih =>
    intro a fuel s r ha hf h36 hR hP
    rw [fpA] at hP
    obtain ⟨f, rfl⟩ : ∃ f, fuel = f + 1 := ⟨fuel - 1, by omega⟩; rw [wp_X11_findsPair_9]; unfold wb_X11_findsPair_9; dsimp only
    rw [h36, nI_leI (by omega) (by omega)]
    refine ⟨fun z9 => absurd z9 (by omega), fun _ => ⟨20, ?_⟩⟩
    refine rl_fpB (G := G) (n := n) hn (by omega) hl hG n 0 20 s r (by omega) (by omega) h36 hR (fun r1 h1 h2 v75 e75 => ?_)
    rw [nI_1] at e75
    subst e75
    rw [hl] at hP
    exact ih (a + 1) f _ r1 (by omega) (by omega) (by rw [h1 36 (by decide)]; exact h36) h2 (fun r2 g1 g2 => hP r2 (h1.tr g1 (fun _ h => h) (fun _ h => h)) g2)
theorem kd_X11_findsPair (l : Launch) (D : va_G) (T : Nat → ClassId) (m0 : Nat) (a : Nat → Nat)  (r : Nat → Int32) (q : Nat → Nat → Int32) (h : grO r q) : RMi l yX11_findsPair (ws_X11_findsPair) rm_X11_findsPair D T m0 a [.ref m0] r q (fun v u => (u.2 = q ∧ v = (match (fpF (q 7) (alL (q 11) (iv (r 36)))).2 with | none => 0 | some _ => 1) ∧ kR r u.1 [38, 39] ∧ ∀ a b, (fpF (q 7) (alL (q 11) (iv (r 36)))).2 = some (a, b) → a < iv (r 36) ∧ b < iv (r 36) ∧ u.1 38 = nI a ∧ u.1 39 = nI b)) := c_X11_findsPair l D T m0 a  r q _ <|
  (by
    obtain ⟨n, hn, h36, hg⟩ := h
    have i36 : iv (r 36) = n := by rw [h36]; exact nI_clamp (by omega)
    rw [i36]
    have hG : ∀ i, i < n → 0 < gl (alL (q 11) n) i ∧ gl (alL (q 11) n) i < 1024 ∧ q 11 i = nI (gl (alL (q 11) n) i) := fun i hi => by
      obtain ⟨g, g0, g1, g2⟩ := hg i hi
      rw [alL_gl hi, g2, show iv (nI g) = g from nI_clamp (by omega)]
      exact ⟨g0, g1, rfl⟩
    unfold wp_X11_findsPair
    intro r1 e1
    refine ⟨20, ?_⟩
    have k1 : kR r r1 [38, 39] := by rw [e1]; exact kR.rf.up (by decide) _
    have hR : fpR r1 n (0, none) := by show r1 38 = -1; rw [e1, va_up_self]
    refine rl_fpA (G := alL (q 11) n) (n := n) hn alL_len hG n 0 20 (0, none) r1 (by omega) (by omega) (by rw [k1 36 (by decide)]; exact h36) hR (fun r2 g1 g2 => ?_)
    have hF : fpA (q 7) (alL (q 11) n) n 0 (0, none) = fpF (q 7) (alL (q 11) n) := by unfold fpF; rw [alL_len]
    rw [hF] at g2 ⊢
    refine ⟨rfl, rfl, k1.tr g1 (fun _ h => h) (fun _ h => h), fun a b hab => ?_⟩
    unfold fpR at g2
    rw [hab] at g2
    exact g2)

end S_DRAFT
