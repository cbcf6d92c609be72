section S_RTS
theorem sm_cg {μ μ' : Nat → Int32} {i B : Nat} (e : μ' i = μ i) (h : sm μ i B) : sm μ' i B := by
  obtain ⟨n, hn, en⟩ := h
  exact ⟨n, hn, e.trans en⟩
theorem WFA_cg {μ μ' : Nat → Int32} {v a : Nat} (e : ∀ c, c < 36 → μ' (274 + 510 * v + 150 + 36 * a + c) = μ (274 + 510 * v + 150 + 36 * a + c)) (h : WFA μ v a) : WFA μ' v a := by
  obtain ⟨h1, h2, h3, h4, h5, h6, h7, h8, h9⟩ := h
  have e0 : μ' (274 + 510 * v + 150 + 36 * a) = μ (274 + 510 * v + 150 + 36 * a) := e 0 (by decide)
  refine ⟨by rw [e0]; exact h1, sm_cg (e 1 (by decide)) h2, sm_cg (e 2 (by decide)) h3, sm_cg (e 3 (by decide)) h4, sm_cg (e 4 (by decide)) h5, by rw [e 5 (by decide)]; exact h6.imp id (sm_cg (e 5 (by decide))), fun k hk => sm_cg (by have := e (6 + k) (by omega); rw [← Nat.add_assoc] at this; exact this) (h7 k hk), fun z9 => ?_, fun z9 => ?_⟩
  · rw [e 2 (by decide)] at z9
    exact sm_cg (e 1 (by decide)) (h8 z9)
  · rw [e 2 (by decide)] at z9
    exact sm_cg (e 1 (by decide)) (h9 z9)
theorem WFV_cg {μ μ' : Nat → Int32} {v : Nat} (e0 : μ' 0 = μ 0) (e : ∀ o, o < 510 → μ' (274 + 510 * v + o) = μ (274 + 510 * v + o)) (h : WFV μ v) : WFV μ' v := by
  obtain ⟨h1, h2, h3, h4, h5, h6, h7, h8, h9⟩ := h
  refine ⟨sm_cg (e 1 (by decide)) h1, fun z z1 z9 => ?_, fun i hi => ?_, sm_cg (e 146 (by decide)) h4, sm_cg (e 147 (by decide)) h5, sm_cg (e 148 (by decide)) h6, sm_cg (e 149 (by decide)) h7, fun a ha => WFA_cg (fun c hc => ?_) (h8 a ha), fun n hn h6' hv => ?_⟩
  · obtain ⟨a1, a2, a3⟩ := h2 z z1 z9
    refine ⟨sm_cg ?_ a1, sm_cg ?_ a2, fun i hi => ⟨sm_cg ?_ (a3 i hi).1, sm_cg ?_ (a3 i hi).2⟩⟩
    · have := e (38 + z - 1) (by omega); rw [show 274 + 510 * v + (38 + z - 1) = 274 + 510 * v + 38 + z - 1 by omega] at this; exact this
    · have := e (137 + z - 1) (by omega); rw [show 274 + 510 * v + (137 + z - 1) = 274 + 510 * v + 137 + z - 1 by omega] at this; exact this
    · have := e (47 + 10 * (z - 1) + 2 * i) (by omega); rw [show 274 + 510 * v + (47 + 10 * (z - 1) + 2 * i) = 274 + 510 * v + 47 + 10 * (z - 1) + 2 * i by omega] at this; exact this
    · have := e (47 + 10 * (z - 1) + 2 * i + 1) (by omega); rw [show 274 + 510 * v + (47 + 10 * (z - 1) + 2 * i + 1) = 274 + 510 * v + 47 + 10 * (z - 1) + 2 * i + 1 by omega] at this; exact this
  · refine sm_cg ?_ (h3 i hi)
    have := e (2 + 3 * i + 2) (by omega); rw [show 274 + 510 * v + (2 + 3 * i + 2) = 274 + 510 * v + 2 + 3 * i + 2 by omega] at this; exact this
  · have := e (150 + 36 * a + c) (by omega); rw [show 274 + 510 * v + (150 + 36 * a + c) = 274 + 510 * v + 150 + 36 * a + c by omega] at this; exact this
  · rw [e0] at hn
    obtain ⟨d, d1, d2, d3⟩ := h9 n hn h6' hv
    exact ⟨d, d1, d2, (e 146 (by decide)).trans d3⟩
theorem WFS_cg {μ μ' : Nat → Int32} {s : Nat} (e : ∀ o, o < 26 → μ' (14 + 26 * s + o) = μ (14 + 26 * s + o)) (h : WFS μ s) : WFS μ' s := by
  obtain ⟨h1, h2, h3, h4, h5, h6⟩ := h
  refine ⟨sm_cg (e 2 (by decide)) h1, sm_cg (e 3 (by decide)) h2, sm_cg (e 4 (by decide)) h3, by rw [e 5 (by decide)]; exact h4, fun p hp => ⟨fun k hk => sm_cg (e (6 + 4 * p + k) (by omega)) ((h5 p hp).1 k hk), sm_cg (e (6 + 4 * p + 3) (by omega)) (h5 p hp).2⟩, fun n hn hn5 p hp k hk => ?_⟩
  rw [e 4 (by decide)] at hn
  rw [e (6 + 4 * p + k) (by omega)]
  exact h6 n hn hn5 p hp k hk
theorem WF_cg {μ μ' : Nat → Int32} (e : ∀ k, k < 3334 → μ' k = μ k) (h : WF μ) : WF μ' := by
  obtain ⟨h1, h2, h3, h4, h5⟩ := h
  exact ⟨sm_cg (e 0 (by decide)) h1, sm_cg (e 1 (by decide)) h2, sm_cg (e 2 (by decide)) h3, fun v hv => WFV_cg (e 0 (by decide)) (fun o ho => e _ (by omega)) (h4 v hv), fun s hs => WFS_cg (fun o ho => e _ (by omega)) (h5 s hs)⟩
/-- only one version differs -/
theorem WF_v {μ μ' : Nat → Int32} {v : Nat} (hv : v < 6) (e : ∀ k, k < 274 + 510 * v ∨ 274 + 510 * v + 510 ≤ k → μ' k = μ k) (h : WF μ) (hV : WFV μ' v) : WF μ' := by
  obtain ⟨h1, h2, h3, h4, h5⟩ := h
  refine ⟨sm_cg (e 0 (by omega)) h1, sm_cg (e 1 (by omega)) h2, sm_cg (e 2 (by omega)) h3, fun w hw => ?_, fun s hs => WFS_cg (fun o ho => e _ (by omega)) (h5 s hs)⟩
  by_cases c : w = v
  · rw [c]; exact hV
  · exact WFV_cg (e 0 (by omega)) (fun o ho => e _ (by omega)) (h4 w hw)
/-- what a cell of a version may hold -/
def vOK (o : Nat) (x : Int32) : Prop := (o = 1 → bn x 12) ∧ (38 ≤ o → o < 47 → bn x 5) ∧ (137 ≤ o → o < 146 → bn x 9999) ∧ (47 ≤ o → o < 137 → (o - 47) % 2 = 0 → bn x 9999) ∧ (47 ≤ o → o < 137 → (o - 47) % 2 = 1 → bn x 99) ∧ (2 ≤ o → o < 38 → (o - 2) % 3 = 2 → bn x 9) ∧ (o = 146 → ∃ d : Nat, 1000 ≤ d ∧ d ≤ 9999 ∧ x = nI d) ∧ (o = 147 → bn x 99) ∧ (o = 148 → bn x 9999) ∧ (o = 149 → bn x 9999) ∧ (150 ≤ o → (o - 150) % 36 = 0 → x = 0 ∨ x = 1) ∧ (150 ≤ o → (o - 150) % 36 = 1 → bn x 9999) ∧ (150 ≤ o → (o - 150) % 36 = 2 → bn x 2) ∧ (150 ≤ o → (o - 150) % 36 = 3 → bn x 30) ∧ (150 ≤ o → (o - 150) % 36 = 4 → bn x 30) ∧ (150 ≤ o → (o - 150) % 36 = 5 → x = -1 ∨ bn x 9) ∧ (150 ≤ o → 6 ≤ (o - 150) % 36 → bn x 9999999)
theorem WFV_of {μ μ' : Nat → Int32} {v : Nat} (h : WFV μ v) (e0 : μ' 0 = μ 0) (hc : ∀ o, o < 510 → μ' (274 + 510 * v + o) = μ (274 + 510 * v + o) ∨ vOK o (μ' (274 + 510 * v + o))) (ha : ∀ a, a < 10 → (μ' (274 + 510 * v + 150 + 36 * a + 1) = μ (274 + 510 * v + 150 + 36 * a + 1) ∧ μ' (274 + 510 * v + 150 + 36 * a + 2) = μ (274 + 510 * v + 150 + 36 * a + 2)) ∨ ((μ' (274 + 510 * v + 150 + 36 * a + 2) = 1 → bn (μ' (274 + 510 * v + 150 + 36 * a + 1)) 99) ∧ (μ' (274 + 510 * v + 150 + 36 * a + 2) = 2 → bn (μ' (274 + 510 * v + 150 + 36 * a + 1)) 50))) : WFV μ' v := by
  obtain ⟨h1, h2, h3, h4, h5, h6, h7, h8, h9⟩ := h
  have one : ∀ o B, o < 510 → sm μ (274 + 510 * v + o) B → (vOK o (μ' (274 + 510 * v + o)) → bn (μ' (274 + 510 * v + o)) B) → sm μ' (274 + 510 * v + o) B := fun o B ho hs hk => by
    rcases hc o ho with e | e
    · exact sm_cg e hs
    · exact hk e
  refine ⟨one 1 12 (by decide) h1 (fun k => k.1 rfl), fun z z1 z9 => ?_, fun i hi => ?_, one 146 9999 (by decide) h4 (fun k => ?_), one 147 99 (by decide) h5 (fun k => k.2.2.2.2.2.2.2.1 rfl), one 148 9999 (by decide) h6 (fun k => k.2.2.2.2.2.2.2.2.1 rfl), one 149 9999 (by decide) h7 (fun k => k.2.2.2.2.2.2.2.2.2.1 rfl), fun a ha9 => ?_, fun n hn h6' hv => ?_⟩
  · obtain ⟨a1, a2, a3⟩ := h2 z z1 z9
    have x1 := one (38 + z - 1) 5 (by omega) (by rw [show 274 + 510 * v + (38 + z - 1) = 274 + 510 * v + 38 + z - 1 by omega]; exact a1) (fun k => k.2.1 (by omega) (by omega))
    have x2 := one (137 + z - 1) 9999 (by omega) (by rw [show 274 + 510 * v + (137 + z - 1) = 274 + 510 * v + 137 + z - 1 by omega]; exact a2) (fun k => k.2.2.1 (by omega) (by omega))
    rw [show 274 + 510 * v + (38 + z - 1) = 274 + 510 * v + 38 + z - 1 by omega] at x1
    rw [show 274 + 510 * v + (137 + z - 1) = 274 + 510 * v + 137 + z - 1 by omega] at x2
    refine ⟨x1, x2, fun i hi => ⟨?_, ?_⟩⟩
    · have := one (47 + 10 * (z - 1) + 2 * i) 9999 (by omega) (by rw [show 274 + 510 * v + (47 + 10 * (z - 1) + 2 * i) = 274 + 510 * v + 47 + 10 * (z - 1) + 2 * i by omega]; exact (a3 i hi).1) (fun k => k.2.2.2.1 (by omega) (by omega) (by omega))
      rw [show 274 + 510 * v + (47 + 10 * (z - 1) + 2 * i) = 274 + 510 * v + 47 + 10 * (z - 1) + 2 * i by omega] at this
      exact this
    · have := one (47 + 10 * (z - 1) + 2 * i + 1) 99 (by omega) (by rw [show 274 + 510 * v + (47 + 10 * (z - 1) + 2 * i + 1) = 274 + 510 * v + 47 + 10 * (z - 1) + 2 * i + 1 by omega]; exact (a3 i hi).2) (fun k => k.2.2.2.2.1 (by omega) (by omega) (by omega))
      rw [show 274 + 510 * v + (47 + 10 * (z - 1) + 2 * i + 1) = 274 + 510 * v + 47 + 10 * (z - 1) + 2 * i + 1 by omega] at this
      exact this
  · have := one (2 + 3 * i + 2) 9 (by omega) (by rw [show 274 + 510 * v + (2 + 3 * i + 2) = 274 + 510 * v + 2 + 3 * i + 2 by omega]; exact h3 i hi) (fun k => k.2.2.2.2.2.1 (by omega) (by omega) (by omega))
    rw [show 274 + 510 * v + (2 + 3 * i + 2) = 274 + 510 * v + 2 + 3 * i + 2 by omega] at this
    exact this
  · obtain ⟨d, d1, d2, d3⟩ := k.2.2.2.2.2.2.1 rfl
    exact ⟨d, d2, d3⟩
  · obtain ⟨b1, b2, b3, b4, b5, b6, b7, b8, b9⟩ := h8 a ha9
    have ix : ∀ c, c < 36 → 274 + 510 * v + (150 + 36 * a + c) = 274 + 510 * v + 150 + 36 * a + c := fun c _ => by omega
    have ac : ∀ c B, c < 36 → sm μ (274 + 510 * v + 150 + 36 * a + c) B → (vOK (150 + 36 * a + c) (μ' (274 + 510 * v + 150 + 36 * a + c)) → bn (μ' (274 + 510 * v + 150 + 36 * a + c)) B) → sm μ' (274 + 510 * v + 150 + 36 * a + c) B := fun c B hc9 hs hk => by
      have := one (150 + 36 * a + c) B (by omega) (by rw [ix c hc9]; exact hs) (by rw [ix c hc9]; exact hk)
      rw [ix c hc9] at this
      exact this
    refine ⟨?_, ac 1 9999 (by decide) b2 (fun k => k.2.2.2.2.2.2.2.2.2.2.2.1 (by omega) (by omega)), ac 2 2 (by decide) b3 (fun k => k.2.2.2.2.2.2.2.2.2.2.2.2.1 (by omega) (by omega)), ac 3 30 (by decide) b4 (fun k => k.2.2.2.2.2.2.2.2.2.2.2.2.2.1 (by omega) (by omega)), ac 4 30 (by decide) b5 (fun k => k.2.2.2.2.2.2.2.2.2.2.2.2.2.2.1 (by omega) (by omega)), ?_, fun k hk => ?_, fun z9 => ?_, fun z9 => ?_⟩
    · have e9 := hc (150 + 36 * a + 0) (by omega)
      rw [ix 0 (by decide), Nat.add_zero] at e9
      rcases e9 with e | e
      · rw [e]; exact b1
      · exact e.2.2.2.2.2.2.2.2.2.2.1 (by omega) (by omega)
    · have e9 := hc (150 + 36 * a + 5) (by omega)
      rw [ix 5 (by decide)] at e9
      rcases e9 with e | e
      · rw [e]; exact b6.imp id (sm_cg e)
      · exact e.2.2.2.2.2.2.2.2.2.2.2.2.2.2.2.1 (by omega) (by omega)
    · have := ac (6 + k) 9999999 (by omega) (by rw [← Nat.add_assoc]; exact b7 k hk) (fun k9 => k9.2.2.2.2.2.2.2.2.2.2.2.2.2.2.2.2 (by omega) (by omega))
      rw [← Nat.add_assoc] at this
      exact this
    · rcases ha a ha9 with ⟨e1, e2⟩ | ⟨e1, _⟩
      · rw [e2] at z9
        exact sm_cg e1 (b8 z9)
      · exact e1 z9
    · rcases ha a ha9 with ⟨e1, e2⟩ | ⟨_, e1⟩
      · rw [e2] at z9
        exact sm_cg e1 (b9 z9)
      · exact e1 z9
  · rw [e0] at hn
    rcases hc 146 (by decide) with e | e
    · obtain ⟨d, d1, d2, d3⟩ := h9 n hn h6' hv
      exact ⟨d, d1, d2, e.trans d3⟩
    · exact e.2.2.2.2.2.2.1 rfl
theorem paT_cg {μ μ' : Nat → Int32} {e : Nat} : ∀ k j, (∀ i, j ≤ i → i < j + k → μ' (e + 6 + i) = μ (e + 6 + i)) → (paT μ' e k j).length = (paT μ e k j).length := by
  intro k
  induction k with
  | zero => intro j _; rfl
  | succ k ih =>
    intro j h
    rw [paT, paT, List.length_cons, List.length_cons, List.length_append, List.length_append, h j (Nat.le_refl _) (by omega), ih (j + 1) (fun i h1 h2 => h i (by omega) (by omega))]
theorem paT_tx {μ : Nat → Int32} {e : Nat} : ∀ (l : List (Nat × TS)) (j : Nat), (∀ i y, l[i]? = some y → μ (e + 6 + (j + i)) = tsE (nI y.1) y.2) → (paT μ e l.length j).length = txL l := by
  intro l
  induction l with
  | nil => intro j _; rfl
  | cons y l ih =>
    intro j h
    have h0 : μ (e + 6 + j) = tsE (nI y.1) y.2 := h 0 y (by simp)
    rw [List.length_cons, paT, List.length_cons, List.length_append, txL, ih (j + 1) (fun i z hz => by rw [show j + 1 + i = j + (i + 1) by omega]; exact h (i + 1) z (by simpa using hz)), h0]
    unfold tsN
    omega
theorem vOK_1 {x : Int32} (h : bn x 12) : vOK 1 x := by
  unfold vOK
  refine ⟨fun _ => h, ?_, ?_, ?_, ?_, ?_, ?_, ?_, ?_, ?_, ?_, ?_, ?_, ?_, ?_, ?_, ?_⟩
  all_goals (intros; first | omega | assumption)
theorem vOK_c {x : Int32} {o : Nat} (h1 : 38 ≤ o) (h2 : o < 47) (h : bn x 5) : vOK o x := by
  unfold vOK
  refine ⟨?_, fun _ _ => h, ?_, ?_, ?_, ?_, ?_, ?_, ?_, ?_, ?_, ?_, ?_, ?_, ?_, ?_, ?_⟩
  all_goals (intros; first | omega | assumption)
theorem vOK_m {x : Int32} {o : Nat} (h1 : 137 ≤ o) (h2 : o < 146) (h : bn x 9999) : vOK o x := by
  unfold vOK
  refine ⟨?_, ?_, fun _ _ => h, ?_, ?_, ?_, ?_, ?_, ?_, ?_, ?_, ?_, ?_, ?_, ?_, ?_, ?_⟩
  all_goals (intros; first | omega | assumption)
theorem vOK_w {x : Int32} {o : Nat} (h1 : 47 ≤ o) (h2 : o < 137) (h3 : (o - 47) % 2 = 0) (h : bn x 9999) : vOK o x := by
  unfold vOK
  refine ⟨?_, ?_, ?_, fun _ _ _ => h, ?_, ?_, ?_, ?_, ?_, ?_, ?_, ?_, ?_, ?_, ?_, ?_, ?_⟩
  all_goals (intros; first | omega | assumption)
theorem vOK_p {x : Int32} {o : Nat} (h1 : 47 ≤ o) (h2 : o < 137) (h3 : (o - 47) % 2 = 1) (h : bn x 99) : vOK o x := by
  unfold vOK
  refine ⟨?_, ?_, ?_, ?_, fun _ _ _ => h, ?_, ?_, ?_, ?_, ?_, ?_, ?_, ?_, ?_, ?_, ?_, ?_⟩
  all_goals (intros; first | omega | assumption)
theorem vOK_z {x : Int32} {o : Nat} (h1 : 2 ≤ o) (h2 : o < 38) (h : (o - 2) % 3 = 2 → bn x 9) : vOK o x := by
  unfold vOK
  refine ⟨?_, ?_, ?_, ?_, ?_, fun _ _ => h, ?_, ?_, ?_, ?_, ?_, ?_, ?_, ?_, ?_, ?_, ?_⟩
  all_goals (intros; first | omega | assumption)
theorem vOK_d {x : Int32} (h : ∃ d : Nat, 1000 ≤ d ∧ d ≤ 9999 ∧ x = nI d) : vOK 146 x := by
  unfold vOK
  refine ⟨?_, ?_, ?_, ?_, ?_, ?_, fun _ => h, ?_, ?_, ?_, ?_, ?_, ?_, ?_, ?_, ?_, ?_⟩
  all_goals (intros; first | omega | assumption)
theorem vOK_f {x : Int32} (h : bn x 99) : vOK 147 x := by
  unfold vOK
  refine ⟨?_, ?_, ?_, ?_, ?_, ?_, ?_, fun _ => h, ?_, ?_, ?_, ?_, ?_, ?_, ?_, ?_, ?_⟩
  all_goals (intros; first | omega | assumption)
theorem vOK_s {x : Int32} (h : bn x 9999) : vOK 148 x := by
  unfold vOK
  refine ⟨?_, ?_, ?_, ?_, ?_, ?_, ?_, ?_, fun _ => h, ?_, ?_, ?_, ?_, ?_, ?_, ?_, ?_⟩
  all_goals (intros; first | omega | assumption)
theorem vOK_k {x : Int32} (h : bn x 9999) : vOK 149 x := by
  unfold vOK
  refine ⟨?_, ?_, ?_, ?_, ?_, ?_, ?_, ?_, ?_, fun _ => h, ?_, ?_, ?_, ?_, ?_, ?_, ?_⟩
  all_goals (intros; first | omega | assumption)
theorem vOK_a {x : Int32} {a c : Nat} (hc : c < 36) (h0 : c = 0 → x = 0 ∨ x = 1) (h1 : c = 1 → bn x 9999) (h2 : c = 2 → bn x 2) (h3 : c = 3 → bn x 30) (h4 : c = 4 → bn x 30) (h5 : c = 5 → x = -1 ∨ bn x 9) (h6 : 6 ≤ c → bn x 9999999) : vOK (150 + 36 * a + c) x := by
  have e : (150 + 36 * a + c - 150) % 36 = c := by omega
  unfold vOK
  rw [e]
  refine ⟨?_, ?_, ?_, ?_, ?_, ?_, ?_, ?_, ?_, ?_, fun _ => h0, fun _ => h1, fun _ => h2, fun _ => h3, fun _ => h4, fun _ => h5, fun _ => h6⟩
  all_goals (intros; omega)
theorem bz_bn {μ : Nat → Int32} {v z : Nat} (h : WFV μ v) (h1 : 1 ≤ z) (h9 : z ≤ 9) {j : Nat} (hj : j < 10) : (j % 2 = 0 → bn (μ (274 + 510 * v + 47 + 10 * (z - 1) + j)) 9999) ∧ (j % 2 = 1 → bn (μ (274 + 510 * v + 47 + 10 * (z - 1) + j)) 99) := by
  have a := (h.2.1 z h1 h9).2.2 (j / 2) (by omega)
  refine ⟨fun e => ?_, fun e => ?_⟩
  · have := a.1
    rw [show 2 * (j / 2) = j by omega] at this
    exact this
  · have := a.2
    rw [show 274 + 510 * v + 47 + 10 * (z - 1) + 2 * (j / 2) + 1 = 274 + 510 * v + 47 + 10 * (z - 1) + j by omega] at this
    exact this
theorem bz_ok {x : Int32} {z j : Nat} (h1 : 1 ≤ z) (h9 : z ≤ 9) (hj : j < 10) (h : (j % 2 = 0 → bn x 9999) ∧ (j % 2 = 1 → bn x 99)) : vOK (47 + 10 * (z - 1) + j) x := by
  rcases (by omega : j % 2 = 0 ∨ j % 2 = 1) with e | e
  · exact vOK_w (by omega) (by omega) (by omega) (h.1 e)
  · exact vOK_p (by omega) (by omega) (by omega) (h.2 e)
theorem bn.of0 {x : Int32} {B : Nat} (h : ¬ zin x 0 (nI B) = 0) (hB : B < 2 ^ 31) : bn x B := by
  obtain ⟨j, hj, e⟩ := zin_n hB h
  exact ⟨j, hj, e⟩
theorem bk_wf {μ : Nat → Int32} (hw : WF μ) {v z : Nat} {w p : Int32} (hv : v < 6) (h1 : 1 ≤ z) (h9 : z ≤ 9) (hx : bn w 9999) (hp : bn p 9999) (hB : bkB μ v z w p = true) : WF (bkS μ v z w p) := by
  obtain ⟨c, hc, ec⟩ := hw.brk hv h1 h9
  have ic : iv (μ (274 + 510 * v + 38 + z - 1)) = c := by rw [ec]; exact nI_clamp (by omega)
  have hI : bxI μ v z w ≤ c := by
    have := (bxF_le (μ := μ) (v := v) (z := z) (w := w) c 0).2
    unfold bxI
    rw [ic]
    omega
  have hp99 : bn p 99 := by
    obtain ⟨m, hm, em⟩ := hp
    unfold bkB at hB
    rw [Bool.and_eq_true] at hB
    have h1' := hB.1
    refine ⟨m, ?_, em⟩
    rcases Nat.lt_or_ge 99 m with q9 | q9
    · rw [decide_eq_true (show (99 : Int32) < p by rw [em]; exact (nI_ltI (a := 99) (by decide) (by omega)).mpr q9)] at h1'
      cases h1'
    · exact q9
  have hbx : bxB μ v z w = true → bxI μ v z w < c := fun h => by
    unfold bxB at h
    rw [ic, Bool.and_eq_true, decide_eq_true_eq] at h
    exact h.1
  generalize hi : bxI μ v z w = i at *
  have mk : ∀ μ' : Nat → Int32, (∀ k, k < 274 + 510 * v ∨ 274 + 510 * v + 510 ≤ k → μ' k = μ k) → (∀ o, o < 510 → (o < 38 ∨ 137 ≤ o) → μ' (274 + 510 * v + o) = μ (274 + 510 * v + o)) → (∀ o, 38 ≤ o → o < 137 → μ' (274 + 510 * v + o) = μ (274 + 510 * v + o) ∨ vOK o (μ' (274 + 510 * v + o))) → WF μ' := by
    intro μ' g1 g2 g3
    refine WF_v hv g1 hw (WFV_of (hw.v hv) (g1 0 (by omega)) (fun o ho => ?_) (fun a ha => Or.inl ⟨?_, ?_⟩))
    · rcases (by omega : (o < 38 ∨ 137 ≤ o) ∨ (38 ≤ o ∧ o < 137)) with e | e
      · exact Or.inl (g2 o ho e)
      · exact g3 o e.1 e.2
    · have := g2 (150 + 36 * a + 1) (by omega) (by omega); rw [show 274 + 510 * v + (150 + 36 * a + 1) = 274 + 510 * v + 150 + 36 * a + 1 by omega] at this; exact this
    · have := g2 (150 + 36 * a + 2) (by omega) (by omega); rw [show 274 + 510 * v + (150 + 36 * a + 2) = 274 + 510 * v + 150 + 36 * a + 2 by omega] at this; exact this
  -- a break's cell: its place and what it holds
  have cell : ∀ (o : Nat) (x : Int32) (j : Nat), o = 47 + 10 * (z - 1) + j → j < 10 → ((j % 2 = 0 → bn x 9999) ∧ (j % 2 = 1 → bn x 99)) → vOK o x := fun o x j ho hj hh => by rw [ho]; exact bz_ok h1 h9 hj hh
  by_cases cp : p = 0
  · have hb : bxB μ v z w = true := by
      unfold bkB at hB
      rw [Bool.and_eq_true, if_pos cp] at hB
      exact hB.2
    have hic := hbx hb
    have hS : bkS μ v z w p = bkD μ v z i c := by unfold bkS; rw [if_pos cp, hi, ic]
    rw [hS]
    refine mk _ (fun k hk => ?_) (fun o ho hk => ?_) (fun o ho1 ho2 => ?_)
    · unfold bkD; rw [if_neg (by omega), if_neg (by omega)]
    · unfold bkD; rw [if_neg (by omega), if_neg (by omega)]
    · unfold bkD
      by_cases e1 : 274 + 510 * v + o = 274 + 510 * v + 38 + z - 1
      · right; rw [if_pos e1]; exact vOK_c (by omega) (by omega) ⟨c - 1, by omega, rfl⟩
      · rw [if_neg e1]
        by_cases e2 : 274 + 510 * v + 47 + 10 * (z - 1) + 2 * i ≤ 274 + 510 * v + o ∧ 274 + 510 * v + o < 274 + 510 * v + 47 + 10 * (z - 1) + 2 * (c - 1)
        · right
          rw [if_pos e2]
          have hb := bz_bn (hw.v hv) h1 h9 (j := o - (47 + 10 * (z - 1)) + 2) (by omega)
          rw [show 274 + 510 * v + 47 + 10 * (z - 1) + (o - (47 + 10 * (z - 1)) + 2) = 274 + 510 * v + o + 2 by omega] at hb
          refine cell o _ (o - (47 + 10 * (z - 1))) (by omega) (by omega) ⟨fun e => hb.1 (by omega), fun e => hb.2 (by omega)⟩
        · left; rw [if_neg e2]
  · cases hb : bxB μ v z w with
    | true =>
      have hic := hbx hb
      have hS : bkS μ v z w p = upd (upd μ (274 + 510 * v + 47 + 10 * (z - 1) + 2 * i) w) (274 + 510 * v + 47 + 10 * (z - 1) + 2 * i + 1) p := by unfold bkS; rw [if_neg cp, if_pos hb, hi]
      rw [hS]
      refine mk _ (fun k hk => ?_) (fun o ho hk => ?_) (fun o ho1 ho2 => ?_)
      · rw [pk_un (by omega), pk_un (by omega)]
      · rw [pk_un (by omega), pk_un (by omega)]
      · by_cases e1 : 274 + 510 * v + o = 274 + 510 * v + 47 + 10 * (z - 1) + 2 * i + 1
        · right; rw [e1, pk_us]; exact cell o _ (2 * i + 1) (by omega) (by omega) ⟨fun e => by omega, fun _ => hp99⟩
        · rw [pk_un e1]
          by_cases e2 : 274 + 510 * v + o = 274 + 510 * v + 47 + 10 * (z - 1) + 2 * i
          · right; rw [e2, pk_us]; exact cell o _ (2 * i) (by omega) (by omega) ⟨fun _ => hx, fun e => by omega⟩
          · left; rw [pk_un e2]
    | false =>
      have hc5 : c ≤ 4 := by
        unfold bkB at hB
        rw [Bool.and_eq_true, if_neg cp, hb, ec] at hB
        have := hB.2
        rcases Nat.lt_or_ge c 5 with q5 | q5
        · omega
        · have e5 : c = 5 := by omega
          subst e5
          exact absurd this (by decide)
      have hS : bkS μ v z w p = upd (upd (upd (bkU μ v z i c) (274 + 510 * v + 38 + z - 1) (nI c + 1)) (274 + 510 * v + 47 + 10 * (z - 1) + 2 * i) w) (274 + 510 * v + 47 + 10 * (z - 1) + 2 * i + 1) p := by unfold bkS; rw [if_neg cp, hb, if_neg (by decide), hi, ic, ec]
      rw [hS]
      refine mk _ (fun k hk => ?_) (fun o ho hk => ?_) (fun o ho1 ho2 => ?_)
      · rw [pk_un (by omega), pk_un (by omega), pk_un (by omega)]; unfold bkU; rw [if_neg (by omega)]
      · rw [pk_un (by omega), pk_un (by omega), pk_un (by omega)]; unfold bkU; rw [if_neg (by omega)]
      · by_cases e1 : 274 + 510 * v + o = 274 + 510 * v + 47 + 10 * (z - 1) + 2 * i + 1
        · right; rw [e1, pk_us]; exact cell o _ (2 * i + 1) (by omega) (by omega) ⟨fun e => by omega, fun _ => hp99⟩
        · rw [pk_un e1]
          by_cases e2 : 274 + 510 * v + o = 274 + 510 * v + 47 + 10 * (z - 1) + 2 * i
          · right; rw [e2, pk_us]; exact cell o _ (2 * i) (by omega) (by omega) ⟨fun _ => hx, fun e => by omega⟩
          · rw [pk_un e2]
            by_cases e3 : 274 + 510 * v + o = 274 + 510 * v + 38 + z - 1
            · right; rw [e3, pk_us, nI_1]; exact vOK_c (by omega) (by omega) ⟨c + 1, by omega, rfl⟩
            · rw [pk_un e3]
              unfold bkU
              by_cases e4 : 274 + 510 * v + 47 + 10 * (z - 1) + 2 * i + 2 ≤ 274 + 510 * v + o ∧ 274 + 510 * v + o < 274 + 510 * v + 47 + 10 * (z - 1) + 2 * c + 2
              · right
                rw [if_pos e4]
                have hb := bz_bn (hw.v hv) h1 h9 (j := o - (47 + 10 * (z - 1)) - 2) (by omega)
                rw [show 274 + 510 * v + 47 + 10 * (z - 1) + (o - (47 + 10 * (z - 1)) - 2) = 274 + 510 * v + o - 2 by omega] at hb
                refine cell o _ (o - (47 + 10 * (z - 1))) (by omega) (by omega) ⟨fun e => hb.1 (by omega), fun e => hb.2 (by omega)⟩
              · left; rw [if_neg e4]
/-- one cell of a version is written -/
theorem up_wf {μ : Nat → Int32} (hw : WF μ) {v o : Nat} {x : Int32} (hv : v < 6) (ho1 : 38 ≤ o) (ho : o < 150) (hx : vOK o x) : WF (upd μ (274 + 510 * v + o) x) := by
  refine WF_v hv (fun k hk => pk_un (by omega)) hw (WFV_of (hw.v hv) (pk_un (by omega)) (fun p hp => ?_) (fun a ha => Or.inl ⟨pk_un (by omega), pk_un (by omega)⟩))
  by_cases e : p = o
  · right; rw [e, pk_us]; exact hx
  · left; exact pk_un (by omega)
theorem pt_wf {μ : Nat → Int32} (hw : WF μ) {v : Nat} {x1 x2 x3 : Int32} (hv : v < 6) (h1 : bn x1 9) (hB : ptB μ v x2 x3 = true) : WF (ptS μ v x1 x2 x3) := by
  obtain ⟨c, hc, ec⟩ := hw.rng hv
  have ic : iv (μ (274 + 510 * v + 1)) = c := by rw [ec]; exact nI_clamp (by omega)
  have hc12 : c ≤ 11 := by
    rcases Nat.lt_or_ge c 12 with q9 | q9
    · omega
    · have e : c = 12 := by omega
      subst e
      unfold ptB at hB
      rw [decide_eq_true (show μ (274 + 510 * v + 1) = (12 : Int32) from ec)] at hB
      simp at hB
  unfold ptS
  rw [ic, ec, nI_1]
  refine WF_v hv (fun k hk => ?_) hw (WFV_of (hw.v hv) ?_ (fun o ho => ?_) (fun a ha => Or.inl ⟨?_, ?_⟩))
  · rw [pk_un (by omega), pk_un (by omega), pk_un (by omega), pk_un (by omega)]
  · rw [pk_un (by omega), pk_un (by omega), pk_un (by omega), pk_un (by omega)]
  · by_cases e1 : o = 1
    · right; subst e1; rw [pk_us]; exact vOK_1 ⟨c + 1, by omega, rfl⟩
    · rw [pk_un (by omega)]
      by_cases e2 : 2 + 3 * c ≤ o ∧ o < 2 + 3 * c + 3
      · right
        refine vOK_z (by omega) (by omega) (fun e => ?_)
        rw [show 274 + 510 * v + o = 274 + 510 * v + 2 + 3 * c + 2 by omega, pk_us]
        exact h1
      · left; rw [pk_un (by omega), pk_un (by omega), pk_un (by omega)]
  · rw [pk_un (by omega), pk_un (by omega), pk_un (by omega), pk_un (by omega)]
  · rw [pk_un (by omega), pk_un (by omega), pk_un (by omega), pk_un (by omega)]
theorem zf_wf {μ : Nat → Int32} (hw : WF μ) {v a : Nat} (hv : v < 6) (ha : a < 10) : WF (zf μ (274 + 510 * v + 150 + 36 * a) 36) := by
  have hz : ∀ k, zf μ (274 + 510 * v + 150 + 36 * a) 36 k = if 274 + 510 * v + 150 + 36 * a ≤ k ∧ k < 274 + 510 * v + 150 + 36 * a + 36 then 0 else μ k := fun _ => rfl
  refine WF_v hv (fun k hk => by rw [hz, if_neg (by omega)]) hw (WFV_of (hw.v hv) (by rw [hz, if_neg (by omega)]) (fun o ho => ?_) (fun a' ha' => ?_))
  · by_cases e : 150 + 36 * a ≤ o ∧ o < 150 + 36 * a + 36
    · right
      rw [hz, if_pos (by omega)]
      have := vOK_a (x := 0) (a := a) (c := o - (150 + 36 * a)) (by omega) (fun _ => Or.inl rfl) (fun _ => bn.z) (fun _ => bn.z) (fun _ => bn.z) (fun _ => bn.z) (fun _ => Or.inr bn.z) (fun _ => bn.z)
      rw [show 150 + 36 * a + (o - (150 + 36 * a)) = o by omega] at this
      exact this
    · left; rw [hz, if_neg (by omega)]
  · by_cases e : a' = a
    · subst e
      right
      rw [hz, hz, if_pos (by omega), if_pos (by omega)]
      exact ⟨fun z9 => absurd z9 (by decide), fun z9 => absurd z9 (by decide)⟩
    · left
      rw [hz, hz, if_neg (by omega), if_neg (by omega)]
      exact ⟨rfl, rfl⟩
theorem tsE_bn {y : Nat × TS} (h : tsW y.2) (hr : y.1 ≤ 30) : bn (tsE (nI y.1) y.2) 9999999 := by
  obtain ⟨kd, by_, v, h1, h2, h3, hk, hb, hv⟩ := h
  refine ⟨_, ?_, tsE_n h1 h2 h3 hk hb hv hr⟩
  have : (if y.2.1 = true then 1 else 0 : Nat) ≤ 1 := by split <;> omega
  generalize (if y.2.1 = true then 1 else 0 : Nat) = m at *
  omega
theorem se_wf {μ : Nat → Int32} (hw : WF μ) {v a : Nat} {x2 x3 excl : Int32} {l : List (Nat × TS)} {rows : Nat} (hv : v < 6) (ha : a < 10) (h2 : bn x2 9999) (h3 : bn x3 2) (hl : l.length ≤ 30) (hr : rows ≤ 30) (hy : ∀ y, y ∈ l → y.1 < rows ∧ tsW y.2) (hex : excl = -1 ∨ bn excl 9) (hB : seB x2 x3 = true) : WF (seF μ v a x2 x3 (nI rows) (nI l.length) (tvF l) excl) := by
  have ev : ∀ k, k < 274 + 510 * v + 150 + 36 * a ∨ 274 + 510 * v + 150 + 36 * a + 36 ≤ k → seF μ v a x2 x3 (nI rows) (nI l.length) (tvF l) excl k = μ k := fun k hk => by
    unfold seF
    rw [if_neg (by omega), pk_un (by omega), pk_un (by omega), pk_un (by omega), pk_un (by omega), pk_un (by omega), pk_un (by omega)]
  have e0 : seF μ v a x2 x3 (nI rows) (nI l.length) (tvF l) excl (274 + 510 * v + 150 + 36 * a) = 1 := by
    unfold seF
    rw [if_neg (by omega), pk_un (by omega), pk_un (by omega), pk_un (by omega), pk_un (by omega), pk_un (by omega), pk_us]
  have e1 : seF μ v a x2 x3 (nI rows) (nI l.length) (tvF l) excl (274 + 510 * v + 150 + 36 * a + 1) = x2 := by
    unfold seF
    rw [if_neg (by omega), pk_un (by omega), pk_un (by omega), pk_un (by omega), pk_un (by omega), pk_us]
  have e2 : seF μ v a x2 x3 (nI rows) (nI l.length) (tvF l) excl (274 + 510 * v + 150 + 36 * a + 2) = x3 := by
    unfold seF
    rw [if_neg (by omega), pk_un (by omega), pk_un (by omega), pk_un (by omega), pk_us]
  have e3 : seF μ v a x2 x3 (nI rows) (nI l.length) (tvF l) excl (274 + 510 * v + 150 + 36 * a + 3) = nI rows := by
    unfold seF
    rw [if_neg (by omega), pk_un (by omega), pk_un (by omega), pk_us]
  have e4 : seF μ v a x2 x3 (nI rows) (nI l.length) (tvF l) excl (274 + 510 * v + 150 + 36 * a + 4) = nI l.length := by
    unfold seF
    rw [if_neg (by omega), pk_un (by omega), pk_us]
  have e5 : seF μ v a x2 x3 (nI rows) (nI l.length) (tvF l) excl (274 + 510 * v + 150 + 36 * a + 5) = excl := by
    unfold seF
    rw [if_neg (by omega), pk_us]
  have e6 : ∀ k, k < 30 → bn (seF μ v a x2 x3 (nI rows) (nI l.length) (tvF l) excl (274 + 510 * v + 150 + 36 * a + (6 + k))) 9999999 := fun k hk => by
    unfold seF
    rw [if_pos (by omega), show iv (nI l.length) = l.length from nI_clamp (by omega)]
    split
    · unfold tvF
      split
      · rename_i y hy9
        have hm := List.mem_of_getElem? hy9
        exact tsE_bn (hy y hm).2 (by have := (hy y hm).1; omega)
      · exact bn.z
    · exact bn.z
  refine WF_v hv (fun k hk => ev k (by omega)) hw (WFV_of (hw.v hv) (ev 0 (by omega)) (fun o ho => ?_) (fun a' ha' => ?_))
  · by_cases e : 150 + 36 * a ≤ o ∧ o < 150 + 36 * a + 36
    · right
      obtain ⟨c, hc⟩ : ∃ c, o = 150 + 36 * a + c := ⟨o - (150 + 36 * a), by omega⟩
      have hc36 : c < 36 := by omega
      rw [hc, show 274 + 510 * v + (150 + 36 * a + c) = 274 + 510 * v + 150 + 36 * a + c by omega]
      refine vOK_a hc36 (fun z => ?_) (fun z => ?_) (fun z => ?_) (fun z => ?_) (fun z => ?_) (fun z => ?_) (fun z => ?_)
      · subst z; right; exact e0
      · subst z; rw [e1]; exact h2
      · subst z; rw [e2]; exact h3
      · subst z; rw [e3]; exact ⟨rows, hr, rfl⟩
      · subst z; rw [e4]; exact ⟨l.length, hl, rfl⟩
      · subst z; rw [e5]; exact hex
      · have := e6 (c - 6) (by omega)
        rw [show 6 + (c - 6) = c by omega] at this
        exact this
    · left; exact ev _ (by omega)
  · by_cases e : a' = a
    · subst e
      right
      rw [e1, e2]
      obtain ⟨m, hm, em⟩ := h2
      have lim : ∀ B : Nat, B < 2 ^ 31 → ¬ nI B < x2 → bn x2 B := fun B hB9 z9 => by
        rw [em] at z9
        refine ⟨m, ?_, em⟩
        rcases Nat.lt_or_ge B m with q9 | q9
        · exact absurd ((nI_ltI hB9 (by omega)).mpr q9) z9
        · exact q9
      unfold seB at hB
      refine ⟨fun z9 => ?_, fun z9 => ?_⟩
      · rw [z9, if_pos rfl] at hB
        exact lim 99 (by decide) (fun w9 => by rw [decide_eq_true (show (99 : Int32) < x2 from w9)] at hB; cases hB)
      · rw [z9, if_neg (by decide), if_pos rfl] at hB
        exact lim 50 (by decide) (fun w9 => by rw [decide_eq_true (show (50 : Int32) < x2 from w9)] at hB; cases hB)
    · left
      exact ⟨ev _ (by omega), ev _ (by omega)⟩
/-- carrying out keeps the row in order -/
theorem cr_wf {μ : Nat → Int32} (hw : WF μ) {v : Nat} {x : STM} (hv : v < 6) (hx : stW x) (hB : crBx μ v x = true) : WF (crSx μ v x) := by
  have ztz : ∀ {y : Int32}, zix y → bn y 9 := fun ⟨n, _, h9, e⟩ => ⟨n, h9, e⟩
  unfold crBx crB at hB
  unfold crSx crS
  rcases hx with ⟨c, h1, h2, h3⟩ | ⟨c, ⟨z, h1, h9, ez⟩, h2, h3⟩ | ⟨c, ⟨z, h1, h9, ez⟩, h2⟩ | ⟨c, h1⟩ | ⟨c, ⟨a, ha, ea⟩, h2, h3, h4, h5, h6, h7, h8⟩ | ⟨c, a, ha, ea⟩
  · rw [if_pos c] at hB ⊢
    exact pt_wf hw hv (ztz h1) hB
  · rw [if_neg (by rw [c]; decide), if_pos c] at hB ⊢
    rw [ez, show iv (nI z) = z from nI_clamp (by omega)] at hB ⊢
    exact bk_wf hw hv h1 h9 h2 h3 hB
  · rw [if_neg (by rw [c]; decide), if_neg (by rw [c]; decide), if_pos c]
    rw [ez, show iv (nI z) = z from nI_clamp (by omega), show 274 + 510 * v + 137 + z - 1 = 274 + 510 * v + (137 + z - 1) by omega]
    exact up_wf hw hv (by omega) (by omega) (vOK_m (by omega) (by omega) h2)
  · rcases c with c | c | c | c
    · rw [if_neg (by rw [c]; decide), if_neg (by rw [c]; decide), if_neg (by rw [c]; decide), if_pos c] at hB ⊢
      obtain ⟨y1, y2⟩ := zin_0.mp (of_decide_eq_true hB)
      obtain ⟨m, hm, em⟩ := h1
      rw [em] at y1
      have := (nI_leI (a := 1000) (by decide) (by omega)).mp y1
      exact up_wf hw hv (by omega) (by omega) (vOK_d ⟨m, this, hm, em⟩)
    · rw [if_neg (by rw [c]; decide), if_neg (by rw [c]; decide), if_neg (by rw [c]; decide), if_neg (by rw [c]; decide), if_pos c] at hB ⊢
      exact up_wf hw hv (by omega) (by omega) (vOK_f (bn.of0 (B := 99) (of_decide_eq_true hB) (by decide)))
    · rw [if_neg (by rw [c]; decide), if_neg (by rw [c]; decide), if_neg (by rw [c]; decide), if_neg (by rw [c]; decide), if_neg (by rw [c]; decide), if_pos c]
      exact up_wf hw hv (by omega) (by omega) (vOK_s h1)
    · rw [if_neg (by rw [c]; decide), if_neg (by rw [c]; decide), if_neg (by rw [c]; decide), if_neg (by rw [c]; decide), if_neg (by rw [c]; decide), if_neg (by rw [c]; decide), if_pos c]
      exact up_wf hw hv (by omega) (by omega) (vOK_k h1)
  · rw [if_neg (by rw [c]; decide), if_neg (by rw [c]; decide), if_neg (by rw [c]; decide), if_neg (by rw [c]; decide), if_neg (by rw [c]; decide), if_neg (by rw [c]; decide), if_neg (by rw [c]; decide), if_pos c] at hB ⊢
    rw [ea, show iv (nI a) = a from nI_clamp (by omega)]
    exact se_wf hw hv ha h2 h3 h4 h5 h6 h8 hB
  · rw [if_neg (by rw [c]; decide), if_neg (by rw [c]; decide), if_neg (by rw [c]; decide), if_neg (by rw [c]; decide), if_neg (by rw [c]; decide), if_neg (by rw [c]; decide), if_neg (by rw [c]; decide), if_neg (by rw [c]; decide)]
    rw [ea, show iv (nI a) = a from nI_clamp (by omega)]
    exact zf_wf hw hv ha
theorem paE {μ μ' : Nat → Int32} {v a : Nat} (hw : WF μ) (hv : v < 6) (ha : a < 10) (e : ∀ c, c < 36 → μ' (274 + 510 * v + 150 + 36 * a + c) = μ (274 + 510 * v + 150 + 36 * a + c)) (h : (paT μ (274 + 510 * v + 150 + 36 * a) (iv (μ (274 + 510 * v + 150 + 36 * a + 4))) 0).length ≤ 80) : (paT μ' (274 + 510 * v + 150 + 36 * a) (iv (μ' (274 + 510 * v + 150 + 36 * a + 4))) 0).length ≤ 80 := by
  obtain ⟨c, hc, ec⟩ := (hw.acc hv ha).2.2.2.2.1
  have ic : iv (μ (274 + 510 * v + 150 + 36 * a + 4)) = c := by rw [ec]; exact nI_clamp (by omega)
  rw [e 4 (by decide), ic]
  rw [ic] at h
  rw [paT_cg (μ := μ) (μ' := μ') c 0 (fun i _ hi => by have := e (6 + i) (by omega); rw [← Nat.add_assoc] at this; exact this)]
  exact h
/-- what is kept by a statement that is no accessorial's -/
theorem bk_kp {μ : Nat → Int32} {v z : Nat} {w p : Int32} (h1 : 1 ≤ z) (h9 : z ≤ 9) {k : Nat} (hk : k < 274 + 510 * v ∨ 274 + 510 * v + 150 ≤ k) (hI : bxI μ v z w ≤ 5) (hc : iv (μ (274 + 510 * v + 38 + z - 1)) ≤ 5) (hc2 : ¬ p = 0 → bxB μ v z w = false → iv (μ (274 + 510 * v + 38 + z - 1)) ≤ 4) (hI2 : bxB μ v z w = true → bxI μ v z w ≤ 4) (hI3 : bxI μ v z w ≤ iv (μ (274 + 510 * v + 38 + z - 1))) : bkS μ v z w p k = μ k := by
  unfold bkS
  split
  · unfold bkD
    rw [if_neg (by omega), if_neg (by omega)]
  · rename_i cp
    split
    · rename_i cb
      have := hI2 cb
      rw [pk_un (by omega), pk_un (by omega)]
    · rename_i cb
      have cb' : bxB μ v z w = false := by cases h : bxB μ v z w with | true => exact absurd h cb | false => rfl
      have := hc2 cp cb'
      rw [pk_un (by omega), pk_un (by omega), pk_un (by omega)]
      unfold bkU
      rw [if_neg (by omega)]
theorem cr_wfp {μ : Nat → Int32} (hw : WF μ) (hp : WFP μ) {v : Nat} {x : STM} (hv : v < 6) (hx : stW x) (hB : crBx μ v x = true) : WFP (crSx μ v x) := by
  -- an accessorial's cells are kept
  have kp : (∀ k, k < 274 + 510 * v ∨ 274 + 510 * v + 150 ≤ k → crSx μ v x k = μ k) → WFP (crSx μ v x) := fun h v' hv' a ha => paE hw hv' ha (fun c hc => h _ (by
    rcases Nat.lt_trichotomy v' v with q9 | q9 | q9
    · left; omega
    · right; omega
    · right; omega)) (hp v' hv' a ha)
  have kp2 : ∀ a, a < 10 → (∀ k, k < 274 + 510 * v + 150 + 36 * a ∨ 274 + 510 * v + 150 + 36 * a + 36 ≤ k → crSx μ v x k = μ k) → (paT (crSx μ v x) (274 + 510 * v + 150 + 36 * a) (iv (crSx μ v x (274 + 510 * v + 150 + 36 * a + 4))) 0).length ≤ 80 → WFP (crSx μ v x) := fun a ha h h2 v' hv' a' ha' => by
    by_cases e : v' = v ∧ a' = a
    · obtain ⟨e1, e2⟩ := e
      subst e1 e2
      exact h2
    · refine paE hw hv' ha' (fun c hc => h _ ?_) (hp v' hv' a' ha')
      rcases Nat.lt_trichotomy v' v with q9 | q9 | q9
      · left; omega
      · subst q9
        have : a' ≠ a := fun z9 => e ⟨rfl, z9⟩
        omega
      · right; omega
  rcases hx with ⟨c, h1, h2, h3⟩ | ⟨c, ⟨z, h1, h9, ez⟩, h2, h3⟩ | ⟨c, ⟨z, h1, h9, ez⟩, h2⟩ | ⟨c, h1⟩ | ⟨c, ⟨a, ha, ea⟩, h2, h3, h4, h5, h6, h7, h8⟩ | ⟨c, a, ha, ea⟩
  · refine kp (fun k hk => ?_)
    obtain ⟨n, hn, en⟩ := hw.rng hv
    unfold crSx crS
    rw [if_pos c]
    unfold ptS
    rw [en, show iv (nI n) = n from nI_clamp (by omega), pk_un (by omega), pk_un (by omega), pk_un (by omega), pk_un (by omega)]
  · refine kp (fun k hk => ?_)
    obtain ⟨n, hn, en⟩ := hw.brk hv h1 h9
    have ic : iv (μ (274 + 510 * v + 38 + z - 1)) = n := by rw [en]; exact nI_clamp (by omega)
    have hI : bxI μ v z x.1.2.2.1 ≤ n := by
      have := (bxF_le (μ := μ) (v := v) (z := z) (w := x.1.2.2.1) n 0).2
      unfold bxI
      rw [ic]
      omega
    unfold crBx crB at hB
    rw [if_neg (by rw [c]; decide), if_pos c, ez, show iv (nI z) = z from nI_clamp (by omega)] at hB
    unfold crSx crS
    rw [if_neg (by rw [c]; decide), if_pos c, ez, show iv (nI z) = z from nI_clamp (by omega)]
    refine bk_kp h1 h9 hk (by omega) (by omega) (fun cp cb => ?_) (fun cb => ?_) (by omega)
    · unfold bkB at hB
      rw [Bool.and_eq_true, if_neg cp, cb, en] at hB
      have := hB.2
      rw [ic]
      rcases Nat.lt_or_ge n 5 with q5 | q5
      · omega
      · have e5 : n = 5 := by omega
        subst e5
        exact absurd this (by decide)
    · unfold bxB at cb
      rw [ic, Bool.and_eq_true, decide_eq_true_eq] at cb
      have := cb.1
      omega
  · refine kp (fun k hk => ?_)
    unfold crSx crS
    rw [if_neg (by rw [c]; decide), if_neg (by rw [c]; decide), if_pos c, ez, show iv (nI z) = z from nI_clamp (by omega)]
    exact pk_un (by omega)
  · refine kp (fun k hk => ?_)
    unfold crSx crS
    rcases c with c | c | c | c
    · rw [if_neg (by rw [c]; decide), if_neg (by rw [c]; decide), if_neg (by rw [c]; decide), if_pos c]
      exact pk_un (by omega)
    · rw [if_neg (by rw [c]; decide), if_neg (by rw [c]; decide), if_neg (by rw [c]; decide), if_neg (by rw [c]; decide), if_pos c]
      exact pk_un (by omega)
    · rw [if_neg (by rw [c]; decide), if_neg (by rw [c]; decide), if_neg (by rw [c]; decide), if_neg (by rw [c]; decide), if_neg (by rw [c]; decide), if_pos c]
      exact pk_un (by omega)
    · rw [if_neg (by rw [c]; decide), if_neg (by rw [c]; decide), if_neg (by rw [c]; decide), if_neg (by rw [c]; decide), if_neg (by rw [c]; decide), if_neg (by rw [c]; decide), if_pos c]
      exact pk_un (by omega)
  · have hS : crSx μ v x = seF μ v a x.1.2.2.1 x.1.2.2.2 (nI x.2.1.2) (nI x.2.1.1.length) (tvF x.2.1.1) x.2.2 := by
      unfold crSx crS
      rw [if_neg (by rw [c]; decide), if_neg (by rw [c]; decide), if_neg (by rw [c]; decide), if_neg (by rw [c]; decide), if_neg (by rw [c]; decide), if_neg (by rw [c]; decide), if_neg (by rw [c]; decide), if_pos c, ea, show iv (nI a) = a from nI_clamp (by omega)]
    refine kp2 a ha (fun k hk => ?_) ?_
    · rw [hS]
      unfold seF
      rw [if_neg (by omega), pk_un (by omega), pk_un (by omega), pk_un (by omega), pk_un (by omega), pk_un (by omega), pk_un (by omega)]
    · have e4 : crSx μ v x (274 + 510 * v + 150 + 36 * a + 4) = nI x.2.1.1.length := by
        rw [hS]
        unfold seF
        rw [if_neg (by omega), pk_un (by omega), pk_us]
      rw [e4, show iv (nI x.2.1.1.length) = x.2.1.1.length from nI_clamp (by omega), paT_tx x.2.1.1 0 (fun i y hy => ?_)]
      · exact h7
      · have hi : i < x.2.1.1.length := (List.getElem?_eq_some_iff.mp hy).1
        rw [hS]
        unfold seF
        rw [if_pos (by omega), show iv (nI x.2.1.1.length) = x.2.1.1.length from nI_clamp (by omega), show 274 + 510 * v + 150 + 36 * a + 6 + (0 + i) - (274 + 510 * v + 150 + 36 * a + 6) = i by omega, if_pos hi]
        unfold tvF
        rw [hy]
  · have hS : crSx μ v x = zf μ (274 + 510 * v + 150 + 36 * a) 36 := by
      unfold crSx crS
      rw [if_neg (by rw [c]; decide), if_neg (by rw [c]; decide), if_neg (by rw [c]; decide), if_neg (by rw [c]; decide), if_neg (by rw [c]; decide), if_neg (by rw [c]; decide), if_neg (by rw [c]; decide), if_neg (by rw [c]; decide), ea, show iv (nI a) = a from nI_clamp (by omega)]
    refine kp2 a ha (fun k hk => ?_) ?_
    · rw [hS]
      unfold zf
      rw [if_neg (by omega)]
    · have e4 : crSx μ v x (274 + 510 * v + 150 + 36 * a + 4) = 0 := by
        rw [hS]
        unfold zf
        rw [if_pos (by omega)]
      rw [e4, show iv (0 : Int32) = 0 from rfl]
      exact Nat.zero_le _

end S_RTS
