section S_DRAFT
theorem px_KI (S : HS) (i a : Nat) (v : Int32) : hK (putI S i a v) = hK S := rfl
theorem px_KR (S : HS) (i a : Nat) (v : Option Nat) : hK (putR S i a v) = hK S := rfl
theorem px_KA (S : HS) (a n : Nat) (v : Int32) : hK (putA S a n v) = hK S := rfl
theorem px_KB (S : HS) (a n : Nat) (v : Option Nat) : hK (putB S a n v) = hK S := rfl
theorem px_KO (S : HS) (q kd : Nat) (b : Nat) : hK (newO S q kd) b = if b = q then kd else hK S b := rfl
theorem px_KW (S : HS) (q kd n : Nat) (b : Nat) : hK (newA S q kd n) b = if b = q then kd else hK S b := rfl
theorem px_KC (S : HS) (q kd n : Nat) (row : Nat → Int32) (b : Nat) : hK (newC S q kd n row) b = if b = q then kd else hK S b := rfl
theorem px_NI (S : HS) (i a : Nat) (v : Int32) : hN (putI S i a v) = hN S := rfl
theorem px_NR (S : HS) (i a : Nat) (v : Option Nat) : hN (putR S i a v) = hN S := rfl
theorem px_NA (S : HS) (a n : Nat) (v : Int32) : hN (putA S a n v) = hN S := rfl
theorem px_NB (S : HS) (a n : Nat) (v : Option Nat) : hN (putB S a n v) = hN S := rfl
theorem px_NO (S : HS) (q kd : Nat) : hN (newO S q kd) = hN S := rfl
theorem px_NW (S : HS) (q kd n : Nat) (b : Nat) : hN (newA S q kd n) b = if b = q then n else hN S b := rfl
theorem px_NC (S : HS) (q kd n : Nat) (row : Nat → Int32) (b : Nat) : hN (newC S q kd n row) b = if b = q then n else hN S b := rfl
theorem px_II (S : HS) (i a : Nat) (v : Int32) (j b : Nat) : hI (putI S i a v) j b = if j = i ∧ b = a then v else hI S j b := rfl
theorem px_IR (S : HS) (i a : Nat) (v : Option Nat) : hI (putR S i a v) = hI S := rfl
theorem px_IA (S : HS) (a n : Nat) (v : Int32) : hI (putA S a n v) = hI S := rfl
theorem px_IB (S : HS) (a n : Nat) (v : Option Nat) : hI (putB S a n v) = hI S := rfl
theorem px_IO (S : HS) (q kd : Nat) : hI (newO S q kd) = hI S := rfl
theorem px_IW (S : HS) (q kd n : Nat) : hI (newA S q kd n) = hI S := rfl
theorem px_IC (S : HS) (q kd n : Nat) (row : Nat → Int32) : hI (newC S q kd n row) = hI S := rfl
theorem px_RI (S : HS) (i a : Nat) (v : Int32) : hR (putI S i a v) = hR S := rfl
theorem px_RR (S : HS) (i a : Nat) (v : Option Nat) (j b : Nat) : hR (putR S i a v) j b = if j = i ∧ b = a then v else hR S j b := rfl
theorem px_RA (S : HS) (a n : Nat) (v : Int32) : hR (putA S a n v) = hR S := rfl
theorem px_RB (S : HS) (a n : Nat) (v : Option Nat) : hR (putB S a n v) = hR S := rfl
theorem px_RO (S : HS) (q kd : Nat) : hR (newO S q kd) = hR S := rfl
theorem px_RW (S : HS) (q kd n : Nat) : hR (newA S q kd n) = hR S := rfl
theorem px_RC (S : HS) (q kd n : Nat) (row : Nat → Int32) : hR (newC S q kd n row) = hR S := rfl
theorem px_AI (S : HS) (i a : Nat) (v : Int32) : hA (putI S i a v) = hA S := rfl
theorem px_AR (S : HS) (i a : Nat) (v : Option Nat) : hA (putR S i a v) = hA S := rfl
theorem px_AA (S : HS) (a n : Nat) (v : Int32) (b j : Nat) : hA (putA S a n v) b j = if b = a ∧ j = n then v else hA S b j := rfl
theorem px_AB (S : HS) (a n : Nat) (v : Option Nat) : hA (putB S a n v) = hA S := rfl
theorem px_AO (S : HS) (q kd : Nat) : hA (newO S q kd) = hA S := rfl
theorem px_AW (S : HS) (q kd n : Nat) : hA (newA S q kd n) = hA S := rfl
theorem px_AC (S : HS) (q kd n : Nat) (row : Nat → Int32) (b : Nat) : hA (newC S q kd n row) b = if b = q then row else hA S b := rfl
theorem px_BI (S : HS) (i a : Nat) (v : Int32) : hB (putI S i a v) = hB S := rfl
theorem px_BR (S : HS) (i a : Nat) (v : Option Nat) : hB (putR S i a v) = hB S := rfl
theorem px_BA (S : HS) (a n : Nat) (v : Int32) : hB (putA S a n v) = hB S := rfl
theorem px_BB (S : HS) (a n : Nat) (v : Option Nat) (b j : Nat) : hB (putB S a n v) b j = if b = a ∧ j = n then v else hB S b j := rfl
theorem px_BO (S : HS) (q kd : Nat) : hB (newO S q kd) = hB S := rfl
theorem px_BW (S : HS) (q kd n : Nat) : hB (newA S q kd n) = hB S := rfl
theorem px_BC (S : HS) (q kd n : Nat) (row : Nat → Int32) : hB (newC S q kd n row) = hB S := rfl
theorem frM.rf {S : HS} {M : Nat → Prop} : frM S S M := fun _ _ _ => sam.rf
theorem frM.mn {S S1 : HS} {M M1 : Nat → Prop} (h : frM S S1 M) (hm : ∀ b, hK S b ≠ 0 → M b → M1 b) : frM S S1 M1 := fun b hb h0 => h b (fun z => hb (hm b h0 z)) h0
theorem frM.pI {S S1 : HS} {M : Nat → Prop} (h : frM S S1 M) {a : Nat} (ha : M a) (i : Nat) (v : Int32) : frM S (putI S1 i a v) M := fun b hb h0 => by
  obtain ⟨k, n, e, r, c, d⟩ := h b hb h0
  exact ⟨k, n, fun j => by rw [px_II, if_neg (fun z => hb (by rw [z.2]; exact ha))]; exact e j, r, c, d⟩
theorem frM.pR {S S1 : HS} {M : Nat → Prop} (h : frM S S1 M) {a : Nat} (ha : M a) (i : Nat) (v : Option Nat) : frM S (putR S1 i a v) M := fun b hb h0 => by
  obtain ⟨k, n, e, r, c, d⟩ := h b hb h0
  exact ⟨k, n, e, fun j => by rw [px_RR, if_neg (fun z => hb (by rw [z.2]; exact ha))]; exact r j, c, d⟩
theorem frM.pA {S S1 : HS} {M : Nat → Prop} (h : frM S S1 M) {a : Nat} (ha : M a) (i : Nat) (v : Int32) : frM S (putA S1 a i v) M := fun b hb h0 => by
  obtain ⟨k, n, e, r, c, d⟩ := h b hb h0
  exact ⟨k, n, e, r, by rw [putA_o _ _ _ (fun z => hb (by rw [z]; exact ha))]; exact c, d⟩
theorem putB_o (S : HS) {a b : Nat} (n : Nat) (v : Option Nat) (h : b ≠ a) : hB (putB S a n v) b = hB S b := by
  funext j
  rw [px_BB, if_neg (fun z => h z.1)]
theorem frM.pB {S S1 : HS} {M : Nat → Prop} (h : frM S S1 M) {a : Nat} (ha : M a) (i : Nat) (v : Option Nat) : frM S (putB S1 a i v) M := fun b hb h0 => by
  obtain ⟨k, n, e, r, c, d⟩ := h b hb h0
  exact ⟨k, n, e, r, c, by rw [putB_o _ _ _ (fun z => hb (by rw [z]; exact ha))]; exact d⟩
theorem frM.nO {S S1 : HS} {M : Nat → Prop} (h : frM S S1 M) (he : ext S S1) {q : Nat} (hq : hK S1 q = 0) (kd : Nat) : frM S (newO S1 q kd) M := fun b hb h0 => by
  obtain ⟨k, n, e, r, c, d⟩ := h b hb h0
  have hne : b ≠ q := fun z => h0 (by rw [← (he b h0).1, z]; exact hq)
  exact ⟨by rw [px_KO, if_neg hne]; exact k, n, e, r, c, d⟩
theorem frM.nW {S S1 : HS} {M : Nat → Prop} (h : frM S S1 M) (he : ext S S1) {q : Nat} (hq : hK S1 q = 0) (kd n : Nat) : frM S (newA S1 q kd n) M := fun b hb h0 => by
  obtain ⟨k, n, e, r, c, d⟩ := h b hb h0
  have hne : b ≠ q := fun z => h0 (by rw [← (he b h0).1, z]; exact hq)
  exact ⟨by rw [px_KW, if_neg hne]; exact k, by rw [px_NW, if_neg hne]; exact n, e, r, c, d⟩
theorem frM.nC {S S1 : HS} {M : Nat → Prop} (h : frM S S1 M) (he : ext S S1) {q : Nat} (hq : hK S1 q = 0) (kd n : Nat) (row : Nat → Int32) : frM S (newC S1 q kd n row) M := fun b hb h0 => by
  obtain ⟨k, n, e, r, c, d⟩ := h b hb h0
  have hne : b ≠ q := fun z => h0 (by rw [← (he b h0).1, z]; exact hq)
  exact ⟨by rw [px_KC, if_neg hne]; exact k, by rw [px_NC, if_neg hne]; exact n, e, r, by rw [px_AC, if_neg hne]; exact c, d⟩
theorem frM.x {S S1 : HS} {M : Nat → Prop} (h : frM S S1 M) {b : Nat} (hb : ¬ M b) {k : Nat} (hk : hK S b = k) (h0 : k ≠ 0) : sam S S1 b := h b hb (nz_of hk h0)
theorem kd_X6_addVersion (l : Launch) (D : va_G) (T : Nat → ClassId) (x0 : Nat) (p0 : Nat) (S : HS) (e0 : Nat) (e1 : Nat) (hx0 : hK S x0 = 7) (hp0 : hK S p0 = 10) (h : hR S 140 x0 = some e0 ∧ hK S e0 = 29 ∧ hN S e0 = 6 ∧ hI S 141 x0 = nI e1 ∧ e1 < 6) : CMi l yX6_addVersion (ws_X6_addVersion) rm_X6_addVersion D T [.ref x0, .ref p0] S 0 0 (fun v S1 => (v = nI e1 ∧ S1 = putI (putB S e0 e1 (some p0)) 141 x0 (nI (e1 + 1)))) := c_X6_addVersion l D T x0 p0 S hx0 hp0 _ <|
  (by
    obtain ⟨hR, h29, h6, h41, hn⟩ := h
    unfold wp_X6_addVersion
    refine ⟨e0, hR, fun _ => ?_⟩
    rw [h41, h6, nz_vp (by omega) (by decide), nI_clamp (n := e1) (by omega)]
    refine ⟨hn, fun S6 e6 S13 e13 => ?_⟩
    have i6 : hI S6 141 x0 = nI e1 := by rw [e6]; exact h41
    rw [i6, nI_1] at e13
    rw [e13, putI_s, sub_k (b := 1) (by omega) |> (show nI (e1 + 1) - 1 = nI (e1 + 1 - 1) from ·), e6]
    exact ⟨rfl, rfl⟩)
theorem kd_X6_addShipment (l : Launch) (D : va_G) (T : Nat → ClassId) (x0 : Nat) (p0 : Nat) (S : HS) (e0 : Nat) (e1 : Nat) (hx0 : hK S x0 = 7) (hp0 : hK S p0 = 6) (h : hR S 142 x0 = some e0 ∧ hK S e0 = 27 ∧ hN S e0 = 10 ∧ hI S 143 x0 = nI e1 ∧ e1 < 10) : CMi l yX6_addShipment (ws_X6_addShipment) rm_X6_addShipment D T [.ref x0, .ref p0] S 0 0 (fun v S1 => (v = nI e1 ∧ S1 = putI (putB S e0 e1 (some p0)) 143 x0 (nI (e1 + 1)))) := c_X6_addShipment l D T x0 p0 S hx0 hp0 _ <|
  (by
    obtain ⟨hR, h29, h6, h41, hn⟩ := h
    unfold wp_X6_addShipment
    refine ⟨e0, hR, fun _ => ?_⟩
    rw [h41, h6, nz_vp (by omega) (by decide), nI_clamp (n := e1) (by omega)]
    refine ⟨hn, fun S6 e6 S13 e13 => ?_⟩
    have i6 : hI S6 143 x0 = nI e1 := by rw [e6]; exact h41
    rw [i6, nI_1] at e13
    rw [e13, putI_s, sub_k (b := 1) (by omega) |> (show nI (e1 + 1) - 1 = nI (e1 + 1 - 1) from ·), e6]
    exact ⟨rfl, rfl⟩)
theorem rl_cf3 {P : HS → Prop} {S0 : HS} {x y : Nat} {c d cy dy : Nat} (hc : hR S0 144 x = some c) (hd : hR S0 145 x = some d) (hcy : hR S0 144 y = some cy) (hdy : hR S0 145 y = some dy) (hnc : hN S0 c = 5) (hnd : hN S0 d = 5) (hny : hN S0 cy = 5) (hnz : hN S0 dy = 5) (hne : c ≠ d) (n1 : cy ≠ c) (n2 : cy ≠ d) (n3 : dy ≠ c) (n4 : dy ≠ d) (hxy : x ≠ y) {M : Nat → Prop} (mx : M x) (mc : M c) (md : M d) {SS : HS} (hP : ∀ S1, frM SS S1 M → hK S1 = hK S0 ∧ hN S1 = hN S0 ∧ hR S1 = hR S0 ∧ hB S1 = hB S0 → hI S1 141 x = hI S0 141 y ∧ hI S1 143 x = hI S0 143 y ∧ hI S1 146 x = hI S0 146 y ∧ hI S1 147 x = hI S0 147 y → (∀ j, j < 5 → hA S1 c j = hA S0 cy j ∧ hA S1 d j = hA S0 dy j) → P S1) : ∀ (k i fuel : Nat) (S : HS), i + k = 5 → k < fuel → frM SS S M → hK S = hK S0 ∧ hN S = hN S0 ∧ hR S = hR S0 ∧ hB S = hB S0 ∧ hI S = hI S0 ∧ hA S cy = hA S0 cy ∧ hA S dy = hA S0 dy → (∀ j, j < i → hA S c j = hA S0 cy j ∧ hA S d j = hA S0 dy j) → wp_X6_copyFrom_54 P fuel x y (nI i) S := by
  intro k
  induction k with
  | zero =>
    intro i fuel S hi hf hF he hh
    obtain ⟨ek, en, er, eb, ei, _, _⟩ := he
    obtain ⟨f, rfl⟩ : ∃ f, fuel = f + 1 := ⟨fuel - 1, by omega⟩; rw [wp_X6_copyFrom_54]; unfold wb_X6_copyFrom_54; dsimp only
    rw [show (5 : Int32) = nI 5 from rfl, nI_leI (by omega) (by omega)]
    refine ⟨fun _ S41 e41 S48 e48 S55 e55 S62 e62 => ?_, fun z9 => absurd (by omega) z9⟩
    have hyx : y ≠ x := fun z => hxy z.symm
    refine hP S62 ?_ ?_ ?_ ?_
    · rw [e62, e55, e48, e41]; exact (((hF.pI mx _ _).pI mx _ _).pI mx _ _).pI mx _ _
    · rw [e62, e55, e48, e41]; exact ⟨ek, en, er, eb⟩
    · rw [e62, e55, e48, e41, ← ei]
      simp only [px_II, hyx, Nat.reduceEqDiff, and_true, and_false, if_true, if_false, true_and, false_and]
    · intro j hj
      rw [e62, e55, e48, e41]
      exact hh j (by omega)
  | succ k ih =>
    intro i fuel S hi hf hF he hh
    obtain ⟨ek, en, er, eb, ei, ec, ed⟩ := he
    obtain ⟨f, rfl⟩ : ∃ f, fuel = f + 1 := ⟨fuel - 1, by omega⟩; rw [wp_X6_copyFrom_54]; unfold wb_X6_copyFrom_54; dsimp only
    rw [show (5 : Int32) = nI 5 from rfl, nI_leI (by omega) (by omega), nI_1]
    refine ⟨fun z9 => absurd z9 (by omega), fun _ => ⟨c, by rw [er]; exact hc, fun _ => ⟨cy, by rw [er]; exact hcy, fun _ => ?_⟩⟩⟩
    rw [en, hny, hnc, nz_vp (by omega) (by decide), nI_clamp (n := i) (by omega)]
    refine ⟨by omega, by omega, fun S77 e77 => ⟨d, by rw [e77]; exact (congrFun (congrFun er _) _).trans hd, fun _ => ⟨dy, by rw [e77]; exact (congrFun (congrFun er _) _).trans hdy, fun _ => ?_⟩⟩⟩
    rw [show hN S77 = hN S0 by rw [e77]; exact en, hnz, hnd, nz_vp (by omega) (by decide)]
    refine ⟨by omega, by omega, fun S92 e92 v98 e98 => ?_⟩
    subst e98
    have a1 : hA S92 c = hA S77 c := by rw [e92]; exact putA_o _ _ _ hne
    have a2 : hA S92 cy = hA S0 cy := by rw [e92, putA_o _ _ _ n2, e77, putA_o _ _ _ n1]; exact ec
    have a3 : hA S77 dy = hA S0 dy := by rw [e77, putA_o _ _ _ n3]; exact ed
    have a4 : hA S92 dy = hA S0 dy := by rw [e92, putA_o _ _ _ n4]; exact a3
    have a5 : hA S77 d = hA S d := by rw [e77]; exact putA_o _ _ _ (fun z => hne z.symm)
    refine ih (i + 1) f S92 (by omega) (by omega) (by rw [e92, e77]; exact (hF.pA mc _ _).pA md _ _) ⟨by rw [e92, e77]; exact ek, by rw [e92, e77]; exact en, by rw [e92, e77]; exact er, by rw [e92, e77]; exact eb, by rw [e92, e77]; exact ei, a2, a4⟩ (fun j hj => ?_)
    by_cases g : j = i
    · subst g
      refine ⟨by rw [a1, e77, putA_s, ec], by rw [e92, putA_s, a3]⟩
    · refine ⟨by rw [a1, e77, putA_n _ _ g]; exact (hh j (by omega)).1, by rw [e92, putA_n _ _ g, a5]; exact (hh j (by omega)).2⟩
theorem rl_cf1 {K : Nat → Nat → HS → Prop} {P : HS → Prop} {S0 : HS} {x y a ay : Nat} (ha : hR S0 140 x = some a) (hay : hR S0 140 y = some ay) (hna : hN S0 a = 6) (hny : hN S0 ay = 6) (hne : ay ≠ a) {M : Nat → Prop} (ma : M a) (hK0 : ∀ S1, frM S0 S1 M → hK S1 = hK S0 ∧ hN S1 = hN S0 ∧ hR S1 = hR S0 ∧ hI S1 = hI S0 ∧ hA S1 = hA S0 → (∀ b, b ≠ a → hB S1 b = hB S0 b) → (∀ j, j < 6 → hB S1 a j = hB S0 ay j) → K x y S1) : ∀ (k i fuel : Nat) (S : HS), i + k = 6 → k < fuel → frM S0 S M → hK S = hK S0 ∧ hN S = hN S0 ∧ hR S = hR S0 ∧ hI S = hI S0 ∧ hA S = hA S0 → (∀ b, b ≠ a → hB S b = hB S0 b) → (∀ j, j < i → hB S a j = hB S0 ay j) → wp_X6_copyFrom_2 K P fuel x y (nI i) S := by
  intro k
  induction k with
  | zero =>
    intro i fuel S hi hf hF he hb hh
    obtain ⟨f, rfl⟩ : ∃ f, fuel = f + 1 := ⟨fuel - 1, by omega⟩; rw [wp_X6_copyFrom_2]; unfold wb_X6_copyFrom_2; dsimp only
    rw [show (6 : Int32) = nI 6 from rfl, nI_leI (by omega) (by omega)]
    exact ⟨fun _ => hK0 S hF he hb (fun j hj => hh j (by omega)), fun z9 => absurd (by omega) z9⟩
  | succ k ih =>
    intro i fuel S hi hf hF he hb hh
    have he0 := he
    obtain ⟨ek, en, er, ei, ea⟩ := he
    obtain ⟨f, rfl⟩ : ∃ f, fuel = f + 1 := ⟨fuel - 1, by omega⟩; rw [wp_X6_copyFrom_2]; unfold wb_X6_copyFrom_2; dsimp only
    rw [show (6 : Int32) = nI 6 from rfl, nI_leI (by omega) (by omega), nI_1]
    refine ⟨fun z9 => absurd z9 (by omega), fun _ => ⟨a, by rw [er]; exact ha, fun _ => ⟨ay, by rw [er]; exact hay, fun _ => ?_⟩⟩⟩
    rw [en, hny, hna, nz_vp (by omega) (by decide), nI_clamp (n := i) (by omega)]
    refine ⟨by omega, fun o9 e9 _ => ⟨by omega, fun S12 e12 v18 e18 => ?_⟩⟩
    subst e18
    refine ih (i + 1) f S12 (by omega) (by omega) (by rw [e12]; exact hF.pB ma _ _) (by rw [e12]; exact he0) (fun b hb9 => by rw [e12, putB_o _ _ _ hb9]; exact hb b hb9) (fun j hj => ?_)
    rw [e12, px_BB]
    by_cases g : j = i
    · rw [if_pos ⟨rfl, g⟩, e9, g, hb ay hne]
    · rw [if_neg (fun z => g z.2)]; exact hh j (by omega)
theorem rl_cf2 {K : Nat → Nat → HS → Prop} {P : HS → Prop} {S0 SS : HS} {x y a ay : Nat} (ha : hR S0 142 x = some a) (hay : hR S0 142 y = some ay) (hna : hN S0 a = 10) (hny : hN S0 ay = 10) (hne : ay ≠ a) {M : Nat → Prop} (ma : M a) (hK0 : ∀ S1, frM SS S1 M → hK S1 = hK S0 ∧ hN S1 = hN S0 ∧ hR S1 = hR S0 ∧ hI S1 = hI S0 ∧ hA S1 = hA S0 → (∀ b, b ≠ a → hB S1 b = hB S0 b) → (∀ j, j < 10 → hB S1 a j = hB S0 ay j) → K x y S1) : ∀ (k i fuel : Nat) (S : HS), i + k = 10 → k < fuel → frM SS S M → hK S = hK S0 ∧ hN S = hN S0 ∧ hR S = hR S0 ∧ hI S = hI S0 ∧ hA S = hA S0 → (∀ b, b ≠ a → hB S b = hB S0 b) → (∀ j, j < i → hB S a j = hB S0 ay j) → wp_X6_copyFrom_28 K P fuel x y (nI i) S := by
  intro k
  induction k with
  | zero =>
    intro i fuel S hi hf hF he hb hh
    obtain ⟨f, rfl⟩ : ∃ f, fuel = f + 1 := ⟨fuel - 1, by omega⟩; rw [wp_X6_copyFrom_28]; unfold wb_X6_copyFrom_28; dsimp only
    rw [show (10 : Int32) = nI 10 from rfl, nI_leI (by omega) (by omega)]
    exact ⟨fun _ => hK0 S hF he hb (fun j hj => hh j (by omega)), fun z9 => absurd (by omega) z9⟩
  | succ k ih =>
    intro i fuel S hi hf hF he hb hh
    have he0 := he
    obtain ⟨ek, en, er, ei, ea⟩ := he
    obtain ⟨f, rfl⟩ : ∃ f, fuel = f + 1 := ⟨fuel - 1, by omega⟩; rw [wp_X6_copyFrom_28]; unfold wb_X6_copyFrom_28; dsimp only
    rw [show (10 : Int32) = nI 10 from rfl, nI_leI (by omega) (by omega), nI_1]
    refine ⟨fun z9 => absurd z9 (by omega), fun _ => ⟨a, by rw [er]; exact ha, fun _ => ⟨ay, by rw [er]; exact hay, fun _ => ?_⟩⟩⟩
    rw [en, hny, hna, nz_vp (by omega) (by decide), nI_clamp (n := i) (by omega)]
    refine ⟨by omega, fun o9 e9 _ => ⟨by omega, fun S12 e12 v18 e18 => ?_⟩⟩
    subst e18
    refine ih (i + 1) f S12 (by omega) (by omega) (by rw [e12]; exact hF.pB ma _ _) (by rw [e12]; exact he0) (fun b hb9 => by rw [e12, putB_o _ _ _ hb9]; exact hb b hb9) (fun j hj => ?_)
    rw [e12, px_BB]
    by_cases g : j = i
    · rw [if_pos ⟨rfl, g⟩, e9, g, hb ay hne]
    · rw [if_neg (fun z => g z.2)]; exact hh j (by omega)
theorem kd_X6_copyFrom (l : Launch) (D : va_G) (T : Nat → ClassId) (x0 : Nat) (p0 : Nat) (S : HS) (e0 : (Nat → Prop)) (e1 : Nat → Int32) (hx0 : hK S x0 = 7) (hp0 : hK S p0 = 7) (h : StO S x0 ∧ WF e1 ∧ RelSt S e0 p0 e1 ∧ (∀ b, stA S x0 b → e0 b) ∧ (∀ b, stA S x0 b → ¬ stA S p0 b)) : CMv l yX6_copyFrom (ws_X6_copyFrom) rm_X6_copyFrom D T [.ref x0, .ref p0] S 0 0 (fun S1 => (frM S S1 (stA S x0) ∧ hK S1 = hK S ∧ hN S1 = hN S ∧ hR S1 = hR S ∧ RelSt S1 e0 x0 e1)) := c_X6_copyFrom l D T x0 p0 S hx0 hp0 _ <|
  (by
    obtain ⟨hx, hw, hr, hM, hs⟩ := h
    have hr0 := hr
    obtain ⟨h7, a, b, c, d, ra, rb, rc, rd, ka, na, kb, nb, kc, nc, kd9, nd, hcd⟩ := hx
    obtain ⟨⟨h1, h2, h3, h4, h5⟩, ⟨ay, r1, k1, n1, hb1⟩, ⟨b_y, r2, k2, n2, hc1⟩, ⟨cy, dy, r3, r4, k3, k4, n3, n4, ht⟩⟩ := hr
    have ma : stA S x0 a := Or.inr (Or.inl ra)
    have mb : stA S x0 b := Or.inr (Or.inr (Or.inl rb))
    have mc9 : stA S x0 c := Or.inr (Or.inr (Or.inr (Or.inl rc)))
    have md : stA S x0 d := Or.inr (Or.inr (Or.inr (Or.inr rd)))
    have mx : stA S x0 x0 := Or.inl rfl
    have ya : stA S p0 ay := Or.inr (Or.inl r1)
    have yb : stA S p0 b_y := Or.inr (Or.inr (Or.inl r2))
    have yc : stA S p0 cy := Or.inr (Or.inr (Or.inr (Or.inl r3)))
    have yd : stA S p0 dy := Or.inr (Or.inr (Or.inr (Or.inr r4)))
    have hn : ∀ {u w : Nat}, stA S x0 u → stA S p0 w → w ≠ u := fun hu hv z => hs _ hu (by rw [← z]; exact hv)
    have hxy : x0 ≠ p0 := fun z => hs x0 mx (Or.inl z)
    unfold wp_X6_copyFrom
    refine ⟨20, rl_cf1 (M := stA S x0) ra r1 na n1 (hn ma ya) ma (fun S1 f1 e1 b1 g1 _ _ => ?_) 6 0 20 S (by omega) (by omega) frM.rf ⟨rfl, rfl, rfl, rfl, rfl⟩ (fun _ _ => rfl) (fun j hj => absurd hj (Nat.not_lt_zero j))⟩
    obtain ⟨q1, q2, q3, q4, q5⟩ := e1
    refine ⟨20, rl_cf2 (S0 := S1) (SS := S) (M := stA S x0) (by rw [q3]; exact rb) (by rw [q3]; exact r2) (by rw [q2]; exact nb) (by rw [q2]; exact n2) (hn mb yb) mb (fun S2 f2 e2 b2 g2 _ _ => ?_) 10 0 20 S1 (by omega) (by omega) f1 ⟨rfl, rfl, rfl, rfl, rfl⟩ (fun _ _ => rfl) (fun j hj => absurd hj (Nat.not_lt_zero j))⟩
    obtain ⟨p1, p2, p3, p4, p5⟩ := e2
    have R2 : hR S2 = hR S := p3.trans q3
    have N2 : hN S2 = hN S := p2.trans q2
    refine ⟨20, rl_cf3 (S0 := S2) (SS := S) (M := stA S x0) (by rw [R2]; exact rc) (by rw [R2]; exact rd) (by rw [R2]; exact r3) (by rw [R2]; exact r4) (by rw [N2]; exact nc) (by rw [N2]; exact nd) (by rw [N2]; exact n3) (by rw [N2]; exact n4) hcd (hn mc9 yc) (hn md yc) (hn mc9 yd) (hn md yd) hxy mx mc9 md (fun S3 f3 e3 i3 g3 => ?_) 5 0 20 S2 (by omega) (by omega) f2 ⟨rfl, rfl, rfl, rfl, rfl, rfl, rfl⟩ (fun j hj => absurd hj (Nat.not_lt_zero j))⟩
    obtain ⟨u1, u2, u3, u4⟩ := e3
    have K3 : hK S3 = hK S := u1.trans (p1.trans q1)
    have N3 : hN S3 = hN S := u2.trans N2
    have R3 : hR S3 = hR S := u3.trans R2
    have I2 : hI S2 = hI S := p4.trans q4
    have A2 : hA S2 = hA S := p5.trans q5
    rw [I2] at i3
    have fm : frM S S3 e0 := f3.mn (fun b9 _ hb9 => hM b9 hb9)
    have hab : b ≠ a := fun z => by rw [z, ka] at kb; exact absurd kb (by decide)
    have hbya : b_y ≠ a := hn ma yb
    refine ⟨f3, K3, N3, R3, ⟨by rw [K3]; exact h7, by rw [i3.1]; exact h2, by rw [i3.2.1]; exact h3, by rw [i3.2.2.1]; exact h4, by rw [i3.2.2.2]; exact h5⟩, ⟨a, by rw [R3]; exact ra, by rw [K3]; exact ka, by rw [N3]; exact na, fun v hv => ?_⟩, ⟨b, by rw [R3]; exact rb, by rw [K3]; exact kb, by rw [N3]; exact nb, fun s hs9 => ?_⟩, ⟨c, d, by rw [R3]; exact rc, by rw [R3]; exact rd, by rw [K3]; exact kc, by rw [K3]; exact kd9, by rw [N3]; exact nc, by rw [N3]; exact nd, fun i hi => ?_⟩⟩
    · obtain ⟨n, hn6, en⟩ := hw.1
      have hv6 : v < 6 := by
        rw [en, show iv (nI n) = n from nI_clamp (by omega)] at hv
        omega
      obtain ⟨y, y1, y2⟩ := hb1 v hv
      exact ⟨y, by rw [u4, b2 a (fun z => hab z.symm), g1 v hv6]; exact y1, y2.fm fm⟩
    · obtain ⟨n, hn6, en⟩ := hw.2.1
      have hv6 : s < 10 := by
        rw [en, show iv (nI n) = n from nI_clamp (by omega)] at hs9
        omega
      obtain ⟨y, y1, y2⟩ := hc1 s hs9
      exact ⟨y, by rw [u4, g2 s hv6, b1 b_y hbya]; exact y1, y2.fm fm⟩
    · obtain ⟨n, hn6, en⟩ := hw.2.2.1
      have hv6 : i < 5 := by
        rw [en, show iv (nI n) = n from nI_clamp (by omega)] at hi
        omega
      obtain ⟨w1, w2⟩ := g3 i hv6
      rw [w1, w2, A2]
      exact ht i hi)

end S_DRAFT
