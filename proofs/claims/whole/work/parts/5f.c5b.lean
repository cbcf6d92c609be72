section S_C5B
abbrev ws_X6_addVersion : List Cond := Cond.code yX6_addVersion cX6_addVersion 2 (some .int) :: W0
abbrev rm_X6_addVersion : Room := ({ frames := 0, cells := 0, slots := 0, locals := 0 } : Room)
def wp_X6_addVersion (P : Int32 → HS → Prop) (x0 : Nat) (p0 : Nat) (S : HS) : Prop := ∃ b2 : Nat, hR S 140 x0 = some b2 ∧ (hK S b2 = 29 → (vp_in (hI S 141 x0) (hN S b2) ∧ (∀ S6 : HS, S6 = putB S b2 (Int32.toNatClampNeg (hI S 141 x0)) (some p0) → (∀ S13 : HS, S13 = putI S6 141 x0 ((hI S6 141 x0) + 1) → (P ((hI S13 141 x0) - 1) S13)))))
set_option maxRecDepth 100000 in
set_option maxHeartbeats 4000000 in
theorem t_X6_addVersion {p : Program} {l : Launch} {e : Env} {s : State} {m : MethodId} {args : Array Value} {below : List Frame} {meth : Method} {c : Code} {D : va_G} {A : Nat → Prop} {T : Nat → ClassId} (C : GC p s m args meth c cX6_addVersion "FreightRater$State" (ws_X6_addVersion) 2 D A (zty T)) (E : GE T A s) (hr : meth.sig.returnType = (some .int)) (P : Int32 → HS → Prop) : ∀ (x0 : Nat) (p0 : Nat) (S0 S : HS) (L : List Nat), S0 = S → wt S → hL S L → (hK S x0 = 7) → (hK S p0 = 10) → wp_X6_addVersion P x0 p0 S → GW p l e { rm_X6_addVersion with cells := 0, slots := 0 } s m args below meth c D A 2 0 0 (MQ below (va_Qi (fun v (u : HS × List Nat) => P v u.1 ∧ CO S0 u) (CE D T A) A) args s 0 0 A) (CW T S L) 0 0 0 [(0, .ref x0), (1, .ref p0)] [] := by
  have hW : ∀ {w : Cond}, w ∈ W0 → w.before args s = true := fun h => C.2.2.2.2.1 _ (List.mem_cons_of_mem _ h)
  intro x0 p0 S0 S L hS0 hw hL hx0 hp0 h
  have he : ext S0 S := by rw [hS0]; exact ext_rf
  unfold wp_X6_addVersion at h
  refine g_aload_n C dX6_addVersion_0 rfl 0 rfl ?_
  refine gc_getR C hw iwx_X6 hL hx0 (by decide) (by decide) rfl 0 (by decide) (hW kw_58) rfl rfl rfl dX6_addVersion_1 (fun o1 eo1 ko1 => ?_)
  obtain ⟨b2, hb9, h⟩ := h
  have g3 : hK S b2 = 29 := ko1 b2 (eo1.trans hb9)
  replace h := h g3
  refine g_opt (eo1.trans hb9) ?_
  refine g_aload_n C dX6_addVersion_4 rfl 0 rfl ?_
  refine gc_getI C iwx_X6 hL hx0 (by decide) (by decide) rfl 1 (by decide) (hW kw_61) rfl rfl rfl dX6_addVersion_5 ?_
  refine g_aload_n C dX6_addVersion_8 rfl 1 rfl ?_
  obtain ⟨g4, h⟩ := h
  refine gc_aast C hL g3 (by decide) rfl hp0 (by decide) (by decide) rfl g4 dX6_addVersion_9 ?_
  have w5 := wt_putB hw (Int32.toNatClampNeg (hI S 141 x0)) (some p0) (k_ne g3 (by decide)) (fun b hb => by cases hb; rw [show hK S b2 = 29 from g3]; exact hp0)
  refine gc_nS (fun S6 eS6 => ?_)
  replace h := h S6 eS6
  have w7 : wt S6 := by rw [eS6]; exact w5
  have w8 : isL S6 L := by rw [eS6]; exact hL
  have w9 : ext S0 S6 := by rw [eS6]; exact he
  have g10 : hK S6 x0 = 7 := by rw [eS6]; exact hx0
  have g11 : hK S6 p0 = 10 := by rw [eS6]; exact hp0
  refine g_aload_n C dX6_addVersion_10 rfl 0 rfl ?_
  refine g_dup C dX6_addVersion_11 rfl ?_
  refine gc_getI C iwx_X6 w8 g10 (by decide) (by decide) rfl 1 (by decide) (hW kw_61) rfl rfl rfl dX6_addVersion_12 ?_
  refine g_iconst (v := 1) C dX6_addVersion_15 (by decide) ?_
  refine g_iadd C dX6_addVersion_16 ?_
  refine gc_putI C iwx_X6 w8 g10 (by decide) (by decide) rfl 1 (by decide) (hW kw_61) rfl tyX6 tyX6_ok nmX6 rfl rfl rfl rfl rfl dX6_addVersion_17 ?_
  have w12 := wt_putI w7 141 ((hI S6 141 x0) + 1) (k_ne g10 (by decide))
  refine gc_nS (fun S13 eS13 => ?_)
  replace h := h S13 eS13
  have w14 : wt S13 := by rw [eS13]; exact w12
  have w15 : isL S13 L := by rw [eS13]; exact w8
  have w16 : ext S0 S13 := by rw [eS13]; exact w9
  have g17 : hK S13 x0 = 7 := by rw [eS13]; exact g10
  have g18 : hK S13 p0 = 10 := by rw [eS13]; exact g11
  refine g_aload_n C dX6_addVersion_20 rfl 0 rfl ?_
  refine gc_getI C iwx_X6 w15 g17 (by decide) (by decide) rfl 1 (by decide) (hW kw_61) rfl rfl rfl dX6_addVersion_21 ?_
  refine g_iconst (v := 1) C dX6_addVersion_24 (by decide) ?_
  refine g_isub C dX6_addVersion_25 ?_
  exact gc_iret C w14 w15 w16 hr dX6_addVersion_26 h
theorem c_X6_addVersion (l : Launch) (D : va_G) (T : Nat → ClassId) (x0 : Nat) (p0 : Nat) (S : HS) (hx0 : hK S x0 = 7) (hp0 : hK S p0 = 10) (P : Int32 → HS → Prop) (h : wp_X6_addVersion P x0 p0 S) : CMi l yX6_addVersion (ws_X6_addVersion) rm_X6_addVersion D T [.ref x0, .ref p0] S 0 0 P := gc_meti (by decide) rfl rfl (Nat.le_of_ble_eq_true rfl) (fun p e s m args below meth c A L C E hnm hr hw hL => t_X6_addVersion C E   hr P x0 p0 S S L rfl hw hL hx0 hp0 h)
/-- a state's object and rows, in order of their kinds -/
def StO (S : HS) (x : Nat) : Prop := hK S x = 7 ∧ ∃ a b c d, hR S 140 x = some a ∧ hR S 142 x = some b ∧ hR S 144 x = some c ∧ hR S 145 x = some d ∧ hK S a = 29 ∧ hN S a = 6 ∧ hK S b = 27 ∧ hN S b = 10 ∧ hK S c = 22 ∧ hN S c = 5 ∧ hK S d = 22 ∧ hN S d = 5 ∧ c ≠ d
theorem px_KI (S : HS) (i a : Nat) (v : Int32) : hK (putI S i a v) = hK S := Eq.trans rfl rfl
theorem px_KR (S : HS) (i a : Nat) (v : Option Nat) : hK (putR S i a v) = hK S := Eq.trans rfl rfl
theorem px_KA (S : HS) (a n : Nat) (v : Int32) : hK (putA S a n v) = hK S := Eq.trans rfl rfl
theorem px_KB (S : HS) (a n : Nat) (v : Option Nat) : hK (putB S a n v) = hK S := Eq.trans rfl rfl
theorem px_KO (S : HS) (q kd : Nat) (b : Nat) : hK (newO S q kd) b = if b = q then kd else hK S b := Eq.trans rfl rfl
theorem px_KW (S : HS) (q kd n : Nat) (b : Nat) : hK (newA S q kd n) b = if b = q then kd else hK S b := Eq.trans rfl rfl
theorem px_KC (S : HS) (q kd n : Nat) (row : Nat → Int32) (b : Nat) : hK (newC S q kd n row) b = if b = q then kd else hK S b := Eq.trans rfl rfl
theorem px_NI (S : HS) (i a : Nat) (v : Int32) : hN (putI S i a v) = hN S := Eq.trans rfl rfl
theorem px_NR (S : HS) (i a : Nat) (v : Option Nat) : hN (putR S i a v) = hN S := Eq.trans rfl rfl
theorem px_NA (S : HS) (a n : Nat) (v : Int32) : hN (putA S a n v) = hN S := Eq.trans rfl rfl
theorem px_NB (S : HS) (a n : Nat) (v : Option Nat) : hN (putB S a n v) = hN S := Eq.trans rfl rfl
theorem px_NO (S : HS) (q kd : Nat) : hN (newO S q kd) = hN S := Eq.trans rfl rfl
theorem px_NW (S : HS) (q kd n : Nat) (b : Nat) : hN (newA S q kd n) b = if b = q then n else hN S b := Eq.trans rfl rfl
theorem px_NC (S : HS) (q kd n : Nat) (row : Nat → Int32) (b : Nat) : hN (newC S q kd n row) b = if b = q then n else hN S b := Eq.trans rfl rfl
theorem px_II (S : HS) (i a : Nat) (v : Int32) (j b : Nat) : hI (putI S i a v) j b = if j = i ∧ b = a then v else hI S j b := Eq.trans rfl rfl
theorem px_IR (S : HS) (i a : Nat) (v : Option Nat) : hI (putR S i a v) = hI S := Eq.trans rfl rfl
theorem px_IA (S : HS) (a n : Nat) (v : Int32) : hI (putA S a n v) = hI S := Eq.trans rfl rfl
theorem px_IB (S : HS) (a n : Nat) (v : Option Nat) : hI (putB S a n v) = hI S := Eq.trans rfl rfl
theorem px_IO (S : HS) (q kd : Nat) : hI (newO S q kd) = hI S := Eq.trans rfl rfl
theorem px_IW (S : HS) (q kd n : Nat) : hI (newA S q kd n) = hI S := Eq.trans rfl rfl
theorem px_IC (S : HS) (q kd n : Nat) (row : Nat → Int32) : hI (newC S q kd n row) = hI S := Eq.trans rfl rfl
theorem px_RI (S : HS) (i a : Nat) (v : Int32) : hR (putI S i a v) = hR S := Eq.trans rfl rfl
theorem px_RR (S : HS) (i a : Nat) (v : Option Nat) (j b : Nat) : hR (putR S i a v) j b = if j = i ∧ b = a then v else hR S j b := Eq.trans rfl rfl
theorem px_RA (S : HS) (a n : Nat) (v : Int32) : hR (putA S a n v) = hR S := Eq.trans rfl rfl
theorem px_RB (S : HS) (a n : Nat) (v : Option Nat) : hR (putB S a n v) = hR S := Eq.trans rfl rfl
theorem px_RO (S : HS) (q kd : Nat) : hR (newO S q kd) = hR S := Eq.trans rfl rfl
theorem px_RW (S : HS) (q kd n : Nat) : hR (newA S q kd n) = hR S := Eq.trans rfl rfl
theorem px_RC (S : HS) (q kd n : Nat) (row : Nat → Int32) : hR (newC S q kd n row) = hR S := Eq.trans rfl rfl
theorem px_AI (S : HS) (i a : Nat) (v : Int32) : hA (putI S i a v) = hA S := Eq.trans rfl rfl
theorem px_AR (S : HS) (i a : Nat) (v : Option Nat) : hA (putR S i a v) = hA S := Eq.trans rfl rfl
theorem px_AA (S : HS) (a n : Nat) (v : Int32) (b j : Nat) : hA (putA S a n v) b j = if b = a ∧ j = n then v else hA S b j := Eq.trans rfl rfl
theorem px_AB (S : HS) (a n : Nat) (v : Option Nat) : hA (putB S a n v) = hA S := Eq.trans rfl rfl
theorem px_AO (S : HS) (q kd : Nat) : hA (newO S q kd) = hA S := Eq.trans rfl rfl
theorem px_AW (S : HS) (q kd n : Nat) : hA (newA S q kd n) = hA S := Eq.trans rfl rfl
theorem px_AC (S : HS) (q kd n : Nat) (row : Nat → Int32) (b : Nat) : hA (newC S q kd n row) b = if b = q then row else hA S b := Eq.trans rfl rfl
theorem px_BI (S : HS) (i a : Nat) (v : Int32) : hB (putI S i a v) = hB S := Eq.trans rfl rfl
theorem px_BR (S : HS) (i a : Nat) (v : Option Nat) : hB (putR S i a v) = hB S := Eq.trans rfl rfl
theorem px_BA (S : HS) (a n : Nat) (v : Int32) : hB (putA S a n v) = hB S := Eq.trans rfl rfl
theorem px_BB (S : HS) (a n : Nat) (v : Option Nat) (b j : Nat) : hB (putB S a n v) b j = if b = a ∧ j = n then v else hB S b j := Eq.trans rfl rfl
theorem px_BO (S : HS) (q kd : Nat) : hB (newO S q kd) = hB S := Eq.trans rfl rfl
theorem px_BW (S : HS) (q kd n : Nat) : hB (newA S q kd n) = hB S := Eq.trans rfl rfl
theorem px_BC (S : HS) (q kd n : Nat) (row : Nat → Int32) : hB (newC S q kd n row) = hB S := Eq.trans rfl rfl
theorem frM.rf {S : HS} {M : Nat → Prop} : frM S S M := fun _ _ _ => sam.rf
theorem frM.mn {S S1 : HS} {M M1 : Nat → Prop} (h : frM S S1 M) (hm : ∀ b, hK S b ≠ 0 → M b → M1 b) : frM S S1 M1 := fun b hb h0 => h b (fun z => hb (hm b h0 z)) h0
theorem frM.pI {S S1 : HS} {M : Nat → Prop} (h : frM S S1 M) {a : Nat} (ha : M a) (i : Nat) (v : Int32) : frM S (putI S1 i a v) M := fun b hb h0 => by
  obtain ⟨k, n, e, r, c, d⟩ := h b hb h0
  exact ⟨k, n, fun j => by rw [px_II, if_neg (fun z => hb (by rw [z.2]; exact ha))]; exact e j, r, c, d⟩
theorem frM.pR {S S1 : HS} {M : Nat → Prop} (h : frM S S1 M) {a : Nat} (ha : M a) (i : Nat) (v : Option Nat) : frM S (putR S1 i a v) M := fun b hb h0 => by
  obtain ⟨k, n, e, r, c, d⟩ := h b hb h0
  exact ⟨k, n, e, fun j => by rw [px_RR, if_neg (fun z => hb (by rw [z.2]; exact ha))]; exact r j, c, d⟩
theorem frM.pA {S S1 : HS} {M : Nat → Prop} (h : frM S S1 M) {a : Nat} (ha : M a) (i : Nat) (v : Int32) : frM S (putA S1 a i v) M := fun b hb h0 => by
  obtain ⟨k, n, e, r, c, d⟩ := h b hb h0
  exact ⟨k, n, e, r, by rw [putA_o _ _ _ (fun z => hb (by rw [z]; exact ha))]; exact c, d⟩
theorem putB_o (S : HS) {a b : Nat} (n : Nat) (v : Option Nat) (h : b ≠ a) : hB (putB S a n v) b = hB S b := by
  funext j
  rw [px_BB, if_neg (fun z => h z.1)]
theorem frM.pB {S S1 : HS} {M : Nat → Prop} (h : frM S S1 M) {a : Nat} (ha : M a) (i : Nat) (v : Option Nat) : frM S (putB S1 a i v) M := fun b hb h0 => by
  obtain ⟨k, n, e, r, c, d⟩ := h b hb h0
  exact ⟨k, n, e, r, c, by rw [putB_o _ _ _ (fun z => hb (by rw [z]; exact ha))]; exact d⟩
theorem frM.nO {S S1 : HS} {M : Nat → Prop} (h : frM S S1 M) (he : ext S S1) {q : Nat} (hq : hK S1 q = 0) (kd : Nat) : frM S (newO S1 q kd) M := fun b hb h0 => by
  obtain ⟨k, n, e, r, c, d⟩ := h b hb h0
  have hne : b ≠ q := fun z => h0 (by rw [← (he b h0).1, z]; exact hq)
  exact ⟨by rw [px_KO, if_neg hne]; exact k, n, e, r, c, d⟩
theorem frM.nW {S S1 : HS} {M : Nat → Prop} (h : frM S S1 M) (he : ext S S1) {q : Nat} (hq : hK S1 q = 0) (kd n : Nat) : frM S (newA S1 q kd n) M := fun b hb h0 => by
  obtain ⟨k, n, e, r, c, d⟩ := h b hb h0
  have hne : b ≠ q := fun z => h0 (by rw [← (he b h0).1, z]; exact hq)
  exact ⟨by rw [px_KW, if_neg hne]; exact k, by rw [px_NW, if_neg hne]; exact n, e, r, c, d⟩
theorem frM.nC {S S1 : HS} {M : Nat → Prop} (h : frM S S1 M) (he : ext S S1) {q : Nat} (hq : hK S1 q = 0) (kd n : Nat) (row : Nat → Int32) : frM S (newC S1 q kd n row) M := fun b hb h0 => by
  obtain ⟨k, n, e, r, c, d⟩ := h b hb h0
  have hne : b ≠ q := fun z => h0 (by rw [← (he b h0).1, z]; exact hq)
  exact ⟨by rw [px_KC, if_neg hne]; exact k, by rw [px_NC, if_neg hne]; exact n, e, r, by rw [px_AC, if_neg hne]; exact c, d⟩
theorem frM.x {S S1 : HS} {M : Nat → Prop} (h : frM S S1 M) {b : Nat} (hb : ¬ M b) {k : Nat} (hk : hK S b = k) (h0 : k ≠ 0) : sam S S1 b := h b hb (nz_of hk h0)
theorem k_X6_addVersion (l : Launch) (D : va_G) (T : Nat → ClassId) (x0 : Nat) (p0 : Nat) (S : HS) (e0 : Nat) (e1 : Nat) (hx0 : hK S x0 = 7) (hp0 : hK S p0 = 10) (h : hR S 140 x0 = some e0 ∧ hK S e0 = 29 ∧ hN S e0 = 6 ∧ hI S 141 x0 = nI e1 ∧ e1 < 6) : CMi l yX6_addVersion (ws_X6_addVersion) rm_X6_addVersion D T [.ref x0, .ref p0] S 0 0 (fun v S1 => (v = nI e1 ∧ S1 = putI (putB S e0 e1 (some p0)) 141 x0 (nI (e1 + 1)))) := c_X6_addVersion l D T x0 p0 S hx0 hp0 _ <|
  (by
    obtain ⟨hR, h29, h6, h41, hn⟩ := h
    unfold wp_X6_addVersion
    refine ⟨e0, hR, fun _ => ?_⟩
    rw [h41, h6, nz_vp (by omega) (by decide), nI_clamp (n := e1) (by omega)]
    refine ⟨hn, fun S6 e6 S13 e13 => ?_⟩
    have i6 : hI S6 141 x0 = nI e1 := by rw [e6]; exact h41
    rw [i6, nI_1] at e13
    rw [e13, putI_s, sub_k (b := 1) (by omega) |> (show nI (e1 + 1) - 1 = nI (e1 + 1 - 1) from ·), e6]
    exact ⟨rfl, rfl⟩)
abbrev ws_X6_addShipment : List Cond := Cond.code yX6_addShipment cX6_addShipment 2 (some .int) :: W0
abbrev rm_X6_addShipment : Room := ({ frames := 0, cells := 0, slots := 0, locals := 0 } : Room)
def wp_X6_addShipment (P : Int32 → HS → Prop) (x0 : Nat) (p0 : Nat) (S : HS) : Prop := ∃ b2 : Nat, hR S 142 x0 = some b2 ∧ (hK S b2 = 27 → (vp_in (hI S 143 x0) (hN S b2) ∧ (∀ S6 : HS, S6 = putB S b2 (Int32.toNatClampNeg (hI S 143 x0)) (some p0) → (∀ S13 : HS, S13 = putI S6 143 x0 ((hI S6 143 x0) + 1) → (P ((hI S13 143 x0) - 1) S13)))))
set_option maxRecDepth 100000 in
set_option maxHeartbeats 4000000 in
theorem t_X6_addShipment {p : Program} {l : Launch} {e : Env} {s : State} {m : MethodId} {args : Array Value} {below : List Frame} {meth : Method} {c : Code} {D : va_G} {A : Nat → Prop} {T : Nat → ClassId} (C : GC p s m args meth c cX6_addShipment "FreightRater$State" (ws_X6_addShipment) 2 D A (zty T)) (E : GE T A s) (hr : meth.sig.returnType = (some .int)) (P : Int32 → HS → Prop) : ∀ (x0 : Nat) (p0 : Nat) (S0 S : HS) (L : List Nat), S0 = S → wt S → hL S L → (hK S x0 = 7) → (hK S p0 = 6) → wp_X6_addShipment P x0 p0 S → GW p l e { rm_X6_addShipment with cells := 0, slots := 0 } s m args below meth c D A 2 0 0 (MQ below (va_Qi (fun v (u : HS × List Nat) => P v u.1 ∧ CO S0 u) (CE D T A) A) args s 0 0 A) (CW T S L) 0 0 0 [(0, .ref x0), (1, .ref p0)] [] := by
  have hW : ∀ {w : Cond}, w ∈ W0 → w.before args s = true := fun h => C.2.2.2.2.1 _ (List.mem_cons_of_mem _ h)
  intro x0 p0 S0 S L hS0 hw hL hx0 hp0 h
  have he : ext S0 S := by rw [hS0]; exact ext_rf
  unfold wp_X6_addShipment at h
  refine g_aload_n C dX6_addShipment_0 rfl 0 rfl ?_
  refine gc_getR C hw iwx_X6 hL hx0 (by decide) (by decide) rfl 2 (by decide) (hW kw_62) rfl rfl rfl dX6_addShipment_1 (fun o1 eo1 ko1 => ?_)
  obtain ⟨b2, hb9, h⟩ := h
  have g3 : hK S b2 = 27 := ko1 b2 (eo1.trans hb9)
  replace h := h g3
  refine g_opt (eo1.trans hb9) ?_
  refine g_aload_n C dX6_addShipment_4 rfl 0 rfl ?_
  refine gc_getI C iwx_X6 hL hx0 (by decide) (by decide) rfl 3 (by decide) (hW kw_65) rfl rfl rfl dX6_addShipment_5 ?_
  refine g_aload_n C dX6_addShipment_8 rfl 1 rfl ?_
  obtain ⟨g4, h⟩ := h
  refine gc_aast C hL g3 (by decide) rfl hp0 (by decide) (by decide) rfl g4 dX6_addShipment_9 ?_
  have w5 := wt_putB hw (Int32.toNatClampNeg (hI S 143 x0)) (some p0) (k_ne g3 (by decide)) (fun b hb => by cases hb; rw [show hK S b2 = 27 from g3]; exact hp0)
  refine gc_nS (fun S6 eS6 => ?_)
  replace h := h S6 eS6
  have w7 : wt S6 := by rw [eS6]; exact w5
  have w8 : isL S6 L := by rw [eS6]; exact hL
  have w9 : ext S0 S6 := by rw [eS6]; exact he
  have g10 : hK S6 x0 = 7 := by rw [eS6]; exact hx0
  have g11 : hK S6 p0 = 6 := by rw [eS6]; exact hp0
  refine g_aload_n C dX6_addShipment_10 rfl 0 rfl ?_
  refine g_dup C dX6_addShipment_11 rfl ?_
  refine gc_getI C iwx_X6 w8 g10 (by decide) (by decide) rfl 3 (by decide) (hW kw_65) rfl rfl rfl dX6_addShipment_12 ?_
  refine g_iconst (v := 1) C dX6_addShipment_15 (by decide) ?_
  refine g_iadd C dX6_addShipment_16 ?_
  refine gc_putI C iwx_X6 w8 g10 (by decide) (by decide) rfl 3 (by decide) (hW kw_65) rfl tyX6 tyX6_ok nmX6 rfl rfl rfl rfl rfl dX6_addShipment_17 ?_
  have w12 := wt_putI w7 143 ((hI S6 143 x0) + 1) (k_ne g10 (by decide))
  refine gc_nS (fun S13 eS13 => ?_)
  replace h := h S13 eS13
  have w14 : wt S13 := by rw [eS13]; exact w12
  have w15 : isL S13 L := by rw [eS13]; exact w8
  have w16 : ext S0 S13 := by rw [eS13]; exact w9
  have g17 : hK S13 x0 = 7 := by rw [eS13]; exact g10
  have g18 : hK S13 p0 = 6 := by rw [eS13]; exact g11
  refine g_aload_n C dX6_addShipment_20 rfl 0 rfl ?_
  refine gc_getI C iwx_X6 w15 g17 (by decide) (by decide) rfl 3 (by decide) (hW kw_65) rfl rfl rfl dX6_addShipment_21 ?_
  refine g_iconst (v := 1) C dX6_addShipment_24 (by decide) ?_
  refine g_isub C dX6_addShipment_25 ?_
  exact gc_iret C w14 w15 w16 hr dX6_addShipment_26 h
theorem c_X6_addShipment (l : Launch) (D : va_G) (T : Nat → ClassId) (x0 : Nat) (p0 : Nat) (S : HS) (hx0 : hK S x0 = 7) (hp0 : hK S p0 = 6) (P : Int32 → HS → Prop) (h : wp_X6_addShipment P x0 p0 S) : CMi l yX6_addShipment (ws_X6_addShipment) rm_X6_addShipment D T [.ref x0, .ref p0] S 0 0 P := gc_meti (by decide) rfl rfl (Nat.le_of_ble_eq_true rfl) (fun p e s m args below meth c A L C E hnm hr hw hL => t_X6_addShipment C E   hr P x0 p0 S S L rfl hw hL hx0 hp0 h)
theorem k_X6_addShipment (l : Launch) (D : va_G) (T : Nat → ClassId) (x0 : Nat) (p0 : Nat) (S : HS) (e0 : Nat) (e1 : Nat) (hx0 : hK S x0 = 7) (hp0 : hK S p0 = 6) (h : hR S 142 x0 = some e0 ∧ hK S e0 = 27 ∧ hN S e0 = 10 ∧ hI S 143 x0 = nI e1 ∧ e1 < 10) : CMi l yX6_addShipment (ws_X6_addShipment) rm_X6_addShipment D T [.ref x0, .ref p0] S 0 0 (fun v S1 => (v = nI e1 ∧ S1 = putI (putB S e0 e1 (some p0)) 143 x0 (nI (e1 + 1)))) := c_X6_addShipment l D T x0 p0 S hx0 hp0 _ <|
  (by
    obtain ⟨hR, h29, h6, h41, hn⟩ := h
    unfold wp_X6_addShipment
    refine ⟨e0, hR, fun _ => ?_⟩
    rw [h41, h6, nz_vp (by omega) (by decide), nI_clamp (n := e1) (by omega)]
    refine ⟨hn, fun S6 e6 S13 e13 => ?_⟩
    have i6 : hI S6 143 x0 = nI e1 := by rw [e6]; exact h41
    rw [i6, nI_1] at e13
    rw [e13, putI_s, sub_k (b := 1) (by omega) |> (show nI (e1 + 1) - 1 = nI (e1 + 1 - 1) from ·), e6]
    exact ⟨rfl, rfl⟩)
abbrev ws_X6_copyFrom : List Cond := Cond.code yX6_copyFrom cX6_copyFrom 3 none :: W0
abbrev rm_X6_copyFrom : Room := ({ frames := 0, cells := 0, slots := 0, locals := 0 } : Room)
def wb_X6_copyFrom_2 (rec : Nat → Nat → Int32 → HS → Prop) (K26 : Nat → Nat → HS → Prop) (P : HS → Prop) (x0 : Nat) (x1 : Nat) (x2 : Int32) (S : HS) : Prop := (6 ≤ x2 → (K26 x0 x1 S)) ∧ (¬ 6 ≤ x2 → (∃ b3 : Nat, hR S 140 x0 = some b3 ∧ (hK S b3 = 29 → (∃ b6 : Nat, hR S 140 x1 = some b6 ∧ (hK S b6 = 29 → (vp_in x2 (hN S b6) ∧ (∀ o9 : Option Nat, o9 = hB S b6 (Int32.toNatClampNeg x2) → (∀ b, o9 = some b → hK S b = 10) → (vp_in x2 (hN S b3) ∧ (∀ S12 : HS, S12 = putB S b3 (Int32.toNatClampNeg x2) o9 → (∀ v18 : Int32, v18 = x2 + 1 → (rec x0 x1 v18 S12)))))))))))
def wp_X6_copyFrom_2 (K26 : Nat → Nat → HS → Prop) (P : HS → Prop) : Nat → Nat → Nat → Int32 → HS → Prop
  | 0 => fun _ _ _ _ => False
  | n + 1 => fun x0 x1 x2 S => wb_X6_copyFrom_2 (wp_X6_copyFrom_2 K26 P n) K26 P x0 x1 x2 S
set_option maxRecDepth 100000 in
set_option maxHeartbeats 4000000 in
theorem t_X6_copyFrom_2 {p : Program} {l : Launch} {e : Env} {s : State} {m : MethodId} {args : Array Value} {below : List Frame} {meth : Method} {c : Code} {D : va_G} {A : Nat → Prop} {T : Nat → ClassId} (C : GC p s m args meth c cX6_copyFrom "FreightRater$State" (ws_X6_copyFrom) 3 D A (zty T)) (E : GE T A s) (hr : meth.sig.returnType = none) (S0 : HS) (K26 : Nat → Nat → HS → Prop) (P : HS → Prop) (hK26 : ∀ (x0 : Nat) (x1 : Nat) (S : HS) (L : List Nat), wt S → hL S L → ext S0 S → (hK S x0 = 7) → (hK S x1 = 7) → K26 x0 x1 S → GW p l e { rm_X6_copyFrom with cells := 0, slots := 0 } s m args below meth c D A 3 0 0 (MQ below (va_Qv (fun (u : HS × List Nat) => P u.1 ∧ CO S0 u) (CE D T A) A) args s 0 0 A) (CW T S L) 0 0 26 [(0, .ref x0), (1, .ref x1)] []) : ∀ (n : Nat) (x0 : Nat) (x1 : Nat) (x2 : Int32) (S : HS) (L : List Nat), wt S → hL S L → ext S0 S → (hK S x0 = 7) → (hK S x1 = 7) → wp_X6_copyFrom_2 K26 P n x0 x1 x2 S → GW p l e { rm_X6_copyFrom with cells := 0, slots := 0 } s m args below meth c D A 3 0 0 (MQ below (va_Qv (fun (u : HS × List Nat) => P u.1 ∧ CO S0 u) (CE D T A) A) args s 0 0 A) (CW T S L) 0 0 2 [(0, .ref x0), (1, .ref x1), (2, .int x2)] [] := by
  have hW : ∀ {w : Cond}, w ∈ W0 → w.before args s = true := fun h => C.2.2.2.2.1 _ (List.mem_cons_of_mem _ h)
  intro n
  induction n with
  | zero => intro x0 x1 x2 S L hw hL he hx0 hx1 h; exact h.elim
  | succ n ih =>
    intro x0 x1 x2 S L hw hL he hx0 hx1 h
    replace h : wb_X6_copyFrom_2 (wp_X6_copyFrom_2 K26 P n) K26 P x0 x1 x2 S := h
    unfold wb_X6_copyFrom_2 at h
    refine g_iload_n C dX6_copyFrom_2 rfl 2 rfl ?_
    refine g_bipush (v := 6) C dX6_copyFrom_3 (by decide) ?_
    refine g_icmp_ge (tgt := 26) C dX6_copyFrom_5 (by decide) (fun z1 => ?_) (fun z1 => ?_)
    · replace h := h.1 z1
      refine g_locals [0, 1] rfl ?_
      exact hK26 x0 x1 S L hw hL he hx0 hx1 h
    · replace h := h.2 z1
      refine g_aload_n C dX6_copyFrom_8 rfl 0 rfl ?_
      refine gc_getR C hw iwx_X6 hL hx0 (by decide) (by decide) rfl 0 (by decide) (hW kw_58) rfl rfl rfl dX6_copyFrom_9 (fun o2 eo2 ko2 => ?_)
      obtain ⟨b3, hb9, h⟩ := h
      have g4 : hK S b3 = 29 := ko2 b3 (eo2.trans hb9)
      replace h := h g4
      refine g_opt (eo2.trans hb9) ?_
      refine g_iload_n C dX6_copyFrom_12 rfl 2 rfl ?_
      refine g_aload_n C dX6_copyFrom_13 rfl 1 rfl ?_
      refine gc_getR C hw iwx_X6 hL hx1 (by decide) (by decide) rfl 0 (by decide) (hW kw_58) rfl rfl rfl dX6_copyFrom_14 (fun o5 eo5 ko5 => ?_)
      obtain ⟨b6, hb9, h⟩ := h
      have g7 : hK S b6 = 29 := ko5 b6 (eo5.trans hb9)
      replace h := h g7
      refine g_opt (eo5.trans hb9) ?_
      refine g_iload_n C dX6_copyFrom_17 rfl 2 rfl ?_
      obtain ⟨g8, h⟩ := h
      refine gc_aald C hw hL g7 (by decide) rfl g8 dX6_copyFrom_18 (fun o9 eo9 ko9 => ?_)
      replace h := h o9 eo9 ko9
      obtain ⟨g10, h⟩ := h
      refine gc_aastq C hL g4 (by decide) rfl ko9 (by decide) (by decide) rfl g10 dX6_copyFrom_19 ?_
      have w11 := wt_putB hw (Int32.toNatClampNeg x2) o9 (k_ne g4 (by decide)) (fun b hb => by rw [show hK S b3 = 29 from g4]; exact ko9 b hb)
      refine gc_nS (fun S12 eS12 => ?_)
      replace h := h S12 eS12
      have w13 : wt S12 := by rw [eS12]; exact w11
      have w14 : isL S12 L := by rw [eS12]; exact hL
      have w15 : ext S0 S12 := by rw [eS12]; exact he
      have g16 : hK S12 x0 = 7 := by rw [eS12]; exact hx0
      have g17 : hK S12 x1 = 7 := by rw [eS12]; exact hx1
      obtain ⟨v18, ev18⟩ : ∃ y : Int32, y = x2 + 1 := ⟨_, rfl⟩
      replace h := h v18 ev18
      refine g_iinc (v := v18) (lv' := [(2, .int v18), (0, .ref x0), (1, .ref x1)]) C dX6_copyFrom_20 (j := 2) rfl (by rw [ev18]; rfl) (by decide) rfl ?_
      refine g_goto (tgt := 2) C dX6_copyFrom_23 (by decide) ?_
      refine g_locals [1, 2, 0] rfl ?_
      exact ih x0 x1 v18 S12 L w13 w14 w15 g16 g17 h
def wb_X6_copyFrom_28 (rec : Nat → Nat → Int32 → HS → Prop) (K52 : Nat → Nat → HS → Prop) (P : HS → Prop) (x0 : Nat) (x1 : Nat) (x2 : Int32) (S : HS) : Prop := (10 ≤ x2 → (K52 x0 x1 S)) ∧ (¬ 10 ≤ x2 → (∃ b22 : Nat, hR S 142 x0 = some b22 ∧ (hK S b22 = 27 → (∃ b25 : Nat, hR S 142 x1 = some b25 ∧ (hK S b25 = 27 → (vp_in x2 (hN S b25) ∧ (∀ o28 : Option Nat, o28 = hB S b25 (Int32.toNatClampNeg x2) → (∀ b, o28 = some b → hK S b = 6) → (vp_in x2 (hN S b22) ∧ (∀ S31 : HS, S31 = putB S b22 (Int32.toNatClampNeg x2) o28 → (∀ v37 : Int32, v37 = x2 + 1 → (rec x0 x1 v37 S31)))))))))))
def wp_X6_copyFrom_28 (K52 : Nat → Nat → HS → Prop) (P : HS → Prop) : Nat → Nat → Nat → Int32 → HS → Prop
  | 0 => fun _ _ _ _ => False
  | n + 1 => fun x0 x1 x2 S => wb_X6_copyFrom_28 (wp_X6_copyFrom_28 K52 P n) K52 P x0 x1 x2 S
set_option maxRecDepth 100000 in
set_option maxHeartbeats 4000000 in
theorem t_X6_copyFrom_28 {p : Program} {l : Launch} {e : Env} {s : State} {m : MethodId} {args : Array Value} {below : List Frame} {meth : Method} {c : Code} {D : va_G} {A : Nat → Prop} {T : Nat → ClassId} (C : GC p s m args meth c cX6_copyFrom "FreightRater$State" (ws_X6_copyFrom) 3 D A (zty T)) (E : GE T A s) (hr : meth.sig.returnType = none) (S0 : HS) (K52 : Nat → Nat → HS → Prop) (P : HS → Prop) (hK52 : ∀ (x0 : Nat) (x1 : Nat) (S : HS) (L : List Nat), wt S → hL S L → ext S0 S → (hK S x0 = 7) → (hK S x1 = 7) → K52 x0 x1 S → GW p l e { rm_X6_copyFrom with cells := 0, slots := 0 } s m args below meth c D A 3 0 0 (MQ below (va_Qv (fun (u : HS × List Nat) => P u.1 ∧ CO S0 u) (CE D T A) A) args s 0 0 A) (CW T S L) 0 0 52 [(0, .ref x0), (1, .ref x1)] []) : ∀ (n : Nat) (x0 : Nat) (x1 : Nat) (x2 : Int32) (S : HS) (L : List Nat), wt S → hL S L → ext S0 S → (hK S x0 = 7) → (hK S x1 = 7) → wp_X6_copyFrom_28 K52 P n x0 x1 x2 S → GW p l e { rm_X6_copyFrom with cells := 0, slots := 0 } s m args below meth c D A 3 0 0 (MQ below (va_Qv (fun (u : HS × List Nat) => P u.1 ∧ CO S0 u) (CE D T A) A) args s 0 0 A) (CW T S L) 0 0 28 [(0, .ref x0), (1, .ref x1), (2, .int x2)] [] := by
  have hW : ∀ {w : Cond}, w ∈ W0 → w.before args s = true := fun h => C.2.2.2.2.1 _ (List.mem_cons_of_mem _ h)
  intro n
  induction n with
  | zero => intro x0 x1 x2 S L hw hL he hx0 hx1 h; exact h.elim
  | succ n ih =>
    intro x0 x1 x2 S L hw hL he hx0 hx1 h
    replace h : wb_X6_copyFrom_28 (wp_X6_copyFrom_28 K52 P n) K52 P x0 x1 x2 S := h
    unfold wb_X6_copyFrom_28 at h
    refine g_iload_n C dX6_copyFrom_28 rfl 2 rfl ?_
    refine g_bipush (v := 10) C dX6_copyFrom_29 (by decide) ?_
    refine g_icmp_ge (tgt := 52) C dX6_copyFrom_31 (by decide) (fun z20 => ?_) (fun z20 => ?_)
    · replace h := h.1 z20
      refine g_locals [0, 1] rfl ?_
      exact hK52 x0 x1 S L hw hL he hx0 hx1 h
    · replace h := h.2 z20
      refine g_aload_n C dX6_copyFrom_34 rfl 0 rfl ?_
      refine gc_getR C hw iwx_X6 hL hx0 (by decide) (by decide) rfl 2 (by decide) (hW kw_62) rfl rfl rfl dX6_copyFrom_35 (fun o21 eo21 ko21 => ?_)
      obtain ⟨b22, hb9, h⟩ := h
      have g23 : hK S b22 = 27 := ko21 b22 (eo21.trans hb9)
      replace h := h g23
      refine g_opt (eo21.trans hb9) ?_
      refine g_iload_n C dX6_copyFrom_38 rfl 2 rfl ?_
      refine g_aload_n C dX6_copyFrom_39 rfl 1 rfl ?_
      refine gc_getR C hw iwx_X6 hL hx1 (by decide) (by decide) rfl 2 (by decide) (hW kw_62) rfl rfl rfl dX6_copyFrom_40 (fun o24 eo24 ko24 => ?_)
      obtain ⟨b25, hb9, h⟩ := h
      have g26 : hK S b25 = 27 := ko24 b25 (eo24.trans hb9)
      replace h := h g26
      refine g_opt (eo24.trans hb9) ?_
      refine g_iload_n C dX6_copyFrom_43 rfl 2 rfl ?_
      obtain ⟨g27, h⟩ := h
      refine gc_aald C hw hL g26 (by decide) rfl g27 dX6_copyFrom_44 (fun o28 eo28 ko28 => ?_)
      replace h := h o28 eo28 ko28
      obtain ⟨g29, h⟩ := h
      refine gc_aastq C hL g23 (by decide) rfl ko28 (by decide) (by decide) rfl g29 dX6_copyFrom_45 ?_
      have w30 := wt_putB hw (Int32.toNatClampNeg x2) o28 (k_ne g23 (by decide)) (fun b hb => by rw [show hK S b22 = 27 from g23]; exact ko28 b hb)
      refine gc_nS (fun S31 eS31 => ?_)
      replace h := h S31 eS31
      have w32 : wt S31 := by rw [eS31]; exact w30
      have w33 : isL S31 L := by rw [eS31]; exact hL
      have w34 : ext S0 S31 := by rw [eS31]; exact he
      have g35 : hK S31 x0 = 7 := by rw [eS31]; exact hx0
      have g36 : hK S31 x1 = 7 := by rw [eS31]; exact hx1
      obtain ⟨v37, ev37⟩ : ∃ y : Int32, y = x2 + 1 := ⟨_, rfl⟩
      replace h := h v37 ev37
      refine g_iinc (v := v37) (lv' := [(2, .int v37), (0, .ref x0), (1, .ref x1)]) C dX6_copyFrom_46 (j := 2) rfl (by rw [ev37]; rfl) (by decide) rfl ?_
      refine g_goto (tgt := 28) C dX6_copyFrom_49 (by decide) ?_
      refine g_locals [1, 2, 0] rfl ?_
      exact ih x0 x1 v37 S31 L w32 w33 w34 g35 g36 h
def wb_X6_copyFrom_54 (rec : Nat → Nat → Int32 → HS → Prop) (P : HS → Prop) (x0 : Nat) (x1 : Nat) (x2 : Int32) (S : HS) : Prop := (5 ≤ x2 → (∀ S41 : HS, S41 = putI S 141 x0 (hI S 141 x1) → (∀ S48 : HS, S48 = putI S41 143 x0 (hI S41 143 x1) → (∀ S55 : HS, S55 = putI S48 146 x0 (hI S48 146 x1) → (∀ S62 : HS, S62 = putI S55 147 x0 (hI S55 147 x1) → (P S62)))))) ∧ (¬ 5 ≤ x2 → (∃ b69 : Nat, hR S 144 x0 = some b69 ∧ (hK S b69 = 22 → (∃ b72 : Nat, hR S 144 x1 = some b72 ∧ (hK S b72 = 22 → (vp_in x2 (hN S b72) ∧ (vp_in x2 (hN S b69) ∧ (∀ S77 : HS, S77 = putA S b69 (Int32.toNatClampNeg x2) (hA S b72 (Int32.toNatClampNeg x2)) → (∃ b84 : Nat, hR S77 145 x0 = some b84 ∧ (hK S77 b84 = 22 → (∃ b87 : Nat, hR S77 145 x1 = some b87 ∧ (hK S77 b87 = 22 → (vp_in x2 (hN S77 b87) ∧ (vp_in x2 (hN S77 b84) ∧ (∀ S92 : HS, S92 = putA S77 b84 (Int32.toNatClampNeg x2) (hA S77 b87 (Int32.toNatClampNeg x2)) → (∀ v98 : Int32, v98 = x2 + 1 → (rec x0 x1 v98 S92)))))))))))))))))
def wp_X6_copyFrom_54 (P : HS → Prop) : Nat → Nat → Nat → Int32 → HS → Prop
  | 0 => fun _ _ _ _ => False
  | n + 1 => fun x0 x1 x2 S => wb_X6_copyFrom_54 (wp_X6_copyFrom_54  P n)  P x0 x1 x2 S
set_option maxRecDepth 100000 in
set_option maxHeartbeats 4000000 in
theorem t_X6_copyFrom_54 {p : Program} {l : Launch} {e : Env} {s : State} {m : MethodId} {args : Array Value} {below : List Frame} {meth : Method} {c : Code} {D : va_G} {A : Nat → Prop} {T : Nat → ClassId} (C : GC p s m args meth c cX6_copyFrom "FreightRater$State" (ws_X6_copyFrom) 3 D A (zty T)) (E : GE T A s) (hr : meth.sig.returnType = none) (S0 : HS) (P : HS → Prop) : ∀ (n : Nat) (x0 : Nat) (x1 : Nat) (x2 : Int32) (S : HS) (L : List Nat), wt S → hL S L → ext S0 S → (hK S x0 = 7) → (hK S x1 = 7) → wp_X6_copyFrom_54  P n x0 x1 x2 S → GW p l e { rm_X6_copyFrom with cells := 0, slots := 0 } s m args below meth c D A 3 0 0 (MQ below (va_Qv (fun (u : HS × List Nat) => P u.1 ∧ CO S0 u) (CE D T A) A) args s 0 0 A) (CW T S L) 0 0 54 [(0, .ref x0), (1, .ref x1), (2, .int x2)] [] := by
  have hW : ∀ {w : Cond}, w ∈ W0 → w.before args s = true := fun h => C.2.2.2.2.1 _ (List.mem_cons_of_mem _ h)
  intro n
  induction n with
  | zero => intro x0 x1 x2 S L hw hL he hx0 hx1 h; exact h.elim
  | succ n ih =>
    intro x0 x1 x2 S L hw hL he hx0 hx1 h
    replace h : wb_X6_copyFrom_54 (wp_X6_copyFrom_54  P n)  P x0 x1 x2 S := h
    unfold wb_X6_copyFrom_54 at h
    refine g_iload_n C dX6_copyFrom_54 rfl 2 rfl ?_
    refine g_iconst (v := 5) C dX6_copyFrom_55 (by decide) ?_
    refine g_icmp_ge (tgt := 89) C dX6_copyFrom_56 (by decide) (fun z39 => ?_) (fun z39 => ?_)
    · replace h := h.1 z39
      refine g_aload_n C dX6_copyFrom_89 rfl 0 rfl ?_
      refine g_aload_n C dX6_copyFrom_90 rfl 1 rfl ?_
      refine gc_getI C iwx_X6 hL hx1 (by decide) (by decide) rfl 1 (by decide) (hW kw_61) rfl rfl rfl dX6_copyFrom_91 ?_
      refine gc_putI C iwx_X6 hL hx0 (by decide) (by decide) rfl 1 (by decide) (hW kw_61) rfl tyX6 tyX6_ok nmX6 rfl rfl rfl rfl rfl dX6_copyFrom_94 ?_
      have w40 := wt_putI hw 141 (hI S 141 x1) (k_ne hx0 (by decide))
      refine gc_nS (fun S41 eS41 => ?_)
      replace h := h S41 eS41
      have w42 : wt S41 := by rw [eS41]; exact w40
      have w43 : isL S41 L := by rw [eS41]; exact hL
      have w44 : ext S0 S41 := by rw [eS41]; exact he
      have g45 : hK S41 x0 = 7 := by rw [eS41]; exact hx0
      have g46 : hK S41 x1 = 7 := by rw [eS41]; exact hx1
      refine g_aload_n C dX6_copyFrom_97 rfl 0 rfl ?_
      refine g_aload_n C dX6_copyFrom_98 rfl 1 rfl ?_
      refine gc_getI C iwx_X6 w43 g46 (by decide) (by decide) rfl 3 (by decide) (hW kw_65) rfl rfl rfl dX6_copyFrom_99 ?_
      refine gc_putI C iwx_X6 w43 g45 (by decide) (by decide) rfl 3 (by decide) (hW kw_65) rfl tyX6 tyX6_ok nmX6 rfl rfl rfl rfl rfl dX6_copyFrom_102 ?_
      have w47 := wt_putI w42 143 (hI S41 143 x1) (k_ne g45 (by decide))
      refine gc_nS (fun S48 eS48 => ?_)
      replace h := h S48 eS48
      have w49 : wt S48 := by rw [eS48]; exact w47
      have w50 : isL S48 L := by rw [eS48]; exact w43
      have w51 : ext S0 S48 := by rw [eS48]; exact w44
      have g52 : hK S48 x0 = 7 := by rw [eS48]; exact g45
      have g53 : hK S48 x1 = 7 := by rw [eS48]; exact g46
      refine g_aload_n C dX6_copyFrom_105 rfl 0 rfl ?_
      refine g_aload_n C dX6_copyFrom_106 rfl 1 rfl ?_
      refine gc_getI C iwx_X6 w50 g53 (by decide) (by decide) rfl 6 (by decide) (hW kw_70) rfl rfl rfl dX6_copyFrom_107 ?_
      refine gc_putI C iwx_X6 w50 g52 (by decide) (by decide) rfl 6 (by decide) (hW kw_70) rfl tyX6 tyX6_ok nmX6 rfl rfl rfl rfl rfl dX6_copyFrom_110 ?_
      have w54 := wt_putI w49 146 (hI S48 146 x1) (k_ne g52 (by decide))
      refine gc_nS (fun S55 eS55 => ?_)
      replace h := h S55 eS55
      have w56 : wt S55 := by rw [eS55]; exact w54
      have w57 : isL S55 L := by rw [eS55]; exact w50
      have w58 : ext S0 S55 := by rw [eS55]; exact w51
      have g59 : hK S55 x0 = 7 := by rw [eS55]; exact g52
      have g60 : hK S55 x1 = 7 := by rw [eS55]; exact g53
      refine g_aload_n C dX6_copyFrom_113 rfl 0 rfl ?_
      refine g_aload_n C dX6_copyFrom_114 rfl 1 rfl ?_
      refine gc_getI C iwx_X6 w57 g60 (by decide) (by decide) rfl 7 (by decide) (hW kw_72) rfl rfl rfl dX6_copyFrom_115 ?_
      refine gc_putI C iwx_X6 w57 g59 (by decide) (by decide) rfl 7 (by decide) (hW kw_72) rfl tyX6 tyX6_ok nmX6 rfl rfl rfl rfl rfl dX6_copyFrom_118 ?_
      have w61 := wt_putI w56 147 (hI S55 147 x1) (k_ne g59 (by decide))
      refine gc_nS (fun S62 eS62 => ?_)
      replace h := h S62 eS62
      have w63 : wt S62 := by rw [eS62]; exact w61
      have w64 : isL S62 L := by rw [eS62]; exact w57
      have w65 : ext S0 S62 := by rw [eS62]; exact w58
      have g66 : hK S62 x0 = 7 := by rw [eS62]; exact g59
      have g67 : hK S62 x1 = 7 := by rw [eS62]; exact g60
      exact gc_vret C w63 w64 w65 hr dX6_copyFrom_121 h
    · replace h := h.2 z39
      refine g_aload_n C dX6_copyFrom_59 rfl 0 rfl ?_
      refine gc_getR C hw iwx_X6 hL hx0 (by decide) (by decide) rfl 4 (by decide) (hW kw_68) rfl rfl rfl dX6_copyFrom_60 (fun o68 eo68 ko68 => ?_)
      obtain ⟨b69, hb9, h⟩ := h
      have g70 : hK S b69 = 22 := ko68 b69 (eo68.trans hb9)
      replace h := h g70
      refine g_opt (eo68.trans hb9) ?_
      refine g_iload_n C dX6_copyFrom_63 rfl 2 rfl ?_
      refine g_aload_n C dX6_copyFrom_64 rfl 1 rfl ?_
      refine gc_getR C hw iwx_X6 hL hx1 (by decide) (by decide) rfl 4 (by decide) (hW kw_68) rfl rfl rfl dX6_copyFrom_65 (fun o71 eo71 ko71 => ?_)
      obtain ⟨b72, hb9, h⟩ := h
      have g73 : hK S b72 = 22 := ko71 b72 (eo71.trans hb9)
      replace h := h g73
      refine g_opt (eo71.trans hb9) ?_
      refine g_iload_n C dX6_copyFrom_68 rfl 2 rfl ?_
      obtain ⟨g74, h⟩ := h
      refine gc_iald C hL g73 g74 dX6_copyFrom_69 ?_
      obtain ⟨g75, h⟩ := h
      refine gc_iast C hL g70 g75 dX6_copyFrom_70 ?_
      have w76 := wt_putA hw (Int32.toNatClampNeg x2) (hA S b72 (Int32.toNatClampNeg x2)) (k_ne g70 (by decide))
      refine gc_nS (fun S77 eS77 => ?_)
      replace h := h S77 eS77
      have w78 : wt S77 := by rw [eS77]; exact w76
      have w79 : isL S77 L := by rw [eS77]; exact hL
      have w80 : ext S0 S77 := by rw [eS77]; exact he
      have g81 : hK S77 x0 = 7 := by rw [eS77]; exact hx0
      have g82 : hK S77 x1 = 7 := by rw [eS77]; exact hx1
      refine g_aload_n C dX6_copyFrom_71 rfl 0 rfl ?_
      refine gc_getR C w78 iwx_X6 w79 g81 (by decide) (by decide) rfl 5 (by decide) (hW kw_69) rfl rfl rfl dX6_copyFrom_72 (fun o83 eo83 ko83 => ?_)
      obtain ⟨b84, hb9, h⟩ := h
      have g85 : hK S77 b84 = 22 := ko83 b84 (eo83.trans hb9)
      replace h := h g85
      refine g_opt (eo83.trans hb9) ?_
      refine g_iload_n C dX6_copyFrom_75 rfl 2 rfl ?_
      refine g_aload_n C dX6_copyFrom_76 rfl 1 rfl ?_
      refine gc_getR C w78 iwx_X6 w79 g82 (by decide) (by decide) rfl 5 (by decide) (hW kw_69) rfl rfl rfl dX6_copyFrom_77 (fun o86 eo86 ko86 => ?_)
      obtain ⟨b87, hb9, h⟩ := h
      have g88 : hK S77 b87 = 22 := ko86 b87 (eo86.trans hb9)
      replace h := h g88
      refine g_opt (eo86.trans hb9) ?_
      refine g_iload_n C dX6_copyFrom_80 rfl 2 rfl ?_
      obtain ⟨g89, h⟩ := h
      refine gc_iald C w79 g88 g89 dX6_copyFrom_81 ?_
      obtain ⟨g90, h⟩ := h
      refine gc_iast C w79 g85 g90 dX6_copyFrom_82 ?_
      have w91 := wt_putA w78 (Int32.toNatClampNeg x2) (hA S77 b87 (Int32.toNatClampNeg x2)) (k_ne g85 (by decide))
      refine gc_nS (fun S92 eS92 => ?_)
      replace h := h S92 eS92
      have w93 : wt S92 := by rw [eS92]; exact w91
      have w94 : isL S92 L := by rw [eS92]; exact w79
      have w95 : ext S0 S92 := by rw [eS92]; exact w80
      have g96 : hK S92 x0 = 7 := by rw [eS92]; exact g81
      have g97 : hK S92 x1 = 7 := by rw [eS92]; exact g82
      obtain ⟨v98, ev98⟩ : ∃ y : Int32, y = x2 + 1 := ⟨_, rfl⟩
      replace h := h v98 ev98
      refine g_iinc (v := v98) (lv' := [(2, .int v98), (0, .ref x0), (1, .ref x1)]) C dX6_copyFrom_83 (j := 2) rfl (by rw [ev98]; rfl) (by decide) rfl ?_
      refine g_goto (tgt := 54) C dX6_copyFrom_86 (by decide) ?_
      refine g_locals [1, 2, 0] rfl ?_
      exact ih x0 x1 v98 S92 L w93 w94 w95 g96 g97 h
def wp_X6_copyFrom (P : HS → Prop) (x0 : Nat) (p0 : Nat) (S : HS) : Prop := ∃ k101 : Nat, wp_X6_copyFrom_2 (fun (y19_x0 : Nat) (y19_x1 : Nat) (Sy19_ : HS) => (hK Sy19_ y19_x0 = 7) → (hK Sy19_ y19_x1 = 7) → (∃ k100 : Nat, wp_X6_copyFrom_28 (fun (y38_x0 : Nat) (y38_x1 : Nat) (Sy38_ : HS) => (hK Sy38_ y38_x0 = 7) → (hK Sy38_ y38_x1 = 7) → (∃ k99 : Nat, wp_X6_copyFrom_54  P k99 y38_x0 y38_x1 0 Sy38_)) P k100 y19_x0 y19_x1 0 Sy19_)) P k101 x0 p0 0 S
set_option maxRecDepth 100000 in
set_option maxHeartbeats 4000000 in
theorem t_X6_copyFrom {p : Program} {l : Launch} {e : Env} {s : State} {m : MethodId} {args : Array Value} {below : List Frame} {meth : Method} {c : Code} {D : va_G} {A : Nat → Prop} {T : Nat → ClassId} (C : GC p s m args meth c cX6_copyFrom "FreightRater$State" (ws_X6_copyFrom) 3 D A (zty T)) (E : GE T A s) (hr : meth.sig.returnType = none) (P : HS → Prop) : ∀ (x0 : Nat) (p0 : Nat) (S0 S : HS) (L : List Nat), S0 = S → wt S → hL S L → (hK S x0 = 7) → (hK S p0 = 7) → wp_X6_copyFrom P x0 p0 S → GW p l e { rm_X6_copyFrom with cells := 0, slots := 0 } s m args below meth c D A 3 0 0 (MQ below (va_Qv (fun (u : HS × List Nat) => P u.1 ∧ CO S0 u) (CE D T A) A) args s 0 0 A) (CW T S L) 0 0 0 [(0, .ref x0), (1, .ref p0)] [] := by
  have hW : ∀ {w : Cond}, w ∈ W0 → w.before args s = true := fun h => C.2.2.2.2.1 _ (List.mem_cons_of_mem _ h)
  intro x0 p0 S0 S L hS0 hw hL hx0 hp0 h
  have he : ext S0 S := by rw [hS0]; exact ext_rf
  unfold wp_X6_copyFrom at h
  refine g_iconst (v := 0) C dX6_copyFrom_0 (by decide) ?_
  refine g_istore_n (lv' := [(2, .int 0), (0, .ref x0), (1, .ref p0)]) C dX6_copyFrom_1 rfl (by decide) rfl ?_
  refine g_locals [1, 2, 0] rfl ?_
  obtain ⟨k101, h⟩ := h
  refine t_X6_copyFrom_2 C E hr S0 _ P ?_ k101 x0 p0 0 S L hw hL he hx0 hp0 h
  · intro y19_x0 y19_x1 Sy19_ Ly19_ hwy19_ hLy19_ hey19_ hy19_x0 hy19_x1 h
    replace h := h hy19_x0 hy19_x1
    refine g_iconst (v := 0) C dX6_copyFrom_26 (by decide) ?_
    refine g_istore_n (lv' := [(2, .int 0), (0, .ref y19_x0), (1, .ref y19_x1)]) C dX6_copyFrom_27 rfl (by decide) rfl ?_
    refine g_locals [1, 2, 0] rfl ?_
    obtain ⟨k100, h⟩ := h
    refine t_X6_copyFrom_28 C E hr S0 _ P ?_ k100 y19_x0 y19_x1 0 Sy19_ Ly19_ hwy19_ hLy19_ hey19_ hy19_x0 hy19_x1 h
    · intro y38_x0 y38_x1 Sy38_ Ly38_ hwy38_ hLy38_ hey38_ hy38_x0 hy38_x1 h
      replace h := h hy38_x0 hy38_x1
      refine g_iconst (v := 0) C dX6_copyFrom_52 (by decide) ?_
      refine g_istore_n (lv' := [(2, .int 0), (0, .ref y38_x0), (1, .ref y38_x1)]) C dX6_copyFrom_53 rfl (by decide) rfl ?_
      refine g_locals [1, 2, 0] rfl ?_
      obtain ⟨k99, h⟩ := h
      refine t_X6_copyFrom_54 C E hr S0  P  k99 y38_x0 y38_x1 0 Sy38_ Ly38_ hwy38_ hLy38_ hey38_ hy38_x0 hy38_x1 h
theorem c_X6_copyFrom (l : Launch) (D : va_G) (T : Nat → ClassId) (x0 : Nat) (p0 : Nat) (S : HS) (hx0 : hK S x0 = 7) (hp0 : hK S p0 = 7) (P : HS → Prop) (h : wp_X6_copyFrom P x0 p0 S) : CMv l yX6_copyFrom (ws_X6_copyFrom) rm_X6_copyFrom D T [.ref x0, .ref p0] S 0 0 P := gc_metv (by decide) rfl rfl (Nat.le_of_ble_eq_true rfl) (fun p e s m args below meth c A L C E hnm hr hw hL => t_X6_copyFrom C E   hr P x0 p0 S S L rfl hw hL hx0 hp0 h)
theorem rl_cf3 {P : HS → Prop} {S0 : HS} {x y : Nat} {c d cy dy : Nat} (hc : hR S0 144 x = some c) (hd : hR S0 145 x = some d) (hcy : hR S0 144 y = some cy) (hdy : hR S0 145 y = some dy) (hnc : hN S0 c = 5) (hnd : hN S0 d = 5) (hny : hN S0 cy = 5) (hnz : hN S0 dy = 5) (hne : c ≠ d) (n1 : cy ≠ c) (n2 : cy ≠ d) (n3 : dy ≠ c) (n4 : dy ≠ d) (hxy : x ≠ y) {M : Nat → Prop} (mx : M x) (mc : M c) (md : M d) {SS : HS} (hP : ∀ S1, frM SS S1 M → hK S1 = hK S0 ∧ hN S1 = hN S0 ∧ hR S1 = hR S0 ∧ hB S1 = hB S0 → hI S1 141 x = hI S0 141 y ∧ hI S1 143 x = hI S0 143 y ∧ hI S1 146 x = hI S0 146 y ∧ hI S1 147 x = hI S0 147 y → (∀ j, j < 5 → hA S1 c j = hA S0 cy j ∧ hA S1 d j = hA S0 dy j) → P S1) : ∀ (k i fuel : Nat) (S : HS), i + k = 5 → k < fuel → frM SS S M → hK S = hK S0 ∧ hN S = hN S0 ∧ hR S = hR S0 ∧ hB S = hB S0 ∧ hI S = hI S0 ∧ hA S cy = hA S0 cy ∧ hA S dy = hA S0 dy → (∀ j, j < i → hA S c j = hA S0 cy j ∧ hA S d j = hA S0 dy j) → wp_X6_copyFrom_54 P fuel x y (nI i) S := by
  intro k
  induction k with
  | zero =>
    intro i fuel S hi hf hF he hh
    obtain ⟨ek, en, er, eb, ei, _, _⟩ := he
    obtain ⟨f, rfl⟩ : ∃ f, fuel = f + 1 := ⟨fuel - 1, by omega⟩; rw [wp_X6_copyFrom_54]; unfold wb_X6_copyFrom_54; dsimp only
    rw [show (5 : Int32) = nI 5 from rfl, nI_leI (by omega) (by omega)]
    refine ⟨fun _ S41 e41 S48 e48 S55 e55 S62 e62 => ?_, fun z9 => absurd (by omega) z9⟩
    have hyx : y ≠ x := fun z => hxy z.symm
    refine hP S62 ?_ ?_ ?_ ?_
    · rw [e62, e55, e48, e41]; exact (((hF.pI mx _ _).pI mx _ _).pI mx _ _).pI mx _ _
    · rw [e62, e55, e48, e41]; exact ⟨ek, en, er, eb⟩
    · rw [e62, e55, e48, e41, ← ei]
      simp only [px_II, hyx, Nat.reduceEqDiff, and_true, and_false, if_true, if_false, true_and, false_and]
    · intro j hj
      rw [e62, e55, e48, e41]
      exact hh j (by omega)
  | succ k ih =>
    intro i fuel S hi hf hF he hh
    obtain ⟨ek, en, er, eb, ei, ec, ed⟩ := he
    obtain ⟨f, rfl⟩ : ∃ f, fuel = f + 1 := ⟨fuel - 1, by omega⟩; rw [wp_X6_copyFrom_54]; unfold wb_X6_copyFrom_54; dsimp only
    rw [show (5 : Int32) = nI 5 from rfl, nI_leI (by omega) (by omega), nI_1]
    refine ⟨fun z9 => absurd z9 (by omega), fun _ => ⟨c, by rw [er]; exact hc, fun _ => ⟨cy, by rw [er]; exact hcy, fun _ => ?_⟩⟩⟩
    rw [en, hny, hnc, nz_vp (by omega) (by decide), nI_clamp (n := i) (by omega)]
    refine ⟨by omega, by omega, fun S77 e77 => ⟨d, by rw [e77]; exact (congrFun (congrFun er _) _).trans hd, fun _ => ⟨dy, by rw [e77]; exact (congrFun (congrFun er _) _).trans hdy, fun _ => ?_⟩⟩⟩
    rw [show hN S77 = hN S0 by rw [e77]; exact en, hnz, hnd, nz_vp (by omega) (by decide)]
    refine ⟨by omega, by omega, fun S92 e92 v98 e98 => ?_⟩
    subst e98
    have a1 : hA S92 c = hA S77 c := by rw [e92]; exact putA_o _ _ _ hne
    have a2 : hA S92 cy = hA S0 cy := by rw [e92, putA_o _ _ _ n2, e77, putA_o _ _ _ n1]; exact ec
    have a3 : hA S77 dy = hA S0 dy := by rw [e77, putA_o _ _ _ n3]; exact ed
    have a4 : hA S92 dy = hA S0 dy := by rw [e92, putA_o _ _ _ n4]; exact a3
    have a5 : hA S77 d = hA S d := by rw [e77]; exact putA_o _ _ _ (fun z => hne z.symm)
    refine ih (i + 1) f S92 (by omega) (by omega) (by rw [e92, e77]; exact (hF.pA mc _ _).pA md _ _) ⟨by rw [e92, e77]; exact ek, by rw [e92, e77]; exact en, by rw [e92, e77]; exact er, by rw [e92, e77]; exact eb, by rw [e92, e77]; exact ei, a2, a4⟩ (fun j hj => ?_)
    by_cases g : j = i
    · subst g
      refine ⟨by rw [a1, e77, putA_s, ec], by rw [e92, putA_s, a3]⟩
    · refine ⟨by rw [a1, e77, putA_n _ _ g]; exact (hh j (by omega)).1, by rw [e92, putA_n _ _ g, a5]; exact (hh j (by omega)).2⟩
theorem rl_cf1 {K : Nat → Nat → HS → Prop} {P : HS → Prop} {S0 : HS} {x y a ay : Nat} (ha : hR S0 140 x = some a) (hay : hR S0 140 y = some ay) (hna : hN S0 a = 6) (hny : hN S0 ay = 6) (hne : ay ≠ a) {M : Nat → Prop} (ma : M a) (hK0 : ∀ S1, frM S0 S1 M → hK S1 = hK S0 ∧ hN S1 = hN S0 ∧ hR S1 = hR S0 ∧ hI S1 = hI S0 ∧ hA S1 = hA S0 → (∀ b, b ≠ a → hB S1 b = hB S0 b) → (∀ j, j < 6 → hB S1 a j = hB S0 ay j) → K x y S1) : ∀ (k i fuel : Nat) (S : HS), i + k = 6 → k < fuel → frM S0 S M → hK S = hK S0 ∧ hN S = hN S0 ∧ hR S = hR S0 ∧ hI S = hI S0 ∧ hA S = hA S0 → (∀ b, b ≠ a → hB S b = hB S0 b) → (∀ j, j < i → hB S a j = hB S0 ay j) → wp_X6_copyFrom_2 K P fuel x y (nI i) S := by
  intro k
  induction k with
  | zero =>
    intro i fuel S hi hf hF he hb hh
    obtain ⟨f, rfl⟩ : ∃ f, fuel = f + 1 := ⟨fuel - 1, by omega⟩; rw [wp_X6_copyFrom_2]; unfold wb_X6_copyFrom_2; dsimp only
    rw [show (6 : Int32) = nI 6 from rfl, nI_leI (by omega) (by omega)]
    exact ⟨fun _ => hK0 S hF he hb (fun j hj => hh j (by omega)), fun z9 => absurd (by omega) z9⟩
  | succ k ih =>
    intro i fuel S hi hf hF he hb hh
    have he0 := he
    obtain ⟨ek, en, er, ei, ea⟩ := he
    obtain ⟨f, rfl⟩ : ∃ f, fuel = f + 1 := ⟨fuel - 1, by omega⟩; rw [wp_X6_copyFrom_2]; unfold wb_X6_copyFrom_2; dsimp only
    rw [show (6 : Int32) = nI 6 from rfl, nI_leI (by omega) (by omega), nI_1]
    refine ⟨fun z9 => absurd z9 (by omega), fun _ => ⟨a, by rw [er]; exact ha, fun _ => ⟨ay, by rw [er]; exact hay, fun _ => ?_⟩⟩⟩
    rw [en, hny, hna, nz_vp (by omega) (by decide), nI_clamp (n := i) (by omega)]
    refine ⟨by omega, fun o9 e9 _ => ⟨by omega, fun S12 e12 v18 e18 => ?_⟩⟩
    subst e18
    refine ih (i + 1) f S12 (by omega) (by omega) (by rw [e12]; exact hF.pB ma _ _) (by rw [e12]; exact he0) (fun b hb9 => by rw [e12, putB_o _ _ _ hb9]; exact hb b hb9) (fun j hj => ?_)
    rw [e12, px_BB]
    by_cases g : j = i
    · rw [if_pos ⟨rfl, g⟩, e9, g, hb ay hne]
    · rw [if_neg (fun z => g z.2)]; exact hh j (by omega)
theorem rl_cf2 {K : Nat → Nat → HS → Prop} {P : HS → Prop} {S0 SS : HS} {x y a ay : Nat} (ha : hR S0 142 x = some a) (hay : hR S0 142 y = some ay) (hna : hN S0 a = 10) (hny : hN S0 ay = 10) (hne : ay ≠ a) {M : Nat → Prop} (ma : M a) (hK0 : ∀ S1, frM SS S1 M → hK S1 = hK S0 ∧ hN S1 = hN S0 ∧ hR S1 = hR S0 ∧ hI S1 = hI S0 ∧ hA S1 = hA S0 → (∀ b, b ≠ a → hB S1 b = hB S0 b) → (∀ j, j < 10 → hB S1 a j = hB S0 ay j) → K x y S1) : ∀ (k i fuel : Nat) (S : HS), i + k = 10 → k < fuel → frM SS S M → hK S = hK S0 ∧ hN S = hN S0 ∧ hR S = hR S0 ∧ hI S = hI S0 ∧ hA S = hA S0 → (∀ b, b ≠ a → hB S b = hB S0 b) → (∀ j, j < i → hB S a j = hB S0 ay j) → wp_X6_copyFrom_28 K P fuel x y (nI i) S := by
  intro k
  induction k with
  | zero =>
    intro i fuel S hi hf hF he hb hh
    obtain ⟨f, rfl⟩ : ∃ f, fuel = f + 1 := ⟨fuel - 1, by omega⟩; rw [wp_X6_copyFrom_28]; unfold wb_X6_copyFrom_28; dsimp only
    rw [show (10 : Int32) = nI 10 from rfl, nI_leI (by omega) (by omega)]
    exact ⟨fun _ => hK0 S hF he hb (fun j hj => hh j (by omega)), fun z9 => absurd (by omega) z9⟩
  | succ k ih =>
    intro i fuel S hi hf hF he hb hh
    have he0 := he
    obtain ⟨ek, en, er, ei, ea⟩ := he
    obtain ⟨f, rfl⟩ : ∃ f, fuel = f + 1 := ⟨fuel - 1, by omega⟩; rw [wp_X6_copyFrom_28]; unfold wb_X6_copyFrom_28; dsimp only
    rw [show (10 : Int32) = nI 10 from rfl, nI_leI (by omega) (by omega), nI_1]
    refine ⟨fun z9 => absurd z9 (by omega), fun _ => ⟨a, by rw [er]; exact ha, fun _ => ⟨ay, by rw [er]; exact hay, fun _ => ?_⟩⟩⟩
    rw [en, hny, hna, nz_vp (by omega) (by decide), nI_clamp (n := i) (by omega)]
    refine ⟨by omega, fun o9 e9 _ => ⟨by omega, fun S12 e12 v18 e18 => ?_⟩⟩
    subst e18
    refine ih (i + 1) f S12 (by omega) (by omega) (by rw [e12]; exact hF.pB ma _ _) (by rw [e12]; exact he0) (fun b hb9 => by rw [e12, putB_o _ _ _ hb9]; exact hb b hb9) (fun j hj => ?_)
    rw [e12, px_BB]
    by_cases g : j = i
    · rw [if_pos ⟨rfl, g⟩, e9, g, hb ay hne]
    · rw [if_neg (fun z => g z.2)]; exact hh j (by omega)
theorem k_X6_copyFrom (l : Launch) (D : va_G) (T : Nat → ClassId) (x0 : Nat) (p0 : Nat) (S : HS) (e0 : (Nat → Prop)) (e1 : Nat → Int32) (hx0 : hK S x0 = 7) (hp0 : hK S p0 = 7) (h : StO S x0 ∧ WF e1 ∧ RelSt S e0 p0 e1 ∧ (∀ b, stA S x0 b → e0 b) ∧ (∀ b, stA S x0 b → ¬ stA S p0 b)) : CMv l yX6_copyFrom (ws_X6_copyFrom) rm_X6_copyFrom D T [.ref x0, .ref p0] S 0 0 (fun S1 => (frM S S1 (stA S x0) ∧ hK S1 = hK S ∧ hN S1 = hN S ∧ hR S1 = hR S ∧ RelSt S1 e0 x0 e1)) := c_X6_copyFrom l D T x0 p0 S hx0 hp0 _ <|
  (by
    obtain ⟨hx, hw, hr, hM, hs⟩ := h
    have hr0 := hr
    obtain ⟨h7, a, b, c, d, ra, rb, rc, rd, ka, na, kb, nb, kc, nc, kd9, nd, hcd⟩ := hx
    obtain ⟨⟨h1, h2, h3, h4, h5⟩, ⟨ay, r1, k1, n1, hb1⟩, ⟨b_y, r2, k2, n2, hc1⟩, ⟨cy, dy, r3, r4, k3, k4, n3, n4, ht⟩⟩ := hr
    have ma : stA S x0 a := Or.inr (Or.inl ra)
    have mb : stA S x0 b := Or.inr (Or.inr (Or.inl rb))
    have mc9 : stA S x0 c := Or.inr (Or.inr (Or.inr (Or.inl rc)))
    have md : stA S x0 d := Or.inr (Or.inr (Or.inr (Or.inr rd)))
    have mx : stA S x0 x0 := Or.inl rfl
    have ya : stA S p0 ay := Or.inr (Or.inl r1)
    have yb : stA S p0 b_y := Or.inr (Or.inr (Or.inl r2))
    have yc : stA S p0 cy := Or.inr (Or.inr (Or.inr (Or.inl r3)))
    have yd : stA S p0 dy := Or.inr (Or.inr (Or.inr (Or.inr r4)))
    have hn : ∀ {u w : Nat}, stA S x0 u → stA S p0 w → w ≠ u := fun hu hv z => hs _ hu (by rw [← z]; exact hv)
    have hxy : x0 ≠ p0 := fun z => hs x0 mx (Or.inl z)
    unfold wp_X6_copyFrom
    refine ⟨20, rl_cf1 (M := stA S x0) ra r1 na n1 (hn ma ya) ma (fun S1 f1 e1 b1 g1 _ _ => ?_) 6 0 20 S (by omega) (by omega) frM.rf ⟨rfl, rfl, rfl, rfl, rfl⟩ (fun _ _ => rfl) (fun j hj => absurd hj (Nat.not_lt_zero j))⟩
    obtain ⟨q1, q2, q3, q4, q5⟩ := e1
    refine ⟨20, rl_cf2 (S0 := S1) (SS := S) (M := stA S x0) (by rw [q3]; exact rb) (by rw [q3]; exact r2) (by rw [q2]; exact nb) (by rw [q2]; exact n2) (hn mb yb) mb (fun S2 f2 e2 b2 g2 _ _ => ?_) 10 0 20 S1 (by omega) (by omega) f1 ⟨rfl, rfl, rfl, rfl, rfl⟩ (fun _ _ => rfl) (fun j hj => absurd hj (Nat.not_lt_zero j))⟩
    obtain ⟨p1, p2, p3, p4, p5⟩ := e2
    have R2 : hR S2 = hR S := p3.trans q3
    have N2 : hN S2 = hN S := p2.trans q2
    refine ⟨20, rl_cf3 (S0 := S2) (SS := S) (M := stA S x0) (by rw [R2]; exact rc) (by rw [R2]; exact rd) (by rw [R2]; exact r3) (by rw [R2]; exact r4) (by rw [N2]; exact nc) (by rw [N2]; exact nd) (by rw [N2]; exact n3) (by rw [N2]; exact n4) hcd (hn mc9 yc) (hn md yc) (hn mc9 yd) (hn md yd) hxy mx mc9 md (fun S3 f3 e3 i3 g3 => ?_) 5 0 20 S2 (by omega) (by omega) f2 ⟨rfl, rfl, rfl, rfl, rfl, rfl, rfl⟩ (fun j hj => absurd hj (Nat.not_lt_zero j))⟩
    obtain ⟨u1, u2, u3, u4⟩ := e3
    have K3 : hK S3 = hK S := u1.trans (p1.trans q1)
    have N3 : hN S3 = hN S := u2.trans N2
    have R3 : hR S3 = hR S := u3.trans R2
    have I2 : hI S2 = hI S := p4.trans q4
    have A2 : hA S2 = hA S := p5.trans q5
    rw [I2] at i3
    have fm : frM S S3 e0 := f3.mn (fun b9 _ hb9 => hM b9 hb9)
    have hab : b ≠ a := fun z => by rw [z, ka] at kb; exact absurd kb (by decide)
    have hbya : b_y ≠ a := hn ma yb
    refine ⟨f3, K3, N3, R3, ⟨by rw [K3]; exact h7, by rw [i3.1]; exact h2, by rw [i3.2.1]; exact h3, by rw [i3.2.2.1]; exact h4, by rw [i3.2.2.2]; exact h5⟩, ⟨a, by rw [R3]; exact ra, by rw [K3]; exact ka, by rw [N3]; exact na, fun v hv => ?_⟩, ⟨b, by rw [R3]; exact rb, by rw [K3]; exact kb, by rw [N3]; exact nb, fun s hs9 => ?_⟩, ⟨c, d, by rw [R3]; exact rc, by rw [R3]; exact rd, by rw [K3]; exact kc, by rw [K3]; exact kd9, by rw [N3]; exact nc, by rw [N3]; exact nd, fun i hi => ?_⟩⟩
    · obtain ⟨n, hn6, en⟩ := hw.1
      have hv6 : v < 6 := by
        rw [en, show iv (nI n) = n from nI_clamp (by omega)] at hv
        omega
      obtain ⟨y, y1, y2⟩ := hb1 v hv
      exact ⟨y, by rw [u4, b2 a (fun z => hab z.symm), g1 v hv6]; exact y1, y2.fm fm⟩
    · obtain ⟨n, hn6, en⟩ := hw.2.1
      have hv6 : s < 10 := by
        rw [en, show iv (nI n) = n from nI_clamp (by omega)] at hs9
        omega
      obtain ⟨y, y1, y2⟩ := hc1 s hs9
      exact ⟨y, by rw [u4, g2 s hv6, b1 b_y hbya]; exact y1, y2.fm fm⟩
    · obtain ⟨n, hn6, en⟩ := hw.2.2.1
      have hv6 : i < 5 := by
        rw [en, show iv (nI n) = n from nI_clamp (by omega)] at hi
        omega
      obtain ⟨w1, w2⟩ := g3 i hv6
      rw [w1, w2, A2]
      exact ht i hi)

end S_C5B
