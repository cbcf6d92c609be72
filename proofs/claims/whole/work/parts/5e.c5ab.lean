section S_C5AB
abbrev ws_X1_search : List Cond := Cond.code yX1_search cX1_search 1 (some .int) :: W0
abbrev rm_X1_search : Room := ({ frames := 10, cells := 0, slots := 0, locals := 325 } : Room)
def wp_X1_search (P : Int32 → HS → Prop) (x0 : Nat) (S : HS) : Prop := ∀ S2 : HS, S2 = putI S 47 x0 0 → (∃ (m7 : Nat → Nat) (m8 : List Nat) (m9 : Nat) (m10 : Nat), ((PlO S2 x0 m7 ∧ PlP S2 x0 m7 m8 ∧ hI S2 40 x0 = nI m10 ∧ m10 ≤ 6 ∧ 0 = nI m9 ∧ m9 ≤ m10 ∧ m10 < m9 + 7 ∧ m8.length ≤ m9 ∧ ∀ i, i < m8.length → gl m8 i < 2 ^ m9) ∧ (∀ (v17 : Int32) (S12 : HS), ext S2 S12 → (frP S2 S12 x0 m7 [47] [5] ∧ PlP S12 x0 m7 m8 ∧ v17 = trF (hA S2 (m7 1)) (m10 - m9) m9 m8) → (P v17 S12))))
set_option maxRecDepth 100000 in
set_option maxHeartbeats 4000000 in
theorem t_X1_search {p : Program} {l : Launch} {e : Env} {s : State} {m : MethodId} {args : Array Value} {below : List Frame} {meth : Method} {c : Code} {D : va_G} {A : Nat → Prop} {T : Nat → ClassId} (C : GC p s m args meth c cX1_search "FreightRater$Plan" (ws_X1_search) 1 D A (zty T)) (E : GE T A s) (hr : meth.sig.returnType = (some .int)) (P : Int32 → HS → Prop) : ∀ (x0 : Nat) (S0 S : HS) (L : List Nat), S0 = S → wt S → hL S L → (hK S x0 = 2) → wp_X1_search P x0 S → GW p l e { rm_X1_search with cells := 0, slots := 0 } s m args below meth c D A 1 0 0 (MQ below (va_Qi (fun v (u : HS × List Nat) => P v u.1 ∧ CO S0 u) (CE D T A) A) args s 0 0 A) (CW T S L) 0 0 0 [(0, .ref x0)] [] := by
  have hW : ∀ {w : Cond}, w ∈ W0 → w.before args s = true := fun h => C.2.2.2.2.1 _ (List.mem_cons_of_mem _ h)
  intro x0 S0 S L hS0 hw hL hx0 h
  have he : ext S0 S := by rw [hS0]; exact ext_rf
  unfold wp_X1_search at h
  refine g_aload_n C dX1_search_0 rfl 0 rfl ?_
  refine g_iconst (v := 0) C dX1_search_1 (by decide) ?_
  refine gc_putI C iwx_X1 hL hx0 (by decide) (by decide) rfl 7 (by decide) (hW kw_223) rfl tyX1 tyX1_ok nmX1 rfl rfl rfl rfl rfl dX1_search_2 ?_
  have w1 := wt_putI hw 47 0 (k_ne hx0 (by decide))
  refine gc_nS (fun S2 eS2 => ?_)
  replace h := h S2 eS2
  have w3 : wt S2 := by rw [eS2]; exact w1
  have w4 : isL S2 L := by rw [eS2]; exact hL
  have w5 : ext S0 S2 := by rw [eS2]; exact he
  have g6 : hK S2 x0 = 2 := by rw [eS2]; exact hx0
  refine g_aload_n C dX1_search_5 rfl 0 rfl ?_
  refine g_iconst (v := 0) C dX1_search_6 (by decide) ?_
  obtain ⟨m7, m8, m9, m10, h⟩ := h
  obtain ⟨g11, h⟩ := h
  refine gc_calliS (host := "") C E w3 w4 [.ref x0, .int 0] rfl (k_X1_tryFrom 7 l D T x0 0 S2 m7 m8 m9 m10 g6 g11) (w0_S 2 C.2.2.2.2.1 kw_1391 kw_1392 kw_8 kw_1393 rfl rfl (by decide +kernel) ⟨Nat.le_of_ble_eq_true rfl, Nat.le_of_ble_eq_true rfl⟩) rfl (Nat.le_of_ble_eq_true rfl) (Nat.le_refl _) (Nat.le_refl _) (Nat.zero_le _) (Nat.zero_le _) dX1_search_7 (fun v17 S12 L13 e14 w15 w16 hp => ?_)
  replace h := h v17 S12 e14 hp
  have g18 := ext_K e14 g6 (by decide)
  have w19 := ext_tr w5 e14
  exact gc_iret C w15 w16 w19 hr dX1_search_10 h
theorem c_X1_search (l : Launch) (D : va_G) (T : Nat → ClassId) (x0 : Nat) (S : HS) (hx0 : hK S x0 = 2) (P : Int32 → HS → Prop) (h : wp_X1_search P x0 S) : CMi l yX1_search (ws_X1_search) rm_X1_search D T [.ref x0] S 0 0 P := gc_meti (by decide) rfl rfl (Nat.le_of_ble_eq_true rfl) (fun p e s m args below meth c A L C E hnm hr hw hL => t_X1_search C E   hr P x0 S S L rfl hw hL hx0 h)
theorem k_X1_search (l : Launch) (D : va_G) (T : Nat → ClassId) (x0 : Nat) (S : HS) (e0 : Nat → Nat) (e1 : Nat) (hx0 : hK S x0 = 2) (h : PlO S x0 e0 ∧ hI S 40 x0 = nI e1 ∧ e1 ≤ 6) : CMi l yX1_search (ws_X1_search) rm_X1_search D T [.ref x0] S 0 0 (fun v S1 => (frP S S1 x0 e0 [47] [5] ∧ v = trF (hA S (e0 1)) e1 0 [])) := c_X1_search l D T x0 S hx0 _ <|
  (by
    obtain ⟨hO, h40, hn⟩ := h
    unfold wp_X1_search
    intro S2 e2
    have F2 : frP S S2 x0 e0 [47] [5] := by rw [e2]; exact frP.rf.I 47 _ (by decide)
    refine ⟨e0, [], 0, e1, ⟨hO.fr F2, ⟨by rw [e2]; exact putI_s _ _ _ _, by decide, fun i hi => absurd hi (Nat.not_lt_zero i)⟩, by rw [e2]; exact h40, hn, rfl, by omega, by omega, by decide, fun i hi => absurd hi (Nat.not_lt_zero i)⟩, fun v S1 _ h1 => ?_⟩
    obtain ⟨f1, _, ev⟩ := h1
    refine ⟨F2.tr f1 (fun _ h => h) (fun _ h => h) (fun _ h => h) (fun _ h => h), ?_⟩
    rw [ev, F2.a1 hO, Nat.sub_zero])

end S_C5AB
