section S_C7B
abbrev ws_Jx4a65c_add_72be8 : List Cond := Cond.code yJx4a65c_add_72be8 cJx4a65c_add_72be8 4 none :: W0
abbrev rm_Jx4a65c_add_72be8 : Room := ({ frames := 14, cells := 0, slots := 0, locals := 600 } : Room)
theorem dJx4a65c_add_72be8_0 : decode cJx4a65c_add_72be8 0 = .ok (.iload_n 3, 1) := by decide +kernel
theorem dJx4a65c_add_72be8_1 : decode cJx4a65c_add_72be8 1 = .ok (.aload_n 2, 1) := by decide +kernel
theorem dJx4a65c_add_72be8_2 : decode cJx4a65c_add_72be8 2 = .ok (.arraylength, 1) := by decide +kernel
theorem dJx4a65c_add_72be8_3 : decode cJx4a65c_add_72be8 3 = .ok (.if_icmp .ne 8, 3) := by decide +kernel
theorem dJx4a65c_add_72be8_6 : decode cJx4a65c_add_72be8 6 = .ok (.aload_n 0, 1) := by decide +kernel
theorem dJx4a65c_add_72be8_7 : decode cJx4a65c_add_72be8 7 = .ok (.invokevirtual 129, 3) := by decide +kernel
theorem dJx4a65c_add_72be8_10 : decode cJx4a65c_add_72be8 10 = .ok (.astore_n 2, 1) := by decide +kernel
theorem dJx4a65c_add_72be8_11 : decode cJx4a65c_add_72be8 11 = .ok (.aload_n 2, 1) := by decide +kernel
theorem dJx4a65c_add_72be8_12 : decode cJx4a65c_add_72be8 12 = .ok (.iload_n 3, 1) := by decide +kernel
theorem dJx4a65c_add_72be8_13 : decode cJx4a65c_add_72be8 13 = .ok (.aload_n 1, 1) := by decide +kernel
theorem dJx4a65c_add_72be8_14 : decode cJx4a65c_add_72be8 14 = .ok (.aastore, 1) := by decide +kernel
theorem dJx4a65c_add_72be8_15 : decode cJx4a65c_add_72be8 15 = .ok (.aload_n 0, 1) := by decide +kernel
theorem dJx4a65c_add_72be8_16 : decode cJx4a65c_add_72be8 16 = .ok (.iload_n 3, 1) := by decide +kernel
theorem dJx4a65c_add_72be8_17 : decode cJx4a65c_add_72be8 17 = .ok (.iconst 1, 1) := by decide +kernel
theorem dJx4a65c_add_72be8_18 : decode cJx4a65c_add_72be8 18 = .ok (.iadd, 1) := by decide +kernel
theorem dJx4a65c_add_72be8_19 : decode cJx4a65c_add_72be8 19 = .ok (.putfield 48, 3) := by decide +kernel
theorem dJx4a65c_add_72be8_22 : decode cJx4a65c_add_72be8 22 = .ok (.return_, 1) := by decide +kernel
def wp_Jx4a65c_add_72be8 (T : Nat → ClassId) (P : HS → Prop) (x0 : Nat) (p0 : Nat) (ke0 : Nat) (p1 : Nat) (p2 : Int32) (S : HS) (mc ms : Nat) : Prop := (¬ p2 = (Int32.ofNat (hN S p1)) → (vp_in p2 (hN S p1) ∧ (∀ S4 : HS, S4 = putB S p1 (Int32.toNatClampNeg p2) (some p0) → (∀ S12 : HS, S12 = putI S4 262 x0 (p2 + 1) → (P S12))))) ∧ (p2 = (Int32.ofNat (hN S p1)) → (∃ cc19 cc20 : Nat, (cc19 ≤ mc ∧ cc20 ≤ ms) ∧ (∃ (m22 : Nat) (m23 : Nat) (m24 : Nat), ((hR S 261 x0 = some m22 ∧ hK S m22 = 30 ∧ hN S m22 = m23 ∧ m23 ≤ 1000 ∧ (m23 = 0 → m22 = T 120) ∧ (m24 = 8 ∨ m24 = 9) ∧ (∀ j, j < m23 → ∀ b, hB S m22 j = some b → hK S b = m24) ∧ hK S (T 120) = 30 ∧ 1 ≤ cc19 ∧ m23 + m23 / 2 + 10 ≤ cc20 ∧ hI S 262 x0 = nI m23) ∧ (∀ (o31 : Option Nat) (S26 : HS), ext S S26 → (∀ b, o31 = some b → hK S26 b = 30) → (∃ q, o31 = some q ∧ GrO S S26 x0 (if m23 = 0 then 10 else m23 + (if 1 < m23 / 2 then m23 / 2 else 1)) q ∧ ∀ j, hB S26 q j = if j < m23 then hB S m22 j else none) → (∃ b36 : Nat, o31 = some b36 ∧ (hK S26 b36 = 30 → (vp_in p2 (hN S26 b36) ∧ (∀ S40 : HS, S40 = putB S26 b36 (Int32.toNatClampNeg p2) (some p0) → (∀ S48 : HS, S48 = putI S40 262 x0 (p2 + 1) → (P S48)))))))))))
set_option maxRecDepth 100000 in
set_option maxHeartbeats 4000000 in
theorem t_Jx4a65c_add_72be8 {p : Program} {l : Launch} {e : Env} {s : State} {m : MethodId} {args : Array Value} {below : List Frame} {meth : Method} {c : Code} {D : va_G} {A : Nat → Prop} {T : Nat → ClassId} (C : GC p s m args meth c cJx4a65c_add_72be8 "java/util/ArrayList" (ws_Jx4a65c_add_72be8) 4 D A (zty T)) (E : GE T A s) (hr : meth.sig.returnType = none) (P : HS → Prop) : ∀ (x0 : Nat) (p0 : Nat) (ke0 : Nat) (p1 : Nat) (p2 : Int32) (S0 S : HS) (mc ms : Nat) (L : List Nat), S0 = S → wt S → hL S L → (hK S x0 = 13) → (hK S p0 = ke0) → (ke0 = 8 ∨ ke0 = 9) → (hK S p1 = 30) → wp_Jx4a65c_add_72be8 T P x0 p0 ke0 p1 p2 S mc ms → GW p l e { rm_Jx4a65c_add_72be8 with cells := mc, slots := ms } s m args below meth c D A 4 mc ms (MQ below (va_Qv (fun (u : HS × List Nat) => P u.1 ∧ CO S0 u) (CE D T A) A) args s mc ms A) (CW T S L) mc ms 0 [(0, .ref x0), (1, .ref p0), (2, .ref p1), (3, .int p2)] [] := by
  have hW : ∀ {w : Cond}, w ∈ W0 → w.before args s = true := fun h => C.2.2.2.2.1 _ (List.mem_cons_of_mem _ h)
  intro x0 p0 ke0 p1 p2 S0 S mc ms L hS0 hw hL hx0 hp0 hk0 hp1 h
  have he : ext S0 S := by rw [hS0]; exact ext_rf
  unfold wp_Jx4a65c_add_72be8 at h
  refine g_iload_n C dJx4a65c_add_72be8_0 rfl 3 rfl ?_
  refine g_aload_n C dJx4a65c_add_72be8_1 rfl 2 rfl ?_
  refine gc_alen C E hL hp1 (by decide) rfl dJx4a65c_add_72be8_2 ?_
  refine g_icmp_ne (tgt := 11) C dJx4a65c_add_72be8_3 (by decide) (fun z1 => ?_) (fun z1 => ?_)
  · replace h := h.1 z1
    refine g_aload_n C dJx4a65c_add_72be8_11 rfl 2 rfl ?_
    refine g_iload_n C dJx4a65c_add_72be8_12 rfl 3 rfl ?_
    refine g_aload_n C dJx4a65c_add_72be8_13 rfl 1 rfl ?_
    obtain ⟨g2, h⟩ := h
    refine gt_castO C E hL hp1 hp0 hk0 g2 dJx4a65c_add_72be8_14 ?_
    have w3 := wt_putB hw (Int32.toNatClampNeg p2) (some p0) (k_ne hp1 (by decide)) (fun b hb => by cases hb; rw [show hK S p1 = 30 from hp1, show hK S p0 = ke0 from hp0]; exact hk0)
    refine gc_nS (fun S4 eS4 => ?_)
    replace h := h S4 eS4
    have w5 : wt S4 := by rw [eS4]; exact w3
    have w6 : isL S4 L := by rw [eS4]; exact hL
    have w7 : ext S0 S4 := by rw [eS4]; exact he
    have g8 : hK S4 x0 = 13 := by rw [eS4]; exact hx0
    have g9 : hK S4 p0 = ke0 := by rw [eS4]; exact hp0
    have g10 : hK S4 p1 = 30 := by rw [eS4]; exact hp1
    refine g_aload_n C dJx4a65c_add_72be8_15 rfl 0 rfl ?_
    refine g_iload_n C dJx4a65c_add_72be8_16 rfl 3 rfl ?_
    refine g_iconst (v := 1) C dJx4a65c_add_72be8_17 (by decide) ?_
    refine g_iadd C dJx4a65c_add_72be8_18 ?_
    refine gc_putI C iwx_Jx4a65c w6 g8 (by decide) (by decide) rfl 2 (by decide) (hW kw_576) rfl tyJx4a65c tyJx4a65c_ok nmJx4a65c rfl rfl rfl rfl rfl dJx4a65c_add_72be8_19 ?_
    have w11 := wt_putI w5 262 (p2 + 1) (k_ne g8 (by decide))
    refine gc_nS (fun S12 eS12 => ?_)
    replace h := h S12 eS12
    have w13 : wt S12 := by rw [eS12]; exact w11
    have w14 : isL S12 L := by rw [eS12]; exact w6
    have w15 : ext S0 S12 := by rw [eS12]; exact w7
    have g16 : hK S12 x0 = 13 := by rw [eS12]; exact g8
    have g17 : hK S12 p0 = ke0 := by rw [eS12]; exact g9
    have g18 : hK S12 p1 = 30 := by rw [eS12]; exact g10
    exact gc_vret C w13 w14 w15 hr dJx4a65c_add_72be8_22 h
  · replace h := h.2 z1
    refine g_aload_n C dJx4a65c_add_72be8_6 rfl 0 rfl ?_
    obtain ⟨cc19, cc20, g21, h⟩ := h
    obtain ⟨m22, m23, m24, h⟩ := h
    obtain ⟨g25, h⟩ := h
    refine gc_callqV (host := "") C E hw hL hx0 (by decide) (by decide) rfl [] rfl (k_Jx4a65c_grow_d5877 l D T x0 S m22 m23 m24 cc19 cc20 hx0 g25) (w0_V 0 C.2.2.2.2.1 kw_813 kw_815 ks_13 kw_22 kw_816 rfl rfl (by decide +kernel) ⟨Nat.le_of_ble_eq_true rfl, Nat.le_of_ble_eq_true rfl⟩) rfl (Nat.le_of_ble_eq_true rfl) (Nat.le_refl _) (Nat.le_refl _) g21.1 g21.2 dJx4a65c_add_72be8_7 (fun o31 S26 L27 e28 w29 w30 ko31 hp => ?_)
    replace h := h o31 S26 e28 ko31 hp
    have g32 := ext_K e28 hx0 (by decide)
    have g33 := ext_K e28 hp0 (ob_ne hk0)
    have g34 := ext_K e28 hp1 (by decide)
    have w35 := ext_tr he e28
    obtain ⟨b36, rfl, h⟩ := h
    have g37 : hK S26 b36 = 30 := ko31 b36 rfl
    replace h := h g37
    refine g_astore_n (lv' := [(2, .ref b36), (0, .ref x0), (1, .ref p0), (3, .int p2)]) C dJx4a65c_add_72be8_10 rfl (by decide) rfl ?_
    refine g_aload_n C dJx4a65c_add_72be8_11 rfl 0 rfl ?_
    refine g_iload_n C dJx4a65c_add_72be8_12 rfl 3 rfl ?_
    refine g_aload_n C dJx4a65c_add_72be8_13 rfl 2 rfl ?_
    obtain ⟨g38, h⟩ := h
    refine gt_castO C E w30 g37 g33 hk0 g38 dJx4a65c_add_72be8_14 ?_
    have w39 := wt_putB w29 (Int32.toNatClampNeg p2) (some p0) (k_ne g37 (by decide)) (fun b hb => by cases hb; rw [show hK S26 b36 = 30 from g37, show hK S26 p0 = ke0 from g33]; exact hk0)
    refine gc_nS (fun S40 eS40 => ?_)
    replace h := h S40 eS40
    have w41 : wt S40 := by rw [eS40]; exact w39
    have w42 : isL S40 L27 := by rw [eS40]; exact w30
    have w43 : ext S0 S40 := by rw [eS40]; exact w35
    have g44 : hK S40 b36 = 30 := by rw [eS40]; exact g37
    have g45 : hK S40 x0 = 13 := by rw [eS40]; exact g32
    have g46 : hK S40 p0 = ke0 := by rw [eS40]; exact g33
    refine g_aload_n C dJx4a65c_add_72be8_15 rfl 1 rfl ?_
    refine g_iload_n C dJx4a65c_add_72be8_16 rfl 3 rfl ?_
    refine g_iconst (v := 1) C dJx4a65c_add_72be8_17 (by decide) ?_
    refine g_iadd C dJx4a65c_add_72be8_18 ?_
    refine gc_putI C iwx_Jx4a65c w42 g45 (by decide) (by decide) rfl 2 (by decide) (hW kw_576) rfl tyJx4a65c tyJx4a65c_ok nmJx4a65c rfl rfl rfl rfl rfl dJx4a65c_add_72be8_19 ?_
    have w47 := wt_putI w41 262 (p2 + 1) (k_ne g45 (by decide))
    refine gc_nS (fun S48 eS48 => ?_)
    replace h := h S48 eS48
    have w49 : wt S48 := by rw [eS48]; exact w47
    have w50 : isL S48 L27 := by rw [eS48]; exact w42
    have w51 : ext S0 S48 := by rw [eS48]; exact w43
    have g52 : hK S48 b36 = 30 := by rw [eS48]; exact g44
    have g53 : hK S48 x0 = 13 := by rw [eS48]; exact g45
    have g54 : hK S48 p0 = ke0 := by rw [eS48]; exact g46
    exact gc_vret C w49 w50 w51 hr dJx4a65c_add_72be8_22 h
theorem c_Jx4a65c_add_72be8 (l : Launch) (D : va_G) (T : Nat → ClassId) (x0 : Nat) (p0 : Nat) (ke0 : Nat) (p1 : Nat) (p2 : Int32) (S : HS) (mc ms : Nat) (hx0 : hK S x0 = 13) (hp0 : hK S p0 = ke0) (hk0 : ke0 = 8 ∨ ke0 = 9) (hp1 : hK S p1 = 30) (P : HS → Prop) (h : wp_Jx4a65c_add_72be8 T P x0 p0 ke0 p1 p2 S mc ms) : CMv l yJx4a65c_add_72be8 (ws_Jx4a65c_add_72be8) rm_Jx4a65c_add_72be8 D T [.ref x0, .ref p0, .ref p1, .int p2] S mc ms P := gc_metv (by decide) rfl rfl (Nat.le_of_ble_eq_true rfl) (fun p e s m args below meth c A L C E hnm hr hw hL => t_Jx4a65c_add_72be8 C E   hr P x0 p0 ke0 p1 p2 S S mc ms L rfl hw hL hx0 hp0 hk0 hp1 h)
/-- a list's object, its row, its elements -/
def LiO (S : HS) (d al c ke : Nat) (xs : Nat → Nat) : Prop := hK S al = 13 ∧ hI S 262 al = nI c ∧ ∃ ar, hR S 261 al = some ar ∧ hK S ar = 30 ∧ c ≤ hN S ar ∧ hN S ar ≤ 10 + 2 * c ∧ (hN S ar = 0 → ar = d) ∧ (∀ j, j < c → hB S ar j = some (xs j) ∧ hK S (xs j) = ke) ∧ ∀ j, c ≤ j → j < hN S ar → hB S ar j = none
/-- what a list's change touches -/
def liA (S : HS) (al b : Nat) : Prop := b = al ∨ (hR S 261 al = some b ∧ hN S b ≠ 0)
theorem k_Jx4a65c_add_72be8 (l : Launch) (D : va_G) (T : Nat → ClassId) (x0 : Nat) (p0 : Nat) (ke0 : Nat) (p1 : Nat) (p2 : Int32) (S : HS) (e0 : Nat → Nat) (e1 : Nat) (mc ms : Nat) (hx0 : hK S x0 = 13) (hp0 : hK S p0 = ke0) (hk0 : ke0 = 8 ∨ ke0 = 9) (hp1 : hK S p1 = 30) (h : LiO S (T 120) x0 e1 ke0 e0 ∧ e1 ≤ 100 ∧ hK S (T 120) = 30 ∧ hN S (T 120) = 0 ∧ 1 ≤ mc ∧ 400 ≤ ms ∧ hR S 261 x0 = some p1 ∧ p2 = nI e1) : CMv l yJx4a65c_add_72be8 (ws_Jx4a65c_add_72be8) rm_Jx4a65c_add_72be8 D T [.ref x0, .ref p0, .ref p1, .int p2] S mc ms (fun S1 => (LiO S1 (T 120) x0 (e1 + 1) ke0 (fun j => if j = e1 then p0 else e0 j) ∧ frM S S1 (liA S x0) ∧ (∃ b, hR S1 261 x0 = some b ∧ (hK S b = 0 ∨ liA S x0 b)))) := c_Jx4a65c_add_72be8 l D T x0 p0 ke0 p1 p2 S mc ms hx0 hp0 hk0 hp1 _ <|
  (by
    obtain ⟨hL, hc, k120, n120, hmc, hms, hr1, ep⟩ := h
    subst ep
    obtain ⟨h13, hi, ar, r1, hk, hle, hle2, hz, hel, hno⟩ := hL
    have ea : ar = p1 := Option.some.inj (r1.symm.trans hr1)
    subst ea
    have nx : ar ≠ x0 := fun z => by rw [z, h13] at hk; exact absurd hk (by decide)
    unfold wp_Jx4a65c_add_72be8
    refine ⟨fun c => ?_, fun c => ?_⟩
    · have hlt : e1 < hN S ar := by
        rcases Nat.lt_or_ge e1 (hN S ar) with g | g
        · exact g
        · exact absurd (by rw [show hN S ar = e1 by omega]; rfl) c
      rw [nz_vp (by omega) (by omega), nI_clamp (n := e1) (by omega), nI_1]
      refine ⟨hlt, fun S4 e4 S12 e12 => ?_⟩
      subst e4 e12
      have hl : liA S x0 ar := Or.inr ⟨r1, by omega⟩
      refine ⟨⟨?_, ?_, ar, ?_, ?_, ?_, ?_, fun z => ?_, fun j hj => ?_, fun j hj hn => ?_⟩, (frM.rf.pB hl _ _).pI (Or.inl rfl) _ _, ar, ?_, Or.inr hl⟩
      · simp only [px_KI, px_KR, px_KA, px_KB, px_KO, px_KW, px_KC, px_NI, px_NR, px_NA, px_NB, px_NO, px_NW, px_NC, px_II, px_IR, px_IA, px_IB, px_IO, px_IW, px_IC, px_RI, px_RR, px_RA, px_RB, px_RO, px_RW, px_RC, px_AI, px_AR, px_AA, px_AB, px_AO, px_AW, px_AC, px_BI, px_BR, px_BA, px_BB, px_BO, px_BW, px_BC]; exact h13
      · rw [putI_s]
      · simp only [px_KI, px_KR, px_KA, px_KB, px_KO, px_KW, px_KC, px_NI, px_NR, px_NA, px_NB, px_NO, px_NW, px_NC, px_II, px_IR, px_IA, px_IB, px_IO, px_IW, px_IC, px_RI, px_RR, px_RA, px_RB, px_RO, px_RW, px_RC, px_AI, px_AR, px_AA, px_AB, px_AO, px_AW, px_AC, px_BI, px_BR, px_BA, px_BB, px_BO, px_BW, px_BC]; exact r1
      · simp only [px_KI, px_KR, px_KA, px_KB, px_KO, px_KW, px_KC, px_NI, px_NR, px_NA, px_NB, px_NO, px_NW, px_NC, px_II, px_IR, px_IA, px_IB, px_IO, px_IW, px_IC, px_RI, px_RR, px_RA, px_RB, px_RO, px_RW, px_RC, px_AI, px_AR, px_AA, px_AB, px_AO, px_AW, px_AC, px_BI, px_BR, px_BA, px_BB, px_BO, px_BW, px_BC]; exact hk
      · simp only [px_KI, px_KR, px_KA, px_KB, px_KO, px_KW, px_KC, px_NI, px_NR, px_NA, px_NB, px_NO, px_NW, px_NC, px_II, px_IR, px_IA, px_IB, px_IO, px_IW, px_IC, px_RI, px_RR, px_RA, px_RB, px_RO, px_RW, px_RC, px_AI, px_AR, px_AA, px_AB, px_AO, px_AW, px_AC, px_BI, px_BR, px_BA, px_BB, px_BO, px_BW, px_BC]; exact hlt
      · simp only [px_KI, px_KR, px_KA, px_KB, px_KO, px_KW, px_KC, px_NI, px_NR, px_NA, px_NB, px_NO, px_NW, px_NC, px_II, px_IR, px_IA, px_IB, px_IO, px_IW, px_IC, px_RI, px_RR, px_RA, px_RB, px_RO, px_RW, px_RC, px_AI, px_AR, px_AA, px_AB, px_AO, px_AW, px_AC, px_BI, px_BR, px_BA, px_BB, px_BO, px_BW, px_BC]; omega
      · simp only [px_KI, px_KR, px_KA, px_KB, px_KO, px_KW, px_KC, px_NI, px_NR, px_NA, px_NB, px_NO, px_NW, px_NC, px_II, px_IR, px_IA, px_IB, px_IO, px_IW, px_IC, px_RI, px_RR, px_RA, px_RB, px_RO, px_RW, px_RC, px_AI, px_AR, px_AA, px_AB, px_AO, px_AW, px_AC, px_BI, px_BR, px_BA, px_BB, px_BO, px_BW, px_BC] at z; omega
      · rw [px_KI, px_KB, px_BI, px_BB]
        dsimp only
        by_cases g : j = e1
        · rw [if_pos ⟨rfl, g⟩, if_pos g]
          exact ⟨rfl, hp0⟩
        · rw [if_neg (fun z => g z.2), if_neg g]
          exact hel j (by omega)
      · rw [px_NI, px_NB] at hn
        rw [px_BI, px_BB, if_neg (fun z => by omega)]
        exact hno j (by omega) hn
      · simp only [px_KI, px_KR, px_KA, px_KB, px_KO, px_KW, px_KC, px_NI, px_NR, px_NA, px_NB, px_NO, px_NW, px_NC, px_II, px_IR, px_IA, px_IB, px_IO, px_IW, px_IC, px_RI, px_RR, px_RA, px_RB, px_RO, px_RW, px_RC, px_AI, px_AR, px_AA, px_AB, px_AO, px_AW, px_AC, px_BI, px_BR, px_BA, px_BB, px_BO, px_BW, px_BC]; exact r1
    · have hfull : hN S ar = e1 := by
        have c : nI e1 = nI (hN S ar) := c
        exact ((nI_eq (by omega) (by omega)).mp c).symm
      refine ⟨mc, ms, ⟨Nat.le_refl _, Nat.le_refl _⟩, ar, e1, ke0, ⟨r1, hk, hfull, by omega, fun z => hz (by omega), hk0, fun j hj b hb => ?_, k120, hmc, by omega, hi⟩, fun o S26 _ _ h26 => ?_⟩
      · obtain ⟨a1, a2⟩ := hel j hj
        rw [a1] at hb
        rw [← Option.some.inj hb]
        exact a2
      · obtain ⟨q, eq, ⟨q0, kq, nq, rq, gi, ga, gr, gb⟩, hq⟩ := h26
        have n1 : e1 + 1 ≤ (if e1 = 0 then 10 else e1 + (if 1 < e1 / 2 then e1 / 2 else 1)) ∧ (if e1 = 0 then 10 else e1 + (if 1 < e1 / 2 then e1 / 2 else 1)) ≤ 10 + 2 * (e1 + 1) := by
          constructor <;> (repeat' split) <;> omega
        refine ⟨q, eq, fun _ => ?_⟩
        rw [nq, nz_vp (by omega) (by omega), nI_clamp (n := e1) (by omega), nI_1]
        refine ⟨by omega, fun S40 e40 S48 e48 => ?_⟩
        subst e40 e48
        have nq0 : ∀ {b : Nat}, hK S b ≠ 0 → b ≠ q := fun hb z => hb (by rw [z]; exact q0)
        have nke : ke0 ≠ 0 := ob_ne hk0
        have xq : x0 ≠ q := nq0 (by rw [h13]; decide)
        refine ⟨⟨?_, ?_, q, ?_, ?_, ?_, ?_, fun z => ?_, fun j hj => ?_, fun j hj hn => ?_⟩, fun b hb h0 => ?_, q, ?_, Or.inl q0⟩
        · simp only [px_KI, px_KR, px_KA, px_KB, px_KO, px_KW, px_KC, px_NI, px_NR, px_NA, px_NB, px_NO, px_NW, px_NC, px_II, px_IR, px_IA, px_IB, px_IO, px_IW, px_IC, px_RI, px_RR, px_RA, px_RB, px_RO, px_RW, px_RC, px_AI, px_AR, px_AA, px_AB, px_AO, px_AW, px_AC, px_BI, px_BR, px_BA, px_BB, px_BO, px_BW, px_BC]; rw [(gb x0 xq).2.1]; exact h13
        · rw [putI_s]
        · simp only [px_KI, px_KR, px_KA, px_KB, px_KO, px_KW, px_KC, px_NI, px_NR, px_NA, px_NB, px_NO, px_NW, px_NC, px_II, px_IR, px_IA, px_IB, px_IO, px_IW, px_IC, px_RI, px_RR, px_RA, px_RB, px_RO, px_RW, px_RC, px_AI, px_AR, px_AA, px_AB, px_AO, px_AW, px_AC, px_BI, px_BR, px_BA, px_BB, px_BO, px_BW, px_BC]; exact rq
        · simp only [px_KI, px_KR, px_KA, px_KB, px_KO, px_KW, px_KC, px_NI, px_NR, px_NA, px_NB, px_NO, px_NW, px_NC, px_II, px_IR, px_IA, px_IB, px_IO, px_IW, px_IC, px_RI, px_RR, px_RA, px_RB, px_RO, px_RW, px_RC, px_AI, px_AR, px_AA, px_AB, px_AO, px_AW, px_AC, px_BI, px_BR, px_BA, px_BB, px_BO, px_BW, px_BC]; exact kq
        · simp only [px_KI, px_KR, px_KA, px_KB, px_KO, px_KW, px_KC, px_NI, px_NR, px_NA, px_NB, px_NO, px_NW, px_NC, px_II, px_IR, px_IA, px_IB, px_IO, px_IW, px_IC, px_RI, px_RR, px_RA, px_RB, px_RO, px_RW, px_RC, px_AI, px_AR, px_AA, px_AB, px_AO, px_AW, px_AC, px_BI, px_BR, px_BA, px_BB, px_BO, px_BW, px_BC]; rw [nq]; exact n1.1
        · simp only [px_KI, px_KR, px_KA, px_KB, px_KO, px_KW, px_KC, px_NI, px_NR, px_NA, px_NB, px_NO, px_NW, px_NC, px_II, px_IR, px_IA, px_IB, px_IO, px_IW, px_IC, px_RI, px_RR, px_RA, px_RB, px_RO, px_RW, px_RC, px_AI, px_AR, px_AA, px_AB, px_AO, px_AW, px_AC, px_BI, px_BR, px_BA, px_BB, px_BO, px_BW, px_BC]; rw [nq]; exact n1.2
        · simp only [px_KI, px_KR, px_KA, px_KB, px_KO, px_KW, px_KC, px_NI, px_NR, px_NA, px_NB, px_NO, px_NW, px_NC, px_II, px_IR, px_IA, px_IB, px_IO, px_IW, px_IC, px_RI, px_RR, px_RA, px_RB, px_RO, px_RW, px_RC, px_AI, px_AR, px_AA, px_AB, px_AO, px_AW, px_AC, px_BI, px_BR, px_BA, px_BB, px_BO, px_BW, px_BC] at z; rw [nq] at z; omega
        · rw [px_KI, px_KB, px_BI, px_BB]
          dsimp only
          by_cases g : j = e1
          · rw [if_pos ⟨rfl, g⟩, if_pos g]
            exact ⟨rfl, by rw [(gb p0 (nq0 (by rw [hp0]; exact nke))).2.1]; exact hp0⟩
          · obtain ⟨a1, a2⟩ := hel j (by omega)
            rw [if_neg (fun z => g z.2), if_neg g, hq j, if_pos (by omega), (gb (e0 j) (nq0 (by rw [a2]; exact nke))).2.1]
            exact ⟨a1, a2⟩
        · rw [px_BI, px_BB, if_neg (fun z => by omega), hq j, if_neg (by omega)]
        · have bx : b ≠ x0 := fun z => hb (Or.inl z)
          have bq : b ≠ q := nq0 h0
          obtain ⟨u1, u2, u3⟩ := gb b bq
          refine ⟨by rw [px_KI, px_KB]; exact u2, by rw [px_NI, px_NB]; exact u3, fun i => ?_, fun i => ?_, ?_, ?_⟩
          · rw [px_II, if_neg (fun z => bx z.2), px_IB, gi]
          · rw [px_RI, px_RB]; exact gr i b (fun z => bx z.1)
          · rw [px_AI, px_AB, ga]
          · rw [px_BI, putB_o _ _ _ bq]; exact u1
        · simp only [px_KI, px_KR, px_KA, px_KB, px_KO, px_KW, px_KC, px_NI, px_NR, px_NA, px_NB, px_NO, px_NW, px_NC, px_II, px_IR, px_IA, px_IB, px_IO, px_IW, px_IC, px_RI, px_RR, px_RA, px_RB, px_RO, px_RW, px_RC, px_AI, px_AR, px_AA, px_AB, px_AO, px_AW, px_AC, px_BI, px_BR, px_BA, px_BB, px_BO, px_BW, px_BC]; exact rq)
abbrev ws_Jx4a65c_add_9ea2d : List Cond := Cond.code yJx4a65c_add_9ea2d cJx4a65c_add_9ea2d 2 (some .boolean) :: W0
abbrev rm_Jx4a65c_add_9ea2d : Room := ({ frames := 17, cells := 0, slots := 0, locals := 700 } : Room)
theorem dJx4a65c_add_9ea2d_0 : decode cJx4a65c_add_9ea2d 0 = .ok (.aload_n 0, 1) := by decide +kernel
theorem dJx4a65c_add_9ea2d_1 : decode cJx4a65c_add_9ea2d 1 = .ok (.dup, 1) := by decide +kernel
theorem dJx4a65c_add_9ea2d_2 : decode cJx4a65c_add_9ea2d 2 = .ok (.getfield 63, 3) := by decide +kernel
theorem dJx4a65c_add_9ea2d_5 : decode cJx4a65c_add_9ea2d 5 = .ok (.iconst 1, 1) := by decide +kernel
theorem dJx4a65c_add_9ea2d_6 : decode cJx4a65c_add_9ea2d 6 = .ok (.iadd, 1) := by decide +kernel
theorem dJx4a65c_add_9ea2d_7 : decode cJx4a65c_add_9ea2d 7 = .ok (.putfield 63, 3) := by decide +kernel
theorem dJx4a65c_add_9ea2d_10 : decode cJx4a65c_add_9ea2d 10 = .ok (.aload_n 0, 1) := by decide +kernel
theorem dJx4a65c_add_9ea2d_11 : decode cJx4a65c_add_9ea2d 11 = .ok (.aload_n 1, 1) := by decide +kernel
theorem dJx4a65c_add_9ea2d_12 : decode cJx4a65c_add_9ea2d 12 = .ok (.aload_n 0, 1) := by decide +kernel
theorem dJx4a65c_add_9ea2d_13 : decode cJx4a65c_add_9ea2d 13 = .ok (.getfield 9, 3) := by decide +kernel
theorem dJx4a65c_add_9ea2d_16 : decode cJx4a65c_add_9ea2d 16 = .ok (.aload_n 0, 1) := by decide +kernel
theorem dJx4a65c_add_9ea2d_17 : decode cJx4a65c_add_9ea2d 17 = .ok (.getfield 48, 3) := by decide +kernel
theorem dJx4a65c_add_9ea2d_20 : decode cJx4a65c_add_9ea2d 20 = .ok (.invokevirtual 131, 3) := by decide +kernel
theorem dJx4a65c_add_9ea2d_23 : decode cJx4a65c_add_9ea2d 23 = .ok (.iconst 1, 1) := by decide +kernel
theorem dJx4a65c_add_9ea2d_24 : decode cJx4a65c_add_9ea2d 24 = .ok (.ireturn, 1) := by decide +kernel
def wp_Jx4a65c_add_9ea2d (T : Nat → ClassId) (P : Int32 → HS → Prop) (x0 : Nat) (p0 : Nat) (ke0 : Nat) (S : HS) (mc ms : Nat) : Prop := ∀ S2 : HS, S2 = putI S 260 x0 ((hI S 260 x0) + 1) → (∃ b9 : Nat, hR S2 261 x0 = some b9 ∧ (hK S2 b9 = 30 → (∃ cc11 cc12 : Nat, (cc11 ≤ mc ∧ cc12 ≤ ms) ∧ (∃ (m14 : Nat → Nat) (m15 : Nat), ((LiO S2 (T 120) x0 m15 ke0 m14 ∧ m15 ≤ 100 ∧ hK S2 (T 120) = 30 ∧ hN S2 (T 120) = 0 ∧ 1 ≤ cc11 ∧ 400 ≤ cc12 ∧ hR S2 261 x0 = some b9 ∧ (hI S2 262 x0) = nI m15) ∧ (∀ (S17 : HS), ext S2 S17 → (LiO S17 (T 120) x0 (m15 + 1) ke0 (fun j => if j = m15 then p0 else m14 j) ∧ frM S2 S17 (liA S2 x0) ∧ (∃ b, hR S17 261 x0 = some b ∧ (hK S2 b = 0 ∨ liA S2 x0 b))) → (P 1 S17)))))))
set_option maxRecDepth 100000 in
set_option maxHeartbeats 4000000 in
theorem t_Jx4a65c_add_9ea2d {p : Program} {l : Launch} {e : Env} {s : State} {m : MethodId} {args : Array Value} {below : List Frame} {meth : Method} {c : Code} {D : va_G} {A : Nat → Prop} {T : Nat → ClassId} (C : GC p s m args meth c cJx4a65c_add_9ea2d "java/util/ArrayList" (ws_Jx4a65c_add_9ea2d) 2 D A (zty T)) (E : GE T A s) (hr : meth.sig.returnType = (some .boolean)) (P : Int32 → HS → Prop) : ∀ (x0 : Nat) (p0 : Nat) (ke0 : Nat) (S0 S : HS) (mc ms : Nat) (L : List Nat), S0 = S → wt S → hL S L → (hK S x0 = 13) → (hK S p0 = ke0) → (ke0 = 8 ∨ ke0 = 9) → wp_Jx4a65c_add_9ea2d T P x0 p0 ke0 S mc ms → GW p l e { rm_Jx4a65c_add_9ea2d with cells := mc, slots := ms } s m args below meth c D A 2 mc ms (MQ below (va_Qi (fun v (u : HS × List Nat) => P v u.1 ∧ CO S0 u) (CE D T A) A) args s mc ms A) (CW T S L) mc ms 0 [(0, .ref x0), (1, .ref p0)] [] := by
  have hW : ∀ {w : Cond}, w ∈ W0 → w.before args s = true := fun h => C.2.2.2.2.1 _ (List.mem_cons_of_mem _ h)
  intro x0 p0 ke0 S0 S mc ms L hS0 hw hL hx0 hp0 hk0 h
  have he : ext S0 S := by rw [hS0]; exact ext_rf
  unfold wp_Jx4a65c_add_9ea2d at h
  refine g_aload_n C dJx4a65c_add_9ea2d_0 rfl 0 rfl ?_
  refine g_dup C dJx4a65c_add_9ea2d_1 rfl ?_
  refine gt_getI C iwx_Jx4a65c hL hx0 (by decide) (by decide) rfl 0 (by decide) (hW kw_578) (fun z => u_same (hW kw_579) z) rfl rfl dJx4a65c_add_9ea2d_2 ?_
  refine g_iconst (v := 1) C dJx4a65c_add_9ea2d_5 (by decide) ?_
  refine g_iadd C dJx4a65c_add_9ea2d_6 ?_
  refine gt_putI C iwx_Jx4a65c hL hx0 (by decide) (by decide) rfl 0 (by decide) (hW kw_578) (fun z => u_same (hW kw_579) z) tyJx4a65c tyJx4a65c_ok nmJx4a65c rfl rfl rfl rfl rfl dJx4a65c_add_9ea2d_7 ?_
  have w1 := wt_putI hw 260 ((hI S 260 x0) + 1) (k_ne hx0 (by decide))
  refine gc_nS (fun S2 eS2 => ?_)
  replace h := h S2 eS2
  have w3 : wt S2 := by rw [eS2]; exact w1
  have w4 : isL S2 L := by rw [eS2]; exact hL
  have w5 : ext S0 S2 := by rw [eS2]; exact he
  have g6 : hK S2 x0 = 13 := by rw [eS2]; exact hx0
  have g7 : hK S2 p0 = ke0 := by rw [eS2]; exact hp0
  refine g_aload_n C dJx4a65c_add_9ea2d_10 rfl 0 rfl ?_
  refine g_aload_n C dJx4a65c_add_9ea2d_11 rfl 1 rfl ?_
  refine g_aload_n C dJx4a65c_add_9ea2d_12 rfl 0 rfl ?_
  refine gc_getR C w3 iwx_Jx4a65c w4 g6 (by decide) (by decide) rfl 1 (by decide) (hW kw_575) rfl rfl rfl dJx4a65c_add_9ea2d_13 (fun o8 eo8 ko8 => ?_)
  obtain ⟨b9, hb9, h⟩ := h
  have g10 : hK S2 b9 = 30 := ko8 b9 (eo8.trans hb9)
  replace h := h g10
  refine g_opt (eo8.trans hb9) ?_
  refine g_aload_n C dJx4a65c_add_9ea2d_16 rfl 0 rfl ?_
  refine gc_getI C iwx_Jx4a65c w4 g6 (by decide) (by decide) rfl 2 (by decide) (hW kw_576) rfl rfl rfl dJx4a65c_add_9ea2d_17 ?_
  obtain ⟨cc11, cc12, g13, h⟩ := h
  obtain ⟨m14, m15, h⟩ := h
  obtain ⟨g16, h⟩ := h
  refine gc_callvV (host := "") C E w3 w4 g6 (by decide) (by decide) rfl [.ref p0, .ref b9, .int (hI S2 262 x0)] rfl (k_Jx4a65c_add_72be8 l D T x0 p0 ke0 b9 (hI S2 262 x0) S2 m14 m15 cc11 cc12 g6 g7 hk0 g10 g16) (w0_V 3 C.2.2.2.2.1 kw_809 kw_811 ks_12 kw_22 kw_812 rfl rfl (by decide +kernel) ⟨Nat.le_of_ble_eq_true rfl, Nat.le_of_ble_eq_true rfl⟩) rfl (Nat.le_of_ble_eq_true rfl) (Nat.le_refl _) (Nat.le_refl _) g13.1 g13.2 dJx4a65c_add_9ea2d_20 (fun S17 L18 e19 w20 w21 hp => ?_)
  replace h := h S17 e19 hp
  have g22 := ext_K e19 g6 (by decide)
  have g23 := ext_K e19 g7 (ob_ne hk0)
  have w24 := ext_tr w5 e19
  refine g_iconst (v := 1) C dJx4a65c_add_9ea2d_23 (by decide) ?_
  exact gc_zret C vz1 w20 w21 w24 hr dJx4a65c_add_9ea2d_24 h
theorem c_Jx4a65c_add_9ea2d (l : Launch) (D : va_G) (T : Nat → ClassId) (x0 : Nat) (p0 : Nat) (ke0 : Nat) (S : HS) (mc ms : Nat) (hx0 : hK S x0 = 13) (hp0 : hK S p0 = ke0) (hk0 : ke0 = 8 ∨ ke0 = 9) (P : Int32 → HS → Prop) (h : wp_Jx4a65c_add_9ea2d T P x0 p0 ke0 S mc ms) : CMi l yJx4a65c_add_9ea2d (ws_Jx4a65c_add_9ea2d) rm_Jx4a65c_add_9ea2d D T [.ref x0, .ref p0] S mc ms P := gc_meti (by decide) rfl rfl (Nat.le_of_ble_eq_true rfl) (fun p e s m args below meth c A L C E hnm hr hw hL => t_Jx4a65c_add_9ea2d C E   hr P x0 p0 ke0 S S mc ms L rfl hw hL hx0 hp0 hk0 h)
theorem k_Jx4a65c_add_9ea2d (l : Launch) (D : va_G) (T : Nat → ClassId) (x0 : Nat) (p0 : Nat) (ke0 : Nat) (S : HS) (e0 : Nat → Nat) (e1 : Nat) (mc ms : Nat) (hx0 : hK S x0 = 13) (hp0 : hK S p0 = ke0) (hk0 : ke0 = 8 ∨ ke0 = 9) (h : LiO S (T 120) x0 e1 ke0 e0 ∧ e1 ≤ 100 ∧ hK S (T 120) = 30 ∧ hN S (T 120) = 0 ∧ 1 ≤ mc ∧ 400 ≤ ms) : CMi l yJx4a65c_add_9ea2d (ws_Jx4a65c_add_9ea2d) rm_Jx4a65c_add_9ea2d D T [.ref x0, .ref p0] S mc ms (fun v S1 => (v = 1 ∧ LiO S1 (T 120) x0 (e1 + 1) ke0 (fun j => if j = e1 then p0 else e0 j) ∧ frM S S1 (liA S x0) ∧ (∃ b, hR S1 261 x0 = some b ∧ (hK S b = 0 ∨ liA S x0 b)))) := c_Jx4a65c_add_9ea2d l D T x0 p0 ke0 S mc ms hx0 hp0 hk0 _ <|
  (by
    obtain ⟨hL, hc, k120, n120, hmc, hms⟩ := h
    have hL0 := hL
    obtain ⟨h13, hi, ar, r1, hk, hle, hle2, hz, hel, hno⟩ := hL
    unfold wp_Jx4a65c_add_9ea2d
    intro S2 e2
    have f2 : frM S S2 (liA S x0) := by rw [e2]; exact frM.rf.pI (Or.inl rfl) _ _
    have L2 : LiO S2 (T 120) x0 e1 ke0 e0 := by
      rw [e2]
      refine ⟨by rw [px_KI]; exact h13, by rw [px_II, if_neg (fun z => absurd z.1 (by decide))]; exact hi, ar, by rw [px_RI]; exact r1, by rw [px_KI]; exact hk, by rw [px_NI]; exact hle, by rw [px_NI]; exact hle2, fun z => hz (by rw [px_NI] at z; exact z), fun j hj => by rw [px_BI, px_KI]; exact hel j hj, fun j hj hn => by rw [px_BI]; rw [px_NI] at hn; exact hno j hj hn⟩
    have la : liA S2 x0 = liA S x0 := by rw [e2]; rfl
    have kk : hK S2 = hK S := by rw [e2, px_KI]
    refine ⟨ar, by rw [e2, px_RI]; exact r1, fun _ => ⟨mc, ms, ⟨Nat.le_refl _, Nat.le_refl _⟩, e0, e1, ⟨L2, hc, by rw [kk]; exact k120, by rw [e2, px_NI]; exact n120, hmc, hms, by rw [e2, px_RI]; exact r1, L2.2.1⟩, fun S17 _ h17 => ?_⟩⟩
    obtain ⟨a1, a2, b, a3, a4⟩ := h17
    rw [la] at a2 a4
    rw [kk] at a4
    exact ⟨rfl, a1, f2.tr a2, b, a3, a4⟩)
abbrev ws_X0_init : List Cond := Cond.code yX0_init cX0_init 1 none :: W0
abbrev rm_X0_init : Room := ({ frames := 7, cells := 0, slots := 0, locals := 320 } : Room)
def wp_X0_init (T : Nat → ClassId) (P : HS → Prop) (x0 : Nat) (S : HS) (mc ms : Nat) : Prop := ∀ S2 : HS, S2 = putI S 21 x0 0 → (∀ S8 : HS, S8 = putI S2 22 x0 (-1) → ((1 ≤ mc ∧ 3 ≤ ms) ∧ (∀ q13 : Nat, hK S8 q13 = 0 → zr S8 q13 → (∀ S20 : HS, S20 = newO S8 q13 13 → ((hK S20 (T 120) = 30) ∧ (∀ (S27 : HS), ext S20 S27 → (S27 = putR (putI S20 260 q13 0) 261 q13 (some (T 120))) → (∀ S36 : HS, S36 = putR S27 24 x0 (some q13) → (P S36))))))))
set_option maxRecDepth 100000 in
set_option maxHeartbeats 4000000 in
theorem t_X0_init {p : Program} {l : Launch} {e : Env} {s : State} {m : MethodId} {args : Array Value} {below : List Frame} {meth : Method} {c : Code} {D : va_G} {A : Nat → Prop} {T : Nat → ClassId} (C : GC p s m args meth c cX0_init "FreightRater$Accessorial" (ws_X0_init) 1 D A (zty T)) (E : GE T A s) (hr : meth.sig.returnType = none) (hin : meth.name = "<init>") (P : HS → Prop) : ∀ (x0 : Nat) (S0 S : HS) (mc ms : Nat) (L : List Nat), S0 = S → wt S → hL S L → (hK S x0 = 1) → wp_X0_init T P x0 S mc ms → GW p l e { rm_X0_init with cells := mc, slots := ms } s m args below meth c D A 1 mc ms (MQ below (va_Qv (fun (u : HS × List Nat) => P u.1 ∧ CO S0 u) (CE D T A) A) args s mc ms A) (CW T S L) mc ms 0 [(0, .ref x0)] [] := by
  have hW : ∀ {w : Cond}, w ∈ W0 → w.before args s = true := fun h => C.2.2.2.2.1 _ (List.mem_cons_of_mem _ h)
  intro x0 S0 S mc ms L hS0 hw hL hx0 h
  have he : ext S0 S := by rw [hS0]; exact ext_rf
  unfold wp_X0_init at h
  refine g_aload_n C dX0_init_0 rfl 0 rfl ?_
  refine g_objInit C (hW kw_736) (hW kw_46) (hW kw_47) dX0_init_1 (Nat.le_of_ble_eq_true rfl) (Nat.le_of_ble_eq_true rfl) ?_
  refine g_aload_n C dX0_init_4 rfl 0 rfl ?_
  refine g_iconst (v := 0) C dX0_init_5 (by decide) ?_
  refine gc_putI C iwx_X0 hL hx0 (by decide) (by decide) rfl 1 (by decide) (hW kw_742) rfl tyX0 tyX0_ok nmX0 rfl rfl rfl rfl rfl dX0_init_6 ?_
  have w1 := wt_putI hw 21 0 (k_ne hx0 (by decide))
  refine gc_nS (fun S2 eS2 => ?_)
  replace h := h S2 eS2
  have w3 : wt S2 := by rw [eS2]; exact w1
  have w4 : isL S2 L := by rw [eS2]; exact hL
  have w5 : ext S0 S2 := by rw [eS2]; exact he
  have g6 : hK S2 x0 = 1 := by rw [eS2]; exact hx0
  refine g_aload_n C dX0_init_9 rfl 0 rfl ?_
  refine g_iconst (v := -1) C dX0_init_10 (by decide) ?_
  refine gc_putI C iwx_X0 w4 g6 (by decide) (by decide) rfl 2 (by decide) (hW kw_745) rfl tyX0 tyX0_ok nmX0 rfl rfl rfl rfl rfl dX0_init_11 ?_
  have w7 := wt_putI w3 22 (-1) (k_ne g6 (by decide))
  refine gc_nS (fun S8 eS8 => ?_)
  replace h := h S8 eS8
  have w9 : wt S8 := by rw [eS8]; exact w7
  have w10 : isL S8 L := by rw [eS8]; exact w4
  have w11 : ext S0 S8 := by rw [eS8]; exact w5
  have g12 : hK S8 x0 = 1 := by rw [eS8]; exact g6
  refine g_aload_n C dX0_init_14 rfl 0 rfl ?_
  obtain ⟨g14, h⟩ := h
  refine gc_new (kd := 13) (N := 3) C E w9 w10 (Nat.le_refl _) (Nat.le_refl _) iwx_Jx4a65c tyJx4a65c tyJx4a65c_ok (by decide) (by decide) rfl (fun j hj => by rcases (show j = 0 ∨ j = 1 ∨ j = 2 by omega) with rfl | rfl | rfl <;> rfl) (hW kw_737) (hW kw_562) (hW kw_22) g14.1 g14.2 dX0_init_15 (fun q13 h0q13 zq13 => ?_)
  replace h := h q13 h0q13 zq13
  have g15 := newO_old 13 g12 (by decide) h0q13
  have w16 := wt_newO w9 13 h0q13 (by decide)
  have w17 := hL_new (S' := newO S8 q13 13) w10 (show 13 ≠ 0 by decide) rfl
  have w18 := ext_newO w11 h0q13 13
  have g19 := newO_self S8 q13 13
  refine gc_nS (fun S20 eS20 => ?_)
  replace h := h S20 eS20
  have w21 : wt S20 := by rw [eS20]; exact w16
  have w22 : isL S20 (L ++ [q13]) := by rw [eS20]; exact w17
  have w23 : ext S0 S20 := by rw [eS20]; exact w18
  have g24 : hK S20 q13 = 13 := by rw [eS20]; exact g19
  have g25 : hK S20 x0 = 1 := by rw [eS20]; exact g15
  refine g_dup C dX0_init_18 rfl ?_
  obtain ⟨g26, h⟩ := h
  refine gc_callvI (host := "") (ret := none) C E w21 w22 [] rfl (k_Jx4a65c_init_da8c8 l D T q13 S20 g24 g26) (w0_I 0 C.2.2.2.2.1 kw_738 kw_564 kw_22 kw_565 rfl rfl rfl (by decide +kernel) ⟨Nat.le_of_ble_eq_true rfl, Nat.le_of_ble_eq_true rfl⟩) rfl (Nat.le_of_ble_eq_true rfl) (Nat.le_refl _) (Nat.le_refl _) (Nat.zero_le _) (Nat.zero_le _) dX0_init_19 (fun S27 L28 e29 w30 w31 hp => ?_)
  replace h := h S27 e29 hp
  have g32 := ext_K e29 g24 (by decide)
  have g33 := ext_K e29 g25 (by decide)
  have w34 := ext_tr w23 e29
  refine gc_putRF C iwx_X0 w31 g33 (by decide) (by decide) rfl 4 (by decide) (hW kw_751) rfl tyX0 tyX0_ok nmX0 rfl rfl rfl hin rfl (some q13) rfl rfl dX0_init_22 ?_
  have w35 := wt_putR w30 24 (some q13) (k_ne g33 (by decide)) (fun b hb => by cases hb; exact g32) (by decide)
  refine gc_nS (fun S36 eS36 => ?_)
  replace h := h S36 eS36
  have w37 : wt S36 := by rw [eS36]; exact w35
  have w38 : isL S36 L28 := by rw [eS36]; exact w31
  have w39 : ext S0 S36 := by rw [eS36]; exact w34
  have g40 : hK S36 x0 = 1 := by rw [eS36]; exact g33
  exact gc_vret C w37 w38 w39 hr dX0_init_25 h
theorem c_X0_init (l : Launch) (D : va_G) (T : Nat → ClassId) (x0 : Nat) (S : HS) (mc ms : Nat) (hx0 : hK S x0 = 1) (P : HS → Prop) (h : wp_X0_init T P x0 S mc ms) : CMv l yX0_init (ws_X0_init) rm_X0_init D T [.ref x0] S mc ms P := gc_metv (by decide) rfl rfl (Nat.le_of_ble_eq_true rfl) (fun p e s m args below meth c A L C E hnm hr hw hL => t_X0_init C E   hr hnm P x0 S S mc ms L rfl hw hL hx0 h)
theorem k_X0_init (l : Launch) (D : va_G) (T : Nat → ClassId) (x0 : Nat) (S : HS) (mc ms : Nat) (hx0 : hK S x0 = 1) (h : hK S (T 120) = 30 ∧ hN S (T 120) = 0 ∧ 1 ≤ mc ∧ 3 ≤ ms) : CMv l yX0_init (ws_X0_init) rm_X0_init D T [.ref x0] S mc ms (fun S1 => (frM S S1 (fun b => b = x0) ∧ (∀ i, hI S1 i x0 = if i = 22 then -1 else if i = 21 then 0 else hI S i x0) ∧ ∃ q, hK S q = 0 ∧ hR S1 24 x0 = some q ∧ LiO S1 (T 120) q 0 9 (fun _ => 0) ∧ hR S1 261 q = some (T 120))) := c_X0_init l D T x0 S mc ms hx0 _ <|
  (by
    obtain ⟨k120, n120, hmc, hms⟩ := h
    unfold wp_X0_init
    intro S2 e2 S8 e8
    refine ⟨⟨hmc, hms⟩, fun q q0 qz S20 e20 => ?_⟩
    have k8 : hK S8 = hK S := by rw [e8, e2, px_KI, px_KI]
    have n8 : hN S8 = hN S := by rw [e8, e2, px_NI, px_NI]
    rw [k8] at q0
    have qx : q ≠ x0 := fun z => by rw [z, hx0] at q0; exact absurd q0 (by decide)
    have qd : T 120 ≠ q := fun z => by rw [z, q0] at k120; exact absurd k120 (by decide)
    have k20 : ∀ b, hK S20 b = if b = q then 13 else hK S b := fun b => by rw [e20, px_KO, k8]
    refine ⟨by rw [k20, if_neg qd]; exact k120, fun S27 _ e27 S36 e36 => ?_⟩
    have f8 : frM S S8 (fun b => b = x0) := by rw [e8, e2]; exact (frM.pI (M := fun b => b = x0) (frM.pI (M := fun b => b = x0) frM.rf rfl _ _) rfl _ _)
    have x8 : ext S S8 := by rw [e8, e2]; exact ext_putI (ext_putI ext_rf _ _ _) _ _ _
    have f20 : frM S S20 (fun b => b = x0) := by rw [e20]; exact f8.nO x8 (by rw [k8]; exact q0) 13
    have f27 : frM S S27 (fun b => b = x0) := by
      rw [e27]
      exact f20.nw (frM.pR (M := fun b => b = q) (frM.pI (M := fun b => b = q) frM.rf rfl _ _) rfl _ _) (fun b hb z => absurd q0 (by rw [← z]; exact hb))
    have I36 : ∀ i, hI S36 i x0 = if i = 22 then -1 else if i = 21 then 0 else hI S i x0 := fun i => by
      rw [e36, px_IR, e27, px_IR, px_II, if_neg (fun z => qx z.2.symm), e20, px_IO, e8, px_II, e2, px_II]
      by_cases g : i = 22
      · rw [if_pos ⟨g, rfl⟩, if_pos g]
      · rw [if_neg (fun z => g z.1), if_neg g]
        by_cases g2 : i = 21
        · rw [if_pos ⟨g2, rfl⟩, if_pos g2]
        · rw [if_neg (fun z => g2 z.1), if_neg g2]
    refine ⟨by rw [e36]; exact frM.pR (M := fun b => b = x0) f27 rfl _ _, I36, q, q0, ?_, ⟨?_, ?_, T 120, ?_, ?_, Nat.zero_le _, ?_, fun _ => rfl, fun j hj => absurd hj (Nat.not_lt_zero j), fun j _ hn => ?_⟩, ?_⟩
    · rw [e36, px_RR, if_pos ⟨rfl, rfl⟩]
    · rw [e36, px_KR, e27, px_KR, px_KI, k20, if_pos rfl]
    · rw [e36, px_IR, e27, px_IR, px_II, if_neg (fun z => absurd z.1 (by decide)), e20, px_IO]
      exact qz.1 262
    · rw [e36, px_RR, if_neg (fun z => absurd z.1 (by decide)), e27, px_RR, if_pos ⟨rfl, rfl⟩]
    · rw [e36, px_KR, e27, px_KR, px_KI, k20, if_neg qd]; exact k120
    · rw [e36, px_NR, e27, px_NR, px_NI, e20, px_NO, n8, n120]; exact Nat.zero_le _
    · rw [e36, px_NR, e27, px_NR, px_NI, e20, px_NO, n8, n120] at hn
      exact absurd hn (Nat.not_lt_zero j)
    · rw [e36, px_RR, if_neg (fun z => absurd z.1 (by decide)), e27, px_RR, if_pos ⟨rfl, rfl⟩])
abbrev ws_X0_addTest : List Cond := Cond.code yX0_addTest cX0_addTest 2 none :: W0
abbrev rm_X0_addTest : Room := ({ frames := 18, cells := 0, slots := 0, locals := 721 } : Room)
def wp_X0_addTest (T : Nat → ClassId) (P : HS → Prop) (x0 : Nat) (p0 : Nat) (S : HS) (mc ms : Nat) : Prop := ∃ b2 : Nat, hR S 24 x0 = some b2 ∧ (hK S b2 = 13 → (∃ cc4 cc5 : Nat, (cc4 ≤ mc ∧ cc5 ≤ ms) ∧ (∃ (m7 : Nat → Nat) (m8 : Nat), ((LiO S (T 120) b2 m8 9 m7 ∧ m8 ≤ 100 ∧ hK S (T 120) = 30 ∧ hN S (T 120) = 0 ∧ 1 ≤ cc4 ∧ 400 ≤ cc5) ∧ (∀ (v15 : Int32) (S10 : HS), ext S S10 → (v15 = 1 ∧ LiO S10 (T 120) b2 (m8 + 1) 9 (fun j => if j = m8 then p0 else m7 j) ∧ frM S S10 (liA S b2) ∧ (∃ b, hR S10 261 b2 = some b ∧ (hK S b = 0 ∨ liA S b2 b))) → (((hI S10 180 p0) = 0 → (P S10)) ∧ (¬ (hI S10 180 p0) = 0 → (∀ S21 : HS, S21 = putI S10 23 x0 ((hI S10 23 x0) + 1) → (P S21)))))))))
set_option maxRecDepth 100000 in
set_option maxHeartbeats 4000000 in
theorem t_X0_addTest {p : Program} {l : Launch} {e : Env} {s : State} {m : MethodId} {args : Array Value} {below : List Frame} {meth : Method} {c : Code} {D : va_G} {A : Nat → Prop} {T : Nat → ClassId} (C : GC p s m args meth c cX0_addTest "FreightRater$Accessorial" (ws_X0_addTest) 2 D A (zty T)) (E : GE T A s) (hr : meth.sig.returnType = none) (P : HS → Prop) : ∀ (x0 : Nat) (p0 : Nat) (S0 S : HS) (mc ms : Nat) (L : List Nat), S0 = S → wt S → hL S L → (hK S x0 = 1) → (hK S p0 = 9) → wp_X0_addTest T P x0 p0 S mc ms → GW p l e { rm_X0_addTest with cells := mc, slots := ms } s m args below meth c D A 2 mc ms (MQ below (va_Qv (fun (u : HS × List Nat) => P u.1 ∧ CO S0 u) (CE D T A) A) args s mc ms A) (CW T S L) mc ms 0 [(0, .ref x0), (1, .ref p0)] [] := by
  have hW : ∀ {w : Cond}, w ∈ W0 → w.before args s = true := fun h => C.2.2.2.2.1 _ (List.mem_cons_of_mem _ h)
  intro x0 p0 S0 S mc ms L hS0 hw hL hx0 hp0 h
  have he : ext S0 S := by rw [hS0]; exact ext_rf
  unfold wp_X0_addTest at h
  refine g_aload_n C dX0_addTest_0 rfl 0 rfl ?_
  refine gc_getR C hw iwx_X0 hL hx0 (by decide) (by decide) rfl 4 (by decide) (hW kw_751) rfl rfl rfl dX0_addTest_1 (fun o1 eo1 ko1 => ?_)
  obtain ⟨b2, hb9, h⟩ := h
  have g3 : hK S b2 = 13 := ko1 b2 (eo1.trans hb9)
  replace h := h g3
  refine g_opt (eo1.trans hb9) ?_
  refine g_aload_n C dX0_addTest_4 rfl 1 rfl ?_
  obtain ⟨cc4, cc5, g6, h⟩ := h
  obtain ⟨m7, m8, h⟩ := h
  obtain ⟨g9, h⟩ := h
  refine gc_calliV (host := "") C E hw hL g3 (by decide) (by decide) rfl [.ref p0] rfl (k_Jx4a65c_add_9ea2d l D T b2 p0 9 S m7 m8 cc4 cc5 g3 hp0 (Or.inr rfl) g9) (w0_V 1 C.2.2.2.2.1 kw_805 kw_806 kw_807 kw_22 kw_808 rfl rfl (by decide +kernel) ⟨Nat.le_of_ble_eq_true rfl, Nat.le_of_ble_eq_true rfl⟩) rfl (Nat.le_of_ble_eq_true rfl) (Nat.le_refl _) (Nat.le_refl _) g6.1 g6.2 dX0_addTest_5 (fun v15 S10 L11 e12 w13 w14 hp => ?_)
  replace h := h v15 S10 e12 hp
  have g16 := ext_K e12 hx0 (by decide)
  have g17 := ext_K e12 hp0 (by decide)
  have w18 := ext_tr he e12
  refine g_pop C dX0_addTest_8 rfl ?_
  refine g_aload_n C dX0_addTest_9 rfl 1 rfl ?_
  refine gc_getI C iwx_X8 w14 g17 (by decide) (by decide) rfl 0 (by decide) (hW kw_779) rfl rfl rfl dX0_addTest_10 ?_
  refine g_if_eq (tgt := 26) C dX0_addTest_13 (by decide) (fun z19 => ?_) (fun z19 => ?_)
  · replace h := h.1 z19
    exact gc_vret C w13 w14 w18 hr dX0_addTest_26 h
  · replace h := h.2 z19
    refine g_aload_n C dX0_addTest_16 rfl 0 rfl ?_
    refine g_dup C dX0_addTest_17 rfl ?_
    refine gc_getI C iwx_X0 w14 g16 (by decide) (by decide) rfl 3 (by decide) (hW kw_749) rfl rfl rfl dX0_addTest_18 ?_
    refine g_iconst (v := 1) C dX0_addTest_21 (by decide) ?_
    refine g_iadd C dX0_addTest_22 ?_
    refine gc_putI C iwx_X0 w14 g16 (by decide) (by decide) rfl 3 (by decide) (hW kw_749) rfl tyX0 tyX0_ok nmX0 rfl rfl rfl rfl rfl dX0_addTest_23 ?_
    have w20 := wt_putI w13 23 ((hI S10 23 x0) + 1) (k_ne g16 (by decide))
    refine gc_nS (fun S21 eS21 => ?_)
    replace h := h S21 eS21
    have w22 : wt S21 := by rw [eS21]; exact w20
    have w23 : isL S21 L11 := by rw [eS21]; exact w14
    have w24 : ext S0 S21 := by rw [eS21]; exact w18
    have g25 : hK S21 x0 = 1 := by rw [eS21]; exact g16
    have g26 : hK S21 p0 = 9 := by rw [eS21]; exact g17
    exact gc_vret C w22 w23 w24 hr dX0_addTest_26 h
theorem c_X0_addTest (l : Launch) (D : va_G) (T : Nat → ClassId) (x0 : Nat) (p0 : Nat) (S : HS) (mc ms : Nat) (hx0 : hK S x0 = 1) (hp0 : hK S p0 = 9) (P : HS → Prop) (h : wp_X0_addTest T P x0 p0 S mc ms) : CMv l yX0_addTest (ws_X0_addTest) rm_X0_addTest D T [.ref x0, .ref p0] S mc ms P := gc_metv (by decide) rfl rfl (Nat.le_of_ble_eq_true rfl) (fun p e s m args below meth c A L C E hnm hr hw hL => t_X0_addTest C E   hr P x0 p0 S S mc ms L rfl hw hL hx0 hp0 h)
theorem k_X0_addTest (l : Launch) (D : va_G) (T : Nat → ClassId) (x0 : Nat) (p0 : Nat) (S : HS) (e0 : Nat → Nat) (e1 : Nat) (e2 : Nat) (mc ms : Nat) (hx0 : hK S x0 = 1) (hp0 : hK S p0 = 9) (h : hR S 24 x0 = some e2 ∧ LiO S (T 120) e2 e1 9 e0 ∧ e1 ≤ 100 ∧ hK S (T 120) = 30 ∧ hN S (T 120) = 0 ∧ 1 ≤ mc ∧ 400 ≤ ms) : CMv l yX0_addTest (ws_X0_addTest) rm_X0_addTest D T [.ref x0, .ref p0] S mc ms (fun S1 => (frM S S1 (fun b => b = x0 ∨ liA S e2 b) ∧ LiO S1 (T 120) e2 (e1 + 1) 9 (fun j => if j = e1 then p0 else e0 j) ∧ hR S1 24 x0 = some e2 ∧ hI S1 23 x0 = (if hI S 180 p0 = 0 then hI S 23 x0 else hI S 23 x0 + 1) ∧ (∀ i, i ≠ 23 → hI S1 i x0 = hI S i x0) ∧ ∃ b, hR S1 261 e2 = some b ∧ (hK S b = 0 ∨ liA S e2 b))) := c_X0_addTest l D T x0 p0 S mc ms hx0 hp0 _ <|
  (by
    obtain ⟨r24, hL, hc, k120, n120, hmc, hms⟩ := h
    have h13 := hL.1
    have nx : ∀ b, liA S e2 b → b ≠ x0 := fun b hb z => by
      rcases hb with g | ⟨g, _⟩
      · rw [g] at z; rw [z, hx0] at h13; exact absurd h13 (by decide)
      · obtain ⟨_, _, ar, r1, hk, _⟩ := hL
        have e := Option.some.inj (r1.symm.trans g)
        rw [e, z, hx0] at hk
        exact absurd hk (by decide)
    unfold wp_X0_addTest
    refine ⟨e2, r24, fun _ => ⟨mc, ms, ⟨Nat.le_refl _, Nat.le_refl _⟩, e0, e1, ⟨hL, hc, k120, n120, hmc, hms⟩, fun v S10 _ h10 => ?_⟩⟩
    obtain ⟨_, L10, f10, b, b1, b2⟩ := h10
    have sx := f10 x0 (fun z => nx x0 z rfl) (by rw [hx0]; decide)
    have fr : frM S S10 (fun b => b = x0 ∨ liA S e2 b) := f10.sub (fun _ z => Or.inr z)
    have p9 : hI S10 180 p0 = hI S 180 p0 := by
      refine (f10 p0 (fun z => ?_) (by rw [hp0]; decide)).2.2.1 180
      rcases z with g | ⟨g, _⟩
      · rw [← g, hp0] at h13; exact absurd h13 (by decide)
      · obtain ⟨_, _, ar, r1, hk, _⟩ := hL
        have e := Option.some.inj (r1.symm.trans g)
        rw [e, hp0] at hk
        exact absurd hk (by decide)
    rw [p9]
    refine ⟨fun c => ⟨fr, L10, by rw [sx.2.2.2.1]; exact r24, by rw [if_pos c]; exact sx.2.2.1 23, fun i _ => sx.2.2.1 i, b, b1, b2⟩, fun c S21 e21 => ?_⟩
    have xl : ∀ {y : Nat}, hK S10 y = 13 ∨ hK S10 y = 30 → y ≠ x0 := fun {y} hy z => by rw [z, sx.1, hx0] at hy; omega
    obtain ⟨g13, gi, ar, g1, gk, g2, g3, g4, g5, g6⟩ := L10
    refine ⟨by rw [e21]; exact frM.pI (M := fun b => b = x0 ∨ liA S e2 b) fr (Or.inl rfl) _ _, ?_, ?_, ?_, fun i hi => ?_, b, by rw [e21, px_RI]; exact b1, b2⟩
    · rw [e21]
      refine ⟨by rw [px_KI]; exact g13, by rw [px_II, if_neg (fun z => xl (Or.inl g13) z.2)]; exact gi, ar, by rw [px_RI]; exact g1, by rw [px_KI]; exact gk, by rw [px_NI]; exact g2, by rw [px_NI]; exact g3, fun z => g4 (by rw [px_NI] at z; exact z), fun j hj => by rw [px_BI, px_KI]; exact g5 j hj, fun j hj hn => by rw [px_BI]; rw [px_NI] at hn; exact g6 j hj hn⟩
    · rw [e21, px_RI, sx.2.2.2.1]; exact r24
    · rw [e21, putI_s, if_neg c, sx.2.2.1]
    · rw [e21, px_II, if_neg (fun z => hi z.1)]; exact sx.2.2.1 i)

end S_C7B
