section S_CAH
abbrev ws_X10_post : List Cond := Cond.code yX10_post cX10_post 4 (some .int) :: W0
abbrev rm_X10_post : Room := ({ frames := 17, cells := 0, slots := 0, locals := 522 } : Room)
def wb_X10_post_60 (rec : Nat → Int32 → HS → Nat → Nat → Prop) (P : Int32 → HS → Prop) (X : String → HS → Prop) (x0 : Nat) (x2 : Int32) (S : HS) (kc ks : Nat) : Prop := ∃ b95 : Nat, hR S 233 x0 = some b95 ∧ (hK S b95 = 2 → (((hI S 47 b95) ≤ x2 → (∃ b99 : Nat, hR S 220 x0 = some b99 ∧ (hK S b99 = 7 → (∃ b102 : Nat, hR S 233 x0 = some b102 ∧ (hK S b102 = 2 → (∀ S105 : HS, S105 = putI S 147 b99 ((hI S 147 b99) + (hI S 47 b102)) → (∃ b111 : Nat, hR S105 233 x0 = some b111 ∧ (hK S105 b111 = 2 → (∃ (m113 : Nat → Nat) (m114 : List Nat), ((PlO S105 b111 m113 ∧ PlP S105 b111 m113 m114) ∧ (P (suL (hA S105 (m113 1)) m114 0) S105))))))))))) ∧ (¬ (hI S 47 b95) ≤ x2 → (∃ b121 : Nat, hR S 233 x0 = some b121 ∧ (hK S b121 = 2 → (∃ b124 : Nat, hR S 46 b121 = some b124 ∧ (hK S b124 = 22 → (vp_in x2 (hN S b124) ∧ (∀ v127 : Int32, v127 = (hA S b124 (Int32.toNatClampNeg x2)) → (∃ b129 : Nat, hR S 233 x0 = some b129 ∧ (hK S b129 = 2 → (∃ b132 : Nat, hR S 41 b129 = some b132 ∧ (hK S b132 = 22 → (vp_in v127 (hN S b132) ∧ (∃ b136 : Nat, hR S 233 x0 = some b136 ∧ (hK S b136 = 2 → (∃ b139 : Nat, hR S 42 b136 = some b139 ∧ (hK S b139 = 22 → (vp_in v127 (hN S b139) ∧ (∃ cc142 cc143 : Nat, (cc142 ≤ kc ∧ cc143 ≤ ks) ∧ (∃ (m145 : (Nat → Nat)) (m146 : (Nat → Nat → Int32)) (m147 : (Nat → Int32)) (m148 : (Nat → Int32)) (m149 : (List Int32)) (m150 : Nat) (m151 : Nat), ((FrS S m145 m146 m147 m148 m149 ∧ x0 = m145 50 ∧ (hA S b132 (Int32.toNatClampNeg v127)) = nI m150 ∧ (hA S b139 (Int32.toNatClampNeg v127)) = nI m151 ∧ m151 ≤ 1000000000 ∧ 0 < m150 ∧ m150 < 2 ^ iv (m146 0 1) ∧ sg0 (m146 0) m150 ∧ 21 ≤ cc142 ∧ 150 ≤ cc143) ∧ (∀ (S153 : HS), ext S S153 → (FrS S153 m145 (fun t => if t = 0 then shrF (m146 0) m150 m151 else m146 t) m147 m148 m149 ∧ ∀ i, 57 ≤ i → i < 64 → sam S S153 (m145 i)) → (∀ v160 : Int32, v160 = x2 + 1 → (rec x0 v160 S153 (kc - cc142) (ks - cc143))))))))))))))))))))))))))
def wp_X10_post_60 (P : Int32 → HS → Prop) (X : String → HS → Prop) : Nat → Nat → Int32 → HS → Nat → Nat → Prop
  | 0 => fun _ _ _ _ _ => False
  | n + 1 => fun x0 x2 S kc ks => wb_X10_post_60 (wp_X10_post_60  P X n)  P X x0 x2 S kc ks
set_option maxRecDepth 100000 in
set_option maxHeartbeats 4000000 in
theorem t_X10_post_60 {p : Program} {l : Launch} {e : Env} {s : State} {m : MethodId} {args : Array Value} {below : List Frame} {meth : Method} {c : Code} {D : va_G} {A : Nat → Prop} {T : Nat → ClassId} {mc ms : Nat} (C : GC p s m args meth c cX10_post "FreightRater" (ws_X10_post) 4 D A (zty T)) (E : GE T A s) (hst : l.stackTraces = false) (htab : ∀ z ∈ c.exceptionTable.toList, False) (hr : meth.sig.returnType = (some .int)) (S0 : HS) (P : Int32 → HS → Prop) (X : String → HS → Prop) : ∀ (n : Nat) (x0 : Nat) (x2 : Int32) (S : HS) (kc ks : Nat) (L : List Nat), wt S → hL S L → ext S0 S → (hK S x0 = 11) → wp_X10_post_60  P X n x0 x2 S kc ks → GW p l e { rm_X10_post with cells := mc, slots := ms } s m args below meth c D A 4 mc ms (vx_MQ below (va_Qi (fun v (u : HS × List Nat) => P v u.1 ∧ CO S0 u) (CE D T A) A) (CXX D T A S0 X) args s mc ms A) (CW T S L) kc ks 60 [(0, .ref x0), (2, .int x2)] [] := by
  have hW : ∀ {w : Cond}, w ∈ W0 → w.before args s = true := fun h => C.2.2.2.2.1 _ (List.mem_cons_of_mem _ h)
  intro n
  induction n with
  | zero => intro x0 x2 S kc ks L hw hL he hx0 h; exact h.elim
  | succ n ih =>
    intro x0 x2 S kc ks L hw hL he hx0 h
    replace h : wb_X10_post_60 (wp_X10_post_60  P X n)  P X x0 x2 S kc ks := h
    unfold wb_X10_post_60 at h
    refine g_iload_n C dX10_post_60 rfl 1 rfl ?_
    refine g_aload_n C dX10_post_61 rfl 0 rfl ?_
    refine gc_getR C hw iwx_X10 hL hx0 (by decide) (by decide) rfl 13 (by decide) (hW kw_255) rfl rfl rfl dX10_post_62 (fun o94 eo94 ko94 => ?_)
    obtain ⟨b95, hb9, h⟩ := h
    have g96 : hK S b95 = 2 := ko94 b95 (eo94.trans hb9)
    replace h := h g96
    refine g_opt (eo94.trans hb9) ?_
    refine gc_getI C iwx_X1 hL g96 (by decide) (by decide) rfl 7 (by decide) (hW kw_224) rfl rfl rfl dX10_post_65 ?_
    refine g_icmp_ge (tgt := 109) C dX10_post_68 (by decide) (fun z97 => ?_) (fun z97 => ?_)
    · replace h := h.1 z97
      refine g_aload_n C dX10_post_109 rfl 0 rfl ?_
      refine gc_getR C hw iwx_X10 hL hx0 (by decide) (by decide) rfl 0 (by decide) (hW kw_242) rfl rfl rfl dX10_post_110 (fun o98 eo98 ko98 => ?_)
      obtain ⟨b99, hb9, h⟩ := h
      have g100 : hK S b99 = 7 := ko98 b99 (eo98.trans hb9)
      replace h := h g100
      refine g_opt (eo98.trans hb9) ?_
      refine g_dup C dX10_post_113 rfl ?_
      refine gc_getI C iwx_X6 hL g100 (by decide) (by decide) rfl 7 (by decide) (hW kw_73) rfl rfl rfl dX10_post_114 ?_
      refine g_aload_n C dX10_post_117 rfl 0 rfl ?_
      refine gc_getR C hw iwx_X10 hL hx0 (by decide) (by decide) rfl 13 (by decide) (hW kw_255) rfl rfl rfl dX10_post_118 (fun o101 eo101 ko101 => ?_)
      obtain ⟨b102, hb9, h⟩ := h
      have g103 : hK S b102 = 2 := ko101 b102 (eo101.trans hb9)
      replace h := h g103
      refine g_opt (eo101.trans hb9) ?_
      refine gc_getI C iwx_X1 hL g103 (by decide) (by decide) rfl 7 (by decide) (hW kw_224) rfl rfl rfl dX10_post_121 ?_
      refine g_iadd C dX10_post_124 ?_
      refine gc_putI C iwx_X6 hL g100 (by decide) (by decide) rfl 7 (by decide) (hW kw_73) rfl tyX6 tyX6_ok nmX6 rfl rfl rfl rfl rfl dX10_post_125 ?_
      have w104 := wt_putI hw 147 ((hI S 147 b99) + (hI S 47 b102)) (k_ne g100 (by decide))
      refine gc_nS (fun S105 eS105 => ?_)
      replace h := h S105 eS105
      have w106 : wt S105 := by rw [eS105]; exact w104
      have w107 : isL S105 L := by rw [eS105]; exact hL
      have w108 : ext S0 S105 := by rw [eS105]; exact he
      have g109 : hK S105 x0 = 11 := by rw [eS105]; exact hx0
      refine g_aload_n C dX10_post_128 rfl 0 rfl ?_
      refine gc_getR C w106 iwx_X10 w107 g109 (by decide) (by decide) rfl 13 (by decide) (hW kw_255) rfl rfl rfl dX10_post_129 (fun o110 eo110 ko110 => ?_)
      obtain ⟨b111, hb9, h⟩ := h
      have g112 : hK S105 b111 = 2 := ko110 b111 (eo110.trans hb9)
      replace h := h g112
      refine g_opt (eo110.trans hb9) ?_
      obtain ⟨m113, m114, h⟩ := h
      obtain ⟨g115, h⟩ := h
      refine gc_calliV (host := "") C E w106 w107 g112 (by decide) (by decide) rfl [] rfl (k_X1_total l D T b111 S105 m113 m114 g112 g115) (w0_V 0 C.2.2.2.2.1 kw_1369 kw_1370 kw_1371 kw_8 kw_1372 rfl rfl (by decide +kernel) ⟨Nat.le_of_ble_eq_true rfl, Nat.le_of_ble_eq_true rfl⟩) rfl (Nat.le_of_ble_eq_true rfl) (Nat.le_refl _) (Nat.le_refl _) (Nat.zero_le _) (Nat.zero_le _) dX10_post_132 (fun v9 S9 L116 he9 hw9 hL9 hp => ?_)
      obtain ⟨hv9, hs9⟩ := hp
      replace hs9 := hs9.symm
      subst hs9
      replace hv9 := hv9.symm
      subst hv9
      have w119 := hL9
      exact gx_iret C w106 w119 w108 hr dX10_post_135 h
    · replace h := h.2 z97
      refine g_aload_n C dX10_post_71 rfl 0 rfl ?_
      refine gc_getR C hw iwx_X10 hL hx0 (by decide) (by decide) rfl 13 (by decide) (hW kw_255) rfl rfl rfl dX10_post_72 (fun o120 eo120 ko120 => ?_)
      obtain ⟨b121, hb9, h⟩ := h
      have g122 : hK S b121 = 2 := ko120 b121 (eo120.trans hb9)
      replace h := h g122
      refine g_opt (eo120.trans hb9) ?_
      refine gc_getR C hw iwx_X1 hL g122 (by decide) (by decide) rfl 6 (by decide) (hW kw_222) rfl rfl rfl dX10_post_75 (fun o123 eo123 ko123 => ?_)
      obtain ⟨b124, hb9, h⟩ := h
      have g125 : hK S b124 = 22 := ko123 b124 (eo123.trans hb9)
      replace h := h g125
      refine g_opt (eo123.trans hb9) ?_
      refine g_iload_n C dX10_post_78 rfl 1 rfl ?_
      obtain ⟨g126, h⟩ := h
      refine gc_iald C hL g125 g126 dX10_post_79 ?_
      refine g_topi (fun v127 ev127 => ?_)
      replace h := h v127 ev127
      refine g_istore_n (lv' := [(3, .int v127), (0, .ref x0), (2, .int x2)]) C dX10_post_80 rfl (by decide) rfl ?_
      refine g_aload_n C dX10_post_81 rfl 1 rfl ?_
      refine g_aload_n C dX10_post_82 rfl 1 rfl ?_
      refine gc_getR C hw iwx_X10 hL hx0 (by decide) (by decide) rfl 13 (by decide) (hW kw_255) rfl rfl rfl dX10_post_83 (fun o128 eo128 ko128 => ?_)
      obtain ⟨b129, hb9, h⟩ := h
      have g130 : hK S b129 = 2 := ko128 b129 (eo128.trans hb9)
      replace h := h g130
      refine g_opt (eo128.trans hb9) ?_
      refine gc_getR C hw iwx_X1 hL g130 (by decide) (by decide) rfl 1 (by decide) (hW kw_215) rfl rfl rfl dX10_post_86 (fun o131 eo131 ko131 => ?_)
      obtain ⟨b132, hb9, h⟩ := h
      have g133 : hK S b132 = 22 := ko131 b132 (eo131.trans hb9)
      replace h := h g133
      refine g_opt (eo131.trans hb9) ?_
      refine g_iload_n C dX10_post_89 rfl 0 rfl ?_
      obtain ⟨g134, h⟩ := h
      refine gc_iald C hL g133 g134 dX10_post_90 ?_
      refine g_aload_n C dX10_post_91 rfl 1 rfl ?_
      refine gc_getR C hw iwx_X10 hL hx0 (by decide) (by decide) rfl 13 (by decide) (hW kw_255) rfl rfl rfl dX10_post_92 (fun o135 eo135 ko135 => ?_)
      obtain ⟨b136, hb9, h⟩ := h
      have g137 : hK S b136 = 2 := ko135 b136 (eo135.trans hb9)
      replace h := h g137
      refine g_opt (eo135.trans hb9) ?_
      refine gc_getR C hw iwx_X1 hL g137 (by decide) (by decide) rfl 2 (by decide) (hW kw_217) rfl rfl rfl dX10_post_95 (fun o138 eo138 ko138 => ?_)
      obtain ⟨b139, hb9, h⟩ := h
      have g140 : hK S b139 = 22 := ko138 b139 (eo138.trans hb9)
      replace h := h g140
      refine g_opt (eo138.trans hb9) ?_
      refine g_iload_n C dX10_post_98 rfl 0 rfl ?_
      obtain ⟨g141, h⟩ := h
      refine gc_iald C hL g140 g141 dX10_post_99 ?_
      obtain ⟨cc142, cc143, g144, h⟩ := h
      obtain ⟨m145, m146, m147, m148, m149, m150, m151, h⟩ := h
      obtain ⟨g152, h⟩ := h
      refine gc_callvV (host := "") C E hw hL hx0 (by decide) (by decide) rfl [.int (hA S b132 (Int32.toNatClampNeg v127)), .int (hA S b139 (Int32.toNatClampNeg v127))] rfl (k_X10_divide l D T x0 (hA S b132 (Int32.toNatClampNeg v127)) (hA S b139 (Int32.toNatClampNeg v127)) S m145 m146 m147 m148 m149 m150 m151 cc142 cc143 hx0 g152) (w0_V 2 C.2.2.2.2.1 kw_1438 kw_1440 ks_49 kw_1 kw_1441 rfl rfl (by decide +kernel) ⟨Nat.le_of_ble_eq_true rfl, Nat.le_of_ble_eq_true rfl⟩) rfl (Nat.le_of_ble_eq_true rfl) (Nat.le_refl _) (Nat.le_refl _) g144.1 g144.2 dX10_post_100 (fun S153 L154 e155 w156 w157 hp => ?_)
      replace h := h S153 e155 hp
      have g158 := ext_K e155 hx0 (by decide)
      have w159 := ext_tr he e155
      obtain ⟨v160, ev160⟩ : ∃ y : Int32, y = x2 + 1 := ⟨_, rfl⟩
      replace h := h v160 ev160
      refine g_iinc (v := v160) (lv' := [(2, .int v160), (3, .int v127), (0, .ref x0)]) C dX10_post_103 (j := 2) rfl (by rw [ev160]; rfl) (by decide) rfl ?_
      refine g_goto (tgt := 60) C dX10_post_106 (by decide) ?_
      refine g_locals [2, 0] rfl ?_
      exact ih x0 v160 S153 (kc - cc142) (ks - cc143) L154 w156 w157 w159 g158 h
def wp_X10_post (P : Int32 → HS → Prop) (X : String → HS → Prop) (x0 : Nat) (p0 : Int32) (S : HS) (mc ms : Nat) : Prop := ∃ cc1 cc2 : Nat, (cc1 ≤ mc ∧ cc2 ≤ ms) ∧ (∃ (m4 : (Nat → Nat)) (m5 : (Nat → Nat → Int32)) (m6 : (Nat → Int32)) (m7 : (Nat → Int32)) (m8 : (List Int32)), ((FrS S m4 m5 m6 m7 m8 ∧ x0 = m4 50 ∧ 2 ≤ cc1 ∧ 12 ≤ cc2) ∧ ((∀ (E9 : String) (S9 : HS), ext S S9 → (((lckF (m5 0) p0 8 = 1 ∧ E9 = "java/lang/IndexOutOfBoundsException") ∨ (lckF (m5 0) p0 8 = 2 ∧ E9 = "java/lang/IllegalArgumentException")) ∧ S9 = S) → X E9 S9) ∧ (∀ (S10 : HS), ext S S10 → (lckF (m5 0) p0 8 = 0 ∧ S10 = S) → (∃ b19 : Nat, hR S10 220 x0 = some b19 ∧ (hK S10 b19 = 7 → (∃ (m21 : (Nat → Prop)) (m22 : Nat → Int32), ((WF m22 ∧ RelSt S10 m21 b19 m22) ∧ (((p0 &&& (posF m22)) = 0 → (∃ cc29 cc30 : Nat, (cc29 ≤ (mc - cc1) ∧ cc30 ≤ (ms - cc2)) ∧ (∃ (m32 : (Nat → Nat)) (m33 : (Nat → Nat → Int32)) (m34 : (Nat → Int32)) (m35 : (Nat → Int32)) (m36 : (List Int32)), ((FrS S10 m32 m33 m34 m35 m36 ∧ x0 = m32 50 ∧ gok (m33 0) p0 ∧ 1 ≤ cc29 ∧ 6 ≤ cc30) ∧ ((∀ (E9 : String) (S9 : HS), ext S10 S9 → (E9 = "java/lang/IllegalStateException" ∧ ∃ t, rfF (m33 0) (iv p0) = some t ∧ FrS S9 m32 m33 (if (1 : Int32) = 0 then m34 else kpG m34 (nI (rsnD (m33 0) (2 ^ t)).1) (rsnD (m33 0) (2 ^ t)).2) m35 m36) → X E9 S9) ∧ (∀ (S38 : HS), ext S10 S38 → (rfF (m33 0) (iv p0) = none ∧ FrS S38 m32 m33 m34 m35 m36) → (∃ b47 : Nat, hR S38 233 x0 = some b47 ∧ (hK S38 b47 = 2 → (∃ b50 : Nat, hR S38 220 x0 = some b50 ∧ (hK S38 b50 = 7 → (∃ b53 : Nat, hR S38 232 x0 = some b53 ∧ (hK S38 b53 = 3 → (∃ (m55 : (Nat → Prop)) (m56 : Nat → Int32) (m57 : Nat → Nat) (m58 : Nat), ((prC S38 m55 b50 m56 b53 b47 m57 ∧ m58 < 2 ^ iv (m56 1) ∧ p0 = nI m58 ∧ (memL m58 10 0).length ≤ 8 ∧ hA S38 (m57 0) 0 = 0) ∧ (∀ (S60 : HS), ext S38 S60 → (frQ S38 S60 b47 b53 m57 ∧ hI S60 40 b47 = nI (memL m58 10 0).length ∧ hI S60 47 b47 = hI S38 47 b47 ∧ (∀ p, p < 2 ^ (memL m58 10 0).length → hA S60 (m57 0) p = nI (spr (memL m58 10 0) (memL m58 10 0).length p)) ∧ ∀ p, 0 < p → p < 2 ^ (memL m58 10 0).length → hA S60 (m57 1) p = ttF m56 (spr (memL m58 10 0) (memL m58 10 0).length p)) → (∃ b68 : Nat, hR S60 233 x0 = some b68 ∧ (hK S60 b68 = 2 → (∃ (m70 : Nat → Nat) (m71 : Nat) (m72 : List Nat), ((PlO S60 b68 m70 ∧ hI S60 40 b68 = nI m71 ∧ m71 ≤ 8 ∧ m72.length ≤ 8 ∧ (fbK (hA S60 (m70 1)) (2 ^ m71 - 1) 1 (roW S60 m70)).2.1 (2 ^ m71 - 1) = nI m72.length ∧ chn (fbK (hA S60 (m70 1)) (2 ^ m71 - 1) 1 (roW S60 m70)).2.2 (2 ^ m71 - 1) m72) ∧ (∀ (S74 : HS), ext S60 S74 → (frP S60 S74 b68 m70 [47] [2, 3, 4, 5] ∧ PlP S74 b68 m70 m72 ∧ hA S74 (m70 2) 0 = hA S60 (m70 2) 0 ∧ hA S74 (m70 3) 0 = hA S60 (m70 3) 0) → (∃ (m81 : (Nat → Nat)) (m82 : (Nat → Nat → Int32)) (m83 : (Nat → Int32)) (m84 : (Nat → Int32)) (m85 : (List Int32)), ((FrS S74 m81 m82 m83 m84 m85 ∧ x0 = m81 50) ∧ (∀ (S87 : HS), ext S74 S87 → (FrS S87 m81 (rmU m82 m83) (rmG m83) m84 m85 ∧ frM S74 S87 (fxM m81) ∧ hK S87 = hK S74 ∧ hR S87 = hR S74 ∧ (∀ i, 54 ≤ i → i < 64 → sam S74 S87 (m81 i))) → (∃ k161 : Nat, wp_X10_post_60  P X k161 x0 0 S87 ((mc - cc1) - cc29) ((ms - cc2) - cc30))))))))))))))))))))))))) ∧ (¬ (p0 &&& (posF m22)) = 0 → ((1 ≤ (mc - cc1) ∧ 6 ≤ (ms - cc2)) ∧ X "java/lang/UnsupportedOperationException" S10)))))))))))
set_option maxRecDepth 100000 in
set_option maxHeartbeats 4000000 in
theorem t_X10_post {p : Program} {l : Launch} {e : Env} {s : State} {m : MethodId} {args : Array Value} {below : List Frame} {meth : Method} {c : Code} {D : va_G} {A : Nat → Prop} {T : Nat → ClassId} (C : GC p s m args meth c cX10_post "FreightRater" (ws_X10_post) 4 D A (zty T)) (E : GE T A s) (hst : l.stackTraces = false) (htab : ∀ z ∈ c.exceptionTable.toList, False) (hr : meth.sig.returnType = (some .int)) (P : Int32 → HS → Prop) (X : String → HS → Prop) : ∀ (x0 : Nat) (p0 : Int32) (S0 S : HS) (mc ms : Nat) (L : List Nat), S0 = S → wt S → hL S L → (hK S x0 = 11) → wp_X10_post P X x0 p0 S mc ms → GW p l e { rm_X10_post with cells := mc, slots := ms } s m args below meth c D A 4 mc ms (vx_MQ below (va_Qi (fun v (u : HS × List Nat) => P v u.1 ∧ CO S0 u) (CE D T A) A) (CXX D T A S0 X) args s mc ms A) (CW T S L) mc ms 0 [(0, .ref x0), (1, .int p0)] [] := by
  have hW : ∀ {w : Cond}, w ∈ W0 → w.before args s = true := fun h => C.2.2.2.2.1 _ (List.mem_cons_of_mem _ h)
  intro x0 p0 S0 S mc ms L hS0 hw hL hx0 h
  have he : ext S0 S := by rw [hS0]; exact ext_rf
  unfold wp_X10_post at h
  refine g_aload_n C dX10_post_0 rfl 0 rfl ?_
  refine g_iload_n C dX10_post_1 rfl 1 rfl ?_
  obtain ⟨cc1, cc2, g3, h⟩ := h
  obtain ⟨m4, m5, m6, m7, m8, h⟩ := h
  obtain ⟨g9, h⟩ := h
  obtain ⟨g15, h⟩ := h
  refine gx_callvV (host := "") C E hw hL hx0 (by decide) (by decide) rfl [.int p0] rfl (k_X10_requireSet l hst D T x0 p0 S m4 m5 m6 m7 m8 cc1 cc2 hx0 g9) (w0_V 1 C.2.2.2.2.1 kw_1330 kw_1332 ks_40 kw_1 kw_1333 rfl rfl (by decide +kernel) ⟨Nat.le_of_ble_eq_true rfl, Nat.le_of_ble_eq_true rfl⟩) rfl (Nat.le_of_ble_eq_true rfl) (Nat.le_refl _) (Nat.le_refl _) g3.1 g3.2 dX10_post_2 he htab g15 (fun S10 L11 e12 w13 w14 hp => ?_)
  replace h := h S10 e12 hp
  have g16 := ext_K e12 hx0 (by decide)
  have w17 := ext_tr he e12
  refine g_iload_n C dX10_post_5 rfl 1 rfl ?_
  refine g_aload_n C dX10_post_6 rfl 0 rfl ?_
  refine gc_getR C w13 iwx_X10 w14 g16 (by decide) (by decide) rfl 0 (by decide) (hW kw_242) rfl rfl rfl dX10_post_7 (fun o18 eo18 ko18 => ?_)
  obtain ⟨b19, hb9, h⟩ := h
  have g20 : hK S10 b19 = 7 := ko18 b19 (eo18.trans hb9)
  replace h := h g20
  refine g_opt (eo18.trans hb9) ?_
  obtain ⟨m21, m22, h⟩ := h
  obtain ⟨g23, h⟩ := h
  refine gc_calliV (host := "") C E w13 w14 g20 (by decide) (by decide) rfl [] rfl (k_X6_postedSet l D T b19 S10 m21 m22 g20 g23) (w0_V 0 C.2.2.2.2.1 kw_1433 kw_1434 kw_1435 kw_2 kw_1436 rfl rfl (by decide +kernel) ⟨Nat.le_of_ble_eq_true rfl, Nat.le_of_ble_eq_true rfl⟩) rfl (Nat.le_of_ble_eq_true rfl) (Nat.le_refl _) (Nat.le_refl _) (Nat.zero_le _) (Nat.zero_le _) dX10_post_10 (fun v9 S9 L24 he9 hw9 hL9 hp => ?_)
  obtain ⟨hv9, hs9⟩ := hp
  replace hs9 := hs9.symm
  subst hs9
  replace hv9 := hv9.symm
  subst hv9
  have w27 := hL9
  refine g_iand C dX10_post_13 ?_
  refine g_if_eq (tgt := 25) C dX10_post_14 (by decide) (fun z28 => ?_) (fun z28 => ?_)
  · replace h := h.1 z28
    refine g_aload_n C dX10_post_25 rfl 0 rfl ?_
    refine g_iload_n C dX10_post_26 rfl 1 rfl ?_
    refine g_iconst (v := 1) C dX10_post_27 (by decide) ?_
    obtain ⟨cc29, cc30, g31, h⟩ := h
    obtain ⟨m32, m33, m34, m35, m36, h⟩ := h
    obtain ⟨g37, h⟩ := h
    obtain ⟨g43, h⟩ := h
    refine gx_callvV (host := "") C E w13 w27 g16 (by decide) (by decide) rfl [.int p0, .int 1] rfl (k_X10_requireSingles l hst D T x0 p0 1 S10 m32 m33 m34 m35 m36 cc29 cc30 g16 g37) (w0_V 2 C.2.2.2.2.1 kw_1340 kw_1342 ks_41 kw_1 kw_1343 rfl rfl (by decide +kernel) ⟨Nat.le_of_ble_eq_true rfl, Nat.le_of_ble_eq_true rfl⟩) rfl (Nat.le_of_ble_eq_true rfl) (Nat.le_refl _) (Nat.le_refl _) g31.1 g31.2 dX10_post_28 w17 htab g43 (fun S38 L39 e40 w41 w42 hp => ?_)
    replace h := h S38 e40 hp
    have g44 := ext_K e40 g16 (by decide)
    have w45 := ext_tr w17 e40
    refine g_aload_n C dX10_post_31 rfl 0 rfl ?_
    refine gc_getR C w41 iwx_X10 w42 g44 (by decide) (by decide) rfl 13 (by decide) (hW kw_255) rfl rfl rfl dX10_post_32 (fun o46 eo46 ko46 => ?_)
    obtain ⟨b47, hb9, h⟩ := h
    have g48 : hK S38 b47 = 2 := ko46 b47 (eo46.trans hb9)
    replace h := h g48
    refine g_opt (eo46.trans hb9) ?_
    refine g_aload_n C dX10_post_35 rfl 0 rfl ?_
    refine gc_getR C w41 iwx_X10 w42 g44 (by decide) (by decide) rfl 0 (by decide) (hW kw_242) rfl rfl rfl dX10_post_36 (fun o49 eo49 ko49 => ?_)
    obtain ⟨b50, hb9, h⟩ := h
    have g51 : hK S38 b50 = 7 := ko49 b50 (eo49.trans hb9)
    replace h := h g51
    refine g_opt (eo49.trans hb9) ?_
    refine g_iload_n C dX10_post_39 rfl 1 rfl ?_
    refine g_aload_n C dX10_post_40 rfl 0 rfl ?_
    refine gc_getR C w41 iwx_X10 w42 g44 (by decide) (by decide) rfl 12 (by decide) (hW kw_254) rfl rfl rfl dX10_post_41 (fun o52 eo52 ko52 => ?_)
    obtain ⟨b53, hb9, h⟩ := h
    have g54 : hK S38 b53 = 3 := ko52 b53 (eo52.trans hb9)
    replace h := h g54
    refine g_opt (eo52.trans hb9) ?_
    obtain ⟨m55, m56, m57, m58, h⟩ := h
    obtain ⟨g59, h⟩ := h
    refine gc_callvV (host := "") C E w41 w42 g48 (by decide) (by decide) rfl [.ref b50, .int p0, .ref b53] rfl (k_X1_prepare l D T b47 b50 p0 b53 S38 m55 m56 m57 m58 g48 g51 g54 g59) (w0_V 3 C.2.2.2.2.1 kw_1345 kw_1346 kw_1347 kw_8 kw_1348 rfl rfl (by decide +kernel) ⟨Nat.le_of_ble_eq_true rfl, Nat.le_of_ble_eq_true rfl⟩) rfl (Nat.le_of_ble_eq_true rfl) (Nat.le_refl _) (Nat.le_refl _) (Nat.zero_le _) (Nat.zero_le _) dX10_post_44 (fun S60 L61 e62 w63 w64 hp => ?_)
    replace h := h S60 e62 hp
    have g65 := ext_K e62 g44 (by decide)
    have w66 := ext_tr w45 e62
    refine g_aload_n C dX10_post_47 rfl 0 rfl ?_
    refine gc_getR C w63 iwx_X10 w64 g65 (by decide) (by decide) rfl 13 (by decide) (hW kw_255) rfl rfl rfl dX10_post_48 (fun o67 eo67 ko67 => ?_)
    obtain ⟨b68, hb9, h⟩ := h
    have g69 : hK S60 b68 = 2 := ko67 b68 (eo67.trans hb9)
    replace h := h g69
    refine g_opt (eo67.trans hb9) ?_
    obtain ⟨m70, m71, m72, h⟩ := h
    obtain ⟨g73, h⟩ := h
    refine gc_callvV (host := "") C E w63 w64 g69 (by decide) (by decide) rfl [] rfl (k_X1_findBest l D T b68 S60 m70 m71 m72 g69 g73) (w0_V 0 C.2.2.2.2.1 kw_1356 kw_1357 kw_1358 kw_8 kw_1359 rfl rfl (by decide +kernel) ⟨Nat.le_of_ble_eq_true rfl, Nat.le_of_ble_eq_true rfl⟩) rfl (Nat.le_of_ble_eq_true rfl) (Nat.le_refl _) (Nat.le_refl _) (Nat.zero_le _) (Nat.zero_le _) dX10_post_51 (fun S74 L75 e76 w77 w78 hp => ?_)
    replace h := h S74 e76 hp
    have g79 := ext_K e76 g65 (by decide)
    have w80 := ext_tr w66 e76
    refine g_aload_n C dX10_post_54 rfl 0 rfl ?_
    obtain ⟨m81, m82, m83, m84, m85, h⟩ := h
    obtain ⟨g86, h⟩ := h
    refine gc_callvV (host := "") C E w77 w78 g79 (by decide) (by decide) rfl [] rfl (k_X10_remember l D T x0 S74 m81 m82 m83 m84 m85 g79 g86) (w0_V 0 C.2.2.2.2.1 kw_495 kw_497 ks_1 kw_1 kw_498 rfl rfl (by decide +kernel) ⟨Nat.le_of_ble_eq_true rfl, Nat.le_of_ble_eq_true rfl⟩) rfl (Nat.le_of_ble_eq_true rfl) (Nat.le_refl _) (Nat.le_refl _) (Nat.zero_le _) (Nat.zero_le _) dX10_post_55 (fun S87 L88 e89 w90 w91 hp => ?_)
    replace h := h S87 e89 hp
    have g92 := ext_K e89 g79 (by decide)
    have w93 := ext_tr w80 e89
    refine g_iconst (v := 0) C dX10_post_58 (by decide) ?_
    refine g_istore_n (lv' := [(2, .int 0), (0, .ref x0), (1, .int p0)]) C dX10_post_59 rfl (by decide) rfl ?_
    refine g_locals [1, 0] rfl ?_
    obtain ⟨k161, h⟩ := h
    refine t_X10_post_60 C E hst htab hr S0  P X  k161 x0 0 S87 ((mc - cc1) - cc29) ((ms - cc2) - cc30) L88 w90 w91 w93 g92 h
  · replace h := h.2 z28
    obtain ⟨g162, h⟩ := h
    exact gx_throw (cls := "java/lang/UnsupportedOperationException") (names := ["java/lang/RuntimeException", "java/lang/Exception"]) C E hst w13 w27 w17 (Nat.le_refl _) (Nat.le_refl _) (by decide) (by decide) (hW kw_943) (hW kw_33) (th_FreightRater_129 hW E) tv_FreightRater_129 dX10_post_17 dX10_post_20 dX10_post_21 dX10_post_24 htab (Nat.le_of_ble_eq_true rfl) (Nat.le_of_ble_eq_true rfl) g162.1 g162.2 h
theorem c_X10_post (l : Launch) (hst : l.stackTraces = false) (D : va_G) (T : Nat → ClassId) (x0 : Nat) (p0 : Int32) (S : HS) (mc ms : Nat) (hx0 : hK S x0 = 11) (P : Int32 → HS → Prop) (X : String → HS → Prop) (h : wp_X10_post P X x0 p0 S mc ms) : CXi l yX10_post (ws_X10_post) rm_X10_post D T [.ref x0, .int p0] S mc ms P X := gx_meti (by decide) rfl rfl (Nat.le_of_ble_eq_true rfl) (fun p e s m args below meth c A L C E hnm hr htab hw hL => t_X10_post C E hst htab hr P X x0 p0 S S mc ms L rfl hw hL hx0 h)
theorem upd_cm {r : Nat → Int32} {i j : Nat} {x y : Int32} (h : i ≠ j) : upd (upd r i x) j y = upd (upd r j y) i x := by
  funext k
  unfold upd
  by_cases c : k = i
  · subst c; rw [if_neg h, if_pos rfl, if_pos rfl]
  · by_cases d : k = j
    · rw [if_pos d, if_neg c, if_pos d]
    · rw [if_neg d, if_neg c, if_neg c, if_neg d]
theorem eqS_3 {μ : Nat → Int32} {x : Int32} : eqS μ (upd μ 3 x) := eqS.rf.u3 x
theorem shN_3 {μ : Nat → Int32} {x : Int32} {g a s : Nat} (hw : WF μ) : shN (upd μ 3 x) g a s = shN μ g a s := by
  unfold shN
  rw [ws_eq eqS_3 hw, show upd μ 3 x 1 = μ 1 from rfl, wSum_eq eqS_3 hw]
theorem s2_u3 {μ : Nat → Int32} {x : Int32} {g a : Nat} (hw : WF μ) : ∀ (k s : Nat) (r : Nat → Int32) (z : Int32), s2F (upd μ 3 x) g a k s (upd r 3 x, z) = (upd (s2F μ g a k s (r, z)).1 3 x, (s2F μ g a k s (r, z)).2) := by
  intro k
  induction k with
  | zero => intro s r z; rfl
  | succ k ih =>
    intro s r z
    rw [s2F, s2F, shN_3 hw]
    by_cases c : g.testBit s = true
    · rw [if_pos c, if_pos c]
      dsimp only
      rw [upd_cm (show 3 ≠ 14 + 26 * s + 5 by omega)]
      exact ih _ _ _
    · rw [if_neg c, if_neg c]; exact ih _ _ _
theorem s3_u3 {x : Int32} {g : Nat} : ∀ (k s : Nat) (r : Nat → Int32) (z : Int32), s3F g k s (upd r 3 x, z) = (upd (s3F g k s (r, z)).1 3 x, (s3F g k s (r, z)).2) := by
  intro k
  induction k with
  | zero => intro s r z; rfl
  | succ k ih =>
    intro s r z
    rw [s3F, s3F]
    dsimp only
    by_cases c : g.testBit s = true ∧ ¬ z ≤ 0
    · rw [if_pos c, if_pos c, upd_cm (show 3 ≠ 14 + 26 * s + 5 by omega), show upd r 3 x (14 + 26 * s + 5) = r (14 + 26 * s + 5) by unfold upd; rw [if_neg (by omega)]]
      exact ih _ _ _
    · rw [if_neg c, if_neg c]; exact ih _ _ _
theorem shr_u3 {μ : Nat → Int32} {x : Int32} {g a : Nat} (hw : WF μ) : shrF (upd μ 3 x) g a = upd (shrF μ g a) 3 x := by
  unfold shrF
  rw [show upd μ 3 x 1 = μ 1 from rfl, s2_u3 hw, s3_u3]
theorem s3_k {g : Nat} {j : Nat} : ∀ (k s : Nat) (r : Nat → Int32) (z : Int32), (∀ t, j ≠ 14 + 26 * t + 5) → (s3F g k s (r, z)).1 j = r j := by
  intro k
  induction k with
  | zero => intro s r z _; rfl
  | succ k ih =>
    intro s r z h
    rw [s3F]
    dsimp only
    by_cases c : g.testBit s = true ∧ ¬ z ≤ 0
    · rw [if_pos c, ih _ _ _ h]
      unfold upd
      rw [if_neg (h s)]
    · rw [if_neg c]; exact ih _ _ _ h
theorem shr_3 {μ : Nat → Int32} {g a : Nat} : shrF μ g a 3 = μ 3 := by
  unfold shrF
  rw [show s2F μ g a (iv (μ 1)) 0 (μ, nI a) = ((s2F μ g a (iv (μ 1)) 0 (μ, nI a)).1, (s2F μ g a (iv (μ 1)) 0 (μ, nI a)).2) from rfl, s3_k _ _ _ _ (fun t => by omega)]
  exact (s2_1 _ _ _ _).1 3 (fun t _ _ _ => by omega)
theorem dv_ok {T : Nat → Int32} {u : Nat → Nat} : ∀ (G : List Nat) (μ : Nat → Int32), WF μ → (∀ i, i < G.length → iv (T (u (gl G i))) ≤ 1000000000) → eqS μ (dvF T u G μ) ∧ WF (dvF T u G μ) ∧ dvF T u G μ 3 = μ 3 ∧ ∀ x, dvF T u G (upd μ 3 x) = upd (dvF T u G μ) 3 x := by
  intro G
  induction G with
  | nil => intro μ hw _; exact ⟨eqS.rf, hw, rfl, fun _ => rfl⟩
  | cons g l ih =>
    intro μ hw h
    have h0 := h 0 (Nat.succ_pos _)
    rw [gl_0] at h0
    obtain ⟨s1, s2⟩ := shr_ok hw (g := u g) h0
    obtain ⟨i1, i2, i3, i4⟩ := ih _ s2 (fun i hi => h (i + 1) (Nat.succ_lt_succ hi))
    refine ⟨s1.tr i1, i2, i3.trans shr_3, fun x => ?_⟩
    rw [dvF, dvF, shr_u3 hw]
    exact i4 x
theorem po_dv {T F : Nat → Int32} {u : Nat → Nat} : ∀ (G : List Nat) (k n : Nat) (μ : Nat → Int32), n < 1024 → chM u F n G → G.length ≤ k → WF μ → (∀ i, i < G.length → iv (T (u (gl G i))) ≤ 1000000000) → poF T F k n μ = upd (dvF T u G μ) 3 (μ 3 + nI G.length) := by
  intro G
  induction G with
  | nil =>
    intro k n μ _ h _ _ _
    have n0 : n = 0 := h
    have e : upd (dvF T u [] μ) 3 (μ 3 + nI ([] : List Nat).length) = μ := by
      show upd μ 3 (μ 3 + 0) = μ
      rw [Int32.add_zero]
      exact up_id
    rw [e]
    cases k with
    | zero => rfl
    | succ k => rw [poF, if_pos n0]
  | cons g l ih =>
    intro k n μ hn h hk hw hT
    obtain ⟨h0, h1, h2, h3⟩ := h
    have ule := sub_le h2
    have t0 := hT 0 (Nat.succ_pos _)
    rw [gl_0] at t0
    obtain ⟨s1, s2⟩ := shr_ok hw (g := u g) t0
    cases k with
    | zero => exact absurd hk (Nat.not_succ_le_zero _)
    | succ k =>
      rw [poF, if_neg (by omega), h1, show iv (nI (u g)) = u g from nI_clamp (by omega), ih k _ _ (Nat.lt_of_le_of_lt (sub_le (sub_dif _ _)) hn) h3 (Nat.le_of_succ_le_succ hk) (up3_wf s2) (fun i hi => hT (i + 1) (Nat.succ_lt_succ hi)), (dv_ok l _ s2 (fun i hi => hT (i + 1) (Nat.succ_lt_succ hi))).2.2.2, up_up, dvF]
      congr 1
      show shrF μ (u g) (iv (T (u g))) 3 + 1 + nI l.length = μ 3 + nI (l.length + 1)
      rw [shr_3, Int32.add_assoc, Int32.add_comm 1, nI_1]
theorem RelSt.bk {S : HS} {M : Nat → Prop} {y : Nat} {μ : Nat → Int32} {v : Int32} (h : RelSt S M y μ) (hw : WF μ) (my : M y) : RelSt (putI S 147 y v) M y (upd μ 3 v) := by
  have hf : frM S (putI S 147 y v) M := frM.rf.pI my _ _
  obtain ⟨⟨h1, h2, h3, h4, h5⟩, ⟨b, r1, k1, n1, hb⟩, ⟨c, r2, k2, n2, hc⟩, ⟨t, p, r3, r4, k3, k4, n3, n4, ht⟩⟩ := h
  have um : ∀ {k : Nat}, k ≠ 3 → upd μ 3 v k = μ k := fun hk => by unfold upd; rw [if_neg hk]
  refine ⟨⟨h1, by rw [px_II, if_neg (by omega)]; exact h2, by rw [px_II, if_neg (by omega)]; exact h3, by rw [px_II, if_neg (by omega)]; exact h4, by rw [px_II, if_pos ⟨rfl, rfl⟩]; rfl⟩, ⟨b, r1, k1, n1, fun w hw9 => ?_⟩, ⟨c, r2, k2, n2, fun s hs => ?_⟩, ⟨t, p, r3, r4, k3, k4, n3, n4, fun i hi => ?_⟩⟩
  · obtain ⟨nv, hn6, en⟩ := hw.1
    have hv9 : w < iv (μ 0) := hw9
    rw [en, show iv (nI nv) = nv from nI_clamp (by omega)] at hv9
    obtain ⟨z, z1, z2⟩ := hb w hw9
    exact ⟨z, z1, (z2.fm hf).cg (fun k _ => um (by omega)) (hw.rng (by omega)) (fun z z1 z9 => hw.brk (by omega) z1 z9) (hw.v30 (by omega))⟩
  · obtain ⟨nv, hn6, en⟩ := hw.2.1
    have hv9 : s < iv (μ 1) := hs
    rw [en, show iv (nI nv) = nv from nI_clamp (by omega)] at hv9
    obtain ⟨z, z1, z2⟩ := hc s hs
    exact ⟨z, z1, (z2.fm hf).cg (fun k _ => um (by omega)) (hw.pcs (by omega))⟩
  · rw [um (by omega), um (by omega)]
    exact ht i hi
theorem b3_gw {μ : Nat → Int32} {v : Int32} (h : GWF μ) : GWF (upd μ 3 v) := by
  have um : ∀ {k : Nat}, k ≠ 3 → upd μ 3 v k = μ k := fun hk => by unfold upd; rw [if_neg hk]
  exact ⟨up3_wf h.1, WFR_cg (fun k hk => um (by omega)) h.2.1, fun i hi => by rw [um (by omega)]; exact h.2.2.1 i hi, WFP_cg h.1 (fun k hk => um (by omega)) h.2.2.2⟩
theorem FrS.bk {S : HS} {a : Nat → Nat} {mu : Nat → Nat → Int32} {g b : Nat → Int32} {sh : List Int32} {ν : Nat → Int32} {v : Int32} (h : FrS S a (fun t => if t = 0 then ν else mu t) g b sh) : FrS (putI S 147 (a 0) v) a (fun t => if t = 0 then upd ν 3 v else mu t) g b sh := by
  have H := h.st (s := 0) (by omega) (ext_putI ext_rf 147 (a 0) v) (frM.rf.pI (Or.inl rfl) _ _) (fun i _ j => rfl) (b3_gw (v := v) (h.2.1 0 (by omega)).1) (h.now.2.bk h.now.1 ⟨0, by omega, rfl⟩)
  refine H.e0 ?_
  funext t
  by_cases e : t = 0
  · rw [if_pos e, if_pos e]; rfl
  · simp only [if_neg e]
theorem raL_g {T : Nat → Int32} : ∀ G : List Nat, raL T G = true → ∀ i, i < G.length → ¬ T (gl G i) = -1 := by
  intro G
  induction G with
  | nil => intro _ i hi; exact absurd hi (Nat.not_lt_zero i)
  | cons g l ih =>
    intro h i hi
    rw [raL] at h
    by_cases c : T g = -1
    · rw [if_pos c] at h; exact absurd h (by decide)
    · rw [if_neg c] at h
      cases i with
      | zero => exact c
      | succ i => exact ih h i (Nat.lt_of_succ_lt_succ hi)
theorem rl_pp {P : Int32 → HS → Prop} {X : String → HS → Prop} {S0 : HS} {a : Nat → Nat} {m : Nat → Nat → Int32} {g b : Nat → Int32} {sh : List Int32} {G L : List Nat} {μ RF : Nat → Int32} {n ns M : Nat} (h0 : FrS S0 a m g b sh) (hw : WF μ) (hns : μ 1 = nI ns) (hns10 : ns ≤ 10) (hn : n < 2 ^ ns) (hs0 : sg0 μ n) (hl : plc n M L) (hPl : PlP S0 (a 57) (fun i => a (58 + i)) G) (hG : ∀ i, i < G.length → 0 < gl G i ∧ gl G i < 2 ^ M) (hset : ∀ p, p < 2 ^ M → hA S0 (a 58) p = nI (spr L M p)) (htot : ∀ i, i < G.length → ∃ A : Nat, A ≤ 1000000000 ∧ ttF μ (spr L M (gl G i)) = nI A ∧ hA S0 (a 59) (gl G i) = nI A) (hP : ∀ S1, FrS S1 a (fun t => if t = 0 then upd RF 3 (RF 3 + nI G.length) else m t) g b sh → (∀ i, 58 ≤ i → i < 64 → hA S1 (a i) = hA S0 (a i)) → P (suL (hA S0 (a 59)) G 0) S1) : ∀ (l : List Nat) (i fuel : Nat) (ν : Nat → Int32) (S : HS) (kc ks : Nat), i + l.length = G.length → (∀ j, j < l.length → gl l j = gl G (i + j)) → l.length < fuel → FrS S a (fun t => if t = 0 then ν else m t) g b sh → eqS μ ν → (∀ j, 57 ≤ j → j < 64 → sam S0 S (a j)) → dvF (ttF μ) (spr L M) l ν = RF → 21 * l.length ≤ kc → 150 * l.length ≤ ks → wp_X10_post_60 P X fuel (a 50) (nI i) S kc ks := by
  have h8 := hPl.2.1
  have h256 := hl.p
  intro l
  induction l with
  | nil =>
    intro i fuel ν S kc ks hi _ hf H hq hsam hR _ _
    have i0 : i = G.length := hi
    have s57 := hsam 57 (by omega) (by omega)
    have i47 : hI S 47 (a 57) = nI G.length := (s57.2.2.1 47).trans hPl.1
    obtain ⟨f, rfl⟩ : ∃ f, fuel = f + 1 := ⟨fuel - 1, by omega⟩; rw [wp_X10_post_60]; unfold wb_X10_post_60; dsimp only
    refine ⟨a 57, H.r13, fun _ => ?_⟩
    rw [i47, nI_leI (by omega) (by omega)]
    refine ⟨fun _ => ⟨a 0, H.r0, fun _ => ⟨a 57, H.r13, fun _ S105 e105 => ?_⟩⟩, fun c => absurd (by omega) c⟩
    have eR : ν = RF := hR
    have i147 : hI S 147 (a 0) = RF 3 := by rw [← eR]; exact H.now.2.1.2.2.2.2
    rw [i147, i47] at e105
    have H105 : FrS S105 a (fun t => if t = 0 then upd RF 3 (RF 3 + nI G.length) else m t) g b sh := by
      rw [e105, ← eR]
      exact H.bk
    have aA : ∀ j, 58 ≤ j → j < 64 → hA S105 (a j) = hA S0 (a j) := fun j h1 h2 => by
      rw [e105, px_AI]
      exact (hsam j (by omega) h2).2.2.2.2.1
    have P105 : PlP S105 (a 57) (fun i => a (58 + i)) G := by
      refine ⟨?_, h8, fun j hj => ⟨?_, (hPl.2.2 j hj).2⟩⟩
      · rw [e105, px_II, if_neg (by omega)]; exact i47
      · show hA S105 (a 63) j = _
        rw [aA 63 (by omega) (by omega)]
        exact (hPl.2.2 j hj).1
    refine ⟨a 57, H105.r13, fun _ => ⟨fun i => a (58 + i), G, ⟨H105.1.pl, P105⟩, ?_⟩⟩
    show P (suL (hA S105 (a 59)) G 0) S105
    rw [aA 59 (by omega) (by omega)]
    exact hP S105 H105 aA
  | cons p l ih =>
    intro i fuel ν S kc ks hi hgl hf H hq hsam hR hkc hks
    rw [List.length_cons] at hi hf hkc hks
    have s57 := hsam 57 (by omega) (by omega)
    have i47 : hI S 47 (a 57) = nI G.length := (s57.2.2.1 47).trans hPl.1
    have hiG : i < G.length := by omega
    have ep : gl G i = p := ((hgl 0 (Nat.succ_pos _)).symm.trans (gl_0 p l))
    have pG := hG i hiG
    rw [ep] at pG
    have a63 : hA S (a 63) i = nI p := by
      rw [(hsam 63 (by omega) (by omega)).2.2.2.2.1]
      rw [← ep]
      exact (hPl.2.2 i hiG).1
    obtain ⟨A, hA1, hA2, hA3⟩ := htot i hiG
    rw [ep] at hA2 hA3
    have a58 : hA S (a 58) p = nI (spr L M p) := by rw [(hsam 58 (by omega) (by omega)).2.2.2.2.1]; exact hset p pG.2
    have a59 : hA S (a 59) p = nI A := by rw [(hsam 59 (by omega) (by omega)).2.2.2.2.1]; exact hA3
    have e1 : ν 1 = nI ns := (hq 1 (by omega) (fun s _ => by omega)).trans hns
    have sb := hl.sb pG.2
    obtain ⟨f, rfl⟩ : ∃ f, fuel = f + 1 := ⟨fuel - 1, by omega⟩; rw [wp_X10_post_60]; unfold wb_X10_post_60; dsimp only
    refine ⟨a 57, H.r13, fun _ => ?_⟩
    rw [i47, nI_leI (by omega) (by omega), nI_1]
    refine ⟨fun c => absurd c (by omega), fun _ => ⟨a 57, H.r13, fun _ => ⟨a 63, H.1.pl.pts, fun _ => ?_⟩⟩⟩
    rw [show hN S (a 63) = 8 from H.1.pl.n5, nz_vp (by omega) (by decide), nI_clamp (n := i) (by omega), a63]
    refine ⟨by omega, fun v127 e127 => ?_⟩
    subst e127
    refine ⟨a 57, H.r13, fun _ => ⟨a 58, H.1.pl.sets, fun _ => ?_⟩⟩
    rw [show hN S (a 58) = 256 from H.1.pl.n (show 0 < 5 by omega), nz_vp (by omega) (by decide), nI_clamp (n := p) (by omega), a58]
    refine ⟨by omega, a 57, H.r13, fun _ => ⟨a 59, H.1.pl.tots, fun _ => ?_⟩⟩
    rw [show hN S (a 59) = 256 from H.1.pl.n (show 1 < 5 by omega), nz_vp (by omega) (by decide), a59]
    refine ⟨by omega, 21, 150, ⟨by omega, by omega⟩, a, (fun t => if t = 0 then ν else m t), g, b, sh, spr L M p, A, ⟨H, rfl, rfl, rfl, hA1, (hl.ok pG.2).2 pG.1, ?_, ?_, Nat.le_refl _, Nat.le_refl _⟩, fun S145 _ h145 v152 e152 => ?_⟩
    · show spr L M p < 2 ^ iv (ν 1)
      rw [e1, show iv (nI ns) = ns from nI_clamp (by omega)]
      exact Nat.lt_of_le_of_lt (sub_le sb) hn
    · exact sg0.eq hq hw (fun s hs => hs0 s (sub_tb.mp sb s hs))
    · obtain ⟨H145, s145⟩ := h145
      subst e152
      have iA : iv (ttF μ (spr L M p)) = A := by rw [hA2]; exact nI_clamp (by omega)
      rw [dvF, iA] at hR
      have H145' : FrS S145 a (fun t => if t = 0 then shrF ν (spr L M p) A else m t) g b sh := H145.e0 (by
        funext t
        by_cases e : t = 0
        · rw [if_pos e, if_pos e]; rfl
        · simp only [if_neg e])
      exact ih (i + 1) f _ S145 _ _ (by omega) (fun j hj => by
        have := hgl (j + 1) (Nat.succ_lt_succ hj)
        rw [gl_c] at this
        rw [this]
        congr 1
        omega) (by omega) H145' (hq.tr (shr_ok (H.2.1 0 (by omega)).1.1 hA1).1) (fun j h1 h2 => (hsam j h1 h2).tr (s145 j h1 h2)) hR (by omega) (by omega)
theorem k_X10_post (l : Launch) (hst : l.stackTraces = false) (D : va_G) (T : Nat → ClassId) (x0 : Nat) (p0 : Int32) (S : HS) (e0 : (Nat → Nat)) (e1 : (Nat → Nat → Int32)) (e2 : (Nat → Int32)) (e3 : (Nat → Int32)) (e4 : (List Int32)) (mc ms : Nat) (hx0 : hK S x0 = 11) (h : FrS S e0 e1 e2 e3 e4 ∧ x0 = e0 50 ∧ 200 ≤ mc ∧ 2000 ≤ ms) : CXi l yX10_post (ws_X10_post) rm_X10_post D T [.ref x0, .int p0] S mc ms (fun v S1 => (poC (e1 0) p0 = 0 ∧ v = (dpZ (ttF (e1 0)) (iv p0)).1 (iv p0) ∧ FrS S1 e0 (fun t => if t = 0 then poF (ttF (e1 0)) (dpZ (ttF (e1 0)) (iv p0)).2.2 1024 (iv p0) (e1 0) else rmU e1 e2 t) (rmG e2) e3 e4)) (fun E9 S1 => ((poC (e1 0) p0 = 1 ∧ E9 = "java/lang/IndexOutOfBoundsException") ∨ (poC (e1 0) p0 = 2 ∧ E9 = "java/lang/IllegalArgumentException") ∨ (poC (e1 0) p0 = 3 ∧ E9 = "java/lang/UnsupportedOperationException") ∨ (poC (e1 0) p0 = 4 ∧ E9 = "java/lang/IllegalStateException")) ∧ FrS S1 e0 e1 (if poC (e1 0) p0 = 4 then kpG e2 (rfR (e1 0) (iv p0)) (rfT (e1 0) (iv p0)) else e2) e3 e4) := c_X10_post l hst D T x0 p0 S mc ms hx0 _ _ <|
  (by
    obtain ⟨h, e, hmc, hms⟩ := h
    unfold wp_X10_post
    refine ⟨2, 12, ⟨by omega, by omega⟩, e0, e1, e2, e3, e4, ⟨h, e, Nat.le_refl _, Nat.le_refl _⟩, fun E9 S9 _ h9 => ?_, fun S10 _ h10 => ?_⟩
    · obtain ⟨c, eS⟩ := h9
      subst eS
      rcases c with ⟨c, eE⟩ | ⟨c, eE⟩
      · have cc : poC (e1 0) p0 = 1 := by unfold poC; rw [if_neg (by rw [c]; decide)]; exact c
        refine ⟨Or.inl ⟨cc, eE⟩, ?_⟩
        rw [cc, if_neg (by decide)]; exact h
      · have cc : poC (e1 0) p0 = 2 := by unfold poC; rw [if_neg (by rw [c]; decide)]; exact c
        refine ⟨Or.inr (Or.inl ⟨cc, eE⟩), ?_⟩
        rw [cc, if_neg (by decide)]; exact h
    obtain ⟨c, eS⟩ := h10
    subst eS e
    obtain ⟨n, ns, ens, hns, hn0, hn, hn1, eg, ei, h8⟩ := lck_n h.now.1 c
    refine ⟨e0 0, h.r0, fun _ => ⟨fxM e0, e1 0, h.now, fun cp => ?_, fun cp => ?_⟩⟩
    rotate_left
    · have cc : poC (e1 0) p0 = 3 := by unfold poC; rw [if_pos c, if_neg (by rw [Int32.and_comm]; exact cp)]
      refine ⟨⟨by omega, by omega⟩, Or.inr (Or.inr (Or.inl ⟨cc, rfl⟩)), ?_⟩
      rw [cc, if_neg (by decide)]; exact h
    have cp' : posF (e1 0) &&& p0 = 0 := by rw [Int32.and_comm]; exact cp
    refine ⟨1, 6, ⟨by omega, by omega⟩, e0, e1, e2, e3, e4, ⟨h, rfl, lck_0 h.now.1 c, Nat.le_refl _, Nat.le_refl _⟩, fun E9 S9 _ h9 => ?_, fun S27 _ h27 => ?_⟩
    · obtain ⟨eE, t, er, h9⟩ := h9
      have cc : poC (e1 0) p0 = 4 := by unfold poC; rw [if_pos c, if_pos cp', er]
      refine ⟨Or.inr (Or.inr (Or.inr ⟨cc, eE⟩)), ?_⟩
      rw [if_neg (by decide)] at h9
      rw [cc, if_pos rfl]
      unfold rfR rfT
      rw [er]
      exact h9
    obtain ⟨er, H27⟩ := h27
    have cc : poC (e1 0) p0 = 0 := by unfold poC; rw [if_pos c, if_pos cp', er]
    refine ⟨e0 57, H27.r13, fun _ => ⟨e0 0, H27.r0, fun _ => ⟨e0 54, H27.r12, fun _ => ⟨fxM e0, e1 0, fun i => e0 (58 + i), n, ⟨H27.pr, by rw [ens, show iv (nI ns) = ns from nI_clamp (by omega)]; exact hn, eg, h8, H27.1.2.2.2.2.2.2.2.2.1⟩, fun S49 he49 h49 => ?_⟩⟩⟩⟩
    obtain ⟨f49, i40, i47, sets, tots⟩ := h49
    have H49 := H27.fq he49 f49 (by rw [sets 0 (Nat.two_pow_pos _), spr_z]; rfl)
    rw [ei] at er
    obtain ⟨tt, hl, G, g8, gC, gch, gM, gS, gD, gx, gg⟩ := H49.bb ens hns hn0 hn er h8 tots
    refine ⟨e0 57, H49.r13, fun _ => ⟨fun i => e0 (58 + i), (memL n 10 0).length, G, ⟨H49.1.pl, i40, h8, g8, gC, gch⟩, fun S63 he63 h63 => ?_⟩⟩
    obtain ⟨f63, P63, z2, z3⟩ := h63
    have k1 : hA S63 (e0 59) = hA S49 (e0 59) := f63.2.2.2.2.2 _ (fun j hj => by
      simp only [List.mem_cons, List.not_mem_nil, or_false] at hj
      exact H49.1.ne (by omega) (by omega) (by omega))
    have k0 : hA S63 (e0 58) = hA S49 (e0 58) := f63.2.2.2.2.2 _ (fun j hj => by
      simp only [List.mem_cons, List.not_mem_nil, or_false] at hj
      exact H49.1.ne (by omega) (by omega) (by omega))
    have H63 := H49.fp he63 f63 (fun j hj => by simp only [List.mem_cons, List.not_mem_nil, or_false] at hj; omega) ⟨by rw [k0]; exact H49.1.2.2.2.2.2.2.2.2.1, z2.trans H49.1.2.2.2.2.2.2.2.2.2.1, z3.trans H49.1.2.2.2.2.2.2.2.2.2.2⟩
    refine ⟨e0, e1, e2, e3, e4, ⟨H63, rfl⟩, fun S87 he87 h87 => ?_⟩
    obtain ⟨H87, f87, kk87, r87, s87⟩ := h87
    have hw := h.now.1
    have tb : ∀ i, i < G.length → ∃ A : Nat, A ≤ 1000000000 ∧ ttF (e1 0) (spr (memL n 10 0) (memL n 10 0).length (gl G i)) = nI A ∧ hA S49 (e0 59) (gl G i) = nI A := fun i hi => by
      obtain ⟨q1, q2⟩ := gg i hi
      have et := tots (gl G i) q1 q2
      have nv := raL_g G gx.2.1 i hi
      rw [show hA S49 (e0 59) (gl G i) = _ from et] at nv ⊢
      rcases tt.v ((hl.ok q2).2 q1) (hl.sb q2) hn1 with ⟨_, A, A1, A2⟩ | q
      · have := (pop_1 (hl.ok q2).1 ((hl.ok q2).2 q1)).2
        exact ⟨A, by omega, A2, A2⟩
      · exact absurd q nv
    have Tb : ∀ i, i < G.length → iv (ttF (e1 0) (spr (memL n 10 0) (memL n 10 0).length (gl G i))) ≤ 1000000000 := fun i hi => by
      obtain ⟨A, A1, A2, _⟩ := tb i hi
      rw [A2, show iv (nI A) = A from nI_clamp (by omega)]
      exact A1
    have P87 : PlP S87 (e0 57) (fun i => e0 (58 + i)) G := by
      refine ⟨((s87 57 (by omega) (by omega)).2.2.1 47).trans P63.1, g8, fun j hj => ⟨?_, (P63.2.2 j hj).2⟩⟩
      show hA S87 (e0 63) j = _
      rw [(s87 63 (by omega) (by omega)).2.2.2.2.1]
      exact (P63.2.2 j hj).1
    have b1 : hA S87 (e0 59) = hA S49 (e0 59) := by rw [(s87 59 (by omega) (by omega)).2.2.2.2.1]; exact k1
    have b0 : hA S87 (e0 58) = hA S49 (e0 58) := by rw [(s87 58 (by omega) (by omega)).2.2.2.2.1]; exact k0
    have eD := po_dv (T := ttF (e1 0)) G 1024 n (e1 0) hn1 gM (by omega) hw Tb
    have d3 := (dv_ok (T := ttF (e1 0)) (u := spr (memL n 10 0) (memL n 10 0).length) G (e1 0) hw Tb).2.2.1
    refine ⟨20, rl_pp (μ := e1 0) (RF := dvF (ttF (e1 0)) (spr (memL n 10 0) (memL n 10 0).length) G (e1 0)) H87 hw ens hns hn (sg0_of ⟨n, ns, ens, hns, hn0, hn, rfl⟩ hn1 er) hl P87 gg (fun p hp => by rw [b0]; exact sets p hp) (fun i hi => by rw [b1]; exact tb i hi) (fun S1 h1 _ => ⟨cc, ?_, ?_⟩) G 0 20 (e1 0) S87 _ _ (by omega) (fun j _ => by rw [Nat.zero_add]) (by omega) (H87.e0 ?_) eqS.rf (fun j _ _ => sam.rf) rfl (by omega) (by omega)⟩
    · funext t
      by_cases e : t = 0
      · rw [if_pos e, e]; exact rmU_0
      · rw [if_neg e]
    · rw [b1, ei]; exact gS.symm
    · rw [ei, eD]
      rw [d3] at h1
      exact h1)

end S_CAH
