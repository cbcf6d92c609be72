section S_RNS
abbrev ws_X11_put : List Cond := Cond.code yX11_put cX11_put 2 none :: W0
abbrev rm_X11_put : Room := ({ frames := 0, cells := 0, slots := 0, locals := 0 } : Room)
def wp_X11_put (P : RST → Prop) (p0 : Int32) (r : Nat → Int32) (q : Nat → Nat → Int32) : Prop := vp_in (r 40) 200 ∧ (∀ q2 : Nat → Nat → Int32, q2 = va_up q 12 (upd (q 12) (Int32.toNatClampNeg (r 40)) (vp_nar .char p0)) → (∀ r3 : Nat → Int32, r3 = va_up r 40 ((r 40) + 1) → (P (r3, q2))))
set_option maxRecDepth 100000 in
set_option maxHeartbeats 4000000 in
theorem t_X11_put {p : Program} {l : Launch} {e : Env} {s : State} {m : MethodId} {args : Array Value} {below : List Frame} {meth : Method} {c : Code} {D : va_G} {A : Nat → Prop} {T : Nat → ClassId} {m0 : Nat} {a : Nat → Nat} (C : GC p s m args meth c cX11_put "FreightRaterModel" (ws_X11_put) 2 D A (zty T)) (hr : meth.sig.returnType = none) (P : RST → Prop) : ∀ (p0 : Int32) (r : Nat → Int32) (q : Nat → Nat → Int32), wp_X11_put P p0 r q → GW p l e rm_X11_put s m args below meth c D A 2 0 0 (MQ below (va_Qv P (RE D T m0 a A) A) args s 0 0 A) (RW m0 a T r q) 0 0 0 [(0, .ref m0), (1, .int p0)] [] := by
  have hw : ∀ {w : Cond}, w ∈ W0 → w.before args s = true := fun h => C.2.2.2.2.1 _ (List.mem_cons_of_mem _ h)
  intro p0 r q h
  unfold wp_X11_put at h
  refine g_aload_n C dX11_put_0 rfl 0 rfl ?_
  refine gr_get C iwx_X11 41 (hw kw_1850) (by decide) rfl rfl dX11_put_1 ?_
  refine g_aload_n C dX11_put_4 rfl 0 rfl ?_
  refine gr_get C iwx_X11 40 (hw kw_1849) (by decide) rfl rfl dX11_put_5 ?_
  refine g_iload_n C dX11_put_8 rfl 1 rfl ?_
  obtain ⟨g1, h⟩ := h
  refine gr_ast_12 C g1 dX11_put_9 ?_
  refine gr_nq (fun q2 eq2 => ?_)
  replace h := h q2 eq2
  refine g_aload_n C dX11_put_10 rfl 0 rfl ?_
  refine g_dup C dX11_put_11 rfl ?_
  refine gr_get C iwx_X11 40 (hw kw_1849) (by decide) rfl rfl dX11_put_12 ?_
  refine g_iconst (v := 1) C dX11_put_15 (by decide) ?_
  refine g_iadd C dX11_put_16 ?_
  refine gr_put_40 C iwx_X11 (hw kw_1849) dX11_put_17 ?_
  refine gr_nr (fun r3 er3 => ?_)
  replace h := h r3 er3
  exact gr_vret C hr dX11_put_20 h
theorem c_X11_put (l : Launch) (D : va_G) (T : Nat → ClassId) (m0 : Nat) (a : Nat → Nat) (p0 : Int32) (r : Nat → Int32) (q : Nat → Nat → Int32) (P : RST → Prop) (h : wp_X11_put P p0 r q) : RMv l yX11_put (ws_X11_put) rm_X11_put D T m0 a [.ref m0, .int p0] r q P := gr_metv (by decide) rfl rfl (Nat.le_of_ble_eq_true rfl) (fun p e s m args below meth c A C hr => t_X11_put C hr P p0 r q h)
/-- decimal digits -/
def dgL : Nat → Nat → List Int32
  | 0, v => [nI (48 + v % 10)]
  | k + 1, v => nI (48 + v / 10 ^ (k + 1) % 10) :: dgL k v
def nuL (n : Nat) : List Int32 := dgL (if n < 10 then 0 else if n < 100 then 1 else if n < 1000 then 2 else 3) n
def teL (n : Nat) : List Int32 := (if n / 150000 % 2 = 1 then [45] else []) ++ (letF (nI (n / 30000 % 5)) :: ((if 0 < n / 30000 % 5 then [if n / 10000 % 3 = 0 then (60 : Int32) else if n / 10000 % 3 = 1 then 62 else 61] else []) ++ nuL (n % 10000)))
def paT (μ : Nat → Int32) (e : Nat) : Nat → Nat → List Int32
  | 0, _ => []
  | k + 1, j => (if j = 0 then (63 : Int32) else if iv (μ (e + 6 + j - 1)) / 300000 = iv (μ (e + 6 + j)) / 300000 then 38 else 124) :: (teL (iv (μ (e + 6 + j))) ++ paT μ e k (j + 1))
def paF (μ : Nat → Int32) (e a : Nat) : List Int32 := 97 :: (nuL a ++ (58 :: (nuL (iv (μ (e + 1))) ++ ((if μ (e + 2) = 0 then [] else [if μ (e + 2) = 1 then (42 : Int32) else 37]) ++ (paT μ e (iv (μ (e + 4))) 0 ++ (if μ (e + 5) < 0 then [] else 33 :: nuL (iv (μ (e + 5)))))))))
/-- the tests' text is short -/
def WFP (μ : Nat → Int32) : Prop := ∀ v, v < 6 → ∀ a, a < 10 → (paT μ (274 + 510 * v + 150 + 36 * a) (iv (μ (274 + 510 * v + 150 + 36 * a + 4))) 0).length ≤ 80
/-- signs are put behind what stands on the paper -/
def apP (r : Nat → Int32) (q : Nat → Nat → Int32) (l : List Int32) (r1 : Nat → Int32) (q1 : Nat → Nat → Int32) : Prop := kR r r1 [40] ∧ kQ q q1 [12] ∧ r1 40 = nI (iv (r 40) + l.length) ∧ (∀ i, i < iv (r 40) → q1 12 i = q 12 i) ∧ (∀ j x, l[j]? = some x → q1 12 (iv (r 40) + j) = x)
def pa40 (r : Nat → Int32) (B : Nat) : Prop := ∃ n : Nat, n ≤ B ∧ r 40 = nI n
def wrC (μ : Nat → Int32) (p a : Int32) : Int32 := if zin p 0 (μ 0 - 1) = 0 then 1 else if zin a 0 9 = 0 then 2 else if μ (274 + 510 * iv p + 150 + 36 * iv a) = 0 then 2 else 0
theorem apP.tr {r r1 r2 : Nat → Int32} {q q1 q2 : Nat → Nat → Int32} {l1 l2 : List Int32} (h : apP r q l1 r1 q1) (h2 : apP r1 q1 l2 r2 q2) {B : Nat} (hn : pa40 r B) (hB : B + l1.length < 2 ^ 31) : apP r q (l1 ++ l2) r2 q2 := by
  obtain ⟨n, hnB, e⟩ := hn
  obtain ⟨a1, a2, a3, a4, a5⟩ := h
  obtain ⟨b1, b2, b3, b4, b5⟩ := h2
  have en : iv (r 40) = n := by rw [e]; exact nI_clamp (by omega)
  rw [en] at a3 a4 a5
  have en1 : iv (r1 40) = n + l1.length := by rw [a3]; exact nI_clamp (by omega)
  rw [en1] at b3 b4 b5
  refine ⟨a1.tr b1 (fun _ h => h) (fun _ h => h), a2.tr b2 (fun _ h => h) (fun _ h => h), by rw [en, b3, List.length_append]; congr 1; omega, fun i hi => ?_, fun j x hx => ?_⟩
  · rw [en] at hi
    rw [b4 i (by omega), a4 i hi]
  · rw [en]
    rcases Nat.lt_or_ge j l1.length with hj | hj
    · rw [List.getElem?_append_left hj] at hx
      rw [b4 _ (by omega)]
      exact a5 j x hx
    · rw [List.getElem?_append_right hj] at hx
      have := b5 _ x hx
      rw [← this]
      congr 1
      omega
theorem apP.p40 {r r1 : Nat → Int32} {q q1 : Nat → Nat → Int32} {l : List Int32} (h : apP r q l r1 q1) {B : Nat} (hn : pa40 r B) (hB : B < 2 ^ 31) : pa40 r1 (B + l.length) := by
  obtain ⟨n, hnB, e⟩ := hn
  have en : iv (r 40) = n := by rw [e]; exact nI_clamp (by omega)
  exact ⟨n + l.length, by omega, by rw [h.2.2.1, en]⟩
theorem apP.nil {r : Nat → Int32} {q : Nat → Nat → Int32} {B : Nat} (hp : pa40 r B) (hB : B < 2 ^ 31) : apP r q [] r q := by
  obtain ⟨n, hn, e⟩ := hp
  exact ⟨kR.rf, kQ.rf, by rw [e, show iv (nI n) = n from nI_clamp (by omega)]; rfl, fun _ _ => rfl, fun j x hx => by simp at hx⟩
theorem pa40.mn {r : Nat → Int32} {B C : Nat} (h : pa40 r B) (hc : B ≤ C) : pa40 r C := by
  obtain ⟨n, hnB, e⟩ := h
  exact ⟨n, by omega, e⟩
theorem dgL_len : ∀ k v : Nat, (dgL k v).length = k + 1 := by
  intro k v
  induction k with
  | zero => rfl
  | succ k ih => rw [dgL, List.length_cons, ih]
theorem nuL_len (n : Nat) : (nuL n).length ≤ 4 ∧ 1 ≤ (nuL n).length := by
  unfold nuL
  rw [dgL_len]
  split
  · omega
  split
  · omega
  split
  · omega
  · omega
theorem c16 {c : Nat} (h : c < 128) : (Int32.toUInt32 (nI c) % 65536).toInt32 = nI c := by
  have : ∀ c : Nat, c < 128 → (Int32.toUInt32 (nI c) % 65536).toInt32 = nI c := by decide +kernel
  exact this c h
theorem nar_c {c : Nat} (h : c < 128) : vp_nar .char (nI c) = nI c := by
  have : ∀ c : Nat, c < 128 → vp_nar .char (nI c) = nI c := by decide +kernel
  exact this c h
theorem k_X11_put (l : Launch) (D : va_G) (T : Nat → ClassId) (m0 : Nat) (a : Nat → Nat) (p0 : Int32) (r : Nat → Int32) (q : Nat → Nat → Int32) (h : pa40 r 199 ∧ ∃ c : Nat, c < 128 ∧ p0 = nI c) : RMv l yX11_put (ws_X11_put) rm_X11_put D T m0 a [.ref m0, .int p0] r q (fun u => (apP r q [p0] u.1 u.2)) := c_X11_put l D T m0 a p0 r q _ <|
  (by
    obtain ⟨⟨n, hn, e⟩, ⟨c, hc, ec⟩⟩ := h
    have en : iv (r 40) = n := by rw [e]; exact nI_clamp (by omega)
    unfold wp_X11_put
    rw [e, nz_vp (by omega) (by decide), nI_1, ec, nar_c hc, nI_clamp (n := n) (by omega)]
    refine ⟨by omega, fun q2 e2 r3 e3 => ⟨by dsimp only; rw [e3]; exact kR.rf.up (by decide) _, by dsimp only; rw [e2]; exact kQ.rf.up (by decide) _, by dsimp only; rw [e3, va_up_self, en]; rfl, fun i hi => ?_, fun j x hx => ?_⟩⟩
    · rw [en] at hi
      dsimp only
      rw [e2, va_up_self, pk_un (by omega)]
    · dsimp only
      rw [en, e2, va_up_self]
      cases j with
      | zero => simp at hx; rw [Nat.add_zero, pk_us]; exact hx
      | succ j => simp at hx)
abbrev ws_X11_putNumber : List Cond := Cond.code yX11_putNumber cX11_putNumber 3 none :: W0
abbrev rm_X11_putNumber : Room := ({ frames := 1, cells := 0, slots := 0, locals := 21 } : Room)
def wb_X11_putNumber_4 (rec : Int32 → Int32 → (Nat → Int32) → (Nat → Nat → Int32) → Prop) (K22 : Int32 → Int32 → (Nat → Int32) → (Nat → Nat → Int32) → Prop) (P : RST → Prop) (x1 : Int32) (x2 : Int32) (r : Nat → Int32) (q : Nat → Nat → Int32) : Prop := (x2 ≤ 1 → (K22 x1 x2 r q)) ∧ (¬ x2 ≤ 1 → ((x2 ≤ x1 → (K22 x1 x2 r q)) ∧ (¬ x2 ≤ x1 → (∀ v3 : Int32, v3 = (x2 / 10) → (rec x1 v3 r q)))))
def wp_X11_putNumber_4 (K22 : Int32 → Int32 → (Nat → Int32) → (Nat → Nat → Int32) → Prop) (P : RST → Prop) : Nat → Int32 → Int32 → (Nat → Int32) → (Nat → Nat → Int32) → Prop
  | 0 => fun _ _ _ _ => False
  | n + 1 => fun x1 x2 r q => wb_X11_putNumber_4 (wp_X11_putNumber_4 K22 P n) K22 P x1 x2 r q
set_option maxRecDepth 100000 in
set_option maxHeartbeats 4000000 in
theorem t_X11_putNumber_4 {p : Program} {l : Launch} {e : Env} {s : State} {m : MethodId} {args : Array Value} {below : List Frame} {meth : Method} {c : Code} {D : va_G} {A : Nat → Prop} {T : Nat → ClassId} {m0 : Nat} {a : Nat → Nat} (C : GC p s m args meth c cX11_putNumber "FreightRaterModel" (ws_X11_putNumber) 3 D A (zty T)) (hr : meth.sig.returnType = none) (K22 : Int32 → Int32 → (Nat → Int32) → (Nat → Nat → Int32) → Prop) (P : RST → Prop) (hK22 : ∀ (x1 : Int32) (x2 : Int32) (r : Nat → Int32) (q : Nat → Nat → Int32), K22 x1 x2 r q → GW p l e rm_X11_putNumber s m args below meth c D A 3 0 0 (MQ below (va_Qv P (RE D T m0 a A) A) args s 0 0 A) (RW m0 a T r q) 0 0 22 [(0, .ref m0), (1, .int x1), (2, .int x2)] []) : ∀ (n : Nat) (x1 : Int32) (x2 : Int32) (r : Nat → Int32) (q : Nat → Nat → Int32), wp_X11_putNumber_4 K22 P n x1 x2 r q → GW p l e rm_X11_putNumber s m args below meth c D A 3 0 0 (MQ below (va_Qv P (RE D T m0 a A) A) args s 0 0 A) (RW m0 a T r q) 0 0 4 [(0, .ref m0), (1, .int x1), (2, .int x2)] [] := by
  have hw : ∀ {w : Cond}, w ∈ W0 → w.before args s = true := fun h => C.2.2.2.2.1 _ (List.mem_cons_of_mem _ h)
  intro n
  induction n with
  | zero => intro x1 x2 r q h; exact h.elim
  | succ n ih =>
    intro x1 x2 r q h
    replace h : wb_X11_putNumber_4 (wp_X11_putNumber_4 K22 P n) K22 P x1 x2 r q := h
    unfold wb_X11_putNumber_4 at h
    refine g_iload_n C dX11_putNumber_4 rfl 2 rfl ?_
    refine g_iconst (v := 1) C dX11_putNumber_5 (by decide) ?_
    refine g_icmp_le (tgt := 22) C dX11_putNumber_6 (by decide) (fun z1 => ?_) (fun z1 => ?_)
    · replace h := h.1 z1
      refine g_locals [0, 1, 2] rfl ?_
      exact hK22 x1 x2 r q h
    · replace h := h.2 z1
      refine g_iload_n C dX11_putNumber_9 rfl 1 rfl ?_
      refine g_iload_n C dX11_putNumber_10 rfl 2 rfl ?_
      refine g_icmp_ge (tgt := 22) C dX11_putNumber_11 (by decide) (fun z2 => ?_) (fun z2 => ?_)
      · replace h := h.1 z2
        refine g_locals [0, 1, 2] rfl ?_
        exact hK22 x1 x2 r q h
      · replace h := h.2 z2
        refine g_iload_n C dX11_putNumber_14 rfl 2 rfl ?_
        refine g_bipush (v := 10) C dX11_putNumber_15 (by decide) ?_
        refine g_idiv C dX11_putNumber_17 (by decide) ?_
        refine g_topi (fun v3 ev3 => ?_)
        replace h := h v3 ev3
        refine g_istore_n (lv' := [(2, .int v3), (0, .ref m0), (1, .int x1)]) C dX11_putNumber_18 rfl (by decide) rfl ?_
        refine g_goto (tgt := 4) C dX11_putNumber_19 (by decide) ?_
        refine g_locals [1, 2, 0] rfl ?_
        exact ih x1 v3 r q h
def wb_X11_putNumber_22 (rec : Int32 → Int32 → (Nat → Int32) → (Nat → Nat → Int32) → Prop) (P : RST → Prop) (x1 : Int32) (x2 : Int32) (r : Nat → Int32) (q : Nat → Nat → Int32) : Prop := (x2 ≤ 0 → (P (r, q))) ∧ (¬ x2 ≤ 0 → (¬ x2 = 0 ∧ ((pa40 r 199 ∧ ∃ c : Nat, c < 128 ∧ ((Int32.toUInt32 (48 + ((x1 / x2) - (x1 / x2) / 10 * 10)) % 65536).toInt32) = nI c) ∧ (∀ (r11 : Nat → Int32) (q12 : Nat → Nat → Int32), (apP r q [((Int32.toUInt32 (48 + ((x1 / x2) - (x1 / x2) / 10 * 10)) % 65536).toInt32)] r11 q12) → (∀ v14 : Int32, v14 = (x2 / 10) → (rec x1 v14 r11 q12))))))
def wp_X11_putNumber_22 (P : RST → Prop) : Nat → Int32 → Int32 → (Nat → Int32) → (Nat → Nat → Int32) → Prop
  | 0 => fun _ _ _ _ => False
  | n + 1 => fun x1 x2 r q => wb_X11_putNumber_22 (wp_X11_putNumber_22  P n)  P x1 x2 r q
set_option maxRecDepth 100000 in
set_option maxHeartbeats 4000000 in
theorem t_X11_putNumber_22 {p : Program} {l : Launch} {e : Env} {s : State} {m : MethodId} {args : Array Value} {below : List Frame} {meth : Method} {c : Code} {D : va_G} {A : Nat → Prop} {T : Nat → ClassId} {m0 : Nat} {a : Nat → Nat} (C : GC p s m args meth c cX11_putNumber "FreightRaterModel" (ws_X11_putNumber) 3 D A (zty T)) (hr : meth.sig.returnType = none) (P : RST → Prop) : ∀ (n : Nat) (x1 : Int32) (x2 : Int32) (r : Nat → Int32) (q : Nat → Nat → Int32), wp_X11_putNumber_22  P n x1 x2 r q → GW p l e rm_X11_putNumber s m args below meth c D A 3 0 0 (MQ below (va_Qv P (RE D T m0 a A) A) args s 0 0 A) (RW m0 a T r q) 0 0 22 [(0, .ref m0), (1, .int x1), (2, .int x2)] [] := by
  have hw : ∀ {w : Cond}, w ∈ W0 → w.before args s = true := fun h => C.2.2.2.2.1 _ (List.mem_cons_of_mem _ h)
  intro n
  induction n with
  | zero => intro x1 x2 r q h; exact h.elim
  | succ n ih =>
    intro x1 x2 r q h
    replace h : wb_X11_putNumber_22 (wp_X11_putNumber_22  P n)  P x1 x2 r q := h
    unfold wb_X11_putNumber_22 at h
    refine g_iload_n C dX11_putNumber_22 rfl 2 rfl ?_
    refine g_if_le (tgt := 48) C dX11_putNumber_23 (by decide) (fun z8 => ?_) (fun z8 => ?_)
    · replace h := h.1 z8
      exact gr_vret C hr dX11_putNumber_48 h
    · replace h := h.2 z8
      refine g_aload_n C dX11_putNumber_26 rfl 0 rfl ?_
      refine g_bipush (v := 48) C dX11_putNumber_27 (by decide) ?_
      refine g_iload_n C dX11_putNumber_29 rfl 1 rfl ?_
      refine g_iload_n C dX11_putNumber_30 rfl 2 rfl ?_
      obtain ⟨g9, h⟩ := h
      refine g_idiv C dX11_putNumber_31 g9 ?_
      refine g_bipush (v := 10) C dX11_putNumber_32 (by decide) ?_
      refine g_irem C dX11_putNumber_34 (by decide) ?_
      refine g_iadd C dX11_putNumber_35 ?_
      refine g_i2c C dX11_putNumber_36 rfl ?_
      obtain ⟨g13, h⟩ := h
      refine gr_callvV C [.int ((Int32.toUInt32 (48 + ((x1 / x2) - (x1 / x2) / 10 * 10)) % 65536).toInt32)] rfl (k_X11_put l D T m0 a ((Int32.toUInt32 (48 + ((x1 / x2) - (x1 / x2) / 10 * 10)) % 65536).toInt32) r q g13) (w0_V 1 C.2.2.2.2.1 kw_2331 kw_2333 ks_106 kw_9 kw_2334 rfl rfl (by decide +kernel) ⟨by decide, by decide⟩) rfl (Nat.le_of_ble_eq_true rfl) (Nat.zero_le _) (Nat.zero_le _) dX11_putNumber_37 (fun r11 q12 hp => ?_)
      replace h := h r11 q12 hp
      refine g_iload_n C dX11_putNumber_40 rfl 2 rfl ?_
      refine g_bipush (v := 10) C dX11_putNumber_41 (by decide) ?_
      refine g_idiv C dX11_putNumber_43 (by decide) ?_
      refine g_topi (fun v14 ev14 => ?_)
      replace h := h v14 ev14
      refine g_istore_n (lv' := [(2, .int v14), (0, .ref m0), (1, .int x1)]) C dX11_putNumber_44 rfl (by decide) rfl ?_
      refine g_goto (tgt := 22) C dX11_putNumber_45 (by decide) ?_
      refine g_locals [1, 2, 0] rfl ?_
      exact ih x1 v14 r11 q12 h
def wp_X11_putNumber (P : RST → Prop) (p0 : Int32) (r : Nat → Int32) (q : Nat → Nat → Int32) : Prop := ∃ k16 : Nat, wp_X11_putNumber_4 (fun (y4 : Int32) (y5 : Int32) (r6 : Nat → Int32) (q7 : Nat → Nat → Int32) => ∃ k15 : Nat, wp_X11_putNumber_22  P k15 y4 y5 r6 q7) P k16 p0 1000 r q
set_option maxRecDepth 100000 in
set_option maxHeartbeats 4000000 in
theorem t_X11_putNumber {p : Program} {l : Launch} {e : Env} {s : State} {m : MethodId} {args : Array Value} {below : List Frame} {meth : Method} {c : Code} {D : va_G} {A : Nat → Prop} {T : Nat → ClassId} {m0 : Nat} {a : Nat → Nat} (C : GC p s m args meth c cX11_putNumber "FreightRaterModel" (ws_X11_putNumber) 3 D A (zty T)) (hr : meth.sig.returnType = none) (P : RST → Prop) : ∀ (p0 : Int32) (r : Nat → Int32) (q : Nat → Nat → Int32), wp_X11_putNumber P p0 r q → GW p l e rm_X11_putNumber s m args below meth c D A 3 0 0 (MQ below (va_Qv P (RE D T m0 a A) A) args s 0 0 A) (RW m0 a T r q) 0 0 0 [(0, .ref m0), (1, .int p0)] [] := by
  have hw : ∀ {w : Cond}, w ∈ W0 → w.before args s = true := fun h => C.2.2.2.2.1 _ (List.mem_cons_of_mem _ h)
  intro p0 r q h
  unfold wp_X11_putNumber at h
  refine g_sipush (v := 1000) C dX11_putNumber_0 (by decide) ?_
  refine g_istore_n (lv' := [(2, .int 1000), (0, .ref m0), (1, .int p0)]) C dX11_putNumber_3 rfl (by decide) rfl ?_
  refine g_locals [1, 2, 0] rfl ?_
  obtain ⟨k16, h⟩ := h
  refine t_X11_putNumber_4 C hr _ P ?_ k16 p0 1000 r q h
  · intro y4 y5 r6 q7 h
    refine g_locals [0, 1, 2] rfl ?_
    obtain ⟨k15, h⟩ := h
    refine t_X11_putNumber_22 C hr  P  k15 y4 y5 r6 q7 h
theorem c_X11_putNumber (l : Launch) (D : va_G) (T : Nat → ClassId) (m0 : Nat) (a : Nat → Nat) (p0 : Int32) (r : Nat → Int32) (q : Nat → Nat → Int32) (P : RST → Prop) (h : wp_X11_putNumber P p0 r q) : RMv l yX11_putNumber (ws_X11_putNumber) rm_X11_putNumber D T m0 a [.ref m0, .int p0] r q P := gr_metv (by decide) rfl rfl (Nat.le_of_ble_eq_true rfl) (fun p e s m args below meth c A C hr => t_X11_putNumber C hr P p0 r q h)
theorem rl_pn {P : RST → Prop} {v : Nat} (hv : v ≤ 9999) : ∀ (k fuel : Nat) (r : Nat → Int32) (q : Nat → Nat → Int32), k ≤ 3 → k + 1 < fuel → pa40 r (200 - (k + 1)) → (∀ r1 q1, apP r q (dgL k v) r1 q1 → P (r1, q1)) → wp_X11_putNumber_22 P fuel (nI v) (nI (10 ^ k)) r q := by
  intro k
  induction k with
  | zero =>
    intro fuel r q hk hf hp hP
    obtain ⟨f, rfl⟩ : ∃ f, fuel = f + 2 := ⟨fuel - 2, by omega⟩
    rw [wp_X11_putNumber_22]; unfold wb_X11_putNumber_22; dsimp only
    have d1 : nI v / nI (10 ^ 0) = nI v := by rw [show nI (10 ^ 0) = nI 1 from rfl, pk_div (by omega) (by decide) (by decide), Nat.div_one]
    have d2 : nI v - nI v / 10 * 10 = nI (v % 10) := pk_rem (d := 10) (by omega) (by decide) (by decide)
    rw [d1, d2, show (48 : Int32) + nI (v % 10) = nI (48 + v % 10) from nI_add 48 _]
    have hm : v % 10 < 10 := Nat.mod_lt _ (by decide)
    refine ⟨fun c => absurd c (by decide), fun _ => ⟨by decide, ⟨?_, ⟨48 + v % 10, by omega, ?_⟩⟩, fun r11 q12 h11 v13 e13 => ?_⟩⟩
    · obtain ⟨n, hn, e⟩ := hp; exact ⟨n, by omega, e⟩
    · exact c16 (by omega)
    · rw [c16 (by omega)] at h11
      rw [show v13 = 0 by rw [e13]; decide, wp_X11_putNumber_22]; unfold wb_X11_putNumber_22; dsimp only
      exact ⟨fun _ => hP r11 q12 h11, fun c => absurd (by decide) c⟩
  | succ k ih =>
    intro fuel r q hk hf hp hP
    obtain ⟨f, rfl⟩ : ∃ f, fuel = f + 1 := ⟨fuel - 1, by omega⟩; rw [wp_X11_putNumber_22]; unfold wb_X11_putNumber_22; dsimp only
    have hpw : 10 ^ (k + 1) ≤ 1000 := Nat.le_trans (Nat.pow_le_pow_right (n := 10) (by decide) hk) (by decide)
    have hp0 : 0 < 10 ^ (k + 1) := Nat.pow_pos (by decide)
    have d1 : nI v / nI (10 ^ (k + 1)) = nI (v / 10 ^ (k + 1)) := pk_div (by omega) hp0 (by omega)
    have hdv : v / 10 ^ (k + 1) ≤ v := Nat.div_le_self _ _
    have d2 : nI (v / 10 ^ (k + 1)) - nI (v / 10 ^ (k + 1)) / 10 * 10 = nI (v / 10 ^ (k + 1) % 10) := pk_rem (d := 10) (by omega) (by decide) (by decide)
    have hm : v / 10 ^ (k + 1) % 10 < 10 := Nat.mod_lt _ (by decide)
    rw [d1, d2, show (48 : Int32) + nI (v / 10 ^ (k + 1) % 10) = nI (48 + v / 10 ^ (k + 1) % 10) from nI_add 48 _]
    have d3 : nI (10 ^ (k + 1)) / 10 = nI (10 ^ k) := by
      rw [show (10 : Int32) = nI 10 from rfl, pk_div (by omega) (by decide) (by decide), Nat.pow_succ, Nat.mul_div_cancel _ (by decide)]
    refine ⟨fun c => ?_, fun _ => ⟨fun c => ?_, ⟨?_, ⟨48 + v / 10 ^ (k + 1) % 10, by omega, ?_⟩⟩, fun r11 q12 h11 v13 e13 => ?_⟩⟩
    · rw [nz_le0 (by omega)] at c; omega
    · rw [nz_eq0 (by omega)] at c; omega
    · obtain ⟨n, hn, e⟩ := hp; exact ⟨n, by omega, e⟩
    · exact c16 (by omega)
    · rw [c16 (by omega)] at h11
      rw [e13, d3]
      have hp1 : pa40 r11 (200 - (k + 1)) := (h11.p40 hp (by omega)).mn (by show 200 - (k + 1 + 1) + 1 ≤ _; omega)
      refine ih f r11 q12 (by omega) (by omega) hp1 (fun r1 q1 h1 => hP r1 q1 ?_)
      have := h11.tr h1 hp (by show 200 - (k + 1 + 1) + 1 < _; omega)
      exact this
theorem k_X11_putNumber (l : Launch) (D : va_G) (T : Nat → ClassId) (m0 : Nat) (a : Nat → Nat) (p0 : Int32) (r : Nat → Int32) (q : Nat → Nat → Int32) (h : pa40 r 196 ∧ ∃ c : Nat, c ≤ 9999 ∧ p0 = nI c) : RMv l yX11_putNumber (ws_X11_putNumber) rm_X11_putNumber D T m0 a [.ref m0, .int p0] r q (fun u => (apP r q (nuL (iv p0)) u.1 u.2)) := c_X11_putNumber l D T m0 a p0 r q _ <|
  (by
    obtain ⟨hp, ⟨c, hc, ec⟩⟩ := h
    subst ec
    have ic : iv (nI c) = c := nI_clamp (by omega)
    rw [ic]
    unfold wp_X11_putNumber
    have fin : ∀ k, k ≤ 3 → k = (if c < 10 then 0 else if c < 100 then 1 else if c < 1000 then 2 else 3) → ∃ k14 : Nat, wp_X11_putNumber_22 (fun u => apP r q (nuL c) u.1 u.2) k14 (nI c) (nI (10 ^ k)) r q := fun k hk he => ⟨10, rl_pn hc k 10 r q hk (by omega) (hp.mn (by omega)) (fun r1 q1 h1 => by unfold nuL; rw [← he]; exact h1)⟩
    refine ⟨10, ?_⟩
    rw [wp_X11_putNumber_4]; unfold wb_X11_putNumber_4; dsimp only
    refine ⟨fun z9 => absurd z9 (by decide), fun _ => ⟨fun z9 => ?_, fun z9 v3 e3 => ?_⟩⟩
    · have := (nI_leI (a := 1000) (by decide) (by omega)).mp z9
      exact fin 3 (by omega) (by rw [if_neg (by omega), if_neg (by omega), if_neg (by omega)])
    have y3 : ¬ 1000 ≤ c := fun w9 => z9 ((nI_leI (a := 1000) (by decide) (by omega)).mpr w9)
    rw [show v3 = 100 by rw [e3]; decide, wp_X11_putNumber_4]; unfold wb_X11_putNumber_4; dsimp only
    refine ⟨fun z9 => absurd z9 (by decide), fun _ => ⟨fun z9 => ?_, fun z9 v4 e4 => ?_⟩⟩
    · have := (nI_leI (a := 100) (by decide) (by omega)).mp z9
      exact fin 2 (by omega) (by rw [if_neg (by omega), if_neg (by omega), if_pos (by omega)])
    have y2 : ¬ 100 ≤ c := fun w9 => z9 ((nI_leI (a := 100) (by decide) (by omega)).mpr w9)
    rw [show v4 = 10 by rw [e4]; decide, wp_X11_putNumber_4]; unfold wb_X11_putNumber_4; dsimp only
    refine ⟨fun z9 => absurd z9 (by decide), fun _ => ⟨fun z9 => ?_, fun z9 v5 e5 => ?_⟩⟩
    · have := (nI_leI (a := 10) (by decide) (by omega)).mp z9
      exact fin 1 (by omega) (by rw [if_neg (by omega), if_pos (by omega)])
    have y1 : ¬ 10 ≤ c := fun w9 => z9 ((nI_leI (a := 10) (by decide) (by omega)).mpr w9)
    rw [show v5 = 1 by rw [e5]; decide, wp_X11_putNumber_4]; unfold wb_X11_putNumber_4; dsimp only
    exact ⟨fun _ => fin 0 (by omega) (by rw [if_pos (by omega)]), fun z9 => absurd (by decide) z9⟩)

end S_RNS
