section S_RKS
abbrev ws_X11_writes : List Cond := Cond.code yX11_writes cX11_writes 5 (some .boolean) :: W0
abbrev rm_X11_writes : Room := ({ frames := 1, cells := 0, slots := 0, locals := 22 } : Room)
def wp_X11_writes (P : Int32 → RST → Prop) (p0 : Int32) (p1 : Int32) (p2 : Int32) (p3 : Int32) (r : Nat → Int32) (q : Nat → Nat → Int32) : Prop := vp_in p0 3334 ∧ (∀ q2 : Nat → Nat → Int32, q2 = va_up q 0 (upd (q 0) (Int32.toNatClampNeg p0) p1) → (vz (zin p1 p2 p3) ∧ P (zin p1 p2 p3) (r, q2)))
set_option maxRecDepth 100000 in
set_option maxHeartbeats 4000000 in
theorem t_X11_writes {p : Program} {l : Launch} {e : Env} {s : State} {m : MethodId} {args : Array Value} {below : List Frame} {meth : Method} {c : Code} {D : va_G} {A : Nat → Prop} {T : Nat → ClassId} {m0 : Nat} {a : Nat → Nat} (C : GC p s m args meth c cX11_writes "FreightRaterModel" (ws_X11_writes) 5 D A (zty T)) (hr : meth.sig.returnType = (some .boolean)) (P : Int32 → RST → Prop) : ∀ (p0 : Int32) (p1 : Int32) (p2 : Int32) (p3 : Int32) (r : Nat → Int32) (q : Nat → Nat → Int32), wp_X11_writes P p0 p1 p2 p3 r q → GW p l e rm_X11_writes s m args below meth c D A 5 0 0 (MQ below (va_Qi P (RE D T m0 a A) A) args s 0 0 A) (RW m0 a T r q) 0 0 0 [(0, .ref m0), (1, .int p0), (2, .int p1), (3, .int p2), (4, .int p3)] [] := by
  have hw : ∀ {w : Cond}, w ∈ W0 → w.before args s = true := fun h => C.2.2.2.2.1 _ (List.mem_cons_of_mem _ h)
  intro p0 p1 p2 p3 r q h
  unfold wp_X11_writes at h
  refine g_aload_n C dX11_writes_0 rfl 0 rfl ?_
  refine gr_get C iwx_X11 0 (hw kw_1809) (by decide) rfl rfl dX11_writes_1 ?_
  refine g_iload_n C dX11_writes_4 rfl 1 rfl ?_
  refine g_iload_n C dX11_writes_5 rfl 2 rfl ?_
  obtain ⟨g1, h⟩ := h
  refine gr_ast_0 C g1 dX11_writes_6 ?_
  refine gr_nq (fun q2 eq2 => ?_)
  replace h := h q2 eq2
  refine g_iload_n C dX11_writes_7 rfl 2 rfl ?_
  refine g_iload_n C dX11_writes_8 rfl 3 rfl ?_
  refine g_iload C dX11_writes_9 4 rfl ?_
  refine gr_callSf C [.int p1, .int p2, .int p3] rfl (k_X11_in l D T m0 a p1 p2 p3 r q2) (w0_S 3 C.2.2.2.2.1 kw_1944 kw_1945 kw_9 kw_1946 rfl rfl (by decide +kernel) ⟨by decide, by decide⟩) rfl (Nat.le_of_ble_eq_true rfl) (Nat.zero_le _) (Nat.zero_le _) dX11_writes_11 ?_
  exact gr_zret C hr h.1 dX11_writes_14 h.2
theorem c_X11_writes (l : Launch) (D : va_G) (T : Nat → ClassId) (m0 : Nat) (a : Nat → Nat) (p0 : Int32) (p1 : Int32) (p2 : Int32) (p3 : Int32) (r : Nat → Int32) (q : Nat → Nat → Int32) (P : Int32 → RST → Prop) (h : wp_X11_writes P p0 p1 p2 p3 r q) : RMi l yX11_writes (ws_X11_writes) rm_X11_writes D T m0 a [.ref m0, .int p0, .int p1, .int p2, .int p3] r q P := gr_meti (by decide) rfl rfl (Nat.le_of_ble_eq_true rfl) (fun p e s m args below meth c A C hr => t_X11_writes C hr P p0 p1 p2 p3 r q h)
def ptB (μ : Nat → Int32) (v : Nat) (x2 x3 : Int32) : Bool := !decide (999 < x2) && (!decide (999 < x3) && (!decide (x3 < x2) && !decide (μ (274 + 510 * v + 1) = 12)))
def ptS (μ : Nat → Int32) (v : Nat) (x1 x2 x3 : Int32) : Nat → Int32 := upd (upd (upd (upd μ (274 + 510 * v + 2 + 3 * iv (μ (274 + 510 * v + 1))) x2) (274 + 510 * v + 2 + 3 * iv (μ (274 + 510 * v + 1)) + 1) x3) (274 + 510 * v + 2 + 3 * iv (μ (274 + 510 * v + 1)) + 2) x1) (274 + 510 * v + 1) (μ (274 + 510 * v + 1) + 1)
/-- the place of a break's weight -/
def bxF (μ : Nat → Int32) (v z : Nat) (w : Int32) : Nat → Nat → Nat
  | 0, i => i
  | k + 1, i => if μ (274 + 510 * v + 47 + 10 * (z - 1) + 2 * i) < w then bxF μ v z w k (i + 1) else i
def bxI (μ : Nat → Int32) (v z : Nat) (w : Int32) : Nat := bxF μ v z w (iv (μ (274 + 510 * v + 38 + z - 1))) 0
def bxB (μ : Nat → Int32) (v z : Nat) (w : Int32) : Bool := decide (bxI μ v z w < iv (μ (274 + 510 * v + 38 + z - 1))) && decide (μ (274 + 510 * v + 47 + 10 * (z - 1) + 2 * bxI μ v z w) = w)
def bkB (μ : Nat → Int32) (v z : Nat) (w p : Int32) : Bool := !decide (99 < p) && (if p = 0 then bxB μ v z w else bxB μ v z w || !decide (μ (274 + 510 * v + 38 + z - 1) = 5))
def bkD (μ : Nat → Int32) (v z i c : Nat) : Nat → Int32 := fun k => if k = 274 + 510 * v + 38 + z - 1 then nI (c - 1) else if 274 + 510 * v + 47 + 10 * (z - 1) + 2 * i ≤ k ∧ k < 274 + 510 * v + 47 + 10 * (z - 1) + 2 * (c - 1) then μ (k + 2) else μ k
def bkU (μ : Nat → Int32) (v z i c : Nat) : Nat → Int32 := fun k => if 274 + 510 * v + 47 + 10 * (z - 1) + 2 * i + 2 ≤ k ∧ k < 274 + 510 * v + 47 + 10 * (z - 1) + 2 * c + 2 then μ (k - 2) else μ k
def bkS (μ : Nat → Int32) (v z : Nat) (w p : Int32) : Nat → Int32 :=
  if p = 0 then bkD μ v z (bxI μ v z w) (iv (μ (274 + 510 * v + 38 + z - 1)))
  else if bxB μ v z w = true then upd (upd μ (274 + 510 * v + 47 + 10 * (z - 1) + 2 * bxI μ v z w) w) (274 + 510 * v + 47 + 10 * (z - 1) + 2 * bxI μ v z w + 1) p
  else upd (upd (upd (bkU μ v z (bxI μ v z w) (iv (μ (274 + 510 * v + 38 + z - 1)))) (274 + 510 * v + 38 + z - 1) (μ (274 + 510 * v + 38 + z - 1) + 1)) (274 + 510 * v + 47 + 10 * (z - 1) + 2 * bxI μ v z w) w) (274 + 510 * v + 47 + 10 * (z - 1) + 2 * bxI μ v z w + 1) p
def seB (x2 x3 : Int32) : Bool := !decide ((if x3 = 1 then (99 : Int32) else if x3 = 2 then 50 else 9999) < x2)
/-- an accessorial's cells, written -/
def seF (μ : Nat → Int32) (v a : Nat) (x2 x3 rows tested : Int32) (tv : Nat → Int32) (excl : Int32) : Nat → Int32 := fun k => if 274 + 510 * v + 150 + 36 * a + 6 ≤ k ∧ k < 274 + 510 * v + 150 + 36 * a + 36 then (if k - (274 + 510 * v + 150 + 36 * a + 6) < iv tested then tv (k - (274 + 510 * v + 150 + 36 * a + 6)) else 0) else (upd (upd (upd (upd (upd (upd μ (274 + 510 * v + 150 + 36 * a) 1) (274 + 510 * v + 150 + 36 * a + 1) x2) (274 + 510 * v + 150 + 36 * a + 2) x3) (274 + 510 * v + 150 + 36 * a + 3) rows) (274 + 510 * v + 150 + 36 * a + 4) tested) (274 + 510 * v + 150 + 36 * a + 5) excl) k
def seW (μ w u : Nat → Int32) (v s : Nat) : Nat → Int32 := seF μ v (iv (w (s + 1))) (w (s + 2)) (w (s + 3)) (w (s + 5)) (w (s + 6) - w (s + 4)) (fun j => u (iv (w (s + 4)) + j)) (w (s + 7))
def seO (w : Nat → Int32) (s : Nat) : Prop := ∃ t k : Nat, t + k ≤ 80 ∧ w (s + 4) = nI t ∧ w (s + 6) = nI (t + k)
def crB (μ : Nat → Int32) (v : Nat) (k x1 x2 x3 : Int32) : Bool :=
  if k = 122 then ptB μ v x2 x3 else if k = 98 then bkB μ v (iv x1) x2 x3 else if k = 109 then decide (¬ zin x2 0 9999 = 0) else if k = 100 then decide (¬ zin x1 1000 9999 = 0) else if k = 102 then decide (¬ zin x1 0 99 = 0) else if k = 115 then decide (¬ zin x1 0 9999 = 0) else if k = 99 then decide (¬ zin x1 0 9999 = 0) else if k = 97 then seB x2 x3 else decide (μ (274 + 510 * v + 150 + 36 * iv x1) = 1)
def crS (μ : Nat → Int32) (v : Nat) (k x1 x2 x3 rows tested : Int32) (tv : Nat → Int32) (excl : Int32) : Nat → Int32 :=
  if k = 122 then ptS μ v x1 x2 x3 else if k = 98 then bkS μ v (iv x1) x2 x3 else if k = 109 then upd μ (274 + 510 * v + 137 + iv x1 - 1) x2 else if k = 100 then upd μ (274 + 510 * v + 146) x1 else if k = 102 then upd μ (274 + 510 * v + 147) x1 else if k = 115 then upd μ (274 + 510 * v + 148) x1 else if k = 99 then upd μ (274 + 510 * v + 149) x1 else if k = 97 then seF μ v (iv x1) x2 x3 rows tested tv excl else zf μ (274 + 510 * v + 150 + 36 * iv x1) 36
/-- a statement that may be carried out -/
def crO (w : Nat → Int32) (s : Nat) : Prop := ((w s = 98 ∨ w s = 109) → zix (w (s + 1))) ∧ (w s = 98 → ∃ n : Nat, n ≤ 9999 ∧ w (s + 3) = nI n) ∧ (w s = 97 → six (w (s + 1)) ∧ seO w s) ∧ ((¬ w s = 122 ∧ ¬ w s = 98 ∧ ¬ w s = 109 ∧ ¬ w s = 100 ∧ ¬ w s = 102 ∧ ¬ w s = 115 ∧ ¬ w s = 99 ∧ ¬ w s = 97) → six (w (s + 1)))
theorem bxF_le {μ : Nat → Int32} {v z : Nat} {w : Int32} : ∀ k i, i ≤ bxF μ v z w k i ∧ bxF μ v z w k i ≤ i + k := by
  intro k
  induction k with
  | zero => intro i; exact ⟨Nat.le_refl _, Nat.le_refl _⟩
  | succ k ih =>
    intro i
    rw [bxF]
    split
    · have := ih (i + 1); omega
    · omega
theorem k_X11_writes (l : Launch) (D : va_G) (T : Nat → ClassId) (m0 : Nat) (a : Nat → Nat) (p0 : Int32) (p1 : Int32) (p2 : Int32) (p3 : Int32) (r : Nat → Int32) (q : Nat → Nat → Int32) (h : ∃ n : Nat, n < 3334 ∧ p0 = nI n) : RMi l yX11_writes (ws_X11_writes) rm_X11_writes D T m0 a [.ref m0, .int p0, .int p1, .int p2, .int p3] r q (fun v u => (v = zin p1 p2 p3 ∧ u.1 = r ∧ u.2 = va_up q 0 (upd (q 0) (iv p0) p1))) := c_X11_writes l D T m0 a p0 p1 p2 p3 r q _ <|
  (by
    obtain ⟨n, hn, e⟩ := h
    subst e
    unfold wp_X11_writes
    rw [nz_vp (by omega) (by decide)]
    refine ⟨hn, fun q2 e2 => ⟨?_, rfl, rfl, e2⟩⟩
    unfold zin
    split
    · exact vz0
    split
    · exact vz0
    · exact vz1)
abbrev ws_X11_puts : List Cond := Cond.code yX11_puts cX11_puts 5 (some .boolean) :: W0
abbrev rm_X11_puts : Room := ({ frames := 1, cells := 0, slots := 0, locals := 20 } : Room)
def wp_X11_puts (P : Int32 → RST → Prop) (p0 : Int32) (p1 : Int32) (r : Nat → Int32) (q : Nat → Nat → Int32) : Prop := ∀ v1 : Int32, v1 = ((274 + 510 * p0) + 1) → (vp_in (p1 + 2) 640 ∧ ((999 < (q 5 (Int32.toNatClampNeg (p1 + 2))) → (P 0 (r, q))) ∧ (¬ 999 < (q 5 (Int32.toNatClampNeg (p1 + 2))) → (vp_in (p1 + 3) 640 ∧ ((999 < (q 5 (Int32.toNatClampNeg (p1 + 3))) → (P 0 (r, q))) ∧ (¬ 999 < (q 5 (Int32.toNatClampNeg (p1 + 3))) → (vp_in (p1 + 2) 640 ∧ (vp_in (p1 + 3) 640 ∧ (((q 5 (Int32.toNatClampNeg (p1 + 3))) < (q 5 (Int32.toNatClampNeg (p1 + 2))) → (P 0 (r, q))) ∧ (¬ (q 5 (Int32.toNatClampNeg (p1 + 3))) < (q 5 (Int32.toNatClampNeg (p1 + 2))) → (vp_in v1 3334 ∧ ((¬ (q 0 (Int32.toNatClampNeg v1)) = 12 → (vp_in v1 3334 ∧ (∀ v12 : Int32, v12 = (((274 + 510 * p0) + 2) + (3 * (q 0 (Int32.toNatClampNeg v1)))) → (vp_in (p1 + 2) 640 ∧ (vp_in v12 3334 ∧ (∀ q15 : Nat → Nat → Int32, q15 = va_up q 0 (upd (q 0) (Int32.toNatClampNeg v12) (q 5 (Int32.toNatClampNeg (p1 + 2)))) → (vp_in (p1 + 3) 640 ∧ (vp_in (v12 + 1) 3334 ∧ (∀ q18 : Nat → Nat → Int32, q18 = va_up q15 0 (upd (q15 0) (Int32.toNatClampNeg (v12 + 1)) (q15 5 (Int32.toNatClampNeg (p1 + 3)))) → (vp_in (p1 + 1) 640 ∧ (vp_in (v12 + 2) 3334 ∧ (∀ q21 : Nat → Nat → Int32, q21 = va_up q18 0 (upd (q18 0) (Int32.toNatClampNeg (v12 + 2)) (q18 5 (Int32.toNatClampNeg (p1 + 1)))) → (vp_in v1 3334 ∧ (vp_in v1 3334 ∧ (∀ q24 : Nat → Nat → Int32, q24 = va_up q21 0 (upd (q21 0) (Int32.toNatClampNeg v1) ((q21 0 (Int32.toNatClampNeg v1)) + 1)) → (P 1 (r, q24))))))))))))))))) ∧ ((q 0 (Int32.toNatClampNeg v1)) = 12 → (P 0 (r, q)))))))))))))))
set_option maxRecDepth 100000 in
set_option maxHeartbeats 4000000 in
theorem t_X11_puts {p : Program} {l : Launch} {e : Env} {s : State} {m : MethodId} {args : Array Value} {below : List Frame} {meth : Method} {c : Code} {D : va_G} {A : Nat → Prop} {T : Nat → ClassId} {m0 : Nat} {a : Nat → Nat} (C : GC p s m args meth c cX11_puts "FreightRaterModel" (ws_X11_puts) 5 D A (zty T)) (hr : meth.sig.returnType = (some .boolean)) (P : Int32 → RST → Prop) : ∀ (p0 : Int32) (p1 : Int32) (r : Nat → Int32) (q : Nat → Nat → Int32), wp_X11_puts P p0 p1 r q → GW p l e rm_X11_puts s m args below meth c D A 5 0 0 (MQ below (va_Qi P (RE D T m0 a A) A) args s 0 0 A) (RW m0 a T r q) 0 0 0 [(0, .ref m0), (1, .int p0), (2, .int p1)] [] := by
  have hw : ∀ {w : Cond}, w ∈ W0 → w.before args s = true := fun h => C.2.2.2.2.1 _ (List.mem_cons_of_mem _ h)
  intro p0 p1 r q h
  unfold wp_X11_puts at h
  refine g_iload_n C dX11_puts_0 rfl 1 rfl ?_
  refine gr_callSf C [.int p0] rfl (k_X11_at l D T m0 a p0 r q) (w0_S 1 C.2.2.2.2.1 kw_1947 kw_1948 kw_9 kw_1949 rfl rfl (by decide +kernel) ⟨by decide, by decide⟩) rfl (Nat.le_of_ble_eq_true rfl) (Nat.zero_le _) (Nat.zero_le _) dX11_puts_1 ?_
  refine g_iconst (v := 1) C dX11_puts_4 (by decide) ?_
  refine g_iadd C dX11_puts_5 ?_
  refine g_topi (fun v1 ev1 => ?_)
  replace h := h v1 ev1
  refine g_istore_n (lv' := [(3, .int v1), (0, .ref m0), (1, .int p0), (2, .int p1)]) C dX11_puts_6 rfl (by decide) rfl ?_
  refine g_aload_n C dX11_puts_7 rfl 1 rfl ?_
  refine gr_get C iwx_X11 14 (hw kw_1823) (by decide) rfl rfl dX11_puts_8 ?_
  refine g_iload_n C dX11_puts_11 rfl 3 rfl ?_
  refine g_iconst (v := 2) C dX11_puts_12 (by decide) ?_
  refine g_iadd C dX11_puts_13 ?_
  obtain ⟨g2, h⟩ := h
  refine gr_ald_5 C g2 dX11_puts_14 ?_
  refine g_sipush (v := 999) C dX11_puts_15 (by decide) ?_
  refine g_icmp_gt (tgt := 65) C dX11_puts_18 (by decide) (fun z3 => ?_) (fun z3 => ?_)
  · replace h := h.1 z3
    refine g_iconst (v := 0) C dX11_puts_65 (by decide) ?_
    exact gr_zret C hr vz0 dX11_puts_66 h
  · replace h := h.2 z3
    refine g_aload_n C dX11_puts_21 rfl 1 rfl ?_
    refine gr_get C iwx_X11 14 (hw kw_1823) (by decide) rfl rfl dX11_puts_22 ?_
    refine g_iload_n C dX11_puts_25 rfl 3 rfl ?_
    refine g_iconst (v := 3) C dX11_puts_26 (by decide) ?_
    refine g_iadd C dX11_puts_27 ?_
    obtain ⟨g4, h⟩ := h
    refine gr_ald_5 C g4 dX11_puts_28 ?_
    refine g_sipush (v := 999) C dX11_puts_29 (by decide) ?_
    refine g_icmp_gt (tgt := 65) C dX11_puts_32 (by decide) (fun z5 => ?_) (fun z5 => ?_)
    · replace h := h.1 z5
      refine g_iconst (v := 0) C dX11_puts_65 (by decide) ?_
      exact gr_zret C hr vz0 dX11_puts_66 h
    · replace h := h.2 z5
      refine g_aload_n C dX11_puts_35 rfl 1 rfl ?_
      refine gr_get C iwx_X11 14 (hw kw_1823) (by decide) rfl rfl dX11_puts_36 ?_
      refine g_iload_n C dX11_puts_39 rfl 3 rfl ?_
      refine g_iconst (v := 2) C dX11_puts_40 (by decide) ?_
      refine g_iadd C dX11_puts_41 ?_
      obtain ⟨g6, h⟩ := h
      refine gr_ald_5 C g6 dX11_puts_42 ?_
      refine g_aload_n C dX11_puts_43 rfl 1 rfl ?_
      refine gr_get C iwx_X11 14 (hw kw_1823) (by decide) rfl rfl dX11_puts_44 ?_
      refine g_iload_n C dX11_puts_47 rfl 3 rfl ?_
      refine g_iconst (v := 3) C dX11_puts_48 (by decide) ?_
      refine g_iadd C dX11_puts_49 ?_
      obtain ⟨g7, h⟩ := h
      refine gr_ald_5 C g7 dX11_puts_50 ?_
      refine g_icmp_gt (tgt := 65) C dX11_puts_51 (by decide) (fun z8 => ?_) (fun z8 => ?_)
      · replace h := h.1 z8
        refine g_iconst (v := 0) C dX11_puts_65 (by decide) ?_
        exact gr_zret C hr vz0 dX11_puts_66 h
      · replace h := h.2 z8
        refine g_aload_n C dX11_puts_54 rfl 1 rfl ?_
        refine gr_get C iwx_X11 0 (hw kw_1809) (by decide) rfl rfl dX11_puts_55 ?_
        refine g_iload_n C dX11_puts_58 rfl 0 rfl ?_
        obtain ⟨g9, h⟩ := h
        refine gr_ald_0 C g9 dX11_puts_59 ?_
        refine g_bipush (v := 12) C dX11_puts_60 (by decide) ?_
        refine g_icmp_ne (tgt := 67) C dX11_puts_62 (by decide) (fun z10 => ?_) (fun z10 => ?_)
        · replace h := h.1 z10
          refine g_iload_n C dX11_puts_67 rfl 2 rfl ?_
          refine gr_callSf C [.int p0] rfl (k_X11_at l D T m0 a p0 r q) (w0_S 1 C.2.2.2.2.1 kw_1947 kw_1948 kw_9 kw_1949 rfl rfl (by decide +kernel) ⟨by decide, by decide⟩) rfl (Nat.le_of_ble_eq_true rfl) (Nat.zero_le _) (Nat.zero_le _) dX11_puts_68 ?_
          refine g_iconst (v := 2) C dX11_puts_71 (by decide) ?_
          refine g_iadd C dX11_puts_72 ?_
          refine g_iconst (v := 3) C dX11_puts_73 (by decide) ?_
          refine g_aload_n C dX11_puts_74 rfl 1 rfl ?_
          refine gr_get C iwx_X11 0 (hw kw_1809) (by decide) rfl rfl dX11_puts_75 ?_
          refine g_iload_n C dX11_puts_78 rfl 0 rfl ?_
          obtain ⟨g11, h⟩ := h
          refine gr_ald_0 C g11 dX11_puts_79 ?_
          refine g_imul C dX11_puts_80 ?_
          refine g_iadd C dX11_puts_81 ?_
          refine g_topi (fun v12 ev12 => ?_)
          replace h := h v12 ev12
          refine g_istore (lv' := [(4, .int v12), (3, .int v1), (0, .ref m0), (1, .int p0), (2, .int p1)]) C dX11_puts_82 (by decide) rfl ?_
          refine g_aload_n C dX11_puts_84 rfl 2 rfl ?_
          refine gr_get C iwx_X11 0 (hw kw_1809) (by decide) rfl rfl dX11_puts_85 ?_
          refine g_iload C dX11_puts_88 0 rfl ?_
          refine g_aload_n C dX11_puts_90 rfl 2 rfl ?_
          refine gr_get C iwx_X11 14 (hw kw_1823) (by decide) rfl rfl dX11_puts_91 ?_
          refine g_iload_n C dX11_puts_94 rfl 4 rfl ?_
          refine g_iconst (v := 2) C dX11_puts_95 (by decide) ?_
          refine g_iadd C dX11_puts_96 ?_
          obtain ⟨g13, h⟩ := h
          refine gr_ald_5 C g13 dX11_puts_97 ?_
          obtain ⟨g14, h⟩ := h
          refine gr_ast_0 C g14 dX11_puts_98 ?_
          refine gr_nq (fun q15 eq15 => ?_)
          replace h := h q15 eq15
          refine g_aload_n C dX11_puts_99 rfl 2 rfl ?_
          refine gr_get C iwx_X11 0 (hw kw_1809) (by decide) rfl rfl dX11_puts_100 ?_
          refine g_iload C dX11_puts_103 0 rfl ?_
          refine g_iconst (v := 1) C dX11_puts_105 (by decide) ?_
          refine g_iadd C dX11_puts_106 ?_
          refine g_aload_n C dX11_puts_107 rfl 2 rfl ?_
          refine gr_get C iwx_X11 14 (hw kw_1823) (by decide) rfl rfl dX11_puts_108 ?_
          refine g_iload_n C dX11_puts_111 rfl 4 rfl ?_
          refine g_iconst (v := 3) C dX11_puts_112 (by decide) ?_
          refine g_iadd C dX11_puts_113 ?_
          obtain ⟨g16, h⟩ := h
          refine gr_ald_5 C g16 dX11_puts_114 ?_
          obtain ⟨g17, h⟩ := h
          refine gr_ast_0 C g17 dX11_puts_115 ?_
          refine gr_nq (fun q18 eq18 => ?_)
          replace h := h q18 eq18
          refine g_aload_n C dX11_puts_116 rfl 2 rfl ?_
          refine gr_get C iwx_X11 0 (hw kw_1809) (by decide) rfl rfl dX11_puts_117 ?_
          refine g_iload C dX11_puts_120 0 rfl ?_
          refine g_iconst (v := 2) C dX11_puts_122 (by decide) ?_
          refine g_iadd C dX11_puts_123 ?_
          refine g_aload_n C dX11_puts_124 rfl 2 rfl ?_
          refine gr_get C iwx_X11 14 (hw kw_1823) (by decide) rfl rfl dX11_puts_125 ?_
          refine g_iload_n C dX11_puts_128 rfl 4 rfl ?_
          refine g_iconst (v := 1) C dX11_puts_129 (by decide) ?_
          refine g_iadd C dX11_puts_130 ?_
          obtain ⟨g19, h⟩ := h
          refine gr_ald_5 C g19 dX11_puts_131 ?_
          obtain ⟨g20, h⟩ := h
          refine gr_ast_0 C g20 dX11_puts_132 ?_
          refine gr_nq (fun q21 eq21 => ?_)
          replace h := h q21 eq21
          refine g_aload_n C dX11_puts_133 rfl 2 rfl ?_
          refine gr_get C iwx_X11 0 (hw kw_1809) (by decide) rfl rfl dX11_puts_134 ?_
          refine g_iload_n C dX11_puts_137 rfl 1 rfl ?_
          refine g_dup2 C dX11_puts_138 rfl rfl ?_
          obtain ⟨g22, h⟩ := h
          refine gr_ald_0 C g22 dX11_puts_139 ?_
          refine g_iconst (v := 1) C dX11_puts_140 (by decide) ?_
          refine g_iadd C dX11_puts_141 ?_
          obtain ⟨g23, h⟩ := h
          refine gr_ast_0 C g23 dX11_puts_142 ?_
          refine gr_nq (fun q24 eq24 => ?_)
          replace h := h q24 eq24
          refine g_iconst (v := 1) C dX11_puts_143 (by decide) ?_
          exact gr_zret C hr vz1 dX11_puts_144 h
        · replace h := h.2 z10
          refine g_iconst (v := 0) C dX11_puts_65 (by decide) ?_
          exact gr_zret C hr vz0 dX11_puts_66 h
theorem c_X11_puts (l : Launch) (D : va_G) (T : Nat → ClassId) (m0 : Nat) (a : Nat → Nat) (p0 : Int32) (p1 : Int32) (r : Nat → Int32) (q : Nat → Nat → Int32) (P : Int32 → RST → Prop) (h : wp_X11_puts P p0 p1 r q) : RMi l yX11_puts (ws_X11_puts) rm_X11_puts D T m0 a [.ref m0, .int p0, .int p1] r q P := gr_meti (by decide) rfl rfl (Nat.le_of_ble_eq_true rfl) (fun p e s m args below meth c A C hr => t_X11_puts C hr P p0 p1 r q h)
theorem k_X11_puts (l : Launch) (D : va_G) (T : Nat → ClassId) (m0 : Nat) (a : Nat → Nat) (p0 : Int32) (p1 : Int32) (r : Nat → Int32) (q : Nat → Nat → Int32) (h : WF (q 0) ∧ vix p0 ∧ s8 p1) : RMi l yX11_puts (ws_X11_puts) rm_X11_puts D T m0 a [.ref m0, .int p0, .int p1] r q (fun v u => (v = b2i (ptB (q 0) (iv p0) (q 5 (iv p1 + 2)) (q 5 (iv p1 + 3))) ∧ u.1 = r ∧ kQ q u.2 [0] ∧ (ptB (q 0) (iv p0) (q 5 (iv p1 + 2)) (q 5 (iv p1 + 3)) = true → u.2 0 = ptS (q 0) (iv p0) (q 5 (iv p1 + 1)) (q 5 (iv p1 + 2)) (q 5 (iv p1 + 3))))) := c_X11_puts l D T m0 a p0 p1 r q _ <|
  (by
    obtain ⟨hw, ⟨v, hv, e0⟩, ⟨s, hs, e1⟩⟩ := h
    subst e0 e1
    obtain ⟨c, hc, ec⟩ := hw.rng hv
    have es : iv (nI s) = s := nI_clamp (by omega)
    have ev : iv (nI v) = v := nI_clamp (by omega)
    rw [es, ev]
    unfold wp_X11_puts
    intro v1 e1
    have e1' : v1 = nI (274 + 510 * v + 1) := by rw [e1]; simp (disch := omega) only [li_2, li_3, li_4, li_5, li_6, li_7, li_8, li_9, li_10, li_12, li_14, li_20, li_26, li_30, li_31, li_36, li_38, li_47, li_48, li_50, li_57, li_58, li_80, li_98, li_99, li_100, li_102, li_104, li_105, li_108, li_109, li_110, li_114, li_115, li_119, li_122, li_137, li_146, li_147, li_148, li_149, li_150, li_200, li_255, li_256, li_274, li_510, li_512, li_640, li_999, li_1000, li_1024, li_3334, li_5000, li_9999, li_10000, li_23338, li_26672, li_30000, li_99999, li_150000, li_300000, pk_mul, nI_add, pk_sub, nI_clamp, nI_1, nI_p1, nI_a0, nI_0a, nI_m0, nI_m1, cl_0, cl_1, z01, z11]
    clear e1
    subst e1'
    simp (disch := omega) only [li_2, li_3, li_4, li_5, li_6, li_7, li_8, li_9, li_10, li_12, li_14, li_20, li_26, li_30, li_31, li_36, li_38, li_47, li_48, li_50, li_57, li_58, li_80, li_98, li_99, li_100, li_102, li_104, li_105, li_108, li_109, li_110, li_114, li_115, li_119, li_122, li_137, li_146, li_147, li_148, li_149, li_150, li_200, li_255, li_256, li_274, li_510, li_512, li_640, li_999, li_1000, li_1024, li_3334, li_5000, li_9999, li_10000, li_23338, li_26672, li_30000, li_99999, li_150000, li_300000, pk_mul, nI_add, pk_sub, nI_clamp, nI_1, nI_p1, nI_a0, nI_0a, nI_m0, nI_m1, cl_0, cl_1, z01, z11, nI_leI, nI_ltI, nI_eq, nz_lt0, nz_le, nz_eq0, nz_pos, nz_le0, nz_eq1, nz_lt1, nz_ge1, nz_le1, nz_gt1, nz_vp, nz_vp0, nz_vp1, six_nI, vix_nI, bix_nI, pix_nI, fix_nI, gix_nI, rix_nI, zix_nI, pix_0, pix_1, bix_0, fix_0, fix_1, rix_1, true_and, and_true]
    unfold ptB
    refine ⟨by omega, fun c1 => ⟨?_, kQ.rf, fun z => ?_⟩, fun c1 => ⟨by omega, fun c2 => ⟨?_, kQ.rf, fun z => ?_⟩, fun c2 => ⟨by omega, by omega, fun c3 => ⟨?_, kQ.rf, fun z => ?_⟩, fun c3 => ⟨by omega, fun c4 => ⟨by omega, fun v12 e12 => ?_⟩, fun c4 => ⟨?_, kQ.rf, fun z => ?_⟩⟩⟩⟩⟩
    · rw [show (999 : Int32) = nI 999 from rfl]; simp [c1, b2i]
    · rw [show (999 : Int32) = nI 999 from rfl] at z; simp [c1] at z
    · rw [show (999 : Int32) = nI 999 from rfl]; simp [c2, b2i]
    · rw [show (999 : Int32) = nI 999 from rfl] at z; simp [c2] at z
    · simp [c3, b2i]
    · simp [c3] at z
    · have e12' : v12 = nI (274 + 510 * v + 2 + 3 * c) := by rw [e12, ec]; simp (disch := omega) only [li_2, li_3, li_4, li_5, li_6, li_7, li_8, li_9, li_10, li_12, li_14, li_20, li_26, li_30, li_31, li_36, li_38, li_47, li_48, li_50, li_57, li_58, li_80, li_98, li_99, li_100, li_102, li_104, li_105, li_108, li_109, li_110, li_114, li_115, li_119, li_122, li_137, li_146, li_147, li_148, li_149, li_150, li_200, li_255, li_256, li_274, li_510, li_512, li_640, li_999, li_1000, li_1024, li_3334, li_5000, li_9999, li_10000, li_23338, li_26672, li_30000, li_99999, li_150000, li_300000, pk_mul, nI_add, pk_sub, nI_clamp, nI_1, nI_p1, nI_a0, nI_0a, nI_m0, nI_m1, cl_0, cl_1, z01, z11]
      clear e12
      subst e12'
      simp (disch := omega) only [li_2, li_3, li_4, li_5, li_6, li_7, li_8, li_9, li_10, li_12, li_14, li_20, li_26, li_30, li_31, li_36, li_38, li_47, li_48, li_50, li_57, li_58, li_80, li_98, li_99, li_100, li_102, li_104, li_105, li_108, li_109, li_110, li_114, li_115, li_119, li_122, li_137, li_146, li_147, li_148, li_149, li_150, li_200, li_255, li_256, li_274, li_510, li_512, li_640, li_999, li_1000, li_1024, li_3334, li_5000, li_9999, li_10000, li_23338, li_26672, li_30000, li_99999, li_150000, li_300000, pk_mul, nI_add, pk_sub, nI_clamp, nI_1, nI_p1, nI_a0, nI_0a, nI_m0, nI_m1, cl_0, cl_1, z01, z11, nI_leI, nI_ltI, nI_eq, nz_lt0, nz_le, nz_eq0, nz_pos, nz_le0, nz_eq1, nz_lt1, nz_ge1, nz_le1, nz_gt1, nz_vp, nz_vp0, nz_vp1, six_nI, vix_nI, bix_nI, pix_nI, fix_nI, gix_nI, rix_nI, zix_nI, pix_0, pix_1, bix_0, fix_0, fix_1, rix_1, true_and, and_true]
      refine ⟨by omega, by omega, fun q15 e15 => ⟨by omega, by omega, fun q18 e18 => ⟨by omega, by omega, fun q21 e21 => ⟨by omega, by omega, fun q24 e24 => ?_⟩⟩⟩⟩
      have h15 : q15 5 = q 5 := by rw [e15, va_up_ne _ _ (by decide)]
      have h18 : q18 5 = q 5 := by rw [e18, va_up_ne _ _ (by decide)]; exact h15
      have k24 : kQ q q24 [0] := by rw [e24, e21, e18, e15]; exact (((kQ.rf.up (by decide) _).up (by decide) _).up (by decide) _).up (by decide) _
      refine ⟨?_, k24, fun _ => ?_⟩
      · have hB9 : ptB (q 0) v (q 5 (s + 2)) (q 5 (s + 3)) = true := by
          unfold ptB
          rw [decide_eq_false (show ¬ (999 : Int32) < q 5 (s + 2) from c1), decide_eq_false (show ¬ (999 : Int32) < q 5 (s + 3) from c2), decide_eq_false c3, decide_eq_false (show ¬ q 0 (274 + 510 * v + 1) = (12 : Int32) from c4)]; rfl
        show (1 : Int32) = b2i (ptB (q 0) v (q 5 (s + 2)) (q 5 (s + 3)))
        rw [hB9]; rfl
      · have ic : iv (q 0 (274 + 510 * v + 1)) = c := by rw [ec]; exact nI_clamp (by omega)
        unfold ptS
        rw [ic, e24, va_up_self, e21, va_up_self, h18, e18, va_up_self, h15, e15, va_up_self]
        rw [pk_un (k := 274 + 510 * v + 2 + 3 * c + 2) (by omega), pk_un (k := 274 + 510 * v + 2 + 3 * c + 1) (by omega), pk_un (k := 274 + 510 * v + 2 + 3 * c) (by omega)]
    · rw [show (999 : Int32) = nI 999 from rfl, show (12 : Int32) = nI 12 from rfl]; simp [c1, c2, c3, c4, b2i]
    · rw [show (999 : Int32) = nI 999 from rfl, show (12 : Int32) = nI 12 from rfl] at z; simp [c1, c2, c3, c4] at z)

end S_RKS
