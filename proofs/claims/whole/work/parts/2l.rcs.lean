section S_RCS
abbrev ws_X11_ship : List Cond := Cond.code yX11_ship cX11_ship 7 (some .int) :: W0
abbrev rm_X11_ship : Room := ({ frames := 1, cells := 0, slots := 0, locals := 22 } : Room)
def wb_X11_ship_101 (rec : Int32 → Int32 → Int32 → Int32 → Int32 → Int32 → (Nat → Int32) → (Nat → Nat → Int32) → Prop) (K125 : Int32 → Int32 → Int32 → Int32 → Int32 → (Nat → Int32) → (Nat → Nat → Int32) → Prop) (P : Int32 → RST → Prop) (x1 : Int32) (x2 : Int32) (x3 : Int32) (x4 : Int32) (x5 : Int32) (x6 : Int32) (r : Nat → Int32) (q : Nat → Nat → Int32) : Prop := (26 ≤ x6 → (K125 x1 x2 x3 x4 x5 r q)) ∧ (¬ 26 ≤ x6 → (vp_in (x5 + x6) 3334 ∧ (∀ q12 : Nat → Nat → Int32, q12 = va_up q 0 (upd (q 0) (Int32.toNatClampNeg (x5 + x6)) 0) → (∀ v13 : Int32, v13 = x6 + 1 → (rec x1 x2 x3 x4 x5 v13 r q12)))))
def wp_X11_ship_101 (K125 : Int32 → Int32 → Int32 → Int32 → Int32 → (Nat → Int32) → (Nat → Nat → Int32) → Prop) (P : Int32 → RST → Prop) : Nat → Int32 → Int32 → Int32 → Int32 → Int32 → Int32 → (Nat → Int32) → (Nat → Nat → Int32) → Prop
  | 0 => fun _ _ _ _ _ _ _ _ => False
  | n + 1 => fun x1 x2 x3 x4 x5 x6 r q => wb_X11_ship_101 (wp_X11_ship_101 K125 P n) K125 P x1 x2 x3 x4 x5 x6 r q
set_option maxRecDepth 100000 in
set_option maxHeartbeats 4000000 in
theorem t_X11_ship_101 {p : Program} {l : Launch} {e : Env} {s : State} {m : MethodId} {args : Array Value} {below : List Frame} {meth : Method} {c : Code} {D : va_G} {A : Nat → Prop} {T : Nat → ClassId} {m0 : Nat} {a : Nat → Nat} (C : GC p s m args meth c cX11_ship "FreightRaterModel" (ws_X11_ship) 7 D A (zty T)) (hr : meth.sig.returnType = (some .int)) (K125 : Int32 → Int32 → Int32 → Int32 → Int32 → (Nat → Int32) → (Nat → Nat → Int32) → Prop) (P : Int32 → RST → Prop) (hK125 : ∀ (x1 : Int32) (x2 : Int32) (x3 : Int32) (x4 : Int32) (x5 : Int32) (r : Nat → Int32) (q : Nat → Nat → Int32), K125 x1 x2 x3 x4 x5 r q → GW p l e rm_X11_ship s m args below meth c D A 7 0 0 (MQ below (va_Qi P (RE D T m0 a A) A) args s 0 0 A) (RW m0 a T r q) 0 0 125 [(0, .ref m0), (1, .int x1), (2, .int x2), (3, .int x3), (4, .int x4), (5, .int x5)] []) : ∀ (n : Nat) (x1 : Int32) (x2 : Int32) (x3 : Int32) (x4 : Int32) (x5 : Int32) (x6 : Int32) (r : Nat → Int32) (q : Nat → Nat → Int32), wp_X11_ship_101 K125 P n x1 x2 x3 x4 x5 x6 r q → GW p l e rm_X11_ship s m args below meth c D A 7 0 0 (MQ below (va_Qi P (RE D T m0 a A) A) args s 0 0 A) (RW m0 a T r q) 0 0 101 [(0, .ref m0), (1, .int x1), (2, .int x2), (3, .int x3), (4, .int x4), (5, .int x5), (6, .int x6)] [] := by
  have hw : ∀ {w : Cond}, w ∈ W0 → w.before args s = true := fun h => C.2.2.2.2.1 _ (List.mem_cons_of_mem _ h)
  intro n
  induction n with
  | zero => intro x1 x2 x3 x4 x5 x6 r q h; exact h.elim
  | succ n ih =>
    intro x1 x2 x3 x4 x5 x6 r q h
    replace h : wb_X11_ship_101 (wp_X11_ship_101 K125 P n) K125 P x1 x2 x3 x4 x5 x6 r q := h
    unfold wb_X11_ship_101 at h
    refine g_iload C dX11_ship_101 6 rfl ?_
    refine g_bipush (v := 26) C dX11_ship_103 (by decide) ?_
    refine g_icmp_ge (tgt := 125) C dX11_ship_105 (by decide) (fun z10 => ?_) (fun z10 => ?_)
    · replace h := h.1 z10
      refine g_locals [0, 1, 2, 3, 4, 5] rfl ?_
      exact hK125 x1 x2 x3 x4 x5 r q h
    · replace h := h.2 z10
      refine g_aload_n C dX11_ship_108 rfl 0 rfl ?_
      refine gr_get C iwx_X11 0 (hw kw_1809) (by decide) rfl rfl dX11_ship_109 ?_
      refine g_iload C dX11_ship_112 5 rfl ?_
      refine g_iload C dX11_ship_114 6 rfl ?_
      refine g_iadd C dX11_ship_116 ?_
      refine g_iconst (v := 0) C dX11_ship_117 (by decide) ?_
      obtain ⟨g11, h⟩ := h
      refine gr_ast_0 C g11 dX11_ship_118 ?_
      refine gr_nq (fun q12 eq12 => ?_)
      replace h := h q12 eq12
      obtain ⟨v13, ev13⟩ : ∃ y : Int32, y = x6 + 1 := ⟨_, rfl⟩
      replace h := h v13 ev13
      refine g_iinc (v := v13) (lv' := [(6, .int v13), (0, .ref m0), (1, .int x1), (2, .int x2), (3, .int x3), (4, .int x4), (5, .int x5)]) C dX11_ship_119 (j := 6) rfl (by rw [ev13]; rfl) (by decide) rfl ?_
      refine g_goto (tgt := 101) C dX11_ship_122 (by decide) ?_
      refine g_locals [1, 2, 3, 4, 5, 6, 0] rfl ?_
      exact ih x1 x2 x3 x4 x5 v13 r q12 h
def wp_X11_ship (P : Int32 → RST → Prop) (p0 : Int32) (p1 : Int32) (p2 : Int32) (p3 : Int32) (r : Nat → Int32) (q : Nat → Nat → Int32) : Prop := ((zin p0 0 999) = 0 → (∀ r2 : Nat → Int32, r2 = va_up r 6 1 → (((r2 6) ≤ 0 → ((CW8 r2) ∧ (∀ (r5 : Nat → Int32) (q6 : Nat → Nat → Int32), (kR r2 r5 [5] ∧ kQ q q6 [3] ∧ psh (q 3) (q6 3) (q 0) (r2 5) (r5 5)) → (vp_in 1 3334 ∧ (∀ v9 : Int32, v9 = (14 + (26 * (q6 0 (Int32.toNatClampNeg 1)))) → (∃ k35 : Nat, wp_X11_ship_101 (fun (y14 : Int32) (y15 : Int32) (y16 : Int32) (y17 : Int32) (y18 : Int32) (r19 : Nat → Int32) (q20 : Nat → Nat → Int32) => vp_in (y18 + 0) 3334 ∧ (∀ q22 : Nat → Nat → Int32, q22 = va_up q20 0 (upd (q20 0) (Int32.toNatClampNeg (y18 + 0)) y14) → (vp_in (y18 + 1) 3334 ∧ (∀ q24 : Nat → Nat → Int32, q24 = va_up q22 0 (upd (q22 0) (Int32.toNatClampNeg (y18 + 1)) y15) → (vp_in (y18 + 2) 3334 ∧ (∀ q26 : Nat → Nat → Int32, q26 = va_up q24 0 (upd (q24 0) (Int32.toNatClampNeg (y18 + 2)) y16) → (vp_in (y18 + 3) 3334 ∧ (∀ q28 : Nat → Nat → Int32, q28 = va_up q26 0 (upd (q26 0) (Int32.toNatClampNeg (y18 + 3)) y17) → (vp_in (y18 + 5) 3334 ∧ (∀ q30 : Nat → Nat → Int32, q30 = va_up q28 0 (upd (q28 0) (Int32.toNatClampNeg (y18 + 5)) (-1)) → (vp_in 1 3334 ∧ (vp_in 1 3334 ∧ (∀ q33 : Nat → Nat → Int32, q33 = va_up q30 0 (upd (q30 0) (Int32.toNatClampNeg 1) ((q30 0 (Int32.toNatClampNeg 1)) + 1)) → (vp_in 1 3334 ∧ (P ((q33 0 (Int32.toNatClampNeg 1)) - 1) (r19, q33)))))))))))))))) P k35 p0 p1 p2 p3 v9 0 r5 q6)))))) ∧ (¬ (r2 6) ≤ 0 → (P 0 (r2, q)))))) ∧ (¬ (zin p0 0 999) = 0 → (((zin p1 0 999) = 0 → (∀ r37 : Nat → Int32, r37 = va_up r 6 1 → (((r37 6) ≤ 0 → ((CW8 r37) ∧ (∀ (r40 : Nat → Int32) (q41 : Nat → Nat → Int32), (kR r37 r40 [5] ∧ kQ q q41 [3] ∧ psh (q 3) (q41 3) (q 0) (r37 5) (r40 5)) → (vp_in 1 3334 ∧ (∀ v44 : Int32, v44 = (14 + (26 * (q41 0 (Int32.toNatClampNeg 1)))) → (∃ k66 : Nat, wp_X11_ship_101 (fun (y45 : Int32) (y46 : Int32) (y47 : Int32) (y48 : Int32) (y49 : Int32) (r50 : Nat → Int32) (q51 : Nat → Nat → Int32) => vp_in (y49 + 0) 3334 ∧ (∀ q53 : Nat → Nat → Int32, q53 = va_up q51 0 (upd (q51 0) (Int32.toNatClampNeg (y49 + 0)) y45) → (vp_in (y49 + 1) 3334 ∧ (∀ q55 : Nat → Nat → Int32, q55 = va_up q53 0 (upd (q53 0) (Int32.toNatClampNeg (y49 + 1)) y46) → (vp_in (y49 + 2) 3334 ∧ (∀ q57 : Nat → Nat → Int32, q57 = va_up q55 0 (upd (q55 0) (Int32.toNatClampNeg (y49 + 2)) y47) → (vp_in (y49 + 3) 3334 ∧ (∀ q59 : Nat → Nat → Int32, q59 = va_up q57 0 (upd (q57 0) (Int32.toNatClampNeg (y49 + 3)) y48) → (vp_in (y49 + 5) 3334 ∧ (∀ q61 : Nat → Nat → Int32, q61 = va_up q59 0 (upd (q59 0) (Int32.toNatClampNeg (y49 + 5)) (-1)) → (vp_in 1 3334 ∧ (vp_in 1 3334 ∧ (∀ q64 : Nat → Nat → Int32, q64 = va_up q61 0 (upd (q61 0) (Int32.toNatClampNeg 1) ((q61 0 (Int32.toNatClampNeg 1)) + 1)) → (vp_in 1 3334 ∧ (P ((q64 0 (Int32.toNatClampNeg 1)) - 1) (r50, q64)))))))))))))))) P k66 p0 p1 p2 p3 v44 0 r40 q41)))))) ∧ (¬ (r37 6) ≤ 0 → (P 0 (r37, q)))))) ∧ (¬ (zin p1 0 999) = 0 → (((zin p2 0 255) = 0 → (∀ r68 : Nat → Int32, r68 = va_up r 6 1 → (((r68 6) ≤ 0 → ((CW8 r68) ∧ (∀ (r71 : Nat → Int32) (q72 : Nat → Nat → Int32), (kR r68 r71 [5] ∧ kQ q q72 [3] ∧ psh (q 3) (q72 3) (q 0) (r68 5) (r71 5)) → (vp_in 1 3334 ∧ (∀ v75 : Int32, v75 = (14 + (26 * (q72 0 (Int32.toNatClampNeg 1)))) → (∃ k97 : Nat, wp_X11_ship_101 (fun (y76 : Int32) (y77 : Int32) (y78 : Int32) (y79 : Int32) (y80 : Int32) (r81 : Nat → Int32) (q82 : Nat → Nat → Int32) => vp_in (y80 + 0) 3334 ∧ (∀ q84 : Nat → Nat → Int32, q84 = va_up q82 0 (upd (q82 0) (Int32.toNatClampNeg (y80 + 0)) y76) → (vp_in (y80 + 1) 3334 ∧ (∀ q86 : Nat → Nat → Int32, q86 = va_up q84 0 (upd (q84 0) (Int32.toNatClampNeg (y80 + 1)) y77) → (vp_in (y80 + 2) 3334 ∧ (∀ q88 : Nat → Nat → Int32, q88 = va_up q86 0 (upd (q86 0) (Int32.toNatClampNeg (y80 + 2)) y78) → (vp_in (y80 + 3) 3334 ∧ (∀ q90 : Nat → Nat → Int32, q90 = va_up q88 0 (upd (q88 0) (Int32.toNatClampNeg (y80 + 3)) y79) → (vp_in (y80 + 5) 3334 ∧ (∀ q92 : Nat → Nat → Int32, q92 = va_up q90 0 (upd (q90 0) (Int32.toNatClampNeg (y80 + 5)) (-1)) → (vp_in 1 3334 ∧ (vp_in 1 3334 ∧ (∀ q95 : Nat → Nat → Int32, q95 = va_up q92 0 (upd (q92 0) (Int32.toNatClampNeg 1) ((q92 0 (Int32.toNatClampNeg 1)) + 1)) → (vp_in 1 3334 ∧ (P ((q95 0 (Int32.toNatClampNeg 1)) - 1) (r81, q95)))))))))))))))) P k97 p0 p1 p2 p3 v75 0 r71 q72)))))) ∧ (¬ (r68 6) ≤ 0 → (P 0 (r68, q)))))) ∧ (¬ (zin p2 0 255) = 0 → ((¬ (zin p3 0 3) = 0 → (vp_in 1 3334 ∧ ((¬ (q 0 (Int32.toNatClampNeg 1)) = 10 → (∀ r101 : Nat → Int32, r101 = va_up r 6 0 → (((r101 6) ≤ 0 → ((CW8 r101) ∧ (∀ (r104 : Nat → Int32) (q105 : Nat → Nat → Int32), (kR r101 r104 [5] ∧ kQ q q105 [3] ∧ psh (q 3) (q105 3) (q 0) (r101 5) (r104 5)) → (vp_in 1 3334 ∧ (∀ v108 : Int32, v108 = (14 + (26 * (q105 0 (Int32.toNatClampNeg 1)))) → (∃ k130 : Nat, wp_X11_ship_101 (fun (y109 : Int32) (y110 : Int32) (y111 : Int32) (y112 : Int32) (y113 : Int32) (r114 : Nat → Int32) (q115 : Nat → Nat → Int32) => vp_in (y113 + 0) 3334 ∧ (∀ q117 : Nat → Nat → Int32, q117 = va_up q115 0 (upd (q115 0) (Int32.toNatClampNeg (y113 + 0)) y109) → (vp_in (y113 + 1) 3334 ∧ (∀ q119 : Nat → Nat → Int32, q119 = va_up q117 0 (upd (q117 0) (Int32.toNatClampNeg (y113 + 1)) y110) → (vp_in (y113 + 2) 3334 ∧ (∀ q121 : Nat → Nat → Int32, q121 = va_up q119 0 (upd (q119 0) (Int32.toNatClampNeg (y113 + 2)) y111) → (vp_in (y113 + 3) 3334 ∧ (∀ q123 : Nat → Nat → Int32, q123 = va_up q121 0 (upd (q121 0) (Int32.toNatClampNeg (y113 + 3)) y112) → (vp_in (y113 + 5) 3334 ∧ (∀ q125 : Nat → Nat → Int32, q125 = va_up q123 0 (upd (q123 0) (Int32.toNatClampNeg (y113 + 5)) (-1)) → (vp_in 1 3334 ∧ (vp_in 1 3334 ∧ (∀ q128 : Nat → Nat → Int32, q128 = va_up q125 0 (upd (q125 0) (Int32.toNatClampNeg 1) ((q125 0 (Int32.toNatClampNeg 1)) + 1)) → (vp_in 1 3334 ∧ (P ((q128 0 (Int32.toNatClampNeg 1)) - 1) (r114, q128)))))))))))))))) P k130 p0 p1 p2 p3 v108 0 r104 q105)))))) ∧ (¬ (r101 6) ≤ 0 → (P 0 (r101, q)))))) ∧ ((q 0 (Int32.toNatClampNeg 1)) = 10 → (∀ r131 : Nat → Int32, r131 = va_up r 6 2 → (((r131 6) ≤ 0 → ((CW8 r131) ∧ (∀ (r134 : Nat → Int32) (q135 : Nat → Nat → Int32), (kR r131 r134 [5] ∧ kQ q q135 [3] ∧ psh (q 3) (q135 3) (q 0) (r131 5) (r134 5)) → (vp_in 1 3334 ∧ (∀ v138 : Int32, v138 = (14 + (26 * (q135 0 (Int32.toNatClampNeg 1)))) → (∃ k160 : Nat, wp_X11_ship_101 (fun (y139 : Int32) (y140 : Int32) (y141 : Int32) (y142 : Int32) (y143 : Int32) (r144 : Nat → Int32) (q145 : Nat → Nat → Int32) => vp_in (y143 + 0) 3334 ∧ (∀ q147 : Nat → Nat → Int32, q147 = va_up q145 0 (upd (q145 0) (Int32.toNatClampNeg (y143 + 0)) y139) → (vp_in (y143 + 1) 3334 ∧ (∀ q149 : Nat → Nat → Int32, q149 = va_up q147 0 (upd (q147 0) (Int32.toNatClampNeg (y143 + 1)) y140) → (vp_in (y143 + 2) 3334 ∧ (∀ q151 : Nat → Nat → Int32, q151 = va_up q149 0 (upd (q149 0) (Int32.toNatClampNeg (y143 + 2)) y141) → (vp_in (y143 + 3) 3334 ∧ (∀ q153 : Nat → Nat → Int32, q153 = va_up q151 0 (upd (q151 0) (Int32.toNatClampNeg (y143 + 3)) y142) → (vp_in (y143 + 5) 3334 ∧ (∀ q155 : Nat → Nat → Int32, q155 = va_up q153 0 (upd (q153 0) (Int32.toNatClampNeg (y143 + 5)) (-1)) → (vp_in 1 3334 ∧ (vp_in 1 3334 ∧ (∀ q158 : Nat → Nat → Int32, q158 = va_up q155 0 (upd (q155 0) (Int32.toNatClampNeg 1) ((q155 0 (Int32.toNatClampNeg 1)) + 1)) → (vp_in 1 3334 ∧ (P ((q158 0 (Int32.toNatClampNeg 1)) - 1) (r144, q158)))))))))))))))) P k160 p0 p1 p2 p3 v138 0 r134 q135)))))) ∧ (¬ (r131 6) ≤ 0 → (P 0 (r131, q))))))))) ∧ ((zin p3 0 3) = 0 → (∀ r161 : Nat → Int32, r161 = va_up r 6 1 → (((r161 6) ≤ 0 → ((CW8 r161) ∧ (∀ (r164 : Nat → Int32) (q165 : Nat → Nat → Int32), (kR r161 r164 [5] ∧ kQ q q165 [3] ∧ psh (q 3) (q165 3) (q 0) (r161 5) (r164 5)) → (vp_in 1 3334 ∧ (∀ v168 : Int32, v168 = (14 + (26 * (q165 0 (Int32.toNatClampNeg 1)))) → (∃ k190 : Nat, wp_X11_ship_101 (fun (y169 : Int32) (y170 : Int32) (y171 : Int32) (y172 : Int32) (y173 : Int32) (r174 : Nat → Int32) (q175 : Nat → Nat → Int32) => vp_in (y173 + 0) 3334 ∧ (∀ q177 : Nat → Nat → Int32, q177 = va_up q175 0 (upd (q175 0) (Int32.toNatClampNeg (y173 + 0)) y169) → (vp_in (y173 + 1) 3334 ∧ (∀ q179 : Nat → Nat → Int32, q179 = va_up q177 0 (upd (q177 0) (Int32.toNatClampNeg (y173 + 1)) y170) → (vp_in (y173 + 2) 3334 ∧ (∀ q181 : Nat → Nat → Int32, q181 = va_up q179 0 (upd (q179 0) (Int32.toNatClampNeg (y173 + 2)) y171) → (vp_in (y173 + 3) 3334 ∧ (∀ q183 : Nat → Nat → Int32, q183 = va_up q181 0 (upd (q181 0) (Int32.toNatClampNeg (y173 + 3)) y172) → (vp_in (y173 + 5) 3334 ∧ (∀ q185 : Nat → Nat → Int32, q185 = va_up q183 0 (upd (q183 0) (Int32.toNatClampNeg (y173 + 5)) (-1)) → (vp_in 1 3334 ∧ (vp_in 1 3334 ∧ (∀ q188 : Nat → Nat → Int32, q188 = va_up q185 0 (upd (q185 0) (Int32.toNatClampNeg 1) ((q185 0 (Int32.toNatClampNeg 1)) + 1)) → (vp_in 1 3334 ∧ (P ((q188 0 (Int32.toNatClampNeg 1)) - 1) (r174, q188)))))))))))))))) P k190 p0 p1 p2 p3 v168 0 r164 q165)))))) ∧ (¬ (r161 6) ≤ 0 → (P 0 (r161, q))))))))))))
set_option maxRecDepth 100000 in
set_option maxHeartbeats 4000000 in
theorem t_X11_ship {p : Program} {l : Launch} {e : Env} {s : State} {m : MethodId} {args : Array Value} {below : List Frame} {meth : Method} {c : Code} {D : va_G} {A : Nat → Prop} {T : Nat → ClassId} {m0 : Nat} {a : Nat → Nat} (C : GC p s m args meth c cX11_ship "FreightRaterModel" (ws_X11_ship) 7 D A (zty T)) (hr : meth.sig.returnType = (some .int)) (P : Int32 → RST → Prop) : ∀ (p0 : Int32) (p1 : Int32) (p2 : Int32) (p3 : Int32) (r : Nat → Int32) (q : Nat → Nat → Int32), wp_X11_ship P p0 p1 p2 p3 r q → GW p l e rm_X11_ship s m args below meth c D A 7 0 0 (MQ below (va_Qi P (RE D T m0 a A) A) args s 0 0 A) (RW m0 a T r q) 0 0 0 [(0, .ref m0), (1, .int p0), (2, .int p1), (3, .int p2), (4, .int p3)] [] := by
  have hw : ∀ {w : Cond}, w ∈ W0 → w.before args s = true := fun h => C.2.2.2.2.1 _ (List.mem_cons_of_mem _ h)
  intro p0 p1 p2 p3 r q h
  unfold wp_X11_ship at h
  refine g_aload_n C dX11_ship_0 rfl 0 rfl ?_
  refine g_iload_n C dX11_ship_1 rfl 1 rfl ?_
  refine g_iconst (v := 0) C dX11_ship_2 (by decide) ?_
  refine g_sipush (v := 999) C dX11_ship_3 (by decide) ?_
  refine gr_callSf C [.int p0, .int 0, .int 999] rfl (k_X11_in l D T m0 a p0 0 999 r q) (w0_S 3 C.2.2.2.2.1 kw_1944 kw_1945 kw_9 kw_1946 rfl rfl (by decide +kernel) ⟨by decide, by decide⟩) rfl (Nat.le_of_ble_eq_true rfl) (Nat.zero_le _) (Nat.zero_le _) dX11_ship_6 ?_
  refine g_if_eq (tgt := 44) C dX11_ship_9 (by decide) (fun z1 => ?_) (fun z1 => ?_)
  · replace h := h.1 z1
    refine g_iconst (v := 1) C dX11_ship_44 (by decide) ?_
    refine g_goto (tgt := 64) C dX11_ship_45 (by decide) ?_
    refine gr_put_6 C iwx_X11 (hw kw_1815) dX11_ship_64 ?_
    refine gr_nr (fun r2 er2 => ?_)
    replace h := h r2 er2
    refine g_aload_n C dX11_ship_67 rfl 0 rfl ?_
    refine gr_get C iwx_X11 6 (hw kw_1815) (by decide) rfl rfl dX11_ship_68 ?_
    refine g_if_le (tgt := 76) C dX11_ship_71 (by decide) (fun z3 => ?_) (fun z3 => ?_)
    · replace h := h.1 z3
      refine g_aload_n C dX11_ship_76 rfl 0 rfl ?_
      refine g_aload_n C dX11_ship_77 rfl 0 rfl ?_
      refine gr_get C iwx_X11 0 (hw kw_1809) (by decide) rfl rfl dX11_ship_78 ?_
      obtain ⟨g7, h⟩ := h
      refine gr_callvV C [.ref (a 0)] rfl (k_X11_keepAs_0 l D T m0 a  r2 q g7) (w0_V 1 C.2.2.2.2.1 kw_1958 kw_1960 ks_52 kw_9 kw_1961 rfl rfl (by decide +kernel) ⟨by decide, by decide⟩) rfl (Nat.le_of_ble_eq_true rfl) (Nat.zero_le _) (Nat.zero_le _) dX11_ship_81 (fun r5 q6 hp => ?_)
      replace h := h r5 q6 hp
      refine g_bipush (v := 14) C dX11_ship_84 (by decide) ?_
      refine g_bipush (v := 26) C dX11_ship_86 (by decide) ?_
      refine g_aload_n C dX11_ship_88 rfl 0 rfl ?_
      refine gr_get C iwx_X11 0 (hw kw_1809) (by decide) rfl rfl dX11_ship_89 ?_
      refine g_iconst (v := 1) C dX11_ship_92 (by decide) ?_
      obtain ⟨g8, h⟩ := h
      refine gr_ald_0 C g8 dX11_ship_93 ?_
      refine g_imul C dX11_ship_94 ?_
      refine g_iadd C dX11_ship_95 ?_
      refine g_topi (fun v9 ev9 => ?_)
      replace h := h v9 ev9
      refine g_istore (lv' := [(5, .int v9), (0, .ref m0), (1, .int p0), (2, .int p1), (3, .int p2), (4, .int p3)]) C dX11_ship_96 (by decide) rfl ?_
      refine g_iconst (v := 0) C dX11_ship_98 (by decide) ?_
      refine g_istore (lv' := [(6, .int 0), (5, .int v9), (0, .ref m0), (1, .int p0), (2, .int p1), (3, .int p2), (4, .int p3)]) C dX11_ship_99 (by decide) rfl ?_
      refine g_locals [2, 3, 4, 5, 6, 1, 0] rfl ?_
      obtain ⟨k35, h⟩ := h
      refine t_X11_ship_101 C hr _ P ?_ k35 p0 p1 p2 p3 v9 0 r5 q6 h
      · intro y14 y15 y16 y17 y18 r19 q20 h
        refine g_aload_n C dX11_ship_125 rfl 0 rfl ?_
        refine gr_get C iwx_X11 0 (hw kw_1809) (by decide) rfl rfl dX11_ship_126 ?_
        refine g_iload C dX11_ship_129 5 rfl ?_
        refine g_iconst (v := 0) C dX11_ship_131 (by decide) ?_
        refine g_iadd C dX11_ship_132 ?_
        refine g_iload_n C dX11_ship_133 rfl 1 rfl ?_
        obtain ⟨g21, h⟩ := h
        refine gr_ast_0 C g21 dX11_ship_134 ?_
        refine gr_nq (fun q22 eq22 => ?_)
        replace h := h q22 eq22
        refine g_aload_n C dX11_ship_135 rfl 0 rfl ?_
        refine gr_get C iwx_X11 0 (hw kw_1809) (by decide) rfl rfl dX11_ship_136 ?_
        refine g_iload C dX11_ship_139 5 rfl ?_
        refine g_iconst (v := 1) C dX11_ship_141 (by decide) ?_
        refine g_iadd C dX11_ship_142 ?_
        refine g_iload_n C dX11_ship_143 rfl 2 rfl ?_
        obtain ⟨g23, h⟩ := h
        refine gr_ast_0 C g23 dX11_ship_144 ?_
        refine gr_nq (fun q24 eq24 => ?_)
        replace h := h q24 eq24
        refine g_aload_n C dX11_ship_145 rfl 0 rfl ?_
        refine gr_get C iwx_X11 0 (hw kw_1809) (by decide) rfl rfl dX11_ship_146 ?_
        refine g_iload C dX11_ship_149 5 rfl ?_
        refine g_iconst (v := 2) C dX11_ship_151 (by decide) ?_
        refine g_iadd C dX11_ship_152 ?_
        refine g_iload_n C dX11_ship_153 rfl 3 rfl ?_
        obtain ⟨g25, h⟩ := h
        refine gr_ast_0 C g25 dX11_ship_154 ?_
        refine gr_nq (fun q26 eq26 => ?_)
        replace h := h q26 eq26
        refine g_aload_n C dX11_ship_155 rfl 0 rfl ?_
        refine gr_get C iwx_X11 0 (hw kw_1809) (by decide) rfl rfl dX11_ship_156 ?_
        refine g_iload C dX11_ship_159 5 rfl ?_
        refine g_iconst (v := 3) C dX11_ship_161 (by decide) ?_
        refine g_iadd C dX11_ship_162 ?_
        refine g_iload C dX11_ship_163 4 rfl ?_
        obtain ⟨g27, h⟩ := h
        refine gr_ast_0 C g27 dX11_ship_165 ?_
        refine gr_nq (fun q28 eq28 => ?_)
        replace h := h q28 eq28
        refine g_aload_n C dX11_ship_166 rfl 0 rfl ?_
        refine gr_get C iwx_X11 0 (hw kw_1809) (by decide) rfl rfl dX11_ship_167 ?_
        refine g_iload C dX11_ship_170 5 rfl ?_
        refine g_iconst (v := 5) C dX11_ship_172 (by decide) ?_
        refine g_iadd C dX11_ship_173 ?_
        refine g_iconst (v := -1) C dX11_ship_174 (by decide) ?_
        obtain ⟨g29, h⟩ := h
        refine gr_ast_0 C g29 dX11_ship_175 ?_
        refine gr_nq (fun q30 eq30 => ?_)
        replace h := h q30 eq30
        refine g_aload_n C dX11_ship_176 rfl 0 rfl ?_
        refine gr_get C iwx_X11 0 (hw kw_1809) (by decide) rfl rfl dX11_ship_177 ?_
        refine g_iconst (v := 1) C dX11_ship_180 (by decide) ?_
        refine g_dup2 C dX11_ship_181 rfl rfl ?_
        obtain ⟨g31, h⟩ := h
        refine gr_ald_0 C g31 dX11_ship_182 ?_
        refine g_iconst (v := 1) C dX11_ship_183 (by decide) ?_
        refine g_iadd C dX11_ship_184 ?_
        obtain ⟨g32, h⟩ := h
        refine gr_ast_0 C g32 dX11_ship_185 ?_
        refine gr_nq (fun q33 eq33 => ?_)
        replace h := h q33 eq33
        refine g_aload_n C dX11_ship_186 rfl 0 rfl ?_
        refine gr_get C iwx_X11 0 (hw kw_1809) (by decide) rfl rfl dX11_ship_187 ?_
        refine g_iconst (v := 1) C dX11_ship_190 (by decide) ?_
        obtain ⟨g34, h⟩ := h
        refine gr_ald_0 C g34 dX11_ship_191 ?_
        refine g_iconst (v := 1) C dX11_ship_192 (by decide) ?_
        refine g_isub C dX11_ship_193 ?_
        exact gr_iret C hr dX11_ship_194 h
    · replace h := h.2 z3
      refine g_iconst (v := 0) C dX11_ship_74 (by decide) ?_
      exact gr_iret C hr dX11_ship_75 h
  · replace h := h.2 z1
    refine g_iload_n C dX11_ship_12 rfl 2 rfl ?_
    refine g_iconst (v := 0) C dX11_ship_13 (by decide) ?_
    refine g_sipush (v := 999) C dX11_ship_14 (by decide) ?_
    refine gr_callSf C [.int p1, .int 0, .int 999] rfl (k_X11_in l D T m0 a p1 0 999 r q) (w0_S 3 C.2.2.2.2.1 kw_1944 kw_1945 kw_9 kw_1946 rfl rfl (by decide +kernel) ⟨by decide, by decide⟩) rfl (Nat.le_of_ble_eq_true rfl) (Nat.zero_le _) (Nat.zero_le _) dX11_ship_17 ?_
    refine g_if_eq (tgt := 44) C dX11_ship_20 (by decide) (fun z36 => ?_) (fun z36 => ?_)
    · replace h := h.1 z36
      refine g_iconst (v := 1) C dX11_ship_44 (by decide) ?_
      refine g_goto (tgt := 64) C dX11_ship_45 (by decide) ?_
      refine gr_put_6 C iwx_X11 (hw kw_1815) dX11_ship_64 ?_
      refine gr_nr (fun r37 er37 => ?_)
      replace h := h r37 er37
      refine g_aload_n C dX11_ship_67 rfl 0 rfl ?_
      refine gr_get C iwx_X11 6 (hw kw_1815) (by decide) rfl rfl dX11_ship_68 ?_
      refine g_if_le (tgt := 76) C dX11_ship_71 (by decide) (fun z38 => ?_) (fun z38 => ?_)
      · replace h := h.1 z38
        refine g_aload_n C dX11_ship_76 rfl 0 rfl ?_
        refine g_aload_n C dX11_ship_77 rfl 0 rfl ?_
        refine gr_get C iwx_X11 0 (hw kw_1809) (by decide) rfl rfl dX11_ship_78 ?_
        obtain ⟨g42, h⟩ := h
        refine gr_callvV C [.ref (a 0)] rfl (k_X11_keepAs_0 l D T m0 a  r37 q g42) (w0_V 1 C.2.2.2.2.1 kw_1958 kw_1960 ks_52 kw_9 kw_1961 rfl rfl (by decide +kernel) ⟨by decide, by decide⟩) rfl (Nat.le_of_ble_eq_true rfl) (Nat.zero_le _) (Nat.zero_le _) dX11_ship_81 (fun r40 q41 hp => ?_)
        replace h := h r40 q41 hp
        refine g_bipush (v := 14) C dX11_ship_84 (by decide) ?_
        refine g_bipush (v := 26) C dX11_ship_86 (by decide) ?_
        refine g_aload_n C dX11_ship_88 rfl 0 rfl ?_
        refine gr_get C iwx_X11 0 (hw kw_1809) (by decide) rfl rfl dX11_ship_89 ?_
        refine g_iconst (v := 1) C dX11_ship_92 (by decide) ?_
        obtain ⟨g43, h⟩ := h
        refine gr_ald_0 C g43 dX11_ship_93 ?_
        refine g_imul C dX11_ship_94 ?_
        refine g_iadd C dX11_ship_95 ?_
        refine g_topi (fun v44 ev44 => ?_)
        replace h := h v44 ev44
        refine g_istore (lv' := [(5, .int v44), (0, .ref m0), (1, .int p0), (2, .int p1), (3, .int p2), (4, .int p3)]) C dX11_ship_96 (by decide) rfl ?_
        refine g_iconst (v := 0) C dX11_ship_98 (by decide) ?_
        refine g_istore (lv' := [(6, .int 0), (5, .int v44), (0, .ref m0), (1, .int p0), (2, .int p1), (3, .int p2), (4, .int p3)]) C dX11_ship_99 (by decide) rfl ?_
        refine g_locals [2, 3, 4, 5, 6, 1, 0] rfl ?_
        obtain ⟨k66, h⟩ := h
        refine t_X11_ship_101 C hr _ P ?_ k66 p0 p1 p2 p3 v44 0 r40 q41 h
        · intro y45 y46 y47 y48 y49 r50 q51 h
          refine g_aload_n C dX11_ship_125 rfl 0 rfl ?_
          refine gr_get C iwx_X11 0 (hw kw_1809) (by decide) rfl rfl dX11_ship_126 ?_
          refine g_iload C dX11_ship_129 5 rfl ?_
          refine g_iconst (v := 0) C dX11_ship_131 (by decide) ?_
          refine g_iadd C dX11_ship_132 ?_
          refine g_iload_n C dX11_ship_133 rfl 1 rfl ?_
          obtain ⟨g52, h⟩ := h
          refine gr_ast_0 C g52 dX11_ship_134 ?_
          refine gr_nq (fun q53 eq53 => ?_)
          replace h := h q53 eq53
          refine g_aload_n C dX11_ship_135 rfl 0 rfl ?_
          refine gr_get C iwx_X11 0 (hw kw_1809) (by decide) rfl rfl dX11_ship_136 ?_
          refine g_iload C dX11_ship_139 5 rfl ?_
          refine g_iconst (v := 1) C dX11_ship_141 (by decide) ?_
          refine g_iadd C dX11_ship_142 ?_
          refine g_iload_n C dX11_ship_143 rfl 2 rfl ?_
          obtain ⟨g54, h⟩ := h
          refine gr_ast_0 C g54 dX11_ship_144 ?_
          refine gr_nq (fun q55 eq55 => ?_)
          replace h := h q55 eq55
          refine g_aload_n C dX11_ship_145 rfl 0 rfl ?_
          refine gr_get C iwx_X11 0 (hw kw_1809) (by decide) rfl rfl dX11_ship_146 ?_
          refine g_iload C dX11_ship_149 5 rfl ?_
          refine g_iconst (v := 2) C dX11_ship_151 (by decide) ?_
          refine g_iadd C dX11_ship_152 ?_
          refine g_iload_n C dX11_ship_153 rfl 3 rfl ?_
          obtain ⟨g56, h⟩ := h
          refine gr_ast_0 C g56 dX11_ship_154 ?_
          refine gr_nq (fun q57 eq57 => ?_)
          replace h := h q57 eq57
          refine g_aload_n C dX11_ship_155 rfl 0 rfl ?_
          refine gr_get C iwx_X11 0 (hw kw_1809) (by decide) rfl rfl dX11_ship_156 ?_
          refine g_iload C dX11_ship_159 5 rfl ?_
          refine g_iconst (v := 3) C dX11_ship_161 (by decide) ?_
          refine g_iadd C dX11_ship_162 ?_
          refine g_iload C dX11_ship_163 4 rfl ?_
          obtain ⟨g58, h⟩ := h
          refine gr_ast_0 C g58 dX11_ship_165 ?_
          refine gr_nq (fun q59 eq59 => ?_)
          replace h := h q59 eq59
          refine g_aload_n C dX11_ship_166 rfl 0 rfl ?_
          refine gr_get C iwx_X11 0 (hw kw_1809) (by decide) rfl rfl dX11_ship_167 ?_
          refine g_iload C dX11_ship_170 5 rfl ?_
          refine g_iconst (v := 5) C dX11_ship_172 (by decide) ?_
          refine g_iadd C dX11_ship_173 ?_
          refine g_iconst (v := -1) C dX11_ship_174 (by decide) ?_
          obtain ⟨g60, h⟩ := h
          refine gr_ast_0 C g60 dX11_ship_175 ?_
          refine gr_nq (fun q61 eq61 => ?_)
          replace h := h q61 eq61
          refine g_aload_n C dX11_ship_176 rfl 0 rfl ?_
          refine gr_get C iwx_X11 0 (hw kw_1809) (by decide) rfl rfl dX11_ship_177 ?_
          refine g_iconst (v := 1) C dX11_ship_180 (by decide) ?_
          refine g_dup2 C dX11_ship_181 rfl rfl ?_
          obtain ⟨g62, h⟩ := h
          refine gr_ald_0 C g62 dX11_ship_182 ?_
          refine g_iconst (v := 1) C dX11_ship_183 (by decide) ?_
          refine g_iadd C dX11_ship_184 ?_
          obtain ⟨g63, h⟩ := h
          refine gr_ast_0 C g63 dX11_ship_185 ?_
          refine gr_nq (fun q64 eq64 => ?_)
          replace h := h q64 eq64
          refine g_aload_n C dX11_ship_186 rfl 0 rfl ?_
          refine gr_get C iwx_X11 0 (hw kw_1809) (by decide) rfl rfl dX11_ship_187 ?_
          refine g_iconst (v := 1) C dX11_ship_190 (by decide) ?_
          obtain ⟨g65, h⟩ := h
          refine gr_ald_0 C g65 dX11_ship_191 ?_
          refine g_iconst (v := 1) C dX11_ship_192 (by decide) ?_
          refine g_isub C dX11_ship_193 ?_
          exact gr_iret C hr dX11_ship_194 h
      · replace h := h.2 z38
        refine g_iconst (v := 0) C dX11_ship_74 (by decide) ?_
        exact gr_iret C hr dX11_ship_75 h
    · replace h := h.2 z36
      refine g_iload_n C dX11_ship_23 rfl 3 rfl ?_
      refine g_iconst (v := 0) C dX11_ship_24 (by decide) ?_
      refine g_sipush (v := 255) C dX11_ship_25 (by decide) ?_
      refine gr_callSf C [.int p2, .int 0, .int 255] rfl (k_X11_in l D T m0 a p2 0 255 r q) (w0_S 3 C.2.2.2.2.1 kw_1944 kw_1945 kw_9 kw_1946 rfl rfl (by decide +kernel) ⟨by decide, by decide⟩) rfl (Nat.le_of_ble_eq_true rfl) (Nat.zero_le _) (Nat.zero_le _) dX11_ship_28 ?_
      refine g_if_eq (tgt := 44) C dX11_ship_31 (by decide) (fun z67 => ?_) (fun z67 => ?_)
      · replace h := h.1 z67
        refine g_iconst (v := 1) C dX11_ship_44 (by decide) ?_
        refine g_goto (tgt := 64) C dX11_ship_45 (by decide) ?_
        refine gr_put_6 C iwx_X11 (hw kw_1815) dX11_ship_64 ?_
        refine gr_nr (fun r68 er68 => ?_)
        replace h := h r68 er68
        refine g_aload_n C dX11_ship_67 rfl 0 rfl ?_
        refine gr_get C iwx_X11 6 (hw kw_1815) (by decide) rfl rfl dX11_ship_68 ?_
        refine g_if_le (tgt := 76) C dX11_ship_71 (by decide) (fun z69 => ?_) (fun z69 => ?_)
        · replace h := h.1 z69
          refine g_aload_n C dX11_ship_76 rfl 0 rfl ?_
          refine g_aload_n C dX11_ship_77 rfl 0 rfl ?_
          refine gr_get C iwx_X11 0 (hw kw_1809) (by decide) rfl rfl dX11_ship_78 ?_
          obtain ⟨g73, h⟩ := h
          refine gr_callvV C [.ref (a 0)] rfl (k_X11_keepAs_0 l D T m0 a  r68 q g73) (w0_V 1 C.2.2.2.2.1 kw_1958 kw_1960 ks_52 kw_9 kw_1961 rfl rfl (by decide +kernel) ⟨by decide, by decide⟩) rfl (Nat.le_of_ble_eq_true rfl) (Nat.zero_le _) (Nat.zero_le _) dX11_ship_81 (fun r71 q72 hp => ?_)
          replace h := h r71 q72 hp
          refine g_bipush (v := 14) C dX11_ship_84 (by decide) ?_
          refine g_bipush (v := 26) C dX11_ship_86 (by decide) ?_
          refine g_aload_n C dX11_ship_88 rfl 0 rfl ?_
          refine gr_get C iwx_X11 0 (hw kw_1809) (by decide) rfl rfl dX11_ship_89 ?_
          refine g_iconst (v := 1) C dX11_ship_92 (by decide) ?_
          obtain ⟨g74, h⟩ := h
          refine gr_ald_0 C g74 dX11_ship_93 ?_
          refine g_imul C dX11_ship_94 ?_
          refine g_iadd C dX11_ship_95 ?_
          refine g_topi (fun v75 ev75 => ?_)
          replace h := h v75 ev75
          refine g_istore (lv' := [(5, .int v75), (0, .ref m0), (1, .int p0), (2, .int p1), (3, .int p2), (4, .int p3)]) C dX11_ship_96 (by decide) rfl ?_
          refine g_iconst (v := 0) C dX11_ship_98 (by decide) ?_
          refine g_istore (lv' := [(6, .int 0), (5, .int v75), (0, .ref m0), (1, .int p0), (2, .int p1), (3, .int p2), (4, .int p3)]) C dX11_ship_99 (by decide) rfl ?_
          refine g_locals [2, 3, 4, 5, 6, 1, 0] rfl ?_
          obtain ⟨k97, h⟩ := h
          refine t_X11_ship_101 C hr _ P ?_ k97 p0 p1 p2 p3 v75 0 r71 q72 h
          · intro y76 y77 y78 y79 y80 r81 q82 h
            refine g_aload_n C dX11_ship_125 rfl 0 rfl ?_
            refine gr_get C iwx_X11 0 (hw kw_1809) (by decide) rfl rfl dX11_ship_126 ?_
            refine g_iload C dX11_ship_129 5 rfl ?_
            refine g_iconst (v := 0) C dX11_ship_131 (by decide) ?_
            refine g_iadd C dX11_ship_132 ?_
            refine g_iload_n C dX11_ship_133 rfl 1 rfl ?_
            obtain ⟨g83, h⟩ := h
            refine gr_ast_0 C g83 dX11_ship_134 ?_
            refine gr_nq (fun q84 eq84 => ?_)
            replace h := h q84 eq84
            refine g_aload_n C dX11_ship_135 rfl 0 rfl ?_
            refine gr_get C iwx_X11 0 (hw kw_1809) (by decide) rfl rfl dX11_ship_136 ?_
            refine g_iload C dX11_ship_139 5 rfl ?_
            refine g_iconst (v := 1) C dX11_ship_141 (by decide) ?_
            refine g_iadd C dX11_ship_142 ?_
            refine g_iload_n C dX11_ship_143 rfl 2 rfl ?_
            obtain ⟨g85, h⟩ := h
            refine gr_ast_0 C g85 dX11_ship_144 ?_
            refine gr_nq (fun q86 eq86 => ?_)
            replace h := h q86 eq86
            refine g_aload_n C dX11_ship_145 rfl 0 rfl ?_
            refine gr_get C iwx_X11 0 (hw kw_1809) (by decide) rfl rfl dX11_ship_146 ?_
            refine g_iload C dX11_ship_149 5 rfl ?_
            refine g_iconst (v := 2) C dX11_ship_151 (by decide) ?_
            refine g_iadd C dX11_ship_152 ?_
            refine g_iload_n C dX11_ship_153 rfl 3 rfl ?_
            obtain ⟨g87, h⟩ := h
            refine gr_ast_0 C g87 dX11_ship_154 ?_
            refine gr_nq (fun q88 eq88 => ?_)
            replace h := h q88 eq88
            refine g_aload_n C dX11_ship_155 rfl 0 rfl ?_
            refine gr_get C iwx_X11 0 (hw kw_1809) (by decide) rfl rfl dX11_ship_156 ?_
            refine g_iload C dX11_ship_159 5 rfl ?_
            refine g_iconst (v := 3) C dX11_ship_161 (by decide) ?_
            refine g_iadd C dX11_ship_162 ?_
            refine g_iload C dX11_ship_163 4 rfl ?_
            obtain ⟨g89, h⟩ := h
            refine gr_ast_0 C g89 dX11_ship_165 ?_
            refine gr_nq (fun q90 eq90 => ?_)
            replace h := h q90 eq90
            refine g_aload_n C dX11_ship_166 rfl 0 rfl ?_
            refine gr_get C iwx_X11 0 (hw kw_1809) (by decide) rfl rfl dX11_ship_167 ?_
            refine g_iload C dX11_ship_170 5 rfl ?_
            refine g_iconst (v := 5) C dX11_ship_172 (by decide) ?_
            refine g_iadd C dX11_ship_173 ?_
            refine g_iconst (v := -1) C dX11_ship_174 (by decide) ?_
            obtain ⟨g91, h⟩ := h
            refine gr_ast_0 C g91 dX11_ship_175 ?_
            refine gr_nq (fun q92 eq92 => ?_)
            replace h := h q92 eq92
            refine g_aload_n C dX11_ship_176 rfl 0 rfl ?_
            refine gr_get C iwx_X11 0 (hw kw_1809) (by decide) rfl rfl dX11_ship_177 ?_
            refine g_iconst (v := 1) C dX11_ship_180 (by decide) ?_
            refine g_dup2 C dX11_ship_181 rfl rfl ?_
            obtain ⟨g93, h⟩ := h
            refine gr_ald_0 C g93 dX11_ship_182 ?_
            refine g_iconst (v := 1) C dX11_ship_183 (by decide) ?_
            refine g_iadd C dX11_ship_184 ?_
            obtain ⟨g94, h⟩ := h
            refine gr_ast_0 C g94 dX11_ship_185 ?_
            refine gr_nq (fun q95 eq95 => ?_)
            replace h := h q95 eq95
            refine g_aload_n C dX11_ship_186 rfl 0 rfl ?_
            refine gr_get C iwx_X11 0 (hw kw_1809) (by decide) rfl rfl dX11_ship_187 ?_
            refine g_iconst (v := 1) C dX11_ship_190 (by decide) ?_
            obtain ⟨g96, h⟩ := h
            refine gr_ald_0 C g96 dX11_ship_191 ?_
            refine g_iconst (v := 1) C dX11_ship_192 (by decide) ?_
            refine g_isub C dX11_ship_193 ?_
            exact gr_iret C hr dX11_ship_194 h
        · replace h := h.2 z69
          refine g_iconst (v := 0) C dX11_ship_74 (by decide) ?_
          exact gr_iret C hr dX11_ship_75 h
      · replace h := h.2 z67
        refine g_iload C dX11_ship_34 4 rfl ?_
        refine g_iconst (v := 0) C dX11_ship_36 (by decide) ?_
        refine g_iconst (v := 3) C dX11_ship_37 (by decide) ?_
        refine gr_callSf C [.int p3, .int 0, .int 3] rfl (k_X11_in l D T m0 a p3 0 3 r q) (w0_S 3 C.2.2.2.2.1 kw_1944 kw_1945 kw_9 kw_1946 rfl rfl (by decide +kernel) ⟨by decide, by decide⟩) rfl (Nat.le_of_ble_eq_true rfl) (Nat.zero_le _) (Nat.zero_le _) dX11_ship_38 ?_
        refine g_if_ne (tgt := 48) C dX11_ship_41 (by decide) (fun z98 => ?_) (fun z98 => ?_)
        · replace h := h.1 z98
          refine g_aload_n C dX11_ship_48 rfl 0 rfl ?_
          refine gr_get C iwx_X11 0 (hw kw_1809) (by decide) rfl rfl dX11_ship_49 ?_
          refine g_iconst (v := 1) C dX11_ship_52 (by decide) ?_
          obtain ⟨g99, h⟩ := h
          refine gr_ald_0 C g99 dX11_ship_53 ?_
          refine g_bipush (v := 10) C dX11_ship_54 (by decide) ?_
          refine g_icmp_ne (tgt := 63) C dX11_ship_56 (by decide) (fun z100 => ?_) (fun z100 => ?_)
          · replace h := h.1 z100
            refine g_iconst (v := 0) C dX11_ship_63 (by decide) ?_
            refine gr_put_6 C iwx_X11 (hw kw_1815) dX11_ship_64 ?_
            refine gr_nr (fun r101 er101 => ?_)
            replace h := h r101 er101
            refine g_aload_n C dX11_ship_67 rfl 0 rfl ?_
            refine gr_get C iwx_X11 6 (hw kw_1815) (by decide) rfl rfl dX11_ship_68 ?_
            refine g_if_le (tgt := 76) C dX11_ship_71 (by decide) (fun z102 => ?_) (fun z102 => ?_)
            · replace h := h.1 z102
              refine g_aload_n C dX11_ship_76 rfl 0 rfl ?_
              refine g_aload_n C dX11_ship_77 rfl 0 rfl ?_
              refine gr_get C iwx_X11 0 (hw kw_1809) (by decide) rfl rfl dX11_ship_78 ?_
              obtain ⟨g106, h⟩ := h
              refine gr_callvV C [.ref (a 0)] rfl (k_X11_keepAs_0 l D T m0 a  r101 q g106) (w0_V 1 C.2.2.2.2.1 kw_1958 kw_1960 ks_52 kw_9 kw_1961 rfl rfl (by decide +kernel) ⟨by decide, by decide⟩) rfl (Nat.le_of_ble_eq_true rfl) (Nat.zero_le _) (Nat.zero_le _) dX11_ship_81 (fun r104 q105 hp => ?_)
              replace h := h r104 q105 hp
              refine g_bipush (v := 14) C dX11_ship_84 (by decide) ?_
              refine g_bipush (v := 26) C dX11_ship_86 (by decide) ?_
              refine g_aload_n C dX11_ship_88 rfl 0 rfl ?_
              refine gr_get C iwx_X11 0 (hw kw_1809) (by decide) rfl rfl dX11_ship_89 ?_
              refine g_iconst (v := 1) C dX11_ship_92 (by decide) ?_
              obtain ⟨g107, h⟩ := h
              refine gr_ald_0 C g107 dX11_ship_93 ?_
              refine g_imul C dX11_ship_94 ?_
              refine g_iadd C dX11_ship_95 ?_
              refine g_topi (fun v108 ev108 => ?_)
              replace h := h v108 ev108
              refine g_istore (lv' := [(5, .int v108), (0, .ref m0), (1, .int p0), (2, .int p1), (3, .int p2), (4, .int p3)]) C dX11_ship_96 (by decide) rfl ?_
              refine g_iconst (v := 0) C dX11_ship_98 (by decide) ?_
              refine g_istore (lv' := [(6, .int 0), (5, .int v108), (0, .ref m0), (1, .int p0), (2, .int p1), (3, .int p2), (4, .int p3)]) C dX11_ship_99 (by decide) rfl ?_
              refine g_locals [2, 3, 4, 5, 6, 1, 0] rfl ?_
              obtain ⟨k130, h⟩ := h
              refine t_X11_ship_101 C hr _ P ?_ k130 p0 p1 p2 p3 v108 0 r104 q105 h
              · intro y109 y110 y111 y112 y113 r114 q115 h
                refine g_aload_n C dX11_ship_125 rfl 0 rfl ?_
                refine gr_get C iwx_X11 0 (hw kw_1809) (by decide) rfl rfl dX11_ship_126 ?_
                refine g_iload C dX11_ship_129 5 rfl ?_
                refine g_iconst (v := 0) C dX11_ship_131 (by decide) ?_
                refine g_iadd C dX11_ship_132 ?_
                refine g_iload_n C dX11_ship_133 rfl 1 rfl ?_
                obtain ⟨g116, h⟩ := h
                refine gr_ast_0 C g116 dX11_ship_134 ?_
                refine gr_nq (fun q117 eq117 => ?_)
                replace h := h q117 eq117
                refine g_aload_n C dX11_ship_135 rfl 0 rfl ?_
                refine gr_get C iwx_X11 0 (hw kw_1809) (by decide) rfl rfl dX11_ship_136 ?_
                refine g_iload C dX11_ship_139 5 rfl ?_
                refine g_iconst (v := 1) C dX11_ship_141 (by decide) ?_
                refine g_iadd C dX11_ship_142 ?_
                refine g_iload_n C dX11_ship_143 rfl 2 rfl ?_
                obtain ⟨g118, h⟩ := h
                refine gr_ast_0 C g118 dX11_ship_144 ?_
                refine gr_nq (fun q119 eq119 => ?_)
                replace h := h q119 eq119
                refine g_aload_n C dX11_ship_145 rfl 0 rfl ?_
                refine gr_get C iwx_X11 0 (hw kw_1809) (by decide) rfl rfl dX11_ship_146 ?_
                refine g_iload C dX11_ship_149 5 rfl ?_
                refine g_iconst (v := 2) C dX11_ship_151 (by decide) ?_
                refine g_iadd C dX11_ship_152 ?_
                refine g_iload_n C dX11_ship_153 rfl 3 rfl ?_
                obtain ⟨g120, h⟩ := h
                refine gr_ast_0 C g120 dX11_ship_154 ?_
                refine gr_nq (fun q121 eq121 => ?_)
                replace h := h q121 eq121
                refine g_aload_n C dX11_ship_155 rfl 0 rfl ?_
                refine gr_get C iwx_X11 0 (hw kw_1809) (by decide) rfl rfl dX11_ship_156 ?_
                refine g_iload C dX11_ship_159 5 rfl ?_
                refine g_iconst (v := 3) C dX11_ship_161 (by decide) ?_
                refine g_iadd C dX11_ship_162 ?_
                refine g_iload C dX11_ship_163 4 rfl ?_
                obtain ⟨g122, h⟩ := h
                refine gr_ast_0 C g122 dX11_ship_165 ?_
                refine gr_nq (fun q123 eq123 => ?_)
                replace h := h q123 eq123
                refine g_aload_n C dX11_ship_166 rfl 0 rfl ?_
                refine gr_get C iwx_X11 0 (hw kw_1809) (by decide) rfl rfl dX11_ship_167 ?_
                refine g_iload C dX11_ship_170 5 rfl ?_
                refine g_iconst (v := 5) C dX11_ship_172 (by decide) ?_
                refine g_iadd C dX11_ship_173 ?_
                refine g_iconst (v := -1) C dX11_ship_174 (by decide) ?_
                obtain ⟨g124, h⟩ := h
                refine gr_ast_0 C g124 dX11_ship_175 ?_
                refine gr_nq (fun q125 eq125 => ?_)
                replace h := h q125 eq125
                refine g_aload_n C dX11_ship_176 rfl 0 rfl ?_
                refine gr_get C iwx_X11 0 (hw kw_1809) (by decide) rfl rfl dX11_ship_177 ?_
                refine g_iconst (v := 1) C dX11_ship_180 (by decide) ?_
                refine g_dup2 C dX11_ship_181 rfl rfl ?_
                obtain ⟨g126, h⟩ := h
                refine gr_ald_0 C g126 dX11_ship_182 ?_
                refine g_iconst (v := 1) C dX11_ship_183 (by decide) ?_
                refine g_iadd C dX11_ship_184 ?_
                obtain ⟨g127, h⟩ := h
                refine gr_ast_0 C g127 dX11_ship_185 ?_
                refine gr_nq (fun q128 eq128 => ?_)
                replace h := h q128 eq128
                refine g_aload_n C dX11_ship_186 rfl 0 rfl ?_
                refine gr_get C iwx_X11 0 (hw kw_1809) (by decide) rfl rfl dX11_ship_187 ?_
                refine g_iconst (v := 1) C dX11_ship_190 (by decide) ?_
                obtain ⟨g129, h⟩ := h
                refine gr_ald_0 C g129 dX11_ship_191 ?_
                refine g_iconst (v := 1) C dX11_ship_192 (by decide) ?_
                refine g_isub C dX11_ship_193 ?_
                exact gr_iret C hr dX11_ship_194 h
            · replace h := h.2 z102
              refine g_iconst (v := 0) C dX11_ship_74 (by decide) ?_
              exact gr_iret C hr dX11_ship_75 h
          · replace h := h.2 z100
            refine g_iconst (v := 2) C dX11_ship_59 (by decide) ?_
            refine g_goto (tgt := 64) C dX11_ship_60 (by decide) ?_
            refine gr_put_6 C iwx_X11 (hw kw_1815) dX11_ship_64 ?_
            refine gr_nr (fun r131 er131 => ?_)
            replace h := h r131 er131
            refine g_aload_n C dX11_ship_67 rfl 0 rfl ?_
            refine gr_get C iwx_X11 6 (hw kw_1815) (by decide) rfl rfl dX11_ship_68 ?_
            refine g_if_le (tgt := 76) C dX11_ship_71 (by decide) (fun z132 => ?_) (fun z132 => ?_)
            · replace h := h.1 z132
              refine g_aload_n C dX11_ship_76 rfl 0 rfl ?_
              refine g_aload_n C dX11_ship_77 rfl 0 rfl ?_
              refine gr_get C iwx_X11 0 (hw kw_1809) (by decide) rfl rfl dX11_ship_78 ?_
              obtain ⟨g136, h⟩ := h
              refine gr_callvV C [.ref (a 0)] rfl (k_X11_keepAs_0 l D T m0 a  r131 q g136) (w0_V 1 C.2.2.2.2.1 kw_1958 kw_1960 ks_52 kw_9 kw_1961 rfl rfl (by decide +kernel) ⟨by decide, by decide⟩) rfl (Nat.le_of_ble_eq_true rfl) (Nat.zero_le _) (Nat.zero_le _) dX11_ship_81 (fun r134 q135 hp => ?_)
              replace h := h r134 q135 hp
              refine g_bipush (v := 14) C dX11_ship_84 (by decide) ?_
              refine g_bipush (v := 26) C dX11_ship_86 (by decide) ?_
              refine g_aload_n C dX11_ship_88 rfl 0 rfl ?_
              refine gr_get C iwx_X11 0 (hw kw_1809) (by decide) rfl rfl dX11_ship_89 ?_
              refine g_iconst (v := 1) C dX11_ship_92 (by decide) ?_
              obtain ⟨g137, h⟩ := h
              refine gr_ald_0 C g137 dX11_ship_93 ?_
              refine g_imul C dX11_ship_94 ?_
              refine g_iadd C dX11_ship_95 ?_
              refine g_topi (fun v138 ev138 => ?_)
              replace h := h v138 ev138
              refine g_istore (lv' := [(5, .int v138), (0, .ref m0), (1, .int p0), (2, .int p1), (3, .int p2), (4, .int p3)]) C dX11_ship_96 (by decide) rfl ?_
              refine g_iconst (v := 0) C dX11_ship_98 (by decide) ?_
              refine g_istore (lv' := [(6, .int 0), (5, .int v138), (0, .ref m0), (1, .int p0), (2, .int p1), (3, .int p2), (4, .int p3)]) C dX11_ship_99 (by decide) rfl ?_
              refine g_locals [2, 3, 4, 5, 6, 1, 0] rfl ?_
              obtain ⟨k160, h⟩ := h
              refine t_X11_ship_101 C hr _ P ?_ k160 p0 p1 p2 p3 v138 0 r134 q135 h
              · intro y139 y140 y141 y142 y143 r144 q145 h
                refine g_aload_n C dX11_ship_125 rfl 0 rfl ?_
                refine gr_get C iwx_X11 0 (hw kw_1809) (by decide) rfl rfl dX11_ship_126 ?_
                refine g_iload C dX11_ship_129 5 rfl ?_
                refine g_iconst (v := 0) C dX11_ship_131 (by decide) ?_
                refine g_iadd C dX11_ship_132 ?_
                refine g_iload_n C dX11_ship_133 rfl 1 rfl ?_
                obtain ⟨g146, h⟩ := h
                refine gr_ast_0 C g146 dX11_ship_134 ?_
                refine gr_nq (fun q147 eq147 => ?_)
                replace h := h q147 eq147
                refine g_aload_n C dX11_ship_135 rfl 0 rfl ?_
                refine gr_get C iwx_X11 0 (hw kw_1809) (by decide) rfl rfl dX11_ship_136 ?_
                refine g_iload C dX11_ship_139 5 rfl ?_
                refine g_iconst (v := 1) C dX11_ship_141 (by decide) ?_
                refine g_iadd C dX11_ship_142 ?_
                refine g_iload_n C dX11_ship_143 rfl 2 rfl ?_
                obtain ⟨g148, h⟩ := h
                refine gr_ast_0 C g148 dX11_ship_144 ?_
                refine gr_nq (fun q149 eq149 => ?_)
                replace h := h q149 eq149
                refine g_aload_n C dX11_ship_145 rfl 0 rfl ?_
                refine gr_get C iwx_X11 0 (hw kw_1809) (by decide) rfl rfl dX11_ship_146 ?_
                refine g_iload C dX11_ship_149 5 rfl ?_
                refine g_iconst (v := 2) C dX11_ship_151 (by decide) ?_
                refine g_iadd C dX11_ship_152 ?_
                refine g_iload_n C dX11_ship_153 rfl 3 rfl ?_
                obtain ⟨g150, h⟩ := h
                refine gr_ast_0 C g150 dX11_ship_154 ?_
                refine gr_nq (fun q151 eq151 => ?_)
                replace h := h q151 eq151
                refine g_aload_n C dX11_ship_155 rfl 0 rfl ?_
                refine gr_get C iwx_X11 0 (hw kw_1809) (by decide) rfl rfl dX11_ship_156 ?_
                refine g_iload C dX11_ship_159 5 rfl ?_
                refine g_iconst (v := 3) C dX11_ship_161 (by decide) ?_
                refine g_iadd C dX11_ship_162 ?_
                refine g_iload C dX11_ship_163 4 rfl ?_
                obtain ⟨g152, h⟩ := h
                refine gr_ast_0 C g152 dX11_ship_165 ?_
                refine gr_nq (fun q153 eq153 => ?_)
                replace h := h q153 eq153
                refine g_aload_n C dX11_ship_166 rfl 0 rfl ?_
                refine gr_get C iwx_X11 0 (hw kw_1809) (by decide) rfl rfl dX11_ship_167 ?_
                refine g_iload C dX11_ship_170 5 rfl ?_
                refine g_iconst (v := 5) C dX11_ship_172 (by decide) ?_
                refine g_iadd C dX11_ship_173 ?_
                refine g_iconst (v := -1) C dX11_ship_174 (by decide) ?_
                obtain ⟨g154, h⟩ := h
                refine gr_ast_0 C g154 dX11_ship_175 ?_
                refine gr_nq (fun q155 eq155 => ?_)
                replace h := h q155 eq155
                refine g_aload_n C dX11_ship_176 rfl 0 rfl ?_
                refine gr_get C iwx_X11 0 (hw kw_1809) (by decide) rfl rfl dX11_ship_177 ?_
                refine g_iconst (v := 1) C dX11_ship_180 (by decide) ?_
                refine g_dup2 C dX11_ship_181 rfl rfl ?_
                obtain ⟨g156, h⟩ := h
                refine gr_ald_0 C g156 dX11_ship_182 ?_
                refine g_iconst (v := 1) C dX11_ship_183 (by decide) ?_
                refine g_iadd C dX11_ship_184 ?_
                obtain ⟨g157, h⟩ := h
                refine gr_ast_0 C g157 dX11_ship_185 ?_
                refine gr_nq (fun q158 eq158 => ?_)
                replace h := h q158 eq158
                refine g_aload_n C dX11_ship_186 rfl 0 rfl ?_
                refine gr_get C iwx_X11 0 (hw kw_1809) (by decide) rfl rfl dX11_ship_187 ?_
                refine g_iconst (v := 1) C dX11_ship_190 (by decide) ?_
                obtain ⟨g159, h⟩ := h
                refine gr_ald_0 C g159 dX11_ship_191 ?_
                refine g_iconst (v := 1) C dX11_ship_192 (by decide) ?_
                refine g_isub C dX11_ship_193 ?_
                exact gr_iret C hr dX11_ship_194 h
            · replace h := h.2 z132
              refine g_iconst (v := 0) C dX11_ship_74 (by decide) ?_
              exact gr_iret C hr dX11_ship_75 h
        · replace h := h.2 z98
          refine g_iconst (v := 1) C dX11_ship_44 (by decide) ?_
          refine g_goto (tgt := 64) C dX11_ship_45 (by decide) ?_
          refine gr_put_6 C iwx_X11 (hw kw_1815) dX11_ship_64 ?_
          refine gr_nr (fun r161 er161 => ?_)
          replace h := h r161 er161
          refine g_aload_n C dX11_ship_67 rfl 0 rfl ?_
          refine gr_get C iwx_X11 6 (hw kw_1815) (by decide) rfl rfl dX11_ship_68 ?_
          refine g_if_le (tgt := 76) C dX11_ship_71 (by decide) (fun z162 => ?_) (fun z162 => ?_)
          · replace h := h.1 z162
            refine g_aload_n C dX11_ship_76 rfl 0 rfl ?_
            refine g_aload_n C dX11_ship_77 rfl 0 rfl ?_
            refine gr_get C iwx_X11 0 (hw kw_1809) (by decide) rfl rfl dX11_ship_78 ?_
            obtain ⟨g166, h⟩ := h
            refine gr_callvV C [.ref (a 0)] rfl (k_X11_keepAs_0 l D T m0 a  r161 q g166) (w0_V 1 C.2.2.2.2.1 kw_1958 kw_1960 ks_52 kw_9 kw_1961 rfl rfl (by decide +kernel) ⟨by decide, by decide⟩) rfl (Nat.le_of_ble_eq_true rfl) (Nat.zero_le _) (Nat.zero_le _) dX11_ship_81 (fun r164 q165 hp => ?_)
            replace h := h r164 q165 hp
            refine g_bipush (v := 14) C dX11_ship_84 (by decide) ?_
            refine g_bipush (v := 26) C dX11_ship_86 (by decide) ?_
            refine g_aload_n C dX11_ship_88 rfl 0 rfl ?_
            refine gr_get C iwx_X11 0 (hw kw_1809) (by decide) rfl rfl dX11_ship_89 ?_
            refine g_iconst (v := 1) C dX11_ship_92 (by decide) ?_
            obtain ⟨g167, h⟩ := h
            refine gr_ald_0 C g167 dX11_ship_93 ?_
            refine g_imul C dX11_ship_94 ?_
            refine g_iadd C dX11_ship_95 ?_
            refine g_topi (fun v168 ev168 => ?_)
            replace h := h v168 ev168
            refine g_istore (lv' := [(5, .int v168), (0, .ref m0), (1, .int p0), (2, .int p1), (3, .int p2), (4, .int p3)]) C dX11_ship_96 (by decide) rfl ?_
            refine g_iconst (v := 0) C dX11_ship_98 (by decide) ?_
            refine g_istore (lv' := [(6, .int 0), (5, .int v168), (0, .ref m0), (1, .int p0), (2, .int p1), (3, .int p2), (4, .int p3)]) C dX11_ship_99 (by decide) rfl ?_
            refine g_locals [2, 3, 4, 5, 6, 1, 0] rfl ?_
            obtain ⟨k190, h⟩ := h
            refine t_X11_ship_101 C hr _ P ?_ k190 p0 p1 p2 p3 v168 0 r164 q165 h
            · intro y169 y170 y171 y172 y173 r174 q175 h
              refine g_aload_n C dX11_ship_125 rfl 0 rfl ?_
              refine gr_get C iwx_X11 0 (hw kw_1809) (by decide) rfl rfl dX11_ship_126 ?_
              refine g_iload C dX11_ship_129 5 rfl ?_
              refine g_iconst (v := 0) C dX11_ship_131 (by decide) ?_
              refine g_iadd C dX11_ship_132 ?_
              refine g_iload_n C dX11_ship_133 rfl 1 rfl ?_
              obtain ⟨g176, h⟩ := h
              refine gr_ast_0 C g176 dX11_ship_134 ?_
              refine gr_nq (fun q177 eq177 => ?_)
              replace h := h q177 eq177
              refine g_aload_n C dX11_ship_135 rfl 0 rfl ?_
              refine gr_get C iwx_X11 0 (hw kw_1809) (by decide) rfl rfl dX11_ship_136 ?_
              refine g_iload C dX11_ship_139 5 rfl ?_
              refine g_iconst (v := 1) C dX11_ship_141 (by decide) ?_
              refine g_iadd C dX11_ship_142 ?_
              refine g_iload_n C dX11_ship_143 rfl 2 rfl ?_
              obtain ⟨g178, h⟩ := h
              refine gr_ast_0 C g178 dX11_ship_144 ?_
              refine gr_nq (fun q179 eq179 => ?_)
              replace h := h q179 eq179
              refine g_aload_n C dX11_ship_145 rfl 0 rfl ?_
              refine gr_get C iwx_X11 0 (hw kw_1809) (by decide) rfl rfl dX11_ship_146 ?_
              refine g_iload C dX11_ship_149 5 rfl ?_
              refine g_iconst (v := 2) C dX11_ship_151 (by decide) ?_
              refine g_iadd C dX11_ship_152 ?_
              refine g_iload_n C dX11_ship_153 rfl 3 rfl ?_
              obtain ⟨g180, h⟩ := h
              refine gr_ast_0 C g180 dX11_ship_154 ?_
              refine gr_nq (fun q181 eq181 => ?_)
              replace h := h q181 eq181
              refine g_aload_n C dX11_ship_155 rfl 0 rfl ?_
              refine gr_get C iwx_X11 0 (hw kw_1809) (by decide) rfl rfl dX11_ship_156 ?_
              refine g_iload C dX11_ship_159 5 rfl ?_
              refine g_iconst (v := 3) C dX11_ship_161 (by decide) ?_
              refine g_iadd C dX11_ship_162 ?_
              refine g_iload C dX11_ship_163 4 rfl ?_
              obtain ⟨g182, h⟩ := h
              refine gr_ast_0 C g182 dX11_ship_165 ?_
              refine gr_nq (fun q183 eq183 => ?_)
              replace h := h q183 eq183
              refine g_aload_n C dX11_ship_166 rfl 0 rfl ?_
              refine gr_get C iwx_X11 0 (hw kw_1809) (by decide) rfl rfl dX11_ship_167 ?_
              refine g_iload C dX11_ship_170 5 rfl ?_
              refine g_iconst (v := 5) C dX11_ship_172 (by decide) ?_
              refine g_iadd C dX11_ship_173 ?_
              refine g_iconst (v := -1) C dX11_ship_174 (by decide) ?_
              obtain ⟨g184, h⟩ := h
              refine gr_ast_0 C g184 dX11_ship_175 ?_
              refine gr_nq (fun q185 eq185 => ?_)
              replace h := h q185 eq185
              refine g_aload_n C dX11_ship_176 rfl 0 rfl ?_
              refine gr_get C iwx_X11 0 (hw kw_1809) (by decide) rfl rfl dX11_ship_177 ?_
              refine g_iconst (v := 1) C dX11_ship_180 (by decide) ?_
              refine g_dup2 C dX11_ship_181 rfl rfl ?_
              obtain ⟨g186, h⟩ := h
              refine gr_ald_0 C g186 dX11_ship_182 ?_
              refine g_iconst (v := 1) C dX11_ship_183 (by decide) ?_
              refine g_iadd C dX11_ship_184 ?_
              obtain ⟨g187, h⟩ := h
              refine gr_ast_0 C g187 dX11_ship_185 ?_
              refine gr_nq (fun q188 eq188 => ?_)
              replace h := h q188 eq188
              refine g_aload_n C dX11_ship_186 rfl 0 rfl ?_
              refine gr_get C iwx_X11 0 (hw kw_1809) (by decide) rfl rfl dX11_ship_187 ?_
              refine g_iconst (v := 1) C dX11_ship_190 (by decide) ?_
              obtain ⟨g189, h⟩ := h
              refine gr_ald_0 C g189 dX11_ship_191 ?_
              refine g_iconst (v := 1) C dX11_ship_192 (by decide) ?_
              refine g_isub C dX11_ship_193 ?_
              exact gr_iret C hr dX11_ship_194 h
          · replace h := h.2 z162
            refine g_iconst (v := 0) C dX11_ship_74 (by decide) ?_
            exact gr_iret C hr dX11_ship_75 h
theorem c_X11_ship (l : Launch) (D : va_G) (T : Nat → ClassId) (m0 : Nat) (a : Nat → Nat) (p0 : Int32) (p1 : Int32) (p2 : Int32) (p3 : Int32) (r : Nat → Int32) (q : Nat → Nat → Int32) (P : Int32 → RST → Prop) (h : wp_X11_ship P p0 p1 p2 p3 r q) : RMi l yX11_ship (ws_X11_ship) rm_X11_ship D T m0 a [.ref m0, .int p0, .int p1, .int p2, .int p3] r q P := gr_meti (by decide) rfl rfl (Nat.le_of_ble_eq_true rfl) (fun p e s m args below meth c A C hr => t_X11_ship C hr P p0 p1 p2 p3 r q h)
theorem rl_ship101 {K : Int32 → Int32 → Int32 → Int32 → Int32 → (Nat → Int32) → (Nat → Nat → Int32) → Prop} {P : Int32 → RST → Prop} {r : Nat → Int32} {q : Nat → Nat → Int32} {x1 x2 x3 x4 : Int32} {n : Nat} (hn : n < 10) (hK : ∀ q1 : Nat → Nat → Int32, kQ q q1 [0] → q1 0 = zf (q 0) (14 + 26 * n) 26 → K x1 x2 x3 x4 (nI (14 + 26 * n)) r q1) : ∀ (k x fuel : Nat) (q' : Nat → Nat → Int32), x + k = 26 → k < fuel → kQ q q' [0] → q' 0 = zf (q 0) (14 + 26 * n) x → wp_X11_ship_101 K P fuel x1 x2 x3 x4 (nI (14 + 26 * n)) (nI x) r q' := by
  intro k
  induction k with
  | zero =>
    intro x fuel q' hx hf hq h0
    obtain ⟨f, rfl⟩ : ∃ f, fuel = f + 1 := ⟨fuel - 1, by omega⟩; rw [wp_X11_ship_101]; unfold wb_X11_ship_101; dsimp only
    simp (disch := omega) only [li_2, li_3, li_4, li_5, li_6, li_7, li_8, li_9, li_10, li_12, li_14, li_20, li_26, li_30, li_31, li_36, li_38, li_47, li_48, li_50, li_57, li_58, li_80, li_98, li_99, li_100, li_102, li_104, li_105, li_108, li_109, li_110, li_114, li_115, li_119, li_122, li_137, li_146, li_147, li_148, li_149, li_150, li_200, li_255, li_256, li_274, li_510, li_512, li_640, li_999, li_1000, li_1024, li_3334, li_5000, li_9999, li_10000, li_23338, li_26672, li_30000, li_99999, li_150000, li_300000, pk_mul, nI_add, pk_sub, nI_clamp, nI_1, nI_p1, nI_a0, nI_0a, nI_m0, nI_m1, cl_0, cl_1, z01, z11, nI_leI, nI_ltI, nI_eq, nz_lt0, nz_le, nz_eq0, nz_pos, nz_le0, nz_eq1, nz_lt1, nz_ge1, nz_le1, nz_gt1, nz_vp, nz_vp0, nz_vp1, six_nI, vix_nI, bix_nI, pix_nI, fix_nI, gix_nI, rix_nI, zix_nI, pix_0, pix_1, bix_0, fix_0, fix_1, rix_1, true_and, and_true]
    obtain rfl : x = 26 := by omega
    exact ⟨fun _ => hK q' hq h0, fun h => absurd (by omega) h⟩
  | succ k ih =>
    intro x fuel q' hx hf hq h0
    obtain ⟨f, rfl⟩ : ∃ f, fuel = f + 1 := ⟨fuel - 1, by omega⟩; rw [wp_X11_ship_101]; unfold wb_X11_ship_101; dsimp only
    simp (disch := omega) only [li_2, li_3, li_4, li_5, li_6, li_7, li_8, li_9, li_10, li_12, li_14, li_20, li_26, li_30, li_31, li_36, li_38, li_47, li_48, li_50, li_57, li_58, li_80, li_98, li_99, li_100, li_102, li_104, li_105, li_108, li_109, li_110, li_114, li_115, li_119, li_122, li_137, li_146, li_147, li_148, li_149, li_150, li_200, li_255, li_256, li_274, li_510, li_512, li_640, li_999, li_1000, li_1024, li_3334, li_5000, li_9999, li_10000, li_23338, li_26672, li_30000, li_99999, li_150000, li_300000, pk_mul, nI_add, pk_sub, nI_clamp, nI_1, nI_p1, nI_a0, nI_0a, nI_m0, nI_m1, cl_0, cl_1, z01, z11, nI_leI, nI_ltI, nI_eq, nz_lt0, nz_le, nz_eq0, nz_pos, nz_le0, nz_eq1, nz_lt1, nz_ge1, nz_le1, nz_gt1, nz_vp, nz_vp0, nz_vp1, six_nI, vix_nI, bix_nI, pix_nI, fix_nI, gix_nI, rix_nI, zix_nI, pix_0, pix_1, bix_0, fix_0, fix_1, rix_1, true_and, and_true]
    refine ⟨fun h => absurd h (by omega), fun _ => ⟨by omega, fun q12 e12 v13 e13 => ?_⟩⟩
    subst e13
    refine ih (x + 1) f q12 (by omega) (by omega) (by rw [e12]; exact hq.up (by decide) _) ?_
    rw [e12, va_up_self, h0]
    funext i
    unfold zf
    by_cases e : i = 14 + 26 * n + x
    · subst e; rw [pk_us, if_pos ⟨by omega, by omega⟩]
    · rw [pk_un e]
      by_cases c : 14 + 26 * n ≤ i ∧ i < 14 + 26 * n + x
      · rw [if_pos c, if_pos ⟨c.1, by omega⟩]
      · rw [if_neg c, if_neg (by omega)]
theorem k_X11_ship (l : Launch) (D : va_G) (T : Nat → ClassId) (m0 : Nat) (a : Nat → Nat) (p0 : Int32) (p1 : Int32) (p2 : Int32) (p3 : Int32) (r : Nat → Int32) (q : Nat → Nat → Int32) (h : WF (q 0) ∧ CW8 r) : RMi l yX11_ship (ws_X11_ship) rm_X11_ship D T m0 a [.ref m0, .int p0, .int p1, .int p2, .int p3] r q (fun v u => (stP r q (shiC (q 0) p0 p1 p2 p3) (shiF (q 0) p0 p1 p2 p3) (q 0 1) v u.1 u.2)) := c_X11_ship l D T m0 a p0 p1 p2 p3 r q _ <|
  (by
    obtain ⟨hw, hc⟩ := h
    unfold wp_X11_ship
    refine ⟨fun c => code_p (by decide) (stP.bad (c := 1) (by unfold shiC; rw [if_pos c]) (by decide)), fun c1 => ⟨fun c => code_p (by decide) (stP.bad (c := 1) (by unfold shiC; rw [if_neg c1, if_pos c]) (by decide)), fun c2 => ⟨fun c => code_p (by decide) (stP.bad (c := 1) (by unfold shiC; rw [if_neg c1, if_neg c2, if_pos c]) (by decide)), fun c3 => ⟨fun c4 => ⟨by simp (disch := omega) only [li_2, li_3, li_4, li_5, li_6, li_7, li_8, li_9, li_10, li_12, li_14, li_20, li_26, li_30, li_31, li_36, li_38, li_47, li_48, li_50, li_57, li_58, li_80, li_98, li_99, li_100, li_102, li_104, li_105, li_108, li_109, li_110, li_114, li_115, li_119, li_122, li_137, li_146, li_147, li_148, li_149, li_150, li_200, li_255, li_256, li_274, li_510, li_512, li_640, li_999, li_1000, li_1024, li_3334, li_5000, li_9999, li_10000, li_23338, li_26672, li_30000, li_99999, li_150000, li_300000, pk_mul, nI_add, pk_sub, nI_clamp, nI_1, nI_p1, nI_a0, nI_0a, nI_m0, nI_m1, cl_0, cl_1, z01, z11, nI_leI, nI_ltI, nI_eq, nz_lt0, nz_le, nz_eq0, nz_pos, nz_le0, nz_eq1, nz_lt1, nz_ge1, nz_le1, nz_gt1, nz_vp, nz_vp0, nz_vp1, six_nI, vix_nI, bix_nI, pix_nI, fix_nI, gix_nI, rix_nI, zix_nI, pix_0, pix_1, bix_0, fix_0, fix_1, rix_1, true_and, and_true]; decide, fun c5 => code_0 ?_, fun c5 => code_p (by decide) (stP.bad (c := 2) (by unfold shiC; rw [if_neg c1, if_neg c2, if_neg c3, if_neg c4, if_pos (show q 0 1 = 10 from c5)]) (by decide))⟩, fun c => code_p (by decide) (stP.bad (c := 1) (by unfold shiC; rw [if_neg c1, if_neg c2, if_neg c3, if_pos c]) (by decide))⟩⟩⟩⟩
    refine ⟨hc.u6, fun r5 q6 hh => ⟨by simp (disch := omega) only [li_2, li_3, li_4, li_5, li_6, li_7, li_8, li_9, li_10, li_12, li_14, li_20, li_26, li_30, li_31, li_36, li_38, li_47, li_48, li_50, li_57, li_58, li_80, li_98, li_99, li_100, li_102, li_104, li_105, li_108, li_109, li_110, li_114, li_115, li_119, li_122, li_137, li_146, li_147, li_148, li_149, li_150, li_200, li_255, li_256, li_274, li_510, li_512, li_640, li_999, li_1000, li_1024, li_3334, li_5000, li_9999, li_10000, li_23338, li_26672, li_30000, li_99999, li_150000, li_300000, pk_mul, nI_add, pk_sub, nI_clamp, nI_1, nI_p1, nI_a0, nI_0a, nI_m0, nI_m1, cl_0, cl_1, z01, z11, nI_leI, nI_ltI, nI_eq, nz_lt0, nz_le, nz_eq0, nz_pos, nz_le0, nz_eq1, nz_lt1, nz_ge1, nz_le1, nz_gt1, nz_vp, nz_vp0, nz_vp1, six_nI, vix_nI, bix_nI, pix_nI, fix_nI, gix_nI, rix_nI, zix_nI, pix_0, pix_1, bix_0, fix_0, fix_1, rix_1, true_and, and_true]; decide, fun v9 e9 => ?_⟩⟩
    obtain ⟨n, hn, hm⟩ := hw.2.1
    have hn10 : n < 10 := by
      rcases Nat.lt_or_ge n 10 with z | z
      · exact z
      · exact absurd (show q 0 (Int32.toNatClampNeg 1) = 10 by rw [cl_1, hm, show n = 10 by omega]; rfl) c5
    have e60 : q6 0 = q 0 := hh.2.1 0 (by decide)
    have en : iv (q 0 1) = n := by rw [hm]; exact nI_clamp (by omega)
    rw [e60] at e9
    simp (disch := omega) only [hm, li_2, li_3, li_4, li_5, li_6, li_7, li_8, li_9, li_10, li_12, li_14, li_20, li_26, li_30, li_31, li_36, li_38, li_47, li_48, li_50, li_57, li_58, li_80, li_98, li_99, li_100, li_102, li_104, li_105, li_108, li_109, li_110, li_114, li_115, li_119, li_122, li_137, li_146, li_147, li_148, li_149, li_150, li_200, li_255, li_256, li_274, li_510, li_512, li_640, li_999, li_1000, li_1024, li_3334, li_5000, li_9999, li_10000, li_23338, li_26672, li_30000, li_99999, li_150000, li_300000, pk_mul, nI_add, pk_sub, nI_clamp, nI_1, nI_p1, nI_a0, nI_0a, nI_m0, nI_m1, cl_0, cl_1, z01, z11, nI_leI, nI_ltI, nI_eq, nz_lt0, nz_le, nz_eq0, nz_pos, nz_le0, nz_eq1, nz_lt1, nz_ge1, nz_le1, nz_gt1, nz_vp, nz_vp0, nz_vp1, six_nI, vix_nI, bix_nI, pix_nI, fix_nI, gix_nI, rix_nI, zix_nI, pix_0, pix_1, bix_0, fix_0, fix_1, rix_1, true_and, and_true] at e9
    subst e9
    refine ⟨27, rl_ship101 hn10 (fun q1 a1 a2 => ?_) 26 0 _ q6 (by omega) (by omega) kQ.rf (by funext i; unfold zf; rw [if_neg (by omega)])⟩
    simp (disch := omega) only [li_2, li_3, li_4, li_5, li_6, li_7, li_8, li_9, li_10, li_12, li_14, li_20, li_26, li_30, li_31, li_36, li_38, li_47, li_48, li_50, li_57, li_58, li_80, li_98, li_99, li_100, li_102, li_104, li_105, li_108, li_109, li_110, li_114, li_115, li_119, li_122, li_137, li_146, li_147, li_148, li_149, li_150, li_200, li_255, li_256, li_274, li_510, li_512, li_640, li_999, li_1000, li_1024, li_3334, li_5000, li_9999, li_10000, li_23338, li_26672, li_30000, li_99999, li_150000, li_300000, pk_mul, nI_add, pk_sub, nI_clamp, nI_1, nI_p1, nI_a0, nI_0a, nI_m0, nI_m1, cl_0, cl_1, z01, z11, nI_leI, nI_ltI, nI_eq, nz_lt0, nz_le, nz_eq0, nz_pos, nz_le0, nz_eq1, nz_lt1, nz_ge1, nz_le1, nz_gt1, nz_vp, nz_vp0, nz_vp1, six_nI, vix_nI, bix_nI, pix_nI, fix_nI, gix_nI, rix_nI, zix_nI, pix_0, pix_1, bix_0, fix_0, fix_1, rix_1, true_and, and_true]
    refine ⟨by omega, fun q22 e22 => ⟨by omega, fun q24 e24 => ⟨by omega, fun q26 e26 => ⟨by omega, fun q28 e28 => ⟨by omega, fun q30 e30 => ⟨by omega, by omega, fun q33 e33 => ⟨by omega, ?_⟩⟩⟩⟩⟩⟩⟩
    have d33 : q33 0 = shiF (q 0) p0 p1 p2 p3 := by
      unfold shiF
      rw [e33, va_up_self, e30, va_up_self, e28, va_up_self, e26, va_up_self, e24, va_up_self, e22, va_up_self, a2, e60, en]
      congr 1
      rw [pk_un (by omega), pk_un (by omega), pk_un (by omega), pk_un (by omega), pk_un (by omega)]
      unfold zf
      rw [if_neg (by omega)]
    refine stP.ok (by unfold shiC; rw [if_neg c1, if_neg c2, if_neg c3, if_neg c4, if_neg (show ¬ q 0 1 = 10 from c5)]) hh ?_ d33 ?_
    · rw [e33, e30, e28, e26, e24, e22]
      exact (((((a1.up (by decide) _).up (by decide) _).up (by decide) _).up (by decide) _).up (by decide) _).up (by decide) _
    · rw [d33]
      unfold shiF
      rw [pk_us]
      exact Int32.add_sub_cancel _ _)
abbrev ws_X11_pack : List Cond := Cond.code yX11_pack cX11_pack 8 (some .int) :: W0
abbrev rm_X11_pack : Room := ({ frames := 2, cells := 0, slots := 0, locals := 43 } : Room)
def wp_X11_pack_74 (P : Int32 → RST → Prop) (x1 : Int32) (x2 : Int32) (x3 : Int32) (x4 : Int32) (x5 : Int32) (s0 : Int32) (r : Nat → Int32) (q : Nat → Nat → Int32) : Prop := ∀ r3 : Nat → Int32, r3 = va_up r 6 s0 → (((r3 6) ≤ 0 → ((CW8 r3) ∧ (∀ (r6 : Nat → Int32) (q7 : Nat → Nat → Int32), (kR r3 r6 [5] ∧ kQ q q7 [3] ∧ psh (q 3) (q7 3) (q 0) (r3 5) (r6 5)) → (∀ v9 : Int32, v9 = (14 + (26 * x1)) → (vp_in (v9 + 4) 3334 ∧ (∀ v11 : Int32, v11 = ((v9 + 6) + (4 * (q7 0 (Int32.toNatClampNeg (v9 + 4))))) → (vp_in v11 3334 ∧ (∀ q13 : Nat → Nat → Int32, q13 = va_up q7 0 (upd (q7 0) (Int32.toNatClampNeg v11) x2) → (vp_in (v11 + 1) 3334 ∧ (∀ q15 : Nat → Nat → Int32, q15 = va_up q13 0 (upd (q13 0) (Int32.toNatClampNeg (v11 + 1)) x3) → (vp_in (v11 + 2) 3334 ∧ (∀ q17 : Nat → Nat → Int32, q17 = va_up q15 0 (upd (q15 0) (Int32.toNatClampNeg (v11 + 2)) x4) → (vp_in (v11 + 3) 3334 ∧ (∀ q19 : Nat → Nat → Int32, q19 = va_up q17 0 (upd (q17 0) (Int32.toNatClampNeg (v11 + 3)) x5) → (vp_in (v9 + 4) 3334 ∧ (vp_in (v9 + 4) 3334 ∧ (∀ q22 : Nat → Nat → Int32, q22 = va_up q19 0 (upd (q19 0) (Int32.toNatClampNeg (v9 + 4)) ((q19 0 (Int32.toNatClampNeg (v9 + 4))) + 1)) → (vp_in (v9 + 4) 3334 ∧ (P (q22 0 (Int32.toNatClampNeg (v9 + 4))) (r6, q22)))))))))))))))))))) ∧ (¬ (r3 6) ≤ 0 → (P 0 (r3, q))))
set_option maxRecDepth 100000 in
set_option maxHeartbeats 4000000 in
theorem t_X11_pack_74 {p : Program} {l : Launch} {e : Env} {s : State} {m : MethodId} {args : Array Value} {below : List Frame} {meth : Method} {c : Code} {D : va_G} {A : Nat → Prop} {T : Nat → ClassId} {m0 : Nat} {a : Nat → Nat} (C : GC p s m args meth c cX11_pack "FreightRaterModel" (ws_X11_pack) 8 D A (zty T)) (hr : meth.sig.returnType = (some .int)) (P : Int32 → RST → Prop) : ∀ (x1 : Int32) (x2 : Int32) (x3 : Int32) (x4 : Int32) (x5 : Int32) (s0 : Int32) (r : Nat → Int32) (q : Nat → Nat → Int32), wp_X11_pack_74  P x1 x2 x3 x4 x5 s0 r q → GW p l e rm_X11_pack s m args below meth c D A 8 0 0 (MQ below (va_Qi P (RE D T m0 a A) A) args s 0 0 A) (RW m0 a T r q) 0 0 74 [(0, .ref m0), (1, .int x1), (2, .int x2), (3, .int x3), (4, .int x4), (5, .int x5)] [.int s0, .ref m0] := by
  have hw : ∀ {w : Cond}, w ∈ W0 → w.before args s = true := fun h => C.2.2.2.2.1 _ (List.mem_cons_of_mem _ h)
  intro x1 x2 x3 x4 x5 s0 r q h
  unfold wp_X11_pack_74 at h
  refine gr_put_6 C iwx_X11 (hw kw_1815) dX11_pack_74 ?_
  refine gr_nr (fun r3 er3 => ?_)
  replace h := h r3 er3
  refine g_aload_n C dX11_pack_77 rfl 0 rfl ?_
  refine gr_get C iwx_X11 6 (hw kw_1815) (by decide) rfl rfl dX11_pack_78 ?_
  refine g_if_le (tgt := 86) C dX11_pack_81 (by decide) (fun z4 => ?_) (fun z4 => ?_)
  · replace h := h.1 z4
    refine g_aload_n C dX11_pack_86 rfl 0 rfl ?_
    refine g_aload_n C dX11_pack_87 rfl 0 rfl ?_
    refine gr_get C iwx_X11 0 (hw kw_1809) (by decide) rfl rfl dX11_pack_88 ?_
    obtain ⟨g8, h⟩ := h
    refine gr_callvV C [.ref (a 0)] rfl (k_X11_keepAs_0 l D T m0 a  r3 q g8) (w0_V 1 C.2.2.2.2.1 kw_1958 kw_1960 ks_52 kw_9 kw_1961 rfl rfl (by decide +kernel) ⟨by decide, by decide⟩) rfl (Nat.le_of_ble_eq_true rfl) (Nat.zero_le _) (Nat.zero_le _) dX11_pack_91 (fun r6 q7 hp => ?_)
    replace h := h r6 q7 hp
    refine g_bipush (v := 14) C dX11_pack_94 (by decide) ?_
    refine g_bipush (v := 26) C dX11_pack_96 (by decide) ?_
    refine g_iload_n C dX11_pack_98 rfl 1 rfl ?_
    refine g_imul C dX11_pack_99 ?_
    refine g_iadd C dX11_pack_100 ?_
    refine g_topi (fun v9 ev9 => ?_)
    replace h := h v9 ev9
    refine g_istore (lv' := [(6, .int v9), (0, .ref m0), (1, .int x1), (2, .int x2), (3, .int x3), (4, .int x4), (5, .int x5)]) C dX11_pack_101 (by decide) rfl ?_
    refine g_iload C dX11_pack_103 0 rfl ?_
    refine g_bipush (v := 6) C dX11_pack_105 (by decide) ?_
    refine g_iadd C dX11_pack_107 ?_
    refine g_iconst (v := 4) C dX11_pack_108 (by decide) ?_
    refine g_aload_n C dX11_pack_109 rfl 1 rfl ?_
    refine gr_get C iwx_X11 0 (hw kw_1809) (by decide) rfl rfl dX11_pack_110 ?_
    refine g_iload C dX11_pack_113 0 rfl ?_
    refine g_iconst (v := 4) C dX11_pack_115 (by decide) ?_
    refine g_iadd C dX11_pack_116 ?_
    obtain ⟨g10, h⟩ := h
    refine gr_ald_0 C g10 dX11_pack_117 ?_
    refine g_imul C dX11_pack_118 ?_
    refine g_iadd C dX11_pack_119 ?_
    refine g_topi (fun v11 ev11 => ?_)
    replace h := h v11 ev11
    refine g_istore (lv' := [(7, .int v11), (6, .int v9), (0, .ref m0), (1, .int x1), (2, .int x2), (3, .int x3), (4, .int x4), (5, .int x5)]) C dX11_pack_120 (by decide) rfl ?_
    refine g_aload_n C dX11_pack_122 rfl 2 rfl ?_
    refine gr_get C iwx_X11 0 (hw kw_1809) (by decide) rfl rfl dX11_pack_123 ?_
    refine g_iload C dX11_pack_126 0 rfl ?_
    refine g_iload_n C dX11_pack_128 rfl 4 rfl ?_
    obtain ⟨g12, h⟩ := h
    refine gr_ast_0 C g12 dX11_pack_129 ?_
    refine gr_nq (fun q13 eq13 => ?_)
    replace h := h q13 eq13
    refine g_aload_n C dX11_pack_130 rfl 2 rfl ?_
    refine gr_get C iwx_X11 0 (hw kw_1809) (by decide) rfl rfl dX11_pack_131 ?_
    refine g_iload C dX11_pack_134 0 rfl ?_
    refine g_iconst (v := 1) C dX11_pack_136 (by decide) ?_
    refine g_iadd C dX11_pack_137 ?_
    refine g_iload_n C dX11_pack_138 rfl 5 rfl ?_
    obtain ⟨g14, h⟩ := h
    refine gr_ast_0 C g14 dX11_pack_139 ?_
    refine gr_nq (fun q15 eq15 => ?_)
    replace h := h q15 eq15
    refine g_aload_n C dX11_pack_140 rfl 2 rfl ?_
    refine gr_get C iwx_X11 0 (hw kw_1809) (by decide) rfl rfl dX11_pack_141 ?_
    refine g_iload C dX11_pack_144 0 rfl ?_
    refine g_iconst (v := 2) C dX11_pack_146 (by decide) ?_
    refine g_iadd C dX11_pack_147 ?_
    refine g_iload C dX11_pack_148 6 rfl ?_
    obtain ⟨g16, h⟩ := h
    refine gr_ast_0 C g16 dX11_pack_150 ?_
    refine gr_nq (fun q17 eq17 => ?_)
    replace h := h q17 eq17
    refine g_aload_n C dX11_pack_151 rfl 2 rfl ?_
    refine gr_get C iwx_X11 0 (hw kw_1809) (by decide) rfl rfl dX11_pack_152 ?_
    refine g_iload C dX11_pack_155 0 rfl ?_
    refine g_iconst (v := 3) C dX11_pack_157 (by decide) ?_
    refine g_iadd C dX11_pack_158 ?_
    refine g_iload C dX11_pack_159 7 rfl ?_
    obtain ⟨g18, h⟩ := h
    refine gr_ast_0 C g18 dX11_pack_161 ?_
    refine gr_nq (fun q19 eq19 => ?_)
    replace h := h q19 eq19
    refine g_aload_n C dX11_pack_162 rfl 2 rfl ?_
    refine gr_get C iwx_X11 0 (hw kw_1809) (by decide) rfl rfl dX11_pack_163 ?_
    refine g_iload C dX11_pack_166 1 rfl ?_
    refine g_iconst (v := 4) C dX11_pack_168 (by decide) ?_
    refine g_iadd C dX11_pack_169 ?_
    refine g_dup2 C dX11_pack_170 rfl rfl ?_
    obtain ⟨g20, h⟩ := h
    refine gr_ald_0 C g20 dX11_pack_171 ?_
    refine g_iconst (v := 1) C dX11_pack_172 (by decide) ?_
    refine g_iadd C dX11_pack_173 ?_
    obtain ⟨g21, h⟩ := h
    refine gr_ast_0 C g21 dX11_pack_174 ?_
    refine gr_nq (fun q22 eq22 => ?_)
    replace h := h q22 eq22
    refine g_aload_n C dX11_pack_175 rfl 2 rfl ?_
    refine gr_get C iwx_X11 0 (hw kw_1809) (by decide) rfl rfl dX11_pack_176 ?_
    refine g_iload C dX11_pack_179 1 rfl ?_
    refine g_iconst (v := 4) C dX11_pack_181 (by decide) ?_
    refine g_iadd C dX11_pack_182 ?_
    obtain ⟨g23, h⟩ := h
    refine gr_ald_0 C g23 dX11_pack_183 ?_
    exact gr_iret C hr dX11_pack_184 h
  · replace h := h.2 z4
    refine g_iconst (v := 0) C dX11_pack_84 (by decide) ?_
    exact gr_iret C hr dX11_pack_85 h
def wp_X11_pack (P : Int32 → RST → Prop) (p0 : Int32) (p1 : Int32) (p2 : Int32) (p3 : Int32) (p4 : Int32) (r : Nat → Int32) (q : Nat → Nat → Int32) : Prop := (¬ (zin p0 0 (q 0 1 - 1)) = 0 → (((zin p1 1 200) = 0 → (wp_X11_pack_74  P p0 p1 p2 p3 p4 2 r q)) ∧ (¬ (zin p1 1 200) = 0 → (((zin p2 1 200) = 0 → (wp_X11_pack_74  P p0 p1 p2 p3 p4 2 r q)) ∧ (¬ (zin p2 1 200) = 0 → (((zin p3 1 200) = 0 → (wp_X11_pack_74  P p0 p1 p2 p3 p4 2 r q)) ∧ (¬ (zin p3 1 200) = 0 → ((¬ (zin p4 1 999) = 0 → ((six p0) ∧ ((¬ (psF (q 0) (iv p0)) = 0 → (wp_X11_pack_74  P p0 p1 p2 p3 p4 3 r q)) ∧ ((psF (q 0) (iv p0)) = 0 → ((six p0 ∧ pix 4) ∧ ((¬ (q 0 (14 + 26 * iv p0 + iv 4)) = 5 → (wp_X11_pack_74  P p0 p1 p2 p3 p4 0 r q)) ∧ ((q 0 (14 + 26 * iv p0 + iv 4)) = 5 → (wp_X11_pack_74  P p0 p1 p2 p3 p4 3 r q)))))))) ∧ ((zin p4 1 999) = 0 → (wp_X11_pack_74  P p0 p1 p2 p3 p4 2 r q)))))))))) ∧ ((zin p0 0 (q 0 1 - 1)) = 0 → (wp_X11_pack_74  P p0 p1 p2 p3 p4 1 r q))
set_option maxRecDepth 100000 in
set_option maxHeartbeats 4000000 in
theorem t_X11_pack {p : Program} {l : Launch} {e : Env} {s : State} {m : MethodId} {args : Array Value} {below : List Frame} {meth : Method} {c : Code} {D : va_G} {A : Nat → Prop} {T : Nat → ClassId} {m0 : Nat} {a : Nat → Nat} (C : GC p s m args meth c cX11_pack "FreightRaterModel" (ws_X11_pack) 8 D A (zty T)) (hr : meth.sig.returnType = (some .int)) (P : Int32 → RST → Prop) : ∀ (p0 : Int32) (p1 : Int32) (p2 : Int32) (p3 : Int32) (p4 : Int32) (r : Nat → Int32) (q : Nat → Nat → Int32), wp_X11_pack P p0 p1 p2 p3 p4 r q → GW p l e rm_X11_pack s m args below meth c D A 8 0 0 (MQ below (va_Qi P (RE D T m0 a A) A) args s 0 0 A) (RW m0 a T r q) 0 0 0 [(0, .ref m0), (1, .int p0), (2, .int p1), (3, .int p2), (4, .int p3), (5, .int p4)] [] := by
  have hw : ∀ {w : Cond}, w ∈ W0 → w.before args s = true := fun h => C.2.2.2.2.1 _ (List.mem_cons_of_mem _ h)
  intro p0 p1 p2 p3 p4 r q h
  unfold wp_X11_pack at h
  refine g_aload_n C dX11_pack_0 rfl 0 rfl ?_
  refine g_aload_n C dX11_pack_1 rfl 0 rfl ?_
  refine g_iload_n C dX11_pack_2 rfl 1 rfl ?_
  refine gr_callVf C [.int p0] rfl (k_X11_isShipment l D T m0 a p0 r q) (w0_V 1 C.2.2.2.2.1 kw_2116 kw_2118 ks_77 kw_9 kw_2119 rfl rfl (by decide +kernel) ⟨by decide, by decide⟩) rfl (Nat.le_of_ble_eq_true rfl) (Nat.zero_le _) (Nat.zero_le _) dX11_pack_3 ?_
  refine g_if_ne (tgt := 13) C dX11_pack_6 (by decide) (fun z1 => ?_) (fun z1 => ?_)
  · replace h := h.1 z1
    refine g_iload_n C dX11_pack_13 rfl 2 rfl ?_
    refine gr_callSf C [.int p1] rfl (k_X11_isSide l D T m0 a p1 r q) (w0_S 1 C.2.2.2.2.1 kw_2120 kw_2121 kw_9 kw_2122 rfl rfl (by decide +kernel) ⟨by decide, by decide⟩) rfl (Nat.le_of_ble_eq_true rfl) (Nat.zero_le _) (Nat.zero_le _) dX11_pack_14 ?_
    refine g_if_eq (tgt := 47) C dX11_pack_17 (by decide) (fun z2 => ?_) (fun z2 => ?_)
    · replace h := h.1 z2
      refine g_iconst (v := 2) C dX11_pack_47 (by decide) ?_
      refine g_goto (tgt := 74) C dX11_pack_48 (by decide) ?_
      refine g_locals [0, 1, 2, 3, 4, 5] rfl ?_
      refine t_X11_pack_74 C hr  P  p0 p1 p2 p3 p4 2 r q h
    · replace h := h.2 z2
      refine g_iload_n C dX11_pack_20 rfl 3 rfl ?_
      refine gr_callSf C [.int p2] rfl (k_X11_isSide l D T m0 a p2 r q) (w0_S 1 C.2.2.2.2.1 kw_2120 kw_2121 kw_9 kw_2122 rfl rfl (by decide +kernel) ⟨by decide, by decide⟩) rfl (Nat.le_of_ble_eq_true rfl) (Nat.zero_le _) (Nat.zero_le _) dX11_pack_21 ?_
      refine g_if_eq (tgt := 47) C dX11_pack_24 (by decide) (fun z24 => ?_) (fun z24 => ?_)
      · replace h := h.1 z24
        refine g_iconst (v := 2) C dX11_pack_47 (by decide) ?_
        refine g_goto (tgt := 74) C dX11_pack_48 (by decide) ?_
        refine g_locals [0, 1, 2, 3, 4, 5] rfl ?_
        refine t_X11_pack_74 C hr  P  p0 p1 p2 p3 p4 2 r q h
      · replace h := h.2 z24
        refine g_iload C dX11_pack_27 4 rfl ?_
        refine gr_callSf C [.int p3] rfl (k_X11_isSide l D T m0 a p3 r q) (w0_S 1 C.2.2.2.2.1 kw_2120 kw_2121 kw_9 kw_2122 rfl rfl (by decide +kernel) ⟨by decide, by decide⟩) rfl (Nat.le_of_ble_eq_true rfl) (Nat.zero_le _) (Nat.zero_le _) dX11_pack_29 ?_
        refine g_if_eq (tgt := 47) C dX11_pack_32 (by decide) (fun z25 => ?_) (fun z25 => ?_)
        · replace h := h.1 z25
          refine g_iconst (v := 2) C dX11_pack_47 (by decide) ?_
          refine g_goto (tgt := 74) C dX11_pack_48 (by decide) ?_
          refine g_locals [0, 1, 2, 3, 4, 5] rfl ?_
          refine t_X11_pack_74 C hr  P  p0 p1 p2 p3 p4 2 r q h
        · replace h := h.2 z25
          refine g_iload C dX11_pack_35 5 rfl ?_
          refine g_iconst (v := 1) C dX11_pack_37 (by decide) ?_
          refine g_sipush (v := 999) C dX11_pack_38 (by decide) ?_
          refine gr_callSf C [.int p4, .int 1, .int 999] rfl (k_X11_in l D T m0 a p4 1 999 r q) (w0_S 3 C.2.2.2.2.1 kw_1944 kw_1945 kw_9 kw_1946 rfl rfl (by decide +kernel) ⟨by decide, by decide⟩) rfl (Nat.le_of_ble_eq_true rfl) (Nat.zero_le _) (Nat.zero_le _) dX11_pack_41 ?_
          refine g_if_ne (tgt := 51) C dX11_pack_44 (by decide) (fun z26 => ?_) (fun z26 => ?_)
          · replace h := h.1 z26
            refine g_aload_n C dX11_pack_51 rfl 0 rfl ?_
            refine g_iload_n C dX11_pack_52 rfl 1 rfl ?_
            obtain ⟨g27, h⟩ := h
            refine gr_callVf C [.int p0] rfl (k_X11_isPosted l D T m0 a p0 r q g27) (w0_V 1 C.2.2.2.2.1 kw_2123 kw_2125 ks_78 kw_9 kw_2126 rfl rfl (by decide +kernel) ⟨by decide, by decide⟩) rfl (Nat.le_of_ble_eq_true rfl) (Nat.zero_le _) (Nat.zero_le _) dX11_pack_53 ?_
            refine g_if_ne (tgt := 69) C dX11_pack_56 (by decide) (fun z28 => ?_) (fun z28 => ?_)
            · replace h := h.1 z28
              refine g_iconst (v := 3) C dX11_pack_69 (by decide) ?_
              refine g_goto (tgt := 74) C dX11_pack_70 (by decide) ?_
              refine g_locals [0, 1, 2, 3, 4, 5] rfl ?_
              refine t_X11_pack_74 C hr  P  p0 p1 p2 p3 p4 3 r q h
            · replace h := h.2 z28
              refine g_aload_n C dX11_pack_59 rfl 0 rfl ?_
              refine g_iload_n C dX11_pack_60 rfl 1 rfl ?_
              refine g_iconst (v := 4) C dX11_pack_61 (by decide) ?_
              obtain ⟨g29, h⟩ := h
              refine gr_callVf C [.int p0, .int 4] rfl (k_X11_of l D T m0 a p0 4 r q g29) (w0_V 2 C.2.2.2.2.1 kw_2127 kw_2129 ks_79 kw_9 kw_2130 rfl rfl (by decide +kernel) ⟨by decide, by decide⟩) rfl (Nat.le_of_ble_eq_true rfl) (Nat.zero_le _) (Nat.zero_le _) dX11_pack_62 ?_
              refine g_iconst (v := 5) C dX11_pack_65 (by decide) ?_
              refine g_icmp_ne (tgt := 73) C dX11_pack_66 (by decide) (fun z30 => ?_) (fun z30 => ?_)
              · replace h := h.1 z30
                refine g_iconst (v := 0) C dX11_pack_73 (by decide) ?_
                refine g_locals [0, 1, 2, 3, 4, 5] rfl ?_
                refine t_X11_pack_74 C hr  P  p0 p1 p2 p3 p4 0 r q h
              · replace h := h.2 z30
                refine g_iconst (v := 3) C dX11_pack_69 (by decide) ?_
                refine g_goto (tgt := 74) C dX11_pack_70 (by decide) ?_
                refine g_locals [0, 1, 2, 3, 4, 5] rfl ?_
                refine t_X11_pack_74 C hr  P  p0 p1 p2 p3 p4 3 r q h
          · replace h := h.2 z26
            refine g_iconst (v := 2) C dX11_pack_47 (by decide) ?_
            refine g_goto (tgt := 74) C dX11_pack_48 (by decide) ?_
            refine g_locals [0, 1, 2, 3, 4, 5] rfl ?_
            refine t_X11_pack_74 C hr  P  p0 p1 p2 p3 p4 2 r q h
  · replace h := h.2 z1
    refine g_iconst (v := 1) C dX11_pack_9 (by decide) ?_
    refine g_goto (tgt := 74) C dX11_pack_10 (by decide) ?_
    refine g_locals [0, 1, 2, 3, 4, 5] rfl ?_
    refine t_X11_pack_74 C hr  P  p0 p1 p2 p3 p4 1 r q h
theorem c_X11_pack (l : Launch) (D : va_G) (T : Nat → ClassId) (m0 : Nat) (a : Nat → Nat) (p0 : Int32) (p1 : Int32) (p2 : Int32) (p3 : Int32) (p4 : Int32) (r : Nat → Int32) (q : Nat → Nat → Int32) (P : Int32 → RST → Prop) (h : wp_X11_pack P p0 p1 p2 p3 p4 r q) : RMi l yX11_pack (ws_X11_pack) rm_X11_pack D T m0 a [.ref m0, .int p0, .int p1, .int p2, .int p3, .int p4] r q P := gr_meti (by decide) rfl rfl (Nat.le_of_ble_eq_true rfl) (fun p e s m args below meth c A C hr => t_X11_pack C hr P p0 p1 p2 p3 p4 r q h)
theorem w_pack74 {P : Int32 → RST → Prop} {r : Nat → Int32} {q : Nat → Nat → Int32} {s a b c w C : Int32} (hw : WF (q 0)) (hc8 : CW8 r) (hC : (C = 0 ∧ ∃ n, n < 10 ∧ s = nI n ∧ ¬ q 0 (14 + 26 * n + 4) = 5) ∨ C = 1 ∨ C = 2 ∨ C = 3) (hP : ∀ v r1 q1, stP r q C (pakF (q 0) (iv s) a b c w) (q 0 (14 + 26 * iv s + 4) + 1) v r1 q1 → P v (r1, q1)) : wp_X11_pack_74 P s a b c w C r q := by
  unfold wp_X11_pack_74
  rcases hC with ⟨rfl, n, hn, rfl, h5⟩ | rfl | rfl | rfl
  · refine code_0 ⟨hc8.u6, fun r6 q7 hh v9 e9 => ?_⟩
    obtain ⟨m, hm5, hm⟩ := hw.pcs hn
    have hm4 : m < 5 := by
      rcases Nat.lt_or_ge m 5 with z | z
      · exact z
      · exact absurd (show q 0 (14 + 26 * n + 4) = 5 by rw [hm, show m = 5 by omega]; rfl) h5
    have e70 : q7 0 = q 0 := hh.2.1 0 (by decide)
    subst e9
    have em : iv (q 0 (14 + 26 * n + 4)) = m := by rw [hm]; exact nI_clamp (by omega)
    have esn : iv (nI n) = n := nI_clamp (by omega)
    rw [esn] at hP
    simp (disch := omega) only [e70, hm, li_2, li_3, li_4, li_5, li_6, li_7, li_8, li_9, li_10, li_12, li_14, li_20, li_26, li_30, li_31, li_36, li_38, li_47, li_48, li_50, li_57, li_58, li_80, li_98, li_99, li_100, li_102, li_104, li_105, li_108, li_109, li_110, li_114, li_115, li_119, li_122, li_137, li_146, li_147, li_148, li_149, li_150, li_200, li_255, li_256, li_274, li_510, li_512, li_640, li_999, li_1000, li_1024, li_3334, li_5000, li_9999, li_10000, li_23338, li_26672, li_30000, li_99999, li_150000, li_300000, pk_mul, nI_add, pk_sub, nI_clamp, nI_1, nI_p1, nI_a0, nI_0a, nI_m0, nI_m1, cl_0, cl_1, z01, z11, nI_leI, nI_ltI, nI_eq, nz_lt0, nz_le, nz_eq0, nz_pos, nz_le0, nz_eq1, nz_lt1, nz_ge1, nz_le1, nz_gt1, nz_vp, nz_vp0, nz_vp1, six_nI, vix_nI, bix_nI, pix_nI, fix_nI, gix_nI, rix_nI, zix_nI, pix_0, pix_1, bix_0, fix_0, fix_1, rix_1, true_and, and_true]
    refine ⟨by omega, fun v11 e11 => ?_⟩
    subst e11
    simp (disch := omega) only [li_2, li_3, li_4, li_5, li_6, li_7, li_8, li_9, li_10, li_12, li_14, li_20, li_26, li_30, li_31, li_36, li_38, li_47, li_48, li_50, li_57, li_58, li_80, li_98, li_99, li_100, li_102, li_104, li_105, li_108, li_109, li_110, li_114, li_115, li_119, li_122, li_137, li_146, li_147, li_148, li_149, li_150, li_200, li_255, li_256, li_274, li_510, li_512, li_640, li_999, li_1000, li_1024, li_3334, li_5000, li_9999, li_10000, li_23338, li_26672, li_30000, li_99999, li_150000, li_300000, pk_mul, nI_add, pk_sub, nI_clamp, nI_1, nI_p1, nI_a0, nI_0a, nI_m0, nI_m1, cl_0, cl_1, z01, z11, nI_leI, nI_ltI, nI_eq, nz_lt0, nz_le, nz_eq0, nz_pos, nz_le0, nz_eq1, nz_lt1, nz_ge1, nz_le1, nz_gt1, nz_vp, nz_vp0, nz_vp1, six_nI, vix_nI, bix_nI, pix_nI, fix_nI, gix_nI, rix_nI, zix_nI, pix_0, pix_1, bix_0, fix_0, fix_1, rix_1, true_and, and_true]
    refine ⟨by omega, fun q13 e13 => ⟨by omega, fun q15 e15 => ⟨by omega, fun q17 e17 => ⟨by omega, fun q19 e19 => ⟨by omega, by omega, fun q22 e22 => ⟨by omega, ?_⟩⟩⟩⟩⟩⟩
    have d : q22 0 = pakF (q 0) n a b c w := by
      unfold pakF
      rw [e22, va_up_self, e19, va_up_self, e17, va_up_self, e15, va_up_self, e13, va_up_self, em]
      congr 1
      rw [pk_un (by omega), pk_un (by omega), pk_un (by omega), pk_un (by omega)]
    refine hP _ _ _ (stP.ok rfl hh ?_ d ?_)
    · rw [e22, e19, e17, e15, e13]
      exact ((((kQ.rf.up (by decide) _).up (by decide) _).up (by decide) _).up (by decide) _).up (by decide) _
    · rw [d]
      unfold pakF
      rw [pk_us]
  all_goals exact code_p (by decide) (hP _ _ _ (stP.bad rfl (by decide)))
theorem k_X11_pack (l : Launch) (D : va_G) (T : Nat → ClassId) (m0 : Nat) (a : Nat → Nat) (p0 : Int32) (p1 : Int32) (p2 : Int32) (p3 : Int32) (p4 : Int32) (r : Nat → Int32) (q : Nat → Nat → Int32) (h : WF (q 0) ∧ CW8 r) : RMi l yX11_pack (ws_X11_pack) rm_X11_pack D T m0 a [.ref m0, .int p0, .int p1, .int p2, .int p3, .int p4] r q (fun v u => (stP r q (pakC (q 0) p0 p1 p2 p3 p4) (pakF (q 0) (iv p0) p1 p2 p3 p4) (q 0 (14 + 26 * iv p0 + 4) + 1) v u.1 u.2)) := c_X11_pack l D T m0 a p0 p1 p2 p3 p4 r q _ <|
  (by
    obtain ⟨hw, hc8⟩ := h
    unfold wp_X11_pack pakC
    have fin : ∀ C : Int32, ((C = 0 ∧ ∃ n, n < 10 ∧ p0 = nI n ∧ ¬ q 0 (14 + 26 * n + 4) = 5) ∨ C = 1 ∨ C = 2 ∨ C = 3) → pakC (q 0) p0 p1 p2 p3 p4 = C → wp_X11_pack_74 (fun v u => stP r q (pakC (q 0) p0 p1 p2 p3 p4) (pakF (q 0) (iv p0) p1 p2 p3 p4) (q 0 (14 + 26 * iv p0 + 4) + 1) v u.1 u.2) p0 p1 p2 p3 p4 C r q := fun C h1 h2 => w_pack74 hw hc8 h1 (fun v r1 q1 z => by rw [h2]; exact z)
    unfold pakC at fin
    refine ⟨fun c1 => ?_, fun c1 => fin 1 (Or.inr (Or.inl rfl)) (by rw [if_pos c1])⟩
    refine ⟨fun c => fin 2 (Or.inr (Or.inr (Or.inl rfl))) (by rw [if_neg c1, if_pos c]), fun c2 => ⟨fun c => fin 2 (Or.inr (Or.inr (Or.inl rfl))) (by rw [if_neg c1, if_neg c2, if_pos c]), fun c3 => ⟨fun c => fin 2 (Or.inr (Or.inr (Or.inl rfl))) (by rw [if_neg c1, if_neg c2, if_neg c3, if_pos c]), fun c4 => ⟨fun c5 => ?_, fun c => fin 2 (Or.inr (Or.inr (Or.inl rfl))) (by rw [if_neg c1, if_neg c2, if_neg c3, if_neg c4, if_pos c])⟩⟩⟩⟩
    obtain ⟨s, n, hs, hn, _, es⟩ := ship_ix hw c1
    have hx : six p0 := ⟨s, by omega, es⟩
    have ess : iv p0 = s := by rw [es]; exact nI_clamp (by omega)
    refine ⟨hx, fun c6 => fin 3 (Or.inr (Or.inr (Or.inr rfl))) (by rw [if_neg c1, if_neg c2, if_neg c3, if_neg c4, if_neg c5, if_pos c6]), fun c6 => ⟨⟨hx, by simp (disch := omega) only [li_2, li_3, li_4, li_5, li_6, li_7, li_8, li_9, li_10, li_12, li_14, li_20, li_26, li_30, li_31, li_36, li_38, li_47, li_48, li_50, li_57, li_58, li_80, li_98, li_99, li_100, li_102, li_104, li_105, li_108, li_109, li_110, li_114, li_115, li_119, li_122, li_137, li_146, li_147, li_148, li_149, li_150, li_200, li_255, li_256, li_274, li_510, li_512, li_640, li_999, li_1000, li_1024, li_3334, li_5000, li_9999, li_10000, li_23338, li_26672, li_30000, li_99999, li_150000, li_300000, pk_mul, nI_add, pk_sub, nI_clamp, nI_1, nI_p1, nI_a0, nI_0a, nI_m0, nI_m1, cl_0, cl_1, z01, z11, nI_leI, nI_ltI, nI_eq, nz_lt0, nz_le, nz_eq0, nz_pos, nz_le0, nz_eq1, nz_lt1, nz_ge1, nz_le1, nz_gt1, nz_vp, nz_vp0, nz_vp1, six_nI, vix_nI, bix_nI, pix_nI, fix_nI, gix_nI, rix_nI, zix_nI, pix_0, pix_1, bix_0, fix_0, fix_1, rix_1, true_and, and_true]; omega⟩, fun c7 => fin 0 (Or.inl ⟨rfl, s, by omega, es, ?_⟩) ?_, fun c7 => fin 3 (Or.inr (Or.inr (Or.inr rfl))) ?_⟩⟩
    · rw [ess] at c7; exact c7
    · rw [if_neg c1, if_neg c2, if_neg c3, if_neg c4, if_neg c5, if_neg (by rw [c6]; exact fun z => z rfl), if_neg (show ¬ q 0 (14 + 26 * iv p0 + 4) = 5 from c7)]
    · rw [if_neg c1, if_neg c2, if_neg c3, if_neg c4, if_neg c5, if_neg (by rw [c6]; exact fun z => z rfl), if_pos (show q 0 (14 + 26 * iv p0 + 4) = 5 from c7)])
abbrev ws_X11_route : List Cond := Cond.code yX11_route cX11_route 5 (some .int) :: W0
abbrev rm_X11_route : Room := ({ frames := 2, cells := 0, slots := 0, locals := 43 } : Room)
def wp_X11_route_52 (P : Int32 → RST → Prop) (x1 : Int32) (x2 : Int32) (x3 : Int32) (s0 : Int32) (r : Nat → Int32) (q : Nat → Nat → Int32) : Prop := ∀ r3 : Nat → Int32, r3 = va_up r 6 s0 → (((r3 6) ≤ 0 → ((CW8 r3) ∧ (∀ (r6 : Nat → Int32) (q7 : Nat → Nat → Int32), (kR r3 r6 [5] ∧ kQ q q7 [3] ∧ psh (q 3) (q7 3) (q 0) (r3 5) (r6 5)) → ((six x1 ∧ pix 0) ∧ (∀ v10 : Int32, v10 = (q7 0 (14 + 26 * iv x1 + iv 0)) → (vp_in ((14 + (26 * x1)) + 0) 3334 ∧ (∀ q12 : Nat → Nat → Int32, q12 = va_up q7 0 (upd (q7 0) (Int32.toNatClampNeg ((14 + (26 * x1)) + 0)) x2) → (vp_in ((14 + (26 * x1)) + 1) 3334 ∧ (∀ q14 : Nat → Nat → Int32, q14 = va_up q12 0 (upd (q12 0) (Int32.toNatClampNeg ((14 + (26 * x1)) + 1)) x3) → (P v10 (r6, q14))))))))))) ∧ (¬ (r3 6) ≤ 0 → (P 0 (r3, q))))
set_option maxRecDepth 100000 in
set_option maxHeartbeats 4000000 in
theorem t_X11_route_52 {p : Program} {l : Launch} {e : Env} {s : State} {m : MethodId} {args : Array Value} {below : List Frame} {meth : Method} {c : Code} {D : va_G} {A : Nat → Prop} {T : Nat → ClassId} {m0 : Nat} {a : Nat → Nat} (C : GC p s m args meth c cX11_route "FreightRaterModel" (ws_X11_route) 5 D A (zty T)) (hr : meth.sig.returnType = (some .int)) (P : Int32 → RST → Prop) : ∀ (x1 : Int32) (x2 : Int32) (x3 : Int32) (s0 : Int32) (r : Nat → Int32) (q : Nat → Nat → Int32), wp_X11_route_52  P x1 x2 x3 s0 r q → GW p l e rm_X11_route s m args below meth c D A 5 0 0 (MQ below (va_Qi P (RE D T m0 a A) A) args s 0 0 A) (RW m0 a T r q) 0 0 52 [(0, .ref m0), (1, .int x1), (2, .int x2), (3, .int x3)] [.int s0, .ref m0] := by
  have hw : ∀ {w : Cond}, w ∈ W0 → w.before args s = true := fun h => C.2.2.2.2.1 _ (List.mem_cons_of_mem _ h)
  intro x1 x2 x3 s0 r q h
  unfold wp_X11_route_52 at h
  refine gr_put_6 C iwx_X11 (hw kw_1815) dX11_route_52 ?_
  refine gr_nr (fun r3 er3 => ?_)
  replace h := h r3 er3
  refine g_aload_n C dX11_route_55 rfl 0 rfl ?_
  refine gr_get C iwx_X11 6 (hw kw_1815) (by decide) rfl rfl dX11_route_56 ?_
  refine g_if_le (tgt := 64) C dX11_route_59 (by decide) (fun z4 => ?_) (fun z4 => ?_)
  · replace h := h.1 z4
    refine g_aload_n C dX11_route_64 rfl 0 rfl ?_
    refine g_aload_n C dX11_route_65 rfl 0 rfl ?_
    refine gr_get C iwx_X11 0 (hw kw_1809) (by decide) rfl rfl dX11_route_66 ?_
    obtain ⟨g8, h⟩ := h
    refine gr_callvV C [.ref (a 0)] rfl (k_X11_keepAs_0 l D T m0 a  r3 q g8) (w0_V 1 C.2.2.2.2.1 kw_1958 kw_1960 ks_52 kw_9 kw_1961 rfl rfl (by decide +kernel) ⟨by decide, by decide⟩) rfl (Nat.le_of_ble_eq_true rfl) (Nat.zero_le _) (Nat.zero_le _) dX11_route_69 (fun r6 q7 hp => ?_)
    replace h := h r6 q7 hp
    refine g_aload_n C dX11_route_72 rfl 0 rfl ?_
    refine g_iload_n C dX11_route_73 rfl 1 rfl ?_
    refine g_iconst (v := 0) C dX11_route_74 (by decide) ?_
    obtain ⟨g9, h⟩ := h
    refine gr_callVf C [.int x1, .int 0] rfl (k_X11_of l D T m0 a x1 0 r6 q7 g9) (w0_V 2 C.2.2.2.2.1 kw_2127 kw_2129 ks_79 kw_9 kw_2130 rfl rfl (by decide +kernel) ⟨by decide, by decide⟩) rfl (Nat.le_of_ble_eq_true rfl) (Nat.zero_le _) (Nat.zero_le _) dX11_route_75 ?_
    refine g_topi (fun v10 ev10 => ?_)
    replace h := h v10 ev10
    refine g_istore (lv' := [(4, .int v10), (0, .ref m0), (1, .int x1), (2, .int x2), (3, .int x3)]) C dX11_route_78 (by decide) rfl ?_
    refine g_aload_n C dX11_route_80 rfl 1 rfl ?_
    refine gr_get C iwx_X11 0 (hw kw_1809) (by decide) rfl rfl dX11_route_81 ?_
    refine g_bipush (v := 14) C dX11_route_84 (by decide) ?_
    refine g_bipush (v := 26) C dX11_route_86 (by decide) ?_
    refine g_iload_n C dX11_route_88 rfl 2 rfl ?_
    refine g_imul C dX11_route_89 ?_
    refine g_iadd C dX11_route_90 ?_
    refine g_iconst (v := 0) C dX11_route_91 (by decide) ?_
    refine g_iadd C dX11_route_92 ?_
    refine g_iload_n C dX11_route_93 rfl 3 rfl ?_
    obtain ⟨g11, h⟩ := h
    refine gr_ast_0 C g11 dX11_route_94 ?_
    refine gr_nq (fun q12 eq12 => ?_)
    replace h := h q12 eq12
    refine g_aload_n C dX11_route_95 rfl 1 rfl ?_
    refine gr_get C iwx_X11 0 (hw kw_1809) (by decide) rfl rfl dX11_route_96 ?_
    refine g_bipush (v := 14) C dX11_route_99 (by decide) ?_
    refine g_bipush (v := 26) C dX11_route_101 (by decide) ?_
    refine g_iload_n C dX11_route_103 rfl 2 rfl ?_
    refine g_imul C dX11_route_104 ?_
    refine g_iadd C dX11_route_105 ?_
    refine g_iconst (v := 1) C dX11_route_106 (by decide) ?_
    refine g_iadd C dX11_route_107 ?_
    refine g_iload_n C dX11_route_108 rfl 4 rfl ?_
    obtain ⟨g13, h⟩ := h
    refine gr_ast_0 C g13 dX11_route_109 ?_
    refine gr_nq (fun q14 eq14 => ?_)
    replace h := h q14 eq14
    refine g_iload C dX11_route_110 0 rfl ?_
    exact gr_iret C hr dX11_route_112 h
  · replace h := h.2 z4
    refine g_iconst (v := 0) C dX11_route_62 (by decide) ?_
    exact gr_iret C hr dX11_route_63 h
def wp_X11_route (P : Int32 → RST → Prop) (p0 : Int32) (p1 : Int32) (p2 : Int32) (r : Nat → Int32) (q : Nat → Nat → Int32) : Prop := (¬ (zin p0 0 (q 0 1 - 1)) = 0 → (((zin p1 0 999) = 0 → (wp_X11_route_52  P p0 p1 p2 2 r q)) ∧ (¬ (zin p1 0 999) = 0 → ((¬ (zin p2 0 999) = 0 → ((six p0) ∧ (((psF (q 0) (iv p0)) = 0 → (wp_X11_route_52  P p0 p1 p2 0 r q)) ∧ (¬ (psF (q 0) (iv p0)) = 0 → (wp_X11_route_52  P p0 p1 p2 3 r q))))) ∧ ((zin p2 0 999) = 0 → (wp_X11_route_52  P p0 p1 p2 2 r q)))))) ∧ ((zin p0 0 (q 0 1 - 1)) = 0 → (wp_X11_route_52  P p0 p1 p2 1 r q))
set_option maxRecDepth 100000 in
set_option maxHeartbeats 4000000 in
theorem t_X11_route {p : Program} {l : Launch} {e : Env} {s : State} {m : MethodId} {args : Array Value} {below : List Frame} {meth : Method} {c : Code} {D : va_G} {A : Nat → Prop} {T : Nat → ClassId} {m0 : Nat} {a : Nat → Nat} (C : GC p s m args meth c cX11_route "FreightRaterModel" (ws_X11_route) 5 D A (zty T)) (hr : meth.sig.returnType = (some .int)) (P : Int32 → RST → Prop) : ∀ (p0 : Int32) (p1 : Int32) (p2 : Int32) (r : Nat → Int32) (q : Nat → Nat → Int32), wp_X11_route P p0 p1 p2 r q → GW p l e rm_X11_route s m args below meth c D A 5 0 0 (MQ below (va_Qi P (RE D T m0 a A) A) args s 0 0 A) (RW m0 a T r q) 0 0 0 [(0, .ref m0), (1, .int p0), (2, .int p1), (3, .int p2)] [] := by
  have hw : ∀ {w : Cond}, w ∈ W0 → w.before args s = true := fun h => C.2.2.2.2.1 _ (List.mem_cons_of_mem _ h)
  intro p0 p1 p2 r q h
  unfold wp_X11_route at h
  refine g_aload_n C dX11_route_0 rfl 0 rfl ?_
  refine g_aload_n C dX11_route_1 rfl 0 rfl ?_
  refine g_iload_n C dX11_route_2 rfl 1 rfl ?_
  refine gr_callVf C [.int p0] rfl (k_X11_isShipment l D T m0 a p0 r q) (w0_V 1 C.2.2.2.2.1 kw_2116 kw_2118 ks_77 kw_9 kw_2119 rfl rfl (by decide +kernel) ⟨by decide, by decide⟩) rfl (Nat.le_of_ble_eq_true rfl) (Nat.zero_le _) (Nat.zero_le _) dX11_route_3 ?_
  refine g_if_ne (tgt := 13) C dX11_route_6 (by decide) (fun z1 => ?_) (fun z1 => ?_)
  · replace h := h.1 z1
    refine g_iload_n C dX11_route_13 rfl 2 rfl ?_
    refine g_iconst (v := 0) C dX11_route_14 (by decide) ?_
    refine g_sipush (v := 999) C dX11_route_15 (by decide) ?_
    refine gr_callSf C [.int p1, .int 0, .int 999] rfl (k_X11_in l D T m0 a p1 0 999 r q) (w0_S 3 C.2.2.2.2.1 kw_1944 kw_1945 kw_9 kw_1946 rfl rfl (by decide +kernel) ⟨by decide, by decide⟩) rfl (Nat.le_of_ble_eq_true rfl) (Nat.zero_le _) (Nat.zero_le _) dX11_route_18 ?_
    refine g_if_eq (tgt := 35) C dX11_route_21 (by decide) (fun z2 => ?_) (fun z2 => ?_)
    · replace h := h.1 z2
      refine g_iconst (v := 2) C dX11_route_35 (by decide) ?_
      refine g_goto (tgt := 52) C dX11_route_36 (by decide) ?_
      refine g_locals [0, 1, 2, 3] rfl ?_
      refine t_X11_route_52 C hr  P  p0 p1 p2 2 r q h
    · replace h := h.2 z2
      refine g_iload_n C dX11_route_24 rfl 3 rfl ?_
      refine g_iconst (v := 0) C dX11_route_25 (by decide) ?_
      refine g_sipush (v := 999) C dX11_route_26 (by decide) ?_
      refine gr_callSf C [.int p2, .int 0, .int 999] rfl (k_X11_in l D T m0 a p2 0 999 r q) (w0_S 3 C.2.2.2.2.1 kw_1944 kw_1945 kw_9 kw_1946 rfl rfl (by decide +kernel) ⟨by decide, by decide⟩) rfl (Nat.le_of_ble_eq_true rfl) (Nat.zero_le _) (Nat.zero_le _) dX11_route_29 ?_
      refine g_if_ne (tgt := 39) C dX11_route_32 (by decide) (fun z15 => ?_) (fun z15 => ?_)
      · replace h := h.1 z15
        refine g_aload_n C dX11_route_39 rfl 0 rfl ?_
        refine g_iload_n C dX11_route_40 rfl 1 rfl ?_
        obtain ⟨g16, h⟩ := h
        refine gr_callVf C [.int p0] rfl (k_X11_isPosted l D T m0 a p0 r q g16) (w0_V 1 C.2.2.2.2.1 kw_2123 kw_2125 ks_78 kw_9 kw_2126 rfl rfl (by decide +kernel) ⟨by decide, by decide⟩) rfl (Nat.le_of_ble_eq_true rfl) (Nat.zero_le _) (Nat.zero_le _) dX11_route_41 ?_
        refine g_if_eq (tgt := 51) C dX11_route_44 (by decide) (fun z17 => ?_) (fun z17 => ?_)
        · replace h := h.1 z17
          refine g_iconst (v := 0) C dX11_route_51 (by decide) ?_
          refine g_locals [0, 1, 2, 3] rfl ?_
          refine t_X11_route_52 C hr  P  p0 p1 p2 0 r q h
        · replace h := h.2 z17
          refine g_iconst (v := 3) C dX11_route_47 (by decide) ?_
          refine g_goto (tgt := 52) C dX11_route_48 (by decide) ?_
          refine g_locals [0, 1, 2, 3] rfl ?_
          refine t_X11_route_52 C hr  P  p0 p1 p2 3 r q h
      · replace h := h.2 z15
        refine g_iconst (v := 2) C dX11_route_35 (by decide) ?_
        refine g_goto (tgt := 52) C dX11_route_36 (by decide) ?_
        refine g_locals [0, 1, 2, 3] rfl ?_
        refine t_X11_route_52 C hr  P  p0 p1 p2 2 r q h
  · replace h := h.2 z1
    refine g_iconst (v := 1) C dX11_route_9 (by decide) ?_
    refine g_goto (tgt := 52) C dX11_route_10 (by decide) ?_
    refine g_locals [0, 1, 2, 3] rfl ?_
    refine t_X11_route_52 C hr  P  p0 p1 p2 1 r q h
theorem c_X11_route (l : Launch) (D : va_G) (T : Nat → ClassId) (m0 : Nat) (a : Nat → Nat) (p0 : Int32) (p1 : Int32) (p2 : Int32) (r : Nat → Int32) (q : Nat → Nat → Int32) (P : Int32 → RST → Prop) (h : wp_X11_route P p0 p1 p2 r q) : RMi l yX11_route (ws_X11_route) rm_X11_route D T m0 a [.ref m0, .int p0, .int p1, .int p2] r q P := gr_meti (by decide) rfl rfl (Nat.le_of_ble_eq_true rfl) (fun p e s m args below meth c A C hr => t_X11_route C hr P p0 p1 p2 r q h)
theorem w_route52 {P : Int32 → RST → Prop} {r : Nat → Int32} {q : Nat → Nat → Int32} {s p d C : Int32} (hc8 : CW8 r) (hC : (C = 0 ∧ ∃ n, n < 10 ∧ s = nI n) ∨ C = 1 ∨ C = 2 ∨ C = 3) (hP : ∀ v r1 q1, stP r q C (rouF (q 0) (iv s) p d) (q 0 (14 + 26 * iv s)) v r1 q1 → P v (r1, q1)) : wp_X11_route_52 P s p d C r q := by
  unfold wp_X11_route_52
  rcases hC with ⟨rfl, n, hn, rfl⟩ | rfl | rfl | rfl
  · refine code_0 ⟨hc8.u6, fun r6 q7 hh => ?_⟩
    have e70 : q7 0 = q 0 := hh.2.1 0 (by decide)
    have esn : iv (nI n) = n := nI_clamp (by omega)
    rw [esn] at hP
    simp (disch := omega) only [e70, li_2, li_3, li_4, li_5, li_6, li_7, li_8, li_9, li_10, li_12, li_14, li_20, li_26, li_30, li_31, li_36, li_38, li_47, li_48, li_50, li_57, li_58, li_80, li_98, li_99, li_100, li_102, li_104, li_105, li_108, li_109, li_110, li_114, li_115, li_119, li_122, li_137, li_146, li_147, li_148, li_149, li_150, li_200, li_255, li_256, li_274, li_510, li_512, li_640, li_999, li_1000, li_1024, li_3334, li_5000, li_9999, li_10000, li_23338, li_26672, li_30000, li_99999, li_150000, li_300000, pk_mul, nI_add, pk_sub, nI_clamp, nI_1, nI_p1, nI_a0, nI_0a, nI_m0, nI_m1, cl_0, cl_1, z01, z11, nI_leI, nI_ltI, nI_eq, nz_lt0, nz_le, nz_eq0, nz_pos, nz_le0, nz_eq1, nz_lt1, nz_ge1, nz_le1, nz_gt1, nz_vp, nz_vp0, nz_vp1, six_nI, vix_nI, bix_nI, pix_nI, fix_nI, gix_nI, rix_nI, zix_nI, pix_0, pix_1, bix_0, fix_0, fix_1, rix_1, true_and, and_true]
    refine ⟨by omega, fun v10 e10 => ⟨by omega, fun q12 e12 => ⟨by omega, fun q14 e14 => ?_⟩⟩⟩
    subst e10
    have dd : q14 0 = rouF (q 0) n p d := by
      unfold rouF
      rw [e14, va_up_self, e12, va_up_self]
    exact hP _ _ _ (stP.ok rfl hh (by rw [e14, e12]; exact (kQ.rf.up (by decide) _).up (by decide) _) dd rfl)
  all_goals exact code_p (by decide) (hP _ _ _ (stP.bad rfl (by decide)))
theorem k_X11_route (l : Launch) (D : va_G) (T : Nat → ClassId) (m0 : Nat) (a : Nat → Nat) (p0 : Int32) (p1 : Int32) (p2 : Int32) (r : Nat → Int32) (q : Nat → Nat → Int32) (h : WF (q 0) ∧ CW8 r) : RMi l yX11_route (ws_X11_route) rm_X11_route D T m0 a [.ref m0, .int p0, .int p1, .int p2] r q (fun v u => (stP r q (rouC (q 0) p0 p1 p2) (rouF (q 0) (iv p0) p1 p2) (q 0 (14 + 26 * iv p0)) v u.1 u.2)) := c_X11_route l D T m0 a p0 p1 p2 r q _ <|
  (by
    obtain ⟨hw, hc8⟩ := h
    unfold wp_X11_route
    have fin : ∀ C : Int32, ((C = 0 ∧ ∃ n, n < 10 ∧ p0 = nI n) ∨ C = 1 ∨ C = 2 ∨ C = 3) → rouC (q 0) p0 p1 p2 = C → wp_X11_route_52 (fun v u => stP r q (rouC (q 0) p0 p1 p2) (rouF (q 0) (iv p0) p1 p2) (q 0 (14 + 26 * iv p0)) v u.1 u.2) p0 p1 p2 C r q := fun C h1 h2 => w_route52 hc8 h1 (fun v r1 q1 z => by rw [h2]; exact z)
    unfold rouC at fin ⊢
    refine ⟨fun c1 => ⟨fun c => fin 2 (Or.inr (Or.inr (Or.inl rfl))) (by rw [if_neg c1, if_pos c]), fun c2 => ⟨fun c3 => ?_, fun c => fin 2 (Or.inr (Or.inr (Or.inl rfl))) (by rw [if_neg c1, if_neg c2, if_pos c])⟩⟩, fun c1 => fin 1 (Or.inr (Or.inl rfl)) (by rw [if_pos c1])⟩
    obtain ⟨s, n, hs, hn, _, es⟩ := ship_ix hw c1
    refine ⟨⟨s, by omega, es⟩, fun c4 => fin 0 (Or.inl ⟨rfl, s, by omega, es⟩) (by rw [if_neg c1, if_neg c2, if_neg c3, if_neg (by rw [c4]; exact fun z => z rfl)]), fun c4 => fin 3 (Or.inr (Or.inr (Or.inr rfl))) (by rw [if_neg c1, if_neg c2, if_neg c3, if_pos c4])⟩)
abbrev ws_X11_handle : List Cond := Cond.code yX11_handle cX11_handle 4 (some .int) :: W0
abbrev rm_X11_handle : Room := ({ frames := 2, cells := 0, slots := 0, locals := 43 } : Room)
def wp_X11_handle (P : Int32 → RST → Prop) (p0 : Int32) (p1 : Int32) (r : Nat → Int32) (q : Nat → Nat → Int32) : Prop := (¬ (zin p0 0 (q 0 1 - 1)) = 0 → ((¬ (zin p1 0 255) = 0 → ((six p0) ∧ (((psF (q 0) (iv p0)) = 0 → (∀ r5 : Nat → Int32, r5 = va_up r 6 0 → (((r5 6) ≤ 0 → ((CW8 r5) ∧ (∀ (r8 : Nat → Int32) (q9 : Nat → Nat → Int32), (kR r5 r8 [5] ∧ kQ q q9 [3] ∧ psh (q 3) (q9 3) (q 0) (r5 5) (r8 5)) → ((six p0 ∧ pix 2) ∧ (∀ v12 : Int32, v12 = (q9 0 (14 + 26 * iv p0 + iv 2)) → (vp_in ((14 + (26 * p0)) + 2) 3334 ∧ (∀ q14 : Nat → Nat → Int32, q14 = va_up q9 0 (upd (q9 0) (Int32.toNatClampNeg ((14 + (26 * p0)) + 2)) p1) → (P v12 (r8, q14))))))))) ∧ (¬ (r5 6) ≤ 0 → (P 0 (r5, q)))))) ∧ (¬ (psF (q 0) (iv p0)) = 0 → (∀ r15 : Nat → Int32, r15 = va_up r 6 3 → (((r15 6) ≤ 0 → ((CW8 r15) ∧ (∀ (r18 : Nat → Int32) (q19 : Nat → Nat → Int32), (kR r15 r18 [5] ∧ kQ q q19 [3] ∧ psh (q 3) (q19 3) (q 0) (r15 5) (r18 5)) → ((six p0 ∧ pix 2) ∧ (∀ v22 : Int32, v22 = (q19 0 (14 + 26 * iv p0 + iv 2)) → (vp_in ((14 + (26 * p0)) + 2) 3334 ∧ (∀ q24 : Nat → Nat → Int32, q24 = va_up q19 0 (upd (q19 0) (Int32.toNatClampNeg ((14 + (26 * p0)) + 2)) p1) → (P v22 (r18, q24))))))))) ∧ (¬ (r15 6) ≤ 0 → (P 0 (r15, q))))))))) ∧ ((zin p1 0 255) = 0 → (∀ r25 : Nat → Int32, r25 = va_up r 6 2 → (((r25 6) ≤ 0 → ((CW8 r25) ∧ (∀ (r28 : Nat → Int32) (q29 : Nat → Nat → Int32), (kR r25 r28 [5] ∧ kQ q q29 [3] ∧ psh (q 3) (q29 3) (q 0) (r25 5) (r28 5)) → ((six p0 ∧ pix 2) ∧ (∀ v32 : Int32, v32 = (q29 0 (14 + 26 * iv p0 + iv 2)) → (vp_in ((14 + (26 * p0)) + 2) 3334 ∧ (∀ q34 : Nat → Nat → Int32, q34 = va_up q29 0 (upd (q29 0) (Int32.toNatClampNeg ((14 + (26 * p0)) + 2)) p1) → (P v32 (r28, q34))))))))) ∧ (¬ (r25 6) ≤ 0 → (P 0 (r25, q)))))))) ∧ ((zin p0 0 (q 0 1 - 1)) = 0 → (∀ r35 : Nat → Int32, r35 = va_up r 6 1 → (((r35 6) ≤ 0 → ((CW8 r35) ∧ (∀ (r38 : Nat → Int32) (q39 : Nat → Nat → Int32), (kR r35 r38 [5] ∧ kQ q q39 [3] ∧ psh (q 3) (q39 3) (q 0) (r35 5) (r38 5)) → ((six p0 ∧ pix 2) ∧ (∀ v42 : Int32, v42 = (q39 0 (14 + 26 * iv p0 + iv 2)) → (vp_in ((14 + (26 * p0)) + 2) 3334 ∧ (∀ q44 : Nat → Nat → Int32, q44 = va_up q39 0 (upd (q39 0) (Int32.toNatClampNeg ((14 + (26 * p0)) + 2)) p1) → (P v42 (r38, q44))))))))) ∧ (¬ (r35 6) ≤ 0 → (P 0 (r35, q))))))
set_option maxRecDepth 100000 in
set_option maxHeartbeats 4000000 in
theorem t_X11_handle {p : Program} {l : Launch} {e : Env} {s : State} {m : MethodId} {args : Array Value} {below : List Frame} {meth : Method} {c : Code} {D : va_G} {A : Nat → Prop} {T : Nat → ClassId} {m0 : Nat} {a : Nat → Nat} (C : GC p s m args meth c cX11_handle "FreightRaterModel" (ws_X11_handle) 4 D A (zty T)) (hr : meth.sig.returnType = (some .int)) (P : Int32 → RST → Prop) : ∀ (p0 : Int32) (p1 : Int32) (r : Nat → Int32) (q : Nat → Nat → Int32), wp_X11_handle P p0 p1 r q → GW p l e rm_X11_handle s m args below meth c D A 4 0 0 (MQ below (va_Qi P (RE D T m0 a A) A) args s 0 0 A) (RW m0 a T r q) 0 0 0 [(0, .ref m0), (1, .int p0), (2, .int p1)] [] := by
  have hw : ∀ {w : Cond}, w ∈ W0 → w.before args s = true := fun h => C.2.2.2.2.1 _ (List.mem_cons_of_mem _ h)
  intro p0 p1 r q h
  unfold wp_X11_handle at h
  refine g_aload_n C dX11_handle_0 rfl 0 rfl ?_
  refine g_aload_n C dX11_handle_1 rfl 0 rfl ?_
  refine g_iload_n C dX11_handle_2 rfl 1 rfl ?_
  refine gr_callVf C [.int p0] rfl (k_X11_isShipment l D T m0 a p0 r q) (w0_V 1 C.2.2.2.2.1 kw_2116 kw_2118 ks_77 kw_9 kw_2119 rfl rfl (by decide +kernel) ⟨by decide, by decide⟩) rfl (Nat.le_of_ble_eq_true rfl) (Nat.zero_le _) (Nat.zero_le _) dX11_handle_3 ?_
  refine g_if_ne (tgt := 13) C dX11_handle_6 (by decide) (fun z1 => ?_) (fun z1 => ?_)
  · replace h := h.1 z1
    refine g_iload_n C dX11_handle_13 rfl 2 rfl ?_
    refine g_iconst (v := 0) C dX11_handle_14 (by decide) ?_
    refine g_sipush (v := 255) C dX11_handle_15 (by decide) ?_
    refine gr_callSf C [.int p1, .int 0, .int 255] rfl (k_X11_in l D T m0 a p1 0 255 r q) (w0_S 3 C.2.2.2.2.1 kw_1944 kw_1945 kw_9 kw_1946 rfl rfl (by decide +kernel) ⟨by decide, by decide⟩) rfl (Nat.le_of_ble_eq_true rfl) (Nat.zero_le _) (Nat.zero_le _) dX11_handle_18 ?_
    refine g_if_ne (tgt := 28) C dX11_handle_21 (by decide) (fun z2 => ?_) (fun z2 => ?_)
    · replace h := h.1 z2
      refine g_aload_n C dX11_handle_28 rfl 0 rfl ?_
      refine g_iload_n C dX11_handle_29 rfl 1 rfl ?_
      obtain ⟨g3, h⟩ := h
      refine gr_callVf C [.int p0] rfl (k_X11_isPosted l D T m0 a p0 r q g3) (w0_V 1 C.2.2.2.2.1 kw_2123 kw_2125 ks_78 kw_9 kw_2126 rfl rfl (by decide +kernel) ⟨by decide, by decide⟩) rfl (Nat.le_of_ble_eq_true rfl) (Nat.zero_le _) (Nat.zero_le _) dX11_handle_30 ?_
      refine g_if_eq (tgt := 40) C dX11_handle_33 (by decide) (fun z4 => ?_) (fun z4 => ?_)
      · replace h := h.1 z4
        refine g_iconst (v := 0) C dX11_handle_40 (by decide) ?_
        refine gr_put_6 C iwx_X11 (hw kw_1815) dX11_handle_41 ?_
        refine gr_nr (fun r5 er5 => ?_)
        replace h := h r5 er5
        refine g_aload_n C dX11_handle_44 rfl 0 rfl ?_
        refine gr_get C iwx_X11 6 (hw kw_1815) (by decide) rfl rfl dX11_handle_45 ?_
        refine g_if_le (tgt := 53) C dX11_handle_48 (by decide) (fun z6 => ?_) (fun z6 => ?_)
        · replace h := h.1 z6
          refine g_aload_n C dX11_handle_53 rfl 0 rfl ?_
          refine g_aload_n C dX11_handle_54 rfl 0 rfl ?_
          refine gr_get C iwx_X11 0 (hw kw_1809) (by decide) rfl rfl dX11_handle_55 ?_
          obtain ⟨g10, h⟩ := h
          refine gr_callvV C [.ref (a 0)] rfl (k_X11_keepAs_0 l D T m0 a  r5 q g10) (w0_V 1 C.2.2.2.2.1 kw_1958 kw_1960 ks_52 kw_9 kw_1961 rfl rfl (by decide +kernel) ⟨by decide, by decide⟩) rfl (Nat.le_of_ble_eq_true rfl) (Nat.zero_le _) (Nat.zero_le _) dX11_handle_58 (fun r8 q9 hp => ?_)
          replace h := h r8 q9 hp
          refine g_aload_n C dX11_handle_61 rfl 0 rfl ?_
          refine g_iload_n C dX11_handle_62 rfl 1 rfl ?_
          refine g_iconst (v := 2) C dX11_handle_63 (by decide) ?_
          obtain ⟨g11, h⟩ := h
          refine gr_callVf C [.int p0, .int 2] rfl (k_X11_of l D T m0 a p0 2 r8 q9 g11) (w0_V 2 C.2.2.2.2.1 kw_2127 kw_2129 ks_79 kw_9 kw_2130 rfl rfl (by decide +kernel) ⟨by decide, by decide⟩) rfl (Nat.le_of_ble_eq_true rfl) (Nat.zero_le _) (Nat.zero_le _) dX11_handle_64 ?_
          refine g_topi (fun v12 ev12 => ?_)
          replace h := h v12 ev12
          refine g_istore_n (lv' := [(3, .int v12), (0, .ref m0), (1, .int p0), (2, .int p1)]) C dX11_handle_67 rfl (by decide) rfl ?_
          refine g_aload_n C dX11_handle_68 rfl 1 rfl ?_
          refine gr_get C iwx_X11 0 (hw kw_1809) (by decide) rfl rfl dX11_handle_69 ?_
          refine g_bipush (v := 14) C dX11_handle_72 (by decide) ?_
          refine g_bipush (v := 26) C dX11_handle_74 (by decide) ?_
          refine g_iload_n C dX11_handle_76 rfl 2 rfl ?_
          refine g_imul C dX11_handle_77 ?_
          refine g_iadd C dX11_handle_78 ?_
          refine g_iconst (v := 2) C dX11_handle_79 (by decide) ?_
          refine g_iadd C dX11_handle_80 ?_
          refine g_iload_n C dX11_handle_81 rfl 3 rfl ?_
          obtain ⟨g13, h⟩ := h
          refine gr_ast_0 C g13 dX11_handle_82 ?_
          refine gr_nq (fun q14 eq14 => ?_)
          replace h := h q14 eq14
          refine g_iload_n C dX11_handle_83 rfl 0 rfl ?_
          exact gr_iret C hr dX11_handle_84 h
        · replace h := h.2 z6
          refine g_iconst (v := 0) C dX11_handle_51 (by decide) ?_
          exact gr_iret C hr dX11_handle_52 h
      · replace h := h.2 z4
        refine g_iconst (v := 3) C dX11_handle_36 (by decide) ?_
        refine g_goto (tgt := 41) C dX11_handle_37 (by decide) ?_
        refine gr_put_6 C iwx_X11 (hw kw_1815) dX11_handle_41 ?_
        refine gr_nr (fun r15 er15 => ?_)
        replace h := h r15 er15
        refine g_aload_n C dX11_handle_44 rfl 0 rfl ?_
        refine gr_get C iwx_X11 6 (hw kw_1815) (by decide) rfl rfl dX11_handle_45 ?_
        refine g_if_le (tgt := 53) C dX11_handle_48 (by decide) (fun z16 => ?_) (fun z16 => ?_)
        · replace h := h.1 z16
          refine g_aload_n C dX11_handle_53 rfl 0 rfl ?_
          refine g_aload_n C dX11_handle_54 rfl 0 rfl ?_
          refine gr_get C iwx_X11 0 (hw kw_1809) (by decide) rfl rfl dX11_handle_55 ?_
          obtain ⟨g20, h⟩ := h
          refine gr_callvV C [.ref (a 0)] rfl (k_X11_keepAs_0 l D T m0 a  r15 q g20) (w0_V 1 C.2.2.2.2.1 kw_1958 kw_1960 ks_52 kw_9 kw_1961 rfl rfl (by decide +kernel) ⟨by decide, by decide⟩) rfl (Nat.le_of_ble_eq_true rfl) (Nat.zero_le _) (Nat.zero_le _) dX11_handle_58 (fun r18 q19 hp => ?_)
          replace h := h r18 q19 hp
          refine g_aload_n C dX11_handle_61 rfl 0 rfl ?_
          refine g_iload_n C dX11_handle_62 rfl 1 rfl ?_
          refine g_iconst (v := 2) C dX11_handle_63 (by decide) ?_
          obtain ⟨g21, h⟩ := h
          refine gr_callVf C [.int p0, .int 2] rfl (k_X11_of l D T m0 a p0 2 r18 q19 g21) (w0_V 2 C.2.2.2.2.1 kw_2127 kw_2129 ks_79 kw_9 kw_2130 rfl rfl (by decide +kernel) ⟨by decide, by decide⟩) rfl (Nat.le_of_ble_eq_true rfl) (Nat.zero_le _) (Nat.zero_le _) dX11_handle_64 ?_
          refine g_topi (fun v22 ev22 => ?_)
          replace h := h v22 ev22
          refine g_istore_n (lv' := [(3, .int v22), (0, .ref m0), (1, .int p0), (2, .int p1)]) C dX11_handle_67 rfl (by decide) rfl ?_
          refine g_aload_n C dX11_handle_68 rfl 1 rfl ?_
          refine gr_get C iwx_X11 0 (hw kw_1809) (by decide) rfl rfl dX11_handle_69 ?_
          refine g_bipush (v := 14) C dX11_handle_72 (by decide) ?_
          refine g_bipush (v := 26) C dX11_handle_74 (by decide) ?_
          refine g_iload_n C dX11_handle_76 rfl 2 rfl ?_
          refine g_imul C dX11_handle_77 ?_
          refine g_iadd C dX11_handle_78 ?_
          refine g_iconst (v := 2) C dX11_handle_79 (by decide) ?_
          refine g_iadd C dX11_handle_80 ?_
          refine g_iload_n C dX11_handle_81 rfl 3 rfl ?_
          obtain ⟨g23, h⟩ := h
          refine gr_ast_0 C g23 dX11_handle_82 ?_
          refine gr_nq (fun q24 eq24 => ?_)
          replace h := h q24 eq24
          refine g_iload_n C dX11_handle_83 rfl 0 rfl ?_
          exact gr_iret C hr dX11_handle_84 h
        · replace h := h.2 z16
          refine g_iconst (v := 0) C dX11_handle_51 (by decide) ?_
          exact gr_iret C hr dX11_handle_52 h
    · replace h := h.2 z2
      refine g_iconst (v := 2) C dX11_handle_24 (by decide) ?_
      refine g_goto (tgt := 41) C dX11_handle_25 (by decide) ?_
      refine gr_put_6 C iwx_X11 (hw kw_1815) dX11_handle_41 ?_
      refine gr_nr (fun r25 er25 => ?_)
      replace h := h r25 er25
      refine g_aload_n C dX11_handle_44 rfl 0 rfl ?_
      refine gr_get C iwx_X11 6 (hw kw_1815) (by decide) rfl rfl dX11_handle_45 ?_
      refine g_if_le (tgt := 53) C dX11_handle_48 (by decide) (fun z26 => ?_) (fun z26 => ?_)
      · replace h := h.1 z26
        refine g_aload_n C dX11_handle_53 rfl 0 rfl ?_
        refine g_aload_n C dX11_handle_54 rfl 0 rfl ?_
        refine gr_get C iwx_X11 0 (hw kw_1809) (by decide) rfl rfl dX11_handle_55 ?_
        obtain ⟨g30, h⟩ := h
        refine gr_callvV C [.ref (a 0)] rfl (k_X11_keepAs_0 l D T m0 a  r25 q g30) (w0_V 1 C.2.2.2.2.1 kw_1958 kw_1960 ks_52 kw_9 kw_1961 rfl rfl (by decide +kernel) ⟨by decide, by decide⟩) rfl (Nat.le_of_ble_eq_true rfl) (Nat.zero_le _) (Nat.zero_le _) dX11_handle_58 (fun r28 q29 hp => ?_)
        replace h := h r28 q29 hp
        refine g_aload_n C dX11_handle_61 rfl 0 rfl ?_
        refine g_iload_n C dX11_handle_62 rfl 1 rfl ?_
        refine g_iconst (v := 2) C dX11_handle_63 (by decide) ?_
        obtain ⟨g31, h⟩ := h
        refine gr_callVf C [.int p0, .int 2] rfl (k_X11_of l D T m0 a p0 2 r28 q29 g31) (w0_V 2 C.2.2.2.2.1 kw_2127 kw_2129 ks_79 kw_9 kw_2130 rfl rfl (by decide +kernel) ⟨by decide, by decide⟩) rfl (Nat.le_of_ble_eq_true rfl) (Nat.zero_le _) (Nat.zero_le _) dX11_handle_64 ?_
        refine g_topi (fun v32 ev32 => ?_)
        replace h := h v32 ev32
        refine g_istore_n (lv' := [(3, .int v32), (0, .ref m0), (1, .int p0), (2, .int p1)]) C dX11_handle_67 rfl (by decide) rfl ?_
        refine g_aload_n C dX11_handle_68 rfl 1 rfl ?_
        refine gr_get C iwx_X11 0 (hw kw_1809) (by decide) rfl rfl dX11_handle_69 ?_
        refine g_bipush (v := 14) C dX11_handle_72 (by decide) ?_
        refine g_bipush (v := 26) C dX11_handle_74 (by decide) ?_
        refine g_iload_n C dX11_handle_76 rfl 2 rfl ?_
        refine g_imul C dX11_handle_77 ?_
        refine g_iadd C dX11_handle_78 ?_
        refine g_iconst (v := 2) C dX11_handle_79 (by decide) ?_
        refine g_iadd C dX11_handle_80 ?_
        refine g_iload_n C dX11_handle_81 rfl 3 rfl ?_
        obtain ⟨g33, h⟩ := h
        refine gr_ast_0 C g33 dX11_handle_82 ?_
        refine gr_nq (fun q34 eq34 => ?_)
        replace h := h q34 eq34
        refine g_iload_n C dX11_handle_83 rfl 0 rfl ?_
        exact gr_iret C hr dX11_handle_84 h
      · replace h := h.2 z26
        refine g_iconst (v := 0) C dX11_handle_51 (by decide) ?_
        exact gr_iret C hr dX11_handle_52 h
  · replace h := h.2 z1
    refine g_iconst (v := 1) C dX11_handle_9 (by decide) ?_
    refine g_goto (tgt := 41) C dX11_handle_10 (by decide) ?_
    refine gr_put_6 C iwx_X11 (hw kw_1815) dX11_handle_41 ?_
    refine gr_nr (fun r35 er35 => ?_)
    replace h := h r35 er35
    refine g_aload_n C dX11_handle_44 rfl 0 rfl ?_
    refine gr_get C iwx_X11 6 (hw kw_1815) (by decide) rfl rfl dX11_handle_45 ?_
    refine g_if_le (tgt := 53) C dX11_handle_48 (by decide) (fun z36 => ?_) (fun z36 => ?_)
    · replace h := h.1 z36
      refine g_aload_n C dX11_handle_53 rfl 0 rfl ?_
      refine g_aload_n C dX11_handle_54 rfl 0 rfl ?_
      refine gr_get C iwx_X11 0 (hw kw_1809) (by decide) rfl rfl dX11_handle_55 ?_
      obtain ⟨g40, h⟩ := h
      refine gr_callvV C [.ref (a 0)] rfl (k_X11_keepAs_0 l D T m0 a  r35 q g40) (w0_V 1 C.2.2.2.2.1 kw_1958 kw_1960 ks_52 kw_9 kw_1961 rfl rfl (by decide +kernel) ⟨by decide, by decide⟩) rfl (Nat.le_of_ble_eq_true rfl) (Nat.zero_le _) (Nat.zero_le _) dX11_handle_58 (fun r38 q39 hp => ?_)
      replace h := h r38 q39 hp
      refine g_aload_n C dX11_handle_61 rfl 0 rfl ?_
      refine g_iload_n C dX11_handle_62 rfl 1 rfl ?_
      refine g_iconst (v := 2) C dX11_handle_63 (by decide) ?_
      obtain ⟨g41, h⟩ := h
      refine gr_callVf C [.int p0, .int 2] rfl (k_X11_of l D T m0 a p0 2 r38 q39 g41) (w0_V 2 C.2.2.2.2.1 kw_2127 kw_2129 ks_79 kw_9 kw_2130 rfl rfl (by decide +kernel) ⟨by decide, by decide⟩) rfl (Nat.le_of_ble_eq_true rfl) (Nat.zero_le _) (Nat.zero_le _) dX11_handle_64 ?_
      refine g_topi (fun v42 ev42 => ?_)
      replace h := h v42 ev42
      refine g_istore_n (lv' := [(3, .int v42), (0, .ref m0), (1, .int p0), (2, .int p1)]) C dX11_handle_67 rfl (by decide) rfl ?_
      refine g_aload_n C dX11_handle_68 rfl 1 rfl ?_
      refine gr_get C iwx_X11 0 (hw kw_1809) (by decide) rfl rfl dX11_handle_69 ?_
      refine g_bipush (v := 14) C dX11_handle_72 (by decide) ?_
      refine g_bipush (v := 26) C dX11_handle_74 (by decide) ?_
      refine g_iload_n C dX11_handle_76 rfl 2 rfl ?_
      refine g_imul C dX11_handle_77 ?_
      refine g_iadd C dX11_handle_78 ?_
      refine g_iconst (v := 2) C dX11_handle_79 (by decide) ?_
      refine g_iadd C dX11_handle_80 ?_
      refine g_iload_n C dX11_handle_81 rfl 3 rfl ?_
      obtain ⟨g43, h⟩ := h
      refine gr_ast_0 C g43 dX11_handle_82 ?_
      refine gr_nq (fun q44 eq44 => ?_)
      replace h := h q44 eq44
      refine g_iload_n C dX11_handle_83 rfl 0 rfl ?_
      exact gr_iret C hr dX11_handle_84 h
    · replace h := h.2 z36
      refine g_iconst (v := 0) C dX11_handle_51 (by decide) ?_
      exact gr_iret C hr dX11_handle_52 h
theorem c_X11_handle (l : Launch) (D : va_G) (T : Nat → ClassId) (m0 : Nat) (a : Nat → Nat) (p0 : Int32) (p1 : Int32) (r : Nat → Int32) (q : Nat → Nat → Int32) (P : Int32 → RST → Prop) (h : wp_X11_handle P p0 p1 r q) : RMi l yX11_handle (ws_X11_handle) rm_X11_handle D T m0 a [.ref m0, .int p0, .int p1] r q P := gr_meti (by decide) rfl rfl (Nat.le_of_ble_eq_true rfl) (fun p e s m args below meth c A C hr => t_X11_handle C hr P p0 p1 r q h)
theorem k_X11_handle (l : Launch) (D : va_G) (T : Nat → ClassId) (m0 : Nat) (a : Nat → Nat) (p0 : Int32) (p1 : Int32) (r : Nat → Int32) (q : Nat → Nat → Int32) (h : WF (q 0) ∧ CW8 r) : RMi l yX11_handle (ws_X11_handle) rm_X11_handle D T m0 a [.ref m0, .int p0, .int p1] r q (fun v u => (stP r q (hanC (q 0) p0 p1) (upd (q 0) (14 + 26 * iv p0 + 2) p1) (q 0 (14 + 26 * iv p0 + 2)) v u.1 u.2)) := c_X11_handle l D T m0 a p0 p1 r q _ <|
  (by
    obtain ⟨hw, hc8⟩ := h
    unfold wp_X11_handle
    refine ⟨fun c1 => ⟨fun c2 => ?_, fun c => code_p (by decide) (stP.bad (c := 2) (by unfold hanC; rw [if_neg c1, if_pos c]) (by decide))⟩, fun c => code_p (by decide) (stP.bad (c := 1) (by unfold hanC; rw [if_pos c]) (by decide))⟩
    obtain ⟨s, n, hs, hn, _, es⟩ := ship_ix hw c1
    refine ⟨⟨s, by omega, es⟩, fun c3 => code_0 ?_, fun c3 => code_p (by decide) (stP.bad (c := 3) (by unfold hanC; rw [if_neg c1, if_neg c2, if_pos c3]) (by decide))⟩
    refine ⟨hc8.u6, fun r6 q7 hh => ?_⟩
    have e70 : q7 0 = q 0 := hh.2.1 0 (by decide)
    have esn : iv p0 = s := by rw [es]; exact nI_clamp (by omega)
    have e0 : hanC (q 0) p0 p1 = 0 := by unfold hanC; rw [if_neg c1, if_neg c2, if_neg (by rw [c3]; exact fun z => z rfl)]
    rw [e70]
    refine ⟨⟨⟨s, by omega, es⟩, by simp (disch := omega) only [li_2, li_3, li_4, li_5, li_6, li_7, li_8, li_9, li_10, li_12, li_14, li_20, li_26, li_30, li_31, li_36, li_38, li_47, li_48, li_50, li_57, li_58, li_80, li_98, li_99, li_100, li_102, li_104, li_105, li_108, li_109, li_110, li_114, li_115, li_119, li_122, li_137, li_146, li_147, li_148, li_149, li_150, li_200, li_255, li_256, li_274, li_510, li_512, li_640, li_999, li_1000, li_1024, li_3334, li_5000, li_9999, li_10000, li_23338, li_26672, li_30000, li_99999, li_150000, li_300000, pk_mul, nI_add, pk_sub, nI_clamp, nI_1, nI_p1, nI_a0, nI_0a, nI_m0, nI_m1, cl_0, cl_1, z01, z11, nI_leI, nI_ltI, nI_eq, nz_lt0, nz_le, nz_eq0, nz_pos, nz_le0, nz_eq1, nz_lt1, nz_ge1, nz_le1, nz_gt1, nz_vp, nz_vp0, nz_vp1, six_nI, vix_nI, bix_nI, pix_nI, fix_nI, gix_nI, rix_nI, zix_nI, pix_0, pix_1, bix_0, fix_0, fix_1, rix_1, true_and, and_true]; omega⟩, fun v12 e12 => ⟨by rw [es]; simp (disch := omega) only [li_2, li_3, li_4, li_5, li_6, li_7, li_8, li_9, li_10, li_12, li_14, li_20, li_26, li_30, li_31, li_36, li_38, li_47, li_48, li_50, li_57, li_58, li_80, li_98, li_99, li_100, li_102, li_104, li_105, li_108, li_109, li_110, li_114, li_115, li_119, li_122, li_137, li_146, li_147, li_148, li_149, li_150, li_200, li_255, li_256, li_274, li_510, li_512, li_640, li_999, li_1000, li_1024, li_3334, li_5000, li_9999, li_10000, li_23338, li_26672, li_30000, li_99999, li_150000, li_300000, pk_mul, nI_add, pk_sub, nI_clamp, nI_1, nI_p1, nI_a0, nI_0a, nI_m0, nI_m1, cl_0, cl_1, z01, z11, nI_leI, nI_ltI, nI_eq, nz_lt0, nz_le, nz_eq0, nz_pos, nz_le0, nz_eq1, nz_lt1, nz_ge1, nz_le1, nz_gt1, nz_vp, nz_vp0, nz_vp1, six_nI, vix_nI, bix_nI, pix_nI, fix_nI, gix_nI, rix_nI, zix_nI, pix_0, pix_1, bix_0, fix_0, fix_1, rix_1, true_and, and_true]; omega, fun q14 e14 => ?_⟩⟩
    refine stP.ok e0 hh (by rw [e14]; exact kQ.rf.up (by decide) _) ?_ e12
    dsimp only
    rw [e14, va_up_self, esn, es]
    simp (disch := omega) only [li_2, li_3, li_4, li_5, li_6, li_7, li_8, li_9, li_10, li_12, li_14, li_20, li_26, li_30, li_31, li_36, li_38, li_47, li_48, li_50, li_57, li_58, li_80, li_98, li_99, li_100, li_102, li_104, li_105, li_108, li_109, li_110, li_114, li_115, li_119, li_122, li_137, li_146, li_147, li_148, li_149, li_150, li_200, li_255, li_256, li_274, li_510, li_512, li_640, li_999, li_1000, li_1024, li_3334, li_5000, li_9999, li_10000, li_23338, li_26672, li_30000, li_99999, li_150000, li_300000, pk_mul, nI_add, pk_sub, nI_clamp, nI_1, nI_p1, nI_a0, nI_0a, nI_m0, nI_m1, cl_0, cl_1, z01, z11])
abbrev ws_X11_undo : List Cond := Cond.code yX11_undo cX11_undo 2 (some .int) :: W0
abbrev rm_X11_undo : Room := ({ frames := 1, cells := 0, slots := 0, locals := 21 } : Room)
def wb_X11_undo_30 (rec : Int32 → (Nat → Int32) → (Nat → Nat → Int32) → Prop) (P : Int32 → RST → Prop) (x1 : Int32) (r : Nat → Int32) (q : Nat → Nat → Int32) : Prop := (3334 ≤ x1 → (P (r 5) (r, q))) ∧ (¬ 3334 ≤ x1 → (vp_in ((3334 * (r 5)) + x1) 26672 ∧ (vp_in x1 3334 ∧ (∀ q7 : Nat → Nat → Int32, q7 = va_up q 0 (upd (q 0) (Int32.toNatClampNeg x1) (q 3 (Int32.toNatClampNeg ((3334 * (r 5)) + x1)))) → (∀ v8 : Int32, v8 = x1 + 1 → (rec v8 r q7))))))
def wp_X11_undo_30 (P : Int32 → RST → Prop) : Nat → Int32 → (Nat → Int32) → (Nat → Nat → Int32) → Prop
  | 0 => fun _ _ _ => False
  | n + 1 => fun x1 r q => wb_X11_undo_30 (wp_X11_undo_30  P n)  P x1 r q
set_option maxRecDepth 100000 in
set_option maxHeartbeats 4000000 in
theorem t_X11_undo_30 {p : Program} {l : Launch} {e : Env} {s : State} {m : MethodId} {args : Array Value} {below : List Frame} {meth : Method} {c : Code} {D : va_G} {A : Nat → Prop} {T : Nat → ClassId} {m0 : Nat} {a : Nat → Nat} (C : GC p s m args meth c cX11_undo "FreightRaterModel" (ws_X11_undo) 2 D A (zty T)) (hr : meth.sig.returnType = (some .int)) (P : Int32 → RST → Prop) : ∀ (n : Nat) (x1 : Int32) (r : Nat → Int32) (q : Nat → Nat → Int32), wp_X11_undo_30  P n x1 r q → GW p l e rm_X11_undo s m args below meth c D A 2 0 0 (MQ below (va_Qi P (RE D T m0 a A) A) args s 0 0 A) (RW m0 a T r q) 0 0 30 [(0, .ref m0), (1, .int x1)] [] := by
  have hw : ∀ {w : Cond}, w ∈ W0 → w.before args s = true := fun h => C.2.2.2.2.1 _ (List.mem_cons_of_mem _ h)
  intro n
  induction n with
  | zero => intro x1 r q h; exact h.elim
  | succ n ih =>
    intro x1 r q h
    replace h : wb_X11_undo_30 (wp_X11_undo_30  P n)  P x1 r q := h
    unfold wb_X11_undo_30 at h
    refine g_iload_n C dX11_undo_30 rfl 1 rfl ?_
    refine g_sipush (v := 3334) C dX11_undo_31 (by decide) ?_
    refine g_icmp_ge (tgt := 64) C dX11_undo_34 (by decide) (fun z4 => ?_) (fun z4 => ?_)
    · replace h := h.1 z4
      refine g_aload_n C dX11_undo_64 rfl 0 rfl ?_
      refine gr_get C iwx_X11 5 (hw kw_1814) (by decide) rfl rfl dX11_undo_65 ?_
      exact gr_iret C hr dX11_undo_68 h
    · replace h := h.2 z4
      refine g_aload_n C dX11_undo_37 rfl 0 rfl ?_
      refine gr_get C iwx_X11 0 (hw kw_1809) (by decide) rfl rfl dX11_undo_38 ?_
      refine g_iload_n C dX11_undo_41 rfl 1 rfl ?_
      refine g_aload_n C dX11_undo_42 rfl 0 rfl ?_
      refine gr_get C iwx_X11 4 (hw kw_1813) (by decide) rfl rfl dX11_undo_43 ?_
      refine g_sipush (v := 3334) C dX11_undo_46 (by decide) ?_
      refine g_aload_n C dX11_undo_49 rfl 0 rfl ?_
      refine gr_get C iwx_X11 5 (hw kw_1814) (by decide) rfl rfl dX11_undo_50 ?_
      refine g_imul C dX11_undo_53 ?_
      refine g_iload_n C dX11_undo_54 rfl 1 rfl ?_
      refine g_iadd C dX11_undo_55 ?_
      obtain ⟨g5, h⟩ := h
      refine gr_ald_3 C g5 dX11_undo_56 ?_
      obtain ⟨g6, h⟩ := h
      refine gr_ast_0 C g6 dX11_undo_57 ?_
      refine gr_nq (fun q7 eq7 => ?_)
      replace h := h q7 eq7
      obtain ⟨v8, ev8⟩ : ∃ y : Int32, y = x1 + 1 := ⟨_, rfl⟩
      replace h := h v8 ev8
      refine g_iinc (v := v8) (lv' := [(1, .int v8), (0, .ref m0)]) C dX11_undo_58 (j := 1) rfl (by rw [ev8]; rfl) (by decide) rfl ?_
      refine g_goto (tgt := 30) C dX11_undo_61 (by decide) ?_
      refine g_locals [1, 0] rfl ?_
      exact ih v8 r q7 h
def wp_X11_undo (P : Int32 → RST → Prop)  (r : Nat → Int32) (q : Nat → Nat → Int32) : Prop := ∀ r1 : Nat → Int32, r1 = va_up r 6 0 → ((¬ (r1 5) = 0 → (∀ r3 : Nat → Int32, r3 = va_up r1 5 ((r1 5) - 1) → (∃ k9 : Nat, wp_X11_undo_30  P k9 0 r3 q))) ∧ ((r1 5) = 0 → (∀ (v10 : Int32) (r11 : Nat → Int32) (q12 : Nat → Nat → Int32), (v10 = 0 ∧ r11 = va_up r1 6 1 ∧ q12 = q) → (P v10 (r11, q12)))))
set_option maxRecDepth 100000 in
set_option maxHeartbeats 4000000 in
theorem t_X11_undo {p : Program} {l : Launch} {e : Env} {s : State} {m : MethodId} {args : Array Value} {below : List Frame} {meth : Method} {c : Code} {D : va_G} {A : Nat → Prop} {T : Nat → ClassId} {m0 : Nat} {a : Nat → Nat} (C : GC p s m args meth c cX11_undo "FreightRaterModel" (ws_X11_undo) 2 D A (zty T)) (hr : meth.sig.returnType = (some .int)) (P : Int32 → RST → Prop) : ∀  (r : Nat → Int32) (q : Nat → Nat → Int32), wp_X11_undo P  r q → GW p l e rm_X11_undo s m args below meth c D A 2 0 0 (MQ below (va_Qi P (RE D T m0 a A) A) args s 0 0 A) (RW m0 a T r q) 0 0 0 [(0, .ref m0)] [] := by
  have hw : ∀ {w : Cond}, w ∈ W0 → w.before args s = true := fun h => C.2.2.2.2.1 _ (List.mem_cons_of_mem _ h)
  intro  r q h
  unfold wp_X11_undo at h
  refine g_aload_n C dX11_undo_0 rfl 0 rfl ?_
  refine g_iconst (v := 0) C dX11_undo_1 (by decide) ?_
  refine gr_put_6 C iwx_X11 (hw kw_1815) dX11_undo_2 ?_
  refine gr_nr (fun r1 er1 => ?_)
  replace h := h r1 er1
  refine g_aload_n C dX11_undo_5 rfl 0 rfl ?_
  refine gr_get C iwx_X11 5 (hw kw_1814) (by decide) rfl rfl dX11_undo_6 ?_
  refine g_if_ne (tgt := 18) C dX11_undo_9 (by decide) (fun z2 => ?_) (fun z2 => ?_)
  · replace h := h.1 z2
    refine g_aload_n C dX11_undo_18 rfl 0 rfl ?_
    refine g_dup C dX11_undo_19 rfl ?_
    refine gr_get C iwx_X11 5 (hw kw_1814) (by decide) rfl rfl dX11_undo_20 ?_
    refine g_iconst (v := 1) C dX11_undo_23 (by decide) ?_
    refine g_isub C dX11_undo_24 ?_
    refine gr_put_5 C iwx_X11 (hw kw_1814) dX11_undo_25 ?_
    refine gr_nr (fun r3 er3 => ?_)
    replace h := h r3 er3
    refine g_iconst (v := 0) C dX11_undo_28 (by decide) ?_
    refine g_istore_n (lv' := [(1, .int 0), (0, .ref m0)]) C dX11_undo_29 rfl (by decide) rfl ?_
    refine g_locals [1, 0] rfl ?_
    obtain ⟨k9, h⟩ := h
    refine t_X11_undo_30 C hr  P  k9 0 r3 q h
  · replace h := h.2 z2
    refine g_aload_n C dX11_undo_12 rfl 0 rfl ?_
    refine g_iconst (v := 1) C dX11_undo_13 (by decide) ?_
    refine gr_calliV C [.int 1] rfl (k_X11_refuse l D T m0 a 1 r1 q) (w0_V 1 C.2.2.2.2.1 kw_1950 kw_1952 ks_50 kw_9 kw_1953 rfl rfl (by decide +kernel) ⟨by decide, by decide⟩) rfl (Nat.le_of_ble_eq_true rfl) (Nat.zero_le _) (Nat.zero_le _) dX11_undo_14 (fun v10 r11 q12 hp => ?_)
    replace h := h v10 r11 q12 hp
    exact gr_iret C hr dX11_undo_17 h
theorem c_X11_undo (l : Launch) (D : va_G) (T : Nat → ClassId) (m0 : Nat) (a : Nat → Nat)  (r : Nat → Int32) (q : Nat → Nat → Int32) (P : Int32 → RST → Prop) (h : wp_X11_undo P  r q) : RMi l yX11_undo (ws_X11_undo) rm_X11_undo D T m0 a [.ref m0] r q P := gr_meti (by decide) rfl rfl (Nat.le_of_ble_eq_true rfl) (fun p e s m args below meth c A C hr => t_X11_undo C hr P  r q h)
theorem rl_undo {P : Int32 → RST → Prop} {r : Nat → Int32} {q : Nat → Nat → Int32} {c : Nat} (hc : c < 8) (h5 : r 5 = nI c) (hP : ∀ q1, kQ q q1 [0] → (∀ k, k < 3334 → q1 0 k = q 3 (3334 * c + k)) → P (nI c) (r, q1)) : ∀ (k x fuel : Nat) (q' : Nat → Nat → Int32), x + k = 3334 → k < fuel → kQ q q' [0] → (∀ j, j < x → q' 0 j = q 3 (3334 * c + j)) → wp_X11_undo_30 P fuel (nI x) r q' := by
  intro k
  induction k with
  | zero =>
    intro x fuel q' hx hf hq h1
    obtain ⟨f, rfl⟩ : ∃ f, fuel = f + 1 := ⟨fuel - 1, by omega⟩; rw [wp_X11_undo_30]; unfold wb_X11_undo_30; dsimp only
    simp (disch := omega) only [h5, li_2, li_3, li_4, li_5, li_6, li_7, li_8, li_9, li_10, li_12, li_14, li_20, li_26, li_30, li_31, li_36, li_38, li_47, li_48, li_50, li_57, li_58, li_80, li_98, li_99, li_100, li_102, li_104, li_105, li_108, li_109, li_110, li_114, li_115, li_119, li_122, li_137, li_146, li_147, li_148, li_149, li_150, li_200, li_255, li_256, li_274, li_510, li_512, li_640, li_999, li_1000, li_1024, li_3334, li_5000, li_9999, li_10000, li_23338, li_26672, li_30000, li_99999, li_150000, li_300000, pk_mul, nI_add, pk_sub, nI_clamp, nI_1, nI_p1, nI_a0, nI_0a, nI_m0, nI_m1, cl_0, cl_1, z01, z11, nI_leI, nI_ltI, nI_eq, nz_lt0, nz_le, nz_eq0, nz_pos, nz_le0, nz_eq1, nz_lt1, nz_ge1, nz_le1, nz_gt1, nz_vp, nz_vp0, nz_vp1, six_nI, vix_nI, bix_nI, pix_nI, fix_nI, gix_nI, rix_nI, zix_nI, pix_0, pix_1, bix_0, fix_0, fix_1, rix_1, true_and, and_true]
    exact ⟨fun _ => hP q' hq (fun k hk => h1 k (by omega)), fun h => absurd (by omega) h⟩
  | succ k ih =>
    intro x fuel q' hx hf hq h1
    obtain ⟨f, rfl⟩ : ∃ f, fuel = f + 1 := ⟨fuel - 1, by omega⟩; rw [wp_X11_undo_30]; unfold wb_X11_undo_30; dsimp only
    simp (disch := omega) only [h5, li_2, li_3, li_4, li_5, li_6, li_7, li_8, li_9, li_10, li_12, li_14, li_20, li_26, li_30, li_31, li_36, li_38, li_47, li_48, li_50, li_57, li_58, li_80, li_98, li_99, li_100, li_102, li_104, li_105, li_108, li_109, li_110, li_114, li_115, li_119, li_122, li_137, li_146, li_147, li_148, li_149, li_150, li_200, li_255, li_256, li_274, li_510, li_512, li_640, li_999, li_1000, li_1024, li_3334, li_5000, li_9999, li_10000, li_23338, li_26672, li_30000, li_99999, li_150000, li_300000, pk_mul, nI_add, pk_sub, nI_clamp, nI_1, nI_p1, nI_a0, nI_0a, nI_m0, nI_m1, cl_0, cl_1, z01, z11, nI_leI, nI_ltI, nI_eq, nz_lt0, nz_le, nz_eq0, nz_pos, nz_le0, nz_eq1, nz_lt1, nz_ge1, nz_le1, nz_gt1, nz_vp, nz_vp0, nz_vp1, six_nI, vix_nI, bix_nI, pix_nI, fix_nI, gix_nI, rix_nI, zix_nI, pix_0, pix_1, bix_0, fix_0, fix_1, rix_1, true_and, and_true]
    refine ⟨fun h => absurd h (by omega), fun _ => ⟨by omega, by omega, fun q7 e7 v8 e8 => ?_⟩⟩
    subst e8
    refine ih (x + 1) f q7 (by omega) (by omega) (by rw [e7]; exact hq.up (by decide) _) (fun j hj => ?_)
    rw [e7, va_up_self]
    by_cases e : j = x
    · subst e; rw [pk_us, hq 3 (by decide)]
    · rw [pk_un e]; exact h1 j (by omega)
theorem k_X11_undo (l : Launch) (D : va_G) (T : Nat → ClassId) (m0 : Nat) (a : Nat → Nat)  (r : Nat → Int32) (q : Nat → Nat → Int32) (h : CW8 r) : RMi l yX11_undo (ws_X11_undo) rm_X11_undo D T m0 a [.ref m0] r q (fun v u => (kR r u.1 (5 :: SC) ∧ kQ q u.2 [0] ∧ u.1 6 = (if r 5 = 0 then 1 else 0) ∧ (r 5 = 0 → u.1 5 = r 5 ∧ u.2 = q) ∧ (¬ r 5 = 0 → u.1 5 = r 5 - 1 ∧ (∀ k, k < 3334 → u.2 0 k = q 3 (3334 * (iv (r 5) - 1) + k)) ∧ v = r 5 - 1))) := c_X11_undo l D T m0 a  r q _ <|
  (by
    obtain ⟨n, hn, e5⟩ := h
    unfold wp_X11_undo
    intro r1 e1
    have e15 : r1 5 = r 5 := by rw [e1, va_up_ne _ _ (by decide)]
    have k1 : kR r r1 (5 :: SC) := by rw [e1]; exact kR.rf.up (by decide) _
    rw [e15]
    refine ⟨fun c r3 e3 => ?_, fun c v10 r11 q12 hh => ?_⟩
    · have hn0 : 0 < n := Nat.pos_of_ne_zero (fun z => c (by rw [e5, z]; rfl))
      have e35 : r3 5 = nI (n - 1) := by rw [e3, va_up_self, e5, nI_p1 (by omega)]
      have en : iv (r 5) = n := by rw [e5]; exact nI_clamp (by omega)
      have k3 : kR r r3 (5 :: SC) := by rw [e3]; exact k1.up (by decide) _
      have e36 : r3 6 = 0 := by rw [e3, va_up_ne _ _ (by decide), e1, va_up_self]
      rw [if_neg c]
      refine ⟨3335, rl_undo (c := n - 1) (by omega) e35 (fun q1 a1 a2 => ⟨k3, a1, e36, fun z => absurd z c, fun _ => ⟨?_, ?_, ?_⟩⟩) 3334 0 _ q (by omega) (by omega) kQ.rf (fun j hj => absurd hj (by omega))⟩
      · dsimp only; rw [e35, e5, nI_p1 (by omega)]
      · rw [en]; exact a2
      · rw [e5, nI_p1 (by omega)]
    · obtain ⟨a1, a2, a3⟩ := hh
      subst a3
      rw [if_pos c]
      exact ⟨by rw [a2]; exact k1.up (by decide) _, kQ.rf, by dsimp only; rw [a2, va_up_self], fun _ => ⟨by dsimp only; rw [a2, va_up_ne _ _ (by decide), e15], rfl⟩, fun z => absurd c z⟩)
abbrev ws_X11_saveSnapshot : List Cond := Cond.code yX11_saveSnapshot cX11_saveSnapshot 2 (some .int) :: W0
abbrev rm_X11_saveSnapshot : Room := ({ frames := 0, cells := 0, slots := 0, locals := 0 } : Room)
def wb_X11_saveSnapshot_7 (rec : Int32 → (Nat → Int32) → (Nat → Nat → Int32) → Prop) (P : Int32 → RST → Prop) (x1 : Int32) (r : Nat → Int32) (q : Nat → Nat → Int32) : Prop := (3334 ≤ x1 → (∀ r3 : Nat → Int32, r3 = va_up r 3 1 → (vp_in 1 3334 ∧ (P (q 0 (Int32.toNatClampNeg 1)) (r3, q))))) ∧ (¬ 3334 ≤ x1 → (vp_in x1 3334 ∧ (vp_in x1 3334 ∧ (∀ q7 : Nat → Nat → Int32, q7 = va_up q 1 (upd (q 1) (Int32.toNatClampNeg x1) (q 0 (Int32.toNatClampNeg x1))) → (∀ v8 : Int32, v8 = x1 + 1 → (rec v8 r q7))))))
def wp_X11_saveSnapshot_7 (P : Int32 → RST → Prop) : Nat → Int32 → (Nat → Int32) → (Nat → Nat → Int32) → Prop
  | 0 => fun _ _ _ => False
  | n + 1 => fun x1 r q => wb_X11_saveSnapshot_7 (wp_X11_saveSnapshot_7  P n)  P x1 r q
set_option maxRecDepth 100000 in
set_option maxHeartbeats 4000000 in
theorem t_X11_saveSnapshot_7 {p : Program} {l : Launch} {e : Env} {s : State} {m : MethodId} {args : Array Value} {below : List Frame} {meth : Method} {c : Code} {D : va_G} {A : Nat → Prop} {T : Nat → ClassId} {m0 : Nat} {a : Nat → Nat} (C : GC p s m args meth c cX11_saveSnapshot "FreightRaterModel" (ws_X11_saveSnapshot) 2 D A (zty T)) (hr : meth.sig.returnType = (some .int)) (P : Int32 → RST → Prop) : ∀ (n : Nat) (x1 : Int32) (r : Nat → Int32) (q : Nat → Nat → Int32), wp_X11_saveSnapshot_7  P n x1 r q → GW p l e rm_X11_saveSnapshot s m args below meth c D A 2 0 0 (MQ below (va_Qi P (RE D T m0 a A) A) args s 0 0 A) (RW m0 a T r q) 0 0 7 [(0, .ref m0), (1, .int x1)] [] := by
  have hw : ∀ {w : Cond}, w ∈ W0 → w.before args s = true := fun h => C.2.2.2.2.1 _ (List.mem_cons_of_mem _ h)
  intro n
  induction n with
  | zero => intro x1 r q h; exact h.elim
  | succ n ih =>
    intro x1 r q h
    replace h : wb_X11_saveSnapshot_7 (wp_X11_saveSnapshot_7  P n)  P x1 r q := h
    unfold wb_X11_saveSnapshot_7 at h
    refine g_iload_n C dX11_saveSnapshot_7 rfl 1 rfl ?_
    refine g_sipush (v := 3334) C dX11_saveSnapshot_8 (by decide) ?_
    refine g_icmp_ge (tgt := 32) C dX11_saveSnapshot_11 (by decide) (fun z2 => ?_) (fun z2 => ?_)
    · replace h := h.1 z2
      refine g_aload_n C dX11_saveSnapshot_32 rfl 0 rfl ?_
      refine g_iconst (v := 1) C dX11_saveSnapshot_33 (by decide) ?_
      refine gr_put_3 C iwx_X11 vz1 (hw kw_1812) dX11_saveSnapshot_34 ?_
      refine gr_nr (fun r3 er3 => ?_)
      replace h := h r3 er3
      refine g_aload_n C dX11_saveSnapshot_37 rfl 0 rfl ?_
      refine gr_get C iwx_X11 0 (hw kw_1809) (by decide) rfl rfl dX11_saveSnapshot_38 ?_
      refine g_iconst (v := 1) C dX11_saveSnapshot_41 (by decide) ?_
      obtain ⟨g4, h⟩ := h
      refine gr_ald_0 C g4 dX11_saveSnapshot_42 ?_
      exact gr_iret C hr dX11_saveSnapshot_43 h
    · replace h := h.2 z2
      refine g_aload_n C dX11_saveSnapshot_14 rfl 0 rfl ?_
      refine gr_get C iwx_X11 1 (hw kw_1810) (by decide) rfl rfl dX11_saveSnapshot_15 ?_
      refine g_iload_n C dX11_saveSnapshot_18 rfl 1 rfl ?_
      refine g_aload_n C dX11_saveSnapshot_19 rfl 0 rfl ?_
      refine gr_get C iwx_X11 0 (hw kw_1809) (by decide) rfl rfl dX11_saveSnapshot_20 ?_
      refine g_iload_n C dX11_saveSnapshot_23 rfl 1 rfl ?_
      obtain ⟨g5, h⟩ := h
      refine gr_ald_0 C g5 dX11_saveSnapshot_24 ?_
      obtain ⟨g6, h⟩ := h
      refine gr_ast_1 C g6 dX11_saveSnapshot_25 ?_
      refine gr_nq (fun q7 eq7 => ?_)
      replace h := h q7 eq7
      obtain ⟨v8, ev8⟩ : ∃ y : Int32, y = x1 + 1 := ⟨_, rfl⟩
      replace h := h v8 ev8
      refine g_iinc (v := v8) (lv' := [(1, .int v8), (0, .ref m0)]) C dX11_saveSnapshot_26 (j := 1) rfl (by rw [ev8]; rfl) (by decide) rfl ?_
      refine g_goto (tgt := 7) C dX11_saveSnapshot_29 (by decide) ?_
      refine g_locals [1, 0] rfl ?_
      exact ih v8 r q7 h
def wp_X11_saveSnapshot (P : Int32 → RST → Prop)  (r : Nat → Int32) (q : Nat → Nat → Int32) : Prop := ∀ r1 : Nat → Int32, r1 = va_up r 6 0 → (∃ k9 : Nat, wp_X11_saveSnapshot_7  P k9 0 r1 q)
set_option maxRecDepth 100000 in
set_option maxHeartbeats 4000000 in
theorem t_X11_saveSnapshot {p : Program} {l : Launch} {e : Env} {s : State} {m : MethodId} {args : Array Value} {below : List Frame} {meth : Method} {c : Code} {D : va_G} {A : Nat → Prop} {T : Nat → ClassId} {m0 : Nat} {a : Nat → Nat} (C : GC p s m args meth c cX11_saveSnapshot "FreightRaterModel" (ws_X11_saveSnapshot) 2 D A (zty T)) (hr : meth.sig.returnType = (some .int)) (P : Int32 → RST → Prop) : ∀  (r : Nat → Int32) (q : Nat → Nat → Int32), wp_X11_saveSnapshot P  r q → GW p l e rm_X11_saveSnapshot s m args below meth c D A 2 0 0 (MQ below (va_Qi P (RE D T m0 a A) A) args s 0 0 A) (RW m0 a T r q) 0 0 0 [(0, .ref m0)] [] := by
  have hw : ∀ {w : Cond}, w ∈ W0 → w.before args s = true := fun h => C.2.2.2.2.1 _ (List.mem_cons_of_mem _ h)
  intro  r q h
  unfold wp_X11_saveSnapshot at h
  refine g_aload_n C dX11_saveSnapshot_0 rfl 0 rfl ?_
  refine g_iconst (v := 0) C dX11_saveSnapshot_1 (by decide) ?_
  refine gr_put_6 C iwx_X11 (hw kw_1815) dX11_saveSnapshot_2 ?_
  refine gr_nr (fun r1 er1 => ?_)
  replace h := h r1 er1
  refine g_iconst (v := 0) C dX11_saveSnapshot_5 (by decide) ?_
  refine g_istore_n (lv' := [(1, .int 0), (0, .ref m0)]) C dX11_saveSnapshot_6 rfl (by decide) rfl ?_
  refine g_locals [1, 0] rfl ?_
  obtain ⟨k9, h⟩ := h
  refine t_X11_saveSnapshot_7 C hr  P  k9 0 r1 q h
theorem c_X11_saveSnapshot (l : Launch) (D : va_G) (T : Nat → ClassId) (m0 : Nat) (a : Nat → Nat)  (r : Nat → Int32) (q : Nat → Nat → Int32) (P : Int32 → RST → Prop) (h : wp_X11_saveSnapshot P  r q) : RMi l yX11_saveSnapshot (ws_X11_saveSnapshot) rm_X11_saveSnapshot D T m0 a [.ref m0] r q P := gr_meti (by decide) rfl rfl (Nat.le_of_ble_eq_true rfl) (fun p e s m args below meth c A C hr => t_X11_saveSnapshot C hr P  r q h)
theorem rl_save {P : Int32 → RST → Prop} {r : Nat → Int32} {q : Nat → Nat → Int32} (hP : ∀ q1, kQ q q1 [1] → (∀ k, k < 3334 → q1 1 k = q 0 k) → P (q 0 1) (va_up r 3 1, q1)) : ∀ (k x fuel : Nat) (q' : Nat → Nat → Int32), x + k = 3334 → k < fuel → kQ q q' [1] → (∀ j, j < x → q' 1 j = q 0 j) → wp_X11_saveSnapshot_7 P fuel (nI x) r q' := by
  intro k
  induction k with
  | zero =>
    intro x fuel q' hx hf hq h1
    obtain ⟨f, rfl⟩ : ∃ f, fuel = f + 1 := ⟨fuel - 1, by omega⟩; rw [wp_X11_saveSnapshot_7]; unfold wb_X11_saveSnapshot_7; dsimp only
    simp (disch := omega) only [li_2, li_3, li_4, li_5, li_6, li_7, li_8, li_9, li_10, li_12, li_14, li_20, li_26, li_30, li_31, li_36, li_38, li_47, li_48, li_50, li_57, li_58, li_80, li_98, li_99, li_100, li_102, li_104, li_105, li_108, li_109, li_110, li_114, li_115, li_119, li_122, li_137, li_146, li_147, li_148, li_149, li_150, li_200, li_255, li_256, li_274, li_510, li_512, li_640, li_999, li_1000, li_1024, li_3334, li_5000, li_9999, li_10000, li_23338, li_26672, li_30000, li_99999, li_150000, li_300000, pk_mul, nI_add, pk_sub, nI_clamp, nI_1, nI_p1, nI_a0, nI_0a, nI_m0, nI_m1, cl_0, cl_1, z01, z11, nI_leI, nI_ltI, nI_eq, nz_lt0, nz_le, nz_eq0, nz_pos, nz_le0, nz_eq1, nz_lt1, nz_ge1, nz_le1, nz_gt1, nz_vp, nz_vp0, nz_vp1, six_nI, vix_nI, bix_nI, pix_nI, fix_nI, gix_nI, rix_nI, zix_nI, pix_0, pix_1, bix_0, fix_0, fix_1, rix_1, true_and, and_true]
    refine ⟨fun _ r3 e3 => ⟨by decide, ?_⟩, fun h => absurd (by omega) h⟩
    rw [e3, hq 0 (by decide)]
    exact hP q' hq (fun k hk => h1 k (by omega))
  | succ k ih =>
    intro x fuel q' hx hf hq h1
    obtain ⟨f, rfl⟩ : ∃ f, fuel = f + 1 := ⟨fuel - 1, by omega⟩; rw [wp_X11_saveSnapshot_7]; unfold wb_X11_saveSnapshot_7; dsimp only
    simp (disch := omega) only [li_2, li_3, li_4, li_5, li_6, li_7, li_8, li_9, li_10, li_12, li_14, li_20, li_26, li_30, li_31, li_36, li_38, li_47, li_48, li_50, li_57, li_58, li_80, li_98, li_99, li_100, li_102, li_104, li_105, li_108, li_109, li_110, li_114, li_115, li_119, li_122, li_137, li_146, li_147, li_148, li_149, li_150, li_200, li_255, li_256, li_274, li_510, li_512, li_640, li_999, li_1000, li_1024, li_3334, li_5000, li_9999, li_10000, li_23338, li_26672, li_30000, li_99999, li_150000, li_300000, pk_mul, nI_add, pk_sub, nI_clamp, nI_1, nI_p1, nI_a0, nI_0a, nI_m0, nI_m1, cl_0, cl_1, z01, z11, nI_leI, nI_ltI, nI_eq, nz_lt0, nz_le, nz_eq0, nz_pos, nz_le0, nz_eq1, nz_lt1, nz_ge1, nz_le1, nz_gt1, nz_vp, nz_vp0, nz_vp1, six_nI, vix_nI, bix_nI, pix_nI, fix_nI, gix_nI, rix_nI, zix_nI, pix_0, pix_1, bix_0, fix_0, fix_1, rix_1, true_and, and_true]
    refine ⟨fun h => absurd h (by omega), fun _ => ⟨by omega, by omega, fun q7 e7 v8 e8 => ?_⟩⟩
    subst e8
    refine ih (x + 1) f q7 (by omega) (by omega) (by rw [e7]; exact hq.up (by decide) _) (fun j hj => ?_)
    rw [e7, va_up_self]
    by_cases e : j = x
    · subst e; rw [pk_us, hq 0 (by decide)]
    · rw [pk_un e]; exact h1 j (by omega)
theorem k_X11_saveSnapshot (l : Launch) (D : va_G) (T : Nat → ClassId) (m0 : Nat) (a : Nat → Nat)  (r : Nat → Int32) (q : Nat → Nat → Int32) : RMi l yX11_saveSnapshot (ws_X11_saveSnapshot) rm_X11_saveSnapshot D T m0 a [.ref m0] r q (fun v u => (kR r u.1 (3 :: SC) ∧ kQ q u.2 [1] ∧ u.1 3 = 1 ∧ (∀ k, k < 3334 → u.2 1 k = q 0 k) ∧ v = q 0 1)) := c_X11_saveSnapshot l D T m0 a  r q _ <|
  (by
    unfold wp_X11_saveSnapshot
    intro r1 e1
    refine ⟨3335, rl_save (fun q1 a1 a2 => ⟨?_, a1, (by (try dsimp only); exact va_up_self _ _ _), a2, rfl⟩) 3334 0 _ q (by omega) (by omega) kQ.rf (fun j hj => absurd hj (by omega))⟩
    rw [e1]
    exact (kR.rf.up (by decide) _).up (by decide) _)
abbrev ws_X11_restoreSnapshot : List Cond := Cond.code yX11_restoreSnapshot cX11_restoreSnapshot 2 (some .int) :: W0
abbrev rm_X11_restoreSnapshot : Room := ({ frames := 1, cells := 0, slots := 0, locals := 21 } : Room)
def wb_X11_restoreSnapshot_20 (rec : Int32 → (Nat → Int32) → (Nat → Nat → Int32) → Prop) (P : Int32 → RST → Prop) (x1 : Int32) (r : Nat → Int32) (q : Nat → Nat → Int32) : Prop := (3334 ≤ x1 → (∀ r4 : Nat → Int32, r4 = va_up r 5 0 → (vp_in 1 3334 ∧ (P (q 0 (Int32.toNatClampNeg 1)) (r4, q))))) ∧ (¬ 3334 ≤ x1 → (vp_in x1 3334 ∧ (vp_in x1 3334 ∧ (∀ q8 : Nat → Nat → Int32, q8 = va_up q 0 (upd (q 0) (Int32.toNatClampNeg x1) (q 1 (Int32.toNatClampNeg x1))) → (∀ v9 : Int32, v9 = x1 + 1 → (rec v9 r q8))))))
def wp_X11_restoreSnapshot_20 (P : Int32 → RST → Prop) : Nat → Int32 → (Nat → Int32) → (Nat → Nat → Int32) → Prop
  | 0 => fun _ _ _ => False
  | n + 1 => fun x1 r q => wb_X11_restoreSnapshot_20 (wp_X11_restoreSnapshot_20  P n)  P x1 r q
set_option maxRecDepth 100000 in
set_option maxHeartbeats 4000000 in
theorem t_X11_restoreSnapshot_20 {p : Program} {l : Launch} {e : Env} {s : State} {m : MethodId} {args : Array Value} {below : List Frame} {meth : Method} {c : Code} {D : va_G} {A : Nat → Prop} {T : Nat → ClassId} {m0 : Nat} {a : Nat → Nat} (C : GC p s m args meth c cX11_restoreSnapshot "FreightRaterModel" (ws_X11_restoreSnapshot) 2 D A (zty T)) (hr : meth.sig.returnType = (some .int)) (P : Int32 → RST → Prop) : ∀ (n : Nat) (x1 : Int32) (r : Nat → Int32) (q : Nat → Nat → Int32), wp_X11_restoreSnapshot_20  P n x1 r q → GW p l e rm_X11_restoreSnapshot s m args below meth c D A 2 0 0 (MQ below (va_Qi P (RE D T m0 a A) A) args s 0 0 A) (RW m0 a T r q) 0 0 20 [(0, .ref m0), (1, .int x1)] [] := by
  have hw : ∀ {w : Cond}, w ∈ W0 → w.before args s = true := fun h => C.2.2.2.2.1 _ (List.mem_cons_of_mem _ h)
  intro n
  induction n with
  | zero => intro x1 r q h; exact h.elim
  | succ n ih =>
    intro x1 r q h
    replace h : wb_X11_restoreSnapshot_20 (wp_X11_restoreSnapshot_20  P n)  P x1 r q := h
    unfold wb_X11_restoreSnapshot_20 at h
    refine g_iload_n C dX11_restoreSnapshot_20 rfl 1 rfl ?_
    refine g_sipush (v := 3334) C dX11_restoreSnapshot_21 (by decide) ?_
    refine g_icmp_ge (tgt := 45) C dX11_restoreSnapshot_24 (by decide) (fun z3 => ?_) (fun z3 => ?_)
    · replace h := h.1 z3
      refine g_aload_n C dX11_restoreSnapshot_45 rfl 0 rfl ?_
      refine g_iconst (v := 0) C dX11_restoreSnapshot_46 (by decide) ?_
      refine gr_put_5 C iwx_X11 (hw kw_1814) dX11_restoreSnapshot_47 ?_
      refine gr_nr (fun r4 er4 => ?_)
      replace h := h r4 er4
      refine g_aload_n C dX11_restoreSnapshot_50 rfl 0 rfl ?_
      refine gr_get C iwx_X11 0 (hw kw_1809) (by decide) rfl rfl dX11_restoreSnapshot_51 ?_
      refine g_iconst (v := 1) C dX11_restoreSnapshot_54 (by decide) ?_
      obtain ⟨g5, h⟩ := h
      refine gr_ald_0 C g5 dX11_restoreSnapshot_55 ?_
      exact gr_iret C hr dX11_restoreSnapshot_56 h
    · replace h := h.2 z3
      refine g_aload_n C dX11_restoreSnapshot_27 rfl 0 rfl ?_
      refine gr_get C iwx_X11 0 (hw kw_1809) (by decide) rfl rfl dX11_restoreSnapshot_28 ?_
      refine g_iload_n C dX11_restoreSnapshot_31 rfl 1 rfl ?_
      refine g_aload_n C dX11_restoreSnapshot_32 rfl 0 rfl ?_
      refine gr_get C iwx_X11 1 (hw kw_1810) (by decide) rfl rfl dX11_restoreSnapshot_33 ?_
      refine g_iload_n C dX11_restoreSnapshot_36 rfl 1 rfl ?_
      obtain ⟨g6, h⟩ := h
      refine gr_ald_1 C g6 dX11_restoreSnapshot_37 ?_
      obtain ⟨g7, h⟩ := h
      refine gr_ast_0 C g7 dX11_restoreSnapshot_38 ?_
      refine gr_nq (fun q8 eq8 => ?_)
      replace h := h q8 eq8
      obtain ⟨v9, ev9⟩ : ∃ y : Int32, y = x1 + 1 := ⟨_, rfl⟩
      replace h := h v9 ev9
      refine g_iinc (v := v9) (lv' := [(1, .int v9), (0, .ref m0)]) C dX11_restoreSnapshot_39 (j := 1) rfl (by rw [ev9]; rfl) (by decide) rfl ?_
      refine g_goto (tgt := 20) C dX11_restoreSnapshot_42 (by decide) ?_
      refine g_locals [1, 0] rfl ?_
      exact ih v9 r q8 h
def wp_X11_restoreSnapshot (P : Int32 → RST → Prop)  (r : Nat → Int32) (q : Nat → Nat → Int32) : Prop := ∀ r1 : Nat → Int32, r1 = va_up r 6 0 → ((¬ (r1 3) = 0 → (∃ k10 : Nat, wp_X11_restoreSnapshot_20  P k10 0 r1 q)) ∧ ((r1 3) = 0 → (∀ (v11 : Int32) (r12 : Nat → Int32) (q13 : Nat → Nat → Int32), (v11 = 0 ∧ r12 = va_up r1 6 1 ∧ q13 = q) → (P v11 (r12, q13)))))
set_option maxRecDepth 100000 in
set_option maxHeartbeats 4000000 in
theorem t_X11_restoreSnapshot {p : Program} {l : Launch} {e : Env} {s : State} {m : MethodId} {args : Array Value} {below : List Frame} {meth : Method} {c : Code} {D : va_G} {A : Nat → Prop} {T : Nat → ClassId} {m0 : Nat} {a : Nat → Nat} (C : GC p s m args meth c cX11_restoreSnapshot "FreightRaterModel" (ws_X11_restoreSnapshot) 2 D A (zty T)) (hr : meth.sig.returnType = (some .int)) (P : Int32 → RST → Prop) : ∀  (r : Nat → Int32) (q : Nat → Nat → Int32), wp_X11_restoreSnapshot P  r q → GW p l e rm_X11_restoreSnapshot s m args below meth c D A 2 0 0 (MQ below (va_Qi P (RE D T m0 a A) A) args s 0 0 A) (RW m0 a T r q) 0 0 0 [(0, .ref m0)] [] := by
  have hw : ∀ {w : Cond}, w ∈ W0 → w.before args s = true := fun h => C.2.2.2.2.1 _ (List.mem_cons_of_mem _ h)
  intro  r q h
  unfold wp_X11_restoreSnapshot at h
  refine g_aload_n C dX11_restoreSnapshot_0 rfl 0 rfl ?_
  refine g_iconst (v := 0) C dX11_restoreSnapshot_1 (by decide) ?_
  refine gr_put_6 C iwx_X11 (hw kw_1815) dX11_restoreSnapshot_2 ?_
  refine gr_nr (fun r1 er1 => ?_)
  replace h := h r1 er1
  refine g_aload_n C dX11_restoreSnapshot_5 rfl 0 rfl ?_
  refine gr_get C iwx_X11 3 (hw kw_1812) (by decide) rfl rfl dX11_restoreSnapshot_6 ?_
  refine g_if_ne (tgt := 18) C dX11_restoreSnapshot_9 (by decide) (fun z2 => ?_) (fun z2 => ?_)
  · replace h := h.1 z2
    refine g_iconst (v := 0) C dX11_restoreSnapshot_18 (by decide) ?_
    refine g_istore_n (lv' := [(1, .int 0), (0, .ref m0)]) C dX11_restoreSnapshot_19 rfl (by decide) rfl ?_
    refine g_locals [1, 0] rfl ?_
    obtain ⟨k10, h⟩ := h
    refine t_X11_restoreSnapshot_20 C hr  P  k10 0 r1 q h
  · replace h := h.2 z2
    refine g_aload_n C dX11_restoreSnapshot_12 rfl 0 rfl ?_
    refine g_iconst (v := 1) C dX11_restoreSnapshot_13 (by decide) ?_
    refine gr_calliV C [.int 1] rfl (k_X11_refuse l D T m0 a 1 r1 q) (w0_V 1 C.2.2.2.2.1 kw_1950 kw_1952 ks_50 kw_9 kw_1953 rfl rfl (by decide +kernel) ⟨by decide, by decide⟩) rfl (Nat.le_of_ble_eq_true rfl) (Nat.zero_le _) (Nat.zero_le _) dX11_restoreSnapshot_14 (fun v11 r12 q13 hp => ?_)
    replace h := h v11 r12 q13 hp
    exact gr_iret C hr dX11_restoreSnapshot_17 h
theorem c_X11_restoreSnapshot (l : Launch) (D : va_G) (T : Nat → ClassId) (m0 : Nat) (a : Nat → Nat)  (r : Nat → Int32) (q : Nat → Nat → Int32) (P : Int32 → RST → Prop) (h : wp_X11_restoreSnapshot P  r q) : RMi l yX11_restoreSnapshot (ws_X11_restoreSnapshot) rm_X11_restoreSnapshot D T m0 a [.ref m0] r q P := gr_meti (by decide) rfl rfl (Nat.le_of_ble_eq_true rfl) (fun p e s m args below meth c A C hr => t_X11_restoreSnapshot C hr P  r q h)
theorem rl_restore {P : Int32 → RST → Prop} {r : Nat → Int32} {q : Nat → Nat → Int32} (hP : ∀ q1, kQ q q1 [0] → (∀ k, k < 3334 → q1 0 k = q 1 k) → P (q1 0 1) (va_up r 5 0, q1)) : ∀ (k x fuel : Nat) (q' : Nat → Nat → Int32), x + k = 3334 → k < fuel → kQ q q' [0] → (∀ j, j < x → q' 0 j = q 1 j) → wp_X11_restoreSnapshot_20 P fuel (nI x) r q' := by
  intro k
  induction k with
  | zero =>
    intro x fuel q' hx hf hq h1
    obtain ⟨f, rfl⟩ : ∃ f, fuel = f + 1 := ⟨fuel - 1, by omega⟩; rw [wp_X11_restoreSnapshot_20]; unfold wb_X11_restoreSnapshot_20; dsimp only
    simp (disch := omega) only [li_2, li_3, li_4, li_5, li_6, li_7, li_8, li_9, li_10, li_12, li_14, li_20, li_26, li_30, li_31, li_36, li_38, li_47, li_48, li_50, li_57, li_58, li_80, li_98, li_99, li_100, li_102, li_104, li_105, li_108, li_109, li_110, li_114, li_115, li_119, li_122, li_137, li_146, li_147, li_148, li_149, li_150, li_200, li_255, li_256, li_274, li_510, li_512, li_640, li_999, li_1000, li_1024, li_3334, li_5000, li_9999, li_10000, li_23338, li_26672, li_30000, li_99999, li_150000, li_300000, pk_mul, nI_add, pk_sub, nI_clamp, nI_1, nI_p1, nI_a0, nI_0a, nI_m0, nI_m1, cl_0, cl_1, z01, z11, nI_leI, nI_ltI, nI_eq, nz_lt0, nz_le, nz_eq0, nz_pos, nz_le0, nz_eq1, nz_lt1, nz_ge1, nz_le1, nz_gt1, nz_vp, nz_vp0, nz_vp1, six_nI, vix_nI, bix_nI, pix_nI, fix_nI, gix_nI, rix_nI, zix_nI, pix_0, pix_1, bix_0, fix_0, fix_1, rix_1, true_and, and_true]
    refine ⟨fun _ r3 e3 => ⟨by decide, ?_⟩, fun h => absurd (by omega) h⟩
    rw [e3]
    exact hP q' hq (fun k hk => h1 k (by omega))
  | succ k ih =>
    intro x fuel q' hx hf hq h1
    obtain ⟨f, rfl⟩ : ∃ f, fuel = f + 1 := ⟨fuel - 1, by omega⟩; rw [wp_X11_restoreSnapshot_20]; unfold wb_X11_restoreSnapshot_20; dsimp only
    simp (disch := omega) only [li_2, li_3, li_4, li_5, li_6, li_7, li_8, li_9, li_10, li_12, li_14, li_20, li_26, li_30, li_31, li_36, li_38, li_47, li_48, li_50, li_57, li_58, li_80, li_98, li_99, li_100, li_102, li_104, li_105, li_108, li_109, li_110, li_114, li_115, li_119, li_122, li_137, li_146, li_147, li_148, li_149, li_150, li_200, li_255, li_256, li_274, li_510, li_512, li_640, li_999, li_1000, li_1024, li_3334, li_5000, li_9999, li_10000, li_23338, li_26672, li_30000, li_99999, li_150000, li_300000, pk_mul, nI_add, pk_sub, nI_clamp, nI_1, nI_p1, nI_a0, nI_0a, nI_m0, nI_m1, cl_0, cl_1, z01, z11, nI_leI, nI_ltI, nI_eq, nz_lt0, nz_le, nz_eq0, nz_pos, nz_le0, nz_eq1, nz_lt1, nz_ge1, nz_le1, nz_gt1, nz_vp, nz_vp0, nz_vp1, six_nI, vix_nI, bix_nI, pix_nI, fix_nI, gix_nI, rix_nI, zix_nI, pix_0, pix_1, bix_0, fix_0, fix_1, rix_1, true_and, and_true]
    refine ⟨fun h => absurd h (by omega), fun _ => ⟨by omega, by omega, fun q7 e7 v8 e8 => ?_⟩⟩
    subst e8
    refine ih (x + 1) f q7 (by omega) (by omega) (by rw [e7]; exact hq.up (by decide) _) (fun j hj => ?_)
    rw [e7, va_up_self]
    by_cases e : j = x
    · subst e; rw [pk_us, hq 1 (by decide)]
    · rw [pk_un e]; exact h1 j (by omega)
theorem k_X11_restoreSnapshot (l : Launch) (D : va_G) (T : Nat → ClassId) (m0 : Nat) (a : Nat → Nat)  (r : Nat → Int32) (q : Nat → Nat → Int32) : RMi l yX11_restoreSnapshot (ws_X11_restoreSnapshot) rm_X11_restoreSnapshot D T m0 a [.ref m0] r q (fun v u => (kR r u.1 (5 :: SC) ∧ kQ q u.2 [0] ∧ u.1 6 = (if r 3 = 0 then 1 else 0) ∧ (r 3 = 0 → u.1 5 = r 5 ∧ u.2 = q) ∧ (¬ r 3 = 0 → u.1 5 = 0 ∧ (∀ k, k < 3334 → u.2 0 k = q 1 k) ∧ v = u.2 0 1))) := c_X11_restoreSnapshot l D T m0 a  r q _ <|
  (by
    unfold wp_X11_restoreSnapshot
    intro r1 e1
    have e13 : r1 3 = r 3 := by rw [e1, va_up_ne _ _ (by decide)]
    have k1 : kR r r1 (5 :: SC) := by rw [e1]; exact kR.rf.up (by decide) _
    rw [e13]
    refine ⟨fun c => ?_, fun c v11 r12 q13 hh => ?_⟩
    · rw [if_neg c]
      refine ⟨3335, rl_restore (fun q1 a1 a2 => ⟨k1.up (by decide) _, a1, ?_, fun z => absurd z c, fun _ => ⟨(by (try dsimp only); exact va_up_self _ _ _), a2, rfl⟩⟩) 3334 0 _ q (by omega) (by omega) kQ.rf (fun j hj => absurd hj (by omega))⟩
      dsimp only
      rw [va_up_ne _ _ (by decide), e1, va_up_self]
    · obtain ⟨a1, a2, a3⟩ := hh
      subst a3
      rw [if_pos c]
      exact ⟨by rw [a2]; exact k1.up (by decide) _, kQ.rf, by dsimp only; rw [a2, va_up_self], fun _ => ⟨by dsimp only; rw [a2, va_up_ne _ _ (by decide), e1, va_up_ne _ _ (by decide)], rfl⟩, fun z => absurd c z⟩)

end S_RCS
