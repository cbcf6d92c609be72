section S_RPS
abbrev ws_X11_layPart : List Cond := Cond.code yX11_layPart cX11_layPart 6 none :: W0
abbrev rm_X11_layPart : Room := ({ frames := 0, cells := 0, slots := 0, locals := 0 } : Room)
def wb_X11_layPart_14 (rec : Int32 → Int32 → Int32 → (Nat → Int32) → (Nat → Nat → Int32) → Prop) (P : RST → Prop) (x1 : Int32) (x2 : Int32) (x3 : Int32) (r : Nat → Int32) (q : Nat → Nat → Int32) : Prop := (x1 < x3 → (P (r, q))) ∧ (¬ x1 < x3 → ((¬ (x3 &&& (x1 ^^^ (-1))) = 0 → (∀ v6 : Int32, v6 = x3 + 1 → (rec x1 x2 v6 r q))) ∧ ((x3 &&& (x1 ^^^ (-1))) = 0 → (((x3 &&& x2) = 0 → (∀ v8 : Int32, v8 = x3 + 1 → (rec x1 x2 v8 r q))) ∧ (¬ (x3 &&& x2) = 0 → (vp_in x3 1024 ∧ (((q 7 (Int32.toNatClampNeg x3)) < 0 → (∀ v11 : Int32, v11 = x3 + 1 → (rec x1 x2 v11 r q))) ∧ (¬ (q 7 (Int32.toNatClampNeg x3)) < 0 → (vp_in x3 1024 ∧ (vp_in (x1 &&& (x3 ^^^ (-1))) 1024 ∧ (∀ v14 : Int32, v14 = ((q 7 (Int32.toNatClampNeg x3)) + (q 8 (Int32.toNatClampNeg (x1 &&& (x3 ^^^ (-1)))))) → (vp_in (x1 &&& (x3 ^^^ (-1))) 1024 ∧ (∀ v16 : Int32, v16 = (1 + (q 9 (Int32.toNatClampNeg (x1 &&& (x3 ^^^ (-1)))))) → (vp_in x1 1024 ∧ (((q 8 (Int32.toNatClampNeg x1)) < 0 → (vp_in x1 1024 ∧ (∀ q20 : Nat → Nat → Int32, q20 = va_up q 8 (upd (q 8) (Int32.toNatClampNeg x1) v14) → (vp_in x1 1024 ∧ (∀ q22 : Nat → Nat → Int32, q22 = va_up q20 9 (upd (q20 9) (Int32.toNatClampNeg x1) v16) → (vp_in x1 1024 ∧ (∀ q24 : Nat → Nat → Int32, q24 = va_up q22 10 (upd (q22 10) (Int32.toNatClampNeg x1) x3) → (∀ v25 : Int32, v25 = x3 + 1 → (rec x1 x2 v25 r q24))))))))) ∧ (¬ (q 8 (Int32.toNatClampNeg x1)) < 0 → (vp_in x1 1024 ∧ ((v14 < (q 8 (Int32.toNatClampNeg x1)) → (vp_in x1 1024 ∧ (∀ q29 : Nat → Nat → Int32, q29 = va_up q 8 (upd (q 8) (Int32.toNatClampNeg x1) v14) → (vp_in x1 1024 ∧ (∀ q31 : Nat → Nat → Int32, q31 = va_up q29 9 (upd (q29 9) (Int32.toNatClampNeg x1) v16) → (vp_in x1 1024 ∧ (∀ q33 : Nat → Nat → Int32, q33 = va_up q31 10 (upd (q31 10) (Int32.toNatClampNeg x1) x3) → (∀ v34 : Int32, v34 = x3 + 1 → (rec x1 x2 v34 r q33))))))))) ∧ (¬ v14 < (q 8 (Int32.toNatClampNeg x1)) → (vp_in x1 1024 ∧ ((¬ v14 = (q 8 (Int32.toNatClampNeg x1)) → (∀ v37 : Int32, v37 = x3 + 1 → (rec x1 x2 v37 r q))) ∧ (v14 = (q 8 (Int32.toNatClampNeg x1)) → (vp_in x1 1024 ∧ (((q 9 (Int32.toNatClampNeg x1)) ≤ v16 → (∀ v40 : Int32, v40 = x3 + 1 → (rec x1 x2 v40 r q))) ∧ (¬ (q 9 (Int32.toNatClampNeg x1)) ≤ v16 → (vp_in x1 1024 ∧ (∀ q42 : Nat → Nat → Int32, q42 = va_up q 8 (upd (q 8) (Int32.toNatClampNeg x1) v14) → (vp_in x1 1024 ∧ (∀ q44 : Nat → Nat → Int32, q44 = va_up q42 9 (upd (q42 9) (Int32.toNatClampNeg x1) v16) → (vp_in x1 1024 ∧ (∀ q46 : Nat → Nat → Int32, q46 = va_up q44 10 (upd (q44 10) (Int32.toNatClampNeg x1) x3) → (∀ v47 : Int32, v47 = x3 + 1 → (rec x1 x2 v47 r q46)))))))))))))))))))))))))))))))))
def wp_X11_layPart_14 (P : RST → Prop) : Nat → Int32 → Int32 → Int32 → (Nat → Int32) → (Nat → Nat → Int32) → Prop
  | 0 => fun _ _ _ _ _ => False
  | n + 1 => fun x1 x2 x3 r q => wb_X11_layPart_14 (wp_X11_layPart_14  P n)  P x1 x2 x3 r q
set_option maxRecDepth 100000 in
set_option maxHeartbeats 4000000 in
theorem t_X11_layPart_14 {p : Program} {l : Launch} {e : Env} {s : State} {m : MethodId} {args : Array Value} {below : List Frame} {meth : Method} {c : Code} {D : va_G} {A : Nat → Prop} {T : Nat → ClassId} {m0 : Nat} {a : Nat → Nat} (C : GC p s m args meth c cX11_layPart "FreightRaterModel" (ws_X11_layPart) 6 D A (zty T)) (hr : meth.sig.returnType = none) (P : RST → Prop) : ∀ (n : Nat) (x1 : Int32) (x2 : Int32) (x3 : Int32) (r : Nat → Int32) (q : Nat → Nat → Int32), wp_X11_layPart_14  P n x1 x2 x3 r q → GW p l e rm_X11_layPart s m args below meth c D A 6 0 0 (MQ below (va_Qv P (RE D T m0 a A) A) args s 0 0 A) (RW m0 a T r q) 0 0 14 [(0, .ref m0), (1, .int x1), (2, .int x2), (3, .int x3)] [] := by
  have hw : ∀ {w : Cond}, w ∈ W0 → w.before args s = true := fun h => C.2.2.2.2.1 _ (List.mem_cons_of_mem _ h)
  intro n
  induction n with
  | zero => intro x1 x2 x3 r q h; exact h.elim
  | succ n ih =>
    intro x1 x2 x3 r q h
    replace h : wb_X11_layPart_14 (wp_X11_layPart_14  P n)  P x1 x2 x3 r q := h
    unfold wb_X11_layPart_14 at h
    refine g_iload_n C dX11_layPart_14 rfl 3 rfl ?_
    refine g_iload_n C dX11_layPart_15 rfl 1 rfl ?_
    refine g_icmp_gt (tgt := 146) C dX11_layPart_16 (by decide) (fun z4 => ?_) (fun z4 => ?_)
    · replace h := h.1 z4
      exact gr_vret C hr dX11_layPart_146 h
    · replace h := h.2 z4
      refine g_iload_n C dX11_layPart_19 rfl 3 rfl ?_
      refine g_iload_n C dX11_layPart_20 rfl 1 rfl ?_
      refine g_iconst (v := -1) C dX11_layPart_21 (by decide) ?_
      refine g_ixor C dX11_layPart_22 ?_
      refine g_iand C dX11_layPart_23 ?_
      refine g_if_ne (tgt := 140) C dX11_layPart_24 (by decide) (fun z5 => ?_) (fun z5 => ?_)
      · replace h := h.1 z5
        obtain ⟨v6, ev6⟩ : ∃ y : Int32, y = x3 + 1 := ⟨_, rfl⟩
        replace h := h v6 ev6
        refine g_iinc (v := v6) (lv' := [(3, .int v6), (0, .ref m0), (1, .int x1), (2, .int x2)]) C dX11_layPart_140 (j := 3) rfl (by rw [ev6]; rfl) (by decide) rfl ?_
        refine g_goto (tgt := 14) C dX11_layPart_143 (by decide) ?_
        refine g_locals [1, 2, 3, 0] rfl ?_
        exact ih x1 x2 v6 r q h
      · replace h := h.2 z5
        refine g_iload_n C dX11_layPart_27 rfl 3 rfl ?_
        refine g_iload_n C dX11_layPart_28 rfl 2 rfl ?_
        refine g_iand C dX11_layPart_29 ?_
        refine g_if_eq (tgt := 140) C dX11_layPart_30 (by decide) (fun z7 => ?_) (fun z7 => ?_)
        · replace h := h.1 z7
          obtain ⟨v8, ev8⟩ : ∃ y : Int32, y = x3 + 1 := ⟨_, rfl⟩
          replace h := h v8 ev8
          refine g_iinc (v := v8) (lv' := [(3, .int v8), (0, .ref m0), (1, .int x1), (2, .int x2)]) C dX11_layPart_140 (j := 3) rfl (by rw [ev8]; rfl) (by decide) rfl ?_
          refine g_goto (tgt := 14) C dX11_layPart_143 (by decide) ?_
          refine g_locals [1, 2, 3, 0] rfl ?_
          exact ih x1 x2 v8 r q h
        · replace h := h.2 z7
          refine g_aload_n C dX11_layPart_33 rfl 0 rfl ?_
          refine gr_get C iwx_X11 31 (hw kw_1840) (by decide) rfl rfl dX11_layPart_34 ?_
          refine g_iload_n C dX11_layPart_37 rfl 3 rfl ?_
          obtain ⟨g9, h⟩ := h
          refine gr_ald_7 C g9 dX11_layPart_38 ?_
          refine g_if_lt (tgt := 140) C dX11_layPart_39 (by decide) (fun z10 => ?_) (fun z10 => ?_)
          · replace h := h.1 z10
            obtain ⟨v11, ev11⟩ : ∃ y : Int32, y = x3 + 1 := ⟨_, rfl⟩
            replace h := h v11 ev11
            refine g_iinc (v := v11) (lv' := [(3, .int v11), (0, .ref m0), (1, .int x1), (2, .int x2)]) C dX11_layPart_140 (j := 3) rfl (by rw [ev11]; rfl) (by decide) rfl ?_
            refine g_goto (tgt := 14) C dX11_layPart_143 (by decide) ?_
            refine g_locals [1, 2, 3, 0] rfl ?_
            exact ih x1 x2 v11 r q h
          · replace h := h.2 z10
            refine g_aload_n C dX11_layPart_42 rfl 0 rfl ?_
            refine gr_get C iwx_X11 31 (hw kw_1840) (by decide) rfl rfl dX11_layPart_43 ?_
            refine g_iload_n C dX11_layPart_46 rfl 3 rfl ?_
            obtain ⟨g12, h⟩ := h
            refine gr_ald_7 C g12 dX11_layPart_47 ?_
            refine g_aload_n C dX11_layPart_48 rfl 0 rfl ?_
            refine gr_get C iwx_X11 32 (hw kw_1841) (by decide) rfl rfl dX11_layPart_49 ?_
            refine g_iload_n C dX11_layPart_52 rfl 1 rfl ?_
            refine g_iload_n C dX11_layPart_53 rfl 3 rfl ?_
            refine g_iconst (v := -1) C dX11_layPart_54 (by decide) ?_
            refine g_ixor C dX11_layPart_55 ?_
            refine g_iand C dX11_layPart_56 ?_
            obtain ⟨g13, h⟩ := h
            refine gr_ald_8 C g13 dX11_layPart_57 ?_
            refine g_iadd C dX11_layPart_58 ?_
            refine g_topi (fun v14 ev14 => ?_)
            replace h := h v14 ev14
            refine g_istore (lv' := [(4, .int v14), (0, .ref m0), (1, .int x1), (2, .int x2), (3, .int x3)]) C dX11_layPart_59 (by decide) rfl ?_
            refine g_iconst (v := 1) C dX11_layPart_61 (by decide) ?_
            refine g_aload_n C dX11_layPart_62 rfl 1 rfl ?_
            refine gr_get C iwx_X11 33 (hw kw_1842) (by decide) rfl rfl dX11_layPart_63 ?_
            refine g_iload_n C dX11_layPart_66 rfl 2 rfl ?_
            refine g_iload_n C dX11_layPart_67 rfl 4 rfl ?_
            refine g_iconst (v := -1) C dX11_layPart_68 (by decide) ?_
            refine g_ixor C dX11_layPart_69 ?_
            refine g_iand C dX11_layPart_70 ?_
            obtain ⟨g15, h⟩ := h
            refine gr_ald_9 C g15 dX11_layPart_71 ?_
            refine g_iadd C dX11_layPart_72 ?_
            refine g_topi (fun v16 ev16 => ?_)
            replace h := h v16 ev16
            refine g_istore (lv' := [(5, .int v16), (4, .int v14), (0, .ref m0), (1, .int x1), (2, .int x2), (3, .int x3)]) C dX11_layPart_73 (by decide) rfl ?_
            refine g_aload_n C dX11_layPart_75 rfl 2 rfl ?_
            refine gr_get C iwx_X11 32 (hw kw_1841) (by decide) rfl rfl dX11_layPart_76 ?_
            refine g_iload_n C dX11_layPart_79 rfl 3 rfl ?_
            obtain ⟨g17, h⟩ := h
            refine gr_ald_8 C g17 dX11_layPart_80 ?_
            refine g_if_lt (tgt := 117) C dX11_layPart_81 (by decide) (fun z18 => ?_) (fun z18 => ?_)
            · replace h := h.1 z18
              refine g_aload_n C dX11_layPart_117 rfl 2 rfl ?_
              refine gr_get C iwx_X11 32 (hw kw_1841) (by decide) rfl rfl dX11_layPart_118 ?_
              refine g_iload_n C dX11_layPart_121 rfl 3 rfl ?_
              refine g_iload C dX11_layPart_122 1 rfl ?_
              obtain ⟨g19, h⟩ := h
              refine gr_ast_8 C g19 dX11_layPart_124 ?_
              refine gr_nq (fun q20 eq20 => ?_)
              replace h := h q20 eq20
              refine g_aload_n C dX11_layPart_125 rfl 2 rfl ?_
              refine gr_get C iwx_X11 33 (hw kw_1842) (by decide) rfl rfl dX11_layPart_126 ?_
              refine g_iload_n C dX11_layPart_129 rfl 3 rfl ?_
              refine g_iload C dX11_layPart_130 0 rfl ?_
              obtain ⟨g21, h⟩ := h
              refine gr_ast_9 C g21 dX11_layPart_132 ?_
              refine gr_nq (fun q22 eq22 => ?_)
              replace h := h q22 eq22
              refine g_aload_n C dX11_layPart_133 rfl 2 rfl ?_
              refine gr_get C iwx_X11 34 (hw kw_1843) (by decide) rfl rfl dX11_layPart_134 ?_
              refine g_iload_n C dX11_layPart_137 rfl 3 rfl ?_
              refine g_iload_n C dX11_layPart_138 rfl 5 rfl ?_
              obtain ⟨g23, h⟩ := h
              refine gr_ast_10 C g23 dX11_layPart_139 ?_
              refine gr_nq (fun q24 eq24 => ?_)
              replace h := h q24 eq24
              obtain ⟨v25, ev25⟩ : ∃ y : Int32, y = x3 + 1 := ⟨_, rfl⟩
              replace h := h v25 ev25
              refine g_iinc (v := v25) (lv' := [(3, .int v25), (5, .int v16), (4, .int v14), (0, .ref m0), (1, .int x1), (2, .int x2)]) C dX11_layPart_140 (j := 5) rfl (by rw [ev25]; rfl) (by decide) rfl ?_
              refine g_goto (tgt := 14) C dX11_layPart_143 (by decide) ?_
              refine g_locals [3, 4, 5, 0] rfl ?_
              exact ih x1 x2 v25 r q24 h
            · replace h := h.2 z18
              refine g_iload C dX11_layPart_84 1 rfl ?_
              refine g_aload_n C dX11_layPart_86 rfl 2 rfl ?_
              refine gr_get C iwx_X11 32 (hw kw_1841) (by decide) rfl rfl dX11_layPart_87 ?_
              refine g_iload_n C dX11_layPart_90 rfl 3 rfl ?_
              obtain ⟨g26, h⟩ := h
              refine gr_ald_8 C g26 dX11_layPart_91 ?_
              refine g_icmp_lt (tgt := 117) C dX11_layPart_92 (by decide) (fun z27 => ?_) (fun z27 => ?_)
              · replace h := h.1 z27
                refine g_aload_n C dX11_layPart_117 rfl 2 rfl ?_
                refine gr_get C iwx_X11 32 (hw kw_1841) (by decide) rfl rfl dX11_layPart_118 ?_
                refine g_iload_n C dX11_layPart_121 rfl 3 rfl ?_
                refine g_iload C dX11_layPart_122 1 rfl ?_
                obtain ⟨g28, h⟩ := h
                refine gr_ast_8 C g28 dX11_layPart_124 ?_
                refine gr_nq (fun q29 eq29 => ?_)
                replace h := h q29 eq29
                refine g_aload_n C dX11_layPart_125 rfl 2 rfl ?_
                refine gr_get C iwx_X11 33 (hw kw_1842) (by decide) rfl rfl dX11_layPart_126 ?_
                refine g_iload_n C dX11_layPart_129 rfl 3 rfl ?_
                refine g_iload C dX11_layPart_130 0 rfl ?_
                obtain ⟨g30, h⟩ := h
                refine gr_ast_9 C g30 dX11_layPart_132 ?_
                refine gr_nq (fun q31 eq31 => ?_)
                replace h := h q31 eq31
                refine g_aload_n C dX11_layPart_133 rfl 2 rfl ?_
                refine gr_get C iwx_X11 34 (hw kw_1843) (by decide) rfl rfl dX11_layPart_134 ?_
                refine g_iload_n C dX11_layPart_137 rfl 3 rfl ?_
                refine g_iload_n C dX11_layPart_138 rfl 5 rfl ?_
                obtain ⟨g32, h⟩ := h
                refine gr_ast_10 C g32 dX11_layPart_139 ?_
                refine gr_nq (fun q33 eq33 => ?_)
                replace h := h q33 eq33
                obtain ⟨v34, ev34⟩ : ∃ y : Int32, y = x3 + 1 := ⟨_, rfl⟩
                replace h := h v34 ev34
                refine g_iinc (v := v34) (lv' := [(3, .int v34), (5, .int v16), (4, .int v14), (0, .ref m0), (1, .int x1), (2, .int x2)]) C dX11_layPart_140 (j := 5) rfl (by rw [ev34]; rfl) (by decide) rfl ?_
                refine g_goto (tgt := 14) C dX11_layPart_143 (by decide) ?_
                refine g_locals [3, 4, 5, 0] rfl ?_
                exact ih x1 x2 v34 r q33 h
              · replace h := h.2 z27
                refine g_iload C dX11_layPart_95 1 rfl ?_
                refine g_aload_n C dX11_layPart_97 rfl 2 rfl ?_
                refine gr_get C iwx_X11 32 (hw kw_1841) (by decide) rfl rfl dX11_layPart_98 ?_
                refine g_iload_n C dX11_layPart_101 rfl 3 rfl ?_
                obtain ⟨g35, h⟩ := h
                refine gr_ald_8 C g35 dX11_layPart_102 ?_
                refine g_icmp_ne (tgt := 140) C dX11_layPart_103 (by decide) (fun z36 => ?_) (fun z36 => ?_)
                · replace h := h.1 z36
                  obtain ⟨v37, ev37⟩ : ∃ y : Int32, y = x3 + 1 := ⟨_, rfl⟩
                  replace h := h v37 ev37
                  refine g_iinc (v := v37) (lv' := [(3, .int v37), (5, .int v16), (4, .int v14), (0, .ref m0), (1, .int x1), (2, .int x2)]) C dX11_layPart_140 (j := 5) rfl (by rw [ev37]; rfl) (by decide) rfl ?_
                  refine g_goto (tgt := 14) C dX11_layPart_143 (by decide) ?_
                  refine g_locals [3, 4, 5, 0] rfl ?_
                  exact ih x1 x2 v37 r q h
                · replace h := h.2 z36
                  refine g_iload C dX11_layPart_106 0 rfl ?_
                  refine g_aload_n C dX11_layPart_108 rfl 2 rfl ?_
                  refine gr_get C iwx_X11 33 (hw kw_1842) (by decide) rfl rfl dX11_layPart_109 ?_
                  refine g_iload_n C dX11_layPart_112 rfl 3 rfl ?_
                  obtain ⟨g38, h⟩ := h
                  refine gr_ald_9 C g38 dX11_layPart_113 ?_
                  refine g_icmp_ge (tgt := 140) C dX11_layPart_114 (by decide) (fun z39 => ?_) (fun z39 => ?_)
                  · replace h := h.1 z39
                    obtain ⟨v40, ev40⟩ : ∃ y : Int32, y = x3 + 1 := ⟨_, rfl⟩
                    replace h := h v40 ev40
                    refine g_iinc (v := v40) (lv' := [(3, .int v40), (5, .int v16), (4, .int v14), (0, .ref m0), (1, .int x1), (2, .int x2)]) C dX11_layPart_140 (j := 5) rfl (by rw [ev40]; rfl) (by decide) rfl ?_
                    refine g_goto (tgt := 14) C dX11_layPart_143 (by decide) ?_
                    refine g_locals [3, 4, 5, 0] rfl ?_
                    exact ih x1 x2 v40 r q h
                  · replace h := h.2 z39
                    refine g_aload_n C dX11_layPart_117 rfl 2 rfl ?_
                    refine gr_get C iwx_X11 32 (hw kw_1841) (by decide) rfl rfl dX11_layPart_118 ?_
                    refine g_iload_n C dX11_layPart_121 rfl 3 rfl ?_
                    refine g_iload C dX11_layPart_122 1 rfl ?_
                    obtain ⟨g41, h⟩ := h
                    refine gr_ast_8 C g41 dX11_layPart_124 ?_
                    refine gr_nq (fun q42 eq42 => ?_)
                    replace h := h q42 eq42
                    refine g_aload_n C dX11_layPart_125 rfl 2 rfl ?_
                    refine gr_get C iwx_X11 33 (hw kw_1842) (by decide) rfl rfl dX11_layPart_126 ?_
                    refine g_iload_n C dX11_layPart_129 rfl 3 rfl ?_
                    refine g_iload C dX11_layPart_130 0 rfl ?_
                    obtain ⟨g43, h⟩ := h
                    refine gr_ast_9 C g43 dX11_layPart_132 ?_
                    refine gr_nq (fun q44 eq44 => ?_)
                    replace h := h q44 eq44
                    refine g_aload_n C dX11_layPart_133 rfl 2 rfl ?_
                    refine gr_get C iwx_X11 34 (hw kw_1843) (by decide) rfl rfl dX11_layPart_134 ?_
                    refine g_iload_n C dX11_layPart_137 rfl 3 rfl ?_
                    refine g_iload_n C dX11_layPart_138 rfl 5 rfl ?_
                    obtain ⟨g45, h⟩ := h
                    refine gr_ast_10 C g45 dX11_layPart_139 ?_
                    refine gr_nq (fun q46 eq46 => ?_)
                    replace h := h q46 eq46
                    obtain ⟨v47, ev47⟩ : ∃ y : Int32, y = x3 + 1 := ⟨_, rfl⟩
                    replace h := h v47 ev47
                    refine g_iinc (v := v47) (lv' := [(3, .int v47), (5, .int v16), (4, .int v14), (0, .ref m0), (1, .int x1), (2, .int x2)]) C dX11_layPart_140 (j := 5) rfl (by rw [ev47]; rfl) (by decide) rfl ?_
                    refine g_goto (tgt := 14) C dX11_layPart_143 (by decide) ?_
                    refine g_locals [3, 4, 5, 0] rfl ?_
                    exact ih x1 x2 v47 r q46 h
def wp_X11_layPart (P : RST → Prop) (p0 : Int32) (r : Nat → Int32) (q : Nat → Nat → Int32) : Prop := ∀ v1 : Int32, v1 = (p0 &&& (-p0)) → (vp_in p0 1024 ∧ (∀ q3 : Nat → Nat → Int32, q3 = va_up q 8 (upd (q 8) (Int32.toNatClampNeg p0) (-1)) → (∃ k48 : Nat, wp_X11_layPart_14  P k48 p0 v1 1 r q3)))
set_option maxRecDepth 100000 in
set_option maxHeartbeats 4000000 in
theorem t_X11_layPart {p : Program} {l : Launch} {e : Env} {s : State} {m : MethodId} {args : Array Value} {below : List Frame} {meth : Method} {c : Code} {D : va_G} {A : Nat → Prop} {T : Nat → ClassId} {m0 : Nat} {a : Nat → Nat} (C : GC p s m args meth c cX11_layPart "FreightRaterModel" (ws_X11_layPart) 6 D A (zty T)) (hr : meth.sig.returnType = none) (P : RST → Prop) : ∀ (p0 : Int32) (r : Nat → Int32) (q : Nat → Nat → Int32), wp_X11_layPart P p0 r q → GW p l e rm_X11_layPart s m args below meth c D A 6 0 0 (MQ below (va_Qv P (RE D T m0 a A) A) args s 0 0 A) (RW m0 a T r q) 0 0 0 [(0, .ref m0), (1, .int p0)] [] := by
  have hw : ∀ {w : Cond}, w ∈ W0 → w.before args s = true := fun h => C.2.2.2.2.1 _ (List.mem_cons_of_mem _ h)
  intro p0 r q h
  unfold wp_X11_layPart at h
  refine g_iload_n C dX11_layPart_0 rfl 1 rfl ?_
  refine g_iload_n C dX11_layPart_1 rfl 1 rfl ?_
  refine g_ineg C dX11_layPart_2 ?_
  refine g_iand C dX11_layPart_3 ?_
  refine g_topi (fun v1 ev1 => ?_)
  replace h := h v1 ev1
  refine g_istore_n (lv' := [(2, .int v1), (0, .ref m0), (1, .int p0)]) C dX11_layPart_4 rfl (by decide) rfl ?_
  refine g_aload_n C dX11_layPart_5 rfl 1 rfl ?_
  refine gr_get C iwx_X11 32 (hw kw_1841) (by decide) rfl rfl dX11_layPart_6 ?_
  refine g_iload_n C dX11_layPart_9 rfl 2 rfl ?_
  refine g_iconst (v := -1) C dX11_layPart_10 (by decide) ?_
  obtain ⟨g2, h⟩ := h
  refine gr_ast_8 C g2 dX11_layPart_11 ?_
  refine gr_nq (fun q3 eq3 => ?_)
  replace h := h q3 eq3
  refine g_iconst (v := 1) C dX11_layPart_12 (by decide) ?_
  refine g_istore_n (lv' := [(3, .int 1), (2, .int v1), (0, .ref m0), (1, .int p0)]) C dX11_layPart_13 rfl (by decide) rfl ?_
  refine g_locals [2, 3, 1, 0] rfl ?_
  obtain ⟨k48, h⟩ := h
  refine t_X11_layPart_14 C hr  P  k48 p0 v1 1 r q3 h
theorem c_X11_layPart (l : Launch) (D : va_G) (T : Nat → ClassId) (m0 : Nat) (a : Nat → Nat) (p0 : Int32) (r : Nat → Int32) (q : Nat → Nat → Int32) (P : RST → Prop) (h : wp_X11_layPart P p0 r q) : RMv l yX11_layPart (ws_X11_layPart) rm_X11_layPart D T m0 a [.ref m0, .int p0] r q P := gr_metv (by decide) rfl rfl (Nat.le_of_ble_eq_true rfl) (fun p e s m args below meth c A C hr => t_X11_layPart C hr P p0 r q h)
abbrev X3 : Type := Int32 × Int32 × Int32
abbrev T3 : Type := (Nat → Int32) × (Nat → Int32) × (Nat → Int32)
/-- one group more for a part: total, number of groups, first group -/
def lpS (T B C : Nat → Int32) (p g : Nat) (x : X3) : X3 := if g &&& p = g ∧ g.testBit (lowN p) = true ∧ 0 ≤ T g then (if x.1 < 0 ∨ T g + B (dif p g) < x.1 ∨ (T g + B (dif p g) = x.1 ∧ 1 + C (dif p g) < x.2.1) then (T g + B (dif p g), 1 + C (dif p g), nI g) else x) else x
def lpF (T B C : Nat → Int32) (p : Nat) : Nat → Nat → X3 → X3
  | 0, _, x => x
  | k + 1, g, x => lpF T B C p k (g + 1) (lpS T B C p g x)
def dpX (T : Nat → Int32) (u : T3) (p : Nat) : X3 := lpF T u.1 u.2.1 p p 1 (-1, u.2.1 p, u.2.2 p)
def dpU (T : Nat → Int32) (u : T3) (p : Nat) : T3 := (upd u.1 p (dpX T u p).1, upd u.2.1 p (dpX T u p).2.1, upd u.2.2 p (dpX T u p).2.2)
def dpK (T : Nat → Int32) (n : Nat) (t : T3) : Nat → T3
  | 0 => (upd t.1 0 0, upd t.2.1 0 0, t.2.2)
  | k + 1 => if (k + 1) &&& n = k + 1 then dpU T (dpK T n t k) (k + 1) else dpK T n t k
def dpZ (T : Nat → Int32) (n : Nat) : T3 := dpK T n (fun _ => 0, fun _ => 0, fun _ => 0) n
/-- all members of a set can be rated alone -/
def sgO (μ : Nat → Int32) (n : Nat) : Prop := ∀ s, n.testBit s = true → 0 ≤ ttF μ (2 ^ s)
def lbP (r : Nat → Int32) (q : Nat → Nat → Int32) (n : Nat) (r1 : Nat → Int32) (q1 : Nat → Nat → Int32) : Prop := kQ q q1 [7, 8, 9, 10] ∧ kR r r1 [7, 17, 18, 19, 20, 21, 22, 23, 24, 25, 26, 27, 28] ∧ (∀ p, 0 < p → sub p n → q1 7 p = ttF (q 0) p) ∧ (∀ p, sub p n → q1 8 p = (dpZ (ttF (q 0)) n).1 p ∧ q1 9 p = (dpZ (ttF (q 0)) n).2.1 p ∧ (0 < p → q1 10 p = (dpZ (ttF (q 0)) n).2.2 p))
theorem up_up {f : Nat → Int32} {k : Nat} {x y : Int32} : upd (upd f k x) k y = upd f k y := by
  funext j
  by_cases e : j = k
  · subst e; rw [pk_us, pk_us]
  · rw [pk_un e, pk_un e, pk_un e]
theorem up_id {f : Nat → Int32} {k : Nat} : upd f k (f k) = f := by
  funext j
  by_cases e : j = k
  · subst e; rw [pk_us]
  · rw [pk_un e]
theorem low_tb' {p : Nat} (h : p < 1024) (h0 : 0 < p) : p.testBit (lowN p) = true := low_tb h (by omega)
theorem lp_eq {T T' B B' C C' : Nat → Int32} {p : Nat} (hp : p < 1024) (h0 : 0 < p) (hT : ∀ g, 0 < g → sub g p → T g = T' g) (hB : ∀ d, d < p → sub d p → B d = B' d ∧ C d = C' d) (h1 : 0 ≤ T (2 ^ lowN p)) : ∀ (m g : Nat) (x y : X3), g + m = p + 1 → 0 < g → (x = y ∨ (x.1 = -1 ∧ y.1 = -1 ∧ g ≤ 2 ^ lowN p)) → lpF T B C p m g x = lpF T' B' C' p m g y := by
  have hl := low_tb' hp h0
  have hs : sub (2 ^ lowN p) p := sub_tb.mpr fun i hi => by
    rw [Nat.testBit_two_pow] at hi
    rw [← of_decide_eq_true hi]
    exact hl
  have hle := sub_le hs
  intro m
  induction m with
  | zero =>
    intro g x y hg hg0 h
    rcases h with h | ⟨_, _, h⟩
    · rw [h]; rfl
    · omega
  | succ m ih =>
    intro g x y hg hg0 h
    rw [lpF, lpF]
    refine ih (g + 1) _ _ (by omega) (by omega) ?_
    by_cases hv : g &&& p = g ∧ g.testBit (lowN p) = true ∧ 0 ≤ T g
    · have eT := hT g hg0 hv.1
      have hd : dif p g < p := dif_lt hl hv.2.1
      obtain ⟨eB, eC⟩ := hB (dif p g) hd (sub_dif p g)
      left
      have hv' : g &&& p = g ∧ g.testBit (lowN p) = true ∧ 0 ≤ T' g := by rw [← eT]; exact hv
      unfold lpS
      rw [if_pos hv, if_pos hv', ← eT, ← eB, ← eC]
      rcases h with h | ⟨hx, hy, _⟩
      · rw [h]
      · rw [if_pos (Or.inl (by rw [hx]; decide)), if_pos (Or.inl (by rw [hy]; decide))]
    · have eS : lpS T B C p g x = x := by unfold lpS; rw [if_neg hv]
      have eS' : lpS T' B' C' p g y = y := by
        unfold lpS
        rw [if_neg]
        rintro ⟨w1, w2, w3⟩
        exact hv ⟨w1, w2, by rw [hT g hg0 w1]; exact w3⟩
      rw [eS, eS']
      rcases h with h | ⟨hx, hy, hg2⟩
      · exact Or.inl h
      · refine Or.inr ⟨hx, hy, ?_⟩
        rcases Nat.lt_or_ge g (2 ^ lowN p) with q9 | q9
        · exact q9
        · have e : g = 2 ^ lowN p := by omega
          subst e
          exact absurd ⟨hs, by rw [Nat.testBit_two_pow]; exact decide_eq_true rfl, h1⟩ hv
theorem dp_eq {T T' : Nat → Int32} {n : Nat} (hn : n < 1024) (hT : ∀ g, 0 < g → sub g n → T g = T' g) (h1 : ∀ s, n.testBit s = true → 0 ≤ T (2 ^ s)) (t t' : T3) : ∀ k p, p ≤ k → sub p n → (dpK T n t k).1 p = (dpK T' n t' k).1 p ∧ (dpK T n t k).2.1 p = (dpK T' n t' k).2.1 p ∧ (0 < p → (dpK T n t k).2.2 p = (dpK T' n t' k).2.2 p) := by
  intro k
  induction k with
  | zero =>
    intro p hp hs
    have e : p = 0 := by omega
    subst e
    refine ⟨?_, ?_, fun z9 => absurd z9 (by decide)⟩
    · rw [dpK, dpK]; dsimp only; exact pk_us.trans pk_us.symm
    · rw [dpK, dpK]; dsimp only; exact pk_us.trans pk_us.symm
  | succ k ih =>
    intro p hp hs
    rw [dpK, dpK]
    by_cases c : (k + 1) &&& n = k + 1
    · rw [if_pos c, if_pos c]
      unfold dpU
      dsimp only
      have hk : k + 1 < 1024 := Nat.lt_of_le_of_lt (sub_le c) hn
      have hlow := low_tb' hk (by omega)
      have hX : dpX T (dpK T n t k) (k + 1) = dpX T' (dpK T' n t' k) (k + 1) := by
        unfold dpX
        refine lp_eq hk (by omega) (fun g hg hgs => hT g hg (sub_tr hgs c)) (fun d hd hds => ?_) (h1 _ (sub_tb.mp c _ hlow)) (k + 1) 1 _ _ (by omega) (by decide) (Or.inr ⟨rfl, rfl, Nat.two_pow_pos _⟩)
        have := ih d (by omega) (sub_tr hds c)
        exact ⟨this.1, this.2.1⟩
      rw [hX]
      by_cases e : p = k + 1
      · subst e
        exact ⟨pk_us.trans pk_us.symm, pk_us.trans pk_us.symm, fun _ => pk_us.trans pk_us.symm⟩
      · rw [pk_un e, pk_un e, pk_un e, pk_un e, pk_un e, pk_un e]
        exact ih p (by omega) hs
    · rw [if_neg c, if_neg c]
      have e : p ≠ k + 1 := fun e => c (by rw [← e]; exact hs)
      exact ih p (by omega) hs
theorem rl_lp {P : RST → Prop} {r : Nat → Int32} {T B C F : Nat → Int32} {p : Nat} (hp : p < 1024) (h0 : 0 < p) : ∀ (m g fuel : Nat) (x : X3) (q : Nat → Nat → Int32), g + m = p + 1 → m < fuel → 0 < g → q 7 = T → q 8 = upd B p x.1 → q 9 = upd C p x.2.1 → q 10 = upd F p x.2.2 → (∀ q1, kQ q q1 [8, 9, 10] → q1 8 = upd B p (lpF T B C p m g x).1 → q1 9 = upd C p (lpF T B C p m g x).2.1 → q1 10 = upd F p (lpF T B C p m g x).2.2 → P (r, q1)) → wp_X11_layPart_14 P fuel (nI p) (nI (2 ^ lowN p)) (nI g) r q := by
  intro m
  induction m with
  | zero =>
    intro g fuel x q hg hf hg0 h7 h8 h9 h10 hP
    obtain ⟨f, rfl⟩ : ∃ f, fuel = f + 1 := ⟨fuel - 1, by omega⟩; rw [wp_X11_layPart_14]; unfold wb_X11_layPart_14; dsimp only
    rw [nI_ltI (by omega) (by omega)]
    exact ⟨fun _ => hP q kQ.rf h8 h9 h10, fun z9 => absurd (by omega) z9⟩
  | succ m ih =>
    intro g fuel x q hg hf hg0 h7 h8 h9 h10 hP
    have hlow := low_tb' hp h0
    have hlw : 2 ^ lowN p ≤ p := by
      have hs : sub (2 ^ lowN p) p := sub_tb.mpr fun i hi => by
        rw [Nat.testBit_two_pow] at hi
        rw [← of_decide_eq_true hi]
        exact hlow
      exact sub_le hs
    rw [lpF] at hP
    obtain ⟨f, rfl⟩ : ∃ f, fuel = f + 1 := ⟨fuel - 1, by omega⟩; rw [wp_X11_layPart_14]; unfold wb_X11_layPart_14; dsimp only
    rw [nI_ltI (by omega) (by omega), nI_dif, nI_dif, nI_and]
    have hgp : g &&& 2 ^ lowN p < 2 ^ 31 := Nat.lt_of_le_of_lt Nat.and_le_left (by omega)
    have hdg : dif g p < 2 ^ 31 := Nat.lt_of_le_of_lt (sub_le (sub_dif g p)) (by omega)
    have hdp : dif p g ≤ p := sub_le (sub_dif p g)
    rw [nz_eq0 hdg, nz_eq0 hgp, dif_0, pw_and, nz_vp (by omega) (by decide), nz_vp (by omega) (by decide), nz_vp (by omega) (by decide), nI_clamp (n := g) (by omega), nI_clamp (n := p) (by omega), nI_clamp (n := dif p g) (by omega), nI_1]
    -- the next group, nothing taken
    have next : lpS T B C p g x = x → ∀ v : Int32, v = nI (g + 1) → wp_X11_layPart_14 P f (nI p) (nI (2 ^ lowN p)) v r q := fun hx v e => by
      subst e
      rw [hx] at hP
      exact ih (g + 1) f x q (by omega) (by omega) (by omega) h7 h8 h9 h10 hP
    refine ⟨fun z9 => absurd z9 (by omega), fun _ => ⟨fun c1 => next (by unfold lpS; rw [if_neg (fun w9 => c1 w9.1)]), fun c1 => ⟨fun c2 => next (by unfold lpS; rw [if_neg (fun w9 => by rw [c2] at w9; exact absurd w9.2.1 (by decide))]), fun c2 => ⟨by omega, fun c3 => next (by unfold lpS; rw [if_neg (fun w9 => by rw [h7] at c3; exact absurd c3 (Int32.not_lt.mpr w9.2.2))]), fun c3 => ⟨by omega, by omega, fun v14 e14 => ⟨by omega, fun v16 e16 => ⟨by omega, ?_⟩⟩⟩⟩⟩⟩⟩
    have ct : g.testBit (lowN p) = true := by
      cases h : g.testBit (lowN p) with
      | true => rfl
      | false => exact absurd h c2
    rw [h7] at c3
    have hval : g &&& p = g ∧ g.testBit (lowN p) = true ∧ 0 ≤ T g := ⟨c1, ct, Int32.not_lt.mp c3⟩
    have hd : dif p g < p := dif_lt hlow ct
    have ed8 : q 8 (dif p g) = B (dif p g) := by rw [h8, pk_un (by omega)]
    have ed9 : q 9 (dif p g) = C (dif p g) := by rw [h9, pk_un (by omega)]
    rw [h7, ed8] at e14
    rw [ed9] at e16
    have ex8 : q 8 p = x.1 := by rw [h8, pk_us]
    have ex9 : q 9 p = x.2.1 := by rw [h9, pk_us]
    rw [ex8, ex9]
    have hS : lpS T B C p g x = if x.1 < 0 ∨ v14 < x.1 ∨ (v14 = x.1 ∧ v16 < x.2.1) then (v14, v16, nI g) else x := by
      unfold lpS
      rw [if_pos hval, ← e14, ← e16]
    -- it is taken
    have take : (x.1 < 0 ∨ v14 < x.1 ∨ (v14 = x.1 ∧ v16 < x.2.1)) → (∀ q20 : Nat → Nat → Int32, q20 = va_up q 8 (upd (q 8) p v14) → (p < 1024 ∧ (∀ q22 : Nat → Nat → Int32, q22 = va_up q20 9 (upd (q20 9) p v16) → (p < 1024 ∧ (∀ q24 : Nat → Nat → Int32, q24 = va_up q22 10 (upd (q22 10) p (nI g)) → (∀ v25 : Int32, v25 = nI (g + 1) → (wp_X11_layPart_14 P f (nI p) (nI (2 ^ lowN p)) v25 r q24))))))) := by
      intro hc q20 e20
      refine ⟨by omega, fun q22 e22 => ⟨by omega, fun q24 e24 v25 e25 => ?_⟩⟩
      subst e25
      have k24 : kQ q q24 [8, 9, 10] := by rw [e24, e22, e20]; exact ((kQ.rf.up (by decide) _).up (by decide) _).up (by decide) _
      rw [if_pos hc] at hS
      rw [hS] at hP
      refine ih (g + 1) f (v14, v16, nI g) q24 (by omega) (by omega) (by omega) ((k24 7 (by decide)).trans h7) ?_ ?_ ?_ (fun q1 g1 g2 g3 g4 => hP q1 (k24.tr g1 (fun _ h => h) (fun _ h => h)) g2 g3 g4)
      · rw [e24, va_up_ne _ _ (by decide), e22, va_up_ne _ _ (by decide), e20, va_up_self, h8, up_up]
      · rw [e24, va_up_ne _ _ (by decide), e22, va_up_self, e20, va_up_ne _ _ (by decide), h9, up_up]
      · rw [e24, va_up_self, e22, va_up_ne _ _ (by decide), e20, va_up_ne _ _ (by decide), h10, up_up]
    refine ⟨fun c4 => ⟨by omega, take (Or.inl c4)⟩, fun c4 => ⟨by omega, fun c5 => ⟨by omega, take (Or.inr (Or.inl c5))⟩, fun c5 => ⟨by omega, fun c6 => next ?_, fun c6 => ⟨by omega, fun c7 => next ?_, fun c7 => ⟨by omega, take (Or.inr (Or.inr ⟨c6, Int32.not_le.mp c7⟩))⟩⟩⟩⟩⟩
    · rw [hS, if_neg]
      rintro (w9 | w9 | w9)
      · exact c4 w9
      · exact c5 w9
      · exact c6 w9.1
    · rw [hS, if_neg]
      rintro (w9 | w9 | w9)
      · exact c4 w9
      · exact c5 w9
      · exact absurd w9.2 (Int32.not_lt.mpr c7)
theorem k_X11_layPart (l : Launch) (D : va_G) (T : Nat → ClassId) (m0 : Nat) (a : Nat → Nat) (p0 : Int32) (r : Nat → Int32) (q : Nat → Nat → Int32) (h : ∃ p : Nat, p < 1024 ∧ 0 < p ∧ p0 = nI p) : RMv l yX11_layPart (ws_X11_layPart) rm_X11_layPart D T m0 a [.ref m0, .int p0] r q (fun u => (u.1 = r ∧ kQ q u.2 [8, 9, 10] ∧ u.2 8 = upd (q 8) (iv p0) (dpX (q 7) (q 8, q 9, q 10) (iv p0)).1 ∧ u.2 9 = upd (q 9) (iv p0) (dpX (q 7) (q 8, q 9, q 10) (iv p0)).2.1 ∧ u.2 10 = upd (q 10) (iv p0) (dpX (q 7) (q 8, q 9, q 10) (iv p0)).2.2)) := c_X11_layPart l D T m0 a p0 r q _ <|
  (by
    obtain ⟨p, hp, h0, rfl⟩ := h
    have ip : iv (nI p) = p := nI_clamp (by omega)
    rw [ip]
    unfold wp_X11_layPart
    intro v1 e1
    rw [low_bit hp h0] at e1
    subst e1
    rw [nz_vp (by omega) (by decide), nI_clamp (n := p) (by omega)]
    refine ⟨hp, fun q3 e3 => ⟨2000, ?_⟩⟩
    refine rl_lp (T := q 7) (B := q 8) (C := q 9) (F := q 10) hp h0 p 1 2000 (-1, q 9 p, q 10 p) q3 (by omega) (by omega) (by decide) ?_ ?_ ?_ ?_ (fun q1 g1 g2 g3 g4 => ?_)
    · rw [e3, va_up_ne _ _ (by decide)]
    · rw [e3, va_up_self]
    · rw [e3, va_up_ne _ _ (by decide)]; exact up_id.symm
    · rw [e3, va_up_ne _ _ (by decide)]; exact up_id.symm
    · have k3 : kQ q q3 [8, 9, 10] := by rw [e3]; exact kQ.rf.up (by decide) _
      exact ⟨rfl, k3.tr g1 (fun _ h => h) (fun _ h => h), g2, g3, g4⟩)
abbrev ws_X11_layBest : List Cond := Cond.code yX11_layBest cX11_layBest 3 none :: W0
abbrev rm_X11_layBest : Room := ({ frames := 7, cells := 0, slots := 0, locals := 161 } : Room)
def wb_X11_layBest_21 (rec : Int32 → Int32 → (Nat → Int32) → (Nat → Nat → Int32) → Prop) (P : RST → Prop) (x1 : Int32) (x2 : Int32) (r : Nat → Int32) (q : Nat → Nat → Int32) : Prop := (x1 < x2 → (P (r, q))) ∧ (¬ x1 < x2 → ((¬ (x2 &&& (x1 ^^^ (-1))) = 0 → (∀ v11 : Int32, v11 = x2 + 1 → (rec x1 v11 r q))) ∧ ((x2 &&& (x1 ^^^ (-1))) = 0 → ((∃ p : Nat, p < 1024 ∧ 0 < p ∧ x2 = nI p) ∧ (∀ (r13 : Nat → Int32) (q14 : Nat → Nat → Int32), (r13 = r ∧ kQ q q14 [8, 9, 10] ∧ q14 8 = upd (q 8) (iv x2) (dpX (q 7) (q 8, q 9, q 10) (iv x2)).1 ∧ q14 9 = upd (q 9) (iv x2) (dpX (q 7) (q 8, q 9, q 10) (iv x2)).2.1 ∧ q14 10 = upd (q 10) (iv x2) (dpX (q 7) (q 8, q 9, q 10) (iv x2)).2.2) → (∀ v16 : Int32, v16 = x2 + 1 → (rec x1 v16 r13 q14)))))))
def wp_X11_layBest_21 (P : RST → Prop) : Nat → Int32 → Int32 → (Nat → Int32) → (Nat → Nat → Int32) → Prop
  | 0 => fun _ _ _ _ => False
  | n + 1 => fun x1 x2 r q => wb_X11_layBest_21 (wp_X11_layBest_21  P n)  P x1 x2 r q
set_option maxRecDepth 100000 in
set_option maxHeartbeats 4000000 in
theorem t_X11_layBest_21 {p : Program} {l : Launch} {e : Env} {s : State} {m : MethodId} {args : Array Value} {below : List Frame} {meth : Method} {c : Code} {D : va_G} {A : Nat → Prop} {T : Nat → ClassId} {m0 : Nat} {a : Nat → Nat} (C : GC p s m args meth c cX11_layBest "FreightRaterModel" (ws_X11_layBest) 3 D A (zty T)) (hr : meth.sig.returnType = none) (P : RST → Prop) : ∀ (n : Nat) (x1 : Int32) (x2 : Int32) (r : Nat → Int32) (q : Nat → Nat → Int32), wp_X11_layBest_21  P n x1 x2 r q → GW p l e rm_X11_layBest s m args below meth c D A 3 0 0 (MQ below (va_Qv P (RE D T m0 a A) A) args s 0 0 A) (RW m0 a T r q) 0 0 21 [(0, .ref m0), (1, .int x1), (2, .int x2)] [] := by
  have hw : ∀ {w : Cond}, w ∈ W0 → w.before args s = true := fun h => C.2.2.2.2.1 _ (List.mem_cons_of_mem _ h)
  intro n
  induction n with
  | zero => intro x1 x2 r q h; exact h.elim
  | succ n ih =>
    intro x1 x2 r q h
    replace h : wb_X11_layBest_21 (wp_X11_layBest_21  P n)  P x1 x2 r q := h
    unfold wb_X11_layBest_21 at h
    refine g_iload_n C dX11_layBest_21 rfl 2 rfl ?_
    refine g_iload_n C dX11_layBest_22 rfl 1 rfl ?_
    refine g_icmp_gt (tgt := 45) C dX11_layBest_23 (by decide) (fun z9 => ?_) (fun z9 => ?_)
    · replace h := h.1 z9
      exact gr_vret C hr dX11_layBest_45 h
    · replace h := h.2 z9
      refine g_iload_n C dX11_layBest_26 rfl 2 rfl ?_
      refine g_iload_n C dX11_layBest_27 rfl 1 rfl ?_
      refine g_iconst (v := -1) C dX11_layBest_28 (by decide) ?_
      refine g_ixor C dX11_layBest_29 ?_
      refine g_iand C dX11_layBest_30 ?_
      refine g_if_ne (tgt := 39) C dX11_layBest_31 (by decide) (fun z10 => ?_) (fun z10 => ?_)
      · replace h := h.1 z10
        obtain ⟨v11, ev11⟩ : ∃ y : Int32, y = x2 + 1 := ⟨_, rfl⟩
        replace h := h v11 ev11
        refine g_iinc (v := v11) (lv' := [(2, .int v11), (0, .ref m0), (1, .int x1)]) C dX11_layBest_39 (j := 2) rfl (by rw [ev11]; rfl) (by decide) rfl ?_
        refine g_goto (tgt := 21) C dX11_layBest_42 (by decide) ?_
        refine g_locals [1, 2, 0] rfl ?_
        exact ih x1 v11 r q h
      · replace h := h.2 z10
        refine g_aload_n C dX11_layBest_34 rfl 0 rfl ?_
        refine g_iload_n C dX11_layBest_35 rfl 2 rfl ?_
        obtain ⟨g15, h⟩ := h
        refine gr_callvV C [.int x2] rfl (k_X11_layPart l D T m0 a x2 r q g15) (w0_V 1 C.2.2.2.2.1 kw_2263 kw_2265 ks_100 kw_9 kw_2266 rfl rfl (by decide +kernel) ⟨by decide, by decide⟩) rfl (Nat.le_of_ble_eq_true rfl) (Nat.zero_le _) (Nat.zero_le _) dX11_layBest_36 (fun r13 q14 hp => ?_)
        replace h := h r13 q14 hp
        obtain ⟨v16, ev16⟩ : ∃ y : Int32, y = x2 + 1 := ⟨_, rfl⟩
        replace h := h v16 ev16
        refine g_iinc (v := v16) (lv' := [(2, .int v16), (0, .ref m0), (1, .int x1)]) C dX11_layBest_39 (j := 2) rfl (by rw [ev16]; rfl) (by decide) rfl ?_
        refine g_goto (tgt := 21) C dX11_layBest_42 (by decide) ?_
        refine g_locals [1, 2, 0] rfl ?_
        exact ih x1 v16 r13 q14 h
def wp_X11_layBest (P : RST → Prop) (p0 : Int32) (r : Nat → Int32) (q : Nat → Nat → Int32) : Prop := (WF (q 0) ∧ gok (q 0) p0) ∧ (∀ (r2 : Nat → Int32) (q3 : Nat → Nat → Int32), (kQ q q3 [7] ∧ kR r r2 [7, 17, 18, 19, 20, 21, 22, 23, 24, 25, 26, 27, 28] ∧ ∀ p, 0 < p → sub p (iv p0) → q3 7 p = ttF (q 0) p) → (vp_in 0 1024 ∧ (∀ q6 : Nat → Nat → Int32, q6 = va_up q3 8 (upd (q3 8) (Int32.toNatClampNeg 0) 0) → (vp_in 0 1024 ∧ (∀ q8 : Nat → Nat → Int32, q8 = va_up q6 9 (upd (q6 9) (Int32.toNatClampNeg 0) 0) → (∃ k17 : Nat, wp_X11_layBest_21  P k17 p0 1 r2 q8))))))
set_option maxRecDepth 100000 in
set_option maxHeartbeats 4000000 in
theorem t_X11_layBest {p : Program} {l : Launch} {e : Env} {s : State} {m : MethodId} {args : Array Value} {below : List Frame} {meth : Method} {c : Code} {D : va_G} {A : Nat → Prop} {T : Nat → ClassId} {m0 : Nat} {a : Nat → Nat} (C : GC p s m args meth c cX11_layBest "FreightRaterModel" (ws_X11_layBest) 3 D A (zty T)) (hr : meth.sig.returnType = none) (P : RST → Prop) : ∀ (p0 : Int32) (r : Nat → Int32) (q : Nat → Nat → Int32), wp_X11_layBest P p0 r q → GW p l e rm_X11_layBest s m args below meth c D A 3 0 0 (MQ below (va_Qv P (RE D T m0 a A) A) args s 0 0 A) (RW m0 a T r q) 0 0 0 [(0, .ref m0), (1, .int p0)] [] := by
  have hw : ∀ {w : Cond}, w ∈ W0 → w.before args s = true := fun h => C.2.2.2.2.1 _ (List.mem_cons_of_mem _ h)
  intro p0 r q h
  unfold wp_X11_layBest at h
  refine g_aload_n C dX11_layBest_0 rfl 0 rfl ?_
  refine g_iload_n C dX11_layBest_1 rfl 1 rfl ?_
  obtain ⟨g4, h⟩ := h
  refine gr_callvV C [.int p0] rfl (k_X11_layTotals l D T m0 a p0 r q g4) (w0_V 1 C.2.2.2.2.1 kw_2259 kw_2261 ks_99 kw_9 kw_2262 rfl rfl (by decide +kernel) ⟨by decide, by decide⟩) rfl (Nat.le_of_ble_eq_true rfl) (Nat.zero_le _) (Nat.zero_le _) dX11_layBest_2 (fun r2 q3 hp => ?_)
  replace h := h r2 q3 hp
  refine g_aload_n C dX11_layBest_5 rfl 0 rfl ?_
  refine gr_get C iwx_X11 32 (hw kw_1841) (by decide) rfl rfl dX11_layBest_6 ?_
  refine g_iconst (v := 0) C dX11_layBest_9 (by decide) ?_
  refine g_iconst (v := 0) C dX11_layBest_10 (by decide) ?_
  obtain ⟨g5, h⟩ := h
  refine gr_ast_8 C g5 dX11_layBest_11 ?_
  refine gr_nq (fun q6 eq6 => ?_)
  replace h := h q6 eq6
  refine g_aload_n C dX11_layBest_12 rfl 0 rfl ?_
  refine gr_get C iwx_X11 33 (hw kw_1842) (by decide) rfl rfl dX11_layBest_13 ?_
  refine g_iconst (v := 0) C dX11_layBest_16 (by decide) ?_
  refine g_iconst (v := 0) C dX11_layBest_17 (by decide) ?_
  obtain ⟨g7, h⟩ := h
  refine gr_ast_9 C g7 dX11_layBest_18 ?_
  refine gr_nq (fun q8 eq8 => ?_)
  replace h := h q8 eq8
  refine g_iconst (v := 1) C dX11_layBest_19 (by decide) ?_
  refine g_istore_n (lv' := [(2, .int 1), (0, .ref m0), (1, .int p0)]) C dX11_layBest_20 rfl (by decide) rfl ?_
  refine g_locals [1, 2, 0] rfl ?_
  obtain ⟨k17, h⟩ := h
  refine t_X11_layBest_21 C hr  P  k17 p0 1 r2 q8 h
theorem c_X11_layBest (l : Launch) (D : va_G) (T : Nat → ClassId) (m0 : Nat) (a : Nat → Nat) (p0 : Int32) (r : Nat → Int32) (q : Nat → Nat → Int32) (P : RST → Prop) (h : wp_X11_layBest P p0 r q) : RMv l yX11_layBest (ws_X11_layBest) rm_X11_layBest D T m0 a [.ref m0, .int p0] r q P := gr_metv (by decide) rfl rfl (Nat.le_of_ble_eq_true rfl) (fun p e s m args below meth c A C hr => t_X11_layBest C hr P p0 r q h)
theorem rl_lb {P : RST → Prop} {r : Nat → Int32} {T : Nat → Int32} {n : Nat} {t : T3} (hn : n < 1024) (h0 : 0 < n) : ∀ (m k fuel : Nat) (q : Nat → Nat → Int32), k + m = n → m < fuel → q 7 = T → q 8 = (dpK T n t k).1 → q 9 = (dpK T n t k).2.1 → q 10 = (dpK T n t k).2.2 → (∀ q1, kQ q q1 [8, 9, 10] → q1 8 = (dpK T n t n).1 → q1 9 = (dpK T n t n).2.1 → q1 10 = (dpK T n t n).2.2 → P (r, q1)) → wp_X11_layBest_21 P fuel (nI n) (nI (k + 1)) r q := by
  intro m
  induction m with
  | zero =>
    intro k fuel q hk hf h7 h8 h9 h10 hP
    have e : k = n := by omega
    subst e
    obtain ⟨f, rfl⟩ : ∃ f, fuel = f + 1 := ⟨fuel - 1, by omega⟩; rw [wp_X11_layBest_21]; unfold wb_X11_layBest_21; dsimp only
    rw [nI_ltI (by omega) (by omega)]
    exact ⟨fun _ => hP q kQ.rf h8 h9 h10, fun z9 => absurd (by omega) z9⟩
  | succ m ih =>
    intro k fuel q hk hf h7 h8 h9 h10 hP
    obtain ⟨f, rfl⟩ : ∃ f, fuel = f + 1 := ⟨fuel - 1, by omega⟩; rw [wp_X11_layBest_21]; unfold wb_X11_layBest_21; dsimp only
    rw [nI_ltI (by omega) (by omega), nI_dif, nz_eq0 (Nat.lt_of_le_of_lt (sub_le (sub_dif (k + 1) n)) (by omega)), dif_0, nI_1]
    refine ⟨fun z9 => absurd z9 (by omega), fun _ => ⟨fun c1 v11 e11 => ?_, fun c1 => ⟨⟨k + 1, by omega, by omega, rfl⟩, fun r13 q14 hh v15 e15 => ?_⟩⟩⟩
    · subst e11
      have e : dpK T n t (k + 1) = dpK T n t k := by rw [dpK, if_neg (show ¬ ((k + 1) &&& n = k + 1) from c1)]
      rw [← e] at h8 h9 h10
      exact ih (k + 1) f q (by omega) (by omega) h7 h8 h9 h10 hP
    · subst e15
      obtain ⟨a1, a2, a3, a4, a5⟩ := hh
      subst a1
      have ik : iv (nI (k + 1)) = k + 1 := nI_clamp (by omega)
      rw [ik, h7, h8, h9, h10] at a3 a4 a5
      have e : dpK T n t (k + 1) = dpU T (dpK T n t k) (k + 1) := by rw [dpK, if_pos (show (k + 1) &&& n = k + 1 from c1)]
      exact ih (k + 1) f q14 (by omega) (by omega) ((a2 7 (by decide)).trans h7) (by rw [e]; exact a3) (by rw [e]; exact a4) (by rw [e]; exact a5) (fun q1 g1 g2 g3 g4 => hP q1 (a2.tr g1 (fun _ h => h) (fun _ h => h)) g2 g3 g4)
theorem k_X11_layBest (l : Launch) (D : va_G) (T : Nat → ClassId) (m0 : Nat) (a : Nat → Nat) (p0 : Int32) (r : Nat → Int32) (q : Nat → Nat → Int32) (h : WF (q 0) ∧ gok (q 0) p0 ∧ sgO (q 0) (iv p0)) : RMv l yX11_layBest (ws_X11_layBest) rm_X11_layBest D T m0 a [.ref m0, .int p0] r q (fun u => (lbP r q (iv p0) u.1 u.2)) := c_X11_layBest l D T m0 a p0 r q _ <|
  (by
    obtain ⟨hw, ⟨n, ns, hns, hns10, h0, hlt, rfl⟩, hsg⟩ := h
    have hn : n < 1024 := Nat.lt_of_lt_of_le hlt (p2_le hns10)
    have en : iv (nI n) = n := nI_clamp (by omega)
    rw [en] at hsg
    rw [en]
    unfold wp_X11_layBest
    refine ⟨⟨hw, n, ns, hns, hns10, h0, hlt, rfl⟩, fun r2 q3 hh => ?_⟩
    obtain ⟨a1, a2, a3⟩ := hh
    rw [en] at a3
    rw [cl_0, nz_vp0 (by decide)]
    refine ⟨by decide, fun q6 e6 => ⟨by decide, fun q8 e8 => ⟨2000, ?_⟩⟩⟩
    have k8 : kQ q3 q8 [8, 9, 10] := by rw [e8, e6]; exact (kQ.rf.up (by decide) _).up (by decide) _
    refine rl_lb (T := q3 7) (t := (q3 8, q3 9, q3 10)) hn h0 n 0 2000 q8 (by omega) (by omega) (k8 7 (by decide)) ?_ ?_ ?_ (fun q1 g1 g2 g3 g4 => ?_)
    · rw [e8, va_up_ne _ _ (by decide), e6, va_up_self]; rfl
    · rw [e8, va_up_self, e6, va_up_ne _ _ (by decide)]; rfl
    · rw [e8, va_up_ne _ _ (by decide), e6, va_up_ne _ _ (by decide)]; rfl
    · have k1 := k8.tr g1 (L := [8, 9, 10]) (fun _ h => h) (fun _ h => h)
      refine ⟨a1.tr k1 (by decide) (by decide), a2, fun p hp hs => by dsimp only; rw [show q1 7 = q3 7 from k1 7 (by decide)]; exact a3 p hp hs, fun p hs => ?_⟩
      dsimp only
      rw [g2, g3, g4]
      exact dp_eq hn (fun g hg hgs => a3 g hg hgs) (fun s hs => by rw [a3 _ (Nat.two_pow_pos s) (sub_tb.mpr fun i hi => by rw [Nat.testBit_two_pow] at hi; rw [← of_decide_eq_true hi]; exact hs)]; exact hsg s hs) _ _ n p (sub_le hs) hs)

end S_RPS
