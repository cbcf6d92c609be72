section S_TODO
def wb_X11_layPart_14 (rec : Int32 → Int32 → Int32 → (Nat → Int32) → (Nat → Nat → Int32) → Prop) (P : RST → Prop) (x1 : Int32) (x2 : Int32) (x3 : Int32) (r : Nat → Int32) (q : Nat → Nat → Int32) : Prop := (x1 < x3 → (P (r, q))) ∧ (¬ x1 < x3 → ((¬ (x3 &&& (x1 ^^^ (-1))) = 0 → (∀ v6 : Int32, v6 = x3 + 1 → (rec x1 x2 v6 r q))) ∧ ((x3 &&& (x1 ^^^ (-1))) = 0 → (((x3 &&& x2) = 0 → (∀ v8 : Int32, v8 = x3 + 1 → (rec x1 x2 v8 r q))) ∧ (¬ (x3 &&& x2) = 0 → (vp_in x3 1024 ∧ (((q 7 (Int32.toNatClampNeg x3)) < 0 → (∀ v11 : Int32, v11 = x3 + 1 → (rec x1 x2 v11 r q))) ∧ (¬ (q 7 (Int32.toNatClampNeg x3)) < 0 → (vp_in x3 1024 ∧ (vp_in (x1 &&& (x3 ^^^ (-1))) 1024 ∧ (∀ v14 : Int32, v14 = ((q 7 (Int32.toNatClampNeg x3)) + (q 8 (Int32.toNatClampNeg (x1 &&& (x3 ^^^ (-1)))))) → (vp_in (x1 &&& (x3 ^^^ (-1))) 1024 ∧ (∀ v16 : Int32, v16 = (1 + (q 9 (Int32.toNatClampNeg (x1 &&& (x3 ^^^ (-1)))))) → (vp_in x1 1024 ∧ (((q 8 (Int32.toNatClampNeg x1)) < 0 → (vp_in x1 1024 ∧ (∀ q20 : Nat → Nat → Int32, q20 = va_up q 8 (upd (q 8) (Int32.toNatClampNeg x1) v14) → (vp_in x1 1024 ∧ (∀ q22 : Nat → Nat → Int32, q22 = va_up q20 9 (upd (q20 9) (Int32.toNatClampNeg x1) v16) → (vp_in x1 1024 ∧ (∀ q24 : Nat → Nat → Int32, q24 = va_up q22 10 (upd (q22 10) (Int32.toNatClampNeg x1) x3) → (∀ v25 : Int32, v25 = x3 + 1 → (rec x1 x2 v25 r q24))))))))) ∧ (¬ (q 8 (Int32.toNatClampNeg x1)) < 0 → (vp_in x1 1024 ∧ ((v14 < (q 8 (Int32.toNatClampNeg x1)) → (vp_in x1 1024 ∧ (∀ q29 : Nat → Nat → Int32, q29 = va_up q 8 (upd (q 8) (Int32.toNatClampNeg x1) v14) → (vp_in x1 1024 ∧ (∀ q31 : Nat → Nat → Int32, q31 = va_up q29 9 (upd (q29 9) (Int32.toNatClampNeg x1) v16) → (vp_in x1 1024 ∧ (∀ q33 : Nat → Nat → Int32, q33 = va_up q31 10 (upd (q31 10) (Int32.toNatClampNeg x1) x3) → (∀ v34 : Int32, v34 = x3 + 1 → (rec x1 x2 v34 r q33))))))))) ∧ (¬ v14 < (q 8 (Int32.toNatClampNeg x1)) → (vp_in x1 1024 ∧ ((¬ v14 = (q 8 (Int32.toNatClampNeg x1)) → (∀ v37 : Int32, v37 = x3 + 1 → (rec x1 x2 v37 r q))) ∧ (v14 = (q 8 (Int32.toNatClampNeg x1)) → (vp_in x1 1024 ∧ (((q 9 (Int32.toNatClampNeg x1)) ≤ v16 → (∀ v40 : Int32, v40 = x3 + 1 → (rec x1 x2 v40 r q))) ∧ (¬ (q 9 (Int32.toNatClampNeg x1)) ≤ v16 → (vp_in x1 1024 ∧ (∀ q42 : Nat → Nat → Int32, q42 = va_up q 8 (upd (q 8) (Int32.toNatClampNeg x1) v14) → (vp_in x1 1024 ∧ (∀ q44 : Nat → Nat → Int32, q44 = va_up q42 9 (upd (q42 9) (Int32.toNatClampNeg x1) v16) → (vp_in x1 1024 ∧ (∀ q46 : Nat → Nat → Int32, q46 = va_up q44 10 (upd (q44 10) (Int32.toNatClampNeg x1) x3) → (∀ v47 : Int32, v47 = x3 + 1 → (rec x1 x2 v47 r q46)))))))))))))))))))))))))))))))))
def wp_X11_layPart_14 (P : RST → Prop) : Nat → Int32 → Int32 → Int32 → (Nat → Int32) → (Nat → Nat → Int32) → Prop
  | 0 => fun _ _ _ _ _ => False
  | n + 1 => fun x1 x2 x3 r q => wb_X11_layPart_14 (wp_X11_layPart_14  P n)  P x1 x2 x3 r q
set_option maxRecDepth 100000 in
set_option maxHeartbeats 4000000 in
theorem t_X11_layPart_14 {p : Program} {l : Launch} {e : Env} {s : State} {m : MethodId} {args : Array Value} {below : List Frame} {meth : Method} {c : Code} {D : va_G} {A : Nat → Prop} {T : Nat → ClassId} {m0 : Nat} {a : Nat → Nat} (C : GC p s m args meth c cX11_layPart "FreightRaterModel" (ws_X11_layPart) 6 D A (zty T)) (hr : meth.sig.returnType = none) (P : RST → Prop) : ∀ (n : Nat) (x1 : Int32) (x2 : Int32) (x3 : Int32) (r : Nat → Int32) (q : Nat → Nat → Int32), wp_X11_layPart_14  P n x1 x2 x3 r q → GW p l e rm_X11_layPart s m args below meth c D A 6 0 0 (MQ below (va_Qv P (RE D T m0 a A) A) args s 0 0 A) (RW m0 a T r q) 0 0 14 [(0, .ref m0), (1, .int x1), (2, .int x2), (3, .int x3)] [] := by
  have hw : ∀ {w : Cond}, w ∈ W0 → w.before args s = true := fun h => C.2.2.2.2.1 _ (List.mem_cons_of_mem _ h)
  intro n
  induction n with
  | zero => intro x1 x2 x3 r q h; exact h.elim
  | succ n ih =>
    intro x1 x2 x3 r q h
    replace h : wb_X11_layPart_14 (wp_X11_layPart_14  P n)  P x1 x2 x3 r q := h
    unfold wb_X11_layPart_14 at h
    refine g_iload_n C dX11_layPart_14 rfl 3 rfl ?_
    refine g_iload_n C dX11_layPart_15 rfl 1 rfl ?_
    refine g_icmp_gt (tgt := 146) C dX11_layPart_16 (by decide) (fun z4 => ?_) (fun z4 => ?_)
    · replace h := h.1 z4
      exact gr_vret C hr dX11_layPart_146 h
    · replace h := h.2 z4
      refine g_iload_n C dX11_layPart_19 rfl 3 rfl ?_
      refine g_iload_n C dX11_layPart_20 rfl 1 rfl ?_
      refine g_iconst (v := -1) C dX11_layPart_21 (by decide) ?_
      refine g_ixor C dX11_layPart_22 ?_
      refine g_iand C dX11_layPart_23 ?_
      refine g_if_ne (tgt := 140) C dX11_layPart_24 (by decide) (fun z5 => ?_) (fun z5 => ?_)
      · replace h := h.1 z5
        obtain ⟨v6, ev6⟩ : ∃ y : Int32, y = x3 + 1 := ⟨_, rfl⟩
        replace h := h v6 ev6
        refine g_iinc (v := v6) (lv' := [(3, .int v6), (0, .ref m0), (1, .int x1), (2, .int x2)]) C dX11_layPart_140 (j := 3) rfl (by rw [ev6]; rfl) (by decide) rfl ?_
        refine g_goto (tgt := 14) C dX11_layPart_143 (by decide) ?_
        refine g_locals [1, 2, 3, 0] rfl ?_
        exact ih x1 x2 v6 r q h
      · replace h := h.2 z5
        refine g_iload_n C dX11_layPart_27 rfl 3 rfl ?_
        refine g_iload_n C dX11_layPart_28 rfl 2 rfl ?_
        refine g_iand C dX11_layPart_29 ?_
        refine g_if_eq (tgt := 140) C dX11_layPart_30 (by decide) (fun z7 => ?_) (fun z7 => ?_)
        · replace h := h.1 z7
          obtain ⟨v8, ev8⟩ : ∃ y : Int32, y = x3 + 1 := ⟨_, rfl⟩
          replace h := h v8 ev8
          refine g_iinc (v := v8) (lv' := [(3, .int v8), (0, .ref m0), (1, .int x1), (2, .int x2)]) C dX11_layPart_140 (j := 3) rfl (by rw [ev8]; rfl) (by decide) rfl ?_
          refine g_goto (tgt := 14) C dX11_layPart_143 (by decide) ?_
          refine g_locals [1, 2, 3, 0] rfl ?_
          exact ih x1 x2 v8 r q h
        · replace h := h.2 z7
          refine g_aload_n C dX11_layPart_33 rfl 0 rfl ?_
          refine gr_get C iwx_X11 31 (hw kw_1840) (by decide) rfl rfl dX11_layPart_34 ?_
          refine g_iload_n C dX11_layPart_37 rfl 3 rfl ?_
          obtain ⟨g9, h⟩ := h
          refine gr_ald_7 C g9 dX11_layPart_38 ?_
          refine g_if_lt (tgt := 140) C dX11_layPart_39 (by decide) (fun z10 => ?_) (fun z10 => ?_)
          · replace h := h.1 z10
            obtain ⟨v11, ev11⟩ : ∃ y : Int32, y = x3 + 1 := ⟨_, rfl⟩
            replace h := h v11 ev11
            refine g_iinc (v := v11) (lv' := [(3, .int v11), (0, .ref m0), (1, .int x1), (2, .int x2)]) C dX11_layPart_140 (j := 3) rfl (by rw [ev11]; rfl) (by decide) rfl ?_
            refine g_goto (tgt := 14) C dX11_layPart_143 (by decide) ?_
            refine g_locals [1, 2, 3, 0] rfl ?_
            exact ih x1 x2 v11 r q h
          · replace h := h.2 z10
            refine g_aload_n C dX11_layPart_42 rfl 0 rfl ?_
            refine gr_get C iwx_X11 31 (hw kw_1840) (by decide) rfl rfl dX11_layPart_43 ?_
            refine g_iload_n C dX11_layPart_46 rfl 3 rfl ?_
            obtain ⟨g12, h⟩ := h
            refine gr_ald_7 C g12 dX11_layPart_47 ?_
            refine g_aload_n C dX11_layPart_48 rfl 0 rfl ?_
            refine gr_get C iwx_X11 32 (hw kw_1841) (by decide) rfl rfl dX11_layPart_49 ?_
            refine g_iload_n C dX11_layPart_52 rfl 1 rfl ?_
            refine g_iload_n C dX11_layPart_53 rfl 3 rfl ?_
            refine g_iconst (v := -1) C dX11_layPart_54 (by decide) ?_
            refine g_ixor C dX11_layPart_55 ?_
            refine g_iand C dX11_layPart_56 ?_
            obtain ⟨g13, h⟩ := h
            refine gr_ald_8 C g13 dX11_layPart_57 ?_
            refine g_iadd C dX11_layPart_58 ?_
            refine g_topi (fun v14 ev14 => ?_)
            replace h := h v14 ev14
            refine g_istore (lv' := [(4, .int v14), (0, .ref m0), (1, .int x1), (2, .int x2), (3, .int x3)]) C dX11_layPart_59 (by decide) rfl ?_
            refine g_iconst (v := 1) C dX11_layPart_61 (by decide) ?_
            refine g_aload_n C dX11_layPart_62 rfl 1 rfl ?_
            refine gr_get C iwx_X11 33 (hw kw_1842) (by decide) rfl rfl dX11_layPart_63 ?_
            refine g_iload_n C dX11_layPart_66 rfl 2 rfl ?_
            refine g_iload_n C dX11_layPart_67 rfl 4 rfl ?_
            refine g_iconst (v := -1) C dX11_layPart_68 (by decide) ?_
            refine g_ixor C dX11_layPart_69 ?_
            refine g_iand C dX11_layPart_70 ?_
            obtain ⟨g15, h⟩ := h
            refine gr_ald_9 C g15 dX11_layPart_71 ?_
            refine g_iadd C dX11_layPart_72 ?_
            refine g_topi (fun v16 ev16 => ?_)
            replace h := h v16 ev16
            refine g_istore (lv' := [(5, .int v16), (4, .int v14), (0, .ref m0), (1, .int x1), (2, .int x2), (3, .int x3)]) C dX11_layPart_73 (by decide) rfl ?_
            refine g_aload_n C dX11_layPart_75 rfl 2 rfl ?_
            refine gr_get C iwx_X11 32 (hw kw_1841) (by decide) rfl rfl dX11_layPart_76 ?_
            refine g_iload_n C dX11_layPart_79 rfl 3 rfl ?_
            obtain ⟨g17, h⟩ := h
            refine gr_ald_8 C g17 dX11_layPart_80 ?_
            refine g_if_lt (tgt := 117) C dX11_layPart_81 (by decide) (fun z18 => ?_) (fun z18 => ?_)
            · replace h := h.1 z18
              refine g_aload_n C dX11_layPart_117 rfl 2 rfl ?_
              refine gr_get C iwx_X11 32 (hw kw_1841) (by decide) rfl rfl dX11_layPart_118 ?_
              refine g_iload_n C dX11_layPart_121 rfl 3 rfl ?_
              refine g_iload C dX11_layPart_122 1 rfl ?_
              obtain ⟨g19, h⟩ := h
              refine gr_ast_8 C g19 dX11_layPart_124 ?_
              refine gr_nq (fun q20 eq20 => ?_)
              replace h := h q20 eq20
              refine g_aload_n C dX11_layPart_125 rfl 2 rfl ?_
              refine gr_get C iwx_X11 33 (hw kw_1842) (by decide) rfl rfl dX11_layPart_126 ?_
              refine g_iload_n C dX11_layPart_129 rfl 3 rfl ?_
              refine g_iload C dX11_layPart_130 0 rfl ?_
              obtain ⟨g21, h⟩ := h
              refine gr_ast_9 C g21 dX11_layPart_132 ?_
              refine gr_nq (fun q22 eq22 => ?_)
              replace h := h q22 eq22
              refine g_aload_n C dX11_layPart_133 rfl 2 rfl ?_
              refine gr_get C iwx_X11 34 (hw kw_1843) (by decide) rfl rfl dX11_layPart_134 ?_
              refine g_iload_n C dX11_layPart_137 rfl 3 rfl ?_
              refine g_iload_n C dX11_layPart_138 rfl 5 rfl ?_
              obtain ⟨g23, h⟩ := h
              refine gr_ast_10 C g23 dX11_layPart_139 ?_
              refine gr_nq (fun q24 eq24 => ?_)
              replace h := h q24 eq24
              obtain ⟨v25, ev25⟩ : ∃ y : Int32, y = x3 + 1 := ⟨_, rfl⟩
              replace h := h v25 ev25
              refine g_iinc (v := v25) (lv' := [(3, .int v25), (5, .int v16), (4, .int v14), (0, .ref m0), (1, .int x1), (2, .int x2)]) C dX11_layPart_140 (j := 5) rfl (by rw [ev25]; rfl) (by decide) rfl ?_
              refine g_goto (tgt := 14) C dX11_layPart_143 (by decide) ?_
              refine g_locals [3, 4, 5, 0] rfl ?_
              exact ih x1 x2 v25 r q24 h
            · replace h := h.2 z18
              refine g_iload C dX11_layPart_84 1 rfl ?_
              refine g_aload_n C dX11_layPart_86 rfl 2 rfl ?_
              refine gr_get C iwx_X11 32 (hw kw_1841) (by decide) rfl rfl dX11_layPart_87 ?_
              refine g_iload_n C dX11_layPart_90 rfl 3 rfl ?_
              obtain ⟨g26, h⟩ := h
              refine gr_ald_8 C g26 dX11_layPart_91 ?_
              refine g_icmp_lt (tgt := 117) C dX11_layPart_92 (by decide) (fun z27 => ?_) (fun z27 => ?_)
              · replace h := h.1 z27
                refine g_aload_n C dX11_layPart_117 rfl 2 rfl ?_
                refine gr_get C iwx_X11 32 (hw kw_1841) (by decide) rfl rfl dX11_layPart_118 ?_
                refine g_iload_n C dX11_layPart_121 rfl 3 rfl ?_
                refine g_iload C dX11_layPart_122 1 rfl ?_
                obtain ⟨g28, h⟩ := h
                refine gr_ast_8 C g28 dX11_layPart_124 ?_
                refine gr_nq (fun q29 eq29 => ?_)
                replace h := h q29 eq29
                refine g_aload_n C dX11_layPart_125 rfl 2 rfl ?_
                refine gr_get C iwx_X11 33 (hw kw_1842) (by decide) rfl rfl dX11_layPart_126 ?_
                refine g_iload_n C dX11_layPart_129 rfl 3 rfl ?_
                refine g_iload C dX11_layPart_130 0 rfl ?_
                obtain ⟨g30, h⟩ := h
                refine gr_ast_9 C g30 dX11_layPart_132 ?_
                refine gr_nq (fun q31 eq31 => ?_)
                replace h := h q31 eq31
                refine g_aload_n C dX11_layPart_133 rfl 2 rfl ?_
                refine gr_get C iwx_X11 34 (hw kw_1843) (by decide) rfl rfl dX11_layPart_134 ?_
                refine g_iload_n C dX11_layPart_137 rfl 3 rfl ?_
                refine g_iload_n C dX11_layPart_138 rfl 5 rfl ?_
                obtain ⟨g32, h⟩ := h
                refine gr_ast_10 C g32 dX11_layPart_139 ?_
                refine gr_nq (fun q33 eq33 => ?_)
                replace h := h q33 eq33
                obtain ⟨v34, ev34⟩ : ∃ y : Int32, y = x3 + 1 := ⟨_, rfl⟩
                replace h := h v34 ev34
                refine g_iinc (v := v34) (lv' := [(3, .int v34), (5, .int v16), (4, .int v14), (0, .ref m0), (1, .int x1), (2, .int x2)]) C dX11_layPart_140 (j := 5) rfl (by rw [ev34]; rfl) (by decide) rfl ?_
                refine g_goto (tgt := 14) C dX11_layPart_143 (by decide) ?_
                refine g_locals [3, 4, 5, 0] rfl ?_
                exact ih x1 x2 v34 r q33 h
              · replace h := h.2 z27
                refine g_iload C dX11_layPart_95 1 rfl ?_
                refine g_aload_n C dX11_layPart_97 rfl 2 rfl ?_
                refine gr_get C iwx_X11 32 (hw kw_1841) (by decide) rfl rfl dX11_layPart_98 ?_
                refine g_iload_n C dX11_layPart_101 rfl 3 rfl ?_
                obtain ⟨g35, h⟩ := h
                refine gr_ald_8 C g35 dX11_layPart_102 ?_
                refine g_icmp_ne (tgt := 140) C dX11_layPart_103 (by decide) (fun z36 => ?_) (fun z36 => ?_)
                · replace h := h.1 z36
                  obtain ⟨v37, ev37⟩ : ∃ y : Int32, y = x3 + 1 := ⟨_, rfl⟩
                  replace h := h v37 ev37
                  refine g_iinc (v := v37) (lv' := [(3, .int v37), (5, .int v16), (4, .int v14), (0, .ref m0), (1, .int x1), (2, .int x2)]) C dX11_layPart_140 (j := 5) rfl (by rw [ev37]; rfl) (by decide) rfl ?_
                  refine g_goto (tgt := 14) C dX11_layPart_143 (by decide) ?_
                  refine g_locals [3, 4, 5, 0] rfl ?_
                  exact ih x1 x2 v37 r q h
                · replace h := h.2 z36
                  refine g_iload C dX11_layPart_106 0 rfl ?_
                  refine g_aload_n C dX11_layPart_108 rfl 2 rfl ?_
                  refine gr_get C iwx_X11 33 (hw kw_1842) (by decide) rfl rfl dX11_layPart_109 ?_
                  refine g_iload_n C dX11_layPart_112 rfl 3 rfl ?_
                  obtain ⟨g38, h⟩ := h
                  refine gr_ald_9 C g38 dX11_layPart_113 ?_
                  refine g_icmp_ge (tgt := 140) C dX11_layPart_114 (by decide) (fun z39 => ?_) (fun z39 => ?_)
                  · replace h := h.1 z39
                    obtain ⟨v40, ev40⟩ : ∃ y : Int32, y = x3 + 1 := ⟨_, rfl⟩
                    replace h := h v40 ev40
                    refine g_iinc (v := v40) (lv' := [(3, .int v40), (5, .int v16), (4, .int v14), (0, .ref m0), (1, .int x1), (2, .int x2)]) C dX11_layPart_140 (j := 5) rfl (by rw [ev40]; rfl) (by decide) rfl ?_
                    refine g_goto (tgt := 14) C dX11_layPart_143 (by decide) ?_
                    refine g_locals [3, 4, 5, 0] rfl ?_
                    exact ih x1 x2 v40 r q h
                  · replace h := h.2 z39
                    refine g_aload_n C dX11_layPart_117 rfl 2 rfl ?_
                    refine gr_get C iwx_X11 32 (hw kw_1841) (by decide) rfl rfl dX11_layPart_118 ?_
                    refine g_iload_n C dX11_layPart_121 rfl 3 rfl ?_
                    refine g_iload C dX11_layPart_122 1 rfl ?_
                    obtain ⟨g41, h⟩ := h
                    refine gr_ast_8 C g41 dX11_layPart_124 ?_
                    refine gr_nq (fun q42 eq42 => ?_)
                    replace h := h q42 eq42
                    refine g_aload_n C dX11_layPart_125 rfl 2 rfl ?_
                    refine gr_get C iwx_X11 33 (hw kw_1842) (by decide) rfl rfl dX11_layPart_126 ?_
                    refine g_iload_n C dX11_layPart_129 rfl 3 rfl ?_
                    refine g_iload C dX11_layPart_130 0 rfl ?_
                    obtain ⟨g43, h⟩ := h
                    refine gr_ast_9 C g43 dX11_layPart_132 ?_
                    refine gr_nq (fun q44 eq44 => ?_)
                    replace h := h q44 eq44
                    refine g_aload_n C dX11_layPart_133 rfl 2 rfl ?_
                    refine gr_get C iwx_X11 34 (hw kw_1843) (by decide) rfl rfl dX11_layPart_134 ?_
                    refine g_iload_n C dX11_layPart_137 rfl 3 rfl ?_
                    refine g_iload_n C dX11_layPart_138 rfl 5 rfl ?_
                    obtain ⟨g45, h⟩ := h
                    refine gr_ast_10 C g45 dX11_layPart_139 ?_
                    refine gr_nq (fun q46 eq46 => ?_)
                    replace h := h q46 eq46
                    obtain ⟨v47, ev47⟩ : ∃ y : Int32, y = x3 + 1 := ⟨_, rfl⟩
                    replace h := h v47 ev47
                    refine g_iinc (v := v47) (lv' := [(3, .int v47), (5, .int v16), (4, .int v14), (0, .ref m0), (1, .int x1), (2, .int x2)]) C dX11_layPart_140 (j := 5) rfl (by rw [ev47]; rfl) (by decide) rfl ?_
                    refine g_goto (tgt := 14) C dX11_layPart_143 (by decide) ?_
                    refine g_locals [3, 4, 5, 0] rfl ?_
                    exact ih x1 x2 v47 r q46 h
def wp_X11_layPart (P : RST → Prop) (p0 : Int32) (r : Nat → Int32) (q : Nat → Nat → Int32) : Prop := ∀ v1 : Int32, v1 = (p0 &&& (-p0)) → (vp_in p0 1024 ∧ (∀ q3 : Nat → Nat → Int32, q3 = va_up q 8 (upd (q 8) (Int32.toNatClampNeg p0) (-1)) → (∃ k48 : Nat, wp_X11_layPart_14  P k48 p0 v1 1 r q3)))
set_option maxRecDepth 100000 in
set_option maxHeartbeats 4000000 in
theorem t_X11_layPart {p : Program} {l : Launch} {e : Env} {s : State} {m : MethodId} {args : Array Value} {below : List Frame} {meth : Method} {c : Code} {D : va_G} {A : Nat → Prop} {T : Nat → ClassId} {m0 : Nat} {a : Nat → Nat} (C : GC p s m args meth c cX11_layPart "FreightRaterModel" (ws_X11_layPart) 6 D A (zty T)) (hr : meth.sig.returnType = none) (P : RST → Prop) : ∀ (p0 : Int32) (r : Nat → Int32) (q : Nat → Nat → Int32), wp_X11_layPart P p0 r q → GW p l e rm_X11_layPart s m args below meth c D A 6 0 0 (MQ below (va_Qv P (RE D T m0 a A) A) args s 0 0 A) (RW m0 a T r q) 0 0 0 [(0, .ref m0), (1, .int p0)] [] := by
  have hw : ∀ {w : Cond}, w ∈ W0 → w.before args s = true := fun h => C.2.2.2.2.1 _ (List.mem_cons_of_mem _ h)
  intro p0 r q h
  unfold wp_X11_layPart at h
  refine g_iload_n C dX11_layPart_0 rfl 1 rfl ?_
  refine g_iload_n C dX11_layPart_1 rfl 1 rfl ?_
  refine g_ineg C dX11_layPart_2 ?_
  refine g_iand C dX11_layPart_3 ?_
  refine g_topi (fun v1 ev1 => ?_)
  replace h := h v1 ev1
  refine g_istore_n (lv' := [(2, .int v1), (0, .ref m0), (1, .int p0)]) C dX11_layPart_4 rfl (by decide) rfl ?_
  refine g_aload_n C dX11_layPart_5 rfl 1 rfl ?_
  refine gr_get C iwx_X11 32 (hw kw_1841) (by decide) rfl rfl dX11_layPart_6 ?_
  refine g_iload_n C dX11_layPart_9 rfl 2 rfl ?_
  refine g_iconst (v := -1) C dX11_layPart_10 (by decide) ?_
  obtain ⟨g2, h⟩ := h
  refine gr_ast_8 C g2 dX11_layPart_11 ?_
  refine gr_nq (fun q3 eq3 => ?_)
  replace h := h q3 eq3
  refine g_iconst (v := 1) C dX11_layPart_12 (by decide) ?_
  refine g_istore_n (lv' := [(3, .int 1), (2, .int v1), (0, .ref m0), (1, .int p0)]) C dX11_layPart_13 rfl (by decide) rfl ?_
  refine g_locals [2, 3, 1, 0] rfl ?_
  obtain ⟨k48, h⟩ := h
  refine t_X11_layPart_14 C hr  P  k48 p0 v1 1 r q3 h
theorem c_X11_layPart (l : Launch) (D : va_G) (T : Nat → ClassId) (m0 : Nat) (a : Nat → Nat) (p0 : Int32) (r : Nat → Int32) (q : Nat → Nat → Int32) (P : RST → Prop) (h : wp_X11_layPart P p0 r q) : RMv l yX11_layPart (ws_X11_layPart) rm_X11_layPart D T m0 a [.ref m0, .int p0] r q P := gr_metv (by decide) rfl rfl (Nat.le_of_ble_eq_true rfl) (fun p e s m args below meth c A C hr => t_X11_layPart C hr P p0 r q h)
def wp_X11_findsPair_172 (K19 : Int32 → Int32 → Int32 → (Nat → Int32) → (Nat → Nat → Int32) → Prop) (P : Int32 → RST → Prop) (x1 : Int32) (x2 : Int32) (x3 : Int32) (x5 : Int32) (s0 : Int32) (r : Nat → Int32) (q : Nat → Nat → Int32) : Prop := (x1 < x5 → (∀ r23 : Nat → Int32, r23 = va_up r 38 x2 → (∀ r24 : Nat → Int32, r24 = va_up r23 39 x3 → (∀ v25 : Int32, v25 = x3 + 1 → (K19 x5 x2 v25 r24 q))))) ∧ (¬ x1 < x5 → ((s0 = 0 → (∀ v27 : Int32, v27 = x3 + 1 → (K19 x1 x2 v27 r q))) ∧ (¬ s0 = 0 → (∀ r28 : Nat → Int32, r28 = va_up r 38 x2 → (∀ r29 : Nat → Int32, r29 = va_up r28 39 x3 → (∀ v30 : Int32, v30 = x3 + 1 → (K19 x5 x2 v30 r29 q)))))))
set_option maxRecDepth 100000 in
set_option maxHeartbeats 4000000 in
theorem t_X11_findsPair_172 {p : Program} {l : Launch} {e : Env} {s : State} {m : MethodId} {args : Array Value} {below : List Frame} {meth : Method} {c : Code} {D : va_G} {A : Nat → Prop} {T : Nat → ClassId} {m0 : Nat} {a : Nat → Nat} (C : GC p s m args meth c cX11_findsPair "FreightRaterModel" (ws_X11_findsPair) 7 D A (zty T)) (hr : meth.sig.returnType = (some .boolean)) (K19 : Int32 → Int32 → Int32 → (Nat → Int32) → (Nat → Nat → Int32) → Prop) (P : Int32 → RST → Prop) (hK19 : ∀ (x1 : Int32) (x2 : Int32) (x3 : Int32) (r : Nat → Int32) (q : Nat → Nat → Int32), K19 x1 x2 x3 r q → GW p l e rm_X11_findsPair s m args below meth c D A 7 0 0 (MQ below (va_Qi P (RE D T m0 a A) A) args s 0 0 A) (RW m0 a T r q) 0 0 19 [(0, .ref m0), (1, .int x1), (2, .int x2), (3, .int x3)] []) : ∀ (x1 : Int32) (x2 : Int32) (x3 : Int32) (x5 : Int32) (s0 : Int32) (r : Nat → Int32) (q : Nat → Nat → Int32), wp_X11_findsPair_172 K19 P x1 x2 x3 x5 s0 r q → GW p l e rm_X11_findsPair s m args below meth c D A 7 0 0 (MQ below (va_Qi P (RE D T m0 a A) A) args s 0 0 A) (RW m0 a T r q) 0 0 172 [(0, .ref m0), (1, .int x1), (2, .int x2), (3, .int x3), (5, .int x5)] [.int s0] := by
  have hw : ∀ {w : Cond}, w ∈ W0 → w.before args s = true := fun h => C.2.2.2.2.1 _ (List.mem_cons_of_mem _ h)
  intro x1 x2 x3 x5 s0 r q h
  unfold wp_X11_findsPair_172 at h
  refine g_istore (lv' := [(6, .int s0), (0, .ref m0), (1, .int x1), (2, .int x2), (3, .int x3), (5, .int x5)]) C dX11_findsPair_172 (by decide) rfl ?_
  refine g_iload C dX11_findsPair_174 5 rfl ?_
  refine g_iload_n C dX11_findsPair_176 rfl 2 rfl ?_
  refine g_icmp_gt (tgt := 185) C dX11_findsPair_177 (by decide) (fun z22 => ?_) (fun z22 => ?_)
  · replace h := h.1 z22
    refine g_iload C dX11_findsPair_185 5 rfl ?_
    refine g_istore_n (lv' := [(1, .int x5), (6, .int s0), (0, .ref m0), (2, .int x2), (3, .int x3), (5, .int x5)]) C dX11_findsPair_187 rfl (by decide) rfl ?_
    refine g_aload_n C dX11_findsPair_188 rfl 2 rfl ?_
    refine g_iload_n C dX11_findsPair_189 rfl 3 rfl ?_
    refine gr_put_38 C iwx_X11 (hw kw_1847) dX11_findsPair_190 ?_
    refine gr_nr (fun r23 er23 => ?_)
    replace h := h r23 er23
    refine g_aload_n C dX11_findsPair_193 rfl 2 rfl ?_
    refine g_iload_n C dX11_findsPair_194 rfl 4 rfl ?_
    refine gr_put_39 C iwx_X11 (hw kw_1848) dX11_findsPair_195 ?_
    refine gr_nr (fun r24 er24 => ?_)
    replace h := h r24 er24
    obtain ⟨v25, ev25⟩ : ∃ y : Int32, y = x3 + 1 := ⟨_, rfl⟩
    replace h := h v25 ev25
    refine g_iinc (v := v25) (lv' := [(3, .int v25), (1, .int x5), (6, .int s0), (0, .ref m0), (2, .int x2), (5, .int x5)]) C dX11_findsPair_198 (j := 4) rfl (by rw [ev25]; rfl) (by decide) rfl ?_
    refine g_goto (tgt := 19) C dX11_findsPair_201 (by decide) ?_
    refine g_locals [3, 1, 4, 0] rfl ?_
    exact hK19 x5 x2 v25 r24 q h
  · replace h := h.2 z22
    refine g_iload C dX11_findsPair_180 0 rfl ?_
    refine g_if_eq (tgt := 198) C dX11_findsPair_182 (by decide) (fun z26 => ?_) (fun z26 => ?_)
    · replace h := h.1 z26
      obtain ⟨v27, ev27⟩ : ∃ y : Int32, y = x3 + 1 := ⟨_, rfl⟩
      replace h := h v27 ev27
      refine g_iinc (v := v27) (lv' := [(3, .int v27), (6, .int s0), (0, .ref m0), (1, .int x1), (2, .int x2), (5, .int x5)]) C dX11_findsPair_198 (j := 4) rfl (by rw [ev27]; rfl) (by decide) rfl ?_
      refine g_goto (tgt := 19) C dX11_findsPair_201 (by decide) ?_
      refine g_locals [2, 3, 4, 0] rfl ?_
      exact hK19 x1 x2 v27 r q h
    · replace h := h.2 z26
      refine g_iload C dX11_findsPair_185 5 rfl ?_
      refine g_istore_n (lv' := [(1, .int x5), (6, .int s0), (0, .ref m0), (2, .int x2), (3, .int x3), (5, .int x5)]) C dX11_findsPair_187 rfl (by decide) rfl ?_
      refine g_aload_n C dX11_findsPair_188 rfl 2 rfl ?_
      refine g_iload_n C dX11_findsPair_189 rfl 3 rfl ?_
      refine gr_put_38 C iwx_X11 (hw kw_1847) dX11_findsPair_190 ?_
      refine gr_nr (fun r28 er28 => ?_)
      replace h := h r28 er28
      refine g_aload_n C dX11_findsPair_193 rfl 2 rfl ?_
      refine g_iload_n C dX11_findsPair_194 rfl 4 rfl ?_
      refine gr_put_39 C iwx_X11 (hw kw_1848) dX11_findsPair_195 ?_
      refine gr_nr (fun r29 er29 => ?_)
      replace h := h r29 er29
      obtain ⟨v30, ev30⟩ : ∃ y : Int32, y = x3 + 1 := ⟨_, rfl⟩
      replace h := h v30 ev30
      refine g_iinc (v := v30) (lv' := [(3, .int v30), (1, .int x5), (6, .int s0), (0, .ref m0), (2, .int x2), (5, .int x5)]) C dX11_findsPair_198 (j := 4) rfl (by rw [ev30]; rfl) (by decide) rfl ?_
      refine g_goto (tgt := 19) C dX11_findsPair_201 (by decide) ?_
      refine g_locals [3, 1, 4, 0] rfl ?_
      exact hK19 x5 x2 v30 r29 q h
def wb_X11_findsPair_19 (rec : Int32 → Int32 → Int32 → (Nat → Int32) → (Nat → Nat → Int32) → Prop) (K204 : Int32 → Int32 → (Nat → Int32) → (Nat → Nat → Int32) → Prop) (P : Int32 → RST → Prop) (x1 : Int32) (x2 : Int32) (x3 : Int32) (r : Nat → Int32) (q : Nat → Nat → Int32) : Prop := ((r 36) ≤ x3 → (K204 x1 x2 r q)) ∧ (¬ (r 36) ≤ x3 → (vp_in x2 10 ∧ (vp_in x3 10 ∧ (∀ v7 : Int32, v7 = ((q 11 (Int32.toNatClampNeg x2)) ||| (q 11 (Int32.toNatClampNeg x3))) → (vp_in x2 10 ∧ (vp_in x3 10 ∧ (((q 11 (Int32.toNatClampNeg x3)) ≤ (q 11 (Int32.toNatClampNeg x2)) → (∀ v11 : Int32, v11 = x3 + 1 → (rec x1 x2 v11 r q))) ∧ (¬ (q 11 (Int32.toNatClampNeg x3)) ≤ (q 11 (Int32.toNatClampNeg x2)) → (vp_in v7 1024 ∧ (((q 7 (Int32.toNatClampNeg v7)) < 0 → (∀ v14 : Int32, v14 = x3 + 1 → (rec x1 x2 v14 r q))) ∧ (¬ (q 7 (Int32.toNatClampNeg v7)) < 0 → (vp_in x2 10 ∧ (vp_in (q 11 (Int32.toNatClampNeg x2)) 1024 ∧ (vp_in x3 10 ∧ (vp_in (q 11 (Int32.toNatClampNeg x3)) 1024 ∧ (vp_in v7 1024 ∧ (∀ v20 : Int32, v20 = (((q 7 (Int32.toNatClampNeg (q 11 (Int32.toNatClampNeg x2)))) + (q 7 (Int32.toNatClampNeg (q 11 (Int32.toNatClampNeg x3))))) - (q 7 (Int32.toNatClampNeg v7))) → (((r 38) < 0 → (wp_X11_findsPair_172 (fun (y31 : Int32) (y32 : Int32) (y33 : Int32) (r34 : Nat → Int32) (q35 : Nat → Nat → Int32) => rec y31 y32 y33 r34 q35) P x1 x2 x3 v20 0 r q)) ∧ (¬ (r 38) < 0 → ((¬ v20 = x1 → (wp_X11_findsPair_172 (fun (y37 : Int32) (y38 : Int32) (y39 : Int32) (r40 : Nat → Int32) (q41 : Nat → Nat → Int32) => rec y37 y38 y39 r40 q41) P x1 x2 x3 v20 0 r q)) ∧ (v20 = x1 → (vp_in x2 10 ∧ (vp_in (r 38) 10 ∧ (((q 11 (Int32.toNatClampNeg x2)) < (q 11 (Int32.toNatClampNeg (r 38))) → (wp_X11_findsPair_172 (fun (y45 : Int32) (y46 : Int32) (y47 : Int32) (r48 : Nat → Int32) (q49 : Nat → Nat → Int32) => rec y45 y46 y47 r48 q49) P x1 x2 x3 v20 1 r q)) ∧ (¬ (q 11 (Int32.toNatClampNeg x2)) < (q 11 (Int32.toNatClampNeg (r 38))) → (vp_in x2 10 ∧ (vp_in (r 38) 10 ∧ ((¬ (q 11 (Int32.toNatClampNeg x2)) = (q 11 (Int32.toNatClampNeg (r 38))) → (wp_X11_findsPair_172 (fun (y53 : Int32) (y54 : Int32) (y55 : Int32) (r56 : Nat → Int32) (q57 : Nat → Nat → Int32) => rec y53 y54 y55 r56 q57) P x1 x2 x3 v20 0 r q)) ∧ ((q 11 (Int32.toNatClampNeg x2)) = (q 11 (Int32.toNatClampNeg (r 38))) → (vp_in x3 10 ∧ (vp_in (r 39) 10 ∧ (((q 11 (Int32.toNatClampNeg (r 39))) ≤ (q 11 (Int32.toNatClampNeg x3)) → (wp_X11_findsPair_172 (fun (y61 : Int32) (y62 : Int32) (y63 : Int32) (r64 : Nat → Int32) (q65 : Nat → Nat → Int32) => rec y61 y62 y63 r64 q65) P x1 x2 x3 v20 0 r q)) ∧ (¬ (q 11 (Int32.toNatClampNeg (r 39))) ≤ (q 11 (Int32.toNatClampNeg x3)) → (wp_X11_findsPair_172 (fun (y66 : Int32) (y67 : Int32) (y68 : Int32) (r69 : Nat → Int32) (q70 : Nat → Nat → Int32) => rec y66 y67 y68 r69 q70) P x1 x2 x3 v20 1 r q))))))))))))))))))))))))))))))))))
def wp_X11_findsPair_19 (K204 : Int32 → Int32 → (Nat → Int32) → (Nat → Nat → Int32) → Prop) (P : Int32 → RST → Prop) : Nat → Int32 → Int32 → Int32 → (Nat → Int32) → (Nat → Nat → Int32) → Prop
  | 0 => fun _ _ _ _ _ => False
  | n + 1 => fun x1 x2 x3 r q => wb_X11_findsPair_19 (wp_X11_findsPair_19 K204 P n) K204 P x1 x2 x3 r q
set_option maxRecDepth 100000 in
set_option maxHeartbeats 4000000 in
theorem t_X11_findsPair_19 {p : Program} {l : Launch} {e : Env} {s : State} {m : MethodId} {args : Array Value} {below : List Frame} {meth : Method} {c : Code} {D : va_G} {A : Nat → Prop} {T : Nat → ClassId} {m0 : Nat} {a : Nat → Nat} (C : GC p s m args meth c cX11_findsPair "FreightRaterModel" (ws_X11_findsPair) 7 D A (zty T)) (hr : meth.sig.returnType = (some .boolean)) (K204 : Int32 → Int32 → (Nat → Int32) → (Nat → Nat → Int32) → Prop) (P : Int32 → RST → Prop) (hK204 : ∀ (x1 : Int32) (x2 : Int32) (r : Nat → Int32) (q : Nat → Nat → Int32), K204 x1 x2 r q → GW p l e rm_X11_findsPair s m args below meth c D A 7 0 0 (MQ below (va_Qi P (RE D T m0 a A) A) args s 0 0 A) (RW m0 a T r q) 0 0 204 [(0, .ref m0), (1, .int x1), (2, .int x2)] []) : ∀ (n : Nat) (x1 : Int32) (x2 : Int32) (x3 : Int32) (r : Nat → Int32) (q : Nat → Nat → Int32), wp_X11_findsPair_19 K204 P n x1 x2 x3 r q → GW p l e rm_X11_findsPair s m args below meth c D A 7 0 0 (MQ below (va_Qi P (RE D T m0 a A) A) args s 0 0 A) (RW m0 a T r q) 0 0 19 [(0, .ref m0), (1, .int x1), (2, .int x2), (3, .int x3)] [] := by
  have hw : ∀ {w : Cond}, w ∈ W0 → w.before args s = true := fun h => C.2.2.2.2.1 _ (List.mem_cons_of_mem _ h)
  intro n
  induction n with
  | zero => intro x1 x2 x3 r q h; exact h.elim
  | succ n ih =>
    intro x1 x2 x3 r q h
    replace h : wb_X11_findsPair_19 (wp_X11_findsPair_19 K204 P n) K204 P x1 x2 x3 r q := h
    unfold wb_X11_findsPair_19 at h
    refine g_iload_n C dX11_findsPair_19 rfl 3 rfl ?_
    refine g_aload_n C dX11_findsPair_20 rfl 0 rfl ?_
    refine gr_get C iwx_X11 36 (hw kw_1845) (by decide) rfl rfl dX11_findsPair_21 ?_
    refine g_icmp_ge (tgt := 204) C dX11_findsPair_24 (by decide) (fun z4 => ?_) (fun z4 => ?_)
    · replace h := h.1 z4
      refine g_locals [0, 1, 2] rfl ?_
      exact hK204 x1 x2 r q h
    · replace h := h.2 z4
      refine g_aload_n C dX11_findsPair_27 rfl 0 rfl ?_
      refine gr_get C iwx_X11 37 (hw kw_1846) (by decide) rfl rfl dX11_findsPair_28 ?_
      refine g_iload_n C dX11_findsPair_31 rfl 2 rfl ?_
      obtain ⟨g5, h⟩ := h
      refine gr_ald_11 C g5 dX11_findsPair_32 ?_
      refine g_aload_n C dX11_findsPair_33 rfl 0 rfl ?_
      refine gr_get C iwx_X11 37 (hw kw_1846) (by decide) rfl rfl dX11_findsPair_34 ?_
      refine g_iload_n C dX11_findsPair_37 rfl 3 rfl ?_
      obtain ⟨g6, h⟩ := h
      refine gr_ald_11 C g6 dX11_findsPair_38 ?_
      refine g_ior C dX11_findsPair_39 ?_
      refine g_topi (fun v7 ev7 => ?_)
      replace h := h v7 ev7
      refine g_istore (lv' := [(4, .int v7), (0, .ref m0), (1, .int x1), (2, .int x2), (3, .int x3)]) C dX11_findsPair_40 (by decide) rfl ?_
      refine g_aload_n C dX11_findsPair_42 rfl 1 rfl ?_
      refine gr_get C iwx_X11 37 (hw kw_1846) (by decide) rfl rfl dX11_findsPair_43 ?_
      refine g_iload_n C dX11_findsPair_46 rfl 3 rfl ?_
      obtain ⟨g8, h⟩ := h
      refine gr_ald_11 C g8 dX11_findsPair_47 ?_
      refine g_aload_n C dX11_findsPair_48 rfl 1 rfl ?_
      refine gr_get C iwx_X11 37 (hw kw_1846) (by decide) rfl rfl dX11_findsPair_49 ?_
      refine g_iload_n C dX11_findsPair_52 rfl 4 rfl ?_
      obtain ⟨g9, h⟩ := h
      refine gr_ald_11 C g9 dX11_findsPair_53 ?_
      refine g_icmp_ge (tgt := 198) C dX11_findsPair_54 (by decide) (fun z10 => ?_) (fun z10 => ?_)
      · replace h := h.1 z10
        obtain ⟨v11, ev11⟩ : ∃ y : Int32, y = x3 + 1 := ⟨_, rfl⟩
        replace h := h v11 ev11
        refine g_iinc (v := v11) (lv' := [(3, .int v11), (4, .int v7), (0, .ref m0), (1, .int x1), (2, .int x2)]) C dX11_findsPair_198 (j := 4) rfl (by rw [ev11]; rfl) (by decide) rfl ?_
        refine g_goto (tgt := 19) C dX11_findsPair_201 (by decide) ?_
        refine g_locals [2, 3, 4, 0] rfl ?_
        exact ih x1 x2 v11 r q h
      · replace h := h.2 z10
        refine g_aload_n C dX11_findsPair_57 rfl 1 rfl ?_
        refine gr_get C iwx_X11 31 (hw kw_1840) (by decide) rfl rfl dX11_findsPair_58 ?_
        refine g_iload C dX11_findsPair_61 0 rfl ?_
        obtain ⟨g12, h⟩ := h
        refine gr_ald_7 C g12 dX11_findsPair_63 ?_
        refine g_if_lt (tgt := 198) C dX11_findsPair_64 (by decide) (fun z13 => ?_) (fun z13 => ?_)
        · replace h := h.1 z13
          obtain ⟨v14, ev14⟩ : ∃ y : Int32, y = x3 + 1 := ⟨_, rfl⟩
          replace h := h v14 ev14
          refine g_iinc (v := v14) (lv' := [(3, .int v14), (4, .int v7), (0, .ref m0), (1, .int x1), (2, .int x2)]) C dX11_findsPair_198 (j := 4) rfl (by rw [ev14]; rfl) (by decide) rfl ?_
          refine g_goto (tgt := 19) C dX11_findsPair_201 (by decide) ?_
          refine g_locals [2, 3, 4, 0] rfl ?_
          exact ih x1 x2 v14 r q h
        · replace h := h.2 z13
          refine g_aload_n C dX11_findsPair_67 rfl 1 rfl ?_
          refine gr_get C iwx_X11 31 (hw kw_1840) (by decide) rfl rfl dX11_findsPair_68 ?_
          refine g_aload_n C dX11_findsPair_71 rfl 1 rfl ?_
          refine gr_get C iwx_X11 37 (hw kw_1846) (by decide) rfl rfl dX11_findsPair_72 ?_
          refine g_iload_n C dX11_findsPair_75 rfl 3 rfl ?_
          obtain ⟨g15, h⟩ := h
          refine gr_ald_11 C g15 dX11_findsPair_76 ?_
          obtain ⟨g16, h⟩ := h
          refine gr_ald_7 C g16 dX11_findsPair_77 ?_
          refine g_aload_n C dX11_findsPair_78 rfl 1 rfl ?_
          refine gr_get C iwx_X11 31 (hw kw_1840) (by decide) rfl rfl dX11_findsPair_79 ?_
          refine g_aload_n C dX11_findsPair_82 rfl 1 rfl ?_
          refine gr_get C iwx_X11 37 (hw kw_1846) (by decide) rfl rfl dX11_findsPair_83 ?_
          refine g_iload_n C dX11_findsPair_86 rfl 4 rfl ?_
          obtain ⟨g17, h⟩ := h
          refine gr_ald_11 C g17 dX11_findsPair_87 ?_
          obtain ⟨g18, h⟩ := h
          refine gr_ald_7 C g18 dX11_findsPair_88 ?_
          refine g_iadd C dX11_findsPair_89 ?_
          refine g_aload_n C dX11_findsPair_90 rfl 1 rfl ?_
          refine gr_get C iwx_X11 31 (hw kw_1840) (by decide) rfl rfl dX11_findsPair_91 ?_
          refine g_iload C dX11_findsPair_94 0 rfl ?_
          obtain ⟨g19, h⟩ := h
          refine gr_ald_7 C g19 dX11_findsPair_96 ?_
          refine g_isub C dX11_findsPair_97 ?_
          refine g_topi (fun v20 ev20 => ?_)
          replace h := h v20 ev20
          refine g_istore (lv' := [(5, .int v20), (4, .int v7), (0, .ref m0), (1, .int x1), (2, .int x2), (3, .int x3)]) C dX11_findsPair_98 (by decide) rfl ?_
          refine g_aload_n C dX11_findsPair_100 rfl 2 rfl ?_
          refine gr_get C iwx_X11 38 (hw kw_1847) (by decide) rfl rfl dX11_findsPair_101 ?_
          refine g_if_lt (tgt := 171) C dX11_findsPair_104 (by decide) (fun z21 => ?_) (fun z21 => ?_)
          · replace h := h.1 z21
            refine g_iconst (v := 0) C dX11_findsPair_171 (by decide) ?_
            refine g_locals [2, 3, 4, 5, 0] rfl ?_
            refine t_X11_findsPair_172 C hr _ P ?_ x1 x2 x3 v20 0 r q h
            · intro y31 y32 y33 r34 q35 h
              refine g_locals [0, 1, 2, 3] rfl ?_
              exact ih y31 y32 y33 r34 q35 h
          · replace h := h.2 z21
            refine g_iload C dX11_findsPair_107 0 rfl ?_
            refine g_iload_n C dX11_findsPair_109 rfl 3 rfl ?_
            refine g_icmp_ne (tgt := 171) C dX11_findsPair_110 (by decide) (fun z36 => ?_) (fun z36 => ?_)
            · replace h := h.1 z36
              refine g_iconst (v := 0) C dX11_findsPair_171 (by decide) ?_
              refine g_locals [2, 3, 4, 5, 0] rfl ?_
              refine t_X11_findsPair_172 C hr _ P ?_ x1 x2 x3 v20 0 r q h
              · intro y37 y38 y39 r40 q41 h
                refine g_locals [0, 1, 2, 3] rfl ?_
                exact ih y37 y38 y39 r40 q41 h
            · replace h := h.2 z36
              refine g_aload_n C dX11_findsPair_113 rfl 2 rfl ?_
              refine gr_get C iwx_X11 37 (hw kw_1846) (by decide) rfl rfl dX11_findsPair_114 ?_
              refine g_iload_n C dX11_findsPair_117 rfl 4 rfl ?_
              obtain ⟨g42, h⟩ := h
              refine gr_ald_11 C g42 dX11_findsPair_118 ?_
              refine g_aload_n C dX11_findsPair_119 rfl 2 rfl ?_
              refine gr_get C iwx_X11 37 (hw kw_1846) (by decide) rfl rfl dX11_findsPair_120 ?_
              refine g_aload_n C dX11_findsPair_123 rfl 2 rfl ?_
              refine gr_get C iwx_X11 38 (hw kw_1847) (by decide) rfl rfl dX11_findsPair_124 ?_
              obtain ⟨g43, h⟩ := h
              refine gr_ald_11 C g43 dX11_findsPair_127 ?_
              refine g_icmp_lt (tgt := 167) C dX11_findsPair_128 (by decide) (fun z44 => ?_) (fun z44 => ?_)
              · replace h := h.1 z44
                refine g_iconst (v := 1) C dX11_findsPair_167 (by decide) ?_
                refine g_goto (tgt := 172) C dX11_findsPair_168 (by decide) ?_
                refine g_locals [2, 3, 4, 5, 0] rfl ?_
                refine t_X11_findsPair_172 C hr _ P ?_ x1 x2 x3 v20 1 r q h
                · intro y45 y46 y47 r48 q49 h
                  refine g_locals [0, 1, 2, 3] rfl ?_
                  exact ih y45 y46 y47 r48 q49 h
              · replace h := h.2 z44
                refine g_aload_n C dX11_findsPair_131 rfl 2 rfl ?_
                refine gr_get C iwx_X11 37 (hw kw_1846) (by decide) rfl rfl dX11_findsPair_132 ?_
                refine g_iload_n C dX11_findsPair_135 rfl 4 rfl ?_
                obtain ⟨g50, h⟩ := h
                refine gr_ald_11 C g50 dX11_findsPair_136 ?_
                refine g_aload_n C dX11_findsPair_137 rfl 2 rfl ?_
                refine gr_get C iwx_X11 37 (hw kw_1846) (by decide) rfl rfl dX11_findsPair_138 ?_
                refine g_aload_n C dX11_findsPair_141 rfl 2 rfl ?_
                refine gr_get C iwx_X11 38 (hw kw_1847) (by decide) rfl rfl dX11_findsPair_142 ?_
                obtain ⟨g51, h⟩ := h
                refine gr_ald_11 C g51 dX11_findsPair_145 ?_
                refine g_icmp_ne (tgt := 171) C dX11_findsPair_146 (by decide) (fun z52 => ?_) (fun z52 => ?_)
                · replace h := h.1 z52
                  refine g_iconst (v := 0) C dX11_findsPair_171 (by decide) ?_
                  refine g_locals [2, 3, 4, 5, 0] rfl ?_
                  refine t_X11_findsPair_172 C hr _ P ?_ x1 x2 x3 v20 0 r q h
                  · intro y53 y54 y55 r56 q57 h
                    refine g_locals [0, 1, 2, 3] rfl ?_
                    exact ih y53 y54 y55 r56 q57 h
                · replace h := h.2 z52
                  refine g_aload_n C dX11_findsPair_149 rfl 2 rfl ?_
                  refine gr_get C iwx_X11 37 (hw kw_1846) (by decide) rfl rfl dX11_findsPair_150 ?_
                  refine g_iload_n C dX11_findsPair_153 rfl 5 rfl ?_
                  obtain ⟨g58, h⟩ := h
                  refine gr_ald_11 C g58 dX11_findsPair_154 ?_
                  refine g_aload_n C dX11_findsPair_155 rfl 2 rfl ?_
                  refine gr_get C iwx_X11 37 (hw kw_1846) (by decide) rfl rfl dX11_findsPair_156 ?_
                  refine g_aload_n C dX11_findsPair_159 rfl 2 rfl ?_
                  refine gr_get C iwx_X11 39 (hw kw_1848) (by decide) rfl rfl dX11_findsPair_160 ?_
                  obtain ⟨g59, h⟩ := h
                  refine gr_ald_11 C g59 dX11_findsPair_163 ?_
                  refine g_icmp_ge (tgt := 171) C dX11_findsPair_164 (by decide) (fun z60 => ?_) (fun z60 => ?_)
                  · replace h := h.1 z60
                    refine g_iconst (v := 0) C dX11_findsPair_171 (by decide) ?_
                    refine g_locals [2, 3, 4, 5, 0] rfl ?_
                    refine t_X11_findsPair_172 C hr _ P ?_ x1 x2 x3 v20 0 r q h
                    · intro y61 y62 y63 r64 q65 h
                      refine g_locals [0, 1, 2, 3] rfl ?_
                      exact ih y61 y62 y63 r64 q65 h
                  · replace h := h.2 z60
                    refine g_iconst (v := 1) C dX11_findsPair_167 (by decide) ?_
                    refine g_goto (tgt := 172) C dX11_findsPair_168 (by decide) ?_
                    refine g_locals [2, 3, 4, 5, 0] rfl ?_
                    refine t_X11_findsPair_172 C hr _ P ?_ x1 x2 x3 v20 1 r q h
                    · intro y66 y67 y68 r69 q70 h
                      refine g_locals [0, 1, 2, 3] rfl ?_
                      exact ih y66 y67 y68 r69 q70 h
def wb_X11_findsPair_9 (rec : Int32 → Int32 → (Nat → Int32) → (Nat → Nat → Int32) → Prop) (P : Int32 → RST → Prop) (x1 : Int32) (x2 : Int32) (r : Nat → Int32) (q : Nat → Nat → Int32) : Prop := ((r 36) ≤ x2 → (((r 38) < 0 → (P 0 (r, q))) ∧ (¬ (r 38) < 0 → (P 1 (r, q))))) ∧ (¬ (r 36) ≤ x2 → (∃ k76 : Nat, wp_X11_findsPair_19 (fun (y71 : Int32) (y72 : Int32) (r73 : Nat → Int32) (q74 : Nat → Nat → Int32) => ∀ v75 : Int32, v75 = y72 + 1 → (rec y71 v75 r73 q74)) P k76 x1 x2 0 r q))
def wp_X11_findsPair_9 (P : Int32 → RST → Prop) : Nat → Int32 → Int32 → (Nat → Int32) → (Nat → Nat → Int32) → Prop
  | 0 => fun _ _ _ _ => False
  | n + 1 => fun x1 x2 r q => wb_X11_findsPair_9 (wp_X11_findsPair_9  P n)  P x1 x2 r q
set_option maxRecDepth 100000 in
set_option maxHeartbeats 4000000 in
theorem t_X11_findsPair_9 {p : Program} {l : Launch} {e : Env} {s : State} {m : MethodId} {args : Array Value} {below : List Frame} {meth : Method} {c : Code} {D : va_G} {A : Nat → Prop} {T : Nat → ClassId} {m0 : Nat} {a : Nat → Nat} (C : GC p s m args meth c cX11_findsPair "FreightRaterModel" (ws_X11_findsPair) 7 D A (zty T)) (hr : meth.sig.returnType = (some .boolean)) (P : Int32 → RST → Prop) : ∀ (n : Nat) (x1 : Int32) (x2 : Int32) (r : Nat → Int32) (q : Nat → Nat → Int32), wp_X11_findsPair_9  P n x1 x2 r q → GW p l e rm_X11_findsPair s m args below meth c D A 7 0 0 (MQ below (va_Qi P (RE D T m0 a A) A) args s 0 0 A) (RW m0 a T r q) 0 0 9 [(0, .ref m0), (1, .int x1), (2, .int x2)] [] := by
  have hw : ∀ {w : Cond}, w ∈ W0 → w.before args s = true := fun h => C.2.2.2.2.1 _ (List.mem_cons_of_mem _ h)
  intro n
  induction n with
  | zero => intro x1 x2 r q h; exact h.elim
  | succ n ih =>
    intro x1 x2 r q h
    replace h : wb_X11_findsPair_9 (wp_X11_findsPair_9  P n)  P x1 x2 r q := h
    unfold wb_X11_findsPair_9 at h
    refine g_iload_n C dX11_findsPair_9 rfl 2 rfl ?_
    refine g_aload_n C dX11_findsPair_10 rfl 0 rfl ?_
    refine gr_get C iwx_X11 36 (hw kw_1845) (by decide) rfl rfl dX11_findsPair_11 ?_
    refine g_icmp_ge (tgt := 210) C dX11_findsPair_14 (by decide) (fun z2 => ?_) (fun z2 => ?_)
    · replace h := h.1 z2
      refine g_aload_n C dX11_findsPair_210 rfl 0 rfl ?_
      refine gr_get C iwx_X11 38 (hw kw_1847) (by decide) rfl rfl dX11_findsPair_211 ?_
      refine g_if_lt (tgt := 221) C dX11_findsPair_214 (by decide) (fun z3 => ?_) (fun z3 => ?_)
      · replace h := h.1 z3
        refine g_iconst (v := 0) C dX11_findsPair_221 (by decide) ?_
        exact gr_zret C hr vz0 dX11_findsPair_222 h
      · replace h := h.2 z3
        refine g_iconst (v := 1) C dX11_findsPair_217 (by decide) ?_
        refine g_goto (tgt := 222) C dX11_findsPair_218 (by decide) ?_
        exact gr_zret C hr vz1 dX11_findsPair_222 h
    · replace h := h.2 z2
      refine g_iconst (v := 0) C dX11_findsPair_17 (by decide) ?_
      refine g_istore_n (lv' := [(3, .int 0), (0, .ref m0), (1, .int x1), (2, .int x2)]) C dX11_findsPair_18 rfl (by decide) rfl ?_
      refine g_locals [1, 2, 3, 0] rfl ?_
      obtain ⟨k76, h⟩ := h
      refine t_X11_findsPair_19 C hr _ P ?_ k76 x1 x2 0 r q h
      · intro y71 y72 r73 q74 h
        obtain ⟨v75, ev75⟩ : ∃ y : Int32, y = y72 + 1 := ⟨_, rfl⟩
        replace h := h v75 ev75
        refine g_iinc (v := v75) (lv' := [(2, .int v75), (0, .ref m0), (1, .int y71)]) C dX11_findsPair_204 (j := 2) rfl (by rw [ev75]; rfl) (by decide) rfl ?_
        refine g_goto (tgt := 9) C dX11_findsPair_207 (by decide) ?_
        refine g_locals [1, 2, 0] rfl ?_
        exact ih y71 v75 r73 q74 h
def wp_X11_findsPair (P : Int32 → RST → Prop)  (r : Nat → Int32) (q : Nat → Nat → Int32) : Prop := ∀ r1 : Nat → Int32, r1 = va_up r 38 (-1) → (∃ k77 : Nat, wp_X11_findsPair_9  P k77 0 0 r1 q)
set_option maxRecDepth 100000 in
set_option maxHeartbeats 4000000 in
theorem t_X11_findsPair {p : Program} {l : Launch} {e : Env} {s : State} {m : MethodId} {args : Array Value} {below : List Frame} {meth : Method} {c : Code} {D : va_G} {A : Nat → Prop} {T : Nat → ClassId} {m0 : Nat} {a : Nat → Nat} (C : GC p s m args meth c cX11_findsPair "FreightRaterModel" (ws_X11_findsPair) 7 D A (zty T)) (hr : meth.sig.returnType = (some .boolean)) (P : Int32 → RST → Prop) : ∀  (r : Nat → Int32) (q : Nat → Nat → Int32), wp_X11_findsPair P  r q → GW p l e rm_X11_findsPair s m args below meth c D A 7 0 0 (MQ below (va_Qi P (RE D T m0 a A) A) args s 0 0 A) (RW m0 a T r q) 0 0 0 [(0, .ref m0)] [] := by
  have hw : ∀ {w : Cond}, w ∈ W0 → w.before args s = true := fun h => C.2.2.2.2.1 _ (List.mem_cons_of_mem _ h)
  intro  r q h
  unfold wp_X11_findsPair at h
  refine g_iconst (v := 0) C dX11_findsPair_0 (by decide) ?_
  refine g_istore_n (lv' := [(1, .int 0), (0, .ref m0)]) C dX11_findsPair_1 rfl (by decide) rfl ?_
  refine g_aload_n C dX11_findsPair_2 rfl 1 rfl ?_
  refine g_iconst (v := -1) C dX11_findsPair_3 (by decide) ?_
  refine gr_put_38 C iwx_X11 (hw kw_1847) dX11_findsPair_4 ?_
  refine gr_nr (fun r1 er1 => ?_)
  replace h := h r1 er1
  refine g_iconst (v := 0) C dX11_findsPair_7 (by decide) ?_
  refine g_istore_n (lv' := [(2, .int 0), (1, .int 0), (0, .ref m0)]) C dX11_findsPair_8 rfl (by decide) rfl ?_
  refine g_locals [2, 1, 0] rfl ?_
  obtain ⟨k77, h⟩ := h
  refine t_X11_findsPair_9 C hr  P  k77 0 0 r1 q h
theorem c_X11_findsPair (l : Launch) (D : va_G) (T : Nat → ClassId) (m0 : Nat) (a : Nat → Nat)  (r : Nat → Int32) (q : Nat → Nat → Int32) (P : Int32 → RST → Prop) (h : wp_X11_findsPair P  r q) : RMi l yX11_findsPair (ws_X11_findsPair) rm_X11_findsPair D T m0 a [.ref m0] r q P := gr_meti (by decide) rfl rfl (Nat.le_of_ble_eq_true rfl) (fun p e s m args below meth c A C hr => t_X11_findsPair C hr P  r q h)
def wp_X11_put (P : RST → Prop) (p0 : Int32) (r : Nat → Int32) (q : Nat → Nat → Int32) : Prop := vp_in (r 40) 200 ∧ (∀ q2 : Nat → Nat → Int32, q2 = va_up q 12 (upd (q 12) (Int32.toNatClampNeg (r 40)) (vp_nar .char p0)) → (∀ r3 : Nat → Int32, r3 = va_up r 40 ((r 40) + 1) → (P (r3, q2))))
set_option maxRecDepth 100000 in
set_option maxHeartbeats 4000000 in
theorem t_X11_put {p : Program} {l : Launch} {e : Env} {s : State} {m : MethodId} {args : Array Value} {below : List Frame} {meth : Method} {c : Code} {D : va_G} {A : Nat → Prop} {T : Nat → ClassId} {m0 : Nat} {a : Nat → Nat} (C : GC p s m args meth c cX11_put "FreightRaterModel" (ws_X11_put) 2 D A (zty T)) (hr : meth.sig.returnType = none) (P : RST → Prop) : ∀ (p0 : Int32) (r : Nat → Int32) (q : Nat → Nat → Int32), wp_X11_put P p0 r q → GW p l e rm_X11_put s m args below meth c D A 2 0 0 (MQ below (va_Qv P (RE D T m0 a A) A) args s 0 0 A) (RW m0 a T r q) 0 0 0 [(0, .ref m0), (1, .int p0)] [] := by
  have hw : ∀ {w : Cond}, w ∈ W0 → w.before args s = true := fun h => C.2.2.2.2.1 _ (List.mem_cons_of_mem _ h)
  intro p0 r q h
  unfold wp_X11_put at h
  refine g_aload_n C dX11_put_0 rfl 0 rfl ?_
  refine gr_get C iwx_X11 41 (hw kw_1850) (by decide) rfl rfl dX11_put_1 ?_
  refine g_aload_n C dX11_put_4 rfl 0 rfl ?_
  refine gr_get C iwx_X11 40 (hw kw_1849) (by decide) rfl rfl dX11_put_5 ?_
  refine g_iload_n C dX11_put_8 rfl 1 rfl ?_
  obtain ⟨g1, h⟩ := h
  refine gr_ast_12 C g1 dX11_put_9 ?_
  refine gr_nq (fun q2 eq2 => ?_)
  replace h := h q2 eq2
  refine g_aload_n C dX11_put_10 rfl 0 rfl ?_
  refine g_dup C dX11_put_11 rfl ?_
  refine gr_get C iwx_X11 40 (hw kw_1849) (by decide) rfl rfl dX11_put_12 ?_
  refine g_iconst (v := 1) C dX11_put_15 (by decide) ?_
  refine g_iadd C dX11_put_16 ?_
  refine gr_put_40 C iwx_X11 (hw kw_1849) dX11_put_17 ?_
  refine gr_nr (fun r3 er3 => ?_)
  replace h := h r3 er3
  exact gr_vret C hr dX11_put_20 h
theorem c_X11_put (l : Launch) (D : va_G) (T : Nat → ClassId) (m0 : Nat) (a : Nat → Nat) (p0 : Int32) (r : Nat → Int32) (q : Nat → Nat → Int32) (P : RST → Prop) (h : wp_X11_put P p0 r q) : RMv l yX11_put (ws_X11_put) rm_X11_put D T m0 a [.ref m0, .int p0] r q P := gr_metv (by decide) rfl rfl (Nat.le_of_ble_eq_true rfl) (fun p e s m args below meth c A C hr => t_X11_put C hr P p0 r q h)
def wp_X11_puts (P : Int32 → RST → Prop) (p0 : Int32) (p1 : Int32) (r : Nat → Int32) (q : Nat → Nat → Int32) : Prop := ∀ v1 : Int32, v1 = ((274 + 510 * p0) + 1) → (vp_in (p1 + 2) 640 ∧ ((999 < (q 5 (Int32.toNatClampNeg (p1 + 2))) → (P 0 (r, q))) ∧ (¬ 999 < (q 5 (Int32.toNatClampNeg (p1 + 2))) → (vp_in (p1 + 3) 640 ∧ ((999 < (q 5 (Int32.toNatClampNeg (p1 + 3))) → (P 0 (r, q))) ∧ (¬ 999 < (q 5 (Int32.toNatClampNeg (p1 + 3))) → (vp_in (p1 + 2) 640 ∧ (vp_in (p1 + 3) 640 ∧ (((q 5 (Int32.toNatClampNeg (p1 + 3))) < (q 5 (Int32.toNatClampNeg (p1 + 2))) → (P 0 (r, q))) ∧ (¬ (q 5 (Int32.toNatClampNeg (p1 + 3))) < (q 5 (Int32.toNatClampNeg (p1 + 2))) → (vp_in v1 3334 ∧ ((¬ (q 0 (Int32.toNatClampNeg v1)) = 12 → (vp_in v1 3334 ∧ (∀ v12 : Int32, v12 = (((274 + 510 * p0) + 2) + (3 * (q 0 (Int32.toNatClampNeg v1)))) → (vp_in (p1 + 2) 640 ∧ (vp_in v12 3334 ∧ (∀ q15 : Nat → Nat → Int32, q15 = va_up q 0 (upd (q 0) (Int32.toNatClampNeg v12) (q 5 (Int32.toNatClampNeg (p1 + 2)))) → (vp_in (p1 + 3) 640 ∧ (vp_in (v12 + 1) 3334 ∧ (∀ q18 : Nat → Nat → Int32, q18 = va_up q15 0 (upd (q15 0) (Int32.toNatClampNeg (v12 + 1)) (q15 5 (Int32.toNatClampNeg (p1 + 3)))) → (vp_in (p1 + 1) 640 ∧ (vp_in (v12 + 2) 3334 ∧ (∀ q21 : Nat → Nat → Int32, q21 = va_up q18 0 (upd (q18 0) (Int32.toNatClampNeg (v12 + 2)) (q18 5 (Int32.toNatClampNeg (p1 + 1)))) → (vp_in v1 3334 ∧ (vp_in v1 3334 ∧ (∀ q24 : Nat → Nat → Int32, q24 = va_up q21 0 (upd (q21 0) (Int32.toNatClampNeg v1) ((q21 0 (Int32.toNatClampNeg v1)) + 1)) → (P 1 (r, q24))))))))))))))))) ∧ ((q 0 (Int32.toNatClampNeg v1)) = 12 → (P 0 (r, q)))))))))))))))
set_option maxRecDepth 100000 in
set_option maxHeartbeats 4000000 in
theorem t_X11_puts {p : Program} {l : Launch} {e : Env} {s : State} {m : MethodId} {args : Array Value} {below : List Frame} {meth : Method} {c : Code} {D : va_G} {A : Nat → Prop} {T : Nat → ClassId} {m0 : Nat} {a : Nat → Nat} (C : GC p s m args meth c cX11_puts "FreightRaterModel" (ws_X11_puts) 5 D A (zty T)) (hr : meth.sig.returnType = (some .boolean)) (P : Int32 → RST → Prop) : ∀ (p0 : Int32) (p1 : Int32) (r : Nat → Int32) (q : Nat → Nat → Int32), wp_X11_puts P p0 p1 r q → GW p l e rm_X11_puts s m args below meth c D A 5 0 0 (MQ below (va_Qi P (RE D T m0 a A) A) args s 0 0 A) (RW m0 a T r q) 0 0 0 [(0, .ref m0), (1, .int p0), (2, .int p1)] [] := by
  have hw : ∀ {w : Cond}, w ∈ W0 → w.before args s = true := fun h => C.2.2.2.2.1 _ (List.mem_cons_of_mem _ h)
  intro p0 p1 r q h
  unfold wp_X11_puts at h
  refine g_iload_n C dX11_puts_0 rfl 1 rfl ?_
  refine gr_callSf C [.int p0] rfl (k_X11_at l D T m0 a p0 r q) (w0_S 1 C.2.2.2.2.1 kw_1947 kw_1948 kw_9 kw_1949 rfl rfl (by decide +kernel) ⟨by decide, by decide⟩) rfl (Nat.le_of_ble_eq_true rfl) (Nat.zero_le _) (Nat.zero_le _) dX11_puts_1 ?_
  refine g_iconst (v := 1) C dX11_puts_4 (by decide) ?_
  refine g_iadd C dX11_puts_5 ?_
  refine g_topi (fun v1 ev1 => ?_)
  replace h := h v1 ev1
  refine g_istore_n (lv' := [(3, .int v1), (0, .ref m0), (1, .int p0), (2, .int p1)]) C dX11_puts_6 rfl (by decide) rfl ?_
  refine g_aload_n C dX11_puts_7 rfl 1 rfl ?_
  refine gr_get C iwx_X11 14 (hw kw_1823) (by decide) rfl rfl dX11_puts_8 ?_
  refine g_iload_n C dX11_puts_11 rfl 3 rfl ?_
  refine g_iconst (v := 2) C dX11_puts_12 (by decide) ?_
  refine g_iadd C dX11_puts_13 ?_
  obtain ⟨g2, h⟩ := h
  refine gr_ald_5 C g2 dX11_puts_14 ?_
  refine g_sipush (v := 999) C dX11_puts_15 (by decide) ?_
  refine g_icmp_gt (tgt := 65) C dX11_puts_18 (by decide) (fun z3 => ?_) (fun z3 => ?_)
  · replace h := h.1 z3
    refine g_iconst (v := 0) C dX11_puts_65 (by decide) ?_
    exact gr_zret C hr vz0 dX11_puts_66 h
  · replace h := h.2 z3
    refine g_aload_n C dX11_puts_21 rfl 1 rfl ?_
    refine gr_get C iwx_X11 14 (hw kw_1823) (by decide) rfl rfl dX11_puts_22 ?_
    refine g_iload_n C dX11_puts_25 rfl 3 rfl ?_
    refine g_iconst (v := 3) C dX11_puts_26 (by decide) ?_
    refine g_iadd C dX11_puts_27 ?_
    obtain ⟨g4, h⟩ := h
    refine gr_ald_5 C g4 dX11_puts_28 ?_
    refine g_sipush (v := 999) C dX11_puts_29 (by decide) ?_
    refine g_icmp_gt (tgt := 65) C dX11_puts_32 (by decide) (fun z5 => ?_) (fun z5 => ?_)
    · replace h := h.1 z5
      refine g_iconst (v := 0) C dX11_puts_65 (by decide) ?_
      exact gr_zret C hr vz0 dX11_puts_66 h
    · replace h := h.2 z5
      refine g_aload_n C dX11_puts_35 rfl 1 rfl ?_
      refine gr_get C iwx_X11 14 (hw kw_1823) (by decide) rfl rfl dX11_puts_36 ?_
      refine g_iload_n C dX11_puts_39 rfl 3 rfl ?_
      refine g_iconst (v := 2) C dX11_puts_40 (by decide) ?_
      refine g_iadd C dX11_puts_41 ?_
      obtain ⟨g6, h⟩ := h
      refine gr_ald_5 C g6 dX11_puts_42 ?_
      refine g_aload_n C dX11_puts_43 rfl 1 rfl ?_
      refine gr_get C iwx_X11 14 (hw kw_1823) (by decide) rfl rfl dX11_puts_44 ?_
      refine g_iload_n C dX11_puts_47 rfl 3 rfl ?_
      refine g_iconst (v := 3) C dX11_puts_48 (by decide) ?_
      refine g_iadd C dX11_puts_49 ?_
      obtain ⟨g7, h⟩ := h
      refine gr_ald_5 C g7 dX11_puts_50 ?_
      refine g_icmp_gt (tgt := 65) C dX11_puts_51 (by decide) (fun z8 => ?_) (fun z8 => ?_)
      · replace h := h.1 z8
        refine g_iconst (v := 0) C dX11_puts_65 (by decide) ?_
        exact gr_zret C hr vz0 dX11_puts_66 h
      · replace h := h.2 z8
        refine g_aload_n C dX11_puts_54 rfl 1 rfl ?_
        refine gr_get C iwx_X11 0 (hw kw_1809) (by decide) rfl rfl dX11_puts_55 ?_
        refine g_iload_n C dX11_puts_58 rfl 0 rfl ?_
        obtain ⟨g9, h⟩ := h
        refine gr_ald_0 C g9 dX11_puts_59 ?_
        refine g_bipush (v := 12) C dX11_puts_60 (by decide) ?_
        refine g_icmp_ne (tgt := 67) C dX11_puts_62 (by decide) (fun z10 => ?_) (fun z10 => ?_)
        · replace h := h.1 z10
          refine g_iload_n C dX11_puts_67 rfl 2 rfl ?_
          refine gr_callSf C [.int p0] rfl (k_X11_at l D T m0 a p0 r q) (w0_S 1 C.2.2.2.2.1 kw_1947 kw_1948 kw_9 kw_1949 rfl rfl (by decide +kernel) ⟨by decide, by decide⟩) rfl (Nat.le_of_ble_eq_true rfl) (Nat.zero_le _) (Nat.zero_le _) dX11_puts_68 ?_
          refine g_iconst (v := 2) C dX11_puts_71 (by decide) ?_
          refine g_iadd C dX11_puts_72 ?_
          refine g_iconst (v := 3) C dX11_puts_73 (by decide) ?_
          refine g_aload_n C dX11_puts_74 rfl 1 rfl ?_
          refine gr_get C iwx_X11 0 (hw kw_1809) (by decide) rfl rfl dX11_puts_75 ?_
          refine g_iload_n C dX11_puts_78 rfl 0 rfl ?_
          obtain ⟨g11, h⟩ := h
          refine gr_ald_0 C g11 dX11_puts_79 ?_
          refine g_imul C dX11_puts_80 ?_
          refine g_iadd C dX11_puts_81 ?_
          refine g_topi (fun v12 ev12 => ?_)
          replace h := h v12 ev12
          refine g_istore (lv' := [(4, .int v12), (3, .int v1), (0, .ref m0), (1, .int p0), (2, .int p1)]) C dX11_puts_82 (by decide) rfl ?_
          refine g_aload_n C dX11_puts_84 rfl 2 rfl ?_
          refine gr_get C iwx_X11 0 (hw kw_1809) (by decide) rfl rfl dX11_puts_85 ?_
          refine g_iload C dX11_puts_88 0 rfl ?_
          refine g_aload_n C dX11_puts_90 rfl 2 rfl ?_
          refine gr_get C iwx_X11 14 (hw kw_1823) (by decide) rfl rfl dX11_puts_91 ?_
          refine g_iload_n C dX11_puts_94 rfl 4 rfl ?_
          refine g_iconst (v := 2) C dX11_puts_95 (by decide) ?_
          refine g_iadd C dX11_puts_96 ?_
          obtain ⟨g13, h⟩ := h
          refine gr_ald_5 C g13 dX11_puts_97 ?_
          obtain ⟨g14, h⟩ := h
          refine gr_ast_0 C g14 dX11_puts_98 ?_
          refine gr_nq (fun q15 eq15 => ?_)
          replace h := h q15 eq15
          refine g_aload_n C dX11_puts_99 rfl 2 rfl ?_
          refine gr_get C iwx_X11 0 (hw kw_1809) (by decide) rfl rfl dX11_puts_100 ?_
          refine g_iload C dX11_puts_103 0 rfl ?_
          refine g_iconst (v := 1) C dX11_puts_105 (by decide) ?_
          refine g_iadd C dX11_puts_106 ?_
          refine g_aload_n C dX11_puts_107 rfl 2 rfl ?_
          refine gr_get C iwx_X11 14 (hw kw_1823) (by decide) rfl rfl dX11_puts_108 ?_
          refine g_iload_n C dX11_puts_111 rfl 4 rfl ?_
          refine g_iconst (v := 3) C dX11_puts_112 (by decide) ?_
          refine g_iadd C dX11_puts_113 ?_
          obtain ⟨g16, h⟩ := h
          refine gr_ald_5 C g16 dX11_puts_114 ?_
          obtain ⟨g17, h⟩ := h
          refine gr_ast_0 C g17 dX11_puts_115 ?_
          refine gr_nq (fun q18 eq18 => ?_)
          replace h := h q18 eq18
          refine g_aload_n C dX11_puts_116 rfl 2 rfl ?_
          refine gr_get C iwx_X11 0 (hw kw_1809) (by decide) rfl rfl dX11_puts_117 ?_
          refine g_iload C dX11_puts_120 0 rfl ?_
          refine g_iconst (v := 2) C dX11_puts_122 (by decide) ?_
          refine g_iadd C dX11_puts_123 ?_
          refine g_aload_n C dX11_puts_124 rfl 2 rfl ?_
          refine gr_get C iwx_X11 14 (hw kw_1823) (by decide) rfl rfl dX11_puts_125 ?_
          refine g_iload_n C dX11_puts_128 rfl 4 rfl ?_
          refine g_iconst (v := 1) C dX11_puts_129 (by decide) ?_
          refine g_iadd C dX11_puts_130 ?_
          obtain ⟨g19, h⟩ := h
          refine gr_ald_5 C g19 dX11_puts_131 ?_
          obtain ⟨g20, h⟩ := h
          refine gr_ast_0 C g20 dX11_puts_132 ?_
          refine gr_nq (fun q21 eq21 => ?_)
          replace h := h q21 eq21
          refine g_aload_n C dX11_puts_133 rfl 2 rfl ?_
          refine gr_get C iwx_X11 0 (hw kw_1809) (by decide) rfl rfl dX11_puts_134 ?_
          refine g_iload_n C dX11_puts_137 rfl 1 rfl ?_
          refine g_dup2 C dX11_puts_138 rfl rfl ?_
          obtain ⟨g22, h⟩ := h
          refine gr_ald_0 C g22 dX11_puts_139 ?_
          refine g_iconst (v := 1) C dX11_puts_140 (by decide) ?_
          refine g_iadd C dX11_puts_141 ?_
          obtain ⟨g23, h⟩ := h
          refine gr_ast_0 C g23 dX11_puts_142 ?_
          refine gr_nq (fun q24 eq24 => ?_)
          replace h := h q24 eq24
          refine g_iconst (v := 1) C dX11_puts_143 (by decide) ?_
          exact gr_zret C hr vz1 dX11_puts_144 h
        · replace h := h.2 z10
          refine g_iconst (v := 0) C dX11_puts_65 (by decide) ?_
          exact gr_zret C hr vz0 dX11_puts_66 h
theorem c_X11_puts (l : Launch) (D : va_G) (T : Nat → ClassId) (m0 : Nat) (a : Nat → Nat) (p0 : Int32) (p1 : Int32) (r : Nat → Int32) (q : Nat → Nat → Int32) (P : Int32 → RST → Prop) (h : wp_X11_puts P p0 p1 r q) : RMi l yX11_puts (ws_X11_puts) rm_X11_puts D T m0 a [.ref m0, .int p0, .int p1] r q P := gr_meti (by decide) rfl rfl (Nat.le_of_ble_eq_true rfl) (fun p e s m args below meth c A C hr => t_X11_puts C hr P p0 p1 r q h)
def wp_X11_writes (P : Int32 → RST → Prop) (p0 : Int32) (p1 : Int32) (p2 : Int32) (p3 : Int32) (r : Nat → Int32) (q : Nat → Nat → Int32) : Prop := vp_in p0 3334 ∧ (∀ q2 : Nat → Nat → Int32, q2 = va_up q 0 (upd (q 0) (Int32.toNatClampNeg p0) p1) → (vz (zin p1 p2 p3) ∧ P (zin p1 p2 p3) (r, q2)))
set_option maxRecDepth 100000 in
set_option maxHeartbeats 4000000 in
theorem t_X11_writes {p : Program} {l : Launch} {e : Env} {s : State} {m : MethodId} {args : Array Value} {below : List Frame} {meth : Method} {c : Code} {D : va_G} {A : Nat → Prop} {T : Nat → ClassId} {m0 : Nat} {a : Nat → Nat} (C : GC p s m args meth c cX11_writes "FreightRaterModel" (ws_X11_writes) 5 D A (zty T)) (hr : meth.sig.returnType = (some .boolean)) (P : Int32 → RST → Prop) : ∀ (p0 : Int32) (p1 : Int32) (p2 : Int32) (p3 : Int32) (r : Nat → Int32) (q : Nat → Nat → Int32), wp_X11_writes P p0 p1 p2 p3 r q → GW p l e rm_X11_writes s m args below meth c D A 5 0 0 (MQ below (va_Qi P (RE D T m0 a A) A) args s 0 0 A) (RW m0 a T r q) 0 0 0 [(0, .ref m0), (1, .int p0), (2, .int p1), (3, .int p2), (4, .int p3)] [] := by
  have hw : ∀ {w : Cond}, w ∈ W0 → w.before args s = true := fun h => C.2.2.2.2.1 _ (List.mem_cons_of_mem _ h)
  intro p0 p1 p2 p3 r q h
  unfold wp_X11_writes at h
  refine g_aload_n C dX11_writes_0 rfl 0 rfl ?_
  refine gr_get C iwx_X11 0 (hw kw_1809) (by decide) rfl rfl dX11_writes_1 ?_
  refine g_iload_n C dX11_writes_4 rfl 1 rfl ?_
  refine g_iload_n C dX11_writes_5 rfl 2 rfl ?_
  obtain ⟨g1, h⟩ := h
  refine gr_ast_0 C g1 dX11_writes_6 ?_
  refine gr_nq (fun q2 eq2 => ?_)
  replace h := h q2 eq2
  refine g_iload_n C dX11_writes_7 rfl 2 rfl ?_
  refine g_iload_n C dX11_writes_8 rfl 3 rfl ?_
  refine g_iload C dX11_writes_9 4 rfl ?_
  refine gr_callSf C [.int p1, .int p2, .int p3] rfl (k_X11_in l D T m0 a p1 p2 p3 r q2) (w0_S 3 C.2.2.2.2.1 kw_1944 kw_1945 kw_9 kw_1946 rfl rfl (by decide +kernel) ⟨by decide, by decide⟩) rfl (Nat.le_of_ble_eq_true rfl) (Nat.zero_le _) (Nat.zero_le _) dX11_writes_11 ?_
  exact gr_zret C hr h.1 dX11_writes_14 h.2
theorem c_X11_writes (l : Launch) (D : va_G) (T : Nat → ClassId) (m0 : Nat) (a : Nat → Nat) (p0 : Int32) (p1 : Int32) (p2 : Int32) (p3 : Int32) (r : Nat → Int32) (q : Nat → Nat → Int32) (P : Int32 → RST → Prop) (h : wp_X11_writes P p0 p1 p2 p3 r q) : RMi l yX11_writes (ws_X11_writes) rm_X11_writes D T m0 a [.ref m0, .int p0, .int p1, .int p2, .int p3] r q P := gr_meti (by decide) rfl rfl (Nat.le_of_ble_eq_true rfl) (fun p e s m args below meth c A C hr => t_X11_writes C hr P p0 p1 p2 p3 r q h)
def wb_X11_putNumber_4 (rec : Int32 → Int32 → (Nat → Int32) → (Nat → Nat → Int32) → Prop) (K22 : Int32 → Int32 → (Nat → Int32) → (Nat → Nat → Int32) → Prop) (P : RST → Prop) (x1 : Int32) (x2 : Int32) (r : Nat → Int32) (q : Nat → Nat → Int32) : Prop := (x2 ≤ 1 → (K22 x1 x2 r q)) ∧ (¬ x2 ≤ 1 → ((x2 ≤ x1 → (K22 x1 x2 r q)) ∧ (¬ x2 ≤ x1 → (∀ v3 : Int32, v3 = (x2 / 10) → (rec x1 v3 r q)))))
def wp_X11_putNumber_4 (K22 : Int32 → Int32 → (Nat → Int32) → (Nat → Nat → Int32) → Prop) (P : RST → Prop) : Nat → Int32 → Int32 → (Nat → Int32) → (Nat → Nat → Int32) → Prop
  | 0 => fun _ _ _ _ => False
  | n + 1 => fun x1 x2 r q => wb_X11_putNumber_4 (wp_X11_putNumber_4 K22 P n) K22 P x1 x2 r q
set_option maxRecDepth 100000 in
set_option maxHeartbeats 4000000 in
theorem t_X11_putNumber_4 {p : Program} {l : Launch} {e : Env} {s : State} {m : MethodId} {args : Array Value} {below : List Frame} {meth : Method} {c : Code} {D : va_G} {A : Nat → Prop} {T : Nat → ClassId} {m0 : Nat} {a : Nat → Nat} (C : GC p s m args meth c cX11_putNumber "FreightRaterModel" (ws_X11_putNumber) 3 D A (zty T)) (hr : meth.sig.returnType = none) (K22 : Int32 → Int32 → (Nat → Int32) → (Nat → Nat → Int32) → Prop) (P : RST → Prop) (hK22 : ∀ (x1 : Int32) (x2 : Int32) (r : Nat → Int32) (q : Nat → Nat → Int32), K22 x1 x2 r q → GW p l e rm_X11_putNumber s m args below meth c D A 3 0 0 (MQ below (va_Qv P (RE D T m0 a A) A) args s 0 0 A) (RW m0 a T r q) 0 0 22 [(0, .ref m0), (1, .int x1), (2, .int x2)] []) : ∀ (n : Nat) (x1 : Int32) (x2 : Int32) (r : Nat → Int32) (q : Nat → Nat → Int32), wp_X11_putNumber_4 K22 P n x1 x2 r q → GW p l e rm_X11_putNumber s m args below meth c D A 3 0 0 (MQ below (va_Qv P (RE D T m0 a A) A) args s 0 0 A) (RW m0 a T r q) 0 0 4 [(0, .ref m0), (1, .int x1), (2, .int x2)] [] := by
  have hw : ∀ {w : Cond}, w ∈ W0 → w.before args s = true := fun h => C.2.2.2.2.1 _ (List.mem_cons_of_mem _ h)
  intro n
  induction n with
  | zero => intro x1 x2 r q h; exact h.elim
  | succ n ih =>
    intro x1 x2 r q h
    replace h : wb_X11_putNumber_4 (wp_X11_putNumber_4 K22 P n) K22 P x1 x2 r q := h
    unfold wb_X11_putNumber_4 at h
    refine g_iload_n C dX11_putNumber_4 rfl 2 rfl ?_
    refine g_iconst (v := 1) C dX11_putNumber_5 (by decide) ?_
    refine g_icmp_le (tgt := 22) C dX11_putNumber_6 (by decide) (fun z1 => ?_) (fun z1 => ?_)
    · replace h := h.1 z1
      refine g_locals [0, 1, 2] rfl ?_
      exact hK22 x1 x2 r q h
    · replace h := h.2 z1
      refine g_iload_n C dX11_putNumber_9 rfl 1 rfl ?_
      refine g_iload_n C dX11_putNumber_10 rfl 2 rfl ?_
      refine g_icmp_ge (tgt := 22) C dX11_putNumber_11 (by decide) (fun z2 => ?_) (fun z2 => ?_)
      · replace h := h.1 z2
        refine g_locals [0, 1, 2] rfl ?_
        exact hK22 x1 x2 r q h
      · replace h := h.2 z2
        refine g_iload_n C dX11_putNumber_14 rfl 2 rfl ?_
        refine g_bipush (v := 10) C dX11_putNumber_15 (by decide) ?_
        refine g_idiv C dX11_putNumber_17 (by decide) ?_
        refine g_topi (fun v3 ev3 => ?_)
        replace h := h v3 ev3
        refine g_istore_n (lv' := [(2, .int v3), (0, .ref m0), (1, .int x1)]) C dX11_putNumber_18 rfl (by decide) rfl ?_
        refine g_goto (tgt := 4) C dX11_putNumber_19 (by decide) ?_
        refine g_locals [1, 2, 0] rfl ?_
        exact ih x1 v3 r q h
def wb_X11_putNumber_22 (rec : Int32 → Int32 → (Nat → Int32) → (Nat → Nat → Int32) → Prop) (P : RST → Prop) (x1 : Int32) (x2 : Int32) (r : Nat → Int32) (q : Nat → Nat → Int32) : Prop := (x2 ≤ 0 → (P (r, q))) ∧ (¬ x2 ≤ 0 → (¬ x2 = 0 ∧ (∀ (r11 : Nat → Int32) (q12 : Nat → Nat → Int32), True → (∀ v13 : Int32, v13 = (x2 / 10) → (rec x1 v13 r11 q12)))))
def wp_X11_putNumber_22 (P : RST → Prop) : Nat → Int32 → Int32 → (Nat → Int32) → (Nat → Nat → Int32) → Prop
  | 0 => fun _ _ _ _ => False
  | n + 1 => fun x1 x2 r q => wb_X11_putNumber_22 (wp_X11_putNumber_22  P n)  P x1 x2 r q
set_option maxRecDepth 100000 in
set_option maxHeartbeats 4000000 in
theorem t_X11_putNumber_22 {p : Program} {l : Launch} {e : Env} {s : State} {m : MethodId} {args : Array Value} {below : List Frame} {meth : Method} {c : Code} {D : va_G} {A : Nat → Prop} {T : Nat → ClassId} {m0 : Nat} {a : Nat → Nat} (C : GC p s m args meth c cX11_putNumber "FreightRaterModel" (ws_X11_putNumber) 3 D A (zty T)) (hr : meth.sig.returnType = none) (P : RST → Prop) : ∀ (n : Nat) (x1 : Int32) (x2 : Int32) (r : Nat → Int32) (q : Nat → Nat → Int32), wp_X11_putNumber_22  P n x1 x2 r q → GW p l e rm_X11_putNumber s m args below meth c D A 3 0 0 (MQ below (va_Qv P (RE D T m0 a A) A) args s 0 0 A) (RW m0 a T r q) 0 0 22 [(0, .ref m0), (1, .int x1), (2, .int x2)] [] := by
  have hw : ∀ {w : Cond}, w ∈ W0 → w.before args s = true := fun h => C.2.2.2.2.1 _ (List.mem_cons_of_mem _ h)
  intro n
  induction n with
  | zero => intro x1 x2 r q h; exact h.elim
  | succ n ih =>
    intro x1 x2 r q h
    replace h : wb_X11_putNumber_22 (wp_X11_putNumber_22  P n)  P x1 x2 r q := h
    unfold wb_X11_putNumber_22 at h
    refine g_iload_n C dX11_putNumber_22 rfl 2 rfl ?_
    refine g_if_le (tgt := 48) C dX11_putNumber_23 (by decide) (fun z8 => ?_) (fun z8 => ?_)
    · replace h := h.1 z8
      exact gr_vret C hr dX11_putNumber_48 h
    · replace h := h.2 z8
      refine g_aload_n C dX11_putNumber_26 rfl 0 rfl ?_
      refine g_bipush (v := 48) C dX11_putNumber_27 (by decide) ?_
      refine g_iload_n C dX11_putNumber_29 rfl 1 rfl ?_
      refine g_iload_n C dX11_putNumber_30 rfl 2 rfl ?_
      obtain ⟨g9, h⟩ := h
      refine g_idiv C dX11_putNumber_31 g9 ?_
      refine g_bipush (v := 10) C dX11_putNumber_32 (by decide) ?_
      refine g_irem C dX11_putNumber_34 (by decide) ?_
      refine g_iadd C dX11_putNumber_35 ?_
      refine g_i2c C dX11_putNumber_36 rfl ?_
      refine gr_callvV C [.int ((Int32.toUInt32 (48 + ((x1 / x2) - (x1 / x2) / 10 * 10)) % 65536).toInt32)] rfl (k_X11_put l D T m0 a ((Int32.toUInt32 (48 + ((x1 / x2) - (x1 / x2) / 10 * 10)) % 65536).toInt32) r q) (w0_V 1 C.2.2.2.2.1 kw_2331 kw_2333 ks_106 kw_9 kw_2334 rfl rfl (by decide +kernel) ⟨by decide, by decide⟩) rfl (Nat.le_of_ble_eq_true rfl) (Nat.zero_le _) (Nat.zero_le _) dX11_putNumber_37 (fun r11 q12 hp => ?_)
      replace h := h r11 q12 hp
      refine g_iload_n C dX11_putNumber_40 rfl 2 rfl ?_
      refine g_bipush (v := 10) C dX11_putNumber_41 (by decide) ?_
      refine g_idiv C dX11_putNumber_43 (by decide) ?_
      refine g_topi (fun v13 ev13 => ?_)
      replace h := h v13 ev13
      refine g_istore_n (lv' := [(2, .int v13), (0, .ref m0), (1, .int x1)]) C dX11_putNumber_44 rfl (by decide) rfl ?_
      refine g_goto (tgt := 22) C dX11_putNumber_45 (by decide) ?_
      refine g_locals [1, 2, 0] rfl ?_
      exact ih x1 v13 r11 q12 h
def wp_X11_putNumber (P : RST → Prop) (p0 : Int32) (r : Nat → Int32) (q : Nat → Nat → Int32) : Prop := ∃ k15 : Nat, wp_X11_putNumber_4 (fun (y4 : Int32) (y5 : Int32) (r6 : Nat → Int32) (q7 : Nat → Nat → Int32) => ∃ k14 : Nat, wp_X11_putNumber_22  P k14 y4 y5 r6 q7) P k15 p0 1000 r q
set_option maxRecDepth 100000 in
set_option maxHeartbeats 4000000 in
theorem t_X11_putNumber {p : Program} {l : Launch} {e : Env} {s : State} {m : MethodId} {args : Array Value} {below : List Frame} {meth : Method} {c : Code} {D : va_G} {A : Nat → Prop} {T : Nat → ClassId} {m0 : Nat} {a : Nat → Nat} (C : GC p s m args meth c cX11_putNumber "FreightRaterModel" (ws_X11_putNumber) 3 D A (zty T)) (hr : meth.sig.returnType = none) (P : RST → Prop) : ∀ (p0 : Int32) (r : Nat → Int32) (q : Nat → Nat → Int32), wp_X11_putNumber P p0 r q → GW p l e rm_X11_putNumber s m args below meth c D A 3 0 0 (MQ below (va_Qv P (RE D T m0 a A) A) args s 0 0 A) (RW m0 a T r q) 0 0 0 [(0, .ref m0), (1, .int p0)] [] := by
  have hw : ∀ {w : Cond}, w ∈ W0 → w.before args s = true := fun h => C.2.2.2.2.1 _ (List.mem_cons_of_mem _ h)
  intro p0 r q h
  unfold wp_X11_putNumber at h
  refine g_sipush (v := 1000) C dX11_putNumber_0 (by decide) ?_
  refine g_istore_n (lv' := [(2, .int 1000), (0, .ref m0), (1, .int p0)]) C dX11_putNumber_3 rfl (by decide) rfl ?_
  refine g_locals [1, 2, 0] rfl ?_
  obtain ⟨k15, h⟩ := h
  refine t_X11_putNumber_4 C hr _ P ?_ k15 p0 1000 r q h
  · intro y4 y5 r6 q7 h
    refine g_locals [0, 1, 2] rfl ?_
    obtain ⟨k14, h⟩ := h
    refine t_X11_putNumber_22 C hr  P  k14 y4 y5 r6 q7 h
theorem c_X11_putNumber (l : Launch) (D : va_G) (T : Nat → ClassId) (m0 : Nat) (a : Nat → Nat) (p0 : Int32) (r : Nat → Int32) (q : Nat → Nat → Int32) (P : RST → Prop) (h : wp_X11_putNumber P p0 r q) : RMv l yX11_putNumber (ws_X11_putNumber) rm_X11_putNumber D T m0 a [.ref m0, .int p0] r q P := gr_metv (by decide) rfl rfl (Nat.le_of_ble_eq_true rfl) (fun p e s m args below meth c A C hr => t_X11_putNumber C hr P p0 r q h)
def wb_X11_setsBreak_16 (rec : Int32 → Int32 → Int32 → Int32 → Int32 → Int32 → (Nat → Int32) → (Nat → Nat → Int32) → Prop) (K50 : Int32 → Int32 → Int32 → Int32 → Int32 → Int32 → (Nat → Int32) → (Nat → Nat → Int32) → Prop) (P : Int32 → RST → Prop) (x1 : Int32) (x2 : Int32) (x3 : Int32) (x4 : Int32) (x5 : Int32) (x6 : Int32) (r : Nat → Int32) (q : Nat → Nat → Int32) : Prop := vp_in x5 3334 ∧ (((q 0 (Int32.toNatClampNeg x5)) ≤ x6 → (K50 x1 x2 x3 x4 x5 x6 r q)) ∧ (¬ (q 0 (Int32.toNatClampNeg x5)) ≤ x6 → (vp_in (274 + 510 * x1 + 47 + 10 * (x2 - 1) + 2 * x6) 3334 ∧ ((x3 ≤ (q 0 (Int32.toNatClampNeg (274 + 510 * x1 + 47 + 10 * (x2 - 1) + 2 * x6))) → (K50 x1 x2 x3 x4 x5 x6 r q)) ∧ (¬ x3 ≤ (q 0 (Int32.toNatClampNeg (274 + 510 * x1 + 47 + 10 * (x2 - 1) + 2 * x6))) → (∀ v6 : Int32, v6 = x6 + 1 → (rec x1 x2 x3 x4 x5 v6 r q)))))))
def wp_X11_setsBreak_16 (K50 : Int32 → Int32 → Int32 → Int32 → Int32 → Int32 → (Nat → Int32) → (Nat → Nat → Int32) → Prop) (P : Int32 → RST → Prop) : Nat → Int32 → Int32 → Int32 → Int32 → Int32 → Int32 → (Nat → Int32) → (Nat → Nat → Int32) → Prop
  | 0 => fun _ _ _ _ _ _ _ _ => False
  | n + 1 => fun x1 x2 x3 x4 x5 x6 r q => wb_X11_setsBreak_16 (wp_X11_setsBreak_16 K50 P n) K50 P x1 x2 x3 x4 x5 x6 r q
set_option maxRecDepth 100000 in
set_option maxHeartbeats 4000000 in
theorem t_X11_setsBreak_16 {p : Program} {l : Launch} {e : Env} {s : State} {m : MethodId} {args : Array Value} {below : List Frame} {meth : Method} {c : Code} {D : va_G} {A : Nat → Prop} {T : Nat → ClassId} {m0 : Nat} {a : Nat → Nat} (C : GC p s m args meth c cX11_setsBreak "FreightRaterModel" (ws_X11_setsBreak) 9 D A (zty T)) (hr : meth.sig.returnType = (some .boolean)) (K50 : Int32 → Int32 → Int32 → Int32 → Int32 → Int32 → (Nat → Int32) → (Nat → Nat → Int32) → Prop) (P : Int32 → RST → Prop) (hK50 : ∀ (x1 : Int32) (x2 : Int32) (x3 : Int32) (x4 : Int32) (x5 : Int32) (x6 : Int32) (r : Nat → Int32) (q : Nat → Nat → Int32), K50 x1 x2 x3 x4 x5 x6 r q → GW p l e rm_X11_setsBreak s m args below meth c D A 9 0 0 (MQ below (va_Qi P (RE D T m0 a A) A) args s 0 0 A) (RW m0 a T r q) 0 0 50 [(0, .ref m0), (1, .int x1), (2, .int x2), (3, .int x3), (4, .int x4), (5, .int x5), (6, .int x6)] []) : ∀ (n : Nat) (x1 : Int32) (x2 : Int32) (x3 : Int32) (x4 : Int32) (x5 : Int32) (x6 : Int32) (r : Nat → Int32) (q : Nat → Nat → Int32), wp_X11_setsBreak_16 K50 P n x1 x2 x3 x4 x5 x6 r q → GW p l e rm_X11_setsBreak s m args below meth c D A 9 0 0 (MQ below (va_Qi P (RE D T m0 a A) A) args s 0 0 A) (RW m0 a T r q) 0 0 16 [(0, .ref m0), (1, .int x1), (2, .int x2), (3, .int x3), (4, .int x4), (5, .int x5), (6, .int x6)] [] := by
  have hw : ∀ {w : Cond}, w ∈ W0 → w.before args s = true := fun h => C.2.2.2.2.1 _ (List.mem_cons_of_mem _ h)
  intro n
  induction n with
  | zero => intro x1 x2 x3 x4 x5 x6 r q h; exact h.elim
  | succ n ih =>
    intro x1 x2 x3 x4 x5 x6 r q h
    replace h : wb_X11_setsBreak_16 (wp_X11_setsBreak_16 K50 P n) K50 P x1 x2 x3 x4 x5 x6 r q := h
    unfold wb_X11_setsBreak_16 at h
    refine g_iload C dX11_setsBreak_16 6 rfl ?_
    refine g_aload_n C dX11_setsBreak_18 rfl 0 rfl ?_
    refine gr_get C iwx_X11 0 (hw kw_1809) (by decide) rfl rfl dX11_setsBreak_19 ?_
    refine g_iload C dX11_setsBreak_22 5 rfl ?_
    obtain ⟨g2, h⟩ := h
    refine gr_ald_0 C g2 dX11_setsBreak_24 ?_
    refine g_icmp_ge (tgt := 50) C dX11_setsBreak_25 (by decide) (fun z3 => ?_) (fun z3 => ?_)
    · replace h := h.1 z3
      refine g_locals [0, 1, 2, 3, 4, 5, 6] rfl ?_
      exact hK50 x1 x2 x3 x4 x5 x6 r q h
    · replace h := h.2 z3
      refine g_aload_n C dX11_setsBreak_28 rfl 0 rfl ?_
      refine gr_get C iwx_X11 0 (hw kw_1809) (by decide) rfl rfl dX11_setsBreak_29 ?_
      refine g_iload_n C dX11_setsBreak_32 rfl 1 rfl ?_
      refine g_iload_n C dX11_setsBreak_33 rfl 2 rfl ?_
      refine g_iload C dX11_setsBreak_34 6 rfl ?_
      refine gr_callSf C [.int x1, .int x2, .int x6] rfl (k_X11_breakAt l D T m0 a x1 x2 x6 r q) (w0_S 3 C.2.2.2.2.1 kw_2005 kw_2006 kw_9 kw_2007 rfl rfl (by decide +kernel) ⟨by decide, by decide⟩) rfl (Nat.le_of_ble_eq_true rfl) (Nat.zero_le _) (Nat.zero_le _) dX11_setsBreak_36 ?_
      obtain ⟨g4, h⟩ := h
      refine gr_ald_0 C g4 dX11_setsBreak_39 ?_
      refine g_iload_n C dX11_setsBreak_40 rfl 3 rfl ?_
      refine g_icmp_ge (tgt := 50) C dX11_setsBreak_41 (by decide) (fun z5 => ?_) (fun z5 => ?_)
      · replace h := h.1 z5
        refine g_locals [0, 1, 2, 3, 4, 5, 6] rfl ?_
        exact hK50 x1 x2 x3 x4 x5 x6 r q h
      · replace h := h.2 z5
        obtain ⟨v6, ev6⟩ : ∃ y : Int32, y = x6 + 1 := ⟨_, rfl⟩
        replace h := h v6 ev6
        refine g_iinc (v := v6) (lv' := [(6, .int v6), (0, .ref m0), (1, .int x1), (2, .int x2), (3, .int x3), (4, .int x4), (5, .int x5)]) C dX11_setsBreak_44 (j := 6) rfl (by rw [ev6]; rfl) (by decide) rfl ?_
        refine g_goto (tgt := 16) C dX11_setsBreak_47 (by decide) ?_
        refine g_locals [1, 2, 3, 4, 5, 6, 0] rfl ?_
        exact ih x1 x2 x3 x4 x5 v6 r q h
def wb_X11_setsBreak_207 (rec : Int32 → Int32 → Int32 → Int32 → Int32 → Int32 → Int32 → Int32 → (Nat → Int32) → (Nat → Nat → Int32) → Prop) (K246 : Int32 → Int32 → Int32 → Int32 → Int32 → Int32 → Int32 → (Nat → Int32) → (Nat → Nat → Int32) → Prop) (P : Int32 → RST → Prop) (x1 : Int32) (x2 : Int32) (x3 : Int32) (x4 : Int32) (x5 : Int32) (x6 : Int32) (x7 : Int32) (x8 : Int32) (r : Nat → Int32) (q : Nat → Nat → Int32) : Prop := (x8 < (274 + 510 * x1 + 47 + 10 * (x2 - 1) + 2 * x6) → (K246 x1 x2 x3 x4 x5 x6 x7 r q)) ∧ (¬ x8 < (274 + 510 * x1 + 47 + 10 * (x2 - 1) + 2 * x6) → ((¬ x7 = 0 → (K246 x1 x2 x3 x4 x5 x6 x7 r q)) ∧ (x7 = 0 → (vp_in x8 3334 ∧ (vp_in (x8 + 2) 3334 ∧ (∀ q27 : Nat → Nat → Int32, q27 = va_up q 0 (upd (q 0) (Int32.toNatClampNeg (x8 + 2)) (q 0 (Int32.toNatClampNeg x8))) → (∀ v28 : Int32, v28 = x8 + (-1) → (rec x1 x2 x3 x4 x5 x6 x7 v28 r q27))))))))
def wp_X11_setsBreak_207 (K246 : Int32 → Int32 → Int32 → Int32 → Int32 → Int32 → Int32 → (Nat → Int32) → (Nat → Nat → Int32) → Prop) (P : Int32 → RST → Prop) : Nat → Int32 → Int32 → Int32 → Int32 → Int32 → Int32 → Int32 → Int32 → (Nat → Int32) → (Nat → Nat → Int32) → Prop
  | 0 => fun _ _ _ _ _ _ _ _ _ _ => False
  | n + 1 => fun x1 x2 x3 x4 x5 x6 x7 x8 r q => wb_X11_setsBreak_207 (wp_X11_setsBreak_207 K246 P n) K246 P x1 x2 x3 x4 x5 x6 x7 x8 r q
set_option maxRecDepth 100000 in
set_option maxHeartbeats 4000000 in
theorem t_X11_setsBreak_207 {p : Program} {l : Launch} {e : Env} {s : State} {m : MethodId} {args : Array Value} {below : List Frame} {meth : Method} {c : Code} {D : va_G} {A : Nat → Prop} {T : Nat → ClassId} {m0 : Nat} {a : Nat → Nat} (C : GC p s m args meth c cX11_setsBreak "FreightRaterModel" (ws_X11_setsBreak) 9 D A (zty T)) (hr : meth.sig.returnType = (some .boolean)) (K246 : Int32 → Int32 → Int32 → Int32 → Int32 → Int32 → Int32 → (Nat → Int32) → (Nat → Nat → Int32) → Prop) (P : Int32 → RST → Prop) (hK246 : ∀ (x1 : Int32) (x2 : Int32) (x3 : Int32) (x4 : Int32) (x5 : Int32) (x6 : Int32) (x7 : Int32) (r : Nat → Int32) (q : Nat → Nat → Int32), K246 x1 x2 x3 x4 x5 x6 x7 r q → GW p l e rm_X11_setsBreak s m args below meth c D A 9 0 0 (MQ below (va_Qi P (RE D T m0 a A) A) args s 0 0 A) (RW m0 a T r q) 0 0 246 [(0, .ref m0), (1, .int x1), (2, .int x2), (3, .int x3), (4, .int x4), (5, .int x5), (6, .int x6), (7, .int x7)] []) : ∀ (n : Nat) (x1 : Int32) (x2 : Int32) (x3 : Int32) (x4 : Int32) (x5 : Int32) (x6 : Int32) (x7 : Int32) (x8 : Int32) (r : Nat → Int32) (q : Nat → Nat → Int32), wp_X11_setsBreak_207 K246 P n x1 x2 x3 x4 x5 x6 x7 x8 r q → GW p l e rm_X11_setsBreak s m args below meth c D A 9 0 0 (MQ below (va_Qi P (RE D T m0 a A) A) args s 0 0 A) (RW m0 a T r q) 0 0 207 [(0, .ref m0), (1, .int x1), (2, .int x2), (3, .int x3), (4, .int x4), (5, .int x5), (6, .int x6), (7, .int x7), (8, .int x8)] [] := by
  have hw : ∀ {w : Cond}, w ∈ W0 → w.before args s = true := fun h => C.2.2.2.2.1 _ (List.mem_cons_of_mem _ h)
  intro n
  induction n with
  | zero => intro x1 x2 x3 x4 x5 x6 x7 x8 r q h; exact h.elim
  | succ n ih =>
    intro x1 x2 x3 x4 x5 x6 x7 x8 r q h
    replace h : wb_X11_setsBreak_207 (wp_X11_setsBreak_207 K246 P n) K246 P x1 x2 x3 x4 x5 x6 x7 x8 r q := h
    unfold wb_X11_setsBreak_207 at h
    refine g_iload C dX11_setsBreak_207 8 rfl ?_
    refine g_iload_n C dX11_setsBreak_209 rfl 1 rfl ?_
    refine g_iload_n C dX11_setsBreak_210 rfl 2 rfl ?_
    refine g_iload C dX11_setsBreak_211 6 rfl ?_
    refine gr_callSf C [.int x1, .int x2, .int x6] rfl (k_X11_breakAt l D T m0 a x1 x2 x6 r q) (w0_S 3 C.2.2.2.2.1 kw_2005 kw_2006 kw_9 kw_2007 rfl rfl (by decide +kernel) ⟨by decide, by decide⟩) rfl (Nat.le_of_ble_eq_true rfl) (Nat.zero_le _) (Nat.zero_le _) dX11_setsBreak_213 ?_
    refine g_icmp_lt (tgt := 246) C dX11_setsBreak_216 (by decide) (fun z23 => ?_) (fun z23 => ?_)
    · replace h := h.1 z23
      refine g_locals [0, 1, 2, 3, 4, 5, 6, 7] rfl ?_
      exact hK246 x1 x2 x3 x4 x5 x6 x7 r q h
    · replace h := h.2 z23
      refine g_iload C dX11_setsBreak_219 7 rfl ?_
      refine g_if_ne (tgt := 246) C dX11_setsBreak_221 (by decide) (fun z24 => ?_) (fun z24 => ?_)
      · replace h := h.1 z24
        refine g_locals [0, 1, 2, 3, 4, 5, 6, 7] rfl ?_
        exact hK246 x1 x2 x3 x4 x5 x6 x7 r q h
      · replace h := h.2 z24
        refine g_aload_n C dX11_setsBreak_224 rfl 0 rfl ?_
        refine gr_get C iwx_X11 0 (hw kw_1809) (by decide) rfl rfl dX11_setsBreak_225 ?_
        refine g_iload C dX11_setsBreak_228 8 rfl ?_
        refine g_iconst (v := 2) C dX11_setsBreak_230 (by decide) ?_
        refine g_iadd C dX11_setsBreak_231 ?_
        refine g_aload_n C dX11_setsBreak_232 rfl 0 rfl ?_
        refine gr_get C iwx_X11 0 (hw kw_1809) (by decide) rfl rfl dX11_setsBreak_233 ?_
        refine g_iload C dX11_setsBreak_236 8 rfl ?_
        obtain ⟨g25, h⟩ := h
        refine gr_ald_0 C g25 dX11_setsBreak_238 ?_
        obtain ⟨g26, h⟩ := h
        refine gr_ast_0 C g26 dX11_setsBreak_239 ?_
        refine gr_nq (fun q27 eq27 => ?_)
        replace h := h q27 eq27
        obtain ⟨v28, ev28⟩ : ∃ y : Int32, y = x8 + (-1) := ⟨_, rfl⟩
        replace h := h v28 ev28
        refine g_iinc (v := v28) (lv' := [(8, .int v28), (0, .ref m0), (1, .int x1), (2, .int x2), (3, .int x3), (4, .int x4), (5, .int x5), (6, .int x6), (7, .int x7)]) C dX11_setsBreak_240 (j := 8) rfl (by rw [ev28]; rfl) (by decide) rfl ?_
        refine g_goto (tgt := 207) C dX11_setsBreak_243 (by decide) ?_
        refine g_locals [1, 2, 3, 4, 5, 6, 7, 8, 0] rfl ?_
        exact ih x1 x2 x3 x4 x5 x6 x7 v28 r q27 h
def wp_X11_setsBreak_246 (P : Int32 → RST → Prop) (x1 : Int32) (x2 : Int32) (x3 : Int32) (x4 : Int32) (x5 : Int32) (x6 : Int32) (x7 : Int32) (r : Nat → Int32) (q : Nat → Nat → Int32) : Prop := vp_in x5 3334 ∧ ((x7 = 0 → (vp_in x5 3334 ∧ (∀ q41 : Nat → Nat → Int32, q41 = va_up q 0 (upd (q 0) (Int32.toNatClampNeg x5) ((q 0 (Int32.toNatClampNeg x5)) + 1)) → (vp_in (274 + 510 * x1 + 47 + 10 * (x2 - 1) + 2 * x6) 3334 ∧ (∀ q43 : Nat → Nat → Int32, q43 = va_up q41 0 (upd (q41 0) (Int32.toNatClampNeg (274 + 510 * x1 + 47 + 10 * (x2 - 1) + 2 * x6)) x3) → (vp_in ((274 + 510 * x1 + 47 + 10 * (x2 - 1) + 2 * x6) + 1) 3334 ∧ (∀ q45 : Nat → Nat → Int32, q45 = va_up q43 0 (upd (q43 0) (Int32.toNatClampNeg ((274 + 510 * x1 + 47 + 10 * (x2 - 1) + 2 * x6) + 1)) x4) → (P 1 (r, q45))))))))) ∧ (¬ x7 = 0 → (vp_in x5 3334 ∧ (∀ q47 : Nat → Nat → Int32, q47 = va_up q 0 (upd (q 0) (Int32.toNatClampNeg x5) ((q 0 (Int32.toNatClampNeg x5)) + 0)) → (vp_in (274 + 510 * x1 + 47 + 10 * (x2 - 1) + 2 * x6) 3334 ∧ (∀ q49 : Nat → Nat → Int32, q49 = va_up q47 0 (upd (q47 0) (Int32.toNatClampNeg (274 + 510 * x1 + 47 + 10 * (x2 - 1) + 2 * x6)) x3) → (vp_in ((274 + 510 * x1 + 47 + 10 * (x2 - 1) + 2 * x6) + 1) 3334 ∧ (∀ q51 : Nat → Nat → Int32, q51 = va_up q49 0 (upd (q49 0) (Int32.toNatClampNeg ((274 + 510 * x1 + 47 + 10 * (x2 - 1) + 2 * x6) + 1)) x4) → (P 1 (r, q51))))))))))
set_option maxRecDepth 100000 in
set_option maxHeartbeats 4000000 in
theorem t_X11_setsBreak_246 {p : Program} {l : Launch} {e : Env} {s : State} {m : MethodId} {args : Array Value} {below : List Frame} {meth : Method} {c : Code} {D : va_G} {A : Nat → Prop} {T : Nat → ClassId} {m0 : Nat} {a : Nat → Nat} (C : GC p s m args meth c cX11_setsBreak "FreightRaterModel" (ws_X11_setsBreak) 9 D A (zty T)) (hr : meth.sig.returnType = (some .boolean)) (P : Int32 → RST → Prop) : ∀ (x1 : Int32) (x2 : Int32) (x3 : Int32) (x4 : Int32) (x5 : Int32) (x6 : Int32) (x7 : Int32) (r : Nat → Int32) (q : Nat → Nat → Int32), wp_X11_setsBreak_246  P x1 x2 x3 x4 x5 x6 x7 r q → GW p l e rm_X11_setsBreak s m args below meth c D A 9 0 0 (MQ below (va_Qi P (RE D T m0 a A) A) args s 0 0 A) (RW m0 a T r q) 0 0 246 [(0, .ref m0), (1, .int x1), (2, .int x2), (3, .int x3), (4, .int x4), (5, .int x5), (6, .int x6), (7, .int x7)] [] := by
  have hw : ∀ {w : Cond}, w ∈ W0 → w.before args s = true := fun h => C.2.2.2.2.1 _ (List.mem_cons_of_mem _ h)
  intro x1 x2 x3 x4 x5 x6 x7 r q h
  unfold wp_X11_setsBreak_246 at h
  refine g_aload_n C dX11_setsBreak_246 rfl 0 rfl ?_
  refine gr_get C iwx_X11 0 (hw kw_1809) (by decide) rfl rfl dX11_setsBreak_247 ?_
  refine g_iload C dX11_setsBreak_250 5 rfl ?_
  refine g_dup2 C dX11_setsBreak_252 rfl rfl ?_
  obtain ⟨g38, h⟩ := h
  refine gr_ald_0 C g38 dX11_setsBreak_253 ?_
  refine g_iload C dX11_setsBreak_254 7 rfl ?_
  refine g_if_eq (tgt := 263) C dX11_setsBreak_256 (by decide) (fun z39 => ?_) (fun z39 => ?_)
  · replace h := h.1 z39
    refine g_iconst (v := 1) C dX11_setsBreak_263 (by decide) ?_
    refine g_iadd C dX11_setsBreak_264 ?_
    obtain ⟨g40, h⟩ := h
    refine gr_ast_0 C g40 dX11_setsBreak_265 ?_
    refine gr_nq (fun q41 eq41 => ?_)
    replace h := h q41 eq41
    refine g_aload_n C dX11_setsBreak_266 rfl 0 rfl ?_
    refine gr_get C iwx_X11 0 (hw kw_1809) (by decide) rfl rfl dX11_setsBreak_267 ?_
    refine g_iload_n C dX11_setsBreak_270 rfl 1 rfl ?_
    refine g_iload_n C dX11_setsBreak_271 rfl 2 rfl ?_
    refine g_iload C dX11_setsBreak_272 6 rfl ?_
    refine gr_callSf C [.int x1, .int x2, .int x6] rfl (k_X11_breakAt l D T m0 a x1 x2 x6 r q41) (w0_S 3 C.2.2.2.2.1 kw_2005 kw_2006 kw_9 kw_2007 rfl rfl (by decide +kernel) ⟨by decide, by decide⟩) rfl (Nat.le_of_ble_eq_true rfl) (Nat.zero_le _) (Nat.zero_le _) dX11_setsBreak_274 ?_
    refine g_iload_n C dX11_setsBreak_277 rfl 3 rfl ?_
    obtain ⟨g42, h⟩ := h
    refine gr_ast_0 C g42 dX11_setsBreak_278 ?_
    refine gr_nq (fun q43 eq43 => ?_)
    replace h := h q43 eq43
    refine g_aload_n C dX11_setsBreak_279 rfl 0 rfl ?_
    refine gr_get C iwx_X11 0 (hw kw_1809) (by decide) rfl rfl dX11_setsBreak_280 ?_
    refine g_iload_n C dX11_setsBreak_283 rfl 1 rfl ?_
    refine g_iload_n C dX11_setsBreak_284 rfl 2 rfl ?_
    refine g_iload C dX11_setsBreak_285 6 rfl ?_
    refine gr_callSf C [.int x1, .int x2, .int x6] rfl (k_X11_breakAt l D T m0 a x1 x2 x6 r q43) (w0_S 3 C.2.2.2.2.1 kw_2005 kw_2006 kw_9 kw_2007 rfl rfl (by decide +kernel) ⟨by decide, by decide⟩) rfl (Nat.le_of_ble_eq_true rfl) (Nat.zero_le _) (Nat.zero_le _) dX11_setsBreak_287 ?_
    refine g_iconst (v := 1) C dX11_setsBreak_290 (by decide) ?_
    refine g_iadd C dX11_setsBreak_291 ?_
    refine g_iload C dX11_setsBreak_292 4 rfl ?_
    obtain ⟨g44, h⟩ := h
    refine gr_ast_0 C g44 dX11_setsBreak_294 ?_
    refine gr_nq (fun q45 eq45 => ?_)
    replace h := h q45 eq45
    refine g_iconst (v := 1) C dX11_setsBreak_295 (by decide) ?_
    exact gr_zret C hr vz1 dX11_setsBreak_296 h
  · replace h := h.2 z39
    refine g_iconst (v := 0) C dX11_setsBreak_259 (by decide) ?_
    refine g_goto (tgt := 264) C dX11_setsBreak_260 (by decide) ?_
    refine g_iadd C dX11_setsBreak_264 ?_
    obtain ⟨g46, h⟩ := h
    refine gr_ast_0 C g46 dX11_setsBreak_265 ?_
    refine gr_nq (fun q47 eq47 => ?_)
    replace h := h q47 eq47
    refine g_aload_n C dX11_setsBreak_266 rfl 0 rfl ?_
    refine gr_get C iwx_X11 0 (hw kw_1809) (by decide) rfl rfl dX11_setsBreak_267 ?_
    refine g_iload_n C dX11_setsBreak_270 rfl 1 rfl ?_
    refine g_iload_n C dX11_setsBreak_271 rfl 2 rfl ?_
    refine g_iload C dX11_setsBreak_272 6 rfl ?_
    refine gr_callSf C [.int x1, .int x2, .int x6] rfl (k_X11_breakAt l D T m0 a x1 x2 x6 r q47) (w0_S 3 C.2.2.2.2.1 kw_2005 kw_2006 kw_9 kw_2007 rfl rfl (by decide +kernel) ⟨by decide, by decide⟩) rfl (Nat.le_of_ble_eq_true rfl) (Nat.zero_le _) (Nat.zero_le _) dX11_setsBreak_274 ?_
    refine g_iload_n C dX11_setsBreak_277 rfl 3 rfl ?_
    obtain ⟨g48, h⟩ := h
    refine gr_ast_0 C g48 dX11_setsBreak_278 ?_
    refine gr_nq (fun q49 eq49 => ?_)
    replace h := h q49 eq49
    refine g_aload_n C dX11_setsBreak_279 rfl 0 rfl ?_
    refine gr_get C iwx_X11 0 (hw kw_1809) (by decide) rfl rfl dX11_setsBreak_280 ?_
    refine g_iload_n C dX11_setsBreak_283 rfl 1 rfl ?_
    refine g_iload_n C dX11_setsBreak_284 rfl 2 rfl ?_
    refine g_iload C dX11_setsBreak_285 6 rfl ?_
    refine gr_callSf C [.int x1, .int x2, .int x6] rfl (k_X11_breakAt l D T m0 a x1 x2 x6 r q49) (w0_S 3 C.2.2.2.2.1 kw_2005 kw_2006 kw_9 kw_2007 rfl rfl (by decide +kernel) ⟨by decide, by decide⟩) rfl (Nat.le_of_ble_eq_true rfl) (Nat.zero_le _) (Nat.zero_le _) dX11_setsBreak_287 ?_
    refine g_iconst (v := 1) C dX11_setsBreak_290 (by decide) ?_
    refine g_iadd C dX11_setsBreak_291 ?_
    refine g_iload C dX11_setsBreak_292 4 rfl ?_
    obtain ⟨g50, h⟩ := h
    refine gr_ast_0 C g50 dX11_setsBreak_294 ?_
    refine gr_nq (fun q51 eq51 => ?_)
    replace h := h q51 eq51
    refine g_iconst (v := 1) C dX11_setsBreak_295 (by decide) ?_
    exact gr_zret C hr vz1 dX11_setsBreak_296 h
def wb_X11_setsBreak_150 (rec : Int32 → Int32 → Int32 → Int32 → (Nat → Int32) → (Nat → Nat → Int32) → Prop) (P : Int32 → RST → Prop) (x1 : Int32) (x2 : Int32) (x5 : Int32) (x8 : Int32) (r : Nat → Int32) (q : Nat → Nat → Int32) : Prop := vp_in x5 3334 ∧ (((274 + 510 * x1 + 47 + 10 * (x2 - 1) + 2 * (q 0 (Int32.toNatClampNeg x5))) ≤ x8 → (P 1 (r, q))) ∧ (¬ (274 + 510 * x1 + 47 + 10 * (x2 - 1) + 2 * (q 0 (Int32.toNatClampNeg x5))) ≤ x8 → (vp_in (x8 + 2) 3334 ∧ (vp_in x8 3334 ∧ (∀ q61 : Nat → Nat → Int32, q61 = va_up q 0 (upd (q 0) (Int32.toNatClampNeg x8) (q 0 (Int32.toNatClampNeg (x8 + 2)))) → (∀ v62 : Int32, v62 = x8 + 1 → (rec x1 x2 x5 v62 r q61)))))))
def wp_X11_setsBreak_150 (P : Int32 → RST → Prop) : Nat → Int32 → Int32 → Int32 → Int32 → (Nat → Int32) → (Nat → Nat → Int32) → Prop
  | 0 => fun _ _ _ _ _ _ => False
  | n + 1 => fun x1 x2 x5 x8 r q => wb_X11_setsBreak_150 (wp_X11_setsBreak_150  P n)  P x1 x2 x5 x8 r q
set_option maxRecDepth 100000 in
set_option maxHeartbeats 4000000 in
theorem t_X11_setsBreak_150 {p : Program} {l : Launch} {e : Env} {s : State} {m : MethodId} {args : Array Value} {below : List Frame} {meth : Method} {c : Code} {D : va_G} {A : Nat → Prop} {T : Nat → ClassId} {m0 : Nat} {a : Nat → Nat} (C : GC p s m args meth c cX11_setsBreak "FreightRaterModel" (ws_X11_setsBreak) 9 D A (zty T)) (hr : meth.sig.returnType = (some .boolean)) (P : Int32 → RST → Prop) : ∀ (n : Nat) (x1 : Int32) (x2 : Int32) (x5 : Int32) (x8 : Int32) (r : Nat → Int32) (q : Nat → Nat → Int32), wp_X11_setsBreak_150  P n x1 x2 x5 x8 r q → GW p l e rm_X11_setsBreak s m args below meth c D A 9 0 0 (MQ below (va_Qi P (RE D T m0 a A) A) args s 0 0 A) (RW m0 a T r q) 0 0 150 [(0, .ref m0), (1, .int x1), (2, .int x2), (5, .int x5), (8, .int x8)] [] := by
  have hw : ∀ {w : Cond}, w ∈ W0 → w.before args s = true := fun h => C.2.2.2.2.1 _ (List.mem_cons_of_mem _ h)
  intro n
  induction n with
  | zero => intro x1 x2 x5 x8 r q h; exact h.elim
  | succ n ih =>
    intro x1 x2 x5 x8 r q h
    replace h : wb_X11_setsBreak_150 (wp_X11_setsBreak_150  P n)  P x1 x2 x5 x8 r q := h
    unfold wb_X11_setsBreak_150 at h
    refine g_iload C dX11_setsBreak_150 4 rfl ?_
    refine g_iload_n C dX11_setsBreak_152 rfl 1 rfl ?_
    refine g_iload_n C dX11_setsBreak_153 rfl 2 rfl ?_
    refine g_aload_n C dX11_setsBreak_154 rfl 0 rfl ?_
    refine gr_get C iwx_X11 0 (hw kw_1809) (by decide) rfl rfl dX11_setsBreak_155 ?_
    refine g_iload C dX11_setsBreak_158 3 rfl ?_
    obtain ⟨g57, h⟩ := h
    refine gr_ald_0 C g57 dX11_setsBreak_160 ?_
    refine gr_callSf C [.int x1, .int x2, .int (q 0 (Int32.toNatClampNeg x5))] rfl (k_X11_breakAt l D T m0 a x1 x2 (q 0 (Int32.toNatClampNeg x5)) r q) (w0_S 3 C.2.2.2.2.1 kw_2005 kw_2006 kw_9 kw_2007 rfl rfl (by decide +kernel) ⟨by decide, by decide⟩) rfl (Nat.le_of_ble_eq_true rfl) (Nat.zero_le _) (Nat.zero_le _) dX11_setsBreak_161 ?_
    refine g_icmp_ge (tgt := 189) C dX11_setsBreak_164 (by decide) (fun z58 => ?_) (fun z58 => ?_)
    · replace h := h.1 z58
      refine g_iconst (v := 1) C dX11_setsBreak_189 (by decide) ?_
      exact gr_zret C hr vz1 dX11_setsBreak_190 h
    · replace h := h.2 z58
      refine g_aload_n C dX11_setsBreak_167 rfl 0 rfl ?_
      refine gr_get C iwx_X11 0 (hw kw_1809) (by decide) rfl rfl dX11_setsBreak_168 ?_
      refine g_iload C dX11_setsBreak_171 4 rfl ?_
      refine g_aload_n C dX11_setsBreak_173 rfl 0 rfl ?_
      refine gr_get C iwx_X11 0 (hw kw_1809) (by decide) rfl rfl dX11_setsBreak_174 ?_
      refine g_iload C dX11_setsBreak_177 4 rfl ?_
      refine g_iconst (v := 2) C dX11_setsBreak_179 (by decide) ?_
      refine g_iadd C dX11_setsBreak_180 ?_
      obtain ⟨g59, h⟩ := h
      refine gr_ald_0 C g59 dX11_setsBreak_181 ?_
      obtain ⟨g60, h⟩ := h
      refine gr_ast_0 C g60 dX11_setsBreak_182 ?_
      refine gr_nq (fun q61 eq61 => ?_)
      replace h := h q61 eq61
      obtain ⟨v62, ev62⟩ : ∃ y : Int32, y = x8 + 1 := ⟨_, rfl⟩
      replace h := h v62 ev62
      refine g_iinc (v := v62) (lv' := [(8, .int v62), (0, .ref m0), (1, .int x1), (2, .int x2), (5, .int x5)]) C dX11_setsBreak_183 (j := 4) rfl (by rw [ev62]; rfl) (by decide) rfl ?_
      refine g_goto (tgt := 150) C dX11_setsBreak_186 (by decide) ?_
      refine g_locals [1, 2, 3, 4, 0] rfl ?_
      exact ih x1 x2 x5 v62 r q61 h
def wp_X11_setsBreak_125 (P : Int32 → RST → Prop) (x1 : Int32) (x2 : Int32) (x3 : Int32) (x4 : Int32) (x5 : Int32) (x6 : Int32) (x7 : Int32) (r : Nat → Int32) (q : Nat → Nat → Int32) : Prop := (¬ x4 = 0 → (vp_in x5 3334 ∧ (∀ v22 : Int32, v22 = ((274 + 510 * x1 + 47 + 10 * (x2 - 1) + 2 * (q 0 (Int32.toNatClampNeg x5))) - 1) → (∃ k52 : Nat, wp_X11_setsBreak_207 (fun (y29 : Int32) (y30 : Int32) (y31 : Int32) (y32 : Int32) (y33 : Int32) (y34 : Int32) (y35 : Int32) (r36 : Nat → Int32) (q37 : Nat → Nat → Int32) => wp_X11_setsBreak_246  P y29 y30 y31 y32 y33 y34 y35 r36 q37) P k52 x1 x2 x3 x4 x5 x6 x7 v22 r q)))) ∧ (x4 = 0 → (vp_in x5 3334 ∧ (vp_in x5 3334 ∧ (∀ q55 : Nat → Nat → Int32, q55 = va_up q 0 (upd (q 0) (Int32.toNatClampNeg x5) ((q 0 (Int32.toNatClampNeg x5)) - 1)) → (∀ v56 : Int32, v56 = (274 + 510 * x1 + 47 + 10 * (x2 - 1) + 2 * x6) → (∃ k63 : Nat, wp_X11_setsBreak_150  P k63 x1 x2 x5 v56 r q55))))))
set_option maxRecDepth 100000 in
set_option maxHeartbeats 4000000 in
theorem t_X11_setsBreak_125 {p : Program} {l : Launch} {e : Env} {s : State} {m : MethodId} {args : Array Value} {below : List Frame} {meth : Method} {c : Code} {D : va_G} {A : Nat → Prop} {T : Nat → ClassId} {m0 : Nat} {a : Nat → Nat} (C : GC p s m args meth c cX11_setsBreak "FreightRaterModel" (ws_X11_setsBreak) 9 D A (zty T)) (hr : meth.sig.returnType = (some .boolean)) (P : Int32 → RST → Prop) : ∀ (x1 : Int32) (x2 : Int32) (x3 : Int32) (x4 : Int32) (x5 : Int32) (x6 : Int32) (x7 : Int32) (r : Nat → Int32) (q : Nat → Nat → Int32), wp_X11_setsBreak_125  P x1 x2 x3 x4 x5 x6 x7 r q → GW p l e rm_X11_setsBreak s m args below meth c D A 9 0 0 (MQ below (va_Qi P (RE D T m0 a A) A) args s 0 0 A) (RW m0 a T r q) 0 0 125 [(0, .ref m0), (1, .int x1), (2, .int x2), (3, .int x3), (4, .int x4), (5, .int x5), (6, .int x6), (7, .int x7)] [] := by
  have hw : ∀ {w : Cond}, w ∈ W0 → w.before args s = true := fun h => C.2.2.2.2.1 _ (List.mem_cons_of_mem _ h)
  intro x1 x2 x3 x4 x5 x6 x7 r q h
  unfold wp_X11_setsBreak_125 at h
  refine g_iload C dX11_setsBreak_125 4 rfl ?_
  refine g_if_ne (tgt := 191) C dX11_setsBreak_127 (by decide) (fun z20 => ?_) (fun z20 => ?_)
  · replace h := h.1 z20
    refine g_iload_n C dX11_setsBreak_191 rfl 1 rfl ?_
    refine g_iload_n C dX11_setsBreak_192 rfl 2 rfl ?_
    refine g_aload_n C dX11_setsBreak_193 rfl 0 rfl ?_
    refine gr_get C iwx_X11 0 (hw kw_1809) (by decide) rfl rfl dX11_setsBreak_194 ?_
    refine g_iload C dX11_setsBreak_197 5 rfl ?_
    obtain ⟨g21, h⟩ := h
    refine gr_ald_0 C g21 dX11_setsBreak_199 ?_
    refine gr_callSf C [.int x1, .int x2, .int (q 0 (Int32.toNatClampNeg x5))] rfl (k_X11_breakAt l D T m0 a x1 x2 (q 0 (Int32.toNatClampNeg x5)) r q) (w0_S 3 C.2.2.2.2.1 kw_2005 kw_2006 kw_9 kw_2007 rfl rfl (by decide +kernel) ⟨by decide, by decide⟩) rfl (Nat.le_of_ble_eq_true rfl) (Nat.zero_le _) (Nat.zero_le _) dX11_setsBreak_200 ?_
    refine g_iconst (v := 1) C dX11_setsBreak_203 (by decide) ?_
    refine g_isub C dX11_setsBreak_204 ?_
    refine g_topi (fun v22 ev22 => ?_)
    replace h := h v22 ev22
    refine g_istore (lv' := [(8, .int v22), (0, .ref m0), (1, .int x1), (2, .int x2), (3, .int x3), (4, .int x4), (5, .int x5), (6, .int x6), (7, .int x7)]) C dX11_setsBreak_205 (by decide) rfl ?_
    refine g_locals [1, 2, 3, 4, 5, 6, 7, 8, 0] rfl ?_
    obtain ⟨k52, h⟩ := h
    refine t_X11_setsBreak_207 C hr _ P ?_ k52 x1 x2 x3 x4 x5 x6 x7 v22 r q h
    · intro y29 y30 y31 y32 y33 y34 y35 r36 q37 h
      refine g_locals [0, 1, 2, 3, 4, 5, 6, 7] rfl ?_
      refine t_X11_setsBreak_246 C hr  P  y29 y30 y31 y32 y33 y34 y35 r36 q37 h
  · replace h := h.2 z20
    refine g_aload_n C dX11_setsBreak_130 rfl 0 rfl ?_
    refine gr_get C iwx_X11 0 (hw kw_1809) (by decide) rfl rfl dX11_setsBreak_131 ?_
    refine g_iload C dX11_setsBreak_134 5 rfl ?_
    refine g_dup2 C dX11_setsBreak_136 rfl rfl ?_
    obtain ⟨g53, h⟩ := h
    refine gr_ald_0 C g53 dX11_setsBreak_137 ?_
    refine g_iconst (v := 1) C dX11_setsBreak_138 (by decide) ?_
    refine g_isub C dX11_setsBreak_139 ?_
    obtain ⟨g54, h⟩ := h
    refine gr_ast_0 C g54 dX11_setsBreak_140 ?_
    refine gr_nq (fun q55 eq55 => ?_)
    replace h := h q55 eq55
    refine g_iload_n C dX11_setsBreak_141 rfl 1 rfl ?_
    refine g_iload_n C dX11_setsBreak_142 rfl 2 rfl ?_
    refine g_iload C dX11_setsBreak_143 6 rfl ?_
    refine gr_callSf C [.int x1, .int x2, .int x6] rfl (k_X11_breakAt l D T m0 a x1 x2 x6 r q55) (w0_S 3 C.2.2.2.2.1 kw_2005 kw_2006 kw_9 kw_2007 rfl rfl (by decide +kernel) ⟨by decide, by decide⟩) rfl (Nat.le_of_ble_eq_true rfl) (Nat.zero_le _) (Nat.zero_le _) dX11_setsBreak_145 ?_
    refine g_topi (fun v56 ev56 => ?_)
    replace h := h v56 ev56
    refine g_istore (lv' := [(8, .int v56), (0, .ref m0), (1, .int x1), (2, .int x2), (3, .int x3), (4, .int x4), (5, .int x5), (6, .int x6), (7, .int x7)]) C dX11_setsBreak_148 (by decide) rfl ?_
    refine g_locals [1, 2, 3, 6, 0] rfl ?_
    obtain ⟨k63, h⟩ := h
    refine t_X11_setsBreak_150 C hr  P  k63 x1 x2 x5 v56 r q55 h
def wp_X11_setsBreak_83 (P : Int32 → RST → Prop) (x1 : Int32) (x2 : Int32) (x3 : Int32) (x4 : Int32) (x5 : Int32) (x6 : Int32) (s0 : Int32) (r : Nat → Int32) (q : Nat → Nat → Int32) : Prop := (99 < x4 → (P 0 (r, q))) ∧ (¬ 99 < x4 → ((¬ x4 = 0 → ((x4 ≤ 0 → (wp_X11_setsBreak_125  P x1 x2 x3 x4 x5 x6 s0 r q)) ∧ (¬ x4 ≤ 0 → ((¬ s0 = 0 → (wp_X11_setsBreak_125  P x1 x2 x3 x4 x5 x6 s0 r q)) ∧ (s0 = 0 → (vp_in x5 3334 ∧ ((¬ (q 0 (Int32.toNatClampNeg x5)) = 5 → (wp_X11_setsBreak_125  P x1 x2 x3 x4 x5 x6 s0 r q)) ∧ ((q 0 (Int32.toNatClampNeg x5)) = 5 → (P 0 (r, q)))))))))) ∧ (x4 = 0 → ((s0 = 0 → (P 0 (r, q))) ∧ (¬ s0 = 0 → ((x4 ≤ 0 → (wp_X11_setsBreak_125  P x1 x2 x3 x4 x5 x6 s0 r q)) ∧ (¬ x4 ≤ 0 → ((¬ s0 = 0 → (wp_X11_setsBreak_125  P x1 x2 x3 x4 x5 x6 s0 r q)) ∧ (s0 = 0 → (vp_in x5 3334 ∧ ((¬ (q 0 (Int32.toNatClampNeg x5)) = 5 → (wp_X11_setsBreak_125  P x1 x2 x3 x4 x5 x6 s0 r q)) ∧ ((q 0 (Int32.toNatClampNeg x5)) = 5 → (P 0 (r, q))))))))))))))
set_option maxRecDepth 100000 in
set_option maxHeartbeats 4000000 in
theorem t_X11_setsBreak_83 {p : Program} {l : Launch} {e : Env} {s : State} {m : MethodId} {args : Array Value} {below : List Frame} {meth : Method} {c : Code} {D : va_G} {A : Nat → Prop} {T : Nat → ClassId} {m0 : Nat} {a : Nat → Nat} (C : GC p s m args meth c cX11_setsBreak "FreightRaterModel" (ws_X11_setsBreak) 9 D A (zty T)) (hr : meth.sig.returnType = (some .boolean)) (P : Int32 → RST → Prop) : ∀ (x1 : Int32) (x2 : Int32) (x3 : Int32) (x4 : Int32) (x5 : Int32) (x6 : Int32) (s0 : Int32) (r : Nat → Int32) (q : Nat → Nat → Int32), wp_X11_setsBreak_83  P x1 x2 x3 x4 x5 x6 s0 r q → GW p l e rm_X11_setsBreak s m args below meth c D A 9 0 0 (MQ below (va_Qi P (RE D T m0 a A) A) args s 0 0 A) (RW m0 a T r q) 0 0 83 [(0, .ref m0), (1, .int x1), (2, .int x2), (3, .int x3), (4, .int x4), (5, .int x5), (6, .int x6)] [.int s0] := by
  have hw : ∀ {w : Cond}, w ∈ W0 → w.before args s = true := fun h => C.2.2.2.2.1 _ (List.mem_cons_of_mem _ h)
  intro x1 x2 x3 x4 x5 x6 s0 r q h
  unfold wp_X11_setsBreak_83 at h
  refine g_istore (lv' := [(7, .int s0), (0, .ref m0), (1, .int x1), (2, .int x2), (3, .int x3), (4, .int x4), (5, .int x5), (6, .int x6)]) C dX11_setsBreak_83 (by decide) rfl ?_
  refine g_iload C dX11_setsBreak_85 5 rfl ?_
  refine g_bipush (v := 99) C dX11_setsBreak_87 (by decide) ?_
  refine g_icmp_gt (tgt := 123) C dX11_setsBreak_89 (by decide) (fun z17 => ?_) (fun z17 => ?_)
  · replace h := h.1 z17
    refine g_iconst (v := 0) C dX11_setsBreak_123 (by decide) ?_
    exact gr_zret C hr vz0 dX11_setsBreak_124 h
  · replace h := h.2 z17
    refine g_iload C dX11_setsBreak_92 5 rfl ?_
    refine g_if_ne (tgt := 102) C dX11_setsBreak_94 (by decide) (fun z18 => ?_) (fun z18 => ?_)
    · replace h := h.1 z18
      refine g_iload C dX11_setsBreak_102 5 rfl ?_
      refine g_if_le (tgt := 125) C dX11_setsBreak_104 (by decide) (fun z19 => ?_) (fun z19 => ?_)
      · replace h := h.1 z19
        refine g_locals [1, 2, 3, 4, 5, 6, 7, 0] rfl ?_
        refine t_X11_setsBreak_125 C hr  P  x1 x2 x3 x4 x5 x6 s0 r q h
      · replace h := h.2 z19
        refine g_iload C dX11_setsBreak_107 0 rfl ?_
        refine g_if_ne (tgt := 125) C dX11_setsBreak_109 (by decide) (fun z64 => ?_) (fun z64 => ?_)
        · replace h := h.1 z64
          refine g_locals [1, 2, 3, 4, 5, 6, 7, 0] rfl ?_
          refine t_X11_setsBreak_125 C hr  P  x1 x2 x3 x4 x5 x6 s0 r q h
        · replace h := h.2 z64
          refine g_aload_n C dX11_setsBreak_112 rfl 1 rfl ?_
          refine gr_get C iwx_X11 0 (hw kw_1809) (by decide) rfl rfl dX11_setsBreak_113 ?_
          refine g_iload C dX11_setsBreak_116 6 rfl ?_
          obtain ⟨g65, h⟩ := h
          refine gr_ald_0 C g65 dX11_setsBreak_118 ?_
          refine g_iconst (v := 5) C dX11_setsBreak_119 (by decide) ?_
          refine g_icmp_ne (tgt := 125) C dX11_setsBreak_120 (by decide) (fun z66 => ?_) (fun z66 => ?_)
          · replace h := h.1 z66
            refine g_locals [1, 2, 3, 4, 5, 6, 7, 0] rfl ?_
            refine t_X11_setsBreak_125 C hr  P  x1 x2 x3 x4 x5 x6 s0 r q h
          · replace h := h.2 z66
            refine g_iconst (v := 0) C dX11_setsBreak_123 (by decide) ?_
            exact gr_zret C hr vz0 dX11_setsBreak_124 h
    · replace h := h.2 z18
      refine g_iload C dX11_setsBreak_97 0 rfl ?_
      refine g_if_eq (tgt := 123) C dX11_setsBreak_99 (by decide) (fun z67 => ?_) (fun z67 => ?_)
      · replace h := h.1 z67
        refine g_iconst (v := 0) C dX11_setsBreak_123 (by decide) ?_
        exact gr_zret C hr vz0 dX11_setsBreak_124 h
      · replace h := h.2 z67
        refine g_iload C dX11_setsBreak_102 5 rfl ?_
        refine g_if_le (tgt := 125) C dX11_setsBreak_104 (by decide) (fun z68 => ?_) (fun z68 => ?_)
        · replace h := h.1 z68
          refine g_locals [1, 2, 3, 4, 5, 6, 7, 0] rfl ?_
          refine t_X11_setsBreak_125 C hr  P  x1 x2 x3 x4 x5 x6 s0 r q h
        · replace h := h.2 z68
          refine g_iload C dX11_setsBreak_107 0 rfl ?_
          refine g_if_ne (tgt := 125) C dX11_setsBreak_109 (by decide) (fun z69 => ?_) (fun z69 => ?_)
          · replace h := h.1 z69
            refine g_locals [1, 2, 3, 4, 5, 6, 7, 0] rfl ?_
            refine t_X11_setsBreak_125 C hr  P  x1 x2 x3 x4 x5 x6 s0 r q h
          · replace h := h.2 z69
            refine g_aload_n C dX11_setsBreak_112 rfl 1 rfl ?_
            refine gr_get C iwx_X11 0 (hw kw_1809) (by decide) rfl rfl dX11_setsBreak_113 ?_
            refine g_iload C dX11_setsBreak_116 6 rfl ?_
            obtain ⟨g70, h⟩ := h
            refine gr_ald_0 C g70 dX11_setsBreak_118 ?_
            refine g_iconst (v := 5) C dX11_setsBreak_119 (by decide) ?_
            refine g_icmp_ne (tgt := 125) C dX11_setsBreak_120 (by decide) (fun z71 => ?_) (fun z71 => ?_)
            · replace h := h.1 z71
              refine g_locals [1, 2, 3, 4, 5, 6, 7, 0] rfl ?_
              refine t_X11_setsBreak_125 C hr  P  x1 x2 x3 x4 x5 x6 s0 r q h
            · replace h := h.2 z71
              refine g_iconst (v := 0) C dX11_setsBreak_123 (by decide) ?_
              exact gr_zret C hr vz0 dX11_setsBreak_124 h
def wp_X11_setsBreak_50 (P : Int32 → RST → Prop) (x1 : Int32) (x2 : Int32) (x3 : Int32) (x4 : Int32) (x5 : Int32) (x6 : Int32) (r : Nat → Int32) (q : Nat → Nat → Int32) : Prop := vp_in x5 3334 ∧ (((q 0 (Int32.toNatClampNeg x5)) ≤ x6 → (wp_X11_setsBreak_83  P x1 x2 x3 x4 x5 x6 0 r q)) ∧ (¬ (q 0 (Int32.toNatClampNeg x5)) ≤ x6 → (vp_in (274 + 510 * x1 + 47 + 10 * (x2 - 1) + 2 * x6) 3334 ∧ ((¬ (q 0 (Int32.toNatClampNeg (274 + 510 * x1 + 47 + 10 * (x2 - 1) + 2 * x6))) = x3 → (wp_X11_setsBreak_83  P x1 x2 x3 x4 x5 x6 0 r q)) ∧ ((q 0 (Int32.toNatClampNeg (274 + 510 * x1 + 47 + 10 * (x2 - 1) + 2 * x6))) = x3 → (wp_X11_setsBreak_83  P x1 x2 x3 x4 x5 x6 1 r q))))))
set_option maxRecDepth 100000 in
set_option maxHeartbeats 4000000 in
theorem t_X11_setsBreak_50 {p : Program} {l : Launch} {e : Env} {s : State} {m : MethodId} {args : Array Value} {below : List Frame} {meth : Method} {c : Code} {D : va_G} {A : Nat → Prop} {T : Nat → ClassId} {m0 : Nat} {a : Nat → Nat} (C : GC p s m args meth c cX11_setsBreak "FreightRaterModel" (ws_X11_setsBreak) 9 D A (zty T)) (hr : meth.sig.returnType = (some .boolean)) (P : Int32 → RST → Prop) : ∀ (x1 : Int32) (x2 : Int32) (x3 : Int32) (x4 : Int32) (x5 : Int32) (x6 : Int32) (r : Nat → Int32) (q : Nat → Nat → Int32), wp_X11_setsBreak_50  P x1 x2 x3 x4 x5 x6 r q → GW p l e rm_X11_setsBreak s m args below meth c D A 9 0 0 (MQ below (va_Qi P (RE D T m0 a A) A) args s 0 0 A) (RW m0 a T r q) 0 0 50 [(0, .ref m0), (1, .int x1), (2, .int x2), (3, .int x3), (4, .int x4), (5, .int x5), (6, .int x6)] [] := by
  have hw : ∀ {w : Cond}, w ∈ W0 → w.before args s = true := fun h => C.2.2.2.2.1 _ (List.mem_cons_of_mem _ h)
  intro x1 x2 x3 x4 x5 x6 r q h
  unfold wp_X11_setsBreak_50 at h
  refine g_iload C dX11_setsBreak_50 6 rfl ?_
  refine g_aload_n C dX11_setsBreak_52 rfl 0 rfl ?_
  refine gr_get C iwx_X11 0 (hw kw_1809) (by decide) rfl rfl dX11_setsBreak_53 ?_
  refine g_iload C dX11_setsBreak_56 5 rfl ?_
  obtain ⟨g15, h⟩ := h
  refine gr_ald_0 C g15 dX11_setsBreak_58 ?_
  refine g_icmp_ge (tgt := 82) C dX11_setsBreak_59 (by decide) (fun z16 => ?_) (fun z16 => ?_)
  · replace h := h.1 z16
    refine g_iconst (v := 0) C dX11_setsBreak_82 (by decide) ?_
    refine g_locals [0, 1, 2, 3, 4, 5, 6] rfl ?_
    refine t_X11_setsBreak_83 C hr  P  x1 x2 x3 x4 x5 x6 0 r q h
  · replace h := h.2 z16
    refine g_aload_n C dX11_setsBreak_62 rfl 0 rfl ?_
    refine gr_get C iwx_X11 0 (hw kw_1809) (by decide) rfl rfl dX11_setsBreak_63 ?_
    refine g_iload_n C dX11_setsBreak_66 rfl 1 rfl ?_
    refine g_iload_n C dX11_setsBreak_67 rfl 2 rfl ?_
    refine g_iload C dX11_setsBreak_68 6 rfl ?_
    refine gr_callSf C [.int x1, .int x2, .int x6] rfl (k_X11_breakAt l D T m0 a x1 x2 x6 r q) (w0_S 3 C.2.2.2.2.1 kw_2005 kw_2006 kw_9 kw_2007 rfl rfl (by decide +kernel) ⟨by decide, by decide⟩) rfl (Nat.le_of_ble_eq_true rfl) (Nat.zero_le _) (Nat.zero_le _) dX11_setsBreak_70 ?_
    obtain ⟨g72, h⟩ := h
    refine gr_ald_0 C g72 dX11_setsBreak_73 ?_
    refine g_iload_n C dX11_setsBreak_74 rfl 3 rfl ?_
    refine g_icmp_ne (tgt := 82) C dX11_setsBreak_75 (by decide) (fun z73 => ?_) (fun z73 => ?_)
    · replace h := h.1 z73
      refine g_iconst (v := 0) C dX11_setsBreak_82 (by decide) ?_
      refine g_locals [0, 1, 2, 3, 4, 5, 6] rfl ?_
      refine t_X11_setsBreak_83 C hr  P  x1 x2 x3 x4 x5 x6 0 r q h
    · replace h := h.2 z73
      refine g_iconst (v := 1) C dX11_setsBreak_78 (by decide) ?_
      refine g_goto (tgt := 83) C dX11_setsBreak_79 (by decide) ?_
      refine g_locals [0, 1, 2, 3, 4, 5, 6] rfl ?_
      refine t_X11_setsBreak_83 C hr  P  x1 x2 x3 x4 x5 x6 1 r q h
def wp_X11_setsBreak (P : Int32 → RST → Prop) (p0 : Int32) (p1 : Int32) (p2 : Int32) (p3 : Int32) (r : Nat → Int32) (q : Nat → Nat → Int32) : Prop := ∀ v1 : Int32, v1 = ((((274 + 510 * p0) + 38) + p1) - 1) → (∃ k74 : Nat, wp_X11_setsBreak_16 (fun (y7 : Int32) (y8 : Int32) (y9 : Int32) (y10 : Int32) (y11 : Int32) (y12 : Int32) (r13 : Nat → Int32) (q14 : Nat → Nat → Int32) => wp_X11_setsBreak_50  P y7 y8 y9 y10 y11 y12 r13 q14) P k74 p0 p1 p2 p3 v1 0 r q)
set_option maxRecDepth 100000 in
set_option maxHeartbeats 4000000 in
theorem t_X11_setsBreak {p : Program} {l : Launch} {e : Env} {s : State} {m : MethodId} {args : Array Value} {below : List Frame} {meth : Method} {c : Code} {D : va_G} {A : Nat → Prop} {T : Nat → ClassId} {m0 : Nat} {a : Nat → Nat} (C : GC p s m args meth c cX11_setsBreak "FreightRaterModel" (ws_X11_setsBreak) 9 D A (zty T)) (hr : meth.sig.returnType = (some .boolean)) (P : Int32 → RST → Prop) : ∀ (p0 : Int32) (p1 : Int32) (p2 : Int32) (p3 : Int32) (r : Nat → Int32) (q : Nat → Nat → Int32), wp_X11_setsBreak P p0 p1 p2 p3 r q → GW p l e rm_X11_setsBreak s m args below meth c D A 9 0 0 (MQ below (va_Qi P (RE D T m0 a A) A) args s 0 0 A) (RW m0 a T r q) 0 0 0 [(0, .ref m0), (1, .int p0), (2, .int p1), (3, .int p2), (4, .int p3)] [] := by
  have hw : ∀ {w : Cond}, w ∈ W0 → w.before args s = true := fun h => C.2.2.2.2.1 _ (List.mem_cons_of_mem _ h)
  intro p0 p1 p2 p3 r q h
  unfold wp_X11_setsBreak at h
  refine g_iload_n C dX11_setsBreak_0 rfl 1 rfl ?_
  refine gr_callSf C [.int p0] rfl (k_X11_at l D T m0 a p0 r q) (w0_S 1 C.2.2.2.2.1 kw_1947 kw_1948 kw_9 kw_1949 rfl rfl (by decide +kernel) ⟨by decide, by decide⟩) rfl (Nat.le_of_ble_eq_true rfl) (Nat.zero_le _) (Nat.zero_le _) dX11_setsBreak_1 ?_
  refine g_bipush (v := 38) C dX11_setsBreak_4 (by decide) ?_
  refine g_iadd C dX11_setsBreak_6 ?_
  refine g_iload_n C dX11_setsBreak_7 rfl 2 rfl ?_
  refine g_iadd C dX11_setsBreak_8 ?_
  refine g_iconst (v := 1) C dX11_setsBreak_9 (by decide) ?_
  refine g_isub C dX11_setsBreak_10 ?_
  refine g_topi (fun v1 ev1 => ?_)
  replace h := h v1 ev1
  refine g_istore (lv' := [(5, .int v1), (0, .ref m0), (1, .int p0), (2, .int p1), (3, .int p2), (4, .int p3)]) C dX11_setsBreak_11 (by decide) rfl ?_
  refine g_iconst (v := 0) C dX11_setsBreak_13 (by decide) ?_
  refine g_istore (lv' := [(6, .int 0), (5, .int v1), (0, .ref m0), (1, .int p0), (2, .int p1), (3, .int p2), (4, .int p3)]) C dX11_setsBreak_14 (by decide) rfl ?_
  refine g_locals [2, 3, 4, 5, 6, 1, 0] rfl ?_
  obtain ⟨k74, h⟩ := h
  refine t_X11_setsBreak_16 C hr _ P ?_ k74 p0 p1 p2 p3 v1 0 r q h
  · intro y7 y8 y9 y10 y11 y12 r13 q14 h
    refine g_locals [0, 1, 2, 3, 4, 5, 6] rfl ?_
    refine t_X11_setsBreak_50 C hr  P  y7 y8 y9 y10 y11 y12 r13 q14 h
theorem c_X11_setsBreak (l : Launch) (D : va_G) (T : Nat → ClassId) (m0 : Nat) (a : Nat → Nat) (p0 : Int32) (p1 : Int32) (p2 : Int32) (p3 : Int32) (r : Nat → Int32) (q : Nat → Nat → Int32) (P : Int32 → RST → Prop) (h : wp_X11_setsBreak P p0 p1 p2 p3 r q) : RMi l yX11_setsBreak (ws_X11_setsBreak) rm_X11_setsBreak D T m0 a [.ref m0, .int p0, .int p1, .int p2, .int p3] r q P := gr_meti (by decide) rfl rfl (Nat.le_of_ble_eq_true rfl) (fun p e s m args below meth c A C hr => t_X11_setsBreak C hr P p0 p1 p2 p3 r q h)
def wb_X11_sets_163 (rec : Int32 → Int32 → Int32 → (Nat → Int32) → (Nat → Nat → Int32) → Prop) (P : Int32 → RST → Prop) (x2 : Int32) (x5 : Int32) (x6 : Int32) (r : Nat → Int32) (q : Nat → Nat → Int32) : Prop := (30 ≤ x6 → (P 1 (r, q))) ∧ (¬ 30 ≤ x6 → (vp_in (x5 + 4) 3334 ∧ (((q 0 (Int32.toNatClampNeg (x5 + 4))) ≤ x6 → (vp_in ((x5 + 6) + x6) 3334 ∧ (∀ q30 : Nat → Nat → Int32, q30 = va_up q 0 (upd (q 0) (Int32.toNatClampNeg ((x5 + 6) + x6)) 0) → (∀ v31 : Int32, v31 = x6 + 1 → (rec x2 x5 v31 r q30))))) ∧ (¬ (q 0 (Int32.toNatClampNeg (x5 + 4))) ≤ x6 → (vp_in (x2 + 4) 640 ∧ (vp_in ((q 5 (Int32.toNatClampNeg (x2 + 4))) + x6) 80 ∧ (vp_in ((x5 + 6) + x6) 3334 ∧ (∀ q35 : Nat → Nat → Int32, q35 = va_up q 0 (upd (q 0) (Int32.toNatClampNeg ((x5 + 6) + x6)) (q 6 (Int32.toNatClampNeg ((q 5 (Int32.toNatClampNeg (x2 + 4))) + x6)))) → (∀ v36 : Int32, v36 = x6 + 1 → (rec x2 x5 v36 r q35))))))))))
def wp_X11_sets_163 (P : Int32 → RST → Prop) : Nat → Int32 → Int32 → Int32 → (Nat → Int32) → (Nat → Nat → Int32) → Prop
  | 0 => fun _ _ _ _ _ => False
  | n + 1 => fun x2 x5 x6 r q => wb_X11_sets_163 (wp_X11_sets_163  P n)  P x2 x5 x6 r q
set_option maxRecDepth 100000 in
set_option maxHeartbeats 4000000 in
theorem t_X11_sets_163 {p : Program} {l : Launch} {e : Env} {s : State} {m : MethodId} {args : Array Value} {below : List Frame} {meth : Method} {c : Code} {D : va_G} {A : Nat → Prop} {T : Nat → ClassId} {m0 : Nat} {a : Nat → Nat} (C : GC p s m args meth c cX11_sets "FreightRaterModel" (ws_X11_sets) 7 D A (zty T)) (hr : meth.sig.returnType = (some .boolean)) (P : Int32 → RST → Prop) : ∀ (n : Nat) (x2 : Int32) (x5 : Int32) (x6 : Int32) (r : Nat → Int32) (q : Nat → Nat → Int32), wp_X11_sets_163  P n x2 x5 x6 r q → GW p l e rm_X11_sets s m args below meth c D A 7 0 0 (MQ below (va_Qi P (RE D T m0 a A) A) args s 0 0 A) (RW m0 a T r q) 0 0 163 [(0, .ref m0), (2, .int x2), (5, .int x5), (6, .int x6)] [] := by
  have hw : ∀ {w : Cond}, w ∈ W0 → w.before args s = true := fun h => C.2.2.2.2.1 _ (List.mem_cons_of_mem _ h)
  intro n
  induction n with
  | zero => intro x2 x5 x6 r q h; exact h.elim
  | succ n ih =>
    intro x2 x5 x6 r q h
    replace h : wb_X11_sets_163 (wp_X11_sets_163  P n)  P x2 x5 x6 r q := h
    unfold wb_X11_sets_163 at h
    refine g_iload C dX11_sets_163 3 rfl ?_
    refine g_bipush (v := 30) C dX11_sets_165 (by decide) ?_
    refine g_icmp_ge (tgt := 223) C dX11_sets_167 (by decide) (fun z26 => ?_) (fun z26 => ?_)
    · replace h := h.1 z26
      refine g_iconst (v := 1) C dX11_sets_223 (by decide) ?_
      exact gr_zret C hr vz1 dX11_sets_224 h
    · replace h := h.2 z26
      refine g_aload_n C dX11_sets_170 rfl 0 rfl ?_
      refine gr_get C iwx_X11 0 (hw kw_1809) (by decide) rfl rfl dX11_sets_171 ?_
      refine g_iload C dX11_sets_174 2 rfl ?_
      refine g_bipush (v := 6) C dX11_sets_176 (by decide) ?_
      refine g_iadd C dX11_sets_178 ?_
      refine g_iload C dX11_sets_179 3 rfl ?_
      refine g_iadd C dX11_sets_181 ?_
      refine g_iload C dX11_sets_182 3 rfl ?_
      refine g_aload_n C dX11_sets_184 rfl 0 rfl ?_
      refine gr_get C iwx_X11 0 (hw kw_1809) (by decide) rfl rfl dX11_sets_185 ?_
      refine g_iload C dX11_sets_188 2 rfl ?_
      refine g_iconst (v := 4) C dX11_sets_190 (by decide) ?_
      refine g_iadd C dX11_sets_191 ?_
      obtain ⟨g27, h⟩ := h
      refine gr_ald_0 C g27 dX11_sets_192 ?_
      refine g_icmp_ge (tgt := 215) C dX11_sets_193 (by decide) (fun z28 => ?_) (fun z28 => ?_)
      · replace h := h.1 z28
        refine g_iconst (v := 0) C dX11_sets_215 (by decide) ?_
        obtain ⟨g29, h⟩ := h
        refine gr_ast_0 C g29 dX11_sets_216 ?_
        refine gr_nq (fun q30 eq30 => ?_)
        replace h := h q30 eq30
        obtain ⟨v31, ev31⟩ : ∃ y : Int32, y = x6 + 1 := ⟨_, rfl⟩
        replace h := h v31 ev31
        refine g_iinc (v := v31) (lv' := [(6, .int v31), (0, .ref m0), (2, .int x2), (5, .int x5)]) C dX11_sets_217 (j := 3) rfl (by rw [ev31]; rfl) (by decide) rfl ?_
        refine g_goto (tgt := 163) C dX11_sets_220 (by decide) ?_
        refine g_locals [1, 2, 3, 0] rfl ?_
        exact ih x2 x5 v31 r q30 h
      · replace h := h.2 z28
        refine g_aload_n C dX11_sets_196 rfl 0 rfl ?_
        refine gr_get C iwx_X11 16 (hw kw_1825) (by decide) rfl rfl dX11_sets_197 ?_
        refine g_aload_n C dX11_sets_200 rfl 0 rfl ?_
        refine gr_get C iwx_X11 14 (hw kw_1823) (by decide) rfl rfl dX11_sets_201 ?_
        refine g_iload_n C dX11_sets_204 rfl 1 rfl ?_
        refine g_iconst (v := 4) C dX11_sets_205 (by decide) ?_
        refine g_iadd C dX11_sets_206 ?_
        obtain ⟨g32, h⟩ := h
        refine gr_ald_5 C g32 dX11_sets_207 ?_
        refine g_iload C dX11_sets_208 3 rfl ?_
        refine g_iadd C dX11_sets_210 ?_
        obtain ⟨g33, h⟩ := h
        refine gr_ald_6 C g33 dX11_sets_211 ?_
        refine g_goto (tgt := 216) C dX11_sets_212 (by decide) ?_
        obtain ⟨g34, h⟩ := h
        refine gr_ast_0 C g34 dX11_sets_216 ?_
        refine gr_nq (fun q35 eq35 => ?_)
        replace h := h q35 eq35
        obtain ⟨v36, ev36⟩ : ∃ y : Int32, y = x6 + 1 := ⟨_, rfl⟩
        replace h := h v36 ev36
        refine g_iinc (v := v36) (lv' := [(6, .int v36), (0, .ref m0), (2, .int x2), (5, .int x5)]) C dX11_sets_217 (j := 3) rfl (by rw [ev36]; rfl) (by decide) rfl ?_
        refine g_goto (tgt := 163) C dX11_sets_220 (by decide) ?_
        refine g_locals [1, 2, 3, 0] rfl ?_
        exact ih x2 x5 v36 r q35 h
def wp_X11_sets_32 (P : Int32 → RST → Prop) (x1 : Int32) (x2 : Int32) (x3 : Int32) (s0 : Int32) (r : Nat → Int32) (q : Nat → Nat → Int32) : Prop := vp_in (x2 + 2) 640 ∧ (((q 5 (Int32.toNatClampNeg (x2 + 2))) ≤ s0 → (vp_in (x2 + 1) 640 ∧ (∀ v8 : Int32, v8 = (274 + 510 * x1 + 150 + 36 * (q 5 (Int32.toNatClampNeg (x2 + 1)))) → (vp_in v8 3334 ∧ (∀ q10 : Nat → Nat → Int32, q10 = va_up q 0 (upd (q 0) (Int32.toNatClampNeg v8) 1) → (vp_in (x2 + 2) 640 ∧ (vp_in (v8 + 1) 3334 ∧ (∀ q13 : Nat → Nat → Int32, q13 = va_up q10 0 (upd (q10 0) (Int32.toNatClampNeg (v8 + 1)) (q10 5 (Int32.toNatClampNeg (x2 + 2)))) → (vp_in (v8 + 2) 3334 ∧ (∀ q15 : Nat → Nat → Int32, q15 = va_up q13 0 (upd (q13 0) (Int32.toNatClampNeg (v8 + 2)) x3) → (vp_in (x2 + 5) 640 ∧ (vp_in (v8 + 3) 3334 ∧ (∀ q18 : Nat → Nat → Int32, q18 = va_up q15 0 (upd (q15 0) (Int32.toNatClampNeg (v8 + 3)) (q15 5 (Int32.toNatClampNeg (x2 + 5)))) → (vp_in (x2 + 6) 640 ∧ (vp_in (x2 + 4) 640 ∧ (vp_in (v8 + 4) 3334 ∧ (∀ q22 : Nat → Nat → Int32, q22 = va_up q18 0 (upd (q18 0) (Int32.toNatClampNeg (v8 + 4)) ((q18 5 (Int32.toNatClampNeg (x2 + 6))) - (q18 5 (Int32.toNatClampNeg (x2 + 4))))) → (vp_in (x2 + 7) 640 ∧ (vp_in (v8 + 5) 3334 ∧ (∀ q25 : Nat → Nat → Int32, q25 = va_up q22 0 (upd (q22 0) (Int32.toNatClampNeg (v8 + 5)) (q22 5 (Int32.toNatClampNeg (x2 + 7)))) → (∃ k37 : Nat, wp_X11_sets_163  P k37 x2 v8 0 r q25))))))))))))))))))))) ∧ (¬ (q 5 (Int32.toNatClampNeg (x2 + 2))) ≤ s0 → (P 0 (r, q))))
set_option maxRecDepth 100000 in
set_option maxHeartbeats 4000000 in
theorem t_X11_sets_32 {p : Program} {l : Launch} {e : Env} {s : State} {m : MethodId} {args : Array Value} {below : List Frame} {meth : Method} {c : Code} {D : va_G} {A : Nat → Prop} {T : Nat → ClassId} {m0 : Nat} {a : Nat → Nat} (C : GC p s m args meth c cX11_sets "FreightRaterModel" (ws_X11_sets) 7 D A (zty T)) (hr : meth.sig.returnType = (some .boolean)) (P : Int32 → RST → Prop) : ∀ (x1 : Int32) (x2 : Int32) (x3 : Int32) (s0 : Int32) (r : Nat → Int32) (q : Nat → Nat → Int32), wp_X11_sets_32  P x1 x2 x3 s0 r q → GW p l e rm_X11_sets s m args below meth c D A 7 0 0 (MQ below (va_Qi P (RE D T m0 a A) A) args s 0 0 A) (RW m0 a T r q) 0 0 32 [(0, .ref m0), (1, .int x1), (2, .int x2), (3, .int x3)] [.int s0] := by
  have hw : ∀ {w : Cond}, w ∈ W0 → w.before args s = true := fun h => C.2.2.2.2.1 _ (List.mem_cons_of_mem _ h)
  intro x1 x2 x3 s0 r q h
  unfold wp_X11_sets_32 at h
  refine g_istore (lv' := [(4, .int s0), (0, .ref m0), (1, .int x1), (2, .int x2), (3, .int x3)]) C dX11_sets_32 (by decide) rfl ?_
  refine g_aload_n C dX11_sets_34 rfl 1 rfl ?_
  refine gr_get C iwx_X11 14 (hw kw_1823) (by decide) rfl rfl dX11_sets_35 ?_
  refine g_iload_n C dX11_sets_38 rfl 3 rfl ?_
  refine g_iconst (v := 2) C dX11_sets_39 (by decide) ?_
  refine g_iadd C dX11_sets_40 ?_
  obtain ⟨g5, h⟩ := h
  refine gr_ald_5 C g5 dX11_sets_41 ?_
  refine g_iload C dX11_sets_42 0 rfl ?_
  refine g_icmp_le (tgt := 49) C dX11_sets_44 (by decide) (fun z6 => ?_) (fun z6 => ?_)
  · replace h := h.1 z6
    refine g_iload_n C dX11_sets_49 rfl 2 rfl ?_
    refine g_aload_n C dX11_sets_50 rfl 1 rfl ?_
    refine gr_get C iwx_X11 14 (hw kw_1823) (by decide) rfl rfl dX11_sets_51 ?_
    refine g_iload_n C dX11_sets_54 rfl 3 rfl ?_
    refine g_iconst (v := 1) C dX11_sets_55 (by decide) ?_
    refine g_iadd C dX11_sets_56 ?_
    obtain ⟨g7, h⟩ := h
    refine gr_ald_5 C g7 dX11_sets_57 ?_
    refine gr_callSf C [.int x1, .int (q 5 (Int32.toNatClampNeg (x2 + 1)))] rfl (k_X11_extra l D T m0 a x1 (q 5 (Int32.toNatClampNeg (x2 + 1))) r q) (w0_S 2 C.2.2.2.2.1 kw_1978 kw_1979 kw_9 kw_1980 rfl rfl (by decide +kernel) ⟨by decide, by decide⟩) rfl (Nat.le_of_ble_eq_true rfl) (Nat.zero_le _) (Nat.zero_le _) dX11_sets_58 ?_
    refine g_topi (fun v8 ev8 => ?_)
    replace h := h v8 ev8
    refine g_istore (lv' := [(5, .int v8), (4, .int s0), (0, .ref m0), (1, .int x1), (2, .int x2), (3, .int x3)]) C dX11_sets_61 (by decide) rfl ?_
    refine g_aload_n C dX11_sets_63 rfl 2 rfl ?_
    refine gr_get C iwx_X11 0 (hw kw_1809) (by decide) rfl rfl dX11_sets_64 ?_
    refine g_iload C dX11_sets_67 0 rfl ?_
    refine g_iconst (v := 1) C dX11_sets_69 (by decide) ?_
    obtain ⟨g9, h⟩ := h
    refine gr_ast_0 C g9 dX11_sets_70 ?_
    refine gr_nq (fun q10 eq10 => ?_)
    replace h := h q10 eq10
    refine g_aload_n C dX11_sets_71 rfl 2 rfl ?_
    refine gr_get C iwx_X11 0 (hw kw_1809) (by decide) rfl rfl dX11_sets_72 ?_
    refine g_iload C dX11_sets_75 0 rfl ?_
    refine g_iconst (v := 1) C dX11_sets_77 (by decide) ?_
    refine g_iadd C dX11_sets_78 ?_
    refine g_aload_n C dX11_sets_79 rfl 2 rfl ?_
    refine gr_get C iwx_X11 14 (hw kw_1823) (by decide) rfl rfl dX11_sets_80 ?_
    refine g_iload_n C dX11_sets_83 rfl 4 rfl ?_
    refine g_iconst (v := 2) C dX11_sets_84 (by decide) ?_
    refine g_iadd C dX11_sets_85 ?_
    obtain ⟨g11, h⟩ := h
    refine gr_ald_5 C g11 dX11_sets_86 ?_
    obtain ⟨g12, h⟩ := h
    refine gr_ast_0 C g12 dX11_sets_87 ?_
    refine gr_nq (fun q13 eq13 => ?_)
    replace h := h q13 eq13
    refine g_aload_n C dX11_sets_88 rfl 2 rfl ?_
    refine gr_get C iwx_X11 0 (hw kw_1809) (by decide) rfl rfl dX11_sets_89 ?_
    refine g_iload C dX11_sets_92 0 rfl ?_
    refine g_iconst (v := 2) C dX11_sets_94 (by decide) ?_
    refine g_iadd C dX11_sets_95 ?_
    refine g_iload_n C dX11_sets_96 rfl 5 rfl ?_
    obtain ⟨g14, h⟩ := h
    refine gr_ast_0 C g14 dX11_sets_97 ?_
    refine gr_nq (fun q15 eq15 => ?_)
    replace h := h q15 eq15
    refine g_aload_n C dX11_sets_98 rfl 2 rfl ?_
    refine gr_get C iwx_X11 0 (hw kw_1809) (by decide) rfl rfl dX11_sets_99 ?_
    refine g_iload C dX11_sets_102 0 rfl ?_
    refine g_iconst (v := 3) C dX11_sets_104 (by decide) ?_
    refine g_iadd C dX11_sets_105 ?_
    refine g_aload_n C dX11_sets_106 rfl 2 rfl ?_
    refine gr_get C iwx_X11 14 (hw kw_1823) (by decide) rfl rfl dX11_sets_107 ?_
    refine g_iload_n C dX11_sets_110 rfl 4 rfl ?_
    refine g_iconst (v := 5) C dX11_sets_111 (by decide) ?_
    refine g_iadd C dX11_sets_112 ?_
    obtain ⟨g16, h⟩ := h
    refine gr_ald_5 C g16 dX11_sets_113 ?_
    obtain ⟨g17, h⟩ := h
    refine gr_ast_0 C g17 dX11_sets_114 ?_
    refine gr_nq (fun q18 eq18 => ?_)
    replace h := h q18 eq18
    refine g_aload_n C dX11_sets_115 rfl 2 rfl ?_
    refine gr_get C iwx_X11 0 (hw kw_1809) (by decide) rfl rfl dX11_sets_116 ?_
    refine g_iload C dX11_sets_119 0 rfl ?_
    refine g_iconst (v := 4) C dX11_sets_121 (by decide) ?_
    refine g_iadd C dX11_sets_122 ?_
    refine g_aload_n C dX11_sets_123 rfl 2 rfl ?_
    refine gr_get C iwx_X11 14 (hw kw_1823) (by decide) rfl rfl dX11_sets_124 ?_
    refine g_iload_n C dX11_sets_127 rfl 4 rfl ?_
    refine g_bipush (v := 6) C dX11_sets_128 (by decide) ?_
    refine g_iadd C dX11_sets_130 ?_
    obtain ⟨g19, h⟩ := h
    refine gr_ald_5 C g19 dX11_sets_131 ?_
    refine g_aload_n C dX11_sets_132 rfl 2 rfl ?_
    refine gr_get C iwx_X11 14 (hw kw_1823) (by decide) rfl rfl dX11_sets_133 ?_
    refine g_iload_n C dX11_sets_136 rfl 4 rfl ?_
    refine g_iconst (v := 4) C dX11_sets_137 (by decide) ?_
    refine g_iadd C dX11_sets_138 ?_
    obtain ⟨g20, h⟩ := h
    refine gr_ald_5 C g20 dX11_sets_139 ?_
    refine g_isub C dX11_sets_140 ?_
    obtain ⟨g21, h⟩ := h
    refine gr_ast_0 C g21 dX11_sets_141 ?_
    refine gr_nq (fun q22 eq22 => ?_)
    replace h := h q22 eq22
    refine g_aload_n C dX11_sets_142 rfl 2 rfl ?_
    refine gr_get C iwx_X11 0 (hw kw_1809) (by decide) rfl rfl dX11_sets_143 ?_
    refine g_iload C dX11_sets_146 0 rfl ?_
    refine g_iconst (v := 5) C dX11_sets_148 (by decide) ?_
    refine g_iadd C dX11_sets_149 ?_
    refine g_aload_n C dX11_sets_150 rfl 2 rfl ?_
    refine gr_get C iwx_X11 14 (hw kw_1823) (by decide) rfl rfl dX11_sets_151 ?_
    refine g_iload_n C dX11_sets_154 rfl 4 rfl ?_
    refine g_bipush (v := 7) C dX11_sets_155 (by decide) ?_
    refine g_iadd C dX11_sets_157 ?_
    obtain ⟨g23, h⟩ := h
    refine gr_ald_5 C g23 dX11_sets_158 ?_
    obtain ⟨g24, h⟩ := h
    refine gr_ast_0 C g24 dX11_sets_159 ?_
    refine gr_nq (fun q25 eq25 => ?_)
    replace h := h q25 eq25
    refine g_iconst (v := 0) C dX11_sets_160 (by decide) ?_
    refine g_istore (lv' := [(6, .int 0), (5, .int v8), (4, .int s0), (0, .ref m0), (1, .int x1), (2, .int x2), (3, .int x3)]) C dX11_sets_161 (by decide) rfl ?_
    refine g_locals [3, 5, 1, 0] rfl ?_
    obtain ⟨k37, h⟩ := h
    refine t_X11_sets_163 C hr  P  k37 x2 v8 0 r q25 h
  · replace h := h.2 z6
    refine g_iconst (v := 0) C dX11_sets_47 (by decide) ?_
    exact gr_zret C hr vz0 dX11_sets_48 h
def wp_X11_sets (P : Int32 → RST → Prop) (p0 : Int32) (p1 : Int32) (r : Nat → Int32) (q : Nat → Nat → Int32) : Prop := vp_in (p1 + 3) 640 ∧ (∀ v2 : Int32, v2 = (q 5 (Int32.toNatClampNeg (p1 + 3))) → ((¬ v2 = 1 → ((¬ v2 = 2 → (wp_X11_sets_32  P p0 p1 v2 9999 r q)) ∧ (v2 = 2 → (wp_X11_sets_32  P p0 p1 v2 50 r q)))) ∧ (v2 = 1 → (wp_X11_sets_32  P p0 p1 v2 99 r q))))
set_option maxRecDepth 100000 in
set_option maxHeartbeats 4000000 in
theorem t_X11_sets {p : Program} {l : Launch} {e : Env} {s : State} {m : MethodId} {args : Array Value} {below : List Frame} {meth : Method} {c : Code} {D : va_G} {A : Nat → Prop} {T : Nat → ClassId} {m0 : Nat} {a : Nat → Nat} (C : GC p s m args meth c cX11_sets "FreightRaterModel" (ws_X11_sets) 7 D A (zty T)) (hr : meth.sig.returnType = (some .boolean)) (P : Int32 → RST → Prop) : ∀ (p0 : Int32) (p1 : Int32) (r : Nat → Int32) (q : Nat → Nat → Int32), wp_X11_sets P p0 p1 r q → GW p l e rm_X11_sets s m args below meth c D A 7 0 0 (MQ below (va_Qi P (RE D T m0 a A) A) args s 0 0 A) (RW m0 a T r q) 0 0 0 [(0, .ref m0), (1, .int p0), (2, .int p1)] [] := by
  have hw : ∀ {w : Cond}, w ∈ W0 → w.before args s = true := fun h => C.2.2.2.2.1 _ (List.mem_cons_of_mem _ h)
  intro p0 p1 r q h
  unfold wp_X11_sets at h
  refine g_aload_n C dX11_sets_0 rfl 0 rfl ?_
  refine gr_get C iwx_X11 14 (hw kw_1823) (by decide) rfl rfl dX11_sets_1 ?_
  refine g_iload_n C dX11_sets_4 rfl 2 rfl ?_
  refine g_iconst (v := 3) C dX11_sets_5 (by decide) ?_
  refine g_iadd C dX11_sets_6 ?_
  obtain ⟨g1, h⟩ := h
  refine gr_ald_5 C g1 dX11_sets_7 ?_
  refine g_topi (fun v2 ev2 => ?_)
  replace h := h v2 ev2
  refine g_istore_n (lv' := [(3, .int v2), (0, .ref m0), (1, .int p0), (2, .int p1)]) C dX11_sets_8 rfl (by decide) rfl ?_
  refine g_iload_n C dX11_sets_9 rfl 0 rfl ?_
  refine g_iconst (v := 1) C dX11_sets_10 (by decide) ?_
  refine g_icmp_ne (tgt := 19) C dX11_sets_11 (by decide) (fun z3 => ?_) (fun z3 => ?_)
  · replace h := h.1 z3
    refine g_iload_n C dX11_sets_19 rfl 0 rfl ?_
    refine g_iconst (v := 2) C dX11_sets_20 (by decide) ?_
    refine g_icmp_ne (tgt := 29) C dX11_sets_21 (by decide) (fun z4 => ?_) (fun z4 => ?_)
    · replace h := h.1 z4
      refine g_sipush (v := 9999) C dX11_sets_29 (by decide) ?_
      refine g_locals [1, 2, 3, 0] rfl ?_
      refine t_X11_sets_32 C hr  P  p0 p1 v2 9999 r q h
    · replace h := h.2 z4
      refine g_bipush (v := 50) C dX11_sets_24 (by decide) ?_
      refine g_goto (tgt := 32) C dX11_sets_26 (by decide) ?_
      refine g_locals [1, 2, 3, 0] rfl ?_
      refine t_X11_sets_32 C hr  P  p0 p1 v2 50 r q h
  · replace h := h.2 z3
    refine g_bipush (v := 99) C dX11_sets_14 (by decide) ?_
    refine g_goto (tgt := 32) C dX11_sets_16 (by decide) ?_
    refine g_locals [1, 2, 3, 0] rfl ?_
    refine t_X11_sets_32 C hr  P  p0 p1 v2 99 r q h
theorem c_X11_sets (l : Launch) (D : va_G) (T : Nat → ClassId) (m0 : Nat) (a : Nat → Nat) (p0 : Int32) (p1 : Int32) (r : Nat → Int32) (q : Nat → Nat → Int32) (P : Int32 → RST → Prop) (h : wp_X11_sets P p0 p1 r q) : RMi l yX11_sets (ws_X11_sets) rm_X11_sets D T m0 a [.ref m0, .int p0, .int p1] r q P := gr_meti (by decide) rfl rfl (Nat.le_of_ble_eq_true rfl) (fun p e s m args below meth c A C hr => t_X11_sets C hr P p0 p1 r q h)
def wb_X11_removes_23 (rec : Int32 → Int32 → Int32 → Int32 → (Nat → Int32) → (Nat → Nat → Int32) → Prop) (P : Int32 → RST → Prop) (x1 : Int32) (x2 : Int32) (x3 : Int32) (x4 : Int32) (r : Nat → Int32) (q : Nat → Nat → Int32) : Prop := (36 ≤ x4 → (vz x3 ∧ P x3 (r, q))) ∧ (¬ 36 ≤ x4 → (vp_in ((274 + 510 * x1 + 150 + 36 * x2) + x4) 3334 ∧ (∀ q5 : Nat → Nat → Int32, q5 = va_up q 0 (upd (q 0) (Int32.toNatClampNeg ((274 + 510 * x1 + 150 + 36 * x2) + x4)) 0) → (∀ v6 : Int32, v6 = x4 + 1 → (rec x1 x2 x3 v6 r q5)))))
def wp_X11_removes_23 (P : Int32 → RST → Prop) : Nat → Int32 → Int32 → Int32 → Int32 → (Nat → Int32) → (Nat → Nat → Int32) → Prop
  | 0 => fun _ _ _ _ _ _ => False
  | n + 1 => fun x1 x2 x3 x4 r q => wb_X11_removes_23 (wp_X11_removes_23  P n)  P x1 x2 x3 x4 r q
set_option maxRecDepth 100000 in
set_option maxHeartbeats 4000000 in
theorem t_X11_removes_23 {p : Program} {l : Launch} {e : Env} {s : State} {m : MethodId} {args : Array Value} {below : List Frame} {meth : Method} {c : Code} {D : va_G} {A : Nat → Prop} {T : Nat → ClassId} {m0 : Nat} {a : Nat → Nat} (C : GC p s m args meth c cX11_removes "FreightRaterModel" (ws_X11_removes) 5 D A (zty T)) (hr : meth.sig.returnType = (some .boolean)) (P : Int32 → RST → Prop) : ∀ (n : Nat) (x1 : Int32) (x2 : Int32) (x3 : Int32) (x4 : Int32) (r : Nat → Int32) (q : Nat → Nat → Int32), wp_X11_removes_23  P n x1 x2 x3 x4 r q → GW p l e rm_X11_removes s m args below meth c D A 5 0 0 (MQ below (va_Qi P (RE D T m0 a A) A) args s 0 0 A) (RW m0 a T r q) 0 0 23 [(0, .ref m0), (1, .int x1), (2, .int x2), (3, .int x3), (4, .int x4)] [] := by
  have hw : ∀ {w : Cond}, w ∈ W0 → w.before args s = true := fun h => C.2.2.2.2.1 _ (List.mem_cons_of_mem _ h)
  intro n
  induction n with
  | zero => intro x1 x2 x3 x4 r q h; exact h.elim
  | succ n ih =>
    intro x1 x2 x3 x4 r q h
    replace h : wb_X11_removes_23 (wp_X11_removes_23  P n)  P x1 x2 x3 x4 r q := h
    unfold wb_X11_removes_23 at h
    refine g_iload C dX11_removes_23 4 rfl ?_
    refine g_bipush (v := 36) C dX11_removes_25 (by decide) ?_
    refine g_icmp_ge (tgt := 50) C dX11_removes_27 (by decide) (fun z3 => ?_) (fun z3 => ?_)
    · replace h := h.1 z3
      refine g_iload_n C dX11_removes_50 rfl 3 rfl ?_
      exact gr_zret C hr h.1 dX11_removes_51 h.2
    · replace h := h.2 z3
      refine g_aload_n C dX11_removes_30 rfl 0 rfl ?_
      refine gr_get C iwx_X11 0 (hw kw_1809) (by decide) rfl rfl dX11_removes_31 ?_
      refine g_iload_n C dX11_removes_34 rfl 1 rfl ?_
      refine g_iload_n C dX11_removes_35 rfl 2 rfl ?_
      refine gr_callSf C [.int x1, .int x2] rfl (k_X11_extra l D T m0 a x1 x2 r q) (w0_S 2 C.2.2.2.2.1 kw_1978 kw_1979 kw_9 kw_1980 rfl rfl (by decide +kernel) ⟨by decide, by decide⟩) rfl (Nat.le_of_ble_eq_true rfl) (Nat.zero_le _) (Nat.zero_le _) dX11_removes_36 ?_
      refine g_iload C dX11_removes_39 4 rfl ?_
      refine g_iadd C dX11_removes_41 ?_
      refine g_iconst (v := 0) C dX11_removes_42 (by decide) ?_
      obtain ⟨g4, h⟩ := h
      refine gr_ast_0 C g4 dX11_removes_43 ?_
      refine gr_nq (fun q5 eq5 => ?_)
      replace h := h q5 eq5
      obtain ⟨v6, ev6⟩ : ∃ y : Int32, y = x4 + 1 := ⟨_, rfl⟩
      replace h := h v6 ev6
      refine g_iinc (v := v6) (lv' := [(4, .int v6), (0, .ref m0), (1, .int x1), (2, .int x2), (3, .int x3)]) C dX11_removes_44 (j := 4) rfl (by rw [ev6]; rfl) (by decide) rfl ?_
      refine g_goto (tgt := 23) C dX11_removes_47 (by decide) ?_
      refine g_locals [1, 2, 3, 4, 0] rfl ?_
      exact ih x1 x2 x3 v6 r q5 h
def wp_X11_removes (P : Int32 → RST → Prop) (p0 : Int32) (p1 : Int32) (r : Nat → Int32) (q : Nat → Nat → Int32) : Prop := vp_in (274 + 510 * p0 + 150 + 36 * p1) 3334 ∧ ((¬ (q 0 (Int32.toNatClampNeg (274 + 510 * p0 + 150 + 36 * p1))) = 1 → (∃ k7 : Nat, wp_X11_removes_23  P k7 p0 p1 0 0 r q)) ∧ ((q 0 (Int32.toNatClampNeg (274 + 510 * p0 + 150 + 36 * p1))) = 1 → (∃ k8 : Nat, wp_X11_removes_23  P k8 p0 p1 1 0 r q)))
set_option maxRecDepth 100000 in
set_option maxHeartbeats 4000000 in
theorem t_X11_removes {p : Program} {l : Launch} {e : Env} {s : State} {m : MethodId} {args : Array Value} {below : List Frame} {meth : Method} {c : Code} {D : va_G} {A : Nat → Prop} {T : Nat → ClassId} {m0 : Nat} {a : Nat → Nat} (C : GC p s m args meth c cX11_removes "FreightRaterModel" (ws_X11_removes) 5 D A (zty T)) (hr : meth.sig.returnType = (some .boolean)) (P : Int32 → RST → Prop) : ∀ (p0 : Int32) (p1 : Int32) (r : Nat → Int32) (q : Nat → Nat → Int32), wp_X11_removes P p0 p1 r q → GW p l e rm_X11_removes s m args below meth c D A 5 0 0 (MQ below (va_Qi P (RE D T m0 a A) A) args s 0 0 A) (RW m0 a T r q) 0 0 0 [(0, .ref m0), (1, .int p0), (2, .int p1)] [] := by
  have hw : ∀ {w : Cond}, w ∈ W0 → w.before args s = true := fun h => C.2.2.2.2.1 _ (List.mem_cons_of_mem _ h)
  intro p0 p1 r q h
  unfold wp_X11_removes at h
  refine g_aload_n C dX11_removes_0 rfl 0 rfl ?_
  refine gr_get C iwx_X11 0 (hw kw_1809) (by decide) rfl rfl dX11_removes_1 ?_
  refine g_iload_n C dX11_removes_4 rfl 1 rfl ?_
  refine g_iload_n C dX11_removes_5 rfl 2 rfl ?_
  refine gr_callSf C [.int p0, .int p1] rfl (k_X11_extra l D T m0 a p0 p1 r q) (w0_S 2 C.2.2.2.2.1 kw_1978 kw_1979 kw_9 kw_1980 rfl rfl (by decide +kernel) ⟨by decide, by decide⟩) rfl (Nat.le_of_ble_eq_true rfl) (Nat.zero_le _) (Nat.zero_le _) dX11_removes_6 ?_
  obtain ⟨g1, h⟩ := h
  refine gr_ald_0 C g1 dX11_removes_9 ?_
  refine g_iconst (v := 1) C dX11_removes_10 (by decide) ?_
  refine g_icmp_ne (tgt := 18) C dX11_removes_11 (by decide) (fun z2 => ?_) (fun z2 => ?_)
  · replace h := h.1 z2
    refine g_iconst (v := 0) C dX11_removes_18 (by decide) ?_
    refine g_istore_n (lv' := [(3, .int 0), (0, .ref m0), (1, .int p0), (2, .int p1)]) C dX11_removes_19 rfl (by decide) rfl ?_
    refine g_iconst (v := 0) C dX11_removes_20 (by decide) ?_
    refine g_istore (lv' := [(4, .int 0), (3, .int 0), (0, .ref m0), (1, .int p0), (2, .int p1)]) C dX11_removes_21 (by decide) rfl ?_
    refine g_locals [2, 3, 4, 1, 0] rfl ?_
    obtain ⟨k7, h⟩ := h
    refine t_X11_removes_23 C hr  P  k7 p0 p1 0 0 r q h
  · replace h := h.2 z2
    refine g_iconst (v := 1) C dX11_removes_14 (by decide) ?_
    refine g_goto (tgt := 19) C dX11_removes_15 (by decide) ?_
    refine g_istore_n (lv' := [(3, .int 1), (0, .ref m0), (1, .int p0), (2, .int p1)]) C dX11_removes_19 rfl (by decide) rfl ?_
    refine g_iconst (v := 0) C dX11_removes_20 (by decide) ?_
    refine g_istore (lv' := [(4, .int 0), (3, .int 1), (0, .ref m0), (1, .int p0), (2, .int p1)]) C dX11_removes_21 (by decide) rfl ?_
    refine g_locals [2, 3, 4, 1, 0] rfl ?_
    obtain ⟨k8, h⟩ := h
    refine t_X11_removes_23 C hr  P  k8 p0 p1 1 0 r q h
theorem c_X11_removes (l : Launch) (D : va_G) (T : Nat → ClassId) (m0 : Nat) (a : Nat → Nat) (p0 : Int32) (p1 : Int32) (r : Nat → Int32) (q : Nat → Nat → Int32) (P : Int32 → RST → Prop) (h : wp_X11_removes P p0 p1 r q) : RMi l yX11_removes (ws_X11_removes) rm_X11_removes D T m0 a [.ref m0, .int p0, .int p1] r q P := gr_meti (by decide) rfl rfl (Nat.le_of_ble_eq_true rfl) (fun p e s m args below meth c A C hr => t_X11_removes C hr P p0 p1 r q h)
def wp_X11_putTest_33 (P : RST → Prop) (x1 : Int32) (x2 : Int32) (x3 : Int32) (r : Nat → Int32) (q : Nat → Nat → Int32) : Prop := ∀ (r5 : Nat → Int32) (q6 : Nat → Nat → Int32), True → ((x2 ≤ 0 → (∀ (r9 : Nat → Int32) (q10 : Nat → Nat → Int32), True → (P (r9, q10)))) ∧ (¬ x2 ≤ 0 → ((¬ x3 = 0 → ((¬ x3 = 1 → (∀ (r14 : Nat → Int32) (q15 : Nat → Nat → Int32), True → (∀ (r17 : Nat → Int32) (q18 : Nat → Nat → Int32), True → (P (r17, q18))))) ∧ (x3 = 1 → (∀ (r20 : Nat → Int32) (q21 : Nat → Nat → Int32), True → (∀ (r23 : Nat → Int32) (q24 : Nat → Nat → Int32), True → (P (r23, q24))))))) ∧ (x3 = 0 → (∀ (r26 : Nat → Int32) (q27 : Nat → Nat → Int32), True → (∀ (r29 : Nat → Int32) (q30 : Nat → Nat → Int32), True → (P (r29, q30))))))))
set_option maxRecDepth 100000 in
set_option maxHeartbeats 4000000 in
theorem t_X11_putTest_33 {p : Program} {l : Launch} {e : Env} {s : State} {m : MethodId} {args : Array Value} {below : List Frame} {meth : Method} {c : Code} {D : va_G} {A : Nat → Prop} {T : Nat → ClassId} {m0 : Nat} {a : Nat → Nat} (C : GC p s m args meth c cX11_putTest "FreightRaterModel" (ws_X11_putTest) 4 D A (zty T)) (hr : meth.sig.returnType = none) (P : RST → Prop) : ∀ (x1 : Int32) (x2 : Int32) (x3 : Int32) (r : Nat → Int32) (q : Nat → Nat → Int32), wp_X11_putTest_33  P x1 x2 x3 r q → GW p l e rm_X11_putTest s m args below meth c D A 4 0 0 (MQ below (va_Qv P (RE D T m0 a A) A) args s 0 0 A) (RW m0 a T r q) 0 0 33 [(0, .ref m0), (1, .int x1), (2, .int x2), (3, .int x3)] [] := by
  have hw : ∀ {w : Cond}, w ∈ W0 → w.before args s = true := fun h => C.2.2.2.2.1 _ (List.mem_cons_of_mem _ h)
  intro x1 x2 x3 r q h
  unfold wp_X11_putTest_33 at h
  refine g_aload_n C dX11_putTest_33 rfl 0 rfl ?_
  refine g_iload_n C dX11_putTest_34 rfl 2 rfl ?_
  refine gr_callSf C [.int x2] rfl (k_X11_letterOf l D T m0 a x2 r q) (w0_S 1 C.2.2.2.2.1 kw_2343 kw_2344 kw_9 kw_2345 rfl rfl (by decide +kernel) ⟨by decide, by decide⟩) rfl (Nat.le_of_ble_eq_true rfl) (Nat.zero_le _) (Nat.zero_le _) dX11_putTest_35 ?_
  refine gr_callvV C [.int (letF x2)] rfl (k_X11_put l D T m0 a (letF x2) r q) (w0_V 1 C.2.2.2.2.1 kw_2331 kw_2333 ks_106 kw_9 kw_2334 rfl rfl (by decide +kernel) ⟨by decide, by decide⟩) rfl (Nat.le_of_ble_eq_true rfl) (Nat.zero_le _) (Nat.zero_le _) dX11_putTest_38 (fun r5 q6 hp => ?_)
  replace h := h r5 q6 hp
  refine g_iload_n C dX11_putTest_41 rfl 2 rfl ?_
  refine g_if_le (tgt := 70) C dX11_putTest_42 (by decide) (fun z7 => ?_) (fun z7 => ?_)
  · replace h := h.1 z7
    refine g_aload_n C dX11_putTest_70 rfl 0 rfl ?_
    refine g_iload_n C dX11_putTest_71 rfl 1 rfl ?_
    refine g_sipush (v := 10000) C dX11_putTest_72 (by decide) ?_
    refine g_irem C dX11_putTest_75 (by decide) ?_
    refine gr_callvV C [.int (x1 - x1 / 10000 * 10000)] rfl (k_X11_putNumber l D T m0 a (x1 - x1 / 10000 * 10000) r5 q6) (w0_V 1 C.2.2.2.2.1 kw_2335 kw_2337 ks_107 kw_9 kw_2338 rfl rfl (by decide +kernel) ⟨by decide, by decide⟩) rfl (Nat.le_of_ble_eq_true rfl) (Nat.zero_le _) (Nat.zero_le _) dX11_putTest_76 (fun r9 q10 hp => ?_)
    replace h := h r9 q10 hp
    exact gr_vret C hr dX11_putTest_79 h
  · replace h := h.2 z7
    refine g_aload_n C dX11_putTest_45 rfl 0 rfl ?_
    refine g_iload_n C dX11_putTest_46 rfl 3 rfl ?_
    refine g_if_ne (tgt := 55) C dX11_putTest_47 (by decide) (fun z11 => ?_) (fun z11 => ?_)
    · replace h := h.1 z11
      refine g_iload_n C dX11_putTest_55 rfl 3 rfl ?_
      refine g_iconst (v := 1) C dX11_putTest_56 (by decide) ?_
      refine g_icmp_ne (tgt := 65) C dX11_putTest_57 (by decide) (fun z12 => ?_) (fun z12 => ?_)
      · replace h := h.1 z12
        refine g_bipush (v := 61) C dX11_putTest_65 (by decide) ?_
        refine gr_callvV C [.int 61] rfl (k_X11_put l D T m0 a 61 r5 q6) (w0_V 1 C.2.2.2.2.1 kw_2331 kw_2333 ks_106 kw_9 kw_2334 rfl rfl (by decide +kernel) ⟨by decide, by decide⟩) rfl (Nat.le_of_ble_eq_true rfl) (Nat.zero_le _) (Nat.zero_le _) dX11_putTest_67 (fun r14 q15 hp => ?_)
        replace h := h r14 q15 hp
        refine g_aload_n C dX11_putTest_70 rfl 0 rfl ?_
        refine g_iload_n C dX11_putTest_71 rfl 1 rfl ?_
        refine g_sipush (v := 10000) C dX11_putTest_72 (by decide) ?_
        refine g_irem C dX11_putTest_75 (by decide) ?_
        refine gr_callvV C [.int (x1 - x1 / 10000 * 10000)] rfl (k_X11_putNumber l D T m0 a (x1 - x1 / 10000 * 10000) r14 q15) (w0_V 1 C.2.2.2.2.1 kw_2335 kw_2337 ks_107 kw_9 kw_2338 rfl rfl (by decide +kernel) ⟨by decide, by decide⟩) rfl (Nat.le_of_ble_eq_true rfl) (Nat.zero_le _) (Nat.zero_le _) dX11_putTest_76 (fun r17 q18 hp => ?_)
        replace h := h r17 q18 hp
        exact gr_vret C hr dX11_putTest_79 h
      · replace h := h.2 z12
        refine g_bipush (v := 62) C dX11_putTest_60 (by decide) ?_
        refine g_goto (tgt := 67) C dX11_putTest_62 (by decide) ?_
        refine gr_callvV C [.int 62] rfl (k_X11_put l D T m0 a 62 r5 q6) (w0_V 1 C.2.2.2.2.1 kw_2331 kw_2333 ks_106 kw_9 kw_2334 rfl rfl (by decide +kernel) ⟨by decide, by decide⟩) rfl (Nat.le_of_ble_eq_true rfl) (Nat.zero_le _) (Nat.zero_le _) dX11_putTest_67 (fun r20 q21 hp => ?_)
        replace h := h r20 q21 hp
        refine g_aload_n C dX11_putTest_70 rfl 0 rfl ?_
        refine g_iload_n C dX11_putTest_71 rfl 1 rfl ?_
        refine g_sipush (v := 10000) C dX11_putTest_72 (by decide) ?_
        refine g_irem C dX11_putTest_75 (by decide) ?_
        refine gr_callvV C [.int (x1 - x1 / 10000 * 10000)] rfl (k_X11_putNumber l D T m0 a (x1 - x1 / 10000 * 10000) r20 q21) (w0_V 1 C.2.2.2.2.1 kw_2335 kw_2337 ks_107 kw_9 kw_2338 rfl rfl (by decide +kernel) ⟨by decide, by decide⟩) rfl (Nat.le_of_ble_eq_true rfl) (Nat.zero_le _) (Nat.zero_le _) dX11_putTest_76 (fun r23 q24 hp => ?_)
        replace h := h r23 q24 hp
        exact gr_vret C hr dX11_putTest_79 h
    · replace h := h.2 z11
      refine g_bipush (v := 60) C dX11_putTest_50 (by decide) ?_
      refine g_goto (tgt := 67) C dX11_putTest_52 (by decide) ?_
      refine gr_callvV C [.int 60] rfl (k_X11_put l D T m0 a 60 r5 q6) (w0_V 1 C.2.2.2.2.1 kw_2331 kw_2333 ks_106 kw_9 kw_2334 rfl rfl (by decide +kernel) ⟨by decide, by decide⟩) rfl (Nat.le_of_ble_eq_true rfl) (Nat.zero_le _) (Nat.zero_le _) dX11_putTest_67 (fun r26 q27 hp => ?_)
      replace h := h r26 q27 hp
      refine g_aload_n C dX11_putTest_70 rfl 0 rfl ?_
      refine g_iload_n C dX11_putTest_71 rfl 1 rfl ?_
      refine g_sipush (v := 10000) C dX11_putTest_72 (by decide) ?_
      refine g_irem C dX11_putTest_75 (by decide) ?_
      refine gr_callvV C [.int (x1 - x1 / 10000 * 10000)] rfl (k_X11_putNumber l D T m0 a (x1 - x1 / 10000 * 10000) r26 q27) (w0_V 1 C.2.2.2.2.1 kw_2335 kw_2337 ks_107 kw_9 kw_2338 rfl rfl (by decide +kernel) ⟨by decide, by decide⟩) rfl (Nat.le_of_ble_eq_true rfl) (Nat.zero_le _) (Nat.zero_le _) dX11_putTest_76 (fun r29 q30 hp => ?_)
      replace h := h r29 q30 hp
      exact gr_vret C hr dX11_putTest_79 h
def wp_X11_putTest (P : RST → Prop) (p0 : Int32) (r : Nat → Int32) (q : Nat → Nat → Int32) : Prop := ∀ v1 : Int32, v1 = ((p0 / 30000) - (p0 / 30000) / 5 * 5) → (∀ v2 : Int32, v2 = ((p0 / 10000) - (p0 / 10000) / 3 * 3) → ((¬ ((p0 / 150000) - (p0 / 150000) / 2 * 2) = 1 → (wp_X11_putTest_33  P p0 v1 v2 r q)) ∧ (((p0 / 150000) - (p0 / 150000) / 2 * 2) = 1 → (∀ (r32 : Nat → Int32) (q33 : Nat → Nat → Int32), True → (wp_X11_putTest_33  P p0 v1 v2 r32 q33)))))
set_option maxRecDepth 100000 in
set_option maxHeartbeats 4000000 in
theorem t_X11_putTest {p : Program} {l : Launch} {e : Env} {s : State} {m : MethodId} {args : Array Value} {below : List Frame} {meth : Method} {c : Code} {D : va_G} {A : Nat → Prop} {T : Nat → ClassId} {m0 : Nat} {a : Nat → Nat} (C : GC p s m args meth c cX11_putTest "FreightRaterModel" (ws_X11_putTest) 4 D A (zty T)) (hr : meth.sig.returnType = none) (P : RST → Prop) : ∀ (p0 : Int32) (r : Nat → Int32) (q : Nat → Nat → Int32), wp_X11_putTest P p0 r q → GW p l e rm_X11_putTest s m args below meth c D A 4 0 0 (MQ below (va_Qv P (RE D T m0 a A) A) args s 0 0 A) (RW m0 a T r q) 0 0 0 [(0, .ref m0), (1, .int p0)] [] := by
  have hw : ∀ {w : Cond}, w ∈ W0 → w.before args s = true := fun h => C.2.2.2.2.1 _ (List.mem_cons_of_mem _ h)
  intro p0 r q h
  unfold wp_X11_putTest at h
  refine g_iload_n C dX11_putTest_0 rfl 1 rfl ?_
  refine g_sipush (v := 30000) C dX11_putTest_1 (by decide) ?_
  refine g_idiv C dX11_putTest_4 (by decide) ?_
  refine g_iconst (v := 5) C dX11_putTest_5 (by decide) ?_
  refine g_irem C dX11_putTest_6 (by decide) ?_
  refine g_topi (fun v1 ev1 => ?_)
  replace h := h v1 ev1
  refine g_istore_n (lv' := [(2, .int v1), (0, .ref m0), (1, .int p0)]) C dX11_putTest_7 rfl (by decide) rfl ?_
  refine g_iload_n C dX11_putTest_8 rfl 2 rfl ?_
  refine g_sipush (v := 10000) C dX11_putTest_9 (by decide) ?_
  refine g_idiv C dX11_putTest_12 (by decide) ?_
  refine g_iconst (v := 3) C dX11_putTest_13 (by decide) ?_
  refine g_irem C dX11_putTest_14 (by decide) ?_
  refine g_topi (fun v2 ev2 => ?_)
  replace h := h v2 ev2
  refine g_istore_n (lv' := [(3, .int v2), (2, .int v1), (0, .ref m0), (1, .int p0)]) C dX11_putTest_15 rfl (by decide) rfl ?_
  refine g_iload_n C dX11_putTest_16 rfl 3 rfl ?_
  refine g_ldcw (v := 150000) C dX11_putTest_17 (hw kw_2221) ?_
  refine g_idiv C dX11_putTest_20 (by decide) ?_
  refine g_iconst (v := 2) C dX11_putTest_21 (by decide) ?_
  refine g_irem C dX11_putTest_22 (by decide) ?_
  refine g_iconst (v := 1) C dX11_putTest_23 (by decide) ?_
  refine g_icmp_ne (tgt := 33) C dX11_putTest_24 (by decide) (fun z3 => ?_) (fun z3 => ?_)
  · replace h := h.1 z3
    refine g_locals [2, 3, 1, 0] rfl ?_
    refine t_X11_putTest_33 C hr  P  p0 v1 v2 r q h
  · replace h := h.2 z3
    refine g_aload_n C dX11_putTest_27 rfl 2 rfl ?_
    refine g_bipush (v := 45) C dX11_putTest_28 (by decide) ?_
    refine gr_callvV C [.int 45] rfl (k_X11_put l D T m0 a 45 r q) (w0_V 1 C.2.2.2.2.1 kw_2331 kw_2333 ks_106 kw_9 kw_2334 rfl rfl (by decide +kernel) ⟨by decide, by decide⟩) rfl (Nat.le_of_ble_eq_true rfl) (Nat.zero_le _) (Nat.zero_le _) dX11_putTest_30 (fun r32 q33 hp => ?_)
    replace h := h r32 q33 hp
    refine g_locals [2, 3, 1, 0] rfl ?_
    refine t_X11_putTest_33 C hr  P  p0 v1 v2 r32 q33 h
theorem c_X11_putTest (l : Launch) (D : va_G) (T : Nat → ClassId) (m0 : Nat) (a : Nat → Nat) (p0 : Int32) (r : Nat → Int32) (q : Nat → Nat → Int32) (P : RST → Prop) (h : wp_X11_putTest P p0 r q) : RMv l yX11_putTest (ws_X11_putTest) rm_X11_putTest D T m0 a [.ref m0, .int p0] r q P := gr_metv (by decide) rfl rfl (Nat.le_of_ble_eq_true rfl) (fun p e s m args below meth c A C hr => t_X11_putTest C hr P p0 r q h)
def wp_X11_readZone_50 (P : RST → Prop) (x1 : Int32) (x2 : Int32) (s0 : Int32) (s1 : Int32) (r : Nat → Int32) (q : Nat → Nat → Int32) : Prop := vp_in s1 640 ∧ (∀ q14 : Nat → Nat → Int32, q14 = va_up q 5 (upd (q 5) (Int32.toNatClampNeg s1) s0) → ((x2 = 109 → (P (r, q14))) ∧ (¬ x2 = 109 → ((¬ (r 11) = 0 → (P (r, q14))) ∧ ((r 11) = 0 → ((¬ x2 = 122 → ((psO r ∧ ¬ 42 = (-1 : Int32)) ∧ (∀ (r19 : Nat → Int32) (q20 : Nat → Nat → Int32), (q20 = q14 ∧ kR r r19 [10, 11] ∧ psO r19 ∧ pσ r19 = ndS (q14 4) (iv (r 8)) (pσ r) 42) → (((r19 11) = 0 → ((psO r19) ∧ (∀ (v23 : Int32) (r24 : Nat → Int32) (q25 : Nat → Nat → Int32), (v23 = (nbF (q20 4) (iv (r19 8)) (pσ r19)).1 ∧ q25 = q20 ∧ kR r19 r24 [10, 11] ∧ psO r24 ∧ pσ r24 = (nbF (q20 4) (iv (r19 8)) (pσ r19)).2) → (vp_in (x1 + 3) 640 ∧ (∀ q28 : Nat → Nat → Int32, q28 = va_up q25 5 (upd (q25 5) (Int32.toNatClampNeg (x1 + 3)) v23) → (P (r24, q28))))))) ∧ (¬ (r19 11) = 0 → (vp_in (x1 + 3) 640 ∧ (∀ q30 : Nat → Nat → Int32, q30 = va_up q20 5 (upd (q20 5) (Int32.toNatClampNeg (x1 + 3)) 0) → (P (r19, q30))))))))) ∧ (x2 = 122 → ((psO r ∧ ¬ 45 = (-1 : Int32)) ∧ (∀ (r32 : Nat → Int32) (q33 : Nat → Nat → Int32), (q33 = q14 ∧ kR r r32 [10, 11] ∧ psO r32 ∧ pσ r32 = ndS (q14 4) (iv (r 8)) (pσ r) 45) → (((r32 11) = 0 → ((psO r32) ∧ (∀ (v36 : Int32) (r37 : Nat → Int32) (q38 : Nat → Nat → Int32), (v36 = (nbF (q33 4) (iv (r32 8)) (pσ r32)).1 ∧ q38 = q33 ∧ kR r32 r37 [10, 11] ∧ psO r37 ∧ pσ r37 = (nbF (q33 4) (iv (r32 8)) (pσ r32)).2) → (vp_in (x1 + 3) 640 ∧ (∀ q41 : Nat → Nat → Int32, q41 = va_up q38 5 (upd (q38 5) (Int32.toNatClampNeg (x1 + 3)) v36) → (P (r37, q41))))))) ∧ (¬ (r32 11) = 0 → (vp_in (x1 + 3) 640 ∧ (∀ q43 : Nat → Nat → Int32, q43 = va_up q33 5 (upd (q33 5) (Int32.toNatClampNeg (x1 + 3)) 0) → (P (r32, q43)))))))))))))))
set_option maxRecDepth 100000 in
set_option maxHeartbeats 4000000 in
theorem t_X11_readZone_50 {p : Program} {l : Launch} {e : Env} {s : State} {m : MethodId} {args : Array Value} {below : List Frame} {meth : Method} {c : Code} {D : va_G} {A : Nat → Prop} {T : Nat → ClassId} {m0 : Nat} {a : Nat → Nat} (C : GC p s m args meth c cX11_readZone "FreightRaterModel" (ws_X11_readZone) 3 D A (zty T)) (hr : meth.sig.returnType = none) (P : RST → Prop) : ∀ (x1 : Int32) (x2 : Int32) (s0 : Int32) (s1 : Int32) (r : Nat → Int32) (q : Nat → Nat → Int32), wp_X11_readZone_50  P x1 x2 s0 s1 r q → GW p l e rm_X11_readZone s m args below meth c D A 3 0 0 (MQ below (va_Qv P (RE D T m0 a A) A) args s 0 0 A) (RW m0 a T r q) 0 0 50 [(0, .ref m0), (1, .int x1), (2, .int x2)] [.int s0, .int s1, .ref (a 5)] := by
  have hw : ∀ {w : Cond}, w ∈ W0 → w.before args s = true := fun h => C.2.2.2.2.1 _ (List.mem_cons_of_mem _ h)
  intro x1 x2 s0 s1 r q h
  unfold wp_X11_readZone_50 at h
  obtain ⟨g13, h⟩ := h
  refine gr_ast_5 C g13 dX11_readZone_50 ?_
  refine gr_nq (fun q14 eq14 => ?_)
  replace h := h q14 eq14
  refine g_iload_n C dX11_readZone_51 rfl 2 rfl ?_
  refine g_bipush (v := 109) C dX11_readZone_52 (by decide) ?_
  refine g_icmp_eq (tgt := 104) C dX11_readZone_54 (by decide) (fun z15 => ?_) (fun z15 => ?_)
  · replace h := h.1 z15
    exact gr_vret C hr dX11_readZone_104 h
  · replace h := h.2 z15
    refine g_aload_n C dX11_readZone_57 rfl 0 rfl ?_
    refine gr_get C iwx_X11 11 (hw kw_1820) (by decide) rfl rfl dX11_readZone_58 ?_
    refine g_if_ne (tgt := 104) C dX11_readZone_61 (by decide) (fun z16 => ?_) (fun z16 => ?_)
    · replace h := h.1 z16
      exact gr_vret C hr dX11_readZone_104 h
    · replace h := h.2 z16
      refine g_aload_n C dX11_readZone_64 rfl 0 rfl ?_
      refine g_iload_n C dX11_readZone_65 rfl 2 rfl ?_
      refine g_bipush (v := 122) C dX11_readZone_66 (by decide) ?_
      refine g_icmp_ne (tgt := 76) C dX11_readZone_68 (by decide) (fun z17 => ?_) (fun z17 => ?_)
      · replace h := h.1 z17
        refine g_bipush (v := 42) C dX11_readZone_76 (by decide) ?_
        obtain ⟨g21, h⟩ := h
        refine gr_callvV C [.int 42] rfl (k_X11_need l D T m0 a 42 r q14 g21) (w0_V 1 C.2.2.2.2.1 kw_2050 kw_2052 ks_65 kw_9 kw_2053 rfl rfl (by decide +kernel) ⟨by decide, by decide⟩) rfl (Nat.le_of_ble_eq_true rfl) (Nat.zero_le _) (Nat.zero_le _) dX11_readZone_78 (fun r19 q20 hp => ?_)
        replace h := h r19 q20 hp
        refine g_aload_n C dX11_readZone_81 rfl 0 rfl ?_
        refine gr_get C iwx_X11 14 (hw kw_1823) (by decide) rfl rfl dX11_readZone_82 ?_
        refine g_iload_n C dX11_readZone_85 rfl 1 rfl ?_
        refine g_iconst (v := 3) C dX11_readZone_86 (by decide) ?_
        refine g_iadd C dX11_readZone_87 ?_
        refine g_aload_n C dX11_readZone_88 rfl 0 rfl ?_
        refine gr_get C iwx_X11 11 (hw kw_1820) (by decide) rfl rfl dX11_readZone_89 ?_
        refine g_if_eq (tgt := 99) C dX11_readZone_92 (by decide) (fun z22 => ?_) (fun z22 => ?_)
        · replace h := h.1 z22
          refine g_aload_n C dX11_readZone_99 rfl 0 rfl ?_
          obtain ⟨g26, h⟩ := h
          refine gr_calliV C [] rfl (k_X11_number l D T m0 a  r19 q20 g26) (w0_V 0 C.2.2.2.2.1 kw_2058 kw_2060 ks_67 kw_9 kw_2061 rfl rfl (by decide +kernel) ⟨by decide, by decide⟩) rfl (Nat.le_of_ble_eq_true rfl) (Nat.zero_le _) (Nat.zero_le _) dX11_readZone_100 (fun v23 r24 q25 hp => ?_)
          replace h := h v23 r24 q25 hp
          obtain ⟨g27, h⟩ := h
          refine gr_ast_5 C g27 dX11_readZone_103 ?_
          refine gr_nq (fun q28 eq28 => ?_)
          replace h := h q28 eq28
          exact gr_vret C hr dX11_readZone_104 h
        · replace h := h.2 z22
          refine g_iconst (v := 0) C dX11_readZone_95 (by decide) ?_
          refine g_goto (tgt := 103) C dX11_readZone_96 (by decide) ?_
          obtain ⟨g29, h⟩ := h
          refine gr_ast_5 C g29 dX11_readZone_103 ?_
          refine gr_nq (fun q30 eq30 => ?_)
          replace h := h q30 eq30
          exact gr_vret C hr dX11_readZone_104 h
      · replace h := h.2 z17
        refine g_bipush (v := 45) C dX11_readZone_71 (by decide) ?_
        refine g_goto (tgt := 78) C dX11_readZone_73 (by decide) ?_
        obtain ⟨g34, h⟩ := h
        refine gr_callvV C [.int 45] rfl (k_X11_need l D T m0 a 45 r q14 g34) (w0_V 1 C.2.2.2.2.1 kw_2050 kw_2052 ks_65 kw_9 kw_2053 rfl rfl (by decide +kernel) ⟨by decide, by decide⟩) rfl (Nat.le_of_ble_eq_true rfl) (Nat.zero_le _) (Nat.zero_le _) dX11_readZone_78 (fun r32 q33 hp => ?_)
        replace h := h r32 q33 hp
        refine g_aload_n C dX11_readZone_81 rfl 0 rfl ?_
        refine gr_get C iwx_X11 14 (hw kw_1823) (by decide) rfl rfl dX11_readZone_82 ?_
        refine g_iload_n C dX11_readZone_85 rfl 1 rfl ?_
        refine g_iconst (v := 3) C dX11_readZone_86 (by decide) ?_
        refine g_iadd C dX11_readZone_87 ?_
        refine g_aload_n C dX11_readZone_88 rfl 0 rfl ?_
        refine gr_get C iwx_X11 11 (hw kw_1820) (by decide) rfl rfl dX11_readZone_89 ?_
        refine g_if_eq (tgt := 99) C dX11_readZone_92 (by decide) (fun z35 => ?_) (fun z35 => ?_)
        · replace h := h.1 z35
          refine g_aload_n C dX11_readZone_99 rfl 0 rfl ?_
          obtain ⟨g39, h⟩ := h
          refine gr_calliV C [] rfl (k_X11_number l D T m0 a  r32 q33 g39) (w0_V 0 C.2.2.2.2.1 kw_2058 kw_2060 ks_67 kw_9 kw_2061 rfl rfl (by decide +kernel) ⟨by decide, by decide⟩) rfl (Nat.le_of_ble_eq_true rfl) (Nat.zero_le _) (Nat.zero_le _) dX11_readZone_100 (fun v36 r37 q38 hp => ?_)
          replace h := h v36 r37 q38 hp
          obtain ⟨g40, h⟩ := h
          refine gr_ast_5 C g40 dX11_readZone_103 ?_
          refine gr_nq (fun q41 eq41 => ?_)
          replace h := h q41 eq41
          exact gr_vret C hr dX11_readZone_104 h
        · replace h := h.2 z35
          refine g_iconst (v := 0) C dX11_readZone_95 (by decide) ?_
          refine g_goto (tgt := 103) C dX11_readZone_96 (by decide) ?_
          obtain ⟨g42, h⟩ := h
          refine gr_ast_5 C g42 dX11_readZone_103 ?_
          refine gr_nq (fun q43 eq43 => ?_)
          replace h := h q43 eq43
          exact gr_vret C hr dX11_readZone_104 h
def wp_X11_readZone (P : RST → Prop) (p0 : Int32) (p1 : Int32) (r : Nat → Int32) (q : Nat → Nat → Int32) : Prop := (psO r ∧ dix 1 9) ∧ (∀ (v1 : Int32) (r2 : Nat → Int32) (q3 : Nat → Nat → Int32), (v1 = dgV (q 4) (iv (r 8)) (pσ r) 1 9 ∧ q3 = q ∧ kR r r2 [10, 11] ∧ psO r2 ∧ pσ r2 = dgS (q 4) (iv (r 8)) (pσ r) 1 9) → (vp_in (p0 + 1) 640 ∧ (∀ q6 : Nat → Nat → Int32, q6 = va_up q3 5 (upd (q3 5) (Int32.toNatClampNeg (p0 + 1)) v1) → ((¬ (r2 11) = 0 → (((r2 11) = 0 → ((psO r2) ∧ (∀ (v9 : Int32) (r10 : Nat → Int32) (q11 : Nat → Nat → Int32), (v9 = (nbF (q6 4) (iv (r2 8)) (pσ r2)).1 ∧ q11 = q6 ∧ kR r2 r10 [10, 11] ∧ psO r10 ∧ pσ r10 = (nbF (q6 4) (iv (r2 8)) (pσ r2)).2) → (wp_X11_readZone_50  P p0 p1 v9 (p0 + 2) r10 q11)))) ∧ (¬ (r2 11) = 0 → (wp_X11_readZone_50  P p0 p1 0 (p0 + 2) r2 q6)))) ∧ ((r2 11) = 0 → ((psO r2 ∧ ¬ 58 = (-1 : Int32)) ∧ (∀ (r45 : Nat → Int32) (q46 : Nat → Nat → Int32), (q46 = q6 ∧ kR r2 r45 [10, 11] ∧ psO r45 ∧ pσ r45 = ndS (q6 4) (iv (r2 8)) (pσ r2) 58) → (((r45 11) = 0 → ((psO r45) ∧ (∀ (v49 : Int32) (r50 : Nat → Int32) (q51 : Nat → Nat → Int32), (v49 = (nbF (q46 4) (iv (r45 8)) (pσ r45)).1 ∧ q51 = q46 ∧ kR r45 r50 [10, 11] ∧ psO r50 ∧ pσ r50 = (nbF (q46 4) (iv (r45 8)) (pσ r45)).2) → (wp_X11_readZone_50  P p0 p1 v49 (p0 + 2) r50 q51)))) ∧ (¬ (r45 11) = 0 → (wp_X11_readZone_50  P p0 p1 0 (p0 + 2) r45 q46))))))))))
set_option maxRecDepth 100000 in
set_option maxHeartbeats 4000000 in
theorem t_X11_readZone {p : Program} {l : Launch} {e : Env} {s : State} {m : MethodId} {args : Array Value} {below : List Frame} {meth : Method} {c : Code} {D : va_G} {A : Nat → Prop} {T : Nat → ClassId} {m0 : Nat} {a : Nat → Nat} (C : GC p s m args meth c cX11_readZone "FreightRaterModel" (ws_X11_readZone) 3 D A (zty T)) (hr : meth.sig.returnType = none) (P : RST → Prop) : ∀ (p0 : Int32) (p1 : Int32) (r : Nat → Int32) (q : Nat → Nat → Int32), wp_X11_readZone P p0 p1 r q → GW p l e rm_X11_readZone s m args below meth c D A 3 0 0 (MQ below (va_Qv P (RE D T m0 a A) A) args s 0 0 A) (RW m0 a T r q) 0 0 0 [(0, .ref m0), (1, .int p0), (2, .int p1)] [] := by
  have hw : ∀ {w : Cond}, w ∈ W0 → w.before args s = true := fun h => C.2.2.2.2.1 _ (List.mem_cons_of_mem _ h)
  intro p0 p1 r q h
  unfold wp_X11_readZone at h
  refine g_aload_n C dX11_readZone_0 rfl 0 rfl ?_
  refine gr_get C iwx_X11 14 (hw kw_1823) (by decide) rfl rfl dX11_readZone_1 ?_
  refine g_iload_n C dX11_readZone_4 rfl 1 rfl ?_
  refine g_iconst (v := 1) C dX11_readZone_5 (by decide) ?_
  refine g_iadd C dX11_readZone_6 ?_
  refine g_aload_n C dX11_readZone_7 rfl 0 rfl ?_
  refine g_iconst (v := 1) C dX11_readZone_8 (by decide) ?_
  refine g_bipush (v := 9) C dX11_readZone_9 (by decide) ?_
  obtain ⟨g4, h⟩ := h
  refine gr_calliV C [.int 1, .int 9] rfl (k_X11_digit l D T m0 a 1 9 r q g4) (w0_V 2 C.2.2.2.2.1 kw_2046 kw_2048 ks_64 kw_9 kw_2049 rfl rfl (by decide +kernel) ⟨by decide, by decide⟩) rfl (Nat.le_of_ble_eq_true rfl) (Nat.zero_le _) (Nat.zero_le _) dX11_readZone_11 (fun v1 r2 q3 hp => ?_)
  replace h := h v1 r2 q3 hp
  obtain ⟨g5, h⟩ := h
  refine gr_ast_5 C g5 dX11_readZone_14 ?_
  refine gr_nq (fun q6 eq6 => ?_)
  replace h := h q6 eq6
  refine g_aload_n C dX11_readZone_15 rfl 0 rfl ?_
  refine gr_get C iwx_X11 11 (hw kw_1820) (by decide) rfl rfl dX11_readZone_16 ?_
  refine g_if_ne (tgt := 28) C dX11_readZone_19 (by decide) (fun z7 => ?_) (fun z7 => ?_)
  · replace h := h.1 z7
    refine g_aload_n C dX11_readZone_28 rfl 0 rfl ?_
    refine gr_get C iwx_X11 14 (hw kw_1823) (by decide) rfl rfl dX11_readZone_29 ?_
    refine g_iload_n C dX11_readZone_32 rfl 1 rfl ?_
    refine g_iconst (v := 2) C dX11_readZone_33 (by decide) ?_
    refine g_iadd C dX11_readZone_34 ?_
    refine g_aload_n C dX11_readZone_35 rfl 0 rfl ?_
    refine gr_get C iwx_X11 11 (hw kw_1820) (by decide) rfl rfl dX11_readZone_36 ?_
    refine g_if_eq (tgt := 46) C dX11_readZone_39 (by decide) (fun z8 => ?_) (fun z8 => ?_)
    · replace h := h.1 z8
      refine g_aload_n C dX11_readZone_46 rfl 0 rfl ?_
      obtain ⟨g12, h⟩ := h
      refine gr_calliV C [] rfl (k_X11_number l D T m0 a  r2 q6 g12) (w0_V 0 C.2.2.2.2.1 kw_2058 kw_2060 ks_67 kw_9 kw_2061 rfl rfl (by decide +kernel) ⟨by decide, by decide⟩) rfl (Nat.le_of_ble_eq_true rfl) (Nat.zero_le _) (Nat.zero_le _) dX11_readZone_47 (fun v9 r10 q11 hp => ?_)
      replace h := h v9 r10 q11 hp
      refine g_locals [0, 1, 2] rfl ?_
      refine t_X11_readZone_50 C hr  P  p0 p1 v9 (p0 + 2) r10 q11 h
    · replace h := h.2 z8
      refine g_iconst (v := 0) C dX11_readZone_42 (by decide) ?_
      refine g_goto (tgt := 50) C dX11_readZone_43 (by decide) ?_
      refine g_locals [0, 1, 2] rfl ?_
      refine t_X11_readZone_50 C hr  P  p0 p1 0 (p0 + 2) r2 q6 h
  · replace h := h.2 z7
    refine g_aload_n C dX11_readZone_22 rfl 0 rfl ?_
    refine g_bipush (v := 58) C dX11_readZone_23 (by decide) ?_
    obtain ⟨g47, h⟩ := h
    refine gr_callvV C [.int 58] rfl (k_X11_need l D T m0 a 58 r2 q6 g47) (w0_V 1 C.2.2.2.2.1 kw_2050 kw_2052 ks_65 kw_9 kw_2053 rfl rfl (by decide +kernel) ⟨by decide, by decide⟩) rfl (Nat.le_of_ble_eq_true rfl) (Nat.zero_le _) (Nat.zero_le _) dX11_readZone_25 (fun r45 q46 hp => ?_)
    replace h := h r45 q46 hp
    refine g_aload_n C dX11_readZone_28 rfl 0 rfl ?_
    refine gr_get C iwx_X11 14 (hw kw_1823) (by decide) rfl rfl dX11_readZone_29 ?_
    refine g_iload_n C dX11_readZone_32 rfl 1 rfl ?_
    refine g_iconst (v := 2) C dX11_readZone_33 (by decide) ?_
    refine g_iadd C dX11_readZone_34 ?_
    refine g_aload_n C dX11_readZone_35 rfl 0 rfl ?_
    refine gr_get C iwx_X11 11 (hw kw_1820) (by decide) rfl rfl dX11_readZone_36 ?_
    refine g_if_eq (tgt := 46) C dX11_readZone_39 (by decide) (fun z48 => ?_) (fun z48 => ?_)
    · replace h := h.1 z48
      refine g_aload_n C dX11_readZone_46 rfl 0 rfl ?_
      obtain ⟨g52, h⟩ := h
      refine gr_calliV C [] rfl (k_X11_number l D T m0 a  r45 q46 g52) (w0_V 0 C.2.2.2.2.1 kw_2058 kw_2060 ks_67 kw_9 kw_2061 rfl rfl (by decide +kernel) ⟨by decide, by decide⟩) rfl (Nat.le_of_ble_eq_true rfl) (Nat.zero_le _) (Nat.zero_le _) dX11_readZone_47 (fun v49 r50 q51 hp => ?_)
      replace h := h v49 r50 q51 hp
      refine g_locals [0, 1, 2] rfl ?_
      refine t_X11_readZone_50 C hr  P  p0 p1 v49 (p0 + 2) r50 q51 h
    · replace h := h.2 z48
      refine g_iconst (v := 0) C dX11_readZone_42 (by decide) ?_
      refine g_goto (tgt := 50) C dX11_readZone_43 (by decide) ?_
      refine g_locals [0, 1, 2] rfl ?_
      refine t_X11_readZone_50 C hr  P  p0 p1 0 (p0 + 2) r45 q46 h
theorem c_X11_readZone (l : Launch) (D : va_G) (T : Nat → ClassId) (m0 : Nat) (a : Nat → Nat) (p0 : Int32) (p1 : Int32) (r : Nat → Int32) (q : Nat → Nat → Int32) (P : RST → Prop) (h : wp_X11_readZone P p0 p1 r q) : RMv l yX11_readZone (ws_X11_readZone) rm_X11_readZone D T m0 a [.ref m0, .int p0, .int p1] r q P := gr_metv (by decide) rfl rfl (Nat.le_of_ble_eq_true rfl) (fun p e s m args below meth c A C hr => t_X11_readZone C hr P p0 p1 r q h)
def wp_X11_carries (P : Int32 → RST → Prop) (p0 : Int32) (p1 : Int32) (r : Nat → Int32) (q : Nat → Nat → Int32) : Prop := vp_in p1 640 ∧ (∀ v2 : Int32, v2 = (q 5 (Int32.toNatClampNeg p1)) → ((v2 = 97 → ((vix p0 ∧ s8 p1 ∧ six (q 5 (iv p1 + 1)) ∧ seO (q 5) (iv p1)) ∧ (∀ (v4 : Int32) (r5 : Nat → Int32) (q6 : Nat → Nat → Int32), (v4 = b2i (seB (q 5 (iv p1 + 2)) (q 5 (iv p1 + 3))) ∧ r5 = r ∧ kQ q q6 [0] ∧ (seB (q 5 (iv p1 + 2)) (q 5 (iv p1 + 3)) = true → q6 0 = seW (q 0) (q 5) (q 6) (iv p0) (iv p1))) → (vz v4 ∧ P v4 (r5, q6))))) ∧ (¬ v2 = 97 → ((v2 = 98 → (vp_in (p1 + 1) 640 ∧ (vp_in (p1 + 2) 640 ∧ (vp_in (p1 + 3) 640 ∧ ((WF (q 0) ∧ vix p0 ∧ zix (q 5 (Int32.toNatClampNeg (p1 + 1))) ∧ ∃ n : Nat, n ≤ 9999 ∧ (q 5 (Int32.toNatClampNeg (p1 + 3))) = nI n) ∧ (∀ (v12 : Int32) (r13 : Nat → Int32) (q14 : Nat → Nat → Int32), (v12 = b2i (bkB (q 0) (iv p0) (iv (q 5 (Int32.toNatClampNeg (p1 + 1)))) (q 5 (Int32.toNatClampNeg (p1 + 2))) (q 5 (Int32.toNatClampNeg (p1 + 3)))) ∧ r13 = r ∧ kQ q q14 [0] ∧ (bkB (q 0) (iv p0) (iv (q 5 (Int32.toNatClampNeg (p1 + 1)))) (q 5 (Int32.toNatClampNeg (p1 + 2))) (q 5 (Int32.toNatClampNeg (p1 + 3))) = true → q14 0 = bkS (q 0) (iv p0) (iv (q 5 (Int32.toNatClampNeg (p1 + 1)))) (q 5 (Int32.toNatClampNeg (p1 + 2))) (q 5 (Int32.toNatClampNeg (p1 + 3))))) → (vz v12 ∧ P v12 (r13, q14)))))))) ∧ (¬ v2 = 98 → ((v2 = 99 → (vp_in (p1 + 1) 640 ∧ ((∃ n : Nat, n < 3334 ∧ ((274 + 510 * p0) + 149) = nI n) ∧ (∀ (v18 : Int32) (r19 : Nat → Int32) (q20 : Nat → Nat → Int32), (v18 = zin (q 5 (Int32.toNatClampNeg (p1 + 1))) 0 9999 ∧ r19 = r ∧ q20 = va_up q 0 (upd (q 0) (iv ((274 + 510 * p0) + 149)) (q 5 (Int32.toNatClampNeg (p1 + 1))))) → (vz v18 ∧ P v18 (r19, q20)))))) ∧ (¬ v2 = 99 → ((v2 = 100 → (vp_in (p1 + 1) 640 ∧ ((∃ n : Nat, n < 3334 ∧ ((274 + 510 * p0) + 146) = nI n) ∧ (∀ (v24 : Int32) (r25 : Nat → Int32) (q26 : Nat → Nat → Int32), (v24 = zin (q 5 (Int32.toNatClampNeg (p1 + 1))) 1000 9999 ∧ r25 = r ∧ q26 = va_up q 0 (upd (q 0) (iv ((274 + 510 * p0) + 146)) (q 5 (Int32.toNatClampNeg (p1 + 1))))) → (vz v24 ∧ P v24 (r25, q26)))))) ∧ (¬ v2 = 100 → ((v2 = 102 → (vp_in (p1 + 1) 640 ∧ ((∃ n : Nat, n < 3334 ∧ ((274 + 510 * p0) + 147) = nI n) ∧ (∀ (v30 : Int32) (r31 : Nat → Int32) (q32 : Nat → Nat → Int32), (v30 = zin (q 5 (Int32.toNatClampNeg (p1 + 1))) 0 99 ∧ r31 = r ∧ q32 = va_up q 0 (upd (q 0) (iv ((274 + 510 * p0) + 147)) (q 5 (Int32.toNatClampNeg (p1 + 1))))) → (vz v30 ∧ P v30 (r31, q32)))))) ∧ (¬ v2 = 102 → ((v2 = 109 → (vp_in (p1 + 1) 640 ∧ (vp_in (p1 + 2) 640 ∧ ((∃ n : Nat, n < 3334 ∧ ((((274 + 510 * p0) + 137) + (q 5 (Int32.toNatClampNeg (p1 + 1)))) - 1) = nI n) ∧ (∀ (v37 : Int32) (r38 : Nat → Int32) (q39 : Nat → Nat → Int32), (v37 = zin (q 5 (Int32.toNatClampNeg (p1 + 2))) 0 9999 ∧ r38 = r ∧ q39 = va_up q 0 (upd (q 0) (iv ((((274 + 510 * p0) + 137) + (q 5 (Int32.toNatClampNeg (p1 + 1)))) - 1)) (q 5 (Int32.toNatClampNeg (p1 + 2))))) → (vz v37 ∧ P v37 (r38, q39))))))) ∧ (¬ v2 = 109 → ((v2 = 115 → (vp_in (p1 + 1) 640 ∧ ((∃ n : Nat, n < 3334 ∧ ((274 + 510 * p0) + 148) = nI n) ∧ (∀ (v43 : Int32) (r44 : Nat → Int32) (q45 : Nat → Nat → Int32), (v43 = zin (q 5 (Int32.toNatClampNeg (p1 + 1))) 0 9999 ∧ r44 = r ∧ q45 = va_up q 0 (upd (q 0) (iv ((274 + 510 * p0) + 148)) (q 5 (Int32.toNatClampNeg (p1 + 1))))) → (vz v43 ∧ P v43 (r44, q45)))))) ∧ (¬ v2 = 115 → ((v2 = 122 → ((WF (q 0) ∧ vix p0 ∧ s8 p1) ∧ (∀ (v48 : Int32) (r49 : Nat → Int32) (q50 : Nat → Nat → Int32), (v48 = b2i (ptB (q 0) (iv p0) (q 5 (iv p1 + 2)) (q 5 (iv p1 + 3))) ∧ r49 = r ∧ kQ q q50 [0] ∧ (ptB (q 0) (iv p0) (q 5 (iv p1 + 2)) (q 5 (iv p1 + 3)) = true → q50 0 = ptS (q 0) (iv p0) (q 5 (iv p1 + 1)) (q 5 (iv p1 + 2)) (q 5 (iv p1 + 3)))) → (vz v48 ∧ P v48 (r49, q50))))) ∧ (¬ v2 = 122 → (vp_in (p1 + 1) 640 ∧ ((vix p0 ∧ six (q 5 (Int32.toNatClampNeg (p1 + 1)))) ∧ (∀ (v53 : Int32) (r54 : Nat → Int32) (q55 : Nat → Nat → Int32), (v53 = b2i (decide (q 0 (274 + 510 * iv p0 + 150 + 36 * iv (q 5 (Int32.toNatClampNeg (p1 + 1)))) = 1)) ∧ r54 = r ∧ q55 = va_up q 0 (zf (q 0) (274 + 510 * iv p0 + 150 + 36 * iv (q 5 (Int32.toNatClampNeg (p1 + 1)))) 36)) → (vz v53 ∧ P v53 (r54, q55))))))))))))))))))))))
set_option maxRecDepth 100000 in
set_option maxHeartbeats 4000000 in
theorem t_X11_carries {p : Program} {l : Launch} {e : Env} {s : State} {m : MethodId} {args : Array Value} {below : List Frame} {meth : Method} {c : Code} {D : va_G} {A : Nat → Prop} {T : Nat → ClassId} {m0 : Nat} {a : Nat → Nat} (C : GC p s m args meth c cX11_carries "FreightRaterModel" (ws_X11_carries) 3 D A (zty T)) (hr : meth.sig.returnType = (some .boolean)) (P : Int32 → RST → Prop) : ∀ (p0 : Int32) (p1 : Int32) (r : Nat → Int32) (q : Nat → Nat → Int32), wp_X11_carries P p0 p1 r q → GW p l e rm_X11_carries s m args below meth c D A 3 0 0 (MQ below (va_Qi P (RE D T m0 a A) A) args s 0 0 A) (RW m0 a T r q) 0 0 0 [(0, .ref m0), (1, .int p0), (2, .int p1)] [] := by
  have hw : ∀ {w : Cond}, w ∈ W0 → w.before args s = true := fun h => C.2.2.2.2.1 _ (List.mem_cons_of_mem _ h)
  intro p0 p1 r q h
  unfold wp_X11_carries at h
  refine g_aload_n C dX11_carries_0 rfl 0 rfl ?_
  refine gr_get C iwx_X11 14 (hw kw_1823) (by decide) rfl rfl dX11_carries_1 ?_
  refine g_iload_n C dX11_carries_4 rfl 2 rfl ?_
  obtain ⟨g1, h⟩ := h
  refine gr_ald_5 C g1 dX11_carries_5 ?_
  refine g_topi (fun v2 ev2 => ?_)
  replace h := h v2 ev2
  rcases Decidable.em (v2 = 97) with z3 | z3
  · refine g_tableIn (off := 292) (tgt := 298) C dX11_carries_6 (by rw [z3]; decide) (by rw [z3]; decide) (by rw [z3]; decide) (by decide) ?_
    replace h := h.1 z3
    refine g_aload_n C dX11_carries_298 rfl 0 rfl ?_
    refine g_iload_n C dX11_carries_299 rfl 1 rfl ?_
    refine g_iload_n C dX11_carries_300 rfl 2 rfl ?_
    obtain ⟨g7, h⟩ := h
    refine gr_calliV C [.int p0, .int p1] rfl (k_X11_sets l D T m0 a p0 p1 r q g7) (w0_V 2 C.2.2.2.2.1 kw_2096 kw_2098 ks_75 kw_9 kw_2099 rfl rfl (by decide +kernel) ⟨by decide, by decide⟩) rfl (Nat.le_of_ble_eq_true rfl) (Nat.zero_le _) (Nat.zero_le _) dX11_carries_301 (fun v4 r5 q6 hp => ?_)
    replace h := h v4 r5 q6 hp
    exact gr_zret C hr h.1 dX11_carries_304 h.2
  replace h := h.2 z3
  rcases Decidable.em (v2 = 98) with z8 | z8
  · refine g_tableIn (off := 125) (tgt := 131) C dX11_carries_6 (by rw [z8]; decide) (by rw [z8]; decide) (by rw [z8]; decide) (by decide) ?_
    replace h := h.1 z8
    refine g_aload_n C dX11_carries_131 rfl 0 rfl ?_
    refine g_iload_n C dX11_carries_132 rfl 1 rfl ?_
    refine g_aload_n C dX11_carries_133 rfl 0 rfl ?_
    refine gr_get C iwx_X11 14 (hw kw_1823) (by decide) rfl rfl dX11_carries_134 ?_
    refine g_iload_n C dX11_carries_137 rfl 2 rfl ?_
    refine g_iconst (v := 1) C dX11_carries_138 (by decide) ?_
    refine g_iadd C dX11_carries_139 ?_
    obtain ⟨g9, h⟩ := h
    refine gr_ald_5 C g9 dX11_carries_140 ?_
    refine g_aload_n C dX11_carries_141 rfl 0 rfl ?_
    refine gr_get C iwx_X11 14 (hw kw_1823) (by decide) rfl rfl dX11_carries_142 ?_
    refine g_iload_n C dX11_carries_145 rfl 2 rfl ?_
    refine g_iconst (v := 2) C dX11_carries_146 (by decide) ?_
    refine g_iadd C dX11_carries_147 ?_
    obtain ⟨g10, h⟩ := h
    refine gr_ald_5 C g10 dX11_carries_148 ?_
    refine g_aload_n C dX11_carries_149 rfl 0 rfl ?_
    refine gr_get C iwx_X11 14 (hw kw_1823) (by decide) rfl rfl dX11_carries_150 ?_
    refine g_iload_n C dX11_carries_153 rfl 2 rfl ?_
    refine g_iconst (v := 3) C dX11_carries_154 (by decide) ?_
    refine g_iadd C dX11_carries_155 ?_
    obtain ⟨g11, h⟩ := h
    refine gr_ald_5 C g11 dX11_carries_156 ?_
    obtain ⟨g15, h⟩ := h
    refine gr_calliV C [.int p0, .int (q 5 (Int32.toNatClampNeg (p1 + 1))), .int (q 5 (Int32.toNatClampNeg (p1 + 2))), .int (q 5 (Int32.toNatClampNeg (p1 + 3)))] rfl (k_X11_setsBreak l D T m0 a p0 (q 5 (Int32.toNatClampNeg (p1 + 1))) (q 5 (Int32.toNatClampNeg (p1 + 2))) (q 5 (Int32.toNatClampNeg (p1 + 3))) r q g15) (w0_V 4 C.2.2.2.2.1 kw_2088 kw_2090 ks_73 kw_9 kw_2091 rfl rfl (by decide +kernel) ⟨by decide, by decide⟩) rfl (Nat.le_of_ble_eq_true rfl) (Nat.zero_le _) (Nat.zero_le _) dX11_carries_157 (fun v12 r13 q14 hp => ?_)
    replace h := h v12 r13 q14 hp
    exact gr_zret C hr h.1 dX11_carries_160 h.2
  replace h := h.2 z8
  rcases Decidable.em (v2 = 99) with z16 | z16
  · refine g_tableIn (off := 267) (tgt := 273) C dX11_carries_6 (by rw [z16]; decide) (by rw [z16]; decide) (by rw [z16]; decide) (by decide) ?_
    replace h := h.1 z16
    refine g_aload_n C dX11_carries_273 rfl 0 rfl ?_
    refine g_iload_n C dX11_carries_274 rfl 1 rfl ?_
    refine gr_callSf C [.int p0] rfl (k_X11_at l D T m0 a p0 r q) (w0_S 1 C.2.2.2.2.1 kw_1947 kw_1948 kw_9 kw_1949 rfl rfl (by decide +kernel) ⟨by decide, by decide⟩) rfl (Nat.le_of_ble_eq_true rfl) (Nat.zero_le _) (Nat.zero_le _) dX11_carries_275 ?_
    refine g_sipush (v := 149) C dX11_carries_278 (by decide) ?_
    refine g_iadd C dX11_carries_281 ?_
    refine g_aload_n C dX11_carries_282 rfl 0 rfl ?_
    refine gr_get C iwx_X11 14 (hw kw_1823) (by decide) rfl rfl dX11_carries_283 ?_
    refine g_iload_n C dX11_carries_286 rfl 2 rfl ?_
    refine g_iconst (v := 1) C dX11_carries_287 (by decide) ?_
    refine g_iadd C dX11_carries_288 ?_
    obtain ⟨g17, h⟩ := h
    refine gr_ald_5 C g17 dX11_carries_289 ?_
    refine g_iconst (v := 0) C dX11_carries_290 (by decide) ?_
    refine g_sipush (v := 9999) C dX11_carries_291 (by decide) ?_
    obtain ⟨g21, h⟩ := h
    refine gr_calliV C [.int ((274 + 510 * p0) + 149), .int (q 5 (Int32.toNatClampNeg (p1 + 1))), .int 0, .int 9999] rfl (k_X11_writes l D T m0 a ((274 + 510 * p0) + 149) (q 5 (Int32.toNatClampNeg (p1 + 1))) 0 9999 r q g21) (w0_V 4 C.2.2.2.2.1 kw_2092 kw_2094 ks_74 kw_9 kw_2095 rfl rfl (by decide +kernel) ⟨by decide, by decide⟩) rfl (Nat.le_of_ble_eq_true rfl) (Nat.zero_le _) (Nat.zero_le _) dX11_carries_294 (fun v18 r19 q20 hp => ?_)
    replace h := h v18 r19 q20 hp
    exact gr_zret C hr h.1 dX11_carries_297 h.2
  replace h := h.2 z16
  rcases Decidable.em (v2 = 100) with z22 | z22
  · refine g_tableIn (off := 191) (tgt := 197) C dX11_carries_6 (by rw [z22]; decide) (by rw [z22]; decide) (by rw [z22]; decide) (by decide) ?_
    replace h := h.1 z22
    refine g_aload_n C dX11_carries_197 rfl 0 rfl ?_
    refine g_iload_n C dX11_carries_198 rfl 1 rfl ?_
    refine gr_callSf C [.int p0] rfl (k_X11_at l D T m0 a p0 r q) (w0_S 1 C.2.2.2.2.1 kw_1947 kw_1948 kw_9 kw_1949 rfl rfl (by decide +kernel) ⟨by decide, by decide⟩) rfl (Nat.le_of_ble_eq_true rfl) (Nat.zero_le _) (Nat.zero_le _) dX11_carries_199 ?_
    refine g_sipush (v := 146) C dX11_carries_202 (by decide) ?_
    refine g_iadd C dX11_carries_205 ?_
    refine g_aload_n C dX11_carries_206 rfl 0 rfl ?_
    refine gr_get C iwx_X11 14 (hw kw_1823) (by decide) rfl rfl dX11_carries_207 ?_
    refine g_iload_n C dX11_carries_210 rfl 2 rfl ?_
    refine g_iconst (v := 1) C dX11_carries_211 (by decide) ?_
    refine g_iadd C dX11_carries_212 ?_
    obtain ⟨g23, h⟩ := h
    refine gr_ald_5 C g23 dX11_carries_213 ?_
    refine g_sipush (v := 1000) C dX11_carries_214 (by decide) ?_
    refine g_sipush (v := 9999) C dX11_carries_217 (by decide) ?_
    obtain ⟨g27, h⟩ := h
    refine gr_calliV C [.int ((274 + 510 * p0) + 146), .int (q 5 (Int32.toNatClampNeg (p1 + 1))), .int 1000, .int 9999] rfl (k_X11_writes l D T m0 a ((274 + 510 * p0) + 146) (q 5 (Int32.toNatClampNeg (p1 + 1))) 1000 9999 r q g27) (w0_V 4 C.2.2.2.2.1 kw_2092 kw_2094 ks_74 kw_9 kw_2095 rfl rfl (by decide +kernel) ⟨by decide, by decide⟩) rfl (Nat.le_of_ble_eq_true rfl) (Nat.zero_le _) (Nat.zero_le _) dX11_carries_220 (fun v24 r25 q26 hp => ?_)
    replace h := h v24 r25 q26 hp
    exact gr_zret C hr h.1 dX11_carries_223 h.2
  replace h := h.2 z22
  rcases Decidable.em (v2 = 102) with z28 | z28
  · refine g_tableIn (off := 218) (tgt := 224) C dX11_carries_6 (by rw [z28]; decide) (by rw [z28]; decide) (by rw [z28]; decide) (by decide) ?_
    replace h := h.1 z28
    refine g_aload_n C dX11_carries_224 rfl 0 rfl ?_
    refine g_iload_n C dX11_carries_225 rfl 1 rfl ?_
    refine gr_callSf C [.int p0] rfl (k_X11_at l D T m0 a p0 r q) (w0_S 1 C.2.2.2.2.1 kw_1947 kw_1948 kw_9 kw_1949 rfl rfl (by decide +kernel) ⟨by decide, by decide⟩) rfl (Nat.le_of_ble_eq_true rfl) (Nat.zero_le _) (Nat.zero_le _) dX11_carries_226 ?_
    refine g_sipush (v := 147) C dX11_carries_229 (by decide) ?_
    refine g_iadd C dX11_carries_232 ?_
    refine g_aload_n C dX11_carries_233 rfl 0 rfl ?_
    refine gr_get C iwx_X11 14 (hw kw_1823) (by decide) rfl rfl dX11_carries_234 ?_
    refine g_iload_n C dX11_carries_237 rfl 2 rfl ?_
    refine g_iconst (v := 1) C dX11_carries_238 (by decide) ?_
    refine g_iadd C dX11_carries_239 ?_
    obtain ⟨g29, h⟩ := h
    refine gr_ald_5 C g29 dX11_carries_240 ?_
    refine g_iconst (v := 0) C dX11_carries_241 (by decide) ?_
    refine g_bipush (v := 99) C dX11_carries_242 (by decide) ?_
    obtain ⟨g33, h⟩ := h
    refine gr_calliV C [.int ((274 + 510 * p0) + 147), .int (q 5 (Int32.toNatClampNeg (p1 + 1))), .int 0, .int 99] rfl (k_X11_writes l D T m0 a ((274 + 510 * p0) + 147) (q 5 (Int32.toNatClampNeg (p1 + 1))) 0 99 r q g33) (w0_V 4 C.2.2.2.2.1 kw_2092 kw_2094 ks_74 kw_9 kw_2095 rfl rfl (by decide +kernel) ⟨by decide, by decide⟩) rfl (Nat.le_of_ble_eq_true rfl) (Nat.zero_le _) (Nat.zero_le _) dX11_carries_244 (fun v30 r31 q32 hp => ?_)
    replace h := h v30 r31 q32 hp
    exact gr_zret C hr h.1 dX11_carries_247 h.2
  replace h := h.2 z28
  rcases Decidable.em (v2 = 109) with z34 | z34
  · refine g_tableIn (off := 155) (tgt := 161) C dX11_carries_6 (by rw [z34]; decide) (by rw [z34]; decide) (by rw [z34]; decide) (by decide) ?_
    replace h := h.1 z34
    refine g_aload_n C dX11_carries_161 rfl 0 rfl ?_
    refine g_iload_n C dX11_carries_162 rfl 1 rfl ?_
    refine gr_callSf C [.int p0] rfl (k_X11_at l D T m0 a p0 r q) (w0_S 1 C.2.2.2.2.1 kw_1947 kw_1948 kw_9 kw_1949 rfl rfl (by decide +kernel) ⟨by decide, by decide⟩) rfl (Nat.le_of_ble_eq_true rfl) (Nat.zero_le _) (Nat.zero_le _) dX11_carries_163 ?_
    refine g_sipush (v := 137) C dX11_carries_166 (by decide) ?_
    refine g_iadd C dX11_carries_169 ?_
    refine g_aload_n C dX11_carries_170 rfl 0 rfl ?_
    refine gr_get C iwx_X11 14 (hw kw_1823) (by decide) rfl rfl dX11_carries_171 ?_
    refine g_iload_n C dX11_carries_174 rfl 2 rfl ?_
    refine g_iconst (v := 1) C dX11_carries_175 (by decide) ?_
    refine g_iadd C dX11_carries_176 ?_
    obtain ⟨g35, h⟩ := h
    refine gr_ald_5 C g35 dX11_carries_177 ?_
    refine g_iadd C dX11_carries_178 ?_
    refine g_iconst (v := 1) C dX11_carries_179 (by decide) ?_
    refine g_isub C dX11_carries_180 ?_
    refine g_aload_n C dX11_carries_181 rfl 0 rfl ?_
    refine gr_get C iwx_X11 14 (hw kw_1823) (by decide) rfl rfl dX11_carries_182 ?_
    refine g_iload_n C dX11_carries_185 rfl 2 rfl ?_
    refine g_iconst (v := 2) C dX11_carries_186 (by decide) ?_
    refine g_iadd C dX11_carries_187 ?_
    obtain ⟨g36, h⟩ := h
    refine gr_ald_5 C g36 dX11_carries_188 ?_
    refine g_iconst (v := 0) C dX11_carries_189 (by decide) ?_
    refine g_sipush (v := 9999) C dX11_carries_190 (by decide) ?_
    obtain ⟨g40, h⟩ := h
    refine gr_calliV C [.int ((((274 + 510 * p0) + 137) + (q 5 (Int32.toNatClampNeg (p1 + 1)))) - 1), .int (q 5 (Int32.toNatClampNeg (p1 + 2))), .int 0, .int 9999] rfl (k_X11_writes l D T m0 a ((((274 + 510 * p0) + 137) + (q 5 (Int32.toNatClampNeg (p1 + 1)))) - 1) (q 5 (Int32.toNatClampNeg (p1 + 2))) 0 9999 r q g40) (w0_V 4 C.2.2.2.2.1 kw_2092 kw_2094 ks_74 kw_9 kw_2095 rfl rfl (by decide +kernel) ⟨by decide, by decide⟩) rfl (Nat.le_of_ble_eq_true rfl) (Nat.zero_le _) (Nat.zero_le _) dX11_carries_193 (fun v37 r38 q39 hp => ?_)
    replace h := h v37 r38 q39 hp
    exact gr_zret C hr h.1 dX11_carries_196 h.2
  replace h := h.2 z34
  rcases Decidable.em (v2 = 115) with z41 | z41
  · refine g_tableIn (off := 242) (tgt := 248) C dX11_carries_6 (by rw [z41]; decide) (by rw [z41]; decide) (by rw [z41]; decide) (by decide) ?_
    replace h := h.1 z41
    refine g_aload_n C dX11_carries_248 rfl 0 rfl ?_
    refine g_iload_n C dX11_carries_249 rfl 1 rfl ?_
    refine gr_callSf C [.int p0] rfl (k_X11_at l D T m0 a p0 r q) (w0_S 1 C.2.2.2.2.1 kw_1947 kw_1948 kw_9 kw_1949 rfl rfl (by decide +kernel) ⟨by decide, by decide⟩) rfl (Nat.le_of_ble_eq_true rfl) (Nat.zero_le _) (Nat.zero_le _) dX11_carries_250 ?_
    refine g_sipush (v := 148) C dX11_carries_253 (by decide) ?_
    refine g_iadd C dX11_carries_256 ?_
    refine g_aload_n C dX11_carries_257 rfl 0 rfl ?_
    refine gr_get C iwx_X11 14 (hw kw_1823) (by decide) rfl rfl dX11_carries_258 ?_
    refine g_iload_n C dX11_carries_261 rfl 2 rfl ?_
    refine g_iconst (v := 1) C dX11_carries_262 (by decide) ?_
    refine g_iadd C dX11_carries_263 ?_
    obtain ⟨g42, h⟩ := h
    refine gr_ald_5 C g42 dX11_carries_264 ?_
    refine g_iconst (v := 0) C dX11_carries_265 (by decide) ?_
    refine g_sipush (v := 9999) C dX11_carries_266 (by decide) ?_
    obtain ⟨g46, h⟩ := h
    refine gr_calliV C [.int ((274 + 510 * p0) + 148), .int (q 5 (Int32.toNatClampNeg (p1 + 1))), .int 0, .int 9999] rfl (k_X11_writes l D T m0 a ((274 + 510 * p0) + 148) (q 5 (Int32.toNatClampNeg (p1 + 1))) 0 9999 r q g46) (w0_V 4 C.2.2.2.2.1 kw_2092 kw_2094 ks_74 kw_9 kw_2095 rfl rfl (by decide +kernel) ⟨by decide, by decide⟩) rfl (Nat.le_of_ble_eq_true rfl) (Nat.zero_le _) (Nat.zero_le _) dX11_carries_269 (fun v43 r44 q45 hp => ?_)
    replace h := h v43 r44 q45 hp
    exact gr_zret C hr h.1 dX11_carries_272 h.2
  replace h := h.2 z41
  rcases Decidable.em (v2 = 122) with z47 | z47
  · refine g_tableIn (off := 118) (tgt := 124) C dX11_carries_6 (by rw [z47]; decide) (by rw [z47]; decide) (by rw [z47]; decide) (by decide) ?_
    replace h := h.1 z47
    refine g_aload_n C dX11_carries_124 rfl 0 rfl ?_
    refine g_iload_n C dX11_carries_125 rfl 1 rfl ?_
    refine g_iload_n C dX11_carries_126 rfl 2 rfl ?_
    obtain ⟨g51, h⟩ := h
    refine gr_calliV C [.int p0, .int p1] rfl (k_X11_puts l D T m0 a p0 p1 r q g51) (w0_V 2 C.2.2.2.2.1 kw_2084 kw_2086 ks_72 kw_9 kw_2087 rfl rfl (by decide +kernel) ⟨by decide, by decide⟩) rfl (Nat.le_of_ble_eq_true rfl) (Nat.zero_le _) (Nat.zero_le _) dX11_carries_127 (fun v48 r49 q50 hp => ?_)
    replace h := h v48 r49 q50 hp
    exact gr_zret C hr h.1 dX11_carries_130 h.2
  replace h := h.2 z47
  refine g_tableD (tgt := 305) C dX11_carries_6 (by decide) (fun j hj => ?_) (by decide) ?_
  · rcases (show j = 0 ∨ j = 1 ∨ j = 2 ∨ j = 3 ∨ j = 4 ∨ j = 5 ∨ j = 6 ∨ j = 7 ∨ j = 8 ∨ j = 9 ∨ j = 10 ∨ j = 11 ∨ j = 12 ∨ j = 13 ∨ j = 14 ∨ j = 15 ∨ j = 16 ∨ j = 17 ∨ j = 18 ∨ j = 19 ∨ j = 20 ∨ j = 21 ∨ j = 22 ∨ j = 23 ∨ j = 24 ∨ j = 25 by have hj2 : j < 26 := hj; omega) with rfl | rfl | rfl | rfl | rfl | rfl | rfl | rfl | rfl | rfl | rfl | rfl | rfl | rfl | rfl | rfl | rfl | rfl | rfl | rfl | rfl | rfl | rfl | rfl | rfl | rfl <;> first | exact Or.inr rfl | exact Or.inl (by first | exact lv_neT z3 rfl | exact lv_neT z8 rfl | exact lv_neT z16 rfl | exact lv_neT z22 rfl | exact lv_neT z28 rfl | exact lv_neT z34 rfl | exact lv_neT z41 rfl | exact lv_neT z47 rfl)
  refine g_aload_n C dX11_carries_305 rfl 0 rfl ?_
  refine g_iload_n C dX11_carries_306 rfl 1 rfl ?_
  refine g_aload_n C dX11_carries_307 rfl 0 rfl ?_
  refine gr_get C iwx_X11 14 (hw kw_1823) (by decide) rfl rfl dX11_carries_308 ?_
  refine g_iload_n C dX11_carries_311 rfl 2 rfl ?_
  refine g_iconst (v := 1) C dX11_carries_312 (by decide) ?_
  refine g_iadd C dX11_carries_313 ?_
  obtain ⟨g52, h⟩ := h
  refine gr_ald_5 C g52 dX11_carries_314 ?_
  obtain ⟨g56, h⟩ := h
  refine gr_calliV C [.int p0, .int (q 5 (Int32.toNatClampNeg (p1 + 1)))] rfl (k_X11_removes l D T m0 a p0 (q 5 (Int32.toNatClampNeg (p1 + 1))) r q g56) (w0_V 2 C.2.2.2.2.1 kw_2100 kw_2102 ks_76 kw_9 kw_2103 rfl rfl (by decide +kernel) ⟨by decide, by decide⟩) rfl (Nat.le_of_ble_eq_true rfl) (Nat.zero_le _) (Nat.zero_le _) dX11_carries_315 (fun v53 r54 q55 hp => ?_)
  replace h := h v53 r54 q55 hp
  exact gr_zret C hr h.1 dX11_carries_318 h.2
theorem c_X11_carries (l : Launch) (D : va_G) (T : Nat → ClassId) (m0 : Nat) (a : Nat → Nat) (p0 : Int32) (p1 : Int32) (r : Nat → Int32) (q : Nat → Nat → Int32) (P : Int32 → RST → Prop) (h : wp_X11_carries P p0 p1 r q) : RMi l yX11_carries (ws_X11_carries) rm_X11_carries D T m0 a [.ref m0, .int p0, .int p1] r q P := gr_meti (by decide) rfl rfl (Nat.le_of_ble_eq_true rfl) (fun p e s m args below meth c A C hr => t_X11_carries C hr P p0 p1 r q h)
def wp_X11_write_194 (K130 : Int32 → Int32 → (Nat → Int32) → (Nat → Nat → Int32) → Prop) (P : Int32 → RST → Prop) (x3 : Int32) (x4 : Int32) (x5 : Int32) (s0 : Int32) (r : Nat → Int32) (q : Nat → Nat → Int32) : Prop := (¬ x4 = 0 → ((s0 = 0 → (∀ (r39 : Nat → Int32) (q40 : Nat → Nat → Int32), True → (∀ (r42 : Nat → Int32) (q43 : Nat → Nat → Int32), True → (∀ v44 : Int32, v44 = x4 + 1 → (K130 x3 v44 r42 q43))))) ∧ (¬ s0 = 0 → (∀ (r46 : Nat → Int32) (q47 : Nat → Nat → Int32), True → (∀ (r49 : Nat → Int32) (q50 : Nat → Nat → Int32), True → (∀ v51 : Int32, v51 = x4 + 1 → (K130 x3 v51 r49 q50))))))) ∧ (x4 = 0 → (∀ (r53 : Nat → Int32) (q54 : Nat → Nat → Int32), True → (∀ (r56 : Nat → Int32) (q57 : Nat → Nat → Int32), True → (∀ v58 : Int32, v58 = x4 + 1 → (K130 x3 v58 r56 q57)))))
set_option maxRecDepth 100000 in
set_option maxHeartbeats 4000000 in
theorem t_X11_write_194 {p : Program} {l : Launch} {e : Env} {s : State} {m : MethodId} {args : Array Value} {below : List Frame} {meth : Method} {c : Code} {D : va_G} {A : Nat → Prop} {T : Nat → ClassId} {m0 : Nat} {a : Nat → Nat} (C : GC p s m args meth c cX11_write "FreightRaterModel" (ws_X11_write) 7 D A (zty T)) (hr : meth.sig.returnType = (some .int)) (K130 : Int32 → Int32 → (Nat → Int32) → (Nat → Nat → Int32) → Prop) (P : Int32 → RST → Prop) (hK130 : ∀ (x3 : Int32) (x4 : Int32) (r : Nat → Int32) (q : Nat → Nat → Int32), K130 x3 x4 r q → GW p l e rm_X11_write s m args below meth c D A 7 0 0 (MQ below (va_Qi P (RE D T m0 a A) A) args s 0 0 A) (RW m0 a T r q) 0 0 130 [(0, .ref m0), (3, .int x3), (4, .int x4)] []) : ∀ (x3 : Int32) (x4 : Int32) (x5 : Int32) (s0 : Int32) (r : Nat → Int32) (q : Nat → Nat → Int32), wp_X11_write_194 K130 P x3 x4 x5 s0 r q → GW p l e rm_X11_write s m args below meth c D A 7 0 0 (MQ below (va_Qi P (RE D T m0 a A) A) args s 0 0 A) (RW m0 a T r q) 0 0 194 [(0, .ref m0), (3, .int x3), (4, .int x4), (5, .int x5)] [.int s0] := by
  have hw : ∀ {w : Cond}, w ∈ W0 → w.before args s = true := fun h => C.2.2.2.2.1 _ (List.mem_cons_of_mem _ h)
  intro x3 x4 x5 s0 r q h
  unfold wp_X11_write_194 at h
  refine g_istore (lv' := [(6, .int s0), (0, .ref m0), (3, .int x3), (4, .int x4), (5, .int x5)]) C dX11_write_194 (by decide) rfl ?_
  refine g_aload_n C dX11_write_196 rfl 1 rfl ?_
  refine g_iload C dX11_write_197 3 rfl ?_
  refine g_if_ne (tgt := 207) C dX11_write_199 (by decide) (fun z36 => ?_) (fun z36 => ?_)
  · replace h := h.1 z36
    refine g_iload C dX11_write_207 0 rfl ?_
    refine g_if_eq (tgt := 217) C dX11_write_209 (by decide) (fun z37 => ?_) (fun z37 => ?_)
    · replace h := h.1 z37
      refine g_bipush (v := 124) C dX11_write_217 (by decide) ?_
      refine gr_callvV C [.int 124] rfl (k_X11_put l D T m0 a 124 r q) (w0_V 1 C.2.2.2.2.1 kw_2331 kw_2333 ks_106 kw_9 kw_2334 rfl rfl (by decide +kernel) ⟨by decide, by decide⟩) rfl (Nat.le_of_ble_eq_true rfl) (Nat.zero_le _) (Nat.zero_le _) dX11_write_219 (fun r39 q40 hp => ?_)
      replace h := h r39 q40 hp
      refine g_aload_n C dX11_write_222 rfl 1 rfl ?_
      refine g_iload C dX11_write_223 4 rfl ?_
      refine gr_callvV C [.int x5] rfl (k_X11_putTest l D T m0 a x5 r39 q40) (w0_V 1 C.2.2.2.2.1 kw_2339 kw_2341 ks_108 kw_9 kw_2342 rfl rfl (by decide +kernel) ⟨by decide, by decide⟩) rfl (Nat.le_of_ble_eq_true rfl) (Nat.zero_le _) (Nat.zero_le _) dX11_write_225 (fun r42 q43 hp => ?_)
      replace h := h r42 q43 hp
      obtain ⟨v44, ev44⟩ : ∃ y : Int32, y = x4 + 1 := ⟨_, rfl⟩
      replace h := h v44 ev44
      refine g_iinc (v := v44) (lv' := [(4, .int v44), (6, .int s0), (0, .ref m0), (3, .int x3), (5, .int x5)]) C dX11_write_228 (j := 3) rfl (by rw [ev44]; rfl) (by decide) rfl ?_
      refine g_goto (tgt := 130) C dX11_write_231 (by decide) ?_
      refine g_locals [2, 3, 0] rfl ?_
      exact hK130 x3 v44 r42 q43 h
    · replace h := h.2 z37
      refine g_bipush (v := 38) C dX11_write_212 (by decide) ?_
      refine g_goto (tgt := 219) C dX11_write_214 (by decide) ?_
      refine gr_callvV C [.int 38] rfl (k_X11_put l D T m0 a 38 r q) (w0_V 1 C.2.2.2.2.1 kw_2331 kw_2333 ks_106 kw_9 kw_2334 rfl rfl (by decide +kernel) ⟨by decide, by decide⟩) rfl (Nat.le_of_ble_eq_true rfl) (Nat.zero_le _) (Nat.zero_le _) dX11_write_219 (fun r46 q47 hp => ?_)
      replace h := h r46 q47 hp
      refine g_aload_n C dX11_write_222 rfl 1 rfl ?_
      refine g_iload C dX11_write_223 4 rfl ?_
      refine gr_callvV C [.int x5] rfl (k_X11_putTest l D T m0 a x5 r46 q47) (w0_V 1 C.2.2.2.2.1 kw_2339 kw_2341 ks_108 kw_9 kw_2342 rfl rfl (by decide +kernel) ⟨by decide, by decide⟩) rfl (Nat.le_of_ble_eq_true rfl) (Nat.zero_le _) (Nat.zero_le _) dX11_write_225 (fun r49 q50 hp => ?_)
      replace h := h r49 q50 hp
      obtain ⟨v51, ev51⟩ : ∃ y : Int32, y = x4 + 1 := ⟨_, rfl⟩
      replace h := h v51 ev51
      refine g_iinc (v := v51) (lv' := [(4, .int v51), (6, .int s0), (0, .ref m0), (3, .int x3), (5, .int x5)]) C dX11_write_228 (j := 3) rfl (by rw [ev51]; rfl) (by decide) rfl ?_
      refine g_goto (tgt := 130) C dX11_write_231 (by decide) ?_
      refine g_locals [2, 3, 0] rfl ?_
      exact hK130 x3 v51 r49 q50 h
  · replace h := h.2 z36
    refine g_bipush (v := 63) C dX11_write_202 (by decide) ?_
    refine g_goto (tgt := 219) C dX11_write_204 (by decide) ?_
    refine gr_callvV C [.int 63] rfl (k_X11_put l D T m0 a 63 r q) (w0_V 1 C.2.2.2.2.1 kw_2331 kw_2333 ks_106 kw_9 kw_2334 rfl rfl (by decide +kernel) ⟨by decide, by decide⟩) rfl (Nat.le_of_ble_eq_true rfl) (Nat.zero_le _) (Nat.zero_le _) dX11_write_219 (fun r53 q54 hp => ?_)
    replace h := h r53 q54 hp
    refine g_aload_n C dX11_write_222 rfl 1 rfl ?_
    refine g_iload C dX11_write_223 4 rfl ?_
    refine gr_callvV C [.int x5] rfl (k_X11_putTest l D T m0 a x5 r53 q54) (w0_V 1 C.2.2.2.2.1 kw_2339 kw_2341 ks_108 kw_9 kw_2342 rfl rfl (by decide +kernel) ⟨by decide, by decide⟩) rfl (Nat.le_of_ble_eq_true rfl) (Nat.zero_le _) (Nat.zero_le _) dX11_write_225 (fun r56 q57 hp => ?_)
    replace h := h r56 q57 hp
    obtain ⟨v58, ev58⟩ : ∃ y : Int32, y = x4 + 1 := ⟨_, rfl⟩
    replace h := h v58 ev58
    refine g_iinc (v := v58) (lv' := [(4, .int v58), (6, .int s0), (0, .ref m0), (3, .int x3), (5, .int x5)]) C dX11_write_228 (j := 3) rfl (by rw [ev58]; rfl) (by decide) rfl ?_
    refine g_goto (tgt := 130) C dX11_write_231 (by decide) ?_
    refine g_locals [2, 3, 0] rfl ?_
    exact hK130 x3 v58 r56 q57 h
def wb_X11_write_130 (rec : Int32 → Int32 → (Nat → Int32) → (Nat → Nat → Int32) → Prop) (P : Int32 → RST → Prop) (x3 : Int32) (x4 : Int32) (r : Nat → Int32) (q : Nat → Nat → Int32) : Prop := vp_in (x3 + 4) 3334 ∧ (((q 0 (Int32.toNatClampNeg (x3 + 4))) ≤ x4 → (vp_in (x3 + 5) 3334 ∧ (((q 0 (Int32.toNatClampNeg (x3 + 5))) < 0 → (P (r 40) (r, q))) ∧ (¬ (q 0 (Int32.toNatClampNeg (x3 + 5))) < 0 → (∀ (r27 : Nat → Int32) (q28 : Nat → Nat → Int32), True → (vp_in (x3 + 5) 3334 ∧ (∀ (r31 : Nat → Int32) (q32 : Nat → Nat → Int32), True → (P (r31 40) (r31, q32))))))))) ∧ (¬ (q 0 (Int32.toNatClampNeg (x3 + 4))) ≤ x4 → (vp_in ((x3 + 6) + x4) 3334 ∧ (∀ v34 : Int32, v34 = (q 0 (Int32.toNatClampNeg ((x3 + 6) + x4))) → ((x4 ≤ 0 → (wp_X11_write_194 (fun (y59 : Int32) (y60 : Int32) (r61 : Nat → Int32) (q62 : Nat → Nat → Int32) => rec y59 y60 r61 q62) P x3 x4 v34 0 r q)) ∧ (¬ x4 ≤ 0 → (vp_in (((x3 + 6) + x4) - 1) 3334 ∧ ((¬ ((q 0 (Int32.toNatClampNeg (((x3 + 6) + x4) - 1))) / 300000) = (v34 / 300000) → (wp_X11_write_194 (fun (y65 : Int32) (y66 : Int32) (r67 : Nat → Int32) (q68 : Nat → Nat → Int32) => rec y65 y66 r67 q68) P x3 x4 v34 0 r q)) ∧ (((q 0 (Int32.toNatClampNeg (((x3 + 6) + x4) - 1))) / 300000) = (v34 / 300000) → (wp_X11_write_194 (fun (y69 : Int32) (y70 : Int32) (r71 : Nat → Int32) (q72 : Nat → Nat → Int32) => rec y69 y70 r71 q72) P x3 x4 v34 1 r q))))))))))
def wp_X11_write_130 (P : Int32 → RST → Prop) : Nat → Int32 → Int32 → (Nat → Int32) → (Nat → Nat → Int32) → Prop
  | 0 => fun _ _ _ _ => False
  | n + 1 => fun x3 x4 r q => wb_X11_write_130 (wp_X11_write_130  P n)  P x3 x4 r q
set_option maxRecDepth 100000 in
set_option maxHeartbeats 4000000 in
theorem t_X11_write_130 {p : Program} {l : Launch} {e : Env} {s : State} {m : MethodId} {args : Array Value} {below : List Frame} {meth : Method} {c : Code} {D : va_G} {A : Nat → Prop} {T : Nat → ClassId} {m0 : Nat} {a : Nat → Nat} (C : GC p s m args meth c cX11_write "FreightRaterModel" (ws_X11_write) 7 D A (zty T)) (hr : meth.sig.returnType = (some .int)) (P : Int32 → RST → Prop) : ∀ (n : Nat) (x3 : Int32) (x4 : Int32) (r : Nat → Int32) (q : Nat → Nat → Int32), wp_X11_write_130  P n x3 x4 r q → GW p l e rm_X11_write s m args below meth c D A 7 0 0 (MQ below (va_Qi P (RE D T m0 a A) A) args s 0 0 A) (RW m0 a T r q) 0 0 130 [(0, .ref m0), (3, .int x3), (4, .int x4)] [] := by
  have hw : ∀ {w : Cond}, w ∈ W0 → w.before args s = true := fun h => C.2.2.2.2.1 _ (List.mem_cons_of_mem _ h)
  intro n
  induction n with
  | zero => intro x3 x4 r q h; exact h.elim
  | succ n ih =>
    intro x3 x4 r q h
    replace h : wb_X11_write_130 (wp_X11_write_130  P n)  P x3 x4 r q := h
    unfold wb_X11_write_130 at h
    refine g_iload C dX11_write_130 2 rfl ?_
    refine g_aload_n C dX11_write_132 rfl 0 rfl ?_
    refine gr_get C iwx_X11 0 (hw kw_1809) (by decide) rfl rfl dX11_write_133 ?_
    refine g_iload_n C dX11_write_136 rfl 1 rfl ?_
    refine g_iconst (v := 4) C dX11_write_137 (by decide) ?_
    refine g_iadd C dX11_write_138 ?_
    obtain ⟨g22, h⟩ := h
    refine gr_ald_0 C g22 dX11_write_139 ?_
    refine g_icmp_ge (tgt := 234) C dX11_write_140 (by decide) (fun z23 => ?_) (fun z23 => ?_)
    · replace h := h.1 z23
      refine g_aload_n C dX11_write_234 rfl 0 rfl ?_
      refine gr_get C iwx_X11 0 (hw kw_1809) (by decide) rfl rfl dX11_write_235 ?_
      refine g_iload_n C dX11_write_238 rfl 1 rfl ?_
      refine g_iconst (v := 5) C dX11_write_239 (by decide) ?_
      refine g_iadd C dX11_write_240 ?_
      obtain ⟨g24, h⟩ := h
      refine gr_ald_0 C g24 dX11_write_241 ?_
      refine g_if_lt (tgt := 263) C dX11_write_242 (by decide) (fun z25 => ?_) (fun z25 => ?_)
      · replace h := h.1 z25
        refine g_aload_n C dX11_write_263 rfl 0 rfl ?_
        refine gr_get C iwx_X11 40 (hw kw_1849) (by decide) rfl rfl dX11_write_264 ?_
        exact gr_iret C hr dX11_write_267 h
      · replace h := h.2 z25
        refine g_aload_n C dX11_write_245 rfl 0 rfl ?_
        refine g_bipush (v := 33) C dX11_write_246 (by decide) ?_
        refine gr_callvV C [.int 33] rfl (k_X11_put l D T m0 a 33 r q) (w0_V 1 C.2.2.2.2.1 kw_2331 kw_2333 ks_106 kw_9 kw_2334 rfl rfl (by decide +kernel) ⟨by decide, by decide⟩) rfl (Nat.le_of_ble_eq_true rfl) (Nat.zero_le _) (Nat.zero_le _) dX11_write_248 (fun r27 q28 hp => ?_)
        replace h := h r27 q28 hp
        refine g_aload_n C dX11_write_251 rfl 0 rfl ?_
        refine g_aload_n C dX11_write_252 rfl 0 rfl ?_
        refine gr_get C iwx_X11 0 (hw kw_1809) (by decide) rfl rfl dX11_write_253 ?_
        refine g_iload_n C dX11_write_256 rfl 1 rfl ?_
        refine g_iconst (v := 5) C dX11_write_257 (by decide) ?_
        refine g_iadd C dX11_write_258 ?_
        obtain ⟨g29, h⟩ := h
        refine gr_ald_0 C g29 dX11_write_259 ?_
        refine gr_callvV C [.int (q28 0 (Int32.toNatClampNeg (x3 + 5)))] rfl (k_X11_putNumber l D T m0 a (q28 0 (Int32.toNatClampNeg (x3 + 5))) r27 q28) (w0_V 1 C.2.2.2.2.1 kw_2335 kw_2337 ks_107 kw_9 kw_2338 rfl rfl (by decide +kernel) ⟨by decide, by decide⟩) rfl (Nat.le_of_ble_eq_true rfl) (Nat.zero_le _) (Nat.zero_le _) dX11_write_260 (fun r31 q32 hp => ?_)
        replace h := h r31 q32 hp
        refine g_aload_n C dX11_write_263 rfl 0 rfl ?_
        refine gr_get C iwx_X11 40 (hw kw_1849) (by decide) rfl rfl dX11_write_264 ?_
        exact gr_iret C hr dX11_write_267 h
    · replace h := h.2 z23
      refine g_aload_n C dX11_write_143 rfl 0 rfl ?_
      refine gr_get C iwx_X11 0 (hw kw_1809) (by decide) rfl rfl dX11_write_144 ?_
      refine g_iload_n C dX11_write_147 rfl 1 rfl ?_
      refine g_bipush (v := 6) C dX11_write_148 (by decide) ?_
      refine g_iadd C dX11_write_150 ?_
      refine g_iload C dX11_write_151 2 rfl ?_
      refine g_iadd C dX11_write_153 ?_
      obtain ⟨g33, h⟩ := h
      refine gr_ald_0 C g33 dX11_write_154 ?_
      refine g_topi (fun v34 ev34 => ?_)
      replace h := h v34 ev34
      refine g_istore (lv' := [(5, .int v34), (0, .ref m0), (3, .int x3), (4, .int x4)]) C dX11_write_155 (by decide) rfl ?_
      refine g_iload C dX11_write_157 3 rfl ?_
      refine g_if_le (tgt := 193) C dX11_write_159 (by decide) (fun z35 => ?_) (fun z35 => ?_)
      · replace h := h.1 z35
        refine g_iconst (v := 0) C dX11_write_193 (by decide) ?_
        refine g_locals [1, 2, 3, 0] rfl ?_
        refine t_X11_write_194 C hr _ P ?_ x3 x4 v34 0 r q h
        · intro y59 y60 r61 q62 h
          refine g_locals [0, 1, 2] rfl ?_
          exact ih y59 y60 r61 q62 h
      · replace h := h.2 z35
        refine g_aload_n C dX11_write_162 rfl 1 rfl ?_
        refine gr_get C iwx_X11 0 (hw kw_1809) (by decide) rfl rfl dX11_write_163 ?_
        refine g_iload_n C dX11_write_166 rfl 2 rfl ?_
        refine g_bipush (v := 6) C dX11_write_167 (by decide) ?_
        refine g_iadd C dX11_write_169 ?_
        refine g_iload C dX11_write_170 3 rfl ?_
        refine g_iadd C dX11_write_172 ?_
        refine g_iconst (v := 1) C dX11_write_173 (by decide) ?_
        refine g_isub C dX11_write_174 ?_
        obtain ⟨g63, h⟩ := h
        refine gr_ald_0 C g63 dX11_write_175 ?_
        refine g_ldcw (v := 300000) C dX11_write_176 (hw kw_2216) ?_
        refine g_idiv C dX11_write_179 (by decide) ?_
        refine g_iload C dX11_write_180 0 rfl ?_
        refine g_ldcw (v := 300000) C dX11_write_182 (hw kw_2216) ?_
        refine g_idiv C dX11_write_185 (by decide) ?_
        refine g_icmp_ne (tgt := 193) C dX11_write_186 (by decide) (fun z64 => ?_) (fun z64 => ?_)
        · replace h := h.1 z64
          refine g_iconst (v := 0) C dX11_write_193 (by decide) ?_
          refine g_locals [1, 2, 3, 0] rfl ?_
          refine t_X11_write_194 C hr _ P ?_ x3 x4 v34 0 r q h
          · intro y65 y66 r67 q68 h
            refine g_locals [0, 1, 2] rfl ?_
            exact ih y65 y66 r67 q68 h
        · replace h := h.2 z64
          refine g_iconst (v := 1) C dX11_write_189 (by decide) ?_
          refine g_goto (tgt := 194) C dX11_write_190 (by decide) ?_
          refine g_locals [1, 2, 3, 0] rfl ?_
          refine t_X11_write_194 C hr _ P ?_ x3 x4 v34 1 r q h
          · intro y69 y70 r71 q72 h
            refine g_locals [0, 1, 2] rfl ?_
            exact ih y69 y70 r71 q72 h
def wp_X11_write_41 (P : Int32 → RST → Prop) (x1 : Int32) (x2 : Int32) (s0 : Int32) (r : Nat → Int32) (q : Nat → Nat → Int32) : Prop := ∀ r3 : Nat → Int32, r3 = va_up r 6 s0 → (((r3 6) ≤ 0 → (∀ v5 : Int32, v5 = (274 + 510 * x1 + 150 + 36 * x2) → (∀ r6 : Nat → Int32, r6 = va_up r3 40 0 → (∀ (r8 : Nat → Int32) (q9 : Nat → Nat → Int32), True → (∀ (r11 : Nat → Int32) (q12 : Nat → Nat → Int32), True → (∀ (r14 : Nat → Int32) (q15 : Nat → Nat → Int32), True → (vp_in (v5 + 1) 3334 ∧ (∀ (r18 : Nat → Int32) (q19 : Nat → Nat → Int32), True → (vp_in (v5 + 2) 3334 ∧ (((q19 0 (Int32.toNatClampNeg (v5 + 2))) ≤ 0 → (∃ k73 : Nat, wp_X11_write_130  P k73 v5 0 r18 q19)) ∧ (¬ (q19 0 (Int32.toNatClampNeg (v5 + 2))) ≤ 0 → (vp_in (v5 + 2) 3334 ∧ ((¬ (q19 0 (Int32.toNatClampNeg (v5 + 2))) = 1 → (∀ (r77 : Nat → Int32) (q78 : Nat → Nat → Int32), True → (∃ k79 : Nat, wp_X11_write_130  P k79 v5 0 r77 q78))) ∧ ((q19 0 (Int32.toNatClampNeg (v5 + 2))) = 1 → (∀ (r81 : Nat → Int32) (q82 : Nat → Nat → Int32), True → (∃ k83 : Nat, wp_X11_write_130  P k83 v5 0 r81 q82)))))))))))))))) ∧ (¬ (r3 6) ≤ 0 → (P 0 (r3, q))))
set_option maxRecDepth 100000 in
set_option maxHeartbeats 4000000 in
theorem t_X11_write_41 {p : Program} {l : Launch} {e : Env} {s : State} {m : MethodId} {args : Array Value} {below : List Frame} {meth : Method} {c : Code} {D : va_G} {A : Nat → Prop} {T : Nat → ClassId} {m0 : Nat} {a : Nat → Nat} (C : GC p s m args meth c cX11_write "FreightRaterModel" (ws_X11_write) 7 D A (zty T)) (hr : meth.sig.returnType = (some .int)) (P : Int32 → RST → Prop) : ∀ (x1 : Int32) (x2 : Int32) (s0 : Int32) (r : Nat → Int32) (q : Nat → Nat → Int32), wp_X11_write_41  P x1 x2 s0 r q → GW p l e rm_X11_write s m args below meth c D A 7 0 0 (MQ below (va_Qi P (RE D T m0 a A) A) args s 0 0 A) (RW m0 a T r q) 0 0 41 [(0, .ref m0), (1, .int x1), (2, .int x2)] [.int s0, .ref m0] := by
  have hw : ∀ {w : Cond}, w ∈ W0 → w.before args s = true := fun h => C.2.2.2.2.1 _ (List.mem_cons_of_mem _ h)
  intro x1 x2 s0 r q h
  unfold wp_X11_write_41 at h
  refine gr_put_6 C iwx_X11 (hw kw_1815) dX11_write_41 ?_
  refine gr_nr (fun r3 er3 => ?_)
  replace h := h r3 er3
  refine g_aload_n C dX11_write_44 rfl 0 rfl ?_
  refine gr_get C iwx_X11 6 (hw kw_1815) (by decide) rfl rfl dX11_write_45 ?_
  refine g_if_le (tgt := 53) C dX11_write_48 (by decide) (fun z4 => ?_) (fun z4 => ?_)
  · replace h := h.1 z4
    refine g_iload_n C dX11_write_53 rfl 1 rfl ?_
    refine g_iload_n C dX11_write_54 rfl 2 rfl ?_
    refine gr_callSf C [.int x1, .int x2] rfl (k_X11_extra l D T m0 a x1 x2 r3 q) (w0_S 2 C.2.2.2.2.1 kw_1978 kw_1979 kw_9 kw_1980 rfl rfl (by decide +kernel) ⟨by decide, by decide⟩) rfl (Nat.le_of_ble_eq_true rfl) (Nat.zero_le _) (Nat.zero_le _) dX11_write_55 ?_
    refine g_topi (fun v5 ev5 => ?_)
    replace h := h v5 ev5
    refine g_istore_n (lv' := [(3, .int v5), (0, .ref m0), (1, .int x1), (2, .int x2)]) C dX11_write_58 rfl (by decide) rfl ?_
    refine g_aload_n C dX11_write_59 rfl 1 rfl ?_
    refine g_iconst (v := 0) C dX11_write_60 (by decide) ?_
    refine gr_put_40 C iwx_X11 (hw kw_1849) dX11_write_61 ?_
    refine gr_nr (fun r6 er6 => ?_)
    replace h := h r6 er6
    refine g_aload_n C dX11_write_64 rfl 1 rfl ?_
    refine g_bipush (v := 97) C dX11_write_65 (by decide) ?_
    refine gr_callvV C [.int 97] rfl (k_X11_put l D T m0 a 97 r6 q) (w0_V 1 C.2.2.2.2.1 kw_2331 kw_2333 ks_106 kw_9 kw_2334 rfl rfl (by decide +kernel) ⟨by decide, by decide⟩) rfl (Nat.le_of_ble_eq_true rfl) (Nat.zero_le _) (Nat.zero_le _) dX11_write_67 (fun r8 q9 hp => ?_)
    replace h := h r8 q9 hp
    refine g_aload_n C dX11_write_70 rfl 1 rfl ?_
    refine g_iload_n C dX11_write_71 rfl 3 rfl ?_
    refine gr_callvV C [.int x2] rfl (k_X11_putNumber l D T m0 a x2 r8 q9) (w0_V 1 C.2.2.2.2.1 kw_2335 kw_2337 ks_107 kw_9 kw_2338 rfl rfl (by decide +kernel) ⟨by decide, by decide⟩) rfl (Nat.le_of_ble_eq_true rfl) (Nat.zero_le _) (Nat.zero_le _) dX11_write_72 (fun r11 q12 hp => ?_)
    replace h := h r11 q12 hp
    refine g_aload_n C dX11_write_75 rfl 1 rfl ?_
    refine g_bipush (v := 58) C dX11_write_76 (by decide) ?_
    refine gr_callvV C [.int 58] rfl (k_X11_put l D T m0 a 58 r11 q12) (w0_V 1 C.2.2.2.2.1 kw_2331 kw_2333 ks_106 kw_9 kw_2334 rfl rfl (by decide +kernel) ⟨by decide, by decide⟩) rfl (Nat.le_of_ble_eq_true rfl) (Nat.zero_le _) (Nat.zero_le _) dX11_write_78 (fun r14 q15 hp => ?_)
    replace h := h r14 q15 hp
    refine g_aload_n C dX11_write_81 rfl 1 rfl ?_
    refine g_aload_n C dX11_write_82 rfl 1 rfl ?_
    refine gr_get C iwx_X11 0 (hw kw_1809) (by decide) rfl rfl dX11_write_83 ?_
    refine g_iload_n C dX11_write_86 rfl 0 rfl ?_
    refine g_iconst (v := 1) C dX11_write_87 (by decide) ?_
    refine g_iadd C dX11_write_88 ?_
    obtain ⟨g16, h⟩ := h
    refine gr_ald_0 C g16 dX11_write_89 ?_
    refine gr_callvV C [.int (q15 0 (Int32.toNatClampNeg (v5 + 1)))] rfl (k_X11_putNumber l D T m0 a (q15 0 (Int32.toNatClampNeg (v5 + 1))) r14 q15) (w0_V 1 C.2.2.2.2.1 kw_2335 kw_2337 ks_107 kw_9 kw_2338 rfl rfl (by decide +kernel) ⟨by decide, by decide⟩) rfl (Nat.le_of_ble_eq_true rfl) (Nat.zero_le _) (Nat.zero_le _) dX11_write_90 (fun r18 q19 hp => ?_)
    replace h := h r18 q19 hp
    refine g_aload_n C dX11_write_93 rfl 1 rfl ?_
    refine gr_get C iwx_X11 0 (hw kw_1809) (by decide) rfl rfl dX11_write_94 ?_
    refine g_iload_n C dX11_write_97 rfl 0 rfl ?_
    refine g_iconst (v := 2) C dX11_write_98 (by decide) ?_
    refine g_iadd C dX11_write_99 ?_
    obtain ⟨g20, h⟩ := h
    refine gr_ald_0 C g20 dX11_write_100 ?_
    refine g_if_le (tgt := 127) C dX11_write_101 (by decide) (fun z21 => ?_) (fun z21 => ?_)
    · replace h := h.1 z21
      refine g_iconst (v := 0) C dX11_write_127 (by decide) ?_
      refine g_istore (lv' := [(4, .int 0), (3, .int v5), (0, .ref m0), (1, .int x1), (2, .int x2)]) C dX11_write_128 (by decide) rfl ?_
      refine g_locals [2, 1, 0] rfl ?_
      obtain ⟨k73, h⟩ := h
      refine t_X11_write_130 C hr  P  k73 v5 0 r18 q19 h
    · replace h := h.2 z21
      refine g_aload_n C dX11_write_104 rfl 1 rfl ?_
      refine g_aload_n C dX11_write_105 rfl 1 rfl ?_
      refine gr_get C iwx_X11 0 (hw kw_1809) (by decide) rfl rfl dX11_write_106 ?_
      refine g_iload_n C dX11_write_109 rfl 0 rfl ?_
      refine g_iconst (v := 2) C dX11_write_110 (by decide) ?_
      refine g_iadd C dX11_write_111 ?_
      obtain ⟨g74, h⟩ := h
      refine gr_ald_0 C g74 dX11_write_112 ?_
      refine g_iconst (v := 1) C dX11_write_113 (by decide) ?_
      refine g_icmp_ne (tgt := 122) C dX11_write_114 (by decide) (fun z75 => ?_) (fun z75 => ?_)
      · replace h := h.1 z75
        refine g_bipush (v := 37) C dX11_write_122 (by decide) ?_
        refine gr_callvV C [.int 37] rfl (k_X11_put l D T m0 a 37 r18 q19) (w0_V 1 C.2.2.2.2.1 kw_2331 kw_2333 ks_106 kw_9 kw_2334 rfl rfl (by decide +kernel) ⟨by decide, by decide⟩) rfl (Nat.le_of_ble_eq_true rfl) (Nat.zero_le _) (Nat.zero_le _) dX11_write_124 (fun r77 q78 hp => ?_)
        replace h := h r77 q78 hp
        refine g_iconst (v := 0) C dX11_write_127 (by decide) ?_
        refine g_istore (lv' := [(4, .int 0), (3, .int v5), (0, .ref m0), (1, .int x1), (2, .int x2)]) C dX11_write_128 (by decide) rfl ?_
        refine g_locals [2, 1, 0] rfl ?_
        obtain ⟨k79, h⟩ := h
        refine t_X11_write_130 C hr  P  k79 v5 0 r77 q78 h
      · replace h := h.2 z75
        refine g_bipush (v := 42) C dX11_write_117 (by decide) ?_
        refine g_goto (tgt := 124) C dX11_write_119 (by decide) ?_
        refine gr_callvV C [.int 42] rfl (k_X11_put l D T m0 a 42 r18 q19) (w0_V 1 C.2.2.2.2.1 kw_2331 kw_2333 ks_106 kw_9 kw_2334 rfl rfl (by decide +kernel) ⟨by decide, by decide⟩) rfl (Nat.le_of_ble_eq_true rfl) (Nat.zero_le _) (Nat.zero_le _) dX11_write_124 (fun r81 q82 hp => ?_)
        replace h := h r81 q82 hp
        refine g_iconst (v := 0) C dX11_write_127 (by decide) ?_
        refine g_istore (lv' := [(4, .int 0), (3, .int v5), (0, .ref m0), (1, .int x1), (2, .int x2)]) C dX11_write_128 (by decide) rfl ?_
        refine g_locals [2, 1, 0] rfl ?_
        obtain ⟨k83, h⟩ := h
        refine t_X11_write_130 C hr  P  k83 v5 0 r81 q82 h
  · replace h := h.2 z4
    refine g_iconst (v := 0) C dX11_write_51 (by decide) ?_
    exact gr_iret C hr dX11_write_52 h
def wp_X11_write (P : Int32 → RST → Prop) (p0 : Int32) (p1 : Int32) (r : Nat → Int32) (q : Nat → Nat → Int32) : Prop := (¬ (zin p0 0 (q 0 0 - 1)) = 0 → (((zin p1 0 9) = 0 → (wp_X11_write_41  P p0 p1 2 r q)) ∧ (¬ (zin p1 0 9) = 0 → (vp_in (274 + 510 * p0 + 150 + 36 * p1) 3334 ∧ ((¬ (q 0 (Int32.toNatClampNeg (274 + 510 * p0 + 150 + 36 * p1))) = 0 → (wp_X11_write_41  P p0 p1 0 r q)) ∧ ((q 0 (Int32.toNatClampNeg (274 + 510 * p0 + 150 + 36 * p1))) = 0 → (wp_X11_write_41  P p0 p1 2 r q))))))) ∧ ((zin p0 0 (q 0 0 - 1)) = 0 → (wp_X11_write_41  P p0 p1 1 r q))
set_option maxRecDepth 100000 in
set_option maxHeartbeats 4000000 in
theorem t_X11_write {p : Program} {l : Launch} {e : Env} {s : State} {m : MethodId} {args : Array Value} {below : List Frame} {meth : Method} {c : Code} {D : va_G} {A : Nat → Prop} {T : Nat → ClassId} {m0 : Nat} {a : Nat → Nat} (C : GC p s m args meth c cX11_write "FreightRaterModel" (ws_X11_write) 7 D A (zty T)) (hr : meth.sig.returnType = (some .int)) (P : Int32 → RST → Prop) : ∀ (p0 : Int32) (p1 : Int32) (r : Nat → Int32) (q : Nat → Nat → Int32), wp_X11_write P p0 p1 r q → GW p l e rm_X11_write s m args below meth c D A 7 0 0 (MQ below (va_Qi P (RE D T m0 a A) A) args s 0 0 A) (RW m0 a T r q) 0 0 0 [(0, .ref m0), (1, .int p0), (2, .int p1)] [] := by
  have hw : ∀ {w : Cond}, w ∈ W0 → w.before args s = true := fun h => C.2.2.2.2.1 _ (List.mem_cons_of_mem _ h)
  intro p0 p1 r q h
  unfold wp_X11_write at h
  refine g_aload_n C dX11_write_0 rfl 0 rfl ?_
  refine g_aload_n C dX11_write_1 rfl 0 rfl ?_
  refine g_iload_n C dX11_write_2 rfl 1 rfl ?_
  refine gr_callVf C [.int p0] rfl (k_X11_isVersion l D T m0 a p0 r q) (w0_V 1 C.2.2.2.2.1 kw_1954 kw_1956 ks_51 kw_9 kw_1957 rfl rfl (by decide +kernel) ⟨by decide, by decide⟩) rfl (Nat.le_of_ble_eq_true rfl) (Nat.zero_le _) (Nat.zero_le _) dX11_write_3 ?_
  refine g_if_ne (tgt := 13) C dX11_write_6 (by decide) (fun z1 => ?_) (fun z1 => ?_)
  · replace h := h.1 z1
    refine g_iload_n C dX11_write_13 rfl 2 rfl ?_
    refine g_iconst (v := 0) C dX11_write_14 (by decide) ?_
    refine g_bipush (v := 9) C dX11_write_15 (by decide) ?_
    refine gr_callSf C [.int p1, .int 0, .int 9] rfl (k_X11_in l D T m0 a p1 0 9 r q) (w0_S 3 C.2.2.2.2.1 kw_1944 kw_1945 kw_9 kw_1946 rfl rfl (by decide +kernel) ⟨by decide, by decide⟩) rfl (Nat.le_of_ble_eq_true rfl) (Nat.zero_le _) (Nat.zero_le _) dX11_write_17 ?_
    refine g_if_eq (tgt := 36) C dX11_write_20 (by decide) (fun z2 => ?_) (fun z2 => ?_)
    · replace h := h.1 z2
      refine g_iconst (v := 2) C dX11_write_36 (by decide) ?_
      refine g_goto (tgt := 41) C dX11_write_37 (by decide) ?_
      refine g_locals [0, 1, 2] rfl ?_
      refine t_X11_write_41 C hr  P  p0 p1 2 r q h
    · replace h := h.2 z2
      refine g_aload_n C dX11_write_23 rfl 0 rfl ?_
      refine gr_get C iwx_X11 0 (hw kw_1809) (by decide) rfl rfl dX11_write_24 ?_
      refine g_iload_n C dX11_write_27 rfl 1 rfl ?_
      refine g_iload_n C dX11_write_28 rfl 2 rfl ?_
      refine gr_callSf C [.int p0, .int p1] rfl (k_X11_extra l D T m0 a p0 p1 r q) (w0_S 2 C.2.2.2.2.1 kw_1978 kw_1979 kw_9 kw_1980 rfl rfl (by decide +kernel) ⟨by decide, by decide⟩) rfl (Nat.le_of_ble_eq_true rfl) (Nat.zero_le _) (Nat.zero_le _) dX11_write_29 ?_
      obtain ⟨g84, h⟩ := h
      refine gr_ald_0 C g84 dX11_write_32 ?_
      refine g_if_ne (tgt := 40) C dX11_write_33 (by decide) (fun z85 => ?_) (fun z85 => ?_)
      · replace h := h.1 z85
        refine g_iconst (v := 0) C dX11_write_40 (by decide) ?_
        refine g_locals [0, 1, 2] rfl ?_
        refine t_X11_write_41 C hr  P  p0 p1 0 r q h
      · replace h := h.2 z85
        refine g_iconst (v := 2) C dX11_write_36 (by decide) ?_
        refine g_goto (tgt := 41) C dX11_write_37 (by decide) ?_
        refine g_locals [0, 1, 2] rfl ?_
        refine t_X11_write_41 C hr  P  p0 p1 2 r q h
  · replace h := h.2 z1
    refine g_iconst (v := 1) C dX11_write_9 (by decide) ?_
    refine g_goto (tgt := 41) C dX11_write_10 (by decide) ?_
    refine g_locals [0, 1, 2] rfl ?_
    refine t_X11_write_41 C hr  P  p0 p1 1 r q h
theorem c_X11_write (l : Launch) (D : va_G) (T : Nat → ClassId) (m0 : Nat) (a : Nat → Nat) (p0 : Int32) (p1 : Int32) (r : Nat → Int32) (q : Nat → Nat → Int32) (P : Int32 → RST → Prop) (h : wp_X11_write P p0 p1 r q) : RMi l yX11_write (ws_X11_write) rm_X11_write D T m0 a [.ref m0, .int p0, .int p1] r q P := gr_meti (by decide) rfl rfl (Nat.le_of_ble_eq_true rfl) (fun p e s m args below meth c A C hr => t_X11_write C hr P p0 p1 r q h)
def wp_X11_readCondition_62 (K20 : Int32 → Int32 → (Nat → Int32) → (Nat → Nat → Int32) → Prop) (P : Int32 → RST → Prop) (x3 : Int32) (x4 : Int32) (s0 : Int32) (s1 : Int32) (r : Nat → Int32) (q : Nat → Nat → Int32) : Prop := ∀ v12 : Int32, v12 = (s1 + s0) → ((¬ x3 = 0 → ((psO r ∧ tsO r) ∧ (∀ (r15 : Nat → Int32) (q16 : Nat → Nat → Int32), (tsP r q v12 r15 q16) → ((¬ (r15 11) = 0 → (K20 v12 0 r15 q16)) ∧ ((r15 11) = 0 → (K20 v12 1 r15 q16)))))) ∧ (x3 = 0 → ((x4 = 0 → (K20 v12 0 r q)) ∧ (¬ x4 = 0 → ((psO r ∧ tsO r) ∧ (∀ (r21 : Nat → Int32) (q22 : Nat → Nat → Int32), (tsP r q v12 r21 q22) → ((¬ (r21 11) = 0 → (K20 v12 0 r21 q22)) ∧ ((r21 11) = 0 → (K20 v12 1 r21 q22)))))))))
set_option maxRecDepth 100000 in
set_option maxHeartbeats 4000000 in
theorem t_X11_readCondition_62 {p : Program} {l : Launch} {e : Env} {s : State} {m : MethodId} {args : Array Value} {below : List Frame} {meth : Method} {c : Code} {D : va_G} {A : Nat → Prop} {T : Nat → ClassId} {m0 : Nat} {a : Nat → Nat} (C : GC p s m args meth c cX11_readCondition "FreightRaterModel" (ws_X11_readCondition) 5 D A (zty T)) (hr : meth.sig.returnType = (some .int)) (K20 : Int32 → Int32 → (Nat → Int32) → (Nat → Nat → Int32) → Prop) (P : Int32 → RST → Prop) (hK20 : ∀ (x1 : Int32) (x2 : Int32) (r : Nat → Int32) (q : Nat → Nat → Int32), K20 x1 x2 r q → GW p l e rm_X11_readCondition s m args below meth c D A 5 0 0 (MQ below (va_Qi P (RE D T m0 a A) A) args s 0 0 A) (RW m0 a T r q) 0 0 20 [(0, .ref m0), (1, .int x1), (2, .int x2)] []) : ∀ (x3 : Int32) (x4 : Int32) (s0 : Int32) (s1 : Int32) (r : Nat → Int32) (q : Nat → Nat → Int32), wp_X11_readCondition_62 K20 P x3 x4 s0 s1 r q → GW p l e rm_X11_readCondition s m args below meth c D A 5 0 0 (MQ below (va_Qi P (RE D T m0 a A) A) args s 0 0 A) (RW m0 a T r q) 0 0 62 [(0, .ref m0), (3, .int x3), (4, .int x4)] [.int s0, .int s1] := by
  have hw : ∀ {w : Cond}, w ∈ W0 → w.before args s = true := fun h => C.2.2.2.2.1 _ (List.mem_cons_of_mem _ h)
  intro x3 x4 s0 s1 r q h
  unfold wp_X11_readCondition_62 at h
  refine g_iadd C dX11_readCondition_62 ?_
  refine g_topi (fun v12 ev12 => ?_)
  replace h := h v12 ev12
  refine g_istore_n (lv' := [(1, .int v12), (0, .ref m0), (3, .int x3), (4, .int x4)]) C dX11_readCondition_63 rfl (by decide) rfl ?_
  refine g_iload_n C dX11_readCondition_64 rfl 2 rfl ?_
  refine g_if_ne (tgt := 73) C dX11_readCondition_65 (by decide) (fun z13 => ?_) (fun z13 => ?_)
  · replace h := h.1 z13
    refine g_iconst (v := 1) C dX11_readCondition_73 (by decide) ?_
    refine g_goto (tgt := 78) C dX11_readCondition_74 (by decide) ?_
    refine g_istore_n (lv' := [(2, .int 1), (1, .int v12), (0, .ref m0), (3, .int x3), (4, .int x4)]) C dX11_readCondition_78 rfl (by decide) rfl ?_
    refine g_iload_n C dX11_readCondition_79 rfl 0 rfl ?_
    refine g_if_eq (tgt := 101) C dX11_readCondition_80 (by decide) (fun z => absurd z (by decide)) (fun _ => ?_)
    refine g_aload_n C dX11_readCondition_83 rfl 2 rfl ?_
    refine g_iload_n C dX11_readCondition_84 rfl 1 rfl ?_
    obtain ⟨g17, h⟩ := h
    refine gr_callvV C [.int v12] rfl (k_X11_readTest l D T m0 a v12 r q g17) (w0_V 1 C.2.2.2.2.1 kw_2070 kw_2072 ks_70 kw_9 kw_2073 rfl rfl (by decide +kernel) ⟨by decide, by decide⟩) rfl (Nat.le_of_ble_eq_true rfl) (Nat.zero_le _) (Nat.zero_le _) dX11_readCondition_85 (fun r15 q16 hp => ?_)
    replace h := h r15 q16 hp
    refine g_aload_n C dX11_readCondition_88 rfl 2 rfl ?_
    refine gr_get C iwx_X11 11 (hw kw_1820) (by decide) rfl rfl dX11_readCondition_89 ?_
    refine g_if_ne (tgt := 99) C dX11_readCondition_92 (by decide) (fun z18 => ?_) (fun z18 => ?_)
    · replace h := h.1 z18
      refine g_iconst (v := 0) C dX11_readCondition_99 (by decide) ?_
      refine g_istore_n (lv' := [(2, .int 0), (1, .int v12), (0, .ref m0), (3, .int x3), (4, .int x4)]) C dX11_readCondition_100 rfl (by decide) rfl ?_
      refine g_goto (tgt := 20) C dX11_readCondition_101 (by decide) ?_
      refine g_locals [2, 1, 0] rfl ?_
      exact hK20 v12 0 r15 q16 h
    · replace h := h.2 z18
      refine g_iconst (v := 1) C dX11_readCondition_95 (by decide) ?_
      refine g_goto (tgt := 100) C dX11_readCondition_96 (by decide) ?_
      refine g_istore_n (lv' := [(2, .int 1), (1, .int v12), (0, .ref m0), (3, .int x3), (4, .int x4)]) C dX11_readCondition_100 rfl (by decide) rfl ?_
      refine g_goto (tgt := 20) C dX11_readCondition_101 (by decide) ?_
      refine g_locals [2, 1, 0] rfl ?_
      exact hK20 v12 1 r15 q16 h
  · replace h := h.2 z13
    refine g_iload C dX11_readCondition_68 3 rfl ?_
    refine g_if_eq (tgt := 77) C dX11_readCondition_70 (by decide) (fun z19 => ?_) (fun z19 => ?_)
    · replace h := h.1 z19
      refine g_iconst (v := 0) C dX11_readCondition_77 (by decide) ?_
      refine g_istore_n (lv' := [(2, .int 0), (1, .int v12), (0, .ref m0), (3, .int x3), (4, .int x4)]) C dX11_readCondition_78 rfl (by decide) rfl ?_
      refine g_iload_n C dX11_readCondition_79 rfl 0 rfl ?_
      refine g_if_eq (tgt := 101) C dX11_readCondition_80 (by decide) (fun _ => ?_) (fun z => absurd z (by decide))
      refine g_goto (tgt := 20) C dX11_readCondition_101 (by decide) ?_
      refine g_locals [2, 1, 0] rfl ?_
      exact hK20 v12 0 r q h
    · replace h := h.2 z19
      refine g_iconst (v := 1) C dX11_readCondition_73 (by decide) ?_
      refine g_goto (tgt := 78) C dX11_readCondition_74 (by decide) ?_
      refine g_istore_n (lv' := [(2, .int 1), (1, .int v12), (0, .ref m0), (3, .int x3), (4, .int x4)]) C dX11_readCondition_78 rfl (by decide) rfl ?_
      refine g_iload_n C dX11_readCondition_79 rfl 0 rfl ?_
      refine g_if_eq (tgt := 101) C dX11_readCondition_80 (by decide) (fun z => absurd z (by decide)) (fun _ => ?_)
      refine g_aload_n C dX11_readCondition_83 rfl 2 rfl ?_
      refine g_iload_n C dX11_readCondition_84 rfl 1 rfl ?_
      obtain ⟨g23, h⟩ := h
      refine gr_callvV C [.int v12] rfl (k_X11_readTest l D T m0 a v12 r q g23) (w0_V 1 C.2.2.2.2.1 kw_2070 kw_2072 ks_70 kw_9 kw_2073 rfl rfl (by decide +kernel) ⟨by decide, by decide⟩) rfl (Nat.le_of_ble_eq_true rfl) (Nat.zero_le _) (Nat.zero_le _) dX11_readCondition_85 (fun r21 q22 hp => ?_)
      replace h := h r21 q22 hp
      refine g_aload_n C dX11_readCondition_88 rfl 2 rfl ?_
      refine gr_get C iwx_X11 11 (hw kw_1820) (by decide) rfl rfl dX11_readCondition_89 ?_
      refine g_if_ne (tgt := 99) C dX11_readCondition_92 (by decide) (fun z24 => ?_) (fun z24 => ?_)
      · replace h := h.1 z24
        refine g_iconst (v := 0) C dX11_readCondition_99 (by decide) ?_
        refine g_istore_n (lv' := [(2, .int 0), (1, .int v12), (0, .ref m0), (3, .int x3), (4, .int x4)]) C dX11_readCondition_100 rfl (by decide) rfl ?_
        refine g_goto (tgt := 20) C dX11_readCondition_101 (by decide) ?_
        refine g_locals [2, 1, 0] rfl ?_
        exact hK20 v12 0 r21 q22 h
      · replace h := h.2 z24
        refine g_iconst (v := 1) C dX11_readCondition_95 (by decide) ?_
        refine g_goto (tgt := 100) C dX11_readCondition_96 (by decide) ?_
        refine g_istore_n (lv' := [(2, .int 1), (1, .int v12), (0, .ref m0), (3, .int x3), (4, .int x4)]) C dX11_readCondition_100 rfl (by decide) rfl ?_
        refine g_goto (tgt := 20) C dX11_readCondition_101 (by decide) ?_
        refine g_locals [2, 1, 0] rfl ?_
        exact hK20 v12 1 r21 q22 h
def wb_X11_readCondition_20 (rec : Int32 → Int32 → (Nat → Int32) → (Nat → Nat → Int32) → Prop) (P : Int32 → RST → Prop) (x1 : Int32) (x2 : Int32) (r : Nat → Int32) (q : Nat → Nat → Int32) : Prop := (x2 = 0 → (P (x1 + 1) (r, q))) ∧ (¬ x2 = 0 → ((psO r ∧ ¬ 38 = (-1 : Int32)) ∧ (∀ (v7 : Int32) (r8 : Nat → Int32) (q9 : Nat → Nat → Int32), (v7 = b2i (tkB (q 4) (iv (r 8)) (pσ r) 38) ∧ q9 = q ∧ kR r r8 [10] ∧ psO r8 ∧ pσ r8 = tkS (q 4) (iv (r 8)) (pσ r) 38) → ((¬ v7 = 0 → (wp_X11_readCondition_62 (fun (y25 : Int32) (y26 : Int32) (r27 : Nat → Int32) (q28 : Nat → Nat → Int32) => rec y25 y26 r27 q28) P v7 0 0 x1 r8 q9)) ∧ (v7 = 0 → ((psO r8 ∧ ¬ 124 = (-1 : Int32)) ∧ (∀ (v29 : Int32) (r30 : Nat → Int32) (q31 : Nat → Nat → Int32), (v29 = b2i (tkB (q9 4) (iv (r8 8)) (pσ r8) 124) ∧ q31 = q9 ∧ kR r8 r30 [10] ∧ psO r30 ∧ pσ r30 = tkS (q9 4) (iv (r8 8)) (pσ r8) 124) → ((v29 = 0 → (wp_X11_readCondition_62 (fun (y34 : Int32) (y35 : Int32) (r36 : Nat → Int32) (q37 : Nat → Nat → Int32) => rec y34 y35 r36 q37) P v7 0 0 x1 r30 q31)) ∧ (¬ v29 = 0 → (wp_X11_readCondition_62 (fun (y38 : Int32) (y39 : Int32) (r40 : Nat → Int32) (q41 : Nat → Nat → Int32) => rec y38 y39 r40 q41) P v7 1 1 x1 r30 q31))))))))))
def wp_X11_readCondition_20 (P : Int32 → RST → Prop) : Nat → Int32 → Int32 → (Nat → Int32) → (Nat → Nat → Int32) → Prop
  | 0 => fun _ _ _ _ => False
  | n + 1 => fun x1 x2 r q => wb_X11_readCondition_20 (wp_X11_readCondition_20  P n)  P x1 x2 r q
set_option maxRecDepth 100000 in
set_option maxHeartbeats 4000000 in
theorem t_X11_readCondition_20 {p : Program} {l : Launch} {e : Env} {s : State} {m : MethodId} {args : Array Value} {below : List Frame} {meth : Method} {c : Code} {D : va_G} {A : Nat → Prop} {T : Nat → ClassId} {m0 : Nat} {a : Nat → Nat} (C : GC p s m args meth c cX11_readCondition "FreightRaterModel" (ws_X11_readCondition) 5 D A (zty T)) (hr : meth.sig.returnType = (some .int)) (P : Int32 → RST → Prop) : ∀ (n : Nat) (x1 : Int32) (x2 : Int32) (r : Nat → Int32) (q : Nat → Nat → Int32), wp_X11_readCondition_20  P n x1 x2 r q → GW p l e rm_X11_readCondition s m args below meth c D A 5 0 0 (MQ below (va_Qi P (RE D T m0 a A) A) args s 0 0 A) (RW m0 a T r q) 0 0 20 [(0, .ref m0), (1, .int x1), (2, .int x2)] [] := by
  have hw : ∀ {w : Cond}, w ∈ W0 → w.before args s = true := fun h => C.2.2.2.2.1 _ (List.mem_cons_of_mem _ h)
  intro n
  induction n with
  | zero => intro x1 x2 r q h; exact h.elim
  | succ n ih =>
    intro x1 x2 r q h
    replace h : wb_X11_readCondition_20 (wp_X11_readCondition_20  P n)  P x1 x2 r q := h
    unfold wb_X11_readCondition_20 at h
    refine g_iload_n C dX11_readCondition_20 rfl 2 rfl ?_
    refine g_if_eq (tgt := 104) C dX11_readCondition_21 (by decide) (fun z6 => ?_) (fun z6 => ?_)
    · replace h := h.1 z6
      refine g_iload_n C dX11_readCondition_104 rfl 1 rfl ?_
      refine g_iconst (v := 1) C dX11_readCondition_105 (by decide) ?_
      refine g_iadd C dX11_readCondition_106 ?_
      exact gr_iret C hr dX11_readCondition_107 h
    · replace h := h.2 z6
      refine g_aload_n C dX11_readCondition_24 rfl 0 rfl ?_
      refine g_bipush (v := 38) C dX11_readCondition_25 (by decide) ?_
      obtain ⟨g10, h⟩ := h
      refine gr_calliV C [.int 38] rfl (k_X11_takes l D T m0 a 38 r q g10) (w0_V 1 C.2.2.2.2.1 kw_2054 kw_2056 ks_66 kw_9 kw_2057 rfl rfl (by decide +kernel) ⟨by decide, by decide⟩) rfl (Nat.le_of_ble_eq_true rfl) (Nat.zero_le _) (Nat.zero_le _) dX11_readCondition_27 (fun v7 r8 q9 hp => ?_)
      replace h := h v7 r8 q9 hp
      refine g_istore_n (lv' := [(3, .int v7), (0, .ref m0), (1, .int x1), (2, .int x2)]) C dX11_readCondition_30 rfl (by decide) rfl ?_
      refine g_iload_n C dX11_readCondition_31 rfl 0 rfl ?_
      refine g_if_ne (tgt := 48) C dX11_readCondition_32 (by decide) (fun z11 => ?_) (fun z11 => ?_)
      · replace h := h.1 z11
        refine g_iconst (v := 0) C dX11_readCondition_48 (by decide) ?_
        refine g_istore (lv' := [(4, .int 0), (3, .int v7), (0, .ref m0), (1, .int x1), (2, .int x2)]) C dX11_readCondition_49 (by decide) rfl ?_
        refine g_iload_n C dX11_readCondition_51 rfl 3 rfl ?_
        refine g_iload C dX11_readCondition_52 0 rfl ?_
        refine g_if_eq (tgt := 61) C dX11_readCondition_54 (by decide) (fun _ => ?_) (fun z => absurd z (by decide))
        refine g_iconst (v := 0) C dX11_readCondition_61 (by decide) ?_
        refine g_locals [2, 1, 0] rfl ?_
        refine t_X11_readCondition_62 C hr _ P ?_ v7 0 0 x1 r8 q9 h
        · intro y25 y26 r27 q28 h
          refine g_locals [0, 1, 2] rfl ?_
          exact ih y25 y26 r27 q28 h
      · replace h := h.2 z11
        refine g_aload_n C dX11_readCondition_35 rfl 1 rfl ?_
        refine g_bipush (v := 124) C dX11_readCondition_36 (by decide) ?_
        obtain ⟨g32, h⟩ := h
        refine gr_calliV C [.int 124] rfl (k_X11_takes l D T m0 a 124 r8 q9 g32) (w0_V 1 C.2.2.2.2.1 kw_2054 kw_2056 ks_66 kw_9 kw_2057 rfl rfl (by decide +kernel) ⟨by decide, by decide⟩) rfl (Nat.le_of_ble_eq_true rfl) (Nat.zero_le _) (Nat.zero_le _) dX11_readCondition_38 (fun v29 r30 q31 hp => ?_)
        replace h := h v29 r30 q31 hp
        refine g_if_eq (tgt := 48) C dX11_readCondition_41 (by decide) (fun z33 => ?_) (fun z33 => ?_)
        · replace h := h.1 z33
          refine g_iconst (v := 0) C dX11_readCondition_48 (by decide) ?_
          refine g_istore (lv' := [(4, .int 0), (3, .int v7), (0, .ref m0), (1, .int x1), (2, .int x2)]) C dX11_readCondition_49 (by decide) rfl ?_
          refine g_iload_n C dX11_readCondition_51 rfl 3 rfl ?_
          refine g_iload C dX11_readCondition_52 0 rfl ?_
          refine g_if_eq (tgt := 61) C dX11_readCondition_54 (by decide) (fun _ => ?_) (fun z => absurd z (by decide))
          refine g_iconst (v := 0) C dX11_readCondition_61 (by decide) ?_
          refine g_locals [2, 1, 0] rfl ?_
          refine t_X11_readCondition_62 C hr _ P ?_ v7 0 0 x1 r30 q31 h
          · intro y34 y35 r36 q37 h
            refine g_locals [0, 1, 2] rfl ?_
            exact ih y34 y35 r36 q37 h
        · replace h := h.2 z33
          refine g_iconst (v := 1) C dX11_readCondition_44 (by decide) ?_
          refine g_goto (tgt := 49) C dX11_readCondition_45 (by decide) ?_
          refine g_istore (lv' := [(4, .int 1), (3, .int v7), (0, .ref m0), (1, .int x1), (2, .int x2)]) C dX11_readCondition_49 (by decide) rfl ?_
          refine g_iload_n C dX11_readCondition_51 rfl 3 rfl ?_
          refine g_iload C dX11_readCondition_52 0 rfl ?_
          refine g_if_eq (tgt := 61) C dX11_readCondition_54 (by decide) (fun z => absurd z (by decide)) (fun _ => ?_)
          refine g_iconst (v := 1) C dX11_readCondition_57 (by decide) ?_
          refine g_goto (tgt := 62) C dX11_readCondition_58 (by decide) ?_
          refine g_locals [2, 1, 0] rfl ?_
          refine t_X11_readCondition_62 C hr _ P ?_ v7 1 1 x1 r30 q31 h
          · intro y38 y39 r40 q41 h
            refine g_locals [0, 1, 2] rfl ?_
            exact ih y38 y39 r40 q41 h
def wp_X11_readCondition (P : Int32 → RST → Prop)  (r : Nat → Int32) (q : Nat → Nat → Int32) : Prop := (psO r ∧ tsO r) ∧ (∀ (r2 : Nat → Int32) (q3 : Nat → Nat → Int32), (tsP r q 0 r2 q3) → ((¬ (r2 11) = 0 → (∃ k42 : Nat, wp_X11_readCondition_20  P k42 0 0 r2 q3)) ∧ ((r2 11) = 0 → (∃ k43 : Nat, wp_X11_readCondition_20  P k43 0 1 r2 q3))))
set_option maxRecDepth 100000 in
set_option maxHeartbeats 4000000 in
theorem t_X11_readCondition {p : Program} {l : Launch} {e : Env} {s : State} {m : MethodId} {args : Array Value} {below : List Frame} {meth : Method} {c : Code} {D : va_G} {A : Nat → Prop} {T : Nat → ClassId} {m0 : Nat} {a : Nat → Nat} (C : GC p s m args meth c cX11_readCondition "FreightRaterModel" (ws_X11_readCondition) 5 D A (zty T)) (hr : meth.sig.returnType = (some .int)) (P : Int32 → RST → Prop) : ∀  (r : Nat → Int32) (q : Nat → Nat → Int32), wp_X11_readCondition P  r q → GW p l e rm_X11_readCondition s m args below meth c D A 5 0 0 (MQ below (va_Qi P (RE D T m0 a A) A) args s 0 0 A) (RW m0 a T r q) 0 0 0 [(0, .ref m0)] [] := by
  have hw : ∀ {w : Cond}, w ∈ W0 → w.before args s = true := fun h => C.2.2.2.2.1 _ (List.mem_cons_of_mem _ h)
  intro  r q h
  unfold wp_X11_readCondition at h
  refine g_iconst (v := 0) C dX11_readCondition_0 (by decide) ?_
  refine g_istore_n (lv' := [(1, .int 0), (0, .ref m0)]) C dX11_readCondition_1 rfl (by decide) rfl ?_
  refine g_aload_n C dX11_readCondition_2 rfl 1 rfl ?_
  refine g_iload_n C dX11_readCondition_3 rfl 0 rfl ?_
  obtain ⟨g4, h⟩ := h
  refine gr_callvV C [.int 0] rfl (k_X11_readTest l D T m0 a 0 r q g4) (w0_V 1 C.2.2.2.2.1 kw_2070 kw_2072 ks_70 kw_9 kw_2073 rfl rfl (by decide +kernel) ⟨by decide, by decide⟩) rfl (Nat.le_of_ble_eq_true rfl) (Nat.zero_le _) (Nat.zero_le _) dX11_readCondition_4 (fun r2 q3 hp => ?_)
  replace h := h r2 q3 hp
  refine g_aload_n C dX11_readCondition_7 rfl 1 rfl ?_
  refine gr_get C iwx_X11 11 (hw kw_1820) (by decide) rfl rfl dX11_readCondition_8 ?_
  refine g_if_ne (tgt := 18) C dX11_readCondition_11 (by decide) (fun z5 => ?_) (fun z5 => ?_)
  · replace h := h.1 z5
    refine g_iconst (v := 0) C dX11_readCondition_18 (by decide) ?_
    refine g_istore_n (lv' := [(2, .int 0), (1, .int 0), (0, .ref m0)]) C dX11_readCondition_19 rfl (by decide) rfl ?_
    refine g_locals [2, 1, 0] rfl ?_
    obtain ⟨k42, h⟩ := h
    refine t_X11_readCondition_20 C hr  P  k42 0 0 r2 q3 h
  · replace h := h.2 z5
    refine g_iconst (v := 1) C dX11_readCondition_14 (by decide) ?_
    refine g_goto (tgt := 19) C dX11_readCondition_15 (by decide) ?_
    refine g_istore_n (lv' := [(2, .int 1), (1, .int 0), (0, .ref m0)]) C dX11_readCondition_19 rfl (by decide) rfl ?_
    refine g_locals [2, 1, 0] rfl ?_
    obtain ⟨k43, h⟩ := h
    refine t_X11_readCondition_20 C hr  P  k43 0 1 r2 q3 h
theorem c_X11_readCondition (l : Launch) (D : va_G) (T : Nat → ClassId) (m0 : Nat) (a : Nat → Nat)  (r : Nat → Int32) (q : Nat → Nat → Int32) (P : Int32 → RST → Prop) (h : wp_X11_readCondition P  r q) : RMi l yX11_readCondition (ws_X11_readCondition) rm_X11_readCondition D T m0 a [.ref m0] r q P := gr_meti (by decide) rfl rfl (Nat.le_of_ble_eq_true rfl) (fun p e s m args below meth c A C hr => t_X11_readCondition C hr P  r q h)
def wp_X11_readExtra_78 (P : RST → Prop) (x1 : Int32) (s0 : Int32) (s1 : Int32) (r : Nat → Int32) (q : Nat → Nat → Int32) : Prop := vp_in s1 640 ∧ (∀ q29 : Nat → Nat → Int32, q29 = va_up q 5 (upd (q 5) (Int32.toNatClampNeg s1) s0) → (vp_in (x1 + 4) 640 ∧ (∀ q31 : Nat → Nat → Int32, q31 = va_up q29 5 (upd (q29 5) (Int32.toNatClampNeg (x1 + 4)) (r 15)) → ((psO r ∧ ¬ 63 = (-1 : Int32)) ∧ (∀ (v32 : Int32) (r33 : Nat → Int32) (q34 : Nat → Nat → Int32), (v32 = b2i (tkB (q31 4) (iv (r 8)) (pσ r) 63) ∧ q34 = q31 ∧ kR r r33 [10] ∧ psO r33 ∧ pσ r33 = tkS (q31 4) (iv (r 8)) (pσ r) 63) → ((v32 = 0 → (vp_in (x1 + 5) 640 ∧ (∀ q38 : Nat → Nat → Int32, q38 = va_up q34 5 (upd (q34 5) (Int32.toNatClampNeg (x1 + 5)) 0) → (vp_in (x1 + 6) 640 ∧ (∀ q40 : Nat → Nat → Int32, q40 = va_up q38 5 (upd (q38 5) (Int32.toNatClampNeg (x1 + 6)) (r33 15)) → ((psO r33 ∧ ¬ 33 = (-1 : Int32)) ∧ (∀ (v41 : Int32) (r42 : Nat → Int32) (q43 : Nat → Nat → Int32), (v41 = b2i (tkB (q40 4) (iv (r33 8)) (pσ r33) 33) ∧ q43 = q40 ∧ kR r33 r42 [10] ∧ psO r42 ∧ pσ r42 = tkS (q40 4) (iv (r33 8)) (pσ r33) 33) → ((v41 = 0 → (vp_in (x1 + 7) 640 ∧ (∀ q47 : Nat → Nat → Int32, q47 = va_up q43 5 (upd (q43 5) (Int32.toNatClampNeg (x1 + 7)) (-1)) → (P (r42, q47))))) ∧ (¬ v41 = 0 → ((psO r42 ∧ dix 0 9) ∧ (∀ (v48 : Int32) (r49 : Nat → Int32) (q50 : Nat → Nat → Int32), (v48 = dgV (q43 4) (iv (r42 8)) (pσ r42) 0 9 ∧ q50 = q43 ∧ kR r42 r49 [10, 11] ∧ psO r49 ∧ pσ r49 = dgS (q43 4) (iv (r42 8)) (pσ r42) 0 9) → (vp_in (x1 + 7) 640 ∧ (∀ q53 : Nat → Nat → Int32, q53 = va_up q50 5 (upd (q50 5) (Int32.toNatClampNeg (x1 + 7)) v48) → (P (r49, q53))))))))))))))) ∧ (¬ v32 = 0 → ((psO r33 ∧ tsO r33) ∧ (∀ (v54 : Int32) (r55 : Nat → Int32) (q56 : Nat → Nat → Int32), (cnQ (cnF (q34 4) (iv (r33 8)) (pσ r33)) r33 q34 v54 r55 q56) → (vp_in (x1 + 5) 640 ∧ (∀ q59 : Nat → Nat → Int32, q59 = va_up q56 5 (upd (q56 5) (Int32.toNatClampNeg (x1 + 5)) v54) → (vp_in (x1 + 6) 640 ∧ (∀ q61 : Nat → Nat → Int32, q61 = va_up q59 5 (upd (q59 5) (Int32.toNatClampNeg (x1 + 6)) (r55 15)) → ((psO r55 ∧ ¬ 33 = (-1 : Int32)) ∧ (∀ (v62 : Int32) (r63 : Nat → Int32) (q64 : Nat → Nat → Int32), (v62 = b2i (tkB (q61 4) (iv (r55 8)) (pσ r55) 33) ∧ q64 = q61 ∧ kR r55 r63 [10] ∧ psO r63 ∧ pσ r63 = tkS (q61 4) (iv (r55 8)) (pσ r55) 33) → ((v62 = 0 → (vp_in (x1 + 7) 640 ∧ (∀ q68 : Nat → Nat → Int32, q68 = va_up q64 5 (upd (q64 5) (Int32.toNatClampNeg (x1 + 7)) (-1)) → (P (r63, q68))))) ∧ (¬ v62 = 0 → ((psO r63 ∧ dix 0 9) ∧ (∀ (v69 : Int32) (r70 : Nat → Int32) (q71 : Nat → Nat → Int32), (v69 = dgV (q64 4) (iv (r63 8)) (pσ r63) 0 9 ∧ q71 = q64 ∧ kR r63 r70 [10, 11] ∧ psO r70 ∧ pσ r70 = dgS (q64 4) (iv (r63 8)) (pσ r63) 0 9) → (vp_in (x1 + 7) 640 ∧ (∀ q74 : Nat → Nat → Int32, q74 = va_up q71 5 (upd (q71 5) (Int32.toNatClampNeg (x1 + 7)) v69) → (P (r70, q74)))))))))))))))))))))))
set_option maxRecDepth 100000 in
set_option maxHeartbeats 4000000 in
theorem t_X11_readExtra_78 {p : Program} {l : Launch} {e : Env} {s : State} {m : MethodId} {args : Array Value} {below : List Frame} {meth : Method} {c : Code} {D : va_G} {A : Nat → Prop} {T : Nat → ClassId} {m0 : Nat} {a : Nat → Nat} (C : GC p s m args meth c cX11_readExtra "FreightRaterModel" (ws_X11_readExtra) 2 D A (zty T)) (hr : meth.sig.returnType = none) (P : RST → Prop) : ∀ (x1 : Int32) (s0 : Int32) (s1 : Int32) (r : Nat → Int32) (q : Nat → Nat → Int32), wp_X11_readExtra_78  P x1 s0 s1 r q → GW p l e rm_X11_readExtra s m args below meth c D A 2 0 0 (MQ below (va_Qv P (RE D T m0 a A) A) args s 0 0 A) (RW m0 a T r q) 0 0 78 [(0, .ref m0), (1, .int x1)] [.int s0, .int s1, .ref (a 5)] := by
  have hw : ∀ {w : Cond}, w ∈ W0 → w.before args s = true := fun h => C.2.2.2.2.1 _ (List.mem_cons_of_mem _ h)
  intro x1 s0 s1 r q h
  unfold wp_X11_readExtra_78 at h
  obtain ⟨g28, h⟩ := h
  refine gr_ast_5 C g28 dX11_readExtra_78 ?_
  refine gr_nq (fun q29 eq29 => ?_)
  replace h := h q29 eq29
  refine g_aload_n C dX11_readExtra_79 rfl 0 rfl ?_
  refine gr_get C iwx_X11 14 (hw kw_1823) (by decide) rfl rfl dX11_readExtra_80 ?_
  refine g_iload_n C dX11_readExtra_83 rfl 1 rfl ?_
  refine g_iconst (v := 4) C dX11_readExtra_84 (by decide) ?_
  refine g_iadd C dX11_readExtra_85 ?_
  refine g_aload_n C dX11_readExtra_86 rfl 0 rfl ?_
  refine gr_get C iwx_X11 15 (hw kw_1824) (by decide) rfl rfl dX11_readExtra_87 ?_
  obtain ⟨g30, h⟩ := h
  refine gr_ast_5 C g30 dX11_readExtra_90 ?_
  refine gr_nq (fun q31 eq31 => ?_)
  replace h := h q31 eq31
  refine g_aload_n C dX11_readExtra_91 rfl 0 rfl ?_
  refine gr_get C iwx_X11 14 (hw kw_1823) (by decide) rfl rfl dX11_readExtra_92 ?_
  refine g_iload_n C dX11_readExtra_95 rfl 1 rfl ?_
  refine g_iconst (v := 5) C dX11_readExtra_96 (by decide) ?_
  refine g_iadd C dX11_readExtra_97 ?_
  refine g_aload_n C dX11_readExtra_98 rfl 0 rfl ?_
  refine g_bipush (v := 63) C dX11_readExtra_99 (by decide) ?_
  obtain ⟨g35, h⟩ := h
  refine gr_calliV C [.int 63] rfl (k_X11_takes l D T m0 a 63 r q31 g35) (w0_V 1 C.2.2.2.2.1 kw_2054 kw_2056 ks_66 kw_9 kw_2057 rfl rfl (by decide +kernel) ⟨by decide, by decide⟩) rfl (Nat.le_of_ble_eq_true rfl) (Nat.zero_le _) (Nat.zero_le _) dX11_readExtra_101 (fun v32 r33 q34 hp => ?_)
  replace h := h v32 r33 q34 hp
  refine g_if_eq (tgt := 114) C dX11_readExtra_104 (by decide) (fun z36 => ?_) (fun z36 => ?_)
  · replace h := h.1 z36
    refine g_iconst (v := 0) C dX11_readExtra_114 (by decide) ?_
    obtain ⟨g37, h⟩ := h
    refine gr_ast_5 C g37 dX11_readExtra_115 ?_
    refine gr_nq (fun q38 eq38 => ?_)
    replace h := h q38 eq38
    refine g_aload_n C dX11_readExtra_116 rfl 0 rfl ?_
    refine gr_get C iwx_X11 14 (hw kw_1823) (by decide) rfl rfl dX11_readExtra_117 ?_
    refine g_iload_n C dX11_readExtra_120 rfl 1 rfl ?_
    refine g_bipush (v := 6) C dX11_readExtra_121 (by decide) ?_
    refine g_iadd C dX11_readExtra_123 ?_
    refine g_aload_n C dX11_readExtra_124 rfl 0 rfl ?_
    refine gr_get C iwx_X11 15 (hw kw_1824) (by decide) rfl rfl dX11_readExtra_125 ?_
    obtain ⟨g39, h⟩ := h
    refine gr_ast_5 C g39 dX11_readExtra_128 ?_
    refine gr_nq (fun q40 eq40 => ?_)
    replace h := h q40 eq40
    refine g_aload_n C dX11_readExtra_129 rfl 0 rfl ?_
    refine gr_get C iwx_X11 14 (hw kw_1823) (by decide) rfl rfl dX11_readExtra_130 ?_
    refine g_iload_n C dX11_readExtra_133 rfl 1 rfl ?_
    refine g_bipush (v := 7) C dX11_readExtra_134 (by decide) ?_
    refine g_iadd C dX11_readExtra_136 ?_
    refine g_aload_n C dX11_readExtra_137 rfl 0 rfl ?_
    refine g_bipush (v := 33) C dX11_readExtra_138 (by decide) ?_
    obtain ⟨g44, h⟩ := h
    refine gr_calliV C [.int 33] rfl (k_X11_takes l D T m0 a 33 r33 q40 g44) (w0_V 1 C.2.2.2.2.1 kw_2054 kw_2056 ks_66 kw_9 kw_2057 rfl rfl (by decide +kernel) ⟨by decide, by decide⟩) rfl (Nat.le_of_ble_eq_true rfl) (Nat.zero_le _) (Nat.zero_le _) dX11_readExtra_140 (fun v41 r42 q43 hp => ?_)
    replace h := h v41 r42 q43 hp
    refine g_if_eq (tgt := 156) C dX11_readExtra_143 (by decide) (fun z45 => ?_) (fun z45 => ?_)
    · replace h := h.1 z45
      refine g_iconst (v := -1) C dX11_readExtra_156 (by decide) ?_
      obtain ⟨g46, h⟩ := h
      refine gr_ast_5 C g46 dX11_readExtra_157 ?_
      refine gr_nq (fun q47 eq47 => ?_)
      replace h := h q47 eq47
      exact gr_vret C hr dX11_readExtra_158 h
    · replace h := h.2 z45
      refine g_aload_n C dX11_readExtra_146 rfl 0 rfl ?_
      refine g_iconst (v := 0) C dX11_readExtra_147 (by decide) ?_
      refine g_bipush (v := 9) C dX11_readExtra_148 (by decide) ?_
      obtain ⟨g51, h⟩ := h
      refine gr_calliV C [.int 0, .int 9] rfl (k_X11_digit l D T m0 a 0 9 r42 q43 g51) (w0_V 2 C.2.2.2.2.1 kw_2046 kw_2048 ks_64 kw_9 kw_2049 rfl rfl (by decide +kernel) ⟨by decide, by decide⟩) rfl (Nat.le_of_ble_eq_true rfl) (Nat.zero_le _) (Nat.zero_le _) dX11_readExtra_150 (fun v48 r49 q50 hp => ?_)
      replace h := h v48 r49 q50 hp
      refine g_goto (tgt := 157) C dX11_readExtra_153 (by decide) ?_
      obtain ⟨g52, h⟩ := h
      refine gr_ast_5 C g52 dX11_readExtra_157 ?_
      refine gr_nq (fun q53 eq53 => ?_)
      replace h := h q53 eq53
      exact gr_vret C hr dX11_readExtra_158 h
  · replace h := h.2 z36
    refine g_aload_n C dX11_readExtra_107 rfl 0 rfl ?_
    obtain ⟨g57, h⟩ := h
    refine gr_calliV C [] rfl (k_X11_readCondition l D T m0 a  r33 q34 g57) (w0_V 0 C.2.2.2.2.1 kw_2066 kw_2068 ks_69 kw_9 kw_2069 rfl rfl (by decide +kernel) ⟨by decide, by decide⟩) rfl (Nat.le_of_ble_eq_true rfl) (Nat.zero_le _) (Nat.zero_le _) dX11_readExtra_108 (fun v54 r55 q56 hp => ?_)
    replace h := h v54 r55 q56 hp
    refine g_goto (tgt := 115) C dX11_readExtra_111 (by decide) ?_
    obtain ⟨g58, h⟩ := h
    refine gr_ast_5 C g58 dX11_readExtra_115 ?_
    refine gr_nq (fun q59 eq59 => ?_)
    replace h := h q59 eq59
    refine g_aload_n C dX11_readExtra_116 rfl 0 rfl ?_
    refine gr_get C iwx_X11 14 (hw kw_1823) (by decide) rfl rfl dX11_readExtra_117 ?_
    refine g_iload_n C dX11_readExtra_120 rfl 1 rfl ?_
    refine g_bipush (v := 6) C dX11_readExtra_121 (by decide) ?_
    refine g_iadd C dX11_readExtra_123 ?_
    refine g_aload_n C dX11_readExtra_124 rfl 0 rfl ?_
    refine gr_get C iwx_X11 15 (hw kw_1824) (by decide) rfl rfl dX11_readExtra_125 ?_
    obtain ⟨g60, h⟩ := h
    refine gr_ast_5 C g60 dX11_readExtra_128 ?_
    refine gr_nq (fun q61 eq61 => ?_)
    replace h := h q61 eq61
    refine g_aload_n C dX11_readExtra_129 rfl 0 rfl ?_
    refine gr_get C iwx_X11 14 (hw kw_1823) (by decide) rfl rfl dX11_readExtra_130 ?_
    refine g_iload_n C dX11_readExtra_133 rfl 1 rfl ?_
    refine g_bipush (v := 7) C dX11_readExtra_134 (by decide) ?_
    refine g_iadd C dX11_readExtra_136 ?_
    refine g_aload_n C dX11_readExtra_137 rfl 0 rfl ?_
    refine g_bipush (v := 33) C dX11_readExtra_138 (by decide) ?_
    obtain ⟨g65, h⟩ := h
    refine gr_calliV C [.int 33] rfl (k_X11_takes l D T m0 a 33 r55 q61 g65) (w0_V 1 C.2.2.2.2.1 kw_2054 kw_2056 ks_66 kw_9 kw_2057 rfl rfl (by decide +kernel) ⟨by decide, by decide⟩) rfl (Nat.le_of_ble_eq_true rfl) (Nat.zero_le _) (Nat.zero_le _) dX11_readExtra_140 (fun v62 r63 q64 hp => ?_)
    replace h := h v62 r63 q64 hp
    refine g_if_eq (tgt := 156) C dX11_readExtra_143 (by decide) (fun z66 => ?_) (fun z66 => ?_)
    · replace h := h.1 z66
      refine g_iconst (v := -1) C dX11_readExtra_156 (by decide) ?_
      obtain ⟨g67, h⟩ := h
      refine gr_ast_5 C g67 dX11_readExtra_157 ?_
      refine gr_nq (fun q68 eq68 => ?_)
      replace h := h q68 eq68
      exact gr_vret C hr dX11_readExtra_158 h
    · replace h := h.2 z66
      refine g_aload_n C dX11_readExtra_146 rfl 0 rfl ?_
      refine g_iconst (v := 0) C dX11_readExtra_147 (by decide) ?_
      refine g_bipush (v := 9) C dX11_readExtra_148 (by decide) ?_
      obtain ⟨g72, h⟩ := h
      refine gr_calliV C [.int 0, .int 9] rfl (k_X11_digit l D T m0 a 0 9 r63 q64 g72) (w0_V 2 C.2.2.2.2.1 kw_2046 kw_2048 ks_64 kw_9 kw_2049 rfl rfl (by decide +kernel) ⟨by decide, by decide⟩) rfl (Nat.le_of_ble_eq_true rfl) (Nat.zero_le _) (Nat.zero_le _) dX11_readExtra_150 (fun v69 r70 q71 hp => ?_)
      replace h := h v69 r70 q71 hp
      refine g_goto (tgt := 157) C dX11_readExtra_153 (by decide) ?_
      obtain ⟨g73, h⟩ := h
      refine gr_ast_5 C g73 dX11_readExtra_157 ?_
      refine gr_nq (fun q74 eq74 => ?_)
      replace h := h q74 eq74
      exact gr_vret C hr dX11_readExtra_158 h
def wp_X11_readExtra_43 (P : RST → Prop) (x1 : Int32) (s0 : Int32) (s1 : Int32) (r : Nat → Int32) (q : Nat → Nat → Int32) : Prop := vp_in s1 640 ∧ (∀ q17 : Nat → Nat → Int32, q17 = va_up q 5 (upd (q 5) (Int32.toNatClampNeg s1) s0) → ((psO r ∧ ¬ 37 = (-1 : Int32)) ∧ (∀ (v18 : Int32) (r19 : Nat → Int32) (q20 : Nat → Nat → Int32), (v18 = b2i (tkB (q17 4) (iv (r 8)) (pσ r) 37) ∧ q20 = q17 ∧ kR r r19 [10] ∧ psO r19 ∧ pσ r19 = tkS (q17 4) (iv (r 8)) (pσ r) 37) → ((v18 = 0 → ((psO r19 ∧ ¬ 42 = (-1 : Int32)) ∧ (∀ (v23 : Int32) (r24 : Nat → Int32) (q25 : Nat → Nat → Int32), (v23 = b2i (tkB (q20 4) (iv (r19 8)) (pσ r19) 42) ∧ q25 = q20 ∧ kR r19 r24 [10] ∧ psO r24 ∧ pσ r24 = tkS (q20 4) (iv (r19 8)) (pσ r19) 42) → ((v23 = 0 → (wp_X11_readExtra_78  P x1 0 (x1 + 3) r24 q25)) ∧ (¬ v23 = 0 → (wp_X11_readExtra_78  P x1 1 (x1 + 3) r24 q25)))))) ∧ (¬ v18 = 0 → (wp_X11_readExtra_78  P x1 2 (x1 + 3) r19 q20))))))
set_option maxRecDepth 100000 in
set_option maxHeartbeats 4000000 in
theorem t_X11_readExtra_43 {p : Program} {l : Launch} {e : Env} {s : State} {m : MethodId} {args : Array Value} {below : List Frame} {meth : Method} {c : Code} {D : va_G} {A : Nat → Prop} {T : Nat → ClassId} {m0 : Nat} {a : Nat → Nat} (C : GC p s m args meth c cX11_readExtra "FreightRaterModel" (ws_X11_readExtra) 2 D A (zty T)) (hr : meth.sig.returnType = none) (P : RST → Prop) : ∀ (x1 : Int32) (s0 : Int32) (s1 : Int32) (r : Nat → Int32) (q : Nat → Nat → Int32), wp_X11_readExtra_43  P x1 s0 s1 r q → GW p l e rm_X11_readExtra s m args below meth c D A 2 0 0 (MQ below (va_Qv P (RE D T m0 a A) A) args s 0 0 A) (RW m0 a T r q) 0 0 43 [(0, .ref m0), (1, .int x1)] [.int s0, .int s1, .ref (a 5)] := by
  have hw : ∀ {w : Cond}, w ∈ W0 → w.before args s = true := fun h => C.2.2.2.2.1 _ (List.mem_cons_of_mem _ h)
  intro x1 s0 s1 r q h
  unfold wp_X11_readExtra_43 at h
  obtain ⟨g16, h⟩ := h
  refine gr_ast_5 C g16 dX11_readExtra_43 ?_
  refine gr_nq (fun q17 eq17 => ?_)
  replace h := h q17 eq17
  refine g_aload_n C dX11_readExtra_44 rfl 0 rfl ?_
  refine gr_get C iwx_X11 14 (hw kw_1823) (by decide) rfl rfl dX11_readExtra_45 ?_
  refine g_iload_n C dX11_readExtra_48 rfl 1 rfl ?_
  refine g_iconst (v := 3) C dX11_readExtra_49 (by decide) ?_
  refine g_iadd C dX11_readExtra_50 ?_
  refine g_aload_n C dX11_readExtra_51 rfl 0 rfl ?_
  refine g_bipush (v := 37) C dX11_readExtra_52 (by decide) ?_
  obtain ⟨g21, h⟩ := h
  refine gr_calliV C [.int 37] rfl (k_X11_takes l D T m0 a 37 r q17 g21) (w0_V 1 C.2.2.2.2.1 kw_2054 kw_2056 ks_66 kw_9 kw_2057 rfl rfl (by decide +kernel) ⟨by decide, by decide⟩) rfl (Nat.le_of_ble_eq_true rfl) (Nat.zero_le _) (Nat.zero_le _) dX11_readExtra_54 (fun v18 r19 q20 hp => ?_)
  replace h := h v18 r19 q20 hp
  refine g_if_eq (tgt := 64) C dX11_readExtra_57 (by decide) (fun z22 => ?_) (fun z22 => ?_)
  · replace h := h.1 z22
    refine g_aload_n C dX11_readExtra_64 rfl 0 rfl ?_
    refine g_bipush (v := 42) C dX11_readExtra_65 (by decide) ?_
    obtain ⟨g26, h⟩ := h
    refine gr_calliV C [.int 42] rfl (k_X11_takes l D T m0 a 42 r19 q20 g26) (w0_V 1 C.2.2.2.2.1 kw_2054 kw_2056 ks_66 kw_9 kw_2057 rfl rfl (by decide +kernel) ⟨by decide, by decide⟩) rfl (Nat.le_of_ble_eq_true rfl) (Nat.zero_le _) (Nat.zero_le _) dX11_readExtra_67 (fun v23 r24 q25 hp => ?_)
    replace h := h v23 r24 q25 hp
    refine g_if_eq (tgt := 77) C dX11_readExtra_70 (by decide) (fun z27 => ?_) (fun z27 => ?_)
    · replace h := h.1 z27
      refine g_iconst (v := 0) C dX11_readExtra_77 (by decide) ?_
      refine g_locals [0, 1] rfl ?_
      refine t_X11_readExtra_78 C hr  P  x1 0 (x1 + 3) r24 q25 h
    · replace h := h.2 z27
      refine g_iconst (v := 1) C dX11_readExtra_73 (by decide) ?_
      refine g_goto (tgt := 78) C dX11_readExtra_74 (by decide) ?_
      refine g_locals [0, 1] rfl ?_
      refine t_X11_readExtra_78 C hr  P  x1 1 (x1 + 3) r24 q25 h
  · replace h := h.2 z22
    refine g_iconst (v := 2) C dX11_readExtra_60 (by decide) ?_
    refine g_goto (tgt := 78) C dX11_readExtra_61 (by decide) ?_
    refine g_locals [0, 1] rfl ?_
    refine t_X11_readExtra_78 C hr  P  x1 2 (x1 + 3) r19 q20 h
def wp_X11_readExtra (P : RST → Prop) (p0 : Int32) (r : Nat → Int32) (q : Nat → Nat → Int32) : Prop := (psO r ∧ dix 0 9) ∧ (∀ (v1 : Int32) (r2 : Nat → Int32) (q3 : Nat → Nat → Int32), (v1 = dgV (q 4) (iv (r 8)) (pσ r) 0 9 ∧ q3 = q ∧ kR r r2 [10, 11] ∧ psO r2 ∧ pσ r2 = dgS (q 4) (iv (r 8)) (pσ r) 0 9) → (vp_in (p0 + 1) 640 ∧ (∀ q6 : Nat → Nat → Int32, q6 = va_up q3 5 (upd (q3 5) (Int32.toNatClampNeg (p0 + 1)) v1) → ((psO r2 ∧ ¬ 58 = (-1 : Int32)) ∧ (∀ (r8 : Nat → Int32) (q9 : Nat → Nat → Int32), (q9 = q6 ∧ kR r2 r8 [10, 11] ∧ psO r8 ∧ pσ r8 = ndS (q6 4) (iv (r2 8)) (pσ r2) 58) → (((r8 11) = 0 → ((psO r8) ∧ (∀ (v12 : Int32) (r13 : Nat → Int32) (q14 : Nat → Nat → Int32), (v12 = (nbF (q9 4) (iv (r8 8)) (pσ r8)).1 ∧ q14 = q9 ∧ kR r8 r13 [10, 11] ∧ psO r13 ∧ pσ r13 = (nbF (q9 4) (iv (r8 8)) (pσ r8)).2) → (wp_X11_readExtra_43  P p0 v12 (p0 + 2) r13 q14)))) ∧ (¬ (r8 11) = 0 → (wp_X11_readExtra_43  P p0 0 (p0 + 2) r8 q9))))))))
set_option maxRecDepth 100000 in
set_option maxHeartbeats 4000000 in
theorem t_X11_readExtra {p : Program} {l : Launch} {e : Env} {s : State} {m : MethodId} {args : Array Value} {below : List Frame} {meth : Method} {c : Code} {D : va_G} {A : Nat → Prop} {T : Nat → ClassId} {m0 : Nat} {a : Nat → Nat} (C : GC p s m args meth c cX11_readExtra "FreightRaterModel" (ws_X11_readExtra) 2 D A (zty T)) (hr : meth.sig.returnType = none) (P : RST → Prop) : ∀ (p0 : Int32) (r : Nat → Int32) (q : Nat → Nat → Int32), wp_X11_readExtra P p0 r q → GW p l e rm_X11_readExtra s m args below meth c D A 2 0 0 (MQ below (va_Qv P (RE D T m0 a A) A) args s 0 0 A) (RW m0 a T r q) 0 0 0 [(0, .ref m0), (1, .int p0)] [] := by
  have hw : ∀ {w : Cond}, w ∈ W0 → w.before args s = true := fun h => C.2.2.2.2.1 _ (List.mem_cons_of_mem _ h)
  intro p0 r q h
  unfold wp_X11_readExtra at h
  refine g_aload_n C dX11_readExtra_0 rfl 0 rfl ?_
  refine gr_get C iwx_X11 14 (hw kw_1823) (by decide) rfl rfl dX11_readExtra_1 ?_
  refine g_iload_n C dX11_readExtra_4 rfl 1 rfl ?_
  refine g_iconst (v := 1) C dX11_readExtra_5 (by decide) ?_
  refine g_iadd C dX11_readExtra_6 ?_
  refine g_aload_n C dX11_readExtra_7 rfl 0 rfl ?_
  refine g_iconst (v := 0) C dX11_readExtra_8 (by decide) ?_
  refine g_bipush (v := 9) C dX11_readExtra_9 (by decide) ?_
  obtain ⟨g4, h⟩ := h
  refine gr_calliV C [.int 0, .int 9] rfl (k_X11_digit l D T m0 a 0 9 r q g4) (w0_V 2 C.2.2.2.2.1 kw_2046 kw_2048 ks_64 kw_9 kw_2049 rfl rfl (by decide +kernel) ⟨by decide, by decide⟩) rfl (Nat.le_of_ble_eq_true rfl) (Nat.zero_le _) (Nat.zero_le _) dX11_readExtra_11 (fun v1 r2 q3 hp => ?_)
  replace h := h v1 r2 q3 hp
  obtain ⟨g5, h⟩ := h
  refine gr_ast_5 C g5 dX11_readExtra_14 ?_
  refine gr_nq (fun q6 eq6 => ?_)
  replace h := h q6 eq6
  refine g_aload_n C dX11_readExtra_15 rfl 0 rfl ?_
  refine g_bipush (v := 58) C dX11_readExtra_16 (by decide) ?_
  obtain ⟨g10, h⟩ := h
  refine gr_callvV C [.int 58] rfl (k_X11_need l D T m0 a 58 r2 q6 g10) (w0_V 1 C.2.2.2.2.1 kw_2050 kw_2052 ks_65 kw_9 kw_2053 rfl rfl (by decide +kernel) ⟨by decide, by decide⟩) rfl (Nat.le_of_ble_eq_true rfl) (Nat.zero_le _) (Nat.zero_le _) dX11_readExtra_18 (fun r8 q9 hp => ?_)
  replace h := h r8 q9 hp
  refine g_aload_n C dX11_readExtra_21 rfl 0 rfl ?_
  refine gr_get C iwx_X11 14 (hw kw_1823) (by decide) rfl rfl dX11_readExtra_22 ?_
  refine g_iload_n C dX11_readExtra_25 rfl 1 rfl ?_
  refine g_iconst (v := 2) C dX11_readExtra_26 (by decide) ?_
  refine g_iadd C dX11_readExtra_27 ?_
  refine g_aload_n C dX11_readExtra_28 rfl 0 rfl ?_
  refine gr_get C iwx_X11 11 (hw kw_1820) (by decide) rfl rfl dX11_readExtra_29 ?_
  refine g_if_eq (tgt := 39) C dX11_readExtra_32 (by decide) (fun z11 => ?_) (fun z11 => ?_)
  · replace h := h.1 z11
    refine g_aload_n C dX11_readExtra_39 rfl 0 rfl ?_
    obtain ⟨g15, h⟩ := h
    refine gr_calliV C [] rfl (k_X11_number l D T m0 a  r8 q9 g15) (w0_V 0 C.2.2.2.2.1 kw_2058 kw_2060 ks_67 kw_9 kw_2061 rfl rfl (by decide +kernel) ⟨by decide, by decide⟩) rfl (Nat.le_of_ble_eq_true rfl) (Nat.zero_le _) (Nat.zero_le _) dX11_readExtra_40 (fun v12 r13 q14 hp => ?_)
    replace h := h v12 r13 q14 hp
    refine g_locals [0, 1] rfl ?_
    refine t_X11_readExtra_43 C hr  P  p0 v12 (p0 + 2) r13 q14 h
  · replace h := h.2 z11
    refine g_iconst (v := 0) C dX11_readExtra_35 (by decide) ?_
    refine g_goto (tgt := 43) C dX11_readExtra_36 (by decide) ?_
    refine g_locals [0, 1] rfl ?_
    refine t_X11_readExtra_43 C hr  P  p0 0 (p0 + 2) r8 q9 h
theorem c_X11_readExtra (l : Launch) (D : va_G) (T : Nat → ClassId) (m0 : Nat) (a : Nat → Nat) (p0 : Int32) (r : Nat → Int32) (q : Nat → Nat → Int32) (P : RST → Prop) (h : wp_X11_readExtra P p0 r q) : RMv l yX11_readExtra (ws_X11_readExtra) rm_X11_readExtra D T m0 a [.ref m0, .int p0] r q P := gr_metv (by decide) rfl rfl (Nat.le_of_ble_eq_true rfl) (fun p e s m args below meth c A C hr => t_X11_readExtra C hr P p0 r q h)
def wp_X11_readStatement (P : RST → Prop)  (r : Nat → Int32) (q : Nat → Nat → Int32) : Prop := ∀ v1 : Int32, v1 = (8 * (r 13)) → ((r 10 < r 8 → vp_in (r 10) 80) ∧ (∀ v3 : Int32, v3 = (sgnF r q) → (vp_in v1 640 ∧ (∀ q5 : Nat → Nat → Int32, q5 = va_up q 5 (upd (q 5) (Int32.toNatClampNeg v1) v3) → (∀ r6 : Nat → Int32, r6 = va_up r 10 ((r 10) + 1) → ((v3 = 122 → ((psO r6 ∧ s8 v1 ∧ (v3 = 122 ∨ v3 = 98 ∨ v3 = 109)) ∧ (∀ (r9 : Nat → Int32) (q10 : Nat → Nat → Int32), (zoP r6 q5 (iv v1) v3 r9 q10) → (∀ r12 : Nat → Int32, r12 = va_up r9 13 ((r9 13) + 1) → (P (r12, q10)))))) ∧ (¬ v3 = 122 → ((v3 = 98 → ((psO r6 ∧ s8 v1 ∧ (v3 = 122 ∨ v3 = 98 ∨ v3 = 109)) ∧ (∀ (r15 : Nat → Int32) (q16 : Nat → Nat → Int32), (zoP r6 q5 (iv v1) v3 r15 q16) → (∀ r18 : Nat → Int32, r18 = va_up r15 13 ((r15 13) + 1) → (P (r18, q16)))))) ∧ (¬ v3 = 98 → ((¬ v3 = 109 → ((v3 = 100 → ((psO r6) ∧ (∀ (v21 : Int32) (r22 : Nat → Int32) (q23 : Nat → Nat → Int32), (v21 = (nbF (q5 4) (iv (r6 8)) (pσ r6)).1 ∧ q23 = q5 ∧ kR r6 r22 [10, 11] ∧ psO r22 ∧ pσ r22 = (nbF (q5 4) (iv (r6 8)) (pσ r6)).2) → (vp_in (v1 + 1) 640 ∧ (∀ q26 : Nat → Nat → Int32, q26 = va_up q23 5 (upd (q23 5) (Int32.toNatClampNeg (v1 + 1)) v21) → (∀ r27 : Nat → Int32, r27 = va_up r22 13 ((r22 13) + 1) → (P (r27, q26)))))))) ∧ (¬ v3 = 100 → ((v3 = 102 → ((psO r6) ∧ (∀ (v29 : Int32) (r30 : Nat → Int32) (q31 : Nat → Nat → Int32), (v29 = (nbF (q5 4) (iv (r6 8)) (pσ r6)).1 ∧ q31 = q5 ∧ kR r6 r30 [10, 11] ∧ psO r30 ∧ pσ r30 = (nbF (q5 4) (iv (r6 8)) (pσ r6)).2) → (vp_in (v1 + 1) 640 ∧ (∀ q34 : Nat → Nat → Int32, q34 = va_up q31 5 (upd (q31 5) (Int32.toNatClampNeg (v1 + 1)) v29) → (∀ r35 : Nat → Int32, r35 = va_up r30 13 ((r30 13) + 1) → (P (r35, q34)))))))) ∧ (¬ v3 = 102 → ((v3 = 115 → ((psO r6) ∧ (∀ (v37 : Int32) (r38 : Nat → Int32) (q39 : Nat → Nat → Int32), (v37 = (nbF (q5 4) (iv (r6 8)) (pσ r6)).1 ∧ q39 = q5 ∧ kR r6 r38 [10, 11] ∧ psO r38 ∧ pσ r38 = (nbF (q5 4) (iv (r6 8)) (pσ r6)).2) → (vp_in (v1 + 1) 640 ∧ (∀ q42 : Nat → Nat → Int32, q42 = va_up q39 5 (upd (q39 5) (Int32.toNatClampNeg (v1 + 1)) v37) → (∀ r43 : Nat → Int32, r43 = va_up r38 13 ((r38 13) + 1) → (P (r43, q42)))))))) ∧ (¬ v3 = 115 → ((¬ v3 = 99 → ((¬ v3 = 97 → ((¬ v3 = 114 → (∀ r47 : Nat → Int32, r47 = va_up r6 11 1 → (∀ r48 : Nat → Int32, r48 = va_up r47 10 ((r47 10) - 1) → (∀ r49 : Nat → Int32, r49 = va_up r48 13 ((r48 13) + 1) → (P (r49, q5)))))) ∧ (v3 = 114 → ((psO r6 ∧ dix 0 9) ∧ (∀ (v50 : Int32) (r51 : Nat → Int32) (q52 : Nat → Nat → Int32), (v50 = dgV (q5 4) (iv (r6 8)) (pσ r6) 0 9 ∧ q52 = q5 ∧ kR r6 r51 [10, 11] ∧ psO r51 ∧ pσ r51 = dgS (q5 4) (iv (r6 8)) (pσ r6) 0 9) → (vp_in (v1 + 1) 640 ∧ (∀ q55 : Nat → Nat → Int32, q55 = va_up q52 5 (upd (q52 5) (Int32.toNatClampNeg (v1 + 1)) v50) → (∀ r56 : Nat → Int32, r56 = va_up r51 13 ((r51 13) + 1) → (P (r56, q55)))))))))) ∧ (v3 = 97 → ((psO r6 ∧ tsO r6 ∧ s8 v1) ∧ (∀ (r58 : Nat → Int32) (q59 : Nat → Nat → Int32), (exP r6 q5 (iv v1) r58 q59) → (∀ r61 : Nat → Int32, r61 = va_up r58 13 ((r58 13) + 1) → (P (r61, q59)))))))) ∧ (v3 = 99 → ((psO r6) ∧ (∀ (v62 : Int32) (r63 : Nat → Int32) (q64 : Nat → Nat → Int32), (v62 = (nbF (q5 4) (iv (r6 8)) (pσ r6)).1 ∧ q64 = q5 ∧ kR r6 r63 [10, 11] ∧ psO r63 ∧ pσ r63 = (nbF (q5 4) (iv (r6 8)) (pσ r6)).2) → (vp_in (v1 + 1) 640 ∧ (∀ q67 : Nat → Nat → Int32, q67 = va_up q64 5 (upd (q64 5) (Int32.toNatClampNeg (v1 + 1)) v62) → (∀ r68 : Nat → Int32, r68 = va_up r63 13 ((r63 13) + 1) → (P (r68, q67)))))))))))))))) ∧ (v3 = 109 → ((psO r6 ∧ s8 v1 ∧ (v3 = 122 ∨ v3 = 98 ∨ v3 = 109)) ∧ (∀ (r70 : Nat → Int32) (q71 : Nat → Nat → Int32), (zoP r6 q5 (iv v1) v3 r70 q71) → (∀ r73 : Nat → Int32, r73 = va_up r70 13 ((r70 13) + 1) → (P (r73, q71))))))))))))))))
set_option maxRecDepth 100000 in
set_option maxHeartbeats 4000000 in
theorem t_X11_readStatement {p : Program} {l : Launch} {e : Env} {s : State} {m : MethodId} {args : Array Value} {below : List Frame} {meth : Method} {c : Code} {D : va_G} {A : Nat → Prop} {T : Nat → ClassId} {m0 : Nat} {a : Nat → Nat} (C : GC p s m args meth c cX11_readStatement "FreightRaterModel" (ws_X11_readStatement) 3 D A (zty T)) (hr : meth.sig.returnType = none) (P : RST → Prop) : ∀  (r : Nat → Int32) (q : Nat → Nat → Int32), wp_X11_readStatement P  r q → GW p l e rm_X11_readStatement s m args below meth c D A 3 0 0 (MQ below (va_Qv P (RE D T m0 a A) A) args s 0 0 A) (RW m0 a T r q) 0 0 0 [(0, .ref m0)] [] := by
  have hw : ∀ {w : Cond}, w ∈ W0 → w.before args s = true := fun h => C.2.2.2.2.1 _ (List.mem_cons_of_mem _ h)
  intro  r q h
  unfold wp_X11_readStatement at h
  refine g_bipush (v := 8) C dX11_readStatement_0 (by decide) ?_
  refine g_aload_n C dX11_readStatement_2 rfl 0 rfl ?_
  refine gr_get C iwx_X11 13 (hw kw_1822) (by decide) rfl rfl dX11_readStatement_3 ?_
  refine g_imul C dX11_readStatement_6 ?_
  refine g_topi (fun v1 ev1 => ?_)
  replace h := h v1 ev1
  refine g_istore_n (lv' := [(1, .int v1), (0, .ref m0)]) C dX11_readStatement_7 rfl (by decide) rfl ?_
  refine g_aload_n C dX11_readStatement_8 rfl 1 rfl ?_
  obtain ⟨g2, h⟩ := h
  refine gr_callVf C [] rfl (k_X11_sign l D T m0 a  r q g2) (w0_V 0 C.2.2.2.2.1 kw_2038 kw_2040 ks_62 kw_9 kw_2041 rfl rfl (by decide +kernel) ⟨by decide, by decide⟩) rfl (Nat.le_of_ble_eq_true rfl) (Nat.zero_le _) (Nat.zero_le _) dX11_readStatement_9 ?_
  refine g_topi (fun v3 ev3 => ?_)
  replace h := h v3 ev3
  refine g_istore_n (lv' := [(2, .int v3), (1, .int v1), (0, .ref m0)]) C dX11_readStatement_12 rfl (by decide) rfl ?_
  refine g_aload_n C dX11_readStatement_13 rfl 2 rfl ?_
  refine gr_get C iwx_X11 14 (hw kw_1823) (by decide) rfl rfl dX11_readStatement_14 ?_
  refine g_iload_n C dX11_readStatement_17 rfl 1 rfl ?_
  refine g_iload_n C dX11_readStatement_18 rfl 0 rfl ?_
  obtain ⟨g4, h⟩ := h
  refine gr_ast_5 C g4 dX11_readStatement_19 ?_
  refine gr_nq (fun q5 eq5 => ?_)
  replace h := h q5 eq5
  refine g_aload_n C dX11_readStatement_20 rfl 2 rfl ?_
  refine g_dup C dX11_readStatement_21 rfl ?_
  refine gr_get C iwx_X11 10 (hw kw_1819) (by decide) rfl rfl dX11_readStatement_22 ?_
  refine g_iconst (v := 1) C dX11_readStatement_25 (by decide) ?_
  refine g_iadd C dX11_readStatement_26 ?_
  refine gr_put_10 C iwx_X11 (hw kw_1819) dX11_readStatement_27 ?_
  refine gr_nr (fun r6 er6 => ?_)
  replace h := h r6 er6
  refine g_iload_n C dX11_readStatement_30 rfl 0 rfl ?_
  refine g_bipush (v := 122) C dX11_readStatement_31 (by decide) ?_
  refine g_icmp_eq (tgt := 48) C dX11_readStatement_33 (by decide) (fun z7 => ?_) (fun z7 => ?_)
  · replace h := h.1 z7
    refine g_aload_n C dX11_readStatement_48 rfl 2 rfl ?_
    refine g_iload_n C dX11_readStatement_49 rfl 1 rfl ?_
    refine g_iload_n C dX11_readStatement_50 rfl 0 rfl ?_
    obtain ⟨g11, h⟩ := h
    refine gr_callvV C [.int v1, .int v3] rfl (k_X11_readZone l D T m0 a v1 v3 r6 q5 g11) (w0_V 2 C.2.2.2.2.1 kw_2042 kw_2044 ks_63 kw_9 kw_2045 rfl rfl (by decide +kernel) ⟨by decide, by decide⟩) rfl (Nat.le_of_ble_eq_true rfl) (Nat.zero_le _) (Nat.zero_le _) dX11_readStatement_51 (fun r9 q10 hp => ?_)
    replace h := h r9 q10 hp
    refine g_goto (tgt := 149) C dX11_readStatement_54 (by decide) ?_
    refine g_aload_n C dX11_readStatement_149 rfl 2 rfl ?_
    refine g_dup C dX11_readStatement_150 rfl ?_
    refine gr_get C iwx_X11 13 (hw kw_1822) (by decide) rfl rfl dX11_readStatement_151 ?_
    refine g_iconst (v := 1) C dX11_readStatement_154 (by decide) ?_
    refine g_iadd C dX11_readStatement_155 ?_
    refine gr_put_13 C iwx_X11 (hw kw_1822) dX11_readStatement_156 ?_
    refine gr_nr (fun r12 er12 => ?_)
    replace h := h r12 er12
    exact gr_vret C hr dX11_readStatement_159 h
  · replace h := h.2 z7
    refine g_iload_n C dX11_readStatement_36 rfl 0 rfl ?_
    refine g_bipush (v := 98) C dX11_readStatement_37 (by decide) ?_
    refine g_icmp_eq (tgt := 48) C dX11_readStatement_39 (by decide) (fun z13 => ?_) (fun z13 => ?_)
    · replace h := h.1 z13
      refine g_aload_n C dX11_readStatement_48 rfl 2 rfl ?_
      refine g_iload_n C dX11_readStatement_49 rfl 1 rfl ?_
      refine g_iload_n C dX11_readStatement_50 rfl 0 rfl ?_
      obtain ⟨g17, h⟩ := h
      refine gr_callvV C [.int v1, .int v3] rfl (k_X11_readZone l D T m0 a v1 v3 r6 q5 g17) (w0_V 2 C.2.2.2.2.1 kw_2042 kw_2044 ks_63 kw_9 kw_2045 rfl rfl (by decide +kernel) ⟨by decide, by decide⟩) rfl (Nat.le_of_ble_eq_true rfl) (Nat.zero_le _) (Nat.zero_le _) dX11_readStatement_51 (fun r15 q16 hp => ?_)
      replace h := h r15 q16 hp
      refine g_goto (tgt := 149) C dX11_readStatement_54 (by decide) ?_
      refine g_aload_n C dX11_readStatement_149 rfl 2 rfl ?_
      refine g_dup C dX11_readStatement_150 rfl ?_
      refine gr_get C iwx_X11 13 (hw kw_1822) (by decide) rfl rfl dX11_readStatement_151 ?_
      refine g_iconst (v := 1) C dX11_readStatement_154 (by decide) ?_
      refine g_iadd C dX11_readStatement_155 ?_
      refine gr_put_13 C iwx_X11 (hw kw_1822) dX11_readStatement_156 ?_
      refine gr_nr (fun r18 er18 => ?_)
      replace h := h r18 er18
      exact gr_vret C hr dX11_readStatement_159 h
    · replace h := h.2 z13
      refine g_iload_n C dX11_readStatement_42 rfl 0 rfl ?_
      refine g_bipush (v := 109) C dX11_readStatement_43 (by decide) ?_
      refine g_icmp_ne (tgt := 57) C dX11_readStatement_45 (by decide) (fun z19 => ?_) (fun z19 => ?_)
      · replace h := h.1 z19
        refine g_iload_n C dX11_readStatement_57 rfl 0 rfl ?_
        refine g_bipush (v := 100) C dX11_readStatement_58 (by decide) ?_
        refine g_icmp_eq (tgt := 81) C dX11_readStatement_60 (by decide) (fun z20 => ?_) (fun z20 => ?_)
        · replace h := h.1 z20
          refine g_aload_n C dX11_readStatement_81 rfl 2 rfl ?_
          refine gr_get C iwx_X11 14 (hw kw_1823) (by decide) rfl rfl dX11_readStatement_82 ?_
          refine g_iload_n C dX11_readStatement_85 rfl 1 rfl ?_
          refine g_iconst (v := 1) C dX11_readStatement_86 (by decide) ?_
          refine g_iadd C dX11_readStatement_87 ?_
          refine g_aload_n C dX11_readStatement_88 rfl 2 rfl ?_
          obtain ⟨g24, h⟩ := h
          refine gr_calliV C [] rfl (k_X11_number l D T m0 a  r6 q5 g24) (w0_V 0 C.2.2.2.2.1 kw_2058 kw_2060 ks_67 kw_9 kw_2061 rfl rfl (by decide +kernel) ⟨by decide, by decide⟩) rfl (Nat.le_of_ble_eq_true rfl) (Nat.zero_le _) (Nat.zero_le _) dX11_readStatement_89 (fun v21 r22 q23 hp => ?_)
          replace h := h v21 r22 q23 hp
          obtain ⟨g25, h⟩ := h
          refine gr_ast_5 C g25 dX11_readStatement_92 ?_
          refine gr_nq (fun q26 eq26 => ?_)
          replace h := h q26 eq26
          refine g_goto (tgt := 149) C dX11_readStatement_93 (by decide) ?_
          refine g_aload_n C dX11_readStatement_149 rfl 2 rfl ?_
          refine g_dup C dX11_readStatement_150 rfl ?_
          refine gr_get C iwx_X11 13 (hw kw_1822) (by decide) rfl rfl dX11_readStatement_151 ?_
          refine g_iconst (v := 1) C dX11_readStatement_154 (by decide) ?_
          refine g_iadd C dX11_readStatement_155 ?_
          refine gr_put_13 C iwx_X11 (hw kw_1822) dX11_readStatement_156 ?_
          refine gr_nr (fun r27 er27 => ?_)
          replace h := h r27 er27
          exact gr_vret C hr dX11_readStatement_159 h
        · replace h := h.2 z20
          refine g_iload_n C dX11_readStatement_63 rfl 0 rfl ?_
          refine g_bipush (v := 102) C dX11_readStatement_64 (by decide) ?_
          refine g_icmp_eq (tgt := 81) C dX11_readStatement_66 (by decide) (fun z28 => ?_) (fun z28 => ?_)
          · replace h := h.1 z28
            refine g_aload_n C dX11_readStatement_81 rfl 2 rfl ?_
            refine gr_get C iwx_X11 14 (hw kw_1823) (by decide) rfl rfl dX11_readStatement_82 ?_
            refine g_iload_n C dX11_readStatement_85 rfl 1 rfl ?_
            refine g_iconst (v := 1) C dX11_readStatement_86 (by decide) ?_
            refine g_iadd C dX11_readStatement_87 ?_
            refine g_aload_n C dX11_readStatement_88 rfl 2 rfl ?_
            obtain ⟨g32, h⟩ := h
            refine gr_calliV C [] rfl (k_X11_number l D T m0 a  r6 q5 g32) (w0_V 0 C.2.2.2.2.1 kw_2058 kw_2060 ks_67 kw_9 kw_2061 rfl rfl (by decide +kernel) ⟨by decide, by decide⟩) rfl (Nat.le_of_ble_eq_true rfl) (Nat.zero_le _) (Nat.zero_le _) dX11_readStatement_89 (fun v29 r30 q31 hp => ?_)
            replace h := h v29 r30 q31 hp
            obtain ⟨g33, h⟩ := h
            refine gr_ast_5 C g33 dX11_readStatement_92 ?_
            refine gr_nq (fun q34 eq34 => ?_)
            replace h := h q34 eq34
            refine g_goto (tgt := 149) C dX11_readStatement_93 (by decide) ?_
            refine g_aload_n C dX11_readStatement_149 rfl 2 rfl ?_
            refine g_dup C dX11_readStatement_150 rfl ?_
            refine gr_get C iwx_X11 13 (hw kw_1822) (by decide) rfl rfl dX11_readStatement_151 ?_
            refine g_iconst (v := 1) C dX11_readStatement_154 (by decide) ?_
            refine g_iadd C dX11_readStatement_155 ?_
            refine gr_put_13 C iwx_X11 (hw kw_1822) dX11_readStatement_156 ?_
            refine gr_nr (fun r35 er35 => ?_)
            replace h := h r35 er35
            exact gr_vret C hr dX11_readStatement_159 h
          · replace h := h.2 z28
            refine g_iload_n C dX11_readStatement_69 rfl 0 rfl ?_
            refine g_bipush (v := 115) C dX11_readStatement_70 (by decide) ?_
            refine g_icmp_eq (tgt := 81) C dX11_readStatement_72 (by decide) (fun z36 => ?_) (fun z36 => ?_)
            · replace h := h.1 z36
              refine g_aload_n C dX11_readStatement_81 rfl 2 rfl ?_
              refine gr_get C iwx_X11 14 (hw kw_1823) (by decide) rfl rfl dX11_readStatement_82 ?_
              refine g_iload_n C dX11_readStatement_85 rfl 1 rfl ?_
              refine g_iconst (v := 1) C dX11_readStatement_86 (by decide) ?_
              refine g_iadd C dX11_readStatement_87 ?_
              refine g_aload_n C dX11_readStatement_88 rfl 2 rfl ?_
              obtain ⟨g40, h⟩ := h
              refine gr_calliV C [] rfl (k_X11_number l D T m0 a  r6 q5 g40) (w0_V 0 C.2.2.2.2.1 kw_2058 kw_2060 ks_67 kw_9 kw_2061 rfl rfl (by decide +kernel) ⟨by decide, by decide⟩) rfl (Nat.le_of_ble_eq_true rfl) (Nat.zero_le _) (Nat.zero_le _) dX11_readStatement_89 (fun v37 r38 q39 hp => ?_)
              replace h := h v37 r38 q39 hp
              obtain ⟨g41, h⟩ := h
              refine gr_ast_5 C g41 dX11_readStatement_92 ?_
              refine gr_nq (fun q42 eq42 => ?_)
              replace h := h q42 eq42
              refine g_goto (tgt := 149) C dX11_readStatement_93 (by decide) ?_
              refine g_aload_n C dX11_readStatement_149 rfl 2 rfl ?_
              refine g_dup C dX11_readStatement_150 rfl ?_
              refine gr_get C iwx_X11 13 (hw kw_1822) (by decide) rfl rfl dX11_readStatement_151 ?_
              refine g_iconst (v := 1) C dX11_readStatement_154 (by decide) ?_
              refine g_iadd C dX11_readStatement_155 ?_
              refine gr_put_13 C iwx_X11 (hw kw_1822) dX11_readStatement_156 ?_
              refine gr_nr (fun r43 er43 => ?_)
              replace h := h r43 er43
              exact gr_vret C hr dX11_readStatement_159 h
            · replace h := h.2 z36
              refine g_iload_n C dX11_readStatement_75 rfl 0 rfl ?_
              refine g_bipush (v := 99) C dX11_readStatement_76 (by decide) ?_
              refine g_icmp_ne (tgt := 96) C dX11_readStatement_78 (by decide) (fun z44 => ?_) (fun z44 => ?_)
              · replace h := h.1 z44
                refine g_iload_n C dX11_readStatement_96 rfl 0 rfl ?_
                refine g_bipush (v := 97) C dX11_readStatement_97 (by decide) ?_
                refine g_icmp_ne (tgt := 110) C dX11_readStatement_99 (by decide) (fun z45 => ?_) (fun z45 => ?_)
                · replace h := h.1 z45
                  refine g_iload_n C dX11_readStatement_110 rfl 0 rfl ?_
                  refine g_bipush (v := 114) C dX11_readStatement_111 (by decide) ?_
                  refine g_icmp_ne (tgt := 134) C dX11_readStatement_113 (by decide) (fun z46 => ?_) (fun z46 => ?_)
                  · replace h := h.1 z46
                    refine g_aload_n C dX11_readStatement_134 rfl 2 rfl ?_
                    refine g_iconst (v := 1) C dX11_readStatement_135 (by decide) ?_
                    refine gr_put_11 C iwx_X11 vz1 (hw kw_1820) dX11_readStatement_136 ?_
                    refine gr_nr (fun r47 er47 => ?_)
                    replace h := h r47 er47
                    refine g_aload_n C dX11_readStatement_139 rfl 2 rfl ?_
                    refine g_dup C dX11_readStatement_140 rfl ?_
                    refine gr_get C iwx_X11 10 (hw kw_1819) (by decide) rfl rfl dX11_readStatement_141 ?_
                    refine g_iconst (v := 1) C dX11_readStatement_144 (by decide) ?_
                    refine g_isub C dX11_readStatement_145 ?_
                    refine gr_put_10 C iwx_X11 (hw kw_1819) dX11_readStatement_146 ?_
                    refine gr_nr (fun r48 er48 => ?_)
                    replace h := h r48 er48
                    refine g_aload_n C dX11_readStatement_149 rfl 2 rfl ?_
                    refine g_dup C dX11_readStatement_150 rfl ?_
                    refine gr_get C iwx_X11 13 (hw kw_1822) (by decide) rfl rfl dX11_readStatement_151 ?_
                    refine g_iconst (v := 1) C dX11_readStatement_154 (by decide) ?_
                    refine g_iadd C dX11_readStatement_155 ?_
                    refine gr_put_13 C iwx_X11 (hw kw_1822) dX11_readStatement_156 ?_
                    refine gr_nr (fun r49 er49 => ?_)
                    replace h := h r49 er49
                    exact gr_vret C hr dX11_readStatement_159 h
                  · replace h := h.2 z46
                    refine g_aload_n C dX11_readStatement_116 rfl 2 rfl ?_
                    refine gr_get C iwx_X11 14 (hw kw_1823) (by decide) rfl rfl dX11_readStatement_117 ?_
                    refine g_iload_n C dX11_readStatement_120 rfl 1 rfl ?_
                    refine g_iconst (v := 1) C dX11_readStatement_121 (by decide) ?_
                    refine g_iadd C dX11_readStatement_122 ?_
                    refine g_aload_n C dX11_readStatement_123 rfl 2 rfl ?_
                    refine g_iconst (v := 0) C dX11_readStatement_124 (by decide) ?_
                    refine g_bipush (v := 9) C dX11_readStatement_125 (by decide) ?_
                    obtain ⟨g53, h⟩ := h
                    refine gr_calliV C [.int 0, .int 9] rfl (k_X11_digit l D T m0 a 0 9 r6 q5 g53) (w0_V 2 C.2.2.2.2.1 kw_2046 kw_2048 ks_64 kw_9 kw_2049 rfl rfl (by decide +kernel) ⟨by decide, by decide⟩) rfl (Nat.le_of_ble_eq_true rfl) (Nat.zero_le _) (Nat.zero_le _) dX11_readStatement_127 (fun v50 r51 q52 hp => ?_)
                    replace h := h v50 r51 q52 hp
                    obtain ⟨g54, h⟩ := h
                    refine gr_ast_5 C g54 dX11_readStatement_130 ?_
                    refine gr_nq (fun q55 eq55 => ?_)
                    replace h := h q55 eq55
                    refine g_goto (tgt := 149) C dX11_readStatement_131 (by decide) ?_
                    refine g_aload_n C dX11_readStatement_149 rfl 2 rfl ?_
                    refine g_dup C dX11_readStatement_150 rfl ?_
                    refine gr_get C iwx_X11 13 (hw kw_1822) (by decide) rfl rfl dX11_readStatement_151 ?_
                    refine g_iconst (v := 1) C dX11_readStatement_154 (by decide) ?_
                    refine g_iadd C dX11_readStatement_155 ?_
                    refine gr_put_13 C iwx_X11 (hw kw_1822) dX11_readStatement_156 ?_
                    refine gr_nr (fun r56 er56 => ?_)
                    replace h := h r56 er56
                    exact gr_vret C hr dX11_readStatement_159 h
                · replace h := h.2 z45
                  refine g_aload_n C dX11_readStatement_102 rfl 2 rfl ?_
                  refine g_iload_n C dX11_readStatement_103 rfl 1 rfl ?_
                  obtain ⟨g60, h⟩ := h
                  refine gr_callvV C [.int v1] rfl (k_X11_readExtra l D T m0 a v1 r6 q5 g60) (w0_V 1 C.2.2.2.2.1 kw_2062 kw_2064 ks_68 kw_9 kw_2065 rfl rfl (by decide +kernel) ⟨by decide, by decide⟩) rfl (Nat.le_of_ble_eq_true rfl) (Nat.zero_le _) (Nat.zero_le _) dX11_readStatement_104 (fun r58 q59 hp => ?_)
                  replace h := h r58 q59 hp
                  refine g_goto (tgt := 149) C dX11_readStatement_107 (by decide) ?_
                  refine g_aload_n C dX11_readStatement_149 rfl 2 rfl ?_
                  refine g_dup C dX11_readStatement_150 rfl ?_
                  refine gr_get C iwx_X11 13 (hw kw_1822) (by decide) rfl rfl dX11_readStatement_151 ?_
                  refine g_iconst (v := 1) C dX11_readStatement_154 (by decide) ?_
                  refine g_iadd C dX11_readStatement_155 ?_
                  refine gr_put_13 C iwx_X11 (hw kw_1822) dX11_readStatement_156 ?_
                  refine gr_nr (fun r61 er61 => ?_)
                  replace h := h r61 er61
                  exact gr_vret C hr dX11_readStatement_159 h
              · replace h := h.2 z44
                refine g_aload_n C dX11_readStatement_81 rfl 2 rfl ?_
                refine gr_get C iwx_X11 14 (hw kw_1823) (by decide) rfl rfl dX11_readStatement_82 ?_
                refine g_iload_n C dX11_readStatement_85 rfl 1 rfl ?_
                refine g_iconst (v := 1) C dX11_readStatement_86 (by decide) ?_
                refine g_iadd C dX11_readStatement_87 ?_
                refine g_aload_n C dX11_readStatement_88 rfl 2 rfl ?_
                obtain ⟨g65, h⟩ := h
                refine gr_calliV C [] rfl (k_X11_number l D T m0 a  r6 q5 g65) (w0_V 0 C.2.2.2.2.1 kw_2058 kw_2060 ks_67 kw_9 kw_2061 rfl rfl (by decide +kernel) ⟨by decide, by decide⟩) rfl (Nat.le_of_ble_eq_true rfl) (Nat.zero_le _) (Nat.zero_le _) dX11_readStatement_89 (fun v62 r63 q64 hp => ?_)
                replace h := h v62 r63 q64 hp
                obtain ⟨g66, h⟩ := h
                refine gr_ast_5 C g66 dX11_readStatement_92 ?_
                refine gr_nq (fun q67 eq67 => ?_)
                replace h := h q67 eq67
                refine g_goto (tgt := 149) C dX11_readStatement_93 (by decide) ?_
                refine g_aload_n C dX11_readStatement_149 rfl 2 rfl ?_
                refine g_dup C dX11_readStatement_150 rfl ?_
                refine gr_get C iwx_X11 13 (hw kw_1822) (by decide) rfl rfl dX11_readStatement_151 ?_
                refine g_iconst (v := 1) C dX11_readStatement_154 (by decide) ?_
                refine g_iadd C dX11_readStatement_155 ?_
                refine gr_put_13 C iwx_X11 (hw kw_1822) dX11_readStatement_156 ?_
                refine gr_nr (fun r68 er68 => ?_)
                replace h := h r68 er68
                exact gr_vret C hr dX11_readStatement_159 h
      · replace h := h.2 z19
        refine g_aload_n C dX11_readStatement_48 rfl 2 rfl ?_
        refine g_iload_n C dX11_readStatement_49 rfl 1 rfl ?_
        refine g_iload_n C dX11_readStatement_50 rfl 0 rfl ?_
        obtain ⟨g72, h⟩ := h
        refine gr_callvV C [.int v1, .int v3] rfl (k_X11_readZone l D T m0 a v1 v3 r6 q5 g72) (w0_V 2 C.2.2.2.2.1 kw_2042 kw_2044 ks_63 kw_9 kw_2045 rfl rfl (by decide +kernel) ⟨by decide, by decide⟩) rfl (Nat.le_of_ble_eq_true rfl) (Nat.zero_le _) (Nat.zero_le _) dX11_readStatement_51 (fun r70 q71 hp => ?_)
        replace h := h r70 q71 hp
        refine g_goto (tgt := 149) C dX11_readStatement_54 (by decide) ?_
        refine g_aload_n C dX11_readStatement_149 rfl 2 rfl ?_
        refine g_dup C dX11_readStatement_150 rfl ?_
        refine gr_get C iwx_X11 13 (hw kw_1822) (by decide) rfl rfl dX11_readStatement_151 ?_
        refine g_iconst (v := 1) C dX11_readStatement_154 (by decide) ?_
        refine g_iadd C dX11_readStatement_155 ?_
        refine gr_put_13 C iwx_X11 (hw kw_1822) dX11_readStatement_156 ?_
        refine gr_nr (fun r73 er73 => ?_)
        replace h := h r73 er73
        exact gr_vret C hr dX11_readStatement_159 h
theorem c_X11_readStatement (l : Launch) (D : va_G) (T : Nat → ClassId) (m0 : Nat) (a : Nat → Nat)  (r : Nat → Int32) (q : Nat → Nat → Int32) (P : RST → Prop) (h : wp_X11_readStatement P  r q) : RMv l yX11_readStatement (ws_X11_readStatement) rm_X11_readStatement D T m0 a [.ref m0] r q P := gr_metv (by decide) rfl rfl (Nat.le_of_ble_eq_true rfl) (fun p e s m args below meth c A C hr => t_X11_readStatement C hr P  r q h)
def wb_X11_shares_12 (rec : Int32 → Int32 → Int64 → Int32 → (Nat → Int32) → (Nat → Nat → Int32) → Prop) (K55 : Int32 → Int32 → Int64 → (Nat → Int32) → (Nat → Nat → Int32) → Prop) (P : RST → Prop) (x1 : Int32) (x2 : Int32) (x3 : Int64) (x5 : Int32) (r : Nat → Int32) (q : Nat → Nat → Int32) : Prop := vp_in 1 3334 ∧ (((q 0 (Int32.toNatClampNeg 1)) ≤ x5 → (K55 x1 x2 x3 r q)) ∧ (¬ (q 0 (Int32.toNatClampNeg 1)) ≤ x5 → (((hasF x1 x5) = 0 → (∀ v6 : Int32, v6 = x5 + 1 → (rec x1 x2 x3 v6 r q))) ∧ (¬ (hasF x1 x5) = 0 → ((WF (q 0) ∧ gok (q 0) (1 <<< (x5 &&& 31))) ∧ (∀ (v7 : Int32) (r8 : Nat → Int32) (q9 : Nat → Nat → Int32), (v7 = nI (rsnD (q 0) (iv (1 <<< (x5 &&& 31)))).1 ∧ q9 = q ∧ kR r r8 [17, 18, 19, 20, 21, 22, 23] ∧ (¬ (rsnD (q 0) (iv (1 <<< (x5 &&& 31)))).1 = 0 → r8 17 = (rsnD (q 0) (iv (1 <<< (x5 &&& 31)))).2) ∧ ((rsnD (q 0) (iv (1 <<< (x5 &&& 31)))).1 = 0 → r8 18 = gvF (q 0) (iv (1 <<< (x5 &&& 31))) ∧ r8 19 = gzF (q 0) (iv (1 <<< (x5 &&& 31))) ∧ r8 20 = wtF (q 0) (iv (gvF (q 0) (iv (1 <<< (x5 &&& 31))))) (iv (1 <<< (x5 &&& 31))) ∧ r8 21 = pcF (q 0) (iv (gvF (q 0) (iv (1 <<< (x5 &&& 31))))) (iv (1 <<< (x5 &&& 31))) ∧ r8 22 = lgF (q 0) (iv (gvF (q 0) (iv (1 <<< (x5 &&& 31))))) (iv (1 <<< (x5 &&& 31))) ∧ r8 23 = hdF (q 0) (iv (gvF (q 0) (iv (1 <<< (x5 &&& 31))))) (iv (1 <<< (x5 &&& 31))))) → (∀ v11 : Int64, v11 = (x3 + ((r8 20)).toInt64) → (∀ v12 : Int32, v12 = x5 + 1 → (rec x1 x2 v11 v12 r8 q9)))))))))
def wp_X11_shares_12 (K55 : Int32 → Int32 → Int64 → (Nat → Int32) → (Nat → Nat → Int32) → Prop) (P : RST → Prop) : Nat → Int32 → Int32 → Int64 → Int32 → (Nat → Int32) → (Nat → Nat → Int32) → Prop
  | 0 => fun _ _ _ _ _ _ => False
  | n + 1 => fun x1 x2 x3 x5 r q => wb_X11_shares_12 (wp_X11_shares_12 K55 P n) K55 P x1 x2 x3 x5 r q
set_option maxRecDepth 100000 in
set_option maxHeartbeats 4000000 in
theorem t_X11_shares_12 {p : Program} {l : Launch} {e : Env} {s : State} {m : MethodId} {args : Array Value} {below : List Frame} {meth : Method} {c : Code} {D : va_G} {A : Nat → Prop} {T : Nat → ClassId} {m0 : Nat} {a : Nat → Nat} (C : GC p s m args meth c cX11_shares "FreightRaterModel" (ws_X11_shares) 8 D A (zty T)) (hr : meth.sig.returnType = none) (K55 : Int32 → Int32 → Int64 → (Nat → Int32) → (Nat → Nat → Int32) → Prop) (P : RST → Prop) (hK55 : ∀ (x1 : Int32) (x2 : Int32) (x3 : Int64) (r : Nat → Int32) (q : Nat → Nat → Int32), K55 x1 x2 x3 r q → GW p l e rm_X11_shares s m args below meth c D A 8 0 0 (MQ below (va_Qv P (RE D T m0 a A) A) args s 0 0 A) (RW m0 a T r q) 0 0 55 [(0, .ref m0), (1, .int x1), (2, .int x2), (3, .long x3)] []) : ∀ (n : Nat) (x1 : Int32) (x2 : Int32) (x3 : Int64) (x5 : Int32) (r : Nat → Int32) (q : Nat → Nat → Int32), wp_X11_shares_12 K55 P n x1 x2 x3 x5 r q → GW p l e rm_X11_shares s m args below meth c D A 8 0 0 (MQ below (va_Qv P (RE D T m0 a A) A) args s 0 0 A) (RW m0 a T r q) 0 0 12 [(0, .ref m0), (1, .int x1), (2, .int x2), (3, .long x3), (5, .int x5)] [] := by
  have hw : ∀ {w : Cond}, w ∈ W0 → w.before args s = true := fun h => C.2.2.2.2.1 _ (List.mem_cons_of_mem _ h)
  intro n
  induction n with
  | zero => intro x1 x2 x3 x5 r q h; exact h.elim
  | succ n ih =>
    intro x1 x2 x3 x5 r q h
    replace h : wb_X11_shares_12 (wp_X11_shares_12 K55 P n) K55 P x1 x2 x3 x5 r q := h
    unfold wb_X11_shares_12 at h
    refine g_iload C dX11_shares_12 4 rfl ?_
    refine g_aload_n C dX11_shares_14 rfl 0 rfl ?_
    refine gr_get C iwx_X11 0 (hw kw_1809) (by decide) rfl rfl dX11_shares_15 ?_
    refine g_iconst (v := 1) C dX11_shares_18 (by decide) ?_
    obtain ⟨g3, h⟩ := h
    refine gr_ald_0 C g3 dX11_shares_19 ?_
    refine g_icmp_ge (tgt := 55) C dX11_shares_20 (by decide) (fun z4 => ?_) (fun z4 => ?_)
    · replace h := h.1 z4
      refine g_locals [0, 1, 2, 3] rfl ?_
      exact hK55 x1 x2 x3 r q h
    · replace h := h.2 z4
      refine g_iload_n C dX11_shares_23 rfl 1 rfl ?_
      refine g_iload C dX11_shares_24 4 rfl ?_
      refine gr_callSf C [.int x1, .int x5] rfl (k_X11_has l D T m0 a x1 x5 r q) (w0_S 2 C.2.2.2.2.1 kw_2178 kw_2179 kw_9 kw_2180 rfl rfl (by decide +kernel) ⟨by decide, by decide⟩) rfl (Nat.le_of_ble_eq_true rfl) (Nat.zero_le _) (Nat.zero_le _) dX11_shares_26 ?_
      refine g_if_eq (tgt := 49) C dX11_shares_29 (by decide) (fun z5 => ?_) (fun z5 => ?_)
      · replace h := h.1 z5
        obtain ⟨v6, ev6⟩ : ∃ y : Int32, y = x5 + 1 := ⟨_, rfl⟩
        replace h := h v6 ev6
        refine g_iinc (v := v6) (lv' := [(5, .int v6), (0, .ref m0), (1, .int x1), (2, .int x2), (3, .long x3)]) C dX11_shares_49 (j := 4) rfl (by rw [ev6]; rfl) (by decide) rfl ?_
        refine g_goto (tgt := 12) C dX11_shares_52 (by decide) ?_
        refine g_locals [1, 2, 3, 4, 0] rfl ?_
        exact ih x1 x2 x3 v6 r q h
      · replace h := h.2 z5
        refine g_aload_n C dX11_shares_32 rfl 0 rfl ?_
        refine g_iconst (v := 1) C dX11_shares_33 (by decide) ?_
        refine g_iload C dX11_shares_34 4 rfl ?_
        refine g_ishl C dX11_shares_36 ?_
        obtain ⟨g10, h⟩ := h
        refine gr_calliV C [.int (1 <<< (x5 &&& 31))] rfl (k_X11_reasonOf l D T m0 a (1 <<< (x5 &&& 31)) r q g10) (w0_V 1 C.2.2.2.2.1 kw_2171 kw_2173 ks_86 kw_9 kw_2174 rfl rfl (by decide +kernel) ⟨by decide, by decide⟩) rfl (Nat.le_of_ble_eq_true rfl) (Nat.zero_le _) (Nat.zero_le _) dX11_shares_37 (fun v7 r8 q9 hp => ?_)
        replace h := h v7 r8 q9 hp
        refine g_pop C dX11_shares_40 rfl ?_
        refine g_lload_n C dX11_shares_41 rfl 3 rfl ?_
        refine g_aload_n C dX11_shares_42 rfl 0 rfl ?_
        refine gr_get C iwx_X11 20 (hw kw_1829) (by decide) rfl rfl dX11_shares_43 ?_
        refine g_i2l C dX11_shares_46 rfl ?_
        refine g_ladd C dX11_shares_47 ?_
        refine g_topl (fun v11 ev11 => ?_)
        replace h := h v11 ev11
        refine g_lstore_n (lv' := [(3, .long v11), (0, .ref m0), (1, .int x1), (2, .int x2), (5, .int x5)]) C dX11_shares_48 rfl (by decide) rfl ?_
        obtain ⟨v12, ev12⟩ : ∃ y : Int32, y = x5 + 1 := ⟨_, rfl⟩
        replace h := h v12 ev12
        refine g_iinc (v := v12) (lv' := [(5, .int v12), (3, .long v11), (0, .ref m0), (1, .int x1), (2, .int x2)]) C dX11_shares_49 (j := 4) rfl (by rw [ev12]; rfl) (by decide) rfl ?_
        refine g_goto (tgt := 12) C dX11_shares_52 (by decide) ?_
        refine g_locals [2, 3, 4, 1, 0] rfl ?_
        exact ih x1 x2 v11 v12 r8 q9 h
def wb_X11_shares_61 (rec : Int32 → Int32 → Int64 → Int32 → Int32 → (Nat → Int32) → (Nat → Nat → Int32) → Prop) (K133 : Int32 → Int32 → (Nat → Int32) → (Nat → Nat → Int32) → Prop) (P : RST → Prop) (x1 : Int32) (x2 : Int32) (x3 : Int64) (x5 : Int32) (x6 : Int32) (r : Nat → Int32) (q : Nat → Nat → Int32) : Prop := vp_in 1 3334 ∧ (((q 0 (Int32.toNatClampNeg 1)) ≤ x6 → (K133 x1 x5 r q)) ∧ (¬ (q 0 (Int32.toNatClampNeg 1)) ≤ x6 → (((hasF x1 x6) = 0 → (∀ v21 : Int32, v21 = x6 + 1 → (rec x1 x2 x3 x5 v21 r q))) ∧ (¬ (hasF x1 x6) = 0 → ((WF (q 0) ∧ gok (q 0) (1 <<< (x6 &&& 31))) ∧ (∀ (v22 : Int32) (r23 : Nat → Int32) (q24 : Nat → Nat → Int32), (v22 = nI (rsnD (q 0) (iv (1 <<< (x6 &&& 31)))).1 ∧ q24 = q ∧ kR r r23 [17, 18, 19, 20, 21, 22, 23] ∧ (¬ (rsnD (q 0) (iv (1 <<< (x6 &&& 31)))).1 = 0 → r23 17 = (rsnD (q 0) (iv (1 <<< (x6 &&& 31)))).2) ∧ ((rsnD (q 0) (iv (1 <<< (x6 &&& 31)))).1 = 0 → r23 18 = gvF (q 0) (iv (1 <<< (x6 &&& 31))) ∧ r23 19 = gzF (q 0) (iv (1 <<< (x6 &&& 31))) ∧ r23 20 = wtF (q 0) (iv (gvF (q 0) (iv (1 <<< (x6 &&& 31))))) (iv (1 <<< (x6 &&& 31))) ∧ r23 21 = pcF (q 0) (iv (gvF (q 0) (iv (1 <<< (x6 &&& 31))))) (iv (1 <<< (x6 &&& 31))) ∧ r23 22 = lgF (q 0) (iv (gvF (q 0) (iv (1 <<< (x6 &&& 31))))) (iv (1 <<< (x6 &&& 31))) ∧ r23 23 = hdF (q 0) (iv (gvF (q 0) (iv (1 <<< (x6 &&& 31))))) (iv (1 <<< (x6 &&& 31))))) → (¬ x3 = 0 ∧ (∀ v27 : Int32, v27 = ((((x2).toInt64 * ((r23 20)).toInt64) / x3)).toInt32 → (vp_in ((14 + (26 * x6)) + 5) 3334 ∧ (∀ q29 : Nat → Nat → Int32, q29 = va_up q24 0 (upd (q24 0) (Int32.toNatClampNeg ((14 + (26 * x6)) + 5)) v27) → (∀ v30 : Int32, v30 = (x5 - v27) → (∀ v31 : Int32, v31 = x6 + 1 → (rec x1 x2 x3 v30 v31 r23 q29)))))))))))))
def wp_X11_shares_61 (K133 : Int32 → Int32 → (Nat → Int32) → (Nat → Nat → Int32) → Prop) (P : RST → Prop) : Nat → Int32 → Int32 → Int64 → Int32 → Int32 → (Nat → Int32) → (Nat → Nat → Int32) → Prop
  | 0 => fun _ _ _ _ _ _ _ => False
  | n + 1 => fun x1 x2 x3 x5 x6 r q => wb_X11_shares_61 (wp_X11_shares_61 K133 P n) K133 P x1 x2 x3 x5 x6 r q
set_option maxRecDepth 100000 in
set_option maxHeartbeats 4000000 in
theorem t_X11_shares_61 {p : Program} {l : Launch} {e : Env} {s : State} {m : MethodId} {args : Array Value} {below : List Frame} {meth : Method} {c : Code} {D : va_G} {A : Nat → Prop} {T : Nat → ClassId} {m0 : Nat} {a : Nat → Nat} (C : GC p s m args meth c cX11_shares "FreightRaterModel" (ws_X11_shares) 8 D A (zty T)) (hr : meth.sig.returnType = none) (K133 : Int32 → Int32 → (Nat → Int32) → (Nat → Nat → Int32) → Prop) (P : RST → Prop) (hK133 : ∀ (x1 : Int32) (x5 : Int32) (r : Nat → Int32) (q : Nat → Nat → Int32), K133 x1 x5 r q → GW p l e rm_X11_shares s m args below meth c D A 8 0 0 (MQ below (va_Qv P (RE D T m0 a A) A) args s 0 0 A) (RW m0 a T r q) 0 0 133 [(0, .ref m0), (1, .int x1), (5, .int x5)] []) : ∀ (n : Nat) (x1 : Int32) (x2 : Int32) (x3 : Int64) (x5 : Int32) (x6 : Int32) (r : Nat → Int32) (q : Nat → Nat → Int32), wp_X11_shares_61 K133 P n x1 x2 x3 x5 x6 r q → GW p l e rm_X11_shares s m args below meth c D A 8 0 0 (MQ below (va_Qv P (RE D T m0 a A) A) args s 0 0 A) (RW m0 a T r q) 0 0 61 [(0, .ref m0), (1, .int x1), (2, .int x2), (3, .long x3), (5, .int x5), (6, .int x6)] [] := by
  have hw : ∀ {w : Cond}, w ∈ W0 → w.before args s = true := fun h => C.2.2.2.2.1 _ (List.mem_cons_of_mem _ h)
  intro n
  induction n with
  | zero => intro x1 x2 x3 x5 x6 r q h; exact h.elim
  | succ n ih =>
    intro x1 x2 x3 x5 x6 r q h
    replace h : wb_X11_shares_61 (wp_X11_shares_61 K133 P n) K133 P x1 x2 x3 x5 x6 r q := h
    unfold wb_X11_shares_61 at h
    refine g_iload C dX11_shares_61 5 rfl ?_
    refine g_aload_n C dX11_shares_63 rfl 0 rfl ?_
    refine gr_get C iwx_X11 0 (hw kw_1809) (by decide) rfl rfl dX11_shares_64 ?_
    refine g_iconst (v := 1) C dX11_shares_67 (by decide) ?_
    obtain ⟨g18, h⟩ := h
    refine gr_ald_0 C g18 dX11_shares_68 ?_
    refine g_icmp_ge (tgt := 133) C dX11_shares_69 (by decide) (fun z19 => ?_) (fun z19 => ?_)
    · replace h := h.1 z19
      refine g_locals [0, 1, 4] rfl ?_
      exact hK133 x1 x5 r q h
    · replace h := h.2 z19
      refine g_iload_n C dX11_shares_72 rfl 1 rfl ?_
      refine g_iload C dX11_shares_73 5 rfl ?_
      refine gr_callSf C [.int x1, .int x6] rfl (k_X11_has l D T m0 a x1 x6 r q) (w0_S 2 C.2.2.2.2.1 kw_2178 kw_2179 kw_9 kw_2180 rfl rfl (by decide +kernel) ⟨by decide, by decide⟩) rfl (Nat.le_of_ble_eq_true rfl) (Nat.zero_le _) (Nat.zero_le _) dX11_shares_75 ?_
      refine g_if_eq (tgt := 127) C dX11_shares_78 (by decide) (fun z20 => ?_) (fun z20 => ?_)
      · replace h := h.1 z20
        obtain ⟨v21, ev21⟩ : ∃ y : Int32, y = x6 + 1 := ⟨_, rfl⟩
        replace h := h v21 ev21
        refine g_iinc (v := v21) (lv' := [(6, .int v21), (0, .ref m0), (1, .int x1), (2, .int x2), (3, .long x3), (5, .int x5)]) C dX11_shares_127 (j := 5) rfl (by rw [ev21]; rfl) (by decide) rfl ?_
        refine g_goto (tgt := 61) C dX11_shares_130 (by decide) ?_
        refine g_locals [1, 2, 3, 4, 5, 0] rfl ?_
        exact ih x1 x2 x3 x5 v21 r q h
      · replace h := h.2 z20
        refine g_aload_n C dX11_shares_81 rfl 0 rfl ?_
        refine g_iconst (v := 1) C dX11_shares_82 (by decide) ?_
        refine g_iload C dX11_shares_83 5 rfl ?_
        refine g_ishl C dX11_shares_85 ?_
        obtain ⟨g25, h⟩ := h
        refine gr_calliV C [.int (1 <<< (x6 &&& 31))] rfl (k_X11_reasonOf l D T m0 a (1 <<< (x6 &&& 31)) r q g25) (w0_V 1 C.2.2.2.2.1 kw_2171 kw_2173 ks_86 kw_9 kw_2174 rfl rfl (by decide +kernel) ⟨by decide, by decide⟩) rfl (Nat.le_of_ble_eq_true rfl) (Nat.zero_le _) (Nat.zero_le _) dX11_shares_86 (fun v22 r23 q24 hp => ?_)
        replace h := h v22 r23 q24 hp
        refine g_pop C dX11_shares_89 rfl ?_
        refine g_iload_n C dX11_shares_90 rfl 2 rfl ?_
        refine g_i2l C dX11_shares_91 rfl ?_
        refine g_aload_n C dX11_shares_92 rfl 0 rfl ?_
        refine gr_get C iwx_X11 20 (hw kw_1829) (by decide) rfl rfl dX11_shares_93 ?_
        refine g_i2l C dX11_shares_96 rfl ?_
        refine g_lmul C dX11_shares_97 ?_
        refine g_lload_n C dX11_shares_98 rfl 3 rfl ?_
        obtain ⟨g26, h⟩ := h
        refine g_ldiv C dX11_shares_99 g26 ?_
        refine g_l2i C dX11_shares_100 rfl ?_
        refine g_topi (fun v27 ev27 => ?_)
        replace h := h v27 ev27
        refine g_istore (lv' := [(7, .int v27), (0, .ref m0), (1, .int x1), (2, .int x2), (3, .long x3), (5, .int x5), (6, .int x6)]) C dX11_shares_101 (by decide) rfl ?_
        refine g_aload_n C dX11_shares_103 rfl 1 rfl ?_
        refine gr_get C iwx_X11 0 (hw kw_1809) (by decide) rfl rfl dX11_shares_104 ?_
        refine g_bipush (v := 14) C dX11_shares_107 (by decide) ?_
        refine g_bipush (v := 26) C dX11_shares_109 (by decide) ?_
        refine g_iload C dX11_shares_111 6 rfl ?_
        refine g_imul C dX11_shares_113 ?_
        refine g_iadd C dX11_shares_114 ?_
        refine g_iconst (v := 5) C dX11_shares_115 (by decide) ?_
        refine g_iadd C dX11_shares_116 ?_
        refine g_iload C dX11_shares_117 0 rfl ?_
        obtain ⟨g28, h⟩ := h
        refine gr_ast_0 C g28 dX11_shares_119 ?_
        refine gr_nq (fun q29 eq29 => ?_)
        replace h := h q29 eq29
        refine g_iload C dX11_shares_120 5 rfl ?_
        refine g_iload C dX11_shares_122 0 rfl ?_
        refine g_isub C dX11_shares_124 ?_
        refine g_topi (fun v30 ev30 => ?_)
        replace h := h v30 ev30
        refine g_istore (lv' := [(5, .int v30), (7, .int v27), (0, .ref m0), (1, .int x1), (2, .int x2), (3, .long x3), (6, .int x6)]) C dX11_shares_125 (by decide) rfl ?_
        obtain ⟨v31, ev31⟩ : ∃ y : Int32, y = x6 + 1 := ⟨_, rfl⟩
        replace h := h v31 ev31
        refine g_iinc (v := v31) (lv' := [(6, .int v31), (5, .int v30), (7, .int v27), (0, .ref m0), (1, .int x1), (2, .int x2), (3, .long x3)]) C dX11_shares_127 (j := 6) rfl (by rw [ev31]; rfl) (by decide) rfl ?_
        refine g_goto (tgt := 61) C dX11_shares_130 (by decide) ?_
        refine g_locals [3, 4, 5, 6, 1, 0] rfl ?_
        exact ih x1 x2 x3 v30 v31 r23 q29 h
def wb_X11_shares_136 (rec : Int32 → Int32 → Int32 → (Nat → Int32) → (Nat → Nat → Int32) → Prop) (P : RST → Prop) (x1 : Int32) (x5 : Int32) (x6 : Int32) (r : Nat → Int32) (q : Nat → Nat → Int32) : Prop := vp_in 1 3334 ∧ (((q 0 (Int32.toNatClampNeg 1)) ≤ x6 → (P (r, q))) ∧ (¬ (q 0 (Int32.toNatClampNeg 1)) ≤ x6 → (((hasF x1 x6) = 0 → (∀ v39 : Int32, v39 = x6 + 1 → (rec x1 x5 v39 r q))) ∧ (¬ (hasF x1 x6) = 0 → ((x5 ≤ 0 → (∀ v41 : Int32, v41 = x6 + 1 → (rec x1 x5 v41 r q))) ∧ (¬ x5 ≤ 0 → (vp_in ((14 + (26 * x6)) + 5) 3334 ∧ (vp_in ((14 + (26 * x6)) + 5) 3334 ∧ (∀ q44 : Nat → Nat → Int32, q44 = va_up q 0 (upd (q 0) (Int32.toNatClampNeg ((14 + (26 * x6)) + 5)) ((q 0 (Int32.toNatClampNeg ((14 + (26 * x6)) + 5))) + 1)) → (∀ v45 : Int32, v45 = x5 + (-1) → (∀ v46 : Int32, v46 = x6 + 1 → (rec x1 v45 v46 r q44))))))))))))
def wp_X11_shares_136 (P : RST → Prop) : Nat → Int32 → Int32 → Int32 → (Nat → Int32) → (Nat → Nat → Int32) → Prop
  | 0 => fun _ _ _ _ _ => False
  | n + 1 => fun x1 x5 x6 r q => wb_X11_shares_136 (wp_X11_shares_136  P n)  P x1 x5 x6 r q
set_option maxRecDepth 100000 in
set_option maxHeartbeats 4000000 in
theorem t_X11_shares_136 {p : Program} {l : Launch} {e : Env} {s : State} {m : MethodId} {args : Array Value} {below : List Frame} {meth : Method} {c : Code} {D : va_G} {A : Nat → Prop} {T : Nat → ClassId} {m0 : Nat} {a : Nat → Nat} (C : GC p s m args meth c cX11_shares "FreightRaterModel" (ws_X11_shares) 8 D A (zty T)) (hr : meth.sig.returnType = none) (P : RST → Prop) : ∀ (n : Nat) (x1 : Int32) (x5 : Int32) (x6 : Int32) (r : Nat → Int32) (q : Nat → Nat → Int32), wp_X11_shares_136  P n x1 x5 x6 r q → GW p l e rm_X11_shares s m args below meth c D A 8 0 0 (MQ below (va_Qv P (RE D T m0 a A) A) args s 0 0 A) (RW m0 a T r q) 0 0 136 [(0, .ref m0), (1, .int x1), (5, .int x5), (6, .int x6)] [] := by
  have hw : ∀ {w : Cond}, w ∈ W0 → w.before args s = true := fun h => C.2.2.2.2.1 _ (List.mem_cons_of_mem _ h)
  intro n
  induction n with
  | zero => intro x1 x5 x6 r q h; exact h.elim
  | succ n ih =>
    intro x1 x5 x6 r q h
    replace h : wb_X11_shares_136 (wp_X11_shares_136  P n)  P x1 x5 x6 r q := h
    unfold wb_X11_shares_136 at h
    refine g_iload C dX11_shares_136 3 rfl ?_
    refine g_aload_n C dX11_shares_138 rfl 0 rfl ?_
    refine gr_get C iwx_X11 0 (hw kw_1809) (by decide) rfl rfl dX11_shares_139 ?_
    refine g_iconst (v := 1) C dX11_shares_142 (by decide) ?_
    obtain ⟨g36, h⟩ := h
    refine gr_ald_0 C g36 dX11_shares_143 ?_
    refine g_icmp_ge (tgt := 189) C dX11_shares_144 (by decide) (fun z37 => ?_) (fun z37 => ?_)
    · replace h := h.1 z37
      exact gr_vret C hr dX11_shares_189 h
    · replace h := h.2 z37
      refine g_iload_n C dX11_shares_147 rfl 1 rfl ?_
      refine g_iload C dX11_shares_148 3 rfl ?_
      refine gr_callSf C [.int x1, .int x6] rfl (k_X11_has l D T m0 a x1 x6 r q) (w0_S 2 C.2.2.2.2.1 kw_2178 kw_2179 kw_9 kw_2180 rfl rfl (by decide +kernel) ⟨by decide, by decide⟩) rfl (Nat.le_of_ble_eq_true rfl) (Nat.zero_le _) (Nat.zero_le _) dX11_shares_150 ?_
      refine g_if_eq (tgt := 183) C dX11_shares_153 (by decide) (fun z38 => ?_) (fun z38 => ?_)
      · replace h := h.1 z38
        obtain ⟨v39, ev39⟩ : ∃ y : Int32, y = x6 + 1 := ⟨_, rfl⟩
        replace h := h v39 ev39
        refine g_iinc (v := v39) (lv' := [(6, .int v39), (0, .ref m0), (1, .int x1), (5, .int x5)]) C dX11_shares_183 (j := 3) rfl (by rw [ev39]; rfl) (by decide) rfl ?_
        refine g_goto (tgt := 136) C dX11_shares_186 (by decide) ?_
        refine g_locals [1, 2, 3, 0] rfl ?_
        exact ih x1 x5 v39 r q h
      · replace h := h.2 z38
        refine g_iload C dX11_shares_156 2 rfl ?_
        refine g_if_le (tgt := 183) C dX11_shares_158 (by decide) (fun z40 => ?_) (fun z40 => ?_)
        · replace h := h.1 z40
          obtain ⟨v41, ev41⟩ : ∃ y : Int32, y = x6 + 1 := ⟨_, rfl⟩
          replace h := h v41 ev41
          refine g_iinc (v := v41) (lv' := [(6, .int v41), (0, .ref m0), (1, .int x1), (5, .int x5)]) C dX11_shares_183 (j := 3) rfl (by rw [ev41]; rfl) (by decide) rfl ?_
          refine g_goto (tgt := 136) C dX11_shares_186 (by decide) ?_
          refine g_locals [1, 2, 3, 0] rfl ?_
          exact ih x1 x5 v41 r q h
        · replace h := h.2 z40
          refine g_aload_n C dX11_shares_161 rfl 0 rfl ?_
          refine gr_get C iwx_X11 0 (hw kw_1809) (by decide) rfl rfl dX11_shares_162 ?_
          refine g_bipush (v := 14) C dX11_shares_165 (by decide) ?_
          refine g_bipush (v := 26) C dX11_shares_167 (by decide) ?_
          refine g_iload C dX11_shares_169 3 rfl ?_
          refine g_imul C dX11_shares_171 ?_
          refine g_iadd C dX11_shares_172 ?_
          refine g_iconst (v := 5) C dX11_shares_173 (by decide) ?_
          refine g_iadd C dX11_shares_174 ?_
          refine g_dup2 C dX11_shares_175 rfl rfl ?_
          obtain ⟨g42, h⟩ := h
          refine gr_ald_0 C g42 dX11_shares_176 ?_
          refine g_iconst (v := 1) C dX11_shares_177 (by decide) ?_
          refine g_iadd C dX11_shares_178 ?_
          obtain ⟨g43, h⟩ := h
          refine gr_ast_0 C g43 dX11_shares_179 ?_
          refine gr_nq (fun q44 eq44 => ?_)
          replace h := h q44 eq44
          obtain ⟨v45, ev45⟩ : ∃ y : Int32, y = x5 + (-1) := ⟨_, rfl⟩
          replace h := h v45 ev45
          refine g_iinc (v := v45) (lv' := [(5, .int v45), (0, .ref m0), (1, .int x1), (6, .int x6)]) C dX11_shares_180 (j := 2) rfl (by rw [ev45]; rfl) (by decide) rfl ?_
          obtain ⟨v46, ev46⟩ : ∃ y : Int32, y = x6 + 1 := ⟨_, rfl⟩
          replace h := h v46 ev46
          refine g_iinc (v := v46) (lv' := [(6, .int v46), (5, .int v45), (0, .ref m0), (1, .int x1)]) C dX11_shares_183 (j := 3) rfl (by rw [ev46]; rfl) (by decide) rfl ?_
          refine g_goto (tgt := 136) C dX11_shares_186 (by decide) ?_
          refine g_locals [2, 3, 1, 0] rfl ?_
          exact ih x1 v45 v46 r q44 h
def wp_X11_shares (P : RST → Prop) (p0 : Int32) (r : Nat → Int32) (q : Nat → Nat → Int32) : Prop := vp_in p0 1024 ∧ (∀ v2 : Int32, v2 = (q 7 (Int32.toNatClampNeg p0)) → (∃ k49 : Nat, wp_X11_shares_12 (fun (y13 : Int32) (y14 : Int32) (y15 : Int64) (r16 : Nat → Int32) (q17 : Nat → Nat → Int32) => ∃ k48 : Nat, wp_X11_shares_61 (fun (y32 : Int32) (y33 : Int32) (r34 : Nat → Int32) (q35 : Nat → Nat → Int32) => ∃ k47 : Nat, wp_X11_shares_136  P k47 y32 y33 0 r34 q35) P k48 y13 y14 y15 y14 0 r16 q17) P k49 p0 v2 0 0 r q))
set_option maxRecDepth 100000 in
set_option maxHeartbeats 4000000 in
theorem t_X11_shares {p : Program} {l : Launch} {e : Env} {s : State} {m : MethodId} {args : Array Value} {below : List Frame} {meth : Method} {c : Code} {D : va_G} {A : Nat → Prop} {T : Nat → ClassId} {m0 : Nat} {a : Nat → Nat} (C : GC p s m args meth c cX11_shares "FreightRaterModel" (ws_X11_shares) 8 D A (zty T)) (hr : meth.sig.returnType = none) (P : RST → Prop) : ∀ (p0 : Int32) (r : Nat → Int32) (q : Nat → Nat → Int32), wp_X11_shares P p0 r q → GW p l e rm_X11_shares s m args below meth c D A 8 0 0 (MQ below (va_Qv P (RE D T m0 a A) A) args s 0 0 A) (RW m0 a T r q) 0 0 0 [(0, .ref m0), (1, .int p0)] [] := by
  have hw : ∀ {w : Cond}, w ∈ W0 → w.before args s = true := fun h => C.2.2.2.2.1 _ (List.mem_cons_of_mem _ h)
  intro p0 r q h
  unfold wp_X11_shares at h
  refine g_aload_n C dX11_shares_0 rfl 0 rfl ?_
  refine gr_get C iwx_X11 31 (hw kw_1840) (by decide) rfl rfl dX11_shares_1 ?_
  refine g_iload_n C dX11_shares_4 rfl 1 rfl ?_
  obtain ⟨g1, h⟩ := h
  refine gr_ald_7 C g1 dX11_shares_5 ?_
  refine g_topi (fun v2 ev2 => ?_)
  replace h := h v2 ev2
  refine g_istore_n (lv' := [(2, .int v2), (0, .ref m0), (1, .int p0)]) C dX11_shares_6 rfl (by decide) rfl ?_
  refine g_lconst (v := 0) C dX11_shares_7 rfl ?_
  refine g_lstore_n (lv' := [(3, .long 0), (2, .int v2), (0, .ref m0), (1, .int p0)]) C dX11_shares_8 rfl (by decide) rfl ?_
  refine g_iconst (v := 0) C dX11_shares_9 (by decide) ?_
  refine g_istore (lv' := [(5, .int 0), (3, .long 0), (2, .int v2), (0, .ref m0), (1, .int p0)]) C dX11_shares_10 (by decide) rfl ?_
  refine g_locals [3, 4, 2, 1, 0] rfl ?_
  obtain ⟨k49, h⟩ := h
  refine t_X11_shares_12 C hr _ P ?_ k49 p0 v2 0 0 r q h
  · intro y13 y14 y15 r16 q17 h
    refine g_iload_n C dX11_shares_55 rfl 2 rfl ?_
    refine g_istore (lv' := [(5, .int y14), (0, .ref m0), (1, .int y13), (2, .int y14), (3, .long y15)]) C dX11_shares_56 (by decide) rfl ?_
    refine g_iconst (v := 0) C dX11_shares_58 (by decide) ?_
    refine g_istore (lv' := [(6, .int 0), (5, .int y14), (0, .ref m0), (1, .int y13), (2, .int y14), (3, .long y15)]) C dX11_shares_59 (by decide) rfl ?_
    refine g_locals [2, 3, 4, 5, 1, 0] rfl ?_
    obtain ⟨k48, h⟩ := h
    refine t_X11_shares_61 C hr _ P ?_ k48 y13 y14 y15 y14 0 r16 q17 h
    · intro y32 y33 r34 q35 h
      refine g_iconst (v := 0) C dX11_shares_133 (by decide) ?_
      refine g_istore (lv' := [(6, .int 0), (0, .ref m0), (1, .int y32), (5, .int y33)]) C dX11_shares_134 (by decide) rfl ?_
      refine g_locals [1, 2, 3, 0] rfl ?_
      obtain ⟨k47, h⟩ := h
      refine t_X11_shares_136 C hr  P  k47 y32 y33 0 r34 q35 h
theorem c_X11_shares (l : Launch) (D : va_G) (T : Nat → ClassId) (m0 : Nat) (a : Nat → Nat) (p0 : Int32) (r : Nat → Int32) (q : Nat → Nat → Int32) (P : RST → Prop) (h : wp_X11_shares P p0 r q) : RMv l yX11_shares (ws_X11_shares) rm_X11_shares D T m0 a [.ref m0, .int p0] r q P := gr_metv (by decide) rfl rfl (Nat.le_of_ble_eq_true rfl) (fun p e s m args below meth c A C hr => t_X11_shares C hr P p0 r q h)
def wb_X11_amend_31 (rec : Int32 → Int32 → (Nat → Int32) → (Nat → Nat → Int32) → Prop) (K49 : Int32 → (Nat → Int32) → (Nat → Nat → Int32) → Prop) (P : Int32 → RST → Prop) (x1 : Int32) (x2 : Int32) (r : Nat → Int32) (q : Nat → Nat → Int32) : Prop := (x2 = 0 → (K49 x1 r q)) ∧ (¬ x2 = 0 → ((psO r ∧ (pσ r).2 = false ∧ tsL r ∧ smX r) ∧ (∀ (r9 : Nat → Int32) (q10 : Nat → Nat → Int32), (smP r q r9 q10) → ((psO r9 ∧ ¬ 59 = (-1 : Int32)) ∧ (∀ (v12 : Int32) (r13 : Nat → Int32) (q14 : Nat → Nat → Int32), (v12 = b2i (tkB (q10 4) (iv (r9 8)) (pσ r9) 59) ∧ q14 = q10 ∧ kR r9 r13 [10] ∧ psO r13 ∧ pσ r13 = tkS (q10 4) (iv (r9 8)) (pσ r9) 59) → (rec x1 v12 r13 q14))))))
def wp_X11_amend_31 (K49 : Int32 → (Nat → Int32) → (Nat → Nat → Int32) → Prop) (P : Int32 → RST → Prop) : Nat → Int32 → Int32 → (Nat → Int32) → (Nat → Nat → Int32) → Prop
  | 0 => fun _ _ _ _ => False
  | n + 1 => fun x1 x2 r q => wb_X11_amend_31 (wp_X11_amend_31 K49 P n) K49 P x1 x2 r q
set_option maxRecDepth 100000 in
set_option maxHeartbeats 4000000 in
theorem t_X11_amend_31 {p : Program} {l : Launch} {e : Env} {s : State} {m : MethodId} {args : Array Value} {below : List Frame} {meth : Method} {c : Code} {D : va_G} {A : Nat → Prop} {T : Nat → ClassId} {m0 : Nat} {a : Nat → Nat} (C : GC p s m args meth c cX11_amend "FreightRaterModel" (ws_X11_amend) 6 D A (zty T)) (hr : meth.sig.returnType = (some .int)) (K49 : Int32 → (Nat → Int32) → (Nat → Nat → Int32) → Prop) (P : Int32 → RST → Prop) (hK49 : ∀ (x1 : Int32) (r : Nat → Int32) (q : Nat → Nat → Int32), K49 x1 r q → GW p l e rm_X11_amend s m args below meth c D A 6 0 0 (MQ below (va_Qi P (RE D T m0 a A) A) args s 0 0 A) (RW m0 a T r q) 0 0 49 [(0, .ref m0), (1, .int x1)] []) : ∀ (n : Nat) (x1 : Int32) (x2 : Int32) (r : Nat → Int32) (q : Nat → Nat → Int32), wp_X11_amend_31 K49 P n x1 x2 r q → GW p l e rm_X11_amend s m args below meth c D A 6 0 0 (MQ below (va_Qi P (RE D T m0 a A) A) args s 0 0 A) (RW m0 a T r q) 0 0 31 [(0, .ref m0), (1, .int x1), (2, .int x2)] [] := by
  have hw : ∀ {w : Cond}, w ∈ W0 → w.before args s = true := fun h => C.2.2.2.2.1 _ (List.mem_cons_of_mem _ h)
  intro n
  induction n with
  | zero => intro x1 x2 r q h; exact h.elim
  | succ n ih =>
    intro x1 x2 r q h
    replace h : wb_X11_amend_31 (wp_X11_amend_31 K49 P n) K49 P x1 x2 r q := h
    unfold wb_X11_amend_31 at h
    refine g_iload_n C dX11_amend_31 rfl 2 rfl ?_
    refine g_if_eq (tgt := 49) C dX11_amend_32 (by decide) (fun z7 => ?_) (fun z7 => ?_)
    · replace h := h.1 z7
      refine g_locals [0, 1] rfl ?_
      exact hK49 x1 r q h
    · replace h := h.2 z7
      refine g_aload_n C dX11_amend_35 rfl 0 rfl ?_
      obtain ⟨g11, h⟩ := h
      refine gr_callvV C [] rfl (k_X11_readStatement l D T m0 a  r q g11) (w0_V 0 C.2.2.2.2.1 kw_2034 kw_2036 ks_61 kw_9 kw_2037 rfl rfl (by decide +kernel) ⟨by decide, by decide⟩) rfl (Nat.le_of_ble_eq_true rfl) (Nat.zero_le _) (Nat.zero_le _) dX11_amend_36 (fun r9 q10 hp => ?_)
      replace h := h r9 q10 hp
      refine g_aload_n C dX11_amend_39 rfl 0 rfl ?_
      refine g_bipush (v := 59) C dX11_amend_40 (by decide) ?_
      obtain ⟨g15, h⟩ := h
      refine gr_calliV C [.int 59] rfl (k_X11_takes l D T m0 a 59 r9 q10 g15) (w0_V 1 C.2.2.2.2.1 kw_2054 kw_2056 ks_66 kw_9 kw_2057 rfl rfl (by decide +kernel) ⟨by decide, by decide⟩) rfl (Nat.le_of_ble_eq_true rfl) (Nat.zero_le _) (Nat.zero_le _) dX11_amend_42 (fun v12 r13 q14 hp => ?_)
      replace h := h v12 r13 q14 hp
      refine g_istore_n (lv' := [(2, .int v12), (0, .ref m0), (1, .int x1)]) C dX11_amend_45 rfl (by decide) rfl ?_
      refine g_goto (tgt := 31) C dX11_amend_46 (by decide) ?_
      refine g_locals [1, 2, 0] rfl ?_
      exact ih x1 v12 r13 q14 h
def wb_X11_amend_99 (rec : Int32 → Int32 → (Nat → Int32) → (Nat → Nat → Int32) → Prop) (K127 : Int32 → (Nat → Int32) → (Nat → Nat → Int32) → Prop) (P : Int32 → RST → Prop) (x1 : Int32) (x4 : Int32) (r : Nat → Int32) (q : Nat → Nat → Int32) : Prop := (3334 ≤ x4 → (K127 x1 r q)) ∧ (¬ 3334 ≤ x4 → (vp_in x4 3334 ∧ (vp_in x4 3334 ∧ (∀ q27 : Nat → Nat → Int32, q27 = va_up q 2 (upd (q 2) (Int32.toNatClampNeg x4) (q 0 (Int32.toNatClampNeg x4))) → (∀ v28 : Int32, v28 = x4 + 1 → (rec x1 v28 r q27))))))
def wp_X11_amend_99 (K127 : Int32 → (Nat → Int32) → (Nat → Nat → Int32) → Prop) (P : Int32 → RST → Prop) : Nat → Int32 → Int32 → (Nat → Int32) → (Nat → Nat → Int32) → Prop
  | 0 => fun _ _ _ _ => False
  | n + 1 => fun x1 x4 r q => wb_X11_amend_99 (wp_X11_amend_99 K127 P n) K127 P x1 x4 r q
set_option maxRecDepth 100000 in
set_option maxHeartbeats 4000000 in
theorem t_X11_amend_99 {p : Program} {l : Launch} {e : Env} {s : State} {m : MethodId} {args : Array Value} {below : List Frame} {meth : Method} {c : Code} {D : va_G} {A : Nat → Prop} {T : Nat → ClassId} {m0 : Nat} {a : Nat → Nat} (C : GC p s m args meth c cX11_amend "FreightRaterModel" (ws_X11_amend) 6 D A (zty T)) (hr : meth.sig.returnType = (some .int)) (K127 : Int32 → (Nat → Int32) → (Nat → Nat → Int32) → Prop) (P : Int32 → RST → Prop) (hK127 : ∀ (x1 : Int32) (r : Nat → Int32) (q : Nat → Nat → Int32), K127 x1 r q → GW p l e rm_X11_amend s m args below meth c D A 6 0 0 (MQ below (va_Qi P (RE D T m0 a A) A) args s 0 0 A) (RW m0 a T r q) 0 0 127 [(0, .ref m0), (1, .int x1)] []) : ∀ (n : Nat) (x1 : Int32) (x4 : Int32) (r : Nat → Int32) (q : Nat → Nat → Int32), wp_X11_amend_99 K127 P n x1 x4 r q → GW p l e rm_X11_amend s m args below meth c D A 6 0 0 (MQ below (va_Qi P (RE D T m0 a A) A) args s 0 0 A) (RW m0 a T r q) 0 0 99 [(0, .ref m0), (1, .int x1), (4, .int x4)] [] := by
  have hw : ∀ {w : Cond}, w ∈ W0 → w.before args s = true := fun h => C.2.2.2.2.1 _ (List.mem_cons_of_mem _ h)
  intro n
  induction n with
  | zero => intro x1 x4 r q h; exact h.elim
  | succ n ih =>
    intro x1 x4 r q h
    replace h : wb_X11_amend_99 (wp_X11_amend_99 K127 P n) K127 P x1 x4 r q := h
    unfold wb_X11_amend_99 at h
    refine g_iload C dX11_amend_99 2 rfl ?_
    refine g_sipush (v := 3334) C dX11_amend_101 (by decide) ?_
    refine g_icmp_ge (tgt := 127) C dX11_amend_104 (by decide) (fun z24 => ?_) (fun z24 => ?_)
    · replace h := h.1 z24
      refine g_locals [0, 1] rfl ?_
      exact hK127 x1 r q h
    · replace h := h.2 z24
      refine g_aload_n C dX11_amend_107 rfl 0 rfl ?_
      refine gr_get C iwx_X11 2 (hw kw_1811) (by decide) rfl rfl dX11_amend_108 ?_
      refine g_iload C dX11_amend_111 2 rfl ?_
      refine g_aload_n C dX11_amend_113 rfl 0 rfl ?_
      refine gr_get C iwx_X11 0 (hw kw_1809) (by decide) rfl rfl dX11_amend_114 ?_
      refine g_iload C dX11_amend_117 2 rfl ?_
      obtain ⟨g25, h⟩ := h
      refine gr_ald_0 C g25 dX11_amend_119 ?_
      obtain ⟨g26, h⟩ := h
      refine gr_ast_2 C g26 dX11_amend_120 ?_
      refine gr_nq (fun q27 eq27 => ?_)
      replace h := h q27 eq27
      obtain ⟨v28, ev28⟩ : ∃ y : Int32, y = x4 + 1 := ⟨_, rfl⟩
      replace h := h v28 ev28
      refine g_iinc (v := v28) (lv' := [(4, .int v28), (0, .ref m0), (1, .int x1)]) C dX11_amend_121 (j := 2) rfl (by rw [ev28]; rfl) (by decide) rfl ?_
      refine g_goto (tgt := 99) C dX11_amend_124 (by decide) ?_
      refine g_locals [1, 2, 0] rfl ?_
      exact ih x1 v28 r q27 h
def wb_X11_amend_130 (rec : Int32 → Int32 → (Nat → Int32) → (Nat → Nat → Int32) → Prop) (K152 : Int32 → (Nat → Int32) → (Nat → Nat → Int32) → Prop) (P : Int32 → RST → Prop) (x1 : Int32) (x4 : Int32) (r : Nat → Int32) (q : Nat → Nat → Int32) : Prop := ((r 13) ≤ x4 → ((CW8 r) ∧ (∀ (r34 : Nat → Int32) (q35 : Nat → Nat → Int32), (kR r r34 [5] ∧ kQ q q35 [3] ∧ psh (q 3) (q35 3) (q 2) (r 5) (r34 5)) → (P (r34 13) (r34, q35))))) ∧ (¬ (r 13) ≤ x4 → ((WF (q 0) ∧ vix x1 ∧ s8 (8 * x4) ∧ crO (q 5) (iv (8 * x4))) ∧ (∀ (v37 : Int32) (r38 : Nat → Int32) (q39 : Nat → Nat → Int32), (v37 = b2i (crB (q 0) (iv x1) (q 5 (iv (8 * x4))) (q 5 (iv (8 * x4) + 1)) (q 5 (iv (8 * x4) + 2)) (q 5 (iv (8 * x4) + 3))) ∧ r38 = r ∧ kQ q q39 [0] ∧ (crB (q 0) (iv x1) (q 5 (iv (8 * x4))) (q 5 (iv (8 * x4) + 1)) (q 5 (iv (8 * x4) + 2)) (q 5 (iv (8 * x4) + 3)) = true → q39 0 = crS (q 0) (iv x1) (q 5 (iv (8 * x4))) (q 5 (iv (8 * x4) + 1)) (q 5 (iv (8 * x4) + 2)) (q 5 (iv (8 * x4) + 3)) (q 5 (iv (8 * x4) + 5)) (q 5 (iv (8 * x4) + 6) - q 5 (iv (8 * x4) + 4)) (fun j => q 6 (iv (q 5 (iv (8 * x4) + 4)) + j)) (q 5 (iv (8 * x4) + 7)))) → ((¬ v37 = 0 → (∀ v42 : Int32, v42 = x4 + 1 → (rec x1 v42 r38 q39))) ∧ (v37 = 0 → (K152 x4 r38 q39))))))
def wp_X11_amend_130 (K152 : Int32 → (Nat → Int32) → (Nat → Nat → Int32) → Prop) (P : Int32 → RST → Prop) : Nat → Int32 → Int32 → (Nat → Int32) → (Nat → Nat → Int32) → Prop
  | 0 => fun _ _ _ _ => False
  | n + 1 => fun x1 x4 r q => wb_X11_amend_130 (wp_X11_amend_130 K152 P n) K152 P x1 x4 r q
set_option maxRecDepth 100000 in
set_option maxHeartbeats 4000000 in
theorem t_X11_amend_130 {p : Program} {l : Launch} {e : Env} {s : State} {m : MethodId} {args : Array Value} {below : List Frame} {meth : Method} {c : Code} {D : va_G} {A : Nat → Prop} {T : Nat → ClassId} {m0 : Nat} {a : Nat → Nat} (C : GC p s m args meth c cX11_amend "FreightRaterModel" (ws_X11_amend) 6 D A (zty T)) (hr : meth.sig.returnType = (some .int)) (K152 : Int32 → (Nat → Int32) → (Nat → Nat → Int32) → Prop) (P : Int32 → RST → Prop) (hK152 : ∀ (x4 : Int32) (r : Nat → Int32) (q : Nat → Nat → Int32), K152 x4 r q → GW p l e rm_X11_amend s m args below meth c D A 6 0 0 (MQ below (va_Qi P (RE D T m0 a A) A) args s 0 0 A) (RW m0 a T r q) 0 0 152 [(0, .ref m0), (4, .int x4)] []) : ∀ (n : Nat) (x1 : Int32) (x4 : Int32) (r : Nat → Int32) (q : Nat → Nat → Int32), wp_X11_amend_130 K152 P n x1 x4 r q → GW p l e rm_X11_amend s m args below meth c D A 6 0 0 (MQ below (va_Qi P (RE D T m0 a A) A) args s 0 0 A) (RW m0 a T r q) 0 0 130 [(0, .ref m0), (1, .int x1), (4, .int x4)] [] := by
  have hw : ∀ {w : Cond}, w ∈ W0 → w.before args s = true := fun h => C.2.2.2.2.1 _ (List.mem_cons_of_mem _ h)
  intro n
  induction n with
  | zero => intro x1 x4 r q h; exact h.elim
  | succ n ih =>
    intro x1 x4 r q h
    replace h : wb_X11_amend_130 (wp_X11_amend_130 K152 P n) K152 P x1 x4 r q := h
    unfold wb_X11_amend_130 at h
    refine g_iload C dX11_amend_130 2 rfl ?_
    refine g_aload_n C dX11_amend_132 rfl 0 rfl ?_
    refine gr_get C iwx_X11 13 (hw kw_1822) (by decide) rfl rfl dX11_amend_133 ?_
    refine g_icmp_ge (tgt := 201) C dX11_amend_136 (by decide) (fun z32 => ?_) (fun z32 => ?_)
    · replace h := h.1 z32
      refine g_aload_n C dX11_amend_201 rfl 0 rfl ?_
      refine g_aload_n C dX11_amend_202 rfl 0 rfl ?_
      refine gr_get C iwx_X11 2 (hw kw_1811) (by decide) rfl rfl dX11_amend_203 ?_
      obtain ⟨g36, h⟩ := h
      refine gr_callvV C [.ref (a 2)] rfl (k_X11_keepAs_2 l D T m0 a  r q g36) (w0_V 1 C.2.2.2.2.1 kw_1958 kw_1960 ks_52 kw_9 kw_1961 rfl rfl (by decide +kernel) ⟨by decide, by decide⟩) rfl (Nat.le_of_ble_eq_true rfl) (Nat.zero_le _) (Nat.zero_le _) dX11_amend_206 (fun r34 q35 hp => ?_)
      replace h := h r34 q35 hp
      refine g_aload_n C dX11_amend_209 rfl 0 rfl ?_
      refine gr_get C iwx_X11 13 (hw kw_1822) (by decide) rfl rfl dX11_amend_210 ?_
      exact gr_iret C hr dX11_amend_213 h
    · replace h := h.2 z32
      refine g_aload_n C dX11_amend_139 rfl 0 rfl ?_
      refine g_iload_n C dX11_amend_140 rfl 1 rfl ?_
      refine g_bipush (v := 8) C dX11_amend_141 (by decide) ?_
      refine g_iload C dX11_amend_143 2 rfl ?_
      refine g_imul C dX11_amend_145 ?_
      obtain ⟨g40, h⟩ := h
      refine gr_calliV C [.int x1, .int (8 * x4)] rfl (k_X11_carries l D T m0 a x1 (8 * x4) r q g40) (w0_V 2 C.2.2.2.2.1 kw_2080 kw_2082 ks_71 kw_9 kw_2083 rfl rfl (by decide +kernel) ⟨by decide, by decide⟩) rfl (Nat.le_of_ble_eq_true rfl) (Nat.zero_le _) (Nat.zero_le _) dX11_amend_146 (fun v37 r38 q39 hp => ?_)
      replace h := h v37 r38 q39 hp
      refine g_if_ne (tgt := 195) C dX11_amend_149 (by decide) (fun z41 => ?_) (fun z41 => ?_)
      · replace h := h.1 z41
        obtain ⟨v42, ev42⟩ : ∃ y : Int32, y = x4 + 1 := ⟨_, rfl⟩
        replace h := h v42 ev42
        refine g_iinc (v := v42) (lv' := [(4, .int v42), (0, .ref m0), (1, .int x1)]) C dX11_amend_195 (j := 2) rfl (by rw [ev42]; rfl) (by decide) rfl ?_
        refine g_goto (tgt := 130) C dX11_amend_198 (by decide) ?_
        refine g_locals [1, 2, 0] rfl ?_
        exact ih x1 v42 r38 q39 h
      · replace h := h.2 z41
        refine g_locals [0, 2] rfl ?_
        exact hK152 x4 r38 q39 h
def wb_X11_amend_161 (rec : Int32 → (Nat → Int32) → (Nat → Nat → Int32) → Prop) (P : Int32 → RST → Prop) (x5 : Int32) (r : Nat → Int32) (q : Nat → Nat → Int32) : Prop := (3334 ≤ x5 → (∀ (v48 : Int32) (r49 : Nat → Int32) (q50 : Nat → Nat → Int32), (v48 = 0 ∧ r49 = va_up r 6 2 ∧ q50 = q) → (P v48 (r49, q50)))) ∧ (¬ 3334 ≤ x5 → (vp_in x5 3334 ∧ (vp_in x5 3334 ∧ (∀ q53 : Nat → Nat → Int32, q53 = va_up q 0 (upd (q 0) (Int32.toNatClampNeg x5) (q 2 (Int32.toNatClampNeg x5))) → (∀ v54 : Int32, v54 = x5 + 1 → (rec v54 r q53))))))
def wp_X11_amend_161 (P : Int32 → RST → Prop) : Nat → Int32 → (Nat → Int32) → (Nat → Nat → Int32) → Prop
  | 0 => fun _ _ _ => False
  | n + 1 => fun x5 r q => wb_X11_amend_161 (wp_X11_amend_161  P n)  P x5 r q
set_option maxRecDepth 100000 in
set_option maxHeartbeats 4000000 in
theorem t_X11_amend_161 {p : Program} {l : Launch} {e : Env} {s : State} {m : MethodId} {args : Array Value} {below : List Frame} {meth : Method} {c : Code} {D : va_G} {A : Nat → Prop} {T : Nat → ClassId} {m0 : Nat} {a : Nat → Nat} (C : GC p s m args meth c cX11_amend "FreightRaterModel" (ws_X11_amend) 6 D A (zty T)) (hr : meth.sig.returnType = (some .int)) (P : Int32 → RST → Prop) : ∀ (n : Nat) (x5 : Int32) (r : Nat → Int32) (q : Nat → Nat → Int32), wp_X11_amend_161  P n x5 r q → GW p l e rm_X11_amend s m args below meth c D A 6 0 0 (MQ below (va_Qi P (RE D T m0 a A) A) args s 0 0 A) (RW m0 a T r q) 0 0 161 [(0, .ref m0), (5, .int x5)] [] := by
  have hw : ∀ {w : Cond}, w ∈ W0 → w.before args s = true := fun h => C.2.2.2.2.1 _ (List.mem_cons_of_mem _ h)
  intro n
  induction n with
  | zero => intro x5 r q h; exact h.elim
  | succ n ih =>
    intro x5 r q h
    replace h : wb_X11_amend_161 (wp_X11_amend_161  P n)  P x5 r q := h
    unfold wb_X11_amend_161 at h
    refine g_iload C dX11_amend_161 1 rfl ?_
    refine g_sipush (v := 3334) C dX11_amend_163 (by decide) ?_
    refine g_icmp_ge (tgt := 189) C dX11_amend_166 (by decide) (fun z47 => ?_) (fun z47 => ?_)
    · replace h := h.1 z47
      refine g_aload_n C dX11_amend_189 rfl 0 rfl ?_
      refine g_iconst (v := 2) C dX11_amend_190 (by decide) ?_
      refine gr_calliV C [.int 2] rfl (k_X11_refuse l D T m0 a 2 r q) (w0_V 1 C.2.2.2.2.1 kw_1950 kw_1952 ks_50 kw_9 kw_1953 rfl rfl (by decide +kernel) ⟨by decide, by decide⟩) rfl (Nat.le_of_ble_eq_true rfl) (Nat.zero_le _) (Nat.zero_le _) dX11_amend_191 (fun v48 r49 q50 hp => ?_)
      replace h := h v48 r49 q50 hp
      exact gr_iret C hr dX11_amend_194 h
    · replace h := h.2 z47
      refine g_aload_n C dX11_amend_169 rfl 0 rfl ?_
      refine gr_get C iwx_X11 0 (hw kw_1809) (by decide) rfl rfl dX11_amend_170 ?_
      refine g_iload C dX11_amend_173 1 rfl ?_
      refine g_aload_n C dX11_amend_175 rfl 0 rfl ?_
      refine gr_get C iwx_X11 2 (hw kw_1811) (by decide) rfl rfl dX11_amend_176 ?_
      refine g_iload C dX11_amend_179 1 rfl ?_
      obtain ⟨g51, h⟩ := h
      refine gr_ald_2 C g51 dX11_amend_181 ?_
      obtain ⟨g52, h⟩ := h
      refine gr_ast_0 C g52 dX11_amend_182 ?_
      refine gr_nq (fun q53 eq53 => ?_)
      replace h := h q53 eq53
      obtain ⟨v54, ev54⟩ : ∃ y : Int32, y = x5 + 1 := ⟨_, rfl⟩
      replace h := h v54 ev54
      refine g_iinc (v := v54) (lv' := [(5, .int v54), (0, .ref m0)]) C dX11_amend_183 (j := 1) rfl (by rw [ev54]; rfl) (by decide) rfl ?_
      refine g_goto (tgt := 161) C dX11_amend_186 (by decide) ?_
      refine g_locals [1, 0] rfl ?_
      exact ih v54 r q53 h
def wp_X11_amend (P : Int32 → RST → Prop) (p0 : Int32) (r : Nat → Int32) (q : Nat → Nat → Int32) : Prop := ∀ r1 : Nat → Int32, r1 = va_up r 6 0 → (∀ r2 : Nat → Int32, r2 = va_up r1 10 0 → (∀ r3 : Nat → Int32, r3 = va_up r2 11 0 → (∀ r4 : Nat → Int32, r4 = va_up r3 13 0 → (∀ r5 : Nat → Int32, r5 = va_up r4 15 0 → (∀ v6 : Int32, v6 = (zin p0 0 (q 0 0 - 1)) → (∃ k61 : Nat, wp_X11_amend_31 (fun (y16 : Int32) (r17 : Nat → Int32) (q18 : Nat → Nat → Int32) => ∀ v19 : Int32, v19 = (r17 8) → (∀ r20 : Nat → Int32, r20 = va_up r17 8 0 → ((¬ (zin y16 0 (q18 0 0 - 1)) = 0 → ((¬ (r20 11) = 0 → (P ((-100) - (r20 10)) (r20, q18))) ∧ ((r20 11) = 0 → ((v19 ≤ (r20 10) → (∃ k57 : Nat, wp_X11_amend_99 (fun (y29 : Int32) (r30 : Nat → Int32) (q31 : Nat → Nat → Int32) => ∃ k56 : Nat, wp_X11_amend_130 (fun (y43 : Int32) (r44 : Nat → Int32) (q45 : Nat → Nat → Int32) => ∀ r46 : Nat → Int32, r46 = va_up r44 12 y43 → (∃ k55 : Nat, wp_X11_amend_161  P k55 0 r46 q45)) P k56 y29 0 r30 q31) P k57 y16 0 r20 q18)) ∧ (¬ v19 ≤ (r20 10) → (P ((-100) - (r20 10)) (r20, q18))))))) ∧ ((zin y16 0 (q18 0 0 - 1)) = 0 → (∀ (v58 : Int32) (r59 : Nat → Int32) (q60 : Nat → Nat → Int32), (v58 = 0 ∧ r59 = va_up r20 6 1 ∧ q60 = q18) → (P v58 (r59, q60))))))) P k61 p0 v6 r5 q))))))
set_option maxRecDepth 100000 in
set_option maxHeartbeats 4000000 in
theorem t_X11_amend {p : Program} {l : Launch} {e : Env} {s : State} {m : MethodId} {args : Array Value} {below : List Frame} {meth : Method} {c : Code} {D : va_G} {A : Nat → Prop} {T : Nat → ClassId} {m0 : Nat} {a : Nat → Nat} (C : GC p s m args meth c cX11_amend "FreightRaterModel" (ws_X11_amend) 6 D A (zty T)) (hr : meth.sig.returnType = (some .int)) (P : Int32 → RST → Prop) : ∀ (p0 : Int32) (r : Nat → Int32) (q : Nat → Nat → Int32), wp_X11_amend P p0 r q → GW p l e rm_X11_amend s m args below meth c D A 6 0 0 (MQ below (va_Qi P (RE D T m0 a A) A) args s 0 0 A) (RW m0 a T r q) 0 0 0 [(0, .ref m0), (1, .int p0)] [] := by
  have hw : ∀ {w : Cond}, w ∈ W0 → w.before args s = true := fun h => C.2.2.2.2.1 _ (List.mem_cons_of_mem _ h)
  intro p0 r q h
  unfold wp_X11_amend at h
  refine g_aload_n C dX11_amend_0 rfl 0 rfl ?_
  refine g_iconst (v := 0) C dX11_amend_1 (by decide) ?_
  refine gr_put_6 C iwx_X11 (hw kw_1815) dX11_amend_2 ?_
  refine gr_nr (fun r1 er1 => ?_)
  replace h := h r1 er1
  refine g_aload_n C dX11_amend_5 rfl 0 rfl ?_
  refine g_iconst (v := 0) C dX11_amend_6 (by decide) ?_
  refine gr_put_10 C iwx_X11 (hw kw_1819) dX11_amend_7 ?_
  refine gr_nr (fun r2 er2 => ?_)
  replace h := h r2 er2
  refine g_aload_n C dX11_amend_10 rfl 0 rfl ?_
  refine g_iconst (v := 0) C dX11_amend_11 (by decide) ?_
  refine gr_put_11 C iwx_X11 vz0 (hw kw_1820) dX11_amend_12 ?_
  refine gr_nr (fun r3 er3 => ?_)
  replace h := h r3 er3
  refine g_aload_n C dX11_amend_15 rfl 0 rfl ?_
  refine g_iconst (v := 0) C dX11_amend_16 (by decide) ?_
  refine gr_put_13 C iwx_X11 (hw kw_1822) dX11_amend_17 ?_
  refine gr_nr (fun r4 er4 => ?_)
  replace h := h r4 er4
  refine g_aload_n C dX11_amend_20 rfl 0 rfl ?_
  refine g_iconst (v := 0) C dX11_amend_21 (by decide) ?_
  refine gr_put_15 C iwx_X11 (hw kw_1824) dX11_amend_22 ?_
  refine gr_nr (fun r5 er5 => ?_)
  replace h := h r5 er5
  refine g_aload_n C dX11_amend_25 rfl 0 rfl ?_
  refine g_iload_n C dX11_amend_26 rfl 1 rfl ?_
  refine gr_callVf C [.int p0] rfl (k_X11_isVersion l D T m0 a p0 r5 q) (w0_V 1 C.2.2.2.2.1 kw_1954 kw_1956 ks_51 kw_9 kw_1957 rfl rfl (by decide +kernel) ⟨by decide, by decide⟩) rfl (Nat.le_of_ble_eq_true rfl) (Nat.zero_le _) (Nat.zero_le _) dX11_amend_27 ?_
  refine g_topi (fun v6 ev6 => ?_)
  replace h := h v6 ev6
  refine g_istore_n (lv' := [(2, .int v6), (0, .ref m0), (1, .int p0)]) C dX11_amend_30 rfl (by decide) rfl ?_
  refine g_locals [1, 2, 0] rfl ?_
  obtain ⟨k61, h⟩ := h
  refine t_X11_amend_31 C hr _ P ?_ k61 p0 v6 r5 q h
  · intro y16 r17 q18 h
    refine g_aload_n C dX11_amend_49 rfl 0 rfl ?_
    refine gr_get C iwx_X11 8 (hw kw_1817) (by decide) rfl rfl dX11_amend_50 ?_
    refine g_topi (fun v19 ev19 => ?_)
    replace h := h v19 ev19
    refine g_istore_n (lv' := [(3, .int v19), (0, .ref m0), (1, .int y16)]) C dX11_amend_53 rfl (by decide) rfl ?_
    refine g_aload_n C dX11_amend_54 rfl 1 rfl ?_
    refine g_iconst (v := 0) C dX11_amend_55 (by decide) ?_
    refine gr_put_8 C iwx_X11 (hw kw_1817) dX11_amend_56 ?_
    refine gr_nr (fun r20 er20 => ?_)
    replace h := h r20 er20
    refine g_aload_n C dX11_amend_59 rfl 1 rfl ?_
    refine g_iload_n C dX11_amend_60 rfl 2 rfl ?_
    refine gr_callVf C [.int y16] rfl (k_X11_isVersion l D T m0 a y16 r20 q18) (w0_V 1 C.2.2.2.2.1 kw_1954 kw_1956 ks_51 kw_9 kw_1957 rfl rfl (by decide +kernel) ⟨by decide, by decide⟩) rfl (Nat.le_of_ble_eq_true rfl) (Nat.zero_le _) (Nat.zero_le _) dX11_amend_61 ?_
    refine g_if_ne (tgt := 73) C dX11_amend_64 (by decide) (fun z21 => ?_) (fun z21 => ?_)
    · replace h := h.1 z21
      refine g_aload_n C dX11_amend_73 rfl 1 rfl ?_
      refine gr_get C iwx_X11 11 (hw kw_1820) (by decide) rfl rfl dX11_amend_74 ?_
      refine g_if_ne (tgt := 88) C dX11_amend_77 (by decide) (fun z22 => ?_) (fun z22 => ?_)
      · replace h := h.1 z22
        refine g_bipush (v := -100) C dX11_amend_88 (by decide) ?_
        refine g_aload_n C dX11_amend_90 rfl 1 rfl ?_
        refine gr_get C iwx_X11 10 (hw kw_1819) (by decide) rfl rfl dX11_amend_91 ?_
        refine g_isub C dX11_amend_94 ?_
        exact gr_iret C hr dX11_amend_95 h
      · replace h := h.2 z22
        refine g_aload_n C dX11_amend_80 rfl 1 rfl ?_
        refine gr_get C iwx_X11 10 (hw kw_1819) (by decide) rfl rfl dX11_amend_81 ?_
        refine g_iload_n C dX11_amend_84 rfl 0 rfl ?_
        refine g_icmp_ge (tgt := 96) C dX11_amend_85 (by decide) (fun z23 => ?_) (fun z23 => ?_)
        · replace h := h.1 z23
          refine g_iconst (v := 0) C dX11_amend_96 (by decide) ?_
          refine g_istore (lv' := [(4, .int 0), (3, .int v19), (0, .ref m0), (1, .int y16)]) C dX11_amend_97 (by decide) rfl ?_
          refine g_locals [2, 3, 0] rfl ?_
          obtain ⟨k57, h⟩ := h
          refine t_X11_amend_99 C hr _ P ?_ k57 y16 0 r20 q18 h
          · intro y29 r30 q31 h
            refine g_iconst (v := 0) C dX11_amend_127 (by decide) ?_
            refine g_istore (lv' := [(4, .int 0), (0, .ref m0), (1, .int y29)]) C dX11_amend_128 (by decide) rfl ?_
            refine g_locals [1, 2, 0] rfl ?_
            obtain ⟨k56, h⟩ := h
            refine t_X11_amend_130 C hr _ P ?_ k56 y29 0 r30 q31 h
            · intro y43 r44 q45 h
              refine g_aload_n C dX11_amend_152 rfl 0 rfl ?_
              refine g_iload C dX11_amend_153 1 rfl ?_
              refine gr_put_12 C iwx_X11 (hw kw_1821) dX11_amend_155 ?_
              refine gr_nr (fun r46 er46 => ?_)
              replace h := h r46 er46
              refine g_iconst (v := 0) C dX11_amend_158 (by decide) ?_
              refine g_istore (lv' := [(5, .int 0), (0, .ref m0), (4, .int y43)]) C dX11_amend_159 (by decide) rfl ?_
              refine g_locals [1, 0] rfl ?_
              obtain ⟨k55, h⟩ := h
              refine t_X11_amend_161 C hr  P  k55 0 r46 q45 h
        · replace h := h.2 z23
          refine g_bipush (v := -100) C dX11_amend_88 (by decide) ?_
          refine g_aload_n C dX11_amend_90 rfl 1 rfl ?_
          refine gr_get C iwx_X11 10 (hw kw_1819) (by decide) rfl rfl dX11_amend_91 ?_
          refine g_isub C dX11_amend_94 ?_
          exact gr_iret C hr dX11_amend_95 h
    · replace h := h.2 z21
      refine g_aload_n C dX11_amend_67 rfl 1 rfl ?_
      refine g_iconst (v := 1) C dX11_amend_68 (by decide) ?_
      refine gr_calliV C [.int 1] rfl (k_X11_refuse l D T m0 a 1 r20 q18) (w0_V 1 C.2.2.2.2.1 kw_1950 kw_1952 ks_50 kw_9 kw_1953 rfl rfl (by decide +kernel) ⟨by decide, by decide⟩) rfl (Nat.le_of_ble_eq_true rfl) (Nat.zero_le _) (Nat.zero_le _) dX11_amend_69 (fun v58 r59 q60 hp => ?_)
      replace h := h v58 r59 q60 hp
      exact gr_iret C hr dX11_amend_72 h
theorem c_X11_amend (l : Launch) (D : va_G) (T : Nat → ClassId) (m0 : Nat) (a : Nat → Nat) (p0 : Int32) (r : Nat → Int32) (q : Nat → Nat → Int32) (P : Int32 → RST → Prop) (h : wp_X11_amend P p0 r q) : RMi l yX11_amend (ws_X11_amend) rm_X11_amend D T m0 a [.ref m0, .int p0] r q P := gr_meti (by decide) rfl rfl (Nat.le_of_ble_eq_true rfl) (fun p e s m args below meth c A C hr => t_X11_amend C hr P p0 r q h)
def wb_X11_layBest_21 (rec : Int32 → Int32 → (Nat → Int32) → (Nat → Nat → Int32) → Prop) (P : RST → Prop) (x1 : Int32) (x2 : Int32) (r : Nat → Int32) (q : Nat → Nat → Int32) : Prop := (x1 < x2 → (P (r, q))) ∧ (¬ x1 < x2 → ((¬ (x2 &&& (x1 ^^^ (-1))) = 0 → (∀ v11 : Int32, v11 = x2 + 1 → (rec x1 v11 r q))) ∧ ((x2 &&& (x1 ^^^ (-1))) = 0 → (∀ (r13 : Nat → Int32) (q14 : Nat → Nat → Int32), True → (∀ v15 : Int32, v15 = x2 + 1 → (rec x1 v15 r13 q14))))))
def wp_X11_layBest_21 (P : RST → Prop) : Nat → Int32 → Int32 → (Nat → Int32) → (Nat → Nat → Int32) → Prop
  | 0 => fun _ _ _ _ => False
  | n + 1 => fun x1 x2 r q => wb_X11_layBest_21 (wp_X11_layBest_21  P n)  P x1 x2 r q
set_option maxRecDepth 100000 in
set_option maxHeartbeats 4000000 in
theorem t_X11_layBest_21 {p : Program} {l : Launch} {e : Env} {s : State} {m : MethodId} {args : Array Value} {below : List Frame} {meth : Method} {c : Code} {D : va_G} {A : Nat → Prop} {T : Nat → ClassId} {m0 : Nat} {a : Nat → Nat} (C : GC p s m args meth c cX11_layBest "FreightRaterModel" (ws_X11_layBest) 3 D A (zty T)) (hr : meth.sig.returnType = none) (P : RST → Prop) : ∀ (n : Nat) (x1 : Int32) (x2 : Int32) (r : Nat → Int32) (q : Nat → Nat → Int32), wp_X11_layBest_21  P n x1 x2 r q → GW p l e rm_X11_layBest s m args below meth c D A 3 0 0 (MQ below (va_Qv P (RE D T m0 a A) A) args s 0 0 A) (RW m0 a T r q) 0 0 21 [(0, .ref m0), (1, .int x1), (2, .int x2)] [] := by
  have hw : ∀ {w : Cond}, w ∈ W0 → w.before args s = true := fun h => C.2.2.2.2.1 _ (List.mem_cons_of_mem _ h)
  intro n
  induction n with
  | zero => intro x1 x2 r q h; exact h.elim
  | succ n ih =>
    intro x1 x2 r q h
    replace h : wb_X11_layBest_21 (wp_X11_layBest_21  P n)  P x1 x2 r q := h
    unfold wb_X11_layBest_21 at h
    refine g_iload_n C dX11_layBest_21 rfl 2 rfl ?_
    refine g_iload_n C dX11_layBest_22 rfl 1 rfl ?_
    refine g_icmp_gt (tgt := 45) C dX11_layBest_23 (by decide) (fun z9 => ?_) (fun z9 => ?_)
    · replace h := h.1 z9
      exact gr_vret C hr dX11_layBest_45 h
    · replace h := h.2 z9
      refine g_iload_n C dX11_layBest_26 rfl 2 rfl ?_
      refine g_iload_n C dX11_layBest_27 rfl 1 rfl ?_
      refine g_iconst (v := -1) C dX11_layBest_28 (by decide) ?_
      refine g_ixor C dX11_layBest_29 ?_
      refine g_iand C dX11_layBest_30 ?_
      refine g_if_ne (tgt := 39) C dX11_layBest_31 (by decide) (fun z10 => ?_) (fun z10 => ?_)
      · replace h := h.1 z10
        obtain ⟨v11, ev11⟩ : ∃ y : Int32, y = x2 + 1 := ⟨_, rfl⟩
        replace h := h v11 ev11
        refine g_iinc (v := v11) (lv' := [(2, .int v11), (0, .ref m0), (1, .int x1)]) C dX11_layBest_39 (j := 2) rfl (by rw [ev11]; rfl) (by decide) rfl ?_
        refine g_goto (tgt := 21) C dX11_layBest_42 (by decide) ?_
        refine g_locals [1, 2, 0] rfl ?_
        exact ih x1 v11 r q h
      · replace h := h.2 z10
        refine g_aload_n C dX11_layBest_34 rfl 0 rfl ?_
        refine g_iload_n C dX11_layBest_35 rfl 2 rfl ?_
        refine gr_callvV C [.int x2] rfl (k_X11_layPart l D T m0 a x2 r q) (w0_V 1 C.2.2.2.2.1 kw_2263 kw_2265 ks_100 kw_9 kw_2266 rfl rfl (by decide +kernel) ⟨by decide, by decide⟩) rfl (Nat.le_of_ble_eq_true rfl) (Nat.zero_le _) (Nat.zero_le _) dX11_layBest_36 (fun r13 q14 hp => ?_)
        replace h := h r13 q14 hp
        obtain ⟨v15, ev15⟩ : ∃ y : Int32, y = x2 + 1 := ⟨_, rfl⟩
        replace h := h v15 ev15
        refine g_iinc (v := v15) (lv' := [(2, .int v15), (0, .ref m0), (1, .int x1)]) C dX11_layBest_39 (j := 2) rfl (by rw [ev15]; rfl) (by decide) rfl ?_
        refine g_goto (tgt := 21) C dX11_layBest_42 (by decide) ?_
        refine g_locals [1, 2, 0] rfl ?_
        exact ih x1 v15 r13 q14 h
def wp_X11_layBest (P : RST → Prop) (p0 : Int32) (r : Nat → Int32) (q : Nat → Nat → Int32) : Prop := (WF (q 0) ∧ gok (q 0) p0) ∧ (∀ (r2 : Nat → Int32) (q3 : Nat → Nat → Int32), (kQ q q3 [7] ∧ kR r r2 [7, 17, 18, 19, 20, 21, 22, 23, 24, 25, 26, 27, 28] ∧ ∀ p, 0 < p → sub p (iv p0) → q3 7 p = ttF (q 0) p) → (vp_in 0 1024 ∧ (∀ q6 : Nat → Nat → Int32, q6 = va_up q3 8 (upd (q3 8) (Int32.toNatClampNeg 0) 0) → (vp_in 0 1024 ∧ (∀ q8 : Nat → Nat → Int32, q8 = va_up q6 9 (upd (q6 9) (Int32.toNatClampNeg 0) 0) → (∃ k16 : Nat, wp_X11_layBest_21  P k16 p0 1 r2 q8))))))
set_option maxRecDepth 100000 in
set_option maxHeartbeats 4000000 in
theorem t_X11_layBest {p : Program} {l : Launch} {e : Env} {s : State} {m : MethodId} {args : Array Value} {below : List Frame} {meth : Method} {c : Code} {D : va_G} {A : Nat → Prop} {T : Nat → ClassId} {m0 : Nat} {a : Nat → Nat} (C : GC p s m args meth c cX11_layBest "FreightRaterModel" (ws_X11_layBest) 3 D A (zty T)) (hr : meth.sig.returnType = none) (P : RST → Prop) : ∀ (p0 : Int32) (r : Nat → Int32) (q : Nat → Nat → Int32), wp_X11_layBest P p0 r q → GW p l e rm_X11_layBest s m args below meth c D A 3 0 0 (MQ below (va_Qv P (RE D T m0 a A) A) args s 0 0 A) (RW m0 a T r q) 0 0 0 [(0, .ref m0), (1, .int p0)] [] := by
  have hw : ∀ {w : Cond}, w ∈ W0 → w.before args s = true := fun h => C.2.2.2.2.1 _ (List.mem_cons_of_mem _ h)
  intro p0 r q h
  unfold wp_X11_layBest at h
  refine g_aload_n C dX11_layBest_0 rfl 0 rfl ?_
  refine g_iload_n C dX11_layBest_1 rfl 1 rfl ?_
  obtain ⟨g4, h⟩ := h
  refine gr_callvV C [.int p0] rfl (k_X11_layTotals l D T m0 a p0 r q g4) (w0_V 1 C.2.2.2.2.1 kw_2259 kw_2261 ks_99 kw_9 kw_2262 rfl rfl (by decide +kernel) ⟨by decide, by decide⟩) rfl (Nat.le_of_ble_eq_true rfl) (Nat.zero_le _) (Nat.zero_le _) dX11_layBest_2 (fun r2 q3 hp => ?_)
  replace h := h r2 q3 hp
  refine g_aload_n C dX11_layBest_5 rfl 0 rfl ?_
  refine gr_get C iwx_X11 32 (hw kw_1841) (by decide) rfl rfl dX11_layBest_6 ?_
  refine g_iconst (v := 0) C dX11_layBest_9 (by decide) ?_
  refine g_iconst (v := 0) C dX11_layBest_10 (by decide) ?_
  obtain ⟨g5, h⟩ := h
  refine gr_ast_8 C g5 dX11_layBest_11 ?_
  refine gr_nq (fun q6 eq6 => ?_)
  replace h := h q6 eq6
  refine g_aload_n C dX11_layBest_12 rfl 0 rfl ?_
  refine gr_get C iwx_X11 33 (hw kw_1842) (by decide) rfl rfl dX11_layBest_13 ?_
  refine g_iconst (v := 0) C dX11_layBest_16 (by decide) ?_
  refine g_iconst (v := 0) C dX11_layBest_17 (by decide) ?_
  obtain ⟨g7, h⟩ := h
  refine gr_ast_9 C g7 dX11_layBest_18 ?_
  refine gr_nq (fun q8 eq8 => ?_)
  replace h := h q8 eq8
  refine g_iconst (v := 1) C dX11_layBest_19 (by decide) ?_
  refine g_istore_n (lv' := [(2, .int 1), (0, .ref m0), (1, .int p0)]) C dX11_layBest_20 rfl (by decide) rfl ?_
  refine g_locals [1, 2, 0] rfl ?_
  obtain ⟨k16, h⟩ := h
  refine t_X11_layBest_21 C hr  P  k16 p0 1 r2 q8 h
theorem c_X11_layBest (l : Launch) (D : va_G) (T : Nat → ClassId) (m0 : Nat) (a : Nat → Nat) (p0 : Int32) (r : Nat → Int32) (q : Nat → Nat → Int32) (P : RST → Prop) (h : wp_X11_layBest P p0 r q) : RMv l yX11_layBest (ws_X11_layBest) rm_X11_layBest D T m0 a [.ref m0, .int p0] r q P := gr_metv (by decide) rfl rfl (Nat.le_of_ble_eq_true rfl) (fun p e s m args below meth c A C hr => t_X11_layBest C hr P p0 r q h)
def wb_X11_layMerged_12 (rec : Int32 → Int32 → (Nat → Int32) → (Nat → Nat → Int32) → Prop) (K58 : (Nat → Int32) → (Nat → Nat → Int32) → Prop) (P : RST → Prop) (x1 : Int32) (x2 : Int32) (r : Nat → Int32) (q : Nat → Nat → Int32) : Prop := vp_in 1 3334 ∧ (((q 0 (Int32.toNatClampNeg 1)) ≤ x2 → (K58 r q)) ∧ (¬ (q 0 (Int32.toNatClampNeg 1)) ≤ x2 → (((hasF x1 x2) = 0 → (∀ v9 : Int32, v9 = x2 + 1 → (rec x1 v9 r q))) ∧ (¬ (hasF x1 x2) = 0 → (vp_in (r 36) 10 ∧ (∀ q11 : Nat → Nat → Int32, q11 = va_up q 11 (upd (q 11) (Int32.toNatClampNeg (r 36)) (1 <<< (x2 &&& 31))) → (∀ r12 : Nat → Int32, r12 = va_up r 36 ((r 36) + 1) → (∀ v13 : Int32, v13 = x2 + 1 → (rec x1 v13 r12 q11)))))))))
def wp_X11_layMerged_12 (K58 : (Nat → Int32) → (Nat → Nat → Int32) → Prop) (P : RST → Prop) : Nat → Int32 → Int32 → (Nat → Int32) → (Nat → Nat → Int32) → Prop
  | 0 => fun _ _ _ _ => False
  | n + 1 => fun x1 x2 r q => wb_X11_layMerged_12 (wp_X11_layMerged_12 K58 P n) K58 P x1 x2 r q
set_option maxRecDepth 100000 in
set_option maxHeartbeats 4000000 in
theorem t_X11_layMerged_12 {p : Program} {l : Launch} {e : Env} {s : State} {m : MethodId} {args : Array Value} {below : List Frame} {meth : Method} {c : Code} {D : va_G} {A : Nat → Prop} {T : Nat → ClassId} {m0 : Nat} {a : Nat → Nat} (C : GC p s m args meth c cX11_layMerged "FreightRaterModel" (ws_X11_layMerged) 3 D A (zty T)) (hr : meth.sig.returnType = none) (K58 : (Nat → Int32) → (Nat → Nat → Int32) → Prop) (P : RST → Prop) (hK58 : ∀ (r : Nat → Int32) (q : Nat → Nat → Int32), K58 r q → GW p l e rm_X11_layMerged s m args below meth c D A 3 0 0 (MQ below (va_Qv P (RE D T m0 a A) A) args s 0 0 A) (RW m0 a T r q) 0 0 58 [(0, .ref m0)] []) : ∀ (n : Nat) (x1 : Int32) (x2 : Int32) (r : Nat → Int32) (q : Nat → Nat → Int32), wp_X11_layMerged_12 K58 P n x1 x2 r q → GW p l e rm_X11_layMerged s m args below meth c D A 3 0 0 (MQ below (va_Qv P (RE D T m0 a A) A) args s 0 0 A) (RW m0 a T r q) 0 0 12 [(0, .ref m0), (1, .int x1), (2, .int x2)] [] := by
  have hw : ∀ {w : Cond}, w ∈ W0 → w.before args s = true := fun h => C.2.2.2.2.1 _ (List.mem_cons_of_mem _ h)
  intro n
  induction n with
  | zero => intro x1 x2 r q h; exact h.elim
  | succ n ih =>
    intro x1 x2 r q h
    replace h : wb_X11_layMerged_12 (wp_X11_layMerged_12 K58 P n) K58 P x1 x2 r q := h
    unfold wb_X11_layMerged_12 at h
    refine g_iload_n C dX11_layMerged_12 rfl 2 rfl ?_
    refine g_aload_n C dX11_layMerged_13 rfl 0 rfl ?_
    refine gr_get C iwx_X11 0 (hw kw_1809) (by decide) rfl rfl dX11_layMerged_14 ?_
    refine g_iconst (v := 1) C dX11_layMerged_17 (by decide) ?_
    obtain ⟨g6, h⟩ := h
    refine gr_ald_0 C g6 dX11_layMerged_18 ?_
    refine g_icmp_ge (tgt := 58) C dX11_layMerged_19 (by decide) (fun z7 => ?_) (fun z7 => ?_)
    · replace h := h.1 z7
      refine g_locals [0] rfl ?_
      exact hK58 r q h
    · replace h := h.2 z7
      refine g_iload_n C dX11_layMerged_22 rfl 1 rfl ?_
      refine g_iload_n C dX11_layMerged_23 rfl 2 rfl ?_
      refine gr_callSf C [.int x1, .int x2] rfl (k_X11_has l D T m0 a x1 x2 r q) (w0_S 2 C.2.2.2.2.1 kw_2178 kw_2179 kw_9 kw_2180 rfl rfl (by decide +kernel) ⟨by decide, by decide⟩) rfl (Nat.le_of_ble_eq_true rfl) (Nat.zero_le _) (Nat.zero_le _) dX11_layMerged_24 ?_
      refine g_if_eq (tgt := 52) C dX11_layMerged_27 (by decide) (fun z8 => ?_) (fun z8 => ?_)
      · replace h := h.1 z8
        obtain ⟨v9, ev9⟩ : ∃ y : Int32, y = x2 + 1 := ⟨_, rfl⟩
        replace h := h v9 ev9
        refine g_iinc (v := v9) (lv' := [(2, .int v9), (0, .ref m0), (1, .int x1)]) C dX11_layMerged_52 (j := 2) rfl (by rw [ev9]; rfl) (by decide) rfl ?_
        refine g_goto (tgt := 12) C dX11_layMerged_55 (by decide) ?_
        refine g_locals [1, 2, 0] rfl ?_
        exact ih x1 v9 r q h
      · replace h := h.2 z8
        refine g_aload_n C dX11_layMerged_30 rfl 0 rfl ?_
        refine gr_get C iwx_X11 37 (hw kw_1846) (by decide) rfl rfl dX11_layMerged_31 ?_
        refine g_aload_n C dX11_layMerged_34 rfl 0 rfl ?_
        refine gr_get C iwx_X11 36 (hw kw_1845) (by decide) rfl rfl dX11_layMerged_35 ?_
        refine g_iconst (v := 1) C dX11_layMerged_38 (by decide) ?_
        refine g_iload_n C dX11_layMerged_39 rfl 2 rfl ?_
        refine g_ishl C dX11_layMerged_40 ?_
        obtain ⟨g10, h⟩ := h
        refine gr_ast_11 C g10 dX11_layMerged_41 ?_
        refine gr_nq (fun q11 eq11 => ?_)
        replace h := h q11 eq11
        refine g_aload_n C dX11_layMerged_42 rfl 0 rfl ?_
        refine g_dup C dX11_layMerged_43 rfl ?_
        refine gr_get C iwx_X11 36 (hw kw_1845) (by decide) rfl rfl dX11_layMerged_44 ?_
        refine g_iconst (v := 1) C dX11_layMerged_47 (by decide) ?_
        refine g_iadd C dX11_layMerged_48 ?_
        refine gr_put_36 C iwx_X11 (hw kw_1845) dX11_layMerged_49 ?_
        refine gr_nr (fun r12 er12 => ?_)
        replace h := h r12 er12
        obtain ⟨v13, ev13⟩ : ∃ y : Int32, y = x2 + 1 := ⟨_, rfl⟩
        replace h := h v13 ev13
        refine g_iinc (v := v13) (lv' := [(2, .int v13), (0, .ref m0), (1, .int x1)]) C dX11_layMerged_52 (j := 2) rfl (by rw [ev13]; rfl) (by decide) rfl ?_
        refine g_goto (tgt := 12) C dX11_layMerged_55 (by decide) ?_
        refine g_locals [1, 2, 0] rfl ?_
        exact ih x1 v13 r12 q11 h
def wb_X11_layMerged_58 (rec : (Nat → Int32) → (Nat → Nat → Int32) → Prop) (P : RST → Prop) (r : Nat → Int32) (q : Nat → Nat → Int32) : Prop := ∀ (v16 : Int32) (r17 : Nat → Int32) (q18 : Nat → Nat → Int32), True → ((v16 = 0 → (P (r17, q18))) ∧ (¬ v16 = 0 → (vp_in (r17 38) 10 ∧ (vp_in (r17 39) 10 ∧ (vp_in (r17 38) 10 ∧ (∀ q23 : Nat → Nat → Int32, q23 = va_up q18 11 (upd (q18 11) (Int32.toNatClampNeg (r17 38)) ((q18 11 (Int32.toNatClampNeg (r17 38))) ||| (q18 11 (Int32.toNatClampNeg (r17 39))))) → (∀ r24 : Nat → Int32, r24 = va_up r17 36 ((r17 36) - 1) → (vp_in (r24 36) 10 ∧ (vp_in (r24 39) 10 ∧ (∀ q27 : Nat → Nat → Int32, q27 = va_up q23 11 (upd (q23 11) (Int32.toNatClampNeg (r24 39)) (q23 11 (Int32.toNatClampNeg (r24 36)))) → (rec r24 q27)))))))))))
def wp_X11_layMerged_58 (P : RST → Prop) : Nat → (Nat → Int32) → (Nat → Nat → Int32) → Prop
  | 0 => fun _ _ => False
  | n + 1 => fun r q => wb_X11_layMerged_58 (wp_X11_layMerged_58  P n)  P r q
set_option maxRecDepth 100000 in
set_option maxHeartbeats 4000000 in
theorem t_X11_layMerged_58 {p : Program} {l : Launch} {e : Env} {s : State} {m : MethodId} {args : Array Value} {below : List Frame} {meth : Method} {c : Code} {D : va_G} {A : Nat → Prop} {T : Nat → ClassId} {m0 : Nat} {a : Nat → Nat} (C : GC p s m args meth c cX11_layMerged "FreightRaterModel" (ws_X11_layMerged) 3 D A (zty T)) (hr : meth.sig.returnType = none) (P : RST → Prop) : ∀ (n : Nat) (r : Nat → Int32) (q : Nat → Nat → Int32), wp_X11_layMerged_58  P n r q → GW p l e rm_X11_layMerged s m args below meth c D A 3 0 0 (MQ below (va_Qv P (RE D T m0 a A) A) args s 0 0 A) (RW m0 a T r q) 0 0 58 [(0, .ref m0)] [] := by
  have hw : ∀ {w : Cond}, w ∈ W0 → w.before args s = true := fun h => C.2.2.2.2.1 _ (List.mem_cons_of_mem _ h)
  intro n
  induction n with
  | zero => intro r q h; exact h.elim
  | succ n ih =>
    intro r q h
    replace h : wb_X11_layMerged_58 (wp_X11_layMerged_58  P n)  P r q := h
    unfold wb_X11_layMerged_58 at h
    refine g_aload_n C dX11_layMerged_58 rfl 0 rfl ?_
    refine gr_calliV C [] rfl (k_X11_findsPair l D T m0 a  r q) (w0_V 0 C.2.2.2.2.1 kw_2283 kw_2285 ks_102 kw_9 kw_2286 rfl rfl (by decide +kernel) ⟨by decide, by decide⟩) rfl (Nat.le_of_ble_eq_true rfl) (Nat.zero_le _) (Nat.zero_le _) dX11_layMerged_59 (fun v16 r17 q18 hp => ?_)
    replace h := h v16 r17 q18 hp
    refine g_if_eq (tgt := 117) C dX11_layMerged_62 (by decide) (fun z19 => ?_) (fun z19 => ?_)
    · replace h := h.1 z19
      exact gr_vret C hr dX11_layMerged_117 h
    · replace h := h.2 z19
      refine g_aload_n C dX11_layMerged_65 rfl 0 rfl ?_
      refine gr_get C iwx_X11 37 (hw kw_1846) (by decide) rfl rfl dX11_layMerged_66 ?_
      refine g_aload_n C dX11_layMerged_69 rfl 0 rfl ?_
      refine gr_get C iwx_X11 38 (hw kw_1847) (by decide) rfl rfl dX11_layMerged_70 ?_
      refine g_dup2 C dX11_layMerged_73 rfl rfl ?_
      obtain ⟨g20, h⟩ := h
      refine gr_ald_11 C g20 dX11_layMerged_74 ?_
      refine g_aload_n C dX11_layMerged_75 rfl 0 rfl ?_
      refine gr_get C iwx_X11 37 (hw kw_1846) (by decide) rfl rfl dX11_layMerged_76 ?_
      refine g_aload_n C dX11_layMerged_79 rfl 0 rfl ?_
      refine gr_get C iwx_X11 39 (hw kw_1848) (by decide) rfl rfl dX11_layMerged_80 ?_
      obtain ⟨g21, h⟩ := h
      refine gr_ald_11 C g21 dX11_layMerged_83 ?_
      refine g_ior C dX11_layMerged_84 ?_
      obtain ⟨g22, h⟩ := h
      refine gr_ast_11 C g22 dX11_layMerged_85 ?_
      refine gr_nq (fun q23 eq23 => ?_)
      replace h := h q23 eq23
      refine g_aload_n C dX11_layMerged_86 rfl 0 rfl ?_
      refine g_dup C dX11_layMerged_87 rfl ?_
      refine gr_get C iwx_X11 36 (hw kw_1845) (by decide) rfl rfl dX11_layMerged_88 ?_
      refine g_iconst (v := 1) C dX11_layMerged_91 (by decide) ?_
      refine g_isub C dX11_layMerged_92 ?_
      refine gr_put_36 C iwx_X11 (hw kw_1845) dX11_layMerged_93 ?_
      refine gr_nr (fun r24 er24 => ?_)
      replace h := h r24 er24
      refine g_aload_n C dX11_layMerged_96 rfl 0 rfl ?_
      refine gr_get C iwx_X11 37 (hw kw_1846) (by decide) rfl rfl dX11_layMerged_97 ?_
      refine g_aload_n C dX11_layMerged_100 rfl 0 rfl ?_
      refine gr_get C iwx_X11 39 (hw kw_1848) (by decide) rfl rfl dX11_layMerged_101 ?_
      refine g_aload_n C dX11_layMerged_104 rfl 0 rfl ?_
      refine gr_get C iwx_X11 37 (hw kw_1846) (by decide) rfl rfl dX11_layMerged_105 ?_
      refine g_aload_n C dX11_layMerged_108 rfl 0 rfl ?_
      refine gr_get C iwx_X11 36 (hw kw_1845) (by decide) rfl rfl dX11_layMerged_109 ?_
      obtain ⟨g25, h⟩ := h
      refine gr_ald_11 C g25 dX11_layMerged_112 ?_
      obtain ⟨g26, h⟩ := h
      refine gr_ast_11 C g26 dX11_layMerged_113 ?_
      refine gr_nq (fun q27 eq27 => ?_)
      replace h := h q27 eq27
      refine g_goto (tgt := 58) C dX11_layMerged_114 (by decide) ?_
      refine g_locals [0] rfl ?_
      exact ih r24 q27 h
def wp_X11_layMerged (P : RST → Prop) (p0 : Int32) (r : Nat → Int32) (q : Nat → Nat → Int32) : Prop := (WF (q 0) ∧ gok (q 0) p0) ∧ (∀ (r2 : Nat → Int32) (q3 : Nat → Nat → Int32), (kQ q q3 [7] ∧ kR r r2 [7, 17, 18, 19, 20, 21, 22, 23, 24, 25, 26, 27, 28] ∧ ∀ p, 0 < p → sub p (iv p0) → q3 7 p = ttF (q 0) p) → (∀ r5 : Nat → Int32, r5 = va_up r2 36 0 → (∃ k29 : Nat, wp_X11_layMerged_12 (fun (r14 : Nat → Int32) (q15 : Nat → Nat → Int32) => ∃ k28 : Nat, wp_X11_layMerged_58  P k28 r14 q15) P k29 p0 0 r5 q3)))
set_option maxRecDepth 100000 in
set_option maxHeartbeats 4000000 in
theorem t_X11_layMerged {p : Program} {l : Launch} {e : Env} {s : State} {m : MethodId} {args : Array Value} {below : List Frame} {meth : Method} {c : Code} {D : va_G} {A : Nat → Prop} {T : Nat → ClassId} {m0 : Nat} {a : Nat → Nat} (C : GC p s m args meth c cX11_layMerged "FreightRaterModel" (ws_X11_layMerged) 3 D A (zty T)) (hr : meth.sig.returnType = none) (P : RST → Prop) : ∀ (p0 : Int32) (r : Nat → Int32) (q : Nat → Nat → Int32), wp_X11_layMerged P p0 r q → GW p l e rm_X11_layMerged s m args below meth c D A 3 0 0 (MQ below (va_Qv P (RE D T m0 a A) A) args s 0 0 A) (RW m0 a T r q) 0 0 0 [(0, .ref m0), (1, .int p0)] [] := by
  have hw : ∀ {w : Cond}, w ∈ W0 → w.before args s = true := fun h => C.2.2.2.2.1 _ (List.mem_cons_of_mem _ h)
  intro p0 r q h
  unfold wp_X11_layMerged at h
  refine g_aload_n C dX11_layMerged_0 rfl 0 rfl ?_
  refine g_iload_n C dX11_layMerged_1 rfl 1 rfl ?_
  obtain ⟨g4, h⟩ := h
  refine gr_callvV C [.int p0] rfl (k_X11_layTotals l D T m0 a p0 r q g4) (w0_V 1 C.2.2.2.2.1 kw_2259 kw_2261 ks_99 kw_9 kw_2262 rfl rfl (by decide +kernel) ⟨by decide, by decide⟩) rfl (Nat.le_of_ble_eq_true rfl) (Nat.zero_le _) (Nat.zero_le _) dX11_layMerged_2 (fun r2 q3 hp => ?_)
  replace h := h r2 q3 hp
  refine g_aload_n C dX11_layMerged_5 rfl 0 rfl ?_
  refine g_iconst (v := 0) C dX11_layMerged_6 (by decide) ?_
  refine gr_put_36 C iwx_X11 (hw kw_1845) dX11_layMerged_7 ?_
  refine gr_nr (fun r5 er5 => ?_)
  replace h := h r5 er5
  refine g_iconst (v := 0) C dX11_layMerged_10 (by decide) ?_
  refine g_istore_n (lv' := [(2, .int 0), (0, .ref m0), (1, .int p0)]) C dX11_layMerged_11 rfl (by decide) rfl ?_
  refine g_locals [1, 2, 0] rfl ?_
  obtain ⟨k29, h⟩ := h
  refine t_X11_layMerged_12 C hr _ P ?_ k29 p0 0 r5 q3 h
  · intro r14 q15 h
    refine g_locals [0] rfl ?_
    obtain ⟨k28, h⟩ := h
    refine t_X11_layMerged_58 C hr  P  k28 r14 q15 h
theorem c_X11_layMerged (l : Launch) (D : va_G) (T : Nat → ClassId) (m0 : Nat) (a : Nat → Nat) (p0 : Int32) (r : Nat → Int32) (q : Nat → Nat → Int32) (P : RST → Prop) (h : wp_X11_layMerged P p0 r q) : RMv l yX11_layMerged (ws_X11_layMerged) rm_X11_layMerged D T m0 a [.ref m0, .int p0] r q P := gr_metv (by decide) rfl rfl (Nat.le_of_ble_eq_true rfl) (fun p e s m args below meth c A C hr => t_X11_layMerged C hr P p0 r q h)
def wp_X11_consolidate (P : Int32 → RST → Prop) (p0 : Int32) (r : Nat → Int32) (q : Nat → Nat → Int32) : Prop := (WF (q 0) ∧ rix 8) ∧ (∀ (v1 : Int32) (r2 : Nat → Int32) (q3 : Nat → Nat → Int32), (v1 = lckF (q 0) p0 (iv 8) ∧ r2 = va_up r 35 0 ∧ q3 = q) → (∀ r5 : Nat → Int32, r5 = va_up r2 6 v1 → (((r5 6) ≤ 0 → ((WF (q3 0) ∧ gok (q3 0) p0) ∧ (∀ (v7 : Int32) (r8 : Nat → Int32) (q9 : Nat → Nat → Int32), (q9 = q3 ∧ kR r5 r8 [17, 18, 19, 20, 21, 22, 23, 35] ∧ v7 = (match rfF (q3 0) (iv p0) with | none => 0 | some _ => 1) ∧ ∀ s, rfF (q3 0) (iv p0) = some s → r8 35 = nI (rsnD (q3 0) (2 ^ s)).1 ∧ r8 17 = (rsnD (q3 0) (2 ^ s)).2) → ((v7 = 0 → (∀ (r13 : Nat → Int32) (q14 : Nat → Nat → Int32), True → (vp_in p0 1024 ∧ (P (q14 8 (Int32.toNatClampNeg p0)) (r13, q14))))) ∧ (¬ v7 = 0 → (∀ (v16 : Int32) (r17 : Nat → Int32) (q18 : Nat → Nat → Int32), (v16 = 0 ∧ q18 = q9 ∧ r17 = va_up (va_up (va_up r8 29 (r8 35)) 30 (r8 17)) 6 3) → (P v16 (r17, q18)))))))) ∧ (¬ (r5 6) ≤ 0 → (P 0 (r5, q3))))))
set_option maxRecDepth 100000 in
set_option maxHeartbeats 4000000 in
theorem t_X11_consolidate {p : Program} {l : Launch} {e : Env} {s : State} {m : MethodId} {args : Array Value} {below : List Frame} {meth : Method} {c : Code} {D : va_G} {A : Nat → Prop} {T : Nat → ClassId} {m0 : Nat} {a : Nat → Nat} (C : GC p s m args meth c cX11_consolidate "FreightRaterModel" (ws_X11_consolidate) 2 D A (zty T)) (hr : meth.sig.returnType = (some .int)) (P : Int32 → RST → Prop) : ∀ (p0 : Int32) (r : Nat → Int32) (q : Nat → Nat → Int32), wp_X11_consolidate P p0 r q → GW p l e rm_X11_consolidate s m args below meth c D A 2 0 0 (MQ below (va_Qi P (RE D T m0 a A) A) args s 0 0 A) (RW m0 a T r q) 0 0 0 [(0, .ref m0), (1, .int p0)] [] := by
  have hw : ∀ {w : Cond}, w ∈ W0 → w.before args s = true := fun h => C.2.2.2.2.1 _ (List.mem_cons_of_mem _ h)
  intro p0 r q h
  unfold wp_X11_consolidate at h
  refine g_aload_n C dX11_consolidate_0 rfl 0 rfl ?_
  refine g_aload_n C dX11_consolidate_1 rfl 0 rfl ?_
  refine g_iload_n C dX11_consolidate_2 rfl 1 rfl ?_
  refine g_bipush (v := 8) C dX11_consolidate_3 (by decide) ?_
  obtain ⟨g4, h⟩ := h
  refine gr_calliV C [.int p0, .int 8] rfl (k_X11_lacks l D T m0 a p0 8 r q g4) (w0_V 2 C.2.2.2.2.1 kw_2247 kw_2249 ks_96 kw_9 kw_2250 rfl rfl (by decide +kernel) ⟨by decide, by decide⟩) rfl (Nat.le_of_ble_eq_true rfl) (Nat.zero_le _) (Nat.zero_le _) dX11_consolidate_5 (fun v1 r2 q3 hp => ?_)
  replace h := h v1 r2 q3 hp
  refine gr_put_6 C iwx_X11 (hw kw_1815) dX11_consolidate_8 ?_
  refine gr_nr (fun r5 er5 => ?_)
  replace h := h r5 er5
  refine g_aload_n C dX11_consolidate_11 rfl 0 rfl ?_
  refine gr_get C iwx_X11 6 (hw kw_1815) (by decide) rfl rfl dX11_consolidate_12 ?_
  refine g_if_le (tgt := 20) C dX11_consolidate_15 (by decide) (fun z6 => ?_) (fun z6 => ?_)
  · replace h := h.1 z6
    refine g_aload_n C dX11_consolidate_20 rfl 0 rfl ?_
    refine g_iload_n C dX11_consolidate_21 rfl 1 rfl ?_
    obtain ⟨g10, h⟩ := h
    refine gr_calliV C [.int p0] rfl (k_X11_hasRefused l D T m0 a p0 r5 q3 g10) (w0_V 1 C.2.2.2.2.1 kw_2251 kw_2253 ks_97 kw_9 kw_2254 rfl rfl (by decide +kernel) ⟨by decide, by decide⟩) rfl (Nat.le_of_ble_eq_true rfl) (Nat.zero_le _) (Nat.zero_le _) dX11_consolidate_22 (fun v7 r8 q9 hp => ?_)
    replace h := h v7 r8 q9 hp
    refine g_if_eq (tgt := 38) C dX11_consolidate_25 (by decide) (fun z11 => ?_) (fun z11 => ?_)
    · replace h := h.1 z11
      refine g_aload_n C dX11_consolidate_38 rfl 0 rfl ?_
      refine g_iload_n C dX11_consolidate_39 rfl 1 rfl ?_
      refine gr_callvV C [.int p0] rfl (k_X11_layBest l D T m0 a p0 r8 q9) (w0_V 1 C.2.2.2.2.1 kw_2255 kw_2257 ks_98 kw_9 kw_2258 rfl rfl (by decide +kernel) ⟨by decide, by decide⟩) rfl (Nat.le_of_ble_eq_true rfl) (Nat.zero_le _) (Nat.zero_le _) dX11_consolidate_40 (fun r13 q14 hp => ?_)
      replace h := h r13 q14 hp
      refine g_aload_n C dX11_consolidate_43 rfl 0 rfl ?_
      refine gr_get C iwx_X11 32 (hw kw_1841) (by decide) rfl rfl dX11_consolidate_44 ?_
      refine g_iload_n C dX11_consolidate_47 rfl 1 rfl ?_
      obtain ⟨g15, h⟩ := h
      refine gr_ald_8 C g15 dX11_consolidate_48 ?_
      exact gr_iret C hr dX11_consolidate_49 h
    · replace h := h.2 z11
      refine g_aload_n C dX11_consolidate_28 rfl 0 rfl ?_
      refine g_aload_n C dX11_consolidate_29 rfl 0 rfl ?_
      refine gr_get C iwx_X11 35 (hw kw_1844) (by decide) rfl rfl dX11_consolidate_30 ?_
      refine g_iconst (v := 3) C dX11_consolidate_33 (by decide) ?_
      refine gr_calliV C [.int (r8 35), .int 3] rfl (k_X11_keepsReason l D T m0 a (r8 35) 3 r8 q9) (w0_V 2 C.2.2.2.2.1 kw_2204 kw_2206 ks_92 kw_9 kw_2207 rfl rfl (by decide +kernel) ⟨by decide, by decide⟩) rfl (Nat.le_of_ble_eq_true rfl) (Nat.zero_le _) (Nat.zero_le _) dX11_consolidate_34 (fun v16 r17 q18 hp => ?_)
      replace h := h v16 r17 q18 hp
      exact gr_iret C hr dX11_consolidate_37 h
  · replace h := h.2 z6
    refine g_iconst (v := 0) C dX11_consolidate_18 (by decide) ?_
    exact gr_iret C hr dX11_consolidate_19 h
theorem c_X11_consolidate (l : Launch) (D : va_G) (T : Nat → ClassId) (m0 : Nat) (a : Nat → Nat) (p0 : Int32) (r : Nat → Int32) (q : Nat → Nat → Int32) (P : Int32 → RST → Prop) (h : wp_X11_consolidate P p0 r q) : RMi l yX11_consolidate (ws_X11_consolidate) rm_X11_consolidate D T m0 a [.ref m0, .int p0] r q P := gr_meti (by decide) rfl rfl (Nat.le_of_ble_eq_true rfl) (fun p e s m args below meth c A C hr => t_X11_consolidate C hr P p0 r q h)
def wb_X11_group_84 (rec : Int32 → Int32 → Int32 → (Nat → Int32) → (Nat → Nat → Int32) → Prop) (P : Int32 → RST → Prop) (x2 : Int32) (x3 : Int32) (x4 : Int32) (r : Nat → Int32) (q : Nat → Nat → Int32) : Prop := (x2 ≤ x4 → (vp_in x3 1024 ∧ (P (q 10 (Int32.toNatClampNeg x3)) (r, q)))) ∧ (¬ x2 ≤ x4 → (vp_in x3 1024 ∧ (∀ v17 : Int32, v17 = (x3 &&& ((q 10 (Int32.toNatClampNeg x3)) ^^^ (-1))) → (∀ v18 : Int32, v18 = x4 + 1 → (rec x2 v17 v18 r q)))))
def wp_X11_group_84 (P : Int32 → RST → Prop) : Nat → Int32 → Int32 → Int32 → (Nat → Int32) → (Nat → Nat → Int32) → Prop
  | 0 => fun _ _ _ _ _ => False
  | n + 1 => fun x2 x3 x4 r q => wb_X11_group_84 (wp_X11_group_84  P n)  P x2 x3 x4 r q
set_option maxRecDepth 100000 in
set_option maxHeartbeats 4000000 in
theorem t_X11_group_84 {p : Program} {l : Launch} {e : Env} {s : State} {m : MethodId} {args : Array Value} {below : List Frame} {meth : Method} {c : Code} {D : va_G} {A : Nat → Prop} {T : Nat → ClassId} {m0 : Nat} {a : Nat → Nat} (C : GC p s m args meth c cX11_group "FreightRaterModel" (ws_X11_group) 5 D A (zty T)) (hr : meth.sig.returnType = (some .int)) (P : Int32 → RST → Prop) : ∀ (n : Nat) (x2 : Int32) (x3 : Int32) (x4 : Int32) (r : Nat → Int32) (q : Nat → Nat → Int32), wp_X11_group_84  P n x2 x3 x4 r q → GW p l e rm_X11_group s m args below meth c D A 5 0 0 (MQ below (va_Qi P (RE D T m0 a A) A) args s 0 0 A) (RW m0 a T r q) 0 0 84 [(0, .ref m0), (2, .int x2), (3, .int x3), (4, .int x4)] [] := by
  have hw : ∀ {w : Cond}, w ∈ W0 → w.before args s = true := fun h => C.2.2.2.2.1 _ (List.mem_cons_of_mem _ h)
  intro n
  induction n with
  | zero => intro x2 x3 x4 r q h; exact h.elim
  | succ n ih =>
    intro x2 x3 x4 r q h
    replace h : wb_X11_group_84 (wp_X11_group_84  P n)  P x2 x3 x4 r q := h
    unfold wb_X11_group_84 at h
    refine g_iload C dX11_group_84 3 rfl ?_
    refine g_iload_n C dX11_group_86 rfl 1 rfl ?_
    refine g_icmp_ge (tgt := 107) C dX11_group_87 (by decide) (fun z14 => ?_) (fun z14 => ?_)
    · replace h := h.1 z14
      refine g_aload_n C dX11_group_107 rfl 0 rfl ?_
      refine gr_get C iwx_X11 34 (hw kw_1843) (by decide) rfl rfl dX11_group_108 ?_
      refine g_iload_n C dX11_group_111 rfl 2 rfl ?_
      obtain ⟨g15, h⟩ := h
      refine gr_ald_10 C g15 dX11_group_112 ?_
      exact gr_iret C hr dX11_group_113 h
    · replace h := h.2 z14
      refine g_iload_n C dX11_group_90 rfl 2 rfl ?_
      refine g_aload_n C dX11_group_91 rfl 0 rfl ?_
      refine gr_get C iwx_X11 34 (hw kw_1843) (by decide) rfl rfl dX11_group_92 ?_
      refine g_iload_n C dX11_group_95 rfl 2 rfl ?_
      obtain ⟨g16, h⟩ := h
      refine gr_ald_10 C g16 dX11_group_96 ?_
      refine g_iconst (v := -1) C dX11_group_97 (by decide) ?_
      refine g_ixor C dX11_group_98 ?_
      refine g_iand C dX11_group_99 ?_
      refine g_topi (fun v17 ev17 => ?_)
      replace h := h v17 ev17
      refine g_istore_n (lv' := [(3, .int v17), (0, .ref m0), (2, .int x2), (4, .int x4)]) C dX11_group_100 rfl (by decide) rfl ?_
      obtain ⟨v18, ev18⟩ : ∃ y : Int32, y = x4 + 1 := ⟨_, rfl⟩
      replace h := h v18 ev18
      refine g_iinc (v := v18) (lv' := [(4, .int v18), (3, .int v17), (0, .ref m0), (2, .int x2)]) C dX11_group_101 (j := 3) rfl (by rw [ev18]; rfl) (by decide) rfl ?_
      refine g_goto (tgt := 84) C dX11_group_104 (by decide) ?_
      refine g_locals [2, 3, 1, 0] rfl ?_
      exact ih x2 v17 v18 r q h
def wp_X11_group_31 (P : Int32 → RST → Prop) (x1 : Int32) (x2 : Int32) (r : Nat → Int32) (q : Nat → Nat → Int32) : Prop := ((r 6) ≤ 0 → (∀ (r9 : Nat → Int32) (q10 : Nat → Nat → Int32), True → ((¬ x2 = (-1) → (vp_in x1 1024 ∧ ((¬ (zin x2 0 ((q10 9 (Int32.toNatClampNeg x1)) - 1)) = 0 → (∃ k19 : Nat, wp_X11_group_84  P k19 x2 x1 0 r9 q10)) ∧ ((zin x2 0 ((q10 9 (Int32.toNatClampNeg x1)) - 1)) = 0 → (∀ (v20 : Int32) (r21 : Nat → Int32) (q22 : Nat → Nat → Int32), (v20 = 0 ∧ r21 = va_up r9 6 4 ∧ q22 = q10) → (P v20 (r21, q22))))))) ∧ (x2 = (-1) → (vp_in x1 1024 ∧ (P (q10 9 (Int32.toNatClampNeg x1)) (r9, q10))))))) ∧ (¬ (r 6) ≤ 0 → (P 0 (r, q)))
set_option maxRecDepth 100000 in
set_option maxHeartbeats 4000000 in
theorem t_X11_group_31 {p : Program} {l : Launch} {e : Env} {s : State} {m : MethodId} {args : Array Value} {below : List Frame} {meth : Method} {c : Code} {D : va_G} {A : Nat → Prop} {T : Nat → ClassId} {m0 : Nat} {a : Nat → Nat} (C : GC p s m args meth c cX11_group "FreightRaterModel" (ws_X11_group) 5 D A (zty T)) (hr : meth.sig.returnType = (some .int)) (P : Int32 → RST → Prop) : ∀ (x1 : Int32) (x2 : Int32) (r : Nat → Int32) (q : Nat → Nat → Int32), wp_X11_group_31  P x1 x2 r q → GW p l e rm_X11_group s m args below meth c D A 5 0 0 (MQ below (va_Qi P (RE D T m0 a A) A) args s 0 0 A) (RW m0 a T r q) 0 0 31 [(0, .ref m0), (1, .int x1), (2, .int x2)] [] := by
  have hw : ∀ {w : Cond}, w ∈ W0 → w.before args s = true := fun h => C.2.2.2.2.1 _ (List.mem_cons_of_mem _ h)
  intro x1 x2 r q h
  unfold wp_X11_group_31 at h
  refine g_aload_n C dX11_group_31 rfl 0 rfl ?_
  refine gr_get C iwx_X11 6 (hw kw_1815) (by decide) rfl rfl dX11_group_32 ?_
  refine g_if_le (tgt := 40) C dX11_group_35 (by decide) (fun z7 => ?_) (fun z7 => ?_)
  · replace h := h.1 z7
    refine g_aload_n C dX11_group_40 rfl 0 rfl ?_
    refine g_iload_n C dX11_group_41 rfl 1 rfl ?_
    refine gr_callvV C [.int x1] rfl (k_X11_layBest l D T m0 a x1 r q) (w0_V 1 C.2.2.2.2.1 kw_2255 kw_2257 ks_98 kw_9 kw_2258 rfl rfl (by decide +kernel) ⟨by decide, by decide⟩) rfl (Nat.le_of_ble_eq_true rfl) (Nat.zero_le _) (Nat.zero_le _) dX11_group_42 (fun r9 q10 hp => ?_)
    replace h := h r9 q10 hp
    refine g_iload_n C dX11_group_45 rfl 2 rfl ?_
    refine g_iconst (v := -1) C dX11_group_46 (by decide) ?_
    refine g_icmp_ne (tgt := 57) C dX11_group_47 (by decide) (fun z11 => ?_) (fun z11 => ?_)
    · replace h := h.1 z11
      refine g_iload_n C dX11_group_57 rfl 2 rfl ?_
      refine g_iconst (v := 0) C dX11_group_58 (by decide) ?_
      refine g_aload_n C dX11_group_59 rfl 0 rfl ?_
      refine gr_get C iwx_X11 33 (hw kw_1842) (by decide) rfl rfl dX11_group_60 ?_
      refine g_iload_n C dX11_group_63 rfl 1 rfl ?_
      obtain ⟨g12, h⟩ := h
      refine gr_ald_9 C g12 dX11_group_64 ?_
      refine g_iconst (v := 1) C dX11_group_65 (by decide) ?_
      refine g_isub C dX11_group_66 ?_
      refine gr_callSf C [.int x2, .int 0, .int ((q10 9 (Int32.toNatClampNeg x1)) - 1)] rfl (k_X11_in l D T m0 a x2 0 ((q10 9 (Int32.toNatClampNeg x1)) - 1) r9 q10) (w0_S 3 C.2.2.2.2.1 kw_1944 kw_1945 kw_9 kw_1946 rfl rfl (by decide +kernel) ⟨by decide, by decide⟩) rfl (Nat.le_of_ble_eq_true rfl) (Nat.zero_le _) (Nat.zero_le _) dX11_group_67 ?_
      refine g_if_ne (tgt := 79) C dX11_group_70 (by decide) (fun z13 => ?_) (fun z13 => ?_)
      · replace h := h.1 z13
        refine g_iload_n C dX11_group_79 rfl 1 rfl ?_
        refine g_istore_n (lv' := [(3, .int x1), (0, .ref m0), (1, .int x1), (2, .int x2)]) C dX11_group_80 rfl (by decide) rfl ?_
        refine g_iconst (v := 0) C dX11_group_81 (by decide) ?_
        refine g_istore (lv' := [(4, .int 0), (3, .int x1), (0, .ref m0), (1, .int x1), (2, .int x2)]) C dX11_group_82 (by decide) rfl ?_
        refine g_locals [2, 4, 1, 0] rfl ?_
        obtain ⟨k19, h⟩ := h
        refine t_X11_group_84 C hr  P  k19 x2 x1 0 r9 q10 h
      · replace h := h.2 z13
        refine g_aload_n C dX11_group_73 rfl 0 rfl ?_
        refine g_iconst (v := 4) C dX11_group_74 (by decide) ?_
        refine gr_calliV C [.int 4] rfl (k_X11_refuse l D T m0 a 4 r9 q10) (w0_V 1 C.2.2.2.2.1 kw_1950 kw_1952 ks_50 kw_9 kw_1953 rfl rfl (by decide +kernel) ⟨by decide, by decide⟩) rfl (Nat.le_of_ble_eq_true rfl) (Nat.zero_le _) (Nat.zero_le _) dX11_group_75 (fun v20 r21 q22 hp => ?_)
        replace h := h v20 r21 q22 hp
        exact gr_iret C hr dX11_group_78 h
    · replace h := h.2 z11
      refine g_aload_n C dX11_group_50 rfl 0 rfl ?_
      refine gr_get C iwx_X11 33 (hw kw_1842) (by decide) rfl rfl dX11_group_51 ?_
      refine g_iload_n C dX11_group_54 rfl 1 rfl ?_
      obtain ⟨g23, h⟩ := h
      refine gr_ald_9 C g23 dX11_group_55 ?_
      exact gr_iret C hr dX11_group_56 h
  · replace h := h.2 z7
    refine g_iconst (v := 0) C dX11_group_38 (by decide) ?_
    exact gr_iret C hr dX11_group_39 h
def wp_X11_group (P : Int32 → RST → Prop) (p0 : Int32) (p1 : Int32) (r : Nat → Int32) (q : Nat → Nat → Int32) : Prop := (WF (q 0) ∧ rix 8) ∧ (∀ (v1 : Int32) (r2 : Nat → Int32) (q3 : Nat → Nat → Int32), (v1 = lckF (q 0) p0 (iv 8) ∧ r2 = va_up r 35 0 ∧ q3 = q) → (∀ r5 : Nat → Int32, r5 = va_up r2 6 v1 → ((¬ (r5 6) = 0 → (wp_X11_group_31  P p0 p1 r5 q3)) ∧ ((r5 6) = 0 → ((WF (q3 0) ∧ gok (q3 0) p0) ∧ (∀ (v24 : Int32) (r25 : Nat → Int32) (q26 : Nat → Nat → Int32), (q26 = q3 ∧ kR r5 r25 [17, 18, 19, 20, 21, 22, 23, 35] ∧ v24 = (match rfF (q3 0) (iv p0) with | none => 0 | some _ => 1) ∧ ∀ s, rfF (q3 0) (iv p0) = some s → r25 35 = nI (rsnD (q3 0) (2 ^ s)).1 ∧ r25 17 = (rsnD (q3 0) (2 ^ s)).2) → ((v24 = 0 → (wp_X11_group_31  P p0 p1 r25 q26)) ∧ (¬ v24 = 0 → (∀ r29 : Nat → Int32, r29 = va_up r25 6 3 → (wp_X11_group_31  P p0 p1 r29 q26))))))))))
set_option maxRecDepth 100000 in
set_option maxHeartbeats 4000000 in
theorem t_X11_group {p : Program} {l : Launch} {e : Env} {s : State} {m : MethodId} {args : Array Value} {below : List Frame} {meth : Method} {c : Code} {D : va_G} {A : Nat → Prop} {T : Nat → ClassId} {m0 : Nat} {a : Nat → Nat} (C : GC p s m args meth c cX11_group "FreightRaterModel" (ws_X11_group) 5 D A (zty T)) (hr : meth.sig.returnType = (some .int)) (P : Int32 → RST → Prop) : ∀ (p0 : Int32) (p1 : Int32) (r : Nat → Int32) (q : Nat → Nat → Int32), wp_X11_group P p0 p1 r q → GW p l e rm_X11_group s m args below meth c D A 5 0 0 (MQ below (va_Qi P (RE D T m0 a A) A) args s 0 0 A) (RW m0 a T r q) 0 0 0 [(0, .ref m0), (1, .int p0), (2, .int p1)] [] := by
  have hw : ∀ {w : Cond}, w ∈ W0 → w.before args s = true := fun h => C.2.2.2.2.1 _ (List.mem_cons_of_mem _ h)
  intro p0 p1 r q h
  unfold wp_X11_group at h
  refine g_aload_n C dX11_group_0 rfl 0 rfl ?_
  refine g_aload_n C dX11_group_1 rfl 0 rfl ?_
  refine g_iload_n C dX11_group_2 rfl 1 rfl ?_
  refine g_bipush (v := 8) C dX11_group_3 (by decide) ?_
  obtain ⟨g4, h⟩ := h
  refine gr_calliV C [.int p0, .int 8] rfl (k_X11_lacks l D T m0 a p0 8 r q g4) (w0_V 2 C.2.2.2.2.1 kw_2247 kw_2249 ks_96 kw_9 kw_2250 rfl rfl (by decide +kernel) ⟨by decide, by decide⟩) rfl (Nat.le_of_ble_eq_true rfl) (Nat.zero_le _) (Nat.zero_le _) dX11_group_5 (fun v1 r2 q3 hp => ?_)
  replace h := h v1 r2 q3 hp
  refine gr_put_6 C iwx_X11 (hw kw_1815) dX11_group_8 ?_
  refine gr_nr (fun r5 er5 => ?_)
  replace h := h r5 er5
  refine g_aload_n C dX11_group_11 rfl 0 rfl ?_
  refine gr_get C iwx_X11 6 (hw kw_1815) (by decide) rfl rfl dX11_group_12 ?_
  refine g_if_ne (tgt := 31) C dX11_group_15 (by decide) (fun z6 => ?_) (fun z6 => ?_)
  · replace h := h.1 z6
    refine g_locals [0, 1, 2] rfl ?_
    refine t_X11_group_31 C hr  P  p0 p1 r5 q3 h
  · replace h := h.2 z6
    refine g_aload_n C dX11_group_18 rfl 0 rfl ?_
    refine g_iload_n C dX11_group_19 rfl 1 rfl ?_
    obtain ⟨g27, h⟩ := h
    refine gr_calliV C [.int p0] rfl (k_X11_hasRefused l D T m0 a p0 r5 q3 g27) (w0_V 1 C.2.2.2.2.1 kw_2251 kw_2253 ks_97 kw_9 kw_2254 rfl rfl (by decide +kernel) ⟨by decide, by decide⟩) rfl (Nat.le_of_ble_eq_true rfl) (Nat.zero_le _) (Nat.zero_le _) dX11_group_20 (fun v24 r25 q26 hp => ?_)
    replace h := h v24 r25 q26 hp
    refine g_if_eq (tgt := 31) C dX11_group_23 (by decide) (fun z28 => ?_) (fun z28 => ?_)
    · replace h := h.1 z28
      refine g_locals [0, 1, 2] rfl ?_
      refine t_X11_group_31 C hr  P  p0 p1 r25 q26 h
    · replace h := h.2 z28
      refine g_aload_n C dX11_group_26 rfl 0 rfl ?_
      refine g_iconst (v := 3) C dX11_group_27 (by decide) ?_
      refine gr_put_6 C iwx_X11 (hw kw_1815) dX11_group_28 ?_
      refine gr_nr (fun r29 er29 => ?_)
      replace h := h r29 er29
      refine g_locals [0, 1, 2] rfl ?_
      refine t_X11_group_31 C hr  P  p0 p1 r29 q26 h
theorem c_X11_group (l : Launch) (D : va_G) (T : Nat → ClassId) (m0 : Nat) (a : Nat → Nat) (p0 : Int32) (p1 : Int32) (r : Nat → Int32) (q : Nat → Nat → Int32) (P : Int32 → RST → Prop) (h : wp_X11_group P p0 p1 r q) : RMi l yX11_group (ws_X11_group) rm_X11_group D T m0 a [.ref m0, .int p0, .int p1] r q P := gr_meti (by decide) rfl rfl (Nat.le_of_ble_eq_true rfl) (fun p e s m args below meth c A C hr => t_X11_group C hr P p0 p1 r q h)
def wp_X11_searched (P : Int32 → RST → Prop) (p0 : Int32) (r : Nat → Int32) (q : Nat → Nat → Int32) : Prop := (WF (q 0) ∧ rix 6) ∧ (∀ (v1 : Int32) (r2 : Nat → Int32) (q3 : Nat → Nat → Int32), (v1 = lckF (q 0) p0 (iv 6) ∧ r2 = va_up r 35 0 ∧ q3 = q) → (∀ r5 : Nat → Int32, r5 = va_up r2 6 v1 → ((¬ (r5 6) = 0 → (((r5 6) ≤ 0 → (∀ (r9 : Nat → Int32) (q10 : Nat → Nat → Int32), True → (vp_in p0 1024 ∧ (P (q10 8 (Int32.toNatClampNeg p0)) (r9, q10))))) ∧ (¬ (r5 6) ≤ 0 → (P 0 (r5, q3))))) ∧ ((r5 6) = 0 → ((WF (q3 0) ∧ gok (q3 0) p0) ∧ (∀ (v12 : Int32) (r13 : Nat → Int32) (q14 : Nat → Nat → Int32), (q14 = q3 ∧ kR r5 r13 [17, 18, 19, 20, 21, 22, 23, 35] ∧ v12 = (match rfF (q3 0) (iv p0) with | none => 0 | some _ => 1) ∧ ∀ s, rfF (q3 0) (iv p0) = some s → r13 35 = nI (rsnD (q3 0) (2 ^ s)).1 ∧ r13 17 = (rsnD (q3 0) (2 ^ s)).2) → ((v12 = 0 → (((r13 6) ≤ 0 → (∀ (r19 : Nat → Int32) (q20 : Nat → Nat → Int32), True → (vp_in p0 1024 ∧ (P (q20 8 (Int32.toNatClampNeg p0)) (r19, q20))))) ∧ (¬ (r13 6) ≤ 0 → (P 0 (r13, q14))))) ∧ (¬ v12 = 0 → (∀ r22 : Nat → Int32, r22 = va_up r13 6 3 → (((r22 6) ≤ 0 → (∀ (r25 : Nat → Int32) (q26 : Nat → Nat → Int32), True → (vp_in p0 1024 ∧ (P (q26 8 (Int32.toNatClampNeg p0)) (r25, q26))))) ∧ (¬ (r22 6) ≤ 0 → (P 0 (r22, q14)))))))))))))
set_option maxRecDepth 100000 in
set_option maxHeartbeats 4000000 in
theorem t_X11_searched {p : Program} {l : Launch} {e : Env} {s : State} {m : MethodId} {args : Array Value} {below : List Frame} {meth : Method} {c : Code} {D : va_G} {A : Nat → Prop} {T : Nat → ClassId} {m0 : Nat} {a : Nat → Nat} (C : GC p s m args meth c cX11_searched "FreightRaterModel" (ws_X11_searched) 2 D A (zty T)) (hr : meth.sig.returnType = (some .int)) (P : Int32 → RST → Prop) : ∀ (p0 : Int32) (r : Nat → Int32) (q : Nat → Nat → Int32), wp_X11_searched P p0 r q → GW p l e rm_X11_searched s m args below meth c D A 2 0 0 (MQ below (va_Qi P (RE D T m0 a A) A) args s 0 0 A) (RW m0 a T r q) 0 0 0 [(0, .ref m0), (1, .int p0)] [] := by
  have hw : ∀ {w : Cond}, w ∈ W0 → w.before args s = true := fun h => C.2.2.2.2.1 _ (List.mem_cons_of_mem _ h)
  intro p0 r q h
  unfold wp_X11_searched at h
  refine g_aload_n C dX11_searched_0 rfl 0 rfl ?_
  refine g_aload_n C dX11_searched_1 rfl 0 rfl ?_
  refine g_iload_n C dX11_searched_2 rfl 1 rfl ?_
  refine g_bipush (v := 6) C dX11_searched_3 (by decide) ?_
  obtain ⟨g4, h⟩ := h
  refine gr_calliV C [.int p0, .int 6] rfl (k_X11_lacks l D T m0 a p0 6 r q g4) (w0_V 2 C.2.2.2.2.1 kw_2247 kw_2249 ks_96 kw_9 kw_2250 rfl rfl (by decide +kernel) ⟨by decide, by decide⟩) rfl (Nat.le_of_ble_eq_true rfl) (Nat.zero_le _) (Nat.zero_le _) dX11_searched_5 (fun v1 r2 q3 hp => ?_)
  replace h := h v1 r2 q3 hp
  refine gr_put_6 C iwx_X11 (hw kw_1815) dX11_searched_8 ?_
  refine gr_nr (fun r5 er5 => ?_)
  replace h := h r5 er5
  refine g_aload_n C dX11_searched_11 rfl 0 rfl ?_
  refine gr_get C iwx_X11 6 (hw kw_1815) (by decide) rfl rfl dX11_searched_12 ?_
  refine g_if_ne (tgt := 31) C dX11_searched_15 (by decide) (fun z6 => ?_) (fun z6 => ?_)
  · replace h := h.1 z6
    refine g_aload_n C dX11_searched_31 rfl 0 rfl ?_
    refine gr_get C iwx_X11 6 (hw kw_1815) (by decide) rfl rfl dX11_searched_32 ?_
    refine g_if_le (tgt := 40) C dX11_searched_35 (by decide) (fun z7 => ?_) (fun z7 => ?_)
    · replace h := h.1 z7
      refine g_aload_n C dX11_searched_40 rfl 0 rfl ?_
      refine g_iload_n C dX11_searched_41 rfl 1 rfl ?_
      refine gr_callvV C [.int p0] rfl (k_X11_layBest l D T m0 a p0 r5 q3) (w0_V 1 C.2.2.2.2.1 kw_2255 kw_2257 ks_98 kw_9 kw_2258 rfl rfl (by decide +kernel) ⟨by decide, by decide⟩) rfl (Nat.le_of_ble_eq_true rfl) (Nat.zero_le _) (Nat.zero_le _) dX11_searched_42 (fun r9 q10 hp => ?_)
      replace h := h r9 q10 hp
      refine g_aload_n C dX11_searched_45 rfl 0 rfl ?_
      refine gr_get C iwx_X11 32 (hw kw_1841) (by decide) rfl rfl dX11_searched_46 ?_
      refine g_iload_n C dX11_searched_49 rfl 1 rfl ?_
      obtain ⟨g11, h⟩ := h
      refine gr_ald_8 C g11 dX11_searched_50 ?_
      exact gr_iret C hr dX11_searched_51 h
    · replace h := h.2 z7
      refine g_iconst (v := 0) C dX11_searched_38 (by decide) ?_
      exact gr_iret C hr dX11_searched_39 h
  · replace h := h.2 z6
    refine g_aload_n C dX11_searched_18 rfl 0 rfl ?_
    refine g_iload_n C dX11_searched_19 rfl 1 rfl ?_
    obtain ⟨g15, h⟩ := h
    refine gr_calliV C [.int p0] rfl (k_X11_hasRefused l D T m0 a p0 r5 q3 g15) (w0_V 1 C.2.2.2.2.1 kw_2251 kw_2253 ks_97 kw_9 kw_2254 rfl rfl (by decide +kernel) ⟨by decide, by decide⟩) rfl (Nat.le_of_ble_eq_true rfl) (Nat.zero_le _) (Nat.zero_le _) dX11_searched_20 (fun v12 r13 q14 hp => ?_)
    replace h := h v12 r13 q14 hp
    refine g_if_eq (tgt := 31) C dX11_searched_23 (by decide) (fun z16 => ?_) (fun z16 => ?_)
    · replace h := h.1 z16
      refine g_aload_n C dX11_searched_31 rfl 0 rfl ?_
      refine gr_get C iwx_X11 6 (hw kw_1815) (by decide) rfl rfl dX11_searched_32 ?_
      refine g_if_le (tgt := 40) C dX11_searched_35 (by decide) (fun z17 => ?_) (fun z17 => ?_)
      · replace h := h.1 z17
        refine g_aload_n C dX11_searched_40 rfl 0 rfl ?_
        refine g_iload_n C dX11_searched_41 rfl 1 rfl ?_
        refine gr_callvV C [.int p0] rfl (k_X11_layBest l D T m0 a p0 r13 q14) (w0_V 1 C.2.2.2.2.1 kw_2255 kw_2257 ks_98 kw_9 kw_2258 rfl rfl (by decide +kernel) ⟨by decide, by decide⟩) rfl (Nat.le_of_ble_eq_true rfl) (Nat.zero_le _) (Nat.zero_le _) dX11_searched_42 (fun r19 q20 hp => ?_)
        replace h := h r19 q20 hp
        refine g_aload_n C dX11_searched_45 rfl 0 rfl ?_
        refine gr_get C iwx_X11 32 (hw kw_1841) (by decide) rfl rfl dX11_searched_46 ?_
        refine g_iload_n C dX11_searched_49 rfl 1 rfl ?_
        obtain ⟨g21, h⟩ := h
        refine gr_ald_8 C g21 dX11_searched_50 ?_
        exact gr_iret C hr dX11_searched_51 h
      · replace h := h.2 z17
        refine g_iconst (v := 0) C dX11_searched_38 (by decide) ?_
        exact gr_iret C hr dX11_searched_39 h
    · replace h := h.2 z16
      refine g_aload_n C dX11_searched_26 rfl 0 rfl ?_
      refine g_iconst (v := 3) C dX11_searched_27 (by decide) ?_
      refine gr_put_6 C iwx_X11 (hw kw_1815) dX11_searched_28 ?_
      refine gr_nr (fun r22 er22 => ?_)
      replace h := h r22 er22
      refine g_aload_n C dX11_searched_31 rfl 0 rfl ?_
      refine gr_get C iwx_X11 6 (hw kw_1815) (by decide) rfl rfl dX11_searched_32 ?_
      refine g_if_le (tgt := 40) C dX11_searched_35 (by decide) (fun z23 => ?_) (fun z23 => ?_)
      · replace h := h.1 z23
        refine g_aload_n C dX11_searched_40 rfl 0 rfl ?_
        refine g_iload_n C dX11_searched_41 rfl 1 rfl ?_
        refine gr_callvV C [.int p0] rfl (k_X11_layBest l D T m0 a p0 r22 q14) (w0_V 1 C.2.2.2.2.1 kw_2255 kw_2257 ks_98 kw_9 kw_2258 rfl rfl (by decide +kernel) ⟨by decide, by decide⟩) rfl (Nat.le_of_ble_eq_true rfl) (Nat.zero_le _) (Nat.zero_le _) dX11_searched_42 (fun r25 q26 hp => ?_)
        replace h := h r25 q26 hp
        refine g_aload_n C dX11_searched_45 rfl 0 rfl ?_
        refine gr_get C iwx_X11 32 (hw kw_1841) (by decide) rfl rfl dX11_searched_46 ?_
        refine g_iload_n C dX11_searched_49 rfl 1 rfl ?_
        obtain ⟨g27, h⟩ := h
        refine gr_ald_8 C g27 dX11_searched_50 ?_
        exact gr_iret C hr dX11_searched_51 h
      · replace h := h.2 z23
        refine g_iconst (v := 0) C dX11_searched_38 (by decide) ?_
        exact gr_iret C hr dX11_searched_39 h
theorem c_X11_searched (l : Launch) (D : va_G) (T : Nat → ClassId) (m0 : Nat) (a : Nat → Nat) (p0 : Int32) (r : Nat → Int32) (q : Nat → Nat → Int32) (P : Int32 → RST → Prop) (h : wp_X11_searched P p0 r q) : RMi l yX11_searched (ws_X11_searched) rm_X11_searched D T m0 a [.ref m0, .int p0] r q P := gr_meti (by decide) rfl rfl (Nat.le_of_ble_eq_true rfl) (fun p e s m args below meth c A C hr => t_X11_searched C hr P p0 r q h)
def wb_X11_merged_74 (rec : Int32 → Int32 → Int32 → Int32 → Int32 → (Nat → Int32) → (Nat → Nat → Int32) → Prop) (P : Int32 → RST → Prop) (x1 : Int32) (x2 : Int32) (x3 : Int32) (x4 : Int32) (x5 : Int32) (r : Nat → Int32) (q : Nat → Nat → Int32) : Prop := ((r 36) ≤ x5 → ((¬ x2 = 0 → ((¬ x2 = 1 → (P x4 (r, q))) ∧ (x2 = 1 → (P (r 36) (r, q))))) ∧ (x2 = 0 → (P x3 (r, q))))) ∧ (¬ (r 36) ≤ x5 → (vp_in x5 10 ∧ (vp_in (q 11 (Int32.toNatClampNeg x5)) 1024 ∧ (∀ v17 : Int32, v17 = (x3 + (q 7 (Int32.toNatClampNeg (q 11 (Int32.toNatClampNeg x5))))) → (vp_in x5 10 ∧ ((gix x1 ∧ ¬ x1 = (0 : Int32)) ∧ (((hasF (q 11 (Int32.toNatClampNeg x5)) (nI (lowN (iv x1)))) = 0 → (∀ v21 : Int32, v21 = x5 + 1 → (rec x1 x2 v17 x4 v21 r q))) ∧ (¬ (hasF (q 11 (Int32.toNatClampNeg x5)) (nI (lowN (iv x1)))) = 0 → (vp_in x5 10 ∧ (∀ v23 : Int32, v23 = (q 11 (Int32.toNatClampNeg x5)) → (∀ v24 : Int32, v24 = x5 + 1 → (rec x1 x2 v17 v23 v24 r q))))))))))))
def wp_X11_merged_74 (P : Int32 → RST → Prop) : Nat → Int32 → Int32 → Int32 → Int32 → Int32 → (Nat → Int32) → (Nat → Nat → Int32) → Prop
  | 0 => fun _ _ _ _ _ _ _ => False
  | n + 1 => fun x1 x2 x3 x4 x5 r q => wb_X11_merged_74 (wp_X11_merged_74  P n)  P x1 x2 x3 x4 x5 r q
set_option maxRecDepth 100000 in
set_option maxHeartbeats 4000000 in
theorem t_X11_merged_74 {p : Program} {l : Launch} {e : Env} {s : State} {m : MethodId} {args : Array Value} {below : List Frame} {meth : Method} {c : Code} {D : va_G} {A : Nat → Prop} {T : Nat → ClassId} {m0 : Nat} {a : Nat → Nat} (C : GC p s m args meth c cX11_merged "FreightRaterModel" (ws_X11_merged) 6 D A (zty T)) (hr : meth.sig.returnType = (some .int)) (P : Int32 → RST → Prop) : ∀ (n : Nat) (x1 : Int32) (x2 : Int32) (x3 : Int32) (x4 : Int32) (x5 : Int32) (r : Nat → Int32) (q : Nat → Nat → Int32), wp_X11_merged_74  P n x1 x2 x3 x4 x5 r q → GW p l e rm_X11_merged s m args below meth c D A 6 0 0 (MQ below (va_Qi P (RE D T m0 a A) A) args s 0 0 A) (RW m0 a T r q) 0 0 74 [(0, .ref m0), (1, .int x1), (2, .int x2), (3, .int x3), (4, .int x4), (5, .int x5)] [] := by
  have hw : ∀ {w : Cond}, w ∈ W0 → w.before args s = true := fun h => C.2.2.2.2.1 _ (List.mem_cons_of_mem _ h)
  intro n
  induction n with
  | zero => intro x1 x2 x3 x4 x5 r q h; exact h.elim
  | succ n ih =>
    intro x1 x2 x3 x4 x5 r q h
    replace h : wb_X11_merged_74 (wp_X11_merged_74  P n)  P x1 x2 x3 x4 x5 r q := h
    unfold wb_X11_merged_74 at h
    refine g_iload C dX11_merged_74 5 rfl ?_
    refine g_aload_n C dX11_merged_76 rfl 0 rfl ?_
    refine gr_get C iwx_X11 36 (hw kw_1845) (by decide) rfl rfl dX11_merged_77 ?_
    refine g_icmp_ge (tgt := 135) C dX11_merged_80 (by decide) (fun z12 => ?_) (fun z12 => ?_)
    · replace h := h.1 z12
      refine g_iload_n C dX11_merged_135 rfl 2 rfl ?_
      refine g_if_ne (tgt := 143) C dX11_merged_136 (by decide) (fun z13 => ?_) (fun z13 => ?_)
      · replace h := h.1 z13
        refine g_iload_n C dX11_merged_143 rfl 2 rfl ?_
        refine g_iconst (v := 1) C dX11_merged_144 (by decide) ?_
        refine g_icmp_ne (tgt := 155) C dX11_merged_145 (by decide) (fun z14 => ?_) (fun z14 => ?_)
        · replace h := h.1 z14
          refine g_iload C dX11_merged_155 4 rfl ?_
          exact gr_iret C hr dX11_merged_157 h
        · replace h := h.2 z14
          refine g_aload_n C dX11_merged_148 rfl 0 rfl ?_
          refine gr_get C iwx_X11 36 (hw kw_1845) (by decide) rfl rfl dX11_merged_149 ?_
          refine g_goto (tgt := 157) C dX11_merged_152 (by decide) ?_
          exact gr_iret C hr dX11_merged_157 h
      · replace h := h.2 z13
        refine g_iload_n C dX11_merged_139 rfl 3 rfl ?_
        refine g_goto (tgt := 157) C dX11_merged_140 (by decide) ?_
        exact gr_iret C hr dX11_merged_157 h
    · replace h := h.2 z12
      refine g_iload_n C dX11_merged_83 rfl 3 rfl ?_
      refine g_aload_n C dX11_merged_84 rfl 0 rfl ?_
      refine gr_get C iwx_X11 31 (hw kw_1840) (by decide) rfl rfl dX11_merged_85 ?_
      refine g_aload_n C dX11_merged_88 rfl 0 rfl ?_
      refine gr_get C iwx_X11 37 (hw kw_1846) (by decide) rfl rfl dX11_merged_89 ?_
      refine g_iload C dX11_merged_92 5 rfl ?_
      obtain ⟨g15, h⟩ := h
      refine gr_ald_11 C g15 dX11_merged_94 ?_
      obtain ⟨g16, h⟩ := h
      refine gr_ald_7 C g16 dX11_merged_95 ?_
      refine g_iadd C dX11_merged_96 ?_
      refine g_topi (fun v17 ev17 => ?_)
      replace h := h v17 ev17
      refine g_istore_n (lv' := [(3, .int v17), (0, .ref m0), (1, .int x1), (2, .int x2), (4, .int x4), (5, .int x5)]) C dX11_merged_97 rfl (by decide) rfl ?_
      refine g_aload_n C dX11_merged_98 rfl 1 rfl ?_
      refine gr_get C iwx_X11 37 (hw kw_1846) (by decide) rfl rfl dX11_merged_99 ?_
      refine g_iload C dX11_merged_102 5 rfl ?_
      obtain ⟨g18, h⟩ := h
      refine gr_ald_11 C g18 dX11_merged_104 ?_
      refine g_iload_n C dX11_merged_105 rfl 2 rfl ?_
      obtain ⟨g19, h⟩ := h
      refine gr_callSf C [.int x1] rfl (k_X11_lowest l D T m0 a x1 r q g19) (w0_S 1 C.2.2.2.2.1 kw_2175 kw_2176 kw_9 kw_2177 rfl rfl (by decide +kernel) ⟨by decide, by decide⟩) rfl (Nat.le_of_ble_eq_true rfl) (Nat.zero_le _) (Nat.zero_le _) dX11_merged_106 ?_
      refine gr_callSf C [.int (q 11 (Int32.toNatClampNeg x5)), .int (nI (lowN (iv x1)))] rfl (k_X11_has l D T m0 a (q 11 (Int32.toNatClampNeg x5)) (nI (lowN (iv x1))) r q) (w0_S 2 C.2.2.2.2.1 kw_2178 kw_2179 kw_9 kw_2180 rfl rfl (by decide +kernel) ⟨by decide, by decide⟩) rfl (Nat.le_of_ble_eq_true rfl) (Nat.zero_le _) (Nat.zero_le _) dX11_merged_109 ?_
      refine g_if_eq (tgt := 125) C dX11_merged_112 (by decide) (fun z20 => ?_) (fun z20 => ?_)
      · replace h := h.1 z20
        refine g_iload C dX11_merged_125 4 rfl ?_
        refine g_istore (lv' := [(4, .int x4), (3, .int v17), (0, .ref m0), (1, .int x1), (2, .int x2), (5, .int x5)]) C dX11_merged_127 (by decide) rfl ?_
        obtain ⟨v21, ev21⟩ : ∃ y : Int32, y = x5 + 1 := ⟨_, rfl⟩
        replace h := h v21 ev21
        refine g_iinc (v := v21) (lv' := [(5, .int v21), (4, .int x4), (3, .int v17), (0, .ref m0), (1, .int x1), (2, .int x2)]) C dX11_merged_129 (j := 5) rfl (by rw [ev21]; rfl) (by decide) rfl ?_
        refine g_goto (tgt := 74) C dX11_merged_132 (by decide) ?_
        refine g_locals [3, 4, 5, 2, 1, 0] rfl ?_
        exact ih x1 x2 v17 x4 v21 r q h
      · replace h := h.2 z20
        refine g_aload_n C dX11_merged_115 rfl 1 rfl ?_
        refine gr_get C iwx_X11 37 (hw kw_1846) (by decide) rfl rfl dX11_merged_116 ?_
        refine g_iload C dX11_merged_119 5 rfl ?_
        obtain ⟨g22, h⟩ := h
        refine gr_ald_11 C g22 dX11_merged_121 ?_
        refine g_goto (tgt := 127) C dX11_merged_122 (by decide) ?_
        refine g_topi (fun v23 ev23 => ?_)
        replace h := h v23 ev23
        refine g_istore (lv' := [(4, .int v23), (3, .int v17), (0, .ref m0), (1, .int x1), (2, .int x2), (5, .int x5)]) C dX11_merged_127 (by decide) rfl ?_
        obtain ⟨v24, ev24⟩ : ∃ y : Int32, y = x5 + 1 := ⟨_, rfl⟩
        replace h := h v24 ev24
        refine g_iinc (v := v24) (lv' := [(5, .int v24), (4, .int v23), (3, .int v17), (0, .ref m0), (1, .int x1), (2, .int x2)]) C dX11_merged_129 (j := 5) rfl (by rw [ev24]; rfl) (by decide) rfl ?_
        refine g_goto (tgt := 74) C dX11_merged_132 (by decide) ?_
        refine g_locals [3, 4, 5, 2, 1, 0] rfl ?_
        exact ih x1 x2 v17 v23 v24 r q h
def wp_X11_merged_32 (P : Int32 → RST → Prop) (x1 : Int32) (x2 : Int32) (r : Nat → Int32) (q : Nat → Nat → Int32) : Prop := (¬ (r 6) = 0 → (((r 6) ≤ 0 → (∀ (r10 : Nat → Int32) (q11 : Nat → Nat → Int32), True → (∃ k25 : Nat, wp_X11_merged_74  P k25 x1 x2 0 0 0 r10 q11))) ∧ (¬ (r 6) ≤ 0 → (P 0 (r, q))))) ∧ ((r 6) = 0 → ((WF (q 0) ∧ gok (q 0) x1) ∧ (∀ (v26 : Int32) (r27 : Nat → Int32) (q28 : Nat → Nat → Int32), (q28 = q ∧ kR r r27 [17, 18, 19, 20, 21, 22, 23, 35] ∧ v26 = (match rfF (q 0) (iv x1) with | none => 0 | some _ => 1) ∧ ∀ s, rfF (q 0) (iv x1) = some s → r27 35 = nI (rsnD (q 0) (2 ^ s)).1 ∧ r27 17 = (rsnD (q 0) (2 ^ s)).2) → ((v26 = 0 → (((r27 6) ≤ 0 → (∀ (r33 : Nat → Int32) (q34 : Nat → Nat → Int32), True → (∃ k35 : Nat, wp_X11_merged_74  P k35 x1 x2 0 0 0 r33 q34))) ∧ (¬ (r27 6) ≤ 0 → (P 0 (r27, q28))))) ∧ (¬ v26 = 0 → (∀ r36 : Nat → Int32, r36 = va_up r27 6 3 → (((r36 6) ≤ 0 → (∀ (r39 : Nat → Int32) (q40 : Nat → Nat → Int32), True → (∃ k41 : Nat, wp_X11_merged_74  P k41 x1 x2 0 0 0 r39 q40))) ∧ (¬ (r36 6) ≤ 0 → (P 0 (r36, q28))))))))))
set_option maxRecDepth 100000 in
set_option maxHeartbeats 4000000 in
theorem t_X11_merged_32 {p : Program} {l : Launch} {e : Env} {s : State} {m : MethodId} {args : Array Value} {below : List Frame} {meth : Method} {c : Code} {D : va_G} {A : Nat → Prop} {T : Nat → ClassId} {m0 : Nat} {a : Nat → Nat} (C : GC p s m args meth c cX11_merged "FreightRaterModel" (ws_X11_merged) 6 D A (zty T)) (hr : meth.sig.returnType = (some .int)) (P : Int32 → RST → Prop) : ∀ (x1 : Int32) (x2 : Int32) (r : Nat → Int32) (q : Nat → Nat → Int32), wp_X11_merged_32  P x1 x2 r q → GW p l e rm_X11_merged s m args below meth c D A 6 0 0 (MQ below (va_Qi P (RE D T m0 a A) A) args s 0 0 A) (RW m0 a T r q) 0 0 32 [(0, .ref m0), (1, .int x1), (2, .int x2)] [] := by
  have hw : ∀ {w : Cond}, w ∈ W0 → w.before args s = true := fun h => C.2.2.2.2.1 _ (List.mem_cons_of_mem _ h)
  intro x1 x2 r q h
  unfold wp_X11_merged_32 at h
  refine g_aload_n C dX11_merged_32 rfl 0 rfl ?_
  refine gr_get C iwx_X11 6 (hw kw_1815) (by decide) rfl rfl dX11_merged_33 ?_
  refine g_if_ne (tgt := 52) C dX11_merged_36 (by decide) (fun z7 => ?_) (fun z7 => ?_)
  · replace h := h.1 z7
    refine g_aload_n C dX11_merged_52 rfl 0 rfl ?_
    refine gr_get C iwx_X11 6 (hw kw_1815) (by decide) rfl rfl dX11_merged_53 ?_
    refine g_if_le (tgt := 61) C dX11_merged_56 (by decide) (fun z8 => ?_) (fun z8 => ?_)
    · replace h := h.1 z8
      refine g_aload_n C dX11_merged_61 rfl 0 rfl ?_
      refine g_iload_n C dX11_merged_62 rfl 1 rfl ?_
      refine gr_callvV C [.int x1] rfl (k_X11_layMerged l D T m0 a x1 r q) (w0_V 1 C.2.2.2.2.1 kw_2279 kw_2281 ks_101 kw_9 kw_2282 rfl rfl (by decide +kernel) ⟨by decide, by decide⟩) rfl (Nat.le_of_ble_eq_true rfl) (Nat.zero_le _) (Nat.zero_le _) dX11_merged_63 (fun r10 q11 hp => ?_)
      replace h := h r10 q11 hp
      refine g_iconst (v := 0) C dX11_merged_66 (by decide) ?_
      refine g_istore_n (lv' := [(3, .int 0), (0, .ref m0), (1, .int x1), (2, .int x2)]) C dX11_merged_67 rfl (by decide) rfl ?_
      refine g_iconst (v := 0) C dX11_merged_68 (by decide) ?_
      refine g_istore (lv' := [(4, .int 0), (3, .int 0), (0, .ref m0), (1, .int x1), (2, .int x2)]) C dX11_merged_69 (by decide) rfl ?_
      refine g_iconst (v := 0) C dX11_merged_71 (by decide) ?_
      refine g_istore (lv' := [(5, .int 0), (4, .int 0), (3, .int 0), (0, .ref m0), (1, .int x1), (2, .int x2)]) C dX11_merged_72 (by decide) rfl ?_
      refine g_locals [3, 4, 5, 2, 1, 0] rfl ?_
      obtain ⟨k25, h⟩ := h
      refine t_X11_merged_74 C hr  P  k25 x1 x2 0 0 0 r10 q11 h
    · replace h := h.2 z8
      refine g_iconst (v := 0) C dX11_merged_59 (by decide) ?_
      exact gr_iret C hr dX11_merged_60 h
  · replace h := h.2 z7
    refine g_aload_n C dX11_merged_39 rfl 0 rfl ?_
    refine g_iload_n C dX11_merged_40 rfl 1 rfl ?_
    obtain ⟨g29, h⟩ := h
    refine gr_calliV C [.int x1] rfl (k_X11_hasRefused l D T m0 a x1 r q g29) (w0_V 1 C.2.2.2.2.1 kw_2251 kw_2253 ks_97 kw_9 kw_2254 rfl rfl (by decide +kernel) ⟨by decide, by decide⟩) rfl (Nat.le_of_ble_eq_true rfl) (Nat.zero_le _) (Nat.zero_le _) dX11_merged_41 (fun v26 r27 q28 hp => ?_)
    replace h := h v26 r27 q28 hp
    refine g_if_eq (tgt := 52) C dX11_merged_44 (by decide) (fun z30 => ?_) (fun z30 => ?_)
    · replace h := h.1 z30
      refine g_aload_n C dX11_merged_52 rfl 0 rfl ?_
      refine gr_get C iwx_X11 6 (hw kw_1815) (by decide) rfl rfl dX11_merged_53 ?_
      refine g_if_le (tgt := 61) C dX11_merged_56 (by decide) (fun z31 => ?_) (fun z31 => ?_)
      · replace h := h.1 z31
        refine g_aload_n C dX11_merged_61 rfl 0 rfl ?_
        refine g_iload_n C dX11_merged_62 rfl 1 rfl ?_
        refine gr_callvV C [.int x1] rfl (k_X11_layMerged l D T m0 a x1 r27 q28) (w0_V 1 C.2.2.2.2.1 kw_2279 kw_2281 ks_101 kw_9 kw_2282 rfl rfl (by decide +kernel) ⟨by decide, by decide⟩) rfl (Nat.le_of_ble_eq_true rfl) (Nat.zero_le _) (Nat.zero_le _) dX11_merged_63 (fun r33 q34 hp => ?_)
        replace h := h r33 q34 hp
        refine g_iconst (v := 0) C dX11_merged_66 (by decide) ?_
        refine g_istore_n (lv' := [(3, .int 0), (0, .ref m0), (1, .int x1), (2, .int x2)]) C dX11_merged_67 rfl (by decide) rfl ?_
        refine g_iconst (v := 0) C dX11_merged_68 (by decide) ?_
        refine g_istore (lv' := [(4, .int 0), (3, .int 0), (0, .ref m0), (1, .int x1), (2, .int x2)]) C dX11_merged_69 (by decide) rfl ?_
        refine g_iconst (v := 0) C dX11_merged_71 (by decide) ?_
        refine g_istore (lv' := [(5, .int 0), (4, .int 0), (3, .int 0), (0, .ref m0), (1, .int x1), (2, .int x2)]) C dX11_merged_72 (by decide) rfl ?_
        refine g_locals [3, 4, 5, 2, 1, 0] rfl ?_
        obtain ⟨k35, h⟩ := h
        refine t_X11_merged_74 C hr  P  k35 x1 x2 0 0 0 r33 q34 h
      · replace h := h.2 z31
        refine g_iconst (v := 0) C dX11_merged_59 (by decide) ?_
        exact gr_iret C hr dX11_merged_60 h
    · replace h := h.2 z30
      refine g_aload_n C dX11_merged_47 rfl 0 rfl ?_
      refine g_iconst (v := 3) C dX11_merged_48 (by decide) ?_
      refine gr_put_6 C iwx_X11 (hw kw_1815) dX11_merged_49 ?_
      refine gr_nr (fun r36 er36 => ?_)
      replace h := h r36 er36
      refine g_aload_n C dX11_merged_52 rfl 0 rfl ?_
      refine gr_get C iwx_X11 6 (hw kw_1815) (by decide) rfl rfl dX11_merged_53 ?_
      refine g_if_le (tgt := 61) C dX11_merged_56 (by decide) (fun z37 => ?_) (fun z37 => ?_)
      · replace h := h.1 z37
        refine g_aload_n C dX11_merged_61 rfl 0 rfl ?_
        refine g_iload_n C dX11_merged_62 rfl 1 rfl ?_
        refine gr_callvV C [.int x1] rfl (k_X11_layMerged l D T m0 a x1 r36 q28) (w0_V 1 C.2.2.2.2.1 kw_2279 kw_2281 ks_101 kw_9 kw_2282 rfl rfl (by decide +kernel) ⟨by decide, by decide⟩) rfl (Nat.le_of_ble_eq_true rfl) (Nat.zero_le _) (Nat.zero_le _) dX11_merged_63 (fun r39 q40 hp => ?_)
        replace h := h r39 q40 hp
        refine g_iconst (v := 0) C dX11_merged_66 (by decide) ?_
        refine g_istore_n (lv' := [(3, .int 0), (0, .ref m0), (1, .int x1), (2, .int x2)]) C dX11_merged_67 rfl (by decide) rfl ?_
        refine g_iconst (v := 0) C dX11_merged_68 (by decide) ?_
        refine g_istore (lv' := [(4, .int 0), (3, .int 0), (0, .ref m0), (1, .int x1), (2, .int x2)]) C dX11_merged_69 (by decide) rfl ?_
        refine g_iconst (v := 0) C dX11_merged_71 (by decide) ?_
        refine g_istore (lv' := [(5, .int 0), (4, .int 0), (3, .int 0), (0, .ref m0), (1, .int x1), (2, .int x2)]) C dX11_merged_72 (by decide) rfl ?_
        refine g_locals [3, 4, 5, 2, 1, 0] rfl ?_
        obtain ⟨k41, h⟩ := h
        refine t_X11_merged_74 C hr  P  k41 x1 x2 0 0 0 r39 q40 h
      · replace h := h.2 z37
        refine g_iconst (v := 0) C dX11_merged_59 (by decide) ?_
        exact gr_iret C hr dX11_merged_60 h
def wp_X11_merged (P : Int32 → RST → Prop) (p0 : Int32) (p1 : Int32) (r : Nat → Int32) (q : Nat → Nat → Int32) : Prop := (WF (q 0) ∧ rix 8) ∧ (∀ (v1 : Int32) (r2 : Nat → Int32) (q3 : Nat → Nat → Int32), (v1 = lckF (q 0) p0 (iv 8) ∧ r2 = va_up r 35 0 ∧ q3 = q) → (∀ r5 : Nat → Int32, r5 = va_up r2 6 v1 → ((¬ (r5 6) = 0 → (wp_X11_merged_32  P p0 p1 r5 q3)) ∧ ((r5 6) = 0 → ((¬ (zin p1 0 2) = 0 → (wp_X11_merged_32  P p0 p1 r5 q3)) ∧ ((zin p1 0 2) = 0 → (∀ r43 : Nat → Int32, r43 = va_up r5 6 2 → (wp_X11_merged_32  P p0 p1 r43 q3))))))))
set_option maxRecDepth 100000 in
set_option maxHeartbeats 4000000 in
theorem t_X11_merged {p : Program} {l : Launch} {e : Env} {s : State} {m : MethodId} {args : Array Value} {below : List Frame} {meth : Method} {c : Code} {D : va_G} {A : Nat → Prop} {T : Nat → ClassId} {m0 : Nat} {a : Nat → Nat} (C : GC p s m args meth c cX11_merged "FreightRaterModel" (ws_X11_merged) 6 D A (zty T)) (hr : meth.sig.returnType = (some .int)) (P : Int32 → RST → Prop) : ∀ (p0 : Int32) (p1 : Int32) (r : Nat → Int32) (q : Nat → Nat → Int32), wp_X11_merged P p0 p1 r q → GW p l e rm_X11_merged s m args below meth c D A 6 0 0 (MQ below (va_Qi P (RE D T m0 a A) A) args s 0 0 A) (RW m0 a T r q) 0 0 0 [(0, .ref m0), (1, .int p0), (2, .int p1)] [] := by
  have hw : ∀ {w : Cond}, w ∈ W0 → w.before args s = true := fun h => C.2.2.2.2.1 _ (List.mem_cons_of_mem _ h)
  intro p0 p1 r q h
  unfold wp_X11_merged at h
  refine g_aload_n C dX11_merged_0 rfl 0 rfl ?_
  refine g_aload_n C dX11_merged_1 rfl 0 rfl ?_
  refine g_iload_n C dX11_merged_2 rfl 1 rfl ?_
  refine g_bipush (v := 8) C dX11_merged_3 (by decide) ?_
  obtain ⟨g4, h⟩ := h
  refine gr_calliV C [.int p0, .int 8] rfl (k_X11_lacks l D T m0 a p0 8 r q g4) (w0_V 2 C.2.2.2.2.1 kw_2247 kw_2249 ks_96 kw_9 kw_2250 rfl rfl (by decide +kernel) ⟨by decide, by decide⟩) rfl (Nat.le_of_ble_eq_true rfl) (Nat.zero_le _) (Nat.zero_le _) dX11_merged_5 (fun v1 r2 q3 hp => ?_)
  replace h := h v1 r2 q3 hp
  refine gr_put_6 C iwx_X11 (hw kw_1815) dX11_merged_8 ?_
  refine gr_nr (fun r5 er5 => ?_)
  replace h := h r5 er5
  refine g_aload_n C dX11_merged_11 rfl 0 rfl ?_
  refine gr_get C iwx_X11 6 (hw kw_1815) (by decide) rfl rfl dX11_merged_12 ?_
  refine g_if_ne (tgt := 32) C dX11_merged_15 (by decide) (fun z6 => ?_) (fun z6 => ?_)
  · replace h := h.1 z6
    refine g_locals [0, 1, 2] rfl ?_
    refine t_X11_merged_32 C hr  P  p0 p1 r5 q3 h
  · replace h := h.2 z6
    refine g_iload_n C dX11_merged_18 rfl 2 rfl ?_
    refine g_iconst (v := 0) C dX11_merged_19 (by decide) ?_
    refine g_iconst (v := 2) C dX11_merged_20 (by decide) ?_
    refine gr_callSf C [.int p1, .int 0, .int 2] rfl (k_X11_in l D T m0 a p1 0 2 r5 q3) (w0_S 3 C.2.2.2.2.1 kw_1944 kw_1945 kw_9 kw_1946 rfl rfl (by decide +kernel) ⟨by decide, by decide⟩) rfl (Nat.le_of_ble_eq_true rfl) (Nat.zero_le _) (Nat.zero_le _) dX11_merged_21 ?_
    refine g_if_ne (tgt := 32) C dX11_merged_24 (by decide) (fun z42 => ?_) (fun z42 => ?_)
    · replace h := h.1 z42
      refine g_locals [0, 1, 2] rfl ?_
      refine t_X11_merged_32 C hr  P  p0 p1 r5 q3 h
    · replace h := h.2 z42
      refine g_aload_n C dX11_merged_27 rfl 0 rfl ?_
      refine g_iconst (v := 2) C dX11_merged_28 (by decide) ?_
      refine gr_put_6 C iwx_X11 (hw kw_1815) dX11_merged_29 ?_
      refine gr_nr (fun r43 er43 => ?_)
      replace h := h r43 er43
      refine g_locals [0, 1, 2] rfl ?_
      refine t_X11_merged_32 C hr  P  p0 p1 r43 q3 h
theorem c_X11_merged (l : Launch) (D : va_G) (T : Nat → ClassId) (m0 : Nat) (a : Nat → Nat) (p0 : Int32) (p1 : Int32) (r : Nat → Int32) (q : Nat → Nat → Int32) (P : Int32 → RST → Prop) (h : wp_X11_merged P p0 p1 r q) : RMi l yX11_merged (ws_X11_merged) rm_X11_merged D T m0 a [.ref m0, .int p0, .int p1] r q P := gr_meti (by decide) rfl rfl (Nat.le_of_ble_eq_true rfl) (fun p e s m args below meth c A C hr => t_X11_merged C hr P p0 p1 r q h)
def wb_X11_post_74 (rec : Int32 → Int32 → (Nat → Int32) → (Nat → Nat → Int32) → Prop) (P : Int32 → RST → Prop) (x1 : Int32) (x2 : Int32) (r : Nat → Int32) (q : Nat → Nat → Int32) : Prop := (x2 = 0 → (vp_in x1 1024 ∧ (P (q 8 (Int32.toNatClampNeg x1)) (r, q)))) ∧ (¬ x2 = 0 → (vp_in x2 1024 ∧ (∀ (r24 : Nat → Int32) (q25 : Nat → Nat → Int32), True → (vp_in 3 3334 ∧ (vp_in 3 3334 ∧ (∀ q28 : Nat → Nat → Int32, q28 = va_up q25 0 (upd (q25 0) (Int32.toNatClampNeg 3) ((q25 0 (Int32.toNatClampNeg 3)) + 1)) → (vp_in x2 1024 ∧ (∀ v30 : Int32, v30 = (x2 &&& ((q28 10 (Int32.toNatClampNeg x2)) ^^^ (-1))) → (rec x1 v30 r24 q28)))))))))
def wp_X11_post_74 (P : Int32 → RST → Prop) : Nat → Int32 → Int32 → (Nat → Int32) → (Nat → Nat → Int32) → Prop
  | 0 => fun _ _ _ _ => False
  | n + 1 => fun x1 x2 r q => wb_X11_post_74 (wp_X11_post_74  P n)  P x1 x2 r q
set_option maxRecDepth 100000 in
set_option maxHeartbeats 4000000 in
theorem t_X11_post_74 {p : Program} {l : Launch} {e : Env} {s : State} {m : MethodId} {args : Array Value} {below : List Frame} {meth : Method} {c : Code} {D : va_G} {A : Nat → Prop} {T : Nat → ClassId} {m0 : Nat} {a : Nat → Nat} (C : GC p s m args meth c cX11_post "FreightRaterModel" (ws_X11_post) 3 D A (zty T)) (hr : meth.sig.returnType = (some .int)) (P : Int32 → RST → Prop) : ∀ (n : Nat) (x1 : Int32) (x2 : Int32) (r : Nat → Int32) (q : Nat → Nat → Int32), wp_X11_post_74  P n x1 x2 r q → GW p l e rm_X11_post s m args below meth c D A 3 0 0 (MQ below (va_Qi P (RE D T m0 a A) A) args s 0 0 A) (RW m0 a T r q) 0 0 74 [(0, .ref m0), (1, .int x1), (2, .int x2)] [] := by
  have hw : ∀ {w : Cond}, w ∈ W0 → w.before args s = true := fun h => C.2.2.2.2.1 _ (List.mem_cons_of_mem _ h)
  intro n
  induction n with
  | zero => intro x1 x2 r q h; exact h.elim
  | succ n ih =>
    intro x1 x2 r q h
    replace h : wb_X11_post_74 (wp_X11_post_74  P n)  P x1 x2 r q := h
    unfold wb_X11_post_74 at h
    refine g_iload_n C dX11_post_74 rfl 2 rfl ?_
    refine g_if_eq (tgt := 112) C dX11_post_75 (by decide) (fun z20 => ?_) (fun z20 => ?_)
    · replace h := h.1 z20
      refine g_aload_n C dX11_post_112 rfl 0 rfl ?_
      refine gr_get C iwx_X11 32 (hw kw_1841) (by decide) rfl rfl dX11_post_113 ?_
      refine g_iload_n C dX11_post_116 rfl 1 rfl ?_
      obtain ⟨g21, h⟩ := h
      refine gr_ald_8 C g21 dX11_post_117 ?_
      exact gr_iret C hr dX11_post_118 h
    · replace h := h.2 z20
      refine g_aload_n C dX11_post_78 rfl 0 rfl ?_
      refine g_aload_n C dX11_post_79 rfl 0 rfl ?_
      refine gr_get C iwx_X11 34 (hw kw_1843) (by decide) rfl rfl dX11_post_80 ?_
      refine g_iload_n C dX11_post_83 rfl 2 rfl ?_
      obtain ⟨g22, h⟩ := h
      refine gr_ald_10 C g22 dX11_post_84 ?_
      refine gr_callvV C [.int (q 10 (Int32.toNatClampNeg x2))] rfl (k_X11_shares l D T m0 a (q 10 (Int32.toNatClampNeg x2)) r q) (w0_V 1 C.2.2.2.2.1 kw_2295 kw_2297 ks_104 kw_9 kw_2298 rfl rfl (by decide +kernel) ⟨by decide, by decide⟩) rfl (Nat.le_of_ble_eq_true rfl) (Nat.zero_le _) (Nat.zero_le _) dX11_post_85 (fun r24 q25 hp => ?_)
      replace h := h r24 q25 hp
      refine g_aload_n C dX11_post_88 rfl 0 rfl ?_
      refine gr_get C iwx_X11 0 (hw kw_1809) (by decide) rfl rfl dX11_post_89 ?_
      refine g_iconst (v := 3) C dX11_post_92 (by decide) ?_
      refine g_dup2 C dX11_post_93 rfl rfl ?_
      obtain ⟨g26, h⟩ := h
      refine gr_ald_0 C g26 dX11_post_94 ?_
      refine g_iconst (v := 1) C dX11_post_95 (by decide) ?_
      refine g_iadd C dX11_post_96 ?_
      obtain ⟨g27, h⟩ := h
      refine gr_ast_0 C g27 dX11_post_97 ?_
      refine gr_nq (fun q28 eq28 => ?_)
      replace h := h q28 eq28
      refine g_iload_n C dX11_post_98 rfl 2 rfl ?_
      refine g_aload_n C dX11_post_99 rfl 0 rfl ?_
      refine gr_get C iwx_X11 34 (hw kw_1843) (by decide) rfl rfl dX11_post_100 ?_
      refine g_iload_n C dX11_post_103 rfl 2 rfl ?_
      obtain ⟨g29, h⟩ := h
      refine gr_ald_10 C g29 dX11_post_104 ?_
      refine g_iconst (v := -1) C dX11_post_105 (by decide) ?_
      refine g_ixor C dX11_post_106 ?_
      refine g_iand C dX11_post_107 ?_
      refine g_topi (fun v30 ev30 => ?_)
      replace h := h v30 ev30
      refine g_istore_n (lv' := [(2, .int v30), (0, .ref m0), (1, .int x1)]) C dX11_post_108 rfl (by decide) rfl ?_
      refine g_goto (tgt := 74) C dX11_post_109 (by decide) ?_
      refine g_locals [1, 2, 0] rfl ?_
      exact ih x1 v30 r24 q28 h
def wp_X11_post (P : Int32 → RST → Prop) (p0 : Int32) (r : Nat → Int32) (q : Nat → Nat → Int32) : Prop := (WF (q 0) ∧ rix 8) ∧ (∀ (v1 : Int32) (r2 : Nat → Int32) (q3 : Nat → Nat → Int32), (v1 = lckF (q 0) p0 (iv 8) ∧ r2 = va_up r 35 0 ∧ q3 = q) → (∀ r5 : Nat → Int32, r5 = va_up r2 6 v1 → ((¬ (r5 6) = 0 → (((r5 6) ≤ 0 → ((WF (q3 0) ∧ gok (q3 0) p0) ∧ (∀ (v8 : Int32) (r9 : Nat → Int32) (q10 : Nat → Nat → Int32), (q10 = q3 ∧ kR r5 r9 [17, 18, 19, 20, 21, 22, 23, 35] ∧ v8 = (match rfF (q3 0) (iv p0) with | none => 0 | some _ => 1) ∧ ∀ s, rfF (q3 0) (iv p0) = some s → r9 35 = nI (rsnD (q3 0) (2 ^ s)).1 ∧ r9 17 = (rsnD (q3 0) (2 ^ s)).2) → ((v8 = 0 → ((CW8 r9) ∧ (∀ (r14 : Nat → Int32) (q15 : Nat → Nat → Int32), (kR r9 r14 [5] ∧ kQ q10 q15 [3] ∧ psh (q10 3) (q15 3) (q10 0) (r9 5) (r14 5)) → (∀ (r18 : Nat → Int32) (q19 : Nat → Nat → Int32), True → (∃ k31 : Nat, wp_X11_post_74  P k31 p0 p0 r18 q19))))) ∧ (¬ v8 = 0 → (∀ (v32 : Int32) (r33 : Nat → Int32) (q34 : Nat → Nat → Int32), (v32 = 0 ∧ q34 = q10 ∧ r33 = va_up (va_up (va_up r9 29 (r9 35)) 30 (r9 17)) 6 4) → (P v32 (r33, q34)))))))) ∧ (¬ (r5 6) ≤ 0 → (P 0 (r5, q3))))) ∧ ((r5 6) = 0 → ((WF (q3 0)) ∧ ((((posF (q3 0)) &&& p0) = 0 → (((r5 6) ≤ 0 → ((WF (q3 0) ∧ gok (q3 0) p0) ∧ (∀ (v38 : Int32) (r39 : Nat → Int32) (q40 : Nat → Nat → Int32), (q40 = q3 ∧ kR r5 r39 [17, 18, 19, 20, 21, 22, 23, 35] ∧ v38 = (match rfF (q3 0) (iv p0) with | none => 0 | some _ => 1) ∧ ∀ s, rfF (q3 0) (iv p0) = some s → r39 35 = nI (rsnD (q3 0) (2 ^ s)).1 ∧ r39 17 = (rsnD (q3 0) (2 ^ s)).2) → ((v38 = 0 → ((CW8 r39) ∧ (∀ (r44 : Nat → Int32) (q45 : Nat → Nat → Int32), (kR r39 r44 [5] ∧ kQ q40 q45 [3] ∧ psh (q40 3) (q45 3) (q40 0) (r39 5) (r44 5)) → (∀ (r48 : Nat → Int32) (q49 : Nat → Nat → Int32), True → (∃ k50 : Nat, wp_X11_post_74  P k50 p0 p0 r48 q49))))) ∧ (¬ v38 = 0 → (∀ (v51 : Int32) (r52 : Nat → Int32) (q53 : Nat → Nat → Int32), (v51 = 0 ∧ q53 = q40 ∧ r52 = va_up (va_up (va_up r39 29 (r39 35)) 30 (r39 17)) 6 4) → (P v51 (r52, q53)))))))) ∧ (¬ (r5 6) ≤ 0 → (P 0 (r5, q3))))) ∧ (¬ ((posF (q3 0)) &&& p0) = 0 → (∀ r54 : Nat → Int32, r54 = va_up r5 6 3 → (((r54 6) ≤ 0 → ((WF (q3 0) ∧ gok (q3 0) p0) ∧ (∀ (v56 : Int32) (r57 : Nat → Int32) (q58 : Nat → Nat → Int32), (q58 = q3 ∧ kR r54 r57 [17, 18, 19, 20, 21, 22, 23, 35] ∧ v56 = (match rfF (q3 0) (iv p0) with | none => 0 | some _ => 1) ∧ ∀ s, rfF (q3 0) (iv p0) = some s → r57 35 = nI (rsnD (q3 0) (2 ^ s)).1 ∧ r57 17 = (rsnD (q3 0) (2 ^ s)).2) → ((v56 = 0 → ((CW8 r57) ∧ (∀ (r62 : Nat → Int32) (q63 : Nat → Nat → Int32), (kR r57 r62 [5] ∧ kQ q58 q63 [3] ∧ psh (q58 3) (q63 3) (q58 0) (r57 5) (r62 5)) → (∀ (r66 : Nat → Int32) (q67 : Nat → Nat → Int32), True → (∃ k68 : Nat, wp_X11_post_74  P k68 p0 p0 r66 q67))))) ∧ (¬ v56 = 0 → (∀ (v69 : Int32) (r70 : Nat → Int32) (q71 : Nat → Nat → Int32), (v69 = 0 ∧ q71 = q58 ∧ r70 = va_up (va_up (va_up r57 29 (r57 35)) 30 (r57 17)) 6 4) → (P v69 (r70, q71)))))))) ∧ (¬ (r54 6) ≤ 0 → (P 0 (r54, q3))))))))))))
set_option maxRecDepth 100000 in
set_option maxHeartbeats 4000000 in
theorem t_X11_post {p : Program} {l : Launch} {e : Env} {s : State} {m : MethodId} {args : Array Value} {below : List Frame} {meth : Method} {c : Code} {D : va_G} {A : Nat → Prop} {T : Nat → ClassId} {m0 : Nat} {a : Nat → Nat} (C : GC p s m args meth c cX11_post "FreightRaterModel" (ws_X11_post) 3 D A (zty T)) (hr : meth.sig.returnType = (some .int)) (P : Int32 → RST → Prop) : ∀ (p0 : Int32) (r : Nat → Int32) (q : Nat → Nat → Int32), wp_X11_post P p0 r q → GW p l e rm_X11_post s m args below meth c D A 3 0 0 (MQ below (va_Qi P (RE D T m0 a A) A) args s 0 0 A) (RW m0 a T r q) 0 0 0 [(0, .ref m0), (1, .int p0)] [] := by
  have hw : ∀ {w : Cond}, w ∈ W0 → w.before args s = true := fun h => C.2.2.2.2.1 _ (List.mem_cons_of_mem _ h)
  intro p0 r q h
  unfold wp_X11_post at h
  refine g_aload_n C dX11_post_0 rfl 0 rfl ?_
  refine g_aload_n C dX11_post_1 rfl 0 rfl ?_
  refine g_iload_n C dX11_post_2 rfl 1 rfl ?_
  refine g_bipush (v := 8) C dX11_post_3 (by decide) ?_
  obtain ⟨g4, h⟩ := h
  refine gr_calliV C [.int p0, .int 8] rfl (k_X11_lacks l D T m0 a p0 8 r q g4) (w0_V 2 C.2.2.2.2.1 kw_2247 kw_2249 ks_96 kw_9 kw_2250 rfl rfl (by decide +kernel) ⟨by decide, by decide⟩) rfl (Nat.le_of_ble_eq_true rfl) (Nat.zero_le _) (Nat.zero_le _) dX11_post_5 (fun v1 r2 q3 hp => ?_)
  replace h := h v1 r2 q3 hp
  refine gr_put_6 C iwx_X11 (hw kw_1815) dX11_post_8 ?_
  refine gr_nr (fun r5 er5 => ?_)
  replace h := h r5 er5
  refine g_aload_n C dX11_post_11 rfl 0 rfl ?_
  refine gr_get C iwx_X11 6 (hw kw_1815) (by decide) rfl rfl dX11_post_12 ?_
  refine g_if_ne (tgt := 32) C dX11_post_15 (by decide) (fun z6 => ?_) (fun z6 => ?_)
  · replace h := h.1 z6
    refine g_aload_n C dX11_post_32 rfl 0 rfl ?_
    refine gr_get C iwx_X11 6 (hw kw_1815) (by decide) rfl rfl dX11_post_33 ?_
    refine g_if_le (tgt := 41) C dX11_post_36 (by decide) (fun z7 => ?_) (fun z7 => ?_)
    · replace h := h.1 z7
      refine g_aload_n C dX11_post_41 rfl 0 rfl ?_
      refine g_iload_n C dX11_post_42 rfl 1 rfl ?_
      obtain ⟨g11, h⟩ := h
      refine gr_calliV C [.int p0] rfl (k_X11_hasRefused l D T m0 a p0 r5 q3 g11) (w0_V 1 C.2.2.2.2.1 kw_2251 kw_2253 ks_97 kw_9 kw_2254 rfl rfl (by decide +kernel) ⟨by decide, by decide⟩) rfl (Nat.le_of_ble_eq_true rfl) (Nat.zero_le _) (Nat.zero_le _) dX11_post_43 (fun v8 r9 q10 hp => ?_)
      replace h := h v8 r9 q10 hp
      refine g_if_eq (tgt := 59) C dX11_post_46 (by decide) (fun z12 => ?_) (fun z12 => ?_)
      · replace h := h.1 z12
        refine g_aload_n C dX11_post_59 rfl 0 rfl ?_
        refine g_aload_n C dX11_post_60 rfl 0 rfl ?_
        refine gr_get C iwx_X11 0 (hw kw_1809) (by decide) rfl rfl dX11_post_61 ?_
        obtain ⟨g16, h⟩ := h
        refine gr_callvV C [.ref (a 0)] rfl (k_X11_keepAs_0 l D T m0 a  r9 q10 g16) (w0_V 1 C.2.2.2.2.1 kw_1958 kw_1960 ks_52 kw_9 kw_1961 rfl rfl (by decide +kernel) ⟨by decide, by decide⟩) rfl (Nat.le_of_ble_eq_true rfl) (Nat.zero_le _) (Nat.zero_le _) dX11_post_64 (fun r14 q15 hp => ?_)
        replace h := h r14 q15 hp
        refine g_aload_n C dX11_post_67 rfl 0 rfl ?_
        refine g_iload_n C dX11_post_68 rfl 1 rfl ?_
        refine gr_callvV C [.int p0] rfl (k_X11_layBest l D T m0 a p0 r14 q15) (w0_V 1 C.2.2.2.2.1 kw_2255 kw_2257 ks_98 kw_9 kw_2258 rfl rfl (by decide +kernel) ⟨by decide, by decide⟩) rfl (Nat.le_of_ble_eq_true rfl) (Nat.zero_le _) (Nat.zero_le _) dX11_post_69 (fun r18 q19 hp => ?_)
        replace h := h r18 q19 hp
        refine g_iload_n C dX11_post_72 rfl 1 rfl ?_
        refine g_istore_n (lv' := [(2, .int p0), (0, .ref m0), (1, .int p0)]) C dX11_post_73 rfl (by decide) rfl ?_
        refine g_locals [1, 2, 0] rfl ?_
        obtain ⟨k31, h⟩ := h
        refine t_X11_post_74 C hr  P  k31 p0 p0 r18 q19 h
      · replace h := h.2 z12
        refine g_aload_n C dX11_post_49 rfl 0 rfl ?_
        refine g_aload_n C dX11_post_50 rfl 0 rfl ?_
        refine gr_get C iwx_X11 35 (hw kw_1844) (by decide) rfl rfl dX11_post_51 ?_
        refine g_iconst (v := 4) C dX11_post_54 (by decide) ?_
        refine gr_calliV C [.int (r9 35), .int 4] rfl (k_X11_keepsReason l D T m0 a (r9 35) 4 r9 q10) (w0_V 2 C.2.2.2.2.1 kw_2204 kw_2206 ks_92 kw_9 kw_2207 rfl rfl (by decide +kernel) ⟨by decide, by decide⟩) rfl (Nat.le_of_ble_eq_true rfl) (Nat.zero_le _) (Nat.zero_le _) dX11_post_55 (fun v32 r33 q34 hp => ?_)
        replace h := h v32 r33 q34 hp
        exact gr_iret C hr dX11_post_58 h
    · replace h := h.2 z7
      refine g_iconst (v := 0) C dX11_post_39 (by decide) ?_
      exact gr_iret C hr dX11_post_40 h
  · replace h := h.2 z6
    refine g_aload_n C dX11_post_18 rfl 0 rfl ?_
    obtain ⟨g35, h⟩ := h
    refine gr_callVf C [] rfl (k_X11_posted l D T m0 a  r5 q3 g35) (w0_V 0 C.2.2.2.2.1 kw_2291 kw_2293 ks_103 kw_9 kw_2294 rfl rfl (by decide +kernel) ⟨by decide, by decide⟩) rfl (Nat.le_of_ble_eq_true rfl) (Nat.zero_le _) (Nat.zero_le _) dX11_post_19 ?_
    refine g_iload_n C dX11_post_22 rfl 1 rfl ?_
    refine g_iand C dX11_post_23 ?_
    refine g_if_eq (tgt := 32) C dX11_post_24 (by decide) (fun z36 => ?_) (fun z36 => ?_)
    · replace h := h.1 z36
      refine g_aload_n C dX11_post_32 rfl 0 rfl ?_
      refine gr_get C iwx_X11 6 (hw kw_1815) (by decide) rfl rfl dX11_post_33 ?_
      refine g_if_le (tgt := 41) C dX11_post_36 (by decide) (fun z37 => ?_) (fun z37 => ?_)
      · replace h := h.1 z37
        refine g_aload_n C dX11_post_41 rfl 0 rfl ?_
        refine g_iload_n C dX11_post_42 rfl 1 rfl ?_
        obtain ⟨g41, h⟩ := h
        refine gr_calliV C [.int p0] rfl (k_X11_hasRefused l D T m0 a p0 r5 q3 g41) (w0_V 1 C.2.2.2.2.1 kw_2251 kw_2253 ks_97 kw_9 kw_2254 rfl rfl (by decide +kernel) ⟨by decide, by decide⟩) rfl (Nat.le_of_ble_eq_true rfl) (Nat.zero_le _) (Nat.zero_le _) dX11_post_43 (fun v38 r39 q40 hp => ?_)
        replace h := h v38 r39 q40 hp
        refine g_if_eq (tgt := 59) C dX11_post_46 (by decide) (fun z42 => ?_) (fun z42 => ?_)
        · replace h := h.1 z42
          refine g_aload_n C dX11_post_59 rfl 0 rfl ?_
          refine g_aload_n C dX11_post_60 rfl 0 rfl ?_
          refine gr_get C iwx_X11 0 (hw kw_1809) (by decide) rfl rfl dX11_post_61 ?_
          obtain ⟨g46, h⟩ := h
          refine gr_callvV C [.ref (a 0)] rfl (k_X11_keepAs_0 l D T m0 a  r39 q40 g46) (w0_V 1 C.2.2.2.2.1 kw_1958 kw_1960 ks_52 kw_9 kw_1961 rfl rfl (by decide +kernel) ⟨by decide, by decide⟩) rfl (Nat.le_of_ble_eq_true rfl) (Nat.zero_le _) (Nat.zero_le _) dX11_post_64 (fun r44 q45 hp => ?_)
          replace h := h r44 q45 hp
          refine g_aload_n C dX11_post_67 rfl 0 rfl ?_
          refine g_iload_n C dX11_post_68 rfl 1 rfl ?_
          refine gr_callvV C [.int p0] rfl (k_X11_layBest l D T m0 a p0 r44 q45) (w0_V 1 C.2.2.2.2.1 kw_2255 kw_2257 ks_98 kw_9 kw_2258 rfl rfl (by decide +kernel) ⟨by decide, by decide⟩) rfl (Nat.le_of_ble_eq_true rfl) (Nat.zero_le _) (Nat.zero_le _) dX11_post_69 (fun r48 q49 hp => ?_)
          replace h := h r48 q49 hp
          refine g_iload_n C dX11_post_72 rfl 1 rfl ?_
          refine g_istore_n (lv' := [(2, .int p0), (0, .ref m0), (1, .int p0)]) C dX11_post_73 rfl (by decide) rfl ?_
          refine g_locals [1, 2, 0] rfl ?_
          obtain ⟨k50, h⟩ := h
          refine t_X11_post_74 C hr  P  k50 p0 p0 r48 q49 h
        · replace h := h.2 z42
          refine g_aload_n C dX11_post_49 rfl 0 rfl ?_
          refine g_aload_n C dX11_post_50 rfl 0 rfl ?_
          refine gr_get C iwx_X11 35 (hw kw_1844) (by decide) rfl rfl dX11_post_51 ?_
          refine g_iconst (v := 4) C dX11_post_54 (by decide) ?_
          refine gr_calliV C [.int (r39 35), .int 4] rfl (k_X11_keepsReason l D T m0 a (r39 35) 4 r39 q40) (w0_V 2 C.2.2.2.2.1 kw_2204 kw_2206 ks_92 kw_9 kw_2207 rfl rfl (by decide +kernel) ⟨by decide, by decide⟩) rfl (Nat.le_of_ble_eq_true rfl) (Nat.zero_le _) (Nat.zero_le _) dX11_post_55 (fun v51 r52 q53 hp => ?_)
          replace h := h v51 r52 q53 hp
          exact gr_iret C hr dX11_post_58 h
      · replace h := h.2 z37
        refine g_iconst (v := 0) C dX11_post_39 (by decide) ?_
        exact gr_iret C hr dX11_post_40 h
    · replace h := h.2 z36
      refine g_aload_n C dX11_post_27 rfl 0 rfl ?_
      refine g_iconst (v := 3) C dX11_post_28 (by decide) ?_
      refine gr_put_6 C iwx_X11 (hw kw_1815) dX11_post_29 ?_
      refine gr_nr (fun r54 er54 => ?_)
      replace h := h r54 er54
      refine g_aload_n C dX11_post_32 rfl 0 rfl ?_
      refine gr_get C iwx_X11 6 (hw kw_1815) (by decide) rfl rfl dX11_post_33 ?_
      refine g_if_le (tgt := 41) C dX11_post_36 (by decide) (fun z55 => ?_) (fun z55 => ?_)
      · replace h := h.1 z55
        refine g_aload_n C dX11_post_41 rfl 0 rfl ?_
        refine g_iload_n C dX11_post_42 rfl 1 rfl ?_
        obtain ⟨g59, h⟩ := h
        refine gr_calliV C [.int p0] rfl (k_X11_hasRefused l D T m0 a p0 r54 q3 g59) (w0_V 1 C.2.2.2.2.1 kw_2251 kw_2253 ks_97 kw_9 kw_2254 rfl rfl (by decide +kernel) ⟨by decide, by decide⟩) rfl (Nat.le_of_ble_eq_true rfl) (Nat.zero_le _) (Nat.zero_le _) dX11_post_43 (fun v56 r57 q58 hp => ?_)
        replace h := h v56 r57 q58 hp
        refine g_if_eq (tgt := 59) C dX11_post_46 (by decide) (fun z60 => ?_) (fun z60 => ?_)
        · replace h := h.1 z60
          refine g_aload_n C dX11_post_59 rfl 0 rfl ?_
          refine g_aload_n C dX11_post_60 rfl 0 rfl ?_
          refine gr_get C iwx_X11 0 (hw kw_1809) (by decide) rfl rfl dX11_post_61 ?_
          obtain ⟨g64, h⟩ := h
          refine gr_callvV C [.ref (a 0)] rfl (k_X11_keepAs_0 l D T m0 a  r57 q58 g64) (w0_V 1 C.2.2.2.2.1 kw_1958 kw_1960 ks_52 kw_9 kw_1961 rfl rfl (by decide +kernel) ⟨by decide, by decide⟩) rfl (Nat.le_of_ble_eq_true rfl) (Nat.zero_le _) (Nat.zero_le _) dX11_post_64 (fun r62 q63 hp => ?_)
          replace h := h r62 q63 hp
          refine g_aload_n C dX11_post_67 rfl 0 rfl ?_
          refine g_iload_n C dX11_post_68 rfl 1 rfl ?_
          refine gr_callvV C [.int p0] rfl (k_X11_layBest l D T m0 a p0 r62 q63) (w0_V 1 C.2.2.2.2.1 kw_2255 kw_2257 ks_98 kw_9 kw_2258 rfl rfl (by decide +kernel) ⟨by decide, by decide⟩) rfl (Nat.le_of_ble_eq_true rfl) (Nat.zero_le _) (Nat.zero_le _) dX11_post_69 (fun r66 q67 hp => ?_)
          replace h := h r66 q67 hp
          refine g_iload_n C dX11_post_72 rfl 1 rfl ?_
          refine g_istore_n (lv' := [(2, .int p0), (0, .ref m0), (1, .int p0)]) C dX11_post_73 rfl (by decide) rfl ?_
          refine g_locals [1, 2, 0] rfl ?_
          obtain ⟨k68, h⟩ := h
          refine t_X11_post_74 C hr  P  k68 p0 p0 r66 q67 h
        · replace h := h.2 z60
          refine g_aload_n C dX11_post_49 rfl 0 rfl ?_
          refine g_aload_n C dX11_post_50 rfl 0 rfl ?_
          refine gr_get C iwx_X11 35 (hw kw_1844) (by decide) rfl rfl dX11_post_51 ?_
          refine g_iconst (v := 4) C dX11_post_54 (by decide) ?_
          refine gr_calliV C [.int (r57 35), .int 4] rfl (k_X11_keepsReason l D T m0 a (r57 35) 4 r57 q58) (w0_V 2 C.2.2.2.2.1 kw_2204 kw_2206 ks_92 kw_9 kw_2207 rfl rfl (by decide +kernel) ⟨by decide, by decide⟩) rfl (Nat.le_of_ble_eq_true rfl) (Nat.zero_le _) (Nat.zero_le _) dX11_post_55 (fun v69 r70 q71 hp => ?_)
          replace h := h v69 r70 q71 hp
          exact gr_iret C hr dX11_post_58 h
      · replace h := h.2 z55
        refine g_iconst (v := 0) C dX11_post_39 (by decide) ?_
        exact gr_iret C hr dX11_post_40 h
theorem c_X11_post (l : Launch) (D : va_G) (T : Nat → ClassId) (m0 : Nat) (a : Nat → Nat) (p0 : Int32) (r : Nat → Int32) (q : Nat → Nat → Int32) (P : Int32 → RST → Prop) (h : wp_X11_post P p0 r q) : RMi l yX11_post (ws_X11_post) rm_X11_post D T m0 a [.ref m0, .int p0] r q P := gr_meti (by decide) rfl rfl (Nat.le_of_ble_eq_true rfl) (fun p e s m args below meth c A C hr => t_X11_post C hr P p0 r q h)
end S_TODO
