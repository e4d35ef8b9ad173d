set_option maxHeartbeats 40000000 in
set_option maxRecDepth 100000 in
theorem c_loadArt0 (l : Launch) (dC : Nat → ClassId) (dI : Nat → Nat → Nat) (cI cJ cZ cO : ClassId) (sz : Nat) (ac : Nat) (a2 : Nat) (a3 : Nat) (a4 : Nat) (a5 : Nat) (a6 : Nat) (a7 : Nat) (f2 : Nat → Int32) (f3 : Nat → Int32) (f4 : Nat → Int64) (f5 : Nat → Int64) (f6 : Nat → Int64) (f7 : Nat → Int32)  : Met l yX0_loadArtificial (Cond.code yX0_loadArtificial cX0_loadArtificial 7 none :: pf_W) ({ frames := 1, cells := 0, slots := 0, locals := 21 }) (va_Pc [.ref ac, .int 0, .long 0, .long 1] (fun U => U.heap.size = sz ∧ va_P (dC, dI) pf_cls [(ac, .inr (0, [.int 2, .int 0, .ref a2, .ref a3, .ref a4, .ref a5, .ref a6, .ref a7])), (a2, .inl (cI, 28, .inl f2)), (a3, .inl (cI, 28, .inl f3)), (a4, .inl (cJ, 28, .inr (.inl f4))), (a5, .inl (cJ, 28, .inr (.inl f5))), (a6, .inl (cJ, 28, .inr (.inl f6))), (a7, .inl (cI, 28, .inl f7))] U.heap ∧ va_K (dC, dI) pf_cls (pf_ty cI cJ cZ cO) U ∧ va_D (fun _ => True) [(ac, .inr (0, [.int 2, .int 0, .ref a2, .ref a3, .ref a4, .ref a5, .ref a6, .ref a7])), (a2, .inl (cI, 28, .inl f2)), (a3, .inl (cI, 28, .inl f3)), (a4, .inl (cJ, 28, .inr (.inl f4))), (a5, .inl (cJ, 28, .inr (.inl f5))), (a6, .inl (cJ, 28, .inr (.inl f6))), (a7, .inl (cI, 28, .inl f7))])) (va_Qv (fun (_ : Unit) => True) (fun (_ : Unit) (t : State) => va_P (dC, dI) pf_cls [(ac, .inr (0, [.int 2, .int 0, .ref a2, .ref a3, .ref a4, .ref a5, .ref a6, .ref a7])), (a2, .inl (cI, 28, .inl (upd f2 20 0))), (a3, .inl (cI, 28, .inl (upd f3 20 2))), (a4, .inl (cJ, 28, .inr (.inl (vp_updL f4 20 1152921504606846976)))), (a5, .inl (cJ, 28, .inr (.inl (vp_updL f5 20 1)))), (a6, .inl (cJ, 28, .inr (.inl (vp_updL f6 20 0)))), (a7, .inl (cI, 28, .inl (upd f7 20 2)))] t.heap ∧ va_D (va_A [(ac, .inr (0, [.int 2, .int 0, .ref a2, .ref a3, .ref a4, .ref a5, .ref a6, .ref a7])), (a2, .inl (cI, 28, .inl f2)), (a3, .inl (cI, 28, .inl f3)), (a4, .inl (cJ, 28, .inr (.inl f4))), (a5, .inl (cJ, 28, .inr (.inl f5))), (a6, .inl (cJ, 28, .inr (.inl f6))), (a7, .inl (cI, 28, .inl f7))] sz) [(ac, .inr (0, [.int 2, .int 0, .ref a2, .ref a3, .ref a4, .ref a5, .ref a6, .ref a7])), (a2, .inl (cI, 28, .inl (upd f2 20 0))), (a3, .inl (cI, 28, .inl (upd f3 20 2))), (a4, .inl (cJ, 28, .inr (.inl (vp_updL f4 20 1152921504606846976)))), (a5, .inl (cJ, 28, .inr (.inl (vp_updL f5 20 1)))), (a6, .inl (cJ, 28, .inr (.inl (vp_updL f6 20 0)))), (a7, .inl (cI, 28, .inl (upd f7 20 2)))]) (va_A [(ac, .inr (0, [.int 2, .int 0, .ref a2, .ref a3, .ref a4, .ref a5, .ref a6, .ref a7])), (a2, .inl (cI, 28, .inl f2)), (a3, .inl (cI, 28, .inl f3)), (a4, .inl (cJ, 28, .inr (.inl f4))), (a5, .inl (cJ, 28, .inr (.inl f5))), (a6, .inl (cJ, 28, .inr (.inl f6))), (a7, .inl (cI, 28, .inl f7))] sz)) 0 0 (va_A [(ac, .inr (0, [.int 2, .int 0, .ref a2, .ref a3, .ref a4, .ref a5, .ref a6, .ref a7])), (a2, .inl (cI, 28, .inl f2)), (a3, .inl (cI, 28, .inl f3)), (a4, .inl (cJ, 28, .inr (.inl f4))), (a5, .inl (cJ, 28, .inr (.inl f5))), (a6, .inl (cJ, 28, .inr (.inl f6))), (a7, .inl (cI, 28, .inl f7))] sz) := by
  refine Met.ofW (cc := cX0_loadArtificial) (maxL := 7) (ret := none) (by decide) rfl ?_
  intro p e s m args below meth c s₁ B hml hv
  obtain ⟨rfl, hsz, hP, hK, hD0⟩ := hv
  have hx := B.exec
  have hb := B.bytes
  have hr := B.returns
  have hts := atoms_spec (ws := Cond.code yX0_loadArtificial cX0_loadArtificial 7 none :: pf_W) B.pre
  have hown : s.vm.findClass RX0 = some m.cls := findClass_of_methodNamed B.named
  have hlocks := B.notSynchronized
  subst hsz
  have hD := hD0.self (sz := s.heap.size)
  generalize hAe : va_A [(ac, .inr (0, [.int 2, .int 0, .ref a2, .ref a3, .ref a4, .ref a5, .ref a6, .ref a7])), (a2, .inl (cI, 28, .inl f2)), (a3, .inl (cI, 28, .inl f3)), (a4, .inl (cJ, 28, .inr (.inl f4))), (a5, .inl (cJ, 28, .inr (.inl f5))), (a6, .inl (cJ, 28, .inr (.inl f6))), (a7, .inl (cI, 28, .inl f7))] s.heap.size = A at hD ⊢
  have hA : ∀ q : Nat, s.heap.size ≤ q → A q := fun q h => by rw [← hAe]; exact Or.inr h
  have hS : va_S A s.heap s.heap [] := va_S.rf
  have hP : va_P (dC, dI) pf_cls [(ac, .inr (0, [.int 2, .int 0, .ref a2, .ref a3, .ref a4, .ref a5, .ref a6, .ref a7])), (a2, .inl (cI, 28, .inl f2)), (a3, .inl (cI, 28, .inl f3)), (a4, .inl (cJ, 28, .inr (.inl f4))), (a5, .inl (cJ, 28, .inr (.inl f5))), (a6, .inl (cJ, 28, .inr (.inl f6))), (a7, .inl (cI, 28, .inl f7))] s.heap := hP
  have hl := lv_entry ([.ref ac, .int 0, .long 0, .long 1]) (n := 7) (Nat.le_of_ble_eq_true rfl)
  rw [lg_entry_eq]
  generalize (lg_sl ([.ref ac, .int 0, .long 0, .long 1]) ++ List.replicate (7 - (lg_sl ([.ref ac, .int 0, .long 0, .long 1])).length) Slot.unset).toArray = ls at hl ⊢
  have hl : lv_has ls 7 [(0, .ref ac), (1, .int 0), (2, .long 0), (4, .long 1)] := hl
  refine lv_bipush (v := 20) hx hb dX0_loadArtificial_0 (by decide +kernel) ?_
  refine lv_iload_n hx hb dX0_loadArtificial_2 rfl (lv_at hl 1 rfl) ?_
  refine lv_iadd hx hb dX0_loadArtificial_3 ?_
  refine pf_topi (v := 20) (by decide +kernel) ?_
  refine lv_istore (lv' := [(6, .int 20), (0, .ref ac), (1, .int 0), (2, .long 0), (4, .long 1)]) hx hb dX0_loadArtificial_4 hl (by decide) rfl (fun ls hl => ?_)
  refine lv_aload_n hx hb dX0_loadArtificial_6 rfl (lv_at hl 1 rfl) ?_
  refine va_get (D := (dC, dI)) (ci := 0) (v := .ref a2) (C := RX0) (T := TX0) (N := 8) hx hb hts (fun w h => List.mem_cons_of_mem _ (ic_X0 w h)) hown hK hP 0 rfl rfl 2 (by decide) (hts _ (List.mem_cons_of_mem _ mw_22)) (fun _ h9 => h9) rfl dX0_loadArtificial_7 ?_
  refine lv_iload hx hb dX0_loadArtificial_10 (lv_at hl 0 rfl) ?_
  refine lv_lload_n hx hb dX0_loadArtificial_12 rfl (lv_at hl 3 rfl) ?_
  refine lv_lconst (v := 0) hx hb dX0_loadArtificial_13 (by decide +kernel) ?_
  refine W.lcmp hx hb dX0_loadArtificial_14 ?_
  refine pf_topi (v := 0) (by decide +kernel) ?_
  refine lv_if_lt (tgt := 22) hx hb dX0_loadArtificial_15 (by decide) (fun c0 => absurd c0 (by decide +kernel)) (fun _ => ?_)
  refine lv_iload_n hx hb dX0_loadArtificial_18 rfl (lv_at hl 2 rfl) ?_
  refine lv_goto (tgt := 26) hx hb dX0_loadArtificial_19 (by decide) ?_
  refine pf_iast hx hb hK hP hD hS 1 0 20 rfl rfl (by decide +kernel) (by decide +kernel) (by decide) dX0_loadArtificial_26 (fun H locs hP hD hS => ?_)
  have hP : va_P (dC, dI) pf_cls [(ac, .inr (0, [.int 2, .int 0, .ref a2, .ref a3, .ref a4, .ref a5, .ref a6, .ref a7])), (a2, .inl (cI, 28, .inl (upd f2 20 0))), (a3, .inl (cI, 28, .inl f3)), (a4, .inl (cJ, 28, .inr (.inl f4))), (a5, .inl (cJ, 28, .inr (.inl f5))), (a6, .inl (cJ, 28, .inr (.inl f6))), (a7, .inl (cI, 28, .inl f7))] H := hP
  have hD : va_D A [(ac, .inr (0, [.int 2, .int 0, .ref a2, .ref a3, .ref a4, .ref a5, .ref a6, .ref a7])), (a2, .inl (cI, 28, .inl (upd f2 20 0))), (a3, .inl (cI, 28, .inl f3)), (a4, .inl (cJ, 28, .inr (.inl f4))), (a5, .inl (cJ, 28, .inr (.inl f5))), (a6, .inl (cJ, 28, .inr (.inl f6))), (a7, .inl (cI, 28, .inl f7))] := hD
  refine lv_aload_n hx hb dX0_loadArtificial_27 rfl (lv_at hl 1 rfl) ?_
  refine va_get (D := (dC, dI)) (ci := 0) (v := .ref a3) (C := RX0) (T := TX0) (N := 8) hx hb hts (fun w h => List.mem_cons_of_mem _ (ic_X0 w h)) hown hK hP 0 rfl rfl 3 (by decide) (hts _ (List.mem_cons_of_mem _ mw_23)) (fun _ h9 => h9) rfl dX0_loadArtificial_28 ?_
  refine lv_iload hx hb dX0_loadArtificial_31 (lv_at hl 0 rfl) ?_
  refine lv_lload_n hx hb dX0_loadArtificial_33 rfl (lv_at hl 3 rfl) ?_
  refine lv_lconst (v := 0) hx hb dX0_loadArtificial_34 (by decide +kernel) ?_
  refine W.lcmp hx hb dX0_loadArtificial_35 ?_
  refine pf_topi (v := 0) (by decide +kernel) ?_
  refine lv_if_lt (tgt := 46) hx hb dX0_loadArtificial_36 (by decide) (fun c1 => absurd c1 (by decide +kernel)) (fun _ => ?_)
  refine lv_aload_n hx hb dX0_loadArtificial_39 rfl (lv_at hl 1 rfl) ?_
  refine va_get (D := (dC, dI)) (ci := 0) (v := .int 2) (C := RX0) (T := TX0) (N := 8) hx hb hts (fun w h => List.mem_cons_of_mem _ (ic_X0 w h)) hown hK hP 0 rfl rfl 0 (by decide) (hts _ (List.mem_cons_of_mem _ mw_59)) (fun _ h9 => h9) rfl dX0_loadArtificial_40 ?_
  refine lv_goto (tgt := 47) hx hb dX0_loadArtificial_43 (by decide) ?_
  refine pf_iast hx hb hK hP hD hS 2 0 20 rfl rfl (by decide +kernel) (by decide +kernel) (by decide) dX0_loadArtificial_47 (fun H locs hP hD hS => ?_)
  have hP : va_P (dC, dI) pf_cls [(ac, .inr (0, [.int 2, .int 0, .ref a2, .ref a3, .ref a4, .ref a5, .ref a6, .ref a7])), (a2, .inl (cI, 28, .inl (upd f2 20 0))), (a3, .inl (cI, 28, .inl (upd f3 20 2))), (a4, .inl (cJ, 28, .inr (.inl f4))), (a5, .inl (cJ, 28, .inr (.inl f5))), (a6, .inl (cJ, 28, .inr (.inl f6))), (a7, .inl (cI, 28, .inl f7))] H := hP
  have hD : va_D A [(ac, .inr (0, [.int 2, .int 0, .ref a2, .ref a3, .ref a4, .ref a5, .ref a6, .ref a7])), (a2, .inl (cI, 28, .inl (upd f2 20 0))), (a3, .inl (cI, 28, .inl (upd f3 20 2))), (a4, .inl (cJ, 28, .inr (.inl f4))), (a5, .inl (cJ, 28, .inr (.inl f5))), (a6, .inl (cJ, 28, .inr (.inl f6))), (a7, .inl (cI, 28, .inl f7))] := hD
  refine lv_aload_n hx hb dX0_loadArtificial_48 rfl (lv_at hl 1 rfl) ?_
  refine va_get (D := (dC, dI)) (ci := 0) (v := .ref a4) (C := RX0) (T := TX0) (N := 8) hx hb hts (fun w h => List.mem_cons_of_mem _ (ic_X0 w h)) hown hK hP 0 rfl rfl 4 (by decide) (hts _ (List.mem_cons_of_mem _ mw_24)) (fun _ h9 => h9) rfl dX0_loadArtificial_49 ?_
  refine lv_iload hx hb dX0_loadArtificial_52 (lv_at hl 0 rfl) ?_
  refine lv_ldc2 (v := 1152921504606846976) hx hb hown (hts _ (List.mem_cons_of_mem _ mw_60)) dX0_loadArtificial_54 ?_
  refine pf_last hx hb hK hP hD hS 3 1 20 rfl rfl (by decide +kernel) (by decide +kernel) (by decide) dX0_loadArtificial_57 (fun H locs hP hD hS => ?_)
  have hP : va_P (dC, dI) pf_cls [(ac, .inr (0, [.int 2, .int 0, .ref a2, .ref a3, .ref a4, .ref a5, .ref a6, .ref a7])), (a2, .inl (cI, 28, .inl (upd f2 20 0))), (a3, .inl (cI, 28, .inl (upd f3 20 2))), (a4, .inl (cJ, 28, .inr (.inl (vp_updL f4 20 1152921504606846976)))), (a5, .inl (cJ, 28, .inr (.inl f5))), (a6, .inl (cJ, 28, .inr (.inl f6))), (a7, .inl (cI, 28, .inl f7))] H := hP
  have hD : va_D A [(ac, .inr (0, [.int 2, .int 0, .ref a2, .ref a3, .ref a4, .ref a5, .ref a6, .ref a7])), (a2, .inl (cI, 28, .inl (upd f2 20 0))), (a3, .inl (cI, 28, .inl (upd f3 20 2))), (a4, .inl (cJ, 28, .inr (.inl (vp_updL f4 20 1152921504606846976)))), (a5, .inl (cJ, 28, .inr (.inl f5))), (a6, .inl (cJ, 28, .inr (.inl f6))), (a7, .inl (cI, 28, .inl f7))] := hD
  refine lv_aload_n hx hb dX0_loadArtificial_58 rfl (lv_at hl 1 rfl) ?_
  refine va_get (D := (dC, dI)) (ci := 0) (v := .ref a5) (C := RX0) (T := TX0) (N := 8) hx hb hts (fun w h => List.mem_cons_of_mem _ (ic_X0 w h)) hown hK hP 0 rfl rfl 5 (by decide) (hts _ (List.mem_cons_of_mem _ mw_25)) (fun _ h9 => h9) rfl dX0_loadArtificial_59 ?_
  refine lv_iload hx hb dX0_loadArtificial_62 (lv_at hl 0 rfl) ?_
  refine lv_lload hx hb dX0_loadArtificial_64 (lv_at hl 4 rfl) ?_
  refine pf_last hx hb hK hP hD hS 4 1 20 rfl rfl (by decide +kernel) (by decide +kernel) (by decide) dX0_loadArtificial_66 (fun H locs hP hD hS => ?_)
  have hP : va_P (dC, dI) pf_cls [(ac, .inr (0, [.int 2, .int 0, .ref a2, .ref a3, .ref a4, .ref a5, .ref a6, .ref a7])), (a2, .inl (cI, 28, .inl (upd f2 20 0))), (a3, .inl (cI, 28, .inl (upd f3 20 2))), (a4, .inl (cJ, 28, .inr (.inl (vp_updL f4 20 1152921504606846976)))), (a5, .inl (cJ, 28, .inr (.inl (vp_updL f5 20 1)))), (a6, .inl (cJ, 28, .inr (.inl f6))), (a7, .inl (cI, 28, .inl f7))] H := hP
  have hD : va_D A [(ac, .inr (0, [.int 2, .int 0, .ref a2, .ref a3, .ref a4, .ref a5, .ref a6, .ref a7])), (a2, .inl (cI, 28, .inl (upd f2 20 0))), (a3, .inl (cI, 28, .inl (upd f3 20 2))), (a4, .inl (cJ, 28, .inr (.inl (vp_updL f4 20 1152921504606846976)))), (a5, .inl (cJ, 28, .inr (.inl (vp_updL f5 20 1)))), (a6, .inl (cJ, 28, .inr (.inl f6))), (a7, .inl (cI, 28, .inl f7))] := hD
  refine lv_aload_n hx hb dX0_loadArtificial_67 rfl (lv_at hl 1 rfl) ?_
  refine va_get (D := (dC, dI)) (ci := 0) (v := .ref a6) (C := RX0) (T := TX0) (N := 8) hx hb hts (fun w h => List.mem_cons_of_mem _ (ic_X0 w h)) hown hK hP 0 rfl rfl 6 (by decide) (hts _ (List.mem_cons_of_mem _ mw_26)) (fun _ h9 => h9) rfl dX0_loadArtificial_68 ?_
  refine lv_iload hx hb dX0_loadArtificial_71 (lv_at hl 0 rfl) ?_
  refine lv_lload_n hx hb dX0_loadArtificial_73 rfl (lv_at hl 3 rfl) ?_
  refine va_mabs_long hx hb (hml.trans hl.1.symm) hown (hts _ (List.mem_cons_of_mem _ mw_61)) (hts _ (List.mem_cons_of_mem _ mw_53)) (hts _ (List.mem_cons_of_mem _ mw_54)) (hts _ (List.mem_cons_of_mem _ mw_55)) (Nat.le_of_ble_eq_true rfl) (Nat.le_of_ble_eq_true rfl) (Nat.le_of_ble_eq_true rfl) (Nat.le_of_ble_eq_true rfl) dX0_loadArtificial_74 ?_
  refine pf_topl (v := 0) (by decide +kernel) ?_
  refine pf_last hx hb hK hP hD hS 5 1 20 rfl rfl (by decide +kernel) (by decide +kernel) (by decide) dX0_loadArtificial_77 (fun H locs hP hD hS => ?_)
  have hP : va_P (dC, dI) pf_cls [(ac, .inr (0, [.int 2, .int 0, .ref a2, .ref a3, .ref a4, .ref a5, .ref a6, .ref a7])), (a2, .inl (cI, 28, .inl (upd f2 20 0))), (a3, .inl (cI, 28, .inl (upd f3 20 2))), (a4, .inl (cJ, 28, .inr (.inl (vp_updL f4 20 1152921504606846976)))), (a5, .inl (cJ, 28, .inr (.inl (vp_updL f5 20 1)))), (a6, .inl (cJ, 28, .inr (.inl (vp_updL f6 20 0)))), (a7, .inl (cI, 28, .inl f7))] H := hP
  have hD : va_D A [(ac, .inr (0, [.int 2, .int 0, .ref a2, .ref a3, .ref a4, .ref a5, .ref a6, .ref a7])), (a2, .inl (cI, 28, .inl (upd f2 20 0))), (a3, .inl (cI, 28, .inl (upd f3 20 2))), (a4, .inl (cJ, 28, .inr (.inl (vp_updL f4 20 1152921504606846976)))), (a5, .inl (cJ, 28, .inr (.inl (vp_updL f5 20 1)))), (a6, .inl (cJ, 28, .inr (.inl (vp_updL f6 20 0)))), (a7, .inl (cI, 28, .inl f7))] := hD
  refine lv_aload_n hx hb dX0_loadArtificial_78 rfl (lv_at hl 1 rfl) ?_
  refine va_get (D := (dC, dI)) (ci := 0) (v := .ref a7) (C := RX0) (T := TX0) (N := 8) hx hb hts (fun w h => List.mem_cons_of_mem _ (ic_X0 w h)) hown hK hP 0 rfl rfl 7 (by decide) (hts _ (List.mem_cons_of_mem _ mw_27)) (fun _ h9 => h9) rfl dX0_loadArtificial_79 ?_
  refine lv_iload hx hb dX0_loadArtificial_82 (lv_at hl 0 rfl) ?_
  refine lv_iconst (v := 2) hx hb dX0_loadArtificial_84 (by decide) ?_
  refine pf_iast hx hb hK hP hD hS 6 0 20 rfl rfl (by decide +kernel) (by decide +kernel) (by decide) dX0_loadArtificial_85 (fun H locs hP hD hS => ?_)
  have hP : va_P (dC, dI) pf_cls [(ac, .inr (0, [.int 2, .int 0, .ref a2, .ref a3, .ref a4, .ref a5, .ref a6, .ref a7])), (a2, .inl (cI, 28, .inl (upd f2 20 0))), (a3, .inl (cI, 28, .inl (upd f3 20 2))), (a4, .inl (cJ, 28, .inr (.inl (vp_updL f4 20 1152921504606846976)))), (a5, .inl (cJ, 28, .inr (.inl (vp_updL f5 20 1)))), (a6, .inl (cJ, 28, .inr (.inl (vp_updL f6 20 0)))), (a7, .inl (cI, 28, .inl (upd f7 20 2)))] H := hP
  have hD : va_D A [(ac, .inr (0, [.int 2, .int 0, .ref a2, .ref a3, .ref a4, .ref a5, .ref a6, .ref a7])), (a2, .inl (cI, 28, .inl (upd f2 20 0))), (a3, .inl (cI, 28, .inl (upd f3 20 2))), (a4, .inl (cJ, 28, .inr (.inl (vp_updL f4 20 1152921504606846976)))), (a5, .inl (cJ, 28, .inr (.inl (vp_updL f5 20 1)))), (a6, .inl (cJ, 28, .inr (.inl (vp_updL f6 20 0)))), (a7, .inl (cI, 28, .inl (upd f7 20 2)))] := hD
  have hP9 := hP.sub (ws' := [(ac, .inr (0, [.int 2, .int 0, .ref a2, .ref a3, .ref a4, .ref a5, .ref a6, .ref a7])), (a2, .inl (cI, 28, .inl (upd f2 20 0))), (a3, .inl (cI, 28, .inl (upd f3 20 2))), (a4, .inl (cJ, 28, .inr (.inl (vp_updL f4 20 1152921504606846976)))), (a5, .inl (cJ, 28, .inr (.inl (vp_updL f5 20 1)))), (a6, .inl (cJ, 28, .inr (.inl (vp_updL f6 20 0)))), (a7, .inl (cI, 28, .inl (upd f7 20 2)))]) [0, 1, 2, 3, 4, 5, 6] rfl
  have hD9 := hD.sub (ws' := [(ac, .inr (0, [.int 2, .int 0, .ref a2, .ref a3, .ref a4, .ref a5, .ref a6, .ref a7])), (a2, .inl (cI, 28, .inl (upd f2 20 0))), (a3, .inl (cI, 28, .inl (upd f3 20 2))), (a4, .inl (cJ, 28, .inr (.inl (vp_updL f4 20 1152921504606846976)))), (a5, .inl (cJ, 28, .inr (.inl (vp_updL f5 20 1)))), (a6, .inl (cJ, 28, .inr (.inl (vp_updL f6 20 0)))), (a7, .inl (cI, 28, .inl (upd f7 20 2)))]) [0, 1, 2, 3, 4, 5, 6] (by decide +kernel) rfl
  refine W.widen (k := 0) (n := 0) (Nat.le_of_ble_eq_true rfl) (Nat.le_of_ble_eq_true rfl) ?_
  exact W.vret hx hb hr (fun t ht hW => ⟨⟨(), rfl, trivial, (by rw [ht]; exact hP9), hD9⟩, hS.F ht⟩) hS.2.2 dX0_loadArtificial_86
set_option maxHeartbeats 40000000 in
set_option maxRecDepth 100000 in
theorem c_loadArt1 (l : Launch) (dC : Nat → ClassId) (dI : Nat → Nat → Nat) (cI cJ cZ cO : ClassId) (sz : Nat) (ac : Nat) (a2 : Nat) (a3 : Nat) (a4 : Nat) (a5 : Nat) (a6 : Nat) (a7 : Nat) (f2 : Nat → Int32) (f3 : Nat → Int32) (f4 : Nat → Int64) (f5 : Nat → Int64) (f6 : Nat → Int64) (f7 : Nat → Int32)  : Met l yX0_loadArtificial (Cond.code yX0_loadArtificial cX0_loadArtificial 7 none :: pf_W) ({ frames := 1, cells := 0, slots := 0, locals := 21 }) (va_Pc [.ref ac, .int 1, .long 0, .long 1] (fun U => U.heap.size = sz ∧ va_P (dC, dI) pf_cls [(ac, .inr (0, [.int 2, .int 0, .ref a2, .ref a3, .ref a4, .ref a5, .ref a6, .ref a7])), (a2, .inl (cI, 28, .inl f2)), (a3, .inl (cI, 28, .inl f3)), (a4, .inl (cJ, 28, .inr (.inl f4))), (a5, .inl (cJ, 28, .inr (.inl f5))), (a6, .inl (cJ, 28, .inr (.inl f6))), (a7, .inl (cI, 28, .inl f7))] U.heap ∧ va_K (dC, dI) pf_cls (pf_ty cI cJ cZ cO) U ∧ va_D (fun _ => True) [(ac, .inr (0, [.int 2, .int 0, .ref a2, .ref a3, .ref a4, .ref a5, .ref a6, .ref a7])), (a2, .inl (cI, 28, .inl f2)), (a3, .inl (cI, 28, .inl f3)), (a4, .inl (cJ, 28, .inr (.inl f4))), (a5, .inl (cJ, 28, .inr (.inl f5))), (a6, .inl (cJ, 28, .inr (.inl f6))), (a7, .inl (cI, 28, .inl f7))])) (va_Qv (fun (_ : Unit) => True) (fun (_ : Unit) (t : State) => va_P (dC, dI) pf_cls [(ac, .inr (0, [.int 2, .int 0, .ref a2, .ref a3, .ref a4, .ref a5, .ref a6, .ref a7])), (a2, .inl (cI, 28, .inl (upd f2 21 1))), (a3, .inl (cI, 28, .inl (upd f3 21 2))), (a4, .inl (cJ, 28, .inr (.inl (vp_updL f4 21 1152921504606846976)))), (a5, .inl (cJ, 28, .inr (.inl (vp_updL f5 21 1)))), (a6, .inl (cJ, 28, .inr (.inl (vp_updL f6 21 0)))), (a7, .inl (cI, 28, .inl (upd f7 21 2)))] t.heap ∧ va_D (va_A [(ac, .inr (0, [.int 2, .int 0, .ref a2, .ref a3, .ref a4, .ref a5, .ref a6, .ref a7])), (a2, .inl (cI, 28, .inl f2)), (a3, .inl (cI, 28, .inl f3)), (a4, .inl (cJ, 28, .inr (.inl f4))), (a5, .inl (cJ, 28, .inr (.inl f5))), (a6, .inl (cJ, 28, .inr (.inl f6))), (a7, .inl (cI, 28, .inl f7))] sz) [(ac, .inr (0, [.int 2, .int 0, .ref a2, .ref a3, .ref a4, .ref a5, .ref a6, .ref a7])), (a2, .inl (cI, 28, .inl (upd f2 21 1))), (a3, .inl (cI, 28, .inl (upd f3 21 2))), (a4, .inl (cJ, 28, .inr (.inl (vp_updL f4 21 1152921504606846976)))), (a5, .inl (cJ, 28, .inr (.inl (vp_updL f5 21 1)))), (a6, .inl (cJ, 28, .inr (.inl (vp_updL f6 21 0)))), (a7, .inl (cI, 28, .inl (upd f7 21 2)))]) (va_A [(ac, .inr (0, [.int 2, .int 0, .ref a2, .ref a3, .ref a4, .ref a5, .ref a6, .ref a7])), (a2, .inl (cI, 28, .inl f2)), (a3, .inl (cI, 28, .inl f3)), (a4, .inl (cJ, 28, .inr (.inl f4))), (a5, .inl (cJ, 28, .inr (.inl f5))), (a6, .inl (cJ, 28, .inr (.inl f6))), (a7, .inl (cI, 28, .inl f7))] sz)) 0 0 (va_A [(ac, .inr (0, [.int 2, .int 0, .ref a2, .ref a3, .ref a4, .ref a5, .ref a6, .ref a7])), (a2, .inl (cI, 28, .inl f2)), (a3, .inl (cI, 28, .inl f3)), (a4, .inl (cJ, 28, .inr (.inl f4))), (a5, .inl (cJ, 28, .inr (.inl f5))), (a6, .inl (cJ, 28, .inr (.inl f6))), (a7, .inl (cI, 28, .inl f7))] sz) := by
  refine Met.ofW (cc := cX0_loadArtificial) (maxL := 7) (ret := none) (by decide) rfl ?_
  intro p e s m args below meth c s₁ B hml hv
  obtain ⟨rfl, hsz, hP, hK, hD0⟩ := hv
  have hx := B.exec
  have hb := B.bytes
  have hr := B.returns
  have hts := atoms_spec (ws := Cond.code yX0_loadArtificial cX0_loadArtificial 7 none :: pf_W) B.pre
  have hown : s.vm.findClass RX0 = some m.cls := findClass_of_methodNamed B.named
  have hlocks := B.notSynchronized
  subst hsz
  have hD := hD0.self (sz := s.heap.size)
  generalize hAe : va_A [(ac, .inr (0, [.int 2, .int 0, .ref a2, .ref a3, .ref a4, .ref a5, .ref a6, .ref a7])), (a2, .inl (cI, 28, .inl f2)), (a3, .inl (cI, 28, .inl f3)), (a4, .inl (cJ, 28, .inr (.inl f4))), (a5, .inl (cJ, 28, .inr (.inl f5))), (a6, .inl (cJ, 28, .inr (.inl f6))), (a7, .inl (cI, 28, .inl f7))] s.heap.size = A at hD ⊢
  have hA : ∀ q : Nat, s.heap.size ≤ q → A q := fun q h => by rw [← hAe]; exact Or.inr h
  have hS : va_S A s.heap s.heap [] := va_S.rf
  have hP : va_P (dC, dI) pf_cls [(ac, .inr (0, [.int 2, .int 0, .ref a2, .ref a3, .ref a4, .ref a5, .ref a6, .ref a7])), (a2, .inl (cI, 28, .inl f2)), (a3, .inl (cI, 28, .inl f3)), (a4, .inl (cJ, 28, .inr (.inl f4))), (a5, .inl (cJ, 28, .inr (.inl f5))), (a6, .inl (cJ, 28, .inr (.inl f6))), (a7, .inl (cI, 28, .inl f7))] s.heap := hP
  have hl := lv_entry ([.ref ac, .int 1, .long 0, .long 1]) (n := 7) (Nat.le_of_ble_eq_true rfl)
  rw [lg_entry_eq]
  generalize (lg_sl ([.ref ac, .int 1, .long 0, .long 1]) ++ List.replicate (7 - (lg_sl ([.ref ac, .int 1, .long 0, .long 1])).length) Slot.unset).toArray = ls at hl ⊢
  have hl : lv_has ls 7 [(0, .ref ac), (1, .int 1), (2, .long 0), (4, .long 1)] := hl
  refine lv_bipush (v := 20) hx hb dX0_loadArtificial_0 (by decide +kernel) ?_
  refine lv_iload_n hx hb dX0_loadArtificial_2 rfl (lv_at hl 1 rfl) ?_
  refine lv_iadd hx hb dX0_loadArtificial_3 ?_
  refine pf_topi (v := 21) (by decide +kernel) ?_
  refine lv_istore (lv' := [(6, .int 21), (0, .ref ac), (1, .int 1), (2, .long 0), (4, .long 1)]) hx hb dX0_loadArtificial_4 hl (by decide) rfl (fun ls hl => ?_)
  refine lv_aload_n hx hb dX0_loadArtificial_6 rfl (lv_at hl 1 rfl) ?_
  refine va_get (D := (dC, dI)) (ci := 0) (v := .ref a2) (C := RX0) (T := TX0) (N := 8) hx hb hts (fun w h => List.mem_cons_of_mem _ (ic_X0 w h)) hown hK hP 0 rfl rfl 2 (by decide) (hts _ (List.mem_cons_of_mem _ mw_22)) (fun _ h9 => h9) rfl dX0_loadArtificial_7 ?_
  refine lv_iload hx hb dX0_loadArtificial_10 (lv_at hl 0 rfl) ?_
  refine lv_lload_n hx hb dX0_loadArtificial_12 rfl (lv_at hl 3 rfl) ?_
  refine lv_lconst (v := 0) hx hb dX0_loadArtificial_13 (by decide +kernel) ?_
  refine W.lcmp hx hb dX0_loadArtificial_14 ?_
  refine pf_topi (v := 0) (by decide +kernel) ?_
  refine lv_if_lt (tgt := 22) hx hb dX0_loadArtificial_15 (by decide) (fun c0 => absurd c0 (by decide +kernel)) (fun _ => ?_)
  refine lv_iload_n hx hb dX0_loadArtificial_18 rfl (lv_at hl 2 rfl) ?_
  refine lv_goto (tgt := 26) hx hb dX0_loadArtificial_19 (by decide) ?_
  refine pf_iast hx hb hK hP hD hS 1 0 21 rfl rfl (by decide +kernel) (by decide +kernel) (by decide) dX0_loadArtificial_26 (fun H locs hP hD hS => ?_)
  have hP : va_P (dC, dI) pf_cls [(ac, .inr (0, [.int 2, .int 0, .ref a2, .ref a3, .ref a4, .ref a5, .ref a6, .ref a7])), (a2, .inl (cI, 28, .inl (upd f2 21 1))), (a3, .inl (cI, 28, .inl f3)), (a4, .inl (cJ, 28, .inr (.inl f4))), (a5, .inl (cJ, 28, .inr (.inl f5))), (a6, .inl (cJ, 28, .inr (.inl f6))), (a7, .inl (cI, 28, .inl f7))] H := hP
  have hD : va_D A [(ac, .inr (0, [.int 2, .int 0, .ref a2, .ref a3, .ref a4, .ref a5, .ref a6, .ref a7])), (a2, .inl (cI, 28, .inl (upd f2 21 1))), (a3, .inl (cI, 28, .inl f3)), (a4, .inl (cJ, 28, .inr (.inl f4))), (a5, .inl (cJ, 28, .inr (.inl f5))), (a6, .inl (cJ, 28, .inr (.inl f6))), (a7, .inl (cI, 28, .inl f7))] := hD
  refine lv_aload_n hx hb dX0_loadArtificial_27 rfl (lv_at hl 1 rfl) ?_
  refine va_get (D := (dC, dI)) (ci := 0) (v := .ref a3) (C := RX0) (T := TX0) (N := 8) hx hb hts (fun w h => List.mem_cons_of_mem _ (ic_X0 w h)) hown hK hP 0 rfl rfl 3 (by decide) (hts _ (List.mem_cons_of_mem _ mw_23)) (fun _ h9 => h9) rfl dX0_loadArtificial_28 ?_
  refine lv_iload hx hb dX0_loadArtificial_31 (lv_at hl 0 rfl) ?_
  refine lv_lload_n hx hb dX0_loadArtificial_33 rfl (lv_at hl 3 rfl) ?_
  refine lv_lconst (v := 0) hx hb dX0_loadArtificial_34 (by decide +kernel) ?_
  refine W.lcmp hx hb dX0_loadArtificial_35 ?_
  refine pf_topi (v := 0) (by decide +kernel) ?_
  refine lv_if_lt (tgt := 46) hx hb dX0_loadArtificial_36 (by decide) (fun c1 => absurd c1 (by decide +kernel)) (fun _ => ?_)
  refine lv_aload_n hx hb dX0_loadArtificial_39 rfl (lv_at hl 1 rfl) ?_
  refine va_get (D := (dC, dI)) (ci := 0) (v := .int 2) (C := RX0) (T := TX0) (N := 8) hx hb hts (fun w h => List.mem_cons_of_mem _ (ic_X0 w h)) hown hK hP 0 rfl rfl 0 (by decide) (hts _ (List.mem_cons_of_mem _ mw_59)) (fun _ h9 => h9) rfl dX0_loadArtificial_40 ?_
  refine lv_goto (tgt := 47) hx hb dX0_loadArtificial_43 (by decide) ?_
  refine pf_iast hx hb hK hP hD hS 2 0 21 rfl rfl (by decide +kernel) (by decide +kernel) (by decide) dX0_loadArtificial_47 (fun H locs hP hD hS => ?_)
  have hP : va_P (dC, dI) pf_cls [(ac, .inr (0, [.int 2, .int 0, .ref a2, .ref a3, .ref a4, .ref a5, .ref a6, .ref a7])), (a2, .inl (cI, 28, .inl (upd f2 21 1))), (a3, .inl (cI, 28, .inl (upd f3 21 2))), (a4, .inl (cJ, 28, .inr (.inl f4))), (a5, .inl (cJ, 28, .inr (.inl f5))), (a6, .inl (cJ, 28, .inr (.inl f6))), (a7, .inl (cI, 28, .inl f7))] H := hP
  have hD : va_D A [(ac, .inr (0, [.int 2, .int 0, .ref a2, .ref a3, .ref a4, .ref a5, .ref a6, .ref a7])), (a2, .inl (cI, 28, .inl (upd f2 21 1))), (a3, .inl (cI, 28, .inl (upd f3 21 2))), (a4, .inl (cJ, 28, .inr (.inl f4))), (a5, .inl (cJ, 28, .inr (.inl f5))), (a6, .inl (cJ, 28, .inr (.inl f6))), (a7, .inl (cI, 28, .inl f7))] := hD
  refine lv_aload_n hx hb dX0_loadArtificial_48 rfl (lv_at hl 1 rfl) ?_
  refine va_get (D := (dC, dI)) (ci := 0) (v := .ref a4) (C := RX0) (T := TX0) (N := 8) hx hb hts (fun w h => List.mem_cons_of_mem _ (ic_X0 w h)) hown hK hP 0 rfl rfl 4 (by decide) (hts _ (List.mem_cons_of_mem _ mw_24)) (fun _ h9 => h9) rfl dX0_loadArtificial_49 ?_
  refine lv_iload hx hb dX0_loadArtificial_52 (lv_at hl 0 rfl) ?_
  refine lv_ldc2 (v := 1152921504606846976) hx hb hown (hts _ (List.mem_cons_of_mem _ mw_60)) dX0_loadArtificial_54 ?_
  refine pf_last hx hb hK hP hD hS 3 1 21 rfl rfl (by decide +kernel) (by decide +kernel) (by decide) dX0_loadArtificial_57 (fun H locs hP hD hS => ?_)
  have hP : va_P (dC, dI) pf_cls [(ac, .inr (0, [.int 2, .int 0, .ref a2, .ref a3, .ref a4, .ref a5, .ref a6, .ref a7])), (a2, .inl (cI, 28, .inl (upd f2 21 1))), (a3, .inl (cI, 28, .inl (upd f3 21 2))), (a4, .inl (cJ, 28, .inr (.inl (vp_updL f4 21 1152921504606846976)))), (a5, .inl (cJ, 28, .inr (.inl f5))), (a6, .inl (cJ, 28, .inr (.inl f6))), (a7, .inl (cI, 28, .inl f7))] H := hP
  have hD : va_D A [(ac, .inr (0, [.int 2, .int 0, .ref a2, .ref a3, .ref a4, .ref a5, .ref a6, .ref a7])), (a2, .inl (cI, 28, .inl (upd f2 21 1))), (a3, .inl (cI, 28, .inl (upd f3 21 2))), (a4, .inl (cJ, 28, .inr (.inl (vp_updL f4 21 1152921504606846976)))), (a5, .inl (cJ, 28, .inr (.inl f5))), (a6, .inl (cJ, 28, .inr (.inl f6))), (a7, .inl (cI, 28, .inl f7))] := hD
  refine lv_aload_n hx hb dX0_loadArtificial_58 rfl (lv_at hl 1 rfl) ?_
  refine va_get (D := (dC, dI)) (ci := 0) (v := .ref a5) (C := RX0) (T := TX0) (N := 8) hx hb hts (fun w h => List.mem_cons_of_mem _ (ic_X0 w h)) hown hK hP 0 rfl rfl 5 (by decide) (hts _ (List.mem_cons_of_mem _ mw_25)) (fun _ h9 => h9) rfl dX0_loadArtificial_59 ?_
  refine lv_iload hx hb dX0_loadArtificial_62 (lv_at hl 0 rfl) ?_
  refine lv_lload hx hb dX0_loadArtificial_64 (lv_at hl 4 rfl) ?_
  refine pf_last hx hb hK hP hD hS 4 1 21 rfl rfl (by decide +kernel) (by decide +kernel) (by decide) dX0_loadArtificial_66 (fun H locs hP hD hS => ?_)
  have hP : va_P (dC, dI) pf_cls [(ac, .inr (0, [.int 2, .int 0, .ref a2, .ref a3, .ref a4, .ref a5, .ref a6, .ref a7])), (a2, .inl (cI, 28, .inl (upd f2 21 1))), (a3, .inl (cI, 28, .inl (upd f3 21 2))), (a4, .inl (cJ, 28, .inr (.inl (vp_updL f4 21 1152921504606846976)))), (a5, .inl (cJ, 28, .inr (.inl (vp_updL f5 21 1)))), (a6, .inl (cJ, 28, .inr (.inl f6))), (a7, .inl (cI, 28, .inl f7))] H := hP
  have hD : va_D A [(ac, .inr (0, [.int 2, .int 0, .ref a2, .ref a3, .ref a4, .ref a5, .ref a6, .ref a7])), (a2, .inl (cI, 28, .inl (upd f2 21 1))), (a3, .inl (cI, 28, .inl (upd f3 21 2))), (a4, .inl (cJ, 28, .inr (.inl (vp_updL f4 21 1152921504606846976)))), (a5, .inl (cJ, 28, .inr (.inl (vp_updL f5 21 1)))), (a6, .inl (cJ, 28, .inr (.inl f6))), (a7, .inl (cI, 28, .inl f7))] := hD
  refine lv_aload_n hx hb dX0_loadArtificial_67 rfl (lv_at hl 1 rfl) ?_
  refine va_get (D := (dC, dI)) (ci := 0) (v := .ref a6) (C := RX0) (T := TX0) (N := 8) hx hb hts (fun w h => List.mem_cons_of_mem _ (ic_X0 w h)) hown hK hP 0 rfl rfl 6 (by decide) (hts _ (List.mem_cons_of_mem _ mw_26)) (fun _ h9 => h9) rfl dX0_loadArtificial_68 ?_
  refine lv_iload hx hb dX0_loadArtificial_71 (lv_at hl 0 rfl) ?_
  refine lv_lload_n hx hb dX0_loadArtificial_73 rfl (lv_at hl 3 rfl) ?_
  refine va_mabs_long hx hb (hml.trans hl.1.symm) hown (hts _ (List.mem_cons_of_mem _ mw_61)) (hts _ (List.mem_cons_of_mem _ mw_53)) (hts _ (List.mem_cons_of_mem _ mw_54)) (hts _ (List.mem_cons_of_mem _ mw_55)) (Nat.le_of_ble_eq_true rfl) (Nat.le_of_ble_eq_true rfl) (Nat.le_of_ble_eq_true rfl) (Nat.le_of_ble_eq_true rfl) dX0_loadArtificial_74 ?_
  refine pf_topl (v := 0) (by decide +kernel) ?_
  refine pf_last hx hb hK hP hD hS 5 1 21 rfl rfl (by decide +kernel) (by decide +kernel) (by decide) dX0_loadArtificial_77 (fun H locs hP hD hS => ?_)
  have hP : va_P (dC, dI) pf_cls [(ac, .inr (0, [.int 2, .int 0, .ref a2, .ref a3, .ref a4, .ref a5, .ref a6, .ref a7])), (a2, .inl (cI, 28, .inl (upd f2 21 1))), (a3, .inl (cI, 28, .inl (upd f3 21 2))), (a4, .inl (cJ, 28, .inr (.inl (vp_updL f4 21 1152921504606846976)))), (a5, .inl (cJ, 28, .inr (.inl (vp_updL f5 21 1)))), (a6, .inl (cJ, 28, .inr (.inl (vp_updL f6 21 0)))), (a7, .inl (cI, 28, .inl f7))] H := hP
  have hD : va_D A [(ac, .inr (0, [.int 2, .int 0, .ref a2, .ref a3, .ref a4, .ref a5, .ref a6, .ref a7])), (a2, .inl (cI, 28, .inl (upd f2 21 1))), (a3, .inl (cI, 28, .inl (upd f3 21 2))), (a4, .inl (cJ, 28, .inr (.inl (vp_updL f4 21 1152921504606846976)))), (a5, .inl (cJ, 28, .inr (.inl (vp_updL f5 21 1)))), (a6, .inl (cJ, 28, .inr (.inl (vp_updL f6 21 0)))), (a7, .inl (cI, 28, .inl f7))] := hD
  refine lv_aload_n hx hb dX0_loadArtificial_78 rfl (lv_at hl 1 rfl) ?_
  refine va_get (D := (dC, dI)) (ci := 0) (v := .ref a7) (C := RX0) (T := TX0) (N := 8) hx hb hts (fun w h => List.mem_cons_of_mem _ (ic_X0 w h)) hown hK hP 0 rfl rfl 7 (by decide) (hts _ (List.mem_cons_of_mem _ mw_27)) (fun _ h9 => h9) rfl dX0_loadArtificial_79 ?_
  refine lv_iload hx hb dX0_loadArtificial_82 (lv_at hl 0 rfl) ?_
  refine lv_iconst (v := 2) hx hb dX0_loadArtificial_84 (by decide) ?_
  refine pf_iast hx hb hK hP hD hS 6 0 21 rfl rfl (by decide +kernel) (by decide +kernel) (by decide) dX0_loadArtificial_85 (fun H locs hP hD hS => ?_)
  have hP : va_P (dC, dI) pf_cls [(ac, .inr (0, [.int 2, .int 0, .ref a2, .ref a3, .ref a4, .ref a5, .ref a6, .ref a7])), (a2, .inl (cI, 28, .inl (upd f2 21 1))), (a3, .inl (cI, 28, .inl (upd f3 21 2))), (a4, .inl (cJ, 28, .inr (.inl (vp_updL f4 21 1152921504606846976)))), (a5, .inl (cJ, 28, .inr (.inl (vp_updL f5 21 1)))), (a6, .inl (cJ, 28, .inr (.inl (vp_updL f6 21 0)))), (a7, .inl (cI, 28, .inl (upd f7 21 2)))] H := hP
  have hD : va_D A [(ac, .inr (0, [.int 2, .int 0, .ref a2, .ref a3, .ref a4, .ref a5, .ref a6, .ref a7])), (a2, .inl (cI, 28, .inl (upd f2 21 1))), (a3, .inl (cI, 28, .inl (upd f3 21 2))), (a4, .inl (cJ, 28, .inr (.inl (vp_updL f4 21 1152921504606846976)))), (a5, .inl (cJ, 28, .inr (.inl (vp_updL f5 21 1)))), (a6, .inl (cJ, 28, .inr (.inl (vp_updL f6 21 0)))), (a7, .inl (cI, 28, .inl (upd f7 21 2)))] := hD
  have hP9 := hP.sub (ws' := [(ac, .inr (0, [.int 2, .int 0, .ref a2, .ref a3, .ref a4, .ref a5, .ref a6, .ref a7])), (a2, .inl (cI, 28, .inl (upd f2 21 1))), (a3, .inl (cI, 28, .inl (upd f3 21 2))), (a4, .inl (cJ, 28, .inr (.inl (vp_updL f4 21 1152921504606846976)))), (a5, .inl (cJ, 28, .inr (.inl (vp_updL f5 21 1)))), (a6, .inl (cJ, 28, .inr (.inl (vp_updL f6 21 0)))), (a7, .inl (cI, 28, .inl (upd f7 21 2)))]) [0, 1, 2, 3, 4, 5, 6] rfl
  have hD9 := hD.sub (ws' := [(ac, .inr (0, [.int 2, .int 0, .ref a2, .ref a3, .ref a4, .ref a5, .ref a6, .ref a7])), (a2, .inl (cI, 28, .inl (upd f2 21 1))), (a3, .inl (cI, 28, .inl (upd f3 21 2))), (a4, .inl (cJ, 28, .inr (.inl (vp_updL f4 21 1152921504606846976)))), (a5, .inl (cJ, 28, .inr (.inl (vp_updL f5 21 1)))), (a6, .inl (cJ, 28, .inr (.inl (vp_updL f6 21 0)))), (a7, .inl (cI, 28, .inl (upd f7 21 2)))]) [0, 1, 2, 3, 4, 5, 6] (by decide +kernel) rfl
  refine W.widen (k := 0) (n := 0) (Nat.le_of_ble_eq_true rfl) (Nat.le_of_ble_eq_true rfl) ?_
  exact W.vret hx hb hr (fun t ht hW => ⟨⟨(), rfl, trivial, (by rw [ht]; exact hP9), hD9⟩, hS.F ht⟩) hS.2.2 dX0_loadArtificial_86
set_option maxHeartbeats 40000000 in
set_option maxRecDepth 100000 in
theorem c_load (l : Launch) (dC : Nat → ClassId) (dI : Nat → Nat → Nat) (cI cJ cZ cO : ClassId) (sz : Nat) (ac : Nat) (n : Nat) (pp : Int64) (q : Int64) (k0 : Int32) (k1 : Int32) (a2 : Nat) (a3 : Nat) (a4 : Nat) (a5 : Nat) (a6 : Nat) (a7 : Nat) (n3 : Nat) (n4 : Nat) (n5 : Nat) (n6 : Nat) (n7 : Nat) (n8 : Nat) (n9 : Nat) (f2 : Nat → Int32) (f3 : Nat → Int32) (f4 : Nat → Int64) (f5 : Nat → Int64) (f6 : Nat → Int64) (f7 : Nat → Int32)  : Met l yX0_load (Cond.code yX0_load cX0_load 9 none :: pf_W) ({ frames := 2, cells := 0, slots := 0, locals := 47 }) (va_Pc [.ref ac, .ref n, .long pp, .long q] (fun U => U.heap.size = sz ∧ va_P (dC, dI) pf_cls [(ac, .inr (0, [.int k0, .int k1, .ref a2, .ref a3, .ref a4, .ref a5, .ref a6, .ref a7])), (n, .inr (5, [.int 2, .int 0, .int 0, .ref n3, .ref n4, .ref n5, .ref n6, .ref n7, .ref n8, .ref n9])), (n3, .inl (cI, 8, .inl (fun _ => 0))), (a2, .inl (cI, 28, .inl f2)), (a3, .inl (cI, 28, .inl f3)), (a4, .inl (cJ, 28, .inr (.inl f4))), (a5, .inl (cJ, 28, .inr (.inl f5))), (a6, .inl (cJ, 28, .inr (.inl f6))), (a7, .inl (cI, 28, .inl f7))] U.heap ∧ va_K (dC, dI) pf_cls (pf_ty cI cJ cZ cO) U ∧ va_D (fun _ => True) [(ac, .inr (0, [.int k0, .int k1, .ref a2, .ref a3, .ref a4, .ref a5, .ref a6, .ref a7])), (n, .inr (5, [.int 2, .int 0, .int 0, .ref n3, .ref n4, .ref n5, .ref n6, .ref n7, .ref n8, .ref n9])), (n3, .inl (cI, 8, .inl (fun _ => 0))), (a2, .inl (cI, 28, .inl f2)), (a3, .inl (cI, 28, .inl f3)), (a4, .inl (cJ, 28, .inr (.inl f4))), (a5, .inl (cJ, 28, .inr (.inl f5))), (a6, .inl (cJ, 28, .inr (.inl f6))), (a7, .inl (cI, 28, .inl f7))])) (va_Qv (fun (_ : Unit) => True) (fun (_ : Unit) (t : State) => va_P (dC, dI) pf_cls [(ac, .inr (0, [.int 2, .int 0, .ref a2, .ref a3, .ref a4, .ref a5, .ref a6, .ref a7])), (n, .inr (5, [.int 2, .int 0, .int 0, .ref n3, .ref n4, .ref n5, .ref n6, .ref n7, .ref n8, .ref n9])), (n3, .inl (cI, 8, .inl (fun _ => 0))), (a2, .inl (cI, 28, .inl (upd (upd f2 20 0) 21 1))), (a3, .inl (cI, 28, .inl (upd (upd f3 20 2) 21 2))), (a4, .inl (cJ, 28, .inr (.inl (vp_updL (vp_updL f4 20 1152921504606846976) 21 1152921504606846976)))), (a5, .inl (cJ, 28, .inr (.inl (vp_updL (vp_updL f5 20 1) 21 1)))), (a6, .inl (cJ, 28, .inr (.inl (vp_updL (vp_updL f6 20 0) 21 0)))), (a7, .inl (cI, 28, .inl (upd (upd f7 20 2) 21 2)))] t.heap ∧ va_D (va_A [(ac, .inr (0, [.int k0, .int k1, .ref a2, .ref a3, .ref a4, .ref a5, .ref a6, .ref a7])), (n, .inr (5, [.int 2, .int 0, .int 0, .ref n3, .ref n4, .ref n5, .ref n6, .ref n7, .ref n8, .ref n9])), (n3, .inl (cI, 8, .inl (fun _ => 0))), (a2, .inl (cI, 28, .inl f2)), (a3, .inl (cI, 28, .inl f3)), (a4, .inl (cJ, 28, .inr (.inl f4))), (a5, .inl (cJ, 28, .inr (.inl f5))), (a6, .inl (cJ, 28, .inr (.inl f6))), (a7, .inl (cI, 28, .inl f7))] sz) [(ac, .inr (0, [.int 2, .int 0, .ref a2, .ref a3, .ref a4, .ref a5, .ref a6, .ref a7])), (n, .inr (5, [.int 2, .int 0, .int 0, .ref n3, .ref n4, .ref n5, .ref n6, .ref n7, .ref n8, .ref n9])), (n3, .inl (cI, 8, .inl (fun _ => 0))), (a2, .inl (cI, 28, .inl (upd (upd f2 20 0) 21 1))), (a3, .inl (cI, 28, .inl (upd (upd f3 20 2) 21 2))), (a4, .inl (cJ, 28, .inr (.inl (vp_updL (vp_updL f4 20 1152921504606846976) 21 1152921504606846976)))), (a5, .inl (cJ, 28, .inr (.inl (vp_updL (vp_updL f5 20 1) 21 1)))), (a6, .inl (cJ, 28, .inr (.inl (vp_updL (vp_updL f6 20 0) 21 0)))), (a7, .inl (cI, 28, .inl (upd (upd f7 20 2) 21 2)))]) (va_A [(ac, .inr (0, [.int k0, .int k1, .ref a2, .ref a3, .ref a4, .ref a5, .ref a6, .ref a7])), (n, .inr (5, [.int 2, .int 0, .int 0, .ref n3, .ref n4, .ref n5, .ref n6, .ref n7, .ref n8, .ref n9])), (n3, .inl (cI, 8, .inl (fun _ => 0))), (a2, .inl (cI, 28, .inl f2)), (a3, .inl (cI, 28, .inl f3)), (a4, .inl (cJ, 28, .inr (.inl f4))), (a5, .inl (cJ, 28, .inr (.inl f5))), (a6, .inl (cJ, 28, .inr (.inl f6))), (a7, .inl (cI, 28, .inl f7))] sz)) 0 0 (va_A [(ac, .inr (0, [.int k0, .int k1, .ref a2, .ref a3, .ref a4, .ref a5, .ref a6, .ref a7])), (n, .inr (5, [.int 2, .int 0, .int 0, .ref n3, .ref n4, .ref n5, .ref n6, .ref n7, .ref n8, .ref n9])), (n3, .inl (cI, 8, .inl (fun _ => 0))), (a2, .inl (cI, 28, .inl f2)), (a3, .inl (cI, 28, .inl f3)), (a4, .inl (cJ, 28, .inr (.inl f4))), (a5, .inl (cJ, 28, .inr (.inl f5))), (a6, .inl (cJ, 28, .inr (.inl f6))), (a7, .inl (cI, 28, .inl f7))] sz) := by
  refine Met.ofW (cc := cX0_load) (maxL := 9) (ret := none) (by decide) rfl ?_
  intro p e s m args below meth c s₁ B hml hv
  obtain ⟨rfl, hsz, hP, hK, hD0⟩ := hv
  have hx := B.exec
  have hb := B.bytes
  have hr := B.returns
  have hts := atoms_spec (ws := Cond.code yX0_load cX0_load 9 none :: pf_W) B.pre
  have hown : s.vm.findClass RX0 = some m.cls := findClass_of_methodNamed B.named
  have hlocks := B.notSynchronized
  subst hsz
  have hD := hD0.self (sz := s.heap.size)
  generalize hAe : va_A [(ac, .inr (0, [.int k0, .int k1, .ref a2, .ref a3, .ref a4, .ref a5, .ref a6, .ref a7])), (n, .inr (5, [.int 2, .int 0, .int 0, .ref n3, .ref n4, .ref n5, .ref n6, .ref n7, .ref n8, .ref n9])), (n3, .inl (cI, 8, .inl (fun _ => 0))), (a2, .inl (cI, 28, .inl f2)), (a3, .inl (cI, 28, .inl f3)), (a4, .inl (cJ, 28, .inr (.inl f4))), (a5, .inl (cJ, 28, .inr (.inl f5))), (a6, .inl (cJ, 28, .inr (.inl f6))), (a7, .inl (cI, 28, .inl f7))] s.heap.size = A at hD ⊢
  have hA : ∀ q : Nat, s.heap.size ≤ q → A q := fun q h => by rw [← hAe]; exact Or.inr h
  have hS : va_S A s.heap s.heap [] := va_S.rf
  have hP : va_P (dC, dI) pf_cls [(ac, .inr (0, [.int k0, .int k1, .ref a2, .ref a3, .ref a4, .ref a5, .ref a6, .ref a7])), (n, .inr (5, [.int 2, .int 0, .int 0, .ref n3, .ref n4, .ref n5, .ref n6, .ref n7, .ref n8, .ref n9])), (n3, .inl (cI, 8, .inl (fun _ => 0))), (a2, .inl (cI, 28, .inl f2)), (a3, .inl (cI, 28, .inl f3)), (a4, .inl (cJ, 28, .inr (.inl f4))), (a5, .inl (cJ, 28, .inr (.inl f5))), (a6, .inl (cJ, 28, .inr (.inl f6))), (a7, .inl (cI, 28, .inl f7))] s.heap := hP
  have hl := lv_entry ([.ref ac, .ref n, .long pp, .long q]) (n := 9) (Nat.le_of_ble_eq_true rfl)
  rw [lg_entry_eq]
  generalize (lg_sl ([.ref ac, .ref n, .long pp, .long q]) ++ List.replicate (9 - (lg_sl ([.ref ac, .ref n, .long pp, .long q])).length) Slot.unset).toArray = ls at hl ⊢
  have hl : lv_has ls 9 [(0, .ref ac), (1, .ref n), (2, .long pp), (4, .long q)] := hl
  refine lv_aload_n hx hb dX0_load_0 rfl (lv_at hl 0 rfl) ?_
  refine lv_aload_n hx hb dX0_load_1 rfl (lv_at hl 1 rfl) ?_
  refine va_get (D := (dC, dI)) (ci := 5) (v := .int 2) (C := RX5) (T := TX5) (N := 10) hx hb hts (fun w h => List.mem_cons_of_mem _ (ic_X5 w h)) hown hK hP 1 rfl rfl 0 (by decide) (hts _ (List.mem_cons_of_mem _ mw_62)) (fun _ h9 => h9) rfl dX0_load_2 ?_
  refine va_put (D := (dC, dI)) (ci := 0) (v := .int 2) (ty := .int) (C := RX0) (T := TX0) (N := 8) hx hb hts (fun w h => List.mem_cons_of_mem _ (ic_X0 w h)) tyX0 tyX0_ok nmX0 hown hK hP hD hS 0 rfl rfl 0 (by decide) (hts _ (List.mem_cons_of_mem _ mw_59)) (fun _ h9 => h9) rfl (by decide +kernel) rfl rfl (Nat.le_of_ble_eq_true rfl) dX0_load_5 (fun H locs hP hD hS => ?_)
  have hP : va_P (dC, dI) pf_cls [(ac, .inr (0, [.int 2, .int k1, .ref a2, .ref a3, .ref a4, .ref a5, .ref a6, .ref a7])), (n, .inr (5, [.int 2, .int 0, .int 0, .ref n3, .ref n4, .ref n5, .ref n6, .ref n7, .ref n8, .ref n9])), (n3, .inl (cI, 8, .inl (fun _ => 0))), (a2, .inl (cI, 28, .inl f2)), (a3, .inl (cI, 28, .inl f3)), (a4, .inl (cJ, 28, .inr (.inl f4))), (a5, .inl (cJ, 28, .inr (.inl f5))), (a6, .inl (cJ, 28, .inr (.inl f6))), (a7, .inl (cI, 28, .inl f7))] H := hP
  have hD : va_D A [(ac, .inr (0, [.int 2, .int k1, .ref a2, .ref a3, .ref a4, .ref a5, .ref a6, .ref a7])), (n, .inr (5, [.int 2, .int 0, .int 0, .ref n3, .ref n4, .ref n5, .ref n6, .ref n7, .ref n8, .ref n9])), (n3, .inl (cI, 8, .inl (fun _ => 0))), (a2, .inl (cI, 28, .inl f2)), (a3, .inl (cI, 28, .inl f3)), (a4, .inl (cJ, 28, .inr (.inl f4))), (a5, .inl (cJ, 28, .inr (.inl f5))), (a6, .inl (cJ, 28, .inr (.inl f6))), (a7, .inl (cI, 28, .inl f7))] := hD
  refine lv_aload_n hx hb dX0_load_8 rfl (lv_at hl 0 rfl) ?_
  refine lv_aload_n hx hb dX0_load_9 rfl (lv_at hl 1 rfl) ?_
  refine va_get (D := (dC, dI)) (ci := 5) (v := .int 0) (C := RX5) (T := TX5) (N := 10) hx hb hts (fun w h => List.mem_cons_of_mem _ (ic_X5 w h)) hown hK hP 1 rfl rfl 1 (by decide) (hts _ (List.mem_cons_of_mem _ mw_63)) (fun _ h9 => h9) rfl dX0_load_10 ?_
  refine va_put (D := (dC, dI)) (ci := 0) (v := .int 0) (ty := .int) (C := RX0) (T := TX0) (N := 8) hx hb hts (fun w h => List.mem_cons_of_mem _ (ic_X0 w h)) tyX0 tyX0_ok nmX0 hown hK hP hD hS 0 rfl rfl 1 (by decide) (hts _ (List.mem_cons_of_mem _ mw_64)) (fun _ h9 => h9) rfl (by decide +kernel) rfl rfl (Nat.le_of_ble_eq_true rfl) dX0_load_13 (fun H locs hP hD hS => ?_)
  have hP : va_P (dC, dI) pf_cls [(ac, .inr (0, [.int 2, .int 0, .ref a2, .ref a3, .ref a4, .ref a5, .ref a6, .ref a7])), (n, .inr (5, [.int 2, .int 0, .int 0, .ref n3, .ref n4, .ref n5, .ref n6, .ref n7, .ref n8, .ref n9])), (n3, .inl (cI, 8, .inl (fun _ => 0))), (a2, .inl (cI, 28, .inl f2)), (a3, .inl (cI, 28, .inl f3)), (a4, .inl (cJ, 28, .inr (.inl f4))), (a5, .inl (cJ, 28, .inr (.inl f5))), (a6, .inl (cJ, 28, .inr (.inl f6))), (a7, .inl (cI, 28, .inl f7))] H := hP
  have hD : va_D A [(ac, .inr (0, [.int 2, .int 0, .ref a2, .ref a3, .ref a4, .ref a5, .ref a6, .ref a7])), (n, .inr (5, [.int 2, .int 0, .int 0, .ref n3, .ref n4, .ref n5, .ref n6, .ref n7, .ref n8, .ref n9])), (n3, .inl (cI, 8, .inl (fun _ => 0))), (a2, .inl (cI, 28, .inl f2)), (a3, .inl (cI, 28, .inl f3)), (a4, .inl (cJ, 28, .inr (.inl f4))), (a5, .inl (cJ, 28, .inr (.inl f5))), (a6, .inl (cJ, 28, .inr (.inl f6))), (a7, .inl (cI, 28, .inl f7))] := hD
  refine lv_lconst (v := 0) hx hb dX0_load_16 (by decide +kernel) ?_
  refine lv_lstore (lv' := [(6, .long 0), (0, .ref ac), (1, .ref n), (2, .long pp), (4, .long q)]) hx hb dX0_load_17 hl (by decide) rfl (fun ls hl => ?_)
  refine lv_iconst (v := 0) hx hb dX0_load_19 (by decide) ?_
  refine lv_istore (lv' := [(8, .int 0), (6, .long 0), (0, .ref ac), (1, .ref n), (2, .long pp), (4, .long q)]) hx hb dX0_load_20 hl (by decide) rfl (fun ls hl => ?_)
  refine lv_iload hx hb dX0_load_22 (lv_at hl 0 rfl) ?_
  refine lv_aload_n hx hb dX0_load_24 rfl (lv_at hl 2 rfl) ?_
  refine va_get (D := (dC, dI)) (ci := 0) (v := .int 0) (C := RX0) (T := TX0) (N := 8) hx hb hts (fun w h => List.mem_cons_of_mem _ (ic_X0 w h)) hown hK hP 0 rfl rfl 1 (by decide) (hts _ (List.mem_cons_of_mem _ mw_64)) (fun _ h9 => h9) rfl dX0_load_25 ?_
  refine lv_icmp_ge (tgt := 129) hx hb dX0_load_28 (by decide) (fun _ => ?_) (fun c0 => absurd (by decide +kernel) c0)
  refine lv_iconst (v := 0) hx hb dX0_load_129 (by decide) ?_
  refine lv_istore (lv' := [(8, .int 0), (6, .long 0), (0, .ref ac), (1, .ref n), (2, .long pp), (4, .long q)]) hx hb dX0_load_130 hl (by decide) rfl (fun ls hl => ?_)
  refine lv_iload hx hb dX0_load_132 (lv_at hl 0 rfl) ?_
  refine lv_aload_n hx hb dX0_load_134 rfl (lv_at hl 2 rfl) ?_
  refine va_get (D := (dC, dI)) (ci := 0) (v := .int 2) (C := RX0) (T := TX0) (N := 8) hx hb hts (fun w h => List.mem_cons_of_mem _ (ic_X0 w h)) hown hK hP 0 rfl rfl 0 (by decide) (hts _ (List.mem_cons_of_mem _ mw_59)) (fun _ h9 => h9) rfl dX0_load_135 ?_
  refine lv_icmp_ge (tgt := 172) hx hb dX0_load_138 (by decide) (fun c1 => absurd c1 (by decide +kernel)) (fun _ => ?_)
  refine lv_aload_n hx hb dX0_load_141 rfl (lv_at hl 2 rfl) ?_
  refine lv_iload hx hb dX0_load_142 (lv_at hl 0 rfl) ?_
  refine lv_aload_n hx hb dX0_load_144 rfl (lv_at hl 3 rfl) ?_
  refine lv_iload hx hb dX0_load_145 (lv_at hl 0 rfl) ?_
  refine lv_lload_n hx hb dX0_load_147 rfl (lv_at hl 4 rfl) ?_
  refine lv_lload hx hb dX0_load_148 (lv_at hl 5 rfl) ?_
  have hPc := hP.sub (ws' := [(n, .inr (5, [.int 2, .int 0, .int 0, .ref n3, .ref n4, .ref n5, .ref n6, .ref n7, .ref n8, .ref n9])), (n3, .inl (cI, 8, .inl (fun _ => 0)))]) [1, 2] rfl
  have hDc := hD.sub (ws' := [(n, .inr (5, [.int 2, .int 0, .int 0, .ref n3, .ref n4, .ref n5, .ref n6, .ref n7, .ref n8, .ref n9])), (n3, .inl (cI, 8, .inl (fun _ => 0)))]) [1, 2] (by decide +kernel) rfl
  have hFc := va_free (wc := [(n, .inr (5, [.int 2, .int 0, .int 0, .ref n3, .ref n4, .ref n5, .ref n6, .ref n7, .ref n8, .ref n9])), (n3, .inl (cI, 8, .inl (fun _ => 0)))]) hD hS hA [1, 2] rfl
  refine va_calll (va_runV (As := [.int 0, .long pp, .long q]) (rest := [.int 0, .ref ac]) ⟨hx, hb, hml, hown, hts⟩ (c_scaledSupply0 l dC dI cI cJ cZ cO H.size n pp q n3 n4 n5 n6 n7 n8 n9) (cwV 3 hts (pf_gV mw_65 mw_44 mw_45 mw_46 mw_47) rfl rfl rfl (by decide +kernel) ⟨Nat.le_of_ble_eq_true rfl, Nat.le_of_ble_eq_true rfl⟩) ⟨fun a U g mk q => by obtain ⟨q0, q1, qP, qK, qD⟩ := q; exact ⟨q0, q1, qP, va_K.moved (u := U) (U := U.calling g mk a) (Vm.Alike.refl U.vm) qK, qD⟩, va_recv hK hPc (ci := 5) (q0 := 0) rfl rfl, fun U hU hW => ⟨rfl, by rw [hU], by rw [hU]; exact hPc, va_K.moved hW.alike hK, hDc.weaken (fun _ _ _ _ => trivial)⟩⟩ rfl rfl hl.1 rfl (lv_room (Nat.le_of_ble_eq_true rfl)) dX0_load_150 ⟨Nat.le_of_ble_eq_true rfl, Nat.le_of_ble_eq_true rfl⟩) hS (fun q _ h => hFc q h) hFc (fun r2 u t H1 locs ht hvm hw hB hz1 hk1 hS => ?_)
  have hw : 0 = r2 := (show r2 = 0 from hw).symm
  subst hw
  obtain ⟨hP1, hD1⟩ := hB
  rw [ht] at hP1
  obtain ⟨hP, hD⟩ := va_join (wr := [(ac, .inr (0, [.int 2, .int 0, .ref a2, .ref a3, .ref a4, .ref a5, .ref a6, .ref a7])), (a2, .inl (cI, 28, .inl f2)), (a3, .inl (cI, 28, .inl f3)), (a4, .inl (cJ, 28, .inr (.inl f4))), (a5, .inl (cJ, 28, .inr (.inl f5))), (a6, .inl (cJ, 28, .inr (.inl f6))), (a7, .inl (cI, 28, .inl f7))]) (w1 := [(n, .inr (5, [.int 2, .int 0, .int 0, .ref n3, .ref n4, .ref n5, .ref n6, .ref n7, .ref n8, .ref n9])), (n3, .inl (cI, 8, .inl (fun _ => 0)))]) hP hD [1, 2] [0, 3, 4, 5, 6, 7, 8] rfl rfl (by decide +kernel) (by decide +kernel) hk1 hFc hP1 hD1
  clear hPc hDc hFc hk1 hz1
  generalize H1 = H at hP hS ⊢
  have hP : va_P (dC, dI) pf_cls [(ac, .inr (0, [.int 2, .int 0, .ref a2, .ref a3, .ref a4, .ref a5, .ref a6, .ref a7])), (a2, .inl (cI, 28, .inl f2)), (a3, .inl (cI, 28, .inl f3)), (a4, .inl (cJ, 28, .inr (.inl f4))), (a5, .inl (cJ, 28, .inr (.inl f5))), (a6, .inl (cJ, 28, .inr (.inl f6))), (a7, .inl (cI, 28, .inl f7)), (n, .inr (5, [.int 2, .int 0, .int 0, .ref n3, .ref n4, .ref n5, .ref n6, .ref n7, .ref n8, .ref n9])), (n3, .inl (cI, 8, .inl (fun _ => 0)))] H := hP
  have hD : va_D A [(ac, .inr (0, [.int 2, .int 0, .ref a2, .ref a3, .ref a4, .ref a5, .ref a6, .ref a7])), (a2, .inl (cI, 28, .inl f2)), (a3, .inl (cI, 28, .inl f3)), (a4, .inl (cJ, 28, .inr (.inl f4))), (a5, .inl (cJ, 28, .inr (.inl f5))), (a6, .inl (cJ, 28, .inr (.inl f6))), (a7, .inl (cI, 28, .inl f7)), (n, .inr (5, [.int 2, .int 0, .int 0, .ref n3, .ref n4, .ref n5, .ref n6, .ref n7, .ref n8, .ref n9])), (n3, .inl (cI, 8, .inl (fun _ => 0)))] := hD
  refine lv_lconst (v := 1) hx hb dX0_load_153 (by decide +kernel) ?_
  refine lv_aload_n hx hb dX0_load_154 rfl (lv_at hl 2 rfl) ?_
  refine va_get (D := (dC, dI)) (ci := 0) (v := .int 2) (C := RX0) (T := TX0) (N := 8) hx hb hts (fun w h => List.mem_cons_of_mem _ (ic_X0 w h)) hown hK hP 0 rfl rfl 0 (by decide) (hts _ (List.mem_cons_of_mem _ mw_59)) (fun _ h9 => h9) rfl dX0_load_155 ?_
  refine lv_i2l (v := 2) hx hb dX0_load_158 (by decide +kernel) ?_
  refine lv_lload hx hb dX0_load_159 (lv_at hl 1 rfl) ?_
  refine lv_lmul hx hb dX0_load_161 ?_
  refine pf_topl (v := 0) (by decide +kernel) ?_
  refine lv_ladd hx hb dX0_load_162 ?_
  refine pf_topl (v := 1) (by decide +kernel) ?_
  have hPc := hP.sub (ws' := [(ac, .inr (0, [.int 2, .int 0, .ref a2, .ref a3, .ref a4, .ref a5, .ref a6, .ref a7])), (a2, .inl (cI, 28, .inl f2)), (a3, .inl (cI, 28, .inl f3)), (a4, .inl (cJ, 28, .inr (.inl f4))), (a5, .inl (cJ, 28, .inr (.inl f5))), (a6, .inl (cJ, 28, .inr (.inl f6))), (a7, .inl (cI, 28, .inl f7))]) [0, 1, 2, 3, 4, 5, 6] rfl
  have hDc := hD.sub (ws' := [(ac, .inr (0, [.int 2, .int 0, .ref a2, .ref a3, .ref a4, .ref a5, .ref a6, .ref a7])), (a2, .inl (cI, 28, .inl f2)), (a3, .inl (cI, 28, .inl f3)), (a4, .inl (cJ, 28, .inr (.inl f4))), (a5, .inl (cJ, 28, .inr (.inl f5))), (a6, .inl (cJ, 28, .inr (.inl f6))), (a7, .inl (cI, 28, .inl f7))]) [0, 1, 2, 3, 4, 5, 6] (by decide +kernel) rfl
  have hFc := va_free (wc := [(ac, .inr (0, [.int 2, .int 0, .ref a2, .ref a3, .ref a4, .ref a5, .ref a6, .ref a7])), (a2, .inl (cI, 28, .inl f2)), (a3, .inl (cI, 28, .inl f3)), (a4, .inl (cJ, 28, .inr (.inl f4))), (a5, .inl (cJ, 28, .inr (.inl f5))), (a6, .inl (cJ, 28, .inr (.inl f6))), (a7, .inl (cI, 28, .inl f7))]) hD hS hA [0, 1, 2, 3, 4, 5, 6] rfl
  refine va_callv (va_runV (As := [.int 0, .long 0, .long 1]) (rest := []) ⟨hx, hb, hml, hown, hts⟩ (c_loadArt0 l dC dI cI cJ cZ cO H.size ac a2 a3 a4 a5 a6 a7 f2 f3 f4 f5 f6 f7) (cwV 3 hts (pf_gV mw_66 mw_67 mw_68 mw_69 mw_70) rfl rfl rfl (by decide +kernel) ⟨Nat.le_of_ble_eq_true rfl, Nat.le_of_ble_eq_true rfl⟩) ⟨fun a U g mk q => by obtain ⟨q0, q1, qP, qK, qD⟩ := q; exact ⟨q0, q1, qP, va_K.moved (u := U) (U := U.calling g mk a) (Vm.Alike.refl U.vm) qK, qD⟩, va_recv hK hPc (ci := 0) (q0 := 0) rfl rfl, fun U hU hW => ⟨rfl, by rw [hU], by rw [hU]; exact hPc, va_K.moved hW.alike hK, hDc.weaken (fun _ _ _ _ => trivial)⟩⟩ rfl rfl hl.1 rfl (lv_room (Nat.le_of_ble_eq_true rfl)) dX0_load_163 ⟨Nat.le_of_ble_eq_true rfl, Nat.le_of_ble_eq_true rfl⟩) hS (fun q _ h => hFc q h) hFc (fun u t H1 locs ht hvm hw hB hz1 hk1 hS => ?_)
  obtain ⟨hP1, hD1⟩ := hB
  rw [ht] at hP1
  obtain ⟨hP, hD⟩ := va_join (wr := [(n, .inr (5, [.int 2, .int 0, .int 0, .ref n3, .ref n4, .ref n5, .ref n6, .ref n7, .ref n8, .ref n9])), (n3, .inl (cI, 8, .inl (fun _ => 0)))]) (w1 := [(ac, .inr (0, [.int 2, .int 0, .ref a2, .ref a3, .ref a4, .ref a5, .ref a6, .ref a7])), (a2, .inl (cI, 28, .inl (upd f2 20 0))), (a3, .inl (cI, 28, .inl (upd f3 20 2))), (a4, .inl (cJ, 28, .inr (.inl (vp_updL f4 20 1152921504606846976)))), (a5, .inl (cJ, 28, .inr (.inl (vp_updL f5 20 1)))), (a6, .inl (cJ, 28, .inr (.inl (vp_updL f6 20 0)))), (a7, .inl (cI, 28, .inl (upd f7 20 2)))]) hP hD [0, 1, 2, 3, 4, 5, 6] [7, 8] rfl rfl (by decide +kernel) (by decide +kernel) hk1 hFc hP1 hD1
  clear hPc hDc hFc hk1 hz1
  generalize H1 = H at hP hS ⊢
  have hP : va_P (dC, dI) pf_cls [(n, .inr (5, [.int 2, .int 0, .int 0, .ref n3, .ref n4, .ref n5, .ref n6, .ref n7, .ref n8, .ref n9])), (n3, .inl (cI, 8, .inl (fun _ => 0))), (ac, .inr (0, [.int 2, .int 0, .ref a2, .ref a3, .ref a4, .ref a5, .ref a6, .ref a7])), (a2, .inl (cI, 28, .inl (upd f2 20 0))), (a3, .inl (cI, 28, .inl (upd f3 20 2))), (a4, .inl (cJ, 28, .inr (.inl (vp_updL f4 20 1152921504606846976)))), (a5, .inl (cJ, 28, .inr (.inl (vp_updL f5 20 1)))), (a6, .inl (cJ, 28, .inr (.inl (vp_updL f6 20 0)))), (a7, .inl (cI, 28, .inl (upd f7 20 2)))] H := hP
  have hD : va_D A [(n, .inr (5, [.int 2, .int 0, .int 0, .ref n3, .ref n4, .ref n5, .ref n6, .ref n7, .ref n8, .ref n9])), (n3, .inl (cI, 8, .inl (fun _ => 0))), (ac, .inr (0, [.int 2, .int 0, .ref a2, .ref a3, .ref a4, .ref a5, .ref a6, .ref a7])), (a2, .inl (cI, 28, .inl (upd f2 20 0))), (a3, .inl (cI, 28, .inl (upd f3 20 2))), (a4, .inl (cJ, 28, .inr (.inl (vp_updL f4 20 1152921504606846976)))), (a5, .inl (cJ, 28, .inr (.inl (vp_updL f5 20 1)))), (a6, .inl (cJ, 28, .inr (.inl (vp_updL f6 20 0)))), (a7, .inl (cI, 28, .inl (upd f7 20 2)))] := hD
  refine lv_iinc (v := 1) (lv' := [(8, .int 1), (6, .long 0), (0, .ref ac), (1, .ref n), (2, .long pp), (4, .long q)]) hx hb dX0_load_166 hl (k := 0) rfl (by decide +kernel) (by decide) rfl (fun ls hl => ?_)
  refine lv_goto (tgt := 132) hx hb dX0_load_169 (by decide) ?_
  refine lv_iload hx hb dX0_load_132 (lv_at hl 0 rfl) ?_
  refine lv_aload_n hx hb dX0_load_134 rfl (lv_at hl 2 rfl) ?_
  refine va_get (D := (dC, dI)) (ci := 0) (v := .int 2) (C := RX0) (T := TX0) (N := 8) hx hb hts (fun w h => List.mem_cons_of_mem _ (ic_X0 w h)) hown hK hP 2 rfl rfl 0 (by decide) (hts _ (List.mem_cons_of_mem _ mw_59)) (fun _ h9 => h9) rfl dX0_load_135 ?_
  refine lv_icmp_ge (tgt := 172) hx hb dX0_load_138 (by decide) (fun c4 => absurd c4 (by decide +kernel)) (fun _ => ?_)
  refine lv_aload_n hx hb dX0_load_141 rfl (lv_at hl 2 rfl) ?_
  refine lv_iload hx hb dX0_load_142 (lv_at hl 0 rfl) ?_
  refine lv_aload_n hx hb dX0_load_144 rfl (lv_at hl 3 rfl) ?_
  refine lv_iload hx hb dX0_load_145 (lv_at hl 0 rfl) ?_
  refine lv_lload_n hx hb dX0_load_147 rfl (lv_at hl 4 rfl) ?_
  refine lv_lload hx hb dX0_load_148 (lv_at hl 5 rfl) ?_
  have hPc := hP.sub (ws' := [(n, .inr (5, [.int 2, .int 0, .int 0, .ref n3, .ref n4, .ref n5, .ref n6, .ref n7, .ref n8, .ref n9])), (n3, .inl (cI, 8, .inl (fun _ => 0)))]) [0, 1] rfl
  have hDc := hD.sub (ws' := [(n, .inr (5, [.int 2, .int 0, .int 0, .ref n3, .ref n4, .ref n5, .ref n6, .ref n7, .ref n8, .ref n9])), (n3, .inl (cI, 8, .inl (fun _ => 0)))]) [0, 1] (by decide +kernel) rfl
  have hFc := va_free (wc := [(n, .inr (5, [.int 2, .int 0, .int 0, .ref n3, .ref n4, .ref n5, .ref n6, .ref n7, .ref n8, .ref n9])), (n3, .inl (cI, 8, .inl (fun _ => 0)))]) hD hS hA [0, 1] rfl
  refine va_calll (va_runV (As := [.int 1, .long pp, .long q]) (rest := [.int 1, .ref ac]) ⟨hx, hb, hml, hown, hts⟩ (c_scaledSupply1 l dC dI cI cJ cZ cO H.size n pp q n3 n4 n5 n6 n7 n8 n9) (cwV 3 hts (pf_gV mw_65 mw_44 mw_45 mw_46 mw_47) rfl rfl rfl (by decide +kernel) ⟨Nat.le_of_ble_eq_true rfl, Nat.le_of_ble_eq_true rfl⟩) ⟨fun a U g mk q => by obtain ⟨q0, q1, qP, qK, qD⟩ := q; exact ⟨q0, q1, qP, va_K.moved (u := U) (U := U.calling g mk a) (Vm.Alike.refl U.vm) qK, qD⟩, va_recv hK hPc (ci := 5) (q0 := 0) rfl rfl, fun U hU hW => ⟨rfl, by rw [hU], by rw [hU]; exact hPc, va_K.moved hW.alike hK, hDc.weaken (fun _ _ _ _ => trivial)⟩⟩ rfl rfl hl.1 rfl (lv_room (Nat.le_of_ble_eq_true rfl)) dX0_load_150 ⟨Nat.le_of_ble_eq_true rfl, Nat.le_of_ble_eq_true rfl⟩) hS (fun q _ h => hFc q h) hFc (fun r5 u t H1 locs ht hvm hw hB hz1 hk1 hS => ?_)
  have hw : 0 = r5 := (show r5 = 0 from hw).symm
  subst hw
  obtain ⟨hP1, hD1⟩ := hB
  rw [ht] at hP1
  obtain ⟨hP, hD⟩ := va_join (wr := [(ac, .inr (0, [.int 2, .int 0, .ref a2, .ref a3, .ref a4, .ref a5, .ref a6, .ref a7])), (a2, .inl (cI, 28, .inl (upd f2 20 0))), (a3, .inl (cI, 28, .inl (upd f3 20 2))), (a4, .inl (cJ, 28, .inr (.inl (vp_updL f4 20 1152921504606846976)))), (a5, .inl (cJ, 28, .inr (.inl (vp_updL f5 20 1)))), (a6, .inl (cJ, 28, .inr (.inl (vp_updL f6 20 0)))), (a7, .inl (cI, 28, .inl (upd f7 20 2)))]) (w1 := [(n, .inr (5, [.int 2, .int 0, .int 0, .ref n3, .ref n4, .ref n5, .ref n6, .ref n7, .ref n8, .ref n9])), (n3, .inl (cI, 8, .inl (fun _ => 0)))]) hP hD [0, 1] [2, 3, 4, 5, 6, 7, 8] rfl rfl (by decide +kernel) (by decide +kernel) hk1 hFc hP1 hD1
  clear hPc hDc hFc hk1 hz1
  generalize H1 = H at hP hS ⊢
  have hP : va_P (dC, dI) pf_cls [(ac, .inr (0, [.int 2, .int 0, .ref a2, .ref a3, .ref a4, .ref a5, .ref a6, .ref a7])), (a2, .inl (cI, 28, .inl (upd f2 20 0))), (a3, .inl (cI, 28, .inl (upd f3 20 2))), (a4, .inl (cJ, 28, .inr (.inl (vp_updL f4 20 1152921504606846976)))), (a5, .inl (cJ, 28, .inr (.inl (vp_updL f5 20 1)))), (a6, .inl (cJ, 28, .inr (.inl (vp_updL f6 20 0)))), (a7, .inl (cI, 28, .inl (upd f7 20 2))), (n, .inr (5, [.int 2, .int 0, .int 0, .ref n3, .ref n4, .ref n5, .ref n6, .ref n7, .ref n8, .ref n9])), (n3, .inl (cI, 8, .inl (fun _ => 0)))] H := hP
  have hD : va_D A [(ac, .inr (0, [.int 2, .int 0, .ref a2, .ref a3, .ref a4, .ref a5, .ref a6, .ref a7])), (a2, .inl (cI, 28, .inl (upd f2 20 0))), (a3, .inl (cI, 28, .inl (upd f3 20 2))), (a4, .inl (cJ, 28, .inr (.inl (vp_updL f4 20 1152921504606846976)))), (a5, .inl (cJ, 28, .inr (.inl (vp_updL f5 20 1)))), (a6, .inl (cJ, 28, .inr (.inl (vp_updL f6 20 0)))), (a7, .inl (cI, 28, .inl (upd f7 20 2))), (n, .inr (5, [.int 2, .int 0, .int 0, .ref n3, .ref n4, .ref n5, .ref n6, .ref n7, .ref n8, .ref n9])), (n3, .inl (cI, 8, .inl (fun _ => 0)))] := hD
  refine lv_lconst (v := 1) hx hb dX0_load_153 (by decide +kernel) ?_
  refine lv_aload_n hx hb dX0_load_154 rfl (lv_at hl 2 rfl) ?_
  refine va_get (D := (dC, dI)) (ci := 0) (v := .int 2) (C := RX0) (T := TX0) (N := 8) hx hb hts (fun w h => List.mem_cons_of_mem _ (ic_X0 w h)) hown hK hP 0 rfl rfl 0 (by decide) (hts _ (List.mem_cons_of_mem _ mw_59)) (fun _ h9 => h9) rfl dX0_load_155 ?_
  refine lv_i2l (v := 2) hx hb dX0_load_158 (by decide +kernel) ?_
  refine lv_lload hx hb dX0_load_159 (lv_at hl 1 rfl) ?_
  refine lv_lmul hx hb dX0_load_161 ?_
  refine pf_topl (v := 0) (by decide +kernel) ?_
  refine lv_ladd hx hb dX0_load_162 ?_
  refine pf_topl (v := 1) (by decide +kernel) ?_
  have hPc := hP.sub (ws' := [(ac, .inr (0, [.int 2, .int 0, .ref a2, .ref a3, .ref a4, .ref a5, .ref a6, .ref a7])), (a2, .inl (cI, 28, .inl (upd f2 20 0))), (a3, .inl (cI, 28, .inl (upd f3 20 2))), (a4, .inl (cJ, 28, .inr (.inl (vp_updL f4 20 1152921504606846976)))), (a5, .inl (cJ, 28, .inr (.inl (vp_updL f5 20 1)))), (a6, .inl (cJ, 28, .inr (.inl (vp_updL f6 20 0)))), (a7, .inl (cI, 28, .inl (upd f7 20 2)))]) [0, 1, 2, 3, 4, 5, 6] rfl
  have hDc := hD.sub (ws' := [(ac, .inr (0, [.int 2, .int 0, .ref a2, .ref a3, .ref a4, .ref a5, .ref a6, .ref a7])), (a2, .inl (cI, 28, .inl (upd f2 20 0))), (a3, .inl (cI, 28, .inl (upd f3 20 2))), (a4, .inl (cJ, 28, .inr (.inl (vp_updL f4 20 1152921504606846976)))), (a5, .inl (cJ, 28, .inr (.inl (vp_updL f5 20 1)))), (a6, .inl (cJ, 28, .inr (.inl (vp_updL f6 20 0)))), (a7, .inl (cI, 28, .inl (upd f7 20 2)))]) [0, 1, 2, 3, 4, 5, 6] (by decide +kernel) rfl
  have hFc := va_free (wc := [(ac, .inr (0, [.int 2, .int 0, .ref a2, .ref a3, .ref a4, .ref a5, .ref a6, .ref a7])), (a2, .inl (cI, 28, .inl (upd f2 20 0))), (a3, .inl (cI, 28, .inl (upd f3 20 2))), (a4, .inl (cJ, 28, .inr (.inl (vp_updL f4 20 1152921504606846976)))), (a5, .inl (cJ, 28, .inr (.inl (vp_updL f5 20 1)))), (a6, .inl (cJ, 28, .inr (.inl (vp_updL f6 20 0)))), (a7, .inl (cI, 28, .inl (upd f7 20 2)))]) hD hS hA [0, 1, 2, 3, 4, 5, 6] rfl
  refine va_callv (va_runV (As := [.int 1, .long 0, .long 1]) (rest := []) ⟨hx, hb, hml, hown, hts⟩ (c_loadArt1 l dC dI cI cJ cZ cO H.size ac a2 a3 a4 a5 a6 a7 ((upd f2 20 0)) ((upd f3 20 2)) ((vp_updL f4 20 1152921504606846976)) ((vp_updL f5 20 1)) ((vp_updL f6 20 0)) ((upd f7 20 2))) (cwV 3 hts (pf_gV mw_66 mw_67 mw_68 mw_69 mw_70) rfl rfl rfl (by decide +kernel) ⟨Nat.le_of_ble_eq_true rfl, Nat.le_of_ble_eq_true rfl⟩) ⟨fun a U g mk q => by obtain ⟨q0, q1, qP, qK, qD⟩ := q; exact ⟨q0, q1, qP, va_K.moved (u := U) (U := U.calling g mk a) (Vm.Alike.refl U.vm) qK, qD⟩, va_recv hK hPc (ci := 0) (q0 := 0) rfl rfl, fun U hU hW => ⟨rfl, by rw [hU], by rw [hU]; exact hPc, va_K.moved hW.alike hK, hDc.weaken (fun _ _ _ _ => trivial)⟩⟩ rfl rfl hl.1 rfl (lv_room (Nat.le_of_ble_eq_true rfl)) dX0_load_163 ⟨Nat.le_of_ble_eq_true rfl, Nat.le_of_ble_eq_true rfl⟩) hS (fun q _ h => hFc q h) hFc (fun u t H1 locs ht hvm hw hB hz1 hk1 hS => ?_)
  obtain ⟨hP1, hD1⟩ := hB
  rw [ht] at hP1
  obtain ⟨hP, hD⟩ := va_join (wr := [(n, .inr (5, [.int 2, .int 0, .int 0, .ref n3, .ref n4, .ref n5, .ref n6, .ref n7, .ref n8, .ref n9])), (n3, .inl (cI, 8, .inl (fun _ => 0)))]) (w1 := [(ac, .inr (0, [.int 2, .int 0, .ref a2, .ref a3, .ref a4, .ref a5, .ref a6, .ref a7])), (a2, .inl (cI, 28, .inl (upd (upd f2 20 0) 21 1))), (a3, .inl (cI, 28, .inl (upd (upd f3 20 2) 21 2))), (a4, .inl (cJ, 28, .inr (.inl (vp_updL (vp_updL f4 20 1152921504606846976) 21 1152921504606846976)))), (a5, .inl (cJ, 28, .inr (.inl (vp_updL (vp_updL f5 20 1) 21 1)))), (a6, .inl (cJ, 28, .inr (.inl (vp_updL (vp_updL f6 20 0) 21 0)))), (a7, .inl (cI, 28, .inl (upd (upd f7 20 2) 21 2)))]) hP hD [0, 1, 2, 3, 4, 5, 6] [7, 8] rfl rfl (by decide +kernel) (by decide +kernel) hk1 hFc hP1 hD1
  clear hPc hDc hFc hk1 hz1
  generalize H1 = H at hP hS ⊢
  have hP : va_P (dC, dI) pf_cls [(n, .inr (5, [.int 2, .int 0, .int 0, .ref n3, .ref n4, .ref n5, .ref n6, .ref n7, .ref n8, .ref n9])), (n3, .inl (cI, 8, .inl (fun _ => 0))), (ac, .inr (0, [.int 2, .int 0, .ref a2, .ref a3, .ref a4, .ref a5, .ref a6, .ref a7])), (a2, .inl (cI, 28, .inl (upd (upd f2 20 0) 21 1))), (a3, .inl (cI, 28, .inl (upd (upd f3 20 2) 21 2))), (a4, .inl (cJ, 28, .inr (.inl (vp_updL (vp_updL f4 20 1152921504606846976) 21 1152921504606846976)))), (a5, .inl (cJ, 28, .inr (.inl (vp_updL (vp_updL f5 20 1) 21 1)))), (a6, .inl (cJ, 28, .inr (.inl (vp_updL (vp_updL f6 20 0) 21 0)))), (a7, .inl (cI, 28, .inl (upd (upd f7 20 2) 21 2)))] H := hP
  have hD : va_D A [(n, .inr (5, [.int 2, .int 0, .int 0, .ref n3, .ref n4, .ref n5, .ref n6, .ref n7, .ref n8, .ref n9])), (n3, .inl (cI, 8, .inl (fun _ => 0))), (ac, .inr (0, [.int 2, .int 0, .ref a2, .ref a3, .ref a4, .ref a5, .ref a6, .ref a7])), (a2, .inl (cI, 28, .inl (upd (upd f2 20 0) 21 1))), (a3, .inl (cI, 28, .inl (upd (upd f3 20 2) 21 2))), (a4, .inl (cJ, 28, .inr (.inl (vp_updL (vp_updL f4 20 1152921504606846976) 21 1152921504606846976)))), (a5, .inl (cJ, 28, .inr (.inl (vp_updL (vp_updL f5 20 1) 21 1)))), (a6, .inl (cJ, 28, .inr (.inl (vp_updL (vp_updL f6 20 0) 21 0)))), (a7, .inl (cI, 28, .inl (upd (upd f7 20 2) 21 2)))] := hD
  refine lv_iinc (v := 2) (lv' := [(8, .int 2), (6, .long 0), (0, .ref ac), (1, .ref n), (2, .long pp), (4, .long q)]) hx hb dX0_load_166 hl (k := 0) rfl (by decide +kernel) (by decide) rfl (fun ls hl => ?_)
  refine lv_goto (tgt := 132) hx hb dX0_load_169 (by decide) ?_
  refine lv_iload hx hb dX0_load_132 (lv_at hl 0 rfl) ?_
  refine lv_aload_n hx hb dX0_load_134 rfl (lv_at hl 2 rfl) ?_
  refine va_get (D := (dC, dI)) (ci := 0) (v := .int 2) (C := RX0) (T := TX0) (N := 8) hx hb hts (fun w h => List.mem_cons_of_mem _ (ic_X0 w h)) hown hK hP 2 rfl rfl 0 (by decide) (hts _ (List.mem_cons_of_mem _ mw_59)) (fun _ h9 => h9) rfl dX0_load_135 ?_
  refine lv_icmp_ge (tgt := 172) hx hb dX0_load_138 (by decide) (fun _ => ?_) (fun c7 => absurd (by decide +kernel) c7)
  have hP9 := hP.sub (ws' := [(ac, .inr (0, [.int 2, .int 0, .ref a2, .ref a3, .ref a4, .ref a5, .ref a6, .ref a7])), (n, .inr (5, [.int 2, .int 0, .int 0, .ref n3, .ref n4, .ref n5, .ref n6, .ref n7, .ref n8, .ref n9])), (n3, .inl (cI, 8, .inl (fun _ => 0))), (a2, .inl (cI, 28, .inl (upd (upd f2 20 0) 21 1))), (a3, .inl (cI, 28, .inl (upd (upd f3 20 2) 21 2))), (a4, .inl (cJ, 28, .inr (.inl (vp_updL (vp_updL f4 20 1152921504606846976) 21 1152921504606846976)))), (a5, .inl (cJ, 28, .inr (.inl (vp_updL (vp_updL f5 20 1) 21 1)))), (a6, .inl (cJ, 28, .inr (.inl (vp_updL (vp_updL f6 20 0) 21 0)))), (a7, .inl (cI, 28, .inl (upd (upd f7 20 2) 21 2)))]) [2, 0, 1, 3, 4, 5, 6, 7, 8] rfl
  have hD9 := hD.sub (ws' := [(ac, .inr (0, [.int 2, .int 0, .ref a2, .ref a3, .ref a4, .ref a5, .ref a6, .ref a7])), (n, .inr (5, [.int 2, .int 0, .int 0, .ref n3, .ref n4, .ref n5, .ref n6, .ref n7, .ref n8, .ref n9])), (n3, .inl (cI, 8, .inl (fun _ => 0))), (a2, .inl (cI, 28, .inl (upd (upd f2 20 0) 21 1))), (a3, .inl (cI, 28, .inl (upd (upd f3 20 2) 21 2))), (a4, .inl (cJ, 28, .inr (.inl (vp_updL (vp_updL f4 20 1152921504606846976) 21 1152921504606846976)))), (a5, .inl (cJ, 28, .inr (.inl (vp_updL (vp_updL f5 20 1) 21 1)))), (a6, .inl (cJ, 28, .inr (.inl (vp_updL (vp_updL f6 20 0) 21 0)))), (a7, .inl (cI, 28, .inl (upd (upd f7 20 2) 21 2)))]) [2, 0, 1, 3, 4, 5, 6, 7, 8] (by decide +kernel) rfl
  refine W.widen (k := 0) (n := 0) (Nat.le_of_ble_eq_true rfl) (Nat.le_of_ble_eq_true rfl) ?_
  exact W.vret hx hb hr (fun t ht hW => ⟨⟨(), rfl, trivial, (by rw [ht]; exact hP9), hD9⟩, hS.F ht⟩) hS.2.2 dX0_load_172
set_option maxHeartbeats 40000000 in
set_option maxRecDepth 100000 in
theorem c_hasArt (l : Launch) (dC : Nat → ClassId) (dI : Nat → Nat → Nat) (cI cJ cZ cO : ClassId) (sz : Nat) (ac : Nat) (a2 : Nat) (a3 : Nat) (a4 : Nat) (a5 : Nat) (a6 : Nat) (a7 : Nat) (f6 : Nat → Int64)  : Met l yX0_hasArtificialFlow (Cond.code yX0_hasArtificialFlow cX0_hasArtificialFlow 2 (some .boolean) :: pf_W) ({ frames := 0, cells := 0, slots := 0, locals := 0 }) (va_Pc [.ref ac] (fun U => U.heap.size = sz ∧ va_P (dC, dI) pf_cls [(ac, .inr (0, [.int 2, .int 0, .ref a2, .ref a3, .ref a4, .ref a5, .ref a6, .ref a7])), (a6, .inl (cJ, 28, .inr (.inl (vp_updL (vp_updL f6 20 0) 21 0))))] U.heap ∧ va_K (dC, dI) pf_cls (pf_ty cI cJ cZ cO) U ∧ va_D (fun _ => True) [(ac, .inr (0, [.int 2, .int 0, .ref a2, .ref a3, .ref a4, .ref a5, .ref a6, .ref a7])), (a6, .inl (cJ, 28, .inr (.inl (vp_updL (vp_updL f6 20 0) 21 0))))])) (va_Qi (fun (r : Int32) (_ : Unit) => r = 0) (fun (_ : Unit) (t : State) => va_P (dC, dI) pf_cls [(ac, .inr (0, [.int 2, .int 0, .ref a2, .ref a3, .ref a4, .ref a5, .ref a6, .ref a7])), (a6, .inl (cJ, 28, .inr (.inl (vp_updL (vp_updL f6 20 0) 21 0))))] t.heap ∧ va_D (va_A [(ac, .inr (0, [.int 2, .int 0, .ref a2, .ref a3, .ref a4, .ref a5, .ref a6, .ref a7])), (a6, .inl (cJ, 28, .inr (.inl (vp_updL (vp_updL f6 20 0) 21 0))))] sz) [(ac, .inr (0, [.int 2, .int 0, .ref a2, .ref a3, .ref a4, .ref a5, .ref a6, .ref a7])), (a6, .inl (cJ, 28, .inr (.inl (vp_updL (vp_updL f6 20 0) 21 0))))]) (va_A [(ac, .inr (0, [.int 2, .int 0, .ref a2, .ref a3, .ref a4, .ref a5, .ref a6, .ref a7])), (a6, .inl (cJ, 28, .inr (.inl (vp_updL (vp_updL f6 20 0) 21 0))))] sz)) 0 0 (va_A [(ac, .inr (0, [.int 2, .int 0, .ref a2, .ref a3, .ref a4, .ref a5, .ref a6, .ref a7])), (a6, .inl (cJ, 28, .inr (.inl (vp_updL (vp_updL f6 20 0) 21 0))))] sz) := by
  refine Met.ofW (cc := cX0_hasArtificialFlow) (maxL := 2) (ret := (some .boolean)) (by decide) rfl ?_
  intro p e s m args below meth c s₁ B hml hv
  obtain ⟨rfl, hsz, hP, hK, hD0⟩ := hv
  have hx := B.exec
  have hb := B.bytes
  have hr := B.returns
  have hts := atoms_spec (ws := Cond.code yX0_hasArtificialFlow cX0_hasArtificialFlow 2 (some .boolean) :: pf_W) B.pre
  have hown : s.vm.findClass RX0 = some m.cls := findClass_of_methodNamed B.named
  have hlocks := B.notSynchronized
  subst hsz
  have hD := hD0.self (sz := s.heap.size)
  generalize hAe : va_A [(ac, .inr (0, [.int 2, .int 0, .ref a2, .ref a3, .ref a4, .ref a5, .ref a6, .ref a7])), (a6, .inl (cJ, 28, .inr (.inl (vp_updL (vp_updL f6 20 0) 21 0))))] s.heap.size = A at hD ⊢
  have hA : ∀ q : Nat, s.heap.size ≤ q → A q := fun q h => by rw [← hAe]; exact Or.inr h
  have hS : va_S A s.heap s.heap [] := va_S.rf
  have hP : va_P (dC, dI) pf_cls [(ac, .inr (0, [.int 2, .int 0, .ref a2, .ref a3, .ref a4, .ref a5, .ref a6, .ref a7])), (a6, .inl (cJ, 28, .inr (.inl (vp_updL (vp_updL f6 20 0) 21 0))))] s.heap := hP
  have hl := lv_entry ([.ref ac]) (n := 2) (Nat.le_of_ble_eq_true rfl)
  rw [lg_entry_eq]
  generalize (lg_sl ([.ref ac]) ++ List.replicate (2 - (lg_sl ([.ref ac])).length) Slot.unset).toArray = ls at hl ⊢
  have hl : lv_has ls 2 [(0, .ref ac)] := hl
  refine lv_iconst (v := 0) hx hb dX0_hasArtificialFlow_0 (by decide) ?_
  refine lv_istore_n (lv' := [(1, .int 0), (0, .ref ac)]) hx hb dX0_hasArtificialFlow_1 rfl hl (by decide) rfl (fun ls hl => ?_)
  refine lv_iload_n hx hb dX0_hasArtificialFlow_2 rfl (lv_at hl 0 rfl) ?_
  refine lv_aload_n hx hb dX0_hasArtificialFlow_3 rfl (lv_at hl 1 rfl) ?_
  refine va_get (D := (dC, dI)) (ci := 0) (v := .int 2) (C := RX0) (T := TX0) (N := 8) hx hb hts (fun w h => List.mem_cons_of_mem _ (ic_X0 w h)) hown hK hP 0 rfl rfl 0 (by decide) (hts _ (List.mem_cons_of_mem _ mw_59)) (fun _ h9 => h9) rfl dX0_hasArtificialFlow_4 ?_
  refine lv_icmp_ge (tgt := 32) hx hb dX0_hasArtificialFlow_7 (by decide) (fun c0 => absurd c0 (by decide +kernel)) (fun _ => ?_)
  refine lv_aload_n hx hb dX0_hasArtificialFlow_10 rfl (lv_at hl 1 rfl) ?_
  refine va_get (D := (dC, dI)) (ci := 0) (v := .ref a6) (C := RX0) (T := TX0) (N := 8) hx hb hts (fun w h => List.mem_cons_of_mem _ (ic_X0 w h)) hown hK hP 0 rfl rfl 6 (by decide) (hts _ (List.mem_cons_of_mem _ mw_26)) (fun _ h9 => h9) rfl dX0_hasArtificialFlow_11 ?_
  refine lv_bipush (v := 20) hx hb dX0_hasArtificialFlow_14 (by decide +kernel) ?_
  refine lv_iload_n hx hb dX0_hasArtificialFlow_16 rfl (lv_at hl 0 rfl) ?_
  refine lv_iadd hx hb dX0_hasArtificialFlow_17 ?_
  refine pf_topi (v := 20) (by decide +kernel) ?_
  refine pf_lald (v := 0) hx hb hK hP 1 1 20 rfl rfl (by decide +kernel) (by decide +kernel) (by decide) rfl dX0_hasArtificialFlow_18 ?_
  refine lv_lconst (v := 0) hx hb dX0_hasArtificialFlow_19 (by decide +kernel) ?_
  refine W.lcmp hx hb dX0_hasArtificialFlow_20 ?_
  refine pf_topi (v := 0) (by decide +kernel) ?_
  refine lv_if_le (tgt := 26) hx hb dX0_hasArtificialFlow_21 (by decide) (fun _ => ?_) (fun c1 => absurd (by decide +kernel) c1)
  refine lv_iinc (v := 1) (lv' := [(1, .int 1), (0, .ref ac)]) hx hb dX0_hasArtificialFlow_26 hl (k := 0) rfl (by decide +kernel) (by decide) rfl (fun ls hl => ?_)
  refine lv_goto (tgt := 2) hx hb dX0_hasArtificialFlow_29 (by decide) ?_
  refine lv_iload_n hx hb dX0_hasArtificialFlow_2 rfl (lv_at hl 0 rfl) ?_
  refine lv_aload_n hx hb dX0_hasArtificialFlow_3 rfl (lv_at hl 1 rfl) ?_
  refine va_get (D := (dC, dI)) (ci := 0) (v := .int 2) (C := RX0) (T := TX0) (N := 8) hx hb hts (fun w h => List.mem_cons_of_mem _ (ic_X0 w h)) hown hK hP 0 rfl rfl 0 (by decide) (hts _ (List.mem_cons_of_mem _ mw_59)) (fun _ h9 => h9) rfl dX0_hasArtificialFlow_4 ?_
  refine lv_icmp_ge (tgt := 32) hx hb dX0_hasArtificialFlow_7 (by decide) (fun c2 => absurd c2 (by decide +kernel)) (fun _ => ?_)
  refine lv_aload_n hx hb dX0_hasArtificialFlow_10 rfl (lv_at hl 1 rfl) ?_
  refine va_get (D := (dC, dI)) (ci := 0) (v := .ref a6) (C := RX0) (T := TX0) (N := 8) hx hb hts (fun w h => List.mem_cons_of_mem _ (ic_X0 w h)) hown hK hP 0 rfl rfl 6 (by decide) (hts _ (List.mem_cons_of_mem _ mw_26)) (fun _ h9 => h9) rfl dX0_hasArtificialFlow_11 ?_
  refine lv_bipush (v := 20) hx hb dX0_hasArtificialFlow_14 (by decide +kernel) ?_
  refine lv_iload_n hx hb dX0_hasArtificialFlow_16 rfl (lv_at hl 0 rfl) ?_
  refine lv_iadd hx hb dX0_hasArtificialFlow_17 ?_
  refine pf_topi (v := 21) (by decide +kernel) ?_
  refine pf_lald (v := 0) hx hb hK hP 1 1 21 rfl rfl (by decide +kernel) (by decide +kernel) (by decide) rfl dX0_hasArtificialFlow_18 ?_
  refine lv_lconst (v := 0) hx hb dX0_hasArtificialFlow_19 (by decide +kernel) ?_
  refine W.lcmp hx hb dX0_hasArtificialFlow_20 ?_
  refine pf_topi (v := 0) (by decide +kernel) ?_
  refine lv_if_le (tgt := 26) hx hb dX0_hasArtificialFlow_21 (by decide) (fun _ => ?_) (fun c3 => absurd (by decide +kernel) c3)
  refine lv_iinc (v := 2) (lv' := [(1, .int 2), (0, .ref ac)]) hx hb dX0_hasArtificialFlow_26 hl (k := 0) rfl (by decide +kernel) (by decide) rfl (fun ls hl => ?_)
  refine lv_goto (tgt := 2) hx hb dX0_hasArtificialFlow_29 (by decide) ?_
  refine lv_iload_n hx hb dX0_hasArtificialFlow_2 rfl (lv_at hl 0 rfl) ?_
  refine lv_aload_n hx hb dX0_hasArtificialFlow_3 rfl (lv_at hl 1 rfl) ?_
  refine va_get (D := (dC, dI)) (ci := 0) (v := .int 2) (C := RX0) (T := TX0) (N := 8) hx hb hts (fun w h => List.mem_cons_of_mem _ (ic_X0 w h)) hown hK hP 0 rfl rfl 0 (by decide) (hts _ (List.mem_cons_of_mem _ mw_59)) (fun _ h9 => h9) rfl dX0_hasArtificialFlow_4 ?_
  refine lv_icmp_ge (tgt := 32) hx hb dX0_hasArtificialFlow_7 (by decide) (fun _ => ?_) (fun c4 => absurd (by decide +kernel) c4)
  refine lv_iconst (v := 0) hx hb dX0_hasArtificialFlow_32 (by decide) ?_
  have hP9 := hP.sub (ws' := [(ac, .inr (0, [.int 2, .int 0, .ref a2, .ref a3, .ref a4, .ref a5, .ref a6, .ref a7])), (a6, .inl (cJ, 28, .inr (.inl (vp_updL (vp_updL f6 20 0) 21 0))))]) [0, 1] rfl
  have hD9 := hD.sub (ws' := [(ac, .inr (0, [.int 2, .int 0, .ref a2, .ref a3, .ref a4, .ref a5, .ref a6, .ref a7])), (a6, .inl (cJ, 28, .inr (.inl (vp_updL (vp_updL f6 20 0) 21 0))))]) [0, 1] (by decide +kernel) rfl
  refine W.widen (k := 0) (n := 0) (Nat.le_of_ble_eq_true rfl) (Nat.le_of_ble_eq_true rfl) ?_
  exact W.zret (v := 0) hx hb hr rfl (fun t ht hW => ⟨⟨_, (), rfl, rfl, (by rw [ht]; exact hP9), hD9⟩, hS.F ht⟩) hS.2.2 dX0_hasArtificialFlow_33
set_option maxHeartbeats 40000000 in
set_option maxRecDepth 100000 in
theorem c_totalCost (l : Launch) (dC : Nat → ClassId) (dI : Nat → Nat → Nat) (cI cJ cZ cO : ClassId) (sz : Nat) (ac : Nat) (k0 : Int32) (a2 : Nat) (a3 : Nat) (a4 : Nat) (a5 : Nat) (a6 : Nat) (a7 : Nat)  : Met l yX0_totalCost (Cond.code yX0_totalCost cX0_totalCost 4 (some .long) :: pf_W) ({ frames := 0, cells := 0, slots := 0, locals := 0 }) (va_Pc [.ref ac] (fun U => U.heap.size = sz ∧ va_P (dC, dI) pf_cls [(ac, .inr (0, [.int k0, .int 0, .ref a2, .ref a3, .ref a4, .ref a5, .ref a6, .ref a7]))] U.heap ∧ va_K (dC, dI) pf_cls (pf_ty cI cJ cZ cO) U ∧ va_D (fun _ => True) [(ac, .inr (0, [.int k0, .int 0, .ref a2, .ref a3, .ref a4, .ref a5, .ref a6, .ref a7]))])) (va_Ql (fun (r : Int64) (_ : Unit) => r = 0) (fun (_ : Unit) (t : State) => va_P (dC, dI) pf_cls [(ac, .inr (0, [.int k0, .int 0, .ref a2, .ref a3, .ref a4, .ref a5, .ref a6, .ref a7]))] t.heap ∧ va_D (va_A [(ac, .inr (0, [.int k0, .int 0, .ref a2, .ref a3, .ref a4, .ref a5, .ref a6, .ref a7]))] sz) [(ac, .inr (0, [.int k0, .int 0, .ref a2, .ref a3, .ref a4, .ref a5, .ref a6, .ref a7]))]) (va_A [(ac, .inr (0, [.int k0, .int 0, .ref a2, .ref a3, .ref a4, .ref a5, .ref a6, .ref a7]))] sz)) 0 0 (va_A [(ac, .inr (0, [.int k0, .int 0, .ref a2, .ref a3, .ref a4, .ref a5, .ref a6, .ref a7]))] sz) := by
  refine Met.ofW (cc := cX0_totalCost) (maxL := 4) (ret := (some .long)) (by decide) rfl ?_
  intro p e s m args below meth c s₁ B hml hv
  obtain ⟨rfl, hsz, hP, hK, hD0⟩ := hv
  have hx := B.exec
  have hb := B.bytes
  have hr := B.returns
  have hts := atoms_spec (ws := Cond.code yX0_totalCost cX0_totalCost 4 (some .long) :: pf_W) B.pre
  have hown : s.vm.findClass RX0 = some m.cls := findClass_of_methodNamed B.named
  have hlocks := B.notSynchronized
  subst hsz
  have hD := hD0.self (sz := s.heap.size)
  generalize hAe : va_A [(ac, .inr (0, [.int k0, .int 0, .ref a2, .ref a3, .ref a4, .ref a5, .ref a6, .ref a7]))] s.heap.size = A at hD ⊢
  have hA : ∀ q : Nat, s.heap.size ≤ q → A q := fun q h => by rw [← hAe]; exact Or.inr h
  have hS : va_S A s.heap s.heap [] := va_S.rf
  have hP : va_P (dC, dI) pf_cls [(ac, .inr (0, [.int k0, .int 0, .ref a2, .ref a3, .ref a4, .ref a5, .ref a6, .ref a7]))] s.heap := hP
  have hl := lv_entry ([.ref ac]) (n := 4) (Nat.le_of_ble_eq_true rfl)
  rw [lg_entry_eq]
  generalize (lg_sl ([.ref ac]) ++ List.replicate (4 - (lg_sl ([.ref ac])).length) Slot.unset).toArray = ls at hl ⊢
  have hl : lv_has ls 4 [(0, .ref ac)] := hl
  refine lv_lconst (v := 0) hx hb dX0_totalCost_0 (by decide +kernel) ?_
  refine lv_lstore_n (lv' := [(1, .long 0), (0, .ref ac)]) hx hb dX0_totalCost_1 rfl hl (by decide) rfl (fun ls hl => ?_)
  refine lv_iconst (v := 0) hx hb dX0_totalCost_2 (by decide) ?_
  refine lv_istore_n (lv' := [(3, .int 0), (1, .long 0), (0, .ref ac)]) hx hb dX0_totalCost_3 rfl hl (by decide) rfl (fun ls hl => ?_)
  refine lv_iload_n hx hb dX0_totalCost_4 rfl (lv_at hl 0 rfl) ?_
  refine lv_aload_n hx hb dX0_totalCost_5 rfl (lv_at hl 2 rfl) ?_
  refine va_get (D := (dC, dI)) (ci := 0) (v := .int 0) (C := RX0) (T := TX0) (N := 8) hx hb hts (fun w h => List.mem_cons_of_mem _ (ic_X0 w h)) hown hK hP 0 rfl rfl 1 (by decide) (hts _ (List.mem_cons_of_mem _ mw_64)) (fun _ h9 => h9) rfl dX0_totalCost_6 ?_
  refine lv_icmp_ge (tgt := 34) hx hb dX0_totalCost_9 (by decide) (fun _ => ?_) (fun c0 => absurd (by decide +kernel) c0)
  refine lv_lload_n hx hb dX0_totalCost_34 rfl (lv_at hl 1 rfl) ?_
  have hP9 := hP.sub (ws' := [(ac, .inr (0, [.int k0, .int 0, .ref a2, .ref a3, .ref a4, .ref a5, .ref a6, .ref a7]))]) [0] rfl
  have hD9 := hD.sub (ws' := [(ac, .inr (0, [.int k0, .int 0, .ref a2, .ref a3, .ref a4, .ref a5, .ref a6, .ref a7]))]) [0] (by decide +kernel) rfl
  refine W.widen (k := 0) (n := 0) (Nat.le_of_ble_eq_true rfl) (Nat.le_of_ble_eq_true rfl) ?_
  exact W.lret (v := 0) hx hb hr (fun t ht hW => ⟨⟨_, (), rfl, rfl, (by rw [ht]; exact hP9), hD9⟩, hS.F ht⟩) hS.2.2 dX0_totalCost_35
set_option maxHeartbeats 40000000 in
set_option maxRecDepth 100000 in
theorem c_plant (l : Launch) (dC : Nat → ClassId) (dI : Nat → Nat → Nat) (cI cJ cZ cO : ClassId) (sz : Nat) (tr : Nat) (ac : Nat) (k0 : Int32) (b1 : Nat) (b2 : Nat) (b3 : Nat) (b4 : Nat) (b5 : Nat) (b6 : Nat) (b7 : Nat) (a2 : Nat) (a3 : Nat) (a4 : Nat) (a5 : Nat) (a6 : Nat) (a7 : Nat) (g1 : Nat → Int32) (g2 : Nat → Int32) (g3 : Nat → Int32) (g4 : Nat → Int64)  : Met l yX8_plant (Cond.code yX8_plant cX8_plant 3 none :: pf_W) ({ frames := 0, cells := 0, slots := 0, locals := 0 }) (va_Pc [.ref tr, .ref ac] (fun U => U.heap.size = sz ∧ va_P (dC, dI) pf_cls [(tr, .inr (8, [.int k0, .ref b1, .ref b2, .ref b3, .ref b4, .ref b5, .ref b6, .ref b7])), (ac, .inr (0, [.int 2, .int 0, .ref a2, .ref a3, .ref a4, .ref a5, .ref a6, .ref a7])), (b1, .inl (cI, 9, .inl g1)), (b2, .inl (cI, 9, .inl g2)), (b3, .inl (cI, 9, .inl g3)), (b4, .inl (cJ, 9, .inr (.inl g4)))] U.heap ∧ va_K (dC, dI) pf_cls (pf_ty cI cJ cZ cO) U ∧ va_D (fun _ => True) [(tr, .inr (8, [.int k0, .ref b1, .ref b2, .ref b3, .ref b4, .ref b5, .ref b6, .ref b7])), (ac, .inr (0, [.int 2, .int 0, .ref a2, .ref a3, .ref a4, .ref a5, .ref a6, .ref a7])), (b1, .inl (cI, 9, .inl g1)), (b2, .inl (cI, 9, .inl g2)), (b3, .inl (cI, 9, .inl g3)), (b4, .inl (cJ, 9, .inr (.inl g4)))])) (va_Qv (fun (_ : Unit) => True) (fun (_ : Unit) (t : State) => va_P (dC, dI) pf_cls [(tr, .inr (8, [.int 2, .ref b1, .ref b2, .ref b3, .ref b4, .ref b5, .ref b6, .ref b7])), (ac, .inr (0, [.int 2, .int 0, .ref a2, .ref a3, .ref a4, .ref a5, .ref a6, .ref a7])), (b1, .inl (cI, 9, .inl (upd (upd (upd g1 2 2) 0 2) 1 2))), (b2, .inl (cI, 9, .inl (upd (upd g2 0 20) 1 21))), (b3, .inl (cI, 9, .inl (upd g3 2 0))), (b4, .inl (cJ, 9, .inr (.inl (vp_updL g4 2 0))))] t.heap ∧ va_D (va_A [(tr, .inr (8, [.int k0, .ref b1, .ref b2, .ref b3, .ref b4, .ref b5, .ref b6, .ref b7])), (ac, .inr (0, [.int 2, .int 0, .ref a2, .ref a3, .ref a4, .ref a5, .ref a6, .ref a7])), (b1, .inl (cI, 9, .inl g1)), (b2, .inl (cI, 9, .inl g2)), (b3, .inl (cI, 9, .inl g3)), (b4, .inl (cJ, 9, .inr (.inl g4)))] sz) [(tr, .inr (8, [.int 2, .ref b1, .ref b2, .ref b3, .ref b4, .ref b5, .ref b6, .ref b7])), (ac, .inr (0, [.int 2, .int 0, .ref a2, .ref a3, .ref a4, .ref a5, .ref a6, .ref a7])), (b1, .inl (cI, 9, .inl (upd (upd (upd g1 2 2) 0 2) 1 2))), (b2, .inl (cI, 9, .inl (upd (upd g2 0 20) 1 21))), (b3, .inl (cI, 9, .inl (upd g3 2 0))), (b4, .inl (cJ, 9, .inr (.inl (vp_updL g4 2 0))))]) (va_A [(tr, .inr (8, [.int k0, .ref b1, .ref b2, .ref b3, .ref b4, .ref b5, .ref b6, .ref b7])), (ac, .inr (0, [.int 2, .int 0, .ref a2, .ref a3, .ref a4, .ref a5, .ref a6, .ref a7])), (b1, .inl (cI, 9, .inl g1)), (b2, .inl (cI, 9, .inl g2)), (b3, .inl (cI, 9, .inl g3)), (b4, .inl (cJ, 9, .inr (.inl g4)))] sz)) 0 0 (va_A [(tr, .inr (8, [.int k0, .ref b1, .ref b2, .ref b3, .ref b4, .ref b5, .ref b6, .ref b7])), (ac, .inr (0, [.int 2, .int 0, .ref a2, .ref a3, .ref a4, .ref a5, .ref a6, .ref a7])), (b1, .inl (cI, 9, .inl g1)), (b2, .inl (cI, 9, .inl g2)), (b3, .inl (cI, 9, .inl g3)), (b4, .inl (cJ, 9, .inr (.inl g4)))] sz) := by
  refine Met.ofW (cc := cX8_plant) (maxL := 3) (ret := none) (by decide) rfl ?_
  intro p e s m args below meth c s₁ B hml hv
  obtain ⟨rfl, hsz, hP, hK, hD0⟩ := hv
  have hx := B.exec
  have hb := B.bytes
  have hr := B.returns
  have hts := atoms_spec (ws := Cond.code yX8_plant cX8_plant 3 none :: pf_W) B.pre
  have hown : s.vm.findClass RX8 = some m.cls := findClass_of_methodNamed B.named
  have hlocks := B.notSynchronized
  subst hsz
  have hD := hD0.self (sz := s.heap.size)
  generalize hAe : va_A [(tr, .inr (8, [.int k0, .ref b1, .ref b2, .ref b3, .ref b4, .ref b5, .ref b6, .ref b7])), (ac, .inr (0, [.int 2, .int 0, .ref a2, .ref a3, .ref a4, .ref a5, .ref a6, .ref a7])), (b1, .inl (cI, 9, .inl g1)), (b2, .inl (cI, 9, .inl g2)), (b3, .inl (cI, 9, .inl g3)), (b4, .inl (cJ, 9, .inr (.inl g4)))] s.heap.size = A at hD ⊢
  have hA : ∀ q : Nat, s.heap.size ≤ q → A q := fun q h => by rw [← hAe]; exact Or.inr h
  have hS : va_S A s.heap s.heap [] := va_S.rf
  have hP : va_P (dC, dI) pf_cls [(tr, .inr (8, [.int k0, .ref b1, .ref b2, .ref b3, .ref b4, .ref b5, .ref b6, .ref b7])), (ac, .inr (0, [.int 2, .int 0, .ref a2, .ref a3, .ref a4, .ref a5, .ref a6, .ref a7])), (b1, .inl (cI, 9, .inl g1)), (b2, .inl (cI, 9, .inl g2)), (b3, .inl (cI, 9, .inl g3)), (b4, .inl (cJ, 9, .inr (.inl g4)))] s.heap := hP
  have hl := lv_entry ([.ref tr, .ref ac]) (n := 3) (Nat.le_of_ble_eq_true rfl)
  rw [lg_entry_eq]
  generalize (lg_sl ([.ref tr, .ref ac]) ++ List.replicate (3 - (lg_sl ([.ref tr, .ref ac])).length) Slot.unset).toArray = ls at hl ⊢
  have hl : lv_has ls 3 [(0, .ref tr), (1, .ref ac)] := hl
  refine lv_aload_n hx hb dX8_plant_0 rfl (lv_at hl 0 rfl) ?_
  refine lv_aload_n hx hb dX8_plant_1 rfl (lv_at hl 1 rfl) ?_
  refine va_get (D := (dC, dI)) (ci := 0) (v := .int 2) (C := RX0) (T := TX0) (N := 8) hx hb hts (fun w h => List.mem_cons_of_mem _ (ic_X0 w h)) hown hK hP 1 rfl rfl 0 (by decide) (hts _ (List.mem_cons_of_mem _ mw_71)) (fun _ h9 => h9) rfl dX8_plant_2 ?_
  refine va_put (D := (dC, dI)) (ci := 8) (v := .int 2) (ty := .int) (C := RX8) (T := TX8) (N := 8) hx hb hts (fun w h => List.mem_cons_of_mem _ (ic_X8 w h)) tyX8 tyX8_ok nmX8 hown hK hP hD hS 0 rfl rfl 0 (by decide) (hts _ (List.mem_cons_of_mem _ mw_72)) (fun _ h9 => h9) rfl (by decide +kernel) rfl rfl (Nat.le_of_ble_eq_true rfl) dX8_plant_5 (fun H locs hP hD hS => ?_)
  have hP : va_P (dC, dI) pf_cls [(tr, .inr (8, [.int 2, .ref b1, .ref b2, .ref b3, .ref b4, .ref b5, .ref b6, .ref b7])), (ac, .inr (0, [.int 2, .int 0, .ref a2, .ref a3, .ref a4, .ref a5, .ref a6, .ref a7])), (b1, .inl (cI, 9, .inl g1)), (b2, .inl (cI, 9, .inl g2)), (b3, .inl (cI, 9, .inl g3)), (b4, .inl (cJ, 9, .inr (.inl g4)))] H := hP
  have hD : va_D A [(tr, .inr (8, [.int 2, .ref b1, .ref b2, .ref b3, .ref b4, .ref b5, .ref b6, .ref b7])), (ac, .inr (0, [.int 2, .int 0, .ref a2, .ref a3, .ref a4, .ref a5, .ref a6, .ref a7])), (b1, .inl (cI, 9, .inl g1)), (b2, .inl (cI, 9, .inl g2)), (b3, .inl (cI, 9, .inl g3)), (b4, .inl (cJ, 9, .inr (.inl g4)))] := hD
  refine lv_aload_n hx hb dX8_plant_8 rfl (lv_at hl 0 rfl) ?_
  refine va_get (D := (dC, dI)) (ci := 8) (v := .ref b1) (C := RX8) (T := TX8) (N := 8) hx hb hts (fun w h => List.mem_cons_of_mem _ (ic_X8 w h)) hown hK hP 0 rfl rfl 1 (by decide) (hts _ (List.mem_cons_of_mem _ mw_14)) (fun _ h9 => h9) rfl dX8_plant_9 ?_
  refine lv_aload_n hx hb dX8_plant_12 rfl (lv_at hl 0 rfl) ?_
  refine va_get (D := (dC, dI)) (ci := 8) (v := .int 2) (C := RX8) (T := TX8) (N := 8) hx hb hts (fun w h => List.mem_cons_of_mem _ (ic_X8 w h)) hown hK hP 0 rfl rfl 0 (by decide) (hts _ (List.mem_cons_of_mem _ mw_72)) (fun _ h9 => h9) rfl dX8_plant_13 ?_
  refine lv_aload_n hx hb dX8_plant_16 rfl (lv_at hl 0 rfl) ?_
  refine va_get (D := (dC, dI)) (ci := 8) (v := .int 2) (C := RX8) (T := TX8) (N := 8) hx hb hts (fun w h => List.mem_cons_of_mem _ (ic_X8 w h)) hown hK hP 0 rfl rfl 0 (by decide) (hts _ (List.mem_cons_of_mem _ mw_72)) (fun _ h9 => h9) rfl dX8_plant_17 ?_
  refine pf_iast hx hb hK hP hD hS 2 0 2 rfl rfl (by decide +kernel) (by decide +kernel) (by decide) dX8_plant_20 (fun H locs hP hD hS => ?_)
  have hP : va_P (dC, dI) pf_cls [(tr, .inr (8, [.int 2, .ref b1, .ref b2, .ref b3, .ref b4, .ref b5, .ref b6, .ref b7])), (ac, .inr (0, [.int 2, .int 0, .ref a2, .ref a3, .ref a4, .ref a5, .ref a6, .ref a7])), (b1, .inl (cI, 9, .inl (upd g1 2 2))), (b2, .inl (cI, 9, .inl g2)), (b3, .inl (cI, 9, .inl g3)), (b4, .inl (cJ, 9, .inr (.inl g4)))] H := hP
  have hD : va_D A [(tr, .inr (8, [.int 2, .ref b1, .ref b2, .ref b3, .ref b4, .ref b5, .ref b6, .ref b7])), (ac, .inr (0, [.int 2, .int 0, .ref a2, .ref a3, .ref a4, .ref a5, .ref a6, .ref a7])), (b1, .inl (cI, 9, .inl (upd g1 2 2))), (b2, .inl (cI, 9, .inl g2)), (b3, .inl (cI, 9, .inl g3)), (b4, .inl (cJ, 9, .inr (.inl g4)))] := hD
  refine lv_aload_n hx hb dX8_plant_21 rfl (lv_at hl 0 rfl) ?_
  refine va_get (D := (dC, dI)) (ci := 8) (v := .ref b3) (C := RX8) (T := TX8) (N := 8) hx hb hts (fun w h => List.mem_cons_of_mem _ (ic_X8 w h)) hown hK hP 0 rfl rfl 3 (by decide) (hts _ (List.mem_cons_of_mem _ mw_16)) (fun _ h9 => h9) rfl dX8_plant_22 ?_
  refine lv_aload_n hx hb dX8_plant_25 rfl (lv_at hl 0 rfl) ?_
  refine va_get (D := (dC, dI)) (ci := 8) (v := .int 2) (C := RX8) (T := TX8) (N := 8) hx hb hts (fun w h => List.mem_cons_of_mem _ (ic_X8 w h)) hown hK hP 0 rfl rfl 0 (by decide) (hts _ (List.mem_cons_of_mem _ mw_72)) (fun _ h9 => h9) rfl dX8_plant_26 ?_
  refine lv_iconst (v := 0) hx hb dX8_plant_29 (by decide) ?_
  refine pf_iast hx hb hK hP hD hS 4 0 2 rfl rfl (by decide +kernel) (by decide +kernel) (by decide) dX8_plant_30 (fun H locs hP hD hS => ?_)
  have hP : va_P (dC, dI) pf_cls [(tr, .inr (8, [.int 2, .ref b1, .ref b2, .ref b3, .ref b4, .ref b5, .ref b6, .ref b7])), (ac, .inr (0, [.int 2, .int 0, .ref a2, .ref a3, .ref a4, .ref a5, .ref a6, .ref a7])), (b1, .inl (cI, 9, .inl (upd g1 2 2))), (b2, .inl (cI, 9, .inl g2)), (b3, .inl (cI, 9, .inl (upd g3 2 0))), (b4, .inl (cJ, 9, .inr (.inl g4)))] H := hP
  have hD : va_D A [(tr, .inr (8, [.int 2, .ref b1, .ref b2, .ref b3, .ref b4, .ref b5, .ref b6, .ref b7])), (ac, .inr (0, [.int 2, .int 0, .ref a2, .ref a3, .ref a4, .ref a5, .ref a6, .ref a7])), (b1, .inl (cI, 9, .inl (upd g1 2 2))), (b2, .inl (cI, 9, .inl g2)), (b3, .inl (cI, 9, .inl (upd g3 2 0))), (b4, .inl (cJ, 9, .inr (.inl g4)))] := hD
  refine lv_aload_n hx hb dX8_plant_31 rfl (lv_at hl 0 rfl) ?_
  refine va_get (D := (dC, dI)) (ci := 8) (v := .ref b4) (C := RX8) (T := TX8) (N := 8) hx hb hts (fun w h => List.mem_cons_of_mem _ (ic_X8 w h)) hown hK hP 0 rfl rfl 4 (by decide) (hts _ (List.mem_cons_of_mem _ mw_17)) (fun _ h9 => h9) rfl dX8_plant_32 ?_
  refine lv_aload_n hx hb dX8_plant_35 rfl (lv_at hl 0 rfl) ?_
  refine va_get (D := (dC, dI)) (ci := 8) (v := .int 2) (C := RX8) (T := TX8) (N := 8) hx hb hts (fun w h => List.mem_cons_of_mem _ (ic_X8 w h)) hown hK hP 0 rfl rfl 0 (by decide) (hts _ (List.mem_cons_of_mem _ mw_72)) (fun _ h9 => h9) rfl dX8_plant_36 ?_
  refine lv_lconst (v := 0) hx hb dX8_plant_39 (by decide +kernel) ?_
  refine pf_last hx hb hK hP hD hS 5 1 2 rfl rfl (by decide +kernel) (by decide +kernel) (by decide) dX8_plant_40 (fun H locs hP hD hS => ?_)
  have hP : va_P (dC, dI) pf_cls [(tr, .inr (8, [.int 2, .ref b1, .ref b2, .ref b3, .ref b4, .ref b5, .ref b6, .ref b7])), (ac, .inr (0, [.int 2, .int 0, .ref a2, .ref a3, .ref a4, .ref a5, .ref a6, .ref a7])), (b1, .inl (cI, 9, .inl (upd g1 2 2))), (b2, .inl (cI, 9, .inl g2)), (b3, .inl (cI, 9, .inl (upd g3 2 0))), (b4, .inl (cJ, 9, .inr (.inl (vp_updL g4 2 0))))] H := hP
  have hD : va_D A [(tr, .inr (8, [.int 2, .ref b1, .ref b2, .ref b3, .ref b4, .ref b5, .ref b6, .ref b7])), (ac, .inr (0, [.int 2, .int 0, .ref a2, .ref a3, .ref a4, .ref a5, .ref a6, .ref a7])), (b1, .inl (cI, 9, .inl (upd g1 2 2))), (b2, .inl (cI, 9, .inl g2)), (b3, .inl (cI, 9, .inl (upd g3 2 0))), (b4, .inl (cJ, 9, .inr (.inl (vp_updL g4 2 0))))] := hD
  refine lv_iconst (v := 0) hx hb dX8_plant_41 (by decide) ?_
  refine lv_istore_n (lv' := [(2, .int 0), (0, .ref tr), (1, .ref ac)]) hx hb dX8_plant_42 rfl hl (by decide) rfl (fun ls hl => ?_)
  refine lv_iload_n hx hb dX8_plant_43 rfl (lv_at hl 0 rfl) ?_
  refine lv_aload_n hx hb dX8_plant_44 rfl (lv_at hl 1 rfl) ?_
  refine va_get (D := (dC, dI)) (ci := 8) (v := .int 2) (C := RX8) (T := TX8) (N := 8) hx hb hts (fun w h => List.mem_cons_of_mem _ (ic_X8 w h)) hown hK hP 0 rfl rfl 0 (by decide) (hts _ (List.mem_cons_of_mem _ mw_72)) (fun _ h9 => h9) rfl dX8_plant_45 ?_
  refine lv_icmp_ge (tgt := 77) hx hb dX8_plant_48 (by decide) (fun c0 => absurd c0 (by decide +kernel)) (fun _ => ?_)
  refine lv_aload_n hx hb dX8_plant_51 rfl (lv_at hl 1 rfl) ?_
  refine va_get (D := (dC, dI)) (ci := 8) (v := .ref b1) (C := RX8) (T := TX8) (N := 8) hx hb hts (fun w h => List.mem_cons_of_mem _ (ic_X8 w h)) hown hK hP 0 rfl rfl 1 (by decide) (hts _ (List.mem_cons_of_mem _ mw_14)) (fun _ h9 => h9) rfl dX8_plant_52 ?_
  refine lv_iload_n hx hb dX8_plant_55 rfl (lv_at hl 0 rfl) ?_
  refine lv_aload_n hx hb dX8_plant_56 rfl (lv_at hl 1 rfl) ?_
  refine va_get (D := (dC, dI)) (ci := 8) (v := .int 2) (C := RX8) (T := TX8) (N := 8) hx hb hts (fun w h => List.mem_cons_of_mem _ (ic_X8 w h)) hown hK hP 0 rfl rfl 0 (by decide) (hts _ (List.mem_cons_of_mem _ mw_72)) (fun _ h9 => h9) rfl dX8_plant_57 ?_
  refine pf_iast hx hb hK hP hD hS 2 0 0 rfl rfl (by decide +kernel) (by decide +kernel) (by decide) dX8_plant_60 (fun H locs hP hD hS => ?_)
  have hP : va_P (dC, dI) pf_cls [(tr, .inr (8, [.int 2, .ref b1, .ref b2, .ref b3, .ref b4, .ref b5, .ref b6, .ref b7])), (ac, .inr (0, [.int 2, .int 0, .ref a2, .ref a3, .ref a4, .ref a5, .ref a6, .ref a7])), (b1, .inl (cI, 9, .inl (upd (upd g1 2 2) 0 2))), (b2, .inl (cI, 9, .inl g2)), (b3, .inl (cI, 9, .inl (upd g3 2 0))), (b4, .inl (cJ, 9, .inr (.inl (vp_updL g4 2 0))))] H := hP
  have hD : va_D A [(tr, .inr (8, [.int 2, .ref b1, .ref b2, .ref b3, .ref b4, .ref b5, .ref b6, .ref b7])), (ac, .inr (0, [.int 2, .int 0, .ref a2, .ref a3, .ref a4, .ref a5, .ref a6, .ref a7])), (b1, .inl (cI, 9, .inl (upd (upd g1 2 2) 0 2))), (b2, .inl (cI, 9, .inl g2)), (b3, .inl (cI, 9, .inl (upd g3 2 0))), (b4, .inl (cJ, 9, .inr (.inl (vp_updL g4 2 0))))] := hD
  refine lv_aload_n hx hb dX8_plant_61 rfl (lv_at hl 1 rfl) ?_
  refine va_get (D := (dC, dI)) (ci := 8) (v := .ref b2) (C := RX8) (T := TX8) (N := 8) hx hb hts (fun w h => List.mem_cons_of_mem _ (ic_X8 w h)) hown hK hP 0 rfl rfl 2 (by decide) (hts _ (List.mem_cons_of_mem _ mw_15)) (fun _ h9 => h9) rfl dX8_plant_62 ?_
  refine lv_iload_n hx hb dX8_plant_65 rfl (lv_at hl 0 rfl) ?_
  refine lv_bipush (v := 20) hx hb dX8_plant_66 (by decide +kernel) ?_
  refine lv_iload_n hx hb dX8_plant_68 rfl (lv_at hl 0 rfl) ?_
  refine lv_iadd hx hb dX8_plant_69 ?_
  refine pf_topi (v := 20) (by decide +kernel) ?_
  refine pf_iast hx hb hK hP hD hS 3 0 0 rfl rfl (by decide +kernel) (by decide +kernel) (by decide) dX8_plant_70 (fun H locs hP hD hS => ?_)
  have hP : va_P (dC, dI) pf_cls [(tr, .inr (8, [.int 2, .ref b1, .ref b2, .ref b3, .ref b4, .ref b5, .ref b6, .ref b7])), (ac, .inr (0, [.int 2, .int 0, .ref a2, .ref a3, .ref a4, .ref a5, .ref a6, .ref a7])), (b1, .inl (cI, 9, .inl (upd (upd g1 2 2) 0 2))), (b2, .inl (cI, 9, .inl (upd g2 0 20))), (b3, .inl (cI, 9, .inl (upd g3 2 0))), (b4, .inl (cJ, 9, .inr (.inl (vp_updL g4 2 0))))] H := hP
  have hD : va_D A [(tr, .inr (8, [.int 2, .ref b1, .ref b2, .ref b3, .ref b4, .ref b5, .ref b6, .ref b7])), (ac, .inr (0, [.int 2, .int 0, .ref a2, .ref a3, .ref a4, .ref a5, .ref a6, .ref a7])), (b1, .inl (cI, 9, .inl (upd (upd g1 2 2) 0 2))), (b2, .inl (cI, 9, .inl (upd g2 0 20))), (b3, .inl (cI, 9, .inl (upd g3 2 0))), (b4, .inl (cJ, 9, .inr (.inl (vp_updL g4 2 0))))] := hD
  refine lv_iinc (v := 1) (lv' := [(2, .int 1), (0, .ref tr), (1, .ref ac)]) hx hb dX8_plant_71 hl (k := 0) rfl (by decide +kernel) (by decide) rfl (fun ls hl => ?_)
  refine lv_goto (tgt := 43) hx hb dX8_plant_74 (by decide) ?_
  refine lv_iload_n hx hb dX8_plant_43 rfl (lv_at hl 0 rfl) ?_
  refine lv_aload_n hx hb dX8_plant_44 rfl (lv_at hl 1 rfl) ?_
  refine va_get (D := (dC, dI)) (ci := 8) (v := .int 2) (C := RX8) (T := TX8) (N := 8) hx hb hts (fun w h => List.mem_cons_of_mem _ (ic_X8 w h)) hown hK hP 0 rfl rfl 0 (by decide) (hts _ (List.mem_cons_of_mem _ mw_72)) (fun _ h9 => h9) rfl dX8_plant_45 ?_
  refine lv_icmp_ge (tgt := 77) hx hb dX8_plant_48 (by decide) (fun c1 => absurd c1 (by decide +kernel)) (fun _ => ?_)
  refine lv_aload_n hx hb dX8_plant_51 rfl (lv_at hl 1 rfl) ?_
  refine va_get (D := (dC, dI)) (ci := 8) (v := .ref b1) (C := RX8) (T := TX8) (N := 8) hx hb hts (fun w h => List.mem_cons_of_mem _ (ic_X8 w h)) hown hK hP 0 rfl rfl 1 (by decide) (hts _ (List.mem_cons_of_mem _ mw_14)) (fun _ h9 => h9) rfl dX8_plant_52 ?_
  refine lv_iload_n hx hb dX8_plant_55 rfl (lv_at hl 0 rfl) ?_
  refine lv_aload_n hx hb dX8_plant_56 rfl (lv_at hl 1 rfl) ?_
  refine va_get (D := (dC, dI)) (ci := 8) (v := .int 2) (C := RX8) (T := TX8) (N := 8) hx hb hts (fun w h => List.mem_cons_of_mem _ (ic_X8 w h)) hown hK hP 0 rfl rfl 0 (by decide) (hts _ (List.mem_cons_of_mem _ mw_72)) (fun _ h9 => h9) rfl dX8_plant_57 ?_
  refine pf_iast hx hb hK hP hD hS 2 0 1 rfl rfl (by decide +kernel) (by decide +kernel) (by decide) dX8_plant_60 (fun H locs hP hD hS => ?_)
  have hP : va_P (dC, dI) pf_cls [(tr, .inr (8, [.int 2, .ref b1, .ref b2, .ref b3, .ref b4, .ref b5, .ref b6, .ref b7])), (ac, .inr (0, [.int 2, .int 0, .ref a2, .ref a3, .ref a4, .ref a5, .ref a6, .ref a7])), (b1, .inl (cI, 9, .inl (upd (upd (upd g1 2 2) 0 2) 1 2))), (b2, .inl (cI, 9, .inl (upd g2 0 20))), (b3, .inl (cI, 9, .inl (upd g3 2 0))), (b4, .inl (cJ, 9, .inr (.inl (vp_updL g4 2 0))))] H := hP
  have hD : va_D A [(tr, .inr (8, [.int 2, .ref b1, .ref b2, .ref b3, .ref b4, .ref b5, .ref b6, .ref b7])), (ac, .inr (0, [.int 2, .int 0, .ref a2, .ref a3, .ref a4, .ref a5, .ref a6, .ref a7])), (b1, .inl (cI, 9, .inl (upd (upd (upd g1 2 2) 0 2) 1 2))), (b2, .inl (cI, 9, .inl (upd g2 0 20))), (b3, .inl (cI, 9, .inl (upd g3 2 0))), (b4, .inl (cJ, 9, .inr (.inl (vp_updL g4 2 0))))] := hD
  refine lv_aload_n hx hb dX8_plant_61 rfl (lv_at hl 1 rfl) ?_
  refine va_get (D := (dC, dI)) (ci := 8) (v := .ref b2) (C := RX8) (T := TX8) (N := 8) hx hb hts (fun w h => List.mem_cons_of_mem _ (ic_X8 w h)) hown hK hP 0 rfl rfl 2 (by decide) (hts _ (List.mem_cons_of_mem _ mw_15)) (fun _ h9 => h9) rfl dX8_plant_62 ?_
  refine lv_iload_n hx hb dX8_plant_65 rfl (lv_at hl 0 rfl) ?_
  refine lv_bipush (v := 20) hx hb dX8_plant_66 (by decide +kernel) ?_
  refine lv_iload_n hx hb dX8_plant_68 rfl (lv_at hl 0 rfl) ?_
  refine lv_iadd hx hb dX8_plant_69 ?_
  refine pf_topi (v := 21) (by decide +kernel) ?_
  refine pf_iast hx hb hK hP hD hS 3 0 1 rfl rfl (by decide +kernel) (by decide +kernel) (by decide) dX8_plant_70 (fun H locs hP hD hS => ?_)
  have hP : va_P (dC, dI) pf_cls [(tr, .inr (8, [.int 2, .ref b1, .ref b2, .ref b3, .ref b4, .ref b5, .ref b6, .ref b7])), (ac, .inr (0, [.int 2, .int 0, .ref a2, .ref a3, .ref a4, .ref a5, .ref a6, .ref a7])), (b1, .inl (cI, 9, .inl (upd (upd (upd g1 2 2) 0 2) 1 2))), (b2, .inl (cI, 9, .inl (upd (upd g2 0 20) 1 21))), (b3, .inl (cI, 9, .inl (upd g3 2 0))), (b4, .inl (cJ, 9, .inr (.inl (vp_updL g4 2 0))))] H := hP
  have hD : va_D A [(tr, .inr (8, [.int 2, .ref b1, .ref b2, .ref b3, .ref b4, .ref b5, .ref b6, .ref b7])), (ac, .inr (0, [.int 2, .int 0, .ref a2, .ref a3, .ref a4, .ref a5, .ref a6, .ref a7])), (b1, .inl (cI, 9, .inl (upd (upd (upd g1 2 2) 0 2) 1 2))), (b2, .inl (cI, 9, .inl (upd (upd g2 0 20) 1 21))), (b3, .inl (cI, 9, .inl (upd g3 2 0))), (b4, .inl (cJ, 9, .inr (.inl (vp_updL g4 2 0))))] := hD
  refine lv_iinc (v := 2) (lv' := [(2, .int 2), (0, .ref tr), (1, .ref ac)]) hx hb dX8_plant_71 hl (k := 0) rfl (by decide +kernel) (by decide) rfl (fun ls hl => ?_)
  refine lv_goto (tgt := 43) hx hb dX8_plant_74 (by decide) ?_
  refine lv_iload_n hx hb dX8_plant_43 rfl (lv_at hl 0 rfl) ?_
  refine lv_aload_n hx hb dX8_plant_44 rfl (lv_at hl 1 rfl) ?_
  refine va_get (D := (dC, dI)) (ci := 8) (v := .int 2) (C := RX8) (T := TX8) (N := 8) hx hb hts (fun w h => List.mem_cons_of_mem _ (ic_X8 w h)) hown hK hP 0 rfl rfl 0 (by decide) (hts _ (List.mem_cons_of_mem _ mw_72)) (fun _ h9 => h9) rfl dX8_plant_45 ?_
  refine lv_icmp_ge (tgt := 77) hx hb dX8_plant_48 (by decide) (fun _ => ?_) (fun c2 => absurd (by decide +kernel) c2)
  have hP9 := hP.sub (ws' := [(tr, .inr (8, [.int 2, .ref b1, .ref b2, .ref b3, .ref b4, .ref b5, .ref b6, .ref b7])), (ac, .inr (0, [.int 2, .int 0, .ref a2, .ref a3, .ref a4, .ref a5, .ref a6, .ref a7])), (b1, .inl (cI, 9, .inl (upd (upd (upd g1 2 2) 0 2) 1 2))), (b2, .inl (cI, 9, .inl (upd (upd g2 0 20) 1 21))), (b3, .inl (cI, 9, .inl (upd g3 2 0))), (b4, .inl (cJ, 9, .inr (.inl (vp_updL g4 2 0))))]) [0, 1, 2, 3, 4, 5] rfl
  have hD9 := hD.sub (ws' := [(tr, .inr (8, [.int 2, .ref b1, .ref b2, .ref b3, .ref b4, .ref b5, .ref b6, .ref b7])), (ac, .inr (0, [.int 2, .int 0, .ref a2, .ref a3, .ref a4, .ref a5, .ref a6, .ref a7])), (b1, .inl (cI, 9, .inl (upd (upd (upd g1 2 2) 0 2) 1 2))), (b2, .inl (cI, 9, .inl (upd (upd g2 0 20) 1 21))), (b3, .inl (cI, 9, .inl (upd g3 2 0))), (b4, .inl (cJ, 9, .inr (.inl (vp_updL g4 2 0))))]) [0, 1, 2, 3, 4, 5] (by decide +kernel) rfl
  refine W.widen (k := 0) (n := 0) (Nat.le_of_ble_eq_true rfl) (Nat.le_of_ble_eq_true rfl) ?_
  exact W.vret hx hb hr (fun t ht hW => ⟨⟨(), rfl, trivial, (by rw [ht]; exact hP9), hD9⟩, hS.F ht⟩) hS.2.2 dX8_plant_77
set_option maxHeartbeats 40000000 in
set_option maxRecDepth 100000 in
theorem c_measure (l : Launch) (dC : Nat → ClassId) (dI : Nat → Nat → Nat) (cI cJ cZ cO : ClassId) (sz : Nat) (tr : Nat) (ac : Nat) (b1 : Nat) (b2 : Nat) (b3 : Nat) (b4 : Nat) (b5 : Nat) (b6 : Nat) (b7 : Nat) (k0 : Int32) (k1 : Int32) (a2 : Nat) (a3 : Nat) (a4 : Nat) (a5 : Nat) (a6 : Nat) (a7 : Nat) (g1 : Nat → Int32) (g2 : Nat → Int32) (g3 : Nat → Int32) (g4 : Nat → Int64) (f2 : Nat → Int32) (f5 : Nat → Int64)  : Met l yX8_measure (Cond.code yX8_measure cX8_measure 8 none :: pf_W) ({ frames := 0, cells := 0, slots := 0, locals := 0 }) (va_Pc [.ref tr, .ref ac] (fun U => U.heap.size = sz ∧ va_P (dC, dI) pf_cls [(tr, .inr (8, [.int 2, .ref b1, .ref b2, .ref b3, .ref b4, .ref b5, .ref b6, .ref b7])), (ac, .inr (0, [.int k0, .int k1, .ref a2, .ref a3, .ref a4, .ref a5, .ref a6, .ref a7])), (b1, .inl (cI, 9, .inl (upd (upd (upd g1 2 2) 0 2) 1 2))), (b2, .inl (cI, 9, .inl (upd (upd g2 0 20) 1 21))), (b3, .inl (cI, 9, .inl g3)), (b4, .inl (cJ, 9, .inr (.inl g4))), (a2, .inl (cI, 28, .inl (upd (upd f2 20 0) 21 1))), (a5, .inl (cJ, 28, .inr (.inl (vp_updL (vp_updL f5 20 1) 21 1))))] U.heap ∧ va_K (dC, dI) pf_cls (pf_ty cI cJ cZ cO) U ∧ va_D (fun _ => True) [(tr, .inr (8, [.int 2, .ref b1, .ref b2, .ref b3, .ref b4, .ref b5, .ref b6, .ref b7])), (ac, .inr (0, [.int k0, .int k1, .ref a2, .ref a3, .ref a4, .ref a5, .ref a6, .ref a7])), (b1, .inl (cI, 9, .inl (upd (upd (upd g1 2 2) 0 2) 1 2))), (b2, .inl (cI, 9, .inl (upd (upd g2 0 20) 1 21))), (b3, .inl (cI, 9, .inl g3)), (b4, .inl (cJ, 9, .inr (.inl g4))), (a2, .inl (cI, 28, .inl (upd (upd f2 20 0) 21 1))), (a5, .inl (cJ, 28, .inr (.inl (vp_updL (vp_updL f5 20 1) 21 1))))])) (va_Qv (fun (_ : Unit) => True) (fun (_ : Unit) (t : State) => va_P (dC, dI) pf_cls [(tr, .inr (8, [.int 2, .ref b1, .ref b2, .ref b3, .ref b4, .ref b5, .ref b6, .ref b7])), (ac, .inr (0, [.int k0, .int k1, .ref a2, .ref a3, .ref a4, .ref a5, .ref a6, .ref a7])), (b1, .inl (cI, 9, .inl (upd (upd (upd g1 2 2) 0 2) 1 2))), (b2, .inl (cI, 9, .inl (upd (upd g2 0 20) 1 21))), (b3, .inl (cI, 9, .inl (upd (upd g3 0 1) 1 1))), (b4, .inl (cJ, 9, .inr (.inl (vp_updL (vp_updL g4 0 1) 1 1)))), (a2, .inl (cI, 28, .inl (upd (upd f2 20 0) 21 1))), (a5, .inl (cJ, 28, .inr (.inl (vp_updL (vp_updL f5 20 1) 21 1))))] t.heap ∧ va_D (va_A [(tr, .inr (8, [.int 2, .ref b1, .ref b2, .ref b3, .ref b4, .ref b5, .ref b6, .ref b7])), (ac, .inr (0, [.int k0, .int k1, .ref a2, .ref a3, .ref a4, .ref a5, .ref a6, .ref a7])), (b1, .inl (cI, 9, .inl (upd (upd (upd g1 2 2) 0 2) 1 2))), (b2, .inl (cI, 9, .inl (upd (upd g2 0 20) 1 21))), (b3, .inl (cI, 9, .inl g3)), (b4, .inl (cJ, 9, .inr (.inl g4))), (a2, .inl (cI, 28, .inl (upd (upd f2 20 0) 21 1))), (a5, .inl (cJ, 28, .inr (.inl (vp_updL (vp_updL f5 20 1) 21 1))))] sz) [(tr, .inr (8, [.int 2, .ref b1, .ref b2, .ref b3, .ref b4, .ref b5, .ref b6, .ref b7])), (ac, .inr (0, [.int k0, .int k1, .ref a2, .ref a3, .ref a4, .ref a5, .ref a6, .ref a7])), (b1, .inl (cI, 9, .inl (upd (upd (upd g1 2 2) 0 2) 1 2))), (b2, .inl (cI, 9, .inl (upd (upd g2 0 20) 1 21))), (b3, .inl (cI, 9, .inl (upd (upd g3 0 1) 1 1))), (b4, .inl (cJ, 9, .inr (.inl (vp_updL (vp_updL g4 0 1) 1 1)))), (a2, .inl (cI, 28, .inl (upd (upd f2 20 0) 21 1))), (a5, .inl (cJ, 28, .inr (.inl (vp_updL (vp_updL f5 20 1) 21 1))))]) (va_A [(tr, .inr (8, [.int 2, .ref b1, .ref b2, .ref b3, .ref b4, .ref b5, .ref b6, .ref b7])), (ac, .inr (0, [.int k0, .int k1, .ref a2, .ref a3, .ref a4, .ref a5, .ref a6, .ref a7])), (b1, .inl (cI, 9, .inl (upd (upd (upd g1 2 2) 0 2) 1 2))), (b2, .inl (cI, 9, .inl (upd (upd g2 0 20) 1 21))), (b3, .inl (cI, 9, .inl g3)), (b4, .inl (cJ, 9, .inr (.inl g4))), (a2, .inl (cI, 28, .inl (upd (upd f2 20 0) 21 1))), (a5, .inl (cJ, 28, .inr (.inl (vp_updL (vp_updL f5 20 1) 21 1))))] sz)) 0 0 (va_A [(tr, .inr (8, [.int 2, .ref b1, .ref b2, .ref b3, .ref b4, .ref b5, .ref b6, .ref b7])), (ac, .inr (0, [.int k0, .int k1, .ref a2, .ref a3, .ref a4, .ref a5, .ref a6, .ref a7])), (b1, .inl (cI, 9, .inl (upd (upd (upd g1 2 2) 0 2) 1 2))), (b2, .inl (cI, 9, .inl (upd (upd g2 0 20) 1 21))), (b3, .inl (cI, 9, .inl g3)), (b4, .inl (cJ, 9, .inr (.inl g4))), (a2, .inl (cI, 28, .inl (upd (upd f2 20 0) 21 1))), (a5, .inl (cJ, 28, .inr (.inl (vp_updL (vp_updL f5 20 1) 21 1))))] sz) := by
  refine Met.ofW (cc := cX8_measure) (maxL := 8) (ret := none) (by decide) rfl ?_
  intro p e s m args below meth c s₁ B hml hv
  obtain ⟨rfl, hsz, hP, hK, hD0⟩ := hv
  have hx := B.exec
  have hb := B.bytes
  have hr := B.returns
  have hts := atoms_spec (ws := Cond.code yX8_measure cX8_measure 8 none :: pf_W) B.pre
  have hown : s.vm.findClass RX8 = some m.cls := findClass_of_methodNamed B.named
  have hlocks := B.notSynchronized
  subst hsz
  have hD := hD0.self (sz := s.heap.size)
  generalize hAe : va_A [(tr, .inr (8, [.int 2, .ref b1, .ref b2, .ref b3, .ref b4, .ref b5, .ref b6, .ref b7])), (ac, .inr (0, [.int k0, .int k1, .ref a2, .ref a3, .ref a4, .ref a5, .ref a6, .ref a7])), (b1, .inl (cI, 9, .inl (upd (upd (upd g1 2 2) 0 2) 1 2))), (b2, .inl (cI, 9, .inl (upd (upd g2 0 20) 1 21))), (b3, .inl (cI, 9, .inl g3)), (b4, .inl (cJ, 9, .inr (.inl g4))), (a2, .inl (cI, 28, .inl (upd (upd f2 20 0) 21 1))), (a5, .inl (cJ, 28, .inr (.inl (vp_updL (vp_updL f5 20 1) 21 1))))] s.heap.size = A at hD ⊢
  have hA : ∀ q : Nat, s.heap.size ≤ q → A q := fun q h => by rw [← hAe]; exact Or.inr h
  have hS : va_S A s.heap s.heap [] := va_S.rf
  have hP : va_P (dC, dI) pf_cls [(tr, .inr (8, [.int 2, .ref b1, .ref b2, .ref b3, .ref b4, .ref b5, .ref b6, .ref b7])), (ac, .inr (0, [.int k0, .int k1, .ref a2, .ref a3, .ref a4, .ref a5, .ref a6, .ref a7])), (b1, .inl (cI, 9, .inl (upd (upd (upd g1 2 2) 0 2) 1 2))), (b2, .inl (cI, 9, .inl (upd (upd g2 0 20) 1 21))), (b3, .inl (cI, 9, .inl g3)), (b4, .inl (cJ, 9, .inr (.inl g4))), (a2, .inl (cI, 28, .inl (upd (upd f2 20 0) 21 1))), (a5, .inl (cJ, 28, .inr (.inl (vp_updL (vp_updL f5 20 1) 21 1))))] s.heap := hP
  have hl := lv_entry ([.ref tr, .ref ac]) (n := 8) (Nat.le_of_ble_eq_true rfl)
  rw [lg_entry_eq]
  generalize (lg_sl ([.ref tr, .ref ac]) ++ List.replicate (8 - (lg_sl ([.ref tr, .ref ac])).length) Slot.unset).toArray = ls at hl ⊢
  have hl : lv_has ls 8 [(0, .ref tr), (1, .ref ac)] := hl
  refine lv_iconst (v := 0) hx hb dX8_measure_0 (by decide) ?_
  refine lv_istore_n (lv' := [(2, .int 0), (0, .ref tr), (1, .ref ac)]) hx hb dX8_measure_1 rfl hl (by decide) rfl (fun ls hl => ?_)
  refine lv_iload_n hx hb dX8_measure_2 rfl (lv_at hl 0 rfl) ?_
  refine lv_aload_n hx hb dX8_measure_3 rfl (lv_at hl 1 rfl) ?_
  refine va_get (D := (dC, dI)) (ci := 8) (v := .int 2) (C := RX8) (T := TX8) (N := 8) hx hb hts (fun w h => List.mem_cons_of_mem _ (ic_X8 w h)) hown hK hP 0 rfl rfl 0 (by decide) (hts _ (List.mem_cons_of_mem _ mw_72)) (fun _ h9 => h9) rfl dX8_measure_4 ?_
  refine lv_icmp_ge (tgt := 113) hx hb dX8_measure_7 (by decide) (fun c0 => absurd c0 (by decide +kernel)) (fun _ => ?_)
  refine lv_iconst (v := 0) hx hb dX8_measure_10 (by decide) ?_
  refine lv_istore_n (lv' := [(3, .int 0), (2, .int 0), (0, .ref tr), (1, .ref ac)]) hx hb dX8_measure_11 rfl hl (by decide) rfl (fun ls hl => ?_)
  refine lv_lconst (v := 0) hx hb dX8_measure_12 (by decide +kernel) ?_
  refine lv_lstore (lv' := [(4, .long 0), (3, .int 0), (2, .int 0), (0, .ref tr), (1, .ref ac)]) hx hb dX8_measure_13 hl (by decide) rfl (fun ls hl => ?_)
  refine lv_iload_n hx hb dX8_measure_15 rfl (lv_at hl 2 rfl) ?_
  refine lv_istore (lv' := [(6, .int 0), (4, .long 0), (3, .int 0), (2, .int 0), (0, .ref tr), (1, .ref ac)]) hx hb dX8_measure_16 hl (by decide) rfl (fun ls hl => ?_)
  refine lv_iload hx hb dX8_measure_18 (lv_at hl 0 rfl) ?_
  refine lv_aload_n hx hb dX8_measure_20 rfl (lv_at hl 4 rfl) ?_
  refine va_get (D := (dC, dI)) (ci := 8) (v := .int 2) (C := RX8) (T := TX8) (N := 8) hx hb hts (fun w h => List.mem_cons_of_mem _ (ic_X8 w h)) hown hK hP 0 rfl rfl 0 (by decide) (hts _ (List.mem_cons_of_mem _ mw_72)) (fun _ h9 => h9) rfl dX8_measure_21 ?_
  refine lv_icmp_eq (tgt := 92) hx hb dX8_measure_24 (by decide) (fun c1 => absurd c1 (by decide +kernel)) (fun _ => ?_)
  refine lv_iload_n hx hb dX8_measure_27 rfl (lv_at hl 2 rfl) ?_
  refine lv_bipush (v := 8) hx hb dX8_measure_28 (by decide +kernel) ?_
  refine lv_icmp_ge (tgt := 92) hx hb dX8_measure_30 (by decide) (fun c2 => absurd c2 (by decide +kernel)) (fun _ => ?_)
  refine lv_aload_n hx hb dX8_measure_33 rfl (lv_at hl 4 rfl) ?_
  refine va_get (D := (dC, dI)) (ci := 8) (v := .ref b2) (C := RX8) (T := TX8) (N := 8) hx hb hts (fun w h => List.mem_cons_of_mem _ (ic_X8 w h)) hown hK hP 0 rfl rfl 2 (by decide) (hts _ (List.mem_cons_of_mem _ mw_15)) (fun _ h9 => h9) rfl dX8_measure_34 ?_
  refine lv_iload hx hb dX8_measure_37 (lv_at hl 0 rfl) ?_
  refine pf_iald (v := 20) hx hb hK hP 3 0 0 rfl rfl (by decide +kernel) (by decide +kernel) (by decide) rfl dX8_measure_39 ?_
  refine lv_istore (lv' := [(7, .int 20), (6, .int 0), (4, .long 0), (3, .int 0), (2, .int 0), (0, .ref tr), (1, .ref ac)]) hx hb dX8_measure_40 hl (by decide) rfl (fun ls hl => ?_)
  refine lv_lload hx hb dX8_measure_42 (lv_at hl 2 rfl) ?_
  refine lv_aload_n hx hb dX8_measure_44 rfl (lv_at hl 6 rfl) ?_
  refine va_get (D := (dC, dI)) (ci := 0) (v := .ref a2) (C := RX0) (T := TX0) (N := 8) hx hb hts (fun w h => List.mem_cons_of_mem _ (ic_X0 w h)) hown hK hP 1 rfl rfl 2 (by decide) (hts _ (List.mem_cons_of_mem _ mw_73)) (fun _ h9 => h9) rfl dX8_measure_45 ?_
  refine lv_iload hx hb dX8_measure_48 (lv_at hl 0 rfl) ?_
  refine pf_iald (v := 0) hx hb hK hP 6 0 20 rfl rfl (by decide +kernel) (by decide +kernel) (by decide) rfl dX8_measure_50 ?_
  refine lv_iload hx hb dX8_measure_51 (lv_at hl 1 rfl) ?_
  refine lv_icmp_ne (tgt := 66) hx hb dX8_measure_53 (by decide) (fun c3 => absurd (by decide +kernel) c3) (fun _ => ?_)
  refine lv_aload_n hx hb dX8_measure_56 rfl (lv_at hl 6 rfl) ?_
  refine va_get (D := (dC, dI)) (ci := 0) (v := .ref a5) (C := RX0) (T := TX0) (N := 8) hx hb hts (fun w h => List.mem_cons_of_mem _ (ic_X0 w h)) hown hK hP 1 rfl rfl 5 (by decide) (hts _ (List.mem_cons_of_mem _ mw_74)) (fun _ h9 => h9) rfl dX8_measure_57 ?_
  refine lv_iload hx hb dX8_measure_60 (lv_at hl 0 rfl) ?_
  refine pf_lald (v := 1) hx hb hK hP 7 1 20 rfl rfl (by decide +kernel) (by decide +kernel) (by decide) rfl dX8_measure_62 ?_
  refine lv_goto (tgt := 74) hx hb dX8_measure_63 (by decide) ?_
  refine lv_ladd hx hb dX8_measure_74 ?_
  refine pf_topl (v := 1) (by decide +kernel) ?_
  refine lv_lstore (lv' := [(4, .long 1), (7, .int 20), (6, .int 0), (3, .int 0), (2, .int 0), (0, .ref tr), (1, .ref ac)]) hx hb dX8_measure_75 hl (by decide) rfl (fun ls hl => ?_)
  refine lv_iinc (v := 1) (lv' := [(3, .int 1), (4, .long 1), (7, .int 20), (6, .int 0), (2, .int 0), (0, .ref tr), (1, .ref ac)]) hx hb dX8_measure_77 hl (k := 3) rfl (by decide +kernel) (by decide) rfl (fun ls hl => ?_)
  refine lv_aload_n hx hb dX8_measure_80 rfl (lv_at hl 5 rfl) ?_
  refine va_get (D := (dC, dI)) (ci := 8) (v := .ref b1) (C := RX8) (T := TX8) (N := 8) hx hb hts (fun w h => List.mem_cons_of_mem _ (ic_X8 w h)) hown hK hP 0 rfl rfl 1 (by decide) (hts _ (List.mem_cons_of_mem _ mw_14)) (fun _ h9 => h9) rfl dX8_measure_81 ?_
  refine lv_iload hx hb dX8_measure_84 (lv_at hl 3 rfl) ?_
  refine pf_iald (v := 2) hx hb hK hP 2 0 0 rfl rfl (by decide +kernel) (by decide +kernel) (by decide) rfl dX8_measure_86 ?_
  refine lv_istore (lv' := [(6, .int 2), (3, .int 1), (4, .long 1), (7, .int 20), (2, .int 0), (0, .ref tr), (1, .ref ac)]) hx hb dX8_measure_87 hl (by decide) rfl (fun ls hl => ?_)
  refine lv_goto (tgt := 18) hx hb dX8_measure_89 (by decide) ?_
  refine lv_iload hx hb dX8_measure_18 (lv_at hl 0 rfl) ?_
  refine lv_aload_n hx hb dX8_measure_20 rfl (lv_at hl 5 rfl) ?_
  refine va_get (D := (dC, dI)) (ci := 8) (v := .int 2) (C := RX8) (T := TX8) (N := 8) hx hb hts (fun w h => List.mem_cons_of_mem _ (ic_X8 w h)) hown hK hP 0 rfl rfl 0 (by decide) (hts _ (List.mem_cons_of_mem _ mw_72)) (fun _ h9 => h9) rfl dX8_measure_21 ?_
  refine lv_icmp_eq (tgt := 92) hx hb dX8_measure_24 (by decide) (fun _ => ?_) (fun c4 => absurd (by decide +kernel) c4)
  refine lv_aload_n hx hb dX8_measure_92 rfl (lv_at hl 5 rfl) ?_
  refine va_get (D := (dC, dI)) (ci := 8) (v := .ref b3) (C := RX8) (T := TX8) (N := 8) hx hb hts (fun w h => List.mem_cons_of_mem _ (ic_X8 w h)) hown hK hP 0 rfl rfl 3 (by decide) (hts _ (List.mem_cons_of_mem _ mw_16)) (fun _ h9 => h9) rfl dX8_measure_93 ?_
  refine lv_iload_n hx hb dX8_measure_96 rfl (lv_at hl 4 rfl) ?_
  refine lv_iload_n hx hb dX8_measure_97 rfl (lv_at hl 1 rfl) ?_
  refine pf_iast hx hb hK hP hD hS 4 0 0 rfl rfl (by decide +kernel) (by decide +kernel) (by decide) dX8_measure_98 (fun H locs hP hD hS => ?_)
  have hP : va_P (dC, dI) pf_cls [(tr, .inr (8, [.int 2, .ref b1, .ref b2, .ref b3, .ref b4, .ref b5, .ref b6, .ref b7])), (ac, .inr (0, [.int k0, .int k1, .ref a2, .ref a3, .ref a4, .ref a5, .ref a6, .ref a7])), (b1, .inl (cI, 9, .inl (upd (upd (upd g1 2 2) 0 2) 1 2))), (b2, .inl (cI, 9, .inl (upd (upd g2 0 20) 1 21))), (b3, .inl (cI, 9, .inl (upd g3 0 1))), (b4, .inl (cJ, 9, .inr (.inl g4))), (a2, .inl (cI, 28, .inl (upd (upd f2 20 0) 21 1))), (a5, .inl (cJ, 28, .inr (.inl (vp_updL (vp_updL f5 20 1) 21 1))))] H := hP
  have hD : va_D A [(tr, .inr (8, [.int 2, .ref b1, .ref b2, .ref b3, .ref b4, .ref b5, .ref b6, .ref b7])), (ac, .inr (0, [.int k0, .int k1, .ref a2, .ref a3, .ref a4, .ref a5, .ref a6, .ref a7])), (b1, .inl (cI, 9, .inl (upd (upd (upd g1 2 2) 0 2) 1 2))), (b2, .inl (cI, 9, .inl (upd (upd g2 0 20) 1 21))), (b3, .inl (cI, 9, .inl (upd g3 0 1))), (b4, .inl (cJ, 9, .inr (.inl g4))), (a2, .inl (cI, 28, .inl (upd (upd f2 20 0) 21 1))), (a5, .inl (cJ, 28, .inr (.inl (vp_updL (vp_updL f5 20 1) 21 1))))] := hD
  refine lv_aload_n hx hb dX8_measure_99 rfl (lv_at hl 5 rfl) ?_
  refine va_get (D := (dC, dI)) (ci := 8) (v := .ref b4) (C := RX8) (T := TX8) (N := 8) hx hb hts (fun w h => List.mem_cons_of_mem _ (ic_X8 w h)) hown hK hP 0 rfl rfl 4 (by decide) (hts _ (List.mem_cons_of_mem _ mw_17)) (fun _ h9 => h9) rfl dX8_measure_100 ?_
  refine lv_iload_n hx hb dX8_measure_103 rfl (lv_at hl 4 rfl) ?_
  refine lv_lload hx hb dX8_measure_104 (lv_at hl 2 rfl) ?_
  refine pf_last hx hb hK hP hD hS 5 1 0 rfl rfl (by decide +kernel) (by decide +kernel) (by decide) dX8_measure_106 (fun H locs hP hD hS => ?_)
  have hP : va_P (dC, dI) pf_cls [(tr, .inr (8, [.int 2, .ref b1, .ref b2, .ref b3, .ref b4, .ref b5, .ref b6, .ref b7])), (ac, .inr (0, [.int k0, .int k1, .ref a2, .ref a3, .ref a4, .ref a5, .ref a6, .ref a7])), (b1, .inl (cI, 9, .inl (upd (upd (upd g1 2 2) 0 2) 1 2))), (b2, .inl (cI, 9, .inl (upd (upd g2 0 20) 1 21))), (b3, .inl (cI, 9, .inl (upd g3 0 1))), (b4, .inl (cJ, 9, .inr (.inl (vp_updL g4 0 1)))), (a2, .inl (cI, 28, .inl (upd (upd f2 20 0) 21 1))), (a5, .inl (cJ, 28, .inr (.inl (vp_updL (vp_updL f5 20 1) 21 1))))] H := hP
  have hD : va_D A [(tr, .inr (8, [.int 2, .ref b1, .ref b2, .ref b3, .ref b4, .ref b5, .ref b6, .ref b7])), (ac, .inr (0, [.int k0, .int k1, .ref a2, .ref a3, .ref a4, .ref a5, .ref a6, .ref a7])), (b1, .inl (cI, 9, .inl (upd (upd (upd g1 2 2) 0 2) 1 2))), (b2, .inl (cI, 9, .inl (upd (upd g2 0 20) 1 21))), (b3, .inl (cI, 9, .inl (upd g3 0 1))), (b4, .inl (cJ, 9, .inr (.inl (vp_updL g4 0 1)))), (a2, .inl (cI, 28, .inl (upd (upd f2 20 0) 21 1))), (a5, .inl (cJ, 28, .inr (.inl (vp_updL (vp_updL f5 20 1) 21 1))))] := hD
  refine lv_iinc (v := 1) (lv' := [(2, .int 1), (6, .int 2), (3, .int 1), (4, .long 1), (7, .int 20), (0, .ref tr), (1, .ref ac)]) hx hb dX8_measure_107 hl (k := 4) rfl (by decide +kernel) (by decide) rfl (fun ls hl => ?_)
  refine lv_goto (tgt := 2) hx hb dX8_measure_110 (by decide) ?_
  refine lv_iload_n hx hb dX8_measure_2 rfl (lv_at hl 0 rfl) ?_
  refine lv_aload_n hx hb dX8_measure_3 rfl (lv_at hl 5 rfl) ?_
  refine va_get (D := (dC, dI)) (ci := 8) (v := .int 2) (C := RX8) (T := TX8) (N := 8) hx hb hts (fun w h => List.mem_cons_of_mem _ (ic_X8 w h)) hown hK hP 0 rfl rfl 0 (by decide) (hts _ (List.mem_cons_of_mem _ mw_72)) (fun _ h9 => h9) rfl dX8_measure_4 ?_
  refine lv_icmp_ge (tgt := 113) hx hb dX8_measure_7 (by decide) (fun c5 => absurd c5 (by decide +kernel)) (fun _ => ?_)
  refine lv_iconst (v := 0) hx hb dX8_measure_10 (by decide) ?_
  refine lv_istore_n (lv' := [(3, .int 0), (2, .int 1), (6, .int 2), (4, .long 1), (7, .int 20), (0, .ref tr), (1, .ref ac)]) hx hb dX8_measure_11 rfl hl (by decide) rfl (fun ls hl => ?_)
  refine lv_lconst (v := 0) hx hb dX8_measure_12 (by decide +kernel) ?_
  refine lv_lstore (lv' := [(4, .long 0), (3, .int 0), (2, .int 1), (6, .int 2), (7, .int 20), (0, .ref tr), (1, .ref ac)]) hx hb dX8_measure_13 hl (by decide) rfl (fun ls hl => ?_)
  refine lv_iload_n hx hb dX8_measure_15 rfl (lv_at hl 2 rfl) ?_
  refine lv_istore (lv' := [(6, .int 1), (4, .long 0), (3, .int 0), (2, .int 1), (7, .int 20), (0, .ref tr), (1, .ref ac)]) hx hb dX8_measure_16 hl (by decide) rfl (fun ls hl => ?_)
  refine lv_iload hx hb dX8_measure_18 (lv_at hl 0 rfl) ?_
  refine lv_aload_n hx hb dX8_measure_20 rfl (lv_at hl 5 rfl) ?_
  refine va_get (D := (dC, dI)) (ci := 8) (v := .int 2) (C := RX8) (T := TX8) (N := 8) hx hb hts (fun w h => List.mem_cons_of_mem _ (ic_X8 w h)) hown hK hP 0 rfl rfl 0 (by decide) (hts _ (List.mem_cons_of_mem _ mw_72)) (fun _ h9 => h9) rfl dX8_measure_21 ?_
  refine lv_icmp_eq (tgt := 92) hx hb dX8_measure_24 (by decide) (fun c6 => absurd c6 (by decide +kernel)) (fun _ => ?_)
  refine lv_iload_n hx hb dX8_measure_27 rfl (lv_at hl 2 rfl) ?_
  refine lv_bipush (v := 8) hx hb dX8_measure_28 (by decide +kernel) ?_
  refine lv_icmp_ge (tgt := 92) hx hb dX8_measure_30 (by decide) (fun c7 => absurd c7 (by decide +kernel)) (fun _ => ?_)
  refine lv_aload_n hx hb dX8_measure_33 rfl (lv_at hl 5 rfl) ?_
  refine va_get (D := (dC, dI)) (ci := 8) (v := .ref b2) (C := RX8) (T := TX8) (N := 8) hx hb hts (fun w h => List.mem_cons_of_mem _ (ic_X8 w h)) hown hK hP 0 rfl rfl 2 (by decide) (hts _ (List.mem_cons_of_mem _ mw_15)) (fun _ h9 => h9) rfl dX8_measure_34 ?_
  refine lv_iload hx hb dX8_measure_37 (lv_at hl 0 rfl) ?_
  refine pf_iald (v := 21) hx hb hK hP 3 0 1 rfl rfl (by decide +kernel) (by decide +kernel) (by decide) rfl dX8_measure_39 ?_
  refine lv_istore (lv' := [(7, .int 21), (6, .int 1), (4, .long 0), (3, .int 0), (2, .int 1), (0, .ref tr), (1, .ref ac)]) hx hb dX8_measure_40 hl (by decide) rfl (fun ls hl => ?_)
  refine lv_lload hx hb dX8_measure_42 (lv_at hl 2 rfl) ?_
  refine lv_aload_n hx hb dX8_measure_44 rfl (lv_at hl 6 rfl) ?_
  refine va_get (D := (dC, dI)) (ci := 0) (v := .ref a2) (C := RX0) (T := TX0) (N := 8) hx hb hts (fun w h => List.mem_cons_of_mem _ (ic_X0 w h)) hown hK hP 1 rfl rfl 2 (by decide) (hts _ (List.mem_cons_of_mem _ mw_73)) (fun _ h9 => h9) rfl dX8_measure_45 ?_
  refine lv_iload hx hb dX8_measure_48 (lv_at hl 0 rfl) ?_
  refine pf_iald (v := 1) hx hb hK hP 6 0 21 rfl rfl (by decide +kernel) (by decide +kernel) (by decide) rfl dX8_measure_50 ?_
  refine lv_iload hx hb dX8_measure_51 (lv_at hl 1 rfl) ?_
  refine lv_icmp_ne (tgt := 66) hx hb dX8_measure_53 (by decide) (fun c8 => absurd (by decide +kernel) c8) (fun _ => ?_)
  refine lv_aload_n hx hb dX8_measure_56 rfl (lv_at hl 6 rfl) ?_
  refine va_get (D := (dC, dI)) (ci := 0) (v := .ref a5) (C := RX0) (T := TX0) (N := 8) hx hb hts (fun w h => List.mem_cons_of_mem _ (ic_X0 w h)) hown hK hP 1 rfl rfl 5 (by decide) (hts _ (List.mem_cons_of_mem _ mw_74)) (fun _ h9 => h9) rfl dX8_measure_57 ?_
  refine lv_iload hx hb dX8_measure_60 (lv_at hl 0 rfl) ?_
  refine pf_lald (v := 1) hx hb hK hP 7 1 21 rfl rfl (by decide +kernel) (by decide +kernel) (by decide) rfl dX8_measure_62 ?_
  refine lv_goto (tgt := 74) hx hb dX8_measure_63 (by decide) ?_
  refine lv_ladd hx hb dX8_measure_74 ?_
  refine pf_topl (v := 1) (by decide +kernel) ?_
  refine lv_lstore (lv' := [(4, .long 1), (7, .int 21), (6, .int 1), (3, .int 0), (2, .int 1), (0, .ref tr), (1, .ref ac)]) hx hb dX8_measure_75 hl (by decide) rfl (fun ls hl => ?_)
  refine lv_iinc (v := 1) (lv' := [(3, .int 1), (4, .long 1), (7, .int 21), (6, .int 1), (2, .int 1), (0, .ref tr), (1, .ref ac)]) hx hb dX8_measure_77 hl (k := 3) rfl (by decide +kernel) (by decide) rfl (fun ls hl => ?_)
  refine lv_aload_n hx hb dX8_measure_80 rfl (lv_at hl 5 rfl) ?_
  refine va_get (D := (dC, dI)) (ci := 8) (v := .ref b1) (C := RX8) (T := TX8) (N := 8) hx hb hts (fun w h => List.mem_cons_of_mem _ (ic_X8 w h)) hown hK hP 0 rfl rfl 1 (by decide) (hts _ (List.mem_cons_of_mem _ mw_14)) (fun _ h9 => h9) rfl dX8_measure_81 ?_
  refine lv_iload hx hb dX8_measure_84 (lv_at hl 3 rfl) ?_
  refine pf_iald (v := 2) hx hb hK hP 2 0 1 rfl rfl (by decide +kernel) (by decide +kernel) (by decide) rfl dX8_measure_86 ?_
  refine lv_istore (lv' := [(6, .int 2), (3, .int 1), (4, .long 1), (7, .int 21), (2, .int 1), (0, .ref tr), (1, .ref ac)]) hx hb dX8_measure_87 hl (by decide) rfl (fun ls hl => ?_)
  refine lv_goto (tgt := 18) hx hb dX8_measure_89 (by decide) ?_
  refine lv_iload hx hb dX8_measure_18 (lv_at hl 0 rfl) ?_
  refine lv_aload_n hx hb dX8_measure_20 rfl (lv_at hl 5 rfl) ?_
  refine va_get (D := (dC, dI)) (ci := 8) (v := .int 2) (C := RX8) (T := TX8) (N := 8) hx hb hts (fun w h => List.mem_cons_of_mem _ (ic_X8 w h)) hown hK hP 0 rfl rfl 0 (by decide) (hts _ (List.mem_cons_of_mem _ mw_72)) (fun _ h9 => h9) rfl dX8_measure_21 ?_
  refine lv_icmp_eq (tgt := 92) hx hb dX8_measure_24 (by decide) (fun _ => ?_) (fun c9 => absurd (by decide +kernel) c9)
  refine lv_aload_n hx hb dX8_measure_92 rfl (lv_at hl 5 rfl) ?_
  refine va_get (D := (dC, dI)) (ci := 8) (v := .ref b3) (C := RX8) (T := TX8) (N := 8) hx hb hts (fun w h => List.mem_cons_of_mem _ (ic_X8 w h)) hown hK hP 0 rfl rfl 3 (by decide) (hts _ (List.mem_cons_of_mem _ mw_16)) (fun _ h9 => h9) rfl dX8_measure_93 ?_
  refine lv_iload_n hx hb dX8_measure_96 rfl (lv_at hl 4 rfl) ?_
  refine lv_iload_n hx hb dX8_measure_97 rfl (lv_at hl 1 rfl) ?_
  refine pf_iast hx hb hK hP hD hS 4 0 1 rfl rfl (by decide +kernel) (by decide +kernel) (by decide) dX8_measure_98 (fun H locs hP hD hS => ?_)
  have hP : va_P (dC, dI) pf_cls [(tr, .inr (8, [.int 2, .ref b1, .ref b2, .ref b3, .ref b4, .ref b5, .ref b6, .ref b7])), (ac, .inr (0, [.int k0, .int k1, .ref a2, .ref a3, .ref a4, .ref a5, .ref a6, .ref a7])), (b1, .inl (cI, 9, .inl (upd (upd (upd g1 2 2) 0 2) 1 2))), (b2, .inl (cI, 9, .inl (upd (upd g2 0 20) 1 21))), (b3, .inl (cI, 9, .inl (upd (upd g3 0 1) 1 1))), (b4, .inl (cJ, 9, .inr (.inl (vp_updL g4 0 1)))), (a2, .inl (cI, 28, .inl (upd (upd f2 20 0) 21 1))), (a5, .inl (cJ, 28, .inr (.inl (vp_updL (vp_updL f5 20 1) 21 1))))] H := hP
  have hD : va_D A [(tr, .inr (8, [.int 2, .ref b1, .ref b2, .ref b3, .ref b4, .ref b5, .ref b6, .ref b7])), (ac, .inr (0, [.int k0, .int k1, .ref a2, .ref a3, .ref a4, .ref a5, .ref a6, .ref a7])), (b1, .inl (cI, 9, .inl (upd (upd (upd g1 2 2) 0 2) 1 2))), (b2, .inl (cI, 9, .inl (upd (upd g2 0 20) 1 21))), (b3, .inl (cI, 9, .inl (upd (upd g3 0 1) 1 1))), (b4, .inl (cJ, 9, .inr (.inl (vp_updL g4 0 1)))), (a2, .inl (cI, 28, .inl (upd (upd f2 20 0) 21 1))), (a5, .inl (cJ, 28, .inr (.inl (vp_updL (vp_updL f5 20 1) 21 1))))] := hD
  refine lv_aload_n hx hb dX8_measure_99 rfl (lv_at hl 5 rfl) ?_
  refine va_get (D := (dC, dI)) (ci := 8) (v := .ref b4) (C := RX8) (T := TX8) (N := 8) hx hb hts (fun w h => List.mem_cons_of_mem _ (ic_X8 w h)) hown hK hP 0 rfl rfl 4 (by decide) (hts _ (List.mem_cons_of_mem _ mw_17)) (fun _ h9 => h9) rfl dX8_measure_100 ?_
  refine lv_iload_n hx hb dX8_measure_103 rfl (lv_at hl 4 rfl) ?_
  refine lv_lload hx hb dX8_measure_104 (lv_at hl 2 rfl) ?_
  refine pf_last hx hb hK hP hD hS 5 1 1 rfl rfl (by decide +kernel) (by decide +kernel) (by decide) dX8_measure_106 (fun H locs hP hD hS => ?_)
  have hP : va_P (dC, dI) pf_cls [(tr, .inr (8, [.int 2, .ref b1, .ref b2, .ref b3, .ref b4, .ref b5, .ref b6, .ref b7])), (ac, .inr (0, [.int k0, .int k1, .ref a2, .ref a3, .ref a4, .ref a5, .ref a6, .ref a7])), (b1, .inl (cI, 9, .inl (upd (upd (upd g1 2 2) 0 2) 1 2))), (b2, .inl (cI, 9, .inl (upd (upd g2 0 20) 1 21))), (b3, .inl (cI, 9, .inl (upd (upd g3 0 1) 1 1))), (b4, .inl (cJ, 9, .inr (.inl (vp_updL (vp_updL g4 0 1) 1 1)))), (a2, .inl (cI, 28, .inl (upd (upd f2 20 0) 21 1))), (a5, .inl (cJ, 28, .inr (.inl (vp_updL (vp_updL f5 20 1) 21 1))))] H := hP
  have hD : va_D A [(tr, .inr (8, [.int 2, .ref b1, .ref b2, .ref b3, .ref b4, .ref b5, .ref b6, .ref b7])), (ac, .inr (0, [.int k0, .int k1, .ref a2, .ref a3, .ref a4, .ref a5, .ref a6, .ref a7])), (b1, .inl (cI, 9, .inl (upd (upd (upd g1 2 2) 0 2) 1 2))), (b2, .inl (cI, 9, .inl (upd (upd g2 0 20) 1 21))), (b3, .inl (cI, 9, .inl (upd (upd g3 0 1) 1 1))), (b4, .inl (cJ, 9, .inr (.inl (vp_updL (vp_updL g4 0 1) 1 1)))), (a2, .inl (cI, 28, .inl (upd (upd f2 20 0) 21 1))), (a5, .inl (cJ, 28, .inr (.inl (vp_updL (vp_updL f5 20 1) 21 1))))] := hD
  refine lv_iinc (v := 2) (lv' := [(2, .int 2), (6, .int 2), (3, .int 1), (4, .long 1), (7, .int 21), (0, .ref tr), (1, .ref ac)]) hx hb dX8_measure_107 hl (k := 4) rfl (by decide +kernel) (by decide) rfl (fun ls hl => ?_)
  refine lv_goto (tgt := 2) hx hb dX8_measure_110 (by decide) ?_
  refine lv_iload_n hx hb dX8_measure_2 rfl (lv_at hl 0 rfl) ?_
  refine lv_aload_n hx hb dX8_measure_3 rfl (lv_at hl 5 rfl) ?_
  refine va_get (D := (dC, dI)) (ci := 8) (v := .int 2) (C := RX8) (T := TX8) (N := 8) hx hb hts (fun w h => List.mem_cons_of_mem _ (ic_X8 w h)) hown hK hP 0 rfl rfl 0 (by decide) (hts _ (List.mem_cons_of_mem _ mw_72)) (fun _ h9 => h9) rfl dX8_measure_4 ?_
  refine lv_icmp_ge (tgt := 113) hx hb dX8_measure_7 (by decide) (fun _ => ?_) (fun c10 => absurd (by decide +kernel) c10)
  have hP9 := hP.sub (ws' := [(tr, .inr (8, [.int 2, .ref b1, .ref b2, .ref b3, .ref b4, .ref b5, .ref b6, .ref b7])), (ac, .inr (0, [.int k0, .int k1, .ref a2, .ref a3, .ref a4, .ref a5, .ref a6, .ref a7])), (b1, .inl (cI, 9, .inl (upd (upd (upd g1 2 2) 0 2) 1 2))), (b2, .inl (cI, 9, .inl (upd (upd g2 0 20) 1 21))), (b3, .inl (cI, 9, .inl (upd (upd g3 0 1) 1 1))), (b4, .inl (cJ, 9, .inr (.inl (vp_updL (vp_updL g4 0 1) 1 1)))), (a2, .inl (cI, 28, .inl (upd (upd f2 20 0) 21 1))), (a5, .inl (cJ, 28, .inr (.inl (vp_updL (vp_updL f5 20 1) 21 1))))]) [0, 1, 2, 3, 4, 5, 6, 7] rfl
  have hD9 := hD.sub (ws' := [(tr, .inr (8, [.int 2, .ref b1, .ref b2, .ref b3, .ref b4, .ref b5, .ref b6, .ref b7])), (ac, .inr (0, [.int k0, .int k1, .ref a2, .ref a3, .ref a4, .ref a5, .ref a6, .ref a7])), (b1, .inl (cI, 9, .inl (upd (upd (upd g1 2 2) 0 2) 1 2))), (b2, .inl (cI, 9, .inl (upd (upd g2 0 20) 1 21))), (b3, .inl (cI, 9, .inl (upd (upd g3 0 1) 1 1))), (b4, .inl (cJ, 9, .inr (.inl (vp_updL (vp_updL g4 0 1) 1 1)))), (a2, .inl (cI, 28, .inl (upd (upd f2 20 0) 21 1))), (a5, .inl (cJ, 28, .inr (.inl (vp_updL (vp_updL f5 20 1) 21 1))))]) [0, 1, 2, 3, 4, 5, 6, 7] (by decide +kernel) rfl
  refine W.widen (k := 0) (n := 0) (Nat.le_of_ble_eq_true rfl) (Nat.le_of_ble_eq_true rfl) ?_
  exact W.vret hx hb hr (fun t ht hW => ⟨⟨(), rfl, trivial, (by rw [ht]; exact hP9), hD9⟩, hS.F ht⟩) hS.2.2 dX8_measure_113
set_option maxHeartbeats 40000000 in
set_option maxRecDepth 100000 in
theorem c_putInOrder (l : Launch) (dC : Nat → ClassId) (dI : Nat → Nat → Nat) (cI cJ cZ cO : ClassId) (sz : Nat) (tr : Nat) (b1 : Nat) (b2 : Nat) (b3 : Nat) (b4 : Nat) (b5 : Nat) (b6 : Nat) (b7 : Nat) (g1 : Nat → Int32) (g5 : Nat → Int32) (g6 : Nat → Int32) (g7 : Nat → Int32)  : Met l yX8_putInOrder (Cond.code yX8_putInOrder cX8_putInOrder 5 none :: pf_W) ({ frames := 1, cells := 0, slots := 0, locals := 23 }) (va_Pc [.ref tr] (fun U => U.heap.size = sz ∧ va_P (dC, dI) pf_cls [(tr, .inr (8, [.int 2, .ref b1, .ref b2, .ref b3, .ref b4, .ref b5, .ref b6, .ref b7])), (b1, .inl (cI, 9, .inl (upd (upd (upd g1 2 2) 0 2) 1 2))), (b5, .inl (cI, 9, .inl g5)), (b6, .inl (cI, 9, .inl g6)), (b7, .inl (cI, 9, .inl g7))] U.heap ∧ va_K (dC, dI) pf_cls (pf_ty cI cJ cZ cO) U ∧ va_D (fun _ => True) [(tr, .inr (8, [.int 2, .ref b1, .ref b2, .ref b3, .ref b4, .ref b5, .ref b6, .ref b7])), (b1, .inl (cI, 9, .inl (upd (upd (upd g1 2 2) 0 2) 1 2))), (b5, .inl (cI, 9, .inl g5)), (b6, .inl (cI, 9, .inl g6)), (b7, .inl (cI, 9, .inl g7))])) (va_Qv (fun (_ : Unit) => True) (fun (_ : Unit) (t : State) => va_P (dC, dI) pf_cls [(tr, .inr (8, [.int 2, .ref b1, .ref b2, .ref b3, .ref b4, .ref b5, .ref b6, .ref b7])), (b1, .inl (cI, 9, .inl (upd (upd (upd g1 2 2) 0 2) 1 2))), (b5, .inl (cI, 9, .inl (upd (upd (upd (upd (upd (upd (upd (upd (upd (upd (upd g5 0 0) 1 0) 2 0) 3 0) 4 0) 5 0) 6 0) 7 0) 8 0) 0 1) 1 1))), (b6, .inl (cI, 9, .inl (upd (upd (upd g6 0 2) 1 0) 2 1))), (b7, .inl (cI, 9, .inl (upd (upd (upd g7 0 2) 0 1) 1 0)))] t.heap ∧ va_D (va_A [(tr, .inr (8, [.int 2, .ref b1, .ref b2, .ref b3, .ref b4, .ref b5, .ref b6, .ref b7])), (b1, .inl (cI, 9, .inl (upd (upd (upd g1 2 2) 0 2) 1 2))), (b5, .inl (cI, 9, .inl g5)), (b6, .inl (cI, 9, .inl g6)), (b7, .inl (cI, 9, .inl g7))] sz) [(tr, .inr (8, [.int 2, .ref b1, .ref b2, .ref b3, .ref b4, .ref b5, .ref b6, .ref b7])), (b1, .inl (cI, 9, .inl (upd (upd (upd g1 2 2) 0 2) 1 2))), (b5, .inl (cI, 9, .inl (upd (upd (upd (upd (upd (upd (upd (upd (upd (upd (upd g5 0 0) 1 0) 2 0) 3 0) 4 0) 5 0) 6 0) 7 0) 8 0) 0 1) 1 1))), (b6, .inl (cI, 9, .inl (upd (upd (upd g6 0 2) 1 0) 2 1))), (b7, .inl (cI, 9, .inl (upd (upd (upd g7 0 2) 0 1) 1 0)))]) (va_A [(tr, .inr (8, [.int 2, .ref b1, .ref b2, .ref b3, .ref b4, .ref b5, .ref b6, .ref b7])), (b1, .inl (cI, 9, .inl (upd (upd (upd g1 2 2) 0 2) 1 2))), (b5, .inl (cI, 9, .inl g5)), (b6, .inl (cI, 9, .inl g6)), (b7, .inl (cI, 9, .inl g7))] sz)) 0 0 (va_A [(tr, .inr (8, [.int 2, .ref b1, .ref b2, .ref b3, .ref b4, .ref b5, .ref b6, .ref b7])), (b1, .inl (cI, 9, .inl (upd (upd (upd g1 2 2) 0 2) 1 2))), (b5, .inl (cI, 9, .inl g5)), (b6, .inl (cI, 9, .inl g6)), (b7, .inl (cI, 9, .inl g7))] sz) := by
  refine Met.ofW (cc := cX8_putInOrder) (maxL := 5) (ret := none) (by decide) rfl ?_
  intro p e s m args below meth c s₁ B hml hv
  obtain ⟨rfl, hsz, hP, hK, hD0⟩ := hv
  have hx := B.exec
  have hb := B.bytes
  have hr := B.returns
  have hts := atoms_spec (ws := Cond.code yX8_putInOrder cX8_putInOrder 5 none :: pf_W) B.pre
  have hown : s.vm.findClass RX8 = some m.cls := findClass_of_methodNamed B.named
  have hlocks := B.notSynchronized
  subst hsz
  have hD := hD0.self (sz := s.heap.size)
  generalize hAe : va_A [(tr, .inr (8, [.int 2, .ref b1, .ref b2, .ref b3, .ref b4, .ref b5, .ref b6, .ref b7])), (b1, .inl (cI, 9, .inl (upd (upd (upd g1 2 2) 0 2) 1 2))), (b5, .inl (cI, 9, .inl g5)), (b6, .inl (cI, 9, .inl g6)), (b7, .inl (cI, 9, .inl g7))] s.heap.size = A at hD ⊢
  have hA : ∀ q : Nat, s.heap.size ≤ q → A q := fun q h => by rw [← hAe]; exact Or.inr h
  have hS : va_S A s.heap s.heap [] := va_S.rf
  have hP : va_P (dC, dI) pf_cls [(tr, .inr (8, [.int 2, .ref b1, .ref b2, .ref b3, .ref b4, .ref b5, .ref b6, .ref b7])), (b1, .inl (cI, 9, .inl (upd (upd (upd g1 2 2) 0 2) 1 2))), (b5, .inl (cI, 9, .inl g5)), (b6, .inl (cI, 9, .inl g6)), (b7, .inl (cI, 9, .inl g7))] s.heap := hP
  have hl := lv_entry ([.ref tr]) (n := 5) (Nat.le_of_ble_eq_true rfl)
  rw [lg_entry_eq]
  generalize (lg_sl ([.ref tr]) ++ List.replicate (5 - (lg_sl ([.ref tr])).length) Slot.unset).toArray = ls at hl ⊢
  have hl : lv_has ls 5 [(0, .ref tr)] := hl
  refine lv_iconst (v := 1) hx hb dX8_putInOrder_0 (by decide) ?_
  refine lv_istore_n (lv' := [(1, .int 1), (0, .ref tr)]) hx hb dX8_putInOrder_1 rfl hl (by decide) rfl (fun ls hl => ?_)
  refine lv_aload_n hx hb dX8_putInOrder_2 rfl (lv_at hl 1 rfl) ?_
  refine va_get (D := (dC, dI)) (ci := 8) (v := .ref b7) (C := RX8) (T := TX8) (N := 8) hx hb hts (fun w h => List.mem_cons_of_mem _ (ic_X8 w h)) hown hK hP 0 rfl rfl 7 (by decide) (hts _ (List.mem_cons_of_mem _ mw_20)) (fun _ h9 => h9) rfl dX8_putInOrder_3 ?_
  refine lv_iconst (v := 0) hx hb dX8_putInOrder_6 (by decide) ?_
  refine lv_aload_n hx hb dX8_putInOrder_7 rfl (lv_at hl 1 rfl) ?_
  refine va_get (D := (dC, dI)) (ci := 8) (v := .int 2) (C := RX8) (T := TX8) (N := 8) hx hb hts (fun w h => List.mem_cons_of_mem _ (ic_X8 w h)) hown hK hP 0 rfl rfl 0 (by decide) (hts _ (List.mem_cons_of_mem _ mw_72)) (fun _ h9 => h9) rfl dX8_putInOrder_8 ?_
  refine pf_iast hx hb hK hP hD hS 4 0 0 rfl rfl (by decide +kernel) (by decide +kernel) (by decide) dX8_putInOrder_11 (fun H locs hP hD hS => ?_)
  have hP : va_P (dC, dI) pf_cls [(tr, .inr (8, [.int 2, .ref b1, .ref b2, .ref b3, .ref b4, .ref b5, .ref b6, .ref b7])), (b1, .inl (cI, 9, .inl (upd (upd (upd g1 2 2) 0 2) 1 2))), (b5, .inl (cI, 9, .inl g5)), (b6, .inl (cI, 9, .inl g6)), (b7, .inl (cI, 9, .inl (upd g7 0 2)))] H := hP
  have hD : va_D A [(tr, .inr (8, [.int 2, .ref b1, .ref b2, .ref b3, .ref b4, .ref b5, .ref b6, .ref b7])), (b1, .inl (cI, 9, .inl (upd (upd (upd g1 2 2) 0 2) 1 2))), (b5, .inl (cI, 9, .inl g5)), (b6, .inl (cI, 9, .inl g6)), (b7, .inl (cI, 9, .inl (upd g7 0 2)))] := hD
  refine lv_iconst (v := 0) hx hb dX8_putInOrder_12 (by decide) ?_
  refine lv_istore_n (lv' := [(2, .int 0), (1, .int 1), (0, .ref tr)]) hx hb dX8_putInOrder_13 rfl hl (by decide) rfl (fun ls hl => ?_)
  refine lv_iload_n hx hb dX8_putInOrder_14 rfl (lv_at hl 0 rfl) ?_
  refine lv_aload_n hx hb dX8_putInOrder_15 rfl (lv_at hl 2 rfl) ?_
  refine va_get (D := (dC, dI)) (ci := 8) (v := .int 2) (C := RX8) (T := TX8) (N := 8) hx hb hts (fun w h => List.mem_cons_of_mem _ (ic_X8 w h)) hown hK hP 0 rfl rfl 0 (by decide) (hts _ (List.mem_cons_of_mem _ mw_72)) (fun _ h9 => h9) rfl dX8_putInOrder_16 ?_
  refine lv_icmp_gt (tgt := 99) hx hb dX8_putInOrder_19 (by decide) (fun c0 => absurd c0 (by decide +kernel)) (fun _ => ?_)
  refine lv_iload_n hx hb dX8_putInOrder_22 rfl (lv_at hl 1 rfl) ?_
  refine lv_if_le (tgt := 99) hx hb dX8_putInOrder_23 (by decide) (fun c1 => absurd c1 (by decide +kernel)) (fun _ => ?_)
  refine lv_iinc (v := 0) (lv' := [(1, .int 0), (2, .int 0), (0, .ref tr)]) hx hb dX8_putInOrder_26 hl (k := 1) rfl (by decide +kernel) (by decide) rfl (fun ls hl => ?_)
  refine lv_aload_n hx hb dX8_putInOrder_29 rfl (lv_at hl 2 rfl) ?_
  refine va_get (D := (dC, dI)) (ci := 8) (v := .ref b7) (C := RX8) (T := TX8) (N := 8) hx hb hts (fun w h => List.mem_cons_of_mem _ (ic_X8 w h)) hown hK hP 0 rfl rfl 7 (by decide) (hts _ (List.mem_cons_of_mem _ mw_20)) (fun _ h9 => h9) rfl dX8_putInOrder_30 ?_
  refine lv_iload_n hx hb dX8_putInOrder_33 rfl (lv_at hl 0 rfl) ?_
  refine pf_iald (v := 2) hx hb hK hP 4 0 0 rfl rfl (by decide +kernel) (by decide +kernel) (by decide) rfl dX8_putInOrder_34 ?_
  refine lv_istore_n (lv' := [(3, .int 2), (1, .int 0), (2, .int 0), (0, .ref tr)]) hx hb dX8_putInOrder_35 rfl hl (by decide) rfl (fun ls hl => ?_)
  refine lv_aload_n hx hb dX8_putInOrder_36 rfl (lv_at hl 3 rfl) ?_
  refine va_get (D := (dC, dI)) (ci := 8) (v := .ref b6) (C := RX8) (T := TX8) (N := 8) hx hb hts (fun w h => List.mem_cons_of_mem _ (ic_X8 w h)) hown hK hP 0 rfl rfl 6 (by decide) (hts _ (List.mem_cons_of_mem _ mw_19)) (fun _ h9 => h9) rfl dX8_putInOrder_37 ?_
  refine lv_iload_n hx hb dX8_putInOrder_40 rfl (lv_at hl 2 rfl) ?_
  refine lv_iload_n hx hb dX8_putInOrder_41 rfl (lv_at hl 0 rfl) ?_
  refine pf_iast hx hb hK hP hD hS 3 0 0 rfl rfl (by decide +kernel) (by decide +kernel) (by decide) dX8_putInOrder_42 (fun H locs hP hD hS => ?_)
  have hP : va_P (dC, dI) pf_cls [(tr, .inr (8, [.int 2, .ref b1, .ref b2, .ref b3, .ref b4, .ref b5, .ref b6, .ref b7])), (b1, .inl (cI, 9, .inl (upd (upd (upd g1 2 2) 0 2) 1 2))), (b5, .inl (cI, 9, .inl g5)), (b6, .inl (cI, 9, .inl (upd g6 0 2))), (b7, .inl (cI, 9, .inl (upd g7 0 2)))] H := hP
  have hD : va_D A [(tr, .inr (8, [.int 2, .ref b1, .ref b2, .ref b3, .ref b4, .ref b5, .ref b6, .ref b7])), (b1, .inl (cI, 9, .inl (upd (upd (upd g1 2 2) 0 2) 1 2))), (b5, .inl (cI, 9, .inl g5)), (b6, .inl (cI, 9, .inl (upd g6 0 2))), (b7, .inl (cI, 9, .inl (upd g7 0 2)))] := hD
  refine lv_aload_n hx hb dX8_putInOrder_43 rfl (lv_at hl 3 rfl) ?_
  refine va_get (D := (dC, dI)) (ci := 8) (v := .int 2) (C := RX8) (T := TX8) (N := 8) hx hb hts (fun w h => List.mem_cons_of_mem _ (ic_X8 w h)) hown hK hP 0 rfl rfl 0 (by decide) (hts _ (List.mem_cons_of_mem _ mw_72)) (fun _ h9 => h9) rfl dX8_putInOrder_44 ?_
  refine lv_iconst (v := 1) hx hb dX8_putInOrder_47 (by decide) ?_
  refine lv_isub hx hb dX8_putInOrder_48 ?_
  refine pf_topi (v := 1) (by decide +kernel) ?_
  refine lv_istore (lv' := [(4, .int 1), (3, .int 2), (1, .int 0), (2, .int 0), (0, .ref tr)]) hx hb dX8_putInOrder_49 hl (by decide) rfl (fun ls hl => ?_)
  refine lv_iload hx hb dX8_putInOrder_51 (lv_at hl 0 rfl) ?_
  refine lv_if_lt (tgt := 93) hx hb dX8_putInOrder_53 (by decide) (fun c2 => absurd c2 (by decide +kernel)) (fun _ => ?_)
  refine lv_aload_n hx hb dX8_putInOrder_56 rfl (lv_at hl 4 rfl) ?_
  refine va_get (D := (dC, dI)) (ci := 8) (v := .ref b1) (C := RX8) (T := TX8) (N := 8) hx hb hts (fun w h => List.mem_cons_of_mem _ (ic_X8 w h)) hown hK hP 0 rfl rfl 1 (by decide) (hts _ (List.mem_cons_of_mem _ mw_14)) (fun _ h9 => h9) rfl dX8_putInOrder_57 ?_
  refine lv_iload hx hb dX8_putInOrder_60 (lv_at hl 0 rfl) ?_
  refine pf_iald (v := 2) hx hb hK hP 1 0 1 rfl rfl (by decide +kernel) (by decide +kernel) (by decide) rfl dX8_putInOrder_62 ?_
  refine lv_iload_n hx hb dX8_putInOrder_63 rfl (lv_at hl 1 rfl) ?_
  refine lv_icmp_ne (tgt := 87) hx hb dX8_putInOrder_64 (by decide) (fun c3 => absurd (by decide +kernel) c3) (fun _ => ?_)
  refine lv_iload_n hx hb dX8_putInOrder_67 rfl (lv_at hl 2 rfl) ?_
  refine lv_aload_n hx hb dX8_putInOrder_68 rfl (lv_at hl 4 rfl) ?_
  refine va_get (D := (dC, dI)) (ci := 8) (v := .ref b7) (C := RX8) (T := TX8) (N := 8) hx hb hts (fun w h => List.mem_cons_of_mem _ (ic_X8 w h)) hown hK hP 0 rfl rfl 7 (by decide) (hts _ (List.mem_cons_of_mem _ mw_20)) (fun _ h9 => h9) rfl dX8_putInOrder_69 ?_
  refine va_alen (v := 9) hx hb hK hP 4 0 rfl rfl (show Int32.ofNat 9 = 9 by decide +kernel) dX8_putInOrder_72 ?_
  refine lv_icmp_ge (tgt := 87) hx hb dX8_putInOrder_73 (by decide) (fun c4 => absurd c4 (by decide +kernel)) (fun _ => ?_)
  refine lv_aload_n hx hb dX8_putInOrder_76 rfl (lv_at hl 4 rfl) ?_
  refine va_get (D := (dC, dI)) (ci := 8) (v := .ref b7) (C := RX8) (T := TX8) (N := 8) hx hb hts (fun w h => List.mem_cons_of_mem _ (ic_X8 w h)) hown hK hP 0 rfl rfl 7 (by decide) (hts _ (List.mem_cons_of_mem _ mw_20)) (fun _ h9 => h9) rfl dX8_putInOrder_77 ?_
  refine lv_iload_n hx hb dX8_putInOrder_80 rfl (lv_at hl 2 rfl) ?_
  refine lv_iload hx hb dX8_putInOrder_81 (lv_at hl 0 rfl) ?_
  refine pf_iast hx hb hK hP hD hS 4 0 0 rfl rfl (by decide +kernel) (by decide +kernel) (by decide) dX8_putInOrder_83 (fun H locs hP hD hS => ?_)
  have hP : va_P (dC, dI) pf_cls [(tr, .inr (8, [.int 2, .ref b1, .ref b2, .ref b3, .ref b4, .ref b5, .ref b6, .ref b7])), (b1, .inl (cI, 9, .inl (upd (upd (upd g1 2 2) 0 2) 1 2))), (b5, .inl (cI, 9, .inl g5)), (b6, .inl (cI, 9, .inl (upd g6 0 2))), (b7, .inl (cI, 9, .inl (upd (upd g7 0 2) 0 1)))] H := hP
  have hD : va_D A [(tr, .inr (8, [.int 2, .ref b1, .ref b2, .ref b3, .ref b4, .ref b5, .ref b6, .ref b7])), (b1, .inl (cI, 9, .inl (upd (upd (upd g1 2 2) 0 2) 1 2))), (b5, .inl (cI, 9, .inl g5)), (b6, .inl (cI, 9, .inl (upd g6 0 2))), (b7, .inl (cI, 9, .inl (upd (upd g7 0 2) 0 1)))] := hD
  refine lv_iinc (v := 1) (lv' := [(1, .int 1), (4, .int 1), (3, .int 2), (2, .int 0), (0, .ref tr)]) hx hb dX8_putInOrder_84 hl (k := 2) rfl (by decide +kernel) (by decide) rfl (fun ls hl => ?_)
  refine lv_iinc (v := 0) (lv' := [(4, .int 0), (1, .int 1), (3, .int 2), (2, .int 0), (0, .ref tr)]) hx hb dX8_putInOrder_87 hl (k := 1) rfl (by decide +kernel) (by decide) rfl (fun ls hl => ?_)
  refine lv_goto (tgt := 51) hx hb dX8_putInOrder_90 (by decide) ?_
  refine lv_iload hx hb dX8_putInOrder_51 (lv_at hl 0 rfl) ?_
  refine lv_if_lt (tgt := 93) hx hb dX8_putInOrder_53 (by decide) (fun c5 => absurd c5 (by decide +kernel)) (fun _ => ?_)
  refine lv_aload_n hx hb dX8_putInOrder_56 rfl (lv_at hl 4 rfl) ?_
  refine va_get (D := (dC, dI)) (ci := 8) (v := .ref b1) (C := RX8) (T := TX8) (N := 8) hx hb hts (fun w h => List.mem_cons_of_mem _ (ic_X8 w h)) hown hK hP 0 rfl rfl 1 (by decide) (hts _ (List.mem_cons_of_mem _ mw_14)) (fun _ h9 => h9) rfl dX8_putInOrder_57 ?_
  refine lv_iload hx hb dX8_putInOrder_60 (lv_at hl 0 rfl) ?_
  refine pf_iald (v := 2) hx hb hK hP 1 0 0 rfl rfl (by decide +kernel) (by decide +kernel) (by decide) rfl dX8_putInOrder_62 ?_
  refine lv_iload_n hx hb dX8_putInOrder_63 rfl (lv_at hl 2 rfl) ?_
  refine lv_icmp_ne (tgt := 87) hx hb dX8_putInOrder_64 (by decide) (fun c6 => absurd (by decide +kernel) c6) (fun _ => ?_)
  refine lv_iload_n hx hb dX8_putInOrder_67 rfl (lv_at hl 1 rfl) ?_
  refine lv_aload_n hx hb dX8_putInOrder_68 rfl (lv_at hl 4 rfl) ?_
  refine va_get (D := (dC, dI)) (ci := 8) (v := .ref b7) (C := RX8) (T := TX8) (N := 8) hx hb hts (fun w h => List.mem_cons_of_mem _ (ic_X8 w h)) hown hK hP 0 rfl rfl 7 (by decide) (hts _ (List.mem_cons_of_mem _ mw_20)) (fun _ h9 => h9) rfl dX8_putInOrder_69 ?_
  refine va_alen (v := 9) hx hb hK hP 4 0 rfl rfl (show Int32.ofNat 9 = 9 by decide +kernel) dX8_putInOrder_72 ?_
  refine lv_icmp_ge (tgt := 87) hx hb dX8_putInOrder_73 (by decide) (fun c7 => absurd c7 (by decide +kernel)) (fun _ => ?_)
  refine lv_aload_n hx hb dX8_putInOrder_76 rfl (lv_at hl 4 rfl) ?_
  refine va_get (D := (dC, dI)) (ci := 8) (v := .ref b7) (C := RX8) (T := TX8) (N := 8) hx hb hts (fun w h => List.mem_cons_of_mem _ (ic_X8 w h)) hown hK hP 0 rfl rfl 7 (by decide) (hts _ (List.mem_cons_of_mem _ mw_20)) (fun _ h9 => h9) rfl dX8_putInOrder_77 ?_
  refine lv_iload_n hx hb dX8_putInOrder_80 rfl (lv_at hl 1 rfl) ?_
  refine lv_iload hx hb dX8_putInOrder_81 (lv_at hl 0 rfl) ?_
  refine pf_iast hx hb hK hP hD hS 4 0 1 rfl rfl (by decide +kernel) (by decide +kernel) (by decide) dX8_putInOrder_83 (fun H locs hP hD hS => ?_)
  have hP : va_P (dC, dI) pf_cls [(tr, .inr (8, [.int 2, .ref b1, .ref b2, .ref b3, .ref b4, .ref b5, .ref b6, .ref b7])), (b1, .inl (cI, 9, .inl (upd (upd (upd g1 2 2) 0 2) 1 2))), (b5, .inl (cI, 9, .inl g5)), (b6, .inl (cI, 9, .inl (upd g6 0 2))), (b7, .inl (cI, 9, .inl (upd (upd (upd g7 0 2) 0 1) 1 0)))] H := hP
  have hD : va_D A [(tr, .inr (8, [.int 2, .ref b1, .ref b2, .ref b3, .ref b4, .ref b5, .ref b6, .ref b7])), (b1, .inl (cI, 9, .inl (upd (upd (upd g1 2 2) 0 2) 1 2))), (b5, .inl (cI, 9, .inl g5)), (b6, .inl (cI, 9, .inl (upd g6 0 2))), (b7, .inl (cI, 9, .inl (upd (upd (upd g7 0 2) 0 1) 1 0)))] := hD
  refine lv_iinc (v := 2) (lv' := [(1, .int 2), (4, .int 0), (3, .int 2), (2, .int 0), (0, .ref tr)]) hx hb dX8_putInOrder_84 hl (k := 1) rfl (by decide +kernel) (by decide) rfl (fun ls hl => ?_)
  refine lv_iinc (v := (-1)) (lv' := [(4, .int (-1)), (1, .int 2), (3, .int 2), (2, .int 0), (0, .ref tr)]) hx hb dX8_putInOrder_87 hl (k := 1) rfl (by decide +kernel) (by decide) rfl (fun ls hl => ?_)
  refine lv_goto (tgt := 51) hx hb dX8_putInOrder_90 (by decide) ?_
  refine lv_iload hx hb dX8_putInOrder_51 (lv_at hl 0 rfl) ?_
  refine lv_if_lt (tgt := 93) hx hb dX8_putInOrder_53 (by decide) (fun _ => ?_) (fun c8 => absurd (by decide +kernel) c8)
  refine lv_iinc (v := 1) (lv' := [(2, .int 1), (4, .int (-1)), (1, .int 2), (3, .int 2), (0, .ref tr)]) hx hb dX8_putInOrder_93 hl (k := 3) rfl (by decide +kernel) (by decide) rfl (fun ls hl => ?_)
  refine lv_goto (tgt := 14) hx hb dX8_putInOrder_96 (by decide) ?_
  refine lv_iload_n hx hb dX8_putInOrder_14 rfl (lv_at hl 0 rfl) ?_
  refine lv_aload_n hx hb dX8_putInOrder_15 rfl (lv_at hl 4 rfl) ?_
  refine va_get (D := (dC, dI)) (ci := 8) (v := .int 2) (C := RX8) (T := TX8) (N := 8) hx hb hts (fun w h => List.mem_cons_of_mem _ (ic_X8 w h)) hown hK hP 0 rfl rfl 0 (by decide) (hts _ (List.mem_cons_of_mem _ mw_72)) (fun _ h9 => h9) rfl dX8_putInOrder_16 ?_
  refine lv_icmp_gt (tgt := 99) hx hb dX8_putInOrder_19 (by decide) (fun c9 => absurd c9 (by decide +kernel)) (fun _ => ?_)
  refine lv_iload_n hx hb dX8_putInOrder_22 rfl (lv_at hl 2 rfl) ?_
  refine lv_if_le (tgt := 99) hx hb dX8_putInOrder_23 (by decide) (fun c10 => absurd c10 (by decide +kernel)) (fun _ => ?_)
  refine lv_iinc (v := 1) (lv' := [(1, .int 1), (2, .int 1), (4, .int (-1)), (3, .int 2), (0, .ref tr)]) hx hb dX8_putInOrder_26 hl (k := 2) rfl (by decide +kernel) (by decide) rfl (fun ls hl => ?_)
  refine lv_aload_n hx hb dX8_putInOrder_29 rfl (lv_at hl 4 rfl) ?_
  refine va_get (D := (dC, dI)) (ci := 8) (v := .ref b7) (C := RX8) (T := TX8) (N := 8) hx hb hts (fun w h => List.mem_cons_of_mem _ (ic_X8 w h)) hown hK hP 0 rfl rfl 7 (by decide) (hts _ (List.mem_cons_of_mem _ mw_20)) (fun _ h9 => h9) rfl dX8_putInOrder_30 ?_
  refine lv_iload_n hx hb dX8_putInOrder_33 rfl (lv_at hl 0 rfl) ?_
  refine pf_iald (v := 0) hx hb hK hP 4 0 1 rfl rfl (by decide +kernel) (by decide +kernel) (by decide) rfl dX8_putInOrder_34 ?_
  refine lv_istore_n (lv' := [(3, .int 0), (1, .int 1), (2, .int 1), (4, .int (-1)), (0, .ref tr)]) hx hb dX8_putInOrder_35 rfl hl (by decide) rfl (fun ls hl => ?_)
  refine lv_aload_n hx hb dX8_putInOrder_36 rfl (lv_at hl 4 rfl) ?_
  refine va_get (D := (dC, dI)) (ci := 8) (v := .ref b6) (C := RX8) (T := TX8) (N := 8) hx hb hts (fun w h => List.mem_cons_of_mem _ (ic_X8 w h)) hown hK hP 0 rfl rfl 6 (by decide) (hts _ (List.mem_cons_of_mem _ mw_19)) (fun _ h9 => h9) rfl dX8_putInOrder_37 ?_
  refine lv_iload_n hx hb dX8_putInOrder_40 rfl (lv_at hl 2 rfl) ?_
  refine lv_iload_n hx hb dX8_putInOrder_41 rfl (lv_at hl 0 rfl) ?_
  refine pf_iast hx hb hK hP hD hS 3 0 1 rfl rfl (by decide +kernel) (by decide +kernel) (by decide) dX8_putInOrder_42 (fun H locs hP hD hS => ?_)
  have hP : va_P (dC, dI) pf_cls [(tr, .inr (8, [.int 2, .ref b1, .ref b2, .ref b3, .ref b4, .ref b5, .ref b6, .ref b7])), (b1, .inl (cI, 9, .inl (upd (upd (upd g1 2 2) 0 2) 1 2))), (b5, .inl (cI, 9, .inl g5)), (b6, .inl (cI, 9, .inl (upd (upd g6 0 2) 1 0))), (b7, .inl (cI, 9, .inl (upd (upd (upd g7 0 2) 0 1) 1 0)))] H := hP
  have hD : va_D A [(tr, .inr (8, [.int 2, .ref b1, .ref b2, .ref b3, .ref b4, .ref b5, .ref b6, .ref b7])), (b1, .inl (cI, 9, .inl (upd (upd (upd g1 2 2) 0 2) 1 2))), (b5, .inl (cI, 9, .inl g5)), (b6, .inl (cI, 9, .inl (upd (upd g6 0 2) 1 0))), (b7, .inl (cI, 9, .inl (upd (upd (upd g7 0 2) 0 1) 1 0)))] := hD
  refine lv_aload_n hx hb dX8_putInOrder_43 rfl (lv_at hl 4 rfl) ?_
  refine va_get (D := (dC, dI)) (ci := 8) (v := .int 2) (C := RX8) (T := TX8) (N := 8) hx hb hts (fun w h => List.mem_cons_of_mem _ (ic_X8 w h)) hown hK hP 0 rfl rfl 0 (by decide) (hts _ (List.mem_cons_of_mem _ mw_72)) (fun _ h9 => h9) rfl dX8_putInOrder_44 ?_
  refine lv_iconst (v := 1) hx hb dX8_putInOrder_47 (by decide) ?_
  refine lv_isub hx hb dX8_putInOrder_48 ?_
  refine pf_topi (v := 1) (by decide +kernel) ?_
  refine lv_istore (lv' := [(4, .int 1), (3, .int 0), (1, .int 1), (2, .int 1), (0, .ref tr)]) hx hb dX8_putInOrder_49 hl (by decide) rfl (fun ls hl => ?_)
  refine lv_iload hx hb dX8_putInOrder_51 (lv_at hl 0 rfl) ?_
  refine lv_if_lt (tgt := 93) hx hb dX8_putInOrder_53 (by decide) (fun c11 => absurd c11 (by decide +kernel)) (fun _ => ?_)
  refine lv_aload_n hx hb dX8_putInOrder_56 rfl (lv_at hl 4 rfl) ?_
  refine va_get (D := (dC, dI)) (ci := 8) (v := .ref b1) (C := RX8) (T := TX8) (N := 8) hx hb hts (fun w h => List.mem_cons_of_mem _ (ic_X8 w h)) hown hK hP 0 rfl rfl 1 (by decide) (hts _ (List.mem_cons_of_mem _ mw_14)) (fun _ h9 => h9) rfl dX8_putInOrder_57 ?_
  refine lv_iload hx hb dX8_putInOrder_60 (lv_at hl 0 rfl) ?_
  refine pf_iald (v := 2) hx hb hK hP 1 0 1 rfl rfl (by decide +kernel) (by decide +kernel) (by decide) rfl dX8_putInOrder_62 ?_
  refine lv_iload_n hx hb dX8_putInOrder_63 rfl (lv_at hl 1 rfl) ?_
  refine lv_icmp_ne (tgt := 87) hx hb dX8_putInOrder_64 (by decide) (fun _ => ?_) (fun c12 => absurd c12 (by decide +kernel))
  refine lv_iinc (v := 0) (lv' := [(4, .int 0), (3, .int 0), (1, .int 1), (2, .int 1), (0, .ref tr)]) hx hb dX8_putInOrder_87 hl (k := 0) rfl (by decide +kernel) (by decide) rfl (fun ls hl => ?_)
  refine lv_goto (tgt := 51) hx hb dX8_putInOrder_90 (by decide) ?_
  refine lv_iload hx hb dX8_putInOrder_51 (lv_at hl 0 rfl) ?_
  refine lv_if_lt (tgt := 93) hx hb dX8_putInOrder_53 (by decide) (fun c13 => absurd c13 (by decide +kernel)) (fun _ => ?_)
  refine lv_aload_n hx hb dX8_putInOrder_56 rfl (lv_at hl 4 rfl) ?_
  refine va_get (D := (dC, dI)) (ci := 8) (v := .ref b1) (C := RX8) (T := TX8) (N := 8) hx hb hts (fun w h => List.mem_cons_of_mem _ (ic_X8 w h)) hown hK hP 0 rfl rfl 1 (by decide) (hts _ (List.mem_cons_of_mem _ mw_14)) (fun _ h9 => h9) rfl dX8_putInOrder_57 ?_
  refine lv_iload hx hb dX8_putInOrder_60 (lv_at hl 0 rfl) ?_
  refine pf_iald (v := 2) hx hb hK hP 1 0 0 rfl rfl (by decide +kernel) (by decide +kernel) (by decide) rfl dX8_putInOrder_62 ?_
  refine lv_iload_n hx hb dX8_putInOrder_63 rfl (lv_at hl 1 rfl) ?_
  refine lv_icmp_ne (tgt := 87) hx hb dX8_putInOrder_64 (by decide) (fun _ => ?_) (fun c14 => absurd c14 (by decide +kernel))
  refine lv_iinc (v := (-1)) (lv' := [(4, .int (-1)), (3, .int 0), (1, .int 1), (2, .int 1), (0, .ref tr)]) hx hb dX8_putInOrder_87 hl (k := 0) rfl (by decide +kernel) (by decide) rfl (fun ls hl => ?_)
  refine lv_goto (tgt := 51) hx hb dX8_putInOrder_90 (by decide) ?_
  refine lv_iload hx hb dX8_putInOrder_51 (lv_at hl 0 rfl) ?_
  refine lv_if_lt (tgt := 93) hx hb dX8_putInOrder_53 (by decide) (fun _ => ?_) (fun c15 => absurd (by decide +kernel) c15)
  refine lv_iinc (v := 2) (lv' := [(2, .int 2), (4, .int (-1)), (3, .int 0), (1, .int 1), (0, .ref tr)]) hx hb dX8_putInOrder_93 hl (k := 3) rfl (by decide +kernel) (by decide) rfl (fun ls hl => ?_)
  refine lv_goto (tgt := 14) hx hb dX8_putInOrder_96 (by decide) ?_
  refine lv_iload_n hx hb dX8_putInOrder_14 rfl (lv_at hl 0 rfl) ?_
  refine lv_aload_n hx hb dX8_putInOrder_15 rfl (lv_at hl 4 rfl) ?_
  refine va_get (D := (dC, dI)) (ci := 8) (v := .int 2) (C := RX8) (T := TX8) (N := 8) hx hb hts (fun w h => List.mem_cons_of_mem _ (ic_X8 w h)) hown hK hP 0 rfl rfl 0 (by decide) (hts _ (List.mem_cons_of_mem _ mw_72)) (fun _ h9 => h9) rfl dX8_putInOrder_16 ?_
  refine lv_icmp_gt (tgt := 99) hx hb dX8_putInOrder_19 (by decide) (fun c16 => absurd c16 (by decide +kernel)) (fun _ => ?_)
  refine lv_iload_n hx hb dX8_putInOrder_22 rfl (lv_at hl 3 rfl) ?_
  refine lv_if_le (tgt := 99) hx hb dX8_putInOrder_23 (by decide) (fun c17 => absurd c17 (by decide +kernel)) (fun _ => ?_)
  refine lv_iinc (v := 0) (lv' := [(1, .int 0), (2, .int 2), (4, .int (-1)), (3, .int 0), (0, .ref tr)]) hx hb dX8_putInOrder_26 hl (k := 3) rfl (by decide +kernel) (by decide) rfl (fun ls hl => ?_)
  refine lv_aload_n hx hb dX8_putInOrder_29 rfl (lv_at hl 4 rfl) ?_
  refine va_get (D := (dC, dI)) (ci := 8) (v := .ref b7) (C := RX8) (T := TX8) (N := 8) hx hb hts (fun w h => List.mem_cons_of_mem _ (ic_X8 w h)) hown hK hP 0 rfl rfl 7 (by decide) (hts _ (List.mem_cons_of_mem _ mw_20)) (fun _ h9 => h9) rfl dX8_putInOrder_30 ?_
  refine lv_iload_n hx hb dX8_putInOrder_33 rfl (lv_at hl 0 rfl) ?_
  refine pf_iald (v := 1) hx hb hK hP 4 0 0 rfl rfl (by decide +kernel) (by decide +kernel) (by decide) rfl dX8_putInOrder_34 ?_
  refine lv_istore_n (lv' := [(3, .int 1), (1, .int 0), (2, .int 2), (4, .int (-1)), (0, .ref tr)]) hx hb dX8_putInOrder_35 rfl hl (by decide) rfl (fun ls hl => ?_)
  refine lv_aload_n hx hb dX8_putInOrder_36 rfl (lv_at hl 4 rfl) ?_
  refine va_get (D := (dC, dI)) (ci := 8) (v := .ref b6) (C := RX8) (T := TX8) (N := 8) hx hb hts (fun w h => List.mem_cons_of_mem _ (ic_X8 w h)) hown hK hP 0 rfl rfl 6 (by decide) (hts _ (List.mem_cons_of_mem _ mw_19)) (fun _ h9 => h9) rfl dX8_putInOrder_37 ?_
  refine lv_iload_n hx hb dX8_putInOrder_40 rfl (lv_at hl 2 rfl) ?_
  refine lv_iload_n hx hb dX8_putInOrder_41 rfl (lv_at hl 0 rfl) ?_
  refine pf_iast hx hb hK hP hD hS 3 0 2 rfl rfl (by decide +kernel) (by decide +kernel) (by decide) dX8_putInOrder_42 (fun H locs hP hD hS => ?_)
  have hP : va_P (dC, dI) pf_cls [(tr, .inr (8, [.int 2, .ref b1, .ref b2, .ref b3, .ref b4, .ref b5, .ref b6, .ref b7])), (b1, .inl (cI, 9, .inl (upd (upd (upd g1 2 2) 0 2) 1 2))), (b5, .inl (cI, 9, .inl g5)), (b6, .inl (cI, 9, .inl (upd (upd (upd g6 0 2) 1 0) 2 1))), (b7, .inl (cI, 9, .inl (upd (upd (upd g7 0 2) 0 1) 1 0)))] H := hP
  have hD : va_D A [(tr, .inr (8, [.int 2, .ref b1, .ref b2, .ref b3, .ref b4, .ref b5, .ref b6, .ref b7])), (b1, .inl (cI, 9, .inl (upd (upd (upd g1 2 2) 0 2) 1 2))), (b5, .inl (cI, 9, .inl g5)), (b6, .inl (cI, 9, .inl (upd (upd (upd g6 0 2) 1 0) 2 1))), (b7, .inl (cI, 9, .inl (upd (upd (upd g7 0 2) 0 1) 1 0)))] := hD
  refine lv_aload_n hx hb dX8_putInOrder_43 rfl (lv_at hl 4 rfl) ?_
  refine va_get (D := (dC, dI)) (ci := 8) (v := .int 2) (C := RX8) (T := TX8) (N := 8) hx hb hts (fun w h => List.mem_cons_of_mem _ (ic_X8 w h)) hown hK hP 0 rfl rfl 0 (by decide) (hts _ (List.mem_cons_of_mem _ mw_72)) (fun _ h9 => h9) rfl dX8_putInOrder_44 ?_
  refine lv_iconst (v := 1) hx hb dX8_putInOrder_47 (by decide) ?_
  refine lv_isub hx hb dX8_putInOrder_48 ?_
  refine pf_topi (v := 1) (by decide +kernel) ?_
  refine lv_istore (lv' := [(4, .int 1), (3, .int 1), (1, .int 0), (2, .int 2), (0, .ref tr)]) hx hb dX8_putInOrder_49 hl (by decide) rfl (fun ls hl => ?_)
  refine lv_iload hx hb dX8_putInOrder_51 (lv_at hl 0 rfl) ?_
  refine lv_if_lt (tgt := 93) hx hb dX8_putInOrder_53 (by decide) (fun c18 => absurd c18 (by decide +kernel)) (fun _ => ?_)
  refine lv_aload_n hx hb dX8_putInOrder_56 rfl (lv_at hl 4 rfl) ?_
  refine va_get (D := (dC, dI)) (ci := 8) (v := .ref b1) (C := RX8) (T := TX8) (N := 8) hx hb hts (fun w h => List.mem_cons_of_mem _ (ic_X8 w h)) hown hK hP 0 rfl rfl 1 (by decide) (hts _ (List.mem_cons_of_mem _ mw_14)) (fun _ h9 => h9) rfl dX8_putInOrder_57 ?_
  refine lv_iload hx hb dX8_putInOrder_60 (lv_at hl 0 rfl) ?_
  refine pf_iald (v := 2) hx hb hK hP 1 0 1 rfl rfl (by decide +kernel) (by decide +kernel) (by decide) rfl dX8_putInOrder_62 ?_
  refine lv_iload_n hx hb dX8_putInOrder_63 rfl (lv_at hl 1 rfl) ?_
  refine lv_icmp_ne (tgt := 87) hx hb dX8_putInOrder_64 (by decide) (fun _ => ?_) (fun c19 => absurd c19 (by decide +kernel))
  refine lv_iinc (v := 0) (lv' := [(4, .int 0), (3, .int 1), (1, .int 0), (2, .int 2), (0, .ref tr)]) hx hb dX8_putInOrder_87 hl (k := 0) rfl (by decide +kernel) (by decide) rfl (fun ls hl => ?_)
  refine lv_goto (tgt := 51) hx hb dX8_putInOrder_90 (by decide) ?_
  refine lv_iload hx hb dX8_putInOrder_51 (lv_at hl 0 rfl) ?_
  refine lv_if_lt (tgt := 93) hx hb dX8_putInOrder_53 (by decide) (fun c20 => absurd c20 (by decide +kernel)) (fun _ => ?_)
  refine lv_aload_n hx hb dX8_putInOrder_56 rfl (lv_at hl 4 rfl) ?_
  refine va_get (D := (dC, dI)) (ci := 8) (v := .ref b1) (C := RX8) (T := TX8) (N := 8) hx hb hts (fun w h => List.mem_cons_of_mem _ (ic_X8 w h)) hown hK hP 0 rfl rfl 1 (by decide) (hts _ (List.mem_cons_of_mem _ mw_14)) (fun _ h9 => h9) rfl dX8_putInOrder_57 ?_
  refine lv_iload hx hb dX8_putInOrder_60 (lv_at hl 0 rfl) ?_
  refine pf_iald (v := 2) hx hb hK hP 1 0 0 rfl rfl (by decide +kernel) (by decide +kernel) (by decide) rfl dX8_putInOrder_62 ?_
  refine lv_iload_n hx hb dX8_putInOrder_63 rfl (lv_at hl 1 rfl) ?_
  refine lv_icmp_ne (tgt := 87) hx hb dX8_putInOrder_64 (by decide) (fun _ => ?_) (fun c21 => absurd c21 (by decide +kernel))
  refine lv_iinc (v := (-1)) (lv' := [(4, .int (-1)), (3, .int 1), (1, .int 0), (2, .int 2), (0, .ref tr)]) hx hb dX8_putInOrder_87 hl (k := 0) rfl (by decide +kernel) (by decide) rfl (fun ls hl => ?_)
  refine lv_goto (tgt := 51) hx hb dX8_putInOrder_90 (by decide) ?_
  refine lv_iload hx hb dX8_putInOrder_51 (lv_at hl 0 rfl) ?_
  refine lv_if_lt (tgt := 93) hx hb dX8_putInOrder_53 (by decide) (fun _ => ?_) (fun c22 => absurd (by decide +kernel) c22)
  refine lv_iinc (v := 3) (lv' := [(2, .int 3), (4, .int (-1)), (3, .int 1), (1, .int 0), (0, .ref tr)]) hx hb dX8_putInOrder_93 hl (k := 3) rfl (by decide +kernel) (by decide) rfl (fun ls hl => ?_)
  refine lv_goto (tgt := 14) hx hb dX8_putInOrder_96 (by decide) ?_
  refine lv_iload_n hx hb dX8_putInOrder_14 rfl (lv_at hl 0 rfl) ?_
  refine lv_aload_n hx hb dX8_putInOrder_15 rfl (lv_at hl 4 rfl) ?_
  refine va_get (D := (dC, dI)) (ci := 8) (v := .int 2) (C := RX8) (T := TX8) (N := 8) hx hb hts (fun w h => List.mem_cons_of_mem _ (ic_X8 w h)) hown hK hP 0 rfl rfl 0 (by decide) (hts _ (List.mem_cons_of_mem _ mw_72)) (fun _ h9 => h9) rfl dX8_putInOrder_16 ?_
  refine lv_icmp_gt (tgt := 99) hx hb dX8_putInOrder_19 (by decide) (fun _ => ?_) (fun c23 => absurd (by decide +kernel) c23)
  refine lv_aload_n hx hb dX8_putInOrder_99 rfl (lv_at hl 4 rfl) ?_
  refine va_get (D := (dC, dI)) (ci := 8) (v := .ref b5) (C := RX8) (T := TX8) (N := 8) hx hb hts (fun w h => List.mem_cons_of_mem _ (ic_X8 w h)) hown hK hP 0 rfl rfl 5 (by decide) (hts _ (List.mem_cons_of_mem _ mw_18)) (fun _ h9 => h9) rfl dX8_putInOrder_100 ?_
  refine lv_iconst (v := 0) hx hb dX8_putInOrder_103 (by decide) ?_
  have hPc := hP.sub (ws' := [(b5, .inl (cI, 9, .inl g5))]) [2] rfl
  have hDc := hD.sub (ws' := [(b5, .inl (cI, 9, .inl g5))]) [2] (by decide +kernel) rfl
  have hFc := va_free (wc := [(b5, .inl (cI, 9, .inl g5))]) hD hS hA [2] rfl
  refine va_callv (va_runS (As := [.ref b5, .int 0]) (rest := []) ⟨hx, hb, hml, hown, hts⟩ (c_fill9 l dC dI cI cJ cZ cO H.size b5 g5) (va_cwS 2 hts (pf_gS mw_75 mw_40 mw_41 mw_42) rfl rfl rfl (by decide +kernel) ⟨Nat.le_of_ble_eq_true rfl, Nat.le_of_ble_eq_true rfl⟩) ⟨fun a U g mk q => by obtain ⟨q0, q1, qP, qK, qD⟩ := q; exact ⟨q0, q1, qP, va_K.moved (u := U) (U := U.calling g mk a) (Vm.Alike.refl U.vm) qK, qD⟩, fun U hU hW => ⟨rfl, by rw [hU], by rw [hU]; exact hPc, va_K.moved hW.alike hK, hDc.weaken (fun _ _ _ _ => trivial)⟩⟩ rfl rfl hl.1 rfl (lv_room (Nat.le_of_ble_eq_true rfl)) dX8_putInOrder_104 ⟨Nat.le_of_ble_eq_true rfl, Nat.le_of_ble_eq_true rfl⟩) hS (fun q _ h => hFc q h) hFc (fun u t H1 locs ht hvm hw hB hz1 hk1 hS => ?_)
  obtain ⟨hP1, hD1⟩ := hB
  rw [ht] at hP1
  obtain ⟨hP, hD⟩ := va_join (wr := [(tr, .inr (8, [.int 2, .ref b1, .ref b2, .ref b3, .ref b4, .ref b5, .ref b6, .ref b7])), (b1, .inl (cI, 9, .inl (upd (upd (upd g1 2 2) 0 2) 1 2))), (b6, .inl (cI, 9, .inl (upd (upd (upd g6 0 2) 1 0) 2 1))), (b7, .inl (cI, 9, .inl (upd (upd (upd g7 0 2) 0 1) 1 0)))]) (w1 := [(b5, .inl (cI, 9, .inl (upd (upd (upd (upd (upd (upd (upd (upd (upd g5 0 0) 1 0) 2 0) 3 0) 4 0) 5 0) 6 0) 7 0) 8 0)))]) hP hD [2] [0, 1, 3, 4] rfl rfl (by decide +kernel) (by decide +kernel) hk1 hFc hP1 hD1
  clear hPc hDc hFc hk1 hz1
  generalize H1 = H at hP hS ⊢
  have hP : va_P (dC, dI) pf_cls [(tr, .inr (8, [.int 2, .ref b1, .ref b2, .ref b3, .ref b4, .ref b5, .ref b6, .ref b7])), (b1, .inl (cI, 9, .inl (upd (upd (upd g1 2 2) 0 2) 1 2))), (b6, .inl (cI, 9, .inl (upd (upd (upd g6 0 2) 1 0) 2 1))), (b7, .inl (cI, 9, .inl (upd (upd (upd g7 0 2) 0 1) 1 0))), (b5, .inl (cI, 9, .inl (upd (upd (upd (upd (upd (upd (upd (upd (upd g5 0 0) 1 0) 2 0) 3 0) 4 0) 5 0) 6 0) 7 0) 8 0)))] H := hP
  have hD : va_D A [(tr, .inr (8, [.int 2, .ref b1, .ref b2, .ref b3, .ref b4, .ref b5, .ref b6, .ref b7])), (b1, .inl (cI, 9, .inl (upd (upd (upd g1 2 2) 0 2) 1 2))), (b6, .inl (cI, 9, .inl (upd (upd (upd g6 0 2) 1 0) 2 1))), (b7, .inl (cI, 9, .inl (upd (upd (upd g7 0 2) 0 1) 1 0))), (b5, .inl (cI, 9, .inl (upd (upd (upd (upd (upd (upd (upd (upd (upd g5 0 0) 1 0) 2 0) 3 0) 4 0) 5 0) 6 0) 7 0) 8 0)))] := hD
  refine lv_iconst (v := 0) hx hb dX8_putInOrder_107 (by decide) ?_
  refine lv_istore_n (lv' := [(2, .int 0), (4, .int (-1)), (3, .int 1), (1, .int 0), (0, .ref tr)]) hx hb dX8_putInOrder_108 rfl hl (by decide) rfl (fun ls hl => ?_)
  refine lv_iload_n hx hb dX8_putInOrder_109 rfl (lv_at hl 0 rfl) ?_
  refine lv_aload_n hx hb dX8_putInOrder_110 rfl (lv_at hl 4 rfl) ?_
  refine va_get (D := (dC, dI)) (ci := 8) (v := .int 2) (C := RX8) (T := TX8) (N := 8) hx hb hts (fun w h => List.mem_cons_of_mem _ (ic_X8 w h)) hown hK hP 0 rfl rfl 0 (by decide) (hts _ (List.mem_cons_of_mem _ mw_72)) (fun _ h9 => h9) rfl dX8_putInOrder_111 ?_
  refine lv_icmp_ge (tgt := 169) hx hb dX8_putInOrder_114 (by decide) (fun c25 => absurd c25 (by decide +kernel)) (fun _ => ?_)
  refine lv_iconst (v := 0) hx hb dX8_putInOrder_117 (by decide) ?_
  refine lv_istore_n (lv' := [(3, .int 0), (2, .int 0), (4, .int (-1)), (1, .int 0), (0, .ref tr)]) hx hb dX8_putInOrder_118 rfl hl (by decide) rfl (fun ls hl => ?_)
  refine lv_iload_n hx hb dX8_putInOrder_119 rfl (lv_at hl 1 rfl) ?_
  refine lv_istore (lv' := [(4, .int 0), (3, .int 0), (2, .int 0), (1, .int 0), (0, .ref tr)]) hx hb dX8_putInOrder_120 hl (by decide) rfl (fun ls hl => ?_)
  refine lv_iload hx hb dX8_putInOrder_122 (lv_at hl 0 rfl) ?_
  refine lv_aload_n hx hb dX8_putInOrder_124 rfl (lv_at hl 4 rfl) ?_
  refine va_get (D := (dC, dI)) (ci := 8) (v := .int 2) (C := RX8) (T := TX8) (N := 8) hx hb hts (fun w h => List.mem_cons_of_mem _ (ic_X8 w h)) hown hK hP 0 rfl rfl 0 (by decide) (hts _ (List.mem_cons_of_mem _ mw_72)) (fun _ h9 => h9) rfl dX8_putInOrder_125 ?_
  refine lv_icmp_eq (tgt := 163) hx hb dX8_putInOrder_128 (by decide) (fun c26 => absurd c26 (by decide +kernel)) (fun _ => ?_)
  refine lv_iload_n hx hb dX8_putInOrder_131 rfl (lv_at hl 1 rfl) ?_
  refine lv_bipush (v := 8) hx hb dX8_putInOrder_132 (by decide +kernel) ?_
  refine lv_icmp_ge (tgt := 163) hx hb dX8_putInOrder_134 (by decide) (fun c27 => absurd c27 (by decide +kernel)) (fun _ => ?_)
  refine lv_aload_n hx hb dX8_putInOrder_137 rfl (lv_at hl 4 rfl) ?_
  refine va_get (D := (dC, dI)) (ci := 8) (v := .ref b5) (C := RX8) (T := TX8) (N := 8) hx hb hts (fun w h => List.mem_cons_of_mem _ (ic_X8 w h)) hown hK hP 0 rfl rfl 5 (by decide) (hts _ (List.mem_cons_of_mem _ mw_18)) (fun _ h9 => h9) rfl dX8_putInOrder_138 ?_
  refine lv_iload hx hb dX8_putInOrder_141 (lv_at hl 0 rfl) ?_
  refine lv_dup2_11 hx hb dX8_putInOrder_143 rfl rfl ?_
  refine pf_iald (v := 0) hx hb hK hP 4 0 0 rfl rfl (by decide +kernel) (by decide +kernel) (by decide) rfl dX8_putInOrder_144 ?_
  refine lv_iconst (v := 1) hx hb dX8_putInOrder_145 (by decide) ?_
  refine lv_iadd hx hb dX8_putInOrder_146 ?_
  refine pf_topi (v := 1) (by decide +kernel) ?_
  refine pf_iast hx hb hK hP hD hS 4 0 0 rfl rfl (by decide +kernel) (by decide +kernel) (by decide) dX8_putInOrder_147 (fun H locs hP hD hS => ?_)
  have hP : va_P (dC, dI) pf_cls [(tr, .inr (8, [.int 2, .ref b1, .ref b2, .ref b3, .ref b4, .ref b5, .ref b6, .ref b7])), (b1, .inl (cI, 9, .inl (upd (upd (upd g1 2 2) 0 2) 1 2))), (b6, .inl (cI, 9, .inl (upd (upd (upd g6 0 2) 1 0) 2 1))), (b7, .inl (cI, 9, .inl (upd (upd (upd g7 0 2) 0 1) 1 0))), (b5, .inl (cI, 9, .inl (upd (upd (upd (upd (upd (upd (upd (upd (upd (upd g5 0 0) 1 0) 2 0) 3 0) 4 0) 5 0) 6 0) 7 0) 8 0) 0 1)))] H := hP
  have hD : va_D A [(tr, .inr (8, [.int 2, .ref b1, .ref b2, .ref b3, .ref b4, .ref b5, .ref b6, .ref b7])), (b1, .inl (cI, 9, .inl (upd (upd (upd g1 2 2) 0 2) 1 2))), (b6, .inl (cI, 9, .inl (upd (upd (upd g6 0 2) 1 0) 2 1))), (b7, .inl (cI, 9, .inl (upd (upd (upd g7 0 2) 0 1) 1 0))), (b5, .inl (cI, 9, .inl (upd (upd (upd (upd (upd (upd (upd (upd (upd (upd g5 0 0) 1 0) 2 0) 3 0) 4 0) 5 0) 6 0) 7 0) 8 0) 0 1)))] := hD
  refine lv_iinc (v := 1) (lv' := [(3, .int 1), (4, .int 0), (2, .int 0), (1, .int 0), (0, .ref tr)]) hx hb dX8_putInOrder_148 hl (k := 1) rfl (by decide +kernel) (by decide) rfl (fun ls hl => ?_)
  refine lv_aload_n hx hb dX8_putInOrder_151 rfl (lv_at hl 4 rfl) ?_
  refine va_get (D := (dC, dI)) (ci := 8) (v := .ref b1) (C := RX8) (T := TX8) (N := 8) hx hb hts (fun w h => List.mem_cons_of_mem _ (ic_X8 w h)) hown hK hP 0 rfl rfl 1 (by decide) (hts _ (List.mem_cons_of_mem _ mw_14)) (fun _ h9 => h9) rfl dX8_putInOrder_152 ?_
  refine lv_iload hx hb dX8_putInOrder_155 (lv_at hl 1 rfl) ?_
  refine pf_iald (v := 2) hx hb hK hP 1 0 0 rfl rfl (by decide +kernel) (by decide +kernel) (by decide) rfl dX8_putInOrder_157 ?_
  refine lv_istore (lv' := [(4, .int 2), (3, .int 1), (2, .int 0), (1, .int 0), (0, .ref tr)]) hx hb dX8_putInOrder_158 hl (by decide) rfl (fun ls hl => ?_)
  refine lv_goto (tgt := 122) hx hb dX8_putInOrder_160 (by decide) ?_
  refine lv_iload hx hb dX8_putInOrder_122 (lv_at hl 0 rfl) ?_
  refine lv_aload_n hx hb dX8_putInOrder_124 rfl (lv_at hl 4 rfl) ?_
  refine va_get (D := (dC, dI)) (ci := 8) (v := .int 2) (C := RX8) (T := TX8) (N := 8) hx hb hts (fun w h => List.mem_cons_of_mem _ (ic_X8 w h)) hown hK hP 0 rfl rfl 0 (by decide) (hts _ (List.mem_cons_of_mem _ mw_72)) (fun _ h9 => h9) rfl dX8_putInOrder_125 ?_
  refine lv_icmp_eq (tgt := 163) hx hb dX8_putInOrder_128 (by decide) (fun _ => ?_) (fun c28 => absurd (by decide +kernel) c28)
  refine lv_iinc (v := 1) (lv' := [(2, .int 1), (4, .int 2), (3, .int 1), (1, .int 0), (0, .ref tr)]) hx hb dX8_putInOrder_163 hl (k := 2) rfl (by decide +kernel) (by decide) rfl (fun ls hl => ?_)
  refine lv_goto (tgt := 109) hx hb dX8_putInOrder_166 (by decide) ?_
  refine lv_iload_n hx hb dX8_putInOrder_109 rfl (lv_at hl 0 rfl) ?_
  refine lv_aload_n hx hb dX8_putInOrder_110 rfl (lv_at hl 4 rfl) ?_
  refine va_get (D := (dC, dI)) (ci := 8) (v := .int 2) (C := RX8) (T := TX8) (N := 8) hx hb hts (fun w h => List.mem_cons_of_mem _ (ic_X8 w h)) hown hK hP 0 rfl rfl 0 (by decide) (hts _ (List.mem_cons_of_mem _ mw_72)) (fun _ h9 => h9) rfl dX8_putInOrder_111 ?_
  refine lv_icmp_ge (tgt := 169) hx hb dX8_putInOrder_114 (by decide) (fun c29 => absurd c29 (by decide +kernel)) (fun _ => ?_)
  refine lv_iconst (v := 0) hx hb dX8_putInOrder_117 (by decide) ?_
  refine lv_istore_n (lv' := [(3, .int 0), (2, .int 1), (4, .int 2), (1, .int 0), (0, .ref tr)]) hx hb dX8_putInOrder_118 rfl hl (by decide) rfl (fun ls hl => ?_)
  refine lv_iload_n hx hb dX8_putInOrder_119 rfl (lv_at hl 1 rfl) ?_
  refine lv_istore (lv' := [(4, .int 1), (3, .int 0), (2, .int 1), (1, .int 0), (0, .ref tr)]) hx hb dX8_putInOrder_120 hl (by decide) rfl (fun ls hl => ?_)
  refine lv_iload hx hb dX8_putInOrder_122 (lv_at hl 0 rfl) ?_
  refine lv_aload_n hx hb dX8_putInOrder_124 rfl (lv_at hl 4 rfl) ?_
  refine va_get (D := (dC, dI)) (ci := 8) (v := .int 2) (C := RX8) (T := TX8) (N := 8) hx hb hts (fun w h => List.mem_cons_of_mem _ (ic_X8 w h)) hown hK hP 0 rfl rfl 0 (by decide) (hts _ (List.mem_cons_of_mem _ mw_72)) (fun _ h9 => h9) rfl dX8_putInOrder_125 ?_
  refine lv_icmp_eq (tgt := 163) hx hb dX8_putInOrder_128 (by decide) (fun c30 => absurd c30 (by decide +kernel)) (fun _ => ?_)
  refine lv_iload_n hx hb dX8_putInOrder_131 rfl (lv_at hl 1 rfl) ?_
  refine lv_bipush (v := 8) hx hb dX8_putInOrder_132 (by decide +kernel) ?_
  refine lv_icmp_ge (tgt := 163) hx hb dX8_putInOrder_134 (by decide) (fun c31 => absurd c31 (by decide +kernel)) (fun _ => ?_)
  refine lv_aload_n hx hb dX8_putInOrder_137 rfl (lv_at hl 4 rfl) ?_
  refine va_get (D := (dC, dI)) (ci := 8) (v := .ref b5) (C := RX8) (T := TX8) (N := 8) hx hb hts (fun w h => List.mem_cons_of_mem _ (ic_X8 w h)) hown hK hP 0 rfl rfl 5 (by decide) (hts _ (List.mem_cons_of_mem _ mw_18)) (fun _ h9 => h9) rfl dX8_putInOrder_138 ?_
  refine lv_iload hx hb dX8_putInOrder_141 (lv_at hl 0 rfl) ?_
  refine lv_dup2_11 hx hb dX8_putInOrder_143 rfl rfl ?_
  refine pf_iald (v := 0) hx hb hK hP 4 0 1 rfl rfl (by decide +kernel) (by decide +kernel) (by decide) rfl dX8_putInOrder_144 ?_
  refine lv_iconst (v := 1) hx hb dX8_putInOrder_145 (by decide) ?_
  refine lv_iadd hx hb dX8_putInOrder_146 ?_
  refine pf_topi (v := 1) (by decide +kernel) ?_
  refine pf_iast hx hb hK hP hD hS 4 0 1 rfl rfl (by decide +kernel) (by decide +kernel) (by decide) dX8_putInOrder_147 (fun H locs hP hD hS => ?_)
  have hP : va_P (dC, dI) pf_cls [(tr, .inr (8, [.int 2, .ref b1, .ref b2, .ref b3, .ref b4, .ref b5, .ref b6, .ref b7])), (b1, .inl (cI, 9, .inl (upd (upd (upd g1 2 2) 0 2) 1 2))), (b6, .inl (cI, 9, .inl (upd (upd (upd g6 0 2) 1 0) 2 1))), (b7, .inl (cI, 9, .inl (upd (upd (upd g7 0 2) 0 1) 1 0))), (b5, .inl (cI, 9, .inl (upd (upd (upd (upd (upd (upd (upd (upd (upd (upd (upd g5 0 0) 1 0) 2 0) 3 0) 4 0) 5 0) 6 0) 7 0) 8 0) 0 1) 1 1)))] H := hP
  have hD : va_D A [(tr, .inr (8, [.int 2, .ref b1, .ref b2, .ref b3, .ref b4, .ref b5, .ref b6, .ref b7])), (b1, .inl (cI, 9, .inl (upd (upd (upd g1 2 2) 0 2) 1 2))), (b6, .inl (cI, 9, .inl (upd (upd (upd g6 0 2) 1 0) 2 1))), (b7, .inl (cI, 9, .inl (upd (upd (upd g7 0 2) 0 1) 1 0))), (b5, .inl (cI, 9, .inl (upd (upd (upd (upd (upd (upd (upd (upd (upd (upd (upd g5 0 0) 1 0) 2 0) 3 0) 4 0) 5 0) 6 0) 7 0) 8 0) 0 1) 1 1)))] := hD
  refine lv_iinc (v := 1) (lv' := [(3, .int 1), (4, .int 1), (2, .int 1), (1, .int 0), (0, .ref tr)]) hx hb dX8_putInOrder_148 hl (k := 1) rfl (by decide +kernel) (by decide) rfl (fun ls hl => ?_)
  refine lv_aload_n hx hb dX8_putInOrder_151 rfl (lv_at hl 4 rfl) ?_
  refine va_get (D := (dC, dI)) (ci := 8) (v := .ref b1) (C := RX8) (T := TX8) (N := 8) hx hb hts (fun w h => List.mem_cons_of_mem _ (ic_X8 w h)) hown hK hP 0 rfl rfl 1 (by decide) (hts _ (List.mem_cons_of_mem _ mw_14)) (fun _ h9 => h9) rfl dX8_putInOrder_152 ?_
  refine lv_iload hx hb dX8_putInOrder_155 (lv_at hl 1 rfl) ?_
  refine pf_iald (v := 2) hx hb hK hP 1 0 1 rfl rfl (by decide +kernel) (by decide +kernel) (by decide) rfl dX8_putInOrder_157 ?_
  refine lv_istore (lv' := [(4, .int 2), (3, .int 1), (2, .int 1), (1, .int 0), (0, .ref tr)]) hx hb dX8_putInOrder_158 hl (by decide) rfl (fun ls hl => ?_)
  refine lv_goto (tgt := 122) hx hb dX8_putInOrder_160 (by decide) ?_
  refine lv_iload hx hb dX8_putInOrder_122 (lv_at hl 0 rfl) ?_
  refine lv_aload_n hx hb dX8_putInOrder_124 rfl (lv_at hl 4 rfl) ?_
  refine va_get (D := (dC, dI)) (ci := 8) (v := .int 2) (C := RX8) (T := TX8) (N := 8) hx hb hts (fun w h => List.mem_cons_of_mem _ (ic_X8 w h)) hown hK hP 0 rfl rfl 0 (by decide) (hts _ (List.mem_cons_of_mem _ mw_72)) (fun _ h9 => h9) rfl dX8_putInOrder_125 ?_
  refine lv_icmp_eq (tgt := 163) hx hb dX8_putInOrder_128 (by decide) (fun _ => ?_) (fun c32 => absurd (by decide +kernel) c32)
  refine lv_iinc (v := 2) (lv' := [(2, .int 2), (4, .int 2), (3, .int 1), (1, .int 0), (0, .ref tr)]) hx hb dX8_putInOrder_163 hl (k := 2) rfl (by decide +kernel) (by decide) rfl (fun ls hl => ?_)
  refine lv_goto (tgt := 109) hx hb dX8_putInOrder_166 (by decide) ?_
  refine lv_iload_n hx hb dX8_putInOrder_109 rfl (lv_at hl 0 rfl) ?_
  refine lv_aload_n hx hb dX8_putInOrder_110 rfl (lv_at hl 4 rfl) ?_
  refine va_get (D := (dC, dI)) (ci := 8) (v := .int 2) (C := RX8) (T := TX8) (N := 8) hx hb hts (fun w h => List.mem_cons_of_mem _ (ic_X8 w h)) hown hK hP 0 rfl rfl 0 (by decide) (hts _ (List.mem_cons_of_mem _ mw_72)) (fun _ h9 => h9) rfl dX8_putInOrder_111 ?_
  refine lv_icmp_ge (tgt := 169) hx hb dX8_putInOrder_114 (by decide) (fun _ => ?_) (fun c33 => absurd (by decide +kernel) c33)
  have hP9 := hP.sub (ws' := [(tr, .inr (8, [.int 2, .ref b1, .ref b2, .ref b3, .ref b4, .ref b5, .ref b6, .ref b7])), (b1, .inl (cI, 9, .inl (upd (upd (upd g1 2 2) 0 2) 1 2))), (b5, .inl (cI, 9, .inl (upd (upd (upd (upd (upd (upd (upd (upd (upd (upd (upd g5 0 0) 1 0) 2 0) 3 0) 4 0) 5 0) 6 0) 7 0) 8 0) 0 1) 1 1))), (b6, .inl (cI, 9, .inl (upd (upd (upd g6 0 2) 1 0) 2 1))), (b7, .inl (cI, 9, .inl (upd (upd (upd g7 0 2) 0 1) 1 0)))]) [0, 1, 4, 2, 3] rfl
  have hD9 := hD.sub (ws' := [(tr, .inr (8, [.int 2, .ref b1, .ref b2, .ref b3, .ref b4, .ref b5, .ref b6, .ref b7])), (b1, .inl (cI, 9, .inl (upd (upd (upd g1 2 2) 0 2) 1 2))), (b5, .inl (cI, 9, .inl (upd (upd (upd (upd (upd (upd (upd (upd (upd (upd (upd g5 0 0) 1 0) 2 0) 3 0) 4 0) 5 0) 6 0) 7 0) 8 0) 0 1) 1 1))), (b6, .inl (cI, 9, .inl (upd (upd (upd g6 0 2) 1 0) 2 1))), (b7, .inl (cI, 9, .inl (upd (upd (upd g7 0 2) 0 1) 1 0)))]) [0, 1, 4, 2, 3] (by decide +kernel) rfl
  refine W.widen (k := 0) (n := 0) (Nat.le_of_ble_eq_true rfl) (Nat.le_of_ble_eq_true rfl) ?_
  exact W.vret hx hb hr (fun t ht hW => ⟨⟨(), rfl, trivial, (by rw [ht]; exact hP9), hD9⟩, hS.F ht⟩) hS.2.2 dX8_putInOrder_169
set_option maxHeartbeats 40000000 in
set_option maxRecDepth 100000 in
theorem c_entering (l : Launch) (dC : Nat → ClassId) (dI : Nat → Nat → Nat) (cI cJ cZ cO : ClassId) (sz : Nat) (sx : Nat) (sm : Int32) (sp : Int64) (sq : Int64) (ac : Nat) (tr : Nat) (cy : Nat) (le : Nat) (ll : Nat) (rg : Nat) (k0 : Int32) (a2 : Nat) (a3 : Nat) (a4 : Nat) (a5 : Nat) (a6 : Nat) (a7 : Nat)  : Met l yX7_entering (Cond.code yX7_entering cX7_entering 7 (some .int) :: pf_W) ({ frames := 0, cells := 0, slots := 0, locals := 0 }) (va_Pc [.ref sx] (fun U => U.heap.size = sz ∧ va_P (dC, dI) pf_cls [(sx, .inr (7, [.int sm, .long sp, .long sq, .ref ac, .ref tr, .ref cy, .ref le, .ref ll, .ref rg])), (ac, .inr (0, [.int k0, .int 0, .ref a2, .ref a3, .ref a4, .ref a5, .ref a6, .ref a7]))] U.heap ∧ va_K (dC, dI) pf_cls (pf_ty cI cJ cZ cO) U ∧ va_D (fun _ => True) [(sx, .inr (7, [.int sm, .long sp, .long sq, .ref ac, .ref tr, .ref cy, .ref le, .ref ll, .ref rg])), (ac, .inr (0, [.int k0, .int 0, .ref a2, .ref a3, .ref a4, .ref a5, .ref a6, .ref a7]))])) (va_Qi (fun (r : Int32) (_ : Unit) => r = (-1)) (fun (_ : Unit) (t : State) => va_P (dC, dI) pf_cls [(sx, .inr (7, [.int sm, .long sp, .long sq, .ref ac, .ref tr, .ref cy, .ref le, .ref ll, .ref rg])), (ac, .inr (0, [.int k0, .int 0, .ref a2, .ref a3, .ref a4, .ref a5, .ref a6, .ref a7]))] t.heap ∧ va_D (va_A [(sx, .inr (7, [.int sm, .long sp, .long sq, .ref ac, .ref tr, .ref cy, .ref le, .ref ll, .ref rg])), (ac, .inr (0, [.int k0, .int 0, .ref a2, .ref a3, .ref a4, .ref a5, .ref a6, .ref a7]))] sz) [(sx, .inr (7, [.int sm, .long sp, .long sq, .ref ac, .ref tr, .ref cy, .ref le, .ref ll, .ref rg])), (ac, .inr (0, [.int k0, .int 0, .ref a2, .ref a3, .ref a4, .ref a5, .ref a6, .ref a7]))]) (va_A [(sx, .inr (7, [.int sm, .long sp, .long sq, .ref ac, .ref tr, .ref cy, .ref le, .ref ll, .ref rg])), (ac, .inr (0, [.int k0, .int 0, .ref a2, .ref a3, .ref a4, .ref a5, .ref a6, .ref a7]))] sz)) 0 0 (va_A [(sx, .inr (7, [.int sm, .long sp, .long sq, .ref ac, .ref tr, .ref cy, .ref le, .ref ll, .ref rg])), (ac, .inr (0, [.int k0, .int 0, .ref a2, .ref a3, .ref a4, .ref a5, .ref a6, .ref a7]))] sz) := by
  refine Met.ofW (cc := cX7_entering) (maxL := 7) (ret := (some .int)) (by decide) rfl ?_
  intro p e s m args below meth c s₁ B hml hv
  obtain ⟨rfl, hsz, hP, hK, hD0⟩ := hv
  have hx := B.exec
  have hb := B.bytes
  have hr := B.returns
  have hts := atoms_spec (ws := Cond.code yX7_entering cX7_entering 7 (some .int) :: pf_W) B.pre
  have hown : s.vm.findClass RX7 = some m.cls := findClass_of_methodNamed B.named
  have hlocks := B.notSynchronized
  subst hsz
  have hD := hD0.self (sz := s.heap.size)
  generalize hAe : va_A [(sx, .inr (7, [.int sm, .long sp, .long sq, .ref ac, .ref tr, .ref cy, .ref le, .ref ll, .ref rg])), (ac, .inr (0, [.int k0, .int 0, .ref a2, .ref a3, .ref a4, .ref a5, .ref a6, .ref a7]))] s.heap.size = A at hD ⊢
  have hA : ∀ q : Nat, s.heap.size ≤ q → A q := fun q h => by rw [← hAe]; exact Or.inr h
  have hS : va_S A s.heap s.heap [] := va_S.rf
  have hP : va_P (dC, dI) pf_cls [(sx, .inr (7, [.int sm, .long sp, .long sq, .ref ac, .ref tr, .ref cy, .ref le, .ref ll, .ref rg])), (ac, .inr (0, [.int k0, .int 0, .ref a2, .ref a3, .ref a4, .ref a5, .ref a6, .ref a7]))] s.heap := hP
  have hl := lv_entry ([.ref sx]) (n := 7) (Nat.le_of_ble_eq_true rfl)
  rw [lg_entry_eq]
  generalize (lg_sl ([.ref sx]) ++ List.replicate (7 - (lg_sl ([.ref sx])).length) Slot.unset).toArray = ls at hl ⊢
  have hl : lv_has ls 7 [(0, .ref sx)] := hl
  refine lv_iconst (v := (-1)) hx hb dX7_entering_0 (by decide) ?_
  refine lv_istore_n (lv' := [(1, .int (-1)), (0, .ref sx)]) hx hb dX7_entering_1 rfl hl (by decide) rfl (fun ls hl => ?_)
  refine lv_lconst (v := 0) hx hb dX7_entering_2 (by decide +kernel) ?_
  refine lv_lstore_n (lv' := [(2, .long 0), (1, .int (-1)), (0, .ref sx)]) hx hb dX7_entering_3 rfl hl (by decide) rfl (fun ls hl => ?_)
  refine lv_iconst (v := 0) hx hb dX7_entering_4 (by decide) ?_
  refine lv_istore (lv' := [(4, .int 0), (2, .long 0), (1, .int (-1)), (0, .ref sx)]) hx hb dX7_entering_5 hl (by decide) rfl (fun ls hl => ?_)
  refine lv_iload hx hb dX7_entering_7 (lv_at hl 0 rfl) ?_
  refine lv_aload_n hx hb dX7_entering_9 rfl (lv_at hl 3 rfl) ?_
  refine va_get (D := (dC, dI)) (ci := 7) (v := .ref ac) (C := RX7) (T := TX7) (N := 9) hx hb hts (fun w h => List.mem_cons_of_mem _ (ic_X7 w h)) hown hK hP 0 rfl rfl 3 (by decide) (hts _ (List.mem_cons_of_mem _ mw_76)) (fun _ h9 => h9) rfl dX7_entering_10 ?_
  refine va_get (D := (dC, dI)) (ci := 0) (v := .int 0) (C := RX0) (T := TX0) (N := 8) hx hb hts (fun w h => List.mem_cons_of_mem _ (ic_X0 w h)) hown hK hP 1 rfl rfl 1 (by decide) (hts _ (List.mem_cons_of_mem _ mw_77)) (fun _ h9 => h9) rfl dX7_entering_13 ?_
  refine lv_icmp_ge (tgt := 88) hx hb dX7_entering_16 (by decide) (fun _ => ?_) (fun c0 => absurd (by decide +kernel) c0)
  refine lv_iload_n hx hb dX7_entering_88 rfl (lv_at hl 2 rfl) ?_
  have hP9 := hP.sub (ws' := [(sx, .inr (7, [.int sm, .long sp, .long sq, .ref ac, .ref tr, .ref cy, .ref le, .ref ll, .ref rg])), (ac, .inr (0, [.int k0, .int 0, .ref a2, .ref a3, .ref a4, .ref a5, .ref a6, .ref a7]))]) [0, 1] rfl
  have hD9 := hD.sub (ws' := [(sx, .inr (7, [.int sm, .long sp, .long sq, .ref ac, .ref tr, .ref cy, .ref le, .ref ll, .ref rg])), (ac, .inr (0, [.int k0, .int 0, .ref a2, .ref a3, .ref a4, .ref a5, .ref a6, .ref a7]))]) [0, 1] (by decide +kernel) rfl
  refine W.widen (k := 0) (n := 0) (Nat.le_of_ble_eq_true rfl) (Nat.le_of_ble_eq_true rfl) ?_
  exact W.iret (v := (-1)) hx hb hr (fun t ht hW => ⟨⟨_, (), rfl, rfl, (by rw [ht]; exact hP9), hD9⟩, hS.F ht⟩) hS.2.2 dX7_entering_89
set_option maxHeartbeats 40000000 in
set_option maxRecDepth 100000 in
theorem c_rate (l : Launch) (dC : Nat → ClassId) (dI : Nat → Nat → Nat) (cI cJ cZ cO : ClassId) (sz : Nat) (sx : Nat) (n : Nat) (sp : Int64) (sq : Int64) (ac : Nat) (tr : Nat) (cy : Nat) (le : Nat) (ll : Nat) (rg : Nat) (k0 : Int32) (a2 : Nat) (a3 : Nat) (a4 : Nat) (a5 : Nat) (a6 : Nat) (a7 : Nat)  : Met l yX7_rate (Cond.code yX7_rate cX7_rate 5 (some .long) :: pf_W) ({ frames := 0, cells := 0, slots := 0, locals := 0 }) (va_Pc [.ref sx, .ref n] (fun U => U.heap.size = sz ∧ va_P (dC, dI) pf_cls [(sx, .inr (7, [.int 0, .long sp, .long sq, .ref ac, .ref tr, .ref cy, .ref le, .ref ll, .ref rg])), (ac, .inr (0, [.int k0, .int 0, .ref a2, .ref a3, .ref a4, .ref a5, .ref a6, .ref a7]))] U.heap ∧ va_K (dC, dI) pf_cls (pf_ty cI cJ cZ cO) U ∧ va_D (fun _ => True) [(sx, .inr (7, [.int 0, .long sp, .long sq, .ref ac, .ref tr, .ref cy, .ref le, .ref ll, .ref rg])), (ac, .inr (0, [.int k0, .int 0, .ref a2, .ref a3, .ref a4, .ref a5, .ref a6, .ref a7]))])) (va_Ql (fun (r : Int64) (_ : Unit) => r = 0) (fun (_ : Unit) (t : State) => va_P (dC, dI) pf_cls [(sx, .inr (7, [.int 0, .long sp, .long sq, .ref ac, .ref tr, .ref cy, .ref le, .ref ll, .ref rg])), (ac, .inr (0, [.int k0, .int 0, .ref a2, .ref a3, .ref a4, .ref a5, .ref a6, .ref a7]))] t.heap ∧ va_D (va_A [(sx, .inr (7, [.int 0, .long sp, .long sq, .ref ac, .ref tr, .ref cy, .ref le, .ref ll, .ref rg])), (ac, .inr (0, [.int k0, .int 0, .ref a2, .ref a3, .ref a4, .ref a5, .ref a6, .ref a7]))] sz) [(sx, .inr (7, [.int 0, .long sp, .long sq, .ref ac, .ref tr, .ref cy, .ref le, .ref ll, .ref rg])), (ac, .inr (0, [.int k0, .int 0, .ref a2, .ref a3, .ref a4, .ref a5, .ref a6, .ref a7]))]) (va_A [(sx, .inr (7, [.int 0, .long sp, .long sq, .ref ac, .ref tr, .ref cy, .ref le, .ref ll, .ref rg])), (ac, .inr (0, [.int k0, .int 0, .ref a2, .ref a3, .ref a4, .ref a5, .ref a6, .ref a7]))] sz)) 0 0 (va_A [(sx, .inr (7, [.int 0, .long sp, .long sq, .ref ac, .ref tr, .ref cy, .ref le, .ref ll, .ref rg])), (ac, .inr (0, [.int k0, .int 0, .ref a2, .ref a3, .ref a4, .ref a5, .ref a6, .ref a7]))] sz) := by
  refine Met.ofW (cc := cX7_rate) (maxL := 5) (ret := (some .long)) (by decide) rfl ?_
  intro p e s m args below meth c s₁ B hml hv
  obtain ⟨rfl, hsz, hP, hK, hD0⟩ := hv
  have hx := B.exec
  have hb := B.bytes
  have hr := B.returns
  have hts := atoms_spec (ws := Cond.code yX7_rate cX7_rate 5 (some .long) :: pf_W) B.pre
  have hown : s.vm.findClass RX7 = some m.cls := findClass_of_methodNamed B.named
  have hlocks := B.notSynchronized
  subst hsz
  have hD := hD0.self (sz := s.heap.size)
  generalize hAe : va_A [(sx, .inr (7, [.int 0, .long sp, .long sq, .ref ac, .ref tr, .ref cy, .ref le, .ref ll, .ref rg])), (ac, .inr (0, [.int k0, .int 0, .ref a2, .ref a3, .ref a4, .ref a5, .ref a6, .ref a7]))] s.heap.size = A at hD ⊢
  have hA : ∀ q : Nat, s.heap.size ≤ q → A q := fun q h => by rw [← hAe]; exact Or.inr h
  have hS : va_S A s.heap s.heap [] := va_S.rf
  have hP : va_P (dC, dI) pf_cls [(sx, .inr (7, [.int 0, .long sp, .long sq, .ref ac, .ref tr, .ref cy, .ref le, .ref ll, .ref rg])), (ac, .inr (0, [.int k0, .int 0, .ref a2, .ref a3, .ref a4, .ref a5, .ref a6, .ref a7]))] s.heap := hP
  have hl := lv_entry ([.ref sx, .ref n]) (n := 5) (Nat.le_of_ble_eq_true rfl)
  rw [lg_entry_eq]
  generalize (lg_sl ([.ref sx, .ref n]) ++ List.replicate (5 - (lg_sl ([.ref sx, .ref n])).length) Slot.unset).toArray = ls at hl ⊢
  have hl : lv_has ls 5 [(0, .ref sx), (1, .ref n)] := hl
  refine lv_lconst (v := 0) hx hb dX7_rate_0 (by decide +kernel) ?_
  refine lv_lstore_n (lv' := [(2, .long 0), (0, .ref sx), (1, .ref n)]) hx hb dX7_rate_1 rfl hl (by decide) rfl (fun ls hl => ?_)
  refine lv_aload_n hx hb dX7_rate_2 rfl (lv_at hl 1 rfl) ?_
  refine va_get (D := (dC, dI)) (ci := 7) (v := .int 0) (C := RX7) (T := TX7) (N := 9) hx hb hts (fun w h => List.mem_cons_of_mem _ (ic_X7 w h)) hown hK hP 0 rfl rfl 0 (by decide) (hts _ (List.mem_cons_of_mem _ mw_78)) (fun _ h9 => h9) rfl dX7_rate_3 ?_
  refine lv_if_ne (tgt := 55) hx hb dX7_rate_6 (by decide) (fun c0 => absurd (by decide +kernel) c0) (fun _ => ?_)
  refine lv_iconst (v := 0) hx hb dX7_rate_9 (by decide) ?_
  refine lv_istore (lv' := [(4, .int 0), (2, .long 0), (0, .ref sx), (1, .ref n)]) hx hb dX7_rate_10 hl (by decide) rfl (fun ls hl => ?_)
  refine lv_iload hx hb dX7_rate_12 (lv_at hl 0 rfl) ?_
  refine lv_aload_n hx hb dX7_rate_14 rfl (lv_at hl 2 rfl) ?_
  refine va_get (D := (dC, dI)) (ci := 7) (v := .ref ac) (C := RX7) (T := TX7) (N := 9) hx hb hts (fun w h => List.mem_cons_of_mem _ (ic_X7 w h)) hown hK hP 0 rfl rfl 3 (by decide) (hts _ (List.mem_cons_of_mem _ mw_76)) (fun _ h9 => h9) rfl dX7_rate_15 ?_
  refine va_get (D := (dC, dI)) (ci := 0) (v := .int 0) (C := RX0) (T := TX0) (N := 8) hx hb hts (fun w h => List.mem_cons_of_mem _ (ic_X0 w h)) hown hK hP 1 rfl rfl 1 (by decide) (hts _ (List.mem_cons_of_mem _ mw_77)) (fun _ h9 => h9) rfl dX7_rate_18 ?_
  refine lv_icmp_ge (tgt := 52) hx hb dX7_rate_21 (by decide) (fun _ => ?_) (fun c1 => absurd (by decide +kernel) c1)
  refine lv_goto (tgt := 98) hx hb dX7_rate_52 (by decide) ?_
  refine lv_lload_n hx hb dX7_rate_98 rfl (lv_at hl 1 rfl) ?_
  have hP9 := hP.sub (ws' := [(sx, .inr (7, [.int 0, .long sp, .long sq, .ref ac, .ref tr, .ref cy, .ref le, .ref ll, .ref rg])), (ac, .inr (0, [.int k0, .int 0, .ref a2, .ref a3, .ref a4, .ref a5, .ref a6, .ref a7]))]) [0, 1] rfl
  have hD9 := hD.sub (ws' := [(sx, .inr (7, [.int 0, .long sp, .long sq, .ref ac, .ref tr, .ref cy, .ref le, .ref ll, .ref rg])), (ac, .inr (0, [.int k0, .int 0, .ref a2, .ref a3, .ref a4, .ref a5, .ref a6, .ref a7]))]) [0, 1] (by decide +kernel) rfl
  refine W.widen (k := 0) (n := 0) (Nat.le_of_ble_eq_true rfl) (Nat.le_of_ble_eq_true rfl) ?_
  exact W.lret (v := 0) hx hb hr (fun t ht hW => ⟨⟨_, (), rfl, rfl, (by rw [ht]; exact hP9), hD9⟩, hS.F ht⟩) hS.2.2 dX7_rate_99
