set_option maxHeartbeats 40000000 in
set_option maxRecDepth 100000 in
theorem law_case_8 {p : Program} {e : Env} {s : State} {m : MethodId} {below : List Frame} {meth : Method} {c : Code} (l : Launch) {b t0 : Nat} {xs : Nat → Int32} (C0 : lw_At p s m meth c b 6 xs) (dC : Nat → ClassId) (dI : Nat → Nat → Nat) (cI cJ cZ cO : ClassId) (q1 q3 q11 q20 q42 q4 q5 q6 q7 q8 q9 q10 q43 q50 q58 q59 q61 q63 q44 q45 q46 q47 q48 q49 q51 q52 q53 q54 q55 q56 q57 q60 q62 q64 q66 q67 q68 q69 q70 q71 q72 q73 q74 q75 q76 q77 q78 q79 q80 q81 q82 q83 q84 q85 q86 q87 q88 q89 q90 q91 q92 q93 q94 q95 : Nat) {H : Heap} {locs : List Loc} {ls : Array Slot} (hK : va_K (dC, dI) pf_cls (pf_ty cI cJ cZ cO) s) (hSt : pf_St t0 (fun q : Nat => s.heap.size ≤ q) s s.heap) (hP : va_P (dC, dI) pf_cls [(q1, .inr (9, [.ref q3, .ref q11, .ref q20, .ref q42, .int 0])), (q3, .inr (5, [.int 2, .int 0, .int 0, .ref q4, .ref q5, .ref q6, .ref q7, .ref q8, .ref q9, .ref q10])), (q4, .inl (cI, 8, .inl (fun _ => 0))), (q42, .inr (7, [.int 0, .long 0, .long 1, .ref q43, .ref q50, .ref q58, .ref q59, .ref q61, .ref q63])), (q43, .inr (0, [.int 0, .int 0, .ref q44, .ref q45, .ref q46, .ref q47, .ref q48, .ref q49])), (q44, .inl (cI, 28, .inl (fun _ => 0))), (q45, .inl (cI, 28, .inl (fun _ => 0))), (q46, .inl (cJ, 28, .inr (.inl (fun _ => 0)))), (q47, .inl (cJ, 28, .inr (.inl (fun _ => 0)))), (q48, .inl (cJ, 28, .inr (.inl (fun _ => 0)))), (q49, .inl (cI, 28, .inl (fun _ => 0))), (q50, .inr (8, [.int 0, .ref q51, .ref q52, .ref q53, .ref q54, .ref q55, .ref q56, .ref q57])), (q51, .inl (cI, 9, .inl (fun _ => 0))), (q52, .inl (cI, 9, .inl (fun _ => 0))), (q53, .inl (cI, 9, .inl (fun _ => 0))), (q54, .inl (cJ, 9, .inr (.inl (fun _ => 0)))), (q55, .inl (cI, 9, .inl (fun _ => 0))), (q56, .inl (cI, 9, .inl (fun _ => 0))), (q57, .inl (cI, 9, .inl (fun _ => 0))), (q59, .inr (4, [.int 0, .ref q60])), (q61, .inr (4, [.int 0, .ref q62])), (q64, .inr (10, [.int 2, .int 0, .int 0, .ref q66, .ref q67, .ref q68, .ref q69, .ref q70, .ref q71, .ref q72, .int 0, .ref q73, .ref q74, .ref q75, .ref q76, .ref q77, .ref q78, .ref q79, .ref q80, .ref q81, .ref q82, .ref q83, .long 0, .int 0, .ref q84, .ref q85, .int 0, .ref q86, .ref q87, .int 0, .int 0, .int 0, .long 0, .long 0, .int 0, .long 0, .long 0, .ref q88, .ref q89, .int 0, .ref q90, .ref q91, .ref q92, .ref q93, .ref q94, .ref q95, .long 0, .long 0])), (q71, .inl (cI, 8, .inl (fun _ => 0))), (q73, .inl (cJ, 28, .inr (.inl (fun _ => 0)))), (q74, .inl (cJ, 28, .inr (.inl (fun _ => 0)))), (q75, .inl (cJ, 28, .inr (.inl (fun _ => 0)))), (q76, .inl (cI, 28, .inl (fun _ => 0))), (q77, .inl (cI, 28, .inl (fun _ => 0))), (q78, .inl (cI, 28, .inl (fun _ => 0))), (q79, .inl (cJ, 8, .inr (.inl (fun _ => 0)))), (q80, .inl (cI, 9, .inl (fun _ => 0))), (q81, .inl (cI, 9, .inl (fun _ => 0))), (q82, .inl (cI, 9, .inl (fun _ => 0))), (q83, .inl (cJ, 9, .inr (.inl (fun _ => 0))))] H) (hD : va_D (fun q : Nat => s.heap.size ≤ q) [(q1, .inr (9, [.ref q3, .ref q11, .ref q20, .ref q42, .int 0])), (q3, .inr (5, [.int 2, .int 0, .int 0, .ref q4, .ref q5, .ref q6, .ref q7, .ref q8, .ref q9, .ref q10])), (q4, .inl (cI, 8, .inl (fun _ => 0))), (q42, .inr (7, [.int 0, .long 0, .long 1, .ref q43, .ref q50, .ref q58, .ref q59, .ref q61, .ref q63])), (q43, .inr (0, [.int 0, .int 0, .ref q44, .ref q45, .ref q46, .ref q47, .ref q48, .ref q49])), (q44, .inl (cI, 28, .inl (fun _ => 0))), (q45, .inl (cI, 28, .inl (fun _ => 0))), (q46, .inl (cJ, 28, .inr (.inl (fun _ => 0)))), (q47, .inl (cJ, 28, .inr (.inl (fun _ => 0)))), (q48, .inl (cJ, 28, .inr (.inl (fun _ => 0)))), (q49, .inl (cI, 28, .inl (fun _ => 0))), (q50, .inr (8, [.int 0, .ref q51, .ref q52, .ref q53, .ref q54, .ref q55, .ref q56, .ref q57])), (q51, .inl (cI, 9, .inl (fun _ => 0))), (q52, .inl (cI, 9, .inl (fun _ => 0))), (q53, .inl (cI, 9, .inl (fun _ => 0))), (q54, .inl (cJ, 9, .inr (.inl (fun _ => 0)))), (q55, .inl (cI, 9, .inl (fun _ => 0))), (q56, .inl (cI, 9, .inl (fun _ => 0))), (q57, .inl (cI, 9, .inl (fun _ => 0))), (q59, .inr (4, [.int 0, .ref q60])), (q61, .inr (4, [.int 0, .ref q62])), (q64, .inr (10, [.int 2, .int 0, .int 0, .ref q66, .ref q67, .ref q68, .ref q69, .ref q70, .ref q71, .ref q72, .int 0, .ref q73, .ref q74, .ref q75, .ref q76, .ref q77, .ref q78, .ref q79, .ref q80, .ref q81, .ref q82, .ref q83, .long 0, .int 0, .ref q84, .ref q85, .int 0, .ref q86, .ref q87, .int 0, .int 0, .int 0, .long 0, .long 0, .int 0, .long 0, .long 0, .ref q88, .ref q89, .int 0, .ref q90, .ref q91, .ref q92, .ref q93, .ref q94, .ref q95, .long 0, .long 0])), (q71, .inl (cI, 8, .inl (fun _ => 0))), (q73, .inl (cJ, 28, .inr (.inl (fun _ => 0)))), (q74, .inl (cJ, 28, .inr (.inl (fun _ => 0)))), (q75, .inl (cJ, 28, .inr (.inl (fun _ => 0)))), (q76, .inl (cI, 28, .inl (fun _ => 0))), (q77, .inl (cI, 28, .inl (fun _ => 0))), (q78, .inl (cI, 28, .inl (fun _ => 0))), (q79, .inl (cJ, 8, .inr (.inl (fun _ => 0)))), (q80, .inl (cI, 9, .inl (fun _ => 0))), (q81, .inl (cI, 9, .inl (fun _ => 0))), (q82, .inl (cI, 9, .inl (fun _ => 0))), (q83, .inl (cJ, 9, .inr (.inl (fun _ => 0))))]) (hS : va_S (fun q : Nat => s.heap.size ≤ q) s.heap H locs) (hl : lv_has ls 4 [(3, .int 0), (2, .ref q64), (1, .ref q1), (0, .ref b)]) : W p l e room_1 s m #[Value.ref b] below meth c H locs 93 44360 (lw_Z below #[Value.ref b] s) (F0 m 404 ls []) := by
  obtain ⟨hx, hb, hr, hml, hown0, hts0, hX, hbl, hlocks, hgv⟩ := id C0
  have hown : s.vm.findClass RL = some m.cls := hown0
  have hts : ∀ w ∈ Cond.initialized RX9 :: pf_W, w.before #[Value.ref b] s = true := pf_lawW hts0
  have hA : ∀ q : Nat, s.heap.size ≤ q → (fun q : Nat => s.heap.size ≤ q) q := fun _ h => h
  have hbA : ¬ (fun q : Nat => s.heap.size ≤ q) b := Nat.not_le.mpr hbl
  refine lv_aload_n hx hb dL_law_404 rfl (lv_at hl 2 rfl) ?_
  refine lv_aload_n hx hb dL_law_405 rfl (lv_at hl 3 rfl) ?_
  refine lv_iload_n hx hb dL_law_406 rfl (lv_at hl 0 rfl) ?_
  refine lv_iconst (v := 1) hx hb dL_law_407 (by decide) ?_
  refine lv_iadd hx hb dL_law_408 ?_
  refine pf_topi (v := 1) (by decide +kernel) ?_
  refine va_sld hx hb hX hbl hbA hS (pf_vpin (k := 1) (by decide +kernel) (by decide +kernel) (by decide)) dL_law_409 ?_
  refine pf_topi (v := xs 1) (congrArg xs (by decide +kernel)) ?_
  refine lv_aload_n hx hb dL_law_410 rfl (lv_at hl 3 rfl) ?_
  refine lv_iload_n hx hb dL_law_411 rfl (lv_at hl 0 rfl) ?_
  refine lv_iconst (v := 2) hx hb dL_law_412 (by decide) ?_
  refine lv_iadd hx hb dL_law_413 ?_
  refine pf_topi (v := 2) (by decide +kernel) ?_
  refine va_sld hx hb hX hbl hbA hS (pf_vpin (k := 2) (by decide +kernel) (by decide +kernel) (by decide)) dL_law_414 ?_
  refine pf_topi (v := xs 2) (congrArg xs (by decide +kernel)) ?_
  have hPc := hP.sub (ws' := [(q1, .inr (9, [.ref q3, .ref q11, .ref q20, .ref q42, .int 0])), (q3, .inr (5, [.int 2, .int 0, .int 0, .ref q4, .ref q5, .ref q6, .ref q7, .ref q8, .ref q9, .ref q10])), (q4, .inl (cI, 8, .inl (fun _ => 0))), (q42, .inr (7, [.int 0, .long 0, .long 1, .ref q43, .ref q50, .ref q58, .ref q59, .ref q61, .ref q63])), (q43, .inr (0, [.int 0, .int 0, .ref q44, .ref q45, .ref q46, .ref q47, .ref q48, .ref q49])), (q44, .inl (cI, 28, .inl (fun _ => 0))), (q45, .inl (cI, 28, .inl (fun _ => 0))), (q46, .inl (cJ, 28, .inr (.inl (fun _ => 0)))), (q47, .inl (cJ, 28, .inr (.inl (fun _ => 0)))), (q48, .inl (cJ, 28, .inr (.inl (fun _ => 0)))), (q49, .inl (cI, 28, .inl (fun _ => 0))), (q50, .inr (8, [.int 0, .ref q51, .ref q52, .ref q53, .ref q54, .ref q55, .ref q56, .ref q57])), (q51, .inl (cI, 9, .inl (fun _ => 0))), (q52, .inl (cI, 9, .inl (fun _ => 0))), (q53, .inl (cI, 9, .inl (fun _ => 0))), (q54, .inl (cJ, 9, .inr (.inl (fun _ => 0)))), (q59, .inr (4, [.int 0, .ref q60])), (q61, .inr (4, [.int 0, .ref q62])), (q55, .inl (cI, 9, .inl (fun _ => 0))), (q56, .inl (cI, 9, .inl (fun _ => 0))), (q57, .inl (cI, 9, .inl (fun _ => 0)))]) [0, 1, 2, 3, 4, 5, 6, 7, 8, 9, 10, 11, 12, 13, 14, 15, 19, 20, 16, 17, 18] rfl
  have hDc := hD.sub (ws' := [(q1, .inr (9, [.ref q3, .ref q11, .ref q20, .ref q42, .int 0])), (q3, .inr (5, [.int 2, .int 0, .int 0, .ref q4, .ref q5, .ref q6, .ref q7, .ref q8, .ref q9, .ref q10])), (q4, .inl (cI, 8, .inl (fun _ => 0))), (q42, .inr (7, [.int 0, .long 0, .long 1, .ref q43, .ref q50, .ref q58, .ref q59, .ref q61, .ref q63])), (q43, .inr (0, [.int 0, .int 0, .ref q44, .ref q45, .ref q46, .ref q47, .ref q48, .ref q49])), (q44, .inl (cI, 28, .inl (fun _ => 0))), (q45, .inl (cI, 28, .inl (fun _ => 0))), (q46, .inl (cJ, 28, .inr (.inl (fun _ => 0)))), (q47, .inl (cJ, 28, .inr (.inl (fun _ => 0)))), (q48, .inl (cJ, 28, .inr (.inl (fun _ => 0)))), (q49, .inl (cI, 28, .inl (fun _ => 0))), (q50, .inr (8, [.int 0, .ref q51, .ref q52, .ref q53, .ref q54, .ref q55, .ref q56, .ref q57])), (q51, .inl (cI, 9, .inl (fun _ => 0))), (q52, .inl (cI, 9, .inl (fun _ => 0))), (q53, .inl (cI, 9, .inl (fun _ => 0))), (q54, .inl (cJ, 9, .inr (.inl (fun _ => 0)))), (q59, .inr (4, [.int 0, .ref q60])), (q61, .inr (4, [.int 0, .ref q62])), (q55, .inl (cI, 9, .inl (fun _ => 0))), (q56, .inl (cI, 9, .inl (fun _ => 0))), (q57, .inl (cI, 9, .inl (fun _ => 0)))]) [0, 1, 2, 3, 4, 5, 6, 7, 8, 9, 10, 11, 12, 13, 14, 15, 19, 20, 16, 17, 18] (by decide +kernel) rfl
  have hFc := va_free (wc := [(q1, .inr (9, [.ref q3, .ref q11, .ref q20, .ref q42, .int 0])), (q3, .inr (5, [.int 2, .int 0, .int 0, .ref q4, .ref q5, .ref q6, .ref q7, .ref q8, .ref q9, .ref q10])), (q4, .inl (cI, 8, .inl (fun _ => 0))), (q42, .inr (7, [.int 0, .long 0, .long 1, .ref q43, .ref q50, .ref q58, .ref q59, .ref q61, .ref q63])), (q43, .inr (0, [.int 0, .int 0, .ref q44, .ref q45, .ref q46, .ref q47, .ref q48, .ref q49])), (q44, .inl (cI, 28, .inl (fun _ => 0))), (q45, .inl (cI, 28, .inl (fun _ => 0))), (q46, .inl (cJ, 28, .inr (.inl (fun _ => 0)))), (q47, .inl (cJ, 28, .inr (.inl (fun _ => 0)))), (q48, .inl (cJ, 28, .inr (.inl (fun _ => 0)))), (q49, .inl (cI, 28, .inl (fun _ => 0))), (q50, .inr (8, [.int 0, .ref q51, .ref q52, .ref q53, .ref q54, .ref q55, .ref q56, .ref q57])), (q51, .inl (cI, 9, .inl (fun _ => 0))), (q52, .inl (cI, 9, .inl (fun _ => 0))), (q53, .inl (cI, 9, .inl (fun _ => 0))), (q54, .inl (cJ, 9, .inr (.inl (fun _ => 0)))), (q59, .inr (4, [.int 0, .ref q60])), (q61, .inr (4, [.int 0, .ref q62])), (q55, .inl (cI, 9, .inl (fun _ => 0))), (q56, .inl (cI, 9, .inl (fun _ => 0))), (q57, .inl (cI, 9, .inl (fun _ => 0)))]) hD hS hA [0, 1, 2, 3, 4, 5, 6, 7, 8, 9, 10, 11, 12, 13, 14, 15, 19, 20, 16, 17, 18] rfl
  refine va_calli (va_runV (As := [.int (xs 1), .int (xs 2)]) (rest := []) ⟨hx, hb, hml, hown, hts⟩ (c_solve l dC dI cI cJ cZ cO H.size q1 ((xs 1)) ((xs 2)) q3 q11 q20 q42 q4 q5 q6 q7 q8 q9 q10 0 0 1 q43 q50 q58 q59 q61 q63 0 0 q44 q45 q46 q47 q48 q49 ((fun _ => 0)) ((fun _ => 0)) ((fun _ => 0)) ((fun _ => 0)) ((fun _ => 0)) ((fun _ => 0)) 0 q51 q52 q53 q54 q55 q56 q57 ((fun _ => 0)) ((fun _ => 0)) ((fun _ => 0)) ((fun _ => 0)) 0 q60 0 q62 ((fun _ => 0)) ((fun _ => 0)) ((fun _ => 0))) (cwV 2 hts (pf_gV mw_557 mw_558 mw_559 mw_50 mw_560) rfl rfl rfl (by decide +kernel) ⟨Nat.le_of_ble_eq_true rfl, Nat.le_of_ble_eq_true rfl⟩) ⟨fun a U g mk q => by obtain ⟨q0, q1, qP, qK, qD⟩ := q; exact ⟨q0, q1, qP, va_K.moved (u := U) (U := U.calling g mk a) (Vm.Alike.refl U.vm) qK, qD⟩, va_recv hK hPc (ci := 9) (q0 := 0) rfl rfl, fun U hU hW => ⟨rfl, by rw [hU], by rw [hU]; exact hPc, va_K.moved hW.alike hK, hDc.weaken (fun _ _ _ _ => trivial)⟩⟩ rfl rfl hl.1 rfl (lv_room (Nat.le_of_ble_eq_true rfl)) dL_law_415 ⟨Nat.le_of_ble_eq_true rfl, Nat.le_of_ble_eq_true rfl⟩) hS (fun q _ h => hFc q h) hFc (fun r0 u t H1 locs ht hvm hw hB hz1 hk1 hS => ?_)
  have hw : (pf_solve (xs 1) (xs 2)) = r0 := (show r0 = (pf_solve (xs 1) (xs 2)) from hw).symm
  subst hw
  obtain ⟨hP, hD⟩ := va_join (wr := [(q64, .inr (10, [.int 2, .int 0, .int 0, .ref q66, .ref q67, .ref q68, .ref q69, .ref q70, .ref q71, .ref q72, .int 0, .ref q73, .ref q74, .ref q75, .ref q76, .ref q77, .ref q78, .ref q79, .ref q80, .ref q81, .ref q82, .ref q83, .long 0, .int 0, .ref q84, .ref q85, .int 0, .ref q86, .ref q87, .int 0, .int 0, .int 0, .long 0, .long 0, .int 0, .long 0, .long 0, .ref q88, .ref q89, .int 0, .ref q90, .ref q91, .ref q92, .ref q93, .ref q94, .ref q95, .long 0, .long 0])), (q71, .inl (cI, 8, .inl (fun _ => 0))), (q73, .inl (cJ, 28, .inr (.inl (fun _ => 0)))), (q74, .inl (cJ, 28, .inr (.inl (fun _ => 0)))), (q75, .inl (cJ, 28, .inr (.inl (fun _ => 0)))), (q76, .inl (cI, 28, .inl (fun _ => 0))), (q77, .inl (cI, 28, .inl (fun _ => 0))), (q78, .inl (cI, 28, .inl (fun _ => 0))), (q79, .inl (cJ, 8, .inr (.inl (fun _ => 0)))), (q80, .inl (cI, 9, .inl (fun _ => 0))), (q81, .inl (cI, 9, .inl (fun _ => 0))), (q82, .inl (cI, 9, .inl (fun _ => 0))), (q83, .inl (cJ, 9, .inr (.inl (fun _ => 0))))]) (w1 := []) hP hD [0, 1, 2, 3, 4, 5, 6, 7, 8, 9, 10, 11, 12, 13, 14, 15, 19, 20, 16, 17, 18] [21, 22, 23, 24, 25, 26, 27, 28, 29, 30, 31, 32, 33] rfl rfl (by decide +kernel) (by decide +kernel) hk1 hFc pf_Pn pf_Dn
  clear hPc hDc hFc hk1 hz1
  generalize H1 = H at hP hS ⊢
  have hP : va_P (dC, dI) pf_cls [(q64, .inr (10, [.int 2, .int 0, .int 0, .ref q66, .ref q67, .ref q68, .ref q69, .ref q70, .ref q71, .ref q72, .int 0, .ref q73, .ref q74, .ref q75, .ref q76, .ref q77, .ref q78, .ref q79, .ref q80, .ref q81, .ref q82, .ref q83, .long 0, .int 0, .ref q84, .ref q85, .int 0, .ref q86, .ref q87, .int 0, .int 0, .int 0, .long 0, .long 0, .int 0, .long 0, .long 0, .ref q88, .ref q89, .int 0, .ref q90, .ref q91, .ref q92, .ref q93, .ref q94, .ref q95, .long 0, .long 0])), (q71, .inl (cI, 8, .inl (fun _ => 0))), (q73, .inl (cJ, 28, .inr (.inl (fun _ => 0)))), (q74, .inl (cJ, 28, .inr (.inl (fun _ => 0)))), (q75, .inl (cJ, 28, .inr (.inl (fun _ => 0)))), (q76, .inl (cI, 28, .inl (fun _ => 0))), (q77, .inl (cI, 28, .inl (fun _ => 0))), (q78, .inl (cI, 28, .inl (fun _ => 0))), (q79, .inl (cJ, 8, .inr (.inl (fun _ => 0)))), (q80, .inl (cI, 9, .inl (fun _ => 0))), (q81, .inl (cI, 9, .inl (fun _ => 0))), (q82, .inl (cI, 9, .inl (fun _ => 0))), (q83, .inl (cJ, 9, .inr (.inl (fun _ => 0))))] H := hP
  have hD : va_D (fun q : Nat => s.heap.size ≤ q) [(q64, .inr (10, [.int 2, .int 0, .int 0, .ref q66, .ref q67, .ref q68, .ref q69, .ref q70, .ref q71, .ref q72, .int 0, .ref q73, .ref q74, .ref q75, .ref q76, .ref q77, .ref q78, .ref q79, .ref q80, .ref q81, .ref q82, .ref q83, .long 0, .int 0, .ref q84, .ref q85, .int 0, .ref q86, .ref q87, .int 0, .int 0, .int 0, .long 0, .long 0, .int 0, .long 0, .long 0, .ref q88, .ref q89, .int 0, .ref q90, .ref q91, .ref q92, .ref q93, .ref q94, .ref q95, .long 0, .long 0])), (q71, .inl (cI, 8, .inl (fun _ => 0))), (q73, .inl (cJ, 28, .inr (.inl (fun _ => 0)))), (q74, .inl (cJ, 28, .inr (.inl (fun _ => 0)))), (q75, .inl (cJ, 28, .inr (.inl (fun _ => 0)))), (q76, .inl (cI, 28, .inl (fun _ => 0))), (q77, .inl (cI, 28, .inl (fun _ => 0))), (q78, .inl (cI, 28, .inl (fun _ => 0))), (q79, .inl (cJ, 8, .inr (.inl (fun _ => 0)))), (q80, .inl (cI, 9, .inl (fun _ => 0))), (q81, .inl (cI, 9, .inl (fun _ => 0))), (q82, .inl (cI, 9, .inl (fun _ => 0))), (q83, .inl (cJ, 9, .inr (.inl (fun _ => 0))))] := hD
  refine lv_aload_n hx hb dL_law_418 rfl (lv_at hl 1 rfl) ?_
  refine lv_aload_n hx hb dL_law_419 rfl (lv_at hl 3 rfl) ?_
  refine lv_iload_n hx hb dL_law_420 rfl (lv_at hl 0 rfl) ?_
  refine lv_iconst (v := 1) hx hb dL_law_421 (by decide) ?_
  refine lv_iadd hx hb dL_law_422 ?_
  refine pf_topi (v := 1) (by decide +kernel) ?_
  refine va_sld hx hb hX hbl hbA hS (pf_vpin (k := 1) (by decide +kernel) (by decide +kernel) (by decide)) dL_law_423 ?_
  refine pf_topi (v := xs 1) (congrArg xs (by decide +kernel)) ?_
  refine lv_aload_n hx hb dL_law_424 rfl (lv_at hl 3 rfl) ?_
  refine lv_iload_n hx hb dL_law_425 rfl (lv_at hl 0 rfl) ?_
  refine lv_iconst (v := 2) hx hb dL_law_426 (by decide) ?_
  refine lv_iadd hx hb dL_law_427 ?_
  refine pf_topi (v := 2) (by decide +kernel) ?_
  refine va_sld hx hb hX hbl hbA hS (pf_vpin (k := 2) (by decide +kernel) (by decide +kernel) (by decide)) dL_law_428 ?_
  refine pf_topi (v := xs 2) (congrArg xs (by decide +kernel)) ?_
  have hPc := hP.sub (ws' := [(q64, .inr (10, [.int 2, .int 0, .int 0, .ref q66, .ref q67, .ref q68, .ref q69, .ref q70, .ref q71, .ref q72, .int 0, .ref q73, .ref q74, .ref q75, .ref q76, .ref q77, .ref q78, .ref q79, .ref q80, .ref q81, .ref q82, .ref q83, .long 0, .int 0, .ref q84, .ref q85, .int 0, .ref q86, .ref q87, .int 0, .int 0, .int 0, .long 0, .long 0, .int 0, .long 0, .long 0, .ref q88, .ref q89, .int 0, .ref q90, .ref q91, .ref q92, .ref q93, .ref q94, .ref q95, .long 0, .long 0])), (q71, .inl (cI, 8, .inl (fun _ => 0))), (q73, .inl (cJ, 28, .inr (.inl (fun _ => 0)))), (q74, .inl (cJ, 28, .inr (.inl (fun _ => 0)))), (q75, .inl (cJ, 28, .inr (.inl (fun _ => 0)))), (q76, .inl (cI, 28, .inl (fun _ => 0))), (q77, .inl (cI, 28, .inl (fun _ => 0))), (q78, .inl (cI, 28, .inl (fun _ => 0))), (q79, .inl (cJ, 8, .inr (.inl (fun _ => 0)))), (q80, .inl (cI, 9, .inl (fun _ => 0))), (q81, .inl (cI, 9, .inl (fun _ => 0))), (q82, .inl (cI, 9, .inl (fun _ => 0))), (q83, .inl (cJ, 9, .inr (.inl (fun _ => 0))))]) [0, 1, 2, 3, 4, 5, 6, 7, 8, 9, 10, 11, 12] rfl
  have hDc := hD.sub (ws' := [(q64, .inr (10, [.int 2, .int 0, .int 0, .ref q66, .ref q67, .ref q68, .ref q69, .ref q70, .ref q71, .ref q72, .int 0, .ref q73, .ref q74, .ref q75, .ref q76, .ref q77, .ref q78, .ref q79, .ref q80, .ref q81, .ref q82, .ref q83, .long 0, .int 0, .ref q84, .ref q85, .int 0, .ref q86, .ref q87, .int 0, .int 0, .int 0, .long 0, .long 0, .int 0, .long 0, .long 0, .ref q88, .ref q89, .int 0, .ref q90, .ref q91, .ref q92, .ref q93, .ref q94, .ref q95, .long 0, .long 0])), (q71, .inl (cI, 8, .inl (fun _ => 0))), (q73, .inl (cJ, 28, .inr (.inl (fun _ => 0)))), (q74, .inl (cJ, 28, .inr (.inl (fun _ => 0)))), (q75, .inl (cJ, 28, .inr (.inl (fun _ => 0)))), (q76, .inl (cI, 28, .inl (fun _ => 0))), (q77, .inl (cI, 28, .inl (fun _ => 0))), (q78, .inl (cI, 28, .inl (fun _ => 0))), (q79, .inl (cJ, 8, .inr (.inl (fun _ => 0)))), (q80, .inl (cI, 9, .inl (fun _ => 0))), (q81, .inl (cI, 9, .inl (fun _ => 0))), (q82, .inl (cI, 9, .inl (fun _ => 0))), (q83, .inl (cJ, 9, .inr (.inl (fun _ => 0))))]) [0, 1, 2, 3, 4, 5, 6, 7, 8, 9, 10, 11, 12] (by decide +kernel) rfl
  have hFc := va_free (wc := [(q64, .inr (10, [.int 2, .int 0, .int 0, .ref q66, .ref q67, .ref q68, .ref q69, .ref q70, .ref q71, .ref q72, .int 0, .ref q73, .ref q74, .ref q75, .ref q76, .ref q77, .ref q78, .ref q79, .ref q80, .ref q81, .ref q82, .ref q83, .long 0, .int 0, .ref q84, .ref q85, .int 0, .ref q86, .ref q87, .int 0, .int 0, .int 0, .long 0, .long 0, .int 0, .long 0, .long 0, .ref q88, .ref q89, .int 0, .ref q90, .ref q91, .ref q92, .ref q93, .ref q94, .ref q95, .long 0, .long 0])), (q71, .inl (cI, 8, .inl (fun _ => 0))), (q73, .inl (cJ, 28, .inr (.inl (fun _ => 0)))), (q74, .inl (cJ, 28, .inr (.inl (fun _ => 0)))), (q75, .inl (cJ, 28, .inr (.inl (fun _ => 0)))), (q76, .inl (cI, 28, .inl (fun _ => 0))), (q77, .inl (cI, 28, .inl (fun _ => 0))), (q78, .inl (cI, 28, .inl (fun _ => 0))), (q79, .inl (cJ, 8, .inr (.inl (fun _ => 0)))), (q80, .inl (cI, 9, .inl (fun _ => 0))), (q81, .inl (cI, 9, .inl (fun _ => 0))), (q82, .inl (cI, 9, .inl (fun _ => 0))), (q83, .inl (cJ, 9, .inr (.inl (fun _ => 0))))]) hD hS hA [0, 1, 2, 3, 4, 5, 6, 7, 8, 9, 10, 11, 12] rfl
  refine va_calli (va_runV (As := [.int (xs 1), .int (xs 2)]) (rest := [.int (pf_solve (xs 1) (xs 2))]) ⟨hx, hb, hml, hown, hts⟩ (c_m_solve l dC dI cI cJ cZ cO H.size q64 ((xs 1)) ((xs 2)) q66 q67 q68 q69 q70 q71 q72 q73 q74 q75 q76 q77 q78 q79 q80 q81 q82 q83 q84 q85 q86 q87 q88 q89 q90 q91 q92 q93 q94 q95 ((fun _ => 0)) ((fun _ => 0)) ((fun _ => 0)) ((fun _ => 0)) ((fun _ => 0)) ((fun _ => 0)) ((fun _ => 0)) ((fun _ => 0)) ((fun _ => 0)) ((fun _ => 0)) ((fun _ => 0))) (cwV 2 hts (pf_gV mw_561 mw_562 mw_563 mw_346 mw_564) rfl rfl rfl (by decide +kernel) ⟨Nat.le_of_ble_eq_true rfl, Nat.le_of_ble_eq_true rfl⟩) ⟨fun a U g mk q => by obtain ⟨q0, q1, qP, qK, qD⟩ := q; exact ⟨q0, q1, qP, va_K.moved (u := U) (U := U.calling g mk a) (Vm.Alike.refl U.vm) qK, qD⟩, va_recv hK hPc (ci := 10) (q0 := 0) rfl rfl, fun U hU hW => ⟨rfl, by rw [hU], by rw [hU]; exact hPc, va_K.moved hW.alike hK, hDc.weaken (fun _ _ _ _ => trivial)⟩⟩ rfl rfl hl.1 rfl (lv_room (Nat.le_of_ble_eq_true rfl)) dL_law_429 ⟨Nat.le_of_ble_eq_true rfl, Nat.le_of_ble_eq_true rfl⟩) hS (fun q _ h => hFc q h) hFc (fun r1 u t H1 locs ht hvm hw hB hz1 hk1 hS => ?_)
  have hw : (pf_solve (xs 1) (xs 2)) = r1 := (show r1 = (pf_solve (xs 1) (xs 2)) from hw).symm
  subst hw
  obtain ⟨hP, hD⟩ := va_join (wr := []) (w1 := []) hP hD [0, 1, 2, 3, 4, 5, 6, 7, 8, 9, 10, 11, 12] [] rfl rfl (by decide +kernel) (by decide +kernel) hk1 hFc pf_Pn pf_Dn
  clear hPc hDc hFc hk1 hz1
  generalize H1 = H at hP hS ⊢
  have hP : va_P (dC, dI) pf_cls [] H := hP
  have hD : va_D (fun q : Nat => s.heap.size ≤ q) [] := hD
  refine lv_icmp_eq (tgt := 1009) hx hb dL_law_432 (by decide) (fun _ => ?_) (fun c2 => absurd rfl c2)
  refine lv_iinc (v := 6) (lv' := [(3, .int 6), (2, .ref q64), (1, .ref q1), (0, .ref b)]) hx hb dL_law_1009 hl (k := 0) rfl (by decide +kernel) (by decide) rfl (fun ls hl => ?_)
  refine lv_goto (tgt := 18) hx hb dL_law_1012 (by decide) ?_
  refine lv_iload_n hx hb dL_law_18 rfl (lv_at hl 0 rfl) ?_
  refine lv_aload_n hx hb dL_law_19 rfl (lv_at hl 3 rfl) ?_
  refine va_slen hx hb hX hbl hbA hS dL_law_20 ?_
  refine pf_topi (v := 6) (by decide +kernel) ?_
  refine lv_bipush (v := 6) hx hb dL_law_21 (by decide +kernel) ?_
  refine lv_isub hx hb dL_law_23 ?_
  refine pf_topi (v := 0) (by decide +kernel) ?_
  refine lv_icmp_gt (tgt := 1015) hx hb dL_law_24 (by decide) (fun _ => ?_) (fun c3 => absurd (by decide +kernel) c3)
  refine lv_iconst (v := 1) hx hb dL_law_1015 (by decide) ?_
  refine va_forget (fun q hq => hS.2.2 q hq) ?_
  refine W.widen (k := 600000) (n := 7302250) (Nat.le_of_ble_eq_true rfl) (Nat.le_of_ble_eq_true rfl) ?_
  exact lw_ret hx hb hr hlocks dL_law_1016
set_option maxHeartbeats 40000000 in
set_option maxRecDepth 100000 in
theorem law_case_9 {p : Program} {e : Env} {s : State} {m : MethodId} {below : List Frame} {meth : Method} {c : Code} (l : Launch) {b t0 : Nat} {xs : Nat → Int32} (C0 : lw_At p s m meth c b 6 xs) (dC : Nat → ClassId) (dI : Nat → Nat → Nat) (cI cJ cZ cO : ClassId) (q1 q3 q11 q20 q42 q64 q66 q67 q68 q69 q70 q71 q72 q73 q74 q75 q76 q77 q78 q79 q80 q81 q82 q83 q84 q85 q86 q87 q88 q89 q90 q91 q92 q93 q94 q95 : Nat) {H : Heap} {locs : List Loc} {ls : Array Slot} (hK : va_K (dC, dI) pf_cls (pf_ty cI cJ cZ cO) s) (hSt : pf_St t0 (fun q : Nat => s.heap.size ≤ q) s s.heap) (hP : va_P (dC, dI) pf_cls [(q1, .inr (9, [.ref q3, .ref q11, .ref q20, .ref q42, .int 0])), (q64, .inr (10, [.int 2, .int 0, .int 0, .ref q66, .ref q67, .ref q68, .ref q69, .ref q70, .ref q71, .ref q72, .int 0, .ref q73, .ref q74, .ref q75, .ref q76, .ref q77, .ref q78, .ref q79, .ref q80, .ref q81, .ref q82, .ref q83, .long 0, .int 0, .ref q84, .ref q85, .int 0, .ref q86, .ref q87, .int 0, .int 0, .int 0, .long 0, .long 0, .int 0, .long 0, .long 0, .ref q88, .ref q89, .int 0, .ref q90, .ref q91, .ref q92, .ref q93, .ref q94, .ref q95, .long 0, .long 0]))] H) (hD : va_D (fun q : Nat => s.heap.size ≤ q) [(q1, .inr (9, [.ref q3, .ref q11, .ref q20, .ref q42, .int 0])), (q64, .inr (10, [.int 2, .int 0, .int 0, .ref q66, .ref q67, .ref q68, .ref q69, .ref q70, .ref q71, .ref q72, .int 0, .ref q73, .ref q74, .ref q75, .ref q76, .ref q77, .ref q78, .ref q79, .ref q80, .ref q81, .ref q82, .ref q83, .long 0, .int 0, .ref q84, .ref q85, .int 0, .ref q86, .ref q87, .int 0, .int 0, .int 0, .long 0, .long 0, .int 0, .long 0, .long 0, .ref q88, .ref q89, .int 0, .ref q90, .ref q91, .ref q92, .ref q93, .ref q94, .ref q95, .long 0, .long 0]))]) (hS : va_S (fun q : Nat => s.heap.size ≤ q) s.heap H locs) (hl : lv_has ls 4 [(3, .int 0), (2, .ref q64), (1, .ref q1), (0, .ref b)]) : W p l e room_1 s m #[Value.ref b] below meth c H locs 93 44360 (lw_Z below #[Value.ref b] s) (F0 m 437 ls []) := by
  obtain ⟨hx, hb, hr, hml, hown0, hts0, hX, hbl, hlocks, hgv⟩ := id C0
  have hown : s.vm.findClass RL = some m.cls := hown0
  have hts : ∀ w ∈ Cond.initialized RX9 :: pf_W, w.before #[Value.ref b] s = true := pf_lawW hts0
  have hA : ∀ q : Nat, s.heap.size ≤ q → (fun q : Nat => s.heap.size ≤ q) q := fun _ h => h
  have hbA : ¬ (fun q : Nat => s.heap.size ≤ q) b := Nat.not_le.mpr hbl
  refine lv_aload_n hx hb dL_law_437 rfl (lv_at hl 2 rfl) ?_
  refine lv_aload_n hx hb dL_law_438 rfl (lv_at hl 3 rfl) ?_
  refine lv_iload_n hx hb dL_law_439 rfl (lv_at hl 0 rfl) ?_
  refine lv_iconst (v := 1) hx hb dL_law_440 (by decide) ?_
  refine lv_iadd hx hb dL_law_441 ?_
  refine pf_topi (v := 1) (by decide +kernel) ?_
  refine va_sld hx hb hX hbl hbA hS (pf_vpin (k := 1) (by decide +kernel) (by decide +kernel) (by decide)) dL_law_442 ?_
  refine pf_topi (v := xs 1) (congrArg xs (by decide +kernel)) ?_
  refine lv_aload_n hx hb dL_law_443 rfl (lv_at hl 3 rfl) ?_
  refine lv_iload_n hx hb dL_law_444 rfl (lv_at hl 0 rfl) ?_
  refine lv_iconst (v := 2) hx hb dL_law_445 (by decide) ?_
  refine lv_iadd hx hb dL_law_446 ?_
  refine pf_topi (v := 2) (by decide +kernel) ?_
  refine va_sld hx hb hX hbl hbA hS (pf_vpin (k := 2) (by decide +kernel) (by decide +kernel) (by decide)) dL_law_447 ?_
  refine pf_topi (v := xs 2) (congrArg xs (by decide +kernel)) ?_
  refine lv_if_eq (tgt := 455) hx hb dL_law_448 (by decide) (fun c0 => ?_) (fun c0 => ?_)
  · skip
    refine lv_iconst (v := 0) hx hb dL_law_455 (by decide) ?_
    have hPc := hP.sub (ws' := [(q1, .inr (9, [.ref q3, .ref q11, .ref q20, .ref q42, .int 0]))]) [0] rfl
    have hDc := hD.sub (ws' := [(q1, .inr (9, [.ref q3, .ref q11, .ref q20, .ref q42, .int 0]))]) [0] (by decide +kernel) rfl
    have hFc := va_free (wc := [(q1, .inr (9, [.ref q3, .ref q11, .ref q20, .ref q42, .int 0]))]) hD hS hA [0] rfl
    refine va_calli (va_runV (As := [.int (xs 1), .int 0]) (rest := []) ⟨hx, hb, hml, hown, hts⟩ (c_pivot l dC dI cI cJ cZ cO H.size q1 ((xs 1)) 0 q3 q11 q20 q42) (cwV 2 hts (pf_gV mw_565 mw_566 mw_567 mw_50 mw_568) rfl rfl rfl (by decide +kernel) ⟨Nat.le_of_ble_eq_true rfl, Nat.le_of_ble_eq_true rfl⟩) ⟨fun a U g mk q => by obtain ⟨q0, q1, qP, qK, qD⟩ := q; exact ⟨q0, q1, qP, va_K.moved (u := U) (U := U.calling g mk a) (Vm.Alike.refl U.vm) qK, qD⟩, va_recv hK hPc (ci := 9) (q0 := 0) rfl rfl, fun U hU hW => ⟨rfl, by rw [hU], by rw [hU]; exact hPc, va_K.moved hW.alike hK, hDc.weaken (fun _ _ _ _ => trivial)⟩⟩ rfl rfl hl.1 rfl (lv_room (Nat.le_of_ble_eq_true rfl)) dL_law_456 ⟨Nat.le_of_ble_eq_true rfl, Nat.le_of_ble_eq_true rfl⟩) hS (fun q _ h => hFc q h) hFc (fun r1 u t H1 locs ht hvm hw hB hz1 hk1 hS => ?_)
    have hw : (-10005) = r1 := (show r1 = (-10005) from hw).symm
    subst hw
    obtain ⟨hP, hD⟩ := va_join (wr := [(q64, .inr (10, [.int 2, .int 0, .int 0, .ref q66, .ref q67, .ref q68, .ref q69, .ref q70, .ref q71, .ref q72, .int 0, .ref q73, .ref q74, .ref q75, .ref q76, .ref q77, .ref q78, .ref q79, .ref q80, .ref q81, .ref q82, .ref q83, .long 0, .int 0, .ref q84, .ref q85, .int 0, .ref q86, .ref q87, .int 0, .int 0, .int 0, .long 0, .long 0, .int 0, .long 0, .long 0, .ref q88, .ref q89, .int 0, .ref q90, .ref q91, .ref q92, .ref q93, .ref q94, .ref q95, .long 0, .long 0]))]) (w1 := []) hP hD [0] [1] rfl rfl (by decide +kernel) (by decide +kernel) hk1 hFc pf_Pn pf_Dn
    clear hPc hDc hFc hk1 hz1
    generalize H1 = H at hP hS ⊢
    have hP : va_P (dC, dI) pf_cls [(q64, .inr (10, [.int 2, .int 0, .int 0, .ref q66, .ref q67, .ref q68, .ref q69, .ref q70, .ref q71, .ref q72, .int 0, .ref q73, .ref q74, .ref q75, .ref q76, .ref q77, .ref q78, .ref q79, .ref q80, .ref q81, .ref q82, .ref q83, .long 0, .int 0, .ref q84, .ref q85, .int 0, .ref q86, .ref q87, .int 0, .int 0, .int 0, .long 0, .long 0, .int 0, .long 0, .long 0, .ref q88, .ref q89, .int 0, .ref q90, .ref q91, .ref q92, .ref q93, .ref q94, .ref q95, .long 0, .long 0]))] H := hP
    have hD : va_D (fun q : Nat => s.heap.size ≤ q) [(q64, .inr (10, [.int 2, .int 0, .int 0, .ref q66, .ref q67, .ref q68, .ref q69, .ref q70, .ref q71, .ref q72, .int 0, .ref q73, .ref q74, .ref q75, .ref q76, .ref q77, .ref q78, .ref q79, .ref q80, .ref q81, .ref q82, .ref q83, .long 0, .int 0, .ref q84, .ref q85, .int 0, .ref q86, .ref q87, .int 0, .int 0, .int 0, .long 0, .long 0, .int 0, .long 0, .long 0, .ref q88, .ref q89, .int 0, .ref q90, .ref q91, .ref q92, .ref q93, .ref q94, .ref q95, .long 0, .long 0]))] := hD
    refine lv_aload_n hx hb dL_law_459 rfl (lv_at hl 1 rfl) ?_
    refine lv_aload_n hx hb dL_law_460 rfl (lv_at hl 3 rfl) ?_
    refine lv_iload_n hx hb dL_law_461 rfl (lv_at hl 0 rfl) ?_
    refine lv_iconst (v := 1) hx hb dL_law_462 (by decide) ?_
    refine lv_iadd hx hb dL_law_463 ?_
    refine pf_topi (v := 1) (by decide +kernel) ?_
    refine va_sld hx hb hX hbl hbA hS (pf_vpin (k := 1) (by decide +kernel) (by decide +kernel) (by decide)) dL_law_464 ?_
    refine pf_topi (v := xs 1) (congrArg xs (by decide +kernel)) ?_
    refine lv_aload_n hx hb dL_law_465 rfl (lv_at hl 3 rfl) ?_
    refine lv_iload_n hx hb dL_law_466 rfl (lv_at hl 0 rfl) ?_
    refine lv_iconst (v := 2) hx hb dL_law_467 (by decide) ?_
    refine lv_iadd hx hb dL_law_468 ?_
    refine pf_topi (v := 2) (by decide +kernel) ?_
    refine va_sld hx hb hX hbl hbA hS (pf_vpin (k := 2) (by decide +kernel) (by decide +kernel) (by decide)) dL_law_469 ?_
    refine pf_topi (v := xs 2) (congrArg xs (by decide +kernel)) ?_
    refine lv_if_eq (tgt := 477) hx hb dL_law_470 (by decide) (fun _ => ?_) (fun c2 => absurd c0 c2)
    refine lv_iconst (v := 0) hx hb dL_law_477 (by decide) ?_
    have hPc := hP.sub (ws' := [(q64, .inr (10, [.int 2, .int 0, .int 0, .ref q66, .ref q67, .ref q68, .ref q69, .ref q70, .ref q71, .ref q72, .int 0, .ref q73, .ref q74, .ref q75, .ref q76, .ref q77, .ref q78, .ref q79, .ref q80, .ref q81, .ref q82, .ref q83, .long 0, .int 0, .ref q84, .ref q85, .int 0, .ref q86, .ref q87, .int 0, .int 0, .int 0, .long 0, .long 0, .int 0, .long 0, .long 0, .ref q88, .ref q89, .int 0, .ref q90, .ref q91, .ref q92, .ref q93, .ref q94, .ref q95, .long 0, .long 0]))]) [0] rfl
    have hDc := hD.sub (ws' := [(q64, .inr (10, [.int 2, .int 0, .int 0, .ref q66, .ref q67, .ref q68, .ref q69, .ref q70, .ref q71, .ref q72, .int 0, .ref q73, .ref q74, .ref q75, .ref q76, .ref q77, .ref q78, .ref q79, .ref q80, .ref q81, .ref q82, .ref q83, .long 0, .int 0, .ref q84, .ref q85, .int 0, .ref q86, .ref q87, .int 0, .int 0, .int 0, .long 0, .long 0, .int 0, .long 0, .long 0, .ref q88, .ref q89, .int 0, .ref q90, .ref q91, .ref q92, .ref q93, .ref q94, .ref q95, .long 0, .long 0]))]) [0] (by decide +kernel) rfl
    have hFc := va_free (wc := [(q64, .inr (10, [.int 2, .int 0, .int 0, .ref q66, .ref q67, .ref q68, .ref q69, .ref q70, .ref q71, .ref q72, .int 0, .ref q73, .ref q74, .ref q75, .ref q76, .ref q77, .ref q78, .ref q79, .ref q80, .ref q81, .ref q82, .ref q83, .long 0, .int 0, .ref q84, .ref q85, .int 0, .ref q86, .ref q87, .int 0, .int 0, .int 0, .long 0, .long 0, .int 0, .long 0, .long 0, .ref q88, .ref q89, .int 0, .ref q90, .ref q91, .ref q92, .ref q93, .ref q94, .ref q95, .long 0, .long 0]))]) hD hS hA [0] rfl
    refine va_calli (va_runV (As := [.int (xs 1), .int 0]) (rest := [.int (-10005)]) ⟨hx, hb, hml, hown, hts⟩ (c_m_pivot l dC dI cI cJ cZ cO H.size q64 ((xs 1)) 0 q66 q67 q68 q69 q70 q71 q72 q73 q74 q75 q76 q77 q78 q79 q80 q81 q82 q83 q84 q85 q86 q87 q88 q89 q90 q91 q92 q93 q94 q95) (cwV 2 hts (pf_gV mw_569 mw_570 mw_571 mw_346 mw_572) rfl rfl rfl (by decide +kernel) ⟨Nat.le_of_ble_eq_true rfl, Nat.le_of_ble_eq_true rfl⟩) ⟨fun a U g mk q => by obtain ⟨q0, q1, qP, qK, qD⟩ := q; exact ⟨q0, q1, qP, va_K.moved (u := U) (U := U.calling g mk a) (Vm.Alike.refl U.vm) qK, qD⟩, va_recv hK hPc (ci := 10) (q0 := 0) rfl rfl, fun U hU hW => ⟨rfl, by rw [hU], by rw [hU]; exact hPc, va_K.moved hW.alike hK, hDc.weaken (fun _ _ _ _ => trivial)⟩⟩ rfl rfl hl.1 rfl (lv_room (Nat.le_of_ble_eq_true rfl)) dL_law_478 ⟨Nat.le_of_ble_eq_true rfl, Nat.le_of_ble_eq_true rfl⟩) hS (fun q _ h => hFc q h) hFc (fun r3 u t H1 locs ht hvm hw hB hz1 hk1 hS => ?_)
    have hw : (-10005) = r3 := (show r3 = (-10005) from hw).symm
    subst hw
    obtain ⟨hP, hD⟩ := va_join (wr := []) (w1 := []) hP hD [0] [] rfl rfl (by decide +kernel) (by decide +kernel) hk1 hFc pf_Pn pf_Dn
    clear hPc hDc hFc hk1 hz1
    generalize H1 = H at hP hS ⊢
    have hP : va_P (dC, dI) pf_cls [] H := hP
    have hD : va_D (fun q : Nat => s.heap.size ≤ q) [] := hD
    refine lv_icmp_eq (tgt := 1009) hx hb dL_law_481 (by decide) (fun _ => ?_) (fun c4 => absurd (by decide +kernel) c4)
    refine lv_iinc (v := 6) (lv' := [(3, .int 6), (2, .ref q64), (1, .ref q1), (0, .ref b)]) hx hb dL_law_1009 hl (k := 0) rfl (by decide +kernel) (by decide) rfl (fun ls hl => ?_)
    refine lv_goto (tgt := 18) hx hb dL_law_1012 (by decide) ?_
    refine lv_iload_n hx hb dL_law_18 rfl (lv_at hl 0 rfl) ?_
    refine lv_aload_n hx hb dL_law_19 rfl (lv_at hl 3 rfl) ?_
    refine va_slen hx hb hX hbl hbA hS dL_law_20 ?_
    refine pf_topi (v := 6) (by decide +kernel) ?_
    refine lv_bipush (v := 6) hx hb dL_law_21 (by decide +kernel) ?_
    refine lv_isub hx hb dL_law_23 ?_
    refine pf_topi (v := 0) (by decide +kernel) ?_
    refine lv_icmp_gt (tgt := 1015) hx hb dL_law_24 (by decide) (fun _ => ?_) (fun c5 => absurd (by decide +kernel) c5)
    refine lv_iconst (v := 1) hx hb dL_law_1015 (by decide) ?_
    refine va_forget (fun q hq => hS.2.2 q hq) ?_
    refine W.widen (k := 600000) (n := 7302250) (Nat.le_of_ble_eq_true rfl) (Nat.le_of_ble_eq_true rfl) ?_
    exact lw_ret hx hb hr hlocks dL_law_1016
  · skip
    refine lv_iconst (v := 1) hx hb dL_law_451 (by decide) ?_
    refine lv_goto (tgt := 456) hx hb dL_law_452 (by decide) ?_
    have hPc := hP.sub (ws' := [(q1, .inr (9, [.ref q3, .ref q11, .ref q20, .ref q42, .int 0]))]) [0] rfl
    have hDc := hD.sub (ws' := [(q1, .inr (9, [.ref q3, .ref q11, .ref q20, .ref q42, .int 0]))]) [0] (by decide +kernel) rfl
    have hFc := va_free (wc := [(q1, .inr (9, [.ref q3, .ref q11, .ref q20, .ref q42, .int 0]))]) hD hS hA [0] rfl
    refine va_calli (va_runV (As := [.int (xs 1), .int 1]) (rest := []) ⟨hx, hb, hml, hown, hts⟩ (c_pivot l dC dI cI cJ cZ cO H.size q1 ((xs 1)) 1 q3 q11 q20 q42) (cwV 2 hts (pf_gV mw_565 mw_566 mw_567 mw_50 mw_568) rfl rfl rfl (by decide +kernel) ⟨Nat.le_of_ble_eq_true rfl, Nat.le_of_ble_eq_true rfl⟩) ⟨fun a U g mk q => by obtain ⟨q0, q1, qP, qK, qD⟩ := q; exact ⟨q0, q1, qP, va_K.moved (u := U) (U := U.calling g mk a) (Vm.Alike.refl U.vm) qK, qD⟩, va_recv hK hPc (ci := 9) (q0 := 0) rfl rfl, fun U hU hW => ⟨rfl, by rw [hU], by rw [hU]; exact hPc, va_K.moved hW.alike hK, hDc.weaken (fun _ _ _ _ => trivial)⟩⟩ rfl rfl hl.1 rfl (lv_room (Nat.le_of_ble_eq_true rfl)) dL_law_456 ⟨Nat.le_of_ble_eq_true rfl, Nat.le_of_ble_eq_true rfl⟩) hS (fun q _ h => hFc q h) hFc (fun r6 u t H1 locs ht hvm hw hB hz1 hk1 hS => ?_)
    have hw : (-10005) = r6 := (show r6 = (-10005) from hw).symm
    subst hw
    obtain ⟨hP, hD⟩ := va_join (wr := [(q64, .inr (10, [.int 2, .int 0, .int 0, .ref q66, .ref q67, .ref q68, .ref q69, .ref q70, .ref q71, .ref q72, .int 0, .ref q73, .ref q74, .ref q75, .ref q76, .ref q77, .ref q78, .ref q79, .ref q80, .ref q81, .ref q82, .ref q83, .long 0, .int 0, .ref q84, .ref q85, .int 0, .ref q86, .ref q87, .int 0, .int 0, .int 0, .long 0, .long 0, .int 0, .long 0, .long 0, .ref q88, .ref q89, .int 0, .ref q90, .ref q91, .ref q92, .ref q93, .ref q94, .ref q95, .long 0, .long 0]))]) (w1 := []) hP hD [0] [1] rfl rfl (by decide +kernel) (by decide +kernel) hk1 hFc pf_Pn pf_Dn
    clear hPc hDc hFc hk1 hz1
    generalize H1 = H at hP hS ⊢
    have hP : va_P (dC, dI) pf_cls [(q64, .inr (10, [.int 2, .int 0, .int 0, .ref q66, .ref q67, .ref q68, .ref q69, .ref q70, .ref q71, .ref q72, .int 0, .ref q73, .ref q74, .ref q75, .ref q76, .ref q77, .ref q78, .ref q79, .ref q80, .ref q81, .ref q82, .ref q83, .long 0, .int 0, .ref q84, .ref q85, .int 0, .ref q86, .ref q87, .int 0, .int 0, .int 0, .long 0, .long 0, .int 0, .long 0, .long 0, .ref q88, .ref q89, .int 0, .ref q90, .ref q91, .ref q92, .ref q93, .ref q94, .ref q95, .long 0, .long 0]))] H := hP
    have hD : va_D (fun q : Nat => s.heap.size ≤ q) [(q64, .inr (10, [.int 2, .int 0, .int 0, .ref q66, .ref q67, .ref q68, .ref q69, .ref q70, .ref q71, .ref q72, .int 0, .ref q73, .ref q74, .ref q75, .ref q76, .ref q77, .ref q78, .ref q79, .ref q80, .ref q81, .ref q82, .ref q83, .long 0, .int 0, .ref q84, .ref q85, .int 0, .ref q86, .ref q87, .int 0, .int 0, .int 0, .long 0, .long 0, .int 0, .long 0, .long 0, .ref q88, .ref q89, .int 0, .ref q90, .ref q91, .ref q92, .ref q93, .ref q94, .ref q95, .long 0, .long 0]))] := hD
    refine lv_aload_n hx hb dL_law_459 rfl (lv_at hl 1 rfl) ?_
    refine lv_aload_n hx hb dL_law_460 rfl (lv_at hl 3 rfl) ?_
    refine lv_iload_n hx hb dL_law_461 rfl (lv_at hl 0 rfl) ?_
    refine lv_iconst (v := 1) hx hb dL_law_462 (by decide) ?_
    refine lv_iadd hx hb dL_law_463 ?_
    refine pf_topi (v := 1) (by decide +kernel) ?_
    refine va_sld hx hb hX hbl hbA hS (pf_vpin (k := 1) (by decide +kernel) (by decide +kernel) (by decide)) dL_law_464 ?_
    refine pf_topi (v := xs 1) (congrArg xs (by decide +kernel)) ?_
    refine lv_aload_n hx hb dL_law_465 rfl (lv_at hl 3 rfl) ?_
    refine lv_iload_n hx hb dL_law_466 rfl (lv_at hl 0 rfl) ?_
    refine lv_iconst (v := 2) hx hb dL_law_467 (by decide) ?_
    refine lv_iadd hx hb dL_law_468 ?_
    refine pf_topi (v := 2) (by decide +kernel) ?_
    refine va_sld hx hb hX hbl hbA hS (pf_vpin (k := 2) (by decide +kernel) (by decide +kernel) (by decide)) dL_law_469 ?_
    refine pf_topi (v := xs 2) (congrArg xs (by decide +kernel)) ?_
    refine lv_if_eq (tgt := 477) hx hb dL_law_470 (by decide) (fun c7 => absurd c7 c0) (fun _ => ?_)
    refine lv_iconst (v := 1) hx hb dL_law_473 (by decide) ?_
    refine lv_goto (tgt := 478) hx hb dL_law_474 (by decide) ?_
    have hPc := hP.sub (ws' := [(q64, .inr (10, [.int 2, .int 0, .int 0, .ref q66, .ref q67, .ref q68, .ref q69, .ref q70, .ref q71, .ref q72, .int 0, .ref q73, .ref q74, .ref q75, .ref q76, .ref q77, .ref q78, .ref q79, .ref q80, .ref q81, .ref q82, .ref q83, .long 0, .int 0, .ref q84, .ref q85, .int 0, .ref q86, .ref q87, .int 0, .int 0, .int 0, .long 0, .long 0, .int 0, .long 0, .long 0, .ref q88, .ref q89, .int 0, .ref q90, .ref q91, .ref q92, .ref q93, .ref q94, .ref q95, .long 0, .long 0]))]) [0] rfl
    have hDc := hD.sub (ws' := [(q64, .inr (10, [.int 2, .int 0, .int 0, .ref q66, .ref q67, .ref q68, .ref q69, .ref q70, .ref q71, .ref q72, .int 0, .ref q73, .ref q74, .ref q75, .ref q76, .ref q77, .ref q78, .ref q79, .ref q80, .ref q81, .ref q82, .ref q83, .long 0, .int 0, .ref q84, .ref q85, .int 0, .ref q86, .ref q87, .int 0, .int 0, .int 0, .long 0, .long 0, .int 0, .long 0, .long 0, .ref q88, .ref q89, .int 0, .ref q90, .ref q91, .ref q92, .ref q93, .ref q94, .ref q95, .long 0, .long 0]))]) [0] (by decide +kernel) rfl
    have hFc := va_free (wc := [(q64, .inr (10, [.int 2, .int 0, .int 0, .ref q66, .ref q67, .ref q68, .ref q69, .ref q70, .ref q71, .ref q72, .int 0, .ref q73, .ref q74, .ref q75, .ref q76, .ref q77, .ref q78, .ref q79, .ref q80, .ref q81, .ref q82, .ref q83, .long 0, .int 0, .ref q84, .ref q85, .int 0, .ref q86, .ref q87, .int 0, .int 0, .int 0, .long 0, .long 0, .int 0, .long 0, .long 0, .ref q88, .ref q89, .int 0, .ref q90, .ref q91, .ref q92, .ref q93, .ref q94, .ref q95, .long 0, .long 0]))]) hD hS hA [0] rfl
    refine va_calli (va_runV (As := [.int (xs 1), .int 1]) (rest := [.int (-10005)]) ⟨hx, hb, hml, hown, hts⟩ (c_m_pivot l dC dI cI cJ cZ cO H.size q64 ((xs 1)) 1 q66 q67 q68 q69 q70 q71 q72 q73 q74 q75 q76 q77 q78 q79 q80 q81 q82 q83 q84 q85 q86 q87 q88 q89 q90 q91 q92 q93 q94 q95) (cwV 2 hts (pf_gV mw_569 mw_570 mw_571 mw_346 mw_572) rfl rfl rfl (by decide +kernel) ⟨Nat.le_of_ble_eq_true rfl, Nat.le_of_ble_eq_true rfl⟩) ⟨fun a U g mk q => by obtain ⟨q0, q1, qP, qK, qD⟩ := q; exact ⟨q0, q1, qP, va_K.moved (u := U) (U := U.calling g mk a) (Vm.Alike.refl U.vm) qK, qD⟩, va_recv hK hPc (ci := 10) (q0 := 0) rfl rfl, fun U hU hW => ⟨rfl, by rw [hU], by rw [hU]; exact hPc, va_K.moved hW.alike hK, hDc.weaken (fun _ _ _ _ => trivial)⟩⟩ rfl rfl hl.1 rfl (lv_room (Nat.le_of_ble_eq_true rfl)) dL_law_478 ⟨Nat.le_of_ble_eq_true rfl, Nat.le_of_ble_eq_true rfl⟩) hS (fun q _ h => hFc q h) hFc (fun r8 u t H1 locs ht hvm hw hB hz1 hk1 hS => ?_)
    have hw : (-10005) = r8 := (show r8 = (-10005) from hw).symm
    subst hw
    obtain ⟨hP, hD⟩ := va_join (wr := []) (w1 := []) hP hD [0] [] rfl rfl (by decide +kernel) (by decide +kernel) hk1 hFc pf_Pn pf_Dn
    clear hPc hDc hFc hk1 hz1
    generalize H1 = H at hP hS ⊢
    have hP : va_P (dC, dI) pf_cls [] H := hP
    have hD : va_D (fun q : Nat => s.heap.size ≤ q) [] := hD
    refine lv_icmp_eq (tgt := 1009) hx hb dL_law_481 (by decide) (fun _ => ?_) (fun c9 => absurd (by decide +kernel) c9)
    refine lv_iinc (v := 6) (lv' := [(3, .int 6), (2, .ref q64), (1, .ref q1), (0, .ref b)]) hx hb dL_law_1009 hl (k := 0) rfl (by decide +kernel) (by decide) rfl (fun ls hl => ?_)
    refine lv_goto (tgt := 18) hx hb dL_law_1012 (by decide) ?_
    refine lv_iload_n hx hb dL_law_18 rfl (lv_at hl 0 rfl) ?_
    refine lv_aload_n hx hb dL_law_19 rfl (lv_at hl 3 rfl) ?_
    refine va_slen hx hb hX hbl hbA hS dL_law_20 ?_
    refine pf_topi (v := 6) (by decide +kernel) ?_
    refine lv_bipush (v := 6) hx hb dL_law_21 (by decide +kernel) ?_
    refine lv_isub hx hb dL_law_23 ?_
    refine pf_topi (v := 0) (by decide +kernel) ?_
    refine lv_icmp_gt (tgt := 1015) hx hb dL_law_24 (by decide) (fun _ => ?_) (fun c10 => absurd (by decide +kernel) c10)
    refine lv_iconst (v := 1) hx hb dL_law_1015 (by decide) ?_
    refine va_forget (fun q hq => hS.2.2 q hq) ?_
    refine W.widen (k := 600000) (n := 7302250) (Nat.le_of_ble_eq_true rfl) (Nat.le_of_ble_eq_true rfl) ?_
    exact lw_ret hx hb hr hlocks dL_law_1016
set_option maxHeartbeats 40000000 in
set_option maxRecDepth 100000 in
theorem law_case_10 {p : Program} {e : Env} {s : State} {m : MethodId} {below : List Frame} {meth : Method} {c : Code} (l : Launch) {b t0 : Nat} {xs : Nat → Int32} (C0 : lw_At p s m meth c b 6 xs) (dC : Nat → ClassId) (dI : Nat → Nat → Nat) (cI cJ cZ cO : ClassId) (q1 q3 q11 q20 q42 q64 q66 q67 q68 q69 q70 q71 q72 q73 q74 q75 q76 q77 q78 q79 q80 q81 q82 q83 q84 q85 q86 q87 q88 q89 q90 q91 q92 q93 q94 q95 : Nat) {H : Heap} {locs : List Loc} {ls : Array Slot} (hK : va_K (dC, dI) pf_cls (pf_ty cI cJ cZ cO) s) (hSt : pf_St t0 (fun q : Nat => s.heap.size ≤ q) s s.heap) (hP : va_P (dC, dI) pf_cls [(q1, .inr (9, [.ref q3, .ref q11, .ref q20, .ref q42, .int 0])), (q64, .inr (10, [.int 2, .int 0, .int 0, .ref q66, .ref q67, .ref q68, .ref q69, .ref q70, .ref q71, .ref q72, .int 0, .ref q73, .ref q74, .ref q75, .ref q76, .ref q77, .ref q78, .ref q79, .ref q80, .ref q81, .ref q82, .ref q83, .long 0, .int 0, .ref q84, .ref q85, .int 0, .ref q86, .ref q87, .int 0, .int 0, .int 0, .long 0, .long 0, .int 0, .long 0, .long 0, .ref q88, .ref q89, .int 0, .ref q90, .ref q91, .ref q92, .ref q93, .ref q94, .ref q95, .long 0, .long 0]))] H) (hD : va_D (fun q : Nat => s.heap.size ≤ q) [(q1, .inr (9, [.ref q3, .ref q11, .ref q20, .ref q42, .int 0])), (q64, .inr (10, [.int 2, .int 0, .int 0, .ref q66, .ref q67, .ref q68, .ref q69, .ref q70, .ref q71, .ref q72, .int 0, .ref q73, .ref q74, .ref q75, .ref q76, .ref q77, .ref q78, .ref q79, .ref q80, .ref q81, .ref q82, .ref q83, .long 0, .int 0, .ref q84, .ref q85, .int 0, .ref q86, .ref q87, .int 0, .int 0, .int 0, .long 0, .long 0, .int 0, .long 0, .long 0, .ref q88, .ref q89, .int 0, .ref q90, .ref q91, .ref q92, .ref q93, .ref q94, .ref q95, .long 0, .long 0]))]) (hS : va_S (fun q : Nat => s.heap.size ≤ q) s.heap H locs) (hl : lv_has ls 4 [(3, .int 0), (2, .ref q64), (1, .ref q1), (0, .ref b)]) : W p l e room_1 s m #[Value.ref b] below meth c H locs 93 44360 (lw_Z below #[Value.ref b] s) (F0 m 486 ls []) := by
  obtain ⟨hx, hb, hr, hml, hown0, hts0, hX, hbl, hlocks, hgv⟩ := id C0
  have hown : s.vm.findClass RL = some m.cls := hown0
  have hts : ∀ w ∈ Cond.initialized RX9 :: pf_W, w.before #[Value.ref b] s = true := pf_lawW hts0
  have hA : ∀ q : Nat, s.heap.size ≤ q → (fun q : Nat => s.heap.size ≤ q) q := fun _ h => h
  have hbA : ¬ (fun q : Nat => s.heap.size ≤ q) b := Nat.not_le.mpr hbl
  refine lv_aload_n hx hb dL_law_486 rfl (lv_at hl 2 rfl) ?_
  refine lv_aload_n hx hb dL_law_487 rfl (lv_at hl 3 rfl) ?_
  refine lv_iload_n hx hb dL_law_488 rfl (lv_at hl 0 rfl) ?_
  refine lv_iconst (v := 1) hx hb dL_law_489 (by decide) ?_
  refine lv_iadd hx hb dL_law_490 ?_
  refine pf_topi (v := 1) (by decide +kernel) ?_
  refine va_sld hx hb hX hbl hbA hS (pf_vpin (k := 1) (by decide +kernel) (by decide +kernel) (by decide)) dL_law_491 ?_
  refine pf_topi (v := xs 1) (congrArg xs (by decide +kernel)) ?_
  refine lv_if_eq (tgt := 499) hx hb dL_law_492 (by decide) (fun c0 => ?_) (fun c0 => ?_)
  · skip
    refine lv_iconst (v := 0) hx hb dL_law_499 (by decide) ?_
    have hPc := hP.sub (ws' := [(q1, .inr (9, [.ref q3, .ref q11, .ref q20, .ref q42, .int 0]))]) [0] rfl
    have hDc := hD.sub (ws' := [(q1, .inr (9, [.ref q3, .ref q11, .ref q20, .ref q42, .int 0]))]) [0] (by decide +kernel) rfl
    have hFc := va_free (wc := [(q1, .inr (9, [.ref q3, .ref q11, .ref q20, .ref q42, .int 0]))]) hD hS hA [0] rfl
    refine va_calll (va_runV (As := [.int 0]) (rest := []) ⟨hx, hb, hml, hown, hts⟩ (c_objective l dC dI cI cJ cZ cO H.size q1 0 q3 q11 q20 q42) (cwV 1 hts (pf_gV mw_573 mw_574 mw_575 mw_50 mw_576) rfl rfl rfl (by decide +kernel) ⟨Nat.le_of_ble_eq_true rfl, Nat.le_of_ble_eq_true rfl⟩) ⟨fun a U g mk q => by obtain ⟨q0, q1, qP, qK, qD⟩ := q; exact ⟨q0, q1, qP, va_K.moved (u := U) (U := U.calling g mk a) (Vm.Alike.refl U.vm) qK, qD⟩, va_recv hK hPc (ci := 9) (q0 := 0) rfl rfl, fun U hU hW => ⟨rfl, by rw [hU], by rw [hU]; exact hPc, va_K.moved hW.alike hK, hDc.weaken (fun _ _ _ _ => trivial)⟩⟩ rfl rfl hl.1 rfl (lv_room (Nat.le_of_ble_eq_true rfl)) dL_law_500 ⟨Nat.le_of_ble_eq_true rfl, Nat.le_of_ble_eq_true rfl⟩) hS (fun q _ h => hFc q h) hFc (fun r1 u t H1 locs ht hvm hw hB hz1 hk1 hS => ?_)
    have hw : (-9223372036854775808) = r1 := (show r1 = (-9223372036854775808) from hw).symm
    subst hw
    obtain ⟨hP, hD⟩ := va_join (wr := [(q64, .inr (10, [.int 2, .int 0, .int 0, .ref q66, .ref q67, .ref q68, .ref q69, .ref q70, .ref q71, .ref q72, .int 0, .ref q73, .ref q74, .ref q75, .ref q76, .ref q77, .ref q78, .ref q79, .ref q80, .ref q81, .ref q82, .ref q83, .long 0, .int 0, .ref q84, .ref q85, .int 0, .ref q86, .ref q87, .int 0, .int 0, .int 0, .long 0, .long 0, .int 0, .long 0, .long 0, .ref q88, .ref q89, .int 0, .ref q90, .ref q91, .ref q92, .ref q93, .ref q94, .ref q95, .long 0, .long 0]))]) (w1 := []) hP hD [0] [1] rfl rfl (by decide +kernel) (by decide +kernel) hk1 hFc pf_Pn pf_Dn
    clear hPc hDc hFc hk1 hz1
    generalize H1 = H at hP hS ⊢
    have hP : va_P (dC, dI) pf_cls [(q64, .inr (10, [.int 2, .int 0, .int 0, .ref q66, .ref q67, .ref q68, .ref q69, .ref q70, .ref q71, .ref q72, .int 0, .ref q73, .ref q74, .ref q75, .ref q76, .ref q77, .ref q78, .ref q79, .ref q80, .ref q81, .ref q82, .ref q83, .long 0, .int 0, .ref q84, .ref q85, .int 0, .ref q86, .ref q87, .int 0, .int 0, .int 0, .long 0, .long 0, .int 0, .long 0, .long 0, .ref q88, .ref q89, .int 0, .ref q90, .ref q91, .ref q92, .ref q93, .ref q94, .ref q95, .long 0, .long 0]))] H := hP
    have hD : va_D (fun q : Nat => s.heap.size ≤ q) [(q64, .inr (10, [.int 2, .int 0, .int 0, .ref q66, .ref q67, .ref q68, .ref q69, .ref q70, .ref q71, .ref q72, .int 0, .ref q73, .ref q74, .ref q75, .ref q76, .ref q77, .ref q78, .ref q79, .ref q80, .ref q81, .ref q82, .ref q83, .long 0, .int 0, .ref q84, .ref q85, .int 0, .ref q86, .ref q87, .int 0, .int 0, .int 0, .long 0, .long 0, .int 0, .long 0, .long 0, .ref q88, .ref q89, .int 0, .ref q90, .ref q91, .ref q92, .ref q93, .ref q94, .ref q95, .long 0, .long 0]))] := hD
    refine lv_aload_n hx hb dL_law_503 rfl (lv_at hl 1 rfl) ?_
    refine lv_aload_n hx hb dL_law_504 rfl (lv_at hl 3 rfl) ?_
    refine lv_iload_n hx hb dL_law_505 rfl (lv_at hl 0 rfl) ?_
    refine lv_iconst (v := 1) hx hb dL_law_506 (by decide) ?_
    refine lv_iadd hx hb dL_law_507 ?_
    refine pf_topi (v := 1) (by decide +kernel) ?_
    refine va_sld hx hb hX hbl hbA hS (pf_vpin (k := 1) (by decide +kernel) (by decide +kernel) (by decide)) dL_law_508 ?_
    refine pf_topi (v := xs 1) (congrArg xs (by decide +kernel)) ?_
    refine lv_if_eq (tgt := 516) hx hb dL_law_509 (by decide) (fun _ => ?_) (fun c2 => absurd c0 c2)
    refine lv_iconst (v := 0) hx hb dL_law_516 (by decide) ?_
    have hPc := hP.sub (ws' := [(q64, .inr (10, [.int 2, .int 0, .int 0, .ref q66, .ref q67, .ref q68, .ref q69, .ref q70, .ref q71, .ref q72, .int 0, .ref q73, .ref q74, .ref q75, .ref q76, .ref q77, .ref q78, .ref q79, .ref q80, .ref q81, .ref q82, .ref q83, .long 0, .int 0, .ref q84, .ref q85, .int 0, .ref q86, .ref q87, .int 0, .int 0, .int 0, .long 0, .long 0, .int 0, .long 0, .long 0, .ref q88, .ref q89, .int 0, .ref q90, .ref q91, .ref q92, .ref q93, .ref q94, .ref q95, .long 0, .long 0]))]) [0] rfl
    have hDc := hD.sub (ws' := [(q64, .inr (10, [.int 2, .int 0, .int 0, .ref q66, .ref q67, .ref q68, .ref q69, .ref q70, .ref q71, .ref q72, .int 0, .ref q73, .ref q74, .ref q75, .ref q76, .ref q77, .ref q78, .ref q79, .ref q80, .ref q81, .ref q82, .ref q83, .long 0, .int 0, .ref q84, .ref q85, .int 0, .ref q86, .ref q87, .int 0, .int 0, .int 0, .long 0, .long 0, .int 0, .long 0, .long 0, .ref q88, .ref q89, .int 0, .ref q90, .ref q91, .ref q92, .ref q93, .ref q94, .ref q95, .long 0, .long 0]))]) [0] (by decide +kernel) rfl
    have hFc := va_free (wc := [(q64, .inr (10, [.int 2, .int 0, .int 0, .ref q66, .ref q67, .ref q68, .ref q69, .ref q70, .ref q71, .ref q72, .int 0, .ref q73, .ref q74, .ref q75, .ref q76, .ref q77, .ref q78, .ref q79, .ref q80, .ref q81, .ref q82, .ref q83, .long 0, .int 0, .ref q84, .ref q85, .int 0, .ref q86, .ref q87, .int 0, .int 0, .int 0, .long 0, .long 0, .int 0, .long 0, .long 0, .ref q88, .ref q89, .int 0, .ref q90, .ref q91, .ref q92, .ref q93, .ref q94, .ref q95, .long 0, .long 0]))]) hD hS hA [0] rfl
    refine va_calll (va_runV (As := [.int 0]) (rest := [.long (-9223372036854775808)]) ⟨hx, hb, hml, hown, hts⟩ (c_m_objective l dC dI cI cJ cZ cO H.size q64 0 q66 q67 q68 q69 q70 q71 q72 q73 q74 q75 q76 q77 q78 q79 q80 q81 q82 q83 q84 q85 q86 q87 q88 q89 q90 q91 q92 q93 q94 q95) (cwV 1 hts (pf_gV mw_577 mw_578 mw_579 mw_346 mw_580) rfl rfl rfl (by decide +kernel) ⟨Nat.le_of_ble_eq_true rfl, Nat.le_of_ble_eq_true rfl⟩) ⟨fun a U g mk q => by obtain ⟨q0, q1, qP, qK, qD⟩ := q; exact ⟨q0, q1, qP, va_K.moved (u := U) (U := U.calling g mk a) (Vm.Alike.refl U.vm) qK, qD⟩, va_recv hK hPc (ci := 10) (q0 := 0) rfl rfl, fun U hU hW => ⟨rfl, by rw [hU], by rw [hU]; exact hPc, va_K.moved hW.alike hK, hDc.weaken (fun _ _ _ _ => trivial)⟩⟩ rfl rfl hl.1 rfl (lv_room (Nat.le_of_ble_eq_true rfl)) dL_law_517 ⟨Nat.le_of_ble_eq_true rfl, Nat.le_of_ble_eq_true rfl⟩) hS (fun q _ h => hFc q h) hFc (fun r3 u t H1 locs ht hvm hw hB hz1 hk1 hS => ?_)
    have hw : (-9223372036854775808) = r3 := (show r3 = (-9223372036854775808) from hw).symm
    subst hw
    obtain ⟨hP, hD⟩ := va_join (wr := []) (w1 := []) hP hD [0] [] rfl rfl (by decide +kernel) (by decide +kernel) hk1 hFc pf_Pn pf_Dn
    clear hPc hDc hFc hk1 hz1
    generalize H1 = H at hP hS ⊢
    have hP : va_P (dC, dI) pf_cls [] H := hP
    have hD : va_D (fun q : Nat => s.heap.size ≤ q) [] := hD
    refine W.lcmp hx hb dL_law_520 ?_
    refine pf_topi (v := 0) (by decide +kernel) ?_
    refine lv_if_eq (tgt := 1009) hx hb dL_law_521 (by decide) (fun _ => ?_) (fun c4 => absurd (by decide +kernel) c4)
    refine lv_iinc (v := 6) (lv' := [(3, .int 6), (2, .ref q64), (1, .ref q1), (0, .ref b)]) hx hb dL_law_1009 hl (k := 0) rfl (by decide +kernel) (by decide) rfl (fun ls hl => ?_)
    refine lv_goto (tgt := 18) hx hb dL_law_1012 (by decide) ?_
    refine lv_iload_n hx hb dL_law_18 rfl (lv_at hl 0 rfl) ?_
    refine lv_aload_n hx hb dL_law_19 rfl (lv_at hl 3 rfl) ?_
    refine va_slen hx hb hX hbl hbA hS dL_law_20 ?_
    refine pf_topi (v := 6) (by decide +kernel) ?_
    refine lv_bipush (v := 6) hx hb dL_law_21 (by decide +kernel) ?_
    refine lv_isub hx hb dL_law_23 ?_
    refine pf_topi (v := 0) (by decide +kernel) ?_
    refine lv_icmp_gt (tgt := 1015) hx hb dL_law_24 (by decide) (fun _ => ?_) (fun c5 => absurd (by decide +kernel) c5)
    refine lv_iconst (v := 1) hx hb dL_law_1015 (by decide) ?_
    refine va_forget (fun q hq => hS.2.2 q hq) ?_
    refine W.widen (k := 600000) (n := 7302250) (Nat.le_of_ble_eq_true rfl) (Nat.le_of_ble_eq_true rfl) ?_
    exact lw_ret hx hb hr hlocks dL_law_1016
  · skip
    refine lv_iconst (v := 1) hx hb dL_law_495 (by decide) ?_
    refine lv_goto (tgt := 500) hx hb dL_law_496 (by decide) ?_
    have hPc := hP.sub (ws' := [(q1, .inr (9, [.ref q3, .ref q11, .ref q20, .ref q42, .int 0]))]) [0] rfl
    have hDc := hD.sub (ws' := [(q1, .inr (9, [.ref q3, .ref q11, .ref q20, .ref q42, .int 0]))]) [0] (by decide +kernel) rfl
    have hFc := va_free (wc := [(q1, .inr (9, [.ref q3, .ref q11, .ref q20, .ref q42, .int 0]))]) hD hS hA [0] rfl
    refine va_calll (va_runV (As := [.int 1]) (rest := []) ⟨hx, hb, hml, hown, hts⟩ (c_objective l dC dI cI cJ cZ cO H.size q1 1 q3 q11 q20 q42) (cwV 1 hts (pf_gV mw_573 mw_574 mw_575 mw_50 mw_576) rfl rfl rfl (by decide +kernel) ⟨Nat.le_of_ble_eq_true rfl, Nat.le_of_ble_eq_true rfl⟩) ⟨fun a U g mk q => by obtain ⟨q0, q1, qP, qK, qD⟩ := q; exact ⟨q0, q1, qP, va_K.moved (u := U) (U := U.calling g mk a) (Vm.Alike.refl U.vm) qK, qD⟩, va_recv hK hPc (ci := 9) (q0 := 0) rfl rfl, fun U hU hW => ⟨rfl, by rw [hU], by rw [hU]; exact hPc, va_K.moved hW.alike hK, hDc.weaken (fun _ _ _ _ => trivial)⟩⟩ rfl rfl hl.1 rfl (lv_room (Nat.le_of_ble_eq_true rfl)) dL_law_500 ⟨Nat.le_of_ble_eq_true rfl, Nat.le_of_ble_eq_true rfl⟩) hS (fun q _ h => hFc q h) hFc (fun r6 u t H1 locs ht hvm hw hB hz1 hk1 hS => ?_)
    have hw : (-9223372036854775808) = r6 := (show r6 = (-9223372036854775808) from hw).symm
    subst hw
    obtain ⟨hP, hD⟩ := va_join (wr := [(q64, .inr (10, [.int 2, .int 0, .int 0, .ref q66, .ref q67, .ref q68, .ref q69, .ref q70, .ref q71, .ref q72, .int 0, .ref q73, .ref q74, .ref q75, .ref q76, .ref q77, .ref q78, .ref q79, .ref q80, .ref q81, .ref q82, .ref q83, .long 0, .int 0, .ref q84, .ref q85, .int 0, .ref q86, .ref q87, .int 0, .int 0, .int 0, .long 0, .long 0, .int 0, .long 0, .long 0, .ref q88, .ref q89, .int 0, .ref q90, .ref q91, .ref q92, .ref q93, .ref q94, .ref q95, .long 0, .long 0]))]) (w1 := []) hP hD [0] [1] rfl rfl (by decide +kernel) (by decide +kernel) hk1 hFc pf_Pn pf_Dn
    clear hPc hDc hFc hk1 hz1
    generalize H1 = H at hP hS ⊢
    have hP : va_P (dC, dI) pf_cls [(q64, .inr (10, [.int 2, .int 0, .int 0, .ref q66, .ref q67, .ref q68, .ref q69, .ref q70, .ref q71, .ref q72, .int 0, .ref q73, .ref q74, .ref q75, .ref q76, .ref q77, .ref q78, .ref q79, .ref q80, .ref q81, .ref q82, .ref q83, .long 0, .int 0, .ref q84, .ref q85, .int 0, .ref q86, .ref q87, .int 0, .int 0, .int 0, .long 0, .long 0, .int 0, .long 0, .long 0, .ref q88, .ref q89, .int 0, .ref q90, .ref q91, .ref q92, .ref q93, .ref q94, .ref q95, .long 0, .long 0]))] H := hP
    have hD : va_D (fun q : Nat => s.heap.size ≤ q) [(q64, .inr (10, [.int 2, .int 0, .int 0, .ref q66, .ref q67, .ref q68, .ref q69, .ref q70, .ref q71, .ref q72, .int 0, .ref q73, .ref q74, .ref q75, .ref q76, .ref q77, .ref q78, .ref q79, .ref q80, .ref q81, .ref q82, .ref q83, .long 0, .int 0, .ref q84, .ref q85, .int 0, .ref q86, .ref q87, .int 0, .int 0, .int 0, .long 0, .long 0, .int 0, .long 0, .long 0, .ref q88, .ref q89, .int 0, .ref q90, .ref q91, .ref q92, .ref q93, .ref q94, .ref q95, .long 0, .long 0]))] := hD
    refine lv_aload_n hx hb dL_law_503 rfl (lv_at hl 1 rfl) ?_
    refine lv_aload_n hx hb dL_law_504 rfl (lv_at hl 3 rfl) ?_
    refine lv_iload_n hx hb dL_law_505 rfl (lv_at hl 0 rfl) ?_
    refine lv_iconst (v := 1) hx hb dL_law_506 (by decide) ?_
    refine lv_iadd hx hb dL_law_507 ?_
    refine pf_topi (v := 1) (by decide +kernel) ?_
    refine va_sld hx hb hX hbl hbA hS (pf_vpin (k := 1) (by decide +kernel) (by decide +kernel) (by decide)) dL_law_508 ?_
    refine pf_topi (v := xs 1) (congrArg xs (by decide +kernel)) ?_
    refine lv_if_eq (tgt := 516) hx hb dL_law_509 (by decide) (fun c7 => absurd c7 c0) (fun _ => ?_)
    refine lv_iconst (v := 1) hx hb dL_law_512 (by decide) ?_
    refine lv_goto (tgt := 517) hx hb dL_law_513 (by decide) ?_
    have hPc := hP.sub (ws' := [(q64, .inr (10, [.int 2, .int 0, .int 0, .ref q66, .ref q67, .ref q68, .ref q69, .ref q70, .ref q71, .ref q72, .int 0, .ref q73, .ref q74, .ref q75, .ref q76, .ref q77, .ref q78, .ref q79, .ref q80, .ref q81, .ref q82, .ref q83, .long 0, .int 0, .ref q84, .ref q85, .int 0, .ref q86, .ref q87, .int 0, .int 0, .int 0, .long 0, .long 0, .int 0, .long 0, .long 0, .ref q88, .ref q89, .int 0, .ref q90, .ref q91, .ref q92, .ref q93, .ref q94, .ref q95, .long 0, .long 0]))]) [0] rfl
    have hDc := hD.sub (ws' := [(q64, .inr (10, [.int 2, .int 0, .int 0, .ref q66, .ref q67, .ref q68, .ref q69, .ref q70, .ref q71, .ref q72, .int 0, .ref q73, .ref q74, .ref q75, .ref q76, .ref q77, .ref q78, .ref q79, .ref q80, .ref q81, .ref q82, .ref q83, .long 0, .int 0, .ref q84, .ref q85, .int 0, .ref q86, .ref q87, .int 0, .int 0, .int 0, .long 0, .long 0, .int 0, .long 0, .long 0, .ref q88, .ref q89, .int 0, .ref q90, .ref q91, .ref q92, .ref q93, .ref q94, .ref q95, .long 0, .long 0]))]) [0] (by decide +kernel) rfl
    have hFc := va_free (wc := [(q64, .inr (10, [.int 2, .int 0, .int 0, .ref q66, .ref q67, .ref q68, .ref q69, .ref q70, .ref q71, .ref q72, .int 0, .ref q73, .ref q74, .ref q75, .ref q76, .ref q77, .ref q78, .ref q79, .ref q80, .ref q81, .ref q82, .ref q83, .long 0, .int 0, .ref q84, .ref q85, .int 0, .ref q86, .ref q87, .int 0, .int 0, .int 0, .long 0, .long 0, .int 0, .long 0, .long 0, .ref q88, .ref q89, .int 0, .ref q90, .ref q91, .ref q92, .ref q93, .ref q94, .ref q95, .long 0, .long 0]))]) hD hS hA [0] rfl
    refine va_calll (va_runV (As := [.int 1]) (rest := [.long (-9223372036854775808)]) ⟨hx, hb, hml, hown, hts⟩ (c_m_objective l dC dI cI cJ cZ cO H.size q64 1 q66 q67 q68 q69 q70 q71 q72 q73 q74 q75 q76 q77 q78 q79 q80 q81 q82 q83 q84 q85 q86 q87 q88 q89 q90 q91 q92 q93 q94 q95) (cwV 1 hts (pf_gV mw_577 mw_578 mw_579 mw_346 mw_580) rfl rfl rfl (by decide +kernel) ⟨Nat.le_of_ble_eq_true rfl, Nat.le_of_ble_eq_true rfl⟩) ⟨fun a U g mk q => by obtain ⟨q0, q1, qP, qK, qD⟩ := q; exact ⟨q0, q1, qP, va_K.moved (u := U) (U := U.calling g mk a) (Vm.Alike.refl U.vm) qK, qD⟩, va_recv hK hPc (ci := 10) (q0 := 0) rfl rfl, fun U hU hW => ⟨rfl, by rw [hU], by rw [hU]; exact hPc, va_K.moved hW.alike hK, hDc.weaken (fun _ _ _ _ => trivial)⟩⟩ rfl rfl hl.1 rfl (lv_room (Nat.le_of_ble_eq_true rfl)) dL_law_517 ⟨Nat.le_of_ble_eq_true rfl, Nat.le_of_ble_eq_true rfl⟩) hS (fun q _ h => hFc q h) hFc (fun r8 u t H1 locs ht hvm hw hB hz1 hk1 hS => ?_)
    have hw : (-9223372036854775808) = r8 := (show r8 = (-9223372036854775808) from hw).symm
    subst hw
    obtain ⟨hP, hD⟩ := va_join (wr := []) (w1 := []) hP hD [0] [] rfl rfl (by decide +kernel) (by decide +kernel) hk1 hFc pf_Pn pf_Dn
    clear hPc hDc hFc hk1 hz1
    generalize H1 = H at hP hS ⊢
    have hP : va_P (dC, dI) pf_cls [] H := hP
    have hD : va_D (fun q : Nat => s.heap.size ≤ q) [] := hD
    refine W.lcmp hx hb dL_law_520 ?_
    refine pf_topi (v := 0) (by decide +kernel) ?_
    refine lv_if_eq (tgt := 1009) hx hb dL_law_521 (by decide) (fun _ => ?_) (fun c9 => absurd (by decide +kernel) c9)
    refine lv_iinc (v := 6) (lv' := [(3, .int 6), (2, .ref q64), (1, .ref q1), (0, .ref b)]) hx hb dL_law_1009 hl (k := 0) rfl (by decide +kernel) (by decide) rfl (fun ls hl => ?_)
    refine lv_goto (tgt := 18) hx hb dL_law_1012 (by decide) ?_
    refine lv_iload_n hx hb dL_law_18 rfl (lv_at hl 0 rfl) ?_
    refine lv_aload_n hx hb dL_law_19 rfl (lv_at hl 3 rfl) ?_
    refine va_slen hx hb hX hbl hbA hS dL_law_20 ?_
    refine pf_topi (v := 6) (by decide +kernel) ?_
    refine lv_bipush (v := 6) hx hb dL_law_21 (by decide +kernel) ?_
    refine lv_isub hx hb dL_law_23 ?_
    refine pf_topi (v := 0) (by decide +kernel) ?_
    refine lv_icmp_gt (tgt := 1015) hx hb dL_law_24 (by decide) (fun _ => ?_) (fun c10 => absurd (by decide +kernel) c10)
    refine lv_iconst (v := 1) hx hb dL_law_1015 (by decide) ?_
    refine va_forget (fun q hq => hS.2.2 q hq) ?_
    refine W.widen (k := 600000) (n := 7302250) (Nat.le_of_ble_eq_true rfl) (Nat.le_of_ble_eq_true rfl) ?_
    exact lw_ret hx hb hr hlocks dL_law_1016
set_option maxHeartbeats 40000000 in
set_option maxRecDepth 100000 in
theorem law_case_11 {p : Program} {e : Env} {s : State} {m : MethodId} {below : List Frame} {meth : Method} {c : Code} (l : Launch) {b t0 : Nat} {xs : Nat → Int32} (C0 : lw_At p s m meth c b 6 xs) (dC : Nat → ClassId) (dI : Nat → Nat → Nat) (cI cJ cZ cO : ClassId) (q1 q3 q11 q20 q42 q4 q5 q6 q7 q8 q9 q10 q64 q66 q67 q68 q69 q70 q71 q72 q73 q74 q75 q76 q77 q78 q79 q80 q81 q82 q83 q84 q85 q86 q87 q88 q89 q90 q91 q92 q93 q94 q95 : Nat) {H : Heap} {locs : List Loc} {ls : Array Slot} (hK : va_K (dC, dI) pf_cls (pf_ty cI cJ cZ cO) s) (hSt : pf_St t0 (fun q : Nat => s.heap.size ≤ q) s s.heap) (hP : va_P (dC, dI) pf_cls [(q1, .inr (9, [.ref q3, .ref q11, .ref q20, .ref q42, .int 0])), (q3, .inr (5, [.int 2, .int 0, .int 0, .ref q4, .ref q5, .ref q6, .ref q7, .ref q8, .ref q9, .ref q10])), (q64, .inr (10, [.int 2, .int 0, .int 0, .ref q66, .ref q67, .ref q68, .ref q69, .ref q70, .ref q71, .ref q72, .int 0, .ref q73, .ref q74, .ref q75, .ref q76, .ref q77, .ref q78, .ref q79, .ref q80, .ref q81, .ref q82, .ref q83, .long 0, .int 0, .ref q84, .ref q85, .int 0, .ref q86, .ref q87, .int 0, .int 0, .int 0, .long 0, .long 0, .int 0, .long 0, .long 0, .ref q88, .ref q89, .int 0, .ref q90, .ref q91, .ref q92, .ref q93, .ref q94, .ref q95, .long 0, .long 0]))] H) (hD : va_D (fun q : Nat => s.heap.size ≤ q) [(q1, .inr (9, [.ref q3, .ref q11, .ref q20, .ref q42, .int 0])), (q3, .inr (5, [.int 2, .int 0, .int 0, .ref q4, .ref q5, .ref q6, .ref q7, .ref q8, .ref q9, .ref q10])), (q64, .inr (10, [.int 2, .int 0, .int 0, .ref q66, .ref q67, .ref q68, .ref q69, .ref q70, .ref q71, .ref q72, .int 0, .ref q73, .ref q74, .ref q75, .ref q76, .ref q77, .ref q78, .ref q79, .ref q80, .ref q81, .ref q82, .ref q83, .long 0, .int 0, .ref q84, .ref q85, .int 0, .ref q86, .ref q87, .int 0, .int 0, .int 0, .long 0, .long 0, .int 0, .long 0, .long 0, .ref q88, .ref q89, .int 0, .ref q90, .ref q91, .ref q92, .ref q93, .ref q94, .ref q95, .long 0, .long 0]))]) (hS : va_S (fun q : Nat => s.heap.size ≤ q) s.heap H locs) (hl : lv_has ls 4 [(3, .int 0), (2, .ref q64), (1, .ref q1), (0, .ref b)]) : W p l e room_1 s m #[Value.ref b] below meth c H locs 93 44360 (lw_Z below #[Value.ref b] s) (F0 m 526 ls []) := by
  obtain ⟨hx, hb, hr, hml, hown0, hts0, hX, hbl, hlocks, hgv⟩ := id C0
  have hown : s.vm.findClass RL = some m.cls := hown0
  have hts : ∀ w ∈ Cond.initialized RX9 :: pf_W, w.before #[Value.ref b] s = true := pf_lawW hts0
  have hA : ∀ q : Nat, s.heap.size ≤ q → (fun q : Nat => s.heap.size ≤ q) q := fun _ h => h
  have hbA : ¬ (fun q : Nat => s.heap.size ≤ q) b := Nat.not_le.mpr hbl
  refine lv_aload_n hx hb dL_law_526 rfl (lv_at hl 2 rfl) ?_
  refine lv_aload_n hx hb dL_law_527 rfl (lv_at hl 3 rfl) ?_
  refine lv_iload_n hx hb dL_law_528 rfl (lv_at hl 0 rfl) ?_
  refine lv_iconst (v := 1) hx hb dL_law_529 (by decide) ?_
  refine lv_iadd hx hb dL_law_530 ?_
  refine pf_topi (v := 1) (by decide +kernel) ?_
  refine va_sld hx hb hX hbl hbA hS (pf_vpin (k := 1) (by decide +kernel) (by decide +kernel) (by decide)) dL_law_531 ?_
  refine pf_topi (v := xs 1) (congrArg xs (by decide +kernel)) ?_
  refine lv_aload_n hx hb dL_law_532 rfl (lv_at hl 3 rfl) ?_
  refine lv_iload_n hx hb dL_law_533 rfl (lv_at hl 0 rfl) ?_
  refine lv_iconst (v := 2) hx hb dL_law_534 (by decide) ?_
  refine lv_iadd hx hb dL_law_535 ?_
  refine pf_topi (v := 2) (by decide +kernel) ?_
  refine va_sld hx hb hX hbl hbA hS (pf_vpin (k := 2) (by decide +kernel) (by decide +kernel) (by decide)) dL_law_536 ?_
  refine pf_topi (v := xs 2) (congrArg xs (by decide +kernel)) ?_
  refine lv_if_eq (tgt := 544) hx hb dL_law_537 (by decide) (fun c0 => ?_) (fun c0 => ?_)
  · skip
    refine lv_iconst (v := 0) hx hb dL_law_544 (by decide) ?_
    have hPc := hP.sub (ws' := [(q1, .inr (9, [.ref q3, .ref q11, .ref q20, .ref q42, .int 0])), (q3, .inr (5, [.int 2, .int 0, .int 0, .ref q4, .ref q5, .ref q6, .ref q7, .ref q8, .ref q9, .ref q10]))]) [0, 1] rfl
    have hDc := hD.sub (ws' := [(q1, .inr (9, [.ref q3, .ref q11, .ref q20, .ref q42, .int 0])), (q3, .inr (5, [.int 2, .int 0, .int 0, .ref q4, .ref q5, .ref q6, .ref q7, .ref q8, .ref q9, .ref q10]))]) [0, 1] (by decide +kernel) rfl
    have hFc := va_free (wc := [(q1, .inr (9, [.ref q3, .ref q11, .ref q20, .ref q42, .int 0])), (q3, .inr (5, [.int 2, .int 0, .int 0, .ref q4, .ref q5, .ref q6, .ref q7, .ref q8, .ref q9, .ref q10]))]) hD hS hA [0, 1] rfl
    refine va_calll (va_runV (As := [.int (xs 1), .int 0]) (rest := []) ⟨hx, hb, hml, hown, hts⟩ (c_flow l dC dI cI cJ cZ cO H.size q1 ((xs 1)) 0 q3 q11 q20 q42 q4 q5 q6 q7 q8 q9 q10) (cwV 2 hts (pf_gV mw_581 mw_582 mw_583 mw_50 mw_584) rfl rfl rfl (by decide +kernel) ⟨Nat.le_of_ble_eq_true rfl, Nat.le_of_ble_eq_true rfl⟩) ⟨fun a U g mk q => by obtain ⟨q0, q1, qP, qK, qD⟩ := q; exact ⟨q0, q1, qP, va_K.moved (u := U) (U := U.calling g mk a) (Vm.Alike.refl U.vm) qK, qD⟩, va_recv hK hPc (ci := 9) (q0 := 0) rfl rfl, fun U hU hW => ⟨rfl, by rw [hU], by rw [hU]; exact hPc, va_K.moved hW.alike hK, hDc.weaken (fun _ _ _ _ => trivial)⟩⟩ rfl rfl hl.1 rfl (lv_room (Nat.le_of_ble_eq_true rfl)) dL_law_545 ⟨Nat.le_of_ble_eq_true rfl, Nat.le_of_ble_eq_true rfl⟩) hS (fun q _ h => hFc q h) hFc (fun r1 u t H1 locs ht hvm hw hB hz1 hk1 hS => ?_)
    have hw : (-9223372036854775808) = r1 := (show r1 = (-9223372036854775808) from hw).symm
    subst hw
    obtain ⟨hP, hD⟩ := va_join (wr := [(q64, .inr (10, [.int 2, .int 0, .int 0, .ref q66, .ref q67, .ref q68, .ref q69, .ref q70, .ref q71, .ref q72, .int 0, .ref q73, .ref q74, .ref q75, .ref q76, .ref q77, .ref q78, .ref q79, .ref q80, .ref q81, .ref q82, .ref q83, .long 0, .int 0, .ref q84, .ref q85, .int 0, .ref q86, .ref q87, .int 0, .int 0, .int 0, .long 0, .long 0, .int 0, .long 0, .long 0, .ref q88, .ref q89, .int 0, .ref q90, .ref q91, .ref q92, .ref q93, .ref q94, .ref q95, .long 0, .long 0]))]) (w1 := []) hP hD [0, 1] [2] rfl rfl (by decide +kernel) (by decide +kernel) hk1 hFc pf_Pn pf_Dn
    clear hPc hDc hFc hk1 hz1
    generalize H1 = H at hP hS ⊢
    have hP : va_P (dC, dI) pf_cls [(q64, .inr (10, [.int 2, .int 0, .int 0, .ref q66, .ref q67, .ref q68, .ref q69, .ref q70, .ref q71, .ref q72, .int 0, .ref q73, .ref q74, .ref q75, .ref q76, .ref q77, .ref q78, .ref q79, .ref q80, .ref q81, .ref q82, .ref q83, .long 0, .int 0, .ref q84, .ref q85, .int 0, .ref q86, .ref q87, .int 0, .int 0, .int 0, .long 0, .long 0, .int 0, .long 0, .long 0, .ref q88, .ref q89, .int 0, .ref q90, .ref q91, .ref q92, .ref q93, .ref q94, .ref q95, .long 0, .long 0]))] H := hP
    have hD : va_D (fun q : Nat => s.heap.size ≤ q) [(q64, .inr (10, [.int 2, .int 0, .int 0, .ref q66, .ref q67, .ref q68, .ref q69, .ref q70, .ref q71, .ref q72, .int 0, .ref q73, .ref q74, .ref q75, .ref q76, .ref q77, .ref q78, .ref q79, .ref q80, .ref q81, .ref q82, .ref q83, .long 0, .int 0, .ref q84, .ref q85, .int 0, .ref q86, .ref q87, .int 0, .int 0, .int 0, .long 0, .long 0, .int 0, .long 0, .long 0, .ref q88, .ref q89, .int 0, .ref q90, .ref q91, .ref q92, .ref q93, .ref q94, .ref q95, .long 0, .long 0]))] := hD
    refine lv_aload_n hx hb dL_law_548 rfl (lv_at hl 1 rfl) ?_
    refine lv_aload_n hx hb dL_law_549 rfl (lv_at hl 3 rfl) ?_
    refine lv_iload_n hx hb dL_law_550 rfl (lv_at hl 0 rfl) ?_
    refine lv_iconst (v := 1) hx hb dL_law_551 (by decide) ?_
    refine lv_iadd hx hb dL_law_552 ?_
    refine pf_topi (v := 1) (by decide +kernel) ?_
    refine va_sld hx hb hX hbl hbA hS (pf_vpin (k := 1) (by decide +kernel) (by decide +kernel) (by decide)) dL_law_553 ?_
    refine pf_topi (v := xs 1) (congrArg xs (by decide +kernel)) ?_
    refine lv_aload_n hx hb dL_law_554 rfl (lv_at hl 3 rfl) ?_
    refine lv_iload_n hx hb dL_law_555 rfl (lv_at hl 0 rfl) ?_
    refine lv_iconst (v := 2) hx hb dL_law_556 (by decide) ?_
    refine lv_iadd hx hb dL_law_557 ?_
    refine pf_topi (v := 2) (by decide +kernel) ?_
    refine va_sld hx hb hX hbl hbA hS (pf_vpin (k := 2) (by decide +kernel) (by decide +kernel) (by decide)) dL_law_558 ?_
    refine pf_topi (v := xs 2) (congrArg xs (by decide +kernel)) ?_
    refine lv_if_eq (tgt := 566) hx hb dL_law_559 (by decide) (fun _ => ?_) (fun c2 => absurd c0 c2)
    refine lv_iconst (v := 0) hx hb dL_law_566 (by decide) ?_
    have hPc := hP.sub (ws' := [(q64, .inr (10, [.int 2, .int 0, .int 0, .ref q66, .ref q67, .ref q68, .ref q69, .ref q70, .ref q71, .ref q72, .int 0, .ref q73, .ref q74, .ref q75, .ref q76, .ref q77, .ref q78, .ref q79, .ref q80, .ref q81, .ref q82, .ref q83, .long 0, .int 0, .ref q84, .ref q85, .int 0, .ref q86, .ref q87, .int 0, .int 0, .int 0, .long 0, .long 0, .int 0, .long 0, .long 0, .ref q88, .ref q89, .int 0, .ref q90, .ref q91, .ref q92, .ref q93, .ref q94, .ref q95, .long 0, .long 0]))]) [0] rfl
    have hDc := hD.sub (ws' := [(q64, .inr (10, [.int 2, .int 0, .int 0, .ref q66, .ref q67, .ref q68, .ref q69, .ref q70, .ref q71, .ref q72, .int 0, .ref q73, .ref q74, .ref q75, .ref q76, .ref q77, .ref q78, .ref q79, .ref q80, .ref q81, .ref q82, .ref q83, .long 0, .int 0, .ref q84, .ref q85, .int 0, .ref q86, .ref q87, .int 0, .int 0, .int 0, .long 0, .long 0, .int 0, .long 0, .long 0, .ref q88, .ref q89, .int 0, .ref q90, .ref q91, .ref q92, .ref q93, .ref q94, .ref q95, .long 0, .long 0]))]) [0] (by decide +kernel) rfl
    have hFc := va_free (wc := [(q64, .inr (10, [.int 2, .int 0, .int 0, .ref q66, .ref q67, .ref q68, .ref q69, .ref q70, .ref q71, .ref q72, .int 0, .ref q73, .ref q74, .ref q75, .ref q76, .ref q77, .ref q78, .ref q79, .ref q80, .ref q81, .ref q82, .ref q83, .long 0, .int 0, .ref q84, .ref q85, .int 0, .ref q86, .ref q87, .int 0, .int 0, .int 0, .long 0, .long 0, .int 0, .long 0, .long 0, .ref q88, .ref q89, .int 0, .ref q90, .ref q91, .ref q92, .ref q93, .ref q94, .ref q95, .long 0, .long 0]))]) hD hS hA [0] rfl
    refine va_calll (va_runV (As := [.int (xs 1), .int 0]) (rest := [.long (-9223372036854775808)]) ⟨hx, hb, hml, hown, hts⟩ (c_m_flow l dC dI cI cJ cZ cO H.size q64 ((xs 1)) 0 q66 q67 q68 q69 q70 q71 q72 q73 q74 q75 q76 q77 q78 q79 q80 q81 q82 q83 q84 q85 q86 q87 q88 q89 q90 q91 q92 q93 q94 q95) (cwV 2 hts (pf_gV mw_585 mw_586 mw_587 mw_346 mw_588) rfl rfl rfl (by decide +kernel) ⟨Nat.le_of_ble_eq_true rfl, Nat.le_of_ble_eq_true rfl⟩) ⟨fun a U g mk q => by obtain ⟨q0, q1, qP, qK, qD⟩ := q; exact ⟨q0, q1, qP, va_K.moved (u := U) (U := U.calling g mk a) (Vm.Alike.refl U.vm) qK, qD⟩, va_recv hK hPc (ci := 10) (q0 := 0) rfl rfl, fun U hU hW => ⟨rfl, by rw [hU], by rw [hU]; exact hPc, va_K.moved hW.alike hK, hDc.weaken (fun _ _ _ _ => trivial)⟩⟩ rfl rfl hl.1 rfl (lv_room (Nat.le_of_ble_eq_true rfl)) dL_law_567 ⟨Nat.le_of_ble_eq_true rfl, Nat.le_of_ble_eq_true rfl⟩) hS (fun q _ h => hFc q h) hFc (fun r3 u t H1 locs ht hvm hw hB hz1 hk1 hS => ?_)
    have hw : (-9223372036854775808) = r3 := (show r3 = (-9223372036854775808) from hw).symm
    subst hw
    obtain ⟨hP, hD⟩ := va_join (wr := []) (w1 := []) hP hD [0] [] rfl rfl (by decide +kernel) (by decide +kernel) hk1 hFc pf_Pn pf_Dn
    clear hPc hDc hFc hk1 hz1
    generalize H1 = H at hP hS ⊢
    have hP : va_P (dC, dI) pf_cls [] H := hP
    have hD : va_D (fun q : Nat => s.heap.size ≤ q) [] := hD
    refine W.lcmp hx hb dL_law_570 ?_
    refine pf_topi (v := 0) (by decide +kernel) ?_
    refine lv_if_eq (tgt := 1009) hx hb dL_law_571 (by decide) (fun _ => ?_) (fun c4 => absurd (by decide +kernel) c4)
    refine lv_iinc (v := 6) (lv' := [(3, .int 6), (2, .ref q64), (1, .ref q1), (0, .ref b)]) hx hb dL_law_1009 hl (k := 0) rfl (by decide +kernel) (by decide) rfl (fun ls hl => ?_)
    refine lv_goto (tgt := 18) hx hb dL_law_1012 (by decide) ?_
    refine lv_iload_n hx hb dL_law_18 rfl (lv_at hl 0 rfl) ?_
    refine lv_aload_n hx hb dL_law_19 rfl (lv_at hl 3 rfl) ?_
    refine va_slen hx hb hX hbl hbA hS dL_law_20 ?_
    refine pf_topi (v := 6) (by decide +kernel) ?_
    refine lv_bipush (v := 6) hx hb dL_law_21 (by decide +kernel) ?_
    refine lv_isub hx hb dL_law_23 ?_
    refine pf_topi (v := 0) (by decide +kernel) ?_
    refine lv_icmp_gt (tgt := 1015) hx hb dL_law_24 (by decide) (fun _ => ?_) (fun c5 => absurd (by decide +kernel) c5)
    refine lv_iconst (v := 1) hx hb dL_law_1015 (by decide) ?_
    refine va_forget (fun q hq => hS.2.2 q hq) ?_
    refine W.widen (k := 600000) (n := 7302250) (Nat.le_of_ble_eq_true rfl) (Nat.le_of_ble_eq_true rfl) ?_
    exact lw_ret hx hb hr hlocks dL_law_1016
  · skip
    refine lv_iconst (v := 1) hx hb dL_law_540 (by decide) ?_
    refine lv_goto (tgt := 545) hx hb dL_law_541 (by decide) ?_
    have hPc := hP.sub (ws' := [(q1, .inr (9, [.ref q3, .ref q11, .ref q20, .ref q42, .int 0])), (q3, .inr (5, [.int 2, .int 0, .int 0, .ref q4, .ref q5, .ref q6, .ref q7, .ref q8, .ref q9, .ref q10]))]) [0, 1] rfl
    have hDc := hD.sub (ws' := [(q1, .inr (9, [.ref q3, .ref q11, .ref q20, .ref q42, .int 0])), (q3, .inr (5, [.int 2, .int 0, .int 0, .ref q4, .ref q5, .ref q6, .ref q7, .ref q8, .ref q9, .ref q10]))]) [0, 1] (by decide +kernel) rfl
    have hFc := va_free (wc := [(q1, .inr (9, [.ref q3, .ref q11, .ref q20, .ref q42, .int 0])), (q3, .inr (5, [.int 2, .int 0, .int 0, .ref q4, .ref q5, .ref q6, .ref q7, .ref q8, .ref q9, .ref q10]))]) hD hS hA [0, 1] rfl
    refine va_calll (va_runV (As := [.int (xs 1), .int 1]) (rest := []) ⟨hx, hb, hml, hown, hts⟩ (c_flow l dC dI cI cJ cZ cO H.size q1 ((xs 1)) 1 q3 q11 q20 q42 q4 q5 q6 q7 q8 q9 q10) (cwV 2 hts (pf_gV mw_581 mw_582 mw_583 mw_50 mw_584) rfl rfl rfl (by decide +kernel) ⟨Nat.le_of_ble_eq_true rfl, Nat.le_of_ble_eq_true rfl⟩) ⟨fun a U g mk q => by obtain ⟨q0, q1, qP, qK, qD⟩ := q; exact ⟨q0, q1, qP, va_K.moved (u := U) (U := U.calling g mk a) (Vm.Alike.refl U.vm) qK, qD⟩, va_recv hK hPc (ci := 9) (q0 := 0) rfl rfl, fun U hU hW => ⟨rfl, by rw [hU], by rw [hU]; exact hPc, va_K.moved hW.alike hK, hDc.weaken (fun _ _ _ _ => trivial)⟩⟩ rfl rfl hl.1 rfl (lv_room (Nat.le_of_ble_eq_true rfl)) dL_law_545 ⟨Nat.le_of_ble_eq_true rfl, Nat.le_of_ble_eq_true rfl⟩) hS (fun q _ h => hFc q h) hFc (fun r6 u t H1 locs ht hvm hw hB hz1 hk1 hS => ?_)
    have hw : (-9223372036854775808) = r6 := (show r6 = (-9223372036854775808) from hw).symm
    subst hw
    obtain ⟨hP, hD⟩ := va_join (wr := [(q64, .inr (10, [.int 2, .int 0, .int 0, .ref q66, .ref q67, .ref q68, .ref q69, .ref q70, .ref q71, .ref q72, .int 0, .ref q73, .ref q74, .ref q75, .ref q76, .ref q77, .ref q78, .ref q79, .ref q80, .ref q81, .ref q82, .ref q83, .long 0, .int 0, .ref q84, .ref q85, .int 0, .ref q86, .ref q87, .int 0, .int 0, .int 0, .long 0, .long 0, .int 0, .long 0, .long 0, .ref q88, .ref q89, .int 0, .ref q90, .ref q91, .ref q92, .ref q93, .ref q94, .ref q95, .long 0, .long 0]))]) (w1 := []) hP hD [0, 1] [2] rfl rfl (by decide +kernel) (by decide +kernel) hk1 hFc pf_Pn pf_Dn
    clear hPc hDc hFc hk1 hz1
    generalize H1 = H at hP hS ⊢
    have hP : va_P (dC, dI) pf_cls [(q64, .inr (10, [.int 2, .int 0, .int 0, .ref q66, .ref q67, .ref q68, .ref q69, .ref q70, .ref q71, .ref q72, .int 0, .ref q73, .ref q74, .ref q75, .ref q76, .ref q77, .ref q78, .ref q79, .ref q80, .ref q81, .ref q82, .ref q83, .long 0, .int 0, .ref q84, .ref q85, .int 0, .ref q86, .ref q87, .int 0, .int 0, .int 0, .long 0, .long 0, .int 0, .long 0, .long 0, .ref q88, .ref q89, .int 0, .ref q90, .ref q91, .ref q92, .ref q93, .ref q94, .ref q95, .long 0, .long 0]))] H := hP
    have hD : va_D (fun q : Nat => s.heap.size ≤ q) [(q64, .inr (10, [.int 2, .int 0, .int 0, .ref q66, .ref q67, .ref q68, .ref q69, .ref q70, .ref q71, .ref q72, .int 0, .ref q73, .ref q74, .ref q75, .ref q76, .ref q77, .ref q78, .ref q79, .ref q80, .ref q81, .ref q82, .ref q83, .long 0, .int 0, .ref q84, .ref q85, .int 0, .ref q86, .ref q87, .int 0, .int 0, .int 0, .long 0, .long 0, .int 0, .long 0, .long 0, .ref q88, .ref q89, .int 0, .ref q90, .ref q91, .ref q92, .ref q93, .ref q94, .ref q95, .long 0, .long 0]))] := hD
    refine lv_aload_n hx hb dL_law_548 rfl (lv_at hl 1 rfl) ?_
    refine lv_aload_n hx hb dL_law_549 rfl (lv_at hl 3 rfl) ?_
    refine lv_iload_n hx hb dL_law_550 rfl (lv_at hl 0 rfl) ?_
    refine lv_iconst (v := 1) hx hb dL_law_551 (by decide) ?_
    refine lv_iadd hx hb dL_law_552 ?_
    refine pf_topi (v := 1) (by decide +kernel) ?_
    refine va_sld hx hb hX hbl hbA hS (pf_vpin (k := 1) (by decide +kernel) (by decide +kernel) (by decide)) dL_law_553 ?_
    refine pf_topi (v := xs 1) (congrArg xs (by decide +kernel)) ?_
    refine lv_aload_n hx hb dL_law_554 rfl (lv_at hl 3 rfl) ?_
    refine lv_iload_n hx hb dL_law_555 rfl (lv_at hl 0 rfl) ?_
    refine lv_iconst (v := 2) hx hb dL_law_556 (by decide) ?_
    refine lv_iadd hx hb dL_law_557 ?_
    refine pf_topi (v := 2) (by decide +kernel) ?_
    refine va_sld hx hb hX hbl hbA hS (pf_vpin (k := 2) (by decide +kernel) (by decide +kernel) (by decide)) dL_law_558 ?_
    refine pf_topi (v := xs 2) (congrArg xs (by decide +kernel)) ?_
    refine lv_if_eq (tgt := 566) hx hb dL_law_559 (by decide) (fun c7 => absurd c7 c0) (fun _ => ?_)
    refine lv_iconst (v := 1) hx hb dL_law_562 (by decide) ?_
    refine lv_goto (tgt := 567) hx hb dL_law_563 (by decide) ?_
    have hPc := hP.sub (ws' := [(q64, .inr (10, [.int 2, .int 0, .int 0, .ref q66, .ref q67, .ref q68, .ref q69, .ref q70, .ref q71, .ref q72, .int 0, .ref q73, .ref q74, .ref q75, .ref q76, .ref q77, .ref q78, .ref q79, .ref q80, .ref q81, .ref q82, .ref q83, .long 0, .int 0, .ref q84, .ref q85, .int 0, .ref q86, .ref q87, .int 0, .int 0, .int 0, .long 0, .long 0, .int 0, .long 0, .long 0, .ref q88, .ref q89, .int 0, .ref q90, .ref q91, .ref q92, .ref q93, .ref q94, .ref q95, .long 0, .long 0]))]) [0] rfl
    have hDc := hD.sub (ws' := [(q64, .inr (10, [.int 2, .int 0, .int 0, .ref q66, .ref q67, .ref q68, .ref q69, .ref q70, .ref q71, .ref q72, .int 0, .ref q73, .ref q74, .ref q75, .ref q76, .ref q77, .ref q78, .ref q79, .ref q80, .ref q81, .ref q82, .ref q83, .long 0, .int 0, .ref q84, .ref q85, .int 0, .ref q86, .ref q87, .int 0, .int 0, .int 0, .long 0, .long 0, .int 0, .long 0, .long 0, .ref q88, .ref q89, .int 0, .ref q90, .ref q91, .ref q92, .ref q93, .ref q94, .ref q95, .long 0, .long 0]))]) [0] (by decide +kernel) rfl
    have hFc := va_free (wc := [(q64, .inr (10, [.int 2, .int 0, .int 0, .ref q66, .ref q67, .ref q68, .ref q69, .ref q70, .ref q71, .ref q72, .int 0, .ref q73, .ref q74, .ref q75, .ref q76, .ref q77, .ref q78, .ref q79, .ref q80, .ref q81, .ref q82, .ref q83, .long 0, .int 0, .ref q84, .ref q85, .int 0, .ref q86, .ref q87, .int 0, .int 0, .int 0, .long 0, .long 0, .int 0, .long 0, .long 0, .ref q88, .ref q89, .int 0, .ref q90, .ref q91, .ref q92, .ref q93, .ref q94, .ref q95, .long 0, .long 0]))]) hD hS hA [0] rfl
    refine va_calll (va_runV (As := [.int (xs 1), .int 1]) (rest := [.long (-9223372036854775808)]) ⟨hx, hb, hml, hown, hts⟩ (c_m_flow l dC dI cI cJ cZ cO H.size q64 ((xs 1)) 1 q66 q67 q68 q69 q70 q71 q72 q73 q74 q75 q76 q77 q78 q79 q80 q81 q82 q83 q84 q85 q86 q87 q88 q89 q90 q91 q92 q93 q94 q95) (cwV 2 hts (pf_gV mw_585 mw_586 mw_587 mw_346 mw_588) rfl rfl rfl (by decide +kernel) ⟨Nat.le_of_ble_eq_true rfl, Nat.le_of_ble_eq_true rfl⟩) ⟨fun a U g mk q => by obtain ⟨q0, q1, qP, qK, qD⟩ := q; exact ⟨q0, q1, qP, va_K.moved (u := U) (U := U.calling g mk a) (Vm.Alike.refl U.vm) qK, qD⟩, va_recv hK hPc (ci := 10) (q0 := 0) rfl rfl, fun U hU hW => ⟨rfl, by rw [hU], by rw [hU]; exact hPc, va_K.moved hW.alike hK, hDc.weaken (fun _ _ _ _ => trivial)⟩⟩ rfl rfl hl.1 rfl (lv_room (Nat.le_of_ble_eq_true rfl)) dL_law_567 ⟨Nat.le_of_ble_eq_true rfl, Nat.le_of_ble_eq_true rfl⟩) hS (fun q _ h => hFc q h) hFc (fun r8 u t H1 locs ht hvm hw hB hz1 hk1 hS => ?_)
    have hw : (-9223372036854775808) = r8 := (show r8 = (-9223372036854775808) from hw).symm
    subst hw
    obtain ⟨hP, hD⟩ := va_join (wr := []) (w1 := []) hP hD [0] [] rfl rfl (by decide +kernel) (by decide +kernel) hk1 hFc pf_Pn pf_Dn
    clear hPc hDc hFc hk1 hz1
    generalize H1 = H at hP hS ⊢
    have hP : va_P (dC, dI) pf_cls [] H := hP
    have hD : va_D (fun q : Nat => s.heap.size ≤ q) [] := hD
    refine W.lcmp hx hb dL_law_570 ?_
    refine pf_topi (v := 0) (by decide +kernel) ?_
    refine lv_if_eq (tgt := 1009) hx hb dL_law_571 (by decide) (fun _ => ?_) (fun c9 => absurd (by decide +kernel) c9)
    refine lv_iinc (v := 6) (lv' := [(3, .int 6), (2, .ref q64), (1, .ref q1), (0, .ref b)]) hx hb dL_law_1009 hl (k := 0) rfl (by decide +kernel) (by decide) rfl (fun ls hl => ?_)
    refine lv_goto (tgt := 18) hx hb dL_law_1012 (by decide) ?_
    refine lv_iload_n hx hb dL_law_18 rfl (lv_at hl 0 rfl) ?_
    refine lv_aload_n hx hb dL_law_19 rfl (lv_at hl 3 rfl) ?_
    refine va_slen hx hb hX hbl hbA hS dL_law_20 ?_
    refine pf_topi (v := 6) (by decide +kernel) ?_
    refine lv_bipush (v := 6) hx hb dL_law_21 (by decide +kernel) ?_
    refine lv_isub hx hb dL_law_23 ?_
    refine pf_topi (v := 0) (by decide +kernel) ?_
    refine lv_icmp_gt (tgt := 1015) hx hb dL_law_24 (by decide) (fun _ => ?_) (fun c10 => absurd (by decide +kernel) c10)
    refine lv_iconst (v := 1) hx hb dL_law_1015 (by decide) ?_
    refine va_forget (fun q hq => hS.2.2 q hq) ?_
    refine W.widen (k := 600000) (n := 7302250) (Nat.le_of_ble_eq_true rfl) (Nat.le_of_ble_eq_true rfl) ?_
    exact lw_ret hx hb hr hlocks dL_law_1016
set_option maxHeartbeats 40000000 in
set_option maxRecDepth 100000 in
theorem law_case_12 {p : Program} {e : Env} {s : State} {m : MethodId} {below : List Frame} {meth : Method} {c : Code} (l : Launch) {b t0 : Nat} {xs : Nat → Int32} (C0 : lw_At p s m meth c b 6 xs) (dC : Nat → ClassId) (dI : Nat → Nat → Nat) (cI cJ cZ cO : ClassId) (q1 q3 q11 q20 q42 q4 q5 q6 q7 q8 q9 q10 q64 q66 q67 q68 q69 q70 q71 q72 q73 q74 q75 q76 q77 q78 q79 q80 q81 q82 q83 q84 q85 q86 q87 q88 q89 q90 q91 q92 q93 q94 q95 : Nat) {H : Heap} {locs : List Loc} {ls : Array Slot} (hK : va_K (dC, dI) pf_cls (pf_ty cI cJ cZ cO) s) (hSt : pf_St t0 (fun q : Nat => s.heap.size ≤ q) s s.heap) (hP : va_P (dC, dI) pf_cls [(q1, .inr (9, [.ref q3, .ref q11, .ref q20, .ref q42, .int 0])), (q3, .inr (5, [.int 2, .int 0, .int 0, .ref q4, .ref q5, .ref q6, .ref q7, .ref q8, .ref q9, .ref q10])), (q64, .inr (10, [.int 2, .int 0, .int 0, .ref q66, .ref q67, .ref q68, .ref q69, .ref q70, .ref q71, .ref q72, .int 0, .ref q73, .ref q74, .ref q75, .ref q76, .ref q77, .ref q78, .ref q79, .ref q80, .ref q81, .ref q82, .ref q83, .long 0, .int 0, .ref q84, .ref q85, .int 0, .ref q86, .ref q87, .int 0, .int 0, .int 0, .long 0, .long 0, .int 0, .long 0, .long 0, .ref q88, .ref q89, .int 0, .ref q90, .ref q91, .ref q92, .ref q93, .ref q94, .ref q95, .long 0, .long 0]))] H) (hD : va_D (fun q : Nat => s.heap.size ≤ q) [(q1, .inr (9, [.ref q3, .ref q11, .ref q20, .ref q42, .int 0])), (q3, .inr (5, [.int 2, .int 0, .int 0, .ref q4, .ref q5, .ref q6, .ref q7, .ref q8, .ref q9, .ref q10])), (q64, .inr (10, [.int 2, .int 0, .int 0, .ref q66, .ref q67, .ref q68, .ref q69, .ref q70, .ref q71, .ref q72, .int 0, .ref q73, .ref q74, .ref q75, .ref q76, .ref q77, .ref q78, .ref q79, .ref q80, .ref q81, .ref q82, .ref q83, .long 0, .int 0, .ref q84, .ref q85, .int 0, .ref q86, .ref q87, .int 0, .int 0, .int 0, .long 0, .long 0, .int 0, .long 0, .long 0, .ref q88, .ref q89, .int 0, .ref q90, .ref q91, .ref q92, .ref q93, .ref q94, .ref q95, .long 0, .long 0]))]) (hS : va_S (fun q : Nat => s.heap.size ≤ q) s.heap H locs) (hl : lv_has ls 4 [(3, .int 0), (2, .ref q64), (1, .ref q1), (0, .ref b)]) : W p l e room_1 s m #[Value.ref b] below meth c H locs 93 44360 (lw_Z below #[Value.ref b] s) (F0 m 576 ls []) := by
  obtain ⟨hx, hb, hr, hml, hown0, hts0, hX, hbl, hlocks, hgv⟩ := id C0
  have hown : s.vm.findClass RL = some m.cls := hown0
  have hts : ∀ w ∈ Cond.initialized RX9 :: pf_W, w.before #[Value.ref b] s = true := pf_lawW hts0
  have hA : ∀ q : Nat, s.heap.size ≤ q → (fun q : Nat => s.heap.size ≤ q) q := fun _ h => h
  have hbA : ¬ (fun q : Nat => s.heap.size ≤ q) b := Nat.not_le.mpr hbl
  refine lv_aload_n hx hb dL_law_576 rfl (lv_at hl 2 rfl) ?_
  refine lv_aload_n hx hb dL_law_577 rfl (lv_at hl 3 rfl) ?_
  refine lv_iload_n hx hb dL_law_578 rfl (lv_at hl 0 rfl) ?_
  refine lv_iconst (v := 1) hx hb dL_law_579 (by decide) ?_
  refine lv_iadd hx hb dL_law_580 ?_
  refine pf_topi (v := 1) (by decide +kernel) ?_
  refine va_sld hx hb hX hbl hbA hS (pf_vpin (k := 1) (by decide +kernel) (by decide +kernel) (by decide)) dL_law_581 ?_
  refine pf_topi (v := xs 1) (congrArg xs (by decide +kernel)) ?_
  have hPc := hP.sub (ws' := [(q1, .inr (9, [.ref q3, .ref q11, .ref q20, .ref q42, .int 0])), (q3, .inr (5, [.int 2, .int 0, .int 0, .ref q4, .ref q5, .ref q6, .ref q7, .ref q8, .ref q9, .ref q10]))]) [0, 1] rfl
  have hDc := hD.sub (ws' := [(q1, .inr (9, [.ref q3, .ref q11, .ref q20, .ref q42, .int 0])), (q3, .inr (5, [.int 2, .int 0, .int 0, .ref q4, .ref q5, .ref q6, .ref q7, .ref q8, .ref q9, .ref q10]))]) [0, 1] (by decide +kernel) rfl
  have hFc := va_free (wc := [(q1, .inr (9, [.ref q3, .ref q11, .ref q20, .ref q42, .int 0])), (q3, .inr (5, [.int 2, .int 0, .int 0, .ref q4, .ref q5, .ref q6, .ref q7, .ref q8, .ref q9, .ref q10]))]) hD hS hA [0, 1] rfl
  refine va_calll (va_runV (As := [.int (xs 1)]) (rest := []) ⟨hx, hb, hml, hown, hts⟩ (c_reducedCost l dC dI cI cJ cZ cO H.size q1 ((xs 1)) q3 q11 q20 q42 q4 q5 q6 q7 q8 q9 q10) (cwV 1 hts (pf_gV mw_589 mw_590 mw_591 mw_50 mw_592) rfl rfl rfl (by decide +kernel) ⟨Nat.le_of_ble_eq_true rfl, Nat.le_of_ble_eq_true rfl⟩) ⟨fun a U g mk q => by obtain ⟨q0, q1, qP, qK, qD⟩ := q; exact ⟨q0, q1, qP, va_K.moved (u := U) (U := U.calling g mk a) (Vm.Alike.refl U.vm) qK, qD⟩, va_recv hK hPc (ci := 9) (q0 := 0) rfl rfl, fun U hU hW => ⟨rfl, by rw [hU], by rw [hU]; exact hPc, va_K.moved hW.alike hK, hDc.weaken (fun _ _ _ _ => trivial)⟩⟩ rfl rfl hl.1 rfl (lv_room (Nat.le_of_ble_eq_true rfl)) dL_law_582 ⟨Nat.le_of_ble_eq_true rfl, Nat.le_of_ble_eq_true rfl⟩) hS (fun q _ h => hFc q h) hFc (fun r0 u t H1 locs ht hvm hw hB hz1 hk1 hS => ?_)
  have hw : (-9223372036854775808) = r0 := (show r0 = (-9223372036854775808) from hw).symm
  subst hw
  obtain ⟨hP, hD⟩ := va_join (wr := [(q64, .inr (10, [.int 2, .int 0, .int 0, .ref q66, .ref q67, .ref q68, .ref q69, .ref q70, .ref q71, .ref q72, .int 0, .ref q73, .ref q74, .ref q75, .ref q76, .ref q77, .ref q78, .ref q79, .ref q80, .ref q81, .ref q82, .ref q83, .long 0, .int 0, .ref q84, .ref q85, .int 0, .ref q86, .ref q87, .int 0, .int 0, .int 0, .long 0, .long 0, .int 0, .long 0, .long 0, .ref q88, .ref q89, .int 0, .ref q90, .ref q91, .ref q92, .ref q93, .ref q94, .ref q95, .long 0, .long 0]))]) (w1 := []) hP hD [0, 1] [2] rfl rfl (by decide +kernel) (by decide +kernel) hk1 hFc pf_Pn pf_Dn
  clear hPc hDc hFc hk1 hz1
  generalize H1 = H at hP hS ⊢
  have hP : va_P (dC, dI) pf_cls [(q64, .inr (10, [.int 2, .int 0, .int 0, .ref q66, .ref q67, .ref q68, .ref q69, .ref q70, .ref q71, .ref q72, .int 0, .ref q73, .ref q74, .ref q75, .ref q76, .ref q77, .ref q78, .ref q79, .ref q80, .ref q81, .ref q82, .ref q83, .long 0, .int 0, .ref q84, .ref q85, .int 0, .ref q86, .ref q87, .int 0, .int 0, .int 0, .long 0, .long 0, .int 0, .long 0, .long 0, .ref q88, .ref q89, .int 0, .ref q90, .ref q91, .ref q92, .ref q93, .ref q94, .ref q95, .long 0, .long 0]))] H := hP
  have hD : va_D (fun q : Nat => s.heap.size ≤ q) [(q64, .inr (10, [.int 2, .int 0, .int 0, .ref q66, .ref q67, .ref q68, .ref q69, .ref q70, .ref q71, .ref q72, .int 0, .ref q73, .ref q74, .ref q75, .ref q76, .ref q77, .ref q78, .ref q79, .ref q80, .ref q81, .ref q82, .ref q83, .long 0, .int 0, .ref q84, .ref q85, .int 0, .ref q86, .ref q87, .int 0, .int 0, .int 0, .long 0, .long 0, .int 0, .long 0, .long 0, .ref q88, .ref q89, .int 0, .ref q90, .ref q91, .ref q92, .ref q93, .ref q94, .ref q95, .long 0, .long 0]))] := hD
  refine lv_aload_n hx hb dL_law_585 rfl (lv_at hl 1 rfl) ?_
  refine lv_aload_n hx hb dL_law_586 rfl (lv_at hl 3 rfl) ?_
  refine lv_iload_n hx hb dL_law_587 rfl (lv_at hl 0 rfl) ?_
  refine lv_iconst (v := 1) hx hb dL_law_588 (by decide) ?_
  refine lv_iadd hx hb dL_law_589 ?_
  refine pf_topi (v := 1) (by decide +kernel) ?_
  refine va_sld hx hb hX hbl hbA hS (pf_vpin (k := 1) (by decide +kernel) (by decide +kernel) (by decide)) dL_law_590 ?_
  refine pf_topi (v := xs 1) (congrArg xs (by decide +kernel)) ?_
  have hPc := hP.sub (ws' := [(q64, .inr (10, [.int 2, .int 0, .int 0, .ref q66, .ref q67, .ref q68, .ref q69, .ref q70, .ref q71, .ref q72, .int 0, .ref q73, .ref q74, .ref q75, .ref q76, .ref q77, .ref q78, .ref q79, .ref q80, .ref q81, .ref q82, .ref q83, .long 0, .int 0, .ref q84, .ref q85, .int 0, .ref q86, .ref q87, .int 0, .int 0, .int 0, .long 0, .long 0, .int 0, .long 0, .long 0, .ref q88, .ref q89, .int 0, .ref q90, .ref q91, .ref q92, .ref q93, .ref q94, .ref q95, .long 0, .long 0]))]) [0] rfl
  have hDc := hD.sub (ws' := [(q64, .inr (10, [.int 2, .int 0, .int 0, .ref q66, .ref q67, .ref q68, .ref q69, .ref q70, .ref q71, .ref q72, .int 0, .ref q73, .ref q74, .ref q75, .ref q76, .ref q77, .ref q78, .ref q79, .ref q80, .ref q81, .ref q82, .ref q83, .long 0, .int 0, .ref q84, .ref q85, .int 0, .ref q86, .ref q87, .int 0, .int 0, .int 0, .long 0, .long 0, .int 0, .long 0, .long 0, .ref q88, .ref q89, .int 0, .ref q90, .ref q91, .ref q92, .ref q93, .ref q94, .ref q95, .long 0, .long 0]))]) [0] (by decide +kernel) rfl
  have hFc := va_free (wc := [(q64, .inr (10, [.int 2, .int 0, .int 0, .ref q66, .ref q67, .ref q68, .ref q69, .ref q70, .ref q71, .ref q72, .int 0, .ref q73, .ref q74, .ref q75, .ref q76, .ref q77, .ref q78, .ref q79, .ref q80, .ref q81, .ref q82, .ref q83, .long 0, .int 0, .ref q84, .ref q85, .int 0, .ref q86, .ref q87, .int 0, .int 0, .int 0, .long 0, .long 0, .int 0, .long 0, .long 0, .ref q88, .ref q89, .int 0, .ref q90, .ref q91, .ref q92, .ref q93, .ref q94, .ref q95, .long 0, .long 0]))]) hD hS hA [0] rfl
  refine va_calll (va_runV (As := [.int (xs 1)]) (rest := [.long (-9223372036854775808)]) ⟨hx, hb, hml, hown, hts⟩ (c_m_reducedCost l dC dI cI cJ cZ cO H.size q64 ((xs 1)) q66 q67 q68 q69 q70 q71 q72 q73 q74 q75 q76 q77 q78 q79 q80 q81 q82 q83 q84 q85 q86 q87 q88 q89 q90 q91 q92 q93 q94 q95) (cwV 1 hts (pf_gV mw_593 mw_594 mw_595 mw_346 mw_596) rfl rfl rfl (by decide +kernel) ⟨Nat.le_of_ble_eq_true rfl, Nat.le_of_ble_eq_true rfl⟩) ⟨fun a U g mk q => by obtain ⟨q0, q1, qP, qK, qD⟩ := q; exact ⟨q0, q1, qP, va_K.moved (u := U) (U := U.calling g mk a) (Vm.Alike.refl U.vm) qK, qD⟩, va_recv hK hPc (ci := 10) (q0 := 0) rfl rfl, fun U hU hW => ⟨rfl, by rw [hU], by rw [hU]; exact hPc, va_K.moved hW.alike hK, hDc.weaken (fun _ _ _ _ => trivial)⟩⟩ rfl rfl hl.1 rfl (lv_room (Nat.le_of_ble_eq_true rfl)) dL_law_591 ⟨Nat.le_of_ble_eq_true rfl, Nat.le_of_ble_eq_true rfl⟩) hS (fun q _ h => hFc q h) hFc (fun r1 u t H1 locs ht hvm hw hB hz1 hk1 hS => ?_)
  have hw : (-9223372036854775808) = r1 := (show r1 = (-9223372036854775808) from hw).symm
  subst hw
  obtain ⟨hP, hD⟩ := va_join (wr := []) (w1 := []) hP hD [0] [] rfl rfl (by decide +kernel) (by decide +kernel) hk1 hFc pf_Pn pf_Dn
  clear hPc hDc hFc hk1 hz1
  generalize H1 = H at hP hS ⊢
  have hP : va_P (dC, dI) pf_cls [] H := hP
  have hD : va_D (fun q : Nat => s.heap.size ≤ q) [] := hD
  refine W.lcmp hx hb dL_law_594 ?_
  refine pf_topi (v := 0) (by decide +kernel) ?_
  refine lv_if_eq (tgt := 1009) hx hb dL_law_595 (by decide) (fun _ => ?_) (fun c2 => absurd (by decide +kernel) c2)
  refine lv_iinc (v := 6) (lv' := [(3, .int 6), (2, .ref q64), (1, .ref q1), (0, .ref b)]) hx hb dL_law_1009 hl (k := 0) rfl (by decide +kernel) (by decide) rfl (fun ls hl => ?_)
  refine lv_goto (tgt := 18) hx hb dL_law_1012 (by decide) ?_
  refine lv_iload_n hx hb dL_law_18 rfl (lv_at hl 0 rfl) ?_
  refine lv_aload_n hx hb dL_law_19 rfl (lv_at hl 3 rfl) ?_
  refine va_slen hx hb hX hbl hbA hS dL_law_20 ?_
  refine pf_topi (v := 6) (by decide +kernel) ?_
  refine lv_bipush (v := 6) hx hb dL_law_21 (by decide +kernel) ?_
  refine lv_isub hx hb dL_law_23 ?_
  refine pf_topi (v := 0) (by decide +kernel) ?_
  refine lv_icmp_gt (tgt := 1015) hx hb dL_law_24 (by decide) (fun _ => ?_) (fun c3 => absurd (by decide +kernel) c3)
  refine lv_iconst (v := 1) hx hb dL_law_1015 (by decide) ?_
  refine va_forget (fun q hq => hS.2.2 q hq) ?_
  refine W.widen (k := 600000) (n := 7302250) (Nat.le_of_ble_eq_true rfl) (Nat.le_of_ble_eq_true rfl) ?_
  exact lw_ret hx hb hr hlocks dL_law_1016
set_option maxHeartbeats 40000000 in
set_option maxRecDepth 100000 in
theorem law_case_13 {p : Program} {e : Env} {s : State} {m : MethodId} {below : List Frame} {meth : Method} {c : Code} (l : Launch) {b t0 : Nat} {xs : Nat → Int32} (C0 : lw_At p s m meth c b 6 xs) (dC : Nat → ClassId) (dI : Nat → Nat → Nat) (cI cJ cZ cO : ClassId) (q1 q3 q11 q20 q42 q4 q5 q6 q7 q8 q9 q10 q64 q66 q67 q68 q69 q70 q71 q72 q73 q74 q75 q76 q77 q78 q79 q80 q81 q82 q83 q84 q85 q86 q87 q88 q89 q90 q91 q92 q93 q94 q95 : Nat) {H : Heap} {locs : List Loc} {ls : Array Slot} (hK : va_K (dC, dI) pf_cls (pf_ty cI cJ cZ cO) s) (hSt : pf_St t0 (fun q : Nat => s.heap.size ≤ q) s s.heap) (hP : va_P (dC, dI) pf_cls [(q1, .inr (9, [.ref q3, .ref q11, .ref q20, .ref q42, .int 0])), (q3, .inr (5, [.int 2, .int 0, .int 0, .ref q4, .ref q5, .ref q6, .ref q7, .ref q8, .ref q9, .ref q10])), (q64, .inr (10, [.int 2, .int 0, .int 0, .ref q66, .ref q67, .ref q68, .ref q69, .ref q70, .ref q71, .ref q72, .int 0, .ref q73, .ref q74, .ref q75, .ref q76, .ref q77, .ref q78, .ref q79, .ref q80, .ref q81, .ref q82, .ref q83, .long 0, .int 0, .ref q84, .ref q85, .int 0, .ref q86, .ref q87, .int 0, .int 0, .int 0, .long 0, .long 0, .int 0, .long 0, .long 0, .ref q88, .ref q89, .int 0, .ref q90, .ref q91, .ref q92, .ref q93, .ref q94, .ref q95, .long 0, .long 0]))] H) (hD : va_D (fun q : Nat => s.heap.size ≤ q) [(q1, .inr (9, [.ref q3, .ref q11, .ref q20, .ref q42, .int 0])), (q3, .inr (5, [.int 2, .int 0, .int 0, .ref q4, .ref q5, .ref q6, .ref q7, .ref q8, .ref q9, .ref q10])), (q64, .inr (10, [.int 2, .int 0, .int 0, .ref q66, .ref q67, .ref q68, .ref q69, .ref q70, .ref q71, .ref q72, .int 0, .ref q73, .ref q74, .ref q75, .ref q76, .ref q77, .ref q78, .ref q79, .ref q80, .ref q81, .ref q82, .ref q83, .long 0, .int 0, .ref q84, .ref q85, .int 0, .ref q86, .ref q87, .int 0, .int 0, .int 0, .long 0, .long 0, .int 0, .long 0, .long 0, .ref q88, .ref q89, .int 0, .ref q90, .ref q91, .ref q92, .ref q93, .ref q94, .ref q95, .long 0, .long 0]))]) (hS : va_S (fun q : Nat => s.heap.size ≤ q) s.heap H locs) (hl : lv_has ls 4 [(3, .int 0), (2, .ref q64), (1, .ref q1), (0, .ref b)]) : W p l e room_1 s m #[Value.ref b] below meth c H locs 93 44360 (lw_Z below #[Value.ref b] s) (F0 m 600 ls []) := by
  obtain ⟨hx, hb, hr, hml, hown0, hts0, hX, hbl, hlocks, hgv⟩ := id C0
  have hown : s.vm.findClass RL = some m.cls := hown0
  have hts : ∀ w ∈ Cond.initialized RX9 :: pf_W, w.before #[Value.ref b] s = true := pf_lawW hts0
  have hA : ∀ q : Nat, s.heap.size ≤ q → (fun q : Nat => s.heap.size ≤ q) q := fun _ h => h
  have hbA : ¬ (fun q : Nat => s.heap.size ≤ q) b := Nat.not_le.mpr hbl
  refine lv_aload_n hx hb dL_law_600 rfl (lv_at hl 2 rfl) ?_
  refine lv_aload_n hx hb dL_law_601 rfl (lv_at hl 3 rfl) ?_
  refine lv_iload_n hx hb dL_law_602 rfl (lv_at hl 0 rfl) ?_
  refine lv_iconst (v := 1) hx hb dL_law_603 (by decide) ?_
  refine lv_iadd hx hb dL_law_604 ?_
  refine pf_topi (v := 1) (by decide +kernel) ?_
  refine va_sld hx hb hX hbl hbA hS (pf_vpin (k := 1) (by decide +kernel) (by decide +kernel) (by decide)) dL_law_605 ?_
  refine pf_topi (v := xs 1) (congrArg xs (by decide +kernel)) ?_
  have hPc := hP.sub (ws' := [(q1, .inr (9, [.ref q3, .ref q11, .ref q20, .ref q42, .int 0])), (q3, .inr (5, [.int 2, .int 0, .int 0, .ref q4, .ref q5, .ref q6, .ref q7, .ref q8, .ref q9, .ref q10]))]) [0, 1] rfl
  have hDc := hD.sub (ws' := [(q1, .inr (9, [.ref q3, .ref q11, .ref q20, .ref q42, .int 0])), (q3, .inr (5, [.int 2, .int 0, .int 0, .ref q4, .ref q5, .ref q6, .ref q7, .ref q8, .ref q9, .ref q10]))]) [0, 1] (by decide +kernel) rfl
  have hFc := va_free (wc := [(q1, .inr (9, [.ref q3, .ref q11, .ref q20, .ref q42, .int 0])), (q3, .inr (5, [.int 2, .int 0, .int 0, .ref q4, .ref q5, .ref q6, .ref q7, .ref q8, .ref q9, .ref q10]))]) hD hS hA [0, 1] rfl
  refine va_calll (va_runV (As := [.int (xs 1)]) (rest := []) ⟨hx, hb, hml, hown, hts⟩ (c_potential l dC dI cI cJ cZ cO H.size q1 ((xs 1)) q3 q11 q20 q42 q4 q5 q6 q7 q8 q9 q10) (cwV 1 hts (pf_gV mw_597 mw_598 mw_599 mw_50 mw_600) rfl rfl rfl (by decide +kernel) ⟨Nat.le_of_ble_eq_true rfl, Nat.le_of_ble_eq_true rfl⟩) ⟨fun a U g mk q => by obtain ⟨q0, q1, qP, qK, qD⟩ := q; exact ⟨q0, q1, qP, va_K.moved (u := U) (U := U.calling g mk a) (Vm.Alike.refl U.vm) qK, qD⟩, va_recv hK hPc (ci := 9) (q0 := 0) rfl rfl, fun U hU hW => ⟨rfl, by rw [hU], by rw [hU]; exact hPc, va_K.moved hW.alike hK, hDc.weaken (fun _ _ _ _ => trivial)⟩⟩ rfl rfl hl.1 rfl (lv_room (Nat.le_of_ble_eq_true rfl)) dL_law_606 ⟨Nat.le_of_ble_eq_true rfl, Nat.le_of_ble_eq_true rfl⟩) hS (fun q _ h => hFc q h) hFc (fun r0 u t H1 locs ht hvm hw hB hz1 hk1 hS => ?_)
  have hw : (-9223372036854775808) = r0 := (show r0 = (-9223372036854775808) from hw).symm
  subst hw
  obtain ⟨hP, hD⟩ := va_join (wr := [(q64, .inr (10, [.int 2, .int 0, .int 0, .ref q66, .ref q67, .ref q68, .ref q69, .ref q70, .ref q71, .ref q72, .int 0, .ref q73, .ref q74, .ref q75, .ref q76, .ref q77, .ref q78, .ref q79, .ref q80, .ref q81, .ref q82, .ref q83, .long 0, .int 0, .ref q84, .ref q85, .int 0, .ref q86, .ref q87, .int 0, .int 0, .int 0, .long 0, .long 0, .int 0, .long 0, .long 0, .ref q88, .ref q89, .int 0, .ref q90, .ref q91, .ref q92, .ref q93, .ref q94, .ref q95, .long 0, .long 0]))]) (w1 := []) hP hD [0, 1] [2] rfl rfl (by decide +kernel) (by decide +kernel) hk1 hFc pf_Pn pf_Dn
  clear hPc hDc hFc hk1 hz1
  generalize H1 = H at hP hS ⊢
  have hP : va_P (dC, dI) pf_cls [(q64, .inr (10, [.int 2, .int 0, .int 0, .ref q66, .ref q67, .ref q68, .ref q69, .ref q70, .ref q71, .ref q72, .int 0, .ref q73, .ref q74, .ref q75, .ref q76, .ref q77, .ref q78, .ref q79, .ref q80, .ref q81, .ref q82, .ref q83, .long 0, .int 0, .ref q84, .ref q85, .int 0, .ref q86, .ref q87, .int 0, .int 0, .int 0, .long 0, .long 0, .int 0, .long 0, .long 0, .ref q88, .ref q89, .int 0, .ref q90, .ref q91, .ref q92, .ref q93, .ref q94, .ref q95, .long 0, .long 0]))] H := hP
  have hD : va_D (fun q : Nat => s.heap.size ≤ q) [(q64, .inr (10, [.int 2, .int 0, .int 0, .ref q66, .ref q67, .ref q68, .ref q69, .ref q70, .ref q71, .ref q72, .int 0, .ref q73, .ref q74, .ref q75, .ref q76, .ref q77, .ref q78, .ref q79, .ref q80, .ref q81, .ref q82, .ref q83, .long 0, .int 0, .ref q84, .ref q85, .int 0, .ref q86, .ref q87, .int 0, .int 0, .int 0, .long 0, .long 0, .int 0, .long 0, .long 0, .ref q88, .ref q89, .int 0, .ref q90, .ref q91, .ref q92, .ref q93, .ref q94, .ref q95, .long 0, .long 0]))] := hD
  refine lv_aload_n hx hb dL_law_609 rfl (lv_at hl 1 rfl) ?_
  refine lv_aload_n hx hb dL_law_610 rfl (lv_at hl 3 rfl) ?_
  refine lv_iload_n hx hb dL_law_611 rfl (lv_at hl 0 rfl) ?_
  refine lv_iconst (v := 1) hx hb dL_law_612 (by decide) ?_
  refine lv_iadd hx hb dL_law_613 ?_
  refine pf_topi (v := 1) (by decide +kernel) ?_
  refine va_sld hx hb hX hbl hbA hS (pf_vpin (k := 1) (by decide +kernel) (by decide +kernel) (by decide)) dL_law_614 ?_
  refine pf_topi (v := xs 1) (congrArg xs (by decide +kernel)) ?_
  have hPc := hP.sub (ws' := [(q64, .inr (10, [.int 2, .int 0, .int 0, .ref q66, .ref q67, .ref q68, .ref q69, .ref q70, .ref q71, .ref q72, .int 0, .ref q73, .ref q74, .ref q75, .ref q76, .ref q77, .ref q78, .ref q79, .ref q80, .ref q81, .ref q82, .ref q83, .long 0, .int 0, .ref q84, .ref q85, .int 0, .ref q86, .ref q87, .int 0, .int 0, .int 0, .long 0, .long 0, .int 0, .long 0, .long 0, .ref q88, .ref q89, .int 0, .ref q90, .ref q91, .ref q92, .ref q93, .ref q94, .ref q95, .long 0, .long 0]))]) [0] rfl
  have hDc := hD.sub (ws' := [(q64, .inr (10, [.int 2, .int 0, .int 0, .ref q66, .ref q67, .ref q68, .ref q69, .ref q70, .ref q71, .ref q72, .int 0, .ref q73, .ref q74, .ref q75, .ref q76, .ref q77, .ref q78, .ref q79, .ref q80, .ref q81, .ref q82, .ref q83, .long 0, .int 0, .ref q84, .ref q85, .int 0, .ref q86, .ref q87, .int 0, .int 0, .int 0, .long 0, .long 0, .int 0, .long 0, .long 0, .ref q88, .ref q89, .int 0, .ref q90, .ref q91, .ref q92, .ref q93, .ref q94, .ref q95, .long 0, .long 0]))]) [0] (by decide +kernel) rfl
  have hFc := va_free (wc := [(q64, .inr (10, [.int 2, .int 0, .int 0, .ref q66, .ref q67, .ref q68, .ref q69, .ref q70, .ref q71, .ref q72, .int 0, .ref q73, .ref q74, .ref q75, .ref q76, .ref q77, .ref q78, .ref q79, .ref q80, .ref q81, .ref q82, .ref q83, .long 0, .int 0, .ref q84, .ref q85, .int 0, .ref q86, .ref q87, .int 0, .int 0, .int 0, .long 0, .long 0, .int 0, .long 0, .long 0, .ref q88, .ref q89, .int 0, .ref q90, .ref q91, .ref q92, .ref q93, .ref q94, .ref q95, .long 0, .long 0]))]) hD hS hA [0] rfl
  refine va_calll (va_runV (As := [.int (xs 1)]) (rest := [.long (-9223372036854775808)]) ⟨hx, hb, hml, hown, hts⟩ (c_m_potential l dC dI cI cJ cZ cO H.size q64 ((xs 1)) q66 q67 q68 q69 q70 q71 q72 q73 q74 q75 q76 q77 q78 q79 q80 q81 q82 q83 q84 q85 q86 q87 q88 q89 q90 q91 q92 q93 q94 q95) (cwV 1 hts (pf_gV mw_601 mw_602 mw_603 mw_346 mw_604) rfl rfl rfl (by decide +kernel) ⟨Nat.le_of_ble_eq_true rfl, Nat.le_of_ble_eq_true rfl⟩) ⟨fun a U g mk q => by obtain ⟨q0, q1, qP, qK, qD⟩ := q; exact ⟨q0, q1, qP, va_K.moved (u := U) (U := U.calling g mk a) (Vm.Alike.refl U.vm) qK, qD⟩, va_recv hK hPc (ci := 10) (q0 := 0) rfl rfl, fun U hU hW => ⟨rfl, by rw [hU], by rw [hU]; exact hPc, va_K.moved hW.alike hK, hDc.weaken (fun _ _ _ _ => trivial)⟩⟩ rfl rfl hl.1 rfl (lv_room (Nat.le_of_ble_eq_true rfl)) dL_law_615 ⟨Nat.le_of_ble_eq_true rfl, Nat.le_of_ble_eq_true rfl⟩) hS (fun q _ h => hFc q h) hFc (fun r1 u t H1 locs ht hvm hw hB hz1 hk1 hS => ?_)
  have hw : (-9223372036854775808) = r1 := (show r1 = (-9223372036854775808) from hw).symm
  subst hw
  obtain ⟨hP, hD⟩ := va_join (wr := []) (w1 := []) hP hD [0] [] rfl rfl (by decide +kernel) (by decide +kernel) hk1 hFc pf_Pn pf_Dn
  clear hPc hDc hFc hk1 hz1
  generalize H1 = H at hP hS ⊢
  have hP : va_P (dC, dI) pf_cls [] H := hP
  have hD : va_D (fun q : Nat => s.heap.size ≤ q) [] := hD
  refine W.lcmp hx hb dL_law_618 ?_
  refine pf_topi (v := 0) (by decide +kernel) ?_
  refine lv_if_eq (tgt := 1009) hx hb dL_law_619 (by decide) (fun _ => ?_) (fun c2 => absurd (by decide +kernel) c2)
  refine lv_iinc (v := 6) (lv' := [(3, .int 6), (2, .ref q64), (1, .ref q1), (0, .ref b)]) hx hb dL_law_1009 hl (k := 0) rfl (by decide +kernel) (by decide) rfl (fun ls hl => ?_)
  refine lv_goto (tgt := 18) hx hb dL_law_1012 (by decide) ?_
  refine lv_iload_n hx hb dL_law_18 rfl (lv_at hl 0 rfl) ?_
  refine lv_aload_n hx hb dL_law_19 rfl (lv_at hl 3 rfl) ?_
  refine va_slen hx hb hX hbl hbA hS dL_law_20 ?_
  refine pf_topi (v := 6) (by decide +kernel) ?_
  refine lv_bipush (v := 6) hx hb dL_law_21 (by decide +kernel) ?_
  refine lv_isub hx hb dL_law_23 ?_
  refine pf_topi (v := 0) (by decide +kernel) ?_
  refine lv_icmp_gt (tgt := 1015) hx hb dL_law_24 (by decide) (fun _ => ?_) (fun c3 => absurd (by decide +kernel) c3)
  refine lv_iconst (v := 1) hx hb dL_law_1015 (by decide) ?_
  refine va_forget (fun q hq => hS.2.2 q hq) ?_
  refine W.widen (k := 600000) (n := 7302250) (Nat.le_of_ble_eq_true rfl) (Nat.le_of_ble_eq_true rfl) ?_
  exact lw_ret hx hb hr hlocks dL_law_1016
set_option maxHeartbeats 40000000 in
set_option maxRecDepth 100000 in
theorem law_case_14 {p : Program} {e : Env} {s : State} {m : MethodId} {below : List Frame} {meth : Method} {c : Code} (l : Launch) {b t0 : Nat} {xs : Nat → Int32} (C0 : lw_At p s m meth c b 6 xs) (dC : Nat → ClassId) (dI : Nat → Nat → Nat) (cI cJ cZ cO : ClassId) (q1 q3 q11 q20 q42 q4 q5 q6 q7 q8 q9 q10 q64 q66 q67 q68 q69 q70 q71 q72 q73 q74 q75 q76 q77 q78 q79 q80 q81 q82 q83 q84 q85 q86 q87 q88 q89 q90 q91 q92 q93 q94 q95 : Nat) {H : Heap} {locs : List Loc} {ls : Array Slot} (hK : va_K (dC, dI) pf_cls (pf_ty cI cJ cZ cO) s) (hSt : pf_St t0 (fun q : Nat => s.heap.size ≤ q) s s.heap) (hP : va_P (dC, dI) pf_cls [(q1, .inr (9, [.ref q3, .ref q11, .ref q20, .ref q42, .int 0])), (q3, .inr (5, [.int 2, .int 0, .int 0, .ref q4, .ref q5, .ref q6, .ref q7, .ref q8, .ref q9, .ref q10])), (q64, .inr (10, [.int 2, .int 0, .int 0, .ref q66, .ref q67, .ref q68, .ref q69, .ref q70, .ref q71, .ref q72, .int 0, .ref q73, .ref q74, .ref q75, .ref q76, .ref q77, .ref q78, .ref q79, .ref q80, .ref q81, .ref q82, .ref q83, .long 0, .int 0, .ref q84, .ref q85, .int 0, .ref q86, .ref q87, .int 0, .int 0, .int 0, .long 0, .long 0, .int 0, .long 0, .long 0, .ref q88, .ref q89, .int 0, .ref q90, .ref q91, .ref q92, .ref q93, .ref q94, .ref q95, .long 0, .long 0]))] H) (hD : va_D (fun q : Nat => s.heap.size ≤ q) [(q1, .inr (9, [.ref q3, .ref q11, .ref q20, .ref q42, .int 0])), (q3, .inr (5, [.int 2, .int 0, .int 0, .ref q4, .ref q5, .ref q6, .ref q7, .ref q8, .ref q9, .ref q10])), (q64, .inr (10, [.int 2, .int 0, .int 0, .ref q66, .ref q67, .ref q68, .ref q69, .ref q70, .ref q71, .ref q72, .int 0, .ref q73, .ref q74, .ref q75, .ref q76, .ref q77, .ref q78, .ref q79, .ref q80, .ref q81, .ref q82, .ref q83, .long 0, .int 0, .ref q84, .ref q85, .int 0, .ref q86, .ref q87, .int 0, .int 0, .int 0, .long 0, .long 0, .int 0, .long 0, .long 0, .ref q88, .ref q89, .int 0, .ref q90, .ref q91, .ref q92, .ref q93, .ref q94, .ref q95, .long 0, .long 0]))]) (hS : va_S (fun q : Nat => s.heap.size ≤ q) s.heap H locs) (hl : lv_has ls 4 [(3, .int 0), (2, .ref q64), (1, .ref q1), (0, .ref b)]) : W p l e room_1 s m #[Value.ref b] below meth c H locs 93 44360 (lw_Z below #[Value.ref b] s) (F0 m 624 ls []) := by
  obtain ⟨hx, hb, hr, hml, hown0, hts0, hX, hbl, hlocks, hgv⟩ := id C0
  have hown : s.vm.findClass RL = some m.cls := hown0
  have hts : ∀ w ∈ Cond.initialized RX9 :: pf_W, w.before #[Value.ref b] s = true := pf_lawW hts0
  have hA : ∀ q : Nat, s.heap.size ≤ q → (fun q : Nat => s.heap.size ≤ q) q := fun _ h => h
  have hbA : ¬ (fun q : Nat => s.heap.size ≤ q) b := Nat.not_le.mpr hbl
  refine lv_aload_n hx hb dL_law_624 rfl (lv_at hl 2 rfl) ?_
  refine lv_aload_n hx hb dL_law_625 rfl (lv_at hl 3 rfl) ?_
  refine lv_iload_n hx hb dL_law_626 rfl (lv_at hl 0 rfl) ?_
  refine lv_iconst (v := 1) hx hb dL_law_627 (by decide) ?_
  refine lv_iadd hx hb dL_law_628 ?_
  refine pf_topi (v := 1) (by decide +kernel) ?_
  refine va_sld hx hb hX hbl hbA hS (pf_vpin (k := 1) (by decide +kernel) (by decide +kernel) (by decide)) dL_law_629 ?_
  refine pf_topi (v := xs 1) (congrArg xs (by decide +kernel)) ?_
  have hPc := hP.sub (ws' := [(q1, .inr (9, [.ref q3, .ref q11, .ref q20, .ref q42, .int 0])), (q3, .inr (5, [.int 2, .int 0, .int 0, .ref q4, .ref q5, .ref q6, .ref q7, .ref q8, .ref q9, .ref q10]))]) [0, 1] rfl
  have hDc := hD.sub (ws' := [(q1, .inr (9, [.ref q3, .ref q11, .ref q20, .ref q42, .int 0])), (q3, .inr (5, [.int 2, .int 0, .int 0, .ref q4, .ref q5, .ref q6, .ref q7, .ref q8, .ref q9, .ref q10]))]) [0, 1] (by decide +kernel) rfl
  have hFc := va_free (wc := [(q1, .inr (9, [.ref q3, .ref q11, .ref q20, .ref q42, .int 0])), (q3, .inr (5, [.int 2, .int 0, .int 0, .ref q4, .ref q5, .ref q6, .ref q7, .ref q8, .ref q9, .ref q10]))]) hD hS hA [0, 1] rfl
  refine va_calli (va_runV (As := [.int (xs 1)]) (rest := []) ⟨hx, hb, hml, hown, hts⟩ (c_bound l dC dI cI cJ cZ cO H.size q1 ((xs 1)) q3 q11 q20 q42 q4 q5 q6 q7 q8 q9 q10) (cwV 1 hts (pf_gV mw_605 mw_606 mw_607 mw_50 mw_608) rfl rfl rfl (by decide +kernel) ⟨Nat.le_of_ble_eq_true rfl, Nat.le_of_ble_eq_true rfl⟩) ⟨fun a U g mk q => by obtain ⟨q0, q1, qP, qK, qD⟩ := q; exact ⟨q0, q1, qP, va_K.moved (u := U) (U := U.calling g mk a) (Vm.Alike.refl U.vm) qK, qD⟩, va_recv hK hPc (ci := 9) (q0 := 0) rfl rfl, fun U hU hW => ⟨rfl, by rw [hU], by rw [hU]; exact hPc, va_K.moved hW.alike hK, hDc.weaken (fun _ _ _ _ => trivial)⟩⟩ rfl rfl hl.1 rfl (lv_room (Nat.le_of_ble_eq_true rfl)) dL_law_630 ⟨Nat.le_of_ble_eq_true rfl, Nat.le_of_ble_eq_true rfl⟩) hS (fun q _ h => hFc q h) hFc (fun r0 u t H1 locs ht hvm hw hB hz1 hk1 hS => ?_)
  have hw : (-10001) = r0 := (show r0 = (-10001) from hw).symm
  subst hw
  obtain ⟨hP, hD⟩ := va_join (wr := [(q64, .inr (10, [.int 2, .int 0, .int 0, .ref q66, .ref q67, .ref q68, .ref q69, .ref q70, .ref q71, .ref q72, .int 0, .ref q73, .ref q74, .ref q75, .ref q76, .ref q77, .ref q78, .ref q79, .ref q80, .ref q81, .ref q82, .ref q83, .long 0, .int 0, .ref q84, .ref q85, .int 0, .ref q86, .ref q87, .int 0, .int 0, .int 0, .long 0, .long 0, .int 0, .long 0, .long 0, .ref q88, .ref q89, .int 0, .ref q90, .ref q91, .ref q92, .ref q93, .ref q94, .ref q95, .long 0, .long 0]))]) (w1 := []) hP hD [0, 1] [2] rfl rfl (by decide +kernel) (by decide +kernel) hk1 hFc pf_Pn pf_Dn
  clear hPc hDc hFc hk1 hz1
  generalize H1 = H at hP hS ⊢
  have hP : va_P (dC, dI) pf_cls [(q64, .inr (10, [.int 2, .int 0, .int 0, .ref q66, .ref q67, .ref q68, .ref q69, .ref q70, .ref q71, .ref q72, .int 0, .ref q73, .ref q74, .ref q75, .ref q76, .ref q77, .ref q78, .ref q79, .ref q80, .ref q81, .ref q82, .ref q83, .long 0, .int 0, .ref q84, .ref q85, .int 0, .ref q86, .ref q87, .int 0, .int 0, .int 0, .long 0, .long 0, .int 0, .long 0, .long 0, .ref q88, .ref q89, .int 0, .ref q90, .ref q91, .ref q92, .ref q93, .ref q94, .ref q95, .long 0, .long 0]))] H := hP
  have hD : va_D (fun q : Nat => s.heap.size ≤ q) [(q64, .inr (10, [.int 2, .int 0, .int 0, .ref q66, .ref q67, .ref q68, .ref q69, .ref q70, .ref q71, .ref q72, .int 0, .ref q73, .ref q74, .ref q75, .ref q76, .ref q77, .ref q78, .ref q79, .ref q80, .ref q81, .ref q82, .ref q83, .long 0, .int 0, .ref q84, .ref q85, .int 0, .ref q86, .ref q87, .int 0, .int 0, .int 0, .long 0, .long 0, .int 0, .long 0, .long 0, .ref q88, .ref q89, .int 0, .ref q90, .ref q91, .ref q92, .ref q93, .ref q94, .ref q95, .long 0, .long 0]))] := hD
  refine lv_aload_n hx hb dL_law_633 rfl (lv_at hl 1 rfl) ?_
  refine lv_aload_n hx hb dL_law_634 rfl (lv_at hl 3 rfl) ?_
  refine lv_iload_n hx hb dL_law_635 rfl (lv_at hl 0 rfl) ?_
  refine lv_iconst (v := 1) hx hb dL_law_636 (by decide) ?_
  refine lv_iadd hx hb dL_law_637 ?_
  refine pf_topi (v := 1) (by decide +kernel) ?_
  refine va_sld hx hb hX hbl hbA hS (pf_vpin (k := 1) (by decide +kernel) (by decide +kernel) (by decide)) dL_law_638 ?_
  refine pf_topi (v := xs 1) (congrArg xs (by decide +kernel)) ?_
  have hPc := hP.sub (ws' := [(q64, .inr (10, [.int 2, .int 0, .int 0, .ref q66, .ref q67, .ref q68, .ref q69, .ref q70, .ref q71, .ref q72, .int 0, .ref q73, .ref q74, .ref q75, .ref q76, .ref q77, .ref q78, .ref q79, .ref q80, .ref q81, .ref q82, .ref q83, .long 0, .int 0, .ref q84, .ref q85, .int 0, .ref q86, .ref q87, .int 0, .int 0, .int 0, .long 0, .long 0, .int 0, .long 0, .long 0, .ref q88, .ref q89, .int 0, .ref q90, .ref q91, .ref q92, .ref q93, .ref q94, .ref q95, .long 0, .long 0]))]) [0] rfl
  have hDc := hD.sub (ws' := [(q64, .inr (10, [.int 2, .int 0, .int 0, .ref q66, .ref q67, .ref q68, .ref q69, .ref q70, .ref q71, .ref q72, .int 0, .ref q73, .ref q74, .ref q75, .ref q76, .ref q77, .ref q78, .ref q79, .ref q80, .ref q81, .ref q82, .ref q83, .long 0, .int 0, .ref q84, .ref q85, .int 0, .ref q86, .ref q87, .int 0, .int 0, .int 0, .long 0, .long 0, .int 0, .long 0, .long 0, .ref q88, .ref q89, .int 0, .ref q90, .ref q91, .ref q92, .ref q93, .ref q94, .ref q95, .long 0, .long 0]))]) [0] (by decide +kernel) rfl
  have hFc := va_free (wc := [(q64, .inr (10, [.int 2, .int 0, .int 0, .ref q66, .ref q67, .ref q68, .ref q69, .ref q70, .ref q71, .ref q72, .int 0, .ref q73, .ref q74, .ref q75, .ref q76, .ref q77, .ref q78, .ref q79, .ref q80, .ref q81, .ref q82, .ref q83, .long 0, .int 0, .ref q84, .ref q85, .int 0, .ref q86, .ref q87, .int 0, .int 0, .int 0, .long 0, .long 0, .int 0, .long 0, .long 0, .ref q88, .ref q89, .int 0, .ref q90, .ref q91, .ref q92, .ref q93, .ref q94, .ref q95, .long 0, .long 0]))]) hD hS hA [0] rfl
  refine va_calli (va_runV (As := [.int (xs 1)]) (rest := [.int (-10001)]) ⟨hx, hb, hml, hown, hts⟩ (c_m_bound l dC dI cI cJ cZ cO H.size q64 ((xs 1)) q66 q67 q68 q69 q70 q71 q72 q73 q74 q75 q76 q77 q78 q79 q80 q81 q82 q83 q84 q85 q86 q87 q88 q89 q90 q91 q92 q93 q94 q95) (cwV 1 hts (pf_gV mw_609 mw_610 mw_611 mw_346 mw_612) rfl rfl rfl (by decide +kernel) ⟨Nat.le_of_ble_eq_true rfl, Nat.le_of_ble_eq_true rfl⟩) ⟨fun a U g mk q => by obtain ⟨q0, q1, qP, qK, qD⟩ := q; exact ⟨q0, q1, qP, va_K.moved (u := U) (U := U.calling g mk a) (Vm.Alike.refl U.vm) qK, qD⟩, va_recv hK hPc (ci := 10) (q0 := 0) rfl rfl, fun U hU hW => ⟨rfl, by rw [hU], by rw [hU]; exact hPc, va_K.moved hW.alike hK, hDc.weaken (fun _ _ _ _ => trivial)⟩⟩ rfl rfl hl.1 rfl (lv_room (Nat.le_of_ble_eq_true rfl)) dL_law_639 ⟨Nat.le_of_ble_eq_true rfl, Nat.le_of_ble_eq_true rfl⟩) hS (fun q _ h => hFc q h) hFc (fun r1 u t H1 locs ht hvm hw hB hz1 hk1 hS => ?_)
  have hw : (-10001) = r1 := (show r1 = (-10001) from hw).symm
  subst hw
  obtain ⟨hP, hD⟩ := va_join (wr := []) (w1 := []) hP hD [0] [] rfl rfl (by decide +kernel) (by decide +kernel) hk1 hFc pf_Pn pf_Dn
  clear hPc hDc hFc hk1 hz1
  generalize H1 = H at hP hS ⊢
  have hP : va_P (dC, dI) pf_cls [] H := hP
  have hD : va_D (fun q : Nat => s.heap.size ≤ q) [] := hD
  refine lv_icmp_eq (tgt := 1009) hx hb dL_law_642 (by decide) (fun _ => ?_) (fun c2 => absurd (by decide +kernel) c2)
  refine lv_iinc (v := 6) (lv' := [(3, .int 6), (2, .ref q64), (1, .ref q1), (0, .ref b)]) hx hb dL_law_1009 hl (k := 0) rfl (by decide +kernel) (by decide) rfl (fun ls hl => ?_)
  refine lv_goto (tgt := 18) hx hb dL_law_1012 (by decide) ?_
  refine lv_iload_n hx hb dL_law_18 rfl (lv_at hl 0 rfl) ?_
  refine lv_aload_n hx hb dL_law_19 rfl (lv_at hl 3 rfl) ?_
  refine va_slen hx hb hX hbl hbA hS dL_law_20 ?_
  refine pf_topi (v := 6) (by decide +kernel) ?_
  refine lv_bipush (v := 6) hx hb dL_law_21 (by decide +kernel) ?_
  refine lv_isub hx hb dL_law_23 ?_
  refine pf_topi (v := 0) (by decide +kernel) ?_
  refine lv_icmp_gt (tgt := 1015) hx hb dL_law_24 (by decide) (fun _ => ?_) (fun c3 => absurd (by decide +kernel) c3)
  refine lv_iconst (v := 1) hx hb dL_law_1015 (by decide) ?_
  refine va_forget (fun q hq => hS.2.2 q hq) ?_
  refine W.widen (k := 600000) (n := 7302250) (Nat.le_of_ble_eq_true rfl) (Nat.le_of_ble_eq_true rfl) ?_
  exact lw_ret hx hb hr hlocks dL_law_1016
set_option maxHeartbeats 40000000 in
set_option maxRecDepth 100000 in
theorem law_case_15 {p : Program} {e : Env} {s : State} {m : MethodId} {below : List Frame} {meth : Method} {c : Code} (l : Launch) {b t0 : Nat} {xs : Nat → Int32} (C0 : lw_At p s m meth c b 6 xs) (dC : Nat → ClassId) (dI : Nat → Nat → Nat) (cI cJ cZ cO : ClassId) (q1 q3 q11 q20 q42 q4 q5 q6 q7 q8 q9 q10 q64 q66 q67 q68 q69 q70 q71 q72 q73 q74 q75 q76 q77 q78 q79 q80 q81 q82 q83 q84 q85 q86 q87 q88 q89 q90 q91 q92 q93 q94 q95 : Nat) {H : Heap} {locs : List Loc} {ls : Array Slot} (hK : va_K (dC, dI) pf_cls (pf_ty cI cJ cZ cO) s) (hSt : pf_St t0 (fun q : Nat => s.heap.size ≤ q) s s.heap) (hP : va_P (dC, dI) pf_cls [(q1, .inr (9, [.ref q3, .ref q11, .ref q20, .ref q42, .int 0])), (q3, .inr (5, [.int 2, .int 0, .int 0, .ref q4, .ref q5, .ref q6, .ref q7, .ref q8, .ref q9, .ref q10])), (q64, .inr (10, [.int 2, .int 0, .int 0, .ref q66, .ref q67, .ref q68, .ref q69, .ref q70, .ref q71, .ref q72, .int 0, .ref q73, .ref q74, .ref q75, .ref q76, .ref q77, .ref q78, .ref q79, .ref q80, .ref q81, .ref q82, .ref q83, .long 0, .int 0, .ref q84, .ref q85, .int 0, .ref q86, .ref q87, .int 0, .int 0, .int 0, .long 0, .long 0, .int 0, .long 0, .long 0, .ref q88, .ref q89, .int 0, .ref q90, .ref q91, .ref q92, .ref q93, .ref q94, .ref q95, .long 0, .long 0]))] H) (hD : va_D (fun q : Nat => s.heap.size ≤ q) [(q1, .inr (9, [.ref q3, .ref q11, .ref q20, .ref q42, .int 0])), (q3, .inr (5, [.int 2, .int 0, .int 0, .ref q4, .ref q5, .ref q6, .ref q7, .ref q8, .ref q9, .ref q10])), (q64, .inr (10, [.int 2, .int 0, .int 0, .ref q66, .ref q67, .ref q68, .ref q69, .ref q70, .ref q71, .ref q72, .int 0, .ref q73, .ref q74, .ref q75, .ref q76, .ref q77, .ref q78, .ref q79, .ref q80, .ref q81, .ref q82, .ref q83, .long 0, .int 0, .ref q84, .ref q85, .int 0, .ref q86, .ref q87, .int 0, .int 0, .int 0, .long 0, .long 0, .int 0, .long 0, .long 0, .ref q88, .ref q89, .int 0, .ref q90, .ref q91, .ref q92, .ref q93, .ref q94, .ref q95, .long 0, .long 0]))]) (hS : va_S (fun q : Nat => s.heap.size ≤ q) s.heap H locs) (hl : lv_has ls 4 [(3, .int 0), (2, .ref q64), (1, .ref q1), (0, .ref b)]) : W p l e room_1 s m #[Value.ref b] below meth c H locs 93 44360 (lw_Z below #[Value.ref b] s) (F0 m 647 ls []) := by
  obtain ⟨hx, hb, hr, hml, hown0, hts0, hX, hbl, hlocks, hgv⟩ := id C0
  have hown : s.vm.findClass RL = some m.cls := hown0
  have hts : ∀ w ∈ Cond.initialized RX9 :: pf_W, w.before #[Value.ref b] s = true := pf_lawW hts0
  have hA : ∀ q : Nat, s.heap.size ≤ q → (fun q : Nat => s.heap.size ≤ q) q := fun _ h => h
  have hbA : ¬ (fun q : Nat => s.heap.size ≤ q) b := Nat.not_le.mpr hbl
  refine lv_aload_n hx hb dL_law_647 rfl (lv_at hl 2 rfl) ?_
  refine lv_aload_n hx hb dL_law_648 rfl (lv_at hl 3 rfl) ?_
  refine lv_iload_n hx hb dL_law_649 rfl (lv_at hl 0 rfl) ?_
  refine lv_iconst (v := 1) hx hb dL_law_650 (by decide) ?_
  refine lv_iadd hx hb dL_law_651 ?_
  refine pf_topi (v := 1) (by decide +kernel) ?_
  refine va_sld hx hb hX hbl hbA hS (pf_vpin (k := 1) (by decide +kernel) (by decide +kernel) (by decide)) dL_law_652 ?_
  refine pf_topi (v := xs 1) (congrArg xs (by decide +kernel)) ?_
  refine lv_aload_n hx hb dL_law_653 rfl (lv_at hl 3 rfl) ?_
  refine lv_iload_n hx hb dL_law_654 rfl (lv_at hl 0 rfl) ?_
  refine lv_iconst (v := 2) hx hb dL_law_655 (by decide) ?_
  refine lv_iadd hx hb dL_law_656 ?_
  refine pf_topi (v := 2) (by decide +kernel) ?_
  refine va_sld hx hb hX hbl hbA hS (pf_vpin (k := 2) (by decide +kernel) (by decide +kernel) (by decide)) dL_law_657 ?_
  refine pf_topi (v := xs 2) (congrArg xs (by decide +kernel)) ?_
  have hPc := hP.sub (ws' := [(q1, .inr (9, [.ref q3, .ref q11, .ref q20, .ref q42, .int 0])), (q3, .inr (5, [.int 2, .int 0, .int 0, .ref q4, .ref q5, .ref q6, .ref q7, .ref q8, .ref q9, .ref q10]))]) [0, 1] rfl
  have hDc := hD.sub (ws' := [(q1, .inr (9, [.ref q3, .ref q11, .ref q20, .ref q42, .int 0])), (q3, .inr (5, [.int 2, .int 0, .int 0, .ref q4, .ref q5, .ref q6, .ref q7, .ref q8, .ref q9, .ref q10]))]) [0, 1] (by decide +kernel) rfl
  have hFc := va_free (wc := [(q1, .inr (9, [.ref q3, .ref q11, .ref q20, .ref q42, .int 0])), (q3, .inr (5, [.int 2, .int 0, .int 0, .ref q4, .ref q5, .ref q6, .ref q7, .ref q8, .ref q9, .ref q10]))]) hD hS hA [0, 1] rfl
  refine va_calli (va_runV (As := [.int (xs 1), .int (xs 2)]) (rest := []) ⟨hx, hb, hml, hown, hts⟩ (c_tree l dC dI cI cJ cZ cO H.size q1 ((xs 1)) ((xs 2)) q3 q11 q20 q42 q4 q5 q6 q7 q8 q9 q10) (cwV 2 hts (pf_gV mw_613 mw_614 mw_615 mw_50 mw_616) rfl rfl rfl (by decide +kernel) ⟨Nat.le_of_ble_eq_true rfl, Nat.le_of_ble_eq_true rfl⟩) ⟨fun a U g mk q => by obtain ⟨q0, q1, qP, qK, qD⟩ := q; exact ⟨q0, q1, qP, va_K.moved (u := U) (U := U.calling g mk a) (Vm.Alike.refl U.vm) qK, qD⟩, va_recv hK hPc (ci := 9) (q0 := 0) rfl rfl, fun U hU hW => ⟨rfl, by rw [hU], by rw [hU]; exact hPc, va_K.moved hW.alike hK, hDc.weaken (fun _ _ _ _ => trivial)⟩⟩ rfl rfl hl.1 rfl (lv_room (Nat.le_of_ble_eq_true rfl)) dL_law_658 ⟨Nat.le_of_ble_eq_true rfl, Nat.le_of_ble_eq_true rfl⟩) hS (fun q _ h => hFc q h) hFc (fun r0 u t H1 locs ht hvm hw hB hz1 hk1 hS => ?_)
  have hw : (pf_tree (xs 1)) = r0 := (show r0 = (pf_tree (xs 1)) from hw).symm
  subst hw
  obtain ⟨hP, hD⟩ := va_join (wr := [(q64, .inr (10, [.int 2, .int 0, .int 0, .ref q66, .ref q67, .ref q68, .ref q69, .ref q70, .ref q71, .ref q72, .int 0, .ref q73, .ref q74, .ref q75, .ref q76, .ref q77, .ref q78, .ref q79, .ref q80, .ref q81, .ref q82, .ref q83, .long 0, .int 0, .ref q84, .ref q85, .int 0, .ref q86, .ref q87, .int 0, .int 0, .int 0, .long 0, .long 0, .int 0, .long 0, .long 0, .ref q88, .ref q89, .int 0, .ref q90, .ref q91, .ref q92, .ref q93, .ref q94, .ref q95, .long 0, .long 0]))]) (w1 := []) hP hD [0, 1] [2] rfl rfl (by decide +kernel) (by decide +kernel) hk1 hFc pf_Pn pf_Dn
  clear hPc hDc hFc hk1 hz1
  generalize H1 = H at hP hS ⊢
  have hP : va_P (dC, dI) pf_cls [(q64, .inr (10, [.int 2, .int 0, .int 0, .ref q66, .ref q67, .ref q68, .ref q69, .ref q70, .ref q71, .ref q72, .int 0, .ref q73, .ref q74, .ref q75, .ref q76, .ref q77, .ref q78, .ref q79, .ref q80, .ref q81, .ref q82, .ref q83, .long 0, .int 0, .ref q84, .ref q85, .int 0, .ref q86, .ref q87, .int 0, .int 0, .int 0, .long 0, .long 0, .int 0, .long 0, .long 0, .ref q88, .ref q89, .int 0, .ref q90, .ref q91, .ref q92, .ref q93, .ref q94, .ref q95, .long 0, .long 0]))] H := hP
  have hD : va_D (fun q : Nat => s.heap.size ≤ q) [(q64, .inr (10, [.int 2, .int 0, .int 0, .ref q66, .ref q67, .ref q68, .ref q69, .ref q70, .ref q71, .ref q72, .int 0, .ref q73, .ref q74, .ref q75, .ref q76, .ref q77, .ref q78, .ref q79, .ref q80, .ref q81, .ref q82, .ref q83, .long 0, .int 0, .ref q84, .ref q85, .int 0, .ref q86, .ref q87, .int 0, .int 0, .int 0, .long 0, .long 0, .int 0, .long 0, .long 0, .ref q88, .ref q89, .int 0, .ref q90, .ref q91, .ref q92, .ref q93, .ref q94, .ref q95, .long 0, .long 0]))] := hD
  refine lv_aload_n hx hb dL_law_661 rfl (lv_at hl 1 rfl) ?_
  refine lv_aload_n hx hb dL_law_662 rfl (lv_at hl 3 rfl) ?_
  refine lv_iload_n hx hb dL_law_663 rfl (lv_at hl 0 rfl) ?_
  refine lv_iconst (v := 1) hx hb dL_law_664 (by decide) ?_
  refine lv_iadd hx hb dL_law_665 ?_
  refine pf_topi (v := 1) (by decide +kernel) ?_
  refine va_sld hx hb hX hbl hbA hS (pf_vpin (k := 1) (by decide +kernel) (by decide +kernel) (by decide)) dL_law_666 ?_
  refine pf_topi (v := xs 1) (congrArg xs (by decide +kernel)) ?_
  refine lv_aload_n hx hb dL_law_667 rfl (lv_at hl 3 rfl) ?_
  refine lv_iload_n hx hb dL_law_668 rfl (lv_at hl 0 rfl) ?_
  refine lv_iconst (v := 2) hx hb dL_law_669 (by decide) ?_
  refine lv_iadd hx hb dL_law_670 ?_
  refine pf_topi (v := 2) (by decide +kernel) ?_
  refine va_sld hx hb hX hbl hbA hS (pf_vpin (k := 2) (by decide +kernel) (by decide +kernel) (by decide)) dL_law_671 ?_
  refine pf_topi (v := xs 2) (congrArg xs (by decide +kernel)) ?_
  have hPc := hP.sub (ws' := [(q64, .inr (10, [.int 2, .int 0, .int 0, .ref q66, .ref q67, .ref q68, .ref q69, .ref q70, .ref q71, .ref q72, .int 0, .ref q73, .ref q74, .ref q75, .ref q76, .ref q77, .ref q78, .ref q79, .ref q80, .ref q81, .ref q82, .ref q83, .long 0, .int 0, .ref q84, .ref q85, .int 0, .ref q86, .ref q87, .int 0, .int 0, .int 0, .long 0, .long 0, .int 0, .long 0, .long 0, .ref q88, .ref q89, .int 0, .ref q90, .ref q91, .ref q92, .ref q93, .ref q94, .ref q95, .long 0, .long 0]))]) [0] rfl
  have hDc := hD.sub (ws' := [(q64, .inr (10, [.int 2, .int 0, .int 0, .ref q66, .ref q67, .ref q68, .ref q69, .ref q70, .ref q71, .ref q72, .int 0, .ref q73, .ref q74, .ref q75, .ref q76, .ref q77, .ref q78, .ref q79, .ref q80, .ref q81, .ref q82, .ref q83, .long 0, .int 0, .ref q84, .ref q85, .int 0, .ref q86, .ref q87, .int 0, .int 0, .int 0, .long 0, .long 0, .int 0, .long 0, .long 0, .ref q88, .ref q89, .int 0, .ref q90, .ref q91, .ref q92, .ref q93, .ref q94, .ref q95, .long 0, .long 0]))]) [0] (by decide +kernel) rfl
  have hFc := va_free (wc := [(q64, .inr (10, [.int 2, .int 0, .int 0, .ref q66, .ref q67, .ref q68, .ref q69, .ref q70, .ref q71, .ref q72, .int 0, .ref q73, .ref q74, .ref q75, .ref q76, .ref q77, .ref q78, .ref q79, .ref q80, .ref q81, .ref q82, .ref q83, .long 0, .int 0, .ref q84, .ref q85, .int 0, .ref q86, .ref q87, .int 0, .int 0, .int 0, .long 0, .long 0, .int 0, .long 0, .long 0, .ref q88, .ref q89, .int 0, .ref q90, .ref q91, .ref q92, .ref q93, .ref q94, .ref q95, .long 0, .long 0]))]) hD hS hA [0] rfl
  refine va_calli (va_runV (As := [.int (xs 1), .int (xs 2)]) (rest := [.int (pf_tree (xs 1))]) ⟨hx, hb, hml, hown, hts⟩ (c_m_tree l dC dI cI cJ cZ cO H.size q64 ((xs 1)) ((xs 2)) q66 q67 q68 q69 q70 q71 q72 q73 q74 q75 q76 q77 q78 q79 q80 q81 q82 q83 q84 q85 q86 q87 q88 q89 q90 q91 q92 q93 q94 q95) (cwV 2 hts (pf_gV mw_617 mw_618 mw_619 mw_346 mw_620) rfl rfl rfl (by decide +kernel) ⟨Nat.le_of_ble_eq_true rfl, Nat.le_of_ble_eq_true rfl⟩) ⟨fun a U g mk q => by obtain ⟨q0, q1, qP, qK, qD⟩ := q; exact ⟨q0, q1, qP, va_K.moved (u := U) (U := U.calling g mk a) (Vm.Alike.refl U.vm) qK, qD⟩, va_recv hK hPc (ci := 10) (q0 := 0) rfl rfl, fun U hU hW => ⟨rfl, by rw [hU], by rw [hU]; exact hPc, va_K.moved hW.alike hK, hDc.weaken (fun _ _ _ _ => trivial)⟩⟩ rfl rfl hl.1 rfl (lv_room (Nat.le_of_ble_eq_true rfl)) dL_law_672 ⟨Nat.le_of_ble_eq_true rfl, Nat.le_of_ble_eq_true rfl⟩) hS (fun q _ h => hFc q h) hFc (fun r1 u t H1 locs ht hvm hw hB hz1 hk1 hS => ?_)
  have hw : (pf_tree (xs 1)) = r1 := (show r1 = (pf_tree (xs 1)) from hw).symm
  subst hw
  obtain ⟨hP, hD⟩ := va_join (wr := []) (w1 := []) hP hD [0] [] rfl rfl (by decide +kernel) (by decide +kernel) hk1 hFc pf_Pn pf_Dn
  clear hPc hDc hFc hk1 hz1
  generalize H1 = H at hP hS ⊢
  have hP : va_P (dC, dI) pf_cls [] H := hP
  have hD : va_D (fun q : Nat => s.heap.size ≤ q) [] := hD
  refine lv_icmp_eq (tgt := 1009) hx hb dL_law_675 (by decide) (fun _ => ?_) (fun c2 => absurd rfl c2)
  refine lv_iinc (v := 6) (lv' := [(3, .int 6), (2, .ref q64), (1, .ref q1), (0, .ref b)]) hx hb dL_law_1009 hl (k := 0) rfl (by decide +kernel) (by decide) rfl (fun ls hl => ?_)
  refine lv_goto (tgt := 18) hx hb dL_law_1012 (by decide) ?_
  refine lv_iload_n hx hb dL_law_18 rfl (lv_at hl 0 rfl) ?_
  refine lv_aload_n hx hb dL_law_19 rfl (lv_at hl 3 rfl) ?_
  refine va_slen hx hb hX hbl hbA hS dL_law_20 ?_
  refine pf_topi (v := 6) (by decide +kernel) ?_
  refine lv_bipush (v := 6) hx hb dL_law_21 (by decide +kernel) ?_
  refine lv_isub hx hb dL_law_23 ?_
  refine pf_topi (v := 0) (by decide +kernel) ?_
  refine lv_icmp_gt (tgt := 1015) hx hb dL_law_24 (by decide) (fun _ => ?_) (fun c3 => absurd (by decide +kernel) c3)
  refine lv_iconst (v := 1) hx hb dL_law_1015 (by decide) ?_
  refine va_forget (fun q hq => hS.2.2 q hq) ?_
  refine W.widen (k := 600000) (n := 7302250) (Nat.le_of_ble_eq_true rfl) (Nat.le_of_ble_eq_true rfl) ?_
  exact lw_ret hx hb hr hlocks dL_law_1016
set_option maxHeartbeats 40000000 in
set_option maxRecDepth 100000 in
theorem law_case_16 {p : Program} {e : Env} {s : State} {m : MethodId} {below : List Frame} {meth : Method} {c : Code} (l : Launch) {b t0 : Nat} {xs : Nat → Int32} (C0 : lw_At p s m meth c b 6 xs) (dC : Nat → ClassId) (dI : Nat → Nat → Nat) (cI cJ cZ cO : ClassId) (q1 q3 q11 q20 q42 q64 q66 q67 q68 q69 q70 q71 q72 q73 q74 q75 q76 q77 q78 q79 q80 q81 q82 q83 q84 q85 q86 q87 q88 q89 q90 q91 q92 q93 q94 q95 : Nat) {H : Heap} {locs : List Loc} {ls : Array Slot} (hK : va_K (dC, dI) pf_cls (pf_ty cI cJ cZ cO) s) (hSt : pf_St t0 (fun q : Nat => s.heap.size ≤ q) s s.heap) (hP : va_P (dC, dI) pf_cls [(q1, .inr (9, [.ref q3, .ref q11, .ref q20, .ref q42, .int 0])), (q64, .inr (10, [.int 2, .int 0, .int 0, .ref q66, .ref q67, .ref q68, .ref q69, .ref q70, .ref q71, .ref q72, .int 0, .ref q73, .ref q74, .ref q75, .ref q76, .ref q77, .ref q78, .ref q79, .ref q80, .ref q81, .ref q82, .ref q83, .long 0, .int 0, .ref q84, .ref q85, .int 0, .ref q86, .ref q87, .int 0, .int 0, .int 0, .long 0, .long 0, .int 0, .long 0, .long 0, .ref q88, .ref q89, .int 0, .ref q90, .ref q91, .ref q92, .ref q93, .ref q94, .ref q95, .long 0, .long 0]))] H) (hD : va_D (fun q : Nat => s.heap.size ≤ q) [(q1, .inr (9, [.ref q3, .ref q11, .ref q20, .ref q42, .int 0])), (q64, .inr (10, [.int 2, .int 0, .int 0, .ref q66, .ref q67, .ref q68, .ref q69, .ref q70, .ref q71, .ref q72, .int 0, .ref q73, .ref q74, .ref q75, .ref q76, .ref q77, .ref q78, .ref q79, .ref q80, .ref q81, .ref q82, .ref q83, .long 0, .int 0, .ref q84, .ref q85, .int 0, .ref q86, .ref q87, .int 0, .int 0, .int 0, .long 0, .long 0, .int 0, .long 0, .long 0, .ref q88, .ref q89, .int 0, .ref q90, .ref q91, .ref q92, .ref q93, .ref q94, .ref q95, .long 0, .long 0]))]) (hS : va_S (fun q : Nat => s.heap.size ≤ q) s.heap H locs) (hl : lv_has ls 4 [(3, .int 0), (2, .ref q64), (1, .ref q1), (0, .ref b)]) : W p l e room_1 s m #[Value.ref b] below meth c H locs 93 44360 (lw_Z below #[Value.ref b] s) (F0 m 680 ls []) := by
  obtain ⟨hx, hb, hr, hml, hown0, hts0, hX, hbl, hlocks, hgv⟩ := id C0
  have hown : s.vm.findClass RL = some m.cls := hown0
  have hts : ∀ w ∈ Cond.initialized RX9 :: pf_W, w.before #[Value.ref b] s = true := pf_lawW hts0
  have hA : ∀ q : Nat, s.heap.size ≤ q → (fun q : Nat => s.heap.size ≤ q) q := fun _ h => h
  have hbA : ¬ (fun q : Nat => s.heap.size ≤ q) b := Nat.not_le.mpr hbl
  refine lv_aload_n hx hb dL_law_680 rfl (lv_at hl 2 rfl) ?_
  refine lv_aload_n hx hb dL_law_681 rfl (lv_at hl 3 rfl) ?_
  refine lv_iload_n hx hb dL_law_682 rfl (lv_at hl 0 rfl) ?_
  refine lv_iconst (v := 1) hx hb dL_law_683 (by decide) ?_
  refine lv_iadd hx hb dL_law_684 ?_
  refine pf_topi (v := 1) (by decide +kernel) ?_
  refine va_sld hx hb hX hbl hbA hS (pf_vpin (k := 1) (by decide +kernel) (by decide +kernel) (by decide)) dL_law_685 ?_
  refine pf_topi (v := xs 1) (congrArg xs (by decide +kernel)) ?_
  have hPc := hP.sub (ws' := [(q1, .inr (9, [.ref q3, .ref q11, .ref q20, .ref q42, .int 0]))]) [0] rfl
  have hDc := hD.sub (ws' := [(q1, .inr (9, [.ref q3, .ref q11, .ref q20, .ref q42, .int 0]))]) [0] (by decide +kernel) rfl
  have hFc := va_free (wc := [(q1, .inr (9, [.ref q3, .ref q11, .ref q20, .ref q42, .int 0]))]) hD hS hA [0] rfl
  refine va_calli (va_runV (As := [.int (xs 1)]) (rest := []) ⟨hx, hb, hml, hown, hts⟩ (c_preorder l dC dI cI cJ cZ cO H.size q1 ((xs 1)) q3 q11 q20 q42) (cwV 1 hts (pf_gV mw_621 mw_622 mw_623 mw_50 mw_624) rfl rfl rfl (by decide +kernel) ⟨Nat.le_of_ble_eq_true rfl, Nat.le_of_ble_eq_true rfl⟩) ⟨fun a U g mk q => by obtain ⟨q0, q1, qP, qK, qD⟩ := q; exact ⟨q0, q1, qP, va_K.moved (u := U) (U := U.calling g mk a) (Vm.Alike.refl U.vm) qK, qD⟩, va_recv hK hPc (ci := 9) (q0 := 0) rfl rfl, fun U hU hW => ⟨rfl, by rw [hU], by rw [hU]; exact hPc, va_K.moved hW.alike hK, hDc.weaken (fun _ _ _ _ => trivial)⟩⟩ rfl rfl hl.1 rfl (lv_room (Nat.le_of_ble_eq_true rfl)) dL_law_686 ⟨Nat.le_of_ble_eq_true rfl, Nat.le_of_ble_eq_true rfl⟩) hS (fun q _ h => hFc q h) hFc (fun r0 u t H1 locs ht hvm hw hB hz1 hk1 hS => ?_)
  have hw : (-10005) = r0 := (show r0 = (-10005) from hw).symm
  subst hw
  obtain ⟨hP, hD⟩ := va_join (wr := [(q64, .inr (10, [.int 2, .int 0, .int 0, .ref q66, .ref q67, .ref q68, .ref q69, .ref q70, .ref q71, .ref q72, .int 0, .ref q73, .ref q74, .ref q75, .ref q76, .ref q77, .ref q78, .ref q79, .ref q80, .ref q81, .ref q82, .ref q83, .long 0, .int 0, .ref q84, .ref q85, .int 0, .ref q86, .ref q87, .int 0, .int 0, .int 0, .long 0, .long 0, .int 0, .long 0, .long 0, .ref q88, .ref q89, .int 0, .ref q90, .ref q91, .ref q92, .ref q93, .ref q94, .ref q95, .long 0, .long 0]))]) (w1 := []) hP hD [0] [1] rfl rfl (by decide +kernel) (by decide +kernel) hk1 hFc pf_Pn pf_Dn
  clear hPc hDc hFc hk1 hz1
  generalize H1 = H at hP hS ⊢
  have hP : va_P (dC, dI) pf_cls [(q64, .inr (10, [.int 2, .int 0, .int 0, .ref q66, .ref q67, .ref q68, .ref q69, .ref q70, .ref q71, .ref q72, .int 0, .ref q73, .ref q74, .ref q75, .ref q76, .ref q77, .ref q78, .ref q79, .ref q80, .ref q81, .ref q82, .ref q83, .long 0, .int 0, .ref q84, .ref q85, .int 0, .ref q86, .ref q87, .int 0, .int 0, .int 0, .long 0, .long 0, .int 0, .long 0, .long 0, .ref q88, .ref q89, .int 0, .ref q90, .ref q91, .ref q92, .ref q93, .ref q94, .ref q95, .long 0, .long 0]))] H := hP
  have hD : va_D (fun q : Nat => s.heap.size ≤ q) [(q64, .inr (10, [.int 2, .int 0, .int 0, .ref q66, .ref q67, .ref q68, .ref q69, .ref q70, .ref q71, .ref q72, .int 0, .ref q73, .ref q74, .ref q75, .ref q76, .ref q77, .ref q78, .ref q79, .ref q80, .ref q81, .ref q82, .ref q83, .long 0, .int 0, .ref q84, .ref q85, .int 0, .ref q86, .ref q87, .int 0, .int 0, .int 0, .long 0, .long 0, .int 0, .long 0, .long 0, .ref q88, .ref q89, .int 0, .ref q90, .ref q91, .ref q92, .ref q93, .ref q94, .ref q95, .long 0, .long 0]))] := hD
  refine lv_aload_n hx hb dL_law_689 rfl (lv_at hl 1 rfl) ?_
  refine lv_aload_n hx hb dL_law_690 rfl (lv_at hl 3 rfl) ?_
  refine lv_iload_n hx hb dL_law_691 rfl (lv_at hl 0 rfl) ?_
  refine lv_iconst (v := 1) hx hb dL_law_692 (by decide) ?_
  refine lv_iadd hx hb dL_law_693 ?_
  refine pf_topi (v := 1) (by decide +kernel) ?_
  refine va_sld hx hb hX hbl hbA hS (pf_vpin (k := 1) (by decide +kernel) (by decide +kernel) (by decide)) dL_law_694 ?_
  refine pf_topi (v := xs 1) (congrArg xs (by decide +kernel)) ?_
  have hPc := hP.sub (ws' := [(q64, .inr (10, [.int 2, .int 0, .int 0, .ref q66, .ref q67, .ref q68, .ref q69, .ref q70, .ref q71, .ref q72, .int 0, .ref q73, .ref q74, .ref q75, .ref q76, .ref q77, .ref q78, .ref q79, .ref q80, .ref q81, .ref q82, .ref q83, .long 0, .int 0, .ref q84, .ref q85, .int 0, .ref q86, .ref q87, .int 0, .int 0, .int 0, .long 0, .long 0, .int 0, .long 0, .long 0, .ref q88, .ref q89, .int 0, .ref q90, .ref q91, .ref q92, .ref q93, .ref q94, .ref q95, .long 0, .long 0]))]) [0] rfl
  have hDc := hD.sub (ws' := [(q64, .inr (10, [.int 2, .int 0, .int 0, .ref q66, .ref q67, .ref q68, .ref q69, .ref q70, .ref q71, .ref q72, .int 0, .ref q73, .ref q74, .ref q75, .ref q76, .ref q77, .ref q78, .ref q79, .ref q80, .ref q81, .ref q82, .ref q83, .long 0, .int 0, .ref q84, .ref q85, .int 0, .ref q86, .ref q87, .int 0, .int 0, .int 0, .long 0, .long 0, .int 0, .long 0, .long 0, .ref q88, .ref q89, .int 0, .ref q90, .ref q91, .ref q92, .ref q93, .ref q94, .ref q95, .long 0, .long 0]))]) [0] (by decide +kernel) rfl
  have hFc := va_free (wc := [(q64, .inr (10, [.int 2, .int 0, .int 0, .ref q66, .ref q67, .ref q68, .ref q69, .ref q70, .ref q71, .ref q72, .int 0, .ref q73, .ref q74, .ref q75, .ref q76, .ref q77, .ref q78, .ref q79, .ref q80, .ref q81, .ref q82, .ref q83, .long 0, .int 0, .ref q84, .ref q85, .int 0, .ref q86, .ref q87, .int 0, .int 0, .int 0, .long 0, .long 0, .int 0, .long 0, .long 0, .ref q88, .ref q89, .int 0, .ref q90, .ref q91, .ref q92, .ref q93, .ref q94, .ref q95, .long 0, .long 0]))]) hD hS hA [0] rfl
  refine va_calli (va_runV (As := [.int (xs 1)]) (rest := [.int (-10005)]) ⟨hx, hb, hml, hown, hts⟩ (c_m_preorder l dC dI cI cJ cZ cO H.size q64 ((xs 1)) q66 q67 q68 q69 q70 q71 q72 q73 q74 q75 q76 q77 q78 q79 q80 q81 q82 q83 q84 q85 q86 q87 q88 q89 q90 q91 q92 q93 q94 q95) (cwV 1 hts (pf_gV mw_625 mw_626 mw_627 mw_346 mw_628) rfl rfl rfl (by decide +kernel) ⟨Nat.le_of_ble_eq_true rfl, Nat.le_of_ble_eq_true rfl⟩) ⟨fun a U g mk q => by obtain ⟨q0, q1, qP, qK, qD⟩ := q; exact ⟨q0, q1, qP, va_K.moved (u := U) (U := U.calling g mk a) (Vm.Alike.refl U.vm) qK, qD⟩, va_recv hK hPc (ci := 10) (q0 := 0) rfl rfl, fun U hU hW => ⟨rfl, by rw [hU], by rw [hU]; exact hPc, va_K.moved hW.alike hK, hDc.weaken (fun _ _ _ _ => trivial)⟩⟩ rfl rfl hl.1 rfl (lv_room (Nat.le_of_ble_eq_true rfl)) dL_law_695 ⟨Nat.le_of_ble_eq_true rfl, Nat.le_of_ble_eq_true rfl⟩) hS (fun q _ h => hFc q h) hFc (fun r1 u t H1 locs ht hvm hw hB hz1 hk1 hS => ?_)
  have hw : (-10005) = r1 := (show r1 = (-10005) from hw).symm
  subst hw
  obtain ⟨hP, hD⟩ := va_join (wr := []) (w1 := []) hP hD [0] [] rfl rfl (by decide +kernel) (by decide +kernel) hk1 hFc pf_Pn pf_Dn
  clear hPc hDc hFc hk1 hz1
  generalize H1 = H at hP hS ⊢
  have hP : va_P (dC, dI) pf_cls [] H := hP
  have hD : va_D (fun q : Nat => s.heap.size ≤ q) [] := hD
  refine lv_icmp_eq (tgt := 1009) hx hb dL_law_698 (by decide) (fun _ => ?_) (fun c2 => absurd (by decide +kernel) c2)
  refine lv_iinc (v := 6) (lv' := [(3, .int 6), (2, .ref q64), (1, .ref q1), (0, .ref b)]) hx hb dL_law_1009 hl (k := 0) rfl (by decide +kernel) (by decide) rfl (fun ls hl => ?_)
  refine lv_goto (tgt := 18) hx hb dL_law_1012 (by decide) ?_
  refine lv_iload_n hx hb dL_law_18 rfl (lv_at hl 0 rfl) ?_
  refine lv_aload_n hx hb dL_law_19 rfl (lv_at hl 3 rfl) ?_
  refine va_slen hx hb hX hbl hbA hS dL_law_20 ?_
  refine pf_topi (v := 6) (by decide +kernel) ?_
  refine lv_bipush (v := 6) hx hb dL_law_21 (by decide +kernel) ?_
  refine lv_isub hx hb dL_law_23 ?_
  refine pf_topi (v := 0) (by decide +kernel) ?_
  refine lv_icmp_gt (tgt := 1015) hx hb dL_law_24 (by decide) (fun _ => ?_) (fun c3 => absurd (by decide +kernel) c3)
  refine lv_iconst (v := 1) hx hb dL_law_1015 (by decide) ?_
  refine va_forget (fun q hq => hS.2.2 q hq) ?_
  refine W.widen (k := 600000) (n := 7302250) (Nat.le_of_ble_eq_true rfl) (Nat.le_of_ble_eq_true rfl) ?_
  exact lw_ret hx hb hr hlocks dL_law_1016
set_option maxHeartbeats 40000000 in
set_option maxRecDepth 100000 in
theorem law_case_17 {p : Program} {e : Env} {s : State} {m : MethodId} {below : List Frame} {meth : Method} {c : Code} (l : Launch) {b t0 : Nat} {xs : Nat → Int32} (C0 : lw_At p s m meth c b 6 xs) (dC : Nat → ClassId) (dI : Nat → Nat → Nat) (cI cJ cZ cO : ClassId) (q1 q3 q11 q20 q42 q64 q66 q67 q68 q69 q70 q71 q72 q73 q74 q75 q76 q77 q78 q79 q80 q81 q82 q83 q84 q85 q86 q87 q88 q89 q90 q91 q92 q93 q94 q95 : Nat) {H : Heap} {locs : List Loc} {ls : Array Slot} (hK : va_K (dC, dI) pf_cls (pf_ty cI cJ cZ cO) s) (hSt : pf_St t0 (fun q : Nat => s.heap.size ≤ q) s s.heap) (hP : va_P (dC, dI) pf_cls [(q1, .inr (9, [.ref q3, .ref q11, .ref q20, .ref q42, .int 0])), (q64, .inr (10, [.int 2, .int 0, .int 0, .ref q66, .ref q67, .ref q68, .ref q69, .ref q70, .ref q71, .ref q72, .int 0, .ref q73, .ref q74, .ref q75, .ref q76, .ref q77, .ref q78, .ref q79, .ref q80, .ref q81, .ref q82, .ref q83, .long 0, .int 0, .ref q84, .ref q85, .int 0, .ref q86, .ref q87, .int 0, .int 0, .int 0, .long 0, .long 0, .int 0, .long 0, .long 0, .ref q88, .ref q89, .int 0, .ref q90, .ref q91, .ref q92, .ref q93, .ref q94, .ref q95, .long 0, .long 0]))] H) (hD : va_D (fun q : Nat => s.heap.size ≤ q) [(q1, .inr (9, [.ref q3, .ref q11, .ref q20, .ref q42, .int 0])), (q64, .inr (10, [.int 2, .int 0, .int 0, .ref q66, .ref q67, .ref q68, .ref q69, .ref q70, .ref q71, .ref q72, .int 0, .ref q73, .ref q74, .ref q75, .ref q76, .ref q77, .ref q78, .ref q79, .ref q80, .ref q81, .ref q82, .ref q83, .long 0, .int 0, .ref q84, .ref q85, .int 0, .ref q86, .ref q87, .int 0, .int 0, .int 0, .long 0, .long 0, .int 0, .long 0, .long 0, .ref q88, .ref q89, .int 0, .ref q90, .ref q91, .ref q92, .ref q93, .ref q94, .ref q95, .long 0, .long 0]))]) (hS : va_S (fun q : Nat => s.heap.size ≤ q) s.heap H locs) (hl : lv_has ls 4 [(3, .int 0), (2, .ref q64), (1, .ref q1), (0, .ref b)]) : W p l e room_1 s m #[Value.ref b] below meth c H locs 93 44360 (lw_Z below #[Value.ref b] s) (F0 m 703 ls []) := by
  obtain ⟨hx, hb, hr, hml, hown0, hts0, hX, hbl, hlocks, hgv⟩ := id C0
  have hown : s.vm.findClass RL = some m.cls := hown0
  have hts : ∀ w ∈ Cond.initialized RX9 :: pf_W, w.before #[Value.ref b] s = true := pf_lawW hts0
  have hA : ∀ q : Nat, s.heap.size ≤ q → (fun q : Nat => s.heap.size ≤ q) q := fun _ h => h
  have hbA : ¬ (fun q : Nat => s.heap.size ≤ q) b := Nat.not_le.mpr hbl
  refine lv_aload_n hx hb dL_law_703 rfl (lv_at hl 2 rfl) ?_
  refine lv_aload_n hx hb dL_law_704 rfl (lv_at hl 3 rfl) ?_
  refine lv_iload_n hx hb dL_law_705 rfl (lv_at hl 0 rfl) ?_
  refine lv_iconst (v := 1) hx hb dL_law_706 (by decide) ?_
  refine lv_iadd hx hb dL_law_707 ?_
  refine pf_topi (v := 1) (by decide +kernel) ?_
  refine va_sld hx hb hX hbl hbA hS (pf_vpin (k := 1) (by decide +kernel) (by decide +kernel) (by decide)) dL_law_708 ?_
  refine pf_topi (v := xs 1) (congrArg xs (by decide +kernel)) ?_
  refine lv_if_eq (tgt := 716) hx hb dL_law_709 (by decide) (fun c0 => ?_) (fun c0 => ?_)
  · skip
    refine lv_iconst (v := 0) hx hb dL_law_716 (by decide) ?_
    refine lv_aload_n hx hb dL_law_717 rfl (lv_at hl 3 rfl) ?_
    refine lv_iload_n hx hb dL_law_718 rfl (lv_at hl 0 rfl) ?_
    refine lv_iconst (v := 2) hx hb dL_law_719 (by decide) ?_
    refine lv_iadd hx hb dL_law_720 ?_
    refine pf_topi (v := 2) (by decide +kernel) ?_
    refine va_sld hx hb hX hbl hbA hS (pf_vpin (k := 2) (by decide +kernel) (by decide +kernel) (by decide)) dL_law_721 ?_
    refine pf_topi (v := xs 2) (congrArg xs (by decide +kernel)) ?_
    refine lv_if_eq (tgt := 729) hx hb dL_law_722 (by decide) (fun c1 => ?_) (fun c1 => ?_)
    · skip
      refine lv_iconst (v := 0) hx hb dL_law_729 (by decide) ?_
      have hPc := hP.sub (ws' := [(q1, .inr (9, [.ref q3, .ref q11, .ref q20, .ref q42, .int 0]))]) [0] rfl
      have hDc := hD.sub (ws' := [(q1, .inr (9, [.ref q3, .ref q11, .ref q20, .ref q42, .int 0]))]) [0] (by decide +kernel) rfl
      have hFc := va_free (wc := [(q1, .inr (9, [.ref q3, .ref q11, .ref q20, .ref q42, .int 0]))]) hD hS hA [0] rfl
      refine va_calll (va_runV (As := [.int 0, .int 0]) (rest := []) ⟨hx, hb, hml, hown, hts⟩ (c_limit l dC dI cI cJ cZ cO H.size q1 0 0 q3 q11 q20 q42) (cwV 2 hts (pf_gV mw_629 mw_630 mw_631 mw_50 mw_632) rfl rfl rfl (by decide +kernel) ⟨Nat.le_of_ble_eq_true rfl, Nat.le_of_ble_eq_true rfl⟩) ⟨fun a U g mk q => by obtain ⟨q0, q1, qP, qK, qD⟩ := q; exact ⟨q0, q1, qP, va_K.moved (u := U) (U := U.calling g mk a) (Vm.Alike.refl U.vm) qK, qD⟩, va_recv hK hPc (ci := 9) (q0 := 0) rfl rfl, fun U hU hW => ⟨rfl, by rw [hU], by rw [hU]; exact hPc, va_K.moved hW.alike hK, hDc.weaken (fun _ _ _ _ => trivial)⟩⟩ rfl rfl hl.1 rfl (lv_room (Nat.le_of_ble_eq_true rfl)) dL_law_730 ⟨Nat.le_of_ble_eq_true rfl, Nat.le_of_ble_eq_true rfl⟩) hS (fun q _ h => hFc q h) hFc (fun r2 u t H1 locs ht hvm hw hB hz1 hk1 hS => ?_)
      have hw : (-9223372036854775808) = r2 := (show r2 = (-9223372036854775808) from hw).symm
      subst hw
      obtain ⟨hP, hD⟩ := va_join (wr := [(q64, .inr (10, [.int 2, .int 0, .int 0, .ref q66, .ref q67, .ref q68, .ref q69, .ref q70, .ref q71, .ref q72, .int 0, .ref q73, .ref q74, .ref q75, .ref q76, .ref q77, .ref q78, .ref q79, .ref q80, .ref q81, .ref q82, .ref q83, .long 0, .int 0, .ref q84, .ref q85, .int 0, .ref q86, .ref q87, .int 0, .int 0, .int 0, .long 0, .long 0, .int 0, .long 0, .long 0, .ref q88, .ref q89, .int 0, .ref q90, .ref q91, .ref q92, .ref q93, .ref q94, .ref q95, .long 0, .long 0]))]) (w1 := []) hP hD [0] [1] rfl rfl (by decide +kernel) (by decide +kernel) hk1 hFc pf_Pn pf_Dn
      clear hPc hDc hFc hk1 hz1
      generalize H1 = H at hP hS ⊢
      have hP : va_P (dC, dI) pf_cls [(q64, .inr (10, [.int 2, .int 0, .int 0, .ref q66, .ref q67, .ref q68, .ref q69, .ref q70, .ref q71, .ref q72, .int 0, .ref q73, .ref q74, .ref q75, .ref q76, .ref q77, .ref q78, .ref q79, .ref q80, .ref q81, .ref q82, .ref q83, .long 0, .int 0, .ref q84, .ref q85, .int 0, .ref q86, .ref q87, .int 0, .int 0, .int 0, .long 0, .long 0, .int 0, .long 0, .long 0, .ref q88, .ref q89, .int 0, .ref q90, .ref q91, .ref q92, .ref q93, .ref q94, .ref q95, .long 0, .long 0]))] H := hP
      have hD : va_D (fun q : Nat => s.heap.size ≤ q) [(q64, .inr (10, [.int 2, .int 0, .int 0, .ref q66, .ref q67, .ref q68, .ref q69, .ref q70, .ref q71, .ref q72, .int 0, .ref q73, .ref q74, .ref q75, .ref q76, .ref q77, .ref q78, .ref q79, .ref q80, .ref q81, .ref q82, .ref q83, .long 0, .int 0, .ref q84, .ref q85, .int 0, .ref q86, .ref q87, .int 0, .int 0, .int 0, .long 0, .long 0, .int 0, .long 0, .long 0, .ref q88, .ref q89, .int 0, .ref q90, .ref q91, .ref q92, .ref q93, .ref q94, .ref q95, .long 0, .long 0]))] := hD
      refine lv_aload_n hx hb dL_law_733 rfl (lv_at hl 1 rfl) ?_
      refine lv_aload_n hx hb dL_law_734 rfl (lv_at hl 3 rfl) ?_
      refine lv_iload_n hx hb dL_law_735 rfl (lv_at hl 0 rfl) ?_
      refine lv_iconst (v := 1) hx hb dL_law_736 (by decide) ?_
      refine lv_iadd hx hb dL_law_737 ?_
      refine pf_topi (v := 1) (by decide +kernel) ?_
      refine va_sld hx hb hX hbl hbA hS (pf_vpin (k := 1) (by decide +kernel) (by decide +kernel) (by decide)) dL_law_738 ?_
      refine pf_topi (v := xs 1) (congrArg xs (by decide +kernel)) ?_
      refine lv_if_eq (tgt := 746) hx hb dL_law_739 (by decide) (fun _ => ?_) (fun c3 => absurd c0 c3)
      refine lv_iconst (v := 0) hx hb dL_law_746 (by decide) ?_
      refine lv_aload_n hx hb dL_law_747 rfl (lv_at hl 3 rfl) ?_
      refine lv_iload_n hx hb dL_law_748 rfl (lv_at hl 0 rfl) ?_
      refine lv_iconst (v := 2) hx hb dL_law_749 (by decide) ?_
      refine lv_iadd hx hb dL_law_750 ?_
      refine pf_topi (v := 2) (by decide +kernel) ?_
      refine va_sld hx hb hX hbl hbA hS (pf_vpin (k := 2) (by decide +kernel) (by decide +kernel) (by decide)) dL_law_751 ?_
      refine pf_topi (v := xs 2) (congrArg xs (by decide +kernel)) ?_
      refine lv_if_eq (tgt := 759) hx hb dL_law_752 (by decide) (fun _ => ?_) (fun c4 => absurd c1 c4)
      refine lv_iconst (v := 0) hx hb dL_law_759 (by decide) ?_
      have hPc := hP.sub (ws' := [(q64, .inr (10, [.int 2, .int 0, .int 0, .ref q66, .ref q67, .ref q68, .ref q69, .ref q70, .ref q71, .ref q72, .int 0, .ref q73, .ref q74, .ref q75, .ref q76, .ref q77, .ref q78, .ref q79, .ref q80, .ref q81, .ref q82, .ref q83, .long 0, .int 0, .ref q84, .ref q85, .int 0, .ref q86, .ref q87, .int 0, .int 0, .int 0, .long 0, .long 0, .int 0, .long 0, .long 0, .ref q88, .ref q89, .int 0, .ref q90, .ref q91, .ref q92, .ref q93, .ref q94, .ref q95, .long 0, .long 0]))]) [0] rfl
      have hDc := hD.sub (ws' := [(q64, .inr (10, [.int 2, .int 0, .int 0, .ref q66, .ref q67, .ref q68, .ref q69, .ref q70, .ref q71, .ref q72, .int 0, .ref q73, .ref q74, .ref q75, .ref q76, .ref q77, .ref q78, .ref q79, .ref q80, .ref q81, .ref q82, .ref q83, .long 0, .int 0, .ref q84, .ref q85, .int 0, .ref q86, .ref q87, .int 0, .int 0, .int 0, .long 0, .long 0, .int 0, .long 0, .long 0, .ref q88, .ref q89, .int 0, .ref q90, .ref q91, .ref q92, .ref q93, .ref q94, .ref q95, .long 0, .long 0]))]) [0] (by decide +kernel) rfl
      have hFc := va_free (wc := [(q64, .inr (10, [.int 2, .int 0, .int 0, .ref q66, .ref q67, .ref q68, .ref q69, .ref q70, .ref q71, .ref q72, .int 0, .ref q73, .ref q74, .ref q75, .ref q76, .ref q77, .ref q78, .ref q79, .ref q80, .ref q81, .ref q82, .ref q83, .long 0, .int 0, .ref q84, .ref q85, .int 0, .ref q86, .ref q87, .int 0, .int 0, .int 0, .long 0, .long 0, .int 0, .long 0, .long 0, .ref q88, .ref q89, .int 0, .ref q90, .ref q91, .ref q92, .ref q93, .ref q94, .ref q95, .long 0, .long 0]))]) hD hS hA [0] rfl
      refine va_calll (va_runV (As := [.int 0, .int 0]) (rest := [.long (-9223372036854775808)]) ⟨hx, hb, hml, hown, hts⟩ (c_m_limit l dC dI cI cJ cZ cO H.size q64 0 0 q66 q67 q68 q69 q70 q71 q72 q73 q74 q75 q76 q77 q78 q79 q80 q81 q82 q83 q84 q85 q86 q87 q88 q89 q90 q91 q92 q93 q94 q95) (cwV 2 hts (pf_gV mw_633 mw_634 mw_635 mw_346 mw_636) rfl rfl rfl (by decide +kernel) ⟨Nat.le_of_ble_eq_true rfl, Nat.le_of_ble_eq_true rfl⟩) ⟨fun a U g mk q => by obtain ⟨q0, q1, qP, qK, qD⟩ := q; exact ⟨q0, q1, qP, va_K.moved (u := U) (U := U.calling g mk a) (Vm.Alike.refl U.vm) qK, qD⟩, va_recv hK hPc (ci := 10) (q0 := 0) rfl rfl, fun U hU hW => ⟨rfl, by rw [hU], by rw [hU]; exact hPc, va_K.moved hW.alike hK, hDc.weaken (fun _ _ _ _ => trivial)⟩⟩ rfl rfl hl.1 rfl (lv_room (Nat.le_of_ble_eq_true rfl)) dL_law_760 ⟨Nat.le_of_ble_eq_true rfl, Nat.le_of_ble_eq_true rfl⟩) hS (fun q _ h => hFc q h) hFc (fun r5 u t H1 locs ht hvm hw hB hz1 hk1 hS => ?_)
      have hw : (-9223372036854775808) = r5 := (show r5 = (-9223372036854775808) from hw).symm
      subst hw
      obtain ⟨hP, hD⟩ := va_join (wr := []) (w1 := []) hP hD [0] [] rfl rfl (by decide +kernel) (by decide +kernel) hk1 hFc pf_Pn pf_Dn
      clear hPc hDc hFc hk1 hz1
      generalize H1 = H at hP hS ⊢
      have hP : va_P (dC, dI) pf_cls [] H := hP
      have hD : va_D (fun q : Nat => s.heap.size ≤ q) [] := hD
      refine W.lcmp hx hb dL_law_763 ?_
      refine pf_topi (v := 0) (by decide +kernel) ?_
      refine lv_if_eq (tgt := 1009) hx hb dL_law_764 (by decide) (fun _ => ?_) (fun c6 => absurd (by decide +kernel) c6)
      refine lv_iinc (v := 6) (lv' := [(3, .int 6), (2, .ref q64), (1, .ref q1), (0, .ref b)]) hx hb dL_law_1009 hl (k := 0) rfl (by decide +kernel) (by decide) rfl (fun ls hl => ?_)
      refine lv_goto (tgt := 18) hx hb dL_law_1012 (by decide) ?_
      refine lv_iload_n hx hb dL_law_18 rfl (lv_at hl 0 rfl) ?_
      refine lv_aload_n hx hb dL_law_19 rfl (lv_at hl 3 rfl) ?_
      refine va_slen hx hb hX hbl hbA hS dL_law_20 ?_
      refine pf_topi (v := 6) (by decide +kernel) ?_
      refine lv_bipush (v := 6) hx hb dL_law_21 (by decide +kernel) ?_
      refine lv_isub hx hb dL_law_23 ?_
      refine pf_topi (v := 0) (by decide +kernel) ?_
      refine lv_icmp_gt (tgt := 1015) hx hb dL_law_24 (by decide) (fun _ => ?_) (fun c7 => absurd (by decide +kernel) c7)
      refine lv_iconst (v := 1) hx hb dL_law_1015 (by decide) ?_
      refine va_forget (fun q hq => hS.2.2 q hq) ?_
      refine W.widen (k := 600000) (n := 7302250) (Nat.le_of_ble_eq_true rfl) (Nat.le_of_ble_eq_true rfl) ?_
      exact lw_ret hx hb hr hlocks dL_law_1016
    · skip
      refine lv_iconst (v := 1) hx hb dL_law_725 (by decide) ?_
      refine lv_goto (tgt := 730) hx hb dL_law_726 (by decide) ?_
      have hPc := hP.sub (ws' := [(q1, .inr (9, [.ref q3, .ref q11, .ref q20, .ref q42, .int 0]))]) [0] rfl
      have hDc := hD.sub (ws' := [(q1, .inr (9, [.ref q3, .ref q11, .ref q20, .ref q42, .int 0]))]) [0] (by decide +kernel) rfl
      have hFc := va_free (wc := [(q1, .inr (9, [.ref q3, .ref q11, .ref q20, .ref q42, .int 0]))]) hD hS hA [0] rfl
      refine va_calll (va_runV (As := [.int 0, .int 1]) (rest := []) ⟨hx, hb, hml, hown, hts⟩ (c_limit l dC dI cI cJ cZ cO H.size q1 0 1 q3 q11 q20 q42) (cwV 2 hts (pf_gV mw_629 mw_630 mw_631 mw_50 mw_632) rfl rfl rfl (by decide +kernel) ⟨Nat.le_of_ble_eq_true rfl, Nat.le_of_ble_eq_true rfl⟩) ⟨fun a U g mk q => by obtain ⟨q0, q1, qP, qK, qD⟩ := q; exact ⟨q0, q1, qP, va_K.moved (u := U) (U := U.calling g mk a) (Vm.Alike.refl U.vm) qK, qD⟩, va_recv hK hPc (ci := 9) (q0 := 0) rfl rfl, fun U hU hW => ⟨rfl, by rw [hU], by rw [hU]; exact hPc, va_K.moved hW.alike hK, hDc.weaken (fun _ _ _ _ => trivial)⟩⟩ rfl rfl hl.1 rfl (lv_room (Nat.le_of_ble_eq_true rfl)) dL_law_730 ⟨Nat.le_of_ble_eq_true rfl, Nat.le_of_ble_eq_true rfl⟩) hS (fun q _ h => hFc q h) hFc (fun r8 u t H1 locs ht hvm hw hB hz1 hk1 hS => ?_)
      have hw : (-9223372036854775808) = r8 := (show r8 = (-9223372036854775808) from hw).symm
      subst hw
      obtain ⟨hP, hD⟩ := va_join (wr := [(q64, .inr (10, [.int 2, .int 0, .int 0, .ref q66, .ref q67, .ref q68, .ref q69, .ref q70, .ref q71, .ref q72, .int 0, .ref q73, .ref q74, .ref q75, .ref q76, .ref q77, .ref q78, .ref q79, .ref q80, .ref q81, .ref q82, .ref q83, .long 0, .int 0, .ref q84, .ref q85, .int 0, .ref q86, .ref q87, .int 0, .int 0, .int 0, .long 0, .long 0, .int 0, .long 0, .long 0, .ref q88, .ref q89, .int 0, .ref q90, .ref q91, .ref q92, .ref q93, .ref q94, .ref q95, .long 0, .long 0]))]) (w1 := []) hP hD [0] [1] rfl rfl (by decide +kernel) (by decide +kernel) hk1 hFc pf_Pn pf_Dn
      clear hPc hDc hFc hk1 hz1
      generalize H1 = H at hP hS ⊢
      have hP : va_P (dC, dI) pf_cls [(q64, .inr (10, [.int 2, .int 0, .int 0, .ref q66, .ref q67, .ref q68, .ref q69, .ref q70, .ref q71, .ref q72, .int 0, .ref q73, .ref q74, .ref q75, .ref q76, .ref q77, .ref q78, .ref q79, .ref q80, .ref q81, .ref q82, .ref q83, .long 0, .int 0, .ref q84, .ref q85, .int 0, .ref q86, .ref q87, .int 0, .int 0, .int 0, .long 0, .long 0, .int 0, .long 0, .long 0, .ref q88, .ref q89, .int 0, .ref q90, .ref q91, .ref q92, .ref q93, .ref q94, .ref q95, .long 0, .long 0]))] H := hP
      have hD : va_D (fun q : Nat => s.heap.size ≤ q) [(q64, .inr (10, [.int 2, .int 0, .int 0, .ref q66, .ref q67, .ref q68, .ref q69, .ref q70, .ref q71, .ref q72, .int 0, .ref q73, .ref q74, .ref q75, .ref q76, .ref q77, .ref q78, .ref q79, .ref q80, .ref q81, .ref q82, .ref q83, .long 0, .int 0, .ref q84, .ref q85, .int 0, .ref q86, .ref q87, .int 0, .int 0, .int 0, .long 0, .long 0, .int 0, .long 0, .long 0, .ref q88, .ref q89, .int 0, .ref q90, .ref q91, .ref q92, .ref q93, .ref q94, .ref q95, .long 0, .long 0]))] := hD
      refine lv_aload_n hx hb dL_law_733 rfl (lv_at hl 1 rfl) ?_
      refine lv_aload_n hx hb dL_law_734 rfl (lv_at hl 3 rfl) ?_
      refine lv_iload_n hx hb dL_law_735 rfl (lv_at hl 0 rfl) ?_
      refine lv_iconst (v := 1) hx hb dL_law_736 (by decide) ?_
      refine lv_iadd hx hb dL_law_737 ?_
      refine pf_topi (v := 1) (by decide +kernel) ?_
      refine va_sld hx hb hX hbl hbA hS (pf_vpin (k := 1) (by decide +kernel) (by decide +kernel) (by decide)) dL_law_738 ?_
      refine pf_topi (v := xs 1) (congrArg xs (by decide +kernel)) ?_
      refine lv_if_eq (tgt := 746) hx hb dL_law_739 (by decide) (fun _ => ?_) (fun c9 => absurd c0 c9)
      refine lv_iconst (v := 0) hx hb dL_law_746 (by decide) ?_
      refine lv_aload_n hx hb dL_law_747 rfl (lv_at hl 3 rfl) ?_
      refine lv_iload_n hx hb dL_law_748 rfl (lv_at hl 0 rfl) ?_
      refine lv_iconst (v := 2) hx hb dL_law_749 (by decide) ?_
      refine lv_iadd hx hb dL_law_750 ?_
      refine pf_topi (v := 2) (by decide +kernel) ?_
      refine va_sld hx hb hX hbl hbA hS (pf_vpin (k := 2) (by decide +kernel) (by decide +kernel) (by decide)) dL_law_751 ?_
      refine pf_topi (v := xs 2) (congrArg xs (by decide +kernel)) ?_
      refine lv_if_eq (tgt := 759) hx hb dL_law_752 (by decide) (fun c10 => absurd c10 c1) (fun _ => ?_)
      refine lv_iconst (v := 1) hx hb dL_law_755 (by decide) ?_
      refine lv_goto (tgt := 760) hx hb dL_law_756 (by decide) ?_
      have hPc := hP.sub (ws' := [(q64, .inr (10, [.int 2, .int 0, .int 0, .ref q66, .ref q67, .ref q68, .ref q69, .ref q70, .ref q71, .ref q72, .int 0, .ref q73, .ref q74, .ref q75, .ref q76, .ref q77, .ref q78, .ref q79, .ref q80, .ref q81, .ref q82, .ref q83, .long 0, .int 0, .ref q84, .ref q85, .int 0, .ref q86, .ref q87, .int 0, .int 0, .int 0, .long 0, .long 0, .int 0, .long 0, .long 0, .ref q88, .ref q89, .int 0, .ref q90, .ref q91, .ref q92, .ref q93, .ref q94, .ref q95, .long 0, .long 0]))]) [0] rfl
      have hDc := hD.sub (ws' := [(q64, .inr (10, [.int 2, .int 0, .int 0, .ref q66, .ref q67, .ref q68, .ref q69, .ref q70, .ref q71, .ref q72, .int 0, .ref q73, .ref q74, .ref q75, .ref q76, .ref q77, .ref q78, .ref q79, .ref q80, .ref q81, .ref q82, .ref q83, .long 0, .int 0, .ref q84, .ref q85, .int 0, .ref q86, .ref q87, .int 0, .int 0, .int 0, .long 0, .long 0, .int 0, .long 0, .long 0, .ref q88, .ref q89, .int 0, .ref q90, .ref q91, .ref q92, .ref q93, .ref q94, .ref q95, .long 0, .long 0]))]) [0] (by decide +kernel) rfl
      have hFc := va_free (wc := [(q64, .inr (10, [.int 2, .int 0, .int 0, .ref q66, .ref q67, .ref q68, .ref q69, .ref q70, .ref q71, .ref q72, .int 0, .ref q73, .ref q74, .ref q75, .ref q76, .ref q77, .ref q78, .ref q79, .ref q80, .ref q81, .ref q82, .ref q83, .long 0, .int 0, .ref q84, .ref q85, .int 0, .ref q86, .ref q87, .int 0, .int 0, .int 0, .long 0, .long 0, .int 0, .long 0, .long 0, .ref q88, .ref q89, .int 0, .ref q90, .ref q91, .ref q92, .ref q93, .ref q94, .ref q95, .long 0, .long 0]))]) hD hS hA [0] rfl
      refine va_calll (va_runV (As := [.int 0, .int 1]) (rest := [.long (-9223372036854775808)]) ⟨hx, hb, hml, hown, hts⟩ (c_m_limit l dC dI cI cJ cZ cO H.size q64 0 1 q66 q67 q68 q69 q70 q71 q72 q73 q74 q75 q76 q77 q78 q79 q80 q81 q82 q83 q84 q85 q86 q87 q88 q89 q90 q91 q92 q93 q94 q95) (cwV 2 hts (pf_gV mw_633 mw_634 mw_635 mw_346 mw_636) rfl rfl rfl (by decide +kernel) ⟨Nat.le_of_ble_eq_true rfl, Nat.le_of_ble_eq_true rfl⟩) ⟨fun a U g mk q => by obtain ⟨q0, q1, qP, qK, qD⟩ := q; exact ⟨q0, q1, qP, va_K.moved (u := U) (U := U.calling g mk a) (Vm.Alike.refl U.vm) qK, qD⟩, va_recv hK hPc (ci := 10) (q0 := 0) rfl rfl, fun U hU hW => ⟨rfl, by rw [hU], by rw [hU]; exact hPc, va_K.moved hW.alike hK, hDc.weaken (fun _ _ _ _ => trivial)⟩⟩ rfl rfl hl.1 rfl (lv_room (Nat.le_of_ble_eq_true rfl)) dL_law_760 ⟨Nat.le_of_ble_eq_true rfl, Nat.le_of_ble_eq_true rfl⟩) hS (fun q _ h => hFc q h) hFc (fun r11 u t H1 locs ht hvm hw hB hz1 hk1 hS => ?_)
      have hw : (-9223372036854775808) = r11 := (show r11 = (-9223372036854775808) from hw).symm
      subst hw
      obtain ⟨hP, hD⟩ := va_join (wr := []) (w1 := []) hP hD [0] [] rfl rfl (by decide +kernel) (by decide +kernel) hk1 hFc pf_Pn pf_Dn
      clear hPc hDc hFc hk1 hz1
      generalize H1 = H at hP hS ⊢
      have hP : va_P (dC, dI) pf_cls [] H := hP
      have hD : va_D (fun q : Nat => s.heap.size ≤ q) [] := hD
      refine W.lcmp hx hb dL_law_763 ?_
      refine pf_topi (v := 0) (by decide +kernel) ?_
      refine lv_if_eq (tgt := 1009) hx hb dL_law_764 (by decide) (fun _ => ?_) (fun c12 => absurd (by decide +kernel) c12)
      refine lv_iinc (v := 6) (lv' := [(3, .int 6), (2, .ref q64), (1, .ref q1), (0, .ref b)]) hx hb dL_law_1009 hl (k := 0) rfl (by decide +kernel) (by decide) rfl (fun ls hl => ?_)
      refine lv_goto (tgt := 18) hx hb dL_law_1012 (by decide) ?_
      refine lv_iload_n hx hb dL_law_18 rfl (lv_at hl 0 rfl) ?_
      refine lv_aload_n hx hb dL_law_19 rfl (lv_at hl 3 rfl) ?_
      refine va_slen hx hb hX hbl hbA hS dL_law_20 ?_
      refine pf_topi (v := 6) (by decide +kernel) ?_
      refine lv_bipush (v := 6) hx hb dL_law_21 (by decide +kernel) ?_
      refine lv_isub hx hb dL_law_23 ?_
      refine pf_topi (v := 0) (by decide +kernel) ?_
      refine lv_icmp_gt (tgt := 1015) hx hb dL_law_24 (by decide) (fun _ => ?_) (fun c13 => absurd (by decide +kernel) c13)
      refine lv_iconst (v := 1) hx hb dL_law_1015 (by decide) ?_
      refine va_forget (fun q hq => hS.2.2 q hq) ?_
      refine W.widen (k := 600000) (n := 7302250) (Nat.le_of_ble_eq_true rfl) (Nat.le_of_ble_eq_true rfl) ?_
      exact lw_ret hx hb hr hlocks dL_law_1016
  · skip
    refine lv_iconst (v := 1) hx hb dL_law_712 (by decide) ?_
    refine lv_goto (tgt := 717) hx hb dL_law_713 (by decide) ?_
    refine lv_aload_n hx hb dL_law_717 rfl (lv_at hl 3 rfl) ?_
    refine lv_iload_n hx hb dL_law_718 rfl (lv_at hl 0 rfl) ?_
    refine lv_iconst (v := 2) hx hb dL_law_719 (by decide) ?_
    refine lv_iadd hx hb dL_law_720 ?_
    refine pf_topi (v := 2) (by decide +kernel) ?_
    refine va_sld hx hb hX hbl hbA hS (pf_vpin (k := 2) (by decide +kernel) (by decide +kernel) (by decide)) dL_law_721 ?_
    refine pf_topi (v := xs 2) (congrArg xs (by decide +kernel)) ?_
    refine lv_if_eq (tgt := 729) hx hb dL_law_722 (by decide) (fun c14 => ?_) (fun c14 => ?_)
    · skip
      refine lv_iconst (v := 0) hx hb dL_law_729 (by decide) ?_
      have hPc := hP.sub (ws' := [(q1, .inr (9, [.ref q3, .ref q11, .ref q20, .ref q42, .int 0]))]) [0] rfl
      have hDc := hD.sub (ws' := [(q1, .inr (9, [.ref q3, .ref q11, .ref q20, .ref q42, .int 0]))]) [0] (by decide +kernel) rfl
      have hFc := va_free (wc := [(q1, .inr (9, [.ref q3, .ref q11, .ref q20, .ref q42, .int 0]))]) hD hS hA [0] rfl
      refine va_calll (va_runV (As := [.int 1, .int 0]) (rest := []) ⟨hx, hb, hml, hown, hts⟩ (c_limit l dC dI cI cJ cZ cO H.size q1 1 0 q3 q11 q20 q42) (cwV 2 hts (pf_gV mw_629 mw_630 mw_631 mw_50 mw_632) rfl rfl rfl (by decide +kernel) ⟨Nat.le_of_ble_eq_true rfl, Nat.le_of_ble_eq_true rfl⟩) ⟨fun a U g mk q => by obtain ⟨q0, q1, qP, qK, qD⟩ := q; exact ⟨q0, q1, qP, va_K.moved (u := U) (U := U.calling g mk a) (Vm.Alike.refl U.vm) qK, qD⟩, va_recv hK hPc (ci := 9) (q0 := 0) rfl rfl, fun U hU hW => ⟨rfl, by rw [hU], by rw [hU]; exact hPc, va_K.moved hW.alike hK, hDc.weaken (fun _ _ _ _ => trivial)⟩⟩ rfl rfl hl.1 rfl (lv_room (Nat.le_of_ble_eq_true rfl)) dL_law_730 ⟨Nat.le_of_ble_eq_true rfl, Nat.le_of_ble_eq_true rfl⟩) hS (fun q _ h => hFc q h) hFc (fun r15 u t H1 locs ht hvm hw hB hz1 hk1 hS => ?_)
      have hw : (-9223372036854775808) = r15 := (show r15 = (-9223372036854775808) from hw).symm
      subst hw
      obtain ⟨hP, hD⟩ := va_join (wr := [(q64, .inr (10, [.int 2, .int 0, .int 0, .ref q66, .ref q67, .ref q68, .ref q69, .ref q70, .ref q71, .ref q72, .int 0, .ref q73, .ref q74, .ref q75, .ref q76, .ref q77, .ref q78, .ref q79, .ref q80, .ref q81, .ref q82, .ref q83, .long 0, .int 0, .ref q84, .ref q85, .int 0, .ref q86, .ref q87, .int 0, .int 0, .int 0, .long 0, .long 0, .int 0, .long 0, .long 0, .ref q88, .ref q89, .int 0, .ref q90, .ref q91, .ref q92, .ref q93, .ref q94, .ref q95, .long 0, .long 0]))]) (w1 := []) hP hD [0] [1] rfl rfl (by decide +kernel) (by decide +kernel) hk1 hFc pf_Pn pf_Dn
      clear hPc hDc hFc hk1 hz1
      generalize H1 = H at hP hS ⊢
      have hP : va_P (dC, dI) pf_cls [(q64, .inr (10, [.int 2, .int 0, .int 0, .ref q66, .ref q67, .ref q68, .ref q69, .ref q70, .ref q71, .ref q72, .int 0, .ref q73, .ref q74, .ref q75, .ref q76, .ref q77, .ref q78, .ref q79, .ref q80, .ref q81, .ref q82, .ref q83, .long 0, .int 0, .ref q84, .ref q85, .int 0, .ref q86, .ref q87, .int 0, .int 0, .int 0, .long 0, .long 0, .int 0, .long 0, .long 0, .ref q88, .ref q89, .int 0, .ref q90, .ref q91, .ref q92, .ref q93, .ref q94, .ref q95, .long 0, .long 0]))] H := hP
      have hD : va_D (fun q : Nat => s.heap.size ≤ q) [(q64, .inr (10, [.int 2, .int 0, .int 0, .ref q66, .ref q67, .ref q68, .ref q69, .ref q70, .ref q71, .ref q72, .int 0, .ref q73, .ref q74, .ref q75, .ref q76, .ref q77, .ref q78, .ref q79, .ref q80, .ref q81, .ref q82, .ref q83, .long 0, .int 0, .ref q84, .ref q85, .int 0, .ref q86, .ref q87, .int 0, .int 0, .int 0, .long 0, .long 0, .int 0, .long 0, .long 0, .ref q88, .ref q89, .int 0, .ref q90, .ref q91, .ref q92, .ref q93, .ref q94, .ref q95, .long 0, .long 0]))] := hD
      refine lv_aload_n hx hb dL_law_733 rfl (lv_at hl 1 rfl) ?_
      refine lv_aload_n hx hb dL_law_734 rfl (lv_at hl 3 rfl) ?_
      refine lv_iload_n hx hb dL_law_735 rfl (lv_at hl 0 rfl) ?_
      refine lv_iconst (v := 1) hx hb dL_law_736 (by decide) ?_
      refine lv_iadd hx hb dL_law_737 ?_
      refine pf_topi (v := 1) (by decide +kernel) ?_
      refine va_sld hx hb hX hbl hbA hS (pf_vpin (k := 1) (by decide +kernel) (by decide +kernel) (by decide)) dL_law_738 ?_
      refine pf_topi (v := xs 1) (congrArg xs (by decide +kernel)) ?_
      refine lv_if_eq (tgt := 746) hx hb dL_law_739 (by decide) (fun c16 => absurd c16 c0) (fun _ => ?_)
      refine lv_iconst (v := 1) hx hb dL_law_742 (by decide) ?_
      refine lv_goto (tgt := 747) hx hb dL_law_743 (by decide) ?_
      refine lv_aload_n hx hb dL_law_747 rfl (lv_at hl 3 rfl) ?_
      refine lv_iload_n hx hb dL_law_748 rfl (lv_at hl 0 rfl) ?_
      refine lv_iconst (v := 2) hx hb dL_law_749 (by decide) ?_
      refine lv_iadd hx hb dL_law_750 ?_
      refine pf_topi (v := 2) (by decide +kernel) ?_
      refine va_sld hx hb hX hbl hbA hS (pf_vpin (k := 2) (by decide +kernel) (by decide +kernel) (by decide)) dL_law_751 ?_
      refine pf_topi (v := xs 2) (congrArg xs (by decide +kernel)) ?_
      refine lv_if_eq (tgt := 759) hx hb dL_law_752 (by decide) (fun _ => ?_) (fun c17 => absurd c14 c17)
      refine lv_iconst (v := 0) hx hb dL_law_759 (by decide) ?_
      have hPc := hP.sub (ws' := [(q64, .inr (10, [.int 2, .int 0, .int 0, .ref q66, .ref q67, .ref q68, .ref q69, .ref q70, .ref q71, .ref q72, .int 0, .ref q73, .ref q74, .ref q75, .ref q76, .ref q77, .ref q78, .ref q79, .ref q80, .ref q81, .ref q82, .ref q83, .long 0, .int 0, .ref q84, .ref q85, .int 0, .ref q86, .ref q87, .int 0, .int 0, .int 0, .long 0, .long 0, .int 0, .long 0, .long 0, .ref q88, .ref q89, .int 0, .ref q90, .ref q91, .ref q92, .ref q93, .ref q94, .ref q95, .long 0, .long 0]))]) [0] rfl
      have hDc := hD.sub (ws' := [(q64, .inr (10, [.int 2, .int 0, .int 0, .ref q66, .ref q67, .ref q68, .ref q69, .ref q70, .ref q71, .ref q72, .int 0, .ref q73, .ref q74, .ref q75, .ref q76, .ref q77, .ref q78, .ref q79, .ref q80, .ref q81, .ref q82, .ref q83, .long 0, .int 0, .ref q84, .ref q85, .int 0, .ref q86, .ref q87, .int 0, .int 0, .int 0, .long 0, .long 0, .int 0, .long 0, .long 0, .ref q88, .ref q89, .int 0, .ref q90, .ref q91, .ref q92, .ref q93, .ref q94, .ref q95, .long 0, .long 0]))]) [0] (by decide +kernel) rfl
      have hFc := va_free (wc := [(q64, .inr (10, [.int 2, .int 0, .int 0, .ref q66, .ref q67, .ref q68, .ref q69, .ref q70, .ref q71, .ref q72, .int 0, .ref q73, .ref q74, .ref q75, .ref q76, .ref q77, .ref q78, .ref q79, .ref q80, .ref q81, .ref q82, .ref q83, .long 0, .int 0, .ref q84, .ref q85, .int 0, .ref q86, .ref q87, .int 0, .int 0, .int 0, .long 0, .long 0, .int 0, .long 0, .long 0, .ref q88, .ref q89, .int 0, .ref q90, .ref q91, .ref q92, .ref q93, .ref q94, .ref q95, .long 0, .long 0]))]) hD hS hA [0] rfl
      refine va_calll (va_runV (As := [.int 1, .int 0]) (rest := [.long (-9223372036854775808)]) ⟨hx, hb, hml, hown, hts⟩ (c_m_limit l dC dI cI cJ cZ cO H.size q64 1 0 q66 q67 q68 q69 q70 q71 q72 q73 q74 q75 q76 q77 q78 q79 q80 q81 q82 q83 q84 q85 q86 q87 q88 q89 q90 q91 q92 q93 q94 q95) (cwV 2 hts (pf_gV mw_633 mw_634 mw_635 mw_346 mw_636) rfl rfl rfl (by decide +kernel) ⟨Nat.le_of_ble_eq_true rfl, Nat.le_of_ble_eq_true rfl⟩) ⟨fun a U g mk q => by obtain ⟨q0, q1, qP, qK, qD⟩ := q; exact ⟨q0, q1, qP, va_K.moved (u := U) (U := U.calling g mk a) (Vm.Alike.refl U.vm) qK, qD⟩, va_recv hK hPc (ci := 10) (q0 := 0) rfl rfl, fun U hU hW => ⟨rfl, by rw [hU], by rw [hU]; exact hPc, va_K.moved hW.alike hK, hDc.weaken (fun _ _ _ _ => trivial)⟩⟩ rfl rfl hl.1 rfl (lv_room (Nat.le_of_ble_eq_true rfl)) dL_law_760 ⟨Nat.le_of_ble_eq_true rfl, Nat.le_of_ble_eq_true rfl⟩) hS (fun q _ h => hFc q h) hFc (fun r18 u t H1 locs ht hvm hw hB hz1 hk1 hS => ?_)
      have hw : (-9223372036854775808) = r18 := (show r18 = (-9223372036854775808) from hw).symm
      subst hw
      obtain ⟨hP, hD⟩ := va_join (wr := []) (w1 := []) hP hD [0] [] rfl rfl (by decide +kernel) (by decide +kernel) hk1 hFc pf_Pn pf_Dn
      clear hPc hDc hFc hk1 hz1
      generalize H1 = H at hP hS ⊢
      have hP : va_P (dC, dI) pf_cls [] H := hP
      have hD : va_D (fun q : Nat => s.heap.size ≤ q) [] := hD
      refine W.lcmp hx hb dL_law_763 ?_
      refine pf_topi (v := 0) (by decide +kernel) ?_
      refine lv_if_eq (tgt := 1009) hx hb dL_law_764 (by decide) (fun _ => ?_) (fun c19 => absurd (by decide +kernel) c19)
      refine lv_iinc (v := 6) (lv' := [(3, .int 6), (2, .ref q64), (1, .ref q1), (0, .ref b)]) hx hb dL_law_1009 hl (k := 0) rfl (by decide +kernel) (by decide) rfl (fun ls hl => ?_)
      refine lv_goto (tgt := 18) hx hb dL_law_1012 (by decide) ?_
      refine lv_iload_n hx hb dL_law_18 rfl (lv_at hl 0 rfl) ?_
      refine lv_aload_n hx hb dL_law_19 rfl (lv_at hl 3 rfl) ?_
      refine va_slen hx hb hX hbl hbA hS dL_law_20 ?_
      refine pf_topi (v := 6) (by decide +kernel) ?_
      refine lv_bipush (v := 6) hx hb dL_law_21 (by decide +kernel) ?_
      refine lv_isub hx hb dL_law_23 ?_
      refine pf_topi (v := 0) (by decide +kernel) ?_
      refine lv_icmp_gt (tgt := 1015) hx hb dL_law_24 (by decide) (fun _ => ?_) (fun c20 => absurd (by decide +kernel) c20)
      refine lv_iconst (v := 1) hx hb dL_law_1015 (by decide) ?_
      refine va_forget (fun q hq => hS.2.2 q hq) ?_
      refine W.widen (k := 600000) (n := 7302250) (Nat.le_of_ble_eq_true rfl) (Nat.le_of_ble_eq_true rfl) ?_
      exact lw_ret hx hb hr hlocks dL_law_1016
    · skip
      refine lv_iconst (v := 1) hx hb dL_law_725 (by decide) ?_
      refine lv_goto (tgt := 730) hx hb dL_law_726 (by decide) ?_
      have hPc := hP.sub (ws' := [(q1, .inr (9, [.ref q3, .ref q11, .ref q20, .ref q42, .int 0]))]) [0] rfl
      have hDc := hD.sub (ws' := [(q1, .inr (9, [.ref q3, .ref q11, .ref q20, .ref q42, .int 0]))]) [0] (by decide +kernel) rfl
      have hFc := va_free (wc := [(q1, .inr (9, [.ref q3, .ref q11, .ref q20, .ref q42, .int 0]))]) hD hS hA [0] rfl
      refine va_calll (va_runV (As := [.int 1, .int 1]) (rest := []) ⟨hx, hb, hml, hown, hts⟩ (c_limit l dC dI cI cJ cZ cO H.size q1 1 1 q3 q11 q20 q42) (cwV 2 hts (pf_gV mw_629 mw_630 mw_631 mw_50 mw_632) rfl rfl rfl (by decide +kernel) ⟨Nat.le_of_ble_eq_true rfl, Nat.le_of_ble_eq_true rfl⟩) ⟨fun a U g mk q => by obtain ⟨q0, q1, qP, qK, qD⟩ := q; exact ⟨q0, q1, qP, va_K.moved (u := U) (U := U.calling g mk a) (Vm.Alike.refl U.vm) qK, qD⟩, va_recv hK hPc (ci := 9) (q0 := 0) rfl rfl, fun U hU hW => ⟨rfl, by rw [hU], by rw [hU]; exact hPc, va_K.moved hW.alike hK, hDc.weaken (fun _ _ _ _ => trivial)⟩⟩ rfl rfl hl.1 rfl (lv_room (Nat.le_of_ble_eq_true rfl)) dL_law_730 ⟨Nat.le_of_ble_eq_true rfl, Nat.le_of_ble_eq_true rfl⟩) hS (fun q _ h => hFc q h) hFc (fun r21 u t H1 locs ht hvm hw hB hz1 hk1 hS => ?_)
      have hw : (-9223372036854775808) = r21 := (show r21 = (-9223372036854775808) from hw).symm
      subst hw
      obtain ⟨hP, hD⟩ := va_join (wr := [(q64, .inr (10, [.int 2, .int 0, .int 0, .ref q66, .ref q67, .ref q68, .ref q69, .ref q70, .ref q71, .ref q72, .int 0, .ref q73, .ref q74, .ref q75, .ref q76, .ref q77, .ref q78, .ref q79, .ref q80, .ref q81, .ref q82, .ref q83, .long 0, .int 0, .ref q84, .ref q85, .int 0, .ref q86, .ref q87, .int 0, .int 0, .int 0, .long 0, .long 0, .int 0, .long 0, .long 0, .ref q88, .ref q89, .int 0, .ref q90, .ref q91, .ref q92, .ref q93, .ref q94, .ref q95, .long 0, .long 0]))]) (w1 := []) hP hD [0] [1] rfl rfl (by decide +kernel) (by decide +kernel) hk1 hFc pf_Pn pf_Dn
      clear hPc hDc hFc hk1 hz1
      generalize H1 = H at hP hS ⊢
      have hP : va_P (dC, dI) pf_cls [(q64, .inr (10, [.int 2, .int 0, .int 0, .ref q66, .ref q67, .ref q68, .ref q69, .ref q70, .ref q71, .ref q72, .int 0, .ref q73, .ref q74, .ref q75, .ref q76, .ref q77, .ref q78, .ref q79, .ref q80, .ref q81, .ref q82, .ref q83, .long 0, .int 0, .ref q84, .ref q85, .int 0, .ref q86, .ref q87, .int 0, .int 0, .int 0, .long 0, .long 0, .int 0, .long 0, .long 0, .ref q88, .ref q89, .int 0, .ref q90, .ref q91, .ref q92, .ref q93, .ref q94, .ref q95, .long 0, .long 0]))] H := hP
      have hD : va_D (fun q : Nat => s.heap.size ≤ q) [(q64, .inr (10, [.int 2, .int 0, .int 0, .ref q66, .ref q67, .ref q68, .ref q69, .ref q70, .ref q71, .ref q72, .int 0, .ref q73, .ref q74, .ref q75, .ref q76, .ref q77, .ref q78, .ref q79, .ref q80, .ref q81, .ref q82, .ref q83, .long 0, .int 0, .ref q84, .ref q85, .int 0, .ref q86, .ref q87, .int 0, .int 0, .int 0, .long 0, .long 0, .int 0, .long 0, .long 0, .ref q88, .ref q89, .int 0, .ref q90, .ref q91, .ref q92, .ref q93, .ref q94, .ref q95, .long 0, .long 0]))] := hD
      refine lv_aload_n hx hb dL_law_733 rfl (lv_at hl 1 rfl) ?_
      refine lv_aload_n hx hb dL_law_734 rfl (lv_at hl 3 rfl) ?_
      refine lv_iload_n hx hb dL_law_735 rfl (lv_at hl 0 rfl) ?_
      refine lv_iconst (v := 1) hx hb dL_law_736 (by decide) ?_
      refine lv_iadd hx hb dL_law_737 ?_
      refine pf_topi (v := 1) (by decide +kernel) ?_
      refine va_sld hx hb hX hbl hbA hS (pf_vpin (k := 1) (by decide +kernel) (by decide +kernel) (by decide)) dL_law_738 ?_
      refine pf_topi (v := xs 1) (congrArg xs (by decide +kernel)) ?_
      refine lv_if_eq (tgt := 746) hx hb dL_law_739 (by decide) (fun c22 => absurd c22 c0) (fun _ => ?_)
      refine lv_iconst (v := 1) hx hb dL_law_742 (by decide) ?_
      refine lv_goto (tgt := 747) hx hb dL_law_743 (by decide) ?_
      refine lv_aload_n hx hb dL_law_747 rfl (lv_at hl 3 rfl) ?_
      refine lv_iload_n hx hb dL_law_748 rfl (lv_at hl 0 rfl) ?_
      refine lv_iconst (v := 2) hx hb dL_law_749 (by decide) ?_
      refine lv_iadd hx hb dL_law_750 ?_
      refine pf_topi (v := 2) (by decide +kernel) ?_
      refine va_sld hx hb hX hbl hbA hS (pf_vpin (k := 2) (by decide +kernel) (by decide +kernel) (by decide)) dL_law_751 ?_
      refine pf_topi (v := xs 2) (congrArg xs (by decide +kernel)) ?_
      refine lv_if_eq (tgt := 759) hx hb dL_law_752 (by decide) (fun c23 => absurd c23 c14) (fun _ => ?_)
      refine lv_iconst (v := 1) hx hb dL_law_755 (by decide) ?_
      refine lv_goto (tgt := 760) hx hb dL_law_756 (by decide) ?_
      have hPc := hP.sub (ws' := [(q64, .inr (10, [.int 2, .int 0, .int 0, .ref q66, .ref q67, .ref q68, .ref q69, .ref q70, .ref q71, .ref q72, .int 0, .ref q73, .ref q74, .ref q75, .ref q76, .ref q77, .ref q78, .ref q79, .ref q80, .ref q81, .ref q82, .ref q83, .long 0, .int 0, .ref q84, .ref q85, .int 0, .ref q86, .ref q87, .int 0, .int 0, .int 0, .long 0, .long 0, .int 0, .long 0, .long 0, .ref q88, .ref q89, .int 0, .ref q90, .ref q91, .ref q92, .ref q93, .ref q94, .ref q95, .long 0, .long 0]))]) [0] rfl
      have hDc := hD.sub (ws' := [(q64, .inr (10, [.int 2, .int 0, .int 0, .ref q66, .ref q67, .ref q68, .ref q69, .ref q70, .ref q71, .ref q72, .int 0, .ref q73, .ref q74, .ref q75, .ref q76, .ref q77, .ref q78, .ref q79, .ref q80, .ref q81, .ref q82, .ref q83, .long 0, .int 0, .ref q84, .ref q85, .int 0, .ref q86, .ref q87, .int 0, .int 0, .int 0, .long 0, .long 0, .int 0, .long 0, .long 0, .ref q88, .ref q89, .int 0, .ref q90, .ref q91, .ref q92, .ref q93, .ref q94, .ref q95, .long 0, .long 0]))]) [0] (by decide +kernel) rfl
      have hFc := va_free (wc := [(q64, .inr (10, [.int 2, .int 0, .int 0, .ref q66, .ref q67, .ref q68, .ref q69, .ref q70, .ref q71, .ref q72, .int 0, .ref q73, .ref q74, .ref q75, .ref q76, .ref q77, .ref q78, .ref q79, .ref q80, .ref q81, .ref q82, .ref q83, .long 0, .int 0, .ref q84, .ref q85, .int 0, .ref q86, .ref q87, .int 0, .int 0, .int 0, .long 0, .long 0, .int 0, .long 0, .long 0, .ref q88, .ref q89, .int 0, .ref q90, .ref q91, .ref q92, .ref q93, .ref q94, .ref q95, .long 0, .long 0]))]) hD hS hA [0] rfl
      refine va_calll (va_runV (As := [.int 1, .int 1]) (rest := [.long (-9223372036854775808)]) ⟨hx, hb, hml, hown, hts⟩ (c_m_limit l dC dI cI cJ cZ cO H.size q64 1 1 q66 q67 q68 q69 q70 q71 q72 q73 q74 q75 q76 q77 q78 q79 q80 q81 q82 q83 q84 q85 q86 q87 q88 q89 q90 q91 q92 q93 q94 q95) (cwV 2 hts (pf_gV mw_633 mw_634 mw_635 mw_346 mw_636) rfl rfl rfl (by decide +kernel) ⟨Nat.le_of_ble_eq_true rfl, Nat.le_of_ble_eq_true rfl⟩) ⟨fun a U g mk q => by obtain ⟨q0, q1, qP, qK, qD⟩ := q; exact ⟨q0, q1, qP, va_K.moved (u := U) (U := U.calling g mk a) (Vm.Alike.refl U.vm) qK, qD⟩, va_recv hK hPc (ci := 10) (q0 := 0) rfl rfl, fun U hU hW => ⟨rfl, by rw [hU], by rw [hU]; exact hPc, va_K.moved hW.alike hK, hDc.weaken (fun _ _ _ _ => trivial)⟩⟩ rfl rfl hl.1 rfl (lv_room (Nat.le_of_ble_eq_true rfl)) dL_law_760 ⟨Nat.le_of_ble_eq_true rfl, Nat.le_of_ble_eq_true rfl⟩) hS (fun q _ h => hFc q h) hFc (fun r24 u t H1 locs ht hvm hw hB hz1 hk1 hS => ?_)
      have hw : (-9223372036854775808) = r24 := (show r24 = (-9223372036854775808) from hw).symm
      subst hw
      obtain ⟨hP, hD⟩ := va_join (wr := []) (w1 := []) hP hD [0] [] rfl rfl (by decide +kernel) (by decide +kernel) hk1 hFc pf_Pn pf_Dn
      clear hPc hDc hFc hk1 hz1
      generalize H1 = H at hP hS ⊢
      have hP : va_P (dC, dI) pf_cls [] H := hP
      have hD : va_D (fun q : Nat => s.heap.size ≤ q) [] := hD
      refine W.lcmp hx hb dL_law_763 ?_
      refine pf_topi (v := 0) (by decide +kernel) ?_
      refine lv_if_eq (tgt := 1009) hx hb dL_law_764 (by decide) (fun _ => ?_) (fun c25 => absurd (by decide +kernel) c25)
      refine lv_iinc (v := 6) (lv' := [(3, .int 6), (2, .ref q64), (1, .ref q1), (0, .ref b)]) hx hb dL_law_1009 hl (k := 0) rfl (by decide +kernel) (by decide) rfl (fun ls hl => ?_)
      refine lv_goto (tgt := 18) hx hb dL_law_1012 (by decide) ?_
      refine lv_iload_n hx hb dL_law_18 rfl (lv_at hl 0 rfl) ?_
      refine lv_aload_n hx hb dL_law_19 rfl (lv_at hl 3 rfl) ?_
      refine va_slen hx hb hX hbl hbA hS dL_law_20 ?_
      refine pf_topi (v := 6) (by decide +kernel) ?_
      refine lv_bipush (v := 6) hx hb dL_law_21 (by decide +kernel) ?_
      refine lv_isub hx hb dL_law_23 ?_
      refine pf_topi (v := 0) (by decide +kernel) ?_
      refine lv_icmp_gt (tgt := 1015) hx hb dL_law_24 (by decide) (fun _ => ?_) (fun c26 => absurd (by decide +kernel) c26)
      refine lv_iconst (v := 1) hx hb dL_law_1015 (by decide) ?_
      refine va_forget (fun q hq => hS.2.2 q hq) ?_
      refine W.widen (k := 600000) (n := 7302250) (Nat.le_of_ble_eq_true rfl) (Nat.le_of_ble_eq_true rfl) ?_
      exact lw_ret hx hb hr hlocks dL_law_1016
set_option maxHeartbeats 40000000 in
set_option maxRecDepth 100000 in
theorem law_case_18 {p : Program} {e : Env} {s : State} {m : MethodId} {below : List Frame} {meth : Method} {c : Code} (l : Launch) {b t0 : Nat} {xs : Nat → Int32} (C0 : lw_At p s m meth c b 6 xs) (dC : Nat → ClassId) (dI : Nat → Nat → Nat) (cI cJ cZ cO : ClassId) (q1 q3 q11 q20 q42 q4 q5 q6 q7 q8 q9 q10 q43 q50 q58 q59 q61 q63 q44 q45 q46 q47 q48 q49 q51 q52 q53 q54 q55 q56 q57 q60 q62 q64 q66 q67 q68 q69 q70 q71 q72 q73 q74 q75 q76 q77 q78 q79 q80 q81 q82 q83 q84 q85 q86 q87 q88 q89 q90 q91 q92 q93 q94 q95 : Nat) {H : Heap} {locs : List Loc} {ls : Array Slot} (hK : va_K (dC, dI) pf_cls (pf_ty cI cJ cZ cO) s) (hSt : pf_St t0 (fun q : Nat => s.heap.size ≤ q) s s.heap) (hP : va_P (dC, dI) pf_cls [(q1, .inr (9, [.ref q3, .ref q11, .ref q20, .ref q42, .int 0])), (q3, .inr (5, [.int 2, .int 0, .int 0, .ref q4, .ref q5, .ref q6, .ref q7, .ref q8, .ref q9, .ref q10])), (q4, .inl (cI, 8, .inl (fun _ => 0))), (q42, .inr (7, [.int 0, .long 0, .long 1, .ref q43, .ref q50, .ref q58, .ref q59, .ref q61, .ref q63])), (q43, .inr (0, [.int 0, .int 0, .ref q44, .ref q45, .ref q46, .ref q47, .ref q48, .ref q49])), (q44, .inl (cI, 28, .inl (fun _ => 0))), (q45, .inl (cI, 28, .inl (fun _ => 0))), (q46, .inl (cJ, 28, .inr (.inl (fun _ => 0)))), (q47, .inl (cJ, 28, .inr (.inl (fun _ => 0)))), (q48, .inl (cJ, 28, .inr (.inl (fun _ => 0)))), (q49, .inl (cI, 28, .inl (fun _ => 0))), (q50, .inr (8, [.int 0, .ref q51, .ref q52, .ref q53, .ref q54, .ref q55, .ref q56, .ref q57])), (q51, .inl (cI, 9, .inl (fun _ => 0))), (q52, .inl (cI, 9, .inl (fun _ => 0))), (q53, .inl (cI, 9, .inl (fun _ => 0))), (q54, .inl (cJ, 9, .inr (.inl (fun _ => 0)))), (q59, .inr (4, [.int 0, .ref q60])), (q61, .inr (4, [.int 0, .ref q62])), (q64, .inr (10, [.int 2, .int 0, .int 0, .ref q66, .ref q67, .ref q68, .ref q69, .ref q70, .ref q71, .ref q72, .int 0, .ref q73, .ref q74, .ref q75, .ref q76, .ref q77, .ref q78, .ref q79, .ref q80, .ref q81, .ref q82, .ref q83, .long 0, .int 0, .ref q84, .ref q85, .int 0, .ref q86, .ref q87, .int 0, .int 0, .int 0, .long 0, .long 0, .int 0, .long 0, .long 0, .ref q88, .ref q89, .int 0, .ref q90, .ref q91, .ref q92, .ref q93, .ref q94, .ref q95, .long 0, .long 0])), (q71, .inl (cI, 8, .inl (fun _ => 0))), (q73, .inl (cJ, 28, .inr (.inl (fun _ => 0)))), (q74, .inl (cJ, 28, .inr (.inl (fun _ => 0)))), (q75, .inl (cJ, 28, .inr (.inl (fun _ => 0)))), (q76, .inl (cI, 28, .inl (fun _ => 0))), (q77, .inl (cI, 28, .inl (fun _ => 0))), (q78, .inl (cI, 28, .inl (fun _ => 0))), (q79, .inl (cJ, 8, .inr (.inl (fun _ => 0)))), (q80, .inl (cI, 9, .inl (fun _ => 0))), (q81, .inl (cI, 9, .inl (fun _ => 0))), (q82, .inl (cI, 9, .inl (fun _ => 0))), (q83, .inl (cJ, 9, .inr (.inl (fun _ => 0))))] H) (hD : va_D (fun q : Nat => s.heap.size ≤ q) [(q1, .inr (9, [.ref q3, .ref q11, .ref q20, .ref q42, .int 0])), (q3, .inr (5, [.int 2, .int 0, .int 0, .ref q4, .ref q5, .ref q6, .ref q7, .ref q8, .ref q9, .ref q10])), (q4, .inl (cI, 8, .inl (fun _ => 0))), (q42, .inr (7, [.int 0, .long 0, .long 1, .ref q43, .ref q50, .ref q58, .ref q59, .ref q61, .ref q63])), (q43, .inr (0, [.int 0, .int 0, .ref q44, .ref q45, .ref q46, .ref q47, .ref q48, .ref q49])), (q44, .inl (cI, 28, .inl (fun _ => 0))), (q45, .inl (cI, 28, .inl (fun _ => 0))), (q46, .inl (cJ, 28, .inr (.inl (fun _ => 0)))), (q47, .inl (cJ, 28, .inr (.inl (fun _ => 0)))), (q48, .inl (cJ, 28, .inr (.inl (fun _ => 0)))), (q49, .inl (cI, 28, .inl (fun _ => 0))), (q50, .inr (8, [.int 0, .ref q51, .ref q52, .ref q53, .ref q54, .ref q55, .ref q56, .ref q57])), (q51, .inl (cI, 9, .inl (fun _ => 0))), (q52, .inl (cI, 9, .inl (fun _ => 0))), (q53, .inl (cI, 9, .inl (fun _ => 0))), (q54, .inl (cJ, 9, .inr (.inl (fun _ => 0)))), (q59, .inr (4, [.int 0, .ref q60])), (q61, .inr (4, [.int 0, .ref q62])), (q64, .inr (10, [.int 2, .int 0, .int 0, .ref q66, .ref q67, .ref q68, .ref q69, .ref q70, .ref q71, .ref q72, .int 0, .ref q73, .ref q74, .ref q75, .ref q76, .ref q77, .ref q78, .ref q79, .ref q80, .ref q81, .ref q82, .ref q83, .long 0, .int 0, .ref q84, .ref q85, .int 0, .ref q86, .ref q87, .int 0, .int 0, .int 0, .long 0, .long 0, .int 0, .long 0, .long 0, .ref q88, .ref q89, .int 0, .ref q90, .ref q91, .ref q92, .ref q93, .ref q94, .ref q95, .long 0, .long 0])), (q71, .inl (cI, 8, .inl (fun _ => 0))), (q73, .inl (cJ, 28, .inr (.inl (fun _ => 0)))), (q74, .inl (cJ, 28, .inr (.inl (fun _ => 0)))), (q75, .inl (cJ, 28, .inr (.inl (fun _ => 0)))), (q76, .inl (cI, 28, .inl (fun _ => 0))), (q77, .inl (cI, 28, .inl (fun _ => 0))), (q78, .inl (cI, 28, .inl (fun _ => 0))), (q79, .inl (cJ, 8, .inr (.inl (fun _ => 0)))), (q80, .inl (cI, 9, .inl (fun _ => 0))), (q81, .inl (cI, 9, .inl (fun _ => 0))), (q82, .inl (cI, 9, .inl (fun _ => 0))), (q83, .inl (cJ, 9, .inr (.inl (fun _ => 0))))]) (hS : va_S (fun q : Nat => s.heap.size ≤ q) s.heap H locs) (hl : lv_has ls 4 [(3, .int 0), (2, .ref q64), (1, .ref q1), (0, .ref b)]) : W p l e room_1 s m #[Value.ref b] below meth c H locs 93 44360 (lw_Z below #[Value.ref b] s) (F0 m 769 ls []) := by
  obtain ⟨hx, hb, hr, hml, hown0, hts0, hX, hbl, hlocks, hgv⟩ := id C0
  have hown : s.vm.findClass RL = some m.cls := hown0
  have hts : ∀ w ∈ Cond.initialized RX9 :: pf_W, w.before #[Value.ref b] s = true := pf_lawW hts0
  have hA : ∀ q : Nat, s.heap.size ≤ q → (fun q : Nat => s.heap.size ≤ q) q := fun _ h => h
  have hbA : ¬ (fun q : Nat => s.heap.size ≤ q) b := Nat.not_le.mpr hbl
  refine lv_aload_n hx hb dL_law_769 rfl (lv_at hl 2 rfl) ?_
  refine lv_aload_n hx hb dL_law_770 rfl (lv_at hl 3 rfl) ?_
  refine lv_iload_n hx hb dL_law_771 rfl (lv_at hl 0 rfl) ?_
  refine lv_iconst (v := 1) hx hb dL_law_772 (by decide) ?_
  refine lv_iadd hx hb dL_law_773 ?_
  refine pf_topi (v := 1) (by decide +kernel) ?_
  refine va_sld hx hb hX hbl hbA hS (pf_vpin (k := 1) (by decide +kernel) (by decide +kernel) (by decide)) dL_law_774 ?_
  refine pf_topi (v := xs 1) (congrArg xs (by decide +kernel)) ?_
  refine lv_aload_n hx hb dL_law_775 rfl (lv_at hl 3 rfl) ?_
  refine lv_iload_n hx hb dL_law_776 rfl (lv_at hl 0 rfl) ?_
  refine lv_iconst (v := 2) hx hb dL_law_777 (by decide) ?_
  refine lv_iadd hx hb dL_law_778 ?_
  refine pf_topi (v := 2) (by decide +kernel) ?_
  refine va_sld hx hb hX hbl hbA hS (pf_vpin (k := 2) (by decide +kernel) (by decide +kernel) (by decide)) dL_law_779 ?_
  refine pf_topi (v := xs 2) (congrArg xs (by decide +kernel)) ?_
  refine lv_aload_n hx hb dL_law_780 rfl (lv_at hl 3 rfl) ?_
  refine lv_iload_n hx hb dL_law_781 rfl (lv_at hl 0 rfl) ?_
  refine lv_iconst (v := 3) hx hb dL_law_782 (by decide) ?_
  refine lv_iadd hx hb dL_law_783 ?_
  refine pf_topi (v := 3) (by decide +kernel) ?_
  refine va_sld hx hb hX hbl hbA hS (pf_vpin (k := 3) (by decide +kernel) (by decide +kernel) (by decide)) dL_law_784 ?_
  refine pf_topi (v := xs 3) (congrArg xs (by decide +kernel)) ?_
  refine lv_if_eq (tgt := 792) hx hb dL_law_785 (by decide) (fun c0 => ?_) (fun c0 => ?_)
  · skip
    refine lv_iconst (v := 0) hx hb dL_law_792 (by decide) ?_
    have hPc := hP.sub (ws' := [(q1, .inr (9, [.ref q3, .ref q11, .ref q20, .ref q42, .int 0])), (q3, .inr (5, [.int 2, .int 0, .int 0, .ref q4, .ref q5, .ref q6, .ref q7, .ref q8, .ref q9, .ref q10])), (q4, .inl (cI, 8, .inl (fun _ => 0))), (q42, .inr (7, [.int 0, .long 0, .long 1, .ref q43, .ref q50, .ref q58, .ref q59, .ref q61, .ref q63])), (q43, .inr (0, [.int 0, .int 0, .ref q44, .ref q45, .ref q46, .ref q47, .ref q48, .ref q49])), (q44, .inl (cI, 28, .inl (fun _ => 0))), (q45, .inl (cI, 28, .inl (fun _ => 0))), (q46, .inl (cJ, 28, .inr (.inl (fun _ => 0)))), (q47, .inl (cJ, 28, .inr (.inl (fun _ => 0)))), (q48, .inl (cJ, 28, .inr (.inl (fun _ => 0)))), (q49, .inl (cI, 28, .inl (fun _ => 0))), (q50, .inr (8, [.int 0, .ref q51, .ref q52, .ref q53, .ref q54, .ref q55, .ref q56, .ref q57])), (q51, .inl (cI, 9, .inl (fun _ => 0))), (q52, .inl (cI, 9, .inl (fun _ => 0))), (q53, .inl (cI, 9, .inl (fun _ => 0))), (q54, .inl (cJ, 9, .inr (.inl (fun _ => 0)))), (q59, .inr (4, [.int 0, .ref q60])), (q61, .inr (4, [.int 0, .ref q62]))]) [0, 1, 2, 3, 4, 5, 6, 7, 8, 9, 10, 11, 12, 13, 14, 15, 16, 17] rfl
    have hDc := hD.sub (ws' := [(q1, .inr (9, [.ref q3, .ref q11, .ref q20, .ref q42, .int 0])), (q3, .inr (5, [.int 2, .int 0, .int 0, .ref q4, .ref q5, .ref q6, .ref q7, .ref q8, .ref q9, .ref q10])), (q4, .inl (cI, 8, .inl (fun _ => 0))), (q42, .inr (7, [.int 0, .long 0, .long 1, .ref q43, .ref q50, .ref q58, .ref q59, .ref q61, .ref q63])), (q43, .inr (0, [.int 0, .int 0, .ref q44, .ref q45, .ref q46, .ref q47, .ref q48, .ref q49])), (q44, .inl (cI, 28, .inl (fun _ => 0))), (q45, .inl (cI, 28, .inl (fun _ => 0))), (q46, .inl (cJ, 28, .inr (.inl (fun _ => 0)))), (q47, .inl (cJ, 28, .inr (.inl (fun _ => 0)))), (q48, .inl (cJ, 28, .inr (.inl (fun _ => 0)))), (q49, .inl (cI, 28, .inl (fun _ => 0))), (q50, .inr (8, [.int 0, .ref q51, .ref q52, .ref q53, .ref q54, .ref q55, .ref q56, .ref q57])), (q51, .inl (cI, 9, .inl (fun _ => 0))), (q52, .inl (cI, 9, .inl (fun _ => 0))), (q53, .inl (cI, 9, .inl (fun _ => 0))), (q54, .inl (cJ, 9, .inr (.inl (fun _ => 0)))), (q59, .inr (4, [.int 0, .ref q60])), (q61, .inr (4, [.int 0, .ref q62]))]) [0, 1, 2, 3, 4, 5, 6, 7, 8, 9, 10, 11, 12, 13, 14, 15, 16, 17] (by decide +kernel) rfl
    have hFc := va_free (wc := [(q1, .inr (9, [.ref q3, .ref q11, .ref q20, .ref q42, .int 0])), (q3, .inr (5, [.int 2, .int 0, .int 0, .ref q4, .ref q5, .ref q6, .ref q7, .ref q8, .ref q9, .ref q10])), (q4, .inl (cI, 8, .inl (fun _ => 0))), (q42, .inr (7, [.int 0, .long 0, .long 1, .ref q43, .ref q50, .ref q58, .ref q59, .ref q61, .ref q63])), (q43, .inr (0, [.int 0, .int 0, .ref q44, .ref q45, .ref q46, .ref q47, .ref q48, .ref q49])), (q44, .inl (cI, 28, .inl (fun _ => 0))), (q45, .inl (cI, 28, .inl (fun _ => 0))), (q46, .inl (cJ, 28, .inr (.inl (fun _ => 0)))), (q47, .inl (cJ, 28, .inr (.inl (fun _ => 0)))), (q48, .inl (cJ, 28, .inr (.inl (fun _ => 0)))), (q49, .inl (cI, 28, .inl (fun _ => 0))), (q50, .inr (8, [.int 0, .ref q51, .ref q52, .ref q53, .ref q54, .ref q55, .ref q56, .ref q57])), (q51, .inl (cI, 9, .inl (fun _ => 0))), (q52, .inl (cI, 9, .inl (fun _ => 0))), (q53, .inl (cI, 9, .inl (fun _ => 0))), (q54, .inl (cJ, 9, .inr (.inl (fun _ => 0)))), (q59, .inr (4, [.int 0, .ref q60])), (q61, .inr (4, [.int 0, .ref q62]))]) hD hS hA [0, 1, 2, 3, 4, 5, 6, 7, 8, 9, 10, 11, 12, 13, 14, 15, 16, 17] rfl
    refine va_calll (va_runV (As := [.int (xs 1), .int (xs 2), .int 0]) (rest := []) ⟨hx, hb, hml, hown, hts⟩ (c_value l dC dI cI cJ cZ cO H.size q1 ((xs 1)) ((xs 2)) 0 q3 q11 q20 q42 q4 q5 q6 q7 q8 q9 q10 0 0 1 q43 q50 q58 q59 q61 q63 0 0 q44 q45 q46 q47 q48 q49 ((fun _ => 0)) ((fun _ => 0)) ((fun _ => 0)) ((fun _ => 0)) ((fun _ => 0)) ((fun _ => 0)) 0 q51 q52 q53 q54 q55 q56 q57 ((fun _ => 0)) ((fun _ => 0)) ((fun _ => 0)) ((fun _ => 0)) 0 q60 0 q62) (cwV 3 hts (pf_gV mw_637 mw_638 mw_639 mw_50 mw_640) rfl rfl rfl (by decide +kernel) ⟨Nat.le_of_ble_eq_true rfl, Nat.le_of_ble_eq_true rfl⟩) ⟨fun a U g mk q => by obtain ⟨q0, q1, qP, qK, qD⟩ := q; exact ⟨q0, q1, qP, va_K.moved (u := U) (U := U.calling g mk a) (Vm.Alike.refl U.vm) qK, qD⟩, va_recv hK hPc (ci := 9) (q0 := 0) rfl rfl, fun U hU hW => ⟨rfl, by rw [hU], by rw [hU]; exact hPc, va_K.moved hW.alike hK, hDc.weaken (fun _ _ _ _ => trivial)⟩⟩ rfl rfl hl.1 rfl (lv_room (Nat.le_of_ble_eq_true rfl)) dL_law_793 ⟨Nat.le_of_ble_eq_true rfl, Nat.le_of_ble_eq_true rfl⟩) hS (fun q _ h => hFc q h) hFc (fun r1 u t H1 locs ht hvm hw hB hz1 hk1 hS => ?_)
    have hw : (pf_val (xs 1) (xs 2) 0) = r1 := (show r1 = (pf_val (xs 1) (xs 2) 0) from hw).symm
    subst hw
    obtain ⟨hP, hD⟩ := va_join (wr := [(q64, .inr (10, [.int 2, .int 0, .int 0, .ref q66, .ref q67, .ref q68, .ref q69, .ref q70, .ref q71, .ref q72, .int 0, .ref q73, .ref q74, .ref q75, .ref q76, .ref q77, .ref q78, .ref q79, .ref q80, .ref q81, .ref q82, .ref q83, .long 0, .int 0, .ref q84, .ref q85, .int 0, .ref q86, .ref q87, .int 0, .int 0, .int 0, .long 0, .long 0, .int 0, .long 0, .long 0, .ref q88, .ref q89, .int 0, .ref q90, .ref q91, .ref q92, .ref q93, .ref q94, .ref q95, .long 0, .long 0])), (q71, .inl (cI, 8, .inl (fun _ => 0))), (q73, .inl (cJ, 28, .inr (.inl (fun _ => 0)))), (q74, .inl (cJ, 28, .inr (.inl (fun _ => 0)))), (q75, .inl (cJ, 28, .inr (.inl (fun _ => 0)))), (q76, .inl (cI, 28, .inl (fun _ => 0))), (q77, .inl (cI, 28, .inl (fun _ => 0))), (q78, .inl (cI, 28, .inl (fun _ => 0))), (q79, .inl (cJ, 8, .inr (.inl (fun _ => 0)))), (q80, .inl (cI, 9, .inl (fun _ => 0))), (q81, .inl (cI, 9, .inl (fun _ => 0))), (q82, .inl (cI, 9, .inl (fun _ => 0))), (q83, .inl (cJ, 9, .inr (.inl (fun _ => 0))))]) (w1 := []) hP hD [0, 1, 2, 3, 4, 5, 6, 7, 8, 9, 10, 11, 12, 13, 14, 15, 16, 17] [18, 19, 20, 21, 22, 23, 24, 25, 26, 27, 28, 29, 30] rfl rfl (by decide +kernel) (by decide +kernel) hk1 hFc pf_Pn pf_Dn
    clear hPc hDc hFc hk1 hz1
    generalize H1 = H at hP hS ⊢
    have hP : va_P (dC, dI) pf_cls [(q64, .inr (10, [.int 2, .int 0, .int 0, .ref q66, .ref q67, .ref q68, .ref q69, .ref q70, .ref q71, .ref q72, .int 0, .ref q73, .ref q74, .ref q75, .ref q76, .ref q77, .ref q78, .ref q79, .ref q80, .ref q81, .ref q82, .ref q83, .long 0, .int 0, .ref q84, .ref q85, .int 0, .ref q86, .ref q87, .int 0, .int 0, .int 0, .long 0, .long 0, .int 0, .long 0, .long 0, .ref q88, .ref q89, .int 0, .ref q90, .ref q91, .ref q92, .ref q93, .ref q94, .ref q95, .long 0, .long 0])), (q71, .inl (cI, 8, .inl (fun _ => 0))), (q73, .inl (cJ, 28, .inr (.inl (fun _ => 0)))), (q74, .inl (cJ, 28, .inr (.inl (fun _ => 0)))), (q75, .inl (cJ, 28, .inr (.inl (fun _ => 0)))), (q76, .inl (cI, 28, .inl (fun _ => 0))), (q77, .inl (cI, 28, .inl (fun _ => 0))), (q78, .inl (cI, 28, .inl (fun _ => 0))), (q79, .inl (cJ, 8, .inr (.inl (fun _ => 0)))), (q80, .inl (cI, 9, .inl (fun _ => 0))), (q81, .inl (cI, 9, .inl (fun _ => 0))), (q82, .inl (cI, 9, .inl (fun _ => 0))), (q83, .inl (cJ, 9, .inr (.inl (fun _ => 0))))] H := hP
    have hD : va_D (fun q : Nat => s.heap.size ≤ q) [(q64, .inr (10, [.int 2, .int 0, .int 0, .ref q66, .ref q67, .ref q68, .ref q69, .ref q70, .ref q71, .ref q72, .int 0, .ref q73, .ref q74, .ref q75, .ref q76, .ref q77, .ref q78, .ref q79, .ref q80, .ref q81, .ref q82, .ref q83, .long 0, .int 0, .ref q84, .ref q85, .int 0, .ref q86, .ref q87, .int 0, .int 0, .int 0, .long 0, .long 0, .int 0, .long 0, .long 0, .ref q88, .ref q89, .int 0, .ref q90, .ref q91, .ref q92, .ref q93, .ref q94, .ref q95, .long 0, .long 0])), (q71, .inl (cI, 8, .inl (fun _ => 0))), (q73, .inl (cJ, 28, .inr (.inl (fun _ => 0)))), (q74, .inl (cJ, 28, .inr (.inl (fun _ => 0)))), (q75, .inl (cJ, 28, .inr (.inl (fun _ => 0)))), (q76, .inl (cI, 28, .inl (fun _ => 0))), (q77, .inl (cI, 28, .inl (fun _ => 0))), (q78, .inl (cI, 28, .inl (fun _ => 0))), (q79, .inl (cJ, 8, .inr (.inl (fun _ => 0)))), (q80, .inl (cI, 9, .inl (fun _ => 0))), (q81, .inl (cI, 9, .inl (fun _ => 0))), (q82, .inl (cI, 9, .inl (fun _ => 0))), (q83, .inl (cJ, 9, .inr (.inl (fun _ => 0))))] := hD
    refine lv_aload_n hx hb dL_law_796 rfl (lv_at hl 1 rfl) ?_
    refine lv_aload_n hx hb dL_law_797 rfl (lv_at hl 3 rfl) ?_
    refine lv_iload_n hx hb dL_law_798 rfl (lv_at hl 0 rfl) ?_
    refine lv_iconst (v := 1) hx hb dL_law_799 (by decide) ?_
    refine lv_iadd hx hb dL_law_800 ?_
    refine pf_topi (v := 1) (by decide +kernel) ?_
    refine va_sld hx hb hX hbl hbA hS (pf_vpin (k := 1) (by decide +kernel) (by decide +kernel) (by decide)) dL_law_801 ?_
    refine pf_topi (v := xs 1) (congrArg xs (by decide +kernel)) ?_
    refine lv_aload_n hx hb dL_law_802 rfl (lv_at hl 3 rfl) ?_
    refine lv_iload_n hx hb dL_law_803 rfl (lv_at hl 0 rfl) ?_
    refine lv_iconst (v := 2) hx hb dL_law_804 (by decide) ?_
    refine lv_iadd hx hb dL_law_805 ?_
    refine pf_topi (v := 2) (by decide +kernel) ?_
    refine va_sld hx hb hX hbl hbA hS (pf_vpin (k := 2) (by decide +kernel) (by decide +kernel) (by decide)) dL_law_806 ?_
    refine pf_topi (v := xs 2) (congrArg xs (by decide +kernel)) ?_
    refine lv_aload_n hx hb dL_law_807 rfl (lv_at hl 3 rfl) ?_
    refine lv_iload_n hx hb dL_law_808 rfl (lv_at hl 0 rfl) ?_
    refine lv_iconst (v := 3) hx hb dL_law_809 (by decide) ?_
    refine lv_iadd hx hb dL_law_810 ?_
    refine pf_topi (v := 3) (by decide +kernel) ?_
    refine va_sld hx hb hX hbl hbA hS (pf_vpin (k := 3) (by decide +kernel) (by decide +kernel) (by decide)) dL_law_811 ?_
    refine pf_topi (v := xs 3) (congrArg xs (by decide +kernel)) ?_
    refine lv_if_eq (tgt := 819) hx hb dL_law_812 (by decide) (fun _ => ?_) (fun c2 => absurd c0 c2)
    refine lv_iconst (v := 0) hx hb dL_law_819 (by decide) ?_
    have hPc := hP.sub (ws' := [(q64, .inr (10, [.int 2, .int 0, .int 0, .ref q66, .ref q67, .ref q68, .ref q69, .ref q70, .ref q71, .ref q72, .int 0, .ref q73, .ref q74, .ref q75, .ref q76, .ref q77, .ref q78, .ref q79, .ref q80, .ref q81, .ref q82, .ref q83, .long 0, .int 0, .ref q84, .ref q85, .int 0, .ref q86, .ref q87, .int 0, .int 0, .int 0, .long 0, .long 0, .int 0, .long 0, .long 0, .ref q88, .ref q89, .int 0, .ref q90, .ref q91, .ref q92, .ref q93, .ref q94, .ref q95, .long 0, .long 0])), (q71, .inl (cI, 8, .inl (fun _ => 0))), (q73, .inl (cJ, 28, .inr (.inl (fun _ => 0)))), (q74, .inl (cJ, 28, .inr (.inl (fun _ => 0)))), (q75, .inl (cJ, 28, .inr (.inl (fun _ => 0)))), (q76, .inl (cI, 28, .inl (fun _ => 0))), (q77, .inl (cI, 28, .inl (fun _ => 0))), (q78, .inl (cI, 28, .inl (fun _ => 0))), (q79, .inl (cJ, 8, .inr (.inl (fun _ => 0)))), (q80, .inl (cI, 9, .inl (fun _ => 0))), (q81, .inl (cI, 9, .inl (fun _ => 0))), (q82, .inl (cI, 9, .inl (fun _ => 0))), (q83, .inl (cJ, 9, .inr (.inl (fun _ => 0))))]) [0, 1, 2, 3, 4, 5, 6, 7, 8, 9, 10, 11, 12] rfl
    have hDc := hD.sub (ws' := [(q64, .inr (10, [.int 2, .int 0, .int 0, .ref q66, .ref q67, .ref q68, .ref q69, .ref q70, .ref q71, .ref q72, .int 0, .ref q73, .ref q74, .ref q75, .ref q76, .ref q77, .ref q78, .ref q79, .ref q80, .ref q81, .ref q82, .ref q83, .long 0, .int 0, .ref q84, .ref q85, .int 0, .ref q86, .ref q87, .int 0, .int 0, .int 0, .long 0, .long 0, .int 0, .long 0, .long 0, .ref q88, .ref q89, .int 0, .ref q90, .ref q91, .ref q92, .ref q93, .ref q94, .ref q95, .long 0, .long 0])), (q71, .inl (cI, 8, .inl (fun _ => 0))), (q73, .inl (cJ, 28, .inr (.inl (fun _ => 0)))), (q74, .inl (cJ, 28, .inr (.inl (fun _ => 0)))), (q75, .inl (cJ, 28, .inr (.inl (fun _ => 0)))), (q76, .inl (cI, 28, .inl (fun _ => 0))), (q77, .inl (cI, 28, .inl (fun _ => 0))), (q78, .inl (cI, 28, .inl (fun _ => 0))), (q79, .inl (cJ, 8, .inr (.inl (fun _ => 0)))), (q80, .inl (cI, 9, .inl (fun _ => 0))), (q81, .inl (cI, 9, .inl (fun _ => 0))), (q82, .inl (cI, 9, .inl (fun _ => 0))), (q83, .inl (cJ, 9, .inr (.inl (fun _ => 0))))]) [0, 1, 2, 3, 4, 5, 6, 7, 8, 9, 10, 11, 12] (by decide +kernel) rfl
    have hFc := va_free (wc := [(q64, .inr (10, [.int 2, .int 0, .int 0, .ref q66, .ref q67, .ref q68, .ref q69, .ref q70, .ref q71, .ref q72, .int 0, .ref q73, .ref q74, .ref q75, .ref q76, .ref q77, .ref q78, .ref q79, .ref q80, .ref q81, .ref q82, .ref q83, .long 0, .int 0, .ref q84, .ref q85, .int 0, .ref q86, .ref q87, .int 0, .int 0, .int 0, .long 0, .long 0, .int 0, .long 0, .long 0, .ref q88, .ref q89, .int 0, .ref q90, .ref q91, .ref q92, .ref q93, .ref q94, .ref q95, .long 0, .long 0])), (q71, .inl (cI, 8, .inl (fun _ => 0))), (q73, .inl (cJ, 28, .inr (.inl (fun _ => 0)))), (q74, .inl (cJ, 28, .inr (.inl (fun _ => 0)))), (q75, .inl (cJ, 28, .inr (.inl (fun _ => 0)))), (q76, .inl (cI, 28, .inl (fun _ => 0))), (q77, .inl (cI, 28, .inl (fun _ => 0))), (q78, .inl (cI, 28, .inl (fun _ => 0))), (q79, .inl (cJ, 8, .inr (.inl (fun _ => 0)))), (q80, .inl (cI, 9, .inl (fun _ => 0))), (q81, .inl (cI, 9, .inl (fun _ => 0))), (q82, .inl (cI, 9, .inl (fun _ => 0))), (q83, .inl (cJ, 9, .inr (.inl (fun _ => 0))))]) hD hS hA [0, 1, 2, 3, 4, 5, 6, 7, 8, 9, 10, 11, 12] rfl
    refine va_calll (va_runV (As := [.int (xs 1), .int (xs 2), .int 0]) (rest := [.long (pf_val (xs 1) (xs 2) 0)]) ⟨hx, hb, hml, hown, hts⟩ (c_m_value l dC dI cI cJ cZ cO H.size q64 ((xs 1)) ((xs 2)) 0 q66 q67 q68 q69 q70 q71 q72 q73 q74 q75 q76 q77 q78 q79 q80 q81 q82 q83 q84 q85 q86 q87 q88 q89 q90 q91 q92 q93 q94 q95 ((fun _ => 0)) ((fun _ => 0)) ((fun _ => 0)) ((fun _ => 0)) ((fun _ => 0)) ((fun _ => 0)) ((fun _ => 0)) ((fun _ => 0)) ((fun _ => 0)) ((fun _ => 0)) ((fun _ => 0))) (cwV 3 hts (pf_gV mw_641 mw_642 mw_643 mw_346 mw_644) rfl rfl rfl (by decide +kernel) ⟨Nat.le_of_ble_eq_true rfl, Nat.le_of_ble_eq_true rfl⟩) ⟨fun a U g mk q => by obtain ⟨q0, q1, qP, qK, qD⟩ := q; exact ⟨q0, q1, qP, va_K.moved (u := U) (U := U.calling g mk a) (Vm.Alike.refl U.vm) qK, qD⟩, va_recv hK hPc (ci := 10) (q0 := 0) rfl rfl, fun U hU hW => ⟨rfl, by rw [hU], by rw [hU]; exact hPc, va_K.moved hW.alike hK, hDc.weaken (fun _ _ _ _ => trivial)⟩⟩ rfl rfl hl.1 rfl (lv_room (Nat.le_of_ble_eq_true rfl)) dL_law_820 ⟨Nat.le_of_ble_eq_true rfl, Nat.le_of_ble_eq_true rfl⟩) hS (fun q _ h => hFc q h) hFc (fun r3 u t H1 locs ht hvm hw hB hz1 hk1 hS => ?_)
    have hw : (pf_val (xs 1) (xs 2) 0) = r3 := (show r3 = (pf_val (xs 1) (xs 2) 0) from hw).symm
    subst hw
    obtain ⟨hP, hD⟩ := va_join (wr := []) (w1 := []) hP hD [0, 1, 2, 3, 4, 5, 6, 7, 8, 9, 10, 11, 12] [] rfl rfl (by decide +kernel) (by decide +kernel) hk1 hFc pf_Pn pf_Dn
    clear hPc hDc hFc hk1 hz1
    generalize H1 = H at hP hS ⊢
    have hP : va_P (dC, dI) pf_cls [] H := hP
    have hD : va_D (fun q : Nat => s.heap.size ≤ q) [] := hD
    refine W.lcmp hx hb dL_law_823 ?_
    refine pf_topi (v := 0) (pf_cmp_self _) ?_
    refine lv_if_eq (tgt := 1009) hx hb dL_law_824 (by decide) (fun _ => ?_) (fun c4 => absurd (by decide +kernel) c4)
    refine lv_iinc (v := 6) (lv' := [(3, .int 6), (2, .ref q64), (1, .ref q1), (0, .ref b)]) hx hb dL_law_1009 hl (k := 0) rfl (by decide +kernel) (by decide) rfl (fun ls hl => ?_)
    refine lv_goto (tgt := 18) hx hb dL_law_1012 (by decide) ?_
    refine lv_iload_n hx hb dL_law_18 rfl (lv_at hl 0 rfl) ?_
    refine lv_aload_n hx hb dL_law_19 rfl (lv_at hl 3 rfl) ?_
    refine va_slen hx hb hX hbl hbA hS dL_law_20 ?_
    refine pf_topi (v := 6) (by decide +kernel) ?_
    refine lv_bipush (v := 6) hx hb dL_law_21 (by decide +kernel) ?_
    refine lv_isub hx hb dL_law_23 ?_
    refine pf_topi (v := 0) (by decide +kernel) ?_
    refine lv_icmp_gt (tgt := 1015) hx hb dL_law_24 (by decide) (fun _ => ?_) (fun c5 => absurd (by decide +kernel) c5)
    refine lv_iconst (v := 1) hx hb dL_law_1015 (by decide) ?_
    refine va_forget (fun q hq => hS.2.2 q hq) ?_
    refine W.widen (k := 600000) (n := 7302250) (Nat.le_of_ble_eq_true rfl) (Nat.le_of_ble_eq_true rfl) ?_
    exact lw_ret hx hb hr hlocks dL_law_1016
  · skip
    refine lv_iconst (v := 1) hx hb dL_law_788 (by decide) ?_
    refine lv_goto (tgt := 793) hx hb dL_law_789 (by decide) ?_
    have hPc := hP.sub (ws' := [(q1, .inr (9, [.ref q3, .ref q11, .ref q20, .ref q42, .int 0])), (q3, .inr (5, [.int 2, .int 0, .int 0, .ref q4, .ref q5, .ref q6, .ref q7, .ref q8, .ref q9, .ref q10])), (q4, .inl (cI, 8, .inl (fun _ => 0))), (q42, .inr (7, [.int 0, .long 0, .long 1, .ref q43, .ref q50, .ref q58, .ref q59, .ref q61, .ref q63])), (q43, .inr (0, [.int 0, .int 0, .ref q44, .ref q45, .ref q46, .ref q47, .ref q48, .ref q49])), (q44, .inl (cI, 28, .inl (fun _ => 0))), (q45, .inl (cI, 28, .inl (fun _ => 0))), (q46, .inl (cJ, 28, .inr (.inl (fun _ => 0)))), (q47, .inl (cJ, 28, .inr (.inl (fun _ => 0)))), (q48, .inl (cJ, 28, .inr (.inl (fun _ => 0)))), (q49, .inl (cI, 28, .inl (fun _ => 0))), (q50, .inr (8, [.int 0, .ref q51, .ref q52, .ref q53, .ref q54, .ref q55, .ref q56, .ref q57])), (q51, .inl (cI, 9, .inl (fun _ => 0))), (q52, .inl (cI, 9, .inl (fun _ => 0))), (q53, .inl (cI, 9, .inl (fun _ => 0))), (q54, .inl (cJ, 9, .inr (.inl (fun _ => 0)))), (q59, .inr (4, [.int 0, .ref q60])), (q61, .inr (4, [.int 0, .ref q62]))]) [0, 1, 2, 3, 4, 5, 6, 7, 8, 9, 10, 11, 12, 13, 14, 15, 16, 17] rfl
    have hDc := hD.sub (ws' := [(q1, .inr (9, [.ref q3, .ref q11, .ref q20, .ref q42, .int 0])), (q3, .inr (5, [.int 2, .int 0, .int 0, .ref q4, .ref q5, .ref q6, .ref q7, .ref q8, .ref q9, .ref q10])), (q4, .inl (cI, 8, .inl (fun _ => 0))), (q42, .inr (7, [.int 0, .long 0, .long 1, .ref q43, .ref q50, .ref q58, .ref q59, .ref q61, .ref q63])), (q43, .inr (0, [.int 0, .int 0, .ref q44, .ref q45, .ref q46, .ref q47, .ref q48, .ref q49])), (q44, .inl (cI, 28, .inl (fun _ => 0))), (q45, .inl (cI, 28, .inl (fun _ => 0))), (q46, .inl (cJ, 28, .inr (.inl (fun _ => 0)))), (q47, .inl (cJ, 28, .inr (.inl (fun _ => 0)))), (q48, .inl (cJ, 28, .inr (.inl (fun _ => 0)))), (q49, .inl (cI, 28, .inl (fun _ => 0))), (q50, .inr (8, [.int 0, .ref q51, .ref q52, .ref q53, .ref q54, .ref q55, .ref q56, .ref q57])), (q51, .inl (cI, 9, .inl (fun _ => 0))), (q52, .inl (cI, 9, .inl (fun _ => 0))), (q53, .inl (cI, 9, .inl (fun _ => 0))), (q54, .inl (cJ, 9, .inr (.inl (fun _ => 0)))), (q59, .inr (4, [.int 0, .ref q60])), (q61, .inr (4, [.int 0, .ref q62]))]) [0, 1, 2, 3, 4, 5, 6, 7, 8, 9, 10, 11, 12, 13, 14, 15, 16, 17] (by decide +kernel) rfl
    have hFc := va_free (wc := [(q1, .inr (9, [.ref q3, .ref q11, .ref q20, .ref q42, .int 0])), (q3, .inr (5, [.int 2, .int 0, .int 0, .ref q4, .ref q5, .ref q6, .ref q7, .ref q8, .ref q9, .ref q10])), (q4, .inl (cI, 8, .inl (fun _ => 0))), (q42, .inr (7, [.int 0, .long 0, .long 1, .ref q43, .ref q50, .ref q58, .ref q59, .ref q61, .ref q63])), (q43, .inr (0, [.int 0, .int 0, .ref q44, .ref q45, .ref q46, .ref q47, .ref q48, .ref q49])), (q44, .inl (cI, 28, .inl (fun _ => 0))), (q45, .inl (cI, 28, .inl (fun _ => 0))), (q46, .inl (cJ, 28, .inr (.inl (fun _ => 0)))), (q47, .inl (cJ, 28, .inr (.inl (fun _ => 0)))), (q48, .inl (cJ, 28, .inr (.inl (fun _ => 0)))), (q49, .inl (cI, 28, .inl (fun _ => 0))), (q50, .inr (8, [.int 0, .ref q51, .ref q52, .ref q53, .ref q54, .ref q55, .ref q56, .ref q57])), (q51, .inl (cI, 9, .inl (fun _ => 0))), (q52, .inl (cI, 9, .inl (fun _ => 0))), (q53, .inl (cI, 9, .inl (fun _ => 0))), (q54, .inl (cJ, 9, .inr (.inl (fun _ => 0)))), (q59, .inr (4, [.int 0, .ref q60])), (q61, .inr (4, [.int 0, .ref q62]))]) hD hS hA [0, 1, 2, 3, 4, 5, 6, 7, 8, 9, 10, 11, 12, 13, 14, 15, 16, 17] rfl
    refine va_calll (va_runV (As := [.int (xs 1), .int (xs 2), .int 1]) (rest := []) ⟨hx, hb, hml, hown, hts⟩ (c_value l dC dI cI cJ cZ cO H.size q1 ((xs 1)) ((xs 2)) 1 q3 q11 q20 q42 q4 q5 q6 q7 q8 q9 q10 0 0 1 q43 q50 q58 q59 q61 q63 0 0 q44 q45 q46 q47 q48 q49 ((fun _ => 0)) ((fun _ => 0)) ((fun _ => 0)) ((fun _ => 0)) ((fun _ => 0)) ((fun _ => 0)) 0 q51 q52 q53 q54 q55 q56 q57 ((fun _ => 0)) ((fun _ => 0)) ((fun _ => 0)) ((fun _ => 0)) 0 q60 0 q62) (cwV 3 hts (pf_gV mw_637 mw_638 mw_639 mw_50 mw_640) rfl rfl rfl (by decide +kernel) ⟨Nat.le_of_ble_eq_true rfl, Nat.le_of_ble_eq_true rfl⟩) ⟨fun a U g mk q => by obtain ⟨q0, q1, qP, qK, qD⟩ := q; exact ⟨q0, q1, qP, va_K.moved (u := U) (U := U.calling g mk a) (Vm.Alike.refl U.vm) qK, qD⟩, va_recv hK hPc (ci := 9) (q0 := 0) rfl rfl, fun U hU hW => ⟨rfl, by rw [hU], by rw [hU]; exact hPc, va_K.moved hW.alike hK, hDc.weaken (fun _ _ _ _ => trivial)⟩⟩ rfl rfl hl.1 rfl (lv_room (Nat.le_of_ble_eq_true rfl)) dL_law_793 ⟨Nat.le_of_ble_eq_true rfl, Nat.le_of_ble_eq_true rfl⟩) hS (fun q _ h => hFc q h) hFc (fun r6 u t H1 locs ht hvm hw hB hz1 hk1 hS => ?_)
    have hw : (pf_val (xs 1) (xs 2) 1) = r6 := (show r6 = (pf_val (xs 1) (xs 2) 1) from hw).symm
    subst hw
    obtain ⟨hP, hD⟩ := va_join (wr := [(q64, .inr (10, [.int 2, .int 0, .int 0, .ref q66, .ref q67, .ref q68, .ref q69, .ref q70, .ref q71, .ref q72, .int 0, .ref q73, .ref q74, .ref q75, .ref q76, .ref q77, .ref q78, .ref q79, .ref q80, .ref q81, .ref q82, .ref q83, .long 0, .int 0, .ref q84, .ref q85, .int 0, .ref q86, .ref q87, .int 0, .int 0, .int 0, .long 0, .long 0, .int 0, .long 0, .long 0, .ref q88, .ref q89, .int 0, .ref q90, .ref q91, .ref q92, .ref q93, .ref q94, .ref q95, .long 0, .long 0])), (q71, .inl (cI, 8, .inl (fun _ => 0))), (q73, .inl (cJ, 28, .inr (.inl (fun _ => 0)))), (q74, .inl (cJ, 28, .inr (.inl (fun _ => 0)))), (q75, .inl (cJ, 28, .inr (.inl (fun _ => 0)))), (q76, .inl (cI, 28, .inl (fun _ => 0))), (q77, .inl (cI, 28, .inl (fun _ => 0))), (q78, .inl (cI, 28, .inl (fun _ => 0))), (q79, .inl (cJ, 8, .inr (.inl (fun _ => 0)))), (q80, .inl (cI, 9, .inl (fun _ => 0))), (q81, .inl (cI, 9, .inl (fun _ => 0))), (q82, .inl (cI, 9, .inl (fun _ => 0))), (q83, .inl (cJ, 9, .inr (.inl (fun _ => 0))))]) (w1 := []) hP hD [0, 1, 2, 3, 4, 5, 6, 7, 8, 9, 10, 11, 12, 13, 14, 15, 16, 17] [18, 19, 20, 21, 22, 23, 24, 25, 26, 27, 28, 29, 30] rfl rfl (by decide +kernel) (by decide +kernel) hk1 hFc pf_Pn pf_Dn
    clear hPc hDc hFc hk1 hz1
    generalize H1 = H at hP hS ⊢
    have hP : va_P (dC, dI) pf_cls [(q64, .inr (10, [.int 2, .int 0, .int 0, .ref q66, .ref q67, .ref q68, .ref q69, .ref q70, .ref q71, .ref q72, .int 0, .ref q73, .ref q74, .ref q75, .ref q76, .ref q77, .ref q78, .ref q79, .ref q80, .ref q81, .ref q82, .ref q83, .long 0, .int 0, .ref q84, .ref q85, .int 0, .ref q86, .ref q87, .int 0, .int 0, .int 0, .long 0, .long 0, .int 0, .long 0, .long 0, .ref q88, .ref q89, .int 0, .ref q90, .ref q91, .ref q92, .ref q93, .ref q94, .ref q95, .long 0, .long 0])), (q71, .inl (cI, 8, .inl (fun _ => 0))), (q73, .inl (cJ, 28, .inr (.inl (fun _ => 0)))), (q74, .inl (cJ, 28, .inr (.inl (fun _ => 0)))), (q75, .inl (cJ, 28, .inr (.inl (fun _ => 0)))), (q76, .inl (cI, 28, .inl (fun _ => 0))), (q77, .inl (cI, 28, .inl (fun _ => 0))), (q78, .inl (cI, 28, .inl (fun _ => 0))), (q79, .inl (cJ, 8, .inr (.inl (fun _ => 0)))), (q80, .inl (cI, 9, .inl (fun _ => 0))), (q81, .inl (cI, 9, .inl (fun _ => 0))), (q82, .inl (cI, 9, .inl (fun _ => 0))), (q83, .inl (cJ, 9, .inr (.inl (fun _ => 0))))] H := hP
    have hD : va_D (fun q : Nat => s.heap.size ≤ q) [(q64, .inr (10, [.int 2, .int 0, .int 0, .ref q66, .ref q67, .ref q68, .ref q69, .ref q70, .ref q71, .ref q72, .int 0, .ref q73, .ref q74, .ref q75, .ref q76, .ref q77, .ref q78, .ref q79, .ref q80, .ref q81, .ref q82, .ref q83, .long 0, .int 0, .ref q84, .ref q85, .int 0, .ref q86, .ref q87, .int 0, .int 0, .int 0, .long 0, .long 0, .int 0, .long 0, .long 0, .ref q88, .ref q89, .int 0, .ref q90, .ref q91, .ref q92, .ref q93, .ref q94, .ref q95, .long 0, .long 0])), (q71, .inl (cI, 8, .inl (fun _ => 0))), (q73, .inl (cJ, 28, .inr (.inl (fun _ => 0)))), (q74, .inl (cJ, 28, .inr (.inl (fun _ => 0)))), (q75, .inl (cJ, 28, .inr (.inl (fun _ => 0)))), (q76, .inl (cI, 28, .inl (fun _ => 0))), (q77, .inl (cI, 28, .inl (fun _ => 0))), (q78, .inl (cI, 28, .inl (fun _ => 0))), (q79, .inl (cJ, 8, .inr (.inl (fun _ => 0)))), (q80, .inl (cI, 9, .inl (fun _ => 0))), (q81, .inl (cI, 9, .inl (fun _ => 0))), (q82, .inl (cI, 9, .inl (fun _ => 0))), (q83, .inl (cJ, 9, .inr (.inl (fun _ => 0))))] := hD
    refine lv_aload_n hx hb dL_law_796 rfl (lv_at hl 1 rfl) ?_
    refine lv_aload_n hx hb dL_law_797 rfl (lv_at hl 3 rfl) ?_
    refine lv_iload_n hx hb dL_law_798 rfl (lv_at hl 0 rfl) ?_
    refine lv_iconst (v := 1) hx hb dL_law_799 (by decide) ?_
    refine lv_iadd hx hb dL_law_800 ?_
    refine pf_topi (v := 1) (by decide +kernel) ?_
    refine va_sld hx hb hX hbl hbA hS (pf_vpin (k := 1) (by decide +kernel) (by decide +kernel) (by decide)) dL_law_801 ?_
    refine pf_topi (v := xs 1) (congrArg xs (by decide +kernel)) ?_
    refine lv_aload_n hx hb dL_law_802 rfl (lv_at hl 3 rfl) ?_
    refine lv_iload_n hx hb dL_law_803 rfl (lv_at hl 0 rfl) ?_
    refine lv_iconst (v := 2) hx hb dL_law_804 (by decide) ?_
    refine lv_iadd hx hb dL_law_805 ?_
    refine pf_topi (v := 2) (by decide +kernel) ?_
    refine va_sld hx hb hX hbl hbA hS (pf_vpin (k := 2) (by decide +kernel) (by decide +kernel) (by decide)) dL_law_806 ?_
    refine pf_topi (v := xs 2) (congrArg xs (by decide +kernel)) ?_
    refine lv_aload_n hx hb dL_law_807 rfl (lv_at hl 3 rfl) ?_
    refine lv_iload_n hx hb dL_law_808 rfl (lv_at hl 0 rfl) ?_
    refine lv_iconst (v := 3) hx hb dL_law_809 (by decide) ?_
    refine lv_iadd hx hb dL_law_810 ?_
    refine pf_topi (v := 3) (by decide +kernel) ?_
    refine va_sld hx hb hX hbl hbA hS (pf_vpin (k := 3) (by decide +kernel) (by decide +kernel) (by decide)) dL_law_811 ?_
    refine pf_topi (v := xs 3) (congrArg xs (by decide +kernel)) ?_
    refine lv_if_eq (tgt := 819) hx hb dL_law_812 (by decide) (fun c7 => absurd c7 c0) (fun _ => ?_)
    refine lv_iconst (v := 1) hx hb dL_law_815 (by decide) ?_
    refine lv_goto (tgt := 820) hx hb dL_law_816 (by decide) ?_
    have hPc := hP.sub (ws' := [(q64, .inr (10, [.int 2, .int 0, .int 0, .ref q66, .ref q67, .ref q68, .ref q69, .ref q70, .ref q71, .ref q72, .int 0, .ref q73, .ref q74, .ref q75, .ref q76, .ref q77, .ref q78, .ref q79, .ref q80, .ref q81, .ref q82, .ref q83, .long 0, .int 0, .ref q84, .ref q85, .int 0, .ref q86, .ref q87, .int 0, .int 0, .int 0, .long 0, .long 0, .int 0, .long 0, .long 0, .ref q88, .ref q89, .int 0, .ref q90, .ref q91, .ref q92, .ref q93, .ref q94, .ref q95, .long 0, .long 0])), (q71, .inl (cI, 8, .inl (fun _ => 0))), (q73, .inl (cJ, 28, .inr (.inl (fun _ => 0)))), (q74, .inl (cJ, 28, .inr (.inl (fun _ => 0)))), (q75, .inl (cJ, 28, .inr (.inl (fun _ => 0)))), (q76, .inl (cI, 28, .inl (fun _ => 0))), (q77, .inl (cI, 28, .inl (fun _ => 0))), (q78, .inl (cI, 28, .inl (fun _ => 0))), (q79, .inl (cJ, 8, .inr (.inl (fun _ => 0)))), (q80, .inl (cI, 9, .inl (fun _ => 0))), (q81, .inl (cI, 9, .inl (fun _ => 0))), (q82, .inl (cI, 9, .inl (fun _ => 0))), (q83, .inl (cJ, 9, .inr (.inl (fun _ => 0))))]) [0, 1, 2, 3, 4, 5, 6, 7, 8, 9, 10, 11, 12] rfl
    have hDc := hD.sub (ws' := [(q64, .inr (10, [.int 2, .int 0, .int 0, .ref q66, .ref q67, .ref q68, .ref q69, .ref q70, .ref q71, .ref q72, .int 0, .ref q73, .ref q74, .ref q75, .ref q76, .ref q77, .ref q78, .ref q79, .ref q80, .ref q81, .ref q82, .ref q83, .long 0, .int 0, .ref q84, .ref q85, .int 0, .ref q86, .ref q87, .int 0, .int 0, .int 0, .long 0, .long 0, .int 0, .long 0, .long 0, .ref q88, .ref q89, .int 0, .ref q90, .ref q91, .ref q92, .ref q93, .ref q94, .ref q95, .long 0, .long 0])), (q71, .inl (cI, 8, .inl (fun _ => 0))), (q73, .inl (cJ, 28, .inr (.inl (fun _ => 0)))), (q74, .inl (cJ, 28, .inr (.inl (fun _ => 0)))), (q75, .inl (cJ, 28, .inr (.inl (fun _ => 0)))), (q76, .inl (cI, 28, .inl (fun _ => 0))), (q77, .inl (cI, 28, .inl (fun _ => 0))), (q78, .inl (cI, 28, .inl (fun _ => 0))), (q79, .inl (cJ, 8, .inr (.inl (fun _ => 0)))), (q80, .inl (cI, 9, .inl (fun _ => 0))), (q81, .inl (cI, 9, .inl (fun _ => 0))), (q82, .inl (cI, 9, .inl (fun _ => 0))), (q83, .inl (cJ, 9, .inr (.inl (fun _ => 0))))]) [0, 1, 2, 3, 4, 5, 6, 7, 8, 9, 10, 11, 12] (by decide +kernel) rfl
    have hFc := va_free (wc := [(q64, .inr (10, [.int 2, .int 0, .int 0, .ref q66, .ref q67, .ref q68, .ref q69, .ref q70, .ref q71, .ref q72, .int 0, .ref q73, .ref q74, .ref q75, .ref q76, .ref q77, .ref q78, .ref q79, .ref q80, .ref q81, .ref q82, .ref q83, .long 0, .int 0, .ref q84, .ref q85, .int 0, .ref q86, .ref q87, .int 0, .int 0, .int 0, .long 0, .long 0, .int 0, .long 0, .long 0, .ref q88, .ref q89, .int 0, .ref q90, .ref q91, .ref q92, .ref q93, .ref q94, .ref q95, .long 0, .long 0])), (q71, .inl (cI, 8, .inl (fun _ => 0))), (q73, .inl (cJ, 28, .inr (.inl (fun _ => 0)))), (q74, .inl (cJ, 28, .inr (.inl (fun _ => 0)))), (q75, .inl (cJ, 28, .inr (.inl (fun _ => 0)))), (q76, .inl (cI, 28, .inl (fun _ => 0))), (q77, .inl (cI, 28, .inl (fun _ => 0))), (q78, .inl (cI, 28, .inl (fun _ => 0))), (q79, .inl (cJ, 8, .inr (.inl (fun _ => 0)))), (q80, .inl (cI, 9, .inl (fun _ => 0))), (q81, .inl (cI, 9, .inl (fun _ => 0))), (q82, .inl (cI, 9, .inl (fun _ => 0))), (q83, .inl (cJ, 9, .inr (.inl (fun _ => 0))))]) hD hS hA [0, 1, 2, 3, 4, 5, 6, 7, 8, 9, 10, 11, 12] rfl
    refine va_calll (va_runV (As := [.int (xs 1), .int (xs 2), .int 1]) (rest := [.long (pf_val (xs 1) (xs 2) 1)]) ⟨hx, hb, hml, hown, hts⟩ (c_m_value l dC dI cI cJ cZ cO H.size q64 ((xs 1)) ((xs 2)) 1 q66 q67 q68 q69 q70 q71 q72 q73 q74 q75 q76 q77 q78 q79 q80 q81 q82 q83 q84 q85 q86 q87 q88 q89 q90 q91 q92 q93 q94 q95 ((fun _ => 0)) ((fun _ => 0)) ((fun _ => 0)) ((fun _ => 0)) ((fun _ => 0)) ((fun _ => 0)) ((fun _ => 0)) ((fun _ => 0)) ((fun _ => 0)) ((fun _ => 0)) ((fun _ => 0))) (cwV 3 hts (pf_gV mw_641 mw_642 mw_643 mw_346 mw_644) rfl rfl rfl (by decide +kernel) ⟨Nat.le_of_ble_eq_true rfl, Nat.le_of_ble_eq_true rfl⟩) ⟨fun a U g mk q => by obtain ⟨q0, q1, qP, qK, qD⟩ := q; exact ⟨q0, q1, qP, va_K.moved (u := U) (U := U.calling g mk a) (Vm.Alike.refl U.vm) qK, qD⟩, va_recv hK hPc (ci := 10) (q0 := 0) rfl rfl, fun U hU hW => ⟨rfl, by rw [hU], by rw [hU]; exact hPc, va_K.moved hW.alike hK, hDc.weaken (fun _ _ _ _ => trivial)⟩⟩ rfl rfl hl.1 rfl (lv_room (Nat.le_of_ble_eq_true rfl)) dL_law_820 ⟨Nat.le_of_ble_eq_true rfl, Nat.le_of_ble_eq_true rfl⟩) hS (fun q _ h => hFc q h) hFc (fun r8 u t H1 locs ht hvm hw hB hz1 hk1 hS => ?_)
    have hw : (pf_val (xs 1) (xs 2) 1) = r8 := (show r8 = (pf_val (xs 1) (xs 2) 1) from hw).symm
    subst hw
    obtain ⟨hP, hD⟩ := va_join (wr := []) (w1 := []) hP hD [0, 1, 2, 3, 4, 5, 6, 7, 8, 9, 10, 11, 12] [] rfl rfl (by decide +kernel) (by decide +kernel) hk1 hFc pf_Pn pf_Dn
    clear hPc hDc hFc hk1 hz1
    generalize H1 = H at hP hS ⊢
    have hP : va_P (dC, dI) pf_cls [] H := hP
    have hD : va_D (fun q : Nat => s.heap.size ≤ q) [] := hD
    refine W.lcmp hx hb dL_law_823 ?_
    refine pf_topi (v := 0) (pf_cmp_self _) ?_
    refine lv_if_eq (tgt := 1009) hx hb dL_law_824 (by decide) (fun _ => ?_) (fun c9 => absurd (by decide +kernel) c9)
    refine lv_iinc (v := 6) (lv' := [(3, .int 6), (2, .ref q64), (1, .ref q1), (0, .ref b)]) hx hb dL_law_1009 hl (k := 0) rfl (by decide +kernel) (by decide) rfl (fun ls hl => ?_)
    refine lv_goto (tgt := 18) hx hb dL_law_1012 (by decide) ?_
    refine lv_iload_n hx hb dL_law_18 rfl (lv_at hl 0 rfl) ?_
    refine lv_aload_n hx hb dL_law_19 rfl (lv_at hl 3 rfl) ?_
    refine va_slen hx hb hX hbl hbA hS dL_law_20 ?_
    refine pf_topi (v := 6) (by decide +kernel) ?_
    refine lv_bipush (v := 6) hx hb dL_law_21 (by decide +kernel) ?_
    refine lv_isub hx hb dL_law_23 ?_
    refine pf_topi (v := 0) (by decide +kernel) ?_
    refine lv_icmp_gt (tgt := 1015) hx hb dL_law_24 (by decide) (fun _ => ?_) (fun c10 => absurd (by decide +kernel) c10)
    refine lv_iconst (v := 1) hx hb dL_law_1015 (by decide) ?_
    refine va_forget (fun q hq => hS.2.2 q hq) ?_
    refine W.widen (k := 600000) (n := 7302250) (Nat.le_of_ble_eq_true rfl) (Nat.le_of_ble_eq_true rfl) ?_
    exact lw_ret hx hb hr hlocks dL_law_1016
set_option maxHeartbeats 40000000 in
set_option maxRecDepth 100000 in
theorem law_case_19 {p : Program} {e : Env} {s : State} {m : MethodId} {below : List Frame} {meth : Method} {c : Code} (l : Launch) {b t0 : Nat} {xs : Nat → Int32} (C0 : lw_At p s m meth c b 6 xs) (dC : Nat → ClassId) (dI : Nat → Nat → Nat) (cI cJ cZ cO : ClassId) (q1 q3 q11 q20 q42 q4 q5 q6 q7 q8 q9 q10 q43 q50 q58 q59 q61 q63 q44 q45 q46 q47 q48 q49 q51 q52 q53 q54 q55 q56 q57 q60 q62 q64 q66 q67 q68 q69 q70 q71 q72 q73 q74 q75 q76 q77 q78 q79 q80 q81 q82 q83 q84 q85 q86 q87 q88 q89 q90 q91 q92 q93 q94 q95 : Nat) {H : Heap} {locs : List Loc} {ls : Array Slot} (hK : va_K (dC, dI) pf_cls (pf_ty cI cJ cZ cO) s) (hSt : pf_St t0 (fun q : Nat => s.heap.size ≤ q) s s.heap) (hP : va_P (dC, dI) pf_cls [(q1, .inr (9, [.ref q3, .ref q11, .ref q20, .ref q42, .int 0])), (q3, .inr (5, [.int 2, .int 0, .int 0, .ref q4, .ref q5, .ref q6, .ref q7, .ref q8, .ref q9, .ref q10])), (q4, .inl (cI, 8, .inl (fun _ => 0))), (q42, .inr (7, [.int 0, .long 0, .long 1, .ref q43, .ref q50, .ref q58, .ref q59, .ref q61, .ref q63])), (q43, .inr (0, [.int 0, .int 0, .ref q44, .ref q45, .ref q46, .ref q47, .ref q48, .ref q49])), (q44, .inl (cI, 28, .inl (fun _ => 0))), (q45, .inl (cI, 28, .inl (fun _ => 0))), (q46, .inl (cJ, 28, .inr (.inl (fun _ => 0)))), (q47, .inl (cJ, 28, .inr (.inl (fun _ => 0)))), (q48, .inl (cJ, 28, .inr (.inl (fun _ => 0)))), (q49, .inl (cI, 28, .inl (fun _ => 0))), (q50, .inr (8, [.int 0, .ref q51, .ref q52, .ref q53, .ref q54, .ref q55, .ref q56, .ref q57])), (q51, .inl (cI, 9, .inl (fun _ => 0))), (q52, .inl (cI, 9, .inl (fun _ => 0))), (q53, .inl (cI, 9, .inl (fun _ => 0))), (q54, .inl (cJ, 9, .inr (.inl (fun _ => 0)))), (q59, .inr (4, [.int 0, .ref q60])), (q61, .inr (4, [.int 0, .ref q62])), (q64, .inr (10, [.int 2, .int 0, .int 0, .ref q66, .ref q67, .ref q68, .ref q69, .ref q70, .ref q71, .ref q72, .int 0, .ref q73, .ref q74, .ref q75, .ref q76, .ref q77, .ref q78, .ref q79, .ref q80, .ref q81, .ref q82, .ref q83, .long 0, .int 0, .ref q84, .ref q85, .int 0, .ref q86, .ref q87, .int 0, .int 0, .int 0, .long 0, .long 0, .int 0, .long 0, .long 0, .ref q88, .ref q89, .int 0, .ref q90, .ref q91, .ref q92, .ref q93, .ref q94, .ref q95, .long 0, .long 0])), (q71, .inl (cI, 8, .inl (fun _ => 0))), (q73, .inl (cJ, 28, .inr (.inl (fun _ => 0)))), (q74, .inl (cJ, 28, .inr (.inl (fun _ => 0)))), (q75, .inl (cJ, 28, .inr (.inl (fun _ => 0)))), (q76, .inl (cI, 28, .inl (fun _ => 0))), (q77, .inl (cI, 28, .inl (fun _ => 0))), (q78, .inl (cI, 28, .inl (fun _ => 0))), (q79, .inl (cJ, 8, .inr (.inl (fun _ => 0)))), (q80, .inl (cI, 9, .inl (fun _ => 0))), (q81, .inl (cI, 9, .inl (fun _ => 0))), (q82, .inl (cI, 9, .inl (fun _ => 0))), (q83, .inl (cJ, 9, .inr (.inl (fun _ => 0))))] H) (hD : va_D (fun q : Nat => s.heap.size ≤ q) [(q1, .inr (9, [.ref q3, .ref q11, .ref q20, .ref q42, .int 0])), (q3, .inr (5, [.int 2, .int 0, .int 0, .ref q4, .ref q5, .ref q6, .ref q7, .ref q8, .ref q9, .ref q10])), (q4, .inl (cI, 8, .inl (fun _ => 0))), (q42, .inr (7, [.int 0, .long 0, .long 1, .ref q43, .ref q50, .ref q58, .ref q59, .ref q61, .ref q63])), (q43, .inr (0, [.int 0, .int 0, .ref q44, .ref q45, .ref q46, .ref q47, .ref q48, .ref q49])), (q44, .inl (cI, 28, .inl (fun _ => 0))), (q45, .inl (cI, 28, .inl (fun _ => 0))), (q46, .inl (cJ, 28, .inr (.inl (fun _ => 0)))), (q47, .inl (cJ, 28, .inr (.inl (fun _ => 0)))), (q48, .inl (cJ, 28, .inr (.inl (fun _ => 0)))), (q49, .inl (cI, 28, .inl (fun _ => 0))), (q50, .inr (8, [.int 0, .ref q51, .ref q52, .ref q53, .ref q54, .ref q55, .ref q56, .ref q57])), (q51, .inl (cI, 9, .inl (fun _ => 0))), (q52, .inl (cI, 9, .inl (fun _ => 0))), (q53, .inl (cI, 9, .inl (fun _ => 0))), (q54, .inl (cJ, 9, .inr (.inl (fun _ => 0)))), (q59, .inr (4, [.int 0, .ref q60])), (q61, .inr (4, [.int 0, .ref q62])), (q64, .inr (10, [.int 2, .int 0, .int 0, .ref q66, .ref q67, .ref q68, .ref q69, .ref q70, .ref q71, .ref q72, .int 0, .ref q73, .ref q74, .ref q75, .ref q76, .ref q77, .ref q78, .ref q79, .ref q80, .ref q81, .ref q82, .ref q83, .long 0, .int 0, .ref q84, .ref q85, .int 0, .ref q86, .ref q87, .int 0, .int 0, .int 0, .long 0, .long 0, .int 0, .long 0, .long 0, .ref q88, .ref q89, .int 0, .ref q90, .ref q91, .ref q92, .ref q93, .ref q94, .ref q95, .long 0, .long 0])), (q71, .inl (cI, 8, .inl (fun _ => 0))), (q73, .inl (cJ, 28, .inr (.inl (fun _ => 0)))), (q74, .inl (cJ, 28, .inr (.inl (fun _ => 0)))), (q75, .inl (cJ, 28, .inr (.inl (fun _ => 0)))), (q76, .inl (cI, 28, .inl (fun _ => 0))), (q77, .inl (cI, 28, .inl (fun _ => 0))), (q78, .inl (cI, 28, .inl (fun _ => 0))), (q79, .inl (cJ, 8, .inr (.inl (fun _ => 0)))), (q80, .inl (cI, 9, .inl (fun _ => 0))), (q81, .inl (cI, 9, .inl (fun _ => 0))), (q82, .inl (cI, 9, .inl (fun _ => 0))), (q83, .inl (cJ, 9, .inr (.inl (fun _ => 0))))]) (hS : va_S (fun q : Nat => s.heap.size ≤ q) s.heap H locs) (hl : lv_has ls 4 [(3, .int 0), (2, .ref q64), (1, .ref q1), (0, .ref b)]) : W p l e room_1 s m #[Value.ref b] below meth c H locs 93 44360 (lw_Z below #[Value.ref b] s) (F0 m 829 ls []) := by
  obtain ⟨hx, hb, hr, hml, hown0, hts0, hX, hbl, hlocks, hgv⟩ := id C0
  have hown : s.vm.findClass RL = some m.cls := hown0
  have hts : ∀ w ∈ Cond.initialized RX9 :: pf_W, w.before #[Value.ref b] s = true := pf_lawW hts0
  have hA : ∀ q : Nat, s.heap.size ≤ q → (fun q : Nat => s.heap.size ≤ q) q := fun _ h => h
  have hbA : ¬ (fun q : Nat => s.heap.size ≤ q) b := Nat.not_le.mpr hbl
  refine lv_aload_n hx hb dL_law_829 rfl (lv_at hl 2 rfl) ?_
  refine lv_aload_n hx hb dL_law_830 rfl (lv_at hl 3 rfl) ?_
  refine lv_iload_n hx hb dL_law_831 rfl (lv_at hl 0 rfl) ?_
  refine lv_iconst (v := 1) hx hb dL_law_832 (by decide) ?_
  refine lv_iadd hx hb dL_law_833 ?_
  refine pf_topi (v := 1) (by decide +kernel) ?_
  refine va_sld hx hb hX hbl hbA hS (pf_vpin (k := 1) (by decide +kernel) (by decide +kernel) (by decide)) dL_law_834 ?_
  refine pf_topi (v := xs 1) (congrArg xs (by decide +kernel)) ?_
  refine lv_aload_n hx hb dL_law_835 rfl (lv_at hl 3 rfl) ?_
  refine lv_iload_n hx hb dL_law_836 rfl (lv_at hl 0 rfl) ?_
  refine lv_iconst (v := 2) hx hb dL_law_837 (by decide) ?_
  refine lv_iadd hx hb dL_law_838 ?_
  refine pf_topi (v := 2) (by decide +kernel) ?_
  refine va_sld hx hb hX hbl hbA hS (pf_vpin (k := 2) (by decide +kernel) (by decide +kernel) (by decide)) dL_law_839 ?_
  refine pf_topi (v := xs 2) (congrArg xs (by decide +kernel)) ?_
  have hPc := hP.sub (ws' := [(q1, .inr (9, [.ref q3, .ref q11, .ref q20, .ref q42, .int 0])), (q3, .inr (5, [.int 2, .int 0, .int 0, .ref q4, .ref q5, .ref q6, .ref q7, .ref q8, .ref q9, .ref q10])), (q4, .inl (cI, 8, .inl (fun _ => 0))), (q42, .inr (7, [.int 0, .long 0, .long 1, .ref q43, .ref q50, .ref q58, .ref q59, .ref q61, .ref q63])), (q43, .inr (0, [.int 0, .int 0, .ref q44, .ref q45, .ref q46, .ref q47, .ref q48, .ref q49])), (q44, .inl (cI, 28, .inl (fun _ => 0))), (q45, .inl (cI, 28, .inl (fun _ => 0))), (q46, .inl (cJ, 28, .inr (.inl (fun _ => 0)))), (q47, .inl (cJ, 28, .inr (.inl (fun _ => 0)))), (q48, .inl (cJ, 28, .inr (.inl (fun _ => 0)))), (q49, .inl (cI, 28, .inl (fun _ => 0))), (q50, .inr (8, [.int 0, .ref q51, .ref q52, .ref q53, .ref q54, .ref q55, .ref q56, .ref q57])), (q51, .inl (cI, 9, .inl (fun _ => 0))), (q52, .inl (cI, 9, .inl (fun _ => 0))), (q53, .inl (cI, 9, .inl (fun _ => 0))), (q54, .inl (cJ, 9, .inr (.inl (fun _ => 0)))), (q59, .inr (4, [.int 0, .ref q60])), (q61, .inr (4, [.int 0, .ref q62]))]) [0, 1, 2, 3, 4, 5, 6, 7, 8, 9, 10, 11, 12, 13, 14, 15, 16, 17] rfl
  have hDc := hD.sub (ws' := [(q1, .inr (9, [.ref q3, .ref q11, .ref q20, .ref q42, .int 0])), (q3, .inr (5, [.int 2, .int 0, .int 0, .ref q4, .ref q5, .ref q6, .ref q7, .ref q8, .ref q9, .ref q10])), (q4, .inl (cI, 8, .inl (fun _ => 0))), (q42, .inr (7, [.int 0, .long 0, .long 1, .ref q43, .ref q50, .ref q58, .ref q59, .ref q61, .ref q63])), (q43, .inr (0, [.int 0, .int 0, .ref q44, .ref q45, .ref q46, .ref q47, .ref q48, .ref q49])), (q44, .inl (cI, 28, .inl (fun _ => 0))), (q45, .inl (cI, 28, .inl (fun _ => 0))), (q46, .inl (cJ, 28, .inr (.inl (fun _ => 0)))), (q47, .inl (cJ, 28, .inr (.inl (fun _ => 0)))), (q48, .inl (cJ, 28, .inr (.inl (fun _ => 0)))), (q49, .inl (cI, 28, .inl (fun _ => 0))), (q50, .inr (8, [.int 0, .ref q51, .ref q52, .ref q53, .ref q54, .ref q55, .ref q56, .ref q57])), (q51, .inl (cI, 9, .inl (fun _ => 0))), (q52, .inl (cI, 9, .inl (fun _ => 0))), (q53, .inl (cI, 9, .inl (fun _ => 0))), (q54, .inl (cJ, 9, .inr (.inl (fun _ => 0)))), (q59, .inr (4, [.int 0, .ref q60])), (q61, .inr (4, [.int 0, .ref q62]))]) [0, 1, 2, 3, 4, 5, 6, 7, 8, 9, 10, 11, 12, 13, 14, 15, 16, 17] (by decide +kernel) rfl
  have hFc := va_free (wc := [(q1, .inr (9, [.ref q3, .ref q11, .ref q20, .ref q42, .int 0])), (q3, .inr (5, [.int 2, .int 0, .int 0, .ref q4, .ref q5, .ref q6, .ref q7, .ref q8, .ref q9, .ref q10])), (q4, .inl (cI, 8, .inl (fun _ => 0))), (q42, .inr (7, [.int 0, .long 0, .long 1, .ref q43, .ref q50, .ref q58, .ref q59, .ref q61, .ref q63])), (q43, .inr (0, [.int 0, .int 0, .ref q44, .ref q45, .ref q46, .ref q47, .ref q48, .ref q49])), (q44, .inl (cI, 28, .inl (fun _ => 0))), (q45, .inl (cI, 28, .inl (fun _ => 0))), (q46, .inl (cJ, 28, .inr (.inl (fun _ => 0)))), (q47, .inl (cJ, 28, .inr (.inl (fun _ => 0)))), (q48, .inl (cJ, 28, .inr (.inl (fun _ => 0)))), (q49, .inl (cI, 28, .inl (fun _ => 0))), (q50, .inr (8, [.int 0, .ref q51, .ref q52, .ref q53, .ref q54, .ref q55, .ref q56, .ref q57])), (q51, .inl (cI, 9, .inl (fun _ => 0))), (q52, .inl (cI, 9, .inl (fun _ => 0))), (q53, .inl (cI, 9, .inl (fun _ => 0))), (q54, .inl (cJ, 9, .inr (.inl (fun _ => 0)))), (q59, .inr (4, [.int 0, .ref q60])), (q61, .inr (4, [.int 0, .ref q62]))]) hD hS hA [0, 1, 2, 3, 4, 5, 6, 7, 8, 9, 10, 11, 12, 13, 14, 15, 16, 17] rfl
  refine va_calli (va_runV (As := [.int (xs 1), .int (xs 2)]) (rest := []) ⟨hx, hb, hml, hown, hts⟩ (c_problem l dC dI cI cJ cZ cO H.size q1 ((xs 1)) ((xs 2)) q3 q11 q20 q42 q4 q5 q6 q7 q8 q9 q10 0 0 1 q43 q50 q58 q59 q61 q63 0 0 q44 q45 q46 q47 q48 q49 ((fun _ => 0)) ((fun _ => 0)) ((fun _ => 0)) ((fun _ => 0)) ((fun _ => 0)) ((fun _ => 0)) 0 q51 q52 q53 q54 q55 q56 q57 ((fun _ => 0)) ((fun _ => 0)) ((fun _ => 0)) ((fun _ => 0)) 0 q60 0 q62) (cwV 2 hts (pf_gV mw_645 mw_646 mw_647 mw_50 mw_648) rfl rfl rfl (by decide +kernel) ⟨Nat.le_of_ble_eq_true rfl, Nat.le_of_ble_eq_true rfl⟩) ⟨fun a U g mk q => by obtain ⟨q0, q1, qP, qK, qD⟩ := q; exact ⟨q0, q1, qP, va_K.moved (u := U) (U := U.calling g mk a) (Vm.Alike.refl U.vm) qK, qD⟩, va_recv hK hPc (ci := 9) (q0 := 0) rfl rfl, fun U hU hW => ⟨rfl, by rw [hU], by rw [hU]; exact hPc, va_K.moved hW.alike hK, hDc.weaken (fun _ _ _ _ => trivial)⟩⟩ rfl rfl hl.1 rfl (lv_room (Nat.le_of_ble_eq_true rfl)) dL_law_840 ⟨Nat.le_of_ble_eq_true rfl, Nat.le_of_ble_eq_true rfl⟩) hS (fun q _ h => hFc q h) hFc (fun r0 u t H1 locs ht hvm hw hB hz1 hk1 hS => ?_)
  have hw : (pf_prob (xs 1) (xs 2)) = r0 := (show r0 = (pf_prob (xs 1) (xs 2)) from hw).symm
  subst hw
  obtain ⟨hP, hD⟩ := va_join (wr := [(q64, .inr (10, [.int 2, .int 0, .int 0, .ref q66, .ref q67, .ref q68, .ref q69, .ref q70, .ref q71, .ref q72, .int 0, .ref q73, .ref q74, .ref q75, .ref q76, .ref q77, .ref q78, .ref q79, .ref q80, .ref q81, .ref q82, .ref q83, .long 0, .int 0, .ref q84, .ref q85, .int 0, .ref q86, .ref q87, .int 0, .int 0, .int 0, .long 0, .long 0, .int 0, .long 0, .long 0, .ref q88, .ref q89, .int 0, .ref q90, .ref q91, .ref q92, .ref q93, .ref q94, .ref q95, .long 0, .long 0])), (q71, .inl (cI, 8, .inl (fun _ => 0))), (q73, .inl (cJ, 28, .inr (.inl (fun _ => 0)))), (q74, .inl (cJ, 28, .inr (.inl (fun _ => 0)))), (q75, .inl (cJ, 28, .inr (.inl (fun _ => 0)))), (q76, .inl (cI, 28, .inl (fun _ => 0))), (q77, .inl (cI, 28, .inl (fun _ => 0))), (q78, .inl (cI, 28, .inl (fun _ => 0))), (q79, .inl (cJ, 8, .inr (.inl (fun _ => 0)))), (q80, .inl (cI, 9, .inl (fun _ => 0))), (q81, .inl (cI, 9, .inl (fun _ => 0))), (q82, .inl (cI, 9, .inl (fun _ => 0))), (q83, .inl (cJ, 9, .inr (.inl (fun _ => 0))))]) (w1 := []) hP hD [0, 1, 2, 3, 4, 5, 6, 7, 8, 9, 10, 11, 12, 13, 14, 15, 16, 17] [18, 19, 20, 21, 22, 23, 24, 25, 26, 27, 28, 29, 30] rfl rfl (by decide +kernel) (by decide +kernel) hk1 hFc pf_Pn pf_Dn
  clear hPc hDc hFc hk1 hz1
  generalize H1 = H at hP hS ⊢
  have hP : va_P (dC, dI) pf_cls [(q64, .inr (10, [.int 2, .int 0, .int 0, .ref q66, .ref q67, .ref q68, .ref q69, .ref q70, .ref q71, .ref q72, .int 0, .ref q73, .ref q74, .ref q75, .ref q76, .ref q77, .ref q78, .ref q79, .ref q80, .ref q81, .ref q82, .ref q83, .long 0, .int 0, .ref q84, .ref q85, .int 0, .ref q86, .ref q87, .int 0, .int 0, .int 0, .long 0, .long 0, .int 0, .long 0, .long 0, .ref q88, .ref q89, .int 0, .ref q90, .ref q91, .ref q92, .ref q93, .ref q94, .ref q95, .long 0, .long 0])), (q71, .inl (cI, 8, .inl (fun _ => 0))), (q73, .inl (cJ, 28, .inr (.inl (fun _ => 0)))), (q74, .inl (cJ, 28, .inr (.inl (fun _ => 0)))), (q75, .inl (cJ, 28, .inr (.inl (fun _ => 0)))), (q76, .inl (cI, 28, .inl (fun _ => 0))), (q77, .inl (cI, 28, .inl (fun _ => 0))), (q78, .inl (cI, 28, .inl (fun _ => 0))), (q79, .inl (cJ, 8, .inr (.inl (fun _ => 0)))), (q80, .inl (cI, 9, .inl (fun _ => 0))), (q81, .inl (cI, 9, .inl (fun _ => 0))), (q82, .inl (cI, 9, .inl (fun _ => 0))), (q83, .inl (cJ, 9, .inr (.inl (fun _ => 0))))] H := hP
  have hD : va_D (fun q : Nat => s.heap.size ≤ q) [(q64, .inr (10, [.int 2, .int 0, .int 0, .ref q66, .ref q67, .ref q68, .ref q69, .ref q70, .ref q71, .ref q72, .int 0, .ref q73, .ref q74, .ref q75, .ref q76, .ref q77, .ref q78, .ref q79, .ref q80, .ref q81, .ref q82, .ref q83, .long 0, .int 0, .ref q84, .ref q85, .int 0, .ref q86, .ref q87, .int 0, .int 0, .int 0, .long 0, .long 0, .int 0, .long 0, .long 0, .ref q88, .ref q89, .int 0, .ref q90, .ref q91, .ref q92, .ref q93, .ref q94, .ref q95, .long 0, .long 0])), (q71, .inl (cI, 8, .inl (fun _ => 0))), (q73, .inl (cJ, 28, .inr (.inl (fun _ => 0)))), (q74, .inl (cJ, 28, .inr (.inl (fun _ => 0)))), (q75, .inl (cJ, 28, .inr (.inl (fun _ => 0)))), (q76, .inl (cI, 28, .inl (fun _ => 0))), (q77, .inl (cI, 28, .inl (fun _ => 0))), (q78, .inl (cI, 28, .inl (fun _ => 0))), (q79, .inl (cJ, 8, .inr (.inl (fun _ => 0)))), (q80, .inl (cI, 9, .inl (fun _ => 0))), (q81, .inl (cI, 9, .inl (fun _ => 0))), (q82, .inl (cI, 9, .inl (fun _ => 0))), (q83, .inl (cJ, 9, .inr (.inl (fun _ => 0))))] := hD
  refine lv_aload_n hx hb dL_law_843 rfl (lv_at hl 1 rfl) ?_
  refine lv_aload_n hx hb dL_law_844 rfl (lv_at hl 3 rfl) ?_
  refine lv_iload_n hx hb dL_law_845 rfl (lv_at hl 0 rfl) ?_
  refine lv_iconst (v := 1) hx hb dL_law_846 (by decide) ?_
  refine lv_iadd hx hb dL_law_847 ?_
  refine pf_topi (v := 1) (by decide +kernel) ?_
  refine va_sld hx hb hX hbl hbA hS (pf_vpin (k := 1) (by decide +kernel) (by decide +kernel) (by decide)) dL_law_848 ?_
  refine pf_topi (v := xs 1) (congrArg xs (by decide +kernel)) ?_
  refine lv_aload_n hx hb dL_law_849 rfl (lv_at hl 3 rfl) ?_
  refine lv_iload_n hx hb dL_law_850 rfl (lv_at hl 0 rfl) ?_
  refine lv_iconst (v := 2) hx hb dL_law_851 (by decide) ?_
  refine lv_iadd hx hb dL_law_852 ?_
  refine pf_topi (v := 2) (by decide +kernel) ?_
  refine va_sld hx hb hX hbl hbA hS (pf_vpin (k := 2) (by decide +kernel) (by decide +kernel) (by decide)) dL_law_853 ?_
  refine pf_topi (v := xs 2) (congrArg xs (by decide +kernel)) ?_
  have hPc := hP.sub (ws' := [(q64, .inr (10, [.int 2, .int 0, .int 0, .ref q66, .ref q67, .ref q68, .ref q69, .ref q70, .ref q71, .ref q72, .int 0, .ref q73, .ref q74, .ref q75, .ref q76, .ref q77, .ref q78, .ref q79, .ref q80, .ref q81, .ref q82, .ref q83, .long 0, .int 0, .ref q84, .ref q85, .int 0, .ref q86, .ref q87, .int 0, .int 0, .int 0, .long 0, .long 0, .int 0, .long 0, .long 0, .ref q88, .ref q89, .int 0, .ref q90, .ref q91, .ref q92, .ref q93, .ref q94, .ref q95, .long 0, .long 0])), (q71, .inl (cI, 8, .inl (fun _ => 0))), (q73, .inl (cJ, 28, .inr (.inl (fun _ => 0)))), (q74, .inl (cJ, 28, .inr (.inl (fun _ => 0)))), (q75, .inl (cJ, 28, .inr (.inl (fun _ => 0)))), (q76, .inl (cI, 28, .inl (fun _ => 0))), (q77, .inl (cI, 28, .inl (fun _ => 0))), (q78, .inl (cI, 28, .inl (fun _ => 0))), (q79, .inl (cJ, 8, .inr (.inl (fun _ => 0)))), (q80, .inl (cI, 9, .inl (fun _ => 0))), (q81, .inl (cI, 9, .inl (fun _ => 0))), (q82, .inl (cI, 9, .inl (fun _ => 0))), (q83, .inl (cJ, 9, .inr (.inl (fun _ => 0))))]) [0, 1, 2, 3, 4, 5, 6, 7, 8, 9, 10, 11, 12] rfl
  have hDc := hD.sub (ws' := [(q64, .inr (10, [.int 2, .int 0, .int 0, .ref q66, .ref q67, .ref q68, .ref q69, .ref q70, .ref q71, .ref q72, .int 0, .ref q73, .ref q74, .ref q75, .ref q76, .ref q77, .ref q78, .ref q79, .ref q80, .ref q81, .ref q82, .ref q83, .long 0, .int 0, .ref q84, .ref q85, .int 0, .ref q86, .ref q87, .int 0, .int 0, .int 0, .long 0, .long 0, .int 0, .long 0, .long 0, .ref q88, .ref q89, .int 0, .ref q90, .ref q91, .ref q92, .ref q93, .ref q94, .ref q95, .long 0, .long 0])), (q71, .inl (cI, 8, .inl (fun _ => 0))), (q73, .inl (cJ, 28, .inr (.inl (fun _ => 0)))), (q74, .inl (cJ, 28, .inr (.inl (fun _ => 0)))), (q75, .inl (cJ, 28, .inr (.inl (fun _ => 0)))), (q76, .inl (cI, 28, .inl (fun _ => 0))), (q77, .inl (cI, 28, .inl (fun _ => 0))), (q78, .inl (cI, 28, .inl (fun _ => 0))), (q79, .inl (cJ, 8, .inr (.inl (fun _ => 0)))), (q80, .inl (cI, 9, .inl (fun _ => 0))), (q81, .inl (cI, 9, .inl (fun _ => 0))), (q82, .inl (cI, 9, .inl (fun _ => 0))), (q83, .inl (cJ, 9, .inr (.inl (fun _ => 0))))]) [0, 1, 2, 3, 4, 5, 6, 7, 8, 9, 10, 11, 12] (by decide +kernel) rfl
  have hFc := va_free (wc := [(q64, .inr (10, [.int 2, .int 0, .int 0, .ref q66, .ref q67, .ref q68, .ref q69, .ref q70, .ref q71, .ref q72, .int 0, .ref q73, .ref q74, .ref q75, .ref q76, .ref q77, .ref q78, .ref q79, .ref q80, .ref q81, .ref q82, .ref q83, .long 0, .int 0, .ref q84, .ref q85, .int 0, .ref q86, .ref q87, .int 0, .int 0, .int 0, .long 0, .long 0, .int 0, .long 0, .long 0, .ref q88, .ref q89, .int 0, .ref q90, .ref q91, .ref q92, .ref q93, .ref q94, .ref q95, .long 0, .long 0])), (q71, .inl (cI, 8, .inl (fun _ => 0))), (q73, .inl (cJ, 28, .inr (.inl (fun _ => 0)))), (q74, .inl (cJ, 28, .inr (.inl (fun _ => 0)))), (q75, .inl (cJ, 28, .inr (.inl (fun _ => 0)))), (q76, .inl (cI, 28, .inl (fun _ => 0))), (q77, .inl (cI, 28, .inl (fun _ => 0))), (q78, .inl (cI, 28, .inl (fun _ => 0))), (q79, .inl (cJ, 8, .inr (.inl (fun _ => 0)))), (q80, .inl (cI, 9, .inl (fun _ => 0))), (q81, .inl (cI, 9, .inl (fun _ => 0))), (q82, .inl (cI, 9, .inl (fun _ => 0))), (q83, .inl (cJ, 9, .inr (.inl (fun _ => 0))))]) hD hS hA [0, 1, 2, 3, 4, 5, 6, 7, 8, 9, 10, 11, 12] rfl
  refine va_calli (va_runV (As := [.int (xs 1), .int (xs 2)]) (rest := [.int (pf_prob (xs 1) (xs 2))]) ⟨hx, hb, hml, hown, hts⟩ (c_m_problem l dC dI cI cJ cZ cO H.size q64 ((xs 1)) ((xs 2)) q66 q67 q68 q69 q70 q71 q72 q73 q74 q75 q76 q77 q78 q79 q80 q81 q82 q83 q84 q85 q86 q87 q88 q89 q90 q91 q92 q93 q94 q95 ((fun _ => 0)) ((fun _ => 0)) ((fun _ => 0)) ((fun _ => 0)) ((fun _ => 0)) ((fun _ => 0)) ((fun _ => 0)) ((fun _ => 0)) ((fun _ => 0)) ((fun _ => 0)) ((fun _ => 0))) (cwV 2 hts (pf_gV mw_649 mw_650 mw_651 mw_346 mw_652) rfl rfl rfl (by decide +kernel) ⟨Nat.le_of_ble_eq_true rfl, Nat.le_of_ble_eq_true rfl⟩) ⟨fun a U g mk q => by obtain ⟨q0, q1, qP, qK, qD⟩ := q; exact ⟨q0, q1, qP, va_K.moved (u := U) (U := U.calling g mk a) (Vm.Alike.refl U.vm) qK, qD⟩, va_recv hK hPc (ci := 10) (q0 := 0) rfl rfl, fun U hU hW => ⟨rfl, by rw [hU], by rw [hU]; exact hPc, va_K.moved hW.alike hK, hDc.weaken (fun _ _ _ _ => trivial)⟩⟩ rfl rfl hl.1 rfl (lv_room (Nat.le_of_ble_eq_true rfl)) dL_law_854 ⟨Nat.le_of_ble_eq_true rfl, Nat.le_of_ble_eq_true rfl⟩) hS (fun q _ h => hFc q h) hFc (fun r1 u t H1 locs ht hvm hw hB hz1 hk1 hS => ?_)
  have hw : (pf_prob (xs 1) (xs 2)) = r1 := (show r1 = (pf_prob (xs 1) (xs 2)) from hw).symm
  subst hw
  obtain ⟨hP, hD⟩ := va_join (wr := []) (w1 := []) hP hD [0, 1, 2, 3, 4, 5, 6, 7, 8, 9, 10, 11, 12] [] rfl rfl (by decide +kernel) (by decide +kernel) hk1 hFc pf_Pn pf_Dn
  clear hPc hDc hFc hk1 hz1
  generalize H1 = H at hP hS ⊢
  have hP : va_P (dC, dI) pf_cls [] H := hP
  have hD : va_D (fun q : Nat => s.heap.size ≤ q) [] := hD
  refine lv_icmp_eq (tgt := 1009) hx hb dL_law_857 (by decide) (fun _ => ?_) (fun c2 => absurd rfl c2)
  refine lv_iinc (v := 6) (lv' := [(3, .int 6), (2, .ref q64), (1, .ref q1), (0, .ref b)]) hx hb dL_law_1009 hl (k := 0) rfl (by decide +kernel) (by decide) rfl (fun ls hl => ?_)
  refine lv_goto (tgt := 18) hx hb dL_law_1012 (by decide) ?_
  refine lv_iload_n hx hb dL_law_18 rfl (lv_at hl 0 rfl) ?_
  refine lv_aload_n hx hb dL_law_19 rfl (lv_at hl 3 rfl) ?_
  refine va_slen hx hb hX hbl hbA hS dL_law_20 ?_
  refine pf_topi (v := 6) (by decide +kernel) ?_
  refine lv_bipush (v := 6) hx hb dL_law_21 (by decide +kernel) ?_
  refine lv_isub hx hb dL_law_23 ?_
  refine pf_topi (v := 0) (by decide +kernel) ?_
  refine lv_icmp_gt (tgt := 1015) hx hb dL_law_24 (by decide) (fun _ => ?_) (fun c3 => absurd (by decide +kernel) c3)
  refine lv_iconst (v := 1) hx hb dL_law_1015 (by decide) ?_
  refine va_forget (fun q hq => hS.2.2 q hq) ?_
  refine W.widen (k := 600000) (n := 7302250) (Nat.le_of_ble_eq_true rfl) (Nat.le_of_ble_eq_true rfl) ?_
  exact lw_ret hx hb hr hlocks dL_law_1016
