set_option maxHeartbeats 40000000 in
set_option maxRecDepth 100000 in
theorem law_case_0 {p : Program} {e : Env} {s : State} {m : MethodId} {below : List Frame} {meth : Method} {c : Code} (l : Launch) {b t0 : Nat} {xs : Nat → Int32} (C0 : lw_At p s m meth c b 6 xs) (dC : Nat → ClassId) (dI : Nat → Nat → Nat) (cI cJ cZ cO : ClassId) (q1 q3 q11 q20 q42 q4 q5 q6 q7 q8 q9 q10 q12 q14 q16 q18 q19 q64 q66 q67 q68 q69 q70 q71 q72 q73 q74 q75 q76 q77 q78 q79 q80 q81 q82 q83 q84 q85 q86 q87 q88 q89 q90 q91 q92 q93 q94 q95 : Nat) {H : Heap} {locs : List Loc} {ls : Array Slot} (hK : va_K (dC, dI) pf_cls (pf_ty cI cJ cZ cO) s) (hSt : pf_St t0 (fun q : Nat => s.heap.size ≤ q) s s.heap) (hP : va_P (dC, dI) pf_cls [(q1, .inr (9, [.ref q3, .ref q11, .ref q20, .ref q42, .int 0])), (q3, .inr (5, [.int 2, .int 0, .int 0, .ref q4, .ref q5, .ref q6, .ref q7, .ref q8, .ref q9, .ref q10])), (q4, .inl (cI, 8, .inl (fun _ => 0))), (q5, .inl (cI, 8, .inl (fun _ => 0))), (q11, .inr (1, [.int 0, .int 0, .int 0, .int 0, .ref q12, .ref q14, .ref q16, .ref q18, .ref q19, .int 0])), (q64, .inr (10, [.int 2, .int 0, .int 0, .ref q66, .ref q67, .ref q68, .ref q69, .ref q70, .ref q71, .ref q72, .int 0, .ref q73, .ref q74, .ref q75, .ref q76, .ref q77, .ref q78, .ref q79, .ref q80, .ref q81, .ref q82, .ref q83, .long 0, .int 0, .ref q84, .ref q85, .int 0, .ref q86, .ref q87, .int 0, .int 0, .int 0, .long 0, .long 0, .int 0, .long 0, .long 0, .ref q88, .ref q89, .int 0, .ref q90, .ref q91, .ref q92, .ref q93, .ref q94, .ref q95, .long 0, .long 0])), (q71, .inl (cI, 8, .inl (fun _ => 0))), (q72, .inl (cI, 8, .inl (fun _ => 0)))] H) (hD : va_D (fun q : Nat => s.heap.size ≤ q) [(q1, .inr (9, [.ref q3, .ref q11, .ref q20, .ref q42, .int 0])), (q3, .inr (5, [.int 2, .int 0, .int 0, .ref q4, .ref q5, .ref q6, .ref q7, .ref q8, .ref q9, .ref q10])), (q4, .inl (cI, 8, .inl (fun _ => 0))), (q5, .inl (cI, 8, .inl (fun _ => 0))), (q11, .inr (1, [.int 0, .int 0, .int 0, .int 0, .ref q12, .ref q14, .ref q16, .ref q18, .ref q19, .int 0])), (q64, .inr (10, [.int 2, .int 0, .int 0, .ref q66, .ref q67, .ref q68, .ref q69, .ref q70, .ref q71, .ref q72, .int 0, .ref q73, .ref q74, .ref q75, .ref q76, .ref q77, .ref q78, .ref q79, .ref q80, .ref q81, .ref q82, .ref q83, .long 0, .int 0, .ref q84, .ref q85, .int 0, .ref q86, .ref q87, .int 0, .int 0, .int 0, .long 0, .long 0, .int 0, .long 0, .long 0, .ref q88, .ref q89, .int 0, .ref q90, .ref q91, .ref q92, .ref q93, .ref q94, .ref q95, .long 0, .long 0])), (q71, .inl (cI, 8, .inl (fun _ => 0))), (q72, .inl (cI, 8, .inl (fun _ => 0)))]) (hS : va_S (fun q : Nat => s.heap.size ≤ q) s.heap H locs) (hl : lv_has ls 4 [(3, .int 0), (2, .ref q64), (1, .ref q1), (0, .ref b)]) : W p l e room_1 s m #[Value.ref b] below meth c H locs 93 44360 (lw_Z below #[Value.ref b] s) (F0 m 140 ls []) := by
  obtain ⟨hx, hb, hr, hml, hown0, hts0, hX, hbl, hlocks, hgv⟩ := id C0
  have hown : s.vm.findClass RL = some m.cls := hown0
  have hts : ∀ w ∈ Cond.initialized RX9 :: pf_W, w.before #[Value.ref b] s = true := pf_lawW hts0
  have hA : ∀ q : Nat, s.heap.size ≤ q → (fun q : Nat => s.heap.size ≤ q) q := fun _ h => h
  have hbA : ¬ (fun q : Nat => s.heap.size ≤ q) b := Nat.not_le.mpr hbl
  refine lv_aload_n hx hb dL_law_140 rfl (lv_at hl 2 rfl) ?_
  refine lv_aload_n hx hb dL_law_141 rfl (lv_at hl 3 rfl) ?_
  refine lv_iload_n hx hb dL_law_142 rfl (lv_at hl 0 rfl) ?_
  refine lv_iconst (v := 1) hx hb dL_law_143 (by decide) ?_
  refine lv_iadd hx hb dL_law_144 ?_
  refine pf_topi (v := 1) (by decide +kernel) ?_
  refine va_sld hx hb hX hbl hbA hS (pf_vpin (k := 1) (by decide +kernel) (by decide +kernel) (by decide)) dL_law_145 ?_
  refine pf_topi (v := xs 1) (congrArg xs (by decide +kernel)) ?_
  have hPc := hP.sub (ws' := [(q1, .inr (9, [.ref q3, .ref q11, .ref q20, .ref q42, .int 0])), (q3, .inr (5, [.int 2, .int 0, .int 0, .ref q4, .ref q5, .ref q6, .ref q7, .ref q8, .ref q9, .ref q10])), (q4, .inl (cI, 8, .inl (fun _ => 0))), (q5, .inl (cI, 8, .inl (fun _ => 0))), (q11, .inr (1, [.int 0, .int 0, .int 0, .int 0, .ref q12, .ref q14, .ref q16, .ref q18, .ref q19, .int 0]))]) [0, 1, 2, 3, 4] rfl
  have hDc := hD.sub (ws' := [(q1, .inr (9, [.ref q3, .ref q11, .ref q20, .ref q42, .int 0])), (q3, .inr (5, [.int 2, .int 0, .int 0, .ref q4, .ref q5, .ref q6, .ref q7, .ref q8, .ref q9, .ref q10])), (q4, .inl (cI, 8, .inl (fun _ => 0))), (q5, .inl (cI, 8, .inl (fun _ => 0))), (q11, .inr (1, [.int 0, .int 0, .int 0, .int 0, .ref q12, .ref q14, .ref q16, .ref q18, .ref q19, .int 0]))]) [0, 1, 2, 3, 4] (by decide +kernel) rfl
  have hFc := va_free (wc := [(q1, .inr (9, [.ref q3, .ref q11, .ref q20, .ref q42, .int 0])), (q3, .inr (5, [.int 2, .int 0, .int 0, .ref q4, .ref q5, .ref q6, .ref q7, .ref q8, .ref q9, .ref q10])), (q4, .inl (cI, 8, .inl (fun _ => 0))), (q5, .inl (cI, 8, .inl (fun _ => 0))), (q11, .inr (1, [.int 0, .int 0, .int 0, .int 0, .ref q12, .ref q14, .ref q16, .ref q18, .ref q19, .int 0]))]) hD hS hA [0, 1, 2, 3, 4] rfl
  refine va_calli (va_runV (As := [.int (xs 1)]) (rest := []) ⟨hx, hb, hml, hown, hts⟩ (c_reset l dC dI cI cJ cZ cO H.size q1 ((xs 1)) q3 q11 q20 q42 q4 q5 q6 q7 q8 q9 q10 0 0 0 0 q12 q14 q16 q18 q19 0) (cwV 1 hts (pf_gV mw_493 mw_494 mw_495 mw_50 mw_496) rfl rfl rfl (by decide +kernel) ⟨Nat.le_of_ble_eq_true rfl, Nat.le_of_ble_eq_true rfl⟩) ⟨fun a U g mk q => by obtain ⟨q0, q1, qP, qK, qD⟩ := q; exact ⟨q0, q1, qP, va_K.moved (u := U) (U := U.calling g mk a) (Vm.Alike.refl U.vm) qK, qD⟩, va_recv hK hPc (ci := 9) (q0 := 0) rfl rfl, fun U hU hW => ⟨rfl, by rw [hU], by rw [hU]; exact hPc, va_K.moved hW.alike hK, hDc.weaken (fun _ _ _ _ => trivial)⟩⟩ rfl rfl hl.1 rfl (lv_room (Nat.le_of_ble_eq_true rfl)) dL_law_146 ⟨Nat.le_of_ble_eq_true rfl, Nat.le_of_ble_eq_true rfl⟩) hS (fun q _ h => hFc q h) hFc (fun r0 u t H1 locs ht hvm hw hB hz1 hk1 hS => ?_)
  have hw : (pf_res (xs 1)) = r0 := (show r0 = (pf_res (xs 1)) from hw).symm
  subst hw
  obtain ⟨hP, hD⟩ := va_join (wr := [(q64, .inr (10, [.int 2, .int 0, .int 0, .ref q66, .ref q67, .ref q68, .ref q69, .ref q70, .ref q71, .ref q72, .int 0, .ref q73, .ref q74, .ref q75, .ref q76, .ref q77, .ref q78, .ref q79, .ref q80, .ref q81, .ref q82, .ref q83, .long 0, .int 0, .ref q84, .ref q85, .int 0, .ref q86, .ref q87, .int 0, .int 0, .int 0, .long 0, .long 0, .int 0, .long 0, .long 0, .ref q88, .ref q89, .int 0, .ref q90, .ref q91, .ref q92, .ref q93, .ref q94, .ref q95, .long 0, .long 0])), (q71, .inl (cI, 8, .inl (fun _ => 0))), (q72, .inl (cI, 8, .inl (fun _ => 0)))]) (w1 := []) hP hD [0, 1, 2, 3, 4] [5, 6, 7] rfl rfl (by decide +kernel) (by decide +kernel) hk1 hFc pf_Pn pf_Dn
  clear hPc hDc hFc hk1 hz1
  generalize H1 = H at hP hS ⊢
  have hP : va_P (dC, dI) pf_cls [(q64, .inr (10, [.int 2, .int 0, .int 0, .ref q66, .ref q67, .ref q68, .ref q69, .ref q70, .ref q71, .ref q72, .int 0, .ref q73, .ref q74, .ref q75, .ref q76, .ref q77, .ref q78, .ref q79, .ref q80, .ref q81, .ref q82, .ref q83, .long 0, .int 0, .ref q84, .ref q85, .int 0, .ref q86, .ref q87, .int 0, .int 0, .int 0, .long 0, .long 0, .int 0, .long 0, .long 0, .ref q88, .ref q89, .int 0, .ref q90, .ref q91, .ref q92, .ref q93, .ref q94, .ref q95, .long 0, .long 0])), (q71, .inl (cI, 8, .inl (fun _ => 0))), (q72, .inl (cI, 8, .inl (fun _ => 0)))] H := hP
  have hD : va_D (fun q : Nat => s.heap.size ≤ q) [(q64, .inr (10, [.int 2, .int 0, .int 0, .ref q66, .ref q67, .ref q68, .ref q69, .ref q70, .ref q71, .ref q72, .int 0, .ref q73, .ref q74, .ref q75, .ref q76, .ref q77, .ref q78, .ref q79, .ref q80, .ref q81, .ref q82, .ref q83, .long 0, .int 0, .ref q84, .ref q85, .int 0, .ref q86, .ref q87, .int 0, .int 0, .int 0, .long 0, .long 0, .int 0, .long 0, .long 0, .ref q88, .ref q89, .int 0, .ref q90, .ref q91, .ref q92, .ref q93, .ref q94, .ref q95, .long 0, .long 0])), (q71, .inl (cI, 8, .inl (fun _ => 0))), (q72, .inl (cI, 8, .inl (fun _ => 0)))] := hD
  refine lv_aload_n hx hb dL_law_149 rfl (lv_at hl 1 rfl) ?_
  refine lv_aload_n hx hb dL_law_150 rfl (lv_at hl 3 rfl) ?_
  refine lv_iload_n hx hb dL_law_151 rfl (lv_at hl 0 rfl) ?_
  refine lv_iconst (v := 1) hx hb dL_law_152 (by decide) ?_
  refine lv_iadd hx hb dL_law_153 ?_
  refine pf_topi (v := 1) (by decide +kernel) ?_
  refine va_sld hx hb hX hbl hbA hS (pf_vpin (k := 1) (by decide +kernel) (by decide +kernel) (by decide)) dL_law_154 ?_
  refine pf_topi (v := xs 1) (congrArg xs (by decide +kernel)) ?_
  have hPc := hP.sub (ws' := [(q64, .inr (10, [.int 2, .int 0, .int 0, .ref q66, .ref q67, .ref q68, .ref q69, .ref q70, .ref q71, .ref q72, .int 0, .ref q73, .ref q74, .ref q75, .ref q76, .ref q77, .ref q78, .ref q79, .ref q80, .ref q81, .ref q82, .ref q83, .long 0, .int 0, .ref q84, .ref q85, .int 0, .ref q86, .ref q87, .int 0, .int 0, .int 0, .long 0, .long 0, .int 0, .long 0, .long 0, .ref q88, .ref q89, .int 0, .ref q90, .ref q91, .ref q92, .ref q93, .ref q94, .ref q95, .long 0, .long 0])), (q71, .inl (cI, 8, .inl (fun _ => 0))), (q72, .inl (cI, 8, .inl (fun _ => 0)))]) [0, 1, 2] rfl
  have hDc := hD.sub (ws' := [(q64, .inr (10, [.int 2, .int 0, .int 0, .ref q66, .ref q67, .ref q68, .ref q69, .ref q70, .ref q71, .ref q72, .int 0, .ref q73, .ref q74, .ref q75, .ref q76, .ref q77, .ref q78, .ref q79, .ref q80, .ref q81, .ref q82, .ref q83, .long 0, .int 0, .ref q84, .ref q85, .int 0, .ref q86, .ref q87, .int 0, .int 0, .int 0, .long 0, .long 0, .int 0, .long 0, .long 0, .ref q88, .ref q89, .int 0, .ref q90, .ref q91, .ref q92, .ref q93, .ref q94, .ref q95, .long 0, .long 0])), (q71, .inl (cI, 8, .inl (fun _ => 0))), (q72, .inl (cI, 8, .inl (fun _ => 0)))]) [0, 1, 2] (by decide +kernel) rfl
  have hFc := va_free (wc := [(q64, .inr (10, [.int 2, .int 0, .int 0, .ref q66, .ref q67, .ref q68, .ref q69, .ref q70, .ref q71, .ref q72, .int 0, .ref q73, .ref q74, .ref q75, .ref q76, .ref q77, .ref q78, .ref q79, .ref q80, .ref q81, .ref q82, .ref q83, .long 0, .int 0, .ref q84, .ref q85, .int 0, .ref q86, .ref q87, .int 0, .int 0, .int 0, .long 0, .long 0, .int 0, .long 0, .long 0, .ref q88, .ref q89, .int 0, .ref q90, .ref q91, .ref q92, .ref q93, .ref q94, .ref q95, .long 0, .long 0])), (q71, .inl (cI, 8, .inl (fun _ => 0))), (q72, .inl (cI, 8, .inl (fun _ => 0)))]) hD hS hA [0, 1, 2] rfl
  refine va_calli (va_runV (As := [.int (xs 1)]) (rest := [.int (pf_res (xs 1))]) ⟨hx, hb, hml, hown, hts⟩ (c_m_reset l dC dI cI cJ cZ cO H.size q64 ((xs 1)) q66 q67 q68 q69 q70 q71 q72 q73 q74 q75 q76 q77 q78 q79 q80 q81 q82 q83 q84 q85 q86 q87 q88 q89 q90 q91 q92 q93 q94 q95) (cwV 1 hts (pf_gV mw_497 mw_498 mw_499 mw_346 mw_500) rfl rfl rfl (by decide +kernel) ⟨Nat.le_of_ble_eq_true rfl, Nat.le_of_ble_eq_true rfl⟩) ⟨fun a U g mk q => by obtain ⟨q0, q1, qP, qK, qD⟩ := q; exact ⟨q0, q1, qP, va_K.moved (u := U) (U := U.calling g mk a) (Vm.Alike.refl U.vm) qK, qD⟩, va_recv hK hPc (ci := 10) (q0 := 0) rfl rfl, fun U hU hW => ⟨rfl, by rw [hU], by rw [hU]; exact hPc, va_K.moved hW.alike hK, hDc.weaken (fun _ _ _ _ => trivial)⟩⟩ rfl rfl hl.1 rfl (lv_room (Nat.le_of_ble_eq_true rfl)) dL_law_155 ⟨Nat.le_of_ble_eq_true rfl, Nat.le_of_ble_eq_true rfl⟩) hS (fun q _ h => hFc q h) hFc (fun r1 u t H1 locs ht hvm hw hB hz1 hk1 hS => ?_)
  have hw : (pf_res (xs 1)) = r1 := (show r1 = (pf_res (xs 1)) from hw).symm
  subst hw
  obtain ⟨hP, hD⟩ := va_join (wr := []) (w1 := []) hP hD [0, 1, 2] [] rfl rfl (by decide +kernel) (by decide +kernel) hk1 hFc pf_Pn pf_Dn
  clear hPc hDc hFc hk1 hz1
  generalize H1 = H at hP hS ⊢
  have hP : va_P (dC, dI) pf_cls [] H := hP
  have hD : va_D (fun q : Nat => s.heap.size ≤ q) [] := hD
  refine lv_icmp_eq (tgt := 1009) hx hb dL_law_158 (by decide) (fun _ => ?_) (fun c2 => absurd rfl c2)
  refine lv_iinc (v := 6) (lv' := [(3, .int 6), (2, .ref q64), (1, .ref q1), (0, .ref b)]) hx hb dL_law_1009 hl (k := 0) rfl (by decide +kernel) (by decide) rfl (fun ls hl => ?_)
  refine lv_goto (tgt := 18) hx hb dL_law_1012 (by decide) ?_
  refine lv_iload_n hx hb dL_law_18 rfl (lv_at hl 0 rfl) ?_
  refine lv_aload_n hx hb dL_law_19 rfl (lv_at hl 3 rfl) ?_
  refine va_slen hx hb hX hbl hbA hS dL_law_20 ?_
  refine pf_topi (v := 6) (by decide +kernel) ?_
  refine lv_bipush (v := 6) hx hb dL_law_21 (by decide +kernel) ?_
  refine lv_isub hx hb dL_law_23 ?_
  refine pf_topi (v := 0) (by decide +kernel) ?_
  refine lv_icmp_gt (tgt := 1015) hx hb dL_law_24 (by decide) (fun _ => ?_) (fun c3 => absurd (by decide +kernel) c3)
  refine lv_iconst (v := 1) hx hb dL_law_1015 (by decide) ?_
  refine va_forget (fun q hq => hS.2.2 q hq) ?_
  refine W.widen (k := 600000) (n := 7302250) (Nat.le_of_ble_eq_true rfl) (Nat.le_of_ble_eq_true rfl) ?_
  exact lw_ret hx hb hr hlocks dL_law_1016
set_option maxHeartbeats 40000000 in
set_option maxRecDepth 100000 in
theorem law_case_1 {p : Program} {e : Env} {s : State} {m : MethodId} {below : List Frame} {meth : Method} {c : Code} (l : Launch) {b t0 : Nat} {xs : Nat → Int32} (C0 : lw_At p s m meth c b 6 xs) (dC : Nat → ClassId) (dI : Nat → Nat → Nat) (cI cJ cZ cO : ClassId) (q1 q3 q11 q20 q42 q4 q5 q6 q7 q8 q9 q10 q12 q14 q16 q18 q19 q64 q66 q67 q68 q69 q70 q71 q72 q73 q74 q75 q76 q77 q78 q79 q80 q81 q82 q83 q84 q85 q86 q87 q88 q89 q90 q91 q92 q93 q94 q95 : Nat) {H : Heap} {locs : List Loc} {ls : Array Slot} (hK : va_K (dC, dI) pf_cls (pf_ty cI cJ cZ cO) s) (hSt : pf_St t0 (fun q : Nat => s.heap.size ≤ q) s s.heap) (hP : va_P (dC, dI) pf_cls [(q1, .inr (9, [.ref q3, .ref q11, .ref q20, .ref q42, .int 0])), (q3, .inr (5, [.int 2, .int 0, .int 0, .ref q4, .ref q5, .ref q6, .ref q7, .ref q8, .ref q9, .ref q10])), (q6, .inl (cI, 20, .inl (fun _ => 0))), (q7, .inl (cI, 20, .inl (fun _ => 0))), (q8, .inl (cI, 20, .inl (fun _ => 0))), (q9, .inl (cI, 20, .inl (fun _ => 0))), (q10, .inl (cI, 20, .inl (fun _ => 0))), (q11, .inr (1, [.int 0, .int 0, .int 0, .int 0, .ref q12, .ref q14, .ref q16, .ref q18, .ref q19, .int 0])), (q64, .inr (10, [.int 2, .int 0, .int 0, .ref q66, .ref q67, .ref q68, .ref q69, .ref q70, .ref q71, .ref q72, .int 0, .ref q73, .ref q74, .ref q75, .ref q76, .ref q77, .ref q78, .ref q79, .ref q80, .ref q81, .ref q82, .ref q83, .long 0, .int 0, .ref q84, .ref q85, .int 0, .ref q86, .ref q87, .int 0, .int 0, .int 0, .long 0, .long 0, .int 0, .long 0, .long 0, .ref q88, .ref q89, .int 0, .ref q90, .ref q91, .ref q92, .ref q93, .ref q94, .ref q95, .long 0, .long 0])), (q66, .inl (cI, 20, .inl (fun _ => 0))), (q67, .inl (cI, 20, .inl (fun _ => 0))), (q68, .inl (cI, 20, .inl (fun _ => 0))), (q69, .inl (cI, 20, .inl (fun _ => 0))), (q70, .inl (cI, 20, .inl (fun _ => 0)))] H) (hD : va_D (fun q : Nat => s.heap.size ≤ q) [(q1, .inr (9, [.ref q3, .ref q11, .ref q20, .ref q42, .int 0])), (q3, .inr (5, [.int 2, .int 0, .int 0, .ref q4, .ref q5, .ref q6, .ref q7, .ref q8, .ref q9, .ref q10])), (q6, .inl (cI, 20, .inl (fun _ => 0))), (q7, .inl (cI, 20, .inl (fun _ => 0))), (q8, .inl (cI, 20, .inl (fun _ => 0))), (q9, .inl (cI, 20, .inl (fun _ => 0))), (q10, .inl (cI, 20, .inl (fun _ => 0))), (q11, .inr (1, [.int 0, .int 0, .int 0, .int 0, .ref q12, .ref q14, .ref q16, .ref q18, .ref q19, .int 0])), (q64, .inr (10, [.int 2, .int 0, .int 0, .ref q66, .ref q67, .ref q68, .ref q69, .ref q70, .ref q71, .ref q72, .int 0, .ref q73, .ref q74, .ref q75, .ref q76, .ref q77, .ref q78, .ref q79, .ref q80, .ref q81, .ref q82, .ref q83, .long 0, .int 0, .ref q84, .ref q85, .int 0, .ref q86, .ref q87, .int 0, .int 0, .int 0, .long 0, .long 0, .int 0, .long 0, .long 0, .ref q88, .ref q89, .int 0, .ref q90, .ref q91, .ref q92, .ref q93, .ref q94, .ref q95, .long 0, .long 0])), (q66, .inl (cI, 20, .inl (fun _ => 0))), (q67, .inl (cI, 20, .inl (fun _ => 0))), (q68, .inl (cI, 20, .inl (fun _ => 0))), (q69, .inl (cI, 20, .inl (fun _ => 0))), (q70, .inl (cI, 20, .inl (fun _ => 0)))]) (hS : va_S (fun q : Nat => s.heap.size ≤ q) s.heap H locs) (hl : lv_has ls 4 [(3, .int 0), (2, .ref q64), (1, .ref q1), (0, .ref b)]) : W p l e room_1 s m #[Value.ref b] below meth c H locs 93 44360 (lw_Z below #[Value.ref b] s) (F0 m 163 ls []) := by
  obtain ⟨hx, hb, hr, hml, hown0, hts0, hX, hbl, hlocks, hgv⟩ := id C0
  have hown : s.vm.findClass RL = some m.cls := hown0
  have hts : ∀ w ∈ Cond.initialized RX9 :: pf_W, w.before #[Value.ref b] s = true := pf_lawW hts0
  have hA : ∀ q : Nat, s.heap.size ≤ q → (fun q : Nat => s.heap.size ≤ q) q := fun _ h => h
  have hbA : ¬ (fun q : Nat => s.heap.size ≤ q) b := Nat.not_le.mpr hbl
  refine lv_aload_n hx hb dL_law_163 rfl (lv_at hl 2 rfl) ?_
  refine lv_aload_n hx hb dL_law_164 rfl (lv_at hl 3 rfl) ?_
  refine lv_iload_n hx hb dL_law_165 rfl (lv_at hl 0 rfl) ?_
  refine lv_iconst (v := 1) hx hb dL_law_166 (by decide) ?_
  refine lv_iadd hx hb dL_law_167 ?_
  refine pf_topi (v := 1) (by decide +kernel) ?_
  refine va_sld hx hb hX hbl hbA hS (pf_vpin (k := 1) (by decide +kernel) (by decide +kernel) (by decide)) dL_law_168 ?_
  refine pf_topi (v := xs 1) (congrArg xs (by decide +kernel)) ?_
  refine lv_aload_n hx hb dL_law_169 rfl (lv_at hl 3 rfl) ?_
  refine lv_iload_n hx hb dL_law_170 rfl (lv_at hl 0 rfl) ?_
  refine lv_iconst (v := 2) hx hb dL_law_171 (by decide) ?_
  refine lv_iadd hx hb dL_law_172 ?_
  refine pf_topi (v := 2) (by decide +kernel) ?_
  refine va_sld hx hb hX hbl hbA hS (pf_vpin (k := 2) (by decide +kernel) (by decide +kernel) (by decide)) dL_law_173 ?_
  refine pf_topi (v := xs 2) (congrArg xs (by decide +kernel)) ?_
  refine lv_aload_n hx hb dL_law_174 rfl (lv_at hl 3 rfl) ?_
  refine lv_iload_n hx hb dL_law_175 rfl (lv_at hl 0 rfl) ?_
  refine lv_iconst (v := 3) hx hb dL_law_176 (by decide) ?_
  refine lv_iadd hx hb dL_law_177 ?_
  refine pf_topi (v := 3) (by decide +kernel) ?_
  refine va_sld hx hb hX hbl hbA hS (pf_vpin (k := 3) (by decide +kernel) (by decide +kernel) (by decide)) dL_law_178 ?_
  refine pf_topi (v := xs 3) (congrArg xs (by decide +kernel)) ?_
  refine lv_aload_n hx hb dL_law_179 rfl (lv_at hl 3 rfl) ?_
  refine lv_iload_n hx hb dL_law_180 rfl (lv_at hl 0 rfl) ?_
  refine lv_iconst (v := 4) hx hb dL_law_181 (by decide) ?_
  refine lv_iadd hx hb dL_law_182 ?_
  refine pf_topi (v := 4) (by decide +kernel) ?_
  refine va_sld hx hb hX hbl hbA hS (pf_vpin (k := 4) (by decide +kernel) (by decide +kernel) (by decide)) dL_law_183 ?_
  refine pf_topi (v := xs 4) (congrArg xs (by decide +kernel)) ?_
  refine lv_aload_n hx hb dL_law_184 rfl (lv_at hl 3 rfl) ?_
  refine lv_iload_n hx hb dL_law_185 rfl (lv_at hl 0 rfl) ?_
  refine lv_iconst (v := 5) hx hb dL_law_186 (by decide) ?_
  refine lv_iadd hx hb dL_law_187 ?_
  refine pf_topi (v := 5) (by decide +kernel) ?_
  refine va_sld hx hb hX hbl hbA hS (pf_vpin (k := 5) (by decide +kernel) (by decide +kernel) (by decide)) dL_law_188 ?_
  refine pf_topi (v := xs 5) (congrArg xs (by decide +kernel)) ?_
  have hPc := hP.sub (ws' := [(q1, .inr (9, [.ref q3, .ref q11, .ref q20, .ref q42, .int 0])), (q3, .inr (5, [.int 2, .int 0, .int 0, .ref q4, .ref q5, .ref q6, .ref q7, .ref q8, .ref q9, .ref q10])), (q11, .inr (1, [.int 0, .int 0, .int 0, .int 0, .ref q12, .ref q14, .ref q16, .ref q18, .ref q19, .int 0])), (q6, .inl (cI, 20, .inl (fun _ => 0))), (q7, .inl (cI, 20, .inl (fun _ => 0))), (q8, .inl (cI, 20, .inl (fun _ => 0))), (q9, .inl (cI, 20, .inl (fun _ => 0))), (q10, .inl (cI, 20, .inl (fun _ => 0)))]) [0, 1, 7, 2, 3, 4, 5, 6] rfl
  have hDc := hD.sub (ws' := [(q1, .inr (9, [.ref q3, .ref q11, .ref q20, .ref q42, .int 0])), (q3, .inr (5, [.int 2, .int 0, .int 0, .ref q4, .ref q5, .ref q6, .ref q7, .ref q8, .ref q9, .ref q10])), (q11, .inr (1, [.int 0, .int 0, .int 0, .int 0, .ref q12, .ref q14, .ref q16, .ref q18, .ref q19, .int 0])), (q6, .inl (cI, 20, .inl (fun _ => 0))), (q7, .inl (cI, 20, .inl (fun _ => 0))), (q8, .inl (cI, 20, .inl (fun _ => 0))), (q9, .inl (cI, 20, .inl (fun _ => 0))), (q10, .inl (cI, 20, .inl (fun _ => 0)))]) [0, 1, 7, 2, 3, 4, 5, 6] (by decide +kernel) rfl
  have hFc := va_free (wc := [(q1, .inr (9, [.ref q3, .ref q11, .ref q20, .ref q42, .int 0])), (q3, .inr (5, [.int 2, .int 0, .int 0, .ref q4, .ref q5, .ref q6, .ref q7, .ref q8, .ref q9, .ref q10])), (q11, .inr (1, [.int 0, .int 0, .int 0, .int 0, .ref q12, .ref q14, .ref q16, .ref q18, .ref q19, .int 0])), (q6, .inl (cI, 20, .inl (fun _ => 0))), (q7, .inl (cI, 20, .inl (fun _ => 0))), (q8, .inl (cI, 20, .inl (fun _ => 0))), (q9, .inl (cI, 20, .inl (fun _ => 0))), (q10, .inl (cI, 20, .inl (fun _ => 0)))]) hD hS hA [0, 1, 7, 2, 3, 4, 5, 6] rfl
  refine va_calli (va_runV (As := [.int (xs 1), .int (xs 2), .int (xs 3), .int (xs 4), .int (xs 5)]) (rest := []) ⟨hx, hb, hml, hown, hts⟩ (c_addArc l dC dI cI cJ cZ cO H.size q1 ((xs 1)) ((xs 2)) ((xs 3)) ((xs 4)) ((xs 5)) q3 q11 q20 q42 q4 q5 q6 q7 q8 q9 q10 0 0 0 0 q12 q14 q16 q18 q19 0 ((fun _ => 0)) ((fun _ => 0)) ((fun _ => 0)) ((fun _ => 0)) ((fun _ => 0))) (cwV 5 hts (pf_gV mw_501 mw_502 mw_503 mw_50 mw_504) rfl rfl rfl (by decide +kernel) ⟨Nat.le_of_ble_eq_true rfl, Nat.le_of_ble_eq_true rfl⟩) ⟨fun a U g mk q => by obtain ⟨q0, q1, qP, qK, qD⟩ := q; exact ⟨q0, q1, qP, va_K.moved (u := U) (U := U.calling g mk a) (Vm.Alike.refl U.vm) qK, qD⟩, va_recv hK hPc (ci := 9) (q0 := 0) rfl rfl, fun U hU hW => ⟨rfl, by rw [hU], by rw [hU]; exact hPc, va_K.moved hW.alike hK, hDc.weaken (fun _ _ _ _ => trivial)⟩⟩ rfl rfl hl.1 rfl (lv_room (Nat.le_of_ble_eq_true rfl)) dL_law_189 ⟨Nat.le_of_ble_eq_true rfl, Nat.le_of_ble_eq_true rfl⟩) hS (fun q _ h => hFc q h) hFc (fun r0 u t H1 locs ht hvm hw hB hz1 hk1 hS => ?_)
  have hw : (pf_add (xs 1) (xs 2) (xs 3) (xs 4) (xs 5)) = r0 := (show r0 = (pf_add (xs 1) (xs 2) (xs 3) (xs 4) (xs 5)) from hw).symm
  subst hw
  obtain ⟨hP, hD⟩ := va_join (wr := [(q64, .inr (10, [.int 2, .int 0, .int 0, .ref q66, .ref q67, .ref q68, .ref q69, .ref q70, .ref q71, .ref q72, .int 0, .ref q73, .ref q74, .ref q75, .ref q76, .ref q77, .ref q78, .ref q79, .ref q80, .ref q81, .ref q82, .ref q83, .long 0, .int 0, .ref q84, .ref q85, .int 0, .ref q86, .ref q87, .int 0, .int 0, .int 0, .long 0, .long 0, .int 0, .long 0, .long 0, .ref q88, .ref q89, .int 0, .ref q90, .ref q91, .ref q92, .ref q93, .ref q94, .ref q95, .long 0, .long 0])), (q66, .inl (cI, 20, .inl (fun _ => 0))), (q67, .inl (cI, 20, .inl (fun _ => 0))), (q68, .inl (cI, 20, .inl (fun _ => 0))), (q69, .inl (cI, 20, .inl (fun _ => 0))), (q70, .inl (cI, 20, .inl (fun _ => 0)))]) (w1 := []) hP hD [0, 1, 7, 2, 3, 4, 5, 6] [8, 9, 10, 11, 12, 13] rfl rfl (by decide +kernel) (by decide +kernel) hk1 hFc pf_Pn pf_Dn
  clear hPc hDc hFc hk1 hz1
  generalize H1 = H at hP hS ⊢
  have hP : va_P (dC, dI) pf_cls [(q64, .inr (10, [.int 2, .int 0, .int 0, .ref q66, .ref q67, .ref q68, .ref q69, .ref q70, .ref q71, .ref q72, .int 0, .ref q73, .ref q74, .ref q75, .ref q76, .ref q77, .ref q78, .ref q79, .ref q80, .ref q81, .ref q82, .ref q83, .long 0, .int 0, .ref q84, .ref q85, .int 0, .ref q86, .ref q87, .int 0, .int 0, .int 0, .long 0, .long 0, .int 0, .long 0, .long 0, .ref q88, .ref q89, .int 0, .ref q90, .ref q91, .ref q92, .ref q93, .ref q94, .ref q95, .long 0, .long 0])), (q66, .inl (cI, 20, .inl (fun _ => 0))), (q67, .inl (cI, 20, .inl (fun _ => 0))), (q68, .inl (cI, 20, .inl (fun _ => 0))), (q69, .inl (cI, 20, .inl (fun _ => 0))), (q70, .inl (cI, 20, .inl (fun _ => 0)))] H := hP
  have hD : va_D (fun q : Nat => s.heap.size ≤ q) [(q64, .inr (10, [.int 2, .int 0, .int 0, .ref q66, .ref q67, .ref q68, .ref q69, .ref q70, .ref q71, .ref q72, .int 0, .ref q73, .ref q74, .ref q75, .ref q76, .ref q77, .ref q78, .ref q79, .ref q80, .ref q81, .ref q82, .ref q83, .long 0, .int 0, .ref q84, .ref q85, .int 0, .ref q86, .ref q87, .int 0, .int 0, .int 0, .long 0, .long 0, .int 0, .long 0, .long 0, .ref q88, .ref q89, .int 0, .ref q90, .ref q91, .ref q92, .ref q93, .ref q94, .ref q95, .long 0, .long 0])), (q66, .inl (cI, 20, .inl (fun _ => 0))), (q67, .inl (cI, 20, .inl (fun _ => 0))), (q68, .inl (cI, 20, .inl (fun _ => 0))), (q69, .inl (cI, 20, .inl (fun _ => 0))), (q70, .inl (cI, 20, .inl (fun _ => 0)))] := hD
  refine lv_aload_n hx hb dL_law_192 rfl (lv_at hl 1 rfl) ?_
  refine lv_aload_n hx hb dL_law_193 rfl (lv_at hl 3 rfl) ?_
  refine lv_iload_n hx hb dL_law_194 rfl (lv_at hl 0 rfl) ?_
  refine lv_iconst (v := 1) hx hb dL_law_195 (by decide) ?_
  refine lv_iadd hx hb dL_law_196 ?_
  refine pf_topi (v := 1) (by decide +kernel) ?_
  refine va_sld hx hb hX hbl hbA hS (pf_vpin (k := 1) (by decide +kernel) (by decide +kernel) (by decide)) dL_law_197 ?_
  refine pf_topi (v := xs 1) (congrArg xs (by decide +kernel)) ?_
  refine lv_aload_n hx hb dL_law_198 rfl (lv_at hl 3 rfl) ?_
  refine lv_iload_n hx hb dL_law_199 rfl (lv_at hl 0 rfl) ?_
  refine lv_iconst (v := 2) hx hb dL_law_200 (by decide) ?_
  refine lv_iadd hx hb dL_law_201 ?_
  refine pf_topi (v := 2) (by decide +kernel) ?_
  refine va_sld hx hb hX hbl hbA hS (pf_vpin (k := 2) (by decide +kernel) (by decide +kernel) (by decide)) dL_law_202 ?_
  refine pf_topi (v := xs 2) (congrArg xs (by decide +kernel)) ?_
  refine lv_aload_n hx hb dL_law_203 rfl (lv_at hl 3 rfl) ?_
  refine lv_iload_n hx hb dL_law_204 rfl (lv_at hl 0 rfl) ?_
  refine lv_iconst (v := 3) hx hb dL_law_205 (by decide) ?_
  refine lv_iadd hx hb dL_law_206 ?_
  refine pf_topi (v := 3) (by decide +kernel) ?_
  refine va_sld hx hb hX hbl hbA hS (pf_vpin (k := 3) (by decide +kernel) (by decide +kernel) (by decide)) dL_law_207 ?_
  refine pf_topi (v := xs 3) (congrArg xs (by decide +kernel)) ?_
  refine lv_aload_n hx hb dL_law_208 rfl (lv_at hl 3 rfl) ?_
  refine lv_iload_n hx hb dL_law_209 rfl (lv_at hl 0 rfl) ?_
  refine lv_iconst (v := 4) hx hb dL_law_210 (by decide) ?_
  refine lv_iadd hx hb dL_law_211 ?_
  refine pf_topi (v := 4) (by decide +kernel) ?_
  refine va_sld hx hb hX hbl hbA hS (pf_vpin (k := 4) (by decide +kernel) (by decide +kernel) (by decide)) dL_law_212 ?_
  refine pf_topi (v := xs 4) (congrArg xs (by decide +kernel)) ?_
  refine lv_aload_n hx hb dL_law_213 rfl (lv_at hl 3 rfl) ?_
  refine lv_iload_n hx hb dL_law_214 rfl (lv_at hl 0 rfl) ?_
  refine lv_iconst (v := 5) hx hb dL_law_215 (by decide) ?_
  refine lv_iadd hx hb dL_law_216 ?_
  refine pf_topi (v := 5) (by decide +kernel) ?_
  refine va_sld hx hb hX hbl hbA hS (pf_vpin (k := 5) (by decide +kernel) (by decide +kernel) (by decide)) dL_law_217 ?_
  refine pf_topi (v := xs 5) (congrArg xs (by decide +kernel)) ?_
  have hPc := hP.sub (ws' := [(q64, .inr (10, [.int 2, .int 0, .int 0, .ref q66, .ref q67, .ref q68, .ref q69, .ref q70, .ref q71, .ref q72, .int 0, .ref q73, .ref q74, .ref q75, .ref q76, .ref q77, .ref q78, .ref q79, .ref q80, .ref q81, .ref q82, .ref q83, .long 0, .int 0, .ref q84, .ref q85, .int 0, .ref q86, .ref q87, .int 0, .int 0, .int 0, .long 0, .long 0, .int 0, .long 0, .long 0, .ref q88, .ref q89, .int 0, .ref q90, .ref q91, .ref q92, .ref q93, .ref q94, .ref q95, .long 0, .long 0])), (q66, .inl (cI, 20, .inl (fun _ => 0))), (q67, .inl (cI, 20, .inl (fun _ => 0))), (q68, .inl (cI, 20, .inl (fun _ => 0))), (q69, .inl (cI, 20, .inl (fun _ => 0))), (q70, .inl (cI, 20, .inl (fun _ => 0)))]) [0, 1, 2, 3, 4, 5] rfl
  have hDc := hD.sub (ws' := [(q64, .inr (10, [.int 2, .int 0, .int 0, .ref q66, .ref q67, .ref q68, .ref q69, .ref q70, .ref q71, .ref q72, .int 0, .ref q73, .ref q74, .ref q75, .ref q76, .ref q77, .ref q78, .ref q79, .ref q80, .ref q81, .ref q82, .ref q83, .long 0, .int 0, .ref q84, .ref q85, .int 0, .ref q86, .ref q87, .int 0, .int 0, .int 0, .long 0, .long 0, .int 0, .long 0, .long 0, .ref q88, .ref q89, .int 0, .ref q90, .ref q91, .ref q92, .ref q93, .ref q94, .ref q95, .long 0, .long 0])), (q66, .inl (cI, 20, .inl (fun _ => 0))), (q67, .inl (cI, 20, .inl (fun _ => 0))), (q68, .inl (cI, 20, .inl (fun _ => 0))), (q69, .inl (cI, 20, .inl (fun _ => 0))), (q70, .inl (cI, 20, .inl (fun _ => 0)))]) [0, 1, 2, 3, 4, 5] (by decide +kernel) rfl
  have hFc := va_free (wc := [(q64, .inr (10, [.int 2, .int 0, .int 0, .ref q66, .ref q67, .ref q68, .ref q69, .ref q70, .ref q71, .ref q72, .int 0, .ref q73, .ref q74, .ref q75, .ref q76, .ref q77, .ref q78, .ref q79, .ref q80, .ref q81, .ref q82, .ref q83, .long 0, .int 0, .ref q84, .ref q85, .int 0, .ref q86, .ref q87, .int 0, .int 0, .int 0, .long 0, .long 0, .int 0, .long 0, .long 0, .ref q88, .ref q89, .int 0, .ref q90, .ref q91, .ref q92, .ref q93, .ref q94, .ref q95, .long 0, .long 0])), (q66, .inl (cI, 20, .inl (fun _ => 0))), (q67, .inl (cI, 20, .inl (fun _ => 0))), (q68, .inl (cI, 20, .inl (fun _ => 0))), (q69, .inl (cI, 20, .inl (fun _ => 0))), (q70, .inl (cI, 20, .inl (fun _ => 0)))]) hD hS hA [0, 1, 2, 3, 4, 5] rfl
  refine va_calli (va_runV (As := [.int (xs 1), .int (xs 2), .int (xs 3), .int (xs 4), .int (xs 5)]) (rest := [.int (pf_add (xs 1) (xs 2) (xs 3) (xs 4) (xs 5))]) ⟨hx, hb, hml, hown, hts⟩ (c_m_addArc l dC dI cI cJ cZ cO H.size q64 ((xs 1)) ((xs 2)) ((xs 3)) ((xs 4)) ((xs 5)) q66 q67 q68 q69 q70 q71 q72 q73 q74 q75 q76 q77 q78 q79 q80 q81 q82 q83 q84 q85 q86 q87 q88 q89 q90 q91 q92 q93 q94 q95 ((fun _ => 0)) ((fun _ => 0)) ((fun _ => 0)) ((fun _ => 0)) ((fun _ => 0))) (cwV 5 hts (pf_gV mw_505 mw_506 mw_507 mw_346 mw_508) rfl rfl rfl (by decide +kernel) ⟨Nat.le_of_ble_eq_true rfl, Nat.le_of_ble_eq_true rfl⟩) ⟨fun a U g mk q => by obtain ⟨q0, q1, qP, qK, qD⟩ := q; exact ⟨q0, q1, qP, va_K.moved (u := U) (U := U.calling g mk a) (Vm.Alike.refl U.vm) qK, qD⟩, va_recv hK hPc (ci := 10) (q0 := 0) rfl rfl, fun U hU hW => ⟨rfl, by rw [hU], by rw [hU]; exact hPc, va_K.moved hW.alike hK, hDc.weaken (fun _ _ _ _ => trivial)⟩⟩ rfl rfl hl.1 rfl (lv_room (Nat.le_of_ble_eq_true rfl)) dL_law_218 ⟨Nat.le_of_ble_eq_true rfl, Nat.le_of_ble_eq_true rfl⟩) hS (fun q _ h => hFc q h) hFc (fun r1 u t H1 locs ht hvm hw hB hz1 hk1 hS => ?_)
  have hw : (pf_add (xs 1) (xs 2) (xs 3) (xs 4) (xs 5)) = r1 := (show r1 = (pf_add (xs 1) (xs 2) (xs 3) (xs 4) (xs 5)) from hw).symm
  subst hw
  obtain ⟨hP, hD⟩ := va_join (wr := []) (w1 := []) hP hD [0, 1, 2, 3, 4, 5] [] rfl rfl (by decide +kernel) (by decide +kernel) hk1 hFc pf_Pn pf_Dn
  clear hPc hDc hFc hk1 hz1
  generalize H1 = H at hP hS ⊢
  have hP : va_P (dC, dI) pf_cls [] H := hP
  have hD : va_D (fun q : Nat => s.heap.size ≤ q) [] := hD
  refine lv_icmp_eq (tgt := 1009) hx hb dL_law_221 (by decide) (fun _ => ?_) (fun c2 => absurd rfl c2)
  refine lv_iinc (v := 6) (lv' := [(3, .int 6), (2, .ref q64), (1, .ref q1), (0, .ref b)]) hx hb dL_law_1009 hl (k := 0) rfl (by decide +kernel) (by decide) rfl (fun ls hl => ?_)
  refine lv_goto (tgt := 18) hx hb dL_law_1012 (by decide) ?_
  refine lv_iload_n hx hb dL_law_18 rfl (lv_at hl 0 rfl) ?_
  refine lv_aload_n hx hb dL_law_19 rfl (lv_at hl 3 rfl) ?_
  refine va_slen hx hb hX hbl hbA hS dL_law_20 ?_
  refine pf_topi (v := 6) (by decide +kernel) ?_
  refine lv_bipush (v := 6) hx hb dL_law_21 (by decide +kernel) ?_
  refine lv_isub hx hb dL_law_23 ?_
  refine pf_topi (v := 0) (by decide +kernel) ?_
  refine lv_icmp_gt (tgt := 1015) hx hb dL_law_24 (by decide) (fun _ => ?_) (fun c3 => absurd (by decide +kernel) c3)
  refine lv_iconst (v := 1) hx hb dL_law_1015 (by decide) ?_
  refine va_forget (fun q hq => hS.2.2 q hq) ?_
  refine W.widen (k := 600000) (n := 7302250) (Nat.le_of_ble_eq_true rfl) (Nat.le_of_ble_eq_true rfl) ?_
  exact lw_ret hx hb hr hlocks dL_law_1016
set_option maxHeartbeats 40000000 in
set_option maxRecDepth 100000 in
theorem law_case_2 {p : Program} {e : Env} {s : State} {m : MethodId} {below : List Frame} {meth : Method} {c : Code} (l : Launch) {b t0 : Nat} {xs : Nat → Int32} (C0 : lw_At p s m meth c b 6 xs) (dC : Nat → ClassId) (dI : Nat → Nat → Nat) (cI cJ cZ cO : ClassId) (q1 q3 q11 q20 q42 q4 q5 q6 q7 q8 q9 q10 q64 q66 q67 q68 q69 q70 q71 q72 q73 q74 q75 q76 q77 q78 q79 q80 q81 q82 q83 q84 q85 q86 q87 q88 q89 q90 q91 q92 q93 q94 q95 : Nat) {H : Heap} {locs : List Loc} {ls : Array Slot} (hK : va_K (dC, dI) pf_cls (pf_ty cI cJ cZ cO) s) (hSt : pf_St t0 (fun q : Nat => s.heap.size ≤ q) s s.heap) (hP : va_P (dC, dI) pf_cls [(q1, .inr (9, [.ref q3, .ref q11, .ref q20, .ref q42, .int 0])), (q3, .inr (5, [.int 2, .int 0, .int 0, .ref q4, .ref q5, .ref q6, .ref q7, .ref q8, .ref q9, .ref q10])), (q64, .inr (10, [.int 2, .int 0, .int 0, .ref q66, .ref q67, .ref q68, .ref q69, .ref q70, .ref q71, .ref q72, .int 0, .ref q73, .ref q74, .ref q75, .ref q76, .ref q77, .ref q78, .ref q79, .ref q80, .ref q81, .ref q82, .ref q83, .long 0, .int 0, .ref q84, .ref q85, .int 0, .ref q86, .ref q87, .int 0, .int 0, .int 0, .long 0, .long 0, .int 0, .long 0, .long 0, .ref q88, .ref q89, .int 0, .ref q90, .ref q91, .ref q92, .ref q93, .ref q94, .ref q95, .long 0, .long 0]))] H) (hD : va_D (fun q : Nat => s.heap.size ≤ q) [(q1, .inr (9, [.ref q3, .ref q11, .ref q20, .ref q42, .int 0])), (q3, .inr (5, [.int 2, .int 0, .int 0, .ref q4, .ref q5, .ref q6, .ref q7, .ref q8, .ref q9, .ref q10])), (q64, .inr (10, [.int 2, .int 0, .int 0, .ref q66, .ref q67, .ref q68, .ref q69, .ref q70, .ref q71, .ref q72, .int 0, .ref q73, .ref q74, .ref q75, .ref q76, .ref q77, .ref q78, .ref q79, .ref q80, .ref q81, .ref q82, .ref q83, .long 0, .int 0, .ref q84, .ref q85, .int 0, .ref q86, .ref q87, .int 0, .int 0, .int 0, .long 0, .long 0, .int 0, .long 0, .long 0, .ref q88, .ref q89, .int 0, .ref q90, .ref q91, .ref q92, .ref q93, .ref q94, .ref q95, .long 0, .long 0]))]) (hS : va_S (fun q : Nat => s.heap.size ≤ q) s.heap H locs) (hl : lv_has ls 4 [(3, .int 0), (2, .ref q64), (1, .ref q1), (0, .ref b)]) : W p l e room_1 s m #[Value.ref b] below meth c H locs 93 44360 (lw_Z below #[Value.ref b] s) (F0 m 226 ls []) := by
  obtain ⟨hx, hb, hr, hml, hown0, hts0, hX, hbl, hlocks, hgv⟩ := id C0
  have hown : s.vm.findClass RL = some m.cls := hown0
  have hts : ∀ w ∈ Cond.initialized RX9 :: pf_W, w.before #[Value.ref b] s = true := pf_lawW hts0
  have hA : ∀ q : Nat, s.heap.size ≤ q → (fun q : Nat => s.heap.size ≤ q) q := fun _ h => h
  have hbA : ¬ (fun q : Nat => s.heap.size ≤ q) b := Nat.not_le.mpr hbl
  refine lv_aload_n hx hb dL_law_226 rfl (lv_at hl 2 rfl) ?_
  have hPc := hP.sub (ws' := [(q1, .inr (9, [.ref q3, .ref q11, .ref q20, .ref q42, .int 0])), (q3, .inr (5, [.int 2, .int 0, .int 0, .ref q4, .ref q5, .ref q6, .ref q7, .ref q8, .ref q9, .ref q10]))]) [0, 1] rfl
  have hDc := hD.sub (ws' := [(q1, .inr (9, [.ref q3, .ref q11, .ref q20, .ref q42, .int 0])), (q3, .inr (5, [.int 2, .int 0, .int 0, .ref q4, .ref q5, .ref q6, .ref q7, .ref q8, .ref q9, .ref q10]))]) [0, 1] (by decide +kernel) rfl
  have hFc := va_free (wc := [(q1, .inr (9, [.ref q3, .ref q11, .ref q20, .ref q42, .int 0])), (q3, .inr (5, [.int 2, .int 0, .int 0, .ref q4, .ref q5, .ref q6, .ref q7, .ref q8, .ref q9, .ref q10]))]) hD hS hA [0, 1] rfl
  refine va_calli (va_runV (As := []) (rest := []) ⟨hx, hb, hml, hown, hts⟩ (c_removeArc l dC dI cI cJ cZ cO H.size q1 q3 q11 q20 q42 q4 q5 q6 q7 q8 q9 q10) (cwV 0 hts (pf_gV mw_509 mw_510 mw_511 mw_50 mw_512) rfl rfl rfl (by decide +kernel) ⟨Nat.le_of_ble_eq_true rfl, Nat.le_of_ble_eq_true rfl⟩) ⟨fun a U g mk q => by obtain ⟨q0, q1, qP, qK, qD⟩ := q; exact ⟨q0, q1, qP, va_K.moved (u := U) (U := U.calling g mk a) (Vm.Alike.refl U.vm) qK, qD⟩, va_recv hK hPc (ci := 9) (q0 := 0) rfl rfl, fun U hU hW => ⟨rfl, by rw [hU], by rw [hU]; exact hPc, va_K.moved hW.alike hK, hDc.weaken (fun _ _ _ _ => trivial)⟩⟩ rfl rfl hl.1 rfl (lv_room (Nat.le_of_ble_eq_true rfl)) dL_law_227 ⟨Nat.le_of_ble_eq_true rfl, Nat.le_of_ble_eq_true rfl⟩) hS (fun q _ h => hFc q h) hFc (fun r0 u t H1 locs ht hvm hw hB hz1 hk1 hS => ?_)
  have hw : (-10007) = r0 := (show r0 = (-10007) from hw).symm
  subst hw
  obtain ⟨hP, hD⟩ := va_join (wr := [(q64, .inr (10, [.int 2, .int 0, .int 0, .ref q66, .ref q67, .ref q68, .ref q69, .ref q70, .ref q71, .ref q72, .int 0, .ref q73, .ref q74, .ref q75, .ref q76, .ref q77, .ref q78, .ref q79, .ref q80, .ref q81, .ref q82, .ref q83, .long 0, .int 0, .ref q84, .ref q85, .int 0, .ref q86, .ref q87, .int 0, .int 0, .int 0, .long 0, .long 0, .int 0, .long 0, .long 0, .ref q88, .ref q89, .int 0, .ref q90, .ref q91, .ref q92, .ref q93, .ref q94, .ref q95, .long 0, .long 0]))]) (w1 := []) hP hD [0, 1] [2] rfl rfl (by decide +kernel) (by decide +kernel) hk1 hFc pf_Pn pf_Dn
  clear hPc hDc hFc hk1 hz1
  generalize H1 = H at hP hS ⊢
  have hP : va_P (dC, dI) pf_cls [(q64, .inr (10, [.int 2, .int 0, .int 0, .ref q66, .ref q67, .ref q68, .ref q69, .ref q70, .ref q71, .ref q72, .int 0, .ref q73, .ref q74, .ref q75, .ref q76, .ref q77, .ref q78, .ref q79, .ref q80, .ref q81, .ref q82, .ref q83, .long 0, .int 0, .ref q84, .ref q85, .int 0, .ref q86, .ref q87, .int 0, .int 0, .int 0, .long 0, .long 0, .int 0, .long 0, .long 0, .ref q88, .ref q89, .int 0, .ref q90, .ref q91, .ref q92, .ref q93, .ref q94, .ref q95, .long 0, .long 0]))] H := hP
  have hD : va_D (fun q : Nat => s.heap.size ≤ q) [(q64, .inr (10, [.int 2, .int 0, .int 0, .ref q66, .ref q67, .ref q68, .ref q69, .ref q70, .ref q71, .ref q72, .int 0, .ref q73, .ref q74, .ref q75, .ref q76, .ref q77, .ref q78, .ref q79, .ref q80, .ref q81, .ref q82, .ref q83, .long 0, .int 0, .ref q84, .ref q85, .int 0, .ref q86, .ref q87, .int 0, .int 0, .int 0, .long 0, .long 0, .int 0, .long 0, .long 0, .ref q88, .ref q89, .int 0, .ref q90, .ref q91, .ref q92, .ref q93, .ref q94, .ref q95, .long 0, .long 0]))] := hD
  refine lv_aload_n hx hb dL_law_230 rfl (lv_at hl 1 rfl) ?_
  have hPc := hP.sub (ws' := [(q64, .inr (10, [.int 2, .int 0, .int 0, .ref q66, .ref q67, .ref q68, .ref q69, .ref q70, .ref q71, .ref q72, .int 0, .ref q73, .ref q74, .ref q75, .ref q76, .ref q77, .ref q78, .ref q79, .ref q80, .ref q81, .ref q82, .ref q83, .long 0, .int 0, .ref q84, .ref q85, .int 0, .ref q86, .ref q87, .int 0, .int 0, .int 0, .long 0, .long 0, .int 0, .long 0, .long 0, .ref q88, .ref q89, .int 0, .ref q90, .ref q91, .ref q92, .ref q93, .ref q94, .ref q95, .long 0, .long 0]))]) [0] rfl
  have hDc := hD.sub (ws' := [(q64, .inr (10, [.int 2, .int 0, .int 0, .ref q66, .ref q67, .ref q68, .ref q69, .ref q70, .ref q71, .ref q72, .int 0, .ref q73, .ref q74, .ref q75, .ref q76, .ref q77, .ref q78, .ref q79, .ref q80, .ref q81, .ref q82, .ref q83, .long 0, .int 0, .ref q84, .ref q85, .int 0, .ref q86, .ref q87, .int 0, .int 0, .int 0, .long 0, .long 0, .int 0, .long 0, .long 0, .ref q88, .ref q89, .int 0, .ref q90, .ref q91, .ref q92, .ref q93, .ref q94, .ref q95, .long 0, .long 0]))]) [0] (by decide +kernel) rfl
  have hFc := va_free (wc := [(q64, .inr (10, [.int 2, .int 0, .int 0, .ref q66, .ref q67, .ref q68, .ref q69, .ref q70, .ref q71, .ref q72, .int 0, .ref q73, .ref q74, .ref q75, .ref q76, .ref q77, .ref q78, .ref q79, .ref q80, .ref q81, .ref q82, .ref q83, .long 0, .int 0, .ref q84, .ref q85, .int 0, .ref q86, .ref q87, .int 0, .int 0, .int 0, .long 0, .long 0, .int 0, .long 0, .long 0, .ref q88, .ref q89, .int 0, .ref q90, .ref q91, .ref q92, .ref q93, .ref q94, .ref q95, .long 0, .long 0]))]) hD hS hA [0] rfl
  refine va_calli (va_runV (As := []) (rest := [.int (-10007)]) ⟨hx, hb, hml, hown, hts⟩ (c_m_removeArc l dC dI cI cJ cZ cO H.size q64 q66 q67 q68 q69 q70 q71 q72 q73 q74 q75 q76 q77 q78 q79 q80 q81 q82 q83 q84 q85 q86 q87 q88 q89 q90 q91 q92 q93 q94 q95) (cwV 0 hts (pf_gV mw_513 mw_514 mw_515 mw_346 mw_516) rfl rfl rfl (by decide +kernel) ⟨Nat.le_of_ble_eq_true rfl, Nat.le_of_ble_eq_true rfl⟩) ⟨fun a U g mk q => by obtain ⟨q0, q1, qP, qK, qD⟩ := q; exact ⟨q0, q1, qP, va_K.moved (u := U) (U := U.calling g mk a) (Vm.Alike.refl U.vm) qK, qD⟩, va_recv hK hPc (ci := 10) (q0 := 0) rfl rfl, fun U hU hW => ⟨rfl, by rw [hU], by rw [hU]; exact hPc, va_K.moved hW.alike hK, hDc.weaken (fun _ _ _ _ => trivial)⟩⟩ rfl rfl hl.1 rfl (lv_room (Nat.le_of_ble_eq_true rfl)) dL_law_231 ⟨Nat.le_of_ble_eq_true rfl, Nat.le_of_ble_eq_true rfl⟩) hS (fun q _ h => hFc q h) hFc (fun r1 u t H1 locs ht hvm hw hB hz1 hk1 hS => ?_)
  have hw : (-10007) = r1 := (show r1 = (-10007) from hw).symm
  subst hw
  obtain ⟨hP, hD⟩ := va_join (wr := []) (w1 := []) hP hD [0] [] rfl rfl (by decide +kernel) (by decide +kernel) hk1 hFc pf_Pn pf_Dn
  clear hPc hDc hFc hk1 hz1
  generalize H1 = H at hP hS ⊢
  have hP : va_P (dC, dI) pf_cls [] H := hP
  have hD : va_D (fun q : Nat => s.heap.size ≤ q) [] := hD
  refine lv_icmp_eq (tgt := 1009) hx hb dL_law_234 (by decide) (fun _ => ?_) (fun c2 => absurd (by decide +kernel) c2)
  refine lv_iinc (v := 6) (lv' := [(3, .int 6), (2, .ref q64), (1, .ref q1), (0, .ref b)]) hx hb dL_law_1009 hl (k := 0) rfl (by decide +kernel) (by decide) rfl (fun ls hl => ?_)
  refine lv_goto (tgt := 18) hx hb dL_law_1012 (by decide) ?_
  refine lv_iload_n hx hb dL_law_18 rfl (lv_at hl 0 rfl) ?_
  refine lv_aload_n hx hb dL_law_19 rfl (lv_at hl 3 rfl) ?_
  refine va_slen hx hb hX hbl hbA hS dL_law_20 ?_
  refine pf_topi (v := 6) (by decide +kernel) ?_
  refine lv_bipush (v := 6) hx hb dL_law_21 (by decide +kernel) ?_
  refine lv_isub hx hb dL_law_23 ?_
  refine pf_topi (v := 0) (by decide +kernel) ?_
  refine lv_icmp_gt (tgt := 1015) hx hb dL_law_24 (by decide) (fun _ => ?_) (fun c3 => absurd (by decide +kernel) c3)
  refine lv_iconst (v := 1) hx hb dL_law_1015 (by decide) ?_
  refine va_forget (fun q hq => hS.2.2 q hq) ?_
  refine W.widen (k := 600000) (n := 7302250) (Nat.le_of_ble_eq_true rfl) (Nat.le_of_ble_eq_true rfl) ?_
  exact lw_ret hx hb hr hlocks dL_law_1016
set_option maxHeartbeats 40000000 in
set_option maxRecDepth 100000 in
theorem law_case_3 {p : Program} {e : Env} {s : State} {m : MethodId} {below : List Frame} {meth : Method} {c : Code} (l : Launch) {b t0 : Nat} {xs : Nat → Int32} (C0 : lw_At p s m meth c b 6 xs) (dC : Nat → ClassId) (dI : Nat → Nat → Nat) (cI cJ cZ cO : ClassId) (q1 q3 q11 q20 q42 q4 q5 q6 q7 q8 q9 q10 q64 q66 q67 q68 q69 q70 q71 q72 q73 q74 q75 q76 q77 q78 q79 q80 q81 q82 q83 q84 q85 q86 q87 q88 q89 q90 q91 q92 q93 q94 q95 : Nat) {H : Heap} {locs : List Loc} {ls : Array Slot} (hK : va_K (dC, dI) pf_cls (pf_ty cI cJ cZ cO) s) (hSt : pf_St t0 (fun q : Nat => s.heap.size ≤ q) s s.heap) (hP : va_P (dC, dI) pf_cls [(q1, .inr (9, [.ref q3, .ref q11, .ref q20, .ref q42, .int 0])), (q3, .inr (5, [.int 2, .int 0, .int 0, .ref q4, .ref q5, .ref q6, .ref q7, .ref q8, .ref q9, .ref q10])), (q64, .inr (10, [.int 2, .int 0, .int 0, .ref q66, .ref q67, .ref q68, .ref q69, .ref q70, .ref q71, .ref q72, .int 0, .ref q73, .ref q74, .ref q75, .ref q76, .ref q77, .ref q78, .ref q79, .ref q80, .ref q81, .ref q82, .ref q83, .long 0, .int 0, .ref q84, .ref q85, .int 0, .ref q86, .ref q87, .int 0, .int 0, .int 0, .long 0, .long 0, .int 0, .long 0, .long 0, .ref q88, .ref q89, .int 0, .ref q90, .ref q91, .ref q92, .ref q93, .ref q94, .ref q95, .long 0, .long 0]))] H) (hD : va_D (fun q : Nat => s.heap.size ≤ q) [(q1, .inr (9, [.ref q3, .ref q11, .ref q20, .ref q42, .int 0])), (q3, .inr (5, [.int 2, .int 0, .int 0, .ref q4, .ref q5, .ref q6, .ref q7, .ref q8, .ref q9, .ref q10])), (q64, .inr (10, [.int 2, .int 0, .int 0, .ref q66, .ref q67, .ref q68, .ref q69, .ref q70, .ref q71, .ref q72, .int 0, .ref q73, .ref q74, .ref q75, .ref q76, .ref q77, .ref q78, .ref q79, .ref q80, .ref q81, .ref q82, .ref q83, .long 0, .int 0, .ref q84, .ref q85, .int 0, .ref q86, .ref q87, .int 0, .int 0, .int 0, .long 0, .long 0, .int 0, .long 0, .long 0, .ref q88, .ref q89, .int 0, .ref q90, .ref q91, .ref q92, .ref q93, .ref q94, .ref q95, .long 0, .long 0]))]) (hS : va_S (fun q : Nat => s.heap.size ≤ q) s.heap H locs) (hl : lv_has ls 4 [(3, .int 0), (2, .ref q64), (1, .ref q1), (0, .ref b)]) : W p l e room_1 s m #[Value.ref b] below meth c H locs 93 44360 (lw_Z below #[Value.ref b] s) (F0 m 239 ls []) := by
  obtain ⟨hx, hb, hr, hml, hown0, hts0, hX, hbl, hlocks, hgv⟩ := id C0
  have hown : s.vm.findClass RL = some m.cls := hown0
  have hts : ∀ w ∈ Cond.initialized RX9 :: pf_W, w.before #[Value.ref b] s = true := pf_lawW hts0
  have hA : ∀ q : Nat, s.heap.size ≤ q → (fun q : Nat => s.heap.size ≤ q) q := fun _ h => h
  have hbA : ¬ (fun q : Nat => s.heap.size ≤ q) b := Nat.not_le.mpr hbl
  refine lv_aload_n hx hb dL_law_239 rfl (lv_at hl 2 rfl) ?_
  refine lv_aload_n hx hb dL_law_240 rfl (lv_at hl 3 rfl) ?_
  refine lv_iload_n hx hb dL_law_241 rfl (lv_at hl 0 rfl) ?_
  refine lv_iconst (v := 1) hx hb dL_law_242 (by decide) ?_
  refine lv_iadd hx hb dL_law_243 ?_
  refine pf_topi (v := 1) (by decide +kernel) ?_
  refine va_sld hx hb hX hbl hbA hS (pf_vpin (k := 1) (by decide +kernel) (by decide +kernel) (by decide)) dL_law_244 ?_
  refine pf_topi (v := xs 1) (congrArg xs (by decide +kernel)) ?_
  refine lv_aload_n hx hb dL_law_245 rfl (lv_at hl 3 rfl) ?_
  refine lv_iload_n hx hb dL_law_246 rfl (lv_at hl 0 rfl) ?_
  refine lv_iconst (v := 2) hx hb dL_law_247 (by decide) ?_
  refine lv_iadd hx hb dL_law_248 ?_
  refine pf_topi (v := 2) (by decide +kernel) ?_
  refine va_sld hx hb hX hbl hbA hS (pf_vpin (k := 2) (by decide +kernel) (by decide +kernel) (by decide)) dL_law_249 ?_
  refine pf_topi (v := xs 2) (congrArg xs (by decide +kernel)) ?_
  refine lv_aload_n hx hb dL_law_250 rfl (lv_at hl 3 rfl) ?_
  refine lv_iload_n hx hb dL_law_251 rfl (lv_at hl 0 rfl) ?_
  refine lv_iconst (v := 3) hx hb dL_law_252 (by decide) ?_
  refine lv_iadd hx hb dL_law_253 ?_
  refine pf_topi (v := 3) (by decide +kernel) ?_
  refine va_sld hx hb hX hbl hbA hS (pf_vpin (k := 3) (by decide +kernel) (by decide +kernel) (by decide)) dL_law_254 ?_
  refine pf_topi (v := xs 3) (congrArg xs (by decide +kernel)) ?_
  have hPc := hP.sub (ws' := [(q1, .inr (9, [.ref q3, .ref q11, .ref q20, .ref q42, .int 0])), (q3, .inr (5, [.int 2, .int 0, .int 0, .ref q4, .ref q5, .ref q6, .ref q7, .ref q8, .ref q9, .ref q10]))]) [0, 1] rfl
  have hDc := hD.sub (ws' := [(q1, .inr (9, [.ref q3, .ref q11, .ref q20, .ref q42, .int 0])), (q3, .inr (5, [.int 2, .int 0, .int 0, .ref q4, .ref q5, .ref q6, .ref q7, .ref q8, .ref q9, .ref q10]))]) [0, 1] (by decide +kernel) rfl
  have hFc := va_free (wc := [(q1, .inr (9, [.ref q3, .ref q11, .ref q20, .ref q42, .int 0])), (q3, .inr (5, [.int 2, .int 0, .int 0, .ref q4, .ref q5, .ref q6, .ref q7, .ref q8, .ref q9, .ref q10]))]) hD hS hA [0, 1] rfl
  refine va_calli (va_runV (As := [.int (xs 1), .int (xs 2), .int (xs 3)]) (rest := []) ⟨hx, hb, hml, hown, hts⟩ (c_setArc l dC dI cI cJ cZ cO H.size q1 ((xs 1)) ((xs 2)) ((xs 3)) q3 q11 q20 q42 q4 q5 q6 q7 q8 q9 q10) (cwV 3 hts (pf_gV mw_517 mw_518 mw_519 mw_50 mw_520) rfl rfl rfl (by decide +kernel) ⟨Nat.le_of_ble_eq_true rfl, Nat.le_of_ble_eq_true rfl⟩) ⟨fun a U g mk q => by obtain ⟨q0, q1, qP, qK, qD⟩ := q; exact ⟨q0, q1, qP, va_K.moved (u := U) (U := U.calling g mk a) (Vm.Alike.refl U.vm) qK, qD⟩, va_recv hK hPc (ci := 9) (q0 := 0) rfl rfl, fun U hU hW => ⟨rfl, by rw [hU], by rw [hU]; exact hPc, va_K.moved hW.alike hK, hDc.weaken (fun _ _ _ _ => trivial)⟩⟩ rfl rfl hl.1 rfl (lv_room (Nat.le_of_ble_eq_true rfl)) dL_law_255 ⟨Nat.le_of_ble_eq_true rfl, Nat.le_of_ble_eq_true rfl⟩) hS (fun q _ h => hFc q h) hFc (fun r0 u t H1 locs ht hvm hw hB hz1 hk1 hS => ?_)
  have hw : (-10001) = r0 := (show r0 = (-10001) from hw).symm
  subst hw
  obtain ⟨hP, hD⟩ := va_join (wr := [(q64, .inr (10, [.int 2, .int 0, .int 0, .ref q66, .ref q67, .ref q68, .ref q69, .ref q70, .ref q71, .ref q72, .int 0, .ref q73, .ref q74, .ref q75, .ref q76, .ref q77, .ref q78, .ref q79, .ref q80, .ref q81, .ref q82, .ref q83, .long 0, .int 0, .ref q84, .ref q85, .int 0, .ref q86, .ref q87, .int 0, .int 0, .int 0, .long 0, .long 0, .int 0, .long 0, .long 0, .ref q88, .ref q89, .int 0, .ref q90, .ref q91, .ref q92, .ref q93, .ref q94, .ref q95, .long 0, .long 0]))]) (w1 := []) hP hD [0, 1] [2] rfl rfl (by decide +kernel) (by decide +kernel) hk1 hFc pf_Pn pf_Dn
  clear hPc hDc hFc hk1 hz1
  generalize H1 = H at hP hS ⊢
  have hP : va_P (dC, dI) pf_cls [(q64, .inr (10, [.int 2, .int 0, .int 0, .ref q66, .ref q67, .ref q68, .ref q69, .ref q70, .ref q71, .ref q72, .int 0, .ref q73, .ref q74, .ref q75, .ref q76, .ref q77, .ref q78, .ref q79, .ref q80, .ref q81, .ref q82, .ref q83, .long 0, .int 0, .ref q84, .ref q85, .int 0, .ref q86, .ref q87, .int 0, .int 0, .int 0, .long 0, .long 0, .int 0, .long 0, .long 0, .ref q88, .ref q89, .int 0, .ref q90, .ref q91, .ref q92, .ref q93, .ref q94, .ref q95, .long 0, .long 0]))] H := hP
  have hD : va_D (fun q : Nat => s.heap.size ≤ q) [(q64, .inr (10, [.int 2, .int 0, .int 0, .ref q66, .ref q67, .ref q68, .ref q69, .ref q70, .ref q71, .ref q72, .int 0, .ref q73, .ref q74, .ref q75, .ref q76, .ref q77, .ref q78, .ref q79, .ref q80, .ref q81, .ref q82, .ref q83, .long 0, .int 0, .ref q84, .ref q85, .int 0, .ref q86, .ref q87, .int 0, .int 0, .int 0, .long 0, .long 0, .int 0, .long 0, .long 0, .ref q88, .ref q89, .int 0, .ref q90, .ref q91, .ref q92, .ref q93, .ref q94, .ref q95, .long 0, .long 0]))] := hD
  refine lv_aload_n hx hb dL_law_258 rfl (lv_at hl 1 rfl) ?_
  refine lv_aload_n hx hb dL_law_259 rfl (lv_at hl 3 rfl) ?_
  refine lv_iload_n hx hb dL_law_260 rfl (lv_at hl 0 rfl) ?_
  refine lv_iconst (v := 1) hx hb dL_law_261 (by decide) ?_
  refine lv_iadd hx hb dL_law_262 ?_
  refine pf_topi (v := 1) (by decide +kernel) ?_
  refine va_sld hx hb hX hbl hbA hS (pf_vpin (k := 1) (by decide +kernel) (by decide +kernel) (by decide)) dL_law_263 ?_
  refine pf_topi (v := xs 1) (congrArg xs (by decide +kernel)) ?_
  refine lv_aload_n hx hb dL_law_264 rfl (lv_at hl 3 rfl) ?_
  refine lv_iload_n hx hb dL_law_265 rfl (lv_at hl 0 rfl) ?_
  refine lv_iconst (v := 2) hx hb dL_law_266 (by decide) ?_
  refine lv_iadd hx hb dL_law_267 ?_
  refine pf_topi (v := 2) (by decide +kernel) ?_
  refine va_sld hx hb hX hbl hbA hS (pf_vpin (k := 2) (by decide +kernel) (by decide +kernel) (by decide)) dL_law_268 ?_
  refine pf_topi (v := xs 2) (congrArg xs (by decide +kernel)) ?_
  refine lv_aload_n hx hb dL_law_269 rfl (lv_at hl 3 rfl) ?_
  refine lv_iload_n hx hb dL_law_270 rfl (lv_at hl 0 rfl) ?_
  refine lv_iconst (v := 3) hx hb dL_law_271 (by decide) ?_
  refine lv_iadd hx hb dL_law_272 ?_
  refine pf_topi (v := 3) (by decide +kernel) ?_
  refine va_sld hx hb hX hbl hbA hS (pf_vpin (k := 3) (by decide +kernel) (by decide +kernel) (by decide)) dL_law_273 ?_
  refine pf_topi (v := xs 3) (congrArg xs (by decide +kernel)) ?_
  have hPc := hP.sub (ws' := [(q64, .inr (10, [.int 2, .int 0, .int 0, .ref q66, .ref q67, .ref q68, .ref q69, .ref q70, .ref q71, .ref q72, .int 0, .ref q73, .ref q74, .ref q75, .ref q76, .ref q77, .ref q78, .ref q79, .ref q80, .ref q81, .ref q82, .ref q83, .long 0, .int 0, .ref q84, .ref q85, .int 0, .ref q86, .ref q87, .int 0, .int 0, .int 0, .long 0, .long 0, .int 0, .long 0, .long 0, .ref q88, .ref q89, .int 0, .ref q90, .ref q91, .ref q92, .ref q93, .ref q94, .ref q95, .long 0, .long 0]))]) [0] rfl
  have hDc := hD.sub (ws' := [(q64, .inr (10, [.int 2, .int 0, .int 0, .ref q66, .ref q67, .ref q68, .ref q69, .ref q70, .ref q71, .ref q72, .int 0, .ref q73, .ref q74, .ref q75, .ref q76, .ref q77, .ref q78, .ref q79, .ref q80, .ref q81, .ref q82, .ref q83, .long 0, .int 0, .ref q84, .ref q85, .int 0, .ref q86, .ref q87, .int 0, .int 0, .int 0, .long 0, .long 0, .int 0, .long 0, .long 0, .ref q88, .ref q89, .int 0, .ref q90, .ref q91, .ref q92, .ref q93, .ref q94, .ref q95, .long 0, .long 0]))]) [0] (by decide +kernel) rfl
  have hFc := va_free (wc := [(q64, .inr (10, [.int 2, .int 0, .int 0, .ref q66, .ref q67, .ref q68, .ref q69, .ref q70, .ref q71, .ref q72, .int 0, .ref q73, .ref q74, .ref q75, .ref q76, .ref q77, .ref q78, .ref q79, .ref q80, .ref q81, .ref q82, .ref q83, .long 0, .int 0, .ref q84, .ref q85, .int 0, .ref q86, .ref q87, .int 0, .int 0, .int 0, .long 0, .long 0, .int 0, .long 0, .long 0, .ref q88, .ref q89, .int 0, .ref q90, .ref q91, .ref q92, .ref q93, .ref q94, .ref q95, .long 0, .long 0]))]) hD hS hA [0] rfl
  refine va_calli (va_runV (As := [.int (xs 1), .int (xs 2), .int (xs 3)]) (rest := [.int (-10001)]) ⟨hx, hb, hml, hown, hts⟩ (c_m_setArc l dC dI cI cJ cZ cO H.size q64 ((xs 1)) ((xs 2)) ((xs 3)) q66 q67 q68 q69 q70 q71 q72 q73 q74 q75 q76 q77 q78 q79 q80 q81 q82 q83 q84 q85 q86 q87 q88 q89 q90 q91 q92 q93 q94 q95) (cwV 3 hts (pf_gV mw_521 mw_522 mw_523 mw_346 mw_524) rfl rfl rfl (by decide +kernel) ⟨Nat.le_of_ble_eq_true rfl, Nat.le_of_ble_eq_true rfl⟩) ⟨fun a U g mk q => by obtain ⟨q0, q1, qP, qK, qD⟩ := q; exact ⟨q0, q1, qP, va_K.moved (u := U) (U := U.calling g mk a) (Vm.Alike.refl U.vm) qK, qD⟩, va_recv hK hPc (ci := 10) (q0 := 0) rfl rfl, fun U hU hW => ⟨rfl, by rw [hU], by rw [hU]; exact hPc, va_K.moved hW.alike hK, hDc.weaken (fun _ _ _ _ => trivial)⟩⟩ rfl rfl hl.1 rfl (lv_room (Nat.le_of_ble_eq_true rfl)) dL_law_274 ⟨Nat.le_of_ble_eq_true rfl, Nat.le_of_ble_eq_true rfl⟩) hS (fun q _ h => hFc q h) hFc (fun r1 u t H1 locs ht hvm hw hB hz1 hk1 hS => ?_)
  have hw : (-10001) = r1 := (show r1 = (-10001) from hw).symm
  subst hw
  obtain ⟨hP, hD⟩ := va_join (wr := []) (w1 := []) hP hD [0] [] rfl rfl (by decide +kernel) (by decide +kernel) hk1 hFc pf_Pn pf_Dn
  clear hPc hDc hFc hk1 hz1
  generalize H1 = H at hP hS ⊢
  have hP : va_P (dC, dI) pf_cls [] H := hP
  have hD : va_D (fun q : Nat => s.heap.size ≤ q) [] := hD
  refine lv_icmp_eq (tgt := 1009) hx hb dL_law_277 (by decide) (fun _ => ?_) (fun c2 => absurd (by decide +kernel) c2)
  refine lv_iinc (v := 6) (lv' := [(3, .int 6), (2, .ref q64), (1, .ref q1), (0, .ref b)]) hx hb dL_law_1009 hl (k := 0) rfl (by decide +kernel) (by decide) rfl (fun ls hl => ?_)
  refine lv_goto (tgt := 18) hx hb dL_law_1012 (by decide) ?_
  refine lv_iload_n hx hb dL_law_18 rfl (lv_at hl 0 rfl) ?_
  refine lv_aload_n hx hb dL_law_19 rfl (lv_at hl 3 rfl) ?_
  refine va_slen hx hb hX hbl hbA hS dL_law_20 ?_
  refine pf_topi (v := 6) (by decide +kernel) ?_
  refine lv_bipush (v := 6) hx hb dL_law_21 (by decide +kernel) ?_
  refine lv_isub hx hb dL_law_23 ?_
  refine pf_topi (v := 0) (by decide +kernel) ?_
  refine lv_icmp_gt (tgt := 1015) hx hb dL_law_24 (by decide) (fun _ => ?_) (fun c3 => absurd (by decide +kernel) c3)
  refine lv_iconst (v := 1) hx hb dL_law_1015 (by decide) ?_
  refine va_forget (fun q hq => hS.2.2 q hq) ?_
  refine W.widen (k := 600000) (n := 7302250) (Nat.le_of_ble_eq_true rfl) (Nat.le_of_ble_eq_true rfl) ?_
  exact lw_ret hx hb hr hlocks dL_law_1016
set_option maxHeartbeats 40000000 in
set_option maxRecDepth 100000 in
theorem law_case_4 {p : Program} {e : Env} {s : State} {m : MethodId} {below : List Frame} {meth : Method} {c : Code} (l : Launch) {b t0 : Nat} {xs : Nat → Int32} (C0 : lw_At p s m meth c b 6 xs) (dC : Nat → ClassId) (dI : Nat → Nat → Nat) (cI cJ cZ cO : ClassId) (q1 q3 q11 q20 q42 q4 q5 q6 q7 q8 q9 q10 q12 q14 q16 q18 q19 q64 q66 q67 q68 q69 q70 q71 q72 q73 q74 q75 q76 q77 q78 q79 q80 q81 q82 q83 q84 q85 q86 q87 q88 q89 q90 q91 q92 q93 q94 q95 : Nat) {H : Heap} {locs : List Loc} {ls : Array Slot} (hK : va_K (dC, dI) pf_cls (pf_ty cI cJ cZ cO) s) (hSt : pf_St t0 (fun q : Nat => s.heap.size ≤ q) s s.heap) (hP : va_P (dC, dI) pf_cls [(q1, .inr (9, [.ref q3, .ref q11, .ref q20, .ref q42, .int 0])), (q3, .inr (5, [.int 2, .int 0, .int 0, .ref q4, .ref q5, .ref q6, .ref q7, .ref q8, .ref q9, .ref q10])), (q4, .inl (cI, 8, .inl (fun _ => 0))), (q5, .inl (cI, 8, .inl (fun _ => 0))), (q11, .inr (1, [.int 0, .int 0, .int 0, .int 0, .ref q12, .ref q14, .ref q16, .ref q18, .ref q19, .int 0])), (q64, .inr (10, [.int 2, .int 0, .int 0, .ref q66, .ref q67, .ref q68, .ref q69, .ref q70, .ref q71, .ref q72, .int 0, .ref q73, .ref q74, .ref q75, .ref q76, .ref q77, .ref q78, .ref q79, .ref q80, .ref q81, .ref q82, .ref q83, .long 0, .int 0, .ref q84, .ref q85, .int 0, .ref q86, .ref q87, .int 0, .int 0, .int 0, .long 0, .long 0, .int 0, .long 0, .long 0, .ref q88, .ref q89, .int 0, .ref q90, .ref q91, .ref q92, .ref q93, .ref q94, .ref q95, .long 0, .long 0])), (q71, .inl (cI, 8, .inl (fun _ => 0))), (q72, .inl (cI, 8, .inl (fun _ => 0)))] H) (hD : va_D (fun q : Nat => s.heap.size ≤ q) [(q1, .inr (9, [.ref q3, .ref q11, .ref q20, .ref q42, .int 0])), (q3, .inr (5, [.int 2, .int 0, .int 0, .ref q4, .ref q5, .ref q6, .ref q7, .ref q8, .ref q9, .ref q10])), (q4, .inl (cI, 8, .inl (fun _ => 0))), (q5, .inl (cI, 8, .inl (fun _ => 0))), (q11, .inr (1, [.int 0, .int 0, .int 0, .int 0, .ref q12, .ref q14, .ref q16, .ref q18, .ref q19, .int 0])), (q64, .inr (10, [.int 2, .int 0, .int 0, .ref q66, .ref q67, .ref q68, .ref q69, .ref q70, .ref q71, .ref q72, .int 0, .ref q73, .ref q74, .ref q75, .ref q76, .ref q77, .ref q78, .ref q79, .ref q80, .ref q81, .ref q82, .ref q83, .long 0, .int 0, .ref q84, .ref q85, .int 0, .ref q86, .ref q87, .int 0, .int 0, .int 0, .long 0, .long 0, .int 0, .long 0, .long 0, .ref q88, .ref q89, .int 0, .ref q90, .ref q91, .ref q92, .ref q93, .ref q94, .ref q95, .long 0, .long 0])), (q71, .inl (cI, 8, .inl (fun _ => 0))), (q72, .inl (cI, 8, .inl (fun _ => 0)))]) (hS : va_S (fun q : Nat => s.heap.size ≤ q) s.heap H locs) (hl : lv_has ls 4 [(3, .int 0), (2, .ref q64), (1, .ref q1), (0, .ref b)]) : W p l e room_1 s m #[Value.ref b] below meth c H locs 93 44360 (lw_Z below #[Value.ref b] s) (F0 m 282 ls []) := by
  obtain ⟨hx, hb, hr, hml, hown0, hts0, hX, hbl, hlocks, hgv⟩ := id C0
  have hown : s.vm.findClass RL = some m.cls := hown0
  have hts : ∀ w ∈ Cond.initialized RX9 :: pf_W, w.before #[Value.ref b] s = true := pf_lawW hts0
  have hA : ∀ q : Nat, s.heap.size ≤ q → (fun q : Nat => s.heap.size ≤ q) q := fun _ h => h
  have hbA : ¬ (fun q : Nat => s.heap.size ≤ q) b := Nat.not_le.mpr hbl
  refine lv_aload_n hx hb dL_law_282 rfl (lv_at hl 2 rfl) ?_
  refine lv_aload_n hx hb dL_law_283 rfl (lv_at hl 3 rfl) ?_
  refine lv_iload_n hx hb dL_law_284 rfl (lv_at hl 0 rfl) ?_
  refine lv_iconst (v := 1) hx hb dL_law_285 (by decide) ?_
  refine lv_iadd hx hb dL_law_286 ?_
  refine pf_topi (v := 1) (by decide +kernel) ?_
  refine va_sld hx hb hX hbl hbA hS (pf_vpin (k := 1) (by decide +kernel) (by decide +kernel) (by decide)) dL_law_287 ?_
  refine pf_topi (v := xs 1) (congrArg xs (by decide +kernel)) ?_
  refine lv_aload_n hx hb dL_law_288 rfl (lv_at hl 3 rfl) ?_
  refine lv_iload_n hx hb dL_law_289 rfl (lv_at hl 0 rfl) ?_
  refine lv_iconst (v := 2) hx hb dL_law_290 (by decide) ?_
  refine lv_iadd hx hb dL_law_291 ?_
  refine pf_topi (v := 2) (by decide +kernel) ?_
  refine va_sld hx hb hX hbl hbA hS (pf_vpin (k := 2) (by decide +kernel) (by decide +kernel) (by decide)) dL_law_292 ?_
  refine pf_topi (v := xs 2) (congrArg xs (by decide +kernel)) ?_
  refine lv_aload_n hx hb dL_law_293 rfl (lv_at hl 3 rfl) ?_
  refine lv_iload_n hx hb dL_law_294 rfl (lv_at hl 0 rfl) ?_
  refine lv_iconst (v := 3) hx hb dL_law_295 (by decide) ?_
  refine lv_iadd hx hb dL_law_296 ?_
  refine pf_topi (v := 3) (by decide +kernel) ?_
  refine va_sld hx hb hX hbl hbA hS (pf_vpin (k := 3) (by decide +kernel) (by decide +kernel) (by decide)) dL_law_297 ?_
  refine pf_topi (v := xs 3) (congrArg xs (by decide +kernel)) ?_
  have hPc := hP.sub (ws' := [(q1, .inr (9, [.ref q3, .ref q11, .ref q20, .ref q42, .int 0])), (q3, .inr (5, [.int 2, .int 0, .int 0, .ref q4, .ref q5, .ref q6, .ref q7, .ref q8, .ref q9, .ref q10])), (q4, .inl (cI, 8, .inl (fun _ => 0))), (q5, .inl (cI, 8, .inl (fun _ => 0))), (q11, .inr (1, [.int 0, .int 0, .int 0, .int 0, .ref q12, .ref q14, .ref q16, .ref q18, .ref q19, .int 0]))]) [0, 1, 2, 3, 4] rfl
  have hDc := hD.sub (ws' := [(q1, .inr (9, [.ref q3, .ref q11, .ref q20, .ref q42, .int 0])), (q3, .inr (5, [.int 2, .int 0, .int 0, .ref q4, .ref q5, .ref q6, .ref q7, .ref q8, .ref q9, .ref q10])), (q4, .inl (cI, 8, .inl (fun _ => 0))), (q5, .inl (cI, 8, .inl (fun _ => 0))), (q11, .inr (1, [.int 0, .int 0, .int 0, .int 0, .ref q12, .ref q14, .ref q16, .ref q18, .ref q19, .int 0]))]) [0, 1, 2, 3, 4] (by decide +kernel) rfl
  have hFc := va_free (wc := [(q1, .inr (9, [.ref q3, .ref q11, .ref q20, .ref q42, .int 0])), (q3, .inr (5, [.int 2, .int 0, .int 0, .ref q4, .ref q5, .ref q6, .ref q7, .ref q8, .ref q9, .ref q10])), (q4, .inl (cI, 8, .inl (fun _ => 0))), (q5, .inl (cI, 8, .inl (fun _ => 0))), (q11, .inr (1, [.int 0, .int 0, .int 0, .int 0, .ref q12, .ref q14, .ref q16, .ref q18, .ref q19, .int 0]))]) hD hS hA [0, 1, 2, 3, 4] rfl
  refine va_calli (va_runV (As := [.int (xs 1), .int (xs 2), .int (xs 3)]) (rest := []) ⟨hx, hb, hml, hown, hts⟩ (c_setSupply l dC dI cI cJ cZ cO H.size q1 ((xs 1)) ((xs 2)) ((xs 3)) q3 q11 q20 q42 q4 q5 q6 q7 q8 q9 q10 0 0 0 0 q12 q14 q16 q18 q19 0) (cwV 3 hts (pf_gV mw_525 mw_526 mw_527 mw_50 mw_528) rfl rfl rfl (by decide +kernel) ⟨Nat.le_of_ble_eq_true rfl, Nat.le_of_ble_eq_true rfl⟩) ⟨fun a U g mk q => by obtain ⟨q0, q1, qP, qK, qD⟩ := q; exact ⟨q0, q1, qP, va_K.moved (u := U) (U := U.calling g mk a) (Vm.Alike.refl U.vm) qK, qD⟩, va_recv hK hPc (ci := 9) (q0 := 0) rfl rfl, fun U hU hW => ⟨rfl, by rw [hU], by rw [hU]; exact hPc, va_K.moved hW.alike hK, hDc.weaken (fun _ _ _ _ => trivial)⟩⟩ rfl rfl hl.1 rfl (lv_room (Nat.le_of_ble_eq_true rfl)) dL_law_298 ⟨Nat.le_of_ble_eq_true rfl, Nat.le_of_ble_eq_true rfl⟩) hS (fun q _ h => hFc q h) hFc (fun r0 u t H1 locs ht hvm hw hB hz1 hk1 hS => ?_)
  have hw : (pf_supB (xs 1) (xs 2) (xs 3)) = r0 := (show r0 = (pf_supB (xs 1) (xs 2) (xs 3)) from hw).symm
  subst hw
  obtain ⟨hP, hD⟩ := va_join (wr := [(q64, .inr (10, [.int 2, .int 0, .int 0, .ref q66, .ref q67, .ref q68, .ref q69, .ref q70, .ref q71, .ref q72, .int 0, .ref q73, .ref q74, .ref q75, .ref q76, .ref q77, .ref q78, .ref q79, .ref q80, .ref q81, .ref q82, .ref q83, .long 0, .int 0, .ref q84, .ref q85, .int 0, .ref q86, .ref q87, .int 0, .int 0, .int 0, .long 0, .long 0, .int 0, .long 0, .long 0, .ref q88, .ref q89, .int 0, .ref q90, .ref q91, .ref q92, .ref q93, .ref q94, .ref q95, .long 0, .long 0])), (q71, .inl (cI, 8, .inl (fun _ => 0))), (q72, .inl (cI, 8, .inl (fun _ => 0)))]) (w1 := []) hP hD [0, 1, 2, 3, 4] [5, 6, 7] rfl rfl (by decide +kernel) (by decide +kernel) hk1 hFc pf_Pn pf_Dn
  clear hPc hDc hFc hk1 hz1
  generalize H1 = H at hP hS ⊢
  have hP : va_P (dC, dI) pf_cls [(q64, .inr (10, [.int 2, .int 0, .int 0, .ref q66, .ref q67, .ref q68, .ref q69, .ref q70, .ref q71, .ref q72, .int 0, .ref q73, .ref q74, .ref q75, .ref q76, .ref q77, .ref q78, .ref q79, .ref q80, .ref q81, .ref q82, .ref q83, .long 0, .int 0, .ref q84, .ref q85, .int 0, .ref q86, .ref q87, .int 0, .int 0, .int 0, .long 0, .long 0, .int 0, .long 0, .long 0, .ref q88, .ref q89, .int 0, .ref q90, .ref q91, .ref q92, .ref q93, .ref q94, .ref q95, .long 0, .long 0])), (q71, .inl (cI, 8, .inl (fun _ => 0))), (q72, .inl (cI, 8, .inl (fun _ => 0)))] H := hP
  have hD : va_D (fun q : Nat => s.heap.size ≤ q) [(q64, .inr (10, [.int 2, .int 0, .int 0, .ref q66, .ref q67, .ref q68, .ref q69, .ref q70, .ref q71, .ref q72, .int 0, .ref q73, .ref q74, .ref q75, .ref q76, .ref q77, .ref q78, .ref q79, .ref q80, .ref q81, .ref q82, .ref q83, .long 0, .int 0, .ref q84, .ref q85, .int 0, .ref q86, .ref q87, .int 0, .int 0, .int 0, .long 0, .long 0, .int 0, .long 0, .long 0, .ref q88, .ref q89, .int 0, .ref q90, .ref q91, .ref q92, .ref q93, .ref q94, .ref q95, .long 0, .long 0])), (q71, .inl (cI, 8, .inl (fun _ => 0))), (q72, .inl (cI, 8, .inl (fun _ => 0)))] := hD
  refine lv_aload_n hx hb dL_law_301 rfl (lv_at hl 1 rfl) ?_
  refine lv_aload_n hx hb dL_law_302 rfl (lv_at hl 3 rfl) ?_
  refine lv_iload_n hx hb dL_law_303 rfl (lv_at hl 0 rfl) ?_
  refine lv_iconst (v := 1) hx hb dL_law_304 (by decide) ?_
  refine lv_iadd hx hb dL_law_305 ?_
  refine pf_topi (v := 1) (by decide +kernel) ?_
  refine va_sld hx hb hX hbl hbA hS (pf_vpin (k := 1) (by decide +kernel) (by decide +kernel) (by decide)) dL_law_306 ?_
  refine pf_topi (v := xs 1) (congrArg xs (by decide +kernel)) ?_
  refine lv_aload_n hx hb dL_law_307 rfl (lv_at hl 3 rfl) ?_
  refine lv_iload_n hx hb dL_law_308 rfl (lv_at hl 0 rfl) ?_
  refine lv_iconst (v := 2) hx hb dL_law_309 (by decide) ?_
  refine lv_iadd hx hb dL_law_310 ?_
  refine pf_topi (v := 2) (by decide +kernel) ?_
  refine va_sld hx hb hX hbl hbA hS (pf_vpin (k := 2) (by decide +kernel) (by decide +kernel) (by decide)) dL_law_311 ?_
  refine pf_topi (v := xs 2) (congrArg xs (by decide +kernel)) ?_
  refine lv_aload_n hx hb dL_law_312 rfl (lv_at hl 3 rfl) ?_
  refine lv_iload_n hx hb dL_law_313 rfl (lv_at hl 0 rfl) ?_
  refine lv_iconst (v := 3) hx hb dL_law_314 (by decide) ?_
  refine lv_iadd hx hb dL_law_315 ?_
  refine pf_topi (v := 3) (by decide +kernel) ?_
  refine va_sld hx hb hX hbl hbA hS (pf_vpin (k := 3) (by decide +kernel) (by decide +kernel) (by decide)) dL_law_316 ?_
  refine pf_topi (v := xs 3) (congrArg xs (by decide +kernel)) ?_
  have hPc := hP.sub (ws' := [(q64, .inr (10, [.int 2, .int 0, .int 0, .ref q66, .ref q67, .ref q68, .ref q69, .ref q70, .ref q71, .ref q72, .int 0, .ref q73, .ref q74, .ref q75, .ref q76, .ref q77, .ref q78, .ref q79, .ref q80, .ref q81, .ref q82, .ref q83, .long 0, .int 0, .ref q84, .ref q85, .int 0, .ref q86, .ref q87, .int 0, .int 0, .int 0, .long 0, .long 0, .int 0, .long 0, .long 0, .ref q88, .ref q89, .int 0, .ref q90, .ref q91, .ref q92, .ref q93, .ref q94, .ref q95, .long 0, .long 0])), (q71, .inl (cI, 8, .inl (fun _ => 0))), (q72, .inl (cI, 8, .inl (fun _ => 0)))]) [0, 1, 2] rfl
  have hDc := hD.sub (ws' := [(q64, .inr (10, [.int 2, .int 0, .int 0, .ref q66, .ref q67, .ref q68, .ref q69, .ref q70, .ref q71, .ref q72, .int 0, .ref q73, .ref q74, .ref q75, .ref q76, .ref q77, .ref q78, .ref q79, .ref q80, .ref q81, .ref q82, .ref q83, .long 0, .int 0, .ref q84, .ref q85, .int 0, .ref q86, .ref q87, .int 0, .int 0, .int 0, .long 0, .long 0, .int 0, .long 0, .long 0, .ref q88, .ref q89, .int 0, .ref q90, .ref q91, .ref q92, .ref q93, .ref q94, .ref q95, .long 0, .long 0])), (q71, .inl (cI, 8, .inl (fun _ => 0))), (q72, .inl (cI, 8, .inl (fun _ => 0)))]) [0, 1, 2] (by decide +kernel) rfl
  have hFc := va_free (wc := [(q64, .inr (10, [.int 2, .int 0, .int 0, .ref q66, .ref q67, .ref q68, .ref q69, .ref q70, .ref q71, .ref q72, .int 0, .ref q73, .ref q74, .ref q75, .ref q76, .ref q77, .ref q78, .ref q79, .ref q80, .ref q81, .ref q82, .ref q83, .long 0, .int 0, .ref q84, .ref q85, .int 0, .ref q86, .ref q87, .int 0, .int 0, .int 0, .long 0, .long 0, .int 0, .long 0, .long 0, .ref q88, .ref q89, .int 0, .ref q90, .ref q91, .ref q92, .ref q93, .ref q94, .ref q95, .long 0, .long 0])), (q71, .inl (cI, 8, .inl (fun _ => 0))), (q72, .inl (cI, 8, .inl (fun _ => 0)))]) hD hS hA [0, 1, 2] rfl
  refine va_calli (va_runV (As := [.int (xs 1), .int (xs 2), .int (xs 3)]) (rest := [.int (pf_supB (xs 1) (xs 2) (xs 3))]) ⟨hx, hb, hml, hown, hts⟩ (c_m_setSupply l dC dI cI cJ cZ cO H.size q64 ((xs 1)) ((xs 2)) ((xs 3)) q66 q67 q68 q69 q70 q71 q72 q73 q74 q75 q76 q77 q78 q79 q80 q81 q82 q83 q84 q85 q86 q87 q88 q89 q90 q91 q92 q93 q94 q95) (cwV 3 hts (pf_gV mw_529 mw_530 mw_531 mw_346 mw_532) rfl rfl rfl (by decide +kernel) ⟨Nat.le_of_ble_eq_true rfl, Nat.le_of_ble_eq_true rfl⟩) ⟨fun a U g mk q => by obtain ⟨q0, q1, qP, qK, qD⟩ := q; exact ⟨q0, q1, qP, va_K.moved (u := U) (U := U.calling g mk a) (Vm.Alike.refl U.vm) qK, qD⟩, va_recv hK hPc (ci := 10) (q0 := 0) rfl rfl, fun U hU hW => ⟨rfl, by rw [hU], by rw [hU]; exact hPc, va_K.moved hW.alike hK, hDc.weaken (fun _ _ _ _ => trivial)⟩⟩ rfl rfl hl.1 rfl (lv_room (Nat.le_of_ble_eq_true rfl)) dL_law_317 ⟨Nat.le_of_ble_eq_true rfl, Nat.le_of_ble_eq_true rfl⟩) hS (fun q _ h => hFc q h) hFc (fun r1 u t H1 locs ht hvm hw hB hz1 hk1 hS => ?_)
  have hw : (pf_supB (xs 1) (xs 2) (xs 3)) = r1 := (show r1 = (pf_supB (xs 1) (xs 2) (xs 3)) from hw).symm
  subst hw
  obtain ⟨hP, hD⟩ := va_join (wr := []) (w1 := []) hP hD [0, 1, 2] [] rfl rfl (by decide +kernel) (by decide +kernel) hk1 hFc pf_Pn pf_Dn
  clear hPc hDc hFc hk1 hz1
  generalize H1 = H at hP hS ⊢
  have hP : va_P (dC, dI) pf_cls [] H := hP
  have hD : va_D (fun q : Nat => s.heap.size ≤ q) [] := hD
  refine lv_icmp_eq (tgt := 1009) hx hb dL_law_320 (by decide) (fun _ => ?_) (fun c2 => absurd rfl c2)
  refine lv_iinc (v := 6) (lv' := [(3, .int 6), (2, .ref q64), (1, .ref q1), (0, .ref b)]) hx hb dL_law_1009 hl (k := 0) rfl (by decide +kernel) (by decide) rfl (fun ls hl => ?_)
  refine lv_goto (tgt := 18) hx hb dL_law_1012 (by decide) ?_
  refine lv_iload_n hx hb dL_law_18 rfl (lv_at hl 0 rfl) ?_
  refine lv_aload_n hx hb dL_law_19 rfl (lv_at hl 3 rfl) ?_
  refine va_slen hx hb hX hbl hbA hS dL_law_20 ?_
  refine pf_topi (v := 6) (by decide +kernel) ?_
  refine lv_bipush (v := 6) hx hb dL_law_21 (by decide +kernel) ?_
  refine lv_isub hx hb dL_law_23 ?_
  refine pf_topi (v := 0) (by decide +kernel) ?_
  refine lv_icmp_gt (tgt := 1015) hx hb dL_law_24 (by decide) (fun _ => ?_) (fun c3 => absurd (by decide +kernel) c3)
  refine lv_iconst (v := 1) hx hb dL_law_1015 (by decide) ?_
  refine va_forget (fun q hq => hS.2.2 q hq) ?_
  refine W.widen (k := 600000) (n := 7302250) (Nat.le_of_ble_eq_true rfl) (Nat.le_of_ble_eq_true rfl) ?_
  exact lw_ret hx hb hr hlocks dL_law_1016
set_option maxHeartbeats 40000000 in
set_option maxRecDepth 100000 in
theorem law_case_5 {p : Program} {e : Env} {s : State} {m : MethodId} {below : List Frame} {meth : Method} {c : Code} (l : Launch) {b t0 : Nat} {xs : Nat → Int32} (C0 : lw_At p s m meth c b 6 xs) (dC : Nat → ClassId) (dI : Nat → Nat → Nat) (cI cJ cZ cO : ClassId) (q1 q3 q11 q20 q42 q4 q5 q6 q7 q8 q9 q10 q12 q14 q16 q18 q19 q64 q66 q67 q68 q69 q70 q71 q72 q73 q74 q75 q76 q77 q78 q79 q80 q81 q82 q83 q84 q85 q86 q87 q88 q89 q90 q91 q92 q93 q94 q95 : Nat) {H : Heap} {locs : List Loc} {ls : Array Slot} (hK : va_K (dC, dI) pf_cls (pf_ty cI cJ cZ cO) s) (hSt : pf_St t0 (fun q : Nat => s.heap.size ≤ q) s s.heap) (hP : va_P (dC, dI) pf_cls [(q1, .inr (9, [.ref q3, .ref q11, .ref q20, .ref q42, .int 0])), (q3, .inr (5, [.int 2, .int 0, .int 0, .ref q4, .ref q5, .ref q6, .ref q7, .ref q8, .ref q9, .ref q10])), (q11, .inr (1, [.int 0, .int 0, .int 0, .int 0, .ref q12, .ref q14, .ref q16, .ref q18, .ref q19, .int 0])), (q64, .inr (10, [.int 2, .int 0, .int 0, .ref q66, .ref q67, .ref q68, .ref q69, .ref q70, .ref q71, .ref q72, .int 0, .ref q73, .ref q74, .ref q75, .ref q76, .ref q77, .ref q78, .ref q79, .ref q80, .ref q81, .ref q82, .ref q83, .long 0, .int 0, .ref q84, .ref q85, .int 0, .ref q86, .ref q87, .int 0, .int 0, .int 0, .long 0, .long 0, .int 0, .long 0, .long 0, .ref q88, .ref q89, .int 0, .ref q90, .ref q91, .ref q92, .ref q93, .ref q94, .ref q95, .long 0, .long 0]))] H) (hD : va_D (fun q : Nat => s.heap.size ≤ q) [(q1, .inr (9, [.ref q3, .ref q11, .ref q20, .ref q42, .int 0])), (q3, .inr (5, [.int 2, .int 0, .int 0, .ref q4, .ref q5, .ref q6, .ref q7, .ref q8, .ref q9, .ref q10])), (q11, .inr (1, [.int 0, .int 0, .int 0, .int 0, .ref q12, .ref q14, .ref q16, .ref q18, .ref q19, .int 0])), (q64, .inr (10, [.int 2, .int 0, .int 0, .ref q66, .ref q67, .ref q68, .ref q69, .ref q70, .ref q71, .ref q72, .int 0, .ref q73, .ref q74, .ref q75, .ref q76, .ref q77, .ref q78, .ref q79, .ref q80, .ref q81, .ref q82, .ref q83, .long 0, .int 0, .ref q84, .ref q85, .int 0, .ref q86, .ref q87, .int 0, .int 0, .int 0, .long 0, .long 0, .int 0, .long 0, .long 0, .ref q88, .ref q89, .int 0, .ref q90, .ref q91, .ref q92, .ref q93, .ref q94, .ref q95, .long 0, .long 0]))]) (hS : va_S (fun q : Nat => s.heap.size ≤ q) s.heap H locs) (hl : lv_has ls 4 [(3, .int 0), (2, .ref q64), (1, .ref q1), (0, .ref b)]) : W p l e room_1 s m #[Value.ref b] below meth c H locs 93 44360 (lw_Z below #[Value.ref b] s) (F0 m 325 ls []) := by
  obtain ⟨hx, hb, hr, hml, hown0, hts0, hX, hbl, hlocks, hgv⟩ := id C0
  have hown : s.vm.findClass RL = some m.cls := hown0
  have hts : ∀ w ∈ Cond.initialized RX9 :: pf_W, w.before #[Value.ref b] s = true := pf_lawW hts0
  have hA : ∀ q : Nat, s.heap.size ≤ q → (fun q : Nat => s.heap.size ≤ q) q := fun _ h => h
  have hbA : ¬ (fun q : Nat => s.heap.size ≤ q) b := Nat.not_le.mpr hbl
  refine lv_aload_n hx hb dL_law_325 rfl (lv_at hl 2 rfl) ?_
  refine lv_aload_n hx hb dL_law_326 rfl (lv_at hl 3 rfl) ?_
  refine lv_iload_n hx hb dL_law_327 rfl (lv_at hl 0 rfl) ?_
  refine lv_iconst (v := 1) hx hb dL_law_328 (by decide) ?_
  refine lv_iadd hx hb dL_law_329 ?_
  refine pf_topi (v := 1) (by decide +kernel) ?_
  refine va_sld hx hb hX hbl hbA hS (pf_vpin (k := 1) (by decide +kernel) (by decide +kernel) (by decide)) dL_law_330 ?_
  refine pf_topi (v := xs 1) (congrArg xs (by decide +kernel)) ?_
  have hPc := hP.sub (ws' := [(q1, .inr (9, [.ref q3, .ref q11, .ref q20, .ref q42, .int 0])), (q3, .inr (5, [.int 2, .int 0, .int 0, .ref q4, .ref q5, .ref q6, .ref q7, .ref q8, .ref q9, .ref q10])), (q11, .inr (1, [.int 0, .int 0, .int 0, .int 0, .ref q12, .ref q14, .ref q16, .ref q18, .ref q19, .int 0]))]) [0, 1, 2] rfl
  have hDc := hD.sub (ws' := [(q1, .inr (9, [.ref q3, .ref q11, .ref q20, .ref q42, .int 0])), (q3, .inr (5, [.int 2, .int 0, .int 0, .ref q4, .ref q5, .ref q6, .ref q7, .ref q8, .ref q9, .ref q10])), (q11, .inr (1, [.int 0, .int 0, .int 0, .int 0, .ref q12, .ref q14, .ref q16, .ref q18, .ref q19, .int 0]))]) [0, 1, 2] (by decide +kernel) rfl
  have hFc := va_free (wc := [(q1, .inr (9, [.ref q3, .ref q11, .ref q20, .ref q42, .int 0])), (q3, .inr (5, [.int 2, .int 0, .int 0, .ref q4, .ref q5, .ref q6, .ref q7, .ref q8, .ref q9, .ref q10])), (q11, .inr (1, [.int 0, .int 0, .int 0, .int 0, .ref q12, .ref q14, .ref q16, .ref q18, .ref q19, .int 0]))]) hD hS hA [0, 1, 2] rfl
  refine va_calli (va_runV (As := [.int (xs 1)]) (rest := []) ⟨hx, hb, hml, hown, hts⟩ (c_setMode l dC dI cI cJ cZ cO H.size q1 ((xs 1)) q3 q11 q20 q42 q4 q5 q6 q7 q8 q9 q10 0 0 0 0 q12 q14 q16 q18 q19 0) (cwV 1 hts (pf_gV mw_533 mw_534 mw_535 mw_50 mw_536) rfl rfl rfl (by decide +kernel) ⟨Nat.le_of_ble_eq_true rfl, Nat.le_of_ble_eq_true rfl⟩) ⟨fun a U g mk q => by obtain ⟨q0, q1, qP, qK, qD⟩ := q; exact ⟨q0, q1, qP, va_K.moved (u := U) (U := U.calling g mk a) (Vm.Alike.refl U.vm) qK, qD⟩, va_recv hK hPc (ci := 9) (q0 := 0) rfl rfl, fun U hU hW => ⟨rfl, by rw [hU], by rw [hU]; exact hPc, va_K.moved hW.alike hK, hDc.weaken (fun _ _ _ _ => trivial)⟩⟩ rfl rfl hl.1 rfl (lv_room (Nat.le_of_ble_eq_true rfl)) dL_law_331 ⟨Nat.le_of_ble_eq_true rfl, Nat.le_of_ble_eq_true rfl⟩) hS (fun q _ h => hFc q h) hFc (fun r0 u t H1 locs ht hvm hw hB hz1 hk1 hS => ?_)
  have hw : (pf_mode (xs 1)) = r0 := (show r0 = (pf_mode (xs 1)) from hw).symm
  subst hw
  obtain ⟨hP, hD⟩ := va_join (wr := [(q64, .inr (10, [.int 2, .int 0, .int 0, .ref q66, .ref q67, .ref q68, .ref q69, .ref q70, .ref q71, .ref q72, .int 0, .ref q73, .ref q74, .ref q75, .ref q76, .ref q77, .ref q78, .ref q79, .ref q80, .ref q81, .ref q82, .ref q83, .long 0, .int 0, .ref q84, .ref q85, .int 0, .ref q86, .ref q87, .int 0, .int 0, .int 0, .long 0, .long 0, .int 0, .long 0, .long 0, .ref q88, .ref q89, .int 0, .ref q90, .ref q91, .ref q92, .ref q93, .ref q94, .ref q95, .long 0, .long 0]))]) (w1 := []) hP hD [0, 1, 2] [3] rfl rfl (by decide +kernel) (by decide +kernel) hk1 hFc pf_Pn pf_Dn
  clear hPc hDc hFc hk1 hz1
  generalize H1 = H at hP hS ⊢
  have hP : va_P (dC, dI) pf_cls [(q64, .inr (10, [.int 2, .int 0, .int 0, .ref q66, .ref q67, .ref q68, .ref q69, .ref q70, .ref q71, .ref q72, .int 0, .ref q73, .ref q74, .ref q75, .ref q76, .ref q77, .ref q78, .ref q79, .ref q80, .ref q81, .ref q82, .ref q83, .long 0, .int 0, .ref q84, .ref q85, .int 0, .ref q86, .ref q87, .int 0, .int 0, .int 0, .long 0, .long 0, .int 0, .long 0, .long 0, .ref q88, .ref q89, .int 0, .ref q90, .ref q91, .ref q92, .ref q93, .ref q94, .ref q95, .long 0, .long 0]))] H := hP
  have hD : va_D (fun q : Nat => s.heap.size ≤ q) [(q64, .inr (10, [.int 2, .int 0, .int 0, .ref q66, .ref q67, .ref q68, .ref q69, .ref q70, .ref q71, .ref q72, .int 0, .ref q73, .ref q74, .ref q75, .ref q76, .ref q77, .ref q78, .ref q79, .ref q80, .ref q81, .ref q82, .ref q83, .long 0, .int 0, .ref q84, .ref q85, .int 0, .ref q86, .ref q87, .int 0, .int 0, .int 0, .long 0, .long 0, .int 0, .long 0, .long 0, .ref q88, .ref q89, .int 0, .ref q90, .ref q91, .ref q92, .ref q93, .ref q94, .ref q95, .long 0, .long 0]))] := hD
  refine lv_aload_n hx hb dL_law_334 rfl (lv_at hl 1 rfl) ?_
  refine lv_aload_n hx hb dL_law_335 rfl (lv_at hl 3 rfl) ?_
  refine lv_iload_n hx hb dL_law_336 rfl (lv_at hl 0 rfl) ?_
  refine lv_iconst (v := 1) hx hb dL_law_337 (by decide) ?_
  refine lv_iadd hx hb dL_law_338 ?_
  refine pf_topi (v := 1) (by decide +kernel) ?_
  refine va_sld hx hb hX hbl hbA hS (pf_vpin (k := 1) (by decide +kernel) (by decide +kernel) (by decide)) dL_law_339 ?_
  refine pf_topi (v := xs 1) (congrArg xs (by decide +kernel)) ?_
  have hPc := hP.sub (ws' := [(q64, .inr (10, [.int 2, .int 0, .int 0, .ref q66, .ref q67, .ref q68, .ref q69, .ref q70, .ref q71, .ref q72, .int 0, .ref q73, .ref q74, .ref q75, .ref q76, .ref q77, .ref q78, .ref q79, .ref q80, .ref q81, .ref q82, .ref q83, .long 0, .int 0, .ref q84, .ref q85, .int 0, .ref q86, .ref q87, .int 0, .int 0, .int 0, .long 0, .long 0, .int 0, .long 0, .long 0, .ref q88, .ref q89, .int 0, .ref q90, .ref q91, .ref q92, .ref q93, .ref q94, .ref q95, .long 0, .long 0]))]) [0] rfl
  have hDc := hD.sub (ws' := [(q64, .inr (10, [.int 2, .int 0, .int 0, .ref q66, .ref q67, .ref q68, .ref q69, .ref q70, .ref q71, .ref q72, .int 0, .ref q73, .ref q74, .ref q75, .ref q76, .ref q77, .ref q78, .ref q79, .ref q80, .ref q81, .ref q82, .ref q83, .long 0, .int 0, .ref q84, .ref q85, .int 0, .ref q86, .ref q87, .int 0, .int 0, .int 0, .long 0, .long 0, .int 0, .long 0, .long 0, .ref q88, .ref q89, .int 0, .ref q90, .ref q91, .ref q92, .ref q93, .ref q94, .ref q95, .long 0, .long 0]))]) [0] (by decide +kernel) rfl
  have hFc := va_free (wc := [(q64, .inr (10, [.int 2, .int 0, .int 0, .ref q66, .ref q67, .ref q68, .ref q69, .ref q70, .ref q71, .ref q72, .int 0, .ref q73, .ref q74, .ref q75, .ref q76, .ref q77, .ref q78, .ref q79, .ref q80, .ref q81, .ref q82, .ref q83, .long 0, .int 0, .ref q84, .ref q85, .int 0, .ref q86, .ref q87, .int 0, .int 0, .int 0, .long 0, .long 0, .int 0, .long 0, .long 0, .ref q88, .ref q89, .int 0, .ref q90, .ref q91, .ref q92, .ref q93, .ref q94, .ref q95, .long 0, .long 0]))]) hD hS hA [0] rfl
  refine va_calli (va_runV (As := [.int (xs 1)]) (rest := [.int (pf_mode (xs 1))]) ⟨hx, hb, hml, hown, hts⟩ (c_m_setMode l dC dI cI cJ cZ cO H.size q64 ((xs 1)) q66 q67 q68 q69 q70 q71 q72 q73 q74 q75 q76 q77 q78 q79 q80 q81 q82 q83 q84 q85 q86 q87 q88 q89 q90 q91 q92 q93 q94 q95) (cwV 1 hts (pf_gV mw_537 mw_538 mw_539 mw_346 mw_540) rfl rfl rfl (by decide +kernel) ⟨Nat.le_of_ble_eq_true rfl, Nat.le_of_ble_eq_true rfl⟩) ⟨fun a U g mk q => by obtain ⟨q0, q1, qP, qK, qD⟩ := q; exact ⟨q0, q1, qP, va_K.moved (u := U) (U := U.calling g mk a) (Vm.Alike.refl U.vm) qK, qD⟩, va_recv hK hPc (ci := 10) (q0 := 0) rfl rfl, fun U hU hW => ⟨rfl, by rw [hU], by rw [hU]; exact hPc, va_K.moved hW.alike hK, hDc.weaken (fun _ _ _ _ => trivial)⟩⟩ rfl rfl hl.1 rfl (lv_room (Nat.le_of_ble_eq_true rfl)) dL_law_340 ⟨Nat.le_of_ble_eq_true rfl, Nat.le_of_ble_eq_true rfl⟩) hS (fun q _ h => hFc q h) hFc (fun r1 u t H1 locs ht hvm hw hB hz1 hk1 hS => ?_)
  have hw : (pf_mode (xs 1)) = r1 := (show r1 = (pf_mode (xs 1)) from hw).symm
  subst hw
  obtain ⟨hP, hD⟩ := va_join (wr := []) (w1 := []) hP hD [0] [] rfl rfl (by decide +kernel) (by decide +kernel) hk1 hFc pf_Pn pf_Dn
  clear hPc hDc hFc hk1 hz1
  generalize H1 = H at hP hS ⊢
  have hP : va_P (dC, dI) pf_cls [] H := hP
  have hD : va_D (fun q : Nat => s.heap.size ≤ q) [] := hD
  refine lv_icmp_eq (tgt := 1009) hx hb dL_law_343 (by decide) (fun _ => ?_) (fun c2 => absurd rfl c2)
  refine lv_iinc (v := 6) (lv' := [(3, .int 6), (2, .ref q64), (1, .ref q1), (0, .ref b)]) hx hb dL_law_1009 hl (k := 0) rfl (by decide +kernel) (by decide) rfl (fun ls hl => ?_)
  refine lv_goto (tgt := 18) hx hb dL_law_1012 (by decide) ?_
  refine lv_iload_n hx hb dL_law_18 rfl (lv_at hl 0 rfl) ?_
  refine lv_aload_n hx hb dL_law_19 rfl (lv_at hl 3 rfl) ?_
  refine va_slen hx hb hX hbl hbA hS dL_law_20 ?_
  refine pf_topi (v := 6) (by decide +kernel) ?_
  refine lv_bipush (v := 6) hx hb dL_law_21 (by decide +kernel) ?_
  refine lv_isub hx hb dL_law_23 ?_
  refine pf_topi (v := 0) (by decide +kernel) ?_
  refine lv_icmp_gt (tgt := 1015) hx hb dL_law_24 (by decide) (fun _ => ?_) (fun c3 => absurd (by decide +kernel) c3)
  refine lv_iconst (v := 1) hx hb dL_law_1015 (by decide) ?_
  refine va_forget (fun q hq => hS.2.2 q hq) ?_
  refine W.widen (k := 600000) (n := 7302250) (Nat.le_of_ble_eq_true rfl) (Nat.le_of_ble_eq_true rfl) ?_
  exact lw_ret hx hb hr hlocks dL_law_1016
set_option maxHeartbeats 40000000 in
set_option maxRecDepth 100000 in
theorem law_case_6 {p : Program} {e : Env} {s : State} {m : MethodId} {below : List Frame} {meth : Method} {c : Code} (l : Launch) {b t0 : Nat} {xs : Nat → Int32} (C0 : lw_At p s m meth c b 6 xs) (dC : Nat → ClassId) (dI : Nat → Nat → Nat) (cI cJ cZ cO : ClassId) (q1 q3 q11 q20 q42 q4 q5 q6 q7 q8 q9 q10 q64 q66 q67 q68 q69 q70 q71 q72 q73 q74 q75 q76 q77 q78 q79 q80 q81 q82 q83 q84 q85 q86 q87 q88 q89 q90 q91 q92 q93 q94 q95 : Nat) {H : Heap} {locs : List Loc} {ls : Array Slot} (hK : va_K (dC, dI) pf_cls (pf_ty cI cJ cZ cO) s) (hSt : pf_St t0 (fun q : Nat => s.heap.size ≤ q) s s.heap) (hP : va_P (dC, dI) pf_cls [(q1, .inr (9, [.ref q3, .ref q11, .ref q20, .ref q42, .int 0])), (q3, .inr (5, [.int 2, .int 0, .int 0, .ref q4, .ref q5, .ref q6, .ref q7, .ref q8, .ref q9, .ref q10])), (q64, .inr (10, [.int 2, .int 0, .int 0, .ref q66, .ref q67, .ref q68, .ref q69, .ref q70, .ref q71, .ref q72, .int 0, .ref q73, .ref q74, .ref q75, .ref q76, .ref q77, .ref q78, .ref q79, .ref q80, .ref q81, .ref q82, .ref q83, .long 0, .int 0, .ref q84, .ref q85, .int 0, .ref q86, .ref q87, .int 0, .int 0, .int 0, .long 0, .long 0, .int 0, .long 0, .long 0, .ref q88, .ref q89, .int 0, .ref q90, .ref q91, .ref q92, .ref q93, .ref q94, .ref q95, .long 0, .long 0]))] H) (hD : va_D (fun q : Nat => s.heap.size ≤ q) [(q1, .inr (9, [.ref q3, .ref q11, .ref q20, .ref q42, .int 0])), (q3, .inr (5, [.int 2, .int 0, .int 0, .ref q4, .ref q5, .ref q6, .ref q7, .ref q8, .ref q9, .ref q10])), (q64, .inr (10, [.int 2, .int 0, .int 0, .ref q66, .ref q67, .ref q68, .ref q69, .ref q70, .ref q71, .ref q72, .int 0, .ref q73, .ref q74, .ref q75, .ref q76, .ref q77, .ref q78, .ref q79, .ref q80, .ref q81, .ref q82, .ref q83, .long 0, .int 0, .ref q84, .ref q85, .int 0, .ref q86, .ref q87, .int 0, .int 0, .int 0, .long 0, .long 0, .int 0, .long 0, .long 0, .ref q88, .ref q89, .int 0, .ref q90, .ref q91, .ref q92, .ref q93, .ref q94, .ref q95, .long 0, .long 0]))]) (hS : va_S (fun q : Nat => s.heap.size ≤ q) s.heap H locs) (hl : lv_has ls 4 [(3, .int 0), (2, .ref q64), (1, .ref q1), (0, .ref b)]) : W p l e room_1 s m #[Value.ref b] below meth c H locs 93 44360 (lw_Z below #[Value.ref b] s) (F0 m 348 ls []) := by
  obtain ⟨hx, hb, hr, hml, hown0, hts0, hX, hbl, hlocks, hgv⟩ := id C0
  have hown : s.vm.findClass RL = some m.cls := hown0
  have hts : ∀ w ∈ Cond.initialized RX9 :: pf_W, w.before #[Value.ref b] s = true := pf_lawW hts0
  have hA : ∀ q : Nat, s.heap.size ≤ q → (fun q : Nat => s.heap.size ≤ q) q := fun _ h => h
  have hbA : ¬ (fun q : Nat => s.heap.size ≤ q) b := Nat.not_le.mpr hbl
  refine lv_aload_n hx hb dL_law_348 rfl (lv_at hl 2 rfl) ?_
  refine lv_aload_n hx hb dL_law_349 rfl (lv_at hl 3 rfl) ?_
  refine lv_iload_n hx hb dL_law_350 rfl (lv_at hl 0 rfl) ?_
  refine lv_iconst (v := 1) hx hb dL_law_351 (by decide) ?_
  refine lv_iadd hx hb dL_law_352 ?_
  refine pf_topi (v := 1) (by decide +kernel) ?_
  refine va_sld hx hb hX hbl hbA hS (pf_vpin (k := 1) (by decide +kernel) (by decide +kernel) (by decide)) dL_law_353 ?_
  refine pf_topi (v := xs 1) (congrArg xs (by decide +kernel)) ?_
  refine lv_aload_n hx hb dL_law_354 rfl (lv_at hl 3 rfl) ?_
  refine lv_iload_n hx hb dL_law_355 rfl (lv_at hl 0 rfl) ?_
  refine lv_iconst (v := 2) hx hb dL_law_356 (by decide) ?_
  refine lv_iadd hx hb dL_law_357 ?_
  refine pf_topi (v := 2) (by decide +kernel) ?_
  refine va_sld hx hb hX hbl hbA hS (pf_vpin (k := 2) (by decide +kernel) (by decide +kernel) (by decide)) dL_law_358 ?_
  refine pf_topi (v := xs 2) (congrArg xs (by decide +kernel)) ?_
  have hPc := hP.sub (ws' := [(q1, .inr (9, [.ref q3, .ref q11, .ref q20, .ref q42, .int 0])), (q3, .inr (5, [.int 2, .int 0, .int 0, .ref q4, .ref q5, .ref q6, .ref q7, .ref q8, .ref q9, .ref q10]))]) [0, 1] rfl
  have hDc := hD.sub (ws' := [(q1, .inr (9, [.ref q3, .ref q11, .ref q20, .ref q42, .int 0])), (q3, .inr (5, [.int 2, .int 0, .int 0, .ref q4, .ref q5, .ref q6, .ref q7, .ref q8, .ref q9, .ref q10]))]) [0, 1] (by decide +kernel) rfl
  have hFc := va_free (wc := [(q1, .inr (9, [.ref q3, .ref q11, .ref q20, .ref q42, .int 0])), (q3, .inr (5, [.int 2, .int 0, .int 0, .ref q4, .ref q5, .ref q6, .ref q7, .ref q8, .ref q9, .ref q10]))]) hD hS hA [0, 1] rfl
  refine va_calli (va_runV (As := [.int (xs 1), .int (xs 2)]) (rest := []) ⟨hx, hb, hml, hown, hts⟩ (c_arc l dC dI cI cJ cZ cO H.size q1 ((xs 1)) ((xs 2)) q3 q11 q20 q42 q4 q5 q6 q7 q8 q9 q10) (cwV 2 hts (pf_gV mw_541 mw_542 mw_543 mw_50 mw_544) rfl rfl rfl (by decide +kernel) ⟨Nat.le_of_ble_eq_true rfl, Nat.le_of_ble_eq_true rfl⟩) ⟨fun a U g mk q => by obtain ⟨q0, q1, qP, qK, qD⟩ := q; exact ⟨q0, q1, qP, va_K.moved (u := U) (U := U.calling g mk a) (Vm.Alike.refl U.vm) qK, qD⟩, va_recv hK hPc (ci := 9) (q0 := 0) rfl rfl, fun U hU hW => ⟨rfl, by rw [hU], by rw [hU]; exact hPc, va_K.moved hW.alike hK, hDc.weaken (fun _ _ _ _ => trivial)⟩⟩ rfl rfl hl.1 rfl (lv_room (Nat.le_of_ble_eq_true rfl)) dL_law_359 ⟨Nat.le_of_ble_eq_true rfl, Nat.le_of_ble_eq_true rfl⟩) hS (fun q _ h => hFc q h) hFc (fun r0 u t H1 locs ht hvm hw hB hz1 hk1 hS => ?_)
  have hw : (-10001) = r0 := (show r0 = (-10001) from hw).symm
  subst hw
  obtain ⟨hP, hD⟩ := va_join (wr := [(q64, .inr (10, [.int 2, .int 0, .int 0, .ref q66, .ref q67, .ref q68, .ref q69, .ref q70, .ref q71, .ref q72, .int 0, .ref q73, .ref q74, .ref q75, .ref q76, .ref q77, .ref q78, .ref q79, .ref q80, .ref q81, .ref q82, .ref q83, .long 0, .int 0, .ref q84, .ref q85, .int 0, .ref q86, .ref q87, .int 0, .int 0, .int 0, .long 0, .long 0, .int 0, .long 0, .long 0, .ref q88, .ref q89, .int 0, .ref q90, .ref q91, .ref q92, .ref q93, .ref q94, .ref q95, .long 0, .long 0]))]) (w1 := []) hP hD [0, 1] [2] rfl rfl (by decide +kernel) (by decide +kernel) hk1 hFc pf_Pn pf_Dn
  clear hPc hDc hFc hk1 hz1
  generalize H1 = H at hP hS ⊢
  have hP : va_P (dC, dI) pf_cls [(q64, .inr (10, [.int 2, .int 0, .int 0, .ref q66, .ref q67, .ref q68, .ref q69, .ref q70, .ref q71, .ref q72, .int 0, .ref q73, .ref q74, .ref q75, .ref q76, .ref q77, .ref q78, .ref q79, .ref q80, .ref q81, .ref q82, .ref q83, .long 0, .int 0, .ref q84, .ref q85, .int 0, .ref q86, .ref q87, .int 0, .int 0, .int 0, .long 0, .long 0, .int 0, .long 0, .long 0, .ref q88, .ref q89, .int 0, .ref q90, .ref q91, .ref q92, .ref q93, .ref q94, .ref q95, .long 0, .long 0]))] H := hP
  have hD : va_D (fun q : Nat => s.heap.size ≤ q) [(q64, .inr (10, [.int 2, .int 0, .int 0, .ref q66, .ref q67, .ref q68, .ref q69, .ref q70, .ref q71, .ref q72, .int 0, .ref q73, .ref q74, .ref q75, .ref q76, .ref q77, .ref q78, .ref q79, .ref q80, .ref q81, .ref q82, .ref q83, .long 0, .int 0, .ref q84, .ref q85, .int 0, .ref q86, .ref q87, .int 0, .int 0, .int 0, .long 0, .long 0, .int 0, .long 0, .long 0, .ref q88, .ref q89, .int 0, .ref q90, .ref q91, .ref q92, .ref q93, .ref q94, .ref q95, .long 0, .long 0]))] := hD
  refine lv_aload_n hx hb dL_law_362 rfl (lv_at hl 1 rfl) ?_
  refine lv_aload_n hx hb dL_law_363 rfl (lv_at hl 3 rfl) ?_
  refine lv_iload_n hx hb dL_law_364 rfl (lv_at hl 0 rfl) ?_
  refine lv_iconst (v := 1) hx hb dL_law_365 (by decide) ?_
  refine lv_iadd hx hb dL_law_366 ?_
  refine pf_topi (v := 1) (by decide +kernel) ?_
  refine va_sld hx hb hX hbl hbA hS (pf_vpin (k := 1) (by decide +kernel) (by decide +kernel) (by decide)) dL_law_367 ?_
  refine pf_topi (v := xs 1) (congrArg xs (by decide +kernel)) ?_
  refine lv_aload_n hx hb dL_law_368 rfl (lv_at hl 3 rfl) ?_
  refine lv_iload_n hx hb dL_law_369 rfl (lv_at hl 0 rfl) ?_
  refine lv_iconst (v := 2) hx hb dL_law_370 (by decide) ?_
  refine lv_iadd hx hb dL_law_371 ?_
  refine pf_topi (v := 2) (by decide +kernel) ?_
  refine va_sld hx hb hX hbl hbA hS (pf_vpin (k := 2) (by decide +kernel) (by decide +kernel) (by decide)) dL_law_372 ?_
  refine pf_topi (v := xs 2) (congrArg xs (by decide +kernel)) ?_
  have hPc := hP.sub (ws' := [(q64, .inr (10, [.int 2, .int 0, .int 0, .ref q66, .ref q67, .ref q68, .ref q69, .ref q70, .ref q71, .ref q72, .int 0, .ref q73, .ref q74, .ref q75, .ref q76, .ref q77, .ref q78, .ref q79, .ref q80, .ref q81, .ref q82, .ref q83, .long 0, .int 0, .ref q84, .ref q85, .int 0, .ref q86, .ref q87, .int 0, .int 0, .int 0, .long 0, .long 0, .int 0, .long 0, .long 0, .ref q88, .ref q89, .int 0, .ref q90, .ref q91, .ref q92, .ref q93, .ref q94, .ref q95, .long 0, .long 0]))]) [0] rfl
  have hDc := hD.sub (ws' := [(q64, .inr (10, [.int 2, .int 0, .int 0, .ref q66, .ref q67, .ref q68, .ref q69, .ref q70, .ref q71, .ref q72, .int 0, .ref q73, .ref q74, .ref q75, .ref q76, .ref q77, .ref q78, .ref q79, .ref q80, .ref q81, .ref q82, .ref q83, .long 0, .int 0, .ref q84, .ref q85, .int 0, .ref q86, .ref q87, .int 0, .int 0, .int 0, .long 0, .long 0, .int 0, .long 0, .long 0, .ref q88, .ref q89, .int 0, .ref q90, .ref q91, .ref q92, .ref q93, .ref q94, .ref q95, .long 0, .long 0]))]) [0] (by decide +kernel) rfl
  have hFc := va_free (wc := [(q64, .inr (10, [.int 2, .int 0, .int 0, .ref q66, .ref q67, .ref q68, .ref q69, .ref q70, .ref q71, .ref q72, .int 0, .ref q73, .ref q74, .ref q75, .ref q76, .ref q77, .ref q78, .ref q79, .ref q80, .ref q81, .ref q82, .ref q83, .long 0, .int 0, .ref q84, .ref q85, .int 0, .ref q86, .ref q87, .int 0, .int 0, .int 0, .long 0, .long 0, .int 0, .long 0, .long 0, .ref q88, .ref q89, .int 0, .ref q90, .ref q91, .ref q92, .ref q93, .ref q94, .ref q95, .long 0, .long 0]))]) hD hS hA [0] rfl
  refine va_calli (va_runV (As := [.int (xs 1), .int (xs 2)]) (rest := [.int (-10001)]) ⟨hx, hb, hml, hown, hts⟩ (c_m_arc l dC dI cI cJ cZ cO H.size q64 ((xs 1)) ((xs 2)) q66 q67 q68 q69 q70 q71 q72 q73 q74 q75 q76 q77 q78 q79 q80 q81 q82 q83 q84 q85 q86 q87 q88 q89 q90 q91 q92 q93 q94 q95) (cwV 2 hts (pf_gV mw_545 mw_546 mw_547 mw_346 mw_548) rfl rfl rfl (by decide +kernel) ⟨Nat.le_of_ble_eq_true rfl, Nat.le_of_ble_eq_true rfl⟩) ⟨fun a U g mk q => by obtain ⟨q0, q1, qP, qK, qD⟩ := q; exact ⟨q0, q1, qP, va_K.moved (u := U) (U := U.calling g mk a) (Vm.Alike.refl U.vm) qK, qD⟩, va_recv hK hPc (ci := 10) (q0 := 0) rfl rfl, fun U hU hW => ⟨rfl, by rw [hU], by rw [hU]; exact hPc, va_K.moved hW.alike hK, hDc.weaken (fun _ _ _ _ => trivial)⟩⟩ rfl rfl hl.1 rfl (lv_room (Nat.le_of_ble_eq_true rfl)) dL_law_373 ⟨Nat.le_of_ble_eq_true rfl, Nat.le_of_ble_eq_true rfl⟩) hS (fun q _ h => hFc q h) hFc (fun r1 u t H1 locs ht hvm hw hB hz1 hk1 hS => ?_)
  have hw : (-10001) = r1 := (show r1 = (-10001) from hw).symm
  subst hw
  obtain ⟨hP, hD⟩ := va_join (wr := []) (w1 := []) hP hD [0] [] rfl rfl (by decide +kernel) (by decide +kernel) hk1 hFc pf_Pn pf_Dn
  clear hPc hDc hFc hk1 hz1
  generalize H1 = H at hP hS ⊢
  have hP : va_P (dC, dI) pf_cls [] H := hP
  have hD : va_D (fun q : Nat => s.heap.size ≤ q) [] := hD
  refine lv_icmp_eq (tgt := 1009) hx hb dL_law_376 (by decide) (fun _ => ?_) (fun c2 => absurd (by decide +kernel) c2)
  refine lv_iinc (v := 6) (lv' := [(3, .int 6), (2, .ref q64), (1, .ref q1), (0, .ref b)]) hx hb dL_law_1009 hl (k := 0) rfl (by decide +kernel) (by decide) rfl (fun ls hl => ?_)
  refine lv_goto (tgt := 18) hx hb dL_law_1012 (by decide) ?_
  refine lv_iload_n hx hb dL_law_18 rfl (lv_at hl 0 rfl) ?_
  refine lv_aload_n hx hb dL_law_19 rfl (lv_at hl 3 rfl) ?_
  refine va_slen hx hb hX hbl hbA hS dL_law_20 ?_
  refine pf_topi (v := 6) (by decide +kernel) ?_
  refine lv_bipush (v := 6) hx hb dL_law_21 (by decide +kernel) ?_
  refine lv_isub hx hb dL_law_23 ?_
  refine pf_topi (v := 0) (by decide +kernel) ?_
  refine lv_icmp_gt (tgt := 1015) hx hb dL_law_24 (by decide) (fun _ => ?_) (fun c3 => absurd (by decide +kernel) c3)
  refine lv_iconst (v := 1) hx hb dL_law_1015 (by decide) ?_
  refine va_forget (fun q hq => hS.2.2 q hq) ?_
  refine W.widen (k := 600000) (n := 7302250) (Nat.le_of_ble_eq_true rfl) (Nat.le_of_ble_eq_true rfl) ?_
  exact lw_ret hx hb hr hlocks dL_law_1016
set_option maxHeartbeats 40000000 in
set_option maxRecDepth 100000 in
theorem law_case_7 {p : Program} {e : Env} {s : State} {m : MethodId} {below : List Frame} {meth : Method} {c : Code} (l : Launch) {b t0 : Nat} {xs : Nat → Int32} (C0 : lw_At p s m meth c b 6 xs) (dC : Nat → ClassId) (dI : Nat → Nat → Nat) (cI cJ cZ cO : ClassId) (q1 q3 q11 q20 q42 q4 q5 q6 q7 q8 q9 q10 q64 q66 q67 q68 q69 q70 q71 q72 q73 q74 q75 q76 q77 q78 q79 q80 q81 q82 q83 q84 q85 q86 q87 q88 q89 q90 q91 q92 q93 q94 q95 : Nat) {H : Heap} {locs : List Loc} {ls : Array Slot} (hK : va_K (dC, dI) pf_cls (pf_ty cI cJ cZ cO) s) (hSt : pf_St t0 (fun q : Nat => s.heap.size ≤ q) s s.heap) (hP : va_P (dC, dI) pf_cls [(q1, .inr (9, [.ref q3, .ref q11, .ref q20, .ref q42, .int 0])), (q3, .inr (5, [.int 2, .int 0, .int 0, .ref q4, .ref q5, .ref q6, .ref q7, .ref q8, .ref q9, .ref q10])), (q4, .inl (cI, 8, .inl (fun _ => 0))), (q5, .inl (cI, 8, .inl (fun _ => 0))), (q64, .inr (10, [.int 2, .int 0, .int 0, .ref q66, .ref q67, .ref q68, .ref q69, .ref q70, .ref q71, .ref q72, .int 0, .ref q73, .ref q74, .ref q75, .ref q76, .ref q77, .ref q78, .ref q79, .ref q80, .ref q81, .ref q82, .ref q83, .long 0, .int 0, .ref q84, .ref q85, .int 0, .ref q86, .ref q87, .int 0, .int 0, .int 0, .long 0, .long 0, .int 0, .long 0, .long 0, .ref q88, .ref q89, .int 0, .ref q90, .ref q91, .ref q92, .ref q93, .ref q94, .ref q95, .long 0, .long 0])), (q71, .inl (cI, 8, .inl (fun _ => 0))), (q72, .inl (cI, 8, .inl (fun _ => 0)))] H) (hD : va_D (fun q : Nat => s.heap.size ≤ q) [(q1, .inr (9, [.ref q3, .ref q11, .ref q20, .ref q42, .int 0])), (q3, .inr (5, [.int 2, .int 0, .int 0, .ref q4, .ref q5, .ref q6, .ref q7, .ref q8, .ref q9, .ref q10])), (q4, .inl (cI, 8, .inl (fun _ => 0))), (q5, .inl (cI, 8, .inl (fun _ => 0))), (q64, .inr (10, [.int 2, .int 0, .int 0, .ref q66, .ref q67, .ref q68, .ref q69, .ref q70, .ref q71, .ref q72, .int 0, .ref q73, .ref q74, .ref q75, .ref q76, .ref q77, .ref q78, .ref q79, .ref q80, .ref q81, .ref q82, .ref q83, .long 0, .int 0, .ref q84, .ref q85, .int 0, .ref q86, .ref q87, .int 0, .int 0, .int 0, .long 0, .long 0, .int 0, .long 0, .long 0, .ref q88, .ref q89, .int 0, .ref q90, .ref q91, .ref q92, .ref q93, .ref q94, .ref q95, .long 0, .long 0])), (q71, .inl (cI, 8, .inl (fun _ => 0))), (q72, .inl (cI, 8, .inl (fun _ => 0)))]) (hS : va_S (fun q : Nat => s.heap.size ≤ q) s.heap H locs) (hl : lv_has ls 4 [(3, .int 0), (2, .ref q64), (1, .ref q1), (0, .ref b)]) : W p l e room_1 s m #[Value.ref b] below meth c H locs 93 44360 (lw_Z below #[Value.ref b] s) (F0 m 381 ls []) := by
  obtain ⟨hx, hb, hr, hml, hown0, hts0, hX, hbl, hlocks, hgv⟩ := id C0
  have hown : s.vm.findClass RL = some m.cls := hown0
  have hts : ∀ w ∈ Cond.initialized RX9 :: pf_W, w.before #[Value.ref b] s = true := pf_lawW hts0
  have hA : ∀ q : Nat, s.heap.size ≤ q → (fun q : Nat => s.heap.size ≤ q) q := fun _ h => h
  have hbA : ¬ (fun q : Nat => s.heap.size ≤ q) b := Nat.not_le.mpr hbl
  refine lv_aload_n hx hb dL_law_381 rfl (lv_at hl 2 rfl) ?_
  refine lv_aload_n hx hb dL_law_382 rfl (lv_at hl 3 rfl) ?_
  refine lv_iload_n hx hb dL_law_383 rfl (lv_at hl 0 rfl) ?_
  refine lv_iconst (v := 1) hx hb dL_law_384 (by decide) ?_
  refine lv_iadd hx hb dL_law_385 ?_
  refine pf_topi (v := 1) (by decide +kernel) ?_
  refine va_sld hx hb hX hbl hbA hS (pf_vpin (k := 1) (by decide +kernel) (by decide +kernel) (by decide)) dL_law_386 ?_
  refine pf_topi (v := xs 1) (congrArg xs (by decide +kernel)) ?_
  have hPc := hP.sub (ws' := [(q1, .inr (9, [.ref q3, .ref q11, .ref q20, .ref q42, .int 0])), (q3, .inr (5, [.int 2, .int 0, .int 0, .ref q4, .ref q5, .ref q6, .ref q7, .ref q8, .ref q9, .ref q10])), (q4, .inl (cI, 8, .inl (fun _ => 0))), (q5, .inl (cI, 8, .inl (fun _ => 0)))]) [0, 1, 2, 3] rfl
  have hDc := hD.sub (ws' := [(q1, .inr (9, [.ref q3, .ref q11, .ref q20, .ref q42, .int 0])), (q3, .inr (5, [.int 2, .int 0, .int 0, .ref q4, .ref q5, .ref q6, .ref q7, .ref q8, .ref q9, .ref q10])), (q4, .inl (cI, 8, .inl (fun _ => 0))), (q5, .inl (cI, 8, .inl (fun _ => 0)))]) [0, 1, 2, 3] (by decide +kernel) rfl
  have hFc := va_free (wc := [(q1, .inr (9, [.ref q3, .ref q11, .ref q20, .ref q42, .int 0])), (q3, .inr (5, [.int 2, .int 0, .int 0, .ref q4, .ref q5, .ref q6, .ref q7, .ref q8, .ref q9, .ref q10])), (q4, .inl (cI, 8, .inl (fun _ => 0))), (q5, .inl (cI, 8, .inl (fun _ => 0)))]) hD hS hA [0, 1, 2, 3] rfl
  refine va_calli (va_runV (As := [.int (xs 1)]) (rest := []) ⟨hx, hb, hml, hown, hts⟩ (c_network l dC dI cI cJ cZ cO H.size q1 ((xs 1)) q3 q11 q20 q42 q4 q5 q6 q7 q8 q9 q10) (cwV 1 hts (pf_gV mw_549 mw_550 mw_551 mw_50 mw_552) rfl rfl rfl (by decide +kernel) ⟨Nat.le_of_ble_eq_true rfl, Nat.le_of_ble_eq_true rfl⟩) ⟨fun a U g mk q => by obtain ⟨q0, q1, qP, qK, qD⟩ := q; exact ⟨q0, q1, qP, va_K.moved (u := U) (U := U.calling g mk a) (Vm.Alike.refl U.vm) qK, qD⟩, va_recv hK hPc (ci := 9) (q0 := 0) rfl rfl, fun U hU hW => ⟨rfl, by rw [hU], by rw [hU]; exact hPc, va_K.moved hW.alike hK, hDc.weaken (fun _ _ _ _ => trivial)⟩⟩ rfl rfl hl.1 rfl (lv_room (Nat.le_of_ble_eq_true rfl)) dL_law_387 ⟨Nat.le_of_ble_eq_true rfl, Nat.le_of_ble_eq_true rfl⟩) hS (fun q _ h => hFc q h) hFc (fun r0 u t H1 locs ht hvm hw hB hz1 hk1 hS => ?_)
  have hw : (pf_net (xs 1)) = r0 := (show r0 = (pf_net (xs 1)) from hw).symm
  subst hw
  obtain ⟨hP, hD⟩ := va_join (wr := [(q64, .inr (10, [.int 2, .int 0, .int 0, .ref q66, .ref q67, .ref q68, .ref q69, .ref q70, .ref q71, .ref q72, .int 0, .ref q73, .ref q74, .ref q75, .ref q76, .ref q77, .ref q78, .ref q79, .ref q80, .ref q81, .ref q82, .ref q83, .long 0, .int 0, .ref q84, .ref q85, .int 0, .ref q86, .ref q87, .int 0, .int 0, .int 0, .long 0, .long 0, .int 0, .long 0, .long 0, .ref q88, .ref q89, .int 0, .ref q90, .ref q91, .ref q92, .ref q93, .ref q94, .ref q95, .long 0, .long 0])), (q71, .inl (cI, 8, .inl (fun _ => 0))), (q72, .inl (cI, 8, .inl (fun _ => 0)))]) (w1 := []) hP hD [0, 1, 2, 3] [4, 5, 6] rfl rfl (by decide +kernel) (by decide +kernel) hk1 hFc pf_Pn pf_Dn
  clear hPc hDc hFc hk1 hz1
  generalize H1 = H at hP hS ⊢
  have hP : va_P (dC, dI) pf_cls [(q64, .inr (10, [.int 2, .int 0, .int 0, .ref q66, .ref q67, .ref q68, .ref q69, .ref q70, .ref q71, .ref q72, .int 0, .ref q73, .ref q74, .ref q75, .ref q76, .ref q77, .ref q78, .ref q79, .ref q80, .ref q81, .ref q82, .ref q83, .long 0, .int 0, .ref q84, .ref q85, .int 0, .ref q86, .ref q87, .int 0, .int 0, .int 0, .long 0, .long 0, .int 0, .long 0, .long 0, .ref q88, .ref q89, .int 0, .ref q90, .ref q91, .ref q92, .ref q93, .ref q94, .ref q95, .long 0, .long 0])), (q71, .inl (cI, 8, .inl (fun _ => 0))), (q72, .inl (cI, 8, .inl (fun _ => 0)))] H := hP
  have hD : va_D (fun q : Nat => s.heap.size ≤ q) [(q64, .inr (10, [.int 2, .int 0, .int 0, .ref q66, .ref q67, .ref q68, .ref q69, .ref q70, .ref q71, .ref q72, .int 0, .ref q73, .ref q74, .ref q75, .ref q76, .ref q77, .ref q78, .ref q79, .ref q80, .ref q81, .ref q82, .ref q83, .long 0, .int 0, .ref q84, .ref q85, .int 0, .ref q86, .ref q87, .int 0, .int 0, .int 0, .long 0, .long 0, .int 0, .long 0, .long 0, .ref q88, .ref q89, .int 0, .ref q90, .ref q91, .ref q92, .ref q93, .ref q94, .ref q95, .long 0, .long 0])), (q71, .inl (cI, 8, .inl (fun _ => 0))), (q72, .inl (cI, 8, .inl (fun _ => 0)))] := hD
  refine lv_aload_n hx hb dL_law_390 rfl (lv_at hl 1 rfl) ?_
  refine lv_aload_n hx hb dL_law_391 rfl (lv_at hl 3 rfl) ?_
  refine lv_iload_n hx hb dL_law_392 rfl (lv_at hl 0 rfl) ?_
  refine lv_iconst (v := 1) hx hb dL_law_393 (by decide) ?_
  refine lv_iadd hx hb dL_law_394 ?_
  refine pf_topi (v := 1) (by decide +kernel) ?_
  refine va_sld hx hb hX hbl hbA hS (pf_vpin (k := 1) (by decide +kernel) (by decide +kernel) (by decide)) dL_law_395 ?_
  refine pf_topi (v := xs 1) (congrArg xs (by decide +kernel)) ?_
  have hPc := hP.sub (ws' := [(q64, .inr (10, [.int 2, .int 0, .int 0, .ref q66, .ref q67, .ref q68, .ref q69, .ref q70, .ref q71, .ref q72, .int 0, .ref q73, .ref q74, .ref q75, .ref q76, .ref q77, .ref q78, .ref q79, .ref q80, .ref q81, .ref q82, .ref q83, .long 0, .int 0, .ref q84, .ref q85, .int 0, .ref q86, .ref q87, .int 0, .int 0, .int 0, .long 0, .long 0, .int 0, .long 0, .long 0, .ref q88, .ref q89, .int 0, .ref q90, .ref q91, .ref q92, .ref q93, .ref q94, .ref q95, .long 0, .long 0])), (q71, .inl (cI, 8, .inl (fun _ => 0))), (q72, .inl (cI, 8, .inl (fun _ => 0)))]) [0, 1, 2] rfl
  have hDc := hD.sub (ws' := [(q64, .inr (10, [.int 2, .int 0, .int 0, .ref q66, .ref q67, .ref q68, .ref q69, .ref q70, .ref q71, .ref q72, .int 0, .ref q73, .ref q74, .ref q75, .ref q76, .ref q77, .ref q78, .ref q79, .ref q80, .ref q81, .ref q82, .ref q83, .long 0, .int 0, .ref q84, .ref q85, .int 0, .ref q86, .ref q87, .int 0, .int 0, .int 0, .long 0, .long 0, .int 0, .long 0, .long 0, .ref q88, .ref q89, .int 0, .ref q90, .ref q91, .ref q92, .ref q93, .ref q94, .ref q95, .long 0, .long 0])), (q71, .inl (cI, 8, .inl (fun _ => 0))), (q72, .inl (cI, 8, .inl (fun _ => 0)))]) [0, 1, 2] (by decide +kernel) rfl
  have hFc := va_free (wc := [(q64, .inr (10, [.int 2, .int 0, .int 0, .ref q66, .ref q67, .ref q68, .ref q69, .ref q70, .ref q71, .ref q72, .int 0, .ref q73, .ref q74, .ref q75, .ref q76, .ref q77, .ref q78, .ref q79, .ref q80, .ref q81, .ref q82, .ref q83, .long 0, .int 0, .ref q84, .ref q85, .int 0, .ref q86, .ref q87, .int 0, .int 0, .int 0, .long 0, .long 0, .int 0, .long 0, .long 0, .ref q88, .ref q89, .int 0, .ref q90, .ref q91, .ref q92, .ref q93, .ref q94, .ref q95, .long 0, .long 0])), (q71, .inl (cI, 8, .inl (fun _ => 0))), (q72, .inl (cI, 8, .inl (fun _ => 0)))]) hD hS hA [0, 1, 2] rfl
  refine va_calli (va_runV (As := [.int (xs 1)]) (rest := [.int (pf_net (xs 1))]) ⟨hx, hb, hml, hown, hts⟩ (c_m_network l dC dI cI cJ cZ cO H.size q64 ((xs 1)) q66 q67 q68 q69 q70 q71 q72 q73 q74 q75 q76 q77 q78 q79 q80 q81 q82 q83 q84 q85 q86 q87 q88 q89 q90 q91 q92 q93 q94 q95) (cwV 1 hts (pf_gV mw_553 mw_554 mw_555 mw_346 mw_556) rfl rfl rfl (by decide +kernel) ⟨Nat.le_of_ble_eq_true rfl, Nat.le_of_ble_eq_true rfl⟩) ⟨fun a U g mk q => by obtain ⟨q0, q1, qP, qK, qD⟩ := q; exact ⟨q0, q1, qP, va_K.moved (u := U) (U := U.calling g mk a) (Vm.Alike.refl U.vm) qK, qD⟩, va_recv hK hPc (ci := 10) (q0 := 0) rfl rfl, fun U hU hW => ⟨rfl, by rw [hU], by rw [hU]; exact hPc, va_K.moved hW.alike hK, hDc.weaken (fun _ _ _ _ => trivial)⟩⟩ rfl rfl hl.1 rfl (lv_room (Nat.le_of_ble_eq_true rfl)) dL_law_396 ⟨Nat.le_of_ble_eq_true rfl, Nat.le_of_ble_eq_true rfl⟩) hS (fun q _ h => hFc q h) hFc (fun r1 u t H1 locs ht hvm hw hB hz1 hk1 hS => ?_)
  have hw : (pf_net (xs 1)) = r1 := (show r1 = (pf_net (xs 1)) from hw).symm
  subst hw
  obtain ⟨hP, hD⟩ := va_join (wr := []) (w1 := []) hP hD [0, 1, 2] [] rfl rfl (by decide +kernel) (by decide +kernel) hk1 hFc pf_Pn pf_Dn
  clear hPc hDc hFc hk1 hz1
  generalize H1 = H at hP hS ⊢
  have hP : va_P (dC, dI) pf_cls [] H := hP
  have hD : va_D (fun q : Nat => s.heap.size ≤ q) [] := hD
  refine lv_icmp_eq (tgt := 1009) hx hb dL_law_399 (by decide) (fun _ => ?_) (fun c2 => absurd rfl c2)
  refine lv_iinc (v := 6) (lv' := [(3, .int 6), (2, .ref q64), (1, .ref q1), (0, .ref b)]) hx hb dL_law_1009 hl (k := 0) rfl (by decide +kernel) (by decide) rfl (fun ls hl => ?_)
  refine lv_goto (tgt := 18) hx hb dL_law_1012 (by decide) ?_
  refine lv_iload_n hx hb dL_law_18 rfl (lv_at hl 0 rfl) ?_
  refine lv_aload_n hx hb dL_law_19 rfl (lv_at hl 3 rfl) ?_
  refine va_slen hx hb hX hbl hbA hS dL_law_20 ?_
  refine pf_topi (v := 6) (by decide +kernel) ?_
  refine lv_bipush (v := 6) hx hb dL_law_21 (by decide +kernel) ?_
  refine lv_isub hx hb dL_law_23 ?_
  refine pf_topi (v := 0) (by decide +kernel) ?_
  refine lv_icmp_gt (tgt := 1015) hx hb dL_law_24 (by decide) (fun _ => ?_) (fun c3 => absurd (by decide +kernel) c3)
  refine lv_iconst (v := 1) hx hb dL_law_1015 (by decide) ?_
  refine va_forget (fun q hq => hS.2.2 q hq) ?_
  refine W.widen (k := 600000) (n := 7302250) (Nat.le_of_ble_eq_true rfl) (Nat.le_of_ble_eq_true rfl) ?_
  exact lw_ret hx hb hr hlocks dL_law_1016
