set_option maxHeartbeats 40000000 in
set_option maxRecDepth 100000 in
theorem c_fill8 (l : Launch) (dC : Nat → ClassId) (dI : Nat → Nat → Nat) (cI cJ cZ cO : ClassId) (sz : Nat) (a : Nat) (g : Nat → Int32)  : Met l yJ7_fill_53178 (Cond.code yJ7_fill_53178 cJ7_fill_53178 4 none :: pf_W) ({ frames := 0, cells := 0, slots := 0, locals := 0 }) (va_Pc [.ref a, .int 0] (fun U => U.heap.size = sz ∧ va_P (dC, dI) pf_cls [(a, .inl (cI, 8, .inl g))] U.heap ∧ va_K (dC, dI) pf_cls (pf_ty cI cJ cZ cO) U ∧ va_D (fun _ => True) [(a, .inl (cI, 8, .inl g))])) (va_Qv (fun (_ : Unit) => True) (fun (_ : Unit) (t : State) => va_P (dC, dI) pf_cls [(a, .inl (cI, 8, .inl (upd (upd (upd (upd (upd (upd (upd (upd g 0 0) 1 0) 2 0) 3 0) 4 0) 5 0) 6 0) 7 0)))] t.heap ∧ va_D (va_A [(a, .inl (cI, 8, .inl g))] sz) [(a, .inl (cI, 8, .inl (upd (upd (upd (upd (upd (upd (upd (upd g 0 0) 1 0) 2 0) 3 0) 4 0) 5 0) 6 0) 7 0)))]) (va_A [(a, .inl (cI, 8, .inl g))] sz)) 0 0 (va_A [(a, .inl (cI, 8, .inl g))] sz) := by
  refine Met.ofW (cc := cJ7_fill_53178) (maxL := 4) (ret := none) (by decide) rfl ?_
  intro p e s m args below meth c s₁ B hml hv
  obtain ⟨rfl, hsz, hP, hK, hD0⟩ := hv
  have hx := B.exec
  have hb := B.bytes
  have hr := B.returns
  have hts := atoms_spec (ws := Cond.code yJ7_fill_53178 cJ7_fill_53178 4 none :: pf_W) B.pre
  have hown : s.vm.findClass RJ7 = some m.cls := findClass_of_methodNamed B.named
  have hlocks := B.notSynchronized
  subst hsz
  have hD := hD0.self (sz := s.heap.size)
  generalize hAe : va_A [(a, .inl (cI, 8, .inl g))] s.heap.size = A at hD ⊢
  have hA : ∀ q : Nat, s.heap.size ≤ q → A q := fun q h => by rw [← hAe]; exact Or.inr h
  have hS : va_S A s.heap s.heap [] := va_S.rf
  have hP : va_P (dC, dI) pf_cls [(a, .inl (cI, 8, .inl g))] s.heap := hP
  have hl := lv_entry ([.ref a, .int 0]) (n := 4) (Nat.le_of_ble_eq_true rfl)
  rw [lg_entry_eq]
  generalize (lg_sl ([.ref a, .int 0]) ++ List.replicate (4 - (lg_sl ([.ref a, .int 0])).length) Slot.unset).toArray = ls at hl ⊢
  have hl : lv_has ls 4 [(0, .ref a), (1, .int 0)] := hl
  refine lv_iconst (v := 0) hx hb dJ7_fill_53178_0 (by decide) ?_
  refine lv_istore_n (lv' := [(2, .int 0), (0, .ref a), (1, .int 0)]) hx hb dJ7_fill_53178_1 rfl hl (by decide) rfl (fun ls hl => ?_)
  refine lv_aload_n hx hb dJ7_fill_53178_2 rfl (lv_at hl 1 rfl) ?_
  refine va_alen (v := 8) hx hb hK hP 0 0 rfl rfl (show Int32.ofNat 8 = 8 by decide +kernel) dJ7_fill_53178_3 ?_
  refine lv_istore_n (lv' := [(3, .int 8), (2, .int 0), (0, .ref a), (1, .int 0)]) hx hb dJ7_fill_53178_4 rfl hl (by decide) rfl (fun ls hl => ?_)
  refine lv_iload_n hx hb dJ7_fill_53178_5 rfl (lv_at hl 1 rfl) ?_
  refine lv_iload_n hx hb dJ7_fill_53178_6 rfl (lv_at hl 0 rfl) ?_
  refine lv_icmp_ge (tgt := 20) hx hb dJ7_fill_53178_7 (by decide) (fun c0 => absurd c0 (by decide +kernel)) (fun _ => ?_)
  refine lv_aload_n hx hb dJ7_fill_53178_10 rfl (lv_at hl 2 rfl) ?_
  refine lv_iload_n hx hb dJ7_fill_53178_11 rfl (lv_at hl 1 rfl) ?_
  refine lv_iload_n hx hb dJ7_fill_53178_12 rfl (lv_at hl 3 rfl) ?_
  refine pf_iast hx hb hK hP hD hS 0 0 0 rfl rfl (by decide +kernel) (by decide +kernel) (by decide) dJ7_fill_53178_13 (fun H locs hP hD hS => ?_)
  have hP : va_P (dC, dI) pf_cls [(a, .inl (cI, 8, .inl (upd g 0 0)))] H := hP
  have hD : va_D A [(a, .inl (cI, 8, .inl (upd g 0 0)))] := hD
  refine lv_iinc (v := 1) (lv' := [(2, .int 1), (3, .int 8), (0, .ref a), (1, .int 0)]) hx hb dJ7_fill_53178_14 hl (k := 1) rfl (by decide +kernel) (by decide) rfl (fun ls hl => ?_)
  refine lv_goto (tgt := 5) hx hb dJ7_fill_53178_17 (by decide) ?_
  refine lv_iload_n hx hb dJ7_fill_53178_5 rfl (lv_at hl 0 rfl) ?_
  refine lv_iload_n hx hb dJ7_fill_53178_6 rfl (lv_at hl 1 rfl) ?_
  refine lv_icmp_ge (tgt := 20) hx hb dJ7_fill_53178_7 (by decide) (fun c1 => absurd c1 (by decide +kernel)) (fun _ => ?_)
  refine lv_aload_n hx hb dJ7_fill_53178_10 rfl (lv_at hl 2 rfl) ?_
  refine lv_iload_n hx hb dJ7_fill_53178_11 rfl (lv_at hl 0 rfl) ?_
  refine lv_iload_n hx hb dJ7_fill_53178_12 rfl (lv_at hl 3 rfl) ?_
  refine pf_iast hx hb hK hP hD hS 0 0 1 rfl rfl (by decide +kernel) (by decide +kernel) (by decide) dJ7_fill_53178_13 (fun H locs hP hD hS => ?_)
  have hP : va_P (dC, dI) pf_cls [(a, .inl (cI, 8, .inl (upd (upd g 0 0) 1 0)))] H := hP
  have hD : va_D A [(a, .inl (cI, 8, .inl (upd (upd g 0 0) 1 0)))] := hD
  refine lv_iinc (v := 2) (lv' := [(2, .int 2), (3, .int 8), (0, .ref a), (1, .int 0)]) hx hb dJ7_fill_53178_14 hl (k := 0) rfl (by decide +kernel) (by decide) rfl (fun ls hl => ?_)
  refine lv_goto (tgt := 5) hx hb dJ7_fill_53178_17 (by decide) ?_
  refine lv_iload_n hx hb dJ7_fill_53178_5 rfl (lv_at hl 0 rfl) ?_
  refine lv_iload_n hx hb dJ7_fill_53178_6 rfl (lv_at hl 1 rfl) ?_
  refine lv_icmp_ge (tgt := 20) hx hb dJ7_fill_53178_7 (by decide) (fun c2 => absurd c2 (by decide +kernel)) (fun _ => ?_)
  refine lv_aload_n hx hb dJ7_fill_53178_10 rfl (lv_at hl 2 rfl) ?_
  refine lv_iload_n hx hb dJ7_fill_53178_11 rfl (lv_at hl 0 rfl) ?_
  refine lv_iload_n hx hb dJ7_fill_53178_12 rfl (lv_at hl 3 rfl) ?_
  refine pf_iast hx hb hK hP hD hS 0 0 2 rfl rfl (by decide +kernel) (by decide +kernel) (by decide) dJ7_fill_53178_13 (fun H locs hP hD hS => ?_)
  have hP : va_P (dC, dI) pf_cls [(a, .inl (cI, 8, .inl (upd (upd (upd g 0 0) 1 0) 2 0)))] H := hP
  have hD : va_D A [(a, .inl (cI, 8, .inl (upd (upd (upd g 0 0) 1 0) 2 0)))] := hD
  refine lv_iinc (v := 3) (lv' := [(2, .int 3), (3, .int 8), (0, .ref a), (1, .int 0)]) hx hb dJ7_fill_53178_14 hl (k := 0) rfl (by decide +kernel) (by decide) rfl (fun ls hl => ?_)
  refine lv_goto (tgt := 5) hx hb dJ7_fill_53178_17 (by decide) ?_
  refine lv_iload_n hx hb dJ7_fill_53178_5 rfl (lv_at hl 0 rfl) ?_
  refine lv_iload_n hx hb dJ7_fill_53178_6 rfl (lv_at hl 1 rfl) ?_
  refine lv_icmp_ge (tgt := 20) hx hb dJ7_fill_53178_7 (by decide) (fun c3 => absurd c3 (by decide +kernel)) (fun _ => ?_)
  refine lv_aload_n hx hb dJ7_fill_53178_10 rfl (lv_at hl 2 rfl) ?_
  refine lv_iload_n hx hb dJ7_fill_53178_11 rfl (lv_at hl 0 rfl) ?_
  refine lv_iload_n hx hb dJ7_fill_53178_12 rfl (lv_at hl 3 rfl) ?_
  refine pf_iast hx hb hK hP hD hS 0 0 3 rfl rfl (by decide +kernel) (by decide +kernel) (by decide) dJ7_fill_53178_13 (fun H locs hP hD hS => ?_)
  have hP : va_P (dC, dI) pf_cls [(a, .inl (cI, 8, .inl (upd (upd (upd (upd g 0 0) 1 0) 2 0) 3 0)))] H := hP
  have hD : va_D A [(a, .inl (cI, 8, .inl (upd (upd (upd (upd g 0 0) 1 0) 2 0) 3 0)))] := hD
  refine lv_iinc (v := 4) (lv' := [(2, .int 4), (3, .int 8), (0, .ref a), (1, .int 0)]) hx hb dJ7_fill_53178_14 hl (k := 0) rfl (by decide +kernel) (by decide) rfl (fun ls hl => ?_)
  refine lv_goto (tgt := 5) hx hb dJ7_fill_53178_17 (by decide) ?_
  refine lv_iload_n hx hb dJ7_fill_53178_5 rfl (lv_at hl 0 rfl) ?_
  refine lv_iload_n hx hb dJ7_fill_53178_6 rfl (lv_at hl 1 rfl) ?_
  refine lv_icmp_ge (tgt := 20) hx hb dJ7_fill_53178_7 (by decide) (fun c4 => absurd c4 (by decide +kernel)) (fun _ => ?_)
  refine lv_aload_n hx hb dJ7_fill_53178_10 rfl (lv_at hl 2 rfl) ?_
  refine lv_iload_n hx hb dJ7_fill_53178_11 rfl (lv_at hl 0 rfl) ?_
  refine lv_iload_n hx hb dJ7_fill_53178_12 rfl (lv_at hl 3 rfl) ?_
  refine pf_iast hx hb hK hP hD hS 0 0 4 rfl rfl (by decide +kernel) (by decide +kernel) (by decide) dJ7_fill_53178_13 (fun H locs hP hD hS => ?_)
  have hP : va_P (dC, dI) pf_cls [(a, .inl (cI, 8, .inl (upd (upd (upd (upd (upd g 0 0) 1 0) 2 0) 3 0) 4 0)))] H := hP
  have hD : va_D A [(a, .inl (cI, 8, .inl (upd (upd (upd (upd (upd g 0 0) 1 0) 2 0) 3 0) 4 0)))] := hD
  refine lv_iinc (v := 5) (lv' := [(2, .int 5), (3, .int 8), (0, .ref a), (1, .int 0)]) hx hb dJ7_fill_53178_14 hl (k := 0) rfl (by decide +kernel) (by decide) rfl (fun ls hl => ?_)
  refine lv_goto (tgt := 5) hx hb dJ7_fill_53178_17 (by decide) ?_
  refine lv_iload_n hx hb dJ7_fill_53178_5 rfl (lv_at hl 0 rfl) ?_
  refine lv_iload_n hx hb dJ7_fill_53178_6 rfl (lv_at hl 1 rfl) ?_
  refine lv_icmp_ge (tgt := 20) hx hb dJ7_fill_53178_7 (by decide) (fun c5 => absurd c5 (by decide +kernel)) (fun _ => ?_)
  refine lv_aload_n hx hb dJ7_fill_53178_10 rfl (lv_at hl 2 rfl) ?_
  refine lv_iload_n hx hb dJ7_fill_53178_11 rfl (lv_at hl 0 rfl) ?_
  refine lv_iload_n hx hb dJ7_fill_53178_12 rfl (lv_at hl 3 rfl) ?_
  refine pf_iast hx hb hK hP hD hS 0 0 5 rfl rfl (by decide +kernel) (by decide +kernel) (by decide) dJ7_fill_53178_13 (fun H locs hP hD hS => ?_)
  have hP : va_P (dC, dI) pf_cls [(a, .inl (cI, 8, .inl (upd (upd (upd (upd (upd (upd g 0 0) 1 0) 2 0) 3 0) 4 0) 5 0)))] H := hP
  have hD : va_D A [(a, .inl (cI, 8, .inl (upd (upd (upd (upd (upd (upd g 0 0) 1 0) 2 0) 3 0) 4 0) 5 0)))] := hD
  refine lv_iinc (v := 6) (lv' := [(2, .int 6), (3, .int 8), (0, .ref a), (1, .int 0)]) hx hb dJ7_fill_53178_14 hl (k := 0) rfl (by decide +kernel) (by decide) rfl (fun ls hl => ?_)
  refine lv_goto (tgt := 5) hx hb dJ7_fill_53178_17 (by decide) ?_
  refine lv_iload_n hx hb dJ7_fill_53178_5 rfl (lv_at hl 0 rfl) ?_
  refine lv_iload_n hx hb dJ7_fill_53178_6 rfl (lv_at hl 1 rfl) ?_
  refine lv_icmp_ge (tgt := 20) hx hb dJ7_fill_53178_7 (by decide) (fun c6 => absurd c6 (by decide +kernel)) (fun _ => ?_)
  refine lv_aload_n hx hb dJ7_fill_53178_10 rfl (lv_at hl 2 rfl) ?_
  refine lv_iload_n hx hb dJ7_fill_53178_11 rfl (lv_at hl 0 rfl) ?_
  refine lv_iload_n hx hb dJ7_fill_53178_12 rfl (lv_at hl 3 rfl) ?_
  refine pf_iast hx hb hK hP hD hS 0 0 6 rfl rfl (by decide +kernel) (by decide +kernel) (by decide) dJ7_fill_53178_13 (fun H locs hP hD hS => ?_)
  have hP : va_P (dC, dI) pf_cls [(a, .inl (cI, 8, .inl (upd (upd (upd (upd (upd (upd (upd g 0 0) 1 0) 2 0) 3 0) 4 0) 5 0) 6 0)))] H := hP
  have hD : va_D A [(a, .inl (cI, 8, .inl (upd (upd (upd (upd (upd (upd (upd g 0 0) 1 0) 2 0) 3 0) 4 0) 5 0) 6 0)))] := hD
  refine lv_iinc (v := 7) (lv' := [(2, .int 7), (3, .int 8), (0, .ref a), (1, .int 0)]) hx hb dJ7_fill_53178_14 hl (k := 0) rfl (by decide +kernel) (by decide) rfl (fun ls hl => ?_)
  refine lv_goto (tgt := 5) hx hb dJ7_fill_53178_17 (by decide) ?_
  refine lv_iload_n hx hb dJ7_fill_53178_5 rfl (lv_at hl 0 rfl) ?_
  refine lv_iload_n hx hb dJ7_fill_53178_6 rfl (lv_at hl 1 rfl) ?_
  refine lv_icmp_ge (tgt := 20) hx hb dJ7_fill_53178_7 (by decide) (fun c7 => absurd c7 (by decide +kernel)) (fun _ => ?_)
  refine lv_aload_n hx hb dJ7_fill_53178_10 rfl (lv_at hl 2 rfl) ?_
  refine lv_iload_n hx hb dJ7_fill_53178_11 rfl (lv_at hl 0 rfl) ?_
  refine lv_iload_n hx hb dJ7_fill_53178_12 rfl (lv_at hl 3 rfl) ?_
  refine pf_iast hx hb hK hP hD hS 0 0 7 rfl rfl (by decide +kernel) (by decide +kernel) (by decide) dJ7_fill_53178_13 (fun H locs hP hD hS => ?_)
  have hP : va_P (dC, dI) pf_cls [(a, .inl (cI, 8, .inl (upd (upd (upd (upd (upd (upd (upd (upd g 0 0) 1 0) 2 0) 3 0) 4 0) 5 0) 6 0) 7 0)))] H := hP
  have hD : va_D A [(a, .inl (cI, 8, .inl (upd (upd (upd (upd (upd (upd (upd (upd g 0 0) 1 0) 2 0) 3 0) 4 0) 5 0) 6 0) 7 0)))] := hD
  refine lv_iinc (v := 8) (lv' := [(2, .int 8), (3, .int 8), (0, .ref a), (1, .int 0)]) hx hb dJ7_fill_53178_14 hl (k := 0) rfl (by decide +kernel) (by decide) rfl (fun ls hl => ?_)
  refine lv_goto (tgt := 5) hx hb dJ7_fill_53178_17 (by decide) ?_
  refine lv_iload_n hx hb dJ7_fill_53178_5 rfl (lv_at hl 0 rfl) ?_
  refine lv_iload_n hx hb dJ7_fill_53178_6 rfl (lv_at hl 1 rfl) ?_
  refine lv_icmp_ge (tgt := 20) hx hb dJ7_fill_53178_7 (by decide) (fun _ => ?_) (fun c8 => absurd (by decide +kernel) c8)
  have hP9 := hP.sub (ws' := [(a, .inl (cI, 8, .inl (upd (upd (upd (upd (upd (upd (upd (upd g 0 0) 1 0) 2 0) 3 0) 4 0) 5 0) 6 0) 7 0)))]) [0] rfl
  have hD9 := hD.sub (ws' := [(a, .inl (cI, 8, .inl (upd (upd (upd (upd (upd (upd (upd (upd g 0 0) 1 0) 2 0) 3 0) 4 0) 5 0) 6 0) 7 0)))]) [0] (by decide +kernel) rfl
  refine W.widen (k := 0) (n := 0) (Nat.le_of_ble_eq_true rfl) (Nat.le_of_ble_eq_true rfl) ?_
  exact W.vret hx hb hr (fun t ht hW => ⟨⟨(), rfl, trivial, (by rw [ht]; exact hP9), hD9⟩, hS.F ht⟩) hS.2.2 dJ7_fill_53178_20
set_option maxHeartbeats 40000000 in
set_option maxRecDepth 100000 in
theorem c_fill9 (l : Launch) (dC : Nat → ClassId) (dI : Nat → Nat → Nat) (cI cJ cZ cO : ClassId) (sz : Nat) (a : Nat) (g : Nat → Int32)  : Met l yJ7_fill_53178 (Cond.code yJ7_fill_53178 cJ7_fill_53178 4 none :: pf_W) ({ frames := 0, cells := 0, slots := 0, locals := 0 }) (va_Pc [.ref a, .int 0] (fun U => U.heap.size = sz ∧ va_P (dC, dI) pf_cls [(a, .inl (cI, 9, .inl g))] U.heap ∧ va_K (dC, dI) pf_cls (pf_ty cI cJ cZ cO) U ∧ va_D (fun _ => True) [(a, .inl (cI, 9, .inl g))])) (va_Qv (fun (_ : Unit) => True) (fun (_ : Unit) (t : State) => va_P (dC, dI) pf_cls [(a, .inl (cI, 9, .inl (upd (upd (upd (upd (upd (upd (upd (upd (upd g 0 0) 1 0) 2 0) 3 0) 4 0) 5 0) 6 0) 7 0) 8 0)))] t.heap ∧ va_D (va_A [(a, .inl (cI, 9, .inl g))] sz) [(a, .inl (cI, 9, .inl (upd (upd (upd (upd (upd (upd (upd (upd (upd g 0 0) 1 0) 2 0) 3 0) 4 0) 5 0) 6 0) 7 0) 8 0)))]) (va_A [(a, .inl (cI, 9, .inl g))] sz)) 0 0 (va_A [(a, .inl (cI, 9, .inl g))] sz) := by
  refine Met.ofW (cc := cJ7_fill_53178) (maxL := 4) (ret := none) (by decide) rfl ?_
  intro p e s m args below meth c s₁ B hml hv
  obtain ⟨rfl, hsz, hP, hK, hD0⟩ := hv
  have hx := B.exec
  have hb := B.bytes
  have hr := B.returns
  have hts := atoms_spec (ws := Cond.code yJ7_fill_53178 cJ7_fill_53178 4 none :: pf_W) B.pre
  have hown : s.vm.findClass RJ7 = some m.cls := findClass_of_methodNamed B.named
  have hlocks := B.notSynchronized
  subst hsz
  have hD := hD0.self (sz := s.heap.size)
  generalize hAe : va_A [(a, .inl (cI, 9, .inl g))] s.heap.size = A at hD ⊢
  have hA : ∀ q : Nat, s.heap.size ≤ q → A q := fun q h => by rw [← hAe]; exact Or.inr h
  have hS : va_S A s.heap s.heap [] := va_S.rf
  have hP : va_P (dC, dI) pf_cls [(a, .inl (cI, 9, .inl g))] s.heap := hP
  have hl := lv_entry ([.ref a, .int 0]) (n := 4) (Nat.le_of_ble_eq_true rfl)
  rw [lg_entry_eq]
  generalize (lg_sl ([.ref a, .int 0]) ++ List.replicate (4 - (lg_sl ([.ref a, .int 0])).length) Slot.unset).toArray = ls at hl ⊢
  have hl : lv_has ls 4 [(0, .ref a), (1, .int 0)] := hl
  refine lv_iconst (v := 0) hx hb dJ7_fill_53178_0 (by decide) ?_
  refine lv_istore_n (lv' := [(2, .int 0), (0, .ref a), (1, .int 0)]) hx hb dJ7_fill_53178_1 rfl hl (by decide) rfl (fun ls hl => ?_)
  refine lv_aload_n hx hb dJ7_fill_53178_2 rfl (lv_at hl 1 rfl) ?_
  refine va_alen (v := 9) hx hb hK hP 0 0 rfl rfl (show Int32.ofNat 9 = 9 by decide +kernel) dJ7_fill_53178_3 ?_
  refine lv_istore_n (lv' := [(3, .int 9), (2, .int 0), (0, .ref a), (1, .int 0)]) hx hb dJ7_fill_53178_4 rfl hl (by decide) rfl (fun ls hl => ?_)
  refine lv_iload_n hx hb dJ7_fill_53178_5 rfl (lv_at hl 1 rfl) ?_
  refine lv_iload_n hx hb dJ7_fill_53178_6 rfl (lv_at hl 0 rfl) ?_
  refine lv_icmp_ge (tgt := 20) hx hb dJ7_fill_53178_7 (by decide) (fun c0 => absurd c0 (by decide +kernel)) (fun _ => ?_)
  refine lv_aload_n hx hb dJ7_fill_53178_10 rfl (lv_at hl 2 rfl) ?_
  refine lv_iload_n hx hb dJ7_fill_53178_11 rfl (lv_at hl 1 rfl) ?_
  refine lv_iload_n hx hb dJ7_fill_53178_12 rfl (lv_at hl 3 rfl) ?_
  refine pf_iast hx hb hK hP hD hS 0 0 0 rfl rfl (by decide +kernel) (by decide +kernel) (by decide) dJ7_fill_53178_13 (fun H locs hP hD hS => ?_)
  have hP : va_P (dC, dI) pf_cls [(a, .inl (cI, 9, .inl (upd g 0 0)))] H := hP
  have hD : va_D A [(a, .inl (cI, 9, .inl (upd g 0 0)))] := hD
  refine lv_iinc (v := 1) (lv' := [(2, .int 1), (3, .int 9), (0, .ref a), (1, .int 0)]) hx hb dJ7_fill_53178_14 hl (k := 1) rfl (by decide +kernel) (by decide) rfl (fun ls hl => ?_)
  refine lv_goto (tgt := 5) hx hb dJ7_fill_53178_17 (by decide) ?_
  refine lv_iload_n hx hb dJ7_fill_53178_5 rfl (lv_at hl 0 rfl) ?_
  refine lv_iload_n hx hb dJ7_fill_53178_6 rfl (lv_at hl 1 rfl) ?_
  refine lv_icmp_ge (tgt := 20) hx hb dJ7_fill_53178_7 (by decide) (fun c1 => absurd c1 (by decide +kernel)) (fun _ => ?_)
  refine lv_aload_n hx hb dJ7_fill_53178_10 rfl (lv_at hl 2 rfl) ?_
  refine lv_iload_n hx hb dJ7_fill_53178_11 rfl (lv_at hl 0 rfl) ?_
  refine lv_iload_n hx hb dJ7_fill_53178_12 rfl (lv_at hl 3 rfl) ?_
  refine pf_iast hx hb hK hP hD hS 0 0 1 rfl rfl (by decide +kernel) (by decide +kernel) (by decide) dJ7_fill_53178_13 (fun H locs hP hD hS => ?_)
  have hP : va_P (dC, dI) pf_cls [(a, .inl (cI, 9, .inl (upd (upd g 0 0) 1 0)))] H := hP
  have hD : va_D A [(a, .inl (cI, 9, .inl (upd (upd g 0 0) 1 0)))] := hD
  refine lv_iinc (v := 2) (lv' := [(2, .int 2), (3, .int 9), (0, .ref a), (1, .int 0)]) hx hb dJ7_fill_53178_14 hl (k := 0) rfl (by decide +kernel) (by decide) rfl (fun ls hl => ?_)
  refine lv_goto (tgt := 5) hx hb dJ7_fill_53178_17 (by decide) ?_
  refine lv_iload_n hx hb dJ7_fill_53178_5 rfl (lv_at hl 0 rfl) ?_
  refine lv_iload_n hx hb dJ7_fill_53178_6 rfl (lv_at hl 1 rfl) ?_
  refine lv_icmp_ge (tgt := 20) hx hb dJ7_fill_53178_7 (by decide) (fun c2 => absurd c2 (by decide +kernel)) (fun _ => ?_)
  refine lv_aload_n hx hb dJ7_fill_53178_10 rfl (lv_at hl 2 rfl) ?_
  refine lv_iload_n hx hb dJ7_fill_53178_11 rfl (lv_at hl 0 rfl) ?_
  refine lv_iload_n hx hb dJ7_fill_53178_12 rfl (lv_at hl 3 rfl) ?_
  refine pf_iast hx hb hK hP hD hS 0 0 2 rfl rfl (by decide +kernel) (by decide +kernel) (by decide) dJ7_fill_53178_13 (fun H locs hP hD hS => ?_)
  have hP : va_P (dC, dI) pf_cls [(a, .inl (cI, 9, .inl (upd (upd (upd g 0 0) 1 0) 2 0)))] H := hP
  have hD : va_D A [(a, .inl (cI, 9, .inl (upd (upd (upd g 0 0) 1 0) 2 0)))] := hD
  refine lv_iinc (v := 3) (lv' := [(2, .int 3), (3, .int 9), (0, .ref a), (1, .int 0)]) hx hb dJ7_fill_53178_14 hl (k := 0) rfl (by decide +kernel) (by decide) rfl (fun ls hl => ?_)
  refine lv_goto (tgt := 5) hx hb dJ7_fill_53178_17 (by decide) ?_
  refine lv_iload_n hx hb dJ7_fill_53178_5 rfl (lv_at hl 0 rfl) ?_
  refine lv_iload_n hx hb dJ7_fill_53178_6 rfl (lv_at hl 1 rfl) ?_
  refine lv_icmp_ge (tgt := 20) hx hb dJ7_fill_53178_7 (by decide) (fun c3 => absurd c3 (by decide +kernel)) (fun _ => ?_)
  refine lv_aload_n hx hb dJ7_fill_53178_10 rfl (lv_at hl 2 rfl) ?_
  refine lv_iload_n hx hb dJ7_fill_53178_11 rfl (lv_at hl 0 rfl) ?_
  refine lv_iload_n hx hb dJ7_fill_53178_12 rfl (lv_at hl 3 rfl) ?_
  refine pf_iast hx hb hK hP hD hS 0 0 3 rfl rfl (by decide +kernel) (by decide +kernel) (by decide) dJ7_fill_53178_13 (fun H locs hP hD hS => ?_)
  have hP : va_P (dC, dI) pf_cls [(a, .inl (cI, 9, .inl (upd (upd (upd (upd g 0 0) 1 0) 2 0) 3 0)))] H := hP
  have hD : va_D A [(a, .inl (cI, 9, .inl (upd (upd (upd (upd g 0 0) 1 0) 2 0) 3 0)))] := hD
  refine lv_iinc (v := 4) (lv' := [(2, .int 4), (3, .int 9), (0, .ref a), (1, .int 0)]) hx hb dJ7_fill_53178_14 hl (k := 0) rfl (by decide +kernel) (by decide) rfl (fun ls hl => ?_)
  refine lv_goto (tgt := 5) hx hb dJ7_fill_53178_17 (by decide) ?_
  refine lv_iload_n hx hb dJ7_fill_53178_5 rfl (lv_at hl 0 rfl) ?_
  refine lv_iload_n hx hb dJ7_fill_53178_6 rfl (lv_at hl 1 rfl) ?_
  refine lv_icmp_ge (tgt := 20) hx hb dJ7_fill_53178_7 (by decide) (fun c4 => absurd c4 (by decide +kernel)) (fun _ => ?_)
  refine lv_aload_n hx hb dJ7_fill_53178_10 rfl (lv_at hl 2 rfl) ?_
  refine lv_iload_n hx hb dJ7_fill_53178_11 rfl (lv_at hl 0 rfl) ?_
  refine lv_iload_n hx hb dJ7_fill_53178_12 rfl (lv_at hl 3 rfl) ?_
  refine pf_iast hx hb hK hP hD hS 0 0 4 rfl rfl (by decide +kernel) (by decide +kernel) (by decide) dJ7_fill_53178_13 (fun H locs hP hD hS => ?_)
  have hP : va_P (dC, dI) pf_cls [(a, .inl (cI, 9, .inl (upd (upd (upd (upd (upd g 0 0) 1 0) 2 0) 3 0) 4 0)))] H := hP
  have hD : va_D A [(a, .inl (cI, 9, .inl (upd (upd (upd (upd (upd g 0 0) 1 0) 2 0) 3 0) 4 0)))] := hD
  refine lv_iinc (v := 5) (lv' := [(2, .int 5), (3, .int 9), (0, .ref a), (1, .int 0)]) hx hb dJ7_fill_53178_14 hl (k := 0) rfl (by decide +kernel) (by decide) rfl (fun ls hl => ?_)
  refine lv_goto (tgt := 5) hx hb dJ7_fill_53178_17 (by decide) ?_
  refine lv_iload_n hx hb dJ7_fill_53178_5 rfl (lv_at hl 0 rfl) ?_
  refine lv_iload_n hx hb dJ7_fill_53178_6 rfl (lv_at hl 1 rfl) ?_
  refine lv_icmp_ge (tgt := 20) hx hb dJ7_fill_53178_7 (by decide) (fun c5 => absurd c5 (by decide +kernel)) (fun _ => ?_)
  refine lv_aload_n hx hb dJ7_fill_53178_10 rfl (lv_at hl 2 rfl) ?_
  refine lv_iload_n hx hb dJ7_fill_53178_11 rfl (lv_at hl 0 rfl) ?_
  refine lv_iload_n hx hb dJ7_fill_53178_12 rfl (lv_at hl 3 rfl) ?_
  refine pf_iast hx hb hK hP hD hS 0 0 5 rfl rfl (by decide +kernel) (by decide +kernel) (by decide) dJ7_fill_53178_13 (fun H locs hP hD hS => ?_)
  have hP : va_P (dC, dI) pf_cls [(a, .inl (cI, 9, .inl (upd (upd (upd (upd (upd (upd g 0 0) 1 0) 2 0) 3 0) 4 0) 5 0)))] H := hP
  have hD : va_D A [(a, .inl (cI, 9, .inl (upd (upd (upd (upd (upd (upd g 0 0) 1 0) 2 0) 3 0) 4 0) 5 0)))] := hD
  refine lv_iinc (v := 6) (lv' := [(2, .int 6), (3, .int 9), (0, .ref a), (1, .int 0)]) hx hb dJ7_fill_53178_14 hl (k := 0) rfl (by decide +kernel) (by decide) rfl (fun ls hl => ?_)
  refine lv_goto (tgt := 5) hx hb dJ7_fill_53178_17 (by decide) ?_
  refine lv_iload_n hx hb dJ7_fill_53178_5 rfl (lv_at hl 0 rfl) ?_
  refine lv_iload_n hx hb dJ7_fill_53178_6 rfl (lv_at hl 1 rfl) ?_
  refine lv_icmp_ge (tgt := 20) hx hb dJ7_fill_53178_7 (by decide) (fun c6 => absurd c6 (by decide +kernel)) (fun _ => ?_)
  refine lv_aload_n hx hb dJ7_fill_53178_10 rfl (lv_at hl 2 rfl) ?_
  refine lv_iload_n hx hb dJ7_fill_53178_11 rfl (lv_at hl 0 rfl) ?_
  refine lv_iload_n hx hb dJ7_fill_53178_12 rfl (lv_at hl 3 rfl) ?_
  refine pf_iast hx hb hK hP hD hS 0 0 6 rfl rfl (by decide +kernel) (by decide +kernel) (by decide) dJ7_fill_53178_13 (fun H locs hP hD hS => ?_)
  have hP : va_P (dC, dI) pf_cls [(a, .inl (cI, 9, .inl (upd (upd (upd (upd (upd (upd (upd g 0 0) 1 0) 2 0) 3 0) 4 0) 5 0) 6 0)))] H := hP
  have hD : va_D A [(a, .inl (cI, 9, .inl (upd (upd (upd (upd (upd (upd (upd g 0 0) 1 0) 2 0) 3 0) 4 0) 5 0) 6 0)))] := hD
  refine lv_iinc (v := 7) (lv' := [(2, .int 7), (3, .int 9), (0, .ref a), (1, .int 0)]) hx hb dJ7_fill_53178_14 hl (k := 0) rfl (by decide +kernel) (by decide) rfl (fun ls hl => ?_)
  refine lv_goto (tgt := 5) hx hb dJ7_fill_53178_17 (by decide) ?_
  refine lv_iload_n hx hb dJ7_fill_53178_5 rfl (lv_at hl 0 rfl) ?_
  refine lv_iload_n hx hb dJ7_fill_53178_6 rfl (lv_at hl 1 rfl) ?_
  refine lv_icmp_ge (tgt := 20) hx hb dJ7_fill_53178_7 (by decide) (fun c7 => absurd c7 (by decide +kernel)) (fun _ => ?_)
  refine lv_aload_n hx hb dJ7_fill_53178_10 rfl (lv_at hl 2 rfl) ?_
  refine lv_iload_n hx hb dJ7_fill_53178_11 rfl (lv_at hl 0 rfl) ?_
  refine lv_iload_n hx hb dJ7_fill_53178_12 rfl (lv_at hl 3 rfl) ?_
  refine pf_iast hx hb hK hP hD hS 0 0 7 rfl rfl (by decide +kernel) (by decide +kernel) (by decide) dJ7_fill_53178_13 (fun H locs hP hD hS => ?_)
  have hP : va_P (dC, dI) pf_cls [(a, .inl (cI, 9, .inl (upd (upd (upd (upd (upd (upd (upd (upd g 0 0) 1 0) 2 0) 3 0) 4 0) 5 0) 6 0) 7 0)))] H := hP
  have hD : va_D A [(a, .inl (cI, 9, .inl (upd (upd (upd (upd (upd (upd (upd (upd g 0 0) 1 0) 2 0) 3 0) 4 0) 5 0) 6 0) 7 0)))] := hD
  refine lv_iinc (v := 8) (lv' := [(2, .int 8), (3, .int 9), (0, .ref a), (1, .int 0)]) hx hb dJ7_fill_53178_14 hl (k := 0) rfl (by decide +kernel) (by decide) rfl (fun ls hl => ?_)
  refine lv_goto (tgt := 5) hx hb dJ7_fill_53178_17 (by decide) ?_
  refine lv_iload_n hx hb dJ7_fill_53178_5 rfl (lv_at hl 0 rfl) ?_
  refine lv_iload_n hx hb dJ7_fill_53178_6 rfl (lv_at hl 1 rfl) ?_
  refine lv_icmp_ge (tgt := 20) hx hb dJ7_fill_53178_7 (by decide) (fun c8 => absurd c8 (by decide +kernel)) (fun _ => ?_)
  refine lv_aload_n hx hb dJ7_fill_53178_10 rfl (lv_at hl 2 rfl) ?_
  refine lv_iload_n hx hb dJ7_fill_53178_11 rfl (lv_at hl 0 rfl) ?_
  refine lv_iload_n hx hb dJ7_fill_53178_12 rfl (lv_at hl 3 rfl) ?_
  refine pf_iast hx hb hK hP hD hS 0 0 8 rfl rfl (by decide +kernel) (by decide +kernel) (by decide) dJ7_fill_53178_13 (fun H locs hP hD hS => ?_)
  have hP : va_P (dC, dI) pf_cls [(a, .inl (cI, 9, .inl (upd (upd (upd (upd (upd (upd (upd (upd (upd g 0 0) 1 0) 2 0) 3 0) 4 0) 5 0) 6 0) 7 0) 8 0)))] H := hP
  have hD : va_D A [(a, .inl (cI, 9, .inl (upd (upd (upd (upd (upd (upd (upd (upd (upd g 0 0) 1 0) 2 0) 3 0) 4 0) 5 0) 6 0) 7 0) 8 0)))] := hD
  refine lv_iinc (v := 9) (lv' := [(2, .int 9), (3, .int 9), (0, .ref a), (1, .int 0)]) hx hb dJ7_fill_53178_14 hl (k := 0) rfl (by decide +kernel) (by decide) rfl (fun ls hl => ?_)
  refine lv_goto (tgt := 5) hx hb dJ7_fill_53178_17 (by decide) ?_
  refine lv_iload_n hx hb dJ7_fill_53178_5 rfl (lv_at hl 0 rfl) ?_
  refine lv_iload_n hx hb dJ7_fill_53178_6 rfl (lv_at hl 1 rfl) ?_
  refine lv_icmp_ge (tgt := 20) hx hb dJ7_fill_53178_7 (by decide) (fun _ => ?_) (fun c9 => absurd (by decide +kernel) c9)
  have hP9 := hP.sub (ws' := [(a, .inl (cI, 9, .inl (upd (upd (upd (upd (upd (upd (upd (upd (upd g 0 0) 1 0) 2 0) 3 0) 4 0) 5 0) 6 0) 7 0) 8 0)))]) [0] rfl
  have hD9 := hD.sub (ws' := [(a, .inl (cI, 9, .inl (upd (upd (upd (upd (upd (upd (upd (upd (upd g 0 0) 1 0) 2 0) 3 0) 4 0) 5 0) 6 0) 7 0) 8 0)))]) [0] (by decide +kernel) rfl
  refine W.widen (k := 0) (n := 0) (Nat.le_of_ble_eq_true rfl) (Nat.le_of_ble_eq_true rfl) ?_
  exact W.vret hx hb hr (fun t ht hW => ⟨⟨(), rfl, trivial, (by rw [ht]; exact hP9), hD9⟩, hS.F ht⟩) hS.2.2 dJ7_fill_53178_20
set_option maxHeartbeats 40000000 in
set_option maxRecDepth 100000 in
theorem c_net_clear (l : Launch) (dC : Nat → ClassId) (dI : Nat → Nat → Nat) (cI cJ cZ cO : ClassId) (sz : Nat) (n : Nat) (p0 : Int32) (w0 : Int32) (w1 : Int32) (w2 : Int32) (n3 : Nat) (n4 : Nat) (n5 : Nat) (n6 : Nat) (n7 : Nat) (n8 : Nat) (n9 : Nat) (g3 : Nat → Int32) (g4 : Nat → Int32)  : Met l yX5_clear (Cond.code yX5_clear cX5_clear 2 none :: pf_W) ({ frames := 1, cells := 0, slots := 0, locals := 23 }) (va_Pc [.ref n, .int p0] (fun U => U.heap.size = sz ∧ va_P (dC, dI) pf_cls [(n, .inr (5, [.int w0, .int w1, .int w2, .ref n3, .ref n4, .ref n5, .ref n6, .ref n7, .ref n8, .ref n9])), (n3, .inl (cI, 8, .inl g3)), (n4, .inl (cI, 8, .inl g4))] U.heap ∧ va_K (dC, dI) pf_cls (pf_ty cI cJ cZ cO) U ∧ va_D (fun _ => True) [(n, .inr (5, [.int w0, .int w1, .int w2, .ref n3, .ref n4, .ref n5, .ref n6, .ref n7, .ref n8, .ref n9])), (n3, .inl (cI, 8, .inl g3)), (n4, .inl (cI, 8, .inl g4))])) (va_Qv (fun (_ : Unit) => True) (fun (_ : Unit) (t : State) => va_P (dC, dI) pf_cls [(n, .inr (5, [.int p0, .int 0, .int 0, .ref n3, .ref n4, .ref n5, .ref n6, .ref n7, .ref n8, .ref n9])), (n3, .inl (cI, 8, .inl (upd (upd (upd (upd (upd (upd (upd (upd g3 0 0) 1 0) 2 0) 3 0) 4 0) 5 0) 6 0) 7 0))), (n4, .inl (cI, 8, .inl (upd (upd (upd (upd (upd (upd (upd (upd g4 0 0) 1 0) 2 0) 3 0) 4 0) 5 0) 6 0) 7 0)))] t.heap ∧ va_D (va_A [(n, .inr (5, [.int w0, .int w1, .int w2, .ref n3, .ref n4, .ref n5, .ref n6, .ref n7, .ref n8, .ref n9])), (n3, .inl (cI, 8, .inl g3)), (n4, .inl (cI, 8, .inl g4))] sz) [(n, .inr (5, [.int p0, .int 0, .int 0, .ref n3, .ref n4, .ref n5, .ref n6, .ref n7, .ref n8, .ref n9])), (n3, .inl (cI, 8, .inl (upd (upd (upd (upd (upd (upd (upd (upd g3 0 0) 1 0) 2 0) 3 0) 4 0) 5 0) 6 0) 7 0))), (n4, .inl (cI, 8, .inl (upd (upd (upd (upd (upd (upd (upd (upd g4 0 0) 1 0) 2 0) 3 0) 4 0) 5 0) 6 0) 7 0)))]) (va_A [(n, .inr (5, [.int w0, .int w1, .int w2, .ref n3, .ref n4, .ref n5, .ref n6, .ref n7, .ref n8, .ref n9])), (n3, .inl (cI, 8, .inl g3)), (n4, .inl (cI, 8, .inl g4))] sz)) 0 0 (va_A [(n, .inr (5, [.int w0, .int w1, .int w2, .ref n3, .ref n4, .ref n5, .ref n6, .ref n7, .ref n8, .ref n9])), (n3, .inl (cI, 8, .inl g3)), (n4, .inl (cI, 8, .inl g4))] sz) := by
  refine Met.ofW (cc := cX5_clear) (maxL := 2) (ret := none) (by decide) rfl ?_
  intro p e s m args below meth c s₁ B hml hv
  obtain ⟨rfl, hsz, hP, hK, hD0⟩ := hv
  have hx := B.exec
  have hb := B.bytes
  have hr := B.returns
  have hts := atoms_spec (ws := Cond.code yX5_clear cX5_clear 2 none :: pf_W) B.pre
  have hown : s.vm.findClass RX5 = some m.cls := findClass_of_methodNamed B.named
  have hlocks := B.notSynchronized
  subst hsz
  have hD := hD0.self (sz := s.heap.size)
  generalize hAe : va_A [(n, .inr (5, [.int w0, .int w1, .int w2, .ref n3, .ref n4, .ref n5, .ref n6, .ref n7, .ref n8, .ref n9])), (n3, .inl (cI, 8, .inl g3)), (n4, .inl (cI, 8, .inl g4))] s.heap.size = A at hD ⊢
  have hA : ∀ q : Nat, s.heap.size ≤ q → A q := fun q h => by rw [← hAe]; exact Or.inr h
  have hS : va_S A s.heap s.heap [] := va_S.rf
  have hP : va_P (dC, dI) pf_cls [(n, .inr (5, [.int w0, .int w1, .int w2, .ref n3, .ref n4, .ref n5, .ref n6, .ref n7, .ref n8, .ref n9])), (n3, .inl (cI, 8, .inl g3)), (n4, .inl (cI, 8, .inl g4))] s.heap := hP
  have hl := lv_entry ([.ref n, .int p0]) (n := 2) (Nat.le_of_ble_eq_true rfl)
  rw [lg_entry_eq]
  generalize (lg_sl ([.ref n, .int p0]) ++ List.replicate (2 - (lg_sl ([.ref n, .int p0])).length) Slot.unset).toArray = ls at hl ⊢
  have hl : lv_has ls 2 [(0, .ref n), (1, .int p0)] := hl
  refine lv_aload_n hx hb dX5_clear_0 rfl (lv_at hl 0 rfl) ?_
  refine lv_iload_n hx hb dX5_clear_1 rfl (lv_at hl 1 rfl) ?_
  refine va_put (D := (dC, dI)) (ci := 5) (v := .int p0) (ty := .int) (C := RX5) (T := TX5) (N := 10) hx hb hts (fun w h => List.mem_cons_of_mem _ (ic_X5 w h)) tyX5 tyX5_ok nmX5 hown hK hP hD hS 0 rfl rfl 0 (by decide) (hts _ (List.mem_cons_of_mem _ mw_29)) (fun _ h9 => h9) rfl (by decide +kernel) rfl rfl (Nat.le_of_ble_eq_true rfl) dX5_clear_2 (fun H locs hP hD hS => ?_)
  have hP : va_P (dC, dI) pf_cls [(n, .inr (5, [.int p0, .int w1, .int w2, .ref n3, .ref n4, .ref n5, .ref n6, .ref n7, .ref n8, .ref n9])), (n3, .inl (cI, 8, .inl g3)), (n4, .inl (cI, 8, .inl g4))] H := hP
  have hD : va_D A [(n, .inr (5, [.int p0, .int w1, .int w2, .ref n3, .ref n4, .ref n5, .ref n6, .ref n7, .ref n8, .ref n9])), (n3, .inl (cI, 8, .inl g3)), (n4, .inl (cI, 8, .inl g4))] := hD
  refine lv_aload_n hx hb dX5_clear_5 rfl (lv_at hl 0 rfl) ?_
  refine lv_iconst (v := 0) hx hb dX5_clear_6 (by decide) ?_
  refine va_put (D := (dC, dI)) (ci := 5) (v := .int 0) (ty := .int) (C := RX5) (T := TX5) (N := 10) hx hb hts (fun w h => List.mem_cons_of_mem _ (ic_X5 w h)) tyX5 tyX5_ok nmX5 hown hK hP hD hS 0 rfl rfl 1 (by decide) (hts _ (List.mem_cons_of_mem _ mw_38)) (fun _ h9 => h9) rfl (by decide +kernel) rfl rfl (Nat.le_of_ble_eq_true rfl) dX5_clear_7 (fun H locs hP hD hS => ?_)
  have hP : va_P (dC, dI) pf_cls [(n, .inr (5, [.int p0, .int 0, .int w2, .ref n3, .ref n4, .ref n5, .ref n6, .ref n7, .ref n8, .ref n9])), (n3, .inl (cI, 8, .inl g3)), (n4, .inl (cI, 8, .inl g4))] H := hP
  have hD : va_D A [(n, .inr (5, [.int p0, .int 0, .int w2, .ref n3, .ref n4, .ref n5, .ref n6, .ref n7, .ref n8, .ref n9])), (n3, .inl (cI, 8, .inl g3)), (n4, .inl (cI, 8, .inl g4))] := hD
  refine lv_aload_n hx hb dX5_clear_10 rfl (lv_at hl 0 rfl) ?_
  refine lv_iconst (v := 0) hx hb dX5_clear_11 (by decide) ?_
  refine va_put (D := (dC, dI)) (ci := 5) (v := .int 0) (ty := .int) (C := RX5) (T := TX5) (N := 10) hx hb hts (fun w h => List.mem_cons_of_mem _ (ic_X5 w h)) tyX5 tyX5_ok nmX5 hown hK hP hD hS 0 rfl rfl 2 (by decide) (hts _ (List.mem_cons_of_mem _ mw_30)) (fun _ h9 => h9) rfl (by decide +kernel) rfl rfl (Nat.le_of_ble_eq_true rfl) dX5_clear_12 (fun H locs hP hD hS => ?_)
  have hP : va_P (dC, dI) pf_cls [(n, .inr (5, [.int p0, .int 0, .int 0, .ref n3, .ref n4, .ref n5, .ref n6, .ref n7, .ref n8, .ref n9])), (n3, .inl (cI, 8, .inl g3)), (n4, .inl (cI, 8, .inl g4))] H := hP
  have hD : va_D A [(n, .inr (5, [.int p0, .int 0, .int 0, .ref n3, .ref n4, .ref n5, .ref n6, .ref n7, .ref n8, .ref n9])), (n3, .inl (cI, 8, .inl g3)), (n4, .inl (cI, 8, .inl g4))] := hD
  refine lv_aload_n hx hb dX5_clear_15 rfl (lv_at hl 0 rfl) ?_
  refine va_get (D := (dC, dI)) (ci := 5) (v := .ref n3) (C := RX5) (T := TX5) (N := 10) hx hb hts (fun w h => List.mem_cons_of_mem _ (ic_X5 w h)) hown hK hP 0 rfl rfl 3 (by decide) (hts _ (List.mem_cons_of_mem _ mw_31)) (fun _ h9 => h9) rfl dX5_clear_16 ?_
  refine lv_iconst (v := 0) hx hb dX5_clear_19 (by decide) ?_
  have hPc := hP.sub (ws' := [(n3, .inl (cI, 8, .inl g3))]) [1] rfl
  have hDc := hD.sub (ws' := [(n3, .inl (cI, 8, .inl g3))]) [1] (by decide +kernel) rfl
  have hFc := va_free (wc := [(n3, .inl (cI, 8, .inl g3))]) hD hS hA [1] rfl
  refine va_callv (va_runS (As := [.ref n3, .int 0]) (rest := []) ⟨hx, hb, hml, hown, hts⟩ (c_fill8 l dC dI cI cJ cZ cO H.size n3 g3) (va_cwS 2 hts (pf_gS mw_39 mw_40 mw_41 mw_42) rfl rfl rfl (by decide +kernel) ⟨Nat.le_of_ble_eq_true rfl, Nat.le_of_ble_eq_true rfl⟩) ⟨fun a U g mk q => by obtain ⟨q0, q1, qP, qK, qD⟩ := q; exact ⟨q0, q1, qP, va_K.moved (u := U) (U := U.calling g mk a) (Vm.Alike.refl U.vm) qK, qD⟩, fun U hU hW => ⟨rfl, by rw [hU], by rw [hU]; exact hPc, va_K.moved hW.alike hK, hDc.weaken (fun _ _ _ _ => trivial)⟩⟩ rfl rfl hl.1 rfl (lv_room (Nat.le_of_ble_eq_true rfl)) dX5_clear_20 ⟨Nat.le_of_ble_eq_true rfl, Nat.le_of_ble_eq_true rfl⟩) hS (fun q _ h => hFc q h) hFc (fun u t H1 locs ht hvm hw hB hz1 hk1 hS => ?_)
  obtain ⟨hP1, hD1⟩ := hB
  rw [ht] at hP1
  obtain ⟨hP, hD⟩ := va_join (wr := [(n, .inr (5, [.int p0, .int 0, .int 0, .ref n3, .ref n4, .ref n5, .ref n6, .ref n7, .ref n8, .ref n9])), (n4, .inl (cI, 8, .inl g4))]) (w1 := [(n3, .inl (cI, 8, .inl (upd (upd (upd (upd (upd (upd (upd (upd g3 0 0) 1 0) 2 0) 3 0) 4 0) 5 0) 6 0) 7 0)))]) hP hD [1] [0, 2] rfl rfl (by decide +kernel) (by decide +kernel) hk1 hFc hP1 hD1
  clear hPc hDc hFc hk1 hz1
  generalize H1 = H at hP hS ⊢
  have hP : va_P (dC, dI) pf_cls [(n, .inr (5, [.int p0, .int 0, .int 0, .ref n3, .ref n4, .ref n5, .ref n6, .ref n7, .ref n8, .ref n9])), (n4, .inl (cI, 8, .inl g4)), (n3, .inl (cI, 8, .inl (upd (upd (upd (upd (upd (upd (upd (upd g3 0 0) 1 0) 2 0) 3 0) 4 0) 5 0) 6 0) 7 0)))] H := hP
  have hD : va_D A [(n, .inr (5, [.int p0, .int 0, .int 0, .ref n3, .ref n4, .ref n5, .ref n6, .ref n7, .ref n8, .ref n9])), (n4, .inl (cI, 8, .inl g4)), (n3, .inl (cI, 8, .inl (upd (upd (upd (upd (upd (upd (upd (upd g3 0 0) 1 0) 2 0) 3 0) 4 0) 5 0) 6 0) 7 0)))] := hD
  refine lv_aload_n hx hb dX5_clear_23 rfl (lv_at hl 0 rfl) ?_
  refine va_get (D := (dC, dI)) (ci := 5) (v := .ref n4) (C := RX5) (T := TX5) (N := 10) hx hb hts (fun w h => List.mem_cons_of_mem _ (ic_X5 w h)) hown hK hP 0 rfl rfl 4 (by decide) (hts _ (List.mem_cons_of_mem _ mw_32)) (fun _ h9 => h9) rfl dX5_clear_24 ?_
  refine lv_iconst (v := 0) hx hb dX5_clear_27 (by decide) ?_
  have hPc := hP.sub (ws' := [(n4, .inl (cI, 8, .inl g4))]) [1] rfl
  have hDc := hD.sub (ws' := [(n4, .inl (cI, 8, .inl g4))]) [1] (by decide +kernel) rfl
  have hFc := va_free (wc := [(n4, .inl (cI, 8, .inl g4))]) hD hS hA [1] rfl
  refine va_callv (va_runS (As := [.ref n4, .int 0]) (rest := []) ⟨hx, hb, hml, hown, hts⟩ (c_fill8 l dC dI cI cJ cZ cO H.size n4 g4) (va_cwS 2 hts (pf_gS mw_39 mw_40 mw_41 mw_42) rfl rfl rfl (by decide +kernel) ⟨Nat.le_of_ble_eq_true rfl, Nat.le_of_ble_eq_true rfl⟩) ⟨fun a U g mk q => by obtain ⟨q0, q1, qP, qK, qD⟩ := q; exact ⟨q0, q1, qP, va_K.moved (u := U) (U := U.calling g mk a) (Vm.Alike.refl U.vm) qK, qD⟩, fun U hU hW => ⟨rfl, by rw [hU], by rw [hU]; exact hPc, va_K.moved hW.alike hK, hDc.weaken (fun _ _ _ _ => trivial)⟩⟩ rfl rfl hl.1 rfl (lv_room (Nat.le_of_ble_eq_true rfl)) dX5_clear_28 ⟨Nat.le_of_ble_eq_true rfl, Nat.le_of_ble_eq_true rfl⟩) hS (fun q _ h => hFc q h) hFc (fun u t H1 locs ht hvm hw hB hz1 hk1 hS => ?_)
  obtain ⟨hP1, hD1⟩ := hB
  rw [ht] at hP1
  obtain ⟨hP, hD⟩ := va_join (wr := [(n, .inr (5, [.int p0, .int 0, .int 0, .ref n3, .ref n4, .ref n5, .ref n6, .ref n7, .ref n8, .ref n9])), (n3, .inl (cI, 8, .inl (upd (upd (upd (upd (upd (upd (upd (upd g3 0 0) 1 0) 2 0) 3 0) 4 0) 5 0) 6 0) 7 0)))]) (w1 := [(n4, .inl (cI, 8, .inl (upd (upd (upd (upd (upd (upd (upd (upd g4 0 0) 1 0) 2 0) 3 0) 4 0) 5 0) 6 0) 7 0)))]) hP hD [1] [0, 2] rfl rfl (by decide +kernel) (by decide +kernel) hk1 hFc hP1 hD1
  clear hPc hDc hFc hk1 hz1
  generalize H1 = H at hP hS ⊢
  have hP : va_P (dC, dI) pf_cls [(n, .inr (5, [.int p0, .int 0, .int 0, .ref n3, .ref n4, .ref n5, .ref n6, .ref n7, .ref n8, .ref n9])), (n3, .inl (cI, 8, .inl (upd (upd (upd (upd (upd (upd (upd (upd g3 0 0) 1 0) 2 0) 3 0) 4 0) 5 0) 6 0) 7 0))), (n4, .inl (cI, 8, .inl (upd (upd (upd (upd (upd (upd (upd (upd g4 0 0) 1 0) 2 0) 3 0) 4 0) 5 0) 6 0) 7 0)))] H := hP
  have hD : va_D A [(n, .inr (5, [.int p0, .int 0, .int 0, .ref n3, .ref n4, .ref n5, .ref n6, .ref n7, .ref n8, .ref n9])), (n3, .inl (cI, 8, .inl (upd (upd (upd (upd (upd (upd (upd (upd g3 0 0) 1 0) 2 0) 3 0) 4 0) 5 0) 6 0) 7 0))), (n4, .inl (cI, 8, .inl (upd (upd (upd (upd (upd (upd (upd (upd g4 0 0) 1 0) 2 0) 3 0) 4 0) 5 0) 6 0) 7 0)))] := hD
  have hP9 := hP.sub (ws' := [(n, .inr (5, [.int p0, .int 0, .int 0, .ref n3, .ref n4, .ref n5, .ref n6, .ref n7, .ref n8, .ref n9])), (n3, .inl (cI, 8, .inl (upd (upd (upd (upd (upd (upd (upd (upd g3 0 0) 1 0) 2 0) 3 0) 4 0) 5 0) 6 0) 7 0))), (n4, .inl (cI, 8, .inl (upd (upd (upd (upd (upd (upd (upd (upd g4 0 0) 1 0) 2 0) 3 0) 4 0) 5 0) 6 0) 7 0)))]) [0, 1, 2] rfl
  have hD9 := hD.sub (ws' := [(n, .inr (5, [.int p0, .int 0, .int 0, .ref n3, .ref n4, .ref n5, .ref n6, .ref n7, .ref n8, .ref n9])), (n3, .inl (cI, 8, .inl (upd (upd (upd (upd (upd (upd (upd (upd g3 0 0) 1 0) 2 0) 3 0) 4 0) 5 0) 6 0) 7 0))), (n4, .inl (cI, 8, .inl (upd (upd (upd (upd (upd (upd (upd (upd g4 0 0) 1 0) 2 0) 3 0) 4 0) 5 0) 6 0) 7 0)))]) [0, 1, 2] (by decide +kernel) rfl
  refine W.widen (k := 0) (n := 0) (Nat.le_of_ble_eq_true rfl) (Nat.le_of_ble_eq_true rfl) ?_
  exact W.vret hx hb hr (fun t ht hW => ⟨⟨(), rfl, trivial, (by rw [ht]; exact hP9), hD9⟩, hS.F ht⟩) hS.2.2 dX5_clear_31
set_option maxHeartbeats 40000000 in
set_option maxRecDepth 100000 in
theorem c_hasNode (l : Launch) (dC : Nat → ClassId) (dI : Nat → Nat → Nat) (cI cJ cZ cO : ClassId) (sz : Nat) (n : Nat) (p0 : Int32) (n3 : Nat) (n4 : Nat) (n5 : Nat) (n6 : Nat) (n7 : Nat) (n8 : Nat) (n9 : Nat)  : Met l yX5_hasNode (Cond.code yX5_hasNode cX5_hasNode 2 (some .boolean) :: pf_W) ({ frames := 0, cells := 0, slots := 0, locals := 0 }) (va_Pc [.ref n, .int p0] (fun U => U.heap.size = sz ∧ va_P (dC, dI) pf_cls [(n, .inr (5, [.int 2, .int 0, .int 0, .ref n3, .ref n4, .ref n5, .ref n6, .ref n7, .ref n8, .ref n9]))] U.heap ∧ va_K (dC, dI) pf_cls (pf_ty cI cJ cZ cO) U ∧ va_D (fun _ => True) [(n, .inr (5, [.int 2, .int 0, .int 0, .ref n3, .ref n4, .ref n5, .ref n6, .ref n7, .ref n8, .ref n9]))])) (va_Qi (fun (r : Int32) (_ : Unit) => r = (pf_in p0 0 1)) (fun (_ : Unit) (t : State) => va_P (dC, dI) pf_cls [(n, .inr (5, [.int 2, .int 0, .int 0, .ref n3, .ref n4, .ref n5, .ref n6, .ref n7, .ref n8, .ref n9]))] t.heap ∧ va_D (va_A [(n, .inr (5, [.int 2, .int 0, .int 0, .ref n3, .ref n4, .ref n5, .ref n6, .ref n7, .ref n8, .ref n9]))] sz) [(n, .inr (5, [.int 2, .int 0, .int 0, .ref n3, .ref n4, .ref n5, .ref n6, .ref n7, .ref n8, .ref n9]))]) (va_A [(n, .inr (5, [.int 2, .int 0, .int 0, .ref n3, .ref n4, .ref n5, .ref n6, .ref n7, .ref n8, .ref n9]))] sz)) 0 0 (va_A [(n, .inr (5, [.int 2, .int 0, .int 0, .ref n3, .ref n4, .ref n5, .ref n6, .ref n7, .ref n8, .ref n9]))] sz) := by
  refine Met.ofW (cc := cX5_hasNode) (maxL := 2) (ret := (some .boolean)) (by decide) rfl ?_
  intro p e s m args below meth c s₁ B hml hv
  obtain ⟨rfl, hsz, hP, hK, hD0⟩ := hv
  have hx := B.exec
  have hb := B.bytes
  have hr := B.returns
  have hts := atoms_spec (ws := Cond.code yX5_hasNode cX5_hasNode 2 (some .boolean) :: pf_W) B.pre
  have hown : s.vm.findClass RX5 = some m.cls := findClass_of_methodNamed B.named
  have hlocks := B.notSynchronized
  subst hsz
  have hD := hD0.self (sz := s.heap.size)
  generalize hAe : va_A [(n, .inr (5, [.int 2, .int 0, .int 0, .ref n3, .ref n4, .ref n5, .ref n6, .ref n7, .ref n8, .ref n9]))] s.heap.size = A at hD ⊢
  have hA : ∀ q : Nat, s.heap.size ≤ q → A q := fun q h => by rw [← hAe]; exact Or.inr h
  have hS : va_S A s.heap s.heap [] := va_S.rf
  have hP : va_P (dC, dI) pf_cls [(n, .inr (5, [.int 2, .int 0, .int 0, .ref n3, .ref n4, .ref n5, .ref n6, .ref n7, .ref n8, .ref n9]))] s.heap := hP
  have hl := lv_entry ([.ref n, .int p0]) (n := 2) (Nat.le_of_ble_eq_true rfl)
  rw [lg_entry_eq]
  generalize (lg_sl ([.ref n, .int p0]) ++ List.replicate (2 - (lg_sl ([.ref n, .int p0])).length) Slot.unset).toArray = ls at hl ⊢
  have hl : lv_has ls 2 [(0, .ref n), (1, .int p0)] := hl
  refine lv_iload_n hx hb dX5_hasNode_0 rfl (lv_at hl 1 rfl) ?_
  refine lv_if_lt (tgt := 16) hx hb dX5_hasNode_1 (by decide) (fun c0 => ?_) (fun c0 => ?_)
  · skip
    refine lv_iconst (v := 0) hx hb dX5_hasNode_16 (by decide) ?_
    have hP9 := hP.sub (ws' := [(n, .inr (5, [.int 2, .int 0, .int 0, .ref n3, .ref n4, .ref n5, .ref n6, .ref n7, .ref n8, .ref n9]))]) [0] rfl
    have hD9 := hD.sub (ws' := [(n, .inr (5, [.int 2, .int 0, .int 0, .ref n3, .ref n4, .ref n5, .ref n6, .ref n7, .ref n8, .ref n9]))]) [0] (by decide +kernel) rfl
    refine W.widen (k := 0) (n := 0) (Nat.le_of_ble_eq_true rfl) (Nat.le_of_ble_eq_true rfl) ?_
    exact W.zret (v := 0) hx hb hr rfl (fun t ht hW => ⟨⟨_, (), rfl, ((by simp [pf_hn, c0] : (0 : Int32) = pf_hn p0).trans (pf_hn_in p0)), (by rw [ht]; exact hP9), hD9⟩, hS.F ht⟩) hS.2.2 dX5_hasNode_17
  · skip
    refine lv_iload_n hx hb dX5_hasNode_4 rfl (lv_at hl 1 rfl) ?_
    refine lv_aload_n hx hb dX5_hasNode_5 rfl (lv_at hl 0 rfl) ?_
    refine va_get (D := (dC, dI)) (ci := 5) (v := .int 2) (C := RX5) (T := TX5) (N := 10) hx hb hts (fun w h => List.mem_cons_of_mem _ (ic_X5 w h)) hown hK hP 0 rfl rfl 0 (by decide) (hts _ (List.mem_cons_of_mem _ mw_29)) (fun _ h9 => h9) rfl dX5_hasNode_6 ?_
    refine lv_icmp_ge (tgt := 16) hx hb dX5_hasNode_9 (by decide) (fun c1 => ?_) (fun c1 => ?_)
    · skip
      refine lv_iconst (v := 0) hx hb dX5_hasNode_16 (by decide) ?_
      have hP9 := hP.sub (ws' := [(n, .inr (5, [.int 2, .int 0, .int 0, .ref n3, .ref n4, .ref n5, .ref n6, .ref n7, .ref n8, .ref n9]))]) [0] rfl
      have hD9 := hD.sub (ws' := [(n, .inr (5, [.int 2, .int 0, .int 0, .ref n3, .ref n4, .ref n5, .ref n6, .ref n7, .ref n8, .ref n9]))]) [0] (by decide +kernel) rfl
      refine W.widen (k := 0) (n := 0) (Nat.le_of_ble_eq_true rfl) (Nat.le_of_ble_eq_true rfl) ?_
      exact W.zret (v := 0) hx hb hr rfl (fun t ht hW => ⟨⟨_, (), rfl, ((by simp [pf_hn, c0, c1] : (0 : Int32) = pf_hn p0).trans (pf_hn_in p0)), (by rw [ht]; exact hP9), hD9⟩, hS.F ht⟩) hS.2.2 dX5_hasNode_17
    · skip
      refine lv_iconst (v := 1) hx hb dX5_hasNode_12 (by decide) ?_
      refine lv_goto (tgt := 17) hx hb dX5_hasNode_13 (by decide) ?_
      have hP9 := hP.sub (ws' := [(n, .inr (5, [.int 2, .int 0, .int 0, .ref n3, .ref n4, .ref n5, .ref n6, .ref n7, .ref n8, .ref n9]))]) [0] rfl
      have hD9 := hD.sub (ws' := [(n, .inr (5, [.int 2, .int 0, .int 0, .ref n3, .ref n4, .ref n5, .ref n6, .ref n7, .ref n8, .ref n9]))]) [0] (by decide +kernel) rfl
      refine W.widen (k := 0) (n := 0) (Nat.le_of_ble_eq_true rfl) (Nat.le_of_ble_eq_true rfl) ?_
      exact W.zret (v := 1) hx hb hr rfl (fun t ht hW => ⟨⟨_, (), rfl, ((by simp [pf_hn, c0, c1] : (1 : Int32) = pf_hn p0).trans (pf_hn_in p0)), (by rw [ht]; exact hP9), hD9⟩, hS.F ht⟩) hS.2.2 dX5_hasNode_17
set_option maxHeartbeats 40000000 in
set_option maxRecDepth 100000 in
theorem c_hasArc (l : Launch) (dC : Nat → ClassId) (dI : Nat → Nat → Nat) (cI cJ cZ cO : ClassId) (sz : Nat) (n : Nat) (p0 : Int32) (n3 : Nat) (n4 : Nat) (n5 : Nat) (n6 : Nat) (n7 : Nat) (n8 : Nat) (n9 : Nat)  : Met l yX5_hasArc (Cond.code yX5_hasArc cX5_hasArc 2 (some .boolean) :: pf_W) ({ frames := 0, cells := 0, slots := 0, locals := 0 }) (va_Pc [.ref n, .int p0] (fun U => U.heap.size = sz ∧ va_P (dC, dI) pf_cls [(n, .inr (5, [.int 2, .int 0, .int 0, .ref n3, .ref n4, .ref n5, .ref n6, .ref n7, .ref n8, .ref n9]))] U.heap ∧ va_K (dC, dI) pf_cls (pf_ty cI cJ cZ cO) U ∧ va_D (fun _ => True) [(n, .inr (5, [.int 2, .int 0, .int 0, .ref n3, .ref n4, .ref n5, .ref n6, .ref n7, .ref n8, .ref n9]))])) (va_Qi (fun (r : Int32) (_ : Unit) => r = 0) (fun (_ : Unit) (t : State) => va_P (dC, dI) pf_cls [(n, .inr (5, [.int 2, .int 0, .int 0, .ref n3, .ref n4, .ref n5, .ref n6, .ref n7, .ref n8, .ref n9]))] t.heap ∧ va_D (va_A [(n, .inr (5, [.int 2, .int 0, .int 0, .ref n3, .ref n4, .ref n5, .ref n6, .ref n7, .ref n8, .ref n9]))] sz) [(n, .inr (5, [.int 2, .int 0, .int 0, .ref n3, .ref n4, .ref n5, .ref n6, .ref n7, .ref n8, .ref n9]))]) (va_A [(n, .inr (5, [.int 2, .int 0, .int 0, .ref n3, .ref n4, .ref n5, .ref n6, .ref n7, .ref n8, .ref n9]))] sz)) 0 0 (va_A [(n, .inr (5, [.int 2, .int 0, .int 0, .ref n3, .ref n4, .ref n5, .ref n6, .ref n7, .ref n8, .ref n9]))] sz) := by
  refine Met.ofW (cc := cX5_hasArc) (maxL := 2) (ret := (some .boolean)) (by decide) rfl ?_
  intro p e s m args below meth c s₁ B hml hv
  obtain ⟨rfl, hsz, hP, hK, hD0⟩ := hv
  have hx := B.exec
  have hb := B.bytes
  have hr := B.returns
  have hts := atoms_spec (ws := Cond.code yX5_hasArc cX5_hasArc 2 (some .boolean) :: pf_W) B.pre
  have hown : s.vm.findClass RX5 = some m.cls := findClass_of_methodNamed B.named
  have hlocks := B.notSynchronized
  subst hsz
  have hD := hD0.self (sz := s.heap.size)
  generalize hAe : va_A [(n, .inr (5, [.int 2, .int 0, .int 0, .ref n3, .ref n4, .ref n5, .ref n6, .ref n7, .ref n8, .ref n9]))] s.heap.size = A at hD ⊢
  have hA : ∀ q : Nat, s.heap.size ≤ q → A q := fun q h => by rw [← hAe]; exact Or.inr h
  have hS : va_S A s.heap s.heap [] := va_S.rf
  have hP : va_P (dC, dI) pf_cls [(n, .inr (5, [.int 2, .int 0, .int 0, .ref n3, .ref n4, .ref n5, .ref n6, .ref n7, .ref n8, .ref n9]))] s.heap := hP
  have hl := lv_entry ([.ref n, .int p0]) (n := 2) (Nat.le_of_ble_eq_true rfl)
  rw [lg_entry_eq]
  generalize (lg_sl ([.ref n, .int p0]) ++ List.replicate (2 - (lg_sl ([.ref n, .int p0])).length) Slot.unset).toArray = ls at hl ⊢
  have hl : lv_has ls 2 [(0, .ref n), (1, .int p0)] := hl
  refine lv_iload_n hx hb dX5_hasArc_0 rfl (lv_at hl 1 rfl) ?_
  refine lv_if_lt (tgt := 16) hx hb dX5_hasArc_1 (by decide) (fun c0 => ?_) (fun c0 => ?_)
  · skip
    refine lv_iconst (v := 0) hx hb dX5_hasArc_16 (by decide) ?_
    have hP9 := hP.sub (ws' := [(n, .inr (5, [.int 2, .int 0, .int 0, .ref n3, .ref n4, .ref n5, .ref n6, .ref n7, .ref n8, .ref n9]))]) [0] rfl
    have hD9 := hD.sub (ws' := [(n, .inr (5, [.int 2, .int 0, .int 0, .ref n3, .ref n4, .ref n5, .ref n6, .ref n7, .ref n8, .ref n9]))]) [0] (by decide +kernel) rfl
    refine W.widen (k := 0) (n := 0) (Nat.le_of_ble_eq_true rfl) (Nat.le_of_ble_eq_true rfl) ?_
    exact W.zret (v := 0) hx hb hr rfl (fun t ht hW => ⟨⟨_, (), rfl, rfl, (by rw [ht]; exact hP9), hD9⟩, hS.F ht⟩) hS.2.2 dX5_hasArc_17
  · skip
    refine lv_iload_n hx hb dX5_hasArc_4 rfl (lv_at hl 1 rfl) ?_
    refine lv_aload_n hx hb dX5_hasArc_5 rfl (lv_at hl 0 rfl) ?_
    refine va_get (D := (dC, dI)) (ci := 5) (v := .int 0) (C := RX5) (T := TX5) (N := 10) hx hb hts (fun w h => List.mem_cons_of_mem _ (ic_X5 w h)) hown hK hP 0 rfl rfl 1 (by decide) (hts _ (List.mem_cons_of_mem _ mw_38)) (fun _ h9 => h9) rfl dX5_hasArc_6 ?_
    refine lv_icmp_ge (tgt := 16) hx hb dX5_hasArc_9 (by decide) (fun c1 => ?_) (fun c1 => (pf_dead0 c0 c1).elim)
    refine lv_iconst (v := 0) hx hb dX5_hasArc_16 (by decide) ?_
    have hP9 := hP.sub (ws' := [(n, .inr (5, [.int 2, .int 0, .int 0, .ref n3, .ref n4, .ref n5, .ref n6, .ref n7, .ref n8, .ref n9]))]) [0] rfl
    have hD9 := hD.sub (ws' := [(n, .inr (5, [.int 2, .int 0, .int 0, .ref n3, .ref n4, .ref n5, .ref n6, .ref n7, .ref n8, .ref n9]))]) [0] (by decide +kernel) rfl
    refine W.widen (k := 0) (n := 0) (Nat.le_of_ble_eq_true rfl) (Nat.le_of_ble_eq_true rfl) ?_
    exact W.zret (v := 0) hx hb hr rfl (fun t ht hW => ⟨⟨_, (), rfl, rfl, (by rw [ht]; exact hP9), hD9⟩, hS.F ht⟩) hS.2.2 dX5_hasArc_17
set_option maxHeartbeats 40000000 in
set_option maxRecDepth 100000 in
theorem c_scaledSupply0 (l : Launch) (dC : Nat → ClassId) (dI : Nat → Nat → Nat) (cI cJ cZ cO : ClassId) (sz : Nat) (n : Nat) (pp : Int64) (q : Int64) (n3 : Nat) (n4 : Nat) (n5 : Nat) (n6 : Nat) (n7 : Nat) (n8 : Nat) (n9 : Nat)  : Met l yX5_scaledSupply (Cond.code yX5_scaledSupply cX5_scaledSupply 6 (some .long) :: pf_W) ({ frames := 0, cells := 0, slots := 0, locals := 0 }) (va_Pc [.ref n, .int 0, .long pp, .long q] (fun U => U.heap.size = sz ∧ va_P (dC, dI) pf_cls [(n, .inr (5, [.int 2, .int 0, .int 0, .ref n3, .ref n4, .ref n5, .ref n6, .ref n7, .ref n8, .ref n9])), (n3, .inl (cI, 8, .inl (fun _ => 0)))] U.heap ∧ va_K (dC, dI) pf_cls (pf_ty cI cJ cZ cO) U ∧ va_D (fun _ => True) [(n, .inr (5, [.int 2, .int 0, .int 0, .ref n3, .ref n4, .ref n5, .ref n6, .ref n7, .ref n8, .ref n9])), (n3, .inl (cI, 8, .inl (fun _ => 0)))])) (va_Ql (fun (r : Int64) (_ : Unit) => r = 0) (fun (_ : Unit) (t : State) => va_P (dC, dI) pf_cls [(n, .inr (5, [.int 2, .int 0, .int 0, .ref n3, .ref n4, .ref n5, .ref n6, .ref n7, .ref n8, .ref n9])), (n3, .inl (cI, 8, .inl (fun _ => 0)))] t.heap ∧ va_D (va_A [(n, .inr (5, [.int 2, .int 0, .int 0, .ref n3, .ref n4, .ref n5, .ref n6, .ref n7, .ref n8, .ref n9])), (n3, .inl (cI, 8, .inl (fun _ => 0)))] sz) [(n, .inr (5, [.int 2, .int 0, .int 0, .ref n3, .ref n4, .ref n5, .ref n6, .ref n7, .ref n8, .ref n9])), (n3, .inl (cI, 8, .inl (fun _ => 0)))]) (va_A [(n, .inr (5, [.int 2, .int 0, .int 0, .ref n3, .ref n4, .ref n5, .ref n6, .ref n7, .ref n8, .ref n9])), (n3, .inl (cI, 8, .inl (fun _ => 0)))] sz)) 0 0 (va_A [(n, .inr (5, [.int 2, .int 0, .int 0, .ref n3, .ref n4, .ref n5, .ref n6, .ref n7, .ref n8, .ref n9])), (n3, .inl (cI, 8, .inl (fun _ => 0)))] sz) := by
  refine Met.ofW (cc := cX5_scaledSupply) (maxL := 6) (ret := (some .long)) (by decide) rfl ?_
  intro p e s m args below meth c s₁ B hml hv
  obtain ⟨rfl, hsz, hP, hK, hD0⟩ := hv
  have hx := B.exec
  have hb := B.bytes
  have hr := B.returns
  have hts := atoms_spec (ws := Cond.code yX5_scaledSupply cX5_scaledSupply 6 (some .long) :: pf_W) B.pre
  have hown : s.vm.findClass RX5 = some m.cls := findClass_of_methodNamed B.named
  have hlocks := B.notSynchronized
  subst hsz
  have hD := hD0.self (sz := s.heap.size)
  generalize hAe : va_A [(n, .inr (5, [.int 2, .int 0, .int 0, .ref n3, .ref n4, .ref n5, .ref n6, .ref n7, .ref n8, .ref n9])), (n3, .inl (cI, 8, .inl (fun _ => 0)))] s.heap.size = A at hD ⊢
  have hA : ∀ q : Nat, s.heap.size ≤ q → A q := fun q h => by rw [← hAe]; exact Or.inr h
  have hS : va_S A s.heap s.heap [] := va_S.rf
  have hP : va_P (dC, dI) pf_cls [(n, .inr (5, [.int 2, .int 0, .int 0, .ref n3, .ref n4, .ref n5, .ref n6, .ref n7, .ref n8, .ref n9])), (n3, .inl (cI, 8, .inl (fun _ => 0)))] s.heap := hP
  have hl := lv_entry ([.ref n, .int 0, .long pp, .long q]) (n := 6) (Nat.le_of_ble_eq_true rfl)
  rw [lg_entry_eq]
  generalize (lg_sl ([.ref n, .int 0, .long pp, .long q]) ++ List.replicate (6 - (lg_sl ([.ref n, .int 0, .long pp, .long q])).length) Slot.unset).toArray = ls at hl ⊢
  have hl : lv_has ls 6 [(0, .ref n), (1, .int 0), (2, .long pp), (4, .long q)] := hl
  refine lv_aload_n hx hb dX5_scaledSupply_0 rfl (lv_at hl 0 rfl) ?_
  refine va_get (D := (dC, dI)) (ci := 5) (v := .int 0) (C := RX5) (T := TX5) (N := 10) hx hb hts (fun w h => List.mem_cons_of_mem _ (ic_X5 w h)) hown hK hP 0 rfl rfl 2 (by decide) (hts _ (List.mem_cons_of_mem _ mw_30)) (fun _ h9 => h9) rfl dX5_scaledSupply_1 ?_
  refine lv_iconst (v := 1) hx hb dX5_scaledSupply_4 (by decide) ?_
  refine lv_icmp_ne (tgt := 31) hx hb dX5_scaledSupply_5 (by decide) (fun _ => ?_) (fun c0 => absurd c0 (by decide +kernel))
  refine lv_aload_n hx hb dX5_scaledSupply_31 rfl (lv_at hl 0 rfl) ?_
  refine va_get (D := (dC, dI)) (ci := 5) (v := .ref n3) (C := RX5) (T := TX5) (N := 10) hx hb hts (fun w h => List.mem_cons_of_mem _ (ic_X5 w h)) hown hK hP 0 rfl rfl 3 (by decide) (hts _ (List.mem_cons_of_mem _ mw_31)) (fun _ h9 => h9) rfl dX5_scaledSupply_32 ?_
  refine lv_iload_n hx hb dX5_scaledSupply_35 rfl (lv_at hl 1 rfl) ?_
  refine pf_iald (v := 0) hx hb hK hP 1 0 0 rfl rfl (by decide +kernel) (by decide +kernel) (by decide) rfl dX5_scaledSupply_36 ?_
  refine lv_i2l (v := 0) hx hb dX5_scaledSupply_37 (by decide +kernel) ?_
  have hP9 := hP.sub (ws' := [(n, .inr (5, [.int 2, .int 0, .int 0, .ref n3, .ref n4, .ref n5, .ref n6, .ref n7, .ref n8, .ref n9])), (n3, .inl (cI, 8, .inl (fun _ => 0)))]) [0, 1] rfl
  have hD9 := hD.sub (ws' := [(n, .inr (5, [.int 2, .int 0, .int 0, .ref n3, .ref n4, .ref n5, .ref n6, .ref n7, .ref n8, .ref n9])), (n3, .inl (cI, 8, .inl (fun _ => 0)))]) [0, 1] (by decide +kernel) rfl
  refine W.widen (k := 0) (n := 0) (Nat.le_of_ble_eq_true rfl) (Nat.le_of_ble_eq_true rfl) ?_
  exact W.lret (v := 0) hx hb hr (fun t ht hW => ⟨⟨_, (), rfl, rfl, (by rw [ht]; exact hP9), hD9⟩, hS.F ht⟩) hS.2.2 dX5_scaledSupply_38
set_option maxHeartbeats 40000000 in
set_option maxRecDepth 100000 in
theorem c_scaledSupply1 (l : Launch) (dC : Nat → ClassId) (dI : Nat → Nat → Nat) (cI cJ cZ cO : ClassId) (sz : Nat) (n : Nat) (pp : Int64) (q : Int64) (n3 : Nat) (n4 : Nat) (n5 : Nat) (n6 : Nat) (n7 : Nat) (n8 : Nat) (n9 : Nat)  : Met l yX5_scaledSupply (Cond.code yX5_scaledSupply cX5_scaledSupply 6 (some .long) :: pf_W) ({ frames := 0, cells := 0, slots := 0, locals := 0 }) (va_Pc [.ref n, .int 1, .long pp, .long q] (fun U => U.heap.size = sz ∧ va_P (dC, dI) pf_cls [(n, .inr (5, [.int 2, .int 0, .int 0, .ref n3, .ref n4, .ref n5, .ref n6, .ref n7, .ref n8, .ref n9])), (n3, .inl (cI, 8, .inl (fun _ => 0)))] U.heap ∧ va_K (dC, dI) pf_cls (pf_ty cI cJ cZ cO) U ∧ va_D (fun _ => True) [(n, .inr (5, [.int 2, .int 0, .int 0, .ref n3, .ref n4, .ref n5, .ref n6, .ref n7, .ref n8, .ref n9])), (n3, .inl (cI, 8, .inl (fun _ => 0)))])) (va_Ql (fun (r : Int64) (_ : Unit) => r = 0) (fun (_ : Unit) (t : State) => va_P (dC, dI) pf_cls [(n, .inr (5, [.int 2, .int 0, .int 0, .ref n3, .ref n4, .ref n5, .ref n6, .ref n7, .ref n8, .ref n9])), (n3, .inl (cI, 8, .inl (fun _ => 0)))] t.heap ∧ va_D (va_A [(n, .inr (5, [.int 2, .int 0, .int 0, .ref n3, .ref n4, .ref n5, .ref n6, .ref n7, .ref n8, .ref n9])), (n3, .inl (cI, 8, .inl (fun _ => 0)))] sz) [(n, .inr (5, [.int 2, .int 0, .int 0, .ref n3, .ref n4, .ref n5, .ref n6, .ref n7, .ref n8, .ref n9])), (n3, .inl (cI, 8, .inl (fun _ => 0)))]) (va_A [(n, .inr (5, [.int 2, .int 0, .int 0, .ref n3, .ref n4, .ref n5, .ref n6, .ref n7, .ref n8, .ref n9])), (n3, .inl (cI, 8, .inl (fun _ => 0)))] sz)) 0 0 (va_A [(n, .inr (5, [.int 2, .int 0, .int 0, .ref n3, .ref n4, .ref n5, .ref n6, .ref n7, .ref n8, .ref n9])), (n3, .inl (cI, 8, .inl (fun _ => 0)))] sz) := by
  refine Met.ofW (cc := cX5_scaledSupply) (maxL := 6) (ret := (some .long)) (by decide) rfl ?_
  intro p e s m args below meth c s₁ B hml hv
  obtain ⟨rfl, hsz, hP, hK, hD0⟩ := hv
  have hx := B.exec
  have hb := B.bytes
  have hr := B.returns
  have hts := atoms_spec (ws := Cond.code yX5_scaledSupply cX5_scaledSupply 6 (some .long) :: pf_W) B.pre
  have hown : s.vm.findClass RX5 = some m.cls := findClass_of_methodNamed B.named
  have hlocks := B.notSynchronized
  subst hsz
  have hD := hD0.self (sz := s.heap.size)
  generalize hAe : va_A [(n, .inr (5, [.int 2, .int 0, .int 0, .ref n3, .ref n4, .ref n5, .ref n6, .ref n7, .ref n8, .ref n9])), (n3, .inl (cI, 8, .inl (fun _ => 0)))] s.heap.size = A at hD ⊢
  have hA : ∀ q : Nat, s.heap.size ≤ q → A q := fun q h => by rw [← hAe]; exact Or.inr h
  have hS : va_S A s.heap s.heap [] := va_S.rf
  have hP : va_P (dC, dI) pf_cls [(n, .inr (5, [.int 2, .int 0, .int 0, .ref n3, .ref n4, .ref n5, .ref n6, .ref n7, .ref n8, .ref n9])), (n3, .inl (cI, 8, .inl (fun _ => 0)))] s.heap := hP
  have hl := lv_entry ([.ref n, .int 1, .long pp, .long q]) (n := 6) (Nat.le_of_ble_eq_true rfl)
  rw [lg_entry_eq]
  generalize (lg_sl ([.ref n, .int 1, .long pp, .long q]) ++ List.replicate (6 - (lg_sl ([.ref n, .int 1, .long pp, .long q])).length) Slot.unset).toArray = ls at hl ⊢
  have hl : lv_has ls 6 [(0, .ref n), (1, .int 1), (2, .long pp), (4, .long q)] := hl
  refine lv_aload_n hx hb dX5_scaledSupply_0 rfl (lv_at hl 0 rfl) ?_
  refine va_get (D := (dC, dI)) (ci := 5) (v := .int 0) (C := RX5) (T := TX5) (N := 10) hx hb hts (fun w h => List.mem_cons_of_mem _ (ic_X5 w h)) hown hK hP 0 rfl rfl 2 (by decide) (hts _ (List.mem_cons_of_mem _ mw_30)) (fun _ h9 => h9) rfl dX5_scaledSupply_1 ?_
  refine lv_iconst (v := 1) hx hb dX5_scaledSupply_4 (by decide) ?_
  refine lv_icmp_ne (tgt := 31) hx hb dX5_scaledSupply_5 (by decide) (fun _ => ?_) (fun c0 => absurd c0 (by decide +kernel))
  refine lv_aload_n hx hb dX5_scaledSupply_31 rfl (lv_at hl 0 rfl) ?_
  refine va_get (D := (dC, dI)) (ci := 5) (v := .ref n3) (C := RX5) (T := TX5) (N := 10) hx hb hts (fun w h => List.mem_cons_of_mem _ (ic_X5 w h)) hown hK hP 0 rfl rfl 3 (by decide) (hts _ (List.mem_cons_of_mem _ mw_31)) (fun _ h9 => h9) rfl dX5_scaledSupply_32 ?_
  refine lv_iload_n hx hb dX5_scaledSupply_35 rfl (lv_at hl 1 rfl) ?_
  refine pf_iald (v := 0) hx hb hK hP 1 0 1 rfl rfl (by decide +kernel) (by decide +kernel) (by decide) rfl dX5_scaledSupply_36 ?_
  refine lv_i2l (v := 0) hx hb dX5_scaledSupply_37 (by decide +kernel) ?_
  have hP9 := hP.sub (ws' := [(n, .inr (5, [.int 2, .int 0, .int 0, .ref n3, .ref n4, .ref n5, .ref n6, .ref n7, .ref n8, .ref n9])), (n3, .inl (cI, 8, .inl (fun _ => 0)))]) [0, 1] rfl
  have hD9 := hD.sub (ws' := [(n, .inr (5, [.int 2, .int 0, .int 0, .ref n3, .ref n4, .ref n5, .ref n6, .ref n7, .ref n8, .ref n9])), (n3, .inl (cI, 8, .inl (fun _ => 0)))]) [0, 1] (by decide +kernel) rfl
  refine W.widen (k := 0) (n := 0) (Nat.le_of_ble_eq_true rfl) (Nat.le_of_ble_eq_true rfl) ?_
  exact W.lret (v := 0) hx hb hr (fun t ht hW => ⟨⟨_, (), rfl, rfl, (by rw [ht]; exact hP9), hD9⟩, hS.F ht⟩) hS.2.2 dX5_scaledSupply_38
set_option maxHeartbeats 40000000 in
set_option maxRecDepth 100000 in
theorem c_net_isBalanced (l : Launch) (dC : Nat → ClassId) (dI : Nat → Nat → Nat) (cI cJ cZ cO : ClassId) (sz : Nat) (n : Nat) (pp : Int64) (q : Int64) (n3 : Nat) (n4 : Nat) (n5 : Nat) (n6 : Nat) (n7 : Nat) (n8 : Nat) (n9 : Nat)  : Met l yX5_isBalanced (Cond.code yX5_isBalanced cX5_isBalanced 8 (some .boolean) :: pf_W) ({ frames := 1, cells := 0, slots := 0, locals := 25 }) (va_Pc [.ref n, .long pp, .long q] (fun U => U.heap.size = sz ∧ va_P (dC, dI) pf_cls [(n, .inr (5, [.int 2, .int 0, .int 0, .ref n3, .ref n4, .ref n5, .ref n6, .ref n7, .ref n8, .ref n9])), (n3, .inl (cI, 8, .inl (fun _ => 0)))] U.heap ∧ va_K (dC, dI) pf_cls (pf_ty cI cJ cZ cO) U ∧ va_D (fun _ => True) [(n, .inr (5, [.int 2, .int 0, .int 0, .ref n3, .ref n4, .ref n5, .ref n6, .ref n7, .ref n8, .ref n9])), (n3, .inl (cI, 8, .inl (fun _ => 0)))])) (va_Qi (fun (r : Int32) (_ : Unit) => r = 1) (fun (_ : Unit) (t : State) => va_P (dC, dI) pf_cls [(n, .inr (5, [.int 2, .int 0, .int 0, .ref n3, .ref n4, .ref n5, .ref n6, .ref n7, .ref n8, .ref n9])), (n3, .inl (cI, 8, .inl (fun _ => 0)))] t.heap ∧ va_D (va_A [(n, .inr (5, [.int 2, .int 0, .int 0, .ref n3, .ref n4, .ref n5, .ref n6, .ref n7, .ref n8, .ref n9])), (n3, .inl (cI, 8, .inl (fun _ => 0)))] sz) [(n, .inr (5, [.int 2, .int 0, .int 0, .ref n3, .ref n4, .ref n5, .ref n6, .ref n7, .ref n8, .ref n9])), (n3, .inl (cI, 8, .inl (fun _ => 0)))]) (va_A [(n, .inr (5, [.int 2, .int 0, .int 0, .ref n3, .ref n4, .ref n5, .ref n6, .ref n7, .ref n8, .ref n9])), (n3, .inl (cI, 8, .inl (fun _ => 0)))] sz)) 0 0 (va_A [(n, .inr (5, [.int 2, .int 0, .int 0, .ref n3, .ref n4, .ref n5, .ref n6, .ref n7, .ref n8, .ref n9])), (n3, .inl (cI, 8, .inl (fun _ => 0)))] sz) := by
  refine Met.ofW (cc := cX5_isBalanced) (maxL := 8) (ret := (some .boolean)) (by decide) rfl ?_
  intro p e s m args below meth c s₁ B hml hv
  obtain ⟨rfl, hsz, hP, hK, hD0⟩ := hv
  have hx := B.exec
  have hb := B.bytes
  have hr := B.returns
  have hts := atoms_spec (ws := Cond.code yX5_isBalanced cX5_isBalanced 8 (some .boolean) :: pf_W) B.pre
  have hown : s.vm.findClass RX5 = some m.cls := findClass_of_methodNamed B.named
  have hlocks := B.notSynchronized
  subst hsz
  have hD := hD0.self (sz := s.heap.size)
  generalize hAe : va_A [(n, .inr (5, [.int 2, .int 0, .int 0, .ref n3, .ref n4, .ref n5, .ref n6, .ref n7, .ref n8, .ref n9])), (n3, .inl (cI, 8, .inl (fun _ => 0)))] s.heap.size = A at hD ⊢
  have hA : ∀ q : Nat, s.heap.size ≤ q → A q := fun q h => by rw [← hAe]; exact Or.inr h
  have hS : va_S A s.heap s.heap [] := va_S.rf
  have hP : va_P (dC, dI) pf_cls [(n, .inr (5, [.int 2, .int 0, .int 0, .ref n3, .ref n4, .ref n5, .ref n6, .ref n7, .ref n8, .ref n9])), (n3, .inl (cI, 8, .inl (fun _ => 0)))] s.heap := hP
  have hl := lv_entry ([.ref n, .long pp, .long q]) (n := 8) (Nat.le_of_ble_eq_true rfl)
  rw [lg_entry_eq]
  generalize (lg_sl ([.ref n, .long pp, .long q]) ++ List.replicate (8 - (lg_sl ([.ref n, .long pp, .long q])).length) Slot.unset).toArray = ls at hl ⊢
  have hl : lv_has ls 8 [(0, .ref n), (1, .long pp), (3, .long q)] := hl
  refine lv_lconst (v := 0) hx hb dX5_isBalanced_0 (by decide +kernel) ?_
  refine lv_lstore (lv' := [(5, .long 0), (0, .ref n), (1, .long pp), (3, .long q)]) hx hb dX5_isBalanced_1 hl (by decide) rfl (fun ls hl => ?_)
  refine lv_iconst (v := 0) hx hb dX5_isBalanced_3 (by decide) ?_
  refine lv_istore (lv' := [(7, .int 0), (5, .long 0), (0, .ref n), (1, .long pp), (3, .long q)]) hx hb dX5_isBalanced_4 hl (by decide) rfl (fun ls hl => ?_)
  refine lv_iload hx hb dX5_isBalanced_6 (lv_at hl 0 rfl) ?_
  refine lv_aload_n hx hb dX5_isBalanced_8 rfl (lv_at hl 2 rfl) ?_
  refine va_get (D := (dC, dI)) (ci := 5) (v := .int 2) (C := RX5) (T := TX5) (N := 10) hx hb hts (fun w h => List.mem_cons_of_mem _ (ic_X5 w h)) hown hK hP 0 rfl rfl 0 (by decide) (hts _ (List.mem_cons_of_mem _ mw_29)) (fun _ h9 => h9) rfl dX5_isBalanced_9 ?_
  refine lv_icmp_ge (tgt := 34) hx hb dX5_isBalanced_12 (by decide) (fun c0 => absurd c0 (by decide +kernel)) (fun _ => ?_)
  refine lv_lload hx hb dX5_isBalanced_15 (lv_at hl 1 rfl) ?_
  refine lv_aload_n hx hb dX5_isBalanced_17 rfl (lv_at hl 2 rfl) ?_
  refine lv_iload hx hb dX5_isBalanced_18 (lv_at hl 0 rfl) ?_
  refine lv_lload_n hx hb dX5_isBalanced_20 rfl (lv_at hl 3 rfl) ?_
  refine lv_lload_n hx hb dX5_isBalanced_21 rfl (lv_at hl 4 rfl) ?_
  have hPc := hP.sub (ws' := [(n, .inr (5, [.int 2, .int 0, .int 0, .ref n3, .ref n4, .ref n5, .ref n6, .ref n7, .ref n8, .ref n9])), (n3, .inl (cI, 8, .inl (fun _ => 0)))]) [0, 1] rfl
  have hDc := hD.sub (ws' := [(n, .inr (5, [.int 2, .int 0, .int 0, .ref n3, .ref n4, .ref n5, .ref n6, .ref n7, .ref n8, .ref n9])), (n3, .inl (cI, 8, .inl (fun _ => 0)))]) [0, 1] (by decide +kernel) rfl
  have hFc := va_free (wc := [(n, .inr (5, [.int 2, .int 0, .int 0, .ref n3, .ref n4, .ref n5, .ref n6, .ref n7, .ref n8, .ref n9])), (n3, .inl (cI, 8, .inl (fun _ => 0)))]) hD hS hA [0, 1] rfl
  refine va_calll (va_runV (As := [.int 0, .long pp, .long q]) (rest := [.long 0]) ⟨hx, hb, hml, hown, hts⟩ (c_scaledSupply0 l dC dI cI cJ cZ cO s.heap.size n pp q n3 n4 n5 n6 n7 n8 n9) (cwV 3 hts (pf_gV mw_43 mw_44 mw_45 mw_46 mw_47) rfl rfl rfl (by decide +kernel) ⟨Nat.le_of_ble_eq_true rfl, Nat.le_of_ble_eq_true rfl⟩) ⟨fun a U g mk q => by obtain ⟨q0, q1, qP, qK, qD⟩ := q; exact ⟨q0, q1, qP, va_K.moved (u := U) (U := U.calling g mk a) (Vm.Alike.refl U.vm) qK, qD⟩, va_recv hK hPc (ci := 5) (q0 := 0) rfl rfl, fun U hU hW => ⟨rfl, by rw [hU], by rw [hU]; exact hPc, va_K.moved hW.alike hK, hDc.weaken (fun _ _ _ _ => trivial)⟩⟩ rfl rfl hl.1 rfl (lv_room (Nat.le_of_ble_eq_true rfl)) dX5_isBalanced_22 ⟨Nat.le_of_ble_eq_true rfl, Nat.le_of_ble_eq_true rfl⟩) hS (fun q _ h => hFc q h) hFc (fun r1 u t H1 locs ht hvm hw hB hz1 hk1 hS => ?_)
  have hw : 0 = r1 := (show r1 = 0 from hw).symm
  subst hw
  obtain ⟨hP1, hD1⟩ := hB
  rw [ht] at hP1
  obtain ⟨hP, hD⟩ := va_join (wr := []) (w1 := [(n, .inr (5, [.int 2, .int 0, .int 0, .ref n3, .ref n4, .ref n5, .ref n6, .ref n7, .ref n8, .ref n9])), (n3, .inl (cI, 8, .inl (fun _ => 0)))]) hP hD [0, 1] [] rfl rfl (by decide +kernel) (by decide +kernel) hk1 hFc hP1 hD1
  clear hPc hDc hFc hk1 hz1
  generalize H1 = H at hP hS ⊢
  have hP : va_P (dC, dI) pf_cls [(n, .inr (5, [.int 2, .int 0, .int 0, .ref n3, .ref n4, .ref n5, .ref n6, .ref n7, .ref n8, .ref n9])), (n3, .inl (cI, 8, .inl (fun _ => 0)))] H := hP
  have hD : va_D A [(n, .inr (5, [.int 2, .int 0, .int 0, .ref n3, .ref n4, .ref n5, .ref n6, .ref n7, .ref n8, .ref n9])), (n3, .inl (cI, 8, .inl (fun _ => 0)))] := hD
  refine lv_ladd hx hb dX5_isBalanced_25 ?_
  refine pf_topl (v := 0) (by decide +kernel) ?_
  refine lv_lstore (lv' := [(5, .long 0), (7, .int 0), (0, .ref n), (1, .long pp), (3, .long q)]) hx hb dX5_isBalanced_26 hl (by decide) rfl (fun ls hl => ?_)
  refine lv_iinc (v := 1) (lv' := [(7, .int 1), (5, .long 0), (0, .ref n), (1, .long pp), (3, .long q)]) hx hb dX5_isBalanced_28 hl (k := 1) rfl (by decide +kernel) (by decide) rfl (fun ls hl => ?_)
  refine lv_goto (tgt := 6) hx hb dX5_isBalanced_31 (by decide) ?_
  refine lv_iload hx hb dX5_isBalanced_6 (lv_at hl 0 rfl) ?_
  refine lv_aload_n hx hb dX5_isBalanced_8 rfl (lv_at hl 2 rfl) ?_
  refine va_get (D := (dC, dI)) (ci := 5) (v := .int 2) (C := RX5) (T := TX5) (N := 10) hx hb hts (fun w h => List.mem_cons_of_mem _ (ic_X5 w h)) hown hK hP 0 rfl rfl 0 (by decide) (hts _ (List.mem_cons_of_mem _ mw_29)) (fun _ h9 => h9) rfl dX5_isBalanced_9 ?_
  refine lv_icmp_ge (tgt := 34) hx hb dX5_isBalanced_12 (by decide) (fun c2 => absurd c2 (by decide +kernel)) (fun _ => ?_)
  refine lv_lload hx hb dX5_isBalanced_15 (lv_at hl 1 rfl) ?_
  refine lv_aload_n hx hb dX5_isBalanced_17 rfl (lv_at hl 2 rfl) ?_
  refine lv_iload hx hb dX5_isBalanced_18 (lv_at hl 0 rfl) ?_
  refine lv_lload_n hx hb dX5_isBalanced_20 rfl (lv_at hl 3 rfl) ?_
  refine lv_lload_n hx hb dX5_isBalanced_21 rfl (lv_at hl 4 rfl) ?_
  have hPc := hP.sub (ws' := [(n, .inr (5, [.int 2, .int 0, .int 0, .ref n3, .ref n4, .ref n5, .ref n6, .ref n7, .ref n8, .ref n9])), (n3, .inl (cI, 8, .inl (fun _ => 0)))]) [0, 1] rfl
  have hDc := hD.sub (ws' := [(n, .inr (5, [.int 2, .int 0, .int 0, .ref n3, .ref n4, .ref n5, .ref n6, .ref n7, .ref n8, .ref n9])), (n3, .inl (cI, 8, .inl (fun _ => 0)))]) [0, 1] (by decide +kernel) rfl
  have hFc := va_free (wc := [(n, .inr (5, [.int 2, .int 0, .int 0, .ref n3, .ref n4, .ref n5, .ref n6, .ref n7, .ref n8, .ref n9])), (n3, .inl (cI, 8, .inl (fun _ => 0)))]) hD hS hA [0, 1] rfl
  refine va_calll (va_runV (As := [.int 1, .long pp, .long q]) (rest := [.long 0]) ⟨hx, hb, hml, hown, hts⟩ (c_scaledSupply1 l dC dI cI cJ cZ cO H.size n pp q n3 n4 n5 n6 n7 n8 n9) (cwV 3 hts (pf_gV mw_43 mw_44 mw_45 mw_46 mw_47) rfl rfl rfl (by decide +kernel) ⟨Nat.le_of_ble_eq_true rfl, Nat.le_of_ble_eq_true rfl⟩) ⟨fun a U g mk q => by obtain ⟨q0, q1, qP, qK, qD⟩ := q; exact ⟨q0, q1, qP, va_K.moved (u := U) (U := U.calling g mk a) (Vm.Alike.refl U.vm) qK, qD⟩, va_recv hK hPc (ci := 5) (q0 := 0) rfl rfl, fun U hU hW => ⟨rfl, by rw [hU], by rw [hU]; exact hPc, va_K.moved hW.alike hK, hDc.weaken (fun _ _ _ _ => trivial)⟩⟩ rfl rfl hl.1 rfl (lv_room (Nat.le_of_ble_eq_true rfl)) dX5_isBalanced_22 ⟨Nat.le_of_ble_eq_true rfl, Nat.le_of_ble_eq_true rfl⟩) hS (fun q _ h => hFc q h) hFc (fun r3 u t H1 locs ht hvm hw hB hz1 hk1 hS => ?_)
  have hw : 0 = r3 := (show r3 = 0 from hw).symm
  subst hw
  obtain ⟨hP1, hD1⟩ := hB
  rw [ht] at hP1
  obtain ⟨hP, hD⟩ := va_join (wr := []) (w1 := [(n, .inr (5, [.int 2, .int 0, .int 0, .ref n3, .ref n4, .ref n5, .ref n6, .ref n7, .ref n8, .ref n9])), (n3, .inl (cI, 8, .inl (fun _ => 0)))]) hP hD [0, 1] [] rfl rfl (by decide +kernel) (by decide +kernel) hk1 hFc hP1 hD1
  clear hPc hDc hFc hk1 hz1
  generalize H1 = H at hP hS ⊢
  have hP : va_P (dC, dI) pf_cls [(n, .inr (5, [.int 2, .int 0, .int 0, .ref n3, .ref n4, .ref n5, .ref n6, .ref n7, .ref n8, .ref n9])), (n3, .inl (cI, 8, .inl (fun _ => 0)))] H := hP
  have hD : va_D A [(n, .inr (5, [.int 2, .int 0, .int 0, .ref n3, .ref n4, .ref n5, .ref n6, .ref n7, .ref n8, .ref n9])), (n3, .inl (cI, 8, .inl (fun _ => 0)))] := hD
  refine lv_ladd hx hb dX5_isBalanced_25 ?_
  refine pf_topl (v := 0) (by decide +kernel) ?_
  refine lv_lstore (lv' := [(5, .long 0), (7, .int 1), (0, .ref n), (1, .long pp), (3, .long q)]) hx hb dX5_isBalanced_26 hl (by decide) rfl (fun ls hl => ?_)
  refine lv_iinc (v := 2) (lv' := [(7, .int 2), (5, .long 0), (0, .ref n), (1, .long pp), (3, .long q)]) hx hb dX5_isBalanced_28 hl (k := 1) rfl (by decide +kernel) (by decide) rfl (fun ls hl => ?_)
  refine lv_goto (tgt := 6) hx hb dX5_isBalanced_31 (by decide) ?_
  refine lv_iload hx hb dX5_isBalanced_6 (lv_at hl 0 rfl) ?_
  refine lv_aload_n hx hb dX5_isBalanced_8 rfl (lv_at hl 2 rfl) ?_
  refine va_get (D := (dC, dI)) (ci := 5) (v := .int 2) (C := RX5) (T := TX5) (N := 10) hx hb hts (fun w h => List.mem_cons_of_mem _ (ic_X5 w h)) hown hK hP 0 rfl rfl 0 (by decide) (hts _ (List.mem_cons_of_mem _ mw_29)) (fun _ h9 => h9) rfl dX5_isBalanced_9 ?_
  refine lv_icmp_ge (tgt := 34) hx hb dX5_isBalanced_12 (by decide) (fun _ => ?_) (fun c4 => absurd (by decide +kernel) c4)
  refine lv_lload hx hb dX5_isBalanced_34 (lv_at hl 1 rfl) ?_
  refine lv_lconst (v := 0) hx hb dX5_isBalanced_36 (by decide +kernel) ?_
  refine W.lcmp hx hb dX5_isBalanced_37 ?_
  refine pf_topi (v := 0) (by decide +kernel) ?_
  refine lv_if_ne (tgt := 45) hx hb dX5_isBalanced_38 (by decide) (fun c5 => absurd (by decide +kernel) c5) (fun _ => ?_)
  refine lv_iconst (v := 1) hx hb dX5_isBalanced_41 (by decide) ?_
  refine lv_goto (tgt := 46) hx hb dX5_isBalanced_42 (by decide) ?_
  have hP9 := hP.sub (ws' := [(n, .inr (5, [.int 2, .int 0, .int 0, .ref n3, .ref n4, .ref n5, .ref n6, .ref n7, .ref n8, .ref n9])), (n3, .inl (cI, 8, .inl (fun _ => 0)))]) [0, 1] rfl
  have hD9 := hD.sub (ws' := [(n, .inr (5, [.int 2, .int 0, .int 0, .ref n3, .ref n4, .ref n5, .ref n6, .ref n7, .ref n8, .ref n9])), (n3, .inl (cI, 8, .inl (fun _ => 0)))]) [0, 1] (by decide +kernel) rfl
  refine W.widen (k := 0) (n := 0) (Nat.le_of_ble_eq_true rfl) (Nat.le_of_ble_eq_true rfl) ?_
  exact W.zret (v := 1) hx hb hr rfl (fun t ht hW => ⟨⟨_, (), rfl, rfl, (by rw [ht]; exact hP9), hD9⟩, hS.F ht⟩) hS.2.2 dX5_isBalanced_46
set_option maxHeartbeats 40000000 in
set_option maxRecDepth 100000 in
theorem c_net_sumOf3 (l : Launch) (dC : Nat → ClassId) (dI : Nat → Nat → Nat) (cI cJ cZ cO : ClassId) (sz : Nat) (n : Nat) (n3 : Nat) (n4 : Nat) (n5 : Nat) (n6 : Nat) (n7 : Nat) (n8 : Nat) (n9 : Nat)  : Met l yX5_sumOf (Cond.code yX5_sumOf cX5_sumOf 4 (some .int) :: pf_W) ({ frames := 0, cells := 0, slots := 0, locals := 0 }) (va_Pc [.ref n, .ref n3] (fun U => U.heap.size = sz ∧ va_P (dC, dI) pf_cls [(n, .inr (5, [.int 2, .int 0, .int 0, .ref n3, .ref n4, .ref n5, .ref n6, .ref n7, .ref n8, .ref n9])), (n3, .inl (cI, 8, .inl (fun _ => 0)))] U.heap ∧ va_K (dC, dI) pf_cls (pf_ty cI cJ cZ cO) U ∧ va_D (fun _ => True) [(n, .inr (5, [.int 2, .int 0, .int 0, .ref n3, .ref n4, .ref n5, .ref n6, .ref n7, .ref n8, .ref n9])), (n3, .inl (cI, 8, .inl (fun _ => 0)))])) (va_Qi (fun (r : Int32) (_ : Unit) => r = 0) (fun (_ : Unit) (t : State) => va_P (dC, dI) pf_cls [(n, .inr (5, [.int 2, .int 0, .int 0, .ref n3, .ref n4, .ref n5, .ref n6, .ref n7, .ref n8, .ref n9])), (n3, .inl (cI, 8, .inl (fun _ => 0)))] t.heap ∧ va_D (va_A [(n, .inr (5, [.int 2, .int 0, .int 0, .ref n3, .ref n4, .ref n5, .ref n6, .ref n7, .ref n8, .ref n9])), (n3, .inl (cI, 8, .inl (fun _ => 0)))] sz) [(n, .inr (5, [.int 2, .int 0, .int 0, .ref n3, .ref n4, .ref n5, .ref n6, .ref n7, .ref n8, .ref n9])), (n3, .inl (cI, 8, .inl (fun _ => 0)))]) (va_A [(n, .inr (5, [.int 2, .int 0, .int 0, .ref n3, .ref n4, .ref n5, .ref n6, .ref n7, .ref n8, .ref n9])), (n3, .inl (cI, 8, .inl (fun _ => 0)))] sz)) 0 0 (va_A [(n, .inr (5, [.int 2, .int 0, .int 0, .ref n3, .ref n4, .ref n5, .ref n6, .ref n7, .ref n8, .ref n9])), (n3, .inl (cI, 8, .inl (fun _ => 0)))] sz) := by
  refine Met.ofW (cc := cX5_sumOf) (maxL := 4) (ret := (some .int)) (by decide) rfl ?_
  intro p e s m args below meth c s₁ B hml hv
  obtain ⟨rfl, hsz, hP, hK, hD0⟩ := hv
  have hx := B.exec
  have hb := B.bytes
  have hr := B.returns
  have hts := atoms_spec (ws := Cond.code yX5_sumOf cX5_sumOf 4 (some .int) :: pf_W) B.pre
  have hown : s.vm.findClass RX5 = some m.cls := findClass_of_methodNamed B.named
  have hlocks := B.notSynchronized
  subst hsz
  have hD := hD0.self (sz := s.heap.size)
  generalize hAe : va_A [(n, .inr (5, [.int 2, .int 0, .int 0, .ref n3, .ref n4, .ref n5, .ref n6, .ref n7, .ref n8, .ref n9])), (n3, .inl (cI, 8, .inl (fun _ => 0)))] s.heap.size = A at hD ⊢
  have hA : ∀ q : Nat, s.heap.size ≤ q → A q := fun q h => by rw [← hAe]; exact Or.inr h
  have hS : va_S A s.heap s.heap [] := va_S.rf
  have hP : va_P (dC, dI) pf_cls [(n, .inr (5, [.int 2, .int 0, .int 0, .ref n3, .ref n4, .ref n5, .ref n6, .ref n7, .ref n8, .ref n9])), (n3, .inl (cI, 8, .inl (fun _ => 0)))] s.heap := hP
  have hl := lv_entry ([.ref n, .ref n3]) (n := 4) (Nat.le_of_ble_eq_true rfl)
  rw [lg_entry_eq]
  generalize (lg_sl ([.ref n, .ref n3]) ++ List.replicate (4 - (lg_sl ([.ref n, .ref n3])).length) Slot.unset).toArray = ls at hl ⊢
  have hl : lv_has ls 4 [(0, .ref n), (1, .ref n3)] := hl
  refine lv_iconst (v := 0) hx hb dX5_sumOf_0 (by decide) ?_
  refine lv_istore_n (lv' := [(2, .int 0), (0, .ref n), (1, .ref n3)]) hx hb dX5_sumOf_1 rfl hl (by decide) rfl (fun ls hl => ?_)
  refine lv_iconst (v := 0) hx hb dX5_sumOf_2 (by decide) ?_
  refine lv_istore_n (lv' := [(3, .int 0), (2, .int 0), (0, .ref n), (1, .ref n3)]) hx hb dX5_sumOf_3 rfl hl (by decide) rfl (fun ls hl => ?_)
  refine lv_iload_n hx hb dX5_sumOf_4 rfl (lv_at hl 0 rfl) ?_
  refine lv_aload_n hx hb dX5_sumOf_5 rfl (lv_at hl 2 rfl) ?_
  refine va_get (D := (dC, dI)) (ci := 5) (v := .int 2) (C := RX5) (T := TX5) (N := 10) hx hb hts (fun w h => List.mem_cons_of_mem _ (ic_X5 w h)) hown hK hP 0 rfl rfl 0 (by decide) (hts _ (List.mem_cons_of_mem _ mw_29)) (fun _ h9 => h9) rfl dX5_sumOf_6 ?_
  refine lv_icmp_ge (tgt := 24) hx hb dX5_sumOf_9 (by decide) (fun c0 => absurd c0 (by decide +kernel)) (fun _ => ?_)
  refine lv_iload_n hx hb dX5_sumOf_12 rfl (lv_at hl 1 rfl) ?_
  refine lv_aload_n hx hb dX5_sumOf_13 rfl (lv_at hl 3 rfl) ?_
  refine lv_iload_n hx hb dX5_sumOf_14 rfl (lv_at hl 0 rfl) ?_
  refine pf_iald (v := 0) hx hb hK hP 1 0 0 rfl rfl (by decide +kernel) (by decide +kernel) (by decide) rfl dX5_sumOf_15 ?_
  refine lv_iadd hx hb dX5_sumOf_16 ?_
  refine pf_topi (v := 0) (by decide +kernel) ?_
  refine lv_istore_n (lv' := [(2, .int 0), (3, .int 0), (0, .ref n), (1, .ref n3)]) hx hb dX5_sumOf_17 rfl hl (by decide) rfl (fun ls hl => ?_)
  refine lv_iinc (v := 1) (lv' := [(3, .int 1), (2, .int 0), (0, .ref n), (1, .ref n3)]) hx hb dX5_sumOf_18 hl (k := 1) rfl (by decide +kernel) (by decide) rfl (fun ls hl => ?_)
  refine lv_goto (tgt := 4) hx hb dX5_sumOf_21 (by decide) ?_
  refine lv_iload_n hx hb dX5_sumOf_4 rfl (lv_at hl 0 rfl) ?_
  refine lv_aload_n hx hb dX5_sumOf_5 rfl (lv_at hl 2 rfl) ?_
  refine va_get (D := (dC, dI)) (ci := 5) (v := .int 2) (C := RX5) (T := TX5) (N := 10) hx hb hts (fun w h => List.mem_cons_of_mem _ (ic_X5 w h)) hown hK hP 0 rfl rfl 0 (by decide) (hts _ (List.mem_cons_of_mem _ mw_29)) (fun _ h9 => h9) rfl dX5_sumOf_6 ?_
  refine lv_icmp_ge (tgt := 24) hx hb dX5_sumOf_9 (by decide) (fun c1 => absurd c1 (by decide +kernel)) (fun _ => ?_)
  refine lv_iload_n hx hb dX5_sumOf_12 rfl (lv_at hl 1 rfl) ?_
  refine lv_aload_n hx hb dX5_sumOf_13 rfl (lv_at hl 3 rfl) ?_
  refine lv_iload_n hx hb dX5_sumOf_14 rfl (lv_at hl 0 rfl) ?_
  refine pf_iald (v := 0) hx hb hK hP 1 0 1 rfl rfl (by decide +kernel) (by decide +kernel) (by decide) rfl dX5_sumOf_15 ?_
  refine lv_iadd hx hb dX5_sumOf_16 ?_
  refine pf_topi (v := 0) (by decide +kernel) ?_
  refine lv_istore_n (lv' := [(2, .int 0), (3, .int 1), (0, .ref n), (1, .ref n3)]) hx hb dX5_sumOf_17 rfl hl (by decide) rfl (fun ls hl => ?_)
  refine lv_iinc (v := 2) (lv' := [(3, .int 2), (2, .int 0), (0, .ref n), (1, .ref n3)]) hx hb dX5_sumOf_18 hl (k := 1) rfl (by decide +kernel) (by decide) rfl (fun ls hl => ?_)
  refine lv_goto (tgt := 4) hx hb dX5_sumOf_21 (by decide) ?_
  refine lv_iload_n hx hb dX5_sumOf_4 rfl (lv_at hl 0 rfl) ?_
  refine lv_aload_n hx hb dX5_sumOf_5 rfl (lv_at hl 2 rfl) ?_
  refine va_get (D := (dC, dI)) (ci := 5) (v := .int 2) (C := RX5) (T := TX5) (N := 10) hx hb hts (fun w h => List.mem_cons_of_mem _ (ic_X5 w h)) hown hK hP 0 rfl rfl 0 (by decide) (hts _ (List.mem_cons_of_mem _ mw_29)) (fun _ h9 => h9) rfl dX5_sumOf_6 ?_
  refine lv_icmp_ge (tgt := 24) hx hb dX5_sumOf_9 (by decide) (fun _ => ?_) (fun c2 => absurd (by decide +kernel) c2)
  refine lv_iload_n hx hb dX5_sumOf_24 rfl (lv_at hl 1 rfl) ?_
  have hP9 := hP.sub (ws' := [(n, .inr (5, [.int 2, .int 0, .int 0, .ref n3, .ref n4, .ref n5, .ref n6, .ref n7, .ref n8, .ref n9])), (n3, .inl (cI, 8, .inl (fun _ => 0)))]) [0, 1] rfl
  have hD9 := hD.sub (ws' := [(n, .inr (5, [.int 2, .int 0, .int 0, .ref n3, .ref n4, .ref n5, .ref n6, .ref n7, .ref n8, .ref n9])), (n3, .inl (cI, 8, .inl (fun _ => 0)))]) [0, 1] (by decide +kernel) rfl
  refine W.widen (k := 0) (n := 0) (Nat.le_of_ble_eq_true rfl) (Nat.le_of_ble_eq_true rfl) ?_
  exact W.iret (v := 0) hx hb hr (fun t ht hW => ⟨⟨_, (), rfl, rfl, (by rw [ht]; exact hP9), hD9⟩, hS.F ht⟩) hS.2.2 dX5_sumOf_25
set_option maxHeartbeats 40000000 in
set_option maxRecDepth 100000 in
theorem c_net_sumOf4 (l : Launch) (dC : Nat → ClassId) (dI : Nat → Nat → Nat) (cI cJ cZ cO : ClassId) (sz : Nat) (n : Nat) (n4 : Nat) (n3 : Nat) (n5 : Nat) (n6 : Nat) (n7 : Nat) (n8 : Nat) (n9 : Nat)  : Met l yX5_sumOf (Cond.code yX5_sumOf cX5_sumOf 4 (some .int) :: pf_W) ({ frames := 0, cells := 0, slots := 0, locals := 0 }) (va_Pc [.ref n, .ref n4] (fun U => U.heap.size = sz ∧ va_P (dC, dI) pf_cls [(n, .inr (5, [.int 2, .int 0, .int 0, .ref n3, .ref n4, .ref n5, .ref n6, .ref n7, .ref n8, .ref n9])), (n4, .inl (cI, 8, .inl (fun _ => 0)))] U.heap ∧ va_K (dC, dI) pf_cls (pf_ty cI cJ cZ cO) U ∧ va_D (fun _ => True) [(n, .inr (5, [.int 2, .int 0, .int 0, .ref n3, .ref n4, .ref n5, .ref n6, .ref n7, .ref n8, .ref n9])), (n4, .inl (cI, 8, .inl (fun _ => 0)))])) (va_Qi (fun (r : Int32) (_ : Unit) => r = 0) (fun (_ : Unit) (t : State) => va_P (dC, dI) pf_cls [(n, .inr (5, [.int 2, .int 0, .int 0, .ref n3, .ref n4, .ref n5, .ref n6, .ref n7, .ref n8, .ref n9])), (n4, .inl (cI, 8, .inl (fun _ => 0)))] t.heap ∧ va_D (va_A [(n, .inr (5, [.int 2, .int 0, .int 0, .ref n3, .ref n4, .ref n5, .ref n6, .ref n7, .ref n8, .ref n9])), (n4, .inl (cI, 8, .inl (fun _ => 0)))] sz) [(n, .inr (5, [.int 2, .int 0, .int 0, .ref n3, .ref n4, .ref n5, .ref n6, .ref n7, .ref n8, .ref n9])), (n4, .inl (cI, 8, .inl (fun _ => 0)))]) (va_A [(n, .inr (5, [.int 2, .int 0, .int 0, .ref n3, .ref n4, .ref n5, .ref n6, .ref n7, .ref n8, .ref n9])), (n4, .inl (cI, 8, .inl (fun _ => 0)))] sz)) 0 0 (va_A [(n, .inr (5, [.int 2, .int 0, .int 0, .ref n3, .ref n4, .ref n5, .ref n6, .ref n7, .ref n8, .ref n9])), (n4, .inl (cI, 8, .inl (fun _ => 0)))] sz) := by
  refine Met.ofW (cc := cX5_sumOf) (maxL := 4) (ret := (some .int)) (by decide) rfl ?_
  intro p e s m args below meth c s₁ B hml hv
  obtain ⟨rfl, hsz, hP, hK, hD0⟩ := hv
  have hx := B.exec
  have hb := B.bytes
  have hr := B.returns
  have hts := atoms_spec (ws := Cond.code yX5_sumOf cX5_sumOf 4 (some .int) :: pf_W) B.pre
  have hown : s.vm.findClass RX5 = some m.cls := findClass_of_methodNamed B.named
  have hlocks := B.notSynchronized
  subst hsz
  have hD := hD0.self (sz := s.heap.size)
  generalize hAe : va_A [(n, .inr (5, [.int 2, .int 0, .int 0, .ref n3, .ref n4, .ref n5, .ref n6, .ref n7, .ref n8, .ref n9])), (n4, .inl (cI, 8, .inl (fun _ => 0)))] s.heap.size = A at hD ⊢
  have hA : ∀ q : Nat, s.heap.size ≤ q → A q := fun q h => by rw [← hAe]; exact Or.inr h
  have hS : va_S A s.heap s.heap [] := va_S.rf
  have hP : va_P (dC, dI) pf_cls [(n, .inr (5, [.int 2, .int 0, .int 0, .ref n3, .ref n4, .ref n5, .ref n6, .ref n7, .ref n8, .ref n9])), (n4, .inl (cI, 8, .inl (fun _ => 0)))] s.heap := hP
  have hl := lv_entry ([.ref n, .ref n4]) (n := 4) (Nat.le_of_ble_eq_true rfl)
  rw [lg_entry_eq]
  generalize (lg_sl ([.ref n, .ref n4]) ++ List.replicate (4 - (lg_sl ([.ref n, .ref n4])).length) Slot.unset).toArray = ls at hl ⊢
  have hl : lv_has ls 4 [(0, .ref n), (1, .ref n4)] := hl
  refine lv_iconst (v := 0) hx hb dX5_sumOf_0 (by decide) ?_
  refine lv_istore_n (lv' := [(2, .int 0), (0, .ref n), (1, .ref n4)]) hx hb dX5_sumOf_1 rfl hl (by decide) rfl (fun ls hl => ?_)
  refine lv_iconst (v := 0) hx hb dX5_sumOf_2 (by decide) ?_
  refine lv_istore_n (lv' := [(3, .int 0), (2, .int 0), (0, .ref n), (1, .ref n4)]) hx hb dX5_sumOf_3 rfl hl (by decide) rfl (fun ls hl => ?_)
  refine lv_iload_n hx hb dX5_sumOf_4 rfl (lv_at hl 0 rfl) ?_
  refine lv_aload_n hx hb dX5_sumOf_5 rfl (lv_at hl 2 rfl) ?_
  refine va_get (D := (dC, dI)) (ci := 5) (v := .int 2) (C := RX5) (T := TX5) (N := 10) hx hb hts (fun w h => List.mem_cons_of_mem _ (ic_X5 w h)) hown hK hP 0 rfl rfl 0 (by decide) (hts _ (List.mem_cons_of_mem _ mw_29)) (fun _ h9 => h9) rfl dX5_sumOf_6 ?_
  refine lv_icmp_ge (tgt := 24) hx hb dX5_sumOf_9 (by decide) (fun c0 => absurd c0 (by decide +kernel)) (fun _ => ?_)
  refine lv_iload_n hx hb dX5_sumOf_12 rfl (lv_at hl 1 rfl) ?_
  refine lv_aload_n hx hb dX5_sumOf_13 rfl (lv_at hl 3 rfl) ?_
  refine lv_iload_n hx hb dX5_sumOf_14 rfl (lv_at hl 0 rfl) ?_
  refine pf_iald (v := 0) hx hb hK hP 1 0 0 rfl rfl (by decide +kernel) (by decide +kernel) (by decide) rfl dX5_sumOf_15 ?_
  refine lv_iadd hx hb dX5_sumOf_16 ?_
  refine pf_topi (v := 0) (by decide +kernel) ?_
  refine lv_istore_n (lv' := [(2, .int 0), (3, .int 0), (0, .ref n), (1, .ref n4)]) hx hb dX5_sumOf_17 rfl hl (by decide) rfl (fun ls hl => ?_)
  refine lv_iinc (v := 1) (lv' := [(3, .int 1), (2, .int 0), (0, .ref n), (1, .ref n4)]) hx hb dX5_sumOf_18 hl (k := 1) rfl (by decide +kernel) (by decide) rfl (fun ls hl => ?_)
  refine lv_goto (tgt := 4) hx hb dX5_sumOf_21 (by decide) ?_
  refine lv_iload_n hx hb dX5_sumOf_4 rfl (lv_at hl 0 rfl) ?_
  refine lv_aload_n hx hb dX5_sumOf_5 rfl (lv_at hl 2 rfl) ?_
  refine va_get (D := (dC, dI)) (ci := 5) (v := .int 2) (C := RX5) (T := TX5) (N := 10) hx hb hts (fun w h => List.mem_cons_of_mem _ (ic_X5 w h)) hown hK hP 0 rfl rfl 0 (by decide) (hts _ (List.mem_cons_of_mem _ mw_29)) (fun _ h9 => h9) rfl dX5_sumOf_6 ?_
  refine lv_icmp_ge (tgt := 24) hx hb dX5_sumOf_9 (by decide) (fun c1 => absurd c1 (by decide +kernel)) (fun _ => ?_)
  refine lv_iload_n hx hb dX5_sumOf_12 rfl (lv_at hl 1 rfl) ?_
  refine lv_aload_n hx hb dX5_sumOf_13 rfl (lv_at hl 3 rfl) ?_
  refine lv_iload_n hx hb dX5_sumOf_14 rfl (lv_at hl 0 rfl) ?_
  refine pf_iald (v := 0) hx hb hK hP 1 0 1 rfl rfl (by decide +kernel) (by decide +kernel) (by decide) rfl dX5_sumOf_15 ?_
  refine lv_iadd hx hb dX5_sumOf_16 ?_
  refine pf_topi (v := 0) (by decide +kernel) ?_
  refine lv_istore_n (lv' := [(2, .int 0), (3, .int 1), (0, .ref n), (1, .ref n4)]) hx hb dX5_sumOf_17 rfl hl (by decide) rfl (fun ls hl => ?_)
  refine lv_iinc (v := 2) (lv' := [(3, .int 2), (2, .int 0), (0, .ref n), (1, .ref n4)]) hx hb dX5_sumOf_18 hl (k := 1) rfl (by decide +kernel) (by decide) rfl (fun ls hl => ?_)
  refine lv_goto (tgt := 4) hx hb dX5_sumOf_21 (by decide) ?_
  refine lv_iload_n hx hb dX5_sumOf_4 rfl (lv_at hl 0 rfl) ?_
  refine lv_aload_n hx hb dX5_sumOf_5 rfl (lv_at hl 2 rfl) ?_
  refine va_get (D := (dC, dI)) (ci := 5) (v := .int 2) (C := RX5) (T := TX5) (N := 10) hx hb hts (fun w h => List.mem_cons_of_mem _ (ic_X5 w h)) hown hK hP 0 rfl rfl 0 (by decide) (hts _ (List.mem_cons_of_mem _ mw_29)) (fun _ h9 => h9) rfl dX5_sumOf_6 ?_
  refine lv_icmp_ge (tgt := 24) hx hb dX5_sumOf_9 (by decide) (fun _ => ?_) (fun c2 => absurd (by decide +kernel) c2)
  refine lv_iload_n hx hb dX5_sumOf_24 rfl (lv_at hl 1 rfl) ?_
  have hP9 := hP.sub (ws' := [(n, .inr (5, [.int 2, .int 0, .int 0, .ref n3, .ref n4, .ref n5, .ref n6, .ref n7, .ref n8, .ref n9])), (n4, .inl (cI, 8, .inl (fun _ => 0)))]) [0, 1] rfl
  have hD9 := hD.sub (ws' := [(n, .inr (5, [.int 2, .int 0, .int 0, .ref n3, .ref n4, .ref n5, .ref n6, .ref n7, .ref n8, .ref n9])), (n4, .inl (cI, 8, .inl (fun _ => 0)))]) [0, 1] (by decide +kernel) rfl
  refine W.widen (k := 0) (n := 0) (Nat.le_of_ble_eq_true rfl) (Nat.le_of_ble_eq_true rfl) ?_
  exact W.iret (v := 0) hx hb hr (fun t ht hW => ⟨⟨_, (), rfl, rfl, (by rw [ht]; exact hP9), hD9⟩, hS.F ht⟩) hS.2.2 dX5_sumOf_25
set_option maxHeartbeats 40000000 in
set_option maxRecDepth 100000 in
theorem c_isWithin (l : Launch) (dC : Nat → ClassId) (dI : Nat → Nat → Nat) (cI cJ cZ cO : ClassId) (sz : Nat) (x : Int32) (a : Int32) (b : Int32)  : Met l yX9_isWithin (Cond.code yX9_isWithin cX9_isWithin 3 (some .boolean) :: pf_W) ({ frames := 0, cells := 0, slots := 0, locals := 0 }) (va_Pc [.int x, .int a, .int b] (fun U => U.heap.size = sz ∧ va_P (dC, dI) pf_cls [] U.heap ∧ va_K (dC, dI) pf_cls (pf_ty cI cJ cZ cO) U ∧ va_D (fun _ => True) [])) (va_Qi (fun (r : Int32) (_ : Unit) => r = (pf_in x a b)) (fun (_ : Unit) (t : State) => va_P (dC, dI) pf_cls [] t.heap ∧ va_D (va_A [] sz) []) (va_A [] sz)) 0 0 (va_A [] sz) := by
  refine Met.ofW (cc := cX9_isWithin) (maxL := 3) (ret := (some .boolean)) (by decide) rfl ?_
  intro p e s m args below meth c s₁ B hml hv
  obtain ⟨rfl, hsz, hP, hK, hD0⟩ := hv
  have hx := B.exec
  have hb := B.bytes
  have hr := B.returns
  have hts := atoms_spec (ws := Cond.code yX9_isWithin cX9_isWithin 3 (some .boolean) :: pf_W) B.pre
  have hown : s.vm.findClass RX9 = some m.cls := findClass_of_methodNamed B.named
  have hlocks := B.notSynchronized
  subst hsz
  have hD := hD0.self (sz := s.heap.size)
  generalize hAe : va_A [] s.heap.size = A at hD ⊢
  have hA : ∀ q : Nat, s.heap.size ≤ q → A q := fun q h => by rw [← hAe]; exact Or.inr h
  have hS : va_S A s.heap s.heap [] := va_S.rf
  have hP : va_P (dC, dI) pf_cls [] s.heap := hP
  have hl := lv_entry ([.int x, .int a, .int b]) (n := 3) (Nat.le_of_ble_eq_true rfl)
  rw [lg_entry_eq]
  generalize (lg_sl ([.int x, .int a, .int b]) ++ List.replicate (3 - (lg_sl ([.int x, .int a, .int b])).length) Slot.unset).toArray = ls at hl ⊢
  have hl : lv_has ls 3 [(0, .int x), (1, .int a), (2, .int b)] := hl
  refine lv_iload_n hx hb dX9_isWithin_0 rfl (lv_at hl 0 rfl) ?_
  refine lv_iload_n hx hb dX9_isWithin_1 rfl (lv_at hl 1 rfl) ?_
  refine lv_icmp_lt (tgt := 14) hx hb dX9_isWithin_2 (by decide) (fun c0 => ?_) (fun c0 => ?_)
  · skip
    refine lv_iconst (v := 0) hx hb dX9_isWithin_14 (by decide) ?_
    have hP9 := hP.sub (ws' := []) [] rfl
    have hD9 := hD.sub (ws' := []) [] (by decide +kernel) rfl
    refine W.widen (k := 0) (n := 0) (Nat.le_of_ble_eq_true rfl) (Nat.le_of_ble_eq_true rfl) ?_
    exact W.zret (v := 0) hx hb hr rfl (fun t ht hW => ⟨⟨_, (), rfl, (by first | decide +kernel | simp [pf_in, c0]), (by rw [ht]; exact hP9), hD9⟩, hS.F ht⟩) hS.2.2 dX9_isWithin_15
  · skip
    refine lv_iload_n hx hb dX9_isWithin_5 rfl (lv_at hl 0 rfl) ?_
    refine lv_iload_n hx hb dX9_isWithin_6 rfl (lv_at hl 2 rfl) ?_
    refine lv_icmp_gt (tgt := 14) hx hb dX9_isWithin_7 (by decide) (fun c1 => ?_) (fun c1 => ?_)
    · skip
      refine lv_iconst (v := 0) hx hb dX9_isWithin_14 (by decide) ?_
      have hP9 := hP.sub (ws' := []) [] rfl
      have hD9 := hD.sub (ws' := []) [] (by decide +kernel) rfl
      refine W.widen (k := 0) (n := 0) (Nat.le_of_ble_eq_true rfl) (Nat.le_of_ble_eq_true rfl) ?_
      exact W.zret (v := 0) hx hb hr rfl (fun t ht hW => ⟨⟨_, (), rfl, (by first | decide +kernel | simp [pf_in, c0, c1]), (by rw [ht]; exact hP9), hD9⟩, hS.F ht⟩) hS.2.2 dX9_isWithin_15
    · skip
      refine lv_iconst (v := 1) hx hb dX9_isWithin_10 (by decide) ?_
      refine lv_goto (tgt := 15) hx hb dX9_isWithin_11 (by decide) ?_
      have hP9 := hP.sub (ws' := []) [] rfl
      have hD9 := hD.sub (ws' := []) [] (by decide +kernel) rfl
      refine W.widen (k := 0) (n := 0) (Nat.le_of_ble_eq_true rfl) (Nat.le_of_ble_eq_true rfl) ?_
      exact W.zret (v := 1) hx hb hr rfl (fun t ht hW => ⟨⟨_, (), rfl, (by first | decide +kernel | simp [pf_in, c0, c1]), (by rw [ht]; exact hP9), hD9⟩, hS.F ht⟩) hS.2.2 dX9_isWithin_15
set_option maxHeartbeats 40000000 in
set_option maxRecDepth 100000 in
theorem c_isParameter (l : Launch) (dC : Nat → ClassId) (dI : Nat → Nat → Nat) (cI cJ cZ cO : ClassId) (sz : Nat) (pp : Int32) (q : Int32)  : Met l yX9_isParameter (Cond.code yX9_isParameter cX9_isParameter 2 (some .boolean) :: pf_W) ({ frames := 1, cells := 0, slots := 0, locals := 22 }) (va_Pc [.int pp, .int q] (fun U => U.heap.size = sz ∧ va_P (dC, dI) pf_cls [] U.heap ∧ va_K (dC, dI) pf_cls (pf_ty cI cJ cZ cO) U ∧ va_D (fun _ => True) [])) (va_Qi (fun (r : Int32) (_ : Unit) => r = (pf_par pp q)) (fun (_ : Unit) (t : State) => va_P (dC, dI) pf_cls [] t.heap ∧ va_D (va_A [] sz) []) (va_A [] sz)) 0 0 (va_A [] sz) := by
  refine Met.ofW (cc := cX9_isParameter) (maxL := 2) (ret := (some .boolean)) (by decide) rfl ?_
  intro p e s m args below meth c s₁ B hml hv
  obtain ⟨rfl, hsz, hP, hK, hD0⟩ := hv
  have hx := B.exec
  have hb := B.bytes
  have hr := B.returns
  have hts := atoms_spec (ws := Cond.code yX9_isParameter cX9_isParameter 2 (some .boolean) :: pf_W) B.pre
  have hown : s.vm.findClass RX9 = some m.cls := findClass_of_methodNamed B.named
  have hlocks := B.notSynchronized
  subst hsz
  have hD := hD0.self (sz := s.heap.size)
  generalize hAe : va_A [] s.heap.size = A at hD ⊢
  have hA : ∀ q : Nat, s.heap.size ≤ q → A q := fun q h => by rw [← hAe]; exact Or.inr h
  have hS : va_S A s.heap s.heap [] := va_S.rf
  have hP : va_P (dC, dI) pf_cls [] s.heap := hP
  have hl := lv_entry ([.int pp, .int q]) (n := 2) (Nat.le_of_ble_eq_true rfl)
  rw [lg_entry_eq]
  generalize (lg_sl ([.int pp, .int q]) ++ List.replicate (2 - (lg_sl ([.int pp, .int q])).length) Slot.unset).toArray = ls at hl ⊢
  have hl : lv_has ls 2 [(0, .int pp), (1, .int q)] := hl
  refine lv_iload_n hx hb dX9_isParameter_0 rfl (lv_at hl 0 rfl) ?_
  refine lv_sipush (v := (-10000)) hx hb dX9_isParameter_1 (by decide +kernel) ?_
  refine lv_sipush (v := 10000) hx hb dX9_isParameter_4 (by decide +kernel) ?_
  have hPc := hP.sub (ws' := []) [] rfl
  have hDc := hD.sub (ws' := []) [] (by decide +kernel) rfl
  have hFc := va_free (wc := []) hD hS hA [] rfl
  refine va_calli (va_runS (As := [.int pp, .int (-10000), .int 10000]) (rest := []) ⟨hx, hb, hml, hown, hts⟩ (c_isWithin l dC dI cI cJ cZ cO s.heap.size pp ((-10000)) 10000) (va_cwS 3 hts (pf_gS mw_48 mw_49 mw_50 mw_51) rfl rfl rfl (by decide +kernel) ⟨Nat.le_of_ble_eq_true rfl, Nat.le_of_ble_eq_true rfl⟩) ⟨fun a U g mk q => by obtain ⟨q0, q1, qP, qK, qD⟩ := q; exact ⟨q0, q1, qP, va_K.moved (u := U) (U := U.calling g mk a) (Vm.Alike.refl U.vm) qK, qD⟩, fun U hU hW => ⟨rfl, by rw [hU], by rw [hU]; exact hPc, va_K.moved hW.alike hK, hDc.weaken (fun _ _ _ _ => trivial)⟩⟩ rfl rfl hl.1 rfl (lv_room (Nat.le_of_ble_eq_true rfl)) dX9_isParameter_7 ⟨Nat.le_of_ble_eq_true rfl, Nat.le_of_ble_eq_true rfl⟩) hS (fun q _ h => hFc q h) hFc (fun r0 u t H1 locs ht hvm hw hB hz1 hk1 hS => ?_)
  have hw : (pf_in pp (-10000) 10000) = r0 := (show r0 = (pf_in pp (-10000) 10000) from hw).symm
  subst hw
  obtain ⟨hP1, hD1⟩ := hB
  rw [ht] at hP1
  obtain ⟨hP, hD⟩ := va_join (wr := []) (w1 := []) hP hD [] [] rfl rfl (by decide +kernel) (by decide +kernel) hk1 hFc hP1 hD1
  clear hPc hDc hFc hk1 hz1
  generalize H1 = H at hP hS ⊢
  have hP : va_P (dC, dI) pf_cls [] H := hP
  have hD : va_D A [] := hD
  refine lv_if_eq (tgt := 28) hx hb dX9_isParameter_10 (by decide) (fun c1 => ?_) (fun c1 => ?_)
  · skip
    refine lv_iconst (v := 0) hx hb dX9_isParameter_28 (by decide) ?_
    have hP9 := hP.sub (ws' := []) [] rfl
    have hD9 := hD.sub (ws' := []) [] (by decide +kernel) rfl
    refine W.widen (k := 0) (n := 0) (Nat.le_of_ble_eq_true rfl) (Nat.le_of_ble_eq_true rfl) ?_
    exact W.zret (v := 0) hx hb hr rfl (fun t ht hW => ⟨⟨_, (), rfl, (by first | decide +kernel | simp [pf_par, c1]), (by rw [ht]; exact hP9), hD9⟩, hS.F ht⟩) hS.2.2 dX9_isParameter_29
  · skip
    refine lv_iload_n hx hb dX9_isParameter_13 rfl (lv_at hl 1 rfl) ?_
    refine lv_iconst (v := 1) hx hb dX9_isParameter_14 (by decide) ?_
    refine lv_sipush (v := 1000) hx hb dX9_isParameter_15 (by decide +kernel) ?_
    have hPc := hP.sub (ws' := []) [] rfl
    have hDc := hD.sub (ws' := []) [] (by decide +kernel) rfl
    have hFc := va_free (wc := []) hD hS hA [] rfl
    refine va_calli (va_runS (As := [.int q, .int 1, .int 1000]) (rest := []) ⟨hx, hb, hml, hown, hts⟩ (c_isWithin l dC dI cI cJ cZ cO H.size q 1 1000) (va_cwS 3 hts (pf_gS mw_48 mw_49 mw_50 mw_51) rfl rfl rfl (by decide +kernel) ⟨Nat.le_of_ble_eq_true rfl, Nat.le_of_ble_eq_true rfl⟩) ⟨fun a U g mk q => by obtain ⟨q0, q1, qP, qK, qD⟩ := q; exact ⟨q0, q1, qP, va_K.moved (u := U) (U := U.calling g mk a) (Vm.Alike.refl U.vm) qK, qD⟩, fun U hU hW => ⟨rfl, by rw [hU], by rw [hU]; exact hPc, va_K.moved hW.alike hK, hDc.weaken (fun _ _ _ _ => trivial)⟩⟩ rfl rfl hl.1 rfl (lv_room (Nat.le_of_ble_eq_true rfl)) dX9_isParameter_18 ⟨Nat.le_of_ble_eq_true rfl, Nat.le_of_ble_eq_true rfl⟩) hS (fun q _ h => hFc q h) hFc (fun r2 u t H1 locs ht hvm hw hB hz1 hk1 hS => ?_)
    have hw : (pf_in q 1 1000) = r2 := (show r2 = (pf_in q 1 1000) from hw).symm
    subst hw
    obtain ⟨hP1, hD1⟩ := hB
    rw [ht] at hP1
    obtain ⟨hP, hD⟩ := va_join (wr := []) (w1 := []) hP hD [] [] rfl rfl (by decide +kernel) (by decide +kernel) hk1 hFc hP1 hD1
    clear hPc hDc hFc hk1 hz1
    generalize H1 = H at hP hS ⊢
    have hP : va_P (dC, dI) pf_cls [] H := hP
    have hD : va_D A [] := hD
    refine lv_if_eq (tgt := 28) hx hb dX9_isParameter_21 (by decide) (fun c3 => ?_) (fun c3 => ?_)
    · skip
      refine lv_iconst (v := 0) hx hb dX9_isParameter_28 (by decide) ?_
      have hP9 := hP.sub (ws' := []) [] rfl
      have hD9 := hD.sub (ws' := []) [] (by decide +kernel) rfl
      refine W.widen (k := 0) (n := 0) (Nat.le_of_ble_eq_true rfl) (Nat.le_of_ble_eq_true rfl) ?_
      exact W.zret (v := 0) hx hb hr rfl (fun t ht hW => ⟨⟨_, (), rfl, (by first | decide +kernel | simp [pf_par, c1, c3]), (by rw [ht]; exact hP9), hD9⟩, hS.F ht⟩) hS.2.2 dX9_isParameter_29
    · skip
      refine lv_iconst (v := 1) hx hb dX9_isParameter_24 (by decide) ?_
      refine lv_goto (tgt := 29) hx hb dX9_isParameter_25 (by decide) ?_
      have hP9 := hP.sub (ws' := []) [] rfl
      have hD9 := hD.sub (ws' := []) [] (by decide +kernel) rfl
      refine W.widen (k := 0) (n := 0) (Nat.le_of_ble_eq_true rfl) (Nat.le_of_ble_eq_true rfl) ?_
      exact W.zret (v := 1) hx hb hr rfl (fun t ht hW => ⟨⟨_, (), rfl, (by first | decide +kernel | simp [pf_par, c1, c3]), (by rw [ht]; exact hP9), hD9⟩, hS.F ht⟩) hS.2.2 dX9_isParameter_29
set_option maxHeartbeats 40000000 in
set_option maxRecDepth 100000 in
theorem c_isInterval (l : Launch) (dC : Nat → ClassId) (dI : Nat → Nat → Nat) (cI cJ cZ cO : ClassId) (sz : Nat) (pp : Int32) (q : Int32)  : Met l yX9_isInterval (Cond.code yX9_isInterval cX9_isInterval 2 (some .boolean) :: pf_W) ({ frames := 1, cells := 0, slots := 0, locals := 22 }) (va_Pc [.int pp, .int q] (fun U => U.heap.size = sz ∧ va_P (dC, dI) pf_cls [] U.heap ∧ va_K (dC, dI) pf_cls (pf_ty cI cJ cZ cO) U ∧ va_D (fun _ => True) [])) (va_Qi (fun (r : Int32) (_ : Unit) => r = (pf_itv pp q)) (fun (_ : Unit) (t : State) => va_P (dC, dI) pf_cls [] t.heap ∧ va_D (va_A [] sz) []) (va_A [] sz)) 0 0 (va_A [] sz) := by
  refine Met.ofW (cc := cX9_isInterval) (maxL := 2) (ret := (some .boolean)) (by decide) rfl ?_
  intro p e s m args below meth c s₁ B hml hv
  obtain ⟨rfl, hsz, hP, hK, hD0⟩ := hv
  have hx := B.exec
  have hb := B.bytes
  have hr := B.returns
  have hts := atoms_spec (ws := Cond.code yX9_isInterval cX9_isInterval 2 (some .boolean) :: pf_W) B.pre
  have hown : s.vm.findClass RX9 = some m.cls := findClass_of_methodNamed B.named
  have hlocks := B.notSynchronized
  subst hsz
  have hD := hD0.self (sz := s.heap.size)
  generalize hAe : va_A [] s.heap.size = A at hD ⊢
  have hA : ∀ q : Nat, s.heap.size ≤ q → A q := fun q h => by rw [← hAe]; exact Or.inr h
  have hS : va_S A s.heap s.heap [] := va_S.rf
  have hP : va_P (dC, dI) pf_cls [] s.heap := hP
  have hl := lv_entry ([.int pp, .int q]) (n := 2) (Nat.le_of_ble_eq_true rfl)
  rw [lg_entry_eq]
  generalize (lg_sl ([.int pp, .int q]) ++ List.replicate (2 - (lg_sl ([.int pp, .int q])).length) Slot.unset).toArray = ls at hl ⊢
  have hl : lv_has ls 2 [(0, .int pp), (1, .int q)] := hl
  refine lv_iload_n hx hb dX9_isInterval_0 rfl (lv_at hl 0 rfl) ?_
  refine lv_sipush (v := (-1000)) hx hb dX9_isInterval_1 (by decide +kernel) ?_
  refine lv_sipush (v := 1000) hx hb dX9_isInterval_4 (by decide +kernel) ?_
  have hPc := hP.sub (ws' := []) [] rfl
  have hDc := hD.sub (ws' := []) [] (by decide +kernel) rfl
  have hFc := va_free (wc := []) hD hS hA [] rfl
  refine va_calli (va_runS (As := [.int pp, .int (-1000), .int 1000]) (rest := []) ⟨hx, hb, hml, hown, hts⟩ (c_isWithin l dC dI cI cJ cZ cO s.heap.size pp ((-1000)) 1000) (va_cwS 3 hts (pf_gS mw_48 mw_49 mw_50 mw_51) rfl rfl rfl (by decide +kernel) ⟨Nat.le_of_ble_eq_true rfl, Nat.le_of_ble_eq_true rfl⟩) ⟨fun a U g mk q => by obtain ⟨q0, q1, qP, qK, qD⟩ := q; exact ⟨q0, q1, qP, va_K.moved (u := U) (U := U.calling g mk a) (Vm.Alike.refl U.vm) qK, qD⟩, fun U hU hW => ⟨rfl, by rw [hU], by rw [hU]; exact hPc, va_K.moved hW.alike hK, hDc.weaken (fun _ _ _ _ => trivial)⟩⟩ rfl rfl hl.1 rfl (lv_room (Nat.le_of_ble_eq_true rfl)) dX9_isInterval_7 ⟨Nat.le_of_ble_eq_true rfl, Nat.le_of_ble_eq_true rfl⟩) hS (fun q _ h => hFc q h) hFc (fun r0 u t H1 locs ht hvm hw hB hz1 hk1 hS => ?_)
  have hw : (pf_in pp (-1000) 1000) = r0 := (show r0 = (pf_in pp (-1000) 1000) from hw).symm
  subst hw
  obtain ⟨hP1, hD1⟩ := hB
  rw [ht] at hP1
  obtain ⟨hP, hD⟩ := va_join (wr := []) (w1 := []) hP hD [] [] rfl rfl (by decide +kernel) (by decide +kernel) hk1 hFc hP1 hD1
  clear hPc hDc hFc hk1 hz1
  generalize H1 = H at hP hS ⊢
  have hP : va_P (dC, dI) pf_cls [] H := hP
  have hD : va_D A [] := hD
  refine lv_if_eq (tgt := 29) hx hb dX9_isInterval_10 (by decide) (fun c1 => ?_) (fun c1 => ?_)
  · skip
    refine lv_iconst (v := 0) hx hb dX9_isInterval_29 (by decide) ?_
    have hP9 := hP.sub (ws' := []) [] rfl
    have hD9 := hD.sub (ws' := []) [] (by decide +kernel) rfl
    refine W.widen (k := 0) (n := 0) (Nat.le_of_ble_eq_true rfl) (Nat.le_of_ble_eq_true rfl) ?_
    exact W.zret (v := 0) hx hb hr rfl (fun t ht hW => ⟨⟨_, (), rfl, (by first | decide +kernel | simp [pf_itv, c1]), (by rw [ht]; exact hP9), hD9⟩, hS.F ht⟩) hS.2.2 dX9_isInterval_30
  · skip
    refine lv_iload_n hx hb dX9_isInterval_13 rfl (lv_at hl 1 rfl) ?_
    refine lv_iload_n hx hb dX9_isInterval_14 rfl (lv_at hl 0 rfl) ?_
    refine lv_icmp_le (tgt := 29) hx hb dX9_isInterval_15 (by decide) (fun c2 => ?_) (fun c2 => ?_)
    · skip
      refine lv_iconst (v := 0) hx hb dX9_isInterval_29 (by decide) ?_
      have hP9 := hP.sub (ws' := []) [] rfl
      have hD9 := hD.sub (ws' := []) [] (by decide +kernel) rfl
      refine W.widen (k := 0) (n := 0) (Nat.le_of_ble_eq_true rfl) (Nat.le_of_ble_eq_true rfl) ?_
      exact W.zret (v := 0) hx hb hr rfl (fun t ht hW => ⟨⟨_, (), rfl, (by first | decide +kernel | simp [pf_itv, c1, c2]), (by rw [ht]; exact hP9), hD9⟩, hS.F ht⟩) hS.2.2 dX9_isInterval_30
    · skip
      refine lv_iload_n hx hb dX9_isInterval_18 rfl (lv_at hl 1 rfl) ?_
      refine lv_sipush (v := 1000) hx hb dX9_isInterval_19 (by decide +kernel) ?_
      refine lv_icmp_gt (tgt := 29) hx hb dX9_isInterval_22 (by decide) (fun c3 => ?_) (fun c3 => ?_)
      · skip
        refine lv_iconst (v := 0) hx hb dX9_isInterval_29 (by decide) ?_
        have hP9 := hP.sub (ws' := []) [] rfl
        have hD9 := hD.sub (ws' := []) [] (by decide +kernel) rfl
        refine W.widen (k := 0) (n := 0) (Nat.le_of_ble_eq_true rfl) (Nat.le_of_ble_eq_true rfl) ?_
        exact W.zret (v := 0) hx hb hr rfl (fun t ht hW => ⟨⟨_, (), rfl, (by first | decide +kernel | simp [pf_itv, c1, c2, c3]), (by rw [ht]; exact hP9), hD9⟩, hS.F ht⟩) hS.2.2 dX9_isInterval_30
      · skip
        refine lv_iconst (v := 1) hx hb dX9_isInterval_25 (by decide) ?_
        refine lv_goto (tgt := 30) hx hb dX9_isInterval_26 (by decide) ?_
        have hP9 := hP.sub (ws' := []) [] rfl
        have hD9 := hD.sub (ws' := []) [] (by decide +kernel) rfl
        refine W.widen (k := 0) (n := 0) (Nat.le_of_ble_eq_true rfl) (Nat.le_of_ble_eq_true rfl) ?_
        exact W.zret (v := 1) hx hb hr rfl (fun t ht hW => ⟨⟨_, (), rfl, (by first | decide +kernel | simp [pf_itv, c1, c2, c3]), (by rw [ht]; exact hP9), hD9⟩, hS.F ht⟩) hS.2.2 dX9_isInterval_30
set_option maxHeartbeats 40000000 in
set_option maxRecDepth 100000 in
theorem c_commonDivisor (l : Launch) (dC : Nat → ClassId) (dI : Nat → Nat → Nat) (cI cJ cZ cO : ClassId) (sz : Nat) (x : Int64) (hq : 0 < x) : Met l yX9_commonDivisor (Cond.code yX9_commonDivisor cX9_commonDivisor 11 (some .long) :: pf_W) ({ frames := 1, cells := 0, slots := 0, locals := 21 }) (va_Pc [.long 0, .long x] (fun U => U.heap.size = sz ∧ va_P (dC, dI) pf_cls [] U.heap ∧ va_K (dC, dI) pf_cls (pf_ty cI cJ cZ cO) U ∧ va_D (fun _ => True) [])) (va_Ql (fun (r : Int64) (_ : Unit) => r = x) (fun (_ : Unit) (t : State) => va_P (dC, dI) pf_cls [] t.heap ∧ va_D (va_A [] sz) []) (va_A [] sz)) 0 0 (va_A [] sz) := by
  refine Met.ofW (cc := cX9_commonDivisor) (maxL := 11) (ret := (some .long)) (by decide) rfl ?_
  intro p e s m args below meth c s₁ B hml hv
  obtain ⟨rfl, hsz, hP, hK, hD0⟩ := hv
  have hx := B.exec
  have hb := B.bytes
  have hr := B.returns
  have hts := atoms_spec (ws := Cond.code yX9_commonDivisor cX9_commonDivisor 11 (some .long) :: pf_W) B.pre
  have hown : s.vm.findClass RX9 = some m.cls := findClass_of_methodNamed B.named
  have hlocks := B.notSynchronized
  subst hsz
  have hD := hD0.self (sz := s.heap.size)
  generalize hAe : va_A [] s.heap.size = A at hD ⊢
  have hA : ∀ q : Nat, s.heap.size ≤ q → A q := fun q h => by rw [← hAe]; exact Or.inr h
  have hS : va_S A s.heap s.heap [] := va_S.rf
  have hP : va_P (dC, dI) pf_cls [] s.heap := hP
  have hl := lv_entry ([.long 0, .long x]) (n := 11) (Nat.le_of_ble_eq_true rfl)
  rw [lg_entry_eq]
  generalize (lg_sl ([.long 0, .long x]) ++ List.replicate (11 - (lg_sl ([.long 0, .long x])).length) Slot.unset).toArray = ls at hl ⊢
  have hl : lv_has ls 11 [(0, .long 0), (2, .long x)] := hl
  refine lv_lload_n hx hb dX9_commonDivisor_0 rfl (lv_at hl 0 rfl) ?_
  refine va_mabs_long hx hb (hml.trans hl.1.symm) hown (hts _ (List.mem_cons_of_mem _ mw_52)) (hts _ (List.mem_cons_of_mem _ mw_53)) (hts _ (List.mem_cons_of_mem _ mw_54)) (hts _ (List.mem_cons_of_mem _ mw_55)) (Nat.le_of_ble_eq_true rfl) (Nat.le_of_ble_eq_true rfl) (Nat.le_of_ble_eq_true rfl) (Nat.le_of_ble_eq_true rfl) dX9_commonDivisor_1 ?_
  refine pf_topl (v := 0) (by decide +kernel) ?_
  refine lv_lstore (lv' := [(4, .long 0), (0, .long 0), (2, .long x)]) hx hb dX9_commonDivisor_4 hl (by decide) rfl (fun ls hl => ?_)
  refine lv_lload_n hx hb dX9_commonDivisor_6 rfl (lv_at hl 2 rfl) ?_
  refine va_mabs_long hx hb (hml.trans hl.1.symm) hown (hts _ (List.mem_cons_of_mem _ mw_52)) (hts _ (List.mem_cons_of_mem _ mw_53)) (hts _ (List.mem_cons_of_mem _ mw_54)) (hts _ (List.mem_cons_of_mem _ mw_55)) (Nat.le_of_ble_eq_true rfl) (Nat.le_of_ble_eq_true rfl) (Nat.le_of_ble_eq_true rfl) (Nat.le_of_ble_eq_true rfl) dX9_commonDivisor_7 ?_
  refine pf_topl (v := x) (if_pos hq) ?_
  refine lv_lstore (lv' := [(6, .long x), (4, .long 0), (0, .long 0), (2, .long x)]) hx hb dX9_commonDivisor_10 hl (by decide) rfl (fun ls hl => ?_)
  refine lv_iconst (v := 0) hx hb dX9_commonDivisor_12 (by decide) ?_
  refine lv_istore (lv' := [(8, .int 0), (6, .long x), (4, .long 0), (0, .long 0), (2, .long x)]) hx hb dX9_commonDivisor_13 hl (by decide) rfl (fun ls hl => ?_)
  refine lv_lload hx hb dX9_commonDivisor_15 (lv_at hl 1 rfl) ?_
  refine lv_lconst (v := 0) hx hb dX9_commonDivisor_17 (by decide +kernel) ?_
  refine W.lcmp hx hb dX9_commonDivisor_18 ?_
  refine pf_topi (v := 1) (pf_cmp_pos hq) ?_
  refine lv_if_eq (tgt := 51) hx hb dX9_commonDivisor_19 (by decide) (fun c0 => absurd c0 (by decide +kernel)) (fun _ => ?_)
  refine lv_iload hx hb dX9_commonDivisor_22 (lv_at hl 0 rfl) ?_
  refine lv_sipush (v := 200) hx hb dX9_commonDivisor_24 (by decide +kernel) ?_
  refine lv_icmp_ge (tgt := 51) hx hb dX9_commonDivisor_27 (by decide) (fun c1 => absurd c1 (by decide +kernel)) (fun _ => ?_)
  refine lv_lload hx hb dX9_commonDivisor_30 (lv_at hl 2 rfl) ?_
  refine lv_lload hx hb dX9_commonDivisor_32 (lv_at hl 1 rfl) ?_
  refine lv_lrem hx hb dX9_commonDivisor_34 (pf_ne_pos hq) ?_
  refine pf_topl (v := 0) (by simp) ?_
  refine lv_lstore (lv' := [(9, .long 0), (8, .int 0), (6, .long x), (4, .long 0), (0, .long 0), (2, .long x)]) hx hb dX9_commonDivisor_35 hl (by decide) rfl (fun ls hl => ?_)
  refine lv_lload hx hb dX9_commonDivisor_37 (lv_at hl 2 rfl) ?_
  refine lv_lstore (lv' := [(4, .long x), (9, .long 0), (8, .int 0), (6, .long x), (0, .long 0), (2, .long x)]) hx hb dX9_commonDivisor_39 hl (by decide) rfl (fun ls hl => ?_)
  refine lv_lload hx hb dX9_commonDivisor_41 (lv_at hl 1 rfl) ?_
  refine lv_lstore (lv' := [(6, .long 0), (4, .long x), (9, .long 0), (8, .int 0), (0, .long 0), (2, .long x)]) hx hb dX9_commonDivisor_43 hl (by decide) rfl (fun ls hl => ?_)
  refine lv_iinc (v := 1) (lv' := [(8, .int 1), (6, .long 0), (4, .long x), (9, .long 0), (0, .long 0), (2, .long x)]) hx hb dX9_commonDivisor_45 hl (k := 3) rfl (by decide +kernel) (by decide) rfl (fun ls hl => ?_)
  refine lv_goto (tgt := 15) hx hb dX9_commonDivisor_48 (by decide) ?_
  refine lv_lload hx hb dX9_commonDivisor_15 (lv_at hl 1 rfl) ?_
  refine lv_lconst (v := 0) hx hb dX9_commonDivisor_17 (by decide +kernel) ?_
  refine W.lcmp hx hb dX9_commonDivisor_18 ?_
  refine pf_topi (v := 0) (by decide +kernel) ?_
  refine lv_if_eq (tgt := 51) hx hb dX9_commonDivisor_19 (by decide) (fun _ => ?_) (fun c2 => absurd (by decide +kernel) c2)
  refine lv_lload hx hb dX9_commonDivisor_51 (lv_at hl 2 rfl) ?_
  have hP9 := hP.sub (ws' := []) [] rfl
  have hD9 := hD.sub (ws' := []) [] (by decide +kernel) rfl
  refine W.widen (k := 0) (n := 0) (Nat.le_of_ble_eq_true rfl) (Nat.le_of_ble_eq_true rfl) ?_
  exact W.lret (v := x) hx hb hr (fun t ht hW => ⟨⟨_, (), rfl, rfl, (by rw [ht]; exact hP9), hD9⟩, hS.F ht⟩) hS.2.2 dX9_commonDivisor_53
set_option maxHeartbeats 40000000 in
set_option maxRecDepth 100000 in
theorem c_lowestTerms (l : Launch) (dC : Nat → ClassId) (dI : Nat → Nat → Nat) (cI cJ cZ cO : ClassId) (sz : Nat) (x : Int64) (d : Int32) (hq : 0 < x) : Met l yX9_lowestTerms (Cond.code yX9_lowestTerms cX9_lowestTerms 7 (some .long) :: pf_W) ({ frames := 2, cells := 0, slots := 0, locals := 51 }) (va_Pc [.long 0, .long x, .int d] (fun U => U.heap.size = sz ∧ va_P (dC, dI) pf_cls [] U.heap ∧ va_K (dC, dI) pf_cls (pf_ty cI cJ cZ cO) U ∧ va_D (fun _ => True) [])) (va_Ql (fun (r : Int64) (_ : Unit) => r = (pf_sel d)) (fun (_ : Unit) (t : State) => va_P (dC, dI) pf_cls [] t.heap ∧ va_D (va_A [] sz) []) (va_A [] sz)) 0 0 (va_A [] sz) := by
  refine Met.ofW (cc := cX9_lowestTerms) (maxL := 7) (ret := (some .long)) (by decide) rfl ?_
  intro p e s m args below meth c s₁ B hml hv
  obtain ⟨rfl, hsz, hP, hK, hD0⟩ := hv
  have hx := B.exec
  have hb := B.bytes
  have hr := B.returns
  have hts := atoms_spec (ws := Cond.code yX9_lowestTerms cX9_lowestTerms 7 (some .long) :: pf_W) B.pre
  have hown : s.vm.findClass RX9 = some m.cls := findClass_of_methodNamed B.named
  have hlocks := B.notSynchronized
  subst hsz
  have hD := hD0.self (sz := s.heap.size)
  generalize hAe : va_A [] s.heap.size = A at hD ⊢
  have hA : ∀ q : Nat, s.heap.size ≤ q → A q := fun q h => by rw [← hAe]; exact Or.inr h
  have hS : va_S A s.heap s.heap [] := va_S.rf
  have hP : va_P (dC, dI) pf_cls [] s.heap := hP
  have hl := lv_entry ([.long 0, .long x, .int d]) (n := 7) (Nat.le_of_ble_eq_true rfl)
  rw [lg_entry_eq]
  generalize (lg_sl ([.long 0, .long x, .int d]) ++ List.replicate (7 - (lg_sl ([.long 0, .long x, .int d])).length) Slot.unset).toArray = ls at hl ⊢
  have hl : lv_has ls 7 [(0, .long 0), (2, .long x), (4, .int d)] := hl
  refine lv_lload_n hx hb dX9_lowestTerms_0 rfl (lv_at hl 0 rfl) ?_
  refine lv_lload_n hx hb dX9_lowestTerms_1 rfl (lv_at hl 1 rfl) ?_
  have hPc := hP.sub (ws' := []) [] rfl
  have hDc := hD.sub (ws' := []) [] (by decide +kernel) rfl
  have hFc := va_free (wc := []) hD hS hA [] rfl
  refine va_calll (va_runS (As := [.long 0, .long x]) (rest := []) ⟨hx, hb, hml, hown, hts⟩ (c_commonDivisor l dC dI cI cJ cZ cO s.heap.size x hq) (va_cwS 2 hts (pf_gS mw_56 mw_57 mw_50 mw_58) rfl rfl rfl (by decide +kernel) ⟨Nat.le_of_ble_eq_true rfl, Nat.le_of_ble_eq_true rfl⟩) ⟨fun a U g mk q => by obtain ⟨q0, q1, qP, qK, qD⟩ := q; exact ⟨q0, q1, qP, va_K.moved (u := U) (U := U.calling g mk a) (Vm.Alike.refl U.vm) qK, qD⟩, fun U hU hW => ⟨rfl, by rw [hU], by rw [hU]; exact hPc, va_K.moved hW.alike hK, hDc.weaken (fun _ _ _ _ => trivial)⟩⟩ rfl rfl hl.1 rfl (lv_room (Nat.le_of_ble_eq_true rfl)) dX9_lowestTerms_2 ⟨Nat.le_of_ble_eq_true rfl, Nat.le_of_ble_eq_true rfl⟩) hS (fun q _ h => hFc q h) hFc (fun r0 u t H1 locs ht hvm hw hB hz1 hk1 hS => ?_)
  have hw : x = r0 := (show r0 = x from hw).symm
  subst hw
  obtain ⟨hP1, hD1⟩ := hB
  rw [ht] at hP1
  obtain ⟨hP, hD⟩ := va_join (wr := []) (w1 := []) hP hD [] [] rfl rfl (by decide +kernel) (by decide +kernel) hk1 hFc hP1 hD1
  clear hPc hDc hFc hk1 hz1
  generalize H1 = H at hP hS ⊢
  have hP : va_P (dC, dI) pf_cls [] H := hP
  have hD : va_D A [] := hD
  refine lv_lstore (lv' := [(5, .long x), (0, .long 0), (2, .long x), (4, .int d)]) hx hb dX9_lowestTerms_5 hl (by decide) rfl (fun ls hl => ?_)
  refine lv_lload hx hb dX9_lowestTerms_7 (lv_at hl 0 rfl) ?_
  refine lv_lconst (v := 0) hx hb dX9_lowestTerms_9 (by decide +kernel) ?_
  refine W.lcmp hx hb dX9_lowestTerms_10 ?_
  refine pf_topi (v := 1) (pf_cmp_pos hq) ?_
  refine lv_if_ne (tgt := 18) hx hb dX9_lowestTerms_11 (by decide) (fun _ => ?_) (fun c1 => absurd c1 (by decide +kernel))
  refine lv_iload hx hb dX9_lowestTerms_18 (lv_at hl 3 rfl) ?_
  refine lv_if_eq (tgt := 27) hx hb dX9_lowestTerms_20 (by decide) (fun c2 => ?_) (fun c2 => ?_)
  · skip
    refine lv_lload_n hx hb dX9_lowestTerms_27 rfl (lv_at hl 1 rfl) ?_
    refine lv_lload hx hb dX9_lowestTerms_28 (lv_at hl 0 rfl) ?_
    refine lv_ldiv hx hb dX9_lowestTerms_30 (pf_ne_pos hq) ?_
    refine pf_topl (v := 0) (by simp) ?_
    have hP9 := hP.sub (ws' := []) [] rfl
    have hD9 := hD.sub (ws' := []) [] (by decide +kernel) rfl
    refine W.widen (k := 0) (n := 0) (Nat.le_of_ble_eq_true rfl) (Nat.le_of_ble_eq_true rfl) ?_
    exact W.lret (v := 0) hx hb hr (fun t ht hW => ⟨⟨_, (), rfl, (by first | decide +kernel | simp [pf_sel, c2]), (by rw [ht]; exact hP9), hD9⟩, hS.F ht⟩) hS.2.2 dX9_lowestTerms_31
  · skip
    refine lv_lload_n hx hb dX9_lowestTerms_23 rfl (lv_at hl 2 rfl) ?_
    refine lv_goto (tgt := 28) hx hb dX9_lowestTerms_24 (by decide) ?_
    refine lv_lload hx hb dX9_lowestTerms_28 (lv_at hl 0 rfl) ?_
    refine lv_ldiv hx hb dX9_lowestTerms_30 (pf_ne_pos hq) ?_
    refine pf_topl (v := 1) (pf_ldiv_self (pf_ne_pos hq)) ?_
    have hP9 := hP.sub (ws' := []) [] rfl
    have hD9 := hD.sub (ws' := []) [] (by decide +kernel) rfl
    refine W.widen (k := 0) (n := 0) (Nat.le_of_ble_eq_true rfl) (Nat.le_of_ble_eq_true rfl) ?_
    exact W.lret (v := 1) hx hb hr (fun t ht hW => ⟨⟨_, (), rfl, (by first | decide +kernel | simp [pf_sel, c2]), (by rw [ht]; exact hP9), hD9⟩, hS.F ht⟩) hS.2.2 dX9_lowestTerms_31
