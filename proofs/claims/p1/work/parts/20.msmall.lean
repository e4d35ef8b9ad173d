set_option maxHeartbeats 40000000 in
set_option maxRecDepth 100000 in
theorem c_m_in (l : Launch) (dC : Nat → ClassId) (dI : Nat → Nat → Nat) (cI cJ cZ cO : ClassId) (sz : Nat) (x : Int32) (a : Int32) (b : Int32)  : Met l yX10_in (Cond.code yX10_in cX10_in 3 (some .boolean) :: pf_W) ({ frames := 0, cells := 0, slots := 0, locals := 0 }) (va_Pc [.int x, .int a, .int b] (fun U => U.heap.size = sz ∧ va_P (dC, dI) pf_cls [] U.heap ∧ va_K (dC, dI) pf_cls (pf_ty cI cJ cZ cO) U ∧ va_D (fun _ => True) [])) (va_Qi (fun (r : Int32) (_ : Unit) => r = (pf_in x a b)) (fun (_ : Unit) (t : State) => va_P (dC, dI) pf_cls [] t.heap ∧ va_D (va_A [] sz) []) (va_A [] sz)) 0 0 (va_A [] sz) := by
  refine Met.ofW (cc := cX10_in) (maxL := 3) (ret := (some .boolean)) (by decide) rfl ?_
  intro p e s m args below meth c s₁ B hml hv
  obtain ⟨rfl, hsz, hP, hK, hD0⟩ := hv
  have hx := B.exec
  have hb := B.bytes
  have hr := B.returns
  have hts := atoms_spec (ws := Cond.code yX10_in cX10_in 3 (some .boolean) :: pf_W) B.pre
  have hown : s.vm.findClass RX10 = some m.cls := findClass_of_methodNamed B.named
  have hlocks := B.notSynchronized
  subst hsz
  have hD := hD0.self (sz := s.heap.size)
  generalize hAe : va_A [] s.heap.size = A at hD ⊢
  have hA : ∀ q : Nat, s.heap.size ≤ q → A q := fun q h => by rw [← hAe]; exact Or.inr h
  have hS : va_S A s.heap s.heap [] := va_S.rf
  have hP : va_P (dC, dI) pf_cls [] s.heap := hP
  have hl := lv_entry ([.int x, .int a, .int b]) (n := 3) (Nat.le_of_ble_eq_true rfl)
  rw [lg_entry_eq]
  generalize (lg_sl ([.int x, .int a, .int b]) ++ List.replicate (3 - (lg_sl ([.int x, .int a, .int b])).length) Slot.unset).toArray = ls at hl ⊢
  have hl : lv_has ls 3 [(0, .int x), (1, .int a), (2, .int b)] := hl
  refine lv_iload_n hx hb dX10_in_0 rfl (lv_at hl 0 rfl) ?_
  refine lv_iload_n hx hb dX10_in_1 rfl (lv_at hl 1 rfl) ?_
  refine lv_icmp_lt (tgt := 14) hx hb dX10_in_2 (by decide) (fun c0 => ?_) (fun c0 => ?_)
  · skip
    refine lv_iconst (v := 0) hx hb dX10_in_14 (by decide) ?_
    have hP9 := hP.sub (ws' := []) [] rfl
    have hD9 := hD.sub (ws' := []) [] (by decide +kernel) rfl
    refine W.widen (k := 0) (n := 0) (Nat.le_of_ble_eq_true rfl) (Nat.le_of_ble_eq_true rfl) ?_
    exact W.zret (v := 0) hx hb hr rfl (fun t ht hW => ⟨⟨_, (), rfl, (by first | decide +kernel | simp [pf_in, c0]), (by rw [ht]; exact hP9), hD9⟩, hS.F ht⟩) hS.2.2 dX10_in_15
  · skip
    refine lv_iload_n hx hb dX10_in_5 rfl (lv_at hl 0 rfl) ?_
    refine lv_iload_n hx hb dX10_in_6 rfl (lv_at hl 2 rfl) ?_
    refine lv_icmp_gt (tgt := 14) hx hb dX10_in_7 (by decide) (fun c1 => ?_) (fun c1 => ?_)
    · skip
      refine lv_iconst (v := 0) hx hb dX10_in_14 (by decide) ?_
      have hP9 := hP.sub (ws' := []) [] rfl
      have hD9 := hD.sub (ws' := []) [] (by decide +kernel) rfl
      refine W.widen (k := 0) (n := 0) (Nat.le_of_ble_eq_true rfl) (Nat.le_of_ble_eq_true rfl) ?_
      exact W.zret (v := 0) hx hb hr rfl (fun t ht hW => ⟨⟨_, (), rfl, (by first | decide +kernel | simp [pf_in, c0, c1]), (by rw [ht]; exact hP9), hD9⟩, hS.F ht⟩) hS.2.2 dX10_in_15
    · skip
      refine lv_iconst (v := 1) hx hb dX10_in_10 (by decide) ?_
      refine lv_goto (tgt := 15) hx hb dX10_in_11 (by decide) ?_
      have hP9 := hP.sub (ws' := []) [] rfl
      have hD9 := hD.sub (ws' := []) [] (by decide +kernel) rfl
      refine W.widen (k := 0) (n := 0) (Nat.le_of_ble_eq_true rfl) (Nat.le_of_ble_eq_true rfl) ?_
      exact W.zret (v := 1) hx hb hr rfl (fun t ht hW => ⟨⟨_, (), rfl, (by first | decide +kernel | simp [pf_in, c0, c1]), (by rw [ht]; exact hP9), hD9⟩, hS.F ht⟩) hS.2.2 dX10_in_15
set_option maxHeartbeats 40000000 in
set_option maxRecDepth 100000 in
theorem c_m_inE (l : Launch) (dC : Nat → ClassId) (dI : Nat → Nat → Nat) (cI cJ cZ cO : ClassId) (sz : Nat) (x : Int32)  : Met l yX10_in (Cond.code yX10_in cX10_in 3 (some .boolean) :: pf_W) ({ frames := 0, cells := 0, slots := 0, locals := 0 }) (va_Pc [.int x, .int 0, .int (-1)] (fun U => U.heap.size = sz ∧ va_P (dC, dI) pf_cls [] U.heap ∧ va_K (dC, dI) pf_cls (pf_ty cI cJ cZ cO) U ∧ va_D (fun _ => True) [])) (va_Qi (fun (r : Int32) (_ : Unit) => r = 0) (fun (_ : Unit) (t : State) => va_P (dC, dI) pf_cls [] t.heap ∧ va_D (va_A [] sz) []) (va_A [] sz)) 0 0 (va_A [] sz) := by
  refine Met.ofW (cc := cX10_in) (maxL := 3) (ret := (some .boolean)) (by decide) rfl ?_
  intro p e s m args below meth c s₁ B hml hv
  obtain ⟨rfl, hsz, hP, hK, hD0⟩ := hv
  have hx := B.exec
  have hb := B.bytes
  have hr := B.returns
  have hts := atoms_spec (ws := Cond.code yX10_in cX10_in 3 (some .boolean) :: pf_W) B.pre
  have hown : s.vm.findClass RX10 = some m.cls := findClass_of_methodNamed B.named
  have hlocks := B.notSynchronized
  subst hsz
  have hD := hD0.self (sz := s.heap.size)
  generalize hAe : va_A [] s.heap.size = A at hD ⊢
  have hA : ∀ q : Nat, s.heap.size ≤ q → A q := fun q h => by rw [← hAe]; exact Or.inr h
  have hS : va_S A s.heap s.heap [] := va_S.rf
  have hP : va_P (dC, dI) pf_cls [] s.heap := hP
  have hl := lv_entry ([.int x, .int 0, .int (-1)]) (n := 3) (Nat.le_of_ble_eq_true rfl)
  rw [lg_entry_eq]
  generalize (lg_sl ([.int x, .int 0, .int (-1)]) ++ List.replicate (3 - (lg_sl ([.int x, .int 0, .int (-1)])).length) Slot.unset).toArray = ls at hl ⊢
  have hl : lv_has ls 3 [(0, .int x), (1, .int 0), (2, .int (-1))] := hl
  refine lv_iload_n hx hb dX10_in_0 rfl (lv_at hl 0 rfl) ?_
  refine lv_iload_n hx hb dX10_in_1 rfl (lv_at hl 1 rfl) ?_
  refine lv_icmp_lt (tgt := 14) hx hb dX10_in_2 (by decide) (fun c0 => ?_) (fun c0 => ?_)
  · skip
    refine lv_iconst (v := 0) hx hb dX10_in_14 (by decide) ?_
    have hP9 := hP.sub (ws' := []) [] rfl
    have hD9 := hD.sub (ws' := []) [] (by decide +kernel) rfl
    refine W.widen (k := 0) (n := 0) (Nat.le_of_ble_eq_true rfl) (Nat.le_of_ble_eq_true rfl) ?_
    exact W.zret (v := 0) hx hb hr rfl (fun t ht hW => ⟨⟨_, (), rfl, rfl, (by rw [ht]; exact hP9), hD9⟩, hS.F ht⟩) hS.2.2 dX10_in_15
  · skip
    refine lv_iload_n hx hb dX10_in_5 rfl (lv_at hl 0 rfl) ?_
    refine lv_iload_n hx hb dX10_in_6 rfl (lv_at hl 2 rfl) ?_
    refine lv_icmp_gt (tgt := 14) hx hb dX10_in_7 (by decide) (fun c1 => ?_) (fun c1 => (pf_deadE c0 c1).elim)
    refine lv_iconst (v := 0) hx hb dX10_in_14 (by decide) ?_
    have hP9 := hP.sub (ws' := []) [] rfl
    have hD9 := hD.sub (ws' := []) [] (by decide +kernel) rfl
    refine W.widen (k := 0) (n := 0) (Nat.le_of_ble_eq_true rfl) (Nat.le_of_ble_eq_true rfl) ?_
    exact W.zret (v := 0) hx hb hr rfl (fun t ht hW => ⟨⟨_, (), rfl, rfl, (by rw [ht]; exact hP9), hD9⟩, hS.F ht⟩) hS.2.2 dX10_in_15
set_option maxHeartbeats 40000000 in
set_option maxRecDepth 100000 in
theorem c_m_lost (l : Launch) (dC : Nat → ClassId) (dI : Nat → Nat → Nat) (cI cJ cZ cO : ClassId) (sz : Nat)   : Met l yX10_lost (Cond.code yX10_lost cX10_lost 0 (some .long) :: pf_W) ({ frames := 0, cells := 0, slots := 0, locals := 0 }) (va_Pc [] (fun U => U.heap.size = sz ∧ va_P (dC, dI) pf_cls [] U.heap ∧ va_K (dC, dI) pf_cls (pf_ty cI cJ cZ cO) U ∧ va_D (fun _ => True) [])) (va_Ql (fun (r : Int64) (_ : Unit) => r = (-9223372036854775808)) (fun (_ : Unit) (t : State) => va_P (dC, dI) pf_cls [] t.heap ∧ va_D (va_A [] sz) []) (va_A [] sz)) 0 0 (va_A [] sz) := by
  refine Met.ofW (cc := cX10_lost) (maxL := 0) (ret := (some .long)) (by decide) rfl ?_
  intro p e s m args below meth c s₁ B hml hv
  obtain ⟨rfl, hsz, hP, hK, hD0⟩ := hv
  have hx := B.exec
  have hb := B.bytes
  have hr := B.returns
  have hts := atoms_spec (ws := Cond.code yX10_lost cX10_lost 0 (some .long) :: pf_W) B.pre
  have hown : s.vm.findClass RX10 = some m.cls := findClass_of_methodNamed B.named
  have hlocks := B.notSynchronized
  subst hsz
  have hD := hD0.self (sz := s.heap.size)
  generalize hAe : va_A [] s.heap.size = A at hD ⊢
  have hA : ∀ q : Nat, s.heap.size ≤ q → A q := fun q h => by rw [← hAe]; exact Or.inr h
  have hS : va_S A s.heap s.heap [] := va_S.rf
  have hP : va_P (dC, dI) pf_cls [] s.heap := hP
  have hl := lv_entry ([]) (n := 0) (Nat.le_of_ble_eq_true rfl)
  rw [lg_entry_eq]
  generalize (lg_sl ([]) ++ List.replicate (0 - (lg_sl ([])).length) Slot.unset).toArray = ls at hl ⊢
  have hl : lv_has ls 0 [] := hl
  refine lv_ldc2 (v := (-9223372036854775808)) hx hb hown (hts _ (List.mem_cons_of_mem _ mw_343)) dX10_lost_0 ?_
  have hP9 := hP.sub (ws' := []) [] rfl
  have hD9 := hD.sub (ws' := []) [] (by decide +kernel) rfl
  refine W.widen (k := 0) (n := 0) (Nat.le_of_ble_eq_true rfl) (Nat.le_of_ble_eq_true rfl) ?_
  exact W.lret (v := (-9223372036854775808)) hx hb hr (fun t ht hW => ⟨⟨_, (), rfl, rfl, (by rw [ht]; exact hP9), hD9⟩, hS.F ht⟩) hS.2.2 dX10_lost_3
set_option maxHeartbeats 40000000 in
set_option maxRecDepth 100000 in
theorem c_m_size (l : Launch) (dC : Nat → ClassId) (dI : Nat → Nat → Nat) (cI cJ cZ cO : ClassId) (sz : Nat) (x : Int64) (hq : 0 < x) : Met l yX10_size (Cond.code yX10_size cX10_size 2 (some .long) :: pf_W) ({ frames := 0, cells := 0, slots := 0, locals := 0 }) (va_Pc [.long x] (fun U => U.heap.size = sz ∧ va_P (dC, dI) pf_cls [] U.heap ∧ va_K (dC, dI) pf_cls (pf_ty cI cJ cZ cO) U ∧ va_D (fun _ => True) [])) (va_Ql (fun (r : Int64) (_ : Unit) => r = x) (fun (_ : Unit) (t : State) => va_P (dC, dI) pf_cls [] t.heap ∧ va_D (va_A [] sz) []) (va_A [] sz)) 0 0 (va_A [] sz) := by
  refine Met.ofW (cc := cX10_size) (maxL := 2) (ret := (some .long)) (by decide) rfl ?_
  intro p e s m args below meth c s₁ B hml hv
  obtain ⟨rfl, hsz, hP, hK, hD0⟩ := hv
  have hx := B.exec
  have hb := B.bytes
  have hr := B.returns
  have hts := atoms_spec (ws := Cond.code yX10_size cX10_size 2 (some .long) :: pf_W) B.pre
  have hown : s.vm.findClass RX10 = some m.cls := findClass_of_methodNamed B.named
  have hlocks := B.notSynchronized
  subst hsz
  have hD := hD0.self (sz := s.heap.size)
  generalize hAe : va_A [] s.heap.size = A at hD ⊢
  have hA : ∀ q : Nat, s.heap.size ≤ q → A q := fun q h => by rw [← hAe]; exact Or.inr h
  have hS : va_S A s.heap s.heap [] := va_S.rf
  have hP : va_P (dC, dI) pf_cls [] s.heap := hP
  have hl := lv_entry ([.long x]) (n := 2) (Nat.le_of_ble_eq_true rfl)
  rw [lg_entry_eq]
  generalize (lg_sl ([.long x]) ++ List.replicate (2 - (lg_sl ([.long x])).length) Slot.unset).toArray = ls at hl ⊢
  have hl : lv_has ls 2 [(0, .long x)] := hl
  refine lv_lload_n hx hb dX10_size_0 rfl (lv_at hl 0 rfl) ?_
  refine lv_lconst (v := 0) hx hb dX10_size_1 (by decide +kernel) ?_
  refine W.lcmp hx hb dX10_size_2 ?_
  refine pf_topi (v := 1) (pf_cmp_pos hq) ?_
  refine lv_if_ge (tgt := 11) hx hb dX10_size_3 (by decide) (fun _ => ?_) (fun c0 => absurd (by decide +kernel) c0)
  refine lv_lload_n hx hb dX10_size_11 rfl (lv_at hl 0 rfl) ?_
  have hP9 := hP.sub (ws' := []) [] rfl
  have hD9 := hD.sub (ws' := []) [] (by decide +kernel) rfl
  refine W.widen (k := 0) (n := 0) (Nat.le_of_ble_eq_true rfl) (Nat.le_of_ble_eq_true rfl) ?_
  exact W.lret (v := x) hx hb hr (fun t ht hW => ⟨⟨_, (), rfl, rfl, (by rw [ht]; exact hP9), hD9⟩, hS.F ht⟩) hS.2.2 dX10_size_12
set_option maxHeartbeats 40000000 in
set_option maxRecDepth 100000 in
theorem c_m_size0 (l : Launch) (dC : Nat → ClassId) (dI : Nat → Nat → Nat) (cI cJ cZ cO : ClassId) (sz : Nat)   : Met l yX10_size (Cond.code yX10_size cX10_size 2 (some .long) :: pf_W) ({ frames := 0, cells := 0, slots := 0, locals := 0 }) (va_Pc [.long 0] (fun U => U.heap.size = sz ∧ va_P (dC, dI) pf_cls [] U.heap ∧ va_K (dC, dI) pf_cls (pf_ty cI cJ cZ cO) U ∧ va_D (fun _ => True) [])) (va_Ql (fun (r : Int64) (_ : Unit) => r = 0) (fun (_ : Unit) (t : State) => va_P (dC, dI) pf_cls [] t.heap ∧ va_D (va_A [] sz) []) (va_A [] sz)) 0 0 (va_A [] sz) := by
  refine Met.ofW (cc := cX10_size) (maxL := 2) (ret := (some .long)) (by decide) rfl ?_
  intro p e s m args below meth c s₁ B hml hv
  obtain ⟨rfl, hsz, hP, hK, hD0⟩ := hv
  have hx := B.exec
  have hb := B.bytes
  have hr := B.returns
  have hts := atoms_spec (ws := Cond.code yX10_size cX10_size 2 (some .long) :: pf_W) B.pre
  have hown : s.vm.findClass RX10 = some m.cls := findClass_of_methodNamed B.named
  have hlocks := B.notSynchronized
  subst hsz
  have hD := hD0.self (sz := s.heap.size)
  generalize hAe : va_A [] s.heap.size = A at hD ⊢
  have hA : ∀ q : Nat, s.heap.size ≤ q → A q := fun q h => by rw [← hAe]; exact Or.inr h
  have hS : va_S A s.heap s.heap [] := va_S.rf
  have hP : va_P (dC, dI) pf_cls [] s.heap := hP
  have hl := lv_entry ([.long 0]) (n := 2) (Nat.le_of_ble_eq_true rfl)
  rw [lg_entry_eq]
  generalize (lg_sl ([.long 0]) ++ List.replicate (2 - (lg_sl ([.long 0])).length) Slot.unset).toArray = ls at hl ⊢
  have hl : lv_has ls 2 [(0, .long 0)] := hl
  refine lv_lload_n hx hb dX10_size_0 rfl (lv_at hl 0 rfl) ?_
  refine lv_lconst (v := 0) hx hb dX10_size_1 (by decide +kernel) ?_
  refine W.lcmp hx hb dX10_size_2 ?_
  refine pf_topi (v := 0) (by decide +kernel) ?_
  refine lv_if_ge (tgt := 11) hx hb dX10_size_3 (by decide) (fun _ => ?_) (fun c0 => absurd (by decide +kernel) c0)
  refine lv_lload_n hx hb dX10_size_11 rfl (lv_at hl 0 rfl) ?_
  have hP9 := hP.sub (ws' := []) [] rfl
  have hD9 := hD.sub (ws' := []) [] (by decide +kernel) rfl
  refine W.widen (k := 0) (n := 0) (Nat.le_of_ble_eq_true rfl) (Nat.le_of_ble_eq_true rfl) ?_
  exact W.lret (v := 0) hx hb hr (fun t ht hW => ⟨⟨_, (), rfl, rfl, (by rw [ht]; exact hP9), hD9⟩, hS.F ht⟩) hS.2.2 dX10_size_12
set_option maxHeartbeats 40000000 in
set_option maxRecDepth 100000 in
theorem c_m_common (l : Launch) (dC : Nat → ClassId) (dI : Nat → Nat → Nat) (cI cJ cZ cO : ClassId) (sz : Nat) (x : Int64) (hq : 0 < x) : Met l yX10_common (Cond.code yX10_common cX10_common 10 (some .long) :: pf_W) ({ frames := 1, cells := 0, slots := 0, locals := 21 }) (va_Pc [.long 0, .long x] (fun U => U.heap.size = sz ∧ va_P (dC, dI) pf_cls [] U.heap ∧ va_K (dC, dI) pf_cls (pf_ty cI cJ cZ cO) U ∧ va_D (fun _ => True) [])) (va_Ql (fun (r : Int64) (_ : Unit) => r = x) (fun (_ : Unit) (t : State) => va_P (dC, dI) pf_cls [] t.heap ∧ va_D (va_A [] sz) []) (va_A [] sz)) 0 0 (va_A [] sz) := by
  refine Met.ofW (cc := cX10_common) (maxL := 10) (ret := (some .long)) (by decide) rfl ?_
  intro p e s m args below meth c s₁ B hml hv
  obtain ⟨rfl, hsz, hP, hK, hD0⟩ := hv
  have hx := B.exec
  have hb := B.bytes
  have hr := B.returns
  have hts := atoms_spec (ws := Cond.code yX10_common cX10_common 10 (some .long) :: pf_W) B.pre
  have hown : s.vm.findClass RX10 = some m.cls := findClass_of_methodNamed B.named
  have hlocks := B.notSynchronized
  subst hsz
  have hD := hD0.self (sz := s.heap.size)
  generalize hAe : va_A [] s.heap.size = A at hD ⊢
  have hA : ∀ q : Nat, s.heap.size ≤ q → A q := fun q h => by rw [← hAe]; exact Or.inr h
  have hS : va_S A s.heap s.heap [] := va_S.rf
  have hP : va_P (dC, dI) pf_cls [] s.heap := hP
  have hl := lv_entry ([.long 0, .long x]) (n := 10) (Nat.le_of_ble_eq_true rfl)
  rw [lg_entry_eq]
  generalize (lg_sl ([.long 0, .long x]) ++ List.replicate (10 - (lg_sl ([.long 0, .long x])).length) Slot.unset).toArray = ls at hl ⊢
  have hl : lv_has ls 10 [(0, .long 0), (2, .long x)] := hl
  refine lv_lload_n hx hb dX10_common_0 rfl (lv_at hl 0 rfl) ?_
  have hPc := hP.sub (ws' := []) [] rfl
  have hDc := hD.sub (ws' := []) [] (by decide +kernel) rfl
  have hFc := va_free (wc := []) hD hS hA [] rfl
  refine va_calll (va_runS (As := [.long 0]) (rest := []) ⟨hx, hb, hml, hown, hts⟩ (c_m_size0 l dC dI cI cJ cZ cO s.heap.size ) (va_cwS 1 hts (pf_gS mw_344 mw_345 mw_346 mw_347) rfl rfl rfl (by decide +kernel) ⟨Nat.le_of_ble_eq_true rfl, Nat.le_of_ble_eq_true rfl⟩) ⟨fun a U g mk q => by obtain ⟨q0, q1, qP, qK, qD⟩ := q; exact ⟨q0, q1, qP, va_K.moved (u := U) (U := U.calling g mk a) (Vm.Alike.refl U.vm) qK, qD⟩, fun U hU hW => ⟨rfl, by rw [hU], by rw [hU]; exact hPc, va_K.moved hW.alike hK, hDc.weaken (fun _ _ _ _ => trivial)⟩⟩ rfl rfl hl.1 rfl (lv_room (Nat.le_of_ble_eq_true rfl)) dX10_common_1 ⟨Nat.le_of_ble_eq_true rfl, Nat.le_of_ble_eq_true rfl⟩) hS (fun q _ h => hFc q h) hFc (fun r0 u t H1 locs ht hvm hw hB hz1 hk1 hS => ?_)
  have hw : 0 = r0 := (show r0 = 0 from hw).symm
  subst hw
  obtain ⟨hP1, hD1⟩ := hB
  rw [ht] at hP1
  obtain ⟨hP, hD⟩ := va_join (wr := []) (w1 := []) hP hD [] [] rfl rfl (by decide +kernel) (by decide +kernel) hk1 hFc hP1 hD1
  clear hPc hDc hFc hk1 hz1
  generalize H1 = H at hP hS ⊢
  have hP : va_P (dC, dI) pf_cls [] H := hP
  have hD : va_D A [] := hD
  refine lv_lstore (lv' := [(4, .long 0), (0, .long 0), (2, .long x)]) hx hb dX10_common_4 hl (by decide) rfl (fun ls hl => ?_)
  refine lv_lload_n hx hb dX10_common_6 rfl (lv_at hl 2 rfl) ?_
  have hPc := hP.sub (ws' := []) [] rfl
  have hDc := hD.sub (ws' := []) [] (by decide +kernel) rfl
  have hFc := va_free (wc := []) hD hS hA [] rfl
  refine va_calll (va_runS (As := [.long x]) (rest := []) ⟨hx, hb, hml, hown, hts⟩ (c_m_size l dC dI cI cJ cZ cO H.size x hq) (va_cwS 1 hts (pf_gS mw_344 mw_345 mw_346 mw_347) rfl rfl rfl (by decide +kernel) ⟨Nat.le_of_ble_eq_true rfl, Nat.le_of_ble_eq_true rfl⟩) ⟨fun a U g mk q => by obtain ⟨q0, q1, qP, qK, qD⟩ := q; exact ⟨q0, q1, qP, va_K.moved (u := U) (U := U.calling g mk a) (Vm.Alike.refl U.vm) qK, qD⟩, fun U hU hW => ⟨rfl, by rw [hU], by rw [hU]; exact hPc, va_K.moved hW.alike hK, hDc.weaken (fun _ _ _ _ => trivial)⟩⟩ rfl rfl hl.1 rfl (lv_room (Nat.le_of_ble_eq_true rfl)) dX10_common_7 ⟨Nat.le_of_ble_eq_true rfl, Nat.le_of_ble_eq_true rfl⟩) hS (fun q _ h => hFc q h) hFc (fun r1 u t H1 locs ht hvm hw hB hz1 hk1 hS => ?_)
  have hw : x = r1 := (show r1 = x from hw).symm
  subst hw
  obtain ⟨hP1, hD1⟩ := hB
  rw [ht] at hP1
  obtain ⟨hP, hD⟩ := va_join (wr := []) (w1 := []) hP hD [] [] rfl rfl (by decide +kernel) (by decide +kernel) hk1 hFc hP1 hD1
  clear hPc hDc hFc hk1 hz1
  generalize H1 = H at hP hS ⊢
  have hP : va_P (dC, dI) pf_cls [] H := hP
  have hD : va_D A [] := hD
  refine lv_lstore (lv' := [(6, .long x), (4, .long 0), (0, .long 0), (2, .long x)]) hx hb dX10_common_10 hl (by decide) rfl (fun ls hl => ?_)
  refine lv_lload hx hb dX10_common_12 (lv_at hl 0 rfl) ?_
  refine lv_lconst (v := 0) hx hb dX10_common_14 (by decide +kernel) ?_
  refine W.lcmp hx hb dX10_common_15 ?_
  refine pf_topi (v := 1) (pf_cmp_pos hq) ?_
  refine lv_if_eq (tgt := 37) hx hb dX10_common_16 (by decide) (fun c2 => absurd c2 (by decide +kernel)) (fun _ => ?_)
  refine lv_lload hx hb dX10_common_19 (lv_at hl 1 rfl) ?_
  refine lv_lload hx hb dX10_common_21 (lv_at hl 0 rfl) ?_
  refine lv_lrem hx hb dX10_common_23 (pf_ne_pos hq) ?_
  refine pf_topl (v := 0) (by simp) ?_
  refine lv_lstore (lv' := [(8, .long 0), (6, .long x), (4, .long 0), (0, .long 0), (2, .long x)]) hx hb dX10_common_24 hl (by decide) rfl (fun ls hl => ?_)
  refine lv_lload hx hb dX10_common_26 (lv_at hl 1 rfl) ?_
  refine lv_lstore (lv' := [(4, .long x), (8, .long 0), (6, .long x), (0, .long 0), (2, .long x)]) hx hb dX10_common_28 hl (by decide) rfl (fun ls hl => ?_)
  refine lv_lload hx hb dX10_common_30 (lv_at hl 1 rfl) ?_
  refine lv_lstore (lv' := [(6, .long 0), (4, .long x), (8, .long 0), (0, .long 0), (2, .long x)]) hx hb dX10_common_32 hl (by decide) rfl (fun ls hl => ?_)
  refine lv_goto (tgt := 12) hx hb dX10_common_34 (by decide) ?_
  refine lv_lload hx hb dX10_common_12 (lv_at hl 0 rfl) ?_
  refine lv_lconst (v := 0) hx hb dX10_common_14 (by decide +kernel) ?_
  refine W.lcmp hx hb dX10_common_15 ?_
  refine pf_topi (v := 0) (by decide +kernel) ?_
  refine lv_if_eq (tgt := 37) hx hb dX10_common_16 (by decide) (fun _ => ?_) (fun c3 => absurd (by decide +kernel) c3)
  refine lv_lload hx hb dX10_common_37 (lv_at hl 1 rfl) ?_
  have hP9 := hP.sub (ws' := []) [] rfl
  have hD9 := hD.sub (ws' := []) [] (by decide +kernel) rfl
  refine W.widen (k := 0) (n := 0) (Nat.le_of_ble_eq_true rfl) (Nat.le_of_ble_eq_true rfl) ?_
  exact W.lret (v := x) hx hb hr (fun t ht hW => ⟨⟨_, (), rfl, rfl, (by rw [ht]; exact hP9), hD9⟩, hS.F ht⟩) hS.2.2 dX10_common_39
set_option maxHeartbeats 40000000 in
set_option maxRecDepth 100000 in
theorem c_m_part (l : Launch) (dC : Nat → ClassId) (dI : Nat → Nat → Nat) (cI cJ cZ cO : ClassId) (sz : Nat) (x : Int64) (d : Int32) (hq : 0 < x) : Met l yX10_part (Cond.code yX10_part cX10_part 7 (some .long) :: pf_W) ({ frames := 2, cells := 0, slots := 0, locals := 50 }) (va_Pc [.long 0, .long x, .int d] (fun U => U.heap.size = sz ∧ va_P (dC, dI) pf_cls [] U.heap ∧ va_K (dC, dI) pf_cls (pf_ty cI cJ cZ cO) U ∧ va_D (fun _ => True) [])) (va_Ql (fun (r : Int64) (_ : Unit) => r = (pf_sel d)) (fun (_ : Unit) (t : State) => va_P (dC, dI) pf_cls [] t.heap ∧ va_D (va_A [] sz) []) (va_A [] sz)) 0 0 (va_A [] sz) := by
  refine Met.ofW (cc := cX10_part) (maxL := 7) (ret := (some .long)) (by decide) rfl ?_
  intro p e s m args below meth c s₁ B hml hv
  obtain ⟨rfl, hsz, hP, hK, hD0⟩ := hv
  have hx := B.exec
  have hb := B.bytes
  have hr := B.returns
  have hts := atoms_spec (ws := Cond.code yX10_part cX10_part 7 (some .long) :: pf_W) B.pre
  have hown : s.vm.findClass RX10 = some m.cls := findClass_of_methodNamed B.named
  have hlocks := B.notSynchronized
  subst hsz
  have hD := hD0.self (sz := s.heap.size)
  generalize hAe : va_A [] s.heap.size = A at hD ⊢
  have hA : ∀ q : Nat, s.heap.size ≤ q → A q := fun q h => by rw [← hAe]; exact Or.inr h
  have hS : va_S A s.heap s.heap [] := va_S.rf
  have hP : va_P (dC, dI) pf_cls [] s.heap := hP
  have hl := lv_entry ([.long 0, .long x, .int d]) (n := 7) (Nat.le_of_ble_eq_true rfl)
  rw [lg_entry_eq]
  generalize (lg_sl ([.long 0, .long x, .int d]) ++ List.replicate (7 - (lg_sl ([.long 0, .long x, .int d])).length) Slot.unset).toArray = ls at hl ⊢
  have hl : lv_has ls 7 [(0, .long 0), (2, .long x), (4, .int d)] := hl
  refine lv_lload_n hx hb dX10_part_0 rfl (lv_at hl 0 rfl) ?_
  refine lv_lload_n hx hb dX10_part_1 rfl (lv_at hl 1 rfl) ?_
  have hPc := hP.sub (ws' := []) [] rfl
  have hDc := hD.sub (ws' := []) [] (by decide +kernel) rfl
  have hFc := va_free (wc := []) hD hS hA [] rfl
  refine va_calll (va_runS (As := [.long 0, .long x]) (rest := []) ⟨hx, hb, hml, hown, hts⟩ (c_m_common l dC dI cI cJ cZ cO s.heap.size x hq) (va_cwS 2 hts (pf_gS mw_348 mw_349 mw_346 mw_350) rfl rfl rfl (by decide +kernel) ⟨Nat.le_of_ble_eq_true rfl, Nat.le_of_ble_eq_true rfl⟩) ⟨fun a U g mk q => by obtain ⟨q0, q1, qP, qK, qD⟩ := q; exact ⟨q0, q1, qP, va_K.moved (u := U) (U := U.calling g mk a) (Vm.Alike.refl U.vm) qK, qD⟩, fun U hU hW => ⟨rfl, by rw [hU], by rw [hU]; exact hPc, va_K.moved hW.alike hK, hDc.weaken (fun _ _ _ _ => trivial)⟩⟩ rfl rfl hl.1 rfl (lv_room (Nat.le_of_ble_eq_true rfl)) dX10_part_2 ⟨Nat.le_of_ble_eq_true rfl, Nat.le_of_ble_eq_true rfl⟩) hS (fun q _ h => hFc q h) hFc (fun r0 u t H1 locs ht hvm hw hB hz1 hk1 hS => ?_)
  have hw : x = r0 := (show r0 = x from hw).symm
  subst hw
  obtain ⟨hP1, hD1⟩ := hB
  rw [ht] at hP1
  obtain ⟨hP, hD⟩ := va_join (wr := []) (w1 := []) hP hD [] [] rfl rfl (by decide +kernel) (by decide +kernel) hk1 hFc hP1 hD1
  clear hPc hDc hFc hk1 hz1
  generalize H1 = H at hP hS ⊢
  have hP : va_P (dC, dI) pf_cls [] H := hP
  have hD : va_D A [] := hD
  refine lv_lload_n hx hb dX10_part_5 rfl (lv_at hl 1 rfl) ?_
  refine lv_lconst (v := 0) hx hb dX10_part_6 (by decide +kernel) ?_
  refine W.lcmp hx hb dX10_part_7 ?_
  refine pf_topi (v := 1) (pf_cmp_pos hq) ?_
  refine lv_if_ge (tgt := 17) hx hb dX10_part_8 (by decide) (fun _ => ?_) (fun c1 => absurd (by decide +kernel) c1)
  refine lv_lconst (v := 1) hx hb dX10_part_17 (by decide +kernel) ?_
  refine lv_lmul hx hb dX10_part_18 ?_
  refine pf_topl (v := x) (by simp) ?_
  refine lv_lstore (lv' := [(5, .long x), (0, .long 0), (2, .long x), (4, .int d)]) hx hb dX10_part_19 hl (by decide) rfl (fun ls hl => ?_)
  refine lv_iload hx hb dX10_part_21 (lv_at hl 3 rfl) ?_
  refine lv_if_eq (tgt := 33) hx hb dX10_part_23 (by decide) (fun c2 => ?_) (fun c2 => ?_)
  · skip
    refine lv_lload_n hx hb dX10_part_33 rfl (lv_at hl 1 rfl) ?_
    refine lv_lload hx hb dX10_part_34 (lv_at hl 0 rfl) ?_
    refine lv_ldiv hx hb dX10_part_36 (pf_ne_pos hq) ?_
    refine pf_topl (v := 0) (by simp) ?_
    have hP9 := hP.sub (ws' := []) [] rfl
    have hD9 := hD.sub (ws' := []) [] (by decide +kernel) rfl
    refine W.widen (k := 0) (n := 0) (Nat.le_of_ble_eq_true rfl) (Nat.le_of_ble_eq_true rfl) ?_
    exact W.lret (v := 0) hx hb hr (fun t ht hW => ⟨⟨_, (), rfl, (by first | decide +kernel | simp [pf_sel, c2]), (by rw [ht]; exact hP9), hD9⟩, hS.F ht⟩) hS.2.2 dX10_part_37
  · skip
    refine lv_lload_n hx hb dX10_part_26 rfl (lv_at hl 2 rfl) ?_
    refine lv_lload hx hb dX10_part_27 (lv_at hl 0 rfl) ?_
    refine lv_ldiv hx hb dX10_part_29 (pf_ne_pos hq) ?_
    refine pf_topl (v := 1) (pf_ldiv_self (pf_ne_pos hq)) ?_
    refine lv_goto (tgt := 37) hx hb dX10_part_30 (by decide) ?_
    have hP9 := hP.sub (ws' := []) [] rfl
    have hD9 := hD.sub (ws' := []) [] (by decide +kernel) rfl
    refine W.widen (k := 0) (n := 0) (Nat.le_of_ble_eq_true rfl) (Nat.le_of_ble_eq_true rfl) ?_
    exact W.lret (v := 1) hx hb hr (fun t ht hW => ⟨⟨_, (), rfl, (by first | decide +kernel | simp [pf_sel, c2]), (by rw [ht]; exact hP9), hD9⟩, hS.F ht⟩) hS.2.2 dX10_part_37
set_option maxHeartbeats 40000000 in
set_option maxRecDepth 100000 in
theorem c_m_begin (l : Launch) (dC : Nat → ClassId) (dI : Nat → Nat → Nat) (cI cJ cZ cO : ClassId) (sz : Nat) (mo : Nat) (p0 : Int32) (w0 : Int32) (w1 : Int32) (w2 : Int32) (m3 : Nat) (m4 : Nat) (m5 : Nat) (m6 : Nat) (m7 : Nat) (m8 : Nat) (m9 : Nat) (w3 : Int32) (m11 : Nat) (m12 : Nat) (m13 : Nat) (m14 : Nat) (m15 : Nat) (m16 : Nat) (m17 : Nat) (m18 : Nat) (m19 : Nat) (m20 : Nat) (m21 : Nat) (m24 : Nat) (m25 : Nat) (m27 : Nat) (m28 : Nat) (m37 : Nat) (m38 : Nat) (m40 : Nat) (m41 : Nat) (m42 : Nat) (m43 : Nat) (m44 : Nat) (m45 : Nat)  : Met l yX10_begin (Cond.code yX10_begin cX10_begin 3 none :: pf_W) ({ frames := 0, cells := 0, slots := 0, locals := 0 }) (va_Pc [.ref mo, .int p0] (fun U => U.heap.size = sz ∧ va_P (dC, dI) pf_cls [(mo, .inr (10, [.int w0, .int w1, .int w2, .ref m3, .ref m4, .ref m5, .ref m6, .ref m7, .ref m8, .ref m9, .int w3, .ref m11, .ref m12, .ref m13, .ref m14, .ref m15, .ref m16, .ref m17, .ref m18, .ref m19, .ref m20, .ref m21, .long 0, .int 0, .ref m24, .ref m25, .int 0, .ref m27, .ref m28, .int 0, .int 0, .int 0, .long 0, .long 0, .int 0, .long 0, .long 0, .ref m37, .ref m38, .int 0, .ref m40, .ref m41, .ref m42, .ref m43, .ref m44, .ref m45, .long 0, .long 0])), (m8, .inl (cI, 8, .inl (fun _ => 0))), (m9, .inl (cI, 8, .inl (fun _ => 0)))] U.heap ∧ va_K (dC, dI) pf_cls (pf_ty cI cJ cZ cO) U ∧ va_D (fun _ => True) [(mo, .inr (10, [.int w0, .int w1, .int w2, .ref m3, .ref m4, .ref m5, .ref m6, .ref m7, .ref m8, .ref m9, .int w3, .ref m11, .ref m12, .ref m13, .ref m14, .ref m15, .ref m16, .ref m17, .ref m18, .ref m19, .ref m20, .ref m21, .long 0, .int 0, .ref m24, .ref m25, .int 0, .ref m27, .ref m28, .int 0, .int 0, .int 0, .long 0, .long 0, .int 0, .long 0, .long 0, .ref m37, .ref m38, .int 0, .ref m40, .ref m41, .ref m42, .ref m43, .ref m44, .ref m45, .long 0, .long 0])), (m8, .inl (cI, 8, .inl (fun _ => 0))), (m9, .inl (cI, 8, .inl (fun _ => 0)))])) (va_Qv (fun (_ : Unit) => True) (fun (_ : Unit) (t : State) => va_P (dC, dI) pf_cls [(mo, .inr (10, [.int p0, .int 0, .int 0, .ref m3, .ref m4, .ref m5, .ref m6, .ref m7, .ref m8, .ref m9, .int 0, .ref m11, .ref m12, .ref m13, .ref m14, .ref m15, .ref m16, .ref m17, .ref m18, .ref m19, .ref m20, .ref m21, .long 0, .int 0, .ref m24, .ref m25, .int 0, .ref m27, .ref m28, .int 0, .int 0, .int 0, .long 0, .long 0, .int 0, .long 0, .long 0, .ref m37, .ref m38, .int 0, .ref m40, .ref m41, .ref m42, .ref m43, .ref m44, .ref m45, .long 0, .long 0])), (m8, .inl (cI, 8, .inl (fun _ => 0))), (m9, .inl (cI, 8, .inl (fun _ => 0)))] t.heap ∧ va_D (va_A [(mo, .inr (10, [.int w0, .int w1, .int w2, .ref m3, .ref m4, .ref m5, .ref m6, .ref m7, .ref m8, .ref m9, .int w3, .ref m11, .ref m12, .ref m13, .ref m14, .ref m15, .ref m16, .ref m17, .ref m18, .ref m19, .ref m20, .ref m21, .long 0, .int 0, .ref m24, .ref m25, .int 0, .ref m27, .ref m28, .int 0, .int 0, .int 0, .long 0, .long 0, .int 0, .long 0, .long 0, .ref m37, .ref m38, .int 0, .ref m40, .ref m41, .ref m42, .ref m43, .ref m44, .ref m45, .long 0, .long 0])), (m8, .inl (cI, 8, .inl (fun _ => 0))), (m9, .inl (cI, 8, .inl (fun _ => 0)))] sz) [(mo, .inr (10, [.int p0, .int 0, .int 0, .ref m3, .ref m4, .ref m5, .ref m6, .ref m7, .ref m8, .ref m9, .int 0, .ref m11, .ref m12, .ref m13, .ref m14, .ref m15, .ref m16, .ref m17, .ref m18, .ref m19, .ref m20, .ref m21, .long 0, .int 0, .ref m24, .ref m25, .int 0, .ref m27, .ref m28, .int 0, .int 0, .int 0, .long 0, .long 0, .int 0, .long 0, .long 0, .ref m37, .ref m38, .int 0, .ref m40, .ref m41, .ref m42, .ref m43, .ref m44, .ref m45, .long 0, .long 0])), (m8, .inl (cI, 8, .inl (fun _ => 0))), (m9, .inl (cI, 8, .inl (fun _ => 0)))]) (va_A [(mo, .inr (10, [.int w0, .int w1, .int w2, .ref m3, .ref m4, .ref m5, .ref m6, .ref m7, .ref m8, .ref m9, .int w3, .ref m11, .ref m12, .ref m13, .ref m14, .ref m15, .ref m16, .ref m17, .ref m18, .ref m19, .ref m20, .ref m21, .long 0, .int 0, .ref m24, .ref m25, .int 0, .ref m27, .ref m28, .int 0, .int 0, .int 0, .long 0, .long 0, .int 0, .long 0, .long 0, .ref m37, .ref m38, .int 0, .ref m40, .ref m41, .ref m42, .ref m43, .ref m44, .ref m45, .long 0, .long 0])), (m8, .inl (cI, 8, .inl (fun _ => 0))), (m9, .inl (cI, 8, .inl (fun _ => 0)))] sz)) 0 0 (va_A [(mo, .inr (10, [.int w0, .int w1, .int w2, .ref m3, .ref m4, .ref m5, .ref m6, .ref m7, .ref m8, .ref m9, .int w3, .ref m11, .ref m12, .ref m13, .ref m14, .ref m15, .ref m16, .ref m17, .ref m18, .ref m19, .ref m20, .ref m21, .long 0, .int 0, .ref m24, .ref m25, .int 0, .ref m27, .ref m28, .int 0, .int 0, .int 0, .long 0, .long 0, .int 0, .long 0, .long 0, .ref m37, .ref m38, .int 0, .ref m40, .ref m41, .ref m42, .ref m43, .ref m44, .ref m45, .long 0, .long 0])), (m8, .inl (cI, 8, .inl (fun _ => 0))), (m9, .inl (cI, 8, .inl (fun _ => 0)))] sz) := by
  refine Met.ofW (cc := cX10_begin) (maxL := 3) (ret := none) (by decide) rfl ?_
  intro p e s m args below meth c s₁ B hml hv
  obtain ⟨rfl, hsz, hP, hK, hD0⟩ := hv
  have hx := B.exec
  have hb := B.bytes
  have hr := B.returns
  have hts := atoms_spec (ws := Cond.code yX10_begin cX10_begin 3 none :: pf_W) B.pre
  have hown : s.vm.findClass RX10 = some m.cls := findClass_of_methodNamed B.named
  have hlocks := B.notSynchronized
  subst hsz
  have hD := hD0.self (sz := s.heap.size)
  generalize hAe : va_A [(mo, .inr (10, [.int w0, .int w1, .int w2, .ref m3, .ref m4, .ref m5, .ref m6, .ref m7, .ref m8, .ref m9, .int w3, .ref m11, .ref m12, .ref m13, .ref m14, .ref m15, .ref m16, .ref m17, .ref m18, .ref m19, .ref m20, .ref m21, .long 0, .int 0, .ref m24, .ref m25, .int 0, .ref m27, .ref m28, .int 0, .int 0, .int 0, .long 0, .long 0, .int 0, .long 0, .long 0, .ref m37, .ref m38, .int 0, .ref m40, .ref m41, .ref m42, .ref m43, .ref m44, .ref m45, .long 0, .long 0])), (m8, .inl (cI, 8, .inl (fun _ => 0))), (m9, .inl (cI, 8, .inl (fun _ => 0)))] s.heap.size = A at hD ⊢
  have hA : ∀ q : Nat, s.heap.size ≤ q → A q := fun q h => by rw [← hAe]; exact Or.inr h
  have hS : va_S A s.heap s.heap [] := va_S.rf
  have hP : va_P (dC, dI) pf_cls [(mo, .inr (10, [.int w0, .int w1, .int w2, .ref m3, .ref m4, .ref m5, .ref m6, .ref m7, .ref m8, .ref m9, .int w3, .ref m11, .ref m12, .ref m13, .ref m14, .ref m15, .ref m16, .ref m17, .ref m18, .ref m19, .ref m20, .ref m21, .long 0, .int 0, .ref m24, .ref m25, .int 0, .ref m27, .ref m28, .int 0, .int 0, .int 0, .long 0, .long 0, .int 0, .long 0, .long 0, .ref m37, .ref m38, .int 0, .ref m40, .ref m41, .ref m42, .ref m43, .ref m44, .ref m45, .long 0, .long 0])), (m8, .inl (cI, 8, .inl (fun _ => 0))), (m9, .inl (cI, 8, .inl (fun _ => 0)))] s.heap := hP
  have hl := lv_entry ([.ref mo, .int p0]) (n := 3) (Nat.le_of_ble_eq_true rfl)
  rw [lg_entry_eq]
  generalize (lg_sl ([.ref mo, .int p0]) ++ List.replicate (3 - (lg_sl ([.ref mo, .int p0])).length) Slot.unset).toArray = ls at hl ⊢
  have hl : lv_has ls 3 [(0, .ref mo), (1, .int p0)] := hl
  refine lv_aload_n hx hb dX10_begin_0 rfl (lv_at hl 0 rfl) ?_
  refine lv_iload_n hx hb dX10_begin_1 rfl (lv_at hl 1 rfl) ?_
  refine va_put (D := (dC, dI)) (ci := 10) (v := .int p0) (ty := .int) (C := RX10) (T := TX10) (N := 48) hx hb hts (fun w h => List.mem_cons_of_mem _ (ic_X10 w h)) tyX10 tyX10_ok nmX10 hown hK hP hD hS 0 rfl rfl 0 (by decide) (hts _ (List.mem_cons_of_mem _ mw_351)) (fun _ h9 => h9) rfl (by decide +kernel) rfl rfl (Nat.le_of_ble_eq_true rfl) dX10_begin_2 (fun H locs hP hD hS => ?_)
  have hP : va_P (dC, dI) pf_cls [(mo, .inr (10, [.int p0, .int w1, .int w2, .ref m3, .ref m4, .ref m5, .ref m6, .ref m7, .ref m8, .ref m9, .int w3, .ref m11, .ref m12, .ref m13, .ref m14, .ref m15, .ref m16, .ref m17, .ref m18, .ref m19, .ref m20, .ref m21, .long 0, .int 0, .ref m24, .ref m25, .int 0, .ref m27, .ref m28, .int 0, .int 0, .int 0, .long 0, .long 0, .int 0, .long 0, .long 0, .ref m37, .ref m38, .int 0, .ref m40, .ref m41, .ref m42, .ref m43, .ref m44, .ref m45, .long 0, .long 0])), (m8, .inl (cI, 8, .inl (fun _ => 0))), (m9, .inl (cI, 8, .inl (fun _ => 0)))] H := hP
  have hD : va_D A [(mo, .inr (10, [.int p0, .int w1, .int w2, .ref m3, .ref m4, .ref m5, .ref m6, .ref m7, .ref m8, .ref m9, .int w3, .ref m11, .ref m12, .ref m13, .ref m14, .ref m15, .ref m16, .ref m17, .ref m18, .ref m19, .ref m20, .ref m21, .long 0, .int 0, .ref m24, .ref m25, .int 0, .ref m27, .ref m28, .int 0, .int 0, .int 0, .long 0, .long 0, .int 0, .long 0, .long 0, .ref m37, .ref m38, .int 0, .ref m40, .ref m41, .ref m42, .ref m43, .ref m44, .ref m45, .long 0, .long 0])), (m8, .inl (cI, 8, .inl (fun _ => 0))), (m9, .inl (cI, 8, .inl (fun _ => 0)))] := hD
  refine lv_aload_n hx hb dX10_begin_5 rfl (lv_at hl 0 rfl) ?_
  refine lv_iconst (v := 0) hx hb dX10_begin_6 (by decide) ?_
  refine va_put (D := (dC, dI)) (ci := 10) (v := .int 0) (ty := .int) (C := RX10) (T := TX10) (N := 48) hx hb hts (fun w h => List.mem_cons_of_mem _ (ic_X10 w h)) tyX10 tyX10_ok nmX10 hown hK hP hD hS 0 rfl rfl 1 (by decide) (hts _ (List.mem_cons_of_mem _ mw_352)) (fun _ h9 => h9) rfl (by decide +kernel) rfl rfl (Nat.le_of_ble_eq_true rfl) dX10_begin_7 (fun H locs hP hD hS => ?_)
  have hP : va_P (dC, dI) pf_cls [(mo, .inr (10, [.int p0, .int 0, .int w2, .ref m3, .ref m4, .ref m5, .ref m6, .ref m7, .ref m8, .ref m9, .int w3, .ref m11, .ref m12, .ref m13, .ref m14, .ref m15, .ref m16, .ref m17, .ref m18, .ref m19, .ref m20, .ref m21, .long 0, .int 0, .ref m24, .ref m25, .int 0, .ref m27, .ref m28, .int 0, .int 0, .int 0, .long 0, .long 0, .int 0, .long 0, .long 0, .ref m37, .ref m38, .int 0, .ref m40, .ref m41, .ref m42, .ref m43, .ref m44, .ref m45, .long 0, .long 0])), (m8, .inl (cI, 8, .inl (fun _ => 0))), (m9, .inl (cI, 8, .inl (fun _ => 0)))] H := hP
  have hD : va_D A [(mo, .inr (10, [.int p0, .int 0, .int w2, .ref m3, .ref m4, .ref m5, .ref m6, .ref m7, .ref m8, .ref m9, .int w3, .ref m11, .ref m12, .ref m13, .ref m14, .ref m15, .ref m16, .ref m17, .ref m18, .ref m19, .ref m20, .ref m21, .long 0, .int 0, .ref m24, .ref m25, .int 0, .ref m27, .ref m28, .int 0, .int 0, .int 0, .long 0, .long 0, .int 0, .long 0, .long 0, .ref m37, .ref m38, .int 0, .ref m40, .ref m41, .ref m42, .ref m43, .ref m44, .ref m45, .long 0, .long 0])), (m8, .inl (cI, 8, .inl (fun _ => 0))), (m9, .inl (cI, 8, .inl (fun _ => 0)))] := hD
  refine lv_aload_n hx hb dX10_begin_10 rfl (lv_at hl 0 rfl) ?_
  refine lv_iconst (v := 0) hx hb dX10_begin_11 (by decide) ?_
  refine va_put (D := (dC, dI)) (ci := 10) (v := .int 0) (ty := .int) (C := RX10) (T := TX10) (N := 48) hx hb hts (fun w h => List.mem_cons_of_mem _ (ic_X10 w h)) tyX10 tyX10_ok nmX10 hown hK hP hD hS 0 rfl rfl 2 (by decide) (hts _ (List.mem_cons_of_mem _ mw_353)) (fun _ h9 => h9) rfl (by decide +kernel) rfl rfl (Nat.le_of_ble_eq_true rfl) dX10_begin_12 (fun H locs hP hD hS => ?_)
  have hP : va_P (dC, dI) pf_cls [(mo, .inr (10, [.int p0, .int 0, .int 0, .ref m3, .ref m4, .ref m5, .ref m6, .ref m7, .ref m8, .ref m9, .int w3, .ref m11, .ref m12, .ref m13, .ref m14, .ref m15, .ref m16, .ref m17, .ref m18, .ref m19, .ref m20, .ref m21, .long 0, .int 0, .ref m24, .ref m25, .int 0, .ref m27, .ref m28, .int 0, .int 0, .int 0, .long 0, .long 0, .int 0, .long 0, .long 0, .ref m37, .ref m38, .int 0, .ref m40, .ref m41, .ref m42, .ref m43, .ref m44, .ref m45, .long 0, .long 0])), (m8, .inl (cI, 8, .inl (fun _ => 0))), (m9, .inl (cI, 8, .inl (fun _ => 0)))] H := hP
  have hD : va_D A [(mo, .inr (10, [.int p0, .int 0, .int 0, .ref m3, .ref m4, .ref m5, .ref m6, .ref m7, .ref m8, .ref m9, .int w3, .ref m11, .ref m12, .ref m13, .ref m14, .ref m15, .ref m16, .ref m17, .ref m18, .ref m19, .ref m20, .ref m21, .long 0, .int 0, .ref m24, .ref m25, .int 0, .ref m27, .ref m28, .int 0, .int 0, .int 0, .long 0, .long 0, .int 0, .long 0, .long 0, .ref m37, .ref m38, .int 0, .ref m40, .ref m41, .ref m42, .ref m43, .ref m44, .ref m45, .long 0, .long 0])), (m8, .inl (cI, 8, .inl (fun _ => 0))), (m9, .inl (cI, 8, .inl (fun _ => 0)))] := hD
  refine lv_iconst (v := 0) hx hb dX10_begin_15 (by decide) ?_
  refine lv_istore_n (lv' := [(2, .int 0), (0, .ref mo), (1, .int p0)]) hx hb dX10_begin_16 rfl hl (by decide) rfl (fun ls hl => ?_)
  refine lv_iload_n hx hb dX10_begin_17 rfl (lv_at hl 0 rfl) ?_
  refine lv_bipush (v := 8) hx hb dX10_begin_18 (by decide +kernel) ?_
  refine lv_icmp_ge (tgt := 43) hx hb dX10_begin_20 (by decide) (fun c0 => absurd c0 (by decide +kernel)) (fun _ => ?_)
  refine lv_aload_n hx hb dX10_begin_23 rfl (lv_at hl 1 rfl) ?_
  refine va_get (D := (dC, dI)) (ci := 10) (v := .ref m8) (C := RX10) (T := TX10) (N := 48) hx hb hts (fun w h => List.mem_cons_of_mem _ (ic_X10 w h)) hown hK hP 0 rfl rfl 8 (by decide) (hts _ (List.mem_cons_of_mem _ mw_354)) (fun _ h9 => h9) rfl dX10_begin_24 ?_
  refine lv_iload_n hx hb dX10_begin_27 rfl (lv_at hl 0 rfl) ?_
  refine lv_iconst (v := 0) hx hb dX10_begin_28 (by decide) ?_
  refine pf_iast hx hb hK hP hD hS 1 0 0 rfl rfl (by decide +kernel) (by decide +kernel) (by decide) dX10_begin_29 (fun H locs hP hD hS => ?_)
  have hP : va_P (dC, dI) pf_cls [(mo, .inr (10, [.int p0, .int 0, .int 0, .ref m3, .ref m4, .ref m5, .ref m6, .ref m7, .ref m8, .ref m9, .int w3, .ref m11, .ref m12, .ref m13, .ref m14, .ref m15, .ref m16, .ref m17, .ref m18, .ref m19, .ref m20, .ref m21, .long 0, .int 0, .ref m24, .ref m25, .int 0, .ref m27, .ref m28, .int 0, .int 0, .int 0, .long 0, .long 0, .int 0, .long 0, .long 0, .ref m37, .ref m38, .int 0, .ref m40, .ref m41, .ref m42, .ref m43, .ref m44, .ref m45, .long 0, .long 0])), (m8, .inl (cI, 8, .inl (upd (fun _ => 0) 0 0))), (m9, .inl (cI, 8, .inl (fun _ => 0)))] H := hP
  have hD : va_D A [(mo, .inr (10, [.int p0, .int 0, .int 0, .ref m3, .ref m4, .ref m5, .ref m6, .ref m7, .ref m8, .ref m9, .int w3, .ref m11, .ref m12, .ref m13, .ref m14, .ref m15, .ref m16, .ref m17, .ref m18, .ref m19, .ref m20, .ref m21, .long 0, .int 0, .ref m24, .ref m25, .int 0, .ref m27, .ref m28, .int 0, .int 0, .int 0, .long 0, .long 0, .int 0, .long 0, .long 0, .ref m37, .ref m38, .int 0, .ref m40, .ref m41, .ref m42, .ref m43, .ref m44, .ref m45, .long 0, .long 0])), (m8, .inl (cI, 8, .inl (upd (fun _ => 0) 0 0))), (m9, .inl (cI, 8, .inl (fun _ => 0)))] := hD
  rw [pf_upd0] at hP hD
  have hP : va_P (dC, dI) pf_cls [(mo, .inr (10, [.int p0, .int 0, .int 0, .ref m3, .ref m4, .ref m5, .ref m6, .ref m7, .ref m8, .ref m9, .int w3, .ref m11, .ref m12, .ref m13, .ref m14, .ref m15, .ref m16, .ref m17, .ref m18, .ref m19, .ref m20, .ref m21, .long 0, .int 0, .ref m24, .ref m25, .int 0, .ref m27, .ref m28, .int 0, .int 0, .int 0, .long 0, .long 0, .int 0, .long 0, .long 0, .ref m37, .ref m38, .int 0, .ref m40, .ref m41, .ref m42, .ref m43, .ref m44, .ref m45, .long 0, .long 0])), (m8, .inl (cI, 8, .inl (fun _ => 0))), (m9, .inl (cI, 8, .inl (fun _ => 0)))] H := hP
  have hD : va_D A [(mo, .inr (10, [.int p0, .int 0, .int 0, .ref m3, .ref m4, .ref m5, .ref m6, .ref m7, .ref m8, .ref m9, .int w3, .ref m11, .ref m12, .ref m13, .ref m14, .ref m15, .ref m16, .ref m17, .ref m18, .ref m19, .ref m20, .ref m21, .long 0, .int 0, .ref m24, .ref m25, .int 0, .ref m27, .ref m28, .int 0, .int 0, .int 0, .long 0, .long 0, .int 0, .long 0, .long 0, .ref m37, .ref m38, .int 0, .ref m40, .ref m41, .ref m42, .ref m43, .ref m44, .ref m45, .long 0, .long 0])), (m8, .inl (cI, 8, .inl (fun _ => 0))), (m9, .inl (cI, 8, .inl (fun _ => 0)))] := hD
  refine lv_aload_n hx hb dX10_begin_30 rfl (lv_at hl 1 rfl) ?_
  refine va_get (D := (dC, dI)) (ci := 10) (v := .ref m9) (C := RX10) (T := TX10) (N := 48) hx hb hts (fun w h => List.mem_cons_of_mem _ (ic_X10 w h)) hown hK hP 0 rfl rfl 9 (by decide) (hts _ (List.mem_cons_of_mem _ mw_355)) (fun _ h9 => h9) rfl dX10_begin_31 ?_
  refine lv_iload_n hx hb dX10_begin_34 rfl (lv_at hl 0 rfl) ?_
  refine lv_iconst (v := 0) hx hb dX10_begin_35 (by decide) ?_
  refine pf_iast hx hb hK hP hD hS 2 0 0 rfl rfl (by decide +kernel) (by decide +kernel) (by decide) dX10_begin_36 (fun H locs hP hD hS => ?_)
  have hP : va_P (dC, dI) pf_cls [(mo, .inr (10, [.int p0, .int 0, .int 0, .ref m3, .ref m4, .ref m5, .ref m6, .ref m7, .ref m8, .ref m9, .int w3, .ref m11, .ref m12, .ref m13, .ref m14, .ref m15, .ref m16, .ref m17, .ref m18, .ref m19, .ref m20, .ref m21, .long 0, .int 0, .ref m24, .ref m25, .int 0, .ref m27, .ref m28, .int 0, .int 0, .int 0, .long 0, .long 0, .int 0, .long 0, .long 0, .ref m37, .ref m38, .int 0, .ref m40, .ref m41, .ref m42, .ref m43, .ref m44, .ref m45, .long 0, .long 0])), (m8, .inl (cI, 8, .inl (fun _ => 0))), (m9, .inl (cI, 8, .inl (upd (fun _ => 0) 0 0)))] H := hP
  have hD : va_D A [(mo, .inr (10, [.int p0, .int 0, .int 0, .ref m3, .ref m4, .ref m5, .ref m6, .ref m7, .ref m8, .ref m9, .int w3, .ref m11, .ref m12, .ref m13, .ref m14, .ref m15, .ref m16, .ref m17, .ref m18, .ref m19, .ref m20, .ref m21, .long 0, .int 0, .ref m24, .ref m25, .int 0, .ref m27, .ref m28, .int 0, .int 0, .int 0, .long 0, .long 0, .int 0, .long 0, .long 0, .ref m37, .ref m38, .int 0, .ref m40, .ref m41, .ref m42, .ref m43, .ref m44, .ref m45, .long 0, .long 0])), (m8, .inl (cI, 8, .inl (fun _ => 0))), (m9, .inl (cI, 8, .inl (upd (fun _ => 0) 0 0)))] := hD
  rw [pf_upd0] at hP hD
  have hP : va_P (dC, dI) pf_cls [(mo, .inr (10, [.int p0, .int 0, .int 0, .ref m3, .ref m4, .ref m5, .ref m6, .ref m7, .ref m8, .ref m9, .int w3, .ref m11, .ref m12, .ref m13, .ref m14, .ref m15, .ref m16, .ref m17, .ref m18, .ref m19, .ref m20, .ref m21, .long 0, .int 0, .ref m24, .ref m25, .int 0, .ref m27, .ref m28, .int 0, .int 0, .int 0, .long 0, .long 0, .int 0, .long 0, .long 0, .ref m37, .ref m38, .int 0, .ref m40, .ref m41, .ref m42, .ref m43, .ref m44, .ref m45, .long 0, .long 0])), (m8, .inl (cI, 8, .inl (fun _ => 0))), (m9, .inl (cI, 8, .inl (fun _ => 0)))] H := hP
  have hD : va_D A [(mo, .inr (10, [.int p0, .int 0, .int 0, .ref m3, .ref m4, .ref m5, .ref m6, .ref m7, .ref m8, .ref m9, .int w3, .ref m11, .ref m12, .ref m13, .ref m14, .ref m15, .ref m16, .ref m17, .ref m18, .ref m19, .ref m20, .ref m21, .long 0, .int 0, .ref m24, .ref m25, .int 0, .ref m27, .ref m28, .int 0, .int 0, .int 0, .long 0, .long 0, .int 0, .long 0, .long 0, .ref m37, .ref m38, .int 0, .ref m40, .ref m41, .ref m42, .ref m43, .ref m44, .ref m45, .long 0, .long 0])), (m8, .inl (cI, 8, .inl (fun _ => 0))), (m9, .inl (cI, 8, .inl (fun _ => 0)))] := hD
  refine lv_iinc (v := 1) (lv' := [(2, .int 1), (0, .ref mo), (1, .int p0)]) hx hb dX10_begin_37 hl (k := 0) rfl (by decide +kernel) (by decide) rfl (fun ls hl => ?_)
  refine lv_goto (tgt := 17) hx hb dX10_begin_40 (by decide) ?_
  refine lv_iload_n hx hb dX10_begin_17 rfl (lv_at hl 0 rfl) ?_
  refine lv_bipush (v := 8) hx hb dX10_begin_18 (by decide +kernel) ?_
  refine lv_icmp_ge (tgt := 43) hx hb dX10_begin_20 (by decide) (fun c1 => absurd c1 (by decide +kernel)) (fun _ => ?_)
  refine lv_aload_n hx hb dX10_begin_23 rfl (lv_at hl 1 rfl) ?_
  refine va_get (D := (dC, dI)) (ci := 10) (v := .ref m8) (C := RX10) (T := TX10) (N := 48) hx hb hts (fun w h => List.mem_cons_of_mem _ (ic_X10 w h)) hown hK hP 0 rfl rfl 8 (by decide) (hts _ (List.mem_cons_of_mem _ mw_354)) (fun _ h9 => h9) rfl dX10_begin_24 ?_
  refine lv_iload_n hx hb dX10_begin_27 rfl (lv_at hl 0 rfl) ?_
  refine lv_iconst (v := 0) hx hb dX10_begin_28 (by decide) ?_
  refine pf_iast hx hb hK hP hD hS 1 0 1 rfl rfl (by decide +kernel) (by decide +kernel) (by decide) dX10_begin_29 (fun H locs hP hD hS => ?_)
  have hP : va_P (dC, dI) pf_cls [(mo, .inr (10, [.int p0, .int 0, .int 0, .ref m3, .ref m4, .ref m5, .ref m6, .ref m7, .ref m8, .ref m9, .int w3, .ref m11, .ref m12, .ref m13, .ref m14, .ref m15, .ref m16, .ref m17, .ref m18, .ref m19, .ref m20, .ref m21, .long 0, .int 0, .ref m24, .ref m25, .int 0, .ref m27, .ref m28, .int 0, .int 0, .int 0, .long 0, .long 0, .int 0, .long 0, .long 0, .ref m37, .ref m38, .int 0, .ref m40, .ref m41, .ref m42, .ref m43, .ref m44, .ref m45, .long 0, .long 0])), (m8, .inl (cI, 8, .inl (upd (fun _ => 0) 1 0))), (m9, .inl (cI, 8, .inl (fun _ => 0)))] H := hP
  have hD : va_D A [(mo, .inr (10, [.int p0, .int 0, .int 0, .ref m3, .ref m4, .ref m5, .ref m6, .ref m7, .ref m8, .ref m9, .int w3, .ref m11, .ref m12, .ref m13, .ref m14, .ref m15, .ref m16, .ref m17, .ref m18, .ref m19, .ref m20, .ref m21, .long 0, .int 0, .ref m24, .ref m25, .int 0, .ref m27, .ref m28, .int 0, .int 0, .int 0, .long 0, .long 0, .int 0, .long 0, .long 0, .ref m37, .ref m38, .int 0, .ref m40, .ref m41, .ref m42, .ref m43, .ref m44, .ref m45, .long 0, .long 0])), (m8, .inl (cI, 8, .inl (upd (fun _ => 0) 1 0))), (m9, .inl (cI, 8, .inl (fun _ => 0)))] := hD
  rw [pf_upd0] at hP hD
  have hP : va_P (dC, dI) pf_cls [(mo, .inr (10, [.int p0, .int 0, .int 0, .ref m3, .ref m4, .ref m5, .ref m6, .ref m7, .ref m8, .ref m9, .int w3, .ref m11, .ref m12, .ref m13, .ref m14, .ref m15, .ref m16, .ref m17, .ref m18, .ref m19, .ref m20, .ref m21, .long 0, .int 0, .ref m24, .ref m25, .int 0, .ref m27, .ref m28, .int 0, .int 0, .int 0, .long 0, .long 0, .int 0, .long 0, .long 0, .ref m37, .ref m38, .int 0, .ref m40, .ref m41, .ref m42, .ref m43, .ref m44, .ref m45, .long 0, .long 0])), (m8, .inl (cI, 8, .inl (fun _ => 0))), (m9, .inl (cI, 8, .inl (fun _ => 0)))] H := hP
  have hD : va_D A [(mo, .inr (10, [.int p0, .int 0, .int 0, .ref m3, .ref m4, .ref m5, .ref m6, .ref m7, .ref m8, .ref m9, .int w3, .ref m11, .ref m12, .ref m13, .ref m14, .ref m15, .ref m16, .ref m17, .ref m18, .ref m19, .ref m20, .ref m21, .long 0, .int 0, .ref m24, .ref m25, .int 0, .ref m27, .ref m28, .int 0, .int 0, .int 0, .long 0, .long 0, .int 0, .long 0, .long 0, .ref m37, .ref m38, .int 0, .ref m40, .ref m41, .ref m42, .ref m43, .ref m44, .ref m45, .long 0, .long 0])), (m8, .inl (cI, 8, .inl (fun _ => 0))), (m9, .inl (cI, 8, .inl (fun _ => 0)))] := hD
  refine lv_aload_n hx hb dX10_begin_30 rfl (lv_at hl 1 rfl) ?_
  refine va_get (D := (dC, dI)) (ci := 10) (v := .ref m9) (C := RX10) (T := TX10) (N := 48) hx hb hts (fun w h => List.mem_cons_of_mem _ (ic_X10 w h)) hown hK hP 0 rfl rfl 9 (by decide) (hts _ (List.mem_cons_of_mem _ mw_355)) (fun _ h9 => h9) rfl dX10_begin_31 ?_
  refine lv_iload_n hx hb dX10_begin_34 rfl (lv_at hl 0 rfl) ?_
  refine lv_iconst (v := 0) hx hb dX10_begin_35 (by decide) ?_
  refine pf_iast hx hb hK hP hD hS 2 0 1 rfl rfl (by decide +kernel) (by decide +kernel) (by decide) dX10_begin_36 (fun H locs hP hD hS => ?_)
  have hP : va_P (dC, dI) pf_cls [(mo, .inr (10, [.int p0, .int 0, .int 0, .ref m3, .ref m4, .ref m5, .ref m6, .ref m7, .ref m8, .ref m9, .int w3, .ref m11, .ref m12, .ref m13, .ref m14, .ref m15, .ref m16, .ref m17, .ref m18, .ref m19, .ref m20, .ref m21, .long 0, .int 0, .ref m24, .ref m25, .int 0, .ref m27, .ref m28, .int 0, .int 0, .int 0, .long 0, .long 0, .int 0, .long 0, .long 0, .ref m37, .ref m38, .int 0, .ref m40, .ref m41, .ref m42, .ref m43, .ref m44, .ref m45, .long 0, .long 0])), (m8, .inl (cI, 8, .inl (fun _ => 0))), (m9, .inl (cI, 8, .inl (upd (fun _ => 0) 1 0)))] H := hP
  have hD : va_D A [(mo, .inr (10, [.int p0, .int 0, .int 0, .ref m3, .ref m4, .ref m5, .ref m6, .ref m7, .ref m8, .ref m9, .int w3, .ref m11, .ref m12, .ref m13, .ref m14, .ref m15, .ref m16, .ref m17, .ref m18, .ref m19, .ref m20, .ref m21, .long 0, .int 0, .ref m24, .ref m25, .int 0, .ref m27, .ref m28, .int 0, .int 0, .int 0, .long 0, .long 0, .int 0, .long 0, .long 0, .ref m37, .ref m38, .int 0, .ref m40, .ref m41, .ref m42, .ref m43, .ref m44, .ref m45, .long 0, .long 0])), (m8, .inl (cI, 8, .inl (fun _ => 0))), (m9, .inl (cI, 8, .inl (upd (fun _ => 0) 1 0)))] := hD
  rw [pf_upd0] at hP hD
  have hP : va_P (dC, dI) pf_cls [(mo, .inr (10, [.int p0, .int 0, .int 0, .ref m3, .ref m4, .ref m5, .ref m6, .ref m7, .ref m8, .ref m9, .int w3, .ref m11, .ref m12, .ref m13, .ref m14, .ref m15, .ref m16, .ref m17, .ref m18, .ref m19, .ref m20, .ref m21, .long 0, .int 0, .ref m24, .ref m25, .int 0, .ref m27, .ref m28, .int 0, .int 0, .int 0, .long 0, .long 0, .int 0, .long 0, .long 0, .ref m37, .ref m38, .int 0, .ref m40, .ref m41, .ref m42, .ref m43, .ref m44, .ref m45, .long 0, .long 0])), (m8, .inl (cI, 8, .inl (fun _ => 0))), (m9, .inl (cI, 8, .inl (fun _ => 0)))] H := hP
  have hD : va_D A [(mo, .inr (10, [.int p0, .int 0, .int 0, .ref m3, .ref m4, .ref m5, .ref m6, .ref m7, .ref m8, .ref m9, .int w3, .ref m11, .ref m12, .ref m13, .ref m14, .ref m15, .ref m16, .ref m17, .ref m18, .ref m19, .ref m20, .ref m21, .long 0, .int 0, .ref m24, .ref m25, .int 0, .ref m27, .ref m28, .int 0, .int 0, .int 0, .long 0, .long 0, .int 0, .long 0, .long 0, .ref m37, .ref m38, .int 0, .ref m40, .ref m41, .ref m42, .ref m43, .ref m44, .ref m45, .long 0, .long 0])), (m8, .inl (cI, 8, .inl (fun _ => 0))), (m9, .inl (cI, 8, .inl (fun _ => 0)))] := hD
  refine lv_iinc (v := 2) (lv' := [(2, .int 2), (0, .ref mo), (1, .int p0)]) hx hb dX10_begin_37 hl (k := 0) rfl (by decide +kernel) (by decide) rfl (fun ls hl => ?_)
  refine lv_goto (tgt := 17) hx hb dX10_begin_40 (by decide) ?_
  refine lv_iload_n hx hb dX10_begin_17 rfl (lv_at hl 0 rfl) ?_
  refine lv_bipush (v := 8) hx hb dX10_begin_18 (by decide +kernel) ?_
  refine lv_icmp_ge (tgt := 43) hx hb dX10_begin_20 (by decide) (fun c2 => absurd c2 (by decide +kernel)) (fun _ => ?_)
  refine lv_aload_n hx hb dX10_begin_23 rfl (lv_at hl 1 rfl) ?_
  refine va_get (D := (dC, dI)) (ci := 10) (v := .ref m8) (C := RX10) (T := TX10) (N := 48) hx hb hts (fun w h => List.mem_cons_of_mem _ (ic_X10 w h)) hown hK hP 0 rfl rfl 8 (by decide) (hts _ (List.mem_cons_of_mem _ mw_354)) (fun _ h9 => h9) rfl dX10_begin_24 ?_
  refine lv_iload_n hx hb dX10_begin_27 rfl (lv_at hl 0 rfl) ?_
  refine lv_iconst (v := 0) hx hb dX10_begin_28 (by decide) ?_
  refine pf_iast hx hb hK hP hD hS 1 0 2 rfl rfl (by decide +kernel) (by decide +kernel) (by decide) dX10_begin_29 (fun H locs hP hD hS => ?_)
  have hP : va_P (dC, dI) pf_cls [(mo, .inr (10, [.int p0, .int 0, .int 0, .ref m3, .ref m4, .ref m5, .ref m6, .ref m7, .ref m8, .ref m9, .int w3, .ref m11, .ref m12, .ref m13, .ref m14, .ref m15, .ref m16, .ref m17, .ref m18, .ref m19, .ref m20, .ref m21, .long 0, .int 0, .ref m24, .ref m25, .int 0, .ref m27, .ref m28, .int 0, .int 0, .int 0, .long 0, .long 0, .int 0, .long 0, .long 0, .ref m37, .ref m38, .int 0, .ref m40, .ref m41, .ref m42, .ref m43, .ref m44, .ref m45, .long 0, .long 0])), (m8, .inl (cI, 8, .inl (upd (fun _ => 0) 2 0))), (m9, .inl (cI, 8, .inl (fun _ => 0)))] H := hP
  have hD : va_D A [(mo, .inr (10, [.int p0, .int 0, .int 0, .ref m3, .ref m4, .ref m5, .ref m6, .ref m7, .ref m8, .ref m9, .int w3, .ref m11, .ref m12, .ref m13, .ref m14, .ref m15, .ref m16, .ref m17, .ref m18, .ref m19, .ref m20, .ref m21, .long 0, .int 0, .ref m24, .ref m25, .int 0, .ref m27, .ref m28, .int 0, .int 0, .int 0, .long 0, .long 0, .int 0, .long 0, .long 0, .ref m37, .ref m38, .int 0, .ref m40, .ref m41, .ref m42, .ref m43, .ref m44, .ref m45, .long 0, .long 0])), (m8, .inl (cI, 8, .inl (upd (fun _ => 0) 2 0))), (m9, .inl (cI, 8, .inl (fun _ => 0)))] := hD
  rw [pf_upd0] at hP hD
  have hP : va_P (dC, dI) pf_cls [(mo, .inr (10, [.int p0, .int 0, .int 0, .ref m3, .ref m4, .ref m5, .ref m6, .ref m7, .ref m8, .ref m9, .int w3, .ref m11, .ref m12, .ref m13, .ref m14, .ref m15, .ref m16, .ref m17, .ref m18, .ref m19, .ref m20, .ref m21, .long 0, .int 0, .ref m24, .ref m25, .int 0, .ref m27, .ref m28, .int 0, .int 0, .int 0, .long 0, .long 0, .int 0, .long 0, .long 0, .ref m37, .ref m38, .int 0, .ref m40, .ref m41, .ref m42, .ref m43, .ref m44, .ref m45, .long 0, .long 0])), (m8, .inl (cI, 8, .inl (fun _ => 0))), (m9, .inl (cI, 8, .inl (fun _ => 0)))] H := hP
  have hD : va_D A [(mo, .inr (10, [.int p0, .int 0, .int 0, .ref m3, .ref m4, .ref m5, .ref m6, .ref m7, .ref m8, .ref m9, .int w3, .ref m11, .ref m12, .ref m13, .ref m14, .ref m15, .ref m16, .ref m17, .ref m18, .ref m19, .ref m20, .ref m21, .long 0, .int 0, .ref m24, .ref m25, .int 0, .ref m27, .ref m28, .int 0, .int 0, .int 0, .long 0, .long 0, .int 0, .long 0, .long 0, .ref m37, .ref m38, .int 0, .ref m40, .ref m41, .ref m42, .ref m43, .ref m44, .ref m45, .long 0, .long 0])), (m8, .inl (cI, 8, .inl (fun _ => 0))), (m9, .inl (cI, 8, .inl (fun _ => 0)))] := hD
  refine lv_aload_n hx hb dX10_begin_30 rfl (lv_at hl 1 rfl) ?_
  refine va_get (D := (dC, dI)) (ci := 10) (v := .ref m9) (C := RX10) (T := TX10) (N := 48) hx hb hts (fun w h => List.mem_cons_of_mem _ (ic_X10 w h)) hown hK hP 0 rfl rfl 9 (by decide) (hts _ (List.mem_cons_of_mem _ mw_355)) (fun _ h9 => h9) rfl dX10_begin_31 ?_
  refine lv_iload_n hx hb dX10_begin_34 rfl (lv_at hl 0 rfl) ?_
  refine lv_iconst (v := 0) hx hb dX10_begin_35 (by decide) ?_
  refine pf_iast hx hb hK hP hD hS 2 0 2 rfl rfl (by decide +kernel) (by decide +kernel) (by decide) dX10_begin_36 (fun H locs hP hD hS => ?_)
  have hP : va_P (dC, dI) pf_cls [(mo, .inr (10, [.int p0, .int 0, .int 0, .ref m3, .ref m4, .ref m5, .ref m6, .ref m7, .ref m8, .ref m9, .int w3, .ref m11, .ref m12, .ref m13, .ref m14, .ref m15, .ref m16, .ref m17, .ref m18, .ref m19, .ref m20, .ref m21, .long 0, .int 0, .ref m24, .ref m25, .int 0, .ref m27, .ref m28, .int 0, .int 0, .int 0, .long 0, .long 0, .int 0, .long 0, .long 0, .ref m37, .ref m38, .int 0, .ref m40, .ref m41, .ref m42, .ref m43, .ref m44, .ref m45, .long 0, .long 0])), (m8, .inl (cI, 8, .inl (fun _ => 0))), (m9, .inl (cI, 8, .inl (upd (fun _ => 0) 2 0)))] H := hP
  have hD : va_D A [(mo, .inr (10, [.int p0, .int 0, .int 0, .ref m3, .ref m4, .ref m5, .ref m6, .ref m7, .ref m8, .ref m9, .int w3, .ref m11, .ref m12, .ref m13, .ref m14, .ref m15, .ref m16, .ref m17, .ref m18, .ref m19, .ref m20, .ref m21, .long 0, .int 0, .ref m24, .ref m25, .int 0, .ref m27, .ref m28, .int 0, .int 0, .int 0, .long 0, .long 0, .int 0, .long 0, .long 0, .ref m37, .ref m38, .int 0, .ref m40, .ref m41, .ref m42, .ref m43, .ref m44, .ref m45, .long 0, .long 0])), (m8, .inl (cI, 8, .inl (fun _ => 0))), (m9, .inl (cI, 8, .inl (upd (fun _ => 0) 2 0)))] := hD
  rw [pf_upd0] at hP hD
  have hP : va_P (dC, dI) pf_cls [(mo, .inr (10, [.int p0, .int 0, .int 0, .ref m3, .ref m4, .ref m5, .ref m6, .ref m7, .ref m8, .ref m9, .int w3, .ref m11, .ref m12, .ref m13, .ref m14, .ref m15, .ref m16, .ref m17, .ref m18, .ref m19, .ref m20, .ref m21, .long 0, .int 0, .ref m24, .ref m25, .int 0, .ref m27, .ref m28, .int 0, .int 0, .int 0, .long 0, .long 0, .int 0, .long 0, .long 0, .ref m37, .ref m38, .int 0, .ref m40, .ref m41, .ref m42, .ref m43, .ref m44, .ref m45, .long 0, .long 0])), (m8, .inl (cI, 8, .inl (fun _ => 0))), (m9, .inl (cI, 8, .inl (fun _ => 0)))] H := hP
  have hD : va_D A [(mo, .inr (10, [.int p0, .int 0, .int 0, .ref m3, .ref m4, .ref m5, .ref m6, .ref m7, .ref m8, .ref m9, .int w3, .ref m11, .ref m12, .ref m13, .ref m14, .ref m15, .ref m16, .ref m17, .ref m18, .ref m19, .ref m20, .ref m21, .long 0, .int 0, .ref m24, .ref m25, .int 0, .ref m27, .ref m28, .int 0, .int 0, .int 0, .long 0, .long 0, .int 0, .long 0, .long 0, .ref m37, .ref m38, .int 0, .ref m40, .ref m41, .ref m42, .ref m43, .ref m44, .ref m45, .long 0, .long 0])), (m8, .inl (cI, 8, .inl (fun _ => 0))), (m9, .inl (cI, 8, .inl (fun _ => 0)))] := hD
  refine lv_iinc (v := 3) (lv' := [(2, .int 3), (0, .ref mo), (1, .int p0)]) hx hb dX10_begin_37 hl (k := 0) rfl (by decide +kernel) (by decide) rfl (fun ls hl => ?_)
  refine lv_goto (tgt := 17) hx hb dX10_begin_40 (by decide) ?_
  refine lv_iload_n hx hb dX10_begin_17 rfl (lv_at hl 0 rfl) ?_
  refine lv_bipush (v := 8) hx hb dX10_begin_18 (by decide +kernel) ?_
  refine lv_icmp_ge (tgt := 43) hx hb dX10_begin_20 (by decide) (fun c3 => absurd c3 (by decide +kernel)) (fun _ => ?_)
  refine lv_aload_n hx hb dX10_begin_23 rfl (lv_at hl 1 rfl) ?_
  refine va_get (D := (dC, dI)) (ci := 10) (v := .ref m8) (C := RX10) (T := TX10) (N := 48) hx hb hts (fun w h => List.mem_cons_of_mem _ (ic_X10 w h)) hown hK hP 0 rfl rfl 8 (by decide) (hts _ (List.mem_cons_of_mem _ mw_354)) (fun _ h9 => h9) rfl dX10_begin_24 ?_
  refine lv_iload_n hx hb dX10_begin_27 rfl (lv_at hl 0 rfl) ?_
  refine lv_iconst (v := 0) hx hb dX10_begin_28 (by decide) ?_
  refine pf_iast hx hb hK hP hD hS 1 0 3 rfl rfl (by decide +kernel) (by decide +kernel) (by decide) dX10_begin_29 (fun H locs hP hD hS => ?_)
  have hP : va_P (dC, dI) pf_cls [(mo, .inr (10, [.int p0, .int 0, .int 0, .ref m3, .ref m4, .ref m5, .ref m6, .ref m7, .ref m8, .ref m9, .int w3, .ref m11, .ref m12, .ref m13, .ref m14, .ref m15, .ref m16, .ref m17, .ref m18, .ref m19, .ref m20, .ref m21, .long 0, .int 0, .ref m24, .ref m25, .int 0, .ref m27, .ref m28, .int 0, .int 0, .int 0, .long 0, .long 0, .int 0, .long 0, .long 0, .ref m37, .ref m38, .int 0, .ref m40, .ref m41, .ref m42, .ref m43, .ref m44, .ref m45, .long 0, .long 0])), (m8, .inl (cI, 8, .inl (upd (fun _ => 0) 3 0))), (m9, .inl (cI, 8, .inl (fun _ => 0)))] H := hP
  have hD : va_D A [(mo, .inr (10, [.int p0, .int 0, .int 0, .ref m3, .ref m4, .ref m5, .ref m6, .ref m7, .ref m8, .ref m9, .int w3, .ref m11, .ref m12, .ref m13, .ref m14, .ref m15, .ref m16, .ref m17, .ref m18, .ref m19, .ref m20, .ref m21, .long 0, .int 0, .ref m24, .ref m25, .int 0, .ref m27, .ref m28, .int 0, .int 0, .int 0, .long 0, .long 0, .int 0, .long 0, .long 0, .ref m37, .ref m38, .int 0, .ref m40, .ref m41, .ref m42, .ref m43, .ref m44, .ref m45, .long 0, .long 0])), (m8, .inl (cI, 8, .inl (upd (fun _ => 0) 3 0))), (m9, .inl (cI, 8, .inl (fun _ => 0)))] := hD
  rw [pf_upd0] at hP hD
  have hP : va_P (dC, dI) pf_cls [(mo, .inr (10, [.int p0, .int 0, .int 0, .ref m3, .ref m4, .ref m5, .ref m6, .ref m7, .ref m8, .ref m9, .int w3, .ref m11, .ref m12, .ref m13, .ref m14, .ref m15, .ref m16, .ref m17, .ref m18, .ref m19, .ref m20, .ref m21, .long 0, .int 0, .ref m24, .ref m25, .int 0, .ref m27, .ref m28, .int 0, .int 0, .int 0, .long 0, .long 0, .int 0, .long 0, .long 0, .ref m37, .ref m38, .int 0, .ref m40, .ref m41, .ref m42, .ref m43, .ref m44, .ref m45, .long 0, .long 0])), (m8, .inl (cI, 8, .inl (fun _ => 0))), (m9, .inl (cI, 8, .inl (fun _ => 0)))] H := hP
  have hD : va_D A [(mo, .inr (10, [.int p0, .int 0, .int 0, .ref m3, .ref m4, .ref m5, .ref m6, .ref m7, .ref m8, .ref m9, .int w3, .ref m11, .ref m12, .ref m13, .ref m14, .ref m15, .ref m16, .ref m17, .ref m18, .ref m19, .ref m20, .ref m21, .long 0, .int 0, .ref m24, .ref m25, .int 0, .ref m27, .ref m28, .int 0, .int 0, .int 0, .long 0, .long 0, .int 0, .long 0, .long 0, .ref m37, .ref m38, .int 0, .ref m40, .ref m41, .ref m42, .ref m43, .ref m44, .ref m45, .long 0, .long 0])), (m8, .inl (cI, 8, .inl (fun _ => 0))), (m9, .inl (cI, 8, .inl (fun _ => 0)))] := hD
  refine lv_aload_n hx hb dX10_begin_30 rfl (lv_at hl 1 rfl) ?_
  refine va_get (D := (dC, dI)) (ci := 10) (v := .ref m9) (C := RX10) (T := TX10) (N := 48) hx hb hts (fun w h => List.mem_cons_of_mem _ (ic_X10 w h)) hown hK hP 0 rfl rfl 9 (by decide) (hts _ (List.mem_cons_of_mem _ mw_355)) (fun _ h9 => h9) rfl dX10_begin_31 ?_
  refine lv_iload_n hx hb dX10_begin_34 rfl (lv_at hl 0 rfl) ?_
  refine lv_iconst (v := 0) hx hb dX10_begin_35 (by decide) ?_
  refine pf_iast hx hb hK hP hD hS 2 0 3 rfl rfl (by decide +kernel) (by decide +kernel) (by decide) dX10_begin_36 (fun H locs hP hD hS => ?_)
  have hP : va_P (dC, dI) pf_cls [(mo, .inr (10, [.int p0, .int 0, .int 0, .ref m3, .ref m4, .ref m5, .ref m6, .ref m7, .ref m8, .ref m9, .int w3, .ref m11, .ref m12, .ref m13, .ref m14, .ref m15, .ref m16, .ref m17, .ref m18, .ref m19, .ref m20, .ref m21, .long 0, .int 0, .ref m24, .ref m25, .int 0, .ref m27, .ref m28, .int 0, .int 0, .int 0, .long 0, .long 0, .int 0, .long 0, .long 0, .ref m37, .ref m38, .int 0, .ref m40, .ref m41, .ref m42, .ref m43, .ref m44, .ref m45, .long 0, .long 0])), (m8, .inl (cI, 8, .inl (fun _ => 0))), (m9, .inl (cI, 8, .inl (upd (fun _ => 0) 3 0)))] H := hP
  have hD : va_D A [(mo, .inr (10, [.int p0, .int 0, .int 0, .ref m3, .ref m4, .ref m5, .ref m6, .ref m7, .ref m8, .ref m9, .int w3, .ref m11, .ref m12, .ref m13, .ref m14, .ref m15, .ref m16, .ref m17, .ref m18, .ref m19, .ref m20, .ref m21, .long 0, .int 0, .ref m24, .ref m25, .int 0, .ref m27, .ref m28, .int 0, .int 0, .int 0, .long 0, .long 0, .int 0, .long 0, .long 0, .ref m37, .ref m38, .int 0, .ref m40, .ref m41, .ref m42, .ref m43, .ref m44, .ref m45, .long 0, .long 0])), (m8, .inl (cI, 8, .inl (fun _ => 0))), (m9, .inl (cI, 8, .inl (upd (fun _ => 0) 3 0)))] := hD
  rw [pf_upd0] at hP hD
  have hP : va_P (dC, dI) pf_cls [(mo, .inr (10, [.int p0, .int 0, .int 0, .ref m3, .ref m4, .ref m5, .ref m6, .ref m7, .ref m8, .ref m9, .int w3, .ref m11, .ref m12, .ref m13, .ref m14, .ref m15, .ref m16, .ref m17, .ref m18, .ref m19, .ref m20, .ref m21, .long 0, .int 0, .ref m24, .ref m25, .int 0, .ref m27, .ref m28, .int 0, .int 0, .int 0, .long 0, .long 0, .int 0, .long 0, .long 0, .ref m37, .ref m38, .int 0, .ref m40, .ref m41, .ref m42, .ref m43, .ref m44, .ref m45, .long 0, .long 0])), (m8, .inl (cI, 8, .inl (fun _ => 0))), (m9, .inl (cI, 8, .inl (fun _ => 0)))] H := hP
  have hD : va_D A [(mo, .inr (10, [.int p0, .int 0, .int 0, .ref m3, .ref m4, .ref m5, .ref m6, .ref m7, .ref m8, .ref m9, .int w3, .ref m11, .ref m12, .ref m13, .ref m14, .ref m15, .ref m16, .ref m17, .ref m18, .ref m19, .ref m20, .ref m21, .long 0, .int 0, .ref m24, .ref m25, .int 0, .ref m27, .ref m28, .int 0, .int 0, .int 0, .long 0, .long 0, .int 0, .long 0, .long 0, .ref m37, .ref m38, .int 0, .ref m40, .ref m41, .ref m42, .ref m43, .ref m44, .ref m45, .long 0, .long 0])), (m8, .inl (cI, 8, .inl (fun _ => 0))), (m9, .inl (cI, 8, .inl (fun _ => 0)))] := hD
  refine lv_iinc (v := 4) (lv' := [(2, .int 4), (0, .ref mo), (1, .int p0)]) hx hb dX10_begin_37 hl (k := 0) rfl (by decide +kernel) (by decide) rfl (fun ls hl => ?_)
  refine lv_goto (tgt := 17) hx hb dX10_begin_40 (by decide) ?_
  refine lv_iload_n hx hb dX10_begin_17 rfl (lv_at hl 0 rfl) ?_
  refine lv_bipush (v := 8) hx hb dX10_begin_18 (by decide +kernel) ?_
  refine lv_icmp_ge (tgt := 43) hx hb dX10_begin_20 (by decide) (fun c4 => absurd c4 (by decide +kernel)) (fun _ => ?_)
  refine lv_aload_n hx hb dX10_begin_23 rfl (lv_at hl 1 rfl) ?_
  refine va_get (D := (dC, dI)) (ci := 10) (v := .ref m8) (C := RX10) (T := TX10) (N := 48) hx hb hts (fun w h => List.mem_cons_of_mem _ (ic_X10 w h)) hown hK hP 0 rfl rfl 8 (by decide) (hts _ (List.mem_cons_of_mem _ mw_354)) (fun _ h9 => h9) rfl dX10_begin_24 ?_
  refine lv_iload_n hx hb dX10_begin_27 rfl (lv_at hl 0 rfl) ?_
  refine lv_iconst (v := 0) hx hb dX10_begin_28 (by decide) ?_
  refine pf_iast hx hb hK hP hD hS 1 0 4 rfl rfl (by decide +kernel) (by decide +kernel) (by decide) dX10_begin_29 (fun H locs hP hD hS => ?_)
  have hP : va_P (dC, dI) pf_cls [(mo, .inr (10, [.int p0, .int 0, .int 0, .ref m3, .ref m4, .ref m5, .ref m6, .ref m7, .ref m8, .ref m9, .int w3, .ref m11, .ref m12, .ref m13, .ref m14, .ref m15, .ref m16, .ref m17, .ref m18, .ref m19, .ref m20, .ref m21, .long 0, .int 0, .ref m24, .ref m25, .int 0, .ref m27, .ref m28, .int 0, .int 0, .int 0, .long 0, .long 0, .int 0, .long 0, .long 0, .ref m37, .ref m38, .int 0, .ref m40, .ref m41, .ref m42, .ref m43, .ref m44, .ref m45, .long 0, .long 0])), (m8, .inl (cI, 8, .inl (upd (fun _ => 0) 4 0))), (m9, .inl (cI, 8, .inl (fun _ => 0)))] H := hP
  have hD : va_D A [(mo, .inr (10, [.int p0, .int 0, .int 0, .ref m3, .ref m4, .ref m5, .ref m6, .ref m7, .ref m8, .ref m9, .int w3, .ref m11, .ref m12, .ref m13, .ref m14, .ref m15, .ref m16, .ref m17, .ref m18, .ref m19, .ref m20, .ref m21, .long 0, .int 0, .ref m24, .ref m25, .int 0, .ref m27, .ref m28, .int 0, .int 0, .int 0, .long 0, .long 0, .int 0, .long 0, .long 0, .ref m37, .ref m38, .int 0, .ref m40, .ref m41, .ref m42, .ref m43, .ref m44, .ref m45, .long 0, .long 0])), (m8, .inl (cI, 8, .inl (upd (fun _ => 0) 4 0))), (m9, .inl (cI, 8, .inl (fun _ => 0)))] := hD
  rw [pf_upd0] at hP hD
  have hP : va_P (dC, dI) pf_cls [(mo, .inr (10, [.int p0, .int 0, .int 0, .ref m3, .ref m4, .ref m5, .ref m6, .ref m7, .ref m8, .ref m9, .int w3, .ref m11, .ref m12, .ref m13, .ref m14, .ref m15, .ref m16, .ref m17, .ref m18, .ref m19, .ref m20, .ref m21, .long 0, .int 0, .ref m24, .ref m25, .int 0, .ref m27, .ref m28, .int 0, .int 0, .int 0, .long 0, .long 0, .int 0, .long 0, .long 0, .ref m37, .ref m38, .int 0, .ref m40, .ref m41, .ref m42, .ref m43, .ref m44, .ref m45, .long 0, .long 0])), (m8, .inl (cI, 8, .inl (fun _ => 0))), (m9, .inl (cI, 8, .inl (fun _ => 0)))] H := hP
  have hD : va_D A [(mo, .inr (10, [.int p0, .int 0, .int 0, .ref m3, .ref m4, .ref m5, .ref m6, .ref m7, .ref m8, .ref m9, .int w3, .ref m11, .ref m12, .ref m13, .ref m14, .ref m15, .ref m16, .ref m17, .ref m18, .ref m19, .ref m20, .ref m21, .long 0, .int 0, .ref m24, .ref m25, .int 0, .ref m27, .ref m28, .int 0, .int 0, .int 0, .long 0, .long 0, .int 0, .long 0, .long 0, .ref m37, .ref m38, .int 0, .ref m40, .ref m41, .ref m42, .ref m43, .ref m44, .ref m45, .long 0, .long 0])), (m8, .inl (cI, 8, .inl (fun _ => 0))), (m9, .inl (cI, 8, .inl (fun _ => 0)))] := hD
  refine lv_aload_n hx hb dX10_begin_30 rfl (lv_at hl 1 rfl) ?_
  refine va_get (D := (dC, dI)) (ci := 10) (v := .ref m9) (C := RX10) (T := TX10) (N := 48) hx hb hts (fun w h => List.mem_cons_of_mem _ (ic_X10 w h)) hown hK hP 0 rfl rfl 9 (by decide) (hts _ (List.mem_cons_of_mem _ mw_355)) (fun _ h9 => h9) rfl dX10_begin_31 ?_
  refine lv_iload_n hx hb dX10_begin_34 rfl (lv_at hl 0 rfl) ?_
  refine lv_iconst (v := 0) hx hb dX10_begin_35 (by decide) ?_
  refine pf_iast hx hb hK hP hD hS 2 0 4 rfl rfl (by decide +kernel) (by decide +kernel) (by decide) dX10_begin_36 (fun H locs hP hD hS => ?_)
  have hP : va_P (dC, dI) pf_cls [(mo, .inr (10, [.int p0, .int 0, .int 0, .ref m3, .ref m4, .ref m5, .ref m6, .ref m7, .ref m8, .ref m9, .int w3, .ref m11, .ref m12, .ref m13, .ref m14, .ref m15, .ref m16, .ref m17, .ref m18, .ref m19, .ref m20, .ref m21, .long 0, .int 0, .ref m24, .ref m25, .int 0, .ref m27, .ref m28, .int 0, .int 0, .int 0, .long 0, .long 0, .int 0, .long 0, .long 0, .ref m37, .ref m38, .int 0, .ref m40, .ref m41, .ref m42, .ref m43, .ref m44, .ref m45, .long 0, .long 0])), (m8, .inl (cI, 8, .inl (fun _ => 0))), (m9, .inl (cI, 8, .inl (upd (fun _ => 0) 4 0)))] H := hP
  have hD : va_D A [(mo, .inr (10, [.int p0, .int 0, .int 0, .ref m3, .ref m4, .ref m5, .ref m6, .ref m7, .ref m8, .ref m9, .int w3, .ref m11, .ref m12, .ref m13, .ref m14, .ref m15, .ref m16, .ref m17, .ref m18, .ref m19, .ref m20, .ref m21, .long 0, .int 0, .ref m24, .ref m25, .int 0, .ref m27, .ref m28, .int 0, .int 0, .int 0, .long 0, .long 0, .int 0, .long 0, .long 0, .ref m37, .ref m38, .int 0, .ref m40, .ref m41, .ref m42, .ref m43, .ref m44, .ref m45, .long 0, .long 0])), (m8, .inl (cI, 8, .inl (fun _ => 0))), (m9, .inl (cI, 8, .inl (upd (fun _ => 0) 4 0)))] := hD
  rw [pf_upd0] at hP hD
  have hP : va_P (dC, dI) pf_cls [(mo, .inr (10, [.int p0, .int 0, .int 0, .ref m3, .ref m4, .ref m5, .ref m6, .ref m7, .ref m8, .ref m9, .int w3, .ref m11, .ref m12, .ref m13, .ref m14, .ref m15, .ref m16, .ref m17, .ref m18, .ref m19, .ref m20, .ref m21, .long 0, .int 0, .ref m24, .ref m25, .int 0, .ref m27, .ref m28, .int 0, .int 0, .int 0, .long 0, .long 0, .int 0, .long 0, .long 0, .ref m37, .ref m38, .int 0, .ref m40, .ref m41, .ref m42, .ref m43, .ref m44, .ref m45, .long 0, .long 0])), (m8, .inl (cI, 8, .inl (fun _ => 0))), (m9, .inl (cI, 8, .inl (fun _ => 0)))] H := hP
  have hD : va_D A [(mo, .inr (10, [.int p0, .int 0, .int 0, .ref m3, .ref m4, .ref m5, .ref m6, .ref m7, .ref m8, .ref m9, .int w3, .ref m11, .ref m12, .ref m13, .ref m14, .ref m15, .ref m16, .ref m17, .ref m18, .ref m19, .ref m20, .ref m21, .long 0, .int 0, .ref m24, .ref m25, .int 0, .ref m27, .ref m28, .int 0, .int 0, .int 0, .long 0, .long 0, .int 0, .long 0, .long 0, .ref m37, .ref m38, .int 0, .ref m40, .ref m41, .ref m42, .ref m43, .ref m44, .ref m45, .long 0, .long 0])), (m8, .inl (cI, 8, .inl (fun _ => 0))), (m9, .inl (cI, 8, .inl (fun _ => 0)))] := hD
  refine lv_iinc (v := 5) (lv' := [(2, .int 5), (0, .ref mo), (1, .int p0)]) hx hb dX10_begin_37 hl (k := 0) rfl (by decide +kernel) (by decide) rfl (fun ls hl => ?_)
  refine lv_goto (tgt := 17) hx hb dX10_begin_40 (by decide) ?_
  refine lv_iload_n hx hb dX10_begin_17 rfl (lv_at hl 0 rfl) ?_
  refine lv_bipush (v := 8) hx hb dX10_begin_18 (by decide +kernel) ?_
  refine lv_icmp_ge (tgt := 43) hx hb dX10_begin_20 (by decide) (fun c5 => absurd c5 (by decide +kernel)) (fun _ => ?_)
  refine lv_aload_n hx hb dX10_begin_23 rfl (lv_at hl 1 rfl) ?_
  refine va_get (D := (dC, dI)) (ci := 10) (v := .ref m8) (C := RX10) (T := TX10) (N := 48) hx hb hts (fun w h => List.mem_cons_of_mem _ (ic_X10 w h)) hown hK hP 0 rfl rfl 8 (by decide) (hts _ (List.mem_cons_of_mem _ mw_354)) (fun _ h9 => h9) rfl dX10_begin_24 ?_
  refine lv_iload_n hx hb dX10_begin_27 rfl (lv_at hl 0 rfl) ?_
  refine lv_iconst (v := 0) hx hb dX10_begin_28 (by decide) ?_
  refine pf_iast hx hb hK hP hD hS 1 0 5 rfl rfl (by decide +kernel) (by decide +kernel) (by decide) dX10_begin_29 (fun H locs hP hD hS => ?_)
  have hP : va_P (dC, dI) pf_cls [(mo, .inr (10, [.int p0, .int 0, .int 0, .ref m3, .ref m4, .ref m5, .ref m6, .ref m7, .ref m8, .ref m9, .int w3, .ref m11, .ref m12, .ref m13, .ref m14, .ref m15, .ref m16, .ref m17, .ref m18, .ref m19, .ref m20, .ref m21, .long 0, .int 0, .ref m24, .ref m25, .int 0, .ref m27, .ref m28, .int 0, .int 0, .int 0, .long 0, .long 0, .int 0, .long 0, .long 0, .ref m37, .ref m38, .int 0, .ref m40, .ref m41, .ref m42, .ref m43, .ref m44, .ref m45, .long 0, .long 0])), (m8, .inl (cI, 8, .inl (upd (fun _ => 0) 5 0))), (m9, .inl (cI, 8, .inl (fun _ => 0)))] H := hP
  have hD : va_D A [(mo, .inr (10, [.int p0, .int 0, .int 0, .ref m3, .ref m4, .ref m5, .ref m6, .ref m7, .ref m8, .ref m9, .int w3, .ref m11, .ref m12, .ref m13, .ref m14, .ref m15, .ref m16, .ref m17, .ref m18, .ref m19, .ref m20, .ref m21, .long 0, .int 0, .ref m24, .ref m25, .int 0, .ref m27, .ref m28, .int 0, .int 0, .int 0, .long 0, .long 0, .int 0, .long 0, .long 0, .ref m37, .ref m38, .int 0, .ref m40, .ref m41, .ref m42, .ref m43, .ref m44, .ref m45, .long 0, .long 0])), (m8, .inl (cI, 8, .inl (upd (fun _ => 0) 5 0))), (m9, .inl (cI, 8, .inl (fun _ => 0)))] := hD
  rw [pf_upd0] at hP hD
  have hP : va_P (dC, dI) pf_cls [(mo, .inr (10, [.int p0, .int 0, .int 0, .ref m3, .ref m4, .ref m5, .ref m6, .ref m7, .ref m8, .ref m9, .int w3, .ref m11, .ref m12, .ref m13, .ref m14, .ref m15, .ref m16, .ref m17, .ref m18, .ref m19, .ref m20, .ref m21, .long 0, .int 0, .ref m24, .ref m25, .int 0, .ref m27, .ref m28, .int 0, .int 0, .int 0, .long 0, .long 0, .int 0, .long 0, .long 0, .ref m37, .ref m38, .int 0, .ref m40, .ref m41, .ref m42, .ref m43, .ref m44, .ref m45, .long 0, .long 0])), (m8, .inl (cI, 8, .inl (fun _ => 0))), (m9, .inl (cI, 8, .inl (fun _ => 0)))] H := hP
  have hD : va_D A [(mo, .inr (10, [.int p0, .int 0, .int 0, .ref m3, .ref m4, .ref m5, .ref m6, .ref m7, .ref m8, .ref m9, .int w3, .ref m11, .ref m12, .ref m13, .ref m14, .ref m15, .ref m16, .ref m17, .ref m18, .ref m19, .ref m20, .ref m21, .long 0, .int 0, .ref m24, .ref m25, .int 0, .ref m27, .ref m28, .int 0, .int 0, .int 0, .long 0, .long 0, .int 0, .long 0, .long 0, .ref m37, .ref m38, .int 0, .ref m40, .ref m41, .ref m42, .ref m43, .ref m44, .ref m45, .long 0, .long 0])), (m8, .inl (cI, 8, .inl (fun _ => 0))), (m9, .inl (cI, 8, .inl (fun _ => 0)))] := hD
  refine lv_aload_n hx hb dX10_begin_30 rfl (lv_at hl 1 rfl) ?_
  refine va_get (D := (dC, dI)) (ci := 10) (v := .ref m9) (C := RX10) (T := TX10) (N := 48) hx hb hts (fun w h => List.mem_cons_of_mem _ (ic_X10 w h)) hown hK hP 0 rfl rfl 9 (by decide) (hts _ (List.mem_cons_of_mem _ mw_355)) (fun _ h9 => h9) rfl dX10_begin_31 ?_
  refine lv_iload_n hx hb dX10_begin_34 rfl (lv_at hl 0 rfl) ?_
  refine lv_iconst (v := 0) hx hb dX10_begin_35 (by decide) ?_
  refine pf_iast hx hb hK hP hD hS 2 0 5 rfl rfl (by decide +kernel) (by decide +kernel) (by decide) dX10_begin_36 (fun H locs hP hD hS => ?_)
  have hP : va_P (dC, dI) pf_cls [(mo, .inr (10, [.int p0, .int 0, .int 0, .ref m3, .ref m4, .ref m5, .ref m6, .ref m7, .ref m8, .ref m9, .int w3, .ref m11, .ref m12, .ref m13, .ref m14, .ref m15, .ref m16, .ref m17, .ref m18, .ref m19, .ref m20, .ref m21, .long 0, .int 0, .ref m24, .ref m25, .int 0, .ref m27, .ref m28, .int 0, .int 0, .int 0, .long 0, .long 0, .int 0, .long 0, .long 0, .ref m37, .ref m38, .int 0, .ref m40, .ref m41, .ref m42, .ref m43, .ref m44, .ref m45, .long 0, .long 0])), (m8, .inl (cI, 8, .inl (fun _ => 0))), (m9, .inl (cI, 8, .inl (upd (fun _ => 0) 5 0)))] H := hP
  have hD : va_D A [(mo, .inr (10, [.int p0, .int 0, .int 0, .ref m3, .ref m4, .ref m5, .ref m6, .ref m7, .ref m8, .ref m9, .int w3, .ref m11, .ref m12, .ref m13, .ref m14, .ref m15, .ref m16, .ref m17, .ref m18, .ref m19, .ref m20, .ref m21, .long 0, .int 0, .ref m24, .ref m25, .int 0, .ref m27, .ref m28, .int 0, .int 0, .int 0, .long 0, .long 0, .int 0, .long 0, .long 0, .ref m37, .ref m38, .int 0, .ref m40, .ref m41, .ref m42, .ref m43, .ref m44, .ref m45, .long 0, .long 0])), (m8, .inl (cI, 8, .inl (fun _ => 0))), (m9, .inl (cI, 8, .inl (upd (fun _ => 0) 5 0)))] := hD
  rw [pf_upd0] at hP hD
  have hP : va_P (dC, dI) pf_cls [(mo, .inr (10, [.int p0, .int 0, .int 0, .ref m3, .ref m4, .ref m5, .ref m6, .ref m7, .ref m8, .ref m9, .int w3, .ref m11, .ref m12, .ref m13, .ref m14, .ref m15, .ref m16, .ref m17, .ref m18, .ref m19, .ref m20, .ref m21, .long 0, .int 0, .ref m24, .ref m25, .int 0, .ref m27, .ref m28, .int 0, .int 0, .int 0, .long 0, .long 0, .int 0, .long 0, .long 0, .ref m37, .ref m38, .int 0, .ref m40, .ref m41, .ref m42, .ref m43, .ref m44, .ref m45, .long 0, .long 0])), (m8, .inl (cI, 8, .inl (fun _ => 0))), (m9, .inl (cI, 8, .inl (fun _ => 0)))] H := hP
  have hD : va_D A [(mo, .inr (10, [.int p0, .int 0, .int 0, .ref m3, .ref m4, .ref m5, .ref m6, .ref m7, .ref m8, .ref m9, .int w3, .ref m11, .ref m12, .ref m13, .ref m14, .ref m15, .ref m16, .ref m17, .ref m18, .ref m19, .ref m20, .ref m21, .long 0, .int 0, .ref m24, .ref m25, .int 0, .ref m27, .ref m28, .int 0, .int 0, .int 0, .long 0, .long 0, .int 0, .long 0, .long 0, .ref m37, .ref m38, .int 0, .ref m40, .ref m41, .ref m42, .ref m43, .ref m44, .ref m45, .long 0, .long 0])), (m8, .inl (cI, 8, .inl (fun _ => 0))), (m9, .inl (cI, 8, .inl (fun _ => 0)))] := hD
  refine lv_iinc (v := 6) (lv' := [(2, .int 6), (0, .ref mo), (1, .int p0)]) hx hb dX10_begin_37 hl (k := 0) rfl (by decide +kernel) (by decide) rfl (fun ls hl => ?_)
  refine lv_goto (tgt := 17) hx hb dX10_begin_40 (by decide) ?_
  refine lv_iload_n hx hb dX10_begin_17 rfl (lv_at hl 0 rfl) ?_
  refine lv_bipush (v := 8) hx hb dX10_begin_18 (by decide +kernel) ?_
  refine lv_icmp_ge (tgt := 43) hx hb dX10_begin_20 (by decide) (fun c6 => absurd c6 (by decide +kernel)) (fun _ => ?_)
  refine lv_aload_n hx hb dX10_begin_23 rfl (lv_at hl 1 rfl) ?_
  refine va_get (D := (dC, dI)) (ci := 10) (v := .ref m8) (C := RX10) (T := TX10) (N := 48) hx hb hts (fun w h => List.mem_cons_of_mem _ (ic_X10 w h)) hown hK hP 0 rfl rfl 8 (by decide) (hts _ (List.mem_cons_of_mem _ mw_354)) (fun _ h9 => h9) rfl dX10_begin_24 ?_
  refine lv_iload_n hx hb dX10_begin_27 rfl (lv_at hl 0 rfl) ?_
  refine lv_iconst (v := 0) hx hb dX10_begin_28 (by decide) ?_
  refine pf_iast hx hb hK hP hD hS 1 0 6 rfl rfl (by decide +kernel) (by decide +kernel) (by decide) dX10_begin_29 (fun H locs hP hD hS => ?_)
  have hP : va_P (dC, dI) pf_cls [(mo, .inr (10, [.int p0, .int 0, .int 0, .ref m3, .ref m4, .ref m5, .ref m6, .ref m7, .ref m8, .ref m9, .int w3, .ref m11, .ref m12, .ref m13, .ref m14, .ref m15, .ref m16, .ref m17, .ref m18, .ref m19, .ref m20, .ref m21, .long 0, .int 0, .ref m24, .ref m25, .int 0, .ref m27, .ref m28, .int 0, .int 0, .int 0, .long 0, .long 0, .int 0, .long 0, .long 0, .ref m37, .ref m38, .int 0, .ref m40, .ref m41, .ref m42, .ref m43, .ref m44, .ref m45, .long 0, .long 0])), (m8, .inl (cI, 8, .inl (upd (fun _ => 0) 6 0))), (m9, .inl (cI, 8, .inl (fun _ => 0)))] H := hP
  have hD : va_D A [(mo, .inr (10, [.int p0, .int 0, .int 0, .ref m3, .ref m4, .ref m5, .ref m6, .ref m7, .ref m8, .ref m9, .int w3, .ref m11, .ref m12, .ref m13, .ref m14, .ref m15, .ref m16, .ref m17, .ref m18, .ref m19, .ref m20, .ref m21, .long 0, .int 0, .ref m24, .ref m25, .int 0, .ref m27, .ref m28, .int 0, .int 0, .int 0, .long 0, .long 0, .int 0, .long 0, .long 0, .ref m37, .ref m38, .int 0, .ref m40, .ref m41, .ref m42, .ref m43, .ref m44, .ref m45, .long 0, .long 0])), (m8, .inl (cI, 8, .inl (upd (fun _ => 0) 6 0))), (m9, .inl (cI, 8, .inl (fun _ => 0)))] := hD
  rw [pf_upd0] at hP hD
  have hP : va_P (dC, dI) pf_cls [(mo, .inr (10, [.int p0, .int 0, .int 0, .ref m3, .ref m4, .ref m5, .ref m6, .ref m7, .ref m8, .ref m9, .int w3, .ref m11, .ref m12, .ref m13, .ref m14, .ref m15, .ref m16, .ref m17, .ref m18, .ref m19, .ref m20, .ref m21, .long 0, .int 0, .ref m24, .ref m25, .int 0, .ref m27, .ref m28, .int 0, .int 0, .int 0, .long 0, .long 0, .int 0, .long 0, .long 0, .ref m37, .ref m38, .int 0, .ref m40, .ref m41, .ref m42, .ref m43, .ref m44, .ref m45, .long 0, .long 0])), (m8, .inl (cI, 8, .inl (fun _ => 0))), (m9, .inl (cI, 8, .inl (fun _ => 0)))] H := hP
  have hD : va_D A [(mo, .inr (10, [.int p0, .int 0, .int 0, .ref m3, .ref m4, .ref m5, .ref m6, .ref m7, .ref m8, .ref m9, .int w3, .ref m11, .ref m12, .ref m13, .ref m14, .ref m15, .ref m16, .ref m17, .ref m18, .ref m19, .ref m20, .ref m21, .long 0, .int 0, .ref m24, .ref m25, .int 0, .ref m27, .ref m28, .int 0, .int 0, .int 0, .long 0, .long 0, .int 0, .long 0, .long 0, .ref m37, .ref m38, .int 0, .ref m40, .ref m41, .ref m42, .ref m43, .ref m44, .ref m45, .long 0, .long 0])), (m8, .inl (cI, 8, .inl (fun _ => 0))), (m9, .inl (cI, 8, .inl (fun _ => 0)))] := hD
  refine lv_aload_n hx hb dX10_begin_30 rfl (lv_at hl 1 rfl) ?_
  refine va_get (D := (dC, dI)) (ci := 10) (v := .ref m9) (C := RX10) (T := TX10) (N := 48) hx hb hts (fun w h => List.mem_cons_of_mem _ (ic_X10 w h)) hown hK hP 0 rfl rfl 9 (by decide) (hts _ (List.mem_cons_of_mem _ mw_355)) (fun _ h9 => h9) rfl dX10_begin_31 ?_
  refine lv_iload_n hx hb dX10_begin_34 rfl (lv_at hl 0 rfl) ?_
  refine lv_iconst (v := 0) hx hb dX10_begin_35 (by decide) ?_
  refine pf_iast hx hb hK hP hD hS 2 0 6 rfl rfl (by decide +kernel) (by decide +kernel) (by decide) dX10_begin_36 (fun H locs hP hD hS => ?_)
  have hP : va_P (dC, dI) pf_cls [(mo, .inr (10, [.int p0, .int 0, .int 0, .ref m3, .ref m4, .ref m5, .ref m6, .ref m7, .ref m8, .ref m9, .int w3, .ref m11, .ref m12, .ref m13, .ref m14, .ref m15, .ref m16, .ref m17, .ref m18, .ref m19, .ref m20, .ref m21, .long 0, .int 0, .ref m24, .ref m25, .int 0, .ref m27, .ref m28, .int 0, .int 0, .int 0, .long 0, .long 0, .int 0, .long 0, .long 0, .ref m37, .ref m38, .int 0, .ref m40, .ref m41, .ref m42, .ref m43, .ref m44, .ref m45, .long 0, .long 0])), (m8, .inl (cI, 8, .inl (fun _ => 0))), (m9, .inl (cI, 8, .inl (upd (fun _ => 0) 6 0)))] H := hP
  have hD : va_D A [(mo, .inr (10, [.int p0, .int 0, .int 0, .ref m3, .ref m4, .ref m5, .ref m6, .ref m7, .ref m8, .ref m9, .int w3, .ref m11, .ref m12, .ref m13, .ref m14, .ref m15, .ref m16, .ref m17, .ref m18, .ref m19, .ref m20, .ref m21, .long 0, .int 0, .ref m24, .ref m25, .int 0, .ref m27, .ref m28, .int 0, .int 0, .int 0, .long 0, .long 0, .int 0, .long 0, .long 0, .ref m37, .ref m38, .int 0, .ref m40, .ref m41, .ref m42, .ref m43, .ref m44, .ref m45, .long 0, .long 0])), (m8, .inl (cI, 8, .inl (fun _ => 0))), (m9, .inl (cI, 8, .inl (upd (fun _ => 0) 6 0)))] := hD
  rw [pf_upd0] at hP hD
  have hP : va_P (dC, dI) pf_cls [(mo, .inr (10, [.int p0, .int 0, .int 0, .ref m3, .ref m4, .ref m5, .ref m6, .ref m7, .ref m8, .ref m9, .int w3, .ref m11, .ref m12, .ref m13, .ref m14, .ref m15, .ref m16, .ref m17, .ref m18, .ref m19, .ref m20, .ref m21, .long 0, .int 0, .ref m24, .ref m25, .int 0, .ref m27, .ref m28, .int 0, .int 0, .int 0, .long 0, .long 0, .int 0, .long 0, .long 0, .ref m37, .ref m38, .int 0, .ref m40, .ref m41, .ref m42, .ref m43, .ref m44, .ref m45, .long 0, .long 0])), (m8, .inl (cI, 8, .inl (fun _ => 0))), (m9, .inl (cI, 8, .inl (fun _ => 0)))] H := hP
  have hD : va_D A [(mo, .inr (10, [.int p0, .int 0, .int 0, .ref m3, .ref m4, .ref m5, .ref m6, .ref m7, .ref m8, .ref m9, .int w3, .ref m11, .ref m12, .ref m13, .ref m14, .ref m15, .ref m16, .ref m17, .ref m18, .ref m19, .ref m20, .ref m21, .long 0, .int 0, .ref m24, .ref m25, .int 0, .ref m27, .ref m28, .int 0, .int 0, .int 0, .long 0, .long 0, .int 0, .long 0, .long 0, .ref m37, .ref m38, .int 0, .ref m40, .ref m41, .ref m42, .ref m43, .ref m44, .ref m45, .long 0, .long 0])), (m8, .inl (cI, 8, .inl (fun _ => 0))), (m9, .inl (cI, 8, .inl (fun _ => 0)))] := hD
  refine lv_iinc (v := 7) (lv' := [(2, .int 7), (0, .ref mo), (1, .int p0)]) hx hb dX10_begin_37 hl (k := 0) rfl (by decide +kernel) (by decide) rfl (fun ls hl => ?_)
  refine lv_goto (tgt := 17) hx hb dX10_begin_40 (by decide) ?_
  refine lv_iload_n hx hb dX10_begin_17 rfl (lv_at hl 0 rfl) ?_
  refine lv_bipush (v := 8) hx hb dX10_begin_18 (by decide +kernel) ?_
  refine lv_icmp_ge (tgt := 43) hx hb dX10_begin_20 (by decide) (fun c7 => absurd c7 (by decide +kernel)) (fun _ => ?_)
  refine lv_aload_n hx hb dX10_begin_23 rfl (lv_at hl 1 rfl) ?_
  refine va_get (D := (dC, dI)) (ci := 10) (v := .ref m8) (C := RX10) (T := TX10) (N := 48) hx hb hts (fun w h => List.mem_cons_of_mem _ (ic_X10 w h)) hown hK hP 0 rfl rfl 8 (by decide) (hts _ (List.mem_cons_of_mem _ mw_354)) (fun _ h9 => h9) rfl dX10_begin_24 ?_
  refine lv_iload_n hx hb dX10_begin_27 rfl (lv_at hl 0 rfl) ?_
  refine lv_iconst (v := 0) hx hb dX10_begin_28 (by decide) ?_
  refine pf_iast hx hb hK hP hD hS 1 0 7 rfl rfl (by decide +kernel) (by decide +kernel) (by decide) dX10_begin_29 (fun H locs hP hD hS => ?_)
  have hP : va_P (dC, dI) pf_cls [(mo, .inr (10, [.int p0, .int 0, .int 0, .ref m3, .ref m4, .ref m5, .ref m6, .ref m7, .ref m8, .ref m9, .int w3, .ref m11, .ref m12, .ref m13, .ref m14, .ref m15, .ref m16, .ref m17, .ref m18, .ref m19, .ref m20, .ref m21, .long 0, .int 0, .ref m24, .ref m25, .int 0, .ref m27, .ref m28, .int 0, .int 0, .int 0, .long 0, .long 0, .int 0, .long 0, .long 0, .ref m37, .ref m38, .int 0, .ref m40, .ref m41, .ref m42, .ref m43, .ref m44, .ref m45, .long 0, .long 0])), (m8, .inl (cI, 8, .inl (upd (fun _ => 0) 7 0))), (m9, .inl (cI, 8, .inl (fun _ => 0)))] H := hP
  have hD : va_D A [(mo, .inr (10, [.int p0, .int 0, .int 0, .ref m3, .ref m4, .ref m5, .ref m6, .ref m7, .ref m8, .ref m9, .int w3, .ref m11, .ref m12, .ref m13, .ref m14, .ref m15, .ref m16, .ref m17, .ref m18, .ref m19, .ref m20, .ref m21, .long 0, .int 0, .ref m24, .ref m25, .int 0, .ref m27, .ref m28, .int 0, .int 0, .int 0, .long 0, .long 0, .int 0, .long 0, .long 0, .ref m37, .ref m38, .int 0, .ref m40, .ref m41, .ref m42, .ref m43, .ref m44, .ref m45, .long 0, .long 0])), (m8, .inl (cI, 8, .inl (upd (fun _ => 0) 7 0))), (m9, .inl (cI, 8, .inl (fun _ => 0)))] := hD
  rw [pf_upd0] at hP hD
  have hP : va_P (dC, dI) pf_cls [(mo, .inr (10, [.int p0, .int 0, .int 0, .ref m3, .ref m4, .ref m5, .ref m6, .ref m7, .ref m8, .ref m9, .int w3, .ref m11, .ref m12, .ref m13, .ref m14, .ref m15, .ref m16, .ref m17, .ref m18, .ref m19, .ref m20, .ref m21, .long 0, .int 0, .ref m24, .ref m25, .int 0, .ref m27, .ref m28, .int 0, .int 0, .int 0, .long 0, .long 0, .int 0, .long 0, .long 0, .ref m37, .ref m38, .int 0, .ref m40, .ref m41, .ref m42, .ref m43, .ref m44, .ref m45, .long 0, .long 0])), (m8, .inl (cI, 8, .inl (fun _ => 0))), (m9, .inl (cI, 8, .inl (fun _ => 0)))] H := hP
  have hD : va_D A [(mo, .inr (10, [.int p0, .int 0, .int 0, .ref m3, .ref m4, .ref m5, .ref m6, .ref m7, .ref m8, .ref m9, .int w3, .ref m11, .ref m12, .ref m13, .ref m14, .ref m15, .ref m16, .ref m17, .ref m18, .ref m19, .ref m20, .ref m21, .long 0, .int 0, .ref m24, .ref m25, .int 0, .ref m27, .ref m28, .int 0, .int 0, .int 0, .long 0, .long 0, .int 0, .long 0, .long 0, .ref m37, .ref m38, .int 0, .ref m40, .ref m41, .ref m42, .ref m43, .ref m44, .ref m45, .long 0, .long 0])), (m8, .inl (cI, 8, .inl (fun _ => 0))), (m9, .inl (cI, 8, .inl (fun _ => 0)))] := hD
  refine lv_aload_n hx hb dX10_begin_30 rfl (lv_at hl 1 rfl) ?_
  refine va_get (D := (dC, dI)) (ci := 10) (v := .ref m9) (C := RX10) (T := TX10) (N := 48) hx hb hts (fun w h => List.mem_cons_of_mem _ (ic_X10 w h)) hown hK hP 0 rfl rfl 9 (by decide) (hts _ (List.mem_cons_of_mem _ mw_355)) (fun _ h9 => h9) rfl dX10_begin_31 ?_
  refine lv_iload_n hx hb dX10_begin_34 rfl (lv_at hl 0 rfl) ?_
  refine lv_iconst (v := 0) hx hb dX10_begin_35 (by decide) ?_
  refine pf_iast hx hb hK hP hD hS 2 0 7 rfl rfl (by decide +kernel) (by decide +kernel) (by decide) dX10_begin_36 (fun H locs hP hD hS => ?_)
  have hP : va_P (dC, dI) pf_cls [(mo, .inr (10, [.int p0, .int 0, .int 0, .ref m3, .ref m4, .ref m5, .ref m6, .ref m7, .ref m8, .ref m9, .int w3, .ref m11, .ref m12, .ref m13, .ref m14, .ref m15, .ref m16, .ref m17, .ref m18, .ref m19, .ref m20, .ref m21, .long 0, .int 0, .ref m24, .ref m25, .int 0, .ref m27, .ref m28, .int 0, .int 0, .int 0, .long 0, .long 0, .int 0, .long 0, .long 0, .ref m37, .ref m38, .int 0, .ref m40, .ref m41, .ref m42, .ref m43, .ref m44, .ref m45, .long 0, .long 0])), (m8, .inl (cI, 8, .inl (fun _ => 0))), (m9, .inl (cI, 8, .inl (upd (fun _ => 0) 7 0)))] H := hP
  have hD : va_D A [(mo, .inr (10, [.int p0, .int 0, .int 0, .ref m3, .ref m4, .ref m5, .ref m6, .ref m7, .ref m8, .ref m9, .int w3, .ref m11, .ref m12, .ref m13, .ref m14, .ref m15, .ref m16, .ref m17, .ref m18, .ref m19, .ref m20, .ref m21, .long 0, .int 0, .ref m24, .ref m25, .int 0, .ref m27, .ref m28, .int 0, .int 0, .int 0, .long 0, .long 0, .int 0, .long 0, .long 0, .ref m37, .ref m38, .int 0, .ref m40, .ref m41, .ref m42, .ref m43, .ref m44, .ref m45, .long 0, .long 0])), (m8, .inl (cI, 8, .inl (fun _ => 0))), (m9, .inl (cI, 8, .inl (upd (fun _ => 0) 7 0)))] := hD
  rw [pf_upd0] at hP hD
  have hP : va_P (dC, dI) pf_cls [(mo, .inr (10, [.int p0, .int 0, .int 0, .ref m3, .ref m4, .ref m5, .ref m6, .ref m7, .ref m8, .ref m9, .int w3, .ref m11, .ref m12, .ref m13, .ref m14, .ref m15, .ref m16, .ref m17, .ref m18, .ref m19, .ref m20, .ref m21, .long 0, .int 0, .ref m24, .ref m25, .int 0, .ref m27, .ref m28, .int 0, .int 0, .int 0, .long 0, .long 0, .int 0, .long 0, .long 0, .ref m37, .ref m38, .int 0, .ref m40, .ref m41, .ref m42, .ref m43, .ref m44, .ref m45, .long 0, .long 0])), (m8, .inl (cI, 8, .inl (fun _ => 0))), (m9, .inl (cI, 8, .inl (fun _ => 0)))] H := hP
  have hD : va_D A [(mo, .inr (10, [.int p0, .int 0, .int 0, .ref m3, .ref m4, .ref m5, .ref m6, .ref m7, .ref m8, .ref m9, .int w3, .ref m11, .ref m12, .ref m13, .ref m14, .ref m15, .ref m16, .ref m17, .ref m18, .ref m19, .ref m20, .ref m21, .long 0, .int 0, .ref m24, .ref m25, .int 0, .ref m27, .ref m28, .int 0, .int 0, .int 0, .long 0, .long 0, .int 0, .long 0, .long 0, .ref m37, .ref m38, .int 0, .ref m40, .ref m41, .ref m42, .ref m43, .ref m44, .ref m45, .long 0, .long 0])), (m8, .inl (cI, 8, .inl (fun _ => 0))), (m9, .inl (cI, 8, .inl (fun _ => 0)))] := hD
  refine lv_iinc (v := 8) (lv' := [(2, .int 8), (0, .ref mo), (1, .int p0)]) hx hb dX10_begin_37 hl (k := 0) rfl (by decide +kernel) (by decide) rfl (fun ls hl => ?_)
  refine lv_goto (tgt := 17) hx hb dX10_begin_40 (by decide) ?_
  refine lv_iload_n hx hb dX10_begin_17 rfl (lv_at hl 0 rfl) ?_
  refine lv_bipush (v := 8) hx hb dX10_begin_18 (by decide +kernel) ?_
  refine lv_icmp_ge (tgt := 43) hx hb dX10_begin_20 (by decide) (fun _ => ?_) (fun c8 => absurd (by decide +kernel) c8)
  refine lv_aload_n hx hb dX10_begin_43 rfl (lv_at hl 1 rfl) ?_
  refine lv_iconst (v := 0) hx hb dX10_begin_44 (by decide) ?_
  refine va_put (D := (dC, dI)) (ci := 10) (v := .int 0) (ty := .boolean) (C := RX10) (T := TX10) (N := 48) hx hb hts (fun w h => List.mem_cons_of_mem _ (ic_X10 w h)) tyX10 tyX10_ok nmX10 hown hK hP hD hS 0 rfl rfl 10 (by decide) (hts _ (List.mem_cons_of_mem _ mw_356)) (fun _ h9 => h9) rfl (by decide +kernel) rfl rfl (Nat.le_of_ble_eq_true rfl) dX10_begin_45 (fun H locs hP hD hS => ?_)
  have hP : va_P (dC, dI) pf_cls [(mo, .inr (10, [.int p0, .int 0, .int 0, .ref m3, .ref m4, .ref m5, .ref m6, .ref m7, .ref m8, .ref m9, .int 0, .ref m11, .ref m12, .ref m13, .ref m14, .ref m15, .ref m16, .ref m17, .ref m18, .ref m19, .ref m20, .ref m21, .long 0, .int 0, .ref m24, .ref m25, .int 0, .ref m27, .ref m28, .int 0, .int 0, .int 0, .long 0, .long 0, .int 0, .long 0, .long 0, .ref m37, .ref m38, .int 0, .ref m40, .ref m41, .ref m42, .ref m43, .ref m44, .ref m45, .long 0, .long 0])), (m8, .inl (cI, 8, .inl (fun _ => 0))), (m9, .inl (cI, 8, .inl (fun _ => 0)))] H := hP
  have hD : va_D A [(mo, .inr (10, [.int p0, .int 0, .int 0, .ref m3, .ref m4, .ref m5, .ref m6, .ref m7, .ref m8, .ref m9, .int 0, .ref m11, .ref m12, .ref m13, .ref m14, .ref m15, .ref m16, .ref m17, .ref m18, .ref m19, .ref m20, .ref m21, .long 0, .int 0, .ref m24, .ref m25, .int 0, .ref m27, .ref m28, .int 0, .int 0, .int 0, .long 0, .long 0, .int 0, .long 0, .long 0, .ref m37, .ref m38, .int 0, .ref m40, .ref m41, .ref m42, .ref m43, .ref m44, .ref m45, .long 0, .long 0])), (m8, .inl (cI, 8, .inl (fun _ => 0))), (m9, .inl (cI, 8, .inl (fun _ => 0)))] := hD
  have hP9 := hP.sub (ws' := [(mo, .inr (10, [.int p0, .int 0, .int 0, .ref m3, .ref m4, .ref m5, .ref m6, .ref m7, .ref m8, .ref m9, .int 0, .ref m11, .ref m12, .ref m13, .ref m14, .ref m15, .ref m16, .ref m17, .ref m18, .ref m19, .ref m20, .ref m21, .long 0, .int 0, .ref m24, .ref m25, .int 0, .ref m27, .ref m28, .int 0, .int 0, .int 0, .long 0, .long 0, .int 0, .long 0, .long 0, .ref m37, .ref m38, .int 0, .ref m40, .ref m41, .ref m42, .ref m43, .ref m44, .ref m45, .long 0, .long 0])), (m8, .inl (cI, 8, .inl (fun _ => 0))), (m9, .inl (cI, 8, .inl (fun _ => 0)))]) [0, 1, 2] rfl
  have hD9 := hD.sub (ws' := [(mo, .inr (10, [.int p0, .int 0, .int 0, .ref m3, .ref m4, .ref m5, .ref m6, .ref m7, .ref m8, .ref m9, .int 0, .ref m11, .ref m12, .ref m13, .ref m14, .ref m15, .ref m16, .ref m17, .ref m18, .ref m19, .ref m20, .ref m21, .long 0, .int 0, .ref m24, .ref m25, .int 0, .ref m27, .ref m28, .int 0, .int 0, .int 0, .long 0, .long 0, .int 0, .long 0, .long 0, .ref m37, .ref m38, .int 0, .ref m40, .ref m41, .ref m42, .ref m43, .ref m44, .ref m45, .long 0, .long 0])), (m8, .inl (cI, 8, .inl (fun _ => 0))), (m9, .inl (cI, 8, .inl (fun _ => 0)))]) [0, 1, 2] (by decide +kernel) rfl
  refine W.widen (k := 0) (n := 0) (Nat.le_of_ble_eq_true rfl) (Nat.le_of_ble_eq_true rfl) ?_
  exact W.vret hx hb hr (fun t ht hW => ⟨⟨(), rfl, trivial, (by rw [ht]; exact hP9), hD9⟩, hS.F ht⟩) hS.2.2 dX10_begin_48
set_option maxHeartbeats 40000000 in
set_option maxRecDepth 100000 in
theorem c_m_noNode (l : Launch) (dC : Nat → ClassId) (dI : Nat → Nat → Nat) (cI cJ cZ cO : ClassId) (sz : Nat) (mo : Nat) (p0 : Int32) (m3 : Nat) (m4 : Nat) (m5 : Nat) (m6 : Nat) (m7 : Nat) (m8 : Nat) (m9 : Nat) (m11 : Nat) (m12 : Nat) (m13 : Nat) (m14 : Nat) (m15 : Nat) (m16 : Nat) (m17 : Nat) (m18 : Nat) (m19 : Nat) (m20 : Nat) (m21 : Nat) (fu : Int64) (fp : Int32) (m24 : Nat) (m25 : Nat) (m27 : Nat) (m28 : Nat) (m37 : Nat) (m38 : Nat) (fq : Int32) (m40 : Nat) (m41 : Nat) (m42 : Nat) (m43 : Nat) (m44 : Nat) (m45 : Nat) (fl : Int64) (fr : Int64)  : Met l yX10_noNode (Cond.code yX10_noNode cX10_noNode 2 (some .boolean) :: pf_W) ({ frames := 1, cells := 0, slots := 0, locals := 22 }) (va_Pc [.ref mo, .int p0] (fun U => U.heap.size = sz ∧ va_P (dC, dI) pf_cls [(mo, .inr (10, [.int 2, .int 0, .int 0, .ref m3, .ref m4, .ref m5, .ref m6, .ref m7, .ref m8, .ref m9, .int 0, .ref m11, .ref m12, .ref m13, .ref m14, .ref m15, .ref m16, .ref m17, .ref m18, .ref m19, .ref m20, .ref m21, .long fu, .int fp, .ref m24, .ref m25, .int 0, .ref m27, .ref m28, .int 0, .int 0, .int 0, .long 0, .long 0, .int 0, .long 0, .long 0, .ref m37, .ref m38, .int fq, .ref m40, .ref m41, .ref m42, .ref m43, .ref m44, .ref m45, .long fl, .long fr]))] U.heap ∧ va_K (dC, dI) pf_cls (pf_ty cI cJ cZ cO) U ∧ va_D (fun _ => True) [(mo, .inr (10, [.int 2, .int 0, .int 0, .ref m3, .ref m4, .ref m5, .ref m6, .ref m7, .ref m8, .ref m9, .int 0, .ref m11, .ref m12, .ref m13, .ref m14, .ref m15, .ref m16, .ref m17, .ref m18, .ref m19, .ref m20, .ref m21, .long fu, .int fp, .ref m24, .ref m25, .int 0, .ref m27, .ref m28, .int 0, .int 0, .int 0, .long 0, .long 0, .int 0, .long 0, .long 0, .ref m37, .ref m38, .int fq, .ref m40, .ref m41, .ref m42, .ref m43, .ref m44, .ref m45, .long fl, .long fr]))])) (va_Qi (fun (r : Int32) (_ : Unit) => r = (pf_nn p0)) (fun (_ : Unit) (t : State) => va_P (dC, dI) pf_cls [(mo, .inr (10, [.int 2, .int 0, .int 0, .ref m3, .ref m4, .ref m5, .ref m6, .ref m7, .ref m8, .ref m9, .int 0, .ref m11, .ref m12, .ref m13, .ref m14, .ref m15, .ref m16, .ref m17, .ref m18, .ref m19, .ref m20, .ref m21, .long fu, .int fp, .ref m24, .ref m25, .int 0, .ref m27, .ref m28, .int 0, .int 0, .int 0, .long 0, .long 0, .int 0, .long 0, .long 0, .ref m37, .ref m38, .int fq, .ref m40, .ref m41, .ref m42, .ref m43, .ref m44, .ref m45, .long fl, .long fr]))] t.heap ∧ va_D (va_A [(mo, .inr (10, [.int 2, .int 0, .int 0, .ref m3, .ref m4, .ref m5, .ref m6, .ref m7, .ref m8, .ref m9, .int 0, .ref m11, .ref m12, .ref m13, .ref m14, .ref m15, .ref m16, .ref m17, .ref m18, .ref m19, .ref m20, .ref m21, .long fu, .int fp, .ref m24, .ref m25, .int 0, .ref m27, .ref m28, .int 0, .int 0, .int 0, .long 0, .long 0, .int 0, .long 0, .long 0, .ref m37, .ref m38, .int fq, .ref m40, .ref m41, .ref m42, .ref m43, .ref m44, .ref m45, .long fl, .long fr]))] sz) [(mo, .inr (10, [.int 2, .int 0, .int 0, .ref m3, .ref m4, .ref m5, .ref m6, .ref m7, .ref m8, .ref m9, .int 0, .ref m11, .ref m12, .ref m13, .ref m14, .ref m15, .ref m16, .ref m17, .ref m18, .ref m19, .ref m20, .ref m21, .long fu, .int fp, .ref m24, .ref m25, .int 0, .ref m27, .ref m28, .int 0, .int 0, .int 0, .long 0, .long 0, .int 0, .long 0, .long 0, .ref m37, .ref m38, .int fq, .ref m40, .ref m41, .ref m42, .ref m43, .ref m44, .ref m45, .long fl, .long fr]))]) (va_A [(mo, .inr (10, [.int 2, .int 0, .int 0, .ref m3, .ref m4, .ref m5, .ref m6, .ref m7, .ref m8, .ref m9, .int 0, .ref m11, .ref m12, .ref m13, .ref m14, .ref m15, .ref m16, .ref m17, .ref m18, .ref m19, .ref m20, .ref m21, .long fu, .int fp, .ref m24, .ref m25, .int 0, .ref m27, .ref m28, .int 0, .int 0, .int 0, .long 0, .long 0, .int 0, .long 0, .long 0, .ref m37, .ref m38, .int fq, .ref m40, .ref m41, .ref m42, .ref m43, .ref m44, .ref m45, .long fl, .long fr]))] sz)) 0 0 (va_A [(mo, .inr (10, [.int 2, .int 0, .int 0, .ref m3, .ref m4, .ref m5, .ref m6, .ref m7, .ref m8, .ref m9, .int 0, .ref m11, .ref m12, .ref m13, .ref m14, .ref m15, .ref m16, .ref m17, .ref m18, .ref m19, .ref m20, .ref m21, .long fu, .int fp, .ref m24, .ref m25, .int 0, .ref m27, .ref m28, .int 0, .int 0, .int 0, .long 0, .long 0, .int 0, .long 0, .long 0, .ref m37, .ref m38, .int fq, .ref m40, .ref m41, .ref m42, .ref m43, .ref m44, .ref m45, .long fl, .long fr]))] sz) := by
  refine Met.ofW (cc := cX10_noNode) (maxL := 2) (ret := (some .boolean)) (by decide) rfl ?_
  intro p e s m args below meth c s₁ B hml hv
  obtain ⟨rfl, hsz, hP, hK, hD0⟩ := hv
  have hx := B.exec
  have hb := B.bytes
  have hr := B.returns
  have hts := atoms_spec (ws := Cond.code yX10_noNode cX10_noNode 2 (some .boolean) :: pf_W) B.pre
  have hown : s.vm.findClass RX10 = some m.cls := findClass_of_methodNamed B.named
  have hlocks := B.notSynchronized
  subst hsz
  have hD := hD0.self (sz := s.heap.size)
  generalize hAe : va_A [(mo, .inr (10, [.int 2, .int 0, .int 0, .ref m3, .ref m4, .ref m5, .ref m6, .ref m7, .ref m8, .ref m9, .int 0, .ref m11, .ref m12, .ref m13, .ref m14, .ref m15, .ref m16, .ref m17, .ref m18, .ref m19, .ref m20, .ref m21, .long fu, .int fp, .ref m24, .ref m25, .int 0, .ref m27, .ref m28, .int 0, .int 0, .int 0, .long 0, .long 0, .int 0, .long 0, .long 0, .ref m37, .ref m38, .int fq, .ref m40, .ref m41, .ref m42, .ref m43, .ref m44, .ref m45, .long fl, .long fr]))] s.heap.size = A at hD ⊢
  have hA : ∀ q : Nat, s.heap.size ≤ q → A q := fun q h => by rw [← hAe]; exact Or.inr h
  have hS : va_S A s.heap s.heap [] := va_S.rf
  have hP : va_P (dC, dI) pf_cls [(mo, .inr (10, [.int 2, .int 0, .int 0, .ref m3, .ref m4, .ref m5, .ref m6, .ref m7, .ref m8, .ref m9, .int 0, .ref m11, .ref m12, .ref m13, .ref m14, .ref m15, .ref m16, .ref m17, .ref m18, .ref m19, .ref m20, .ref m21, .long fu, .int fp, .ref m24, .ref m25, .int 0, .ref m27, .ref m28, .int 0, .int 0, .int 0, .long 0, .long 0, .int 0, .long 0, .long 0, .ref m37, .ref m38, .int fq, .ref m40, .ref m41, .ref m42, .ref m43, .ref m44, .ref m45, .long fl, .long fr]))] s.heap := hP
  have hl := lv_entry ([.ref mo, .int p0]) (n := 2) (Nat.le_of_ble_eq_true rfl)
  rw [lg_entry_eq]
  generalize (lg_sl ([.ref mo, .int p0]) ++ List.replicate (2 - (lg_sl ([.ref mo, .int p0])).length) Slot.unset).toArray = ls at hl ⊢
  have hl : lv_has ls 2 [(0, .ref mo), (1, .int p0)] := hl
  refine lv_iload_n hx hb dX10_noNode_0 rfl (lv_at hl 1 rfl) ?_
  refine lv_iconst (v := 0) hx hb dX10_noNode_1 (by decide) ?_
  refine lv_aload_n hx hb dX10_noNode_2 rfl (lv_at hl 0 rfl) ?_
  refine va_get (D := (dC, dI)) (ci := 10) (v := .int 2) (C := RX10) (T := TX10) (N := 48) hx hb hts (fun w h => List.mem_cons_of_mem _ (ic_X10 w h)) hown hK hP 0 rfl rfl 0 (by decide) (hts _ (List.mem_cons_of_mem _ mw_351)) (fun _ h9 => h9) rfl dX10_noNode_3 ?_
  refine lv_iconst (v := 1) hx hb dX10_noNode_6 (by decide) ?_
  refine lv_isub hx hb dX10_noNode_7 ?_
  refine pf_topi (v := 1) (by decide +kernel) ?_
  have hPc := hP.sub (ws' := []) [] rfl
  have hDc := hD.sub (ws' := []) [] (by decide +kernel) rfl
  have hFc := va_free (wc := []) hD hS hA [] rfl
  refine va_calli (va_runS (As := [.int p0, .int 0, .int 1]) (rest := []) ⟨hx, hb, hml, hown, hts⟩ (c_m_in l dC dI cI cJ cZ cO s.heap.size p0 0 1) (va_cwS 3 hts (pf_gS mw_357 mw_358 mw_346 mw_359) rfl rfl rfl (by decide +kernel) ⟨Nat.le_of_ble_eq_true rfl, Nat.le_of_ble_eq_true rfl⟩) ⟨fun a U g mk q => by obtain ⟨q0, q1, qP, qK, qD⟩ := q; exact ⟨q0, q1, qP, va_K.moved (u := U) (U := U.calling g mk a) (Vm.Alike.refl U.vm) qK, qD⟩, fun U hU hW => ⟨rfl, by rw [hU], by rw [hU]; exact hPc, va_K.moved hW.alike hK, hDc.weaken (fun _ _ _ _ => trivial)⟩⟩ rfl rfl hl.1 rfl (lv_room (Nat.le_of_ble_eq_true rfl)) dX10_noNode_8 ⟨Nat.le_of_ble_eq_true rfl, Nat.le_of_ble_eq_true rfl⟩) hS (fun q _ h => hFc q h) hFc (fun r0 u t H1 locs ht hvm hw hB hz1 hk1 hS => ?_)
  have hw : (pf_in p0 0 1) = r0 := (show r0 = (pf_in p0 0 1) from hw).symm
  subst hw
  obtain ⟨hP1, hD1⟩ := hB
  rw [ht] at hP1
  obtain ⟨hP, hD⟩ := va_join (wr := [(mo, .inr (10, [.int 2, .int 0, .int 0, .ref m3, .ref m4, .ref m5, .ref m6, .ref m7, .ref m8, .ref m9, .int 0, .ref m11, .ref m12, .ref m13, .ref m14, .ref m15, .ref m16, .ref m17, .ref m18, .ref m19, .ref m20, .ref m21, .long fu, .int fp, .ref m24, .ref m25, .int 0, .ref m27, .ref m28, .int 0, .int 0, .int 0, .long 0, .long 0, .int 0, .long 0, .long 0, .ref m37, .ref m38, .int fq, .ref m40, .ref m41, .ref m42, .ref m43, .ref m44, .ref m45, .long fl, .long fr]))]) (w1 := []) hP hD [] [0] rfl rfl (by decide +kernel) (by decide +kernel) hk1 hFc hP1 hD1
  clear hPc hDc hFc hk1 hz1
  generalize H1 = H at hP hS ⊢
  have hP : va_P (dC, dI) pf_cls [(mo, .inr (10, [.int 2, .int 0, .int 0, .ref m3, .ref m4, .ref m5, .ref m6, .ref m7, .ref m8, .ref m9, .int 0, .ref m11, .ref m12, .ref m13, .ref m14, .ref m15, .ref m16, .ref m17, .ref m18, .ref m19, .ref m20, .ref m21, .long fu, .int fp, .ref m24, .ref m25, .int 0, .ref m27, .ref m28, .int 0, .int 0, .int 0, .long 0, .long 0, .int 0, .long 0, .long 0, .ref m37, .ref m38, .int fq, .ref m40, .ref m41, .ref m42, .ref m43, .ref m44, .ref m45, .long fl, .long fr]))] H := hP
  have hD : va_D A [(mo, .inr (10, [.int 2, .int 0, .int 0, .ref m3, .ref m4, .ref m5, .ref m6, .ref m7, .ref m8, .ref m9, .int 0, .ref m11, .ref m12, .ref m13, .ref m14, .ref m15, .ref m16, .ref m17, .ref m18, .ref m19, .ref m20, .ref m21, .long fu, .int fp, .ref m24, .ref m25, .int 0, .ref m27, .ref m28, .int 0, .int 0, .int 0, .long 0, .long 0, .int 0, .long 0, .long 0, .ref m37, .ref m38, .int fq, .ref m40, .ref m41, .ref m42, .ref m43, .ref m44, .ref m45, .long fl, .long fr]))] := hD
  refine lv_if_ne (tgt := 18) hx hb dX10_noNode_11 (by decide) (fun c1 => ?_) (fun c1 => ?_)
  · skip
    refine lv_iconst (v := 0) hx hb dX10_noNode_18 (by decide) ?_
    have hP9 := hP.sub (ws' := [(mo, .inr (10, [.int 2, .int 0, .int 0, .ref m3, .ref m4, .ref m5, .ref m6, .ref m7, .ref m8, .ref m9, .int 0, .ref m11, .ref m12, .ref m13, .ref m14, .ref m15, .ref m16, .ref m17, .ref m18, .ref m19, .ref m20, .ref m21, .long fu, .int fp, .ref m24, .ref m25, .int 0, .ref m27, .ref m28, .int 0, .int 0, .int 0, .long 0, .long 0, .int 0, .long 0, .long 0, .ref m37, .ref m38, .int fq, .ref m40, .ref m41, .ref m42, .ref m43, .ref m44, .ref m45, .long fl, .long fr]))]) [0] rfl
    have hD9 := hD.sub (ws' := [(mo, .inr (10, [.int 2, .int 0, .int 0, .ref m3, .ref m4, .ref m5, .ref m6, .ref m7, .ref m8, .ref m9, .int 0, .ref m11, .ref m12, .ref m13, .ref m14, .ref m15, .ref m16, .ref m17, .ref m18, .ref m19, .ref m20, .ref m21, .long fu, .int fp, .ref m24, .ref m25, .int 0, .ref m27, .ref m28, .int 0, .int 0, .int 0, .long 0, .long 0, .int 0, .long 0, .long 0, .ref m37, .ref m38, .int fq, .ref m40, .ref m41, .ref m42, .ref m43, .ref m44, .ref m45, .long fl, .long fr]))]) [0] (by decide +kernel) rfl
    refine W.widen (k := 0) (n := 0) (Nat.le_of_ble_eq_true rfl) (Nat.le_of_ble_eq_true rfl) ?_
    exact W.zret (v := 0) hx hb hr rfl (fun t ht hW => ⟨⟨_, (), rfl, (by first | decide +kernel | simp [pf_nn, c1]), (by rw [ht]; exact hP9), hD9⟩, hS.F ht⟩) hS.2.2 dX10_noNode_19
  · skip
    refine lv_iconst (v := 1) hx hb dX10_noNode_14 (by decide) ?_
    refine lv_goto (tgt := 19) hx hb dX10_noNode_15 (by decide) ?_
    have hP9 := hP.sub (ws' := [(mo, .inr (10, [.int 2, .int 0, .int 0, .ref m3, .ref m4, .ref m5, .ref m6, .ref m7, .ref m8, .ref m9, .int 0, .ref m11, .ref m12, .ref m13, .ref m14, .ref m15, .ref m16, .ref m17, .ref m18, .ref m19, .ref m20, .ref m21, .long fu, .int fp, .ref m24, .ref m25, .int 0, .ref m27, .ref m28, .int 0, .int 0, .int 0, .long 0, .long 0, .int 0, .long 0, .long 0, .ref m37, .ref m38, .int fq, .ref m40, .ref m41, .ref m42, .ref m43, .ref m44, .ref m45, .long fl, .long fr]))]) [0] rfl
    have hD9 := hD.sub (ws' := [(mo, .inr (10, [.int 2, .int 0, .int 0, .ref m3, .ref m4, .ref m5, .ref m6, .ref m7, .ref m8, .ref m9, .int 0, .ref m11, .ref m12, .ref m13, .ref m14, .ref m15, .ref m16, .ref m17, .ref m18, .ref m19, .ref m20, .ref m21, .long fu, .int fp, .ref m24, .ref m25, .int 0, .ref m27, .ref m28, .int 0, .int 0, .int 0, .long 0, .long 0, .int 0, .long 0, .long 0, .ref m37, .ref m38, .int fq, .ref m40, .ref m41, .ref m42, .ref m43, .ref m44, .ref m45, .long fl, .long fr]))]) [0] (by decide +kernel) rfl
    refine W.widen (k := 0) (n := 0) (Nat.le_of_ble_eq_true rfl) (Nat.le_of_ble_eq_true rfl) ?_
    exact W.zret (v := 1) hx hb hr rfl (fun t ht hW => ⟨⟨_, (), rfl, (by first | decide +kernel | simp [pf_nn, c1]), (by rw [ht]; exact hP9), hD9⟩, hS.F ht⟩) hS.2.2 dX10_noNode_19
set_option maxHeartbeats 40000000 in
set_option maxRecDepth 100000 in
theorem c_m_noArc (l : Launch) (dC : Nat → ClassId) (dI : Nat → Nat → Nat) (cI cJ cZ cO : ClassId) (sz : Nat) (mo : Nat) (p0 : Int32) (m3 : Nat) (m4 : Nat) (m5 : Nat) (m6 : Nat) (m7 : Nat) (m8 : Nat) (m9 : Nat) (m11 : Nat) (m12 : Nat) (m13 : Nat) (m14 : Nat) (m15 : Nat) (m16 : Nat) (m17 : Nat) (m18 : Nat) (m19 : Nat) (m20 : Nat) (m21 : Nat) (fu : Int64) (fp : Int32) (m24 : Nat) (m25 : Nat) (m27 : Nat) (m28 : Nat) (m37 : Nat) (m38 : Nat) (fq : Int32) (m40 : Nat) (m41 : Nat) (m42 : Nat) (m43 : Nat) (m44 : Nat) (m45 : Nat) (fl : Int64) (fr : Int64)  : Met l yX10_noArc (Cond.code yX10_noArc cX10_noArc 2 (some .boolean) :: pf_W) ({ frames := 1, cells := 0, slots := 0, locals := 22 }) (va_Pc [.ref mo, .int p0] (fun U => U.heap.size = sz ∧ va_P (dC, dI) pf_cls [(mo, .inr (10, [.int 2, .int 0, .int 0, .ref m3, .ref m4, .ref m5, .ref m6, .ref m7, .ref m8, .ref m9, .int 0, .ref m11, .ref m12, .ref m13, .ref m14, .ref m15, .ref m16, .ref m17, .ref m18, .ref m19, .ref m20, .ref m21, .long fu, .int fp, .ref m24, .ref m25, .int 0, .ref m27, .ref m28, .int 0, .int 0, .int 0, .long 0, .long 0, .int 0, .long 0, .long 0, .ref m37, .ref m38, .int fq, .ref m40, .ref m41, .ref m42, .ref m43, .ref m44, .ref m45, .long fl, .long fr]))] U.heap ∧ va_K (dC, dI) pf_cls (pf_ty cI cJ cZ cO) U ∧ va_D (fun _ => True) [(mo, .inr (10, [.int 2, .int 0, .int 0, .ref m3, .ref m4, .ref m5, .ref m6, .ref m7, .ref m8, .ref m9, .int 0, .ref m11, .ref m12, .ref m13, .ref m14, .ref m15, .ref m16, .ref m17, .ref m18, .ref m19, .ref m20, .ref m21, .long fu, .int fp, .ref m24, .ref m25, .int 0, .ref m27, .ref m28, .int 0, .int 0, .int 0, .long 0, .long 0, .int 0, .long 0, .long 0, .ref m37, .ref m38, .int fq, .ref m40, .ref m41, .ref m42, .ref m43, .ref m44, .ref m45, .long fl, .long fr]))])) (va_Qi (fun (r : Int32) (_ : Unit) => r = 1) (fun (_ : Unit) (t : State) => va_P (dC, dI) pf_cls [(mo, .inr (10, [.int 2, .int 0, .int 0, .ref m3, .ref m4, .ref m5, .ref m6, .ref m7, .ref m8, .ref m9, .int 0, .ref m11, .ref m12, .ref m13, .ref m14, .ref m15, .ref m16, .ref m17, .ref m18, .ref m19, .ref m20, .ref m21, .long fu, .int fp, .ref m24, .ref m25, .int 0, .ref m27, .ref m28, .int 0, .int 0, .int 0, .long 0, .long 0, .int 0, .long 0, .long 0, .ref m37, .ref m38, .int fq, .ref m40, .ref m41, .ref m42, .ref m43, .ref m44, .ref m45, .long fl, .long fr]))] t.heap ∧ va_D (va_A [(mo, .inr (10, [.int 2, .int 0, .int 0, .ref m3, .ref m4, .ref m5, .ref m6, .ref m7, .ref m8, .ref m9, .int 0, .ref m11, .ref m12, .ref m13, .ref m14, .ref m15, .ref m16, .ref m17, .ref m18, .ref m19, .ref m20, .ref m21, .long fu, .int fp, .ref m24, .ref m25, .int 0, .ref m27, .ref m28, .int 0, .int 0, .int 0, .long 0, .long 0, .int 0, .long 0, .long 0, .ref m37, .ref m38, .int fq, .ref m40, .ref m41, .ref m42, .ref m43, .ref m44, .ref m45, .long fl, .long fr]))] sz) [(mo, .inr (10, [.int 2, .int 0, .int 0, .ref m3, .ref m4, .ref m5, .ref m6, .ref m7, .ref m8, .ref m9, .int 0, .ref m11, .ref m12, .ref m13, .ref m14, .ref m15, .ref m16, .ref m17, .ref m18, .ref m19, .ref m20, .ref m21, .long fu, .int fp, .ref m24, .ref m25, .int 0, .ref m27, .ref m28, .int 0, .int 0, .int 0, .long 0, .long 0, .int 0, .long 0, .long 0, .ref m37, .ref m38, .int fq, .ref m40, .ref m41, .ref m42, .ref m43, .ref m44, .ref m45, .long fl, .long fr]))]) (va_A [(mo, .inr (10, [.int 2, .int 0, .int 0, .ref m3, .ref m4, .ref m5, .ref m6, .ref m7, .ref m8, .ref m9, .int 0, .ref m11, .ref m12, .ref m13, .ref m14, .ref m15, .ref m16, .ref m17, .ref m18, .ref m19, .ref m20, .ref m21, .long fu, .int fp, .ref m24, .ref m25, .int 0, .ref m27, .ref m28, .int 0, .int 0, .int 0, .long 0, .long 0, .int 0, .long 0, .long 0, .ref m37, .ref m38, .int fq, .ref m40, .ref m41, .ref m42, .ref m43, .ref m44, .ref m45, .long fl, .long fr]))] sz)) 0 0 (va_A [(mo, .inr (10, [.int 2, .int 0, .int 0, .ref m3, .ref m4, .ref m5, .ref m6, .ref m7, .ref m8, .ref m9, .int 0, .ref m11, .ref m12, .ref m13, .ref m14, .ref m15, .ref m16, .ref m17, .ref m18, .ref m19, .ref m20, .ref m21, .long fu, .int fp, .ref m24, .ref m25, .int 0, .ref m27, .ref m28, .int 0, .int 0, .int 0, .long 0, .long 0, .int 0, .long 0, .long 0, .ref m37, .ref m38, .int fq, .ref m40, .ref m41, .ref m42, .ref m43, .ref m44, .ref m45, .long fl, .long fr]))] sz) := by
  refine Met.ofW (cc := cX10_noArc) (maxL := 2) (ret := (some .boolean)) (by decide) rfl ?_
  intro p e s m args below meth c s₁ B hml hv
  obtain ⟨rfl, hsz, hP, hK, hD0⟩ := hv
  have hx := B.exec
  have hb := B.bytes
  have hr := B.returns
  have hts := atoms_spec (ws := Cond.code yX10_noArc cX10_noArc 2 (some .boolean) :: pf_W) B.pre
  have hown : s.vm.findClass RX10 = some m.cls := findClass_of_methodNamed B.named
  have hlocks := B.notSynchronized
  subst hsz
  have hD := hD0.self (sz := s.heap.size)
  generalize hAe : va_A [(mo, .inr (10, [.int 2, .int 0, .int 0, .ref m3, .ref m4, .ref m5, .ref m6, .ref m7, .ref m8, .ref m9, .int 0, .ref m11, .ref m12, .ref m13, .ref m14, .ref m15, .ref m16, .ref m17, .ref m18, .ref m19, .ref m20, .ref m21, .long fu, .int fp, .ref m24, .ref m25, .int 0, .ref m27, .ref m28, .int 0, .int 0, .int 0, .long 0, .long 0, .int 0, .long 0, .long 0, .ref m37, .ref m38, .int fq, .ref m40, .ref m41, .ref m42, .ref m43, .ref m44, .ref m45, .long fl, .long fr]))] s.heap.size = A at hD ⊢
  have hA : ∀ q : Nat, s.heap.size ≤ q → A q := fun q h => by rw [← hAe]; exact Or.inr h
  have hS : va_S A s.heap s.heap [] := va_S.rf
  have hP : va_P (dC, dI) pf_cls [(mo, .inr (10, [.int 2, .int 0, .int 0, .ref m3, .ref m4, .ref m5, .ref m6, .ref m7, .ref m8, .ref m9, .int 0, .ref m11, .ref m12, .ref m13, .ref m14, .ref m15, .ref m16, .ref m17, .ref m18, .ref m19, .ref m20, .ref m21, .long fu, .int fp, .ref m24, .ref m25, .int 0, .ref m27, .ref m28, .int 0, .int 0, .int 0, .long 0, .long 0, .int 0, .long 0, .long 0, .ref m37, .ref m38, .int fq, .ref m40, .ref m41, .ref m42, .ref m43, .ref m44, .ref m45, .long fl, .long fr]))] s.heap := hP
  have hl := lv_entry ([.ref mo, .int p0]) (n := 2) (Nat.le_of_ble_eq_true rfl)
  rw [lg_entry_eq]
  generalize (lg_sl ([.ref mo, .int p0]) ++ List.replicate (2 - (lg_sl ([.ref mo, .int p0])).length) Slot.unset).toArray = ls at hl ⊢
  have hl : lv_has ls 2 [(0, .ref mo), (1, .int p0)] := hl
  refine lv_iload_n hx hb dX10_noArc_0 rfl (lv_at hl 1 rfl) ?_
  refine lv_iconst (v := 0) hx hb dX10_noArc_1 (by decide) ?_
  refine lv_aload_n hx hb dX10_noArc_2 rfl (lv_at hl 0 rfl) ?_
  refine va_get (D := (dC, dI)) (ci := 10) (v := .int 0) (C := RX10) (T := TX10) (N := 48) hx hb hts (fun w h => List.mem_cons_of_mem _ (ic_X10 w h)) hown hK hP 0 rfl rfl 1 (by decide) (hts _ (List.mem_cons_of_mem _ mw_352)) (fun _ h9 => h9) rfl dX10_noArc_3 ?_
  refine lv_iconst (v := 1) hx hb dX10_noArc_6 (by decide) ?_
  refine lv_isub hx hb dX10_noArc_7 ?_
  refine pf_topi (v := (-1)) (by decide +kernel) ?_
  have hPc := hP.sub (ws' := []) [] rfl
  have hDc := hD.sub (ws' := []) [] (by decide +kernel) rfl
  have hFc := va_free (wc := []) hD hS hA [] rfl
  refine va_calli (va_runS (As := [.int p0, .int 0, .int (-1)]) (rest := []) ⟨hx, hb, hml, hown, hts⟩ (c_m_inE l dC dI cI cJ cZ cO s.heap.size p0) (va_cwS 3 hts (pf_gS mw_357 mw_358 mw_346 mw_359) rfl rfl rfl (by decide +kernel) ⟨Nat.le_of_ble_eq_true rfl, Nat.le_of_ble_eq_true rfl⟩) ⟨fun a U g mk q => by obtain ⟨q0, q1, qP, qK, qD⟩ := q; exact ⟨q0, q1, qP, va_K.moved (u := U) (U := U.calling g mk a) (Vm.Alike.refl U.vm) qK, qD⟩, fun U hU hW => ⟨rfl, by rw [hU], by rw [hU]; exact hPc, va_K.moved hW.alike hK, hDc.weaken (fun _ _ _ _ => trivial)⟩⟩ rfl rfl hl.1 rfl (lv_room (Nat.le_of_ble_eq_true rfl)) dX10_noArc_8 ⟨Nat.le_of_ble_eq_true rfl, Nat.le_of_ble_eq_true rfl⟩) hS (fun q _ h => hFc q h) hFc (fun r0 u t H1 locs ht hvm hw hB hz1 hk1 hS => ?_)
  have hw : 0 = r0 := (show r0 = 0 from hw).symm
  subst hw
  obtain ⟨hP1, hD1⟩ := hB
  rw [ht] at hP1
  obtain ⟨hP, hD⟩ := va_join (wr := [(mo, .inr (10, [.int 2, .int 0, .int 0, .ref m3, .ref m4, .ref m5, .ref m6, .ref m7, .ref m8, .ref m9, .int 0, .ref m11, .ref m12, .ref m13, .ref m14, .ref m15, .ref m16, .ref m17, .ref m18, .ref m19, .ref m20, .ref m21, .long fu, .int fp, .ref m24, .ref m25, .int 0, .ref m27, .ref m28, .int 0, .int 0, .int 0, .long 0, .long 0, .int 0, .long 0, .long 0, .ref m37, .ref m38, .int fq, .ref m40, .ref m41, .ref m42, .ref m43, .ref m44, .ref m45, .long fl, .long fr]))]) (w1 := []) hP hD [] [0] rfl rfl (by decide +kernel) (by decide +kernel) hk1 hFc hP1 hD1
  clear hPc hDc hFc hk1 hz1
  generalize H1 = H at hP hS ⊢
  have hP : va_P (dC, dI) pf_cls [(mo, .inr (10, [.int 2, .int 0, .int 0, .ref m3, .ref m4, .ref m5, .ref m6, .ref m7, .ref m8, .ref m9, .int 0, .ref m11, .ref m12, .ref m13, .ref m14, .ref m15, .ref m16, .ref m17, .ref m18, .ref m19, .ref m20, .ref m21, .long fu, .int fp, .ref m24, .ref m25, .int 0, .ref m27, .ref m28, .int 0, .int 0, .int 0, .long 0, .long 0, .int 0, .long 0, .long 0, .ref m37, .ref m38, .int fq, .ref m40, .ref m41, .ref m42, .ref m43, .ref m44, .ref m45, .long fl, .long fr]))] H := hP
  have hD : va_D A [(mo, .inr (10, [.int 2, .int 0, .int 0, .ref m3, .ref m4, .ref m5, .ref m6, .ref m7, .ref m8, .ref m9, .int 0, .ref m11, .ref m12, .ref m13, .ref m14, .ref m15, .ref m16, .ref m17, .ref m18, .ref m19, .ref m20, .ref m21, .long fu, .int fp, .ref m24, .ref m25, .int 0, .ref m27, .ref m28, .int 0, .int 0, .int 0, .long 0, .long 0, .int 0, .long 0, .long 0, .ref m37, .ref m38, .int fq, .ref m40, .ref m41, .ref m42, .ref m43, .ref m44, .ref m45, .long fl, .long fr]))] := hD
  refine lv_if_ne (tgt := 18) hx hb dX10_noArc_11 (by decide) (fun c1 => absurd (by decide +kernel) c1) (fun _ => ?_)
  refine lv_iconst (v := 1) hx hb dX10_noArc_14 (by decide) ?_
  refine lv_goto (tgt := 19) hx hb dX10_noArc_15 (by decide) ?_
  have hP9 := hP.sub (ws' := [(mo, .inr (10, [.int 2, .int 0, .int 0, .ref m3, .ref m4, .ref m5, .ref m6, .ref m7, .ref m8, .ref m9, .int 0, .ref m11, .ref m12, .ref m13, .ref m14, .ref m15, .ref m16, .ref m17, .ref m18, .ref m19, .ref m20, .ref m21, .long fu, .int fp, .ref m24, .ref m25, .int 0, .ref m27, .ref m28, .int 0, .int 0, .int 0, .long 0, .long 0, .int 0, .long 0, .long 0, .ref m37, .ref m38, .int fq, .ref m40, .ref m41, .ref m42, .ref m43, .ref m44, .ref m45, .long fl, .long fr]))]) [0] rfl
  have hD9 := hD.sub (ws' := [(mo, .inr (10, [.int 2, .int 0, .int 0, .ref m3, .ref m4, .ref m5, .ref m6, .ref m7, .ref m8, .ref m9, .int 0, .ref m11, .ref m12, .ref m13, .ref m14, .ref m15, .ref m16, .ref m17, .ref m18, .ref m19, .ref m20, .ref m21, .long fu, .int fp, .ref m24, .ref m25, .int 0, .ref m27, .ref m28, .int 0, .int 0, .int 0, .long 0, .long 0, .int 0, .long 0, .long 0, .ref m37, .ref m38, .int fq, .ref m40, .ref m41, .ref m42, .ref m43, .ref m44, .ref m45, .long fl, .long fr]))]) [0] (by decide +kernel) rfl
  refine W.widen (k := 0) (n := 0) (Nat.le_of_ble_eq_true rfl) (Nat.le_of_ble_eq_true rfl) ?_
  exact W.zret (v := 1) hx hb hr rfl (fun t ht hW => ⟨⟨_, (), rfl, rfl, (by rw [ht]; exact hP9), hD9⟩, hS.F ht⟩) hS.2.2 dX10_noArc_19
set_option maxHeartbeats 40000000 in
set_option maxRecDepth 100000 in
theorem c_m_isCapacity (l : Launch) (dC : Nat → ClassId) (dI : Nat → Nat → Nat) (cI cJ cZ cO : ClassId) (sz : Nat) (x : Int32)  : Met l yX10_isCapacity (Cond.code yX10_isCapacity cX10_isCapacity 1 (some .boolean) :: pf_W) ({ frames := 1, cells := 0, slots := 0, locals := 22 }) (va_Pc [.int x] (fun U => U.heap.size = sz ∧ va_P (dC, dI) pf_cls [] U.heap ∧ va_K (dC, dI) pf_cls (pf_ty cI cJ cZ cO) U ∧ va_D (fun _ => True) [])) (va_Qi (fun (r : Int32) (_ : Unit) => r = (pf_in x 1 1000)) (fun (_ : Unit) (t : State) => va_P (dC, dI) pf_cls [] t.heap ∧ va_D (va_A [] sz) []) (va_A [] sz)) 0 0 (va_A [] sz) := by
  refine Met.ofW (cc := cX10_isCapacity) (maxL := 1) (ret := (some .boolean)) (by decide) rfl ?_
  intro p e s m args below meth c s₁ B hml hv
  obtain ⟨rfl, hsz, hP, hK, hD0⟩ := hv
  have hx := B.exec
  have hb := B.bytes
  have hr := B.returns
  have hts := atoms_spec (ws := Cond.code yX10_isCapacity cX10_isCapacity 1 (some .boolean) :: pf_W) B.pre
  have hown : s.vm.findClass RX10 = some m.cls := findClass_of_methodNamed B.named
  have hlocks := B.notSynchronized
  subst hsz
  have hD := hD0.self (sz := s.heap.size)
  generalize hAe : va_A [] s.heap.size = A at hD ⊢
  have hA : ∀ q : Nat, s.heap.size ≤ q → A q := fun q h => by rw [← hAe]; exact Or.inr h
  have hS : va_S A s.heap s.heap [] := va_S.rf
  have hP : va_P (dC, dI) pf_cls [] s.heap := hP
  have hl := lv_entry ([.int x]) (n := 1) (Nat.le_of_ble_eq_true rfl)
  rw [lg_entry_eq]
  generalize (lg_sl ([.int x]) ++ List.replicate (1 - (lg_sl ([.int x])).length) Slot.unset).toArray = ls at hl ⊢
  have hl : lv_has ls 1 [(0, .int x)] := hl
  refine lv_iload_n hx hb dX10_isCapacity_0 rfl (lv_at hl 0 rfl) ?_
  refine lv_iconst (v := 1) hx hb dX10_isCapacity_1 (by decide) ?_
  refine lv_sipush (v := 1000) hx hb dX10_isCapacity_2 (by decide +kernel) ?_
  have hPc := hP.sub (ws' := []) [] rfl
  have hDc := hD.sub (ws' := []) [] (by decide +kernel) rfl
  have hFc := va_free (wc := []) hD hS hA [] rfl
  refine va_calli (va_runS (As := [.int x, .int 1, .int 1000]) (rest := []) ⟨hx, hb, hml, hown, hts⟩ (c_m_in l dC dI cI cJ cZ cO s.heap.size x 1 1000) (va_cwS 3 hts (pf_gS mw_357 mw_358 mw_346 mw_359) rfl rfl rfl (by decide +kernel) ⟨Nat.le_of_ble_eq_true rfl, Nat.le_of_ble_eq_true rfl⟩) ⟨fun a U g mk q => by obtain ⟨q0, q1, qP, qK, qD⟩ := q; exact ⟨q0, q1, qP, va_K.moved (u := U) (U := U.calling g mk a) (Vm.Alike.refl U.vm) qK, qD⟩, fun U hU hW => ⟨rfl, by rw [hU], by rw [hU]; exact hPc, va_K.moved hW.alike hK, hDc.weaken (fun _ _ _ _ => trivial)⟩⟩ rfl rfl hl.1 rfl (lv_room (Nat.le_of_ble_eq_true rfl)) dX10_isCapacity_5 ⟨Nat.le_of_ble_eq_true rfl, Nat.le_of_ble_eq_true rfl⟩) hS (fun q _ h => hFc q h) hFc (fun r0 u t H1 locs ht hvm hw hB hz1 hk1 hS => ?_)
  have hw : (pf_in x 1 1000) = r0 := (show r0 = (pf_in x 1 1000) from hw).symm
  subst hw
  obtain ⟨hP1, hD1⟩ := hB
  rw [ht] at hP1
  obtain ⟨hP, hD⟩ := va_join (wr := []) (w1 := []) hP hD [] [] rfl rfl (by decide +kernel) (by decide +kernel) hk1 hFc hP1 hD1
  clear hPc hDc hFc hk1 hz1
  generalize H1 = H at hP hS ⊢
  have hP : va_P (dC, dI) pf_cls [] H := hP
  have hD : va_D A [] := hD
  have hP9 := hP.sub (ws' := []) [] rfl
  have hD9 := hD.sub (ws' := []) [] (by decide +kernel) rfl
  refine W.widen (k := 0) (n := 0) (Nat.le_of_ble_eq_true rfl) (Nat.le_of_ble_eq_true rfl) ?_
  exact W.zret (v := (pf_in x 1 1000)) hx hb hr (pf_in_nar _ _ _) (fun t ht hW => ⟨⟨_, (), rfl, rfl, (by rw [ht]; exact hP9), hD9⟩, hS.F ht⟩) hS.2.2 dX10_isCapacity_8
set_option maxHeartbeats 40000000 in
set_option maxRecDepth 100000 in
theorem c_m_isCost (l : Launch) (dC : Nat → ClassId) (dI : Nat → Nat → Nat) (cI cJ cZ cO : ClassId) (sz : Nat) (x : Int32)  : Met l yX10_isCost (Cond.code yX10_isCost cX10_isCost 1 (some .boolean) :: pf_W) ({ frames := 1, cells := 0, slots := 0, locals := 22 }) (va_Pc [.int x] (fun U => U.heap.size = sz ∧ va_P (dC, dI) pf_cls [] U.heap ∧ va_K (dC, dI) pf_cls (pf_ty cI cJ cZ cO) U ∧ va_D (fun _ => True) [])) (va_Qi (fun (r : Int32) (_ : Unit) => r = (pf_in x (-100) 100)) (fun (_ : Unit) (t : State) => va_P (dC, dI) pf_cls [] t.heap ∧ va_D (va_A [] sz) []) (va_A [] sz)) 0 0 (va_A [] sz) := by
  refine Met.ofW (cc := cX10_isCost) (maxL := 1) (ret := (some .boolean)) (by decide) rfl ?_
  intro p e s m args below meth c s₁ B hml hv
  obtain ⟨rfl, hsz, hP, hK, hD0⟩ := hv
  have hx := B.exec
  have hb := B.bytes
  have hr := B.returns
  have hts := atoms_spec (ws := Cond.code yX10_isCost cX10_isCost 1 (some .boolean) :: pf_W) B.pre
  have hown : s.vm.findClass RX10 = some m.cls := findClass_of_methodNamed B.named
  have hlocks := B.notSynchronized
  subst hsz
  have hD := hD0.self (sz := s.heap.size)
  generalize hAe : va_A [] s.heap.size = A at hD ⊢
  have hA : ∀ q : Nat, s.heap.size ≤ q → A q := fun q h => by rw [← hAe]; exact Or.inr h
  have hS : va_S A s.heap s.heap [] := va_S.rf
  have hP : va_P (dC, dI) pf_cls [] s.heap := hP
  have hl := lv_entry ([.int x]) (n := 1) (Nat.le_of_ble_eq_true rfl)
  rw [lg_entry_eq]
  generalize (lg_sl ([.int x]) ++ List.replicate (1 - (lg_sl ([.int x])).length) Slot.unset).toArray = ls at hl ⊢
  have hl : lv_has ls 1 [(0, .int x)] := hl
  refine lv_iload_n hx hb dX10_isCost_0 rfl (lv_at hl 0 rfl) ?_
  refine lv_bipush (v := (-100)) hx hb dX10_isCost_1 (by decide +kernel) ?_
  refine lv_bipush (v := 100) hx hb dX10_isCost_3 (by decide +kernel) ?_
  have hPc := hP.sub (ws' := []) [] rfl
  have hDc := hD.sub (ws' := []) [] (by decide +kernel) rfl
  have hFc := va_free (wc := []) hD hS hA [] rfl
  refine va_calli (va_runS (As := [.int x, .int (-100), .int 100]) (rest := []) ⟨hx, hb, hml, hown, hts⟩ (c_m_in l dC dI cI cJ cZ cO s.heap.size x ((-100)) 100) (va_cwS 3 hts (pf_gS mw_357 mw_358 mw_346 mw_359) rfl rfl rfl (by decide +kernel) ⟨Nat.le_of_ble_eq_true rfl, Nat.le_of_ble_eq_true rfl⟩) ⟨fun a U g mk q => by obtain ⟨q0, q1, qP, qK, qD⟩ := q; exact ⟨q0, q1, qP, va_K.moved (u := U) (U := U.calling g mk a) (Vm.Alike.refl U.vm) qK, qD⟩, fun U hU hW => ⟨rfl, by rw [hU], by rw [hU]; exact hPc, va_K.moved hW.alike hK, hDc.weaken (fun _ _ _ _ => trivial)⟩⟩ rfl rfl hl.1 rfl (lv_room (Nat.le_of_ble_eq_true rfl)) dX10_isCost_5 ⟨Nat.le_of_ble_eq_true rfl, Nat.le_of_ble_eq_true rfl⟩) hS (fun q _ h => hFc q h) hFc (fun r0 u t H1 locs ht hvm hw hB hz1 hk1 hS => ?_)
  have hw : (pf_in x (-100) 100) = r0 := (show r0 = (pf_in x (-100) 100) from hw).symm
  subst hw
  obtain ⟨hP1, hD1⟩ := hB
  rw [ht] at hP1
  obtain ⟨hP, hD⟩ := va_join (wr := []) (w1 := []) hP hD [] [] rfl rfl (by decide +kernel) (by decide +kernel) hk1 hFc hP1 hD1
  clear hPc hDc hFc hk1 hz1
  generalize H1 = H at hP hS ⊢
  have hP : va_P (dC, dI) pf_cls [] H := hP
  have hD : va_D A [] := hD
  have hP9 := hP.sub (ws' := []) [] rfl
  have hD9 := hD.sub (ws' := []) [] (by decide +kernel) rfl
  refine W.widen (k := 0) (n := 0) (Nat.le_of_ble_eq_true rfl) (Nat.le_of_ble_eq_true rfl) ?_
  exact W.zret (v := (pf_in x (-100) 100)) hx hb hr (pf_in_nar _ _ _) (fun t ht hW => ⟨⟨_, (), rfl, rfl, (by rw [ht]; exact hP9), hD9⟩, hS.F ht⟩) hS.2.2 dX10_isCost_8
set_option maxHeartbeats 40000000 in
set_option maxRecDepth 100000 in
theorem c_m_isSlope (l : Launch) (dC : Nat → ClassId) (dI : Nat → Nat → Nat) (cI cJ cZ cO : ClassId) (sz : Nat) (x : Int32)  : Met l yX10_isSlope (Cond.code yX10_isSlope cX10_isSlope 1 (some .boolean) :: pf_W) ({ frames := 1, cells := 0, slots := 0, locals := 22 }) (va_Pc [.int x] (fun U => U.heap.size = sz ∧ va_P (dC, dI) pf_cls [] U.heap ∧ va_K (dC, dI) pf_cls (pf_ty cI cJ cZ cO) U ∧ va_D (fun _ => True) [])) (va_Qi (fun (r : Int32) (_ : Unit) => r = (pf_in x (-20) 20)) (fun (_ : Unit) (t : State) => va_P (dC, dI) pf_cls [] t.heap ∧ va_D (va_A [] sz) []) (va_A [] sz)) 0 0 (va_A [] sz) := by
  refine Met.ofW (cc := cX10_isSlope) (maxL := 1) (ret := (some .boolean)) (by decide) rfl ?_
  intro p e s m args below meth c s₁ B hml hv
  obtain ⟨rfl, hsz, hP, hK, hD0⟩ := hv
  have hx := B.exec
  have hb := B.bytes
  have hr := B.returns
  have hts := atoms_spec (ws := Cond.code yX10_isSlope cX10_isSlope 1 (some .boolean) :: pf_W) B.pre
  have hown : s.vm.findClass RX10 = some m.cls := findClass_of_methodNamed B.named
  have hlocks := B.notSynchronized
  subst hsz
  have hD := hD0.self (sz := s.heap.size)
  generalize hAe : va_A [] s.heap.size = A at hD ⊢
  have hA : ∀ q : Nat, s.heap.size ≤ q → A q := fun q h => by rw [← hAe]; exact Or.inr h
  have hS : va_S A s.heap s.heap [] := va_S.rf
  have hP : va_P (dC, dI) pf_cls [] s.heap := hP
  have hl := lv_entry ([.int x]) (n := 1) (Nat.le_of_ble_eq_true rfl)
  rw [lg_entry_eq]
  generalize (lg_sl ([.int x]) ++ List.replicate (1 - (lg_sl ([.int x])).length) Slot.unset).toArray = ls at hl ⊢
  have hl : lv_has ls 1 [(0, .int x)] := hl
  refine lv_iload_n hx hb dX10_isSlope_0 rfl (lv_at hl 0 rfl) ?_
  refine lv_bipush (v := (-20)) hx hb dX10_isSlope_1 (by decide +kernel) ?_
  refine lv_bipush (v := 20) hx hb dX10_isSlope_3 (by decide +kernel) ?_
  have hPc := hP.sub (ws' := []) [] rfl
  have hDc := hD.sub (ws' := []) [] (by decide +kernel) rfl
  have hFc := va_free (wc := []) hD hS hA [] rfl
  refine va_calli (va_runS (As := [.int x, .int (-20), .int 20]) (rest := []) ⟨hx, hb, hml, hown, hts⟩ (c_m_in l dC dI cI cJ cZ cO s.heap.size x ((-20)) 20) (va_cwS 3 hts (pf_gS mw_357 mw_358 mw_346 mw_359) rfl rfl rfl (by decide +kernel) ⟨Nat.le_of_ble_eq_true rfl, Nat.le_of_ble_eq_true rfl⟩) ⟨fun a U g mk q => by obtain ⟨q0, q1, qP, qK, qD⟩ := q; exact ⟨q0, q1, qP, va_K.moved (u := U) (U := U.calling g mk a) (Vm.Alike.refl U.vm) qK, qD⟩, fun U hU hW => ⟨rfl, by rw [hU], by rw [hU]; exact hPc, va_K.moved hW.alike hK, hDc.weaken (fun _ _ _ _ => trivial)⟩⟩ rfl rfl hl.1 rfl (lv_room (Nat.le_of_ble_eq_true rfl)) dX10_isSlope_5 ⟨Nat.le_of_ble_eq_true rfl, Nat.le_of_ble_eq_true rfl⟩) hS (fun q _ h => hFc q h) hFc (fun r0 u t H1 locs ht hvm hw hB hz1 hk1 hS => ?_)
  have hw : (pf_in x (-20) 20) = r0 := (show r0 = (pf_in x (-20) 20) from hw).symm
  subst hw
  obtain ⟨hP1, hD1⟩ := hB
  rw [ht] at hP1
  obtain ⟨hP, hD⟩ := va_join (wr := []) (w1 := []) hP hD [] [] rfl rfl (by decide +kernel) (by decide +kernel) hk1 hFc hP1 hD1
  clear hPc hDc hFc hk1 hz1
  generalize H1 = H at hP hS ⊢
  have hP : va_P (dC, dI) pf_cls [] H := hP
  have hD : va_D A [] := hD
  have hP9 := hP.sub (ws' := []) [] rfl
  have hD9 := hD.sub (ws' := []) [] (by decide +kernel) rfl
  refine W.widen (k := 0) (n := 0) (Nat.le_of_ble_eq_true rfl) (Nat.le_of_ble_eq_true rfl) ?_
  exact W.zret (v := (pf_in x (-20) 20)) hx hb hr (pf_in_nar _ _ _) (fun t ht hW => ⟨⟨_, (), rfl, rfl, (by rw [ht]; exact hP9), hD9⟩, hS.F ht⟩) hS.2.2 dX10_isSlope_8
set_option maxHeartbeats 40000000 in
set_option maxRecDepth 100000 in
theorem c_m_sumOf0 (l : Launch) (dC : Nat → ClassId) (dI : Nat → Nat → Nat) (cI cJ cZ cO : ClassId) (sz : Nat) (mo : Nat) (m3 : Nat) (m4 : Nat) (m5 : Nat) (m6 : Nat) (m7 : Nat) (m8 : Nat) (m9 : Nat) (m11 : Nat) (m12 : Nat) (m13 : Nat) (m14 : Nat) (m15 : Nat) (m16 : Nat) (m17 : Nat) (m18 : Nat) (m19 : Nat) (m20 : Nat) (m21 : Nat) (fu : Int64) (fp : Int32) (m24 : Nat) (m25 : Nat) (m27 : Nat) (m28 : Nat) (m37 : Nat) (m38 : Nat) (fq : Int32) (m40 : Nat) (m41 : Nat) (m42 : Nat) (m43 : Nat) (m44 : Nat) (m45 : Nat) (fl : Int64) (fr : Int64)  : Met l yX10_sumOf (Cond.code yX10_sumOf cX10_sumOf 4 (some .int) :: pf_W) ({ frames := 0, cells := 0, slots := 0, locals := 0 }) (va_Pc [.ref mo, .int 0] (fun U => U.heap.size = sz ∧ va_P (dC, dI) pf_cls [(mo, .inr (10, [.int 2, .int 0, .int 0, .ref m3, .ref m4, .ref m5, .ref m6, .ref m7, .ref m8, .ref m9, .int 0, .ref m11, .ref m12, .ref m13, .ref m14, .ref m15, .ref m16, .ref m17, .ref m18, .ref m19, .ref m20, .ref m21, .long fu, .int fp, .ref m24, .ref m25, .int 0, .ref m27, .ref m28, .int 0, .int 0, .int 0, .long 0, .long 0, .int 0, .long 0, .long 0, .ref m37, .ref m38, .int fq, .ref m40, .ref m41, .ref m42, .ref m43, .ref m44, .ref m45, .long fl, .long fr])), (m8, .inl (cI, 8, .inl (fun _ => 0)))] U.heap ∧ va_K (dC, dI) pf_cls (pf_ty cI cJ cZ cO) U ∧ va_D (fun _ => True) [(mo, .inr (10, [.int 2, .int 0, .int 0, .ref m3, .ref m4, .ref m5, .ref m6, .ref m7, .ref m8, .ref m9, .int 0, .ref m11, .ref m12, .ref m13, .ref m14, .ref m15, .ref m16, .ref m17, .ref m18, .ref m19, .ref m20, .ref m21, .long fu, .int fp, .ref m24, .ref m25, .int 0, .ref m27, .ref m28, .int 0, .int 0, .int 0, .long 0, .long 0, .int 0, .long 0, .long 0, .ref m37, .ref m38, .int fq, .ref m40, .ref m41, .ref m42, .ref m43, .ref m44, .ref m45, .long fl, .long fr])), (m8, .inl (cI, 8, .inl (fun _ => 0)))])) (va_Qi (fun (r : Int32) (_ : Unit) => r = 0) (fun (_ : Unit) (t : State) => va_P (dC, dI) pf_cls [(mo, .inr (10, [.int 2, .int 0, .int 0, .ref m3, .ref m4, .ref m5, .ref m6, .ref m7, .ref m8, .ref m9, .int 0, .ref m11, .ref m12, .ref m13, .ref m14, .ref m15, .ref m16, .ref m17, .ref m18, .ref m19, .ref m20, .ref m21, .long fu, .int fp, .ref m24, .ref m25, .int 0, .ref m27, .ref m28, .int 0, .int 0, .int 0, .long 0, .long 0, .int 0, .long 0, .long 0, .ref m37, .ref m38, .int fq, .ref m40, .ref m41, .ref m42, .ref m43, .ref m44, .ref m45, .long fl, .long fr])), (m8, .inl (cI, 8, .inl (fun _ => 0)))] t.heap ∧ va_D (va_A [(mo, .inr (10, [.int 2, .int 0, .int 0, .ref m3, .ref m4, .ref m5, .ref m6, .ref m7, .ref m8, .ref m9, .int 0, .ref m11, .ref m12, .ref m13, .ref m14, .ref m15, .ref m16, .ref m17, .ref m18, .ref m19, .ref m20, .ref m21, .long fu, .int fp, .ref m24, .ref m25, .int 0, .ref m27, .ref m28, .int 0, .int 0, .int 0, .long 0, .long 0, .int 0, .long 0, .long 0, .ref m37, .ref m38, .int fq, .ref m40, .ref m41, .ref m42, .ref m43, .ref m44, .ref m45, .long fl, .long fr])), (m8, .inl (cI, 8, .inl (fun _ => 0)))] sz) [(mo, .inr (10, [.int 2, .int 0, .int 0, .ref m3, .ref m4, .ref m5, .ref m6, .ref m7, .ref m8, .ref m9, .int 0, .ref m11, .ref m12, .ref m13, .ref m14, .ref m15, .ref m16, .ref m17, .ref m18, .ref m19, .ref m20, .ref m21, .long fu, .int fp, .ref m24, .ref m25, .int 0, .ref m27, .ref m28, .int 0, .int 0, .int 0, .long 0, .long 0, .int 0, .long 0, .long 0, .ref m37, .ref m38, .int fq, .ref m40, .ref m41, .ref m42, .ref m43, .ref m44, .ref m45, .long fl, .long fr])), (m8, .inl (cI, 8, .inl (fun _ => 0)))]) (va_A [(mo, .inr (10, [.int 2, .int 0, .int 0, .ref m3, .ref m4, .ref m5, .ref m6, .ref m7, .ref m8, .ref m9, .int 0, .ref m11, .ref m12, .ref m13, .ref m14, .ref m15, .ref m16, .ref m17, .ref m18, .ref m19, .ref m20, .ref m21, .long fu, .int fp, .ref m24, .ref m25, .int 0, .ref m27, .ref m28, .int 0, .int 0, .int 0, .long 0, .long 0, .int 0, .long 0, .long 0, .ref m37, .ref m38, .int fq, .ref m40, .ref m41, .ref m42, .ref m43, .ref m44, .ref m45, .long fl, .long fr])), (m8, .inl (cI, 8, .inl (fun _ => 0)))] sz)) 0 0 (va_A [(mo, .inr (10, [.int 2, .int 0, .int 0, .ref m3, .ref m4, .ref m5, .ref m6, .ref m7, .ref m8, .ref m9, .int 0, .ref m11, .ref m12, .ref m13, .ref m14, .ref m15, .ref m16, .ref m17, .ref m18, .ref m19, .ref m20, .ref m21, .long fu, .int fp, .ref m24, .ref m25, .int 0, .ref m27, .ref m28, .int 0, .int 0, .int 0, .long 0, .long 0, .int 0, .long 0, .long 0, .ref m37, .ref m38, .int fq, .ref m40, .ref m41, .ref m42, .ref m43, .ref m44, .ref m45, .long fl, .long fr])), (m8, .inl (cI, 8, .inl (fun _ => 0)))] sz) := by
  refine Met.ofW (cc := cX10_sumOf) (maxL := 4) (ret := (some .int)) (by decide) rfl ?_
  intro p e s m args below meth c s₁ B hml hv
  obtain ⟨rfl, hsz, hP, hK, hD0⟩ := hv
  have hx := B.exec
  have hb := B.bytes
  have hr := B.returns
  have hts := atoms_spec (ws := Cond.code yX10_sumOf cX10_sumOf 4 (some .int) :: pf_W) B.pre
  have hown : s.vm.findClass RX10 = some m.cls := findClass_of_methodNamed B.named
  have hlocks := B.notSynchronized
  subst hsz
  have hD := hD0.self (sz := s.heap.size)
  generalize hAe : va_A [(mo, .inr (10, [.int 2, .int 0, .int 0, .ref m3, .ref m4, .ref m5, .ref m6, .ref m7, .ref m8, .ref m9, .int 0, .ref m11, .ref m12, .ref m13, .ref m14, .ref m15, .ref m16, .ref m17, .ref m18, .ref m19, .ref m20, .ref m21, .long fu, .int fp, .ref m24, .ref m25, .int 0, .ref m27, .ref m28, .int 0, .int 0, .int 0, .long 0, .long 0, .int 0, .long 0, .long 0, .ref m37, .ref m38, .int fq, .ref m40, .ref m41, .ref m42, .ref m43, .ref m44, .ref m45, .long fl, .long fr])), (m8, .inl (cI, 8, .inl (fun _ => 0)))] s.heap.size = A at hD ⊢
  have hA : ∀ q : Nat, s.heap.size ≤ q → A q := fun q h => by rw [← hAe]; exact Or.inr h
  have hS : va_S A s.heap s.heap [] := va_S.rf
  have hP : va_P (dC, dI) pf_cls [(mo, .inr (10, [.int 2, .int 0, .int 0, .ref m3, .ref m4, .ref m5, .ref m6, .ref m7, .ref m8, .ref m9, .int 0, .ref m11, .ref m12, .ref m13, .ref m14, .ref m15, .ref m16, .ref m17, .ref m18, .ref m19, .ref m20, .ref m21, .long fu, .int fp, .ref m24, .ref m25, .int 0, .ref m27, .ref m28, .int 0, .int 0, .int 0, .long 0, .long 0, .int 0, .long 0, .long 0, .ref m37, .ref m38, .int fq, .ref m40, .ref m41, .ref m42, .ref m43, .ref m44, .ref m45, .long fl, .long fr])), (m8, .inl (cI, 8, .inl (fun _ => 0)))] s.heap := hP
  have hl := lv_entry ([.ref mo, .int 0]) (n := 4) (Nat.le_of_ble_eq_true rfl)
  rw [lg_entry_eq]
  generalize (lg_sl ([.ref mo, .int 0]) ++ List.replicate (4 - (lg_sl ([.ref mo, .int 0])).length) Slot.unset).toArray = ls at hl ⊢
  have hl : lv_has ls 4 [(0, .ref mo), (1, .int 0)] := hl
  refine lv_iconst (v := 0) hx hb dX10_sumOf_0 (by decide) ?_
  refine lv_istore_n (lv' := [(2, .int 0), (0, .ref mo), (1, .int 0)]) hx hb dX10_sumOf_1 rfl hl (by decide) rfl (fun ls hl => ?_)
  refine lv_iconst (v := 0) hx hb dX10_sumOf_2 (by decide) ?_
  refine lv_istore_n (lv' := [(3, .int 0), (2, .int 0), (0, .ref mo), (1, .int 0)]) hx hb dX10_sumOf_3 rfl hl (by decide) rfl (fun ls hl => ?_)
  refine lv_iload_n hx hb dX10_sumOf_4 rfl (lv_at hl 0 rfl) ?_
  refine lv_aload_n hx hb dX10_sumOf_5 rfl (lv_at hl 2 rfl) ?_
  refine va_get (D := (dC, dI)) (ci := 10) (v := .int 2) (C := RX10) (T := TX10) (N := 48) hx hb hts (fun w h => List.mem_cons_of_mem _ (ic_X10 w h)) hown hK hP 0 rfl rfl 0 (by decide) (hts _ (List.mem_cons_of_mem _ mw_351)) (fun _ h9 => h9) rfl dX10_sumOf_6 ?_
  refine lv_icmp_ge (tgt := 40) hx hb dX10_sumOf_9 (by decide) (fun c0 => absurd c0 (by decide +kernel)) (fun _ => ?_)
  refine lv_iload_n hx hb dX10_sumOf_12 rfl (lv_at hl 1 rfl) ?_
  refine lv_iload_n hx hb dX10_sumOf_13 rfl (lv_at hl 3 rfl) ?_
  refine lv_if_eq (tgt := 26) hx hb dX10_sumOf_14 (by decide) (fun _ => ?_) (fun c1 => absurd (by decide +kernel) c1)
  refine lv_aload_n hx hb dX10_sumOf_26 rfl (lv_at hl 2 rfl) ?_
  refine va_get (D := (dC, dI)) (ci := 10) (v := .ref m8) (C := RX10) (T := TX10) (N := 48) hx hb hts (fun w h => List.mem_cons_of_mem _ (ic_X10 w h)) hown hK hP 0 rfl rfl 8 (by decide) (hts _ (List.mem_cons_of_mem _ mw_354)) (fun _ h9 => h9) rfl dX10_sumOf_27 ?_
  refine lv_iload_n hx hb dX10_sumOf_30 rfl (lv_at hl 0 rfl) ?_
  refine pf_iald (v := 0) hx hb hK hP 1 0 0 rfl rfl (by decide +kernel) (by decide +kernel) (by decide) rfl dX10_sumOf_31 ?_
  refine lv_iadd hx hb dX10_sumOf_32 ?_
  refine pf_topi (v := 0) (by decide +kernel) ?_
  refine lv_istore_n (lv' := [(2, .int 0), (3, .int 0), (0, .ref mo), (1, .int 0)]) hx hb dX10_sumOf_33 rfl hl (by decide) rfl (fun ls hl => ?_)
  refine lv_iinc (v := 1) (lv' := [(3, .int 1), (2, .int 0), (0, .ref mo), (1, .int 0)]) hx hb dX10_sumOf_34 hl (k := 1) rfl (by decide +kernel) (by decide) rfl (fun ls hl => ?_)
  refine lv_goto (tgt := 4) hx hb dX10_sumOf_37 (by decide) ?_
  refine lv_iload_n hx hb dX10_sumOf_4 rfl (lv_at hl 0 rfl) ?_
  refine lv_aload_n hx hb dX10_sumOf_5 rfl (lv_at hl 2 rfl) ?_
  refine va_get (D := (dC, dI)) (ci := 10) (v := .int 2) (C := RX10) (T := TX10) (N := 48) hx hb hts (fun w h => List.mem_cons_of_mem _ (ic_X10 w h)) hown hK hP 0 rfl rfl 0 (by decide) (hts _ (List.mem_cons_of_mem _ mw_351)) (fun _ h9 => h9) rfl dX10_sumOf_6 ?_
  refine lv_icmp_ge (tgt := 40) hx hb dX10_sumOf_9 (by decide) (fun c2 => absurd c2 (by decide +kernel)) (fun _ => ?_)
  refine lv_iload_n hx hb dX10_sumOf_12 rfl (lv_at hl 1 rfl) ?_
  refine lv_iload_n hx hb dX10_sumOf_13 rfl (lv_at hl 3 rfl) ?_
  refine lv_if_eq (tgt := 26) hx hb dX10_sumOf_14 (by decide) (fun _ => ?_) (fun c3 => absurd (by decide +kernel) c3)
  refine lv_aload_n hx hb dX10_sumOf_26 rfl (lv_at hl 2 rfl) ?_
  refine va_get (D := (dC, dI)) (ci := 10) (v := .ref m8) (C := RX10) (T := TX10) (N := 48) hx hb hts (fun w h => List.mem_cons_of_mem _ (ic_X10 w h)) hown hK hP 0 rfl rfl 8 (by decide) (hts _ (List.mem_cons_of_mem _ mw_354)) (fun _ h9 => h9) rfl dX10_sumOf_27 ?_
  refine lv_iload_n hx hb dX10_sumOf_30 rfl (lv_at hl 0 rfl) ?_
  refine pf_iald (v := 0) hx hb hK hP 1 0 1 rfl rfl (by decide +kernel) (by decide +kernel) (by decide) rfl dX10_sumOf_31 ?_
  refine lv_iadd hx hb dX10_sumOf_32 ?_
  refine pf_topi (v := 0) (by decide +kernel) ?_
  refine lv_istore_n (lv' := [(2, .int 0), (3, .int 1), (0, .ref mo), (1, .int 0)]) hx hb dX10_sumOf_33 rfl hl (by decide) rfl (fun ls hl => ?_)
  refine lv_iinc (v := 2) (lv' := [(3, .int 2), (2, .int 0), (0, .ref mo), (1, .int 0)]) hx hb dX10_sumOf_34 hl (k := 1) rfl (by decide +kernel) (by decide) rfl (fun ls hl => ?_)
  refine lv_goto (tgt := 4) hx hb dX10_sumOf_37 (by decide) ?_
  refine lv_iload_n hx hb dX10_sumOf_4 rfl (lv_at hl 0 rfl) ?_
  refine lv_aload_n hx hb dX10_sumOf_5 rfl (lv_at hl 2 rfl) ?_
  refine va_get (D := (dC, dI)) (ci := 10) (v := .int 2) (C := RX10) (T := TX10) (N := 48) hx hb hts (fun w h => List.mem_cons_of_mem _ (ic_X10 w h)) hown hK hP 0 rfl rfl 0 (by decide) (hts _ (List.mem_cons_of_mem _ mw_351)) (fun _ h9 => h9) rfl dX10_sumOf_6 ?_
  refine lv_icmp_ge (tgt := 40) hx hb dX10_sumOf_9 (by decide) (fun _ => ?_) (fun c4 => absurd (by decide +kernel) c4)
  refine lv_iload_n hx hb dX10_sumOf_40 rfl (lv_at hl 1 rfl) ?_
  have hP9 := hP.sub (ws' := [(mo, .inr (10, [.int 2, .int 0, .int 0, .ref m3, .ref m4, .ref m5, .ref m6, .ref m7, .ref m8, .ref m9, .int 0, .ref m11, .ref m12, .ref m13, .ref m14, .ref m15, .ref m16, .ref m17, .ref m18, .ref m19, .ref m20, .ref m21, .long fu, .int fp, .ref m24, .ref m25, .int 0, .ref m27, .ref m28, .int 0, .int 0, .int 0, .long 0, .long 0, .int 0, .long 0, .long 0, .ref m37, .ref m38, .int fq, .ref m40, .ref m41, .ref m42, .ref m43, .ref m44, .ref m45, .long fl, .long fr])), (m8, .inl (cI, 8, .inl (fun _ => 0)))]) [0, 1] rfl
  have hD9 := hD.sub (ws' := [(mo, .inr (10, [.int 2, .int 0, .int 0, .ref m3, .ref m4, .ref m5, .ref m6, .ref m7, .ref m8, .ref m9, .int 0, .ref m11, .ref m12, .ref m13, .ref m14, .ref m15, .ref m16, .ref m17, .ref m18, .ref m19, .ref m20, .ref m21, .long fu, .int fp, .ref m24, .ref m25, .int 0, .ref m27, .ref m28, .int 0, .int 0, .int 0, .long 0, .long 0, .int 0, .long 0, .long 0, .ref m37, .ref m38, .int fq, .ref m40, .ref m41, .ref m42, .ref m43, .ref m44, .ref m45, .long fl, .long fr])), (m8, .inl (cI, 8, .inl (fun _ => 0)))]) [0, 1] (by decide +kernel) rfl
  refine W.widen (k := 0) (n := 0) (Nat.le_of_ble_eq_true rfl) (Nat.le_of_ble_eq_true rfl) ?_
  exact W.iret (v := 0) hx hb hr (fun t ht hW => ⟨⟨_, (), rfl, rfl, (by rw [ht]; exact hP9), hD9⟩, hS.F ht⟩) hS.2.2 dX10_sumOf_41
set_option maxHeartbeats 40000000 in
set_option maxRecDepth 100000 in
theorem c_m_sumOf1 (l : Launch) (dC : Nat → ClassId) (dI : Nat → Nat → Nat) (cI cJ cZ cO : ClassId) (sz : Nat) (mo : Nat) (m3 : Nat) (m4 : Nat) (m5 : Nat) (m6 : Nat) (m7 : Nat) (m8 : Nat) (m9 : Nat) (m11 : Nat) (m12 : Nat) (m13 : Nat) (m14 : Nat) (m15 : Nat) (m16 : Nat) (m17 : Nat) (m18 : Nat) (m19 : Nat) (m20 : Nat) (m21 : Nat) (fu : Int64) (fp : Int32) (m24 : Nat) (m25 : Nat) (m27 : Nat) (m28 : Nat) (m37 : Nat) (m38 : Nat) (fq : Int32) (m40 : Nat) (m41 : Nat) (m42 : Nat) (m43 : Nat) (m44 : Nat) (m45 : Nat) (fl : Int64) (fr : Int64)  : Met l yX10_sumOf (Cond.code yX10_sumOf cX10_sumOf 4 (some .int) :: pf_W) ({ frames := 0, cells := 0, slots := 0, locals := 0 }) (va_Pc [.ref mo, .int 1] (fun U => U.heap.size = sz ∧ va_P (dC, dI) pf_cls [(mo, .inr (10, [.int 2, .int 0, .int 0, .ref m3, .ref m4, .ref m5, .ref m6, .ref m7, .ref m8, .ref m9, .int 0, .ref m11, .ref m12, .ref m13, .ref m14, .ref m15, .ref m16, .ref m17, .ref m18, .ref m19, .ref m20, .ref m21, .long fu, .int fp, .ref m24, .ref m25, .int 0, .ref m27, .ref m28, .int 0, .int 0, .int 0, .long 0, .long 0, .int 0, .long 0, .long 0, .ref m37, .ref m38, .int fq, .ref m40, .ref m41, .ref m42, .ref m43, .ref m44, .ref m45, .long fl, .long fr])), (m9, .inl (cI, 8, .inl (fun _ => 0)))] U.heap ∧ va_K (dC, dI) pf_cls (pf_ty cI cJ cZ cO) U ∧ va_D (fun _ => True) [(mo, .inr (10, [.int 2, .int 0, .int 0, .ref m3, .ref m4, .ref m5, .ref m6, .ref m7, .ref m8, .ref m9, .int 0, .ref m11, .ref m12, .ref m13, .ref m14, .ref m15, .ref m16, .ref m17, .ref m18, .ref m19, .ref m20, .ref m21, .long fu, .int fp, .ref m24, .ref m25, .int 0, .ref m27, .ref m28, .int 0, .int 0, .int 0, .long 0, .long 0, .int 0, .long 0, .long 0, .ref m37, .ref m38, .int fq, .ref m40, .ref m41, .ref m42, .ref m43, .ref m44, .ref m45, .long fl, .long fr])), (m9, .inl (cI, 8, .inl (fun _ => 0)))])) (va_Qi (fun (r : Int32) (_ : Unit) => r = 0) (fun (_ : Unit) (t : State) => va_P (dC, dI) pf_cls [(mo, .inr (10, [.int 2, .int 0, .int 0, .ref m3, .ref m4, .ref m5, .ref m6, .ref m7, .ref m8, .ref m9, .int 0, .ref m11, .ref m12, .ref m13, .ref m14, .ref m15, .ref m16, .ref m17, .ref m18, .ref m19, .ref m20, .ref m21, .long fu, .int fp, .ref m24, .ref m25, .int 0, .ref m27, .ref m28, .int 0, .int 0, .int 0, .long 0, .long 0, .int 0, .long 0, .long 0, .ref m37, .ref m38, .int fq, .ref m40, .ref m41, .ref m42, .ref m43, .ref m44, .ref m45, .long fl, .long fr])), (m9, .inl (cI, 8, .inl (fun _ => 0)))] t.heap ∧ va_D (va_A [(mo, .inr (10, [.int 2, .int 0, .int 0, .ref m3, .ref m4, .ref m5, .ref m6, .ref m7, .ref m8, .ref m9, .int 0, .ref m11, .ref m12, .ref m13, .ref m14, .ref m15, .ref m16, .ref m17, .ref m18, .ref m19, .ref m20, .ref m21, .long fu, .int fp, .ref m24, .ref m25, .int 0, .ref m27, .ref m28, .int 0, .int 0, .int 0, .long 0, .long 0, .int 0, .long 0, .long 0, .ref m37, .ref m38, .int fq, .ref m40, .ref m41, .ref m42, .ref m43, .ref m44, .ref m45, .long fl, .long fr])), (m9, .inl (cI, 8, .inl (fun _ => 0)))] sz) [(mo, .inr (10, [.int 2, .int 0, .int 0, .ref m3, .ref m4, .ref m5, .ref m6, .ref m7, .ref m8, .ref m9, .int 0, .ref m11, .ref m12, .ref m13, .ref m14, .ref m15, .ref m16, .ref m17, .ref m18, .ref m19, .ref m20, .ref m21, .long fu, .int fp, .ref m24, .ref m25, .int 0, .ref m27, .ref m28, .int 0, .int 0, .int 0, .long 0, .long 0, .int 0, .long 0, .long 0, .ref m37, .ref m38, .int fq, .ref m40, .ref m41, .ref m42, .ref m43, .ref m44, .ref m45, .long fl, .long fr])), (m9, .inl (cI, 8, .inl (fun _ => 0)))]) (va_A [(mo, .inr (10, [.int 2, .int 0, .int 0, .ref m3, .ref m4, .ref m5, .ref m6, .ref m7, .ref m8, .ref m9, .int 0, .ref m11, .ref m12, .ref m13, .ref m14, .ref m15, .ref m16, .ref m17, .ref m18, .ref m19, .ref m20, .ref m21, .long fu, .int fp, .ref m24, .ref m25, .int 0, .ref m27, .ref m28, .int 0, .int 0, .int 0, .long 0, .long 0, .int 0, .long 0, .long 0, .ref m37, .ref m38, .int fq, .ref m40, .ref m41, .ref m42, .ref m43, .ref m44, .ref m45, .long fl, .long fr])), (m9, .inl (cI, 8, .inl (fun _ => 0)))] sz)) 0 0 (va_A [(mo, .inr (10, [.int 2, .int 0, .int 0, .ref m3, .ref m4, .ref m5, .ref m6, .ref m7, .ref m8, .ref m9, .int 0, .ref m11, .ref m12, .ref m13, .ref m14, .ref m15, .ref m16, .ref m17, .ref m18, .ref m19, .ref m20, .ref m21, .long fu, .int fp, .ref m24, .ref m25, .int 0, .ref m27, .ref m28, .int 0, .int 0, .int 0, .long 0, .long 0, .int 0, .long 0, .long 0, .ref m37, .ref m38, .int fq, .ref m40, .ref m41, .ref m42, .ref m43, .ref m44, .ref m45, .long fl, .long fr])), (m9, .inl (cI, 8, .inl (fun _ => 0)))] sz) := by
  refine Met.ofW (cc := cX10_sumOf) (maxL := 4) (ret := (some .int)) (by decide) rfl ?_
  intro p e s m args below meth c s₁ B hml hv
  obtain ⟨rfl, hsz, hP, hK, hD0⟩ := hv
  have hx := B.exec
  have hb := B.bytes
  have hr := B.returns
  have hts := atoms_spec (ws := Cond.code yX10_sumOf cX10_sumOf 4 (some .int) :: pf_W) B.pre
  have hown : s.vm.findClass RX10 = some m.cls := findClass_of_methodNamed B.named
  have hlocks := B.notSynchronized
  subst hsz
  have hD := hD0.self (sz := s.heap.size)
  generalize hAe : va_A [(mo, .inr (10, [.int 2, .int 0, .int 0, .ref m3, .ref m4, .ref m5, .ref m6, .ref m7, .ref m8, .ref m9, .int 0, .ref m11, .ref m12, .ref m13, .ref m14, .ref m15, .ref m16, .ref m17, .ref m18, .ref m19, .ref m20, .ref m21, .long fu, .int fp, .ref m24, .ref m25, .int 0, .ref m27, .ref m28, .int 0, .int 0, .int 0, .long 0, .long 0, .int 0, .long 0, .long 0, .ref m37, .ref m38, .int fq, .ref m40, .ref m41, .ref m42, .ref m43, .ref m44, .ref m45, .long fl, .long fr])), (m9, .inl (cI, 8, .inl (fun _ => 0)))] s.heap.size = A at hD ⊢
  have hA : ∀ q : Nat, s.heap.size ≤ q → A q := fun q h => by rw [← hAe]; exact Or.inr h
  have hS : va_S A s.heap s.heap [] := va_S.rf
  have hP : va_P (dC, dI) pf_cls [(mo, .inr (10, [.int 2, .int 0, .int 0, .ref m3, .ref m4, .ref m5, .ref m6, .ref m7, .ref m8, .ref m9, .int 0, .ref m11, .ref m12, .ref m13, .ref m14, .ref m15, .ref m16, .ref m17, .ref m18, .ref m19, .ref m20, .ref m21, .long fu, .int fp, .ref m24, .ref m25, .int 0, .ref m27, .ref m28, .int 0, .int 0, .int 0, .long 0, .long 0, .int 0, .long 0, .long 0, .ref m37, .ref m38, .int fq, .ref m40, .ref m41, .ref m42, .ref m43, .ref m44, .ref m45, .long fl, .long fr])), (m9, .inl (cI, 8, .inl (fun _ => 0)))] s.heap := hP
  have hl := lv_entry ([.ref mo, .int 1]) (n := 4) (Nat.le_of_ble_eq_true rfl)
  rw [lg_entry_eq]
  generalize (lg_sl ([.ref mo, .int 1]) ++ List.replicate (4 - (lg_sl ([.ref mo, .int 1])).length) Slot.unset).toArray = ls at hl ⊢
  have hl : lv_has ls 4 [(0, .ref mo), (1, .int 1)] := hl
  refine lv_iconst (v := 0) hx hb dX10_sumOf_0 (by decide) ?_
  refine lv_istore_n (lv' := [(2, .int 0), (0, .ref mo), (1, .int 1)]) hx hb dX10_sumOf_1 rfl hl (by decide) rfl (fun ls hl => ?_)
  refine lv_iconst (v := 0) hx hb dX10_sumOf_2 (by decide) ?_
  refine lv_istore_n (lv' := [(3, .int 0), (2, .int 0), (0, .ref mo), (1, .int 1)]) hx hb dX10_sumOf_3 rfl hl (by decide) rfl (fun ls hl => ?_)
  refine lv_iload_n hx hb dX10_sumOf_4 rfl (lv_at hl 0 rfl) ?_
  refine lv_aload_n hx hb dX10_sumOf_5 rfl (lv_at hl 2 rfl) ?_
  refine va_get (D := (dC, dI)) (ci := 10) (v := .int 2) (C := RX10) (T := TX10) (N := 48) hx hb hts (fun w h => List.mem_cons_of_mem _ (ic_X10 w h)) hown hK hP 0 rfl rfl 0 (by decide) (hts _ (List.mem_cons_of_mem _ mw_351)) (fun _ h9 => h9) rfl dX10_sumOf_6 ?_
  refine lv_icmp_ge (tgt := 40) hx hb dX10_sumOf_9 (by decide) (fun c0 => absurd c0 (by decide +kernel)) (fun _ => ?_)
  refine lv_iload_n hx hb dX10_sumOf_12 rfl (lv_at hl 1 rfl) ?_
  refine lv_iload_n hx hb dX10_sumOf_13 rfl (lv_at hl 3 rfl) ?_
  refine lv_if_eq (tgt := 26) hx hb dX10_sumOf_14 (by decide) (fun c1 => absurd c1 (by decide +kernel)) (fun _ => ?_)
  refine lv_aload_n hx hb dX10_sumOf_17 rfl (lv_at hl 2 rfl) ?_
  refine va_get (D := (dC, dI)) (ci := 10) (v := .ref m9) (C := RX10) (T := TX10) (N := 48) hx hb hts (fun w h => List.mem_cons_of_mem _ (ic_X10 w h)) hown hK hP 0 rfl rfl 9 (by decide) (hts _ (List.mem_cons_of_mem _ mw_355)) (fun _ h9 => h9) rfl dX10_sumOf_18 ?_
  refine lv_iload_n hx hb dX10_sumOf_21 rfl (lv_at hl 0 rfl) ?_
  refine pf_iald (v := 0) hx hb hK hP 1 0 0 rfl rfl (by decide +kernel) (by decide +kernel) (by decide) rfl dX10_sumOf_22 ?_
  refine lv_goto (tgt := 32) hx hb dX10_sumOf_23 (by decide) ?_
  refine lv_iadd hx hb dX10_sumOf_32 ?_
  refine pf_topi (v := 0) (by decide +kernel) ?_
  refine lv_istore_n (lv' := [(2, .int 0), (3, .int 0), (0, .ref mo), (1, .int 1)]) hx hb dX10_sumOf_33 rfl hl (by decide) rfl (fun ls hl => ?_)
  refine lv_iinc (v := 1) (lv' := [(3, .int 1), (2, .int 0), (0, .ref mo), (1, .int 1)]) hx hb dX10_sumOf_34 hl (k := 1) rfl (by decide +kernel) (by decide) rfl (fun ls hl => ?_)
  refine lv_goto (tgt := 4) hx hb dX10_sumOf_37 (by decide) ?_
  refine lv_iload_n hx hb dX10_sumOf_4 rfl (lv_at hl 0 rfl) ?_
  refine lv_aload_n hx hb dX10_sumOf_5 rfl (lv_at hl 2 rfl) ?_
  refine va_get (D := (dC, dI)) (ci := 10) (v := .int 2) (C := RX10) (T := TX10) (N := 48) hx hb hts (fun w h => List.mem_cons_of_mem _ (ic_X10 w h)) hown hK hP 0 rfl rfl 0 (by decide) (hts _ (List.mem_cons_of_mem _ mw_351)) (fun _ h9 => h9) rfl dX10_sumOf_6 ?_
  refine lv_icmp_ge (tgt := 40) hx hb dX10_sumOf_9 (by decide) (fun c2 => absurd c2 (by decide +kernel)) (fun _ => ?_)
  refine lv_iload_n hx hb dX10_sumOf_12 rfl (lv_at hl 1 rfl) ?_
  refine lv_iload_n hx hb dX10_sumOf_13 rfl (lv_at hl 3 rfl) ?_
  refine lv_if_eq (tgt := 26) hx hb dX10_sumOf_14 (by decide) (fun c3 => absurd c3 (by decide +kernel)) (fun _ => ?_)
  refine lv_aload_n hx hb dX10_sumOf_17 rfl (lv_at hl 2 rfl) ?_
  refine va_get (D := (dC, dI)) (ci := 10) (v := .ref m9) (C := RX10) (T := TX10) (N := 48) hx hb hts (fun w h => List.mem_cons_of_mem _ (ic_X10 w h)) hown hK hP 0 rfl rfl 9 (by decide) (hts _ (List.mem_cons_of_mem _ mw_355)) (fun _ h9 => h9) rfl dX10_sumOf_18 ?_
  refine lv_iload_n hx hb dX10_sumOf_21 rfl (lv_at hl 0 rfl) ?_
  refine pf_iald (v := 0) hx hb hK hP 1 0 1 rfl rfl (by decide +kernel) (by decide +kernel) (by decide) rfl dX10_sumOf_22 ?_
  refine lv_goto (tgt := 32) hx hb dX10_sumOf_23 (by decide) ?_
  refine lv_iadd hx hb dX10_sumOf_32 ?_
  refine pf_topi (v := 0) (by decide +kernel) ?_
  refine lv_istore_n (lv' := [(2, .int 0), (3, .int 1), (0, .ref mo), (1, .int 1)]) hx hb dX10_sumOf_33 rfl hl (by decide) rfl (fun ls hl => ?_)
  refine lv_iinc (v := 2) (lv' := [(3, .int 2), (2, .int 0), (0, .ref mo), (1, .int 1)]) hx hb dX10_sumOf_34 hl (k := 1) rfl (by decide +kernel) (by decide) rfl (fun ls hl => ?_)
  refine lv_goto (tgt := 4) hx hb dX10_sumOf_37 (by decide) ?_
  refine lv_iload_n hx hb dX10_sumOf_4 rfl (lv_at hl 0 rfl) ?_
  refine lv_aload_n hx hb dX10_sumOf_5 rfl (lv_at hl 2 rfl) ?_
  refine va_get (D := (dC, dI)) (ci := 10) (v := .int 2) (C := RX10) (T := TX10) (N := 48) hx hb hts (fun w h => List.mem_cons_of_mem _ (ic_X10 w h)) hown hK hP 0 rfl rfl 0 (by decide) (hts _ (List.mem_cons_of_mem _ mw_351)) (fun _ h9 => h9) rfl dX10_sumOf_6 ?_
  refine lv_icmp_ge (tgt := 40) hx hb dX10_sumOf_9 (by decide) (fun _ => ?_) (fun c4 => absurd (by decide +kernel) c4)
  refine lv_iload_n hx hb dX10_sumOf_40 rfl (lv_at hl 1 rfl) ?_
  have hP9 := hP.sub (ws' := [(mo, .inr (10, [.int 2, .int 0, .int 0, .ref m3, .ref m4, .ref m5, .ref m6, .ref m7, .ref m8, .ref m9, .int 0, .ref m11, .ref m12, .ref m13, .ref m14, .ref m15, .ref m16, .ref m17, .ref m18, .ref m19, .ref m20, .ref m21, .long fu, .int fp, .ref m24, .ref m25, .int 0, .ref m27, .ref m28, .int 0, .int 0, .int 0, .long 0, .long 0, .int 0, .long 0, .long 0, .ref m37, .ref m38, .int fq, .ref m40, .ref m41, .ref m42, .ref m43, .ref m44, .ref m45, .long fl, .long fr])), (m9, .inl (cI, 8, .inl (fun _ => 0)))]) [0, 1] rfl
  have hD9 := hD.sub (ws' := [(mo, .inr (10, [.int 2, .int 0, .int 0, .ref m3, .ref m4, .ref m5, .ref m6, .ref m7, .ref m8, .ref m9, .int 0, .ref m11, .ref m12, .ref m13, .ref m14, .ref m15, .ref m16, .ref m17, .ref m18, .ref m19, .ref m20, .ref m21, .long fu, .int fp, .ref m24, .ref m25, .int 0, .ref m27, .ref m28, .int 0, .int 0, .int 0, .long 0, .long 0, .int 0, .long 0, .long 0, .ref m37, .ref m38, .int fq, .ref m40, .ref m41, .ref m42, .ref m43, .ref m44, .ref m45, .long fl, .long fr])), (m9, .inl (cI, 8, .inl (fun _ => 0)))]) [0, 1] (by decide +kernel) rfl
  refine W.widen (k := 0) (n := 0) (Nat.le_of_ble_eq_true rfl) (Nat.le_of_ble_eq_true rfl) ?_
  exact W.iret (v := 0) hx hb hr (fun t ht hW => ⟨⟨_, (), rfl, rfl, (by rw [ht]; exact hP9), hD9⟩, hS.F ht⟩) hS.2.2 dX10_sumOf_41
set_option maxHeartbeats 40000000 in
set_option maxRecDepth 100000 in
theorem c_m_isParameter (l : Launch) (dC : Nat → ClassId) (dI : Nat → Nat → Nat) (cI cJ cZ cO : ClassId) (sz : Nat) (pp : Int32) (q : Int32)  : Met l yX10_isParameter (Cond.code yX10_isParameter cX10_isParameter 2 (some .boolean) :: pf_W) ({ frames := 1, cells := 0, slots := 0, locals := 22 }) (va_Pc [.int pp, .int q] (fun U => U.heap.size = sz ∧ va_P (dC, dI) pf_cls [] U.heap ∧ va_K (dC, dI) pf_cls (pf_ty cI cJ cZ cO) U ∧ va_D (fun _ => True) [])) (va_Qi (fun (r : Int32) (_ : Unit) => r = (pf_par pp q)) (fun (_ : Unit) (t : State) => va_P (dC, dI) pf_cls [] t.heap ∧ va_D (va_A [] sz) []) (va_A [] sz)) 0 0 (va_A [] sz) := by
  refine Met.ofW (cc := cX10_isParameter) (maxL := 2) (ret := (some .boolean)) (by decide) rfl ?_
  intro p e s m args below meth c s₁ B hml hv
  obtain ⟨rfl, hsz, hP, hK, hD0⟩ := hv
  have hx := B.exec
  have hb := B.bytes
  have hr := B.returns
  have hts := atoms_spec (ws := Cond.code yX10_isParameter cX10_isParameter 2 (some .boolean) :: pf_W) B.pre
  have hown : s.vm.findClass RX10 = some m.cls := findClass_of_methodNamed B.named
  have hlocks := B.notSynchronized
  subst hsz
  have hD := hD0.self (sz := s.heap.size)
  generalize hAe : va_A [] s.heap.size = A at hD ⊢
  have hA : ∀ q : Nat, s.heap.size ≤ q → A q := fun q h => by rw [← hAe]; exact Or.inr h
  have hS : va_S A s.heap s.heap [] := va_S.rf
  have hP : va_P (dC, dI) pf_cls [] s.heap := hP
  have hl := lv_entry ([.int pp, .int q]) (n := 2) (Nat.le_of_ble_eq_true rfl)
  rw [lg_entry_eq]
  generalize (lg_sl ([.int pp, .int q]) ++ List.replicate (2 - (lg_sl ([.int pp, .int q])).length) Slot.unset).toArray = ls at hl ⊢
  have hl : lv_has ls 2 [(0, .int pp), (1, .int q)] := hl
  refine lv_iload_n hx hb dX10_isParameter_0 rfl (lv_at hl 0 rfl) ?_
  refine lv_sipush (v := (-10000)) hx hb dX10_isParameter_1 (by decide +kernel) ?_
  refine lv_sipush (v := 10000) hx hb dX10_isParameter_4 (by decide +kernel) ?_
  have hPc := hP.sub (ws' := []) [] rfl
  have hDc := hD.sub (ws' := []) [] (by decide +kernel) rfl
  have hFc := va_free (wc := []) hD hS hA [] rfl
  refine va_calli (va_runS (As := [.int pp, .int (-10000), .int 10000]) (rest := []) ⟨hx, hb, hml, hown, hts⟩ (c_m_in l dC dI cI cJ cZ cO s.heap.size pp ((-10000)) 10000) (va_cwS 3 hts (pf_gS mw_357 mw_358 mw_346 mw_359) rfl rfl rfl (by decide +kernel) ⟨Nat.le_of_ble_eq_true rfl, Nat.le_of_ble_eq_true rfl⟩) ⟨fun a U g mk q => by obtain ⟨q0, q1, qP, qK, qD⟩ := q; exact ⟨q0, q1, qP, va_K.moved (u := U) (U := U.calling g mk a) (Vm.Alike.refl U.vm) qK, qD⟩, fun U hU hW => ⟨rfl, by rw [hU], by rw [hU]; exact hPc, va_K.moved hW.alike hK, hDc.weaken (fun _ _ _ _ => trivial)⟩⟩ rfl rfl hl.1 rfl (lv_room (Nat.le_of_ble_eq_true rfl)) dX10_isParameter_7 ⟨Nat.le_of_ble_eq_true rfl, Nat.le_of_ble_eq_true rfl⟩) hS (fun q _ h => hFc q h) hFc (fun r0 u t H1 locs ht hvm hw hB hz1 hk1 hS => ?_)
  have hw : (pf_in pp (-10000) 10000) = r0 := (show r0 = (pf_in pp (-10000) 10000) from hw).symm
  subst hw
  obtain ⟨hP1, hD1⟩ := hB
  rw [ht] at hP1
  obtain ⟨hP, hD⟩ := va_join (wr := []) (w1 := []) hP hD [] [] rfl rfl (by decide +kernel) (by decide +kernel) hk1 hFc hP1 hD1
  clear hPc hDc hFc hk1 hz1
  generalize H1 = H at hP hS ⊢
  have hP : va_P (dC, dI) pf_cls [] H := hP
  have hD : va_D A [] := hD
  refine lv_if_eq (tgt := 28) hx hb dX10_isParameter_10 (by decide) (fun c1 => ?_) (fun c1 => ?_)
  · skip
    refine lv_iconst (v := 0) hx hb dX10_isParameter_28 (by decide) ?_
    have hP9 := hP.sub (ws' := []) [] rfl
    have hD9 := hD.sub (ws' := []) [] (by decide +kernel) rfl
    refine W.widen (k := 0) (n := 0) (Nat.le_of_ble_eq_true rfl) (Nat.le_of_ble_eq_true rfl) ?_
    exact W.zret (v := 0) hx hb hr rfl (fun t ht hW => ⟨⟨_, (), rfl, (by first | decide +kernel | simp [pf_par, c1]), (by rw [ht]; exact hP9), hD9⟩, hS.F ht⟩) hS.2.2 dX10_isParameter_29
  · skip
    refine lv_iload_n hx hb dX10_isParameter_13 rfl (lv_at hl 1 rfl) ?_
    refine lv_iconst (v := 1) hx hb dX10_isParameter_14 (by decide) ?_
    refine lv_sipush (v := 1000) hx hb dX10_isParameter_15 (by decide +kernel) ?_
    have hPc := hP.sub (ws' := []) [] rfl
    have hDc := hD.sub (ws' := []) [] (by decide +kernel) rfl
    have hFc := va_free (wc := []) hD hS hA [] rfl
    refine va_calli (va_runS (As := [.int q, .int 1, .int 1000]) (rest := []) ⟨hx, hb, hml, hown, hts⟩ (c_m_in l dC dI cI cJ cZ cO H.size q 1 1000) (va_cwS 3 hts (pf_gS mw_357 mw_358 mw_346 mw_359) rfl rfl rfl (by decide +kernel) ⟨Nat.le_of_ble_eq_true rfl, Nat.le_of_ble_eq_true rfl⟩) ⟨fun a U g mk q => by obtain ⟨q0, q1, qP, qK, qD⟩ := q; exact ⟨q0, q1, qP, va_K.moved (u := U) (U := U.calling g mk a) (Vm.Alike.refl U.vm) qK, qD⟩, fun U hU hW => ⟨rfl, by rw [hU], by rw [hU]; exact hPc, va_K.moved hW.alike hK, hDc.weaken (fun _ _ _ _ => trivial)⟩⟩ rfl rfl hl.1 rfl (lv_room (Nat.le_of_ble_eq_true rfl)) dX10_isParameter_18 ⟨Nat.le_of_ble_eq_true rfl, Nat.le_of_ble_eq_true rfl⟩) hS (fun q _ h => hFc q h) hFc (fun r2 u t H1 locs ht hvm hw hB hz1 hk1 hS => ?_)
    have hw : (pf_in q 1 1000) = r2 := (show r2 = (pf_in q 1 1000) from hw).symm
    subst hw
    obtain ⟨hP1, hD1⟩ := hB
    rw [ht] at hP1
    obtain ⟨hP, hD⟩ := va_join (wr := []) (w1 := []) hP hD [] [] rfl rfl (by decide +kernel) (by decide +kernel) hk1 hFc hP1 hD1
    clear hPc hDc hFc hk1 hz1
    generalize H1 = H at hP hS ⊢
    have hP : va_P (dC, dI) pf_cls [] H := hP
    have hD : va_D A [] := hD
    refine lv_if_eq (tgt := 28) hx hb dX10_isParameter_21 (by decide) (fun c3 => ?_) (fun c3 => ?_)
    · skip
      refine lv_iconst (v := 0) hx hb dX10_isParameter_28 (by decide) ?_
      have hP9 := hP.sub (ws' := []) [] rfl
      have hD9 := hD.sub (ws' := []) [] (by decide +kernel) rfl
      refine W.widen (k := 0) (n := 0) (Nat.le_of_ble_eq_true rfl) (Nat.le_of_ble_eq_true rfl) ?_
      exact W.zret (v := 0) hx hb hr rfl (fun t ht hW => ⟨⟨_, (), rfl, (by first | decide +kernel | simp [pf_par, c1, c3]), (by rw [ht]; exact hP9), hD9⟩, hS.F ht⟩) hS.2.2 dX10_isParameter_29
    · skip
      refine lv_iconst (v := 1) hx hb dX10_isParameter_24 (by decide) ?_
      refine lv_goto (tgt := 29) hx hb dX10_isParameter_25 (by decide) ?_
      have hP9 := hP.sub (ws' := []) [] rfl
      have hD9 := hD.sub (ws' := []) [] (by decide +kernel) rfl
      refine W.widen (k := 0) (n := 0) (Nat.le_of_ble_eq_true rfl) (Nat.le_of_ble_eq_true rfl) ?_
      exact W.zret (v := 1) hx hb hr rfl (fun t ht hW => ⟨⟨_, (), rfl, (by first | decide +kernel | simp [pf_par, c1, c3]), (by rw [ht]; exact hP9), hD9⟩, hS.F ht⟩) hS.2.2 dX10_isParameter_29
set_option maxHeartbeats 40000000 in
set_option maxRecDepth 100000 in
theorem c_m_isSpan (l : Launch) (dC : Nat → ClassId) (dI : Nat → Nat → Nat) (cI cJ cZ cO : ClassId) (sz : Nat) (pp : Int32) (q : Int32)  : Met l yX10_isSpan (Cond.code yX10_isSpan cX10_isSpan 2 (some .boolean) :: pf_W) ({ frames := 1, cells := 0, slots := 0, locals := 22 }) (va_Pc [.int pp, .int q] (fun U => U.heap.size = sz ∧ va_P (dC, dI) pf_cls [] U.heap ∧ va_K (dC, dI) pf_cls (pf_ty cI cJ cZ cO) U ∧ va_D (fun _ => True) [])) (va_Qi (fun (r : Int32) (_ : Unit) => r = (pf_itv pp q)) (fun (_ : Unit) (t : State) => va_P (dC, dI) pf_cls [] t.heap ∧ va_D (va_A [] sz) []) (va_A [] sz)) 0 0 (va_A [] sz) := by
  refine Met.ofW (cc := cX10_isSpan) (maxL := 2) (ret := (some .boolean)) (by decide) rfl ?_
  intro p e s m args below meth c s₁ B hml hv
  obtain ⟨rfl, hsz, hP, hK, hD0⟩ := hv
  have hx := B.exec
  have hb := B.bytes
  have hr := B.returns
  have hts := atoms_spec (ws := Cond.code yX10_isSpan cX10_isSpan 2 (some .boolean) :: pf_W) B.pre
  have hown : s.vm.findClass RX10 = some m.cls := findClass_of_methodNamed B.named
  have hlocks := B.notSynchronized
  subst hsz
  have hD := hD0.self (sz := s.heap.size)
  generalize hAe : va_A [] s.heap.size = A at hD ⊢
  have hA : ∀ q : Nat, s.heap.size ≤ q → A q := fun q h => by rw [← hAe]; exact Or.inr h
  have hS : va_S A s.heap s.heap [] := va_S.rf
  have hP : va_P (dC, dI) pf_cls [] s.heap := hP
  have hl := lv_entry ([.int pp, .int q]) (n := 2) (Nat.le_of_ble_eq_true rfl)
  rw [lg_entry_eq]
  generalize (lg_sl ([.int pp, .int q]) ++ List.replicate (2 - (lg_sl ([.int pp, .int q])).length) Slot.unset).toArray = ls at hl ⊢
  have hl : lv_has ls 2 [(0, .int pp), (1, .int q)] := hl
  refine lv_iload_n hx hb dX10_isSpan_0 rfl (lv_at hl 0 rfl) ?_
  refine lv_sipush (v := (-1000)) hx hb dX10_isSpan_1 (by decide +kernel) ?_
  refine lv_sipush (v := 1000) hx hb dX10_isSpan_4 (by decide +kernel) ?_
  have hPc := hP.sub (ws' := []) [] rfl
  have hDc := hD.sub (ws' := []) [] (by decide +kernel) rfl
  have hFc := va_free (wc := []) hD hS hA [] rfl
  refine va_calli (va_runS (As := [.int pp, .int (-1000), .int 1000]) (rest := []) ⟨hx, hb, hml, hown, hts⟩ (c_m_in l dC dI cI cJ cZ cO s.heap.size pp ((-1000)) 1000) (va_cwS 3 hts (pf_gS mw_357 mw_358 mw_346 mw_359) rfl rfl rfl (by decide +kernel) ⟨Nat.le_of_ble_eq_true rfl, Nat.le_of_ble_eq_true rfl⟩) ⟨fun a U g mk q => by obtain ⟨q0, q1, qP, qK, qD⟩ := q; exact ⟨q0, q1, qP, va_K.moved (u := U) (U := U.calling g mk a) (Vm.Alike.refl U.vm) qK, qD⟩, fun U hU hW => ⟨rfl, by rw [hU], by rw [hU]; exact hPc, va_K.moved hW.alike hK, hDc.weaken (fun _ _ _ _ => trivial)⟩⟩ rfl rfl hl.1 rfl (lv_room (Nat.le_of_ble_eq_true rfl)) dX10_isSpan_7 ⟨Nat.le_of_ble_eq_true rfl, Nat.le_of_ble_eq_true rfl⟩) hS (fun q _ h => hFc q h) hFc (fun r0 u t H1 locs ht hvm hw hB hz1 hk1 hS => ?_)
  have hw : (pf_in pp (-1000) 1000) = r0 := (show r0 = (pf_in pp (-1000) 1000) from hw).symm
  subst hw
  obtain ⟨hP1, hD1⟩ := hB
  rw [ht] at hP1
  obtain ⟨hP, hD⟩ := va_join (wr := []) (w1 := []) hP hD [] [] rfl rfl (by decide +kernel) (by decide +kernel) hk1 hFc hP1 hD1
  clear hPc hDc hFc hk1 hz1
  generalize H1 = H at hP hS ⊢
  have hP : va_P (dC, dI) pf_cls [] H := hP
  have hD : va_D A [] := hD
  refine lv_if_eq (tgt := 30) hx hb dX10_isSpan_10 (by decide) (fun c1 => ?_) (fun c1 => ?_)
  · skip
    refine lv_iconst (v := 0) hx hb dX10_isSpan_30 (by decide) ?_
    have hP9 := hP.sub (ws' := []) [] rfl
    have hD9 := hD.sub (ws' := []) [] (by decide +kernel) rfl
    refine W.widen (k := 0) (n := 0) (Nat.le_of_ble_eq_true rfl) (Nat.le_of_ble_eq_true rfl) ?_
    exact W.zret (v := 0) hx hb hr rfl (fun t ht hW => ⟨⟨_, (), rfl, ((by simp [pf_spn, c1] : (0 : Int32) = pf_spn pp q).trans (pf_spn_itv pp q)), (by rw [ht]; exact hP9), hD9⟩, hS.F ht⟩) hS.2.2 dX10_isSpan_31
  · skip
    refine lv_iload_n hx hb dX10_isSpan_13 rfl (lv_at hl 1 rfl) ?_
    refine lv_iload_n hx hb dX10_isSpan_14 rfl (lv_at hl 0 rfl) ?_
    refine lv_iconst (v := 1) hx hb dX10_isSpan_15 (by decide) ?_
    refine lv_iadd hx hb dX10_isSpan_16 ?_
    refine lv_sipush (v := 1000) hx hb dX10_isSpan_17 (by decide +kernel) ?_
    have hPc := hP.sub (ws' := []) [] rfl
    have hDc := hD.sub (ws' := []) [] (by decide +kernel) rfl
    have hFc := va_free (wc := []) hD hS hA [] rfl
    refine va_calli (va_runS (As := [.int q, .int (pp + 1), .int 1000]) (rest := []) ⟨hx, hb, hml, hown, hts⟩ (c_m_in l dC dI cI cJ cZ cO H.size q ((pp + 1)) 1000) (va_cwS 3 hts (pf_gS mw_357 mw_358 mw_346 mw_359) rfl rfl rfl (by decide +kernel) ⟨Nat.le_of_ble_eq_true rfl, Nat.le_of_ble_eq_true rfl⟩) ⟨fun a U g mk q => by obtain ⟨q0, q1, qP, qK, qD⟩ := q; exact ⟨q0, q1, qP, va_K.moved (u := U) (U := U.calling g mk a) (Vm.Alike.refl U.vm) qK, qD⟩, fun U hU hW => ⟨rfl, by rw [hU], by rw [hU]; exact hPc, va_K.moved hW.alike hK, hDc.weaken (fun _ _ _ _ => trivial)⟩⟩ rfl rfl hl.1 rfl (lv_room (Nat.le_of_ble_eq_true rfl)) dX10_isSpan_20 ⟨Nat.le_of_ble_eq_true rfl, Nat.le_of_ble_eq_true rfl⟩) hS (fun q _ h => hFc q h) hFc (fun r2 u t H1 locs ht hvm hw hB hz1 hk1 hS => ?_)
    have hw : (pf_in q (pp + 1) 1000) = r2 := (show r2 = (pf_in q (pp + 1) 1000) from hw).symm
    subst hw
    obtain ⟨hP1, hD1⟩ := hB
    rw [ht] at hP1
    obtain ⟨hP, hD⟩ := va_join (wr := []) (w1 := []) hP hD [] [] rfl rfl (by decide +kernel) (by decide +kernel) hk1 hFc hP1 hD1
    clear hPc hDc hFc hk1 hz1
    generalize H1 = H at hP hS ⊢
    have hP : va_P (dC, dI) pf_cls [] H := hP
    have hD : va_D A [] := hD
    refine lv_if_eq (tgt := 30) hx hb dX10_isSpan_23 (by decide) (fun c3 => ?_) (fun c3 => ?_)
    · skip
      refine lv_iconst (v := 0) hx hb dX10_isSpan_30 (by decide) ?_
      have hP9 := hP.sub (ws' := []) [] rfl
      have hD9 := hD.sub (ws' := []) [] (by decide +kernel) rfl
      refine W.widen (k := 0) (n := 0) (Nat.le_of_ble_eq_true rfl) (Nat.le_of_ble_eq_true rfl) ?_
      exact W.zret (v := 0) hx hb hr rfl (fun t ht hW => ⟨⟨_, (), rfl, ((by simp [pf_spn, c1, c3] : (0 : Int32) = pf_spn pp q).trans (pf_spn_itv pp q)), (by rw [ht]; exact hP9), hD9⟩, hS.F ht⟩) hS.2.2 dX10_isSpan_31
    · skip
      refine lv_iconst (v := 1) hx hb dX10_isSpan_26 (by decide) ?_
      refine lv_goto (tgt := 31) hx hb dX10_isSpan_27 (by decide) ?_
      have hP9 := hP.sub (ws' := []) [] rfl
      have hD9 := hD.sub (ws' := []) [] (by decide +kernel) rfl
      refine W.widen (k := 0) (n := 0) (Nat.le_of_ble_eq_true rfl) (Nat.le_of_ble_eq_true rfl) ?_
      exact W.zret (v := 1) hx hb hr rfl (fun t ht hW => ⟨⟨_, (), rfl, ((by simp [pf_spn, c1, c3] : (1 : Int32) = pf_spn pp q).trans (pf_spn_itv pp q)), (by rw [ht]; exact hP9), hD9⟩, hS.F ht⟩) hS.2.2 dX10_isSpan_31
