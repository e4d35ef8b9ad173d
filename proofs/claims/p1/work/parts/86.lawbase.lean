theorem pf_lawW {b : Nat} {s : State} (hts : ∀ w ∈ lw_tbl, w.before #[Value.ref b] s = true) : ∀ w ∈ Cond.initialized RX9 :: pf_W, w.before #[Value.ref b] s = true := List.forall_mem_cons.mpr ⟨hts _ (pf_ofW mw_50), fun w h => hts w (pf_ofW h)⟩
theorem pf_w_over : (Cond.arrayOver (.object "java/lang/Object") : Cond) ∈ lw_tbl := List.mem_append_right _ (List.mem_append_right _ (List.mem_append_right _ (List.mem_append_right _ (List.mem_append_left _ (List.mem_of_getElem? (i := 53) rfl)))))
theorem pf_w_cast : (Cond.castable RX3 "java/lang/Object" : Cond) ∈ lw_tbl := List.mem_append_right _ (List.mem_append_right _ (List.mem_append_right _ (List.mem_append_right _ (List.mem_append_right _ (List.mem_append_right _ (List.mem_of_getElem? (i := 20) rfl))))))
theorem pf_w_stat : (Cond.laysStatic "java/util/ArrayList" "DEFAULTCAPACITY_EMPTY_ELEMENTDATA" "[Ljava/lang/Object;" : Cond) ∈ lw_tbl := List.mem_append_right _ (List.mem_append_left _ (List.mem_of_getElem? (i := 141) rfl))
theorem pf_w_ini : (Cond.initialized "java/util/ArrayList" : Cond) ∈ lw_tbl := List.mem_append_right _ (List.mem_append_left _ (List.mem_of_getElem? (i := 8) rfl))
theorem pf_w_nest0 : (Cond.methodLinkNest RX9 13 yX5_init "ParametricFlow" : Cond) ∈ lw_tbl := List.mem_append_right _ (List.mem_append_left _ (List.mem_of_getElem? (i := 31) rfl))
theorem pf_w_nest1 : (Cond.methodLinkNest RX9 20 yX1_init "ParametricFlow" : Cond) ∈ lw_tbl := List.mem_append_right _ (List.mem_append_left _ (List.mem_of_getElem? (i := 86) rfl))
theorem pf_w_nest2 : (Cond.methodLinkNest RX1 11 yX4_init "ParametricFlow" : Cond) ∈ lw_tbl := List.mem_append_right _ (List.mem_append_left _ (List.mem_of_getElem? (i := 92) rfl))
theorem pf_w_nest3 : (Cond.methodLinkNest RX1 26 yX3_init "ParametricFlow" : Cond) ∈ lw_tbl := List.mem_append_right _ (List.mem_append_left _ (List.mem_of_getElem? (i := 107) rfl))
theorem pf_w_nest4 : (Cond.methodLinkNest RX9 27 yX7_init "ParametricFlow" : Cond) ∈ lw_tbl := List.mem_append_right _ (List.mem_append_left _ (List.mem_of_getElem? (i := 191) rfl))
theorem pf_w_nest5 : (Cond.methodLinkNest RX7 17 yX0_init "ParametricFlow" : Cond) ∈ lw_tbl := List.mem_append_right _ (List.mem_append_left _ (List.mem_of_getElem? (i := 197) rfl))
theorem pf_w_nest6 : (Cond.methodLinkNest RX7 24 yX8_init "ParametricFlow" : Cond) ∈ lw_tbl := List.mem_append_right _ (List.mem_append_right _ (List.mem_append_left _ (List.mem_of_getElem? (i := 4) rfl)))
theorem pf_w_nest7 : (Cond.methodLinkNest RX7 31 yX2_init "ParametricFlow" : Cond) ∈ lw_tbl := List.mem_append_right _ (List.mem_append_right _ (List.mem_append_left _ (List.mem_of_getElem? (i := 47) rfl)))
theorem pf_w_nest8 : (Cond.methodLinkNest RX7 38 yX4_init "ParametricFlow" : Cond) ∈ lw_tbl := List.mem_append_right _ (List.mem_append_right _ (List.mem_append_left _ (List.mem_of_getElem? (i := 77) rfl)))
theorem pf_w_nest9 : (Cond.methodLinkNest RX7 48 yX6_init "ParametricFlow" : Cond) ∈ lw_tbl := List.mem_append_right _ (List.mem_append_right _ (List.mem_append_left _ (List.mem_of_getElem? (i := 80) rfl)))
theorem pf_nestsOk {b : Nat} {s : State} (hts : ∀ w ∈ lw_tbl, w.before #[Value.ref b] s = true) : pf_Ne s := by
  intro q hq
  simp only [pf_nests, List.mem_cons, List.not_mem_nil, or_false] at hq
  rcases hq with rfl | rfl | rfl | rfl | rfl | rfl | rfl | rfl | rfl | rfl
  · exact va_Nw.of rfl (hts _ pf_w_nest0)
  · exact va_Nw.of rfl (hts _ pf_w_nest1)
  · exact va_Nw.of rfl (hts _ pf_w_nest2)
  · exact va_Nw.of rfl (hts _ pf_w_nest3)
  · exact va_Nw.of rfl (hts _ pf_w_nest4)
  · exact va_Nw.of rfl (hts _ pf_w_nest5)
  · exact va_Nw.of rfl (hts _ pf_w_nest6)
  · exact va_Nw.of rfl (hts _ pf_w_nest7)
  · exact va_Nw.of rfl (hts _ pf_w_nest8)
  · exact va_Nw.of rfl (hts _ pf_w_nest9)
theorem pf_arrC {args : Array Value} {s : State} (h : (Cond.arrayClass .int).before args s = true) : ∃ cA : ClassId, ArrOfT s cA .int ∧ va_RA s cA .int := by
  obtain ⟨cA, kA, comp, h1, h2, h3⟩ := Cond.arrayClass_spec h
  exact ⟨cA, fun n z => ⟨(fun k h => by cases h), kA, h2, comp, h3⟩, h1⟩
theorem pf_arrJ {args : Array Value} {s : State} (h : (Cond.arrayClass .long).before args s = true) : ∃ cA : ClassId, ArrOfT s cA .long ∧ va_RA s cA .long := by
  obtain ⟨cA, kA, comp, h1, h2, h3⟩ := Cond.arrayClass_spec h
  exact ⟨cA, fun n z => ⟨(fun k h => by cases h), kA, h2, comp, h3⟩, h1⟩
theorem pf_arrZ {args : Array Value} {s : State} (h : (Cond.arrayClass .boolean).before args s = true) : ∃ cA : ClassId, ArrOfT s cA .boolean ∧ va_RA s cA .boolean := by
  obtain ⟨cA, kA, comp, h1, h2, h3⟩ := Cond.arrayClass_spec h
  exact ⟨cA, fun n z => ⟨(fun k h => by cases h), kA, h2, comp, h3⟩, h1⟩
theorem pf_arrO {args : Array Value} {s : State} (h : (Cond.arrayOver (.object "java/lang/Object")).before args s = true) : ∃ cA : ClassId, ArrOfT s cA (.object "java/lang/Object") ∧ va_RA s cA (.object "java/lang/Object") := by
  obtain ⟨comp, cA, kA, h1, h2, h3, h4, h5⟩ := Cond.arrayOver_spec h
  exact ⟨cA, fun n z => ⟨(fun k h => by cases h), kA, h3, comp, h4⟩, kA, comp, h3, h4, h1, h5⟩
theorem pf_tys {s : State} {cI cJ cZ cO : ClassId} (hI : ArrOfT s cI .int ∧ va_RA s cI .int) (hJ : ArrOfT s cJ .long ∧ va_RA s cJ .long) (hZ : ArrOfT s cZ .boolean ∧ va_RA s cZ .boolean) (hO : ArrOfT s cO (.object "java/lang/Object") ∧ va_RA s cO (.object "java/lang/Object")) : ∀ (k : Nat) (q : ClassId × FieldType), (pf_ty cI cJ cZ cO)[k]? = some q → ArrOfT s q.1 q.2 ∧ va_RA s q.1 q.2 := by
  intro k q hq
  match k, hq with
  | 0, hq => cases hq; exact hI
  | 1, hq => cases hq; exact hJ
  | 2, hq => cases hq; exact hZ
  | 3, hq => cases hq; exact hO
  | k + 4, hq => simp [pf_ty] at hq
theorem pf_start {b : Nat} {s : State} (hgv : (Jvm.Cond.and given_1 narrow_1).before #[Value.ref b] s = true) (hts : ∀ w ∈ lw_tbl, w.before #[Value.ref b] s = true) : ∃ t0 : Nat, pf_St t0 (fun q : Nat => s.heap.size ≤ q) s s.heap := by
  have hs := flat_of_before _ hgv
  have harr : (Cond.arrayOf (.static "java/util/ArrayList" "DEFAULTCAPACITY_EMPTY_ELEMENTDATA" "[Ljava/lang/Object;") (.object "java/lang/Object")).before #[Value.ref b] s = true := hs _ (by decide +kernel)
  have hlen : (Cond.eq (.length (.static "java/util/ArrayList" "DEFAULTCAPACITY_EMPTY_ELEMENTDATA" "[Ljava/lang/Object;")) (.int 0)).before #[Value.ref b] s = true := hs _ (by decide +kernel)
  have hout : ∀ a : Nat, a < s.heap.size → ¬ (fun q : Nat => s.heap.size ≤ q) a := fun a h => Nat.not_le.mpr h
  obtain ⟨t, ht, hT⟩ := va_Tof (N := 0) (f := fun _ => .null) (A := fun q : Nat => s.heap.size ≤ q) (by decide) harr (va_eqt hlen) (fun j hj => absurd hj (Nat.not_lt_zero j)) hout
  exact ⟨t, va_Zref (hts _ pf_w_stat) (hts _ pf_w_ini) ht hout, hT, va_Nw.of rfl (hts _ pf_w_cast), va_AO.of (hts _ pf_w_over), pf_nestsOk hts⟩
theorem pf_sw22 (x : Int32) : x = 0 ∨ x = 1 ∨ x = 2 ∨ x = 3 ∨ x = 4 ∨ x = 5 ∨ x = 6 ∨ x = 7 ∨ x = 8 ∨ x = 9 ∨ x = 10 ∨ x = 11 ∨ x = 12 ∨ x = 13 ∨ x = 14 ∨ x = 15 ∨ x = 16 ∨ x = 17 ∨ x = 18 ∨ x = 19 ∨ x = 20 ∨ x = 21 ∨ x = 22 ∨ (x.toInt < 0 ∨ 22 < x.toInt) := by
  have e3 : (3 : Int32).toInt = 3 := by decide +kernel
  have e4 : (4 : Int32).toInt = 4 := by decide +kernel
  have e5 : (5 : Int32).toInt = 5 := by decide +kernel
  have e6 : (6 : Int32).toInt = 6 := by decide +kernel
  have e7 : (7 : Int32).toInt = 7 := by decide +kernel
  have e8 : (8 : Int32).toInt = 8 := by decide +kernel
  have e9 : (9 : Int32).toInt = 9 := by decide +kernel
  have e10 : (10 : Int32).toInt = 10 := by decide +kernel
  have e11 : (11 : Int32).toInt = 11 := by decide +kernel
  have e12 : (12 : Int32).toInt = 12 := by decide +kernel
  have e13 : (13 : Int32).toInt = 13 := by decide +kernel
  have e14 : (14 : Int32).toInt = 14 := by decide +kernel
  have e15 : (15 : Int32).toInt = 15 := by decide +kernel
  have e16 : (16 : Int32).toInt = 16 := by decide +kernel
  have e17 : (17 : Int32).toInt = 17 := by decide +kernel
  have e18 : (18 : Int32).toInt = 18 := by decide +kernel
  have e19 : (19 : Int32).toInt = 19 := by decide +kernel
  have e20 : (20 : Int32).toInt = 20 := by decide +kernel
  have e21 : (21 : Int32).toInt = 21 := by decide +kernel
  have e22 : (22 : Int32).toInt = 22 := by decide +kernel
  simp only [← Int32.toInt_inj, pf_i0, pf_i1, pf_i2, e3, e4, e5, e6, e7, e8, e9, e10, e11, e12, e13, e14, e15, e16, e17, e18, e19, e20, e21, e22]
  omega
