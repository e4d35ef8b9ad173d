theorem pf_cmp_pos {x : Int64} (h : 0 < x) : lg_cmp x 0 = 1 := by simp [lg_cmp, h]
theorem pf_ne_pos {x : Int64} (h : 0 < x) : ¬ x = 0 := fun q => by
  rw [q] at h
  exact absurd h (by decide +kernel)
def pf_sel (d : Int32) : Int64 := if d = 0 then 0 else 1
theorem pf_i (n : Int) (x : Int32) (h : x.toInt = n) (y : Int32) : (x ≤ y ↔ n ≤ y.toInt) ∧ (y ≤ x ↔ y.toInt ≤ n) ∧ (x < y ↔ n < y.toInt) ∧ (y < x ↔ y.toInt < n) ∧ (y = x ↔ y.toInt = n) := by
  rw [Int32.le_iff_toInt_le, Int32.le_iff_toInt_le, Int32.lt_iff_toInt_lt, Int32.lt_iff_toInt_lt, ← Int32.toInt_inj, h]
  exact ⟨Iff.rfl, Iff.rfl, Iff.rfl, Iff.rfl, Iff.rfl⟩
theorem pf_i0 : (0 : Int32).toInt = 0 := by decide +kernel
theorem pf_i1 : (1 : Int32).toInt = 1 := by decide +kernel
theorem pf_i2 : (2 : Int32).toInt = 2 := by decide +kernel
theorem pf_dead0 {x : Int32} (h : ¬ x < 0) (h2 : ¬ 0 ≤ x) : False := by
  rw [Int32.lt_iff_toInt_lt, pf_i0] at h
  rw [Int32.le_iff_toInt_le, pf_i0] at h2
  omega
theorem pf_two (v : Int32) : 2 ≤ v ↔ 1 < v := by
  rw [Int32.le_iff_toInt_le, Int32.lt_iff_toInt_lt, pf_i1, pf_i2]
  omega
theorem pf_hn_in (v : Int32) : pf_hn v = pf_in v 0 1 := by
  unfold pf_hn pf_in
  by_cases h : v < 0
  · rw [if_pos h, if_pos h]
  · rw [if_neg h, if_neg h]
    by_cases h2 : 2 ≤ v
    · rw [if_pos h2, if_pos ((pf_two v).mp h2)]
    · rw [if_neg h2, if_neg (fun q => h2 ((pf_two v).mpr q))]
theorem pf_in_ne {x a b : Int32} (h : ¬ pf_in x a b = 0) : a.toInt ≤ x.toInt ∧ x.toInt ≤ b.toInt := by
  unfold pf_in at h
  by_cases h1 : x < a
  · rw [if_pos h1] at h; exact absurd rfl h
  · rw [if_neg h1] at h
    by_cases h2 : b < x
    · rw [if_pos h2] at h; exact absurd rfl h
    · rw [Int32.lt_iff_toInt_lt] at h1 h2
      omega
theorem pf_node2 {v : Int32} (h : ¬ pf_in v 0 1 = 0) : v = 0 ∨ v = 1 := by
  have h1 := pf_in_ne h
  rw [pf_i0, pf_i1] at h1
  rw [← Int32.toInt_inj, ← Int32.toInt_inj, pf_i0, pf_i1]
  omega
theorem pf_nn0 {v : Int32} (h : pf_nn v = 0) : ¬ pf_in v 0 1 = 0 := by
  intro q
  unfold pf_nn at h
  rw [if_pos q] at h
  exact absurd h (by decide +kernel)
theorem pf_nn1 {v : Int32} (h : ¬ pf_nn v = 0) : pf_in v 0 1 = 0 := by
  unfold pf_nn at h
  by_cases q : pf_in v 0 1 = 0
  · exact q
  · rw [if_neg q] at h; exact absurd rfl h
theorem pf_k0 {k : Int32} (h : ¬ k < 0) (h2 : ¬ 1 ≤ k) : k = 0 := by
  rw [Int32.lt_iff_toInt_lt, pf_i0] at h
  rw [Int32.le_iff_toInt_le, pf_i1] at h2
  rw [← Int32.toInt_inj, pf_i0]
  omega
theorem pf_spn_itv (lo hi : Int32) : pf_spn lo hi = pf_itv lo hi := by
  unfold pf_spn pf_itv
  by_cases h : pf_in lo (-1000) 1000 = 0
  · rw [if_pos h, if_pos h]
  · rw [if_neg h, if_neg h]
    have h1 := pf_in_ne h
    have e1 : (1000 : Int32).toInt = 1000 := by decide +kernel
    have e2 : (-1000 : Int32).toInt = -1000 := by decide +kernel
    rw [e1, e2] at h1
    have e3 : (lo + 1).toInt = lo.toInt + 1 := by
      rw [Int32.toInt_add, pf_i1]
      exact Int.bmod_eq_of_le (by omega) (by omega)
    have e4 : hi < lo + 1 ↔ hi ≤ lo := by
      rw [Int32.lt_iff_toInt_lt, Int32.le_iff_toInt_le, e3]
      omega
    unfold pf_in
    by_cases h2 : hi ≤ lo
    · rw [if_pos h2, if_pos (e4.mpr h2), if_pos rfl]
    · rw [if_neg h2, if_neg (fun q => h2 (e4.mp q))]
      by_cases h3 : (1000 : Int32) < hi
      · rw [if_pos h3, if_pos rfl]
      · rw [if_neg h3, if_neg (by decide +kernel)]
theorem pf_par_q {p q : Int32} (h : ¬ pf_par p q = 0) : 0 < q.toInt64 := by
  unfold pf_par at h
  by_cases h1 : pf_in p (-10000) 10000 = 0
  · rw [if_pos h1] at h; exact absurd rfl h
  · rw [if_neg h1] at h
    by_cases h2 : pf_in q 1 1000 = 0
    · rw [if_pos h2] at h; exact absurd rfl h
    · have h3 := pf_in_ne h2
      rw [pf_i1] at h3
      rw [Int64.lt_iff_toInt_lt, Int32.toInt_toInt64, pf_toInt0]
      omega
theorem pf_deadE {x : Int32} (h : ¬ x < 0) (h2 : ¬ -1 < x) : False := by
  have e : (-1 : Int32).toInt = -1 := by decide +kernel
  rw [Int32.lt_iff_toInt_lt, pf_i0] at h
  rw [Int32.lt_iff_toInt_lt, e] at h2
  omega
theorem pf_deadm {k : Int32} (h : ¬ k < 0) (h2 : -1 = k) : False := by
  subst h2
  exact h (by decide +kernel)
theorem pf_upd0 (k : Nat) : upd (fun _ => (0 : Int32)) k 0 = fun _ => 0 := by
  funext j
  unfold upd
  by_cases h : j = k
  · rw [if_pos h]
  · rw [if_neg h]
theorem pf_updL0 (k : Nat) : vp_updL (fun _ => (0 : Int64)) k 0 = fun _ => 0 := by
  funext j
  unfold vp_updL
  by_cases h : j = k
  · rw [if_pos h]
  · rw [if_neg h]
/-- a switch from 0 to 5 -/
theorem pf_sw5 (x : Int32) : x = 0 ∨ x = 1 ∨ x = 2 ∨ x = 3 ∨ x = 4 ∨ x = 5 ∨ ((x.toInt < 0 ∨ 5 < x.toInt) ∧ ¬ x = 0 ∧ ¬ x = 1 ∧ ¬ x = 2 ∧ ¬ x = 3 ∧ ¬ x = 4 ∧ ¬ x = 5) := by
  have e3 : (3 : Int32).toInt = 3 := by decide +kernel
  have e4 : (4 : Int32).toInt = 4 := by decide +kernel
  have e5 : (5 : Int32).toInt = 5 := by decide +kernel
  simp only [← Int32.toInt_inj, pf_i0, pf_i1, pf_i2, e3, e4, e5]
  omega
-- the answers of the calls on a fresh object
def pf_add (f t c k s : Int32) : Int32 := if pf_in f 0 1 = 0 then -10001 else if pf_in t 0 1 = 0 then -10001 else if f = t then -10002 else if pf_in c 1 1000 = 0 then -10002 else if pf_in k (-100) 100 = 0 then -10002 else if pf_in s (-20) 20 = 0 then -10002 else 0
def pf_sup (v a b : Int32) : Int32 := if pf_in v 0 1 = 0 then -10001 else if pf_in a (-500) 500 = 0 then -10002 else if pf_in b (-20) 20 = 0 then -10002 else if a = 0 ∧ b = 0 then 0 else 1
def pf_res (n : Int32) : Int32 := if pf_in n 2 8 = 0 then -10002 else 2
def pf_mode (n : Int32) : Int32 := if n = 0 then 0 else if n = 1 then 0 else -10002
def pf_modeM (n : Int32) : Int32 := if pf_in n 0 1 = 0 then -10002 else 0
theorem pf_mode_eq (n : Int32) : pf_modeM n = pf_mode n := by
  unfold pf_modeM pf_mode
  by_cases h : pf_in n 0 1 = 0
  · rw [if_pos h]
    by_cases h0 : n = 0
    · subst h0; exact absurd h (by decide +kernel)
    · rw [if_neg h0]
      by_cases h1 : n = 1
      · subst h1; exact absurd h (by decide +kernel)
      · rw [if_neg h1]
  · rw [if_neg h]
    rcases pf_node2 h with rfl | rfl
    · rw [if_pos rfl]
    · rw [if_neg (by decide +kernel), if_pos rfl]
def pf_net (w : Int32) : Int32 := if w = 0 then 2 else if w = 1 then 0 else if w = 2 then 0 else if w = 3 then 0 else if w = 4 then 0 else if w = 5 then 0 else -10002
def pf_tree (v : Int32) : Int32 := if pf_in v 0 1 = 0 then -10001 else -10005
def pf_solve (p q : Int32) : Int32 := if pf_par p q = 0 then -10002 else 0
def pf_prob (p q : Int32) : Int32 := if pf_par p q = 0 then -10002 else -10007
def pf_val (p q d : Int32) : Int64 := if pf_par p q = 0 then -9223372036854775808 else pf_sel d
def pf_bps (lo hi : Int32) : Int32 := if pf_itv lo hi = 0 then -10002 else 0
def pf_at (k : Int32) : Int64 := if k < 0 then -9223372036854775808 else if 1 ≤ k then -9223372036854775808 else 0
def pf_slp (lo hi k : Int32) : Int64 := if pf_itv lo hi = 0 then -9223372036854775808 else pf_at k
def pf_slpM (lo hi k : Int32) : Int64 := if pf_itv lo hi = 0 then -9223372036854775808 else if k < 0 then -9223372036854775808 else if k = 0 then 0 else -9223372036854775808
theorem pf_slp_eq (lo hi k : Int32) : pf_slpM lo hi k = pf_slp lo hi k := by
  unfold pf_slpM pf_slp pf_at
  by_cases h : pf_itv lo hi = 0
  · rw [if_pos h, if_pos h]
  · rw [if_neg h, if_neg h]
    by_cases h1 : k < 0
    · rw [if_pos h1, if_pos h1]
    · rw [if_neg h1, if_neg h1]
      by_cases h2 : k = 0
      · subst h2
        rw [if_pos rfl, if_neg (by decide +kernel)]
      · rw [if_neg h2, if_pos (by
          rw [← Int32.toInt_inj, pf_i0] at h2
          rw [Int32.lt_iff_toInt_lt, pf_i0] at h1
          rw [Int32.le_iff_toInt_le, pf_i1]
          omega)]
-- what the list's methods need of the start: the static array of no places, what a Line can be stored as, the constructors of nest mates
abbrev pf_nests : List (String × Nat × MethodName) := [(RX9, 13, yX5_init), (RX9, 20, yX1_init), (RX1, 11, yX4_init), (RX1, 26, yX3_init), (RX9, 27, yX7_init), (RX7, 17, yX0_init), (RX7, 24, yX8_init), (RX7, 31, yX2_init), (RX7, 38, yX4_init), (RX7, 48, yX6_init)]
def pf_Ne (U : State) : Prop := ∀ q ∈ pf_nests, va_Nw (.methodLinkNest q.1 q.2.1 q.2.2 "ParametricFlow") U
def pf_St (t0 : Nat) (A : Nat → Prop) (U : State) (H : Heap) : Prop := va_Z "java/util/ArrayList" "DEFAULTCAPACITY_EMPTY_ELEMENTDATA" "[Ljava/lang/Object;" (.ref t0) A U H ∧ va_T (.object "java/lang/Object") t0 0 (fun _ => .null) A U H ∧ va_Nw (.castable RX3 "java/lang/Object") U ∧ va_AO "java/lang/Object" U ∧ pf_Ne U
theorem pf_St.same {t0 : Nat} {A : Nat → Prop} {u U : State} (hv : u.vm = U.vm) (hh : U.heap = u.heap) (h : pf_St t0 A u u.heap) : pf_St t0 A U U.heap := by
  have ha : u.vm.Alike U.vm := by rw [hv]; exact Vm.Alike.refl _
  rw [hh]
  exact ⟨va_Z.moved ha h.1, va_T.moved ha h.2.1, va_Nw.same rfl hv h.2.2.1, va_AO.moved ha h.2.2.2.1, fun q hq => va_Nw.same rfl hv (h.2.2.2.2 q hq)⟩
theorem pf_St.go {t0 : Nat} {A B : Nat → Prop} {s U : State} {H : Heap} {locs : List Loc} (h : pf_St t0 A s s.heap) (hS : va_S A s.heap H locs) (hW : s.WarmedH U.vm) (hU : U.heap = H) (hF : ∀ q, B q → A q) : pf_St t0 B U U.heap := by
  have hk : ∀ a : Nat, a < s.heap.size → ¬ A a → H[a]? = s.heap[a]? := fun a h1 h2 => hS.2.1 a h1 h2
  rw [hU]
  exact ⟨((h.1.kept hk).moved hW.alike).narrow hF, ((h.2.1.kept hk).moved hW.alike).narrow hF, va_Nw.warmC hW h.2.2.1, va_AO.moved hW.alike h.2.2.2.1, fun q hq => va_Nw.warmM hW (h.2.2.2.2 q hq)⟩
section PFC
variable {p : Program} {l : Launch} {e : Env} {R : Room} {s : State} {m : MethodId} {args : Array Value} {below : List Frame} {meth : Method} {c : Code} {H : Heap} {locs : List Loc} {cells slots : Nat} {Q : State → Prop}
variable {cc : ByteArray} {pc : Nat} {ls : Array Slot} {rest : List Value} {A : Nat → Prop} {H0 : Heap} {D : va_G} {cl : List vw_C} {tys : List (ClassId × FieldType)} {ws : va_W} {a : Nat}
theorem pf_aald (hexec : p.tables.exec = Jvm.exec) (hb : c.code = cc) (hK : va_K D cl tys s) (hP : va_P D cl ws H) (q0 t0 k : Nat) {cA : ClassId} {C : String} {n v : Nat} {f : Nat → Option Nat} (ha : ws[q0]? = some (a, .inl (cA, n, .inr (.inr (.inr (.inr f)))))) (ht : tys[t0]? = some (cA, .object C)) {i : Int32} (h0 : ¬ i < 0) (hk : i.toNatClampNeg = k) (hn : k < n) (hv : f k = some v) (hdg : decode cc pc = .ok (.aaload, 1))
    (kk : W p l e R s m args below meth c H locs cells slots Q (F0 m (pc + 1) ls (.ref v :: rest))) : W p l e R s m args below meth c H locs cells slots Q (F0 m pc ls (.int i :: .ref a :: rest)) := by
  refine va_aldq hexec hb hK hP q0 t0 ha ht (pf_vpin h0 hk hn) hdg ?_
  rw [hk, hv]; exact kk
theorem pf_aast (hexec : p.tables.exec = Jvm.exec) (hb : c.code = cc) (hK : va_K D cl tys s) (hP : va_P D cl ws H) (hD : va_D A ws) (hS : va_S A H0 H locs) {r : vw_C} {E : String} (hca : va_Nw (.castable r.1 E) s) (q0 t0 qk ci k : Nat) {cA : ClassId} {n v : Nat} {vs : List Value} {f : Nat → Option Nat} (ha : ws[q0]? = some (a, .inl (cA, n, .inr (.inr (.inr (.inr f)))))) (ht : tys[t0]? = some (cA, .object E)) (hv : ws[qk]? = some (v, .inr (ci, vs))) (hc : cl[ci]? = some r) {i : Int32} (h0 : ¬ i < 0) (hk : i.toNatClampNeg = k) (hn : k < n) (hdg : decode cc pc = .ok (.aastore, 1))
    (kk : ∀ (H1 : Heap) (locs1 : List Loc), va_P D cl (ws.set q0 (a, .inl (cA, n, .inr (.inr (.inr (.inr (va_up f k (some v)))))))) H1 → va_D A (ws.set q0 (a, .inl (cA, n, .inr (.inr (.inr (.inr (va_up f k (some v)))))))) → va_S A H0 H1 locs1 → W p l e R s m args below meth c H1 locs1 cells slots Q (F0 m (pc + 1) ls rest)) : W p l e R s m args below meth c H locs cells slots Q (F0 m pc ls (.ref v :: .int i :: .ref a :: rest)) := by
  refine va_astqO hexec hb hK hP hD hS q0 t0 qk ci ha ht hca hv hc (pf_vpin h0 hk hn) hdg ?_
  rw [hk]; exact kk
theorem pf_newO (hexec : p.tables.exec = Jvm.exec) (hb : c.code = cc) {own C : String} {index : Nat} (hown : s.vm.findClass own = some m.cls) (hclink : (Cond.classLink own index C).before args s = true) (hover : va_AO C s) (hK : va_K D cl tys s) (hP : va_P D cl ws H) (hD : va_D A ws) (hS : va_S A H0 H locs) (hA : ∀ q, H0.size ≤ q → A q) (t0 : Nat) {cA : ClassId} (ht : tys[t0]? = some (cA, .object C))
    {n : Int32} {N' : Nat} (hn : ¬ n < 0) (hN : n.toNatClampNeg = N') (hbytes : N' * 4 ≤ 536870912) (hcells : cells + 1 ≤ R.cells) (hslots : slots + N' ≤ R.slots) (hdg : decode cc pc = .ok (.anewarray index, 3))
    (kk : ∀ (q : Nat) (H1 : Heap), va_P D cl (ws ++ [(q, .inl (cA, N', .inr (.inr (.inr (.inr (fun _ => none))))))]) H1 → va_D A (ws ++ [(q, .inl (cA, N', .inr (.inr (.inr (.inr (fun _ => none))))))]) → va_S A H0 H1 locs →
      W p l e R s m args below meth c H1 locs (cells + 1) (slots + N') Q (F0 m (pc + 3) ls (.ref q :: rest))) : W p l e R s m args below meth c H locs cells slots Q (F0 m pc ls (.int n :: rest)) := by
  refine va_newq hexec hb hown hclink hover hK hP hD hS hA hn hN hbytes hcells hslots hdg (fun q cB H1 hK1 hP1 hD1 hS1 => ?_)
  have h1 := (hK1.2 tys.length (cB, .object C) (by simp)).2
  have h2 := (hK.2 t0 _ ht).2
  obtain ⟨k1, p1, a1, a2, a3, a4⟩ := h1
  obtain ⟨k2, p2, b1, b2, b3, b4⟩ := h2
  have e0 : cB = cA := Option.some.inj (a4.symm.trans b4)
  subst e0
  exact kk q H1 hP1 hD1 hS1
end PFC
theorem pf_in_nar (x a b : Int32) : narrow .boolean (.int (pf_in x a b)) = .int (pf_in x a b) := by
  unfold pf_in
  by_cases h : x < a
  · rw [if_pos h]; rfl
  · rw [if_neg h]
    by_cases h2 : b < x
    · rw [if_pos h2]; rfl
    · rw [if_neg h2]; rfl
