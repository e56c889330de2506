/-! the start -/
section START
variable {p : Program} {s : State} {m : MethodId} {meth : Method} {c : Code} {b L : Nat} {xs : Nat → Int32}
theorem lw_arr {ty : FieldType} (h : (Cond.arrayClass ty).before #[Value.ref b] s = true) : ∃ cA : ClassId, ArrOfT s cA ty ∧ s.vm.findClass ("[" ++ ty.toString) = some cA := by
  obtain ⟨cA, k, comp, h1, h2, h3⟩ := Cond.arrayClass_spec h
  exact ⟨cA, fun n z => ⟨fun k h => (by cases h), k, h2, comp, h3⟩, h1⟩
theorem lw_over {C : String} (h : (Cond.arrayOver (.object C)).before #[Value.ref b] s = true) : ∃ cA : ClassId, ArrOfT s cA (.object C) ∧ va_RA s cA (.object C) := by
  obtain ⟨comp, c1, k1, h1, h2, h3, h4, h5⟩ := Cond.arrayOver_spec (n := C) h
  exact ⟨c1, fun n z => ⟨fun k h => (by cases h), k1, h3, comp, h4⟩, k1, comp, h3, h4, h1, h5⟩
theorem lw_overA {ty : FieldType} (h : (Cond.arrayOver (.array ty)).before #[Value.ref b] s = true) : ∃ cA : ClassId, ArrOfT s cA (.array ty) ∧ va_RA s cA (.array ty) := by
  obtain ⟨comp, c1, k1, h1, h3, h4, h5⟩ := Cond.arrayOver_specA h
  exact ⟨c1, fun n z => ⟨fun k h => (by cases h), k1, h3, comp, h4⟩, h5⟩
theorem lw_tys (C0 : ∀ w ∈ lw_tbl, w.before #[Value.ref b] s = true) : ∃ cy : Nat → ClassId, ∀ (k : Nat) (q : ClassId × FieldType), (jk_tys cy)[k]? = some q → ArrOfT s q.1 q.2 ∧ va_RA s q.1 q.2 := by
  obtain ⟨c0, a0, n0⟩ := lw_arr (ty := .int) (C0 _ (by decide +kernel))
  obtain ⟨c1, a1, n1⟩ := lw_over (C := "HillBeacons$Hill") (C0 (.arrayOver (.object "HillBeacons$Hill")) (by decide +kernel))
  obtain ⟨c2, a2, n2⟩ := lw_arr (ty := .boolean) (C0 _ (by decide +kernel))
  obtain ⟨c3, a3, n3⟩ := lw_over (C := "HillBeaconsLaw$Hill") (C0 (.arrayOver (.object "HillBeaconsLaw$Hill")) (by decide +kernel))
  obtain ⟨c4, a4, n4⟩ := lw_overA (ty := .int) (C0 (.arrayOver (.array .int)) (by decide +kernel))
  refine ⟨fun i => match i with
    | 0 => c0
    | 1 => c1
    | 2 => c2
    | 3 => c3
    | _ => c4, fun k q hk => ?_⟩
  rcases (show k = 0 ∨ k = 1 ∨ k = 2 ∨ k = 3 ∨ k = 4 by
    have := (List.getElem?_eq_some_iff.mp hk).1
    have h4 : k < 5 := this
    omega) with rfl | rfl | rfl | rfl | rfl
  · cases hk; exact ⟨a0, n0⟩
  · cases hk; exact ⟨a1, n1⟩
  · cases hk; exact ⟨a2, n2⟩
  · cases hk; exact ⟨a3, n3⟩
  · cases hk; exact ⟨a4, n4⟩
theorem lw_cls (C0 : ∀ w ∈ lw_tbl, w.before #[Value.ref b] s = true) : ∃ D : va_G, ∀ (k : Nat) (q : vw_C), vwCl[k]? = some q → u_Kn s q.1 q.2.1 q.2.2 (D.1 k) (D.2 k) := by
  obtain ⟨c0, i0, h0⟩ := u_known (ws := lw_tbl) (C := RX0) (T := TX0) (N := 11) (n := 11) C0 (fun w hw => inX0 w ((by decide +kernel : ∀ w ∈ u_ws RX0 TX0 11, w ∈ wsX00) w hw)) (C0 _ (by decide +kernel))
  obtain ⟨c1, i1, h1⟩ := u_known (ws := lw_tbl) (C := RX1) (T := TX1) (N := 9) (n := 9) C0 (fun w hw => inX1 w ((by decide +kernel : ∀ w ∈ u_ws RX1 TX1 9, w ∈ wsX10) w hw)) (C0 _ (by decide +kernel))
  obtain ⟨c2, i2, h2⟩ := u_known (ws := lw_tbl) (C := RX2) (T := TX2) (N := 2) (n := 2) C0 (fun w hw => inX2 w ((by decide +kernel : ∀ w ∈ u_ws RX2 TX2 2, w ∈ wsX20) w hw)) (C0 _ (by decide +kernel))
  obtain ⟨c3, i3, h3⟩ := u_known (ws := lw_tbl) (C := RX3) (T := TX3) (N := 11) (n := 11) C0 (fun w hw => inX3 w ((by decide +kernel : ∀ w ∈ u_ws RX3 TX3 11, w ∈ wsX30) w hw)) (C0 _ (by decide +kernel))
  obtain ⟨c4, i4, h4⟩ := u_known (ws := lw_tbl) (C := RX4) (T := TX4) (N := 7) (n := 7) C0 (fun w hw => inX4 w ((by decide +kernel : ∀ w ∈ u_ws RX4 TX4 7, w ∈ wsX40) w hw)) (C0 _ (by decide +kernel))
  refine ⟨(fun i => match i with
    | 0 => c0
    | 1 => c1
    | 2 => c2
    | 3 => c3
    | _ => c4, fun i => match i with
    | 0 => i0
    | 1 => i1
    | 2 => i2
    | 3 => i3
    | _ => i4), fun k q hk => ?_⟩
  rcases (show k = 0 ∨ k = 1 ∨ k = 2 ∨ k = 3 ∨ k = 4 by
    have := (List.getElem?_eq_some_iff.mp hk).1
    have h4 : k < 5 := this
    omega) with rfl | rfl | rfl | rfl | rfl
  · cases hk; exact h0
  · cases hk; exact h1
  · cases hk; exact h2
  · cases hk; exact h3
  · cases hk; exact h4
end START
/-! what a throw, a new row, a new object needs of the start -/
theorem lw_str {s : State} {args : Array Value} {k : Nat} {tx : String} (h1 : (Cond.stringRef "HillBeacons" k tx).before args s = true) (h2 : (Cond.exactly (.string "HillBeacons" k) "java/lang/String").before args s = true) : ∃ sa : Nat, vk_R "HillBeacons" k tx sa s := by
  obtain ⟨a, _, _, _, he, -⟩ := Cond.exactly_spec h2
  exact ⟨a, vk_R.of h1 he⟩
theorem lw_X {s : State} {b L : Nat} {xs : Nat → Int32} {D : va_G} {cy : Nat → ClassId} (C0 : ∀ w ∈ lw_tbl, w.before #[Value.ref b] s = true) (hg : (Jvm.Cond.and given_1 narrow_1).before #[Value.ref b] s = true) (hX : va_X b L xs s s.heap) (hb : b < s.heap.size) : jk_X ((D, b, L, xs), cy) (fun q => s.heap.size ≤ q) s s.heap := by
  have hs := flat_of_before _ hg
  refine ⟨vx_Zqof (C0 _ (by decide +kernel)) (C0 _ (by decide +kernel)) (hs _ (by decide +kernel)) (fun a ha h => absurd ha (by omega)), vx_Zqof (C0 _ (by decide +kernel)) (C0 _ (by decide +kernel)) (hs _ (by decide +kernel)) (fun a ha h => absurd ha (by omega)), fun q hq => ?_, fun E hE => ?_, fun E hE => ?_, va_AO.of (C0 _ (by decide +kernel)), va_Nw.of rfl (C0 _ (by decide +kernel)), va_AO.of (C0 _ (by decide +kernel)), va_AOA.of (C0 _ (by decide +kernel)), va_Nw.of rfl (C0 _ (by decide +kernel)), va_Nw.of rfl (C0 _ (by decide +kernel)), hX, hb, Nat.not_le.mpr hb⟩
  · simp only [jk_strs, List.mem_cons, List.not_mem_nil, or_false] at hq
    rcases hq with rfl | rfl | rfl | rfl | rfl | rfl <;> exact lw_str (C0 _ (by decide +kernel)) (hs _ (by decide +kernel))
  · simp only [jk_exs, List.mem_cons, List.not_mem_nil, or_false] at hE
    rcases hE with rfl | rfl | rfl <;> exact va_Nw.of rfl (C0 _ (by decide +kernel))
  · simp only [jk_ups, List.mem_cons, List.not_mem_nil, or_false] at hE
    rcases hE with rfl | rfl | rfl <;> exact va_Nw.of rfl (C0 _ (by decide +kernel))
