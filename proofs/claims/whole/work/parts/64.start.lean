/-! the start -/
section START
variable {p : Program} {s : State} {m : MethodId} {meth : Method} {c : Code} {b L : Nat} {xs : Nat → Int32}
theorem lw_arr {ty : FieldType} (h : (Cond.arrayClass ty).before #[Value.ref b] s = true) : ∃ cA : ClassId, ArrOfT s cA ty ∧ s.vm.findClass ("[" ++ ty.toString) = some cA := by
  obtain ⟨cA, k, comp, h1, h2, h3⟩ := Cond.arrayClass_spec h
  exact ⟨cA, fun n z => ⟨fun k h => (by cases h), k, h2, comp, h3⟩, h1⟩
theorem lw_tys (C0 : ∀ w ∈ lw_tbl, w.before #[Value.ref b] s = true) : ∃ cy : Nat → ClassId, ∀ (k : Nat) (q : ClassId × FieldType), (jk_tys cy)[k]? = some q → ArrOfT s q.1 q.2 ∧ va_RA s q.1 q.2 := by
  obtain ⟨c0, a0, n0⟩ := lw_arr (ty := .int) (C0 _ (by decide +kernel))
  obtain ⟨c2, a2, n2⟩ := lw_arr (ty := .boolean) (C0 _ (by decide +kernel))
  obtain ⟨c3, a3, n3⟩ := lw_arr (ty := .long) (C0 _ (by decide +kernel))
  obtain ⟨comp, c1, k1, h1, h2, h3, h4, h5⟩ := Cond.arrayOver_spec (n := "HillBeacons$Hill") (C0 (.arrayOver (.object "HillBeacons$Hill")) (by decide +kernel))
  refine ⟨fun i => match i with
    | 0 => c0
    | 1 => c1
    | 2 => c2
    | _ => c3, fun k q hk => ?_⟩
  rcases (show k = 0 ∨ k = 1 ∨ k = 2 ∨ k = 3 by
    have := (List.getElem?_eq_some_iff.mp hk).1
    have h4 : k < 4 := this
    omega) with rfl | rfl | rfl | rfl
  · cases hk; exact ⟨a0, n0⟩
  · cases hk; exact ⟨fun n z => ⟨fun k h => (by cases h), k1, h3, comp, h4⟩, k1, comp, h3, h4, h1, h5⟩
  · cases hk; exact ⟨a2, n2⟩
  · cases hk; exact ⟨a3, n3⟩
theorem lw_cls (C0 : ∀ w ∈ lw_tbl, w.before #[Value.ref b] s = true) : ∃ D : va_G, ∀ (k : Nat) (q : vw_C), vwCl[k]? = some q → u_Kn s q.1 q.2.1 q.2.2 (D.1 k) (D.2 k) := by
  obtain ⟨c0, i0, h0⟩ := u_known (ws := lw_tbl) (C := RX0) (T := TX0) (N := 11) (n := 11) C0 (fun w hw => inX0 w ((by decide +kernel : ∀ w ∈ u_ws RX0 TX0 11, w ∈ wsX00) w hw)) (C0 _ (by decide +kernel))
  obtain ⟨c1, i1, h1⟩ := u_known (ws := lw_tbl) (C := RX1) (T := TX1) (N := 9) (n := 9) C0 (fun w hw => inX1 w ((by decide +kernel : ∀ w ∈ u_ws RX1 TX1 9, w ∈ wsX10) w hw)) (C0 _ (by decide +kernel))
  obtain ⟨c2, i2, h2⟩ := u_known (ws := lw_tbl) (C := RX2) (T := TX2) (N := 2) (n := 2) C0 (fun w hw => inX2 w ((by decide +kernel : ∀ w ∈ u_ws RX2 TX2 2, w ∈ wsX20) w hw)) (C0 _ (by decide +kernel))
  obtain ⟨c3, i3, h3⟩ := u_known (ws := lw_tbl) (C := RX3) (T := TX3) (N := 11) (n := 11) C0 (fun w hw => inX3 w ((by decide +kernel : ∀ w ∈ u_ws RX3 TX3 11, w ∈ wsX30) w hw)) (C0 _ (by decide +kernel))
  refine ⟨(fun i => match i with
    | 0 => c0
    | 1 => c1
    | 2 => c2
    | _ => c3, fun i => match i with
    | 0 => i0
    | 1 => i1
    | 2 => i2
    | _ => i3), fun k q hk => ?_⟩
  rcases (show k = 0 ∨ k = 1 ∨ k = 2 ∨ k = 3 by
    have := (List.getElem?_eq_some_iff.mp hk).1
    have h4 : k < 4 := this
    omega) with rfl | rfl | rfl | rfl
  · cases hk; exact h0
  · cases hk; exact h1
  · cases hk; exact h2
  · cases hk; exact h3
end START
