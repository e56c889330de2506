/-! new objects and rows, and worlds behind a prefix -/
section JN
variable {Γ : jk_G} {E : jk_T} {own : String} {cc : ByteArray} {nL : Nat} {Ts : List Cond} {rm : Room} {ws ws' w' X w w1 : va_W} {n k pc : Nat} {lv : List (Nat × Value)} {st : List Value}
theorem jk_new (K : jk_C Γ E own cc nL Ts rm) {C : String} {T : u_T} {N ci index : Nat} {fs : List Value} (hdg : decode cc pc = .ok (.new index, 3)) (hin : ∀ w ∈ u_ws C T N, w ∈ Ts) (ty0 : Nat → FieldType) (hty : ∀ k, k < N → parseFieldDescriptor (T k).2.2.1 = some (ty0 k)) (hcl : Cond.classLink own index C ∈ Ts) (hinst : Cond.instantiable C N ∈ Ts) (hini : Cond.initialized C ∈ Ts) (hc : vwCl[ci]? = some (C, T, N)) (hfs : ∀ j, j < N → defaultValue (ty0 j) = vp_V fs j) (hcells : n + 1 ≤ rm.cells) (hslots : k + N ≤ rm.slots)
    (kk : ∀ q : Nat, jk_J Γ E (ws ++ [(q, .inr (ci, fs))]) (n + 1) (k + N) (pc + 3) lv (.ref q :: st)) : jk_J Γ E ws n k pc lv st := fun H locs ls hP hD hS hl => va_new K.1 K.2.1 K.2.2.2.1 hin ty0 hty K.2.2.2.2.1 (K.2.2.2.1 _ hcl) (K.2.2.2.1 _ hinst) (K.2.2.2.1 _ hini) K.2.2.2.2.2.2.1 hP hD hS K.2.2.2.2.2.2.2.1 hc hfs (by rw [K.2.2.2.2.2.2.2.2.1]; exact hcells) (by rw [K.2.2.2.2.2.2.2.2.1]; exact hslots) hdg (fun q H1 hP1 hD1 hS1 => kk q H1 locs ls hP1 hD1 hS1 hl)
theorem jk_newQ (K : jk_C Γ E own cc nL Ts rm) {index : Nat} {x : Int32} {z : Nat} (hdg : decode cc pc = .ok (.anewarray index, 3)) (hcl : Cond.classLink own index "HillBeacons$Hill" ∈ Ts) (hx : ¬ x < 0 ∧ x.toNatClampNeg = z) (hb : z * 4 ≤ 536870912) (hc : n + 1 ≤ rm.cells) (hs : k + z ≤ rm.slots)
    (kk : ∀ q : Nat, jk_J Γ E (ws ++ [(q, .inl (E.2 1, z, .inr (.inr (.inr (.inr (fun _ => none))))))]) (n + 1) (k + z) (pc + 3) lv (.ref q :: st)) : jk_J Γ E ws n k pc lv (.int x :: st) := by
  intro H locs ls hP hD hS hl
  obtain ⟨-, -, -, -, -, hao, -⟩ := K.2.2.2.2.2.2.2.2.2.1
  refine va_newq K.1 K.2.1 K.2.2.2.2.1 (K.2.2.2.1 _ hcl) hao K.2.2.2.2.2.2.1 hP hD hS K.2.2.2.2.2.2.2.1 hx.1 hx.2 hb (by rw [K.2.2.2.2.2.2.2.2.1]; exact hc) (by rw [K.2.2.2.2.2.2.2.2.1]; exact hs) hdg ?_
  intro q cA H1 hK1 hP1 hD1 hS1
  have h1 := (K.2.2.2.2.2.2.1.2 1 (E.2 1, .object "HillBeacons$Hill") rfl).2
  have h2 := (hK1.2 (jk_tys E.2).length (cA, .object "HillBeacons$Hill") (by rw [List.getElem?_append_right (Nat.le_refl _), Nat.sub_self]; rfl)).2
  obtain ⟨-, -, -, -, -, g1⟩ := h1
  obtain ⟨-, -, -, -, -, g2⟩ := h2
  have e : cA = E.2 1 := Option.some.inj (g2.symm.trans g1)
  subst e
  exact kk q H1 locs ls hP1 hD1 hS1 hl
theorem jk_newL (K : jk_C Γ E own cc nL Ts rm) {index : Nat} {x : Int32} {z : Nat} (hdg : decode cc pc = .ok (.anewarray index, 3)) (hcl : Cond.classLink own index "HillBeaconsLaw$Hill" ∈ Ts) (hx : ¬ x < 0 ∧ x.toNatClampNeg = z) (hb : z * 4 ≤ 536870912) (hc : n + 1 ≤ rm.cells) (hs : k + z ≤ rm.slots)
    (kk : ∀ q : Nat, jk_J Γ E (ws ++ [(q, .inl (E.2 3, z, .inr (.inr (.inr (.inr (fun _ => none))))))]) (n + 1) (k + z) (pc + 3) lv (.ref q :: st)) : jk_J Γ E ws n k pc lv (.int x :: st) := by
  intro H locs ls hP hD hS hl
  obtain ⟨-, -, -, -, -, -, -, hao, -⟩ := K.2.2.2.2.2.2.2.2.2.1
  refine va_newq K.1 K.2.1 K.2.2.2.2.1 (K.2.2.2.1 _ hcl) hao K.2.2.2.2.2.2.1 hP hD hS K.2.2.2.2.2.2.2.1 hx.1 hx.2 hb (by rw [K.2.2.2.2.2.2.2.2.1]; exact hc) (by rw [K.2.2.2.2.2.2.2.2.1]; exact hs) hdg ?_
  intro q cA H1 hK1 hP1 hD1 hS1
  have h1 := (K.2.2.2.2.2.2.1.2 3 (E.2 3, .object "HillBeaconsLaw$Hill") rfl).2
  have h2 := (hK1.2 (jk_tys E.2).length (cA, .object "HillBeaconsLaw$Hill") (by rw [List.getElem?_append_right (Nat.le_refl _), Nat.sub_self]; rfl)).2
  obtain ⟨-, -, -, -, -, g1⟩ := h1
  obtain ⟨-, -, -, -, -, g2⟩ := h2
  have e : cA = E.2 3 := Option.some.inj (g2.symm.trans g1)
  subst e
  exact kk q H1 locs ls hP1 hD1 hS1 hl
theorem jk_newI (K : jk_C Γ E own cc nL Ts rm) {atype : ArrayType} {ty : FieldType} {x : Int32} {z ti : Nat} {a0 : vp_A} (hdg : decode cc pc = .ok (.newarray atype, 2)) (hw : Cond.arrayClass (newarray.typeOf atype) ∈ Ts) (hty : newarray.typeOf atype = ty) (hti : (jk_tys E.2)[ti]? = some (E.2 ti, ty)) (hra : ∀ (U : State) (cA : ClassId), va_RA U cA ty = (U.vm.findClass ("[" ++ ty.toString) = some cA)) (ha : ∀ cA : ClassId, vp_cell cA a0 = arrV cA z (fun _ => defaultValue ty)) (hx : ¬ x < 0 ∧ x.toNatClampNeg = z) (hb : z * componentBytes ty ≤ 536870912) (hc : n + 1 ≤ rm.cells) (hs : k + z ≤ rm.slots)
    (kk : ∀ q : Nat, jk_J Γ E (ws ++ [(q, .inl (E.2 ti, a0))]) (n + 1) (k + z) (pc + 2) lv (.ref q :: st)) : jk_J Γ E ws n k pc lv (.int x :: st) := by
  intro H locs ls hP hD hS hl
  refine va_newa K.1 K.2.1 (K.2.2.2.1 _ hw) hty K.2.2.2.2.2.2.1 hP hD hS K.2.2.2.2.2.2.2.1 ha hx.1 hx.2 hb (by rw [K.2.2.2.2.2.2.2.2.1]; exact hc) (by rw [K.2.2.2.2.2.2.2.2.1]; exact hs) hdg ?_
  intro q cA H1 hK1 hP1 hD1 hS1
  have h1 := (K.2.2.2.2.2.2.1.2 ti _ hti).2
  have h2 := (hK1.2 (jk_tys E.2).length (cA, ty) (by rw [List.getElem?_append_right (Nat.le_refl _), Nat.sub_self]; rfl)).2
  rw [hra] at h1 h2
  have e : cA = E.2 ti := Option.some.inj (h2.symm.trans h1)
  subst e
  exact kk q H1 locs ls hP1 hD1 hS1 hl
theorem sm_cellq {cA : ClassId} {N : Nat} {f g : Nat → Option Nat} (h : ∀ i, i < N → f i = g i) : vp_cell cA (N, .inr (.inr (.inr (.inr f)))) = vp_cell cA (N, .inr (.inr (.inr (.inr g)))) := by
  rw [vp_cell_q, vp_cell_q]
  unfold arrV
  congr 2
  funext ⟨i, hi⟩
  show va_rf (f i) = va_rf (g i)
  rw [h i hi]
/-- new int[10][10] -/
theorem jk_mna (K : jk_C Γ E own cc nL Ts rm) {index : Nat} (hdg : decode cc pc = .ok (.multianewarray index 2, 4)) (hcl : Cond.classLink own index ("[" ++ (FieldType.array .int).toString) ∈ Ts) (harr : Cond.arrayClass .int ∈ Ts) (hc : n + 11 ≤ rm.cells) (hs : k + 110 ≤ rm.slots)
    (kk : ∀ (q : Nat) (r : Nat → Nat), jk_J Γ E (ws ++ (q, .inl (E.2 4, 10, .inr (.inr (.inr (.inr (fun i => some (r i))))))) :: (List.range 10).map (fun i => (r i, .inl (E.2 0, 10, .inl (fun _ => 0))))) (n + 11) (k + 110) (pc + 4) lv (.ref q :: st)) : jk_J Γ E ws n k pc lv (.int 10 :: .int 10 :: st) := by
  intro H locs ls hP hD hS hl
  obtain ⟨-, -, -, -, -, -, -, -, hao, -⟩ := K.2.2.2.2.2.2.2.2.2.1
  have hcy : (jk_s Γ).vm.findClass (FieldType.array .int).toString = some (E.2 0) := (K.2.2.2.2.2.2.1.2 0 (E.2 0, .int) rfl).2
  have hws : ws ++ va_pl [] (fun _ => .inl (E.2 0, 0, .inl (fun _ => 0))) = ws := List.append_nil ws
  refine va_mna (X := ws) (L := []) (f := fun _ => .inl (E.2 0, 0, .inl (fun _ => 0))) (ty := .int) (N' := 10) (K' := 10) (z := (10, .inl (fun _ => 0))) K.1 K.2.1 K.2.2.2.2.1 (K.2.2.2.1 _ hcl) hao (K.2.2.2.1 _ harr) hcy K.2.2.2.2.2.2.1 (by rw [hws]; exact hP) (by rw [hws]; exact hD) hS K.2.2.2.2.2.2.2.1 (by decide) (by decide) (by decide) (by decide) (by decide) (by decide) (by decide) (by decide) (by decide) (by rw [K.2.2.2.2.2.2.2.2.1]; exact hc) (by rw [K.2.2.2.2.2.2.2.2.1]; exact hs) (fun c => by unfold Jvm.Free.Multi.innerC; rw [arrV_new]; rfl) hdg ?_
  intro q r cA H1 hr _ hK1 hP1 hD1 hS1
  have h1 := (K.2.2.2.2.2.2.1.2 4 (E.2 4, .array .int) rfl).2
  have h2 := (hK1.2 (jk_tys E.2).length (cA, .array .int) (by rw [List.getElem?_append_right (Nat.le_refl _), Nat.sub_self]; rfl)).2
  have e : cA = E.2 4 := Option.some.inj (h2.symm.trans h1)
  subst e
  have hcell : vp_cell (E.2 4) (10, .inr (.inr (.inr (.inr (fun i => if i < 10 then some (r i) else none))))) = vp_cell (E.2 4) (10, .inr (.inr (.inr (.inr (fun i => some (r i)))))) := sm_cellq (fun i hi => if_pos hi)
  have hrows : va_pl ([] ++ (List.range 10).map r) (vr_up (fun _ => .inl (E.2 0, 0, .inl (fun _ => 0))) ((List.range 10).map r) (.inl (E.2 0, 10, .inl (fun _ => 0)))) = (List.range 10).map (fun i => ((r i, .inl (E.2 0, 10, .inl (fun _ => 0))) : Nat × va_E)) := by
    rw [← vr_rows (L := []) (fun a _ h => by cases h)]
    show [] ++ ((List.range 10).map r).map _ = _
    rw [List.nil_append, List.map_map]
    rfl
  rw [hrows] at hP1 hD1
  rw [List.append_assoc] at hP1 hD1
  have hlen : ∀ (i : Nat) (p : Nat × va_E), (ws ++ (q, .inl (E.2 4, 10, .inr (.inr (.inr (.inr (fun i => some (r i))))))) :: (List.range 10).map (fun i => ((r i, .inl (E.2 0, 10, .inl (fun _ => 0))) : Nat × va_E)))[i]? = some p → ∃ p', (ws ++ ([(q, .inl (E.2 4, 10, .inr (.inr (.inr (.inr (fun i => if i < 10 then some (r i) else none))))))] ++ (List.range 10).map (fun i => ((r i, .inl (E.2 0, 10, .inl (fun _ => 0))) : Nat × va_E))))[i]? = some p' ∧ p'.1 = p.1 ∧ (p' = p ∨ (p = (q, .inl (E.2 4, 10, .inr (.inr (.inr (.inr (fun i => some (r i))))))) ∧ p' = (q, .inl (E.2 4, 10, .inr (.inr (.inr (.inr (fun i => if i < 10 then some (r i) else none)))))))) := by
    intro i p hp
    by_cases h1 : i < ws.length
    · rw [List.getElem?_append_left h1] at hp ⊢
      exact ⟨p, hp, rfl, Or.inl rfl⟩
    · rw [List.getElem?_append_right (by omega)] at hp ⊢
      cases hi : i - ws.length with
      | zero =>
        rw [hi] at hp
        cases hp
        exact ⟨_, rfl, rfl, Or.inr ⟨rfl, rfl⟩⟩
      | succ j =>
        rw [hi] at hp
        exact ⟨p, hp, rfl, Or.inl rfl⟩
  refine kk q r H1 locs ls (fun i p hp => ?_) ⟨fun i j p p2 hi hj e => ?_, fun i p hp => ?_⟩ hS1 hl
  · obtain ⟨p', g1, g2, g3⟩ := hlen i p hp
    have g := hP1 i p' g1
    rcases g3 with rfl | ⟨rfl, rfl⟩
    · exact g
    · show H1[q]? = some (vp_cell (E.2 4) _)
      rw [← hcell]
      exact g
  · obtain ⟨p', g1, g2, -⟩ := hlen i p hi
    obtain ⟨p2', g3, g4, -⟩ := hlen j p2 hj
    exact hD1.1 i j p' p2' g1 g3 (by rw [g2, g4, e])
  · obtain ⟨p', g1, g2, -⟩ := hlen i p hp
    rw [← g2]
    exact hD1.2 i p' g1
/-- a constructor of a nest mate -/
theorem jk_cIN (X : jk_C Γ E own cc nL Ts rm) {S : Type} {wf : S → va_W} {post : S → Prop} {index maxL : Nat} {host : String} {y : MethodName} {bytes : ByteArray} {wds wds' : List Cond} {rm2 : Room} {n' k' : Nat} (As rest : List Value) {b : Nat} (hdg : decode cc pc = .ok (.invokespecial index, 3)) (hM : jk_Ct (jk_l Γ) y wds rm2 (.ref b :: As) E ws (fun _ => none) wf post) (hG : GoodIn Ts wds) (hw : wds = Cond.code y bytes maxL none :: wds') (hnl : va_Nw (.methodLinkNest own index y host) (jk_s Γ)) (hi : Cond.initialized y.cls ∈ Ts ∧ Cond.instanceMethod y ∈ Ts) (hy : y.name = "<init>") (hd : y.cls ≠ "java/lang/invoke/MethodHandle" ∧ y.cls ≠ "java/lang/invoke/VarHandle" ∧ (parseMethodDescriptor y.desc).map (fun d => d.parameters.length) = some As.length) (hR : rm2.frames + 1 ≤ rm.frames ∧ 8 + (maxL + 11) + rm2.locals ≤ rm.locals) (hcat : (rest.map fun v => v.category).sum ≤ 8) (hn : n + rm2.cells = n' ∧ k + rm2.slots = k') (hf : n' ≤ rm.cells ∧ k' ≤ rm.slots) (hst : st = As.reverse ++ .ref b :: rest) (kk : ∀ u : S, post u → jk_J Γ E (wf u) n' k' (pc + 3) lv rest) : jk_J Γ E ws n k pc lv st := by
  subst hst
  obtain ⟨rfl, rfl⟩ := hn
  intro H locs ls hP hD hS hl
  exact jk_run X (va_runIN (As := As) (rest := rest) ⟨X.1, X.2.1, X.2.2.1, X.2.2.2.2.1, X.2.2.2.1⟩ (hM H.size) ⟨va_cnB As.length X.2.2.2.1 hG hw rfl rfl hnl (X.2.2.2.1 _ hi.1) hd (by rw [X.2.2.2.2.2.2.2.2.1]; exact hR), hy, X.2.2.2.1 _ hi.2⟩ ⟨jk_blind, jk_pre X hP hD hS⟩ rfl rfl (by rw [← X.2.2.1]; exact hl.1) rfl (lv_room hcat) hdg (by rw [X.2.2.2.2.2.2.2.2.1]; exact hf)) hD hS hl kk
/-- a row read otherwise -/
theorem jk_cellq {a : Nat} {cA : ClassId} {x y : vp_A} (q0 : Nat) (he : ws[q0]? = some (a, .inl (cA, x))) (hc : vp_cell cA x = vp_cell cA y) (hw : ws.set q0 (a, .inl (cA, y)) = w') (kk : jk_J Γ E w' n k pc lv st) : jk_J Γ E ws n k pc lv st := by
  subst hw
  have hlt : q0 < ws.length := (List.getElem?_eq_some_iff.mp he).1
  have key : ∀ (i : Nat) (p : Nat × va_E), (ws.set q0 (a, .inl (cA, y)))[i]? = some p → ∃ p', ws[i]? = some p' ∧ p'.1 = p.1 := by
    intro i p hi
    by_cases e : q0 = i
    · subst e
      rw [List.getElem?_set_self hlt] at hi
      cases hi
      exact ⟨_, he, rfl⟩
    · rw [List.getElem?_set_ne e] at hi
      exact ⟨p, hi, rfl⟩
  intro H locs ls hP hD hS hl
  refine kk H locs ls (fun i p hi => ?_) ⟨fun i j p q hi hj e => ?_, fun i p hi => ?_⟩ hS hl
  · by_cases e : q0 = i
    · subst e
      rw [List.getElem?_set_self hlt] at hi
      cases hi
      have h := hP q0 _ he
      show H[a]? = some (vp_cell cA y)
      rw [← hc]
      exact h
    · rw [List.getElem?_set_ne e] at hi
      exact hP i p hi
  · obtain ⟨p', h1, h2⟩ := key i p hi
    obtain ⟨q', h3, h4⟩ := key j q hj
    exact hD.1 i j p' q' h1 h3 (by rw [h2, h4, e])
  · obtain ⟨p', h1, h2⟩ := key i p hi
    rw [← h2]
    exact hD.2 i p' h1
theorem jk_map (σ : Nat → Nat) (hσ : ∀ i j, i < ws'.length → j < ws'.length → σ i = σ j → i = j) (hs : ∀ i, i < ws'.length → ws[σ i]? = ws'[i]?) (kk : jk_J Γ E ws' n k pc lv st) : jk_J Γ E ws n k pc lv st := by
  have hlt : ∀ {i : Nat} {p : Nat × va_E}, ws'[i]? = some p → i < ws'.length := fun h => (List.getElem?_eq_some_iff.mp h).1
  intro H locs ls hP hD hS hl
  refine kk H locs ls (fun i p hi => hP (σ i) p ((hs i (hlt hi)).trans hi)) ⟨fun i j p q hi hj e => ?_, fun i p hi => hD.2 (σ i) p ((hs i (hlt hi)).trans hi)⟩ hS hl
  exact hσ i j (hlt hi) (hlt hj) (hD.1 (σ i) (σ j) p q ((hs i (hlt hi)).trans hi) ((hs j (hlt hj)).trans hj) e)
theorem jk_lessX (is : List Nat) (hn : va_nd is = true) (hs : is.map (fun i => w[i]?) = w1.map some) (kk : jk_J Γ E (X ++ w1) n k pc lv st) : jk_J Γ E (X ++ w) n k pc lv st := by
  have hlen : is.length = w1.length := by have h := congrArg List.length hs; simpa using h
  have hg : ∀ m, m < w1.length → ∃ a, is[m]? = some a ∧ w[a]? = w1[m]? := by
    intro m hm
    have h := congrArg (fun l => l[m]?) hs
    simp only [List.getElem?_map] at h
    have h1 : is[m]? = some (is[m]'(by omega)) := List.getElem?_eq_getElem _
    rw [h1] at h
    have h2 : w1[m]? = some (w1[m]'hm) := List.getElem?_eq_getElem _
    rw [h2] at h ⊢
    exact ⟨_, h1, Option.some.inj h⟩
  have hd : ∀ m a, is[m]? = some a → is.getD m 0 = a := fun m a h => by rw [List.getD_eq_getElem?_getD, h]; rfl
  refine jk_map (fun i => if i < X.length then i else X.length + is.getD (i - X.length) 0) (fun i j hi hj e => ?_) (fun i hi => ?_) kk
  · rw [List.length_append] at hi hj
    have e : (if i < X.length then i else X.length + is.getD (i - X.length) 0) = (if j < X.length then j else X.length + is.getD (j - X.length) 0) := e
    by_cases h1 : i < X.length
    · rw [if_pos h1] at e
      by_cases h2 : j < X.length
      · rw [if_pos h2] at e; exact e
      · rw [if_neg h2] at e; omega
    · rw [if_neg h1] at e
      by_cases h2 : j < X.length
      · rw [if_pos h2] at e; omega
      · rw [if_neg h2] at e
        obtain ⟨a, ha, -⟩ := hg (i - X.length) (by omega)
        obtain ⟨b, hb, -⟩ := hg (j - X.length) (by omega)
        rw [hd _ _ ha, hd _ _ hb] at e
        have e2 : a = b := by omega
        subst e2
        have := va_nd_inj is hn _ _ _ ha hb
        omega
  · rw [List.length_append] at hi
    by_cases h1 : i < X.length
    · rw [if_pos h1, List.getElem?_append_left h1, List.getElem?_append_left h1]
    · rw [if_neg h1]
      obtain ⟨a, ha, e⟩ := hg (i - X.length) (by omega)
      rw [hd _ _ ha, List.getElem?_append_right (by omega), List.getElem?_append_right (by omega), show X.length + a - X.length = a by omega, e]
end JN
theorem hx_at {X w : va_W} {e : Nat × va_E} (k : Nat) (h : w[k]? = some e) : (X ++ w)[X.length + k]? = some e := by
  rw [List.getElem?_append_right (by omega), show X.length + k - X.length = k by omega, h]
theorem hx_set {X w w' : va_W} {e : Nat × va_E} (k : Nat) (h : w.set k e = w') : (X ++ w).set (X.length + k) e = X ++ w' := by
  rw [List.set_append_right _ _ (by omega), show X.length + k - X.length = k by omega, h]
theorem hx_last {w : va_W} {e : Nat × va_E} {k : Nat} (h : w.length = k) : (w ++ [e])[k]? = some e := by
  subst h
  rw [List.getElem?_append_right (Nat.le_refl _), Nat.sub_self]
  rfl
theorem hx_lset {w : va_W} {e e' : Nat × va_E} {k : Nat} (h : w.length = k) : (w ++ [e]).set k e' = w ++ [e'] := by
  subst h
  rw [List.set_append_right _ _ (Nat.le_refl _), Nat.sub_self]
  rfl
def hb_f0 : Nat → Int32 := hb_fu (hb_fu (hb_fu (fun _ => 0) 5 0) 6 0) 9 (-2)
def hb_la (p nw s : Value) : List Value := [p, nw, s, .int 0, .int 0, .int 0, .int 0, .int 0, .int 0]
def hb_pf (b : Nat → Nat) (j : Nat) : Nat → Option Nat := fun i => if i < j then some (b i) else none
def hb_hs (b : Nat → Nat) (j : Nat) : va_W := (List.range j).map (fun i => (b i, .inr (0, hb_hill hb_f0)))
def hb_c4 (E : jk_T) (b0 p nw s : Nat) (b : Nat → Nat) (j : Nat) : va_W := (b0, .inr (1, hb_la (.ref p) (.ref nw) (.ref s))) :: (p, .inl (E.2 1, 10, .inr (.inr (.inr (.inr (hb_pf b j)))))) :: (nw, .inr (0, hb_hill hb_f0)) :: (s, .inl (E.2 0, 100, .inl (fun _ => 0))) :: hb_hs b j
theorem hb_c4_len {E : jk_T} {b0 p nw s : Nat} {b : Nat → Nat} {j : Nat} : (hb_c4 E b0 p nw s b j).length = 4 + j := by
  simp [hb_c4, hb_hs]
  omega
theorem hb_pf_s (b : Nat → Nat) (j q : Nat) : va_up (hb_pf b j) j (some q) = hb_pf (va_up b j q) (j + 1) := by
  funext i
  unfold hb_pf
  by_cases h : i = j
  · subst h; rw [va_up_self, if_pos (by omega), va_up_self]
  · rw [va_up_ne _ _ h]
    by_cases h2 : i < j
    · rw [if_pos h2, if_pos (by omega), va_up_ne _ _ h]
    · rw [if_neg h2, if_neg (by omega)]
theorem hb_hs_s (b : Nat → Nat) (j q : Nat) : hb_hs b j ++ [(q, .inr (0, hb_hill hb_f0))] = hb_hs (va_up b j q) (j + 1) := by
  unfold hb_hs
  rw [List.range_succ, List.map_append]
  congr 1
  · apply List.map_congr_left
    intro i hi
    have := List.mem_range.mp hi
    rw [va_up_ne _ _ (by omega)]
  · simp [va_up_self]
def hb_bb (b0 p nw s : Nat) (b : Nat → Nat) : Nat → Nat := fun i => cond (Nat.beq i 0) b0 (cond (Nat.beq i 1) p (cond (Nat.beq i 2) s (cond (Nat.beq i 13) nw (b (i - 3)))))
theorem hb_cellq (cA : ClassId) (b0 p nw s : Nat) (b : Nat → Nat) : vp_cell cA (10, .inr (.inr (.inr (.inr (hb_pf b 10))))) = vp_cell cA (10, .inr (.inr (.inr (.inr (fun i => some (hb_bb b0 p nw s b (3 + i))))))) := by
  rw [vp_cell_q, vp_cell_q]
  unfold arrV
  congr 2
  funext ⟨i, hi⟩
  show va_rf (hb_pf b 10 i) = va_rf (some (hb_bb b0 p nw s b (3 + i)))
  rcases (show i = 0 ∨ i = 1 ∨ i = 2 ∨ i = 3 ∨ i = 4 ∨ i = 5 ∨ i = 6 ∨ i = 7 ∨ i = 8 ∨ i = 9 by omega) with rfl | rfl | rfl | rfl | rfl | rfl | rfl | rfl | rfl | rfl <;> rfl
theorem df0 : ∀ j, j < 11 → defaultValue (tyX0 j) = vp_V (hb_hill (fun _ => 0)) j := by
  intro j hj
  rcases (show j = 0 ∨ j = 1 ∨ j = 2 ∨ j = 3 ∨ j = 4 ∨ j = 5 ∨ j = 6 ∨ j = 7 ∨ j = 8 ∨ j = 9 ∨ j = 10 by omega) with rfl | rfl | rfl | rfl | rfl | rfl | rfl | rfl | rfl | rfl | rfl <;> rfl
theorem df1 : ∀ j, j < 9 → defaultValue (tyX1 j) = vp_V (hb_la .null .null .null) j := by
  intro j hj
  rcases (show j = 0 ∨ j = 1 ∨ j = 2 ∨ j = 3 ∨ j = 4 ∨ j = 5 ∨ j = 6 ∨ j = 7 ∨ j = 8 by omega) with rfl | rfl | rfl | rfl | rfl | rfl | rfl | rfl | rfl <;> rfl
theorem df2 : ∀ j, j < 2 → defaultValue (tyX2 j) = vp_V [.null, .null] j := by
  intro j hj
  rcases (show j = 0 ∨ j = 1 by omega) with rfl | rfl <;> rfl
def sm_hill (f : Nat → Int32) : List Value := [.int (f 0), .int (f 1), .int (f 2), .int (f 3), .int (hb_zb (f 4)), .int (hb_zb (f 5)), .int (f 6), .int (f 7), .int (f 8), .int (f 9), .int (f 10)]
theorem df3 : ∀ j, j < 11 → defaultValue (tyX3 j) = vp_V (sm_hill (fun _ => 0)) j := by
  intro j hj
  rcases (show j = 0 ∨ j = 1 ∨ j = 2 ∨ j = 3 ∨ j = 4 ∨ j = 5 ∨ j = 6 ∨ j = 7 ∨ j = 8 ∨ j = 9 ∨ j = 10 by omega) with rfl | rfl | rfl | rfl | rfl | rfl | rfl | rfl | rfl | rfl | rfl <;> rfl
theorem df4 : ∀ j, j < 7 → defaultValue (tyX4 j) = vp_V [.int 0, .int 0, .int 0, .int 0, .int 0, .null, .null] j := by
  intro j hj
  rcases (show j = 0 ∨ j = 1 ∨ j = 2 ∨ j = 3 ∨ j = 4 ∨ j = 5 ∨ j = 6 by omega) with rfl | rfl | rfl | rfl | rfl | rfl | rfl <;> rfl
