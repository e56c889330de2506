/-! CONTRACTS over the judgement: a method's own world is ws before, wf u behind, for some u with post u; the answer is val u. -/
def jk_P (av : List Value) (E : jk_T) (ws : va_W) (sz : Nat) : Array Value → State → Prop := va_Pc av (fun U => U.heap.size = sz ∧ va_P E.1.1 vwCl ws U.heap ∧ va_K E.1.1 vwCl (jk_tys E.2) U ∧ va_D (fun _ => True) ws ∧ jk_X E (va_A ws sz) U U.heap)
def jk_Qc {S : Type} (E : jk_T) (ws : va_W) (sz : Nat) (val : S → Option Value) (wf : S → va_W) (post : S → Prop) : Array Value → State → Outcome → State → Prop := fun _ st oc t => (∃ u : S, oc = .returned (val u) ∧ post u ∧ va_P E.1.1 vwCl (wf u) t.heap ∧ va_D (va_A ws sz) (wf u)) ∧ va_F (va_A ws sz) st t
def jk_XC (E : jk_T) (ws : va_W) (sz : Nat) (px : String → Prop) : String → State → State → Prop := fun Ex st t => (px Ex ∧ va_P E.1.1 vwCl ws t.heap ∧ va_D (va_A ws sz) ws) ∧ va_F (va_A ws sz) st t
/-- it returns -/
def jk_Ct {S : Type} (l : Launch) (y : MethodName) (wds : List Cond) (rm : Room) (av : List Value) (E : jk_T) (ws : va_W) (val : S → Option Value) (wf : S → va_W) (post : S → Prop) : Prop := ∀ sz : Nat, Met l y wds rm (jk_P av E ws sz) (jk_Qc E ws sz val wf post) rm.cells rm.slots (va_A ws sz)
/-- it returns, or throws an exception of which px speaks, with nothing changed -/
def jk_Cx {S : Type} (l : Launch) (y : MethodName) (wds : List Cond) (rm : Room) (av : List Value) (E : jk_T) (ws : va_W) (val : S → Option Value) (wf : S → va_W) (post : S → Prop) (px : String → Prop) : Prop := ∀ sz : Nat, vx_Met l y wds rm (jk_P av E ws sz) (jk_Qc E ws sz val wf post) (jk_XC E ws sz px) rm.cells rm.slots (va_A ws sz)
theorem jk_blind {av : List Value} {E : jk_T} {ws : va_W} {sz : Nat} : FrameBlind (jk_P av E ws sz) := by
  intro a U g mk h
  obtain ⟨h1, h2, h3, h4, h5, h6⟩ := h
  exact ⟨h1, h2, h3, va_K.moved (u := U) (U := U.calling g mk a) (Vm.Alike.refl U.vm) h4, h5, h6.call⟩
theorem jk_AA {A : Nat → Prop} {ws : va_W} {sz s0 : Nat} (hD : va_D A ws) (hA : ∀ q, s0 ≤ q → A q) (h : s0 ≤ sz) : ∀ q, va_A ws sz q → A q := fun q hq => hq.elim (fun ⟨k, e, hk⟩ => hD.2 k (q, e) hk) (fun hk => hA q (Nat.le_trans h hk))
section JC
variable {Γ : jk_G} {E : jk_T} {own : String} {cc : ByteArray} {nL : Nat} {Ts : List Cond} {rm : Room} {ws : va_W} {n k pc : Nat} {lv lv' : List (Nat × Value)} {st : List Value}
theorem jk_pre (X : jk_C Γ E own cc nL Ts rm) {av : List Value} {H : Heap} {locs : List Loc} (hP : va_P E.1.1 vwCl ws H) (hD : va_D (jk_A Γ) ws) (hS : va_S (jk_A Γ) (jk_s Γ).heap H locs) : ∀ U : State, U.heap = H → (jk_s Γ).WarmedH U.vm → jk_P av E ws H.size av.toArray U := by
  intro U hU hW
  subst hU
  exact ⟨rfl, rfl, hP, va_K.moved hW.alike X.2.2.2.2.2.2.1, hD.weaken (fun _ _ _ _ => trivial), X.2.2.2.2.2.2.2.2.2.1.go hW hS (jk_AA hD X.2.2.2.2.2.2.2.1 hS.1)⟩
/-- behind a call -/
theorem jk_run (X : jk_C Γ E own cc nL Ts rm) {S : Type} {val : S → Option Value} {wf : S → va_W} {post : S → Prop} {H : Heap} {locs : List Loc} {ls : Array Slot} {rest : List Value} {a : Array Value} {mc ms : Nat}
    (hr : va_Run (jk_p Γ) (jk_l Γ) (jk_e Γ) (jk_R Γ) (jk_s Γ) (jk_m Γ) (jk_a Γ) (jk_b Γ) (jk_M Γ) (jk_c Γ) H locs n k mc ms (F0 (jk_m Γ) pc ls st) rest (jk_Qc E ws H.size val wf post a) (va_A ws H.size))
    (hD : va_D (jk_A Γ) ws) (hS : va_S (jk_A Γ) (jk_s Γ).heap H locs) (hl : lv_has ls (jk_c Γ).maxLocals lv)
    (kk : ∀ u : S, post u → jk_J Γ E (wf u) (n + mc) (k + ms) (pc + 3) lv ((val u).toList ++ rest)) : jk_W Γ H locs n k (F0 (jk_m Γ) pc ls st) := by
  have hF := jk_AA (sz := H.size) hD X.2.2.2.2.2.2.2.1 hS.1
  intro T hT Y
  obtain ⟨v, st₀, t, T', L, h0, X', hL, e1, e2, ⟨⟨u, hv, hp, hP1, hD1⟩, hz, hk⟩, go⟩ := hr T hT Y
  cases hv
  rw [h0] at hz hk
  obtain ⟨t2, a1, b1⟩ := kk u hp T'.heap (locs ++ L) ls (by rw [e1]; exact hP1) (hD1.weaken (fun _ q _ h => hF q.1 h))
    ⟨Nat.le_trans hS.1 (by rw [e1]; exact hz), fun q h1 h2 => by rw [e1, hk q (Nat.lt_of_lt_of_le h1 hS.1) (fun z => h2 (hF q z))]; exact hS.2.1 q h1 h2, fun q hq => by
      rcases List.mem_append.mp hq with h | h
      · exact hS.2.2 q h
      · exact hF _ (hL q h)⟩ hl T' rfl X'
  exact ⟨t2, go t2 a1, b1⟩
theorem jk_runx (X : jk_C Γ E own cc nL Ts rm) {S : Type} {val : S → Option Value} {wf : S → va_W} {post : S → Prop} {px : String → Prop} {H : Heap} {locs : List Loc} {ls : Array Slot} {rest : List Value} {a : Array Value} {mc ms : Nat}
    (hr : vx_Run (jk_p Γ) (jk_l Γ) (jk_e Γ) (jk_R Γ) (jk_s Γ) (jk_m Γ) (jk_a Γ) (jk_b Γ) (jk_M Γ) (jk_c Γ) H locs n k mc ms (F0 (jk_m Γ) pc ls st) rest (jk_Qc E ws H.size val wf post a) (jk_XC E ws H.size px) (va_A ws H.size))
    (hD : va_D (jk_A Γ) ws) (hS : va_S (jk_A Γ) (jk_s Γ).heap H locs) (hl : lv_has ls (jk_c Γ).maxLocals lv)
    (kx : ∀ Ex : String, px Ex → jk_JX Γ E ws (n + mc) (k + ms) pc lv rest Ex)
    (kk : ∀ u : S, post u → jk_J Γ E (wf u) (n + mc) (k + ms) (pc + 3) lv ((val u).toList ++ rest)) : jk_W Γ H locs n k (F0 (jk_m Γ) pc ls st) := by
  have hF := jk_AA (sz := H.size) hD X.2.2.2.2.2.2.2.1 hS.1
  intro T hT Y
  rcases hr T hT Y with ⟨v, st₀, t, T', L, h0, X', hL, e1, e2, ⟨⟨u, hv, hp, hP1, hD1⟩, hz, hk⟩, go⟩ | ⟨q9, st₀, t, T', L, Ex, ce, h0, X', hL, e1, e2, ⟨⟨hp, hP1, hD1⟩, hz, hk⟩, hce, hcv, hcl, go⟩
  · cases hv
    rw [h0] at hz hk
    obtain ⟨t2, a1, b1⟩ := kk u hp T'.heap (locs ++ L) ls (by rw [e1]; exact hP1) (hD1.weaken (fun _ q _ h => hF q.1 h))
      ⟨Nat.le_trans hS.1 (by rw [e1]; exact hz), fun q h1 h2 => by rw [e1, hk q (Nat.lt_of_lt_of_le h1 hS.1) (fun z => h2 (hF q z))]; exact hS.2.1 q h1 h2, fun q hq => by
        rcases List.mem_append.mp hq with h | h
        · exact hS.2.2 q h
        · exact hF _ (hL q h)⟩ hl T' rfl X'
    exact ⟨t2, go t2 a1, b1⟩
  · rw [h0] at hz hk
    obtain ⟨t2, a1, b1⟩ := kx Ex hp T'.heap (locs ++ L) ls ce q9 (by rw [e1]; exact hP1) (hD1.weaken (fun _ q _ h => hF q.1 h))
      ⟨Nat.le_trans hS.1 (by rw [e1]; exact hz), fun q h1 h2 => by rw [e1, hk q (Nat.lt_of_lt_of_le h1 hS.1) (fun z => h2 (hF q z))]; exact hS.2.1 q h1 h2, fun q hq => by
        rcases List.mem_append.mp hq with h | h
        · exact hS.2.2 q h
        · exact hF _ (hL q h)⟩ hl (by rw [e1]; exact hce) hcv hcl T' rfl X'
    exact ⟨t2, go.trans a1, b1⟩
theorem jk_recv (X : jk_C Γ E own cc nL Ts rm) {H : Heap} (hP : va_P E.1.1 vwCl ws H) {C : String} {T : u_T} {N ci q0 b : Nat} {fs : List Value} (hc : vwCl[ci]? = some (C, T, N)) (he : ws[q0]? = some (b, .inr (ci, fs))) : ∃ cell : Cell, H[b]? = some cell ∧ cell.vm.isStatics = false ∧ (jk_s Γ).vm.findClass C = some cell.cls := va_recv X.2.2.2.2.2.2.1 hP hc he
theorem jk_cVi (X : jk_C Γ E own cc nL Ts rm) {S : Type} {r : S → Int32} {wf : S → va_W} {post : S → Prop} {index maxL : Nat} {y : MethodName} {bytes : ByteArray} {ret : Option FieldType} {wds wds' : List Cond} {rm2 : Room} {n' k' : Nat} (As rest : List Value) {C : String} {b : Nat} (hdg : decode cc pc = .ok (.invokevirtual index, 3)) (hM : jk_Ct (jk_l Γ) y wds rm2 (.ref b :: As) E ws (fun u => some (.int (r u))) wf post) (hT : GoodIn Ts (wsV own index C y wds)) (hw : wds = Cond.code y bytes maxL ret :: wds') (hd : y.cls = C ∧ y.cls ≠ "java/lang/invoke/MethodHandle" ∧ y.cls ≠ "java/lang/invoke/VarHandle" ∧ (parseMethodDescriptor y.desc).map (fun d => d.parameters.length) = some As.length) (hR : rm2.frames + 1 ≤ rm.frames ∧ 8 + (maxL + 11) + rm2.locals ≤ rm.locals) (q0 : Nat) {ci N : Nat} {T : u_T} {fs : List Value} (he : ws[q0]? = some (b, .inr (ci, fs))) (hc : vwCl[ci]? = some (C, T, N)) (hcat : (rest.map fun v => v.category).sum ≤ 8) (hn : n + rm2.cells = n' ∧ k + rm2.slots = k') (hf : n' ≤ rm.cells ∧ k' ≤ rm.slots) (hst : st = As.reverse ++ .ref b :: rest) (kk : ∀ u : S, post u → jk_J Γ E (wf u) n' k' (pc + 3) lv (.int (r u) :: rest)) : jk_J Γ E ws n k pc lv st := by
  subst hst
  obtain ⟨rfl, rfl⟩ := hn
  intro H locs ls hP hD hS hl
  exact jk_run X (va_runV (As := As) (rest := rest) ⟨X.1, X.2.1, X.2.2.1, X.2.2.2.2.1, X.2.2.2.1⟩ (hM H.size) (cwV As.length X.2.2.2.1 hT hw rfl rfl hd (by rw [X.2.2.2.2.2.2.2.2.1]; exact hR)) ⟨jk_blind, jk_recv X hP hc he, jk_pre X hP hD hS⟩ rfl rfl (by rw [← X.2.2.1]; exact hl.1) rfl (lv_room hcat) hdg (by rw [X.2.2.2.2.2.2.2.2.1]; exact hf)) hD hS hl kk
theorem jk_cSi (X : jk_C Γ E own cc nL Ts rm) {S : Type} {r : S → Int32} {wf : S → va_W} {post : S → Prop} {index maxL : Nat} {y : MethodName} {bytes : ByteArray} {ret : Option FieldType} {wds wds' : List Cond} {rm2 : Room} {n' k' : Nat} (As rest : List Value) (hdg : decode cc pc = .ok (.invokestatic index, 3)) (hM : jk_Ct (jk_l Γ) y wds rm2 As E ws (fun u => some (.int (r u))) wf post) (hT : GoodIn Ts (va_wsS own index y wds)) (hw : wds = Cond.code y bytes maxL ret :: wds') (hd : y.cls ≠ "java/lang/invoke/MethodHandle" ∧ y.cls ≠ "java/lang/invoke/VarHandle" ∧ (parseMethodDescriptor y.desc).map (fun d => d.parameters.length) = some As.length) (hR : rm2.frames + 1 ≤ rm.frames ∧ 8 + (maxL + 11) + rm2.locals ≤ rm.locals) (hcat : (rest.map fun v => v.category).sum ≤ 8) (hn : n + rm2.cells = n' ∧ k + rm2.slots = k') (hf : n' ≤ rm.cells ∧ k' ≤ rm.slots) (hst : st = As.reverse ++ rest) (kk : ∀ u : S, post u → jk_J Γ E (wf u) n' k' (pc + 3) lv (.int (r u) :: rest)) : jk_J Γ E ws n k pc lv st := by
  subst hst
  obtain ⟨rfl, rfl⟩ := hn
  intro H locs ls hP hD hS hl
  exact jk_run X (va_runS (As := As) (rest := rest) ⟨X.1, X.2.1, X.2.2.1, X.2.2.2.2.1, X.2.2.2.1⟩ (hM H.size) (va_cwS As.length X.2.2.2.1 hT hw rfl rfl hd (by rw [X.2.2.2.2.2.2.2.2.1]; exact hR)) ⟨jk_blind, jk_pre X hP hD hS⟩ rfl rfl (by rw [← X.2.2.1]; exact hl.1) rfl (lv_room hcat) hdg (by rw [X.2.2.2.2.2.2.2.2.1]; exact hf)) hD hS hl kk
theorem jk_cVix (X : jk_C Γ E own cc nL Ts rm) {S : Type} {r : S → Int32} {wf : S → va_W} {post : S → Prop} {index maxL : Nat} {y : MethodName} {bytes : ByteArray} {ret : Option FieldType} {wds wds' : List Cond} {rm2 : Room} {n' k' : Nat} (As rest : List Value) {px : String → Prop} {C : String} {b : Nat} (hdg : decode cc pc = .ok (.invokevirtual index, 3)) (hM : jk_Cx (jk_l Γ) y wds rm2 (.ref b :: As) E ws (fun u => some (.int (r u))) wf post px) (hT : GoodIn Ts (wsV own index C y wds)) (hw : wds = Cond.code y bytes maxL ret :: wds') (hd : y.cls = C ∧ y.cls ≠ "java/lang/invoke/MethodHandle" ∧ y.cls ≠ "java/lang/invoke/VarHandle" ∧ (parseMethodDescriptor y.desc).map (fun d => d.parameters.length) = some As.length) (hR : rm2.frames + 1 ≤ rm.frames ∧ 8 + (maxL + 11) + rm2.locals ≤ rm.locals) (q0 : Nat) {ci N : Nat} {T : u_T} {fs : List Value} (he : ws[q0]? = some (b, .inr (ci, fs))) (hc : vwCl[ci]? = some (C, T, N)) (hcat : (rest.map fun v => v.category).sum ≤ 8) (hn : n + rm2.cells = n' ∧ k + rm2.slots = k') (hf : n' ≤ rm.cells ∧ k' ≤ rm.slots) (hst : st = As.reverse ++ .ref b :: rest) (kx : ∀ Ex : String, px Ex → jk_JX Γ E ws n' k' pc lv rest Ex) (kk : ∀ u : S, post u → jk_J Γ E (wf u) n' k' (pc + 3) lv (.int (r u) :: rest)) : jk_J Γ E ws n k pc lv st := by
  subst hst
  obtain ⟨rfl, rfl⟩ := hn
  intro H locs ls hP hD hS hl
  exact jk_runx X (vx_runV (As := As) (rest := rest) ⟨X.1, X.2.1, X.2.2.1, X.2.2.2.2.1, X.2.2.2.1⟩ (hM H.size) (cwV As.length X.2.2.2.1 hT hw rfl rfl hd (by rw [X.2.2.2.2.2.2.2.2.1]; exact hR)) ⟨jk_blind, jk_recv X hP hc he, jk_pre X hP hD hS⟩ rfl rfl (by rw [← X.2.2.1]; exact hl.1) rfl (lv_room hcat) hdg (by rw [X.2.2.2.2.2.2.2.2.1]; exact hf)) hD hS hl kx kk
theorem jk_cSix (X : jk_C Γ E own cc nL Ts rm) {S : Type} {r : S → Int32} {wf : S → va_W} {post : S → Prop} {index maxL : Nat} {y : MethodName} {bytes : ByteArray} {ret : Option FieldType} {wds wds' : List Cond} {rm2 : Room} {n' k' : Nat} (As rest : List Value) {px : String → Prop} (hdg : decode cc pc = .ok (.invokestatic index, 3)) (hM : jk_Cx (jk_l Γ) y wds rm2 As E ws (fun u => some (.int (r u))) wf post px) (hT : GoodIn Ts (va_wsS own index y wds)) (hw : wds = Cond.code y bytes maxL ret :: wds') (hd : y.cls ≠ "java/lang/invoke/MethodHandle" ∧ y.cls ≠ "java/lang/invoke/VarHandle" ∧ (parseMethodDescriptor y.desc).map (fun d => d.parameters.length) = some As.length) (hR : rm2.frames + 1 ≤ rm.frames ∧ 8 + (maxL + 11) + rm2.locals ≤ rm.locals) (hcat : (rest.map fun v => v.category).sum ≤ 8) (hn : n + rm2.cells = n' ∧ k + rm2.slots = k') (hf : n' ≤ rm.cells ∧ k' ≤ rm.slots) (hst : st = As.reverse ++ rest) (kx : ∀ Ex : String, px Ex → jk_JX Γ E ws n' k' pc lv rest Ex) (kk : ∀ u : S, post u → jk_J Γ E (wf u) n' k' (pc + 3) lv (.int (r u) :: rest)) : jk_J Γ E ws n k pc lv st := by
  subst hst
  obtain ⟨rfl, rfl⟩ := hn
  intro H locs ls hP hD hS hl
  exact jk_runx X (vx_runS (As := As) (rest := rest) ⟨X.1, X.2.1, X.2.2.1, X.2.2.2.2.1, X.2.2.2.1⟩ (hM H.size) (va_cwS As.length X.2.2.2.1 hT hw rfl rfl hd (by rw [X.2.2.2.2.2.2.2.2.1]; exact hR)) ⟨jk_blind, jk_pre X hP hD hS⟩ rfl rfl (by rw [← X.2.2.1]; exact hl.1) rfl (lv_room hcat) hdg (by rw [X.2.2.2.2.2.2.2.2.1]; exact hf)) hD hS hl kx kk
theorem jk_cVl (X : jk_C Γ E own cc nL Ts rm) {S : Type} {r : S → Int64} {wf : S → va_W} {post : S → Prop} {index maxL : Nat} {y : MethodName} {bytes : ByteArray} {ret : Option FieldType} {wds wds' : List Cond} {rm2 : Room} {n' k' : Nat} (As rest : List Value) {C : String} {b : Nat} (hdg : decode cc pc = .ok (.invokevirtual index, 3)) (hM : jk_Ct (jk_l Γ) y wds rm2 (.ref b :: As) E ws (fun u => some (.long (r u))) wf post) (hT : GoodIn Ts (wsV own index C y wds)) (hw : wds = Cond.code y bytes maxL ret :: wds') (hd : y.cls = C ∧ y.cls ≠ "java/lang/invoke/MethodHandle" ∧ y.cls ≠ "java/lang/invoke/VarHandle" ∧ (parseMethodDescriptor y.desc).map (fun d => d.parameters.length) = some As.length) (hR : rm2.frames + 1 ≤ rm.frames ∧ 8 + (maxL + 11) + rm2.locals ≤ rm.locals) (q0 : Nat) {ci N : Nat} {T : u_T} {fs : List Value} (he : ws[q0]? = some (b, .inr (ci, fs))) (hc : vwCl[ci]? = some (C, T, N)) (hcat : (rest.map fun v => v.category).sum ≤ 8) (hn : n + rm2.cells = n' ∧ k + rm2.slots = k') (hf : n' ≤ rm.cells ∧ k' ≤ rm.slots) (hst : st = As.reverse ++ .ref b :: rest) (kk : ∀ u : S, post u → jk_J Γ E (wf u) n' k' (pc + 3) lv (.long (r u) :: rest)) : jk_J Γ E ws n k pc lv st := by
  subst hst
  obtain ⟨rfl, rfl⟩ := hn
  intro H locs ls hP hD hS hl
  exact jk_run X (va_runV (As := As) (rest := rest) ⟨X.1, X.2.1, X.2.2.1, X.2.2.2.2.1, X.2.2.2.1⟩ (hM H.size) (cwV As.length X.2.2.2.1 hT hw rfl rfl hd (by rw [X.2.2.2.2.2.2.2.2.1]; exact hR)) ⟨jk_blind, jk_recv X hP hc he, jk_pre X hP hD hS⟩ rfl rfl (by rw [← X.2.2.1]; exact hl.1) rfl (lv_room hcat) hdg (by rw [X.2.2.2.2.2.2.2.2.1]; exact hf)) hD hS hl kk
theorem jk_cSl (X : jk_C Γ E own cc nL Ts rm) {S : Type} {r : S → Int64} {wf : S → va_W} {post : S → Prop} {index maxL : Nat} {y : MethodName} {bytes : ByteArray} {ret : Option FieldType} {wds wds' : List Cond} {rm2 : Room} {n' k' : Nat} (As rest : List Value) (hdg : decode cc pc = .ok (.invokestatic index, 3)) (hM : jk_Ct (jk_l Γ) y wds rm2 As E ws (fun u => some (.long (r u))) wf post) (hT : GoodIn Ts (va_wsS own index y wds)) (hw : wds = Cond.code y bytes maxL ret :: wds') (hd : y.cls ≠ "java/lang/invoke/MethodHandle" ∧ y.cls ≠ "java/lang/invoke/VarHandle" ∧ (parseMethodDescriptor y.desc).map (fun d => d.parameters.length) = some As.length) (hR : rm2.frames + 1 ≤ rm.frames ∧ 8 + (maxL + 11) + rm2.locals ≤ rm.locals) (hcat : (rest.map fun v => v.category).sum ≤ 8) (hn : n + rm2.cells = n' ∧ k + rm2.slots = k') (hf : n' ≤ rm.cells ∧ k' ≤ rm.slots) (hst : st = As.reverse ++ rest) (kk : ∀ u : S, post u → jk_J Γ E (wf u) n' k' (pc + 3) lv (.long (r u) :: rest)) : jk_J Γ E ws n k pc lv st := by
  subst hst
  obtain ⟨rfl, rfl⟩ := hn
  intro H locs ls hP hD hS hl
  exact jk_run X (va_runS (As := As) (rest := rest) ⟨X.1, X.2.1, X.2.2.1, X.2.2.2.2.1, X.2.2.2.1⟩ (hM H.size) (va_cwS As.length X.2.2.2.1 hT hw rfl rfl hd (by rw [X.2.2.2.2.2.2.2.2.1]; exact hR)) ⟨jk_blind, jk_pre X hP hD hS⟩ rfl rfl (by rw [← X.2.2.1]; exact hl.1) rfl (lv_room hcat) hdg (by rw [X.2.2.2.2.2.2.2.2.1]; exact hf)) hD hS hl kk
theorem jk_cVlx (X : jk_C Γ E own cc nL Ts rm) {S : Type} {r : S → Int64} {wf : S → va_W} {post : S → Prop} {index maxL : Nat} {y : MethodName} {bytes : ByteArray} {ret : Option FieldType} {wds wds' : List Cond} {rm2 : Room} {n' k' : Nat} (As rest : List Value) {px : String → Prop} {C : String} {b : Nat} (hdg : decode cc pc = .ok (.invokevirtual index, 3)) (hM : jk_Cx (jk_l Γ) y wds rm2 (.ref b :: As) E ws (fun u => some (.long (r u))) wf post px) (hT : GoodIn Ts (wsV own index C y wds)) (hw : wds = Cond.code y bytes maxL ret :: wds') (hd : y.cls = C ∧ y.cls ≠ "java/lang/invoke/MethodHandle" ∧ y.cls ≠ "java/lang/invoke/VarHandle" ∧ (parseMethodDescriptor y.desc).map (fun d => d.parameters.length) = some As.length) (hR : rm2.frames + 1 ≤ rm.frames ∧ 8 + (maxL + 11) + rm2.locals ≤ rm.locals) (q0 : Nat) {ci N : Nat} {T : u_T} {fs : List Value} (he : ws[q0]? = some (b, .inr (ci, fs))) (hc : vwCl[ci]? = some (C, T, N)) (hcat : (rest.map fun v => v.category).sum ≤ 8) (hn : n + rm2.cells = n' ∧ k + rm2.slots = k') (hf : n' ≤ rm.cells ∧ k' ≤ rm.slots) (hst : st = As.reverse ++ .ref b :: rest) (kx : ∀ Ex : String, px Ex → jk_JX Γ E ws n' k' pc lv rest Ex) (kk : ∀ u : S, post u → jk_J Γ E (wf u) n' k' (pc + 3) lv (.long (r u) :: rest)) : jk_J Γ E ws n k pc lv st := by
  subst hst
  obtain ⟨rfl, rfl⟩ := hn
  intro H locs ls hP hD hS hl
  exact jk_runx X (vx_runV (As := As) (rest := rest) ⟨X.1, X.2.1, X.2.2.1, X.2.2.2.2.1, X.2.2.2.1⟩ (hM H.size) (cwV As.length X.2.2.2.1 hT hw rfl rfl hd (by rw [X.2.2.2.2.2.2.2.2.1]; exact hR)) ⟨jk_blind, jk_recv X hP hc he, jk_pre X hP hD hS⟩ rfl rfl (by rw [← X.2.2.1]; exact hl.1) rfl (lv_room hcat) hdg (by rw [X.2.2.2.2.2.2.2.2.1]; exact hf)) hD hS hl kx kk
theorem jk_cSlx (X : jk_C Γ E own cc nL Ts rm) {S : Type} {r : S → Int64} {wf : S → va_W} {post : S → Prop} {index maxL : Nat} {y : MethodName} {bytes : ByteArray} {ret : Option FieldType} {wds wds' : List Cond} {rm2 : Room} {n' k' : Nat} (As rest : List Value) {px : String → Prop} (hdg : decode cc pc = .ok (.invokestatic index, 3)) (hM : jk_Cx (jk_l Γ) y wds rm2 As E ws (fun u => some (.long (r u))) wf post px) (hT : GoodIn Ts (va_wsS own index y wds)) (hw : wds = Cond.code y bytes maxL ret :: wds') (hd : y.cls ≠ "java/lang/invoke/MethodHandle" ∧ y.cls ≠ "java/lang/invoke/VarHandle" ∧ (parseMethodDescriptor y.desc).map (fun d => d.parameters.length) = some As.length) (hR : rm2.frames + 1 ≤ rm.frames ∧ 8 + (maxL + 11) + rm2.locals ≤ rm.locals) (hcat : (rest.map fun v => v.category).sum ≤ 8) (hn : n + rm2.cells = n' ∧ k + rm2.slots = k') (hf : n' ≤ rm.cells ∧ k' ≤ rm.slots) (hst : st = As.reverse ++ rest) (kx : ∀ Ex : String, px Ex → jk_JX Γ E ws n' k' pc lv rest Ex) (kk : ∀ u : S, post u → jk_J Γ E (wf u) n' k' (pc + 3) lv (.long (r u) :: rest)) : jk_J Γ E ws n k pc lv st := by
  subst hst
  obtain ⟨rfl, rfl⟩ := hn
  intro H locs ls hP hD hS hl
  exact jk_runx X (vx_runS (As := As) (rest := rest) ⟨X.1, X.2.1, X.2.2.1, X.2.2.2.2.1, X.2.2.2.1⟩ (hM H.size) (va_cwS As.length X.2.2.2.1 hT hw rfl rfl hd (by rw [X.2.2.2.2.2.2.2.2.1]; exact hR)) ⟨jk_blind, jk_pre X hP hD hS⟩ rfl rfl (by rw [← X.2.2.1]; exact hl.1) rfl (lv_room hcat) hdg (by rw [X.2.2.2.2.2.2.2.2.1]; exact hf)) hD hS hl kx kk
theorem jk_cVd (X : jk_C Γ E own cc nL Ts rm) {S : Type} {r : S → UInt64} {wf : S → va_W} {post : S → Prop} {index maxL : Nat} {y : MethodName} {bytes : ByteArray} {ret : Option FieldType} {wds wds' : List Cond} {rm2 : Room} {n' k' : Nat} (As rest : List Value) {C : String} {b : Nat} (hdg : decode cc pc = .ok (.invokevirtual index, 3)) (hM : jk_Ct (jk_l Γ) y wds rm2 (.ref b :: As) E ws (fun u => some (.double (r u))) wf post) (hT : GoodIn Ts (wsV own index C y wds)) (hw : wds = Cond.code y bytes maxL ret :: wds') (hd : y.cls = C ∧ y.cls ≠ "java/lang/invoke/MethodHandle" ∧ y.cls ≠ "java/lang/invoke/VarHandle" ∧ (parseMethodDescriptor y.desc).map (fun d => d.parameters.length) = some As.length) (hR : rm2.frames + 1 ≤ rm.frames ∧ 8 + (maxL + 11) + rm2.locals ≤ rm.locals) (q0 : Nat) {ci N : Nat} {T : u_T} {fs : List Value} (he : ws[q0]? = some (b, .inr (ci, fs))) (hc : vwCl[ci]? = some (C, T, N)) (hcat : (rest.map fun v => v.category).sum ≤ 8) (hn : n + rm2.cells = n' ∧ k + rm2.slots = k') (hf : n' ≤ rm.cells ∧ k' ≤ rm.slots) (hst : st = As.reverse ++ .ref b :: rest) (kk : ∀ u : S, post u → jk_J Γ E (wf u) n' k' (pc + 3) lv (.double (r u) :: rest)) : jk_J Γ E ws n k pc lv st := by
  subst hst
  obtain ⟨rfl, rfl⟩ := hn
  intro H locs ls hP hD hS hl
  exact jk_run X (va_runV (As := As) (rest := rest) ⟨X.1, X.2.1, X.2.2.1, X.2.2.2.2.1, X.2.2.2.1⟩ (hM H.size) (cwV As.length X.2.2.2.1 hT hw rfl rfl hd (by rw [X.2.2.2.2.2.2.2.2.1]; exact hR)) ⟨jk_blind, jk_recv X hP hc he, jk_pre X hP hD hS⟩ rfl rfl (by rw [← X.2.2.1]; exact hl.1) rfl (lv_room hcat) hdg (by rw [X.2.2.2.2.2.2.2.2.1]; exact hf)) hD hS hl kk
theorem jk_cSd (X : jk_C Γ E own cc nL Ts rm) {S : Type} {r : S → UInt64} {wf : S → va_W} {post : S → Prop} {index maxL : Nat} {y : MethodName} {bytes : ByteArray} {ret : Option FieldType} {wds wds' : List Cond} {rm2 : Room} {n' k' : Nat} (As rest : List Value) (hdg : decode cc pc = .ok (.invokestatic index, 3)) (hM : jk_Ct (jk_l Γ) y wds rm2 As E ws (fun u => some (.double (r u))) wf post) (hT : GoodIn Ts (va_wsS own index y wds)) (hw : wds = Cond.code y bytes maxL ret :: wds') (hd : y.cls ≠ "java/lang/invoke/MethodHandle" ∧ y.cls ≠ "java/lang/invoke/VarHandle" ∧ (parseMethodDescriptor y.desc).map (fun d => d.parameters.length) = some As.length) (hR : rm2.frames + 1 ≤ rm.frames ∧ 8 + (maxL + 11) + rm2.locals ≤ rm.locals) (hcat : (rest.map fun v => v.category).sum ≤ 8) (hn : n + rm2.cells = n' ∧ k + rm2.slots = k') (hf : n' ≤ rm.cells ∧ k' ≤ rm.slots) (hst : st = As.reverse ++ rest) (kk : ∀ u : S, post u → jk_J Γ E (wf u) n' k' (pc + 3) lv (.double (r u) :: rest)) : jk_J Γ E ws n k pc lv st := by
  subst hst
  obtain ⟨rfl, rfl⟩ := hn
  intro H locs ls hP hD hS hl
  exact jk_run X (va_runS (As := As) (rest := rest) ⟨X.1, X.2.1, X.2.2.1, X.2.2.2.2.1, X.2.2.2.1⟩ (hM H.size) (va_cwS As.length X.2.2.2.1 hT hw rfl rfl hd (by rw [X.2.2.2.2.2.2.2.2.1]; exact hR)) ⟨jk_blind, jk_pre X hP hD hS⟩ rfl rfl (by rw [← X.2.2.1]; exact hl.1) rfl (lv_room hcat) hdg (by rw [X.2.2.2.2.2.2.2.2.1]; exact hf)) hD hS hl kk
theorem jk_cVdx (X : jk_C Γ E own cc nL Ts rm) {S : Type} {r : S → UInt64} {wf : S → va_W} {post : S → Prop} {index maxL : Nat} {y : MethodName} {bytes : ByteArray} {ret : Option FieldType} {wds wds' : List Cond} {rm2 : Room} {n' k' : Nat} (As rest : List Value) {px : String → Prop} {C : String} {b : Nat} (hdg : decode cc pc = .ok (.invokevirtual index, 3)) (hM : jk_Cx (jk_l Γ) y wds rm2 (.ref b :: As) E ws (fun u => some (.double (r u))) wf post px) (hT : GoodIn Ts (wsV own index C y wds)) (hw : wds = Cond.code y bytes maxL ret :: wds') (hd : y.cls = C ∧ y.cls ≠ "java/lang/invoke/MethodHandle" ∧ y.cls ≠ "java/lang/invoke/VarHandle" ∧ (parseMethodDescriptor y.desc).map (fun d => d.parameters.length) = some As.length) (hR : rm2.frames + 1 ≤ rm.frames ∧ 8 + (maxL + 11) + rm2.locals ≤ rm.locals) (q0 : Nat) {ci N : Nat} {T : u_T} {fs : List Value} (he : ws[q0]? = some (b, .inr (ci, fs))) (hc : vwCl[ci]? = some (C, T, N)) (hcat : (rest.map fun v => v.category).sum ≤ 8) (hn : n + rm2.cells = n' ∧ k + rm2.slots = k') (hf : n' ≤ rm.cells ∧ k' ≤ rm.slots) (hst : st = As.reverse ++ .ref b :: rest) (kx : ∀ Ex : String, px Ex → jk_JX Γ E ws n' k' pc lv rest Ex) (kk : ∀ u : S, post u → jk_J Γ E (wf u) n' k' (pc + 3) lv (.double (r u) :: rest)) : jk_J Γ E ws n k pc lv st := by
  subst hst
  obtain ⟨rfl, rfl⟩ := hn
  intro H locs ls hP hD hS hl
  exact jk_runx X (vx_runV (As := As) (rest := rest) ⟨X.1, X.2.1, X.2.2.1, X.2.2.2.2.1, X.2.2.2.1⟩ (hM H.size) (cwV As.length X.2.2.2.1 hT hw rfl rfl hd (by rw [X.2.2.2.2.2.2.2.2.1]; exact hR)) ⟨jk_blind, jk_recv X hP hc he, jk_pre X hP hD hS⟩ rfl rfl (by rw [← X.2.2.1]; exact hl.1) rfl (lv_room hcat) hdg (by rw [X.2.2.2.2.2.2.2.2.1]; exact hf)) hD hS hl kx kk
theorem jk_cSdx (X : jk_C Γ E own cc nL Ts rm) {S : Type} {r : S → UInt64} {wf : S → va_W} {post : S → Prop} {index maxL : Nat} {y : MethodName} {bytes : ByteArray} {ret : Option FieldType} {wds wds' : List Cond} {rm2 : Room} {n' k' : Nat} (As rest : List Value) {px : String → Prop} (hdg : decode cc pc = .ok (.invokestatic index, 3)) (hM : jk_Cx (jk_l Γ) y wds rm2 As E ws (fun u => some (.double (r u))) wf post px) (hT : GoodIn Ts (va_wsS own index y wds)) (hw : wds = Cond.code y bytes maxL ret :: wds') (hd : y.cls ≠ "java/lang/invoke/MethodHandle" ∧ y.cls ≠ "java/lang/invoke/VarHandle" ∧ (parseMethodDescriptor y.desc).map (fun d => d.parameters.length) = some As.length) (hR : rm2.frames + 1 ≤ rm.frames ∧ 8 + (maxL + 11) + rm2.locals ≤ rm.locals) (hcat : (rest.map fun v => v.category).sum ≤ 8) (hn : n + rm2.cells = n' ∧ k + rm2.slots = k') (hf : n' ≤ rm.cells ∧ k' ≤ rm.slots) (hst : st = As.reverse ++ rest) (kx : ∀ Ex : String, px Ex → jk_JX Γ E ws n' k' pc lv rest Ex) (kk : ∀ u : S, post u → jk_J Γ E (wf u) n' k' (pc + 3) lv (.double (r u) :: rest)) : jk_J Γ E ws n k pc lv st := by
  subst hst
  obtain ⟨rfl, rfl⟩ := hn
  intro H locs ls hP hD hS hl
  exact jk_runx X (vx_runS (As := As) (rest := rest) ⟨X.1, X.2.1, X.2.2.1, X.2.2.2.2.1, X.2.2.2.1⟩ (hM H.size) (va_cwS As.length X.2.2.2.1 hT hw rfl rfl hd (by rw [X.2.2.2.2.2.2.2.2.1]; exact hR)) ⟨jk_blind, jk_pre X hP hD hS⟩ rfl rfl (by rw [← X.2.2.1]; exact hl.1) rfl (lv_room hcat) hdg (by rw [X.2.2.2.2.2.2.2.2.1]; exact hf)) hD hS hl kx kk
theorem jk_cVv (X : jk_C Γ E own cc nL Ts rm) {S : Type} {wf : S → va_W} {post : S → Prop} {index maxL : Nat} {y : MethodName} {bytes : ByteArray} {ret : Option FieldType} {wds wds' : List Cond} {rm2 : Room} {n' k' : Nat} (As rest : List Value) {C : String} {b : Nat} (hdg : decode cc pc = .ok (.invokevirtual index, 3)) (hM : jk_Ct (jk_l Γ) y wds rm2 (.ref b :: As) E ws (fun u => none) wf post) (hT : GoodIn Ts (wsV own index C y wds)) (hw : wds = Cond.code y bytes maxL ret :: wds') (hd : y.cls = C ∧ y.cls ≠ "java/lang/invoke/MethodHandle" ∧ y.cls ≠ "java/lang/invoke/VarHandle" ∧ (parseMethodDescriptor y.desc).map (fun d => d.parameters.length) = some As.length) (hR : rm2.frames + 1 ≤ rm.frames ∧ 8 + (maxL + 11) + rm2.locals ≤ rm.locals) (q0 : Nat) {ci N : Nat} {T : u_T} {fs : List Value} (he : ws[q0]? = some (b, .inr (ci, fs))) (hc : vwCl[ci]? = some (C, T, N)) (hcat : (rest.map fun v => v.category).sum ≤ 8) (hn : n + rm2.cells = n' ∧ k + rm2.slots = k') (hf : n' ≤ rm.cells ∧ k' ≤ rm.slots) (hst : st = As.reverse ++ .ref b :: rest) (kk : ∀ u : S, post u → jk_J Γ E (wf u) n' k' (pc + 3) lv (rest)) : jk_J Γ E ws n k pc lv st := by
  subst hst
  obtain ⟨rfl, rfl⟩ := hn
  intro H locs ls hP hD hS hl
  exact jk_run X (va_runV (As := As) (rest := rest) ⟨X.1, X.2.1, X.2.2.1, X.2.2.2.2.1, X.2.2.2.1⟩ (hM H.size) (cwV As.length X.2.2.2.1 hT hw rfl rfl hd (by rw [X.2.2.2.2.2.2.2.2.1]; exact hR)) ⟨jk_blind, jk_recv X hP hc he, jk_pre X hP hD hS⟩ rfl rfl (by rw [← X.2.2.1]; exact hl.1) rfl (lv_room hcat) hdg (by rw [X.2.2.2.2.2.2.2.2.1]; exact hf)) hD hS hl kk
theorem jk_cSv (X : jk_C Γ E own cc nL Ts rm) {S : Type} {wf : S → va_W} {post : S → Prop} {index maxL : Nat} {y : MethodName} {bytes : ByteArray} {ret : Option FieldType} {wds wds' : List Cond} {rm2 : Room} {n' k' : Nat} (As rest : List Value) (hdg : decode cc pc = .ok (.invokestatic index, 3)) (hM : jk_Ct (jk_l Γ) y wds rm2 As E ws (fun u => none) wf post) (hT : GoodIn Ts (va_wsS own index y wds)) (hw : wds = Cond.code y bytes maxL ret :: wds') (hd : y.cls ≠ "java/lang/invoke/MethodHandle" ∧ y.cls ≠ "java/lang/invoke/VarHandle" ∧ (parseMethodDescriptor y.desc).map (fun d => d.parameters.length) = some As.length) (hR : rm2.frames + 1 ≤ rm.frames ∧ 8 + (maxL + 11) + rm2.locals ≤ rm.locals) (hcat : (rest.map fun v => v.category).sum ≤ 8) (hn : n + rm2.cells = n' ∧ k + rm2.slots = k') (hf : n' ≤ rm.cells ∧ k' ≤ rm.slots) (hst : st = As.reverse ++ rest) (kk : ∀ u : S, post u → jk_J Γ E (wf u) n' k' (pc + 3) lv (rest)) : jk_J Γ E ws n k pc lv st := by
  subst hst
  obtain ⟨rfl, rfl⟩ := hn
  intro H locs ls hP hD hS hl
  exact jk_run X (va_runS (As := As) (rest := rest) ⟨X.1, X.2.1, X.2.2.1, X.2.2.2.2.1, X.2.2.2.1⟩ (hM H.size) (va_cwS As.length X.2.2.2.1 hT hw rfl rfl hd (by rw [X.2.2.2.2.2.2.2.2.1]; exact hR)) ⟨jk_blind, jk_pre X hP hD hS⟩ rfl rfl (by rw [← X.2.2.1]; exact hl.1) rfl (lv_room hcat) hdg (by rw [X.2.2.2.2.2.2.2.2.1]; exact hf)) hD hS hl kk
theorem jk_cVvx (X : jk_C Γ E own cc nL Ts rm) {S : Type} {wf : S → va_W} {post : S → Prop} {index maxL : Nat} {y : MethodName} {bytes : ByteArray} {ret : Option FieldType} {wds wds' : List Cond} {rm2 : Room} {n' k' : Nat} (As rest : List Value) {px : String → Prop} {C : String} {b : Nat} (hdg : decode cc pc = .ok (.invokevirtual index, 3)) (hM : jk_Cx (jk_l Γ) y wds rm2 (.ref b :: As) E ws (fun u => none) wf post px) (hT : GoodIn Ts (wsV own index C y wds)) (hw : wds = Cond.code y bytes maxL ret :: wds') (hd : y.cls = C ∧ y.cls ≠ "java/lang/invoke/MethodHandle" ∧ y.cls ≠ "java/lang/invoke/VarHandle" ∧ (parseMethodDescriptor y.desc).map (fun d => d.parameters.length) = some As.length) (hR : rm2.frames + 1 ≤ rm.frames ∧ 8 + (maxL + 11) + rm2.locals ≤ rm.locals) (q0 : Nat) {ci N : Nat} {T : u_T} {fs : List Value} (he : ws[q0]? = some (b, .inr (ci, fs))) (hc : vwCl[ci]? = some (C, T, N)) (hcat : (rest.map fun v => v.category).sum ≤ 8) (hn : n + rm2.cells = n' ∧ k + rm2.slots = k') (hf : n' ≤ rm.cells ∧ k' ≤ rm.slots) (hst : st = As.reverse ++ .ref b :: rest) (kx : ∀ Ex : String, px Ex → jk_JX Γ E ws n' k' pc lv rest Ex) (kk : ∀ u : S, post u → jk_J Γ E (wf u) n' k' (pc + 3) lv (rest)) : jk_J Γ E ws n k pc lv st := by
  subst hst
  obtain ⟨rfl, rfl⟩ := hn
  intro H locs ls hP hD hS hl
  exact jk_runx X (vx_runV (As := As) (rest := rest) ⟨X.1, X.2.1, X.2.2.1, X.2.2.2.2.1, X.2.2.2.1⟩ (hM H.size) (cwV As.length X.2.2.2.1 hT hw rfl rfl hd (by rw [X.2.2.2.2.2.2.2.2.1]; exact hR)) ⟨jk_blind, jk_recv X hP hc he, jk_pre X hP hD hS⟩ rfl rfl (by rw [← X.2.2.1]; exact hl.1) rfl (lv_room hcat) hdg (by rw [X.2.2.2.2.2.2.2.2.1]; exact hf)) hD hS hl kx kk
theorem jk_cSvx (X : jk_C Γ E own cc nL Ts rm) {S : Type} {wf : S → va_W} {post : S → Prop} {index maxL : Nat} {y : MethodName} {bytes : ByteArray} {ret : Option FieldType} {wds wds' : List Cond} {rm2 : Room} {n' k' : Nat} (As rest : List Value) {px : String → Prop} (hdg : decode cc pc = .ok (.invokestatic index, 3)) (hM : jk_Cx (jk_l Γ) y wds rm2 As E ws (fun u => none) wf post px) (hT : GoodIn Ts (va_wsS own index y wds)) (hw : wds = Cond.code y bytes maxL ret :: wds') (hd : y.cls ≠ "java/lang/invoke/MethodHandle" ∧ y.cls ≠ "java/lang/invoke/VarHandle" ∧ (parseMethodDescriptor y.desc).map (fun d => d.parameters.length) = some As.length) (hR : rm2.frames + 1 ≤ rm.frames ∧ 8 + (maxL + 11) + rm2.locals ≤ rm.locals) (hcat : (rest.map fun v => v.category).sum ≤ 8) (hn : n + rm2.cells = n' ∧ k + rm2.slots = k') (hf : n' ≤ rm.cells ∧ k' ≤ rm.slots) (hst : st = As.reverse ++ rest) (kx : ∀ Ex : String, px Ex → jk_JX Γ E ws n' k' pc lv rest Ex) (kk : ∀ u : S, post u → jk_J Γ E (wf u) n' k' (pc + 3) lv (rest)) : jk_J Γ E ws n k pc lv st := by
  subst hst
  obtain ⟨rfl, rfl⟩ := hn
  intro H locs ls hP hD hS hl
  exact jk_runx X (vx_runS (As := As) (rest := rest) ⟨X.1, X.2.1, X.2.2.1, X.2.2.2.2.1, X.2.2.2.1⟩ (hM H.size) (va_cwS As.length X.2.2.2.1 hT hw rfl rfl hd (by rw [X.2.2.2.2.2.2.2.2.1]; exact hR)) ⟨jk_blind, jk_pre X hP hD hS⟩ rfl rfl (by rw [← X.2.2.1]; exact hl.1) rfl (lv_room hcat) hdg (by rw [X.2.2.2.2.2.2.2.2.1]; exact hf)) hD hS hl kx kk
theorem jk_cVr (X : jk_C Γ E own cc nL Ts rm) {S : Type} {r : S → Nat} {wf : S → va_W} {post : S → Prop} {index maxL : Nat} {y : MethodName} {bytes : ByteArray} {ret : Option FieldType} {wds wds' : List Cond} {rm2 : Room} {n' k' : Nat} (As rest : List Value) {C : String} {b : Nat} (hdg : decode cc pc = .ok (.invokevirtual index, 3)) (hM : jk_Ct (jk_l Γ) y wds rm2 (.ref b :: As) E ws (fun u => some (.ref (r u))) wf post) (hT : GoodIn Ts (wsV own index C y wds)) (hw : wds = Cond.code y bytes maxL ret :: wds') (hd : y.cls = C ∧ y.cls ≠ "java/lang/invoke/MethodHandle" ∧ y.cls ≠ "java/lang/invoke/VarHandle" ∧ (parseMethodDescriptor y.desc).map (fun d => d.parameters.length) = some As.length) (hR : rm2.frames + 1 ≤ rm.frames ∧ 8 + (maxL + 11) + rm2.locals ≤ rm.locals) (q0 : Nat) {ci N : Nat} {T : u_T} {fs : List Value} (he : ws[q0]? = some (b, .inr (ci, fs))) (hc : vwCl[ci]? = some (C, T, N)) (hcat : (rest.map fun v => v.category).sum ≤ 8) (hn : n + rm2.cells = n' ∧ k + rm2.slots = k') (hf : n' ≤ rm.cells ∧ k' ≤ rm.slots) (hst : st = As.reverse ++ .ref b :: rest) (kk : ∀ u : S, post u → jk_J Γ E (wf u) n' k' (pc + 3) lv (.ref (r u) :: rest)) : jk_J Γ E ws n k pc lv st := by
  subst hst
  obtain ⟨rfl, rfl⟩ := hn
  intro H locs ls hP hD hS hl
  exact jk_run X (va_runV (As := As) (rest := rest) ⟨X.1, X.2.1, X.2.2.1, X.2.2.2.2.1, X.2.2.2.1⟩ (hM H.size) (cwV As.length X.2.2.2.1 hT hw rfl rfl hd (by rw [X.2.2.2.2.2.2.2.2.1]; exact hR)) ⟨jk_blind, jk_recv X hP hc he, jk_pre X hP hD hS⟩ rfl rfl (by rw [← X.2.2.1]; exact hl.1) rfl (lv_room hcat) hdg (by rw [X.2.2.2.2.2.2.2.2.1]; exact hf)) hD hS hl kk
theorem jk_cSr (X : jk_C Γ E own cc nL Ts rm) {S : Type} {r : S → Nat} {wf : S → va_W} {post : S → Prop} {index maxL : Nat} {y : MethodName} {bytes : ByteArray} {ret : Option FieldType} {wds wds' : List Cond} {rm2 : Room} {n' k' : Nat} (As rest : List Value) (hdg : decode cc pc = .ok (.invokestatic index, 3)) (hM : jk_Ct (jk_l Γ) y wds rm2 As E ws (fun u => some (.ref (r u))) wf post) (hT : GoodIn Ts (va_wsS own index y wds)) (hw : wds = Cond.code y bytes maxL ret :: wds') (hd : y.cls ≠ "java/lang/invoke/MethodHandle" ∧ y.cls ≠ "java/lang/invoke/VarHandle" ∧ (parseMethodDescriptor y.desc).map (fun d => d.parameters.length) = some As.length) (hR : rm2.frames + 1 ≤ rm.frames ∧ 8 + (maxL + 11) + rm2.locals ≤ rm.locals) (hcat : (rest.map fun v => v.category).sum ≤ 8) (hn : n + rm2.cells = n' ∧ k + rm2.slots = k') (hf : n' ≤ rm.cells ∧ k' ≤ rm.slots) (hst : st = As.reverse ++ rest) (kk : ∀ u : S, post u → jk_J Γ E (wf u) n' k' (pc + 3) lv (.ref (r u) :: rest)) : jk_J Γ E ws n k pc lv st := by
  subst hst
  obtain ⟨rfl, rfl⟩ := hn
  intro H locs ls hP hD hS hl
  exact jk_run X (va_runS (As := As) (rest := rest) ⟨X.1, X.2.1, X.2.2.1, X.2.2.2.2.1, X.2.2.2.1⟩ (hM H.size) (va_cwS As.length X.2.2.2.1 hT hw rfl rfl hd (by rw [X.2.2.2.2.2.2.2.2.1]; exact hR)) ⟨jk_blind, jk_pre X hP hD hS⟩ rfl rfl (by rw [← X.2.2.1]; exact hl.1) rfl (lv_room hcat) hdg (by rw [X.2.2.2.2.2.2.2.2.1]; exact hf)) hD hS hl kk
theorem jk_cVrx (X : jk_C Γ E own cc nL Ts rm) {S : Type} {r : S → Nat} {wf : S → va_W} {post : S → Prop} {index maxL : Nat} {y : MethodName} {bytes : ByteArray} {ret : Option FieldType} {wds wds' : List Cond} {rm2 : Room} {n' k' : Nat} (As rest : List Value) {px : String → Prop} {C : String} {b : Nat} (hdg : decode cc pc = .ok (.invokevirtual index, 3)) (hM : jk_Cx (jk_l Γ) y wds rm2 (.ref b :: As) E ws (fun u => some (.ref (r u))) wf post px) (hT : GoodIn Ts (wsV own index C y wds)) (hw : wds = Cond.code y bytes maxL ret :: wds') (hd : y.cls = C ∧ y.cls ≠ "java/lang/invoke/MethodHandle" ∧ y.cls ≠ "java/lang/invoke/VarHandle" ∧ (parseMethodDescriptor y.desc).map (fun d => d.parameters.length) = some As.length) (hR : rm2.frames + 1 ≤ rm.frames ∧ 8 + (maxL + 11) + rm2.locals ≤ rm.locals) (q0 : Nat) {ci N : Nat} {T : u_T} {fs : List Value} (he : ws[q0]? = some (b, .inr (ci, fs))) (hc : vwCl[ci]? = some (C, T, N)) (hcat : (rest.map fun v => v.category).sum ≤ 8) (hn : n + rm2.cells = n' ∧ k + rm2.slots = k') (hf : n' ≤ rm.cells ∧ k' ≤ rm.slots) (hst : st = As.reverse ++ .ref b :: rest) (kx : ∀ Ex : String, px Ex → jk_JX Γ E ws n' k' pc lv rest Ex) (kk : ∀ u : S, post u → jk_J Γ E (wf u) n' k' (pc + 3) lv (.ref (r u) :: rest)) : jk_J Γ E ws n k pc lv st := by
  subst hst
  obtain ⟨rfl, rfl⟩ := hn
  intro H locs ls hP hD hS hl
  exact jk_runx X (vx_runV (As := As) (rest := rest) ⟨X.1, X.2.1, X.2.2.1, X.2.2.2.2.1, X.2.2.2.1⟩ (hM H.size) (cwV As.length X.2.2.2.1 hT hw rfl rfl hd (by rw [X.2.2.2.2.2.2.2.2.1]; exact hR)) ⟨jk_blind, jk_recv X hP hc he, jk_pre X hP hD hS⟩ rfl rfl (by rw [← X.2.2.1]; exact hl.1) rfl (lv_room hcat) hdg (by rw [X.2.2.2.2.2.2.2.2.1]; exact hf)) hD hS hl kx kk
theorem jk_cSrx (X : jk_C Γ E own cc nL Ts rm) {S : Type} {r : S → Nat} {wf : S → va_W} {post : S → Prop} {index maxL : Nat} {y : MethodName} {bytes : ByteArray} {ret : Option FieldType} {wds wds' : List Cond} {rm2 : Room} {n' k' : Nat} (As rest : List Value) {px : String → Prop} (hdg : decode cc pc = .ok (.invokestatic index, 3)) (hM : jk_Cx (jk_l Γ) y wds rm2 As E ws (fun u => some (.ref (r u))) wf post px) (hT : GoodIn Ts (va_wsS own index y wds)) (hw : wds = Cond.code y bytes maxL ret :: wds') (hd : y.cls ≠ "java/lang/invoke/MethodHandle" ∧ y.cls ≠ "java/lang/invoke/VarHandle" ∧ (parseMethodDescriptor y.desc).map (fun d => d.parameters.length) = some As.length) (hR : rm2.frames + 1 ≤ rm.frames ∧ 8 + (maxL + 11) + rm2.locals ≤ rm.locals) (hcat : (rest.map fun v => v.category).sum ≤ 8) (hn : n + rm2.cells = n' ∧ k + rm2.slots = k') (hf : n' ≤ rm.cells ∧ k' ≤ rm.slots) (hst : st = As.reverse ++ rest) (kx : ∀ Ex : String, px Ex → jk_JX Γ E ws n' k' pc lv rest Ex) (kk : ∀ u : S, post u → jk_J Γ E (wf u) n' k' (pc + 3) lv (.ref (r u) :: rest)) : jk_J Γ E ws n k pc lv st := by
  subst hst
  obtain ⟨rfl, rfl⟩ := hn
  intro H locs ls hP hD hS hl
  exact jk_runx X (vx_runS (As := As) (rest := rest) ⟨X.1, X.2.1, X.2.2.1, X.2.2.2.2.1, X.2.2.2.1⟩ (hM H.size) (va_cwS As.length X.2.2.2.1 hT hw rfl rfl hd (by rw [X.2.2.2.2.2.2.2.2.1]; exact hR)) ⟨jk_blind, jk_pre X hP hD hS⟩ rfl rfl (by rw [← X.2.2.1]; exact hl.1) rfl (lv_room hcat) hdg (by rw [X.2.2.2.2.2.2.2.2.1]; exact hf)) hD hS hl kx kk
theorem jk_cI (X : jk_C Γ E own cc nL Ts rm) {S : Type} {wf : S → va_W} {post : S → Prop} {index maxL : Nat} {y : MethodName} {bytes : ByteArray} {wds wds' : List Cond} {rm2 : Room} {n' k' : Nat} (As rest : List Value) {b : Nat} (hdg : decode cc pc = .ok (.invokespecial index, 3)) (hM : jk_Ct (jk_l Γ) y wds rm2 (.ref b :: As) E ws (fun _ => none) wf post) (hG : GoodIn Ts wds) (hw : wds = Cond.code y bytes maxL none :: wds') (hi : Cond.initialized y.cls ∈ Ts ∧ Cond.methodLink own index y ∈ Ts ∧ Cond.instanceMethod y ∈ Ts) (hy : y.name = "<init>") (hd : y.cls ≠ "java/lang/invoke/MethodHandle" ∧ y.cls ≠ "java/lang/invoke/VarHandle" ∧ (parseMethodDescriptor y.desc).map (fun d => d.parameters.length) = some As.length) (hR : rm2.frames + 1 ≤ rm.frames ∧ 8 + (maxL + 11) + rm2.locals ≤ rm.locals) (hcat : (rest.map fun v => v.category).sum ≤ 8) (hn : n + rm2.cells = n' ∧ k + rm2.slots = k') (hf : n' ≤ rm.cells ∧ k' ≤ rm.slots) (hst : st = As.reverse ++ .ref b :: rest) (kk : ∀ u : S, post u → jk_J Γ E (wf u) n' k' (pc + 3) lv rest) : jk_J Γ E ws n k pc lv st := by
  subst hst
  obtain ⟨rfl, rfl⟩ := hn
  intro H locs ls hP hD hS hl
  exact jk_run X (va_runI (As := As) (rest := rest) ⟨X.1, X.2.1, X.2.2.1, X.2.2.2.2.1, X.2.2.2.1⟩ (hM H.size) (cwI As.length X.2.2.2.1 hG hw rfl rfl (X.2.2.2.1 _ hi.1) (X.2.2.2.1 _ hi.2.1) (X.2.2.2.1 _ hi.2.2) hy hd (by rw [X.2.2.2.2.2.2.2.2.1]; exact hR)) ⟨jk_blind, jk_pre X hP hD hS⟩ rfl rfl (by rw [← X.2.2.1]; exact hl.1) rfl (lv_room hcat) hdg (by rw [X.2.2.2.2.2.2.2.2.1]; exact hf)) hD hS hl kk
/-- how a method may end -/
def jk_Z {S : Type} (Γ : jk_G) (E : jk_T) (ret : Option FieldType) (rm : Room) (val : S → Option Value) (wf : S → va_W) (post : S → Prop) : Prop := ∃ Qc : Array Value → State → Outcome → State → Prop,
  (∀ H locs n k g, W (jk_p Γ) (jk_l Γ) (jk_e Γ) (jk_R Γ) (jk_s Γ) (jk_m Γ) (jk_a Γ) (jk_b Γ) (jk_M Γ) (jk_c Γ) H locs n k (MQ (jk_b Γ) Qc (jk_a Γ) (jk_s Γ) rm.cells rm.slots (jk_A Γ)) g → jk_W Γ H locs n k g) ∧ (jk_M Γ).sig.returnType = ret ∧
  ∀ (u : S) (t : State), post u → va_P E.1.1 vwCl (wf u) t.heap → va_D (jk_A Γ) (wf u) → va_F (jk_A Γ) (jk_s Γ) t → Qc (jk_a Γ) (jk_s Γ) (.returned (val u)) t
theorem jk_iret (X : jk_C Γ E own cc nL Ts rm) {S : Type} {val : S → Option Value} {wf : S → va_W} {post : S → Prop} {ty : FieldType} (hz : jk_Z Γ E (some ty) rm val wf post) {x : Int32} (hdg : decode cc pc = .ok (.ireturn, 1)) (u : S) (hv : val u = some (.int x)) (hp : post u) (hw : ws = wf u) (hn : narrow ty (.int x) = .int x) (hc : n ≤ rm.cells) (hs : k ≤ rm.slots) : jk_J Γ E ws n k pc lv [.int x] := by
  obtain ⟨Qc, h1, hr, h2⟩ := hz
  intro H locs ls hP hD hS hl
  subst hw
  refine h1 _ _ _ _ _ (W.widen hc hs ?_)
  exact W.zret X.1 X.2.1 hr hn (fun t ht hW => by rw [← hv]; exact h2 u t hp (by rw [ht]; exact hP) hD (hS.F ht)) hS.2.2 hdg X.2.2.2.2.2.1
theorem jk_lret (X : jk_C Γ E own cc nL Ts rm) {S : Type} {val : S → Option Value} {wf : S → va_W} {post : S → Prop} (hz : jk_Z Γ E (some .long) rm val wf post) {x : Int64} (hdg : decode cc pc = .ok (.lreturn, 1)) (u : S) (hv : val u = some (.long x)) (hp : post u) (hw : ws = wf u) (hc : n ≤ rm.cells) (hs : k ≤ rm.slots) : jk_J Γ E ws n k pc lv [.long x] := by
  obtain ⟨Qc, h1, hr, h2⟩ := hz
  intro H locs ls hP hD hS hl
  subst hw
  refine h1 _ _ _ _ _ (W.widen hc hs ?_)
  exact W.lret X.1 X.2.1 hr (fun t ht hW => by rw [← hv]; exact h2 u t hp (by rw [ht]; exact hP) hD (hS.F ht)) hS.2.2 hdg X.2.2.2.2.2.1
theorem jk_dret (X : jk_C Γ E own cc nL Ts rm) {S : Type} {val : S → Option Value} {wf : S → va_W} {post : S → Prop} (hz : jk_Z Γ E (some .double) rm val wf post) {x : UInt64} (hdg : decode cc pc = .ok (.dreturn, 1)) (u : S) (hv : val u = some (.double x)) (hp : post u) (hw : ws = wf u) (hc : n ≤ rm.cells) (hs : k ≤ rm.slots) : jk_J Γ E ws n k pc lv [.double x] := by
  obtain ⟨Qc, h1, hr, h2⟩ := hz
  intro H locs ls hP hD hS hl
  subst hw
  refine h1 _ _ _ _ _ (W.widen hc hs ?_)
  exact W.dret X.1 X.2.1 hr (fun t ht hW => by rw [← hv]; exact h2 u t hp (by rw [ht]; exact hP) hD (hS.F ht)) hS.2.2 hdg X.2.2.2.2.2.1
theorem jk_aret (X : jk_C Γ E own cc nL Ts rm) {S : Type} {val : S → Option Value} {wf : S → va_W} {post : S → Prop} {rt : FieldType} (hz : jk_Z Γ E (some rt) rm val wf post) {x : Nat} (hdg : decode cc pc = .ok (.areturn, 1)) (u : S) (hv : val u = some (.ref x)) (hp : post u) (hw : ws = wf u) (hrt : ∃ nm, rt = .object nm) (hc : n ≤ rm.cells) (hs : k ≤ rm.slots) : jk_J Γ E ws n k pc lv [.ref x] := by
  obtain ⟨Qc, h1, hr, h2⟩ := hz
  intro H locs ls hP hD hS hl
  subst hw
  refine h1 _ _ _ _ _ (W.widen hc hs ?_)
  exact W.aret X.1 X.2.1 hr (Or.inl hrt) (Or.inr ⟨_, rfl⟩) (fun t ht hW => by rw [← hv]; exact h2 u t hp (by rw [ht]; exact hP) hD (hS.F ht)) hS.2.2 hdg X.2.2.2.2.2.1
theorem jk_vret (X : jk_C Γ E own cc nL Ts rm) {S : Type} {val : S → Option Value} {wf : S → va_W} {post : S → Prop} (hz : jk_Z Γ E none rm val wf post) (hdg : decode cc pc = .ok (.return_, 1)) (u : S) (hv : val u = none) (hp : post u) (hw : ws = wf u) (hc : n ≤ rm.cells) (hs : k ≤ rm.slots) : jk_J Γ E ws n k pc lv [] := by
  obtain ⟨Qc, h1, hr, h2⟩ := hz
  intro H locs ls hP hD hS hl
  subst hw
  refine h1 _ _ _ _ _ (W.widen hc hs ?_)
  exact W.vret X.1 X.2.1 hr (fun t ht hW => by rw [← hv]; exact h2 u t hp (by rw [ht]; exact hP) hD (hS.F ht)) hS.2.2 hdg X.2.2.2.2.2.1
/-- .. by an exception -/
def jk_ZX (Γ : jk_G) (E : jk_T) (rm : Room) (ws0 : va_W) (px : String → Prop) : Prop := ∃ (Qc : Array Value → State → Outcome → State → Prop) (XC : String → State → State → Prop), jk_Q Γ = vx_MQ (jk_b Γ) Qc XC (jk_a Γ) (jk_s Γ) rm.cells rm.slots (jk_A Γ) ∧ (∀ x ∈ (jk_c Γ).exceptionTable.toList, False) ∧
  ∀ (Ex : String) (t : State), px Ex → va_P E.1.1 vwCl ws0 t.heap → va_D (jk_A Γ) ws0 → va_F (jk_A Γ) (jk_s Γ) t → XC Ex (jk_s Γ) t
theorem jk_out (X : jk_C Γ E own cc nL Ts rm) {px : String → Prop} (hz : jk_ZX Γ E rm ws px) {Ex : String} (hp : px Ex) (hc : n ≤ rm.cells) (hs : k ≤ rm.slots) : jk_JX Γ E ws n k pc lv st Ex := by
  obtain ⟨Qc, XC, h1, h2, h3⟩ := hz
  intro H locs ls ce q hP hD hS hl hce hv hcl
  unfold jk_V
  rw [h1]
  exact vx_out (fun x hx => (h2 x hx).elim) X.2.2.2.2.2.1 hce hv hcl (fun t ht hW => h3 Ex t hp (by rw [ht]; exact hP) hD (hS.F ht)) hS.2.2 hc hs
theorem jk_throw (X : jk_C Γ E "HillBeacons" cc nL Ts rm) {px : String → Prop} (hz : jk_ZX Γ E rm ws px) {cls text : String} {ik is ic p3 p4 p6 p9 : Nat} (hp : px cls) (hcls : cls ∈ jk_exs) (htx : (is, text) ∈ jk_strs)
    (d0 : decode cc pc = .ok (.new ik, 3)) (d3 : decode cc p3 = .ok (.dup, 1)) (d4 : decode cc p4 = .ok (.ldc is, 2)) (d6 : decode cc p6 = .ok (.invokespecial ic, 3)) (d9 : decode cc p9 = .ok (.athrow, 1)) (hpc : p3 = pc + 3 ∧ p4 = pc + 4 ∧ p6 = pc + 6 ∧ p9 = pc + 9)
    (hfit : Bundle.fit cls = true) (hk : Cond.classLink "HillBeacons" ik cls ∈ Ts) (hini : Cond.initialized cls ∈ Ts)
    (h1 : ∀ w ∈ (vx_atS "HillBeacons" ic cls ["java/lang/RuntimeException", "java/lang/Exception"]).filter goodWord, w ∈ Ts)
    (h2 : ∀ w ∈ (vx_atS "HillBeacons" ic cls ["java/lang/RuntimeException", "java/lang/Exception"]).filter (fun w => !goodWord w), w ∈ [Cond.castable cls cls, Cond.declares ⟨"java/lang/RuntimeException", "<init>", "(Ljava/lang/String;)V"⟩, Cond.declares ⟨"java/lang/Exception", "<init>", "(Ljava/lang/String;)V"⟩, Cond.declares ⟨"java/lang/Throwable", "<init>", "(Ljava/lang/String;)V"⟩])
    (hgood : ∀ w ∈ Cond.classLink "HillBeacons" ik cls :: Cond.initialized cls :: vx_atS "HillBeacons" ic cls ["java/lang/RuntimeException", "java/lang/Exception"], vx_ot w = true)
    (hR : 6 ≤ rm.frames ∧ (st.map fun v => v.category).sum + 82 ≤ rm.locals) (hc : n + 1 ≤ rm.cells) (hs : k + 6 ≤ rm.slots) : jk_J Γ E ws n k pc lv st := by
  obtain ⟨Qc, XC, g1, g2, g3⟩ := hz
  obtain ⟨rfl, rfl, rfl, rfl⟩ := hpc
  obtain ⟨x1, x2, x3, x4, x5, -⟩ := X.2.2.2.2.2.2.2.2.2.1
  obtain ⟨sa, hsa⟩ := x3 _ htx
  have hts := X.2.2.2.1
  intro H locs ls hP hD hS hl
  unfold jk_W
  rw [g1]
  refine vx_throwS (names := ["java/lang/RuntimeException", "java/lang/Exception"]) X.1 X.2.1 X.2.2.2.2.2.2.2.2.2.2 X.2.2.2.2.1 hfit (by decide +kernel) (hts _ hk) (hts _ hini) hsa
    (vx_hat (fun w hw => hts w (h1 w hw)) h2 (vx_c (va_Nw.use rfl (x4 _ hcls)) (vx_c (va_Nw.use rfl (x5 "java/lang/RuntimeException" (by decide))) (vx_c (va_Nw.use rfl (x5 "java/lang/Exception" (by decide))) (vx_c (va_Nw.use rfl (x5 "java/lang/Throwable" (by decide))) vx_n)))))
    hgood x1 x2 hS hl.1 d0 d3 d4 d6 d9 (fun x hx => (g2 x hx).elim) (by rw [X.2.2.2.2.2.2.2.2.1]; exact hR.1) (by rw [X.2.2.2.2.2.2.2.2.1]; exact hR.2) (by rw [X.2.2.2.2.2.2.2.2.1]; exact hc) (by rw [X.2.2.2.2.2.2.2.2.1]; exact hs) X.2.2.2.2.2.1 ?_ hS.2.2 hc hs
  intro t hW hz1 hk1
  refine g3 cls t hp (hP.kept fun j q hj => hk1 q.1 ((hP j q hj).lt)) hD ⟨Nat.le_trans hS.1 hz1, fun q l1 l2 => ?_⟩
  rw [hk1 q (Nat.lt_of_lt_of_le l1 hS.1)]
  exact hS.2.1 q l1 l2
end JC
/-- a method that returns, out of its walk -/
theorem jk_of {S : Type} {l : Launch} {y : MethodName} {wds wds' : List Cond} {rm : Room} {av : List Value} {E : jk_T} {ws : va_W} {val : S → Option Value} {wf : S → va_W} {post : S → Prop} {cc : ByteArray} {maxL : Nat} {ret : Option FieldType} {lv : List (Nat × Value)} {own nm : String}
    (hl : l.stackTraces = false) (hy : plainName y.cls = true) (hw : wds = Cond.code y cc maxL ret :: wds') (hlen : (lg_sl av).length ≤ maxL) (hlv : lv_args 0 av = lv) (hown : y.cls = own) (hnm : y.name = nm)
    (body : ∀ Γ : jk_G, jk_l Γ = l → jk_C Γ E own cc maxL wds rm → (jk_M Γ).name = nm → jk_Z Γ E ret rm val wf post → jk_J Γ E ws 0 0 0 lv []) : jk_Ct l y wds rm av E ws val wf post := by
  subst hlv hown hnm
  intro sz
  refine Met.ofW (cc := cc) (maxL := maxL) (ret := ret) hy hw ?_
  intro p e s m args below meth c s₁ B hml hv
  obtain ⟨rfl, hsz, hP, hK, hD0, hX⟩ := hv
  subst hsz
  have hts := atoms_spec (ws := wds) B.pre
  have hown : s.vm.findClass y.cls = some m.cls := findClass_of_methodNamed B.named
  have hin := (name_of_methodNamed B.named B.method).1
  have hD := hD0.self (sz := s.heap.size)
  have hle := lv_entry av (n := maxL) hlen
  rw [lg_entry_eq]
  exact body (p, l, e, (headSpec wds rm).room, s, m, av.toArray, below, meth, c, MQ below (jk_Qc E ws s.heap.size val wf post) av.toArray s rm.cells rm.slots (va_A ws s.heap.size), va_A ws s.heap.size) rfl
    ⟨B.exec, B.bytes, hml, hts, hown, B.notSynchronized, hK, fun q h => Or.inr h, rfl, hX, hl⟩ hin
    ⟨jk_Qc E ws s.heap.size val wf post, fun _ _ _ _ _ h => h, B.returns, fun u t hp h1 h2 h3 => ⟨⟨u, rfl, hp, h1, h2⟩, h3⟩⟩ s.heap [] _ hP hD va_S.rf (by show lv_has _ c.maxLocals _; rw [hml]; exact hle)
/-- a method that returns or throws, out of its walk -/
theorem jk_ofx {S : Type} {l : Launch} {y : MethodName} {wds wds' : List Cond} {rm : Room} {av : List Value} {E : jk_T} {ws : va_W} {val : S → Option Value} {wf : S → va_W} {post : S → Prop} {px : String → Prop} {cc : ByteArray} {maxL : Nat} {ret : Option FieldType} {lv : List (Nat × Value)} {own nm : String}
    (hl : l.stackTraces = false) (hy : plainName y.cls = true) (hw : wds = Cond.code y cc maxL ret :: wds') (hlen : (lg_sl av).length ≤ maxL) (hlv : lv_args 0 av = lv) (hown : y.cls = own) (hnm : y.name = nm)
    (body : ∀ Γ : jk_G, jk_l Γ = l → jk_C Γ E own cc maxL wds rm → (jk_M Γ).name = nm → jk_Z Γ E ret rm val wf post → jk_ZX Γ E rm ws px → jk_J Γ E ws 0 0 0 lv []) : jk_Cx l y wds rm av E ws val wf post px := by
  subst hlv hown hnm
  intro sz
  refine vx_ofW (cc := cc) (maxL := maxL) (ret := ret) hy hw ?_
  intro p e s m args below meth c s₁ B hml hex hv
  obtain ⟨rfl, hsz, hP, hK, hD0, hX⟩ := hv
  subst hsz
  have hts := atoms_spec (ws := wds) B.pre
  have hown : s.vm.findClass y.cls = some m.cls := findClass_of_methodNamed B.named
  have hin := (name_of_methodNamed B.named B.method).1
  have hD := hD0.self (sz := s.heap.size)
  have hle := lv_entry av (n := maxL) hlen
  rw [lg_entry_eq]
  exact body (p, l, e, (headSpec wds rm).room, s, m, av.toArray, below, meth, c, vx_MQ below (jk_Qc E ws s.heap.size val wf post) (jk_XC E ws s.heap.size px) av.toArray s rm.cells rm.slots (va_A ws s.heap.size), va_A ws s.heap.size) rfl
    ⟨B.exec, B.bytes, hml, hts, hown, B.notSynchronized, hK, fun q h => Or.inr h, rfl, hX, hl⟩ hin
    ⟨jk_Qc E ws s.heap.size val wf post, fun _ _ _ _ _ h => vx_ret h, B.returns, fun u t hp h1 h2 h3 => ⟨⟨u, rfl, hp, h1, h2⟩, h3⟩⟩
    ⟨_, _, rfl, hex, fun Ex t hp h1 h2 h3 => ⟨⟨hp, h1, h2⟩, h3⟩⟩ s.heap [] _ hP hD va_S.rf (by show lv_has _ c.maxLocals _; rw [hml]; exact hle)
abbrev jk_fn (l : Launch) (y : MethodName) (wds : List Cond) (rm : Room) (av : List Value) (E : jk_T) (ws : va_W) (v : Option Value) (w' : va_W) : Prop := jk_Ct l y wds rm av E ws (fun _ : Unit => v) (fun _ => w') (fun _ => True)
theorem jk_loop {n : Nat} {P : Nat → Prop} (h : ∀ j, j ≤ n → (j < n → P (j + 1)) → P j) : ∀ j, j ≤ n → P j := by
  have key : ∀ d j, j + d = n → P j := by
    intro d
    induction d with
    | zero => intro j hj; exact h j (by omega) (fun hlt => absurd hlt (by omega))
    | succ d ih => intro j hj; exact h j (by omega) (fun _ => ih (j + 1) (by omega))
  exact fun j hj => key (n - j) j (by omega)
theorem jk_lv {Γ : jk_G} {E : jk_T} {ws : va_W} {n k pc : Nat} {lv lv' : List (Nat × Value)} {st : List Value} (h : lv = lv') (kk : jk_J Γ E ws n k pc lv' st) : jk_J Γ E ws n k pc lv st := h ▸ kk
section JM
variable {Γ : jk_G} {E : jk_T} {own : String} {cc : ByteArray} {nL : Nat} {Ts : List Cond} {rm : Room} {ws : va_W} {n k pc : Nat} {lv lv' : List (Nat × Value)} {st rest : List Value}
theorem jk_mmin (X : jk_C Γ E own cc nL Ts rm) {index : Nat} {x y : Int32} (hdg : decode cc pc = .ok (.invokestatic index, 3)) (h1 : Cond.methodLink own index Lib.Math.min.name ∈ Ts) (h2 : Cond.static Lib.Math.min.name ∈ Ts) (h3 : Cond.initialized "java/lang/Math" ∈ Ts) (h4 : Cond.code Lib.Math.min.name Lib.Math.min.code 2 (some .int) ∈ Ts) (hR : 1 ≤ rm.frames) (hL : (rest.map fun v => v.category).sum + 13 ≤ rm.locals) (hf : n ≤ rm.cells ∧ k ≤ rm.slots) (kk : jk_J Γ E ws n k (pc + 3) lv (.int (if y < x then y else x) :: rest)) : jk_J Γ E ws n k pc lv (.int y :: .int x :: rest) := fun H locs ls hP hD hS hl => va_mmin X.1 X.2.1 (hl.1 ▸ rfl) X.2.2.2.2.1 (X.2.2.2.1 _ h1) (X.2.2.2.1 _ h2) (X.2.2.2.1 _ h3) (X.2.2.2.1 _ h4) (by rw [X.2.2.2.2.2.2.2.2.1]; exact hR) (by rw [X.2.2.2.2.2.2.2.2.1]; exact hL) (by rw [X.2.2.2.2.2.2.2.2.1]; exact hf.1) (by rw [X.2.2.2.2.2.2.2.2.1]; exact hf.2) hdg (kk H locs ls hP hD hS hl)
theorem jk_mmax (X : jk_C Γ E own cc nL Ts rm) {index : Nat} {x y : Int32} (hdg : decode cc pc = .ok (.invokestatic index, 3)) (h1 : Cond.methodLink own index Lib.Math.max.name ∈ Ts) (h2 : Cond.static Lib.Math.max.name ∈ Ts) (h3 : Cond.initialized "java/lang/Math" ∈ Ts) (h4 : Cond.code Lib.Math.max.name Lib.Math.max.code 2 (some .int) ∈ Ts) (hR : 1 ≤ rm.frames) (hL : (rest.map fun v => v.category).sum + 13 ≤ rm.locals) (hf : n ≤ rm.cells ∧ k ≤ rm.slots) (kk : jk_J Γ E ws n k (pc + 3) lv (.int (if x < y then y else x) :: rest)) : jk_J Γ E ws n k pc lv (.int y :: .int x :: rest) := fun H locs ls hP hD hS hl => va_mmax X.1 X.2.1 (hl.1 ▸ rfl) X.2.2.2.2.1 (X.2.2.2.1 _ h1) (X.2.2.2.1 _ h2) (X.2.2.2.1 _ h3) (X.2.2.2.1 _ h4) (by rw [X.2.2.2.2.2.2.2.2.1]; exact hR) (by rw [X.2.2.2.2.2.2.2.2.1]; exact hL) (by rw [X.2.2.2.2.2.2.2.2.1]; exact hf.1) (by rw [X.2.2.2.2.2.2.2.2.1]; exact hf.2) hdg (kk H locs ls hP hD hS hl)
theorem jk_objInit (X : jk_C Γ E own cc nL Ts rm) {ix a : Nat} (hdg : decode cc pc = .ok (.invokespecial ix, 3)) (h1 : Cond.methodLink own ix objectInit ∈ Ts) (h2 : Cond.instanceMethod objectInit ∈ Ts) (h3 : Cond.code objectInit ⟨#[0xb1]⟩ 1 none ∈ Ts) (hR : 1 ≤ rm.frames) (hL : 12 ≤ rm.locals) (kk : jk_J Γ E ws n k (pc + 3) lv []) : jk_J Γ E ws n k pc lv [.ref a] := fun H locs ls hP hD hS hl => W.objInit X.1 X.2.1 X.2.2.2.2.1 (X.2.2.2.1 _ h1) (X.2.2.2.1 _ h2) (X.2.2.2.1 _ h3) rfl (by exact hl.1) rfl hdg (by rw [X.2.2.2.2.2.2.2.2.1]; exact hR) (by rw [X.2.2.2.2.2.2.2.2.1]; exact hL) (kk H locs ls hP hD hS hl)
end JM
