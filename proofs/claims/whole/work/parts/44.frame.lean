/-! methods that catch -/
theorem jk_ofH {S : Type} {l : Launch} {y : MethodName} {wds wds' : List Cond} {rm : Room} {av : List Value} {E : jk_T} {ws : va_W} {val : S → Option Value} {wf : S → va_W} {post : S → Prop} {px : String → Prop} {cc : ByteArray} {maxL : Nat} {ret : Option FieldType} {hh : List (Nat × Nat × Nat × Nat)} {lv : List (Nat × Value)} {own nm : String}
    (hl : l.stackTraces = false) (hy : plainName y.cls = true) (hw : wds = Cond.codeWith y cc maxL ret hh :: wds') (hlen : (lg_sl av).length ≤ maxL) (hlv : lv_args 0 av = lv) (hown : y.cls = own) (hnm : y.name = nm)
    (body : ∀ Γ : jk_G, jk_l Γ = l → jk_C Γ E own cc maxL wds rm → (jk_c Γ).exceptionTable.toList = tableOf hh → jk_Z Γ E ret rm val wf post → jk_J Γ E ws 0 0 0 lv []) : jk_Cx l y wds rm av E ws val wf post px := by
  subst hlv hown hnm
  intro sz
  refine vx_ofWH (cc := cc) (maxL := maxL) (ret := ret) (hh := hh) hy hw ?_
  intro p e s m args below meth c s₁ B hml hv
  obtain ⟨rfl, hsz, hP, hK, hD0, hX⟩ := hv
  subst hsz
  have hts := atoms_spec (ws := wds) B.pre
  have hown : s.vm.findClass y.cls = some m.cls := findClass_of_methodNamed B.named
  have hD := hD0.self (sz := s.heap.size)
  have hle := lv_entry av (n := maxL) hlen
  have htb := vx_table (x := y) B (hts _ (by rw [hw]; exact List.mem_cons_self))
  rw [lg_entry_eq]
  exact body (p, l, e, (headSpec wds rm).room, s, m, av.toArray, below, meth, c, vx_MQ below (jk_Qc E ws s.heap.size val wf post) (jk_XC E ws s.heap.size px) av.toArray s rm.cells rm.slots (va_A ws s.heap.size), va_A ws s.heap.size) rfl
    ⟨B.exec, B.bytes, hml, hts, hown, B.notSynchronized, hK, fun q h => Or.inr h, rfl, hX, hl⟩ htb
    ⟨jk_Qc E ws s.heap.size val wf post, fun _ _ _ _ _ h => vx_ret h, B.returns, fun u t hp h1 h2 h3 => ⟨⟨u, rfl, hp, h1, h2⟩, h3⟩⟩ s.heap [] _ hP hD va_S.rf (by show lv_has _ c.maxLocals _; rw [hml]; exact hle)
section JH
variable {Γ : jk_G} {E : jk_T} {own : String} {cc : ByteArray} {nL : Nat} {Ts : List Cond} {rm : Room} {ws : va_W} {n k pc : Nat} {lv : List (Nat × Value)} {st rest : List Value}
theorem jk_catch1 (X : jk_C Γ E own cc nL Ts rm) {Ex : String} {x : ExceptionTableEntry} {suf : List ExceptionTableEntry} {hp : Nat} (ht : (jk_c Γ).exceptionTable.toList = x :: suf) (hx : covers x pc = true) (h0 : x.catchType ≠ 0) (hlink : Cond.classLink own x.catchType Ex ∈ Ts) (hE : Ex ∈ jk_exs) (hpc : x.handlerPc = hp) (kk : ∀ q : Nat, jk_J Γ E ws n k hp lv [.ref q]) : jk_JX Γ E ws n k pc lv st Ex := by
  subst hpc
  intro H locs ls ce q hP hD hS hl hce hv hcl
  exact vx_catch X.2.2.2.2.1 [] x suf ht (fun z hz => nomatch hz) hx h0 (X.2.2.2.1 _ hlink) (va_Nw.use rfl (X.2.2.2.2.2.2.2.2.2.1.2.2.2.1 Ex hE)) hce hv hcl (kk q H locs ls hP hD hS hl)
theorem jk_catch2 (X : jk_C Γ E own cc nL Ts rm) {Ex F : String} {z x : ExceptionTableEntry} {suf : List ExceptionTableEntry} {hp : Nat} (ht : (jk_c Γ).exceptionTable.toList = z :: x :: suf) (hz0 : z.catchType ≠ 0) (hzl : Cond.classLink own z.catchType F ∈ Ts) (hF : F ∈ jk_exs) (hne : Ex ≠ F) (hx : covers x pc = true) (h0 : x.catchType ≠ 0) (hlink : Cond.classLink own x.catchType Ex ∈ Ts) (hE : Ex ∈ jk_exs) (hpc : x.handlerPc = hp) (kk : ∀ q : Nat, jk_J Γ E ws n k hp lv [.ref q]) : jk_JX Γ E ws n k pc lv st Ex := by
  subst hpc
  intro H locs ls ce q hP hD hS hl hce hv hcl
  exact vx_catch X.2.2.2.2.1 [z] x suf ht (fun z' hz' => by
    rw [List.mem_singleton.mp hz']
    exact Or.inr ⟨hz0, F, X.2.2.2.1 _ hzl, X.2.2.2.2.2.2.2.2.2.1.2.2.2.2.2.1 Ex hE F hF hne⟩) hx h0 (X.2.2.2.1 _ hlink) (va_Nw.use rfl (X.2.2.2.2.2.2.2.2.2.1.2.2.2.1 Ex hE)) hce hv hcl (kk q H locs ls hP hD hS hl)
theorem jk_cSiH (X : jk_C Γ E own cc nL Ts rm) {S : Type} {r : S → Int32} {wf : S → va_W} {post : S → Prop} {index maxL : Nat} {y : MethodName} {bytes : ByteArray} {ret : Option FieldType} {hh : List (Nat × Nat × Nat × Nat)} {wds wds' : List Cond} {rm2 : Room} {n' k' : Nat} (As rest : List Value) (hdg : decode cc pc = .ok (.invokestatic index, 3)) (hM : jk_Cx (jk_l Γ) y wds rm2 As E ws (fun u => some (.int (r u))) wf post (fun _ => False)) (hT : GoodIn Ts (va_wsS own index y wds)) (hw : wds = Cond.codeWith y bytes maxL ret hh :: wds') (hd : y.cls ≠ "java/lang/invoke/MethodHandle" ∧ y.cls ≠ "java/lang/invoke/VarHandle" ∧ (parseMethodDescriptor y.desc).map (fun d => d.parameters.length) = some As.length) (hR : rm2.frames + 1 ≤ rm.frames ∧ 8 + (maxL + 11) + rm2.locals ≤ rm.locals) (hcat : (rest.map fun v => v.category).sum ≤ 8) (hn : n + rm2.cells = n' ∧ k + rm2.slots = k') (hf : n' ≤ rm.cells ∧ k' ≤ rm.slots) (hst : st = As.reverse ++ rest) (kk : ∀ u : S, post u → jk_J Γ E (wf u) n' k' (pc + 3) lv (.int (r u) :: rest)) : jk_J Γ E ws n k pc lv st := by
  subst hst
  obtain ⟨rfl, rfl⟩ := hn
  intro H locs ls hP hD hS hl
  exact jk_runx X (vx_runSX (As := As) (rest := rest) ⟨X.1, X.2.1, X.2.2.1, X.2.2.2.2.1, X.2.2.2.1⟩ (hM H.size) (vx_cwSW As.length X.2.2.2.1 hT hw rfl rfl hd (by rw [X.2.2.2.2.2.2.2.2.1]; exact hR)) ⟨jk_blind, jk_pre X hP hD hS⟩ rfl rfl (by rw [← X.2.2.1]; exact hl.1) rfl (lv_room hcat) hdg (by rw [X.2.2.2.2.2.2.2.2.1]; exact hf)) hD hS hl (fun _ h => h.elim) kk
end JH
/-- the row that takes an answer -/
def hb_o (E : jk_T) (ao : Nat) (O : Nat → Int64) : Nat × va_E := (ao, .inl (E.2 3, 1, .inr (.inl O)))
theorem hb_out {E : jk_T} {q : Nat} {b1 b2 : Nat → Nat} {e : Nat × va_E} {Y : va_W} {C : Nat → Nat → Int32} {G M : Nat → Int32} {C2 : Nat → Nat → Int32} {G2 M2 : Nat → Int32} : (hb_v1 E q b1 b2 (e :: Y) C G M C2 G2 M2)[29]? = some e := rfl
theorem hb_outs {E : jk_T} {q : Nat} {b1 b2 : Nat → Nat} {e e' : Nat × va_E} {Y : va_W} {C : Nat → Nat → Int32} {G M : Nat → Int32} {C2 : Nat → Nat → Int32} {G2 M2 : Nat → Int32} : (hb_v1 E q b1 b2 (e :: Y) C G M C2 G2 M2).set 29 e' = hb_v1 E q b1 b2 (e' :: Y) C G M C2 G2 M2 := rfl
theorem hb_ob0 {E : jk_T} {q : Nat} {b1 b2 : Nat → Nat} {Y : va_W} {C : Nat → Nat → Int32} {G M : Nat → Int32} {C2 : Nat → Nat → Int32} {G2 M2 : Nat → Int32} : (hb_v1 E q b1 b2 Y C G M C2 G2 M2)[0]? = some (q, .inr (2, [.ref (b1 0), .ref (b2 0)])) := rfl
def hb_wk {S : Type} : S ⊕ Int32 → Int32
  | .inl _ => 0
  | .inr k => k
def hb_el {S A : Type} (f : S → A) (g : Int32 → A) : S ⊕ Int32 → A
  | .inl u => f u
  | .inr k => g k
abbrev hb_ep {S : Type} (f : S → Prop) (g : Int32 → Prop) : S ⊕ Int32 → Prop := fun u => match u with
  | .inl u => f u
  | .inr k => g k
