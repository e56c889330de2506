/-! the law's rows: its script, its end -/
def jk_LX (Γ : jk_G) (b L : Nat) (xs : Nat → Int32) : Prop := va_X b L xs (jk_s Γ) (jk_s Γ).heap ∧ b < (jk_s Γ).heap.size ∧ ¬ jk_A Γ b
def lw_Zl (Γ : jk_G) : Prop := (∀ q, jk_A Γ q → (jk_s Γ).heap.size ≤ q) ∧ ∀ (H : Heap) (ls : Array Slot) (pc : Nat), decode cL_law pc = .ok (.ireturn, 1) → jk_W Γ H [] 601024 7293034 (F0 (jk_m Γ) pc ls [.int 1])
section JL
variable {Γ : jk_G} {E : jk_T} {own : String} {cc : ByteArray} {nL : Nat} {Ts : List Cond} {rm : Room} {ws : va_W} {n k pc : Nat} {lv : List (Nat × Value)} {st : List Value} {b L : Nat} {xs : Nat → Int32}
theorem jk_xld (K : jk_C Γ E own cc nL Ts rm) (XL : jk_LX Γ b L xs) {i v : Int32} (hdg : decode cc pc = .ok (.iaload, 1)) (hin : vp_in i L) (hv : xs i.toNatClampNeg = v) (kk : jk_J Γ E ws n k (pc + 1) lv (.int v :: st)) : jk_J Γ E ws n k pc lv (.int i :: .ref b :: st) := fun H locs ls hP hD hS hl => va_sld K.1 K.2.1 XL.1 XL.2.1 XL.2.2 hS hin hdg (by rw [hv]; exact kk H locs ls hP hD hS hl)
theorem jk_xlen (K : jk_C Γ E own cc nL Ts rm) (XL : jk_LX Γ b L xs) (hdg : decode cc pc = .ok (.arraylength, 1)) (kk : jk_J Γ E ws n k (pc + 1) lv (.int (nI L) :: st)) : jk_J Γ E ws n k pc lv (.ref b :: st) := fun H locs ls hP hD hS hl => va_slen K.1 K.2.1 XL.1 XL.2.1 XL.2.2 hS hdg (kk H locs ls hP hD hS hl)
theorem lw_done (hz : lw_Zl Γ) (hdg : decode cL_law pc = .ok (.ireturn, 1)) (hn : n ≤ 601024) (hk : k ≤ 7293034) : jk_J Γ E ws n k pc lv [.int 1] := fun H locs ls hP hD hS hl => W.widen hn hk (va_forget (fun q hq => hz.1 _ (hS.2.2 q hq)) (hz.2 H ls pc hdg))
end JL
theorem lw_i {j L c : Nat} (h : 4 * j + 3 < L) (hL : L ≤ 2048) (hc : c ≤ 3) : vp_in (nI (4 * j) + nI c) L ∧ (nI (4 * j) + nI c).toNatClampNeg = 4 * j + c := by
  rw [nI_add]
  exact ⟨vp_in_nI (by omega) (by omega), nI_clamp (by omega)⟩
theorem lw_out {E : jk_T} {q : Nat} {b1 b2 : Nat → Nat} {ao : Nat} {m : Nat → Nat} {O : Nat → Int64} {C : Nat → Nat → Int32} {G M : Nat → Int32} {C2 : Nat → Nat → Int32} {G2 M2 : Nat → Int32} {th : Int32} {n : Nat} {S : Nat → Int32} {N a : Nat → Nat → Int32} : (lw_w E q b1 b2 ao m O C G M C2 G2 M2 th n S N a)[29]? = some (hb_o E ao O) := by
  rw [← lw_eq]
  exact hb_out
theorem lw_x0 {E : jk_T} {q : Nat} {b1 b2 : Nat → Nat} {ao : Nat} {m : Nat → Nat} {O : Nat → Int64} {C : Nat → Nat → Int32} {G M : Nat → Int32} {C2 : Nat → Nat → Int32} {G2 M2 : Nat → Int32} {th : Int32} {n : Nat} {S : Nat → Int32} {N a : Nat → Nat → Int32} : (lw_w E q b1 b2 ao m O C G M C2 G2 M2 th n S N a)[0]? = some (q, .inr (2, [.ref (b1 0), .ref (b2 0)])) := by
  rw [← lw_eq]
  exact hb_ob0
