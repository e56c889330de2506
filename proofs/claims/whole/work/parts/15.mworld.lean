/-! THE REFERENCE'S WORLD: its object, its arrays; the row 'now' as scalars S and hills N -/
def hm_now (S : Nat → Int32) (N : Nat → Nat → Int32) : Nat → Int32 := fun p => if p < 5 then S p else if p < 75 then N ((p - 5) / 7) ((p - 5) % 7) else 0
theorem hm_now_h (S : Nat → Int32) (N : Nat → Nat → Int32) {h w : Nat} (hh : h < 10) (hw : w < 7) : hm_now S N (5 + 7 * h + w) = N h w := by
  unfold hm_now
  rw [if_neg (by omega), if_pos (by omega)]
  rw [show 5 + 7 * h + w - 5 = w + 7 * h by omega, Nat.add_mul_div_left _ _ (by decide), Nat.add_mul_mod_self_left, Nat.div_eq_of_lt hw, Nat.mod_eq_of_lt hw, Nat.zero_add]
theorem hm_now_s (S : Nat → Int32) (N : Nat → Nat → Int32) {k : Nat} (hk : k < 5) : hm_now S N k = S k := by
  unfold hm_now
  rw [if_pos hk]
theorem hm_now_let (S : Nat → Int32) (N : Nat → Nat → Int32) {h w : Nat} (hh : h < 10) (hw : w < 7) (v : Int32) : upd (hm_now S N) (5 + 7 * h + w) v = hm_now S (va_up N h (hb_fu (N h) w v)) := by
  funext p
  by_cases hp : p = 5 + 7 * h + w
  · subst hp
    rw [pk_us, hm_now_h _ _ hh hw, va_up_self, hb_fu_eq, if_pos rfl]
  · rw [pk_un hp]
    unfold hm_now
    by_cases h1 : p < 5
    · rw [if_pos h1, if_pos h1]
    · rw [if_neg h1, if_neg h1]
      by_cases h2 : p < 75
      · rw [if_pos h2, if_pos h2]
        by_cases h3 : (p - 5) / 7 = h
        · rw [h3, va_up_self, hb_fu_eq, if_neg]
          intro h4
          have := Nat.div_add_mod (p - 5) 7
          rw [h3, h4] at this
          omega
        · rw [va_up_ne _ _ h3]
      · rw [if_neg h2, if_neg h2]
theorem hm_now_set (S : Nat → Int32) (N : Nat → Nat → Int32) {k : Nat} (hk : k < 5) (v : Int32) : upd (hm_now S N) k v = hm_now (hb_fu S k v) N := by
  funext p
  by_cases hp : p = k
  · subst hp
    rw [pk_us, hm_now_s _ _ hk, hb_fu_eq, if_pos rfl]
  · rw [pk_un hp]
    unfold hm_now
    by_cases h1 : p < 5
    · rw [if_pos h1, if_pos h1, hb_fu_eq, if_neg hp]
    · rw [if_neg h1, if_neg h1]
def hm_ob (m : Nat → Nat) (th hl : Int32) : List Value := [.int th, .int hl, .ref (m 2), .ref (m 3), .ref (m 4), .ref (m 5), .ref (m 6), .ref (m 7), .ref (m 8), .ref (m 9), .ref (m 10)]
def hm_MW (E : jk_T) (m : Nat → Nat) (th hl : Int32) (S : Nat → Int32) (N a : Nat → Nat → Int32) : va_W := [(m 0, .inr (3, hm_ob m th hl)), (m 2, .inl (E.2 0, 10, .inl (a 2))), (m 3, .inl (E.2 2, 10, .inl (fun k => hb_zb (a 3 k)))), (m 4, .inl (E.2 2, 10, .inl (fun k => hb_zb (a 4 k)))), (m 5, .inl (E.2 0, 100, .inl (a 5))), (m 6, .inl (E.2 0, 75, .inl (hm_now S N))), (m 7, .inl (E.2 0, 75, .inl (a 7))), (m 8, .inl (E.2 0, 10, .inl (a 8))), (m 9, .inl (E.2 0, 10, .inl (a 9))), (m 10, .inl (E.2 0, 10, .inl (a 10)))]
def hm_M (E : jk_T) (X Y : va_W) (m : Nat → Nat) (th hl : Int32) (S : Nat → Int32) (N a : Nat → Nat → Int32) : va_W := X ++ (hm_MW E m th hl S N a ++ Y)
section HMM
variable {E : jk_T} {X Y : va_W} {m : Nat → Nat} {th hl : Int32} {S : Nat → Int32} {N a : Nat → Nat → Int32}
theorem hm_x (j : Nat) {q : Nat × va_E} (h : (hm_MW E m th hl S N a)[j]? = some q) : (hm_M E X Y m th hl S N a)[X.length + j]? = some q := by
  unfold hm_M
  rw [List.getElem?_append_right (by omega), show X.length + j - X.length = j by omega, List.getElem?_append_left (List.getElem?_eq_some_iff.mp h).1]
  exact h
theorem hm_sx (j : Nat) {q : Nat × va_E} (hj : j < 10) {th' hl' : Int32} {S' : Nat → Int32} {N' a' : Nat → Nat → Int32} (h : (hm_MW E m th hl S N a).set j q = hm_MW E m th' hl' S' N' a') : (hm_M E X Y m th hl S N a).set (X.length + j) q = hm_M E X Y m th' hl' S' N' a' := by
  unfold hm_M
  rw [List.set_append_right _ _ (by omega), show X.length + j - X.length = j by omega, List.set_append_left _ _ (by show j < 10; omega), h]
theorem hm_s0 {l : List Value} {th' hl' : Int32} (h : l = hm_ob m th' hl') : (hm_M E X Y m th hl S N a).set (X.length + 0) (m 0, .inr (3, l)) = hm_M E X Y m th' hl' S N a := hm_sx 0 (by omega) (by rw [h]; rfl)
theorem hm_s6 {f : Nat → Int32} {S' : Nat → Int32} {N' : Nat → Nat → Int32} (h : f = hm_now S' N') : (hm_M E X Y m th hl S N a).set (X.length + 5) (m 6, .inl (E.2 0, 75, .inl f)) = hm_M E X Y m th hl S' N' a := hm_sx 5 (by omega) (by rw [h]; rfl)
end HMM
theorem hm_zst (f : Nat → Int32) (i : Nat) {v : Int32} (hv : v = 0 ∨ v = 1) : upd (fun k => hb_zb (f k)) i (vp_nar .boolean v) = fun k => hb_zb (upd f i v k) := by
  funext k
  by_cases h : k = i
  · subst h
    rw [pk_us, pk_us]
    rcases hv with rfl | rfl <;> rfl
  · rw [pk_un h, pk_un h]
section HMA
variable {E : jk_T} {X Y : va_W} {m : Nat → Nat} {th hl : Int32} {S : Nat → Int32} {N a : Nat → Nat → Int32} {f : Nat → Int32}
theorem hm_x0 : (hm_M E X Y m th hl S N a)[X.length + 0]? = some (m 0, .inr (3, hm_ob m th hl)) := hm_x 0 rfl
theorem hm_a2 : (hm_M E X Y m th hl S N a)[X.length + 1]? = some (m 2, .inl (E.2 0, 10, .inl (a 2))) := hm_x 1 rfl
theorem hm_a3 : (hm_M E X Y m th hl S N a)[X.length + 2]? = some (m 3, .inl (E.2 2, 10, .inl (fun k => hb_zb (a 3 k)))) := hm_x 2 rfl
theorem hm_a4 : (hm_M E X Y m th hl S N a)[X.length + 3]? = some (m 4, .inl (E.2 2, 10, .inl (fun k => hb_zb (a 4 k)))) := hm_x 3 rfl
theorem hm_a5 : (hm_M E X Y m th hl S N a)[X.length + 4]? = some (m 5, .inl (E.2 0, 100, .inl (a 5))) := hm_x 4 rfl
theorem hm_a6 : (hm_M E X Y m th hl S N a)[X.length + 5]? = some (m 6, .inl (E.2 0, 75, .inl (hm_now S N))) := hm_x 5 rfl
theorem hm_a7 : (hm_M E X Y m th hl S N a)[X.length + 6]? = some (m 7, .inl (E.2 0, 75, .inl (a 7))) := hm_x 6 rfl
theorem hm_a8 : (hm_M E X Y m th hl S N a)[X.length + 7]? = some (m 8, .inl (E.2 0, 10, .inl (a 8))) := hm_x 7 rfl
theorem hm_a9 : (hm_M E X Y m th hl S N a)[X.length + 8]? = some (m 9, .inl (E.2 0, 10, .inl (a 9))) := hm_x 8 rfl
theorem hm_a10 : (hm_M E X Y m th hl S N a)[X.length + 9]? = some (m 10, .inl (E.2 0, 10, .inl (a 10))) := hm_x 9 rfl
theorem hm_t2 : (hm_M E X Y m th hl S N a).set (X.length + 1) (m 2, .inl (E.2 0, 10, .inl f)) = hm_M E X Y m th hl S N (va_up a 2 f) := hm_sx 1 (by omega) rfl
theorem hm_t3 : (hm_M E X Y m th hl S N a).set (X.length + 2) (m 3, .inl (E.2 2, 10, .inl (fun k => hb_zb (f k)))) = hm_M E X Y m th hl S N (va_up a 3 f) := hm_sx 2 (by omega) rfl
theorem hm_t4 : (hm_M E X Y m th hl S N a).set (X.length + 3) (m 4, .inl (E.2 2, 10, .inl (fun k => hb_zb (f k)))) = hm_M E X Y m th hl S N (va_up a 4 f) := hm_sx 3 (by omega) rfl
theorem hm_t5 : (hm_M E X Y m th hl S N a).set (X.length + 4) (m 5, .inl (E.2 0, 100, .inl f)) = hm_M E X Y m th hl S N (va_up a 5 f) := hm_sx 4 (by omega) rfl
theorem hm_t7 : (hm_M E X Y m th hl S N a).set (X.length + 6) (m 7, .inl (E.2 0, 75, .inl f)) = hm_M E X Y m th hl S N (va_up a 7 f) := hm_sx 6 (by omega) rfl
theorem hm_t8 : (hm_M E X Y m th hl S N a).set (X.length + 7) (m 8, .inl (E.2 0, 10, .inl f)) = hm_M E X Y m th hl S N (va_up a 8 f) := hm_sx 7 (by omega) rfl
theorem hm_t9 : (hm_M E X Y m th hl S N a).set (X.length + 8) (m 9, .inl (E.2 0, 10, .inl f)) = hm_M E X Y m th hl S N (va_up a 9 f) := hm_sx 8 (by omega) rfl
theorem hm_t10 : (hm_M E X Y m th hl S N a).set (X.length + 9) (m 10, .inl (E.2 0, 10, .inl f)) = hm_M E X Y m th hl S N (va_up a 10 f) := hm_sx 9 (by omega) rfl
end HMA
theorem hm_cpy (S S' : Nat → Int32) (N N' : Nat → Nat → Int32) (f : Nat → Int32) (hk : ∀ k, k < 75 → f k = hm_now S' N' k) : va_cpy f (hm_now S N) 0 0 75 = hm_now S' N' := by
  funext k
  by_cases h : k < 75
  · rw [pk_cpy_in (by omega) (by omega), show 0 + (k - 0) = k by omega]
    exact hk k h
  · rw [pk_cpy_out (by omega)]
    unfold hm_now
    rw [if_neg (by omega), if_neg (by omega), if_neg (by omega), if_neg (by omega)]
section HMC
variable {Γ : jk_G} {E : jk_T} {own : String} {cc : ByteArray} {nL : Nat} {Ts : List Cond} {rm : Room} {ws w' : va_W} {n k pc : Nat} {lv lv' : List (Nat × Value)}
theorem jk_copyi (K : jk_C Γ E own cc nL Ts rm) {index a0 a : Nat} {f g : Nat → Int32} (hdg : decode cc pc = .ok (.invokestatic index, 3)) (h1 : Cond.methodLink own index arraycopyName ∈ Ts) (h2 : Cond.native arraycopyName ∈ Ts) (h3 : Cond.static arraycopyName ∈ Ts) (h4 : Cond.initialized "java/lang/System" ∈ Ts) (q0 q1 : Nat) (ha0 : ws[q0]? = some (a0, .inl (E.2 0, 75, .inl f))) (ha1 : ws[q1]? = some (a, .inl (E.2 0, 75, .inl g))) (hR : 1 ≤ rm.frames ∧ nativeFrameWords "java/lang/System" "arraycopy" 5 + 11 ≤ rm.locals) (hw : ws.set q1 (a, .inl (E.2 0, 75, .inl (va_cpy f g 0 0 75))) = w') (kk : jk_J Γ E w' n k (pc + 3) lv []) : jk_J Γ E ws n k pc lv [.int 75, .int 0, .ref a, .int 0, .ref a0] := by
  subst hw
  have e0 : (0 : Int32).toNatClampNeg = 0 := by decide
  have e75 : (75 : Int32).toNatClampNeg = 75 := by decide
  intro H locs ls hP hD hS hl
  refine va_copyi (sp := 0) (dp := 0) (n := 75) K.1 K.2.1 (hl.1 ▸ rfl) K.2.2.2.2.1 (K.2.2.2.1 _ h1) (K.2.2.2.1 _ h2) (K.2.2.2.1 _ h3) (K.2.2.2.1 _ h4) K.2.2.2.2.2.2.1 hP hD hS q0 q1 0 0 ha0 ha1 rfl rfl rfl (by decide) (by decide) (by decide) (by rw [e0, e75]; decide) (by rw [e0, e75]; decide) (fun i _ => rfl) (by rw [K.2.2.2.2.2.2.2.2.1]; exact hR.1) (by rw [K.2.2.2.2.2.2.2.2.1]; simpa using hR.2) hdg ?_
  intro H1 locs1 hP hD hS
  rw [e0, e75] at hP hD
  exact kk H1 locs1 ls hP hD hS hl
end HMC
