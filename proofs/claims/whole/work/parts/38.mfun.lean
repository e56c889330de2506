/-! the reference's checksum; arrays that come and go -/
def hm_dl (S : Nat → Int32) (N : Nat → Nat → Int32) (n : Nat) : Int64 := hb_mix (hb_mix (hb_mix (hb_mix (hb_mix (hb_mix (hb_mix 1883 (nI n).toInt64) (S 0).toInt64) (S 4).toInt64) (S 1).toInt64) (hm_bu N n).toInt64) (S 2).toInt64) (S 3).toInt64
def hm_z (p : Prop) [Decidable p] : Int32 := if p then 1 else 0
def hm_dh (N a : Nat → Nat → Int32) (j : Nat) (d : Int64) : Int64 := hb_mix (hb_mix (hb_mix (hb_mix (hb_mix (hb_mix (hb_mix (hb_mix (hb_mix (hb_mix (hb_mix d (N j 0).toInt64) (N j 6).toInt64) (a 2 j).toInt64) (if hb_zb (a 3 j) = 0 then (0 : Int32) else 1).toInt64) (if hb_zb (a 4 j) = 0 then (0 : Int32) else 1).toInt64) (if N j 1 = 0 then (1 : Int32) else 0).toInt64) (if N j 1 = 2 then (1 : Int32) else 0).toInt64) (N j 2).toInt64) (N j 3).toInt64) (if N j 1 = 0 then (-2 : Int32) else N j 4).toInt64) (N j 5).toInt64
def hm_dhs (N a : Nat → Nat → Int32) (d : Int64) : Nat → Int64 := fun j => hb_it (fun i d => hm_dh N a i d) j d
theorem hm_dhs_s (N a : Nat → Nat → Int32) (d : Int64) (j : Nat) : hm_dhs N a d (j + 1) = hm_dh N a j (hm_dhs N a d j) := rfl
def hm_dr (hz : Int32) (mi : Nat → Int32) (i : Nat) (d : Int64) : Nat → Int64 := fun j => hb_it (fun c d => hb_mix (hb_mix d (mi (i * 10 + c)).toInt64) (if hb_clr hz (mi (i * 10 + c)) = 0 then (0 : Int32) else 1).toInt64) j d
theorem hm_dr_s (hz : Int32) (mi : Nat → Int32) (i : Nat) (d : Int64) (j : Nat) : hm_dr hz mi i d (j + 1) = hb_mix (hb_mix (hm_dr hz mi i d j) (mi (i * 10 + j)).toInt64) (if hb_clr hz (mi (i * 10 + j)) = 0 then (0 : Int32) else 1).toInt64 := rfl
def hm_ds (hz : Int32) (mi : Nat → Int32) (n : Nat) (d : Int64) : Nat → Int64 := fun j => hb_it (fun i d => hm_dr hz mi i d n) j d
theorem hm_ds_s (hz : Int32) (mi : Nat → Int32) (n : Nat) (d : Int64) (j : Nat) : hm_ds hz mi n d (j + 1) = hm_dr hz mi j (hm_ds hz mi n d j) n := rfl
def hm_dig (S : Nat → Int32) (N a : Nat → Nat → Int32) (n : Nat) : Int64 := hm_ds (S 4) (a 5) n (hm_dhs N a (hm_dl S N n) n) n
theorem hm_ext {E : jk_T} {X Y w : va_W} {m : Nat → Nat} {th hl : Int32} {S : Nat → Int32} {N a : Nat → Nat → Int32} : hm_M E X Y m th hl S N a ++ w = hm_M E X (Y ++ w) m th hl S N a := by
  unfold hm_M
  rw [List.append_assoc, List.append_assoc]
theorem hm_y {E : jk_T} {X Y : va_W} {m : Nat → Nat} {th hl : Int32} {S : Nat → Int32} {N a : Nat → Nat → Int32} {e : Nat × va_E} : (hm_M E X (Y ++ [e]) m th hl S N a)[(X.length + 10 + Y.length)]? = some e := by
  rw [← hm_ext]
  have hl : (hm_M E X Y m th hl S N a).length = X.length + 10 + Y.length := by
    unfold hm_M
    rw [List.length_append, List.length_append, show (hm_MW E m th hl S N a).length = 10 from rfl, Nat.add_assoc]
  rw [← hl, List.getElem?_append_right (Nat.le_refl _), Nat.sub_self]
  rfl
theorem hm_yset {E : jk_T} {X Y : va_W} {m : Nat → Nat} {th hl : Int32} {S : Nat → Int32} {N a : Nat → Nat → Int32} {e e' : Nat × va_E} : (hm_M E X (Y ++ [e]) m th hl S N a).set (X.length + 10 + Y.length) e' = hm_M E X (Y ++ [e']) m th hl S N a := by
  rw [← hm_ext, ← hm_ext]
  have hl : (hm_M E X Y m th hl S N a).length = X.length + 10 + Y.length := by
    unfold hm_M
    rw [List.length_append, List.length_append, show (hm_MW E m th hl S N a).length = 10 from rfl, Nat.add_assoc]
  rw [← hl, List.set_append_right _ _ (Nat.le_refl _), Nat.sub_self]
  rfl
section HMN
variable {Γ : jk_G} {E : jk_T} {own : String} {cc : ByteArray} {nL : Nat} {Ts : List Cond} {rm : Room} {ws w' : va_W} {n k pc : Nat} {lv lv' : List (Nat × Value)} {st : List Value}
/-- a new row: its class is the one that the tables know -/
theorem jk_newI (K : jk_C Γ E own cc nL Ts rm) {atype : ArrayType} {ty : FieldType} {x : Int32} {z ti : Nat} {a0 : vp_A} (hdg : decode cc pc = .ok (.newarray atype, 2)) (hw : Cond.arrayClass (newarray.typeOf atype) ∈ Ts) (hty : newarray.typeOf atype = ty) (hti : (jk_tys E.2)[ti]? = some (E.2 ti, ty)) (hra : ∀ (U : State) (cA : ClassId), va_RA U cA ty = (U.vm.findClass ("[" ++ ty.toString) = some cA)) (ha : ∀ cA : ClassId, vp_cell cA a0 = arrV cA z (fun _ => defaultValue ty)) (hx : ¬ x < 0 ∧ x.toNatClampNeg = z) (hb : z * componentBytes ty ≤ 536870912) (hc : n + 1 ≤ rm.cells) (hs : k + z ≤ rm.slots)
    (kk : ∀ q : Nat, jk_J Γ E (ws ++ [(q, .inl (E.2 ti, a0))]) (n + 1) (k + z) (pc + 2) lv (.ref q :: st)) : jk_J Γ E ws n k pc lv (.int x :: st) := by
  intro H locs ls hP hD hS hl
  refine va_newa K.1 K.2.1 (K.2.2.2.1 _ hw) hty K.2.2.2.2.2.2.1 hP hD hS K.2.2.2.2.2.2.2.1 ha hx.1 hx.2 hb (by rw [K.2.2.2.2.2.2.2.2.1]; exact hc) (by rw [K.2.2.2.2.2.2.2.2.1]; exact hs) hdg ?_
  intro q cA H1 hK1 hP1 hD1 hS1
  have h1 := (K.2.2.2.2.2.2.1.2 ti _ hti).2
  have h2 := (hK1.2 (jk_tys E.2).length (cA, ty) (by rw [List.getElem?_append_right (Nat.le_refl _), Nat.sub_self]; rfl)).2
  rw [hra] at h1 h2
  have e : cA = E.2 ti := Option.some.inj (h2.symm.trans h1)
  subst e
  exact kk q H1 locs ls hP1 hD1 hS1 hl
end HMN
