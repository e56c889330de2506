/-! THE CLASS'S WORLD: a land of 14 cells, its hills by number (10: the one that stands for none) -/
def hb_fu (f : Nat → Int32) (j : Nat) (v : Int32) : Nat → Int32 := fun i => cond (Nat.beq i j) v (f i)
theorem hb_fu_eq (f : Nat → Int32) (j : Nat) (v : Int32) (i : Nat) : hb_fu f j v i = if i = j then v else f i := by
  unfold hb_fu
  by_cases h : i = j
  · subst h; simp
  · have h2 : Nat.beq i j = false := by
      cases hb : Nat.beq i j with
      | false => rfl
      | true => exact absurd (Nat.eq_of_beq_eq_true hb) h
    simp [h, h2]
def hb_zb (v : Int32) : Int32 := if v = 0 then 0 else 1
theorem hb_zb_zb (v : Int32) : hb_zb (hb_zb v) = hb_zb v := by
  unfold hb_zb
  by_cases h : v = 0 <;> simp [h]
theorem hb_zb_nar (v : Int32) : narrow .boolean (.int (hb_zb v)) = .int (hb_zb v) := by
  unfold hb_zb
  by_cases h : v = 0 <;> simp [h] <;> rfl
theorem hb_zb_fit (v : Int32) : fits .boolean (.int (hb_zb v)) = true := by
  unfold hb_zb
  by_cases h : v = 0 <;> simp [h] <;> rfl
def hb_hill (f : Nat → Int32) : List Value := [.int (f 0), .int (f 1), .int (f 2), .int (hb_zb (f 3)), .int (hb_zb (f 4)), .int (f 5), .int (f 6), .int (f 7), .int (f 8), .int (f 9), .int (f 10)]
def hb_land (b : Nat → Nat) (G : Nat → Int32) : List Value := [.ref (b 1), .ref (b 13), .ref (b 2), .int (G 0), .int (G 1), .int (G 2), .int (G 3), .int (G 4), .int (G 5)]
def hb_places (E : jk_T) (b : Nat → Nat) : va_E := .inl (E.2 1, 10, .inr (.inr (.inr (.inr (fun i => some (b (3 + i)))))))
def hb_sights (E : jk_T) (M : Nat → Int32) : va_E := .inl (E.2 0, 100, .inl M)
def hb_LW (E : jk_T) (b : Nat → Nat) (C : Nat → Nat → Int32) (G M : Nat → Int32) : va_W := (b 0, .inr (1, hb_land b G)) :: (b 1, hb_places E b) :: (b 2, hb_sights E M) :: (List.range 11).map (fun i => (b (3 + i), .inr (0, hb_hill (C i))))
def hb_L (E : jk_T) (X Y : va_W) (b : Nat → Nat) (C : Nat → Nat → Int32) (G M : Nat → Int32) : va_W := X ++ (hb_LW E b C G M ++ Y)
section HBL
variable {E : jk_T} {X Y : va_W} {b : Nat → Nat} {C : Nat → Nat → Int32} {G M : Nat → Int32}
theorem hb_Lx (j : Nat) {q : Nat × va_E} (h : (hb_LW E b C G M)[j]? = some q) : (hb_L E X Y b C G M)[X.length + j]? = some q := by
  unfold hb_L
  rw [List.getElem?_append_right (by omega), show X.length + j - X.length = j by omega, List.getElem?_append_left (List.getElem?_eq_some_iff.mp h).1]
  exact h
theorem hb_L0 : (hb_L E X Y b C G M)[X.length + 0]? = some (b 0, .inr (1, hb_land b G)) := hb_Lx 0 rfl
theorem hb_L1 : (hb_L E X Y b C G M)[X.length + 1]? = some (b 1, hb_places E b) := hb_Lx 1 rfl
theorem hb_L2 : (hb_L E X Y b C G M)[X.length + 2]? = some (b 2, hb_sights E M) := hb_Lx 2 rfl
theorem hb_LWh {i : Nat} (h : i ≤ 10) : (hb_LW E b C G M)[3 + i]? = some (b (3 + i), .inr (0, hb_hill (C i))) := by
  have e : (hb_LW E b C G M)[3 + i]? = ((List.range 11).map (fun i => ((b (3 + i), .inr (0, hb_hill (C i))) : Nat × va_E)))[i]? := by
    rw [Nat.add_comm 3 i]; rfl
  rw [e, List.getElem?_map, List.getElem?_range (show i < 11 by omega)]
  rfl
theorem hb_Lh {i : Nat} (h : i ≤ 10) : (hb_L E X Y b C G M)[X.length + (3 + i)]? = some (b (3 + i), .inr (0, hb_hill (C i))) := hb_Lx (3 + i) (hb_LWh h)
theorem hb_Sx (j : Nat) {q : Nat × va_E} (hj : j < 14) {C' : Nat → Nat → Int32} {G' M' : Nat → Int32} (h : (hb_LW E b C G M).set j q = hb_LW E b C' G' M') : (hb_L E X Y b C G M).set (X.length + j) q = hb_L E X Y b C' G' M' := by
  unfold hb_L
  rw [List.set_append_right _ _ (by omega), show X.length + j - X.length = j by omega, List.set_append_left _ _ (by show j < (hb_LW E b C G M).length; simp [hb_LW]; omega), h]
theorem hb_S0 {l : List Value} {G' : Nat → Int32} (h : l = hb_land b G') : (hb_L E X Y b C G M).set (X.length + 0) (b 0, .inr (1, l)) = hb_L E X Y b C G' M := hb_Sx 0 (by omega) (by rw [h]; rfl)
theorem hb_S2 {M' : Nat → Int32} : (hb_L E X Y b C G M).set (X.length + 2) (b 2, .inl (E.2 0, 100, .inl M')) = hb_L E X Y b C G M' := hb_Sx 2 (by omega) rfl
theorem hb_Sh {i : Nat} (hi : i ≤ 10) {f : Nat → Int32} {l : List Value} (h : l = hb_hill f) : (hb_L E X Y b C G M).set (X.length + (3 + i)) (b (3 + i), .inr (0, l)) = hb_L E X Y b (va_up C i f) G M := by
  subst h
  refine hb_Sx (3 + i) (by omega) ?_
  apply List.ext_getElem?
  intro j
  have hlen : (hb_LW E b C G M).length = 14 := by simp [hb_LW]
  by_cases hj : j = 3 + i
  · subst hj
    rw [List.getElem?_set_self (by omega), hb_LWh hi, va_up_self]
  · rw [List.getElem?_set_ne (Ne.symm hj)]
    by_cases h3 : j < 3
    · rcases (show j = 0 ∨ j = 1 ∨ j = 2 by omega) with rfl | rfl | rfl <;> rfl
    · by_cases h14 : j < 14
      · obtain ⟨i', rfl⟩ : ∃ i', j = 3 + i' := ⟨j - 3, by omega⟩
        rw [hb_LWh (by omega), hb_LWh (by omega), va_up_ne _ _ (by omega)]
      · rw [List.getElem?_eq_none (by omega), List.getElem?_eq_none (by simp [hb_LW]; omega)]
end HBL
theorem hb_set3 (f : Nat → Int32) (x : Int32) : (hb_hill f).set 3 (.int (hb_zb x)) = hb_hill (hb_fu f 3 (hb_zb x)) := by
  have e : hb_hill (hb_fu f 3 (hb_zb x)) = [.int (f 0), .int (f 1), .int (f 2), .int (hb_zb (hb_zb x)), .int (hb_zb (f 4)), .int (f 5), .int (f 6), .int (f 7), .int (f 8), .int (f 9), .int (f 10)] := rfl
  rw [e, hb_zb_zb]
  rfl
theorem hb_set4 (f : Nat → Int32) (x : Int32) : (hb_hill f).set 4 (.int (hb_zb x)) = hb_hill (hb_fu f 4 (hb_zb x)) := by
  have e : hb_hill (hb_fu f 4 (hb_zb x)) = [.int (f 0), .int (f 1), .int (f 2), .int (hb_zb (f 3)), .int (hb_zb (hb_zb x)), .int (f 5), .int (f 6), .int (f 7), .int (f 8), .int (f 9), .int (f 10)] := rfl
  rw [e, hb_zb_zb]
  rfl
theorem hb_set_at {ws : va_W} {kk : Nat} {q e : Nat × va_E} (h : ws[kk]? = some q) : (ws.set kk e)[kk]? = some e := List.getElem?_set_self (List.getElem?_eq_some_iff.mp h).1
theorem hb_set_ot {ws : va_W} {kk k2 : Nat} {q e : Nat × va_E} (hn : kk ≠ k2) (h : ws[k2]? = some q) : (ws.set kk e)[k2]? = some q := by rw [List.getElem?_set_ne hn]; exact h
theorem hb_set1 {ws : va_W} {kk h : Nat} {l : List Value} {f : Nat → Int32} (e : l = hb_hill f) : ws.set kk (h, .inr (0, l)) = ws.set kk (h, .inr (0, hb_hill f)) := by rw [e]
theorem hb_set2 {ws : va_W} {kk h : Nat} {l : List Value} {f : Nat → Int32} {x : Nat × va_E} (e : l = hb_hill f) : (ws.set kk x).set kk (h, .inr (0, l)) = ws.set kk (h, .inr (0, hb_hill f)) := by rw [e, List.set_set]
theorem hb_up_up {α : Type} (C : Nat → α) (i : Nat) (f g : α) : va_up (va_up C i f) i g = va_up C i g := by
  funext j
  by_cases h : j = i <;> simp [va_up, h]
theorem hb_Lhu {E : jk_T} {X Y : va_W} {b : Nat → Nat} {C : Nat → Nat → Int32} {G M : Nat → Int32} {i : Nat} {f : Nat → Int32} (h : i ≤ 10) : (hb_L E X Y b (va_up C i f) G M)[X.length + (3 + i)]? = some (b (3 + i), .inr (0, hb_hill f)) := by
  have e := hb_Lh (E := E) (X := X) (Y := Y) (b := b) (C := va_up C i f) (G := G) (M := M) h
  rw [va_up_self] at e
  exact e
theorem hb_Shu {E : jk_T} {X Y : va_W} {b : Nat → Nat} {C : Nat → Nat → Int32} {G M : Nat → Int32} {i : Nat} (hi : i ≤ 10) {f0 f : Nat → Int32} {l : List Value} (h : l = hb_hill f) : (hb_L E X Y b (va_up C i f0) G M).set (X.length + (3 + i)) (b (3 + i), .inr (0, l)) = hb_L E X Y b (va_up C i f) G M := by
  rw [hb_Sh hi h, hb_up_up]
/-- the class's object, its two lands -/
abbrev hb_ob (q : Nat) (b1 b2 : Nat → Nat) : Nat × va_E := (q, .inr (2, [.ref (b1 0), .ref (b2 0)]))
