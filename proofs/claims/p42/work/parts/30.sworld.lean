/-! THE LAW'S OWN LAND (Sim): its object, its row of hills, its table of miles, the table's rows, its hills; p: their addresses (0, 1, 2, 3 to 12, 13 and on) -/
def sm_ob (S : Nat → Int32) (ha mo : Nat) : List Value := [.int (S 0), .int (S 1), .int (S 2), .int (S 3), .int (S 4), .ref ha, .ref mo]
def sm_SW (E : jk_T) (p : Nat → Nat) (n : Nat) (S : Nat → Int32) (N mi : Nat → Nat → Int32) : va_W := (p 0, .inr (4, sm_ob S (p 1) (p 2))) :: (p 1, .inl (E.2 3, n, .inr (.inr (.inr (.inr (fun i => some (p (13 + i)))))))) :: (p 2, .inl (E.2 4, 10, .inr (.inr (.inr (.inr (fun i => some (p (3 + i)))))))) :: ((List.range 10).map (fun i => (p (3 + i), .inl (E.2 0, 10, .inl (mi i)))) ++ (List.range n).map (fun i => (p (13 + i), .inr (3, sm_hill (N i)))))
def sm_S (E : jk_T) (X Y : va_W) (p : Nat → Nat) (n : Nat) (S : Nat → Int32) (N mi : Nat → Nat → Int32) : va_W := X ++ (sm_SW E p n S N mi ++ Y)
section SMW
variable {E : jk_T} {X Y Z Z' : va_W} {p : Nat → Nat} {n : Nat} {S : Nat → Int32} {N mi : Nat → Nat → Int32}
theorem sm_len : (sm_SW E p n S N mi).length = 13 + n := by
  simp [sm_SW]
  omega
theorem sm_SWr {i : Nat} (h : i < 10) : (sm_SW E p n S N mi)[3 + i]? = some (p (3 + i), .inl (E.2 0, 10, .inl (mi i))) := by
  have e : (sm_SW E p n S N mi)[3 + i]? = ((List.range 10).map (fun i => ((p (3 + i), .inl (E.2 0, 10, .inl (mi i))) : Nat × va_E)) ++ (List.range n).map (fun i => ((p (13 + i), .inr (3, sm_hill (N i))) : Nat × va_E)))[i]? := by
    rw [Nat.add_comm 3 i]; rfl
  rw [e, List.getElem?_append_left (by simp; omega), List.getElem?_map, List.getElem?_range h]
  rfl
theorem sm_SWh {i : Nat} (h : i < n) : (sm_SW E p n S N mi)[13 + i]? = some (p (13 + i), .inr (3, sm_hill (N i))) := by
  have e : (sm_SW E p n S N mi)[13 + i]? = ((List.range 10).map (fun i => ((p (3 + i), .inl (E.2 0, 10, .inl (mi i))) : Nat × va_E)) ++ (List.range n).map (fun i => ((p (13 + i), .inr (3, sm_hill (N i))) : Nat × va_E)))[10 + i]? := by
    rw [show 13 + i = (10 + i) + 3 by omega]; rfl
  rw [e, List.getElem?_append_right (by simp), List.length_map, List.length_range, show 10 + i - 10 = i by omega, List.getElem?_map, List.getElem?_range h]
  rfl
theorem sm_x (j : Nat) {q : Nat × va_E} (h : (sm_SW E p n S N mi)[j]? = some q) : (sm_S E X Y p n S N mi)[X.length + j]? = some q := by
  unfold sm_S
  rw [List.getElem?_append_right (by omega), show X.length + j - X.length = j by omega, List.getElem?_append_left (List.getElem?_eq_some_iff.mp h).1]
  exact h
theorem sm_0 : (sm_S E X Y p n S N mi)[X.length + 0]? = some (p 0, .inr (4, sm_ob S (p 1) (p 2))) := sm_x 0 rfl
theorem sm_1 : (sm_S E X Y p n S N mi)[X.length + 1]? = some (p 1, .inl (E.2 3, n, .inr (.inr (.inr (.inr (fun i => some (p (13 + i)))))))) := sm_x 1 rfl
theorem sm_2 : (sm_S E X Y p n S N mi)[X.length + 2]? = some (p 2, .inl (E.2 4, 10, .inr (.inr (.inr (.inr (fun i => some (p (3 + i)))))))) := sm_x 2 rfl
theorem sm_r {i : Nat} (h : i < 10) : (sm_S E X Y p n S N mi)[X.length + (3 + i)]? = some (p (3 + i), .inl (E.2 0, 10, .inl (mi i))) := sm_x (3 + i) (sm_SWr h)
theorem sm_h {i : Nat} (h : i < n) : (sm_S E X Y p n S N mi)[X.length + (13 + i)]? = some (p (13 + i), .inr (3, sm_hill (N i))) := sm_x (13 + i) (sm_SWh h)
theorem sm_hu {i : Nat} {f : Nat → Int32} (h : i < n) : (sm_S E X Y p n S (va_up N i f) mi)[X.length + (13 + i)]? = some (p (13 + i), .inr (3, sm_hill f)) := by
  have e := sm_h (E := E) (X := X) (Y := Y) (p := p) (S := S) (N := va_up N i f) (mi := mi) h
  rw [va_up_self] at e
  exact e
theorem sm_sx (j : Nat) {q : Nat × va_E} (hj : j < 13 + n) {S' : Nat → Int32} {N' mi' : Nat → Nat → Int32} (h : (sm_SW E p n S N mi).set j q = sm_SW E p n S' N' mi') : (sm_S E X Y p n S N mi).set (X.length + j) q = sm_S E X Y p n S' N' mi' := by
  unfold sm_S
  rw [List.set_append_right _ _ (by omega), show X.length + j - X.length = j by omega, List.set_append_left _ _ (by rw [sm_len]; exact hj), h]
theorem sm_s0 {l : List Value} {S' : Nat → Int32} (h : l = sm_ob S' (p 1) (p 2)) : (sm_S E X Y p n S N mi).set (X.length + 0) (p 0, .inr (4, l)) = sm_S E X Y p n S' N mi := sm_sx 0 (by omega) (by rw [h]; rfl)
theorem sm_out {j : Nat} (h : 13 + n ≤ j) : (sm_SW E p n S N mi)[j]? = none := List.getElem?_eq_none (by rw [sm_len]; exact h)
theorem sm_sr {i : Nat} (hi : i < 10) {f : Nat → Int32} : (sm_S E X Y p n S N mi).set (X.length + (3 + i)) (p (3 + i), .inl (E.2 0, 10, .inl f)) = sm_S E X Y p n S N (va_up mi i f) := by
  refine sm_sx (3 + i) (by omega) ?_
  apply List.ext_getElem?
  intro j
  by_cases hj : j = 3 + i
  · subst hj
    rw [List.getElem?_set_self (by rw [sm_len]; omega), sm_SWr hi, va_up_self]
  · rw [List.getElem?_set_ne (Ne.symm hj)]
    by_cases h3 : j < 3
    · rcases (show j = 0 ∨ j = 1 ∨ j = 2 by omega) with rfl | rfl | rfl <;> rfl
    · by_cases h14 : j < 13
      · obtain ⟨i', rfl⟩ : ∃ i', j = 3 + i' := ⟨j - 3, by omega⟩
        rw [sm_SWr (by omega), sm_SWr (by omega), va_up_ne _ _ (by omega)]
      · by_cases hn : j < 13 + n
        · obtain ⟨i', rfl⟩ : ∃ i', j = 13 + i' := ⟨j - 13, by omega⟩
          rw [sm_SWh (by omega), sm_SWh (by omega)]
        · rw [sm_out (by omega), sm_out (by omega)]
theorem sm_sh {i : Nat} (hi : i < n) {f : Nat → Int32} {l : List Value} (h : l = sm_hill f) : (sm_S E X Y p n S N mi).set (X.length + (13 + i)) (p (13 + i), .inr (3, l)) = sm_S E X Y p n S (va_up N i f) mi := by
  subst h
  refine sm_sx (13 + i) (by omega) ?_
  apply List.ext_getElem?
  intro j
  by_cases hj : j = 13 + i
  · subst hj
    rw [List.getElem?_set_self (by rw [sm_len]; omega), sm_SWh hi, va_up_self]
  · rw [List.getElem?_set_ne (Ne.symm hj)]
    by_cases h3 : j < 3
    · rcases (show j = 0 ∨ j = 1 ∨ j = 2 by omega) with rfl | rfl | rfl <;> rfl
    · by_cases h14 : j < 13
      · obtain ⟨i', rfl⟩ : ∃ i', j = 3 + i' := ⟨j - 3, by omega⟩
        rw [sm_SWr (by omega), sm_SWr (by omega)]
      · by_cases hn : j < 13 + n
        · obtain ⟨i', rfl⟩ : ∃ i', j = 13 + i' := ⟨j - 13, by omega⟩
          rw [sm_SWh (by omega), sm_SWh (by omega), va_up_ne _ _ (by omega)]
        · rw [sm_out (by omega), sm_out (by omega)]
theorem sm_shu {i : Nat} (hi : i < n) {f0 f : Nat → Int32} {l : List Value} (h : l = sm_hill f) : (sm_S E X Y p n S (va_up N i f0) mi).set (X.length + (13 + i)) (p (13 + i), .inr (3, l)) = sm_S E X Y p n S (va_up N i f) mi := by
  rw [sm_sh hi h, hb_up_up]
theorem sm_ext : sm_S E X Y p n S N mi ++ Z = sm_S E X (Y ++ Z) p n S N mi := by
  simp [sm_S, List.append_assoc]
theorem sm_yat {k : Nat} {e : Nat × va_E} (h : Z[k]? = some e) : (sm_S E X (Y ++ Z) p n S N mi)[X.length + (13 + n + (Y.length + k))]? = some e := by
  unfold sm_S
  rw [List.getElem?_append_right (by omega), List.getElem?_append_right (by rw [sm_len]; omega), List.getElem?_append_right (by rw [sm_len]; omega), sm_len, show X.length + (13 + n + (Y.length + k)) - X.length - (13 + n) - Y.length = k by omega, h]
theorem sm_yst {k : Nat} {e : Nat × va_E} (h : Z.set k e = Z') : (sm_S E X (Y ++ Z) p n S N mi).set (X.length + (13 + n + (Y.length + k))) e = sm_S E X (Y ++ Z') p n S N mi := by
  unfold sm_S
  rw [List.set_append_right _ _ (by omega), List.set_append_right _ _ (by rw [sm_len]; omega), List.set_append_right _ _ (by rw [sm_len]; omega), sm_len, show X.length + (13 + n + (Y.length + k)) - X.length - (13 + n) - Y.length = k by omega, h]
/-- the same land, read otherwise -/
theorem sm_congr {S' : Nat → Int32} {N' mi' : Nat → Nat → Int32} (hS : ∀ k, k < 5 → S k = S' k) (hN : ∀ i, i < n → sm_hill (N i) = sm_hill (N' i)) (hm : ∀ i, i < 10 → mi i = mi' i) : sm_S E X Y p n S N mi = sm_S E X Y p n S' N' mi' := by
  have e1 : (List.range n).map (fun i => ((p (13 + i), .inr (3, sm_hill (N i))) : Nat × va_E)) = (List.range n).map (fun i => ((p (13 + i), .inr (3, sm_hill (N' i))) : Nat × va_E)) := by
    apply List.map_congr_left
    intro i hi
    rw [hN i (List.mem_range.mp hi)]
  have e2 : (List.range 10).map (fun i => ((p (3 + i), .inl (E.2 0, 10, .inl (mi i))) : Nat × va_E)) = (List.range 10).map (fun i => ((p (3 + i), .inl (E.2 0, 10, .inl (mi' i))) : Nat × va_E)) := by
    apply List.map_congr_left
    intro i hi
    rw [hm i (List.mem_range.mp hi)]
  have e3 : sm_ob S (p 1) (p 2) = sm_ob S' (p 1) (p 2) := by
    unfold sm_ob
    rw [hS 0 (by omega), hS 1 (by omega), hS 2 (by omega), hS 3 (by omega), hS 4 (by omega)]
  unfold sm_S sm_SW
  rw [e1, e2, e3]
theorem sm_hill_c {f g : Nat → Int32} (h : ∀ k, k < 11 → f k = g k) : sm_hill f = sm_hill g := by
  unfold sm_hill
  rw [h 0 (by omega), h 1 (by omega), h 2 (by omega), h 3 (by omega), h 4 (by omega), h 5 (by omega), h 6 (by omega), h 7 (by omega), h 8 (by omega), h 9 (by omega), h 10 (by omega)]
end SMW
theorem sm_set4 (f : Nat → Int32) (x : Int32) : (sm_hill f).set 4 (.int (hb_zb x)) = sm_hill (hb_fu f 4 (hb_zb x)) := by
  have e : sm_hill (hb_fu f 4 (hb_zb x)) = [.int (f 0), .int (f 1), .int (f 2), .int (f 3), .int (hb_zb (hb_zb x)), .int (hb_zb (f 5)), .int (f 6), .int (f 7), .int (f 8), .int (f 9), .int (f 10)] := rfl
  rw [e, hb_zb_zb]
  rfl
theorem sm_set5 (f : Nat → Int32) (x : Int32) : (sm_hill f).set 5 (.int (hb_zb x)) = sm_hill (hb_fu f 5 (hb_zb x)) := by
  have e : sm_hill (hb_fu f 5 (hb_zb x)) = [.int (f 0), .int (f 1), .int (f 2), .int (f 3), .int (hb_zb (f 4)), .int (hb_zb (hb_zb x)), .int (f 6), .int (f 7), .int (f 8), .int (f 9), .int (f 10)] := rfl
  rw [e, hb_zb_zb]
  rfl
