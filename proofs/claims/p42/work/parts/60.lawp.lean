
/-! THE LAW: what its rows hold -/
/-- an array of it -/
abbrev lw_a (E : jk_T) (k a z : Nat) (f : Nat → Int32) : Nat × va_E := (a, .inl (E.2 k, z, .inl f))
def ar_f (f : Nat → Int32) : Nat → Nat → Int32 := fun j => hb_it (fun i w => upd w i (f i)) j (fun _ => 0)
theorem ar_f_s (f : Nat → Int32) (j : Nat) : ar_f f (j + 1) = upd (ar_f f j) j (f j) := rfl
theorem ar_v (f : Nat → Int32) : ∀ {n k : Nat}, k < n → ar_f f n k = f k
  | 0, k, h => absurd h (by omega)
  | n + 1, k, h => by
    rw [ar_f_s]
    by_cases e : k = n
    · subst e; rw [pk_us]
    · rw [pk_un e]; exact ar_v f (by omega)
def lf_w (C : Nat → Nat → Int32) (i : Nat) : Int32 := C i 0
def lf_b (C : Nat → Nat → Int32) (i : Nat) : Int32 := if C i 5 = 2 then 1 else 0
def lf_d (C : Nat → Nat → Int32) (i : Nat) : Int32 := if C i 5 = 0 then 1 else 0
def lf_s (C : Nat → Nat → Int32) (i : Nat) : Int32 := if C i 5 = 0 then -2 else C i 9
theorem clr_pos {h x : Int32} (c : ¬ hb_clr h x = 0) : 0 < x ∧ x ≤ 20 - 2 * h := by
  unfold hb_clr at c
  split at c
  · assumption
  · exact absurd rfl c
theorem clr_1 {h x : Int32} (c : ¬ hb_clr h x = 0) : hb_clr h x = 1 := by
  unfold hb_clr at c ⊢
  split
  · rfl
  · rename_i q; rw [if_neg q] at c; exact absurd rfl c
theorem nI_one (k : Nat) : nI (k + 1) - nI k = 1 := by
  rw [pk_sub (by omega), show k + 1 - k = 1 by omega]
  rfl
section LP
variable {n B : Nat} {C : Nat → Nat → Int32} {G M : Nat → Int32}
theorem iv_mis (h : iv n B C G M) (hB : B ≤ 1000000) : G 5 ≤ G 4 := by
  obtain ⟨-, -, -, a, b, hab, ha, e4, e5⟩ := h.2.2.2.1
  rw [e4, e5]
  exact nI_le hab (by omega)
theorem mn_lights (h : iv n B C G M) (hB : B ≤ 1000000) : (hb_pm C G M n 1).2 4 - G 4 = mn_cl C G M n n := by
  show hb_poG C G M n 4 - G 4 = _
  have hn := h.1
  obtain ⟨-, -, -, a, b, hab, ha, e4, e5⟩ := h.2.2.2.1
  obtain ⟨c, d, hcd, hc, ec, -⟩ := mn_c_n C G M n n
  rw [mn_G_4 h, e4, ec, nI_add, pk_sub (by omega), show a + c - a = c by omega]
/-- what becomes of a hill in a minute -/
theorem mn_cases (h : iv n B C G M) {i : Nat} (hi : i < n) :
    (C i 5 = 0 ∧ mn_t C G M n i = 0 ∧ hb_poC C G M n i 5 = 0 ∧ hb_poC C G M n i 0 = C i 0) ∨
    (C i 5 = 0 ∧ mn_t C G M n i = 1 ∧ hb_poC C G M n i 5 = 1 ∧ (∃ k : Nat, k < 30 ∧ C i 0 = nI (k + 1) ∧ hb_poC C G M n i 0 = nI k) ∧ hb_poC C G M n i 9 = mn_sr C G M n i) ∨
    (C i 5 = 1 ∧ mn_t C G M n i = 0 ∧ ¬ hb_poC C G M n i 5 = 0 ∧ hb_poC C G M n i 0 = C i 0 ∧ hb_poC C G M n i 9 = C i 9) ∨
    (C i 5 = 2 ∧ mn_t C G M n i = 0 ∧ ¬ hb_poC C G M n i 5 = 0 ∧ (∃ k : Nat, k < 30 ∧ C i 0 = nI (k + 1) ∧ hb_poC C G M n i 0 = nI k) ∧ hb_poC C G M n i 9 = C i 9) ∨
    (C i 5 = 2 ∧ mn_t C G M n i = 0 ∧ hb_poC C G M n i 5 = 0 ∧ C i 0 = 0 ∧ hb_poC C G M n i 0 = 0) := by
  obtain ⟨⟨k0, hk0, e0⟩, -⟩ := h.2.1 i hi
  rw [mn_po h hi (k := 5) (by decide), mn_po h hi (k := 0) (by decide), mn_po h hi (k := 9) (by decide)]
  have hp : 0 < C i 0 → ∃ k : Nat, k < 30 ∧ C i 0 = nI (k + 1) ∧ C i 0 - 1 = nI k := fun q => by
    obtain ⟨k, rfl⟩ : ∃ k, k0 = k + 1 := ⟨k0 - 1, by
      rcases Nat.eq_zero_or_pos k0 with z | z
      · rw [e0, z] at q; exact absurd q (by decide)
      · omega⟩
    exact ⟨k, by omega, e0, by rw [e0, nI_sub1 (by omega)]; rfl⟩
  have hz : ¬ 0 < C i 0 → C i 0 = 0 := fun q => by
    rcases Nat.eq_zero_or_pos k0 with z | z
    · rw [e0, z]; rfl
    · exact absurd (by rw [e0]; exact nI_lt (a := 0) z (by omega)) q
  rcases iv_dark h hi with ⟨z5, -, -⟩ | ⟨z5, -, -⟩ | ⟨z5, -, -⟩
  · rcases mn_t01 C G M n i with t | t
    · rw [mn_C_d0 z5 t]
      exact Or.inl ⟨z5, t, z5, rfl⟩
    · have t' : ¬ mn_t C G M n i = 0 := by rw [t]; decide
      rw [mn_C_d1 z5 t']
      obtain ⟨k, hk, e1, e2⟩ := hp (mn_t_d t').2
      exact Or.inr (Or.inl ⟨z5, t, rfl, ⟨k, hk, e1, e2⟩, rfl⟩)
  · have t := mn_t_n (G := G) (M := M) (n := n) (i := i) (C := C) (by rw [z5]; decide)
    rw [mn_C_k z5]
    refine Or.inr (Or.inr (Or.inl ⟨z5, t, ?_, ?_, ?_⟩))
    · by_cases c : 0 < C i 7 - 1
      · rw [if_pos c]
        show ¬ C i 5 = 0
        rw [z5]; decide
      · rw [if_neg c]
        show ¬ (2 : Int32) = 0
        decide
    · by_cases c : 0 < C i 7 - 1
      · rw [if_pos c]; rfl
      · rw [if_neg c]; rfl
    · by_cases c : 0 < C i 7 - 1
      · rw [if_pos c]; rfl
      · rw [if_neg c]; rfl
  · have t := mn_t_n (G := G) (M := M) (n := n) (i := i) (C := C) (by rw [z5]; decide)
    rw [mn_C_b z5]
    by_cases c : 0 < C i 0
    · have eb : hb_burnF (hb_fu (C i) 8 0) = hb_fu (hb_fu (C i) 8 0) 0 (C i 0 - 1) := by
        unfold hb_burnF
        rw [if_pos (show 0 < hb_fu (C i) 8 0 0 from c)]
        rfl
      rw [eb]
      obtain ⟨k, hk, e1, e2⟩ := hp c
      exact Or.inr (Or.inr (Or.inr (Or.inl ⟨z5, t, by show ¬ C i 5 = 0; rw [z5]; decide, ⟨k, hk, e1, e2⟩, rfl⟩)))
    · have eb : hb_burnF (hb_fu (C i) 8 0) = hb_darkF (hb_fu (C i) 8 0) := by
        unfold hb_burnF
        rw [if_neg (show ¬ 0 < hb_fu (C i) 8 0 0 from c)]
      rw [eb]
      exact Or.inr (Or.inr (Or.inr (Or.inr ⟨z5, t, rfl, hz c, hz c⟩)))
end LP
theorem lw_drop {E : jk_T} {q : Nat} {b1 b2 : Nat → Nat} {Y Z : va_W} {C : Nat → Nat → Int32} {G M : Nat → Int32} {C2 : Nat → Nat → Int32} {G2 M2 : Nat → Int32} {p : Nat → Nat} {n : Nat} {S : Nat → Int32} {N mi : Nat → Nat → Int32} : hb_v1 E q b1 b2 (sm_SW E p n S N mi ++ (Y ++ Z)) C G M C2 G2 M2 = hb_v1 E q b1 b2 (sm_SW E p n S N mi ++ Y) C G M C2 G2 M2 ++ Z := by
  rw [lw_cw, lw_cw]
  simp [List.append_assoc]
