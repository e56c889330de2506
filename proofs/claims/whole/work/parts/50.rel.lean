/-! THE CLASS AND THE REFERENCE, side by side: a hill f of the class (fields in their order) and a hill g of the reference -/
def hm_H (n : Nat) (f g : Nat → Int32) (w e p : Int32) : Prop :=
  g 0 = f 0 ∧ g 1 = f 5 ∧ g 2 = f 7 ∧ g 3 = f 8 ∧ g 5 = f 10 ∧ g 6 = f 1 ∧ w = f 2 ∧ hb_zb e = hb_zb (f 3) ∧ hb_zb p = hb_zb (f 4) ∧ (∃ k : Nat, k ≤ 30 ∧ f 0 = nI k) ∧ (∃ k : Nat, k ≤ 9 ∧ f 1 = nI k) ∧ 0 < f 2 ∧
  ((f 5 = 0 ∧ f 9 = -2 ∧ g 4 = -1) ∨ ((f 5 = 1 ∨ f 5 = 2) ∧ f 8 = 0 ∧ g 4 = f 9 ∧ (f 9 = -1 ∨ ∃ s, s < n ∧ f 9 = nI s)))
/-- the hills below n, b: how they stood at the minute's beginning -/
def hm_P (n : Nat) (b : Nat → Int32) (a C N : Nat → Nat → Int32) : Prop := ∀ k, k < n → hm_H n (C k) (N k) (a 2 k) (a 3 k) (a 4 k) ∧ C k 6 = b k
theorem hm_P_up {n : Nat} {b : Nat → Int32} {a C N : Nat → Nat → Int32} (h : hm_P n b a C N) (i : Nat) {f g : Nat → Int32} (hf : i < n → hm_H n f g (a 2 i) (a 3 i) (a 4 i) ∧ f 6 = b i) : hm_P n b a (va_up C i f) (va_up N i g) := by
  intro k hk
  by_cases e : k = i
  · subst e
    rw [va_up_self, va_up_self]
    exact hf hk
  · rw [va_up_ne _ _ e, va_up_ne _ _ e]
    exact h k hk
/-- the values of the land -/
def hm_G (n : Nat) (G S : Nat → Int32) : Prop := G 0 = nI n ∧ S 4 = G 1 ∧ S 1 = G 2 ∧ S 0 = G 3 ∧ S 2 = G 4 ∧ S 3 = G 5 ∧ ∃ k : Nat, k ≤ 30 ∧ G 2 = nI k
/-- the sights -/
def hm_V (M mi : Nat → Int32) : Prop := ∀ p, p < 100 → mi p = M p ∧ M p ≤ 20
/-! the minute's first half: who burns is noted, who looks -/
theorem hb_rem_v (C : Nat → Nat → Int32) : ∀ j k, hb_rem C j k = if k < j then hb_fu (C k) 6 (C k 5) else C k
  | 0, k => by rw [if_neg (by omega)]; rfl
  | j + 1, k => by
    rw [hb_rem_s]
    by_cases e : k = j
    · subst e
      rw [va_up_self, if_pos (by omega), hb_rem_v C k k, if_neg (by omega)]
    · rw [va_up_ne _ _ e, hb_rem_v C j k]
      by_cases h : k < j
      · rw [if_pos h, if_pos (by omega)]
      · rw [if_neg h, if_neg (by omega)]
theorem hm_m1_v (N : Nat → Nat → Int32) (w : Nat → Int32) : ∀ j k, hm_m1 N w j k = if k < j then N k 1 else w k
  | 0, k => by rw [if_neg (by omega)]; rfl
  | j + 1, k => by
    rw [hm_m1_s]
    by_cases e : k = j
    · subst e
      rw [pk_us, if_pos (by omega)]
    · rw [pk_un e, hm_m1_v N w j k]
      by_cases h : k < j
      · rw [if_pos h, if_pos (by omega)]
      · rw [if_neg h, if_neg (by omega)]
theorem hb_nf_c {C D : Nat → Nat → Int32} {g M : Nat → Int32} {i : Nat} (j : Nat) (h : ∀ t, t < j → C t 6 = D t 6) : hb_nf C g M i j = hb_nf D g M i j := by
  induction j with
  | zero => rfl
  | succ j ih => rw [hb_nf_s, hb_nf_s, ih (fun t ht => h t (by omega)), h j (by omega)]
/-- the nearest fire is the same -/
theorem hm_nf {C : Nat → Nat → Int32} {G M mi was : Nat → Int32} {n i : Nat} {hz : Int32} (hn : n ≤ 10) (hi : i < n) (hv : hm_V M mi) (hh : hz = G 1) (hw : ∀ t, t < n → was t = C t 6) : ∀ j, j ≤ n →
    (hm_ne hz mi was i j = none ∧ hb_nf C G M i j = (-1, 21)) ∨ (∃ t, t < j ∧ C t 6 = 2 ∧ hm_ne hz mi was i j = some t ∧ hb_nf C G M i j = (nI t, M (i * 10 + t)))
  | 0, _ => Or.inl ⟨rfl, rfl⟩
  | j + 1, hj => by
    have ih := hm_nf (C := C) (G := G) (M := M) (mi := mi) (was := was) (hz := hz) hn hi hv hh hw j (by omega)
    obtain ⟨e1, e2⟩ := hv (i * 10 + j) (by omega)
    rw [hm_ne_s, hb_nf_s]
    unfold hm_nS
    rw [hw j (by omega), hh, e1]
    by_cases c1 : C j 6 = 2
    · rw [if_pos c1, if_pos c1]
      by_cases c2 : hb_clr (G 1) (M (i * 10 + j)) = 0
      · rw [if_pos c2, if_pos c2]
        rw [hh] at ih
        rcases ih with h | ⟨t, h1, h2, h3⟩
        · exact Or.inl h
        · exact Or.inr ⟨t, by omega, h2, h3⟩
      · rw [if_neg c2, if_neg c2]
        rw [hh] at ih
        rcases ih with ⟨h1, h2⟩ | ⟨t, h1, h2, h3, h4⟩
        · rw [h1, h2]
          refine Or.inr ⟨j, by omega, c1, rfl, ?_⟩
          rw [if_neg]
          intro q
          exact absurd (Int32.le_trans q e2) (by decide)
        · rw [h3, h4]
          obtain ⟨e3, -⟩ := hv (i * 10 + t) (by omega)
          dsimp only
          rw [e3]
          by_cases c3 : M (i * 10 + t) ≤ M (i * 10 + j)
          · rw [if_pos c3, if_pos c3]
            exact Or.inr ⟨t, by omega, h2, rfl, rfl⟩
          · rw [if_neg c3, if_neg c3]
            exact Or.inr ⟨j, by omega, c1, rfl, rfl⟩
    · rw [if_neg c1, if_neg c1]
      rw [hh] at ih
      rcases ih with h | ⟨t, h1, h2, h3⟩
      · exact Or.inl h
      · exact Or.inr ⟨t, by omega, h2, h3⟩
theorem hb_lo_v (C : Nat → Nat → Int32) (G M : Nat → Int32) (n : Nat) : ∀ j, ∀ k, hb_lo C G M n j k = if k < j then hb_loF C G M n k else C k
  | 0, k => by rw [if_neg (by omega)]; rfl
  | j + 1, k => by
    have ih := hb_lo_v C G M n j
    rw [hb_lo_s]
    by_cases e : k = j
    · subst e
      rw [va_up_self, if_pos (by omega)]
      unfold hb_loF
      rw [ih k, if_neg (by omega)]
      rw [hb_nf_c (C := hb_lo C G M n k) (D := C) n (fun t _ => by
        rw [ih t]
        by_cases h : t < k
        · rw [if_pos h]; rfl
        · rw [if_neg h])]
    · rw [va_up_ne _ _ e, ih k]
      by_cases h : k < j
      · rw [if_pos h, if_pos (by omega)]
      · rw [if_neg h, if_neg (by omega)]
