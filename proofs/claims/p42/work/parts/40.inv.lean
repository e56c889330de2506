/-! WHAT HOLDS OF THE CLASS BETWEEN CALLS: n hills; B bounds what is counted -/
def iv_so (n : Nat) (x : Int32) : Prop := x = -1 ∨ ∃ s : Nat, s < n ∧ x = nI s
def iv_H (n B : Nat) (f : Nat → Int32) : Prop :=
  (∃ k : Nat, k ≤ 30 ∧ f 0 = nI k) ∧ (∃ k : Nat, k ≤ 9 ∧ f 1 = nI k) ∧ (∃ k : Nat, 1 ≤ k ∧ k ≤ 5 ∧ f 2 = nI k) ∧ (∃ k : Nat, k ≤ B ∧ f 10 = nI k) ∧
  ((f 5 = 0 ∧ f 7 = 0 ∧ f 9 = -2 ∧ ∃ k m : Nat, f 8 = nI k ∧ f 2 = nI m ∧ k < m ∧ m ≤ 5) ∨ (f 5 = 1 ∧ (∃ k : Nat, 1 ≤ k ∧ k ≤ 10 ∧ f 7 = nI k) ∧ f 8 = 0 ∧ iv_so n (f 9)) ∨ (f 5 = 2 ∧ f 7 = 0 ∧ f 8 = 0 ∧ iv_so n (f 9)))
def iv_F (f : Nat → Int32) : Prop := f 5 = 0 ∧ f 7 = 0 ∧ f 8 = 0 ∧ f 9 = -2 ∧ f 10 = 0 ∧ hb_zb (f 3) = 0 ∧ hb_zb (f 4) = 0
def iv_G (n B : Nat) (G : Nat → Int32) : Prop := G 0 = nI n ∧ (∃ k : Nat, k ≤ 9 ∧ G 1 = nI k) ∧ (∃ k : Nat, k ≤ 30 ∧ G 2 = nI k) ∧ ∃ a b : Nat, b ≤ a ∧ a ≤ B ∧ G 4 = nI a ∧ G 5 = nI b
def iv_M (M : Nat → Int32) : Prop := ∀ a b, a < 10 → b < 10 → M (a * 10 + b) = M (b * 10 + a) ∧ (∃ k : Nat, k ≤ 20 ∧ M (a * 10 + b) = nI k) ∧ (a = b → M (a * 10 + b) = 0)
def iv (n B : Nat) (C : Nat → Nat → Int32) (G M : Nat → Int32) : Prop := n ≤ 10 ∧ (∀ i, i < n → iv_H n B (C i)) ∧ (∀ i, n ≤ i → i < 10 → iv_F (C i)) ∧ iv_G n B G ∧ iv_M M
theorem iv_so_w {n n' : Nat} {x : Int32} (h : iv_so n x) (hn : n ≤ n') : iv_so n' x := h.elim Or.inl (fun ⟨s, hs, e⟩ => Or.inr ⟨s, by omega, e⟩)
theorem iv_H_w {n n' B B' : Nat} {f : Nat → Int32} (h : iv_H n B f) (hn : n ≤ n') (hB : B ≤ B') : iv_H n' B' f := by
  obtain ⟨h0, h1, h2, ⟨k, hk, e⟩, h⟩ := h
  refine ⟨h0, h1, h2, ⟨k, by omega, e⟩, ?_⟩
  rcases h with h | ⟨a, b, c, d⟩ | ⟨a, b, c, d⟩
  · exact Or.inl h
  · exact Or.inr (Or.inl ⟨a, b, c, iv_so_w d hn⟩)
  · exact Or.inr (Or.inr ⟨a, b, c, iv_so_w d hn⟩)
theorem iv_G_w {n B B' : Nat} {G : Nat → Int32} (h : iv_G n B G) (hB : B ≤ B') : iv_G n B' G := by
  obtain ⟨h0, h1, h2, a, b, hab, ha, e4, e5⟩ := h
  exact ⟨h0, h1, h2, a, b, hab, by omega, e4, e5⟩
theorem iv_w {n B B' : Nat} {C : Nat → Nat → Int32} {G M : Nat → Int32} (h : iv n B C G M) (hB : B ≤ B') : iv n B' C G M := ⟨h.1, fun i hi => iv_H_w (h.2.1 i hi) (Nat.le_refl n) hB, h.2.2.1, iv_G_w h.2.2.2.1 hB, h.2.2.2.2⟩
/-! THE NEAREST FIRE, said once for both sides -/
def mn_S (C : Nat → Nat → Int32) (G M : Nat → Int32) (i t : Nat) : Prop := C t 5 = 2 ∧ ¬ hb_clr (G 1) (M (i * 10 + t)) = 0
def mn_is (C : Nat → Nat → Int32) (G M : Nat → Int32) (i : Nat) (P : Nat → Prop) : Option Nat → Prop
  | none => ∀ t, P t → ¬ mn_S C G M i t
  | some t => P t ∧ mn_S C G M i t ∧ ∀ u, P u → mn_S C G M i u → M (i * 10 + t) ≤ M (i * 10 + u) ∧ (M (i * 10 + u) ≤ M (i * 10 + t) → t ≤ u)
theorem mn_is_u {C : Nat → Nat → Int32} {G M : Nat → Int32} {i : Nat} {P Q : Nat → Prop} (hPQ : ∀ t, P t ↔ Q t) {o o' : Option Nat} (h : mn_is C G M i P o) (h' : mn_is C G M i Q o') : o = o' := by
  cases o with
  | none =>
    cases o' with
    | none => rfl
    | some t => exact absurd h'.2.1 (h t ((hPQ t).mpr h'.1))
  | some t =>
    cases o' with
    | none => exact absurd h.2.1 (h' t ((hPQ t).mp h.1))
    | some u =>
      obtain ⟨a1, a2, a3⟩ := h
      obtain ⟨b1, b2, b3⟩ := h'
      have x := a3 u ((hPQ u).mpr b1) b2
      have y := b3 t ((hPQ t).mp a1) a2
      rw [Nat.le_antisymm (x.2 y.1) (y.2 x.1)]
def mn_v2 (M : Nat → Int32) (i : Nat) : Option Nat → Int32
  | none => 21
  | some t => M (i * 10 + t)
theorem mn_nf_is {C D : Nat → Nat → Int32} {G G' M : Nat → Int32} {n i : Nat} (hD : ∀ t, t < n → D t 6 = C t 5) (hG : G' 1 = G 1) (h20 : ∀ t, t < n → M (i * 10 + t) ≤ 20) : ∀ j, j ≤ n → ∃ o : Option Nat, mn_is C G M i (fun t => t < j) o ∧ hb_nf D G' M i j = (sm_o o, mn_v2 M i o)
  | 0, _ => ⟨none, fun t ht => absurd ht (by omega), rfl⟩
  | j + 1, hj => by
    obtain ⟨o, h1, h2⟩ := mn_nf_is (C := C) (D := D) (G := G) (G' := G') (M := M) (i := i) hD hG h20 j (by omega)
    rw [hb_nf_s, h2, hD j (by omega), hG]
    have skip : ¬ mn_S C G M i j → mn_is C G M i (fun t => t < j + 1) o := fun hs => by
      cases o with
      | none =>
        intro t ht
        by_cases e : t = j
        · rw [e]; exact hs
        · exact h1 t (by have : t < j + 1 := ht; show t < j; omega)
      | some t =>
        obtain ⟨a1, a2, a3⟩ := h1
        refine ⟨by have : t < j := a1; show t < j + 1; omega, a2, fun u hu hS => ?_⟩
        by_cases e : u = j
        · rw [e] at hS; exact absurd hS hs
        · exact a3 u (by have : u < j + 1 := hu; show u < j; omega) hS
    by_cases c1 : C j 5 = 2
    · rw [if_pos c1]
      by_cases c2 : hb_clr (G 1) (M (i * 10 + j)) = 0
      · rw [if_pos c2]
        exact ⟨o, skip (fun q => q.2 c2), rfl⟩
      · rw [if_neg c2]
        have hS : mn_S C G M i j := ⟨c1, c2⟩
        cases o with
        | none =>
          refine ⟨some j, ⟨Nat.lt_succ_self j, hS, fun u hu hSu => ?_⟩, ?_⟩
          · by_cases e : u = j
            · rw [e]; exact ⟨Int32.le_refl _, fun _ => Nat.le_refl j⟩
            · exact absurd hSu (h1 u (by have : u < j + 1 := hu; show u < j; omega))
          · show (if (21 : Int32) ≤ M (i * 10 + j) then _ else _) = _
            rw [if_neg (fun q => absurd (Int32.le_trans q (h20 j (by omega))) (by decide))]
            rfl
        | some t =>
          obtain ⟨a1, a2, a3⟩ := h1
          have a1' : t < j := a1
          show ∃ o, _ ∧ (if M (i * 10 + t) ≤ M (i * 10 + j) then _ else _) = _
          by_cases c3 : M (i * 10 + t) ≤ M (i * 10 + j)
          · rw [if_pos c3]
            refine ⟨some t, ⟨by show t < j + 1; omega, a2, fun u hu hSu => ?_⟩, rfl⟩
            by_cases e : u = j
            · rw [e]; exact ⟨c3, fun _ => by omega⟩
            · exact a3 u (by have : u < j + 1 := hu; show u < j; omega) hSu
          · rw [if_neg c3]
            refine ⟨some j, ⟨Nat.lt_succ_self j, hS, fun u hu hSu => ?_⟩, rfl⟩
            by_cases e : u = j
            · rw [e]; exact ⟨Int32.le_refl _, fun _ => Nat.le_refl j⟩
            · have x := (a3 u (by have : u < j + 1 := hu; show u < j; omega) hSu).1
              have y : M (i * 10 + j) < M (i * 10 + u) := Int32.lt_of_lt_of_le (Int32.not_le.mp c3) x
              exact ⟨Int32.le_of_lt y, fun q => absurd q (Int32.not_le.mpr y)⟩
    · rw [if_neg c1]
      exact ⟨o, skip (fun q => c1 q.1), rfl⟩
/-- the law's land looks from the last hill down -/
theorem mn_ne_is {C : Nat → Nat → Int32} {G M m was : Nat → Int32} {n i : Nat} {hz : Int32} (hw : ∀ t, t < n → was t = C t 5) (hm : ∀ t, t < n → m t = M (i * 10 + t)) (hc : ∀ t, t < n → (sm_clr hz (m t) = 0 ↔ hb_clr (G 1) (M (i * 10 + t)) = 0)) : ∀ d, d ≤ n → mn_is C G M i (fun t => n - d ≤ t ∧ t < n) (sm_ne hz m was n d)
  | 0, _ => fun t ht => absurd ht.1 (by have := ht.2; omega)
  | d + 1, hd => by
    have ih := mn_ne_is (C := C) (G := G) (M := M) hw hm hc d (by omega)
    have hk : n - 1 - d < n := by omega
    have hr : ∀ u, (n - (d + 1) ≤ u ∧ u < n) ↔ (u = n - 1 - d ∨ (n - d ≤ u ∧ u < n)) := fun u => by omega
    rw [sm_ne_s]
    unfold sm_nS
    rw [hw _ hk]
    have skip : ¬ mn_S C G M i (n - 1 - d) → mn_is C G M i (fun t => n - (d + 1) ≤ t ∧ t < n) (sm_ne hz m was n d) := fun hs => by
      cases hq : sm_ne hz m was n d with
      | none =>
        rw [hq] at ih
        intro t ht
        rcases (hr t).mp ht with e | e
        · rw [e]; exact hs
        · exact ih t e
      | some t =>
        rw [hq] at ih
        obtain ⟨a1, a2, a3⟩ := ih
        refine ⟨(hr t).mpr (Or.inr a1), a2, fun u hu hS => ?_⟩
        rcases (hr u).mp hu with e | e
        · rw [e] at hS; exact absurd hS hs
        · exact a3 u e hS
    by_cases c1 : C (n - 1 - d) 5 = 2
    · rw [if_pos c1]
      by_cases c2 : sm_clr hz (m (n - 1 - d)) = 0
      · rw [if_pos c2]
        exact skip (fun q => q.2 ((hc _ hk).mp c2))
      · rw [if_neg c2]
        have hS : mn_S C G M i (n - 1 - d) := ⟨c1, fun q => c2 ((hc _ hk).mpr q)⟩
        have hself : n - (d + 1) ≤ n - 1 - d ∧ n - 1 - d < n := by omega
        cases hq : sm_ne hz m was n d with
        | none =>
          rw [hq] at ih
          refine ⟨hself, hS, fun u hu hSu => ?_⟩
          rcases (hr u).mp hu with e | e
          · rw [e]; exact ⟨Int32.le_refl _, fun _ => Nat.le_refl _⟩
          · exact absurd hSu (ih u e)
        | some b =>
          rw [hq] at ih
          obtain ⟨a1, a2, a3⟩ := ih
          have a1' : n - d ≤ b ∧ b < n := a1
          show mn_is C G M i _ (if m b < m (n - 1 - d) then some b else some (n - 1 - d))
          rw [hm b a1'.2, hm _ hk]
          by_cases c3 : M (i * 10 + b) < M (i * 10 + (n - 1 - d))
          · rw [if_pos c3]
            refine ⟨(hr b).mpr (Or.inr a1), a2, fun u hu hSu => ?_⟩
            rcases (hr u).mp hu with e | e
            · rw [e]; exact ⟨Int32.le_of_lt c3, fun q => absurd q (Int32.not_le.mpr c3)⟩
            · exact a3 u e hSu
          · rw [if_neg c3]
            refine ⟨hself, hS, fun u hu hSu => ?_⟩
            rcases (hr u).mp hu with e | e
            · rw [e]; exact ⟨Int32.le_refl _, fun _ => Nat.le_refl _⟩
            · exact ⟨Int32.le_trans (Int32.not_lt.mp c3) (a3 u e hSu).1, fun _ => by omega⟩
    · rw [if_neg c1]
      exact skip (fun q => c1 q.1)
/-! the class's first half of a minute, hill by hill (as in the claim whole) -/
theorem hb_rem_v (C : Nat → Nat → Int32) : ∀ j k, hb_rem C j k = if k < j then hb_fu (C k) 6 (C k 5) else C k
  | 0, k => by rw [if_neg (by omega)]; rfl
  | j + 1, k => by
    rw [hb_rem_s]
    by_cases e : k = j
    · subst e
      rw [va_up_self, if_pos (by omega), hb_rem_v C k k, if_neg (by omega)]
    · rw [va_up_ne _ _ e, hb_rem_v C j k]
      by_cases h : k < j
      · rw [if_pos h, if_pos (by omega)]
      · rw [if_neg h, if_neg (by omega)]
theorem hb_nf_c {C D : Nat → Nat → Int32} {g M : Nat → Int32} {i : Nat} (j : Nat) (h : ∀ t, t < j → C t 6 = D t 6) : hb_nf C g M i j = hb_nf D g M i j := by
  induction j with
  | zero => rfl
  | succ j ih => rw [hb_nf_s, hb_nf_s, ih (fun t ht => h t (by omega)), h j (by omega)]
theorem hb_lo_v (C : Nat → Nat → Int32) (G M : Nat → Int32) (n : Nat) : ∀ j, ∀ k, hb_lo C G M n j k = if k < j then hb_loF C G M n k else C k
  | 0, k => by rw [if_neg (by omega)]; rfl
  | j + 1, k => by
    have ih := hb_lo_v C G M n j
    rw [hb_lo_s]
    by_cases e : k = j
    · subst e
      rw [va_up_self, if_pos (by omega)]
      unfold hb_loF
      rw [ih k, if_neg (by omega)]
      rw [hb_nf_c (C := hb_lo C G M n k) (D := C) n (fun t _ => by
        rw [ih t]
        by_cases h : t < k
        · rw [if_pos h]; rfl
        · rw [if_neg h])]
    · rw [va_up_ne _ _ e, ih k]
      by_cases h : k < j
      · rw [if_pos h, if_pos (by omega)]
      · rw [if_neg h, if_neg (by omega)]
