/-! A MINUTE IN CLOSED FORM -/
theorem hm_neg {b : Nat} (h : b < 2 ^ 31) : ¬ nI b = -1 := fun e => nI_pos h (by rw [e]; decide)
def mn_nf (C : Nat → Nat → Int32) (G M : Nat → Int32) (n i : Nat) : Int32 × Int32 := hb_nf (hb_p1 C n) G M i n
/-- has it something to look at -/
def mn_w (C : Nat → Nat → Int32) (G M : Nat → Int32) (n i : Nat) : Int32 := if hb_rdy (C i) = 0 then 0 else if hb_glo (C i) G = 0 then (if (mn_nf C G M n i).1 = -1 then 0 else 1) else 1
/-- is it lit -/
def mn_t (C : Nat → Nat → Int32) (G M : Nat → Int32) (n i : Nat) : Int32 := if mn_w C G M n i = 0 then 0 else if C i 8 + 1 < C i 2 then 0 else 1
/-- by whose signal -/
def mn_sr (C : Nat → Nat → Int32) (G M : Nat → Int32) (n i : Nat) : Int32 := if (mn_nf C G M n i).1 = -1 then -1 else C (hb_hx (mn_nf C G M n i).1) 9
def mn_l (C : Nat → Nat → Int32) (G M : Nat → Int32) (n i : Nat) : Nat → Int32 := hb_fu (C i) 8 (if mn_w C G M n i = 0 then 0 else C i 8 + 1)
def mn_A (C : Nat → Nat → Int32) (G M : Nat → Int32) (n i : Nat) : Nat → Int32 := if mn_t C G M n i = 0 then mn_l C G M n i else hb_kindleF (mn_l C G M n i) (mn_sr C G M n i)
def mn_K (C : Nat → Nat → Int32) (G M : Nat → Int32) (n i : Nat) : Nat → Int32 := if C i 5 = 1 then (if 0 < C i 7 - 1 then hb_fu (mn_A C G M n i) 7 (C i 7 - 1) else hb_fu (hb_fu (mn_A C G M n i) 7 (C i 7 - 1)) 5 2) else mn_A C G M n i
def mn_B (C : Nat → Nat → Int32) (G M : Nat → Int32) (n i : Nat) : Nat → Int32 := if C i 5 = 2 then hb_burnF (mn_K C G M n i) else mn_K C G M n i
/-- does hill k answer hill i -/
def mn_an (C : Nat → Nat → Int32) (k i : Nat) : Int32 := if C k 5 = 1 then (if 0 < C k 7 - 1 then 0 else if hb_zb (C k 4) = 0 then 0 else if C k 9 = -1 then 0 else if i = hb_hx (C k 9) then 1 else 0) else 0
def mn_cn (C : Nat → Nat → Int32) (i : Nat) : Nat → Int32 := fun j => hb_it (fun k s => s + mn_an C k i) j 0
theorem mn_cn_s (C : Nat → Nat → Int32) (i j : Nat) : mn_cn C i (j + 1) = mn_cn C i j + mn_an C j i := rfl
def mn_C (C : Nat → Nat → Int32) (G M : Nat → Int32) (n i : Nat) : Nat → Int32 := hb_fu (mn_B C G M n i) 10 (C i 10 + mn_cn C i n)
/-- the land's counts behind j hills -/
def mn_g (C : Nat → Nat → Int32) (G M : Nat → Int32) (n : Nat) : Nat → Nat → Int32 := fun j => hb_it (fun i g => if mn_t C G M n i = 0 then g else hb_kG g (mn_sr C G M n i)) j G
theorem mn_g_s (C : Nat → Nat → Int32) (G M : Nat → Int32) (n j : Nat) : mn_g C G M n (j + 1) = if mn_t C G M n j = 0 then mn_g C G M n j else hb_kG (mn_g C G M n j) (mn_sr C G M n j) := rfl
theorem mn_g_0 {C : Nat → Nat → Int32} {G M : Nat → Int32} {n : Nat} (k : Nat) (hk : k ≠ 4) (hk5 : k ≠ 5) : ∀ j, mn_g C G M n j k = G k
  | 0 => rfl
  | j + 1 => by
    rw [mn_g_s]
    split
    · exact mn_g_0 k hk hk5 j
    · rw [hb_kG_0 _ _ k hk hk5]
      exact mn_g_0 k hk hk5 j
theorem mn_t01 (C : Nat → Nat → Int32) (G M : Nat → Int32) (n i : Nat) : mn_t C G M n i = 0 ∨ mn_t C G M n i = 1 := by
  unfold mn_t
  split
  · exact Or.inl rfl
  · split
    · exact Or.inl rfl
    · exact Or.inr rfl
theorem mn_w_d {C : Nat → Nat → Int32} {G M : Nat → Int32} {n i : Nat} (h : ¬ mn_w C G M n i = 0) : C i 5 = 0 ∧ 0 < C i 0 := by
  unfold mn_w at h
  split at h
  · exact absurd rfl h
  · rename_i q
    unfold hb_rdy at q
    split at q
    · assumption
    · exact absurd rfl q
theorem mn_t_w {C : Nat → Nat → Int32} {G M : Nat → Int32} {n i : Nat} (h : ¬ mn_t C G M n i = 0) : ¬ mn_w C G M n i = 0 ∧ ¬ C i 8 + 1 < C i 2 := by
  unfold mn_t at h
  split at h
  · exact absurd rfl h
  · rename_i q
    split at h
    · exact absurd rfl h
    · rename_i q2
      exact ⟨q, q2⟩
theorem mn_t_d {C : Nat → Nat → Int32} {G M : Nat → Int32} {n i : Nat} (h : ¬ mn_t C G M n i = 0) : C i 5 = 0 ∧ 0 < C i 0 := mn_w_d (mn_t_w h).1
section MN
variable {n B : Nat} {C : Nat → Nat → Int32} {G M : Nat → Int32}
theorem iv_20 (h : iv n B C G M) {i : Nat} (hi : i < n) : ∀ t, t < n → M (i * 10 + t) ≤ 20 := fun t ht => by
  have hn := h.1
  obtain ⟨-, ⟨k, hk, e⟩, -⟩ := h.2.2.2.2 i t (by omega) (by omega)
  rw [e]
  exact nI_le (a := k) (b := 20) hk (by omega)
theorem hb_p1_v {i : Nat} (hi : i < n) : hb_p1 C n i = hb_fu (C i) 6 (C i 5) := by
  unfold hb_p1
  rw [hb_rem_v, if_pos hi]
theorem hb_p1_6 {i : Nat} (hi : i < n) : hb_p1 C n i 6 = C i 5 := by rw [hb_p1_v hi]; rfl
theorem mn_nf_o (h : iv n B C G M) {i : Nat} (hi : i < n) : ∃ o : Option Nat, mn_is C G M i (fun t => t < n) o ∧ (mn_nf C G M n i).1 = sm_o o ∧ (∀ t, o = some t → t < n ∧ C t 5 = 2) := by
  obtain ⟨o, h1, h2⟩ := mn_nf_is (C := C) (D := hb_p1 C n) (G := G) (G' := G) (M := M) (i := i) (fun t ht => hb_p1_6 ht) rfl (iv_20 h hi) n (Nat.le_refl n)
  refine ⟨o, h1, by unfold mn_nf; rw [h2], fun t e => ?_⟩
  subst e
  exact ⟨h1.1, h1.2.1.1⟩
theorem iv_dark (h : iv n B C G M) {i : Nat} (hi : i < n) : (C i 5 = 0 ∧ C i 7 = 0 ∧ C i 9 = -2) ∨ (C i 5 = 1 ∧ C i 8 = 0 ∧ iv_so n (C i 9)) ∨ (C i 5 = 2 ∧ C i 7 = 0 ∧ C i 8 = 0 ∧ iv_so n (C i 9)) := by
  obtain ⟨-, -, -, -, hd⟩ := h.2.1 i hi
  rcases hd with ⟨a, b, c, -⟩ | ⟨a, -, c, d⟩ | ⟨a, b, c, d⟩
  · exact Or.inl ⟨a, b, c⟩
  · exact Or.inr (Or.inl ⟨a, c, d⟩)
  · exact Or.inr (Or.inr ⟨a, b, c, d⟩)
theorem iv_watch (h : iv n B C G M) {i : Nat} (hi : i < n) : (0 : Int32) < C i 2 := by
  obtain ⟨-, -, ⟨k, hk1, hk5, e⟩, -⟩ := h.2.1 i hi
  rw [e]
  exact nI_lt (a := 0) (b := k) hk1 (by omega)
/-- who is lit has no source, or that of a burning hill that it sees -/
theorem mn_sr_so (h : iv n B C G M) {i : Nat} (hi : i < n) : mn_sr C G M n i = -1 ∨ ∃ t : Nat, t < n ∧ C t 5 = 2 ∧ ¬ hb_clr (G 1) (M (i * 10 + t)) = 0 ∧ mn_sr C G M n i = C t 9 := by
  have hn := h.1
  obtain ⟨o, h1, h2, h3⟩ := mn_nf_o h hi
  unfold mn_sr
  cases o with
  | none => rw [h2]; exact Or.inl rfl
  | some t =>
    obtain ⟨a, b⟩ := h3 t rfl
    rw [h2]
    show (if nI t = -1 then (-1 : Int32) else C (hb_hx (nI t)) 9) = -1 ∨ _
    rw [if_neg (hm_neg (by omega)), hb_hx_nI (by omega)]
    refine Or.inr ⟨t, a, b, h1.2.1.2, ?_⟩
    show (if nI t = -1 then (-1 : Int32) else C (hb_hx (nI t)) 9) = C t 9
    rw [if_neg (hm_neg (by omega)), hb_hx_nI (by omega)]
theorem mn_sr_iv (h : iv n B C G M) {i : Nat} (hi : i < n) : iv_so n (mn_sr C G M n i) := by
  rcases mn_sr_so h hi with e | ⟨t, ht, h5, -, e⟩
  · exact Or.inl e
  · rw [e]
    rcases iv_dark h ht with q | q | q
    · rw [q.1] at h5; exact absurd h5 (by decide)
    · exact q.2.2
    · exact q.2.2.2
/-! the class -/
theorem hb_p2_v {i : Nat} (hi : i < n) : hb_p2 C G M n i = hb_fu (hb_fu (C i) 6 (C i 5)) 8 (if mn_w C G M n i = 0 then 0 else C i 8 + 1) := by
  unfold hb_p2
  rw [hb_lo_v, if_pos hi]
  unfold hb_loF
  rw [hb_p1_v hi]
  have e1 : hb_rdy (hb_fu (C i) 6 (C i 5)) = hb_rdy (C i) := rfl
  have e2 : hb_glo (hb_fu (C i) 6 (C i 5)) G = hb_glo (C i) G := rfl
  have e3 : hb_fu (C i) 6 (C i 5) 8 = C i 8 := rfl
  rw [e1, e2, e3]
  congr 1
  unfold mn_w mn_nf
  by_cases c1 : hb_rdy (C i) = 0
  · rw [if_pos c1, if_pos c1, if_pos rfl]
  · rw [if_neg c1, if_neg c1]
    by_cases c2 : hb_glo (C i) G = 0
    · rw [if_pos c2, if_pos c2]
      by_cases c3 : (hb_nf (hb_p1 C n) G M i n).1 = -1
      · rw [if_pos c3, if_pos c3, if_pos rfl]
      · rw [if_neg c3, if_neg c3, if_neg (by decide)]
    · rw [if_neg c2, if_neg c2, if_neg (by decide)]
def mn_a6 (C : Nat → Nat → Int32) (G M : Nat → Int32) (n i : Nat) : Nat → Int32 := if mn_t C G M n i = 0 then hb_p2 C G M n i else hb_kindleF (hb_p2 C G M n i) (mn_sr C G M n i)
theorem mn_a6_k (h : iv n B C G M) {i : Nat} (hi : i < n) {k : Nat} (hk : k ≠ 6) : mn_a6 C G M n i k = mn_A C G M n i k := by
  unfold mn_a6 mn_A mn_l
  rw [hb_p2_v hi]
  split
  · simp [hb_fu_eq, hk]
  · simp [hb_kindleF, hb_fu_eq, hk]
theorem mn_a6_6 (h : iv n B C G M) {i : Nat} (hi : i < n) : mn_a6 C G M n i 6 = C i 5 := by
  unfold mn_a6
  rw [hb_p2_v hi]
  split
  · simp [hb_fu_eq]
  · simp [hb_kindleF, hb_fu_eq]
theorem mn_as_v (h : iv n B C G M) : ∀ j, j ≤ n → (∀ k, j ≤ k → (hb_as (hb_p2 C G M n) G M n j).1 k = hb_p2 C G M n k) ∧ (∀ k, k < j → (hb_as (hb_p2 C G M n) G M n j).1 k = mn_a6 C G M n k) ∧ (hb_as (hb_p2 C G M n) G M n j).2 = mn_g C G M n j
  | 0, _ => ⟨fun _ _ => rfl, fun k hk => absurd hk (by omega), rfl⟩
  | j + 1, hj => by
    obtain ⟨h1, h2, h3⟩ := mn_as_v h j (by omega)
    have hjn : j < n := by omega
    have hn := h.1
    have h6 : ∀ t, t < n → (hb_as (hb_p2 C G M n) G M n j).1 t 6 = C t 5 := fun t ht => by
      rcases Nat.lt_or_ge t j with q | q
      · rw [h2 t q]; exact mn_a6_6 h ht
      · rw [h1 t q, hb_p2_v ht]; rfl
    have hG1 : (hb_as (hb_p2 C G M n) G M n j).2 1 = G 1 := hb_as_0 1 (by decide) (by decide) j
    have hnf : hb_nf (hb_as (hb_p2 C G M n) G M n j).1 (hb_as (hb_p2 C G M n) G M n j).2 M j n = mn_nf C G M n j := by
      obtain ⟨o, a1, a2⟩ := mn_nf_is (C := C) (D := (hb_as (hb_p2 C G M n) G M n j).1) (G := G) (G' := (hb_as (hb_p2 C G M n) G M n j).2) (M := M) (i := j) h6 hG1 (iv_20 h hjn) n (Nat.le_refl n)
      obtain ⟨o', b1, b2⟩ := mn_nf_is (C := C) (D := hb_p1 C n) (G := G) (G' := G) (M := M) (i := j) (fun t ht => hb_p1_6 ht) rfl (iv_20 h hjn) n (Nat.le_refl n)
      have e := mn_is_u (fun t => Iff.rfl) a1 b1
      subst e
      unfold mn_nf
      rw [a2, b2]
    have hsr : hb_ssf (hb_as (hb_p2 C G M n) G M n j).1 (hb_as (hb_p2 C G M n) G M n j).2 M n j = mn_sr C G M n j := by
      unfold hb_ssf mn_sr
      rw [hnf]
      obtain ⟨o, o1, o2, o3⟩ := mn_nf_o h hjn
      cases o with
      | none => rw [o2, if_pos (show sm_o none = -1 from rfl), if_pos (show sm_o none = -1 from rfl)]
      | some t =>
        obtain ⟨ht, h5⟩ := o3 t rfl
        rw [show (mn_nf C G M n j).1 = nI t from o2, if_neg (hm_neg (by omega)), if_neg (hm_neg (by omega)), hb_hx_nI (by omega)]
        rcases Nat.lt_or_ge t j with q | q
        · rw [h2 t q]
          have ht0 : mn_t C G M n t = 0 := by
            rcases mn_t01 C G M n t with z | z
            · exact z
            · have := (mn_t_d (C := C) (G := G) (M := M) (n := n) (i := t) (by rw [z]; decide)).1
              rw [h5] at this
              exact absurd this (by decide)
          unfold mn_a6
          rw [if_pos ht0, hb_p2_v ht]
          rfl
        · rw [h1 t q, hb_p2_v ht]
          rfl
    have e8 : hb_p2 C G M n j 8 = (if mn_w C G M n j = 0 then 0 else C j 8 + 1) := by rw [hb_p2_v hjn]; rfl
    have e2 : hb_p2 C G M n j 2 = C j 2 := by rw [hb_p2_v hjn]; rfl
    have ht : (hb_p2 C G M n j 8 < hb_p2 C G M n j 2) ↔ mn_t C G M n j = 0 := by
      rw [e8, e2]
      unfold mn_t
      by_cases c1 : mn_w C G M n j = 0
      · rw [if_pos c1, if_pos c1]
        exact ⟨fun _ => rfl, fun _ => iv_watch h hjn⟩
      · rw [if_neg c1, if_neg c1]
        by_cases c2 : C j 8 + 1 < C j 2
        · rw [if_pos c2]; exact ⟨fun _ => rfl, fun _ => c2⟩
        · rw [if_neg c2]; exact ⟨fun q => absurd q c2, fun q => absurd q (by decide)⟩
    rw [hb_as_s, h1 j (Nat.le_refl j), mn_g_s, hsr, ← h3]
    by_cases c : mn_t C G M n j = 0
    · rw [if_pos (ht.mpr c), if_pos c]
      refine ⟨fun k hk => h1 k (by omega), fun k hk => ?_, rfl⟩
      by_cases e : k = j
      · subst e
        rw [h1 k (Nat.le_refl k)]
        unfold mn_a6
        rw [if_pos c]
      · exact h2 k (by omega)
    · rw [if_neg (fun q => c (ht.mp q)), if_neg c]
      refine ⟨fun k hk => ?_, fun k hk => ?_, rfl⟩
      · show hb_kC _ j _ k = _
        unfold hb_kC
        rw [va_up_ne _ _ (by omega)]
        exact h1 k (by omega)
      · show hb_kC _ j _ k = _
        unfold hb_kC
        by_cases e : k = j
        · subst e
          rw [va_up_self, h1 k (Nat.le_refl k)]
          unfold mn_a6
          rw [if_neg c]
        · rw [va_up_ne _ _ e]
          exact h2 k (by omega)
/-- who begins to burn -/
theorem hb_sb_k (D : Nat → Nat → Int32) (j i k : Nat) : hb_sb D j i k = if i = j ∧ k = 5 then 2 else if k = 10 then D i 10 + (if hb_zb (D j 4) = 0 then 0 else if D j 9 = -1 then 0 else if i = hb_hx (D j 9) then 1 else 0) else D i k := by
  have b1 : ∀ i k, va_up D j (hb_fu (D j) 5 2) i k = if i = j ∧ k = 5 then 2 else D i k := fun i k => by
    by_cases e : i = j
    · subst e
      rw [va_up_self, hb_fu_eq]
      by_cases e5 : k = 5 <;> simp [e5]
    · rw [va_up_ne _ _ e, if_neg (fun q => e q.1)]
  have b0 : va_up D j (hb_fu (D j) 5 2) i k = if i = j ∧ k = 5 then 2 else if k = 10 then D i 10 + 0 else D i k := by
    rw [b1]
    by_cases q : i = j ∧ k = 5
    · rw [if_pos q, if_pos q]
    · rw [if_neg q, if_neg q]
      by_cases e : k = 10
      · rw [if_pos e, e, Int32.add_zero]
      · rw [if_neg e]
  unfold hb_sb
  by_cases c1 : hb_zb (D j 4) = 0
  · rw [if_pos c1, if_pos c1]
    exact b0
  · rw [if_neg c1, if_neg c1]
    by_cases c2 : D j 9 = -1
    · rw [if_pos c2, if_pos c2]
      exact b0
    · rw [if_neg c2, if_neg c2]
      by_cases c3 : i = hb_hx (D j 9)
      · rw [← c3, va_up_self, if_pos rfl, hb_fu_eq]
        by_cases e : k = 10
        · rw [if_pos e, if_neg (fun q => by have := q.2; omega), if_pos e, b1, if_neg (fun q => by have := q.2; omega)]
        · rw [if_neg e, if_neg e, b1]
      · rw [va_up_ne _ _ c3, if_neg c3]
        exact b0
theorem hb_fu_f {f : Nat → Int32} {j : Nat} {v : Int32} {k : Nat} : hb_fu f j v k = if k = j then v else f k := hb_fu_eq f j v k
/-- the fires that kindle -/
theorem mn_ko_v (h : iv n B C G M) {D : Nat → Nat → Int32} (hD : ∀ k, k < n → D k = mn_a6 C G M n k) : ∀ j, j ≤ n → ∀ i, i < n → (∀ k, k ≠ 6 → hb_ko D j i k = hb_fu (if i < j then mn_K C G M n i else mn_A C G M n i) 10 (C i 10 + mn_cn C i j) k) ∧ hb_ko D j i 6 = C i 5
  | 0, _, i, hi => by
    refine ⟨fun k hk => ?_, ?_⟩
    · show D i k = _
      rw [hD i hi, mn_a6_k h hi hk, if_neg (by omega), hb_fu_eq]
      by_cases e : k = 10
      · rw [if_pos e, e]
        show _ = C i 10 + 0
        rw [Int32.add_zero]
        unfold mn_A mn_l
        split <;> simp [hb_kindleF, hb_fu_eq]
      · rw [if_neg e]
    · show D i 6 = _
      rw [hD i hi, mn_a6_6 h hi]
  | j + 1, hj, i, hi => by
    have hjn : j < n := by omega
    obtain ⟨p1, p6⟩ := mn_ko_v h hD j (by omega) i hi
    obtain ⟨q1, q6⟩ := mn_ko_v h hD j (by omega) j hjn
    rw [mn_cn_s, hb_ko_s, q6]
    have eA : ∀ k, k ≠ 10 → k ≠ 6 → hb_ko D j j k = mn_A C G M n j k := fun k hk hk6 => by
      rw [q1 k hk6, if_neg (by omega), hb_fu_eq, if_neg hk]
    by_cases c1 : C j 5 = 1
    · have ht0 : mn_t C G M n j = 0 := by
        rcases mn_t01 C G M n j with z | z
        · exact z
        · have := (mn_t_d (C := C) (G := G) (M := M) (n := n) (i := j) (by rw [z]; decide)).1
          rw [c1] at this
          exact absurd this (by decide)
      have a7 : hb_ko D j j 7 = C j 7 := by
        rw [eA 7 (by decide) (by decide)]
        unfold mn_A mn_l
        rw [if_pos ht0]
        rfl
      have a4 : hb_ko D j j 4 = C j 4 := by
        rw [eA 4 (by decide) (by decide)]
        unfold mn_A mn_l
        rw [if_pos ht0]
        rfl
      have a9 : hb_ko D j j 9 = C j 9 := by
        rw [eA 9 (by decide) (by decide)]
        unfold mn_A mn_l
        rw [if_pos ht0]
        rfl
      have eK : mn_K C G M n j = if 0 < C j 7 - 1 then hb_fu (mn_A C G M n j) 7 (C j 7 - 1) else hb_fu (hb_fu (mn_A C G M n j) 7 (C j 7 - 1)) 5 2 := by
        unfold mn_K
        rw [if_pos c1]
      have eu : ∀ i k, va_up (hb_ko D j) j (hb_fu (hb_ko D j j) 7 (C j 7 - 1)) i k = if i = j ∧ k = 7 then C j 7 - 1 else hb_ko D j i k := fun i k => by
        by_cases e : i = j
        · subst e
          rw [va_up_self, hb_fu_eq]
          by_cases e7 : k = 7 <;> simp [e7]
        · rw [va_up_ne _ _ e, if_neg (fun q => e q.1)]
      have u4 : va_up (hb_ko D j) j (hb_fu (hb_ko D j j) 7 (C j 7 - 1)) j 4 = C j 4 := by rw [eu, if_neg (by omega), a4]
      have u9 : va_up (hb_ko D j) j (hb_fu (hb_ko D j j) 7 (C j 7 - 1)) j 9 = C j 9 := by rw [eu, if_neg (by omega), a9]
      rw [if_pos c1, a7]
      by_cases c2 : 0 < C j 7 - 1
      · have ean : mn_an C j i = 0 := by
          unfold mn_an
          rw [if_pos c1, if_pos c2]
        rw [if_pos c2, ean, Int32.add_zero]
        refine ⟨fun k hk => ?_, ?_⟩
        · rw [eu]
          by_cases e : i = j
          · subst e
            rw [if_pos (show i < i + 1 by omega), eK, if_pos c2]
            by_cases e7 : k = 7
            · rw [if_pos ⟨rfl, e7⟩]
              subst e7
              simp [hb_fu_eq]
            · rw [if_neg (fun q => e7 q.2), p1 k hk, if_neg (show ¬ i < i by omega)]
              simp only [hb_fu_eq]
              by_cases e10 : k = 10 <;> simp [e7, e10]
          · rw [if_neg (fun q => e q.1), p1 k hk]
            by_cases l : i < j
            · rw [if_pos l, if_pos (by omega)]
            · rw [if_neg l, if_neg (by omega)]
        · rw [eu, if_neg (by omega)]
          exact p6
      · have ean : mn_an C j i = if hb_zb (C j 4) = 0 then 0 else if C j 9 = -1 then 0 else if i = hb_hx (C j 9) then 1 else 0 := by
          unfold mn_an
          rw [if_pos c1, if_neg c2]
        rw [if_neg c2]
        refine ⟨fun k hk => ?_, ?_⟩
        · rw [hb_sb_k, u4, u9, ← ean, eu, eu]
          by_cases e : i = j
          · subst e
            rw [if_pos (show i < i + 1 by omega), eK, if_neg c2, p1 k hk, p1 10 (by decide), if_neg (show ¬ i < i by omega)]
            simp only [hb_fu_eq]
            by_cases e5 : k = 5
            · subst e5; simp
            · by_cases e10 : k = 10
              · subst e10; simp [Int32.add_assoc]
              · by_cases e7 : k = 7
                · subst e7; simp
                · simp [e5, e10, e7]
          · simp only [e, false_and, if_false]
            rw [p1 k hk, p1 10 (by decide)]
            have el : (if i < j + 1 then mn_K C G M n i else mn_A C G M n i) = (if i < j then mn_K C G M n i else mn_A C G M n i) := by
              by_cases l : i < j
              · rw [if_pos l, if_pos (by omega)]
              · rw [if_neg l, if_neg (by omega)]
            rw [el]
            simp only [hb_fu_eq]
            by_cases e10 : k = 10
            · subst e10; simp [Int32.add_assoc]
            · simp [e10]
        · rw [hb_sb_k, if_neg (by omega), if_neg (by decide), eu, if_neg (by omega)]
          exact p6
    · have ean : mn_an C j i = 0 := by
        unfold mn_an
        rw [if_neg c1]
      rw [if_neg c1, ean, Int32.add_zero]
      refine ⟨fun k hk => ?_, p6⟩
      rw [p1 k hk]
      by_cases e : i = j
      · subst e
        rw [if_neg (by omega), if_pos (by omega)]
        unfold mn_K
        rw [if_neg c1]
      · by_cases l : i < j
        · rw [if_pos l, if_pos (by omega)]
        · rw [if_neg l, if_neg (by omega)]
theorem hb_bo_v (D : Nat → Nat → Int32) : ∀ j i, hb_bo D j i = if i < j then (if D i 6 = 2 then hb_burnF (D i) else D i) else D i
  | 0, i => by rw [if_neg (by omega)]; rfl
  | j + 1, i => by
    have ih := hb_bo_v D j
    have ej : hb_bo D j j = D j := by rw [ih j, if_neg (by omega)]
    rw [hb_bo_s, ej]
    by_cases c : D j 6 = 2
    · rw [if_pos c]
      by_cases e : i = j
      · subst e
        rw [va_up_self, if_pos (by omega), if_pos c]
      · rw [va_up_ne _ _ e, ih i]
        by_cases l : i < j
        · rw [if_pos l, if_pos (show i < j + 1 by omega)]
        · rw [if_neg l, if_neg (show ¬ i < j + 1 by omega)]
    · rw [if_neg c, ih i]
      by_cases e : i = j
      · subst e
        rw [if_neg (by omega), if_pos (by omega), if_neg c]
      · by_cases l : i < j
        · rw [if_pos l, if_pos (show i < j + 1 by omega)]
        · rw [if_neg l, if_neg (show ¬ i < j + 1 by omega)]
theorem hb_burnF_k (f : Nat → Int32) (k : Nat) : hb_burnF f k = if 0 < f 0 then (if k = 0 then f 0 - 1 else f k) else if k = 5 then 0 else if k = 7 then 0 else if k = 9 then -2 else f k := by
  unfold hb_burnF
  split
  · rw [hb_fu_eq]
  · unfold hb_darkF
    simp only [hb_fu_eq]
    by_cases e5 : k = 5
    · subst e5; simp
    · by_cases e7 : k = 7
      · subst e7; simp
      · by_cases e9 : k = 9
        · subst e9; simp
        · simp [e5, e7, e9]
/-- the class's minute -/
theorem mn_po (h : iv n B C G M) {i : Nat} (hi : i < n) {k : Nat} (hk : k ≠ 6) : hb_poC C G M n i k = mn_C C G M n i k := by
  obtain ⟨-, a2, -⟩ := mn_as_v h n (Nat.le_refl n)
  obtain ⟨p1, p6⟩ := mn_ko_v h (D := (hb_p3 C G M n).1) (fun k hk => a2 k hk) n (Nat.le_refl n) i hi
  have p2 : ∀ k, k ≠ 6 → hb_ko (hb_p3 C G M n).1 n i k = hb_fu (mn_K C G M n i) 10 (C i 10 + mn_cn C i n) k := fun k hk => by rw [p1 k hk, if_pos hi]
  unfold hb_poC
  rw [hb_bo_v, if_pos hi, p6]
  unfold mn_C mn_B
  by_cases c : C i 5 = 2
  · rw [if_pos c, if_pos c, hb_burnF_k, p2 0 (by decide), p2 k hk]
    simp only [hb_fu_eq, hb_burnF_k]
    by_cases e10 : k = 10
    · subst e10; simp
    · simp [e10]
  · rw [if_neg c, if_neg c, p2 k hk]
theorem mn_poG (h : iv n B C G M) : hb_poG C G M n = if G 2 ≤ 0 then hb_fu (mn_g C G M n n) 3 (G 3 + 1) else hb_fu (hb_fu (mn_g C G M n n) 2 (G 2 - 1)) 3 (G 3 + 1) := by
  obtain ⟨-, -, a3⟩ := mn_as_v h n (Nat.le_refl n)
  unfold hb_poG hb_p3
  rw [a3, mn_g_0 2 (by decide) (by decide), mn_g_0 3 (by decide) (by decide)]
theorem hb_as_ge {D : Nat → Nat → Int32} : ∀ j i, j ≤ i → (hb_as D G M n j).1 i = D i
  | 0, _, _ => rfl
  | j + 1, i, hi => by
    rw [hb_as_s]
    split
    · exact hb_as_ge j i (by omega)
    · show hb_kC _ j _ i = _
      unfold hb_kC
      rw [va_up_ne _ _ (by omega)]
      exact hb_as_ge j i (by omega)
/-- places without a hill stay as they were -/
theorem mn_po_F (h : iv n B C G M) {i : Nat} (hi : n ≤ i) (hi10 : i < 10) (hF : iv_F (C i)) : iv_F (hb_poC C G M n i) := by
  have hn := h.1
  have e2 : hb_p2 C G M n i = C i := by
    unfold hb_p2 hb_p1
    rw [hb_lo_v, if_neg (by omega), hb_rem_v, if_neg (by omega)]
  have e3 : (hb_p3 C G M n).1 i = C i := by
    unfold hb_p3
    rw [hb_as_ge n i hi, e2]
  obtain ⟨-, a2, -⟩ := mn_as_v h n (Nat.le_refl n)
  have key : ∀ j, j ≤ n → hb_ko (hb_p3 C G M n).1 j i = C i := fun j => by
    induction j with
    | zero => exact fun _ => e3
    | succ j ih =>
      intro hj
      have hjn : j < n := by omega
      have ih := ih (by omega)
      obtain ⟨q1, q6⟩ := mn_ko_v h (D := (hb_p3 C G M n).1) (fun k hk => a2 k hk) j (by omega) j hjn
      rw [hb_ko_s, q6]
      by_cases c1 : C j 5 = 1
      · rw [if_pos c1]
        by_cases c2 : 0 < hb_ko (hb_p3 C G M n).1 j j 7 - 1
        · rw [if_pos c2, va_up_ne _ _ (by omega)]
          exact ih
        · rw [if_neg c2]
          have hne : i ≠ j := by omega
          have ht0 : mn_t C G M n j = 0 := by
            rcases mn_t01 C G M n j with z | z
            · exact z
            · have := (mn_t_d (C := C) (G := G) (M := M) (n := n) (i := j) (by rw [z]; decide)).1
              rw [c1] at this
              exact absurd this (by decide)
          have a9 : hb_ko (hb_p3 C G M n).1 j j 9 = C j 9 := by
            rw [q1 9 (by decide), if_neg (by omega)]
            unfold mn_A mn_l
            rw [if_pos ht0]
            rfl
          unfold hb_sb
          rw [va_up_self, show hb_fu (hb_ko (hb_p3 C G M n).1 j j) 7 (hb_ko (hb_p3 C G M n).1 j j 7 - 1) 9 = C j 9 from a9]
          have base : ∀ f g : Nat → Int32, va_up (va_up (hb_ko (hb_p3 C G M n).1 j) j f) j g i = C i := fun f g => by
            rw [va_up_ne _ _ hne, va_up_ne _ _ hne]; exact ih
          split
          · exact base _ _
          · split
            · exact base _ _
            · rename_i c9
              rcases iv_dark h hjn with z | z | z
              · rw [z.1] at c1; exact absurd c1 (by decide)
              · rcases z.2.2 with w | ⟨s, hs, w⟩
                · exact absurd w c9
                · rw [w, hb_hx_nI (by omega), va_up_ne _ _ (by omega)]
                  exact base _ _
              · rw [z.1] at c1; exact absurd c1 (by decide)
      · rw [if_neg c1]
        exact ih
  unfold hb_poC
  rw [hb_bo_v, if_neg (by omega), key n (Nat.le_refl n)]
  exact hF
end MN
