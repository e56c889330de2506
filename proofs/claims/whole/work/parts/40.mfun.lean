/-! the reference's search for the fewest steps -/
def hm_fl (f : Nat → Int32) : Nat → Nat → Int32 := fun j => hb_it (fun i f => upd f i (-1)) j f
theorem hm_fl_s (f : Nat → Int32) (j : Nat) : hm_fl f (j + 1) = upd (hm_fl f j) j (-1) := rfl
theorem hm_fl_v (f : Nat → Int32) : ∀ n t, t < n → hm_fl f n t = -1
  | 0, t, h => absurd h (by omega)
  | n + 1, t, h => by
    rw [hm_fl_s]
    by_cases e : t = n
    · subst e; exact pk_us
    · rw [pk_un e]; exact hm_fl_v f n t (by omega)
abbrev hm_B : Type := (Nat → Int32) × (Nat → Int32) × Nat
def hm_bS (hz : Int32) (mi : Nat → Int32) (p t : Nat) (s : hm_B) : hm_B := if s.1 t = -1 then (if hb_clr hz (mi ((s.2.1 p).toNatClampNeg * 10 + t)) = 0 then s else (upd s.1 t (s.1 (s.2.1 p).toNatClampNeg + 1), upd s.2.1 s.2.2 (nI t), s.2.2 + 1)) else s
def hm_bq (hz : Int32) (mi : Nat → Int32) (p : Nat) (s : hm_B) : Nat → hm_B := fun j => hb_it (hm_bS hz mi p) j s
theorem hm_bq_s (hz : Int32) (mi : Nat → Int32) (p : Nat) (s : hm_B) (j : Nat) : hm_bq hz mi p s (j + 1) = hm_bS hz mi p j (hm_bq hz mi p s j) := rfl
def hm_bp (hz : Int32) (mi : Nat → Int32) (n : Nat) (s : hm_B) : Nat → hm_B := fun j => hb_it (fun p s => if p < s.2.2 then hm_bq hz mi p s n else s) j s
theorem hm_bp_s (hz : Int32) (mi : Nat → Int32) (n : Nat) (s : hm_B) (j : Nat) : hm_bp hz mi n s (j + 1) = if j < (hm_bp hz mi n s j).2.2 then hm_bq hz mi j (hm_bp hz mi n s j) n else hm_bp hz mi n s j := rfl
def hm_b0 (f g : Nat → Int32) (n i : Nat) : hm_B := (upd (hm_fl f n) i 0, upd g 0 (nI i), 1)
/-- how many are reached -/
def hm_ct (D : Nat → Int32) : Nat → Nat
  | 0 => 0
  | n + 1 => hm_ct D n + if D n = -1 then 0 else 1
theorem hm_ct_le (D : Nat → Int32) : ∀ n, hm_ct D n ≤ n
  | 0 => Nat.le_refl _
  | n + 1 => by
    have := hm_ct_le D n
    unfold hm_ct
    split <;> omega
theorem hm_ct_lt {D : Nat → Int32} {t : Nat} (e : D t = -1) : ∀ n, t < n → hm_ct D n < n
  | 0, h => absurd h (by omega)
  | n + 1, h => by
    unfold hm_ct
    by_cases q : t = n
    · subst q
      rw [if_pos e]
      have := hm_ct_le D t
      omega
    · have := hm_ct_lt e n (by omega)
      split <;> omega
theorem hm_ct_out {D : Nat → Int32} {t : Nat} {v : Int32} : ∀ n, n ≤ t → hm_ct (upd D t v) n = hm_ct D n
  | 0, _ => rfl
  | n + 1, h => by
    unfold hm_ct
    rw [hm_ct_out n (by omega), pk_un (show n ≠ t by omega)]
theorem hm_ct_up {D : Nat → Int32} {t : Nat} {v : Int32} (e : D t = -1) (hv : ¬ v = -1) : ∀ n, t < n → hm_ct (upd D t v) n = hm_ct D n + 1
  | 0, h => absurd h (by omega)
  | n + 1, h => by
    unfold hm_ct
    by_cases q : t = n
    · subst q
      rw [pk_us, if_neg hv, if_pos e, hm_ct_out t (Nat.le_refl _)]
    · rw [hm_ct_up e hv n (by omega), pk_un (show n ≠ t by omega)]
      omega
theorem hm_ct_all {D : Nat → Int32} : ∀ n, (∀ t, t < n → D t = -1) → hm_ct D n = 0
  | 0, _ => rfl
  | n + 1, h => by
    unfold hm_ct
    rw [if_pos (h n (by omega)), hm_ct_all n (fun t ht => h t (by omega))]
/-- the line holds hills, each with its steps -/
def hm_bI (n : Nat) (s : hm_B) : Prop := hm_ct s.1 n = s.2.2 ∧ ∀ p, p < s.2.2 → ∃ q, q < n ∧ s.2.1 p = nI q ∧ ∃ d, d < s.2.2 ∧ s.1 q = nI d
theorem hm_bI0 {f g : Nat → Int32} {n i : Nat} (hi : i < n) : hm_bI n (hm_b0 f g n i) := by
  refine ⟨?_, fun p hp => ⟨i, hi, ?_, 0, Nat.zero_lt_one, ?_⟩⟩
  · show hm_ct (upd (hm_fl f n) i 0) n = 1
    rw [hm_ct_up (hm_fl_v f n i hi) (by decide) n hi, hm_ct_all n (hm_fl_v f n)]
  · have : p = 0 := by have : p < 1 := hp; omega
    subst this
    show upd g 0 (nI i) 0 = nI i
    exact pk_us
  · exact pk_us
theorem hm_bI_c {n : Nat} {s : hm_B} (h : hm_bI n s) : s.2.2 ≤ n := h.1 ▸ hm_ct_le _ _
theorem hm_bI_l {n : Nat} {s : hm_B} (h : hm_bI n s) {t : Nat} (ht : t < n) (e : s.1 t = -1) : s.2.2 < n := h.1 ▸ hm_ct_lt e n ht
theorem hm_bI_S {hz : Int32} {mi : Nat → Int32} {n p t : Nat} {s : hm_B} (hn : n ≤ 10) (h : hm_bI n s) (hp : p < s.2.2) (ht : t < n) : hm_bI n (hm_bS hz mi p t s) := by
  unfold hm_bS
  split
  · rename_i e
    split
    · exact h
    · obtain ⟨q, hq, e1, d, hd, e2⟩ := h.2 p hp
      have hc := hm_bI_l h ht e
      have e3 : s.1 (s.2.1 p).toNatClampNeg + 1 = nI (d + 1) := by
        rw [e1, nI_clamp (by omega), e2]
        exact nI_1 d
      rw [e3]
      have hne : ¬ nI (d + 1) = -1 := hm_neg (by omega)
      refine ⟨?_, fun p' hp' => ?_⟩
      · show hm_ct (upd s.1 t (nI (d + 1))) n = s.2.2 + 1
        rw [hm_ct_up e hne n ht, h.1]
      · have hp' : p' < s.2.2 + 1 := hp'
        by_cases e4 : p' = s.2.2
        · subst e4
          exact ⟨t, ht, pk_us, d + 1, by show d + 1 < s.2.2 + 1; omega, pk_us⟩
        · obtain ⟨q', hq', e5, d', hd', e6⟩ := h.2 p' (by omega)
          refine ⟨q', hq', ?_, d', by show d' < s.2.2 + 1; omega, ?_⟩
          · show upd s.2.1 s.2.2 (nI t) p' = nI q'
            rw [pk_un e4, e5]
          · show upd s.1 t (nI (d + 1)) q' = nI d'
            by_cases e7 : q' = t
            · subst e7
              rw [e6] at e
              exact absurd e (hm_neg (by omega))
            · rw [pk_un e7, e6]
  · exact h
theorem hm_bS_c (hz : Int32) (mi : Nat → Int32) (p t : Nat) (s : hm_B) : s.2.2 ≤ (hm_bS hz mi p t s).2.2 := by
  unfold hm_bS
  split
  · split
    · exact Nat.le_refl _
    · exact Nat.le_succ _
  · exact Nat.le_refl _
theorem hm_bq_I {hz : Int32} {mi : Nat → Int32} {n p : Nat} {s : hm_B} (hn : n ≤ 10) (h : hm_bI n s) (hp : p < s.2.2) : ∀ j, j ≤ n → hm_bI n (hm_bq hz mi p s j) ∧ p < (hm_bq hz mi p s j).2.2
  | 0, _ => ⟨h, hp⟩
  | j + 1, hj => by
    obtain ⟨h1, h2⟩ := hm_bq_I (hz := hz) (mi := mi) hn h hp j (by omega)
    rw [hm_bq_s]
    exact ⟨hm_bI_S hn h1 h2 (by omega), Nat.lt_of_lt_of_le h2 (hm_bS_c _ _ _ _ _)⟩
theorem hm_bp_I {hz : Int32} {mi : Nat → Int32} {n : Nat} {s : hm_B} (hn : n ≤ 10) (h : hm_bI n s) : ∀ j, hm_bI n (hm_bp hz mi n s j)
  | 0 => h
  | j + 1 => by
    have h1 := hm_bp_I (hz := hz) (mi := mi) hn h j
    rw [hm_bp_s]
    split
    · rename_i hp
      exact (hm_bq_I hn h1 hp n (Nat.le_refl _)).1
    · exact h1
theorem hm_bp_end {hz : Int32} {mi : Nat → Int32} {n : Nat} {s : hm_B} {p : Nat} (h : ¬ p < (hm_bp hz mi n s p).2.2) : ∀ j, hm_bp hz mi n s (p + j) = hm_bp hz mi n s p
  | 0 => rfl
  | j + 1 => by
    have ih := hm_bp_end h j
    rw [← Nat.add_assoc, hm_bp_s, ih, if_neg (by omega)]
/-- the fewest steps -/
def hm_fs (hz : Int32) (mi f g : Nat → Int32) (n i k : Nat) : Int32 := (hm_bp hz mi n (hm_b0 f g n i) n).1 k
theorem hm_nle {a b : Nat} (hb : b ≤ 1000) (ha : a ≤ 1000) (c : nI a ≤ nI b) : a ≤ b := Nat.le_of_not_lt (fun h => Int32.not_le.mpr (nI_lt h (by omega)) c)
theorem hm_nlt {a b : Nat} (hb : b ≤ 1000) (c : ¬ nI a ≤ nI b) : b < a := Nat.lt_of_not_le (fun h => c (nI_le h (by omega)))
