/-! counting bits, how far a signal goes, the best hill -/
theorem bc_all : ∀ n, n < 11 → ∀ k, k < 2 ^ n → hb_bitc (nI k) = hm_su (nI k) n ∧ (0 < k → 0 < hm_su (nI k) n) := by decide +kernel
theorem bc_or : ∀ j, j < 10 → ∀ k, k < 1024 → nI k ||| (1 <<< (nI j &&& 31)) = nI (k ||| 2 ^ j) := by decide +kernel
/-- a set of hills below n, i among them where t says so -/
def hm_Z (n i : Nat) (t : Prop) (x : Int32) : Prop := ∃ k, k < 2 ^ n ∧ (t → k.testBit i = true) ∧ x = nI k
theorem hm_Z_or {n i j : Nat} {t : Prop} {x : Int32} (hn : n ≤ 10) (hj : j < n) (h : hm_Z n i t x) : hm_Z n i (t ∨ j = i) (x ||| (1 <<< (nI j &&& 31))) := by
  obtain ⟨k, hk, ht, e⟩ := h
  have h2 : 2 ^ j < 2 ^ n := Nat.pow_lt_pow_right (by decide) hj
  have h3 : 2 ^ n ≤ 2 ^ 10 := Nat.pow_le_pow_right (by decide) hn
  refine ⟨k ||| 2 ^ j, Nat.or_lt_two_pow hk h2, fun q => ?_, ?_⟩
  · rw [Nat.testBit_or]
    rcases q with q | q
    · rw [ht q]; rfl
    · subst q
      rw [Nat.testBit_two_pow_self, Bool.or_true]
  · rw [e, bc_or j (by omega) k (by omega)]
theorem hm_Z_w {n i : Nat} {t u : Prop} {x : Int32} (h : hm_Z n i t x) (hut : u → t) : hm_Z n i u x := by
  obtain ⟨k, hk, ht, e⟩ := h
  exact ⟨k, hk, fun q => ht (hut q), e⟩
theorem hm_Z_sn {N : Nat → Nat → Int32} {n i : Nat} {src : Int32} {t : Prop} {s0 : Int32} (hn : n ≤ 10) (h : hm_Z n i t s0) : ∀ j, j ≤ n → hm_Z n i (t ∨ (i < j ∧ N i 1 = 2 ∧ N i 4 = src)) (hm_sn N src s0 j)
  | 0, _ => hm_Z_w h (fun q => q.elim id (fun q => absurd q.1 (by omega)))
  | j + 1, hj => by
    have ih := hm_Z_sn (N := N) (src := src) hn h j (by omega)
    rw [hm_sn_s]
    by_cases c1 : N j 1 = 2
    · rw [if_pos c1]
      by_cases c2 : N j 4 = src
      · rw [if_pos c2]
        refine hm_Z_w (hm_Z_or hn (by omega) ih) (fun q => ?_)
        rcases q with q | ⟨q1, q2, q3⟩
        · exact Or.inl (Or.inl q)
        · by_cases e : i = j
          · exact Or.inr e.symm
          · exact Or.inl (Or.inr ⟨by omega, q2, q3⟩)
      · rw [if_neg c2]
        refine hm_Z_w ih (fun q => ?_)
        rcases q with q | ⟨q1, q2, q3⟩
        · exact Or.inl q
        · exact Or.inr ⟨by
            have : i ≠ j := fun e => by subst e; exact c2 q3
            omega, q2, q3⟩
    · rw [if_neg c1]
      refine hm_Z_w ih (fun q => ?_)
      rcases q with q | ⟨q1, q2, q3⟩
      · exact Or.inl q
      · exact Or.inr ⟨by
          have : i ≠ j := fun e => by subst e; exact c1 q2
          omega, q2, q3⟩
section REACH
variable {n : Nat} {C : Nat → Nat → Int32} {G M S : Nat → Int32} {N a : Nat → Nat → Int32}
theorem hm_Z_rc (hn : n ≤ 10) {i : Nat} (hi : i < n) : ∀ j, hm_Z n i (∃ k, k < j ∧ (hm_pm S N a n (k + 1)).2.1 i 1 = 2 ∧ (hm_pm S N a n (k + 1)).2.1 i 4 = nI i) (hm_rc S N a n i j)
  | 0 => ⟨0, Nat.pow_pos (by decide), fun ⟨k, hk, _⟩ => absurd hk (by omega), rfl⟩
  | j + 1 => by
    have ih := hm_Z_rc hn hi j
    rw [hm_rc_s]
    refine hm_Z_w (hm_Z_sn (N := (hm_pm S N a n (j + 1)).2.1) (src := nI i) hn ih n (Nat.le_refl n)) (fun ⟨k, hk, q1, q2⟩ => ?_)
    by_cases e : k = j
    · subst e
      exact Or.inr ⟨hi, q1, q2⟩
    · exact Or.inl ⟨k, by omega, q1, q2⟩
/-- a hill that is kindled goes its way, whatever the others do -/
theorem hm_m2_k {i : Nat} (hb : a 8 i ≠ 0) : ∀ j, (hm_m2 S N a n j).2 i = N i
  | 0 => rfl
  | j + 1 => by
    rw [hm_m2_s]
    split
    · rename_i c
      have e : i ≠ j := fun e => hb (e ▸ c)
      unfold hm_lk
      split
      · show va_up (α := Nat → Int32) _ j _ i = _
        rw [va_up_ne _ _ e]
        exact hm_m2_k hb j
      · show va_up (α := Nat → Int32) _ j _ i = _
        rw [va_up_ne _ _ e]
        exact hm_m2_k hb j
    · exact hm_m2_k hb j
theorem hm_sb_k {po : Int32} {h i w : Nat} (hw : w ≠ 1) (hw5 : w ≠ 5) : hm_sb N po h i w = N i w := by
  have b1 : va_up N h (hb_fu (N h) 1 2) i w = N i w := by
    by_cases e : i = h
    · subst e; rw [va_up_self, hb_fu_eq, if_neg hw]
    · rw [va_up_ne _ _ e]
  unfold hm_sb
  split
  · exact b1
  · split
    · exact b1
    · by_cases e : i = (N h 4).toNatClampNeg
      · rw [e, va_up_self, hb_fu_eq, if_neg hw5, ← e]
        exact b1
      · rw [va_up_ne _ _ e]
        exact b1
theorem hm_sb_1 {po : Int32} {h i : Nat} : hm_sb N po h i 1 = if i = h then 2 else N i 1 := by
  have b1 : va_up N h (hb_fu (N h) 1 2) i 1 = if i = h then 2 else N i 1 := by
    by_cases e : i = h
    · subst e; rw [va_up_self, if_pos rfl]; rfl
    · rw [va_up_ne _ _ e, if_neg e]
  unfold hm_sb
  split
  · exact b1
  · split
    · exact b1
    · by_cases e : i = (N h 4).toNatClampNeg
      · rw [← b1, e, va_up_self]
        rfl
      · rw [va_up_ne _ _ e]
        exact b1
theorem hm_m3_k {i : Nat} (hb : a 8 i = 1) : ∀ j, hm_m3 N a j i 4 = N i 4 ∧ (hm_m3 N a j i 1 = if i < j then (if 0 < N i 2 - 1 then N i 1 else 2) else N i 1) ∧ (hm_m3 N a j i 2 = if i < j then N i 2 - 1 else N i 2)
  | 0 => by
    rw [if_neg (by omega), if_neg (by omega)]
    exact ⟨rfl, rfl, rfl⟩
  | j + 1 => by
    obtain ⟨h4, h1, h2⟩ := hm_m3_k hb j
    rw [hm_m3_s]
    by_cases e : i = j
    · subst e
      rw [if_neg (by omega)] at h1 h2
      have hlt : i < i + 1 := Nat.lt_succ_self i
      rw [if_pos hb, if_pos hlt, if_pos hlt, h2]
      by_cases c : 0 < N i 2 - 1
      · rw [if_pos c, if_pos c, va_up_self]
        exact ⟨h4, h1, rfl⟩
      · rw [if_neg c, if_neg c, hm_sb_k (w := 4) (by decide) (by decide), hm_sb_k (w := 2) (by decide) (by decide), hm_sb_1, if_pos rfl, va_up_self]
        exact ⟨h4, rfl, rfl⟩
    · have i1 : (i < j + 1) ↔ (i < j) := by omega
      simp only [i1]
      split
      · split
        · rw [va_up_ne _ _ e]
          exact ⟨h4, h1, h2⟩
        · rw [hm_sb_k (w := 4) (by decide) (by decide), hm_sb_k (w := 2) (by decide) (by decide), hm_sb_1, if_neg e, va_up_ne _ _ e]
          exact ⟨h4, h1, h2⟩
      · exact ⟨h4, h1, h2⟩
theorem hm_m4_k {i : Nat} (hb : a 8 i = 1) : ∀ j, hm_m4 N a j i = N i
  | 0 => rfl
  | j + 1 => by
    rw [hm_m4_s]
    split
    · rename_i c
      have e : i ≠ j := fun e => by rw [← e, hb] at c; exact absurd c (by decide)
      split
      · rw [va_up_ne _ _ e]; exact hm_m4_k hb j
      · rw [va_up_ne _ _ e]; exact hm_m4_k hb j
    · exact hm_m4_k hb j
theorem hm_mN_k {i : Nat} (hi : i < n) (h1 : N i 1 = 1) : hm_mN S N a n i 4 = N i 4 ∧ (hm_mN S N a n i 1 = if 0 < N i 2 - 1 then 1 else 2) ∧ hm_mN S N a n i 2 = N i 2 - 1 := by
  have hb : hm_mA N a n 8 i = 1 := by
    show hm_m1 N (a 8) n i = 1
    rw [hm_m1_v, if_pos hi, h1]
  obtain ⟨q4, q1, q2⟩ := hm_m3_k (N := (hm_m2 S N (hm_mA N a n) n n).2) hb n
  rw [if_pos hi] at q1 q2
  rw [hm_m2_k (by rw [hb]; decide) n] at q4 q1 q2
  unfold hm_mN
  rw [hm_m4_k hb n, q4, q1, q2, h1]
  exact ⟨rfl, rfl, rfl⟩
theorem hm_pm_k {i d : Nat} (hi : i < n) (hd : d < 1000) (h1 : N i 1 = 1) (h2 : N i 2 = nI (d + 1)) : ∀ j, j ≤ d → (hm_pm S N a n j).2.1 i 4 = N i 4 ∧ (hm_pm S N a n j).2.1 i 1 = 1 ∧ (hm_pm S N a n j).2.1 i 2 = nI (d + 1 - j)
  | 0, _ => ⟨rfl, h1, h2⟩
  | j + 1, hj => by
    obtain ⟨q4, q1, q2⟩ := hm_pm_k hi hd h1 h2 j (by omega)
    obtain ⟨r4, r1, r2⟩ := hm_mN_k (S := (hm_pm S N a n j).1) (N := (hm_pm S N a n j).2.1) (a := va_up a 8 (hm_pm S N a n j).2.2) hi q1
    rw [q2, nI_sub1 (by omega)] at r1 r2
    rw [hm_pm_s]
    refine ⟨r4.trans q4, r1.trans (if_pos (nI_lt (a := 0) (by omega) (by omega))), r2.trans ?_⟩
    rw [show d + 1 - j - 1 = d + 1 - (j + 1) by omega]
theorem hm_pm_b {i d : Nat} (hi : i < n) (hd : d < 1000) (h1 : N i 1 = 1) (h2 : N i 2 = nI (d + 1)) : (hm_pm S N a n (d + 1)).2.1 i 1 = 2 ∧ (hm_pm S N a n (d + 1)).2.1 i 4 = N i 4 := by
  obtain ⟨q4, q1, q2⟩ := hm_pm_k (S := S) (a := a) hi hd h1 h2 d (Nat.le_refl d)
  obtain ⟨r4, r1, r2⟩ := hm_mN_k (S := (hm_pm S N a n d).1) (N := (hm_pm S N a n d).2.1) (a := va_up a 8 (hm_pm S N a n d).2.2) hi q1
  rw [q2, show d + 1 - d = 0 + 1 by omega, nI_sub1 (by omega)] at r1
  rw [hm_pm_s]
  exact ⟨r1.trans (if_neg (by decide)), r4.trans q4⟩
/-- how far a signal would go is the same, and it goes somewhere -/
theorem hm_R_re (h : hm_R n C G M S N a) {i : Nat} (hi : i < n) (hr : N i 1 = 0 ∧ 0 < N i 0) (D : Nat → Nat → Int32) (G2 M2 : Nat → Int32) : hb_tr D G2 M2 C G M n i = hm_re S N a n i ∧ 0 < hm_re S N a n i := by
  have hn := h.1
  have h1 : hm_R n (hb_hC (hb_cpC D C 10) i) (hb_kG (hb_cpG G2 G) (nI i)) (hb_cpM M2 M 10) (hm_kS S (nI i)) (hm_lN N i) (hm_ka S N a) := hm_R_light (hm_R_cp h D G2 M2) hi hr
  obtain ⟨-, -, -, -, -, g6, -, -, -, -, ⟨d, hd, gk1⟩, -⟩ := h.2.1 i hi
  have l1 : hm_lN N i i 1 = 1 := by unfold hm_lN; rw [va_up_self]; rfl
  have l2 : hm_lN N i i 2 = nI (d + 1) := by
    unfold hm_lN
    rw [va_up_self]
    show N i 6 + 1 = _
    rw [g6, gk1]
    exact nI_1 d
  have l4 : hm_lN N i i 4 = nI i := by unfold hm_lN; rw [va_up_self]; rfl
  obtain ⟨b1, b4⟩ := hm_pm_b (S := hm_kS S (nI i)) (a := hm_ka S N a) hi (by omega) l1 l2
  obtain ⟨k, hk, ht, e⟩ := hm_Z_rc (S := hm_kS S (nI i)) (N := hm_lN N i) (a := hm_ka S N a) hn hi 100
  have hbit := ht ⟨d, by omega, b1, b4.trans l4⟩
  have hk0 : 0 < k := by
    rcases Nat.eq_zero_or_pos k with q | q
    · subst q
      rw [Nat.zero_testBit] at hbit
      cases hbit
    · exact q
  obtain ⟨c1, c2⟩ := bc_all n (by omega) k hk
  unfold hb_tr hm_re
  rw [hm_R_rc h1 i 100, e]
  exact ⟨c1, c2 hk0⟩
theorem hm_R_bh (h : hm_R n C G M S N a) {R : Nat → Int32} (hR : ∀ i, i < n → N i 1 = 0 ∧ 0 < N i 0 → 0 < R i) : ∀ j, j ≤ n → 0 ≤ (hb_bh C R j).2 ∧ (hb_bh C R j = hm_bh N R j ∨ (hb_bh C R j = (-1, 0) ∧ hm_bh N R j = (-1, -1)))
  | 0, _ => ⟨(by decide : (0 : Int32) ≤ 0), Or.inr ⟨rfl, rfl⟩⟩
  | j + 1, hj => by
    obtain ⟨h0, ih⟩ := hm_R_bh h hR j (by omega)
    have hH := h.2.1 j (by omega)
    have hrd := hm_rdy hH
    obtain ⟨g0, g1, -, -, -, -, -, -, -, ⟨k0, hk0, gk0⟩, -⟩ := hH
    rw [hb_bh_s, hm_bh_s]
    by_cases c : N j 1 = 0 ∧ 0 < N j 0
    · have hp := hR j (by omega) c
      have hz : ¬ N j 0 = 0 := fun e => by
        have := c.2
        rw [e] at this
        exact absurd this (by decide)
      rw [if_neg (fun e => hrd.mp e c), if_pos c.1, if_neg hz]
      rcases ih with e | ⟨e1, e2⟩
      · rw [← e]
        by_cases q : R j ≤ (hb_bh C R j).2
        · rw [if_pos q]
          exact ⟨h0, Or.inl rfl⟩
        · rw [if_neg q]
          exact ⟨Int32.le_of_lt hp, Or.inl rfl⟩
      · rw [e1, e2, if_neg (Int32.not_le.mpr hp), if_neg (fun q => absurd (Int32.lt_of_lt_of_le hp q) (by decide))]
        exact ⟨Int32.le_of_lt hp, Or.inl rfl⟩
    · rw [if_pos (hrd.mpr c), if_pos h0]
      have e : (if N j 1 = 0 then (if N j 0 = 0 then hm_bh N R j else if R j ≤ (hm_bh N R j).2 then hm_bh N R j else (nI j, R j)) else hm_bh N R j) = hm_bh N R j := by
        by_cases q1 : N j 1 = 0
        · rw [if_pos q1]
          have q2 : N j 0 = 0 := by
            rcases Nat.eq_zero_or_pos k0 with q | q
            · rw [g0, gk0, q]; rfl
            · exact absurd ⟨q1, by rw [g0, gk0]; exact nI_lt (a := 0) q (by omega)⟩ c
          rw [if_pos q2]
        · rw [if_neg q1]
      rw [e]
      exact ⟨h0, ih⟩
theorem hm_R_best (h : hm_R n C G M S N a) {R : Nat → Int32} (hR : ∀ i, i < n → N i 1 = 0 ∧ 0 < N i 0 → 0 < R i) : (hb_bh C R n).1 = (hm_bh N R n).1 := by
  rcases (hm_R_bh h hR n (Nat.le_refl n)).2 with e | ⟨e1, e2⟩
  · rw [e]
  · rw [e1, e2]
end REACH
