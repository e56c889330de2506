/-! WHAT HOLDS IS KEPT BY A MINUTE -/
section MK
variable {n B : Nat} {C : Nat → Nat → Int32} {G M : Nat → Int32}
theorem nI_sub1 {k : Nat} (h : 0 < k) : nI k - 1 = nI (k - 1) := by
  obtain ⟨j, rfl⟩ : ∃ j, k = j + 1 := ⟨k - 1, by omega⟩
  rw [nI_pred]
  rfl
theorem mn_l_w {i : Nat} (h5 : ¬ C i 5 = 0) : mn_l C G M n i = hb_fu (C i) 8 0 := by
  have hr : hb_rdy (C i) = 0 := by
    unfold hb_rdy
    rw [if_neg (fun q => h5 q.1)]
  have : mn_w C G M n i = 0 := by
    unfold mn_w
    rw [if_pos hr]
  unfold mn_l
  rw [if_pos this]
theorem mn_t_n {i : Nat} (h5 : ¬ C i 5 = 0) : mn_t C G M n i = 0 := by
  rcases mn_t01 C G M n i with z | z
  · exact z
  · exact absurd (mn_t_d (C := C) (G := G) (M := M) (n := n) (i := i) (by rw [z]; decide)).1 h5
theorem mn_C_d0 {i : Nat} (h5 : C i 5 = 0) (ht : mn_t C G M n i = 0) : mn_C C G M n i = hb_fu (mn_l C G M n i) 10 (C i 10 + mn_cn C i n) := by
  unfold mn_C mn_B mn_K mn_A
  rw [if_neg (by rw [h5]; decide), if_neg (by rw [h5]; decide), if_pos ht]
theorem mn_C_d1 {i : Nat} (h5 : C i 5 = 0) (ht : ¬ mn_t C G M n i = 0) : mn_C C G M n i = hb_fu (hb_kindleF (mn_l C G M n i) (mn_sr C G M n i)) 10 (C i 10 + mn_cn C i n) := by
  unfold mn_C mn_B mn_K mn_A
  rw [if_neg (by rw [h5]; decide), if_neg (by rw [h5]; decide), if_neg ht]
theorem mn_C_k {i : Nat} (h5 : C i 5 = 1) : mn_C C G M n i = hb_fu (if 0 < C i 7 - 1 then hb_fu (hb_fu (C i) 8 0) 7 (C i 7 - 1) else hb_fu (hb_fu (hb_fu (C i) 8 0) 7 (C i 7 - 1)) 5 2) 10 (C i 10 + mn_cn C i n) := by
  have h50 : ¬ C i 5 = 0 := by rw [h5]; decide
  have hA : mn_A C G M n i = hb_fu (C i) 8 0 := by
    unfold mn_A
    rw [if_pos (mn_t_n h50), mn_l_w h50]
  unfold mn_C mn_B mn_K
  rw [if_neg (by rw [h5]; decide), if_pos h5, hA]
theorem mn_C_b {i : Nat} (h5 : C i 5 = 2) : mn_C C G M n i = hb_fu (hb_burnF (hb_fu (C i) 8 0)) 10 (C i 10 + mn_cn C i n) := by
  have h50 : ¬ C i 5 = 0 := by rw [h5]; decide
  have hA : mn_A C G M n i = hb_fu (C i) 8 0 := by
    unfold mn_A
    rw [if_pos (mn_t_n h50), mn_l_w h50]
  unfold mn_C mn_B mn_K
  rw [if_pos h5, if_neg (by rw [h5]; decide), hA]
theorem mn_an01 (C : Nat → Nat → Int32) (k i : Nat) : mn_an C k i = 0 ∨ mn_an C k i = 1 := by
  unfold mn_an
  repeat (first | exact Or.inl rfl | exact Or.inr rfl | split)
theorem mn_cn_n (C : Nat → Nat → Int32) (i : Nat) : ∀ j, ∃ c : Nat, c ≤ j ∧ mn_cn C i j = nI c
  | 0 => ⟨0, Nat.le_refl 0, rfl⟩
  | j + 1 => by
    obtain ⟨c, hc, e⟩ := mn_cn_n C i j
    rw [mn_cn_s, e]
    rcases mn_an01 C j i with z | z
    · rw [z]; exact ⟨c, by omega, Int32.add_zero _⟩
    · rw [z]; exact ⟨c + 1, by omega, nI_1 c⟩
theorem iv_H_c {n B : Nat} {f g : Nat → Int32} (h : ∀ k, k ≠ 6 → f k = g k) (hg : iv_H n B g) : iv_H n B f := by
  unfold iv_H at hg ⊢
  rw [h 0 (by decide), h 1 (by decide), h 2 (by decide), h 5 (by decide), h 7 (by decide), h 8 (by decide), h 9 (by decide), h 10 (by decide)]
  exact hg
theorem mn_ivH (h : iv n B C G M) {i : Nat} (hi : i < n) : iv_H n (B + 10) (mn_C C G M n i) := by
  have hn := h.1
  obtain ⟨⟨k0, hk0, e0⟩, ⟨k1, hk1, e1⟩, ⟨k2, hk2, hk25, e2⟩, ⟨kA, hkA, eA⟩, hd⟩ := h.2.1 i hi
  obtain ⟨c, hc, ec⟩ := mn_cn_n C i n
  have e10 : ∃ k : Nat, k ≤ B + 10 ∧ C i 10 + mn_cn C i n = nI k := ⟨kA + c, by omega, by rw [eA, ec, nI_add]⟩
  rcases hd with ⟨h5, h7, h9, k8, m, e8, em, hkm, hm⟩ | ⟨h5, ⟨k7, h71, h710, e7⟩, h8, hs⟩ | ⟨h5, h7, h8, hs⟩
  · rcases mn_t01 C G M n i with ht | ht
    · rw [mn_C_d0 h5 ht]
      refine ⟨⟨k0, hk0, e0⟩, ⟨k1, hk1, e1⟩, ⟨k2, hk2, hk25, e2⟩, e10, Or.inl ⟨h5, h7, h9, ?_⟩⟩
      show ∃ k m' : Nat, (if mn_w C G M n i = 0 then 0 else C i 8 + 1) = nI k ∧ C i 2 = nI m' ∧ k < m' ∧ m' ≤ 5
      unfold mn_t at ht
      by_cases c1 : mn_w C G M n i = 0
      · rw [if_pos c1]
        exact ⟨0, m, rfl, em, by omega, hm⟩
      · rw [if_neg c1] at ht ⊢
        by_cases c2 : C i 8 + 1 < C i 2
        · rw [e8, em, nI_1] at c2
          have := (nI_ltI (by omega) (by omega)).mp c2
          exact ⟨k8 + 1, m, by rw [e8, nI_1], em, this, hm⟩
        · rw [if_neg c2] at ht
          exact absurd ht (by decide)
    · have ht' : ¬ mn_t C G M n i = 0 := by rw [ht]; decide
      have hw := (mn_t_d ht').2
      have hk00 : 0 < k0 := by
        rcases Nat.eq_zero_or_pos k0 with q | q
        · subst q
          rw [e0] at hw
          exact absurd hw (by decide)
        · exact q
      rw [mn_C_d1 h5 ht']
      refine ⟨⟨k0 - 1, by omega, ?_⟩, ⟨k1, hk1, e1⟩, ⟨k2, hk2, hk25, e2⟩, e10, Or.inr (Or.inl ⟨rfl, ⟨k1 + 1, by omega, by omega, ?_⟩, rfl, mn_sr_iv h hi⟩)⟩
      · show C i 0 - 1 = _
        rw [e0, nI_sub1 hk00]
      · show C i 1 + 1 = _
        rw [e1, nI_1]
  · rw [mn_C_k h5]
    have e71 : C i 7 - 1 = nI (k7 - 1) := by rw [e7, nI_sub1 (by omega)]
    by_cases c1 : 0 < C i 7 - 1
    · rw [if_pos c1]
      rw [e71] at c1
      have : 0 < k7 - 1 := (nI_ltI (a := 0) (by omega) (by omega)).mp c1
      exact ⟨⟨k0, hk0, e0⟩, ⟨k1, hk1, e1⟩, ⟨k2, hk2, hk25, e2⟩, e10, Or.inr (Or.inl ⟨h5, ⟨k7 - 1, by omega, by omega, e71⟩, rfl, hs⟩)⟩
    · rw [if_neg c1]
      have hk : k7 - 1 = 0 := by
        rcases Nat.eq_zero_or_pos (k7 - 1) with q | q
        · exact q
        · exact absurd (by rw [e71]; exact nI_lt (a := 0) q (by omega)) c1
      exact ⟨⟨k0, hk0, e0⟩, ⟨k1, hk1, e1⟩, ⟨k2, hk2, hk25, e2⟩, e10, Or.inr (Or.inr ⟨rfl, by show C i 7 - 1 = 0; rw [e71, hk]; rfl, rfl, hs⟩)⟩
  · rw [mn_C_b h5]
    have e00 : hb_fu (C i) 8 0 0 = C i 0 := rfl
    by_cases c1 : 0 < C i 0
    · have hk00 : 0 < k0 := by
        rcases Nat.eq_zero_or_pos k0 with q | q
        · subst q
          rw [e0] at c1
          exact absurd c1 (by decide)
        · exact q
      have eb : hb_burnF (hb_fu (C i) 8 0) = hb_fu (hb_fu (C i) 8 0) 0 (C i 0 - 1) := by
        unfold hb_burnF
        rw [if_pos (show 0 < hb_fu (C i) 8 0 0 from c1)]
        rfl
      rw [eb]
      refine ⟨⟨k0 - 1, by omega, ?_⟩, ⟨k1, hk1, e1⟩, ⟨k2, hk2, hk25, e2⟩, e10, Or.inr (Or.inr ⟨h5, h7, rfl, hs⟩)⟩
      show C i 0 - 1 = _
      rw [e0, nI_sub1 hk00]
    · have eb : hb_burnF (hb_fu (C i) 8 0) = hb_darkF (hb_fu (C i) 8 0) := by
        unfold hb_burnF
        rw [if_neg (show ¬ 0 < hb_fu (C i) 8 0 0 from c1)]
      rw [eb]
      exact ⟨⟨k0, hk0, e0⟩, ⟨k1, hk1, e1⟩, ⟨k2, hk2, hk25, e2⟩, e10, Or.inl ⟨rfl, rfl, rfl, 0, k2, rfl, e2, by omega, by omega⟩⟩
/-! how many are lit, how many of them by mistake -/
def mn_e (C : Nat → Nat → Int32) (G M : Nat → Int32) (n i : Nat) : Int32 := if mn_t C G M n i = 0 then 0 else if mn_sr C G M n i = -1 then 1 else 0
def mn_cl (C : Nat → Nat → Int32) (G M : Nat → Int32) (n : Nat) : Nat → Int32 := fun j => hb_it (fun i s => s + mn_t C G M n i) j 0
def mn_ce (C : Nat → Nat → Int32) (G M : Nat → Int32) (n : Nat) : Nat → Int32 := fun j => hb_it (fun i s => s + mn_e C G M n i) j 0
theorem mn_cl_s (C : Nat → Nat → Int32) (G M : Nat → Int32) (n j : Nat) : mn_cl C G M n (j + 1) = mn_cl C G M n j + mn_t C G M n j := rfl
theorem mn_ce_s (C : Nat → Nat → Int32) (G M : Nat → Int32) (n j : Nat) : mn_ce C G M n (j + 1) = mn_ce C G M n j + mn_e C G M n j := rfl
theorem mn_c_n (C : Nat → Nat → Int32) (G M : Nat → Int32) (n : Nat) : ∀ j, ∃ a b : Nat, b ≤ a ∧ a ≤ j ∧ mn_cl C G M n j = nI a ∧ mn_ce C G M n j = nI b
  | 0 => ⟨0, 0, Nat.le_refl 0, Nat.le_refl 0, rfl, rfl⟩
  | j + 1 => by
    obtain ⟨a, b, hab, ha, ea, eb⟩ := mn_c_n C G M n j
    rw [mn_cl_s, mn_ce_s, ea, eb]
    unfold mn_e
    rcases mn_t01 C G M n j with z | z
    · rw [z, if_pos rfl]
      exact ⟨a, b, hab, by omega, Int32.add_zero _, Int32.add_zero _⟩
    · rw [z, if_neg (by decide)]
      by_cases c : mn_sr C G M n j = -1
      · rw [if_pos c]
        exact ⟨a + 1, b + 1, by omega, by omega, nI_1 a, nI_1 b⟩
      · rw [if_neg c]
        exact ⟨a + 1, b, by omega, by omega, nI_1 a, Int32.add_zero _⟩
theorem mn_g_45 (C : Nat → Nat → Int32) (G M : Nat → Int32) (n : Nat) : ∀ j, mn_g C G M n j 4 = G 4 + mn_cl C G M n j ∧ mn_g C G M n j 5 = G 5 + mn_ce C G M n j
  | 0 => ⟨(Int32.add_zero _).symm, (Int32.add_zero _).symm⟩
  | j + 1 => by
    obtain ⟨h4, h5⟩ := mn_g_45 C G M n j
    rw [mn_g_s, mn_cl_s, mn_ce_s]
    unfold mn_e
    rcases mn_t01 C G M n j with z | z
    · rw [z, if_pos rfl, if_pos rfl, Int32.add_zero, Int32.add_zero]
      exact ⟨h4, h5⟩
    · rw [z, if_neg (by decide), if_neg (by decide)]
      unfold hb_kG
      by_cases c : mn_sr C G M n j = -1
      · rw [if_pos c, if_pos c]
        refine ⟨?_, ?_⟩
        · show mn_g C G M n j 4 + 1 = _
          rw [h4, Int32.add_assoc]
        · show mn_g C G M n j 5 + 1 = _
          rw [h5, Int32.add_assoc]
      · rw [if_neg c, if_neg c, Int32.add_zero]
        refine ⟨?_, h5⟩
        show mn_g C G M n j 4 + 1 = _
        rw [h4, Int32.add_assoc]
theorem mn_G_4 (h : iv n B C G M) : hb_poG C G M n 4 = G 4 + mn_cl C G M n n := by
  rw [mn_poG h]
  split
  · exact (mn_g_45 C G M n n).1
  · exact (mn_g_45 C G M n n).1
theorem mn_G_5 (h : iv n B C G M) : hb_poG C G M n 5 = G 5 + mn_ce C G M n n := by
  rw [mn_poG h]
  split
  · exact (mn_g_45 C G M n n).2
  · exact (mn_g_45 C G M n n).2
theorem mn_iv (h : iv n B C G M) : iv n (B + 10) (hb_poC C G M n) (hb_poG C G M n) M := by
  obtain ⟨hn, hH, hF, ⟨g0, g1, ⟨k2, hk2, g2⟩, a, b, hab, ha, g4, g5⟩, hM⟩ := h
  have h : iv n B C G M := ⟨hn, hH, hF, ⟨g0, g1, ⟨k2, hk2, g2⟩, a, b, hab, ha, g4, g5⟩, hM⟩
  refine ⟨hn, fun i hi => iv_H_c (fun k hk => mn_po h hi hk) (mn_ivH h hi), fun i hi hi10 => mn_po_F h hi hi10 (hF i hi hi10), ⟨?_, ?_, ?_, ?_⟩, hM⟩
  · rw [hb_poG_0 0 (by decide) (by decide) (by decide) (by decide)]; exact g0
  · rw [hb_poG_0 1 (by decide) (by decide) (by decide) (by decide)]; exact g1
  · rw [mn_poG h]
    by_cases c : G 2 ≤ 0
    · rw [if_pos c]
      refine ⟨k2, hk2, ?_⟩
      show mn_g C G M n n 2 = _
      rw [mn_g_0 2 (by decide) (by decide), g2]
    · rw [if_neg c]
      have hp : 0 < k2 := by
        rcases Nat.eq_zero_or_pos k2 with q | q
        · subst q
          rw [g2] at c
          exact absurd (by decide) c
        · exact q
      refine ⟨k2 - 1, by omega, ?_⟩
      show G 2 - 1 = _
      rw [g2, nI_sub1 hp]
  · obtain ⟨p, q, hpq, hp, e1, e2⟩ := mn_c_n C G M n n
    refine ⟨a + p, b + q, by omega, by omega, ?_, ?_⟩
    · rw [mn_G_4 h, g4, e1, nI_add]
    · rw [mn_G_5 h, g5, e2, nI_add]
theorem hb_pm_iv (h : iv n B C G M) : ∀ j, iv n (B + 10 * j) (hb_pm C G M n j).1 (hb_pm C G M n j).2 M
  | 0 => h
  | j + 1 => by
    have ih := mn_iv (hb_pm_iv h j)
    rw [hb_pm_s]
    rw [show B + 10 * (j + 1) = B + 10 * j + 10 by omega]
    exact ih
end MK
