/-! the minute: those who kindle, those who burn; the whole minute -/
theorem hb_fu_at (f : Nat → Int32) (j : Nat) (v : Int32) : hb_fu f j v j = v := by rw [hb_fu_eq, if_pos rfl]
theorem hm_sbP {n : Nat} {b : Nat → Int32} {a C N : Nat → Nat → Int32} (hn : n ≤ 10) (h : hm_P n b a C N) {j : Nat} (hj : j < n) (h5 : C j 5 = 1) : hm_P n b a (hb_sb C j) (hm_sb N (a 4 j) j) ∧ (∀ k, k ≠ j → hb_sb C j k 5 = C k 5) ∧ ∀ k, n ≤ k → hb_sb C j k = C k ∧ hm_sb N (a 4 j) j k = N k := by
  obtain ⟨⟨g0, g1, g2, g3, g5, g6, gw, ge, gp, gk0, gk1, gf2, gd⟩, h6⟩ := h j hj
  have hd : C j 8 = 0 ∧ N j 4 = C j 9 ∧ (C j 9 = -1 ∨ ∃ s, s < n ∧ C j 9 = nI s) := by
    rcases gd with ⟨x, -, -⟩ | ⟨-, x⟩
    · rw [h5] at x; exact absurd x (by decide)
    · exact x
  obtain ⟨d8, d4, dS⟩ := hd
  have h1 : hm_P n b a (va_up C j (hb_fu (C j) 5 2)) (va_up N j (hb_fu (N j) 1 2)) := hm_P_up h j (fun _ => ⟨⟨g0, rfl, g2, g3, g5, g6, gw, ge, gp, gk0, gk1, gf2, Or.inr ⟨Or.inr rfl, d8, d4, dS⟩⟩, h6⟩)
  have base : hm_P n b a (va_up C j (hb_fu (C j) 5 2)) (va_up N j (hb_fu (N j) 1 2)) ∧ (∀ k, k ≠ j → va_up C j (hb_fu (C j) 5 2) k 5 = C k 5) ∧ ∀ k, n ≤ k → va_up C j (hb_fu (C j) 5 2) k = C k ∧ va_up N j (hb_fu (N j) 1 2) k = N k := ⟨h1, fun k hk => by rw [va_up_ne _ _ hk], fun k hk => by rw [va_up_ne _ _ (by omega), va_up_ne _ _ (by omega)]; exact ⟨rfl, rfl⟩⟩
  unfold hb_sb hm_sb
  rw [gp]
  by_cases c1 : hb_zb (C j 4) = 0
  · rw [if_pos c1, if_pos c1]
    exact base
  · rw [if_neg c1, if_neg c1, d4]
    by_cases c2 : C j 9 = -1
    · rw [if_pos c2, if_pos c2]
      exact base
    · rw [if_neg c2, if_neg c2]
      rcases dS with q | ⟨s, hs, q⟩
      · exact absurd q c2
      · rw [q, hb_hx_nI (by omega), nI_clamp (by omega)]
        generalize va_up C j (hb_fu (C j) 5 2) = C1 at base ⊢
        generalize va_up N j (hb_fu (N j) 1 2) = N1 at base ⊢
        obtain ⟨hP, hk5, hk⟩ := base
        refine ⟨hm_P_up hP s (fun _ => ?_), fun k hkj => ?_, fun k hkn => ?_⟩
        · obtain ⟨⟨f0, f1, f2, f3, f5, f6, fw, fe, fp, fk0, fk1, ff2, fd⟩, x6⟩ := hP s hs
          exact ⟨⟨f0, f1, f2, f3, congrArg (fun z => z + 1) f5, f6, fw, fe, fp, fk0, fk1, ff2, fd⟩, x6⟩
        · by_cases e : k = s
          · subst e
            rw [va_up_self]
            exact hk5 k hkj
          · rw [va_up_ne _ _ e]
            exact hk5 k hkj
        · rw [va_up_ne _ _ (by omega), va_up_ne _ _ (by omega)]
          exact hk k hkn
section MINB
variable {n : Nat} {b : Nat → Int32} {C N a : Nat → Nat → Int32}
theorem hm_koP (hn : n ≤ 10) (h : hm_P n b a C N) (hw : ∀ k, k < n → a 8 k = b k) (h1 : ∀ k, k < n → b k = 1 → C k 5 = 1) (j : Nat) (hj : j ≤ n) : hm_P n b a (hb_ko C j) (hm_m3 N a j) ∧ (∀ k, j ≤ k → k < n → b k = 1 → hb_ko C j k 5 = 1) ∧ ∀ k, n ≤ k → hb_ko C j k = C k ∧ hm_m3 N a j k = N k := by
  induction j with
  | zero => exact ⟨h, fun k _ hk hb => h1 k hk hb, fun k _ => ⟨rfl, rfl⟩⟩
  | succ j ih =>
    have hjn : j < n := by omega
    obtain ⟨p1, p2, p3⟩ := ih (by omega)
    obtain ⟨⟨g0, g1, g2, g3, g5, g6, gw, ge, gp, gk0, gk1, gf2, gd⟩, x6⟩ := p1 j hjn
    rw [hb_ko_s, hm_m3_s, x6, hw j hjn]
    by_cases c1 : b j = 1
    · rw [if_pos c1, if_pos c1, g2]
      have q1 : hm_P n b a (va_up (hb_ko C j) j (hb_fu (hb_ko C j j) 7 (hb_ko C j j 7 - 1))) (va_up (hm_m3 N a j) j (hb_fu (hm_m3 N a j j) 2 (hb_ko C j j 7 - 1))) := hm_P_up p1 j (fun _ => ⟨⟨g0, g1, (hb_fu_at _ 2 _).trans (hb_fu_at _ 7 _).symm, g3, g5, g6, gw, ge, gp, gk0, gk1, gf2, gd⟩, x6⟩)
      have q5 : ∀ k, k ≠ j → va_up (hb_ko C j) j (hb_fu (hb_ko C j j) 7 (hb_ko C j j 7 - 1)) k 5 = hb_ko C j k 5 := fun k hk => by rw [va_up_ne _ _ hk]
      have q3 : ∀ k, n ≤ k → va_up (hb_ko C j) j (hb_fu (hb_ko C j j) 7 (hb_ko C j j 7 - 1)) k = C k ∧ va_up (hm_m3 N a j) j (hb_fu (hm_m3 N a j j) 2 (hb_ko C j j 7 - 1)) k = N k := fun k hk => by
        rw [va_up_ne _ _ (by omega), va_up_ne _ _ (by omega)]
        exact p3 k hk
      have qj : va_up (hb_ko C j) j (hb_fu (hb_ko C j j) 7 (hb_ko C j j 7 - 1)) j 5 = 1 := by
        rw [va_up_self]
        exact p2 j (Nat.le_refl j) hjn c1
      by_cases c2 : 0 < hb_ko C j j 7 - 1
      · rw [if_pos c2, if_pos c2]
        exact ⟨q1, fun k hk hkn hb => (q5 k (by omega)).trans (p2 k (by omega) hkn hb), q3⟩
      · rw [if_neg c2, if_neg c2]
        obtain ⟨r1, r2, r3⟩ := hm_sbP hn q1 hjn qj
        exact ⟨r1, fun k hk hkn hb => (r2 k (by omega)).trans ((q5 k (by omega)).trans (p2 k (by omega) hkn hb)), fun k hk => ⟨(r3 k hk).1.trans (q3 k hk).1, (r3 k hk).2.trans (q3 k hk).2⟩⟩
    · rw [if_neg c1, if_neg c1]
      exact ⟨p1, fun k hk hkn hb => p2 k (by omega) hkn hb, p3⟩
theorem hm_boP (hn : n ≤ 10) (h : hm_P n b a C N) (hw : ∀ k, k < n → a 8 k = b k) : ∀ j, j ≤ n → hm_P n b a (hb_bo C j) (hm_m4 N a j) ∧ ∀ k, n ≤ k → hb_bo C j k = C k ∧ hm_m4 N a j k = N k
  | 0, _ => ⟨h, fun k _ => ⟨rfl, rfl⟩⟩
  | j + 1, hj => by
    have hjn : j < n := by omega
    obtain ⟨p1, p3⟩ := hm_boP hn h hw j (by omega)
    obtain ⟨⟨g0, g1, g2, g3, g5, g6, gw, ge, gp, ⟨k0, hk0, gk0⟩, gk1, gf2, gd⟩, x6⟩ := p1 j hjn
    rw [hb_bo_s, hm_m4_s, x6, hw j hjn]
    by_cases c1 : b j = 2
    · rw [if_pos c1, if_pos c1, g0]
      have q3 : ∀ (f g : Nat → Int32) (k : Nat), n ≤ k → va_up (hb_bo C j) j f k = C k ∧ va_up (hm_m4 N a j) j g k = N k := fun f g k hk => by
        rw [va_up_ne _ _ (by omega), va_up_ne _ _ (by omega)]
        exact p3 k hk
      unfold hb_burnF
      rcases Nat.eq_zero_or_pos k0 with q | q
      · subst q
        rw [if_neg (show ¬ 0 < hb_bo C j j 0 from by rw [gk0]; decide), if_pos (show hb_bo C j j 0 = 0 from gk0)]
        exact ⟨hm_P_up p1 j (fun _ => ⟨⟨g0, rfl, rfl, g3, g5, g6, gw, ge, gp, ⟨0, hk0, gk0⟩, gk1, gf2, Or.inl ⟨rfl, rfl, rfl⟩⟩, x6⟩), q3 _ _⟩
      · have hp : 0 < hb_bo C j j 0 := by rw [gk0]; exact nI_lt (a := 0) q (by omega)
        rw [if_pos hp, if_neg (fun e => absurd (e ▸ hp) (by decide))]
        refine ⟨hm_P_up p1 j (fun _ => ⟨⟨(hb_fu_at _ 0 _).trans (hb_fu_at _ 0 _).symm, g1, g2, g3, g5, g6, gw, ge, gp, ⟨k0 - 1, by omega, ?_⟩, gk1, gf2, gd⟩, x6⟩), q3 _ _⟩
        show hb_bo C j j 0 - 1 = nI (k0 - 1)
        rw [gk0, nI_sub1 q]
    · rw [if_neg c1, if_neg c1]
      exact ⟨p1, p3⟩
end MINB
/-- a hill that isn't there yet -/
def hm_F (f g : Nat → Int32) (e p : Int32) : Prop := f 5 = 0 ∧ f 7 = 0 ∧ f 8 = 0 ∧ f 9 = -2 ∧ f 10 = 0 ∧ hb_zb (f 3) = 0 ∧ hb_zb (f 4) = 0 ∧ g 1 = 0 ∧ g 2 = 0 ∧ g 3 = 0 ∧ g 4 = 0 ∧ g 5 = 0 ∧ hb_zb e = 0 ∧ hb_zb p = 0
/-- THE RELATION of the class and the reference -/
def hm_R (n : Nat) (C : Nat → Nat → Int32) (G M S : Nat → Int32) (N a : Nat → Nat → Int32) : Prop := n ≤ 10 ∧ (∀ k, k < n → hm_H n (C k) (N k) (a 2 k) (a 3 k) (a 4 k)) ∧ hm_G n G S ∧ hm_V M (a 5) ∧ ∀ k, n ≤ k → k < 10 → hm_F (C k) (N k) (a 3 k) (a 4 k)
theorem hm_R_so {n : Nat} {C : Nat → Nat → Int32} {G M S : Nat → Int32} {N a : Nat → Nat → Int32} (h : hm_R n C G M S N a) : hm_so N := by
  obtain ⟨hn, hH, -, -, hF⟩ := h
  intro k hk
  rcases Nat.lt_or_ge k n with q | q
  · obtain ⟨-, -, -, -, -, -, -, -, -, -, -, -, hd⟩ := hH k q
    rcases hd with ⟨-, -, x⟩ | ⟨-, -, x, y | ⟨s, hs, y⟩⟩
    · exact Or.inl x
    · exact Or.inl (x.trans y)
    · exact Or.inr ⟨s, by omega, x.trans y⟩
  · obtain ⟨-, -, -, -, -, -, -, -, -, -, x, -⟩ := hF k q hk
    exact Or.inr ⟨0, by decide, x⟩
theorem hm_glow {n : Nat} {G S : Nat → Int32} (h : hm_G n G S) : hm_G n (if G 2 ≤ 0 then hb_fu G 3 (G 3 + 1) else hb_fu (hb_fu G 2 (G 2 - 1)) 3 (G 3 + 1)) (hm_mG S) := by
  obtain ⟨h0, h1, h2, h3, h4, h5, k, hk, h6⟩ := h
  rcases Nat.eq_zero_or_pos k with q | q
  · subst q
    rw [if_pos (show G 2 ≤ 0 by rw [h6]; decide)]
    refine ⟨h0, h1, ?_, congrArg (fun z => z + 1) h3, h4, h5, 0, hk, h6⟩
    show (if 0 < S 1 - 1 then S 1 - 1 else 0) = G 2
    rw [h2, h6]
    decide
  · rw [if_neg (show ¬ G 2 ≤ 0 from Int32.not_le.mpr (by rw [h6]; exact nI_lt (a := 0) q (by omega)))]
    refine ⟨h0, h1, ?_, congrArg (fun z => z + 1) h3, h4, h5, k - 1, by omega, ?_⟩
    · show (if 0 < S 1 - 1 then S 1 - 1 else 0) = G 2 - 1
      rw [h2, h6, nI_sub1 q]
      rcases Nat.eq_zero_or_pos (k - 1) with r | r
      · rw [r]; decide
      · rw [if_pos (show (0 : Int32) < nI (k - 1) from nI_lt (a := 0) r (by omega))]
    · show G 2 - 1 = _
      rw [h6, nI_sub1 q]
/-- A MINUTE is the same on both sides -/
theorem hm_R_min {n : Nat} {C : Nat → Nat → Int32} {G M S : Nat → Int32} {N a : Nat → Nat → Int32} (h : hm_R n C G M S N a) : hm_R n (hb_poC C G M n) (hb_poG C G M n) M (hm_mS S N a n) (hm_mN S N a n) a := by
  obtain ⟨hn, hH, hG, hV, hF⟩ := h
  obtain ⟨jA, jB, jC, -⟩ := hm_asJ (S := S) hn hH hG hV n (Nat.le_refl n)
  have hw : ∀ k, k < n → hm_mA N a n 8 k = C k 5 := fun k hk => by
    show hm_m1 N (a 8) n k = C k 5
    rw [hm_m1_v, if_pos hk]
    exact (hH k hk).2.1
  have p3 : hm_P n (fun k => C k 5) (hm_mA N a n) (hb_p3 C G M n).1 (hm_m2 S N (hm_mA N a n) n n).2 := fun k hk => ⟨(jB k hk).1, (jB k hk).2.1⟩
  obtain ⟨p4, -, o4⟩ := hm_koP hn p3 hw (fun k hk => (jB k hk).2.2) n (Nat.le_refl n)
  obtain ⟨p5, o5⟩ := hm_boP hn p4 hw n (Nat.le_refl n)
  have hout : ∀ k, n ≤ k → hb_poC C G M n k = C k ∧ hm_mN S N a n k = N k := fun k hk => by
    refine ⟨(o5 k hk).1.trans ((o4 k hk).1.trans ((jA k hk).1.trans ?_)), (o5 k hk).2.trans ((o4 k hk).2.trans (jA k hk).2)⟩
    unfold hb_p2 hb_p1
    rw [hb_lo_v, if_neg (by omega), hb_rem_v, if_neg (by omega)]
  refine ⟨hn, fun k hk => (p5 k hk).1, hm_glow jC, hV, fun k hk hk10 => ?_⟩
  rw [(hout k hk).1, (hout k hk).2]
  exact hF k hk hk10
theorem hm_R_pm {n : Nat} {C : Nat → Nat → Int32} {G M S : Nat → Int32} {N a : Nat → Nat → Int32} (h : hm_R n C G M S N a) : ∀ j, hm_R n (hb_pm C G M n j).1 (hb_pm C G M n j).2 M (hm_pm S N a n j).1 (hm_pm S N a n j).2.1 a
  | 0 => h
  | j + 1 => by
    have ih : hm_R n (hb_pm C G M n j).1 (hb_pm C G M n j).2 M (hm_pm S N a n j).1 (hm_pm S N a n j).2.1 (va_up a 8 (hm_pm S N a n j).2.2) := hm_R_pm h j
    rw [hb_pm_s, hm_pm_s]
    exact hm_R_min ih
