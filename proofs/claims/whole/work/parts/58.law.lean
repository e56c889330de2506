/-! class and reference, call by call -/
theorem lw_inj {n i j : Nat} (hn : n ≤ 10) (hi : i < n) (hj : j < n) (e : nI i = nI j) : i = j := by
  have h := congrArg Int32.toNatClampNeg e
  rwa [nI_clamp (by omega), nI_clamp (by omega)] at h
theorem lg_self (x : Int64) : lg_cmp x x = 0 := by
  unfold lg_cmp
  rw [if_neg (fun h => absurd h (Int64.lt_irrefl)), if_pos rfl]
theorem lw_inj2 {i j : Nat} (hi : i ≤ 100) (hj : j ≤ 100) (e : nI i = nI j) : i = j := by
  have h := congrArg Int32.toNatClampNeg e
  rwa [nI_clamp (by omega), nI_clamp (by omega)] at h
theorem lw_bt {p : Nat} (h1 : 1 ≤ p) (h2 : p ≤ 100) : hb_bt (nI p) 1 100 := ⟨nI_nlt (b := 1) h1 (by omega), nI_nlt (a := 100) (b := p) h2 (by omega)⟩
theorem mi_all : ∀ s, s < 61 → hb_min (nI s) 30 = nI (if s < 30 then s else 30) ∧ (if nI s < 30 then nI s else 30) = nI (if s < 30 then s else 30) := by decide +kernel
theorem lw_add {n : Nat} {C : Nat → Nat → Int32} {G M S : Nat → Int32} {N a : Nat → Nat → Int32} {x y z : Int32} (R : hm_R n C G M S N a) (hn : n < 10) (b1 : hb_bt x 0 30) (b2 : hb_bt y 0 9) (b3 : hb_bt z 1 5) : hm_R (n + 1) (va_up C n (hb_fu (hb_fu (hb_fu (C n) 0 x) 1 y) 2 z)) (hb_fu G 0 (nI (n + 1))) M S (va_up N n (hb_fu (hb_fu (hb_fu (N n) 0 x) 6 y) 4 (-1))) (va_up a 2 (upd (a 2) n z)) := by
  obtain ⟨-, hH, ⟨h0, h1, h2, h3, h4, h5, h6⟩, hV, hF⟩ := R
  obtain ⟨m1, -, hm1, e1⟩ := hb_bt_nat (lo := 0) (hi := 30) (by decide) (by decide) b1
  obtain ⟨m2, -, hm2, e2⟩ := hb_bt_nat (lo := 0) (hi := 9) (by decide) (by decide) b2
  refine ⟨by omega, fun k hk => ?_, ⟨rfl, h1, h2, h3, h4, h5, h6⟩, hV, fun k hk hk10 => ?_⟩
  · show hm_H (n + 1) (va_up C n _ k) (va_up N n _ k) (upd (a 2) n z k) (a 3 k) (a 4 k)
    by_cases c : k = n
    · subst c
      obtain ⟨f5, f7, f8, f9, f10, f3, f4, g1, g2, g3, g4, g5, fe, fp⟩ := hF k (Nat.le_refl k) hn
      rw [va_up_self, va_up_self, pk_us]
      exact ⟨rfl, g1.trans f5.symm, g2.trans f7.symm, g3.trans f8.symm, g5.trans f10.symm, rfl, rfl, fe.trans f3.symm, fp.trans f4.symm, ⟨m1, hm1, e1⟩, ⟨m2, hm2, e2⟩, Int32.lt_of_lt_of_le (by decide : (0 : Int32) < 1) (Int32.not_lt.mp b3.1), Or.inl ⟨f5, f9, rfl⟩⟩
    · obtain ⟨g0, g1, g2, g3, g5, g6, gw, ge, gp, gk0, gk1, gf2, gd⟩ := hH k (by omega)
      rw [va_up_ne _ _ c, va_up_ne _ _ c, pk_un c]
      refine ⟨g0, g1, g2, g3, g5, g6, gw, ge, gp, gk0, gk1, gf2, ?_⟩
      rcases gd with q | ⟨q1, q2, q3, q4⟩
      · exact Or.inl q
      · refine Or.inr ⟨q1, q2, q3, ?_⟩
        rcases q4 with q | ⟨s, hs, q⟩
        · exact Or.inl q
        · exact Or.inr ⟨s, by omega, q⟩
  · show hm_F (va_up C n _ k) (va_up N n _ k) (a 3 k) (a 4 k)
    rw [va_up_ne _ _ (show k ≠ n by omega), va_up_ne _ _ (show k ≠ n by omega)]
    exact hF k (by omega) hk10
theorem lp_woodOf_ok {n : Nat} {C : Nat → Nat → Int32} {G M S : Nat → Int32} {N a : Nat → Nat → Int32} {C2 : Nat → Nat → Int32} {G2 M2 : Nat → Int32} {x : Int32} (R : hm_R n C G M S N a) {u : Nat} (hu : u < n ∧ x = nI u) {v : Int32 × Int32} (hv : (∃ i, i < n ∧ x = nI i ∧ v = (0, N i 0)) ∨ (¬ hb_ok n x ∧ v = (1, 0))) : v.1 = 0 ∧ v.2 = (C u 0) ∧ hm_R n C G M S N a := by
  obtain ⟨hu1, rfl⟩ := hu
  obtain ⟨g0, g1, g2, g3, g5, g6, gw, ge, gp, gk0, gk1, gf2, gd⟩ := R.2.1 u hu1
  rcases hv with ⟨i, hi, e, rfl⟩ | ⟨hno, rfl⟩
  · cases lw_inj R.1 hu1 hi e
    exact ⟨rfl, g0, R⟩
  · exact absurd (hb_ok_i hu1) hno
theorem lp_woodOf_no {n : Nat} {C : Nat → Nat → Int32} {G M S : Nat → Int32} {N a : Nat → Nat → Int32} {x : Int32} (R : hm_R n C G M S N a) {k : Int32} (hk : (k = 1 ∧ ¬ hb_ok n x)) {v : Int32 × Int32} (hv : (∃ i, i < n ∧ x = nI i ∧ v = (0, N i 0)) ∨ (¬ hb_ok n x ∧ v = (1, 0))) : v.1 = k ∧ ¬ k = 0 ∧ hm_R n C G M S N a := by
  obtain ⟨rfl, hno⟩ := hk
  rcases hv with ⟨i, hi, e, rfl⟩ | ⟨-, rfl⟩
  · exact absurd ⟨i, hi, e⟩ hno
  · exact ⟨rfl, by decide, R⟩
theorem lp_dampOf_ok {n : Nat} {C : Nat → Nat → Int32} {G M S : Nat → Int32} {N a : Nat → Nat → Int32} {C2 : Nat → Nat → Int32} {G2 M2 : Nat → Int32} {x : Int32} (R : hm_R n C G M S N a) {u : Nat} (hu : u < n ∧ x = nI u) {v : Int32 × Int32} (hv : (∃ i, i < n ∧ x = nI i ∧ v = (0, N i 6)) ∨ (¬ hb_ok n x ∧ v = (1, 0))) : v.1 = 0 ∧ v.2 = (C u 1) ∧ hm_R n C G M S N a := by
  obtain ⟨hu1, rfl⟩ := hu
  obtain ⟨g0, g1, g2, g3, g5, g6, gw, ge, gp, gk0, gk1, gf2, gd⟩ := R.2.1 u hu1
  rcases hv with ⟨i, hi, e, rfl⟩ | ⟨hno, rfl⟩
  · cases lw_inj R.1 hu1 hi e
    exact ⟨rfl, g6, R⟩
  · exact absurd (hb_ok_i hu1) hno
theorem lp_dampOf_no {n : Nat} {C : Nat → Nat → Int32} {G M S : Nat → Int32} {N a : Nat → Nat → Int32} {x : Int32} (R : hm_R n C G M S N a) {k : Int32} (hk : (k = 1 ∧ ¬ hb_ok n x)) {v : Int32 × Int32} (hv : (∃ i, i < n ∧ x = nI i ∧ v = (0, N i 6)) ∨ (¬ hb_ok n x ∧ v = (1, 0))) : v.1 = k ∧ ¬ k = 0 ∧ hm_R n C G M S N a := by
  obtain ⟨rfl, hno⟩ := hk
  rcases hv with ⟨i, hi, e, rfl⟩ | ⟨-, rfl⟩
  · exact absurd ⟨i, hi, e⟩ hno
  · exact ⟨rfl, by decide, R⟩
theorem lp_watchOf_ok {n : Nat} {C : Nat → Nat → Int32} {G M S : Nat → Int32} {N a : Nat → Nat → Int32} {C2 : Nat → Nat → Int32} {G2 M2 : Nat → Int32} {x : Int32} (R : hm_R n C G M S N a) {u : Nat} (hu : u < n ∧ x = nI u) {v : Int32 × Int32} (hv : (∃ i, i < n ∧ x = nI i ∧ v = (0, a 2 i)) ∨ (¬ hb_ok n x ∧ v = (1, 0))) : v.1 = 0 ∧ v.2 = (C u 2) ∧ hm_R n C G M S N a := by
  obtain ⟨hu1, rfl⟩ := hu
  obtain ⟨g0, g1, g2, g3, g5, g6, gw, ge, gp, gk0, gk1, gf2, gd⟩ := R.2.1 u hu1
  rcases hv with ⟨i, hi, e, rfl⟩ | ⟨hno, rfl⟩
  · cases lw_inj R.1 hu1 hi e
    exact ⟨rfl, gw, R⟩
  · exact absurd (hb_ok_i hu1) hno
theorem lp_watchOf_no {n : Nat} {C : Nat → Nat → Int32} {G M S : Nat → Int32} {N a : Nat → Nat → Int32} {x : Int32} (R : hm_R n C G M S N a) {k : Int32} (hk : (k = 1 ∧ ¬ hb_ok n x)) {v : Int32 × Int32} (hv : (∃ i, i < n ∧ x = nI i ∧ v = (0, a 2 i)) ∨ (¬ hb_ok n x ∧ v = (1, 0))) : v.1 = k ∧ ¬ k = 0 ∧ hm_R n C G M S N a := by
  obtain ⟨rfl, hno⟩ := hk
  rcases hv with ⟨i, hi, e, rfl⟩ | ⟨-, rfl⟩
  · exact absurd ⟨i, hi, e⟩ hno
  · exact ⟨rfl, by decide, R⟩
theorem lp_minutesToBurn_ok {n : Nat} {C : Nat → Nat → Int32} {G M S : Nat → Int32} {N a : Nat → Nat → Int32} {C2 : Nat → Nat → Int32} {G2 M2 : Nat → Int32} {x : Int32} (R : hm_R n C G M S N a) {u : Nat} (hu : u < n ∧ x = nI u) {v : Int32 × Int32} (hv : (∃ i, i < n ∧ x = nI i ∧ v = (0, N i 2)) ∨ (¬ hb_ok n x ∧ v = (1, 0))) : v.1 = 0 ∧ v.2 = (C u 7) ∧ hm_R n C G M S N a := by
  obtain ⟨hu1, rfl⟩ := hu
  obtain ⟨g0, g1, g2, g3, g5, g6, gw, ge, gp, gk0, gk1, gf2, gd⟩ := R.2.1 u hu1
  rcases hv with ⟨i, hi, e, rfl⟩ | ⟨hno, rfl⟩
  · cases lw_inj R.1 hu1 hi e
    exact ⟨rfl, g2, R⟩
  · exact absurd (hb_ok_i hu1) hno
theorem lp_minutesToBurn_no {n : Nat} {C : Nat → Nat → Int32} {G M S : Nat → Int32} {N a : Nat → Nat → Int32} {x : Int32} (R : hm_R n C G M S N a) {k : Int32} (hk : (k = 1 ∧ ¬ hb_ok n x)) {v : Int32 × Int32} (hv : (∃ i, i < n ∧ x = nI i ∧ v = (0, N i 2)) ∨ (¬ hb_ok n x ∧ v = (1, 0))) : v.1 = k ∧ ¬ k = 0 ∧ hm_R n C G M S N a := by
  obtain ⟨rfl, hno⟩ := hk
  rcases hv with ⟨i, hi, e, rfl⟩ | ⟨-, rfl⟩
  · exact absurd ⟨i, hi, e⟩ hno
  · exact ⟨rfl, by decide, R⟩
theorem lp_lookingFor_ok {n : Nat} {C : Nat → Nat → Int32} {G M S : Nat → Int32} {N a : Nat → Nat → Int32} {C2 : Nat → Nat → Int32} {G2 M2 : Nat → Int32} {x : Int32} (R : hm_R n C G M S N a) {u : Nat} (hu : u < n ∧ x = nI u) {v : Int32 × Int32} (hv : (∃ i, i < n ∧ x = nI i ∧ v = (0, N i 3)) ∨ (¬ hb_ok n x ∧ v = (1, 0))) : v.1 = 0 ∧ v.2 = (C u 8) ∧ hm_R n C G M S N a := by
  obtain ⟨hu1, rfl⟩ := hu
  obtain ⟨g0, g1, g2, g3, g5, g6, gw, ge, gp, gk0, gk1, gf2, gd⟩ := R.2.1 u hu1
  rcases hv with ⟨i, hi, e, rfl⟩ | ⟨hno, rfl⟩
  · cases lw_inj R.1 hu1 hi e
    exact ⟨rfl, g3, R⟩
  · exact absurd (hb_ok_i hu1) hno
theorem lp_lookingFor_no {n : Nat} {C : Nat → Nat → Int32} {G M S : Nat → Int32} {N a : Nat → Nat → Int32} {x : Int32} (R : hm_R n C G M S N a) {k : Int32} (hk : (k = 1 ∧ ¬ hb_ok n x)) {v : Int32 × Int32} (hv : (∃ i, i < n ∧ x = nI i ∧ v = (0, N i 3)) ∨ (¬ hb_ok n x ∧ v = (1, 0))) : v.1 = k ∧ ¬ k = 0 ∧ hm_R n C G M S N a := by
  obtain ⟨rfl, hno⟩ := hk
  rcases hv with ⟨i, hi, e, rfl⟩ | ⟨-, rfl⟩
  · exact absurd ⟨i, hi, e⟩ hno
  · exact ⟨rfl, by decide, R⟩
theorem lp_answersTo_ok {n : Nat} {C : Nat → Nat → Int32} {G M S : Nat → Int32} {N a : Nat → Nat → Int32} {C2 : Nat → Nat → Int32} {G2 M2 : Nat → Int32} {x : Int32} (R : hm_R n C G M S N a) {u : Nat} (hu : u < n ∧ x = nI u) {v : Int32 × Int32} (hv : (∃ i, i < n ∧ x = nI i ∧ v = (0, N i 5)) ∨ (¬ hb_ok n x ∧ v = (1, 0))) : v.1 = 0 ∧ v.2 = (C u 10) ∧ hm_R n C G M S N a := by
  obtain ⟨hu1, rfl⟩ := hu
  obtain ⟨g0, g1, g2, g3, g5, g6, gw, ge, gp, gk0, gk1, gf2, gd⟩ := R.2.1 u hu1
  rcases hv with ⟨i, hi, e, rfl⟩ | ⟨hno, rfl⟩
  · cases lw_inj R.1 hu1 hi e
    exact ⟨rfl, g5, R⟩
  · exact absurd (hb_ok_i hu1) hno
theorem lp_answersTo_no {n : Nat} {C : Nat → Nat → Int32} {G M S : Nat → Int32} {N a : Nat → Nat → Int32} {x : Int32} (R : hm_R n C G M S N a) {k : Int32} (hk : (k = 1 ∧ ¬ hb_ok n x)) {v : Int32 × Int32} (hv : (∃ i, i < n ∧ x = nI i ∧ v = (0, N i 5)) ∨ (¬ hb_ok n x ∧ v = (1, 0))) : v.1 = k ∧ ¬ k = 0 ∧ hm_R n C G M S N a := by
  obtain ⟨rfl, hno⟩ := hk
  rcases hv with ⟨i, hi, e, rfl⟩ | ⟨-, rfl⟩
  · exact absurd ⟨i, hi, e⟩ hno
  · exact ⟨rfl, by decide, R⟩
theorem lp_looksEast_ok {n : Nat} {C : Nat → Nat → Int32} {G M S : Nat → Int32} {N a : Nat → Nat → Int32} {C2 : Nat → Nat → Int32} {G2 M2 : Nat → Int32} {x : Int32} (R : hm_R n C G M S N a) {u : Nat} (hu : u < n ∧ x = nI u) {v : Int32 × Int32} (hv : (∃ i, i < n ∧ x = nI i ∧ v = (0, hb_zb (a 3 i))) ∨ (¬ hb_ok n x ∧ v = (1, 0))) : v.1 = 0 ∧ v.2 = (hb_zb (C u 3)) ∧ hm_R n C G M S N a := by
  obtain ⟨hu1, rfl⟩ := hu
  obtain ⟨g0, g1, g2, g3, g5, g6, gw, ge, gp, gk0, gk1, gf2, gd⟩ := R.2.1 u hu1
  rcases hv with ⟨i, hi, e, rfl⟩ | ⟨hno, rfl⟩
  · cases lw_inj R.1 hu1 hi e
    exact ⟨rfl, ge, R⟩
  · exact absurd (hb_ok_i hu1) hno
theorem lp_looksEast_no {n : Nat} {C : Nat → Nat → Int32} {G M S : Nat → Int32} {N a : Nat → Nat → Int32} {x : Int32} (R : hm_R n C G M S N a) {k : Int32} (hk : (k = 1 ∧ ¬ hb_ok n x)) {v : Int32 × Int32} (hv : (∃ i, i < n ∧ x = nI i ∧ v = (0, hb_zb (a 3 i))) ∨ (¬ hb_ok n x ∧ v = (1, 0))) : v.1 = k ∧ ¬ k = 0 ∧ hm_R n C G M S N a := by
  obtain ⟨rfl, hno⟩ := hk
  rcases hv with ⟨i, hi, e, rfl⟩ | ⟨-, rfl⟩
  · exact absurd ⟨i, hi, e⟩ hno
  · exact ⟨rfl, by decide, R⟩
theorem lp_isPost_ok {n : Nat} {C : Nat → Nat → Int32} {G M S : Nat → Int32} {N a : Nat → Nat → Int32} {C2 : Nat → Nat → Int32} {G2 M2 : Nat → Int32} {x : Int32} (R : hm_R n C G M S N a) {u : Nat} (hu : u < n ∧ x = nI u) {v : Int32 × Int32} (hv : (∃ i, i < n ∧ x = nI i ∧ v = (0, hb_zb (a 4 i))) ∨ (¬ hb_ok n x ∧ v = (1, 0))) : v.1 = 0 ∧ v.2 = (hb_zb (C u 4)) ∧ hm_R n C G M S N a := by
  obtain ⟨hu1, rfl⟩ := hu
  obtain ⟨g0, g1, g2, g3, g5, g6, gw, ge, gp, gk0, gk1, gf2, gd⟩ := R.2.1 u hu1
  rcases hv with ⟨i, hi, e, rfl⟩ | ⟨hno, rfl⟩
  · cases lw_inj R.1 hu1 hi e
    exact ⟨rfl, gp, R⟩
  · exact absurd (hb_ok_i hu1) hno
theorem lp_isPost_no {n : Nat} {C : Nat → Nat → Int32} {G M S : Nat → Int32} {N a : Nat → Nat → Int32} {x : Int32} (R : hm_R n C G M S N a) {k : Int32} (hk : (k = 1 ∧ ¬ hb_ok n x)) {v : Int32 × Int32} (hv : (∃ i, i < n ∧ x = nI i ∧ v = (0, hb_zb (a 4 i))) ∨ (¬ hb_ok n x ∧ v = (1, 0))) : v.1 = k ∧ ¬ k = 0 ∧ hm_R n C G M S N a := by
  obtain ⟨rfl, hno⟩ := hk
  rcases hv with ⟨i, hi, e, rfl⟩ | ⟨-, rfl⟩
  · exact absurd ⟨i, hi, e⟩ hno
  · exact ⟨rfl, by decide, R⟩
theorem lp_isDark_ok {n : Nat} {C : Nat → Nat → Int32} {G M S : Nat → Int32} {N a : Nat → Nat → Int32} {C2 : Nat → Nat → Int32} {G2 M2 : Nat → Int32} {x : Int32} (R : hm_R n C G M S N a) {u : Nat} (hu : u < n ∧ x = nI u) {v : Int32 × Int32} (hv : (∃ i, i < n ∧ x = nI i ∧ v = (0, if N i 1 = 0 then 1 else 0)) ∨ (¬ hb_ok n x ∧ v = (1, 0))) : v.1 = 0 ∧ v.2 = (if C u 5 = 0 then 1 else 0) ∧ hm_R n C G M S N a := by
  obtain ⟨hu1, rfl⟩ := hu
  obtain ⟨g0, g1, g2, g3, g5, g6, gw, ge, gp, gk0, gk1, gf2, gd⟩ := R.2.1 u hu1
  rcases hv with ⟨i, hi, e, rfl⟩ | ⟨hno, rfl⟩
  · cases lw_inj R.1 hu1 hi e
    exact ⟨rfl, by show (if N u 1 = 0 then (1 : Int32) else 0) = _; rw [g1], R⟩
  · exact absurd (hb_ok_i hu1) hno
theorem lp_isDark_no {n : Nat} {C : Nat → Nat → Int32} {G M S : Nat → Int32} {N a : Nat → Nat → Int32} {x : Int32} (R : hm_R n C G M S N a) {k : Int32} (hk : (k = 1 ∧ ¬ hb_ok n x)) {v : Int32 × Int32} (hv : (∃ i, i < n ∧ x = nI i ∧ v = (0, if N i 1 = 0 then 1 else 0)) ∨ (¬ hb_ok n x ∧ v = (1, 0))) : v.1 = k ∧ ¬ k = 0 ∧ hm_R n C G M S N a := by
  obtain ⟨rfl, hno⟩ := hk
  rcases hv with ⟨i, hi, e, rfl⟩ | ⟨-, rfl⟩
  · exact absurd ⟨i, hi, e⟩ hno
  · exact ⟨rfl, by decide, R⟩
theorem lp_isBurning_ok {n : Nat} {C : Nat → Nat → Int32} {G M S : Nat → Int32} {N a : Nat → Nat → Int32} {C2 : Nat → Nat → Int32} {G2 M2 : Nat → Int32} {x : Int32} (R : hm_R n C G M S N a) {u : Nat} (hu : u < n ∧ x = nI u) {v : Int32 × Int32} (hv : (∃ i, i < n ∧ x = nI i ∧ v = (0, if N i 1 = 2 then 1 else 0)) ∨ (¬ hb_ok n x ∧ v = (1, 0))) : v.1 = 0 ∧ v.2 = (if C u 5 = 2 then 1 else 0) ∧ hm_R n C G M S N a := by
  obtain ⟨hu1, rfl⟩ := hu
  obtain ⟨g0, g1, g2, g3, g5, g6, gw, ge, gp, gk0, gk1, gf2, gd⟩ := R.2.1 u hu1
  rcases hv with ⟨i, hi, e, rfl⟩ | ⟨hno, rfl⟩
  · cases lw_inj R.1 hu1 hi e
    exact ⟨rfl, by show (if N u 1 = 2 then (1 : Int32) else 0) = _; rw [g1], R⟩
  · exact absurd (hb_ok_i hu1) hno
theorem lp_isBurning_no {n : Nat} {C : Nat → Nat → Int32} {G M S : Nat → Int32} {N a : Nat → Nat → Int32} {x : Int32} (R : hm_R n C G M S N a) {k : Int32} (hk : (k = 1 ∧ ¬ hb_ok n x)) {v : Int32 × Int32} (hv : (∃ i, i < n ∧ x = nI i ∧ v = (0, if N i 1 = 2 then 1 else 0)) ∨ (¬ hb_ok n x ∧ v = (1, 0))) : v.1 = k ∧ ¬ k = 0 ∧ hm_R n C G M S N a := by
  obtain ⟨rfl, hno⟩ := hk
  rcases hv with ⟨i, hi, e, rfl⟩ | ⟨-, rfl⟩
  · exact absurd ⟨i, hi, e⟩ hno
  · exact ⟨rfl, by decide, R⟩
theorem lp_isMistaken_ok {n : Nat} {C : Nat → Nat → Int32} {G M S : Nat → Int32} {N a : Nat → Nat → Int32} {C2 : Nat → Nat → Int32} {G2 M2 : Nat → Int32} {x : Int32} (R : hm_R n C G M S N a) {u : Nat} (hu : u < n ∧ x = nI u) {v : Int32 × Int32} (hv : (∃ i, i < n ∧ x = nI i ∧ v = (0, if N i 1 = 0 then 0 else if N i 4 = -1 then 1 else 0)) ∨ (¬ hb_ok n x ∧ v = (1, 0))) : v.1 = 0 ∧ v.2 = (if C u 9 = -1 then 1 else 0) ∧ hm_R n C G M S N a := by
  obtain ⟨hu1, rfl⟩ := hu
  obtain ⟨g0, g1, g2, g3, g5, g6, gw, ge, gp, gk0, gk1, gf2, gd⟩ := R.2.1 u hu1
  rcases hv with ⟨i, hi, e, rfl⟩ | ⟨hno, rfl⟩
  · cases lw_inj R.1 hu1 hi e
    exact ⟨rfl, by
    show (if N u 1 = 0 then (0 : Int32) else if N u 4 = -1 then 1 else 0) = _
    rw [g1]
    rcases gd with ⟨d5, d9, -⟩ | ⟨d5, -, d4, -⟩
    · rw [if_pos d5, d9]; decide
    · rw [if_neg (by rcases d5 with q | q <;> rw [q] <;> decide), d4], R⟩
  · exact absurd (hb_ok_i hu1) hno
theorem lp_isMistaken_no {n : Nat} {C : Nat → Nat → Int32} {G M S : Nat → Int32} {N a : Nat → Nat → Int32} {x : Int32} (R : hm_R n C G M S N a) {k : Int32} (hk : (k = 1 ∧ ¬ hb_ok n x)) {v : Int32 × Int32} (hv : (∃ i, i < n ∧ x = nI i ∧ v = (0, if N i 1 = 0 then 0 else if N i 4 = -1 then 1 else 0)) ∨ (¬ hb_ok n x ∧ v = (1, 0))) : v.1 = k ∧ ¬ k = 0 ∧ hm_R n C G M S N a := by
  obtain ⟨rfl, hno⟩ := hk
  rcases hv with ⟨i, hi, e, rfl⟩ | ⟨-, rfl⟩
  · exact absurd ⟨i, hi, e⟩ hno
  · exact ⟨rfl, by decide, R⟩
theorem lp_sourceOf_ok {n : Nat} {C : Nat → Nat → Int32} {G M S : Nat → Int32} {N a : Nat → Nat → Int32} {C2 : Nat → Nat → Int32} {G2 M2 : Nat → Int32} {x : Int32} (R : hm_R n C G M S N a) {u : Nat} (hu : u < n ∧ x = nI u ∧ ¬ C u 5 = 0) {v : Int32 × Int32} (hv : (∃ i, i < n ∧ x = nI i ∧ ¬ N i 1 = 0 ∧ v = (0, N i 4)) ∨ (∃ i, i < n ∧ x = nI i ∧ N i 1 = 0 ∧ v = (2, 0)) ∨ (¬ hb_ok n x ∧ v = (1, 0))) : v.1 = 0 ∧ v.2 = (C u 9) ∧ hm_R n C G M S N a := by
  obtain ⟨hu1, hx, h5⟩ := hu
  subst hx
  have hH := R.2.1 u hu1
  obtain ⟨g0, g1, g2, g3, g5, g6, gw, ge, gp, gk0, gk1, gf2, gd⟩ := R.2.1 u hu1
  rcases hv with ⟨i, hi, e, h, rfl⟩ | ⟨i, hi, e, h, rfl⟩ | ⟨hno, rfl⟩
  · cases lw_inj R.1 hu1 hi e
    exact ⟨rfl, (by
      rcases gd with ⟨d5, -, -⟩ | ⟨-, -, d4, -⟩
      · exact absurd d5 h5
      · exact d4), R⟩
  · cases lw_inj R.1 hu1 hi e
    exact absurd (g1.symm.trans h) h5
  · exact absurd (hb_ok_i hu1) hno
theorem lp_sourceOf_no {n : Nat} {C : Nat → Nat → Int32} {G M S : Nat → Int32} {N a : Nat → Nat → Int32} {x : Int32} (R : hm_R n C G M S N a) {k : Int32} (hk : (k = 1 ∧ ¬ hb_ok n x) ∨ (k = 2 ∧ ∃ i, i < n ∧ x = nI i ∧ C i 5 = 0)) {v : Int32 × Int32} (hv : (∃ i, i < n ∧ x = nI i ∧ ¬ N i 1 = 0 ∧ v = (0, N i 4)) ∨ (∃ i, i < n ∧ x = nI i ∧ N i 1 = 0 ∧ v = (2, 0)) ∨ (¬ hb_ok n x ∧ v = (1, 0))) : v.1 = k ∧ ¬ k = 0 ∧ hm_R n C G M S N a := by
  rcases hk with ⟨rfl, hno⟩ | ⟨rfl, j, hj, hx, h5⟩
  · rcases hv with ⟨i, hi, e, h, rfl⟩ | ⟨i, hi, e, h, rfl⟩ | ⟨-, rfl⟩
    · exact absurd ⟨i, hi, e⟩ hno
    · exact absurd ⟨i, hi, e⟩ hno
    · exact ⟨rfl, by decide, R⟩
  · subst hx
    have hH := R.2.1 j hj
    have g1 := hH.2.1
    rcases hv with ⟨i, hi, e, h, rfl⟩ | ⟨i, hi, e, h, rfl⟩ | ⟨hno, rfl⟩
    · cases lw_inj R.1 hj hi e
      exact absurd (g1.trans h5) h
    · exact ⟨rfl, by decide, R⟩
    · exact absurd (hb_ok_i hj) hno
theorem lp_douse_ok {n : Nat} {C : Nat → Nat → Int32} {G M S : Nat → Int32} {N a : Nat → Nat → Int32} {C2 : Nat → Nat → Int32} {G2 M2 : Nat → Int32} {x : Int32} (R : hm_R n C G M S N a) {u : Nat} (hu : u < n ∧ x = nI u ∧ ¬ C u 5 = 0) {v : Int32 × Int32 × (Nat → Int32) × (Nat → Nat → Int32)} (hv : (∃ i, i < n ∧ x = nI i ∧ ¬ N i 1 = 0 ∧ v = (0, N i 0, S, va_up N i (hm_dF (N i)))) ∨ (∃ i, i < n ∧ x = nI i ∧ N i 1 = 0 ∧ v = (2, 0, S, N)) ∨ (¬ hb_ok n x ∧ v = (1, 0, S, N))) : v.1 = 0 ∧ v.2.1 = (C u 0) ∧ hm_R n (va_up C u (hb_darkF (C u))) G M v.2.2.1 v.2.2.2 a := by
  obtain ⟨hu1, hx, h5⟩ := hu
  subst hx
  have hH := R.2.1 u hu1
  obtain ⟨g0, g1, g2, g3, g5, g6, gw, ge, gp, gk0, gk1, gf2, gd⟩ := R.2.1 u hu1
  rcases hv with ⟨i, hi, e, h, rfl⟩ | ⟨i, hi, e, h, rfl⟩ | ⟨hno, rfl⟩
  · cases lw_inj R.1 hu1 hi e
    exact ⟨rfl, g0, hm_R_up R hu1 ⟨g0, rfl, rfl, g3, g5, g6, gw, ge, gp, gk0, gk1, gf2, Or.inl ⟨rfl, rfl, rfl⟩⟩⟩
  · cases lw_inj R.1 hu1 hi e
    exact absurd (g1.symm.trans h) h5
  · exact absurd (hb_ok_i hu1) hno
theorem lp_douse_no {n : Nat} {C : Nat → Nat → Int32} {G M S : Nat → Int32} {N a : Nat → Nat → Int32} {x : Int32} (R : hm_R n C G M S N a) {k : Int32} (hk : (k = 1 ∧ ¬ hb_ok n x) ∨ (k = 2 ∧ ∃ i, i < n ∧ x = nI i ∧ C i 5 = 0)) {v : Int32 × Int32 × (Nat → Int32) × (Nat → Nat → Int32)} (hv : (∃ i, i < n ∧ x = nI i ∧ ¬ N i 1 = 0 ∧ v = (0, N i 0, S, va_up N i (hm_dF (N i)))) ∨ (∃ i, i < n ∧ x = nI i ∧ N i 1 = 0 ∧ v = (2, 0, S, N)) ∨ (¬ hb_ok n x ∧ v = (1, 0, S, N))) : v.1 = k ∧ ¬ k = 0 ∧ hm_R n C G M v.2.2.1 v.2.2.2 a := by
  rcases hk with ⟨rfl, hno⟩ | ⟨rfl, j, hj, hx, h5⟩
  · rcases hv with ⟨i, hi, e, h, rfl⟩ | ⟨i, hi, e, h, rfl⟩ | ⟨-, rfl⟩
    · exact absurd ⟨i, hi, e⟩ hno
    · exact absurd ⟨i, hi, e⟩ hno
    · exact ⟨rfl, by decide, R⟩
  · subst hx
    have hH := R.2.1 j hj
    have g1 := hH.2.1
    rcases hv with ⟨i, hi, e, h, rfl⟩ | ⟨i, hi, e, h, rfl⟩ | ⟨hno, rfl⟩
    · cases lw_inj R.1 hj hi e
      exact absurd (g1.trans h5) h
    · exact ⟨rfl, by decide, R⟩
    · exact absurd (hb_ok_i hj) hno
theorem lp_light_ok {n : Nat} {C : Nat → Nat → Int32} {G M S : Nat → Int32} {N a : Nat → Nat → Int32} {C2 : Nat → Nat → Int32} {G2 M2 : Nat → Int32} {x : Int32} (R : hm_R n C G M S N a) {u : Nat} (hu : u < n ∧ x = nI u ∧ ¬ hb_rdy (C u) = 0) {v : Int32 × Int32 × (Nat → Int32) × (Nat → Nat → Int32)} (hv : (∃ i, i < n ∧ x = nI i ∧ (N i 1 = 0 ∧ 0 < N i 0) ∧ v = (0, N i 6 + 1, hm_kS S (nI i), hm_lN N i)) ∨ (∃ i, i < n ∧ x = nI i ∧ ¬ (N i 1 = 0 ∧ 0 < N i 0) ∧ v = (2, 0, S, N)) ∨ (¬ hb_ok n x ∧ v = (1, 0, S, N))) : v.1 = 0 ∧ v.2.1 = (hb_hC C u u 7) ∧ hm_R n (hb_hC C u) (hb_kG G (nI u)) M v.2.2.1 v.2.2.2 a := by
  obtain ⟨hu1, hx, h5⟩ := hu
  subst hx
  have hH := R.2.1 u hu1
  obtain ⟨g0, g1, g2, g3, g5, g6, gw, ge, gp, gk0, gk1, gf2, gd⟩ := R.2.1 u hu1
  rcases hv with ⟨i, hi, e, h, rfl⟩ | ⟨i, hi, e, h, rfl⟩ | ⟨hno, rfl⟩
  · cases lw_inj R.1 hu1 hi e
    exact ⟨rfl, (by
      show N u 6 + 1 = hb_hC C u u 7
      unfold hb_hC
      rw [va_up_self, g6]
      rfl), hm_R_light R hu1 h⟩
  · cases lw_inj R.1 hu1 hi e
    exact absurd ((hm_rdy hH).mpr h) h5
  · exact absurd (hb_ok_i hu1) hno
theorem lp_light_no {n : Nat} {C : Nat → Nat → Int32} {G M S : Nat → Int32} {N a : Nat → Nat → Int32} {x : Int32} (R : hm_R n C G M S N a) {k : Int32} (hk : (k = 1 ∧ ¬ hb_ok n x) ∨ (k = 2 ∧ ∃ i, i < n ∧ x = nI i ∧ hb_rdy (C i) = 0)) {v : Int32 × Int32 × (Nat → Int32) × (Nat → Nat → Int32)} (hv : (∃ i, i < n ∧ x = nI i ∧ (N i 1 = 0 ∧ 0 < N i 0) ∧ v = (0, N i 6 + 1, hm_kS S (nI i), hm_lN N i)) ∨ (∃ i, i < n ∧ x = nI i ∧ ¬ (N i 1 = 0 ∧ 0 < N i 0) ∧ v = (2, 0, S, N)) ∨ (¬ hb_ok n x ∧ v = (1, 0, S, N))) : v.1 = k ∧ ¬ k = 0 ∧ hm_R n C G M v.2.2.1 v.2.2.2 a := by
  rcases hk with ⟨rfl, hno⟩ | ⟨rfl, j, hj, hx, h5⟩
  · rcases hv with ⟨i, hi, e, h, rfl⟩ | ⟨i, hi, e, h, rfl⟩ | ⟨-, rfl⟩
    · exact absurd ⟨i, hi, e⟩ hno
    · exact absurd ⟨i, hi, e⟩ hno
    · exact ⟨rfl, by decide, R⟩
  · subst hx
    have hH := R.2.1 j hj
    have g1 := hH.2.1
    rcases hv with ⟨i, hi, e, h, rfl⟩ | ⟨i, hi, e, h, rfl⟩ | ⟨hno, rfl⟩
    · cases lw_inj R.1 hj hi e
      exact absurd h ((hm_rdy hH).mp h5)
    · exact ⟨rfl, by decide, R⟩
    · exact absurd (hb_ok_i hj) hno
theorem lp_reachOf_ok {n : Nat} {C : Nat → Nat → Int32} {G M S : Nat → Int32} {N a : Nat → Nat → Int32} {C2 : Nat → Nat → Int32} {G2 M2 : Nat → Int32} {x : Int32} (R : hm_R n C G M S N a) {u : Nat × hb_LS} (hu : u.1 < n ∧ x = nI u.1 ∧ ¬ hb_rdy (C u.1) = 0) {v : Int32 × Int32 × (Nat → Int32) × (Nat → Int32)} (hv : (∃ i, i < n ∧ x = nI i ∧ (N i 1 = 0 ∧ 0 < N i 0) ∧ v.1 = 0 ∧ v.2.1 = hm_re S N a n i) ∨ (∃ i, i < n ∧ x = nI i ∧ ¬ (N i 1 = 0 ∧ 0 < N i 0) ∧ v.1 = 2 ∧ v.2.1 = 0) ∨ (¬ hb_ok n x ∧ v.1 = 1 ∧ v.2.1 = 0)) : v.1 = 0 ∧ v.2.1 = (hb_tr C2 G2 M2 C G M n u.1) ∧ hm_R n C G M S N (va_up (va_up a 7 v.2.2.1) 8 v.2.2.2) := by
  obtain ⟨hu1, hx, h5⟩ := hu
  subst hx
  have hH := R.2.1 u.1 hu1
  obtain ⟨g0, g1, g2, g3, g5, g6, gw, ge, gp, gk0, gk1, gf2, gd⟩ := R.2.1 u.1 hu1
  rcases hv with ⟨i, hi, e, h, v1, v2⟩ | ⟨i, hi, e, h, v1, v2⟩ | ⟨hno, v1, v2⟩
  · cases lw_inj R.1 hu1 hi e
    exact ⟨v1, v2.trans (hm_R_re R hu1 h C2 G2 M2).1.symm, R⟩
  · cases lw_inj R.1 hu1 hi e
    exact absurd ((hm_rdy hH).mpr h) h5
  · exact absurd (hb_ok_i hu1) hno
theorem lp_reachOf_no {n : Nat} {C : Nat → Nat → Int32} {G M S : Nat → Int32} {N a : Nat → Nat → Int32} {x : Int32} (R : hm_R n C G M S N a) {k : Int32} (hk : (k = 1 ∧ ¬ hb_ok n x) ∨ (k = 2 ∧ ∃ i, i < n ∧ x = nI i ∧ hb_rdy (C i) = 0)) {v : Int32 × Int32 × (Nat → Int32) × (Nat → Int32)} (hv : (∃ i, i < n ∧ x = nI i ∧ (N i 1 = 0 ∧ 0 < N i 0) ∧ v.1 = 0 ∧ v.2.1 = hm_re S N a n i) ∨ (∃ i, i < n ∧ x = nI i ∧ ¬ (N i 1 = 0 ∧ 0 < N i 0) ∧ v.1 = 2 ∧ v.2.1 = 0) ∨ (¬ hb_ok n x ∧ v.1 = 1 ∧ v.2.1 = 0)) : v.1 = k ∧ ¬ k = 0 ∧ hm_R n C G M S N (va_up (va_up a 7 v.2.2.1) 8 v.2.2.2) := by
  rcases hk with ⟨rfl, hno⟩ | ⟨rfl, j, hj, hx, h5⟩
  · rcases hv with ⟨i, hi, e, h, v1, v2⟩ | ⟨i, hi, e, h, v1, v2⟩ | ⟨-, v1, v2⟩
    · exact absurd ⟨i, hi, e⟩ hno
    · exact absurd ⟨i, hi, e⟩ hno
    · exact ⟨v1, by decide, R⟩
  · subst hx
    have hH := R.2.1 j hj
    have g1 := hH.2.1
    rcases hv with ⟨i, hi, e, h, v1, v2⟩ | ⟨i, hi, e, h, v1, v2⟩ | ⟨hno, v1, v2⟩
    · cases lw_inj R.1 hj hi e
      exact absurd h ((hm_rdy hH).mp h5)
    · exact ⟨v1, by decide, R⟩
    · exact absurd (hb_ok_i hj) hno
theorem lp_milesBetween_ok {n : Nat} {C : Nat → Nat → Int32} {G M S : Nat → Int32} {N a : Nat → Nat → Int32} {C2 : Nat → Nat → Int32} {G2 M2 : Nat → Int32} {x : Int32} {y : Int32} (R : hm_R n C G M S N a) {u : Nat × Nat} (hu : u.1 < n ∧ u.2 < n ∧ x = nI u.1 ∧ y = nI u.2) {v : Int32 × Int32} (hv : (∃ i k, i < n ∧ k < n ∧ x = nI i ∧ y = nI k ∧ v = (0, a 5 (i * 10 + k))) ∨ (¬ (hb_ok n x ∧ hb_ok n y) ∧ v = (1, 0))) : v.1 = 0 ∧ v.2 = (M (u.1 * 10 + u.2)) ∧ hm_R n C G M S N a := by
  obtain ⟨hu1, hu2, rfl, rfl⟩ := hu
  have hn := R.1
  rcases hv with ⟨i, j, hi, hj, e, e2, rfl⟩ | ⟨hno, rfl⟩
  · cases lw_inj R.1 hu1 hi e
    cases lw_inj R.1 hu2 hj e2
    exact ⟨rfl, (R.2.2.2.1 (u.1 * 10 + u.2) (by omega)).1, R⟩
  · exact absurd ⟨hb_ok_i hu1, hb_ok_i hu2⟩ hno
theorem lp_milesBetween_no {n : Nat} {C : Nat → Nat → Int32} {G M S : Nat → Int32} {N a : Nat → Nat → Int32} {x : Int32} {y : Int32} (R : hm_R n C G M S N a) {k : Int32} (hk : (k = 1 ∧ ¬ (hb_ok n x ∧ hb_ok n y))) {v : Int32 × Int32} (hv : (∃ i k, i < n ∧ k < n ∧ x = nI i ∧ y = nI k ∧ v = (0, a 5 (i * 10 + k))) ∨ (¬ (hb_ok n x ∧ hb_ok n y) ∧ v = (1, 0))) : v.1 = k ∧ ¬ k = 0 ∧ hm_R n C G M S N a := by
  obtain ⟨rfl, hno⟩ := hk
  rcases hv with ⟨i, j, hi, hj, e, e2, rfl⟩ | ⟨-, rfl⟩
  · exact absurd ⟨⟨i, hi, e⟩, ⟨j, hj, e2⟩⟩ hno
  · exact ⟨rfl, by decide, R⟩
theorem lp_canSee_ok {n : Nat} {C : Nat → Nat → Int32} {G M S : Nat → Int32} {N a : Nat → Nat → Int32} {C2 : Nat → Nat → Int32} {G2 M2 : Nat → Int32} {x : Int32} {y : Int32} (R : hm_R n C G M S N a) {u : Nat × Nat} (hu : u.1 < n ∧ u.2 < n ∧ x = nI u.1 ∧ y = nI u.2) {v : Int32 × Int32} (hv : (∃ i k, i < n ∧ k < n ∧ x = nI i ∧ y = nI k ∧ v = (0, hb_clr (S 4) (a 5 (i * 10 + k)))) ∨ (¬ (hb_ok n x ∧ hb_ok n y) ∧ v = (1, 0))) : v.1 = 0 ∧ v.2 = (hb_clr (G 1) (M (u.1 * 10 + u.2))) ∧ hm_R n C G M S N a := by
  obtain ⟨hu1, hu2, rfl, rfl⟩ := hu
  have hn := R.1
  rcases hv with ⟨i, j, hi, hj, e, e2, rfl⟩ | ⟨hno, rfl⟩
  · cases lw_inj R.1 hu1 hi e
    cases lw_inj R.1 hu2 hj e2
    exact ⟨rfl, (by show hb_clr (S 4) (a 5 (u.1 * 10 + u.2)) = _; rw [(R.2.2.2.1 (u.1 * 10 + u.2) (by omega)).1, R.2.2.1.2.1]), R⟩
  · exact absurd ⟨hb_ok_i hu1, hb_ok_i hu2⟩ hno
theorem lp_canSee_no {n : Nat} {C : Nat → Nat → Int32} {G M S : Nat → Int32} {N a : Nat → Nat → Int32} {x : Int32} {y : Int32} (R : hm_R n C G M S N a) {k : Int32} (hk : (k = 1 ∧ ¬ (hb_ok n x ∧ hb_ok n y))) {v : Int32 × Int32} (hv : (∃ i k, i < n ∧ k < n ∧ x = nI i ∧ y = nI k ∧ v = (0, hb_clr (S 4) (a 5 (i * 10 + k)))) ∨ (¬ (hb_ok n x ∧ hb_ok n y) ∧ v = (1, 0))) : v.1 = k ∧ ¬ k = 0 ∧ hm_R n C G M S N a := by
  obtain ⟨rfl, hno⟩ := hk
  rcases hv with ⟨i, j, hi, hj, e, e2, rfl⟩ | ⟨-, rfl⟩
  · exact absurd ⟨⟨i, hi, e⟩, ⟨j, hj, e2⟩⟩ hno
  · exact ⟨rfl, by decide, R⟩
theorem lp_fewestSteps_ok {n : Nat} {C : Nat → Nat → Int32} {G M S : Nat → Int32} {N a : Nat → Nat → Int32} {C2 : Nat → Nat → Int32} {G2 M2 : Nat → Int32} {x : Int32} {y : Int32} (R : hm_R n C G M S N a) {u : Nat × Nat} (hu : u.1 < n ∧ u.2 < n ∧ x = nI u.1 ∧ y = nI u.2) {v : Int32 × Int32 × (Nat → Int32) × (Nat → Int32)} (hv : (∃ i k, i < n ∧ k < n ∧ x = nI i ∧ y = nI k ∧ v.1 = 0 ∧ v.2.1 = hm_fs (S 4) (a 5) (a 9) (a 10) n i k) ∨ (¬ (hb_ok n x ∧ hb_ok n y) ∧ v.1 = 1 ∧ v.2.1 = 0)) : v.1 = 0 ∧ v.2.1 = (hb_steps G M n u.1 u.2) ∧ hm_R n C G M S N (va_up (va_up a 9 v.2.2.1) 10 v.2.2.2) := by
  obtain ⟨hu1, hu2, rfl, rfl⟩ := hu
  have hn := R.1
  rcases hv with ⟨i, j, hi, hj, e, e2, v1, v2⟩ | ⟨hno, v1, v2⟩
  · cases lw_inj R.1 hu1 hi e
    cases lw_inj R.1 hu2 hj e2
    exact ⟨v1, v2.trans (hm_steps R.1 hu1 hu2 (fun p hp => (R.2.2.2.1 p hp).1) R.2.2.1.2.1 _ _).symm, R⟩
  · exact absurd ⟨hb_ok_i hu1, hb_ok_i hu2⟩ hno
theorem lp_fewestSteps_no {n : Nat} {C : Nat → Nat → Int32} {G M S : Nat → Int32} {N a : Nat → Nat → Int32} {x : Int32} {y : Int32} (R : hm_R n C G M S N a) {k : Int32} (hk : (k = 1 ∧ ¬ (hb_ok n x ∧ hb_ok n y))) {v : Int32 × Int32 × (Nat → Int32) × (Nat → Int32)} (hv : (∃ i k, i < n ∧ k < n ∧ x = nI i ∧ y = nI k ∧ v.1 = 0 ∧ v.2.1 = hm_fs (S 4) (a 5) (a 9) (a 10) n i k) ∨ (¬ (hb_ok n x ∧ hb_ok n y) ∧ v.1 = 1 ∧ v.2.1 = 0)) : v.1 = k ∧ ¬ k = 0 ∧ hm_R n C G M S N (va_up (va_up a 9 v.2.2.1) 10 v.2.2.2) := by
  obtain ⟨rfl, hno⟩ := hk
  rcases hv with ⟨i, j, hi, hj, e, e2, v1, v2⟩ | ⟨-, v1, v2⟩
  · exact absurd ⟨⟨i, hi, e⟩, ⟨j, hj, e2⟩⟩ hno
  · exact ⟨v1, by decide, R⟩
theorem lp_setSight_ok {n : Nat} {C : Nat → Nat → Int32} {G M S : Nat → Int32} {N a : Nat → Nat → Int32} {C2 : Nat → Nat → Int32} {G2 M2 : Nat → Int32} {x : Int32} {y : Int32} {z : Int32} (R : hm_R n C G M S N a) {u : Nat × Nat} (hu : u.1 < n ∧ u.2 < n ∧ x = nI u.1 ∧ y = nI u.2 ∧ ¬ x = y ∧ hb_bt z 0 20) {v : Int32 × Int32 × (Nat → Int32)} (hv : (∃ i k, i < n ∧ k < n ∧ x = nI i ∧ y = nI k ∧ ¬ x = y ∧ hb_bt z 0 20 ∧ v = (0, a 5 (i * 10 + k), upd (upd (a 5) (i * 10 + k) z) (k * 10 + i) z)) ∨ (hb_ok n x ∧ hb_ok n y ∧ (x = y ∨ ¬ hb_bt z 0 20) ∧ v = (2, 0, a 5)) ∨ (¬ (hb_ok n x ∧ hb_ok n y) ∧ v = (1, 0, a 5))) : v.1 = 0 ∧ v.2.1 = (M (u.1 * 10 + u.2)) ∧ hm_R n C G (upd (upd M (u.1 * 10 + u.2) z) (u.2 * 10 + u.1) z) S N (va_up a 5 v.2.2) := by
  obtain ⟨hu1, hu2, rfl, rfl, hne, hz⟩ := hu
  have hn := R.1
  rcases hv with ⟨i, j, hi, hj, e, e2, -, -, rfl⟩ | ⟨-, -, hno, rfl⟩ | ⟨hno, rfl⟩
  · cases lw_inj R.1 hu1 hi e
    cases lw_inj R.1 hu2 hj e2
    refine ⟨rfl, (R.2.2.2.1 (u.1 * 10 + u.2) (by omega)).1, R.1, R.2.1, R.2.2.1, fun p hp => ?_, R.2.2.2.2⟩
    show upd (upd (a 5) (u.1 * 10 + u.2) z) (u.2 * 10 + u.1) z p = upd (upd M (u.1 * 10 + u.2) z) (u.2 * 10 + u.1) z p ∧ upd (upd M (u.1 * 10 + u.2) z) (u.2 * 10 + u.1) z p ≤ 20
    have h := R.2.2.2.1 p hp
    by_cases c1 : p = u.2 * 10 + u.1
    · rw [c1, pk_us, pk_us]; exact ⟨rfl, Int32.not_lt.mp hz.2⟩
    · rw [pk_un c1, pk_un c1]
      by_cases c2 : p = u.1 * 10 + u.2
      · rw [c2, pk_us, pk_us]; exact ⟨rfl, Int32.not_lt.mp hz.2⟩
      · rw [pk_un c2, pk_un c2]; exact h
  · rcases hno with q | q
    · exact absurd q hne
    · exact absurd hz q
  · exact absurd ⟨hb_ok_i hu1, hb_ok_i hu2⟩ hno
theorem lp_setSight_no {n : Nat} {C : Nat → Nat → Int32} {G M S : Nat → Int32} {N a : Nat → Nat → Int32} {x : Int32} {y : Int32} {z : Int32} (R : hm_R n C G M S N a) {k : Int32} (hk : (k = 1 ∧ ¬ (hb_ok n x ∧ hb_ok n y)) ∨ (k = 2 ∧ hb_ok n x ∧ hb_ok n y ∧ (x = y ∨ ¬ hb_bt z 0 20))) {v : Int32 × Int32 × (Nat → Int32)} (hv : (∃ i k, i < n ∧ k < n ∧ x = nI i ∧ y = nI k ∧ ¬ x = y ∧ hb_bt z 0 20 ∧ v = (0, a 5 (i * 10 + k), upd (upd (a 5) (i * 10 + k) z) (k * 10 + i) z)) ∨ (hb_ok n x ∧ hb_ok n y ∧ (x = y ∨ ¬ hb_bt z 0 20) ∧ v = (2, 0, a 5)) ∨ (¬ (hb_ok n x ∧ hb_ok n y) ∧ v = (1, 0, a 5))) : v.1 = k ∧ ¬ k = 0 ∧ hm_R n C G M S N (va_up a 5 v.2.2) := by
  rcases hk with ⟨rfl, hno⟩ | ⟨rfl, o1, o2, hno⟩
  · rcases hv with ⟨i, j, hi, hj, e, e2, -, -, rfl⟩ | ⟨o1, o2, -, rfl⟩ | ⟨-, rfl⟩
    · exact absurd ⟨⟨i, hi, e⟩, ⟨j, hj, e2⟩⟩ hno
    · exact absurd ⟨o1, o2⟩ hno
    · exact ⟨rfl, by decide, R⟩
  · rcases hv with ⟨i, j, hi, hj, e, e2, q1, q2, rfl⟩ | ⟨-, -, -, rfl⟩ | ⟨q, rfl⟩
    · rcases hno with q | q
      · exact absurd q q1
      · exact absurd q2 q
    · exact ⟨rfl, by decide, R⟩
    · exact absurd ⟨o1, o2⟩ q
theorem lp_setHaze_ok {n : Nat} {C : Nat → Nat → Int32} {G M S : Nat → Int32} {N a : Nat → Nat → Int32} {C2 : Nat → Nat → Int32} {G2 M2 : Nat → Int32} {y : Int32} (R : hm_R n C G M S N a) {u : Unit} (hu : hb_bt y 0 9) {v : Int32 × Int32 × (Nat → Int32)} (hv : (hb_bt y 0 9 ∧ v = (0, S 4, hb_fu S 4 y)) ∨ (¬ hb_bt y 0 9 ∧ v = (1, 0, S))) : v.1 = 0 ∧ v.2.1 = (G 1) ∧ hm_R n C (hb_fu G 1 y) M v.2.2 N a := by
  obtain ⟨h0, h1, h2, h3, h4, h5, h6⟩ := R.2.2.1
  rcases hv with ⟨-, rfl⟩ | ⟨q, rfl⟩
  · exact ⟨rfl, h1, R.1, R.2.1, ⟨h0, rfl, h2, h3, h4, h5, h6⟩, R.2.2.2.1, R.2.2.2.2⟩
  · exact absurd hu q
theorem lp_setHaze_no {n : Nat} {C : Nat → Nat → Int32} {G M S : Nat → Int32} {N a : Nat → Nat → Int32} {y : Int32} (R : hm_R n C G M S N a) {k : Int32} (hk : (k = 1 ∧ ¬ hb_bt y 0 9)) {v : Int32 × Int32 × (Nat → Int32)} (hv : (hb_bt y 0 9 ∧ v = (0, S 4, hb_fu S 4 y)) ∨ (¬ hb_bt y 0 9 ∧ v = (1, 0, S))) : v.1 = k ∧ ¬ k = 0 ∧ hm_R n C G M v.2.2 N a := by
  obtain ⟨rfl, hno⟩ := hk
  rcases hv with ⟨q, rfl⟩ | ⟨-, rfl⟩
  · exact absurd q hno
  · exact ⟨rfl, by decide, R⟩
theorem lp_glow_ok {n : Nat} {C : Nat → Nat → Int32} {G M S : Nat → Int32} {N a : Nat → Nat → Int32} {C2 : Nat → Nat → Int32} {G2 M2 : Nat → Int32} {y : Int32} (R : hm_R n C G M S N a) {u : Unit} (hu : hb_bt y 0 30) {v : Int32 × Int32 × (Nat → Int32)} (hv : (hb_bt y 0 30 ∧ v = (0, S 1, hb_fu S 1 y)) ∨ (¬ hb_bt y 0 30 ∧ v = (1, 0, S))) : v.1 = 0 ∧ v.2.1 = (G 2) ∧ hm_R n C (hb_fu G 2 y) M v.2.2 N a := by
  obtain ⟨h0, h1, h2, h3, h4, h5, h6⟩ := R.2.2.1
  obtain ⟨m, -, hm, e⟩ := hb_bt_nat (lo := 0) (hi := 30) (by decide) (by decide) hu
  rcases hv with ⟨-, rfl⟩ | ⟨q, rfl⟩
  · exact ⟨rfl, h2, R.1, R.2.1, ⟨h0, h1, rfl, h3, h4, h5, m, hm, e⟩, R.2.2.2.1, R.2.2.2.2⟩
  · exact absurd hu q
theorem lp_glow_no {n : Nat} {C : Nat → Nat → Int32} {G M S : Nat → Int32} {N a : Nat → Nat → Int32} {y : Int32} (R : hm_R n C G M S N a) {k : Int32} (hk : (k = 1 ∧ ¬ hb_bt y 0 30)) {v : Int32 × Int32 × (Nat → Int32)} (hv : (hb_bt y 0 30 ∧ v = (0, S 1, hb_fu S 1 y)) ∨ (¬ hb_bt y 0 30 ∧ v = (1, 0, S))) : v.1 = k ∧ ¬ k = 0 ∧ hm_R n C G M v.2.2 N a := by
  obtain ⟨rfl, hno⟩ := hk
  rcases hv with ⟨q, rfl⟩ | ⟨-, rfl⟩
  · exact absurd q hno
  · exact ⟨rfl, by decide, R⟩
theorem lp_bringWood_ok {n : Nat} {C : Nat → Nat → Int32} {G M S : Nat → Int32} {N a : Nat → Nat → Int32} {C2 : Nat → Nat → Int32} {G2 M2 : Nat → Int32} {x : Int32} {y : Int32} (R : hm_R n C G M S N a) {u : Nat} (hu : u < n ∧ x = nI u ∧ hb_bt y 1 30) {v : Int32 × Int32 × (Nat → Int32) × (Nat → Nat → Int32)} (hv : (∃ i, i < n ∧ x = nI i ∧ hb_bt y 1 30 ∧ v = (0, (if (N i 0 + y) < 30 then (N i 0 + y) else 30), S, va_up N i (hb_fu (N i) 0 (if (N i 0 + y) < 30 then (N i 0 + y) else 30)))) ∨ (hb_ok n x ∧ ¬ hb_bt y 1 30 ∧ v = (2, 0, S, N)) ∨ (¬ hb_ok n x ∧ v = (1, 0, S, N))) : v.1 = 0 ∧ v.2.1 = (hb_min (C u 0 + y) 30) ∧ hm_R n (va_up C u (hb_fu (C u) 0 (hb_min (C u 0 + y) 30))) G M v.2.2.1 v.2.2.2 a := by
  obtain ⟨hu1, rfl, hb⟩ := hu
  obtain ⟨g0, g1, g2, g3, g5, g6, gw, ge, gp, gk0, gk1, gf2, gd⟩ := R.2.1 u hu1
  obtain ⟨k0, hk0, e0⟩ := gk0
  obtain ⟨m, -, hm, em⟩ := hb_bt_nat (lo := 1) (hi := 30) (by decide) (by decide) hb
  subst em
  have es : C u 0 + nI m = nI (k0 + m) := by rw [e0, nI_add]
  obtain ⟨m1, m2⟩ := mi_all (k0 + m) (by omega)
  rcases hv with ⟨i, hi, e, -, rfl⟩ | ⟨-, q, rfl⟩ | ⟨hno, rfl⟩
  · cases lw_inj R.1 hu1 hi e
    have ev : (if (N u 0 + nI m) < 30 then (N u 0 + nI m) else 30) = hb_min (C u 0 + nI m) 30 := by rw [g0, es, m1, m2]
    refine ⟨rfl, ev, hm_R_up R hu1 ⟨ev, g1, g2, g3, g5, g6, gw, ge, gp, ⟨if k0 + m < 30 then k0 + m else 30, by split <;> omega, ?_⟩, gk1, gf2, gd⟩⟩
    show hb_min (C u 0 + nI m) 30 = _
    rw [es, m1]
  · exact absurd hb q
  · exact absurd (hb_ok_i hu1) hno
theorem lp_bringWood_no {n : Nat} {C : Nat → Nat → Int32} {G M S : Nat → Int32} {N a : Nat → Nat → Int32} {x : Int32} {y : Int32} (R : hm_R n C G M S N a) {k : Int32} (hk : (k = 1 ∧ ¬ hb_ok n x) ∨ (k = 2 ∧ hb_ok n x ∧ ¬ hb_bt y 1 30)) {v : Int32 × Int32 × (Nat → Int32) × (Nat → Nat → Int32)} (hv : (∃ i, i < n ∧ x = nI i ∧ hb_bt y 1 30 ∧ v = (0, (if (N i 0 + y) < 30 then (N i 0 + y) else 30), S, va_up N i (hb_fu (N i) 0 (if (N i 0 + y) < 30 then (N i 0 + y) else 30)))) ∨ (hb_ok n x ∧ ¬ hb_bt y 1 30 ∧ v = (2, 0, S, N)) ∨ (¬ hb_ok n x ∧ v = (1, 0, S, N))) : v.1 = k ∧ ¬ k = 0 ∧ hm_R n C G M v.2.2.1 v.2.2.2 a := by
  rcases hk with ⟨rfl, hno⟩ | ⟨rfl, o1, hno⟩
  · rcases hv with ⟨i, hi, e, -, rfl⟩ | ⟨o1, -, rfl⟩ | ⟨-, rfl⟩
    · exact absurd ⟨i, hi, e⟩ hno
    · exact absurd o1 hno
    · exact ⟨rfl, by decide, R⟩
  · rcases hv with ⟨i, hi, e, q, rfl⟩ | ⟨-, -, rfl⟩ | ⟨q, rfl⟩
    · exact absurd q hno
    · exact ⟨rfl, by decide, R⟩
    · exact absurd o1 q
theorem lp_setDamp_ok {n : Nat} {C : Nat → Nat → Int32} {G M S : Nat → Int32} {N a : Nat → Nat → Int32} {C2 : Nat → Nat → Int32} {G2 M2 : Nat → Int32} {x : Int32} {y : Int32} (R : hm_R n C G M S N a) {u : Nat} (hu : u < n ∧ x = nI u ∧ hb_bt y 0 9) {v : Int32 × Int32 × (Nat → Int32) × (Nat → Nat → Int32)} (hv : (∃ i, i < n ∧ x = nI i ∧ hb_bt y 0 9 ∧ v = (0, N i 6, S, va_up N i (hb_fu (N i) 6 y))) ∨ (hb_ok n x ∧ ¬ hb_bt y 0 9 ∧ v = (2, 0, S, N)) ∨ (¬ hb_ok n x ∧ v = (1, 0, S, N))) : v.1 = 0 ∧ v.2.1 = (C u 1) ∧ hm_R n (va_up C u (hb_fu (C u) 1 y)) G M v.2.2.1 v.2.2.2 a := by
  obtain ⟨hu1, rfl, hb⟩ := hu
  obtain ⟨g0, g1, g2, g3, g5, g6, gw, ge, gp, gk0, gk1, gf2, gd⟩ := R.2.1 u hu1
  obtain ⟨m, -, hm, em⟩ := hb_bt_nat (lo := 0) (hi := 9) (by decide) (by decide) hb
  rcases hv with ⟨i, hi, e, -, rfl⟩ | ⟨-, q, rfl⟩ | ⟨hno, rfl⟩
  · cases lw_inj R.1 hu1 hi e
    exact ⟨rfl, g6, hm_R_up R hu1 ⟨g0, g1, g2, g3, g5, rfl, gw, ge, gp, gk0, ⟨m, hm, em⟩, gf2, gd⟩⟩
  · exact absurd hb q
  · exact absurd (hb_ok_i hu1) hno
theorem lp_setDamp_no {n : Nat} {C : Nat → Nat → Int32} {G M S : Nat → Int32} {N a : Nat → Nat → Int32} {x : Int32} {y : Int32} (R : hm_R n C G M S N a) {k : Int32} (hk : (k = 1 ∧ ¬ hb_ok n x) ∨ (k = 2 ∧ hb_ok n x ∧ ¬ hb_bt y 0 9)) {v : Int32 × Int32 × (Nat → Int32) × (Nat → Nat → Int32)} (hv : (∃ i, i < n ∧ x = nI i ∧ hb_bt y 0 9 ∧ v = (0, N i 6, S, va_up N i (hb_fu (N i) 6 y))) ∨ (hb_ok n x ∧ ¬ hb_bt y 0 9 ∧ v = (2, 0, S, N)) ∨ (¬ hb_ok n x ∧ v = (1, 0, S, N))) : v.1 = k ∧ ¬ k = 0 ∧ hm_R n C G M v.2.2.1 v.2.2.2 a := by
  rcases hk with ⟨rfl, hno⟩ | ⟨rfl, o1, hno⟩
  · rcases hv with ⟨i, hi, e, -, rfl⟩ | ⟨o1, -, rfl⟩ | ⟨-, rfl⟩
    · exact absurd ⟨i, hi, e⟩ hno
    · exact absurd o1 hno
    · exact ⟨rfl, by decide, R⟩
  · rcases hv with ⟨i, hi, e, q, rfl⟩ | ⟨-, -, rfl⟩ | ⟨q, rfl⟩
    · exact absurd q hno
    · exact ⟨rfl, by decide, R⟩
    · exact absurd o1 q
theorem lp_turnEast_ok {n : Nat} {C : Nat → Nat → Int32} {G M S : Nat → Int32} {N a : Nat → Nat → Int32} {C2 : Nat → Nat → Int32} {G2 M2 : Nat → Int32} {x : Int32} (R : hm_R n C G M S N a) {u : Nat} (hu : u < n ∧ x = nI u) {v : Int32 × Int32 × (Nat → Int32)} (hv : (∃ i, i < n ∧ x = nI i ∧ v = (0, hb_neg (a 3 i), upd (a 3) i (hb_neg (a 3 i)))) ∨ (¬ hb_ok n x ∧ v = (1, 0, a 3))) : v.1 = 0 ∧ v.2.1 = (hb_neg (C u 3)) ∧ hm_R n (va_up C u (hb_fu (C u) 3 (hb_neg (C u 3)))) G M S N (va_up a 3 v.2.2) := by
  obtain ⟨hu1, rfl⟩ := hu
  obtain ⟨g0, g1, g2, g3, g5, g6, gw, ge, gp, gk0, gk1, gf2, gd⟩ := R.2.1 u hu1
  rcases hv with ⟨i, hi, e, rfl⟩ | ⟨hno, rfl⟩
  · cases lw_inj R.1 hu1 hi e
    have en : hb_neg (a 3 u) = hb_neg (C u 3) := by unfold hb_neg; rw [ge]
    refine ⟨rfl, en, R.1, fun j hj => ?_, R.2.2.1, R.2.2.2.1, fun j hj hj10 => ?_⟩
    · show hm_H n (va_up C u _ j) (N j) (a 2 j) (upd (a 3) u (hb_neg (a 3 u)) j) (a 4 j)
      by_cases c : j = u
      · subst c
        rw [va_up_self, pk_us, en]
        exact ⟨g0, g1, g2, g3, g5, g6, gw, rfl, gp, gk0, gk1, gf2, gd⟩
      · rw [va_up_ne _ _ c, pk_un c]
        exact R.2.1 j hj
    · show hm_F (va_up C u _ j) (N j) (upd (a 3) u (hb_neg (a 3 u)) j) (a 4 j)
      rw [va_up_ne _ _ (show j ≠ u by omega), pk_un (show j ≠ u by omega)]
      exact R.2.2.2.2 j hj hj10
  · exact absurd (hb_ok_i hu1) hno
theorem lp_turnEast_no {n : Nat} {C : Nat → Nat → Int32} {G M S : Nat → Int32} {N a : Nat → Nat → Int32} {x : Int32} (R : hm_R n C G M S N a) {k : Int32} (hk : (k = 1 ∧ ¬ hb_ok n x)) {v : Int32 × Int32 × (Nat → Int32)} (hv : (∃ i, i < n ∧ x = nI i ∧ v = (0, hb_neg (a 3 i), upd (a 3) i (hb_neg (a 3 i)))) ∨ (¬ hb_ok n x ∧ v = (1, 0, a 3))) : v.1 = k ∧ ¬ k = 0 ∧ hm_R n C G M S N (va_up a 3 v.2.2) := by
  obtain ⟨rfl, hno⟩ := hk
  rcases hv with ⟨i, hi, e, rfl⟩ | ⟨-, rfl⟩
  · exact absurd ⟨i, hi, e⟩ hno
  · exact ⟨rfl, by decide, R⟩
theorem lp_turnPost_ok {n : Nat} {C : Nat → Nat → Int32} {G M S : Nat → Int32} {N a : Nat → Nat → Int32} {C2 : Nat → Nat → Int32} {G2 M2 : Nat → Int32} {x : Int32} (R : hm_R n C G M S N a) {u : Nat} (hu : u < n ∧ x = nI u) {v : Int32 × Int32 × (Nat → Int32)} (hv : (∃ i, i < n ∧ x = nI i ∧ v = (0, hb_neg (a 4 i), upd (a 4) i (hb_neg (a 4 i)))) ∨ (¬ hb_ok n x ∧ v = (1, 0, a 4))) : v.1 = 0 ∧ v.2.1 = (hb_neg (C u 4)) ∧ hm_R n (va_up C u (hb_fu (C u) 4 (hb_neg (C u 4)))) G M S N (va_up a 4 v.2.2) := by
  obtain ⟨hu1, rfl⟩ := hu
  obtain ⟨g0, g1, g2, g3, g5, g6, gw, ge, gp, gk0, gk1, gf2, gd⟩ := R.2.1 u hu1
  rcases hv with ⟨i, hi, e, rfl⟩ | ⟨hno, rfl⟩
  · cases lw_inj R.1 hu1 hi e
    have en : hb_neg (a 4 u) = hb_neg (C u 4) := by unfold hb_neg; rw [gp]
    refine ⟨rfl, en, R.1, fun j hj => ?_, R.2.2.1, R.2.2.2.1, fun j hj hj10 => ?_⟩
    · show hm_H n (va_up C u _ j) (N j) (a 2 j) (a 3 j) (upd (a 4) u (hb_neg (a 4 u)) j)
      by_cases c : j = u
      · subst c
        rw [va_up_self, pk_us, en]
        exact ⟨g0, g1, g2, g3, g5, g6, gw, ge, rfl, gk0, gk1, gf2, gd⟩
      · rw [va_up_ne _ _ c, pk_un c]
        exact R.2.1 j hj
    · show hm_F (va_up C u _ j) (N j) (a 3 j) (upd (a 4) u (hb_neg (a 4 u)) j)
      rw [va_up_ne _ _ (show j ≠ u by omega), pk_un (show j ≠ u by omega)]
      exact R.2.2.2.2 j hj hj10
  · exact absurd (hb_ok_i hu1) hno
theorem lp_turnPost_no {n : Nat} {C : Nat → Nat → Int32} {G M S : Nat → Int32} {N a : Nat → Nat → Int32} {x : Int32} (R : hm_R n C G M S N a) {k : Int32} (hk : (k = 1 ∧ ¬ hb_ok n x)) {v : Int32 × Int32 × (Nat → Int32)} (hv : (∃ i, i < n ∧ x = nI i ∧ v = (0, hb_neg (a 4 i), upd (a 4) i (hb_neg (a 4 i)))) ∨ (¬ hb_ok n x ∧ v = (1, 0, a 4))) : v.1 = k ∧ ¬ k = 0 ∧ hm_R n C G M S N (va_up a 4 v.2.2) := by
  obtain ⟨rfl, hno⟩ := hk
  rcases hv with ⟨i, hi, e, rfl⟩ | ⟨-, rfl⟩
  · exact absurd ⟨i, hi, e⟩ hno
  · exact ⟨rfl, by decide, R⟩
theorem lp_passMinutes_ok {n : Nat} {C : Nat → Nat → Int32} {G M S : Nat → Int32} {N a : Nat → Nat → Int32} {C2 : Nat → Nat → Int32} {G2 M2 : Nat → Int32} {x : Int32} (R : hm_R n C G M S N a) {u : Nat} (hu : 1 ≤ u ∧ u ≤ 100 ∧ x = nI u) {v : Int32 × Int32 × hm_St} (hv : (∃ p, 1 ≤ p ∧ p ≤ 100 ∧ x = nI p ∧ v = (0, (hm_pm S N a n p).1 2 - S 2, (hm_pm S N a n p))) ∨ (¬ hb_bt x 1 100 ∧ v = (1, 0, S, N, a 8))) : v.1 = 0 ∧ v.2.1 = ((hb_pm C G M n u).2 4 - G 4) ∧ hm_R n (hb_pm C G M n u).1 (hb_pm C G M n u).2 M v.2.2.1 v.2.2.2.1 (va_up a 8 v.2.2.2.2) := by
  obtain ⟨hu1, hu2, rfl⟩ := hu
  rcases hv with ⟨p, p1, p2, e, rfl⟩ | ⟨hno, rfl⟩
  · cases lw_inj2 hu2 p2 e
    have h := hm_R_pm R u
    refine ⟨rfl, ?_, h⟩
    show (hm_pm S N a n u).1 2 - S 2 = _
    rw [h.2.2.1.2.2.2.2.1, R.2.2.1.2.2.2.2.1]
  · exact absurd (lw_bt hu1 hu2) hno
theorem lp_passMinutes_no {n : Nat} {C : Nat → Nat → Int32} {G M S : Nat → Int32} {N a : Nat → Nat → Int32} {x : Int32} (R : hm_R n C G M S N a) {k : Int32} (hk : (k = 1 ∧ ¬ hb_bt x 1 100)) {v : Int32 × Int32 × hm_St} (hv : (∃ p, 1 ≤ p ∧ p ≤ 100 ∧ x = nI p ∧ v = (0, (hm_pm S N a n p).1 2 - S 2, (hm_pm S N a n p))) ∨ (¬ hb_bt x 1 100 ∧ v = (1, 0, S, N, a 8))) : v.1 = k ∧ ¬ k = 0 ∧ hm_R n C G M v.2.2.1 v.2.2.2.1 (va_up a 8 v.2.2.2.2) := by
  obtain ⟨rfl, hno⟩ := hk
  rcases hv with ⟨p, p1, p2, e, rfl⟩ | ⟨-, rfl⟩
  · exact absurd (e ▸ lw_bt p1 p2) hno
  · exact ⟨rfl, by decide, R⟩
theorem lp_burningAfter_ok {n : Nat} {C : Nat → Nat → Int32} {G M S : Nat → Int32} {N a : Nat → Nat → Int32} {C2 : Nat → Nat → Int32} {G2 M2 : Nat → Int32} {x : Int32} (R : hm_R n C G M S N a) {u : Nat × hb_LS} (hu : 1 ≤ u.1 ∧ u.1 ≤ 100 ∧ x = nI u.1) {v : Int32 × Int32 × (Nat → Int32) × (Nat → Int32)} (hv : (∃ p, 1 ≤ p ∧ p ≤ 100 ∧ x = nI p ∧ v.1 = 0 ∧ v.2.1 = hm_bu (hm_pm S N (hm_ka S N a) n p).2.1 n) ∨ (¬ hb_bt x 1 100 ∧ v.1 = 1 ∧ v.2.1 = 0)) : v.1 = 0 ∧ v.2.1 = (hb_burn (hb_pm (hb_cpC C2 C 10) (hb_cpG G2 G) (hb_cpM M2 M 10) n u.1).1 n) ∧ hm_R n C G M S N (va_up (va_up a 7 v.2.2.1) 8 v.2.2.2) := by
  obtain ⟨hu1, hu2, rfl⟩ := hu
  rcases hv with ⟨p, p1, p2, e, v1, v2⟩ | ⟨hno, v1, v2⟩
  · cases lw_inj2 hu2 p2 e
    have R1 : hm_R n C G M S N (hm_ka S N a) := R
    exact ⟨v1, v2.trans (hm_R_bu (hm_R_pm (hm_R_cp R1 C2 G2 M2) u.1) n (Nat.le_refl n)).symm, R⟩
  · exact absurd (lw_bt hu1 hu2) hno
theorem lp_burningAfter_no {n : Nat} {C : Nat → Nat → Int32} {G M S : Nat → Int32} {N a : Nat → Nat → Int32} {x : Int32} (R : hm_R n C G M S N a) {k : Int32} (hk : (k = 1 ∧ ¬ hb_bt x 1 100)) {v : Int32 × Int32 × (Nat → Int32) × (Nat → Int32)} (hv : (∃ p, 1 ≤ p ∧ p ≤ 100 ∧ x = nI p ∧ v.1 = 0 ∧ v.2.1 = hm_bu (hm_pm S N (hm_ka S N a) n p).2.1 n) ∨ (¬ hb_bt x 1 100 ∧ v.1 = 1 ∧ v.2.1 = 0)) : v.1 = k ∧ ¬ k = 0 ∧ hm_R n C G M S N (va_up (va_up a 7 v.2.2.1) 8 v.2.2.2) := by
  obtain ⟨rfl, hno⟩ := hk
  rcases hv with ⟨p, p1, p2, e, v1, v2⟩ | ⟨-, v1, v2⟩
  · exact absurd (e ▸ lw_bt p1 p2) hno
  · exact ⟨v1, by decide, R⟩
theorem lp_minutesUntilBurning_ok {n : Nat} {C : Nat → Nat → Int32} {G M S : Nat → Int32} {N a : Nat → Nat → Int32} {C2 : Nat → Nat → Int32} {G2 M2 : Nat → Int32} {x : Int32} (R : hm_R n C G M S N a) {u : Nat × hb_LS} (hu : u.1 < n ∧ x = nI u.1) {v : Int32 × Int32 × (Nat → Int32) × (Nat → Int32)} (hv : (∃ i, i < n ∧ x = nI i ∧ v.1 = 0 ∧ v.2.1 = hm_mub S N (hm_ka S N a) n i) ∨ (¬ hb_ok n x ∧ v.1 = 1 ∧ v.2.1 = 0)) : v.1 = 0 ∧ v.2.1 = (hb_mub (hb_cpC C2 C 10) (hb_cpG G2 G) (hb_cpM M2 M 10) n u.1) ∧ hm_R n C G M S N (va_up (va_up a 7 v.2.2.1) 8 v.2.2.2) := by
  obtain ⟨hu1, rfl⟩ := hu
  rcases hv with ⟨i, hi, e, v1, v2⟩ | ⟨hno, v1, v2⟩
  · cases lw_inj R.1 hu1 hi e
    have R1 : hm_R n C G M S N (hm_ka S N a) := R
    exact ⟨v1, v2.trans (hm_R_mub (hm_R_cp R1 C2 G2 M2) hu1).symm, R⟩
  · exact absurd (hb_ok_i hu1) hno
theorem lp_minutesUntilBurning_no {n : Nat} {C : Nat → Nat → Int32} {G M S : Nat → Int32} {N a : Nat → Nat → Int32} {x : Int32} (R : hm_R n C G M S N a) {k : Int32} (hk : (k = 1 ∧ ¬ hb_ok n x)) {v : Int32 × Int32 × (Nat → Int32) × (Nat → Int32)} (hv : (∃ i, i < n ∧ x = nI i ∧ v.1 = 0 ∧ v.2.1 = hm_mub S N (hm_ka S N a) n i) ∨ (¬ hb_ok n x ∧ v.1 = 1 ∧ v.2.1 = 0)) : v.1 = k ∧ ¬ k = 0 ∧ hm_R n C G M S N (va_up (va_up a 7 v.2.2.1) 8 v.2.2.2) := by
  obtain ⟨rfl, hno⟩ := hk
  rcases hv with ⟨i, hi, e, v1, v2⟩ | ⟨-, v1, v2⟩
  · exact absurd ⟨i, hi, e⟩ hno
  · exact ⟨v1, by decide, R⟩
theorem lp_addHill_ok {n : Nat} {C : Nat → Nat → Int32} {G M S : Nat → Int32} {N a : Nat → Nat → Int32} {C2 : Nat → Nat → Int32} {G2 M2 : Nat → Int32} {x : Int32} {y : Int32} {z : Int32} (R : hm_R n C G M S N a) {u : Unit} (hu : hb_bt x 0 30 ∧ hb_bt y 0 9 ∧ hb_bt z 1 5 ∧ n < 10) {v : Int32 × Int32 × Int32 × (Nat → Nat → Int32) × (Nat → Int32)} (hv : ((hb_bt x 0 30 ∧ hb_bt y 0 9 ∧ hb_bt z 1 5) ∧ n < 10 ∧ v = (0, nI n, nI (n + 1), va_up N n (hb_fu (hb_fu (hb_fu (N n) 0 x) 6 y) 4 (-1)), upd (a 2) n z)) ∨ ((hb_bt x 0 30 ∧ hb_bt y 0 9 ∧ hb_bt z 1 5) ∧ n = 10 ∧ v = (2, 0, nI n, N, a 2)) ∨ (¬ (hb_bt x 0 30 ∧ hb_bt y 0 9 ∧ hb_bt z 1 5) ∧ v = (1, 0, nI n, N, a 2))) : v.1 = 0 ∧ v.2.1 = (nI n) ∧ hm_R (n + 1) (va_up C n (hb_fu (hb_fu (hb_fu (C n) 0 x) 1 y) 2 z)) (hb_fu G 0 (nI (n + 1))) M S v.2.2.2.1 (va_up a 2 v.2.2.2.2) ∧ v.2.2.1 = nI (n + 1) := by
  obtain ⟨b1, b2, b3, hn10⟩ := hu
  rcases hv with ⟨-, -, rfl⟩ | ⟨-, q, rfl⟩ | ⟨q, rfl⟩
  · exact ⟨rfl, rfl, lw_add R hn10 b1 b2 b3, rfl⟩
  · exact absurd q (by omega)
  · exact absurd ⟨b1, b2, b3⟩ q
theorem lp_addHill_no {n : Nat} {C : Nat → Nat → Int32} {G M S : Nat → Int32} {N a : Nat → Nat → Int32} {x : Int32} {y : Int32} {z : Int32} (R : hm_R n C G M S N a) {k : Int32} (hk : (k = 1 ∧ ¬ (hb_bt x 0 30 ∧ hb_bt y 0 9 ∧ hb_bt z 1 5)) ∨ (k = 2 ∧ (hb_bt x 0 30 ∧ hb_bt y 0 9 ∧ hb_bt z 1 5) ∧ n = 10)) {v : Int32 × Int32 × Int32 × (Nat → Nat → Int32) × (Nat → Int32)} (hv : ((hb_bt x 0 30 ∧ hb_bt y 0 9 ∧ hb_bt z 1 5) ∧ n < 10 ∧ v = (0, nI n, nI (n + 1), va_up N n (hb_fu (hb_fu (hb_fu (N n) 0 x) 6 y) 4 (-1)), upd (a 2) n z)) ∨ ((hb_bt x 0 30 ∧ hb_bt y 0 9 ∧ hb_bt z 1 5) ∧ n = 10 ∧ v = (2, 0, nI n, N, a 2)) ∨ (¬ (hb_bt x 0 30 ∧ hb_bt y 0 9 ∧ hb_bt z 1 5) ∧ v = (1, 0, nI n, N, a 2))) : v.1 = k ∧ ¬ k = 0 ∧ hm_R n C G M S v.2.2.2.1 (va_up a 2 v.2.2.2.2) ∧ v.2.2.1 = nI n := by
  rcases hk with ⟨rfl, hno⟩ | ⟨rfl, hb, h10⟩
  · rcases hv with ⟨q, -, rfl⟩ | ⟨q, -, rfl⟩ | ⟨-, rfl⟩
    · exact absurd q hno
    · exact absurd q hno
    · exact ⟨rfl, by decide, R, rfl⟩
  · rcases hv with ⟨-, q, rfl⟩ | ⟨-, -, rfl⟩ | ⟨q, rfl⟩
    · exact absurd q (by omega)
    · exact ⟨rfl, by decide, R, rfl⟩
    · exact absurd hb q
