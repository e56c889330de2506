/-! the rehearsal's copy, sums, the checksum -/
theorem hb_cpC_v (D C : Nat → Nat → Int32) : ∀ j k, hb_cpC D C j k = if k < j then hb_copyF (D k) (C k) else D k
  | 0, k => by rw [if_neg (by omega)]; rfl
  | j + 1, k => by
    rw [hb_cpC_s]
    by_cases e : k = j
    · subst e
      rw [va_up_self, if_pos (by omega), hb_cpC_v D C k k, if_neg (by omega)]
    · rw [va_up_ne _ _ e, hb_cpC_v D C j k]
      by_cases h : k < j
      · rw [if_pos h, if_pos (by omega)]
      · rw [if_neg h, if_neg (by omega)]
theorem hb_cpR_v (m M : Nat → Int32) (i : Nat) : ∀ j p, hb_cpR m M i j p = if i * 10 ≤ p ∧ p < i * 10 + j then M p else m p
  | 0, p => by rw [if_neg (by omega)]; rfl
  | j + 1, p => by
    rw [hb_cpR_s]
    by_cases e : p = i * 10 + j
    · subst e
      rw [pk_us, if_pos (by omega)]
    · rw [pk_un e, hb_cpR_v m M i j p]
      by_cases h : i * 10 ≤ p ∧ p < i * 10 + j
      · rw [if_pos h, if_pos (by omega)]
      · rw [if_neg h, if_neg (by omega)]
theorem hb_cpM_v (m M : Nat → Int32) : ∀ j p, hb_cpM m M j p = if p < j * 10 then M p else m p
  | 0, p => by rw [if_neg (by omega)]; rfl
  | j + 1, p => by
    rw [hb_cpM_s, hb_cpR_v, hb_cpM_v m M j p]
    by_cases h : j * 10 ≤ p ∧ p < j * 10 + 10
    · rw [if_pos h, if_pos (by omega)]
    · rw [if_neg h]
      by_cases h2 : p < j * 10
      · rw [if_pos h2, if_pos (by omega)]
      · rw [if_neg h2, if_neg (by omega)]
section REL
variable {n : Nat} {C : Nat → Nat → Int32} {G M S : Nat → Int32} {N a : Nat → Nat → Int32}
theorem hm_R_cp (h : hm_R n C G M S N a) (D : Nat → Nat → Int32) (G2 M2 : Nat → Int32) : hm_R n (hb_cpC D C 10) (hb_cpG G2 G) (hb_cpM M2 M 10) S N a := by
  obtain ⟨hn, hH, hG, hV, hF⟩ := h
  refine ⟨hn, fun k hk => ?_, hG, fun p hp => ?_, fun k hk hk10 => ?_⟩
  · obtain ⟨g0, g1, g2, g3, g5, g6, gw, ge, gp, gk0, gk1, gf2, gd⟩ := hH k hk
    rw [hb_cpC_v, if_pos (by omega)]
    exact ⟨g0, g1, g2, g3, g5, g6, gw, ge.trans (hb_zb_zb _).symm, gp.trans (hb_zb_zb _).symm, gk0, gk1, gf2, gd⟩
  · rw [hb_cpM_v, if_pos (by omega)]
    exact hV p hp
  · obtain ⟨f5, f7, f8, f9, f10, f3, f4, r⟩ := hF k hk hk10
    rw [hb_cpC_v, if_pos (by omega)]
    exact ⟨f5, f7, f8, f9, f10, (hb_zb_zb _).trans f3, (hb_zb_zb _).trans f4, r⟩
theorem hm_R_up (h : hm_R n C G M S N a) {i : Nat} (hi : i < n) {f g : Nat → Int32} (hf : hm_H n f g (a 2 i) (a 3 i) (a 4 i)) : hm_R n (va_up C i f) G M S (va_up N i g) a := by
  obtain ⟨hn, hH, hG, hV, hF⟩ := h
  refine ⟨hn, fun k hk => ?_, hG, hV, fun k hk hk10 => ?_⟩
  · by_cases e : k = i
    · subst e
      rw [va_up_self, va_up_self]
      exact hf
    · rw [va_up_ne _ _ e, va_up_ne _ _ e]
      exact hH k hk
  · rw [va_up_ne _ _ (by omega), va_up_ne _ _ (by omega)]
    exact hF k hk hk10
theorem hm_rdy {f g : Nat → Int32} {w e p : Int32} (h : hm_H n f g w e p) : (hb_rdy f = 0) ↔ ¬ (g 1 = 0 ∧ 0 < g 0) := by
  obtain ⟨g0, g1, -⟩ := h
  unfold hb_rdy
  rw [g0, g1]
  by_cases q : f 5 = 0 ∧ 0 < f 0
  · rw [if_pos q]
    exact ⟨fun x => absurd x (by decide), fun x => absurd q x⟩
  · rw [if_neg q]
    exact ⟨fun _ => q, fun _ => rfl⟩
theorem hm_R_light (h : hm_R n C G M S N a) {i : Nat} (hi : i < n) (hr : N i 1 = 0 ∧ 0 < N i 0) : hm_R n (hb_hC C i) (hb_kG G (nI i)) M (hm_kS S (nI i)) (hm_lN N i) a := by
  obtain ⟨g0, g1, g2, g3, g5, g6, gw, ge, gp, ⟨k0, hk0, gk0⟩, gk1, gf2, gd⟩ := h.2.1 i hi
  have hk00 : 0 < k0 := by
    rcases Nat.eq_zero_or_pos k0 with q | q
    · subst q
      have := hr.2
      rw [g0, gk0] at this
      exact absurd this (by decide)
    · exact q
  have h1 : hm_R n (hb_hC C i) G M S (hm_lN N i) a := hm_R_up h hi ⟨congrArg (fun z => z - 1) g0, rfl, congrArg (fun z => z + 1) g6, rfl, rfl, g6, gw, ge, gp, ⟨k0 - 1, by omega, by show C i 0 - 1 = _; rw [gk0, nI_sub1 hk00]⟩, gk1, gf2, Or.inr ⟨Or.inl rfl, rfl, rfl, Or.inr ⟨i, hi, rfl⟩⟩⟩
  exact ⟨h1.1, h1.2.1, hm_G_k h1.2.2.1 _, h1.2.2.2.1, h1.2.2.2.2⟩
theorem hm_R_bu (h : hm_R n C G M S N a) : ∀ j, j ≤ n → hb_burn C j = hm_bu N j
  | 0, _ => rfl
  | j + 1, hj => by
    rw [hb_burn_s, hm_bu_s, hm_R_bu h j (by omega), (h.2.1 j (by omega)).2.1]
    split
    · rfl
    · exact (Int32.add_zero _).symm
theorem hm_R_wo (h : hm_R n C G M S N a) : ∀ j, j ≤ n → hb_wood C j = hm_wo N j ∧ ∃ k : Nat, k ≤ 30 * j ∧ hm_wo N j = nI k
  | 0, _ => ⟨rfl, 0, Nat.le_refl _, rfl⟩
  | j + 1, hj => by
    obtain ⟨e, k, hk, e2⟩ := hm_R_wo h j (by omega)
    obtain ⟨g0, -, -, -, -, -, -, -, -, ⟨k0, hk0, gk0⟩, -⟩ := h.2.1 j (by omega)
    rw [hb_wood_s, hm_wo_s, e, g0]
    refine ⟨rfl, k + k0, by omega, ?_⟩
    rw [e2, gk0, nI_add]
theorem hm_R_mean (h : hm_R n C G M S N a) : hb_mean C G n = hm_mean N n := by
  unfold hb_mean hm_mean
  rw [(hm_R_wo h n (Nat.le_refl n)).1, h.2.2.1.1]
  have hn := h.1
  rcases Nat.eq_zero_or_pos n with q | q
  · subst q
    rfl
  · rw [if_pos (show (0 : Int32) < nI n from nI_lt (a := 0) q (by omega)), if_neg (show ¬ nI n = 0 from fun e => by
      have := nI_lt (a := 0) q (b := n) (by omega)
      rw [e] at this
      exact absurd this (by decide))]
theorem hm_R_dl (h : hm_R n C G M S N a) : hb_dl C G n 1883 = hm_dl S N n := by
  obtain ⟨h0, h1, h2, h3, h4, h5, -⟩ := h.2.2.1
  unfold hb_dl hm_dl
  rw [hm_R_bu h n (Nat.le_refl n), h0, ← h1, ← h2, ← h3, ← h4, ← h5]
theorem hm_if {p q : Prop} [Decidable p] [Decidable q] {x y : Int32} {u v : Int64} (hpq : p ↔ q) (hx : x.toInt64 = u) (hy : y.toInt64 = v) : (if p then x else y).toInt64 = if q then u else v := by
  by_cases c : p
  · rw [if_pos c, if_pos (hpq.mp c), hx]
  · rw [if_neg c, if_neg (fun d => c (hpq.mpr d)), hy]
theorem hm_if_not {p : Prop} [Decidable p] : (if p then (0 : Int32) else 1).toInt64 = hb_if (¬ p) := by
  unfold hb_if
  by_cases c : p
  · rw [if_pos c, if_neg (fun d => d c)]; rfl
  · rw [if_neg c, if_pos c]; rfl
theorem hm_if_yes {p : Prop} [Decidable p] : (if p then (1 : Int32) else 0).toInt64 = hb_if p := by
  unfold hb_if
  by_cases c : p
  · rw [if_pos c, if_pos c]; rfl
  · rw [if_neg c, if_neg c]; rfl
theorem hm_R_dh (h : hm_R n C G M S N a) {j : Nat} (hj : j < n) (d : Int64) : hb_dh (C j) d = hm_dh N a j d := by
  obtain ⟨g0, g1, g2, g3, g5, g6, gw, ge, gp, -, -, -, gd⟩ := h.2.1 j hj
  unfold hb_dh hm_dh
  rw [hm_if_not, hm_if_not, hm_if_yes, hm_if_yes, g0, g6, gw, ge, gp, g1, g2, g3, g5]
  have e : (if C j 5 = 0 then (-2 : Int32) else N j 4) = C j 9 := by
    rcases gd with ⟨d5, d9, -⟩ | ⟨d5, -, d4, -⟩
    · rw [if_pos d5, d9]
    · rw [if_neg (by rcases d5 with q | q <;> rw [q] <;> decide), d4]
  rw [e]
theorem hm_R_dhs (h : hm_R n C G M S N a) (d : Int64) : ∀ j, j ≤ n → hb_dhs C d j = hm_dhs N a d j
  | 0, _ => (show hb_dhs C d 0 = d from rfl).trans (show hm_dhs N a d 0 = d from rfl).symm
  | j + 1, hj => by rw [hb_dhs_s, hm_dhs_s, hm_R_dhs h d j (by omega), hm_R_dh h (by omega)]
theorem hm_R_dr (h : hm_R n C G M S N a) {i : Nat} (hi : i < n) (d : Int64) : ∀ j, j ≤ n → hb_dr G M i d j = hm_dr (S 4) (a 5) i d j
  | 0, _ => rfl
  | j + 1, hj => by
    have hn := h.1
    rw [hb_dr_s, hm_dr_s, hm_R_dr h hi d j (by omega), (h.2.2.2.1 (i * 10 + j) (by omega)).1, h.2.2.1.2.1, hm_if_not]
theorem hm_R_ds (h : hm_R n C G M S N a) (d : Int64) : ∀ j, j ≤ n → hb_ds G M n d j = hm_ds (S 4) (a 5) n d j
  | 0, _ => rfl
  | j + 1, hj => by rw [hb_ds_s, hm_ds_s, hm_R_ds h d j (by omega), hm_R_dr h (by omega) _ n (Nat.le_refl n)]
theorem hm_R_dig (h : hm_R n C G M S N a) : hb_dig C G M n = hm_dig S N a n := by
  unfold hb_dig hm_dig
  rw [hm_R_dl h, hm_R_dhs h _ n (Nat.le_refl n), hm_R_ds h _ n (Nat.le_refl n)]
theorem hb_first_c {P Q : Nat → Int32} (h : ∀ j, P j = Q j) : ∀ m s, hb_first P m s = hb_first Q m s
  | 0, _ => rfl
  | m + 1, s => by
    show (if P s = 0 then hb_first P m (s + 1) else nI s) = (if Q s = 0 then hb_first Q m (s + 1) else nI s)
    rw [h s, hb_first_c h m (s + 1)]
theorem hm_R_mub (h : hm_R n C G M S N a) {i : Nat} (hi : i < n) : hb_mub C G M n i = hm_mub S N a n i := by
  unfold hb_mub hm_mub
  refine hb_first_c (fun j => ?_) _ _
  have h1 := hm_R_pm h j
  show (if (hb_pm C G M n j).1 i 5 = 2 then (1 : Int32) else 0) = if (hm_pm S N a n j).2.1 i 1 = 2 then 1 else 0
  rw [(h1.2.1 i hi).2.1]
/-- the hills that answered -/
theorem hm_R_sn (h : hm_R n C G M S N a) (src s0 : Int32) : ∀ j, j ≤ n → hm_sn N src s0 j = s0 ||| hb_bset C src j
  | 0, _ => (Int32.or_zero).symm
  | j + 1, hj => by
    obtain ⟨g0, g1, g2, g3, g5, g6, gw, ge, gp, -, -, -, gd⟩ := h.2.1 j (by omega)
    rw [hm_sn_s, hb_bset_s, hm_R_sn h src s0 j (by omega), g1]
    by_cases c : C j 5 = 2
    · have e : N j 4 = C j 9 := by
        rcases gd with ⟨d5, -, -⟩ | ⟨-, -, d4, -⟩
        · rw [d5] at c; exact absurd c (by decide)
        · exact d4
      rw [if_pos c, if_pos c, e]
      by_cases c2 : C j 9 = src
      · rw [if_pos c2, if_pos c2, Int32.or_assoc]
      · rw [if_neg c2, if_neg c2]
    · rw [if_neg c, if_neg c]
theorem hm_R_rc (h : hm_R n C G M S N a) (i : Nat) : ∀ j, hb_rc C G M n i j = hm_rc S N a n i j
  | 0 => rfl
  | j + 1 => by rw [hb_rc_s, hm_rc_s, hm_R_rc h i j, hm_R_sn (hm_R_pm h (j + 1)) _ _ n (Nat.le_refl n)]
end REL
