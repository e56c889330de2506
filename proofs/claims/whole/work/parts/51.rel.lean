/-! the minute: who looks and answers -/
theorem hm_look {f g G S : Nat → Int32} {e nf to : Int32} (h0 : g 0 = f 0) (h5 : f 5 = 0) (h3 : g 3 = f 8) (he : hb_zb e = hb_zb (f 3)) (hS : S 1 = G 2) (ht : (to = -1) ↔ (nf = -1)) : (if hm_is g S e to = 0 then 0 else g 3 + 1) = (if hb_rdy (hb_fu f 6 (f 5)) = 0 then 0 else if hb_glo (hb_fu f 6 (f 5)) G = 0 then (if nf = -1 then 0 else (hb_fu f 6 (f 5)) 8 + 1) else (hb_fu f 6 (f 5)) 8 + 1) := by
  have r5 : hb_fu f 6 (f 5) 5 = f 5 := rfl
  have r0 : hb_fu f 6 (f 5) 0 = f 0 := rfl
  have r3 : hb_fu f 6 (f 5) 3 = f 3 := rfl
  have r8 : hb_fu f 6 (f 5) 8 = f 8 := rfl
  unfold hm_is hb_rdy hb_glo
  rw [r5, r0, r3, r8, h0, h3, he, hS, h5]
  by_cases c0 : 0 < f 0
  · rw [if_neg (Int32.not_le.mpr c0), if_pos (⟨rfl, c0⟩ : (0 : Int32) = 0 ∧ 0 < f 0), if_neg (show ¬ (1 : Int32) = 0 by decide)]
    by_cases c3 : nf = -1
    · rw [if_pos (ht.mpr c3), if_pos c3]
      by_cases c1 : hb_zb (f 3) = 0
      · rw [if_pos c1, if_pos rfl, if_neg (show ¬ (¬ hb_zb (f 3) = 0 ∧ 0 < G 2) from fun q => q.1 c1), if_pos rfl]
      · rw [if_neg c1]
        by_cases c2 : 0 < G 2
        · rw [if_neg (Int32.not_le.mpr c2), if_neg (show ¬ (1 : Int32) = 0 by decide), if_pos (⟨c1, c2⟩ : ¬ hb_zb (f 3) = 0 ∧ 0 < G 2), if_neg (show ¬ (1 : Int32) = 0 by decide)]
        · rw [if_pos (Int32.not_lt.mp c2), if_pos rfl, if_neg (show ¬ (¬ hb_zb (f 3) = 0 ∧ 0 < G 2) from fun q => c2 q.2), if_pos rfl]
    · rw [if_neg (fun q => c3 (ht.mp q)), if_neg (show ¬ (1 : Int32) = 0 by decide), if_neg c3]
      split <;> rfl
  · rw [if_pos (Int32.not_lt.mp c0), if_pos rfl, if_neg (show ¬ ((0 : Int32) = 0 ∧ 0 < f 0) from fun q => c0 q.2), if_pos rfl]
theorem hm_G_k {n : Nat} {G S : Nat → Int32} (h : hm_G n G S) (src : Int32) : hm_G n (hb_kG G src) (hm_kS S src) := by
  obtain ⟨h0, h1, h2, h3, h4, h5, k, hk, h6⟩ := h
  refine ⟨?_, ?_, ?_, ?_, ?_, ?_, k, hk, ?_⟩
  · rw [hb_kG_0 G src 0 (by decide) (by decide), h0]
  · rw [hb_kG_0 G src 1 (by decide) (by decide)]; exact h1
  · rw [hb_kG_0 G src 2 (by decide) (by decide)]; exact h2
  · rw [hb_kG_0 G src 3 (by decide) (by decide)]; exact h3
  · show S 2 + 1 = _
    unfold hb_kG
    rw [h4]
    split <;> rfl
  · show S 3 + (if src = -1 then 1 else 0) = _
    unfold hb_kG
    rw [h5]
    split
    · rfl
    · exact Int32.add_zero _
  · rw [hb_kG_0 G src 2 (by decide) (by decide)]; exact h6
theorem nI_sub1 {k : Nat} (h : 0 < k) : nI k - 1 = nI (k - 1) := by
  obtain ⟨j, rfl⟩ : ∃ j, k = j + 1 := ⟨k - 1, by omega⟩
  rw [nI_pred]
  rfl
/-- behind j hills: the class's state s, the reference's r -/
def hm_J (n : Nat) (C C2 N a : Nat → Nat → Int32) (j : Nat) (s : (Nat → Nat → Int32) × (Nat → Int32)) (r : (Nat → Int32) × (Nat → Nat → Int32)) : Prop :=
  (∀ k, j ≤ k → s.1 k = C2 k ∧ r.2 k = N k) ∧ (∀ k, k < j → hm_H n (s.1 k) (r.2 k) (a 2 k) (a 3 k) (a 4 k) ∧ s.1 k 6 = C k 5 ∧ (C k 5 = 1 → s.1 k 5 = 1)) ∧ hm_G n s.2 r.1 ∧ ∀ k, k < n → C k 5 = 2 → s.1 k 9 = C k 9 ∧ r.2 k 4 = N k 4
section MINA
variable {n : Nat} {C N a : Nat → Nat → Int32} {G S M : Nat → Int32}
theorem hm_asJ (hn : n ≤ 10) (H : ∀ k, k < n → hm_H n (C k) (N k) (a 2 k) (a 3 k) (a 4 k)) (hG : hm_G n G S) (hV : hm_V M (a 5)) : ∀ j, j ≤ n → hm_J n C (hb_p2 C G M n) N a j (hb_as (hb_p2 C G M n) G M n j) (hm_m2 S N (hm_mA N a n) n j)
  | 0, _ => ⟨fun k _ => ⟨rfl, rfl⟩, fun k h => absurd h (by omega), hG, fun k hk h2 => ⟨by
      show hb_p2 C G M n k 9 = C k 9
      unfold hb_p2 hb_p1
      rw [hb_lo_v, if_pos hk]
      show hb_rem C n k 9 = C k 9
      rw [hb_rem_v, if_pos hk]
      rfl, rfl⟩⟩
  | j + 1, hj => by
    obtain ⟨hA, hB, hC, hD⟩ := hm_asJ hn H hG hV j (by omega)
    have hjn : j < n := by omega
    have e1 : ∀ k, k < n → hb_p1 C n k = hb_fu (C k) 6 (C k 5) := fun k hk => by
      unfold hb_p1
      rw [hb_rem_v, if_pos hk]
    have e2 : hb_p2 C G M n j = hb_loF (hb_p1 C n) G M n j := by
      unfold hb_p2
      rw [hb_lo_v, if_pos hjn]
    have e26 : ∀ k, k < n → hb_p2 C G M n k 6 = C k 5 := fun k hk => by
      unfold hb_p2
      rw [hb_lo_v, if_pos hk]
      show hb_p1 C n k 6 = C k 5
      rw [e1 k hk]
      rfl
    have ew : ∀ k, k < n → hm_mA N a n 8 k = C k 5 := fun k hk => by
      show hm_m1 N (a 8) n k = C k 5
      rw [hm_m1_v, if_pos hk]
      exact (H k hk).2.1
    have hs6 : ∀ t, t < n → hm_mA N a n 8 t = (hb_as (hb_p2 C G M n) G M n j).1 t 6 := fun t ht => by
      rw [ew t ht]
      rcases Nat.lt_or_ge t j with h | h
      · exact (hB t h).2.1.symm
      · rw [(hA t h).1, e26 t ht]
    have hGj1 : (hb_as (hb_p2 C G M n) G M n j).2 1 = G 1 := hb_as_0 1 (by decide) (by decide) j
    have hGj2 : (hb_as (hb_p2 C G M n) G M n j).2 2 = G 2 := hb_as_0 2 (by decide) (by decide) j
    have hjA := hA j (Nat.le_refl j)
    have hfj : hb_p2 C G M n j 2 = C j 2 := by
      rw [e2]
      show hb_p1 C n j 2 = C j 2
      rw [e1 j hjn]
      rfl
    obtain ⟨g0, g1, g2, g3, g5, g6, gw, ge, gp, ⟨k0, hk0, gk0⟩, ⟨k1, hk1, gk1⟩, gf2, gd⟩ := H j hjn
    rw [hb_as_s, hm_m2_s, ew j hjn, hjA.1, hfj]
    have N1 := hm_nf (C := hb_p1 C n) (G := G) (M := M) (mi := hm_mA N a n 5) (was := hm_mA N a n 8) (hz := (hm_m2 S N (hm_mA N a n) n j).1 4) hn hjn hV (by rw [hC.2.1, hGj1]) (fun t ht => by rw [ew t ht, e1 t ht]; rfl) n (Nat.le_refl n)
    have N2 := hm_nf (C := (hb_as (hb_p2 C G M n) G M n j).1) (G := (hb_as (hb_p2 C G M n) G M n j).2) (M := M) (mi := hm_mA N a n 5) (was := hm_mA N a n 8) (hz := (hm_m2 S N (hm_mA N a n) n j).1 4) hn hjn hV hC.2.1 hs6 n (Nat.le_refl n)
    rcases gd with ⟨d5, d9, d4⟩ | ⟨d5, d8, d4, dS⟩
    · -- dark
      rw [if_pos d5]
      have hto : (hm_o (hm_ne ((hm_m2 S N (hm_mA N a n) n j).1 4) (hm_mA N a n 5) (hm_mA N a n 8) j n) = -1) ↔ ((hb_nf (hb_p1 C n) G M j n).1 = -1) := by
        rcases N1 with ⟨q1, q2⟩ | ⟨t, q1, q2, q3, q4⟩
        · rw [q1, q2]; exact ⟨fun _ => rfl, fun _ => rfl⟩
        · rw [q3, q4]; exact Iff.rfl
      have hv := hm_look (f := C j) (g := N j) (G := G) (S := (hm_m2 S N (hm_mA N a n) n j).1) (e := a 3 j) g0 d5 g3 ge (by rw [hC.2.2.1, hGj2]) hto
      have e8 : hb_p2 C G M n j = hb_fu (hb_fu (C j) 6 (C j 5)) 8 (if hm_is (N j) (hm_m2 S N (hm_mA N a n) n j).1 (a 3 j) (hm_o (hm_ne ((hm_m2 S N (hm_mA N a n) n j).1 4) (hm_mA N a n 5) (hm_mA N a n 8) j n)) = 0 then 0 else N j 3 + 1) := by
        rw [e2]
        unfold hb_loF
        rw [e1 j hjn, hv]
      have eF : hm_lF ((hm_m2 S N (hm_mA N a n) n j).2 j) (hm_m2 S N (hm_mA N a n) n j).1 (hm_mA N a n 3 j) (hm_o (hm_ne ((hm_m2 S N (hm_mA N a n) n j).1 4) (hm_mA N a n 5) (hm_mA N a n 8) j n)) = hb_fu (N j) 3 (if hm_is (N j) (hm_m2 S N (hm_mA N a n) n j).1 (a 3 j) (hm_o (hm_ne ((hm_m2 S N (hm_mA N a n) n j).1 4) (hm_mA N a n 5) (hm_mA N a n 8) j n)) = 0 then 0 else N j 3 + 1) := by
        rw [hjA.2]
        rfl
      have hz : ¬ 0 < C j 0 → (if hm_is (N j) (hm_m2 S N (hm_mA N a n) n j).1 (a 3 j) (hm_o (hm_ne ((hm_m2 S N (hm_mA N a n) n j).1 4) (hm_mA N a n 5) (hm_mA N a n 8) j n)) = 0 then 0 else N j 3 + 1) = 0 := fun q => by
        have : hm_is (N j) (hm_m2 S N (hm_mA N a n) n j).1 (a 3 j) (hm_o (hm_ne ((hm_m2 S N (hm_mA N a n) n j).1 4) (hm_mA N a n 5) (hm_mA N a n 8) j n)) = 0 := by
          unfold hm_is
          rw [g0, if_pos (Int32.not_lt.mp q)]
        rw [if_pos this]
      unfold hm_lk
      rw [eF]
      have e88 : hb_p2 C G M n j 8 = (if hm_is (N j) (hm_m2 S N (hm_mA N a n) n j).1 (a 3 j) (hm_o (hm_ne ((hm_m2 S N (hm_mA N a n) n j).1 4) (hm_mA N a n 5) (hm_mA N a n 8) j n)) = 0 then 0 else N j 3 + 1) := by rw [e8]; rfl
      rw [e88]
      have e33 : hb_fu (N j) 3 (if hm_is (N j) (hm_m2 S N (hm_mA N a n) n j).1 (a 3 j) (hm_o (hm_ne ((hm_m2 S N (hm_mA N a n) n j).1 4) (hm_mA N a n 5) (hm_mA N a n 8) j n)) = 0 then 0 else N j 3 + 1) 3 = (if hm_is (N j) (hm_m2 S N (hm_mA N a n) n j).1 (a 3 j) (hm_o (hm_ne ((hm_m2 S N (hm_mA N a n) n j).1 4) (hm_mA N a n 5) (hm_mA N a n 8) j n)) = 0 then 0 else N j 3 + 1) := rfl
      have ea2 : hm_mA N a n 2 j = C j 2 := gw
      rw [e33, ea2]
      generalize (if hm_is (N j) (hm_m2 S N (hm_mA N a n) n j).1 (a 3 j) (hm_o (hm_ne ((hm_m2 S N (hm_mA N a n) n j).1 4) (hm_mA N a n 5) (hm_mA N a n 8) j n)) = 0 then 0 else N j 3 + 1) = v at e8 hz
      by_cases cv : v < C j 2
      · rw [if_pos cv, if_neg (Int32.not_le.mpr cv)]
        refine ⟨fun k hk => ⟨(hA k (by omega)).1, ?_⟩, fun k hk => ?_, hC, fun k hk h2 => ⟨(hD k hk h2).1, ?_⟩⟩
        · show va_up (α := Nat → Int32) _ j _ k = _
          rw [va_up_ne _ _ (by omega)]
          exact (hA k (by omega)).2
        · show hm_H n _ (va_up (α := Nat → Int32) _ j _ k) _ _ _ ∧ _
          by_cases ek : k = j
          · subst ek
            rw [va_up_self, hjA.1, e8]
            exact ⟨⟨g0, g1, g2, rfl, g5, g6, gw, ge, gp, ⟨k0, hk0, gk0⟩, ⟨k1, hk1, gk1⟩, gf2, Or.inl ⟨d5, d9, d4⟩⟩, rfl, fun q => q⟩
          · rw [va_up_ne _ _ ek]
            exact hB k (by omega)
        · show va_up (α := Nat → Int32) _ j _ k 4 = _
          have ek : k ≠ j := fun q => by subst q; rw [d5] at h2; exact absurd h2 (by decide)
          rw [va_up_ne _ _ ek]
          exact (hD k hk h2).2
      · have cv2 : C j 2 ≤ v := Int32.not_lt.mp cv
        rw [if_neg cv, if_pos cv2]
        have hw0 : 0 < C j 0 := by
          by_cases q : 0 < C j 0
          · exact q
          · rw [hz q] at cv2
            exact absurd (Int32.lt_of_lt_of_le gf2 cv2) (by decide)
        have hk00 : 0 < k0 := by
          rcases Nat.eq_zero_or_pos k0 with q | q
          · subst q
            rw [gk0] at hw0
            exact absurd hw0 (by decide)
          · exact q
        have hsrc : hb_ssf (hb_as (hb_p2 C G M n) G M n j).1 (hb_as (hb_p2 C G M n) G M n j).2 M n j = hm_sr (va_up (hm_m2 S N (hm_mA N a n) n j).2 j (hb_fu (N j) 3 v)) (hm_ne ((hm_m2 S N (hm_mA N a n) n j).1 4) (hm_mA N a n 5) (hm_mA N a n 8) j n) ∧ (hb_ssf (hb_as (hb_p2 C G M n) G M n j).1 (hb_as (hb_p2 C G M n) G M n j).2 M n j = -1 ∨ ∃ s, s < n ∧ hb_ssf (hb_as (hb_p2 C G M n) G M n j).1 (hb_as (hb_p2 C G M n) G M n j).2 M n j = nI s) := by
          unfold hb_ssf
          rcases N2 with ⟨q1, q2⟩ | ⟨t, q1, q2, q3, q4⟩
          · rw [q1, q2]
            exact ⟨rfl, Or.inl rfl⟩
          · rw [q3, q4]
            have ht5 : C t 5 = 2 := by
              rw [← ew t q1, hs6 t q1]; exact q2
            have htj : t ≠ j := fun q => by subst q; rw [d5] at ht5; exact absurd ht5 (by decide)
            obtain ⟨h9, h4⟩ := hD t q1 ht5
            rw [if_neg (hm_neg (by omega)), hb_hx_nI (by omega), h9]
            obtain ⟨-, -, -, -, -, -, -, -, -, -, -, -, hd⟩ := H t q1
            rcases hd with ⟨x5, -, -⟩ | ⟨-, -, x4, xS⟩
            · rw [x5] at ht5; exact absurd ht5 (by decide)
            · refine ⟨?_, xS⟩
              show C t 9 = va_up (α := Nat → Int32) _ j _ t 4
              rw [va_up_ne _ _ htj, h4, x4]
        rw [← hsrc.1]
        generalize hb_ssf (hb_as (hb_p2 C G M n) G M n j).1 (hb_as (hb_p2 C G M n) G M n j).2 M n j = src at hsrc
        refine ⟨fun k hk => ⟨?_, ?_⟩, fun k hk => ?_, hm_G_k hC src, fun k hk h2 => ?_⟩
        · show va_up (α := Nat → Int32) _ j _ k = _
          rw [va_up_ne _ _ (by omega)]
          exact (hA k (by omega)).1
        · show va_up (α := Nat → Int32) _ j _ k = _
          rw [va_up_ne _ _ (by omega)]
          exact (hA k (by omega)).2
        · show hm_H n (va_up (α := Nat → Int32) _ j _ k) (va_up (α := Nat → Int32) _ j _ k) _ _ _ ∧ va_up (α := Nat → Int32) _ j _ k 6 = _ ∧ (_ → va_up (α := Nat → Int32) _ j _ k 5 = 1)
          by_cases ek : k = j
          · subst ek
            rw [va_up_self, va_up_self, hjA.1, e8]
            refine ⟨⟨congrArg (fun z => z - 1) g0, rfl, congrArg (fun z => z + 1) g6, rfl, g5, g6, gw, ge, gp, ⟨k0 - 1, by omega, ?_⟩, ⟨k1, hk1, gk1⟩, gf2, Or.inr ⟨Or.inl rfl, rfl, rfl, hsrc.2⟩⟩, rfl, fun _ => rfl⟩
            show C k 0 - 1 = nI (k0 - 1)
            rw [gk0, nI_sub1 hk00]
          · rw [va_up_ne _ _ ek, va_up_ne _ _ ek]
            exact hB k (by omega)
        · show va_up (α := Nat → Int32) _ j _ k 9 = _ ∧ va_up (α := Nat → Int32) _ j _ k 4 = _
          have ek : k ≠ j := fun q => by subst q; rw [d5] at h2; exact absurd h2 (by decide)
          rw [va_up_ne _ _ ek, va_up_ne _ _ ek]
          exact hD k hk h2
    · -- not dark
      have h50 : ¬ C j 5 = 0 := by
        rcases d5 with q | q <;> rw [q] <;> decide
      rw [if_neg h50]
      have e8 : hb_p2 C G M n j = hb_fu (hb_fu (C j) 6 (C j 5)) 8 0 := by
        rw [e2]
        unfold hb_loF
        rw [e1 j hjn]
        have hr : hb_rdy (hb_fu (C j) 6 (C j 5)) = 0 := by
          unfold hb_rdy
          rw [if_neg (fun q => h50 q.1)]
        rw [if_pos hr]
      have e88 : hb_p2 C G M n j 8 = 0 := by rw [e8]; rfl
      rw [e88, if_pos gf2]
      refine ⟨fun k hk => hA k (by omega), fun k hk => ?_, hC, hD⟩
      by_cases ek : k = j
      · subst ek
        rw [hjA.1, hjA.2, e8]
        exact ⟨⟨g0, g1, g2, g3.trans d8, g5, g6, gw, ge, gp, ⟨k0, hk0, gk0⟩, ⟨k1, hk1, gk1⟩, gf2, Or.inr ⟨d5, rfl, d4, dS⟩⟩, rfl, fun q => q⟩
      · exact hB k (by omega)
end MINA
