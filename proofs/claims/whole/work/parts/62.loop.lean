/-! the law's loop -/
theorem lw_len {L j : Nat} (hL : L ≤ 2048) (hj : j ≤ 513) (c : ¬ (nI L - 4) < nI (4 * j)) : 4 * j + 3 < L := by
  rcases Nat.lt_or_ge L 4 with h | h
  · have h0 : (nI L - 4) < 0 := by
      rcases (show L = 0 ∨ L = 1 ∨ L = 2 ∨ L = 3 by omega) with rfl | rfl | rfl | rfl <;> decide
    exact absurd (Int32.lt_of_lt_of_le h0 (Int32.not_lt.mp (nI_pos (by omega)))) c
  · have e : nI L - 4 = nI (L - 4) := by
      have h1 : nI L = nI (L - 4) + 4 := by
        rw [show nI (L - 4) + 4 = nI (L - 4 + 4) from nI_add (L - 4) 4, show L - 4 + 4 = L by omega]
      rw [h1, Int32.add_sub_cancel]
    rw [e] at c
    rcases Nat.lt_or_ge (L - 4) (4 * j) with q | q
    · exact absurd (nI_lt q (by omega)) c
    · omega
set_option maxHeartbeats 4000000 in
set_option maxRecDepth 100000 in
theorem lw_loop {Γ : jk_G} {E : jk_T} (K : jk_C Γ E RL cL_law 9 wsL_law ({ frames := 13, cells := 601024, slots := 7293034, locals := 468 } : Room)) {sb L : Nat} {xs : Nat → Int32} (XL : jk_LX Γ sb L xs) (hL : L ≤ 2048) (hz : lw_Zl Γ) {q : Nat} {b1 b2 : Nat → Nat} {ao : Nat} {m : Nat → Nat} : ∀ j, j ≤ 513 → ∀ (O : Nat → Int64) (C : Nat → Nat → Int32) (G M : Nat → Int32) (C2 : Nat → Nat → Int32) (G2 M2 : Nat → Int32) (th : Int32) (n : Nat) (S : Nat → Int32) (N a : Nat → Nat → Int32), hm_R n C G M S N a → jk_J Γ E (lw_w E q b1 b2 ao m O C G M C2 G2 M2 th n S N a) (40 + 11 * j) (804 + 117 * j) 23 [(4, .int (nI (4 * j))), (3, .ref ao), (2, .ref (m 0)), (1, .ref q), (0, .ref sb)] [] := by
  have hl := K.2.2.2.2.2.2.2.2.2.2
  refine jk_loop (fun j hj9 ih => ?_)
  intro O C G M C2 G2 M2 th n S N a R
  refine jk_iload K dL_law_23 0 rfl ?_
  refine jk_aload_n K dL_law_25 rfl 4 rfl ?_
  refine jk_xlen K XL dL_law_26 ?_
  refine jk_iconst (x := 4) K dL_law_27 rfl ?_
  refine jk_isub K dL_law_28 ?_
  refine jk_icmp_gt (tgt := 2161) K dL_law_29 rfl (fun c_29 => ?_) (fun c_29 => ?_)
  · refine jk_iconst (x := 1) K dL_law_2161 rfl ?_
    exact lw_done hz dL_law_2162 (by omega) (by omega)
  · have hj : 4 * j + 3 < L := lw_len hL hj9 c_29
    have kk : ∀ (O : Nat → Int64) (C : Nat → Nat → Int32) (G M : Nat → Int32) (C2 : Nat → Nat → Int32) (G2 M2 : Nat → Int32) (th : Int32) (n : Nat) (S : Nat → Int32) (N a : Nat → Nat → Int32), hm_R n C G M S N a → jk_J Γ E (lw_w E q b1 b2 ao m O C G M C2 G2 M2 th n S N a) (40 + 11 * j + 11) (804 + 117 * j + 117) 2155 [(4, .int (nI (4 * j))), (3, .ref ao), (2, .ref (m 0)), (1, .ref q), (0, .ref sb)] [] := by
      intro O C G M C2 G2 M2 th n S N a R
      refine jk_iinc (v := (nI (4 * (j + 1)))) (lv' := [(4, .int (nI (4 * (j + 1)))), (3, .ref ao), (2, .ref (m 0)), (1, .ref q), (0, .ref sb)]) K dL_law_2155 0 rfl (show nI (4 * j) + nI 4 = nI (4 * j + 4) from nI_add _ _) (by decide) rfl ?_
      refine jk_goto (tgt := 23) K dL_law_2158 rfl ?_
      refine jk_wide (n' := 40 + 11 * (j + 1)) (k' := 804 + 117 * (j + 1)) (by omega) (by omega) ?_
      exact ih (by omega) _ _ _ _ _ _ _ _ _ _ _ _ R
    refine jk_aload_n K dL_law_32 rfl 4 rfl ?_
    refine jk_iload K dL_law_33 0 rfl ?_
    refine jk_xld (v := xs (4 * j)) K XL dL_law_35 (vp_in_nI (by omega) (by omega)) (congrArg xs (nI_clamp (by omega))) ?_
    refine jk_bipush (x := 63) K dL_law_36 rfl ?_
    refine jk_iand K dL_law_38 ?_
    generalize xs (4 * j) &&& 63 = w
    by_cases hw : w.toInt < 0 ∨ 38 < w.toInt
    · refine jk_tableOut (tgt := 2155) K dL_law_39 hw (by decide) ?_
      exact jk_wide (by omega) (by omega) (kk _ _ _ _ _ _ _ _ _ _ _ _ R)
    · have h1 : ¬ w.toInt < 0 := fun q => hw (Or.inl q)
      have h2 : ¬ 38 < w.toInt := fun q => hw (Or.inr q)
      rcases (show w.toInt = 0 ∨ w.toInt = 1 ∨ w.toInt = 2 ∨ w.toInt = 3 ∨ w.toInt = 4 ∨ w.toInt = 5 ∨ w.toInt = 6 ∨ w.toInt = 7 ∨ w.toInt = 8 ∨ w.toInt = 9 ∨ w.toInt = 10 ∨ w.toInt = 11 ∨ w.toInt = 12 ∨ w.toInt = 13 ∨ w.toInt = 14 ∨ w.toInt = 15 ∨ w.toInt = 16 ∨ w.toInt = 17 ∨ w.toInt = 18 ∨ w.toInt = 19 ∨ w.toInt = 20 ∨ w.toInt = 21 ∨ w.toInt = 22 ∨ w.toInt = 23 ∨ w.toInt = 24 ∨ w.toInt = 25 ∨ w.toInt = 26 ∨ w.toInt = 27 ∨ w.toInt = 28 ∨ w.toInt = 29 ∨ w.toInt = 30 ∨ w.toInt = 31 ∨ w.toInt = 32 ∨ w.toInt = 33 ∨ w.toInt = 34 ∨ w.toInt = 35 ∨ w.toInt = 36 ∨ w.toInt = 37 ∨ w.toInt = 38 by omega) with h | h | h | h | h | h | h | h | h | h | h | h | h | h | h | h | h | h | h | h | h | h | h | h | h | h | h | h | h | h | h | h | h | h | h | h | h | h | h
      · exact jk_tableIn (off := 169) (tgt := 208) K dL_law_39 h1 h2 (by rw [h]; rfl) (by decide) (lw_c0 K XL hL hj (by omega) (by omega) R kk)
      · exact jk_tableIn (off := 249) (tgt := 288) K dL_law_39 h1 h2 (by rw [h]; rfl) (by decide) (lw_c1 K XL hL hj (by omega) (by omega) R kk)
      · exact jk_tableIn (off := 329) (tgt := 368) K dL_law_39 h1 h2 (by rw [h]; rfl) (by decide) (lw_c2 K XL hL hj (by omega) (by omega) R kk)
      · exact jk_tableIn (off := 392) (tgt := 431) K dL_law_39 h1 h2 (by rw [h]; rfl) (by decide) (lw_c3 K XL hL hj (by omega) (by omega) R kk)
      · exact jk_tableIn (off := 455) (tgt := 494) K dL_law_39 h1 h2 (by rw [h]; rfl) (by decide) (lw_c4 K XL hL hj (by omega) (by omega) R kk)
      · exact jk_tableIn (off := 523) (tgt := 562) K dL_law_39 h1 h2 (by rw [h]; rfl) (by decide) (lw_c5 K XL hL hj (by omega) (by omega) R kk)
      · exact jk_tableIn (off := 591) (tgt := 630) K dL_law_39 h1 h2 (by rw [h]; rfl) (by decide) (lw_c6 K XL hL hj (by omega) (by omega) R kk)
      · exact jk_tableIn (off := 647) (tgt := 686) K dL_law_39 h1 h2 (by rw [h]; rfl) (by decide) (lw_c7 K XL hL hj (by omega) (by omega) R kk)
      · exact jk_tableIn (off := 703) (tgt := 742) K dL_law_39 h1 h2 (by rw [h]; rfl) (by decide) (lw_c8 K XL hL hj (by omega) (by omega) R kk)
      · exact jk_tableIn (off := 759) (tgt := 798) K dL_law_39 h1 h2 (by rw [h]; rfl) (by decide) (lw_c9 K XL hL hj (by omega) (by omega) R kk)
      · exact jk_tableIn (off := 815) (tgt := 854) K dL_law_39 h1 h2 (by rw [h]; rfl) (by decide) (lw_c10 K XL hL hj (by omega) (by omega) R kk)
      · exact jk_tableIn (off := 871) (tgt := 910) K dL_law_39 h1 h2 (by rw [h]; rfl) (by decide) (lw_c11 K XL hL hj (by omega) (by omega) R kk)
      · exact jk_tableIn (off := 927) (tgt := 966) K dL_law_39 h1 h2 (by rw [h]; rfl) (by decide) (lw_c12 K XL hL hj (by omega) (by omega) R kk)
      · exact jk_tableIn (off := 983) (tgt := 1022) K dL_law_39 h1 h2 (by rw [h]; rfl) (by decide) (lw_c13 K XL hL hj (by omega) (by omega) R kk)
      · exact jk_tableIn (off := 1039) (tgt := 1078) K dL_law_39 h1 h2 (by rw [h]; rfl) (by decide) (lw_c14 K XL hL hj (by omega) (by omega) R kk)
      · exact jk_tableIn (off := 1102) (tgt := 1141) K dL_law_39 h1 h2 (by rw [h]; rfl) (by decide) (lw_c15 K XL hL hj (by omega) (by omega) R kk)
      · exact jk_tableIn (off := 1165) (tgt := 1204) K dL_law_39 h1 h2 (by rw [h]; rfl) (by decide) (lw_c16 K XL hL hj (by omega) (by omega) R kk)
      · exact jk_tableIn (off := 1233) (tgt := 1272) K dL_law_39 h1 h2 (by rw [h]; rfl) (by decide) (lw_c17 K XL hL hj (by omega) (by omega) R kk)
      · exact jk_tableIn (off := 1308) (tgt := 1347) K dL_law_39 h1 h2 (by rw [h]; rfl) (by decide) (lw_c18 K XL hL hj (by omega) (by omega) R kk)
      · exact jk_tableIn (off := 1376) (tgt := 1415) K dL_law_39 h1 h2 (by rw [h]; rfl) (by decide) (lw_c19 K XL hL hj (by omega) (by omega) R kk)
      · exact jk_tableIn (off := 1439) (tgt := 1478) K dL_law_39 h1 h2 (by rw [h]; rfl) (by decide) (lw_c20 K XL hL hj (by omega) (by omega) R kk)
      · exact jk_tableIn (off := 1502) (tgt := 1541) K dL_law_39 h1 h2 (by rw [h]; rfl) (by decide) (lw_c21 K XL hL hj (by omega) (by omega) R kk)
      · exact jk_tableIn (off := 1558) (tgt := 1597) K dL_law_39 h1 h2 (by rw [h]; rfl) (by decide) (lw_c22 K XL hL hj (by omega) (by omega) R kk)
      · exact jk_tableIn (off := 1614) (tgt := 1653) K dL_law_39 h1 h2 (by rw [h]; rfl) (by decide) (lw_c23 K XL hL hj (by omega) (by omega) R kk)
      · exact jk_tableIn (off := 1670) (tgt := 1709) K dL_law_39 h1 h2 (by rw [h]; rfl) (by decide) (lw_c24 K XL hL hj (by omega) (by omega) R kk)
      · exact jk_tableIn (off := 1733) (tgt := 1772) K dL_law_39 h1 h2 (by rw [h]; rfl) (by decide) (lw_c25 K XL hL hj (by omega) (by omega) R kk)
      · exact jk_tableIn (off := 1789) (tgt := 1828) K dL_law_39 h1 h2 (by rw [h]; rfl) (by decide) (lw_c26 K XL hL hj (by omega) (by omega) R kk)
      · exact jk_tableIn (off := 1802) (tgt := 1841) K dL_law_39 h1 h2 (by rw [h]; rfl) (by decide) (lw_c27 K XL hL hj (by omega) (by omega) R kk)
      · exact jk_tableIn (off := 1815) (tgt := 1854) K dL_law_39 h1 h2 (by rw [h]; rfl) (by decide) (lw_c28 K XL hL hj (by omega) (by omega) R kk)
      · exact jk_tableIn (off := 1828) (tgt := 1867) K dL_law_39 h1 h2 (by rw [h]; rfl) (by decide) (lw_c29 K XL hL hj (by omega) (by omega) R kk)
      · exact jk_tableIn (off := 1841) (tgt := 1880) K dL_law_39 h1 h2 (by rw [h]; rfl) (by decide) (lw_c30 K XL hL hj (by omega) (by omega) R kk)
      · exact jk_tableIn (off := 1854) (tgt := 1893) K dL_law_39 h1 h2 (by rw [h]; rfl) (by decide) (lw_c31 K XL hL hj (by omega) (by omega) R kk)
      · exact jk_tableIn (off := 1867) (tgt := 1906) K dL_law_39 h1 h2 (by rw [h]; rfl) (by decide) (lw_c32 K XL hL hj (by omega) (by omega) R kk)
      · exact jk_tableIn (off := 1880) (tgt := 1919) K dL_law_39 h1 h2 (by rw [h]; rfl) (by decide) (lw_c33 K XL hL hj (by omega) (by omega) R kk)
      · exact jk_tableIn (off := 1936) (tgt := 1975) K dL_law_39 h1 h2 (by rw [h]; rfl) (by decide) (lw_c34 K XL hL hj (by omega) (by omega) R kk)
      · exact jk_tableIn (off := 1992) (tgt := 2031) K dL_law_39 h1 h2 (by rw [h]; rfl) (by decide) (lw_c35 K XL hL hj (by omega) (by omega) R kk)
      · exact jk_tableIn (off := 2048) (tgt := 2087) K dL_law_39 h1 h2 (by rw [h]; rfl) (by decide) (lw_c36 K XL hL hj (by omega) (by omega) R kk)
      · exact jk_tableIn (off := 2061) (tgt := 2100) K dL_law_39 h1 h2 (by rw [h]; rfl) (by decide) (lw_c37 K XL hL hj (by omega) (by omega) R kk)
      · exact jk_tableIn (off := 2102) (tgt := 2141) K dL_law_39 h1 h2 (by rw [h]; rfl) (by decide) (lw_c38 K XL hL hj (by omega) (by omega) R kk)
