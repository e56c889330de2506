theorem kd_X2_answersTo : yX2_answersTo.cls = RX2 ∧ yX2_answersTo.cls ≠ "java/lang/invoke/MethodHandle" ∧ yX2_answersTo.cls ≠ "java/lang/invoke/VarHandle" ∧ (parseMethodDescriptor yX2_answersTo.desc).map (fun d => d.parameters.length) = some 1 := by decide +kernel
theorem kd_X2_burningHills : yX2_burningHills.cls = RX2 ∧ yX2_burningHills.cls ≠ "java/lang/invoke/MethodHandle" ∧ yX2_burningHills.cls ≠ "java/lang/invoke/VarHandle" ∧ (parseMethodDescriptor yX2_burningHills.desc).map (fun d => d.parameters.length) = some 0 := by decide +kernel
theorem kd_X2_canSee : yX2_canSee.cls = RX2 ∧ yX2_canSee.cls ≠ "java/lang/invoke/MethodHandle" ∧ yX2_canSee.cls ≠ "java/lang/invoke/VarHandle" ∧ (parseMethodDescriptor yX2_canSee.desc).map (fun d => d.parameters.length) = some 2 := by decide +kernel
theorem kd_X2_dampOf : yX2_dampOf.cls = RX2 ∧ yX2_dampOf.cls ≠ "java/lang/invoke/MethodHandle" ∧ yX2_dampOf.cls ≠ "java/lang/invoke/VarHandle" ∧ (parseMethodDescriptor yX2_dampOf.desc).map (fun d => d.parameters.length) = some 1 := by decide +kernel
theorem kd_X2_glowLeft : yX2_glowLeft.cls = RX2 ∧ yX2_glowLeft.cls ≠ "java/lang/invoke/MethodHandle" ∧ yX2_glowLeft.cls ≠ "java/lang/invoke/VarHandle" ∧ (parseMethodDescriptor yX2_glowLeft.desc).map (fun d => d.parameters.length) = some 0 := by decide +kernel
theorem kd_X2_haze : yX2_haze.cls = RX2 ∧ yX2_haze.cls ≠ "java/lang/invoke/MethodHandle" ∧ yX2_haze.cls ≠ "java/lang/invoke/VarHandle" ∧ (parseMethodDescriptor yX2_haze.desc).map (fun d => d.parameters.length) = some 0 := by decide +kernel
theorem kd_X2_hills : yX2_hills.cls = RX2 ∧ yX2_hills.cls ≠ "java/lang/invoke/MethodHandle" ∧ yX2_hills.cls ≠ "java/lang/invoke/VarHandle" ∧ (parseMethodDescriptor yX2_hills.desc).map (fun d => d.parameters.length) = some 0 := by decide +kernel
theorem kd_X2_isBurning : yX2_isBurning.cls = RX2 ∧ yX2_isBurning.cls ≠ "java/lang/invoke/MethodHandle" ∧ yX2_isBurning.cls ≠ "java/lang/invoke/VarHandle" ∧ (parseMethodDescriptor yX2_isBurning.desc).map (fun d => d.parameters.length) = some 1 := by decide +kernel
theorem kd_X2_isDark : yX2_isDark.cls = RX2 ∧ yX2_isDark.cls ≠ "java/lang/invoke/MethodHandle" ∧ yX2_isDark.cls ≠ "java/lang/invoke/VarHandle" ∧ (parseMethodDescriptor yX2_isDark.desc).map (fun d => d.parameters.length) = some 1 := by decide +kernel
theorem kd_X2_isMistaken : yX2_isMistaken.cls = RX2 ∧ yX2_isMistaken.cls ≠ "java/lang/invoke/MethodHandle" ∧ yX2_isMistaken.cls ≠ "java/lang/invoke/VarHandle" ∧ (parseMethodDescriptor yX2_isMistaken.desc).map (fun d => d.parameters.length) = some 1 := by decide +kernel
theorem kd_X2_isPost : yX2_isPost.cls = RX2 ∧ yX2_isPost.cls ≠ "java/lang/invoke/MethodHandle" ∧ yX2_isPost.cls ≠ "java/lang/invoke/VarHandle" ∧ (parseMethodDescriptor yX2_isPost.desc).map (fun d => d.parameters.length) = some 1 := by decide +kernel
theorem kd_X2_lookingFor : yX2_lookingFor.cls = RX2 ∧ yX2_lookingFor.cls ≠ "java/lang/invoke/MethodHandle" ∧ yX2_lookingFor.cls ≠ "java/lang/invoke/VarHandle" ∧ (parseMethodDescriptor yX2_lookingFor.desc).map (fun d => d.parameters.length) = some 1 := by decide +kernel
theorem kd_X2_looksEast : yX2_looksEast.cls = RX2 ∧ yX2_looksEast.cls ≠ "java/lang/invoke/MethodHandle" ∧ yX2_looksEast.cls ≠ "java/lang/invoke/VarHandle" ∧ (parseMethodDescriptor yX2_looksEast.desc).map (fun d => d.parameters.length) = some 1 := by decide +kernel
theorem kd_X2_meanWood : yX2_meanWood.cls = RX2 ∧ yX2_meanWood.cls ≠ "java/lang/invoke/MethodHandle" ∧ yX2_meanWood.cls ≠ "java/lang/invoke/VarHandle" ∧ (parseMethodDescriptor yX2_meanWood.desc).map (fun d => d.parameters.length) = some 0 := by decide +kernel
theorem kd_X2_milesBetween : yX2_milesBetween.cls = RX2 ∧ yX2_milesBetween.cls ≠ "java/lang/invoke/MethodHandle" ∧ yX2_milesBetween.cls ≠ "java/lang/invoke/VarHandle" ∧ (parseMethodDescriptor yX2_milesBetween.desc).map (fun d => d.parameters.length) = some 2 := by decide +kernel
theorem kd_X2_minute : yX2_minute.cls = RX2 ∧ yX2_minute.cls ≠ "java/lang/invoke/MethodHandle" ∧ yX2_minute.cls ≠ "java/lang/invoke/VarHandle" ∧ (parseMethodDescriptor yX2_minute.desc).map (fun d => d.parameters.length) = some 0 := by decide +kernel
theorem kd_X2_minutesToBurn : yX2_minutesToBurn.cls = RX2 ∧ yX2_minutesToBurn.cls ≠ "java/lang/invoke/MethodHandle" ∧ yX2_minutesToBurn.cls ≠ "java/lang/invoke/VarHandle" ∧ (parseMethodDescriptor yX2_minutesToBurn.desc).map (fun d => d.parameters.length) = some 1 := by decide +kernel
theorem kd_X2_sourceOf : yX2_sourceOf.cls = RX2 ∧ yX2_sourceOf.cls ≠ "java/lang/invoke/MethodHandle" ∧ yX2_sourceOf.cls ≠ "java/lang/invoke/VarHandle" ∧ (parseMethodDescriptor yX2_sourceOf.desc).map (fun d => d.parameters.length) = some 1 := by decide +kernel
theorem kd_X2_timesLit : yX2_timesLit.cls = RX2 ∧ yX2_timesLit.cls ≠ "java/lang/invoke/MethodHandle" ∧ yX2_timesLit.cls ≠ "java/lang/invoke/VarHandle" ∧ (parseMethodDescriptor yX2_timesLit.desc).map (fun d => d.parameters.length) = some 0 := by decide +kernel
theorem kd_X2_timesMistaken : yX2_timesMistaken.cls = RX2 ∧ yX2_timesMistaken.cls ≠ "java/lang/invoke/MethodHandle" ∧ yX2_timesMistaken.cls ≠ "java/lang/invoke/VarHandle" ∧ (parseMethodDescriptor yX2_timesMistaken.desc).map (fun d => d.parameters.length) = some 0 := by decide +kernel
theorem kd_X2_watchOf : yX2_watchOf.cls = RX2 ∧ yX2_watchOf.cls ≠ "java/lang/invoke/MethodHandle" ∧ yX2_watchOf.cls ≠ "java/lang/invoke/VarHandle" ∧ (parseMethodDescriptor yX2_watchOf.desc).map (fun d => d.parameters.length) = some 1 := by decide +kernel
theorem kd_X2_woodOf : yX2_woodOf.cls = RX2 ∧ yX2_woodOf.cls ≠ "java/lang/invoke/MethodHandle" ∧ yX2_woodOf.cls ≠ "java/lang/invoke/VarHandle" ∧ (parseMethodDescriptor yX2_woodOf.desc).map (fun d => d.parameters.length) = some 1 := by decide +kernel
theorem kd_X4_burning : yX4_burning.cls = RX4 ∧ yX4_burning.cls ≠ "java/lang/invoke/MethodHandle" ∧ yX4_burning.cls ≠ "java/lang/invoke/VarHandle" ∧ (parseMethodDescriptor yX4_burning.desc).map (fun d => d.parameters.length) = some 0 := by decide +kernel
theorem mean_all : ∀ n, n < 11 → 0 < n → ∀ k, k < 301 → FP.ddiv (FP.i2d (nI k)) (FP.i2d (nI n)) &&& 0x7fffffffffffffff ≤ 0x7ff0000000000000 ∧ Op.cmpValue (FP.dcmp (FP.ddiv (FP.i2d (nI k)) (FP.i2d (nI n))) (FP.ddiv (FP.i2d (nI k)) (FP.i2d (nI n)))) .l = 0 := by decide +kernel
section MEAN
variable {n B : Nat} {C : Nat → Nat → Int32} {G M : Nat → Int32}
theorem iv_sum (h : iv n B C G M) : ∀ j, j ≤ n → ∃ k : Nat, k ≤ 30 * j ∧ hb_wood C j = nI k
  | 0, _ => ⟨0, Nat.le_refl _, rfl⟩
  | j + 1, hj => by
    obtain ⟨k, hk, e⟩ := iv_sum h j (by omega)
    obtain ⟨⟨k0, hk0, e0⟩, -⟩ := h.2.1 j (by omega)
    exact ⟨k + k0, by omega, by rw [hb_wood_s, e, e0, nI_add]⟩
theorem mean_n (h : iv n B C G M) (hn : 0 < n) : vf_n64 (FP.ddiv (FP.i2d (hb_wood C n)) (FP.i2d (nI n))) := by
  obtain ⟨k, hk, e⟩ := iv_sum h n (Nat.le_refl n)
  have := h.1
  rw [e]
  exact (mean_all n (by omega) hn k (by omega)).1
theorem mean_v (h : iv n B C G M) (hn : 0 < n) : hb_mean C G n = FP.ddiv (FP.i2d (hb_wood C n)) (FP.i2d (nI n)) := by
  have := h.1
  have g0 : G 0 = nI n := h.2.2.2.1.1
  unfold hb_mean
  rw [g0, if_pos (show (0 : Int32) < nI n from nI_lt (a := 0) hn (by omega))]
theorem mean_c (h : iv n B C G M) (hn : 0 < n) : Op.cmpValue (FP.dcmp (hb_mean C G n) (FP.ddiv (FP.i2d (hb_wood C n)) (FP.i2d (nI n)))) .l = 0 := by
  obtain ⟨k, hk, e⟩ := iv_sum h n (Nat.le_refl n)
  have := h.1
  rw [mean_v h hn, e]
  exact (mean_all n (by omega) hn k (by omega)).2
theorem mean_h (h : iv n B C G M) (hn : 0 < n) : 0 < G 0 → vf_n64 (FP.ddiv (FP.i2d (hb_wood C n)) (FP.i2d (G 0))) := fun _ => by
  have g0 : G 0 = nI n := h.2.2.2.1.1
  rw [g0]
  exact mean_n h hn
theorem sm_bu_v (C : Nat → Nat → Int32) : ∀ j, hb_burn C j = sm_bu (sm_N C) j
  | 0 => rfl
  | j + 1 => by
    rw [hb_burn_s, sm_bu_s, sm_bu_v C j]
    show (if C j 5 = 2 then sm_bu (sm_N C) j + 1 else sm_bu (sm_N C) j) = sm_bu (sm_N C) j + (if C j 5 = 2 then 1 else 0)
    split
    · rfl
    · exact (Int32.add_zero _).symm
end MEAN
set_option maxHeartbeats 4000000 in
set_option maxRecDepth 100000 in
theorem hb_X4_isSame (l : Launch) (hl : l.stackTraces = false) (E : jk_T) (q : Nat) (b1 b2 : Nat → Nat) (Y : va_W) (p : Nat → Nat) (n B : Nat) (C : Nat → Nat → Int32) (G M : Nat → Int32) (C2 : Nat → Nat → Int32) (G2 M2 : Nat → Int32) (hiv : iv n B C G M) (h0 : 0 < n) : jk_fn l yX4_isSame wsX4_isSame ({ frames := 10, cells := 530, slots := 3180, locals := 175 } : Room) [.ref (p 0), .ref q] E (lw_W E q b1 b2 Y C2 G2 M2 (p, n, C, G, M)) (some (.int 1)) (lw_W E q b1 b2 Y C2 G2 M2 (p, n, C, G, M)) := by
  refine jk_of (lv := [(0, .ref (p 0)), (1, .ref q)]) (own := RX4) (nm := "isSame") hl (by decide +kernel) rfl (Nat.le_of_ble_eq_true rfl) rfl rfl rfl (fun Γ hΓ K hnm hz => ?_)
  subst hΓ
  have hin_RX3 : ∀ w ∈ u_ws RX3 TX3 11, w ∈ wsX4_isSame := by decide +kernel
  have hin_RX4 : ∀ w ∈ u_ws RX4 TX4 7, w ∈ wsX4_isSame := by decide +kernel
  have hn := hiv.1
  have hg : G 0 = nI n := hiv.2.2.2.1.1
  have hM : jk_J Γ E (hb_v1 E q b1 b2 (sm_SW E p n (sm_G G) (sm_N C) (sm_M M) ++ Y) C G M C2 G2 M2) 530 3180 384 [(3, .int (hb_wood C n)), (2, .int (nI n)), (0, .ref (p 0)), (1, .ref q)] [] := by
    refine jk_aload_n K dX4_isSame_384 rfl 3 rfl ?_
    refine jk_cVd K (n' := 530) (k' := 3180) [] [] dX4_isSame_385 (hb_X2_meanWood _ hl E q b1 b2 (sm_SW E p n (sm_G G) (sm_N C) (sm_M M) ++ Y) C G M C2 G2 M2 n hn hg (mean_h hiv h0)) gX4_isSame_X2_meanWood rfl kd_X2_meanWood ⟨Nat.le_of_ble_eq_true rfl, Nat.le_of_ble_eq_true rfl⟩ 0 rfl rfl (Nat.le_of_ble_eq_true rfl) ⟨rfl, rfl⟩ ⟨Nat.le_of_ble_eq_true rfl, Nat.le_of_ble_eq_true rfl⟩ rfl (fun _ _ => ?_)
    refine jk_iload_n K dX4_isSame_388 rfl 1 rfl ?_
    refine jk_if_ne_T (tgt := 396) K dX4_isSame_389 rfl (nI_ne0 h0 (by omega)) ?_
    refine jk_iload_n K dX4_isSame_396 rfl 0 rfl ?_
    refine jk_i2d K dX4_isSame_397 ?_
    refine jk_iload_n K dX4_isSame_398 rfl 1 rfl ?_
    refine jk_i2d K dX4_isSame_399 ?_
    refine jk_ddiv K dX4_isSame_400 (mean_n hiv h0) ?_
    refine jk_dcmp K dX4_isSame_401 ?_
    refine jk_if_ne_F (tgt := 409) K dX4_isSame_402 rfl (mean_c hiv h0) ?_
    refine jk_iconst (x := 1) K dX4_isSame_405 rfl ?_
    refine jk_goto (tgt := 410) K dX4_isSame_406 rfl ?_
    exact jk_iret K hz dX4_isSame_410 () rfl trivial rfl rfl (Nat.le_of_ble_eq_true rfl) (Nat.le_of_ble_eq_true rfl)
  have hL : ∀ j, j ≤ n → jk_J Γ E (sm_S E (hb_cw E q b1 b2 C G M C2 G2 M2) Y p n (sm_G G) (sm_N C) (sm_M M)) (53 * j) (318 * j) 87 [(4, .int (nI j)), (3, .int (hb_wood C j)), (2, .int (nI n)), (0, .ref (p 0)), (1, .ref q)] [] := by
    refine jk_loop (fun j hj ih => ?_)
    have hI : j < n → ∀ k, k ≤ n → jk_J Γ E (sm_S E (hb_cw E q b1 b2 C G M C2 G2 M2) Y p n (sm_G G) (sm_N C) (sm_M M)) (53 * j + 13 + 4 * k) (318 * j + 78 + 24 * k) 316 [(6, .int (nI k)), (5, .ref (p (13 + j))), (4, .int (nI j)), (3, .int (hb_wood C j)), (2, .int (nI n)), (0, .ref (p 0)), (1, .ref q)] [] := by
      intro hlt
      refine jk_loop (fun k hk ihk => ?_)
      refine jk_iload K dX4_isSame_316 0 rfl ?_
      refine jk_iload_n K dX4_isSame_318 rfl 4 rfl ?_
      refine jk_icmp_ge (tgt := 370) K dX4_isSame_319 rfl (fun c_319 => ?_) (fun c_319 => ?_)
      · refine jk_iload_n K dX4_isSame_370 rfl 3 rfl ?_
        refine jk_aload K dX4_isSame_371 1 rfl ?_
        refine jk_get (C := RX3) (T := TX3) (N := 11) (nm := "wood") (ds := "I") (v := .int (((sm_N C) j) 1)) K dX4_isSame_373 hin_RX3 (by decide +kernel) ((hb_cw E q b1 b2 C G M C2 G2 M2).length + (13 + j)) (sm_h hlt) rfl 1 rfl (by decide) rfl ?_
        refine jk_iadd K dX4_isSame_376 ?_
        refine jk_istore_n (lv' := [(3, .int ((hb_wood C j) + (((sm_N C) j) 1))), (6, .int (nI k)), (5, .ref (p (13 + j))), (4, .int (nI j)), (2, .int (nI n)), (0, .ref (p 0)), (1, .ref q)]) K dX4_isSame_377 rfl (by decide) rfl ?_
        refine jk_iinc (v := (nI (j + 1))) (lv' := [(4, .int (nI (j + 1))), (3, .int ((hb_wood C j) + (((sm_N C) j) 1))), (6, .int (nI k)), (5, .ref (p (13 + j))), (2, .int (nI n)), (0, .ref (p 0)), (1, .ref q)]) K dX4_isSame_378 3 rfl (nI_1 j) (by decide) rfl ?_
        refine jk_goto (tgt := 87) K dX4_isSame_381 rfl ?_
        refine jk_wide (n' := (53 * (j + 1))) (k' := (318 * (j + 1))) (by omega) (by omega) ?_
        refine jk_sub (lv' := [(4, .int (nI (j + 1))), (3, .int ((hb_wood C j) + (((sm_N C) j) 1))), (2, .int (nI n)), (0, .ref (p 0)), (1, .ref q)]) [0, 1, 4, 5, 6] rfl ?_
        refine jk_lv (lv' := [(4, .int (nI (j + 1))), (3, .int (hb_wood C (j + 1))), (2, .int (nI n)), (0, .ref (p 0)), (1, .ref q)]) rfl ?_
        exact ih hlt
      · have hlk : k < n := hb_in (n := n) rfl (by omega) hk c_319
        refine jk_aload_n K dX4_isSame_322 rfl 6 rfl ?_
        refine jk_iload K dX4_isSame_323 2 rfl ?_
        refine jk_iload K dX4_isSame_325 0 rfl ?_
        refine jk_ws (ws' := (hb_v1 E q b1 b2 (sm_SW E p n (sm_G G) (sm_N C) (sm_M M) ++ Y) C G M C2 G2 M2)) lw_sw.symm ?_
        refine jk_cVi K (n' := ((53 * j + 13 + 4 * k) + 2)) (k' := ((318 * j + 78 + 24 * k) + 12)) [.int (nI j), .int (nI k)] [] dX4_isSame_327 (lc_milesBetween _ hl E q b1 b2 (sm_SW E p n (sm_G G) (sm_N C) (sm_M M) ++ Y) C G M C2 G2 M2 n hn hg j k hlt hlk) gX4_isSame_X2_milesBetween rfl kd_X2_milesBetween ⟨Nat.le_of_ble_eq_true rfl, Nat.le_of_ble_eq_true rfl⟩ 0 rfl rfl (Nat.le_of_ble_eq_true rfl) ⟨rfl, rfl⟩ ⟨(by show _ ≤ 530; omega), (by show _ ≤ 3180; omega)⟩ rfl (fun _ _ => ?_)
        refine jk_aload_n K dX4_isSame_330 rfl 5 rfl ?_
        refine jk_ws (ws' := (sm_S E (hb_cw E q b1 b2 C G M C2 G2 M2) Y p n (sm_G G) (sm_N C) (sm_M M))) lw_sw ?_
        refine jk_get (C := RX4) (T := TX4) (N := 7) (nm := "miles") (ds := "[[I") (v := .ref (p 2)) K dX4_isSame_331 hin_RX4 (by decide +kernel) ((hb_cw E q b1 b2 C G M C2 G2 M2).length + 0) sm_0 rfl 6 rfl (by decide) rfl ?_
        refine jk_iload K dX4_isSame_334 2 rfl ?_
        refine jk_aald (v := (p (3 + j))) K dX4_isSame_336 ((hb_cw E q b1 b2 C G M C2 G2 M2).length + 2) sm_2 (vp_in_nI (Nat.lt_of_lt_of_le hlt hn) (by decide)) (by rw [nI_clamp (by omega)]) ?_
        refine jk_iload K dX4_isSame_337 0 rfl ?_
        refine jk_iald (v := (M (j * 10 + k))) K dX4_isSame_339 ((hb_cw E q b1 b2 C G M C2 G2 M2).length + (3 + j)) (sm_r (Nat.lt_of_lt_of_le hlt hn)) (vp_in_nI (Nat.lt_of_lt_of_le hlk hn) (by decide)) (by rw [nI_clamp (by omega)]; unfold sm_M; rw [if_pos (by omega)]) ?_
        refine jk_icmp_ne_F (tgt := 362) K dX4_isSame_340 rfl rfl ?_
        refine jk_aload_n K dX4_isSame_343 rfl 6 rfl ?_
        refine jk_iload K dX4_isSame_344 2 rfl ?_
        refine jk_iload K dX4_isSame_346 0 rfl ?_
        refine jk_ws (ws' := (hb_v1 E q b1 b2 (sm_SW E p n (sm_G G) (sm_N C) (sm_M M) ++ Y) C G M C2 G2 M2)) lw_sw.symm ?_
        refine jk_cVi K (n' := (((53 * j + 13 + 4 * k) + 2) + 2)) (k' := (((318 * j + 78 + 24 * k) + 12) + 12)) [.int (nI j), .int (nI k)] [] dX4_isSame_348 (lc_canSee _ hl E q b1 b2 (sm_SW E p n (sm_G G) (sm_N C) (sm_M M) ++ Y) C G M C2 G2 M2 n hn hg j k hlt hlk) gX4_isSame_X2_canSee rfl kd_X2_canSee ⟨Nat.le_of_ble_eq_true rfl, Nat.le_of_ble_eq_true rfl⟩ 0 rfl rfl (Nat.le_of_ble_eq_true rfl) ⟨rfl, rfl⟩ ⟨(by show _ ≤ 530; omega), (by show _ ≤ 3180; omega)⟩ rfl (fun _ _ => ?_)
        refine jk_aload_n K dX4_isSame_351 rfl 5 rfl ?_
        refine jk_iload K dX4_isSame_352 2 rfl ?_
        refine jk_iload K dX4_isSame_354 0 rfl ?_
        refine jk_ws (ws' := (sm_S E (hb_cw E q b1 b2 C G M C2 G2 M2) Y p n (sm_G G) (sm_N C) (sm_M M))) lw_sw ?_
        refine jk_cVi K (n' := (((53 * j + 13 + 4 * k) + 2) + 2)) (k' := (((318 * j + 78 + 24 * k) + 12) + 12)) [.int (nI j), .int (nI k)] [.int (hb_clr (G 1) (M (j * 10 + k)))] dX4_isSame_356 (hb_X4_sees _ hl E (hb_cw E q b1 b2 C G M C2 G2 M2) Y p n hn (sm_G G) (sm_N C) (sm_M M) j k (Nat.lt_of_lt_of_le hlt hn) (Nat.lt_of_lt_of_le hlk hn)) gX4_isSame_X4_sees rfl kd_X4_sees ⟨Nat.le_of_ble_eq_true rfl, Nat.le_of_ble_eq_true rfl⟩ ((hb_cw E q b1 b2 C G M C2 G2 M2).length + 0) sm_0 rfl (Nat.le_of_ble_eq_true rfl) ⟨rfl, rfl⟩ ⟨(by show _ ≤ 530; omega), (by show _ ≤ 3180; omega)⟩ rfl (fun _ _ => ?_)
        refine jk_icmp_eq_T (tgt := 364) K dX4_isSame_359 rfl (sm_clr_hb hiv (Nat.lt_of_lt_of_le hlt hn) (Nat.lt_of_lt_of_le hlk hn)).symm ?_
        refine jk_iinc (v := (nI (k + 1))) (lv' := [(6, .int (nI (k + 1))), (5, .ref (p (13 + j))), (4, .int (nI j)), (3, .int (hb_wood C j)), (2, .int (nI n)), (0, .ref (p 0)), (1, .ref q)]) K dX4_isSame_364 0 rfl (nI_1 k) (by decide) rfl ?_
        refine jk_goto (tgt := 316) K dX4_isSame_367 rfl ?_
        refine jk_wide (n' := (53 * j + 13 + 4 * (k + 1))) (k' := (318 * j + 78 + 24 * (k + 1))) (by omega) (by omega) ?_
        exact ihk hlk
    refine jk_iload K dX4_isSame_87 0 rfl ?_
    refine jk_iload_n K dX4_isSame_89 rfl 2 rfl ?_
    refine jk_icmp_ge (tgt := 384) K dX4_isSame_90 rfl (fun c_90 => ?_) (fun c_90 => ?_)
    · have hjn : j = n := hb_ex (n := n) rfl (by omega) hj c_90
      refine jk_ws (ws' := (hb_v1 E q b1 b2 (sm_SW E p n (sm_G G) (sm_N C) (sm_M M) ++ Y) C G M C2 G2 M2)) lw_sw.symm ?_
      refine jk_wide (n' := 530) (k' := 3180) (by omega) (by omega) ?_
      refine jk_sub (lv' := [(3, .int (hb_wood C j)), (2, .int (nI n)), (0, .ref (p 0)), (1, .ref q)]) [1, 2, 3, 4] rfl ?_
      refine jk_lv (lv' := [(3, .int (hb_wood C n)), (2, .int (nI n)), (0, .ref (p 0)), (1, .ref q)]) (by rw [hjn]) ?_
      exact hM
    · have hlt : j < n := hb_in (n := n) rfl (by omega) hj c_90
      rcases iv_dark hiv hlt with ⟨z5, z7, z9⟩ | ⟨z5, z8, zs⟩ | ⟨z5, z7, z8, zs⟩
      · refine jk_aload_n K dX4_isSame_93 rfl 3 rfl ?_
        refine jk_get (C := RX4) (T := TX4) (N := 7) (nm := "hills") (ds := "[LHillBeaconsLaw$Hill;") (v := .ref (p 1)) K dX4_isSame_94 hin_RX4 (by decide +kernel) ((hb_cw E q b1 b2 C G M C2 G2 M2).length + 0) sm_0 rfl 5 rfl (by decide) rfl ?_
        refine jk_iload K dX4_isSame_97 0 rfl ?_
        refine jk_laldL (v := (p (13 + j))) K dX4_isSame_99 ((hb_cw E q b1 b2 C G M C2 G2 M2).length + 1) sm_1 (vp_in_nI hlt (by omega)) (by rw [nI_clamp (by omega)]) ?_
        refine jk_astore (lv' := [(5, .ref (p (13 + j))), (4, .int (nI j)), (3, .int (hb_wood C j)), (2, .int (nI n)), (0, .ref (p 0)), (1, .ref q)]) K dX4_isSame_100 (by decide) rfl ?_
        refine jk_aload_n K dX4_isSame_102 rfl 5 rfl ?_
        refine jk_iload K dX4_isSame_103 1 rfl ?_
        refine jk_ws (ws' := (hb_v1 E q b1 b2 (sm_SW E p n (sm_G G) (sm_N C) (sm_M M) ++ Y) C G M C2 G2 M2)) lw_sw.symm ?_
        refine jk_cVi K (n' := ((53 * j) + 1)) (k' := ((318 * j) + 6)) [.int (nI j)] [] dX4_isSame_105 (lc_woodOf _ hl E q b1 b2 (sm_SW E p n (sm_G G) (sm_N C) (sm_M M) ++ Y) C G M C2 G2 M2 n hn hg j hlt) gX4_isSame_X2_woodOf rfl kd_X2_woodOf ⟨Nat.le_of_ble_eq_true rfl, Nat.le_of_ble_eq_true rfl⟩ 0 rfl rfl (Nat.le_of_ble_eq_true rfl) ⟨rfl, rfl⟩ ⟨(by show _ ≤ 530; omega), (by show _ ≤ 3180; omega)⟩ rfl (fun _ _ => ?_)
        refine jk_aload K dX4_isSame_108 0 rfl ?_
        refine jk_ws (ws' := (sm_S E (hb_cw E q b1 b2 C G M C2 G2 M2) Y p n (sm_G G) (sm_N C) (sm_M M))) lw_sw ?_
        refine jk_get (C := RX3) (T := TX3) (N := 11) (nm := "wood") (ds := "I") (v := .int (((sm_N C) j) 1)) K dX4_isSame_110 hin_RX3 (by decide +kernel) ((hb_cw E q b1 b2 C G M C2 G2 M2).length + (13 + j)) (sm_h hlt) rfl 1 rfl (by decide) rfl ?_
        refine jk_icmp_ne_F (tgt := 311) K dX4_isSame_113 rfl rfl ?_
        refine jk_aload_n K dX4_isSame_116 rfl 5 rfl ?_
        refine jk_iload K dX4_isSame_117 1 rfl ?_
        refine jk_ws (ws' := (hb_v1 E q b1 b2 (sm_SW E p n (sm_G G) (sm_N C) (sm_M M) ++ Y) C G M C2 G2 M2)) lw_sw.symm ?_
        refine jk_cVi K (n' := (((53 * j) + 1) + 1)) (k' := (((318 * j) + 6) + 6)) [.int (nI j)] [] dX4_isSame_119 (lc_dampOf _ hl E q b1 b2 (sm_SW E p n (sm_G G) (sm_N C) (sm_M M) ++ Y) C G M C2 G2 M2 n hn hg j hlt) gX4_isSame_X2_dampOf rfl kd_X2_dampOf ⟨Nat.le_of_ble_eq_true rfl, Nat.le_of_ble_eq_true rfl⟩ 0 rfl rfl (Nat.le_of_ble_eq_true rfl) ⟨rfl, rfl⟩ ⟨(by show _ ≤ 530; omega), (by show _ ≤ 3180; omega)⟩ rfl (fun _ _ => ?_)
        refine jk_aload K dX4_isSame_122 0 rfl ?_
        refine jk_ws (ws' := (sm_S E (hb_cw E q b1 b2 C G M C2 G2 M2) Y p n (sm_G G) (sm_N C) (sm_M M))) lw_sw ?_
        refine jk_get (C := RX3) (T := TX3) (N := 11) (nm := "damp") (ds := "I") (v := .int (((sm_N C) j) 2)) K dX4_isSame_124 hin_RX3 (by decide +kernel) ((hb_cw E q b1 b2 C G M C2 G2 M2).length + (13 + j)) (sm_h hlt) rfl 2 rfl (by decide) rfl ?_
        refine jk_icmp_ne_F (tgt := 311) K dX4_isSame_127 rfl rfl ?_
        refine jk_aload_n K dX4_isSame_130 rfl 5 rfl ?_
        refine jk_iload K dX4_isSame_131 1 rfl ?_
        refine jk_ws (ws' := (hb_v1 E q b1 b2 (sm_SW E p n (sm_G G) (sm_N C) (sm_M M) ++ Y) C G M C2 G2 M2)) lw_sw.symm ?_
        refine jk_cVi K (n' := ((((53 * j) + 1) + 1) + 1)) (k' := ((((318 * j) + 6) + 6) + 6)) [.int (nI j)] [] dX4_isSame_133 (lc_watchOf _ hl E q b1 b2 (sm_SW E p n (sm_G G) (sm_N C) (sm_M M) ++ Y) C G M C2 G2 M2 n hn hg j hlt) gX4_isSame_X2_watchOf rfl kd_X2_watchOf ⟨Nat.le_of_ble_eq_true rfl, Nat.le_of_ble_eq_true rfl⟩ 0 rfl rfl (Nat.le_of_ble_eq_true rfl) ⟨rfl, rfl⟩ ⟨(by show _ ≤ 530; omega), (by show _ ≤ 3180; omega)⟩ rfl (fun _ _ => ?_)
        refine jk_aload K dX4_isSame_136 0 rfl ?_
        refine jk_ws (ws' := (sm_S E (hb_cw E q b1 b2 C G M C2 G2 M2) Y p n (sm_G G) (sm_N C) (sm_M M))) lw_sw ?_
        refine jk_get (C := RX3) (T := TX3) (N := 11) (nm := "watch") (ds := "I") (v := .int (((sm_N C) j) 3)) K dX4_isSame_138 hin_RX3 (by decide +kernel) ((hb_cw E q b1 b2 C G M C2 G2 M2).length + (13 + j)) (sm_h hlt) rfl 3 rfl (by decide) rfl ?_
        refine jk_icmp_ne_F (tgt := 311) K dX4_isSame_141 rfl rfl ?_
        refine jk_aload_n K dX4_isSame_144 rfl 5 rfl ?_
        refine jk_iload K dX4_isSame_145 1 rfl ?_
        refine jk_ws (ws' := (hb_v1 E q b1 b2 (sm_SW E p n (sm_G G) (sm_N C) (sm_M M) ++ Y) C G M C2 G2 M2)) lw_sw.symm ?_
        refine jk_cVi K (n' := (((((53 * j) + 1) + 1) + 1) + 1)) (k' := (((((318 * j) + 6) + 6) + 6) + 6)) [.int (nI j)] [] dX4_isSame_147 (lc_looksEast _ hl E q b1 b2 (sm_SW E p n (sm_G G) (sm_N C) (sm_M M) ++ Y) C G M C2 G2 M2 n hn hg j hlt) gX4_isSame_X2_looksEast rfl kd_X2_looksEast ⟨Nat.le_of_ble_eq_true rfl, Nat.le_of_ble_eq_true rfl⟩ 0 rfl rfl (Nat.le_of_ble_eq_true rfl) ⟨rfl, rfl⟩ ⟨(by show _ ≤ 530; omega), (by show _ ≤ 3180; omega)⟩ rfl (fun _ _ => ?_)
        refine jk_aload K dX4_isSame_150 0 rfl ?_
        refine jk_ws (ws' := (sm_S E (hb_cw E q b1 b2 C G M C2 G2 M2) Y p n (sm_G G) (sm_N C) (sm_M M))) lw_sw ?_
        refine jk_get (C := RX3) (T := TX3) (N := 11) (nm := "east") (ds := "Z") (v := .int (hb_zb (((sm_N C) j) 4))) K dX4_isSame_152 hin_RX3 (by decide +kernel) ((hb_cw E q b1 b2 C G M C2 G2 M2).length + (13 + j)) (sm_h hlt) rfl 4 rfl (by decide) rfl ?_
        refine jk_icmp_ne_F (tgt := 311) K dX4_isSame_155 rfl rfl ?_
        refine jk_aload_n K dX4_isSame_158 rfl 5 rfl ?_
        refine jk_iload K dX4_isSame_159 1 rfl ?_
        refine jk_ws (ws' := (hb_v1 E q b1 b2 (sm_SW E p n (sm_G G) (sm_N C) (sm_M M) ++ Y) C G M C2 G2 M2)) lw_sw.symm ?_
        refine jk_cVi K (n' := ((((((53 * j) + 1) + 1) + 1) + 1) + 1)) (k' := ((((((318 * j) + 6) + 6) + 6) + 6) + 6)) [.int (nI j)] [] dX4_isSame_161 (lc_isPost _ hl E q b1 b2 (sm_SW E p n (sm_G G) (sm_N C) (sm_M M) ++ Y) C G M C2 G2 M2 n hn hg j hlt) gX4_isSame_X2_isPost rfl kd_X2_isPost ⟨Nat.le_of_ble_eq_true rfl, Nat.le_of_ble_eq_true rfl⟩ 0 rfl rfl (Nat.le_of_ble_eq_true rfl) ⟨rfl, rfl⟩ ⟨(by show _ ≤ 530; omega), (by show _ ≤ 3180; omega)⟩ rfl (fun _ _ => ?_)
        refine jk_aload K dX4_isSame_164 0 rfl ?_
        refine jk_ws (ws' := (sm_S E (hb_cw E q b1 b2 C G M C2 G2 M2) Y p n (sm_G G) (sm_N C) (sm_M M))) lw_sw ?_
        refine jk_get (C := RX3) (T := TX3) (N := 11) (nm := "post") (ds := "Z") (v := .int (hb_zb (((sm_N C) j) 5))) K dX4_isSame_166 hin_RX3 (by decide +kernel) ((hb_cw E q b1 b2 C G M C2 G2 M2).length + (13 + j)) (sm_h hlt) rfl 5 rfl (by decide) rfl ?_
        refine jk_icmp_ne_F (tgt := 311) K dX4_isSame_169 rfl rfl ?_
        refine jk_aload_n K dX4_isSame_172 rfl 5 rfl ?_
        refine jk_iload K dX4_isSame_173 1 rfl ?_
        refine jk_ws (ws' := (hb_v1 E q b1 b2 (sm_SW E p n (sm_G G) (sm_N C) (sm_M M) ++ Y) C G M C2 G2 M2)) lw_sw.symm ?_
        refine jk_cVi K (n' := (((((((53 * j) + 1) + 1) + 1) + 1) + 1) + 1)) (k' := (((((((318 * j) + 6) + 6) + 6) + 6) + 6) + 6)) [.int (nI j)] [] dX4_isSame_175 (lc_isDark _ hl E q b1 b2 (sm_SW E p n (sm_G G) (sm_N C) (sm_M M) ++ Y) C G M C2 G2 M2 n hn hg j hlt) gX4_isSame_X2_isDark rfl kd_X2_isDark ⟨Nat.le_of_ble_eq_true rfl, Nat.le_of_ble_eq_true rfl⟩ 0 rfl rfl (Nat.le_of_ble_eq_true rfl) ⟨rfl, rfl⟩ ⟨(by show _ ≤ 530; omega), (by show _ ≤ 3180; omega)⟩ rfl (fun _ _ => ?_)
        refine jk_aload K dX4_isSame_178 0 rfl ?_
        refine jk_ws (ws' := (sm_S E (hb_cw E q b1 b2 C G M C2 G2 M2) Y p n (sm_G G) (sm_N C) (sm_M M))) lw_sw ?_
        refine jk_get (C := RX3) (T := TX3) (N := 11) (nm := "state") (ds := "I") (v := .int (((sm_N C) j) 6)) K dX4_isSame_180 hin_RX3 (by decide +kernel) ((hb_cw E q b1 b2 C G M C2 G2 M2).length + (13 + j)) (sm_h hlt) rfl 6 rfl (by decide) rfl ?_
        refine jk_if_ne_F (tgt := 190) K dX4_isSame_183 rfl z5 ?_
        refine jk_iconst (x := 1) K dX4_isSame_186 rfl ?_
        refine jk_goto (tgt := 191) K dX4_isSame_187 rfl ?_
        refine jk_icmp_ne_F (tgt := 311) K dX4_isSame_191 rfl (by rw [if_pos z5]) ?_
        refine jk_aload_n K dX4_isSame_194 rfl 5 rfl ?_
        refine jk_iload K dX4_isSame_195 1 rfl ?_
        refine jk_ws (ws' := (hb_v1 E q b1 b2 (sm_SW E p n (sm_G G) (sm_N C) (sm_M M) ++ Y) C G M C2 G2 M2)) lw_sw.symm ?_
        refine jk_cVi K (n' := ((((((((53 * j) + 1) + 1) + 1) + 1) + 1) + 1) + 1)) (k' := ((((((((318 * j) + 6) + 6) + 6) + 6) + 6) + 6) + 6)) [.int (nI j)] [] dX4_isSame_197 (lc_isBurning _ hl E q b1 b2 (sm_SW E p n (sm_G G) (sm_N C) (sm_M M) ++ Y) C G M C2 G2 M2 n hn hg j hlt) gX4_isSame_X2_isBurning rfl kd_X2_isBurning ⟨Nat.le_of_ble_eq_true rfl, Nat.le_of_ble_eq_true rfl⟩ 0 rfl rfl (Nat.le_of_ble_eq_true rfl) ⟨rfl, rfl⟩ ⟨(by show _ ≤ 530; omega), (by show _ ≤ 3180; omega)⟩ rfl (fun _ _ => ?_)
        refine jk_aload K dX4_isSame_200 0 rfl ?_
        refine jk_ws (ws' := (sm_S E (hb_cw E q b1 b2 C G M C2 G2 M2) Y p n (sm_G G) (sm_N C) (sm_M M))) lw_sw ?_
        refine jk_get (C := RX3) (T := TX3) (N := 11) (nm := "state") (ds := "I") (v := .int (((sm_N C) j) 6)) K dX4_isSame_202 hin_RX3 (by decide +kernel) ((hb_cw E q b1 b2 C G M C2 G2 M2).length + (13 + j)) (sm_h hlt) rfl 6 rfl (by decide) rfl ?_
        refine jk_iconst (x := 2) K dX4_isSame_205 rfl ?_
        refine jk_icmp_ne_T (tgt := 213) K dX4_isSame_206 rfl (show ¬ C j 5 = 2 by rw [z5]; decide) ?_
        refine jk_iconst (x := 0) K dX4_isSame_213 rfl ?_
        refine jk_icmp_ne_F (tgt := 311) K dX4_isSame_214 rfl (by rw [if_neg (show ¬ C j 5 = 2 by rw [z5]; decide)]) ?_
        refine jk_aload_n K dX4_isSame_217 rfl 5 rfl ?_
        refine jk_iload K dX4_isSame_218 1 rfl ?_
        refine jk_ws (ws' := (hb_v1 E q b1 b2 (sm_SW E p n (sm_G G) (sm_N C) (sm_M M) ++ Y) C G M C2 G2 M2)) lw_sw.symm ?_
        refine jk_cVi K (n' := (((((((((53 * j) + 1) + 1) + 1) + 1) + 1) + 1) + 1) + 1)) (k' := (((((((((318 * j) + 6) + 6) + 6) + 6) + 6) + 6) + 6) + 6)) [.int (nI j)] [] dX4_isSame_220 (lc_minutesToBurn _ hl E q b1 b2 (sm_SW E p n (sm_G G) (sm_N C) (sm_M M) ++ Y) C G M C2 G2 M2 n hn hg j hlt) gX4_isSame_X2_minutesToBurn rfl kd_X2_minutesToBurn ⟨Nat.le_of_ble_eq_true rfl, Nat.le_of_ble_eq_true rfl⟩ 0 rfl rfl (Nat.le_of_ble_eq_true rfl) ⟨rfl, rfl⟩ ⟨(by show _ ≤ 530; omega), (by show _ ≤ 3180; omega)⟩ rfl (fun _ _ => ?_)
        refine jk_aload K dX4_isSame_223 0 rfl ?_
        refine jk_ws (ws' := (sm_S E (hb_cw E q b1 b2 C G M C2 G2 M2) Y p n (sm_G G) (sm_N C) (sm_M M))) lw_sw ?_
        refine jk_get (C := RX3) (T := TX3) (N := 11) (nm := "left") (ds := "I") (v := .int (((sm_N C) j) 7)) K dX4_isSame_225 hin_RX3 (by decide +kernel) ((hb_cw E q b1 b2 C G M C2 G2 M2).length + (13 + j)) (sm_h hlt) rfl 7 rfl (by decide) rfl ?_
        refine jk_icmp_ne_F (tgt := 311) K dX4_isSame_228 rfl rfl ?_
        refine jk_aload_n K dX4_isSame_231 rfl 5 rfl ?_
        refine jk_iload K dX4_isSame_232 1 rfl ?_
        refine jk_ws (ws' := (hb_v1 E q b1 b2 (sm_SW E p n (sm_G G) (sm_N C) (sm_M M) ++ Y) C G M C2 G2 M2)) lw_sw.symm ?_
        refine jk_cVi K (n' := ((((((((((53 * j) + 1) + 1) + 1) + 1) + 1) + 1) + 1) + 1) + 1)) (k' := ((((((((((318 * j) + 6) + 6) + 6) + 6) + 6) + 6) + 6) + 6) + 6)) [.int (nI j)] [] dX4_isSame_234 (lc_lookingFor _ hl E q b1 b2 (sm_SW E p n (sm_G G) (sm_N C) (sm_M M) ++ Y) C G M C2 G2 M2 n hn hg j hlt) gX4_isSame_X2_lookingFor rfl kd_X2_lookingFor ⟨Nat.le_of_ble_eq_true rfl, Nat.le_of_ble_eq_true rfl⟩ 0 rfl rfl (Nat.le_of_ble_eq_true rfl) ⟨rfl, rfl⟩ ⟨(by show _ ≤ 530; omega), (by show _ ≤ 3180; omega)⟩ rfl (fun _ _ => ?_)
        refine jk_aload K dX4_isSame_237 0 rfl ?_
        refine jk_ws (ws' := (sm_S E (hb_cw E q b1 b2 C G M C2 G2 M2) Y p n (sm_G G) (sm_N C) (sm_M M))) lw_sw ?_
        refine jk_get (C := RX3) (T := TX3) (N := 11) (nm := "looking") (ds := "I") (v := .int (((sm_N C) j) 8)) K dX4_isSame_239 hin_RX3 (by decide +kernel) ((hb_cw E q b1 b2 C G M C2 G2 M2).length + (13 + j)) (sm_h hlt) rfl 8 rfl (by decide) rfl ?_
        refine jk_icmp_ne_F (tgt := 311) K dX4_isSame_242 rfl rfl ?_
        refine jk_aload K dX4_isSame_245 0 rfl ?_
        refine jk_get (C := RX3) (T := TX3) (N := 11) (nm := "state") (ds := "I") (v := .int (((sm_N C) j) 6)) K dX4_isSame_247 hin_RX3 (by decide +kernel) ((hb_cw E q b1 b2 C G M C2 G2 M2).length + (13 + j)) (sm_h hlt) rfl 6 rfl (by decide) rfl ?_
        refine jk_if_eq_T (tgt := 267) K dX4_isSame_250 rfl z5 ?_
        refine jk_aload_n K dX4_isSame_267 rfl 5 rfl ?_
        refine jk_iload K dX4_isSame_268 1 rfl ?_
        refine jk_ws (ws' := (hb_v1 E q b1 b2 (sm_SW E p n (sm_G G) (sm_N C) (sm_M M) ++ Y) C G M C2 G2 M2)) lw_sw.symm ?_
        refine jk_cVi K (n' := (((((((((((53 * j) + 1) + 1) + 1) + 1) + 1) + 1) + 1) + 1) + 1) + 1)) (k' := (((((((((((318 * j) + 6) + 6) + 6) + 6) + 6) + 6) + 6) + 6) + 6) + 6)) [.int (nI j)] [] dX4_isSame_270 (lc_isMistaken _ hl E q b1 b2 (sm_SW E p n (sm_G G) (sm_N C) (sm_M M) ++ Y) C G M C2 G2 M2 n hn hg j hlt) gX4_isSame_X2_isMistaken rfl kd_X2_isMistaken ⟨Nat.le_of_ble_eq_true rfl, Nat.le_of_ble_eq_true rfl⟩ 0 rfl rfl (Nat.le_of_ble_eq_true rfl) ⟨rfl, rfl⟩ ⟨(by show _ ≤ 530; omega), (by show _ ≤ 3180; omega)⟩ rfl (fun _ _ => ?_)
        refine jk_aload K dX4_isSame_273 0 rfl ?_
        refine jk_ws (ws' := (sm_S E (hb_cw E q b1 b2 C G M C2 G2 M2) Y p n (sm_G G) (sm_N C) (sm_M M))) lw_sw ?_
        refine jk_get (C := RX3) (T := TX3) (N := 11) (nm := "state") (ds := "I") (v := .int (((sm_N C) j) 6)) K dX4_isSame_275 hin_RX3 (by decide +kernel) ((hb_cw E q b1 b2 C G M C2 G2 M2).length + (13 + j)) (sm_h hlt) rfl 6 rfl (by decide) rfl ?_
        refine jk_if_eq_T (tgt := 293) K dX4_isSame_278 rfl z5 ?_
        refine jk_iconst (x := 0) K dX4_isSame_293 rfl ?_
        refine jk_icmp_ne_F (tgt := 311) K dX4_isSame_294 rfl (by rw [z9]; decide) ?_
        refine jk_aload_n K dX4_isSame_297 rfl 5 rfl ?_
        refine jk_iload K dX4_isSame_298 1 rfl ?_
        refine jk_ws (ws' := (hb_v1 E q b1 b2 (sm_SW E p n (sm_G G) (sm_N C) (sm_M M) ++ Y) C G M C2 G2 M2)) lw_sw.symm ?_
        refine jk_cVi K (n' := ((((((((((((53 * j) + 1) + 1) + 1) + 1) + 1) + 1) + 1) + 1) + 1) + 1) + 1)) (k' := ((((((((((((318 * j) + 6) + 6) + 6) + 6) + 6) + 6) + 6) + 6) + 6) + 6) + 6)) [.int (nI j)] [] dX4_isSame_300 (lc_answersTo _ hl E q b1 b2 (sm_SW E p n (sm_G G) (sm_N C) (sm_M M) ++ Y) C G M C2 G2 M2 n hn hg j hlt) gX4_isSame_X2_answersTo rfl kd_X2_answersTo ⟨Nat.le_of_ble_eq_true rfl, Nat.le_of_ble_eq_true rfl⟩ 0 rfl rfl (Nat.le_of_ble_eq_true rfl) ⟨rfl, rfl⟩ ⟨(by show _ ≤ 530; omega), (by show _ ≤ 3180; omega)⟩ rfl (fun _ _ => ?_)
        refine jk_aload K dX4_isSame_303 0 rfl ?_
        refine jk_ws (ws' := (sm_S E (hb_cw E q b1 b2 C G M C2 G2 M2) Y p n (sm_G G) (sm_N C) (sm_M M))) lw_sw ?_
        refine jk_get (C := RX3) (T := TX3) (N := 11) (nm := "answers") (ds := "I") (v := .int (((sm_N C) j) 10)) K dX4_isSame_305 hin_RX3 (by decide +kernel) ((hb_cw E q b1 b2 C G M C2 G2 M2).length + (13 + j)) (sm_h hlt) rfl 10 rfl (by decide) rfl ?_
        refine jk_icmp_eq_T (tgt := 313) K dX4_isSame_308 rfl rfl ?_
        refine jk_iconst (x := 0) K dX4_isSame_313 rfl ?_
        refine jk_istore (lv' := [(6, .int 0), (5, .ref (p (13 + j))), (4, .int (nI j)), (3, .int (hb_wood C j)), (2, .int (nI n)), (0, .ref (p 0)), (1, .ref q)]) K dX4_isSame_314 (by decide) rfl ?_
        refine jk_wide (n' := (53 * j + 13 + 4 * 0)) (k' := (318 * j + 78 + 24 * 0)) (by omega) (by omega) ?_
        refine jk_lv (lv' := [(6, .int (nI 0)), (5, .ref (p (13 + j))), (4, .int (nI j)), (3, .int (hb_wood C j)), (2, .int (nI n)), (0, .ref (p 0)), (1, .ref q)]) (by first | rfl | (simp [c_90]; done)) ?_
        exact hI hlt 0 (Nat.zero_le _)
      · rcases zs with zm | ⟨s, hs, zs2⟩
        · have zs : iv_so n (C j 9) := Or.inl zm
          refine jk_aload_n K dX4_isSame_93 rfl 3 rfl ?_
          refine jk_get (C := RX4) (T := TX4) (N := 7) (nm := "hills") (ds := "[LHillBeaconsLaw$Hill;") (v := .ref (p 1)) K dX4_isSame_94 hin_RX4 (by decide +kernel) ((hb_cw E q b1 b2 C G M C2 G2 M2).length + 0) sm_0 rfl 5 rfl (by decide) rfl ?_
          refine jk_iload K dX4_isSame_97 0 rfl ?_
          refine jk_laldL (v := (p (13 + j))) K dX4_isSame_99 ((hb_cw E q b1 b2 C G M C2 G2 M2).length + 1) sm_1 (vp_in_nI hlt (by omega)) (by rw [nI_clamp (by omega)]) ?_
          refine jk_astore (lv' := [(5, .ref (p (13 + j))), (4, .int (nI j)), (3, .int (hb_wood C j)), (2, .int (nI n)), (0, .ref (p 0)), (1, .ref q)]) K dX4_isSame_100 (by decide) rfl ?_
          refine jk_aload_n K dX4_isSame_102 rfl 5 rfl ?_
          refine jk_iload K dX4_isSame_103 1 rfl ?_
          refine jk_ws (ws' := (hb_v1 E q b1 b2 (sm_SW E p n (sm_G G) (sm_N C) (sm_M M) ++ Y) C G M C2 G2 M2)) lw_sw.symm ?_
          refine jk_cVi K (n' := ((53 * j) + 1)) (k' := ((318 * j) + 6)) [.int (nI j)] [] dX4_isSame_105 (lc_woodOf _ hl E q b1 b2 (sm_SW E p n (sm_G G) (sm_N C) (sm_M M) ++ Y) C G M C2 G2 M2 n hn hg j hlt) gX4_isSame_X2_woodOf rfl kd_X2_woodOf ⟨Nat.le_of_ble_eq_true rfl, Nat.le_of_ble_eq_true rfl⟩ 0 rfl rfl (Nat.le_of_ble_eq_true rfl) ⟨rfl, rfl⟩ ⟨(by show _ ≤ 530; omega), (by show _ ≤ 3180; omega)⟩ rfl (fun _ _ => ?_)
          refine jk_aload K dX4_isSame_108 0 rfl ?_
          refine jk_ws (ws' := (sm_S E (hb_cw E q b1 b2 C G M C2 G2 M2) Y p n (sm_G G) (sm_N C) (sm_M M))) lw_sw ?_
          refine jk_get (C := RX3) (T := TX3) (N := 11) (nm := "wood") (ds := "I") (v := .int (((sm_N C) j) 1)) K dX4_isSame_110 hin_RX3 (by decide +kernel) ((hb_cw E q b1 b2 C G M C2 G2 M2).length + (13 + j)) (sm_h hlt) rfl 1 rfl (by decide) rfl ?_
          refine jk_icmp_ne_F (tgt := 311) K dX4_isSame_113 rfl rfl ?_
          refine jk_aload_n K dX4_isSame_116 rfl 5 rfl ?_
          refine jk_iload K dX4_isSame_117 1 rfl ?_
          refine jk_ws (ws' := (hb_v1 E q b1 b2 (sm_SW E p n (sm_G G) (sm_N C) (sm_M M) ++ Y) C G M C2 G2 M2)) lw_sw.symm ?_
          refine jk_cVi K (n' := (((53 * j) + 1) + 1)) (k' := (((318 * j) + 6) + 6)) [.int (nI j)] [] dX4_isSame_119 (lc_dampOf _ hl E q b1 b2 (sm_SW E p n (sm_G G) (sm_N C) (sm_M M) ++ Y) C G M C2 G2 M2 n hn hg j hlt) gX4_isSame_X2_dampOf rfl kd_X2_dampOf ⟨Nat.le_of_ble_eq_true rfl, Nat.le_of_ble_eq_true rfl⟩ 0 rfl rfl (Nat.le_of_ble_eq_true rfl) ⟨rfl, rfl⟩ ⟨(by show _ ≤ 530; omega), (by show _ ≤ 3180; omega)⟩ rfl (fun _ _ => ?_)
          refine jk_aload K dX4_isSame_122 0 rfl ?_
          refine jk_ws (ws' := (sm_S E (hb_cw E q b1 b2 C G M C2 G2 M2) Y p n (sm_G G) (sm_N C) (sm_M M))) lw_sw ?_
          refine jk_get (C := RX3) (T := TX3) (N := 11) (nm := "damp") (ds := "I") (v := .int (((sm_N C) j) 2)) K dX4_isSame_124 hin_RX3 (by decide +kernel) ((hb_cw E q b1 b2 C G M C2 G2 M2).length + (13 + j)) (sm_h hlt) rfl 2 rfl (by decide) rfl ?_
          refine jk_icmp_ne_F (tgt := 311) K dX4_isSame_127 rfl rfl ?_
          refine jk_aload_n K dX4_isSame_130 rfl 5 rfl ?_
          refine jk_iload K dX4_isSame_131 1 rfl ?_
          refine jk_ws (ws' := (hb_v1 E q b1 b2 (sm_SW E p n (sm_G G) (sm_N C) (sm_M M) ++ Y) C G M C2 G2 M2)) lw_sw.symm ?_
          refine jk_cVi K (n' := ((((53 * j) + 1) + 1) + 1)) (k' := ((((318 * j) + 6) + 6) + 6)) [.int (nI j)] [] dX4_isSame_133 (lc_watchOf _ hl E q b1 b2 (sm_SW E p n (sm_G G) (sm_N C) (sm_M M) ++ Y) C G M C2 G2 M2 n hn hg j hlt) gX4_isSame_X2_watchOf rfl kd_X2_watchOf ⟨Nat.le_of_ble_eq_true rfl, Nat.le_of_ble_eq_true rfl⟩ 0 rfl rfl (Nat.le_of_ble_eq_true rfl) ⟨rfl, rfl⟩ ⟨(by show _ ≤ 530; omega), (by show _ ≤ 3180; omega)⟩ rfl (fun _ _ => ?_)
          refine jk_aload K dX4_isSame_136 0 rfl ?_
          refine jk_ws (ws' := (sm_S E (hb_cw E q b1 b2 C G M C2 G2 M2) Y p n (sm_G G) (sm_N C) (sm_M M))) lw_sw ?_
          refine jk_get (C := RX3) (T := TX3) (N := 11) (nm := "watch") (ds := "I") (v := .int (((sm_N C) j) 3)) K dX4_isSame_138 hin_RX3 (by decide +kernel) ((hb_cw E q b1 b2 C G M C2 G2 M2).length + (13 + j)) (sm_h hlt) rfl 3 rfl (by decide) rfl ?_
          refine jk_icmp_ne_F (tgt := 311) K dX4_isSame_141 rfl rfl ?_
          refine jk_aload_n K dX4_isSame_144 rfl 5 rfl ?_
          refine jk_iload K dX4_isSame_145 1 rfl ?_
          refine jk_ws (ws' := (hb_v1 E q b1 b2 (sm_SW E p n (sm_G G) (sm_N C) (sm_M M) ++ Y) C G M C2 G2 M2)) lw_sw.symm ?_
          refine jk_cVi K (n' := (((((53 * j) + 1) + 1) + 1) + 1)) (k' := (((((318 * j) + 6) + 6) + 6) + 6)) [.int (nI j)] [] dX4_isSame_147 (lc_looksEast _ hl E q b1 b2 (sm_SW E p n (sm_G G) (sm_N C) (sm_M M) ++ Y) C G M C2 G2 M2 n hn hg j hlt) gX4_isSame_X2_looksEast rfl kd_X2_looksEast ⟨Nat.le_of_ble_eq_true rfl, Nat.le_of_ble_eq_true rfl⟩ 0 rfl rfl (Nat.le_of_ble_eq_true rfl) ⟨rfl, rfl⟩ ⟨(by show _ ≤ 530; omega), (by show _ ≤ 3180; omega)⟩ rfl (fun _ _ => ?_)
          refine jk_aload K dX4_isSame_150 0 rfl ?_
          refine jk_ws (ws' := (sm_S E (hb_cw E q b1 b2 C G M C2 G2 M2) Y p n (sm_G G) (sm_N C) (sm_M M))) lw_sw ?_
          refine jk_get (C := RX3) (T := TX3) (N := 11) (nm := "east") (ds := "Z") (v := .int (hb_zb (((sm_N C) j) 4))) K dX4_isSame_152 hin_RX3 (by decide +kernel) ((hb_cw E q b1 b2 C G M C2 G2 M2).length + (13 + j)) (sm_h hlt) rfl 4 rfl (by decide) rfl ?_
          refine jk_icmp_ne_F (tgt := 311) K dX4_isSame_155 rfl rfl ?_
          refine jk_aload_n K dX4_isSame_158 rfl 5 rfl ?_
          refine jk_iload K dX4_isSame_159 1 rfl ?_
          refine jk_ws (ws' := (hb_v1 E q b1 b2 (sm_SW E p n (sm_G G) (sm_N C) (sm_M M) ++ Y) C G M C2 G2 M2)) lw_sw.symm ?_
          refine jk_cVi K (n' := ((((((53 * j) + 1) + 1) + 1) + 1) + 1)) (k' := ((((((318 * j) + 6) + 6) + 6) + 6) + 6)) [.int (nI j)] [] dX4_isSame_161 (lc_isPost _ hl E q b1 b2 (sm_SW E p n (sm_G G) (sm_N C) (sm_M M) ++ Y) C G M C2 G2 M2 n hn hg j hlt) gX4_isSame_X2_isPost rfl kd_X2_isPost ⟨Nat.le_of_ble_eq_true rfl, Nat.le_of_ble_eq_true rfl⟩ 0 rfl rfl (Nat.le_of_ble_eq_true rfl) ⟨rfl, rfl⟩ ⟨(by show _ ≤ 530; omega), (by show _ ≤ 3180; omega)⟩ rfl (fun _ _ => ?_)
          refine jk_aload K dX4_isSame_164 0 rfl ?_
          refine jk_ws (ws' := (sm_S E (hb_cw E q b1 b2 C G M C2 G2 M2) Y p n (sm_G G) (sm_N C) (sm_M M))) lw_sw ?_
          refine jk_get (C := RX3) (T := TX3) (N := 11) (nm := "post") (ds := "Z") (v := .int (hb_zb (((sm_N C) j) 5))) K dX4_isSame_166 hin_RX3 (by decide +kernel) ((hb_cw E q b1 b2 C G M C2 G2 M2).length + (13 + j)) (sm_h hlt) rfl 5 rfl (by decide) rfl ?_
          refine jk_icmp_ne_F (tgt := 311) K dX4_isSame_169 rfl rfl ?_
          refine jk_aload_n K dX4_isSame_172 rfl 5 rfl ?_
          refine jk_iload K dX4_isSame_173 1 rfl ?_
          refine jk_ws (ws' := (hb_v1 E q b1 b2 (sm_SW E p n (sm_G G) (sm_N C) (sm_M M) ++ Y) C G M C2 G2 M2)) lw_sw.symm ?_
          refine jk_cVi K (n' := (((((((53 * j) + 1) + 1) + 1) + 1) + 1) + 1)) (k' := (((((((318 * j) + 6) + 6) + 6) + 6) + 6) + 6)) [.int (nI j)] [] dX4_isSame_175 (lc_isDark _ hl E q b1 b2 (sm_SW E p n (sm_G G) (sm_N C) (sm_M M) ++ Y) C G M C2 G2 M2 n hn hg j hlt) gX4_isSame_X2_isDark rfl kd_X2_isDark ⟨Nat.le_of_ble_eq_true rfl, Nat.le_of_ble_eq_true rfl⟩ 0 rfl rfl (Nat.le_of_ble_eq_true rfl) ⟨rfl, rfl⟩ ⟨(by show _ ≤ 530; omega), (by show _ ≤ 3180; omega)⟩ rfl (fun _ _ => ?_)
          refine jk_aload K dX4_isSame_178 0 rfl ?_
          refine jk_ws (ws' := (sm_S E (hb_cw E q b1 b2 C G M C2 G2 M2) Y p n (sm_G G) (sm_N C) (sm_M M))) lw_sw ?_
          refine jk_get (C := RX3) (T := TX3) (N := 11) (nm := "state") (ds := "I") (v := .int (((sm_N C) j) 6)) K dX4_isSame_180 hin_RX3 (by decide +kernel) ((hb_cw E q b1 b2 C G M C2 G2 M2).length + (13 + j)) (sm_h hlt) rfl 6 rfl (by decide) rfl ?_
          refine jk_if_ne_T (tgt := 190) K dX4_isSame_183 rfl (show ¬ C j 5 = 0 by rw [z5]; decide) ?_
          refine jk_iconst (x := 0) K dX4_isSame_190 rfl ?_
          refine jk_icmp_ne_F (tgt := 311) K dX4_isSame_191 rfl (by rw [if_neg (show ¬ C j 5 = 0 by rw [z5]; decide)]) ?_
          refine jk_aload_n K dX4_isSame_194 rfl 5 rfl ?_
          refine jk_iload K dX4_isSame_195 1 rfl ?_
          refine jk_ws (ws' := (hb_v1 E q b1 b2 (sm_SW E p n (sm_G G) (sm_N C) (sm_M M) ++ Y) C G M C2 G2 M2)) lw_sw.symm ?_
          refine jk_cVi K (n' := ((((((((53 * j) + 1) + 1) + 1) + 1) + 1) + 1) + 1)) (k' := ((((((((318 * j) + 6) + 6) + 6) + 6) + 6) + 6) + 6)) [.int (nI j)] [] dX4_isSame_197 (lc_isBurning _ hl E q b1 b2 (sm_SW E p n (sm_G G) (sm_N C) (sm_M M) ++ Y) C G M C2 G2 M2 n hn hg j hlt) gX4_isSame_X2_isBurning rfl kd_X2_isBurning ⟨Nat.le_of_ble_eq_true rfl, Nat.le_of_ble_eq_true rfl⟩ 0 rfl rfl (Nat.le_of_ble_eq_true rfl) ⟨rfl, rfl⟩ ⟨(by show _ ≤ 530; omega), (by show _ ≤ 3180; omega)⟩ rfl (fun _ _ => ?_)
          refine jk_aload K dX4_isSame_200 0 rfl ?_
          refine jk_ws (ws' := (sm_S E (hb_cw E q b1 b2 C G M C2 G2 M2) Y p n (sm_G G) (sm_N C) (sm_M M))) lw_sw ?_
          refine jk_get (C := RX3) (T := TX3) (N := 11) (nm := "state") (ds := "I") (v := .int (((sm_N C) j) 6)) K dX4_isSame_202 hin_RX3 (by decide +kernel) ((hb_cw E q b1 b2 C G M C2 G2 M2).length + (13 + j)) (sm_h hlt) rfl 6 rfl (by decide) rfl ?_
          refine jk_iconst (x := 2) K dX4_isSame_205 rfl ?_
          refine jk_icmp_ne_T (tgt := 213) K dX4_isSame_206 rfl (show ¬ C j 5 = 2 by rw [z5]; decide) ?_
          refine jk_iconst (x := 0) K dX4_isSame_213 rfl ?_
          refine jk_icmp_ne_F (tgt := 311) K dX4_isSame_214 rfl (by rw [if_neg (show ¬ C j 5 = 2 by rw [z5]; decide)]) ?_
          refine jk_aload_n K dX4_isSame_217 rfl 5 rfl ?_
          refine jk_iload K dX4_isSame_218 1 rfl ?_
          refine jk_ws (ws' := (hb_v1 E q b1 b2 (sm_SW E p n (sm_G G) (sm_N C) (sm_M M) ++ Y) C G M C2 G2 M2)) lw_sw.symm ?_
          refine jk_cVi K (n' := (((((((((53 * j) + 1) + 1) + 1) + 1) + 1) + 1) + 1) + 1)) (k' := (((((((((318 * j) + 6) + 6) + 6) + 6) + 6) + 6) + 6) + 6)) [.int (nI j)] [] dX4_isSame_220 (lc_minutesToBurn _ hl E q b1 b2 (sm_SW E p n (sm_G G) (sm_N C) (sm_M M) ++ Y) C G M C2 G2 M2 n hn hg j hlt) gX4_isSame_X2_minutesToBurn rfl kd_X2_minutesToBurn ⟨Nat.le_of_ble_eq_true rfl, Nat.le_of_ble_eq_true rfl⟩ 0 rfl rfl (Nat.le_of_ble_eq_true rfl) ⟨rfl, rfl⟩ ⟨(by show _ ≤ 530; omega), (by show _ ≤ 3180; omega)⟩ rfl (fun _ _ => ?_)
          refine jk_aload K dX4_isSame_223 0 rfl ?_
          refine jk_ws (ws' := (sm_S E (hb_cw E q b1 b2 C G M C2 G2 M2) Y p n (sm_G G) (sm_N C) (sm_M M))) lw_sw ?_
          refine jk_get (C := RX3) (T := TX3) (N := 11) (nm := "left") (ds := "I") (v := .int (((sm_N C) j) 7)) K dX4_isSame_225 hin_RX3 (by decide +kernel) ((hb_cw E q b1 b2 C G M C2 G2 M2).length + (13 + j)) (sm_h hlt) rfl 7 rfl (by decide) rfl ?_
          refine jk_icmp_ne_F (tgt := 311) K dX4_isSame_228 rfl rfl ?_
          refine jk_aload_n K dX4_isSame_231 rfl 5 rfl ?_
          refine jk_iload K dX4_isSame_232 1 rfl ?_
          refine jk_ws (ws' := (hb_v1 E q b1 b2 (sm_SW E p n (sm_G G) (sm_N C) (sm_M M) ++ Y) C G M C2 G2 M2)) lw_sw.symm ?_
          refine jk_cVi K (n' := ((((((((((53 * j) + 1) + 1) + 1) + 1) + 1) + 1) + 1) + 1) + 1)) (k' := ((((((((((318 * j) + 6) + 6) + 6) + 6) + 6) + 6) + 6) + 6) + 6)) [.int (nI j)] [] dX4_isSame_234 (lc_lookingFor _ hl E q b1 b2 (sm_SW E p n (sm_G G) (sm_N C) (sm_M M) ++ Y) C G M C2 G2 M2 n hn hg j hlt) gX4_isSame_X2_lookingFor rfl kd_X2_lookingFor ⟨Nat.le_of_ble_eq_true rfl, Nat.le_of_ble_eq_true rfl⟩ 0 rfl rfl (Nat.le_of_ble_eq_true rfl) ⟨rfl, rfl⟩ ⟨(by show _ ≤ 530; omega), (by show _ ≤ 3180; omega)⟩ rfl (fun _ _ => ?_)
          refine jk_aload K dX4_isSame_237 0 rfl ?_
          refine jk_ws (ws' := (sm_S E (hb_cw E q b1 b2 C G M C2 G2 M2) Y p n (sm_G G) (sm_N C) (sm_M M))) lw_sw ?_
          refine jk_get (C := RX3) (T := TX3) (N := 11) (nm := "looking") (ds := "I") (v := .int (((sm_N C) j) 8)) K dX4_isSame_239 hin_RX3 (by decide +kernel) ((hb_cw E q b1 b2 C G M C2 G2 M2).length + (13 + j)) (sm_h hlt) rfl 8 rfl (by decide) rfl ?_
          refine jk_icmp_ne_F (tgt := 311) K dX4_isSame_242 rfl rfl ?_
          refine jk_aload K dX4_isSame_245 0 rfl ?_
          refine jk_get (C := RX3) (T := TX3) (N := 11) (nm := "state") (ds := "I") (v := .int (((sm_N C) j) 6)) K dX4_isSame_247 hin_RX3 (by decide +kernel) ((hb_cw E q b1 b2 C G M C2 G2 M2).length + (13 + j)) (sm_h hlt) rfl 6 rfl (by decide) rfl ?_
          refine jk_if_eq_F (tgt := 267) K dX4_isSame_250 rfl (show ¬ C j 5 = 0 by rw [z5]; decide) ?_
          refine jk_aload_n K dX4_isSame_253 rfl 5 rfl ?_
          refine jk_iload K dX4_isSame_254 1 rfl ?_
          refine jk_ws (ws' := (hb_v1 E q b1 b2 (sm_SW E p n (sm_G G) (sm_N C) (sm_M M) ++ Y) C G M C2 G2 M2)) lw_sw.symm ?_
          refine jk_cVi K (n' := (((((((((((53 * j) + 1) + 1) + 1) + 1) + 1) + 1) + 1) + 1) + 1) + 2)) (k' := (((((((((((318 * j) + 6) + 6) + 6) + 6) + 6) + 6) + 6) + 6) + 6) + 12)) [.int (nI j)] [] dX4_isSame_256 (lc_sourceOf _ hl E q b1 b2 (sm_SW E p n (sm_G G) (sm_N C) (sm_M M) ++ Y) C G M C2 G2 M2 n hn hg j hlt (show ¬ C j 5 = 0 by rw [z5]; decide)) gX4_isSame_X2_sourceOf rfl kd_X2_sourceOf ⟨Nat.le_of_ble_eq_true rfl, Nat.le_of_ble_eq_true rfl⟩ 0 rfl rfl (Nat.le_of_ble_eq_true rfl) ⟨rfl, rfl⟩ ⟨(by show _ ≤ 530; omega), (by show _ ≤ 3180; omega)⟩ rfl (fun _ _ => ?_)
          refine jk_aload K dX4_isSame_259 0 rfl ?_
          refine jk_ws (ws' := (sm_S E (hb_cw E q b1 b2 C G M C2 G2 M2) Y p n (sm_G G) (sm_N C) (sm_M M))) lw_sw ?_
          refine jk_get (C := RX3) (T := TX3) (N := 11) (nm := "source") (ds := "I") (v := .int (((sm_N C) j) 9)) K dX4_isSame_261 hin_RX3 (by decide +kernel) ((hb_cw E q b1 b2 C G M C2 G2 M2).length + (13 + j)) (sm_h hlt) rfl 9 rfl (by decide) rfl ?_
          refine jk_icmp_ne_F (tgt := 311) K dX4_isSame_264 rfl (show C j 9 = sm_s (C j 9) from (sm_s_so hn zs).symm) ?_
          refine jk_aload_n K dX4_isSame_267 rfl 5 rfl ?_
          refine jk_iload K dX4_isSame_268 1 rfl ?_
          refine jk_ws (ws' := (hb_v1 E q b1 b2 (sm_SW E p n (sm_G G) (sm_N C) (sm_M M) ++ Y) C G M C2 G2 M2)) lw_sw.symm ?_
          refine jk_cVi K (n' := ((((((((((((53 * j) + 1) + 1) + 1) + 1) + 1) + 1) + 1) + 1) + 1) + 2) + 1)) (k' := ((((((((((((318 * j) + 6) + 6) + 6) + 6) + 6) + 6) + 6) + 6) + 6) + 12) + 6)) [.int (nI j)] [] dX4_isSame_270 (lc_isMistaken _ hl E q b1 b2 (sm_SW E p n (sm_G G) (sm_N C) (sm_M M) ++ Y) C G M C2 G2 M2 n hn hg j hlt) gX4_isSame_X2_isMistaken rfl kd_X2_isMistaken ⟨Nat.le_of_ble_eq_true rfl, Nat.le_of_ble_eq_true rfl⟩ 0 rfl rfl (Nat.le_of_ble_eq_true rfl) ⟨rfl, rfl⟩ ⟨(by show _ ≤ 530; omega), (by show _ ≤ 3180; omega)⟩ rfl (fun _ _ => ?_)
          refine jk_aload K dX4_isSame_273 0 rfl ?_
          refine jk_ws (ws' := (sm_S E (hb_cw E q b1 b2 C G M C2 G2 M2) Y p n (sm_G G) (sm_N C) (sm_M M))) lw_sw ?_
          refine jk_get (C := RX3) (T := TX3) (N := 11) (nm := "state") (ds := "I") (v := .int (((sm_N C) j) 6)) K dX4_isSame_275 hin_RX3 (by decide +kernel) ((hb_cw E q b1 b2 C G M C2 G2 M2).length + (13 + j)) (sm_h hlt) rfl 6 rfl (by decide) rfl ?_
          refine jk_if_eq_F (tgt := 293) K dX4_isSame_278 rfl (show ¬ C j 5 = 0 by rw [z5]; decide) ?_
          refine jk_aload K dX4_isSame_281 0 rfl ?_
          refine jk_get (C := RX3) (T := TX3) (N := 11) (nm := "source") (ds := "I") (v := .int (((sm_N C) j) 9)) K dX4_isSame_283 hin_RX3 (by decide +kernel) ((hb_cw E q b1 b2 C G M C2 G2 M2).length + (13 + j)) (sm_h hlt) rfl 9 rfl (by decide) rfl ?_
          refine jk_if_ge_F (tgt := 293) K dX4_isSame_286 rfl (show ¬ 0 ≤ sm_s (C j 9) by rw [sm_s_so hn zs, zm]; decide) ?_
          refine jk_iconst (x := 1) K dX4_isSame_289 rfl ?_
          refine jk_goto (tgt := 294) K dX4_isSame_290 rfl ?_
          refine jk_icmp_ne_F (tgt := 311) K dX4_isSame_294 rfl (by rw [if_pos zm]) ?_
          refine jk_aload_n K dX4_isSame_297 rfl 5 rfl ?_
          refine jk_iload K dX4_isSame_298 1 rfl ?_
          refine jk_ws (ws' := (hb_v1 E q b1 b2 (sm_SW E p n (sm_G G) (sm_N C) (sm_M M) ++ Y) C G M C2 G2 M2)) lw_sw.symm ?_
          refine jk_cVi K (n' := (((((((((((((53 * j) + 1) + 1) + 1) + 1) + 1) + 1) + 1) + 1) + 1) + 2) + 1) + 1)) (k' := (((((((((((((318 * j) + 6) + 6) + 6) + 6) + 6) + 6) + 6) + 6) + 6) + 12) + 6) + 6)) [.int (nI j)] [] dX4_isSame_300 (lc_answersTo _ hl E q b1 b2 (sm_SW E p n (sm_G G) (sm_N C) (sm_M M) ++ Y) C G M C2 G2 M2 n hn hg j hlt) gX4_isSame_X2_answersTo rfl kd_X2_answersTo ⟨Nat.le_of_ble_eq_true rfl, Nat.le_of_ble_eq_true rfl⟩ 0 rfl rfl (Nat.le_of_ble_eq_true rfl) ⟨rfl, rfl⟩ ⟨(by show _ ≤ 530; omega), (by show _ ≤ 3180; omega)⟩ rfl (fun _ _ => ?_)
          refine jk_aload K dX4_isSame_303 0 rfl ?_
          refine jk_ws (ws' := (sm_S E (hb_cw E q b1 b2 C G M C2 G2 M2) Y p n (sm_G G) (sm_N C) (sm_M M))) lw_sw ?_
          refine jk_get (C := RX3) (T := TX3) (N := 11) (nm := "answers") (ds := "I") (v := .int (((sm_N C) j) 10)) K dX4_isSame_305 hin_RX3 (by decide +kernel) ((hb_cw E q b1 b2 C G M C2 G2 M2).length + (13 + j)) (sm_h hlt) rfl 10 rfl (by decide) rfl ?_
          refine jk_icmp_eq_T (tgt := 313) K dX4_isSame_308 rfl rfl ?_
          refine jk_iconst (x := 0) K dX4_isSame_313 rfl ?_
          refine jk_istore (lv' := [(6, .int 0), (5, .ref (p (13 + j))), (4, .int (nI j)), (3, .int (hb_wood C j)), (2, .int (nI n)), (0, .ref (p 0)), (1, .ref q)]) K dX4_isSame_314 (by decide) rfl ?_
          refine jk_wide (n' := (53 * j + 13 + 4 * 0)) (k' := (318 * j + 78 + 24 * 0)) (by omega) (by omega) ?_
          refine jk_lv (lv' := [(6, .int (nI 0)), (5, .ref (p (13 + j))), (4, .int (nI j)), (3, .int (hb_wood C j)), (2, .int (nI n)), (0, .ref (p 0)), (1, .ref q)]) (by first | rfl | (simp [c_90]; done)) ?_
          exact hI hlt 0 (Nat.zero_le _)
        · have zs : iv_so n (C j 9) := Or.inr ⟨s, hs, zs2⟩
          refine jk_aload_n K dX4_isSame_93 rfl 3 rfl ?_
          refine jk_get (C := RX4) (T := TX4) (N := 7) (nm := "hills") (ds := "[LHillBeaconsLaw$Hill;") (v := .ref (p 1)) K dX4_isSame_94 hin_RX4 (by decide +kernel) ((hb_cw E q b1 b2 C G M C2 G2 M2).length + 0) sm_0 rfl 5 rfl (by decide) rfl ?_
          refine jk_iload K dX4_isSame_97 0 rfl ?_
          refine jk_laldL (v := (p (13 + j))) K dX4_isSame_99 ((hb_cw E q b1 b2 C G M C2 G2 M2).length + 1) sm_1 (vp_in_nI hlt (by omega)) (by rw [nI_clamp (by omega)]) ?_
          refine jk_astore (lv' := [(5, .ref (p (13 + j))), (4, .int (nI j)), (3, .int (hb_wood C j)), (2, .int (nI n)), (0, .ref (p 0)), (1, .ref q)]) K dX4_isSame_100 (by decide) rfl ?_
          refine jk_aload_n K dX4_isSame_102 rfl 5 rfl ?_
          refine jk_iload K dX4_isSame_103 1 rfl ?_
          refine jk_ws (ws' := (hb_v1 E q b1 b2 (sm_SW E p n (sm_G G) (sm_N C) (sm_M M) ++ Y) C G M C2 G2 M2)) lw_sw.symm ?_
          refine jk_cVi K (n' := ((53 * j) + 1)) (k' := ((318 * j) + 6)) [.int (nI j)] [] dX4_isSame_105 (lc_woodOf _ hl E q b1 b2 (sm_SW E p n (sm_G G) (sm_N C) (sm_M M) ++ Y) C G M C2 G2 M2 n hn hg j hlt) gX4_isSame_X2_woodOf rfl kd_X2_woodOf ⟨Nat.le_of_ble_eq_true rfl, Nat.le_of_ble_eq_true rfl⟩ 0 rfl rfl (Nat.le_of_ble_eq_true rfl) ⟨rfl, rfl⟩ ⟨(by show _ ≤ 530; omega), (by show _ ≤ 3180; omega)⟩ rfl (fun _ _ => ?_)
          refine jk_aload K dX4_isSame_108 0 rfl ?_
          refine jk_ws (ws' := (sm_S E (hb_cw E q b1 b2 C G M C2 G2 M2) Y p n (sm_G G) (sm_N C) (sm_M M))) lw_sw ?_
          refine jk_get (C := RX3) (T := TX3) (N := 11) (nm := "wood") (ds := "I") (v := .int (((sm_N C) j) 1)) K dX4_isSame_110 hin_RX3 (by decide +kernel) ((hb_cw E q b1 b2 C G M C2 G2 M2).length + (13 + j)) (sm_h hlt) rfl 1 rfl (by decide) rfl ?_
          refine jk_icmp_ne_F (tgt := 311) K dX4_isSame_113 rfl rfl ?_
          refine jk_aload_n K dX4_isSame_116 rfl 5 rfl ?_
          refine jk_iload K dX4_isSame_117 1 rfl ?_
          refine jk_ws (ws' := (hb_v1 E q b1 b2 (sm_SW E p n (sm_G G) (sm_N C) (sm_M M) ++ Y) C G M C2 G2 M2)) lw_sw.symm ?_
          refine jk_cVi K (n' := (((53 * j) + 1) + 1)) (k' := (((318 * j) + 6) + 6)) [.int (nI j)] [] dX4_isSame_119 (lc_dampOf _ hl E q b1 b2 (sm_SW E p n (sm_G G) (sm_N C) (sm_M M) ++ Y) C G M C2 G2 M2 n hn hg j hlt) gX4_isSame_X2_dampOf rfl kd_X2_dampOf ⟨Nat.le_of_ble_eq_true rfl, Nat.le_of_ble_eq_true rfl⟩ 0 rfl rfl (Nat.le_of_ble_eq_true rfl) ⟨rfl, rfl⟩ ⟨(by show _ ≤ 530; omega), (by show _ ≤ 3180; omega)⟩ rfl (fun _ _ => ?_)
          refine jk_aload K dX4_isSame_122 0 rfl ?_
          refine jk_ws (ws' := (sm_S E (hb_cw E q b1 b2 C G M C2 G2 M2) Y p n (sm_G G) (sm_N C) (sm_M M))) lw_sw ?_
          refine jk_get (C := RX3) (T := TX3) (N := 11) (nm := "damp") (ds := "I") (v := .int (((sm_N C) j) 2)) K dX4_isSame_124 hin_RX3 (by decide +kernel) ((hb_cw E q b1 b2 C G M C2 G2 M2).length + (13 + j)) (sm_h hlt) rfl 2 rfl (by decide) rfl ?_
          refine jk_icmp_ne_F (tgt := 311) K dX4_isSame_127 rfl rfl ?_
          refine jk_aload_n K dX4_isSame_130 rfl 5 rfl ?_
          refine jk_iload K dX4_isSame_131 1 rfl ?_
          refine jk_ws (ws' := (hb_v1 E q b1 b2 (sm_SW E p n (sm_G G) (sm_N C) (sm_M M) ++ Y) C G M C2 G2 M2)) lw_sw.symm ?_
          refine jk_cVi K (n' := ((((53 * j) + 1) + 1) + 1)) (k' := ((((318 * j) + 6) + 6) + 6)) [.int (nI j)] [] dX4_isSame_133 (lc_watchOf _ hl E q b1 b2 (sm_SW E p n (sm_G G) (sm_N C) (sm_M M) ++ Y) C G M C2 G2 M2 n hn hg j hlt) gX4_isSame_X2_watchOf rfl kd_X2_watchOf ⟨Nat.le_of_ble_eq_true rfl, Nat.le_of_ble_eq_true rfl⟩ 0 rfl rfl (Nat.le_of_ble_eq_true rfl) ⟨rfl, rfl⟩ ⟨(by show _ ≤ 530; omega), (by show _ ≤ 3180; omega)⟩ rfl (fun _ _ => ?_)
          refine jk_aload K dX4_isSame_136 0 rfl ?_
          refine jk_ws (ws' := (sm_S E (hb_cw E q b1 b2 C G M C2 G2 M2) Y p n (sm_G G) (sm_N C) (sm_M M))) lw_sw ?_
          refine jk_get (C := RX3) (T := TX3) (N := 11) (nm := "watch") (ds := "I") (v := .int (((sm_N C) j) 3)) K dX4_isSame_138 hin_RX3 (by decide +kernel) ((hb_cw E q b1 b2 C G M C2 G2 M2).length + (13 + j)) (sm_h hlt) rfl 3 rfl (by decide) rfl ?_
          refine jk_icmp_ne_F (tgt := 311) K dX4_isSame_141 rfl rfl ?_
          refine jk_aload_n K dX4_isSame_144 rfl 5 rfl ?_
          refine jk_iload K dX4_isSame_145 1 rfl ?_
          refine jk_ws (ws' := (hb_v1 E q b1 b2 (sm_SW E p n (sm_G G) (sm_N C) (sm_M M) ++ Y) C G M C2 G2 M2)) lw_sw.symm ?_
          refine jk_cVi K (n' := (((((53 * j) + 1) + 1) + 1) + 1)) (k' := (((((318 * j) + 6) + 6) + 6) + 6)) [.int (nI j)] [] dX4_isSame_147 (lc_looksEast _ hl E q b1 b2 (sm_SW E p n (sm_G G) (sm_N C) (sm_M M) ++ Y) C G M C2 G2 M2 n hn hg j hlt) gX4_isSame_X2_looksEast rfl kd_X2_looksEast ⟨Nat.le_of_ble_eq_true rfl, Nat.le_of_ble_eq_true rfl⟩ 0 rfl rfl (Nat.le_of_ble_eq_true rfl) ⟨rfl, rfl⟩ ⟨(by show _ ≤ 530; omega), (by show _ ≤ 3180; omega)⟩ rfl (fun _ _ => ?_)
          refine jk_aload K dX4_isSame_150 0 rfl ?_
          refine jk_ws (ws' := (sm_S E (hb_cw E q b1 b2 C G M C2 G2 M2) Y p n (sm_G G) (sm_N C) (sm_M M))) lw_sw ?_
          refine jk_get (C := RX3) (T := TX3) (N := 11) (nm := "east") (ds := "Z") (v := .int (hb_zb (((sm_N C) j) 4))) K dX4_isSame_152 hin_RX3 (by decide +kernel) ((hb_cw E q b1 b2 C G M C2 G2 M2).length + (13 + j)) (sm_h hlt) rfl 4 rfl (by decide) rfl ?_
          refine jk_icmp_ne_F (tgt := 311) K dX4_isSame_155 rfl rfl ?_
          refine jk_aload_n K dX4_isSame_158 rfl 5 rfl ?_
          refine jk_iload K dX4_isSame_159 1 rfl ?_
          refine jk_ws (ws' := (hb_v1 E q b1 b2 (sm_SW E p n (sm_G G) (sm_N C) (sm_M M) ++ Y) C G M C2 G2 M2)) lw_sw.symm ?_
          refine jk_cVi K (n' := ((((((53 * j) + 1) + 1) + 1) + 1) + 1)) (k' := ((((((318 * j) + 6) + 6) + 6) + 6) + 6)) [.int (nI j)] [] dX4_isSame_161 (lc_isPost _ hl E q b1 b2 (sm_SW E p n (sm_G G) (sm_N C) (sm_M M) ++ Y) C G M C2 G2 M2 n hn hg j hlt) gX4_isSame_X2_isPost rfl kd_X2_isPost ⟨Nat.le_of_ble_eq_true rfl, Nat.le_of_ble_eq_true rfl⟩ 0 rfl rfl (Nat.le_of_ble_eq_true rfl) ⟨rfl, rfl⟩ ⟨(by show _ ≤ 530; omega), (by show _ ≤ 3180; omega)⟩ rfl (fun _ _ => ?_)
          refine jk_aload K dX4_isSame_164 0 rfl ?_
          refine jk_ws (ws' := (sm_S E (hb_cw E q b1 b2 C G M C2 G2 M2) Y p n (sm_G G) (sm_N C) (sm_M M))) lw_sw ?_
          refine jk_get (C := RX3) (T := TX3) (N := 11) (nm := "post") (ds := "Z") (v := .int (hb_zb (((sm_N C) j) 5))) K dX4_isSame_166 hin_RX3 (by decide +kernel) ((hb_cw E q b1 b2 C G M C2 G2 M2).length + (13 + j)) (sm_h hlt) rfl 5 rfl (by decide) rfl ?_
          refine jk_icmp_ne_F (tgt := 311) K dX4_isSame_169 rfl rfl ?_
          refine jk_aload_n K dX4_isSame_172 rfl 5 rfl ?_
          refine jk_iload K dX4_isSame_173 1 rfl ?_
          refine jk_ws (ws' := (hb_v1 E q b1 b2 (sm_SW E p n (sm_G G) (sm_N C) (sm_M M) ++ Y) C G M C2 G2 M2)) lw_sw.symm ?_
          refine jk_cVi K (n' := (((((((53 * j) + 1) + 1) + 1) + 1) + 1) + 1)) (k' := (((((((318 * j) + 6) + 6) + 6) + 6) + 6) + 6)) [.int (nI j)] [] dX4_isSame_175 (lc_isDark _ hl E q b1 b2 (sm_SW E p n (sm_G G) (sm_N C) (sm_M M) ++ Y) C G M C2 G2 M2 n hn hg j hlt) gX4_isSame_X2_isDark rfl kd_X2_isDark ⟨Nat.le_of_ble_eq_true rfl, Nat.le_of_ble_eq_true rfl⟩ 0 rfl rfl (Nat.le_of_ble_eq_true rfl) ⟨rfl, rfl⟩ ⟨(by show _ ≤ 530; omega), (by show _ ≤ 3180; omega)⟩ rfl (fun _ _ => ?_)
          refine jk_aload K dX4_isSame_178 0 rfl ?_
          refine jk_ws (ws' := (sm_S E (hb_cw E q b1 b2 C G M C2 G2 M2) Y p n (sm_G G) (sm_N C) (sm_M M))) lw_sw ?_
          refine jk_get (C := RX3) (T := TX3) (N := 11) (nm := "state") (ds := "I") (v := .int (((sm_N C) j) 6)) K dX4_isSame_180 hin_RX3 (by decide +kernel) ((hb_cw E q b1 b2 C G M C2 G2 M2).length + (13 + j)) (sm_h hlt) rfl 6 rfl (by decide) rfl ?_
          refine jk_if_ne_T (tgt := 190) K dX4_isSame_183 rfl (show ¬ C j 5 = 0 by rw [z5]; decide) ?_
          refine jk_iconst (x := 0) K dX4_isSame_190 rfl ?_
          refine jk_icmp_ne_F (tgt := 311) K dX4_isSame_191 rfl (by rw [if_neg (show ¬ C j 5 = 0 by rw [z5]; decide)]) ?_
          refine jk_aload_n K dX4_isSame_194 rfl 5 rfl ?_
          refine jk_iload K dX4_isSame_195 1 rfl ?_
          refine jk_ws (ws' := (hb_v1 E q b1 b2 (sm_SW E p n (sm_G G) (sm_N C) (sm_M M) ++ Y) C G M C2 G2 M2)) lw_sw.symm ?_
          refine jk_cVi K (n' := ((((((((53 * j) + 1) + 1) + 1) + 1) + 1) + 1) + 1)) (k' := ((((((((318 * j) + 6) + 6) + 6) + 6) + 6) + 6) + 6)) [.int (nI j)] [] dX4_isSame_197 (lc_isBurning _ hl E q b1 b2 (sm_SW E p n (sm_G G) (sm_N C) (sm_M M) ++ Y) C G M C2 G2 M2 n hn hg j hlt) gX4_isSame_X2_isBurning rfl kd_X2_isBurning ⟨Nat.le_of_ble_eq_true rfl, Nat.le_of_ble_eq_true rfl⟩ 0 rfl rfl (Nat.le_of_ble_eq_true rfl) ⟨rfl, rfl⟩ ⟨(by show _ ≤ 530; omega), (by show _ ≤ 3180; omega)⟩ rfl (fun _ _ => ?_)
          refine jk_aload K dX4_isSame_200 0 rfl ?_
          refine jk_ws (ws' := (sm_S E (hb_cw E q b1 b2 C G M C2 G2 M2) Y p n (sm_G G) (sm_N C) (sm_M M))) lw_sw ?_
          refine jk_get (C := RX3) (T := TX3) (N := 11) (nm := "state") (ds := "I") (v := .int (((sm_N C) j) 6)) K dX4_isSame_202 hin_RX3 (by decide +kernel) ((hb_cw E q b1 b2 C G M C2 G2 M2).length + (13 + j)) (sm_h hlt) rfl 6 rfl (by decide) rfl ?_
          refine jk_iconst (x := 2) K dX4_isSame_205 rfl ?_
          refine jk_icmp_ne_T (tgt := 213) K dX4_isSame_206 rfl (show ¬ C j 5 = 2 by rw [z5]; decide) ?_
          refine jk_iconst (x := 0) K dX4_isSame_213 rfl ?_
          refine jk_icmp_ne_F (tgt := 311) K dX4_isSame_214 rfl (by rw [if_neg (show ¬ C j 5 = 2 by rw [z5]; decide)]) ?_
          refine jk_aload_n K dX4_isSame_217 rfl 5 rfl ?_
          refine jk_iload K dX4_isSame_218 1 rfl ?_
          refine jk_ws (ws' := (hb_v1 E q b1 b2 (sm_SW E p n (sm_G G) (sm_N C) (sm_M M) ++ Y) C G M C2 G2 M2)) lw_sw.symm ?_
          refine jk_cVi K (n' := (((((((((53 * j) + 1) + 1) + 1) + 1) + 1) + 1) + 1) + 1)) (k' := (((((((((318 * j) + 6) + 6) + 6) + 6) + 6) + 6) + 6) + 6)) [.int (nI j)] [] dX4_isSame_220 (lc_minutesToBurn _ hl E q b1 b2 (sm_SW E p n (sm_G G) (sm_N C) (sm_M M) ++ Y) C G M C2 G2 M2 n hn hg j hlt) gX4_isSame_X2_minutesToBurn rfl kd_X2_minutesToBurn ⟨Nat.le_of_ble_eq_true rfl, Nat.le_of_ble_eq_true rfl⟩ 0 rfl rfl (Nat.le_of_ble_eq_true rfl) ⟨rfl, rfl⟩ ⟨(by show _ ≤ 530; omega), (by show _ ≤ 3180; omega)⟩ rfl (fun _ _ => ?_)
          refine jk_aload K dX4_isSame_223 0 rfl ?_
          refine jk_ws (ws' := (sm_S E (hb_cw E q b1 b2 C G M C2 G2 M2) Y p n (sm_G G) (sm_N C) (sm_M M))) lw_sw ?_
          refine jk_get (C := RX3) (T := TX3) (N := 11) (nm := "left") (ds := "I") (v := .int (((sm_N C) j) 7)) K dX4_isSame_225 hin_RX3 (by decide +kernel) ((hb_cw E q b1 b2 C G M C2 G2 M2).length + (13 + j)) (sm_h hlt) rfl 7 rfl (by decide) rfl ?_
          refine jk_icmp_ne_F (tgt := 311) K dX4_isSame_228 rfl rfl ?_
          refine jk_aload_n K dX4_isSame_231 rfl 5 rfl ?_
          refine jk_iload K dX4_isSame_232 1 rfl ?_
          refine jk_ws (ws' := (hb_v1 E q b1 b2 (sm_SW E p n (sm_G G) (sm_N C) (sm_M M) ++ Y) C G M C2 G2 M2)) lw_sw.symm ?_
          refine jk_cVi K (n' := ((((((((((53 * j) + 1) + 1) + 1) + 1) + 1) + 1) + 1) + 1) + 1)) (k' := ((((((((((318 * j) + 6) + 6) + 6) + 6) + 6) + 6) + 6) + 6) + 6)) [.int (nI j)] [] dX4_isSame_234 (lc_lookingFor _ hl E q b1 b2 (sm_SW E p n (sm_G G) (sm_N C) (sm_M M) ++ Y) C G M C2 G2 M2 n hn hg j hlt) gX4_isSame_X2_lookingFor rfl kd_X2_lookingFor ⟨Nat.le_of_ble_eq_true rfl, Nat.le_of_ble_eq_true rfl⟩ 0 rfl rfl (Nat.le_of_ble_eq_true rfl) ⟨rfl, rfl⟩ ⟨(by show _ ≤ 530; omega), (by show _ ≤ 3180; omega)⟩ rfl (fun _ _ => ?_)
          refine jk_aload K dX4_isSame_237 0 rfl ?_
          refine jk_ws (ws' := (sm_S E (hb_cw E q b1 b2 C G M C2 G2 M2) Y p n (sm_G G) (sm_N C) (sm_M M))) lw_sw ?_
          refine jk_get (C := RX3) (T := TX3) (N := 11) (nm := "looking") (ds := "I") (v := .int (((sm_N C) j) 8)) K dX4_isSame_239 hin_RX3 (by decide +kernel) ((hb_cw E q b1 b2 C G M C2 G2 M2).length + (13 + j)) (sm_h hlt) rfl 8 rfl (by decide) rfl ?_
          refine jk_icmp_ne_F (tgt := 311) K dX4_isSame_242 rfl rfl ?_
          refine jk_aload K dX4_isSame_245 0 rfl ?_
          refine jk_get (C := RX3) (T := TX3) (N := 11) (nm := "state") (ds := "I") (v := .int (((sm_N C) j) 6)) K dX4_isSame_247 hin_RX3 (by decide +kernel) ((hb_cw E q b1 b2 C G M C2 G2 M2).length + (13 + j)) (sm_h hlt) rfl 6 rfl (by decide) rfl ?_
          refine jk_if_eq_F (tgt := 267) K dX4_isSame_250 rfl (show ¬ C j 5 = 0 by rw [z5]; decide) ?_
          refine jk_aload_n K dX4_isSame_253 rfl 5 rfl ?_
          refine jk_iload K dX4_isSame_254 1 rfl ?_
          refine jk_ws (ws' := (hb_v1 E q b1 b2 (sm_SW E p n (sm_G G) (sm_N C) (sm_M M) ++ Y) C G M C2 G2 M2)) lw_sw.symm ?_
          refine jk_cVi K (n' := (((((((((((53 * j) + 1) + 1) + 1) + 1) + 1) + 1) + 1) + 1) + 1) + 2)) (k' := (((((((((((318 * j) + 6) + 6) + 6) + 6) + 6) + 6) + 6) + 6) + 6) + 12)) [.int (nI j)] [] dX4_isSame_256 (lc_sourceOf _ hl E q b1 b2 (sm_SW E p n (sm_G G) (sm_N C) (sm_M M) ++ Y) C G M C2 G2 M2 n hn hg j hlt (show ¬ C j 5 = 0 by rw [z5]; decide)) gX4_isSame_X2_sourceOf rfl kd_X2_sourceOf ⟨Nat.le_of_ble_eq_true rfl, Nat.le_of_ble_eq_true rfl⟩ 0 rfl rfl (Nat.le_of_ble_eq_true rfl) ⟨rfl, rfl⟩ ⟨(by show _ ≤ 530; omega), (by show _ ≤ 3180; omega)⟩ rfl (fun _ _ => ?_)
          refine jk_aload K dX4_isSame_259 0 rfl ?_
          refine jk_ws (ws' := (sm_S E (hb_cw E q b1 b2 C G M C2 G2 M2) Y p n (sm_G G) (sm_N C) (sm_M M))) lw_sw ?_
          refine jk_get (C := RX3) (T := TX3) (N := 11) (nm := "source") (ds := "I") (v := .int (((sm_N C) j) 9)) K dX4_isSame_261 hin_RX3 (by decide +kernel) ((hb_cw E q b1 b2 C G M C2 G2 M2).length + (13 + j)) (sm_h hlt) rfl 9 rfl (by decide) rfl ?_
          refine jk_icmp_ne_F (tgt := 311) K dX4_isSame_264 rfl (show C j 9 = sm_s (C j 9) from (sm_s_so hn zs).symm) ?_
          refine jk_aload_n K dX4_isSame_267 rfl 5 rfl ?_
          refine jk_iload K dX4_isSame_268 1 rfl ?_
          refine jk_ws (ws' := (hb_v1 E q b1 b2 (sm_SW E p n (sm_G G) (sm_N C) (sm_M M) ++ Y) C G M C2 G2 M2)) lw_sw.symm ?_
          refine jk_cVi K (n' := ((((((((((((53 * j) + 1) + 1) + 1) + 1) + 1) + 1) + 1) + 1) + 1) + 2) + 1)) (k' := ((((((((((((318 * j) + 6) + 6) + 6) + 6) + 6) + 6) + 6) + 6) + 6) + 12) + 6)) [.int (nI j)] [] dX4_isSame_270 (lc_isMistaken _ hl E q b1 b2 (sm_SW E p n (sm_G G) (sm_N C) (sm_M M) ++ Y) C G M C2 G2 M2 n hn hg j hlt) gX4_isSame_X2_isMistaken rfl kd_X2_isMistaken ⟨Nat.le_of_ble_eq_true rfl, Nat.le_of_ble_eq_true rfl⟩ 0 rfl rfl (Nat.le_of_ble_eq_true rfl) ⟨rfl, rfl⟩ ⟨(by show _ ≤ 530; omega), (by show _ ≤ 3180; omega)⟩ rfl (fun _ _ => ?_)
          refine jk_aload K dX4_isSame_273 0 rfl ?_
          refine jk_ws (ws' := (sm_S E (hb_cw E q b1 b2 C G M C2 G2 M2) Y p n (sm_G G) (sm_N C) (sm_M M))) lw_sw ?_
          refine jk_get (C := RX3) (T := TX3) (N := 11) (nm := "state") (ds := "I") (v := .int (((sm_N C) j) 6)) K dX4_isSame_275 hin_RX3 (by decide +kernel) ((hb_cw E q b1 b2 C G M C2 G2 M2).length + (13 + j)) (sm_h hlt) rfl 6 rfl (by decide) rfl ?_
          refine jk_if_eq_F (tgt := 293) K dX4_isSame_278 rfl (show ¬ C j 5 = 0 by rw [z5]; decide) ?_
          refine jk_aload K dX4_isSame_281 0 rfl ?_
          refine jk_get (C := RX3) (T := TX3) (N := 11) (nm := "source") (ds := "I") (v := .int (((sm_N C) j) 9)) K dX4_isSame_283 hin_RX3 (by decide +kernel) ((hb_cw E q b1 b2 C G M C2 G2 M2).length + (13 + j)) (sm_h hlt) rfl 9 rfl (by decide) rfl ?_
          refine jk_if_ge_T (tgt := 293) K dX4_isSame_286 rfl (show 0 ≤ sm_s (C j 9) by rw [sm_s_so hn zs, zs2]; exact Int32.not_lt.mp (nI_pos (by omega))) ?_
          refine jk_iconst (x := 0) K dX4_isSame_293 rfl ?_
          refine jk_icmp_ne_F (tgt := 311) K dX4_isSame_294 rfl (by rw [if_neg (by rw [zs2]; exact hm_neg (by omega))]) ?_
          refine jk_aload_n K dX4_isSame_297 rfl 5 rfl ?_
          refine jk_iload K dX4_isSame_298 1 rfl ?_
          refine jk_ws (ws' := (hb_v1 E q b1 b2 (sm_SW E p n (sm_G G) (sm_N C) (sm_M M) ++ Y) C G M C2 G2 M2)) lw_sw.symm ?_
          refine jk_cVi K (n' := (((((((((((((53 * j) + 1) + 1) + 1) + 1) + 1) + 1) + 1) + 1) + 1) + 2) + 1) + 1)) (k' := (((((((((((((318 * j) + 6) + 6) + 6) + 6) + 6) + 6) + 6) + 6) + 6) + 12) + 6) + 6)) [.int (nI j)] [] dX4_isSame_300 (lc_answersTo _ hl E q b1 b2 (sm_SW E p n (sm_G G) (sm_N C) (sm_M M) ++ Y) C G M C2 G2 M2 n hn hg j hlt) gX4_isSame_X2_answersTo rfl kd_X2_answersTo ⟨Nat.le_of_ble_eq_true rfl, Nat.le_of_ble_eq_true rfl⟩ 0 rfl rfl (Nat.le_of_ble_eq_true rfl) ⟨rfl, rfl⟩ ⟨(by show _ ≤ 530; omega), (by show _ ≤ 3180; omega)⟩ rfl (fun _ _ => ?_)
          refine jk_aload K dX4_isSame_303 0 rfl ?_
          refine jk_ws (ws' := (sm_S E (hb_cw E q b1 b2 C G M C2 G2 M2) Y p n (sm_G G) (sm_N C) (sm_M M))) lw_sw ?_
          refine jk_get (C := RX3) (T := TX3) (N := 11) (nm := "answers") (ds := "I") (v := .int (((sm_N C) j) 10)) K dX4_isSame_305 hin_RX3 (by decide +kernel) ((hb_cw E q b1 b2 C G M C2 G2 M2).length + (13 + j)) (sm_h hlt) rfl 10 rfl (by decide) rfl ?_
          refine jk_icmp_eq_T (tgt := 313) K dX4_isSame_308 rfl rfl ?_
          refine jk_iconst (x := 0) K dX4_isSame_313 rfl ?_
          refine jk_istore (lv' := [(6, .int 0), (5, .ref (p (13 + j))), (4, .int (nI j)), (3, .int (hb_wood C j)), (2, .int (nI n)), (0, .ref (p 0)), (1, .ref q)]) K dX4_isSame_314 (by decide) rfl ?_
          refine jk_wide (n' := (53 * j + 13 + 4 * 0)) (k' := (318 * j + 78 + 24 * 0)) (by omega) (by omega) ?_
          refine jk_lv (lv' := [(6, .int (nI 0)), (5, .ref (p (13 + j))), (4, .int (nI j)), (3, .int (hb_wood C j)), (2, .int (nI n)), (0, .ref (p 0)), (1, .ref q)]) (by first | rfl | (simp [c_90]; done)) ?_
          exact hI hlt 0 (Nat.zero_le _)
      · rcases zs with zm | ⟨s, hs, zs2⟩
        · have zs : iv_so n (C j 9) := Or.inl zm
          refine jk_aload_n K dX4_isSame_93 rfl 3 rfl ?_
          refine jk_get (C := RX4) (T := TX4) (N := 7) (nm := "hills") (ds := "[LHillBeaconsLaw$Hill;") (v := .ref (p 1)) K dX4_isSame_94 hin_RX4 (by decide +kernel) ((hb_cw E q b1 b2 C G M C2 G2 M2).length + 0) sm_0 rfl 5 rfl (by decide) rfl ?_
          refine jk_iload K dX4_isSame_97 0 rfl ?_
          refine jk_laldL (v := (p (13 + j))) K dX4_isSame_99 ((hb_cw E q b1 b2 C G M C2 G2 M2).length + 1) sm_1 (vp_in_nI hlt (by omega)) (by rw [nI_clamp (by omega)]) ?_
          refine jk_astore (lv' := [(5, .ref (p (13 + j))), (4, .int (nI j)), (3, .int (hb_wood C j)), (2, .int (nI n)), (0, .ref (p 0)), (1, .ref q)]) K dX4_isSame_100 (by decide) rfl ?_
          refine jk_aload_n K dX4_isSame_102 rfl 5 rfl ?_
          refine jk_iload K dX4_isSame_103 1 rfl ?_
          refine jk_ws (ws' := (hb_v1 E q b1 b2 (sm_SW E p n (sm_G G) (sm_N C) (sm_M M) ++ Y) C G M C2 G2 M2)) lw_sw.symm ?_
          refine jk_cVi K (n' := ((53 * j) + 1)) (k' := ((318 * j) + 6)) [.int (nI j)] [] dX4_isSame_105 (lc_woodOf _ hl E q b1 b2 (sm_SW E p n (sm_G G) (sm_N C) (sm_M M) ++ Y) C G M C2 G2 M2 n hn hg j hlt) gX4_isSame_X2_woodOf rfl kd_X2_woodOf ⟨Nat.le_of_ble_eq_true rfl, Nat.le_of_ble_eq_true rfl⟩ 0 rfl rfl (Nat.le_of_ble_eq_true rfl) ⟨rfl, rfl⟩ ⟨(by show _ ≤ 530; omega), (by show _ ≤ 3180; omega)⟩ rfl (fun _ _ => ?_)
          refine jk_aload K dX4_isSame_108 0 rfl ?_
          refine jk_ws (ws' := (sm_S E (hb_cw E q b1 b2 C G M C2 G2 M2) Y p n (sm_G G) (sm_N C) (sm_M M))) lw_sw ?_
          refine jk_get (C := RX3) (T := TX3) (N := 11) (nm := "wood") (ds := "I") (v := .int (((sm_N C) j) 1)) K dX4_isSame_110 hin_RX3 (by decide +kernel) ((hb_cw E q b1 b2 C G M C2 G2 M2).length + (13 + j)) (sm_h hlt) rfl 1 rfl (by decide) rfl ?_
          refine jk_icmp_ne_F (tgt := 311) K dX4_isSame_113 rfl rfl ?_
          refine jk_aload_n K dX4_isSame_116 rfl 5 rfl ?_
          refine jk_iload K dX4_isSame_117 1 rfl ?_
          refine jk_ws (ws' := (hb_v1 E q b1 b2 (sm_SW E p n (sm_G G) (sm_N C) (sm_M M) ++ Y) C G M C2 G2 M2)) lw_sw.symm ?_
          refine jk_cVi K (n' := (((53 * j) + 1) + 1)) (k' := (((318 * j) + 6) + 6)) [.int (nI j)] [] dX4_isSame_119 (lc_dampOf _ hl E q b1 b2 (sm_SW E p n (sm_G G) (sm_N C) (sm_M M) ++ Y) C G M C2 G2 M2 n hn hg j hlt) gX4_isSame_X2_dampOf rfl kd_X2_dampOf ⟨Nat.le_of_ble_eq_true rfl, Nat.le_of_ble_eq_true rfl⟩ 0 rfl rfl (Nat.le_of_ble_eq_true rfl) ⟨rfl, rfl⟩ ⟨(by show _ ≤ 530; omega), (by show _ ≤ 3180; omega)⟩ rfl (fun _ _ => ?_)
          refine jk_aload K dX4_isSame_122 0 rfl ?_
          refine jk_ws (ws' := (sm_S E (hb_cw E q b1 b2 C G M C2 G2 M2) Y p n (sm_G G) (sm_N C) (sm_M M))) lw_sw ?_
          refine jk_get (C := RX3) (T := TX3) (N := 11) (nm := "damp") (ds := "I") (v := .int (((sm_N C) j) 2)) K dX4_isSame_124 hin_RX3 (by decide +kernel) ((hb_cw E q b1 b2 C G M C2 G2 M2).length + (13 + j)) (sm_h hlt) rfl 2 rfl (by decide) rfl ?_
          refine jk_icmp_ne_F (tgt := 311) K dX4_isSame_127 rfl rfl ?_
          refine jk_aload_n K dX4_isSame_130 rfl 5 rfl ?_
          refine jk_iload K dX4_isSame_131 1 rfl ?_
          refine jk_ws (ws' := (hb_v1 E q b1 b2 (sm_SW E p n (sm_G G) (sm_N C) (sm_M M) ++ Y) C G M C2 G2 M2)) lw_sw.symm ?_
          refine jk_cVi K (n' := ((((53 * j) + 1) + 1) + 1)) (k' := ((((318 * j) + 6) + 6) + 6)) [.int (nI j)] [] dX4_isSame_133 (lc_watchOf _ hl E q b1 b2 (sm_SW E p n (sm_G G) (sm_N C) (sm_M M) ++ Y) C G M C2 G2 M2 n hn hg j hlt) gX4_isSame_X2_watchOf rfl kd_X2_watchOf ⟨Nat.le_of_ble_eq_true rfl, Nat.le_of_ble_eq_true rfl⟩ 0 rfl rfl (Nat.le_of_ble_eq_true rfl) ⟨rfl, rfl⟩ ⟨(by show _ ≤ 530; omega), (by show _ ≤ 3180; omega)⟩ rfl (fun _ _ => ?_)
          refine jk_aload K dX4_isSame_136 0 rfl ?_
          refine jk_ws (ws' := (sm_S E (hb_cw E q b1 b2 C G M C2 G2 M2) Y p n (sm_G G) (sm_N C) (sm_M M))) lw_sw ?_
          refine jk_get (C := RX3) (T := TX3) (N := 11) (nm := "watch") (ds := "I") (v := .int (((sm_N C) j) 3)) K dX4_isSame_138 hin_RX3 (by decide +kernel) ((hb_cw E q b1 b2 C G M C2 G2 M2).length + (13 + j)) (sm_h hlt) rfl 3 rfl (by decide) rfl ?_
          refine jk_icmp_ne_F (tgt := 311) K dX4_isSame_141 rfl rfl ?_
          refine jk_aload_n K dX4_isSame_144 rfl 5 rfl ?_
          refine jk_iload K dX4_isSame_145 1 rfl ?_
          refine jk_ws (ws' := (hb_v1 E q b1 b2 (sm_SW E p n (sm_G G) (sm_N C) (sm_M M) ++ Y) C G M C2 G2 M2)) lw_sw.symm ?_
          refine jk_cVi K (n' := (((((53 * j) + 1) + 1) + 1) + 1)) (k' := (((((318 * j) + 6) + 6) + 6) + 6)) [.int (nI j)] [] dX4_isSame_147 (lc_looksEast _ hl E q b1 b2 (sm_SW E p n (sm_G G) (sm_N C) (sm_M M) ++ Y) C G M C2 G2 M2 n hn hg j hlt) gX4_isSame_X2_looksEast rfl kd_X2_looksEast ⟨Nat.le_of_ble_eq_true rfl, Nat.le_of_ble_eq_true rfl⟩ 0 rfl rfl (Nat.le_of_ble_eq_true rfl) ⟨rfl, rfl⟩ ⟨(by show _ ≤ 530; omega), (by show _ ≤ 3180; omega)⟩ rfl (fun _ _ => ?_)
          refine jk_aload K dX4_isSame_150 0 rfl ?_
          refine jk_ws (ws' := (sm_S E (hb_cw E q b1 b2 C G M C2 G2 M2) Y p n (sm_G G) (sm_N C) (sm_M M))) lw_sw ?_
          refine jk_get (C := RX3) (T := TX3) (N := 11) (nm := "east") (ds := "Z") (v := .int (hb_zb (((sm_N C) j) 4))) K dX4_isSame_152 hin_RX3 (by decide +kernel) ((hb_cw E q b1 b2 C G M C2 G2 M2).length + (13 + j)) (sm_h hlt) rfl 4 rfl (by decide) rfl ?_
          refine jk_icmp_ne_F (tgt := 311) K dX4_isSame_155 rfl rfl ?_
          refine jk_aload_n K dX4_isSame_158 rfl 5 rfl ?_
          refine jk_iload K dX4_isSame_159 1 rfl ?_
          refine jk_ws (ws' := (hb_v1 E q b1 b2 (sm_SW E p n (sm_G G) (sm_N C) (sm_M M) ++ Y) C G M C2 G2 M2)) lw_sw.symm ?_
          refine jk_cVi K (n' := ((((((53 * j) + 1) + 1) + 1) + 1) + 1)) (k' := ((((((318 * j) + 6) + 6) + 6) + 6) + 6)) [.int (nI j)] [] dX4_isSame_161 (lc_isPost _ hl E q b1 b2 (sm_SW E p n (sm_G G) (sm_N C) (sm_M M) ++ Y) C G M C2 G2 M2 n hn hg j hlt) gX4_isSame_X2_isPost rfl kd_X2_isPost ⟨Nat.le_of_ble_eq_true rfl, Nat.le_of_ble_eq_true rfl⟩ 0 rfl rfl (Nat.le_of_ble_eq_true rfl) ⟨rfl, rfl⟩ ⟨(by show _ ≤ 530; omega), (by show _ ≤ 3180; omega)⟩ rfl (fun _ _ => ?_)
          refine jk_aload K dX4_isSame_164 0 rfl ?_
          refine jk_ws (ws' := (sm_S E (hb_cw E q b1 b2 C G M C2 G2 M2) Y p n (sm_G G) (sm_N C) (sm_M M))) lw_sw ?_
          refine jk_get (C := RX3) (T := TX3) (N := 11) (nm := "post") (ds := "Z") (v := .int (hb_zb (((sm_N C) j) 5))) K dX4_isSame_166 hin_RX3 (by decide +kernel) ((hb_cw E q b1 b2 C G M C2 G2 M2).length + (13 + j)) (sm_h hlt) rfl 5 rfl (by decide) rfl ?_
          refine jk_icmp_ne_F (tgt := 311) K dX4_isSame_169 rfl rfl ?_
          refine jk_aload_n K dX4_isSame_172 rfl 5 rfl ?_
          refine jk_iload K dX4_isSame_173 1 rfl ?_
          refine jk_ws (ws' := (hb_v1 E q b1 b2 (sm_SW E p n (sm_G G) (sm_N C) (sm_M M) ++ Y) C G M C2 G2 M2)) lw_sw.symm ?_
          refine jk_cVi K (n' := (((((((53 * j) + 1) + 1) + 1) + 1) + 1) + 1)) (k' := (((((((318 * j) + 6) + 6) + 6) + 6) + 6) + 6)) [.int (nI j)] [] dX4_isSame_175 (lc_isDark _ hl E q b1 b2 (sm_SW E p n (sm_G G) (sm_N C) (sm_M M) ++ Y) C G M C2 G2 M2 n hn hg j hlt) gX4_isSame_X2_isDark rfl kd_X2_isDark ⟨Nat.le_of_ble_eq_true rfl, Nat.le_of_ble_eq_true rfl⟩ 0 rfl rfl (Nat.le_of_ble_eq_true rfl) ⟨rfl, rfl⟩ ⟨(by show _ ≤ 530; omega), (by show _ ≤ 3180; omega)⟩ rfl (fun _ _ => ?_)
          refine jk_aload K dX4_isSame_178 0 rfl ?_
          refine jk_ws (ws' := (sm_S E (hb_cw E q b1 b2 C G M C2 G2 M2) Y p n (sm_G G) (sm_N C) (sm_M M))) lw_sw ?_
          refine jk_get (C := RX3) (T := TX3) (N := 11) (nm := "state") (ds := "I") (v := .int (((sm_N C) j) 6)) K dX4_isSame_180 hin_RX3 (by decide +kernel) ((hb_cw E q b1 b2 C G M C2 G2 M2).length + (13 + j)) (sm_h hlt) rfl 6 rfl (by decide) rfl ?_
          refine jk_if_ne_T (tgt := 190) K dX4_isSame_183 rfl (show ¬ C j 5 = 0 by rw [z5]; decide) ?_
          refine jk_iconst (x := 0) K dX4_isSame_190 rfl ?_
          refine jk_icmp_ne_F (tgt := 311) K dX4_isSame_191 rfl (by rw [if_neg (show ¬ C j 5 = 0 by rw [z5]; decide)]) ?_
          refine jk_aload_n K dX4_isSame_194 rfl 5 rfl ?_
          refine jk_iload K dX4_isSame_195 1 rfl ?_
          refine jk_ws (ws' := (hb_v1 E q b1 b2 (sm_SW E p n (sm_G G) (sm_N C) (sm_M M) ++ Y) C G M C2 G2 M2)) lw_sw.symm ?_
          refine jk_cVi K (n' := ((((((((53 * j) + 1) + 1) + 1) + 1) + 1) + 1) + 1)) (k' := ((((((((318 * j) + 6) + 6) + 6) + 6) + 6) + 6) + 6)) [.int (nI j)] [] dX4_isSame_197 (lc_isBurning _ hl E q b1 b2 (sm_SW E p n (sm_G G) (sm_N C) (sm_M M) ++ Y) C G M C2 G2 M2 n hn hg j hlt) gX4_isSame_X2_isBurning rfl kd_X2_isBurning ⟨Nat.le_of_ble_eq_true rfl, Nat.le_of_ble_eq_true rfl⟩ 0 rfl rfl (Nat.le_of_ble_eq_true rfl) ⟨rfl, rfl⟩ ⟨(by show _ ≤ 530; omega), (by show _ ≤ 3180; omega)⟩ rfl (fun _ _ => ?_)
          refine jk_aload K dX4_isSame_200 0 rfl ?_
          refine jk_ws (ws' := (sm_S E (hb_cw E q b1 b2 C G M C2 G2 M2) Y p n (sm_G G) (sm_N C) (sm_M M))) lw_sw ?_
          refine jk_get (C := RX3) (T := TX3) (N := 11) (nm := "state") (ds := "I") (v := .int (((sm_N C) j) 6)) K dX4_isSame_202 hin_RX3 (by decide +kernel) ((hb_cw E q b1 b2 C G M C2 G2 M2).length + (13 + j)) (sm_h hlt) rfl 6 rfl (by decide) rfl ?_
          refine jk_iconst (x := 2) K dX4_isSame_205 rfl ?_
          refine jk_icmp_ne_F (tgt := 213) K dX4_isSame_206 rfl z5 ?_
          refine jk_iconst (x := 1) K dX4_isSame_209 rfl ?_
          refine jk_goto (tgt := 214) K dX4_isSame_210 rfl ?_
          refine jk_icmp_ne_F (tgt := 311) K dX4_isSame_214 rfl (by rw [if_pos z5]) ?_
          refine jk_aload_n K dX4_isSame_217 rfl 5 rfl ?_
          refine jk_iload K dX4_isSame_218 1 rfl ?_
          refine jk_ws (ws' := (hb_v1 E q b1 b2 (sm_SW E p n (sm_G G) (sm_N C) (sm_M M) ++ Y) C G M C2 G2 M2)) lw_sw.symm ?_
          refine jk_cVi K (n' := (((((((((53 * j) + 1) + 1) + 1) + 1) + 1) + 1) + 1) + 1)) (k' := (((((((((318 * j) + 6) + 6) + 6) + 6) + 6) + 6) + 6) + 6)) [.int (nI j)] [] dX4_isSame_220 (lc_minutesToBurn _ hl E q b1 b2 (sm_SW E p n (sm_G G) (sm_N C) (sm_M M) ++ Y) C G M C2 G2 M2 n hn hg j hlt) gX4_isSame_X2_minutesToBurn rfl kd_X2_minutesToBurn ⟨Nat.le_of_ble_eq_true rfl, Nat.le_of_ble_eq_true rfl⟩ 0 rfl rfl (Nat.le_of_ble_eq_true rfl) ⟨rfl, rfl⟩ ⟨(by show _ ≤ 530; omega), (by show _ ≤ 3180; omega)⟩ rfl (fun _ _ => ?_)
          refine jk_aload K dX4_isSame_223 0 rfl ?_
          refine jk_ws (ws' := (sm_S E (hb_cw E q b1 b2 C G M C2 G2 M2) Y p n (sm_G G) (sm_N C) (sm_M M))) lw_sw ?_
          refine jk_get (C := RX3) (T := TX3) (N := 11) (nm := "left") (ds := "I") (v := .int (((sm_N C) j) 7)) K dX4_isSame_225 hin_RX3 (by decide +kernel) ((hb_cw E q b1 b2 C G M C2 G2 M2).length + (13 + j)) (sm_h hlt) rfl 7 rfl (by decide) rfl ?_
          refine jk_icmp_ne_F (tgt := 311) K dX4_isSame_228 rfl rfl ?_
          refine jk_aload_n K dX4_isSame_231 rfl 5 rfl ?_
          refine jk_iload K dX4_isSame_232 1 rfl ?_
          refine jk_ws (ws' := (hb_v1 E q b1 b2 (sm_SW E p n (sm_G G) (sm_N C) (sm_M M) ++ Y) C G M C2 G2 M2)) lw_sw.symm ?_
          refine jk_cVi K (n' := ((((((((((53 * j) + 1) + 1) + 1) + 1) + 1) + 1) + 1) + 1) + 1)) (k' := ((((((((((318 * j) + 6) + 6) + 6) + 6) + 6) + 6) + 6) + 6) + 6)) [.int (nI j)] [] dX4_isSame_234 (lc_lookingFor _ hl E q b1 b2 (sm_SW E p n (sm_G G) (sm_N C) (sm_M M) ++ Y) C G M C2 G2 M2 n hn hg j hlt) gX4_isSame_X2_lookingFor rfl kd_X2_lookingFor ⟨Nat.le_of_ble_eq_true rfl, Nat.le_of_ble_eq_true rfl⟩ 0 rfl rfl (Nat.le_of_ble_eq_true rfl) ⟨rfl, rfl⟩ ⟨(by show _ ≤ 530; omega), (by show _ ≤ 3180; omega)⟩ rfl (fun _ _ => ?_)
          refine jk_aload K dX4_isSame_237 0 rfl ?_
          refine jk_ws (ws' := (sm_S E (hb_cw E q b1 b2 C G M C2 G2 M2) Y p n (sm_G G) (sm_N C) (sm_M M))) lw_sw ?_
          refine jk_get (C := RX3) (T := TX3) (N := 11) (nm := "looking") (ds := "I") (v := .int (((sm_N C) j) 8)) K dX4_isSame_239 hin_RX3 (by decide +kernel) ((hb_cw E q b1 b2 C G M C2 G2 M2).length + (13 + j)) (sm_h hlt) rfl 8 rfl (by decide) rfl ?_
          refine jk_icmp_ne_F (tgt := 311) K dX4_isSame_242 rfl rfl ?_
          refine jk_aload K dX4_isSame_245 0 rfl ?_
          refine jk_get (C := RX3) (T := TX3) (N := 11) (nm := "state") (ds := "I") (v := .int (((sm_N C) j) 6)) K dX4_isSame_247 hin_RX3 (by decide +kernel) ((hb_cw E q b1 b2 C G M C2 G2 M2).length + (13 + j)) (sm_h hlt) rfl 6 rfl (by decide) rfl ?_
          refine jk_if_eq_F (tgt := 267) K dX4_isSame_250 rfl (show ¬ C j 5 = 0 by rw [z5]; decide) ?_
          refine jk_aload_n K dX4_isSame_253 rfl 5 rfl ?_
          refine jk_iload K dX4_isSame_254 1 rfl ?_
          refine jk_ws (ws' := (hb_v1 E q b1 b2 (sm_SW E p n (sm_G G) (sm_N C) (sm_M M) ++ Y) C G M C2 G2 M2)) lw_sw.symm ?_
          refine jk_cVi K (n' := (((((((((((53 * j) + 1) + 1) + 1) + 1) + 1) + 1) + 1) + 1) + 1) + 2)) (k' := (((((((((((318 * j) + 6) + 6) + 6) + 6) + 6) + 6) + 6) + 6) + 6) + 12)) [.int (nI j)] [] dX4_isSame_256 (lc_sourceOf _ hl E q b1 b2 (sm_SW E p n (sm_G G) (sm_N C) (sm_M M) ++ Y) C G M C2 G2 M2 n hn hg j hlt (show ¬ C j 5 = 0 by rw [z5]; decide)) gX4_isSame_X2_sourceOf rfl kd_X2_sourceOf ⟨Nat.le_of_ble_eq_true rfl, Nat.le_of_ble_eq_true rfl⟩ 0 rfl rfl (Nat.le_of_ble_eq_true rfl) ⟨rfl, rfl⟩ ⟨(by show _ ≤ 530; omega), (by show _ ≤ 3180; omega)⟩ rfl (fun _ _ => ?_)
          refine jk_aload K dX4_isSame_259 0 rfl ?_
          refine jk_ws (ws' := (sm_S E (hb_cw E q b1 b2 C G M C2 G2 M2) Y p n (sm_G G) (sm_N C) (sm_M M))) lw_sw ?_
          refine jk_get (C := RX3) (T := TX3) (N := 11) (nm := "source") (ds := "I") (v := .int (((sm_N C) j) 9)) K dX4_isSame_261 hin_RX3 (by decide +kernel) ((hb_cw E q b1 b2 C G M C2 G2 M2).length + (13 + j)) (sm_h hlt) rfl 9 rfl (by decide) rfl ?_
          refine jk_icmp_ne_F (tgt := 311) K dX4_isSame_264 rfl (show C j 9 = sm_s (C j 9) from (sm_s_so hn zs).symm) ?_
          refine jk_aload_n K dX4_isSame_267 rfl 5 rfl ?_
          refine jk_iload K dX4_isSame_268 1 rfl ?_
          refine jk_ws (ws' := (hb_v1 E q b1 b2 (sm_SW E p n (sm_G G) (sm_N C) (sm_M M) ++ Y) C G M C2 G2 M2)) lw_sw.symm ?_
          refine jk_cVi K (n' := ((((((((((((53 * j) + 1) + 1) + 1) + 1) + 1) + 1) + 1) + 1) + 1) + 2) + 1)) (k' := ((((((((((((318 * j) + 6) + 6) + 6) + 6) + 6) + 6) + 6) + 6) + 6) + 12) + 6)) [.int (nI j)] [] dX4_isSame_270 (lc_isMistaken _ hl E q b1 b2 (sm_SW E p n (sm_G G) (sm_N C) (sm_M M) ++ Y) C G M C2 G2 M2 n hn hg j hlt) gX4_isSame_X2_isMistaken rfl kd_X2_isMistaken ⟨Nat.le_of_ble_eq_true rfl, Nat.le_of_ble_eq_true rfl⟩ 0 rfl rfl (Nat.le_of_ble_eq_true rfl) ⟨rfl, rfl⟩ ⟨(by show _ ≤ 530; omega), (by show _ ≤ 3180; omega)⟩ rfl (fun _ _ => ?_)
          refine jk_aload K dX4_isSame_273 0 rfl ?_
          refine jk_ws (ws' := (sm_S E (hb_cw E q b1 b2 C G M C2 G2 M2) Y p n (sm_G G) (sm_N C) (sm_M M))) lw_sw ?_
          refine jk_get (C := RX3) (T := TX3) (N := 11) (nm := "state") (ds := "I") (v := .int (((sm_N C) j) 6)) K dX4_isSame_275 hin_RX3 (by decide +kernel) ((hb_cw E q b1 b2 C G M C2 G2 M2).length + (13 + j)) (sm_h hlt) rfl 6 rfl (by decide) rfl ?_
          refine jk_if_eq_F (tgt := 293) K dX4_isSame_278 rfl (show ¬ C j 5 = 0 by rw [z5]; decide) ?_
          refine jk_aload K dX4_isSame_281 0 rfl ?_
          refine jk_get (C := RX3) (T := TX3) (N := 11) (nm := "source") (ds := "I") (v := .int (((sm_N C) j) 9)) K dX4_isSame_283 hin_RX3 (by decide +kernel) ((hb_cw E q b1 b2 C G M C2 G2 M2).length + (13 + j)) (sm_h hlt) rfl 9 rfl (by decide) rfl ?_
          refine jk_if_ge_F (tgt := 293) K dX4_isSame_286 rfl (show ¬ 0 ≤ sm_s (C j 9) by rw [sm_s_so hn zs, zm]; decide) ?_
          refine jk_iconst (x := 1) K dX4_isSame_289 rfl ?_
          refine jk_goto (tgt := 294) K dX4_isSame_290 rfl ?_
          refine jk_icmp_ne_F (tgt := 311) K dX4_isSame_294 rfl (by rw [if_pos zm]) ?_
          refine jk_aload_n K dX4_isSame_297 rfl 5 rfl ?_
          refine jk_iload K dX4_isSame_298 1 rfl ?_
          refine jk_ws (ws' := (hb_v1 E q b1 b2 (sm_SW E p n (sm_G G) (sm_N C) (sm_M M) ++ Y) C G M C2 G2 M2)) lw_sw.symm ?_
          refine jk_cVi K (n' := (((((((((((((53 * j) + 1) + 1) + 1) + 1) + 1) + 1) + 1) + 1) + 1) + 2) + 1) + 1)) (k' := (((((((((((((318 * j) + 6) + 6) + 6) + 6) + 6) + 6) + 6) + 6) + 6) + 12) + 6) + 6)) [.int (nI j)] [] dX4_isSame_300 (lc_answersTo _ hl E q b1 b2 (sm_SW E p n (sm_G G) (sm_N C) (sm_M M) ++ Y) C G M C2 G2 M2 n hn hg j hlt) gX4_isSame_X2_answersTo rfl kd_X2_answersTo ⟨Nat.le_of_ble_eq_true rfl, Nat.le_of_ble_eq_true rfl⟩ 0 rfl rfl (Nat.le_of_ble_eq_true rfl) ⟨rfl, rfl⟩ ⟨(by show _ ≤ 530; omega), (by show _ ≤ 3180; omega)⟩ rfl (fun _ _ => ?_)
          refine jk_aload K dX4_isSame_303 0 rfl ?_
          refine jk_ws (ws' := (sm_S E (hb_cw E q b1 b2 C G M C2 G2 M2) Y p n (sm_G G) (sm_N C) (sm_M M))) lw_sw ?_
          refine jk_get (C := RX3) (T := TX3) (N := 11) (nm := "answers") (ds := "I") (v := .int (((sm_N C) j) 10)) K dX4_isSame_305 hin_RX3 (by decide +kernel) ((hb_cw E q b1 b2 C G M C2 G2 M2).length + (13 + j)) (sm_h hlt) rfl 10 rfl (by decide) rfl ?_
          refine jk_icmp_eq_T (tgt := 313) K dX4_isSame_308 rfl rfl ?_
          refine jk_iconst (x := 0) K dX4_isSame_313 rfl ?_
          refine jk_istore (lv' := [(6, .int 0), (5, .ref (p (13 + j))), (4, .int (nI j)), (3, .int (hb_wood C j)), (2, .int (nI n)), (0, .ref (p 0)), (1, .ref q)]) K dX4_isSame_314 (by decide) rfl ?_
          refine jk_wide (n' := (53 * j + 13 + 4 * 0)) (k' := (318 * j + 78 + 24 * 0)) (by omega) (by omega) ?_
          refine jk_lv (lv' := [(6, .int (nI 0)), (5, .ref (p (13 + j))), (4, .int (nI j)), (3, .int (hb_wood C j)), (2, .int (nI n)), (0, .ref (p 0)), (1, .ref q)]) (by first | rfl | (simp [c_90]; done)) ?_
          exact hI hlt 0 (Nat.zero_le _)
        · have zs : iv_so n (C j 9) := Or.inr ⟨s, hs, zs2⟩
          refine jk_aload_n K dX4_isSame_93 rfl 3 rfl ?_
          refine jk_get (C := RX4) (T := TX4) (N := 7) (nm := "hills") (ds := "[LHillBeaconsLaw$Hill;") (v := .ref (p 1)) K dX4_isSame_94 hin_RX4 (by decide +kernel) ((hb_cw E q b1 b2 C G M C2 G2 M2).length + 0) sm_0 rfl 5 rfl (by decide) rfl ?_
          refine jk_iload K dX4_isSame_97 0 rfl ?_
          refine jk_laldL (v := (p (13 + j))) K dX4_isSame_99 ((hb_cw E q b1 b2 C G M C2 G2 M2).length + 1) sm_1 (vp_in_nI hlt (by omega)) (by rw [nI_clamp (by omega)]) ?_
          refine jk_astore (lv' := [(5, .ref (p (13 + j))), (4, .int (nI j)), (3, .int (hb_wood C j)), (2, .int (nI n)), (0, .ref (p 0)), (1, .ref q)]) K dX4_isSame_100 (by decide) rfl ?_
          refine jk_aload_n K dX4_isSame_102 rfl 5 rfl ?_
          refine jk_iload K dX4_isSame_103 1 rfl ?_
          refine jk_ws (ws' := (hb_v1 E q b1 b2 (sm_SW E p n (sm_G G) (sm_N C) (sm_M M) ++ Y) C G M C2 G2 M2)) lw_sw.symm ?_
          refine jk_cVi K (n' := ((53 * j) + 1)) (k' := ((318 * j) + 6)) [.int (nI j)] [] dX4_isSame_105 (lc_woodOf _ hl E q b1 b2 (sm_SW E p n (sm_G G) (sm_N C) (sm_M M) ++ Y) C G M C2 G2 M2 n hn hg j hlt) gX4_isSame_X2_woodOf rfl kd_X2_woodOf ⟨Nat.le_of_ble_eq_true rfl, Nat.le_of_ble_eq_true rfl⟩ 0 rfl rfl (Nat.le_of_ble_eq_true rfl) ⟨rfl, rfl⟩ ⟨(by show _ ≤ 530; omega), (by show _ ≤ 3180; omega)⟩ rfl (fun _ _ => ?_)
          refine jk_aload K dX4_isSame_108 0 rfl ?_
          refine jk_ws (ws' := (sm_S E (hb_cw E q b1 b2 C G M C2 G2 M2) Y p n (sm_G G) (sm_N C) (sm_M M))) lw_sw ?_
          refine jk_get (C := RX3) (T := TX3) (N := 11) (nm := "wood") (ds := "I") (v := .int (((sm_N C) j) 1)) K dX4_isSame_110 hin_RX3 (by decide +kernel) ((hb_cw E q b1 b2 C G M C2 G2 M2).length + (13 + j)) (sm_h hlt) rfl 1 rfl (by decide) rfl ?_
          refine jk_icmp_ne_F (tgt := 311) K dX4_isSame_113 rfl rfl ?_
          refine jk_aload_n K dX4_isSame_116 rfl 5 rfl ?_
          refine jk_iload K dX4_isSame_117 1 rfl ?_
          refine jk_ws (ws' := (hb_v1 E q b1 b2 (sm_SW E p n (sm_G G) (sm_N C) (sm_M M) ++ Y) C G M C2 G2 M2)) lw_sw.symm ?_
          refine jk_cVi K (n' := (((53 * j) + 1) + 1)) (k' := (((318 * j) + 6) + 6)) [.int (nI j)] [] dX4_isSame_119 (lc_dampOf _ hl E q b1 b2 (sm_SW E p n (sm_G G) (sm_N C) (sm_M M) ++ Y) C G M C2 G2 M2 n hn hg j hlt) gX4_isSame_X2_dampOf rfl kd_X2_dampOf ⟨Nat.le_of_ble_eq_true rfl, Nat.le_of_ble_eq_true rfl⟩ 0 rfl rfl (Nat.le_of_ble_eq_true rfl) ⟨rfl, rfl⟩ ⟨(by show _ ≤ 530; omega), (by show _ ≤ 3180; omega)⟩ rfl (fun _ _ => ?_)
          refine jk_aload K dX4_isSame_122 0 rfl ?_
          refine jk_ws (ws' := (sm_S E (hb_cw E q b1 b2 C G M C2 G2 M2) Y p n (sm_G G) (sm_N C) (sm_M M))) lw_sw ?_
          refine jk_get (C := RX3) (T := TX3) (N := 11) (nm := "damp") (ds := "I") (v := .int (((sm_N C) j) 2)) K dX4_isSame_124 hin_RX3 (by decide +kernel) ((hb_cw E q b1 b2 C G M C2 G2 M2).length + (13 + j)) (sm_h hlt) rfl 2 rfl (by decide) rfl ?_
          refine jk_icmp_ne_F (tgt := 311) K dX4_isSame_127 rfl rfl ?_
          refine jk_aload_n K dX4_isSame_130 rfl 5 rfl ?_
          refine jk_iload K dX4_isSame_131 1 rfl ?_
          refine jk_ws (ws' := (hb_v1 E q b1 b2 (sm_SW E p n (sm_G G) (sm_N C) (sm_M M) ++ Y) C G M C2 G2 M2)) lw_sw.symm ?_
          refine jk_cVi K (n' := ((((53 * j) + 1) + 1) + 1)) (k' := ((((318 * j) + 6) + 6) + 6)) [.int (nI j)] [] dX4_isSame_133 (lc_watchOf _ hl E q b1 b2 (sm_SW E p n (sm_G G) (sm_N C) (sm_M M) ++ Y) C G M C2 G2 M2 n hn hg j hlt) gX4_isSame_X2_watchOf rfl kd_X2_watchOf ⟨Nat.le_of_ble_eq_true rfl, Nat.le_of_ble_eq_true rfl⟩ 0 rfl rfl (Nat.le_of_ble_eq_true rfl) ⟨rfl, rfl⟩ ⟨(by show _ ≤ 530; omega), (by show _ ≤ 3180; omega)⟩ rfl (fun _ _ => ?_)
          refine jk_aload K dX4_isSame_136 0 rfl ?_
          refine jk_ws (ws' := (sm_S E (hb_cw E q b1 b2 C G M C2 G2 M2) Y p n (sm_G G) (sm_N C) (sm_M M))) lw_sw ?_
          refine jk_get (C := RX3) (T := TX3) (N := 11) (nm := "watch") (ds := "I") (v := .int (((sm_N C) j) 3)) K dX4_isSame_138 hin_RX3 (by decide +kernel) ((hb_cw E q b1 b2 C G M C2 G2 M2).length + (13 + j)) (sm_h hlt) rfl 3 rfl (by decide) rfl ?_
          refine jk_icmp_ne_F (tgt := 311) K dX4_isSame_141 rfl rfl ?_
          refine jk_aload_n K dX4_isSame_144 rfl 5 rfl ?_
          refine jk_iload K dX4_isSame_145 1 rfl ?_
          refine jk_ws (ws' := (hb_v1 E q b1 b2 (sm_SW E p n (sm_G G) (sm_N C) (sm_M M) ++ Y) C G M C2 G2 M2)) lw_sw.symm ?_
          refine jk_cVi K (n' := (((((53 * j) + 1) + 1) + 1) + 1)) (k' := (((((318 * j) + 6) + 6) + 6) + 6)) [.int (nI j)] [] dX4_isSame_147 (lc_looksEast _ hl E q b1 b2 (sm_SW E p n (sm_G G) (sm_N C) (sm_M M) ++ Y) C G M C2 G2 M2 n hn hg j hlt) gX4_isSame_X2_looksEast rfl kd_X2_looksEast ⟨Nat.le_of_ble_eq_true rfl, Nat.le_of_ble_eq_true rfl⟩ 0 rfl rfl (Nat.le_of_ble_eq_true rfl) ⟨rfl, rfl⟩ ⟨(by show _ ≤ 530; omega), (by show _ ≤ 3180; omega)⟩ rfl (fun _ _ => ?_)
          refine jk_aload K dX4_isSame_150 0 rfl ?_
          refine jk_ws (ws' := (sm_S E (hb_cw E q b1 b2 C G M C2 G2 M2) Y p n (sm_G G) (sm_N C) (sm_M M))) lw_sw ?_
          refine jk_get (C := RX3) (T := TX3) (N := 11) (nm := "east") (ds := "Z") (v := .int (hb_zb (((sm_N C) j) 4))) K dX4_isSame_152 hin_RX3 (by decide +kernel) ((hb_cw E q b1 b2 C G M C2 G2 M2).length + (13 + j)) (sm_h hlt) rfl 4 rfl (by decide) rfl ?_
          refine jk_icmp_ne_F (tgt := 311) K dX4_isSame_155 rfl rfl ?_
          refine jk_aload_n K dX4_isSame_158 rfl 5 rfl ?_
          refine jk_iload K dX4_isSame_159 1 rfl ?_
          refine jk_ws (ws' := (hb_v1 E q b1 b2 (sm_SW E p n (sm_G G) (sm_N C) (sm_M M) ++ Y) C G M C2 G2 M2)) lw_sw.symm ?_
          refine jk_cVi K (n' := ((((((53 * j) + 1) + 1) + 1) + 1) + 1)) (k' := ((((((318 * j) + 6) + 6) + 6) + 6) + 6)) [.int (nI j)] [] dX4_isSame_161 (lc_isPost _ hl E q b1 b2 (sm_SW E p n (sm_G G) (sm_N C) (sm_M M) ++ Y) C G M C2 G2 M2 n hn hg j hlt) gX4_isSame_X2_isPost rfl kd_X2_isPost ⟨Nat.le_of_ble_eq_true rfl, Nat.le_of_ble_eq_true rfl⟩ 0 rfl rfl (Nat.le_of_ble_eq_true rfl) ⟨rfl, rfl⟩ ⟨(by show _ ≤ 530; omega), (by show _ ≤ 3180; omega)⟩ rfl (fun _ _ => ?_)
          refine jk_aload K dX4_isSame_164 0 rfl ?_
          refine jk_ws (ws' := (sm_S E (hb_cw E q b1 b2 C G M C2 G2 M2) Y p n (sm_G G) (sm_N C) (sm_M M))) lw_sw ?_
          refine jk_get (C := RX3) (T := TX3) (N := 11) (nm := "post") (ds := "Z") (v := .int (hb_zb (((sm_N C) j) 5))) K dX4_isSame_166 hin_RX3 (by decide +kernel) ((hb_cw E q b1 b2 C G M C2 G2 M2).length + (13 + j)) (sm_h hlt) rfl 5 rfl (by decide) rfl ?_
          refine jk_icmp_ne_F (tgt := 311) K dX4_isSame_169 rfl rfl ?_
          refine jk_aload_n K dX4_isSame_172 rfl 5 rfl ?_
          refine jk_iload K dX4_isSame_173 1 rfl ?_
          refine jk_ws (ws' := (hb_v1 E q b1 b2 (sm_SW E p n (sm_G G) (sm_N C) (sm_M M) ++ Y) C G M C2 G2 M2)) lw_sw.symm ?_
          refine jk_cVi K (n' := (((((((53 * j) + 1) + 1) + 1) + 1) + 1) + 1)) (k' := (((((((318 * j) + 6) + 6) + 6) + 6) + 6) + 6)) [.int (nI j)] [] dX4_isSame_175 (lc_isDark _ hl E q b1 b2 (sm_SW E p n (sm_G G) (sm_N C) (sm_M M) ++ Y) C G M C2 G2 M2 n hn hg j hlt) gX4_isSame_X2_isDark rfl kd_X2_isDark ⟨Nat.le_of_ble_eq_true rfl, Nat.le_of_ble_eq_true rfl⟩ 0 rfl rfl (Nat.le_of_ble_eq_true rfl) ⟨rfl, rfl⟩ ⟨(by show _ ≤ 530; omega), (by show _ ≤ 3180; omega)⟩ rfl (fun _ _ => ?_)
          refine jk_aload K dX4_isSame_178 0 rfl ?_
          refine jk_ws (ws' := (sm_S E (hb_cw E q b1 b2 C G M C2 G2 M2) Y p n (sm_G G) (sm_N C) (sm_M M))) lw_sw ?_
          refine jk_get (C := RX3) (T := TX3) (N := 11) (nm := "state") (ds := "I") (v := .int (((sm_N C) j) 6)) K dX4_isSame_180 hin_RX3 (by decide +kernel) ((hb_cw E q b1 b2 C G M C2 G2 M2).length + (13 + j)) (sm_h hlt) rfl 6 rfl (by decide) rfl ?_
          refine jk_if_ne_T (tgt := 190) K dX4_isSame_183 rfl (show ¬ C j 5 = 0 by rw [z5]; decide) ?_
          refine jk_iconst (x := 0) K dX4_isSame_190 rfl ?_
          refine jk_icmp_ne_F (tgt := 311) K dX4_isSame_191 rfl (by rw [if_neg (show ¬ C j 5 = 0 by rw [z5]; decide)]) ?_
          refine jk_aload_n K dX4_isSame_194 rfl 5 rfl ?_
          refine jk_iload K dX4_isSame_195 1 rfl ?_
          refine jk_ws (ws' := (hb_v1 E q b1 b2 (sm_SW E p n (sm_G G) (sm_N C) (sm_M M) ++ Y) C G M C2 G2 M2)) lw_sw.symm ?_
          refine jk_cVi K (n' := ((((((((53 * j) + 1) + 1) + 1) + 1) + 1) + 1) + 1)) (k' := ((((((((318 * j) + 6) + 6) + 6) + 6) + 6) + 6) + 6)) [.int (nI j)] [] dX4_isSame_197 (lc_isBurning _ hl E q b1 b2 (sm_SW E p n (sm_G G) (sm_N C) (sm_M M) ++ Y) C G M C2 G2 M2 n hn hg j hlt) gX4_isSame_X2_isBurning rfl kd_X2_isBurning ⟨Nat.le_of_ble_eq_true rfl, Nat.le_of_ble_eq_true rfl⟩ 0 rfl rfl (Nat.le_of_ble_eq_true rfl) ⟨rfl, rfl⟩ ⟨(by show _ ≤ 530; omega), (by show _ ≤ 3180; omega)⟩ rfl (fun _ _ => ?_)
          refine jk_aload K dX4_isSame_200 0 rfl ?_
          refine jk_ws (ws' := (sm_S E (hb_cw E q b1 b2 C G M C2 G2 M2) Y p n (sm_G G) (sm_N C) (sm_M M))) lw_sw ?_
          refine jk_get (C := RX3) (T := TX3) (N := 11) (nm := "state") (ds := "I") (v := .int (((sm_N C) j) 6)) K dX4_isSame_202 hin_RX3 (by decide +kernel) ((hb_cw E q b1 b2 C G M C2 G2 M2).length + (13 + j)) (sm_h hlt) rfl 6 rfl (by decide) rfl ?_
          refine jk_iconst (x := 2) K dX4_isSame_205 rfl ?_
          refine jk_icmp_ne_F (tgt := 213) K dX4_isSame_206 rfl z5 ?_
          refine jk_iconst (x := 1) K dX4_isSame_209 rfl ?_
          refine jk_goto (tgt := 214) K dX4_isSame_210 rfl ?_
          refine jk_icmp_ne_F (tgt := 311) K dX4_isSame_214 rfl (by rw [if_pos z5]) ?_
          refine jk_aload_n K dX4_isSame_217 rfl 5 rfl ?_
          refine jk_iload K dX4_isSame_218 1 rfl ?_
          refine jk_ws (ws' := (hb_v1 E q b1 b2 (sm_SW E p n (sm_G G) (sm_N C) (sm_M M) ++ Y) C G M C2 G2 M2)) lw_sw.symm ?_
          refine jk_cVi K (n' := (((((((((53 * j) + 1) + 1) + 1) + 1) + 1) + 1) + 1) + 1)) (k' := (((((((((318 * j) + 6) + 6) + 6) + 6) + 6) + 6) + 6) + 6)) [.int (nI j)] [] dX4_isSame_220 (lc_minutesToBurn _ hl E q b1 b2 (sm_SW E p n (sm_G G) (sm_N C) (sm_M M) ++ Y) C G M C2 G2 M2 n hn hg j hlt) gX4_isSame_X2_minutesToBurn rfl kd_X2_minutesToBurn ⟨Nat.le_of_ble_eq_true rfl, Nat.le_of_ble_eq_true rfl⟩ 0 rfl rfl (Nat.le_of_ble_eq_true rfl) ⟨rfl, rfl⟩ ⟨(by show _ ≤ 530; omega), (by show _ ≤ 3180; omega)⟩ rfl (fun _ _ => ?_)
          refine jk_aload K dX4_isSame_223 0 rfl ?_
          refine jk_ws (ws' := (sm_S E (hb_cw E q b1 b2 C G M C2 G2 M2) Y p n (sm_G G) (sm_N C) (sm_M M))) lw_sw ?_
          refine jk_get (C := RX3) (T := TX3) (N := 11) (nm := "left") (ds := "I") (v := .int (((sm_N C) j) 7)) K dX4_isSame_225 hin_RX3 (by decide +kernel) ((hb_cw E q b1 b2 C G M C2 G2 M2).length + (13 + j)) (sm_h hlt) rfl 7 rfl (by decide) rfl ?_
          refine jk_icmp_ne_F (tgt := 311) K dX4_isSame_228 rfl rfl ?_
          refine jk_aload_n K dX4_isSame_231 rfl 5 rfl ?_
          refine jk_iload K dX4_isSame_232 1 rfl ?_
          refine jk_ws (ws' := (hb_v1 E q b1 b2 (sm_SW E p n (sm_G G) (sm_N C) (sm_M M) ++ Y) C G M C2 G2 M2)) lw_sw.symm ?_
          refine jk_cVi K (n' := ((((((((((53 * j) + 1) + 1) + 1) + 1) + 1) + 1) + 1) + 1) + 1)) (k' := ((((((((((318 * j) + 6) + 6) + 6) + 6) + 6) + 6) + 6) + 6) + 6)) [.int (nI j)] [] dX4_isSame_234 (lc_lookingFor _ hl E q b1 b2 (sm_SW E p n (sm_G G) (sm_N C) (sm_M M) ++ Y) C G M C2 G2 M2 n hn hg j hlt) gX4_isSame_X2_lookingFor rfl kd_X2_lookingFor ⟨Nat.le_of_ble_eq_true rfl, Nat.le_of_ble_eq_true rfl⟩ 0 rfl rfl (Nat.le_of_ble_eq_true rfl) ⟨rfl, rfl⟩ ⟨(by show _ ≤ 530; omega), (by show _ ≤ 3180; omega)⟩ rfl (fun _ _ => ?_)
          refine jk_aload K dX4_isSame_237 0 rfl ?_
          refine jk_ws (ws' := (sm_S E (hb_cw E q b1 b2 C G M C2 G2 M2) Y p n (sm_G G) (sm_N C) (sm_M M))) lw_sw ?_
          refine jk_get (C := RX3) (T := TX3) (N := 11) (nm := "looking") (ds := "I") (v := .int (((sm_N C) j) 8)) K dX4_isSame_239 hin_RX3 (by decide +kernel) ((hb_cw E q b1 b2 C G M C2 G2 M2).length + (13 + j)) (sm_h hlt) rfl 8 rfl (by decide) rfl ?_
          refine jk_icmp_ne_F (tgt := 311) K dX4_isSame_242 rfl rfl ?_
          refine jk_aload K dX4_isSame_245 0 rfl ?_
          refine jk_get (C := RX3) (T := TX3) (N := 11) (nm := "state") (ds := "I") (v := .int (((sm_N C) j) 6)) K dX4_isSame_247 hin_RX3 (by decide +kernel) ((hb_cw E q b1 b2 C G M C2 G2 M2).length + (13 + j)) (sm_h hlt) rfl 6 rfl (by decide) rfl ?_
          refine jk_if_eq_F (tgt := 267) K dX4_isSame_250 rfl (show ¬ C j 5 = 0 by rw [z5]; decide) ?_
          refine jk_aload_n K dX4_isSame_253 rfl 5 rfl ?_
          refine jk_iload K dX4_isSame_254 1 rfl ?_
          refine jk_ws (ws' := (hb_v1 E q b1 b2 (sm_SW E p n (sm_G G) (sm_N C) (sm_M M) ++ Y) C G M C2 G2 M2)) lw_sw.symm ?_
          refine jk_cVi K (n' := (((((((((((53 * j) + 1) + 1) + 1) + 1) + 1) + 1) + 1) + 1) + 1) + 2)) (k' := (((((((((((318 * j) + 6) + 6) + 6) + 6) + 6) + 6) + 6) + 6) + 6) + 12)) [.int (nI j)] [] dX4_isSame_256 (lc_sourceOf _ hl E q b1 b2 (sm_SW E p n (sm_G G) (sm_N C) (sm_M M) ++ Y) C G M C2 G2 M2 n hn hg j hlt (show ¬ C j 5 = 0 by rw [z5]; decide)) gX4_isSame_X2_sourceOf rfl kd_X2_sourceOf ⟨Nat.le_of_ble_eq_true rfl, Nat.le_of_ble_eq_true rfl⟩ 0 rfl rfl (Nat.le_of_ble_eq_true rfl) ⟨rfl, rfl⟩ ⟨(by show _ ≤ 530; omega), (by show _ ≤ 3180; omega)⟩ rfl (fun _ _ => ?_)
          refine jk_aload K dX4_isSame_259 0 rfl ?_
          refine jk_ws (ws' := (sm_S E (hb_cw E q b1 b2 C G M C2 G2 M2) Y p n (sm_G G) (sm_N C) (sm_M M))) lw_sw ?_
          refine jk_get (C := RX3) (T := TX3) (N := 11) (nm := "source") (ds := "I") (v := .int (((sm_N C) j) 9)) K dX4_isSame_261 hin_RX3 (by decide +kernel) ((hb_cw E q b1 b2 C G M C2 G2 M2).length + (13 + j)) (sm_h hlt) rfl 9 rfl (by decide) rfl ?_
          refine jk_icmp_ne_F (tgt := 311) K dX4_isSame_264 rfl (show C j 9 = sm_s (C j 9) from (sm_s_so hn zs).symm) ?_
          refine jk_aload_n K dX4_isSame_267 rfl 5 rfl ?_
          refine jk_iload K dX4_isSame_268 1 rfl ?_
          refine jk_ws (ws' := (hb_v1 E q b1 b2 (sm_SW E p n (sm_G G) (sm_N C) (sm_M M) ++ Y) C G M C2 G2 M2)) lw_sw.symm ?_
          refine jk_cVi K (n' := ((((((((((((53 * j) + 1) + 1) + 1) + 1) + 1) + 1) + 1) + 1) + 1) + 2) + 1)) (k' := ((((((((((((318 * j) + 6) + 6) + 6) + 6) + 6) + 6) + 6) + 6) + 6) + 12) + 6)) [.int (nI j)] [] dX4_isSame_270 (lc_isMistaken _ hl E q b1 b2 (sm_SW E p n (sm_G G) (sm_N C) (sm_M M) ++ Y) C G M C2 G2 M2 n hn hg j hlt) gX4_isSame_X2_isMistaken rfl kd_X2_isMistaken ⟨Nat.le_of_ble_eq_true rfl, Nat.le_of_ble_eq_true rfl⟩ 0 rfl rfl (Nat.le_of_ble_eq_true rfl) ⟨rfl, rfl⟩ ⟨(by show _ ≤ 530; omega), (by show _ ≤ 3180; omega)⟩ rfl (fun _ _ => ?_)
          refine jk_aload K dX4_isSame_273 0 rfl ?_
          refine jk_ws (ws' := (sm_S E (hb_cw E q b1 b2 C G M C2 G2 M2) Y p n (sm_G G) (sm_N C) (sm_M M))) lw_sw ?_
          refine jk_get (C := RX3) (T := TX3) (N := 11) (nm := "state") (ds := "I") (v := .int (((sm_N C) j) 6)) K dX4_isSame_275 hin_RX3 (by decide +kernel) ((hb_cw E q b1 b2 C G M C2 G2 M2).length + (13 + j)) (sm_h hlt) rfl 6 rfl (by decide) rfl ?_
          refine jk_if_eq_F (tgt := 293) K dX4_isSame_278 rfl (show ¬ C j 5 = 0 by rw [z5]; decide) ?_
          refine jk_aload K dX4_isSame_281 0 rfl ?_
          refine jk_get (C := RX3) (T := TX3) (N := 11) (nm := "source") (ds := "I") (v := .int (((sm_N C) j) 9)) K dX4_isSame_283 hin_RX3 (by decide +kernel) ((hb_cw E q b1 b2 C G M C2 G2 M2).length + (13 + j)) (sm_h hlt) rfl 9 rfl (by decide) rfl ?_
          refine jk_if_ge_T (tgt := 293) K dX4_isSame_286 rfl (show 0 ≤ sm_s (C j 9) by rw [sm_s_so hn zs, zs2]; exact Int32.not_lt.mp (nI_pos (by omega))) ?_
          refine jk_iconst (x := 0) K dX4_isSame_293 rfl ?_
          refine jk_icmp_ne_F (tgt := 311) K dX4_isSame_294 rfl (by rw [if_neg (by rw [zs2]; exact hm_neg (by omega))]) ?_
          refine jk_aload_n K dX4_isSame_297 rfl 5 rfl ?_
          refine jk_iload K dX4_isSame_298 1 rfl ?_
          refine jk_ws (ws' := (hb_v1 E q b1 b2 (sm_SW E p n (sm_G G) (sm_N C) (sm_M M) ++ Y) C G M C2 G2 M2)) lw_sw.symm ?_
          refine jk_cVi K (n' := (((((((((((((53 * j) + 1) + 1) + 1) + 1) + 1) + 1) + 1) + 1) + 1) + 2) + 1) + 1)) (k' := (((((((((((((318 * j) + 6) + 6) + 6) + 6) + 6) + 6) + 6) + 6) + 6) + 12) + 6) + 6)) [.int (nI j)] [] dX4_isSame_300 (lc_answersTo _ hl E q b1 b2 (sm_SW E p n (sm_G G) (sm_N C) (sm_M M) ++ Y) C G M C2 G2 M2 n hn hg j hlt) gX4_isSame_X2_answersTo rfl kd_X2_answersTo ⟨Nat.le_of_ble_eq_true rfl, Nat.le_of_ble_eq_true rfl⟩ 0 rfl rfl (Nat.le_of_ble_eq_true rfl) ⟨rfl, rfl⟩ ⟨(by show _ ≤ 530; omega), (by show _ ≤ 3180; omega)⟩ rfl (fun _ _ => ?_)
          refine jk_aload K dX4_isSame_303 0 rfl ?_
          refine jk_ws (ws' := (sm_S E (hb_cw E q b1 b2 C G M C2 G2 M2) Y p n (sm_G G) (sm_N C) (sm_M M))) lw_sw ?_
          refine jk_get (C := RX3) (T := TX3) (N := 11) (nm := "answers") (ds := "I") (v := .int (((sm_N C) j) 10)) K dX4_isSame_305 hin_RX3 (by decide +kernel) ((hb_cw E q b1 b2 C G M C2 G2 M2).length + (13 + j)) (sm_h hlt) rfl 10 rfl (by decide) rfl ?_
          refine jk_icmp_eq_T (tgt := 313) K dX4_isSame_308 rfl rfl ?_
          refine jk_iconst (x := 0) K dX4_isSame_313 rfl ?_
          refine jk_istore (lv' := [(6, .int 0), (5, .ref (p (13 + j))), (4, .int (nI j)), (3, .int (hb_wood C j)), (2, .int (nI n)), (0, .ref (p 0)), (1, .ref q)]) K dX4_isSame_314 (by decide) rfl ?_
          refine jk_wide (n' := (53 * j + 13 + 4 * 0)) (k' := (318 * j + 78 + 24 * 0)) (by omega) (by omega) ?_
          refine jk_lv (lv' := [(6, .int (nI 0)), (5, .ref (p (13 + j))), (4, .int (nI j)), (3, .int (hb_wood C j)), (2, .int (nI n)), (0, .ref (p 0)), (1, .ref q)]) (by first | rfl | (simp [c_90]; done)) ?_
          exact hI hlt 0 (Nat.zero_le _)
  refine jk_aload_n K dX4_isSame_0 rfl 0 rfl ?_
  refine jk_ws (ws' := (sm_S E (hb_cw E q b1 b2 C G M C2 G2 M2) Y p n (sm_G G) (sm_N C) (sm_M M))) lw_sw ?_
  refine jk_get (C := RX4) (T := TX4) (N := 7) (nm := "hills") (ds := "[LHillBeaconsLaw$Hill;") (v := .ref (p 1)) K dX4_isSame_1 hin_RX4 (by decide +kernel) ((hb_cw E q b1 b2 C G M C2 G2 M2).length + 0) sm_0 rfl 5 rfl (by decide) rfl ?_
  refine jk_alen (v := (nI n)) K dX4_isSame_4 ((hb_cw E q b1 b2 C G M C2 G2 M2).length + 1) 3 sm_1 rfl rfl ?_
  refine jk_istore_n (lv' := [(2, .int (nI n)), (0, .ref (p 0)), (1, .ref q)]) K dX4_isSame_5 rfl (by decide) rfl ?_
  refine jk_aload_n K dX4_isSame_6 rfl 2 rfl ?_
  refine jk_ws (ws' := (hb_v1 E q b1 b2 (sm_SW E p n (sm_G G) (sm_N C) (sm_M M) ++ Y) C G M C2 G2 M2)) lw_sw.symm ?_
  refine jk_cVi K (n' := 0) (k' := 0) [] [] dX4_isSame_7 (hb_X2_hills _ hl E q b1 b2 (sm_SW E p n (sm_G G) (sm_N C) (sm_M M) ++ Y) C G M C2 G2 M2) gX4_isSame_X2_hills rfl kd_X2_hills ⟨Nat.le_of_ble_eq_true rfl, Nat.le_of_ble_eq_true rfl⟩ 0 rfl rfl (Nat.le_of_ble_eq_true rfl) ⟨rfl, rfl⟩ ⟨Nat.le_of_ble_eq_true rfl, Nat.le_of_ble_eq_true rfl⟩ rfl (fun _ _ => ?_)
  refine jk_iload_n K dX4_isSame_10 rfl 0 rfl ?_
  refine jk_icmp_ne_F (tgt := 80) K dX4_isSame_11 rfl hg ?_
  refine jk_aload_n K dX4_isSame_14 rfl 2 rfl ?_
  refine jk_cVi K (n' := 0) (k' := 0) [] [] dX4_isSame_15 (hb_X2_minute _ hl E q b1 b2 (sm_SW E p n (sm_G G) (sm_N C) (sm_M M) ++ Y) C G M C2 G2 M2) gX4_isSame_X2_minute rfl kd_X2_minute ⟨Nat.le_of_ble_eq_true rfl, Nat.le_of_ble_eq_true rfl⟩ 0 rfl rfl (Nat.le_of_ble_eq_true rfl) ⟨rfl, rfl⟩ ⟨Nat.le_of_ble_eq_true rfl, Nat.le_of_ble_eq_true rfl⟩ rfl (fun _ _ => ?_)
  refine jk_aload_n K dX4_isSame_18 rfl 1 rfl ?_
  refine jk_ws (ws' := (sm_S E (hb_cw E q b1 b2 C G M C2 G2 M2) Y p n (sm_G G) (sm_N C) (sm_M M))) lw_sw ?_
  refine jk_get (C := RX4) (T := TX4) (N := 7) (nm := "minute") (ds := "I") (v := .int ((sm_G G) 0)) K dX4_isSame_19 hin_RX4 (by decide +kernel) ((hb_cw E q b1 b2 C G M C2 G2 M2).length + 0) sm_0 rfl 0 rfl (by decide) rfl ?_
  refine jk_icmp_ne_F (tgt := 80) K dX4_isSame_22 rfl rfl ?_
  refine jk_aload_n K dX4_isSame_25 rfl 2 rfl ?_
  refine jk_ws (ws' := (hb_v1 E q b1 b2 (sm_SW E p n (sm_G G) (sm_N C) (sm_M M) ++ Y) C G M C2 G2 M2)) lw_sw.symm ?_
  refine jk_cVi K (n' := 0) (k' := 0) [] [] dX4_isSame_26 (hb_X2_haze _ hl E q b1 b2 (sm_SW E p n (sm_G G) (sm_N C) (sm_M M) ++ Y) C G M C2 G2 M2) gX4_isSame_X2_haze rfl kd_X2_haze ⟨Nat.le_of_ble_eq_true rfl, Nat.le_of_ble_eq_true rfl⟩ 0 rfl rfl (Nat.le_of_ble_eq_true rfl) ⟨rfl, rfl⟩ ⟨Nat.le_of_ble_eq_true rfl, Nat.le_of_ble_eq_true rfl⟩ rfl (fun _ _ => ?_)
  refine jk_aload_n K dX4_isSame_29 rfl 1 rfl ?_
  refine jk_ws (ws' := (sm_S E (hb_cw E q b1 b2 C G M C2 G2 M2) Y p n (sm_G G) (sm_N C) (sm_M M))) lw_sw ?_
  refine jk_get (C := RX4) (T := TX4) (N := 7) (nm := "haze") (ds := "I") (v := .int ((sm_G G) 1)) K dX4_isSame_30 hin_RX4 (by decide +kernel) ((hb_cw E q b1 b2 C G M C2 G2 M2).length + 0) sm_0 rfl 1 rfl (by decide) rfl ?_
  refine jk_icmp_ne_F (tgt := 80) K dX4_isSame_33 rfl rfl ?_
  refine jk_aload_n K dX4_isSame_36 rfl 2 rfl ?_
  refine jk_ws (ws' := (hb_v1 E q b1 b2 (sm_SW E p n (sm_G G) (sm_N C) (sm_M M) ++ Y) C G M C2 G2 M2)) lw_sw.symm ?_
  refine jk_cVi K (n' := 0) (k' := 0) [] [] dX4_isSame_37 (hb_X2_glowLeft _ hl E q b1 b2 (sm_SW E p n (sm_G G) (sm_N C) (sm_M M) ++ Y) C G M C2 G2 M2) gX4_isSame_X2_glowLeft rfl kd_X2_glowLeft ⟨Nat.le_of_ble_eq_true rfl, Nat.le_of_ble_eq_true rfl⟩ 0 rfl rfl (Nat.le_of_ble_eq_true rfl) ⟨rfl, rfl⟩ ⟨Nat.le_of_ble_eq_true rfl, Nat.le_of_ble_eq_true rfl⟩ rfl (fun _ _ => ?_)
  refine jk_aload_n K dX4_isSame_40 rfl 1 rfl ?_
  refine jk_ws (ws' := (sm_S E (hb_cw E q b1 b2 C G M C2 G2 M2) Y p n (sm_G G) (sm_N C) (sm_M M))) lw_sw ?_
  refine jk_get (C := RX4) (T := TX4) (N := 7) (nm := "glow") (ds := "I") (v := .int ((sm_G G) 2)) K dX4_isSame_41 hin_RX4 (by decide +kernel) ((hb_cw E q b1 b2 C G M C2 G2 M2).length + 0) sm_0 rfl 2 rfl (by decide) rfl ?_
  refine jk_icmp_ne_F (tgt := 80) K dX4_isSame_44 rfl rfl ?_
  refine jk_aload_n K dX4_isSame_47 rfl 2 rfl ?_
  refine jk_ws (ws' := (hb_v1 E q b1 b2 (sm_SW E p n (sm_G G) (sm_N C) (sm_M M) ++ Y) C G M C2 G2 M2)) lw_sw.symm ?_
  refine jk_cVi K (n' := 0) (k' := 0) [] [] dX4_isSame_48 (hb_X2_burningHills _ hl E q b1 b2 (sm_SW E p n (sm_G G) (sm_N C) (sm_M M) ++ Y) C G M C2 G2 M2 n hn hg) gX4_isSame_X2_burningHills rfl kd_X2_burningHills ⟨Nat.le_of_ble_eq_true rfl, Nat.le_of_ble_eq_true rfl⟩ 0 rfl rfl (Nat.le_of_ble_eq_true rfl) ⟨rfl, rfl⟩ ⟨Nat.le_of_ble_eq_true rfl, Nat.le_of_ble_eq_true rfl⟩ rfl (fun _ _ => ?_)
  refine jk_aload_n K dX4_isSame_51 rfl 1 rfl ?_
  refine jk_ws (ws' := (sm_S E (hb_cw E q b1 b2 C G M C2 G2 M2) Y p n (sm_G G) (sm_N C) (sm_M M))) lw_sw ?_
  refine jk_cVi K (n' := 0) (k' := 0) [] [.int (hb_burn C n)] dX4_isSame_52 (hb_X4_burning _ hl E (hb_cw E q b1 b2 C G M C2 G2 M2) Y p n hn (sm_G G) (sm_N C) (sm_M M)) gX4_isSame_X4_burning rfl kd_X4_burning ⟨Nat.le_of_ble_eq_true rfl, Nat.le_of_ble_eq_true rfl⟩ ((hb_cw E q b1 b2 C G M C2 G2 M2).length + 0) sm_0 rfl (Nat.le_of_ble_eq_true rfl) ⟨rfl, rfl⟩ ⟨Nat.le_of_ble_eq_true rfl, Nat.le_of_ble_eq_true rfl⟩ rfl (fun _ _ => ?_)
  refine jk_icmp_ne_F (tgt := 80) K dX4_isSame_55 rfl (sm_bu_v C n) ?_
  refine jk_aload_n K dX4_isSame_58 rfl 2 rfl ?_
  refine jk_ws (ws' := (hb_v1 E q b1 b2 (sm_SW E p n (sm_G G) (sm_N C) (sm_M M) ++ Y) C G M C2 G2 M2)) lw_sw.symm ?_
  refine jk_cVi K (n' := 0) (k' := 0) [] [] dX4_isSame_59 (hb_X2_timesLit _ hl E q b1 b2 (sm_SW E p n (sm_G G) (sm_N C) (sm_M M) ++ Y) C G M C2 G2 M2) gX4_isSame_X2_timesLit rfl kd_X2_timesLit ⟨Nat.le_of_ble_eq_true rfl, Nat.le_of_ble_eq_true rfl⟩ 0 rfl rfl (Nat.le_of_ble_eq_true rfl) ⟨rfl, rfl⟩ ⟨Nat.le_of_ble_eq_true rfl, Nat.le_of_ble_eq_true rfl⟩ rfl (fun _ _ => ?_)
  refine jk_aload_n K dX4_isSame_62 rfl 1 rfl ?_
  refine jk_ws (ws' := (sm_S E (hb_cw E q b1 b2 C G M C2 G2 M2) Y p n (sm_G G) (sm_N C) (sm_M M))) lw_sw ?_
  refine jk_get (C := RX4) (T := TX4) (N := 7) (nm := "lit") (ds := "I") (v := .int ((sm_G G) 3)) K dX4_isSame_63 hin_RX4 (by decide +kernel) ((hb_cw E q b1 b2 C G M C2 G2 M2).length + 0) sm_0 rfl 3 rfl (by decide) rfl ?_
  refine jk_icmp_ne_F (tgt := 80) K dX4_isSame_66 rfl rfl ?_
  refine jk_aload_n K dX4_isSame_69 rfl 2 rfl ?_
  refine jk_ws (ws' := (hb_v1 E q b1 b2 (sm_SW E p n (sm_G G) (sm_N C) (sm_M M) ++ Y) C G M C2 G2 M2)) lw_sw.symm ?_
  refine jk_cVi K (n' := 0) (k' := 0) [] [] dX4_isSame_70 (hb_X2_timesMistaken _ hl E q b1 b2 (sm_SW E p n (sm_G G) (sm_N C) (sm_M M) ++ Y) C G M C2 G2 M2) gX4_isSame_X2_timesMistaken rfl kd_X2_timesMistaken ⟨Nat.le_of_ble_eq_true rfl, Nat.le_of_ble_eq_true rfl⟩ 0 rfl rfl (Nat.le_of_ble_eq_true rfl) ⟨rfl, rfl⟩ ⟨Nat.le_of_ble_eq_true rfl, Nat.le_of_ble_eq_true rfl⟩ rfl (fun _ _ => ?_)
  refine jk_aload_n K dX4_isSame_73 rfl 1 rfl ?_
  refine jk_ws (ws' := (sm_S E (hb_cw E q b1 b2 C G M C2 G2 M2) Y p n (sm_G G) (sm_N C) (sm_M M))) lw_sw ?_
  refine jk_get (C := RX4) (T := TX4) (N := 7) (nm := "mistaken") (ds := "I") (v := .int ((sm_G G) 4)) K dX4_isSame_74 hin_RX4 (by decide +kernel) ((hb_cw E q b1 b2 C G M C2 G2 M2).length + 0) sm_0 rfl 4 rfl (by decide) rfl ?_
  refine jk_icmp_eq_T (tgt := 82) K dX4_isSame_77 rfl rfl ?_
  refine jk_iconst (x := 0) K dX4_isSame_82 rfl ?_
  refine jk_istore_n (lv' := [(3, .int 0), (2, .int (nI n)), (0, .ref (p 0)), (1, .ref q)]) K dX4_isSame_83 rfl (by decide) rfl ?_
  refine jk_iconst (x := 0) K dX4_isSame_84 rfl ?_
  refine jk_istore (lv' := [(4, .int 0), (3, .int 0), (2, .int (nI n)), (0, .ref (p 0)), (1, .ref q)]) K dX4_isSame_85 (by decide) rfl ?_
  refine jk_wide (n' := (53 * 0)) (k' := (318 * 0)) (by omega) (by omega) ?_
  refine jk_lv (lv' := [(4, .int (nI 0)), (3, .int (hb_wood C 0)), (2, .int (nI n)), (0, .ref (p 0)), (1, .ref q)]) (by first | rfl | (simp []; done)) ?_
  exact hL 0 (Nat.zero_le _)
