theorem kd_L_addHill : yL_addHill.cls ≠ "java/lang/invoke/MethodHandle" ∧ yL_addHill.cls ≠ "java/lang/invoke/VarHandle" ∧ (parseMethodDescriptor yL_addHill.desc).map (fun d => d.parameters.length) = some 5 := by decide +kernel
theorem kd_L_answersTo : yL_answersTo.cls ≠ "java/lang/invoke/MethodHandle" ∧ yL_answersTo.cls ≠ "java/lang/invoke/VarHandle" ∧ (parseMethodDescriptor yL_answersTo.desc).map (fun d => d.parameters.length) = some 3 := by decide +kernel
theorem kd_L_bringWood : yL_bringWood.cls ≠ "java/lang/invoke/MethodHandle" ∧ yL_bringWood.cls ≠ "java/lang/invoke/VarHandle" ∧ (parseMethodDescriptor yL_bringWood.desc).map (fun d => d.parameters.length) = some 4 := by decide +kernel
theorem kd_L_burningAfter : yL_burningAfter.cls ≠ "java/lang/invoke/MethodHandle" ∧ yL_burningAfter.cls ≠ "java/lang/invoke/VarHandle" ∧ (parseMethodDescriptor yL_burningAfter.desc).map (fun d => d.parameters.length) = some 3 := by decide +kernel
theorem kd_L_canSee : yL_canSee.cls ≠ "java/lang/invoke/MethodHandle" ∧ yL_canSee.cls ≠ "java/lang/invoke/VarHandle" ∧ (parseMethodDescriptor yL_canSee.desc).map (fun d => d.parameters.length) = some 4 := by decide +kernel
theorem kd_L_dampOf : yL_dampOf.cls ≠ "java/lang/invoke/MethodHandle" ∧ yL_dampOf.cls ≠ "java/lang/invoke/VarHandle" ∧ (parseMethodDescriptor yL_dampOf.desc).map (fun d => d.parameters.length) = some 3 := by decide +kernel
theorem kd_L_douse : yL_douse.cls ≠ "java/lang/invoke/MethodHandle" ∧ yL_douse.cls ≠ "java/lang/invoke/VarHandle" ∧ (parseMethodDescriptor yL_douse.desc).map (fun d => d.parameters.length) = some 3 := by decide +kernel
theorem kd_L_fewestSteps : yL_fewestSteps.cls ≠ "java/lang/invoke/MethodHandle" ∧ yL_fewestSteps.cls ≠ "java/lang/invoke/VarHandle" ∧ (parseMethodDescriptor yL_fewestSteps.desc).map (fun d => d.parameters.length) = some 4 := by decide +kernel
theorem kd_L_glow : yL_glow.cls ≠ "java/lang/invoke/MethodHandle" ∧ yL_glow.cls ≠ "java/lang/invoke/VarHandle" ∧ (parseMethodDescriptor yL_glow.desc).map (fun d => d.parameters.length) = some 3 := by decide +kernel
theorem kd_L_isBurning : yL_isBurning.cls ≠ "java/lang/invoke/MethodHandle" ∧ yL_isBurning.cls ≠ "java/lang/invoke/VarHandle" ∧ (parseMethodDescriptor yL_isBurning.desc).map (fun d => d.parameters.length) = some 3 := by decide +kernel
theorem kd_L_isDark : yL_isDark.cls ≠ "java/lang/invoke/MethodHandle" ∧ yL_isDark.cls ≠ "java/lang/invoke/VarHandle" ∧ (parseMethodDescriptor yL_isDark.desc).map (fun d => d.parameters.length) = some 3 := by decide +kernel
theorem kd_L_isMistaken : yL_isMistaken.cls ≠ "java/lang/invoke/MethodHandle" ∧ yL_isMistaken.cls ≠ "java/lang/invoke/VarHandle" ∧ (parseMethodDescriptor yL_isMistaken.desc).map (fun d => d.parameters.length) = some 3 := by decide +kernel
theorem kd_L_isPost : yL_isPost.cls ≠ "java/lang/invoke/MethodHandle" ∧ yL_isPost.cls ≠ "java/lang/invoke/VarHandle" ∧ (parseMethodDescriptor yL_isPost.desc).map (fun d => d.parameters.length) = some 3 := by decide +kernel
theorem kd_L_light : yL_light.cls ≠ "java/lang/invoke/MethodHandle" ∧ yL_light.cls ≠ "java/lang/invoke/VarHandle" ∧ (parseMethodDescriptor yL_light.desc).map (fun d => d.parameters.length) = some 3 := by decide +kernel
theorem kd_L_lookingFor : yL_lookingFor.cls ≠ "java/lang/invoke/MethodHandle" ∧ yL_lookingFor.cls ≠ "java/lang/invoke/VarHandle" ∧ (parseMethodDescriptor yL_lookingFor.desc).map (fun d => d.parameters.length) = some 3 := by decide +kernel
theorem kd_L_looksEast : yL_looksEast.cls ≠ "java/lang/invoke/MethodHandle" ∧ yL_looksEast.cls ≠ "java/lang/invoke/VarHandle" ∧ (parseMethodDescriptor yL_looksEast.desc).map (fun d => d.parameters.length) = some 3 := by decide +kernel
theorem kd_L_milesBetween : yL_milesBetween.cls ≠ "java/lang/invoke/MethodHandle" ∧ yL_milesBetween.cls ≠ "java/lang/invoke/VarHandle" ∧ (parseMethodDescriptor yL_milesBetween.desc).map (fun d => d.parameters.length) = some 4 := by decide +kernel
theorem kd_L_minutesToBurn : yL_minutesToBurn.cls ≠ "java/lang/invoke/MethodHandle" ∧ yL_minutesToBurn.cls ≠ "java/lang/invoke/VarHandle" ∧ (parseMethodDescriptor yL_minutesToBurn.desc).map (fun d => d.parameters.length) = some 3 := by decide +kernel
theorem kd_L_minutesUntilBurning : yL_minutesUntilBurning.cls ≠ "java/lang/invoke/MethodHandle" ∧ yL_minutesUntilBurning.cls ≠ "java/lang/invoke/VarHandle" ∧ (parseMethodDescriptor yL_minutesUntilBurning.desc).map (fun d => d.parameters.length) = some 3 := by decide +kernel
theorem kd_L_passMinutes : yL_passMinutes.cls ≠ "java/lang/invoke/MethodHandle" ∧ yL_passMinutes.cls ≠ "java/lang/invoke/VarHandle" ∧ (parseMethodDescriptor yL_passMinutes.desc).map (fun d => d.parameters.length) = some 3 := by decide +kernel
theorem kd_L_reachOf : yL_reachOf.cls ≠ "java/lang/invoke/MethodHandle" ∧ yL_reachOf.cls ≠ "java/lang/invoke/VarHandle" ∧ (parseMethodDescriptor yL_reachOf.desc).map (fun d => d.parameters.length) = some 3 := by decide +kernel
theorem kd_L_setDamp : yL_setDamp.cls ≠ "java/lang/invoke/MethodHandle" ∧ yL_setDamp.cls ≠ "java/lang/invoke/VarHandle" ∧ (parseMethodDescriptor yL_setDamp.desc).map (fun d => d.parameters.length) = some 4 := by decide +kernel
theorem kd_L_setHaze : yL_setHaze.cls ≠ "java/lang/invoke/MethodHandle" ∧ yL_setHaze.cls ≠ "java/lang/invoke/VarHandle" ∧ (parseMethodDescriptor yL_setHaze.desc).map (fun d => d.parameters.length) = some 3 := by decide +kernel
theorem kd_L_setSight : yL_setSight.cls ≠ "java/lang/invoke/MethodHandle" ∧ yL_setSight.cls ≠ "java/lang/invoke/VarHandle" ∧ (parseMethodDescriptor yL_setSight.desc).map (fun d => d.parameters.length) = some 5 := by decide +kernel
theorem kd_L_sourceOf : yL_sourceOf.cls ≠ "java/lang/invoke/MethodHandle" ∧ yL_sourceOf.cls ≠ "java/lang/invoke/VarHandle" ∧ (parseMethodDescriptor yL_sourceOf.desc).map (fun d => d.parameters.length) = some 3 := by decide +kernel
theorem kd_L_turnEast : yL_turnEast.cls ≠ "java/lang/invoke/MethodHandle" ∧ yL_turnEast.cls ≠ "java/lang/invoke/VarHandle" ∧ (parseMethodDescriptor yL_turnEast.desc).map (fun d => d.parameters.length) = some 3 := by decide +kernel
theorem kd_L_turnPost : yL_turnPost.cls ≠ "java/lang/invoke/MethodHandle" ∧ yL_turnPost.cls ≠ "java/lang/invoke/VarHandle" ∧ (parseMethodDescriptor yL_turnPost.desc).map (fun d => d.parameters.length) = some 3 := by decide +kernel
theorem kd_L_watchOf : yL_watchOf.cls ≠ "java/lang/invoke/MethodHandle" ∧ yL_watchOf.cls ≠ "java/lang/invoke/VarHandle" ∧ (parseMethodDescriptor yL_watchOf.desc).map (fun d => d.parameters.length) = some 3 := by decide +kernel
theorem kd_L_woodOf : yL_woodOf.cls ≠ "java/lang/invoke/MethodHandle" ∧ yL_woodOf.cls ≠ "java/lang/invoke/VarHandle" ∧ (parseMethodDescriptor yL_woodOf.desc).map (fun d => d.parameters.length) = some 3 := by decide +kernel
theorem kd_X3_addHill : yX3_addHill.cls = RX3 ∧ yX3_addHill.cls ≠ "java/lang/invoke/MethodHandle" ∧ yX3_addHill.cls ≠ "java/lang/invoke/VarHandle" ∧ (parseMethodDescriptor yX3_addHill.desc).map (fun d => d.parameters.length) = some 3 := by decide +kernel
theorem kd_X3_answersTo : yX3_answersTo.cls = RX3 ∧ yX3_answersTo.cls ≠ "java/lang/invoke/MethodHandle" ∧ yX3_answersTo.cls ≠ "java/lang/invoke/VarHandle" ∧ (parseMethodDescriptor yX3_answersTo.desc).map (fun d => d.parameters.length) = some 1 := by decide +kernel
theorem kd_X3_bringWood : yX3_bringWood.cls = RX3 ∧ yX3_bringWood.cls ≠ "java/lang/invoke/MethodHandle" ∧ yX3_bringWood.cls ≠ "java/lang/invoke/VarHandle" ∧ (parseMethodDescriptor yX3_bringWood.desc).map (fun d => d.parameters.length) = some 2 := by decide +kernel
theorem kd_X3_burningAfter : yX3_burningAfter.cls = RX3 ∧ yX3_burningAfter.cls ≠ "java/lang/invoke/MethodHandle" ∧ yX3_burningAfter.cls ≠ "java/lang/invoke/VarHandle" ∧ (parseMethodDescriptor yX3_burningAfter.desc).map (fun d => d.parameters.length) = some 1 := by decide +kernel
theorem kd_X3_canSee : yX3_canSee.cls = RX3 ∧ yX3_canSee.cls ≠ "java/lang/invoke/MethodHandle" ∧ yX3_canSee.cls ≠ "java/lang/invoke/VarHandle" ∧ (parseMethodDescriptor yX3_canSee.desc).map (fun d => d.parameters.length) = some 2 := by decide +kernel
theorem kd_X3_dampOf : yX3_dampOf.cls = RX3 ∧ yX3_dampOf.cls ≠ "java/lang/invoke/MethodHandle" ∧ yX3_dampOf.cls ≠ "java/lang/invoke/VarHandle" ∧ (parseMethodDescriptor yX3_dampOf.desc).map (fun d => d.parameters.length) = some 1 := by decide +kernel
theorem kd_X3_douse : yX3_douse.cls = RX3 ∧ yX3_douse.cls ≠ "java/lang/invoke/MethodHandle" ∧ yX3_douse.cls ≠ "java/lang/invoke/VarHandle" ∧ (parseMethodDescriptor yX3_douse.desc).map (fun d => d.parameters.length) = some 1 := by decide +kernel
theorem kd_X3_fewestSteps : yX3_fewestSteps.cls = RX3 ∧ yX3_fewestSteps.cls ≠ "java/lang/invoke/MethodHandle" ∧ yX3_fewestSteps.cls ≠ "java/lang/invoke/VarHandle" ∧ (parseMethodDescriptor yX3_fewestSteps.desc).map (fun d => d.parameters.length) = some 2 := by decide +kernel
theorem kd_X3_glow : yX3_glow.cls = RX3 ∧ yX3_glow.cls ≠ "java/lang/invoke/MethodHandle" ∧ yX3_glow.cls ≠ "java/lang/invoke/VarHandle" ∧ (parseMethodDescriptor yX3_glow.desc).map (fun d => d.parameters.length) = some 1 := by decide +kernel
theorem kd_X3_isBurning : yX3_isBurning.cls = RX3 ∧ yX3_isBurning.cls ≠ "java/lang/invoke/MethodHandle" ∧ yX3_isBurning.cls ≠ "java/lang/invoke/VarHandle" ∧ (parseMethodDescriptor yX3_isBurning.desc).map (fun d => d.parameters.length) = some 1 := by decide +kernel
theorem kd_X3_isDark : yX3_isDark.cls = RX3 ∧ yX3_isDark.cls ≠ "java/lang/invoke/MethodHandle" ∧ yX3_isDark.cls ≠ "java/lang/invoke/VarHandle" ∧ (parseMethodDescriptor yX3_isDark.desc).map (fun d => d.parameters.length) = some 1 := by decide +kernel
theorem kd_X3_isMistaken : yX3_isMistaken.cls = RX3 ∧ yX3_isMistaken.cls ≠ "java/lang/invoke/MethodHandle" ∧ yX3_isMistaken.cls ≠ "java/lang/invoke/VarHandle" ∧ (parseMethodDescriptor yX3_isMistaken.desc).map (fun d => d.parameters.length) = some 1 := by decide +kernel
theorem kd_X3_isPost : yX3_isPost.cls = RX3 ∧ yX3_isPost.cls ≠ "java/lang/invoke/MethodHandle" ∧ yX3_isPost.cls ≠ "java/lang/invoke/VarHandle" ∧ (parseMethodDescriptor yX3_isPost.desc).map (fun d => d.parameters.length) = some 1 := by decide +kernel
theorem kd_X3_light : yX3_light.cls = RX3 ∧ yX3_light.cls ≠ "java/lang/invoke/MethodHandle" ∧ yX3_light.cls ≠ "java/lang/invoke/VarHandle" ∧ (parseMethodDescriptor yX3_light.desc).map (fun d => d.parameters.length) = some 1 := by decide +kernel
theorem kd_X3_lookingFor : yX3_lookingFor.cls = RX3 ∧ yX3_lookingFor.cls ≠ "java/lang/invoke/MethodHandle" ∧ yX3_lookingFor.cls ≠ "java/lang/invoke/VarHandle" ∧ (parseMethodDescriptor yX3_lookingFor.desc).map (fun d => d.parameters.length) = some 1 := by decide +kernel
theorem kd_X3_looksEast : yX3_looksEast.cls = RX3 ∧ yX3_looksEast.cls ≠ "java/lang/invoke/MethodHandle" ∧ yX3_looksEast.cls ≠ "java/lang/invoke/VarHandle" ∧ (parseMethodDescriptor yX3_looksEast.desc).map (fun d => d.parameters.length) = some 1 := by decide +kernel
theorem kd_X3_milesBetween : yX3_milesBetween.cls = RX3 ∧ yX3_milesBetween.cls ≠ "java/lang/invoke/MethodHandle" ∧ yX3_milesBetween.cls ≠ "java/lang/invoke/VarHandle" ∧ (parseMethodDescriptor yX3_milesBetween.desc).map (fun d => d.parameters.length) = some 2 := by decide +kernel
theorem kd_X3_minutesToBurn : yX3_minutesToBurn.cls = RX3 ∧ yX3_minutesToBurn.cls ≠ "java/lang/invoke/MethodHandle" ∧ yX3_minutesToBurn.cls ≠ "java/lang/invoke/VarHandle" ∧ (parseMethodDescriptor yX3_minutesToBurn.desc).map (fun d => d.parameters.length) = some 1 := by decide +kernel
theorem kd_X3_minutesUntilBurning : yX3_minutesUntilBurning.cls = RX3 ∧ yX3_minutesUntilBurning.cls ≠ "java/lang/invoke/MethodHandle" ∧ yX3_minutesUntilBurning.cls ≠ "java/lang/invoke/VarHandle" ∧ (parseMethodDescriptor yX3_minutesUntilBurning.desc).map (fun d => d.parameters.length) = some 1 := by decide +kernel
theorem kd_X3_passMinutes : yX3_passMinutes.cls = RX3 ∧ yX3_passMinutes.cls ≠ "java/lang/invoke/MethodHandle" ∧ yX3_passMinutes.cls ≠ "java/lang/invoke/VarHandle" ∧ (parseMethodDescriptor yX3_passMinutes.desc).map (fun d => d.parameters.length) = some 1 := by decide +kernel
theorem kd_X3_reachOf : yX3_reachOf.cls = RX3 ∧ yX3_reachOf.cls ≠ "java/lang/invoke/MethodHandle" ∧ yX3_reachOf.cls ≠ "java/lang/invoke/VarHandle" ∧ (parseMethodDescriptor yX3_reachOf.desc).map (fun d => d.parameters.length) = some 1 := by decide +kernel
theorem kd_X3_setDamp : yX3_setDamp.cls = RX3 ∧ yX3_setDamp.cls ≠ "java/lang/invoke/MethodHandle" ∧ yX3_setDamp.cls ≠ "java/lang/invoke/VarHandle" ∧ (parseMethodDescriptor yX3_setDamp.desc).map (fun d => d.parameters.length) = some 2 := by decide +kernel
theorem kd_X3_setHaze : yX3_setHaze.cls = RX3 ∧ yX3_setHaze.cls ≠ "java/lang/invoke/MethodHandle" ∧ yX3_setHaze.cls ≠ "java/lang/invoke/VarHandle" ∧ (parseMethodDescriptor yX3_setHaze.desc).map (fun d => d.parameters.length) = some 1 := by decide +kernel
theorem kd_X3_setSight : yX3_setSight.cls = RX3 ∧ yX3_setSight.cls ≠ "java/lang/invoke/MethodHandle" ∧ yX3_setSight.cls ≠ "java/lang/invoke/VarHandle" ∧ (parseMethodDescriptor yX3_setSight.desc).map (fun d => d.parameters.length) = some 3 := by decide +kernel
theorem kd_X3_sourceOf : yX3_sourceOf.cls = RX3 ∧ yX3_sourceOf.cls ≠ "java/lang/invoke/MethodHandle" ∧ yX3_sourceOf.cls ≠ "java/lang/invoke/VarHandle" ∧ (parseMethodDescriptor yX3_sourceOf.desc).map (fun d => d.parameters.length) = some 1 := by decide +kernel
theorem kd_X3_thrown : yX3_thrown.cls = RX3 ∧ yX3_thrown.cls ≠ "java/lang/invoke/MethodHandle" ∧ yX3_thrown.cls ≠ "java/lang/invoke/VarHandle" ∧ (parseMethodDescriptor yX3_thrown.desc).map (fun d => d.parameters.length) = some 0 := by decide +kernel
theorem kd_X3_turnEast : yX3_turnEast.cls = RX3 ∧ yX3_turnEast.cls ≠ "java/lang/invoke/MethodHandle" ∧ yX3_turnEast.cls ≠ "java/lang/invoke/VarHandle" ∧ (parseMethodDescriptor yX3_turnEast.desc).map (fun d => d.parameters.length) = some 1 := by decide +kernel
theorem kd_X3_turnPost : yX3_turnPost.cls = RX3 ∧ yX3_turnPost.cls ≠ "java/lang/invoke/MethodHandle" ∧ yX3_turnPost.cls ≠ "java/lang/invoke/VarHandle" ∧ (parseMethodDescriptor yX3_turnPost.desc).map (fun d => d.parameters.length) = some 1 := by decide +kernel
theorem kd_X3_watchOf : yX3_watchOf.cls = RX3 ∧ yX3_watchOf.cls ≠ "java/lang/invoke/MethodHandle" ∧ yX3_watchOf.cls ≠ "java/lang/invoke/VarHandle" ∧ (parseMethodDescriptor yX3_watchOf.desc).map (fun d => d.parameters.length) = some 1 := by decide +kernel
theorem kd_X3_woodOf : yX3_woodOf.cls = RX3 ∧ yX3_woodOf.cls ≠ "java/lang/invoke/MethodHandle" ∧ yX3_woodOf.cls ≠ "java/lang/invoke/VarHandle" ∧ (parseMethodDescriptor yX3_woodOf.desc).map (fun d => d.parameters.length) = some 1 := by decide +kernel
set_option maxHeartbeats 4000000 in
set_option maxRecDepth 100000 in
theorem lw_c0 {Γ : jk_G} {E : jk_T} (K : jk_C Γ E RL cL_law 9 wsL_law ({ frames := 13, cells := 601024, slots := 7293034, locals := 468 } : Room)) {sb L : Nat} {xs : Nat → Int32} (XL : jk_LX Γ sb L xs) (hL : L ≤ 2048) {j : Nat} (hj : 4 * j + 3 < L) {nn ks : Nat} (hnn : nn + 11 ≤ 601024) (hks : ks + 117 ≤ 7293034) {q : Nat} {b1 b2 : Nat → Nat} {ao : Nat} {m : Nat → Nat} {O : Nat → Int64} {C : Nat → Nat → Int32} {G M : Nat → Int32} {C2 : Nat → Nat → Int32} {G2 M2 : Nat → Int32} {th : Int32} {n : Nat} {S : Nat → Int32} {N a : Nat → Nat → Int32} (R : hm_R n C G M S N a) (kk : ∀ (O : Nat → Int64) (C : Nat → Nat → Int32) (G M : Nat → Int32) (C2 : Nat → Nat → Int32) (G2 M2 : Nat → Int32) (th : Int32) (n : Nat) (S : Nat → Int32) (N a : Nat → Nat → Int32), hm_R n C G M S N a → jk_J Γ E (lw_w E q b1 b2 ao m O C G M C2 G2 M2 th n S N a) (nn + 11) (ks + 117) 2155 [(4, .int (nI (4 * j))), (3, .ref ao), (2, .ref (m 0)), (1, .ref q), (0, .ref sb)] []) : jk_J Γ E (lw_w E q b1 b2 ao m O C G M C2 G2 M2 th n S N a) nn ks 208 [(4, .int (nI (4 * j))), (3, .ref ao), (2, .ref (m 0)), (1, .ref q), (0, .ref sb)] [] := by
  have hl := K.2.2.2.2.2.2.2.2.2.2
  refine jk_aload_n K dL_law_208 rfl 3 rfl ?_
  refine jk_aload_n K dL_law_209 rfl 4 rfl ?_
  refine jk_iload K dL_law_210 0 rfl ?_
  refine jk_iconst (x := 1) K dL_law_212 rfl ?_
  refine jk_iadd K dL_law_213 ?_
  refine jk_xld (v := xs (4 * j + 1)) K XL dL_law_214 (lw_i hj hL (c := 1) (by decide)).1 (congrArg xs (lw_i hj hL (c := 1) (by decide)).2) ?_
  refine jk_aload_n K dL_law_215 rfl 4 rfl ?_
  refine jk_iload K dL_law_216 0 rfl ?_
  refine jk_iconst (x := 2) K dL_law_218 rfl ?_
  refine jk_iadd K dL_law_219 ?_
  refine jk_xld (v := xs (4 * j + 2)) K XL dL_law_220 (lw_i hj hL (c := 2) (by decide)).1 (congrArg xs (lw_i hj hL (c := 2) (by decide)).2) ?_
  refine jk_aload_n K dL_law_221 rfl 4 rfl ?_
  refine jk_iload K dL_law_222 0 rfl ?_
  refine jk_iconst (x := 3) K dL_law_224 rfl ?_
  refine jk_iadd K dL_law_225 ?_
  refine jk_xld (v := xs (4 * j + 3)) K XL dL_law_226 (lw_i hj hL (c := 3) (by decide)).1 (congrArg xs (lw_i hj hL (c := 3) (by decide)).2) ?_
  refine jk_aload_n K dL_law_227 rfl 1 rfl ?_
  refine jk_ws (ws' := (hb_v1 E q b1 b2 (hb_o E ao O :: (hm_MW E m th (nI n) S N a ++ [])) C G M C2 G2 M2)) lw_eq.symm ?_
  refine jk_cSiH K (n' := (nn + 4)) (k' := (ks + 24)) [.ref q, .int (xs (4 * j + 1)), .int (xs (4 * j + 2)), .int (xs (4 * j + 3)), .ref ao] [] dL_law_228 (hb_L_addHill _ hl E q b1 b2 ao O (hm_MW E m th (nI n) S N a ++ []) C G M C2 G2 M2 n R.1 R.2.2.1.1 (xs (4 * j + 1)) (xs (4 * j + 2)) (xs (4 * j + 3))) gL_law_L_addHill rfl kd_L_addHill ⟨Nat.le_of_ble_eq_true rfl, Nat.le_of_ble_eq_true rfl⟩ (Nat.le_of_ble_eq_true rfl) ⟨rfl, rfl⟩ ⟨(by show _ ≤ 601024; omega), (by show _ ≤ 7293034; omega)⟩ rfl (fun u hu => ?_)
  rcases u with u | k
  · refine jk_ws (ws' := (lw_w E q b1 b2 ao m (vp_updL O 0 (Int32.toInt64 (nI n))) (va_up C n (hb_fu (hb_fu (hb_fu (C n) 0 (xs (4 * j + 1))) 1 (xs (4 * j + 2))) 2 (xs (4 * j + 3)))) (hb_fu G 0 (nI (n + 1))) M C2 G2 M2 th n S N a)) lw_eq ?_
    refine jk_st (st' := [.int 0]) rfl ?_
    refine jk_istore (lv' := [(5, .int 0), (4, .int (nI (4 * j))), (3, .ref ao), (2, .ref (m 0)), (1, .ref q), (0, .ref sb)]) K dL_law_231 (by decide) rfl ?_
    refine jk_aload_n K dL_law_233 rfl 3 rfl ?_
    refine jk_aload_n K dL_law_234 rfl 5 rfl ?_
    refine jk_iload K dL_law_235 1 rfl ?_
    refine jk_iconst (x := 1) K dL_law_237 rfl ?_
    refine jk_iadd K dL_law_238 ?_
    refine jk_xld (v := xs (4 * j + 1)) K XL dL_law_239 (lw_i hj hL (c := 1) (by decide)).1 (congrArg xs (lw_i hj hL (c := 1) (by decide)).2) ?_
    refine jk_aload_n K dL_law_240 rfl 5 rfl ?_
    refine jk_iload K dL_law_241 1 rfl ?_
    refine jk_iconst (x := 2) K dL_law_243 rfl ?_
    refine jk_iadd K dL_law_244 ?_
    refine jk_xld (v := xs (4 * j + 2)) K XL dL_law_245 (lw_i hj hL (c := 2) (by decide)).1 (congrArg xs (lw_i hj hL (c := 2) (by decide)).2) ?_
    refine jk_aload_n K dL_law_246 rfl 5 rfl ?_
    refine jk_iload K dL_law_247 1 rfl ?_
    refine jk_iconst (x := 3) K dL_law_249 rfl ?_
    refine jk_iadd K dL_law_250 ?_
    refine jk_xld (v := xs (4 * j + 3)) K XL dL_law_251 (lw_i hj hL (c := 3) (by decide)).1 (congrArg xs (lw_i hj hL (c := 3) (by decide)).2) ?_
    refine jk_cVi K (n' := (nn + 4)) (k' := (ks + 24)) [.int (xs (4 * j + 1)), .int (xs (4 * j + 2)), .int (xs (4 * j + 3))] [] dL_law_252 (hb_X3_addHill _ hl E (hb_v1 E q b1 b2 [hb_o E ao (vp_updL O 0 (Int32.toInt64 (nI n)))] (va_up C n (hb_fu (hb_fu (hb_fu (C n) 0 (xs (4 * j + 1))) 1 (xs (4 * j + 2))) 2 (xs (4 * j + 3)))) (hb_fu G 0 (nI (n + 1))) M C2 G2 M2) [] m th S N a n R.1 (xs (4 * j + 1)) (xs (4 * j + 2)) (xs (4 * j + 3))) gL_law_X3_addHill rfl kd_X3_addHill ⟨Nat.le_of_ble_eq_true rfl, Nat.le_of_ble_eq_true rfl⟩ _ hm_x0 rfl (Nat.le_of_ble_eq_true rfl) ⟨rfl, rfl⟩ ⟨(by show _ ≤ 601024; omega), (by show _ ≤ 7293034; omega)⟩ rfl (fun v hv => ?_)
    obtain ⟨e1, e2, R2, e3⟩ := lp_addHill_ok (C2 := C2) (G2 := G2) (M2 := M2) (u := u) (v := v) R hu hv
    refine jk_ws (ws' := (lw_w E q b1 b2 ao m (vp_updL O 0 (Int32.toInt64 (nI n))) (va_up C n (hb_fu (hb_fu (hb_fu (C n) 0 (xs (4 * j + 1))) 1 (xs (4 * j + 2))) 2 (xs (4 * j + 3)))) (hb_fu G 0 (nI (n + 1))) M C2 G2 M2 v.1 (n + 1) S v.2.2.2.1 (va_up a 2 v.2.2.2.2))) (by rw [e3]) ?_
    refine jk_st (st' := [.int (nI n)]) (by rw [e2]) ?_
    refine jk_istore (lv' := [(6, .int (nI n)), (5, .int 0), (4, .int (nI (4 * j))), (3, .ref ao), (2, .ref (m 0)), (1, .ref q), (0, .ref sb)]) K dL_law_255 (by decide) rfl ?_
    refine jk_aload_n K dL_law_257 rfl 4 rfl ?_
    refine jk_cVi K (n' := (nn + 4)) (k' := (ks + 24)) [] [] dL_law_258 (hb_X3_thrown _ hl E (hb_v1 E q b1 b2 [hb_o E ao (vp_updL O 0 (Int32.toInt64 (nI n)))] (va_up C n (hb_fu (hb_fu (hb_fu (C n) 0 (xs (4 * j + 1))) 1 (xs (4 * j + 2))) 2 (xs (4 * j + 3)))) (hb_fu G 0 (nI (n + 1))) M C2 G2 M2) [] m v.1 S v.2.2.2.1 (va_up a 2 v.2.2.2.2) (n + 1) R2.1) gL_law_X3_thrown rfl kd_X3_thrown ⟨Nat.le_of_ble_eq_true rfl, Nat.le_of_ble_eq_true rfl⟩ _ hm_x0 rfl (Nat.le_of_ble_eq_true rfl) ⟨rfl, rfl⟩ ⟨(by show _ ≤ 601024; omega), (by show _ ≤ 7293034; omega)⟩ rfl (fun _ _ => ?_)
    refine jk_st (st' := [.int 0]) (by rw [e1]) ?_
    refine jk_iload K dL_law_261 1 rfl ?_
    refine jk_icmp_eq (tgt := 268) K dL_law_263 rfl (fun c_263 => ?_) (fun c_263 => ?_)
    · refine jk_iload K dL_law_268 1 rfl ?_
      refine jk_if_ne (tgt := 285) K dL_law_270 rfl (fun c_270 => ?_) (fun c_270 => ?_)
      · exact absurd (by decide) c_270
      · refine jk_aload_n K dL_law_273 rfl 3 rfl ?_
        refine jk_iconst (x := 0) K dL_law_274 rfl ?_
        refine jk_lald (v := (Int32.toInt64 (nI n))) K dL_law_275 29 lw_out (vp_in_nI (n := 0) (by decide) (by decide)) (by rw [show Int32.toNatClampNeg 0 = 0 from by decide]; exact if_pos rfl) ?_
        refine jk_iload K dL_law_276 0 rfl ?_
        refine jk_i2l K dL_law_278 ?_
        refine jk_lcmp K dL_law_279 ?_
        refine jk_st (st' := [.int 0]) (by rw [lg_self]) ?_
        refine jk_if_eq (tgt := 285) K dL_law_280 rfl (fun c_280 => ?_) (fun c_280 => ?_)
        · refine jk_goto (tgt := 2155) K dL_law_285 rfl ?_
          refine jk_sub (lv' := [(4, .int (nI (4 * j))), (3, .ref ao), (2, .ref (m 0)), (1, .ref q), (0, .ref sb)]) [2, 3, 4, 5, 6] rfl ?_
          refine jk_wide (n' := nn + 11) (k' := ks + 117) (by omega) (by omega) ?_
          exact kk _ _ _ _ _ _ _ _ _ _ _ _ R2
        · exact absurd (by decide) c_280
    · exact absurd (by decide) c_263
  · refine jk_ws (ws' := (lw_w E q b1 b2 ao m O C G M C2 G2 M2 th n S N a)) lw_eq ?_
    refine jk_st (st' := [.int k]) rfl ?_
    refine jk_istore (lv' := [(5, .int k), (4, .int (nI (4 * j))), (3, .ref ao), (2, .ref (m 0)), (1, .ref q), (0, .ref sb)]) K dL_law_231 (by decide) rfl ?_
    refine jk_aload_n K dL_law_233 rfl 3 rfl ?_
    refine jk_aload_n K dL_law_234 rfl 5 rfl ?_
    refine jk_iload K dL_law_235 1 rfl ?_
    refine jk_iconst (x := 1) K dL_law_237 rfl ?_
    refine jk_iadd K dL_law_238 ?_
    refine jk_xld (v := xs (4 * j + 1)) K XL dL_law_239 (lw_i hj hL (c := 1) (by decide)).1 (congrArg xs (lw_i hj hL (c := 1) (by decide)).2) ?_
    refine jk_aload_n K dL_law_240 rfl 5 rfl ?_
    refine jk_iload K dL_law_241 1 rfl ?_
    refine jk_iconst (x := 2) K dL_law_243 rfl ?_
    refine jk_iadd K dL_law_244 ?_
    refine jk_xld (v := xs (4 * j + 2)) K XL dL_law_245 (lw_i hj hL (c := 2) (by decide)).1 (congrArg xs (lw_i hj hL (c := 2) (by decide)).2) ?_
    refine jk_aload_n K dL_law_246 rfl 5 rfl ?_
    refine jk_iload K dL_law_247 1 rfl ?_
    refine jk_iconst (x := 3) K dL_law_249 rfl ?_
    refine jk_iadd K dL_law_250 ?_
    refine jk_xld (v := xs (4 * j + 3)) K XL dL_law_251 (lw_i hj hL (c := 3) (by decide)).1 (congrArg xs (lw_i hj hL (c := 3) (by decide)).2) ?_
    refine jk_cVi K (n' := (nn + 4)) (k' := (ks + 24)) [.int (xs (4 * j + 1)), .int (xs (4 * j + 2)), .int (xs (4 * j + 3))] [] dL_law_252 (hb_X3_addHill _ hl E (hb_v1 E q b1 b2 [hb_o E ao O] C G M C2 G2 M2) [] m th S N a n R.1 (xs (4 * j + 1)) (xs (4 * j + 2)) (xs (4 * j + 3))) gL_law_X3_addHill rfl kd_X3_addHill ⟨Nat.le_of_ble_eq_true rfl, Nat.le_of_ble_eq_true rfl⟩ _ hm_x0 rfl (Nat.le_of_ble_eq_true rfl) ⟨rfl, rfl⟩ ⟨(by show _ ≤ 601024; omega), (by show _ ≤ 7293034; omega)⟩ rfl (fun v hv => ?_)
    obtain ⟨e1, ek, R2, e3⟩ := lp_addHill_no (k := k) (v := v) R hu hv
    refine jk_ws (ws' := (lw_w E q b1 b2 ao m O C G M C2 G2 M2 v.1 n S v.2.2.2.1 (va_up a 2 v.2.2.2.2))) (by rw [e3]) ?_
    refine jk_st (st' := [.int v.2.1]) rfl ?_
    refine jk_istore (lv' := [(6, .int v.2.1), (5, .int k), (4, .int (nI (4 * j))), (3, .ref ao), (2, .ref (m 0)), (1, .ref q), (0, .ref sb)]) K dL_law_255 (by decide) rfl ?_
    refine jk_aload_n K dL_law_257 rfl 4 rfl ?_
    refine jk_cVi K (n' := (nn + 4)) (k' := (ks + 24)) [] [] dL_law_258 (hb_X3_thrown _ hl E (hb_v1 E q b1 b2 [hb_o E ao O] C G M C2 G2 M2) [] m v.1 S v.2.2.2.1 (va_up a 2 v.2.2.2.2) n R2.1) gL_law_X3_thrown rfl kd_X3_thrown ⟨Nat.le_of_ble_eq_true rfl, Nat.le_of_ble_eq_true rfl⟩ _ hm_x0 rfl (Nat.le_of_ble_eq_true rfl) ⟨rfl, rfl⟩ ⟨(by show _ ≤ 601024; omega), (by show _ ≤ 7293034; omega)⟩ rfl (fun _ _ => ?_)
    refine jk_st (st' := [.int k]) (by rw [e1]) ?_
    refine jk_iload K dL_law_261 1 rfl ?_
    refine jk_icmp_eq (tgt := 268) K dL_law_263 rfl (fun c_263 => ?_) (fun c_263 => ?_)
    · refine jk_iload K dL_law_268 1 rfl ?_
      refine jk_if_ne (tgt := 285) K dL_law_270 rfl (fun c_270 => ?_) (fun c_270 => ?_)
      · refine jk_goto (tgt := 2155) K dL_law_285 rfl ?_
        refine jk_sub (lv' := [(4, .int (nI (4 * j))), (3, .ref ao), (2, .ref (m 0)), (1, .ref q), (0, .ref sb)]) [2, 3, 4, 5, 6] rfl ?_
        refine jk_wide (n' := nn + 11) (k' := ks + 117) (by omega) (by omega) ?_
        exact kk _ _ _ _ _ _ _ _ _ _ _ _ R2
      · exact absurd c_270 ek
    · exact absurd rfl c_263
set_option maxHeartbeats 4000000 in
set_option maxRecDepth 100000 in
theorem lw_c1 {Γ : jk_G} {E : jk_T} (K : jk_C Γ E RL cL_law 9 wsL_law ({ frames := 13, cells := 601024, slots := 7293034, locals := 468 } : Room)) {sb L : Nat} {xs : Nat → Int32} (XL : jk_LX Γ sb L xs) (hL : L ≤ 2048) {j : Nat} (hj : 4 * j + 3 < L) {nn ks : Nat} (hnn : nn + 11 ≤ 601024) (hks : ks + 117 ≤ 7293034) {q : Nat} {b1 b2 : Nat → Nat} {ao : Nat} {m : Nat → Nat} {O : Nat → Int64} {C : Nat → Nat → Int32} {G M : Nat → Int32} {C2 : Nat → Nat → Int32} {G2 M2 : Nat → Int32} {th : Int32} {n : Nat} {S : Nat → Int32} {N a : Nat → Nat → Int32} (R : hm_R n C G M S N a) (kk : ∀ (O : Nat → Int64) (C : Nat → Nat → Int32) (G M : Nat → Int32) (C2 : Nat → Nat → Int32) (G2 M2 : Nat → Int32) (th : Int32) (n : Nat) (S : Nat → Int32) (N a : Nat → Nat → Int32), hm_R n C G M S N a → jk_J Γ E (lw_w E q b1 b2 ao m O C G M C2 G2 M2 th n S N a) (nn + 11) (ks + 117) 2155 [(4, .int (nI (4 * j))), (3, .ref ao), (2, .ref (m 0)), (1, .ref q), (0, .ref sb)] []) : jk_J Γ E (lw_w E q b1 b2 ao m O C G M C2 G2 M2 th n S N a) nn ks 288 [(4, .int (nI (4 * j))), (3, .ref ao), (2, .ref (m 0)), (1, .ref q), (0, .ref sb)] [] := by
  have hl := K.2.2.2.2.2.2.2.2.2.2
  refine jk_aload_n K dL_law_288 rfl 3 rfl ?_
  refine jk_aload_n K dL_law_289 rfl 4 rfl ?_
  refine jk_iload K dL_law_290 0 rfl ?_
  refine jk_iconst (x := 1) K dL_law_292 rfl ?_
  refine jk_iadd K dL_law_293 ?_
  refine jk_xld (v := xs (4 * j + 1)) K XL dL_law_294 (lw_i hj hL (c := 1) (by decide)).1 (congrArg xs (lw_i hj hL (c := 1) (by decide)).2) ?_
  refine jk_aload_n K dL_law_295 rfl 4 rfl ?_
  refine jk_iload K dL_law_296 0 rfl ?_
  refine jk_iconst (x := 2) K dL_law_298 rfl ?_
  refine jk_iadd K dL_law_299 ?_
  refine jk_xld (v := xs (4 * j + 2)) K XL dL_law_300 (lw_i hj hL (c := 2) (by decide)).1 (congrArg xs (lw_i hj hL (c := 2) (by decide)).2) ?_
  refine jk_aload_n K dL_law_301 rfl 4 rfl ?_
  refine jk_iload K dL_law_302 0 rfl ?_
  refine jk_iconst (x := 3) K dL_law_304 rfl ?_
  refine jk_iadd K dL_law_305 ?_
  refine jk_xld (v := xs (4 * j + 3)) K XL dL_law_306 (lw_i hj hL (c := 3) (by decide)).1 (congrArg xs (lw_i hj hL (c := 3) (by decide)).2) ?_
  refine jk_aload_n K dL_law_307 rfl 1 rfl ?_
  refine jk_ws (ws' := (hb_v1 E q b1 b2 (hb_o E ao O :: (hm_MW E m th (nI n) S N a ++ [])) C G M C2 G2 M2)) lw_eq.symm ?_
  refine jk_cSiH K (n' := (nn + 4)) (k' := (ks + 24)) [.ref q, .int (xs (4 * j + 1)), .int (xs (4 * j + 2)), .int (xs (4 * j + 3)), .ref ao] [] dL_law_308 (hb_L_setSight _ hl E q b1 b2 ao O (hm_MW E m th (nI n) S N a ++ []) C G M C2 G2 M2 n R.1 R.2.2.1.1 (xs (4 * j + 1)) (xs (4 * j + 2)) (xs (4 * j + 3))) gL_law_L_setSight rfl kd_L_setSight ⟨Nat.le_of_ble_eq_true rfl, Nat.le_of_ble_eq_true rfl⟩ (Nat.le_of_ble_eq_true rfl) ⟨rfl, rfl⟩ ⟨(by show _ ≤ 601024; omega), (by show _ ≤ 7293034; omega)⟩ rfl (fun u hu => ?_)
  rcases u with u | k
  · refine jk_ws (ws' := (lw_w E q b1 b2 ao m (vp_updL O 0 (Int32.toInt64 (M (u.1 * 10 + u.2)))) C G (upd (upd M (u.1 * 10 + u.2) (xs (4 * j + 3))) (u.2 * 10 + u.1) (xs (4 * j + 3))) C2 G2 M2 th n S N a)) lw_eq ?_
    refine jk_st (st' := [.int 0]) rfl ?_
    refine jk_istore (lv' := [(5, .int 0), (4, .int (nI (4 * j))), (3, .ref ao), (2, .ref (m 0)), (1, .ref q), (0, .ref sb)]) K dL_law_311 (by decide) rfl ?_
    refine jk_aload_n K dL_law_313 rfl 3 rfl ?_
    refine jk_aload_n K dL_law_314 rfl 5 rfl ?_
    refine jk_iload K dL_law_315 1 rfl ?_
    refine jk_iconst (x := 1) K dL_law_317 rfl ?_
    refine jk_iadd K dL_law_318 ?_
    refine jk_xld (v := xs (4 * j + 1)) K XL dL_law_319 (lw_i hj hL (c := 1) (by decide)).1 (congrArg xs (lw_i hj hL (c := 1) (by decide)).2) ?_
    refine jk_aload_n K dL_law_320 rfl 5 rfl ?_
    refine jk_iload K dL_law_321 1 rfl ?_
    refine jk_iconst (x := 2) K dL_law_323 rfl ?_
    refine jk_iadd K dL_law_324 ?_
    refine jk_xld (v := xs (4 * j + 2)) K XL dL_law_325 (lw_i hj hL (c := 2) (by decide)).1 (congrArg xs (lw_i hj hL (c := 2) (by decide)).2) ?_
    refine jk_aload_n K dL_law_326 rfl 5 rfl ?_
    refine jk_iload K dL_law_327 1 rfl ?_
    refine jk_iconst (x := 3) K dL_law_329 rfl ?_
    refine jk_iadd K dL_law_330 ?_
    refine jk_xld (v := xs (4 * j + 3)) K XL dL_law_331 (lw_i hj hL (c := 3) (by decide)).1 (congrArg xs (lw_i hj hL (c := 3) (by decide)).2) ?_
    refine jk_cVi K (n' := (nn + 4)) (k' := (ks + 24)) [.int (xs (4 * j + 1)), .int (xs (4 * j + 2)), .int (xs (4 * j + 3))] [] dL_law_332 (hb_X3_setSight _ hl E (hb_v1 E q b1 b2 [hb_o E ao (vp_updL O 0 (Int32.toInt64 (M (u.1 * 10 + u.2))))] C G (upd (upd M (u.1 * 10 + u.2) (xs (4 * j + 3))) (u.2 * 10 + u.1) (xs (4 * j + 3))) C2 G2 M2) [] m th S N a n R.1 (xs (4 * j + 1)) (xs (4 * j + 2)) (xs (4 * j + 3))) gL_law_X3_setSight rfl kd_X3_setSight ⟨Nat.le_of_ble_eq_true rfl, Nat.le_of_ble_eq_true rfl⟩ _ hm_x0 rfl (Nat.le_of_ble_eq_true rfl) ⟨rfl, rfl⟩ ⟨(by show _ ≤ 601024; omega), (by show _ ≤ 7293034; omega)⟩ rfl (fun v hv => ?_)
    obtain ⟨e1, e2, R2⟩ := lp_setSight_ok (C2 := C2) (G2 := G2) (M2 := M2) (u := u) (v := v) R hu hv
    refine jk_ws (ws' := (lw_w E q b1 b2 ao m (vp_updL O 0 (Int32.toInt64 (M (u.1 * 10 + u.2)))) C G (upd (upd M (u.1 * 10 + u.2) (xs (4 * j + 3))) (u.2 * 10 + u.1) (xs (4 * j + 3))) C2 G2 M2 v.1 n S N (va_up a 5 v.2.2))) rfl ?_
    refine jk_st (st' := [.int (M (u.1 * 10 + u.2))]) (by rw [e2]) ?_
    refine jk_istore (lv' := [(6, .int (M (u.1 * 10 + u.2))), (5, .int 0), (4, .int (nI (4 * j))), (3, .ref ao), (2, .ref (m 0)), (1, .ref q), (0, .ref sb)]) K dL_law_335 (by decide) rfl ?_
    refine jk_aload_n K dL_law_337 rfl 4 rfl ?_
    refine jk_cVi K (n' := (nn + 4)) (k' := (ks + 24)) [] [] dL_law_338 (hb_X3_thrown _ hl E (hb_v1 E q b1 b2 [hb_o E ao (vp_updL O 0 (Int32.toInt64 (M (u.1 * 10 + u.2))))] C G (upd (upd M (u.1 * 10 + u.2) (xs (4 * j + 3))) (u.2 * 10 + u.1) (xs (4 * j + 3))) C2 G2 M2) [] m v.1 S N (va_up a 5 v.2.2) n R2.1) gL_law_X3_thrown rfl kd_X3_thrown ⟨Nat.le_of_ble_eq_true rfl, Nat.le_of_ble_eq_true rfl⟩ _ hm_x0 rfl (Nat.le_of_ble_eq_true rfl) ⟨rfl, rfl⟩ ⟨(by show _ ≤ 601024; omega), (by show _ ≤ 7293034; omega)⟩ rfl (fun _ _ => ?_)
    refine jk_st (st' := [.int 0]) (by rw [e1]) ?_
    refine jk_iload K dL_law_341 1 rfl ?_
    refine jk_icmp_eq (tgt := 348) K dL_law_343 rfl (fun c_343 => ?_) (fun c_343 => ?_)
    · refine jk_iload K dL_law_348 1 rfl ?_
      refine jk_if_ne (tgt := 365) K dL_law_350 rfl (fun c_350 => ?_) (fun c_350 => ?_)
      · exact absurd (by decide) c_350
      · refine jk_aload_n K dL_law_353 rfl 3 rfl ?_
        refine jk_iconst (x := 0) K dL_law_354 rfl ?_
        refine jk_lald (v := (Int32.toInt64 (M (u.1 * 10 + u.2)))) K dL_law_355 29 lw_out (vp_in_nI (n := 0) (by decide) (by decide)) (by rw [show Int32.toNatClampNeg 0 = 0 from by decide]; exact if_pos rfl) ?_
        refine jk_iload K dL_law_356 0 rfl ?_
        refine jk_i2l K dL_law_358 ?_
        refine jk_lcmp K dL_law_359 ?_
        refine jk_st (st' := [.int 0]) (by rw [lg_self]) ?_
        refine jk_if_eq (tgt := 365) K dL_law_360 rfl (fun c_360 => ?_) (fun c_360 => ?_)
        · refine jk_goto (tgt := 2155) K dL_law_365 rfl ?_
          refine jk_sub (lv' := [(4, .int (nI (4 * j))), (3, .ref ao), (2, .ref (m 0)), (1, .ref q), (0, .ref sb)]) [2, 3, 4, 5, 6] rfl ?_
          refine jk_wide (n' := nn + 11) (k' := ks + 117) (by omega) (by omega) ?_
          exact kk _ _ _ _ _ _ _ _ _ _ _ _ R2
        · exact absurd (by decide) c_360
    · exact absurd (by decide) c_343
  · refine jk_ws (ws' := (lw_w E q b1 b2 ao m O C G M C2 G2 M2 th n S N a)) lw_eq ?_
    refine jk_st (st' := [.int k]) rfl ?_
    refine jk_istore (lv' := [(5, .int k), (4, .int (nI (4 * j))), (3, .ref ao), (2, .ref (m 0)), (1, .ref q), (0, .ref sb)]) K dL_law_311 (by decide) rfl ?_
    refine jk_aload_n K dL_law_313 rfl 3 rfl ?_
    refine jk_aload_n K dL_law_314 rfl 5 rfl ?_
    refine jk_iload K dL_law_315 1 rfl ?_
    refine jk_iconst (x := 1) K dL_law_317 rfl ?_
    refine jk_iadd K dL_law_318 ?_
    refine jk_xld (v := xs (4 * j + 1)) K XL dL_law_319 (lw_i hj hL (c := 1) (by decide)).1 (congrArg xs (lw_i hj hL (c := 1) (by decide)).2) ?_
    refine jk_aload_n K dL_law_320 rfl 5 rfl ?_
    refine jk_iload K dL_law_321 1 rfl ?_
    refine jk_iconst (x := 2) K dL_law_323 rfl ?_
    refine jk_iadd K dL_law_324 ?_
    refine jk_xld (v := xs (4 * j + 2)) K XL dL_law_325 (lw_i hj hL (c := 2) (by decide)).1 (congrArg xs (lw_i hj hL (c := 2) (by decide)).2) ?_
    refine jk_aload_n K dL_law_326 rfl 5 rfl ?_
    refine jk_iload K dL_law_327 1 rfl ?_
    refine jk_iconst (x := 3) K dL_law_329 rfl ?_
    refine jk_iadd K dL_law_330 ?_
    refine jk_xld (v := xs (4 * j + 3)) K XL dL_law_331 (lw_i hj hL (c := 3) (by decide)).1 (congrArg xs (lw_i hj hL (c := 3) (by decide)).2) ?_
    refine jk_cVi K (n' := (nn + 4)) (k' := (ks + 24)) [.int (xs (4 * j + 1)), .int (xs (4 * j + 2)), .int (xs (4 * j + 3))] [] dL_law_332 (hb_X3_setSight _ hl E (hb_v1 E q b1 b2 [hb_o E ao O] C G M C2 G2 M2) [] m th S N a n R.1 (xs (4 * j + 1)) (xs (4 * j + 2)) (xs (4 * j + 3))) gL_law_X3_setSight rfl kd_X3_setSight ⟨Nat.le_of_ble_eq_true rfl, Nat.le_of_ble_eq_true rfl⟩ _ hm_x0 rfl (Nat.le_of_ble_eq_true rfl) ⟨rfl, rfl⟩ ⟨(by show _ ≤ 601024; omega), (by show _ ≤ 7293034; omega)⟩ rfl (fun v hv => ?_)
    obtain ⟨e1, ek, R2⟩ := lp_setSight_no (k := k) (v := v) R hu hv
    refine jk_ws (ws' := (lw_w E q b1 b2 ao m O C G M C2 G2 M2 v.1 n S N (va_up a 5 v.2.2))) rfl ?_
    refine jk_st (st' := [.int v.2.1]) rfl ?_
    refine jk_istore (lv' := [(6, .int v.2.1), (5, .int k), (4, .int (nI (4 * j))), (3, .ref ao), (2, .ref (m 0)), (1, .ref q), (0, .ref sb)]) K dL_law_335 (by decide) rfl ?_
    refine jk_aload_n K dL_law_337 rfl 4 rfl ?_
    refine jk_cVi K (n' := (nn + 4)) (k' := (ks + 24)) [] [] dL_law_338 (hb_X3_thrown _ hl E (hb_v1 E q b1 b2 [hb_o E ao O] C G M C2 G2 M2) [] m v.1 S N (va_up a 5 v.2.2) n R2.1) gL_law_X3_thrown rfl kd_X3_thrown ⟨Nat.le_of_ble_eq_true rfl, Nat.le_of_ble_eq_true rfl⟩ _ hm_x0 rfl (Nat.le_of_ble_eq_true rfl) ⟨rfl, rfl⟩ ⟨(by show _ ≤ 601024; omega), (by show _ ≤ 7293034; omega)⟩ rfl (fun _ _ => ?_)
    refine jk_st (st' := [.int k]) (by rw [e1]) ?_
    refine jk_iload K dL_law_341 1 rfl ?_
    refine jk_icmp_eq (tgt := 348) K dL_law_343 rfl (fun c_343 => ?_) (fun c_343 => ?_)
    · refine jk_iload K dL_law_348 1 rfl ?_
      refine jk_if_ne (tgt := 365) K dL_law_350 rfl (fun c_350 => ?_) (fun c_350 => ?_)
      · refine jk_goto (tgt := 2155) K dL_law_365 rfl ?_
        refine jk_sub (lv' := [(4, .int (nI (4 * j))), (3, .ref ao), (2, .ref (m 0)), (1, .ref q), (0, .ref sb)]) [2, 3, 4, 5, 6] rfl ?_
        refine jk_wide (n' := nn + 11) (k' := ks + 117) (by omega) (by omega) ?_
        exact kk _ _ _ _ _ _ _ _ _ _ _ _ R2
      · exact absurd c_350 ek
    · exact absurd rfl c_343
set_option maxHeartbeats 4000000 in
set_option maxRecDepth 100000 in
theorem lw_c2 {Γ : jk_G} {E : jk_T} (K : jk_C Γ E RL cL_law 9 wsL_law ({ frames := 13, cells := 601024, slots := 7293034, locals := 468 } : Room)) {sb L : Nat} {xs : Nat → Int32} (XL : jk_LX Γ sb L xs) (hL : L ≤ 2048) {j : Nat} (hj : 4 * j + 3 < L) {nn ks : Nat} (hnn : nn + 11 ≤ 601024) (hks : ks + 117 ≤ 7293034) {q : Nat} {b1 b2 : Nat → Nat} {ao : Nat} {m : Nat → Nat} {O : Nat → Int64} {C : Nat → Nat → Int32} {G M : Nat → Int32} {C2 : Nat → Nat → Int32} {G2 M2 : Nat → Int32} {th : Int32} {n : Nat} {S : Nat → Int32} {N a : Nat → Nat → Int32} (R : hm_R n C G M S N a) (kk : ∀ (O : Nat → Int64) (C : Nat → Nat → Int32) (G M : Nat → Int32) (C2 : Nat → Nat → Int32) (G2 M2 : Nat → Int32) (th : Int32) (n : Nat) (S : Nat → Int32) (N a : Nat → Nat → Int32), hm_R n C G M S N a → jk_J Γ E (lw_w E q b1 b2 ao m O C G M C2 G2 M2 th n S N a) (nn + 11) (ks + 117) 2155 [(4, .int (nI (4 * j))), (3, .ref ao), (2, .ref (m 0)), (1, .ref q), (0, .ref sb)] []) : jk_J Γ E (lw_w E q b1 b2 ao m O C G M C2 G2 M2 th n S N a) nn ks 368 [(4, .int (nI (4 * j))), (3, .ref ao), (2, .ref (m 0)), (1, .ref q), (0, .ref sb)] [] := by
  have hl := K.2.2.2.2.2.2.2.2.2.2
  refine jk_aload_n K dL_law_368 rfl 3 rfl ?_
  refine jk_aload_n K dL_law_369 rfl 4 rfl ?_
  refine jk_iload K dL_law_370 0 rfl ?_
  refine jk_iconst (x := 1) K dL_law_372 rfl ?_
  refine jk_iadd K dL_law_373 ?_
  refine jk_xld (v := xs (4 * j + 1)) K XL dL_law_374 (lw_i hj hL (c := 1) (by decide)).1 (congrArg xs (lw_i hj hL (c := 1) (by decide)).2) ?_
  refine jk_aload_n K dL_law_375 rfl 1 rfl ?_
  refine jk_ws (ws' := (hb_v1 E q b1 b2 (hb_o E ao O :: (hm_MW E m th (nI n) S N a ++ [])) C G M C2 G2 M2)) lw_eq.symm ?_
  refine jk_cSiH K (n' := (nn + 1)) (k' := (ks + 6)) [.ref q, .int (xs (4 * j + 1)), .ref ao] [] dL_law_376 (hb_L_turnEast _ hl E q b1 b2 ao O (hm_MW E m th (nI n) S N a ++ []) C G M C2 G2 M2 n R.1 R.2.2.1.1 (xs (4 * j + 1))) gL_law_L_turnEast rfl kd_L_turnEast ⟨Nat.le_of_ble_eq_true rfl, Nat.le_of_ble_eq_true rfl⟩ (Nat.le_of_ble_eq_true rfl) ⟨rfl, rfl⟩ ⟨(by show _ ≤ 601024; omega), (by show _ ≤ 7293034; omega)⟩ rfl (fun u hu => ?_)
  rcases u with u | k
  · refine jk_ws (ws' := (lw_w E q b1 b2 ao m (vp_updL O 0 (if (hb_neg (C u 3) : Int32) = 0 then (0 : Int64) else 1)) (va_up C u (hb_fu (C u) 3 (hb_neg (C u 3)))) G M C2 G2 M2 th n S N a)) lw_eq ?_
    refine jk_st (st' := [.int 0]) rfl ?_
    refine jk_istore (lv' := [(5, .int 0), (4, .int (nI (4 * j))), (3, .ref ao), (2, .ref (m 0)), (1, .ref q), (0, .ref sb)]) K dL_law_379 (by decide) rfl ?_
    refine jk_aload_n K dL_law_381 rfl 3 rfl ?_
    refine jk_aload_n K dL_law_382 rfl 5 rfl ?_
    refine jk_iload K dL_law_383 1 rfl ?_
    refine jk_iconst (x := 1) K dL_law_385 rfl ?_
    refine jk_iadd K dL_law_386 ?_
    refine jk_xld (v := xs (4 * j + 1)) K XL dL_law_387 (lw_i hj hL (c := 1) (by decide)).1 (congrArg xs (lw_i hj hL (c := 1) (by decide)).2) ?_
    refine jk_cVi K (n' := (nn + 1)) (k' := (ks + 6)) [.int (xs (4 * j + 1))] [] dL_law_388 (hb_X3_turnEast _ hl E (hb_v1 E q b1 b2 [hb_o E ao (vp_updL O 0 (if (hb_neg (C u 3) : Int32) = 0 then (0 : Int64) else 1))] (va_up C u (hb_fu (C u) 3 (hb_neg (C u 3)))) G M C2 G2 M2) [] m th S N a n R.1 (xs (4 * j + 1))) gL_law_X3_turnEast rfl kd_X3_turnEast ⟨Nat.le_of_ble_eq_true rfl, Nat.le_of_ble_eq_true rfl⟩ _ hm_x0 rfl (Nat.le_of_ble_eq_true rfl) ⟨rfl, rfl⟩ ⟨(by show _ ≤ 601024; omega), (by show _ ≤ 7293034; omega)⟩ rfl (fun v hv => ?_)
    obtain ⟨e1, e2, R2⟩ := lp_turnEast_ok (C2 := C2) (G2 := G2) (M2 := M2) (u := u) (v := v) R hu hv
    refine jk_ws (ws' := (lw_w E q b1 b2 ao m (vp_updL O 0 (if (hb_neg (C u 3) : Int32) = 0 then (0 : Int64) else 1)) (va_up C u (hb_fu (C u) 3 (hb_neg (C u 3)))) G M C2 G2 M2 v.1 n S N (va_up a 3 v.2.2))) rfl ?_
    refine jk_st (st' := [.int (hb_neg (C u 3))]) (by rw [e2]) ?_
    refine jk_istore (lv' := [(6, .int (hb_neg (C u 3))), (5, .int 0), (4, .int (nI (4 * j))), (3, .ref ao), (2, .ref (m 0)), (1, .ref q), (0, .ref sb)]) K dL_law_391 (by decide) rfl ?_
    refine jk_aload_n K dL_law_393 rfl 4 rfl ?_
    refine jk_cVi K (n' := (nn + 1)) (k' := (ks + 6)) [] [] dL_law_394 (hb_X3_thrown _ hl E (hb_v1 E q b1 b2 [hb_o E ao (vp_updL O 0 (if (hb_neg (C u 3) : Int32) = 0 then (0 : Int64) else 1))] (va_up C u (hb_fu (C u) 3 (hb_neg (C u 3)))) G M C2 G2 M2) [] m v.1 S N (va_up a 3 v.2.2) n R2.1) gL_law_X3_thrown rfl kd_X3_thrown ⟨Nat.le_of_ble_eq_true rfl, Nat.le_of_ble_eq_true rfl⟩ _ hm_x0 rfl (Nat.le_of_ble_eq_true rfl) ⟨rfl, rfl⟩ ⟨(by show _ ≤ 601024; omega), (by show _ ≤ 7293034; omega)⟩ rfl (fun _ _ => ?_)
    refine jk_st (st' := [.int 0]) (by rw [e1]) ?_
    refine jk_iload K dL_law_397 1 rfl ?_
    refine jk_icmp_eq (tgt := 404) K dL_law_399 rfl (fun c_399 => ?_) (fun c_399 => ?_)
    · refine jk_iload K dL_law_404 1 rfl ?_
      refine jk_if_ne (tgt := 428) K dL_law_406 rfl (fun c_406 => ?_) (fun c_406 => ?_)
      · exact absurd (by decide) c_406
      · refine jk_aload_n K dL_law_409 rfl 3 rfl ?_
        refine jk_iconst (x := 0) K dL_law_410 rfl ?_
        refine jk_lald (v := (if (hb_neg (C u 3) : Int32) = 0 then (0 : Int64) else 1)) K dL_law_411 29 lw_out (vp_in_nI (n := 0) (by decide) (by decide)) (by rw [show Int32.toNatClampNeg 0 = 0 from by decide]; exact if_pos rfl) ?_
        refine jk_iload K dL_law_412 0 rfl ?_
        refine jk_if_eq (tgt := 421) K dL_law_414 rfl (fun c_414 => ?_) (fun c_414 => ?_)
        · refine jk_lconst (x := 0) K dL_law_421 rfl ?_
          refine jk_lcmp K dL_law_422 ?_
          refine jk_st (st' := [.int 0]) (by rw [if_pos c_414, lg_self]) ?_
          refine jk_if_eq (tgt := 428) K dL_law_423 rfl (fun c_423 => ?_) (fun c_423 => ?_)
          · refine jk_goto (tgt := 2155) K dL_law_428 rfl ?_
            refine jk_sub (lv' := [(4, .int (nI (4 * j))), (3, .ref ao), (2, .ref (m 0)), (1, .ref q), (0, .ref sb)]) [2, 3, 4, 5, 6] rfl ?_
            refine jk_wide (n' := nn + 11) (k' := ks + 117) (by omega) (by omega) ?_
            exact kk _ _ _ _ _ _ _ _ _ _ _ _ R2
          · exact absurd (by decide) c_423
        · refine jk_lconst (x := 1) K dL_law_417 rfl ?_
          refine jk_goto (tgt := 422) K dL_law_418 rfl ?_
          refine jk_lcmp K dL_law_422 ?_
          refine jk_st (st' := [.int 0]) (by rw [if_neg c_414, lg_self]) ?_
          refine jk_if_eq (tgt := 428) K dL_law_423 rfl (fun c_423 => ?_) (fun c_423 => ?_)
          · refine jk_goto (tgt := 2155) K dL_law_428 rfl ?_
            refine jk_sub (lv' := [(4, .int (nI (4 * j))), (3, .ref ao), (2, .ref (m 0)), (1, .ref q), (0, .ref sb)]) [2, 3, 4, 5, 6] rfl ?_
            refine jk_wide (n' := nn + 11) (k' := ks + 117) (by omega) (by omega) ?_
            exact kk _ _ _ _ _ _ _ _ _ _ _ _ R2
          · exact absurd (by decide) c_423
    · exact absurd (by decide) c_399
  · refine jk_ws (ws' := (lw_w E q b1 b2 ao m O C G M C2 G2 M2 th n S N a)) lw_eq ?_
    refine jk_st (st' := [.int k]) rfl ?_
    refine jk_istore (lv' := [(5, .int k), (4, .int (nI (4 * j))), (3, .ref ao), (2, .ref (m 0)), (1, .ref q), (0, .ref sb)]) K dL_law_379 (by decide) rfl ?_
    refine jk_aload_n K dL_law_381 rfl 3 rfl ?_
    refine jk_aload_n K dL_law_382 rfl 5 rfl ?_
    refine jk_iload K dL_law_383 1 rfl ?_
    refine jk_iconst (x := 1) K dL_law_385 rfl ?_
    refine jk_iadd K dL_law_386 ?_
    refine jk_xld (v := xs (4 * j + 1)) K XL dL_law_387 (lw_i hj hL (c := 1) (by decide)).1 (congrArg xs (lw_i hj hL (c := 1) (by decide)).2) ?_
    refine jk_cVi K (n' := (nn + 1)) (k' := (ks + 6)) [.int (xs (4 * j + 1))] [] dL_law_388 (hb_X3_turnEast _ hl E (hb_v1 E q b1 b2 [hb_o E ao O] C G M C2 G2 M2) [] m th S N a n R.1 (xs (4 * j + 1))) gL_law_X3_turnEast rfl kd_X3_turnEast ⟨Nat.le_of_ble_eq_true rfl, Nat.le_of_ble_eq_true rfl⟩ _ hm_x0 rfl (Nat.le_of_ble_eq_true rfl) ⟨rfl, rfl⟩ ⟨(by show _ ≤ 601024; omega), (by show _ ≤ 7293034; omega)⟩ rfl (fun v hv => ?_)
    obtain ⟨e1, ek, R2⟩ := lp_turnEast_no (k := k) (v := v) R hu hv
    refine jk_ws (ws' := (lw_w E q b1 b2 ao m O C G M C2 G2 M2 v.1 n S N (va_up a 3 v.2.2))) rfl ?_
    refine jk_st (st' := [.int v.2.1]) rfl ?_
    refine jk_istore (lv' := [(6, .int v.2.1), (5, .int k), (4, .int (nI (4 * j))), (3, .ref ao), (2, .ref (m 0)), (1, .ref q), (0, .ref sb)]) K dL_law_391 (by decide) rfl ?_
    refine jk_aload_n K dL_law_393 rfl 4 rfl ?_
    refine jk_cVi K (n' := (nn + 1)) (k' := (ks + 6)) [] [] dL_law_394 (hb_X3_thrown _ hl E (hb_v1 E q b1 b2 [hb_o E ao O] C G M C2 G2 M2) [] m v.1 S N (va_up a 3 v.2.2) n R2.1) gL_law_X3_thrown rfl kd_X3_thrown ⟨Nat.le_of_ble_eq_true rfl, Nat.le_of_ble_eq_true rfl⟩ _ hm_x0 rfl (Nat.le_of_ble_eq_true rfl) ⟨rfl, rfl⟩ ⟨(by show _ ≤ 601024; omega), (by show _ ≤ 7293034; omega)⟩ rfl (fun _ _ => ?_)
    refine jk_st (st' := [.int k]) (by rw [e1]) ?_
    refine jk_iload K dL_law_397 1 rfl ?_
    refine jk_icmp_eq (tgt := 404) K dL_law_399 rfl (fun c_399 => ?_) (fun c_399 => ?_)
    · refine jk_iload K dL_law_404 1 rfl ?_
      refine jk_if_ne (tgt := 428) K dL_law_406 rfl (fun c_406 => ?_) (fun c_406 => ?_)
      · refine jk_goto (tgt := 2155) K dL_law_428 rfl ?_
        refine jk_sub (lv' := [(4, .int (nI (4 * j))), (3, .ref ao), (2, .ref (m 0)), (1, .ref q), (0, .ref sb)]) [2, 3, 4, 5, 6] rfl ?_
        refine jk_wide (n' := nn + 11) (k' := ks + 117) (by omega) (by omega) ?_
        exact kk _ _ _ _ _ _ _ _ _ _ _ _ R2
      · exact absurd c_406 ek
    · exact absurd rfl c_399
set_option maxHeartbeats 4000000 in
set_option maxRecDepth 100000 in
theorem lw_c3 {Γ : jk_G} {E : jk_T} (K : jk_C Γ E RL cL_law 9 wsL_law ({ frames := 13, cells := 601024, slots := 7293034, locals := 468 } : Room)) {sb L : Nat} {xs : Nat → Int32} (XL : jk_LX Γ sb L xs) (hL : L ≤ 2048) {j : Nat} (hj : 4 * j + 3 < L) {nn ks : Nat} (hnn : nn + 11 ≤ 601024) (hks : ks + 117 ≤ 7293034) {q : Nat} {b1 b2 : Nat → Nat} {ao : Nat} {m : Nat → Nat} {O : Nat → Int64} {C : Nat → Nat → Int32} {G M : Nat → Int32} {C2 : Nat → Nat → Int32} {G2 M2 : Nat → Int32} {th : Int32} {n : Nat} {S : Nat → Int32} {N a : Nat → Nat → Int32} (R : hm_R n C G M S N a) (kk : ∀ (O : Nat → Int64) (C : Nat → Nat → Int32) (G M : Nat → Int32) (C2 : Nat → Nat → Int32) (G2 M2 : Nat → Int32) (th : Int32) (n : Nat) (S : Nat → Int32) (N a : Nat → Nat → Int32), hm_R n C G M S N a → jk_J Γ E (lw_w E q b1 b2 ao m O C G M C2 G2 M2 th n S N a) (nn + 11) (ks + 117) 2155 [(4, .int (nI (4 * j))), (3, .ref ao), (2, .ref (m 0)), (1, .ref q), (0, .ref sb)] []) : jk_J Γ E (lw_w E q b1 b2 ao m O C G M C2 G2 M2 th n S N a) nn ks 431 [(4, .int (nI (4 * j))), (3, .ref ao), (2, .ref (m 0)), (1, .ref q), (0, .ref sb)] [] := by
  have hl := K.2.2.2.2.2.2.2.2.2.2
  refine jk_aload_n K dL_law_431 rfl 3 rfl ?_
  refine jk_aload_n K dL_law_432 rfl 4 rfl ?_
  refine jk_iload K dL_law_433 0 rfl ?_
  refine jk_iconst (x := 1) K dL_law_435 rfl ?_
  refine jk_iadd K dL_law_436 ?_
  refine jk_xld (v := xs (4 * j + 1)) K XL dL_law_437 (lw_i hj hL (c := 1) (by decide)).1 (congrArg xs (lw_i hj hL (c := 1) (by decide)).2) ?_
  refine jk_aload_n K dL_law_438 rfl 1 rfl ?_
  refine jk_ws (ws' := (hb_v1 E q b1 b2 (hb_o E ao O :: (hm_MW E m th (nI n) S N a ++ [])) C G M C2 G2 M2)) lw_eq.symm ?_
  refine jk_cSiH K (n' := (nn + 1)) (k' := (ks + 6)) [.ref q, .int (xs (4 * j + 1)), .ref ao] [] dL_law_439 (hb_L_turnPost _ hl E q b1 b2 ao O (hm_MW E m th (nI n) S N a ++ []) C G M C2 G2 M2 n R.1 R.2.2.1.1 (xs (4 * j + 1))) gL_law_L_turnPost rfl kd_L_turnPost ⟨Nat.le_of_ble_eq_true rfl, Nat.le_of_ble_eq_true rfl⟩ (Nat.le_of_ble_eq_true rfl) ⟨rfl, rfl⟩ ⟨(by show _ ≤ 601024; omega), (by show _ ≤ 7293034; omega)⟩ rfl (fun u hu => ?_)
  rcases u with u | k
  · refine jk_ws (ws' := (lw_w E q b1 b2 ao m (vp_updL O 0 (if (hb_neg (C u 4) : Int32) = 0 then (0 : Int64) else 1)) (va_up C u (hb_fu (C u) 4 (hb_neg (C u 4)))) G M C2 G2 M2 th n S N a)) lw_eq ?_
    refine jk_st (st' := [.int 0]) rfl ?_
    refine jk_istore (lv' := [(5, .int 0), (4, .int (nI (4 * j))), (3, .ref ao), (2, .ref (m 0)), (1, .ref q), (0, .ref sb)]) K dL_law_442 (by decide) rfl ?_
    refine jk_aload_n K dL_law_444 rfl 3 rfl ?_
    refine jk_aload_n K dL_law_445 rfl 5 rfl ?_
    refine jk_iload K dL_law_446 1 rfl ?_
    refine jk_iconst (x := 1) K dL_law_448 rfl ?_
    refine jk_iadd K dL_law_449 ?_
    refine jk_xld (v := xs (4 * j + 1)) K XL dL_law_450 (lw_i hj hL (c := 1) (by decide)).1 (congrArg xs (lw_i hj hL (c := 1) (by decide)).2) ?_
    refine jk_cVi K (n' := (nn + 1)) (k' := (ks + 6)) [.int (xs (4 * j + 1))] [] dL_law_451 (hb_X3_turnPost _ hl E (hb_v1 E q b1 b2 [hb_o E ao (vp_updL O 0 (if (hb_neg (C u 4) : Int32) = 0 then (0 : Int64) else 1))] (va_up C u (hb_fu (C u) 4 (hb_neg (C u 4)))) G M C2 G2 M2) [] m th S N a n R.1 (xs (4 * j + 1))) gL_law_X3_turnPost rfl kd_X3_turnPost ⟨Nat.le_of_ble_eq_true rfl, Nat.le_of_ble_eq_true rfl⟩ _ hm_x0 rfl (Nat.le_of_ble_eq_true rfl) ⟨rfl, rfl⟩ ⟨(by show _ ≤ 601024; omega), (by show _ ≤ 7293034; omega)⟩ rfl (fun v hv => ?_)
    obtain ⟨e1, e2, R2⟩ := lp_turnPost_ok (C2 := C2) (G2 := G2) (M2 := M2) (u := u) (v := v) R hu hv
    refine jk_ws (ws' := (lw_w E q b1 b2 ao m (vp_updL O 0 (if (hb_neg (C u 4) : Int32) = 0 then (0 : Int64) else 1)) (va_up C u (hb_fu (C u) 4 (hb_neg (C u 4)))) G M C2 G2 M2 v.1 n S N (va_up a 4 v.2.2))) rfl ?_
    refine jk_st (st' := [.int (hb_neg (C u 4))]) (by rw [e2]) ?_
    refine jk_istore (lv' := [(6, .int (hb_neg (C u 4))), (5, .int 0), (4, .int (nI (4 * j))), (3, .ref ao), (2, .ref (m 0)), (1, .ref q), (0, .ref sb)]) K dL_law_454 (by decide) rfl ?_
    refine jk_aload_n K dL_law_456 rfl 4 rfl ?_
    refine jk_cVi K (n' := (nn + 1)) (k' := (ks + 6)) [] [] dL_law_457 (hb_X3_thrown _ hl E (hb_v1 E q b1 b2 [hb_o E ao (vp_updL O 0 (if (hb_neg (C u 4) : Int32) = 0 then (0 : Int64) else 1))] (va_up C u (hb_fu (C u) 4 (hb_neg (C u 4)))) G M C2 G2 M2) [] m v.1 S N (va_up a 4 v.2.2) n R2.1) gL_law_X3_thrown rfl kd_X3_thrown ⟨Nat.le_of_ble_eq_true rfl, Nat.le_of_ble_eq_true rfl⟩ _ hm_x0 rfl (Nat.le_of_ble_eq_true rfl) ⟨rfl, rfl⟩ ⟨(by show _ ≤ 601024; omega), (by show _ ≤ 7293034; omega)⟩ rfl (fun _ _ => ?_)
    refine jk_st (st' := [.int 0]) (by rw [e1]) ?_
    refine jk_iload K dL_law_460 1 rfl ?_
    refine jk_icmp_eq (tgt := 467) K dL_law_462 rfl (fun c_462 => ?_) (fun c_462 => ?_)
    · refine jk_iload K dL_law_467 1 rfl ?_
      refine jk_if_ne (tgt := 491) K dL_law_469 rfl (fun c_469 => ?_) (fun c_469 => ?_)
      · exact absurd (by decide) c_469
      · refine jk_aload_n K dL_law_472 rfl 3 rfl ?_
        refine jk_iconst (x := 0) K dL_law_473 rfl ?_
        refine jk_lald (v := (if (hb_neg (C u 4) : Int32) = 0 then (0 : Int64) else 1)) K dL_law_474 29 lw_out (vp_in_nI (n := 0) (by decide) (by decide)) (by rw [show Int32.toNatClampNeg 0 = 0 from by decide]; exact if_pos rfl) ?_
        refine jk_iload K dL_law_475 0 rfl ?_
        refine jk_if_eq (tgt := 484) K dL_law_477 rfl (fun c_477 => ?_) (fun c_477 => ?_)
        · refine jk_lconst (x := 0) K dL_law_484 rfl ?_
          refine jk_lcmp K dL_law_485 ?_
          refine jk_st (st' := [.int 0]) (by rw [if_pos c_477, lg_self]) ?_
          refine jk_if_eq (tgt := 491) K dL_law_486 rfl (fun c_486 => ?_) (fun c_486 => ?_)
          · refine jk_goto (tgt := 2155) K dL_law_491 rfl ?_
            refine jk_sub (lv' := [(4, .int (nI (4 * j))), (3, .ref ao), (2, .ref (m 0)), (1, .ref q), (0, .ref sb)]) [2, 3, 4, 5, 6] rfl ?_
            refine jk_wide (n' := nn + 11) (k' := ks + 117) (by omega) (by omega) ?_
            exact kk _ _ _ _ _ _ _ _ _ _ _ _ R2
          · exact absurd (by decide) c_486
        · refine jk_lconst (x := 1) K dL_law_480 rfl ?_
          refine jk_goto (tgt := 485) K dL_law_481 rfl ?_
          refine jk_lcmp K dL_law_485 ?_
          refine jk_st (st' := [.int 0]) (by rw [if_neg c_477, lg_self]) ?_
          refine jk_if_eq (tgt := 491) K dL_law_486 rfl (fun c_486 => ?_) (fun c_486 => ?_)
          · refine jk_goto (tgt := 2155) K dL_law_491 rfl ?_
            refine jk_sub (lv' := [(4, .int (nI (4 * j))), (3, .ref ao), (2, .ref (m 0)), (1, .ref q), (0, .ref sb)]) [2, 3, 4, 5, 6] rfl ?_
            refine jk_wide (n' := nn + 11) (k' := ks + 117) (by omega) (by omega) ?_
            exact kk _ _ _ _ _ _ _ _ _ _ _ _ R2
          · exact absurd (by decide) c_486
    · exact absurd (by decide) c_462
  · refine jk_ws (ws' := (lw_w E q b1 b2 ao m O C G M C2 G2 M2 th n S N a)) lw_eq ?_
    refine jk_st (st' := [.int k]) rfl ?_
    refine jk_istore (lv' := [(5, .int k), (4, .int (nI (4 * j))), (3, .ref ao), (2, .ref (m 0)), (1, .ref q), (0, .ref sb)]) K dL_law_442 (by decide) rfl ?_
    refine jk_aload_n K dL_law_444 rfl 3 rfl ?_
    refine jk_aload_n K dL_law_445 rfl 5 rfl ?_
    refine jk_iload K dL_law_446 1 rfl ?_
    refine jk_iconst (x := 1) K dL_law_448 rfl ?_
    refine jk_iadd K dL_law_449 ?_
    refine jk_xld (v := xs (4 * j + 1)) K XL dL_law_450 (lw_i hj hL (c := 1) (by decide)).1 (congrArg xs (lw_i hj hL (c := 1) (by decide)).2) ?_
    refine jk_cVi K (n' := (nn + 1)) (k' := (ks + 6)) [.int (xs (4 * j + 1))] [] dL_law_451 (hb_X3_turnPost _ hl E (hb_v1 E q b1 b2 [hb_o E ao O] C G M C2 G2 M2) [] m th S N a n R.1 (xs (4 * j + 1))) gL_law_X3_turnPost rfl kd_X3_turnPost ⟨Nat.le_of_ble_eq_true rfl, Nat.le_of_ble_eq_true rfl⟩ _ hm_x0 rfl (Nat.le_of_ble_eq_true rfl) ⟨rfl, rfl⟩ ⟨(by show _ ≤ 601024; omega), (by show _ ≤ 7293034; omega)⟩ rfl (fun v hv => ?_)
    obtain ⟨e1, ek, R2⟩ := lp_turnPost_no (k := k) (v := v) R hu hv
    refine jk_ws (ws' := (lw_w E q b1 b2 ao m O C G M C2 G2 M2 v.1 n S N (va_up a 4 v.2.2))) rfl ?_
    refine jk_st (st' := [.int v.2.1]) rfl ?_
    refine jk_istore (lv' := [(6, .int v.2.1), (5, .int k), (4, .int (nI (4 * j))), (3, .ref ao), (2, .ref (m 0)), (1, .ref q), (0, .ref sb)]) K dL_law_454 (by decide) rfl ?_
    refine jk_aload_n K dL_law_456 rfl 4 rfl ?_
    refine jk_cVi K (n' := (nn + 1)) (k' := (ks + 6)) [] [] dL_law_457 (hb_X3_thrown _ hl E (hb_v1 E q b1 b2 [hb_o E ao O] C G M C2 G2 M2) [] m v.1 S N (va_up a 4 v.2.2) n R2.1) gL_law_X3_thrown rfl kd_X3_thrown ⟨Nat.le_of_ble_eq_true rfl, Nat.le_of_ble_eq_true rfl⟩ _ hm_x0 rfl (Nat.le_of_ble_eq_true rfl) ⟨rfl, rfl⟩ ⟨(by show _ ≤ 601024; omega), (by show _ ≤ 7293034; omega)⟩ rfl (fun _ _ => ?_)
    refine jk_st (st' := [.int k]) (by rw [e1]) ?_
    refine jk_iload K dL_law_460 1 rfl ?_
    refine jk_icmp_eq (tgt := 467) K dL_law_462 rfl (fun c_462 => ?_) (fun c_462 => ?_)
    · refine jk_iload K dL_law_467 1 rfl ?_
      refine jk_if_ne (tgt := 491) K dL_law_469 rfl (fun c_469 => ?_) (fun c_469 => ?_)
      · refine jk_goto (tgt := 2155) K dL_law_491 rfl ?_
        refine jk_sub (lv' := [(4, .int (nI (4 * j))), (3, .ref ao), (2, .ref (m 0)), (1, .ref q), (0, .ref sb)]) [2, 3, 4, 5, 6] rfl ?_
        refine jk_wide (n' := nn + 11) (k' := ks + 117) (by omega) (by omega) ?_
        exact kk _ _ _ _ _ _ _ _ _ _ _ _ R2
      · exact absurd c_469 ek
    · exact absurd rfl c_462
set_option maxHeartbeats 4000000 in
set_option maxRecDepth 100000 in
theorem lw_c4 {Γ : jk_G} {E : jk_T} (K : jk_C Γ E RL cL_law 9 wsL_law ({ frames := 13, cells := 601024, slots := 7293034, locals := 468 } : Room)) {sb L : Nat} {xs : Nat → Int32} (XL : jk_LX Γ sb L xs) (hL : L ≤ 2048) {j : Nat} (hj : 4 * j + 3 < L) {nn ks : Nat} (hnn : nn + 11 ≤ 601024) (hks : ks + 117 ≤ 7293034) {q : Nat} {b1 b2 : Nat → Nat} {ao : Nat} {m : Nat → Nat} {O : Nat → Int64} {C : Nat → Nat → Int32} {G M : Nat → Int32} {C2 : Nat → Nat → Int32} {G2 M2 : Nat → Int32} {th : Int32} {n : Nat} {S : Nat → Int32} {N a : Nat → Nat → Int32} (R : hm_R n C G M S N a) (kk : ∀ (O : Nat → Int64) (C : Nat → Nat → Int32) (G M : Nat → Int32) (C2 : Nat → Nat → Int32) (G2 M2 : Nat → Int32) (th : Int32) (n : Nat) (S : Nat → Int32) (N a : Nat → Nat → Int32), hm_R n C G M S N a → jk_J Γ E (lw_w E q b1 b2 ao m O C G M C2 G2 M2 th n S N a) (nn + 11) (ks + 117) 2155 [(4, .int (nI (4 * j))), (3, .ref ao), (2, .ref (m 0)), (1, .ref q), (0, .ref sb)] []) : jk_J Γ E (lw_w E q b1 b2 ao m O C G M C2 G2 M2 th n S N a) nn ks 494 [(4, .int (nI (4 * j))), (3, .ref ao), (2, .ref (m 0)), (1, .ref q), (0, .ref sb)] [] := by
  have hl := K.2.2.2.2.2.2.2.2.2.2
  refine jk_aload_n K dL_law_494 rfl 3 rfl ?_
  refine jk_aload_n K dL_law_495 rfl 4 rfl ?_
  refine jk_iload K dL_law_496 0 rfl ?_
  refine jk_iconst (x := 1) K dL_law_498 rfl ?_
  refine jk_iadd K dL_law_499 ?_
  refine jk_xld (v := xs (4 * j + 1)) K XL dL_law_500 (lw_i hj hL (c := 1) (by decide)).1 (congrArg xs (lw_i hj hL (c := 1) (by decide)).2) ?_
  refine jk_aload_n K dL_law_501 rfl 4 rfl ?_
  refine jk_iload K dL_law_502 0 rfl ?_
  refine jk_iconst (x := 2) K dL_law_504 rfl ?_
  refine jk_iadd K dL_law_505 ?_
  refine jk_xld (v := xs (4 * j + 2)) K XL dL_law_506 (lw_i hj hL (c := 2) (by decide)).1 (congrArg xs (lw_i hj hL (c := 2) (by decide)).2) ?_
  refine jk_aload_n K dL_law_507 rfl 1 rfl ?_
  refine jk_ws (ws' := (hb_v1 E q b1 b2 (hb_o E ao O :: (hm_MW E m th (nI n) S N a ++ [])) C G M C2 G2 M2)) lw_eq.symm ?_
  refine jk_cSiH K (n' := (nn + 2)) (k' := (ks + 12)) [.ref q, .int (xs (4 * j + 1)), .int (xs (4 * j + 2)), .ref ao] [] dL_law_508 (hb_L_bringWood _ hl E q b1 b2 ao O (hm_MW E m th (nI n) S N a ++ []) C G M C2 G2 M2 n R.1 R.2.2.1.1 (xs (4 * j + 1)) (xs (4 * j + 2))) gL_law_L_bringWood rfl kd_L_bringWood ⟨Nat.le_of_ble_eq_true rfl, Nat.le_of_ble_eq_true rfl⟩ (Nat.le_of_ble_eq_true rfl) ⟨rfl, rfl⟩ ⟨(by show _ ≤ 601024; omega), (by show _ ≤ 7293034; omega)⟩ rfl (fun u hu => ?_)
  rcases u with u | k
  · refine jk_ws (ws' := (lw_w E q b1 b2 ao m (vp_updL O 0 (Int32.toInt64 (hb_min (C u 0 + (xs (4 * j + 2))) 30))) (va_up C u (hb_fu (C u) 0 (hb_min (C u 0 + (xs (4 * j + 2))) 30))) G M C2 G2 M2 th n S N a)) lw_eq ?_
    refine jk_st (st' := [.int 0]) rfl ?_
    refine jk_istore (lv' := [(5, .int 0), (4, .int (nI (4 * j))), (3, .ref ao), (2, .ref (m 0)), (1, .ref q), (0, .ref sb)]) K dL_law_511 (by decide) rfl ?_
    refine jk_aload_n K dL_law_513 rfl 3 rfl ?_
    refine jk_aload_n K dL_law_514 rfl 5 rfl ?_
    refine jk_iload K dL_law_515 1 rfl ?_
    refine jk_iconst (x := 1) K dL_law_517 rfl ?_
    refine jk_iadd K dL_law_518 ?_
    refine jk_xld (v := xs (4 * j + 1)) K XL dL_law_519 (lw_i hj hL (c := 1) (by decide)).1 (congrArg xs (lw_i hj hL (c := 1) (by decide)).2) ?_
    refine jk_aload_n K dL_law_520 rfl 5 rfl ?_
    refine jk_iload K dL_law_521 1 rfl ?_
    refine jk_iconst (x := 2) K dL_law_523 rfl ?_
    refine jk_iadd K dL_law_524 ?_
    refine jk_xld (v := xs (4 * j + 2)) K XL dL_law_525 (lw_i hj hL (c := 2) (by decide)).1 (congrArg xs (lw_i hj hL (c := 2) (by decide)).2) ?_
    refine jk_cVi K (n' := (nn + 2)) (k' := (ks + 12)) [.int (xs (4 * j + 1)), .int (xs (4 * j + 2))] [] dL_law_526 (hb_X3_bringWood _ hl E (hb_v1 E q b1 b2 [hb_o E ao (vp_updL O 0 (Int32.toInt64 (hb_min (C u 0 + (xs (4 * j + 2))) 30)))] (va_up C u (hb_fu (C u) 0 (hb_min (C u 0 + (xs (4 * j + 2))) 30))) G M C2 G2 M2) [] m th S N a n R.1 (xs (4 * j + 1)) (xs (4 * j + 2))) gL_law_X3_bringWood rfl kd_X3_bringWood ⟨Nat.le_of_ble_eq_true rfl, Nat.le_of_ble_eq_true rfl⟩ _ hm_x0 rfl (Nat.le_of_ble_eq_true rfl) ⟨rfl, rfl⟩ ⟨(by show _ ≤ 601024; omega), (by show _ ≤ 7293034; omega)⟩ rfl (fun v hv => ?_)
    obtain ⟨e1, e2, R2⟩ := lp_bringWood_ok (C2 := C2) (G2 := G2) (M2 := M2) (u := u) (v := v) R hu hv
    refine jk_ws (ws' := (lw_w E q b1 b2 ao m (vp_updL O 0 (Int32.toInt64 (hb_min (C u 0 + (xs (4 * j + 2))) 30))) (va_up C u (hb_fu (C u) 0 (hb_min (C u 0 + (xs (4 * j + 2))) 30))) G M C2 G2 M2 v.1 n v.2.2.1 v.2.2.2 a)) rfl ?_
    refine jk_st (st' := [.int (hb_min (C u 0 + (xs (4 * j + 2))) 30)]) (by rw [e2]) ?_
    refine jk_istore (lv' := [(6, .int (hb_min (C u 0 + (xs (4 * j + 2))) 30)), (5, .int 0), (4, .int (nI (4 * j))), (3, .ref ao), (2, .ref (m 0)), (1, .ref q), (0, .ref sb)]) K dL_law_529 (by decide) rfl ?_
    refine jk_aload_n K dL_law_531 rfl 4 rfl ?_
    refine jk_cVi K (n' := (nn + 2)) (k' := (ks + 12)) [] [] dL_law_532 (hb_X3_thrown _ hl E (hb_v1 E q b1 b2 [hb_o E ao (vp_updL O 0 (Int32.toInt64 (hb_min (C u 0 + (xs (4 * j + 2))) 30)))] (va_up C u (hb_fu (C u) 0 (hb_min (C u 0 + (xs (4 * j + 2))) 30))) G M C2 G2 M2) [] m v.1 v.2.2.1 v.2.2.2 a n R2.1) gL_law_X3_thrown rfl kd_X3_thrown ⟨Nat.le_of_ble_eq_true rfl, Nat.le_of_ble_eq_true rfl⟩ _ hm_x0 rfl (Nat.le_of_ble_eq_true rfl) ⟨rfl, rfl⟩ ⟨(by show _ ≤ 601024; omega), (by show _ ≤ 7293034; omega)⟩ rfl (fun _ _ => ?_)
    refine jk_st (st' := [.int 0]) (by rw [e1]) ?_
    refine jk_iload K dL_law_535 1 rfl ?_
    refine jk_icmp_eq (tgt := 542) K dL_law_537 rfl (fun c_537 => ?_) (fun c_537 => ?_)
    · refine jk_iload K dL_law_542 1 rfl ?_
      refine jk_if_ne (tgt := 559) K dL_law_544 rfl (fun c_544 => ?_) (fun c_544 => ?_)
      · exact absurd (by decide) c_544
      · refine jk_aload_n K dL_law_547 rfl 3 rfl ?_
        refine jk_iconst (x := 0) K dL_law_548 rfl ?_
        refine jk_lald (v := (Int32.toInt64 (hb_min (C u 0 + (xs (4 * j + 2))) 30))) K dL_law_549 29 lw_out (vp_in_nI (n := 0) (by decide) (by decide)) (by rw [show Int32.toNatClampNeg 0 = 0 from by decide]; exact if_pos rfl) ?_
        refine jk_iload K dL_law_550 0 rfl ?_
        refine jk_i2l K dL_law_552 ?_
        refine jk_lcmp K dL_law_553 ?_
        refine jk_st (st' := [.int 0]) (by rw [lg_self]) ?_
        refine jk_if_eq (tgt := 559) K dL_law_554 rfl (fun c_554 => ?_) (fun c_554 => ?_)
        · refine jk_goto (tgt := 2155) K dL_law_559 rfl ?_
          refine jk_sub (lv' := [(4, .int (nI (4 * j))), (3, .ref ao), (2, .ref (m 0)), (1, .ref q), (0, .ref sb)]) [2, 3, 4, 5, 6] rfl ?_
          refine jk_wide (n' := nn + 11) (k' := ks + 117) (by omega) (by omega) ?_
          exact kk _ _ _ _ _ _ _ _ _ _ _ _ R2
        · exact absurd (by decide) c_554
    · exact absurd (by decide) c_537
  · refine jk_ws (ws' := (lw_w E q b1 b2 ao m O C G M C2 G2 M2 th n S N a)) lw_eq ?_
    refine jk_st (st' := [.int k]) rfl ?_
    refine jk_istore (lv' := [(5, .int k), (4, .int (nI (4 * j))), (3, .ref ao), (2, .ref (m 0)), (1, .ref q), (0, .ref sb)]) K dL_law_511 (by decide) rfl ?_
    refine jk_aload_n K dL_law_513 rfl 3 rfl ?_
    refine jk_aload_n K dL_law_514 rfl 5 rfl ?_
    refine jk_iload K dL_law_515 1 rfl ?_
    refine jk_iconst (x := 1) K dL_law_517 rfl ?_
    refine jk_iadd K dL_law_518 ?_
    refine jk_xld (v := xs (4 * j + 1)) K XL dL_law_519 (lw_i hj hL (c := 1) (by decide)).1 (congrArg xs (lw_i hj hL (c := 1) (by decide)).2) ?_
    refine jk_aload_n K dL_law_520 rfl 5 rfl ?_
    refine jk_iload K dL_law_521 1 rfl ?_
    refine jk_iconst (x := 2) K dL_law_523 rfl ?_
    refine jk_iadd K dL_law_524 ?_
    refine jk_xld (v := xs (4 * j + 2)) K XL dL_law_525 (lw_i hj hL (c := 2) (by decide)).1 (congrArg xs (lw_i hj hL (c := 2) (by decide)).2) ?_
    refine jk_cVi K (n' := (nn + 2)) (k' := (ks + 12)) [.int (xs (4 * j + 1)), .int (xs (4 * j + 2))] [] dL_law_526 (hb_X3_bringWood _ hl E (hb_v1 E q b1 b2 [hb_o E ao O] C G M C2 G2 M2) [] m th S N a n R.1 (xs (4 * j + 1)) (xs (4 * j + 2))) gL_law_X3_bringWood rfl kd_X3_bringWood ⟨Nat.le_of_ble_eq_true rfl, Nat.le_of_ble_eq_true rfl⟩ _ hm_x0 rfl (Nat.le_of_ble_eq_true rfl) ⟨rfl, rfl⟩ ⟨(by show _ ≤ 601024; omega), (by show _ ≤ 7293034; omega)⟩ rfl (fun v hv => ?_)
    obtain ⟨e1, ek, R2⟩ := lp_bringWood_no (k := k) (v := v) R hu hv
    refine jk_ws (ws' := (lw_w E q b1 b2 ao m O C G M C2 G2 M2 v.1 n v.2.2.1 v.2.2.2 a)) rfl ?_
    refine jk_st (st' := [.int v.2.1]) rfl ?_
    refine jk_istore (lv' := [(6, .int v.2.1), (5, .int k), (4, .int (nI (4 * j))), (3, .ref ao), (2, .ref (m 0)), (1, .ref q), (0, .ref sb)]) K dL_law_529 (by decide) rfl ?_
    refine jk_aload_n K dL_law_531 rfl 4 rfl ?_
    refine jk_cVi K (n' := (nn + 2)) (k' := (ks + 12)) [] [] dL_law_532 (hb_X3_thrown _ hl E (hb_v1 E q b1 b2 [hb_o E ao O] C G M C2 G2 M2) [] m v.1 v.2.2.1 v.2.2.2 a n R2.1) gL_law_X3_thrown rfl kd_X3_thrown ⟨Nat.le_of_ble_eq_true rfl, Nat.le_of_ble_eq_true rfl⟩ _ hm_x0 rfl (Nat.le_of_ble_eq_true rfl) ⟨rfl, rfl⟩ ⟨(by show _ ≤ 601024; omega), (by show _ ≤ 7293034; omega)⟩ rfl (fun _ _ => ?_)
    refine jk_st (st' := [.int k]) (by rw [e1]) ?_
    refine jk_iload K dL_law_535 1 rfl ?_
    refine jk_icmp_eq (tgt := 542) K dL_law_537 rfl (fun c_537 => ?_) (fun c_537 => ?_)
    · refine jk_iload K dL_law_542 1 rfl ?_
      refine jk_if_ne (tgt := 559) K dL_law_544 rfl (fun c_544 => ?_) (fun c_544 => ?_)
      · refine jk_goto (tgt := 2155) K dL_law_559 rfl ?_
        refine jk_sub (lv' := [(4, .int (nI (4 * j))), (3, .ref ao), (2, .ref (m 0)), (1, .ref q), (0, .ref sb)]) [2, 3, 4, 5, 6] rfl ?_
        refine jk_wide (n' := nn + 11) (k' := ks + 117) (by omega) (by omega) ?_
        exact kk _ _ _ _ _ _ _ _ _ _ _ _ R2
      · exact absurd c_544 ek
    · exact absurd rfl c_537
set_option maxHeartbeats 4000000 in
set_option maxRecDepth 100000 in
theorem lw_c5 {Γ : jk_G} {E : jk_T} (K : jk_C Γ E RL cL_law 9 wsL_law ({ frames := 13, cells := 601024, slots := 7293034, locals := 468 } : Room)) {sb L : Nat} {xs : Nat → Int32} (XL : jk_LX Γ sb L xs) (hL : L ≤ 2048) {j : Nat} (hj : 4 * j + 3 < L) {nn ks : Nat} (hnn : nn + 11 ≤ 601024) (hks : ks + 117 ≤ 7293034) {q : Nat} {b1 b2 : Nat → Nat} {ao : Nat} {m : Nat → Nat} {O : Nat → Int64} {C : Nat → Nat → Int32} {G M : Nat → Int32} {C2 : Nat → Nat → Int32} {G2 M2 : Nat → Int32} {th : Int32} {n : Nat} {S : Nat → Int32} {N a : Nat → Nat → Int32} (R : hm_R n C G M S N a) (kk : ∀ (O : Nat → Int64) (C : Nat → Nat → Int32) (G M : Nat → Int32) (C2 : Nat → Nat → Int32) (G2 M2 : Nat → Int32) (th : Int32) (n : Nat) (S : Nat → Int32) (N a : Nat → Nat → Int32), hm_R n C G M S N a → jk_J Γ E (lw_w E q b1 b2 ao m O C G M C2 G2 M2 th n S N a) (nn + 11) (ks + 117) 2155 [(4, .int (nI (4 * j))), (3, .ref ao), (2, .ref (m 0)), (1, .ref q), (0, .ref sb)] []) : jk_J Γ E (lw_w E q b1 b2 ao m O C G M C2 G2 M2 th n S N a) nn ks 562 [(4, .int (nI (4 * j))), (3, .ref ao), (2, .ref (m 0)), (1, .ref q), (0, .ref sb)] [] := by
  have hl := K.2.2.2.2.2.2.2.2.2.2
  refine jk_aload_n K dL_law_562 rfl 3 rfl ?_
  refine jk_aload_n K dL_law_563 rfl 4 rfl ?_
  refine jk_iload K dL_law_564 0 rfl ?_
  refine jk_iconst (x := 1) K dL_law_566 rfl ?_
  refine jk_iadd K dL_law_567 ?_
  refine jk_xld (v := xs (4 * j + 1)) K XL dL_law_568 (lw_i hj hL (c := 1) (by decide)).1 (congrArg xs (lw_i hj hL (c := 1) (by decide)).2) ?_
  refine jk_aload_n K dL_law_569 rfl 4 rfl ?_
  refine jk_iload K dL_law_570 0 rfl ?_
  refine jk_iconst (x := 2) K dL_law_572 rfl ?_
  refine jk_iadd K dL_law_573 ?_
  refine jk_xld (v := xs (4 * j + 2)) K XL dL_law_574 (lw_i hj hL (c := 2) (by decide)).1 (congrArg xs (lw_i hj hL (c := 2) (by decide)).2) ?_
  refine jk_aload_n K dL_law_575 rfl 1 rfl ?_
  refine jk_ws (ws' := (hb_v1 E q b1 b2 (hb_o E ao O :: (hm_MW E m th (nI n) S N a ++ [])) C G M C2 G2 M2)) lw_eq.symm ?_
  refine jk_cSiH K (n' := (nn + 2)) (k' := (ks + 12)) [.ref q, .int (xs (4 * j + 1)), .int (xs (4 * j + 2)), .ref ao] [] dL_law_576 (hb_L_setDamp _ hl E q b1 b2 ao O (hm_MW E m th (nI n) S N a ++ []) C G M C2 G2 M2 n R.1 R.2.2.1.1 (xs (4 * j + 1)) (xs (4 * j + 2))) gL_law_L_setDamp rfl kd_L_setDamp ⟨Nat.le_of_ble_eq_true rfl, Nat.le_of_ble_eq_true rfl⟩ (Nat.le_of_ble_eq_true rfl) ⟨rfl, rfl⟩ ⟨(by show _ ≤ 601024; omega), (by show _ ≤ 7293034; omega)⟩ rfl (fun u hu => ?_)
  rcases u with u | k
  · refine jk_ws (ws' := (lw_w E q b1 b2 ao m (vp_updL O 0 (Int32.toInt64 (C u 1))) (va_up C u (hb_fu (C u) 1 (xs (4 * j + 2)))) G M C2 G2 M2 th n S N a)) lw_eq ?_
    refine jk_st (st' := [.int 0]) rfl ?_
    refine jk_istore (lv' := [(5, .int 0), (4, .int (nI (4 * j))), (3, .ref ao), (2, .ref (m 0)), (1, .ref q), (0, .ref sb)]) K dL_law_579 (by decide) rfl ?_
    refine jk_aload_n K dL_law_581 rfl 3 rfl ?_
    refine jk_aload_n K dL_law_582 rfl 5 rfl ?_
    refine jk_iload K dL_law_583 1 rfl ?_
    refine jk_iconst (x := 1) K dL_law_585 rfl ?_
    refine jk_iadd K dL_law_586 ?_
    refine jk_xld (v := xs (4 * j + 1)) K XL dL_law_587 (lw_i hj hL (c := 1) (by decide)).1 (congrArg xs (lw_i hj hL (c := 1) (by decide)).2) ?_
    refine jk_aload_n K dL_law_588 rfl 5 rfl ?_
    refine jk_iload K dL_law_589 1 rfl ?_
    refine jk_iconst (x := 2) K dL_law_591 rfl ?_
    refine jk_iadd K dL_law_592 ?_
    refine jk_xld (v := xs (4 * j + 2)) K XL dL_law_593 (lw_i hj hL (c := 2) (by decide)).1 (congrArg xs (lw_i hj hL (c := 2) (by decide)).2) ?_
    refine jk_cVi K (n' := (nn + 2)) (k' := (ks + 12)) [.int (xs (4 * j + 1)), .int (xs (4 * j + 2))] [] dL_law_594 (hb_X3_setDamp _ hl E (hb_v1 E q b1 b2 [hb_o E ao (vp_updL O 0 (Int32.toInt64 (C u 1)))] (va_up C u (hb_fu (C u) 1 (xs (4 * j + 2)))) G M C2 G2 M2) [] m th S N a n R.1 (xs (4 * j + 1)) (xs (4 * j + 2))) gL_law_X3_setDamp rfl kd_X3_setDamp ⟨Nat.le_of_ble_eq_true rfl, Nat.le_of_ble_eq_true rfl⟩ _ hm_x0 rfl (Nat.le_of_ble_eq_true rfl) ⟨rfl, rfl⟩ ⟨(by show _ ≤ 601024; omega), (by show _ ≤ 7293034; omega)⟩ rfl (fun v hv => ?_)
    obtain ⟨e1, e2, R2⟩ := lp_setDamp_ok (C2 := C2) (G2 := G2) (M2 := M2) (u := u) (v := v) R hu hv
    refine jk_ws (ws' := (lw_w E q b1 b2 ao m (vp_updL O 0 (Int32.toInt64 (C u 1))) (va_up C u (hb_fu (C u) 1 (xs (4 * j + 2)))) G M C2 G2 M2 v.1 n v.2.2.1 v.2.2.2 a)) rfl ?_
    refine jk_st (st' := [.int (C u 1)]) (by rw [e2]) ?_
    refine jk_istore (lv' := [(6, .int (C u 1)), (5, .int 0), (4, .int (nI (4 * j))), (3, .ref ao), (2, .ref (m 0)), (1, .ref q), (0, .ref sb)]) K dL_law_597 (by decide) rfl ?_
    refine jk_aload_n K dL_law_599 rfl 4 rfl ?_
    refine jk_cVi K (n' := (nn + 2)) (k' := (ks + 12)) [] [] dL_law_600 (hb_X3_thrown _ hl E (hb_v1 E q b1 b2 [hb_o E ao (vp_updL O 0 (Int32.toInt64 (C u 1)))] (va_up C u (hb_fu (C u) 1 (xs (4 * j + 2)))) G M C2 G2 M2) [] m v.1 v.2.2.1 v.2.2.2 a n R2.1) gL_law_X3_thrown rfl kd_X3_thrown ⟨Nat.le_of_ble_eq_true rfl, Nat.le_of_ble_eq_true rfl⟩ _ hm_x0 rfl (Nat.le_of_ble_eq_true rfl) ⟨rfl, rfl⟩ ⟨(by show _ ≤ 601024; omega), (by show _ ≤ 7293034; omega)⟩ rfl (fun _ _ => ?_)
    refine jk_st (st' := [.int 0]) (by rw [e1]) ?_
    refine jk_iload K dL_law_603 1 rfl ?_
    refine jk_icmp_eq (tgt := 610) K dL_law_605 rfl (fun c_605 => ?_) (fun c_605 => ?_)
    · refine jk_iload K dL_law_610 1 rfl ?_
      refine jk_if_ne (tgt := 627) K dL_law_612 rfl (fun c_612 => ?_) (fun c_612 => ?_)
      · exact absurd (by decide) c_612
      · refine jk_aload_n K dL_law_615 rfl 3 rfl ?_
        refine jk_iconst (x := 0) K dL_law_616 rfl ?_
        refine jk_lald (v := (Int32.toInt64 (C u 1))) K dL_law_617 29 lw_out (vp_in_nI (n := 0) (by decide) (by decide)) (by rw [show Int32.toNatClampNeg 0 = 0 from by decide]; exact if_pos rfl) ?_
        refine jk_iload K dL_law_618 0 rfl ?_
        refine jk_i2l K dL_law_620 ?_
        refine jk_lcmp K dL_law_621 ?_
        refine jk_st (st' := [.int 0]) (by rw [lg_self]) ?_
        refine jk_if_eq (tgt := 627) K dL_law_622 rfl (fun c_622 => ?_) (fun c_622 => ?_)
        · refine jk_goto (tgt := 2155) K dL_law_627 rfl ?_
          refine jk_sub (lv' := [(4, .int (nI (4 * j))), (3, .ref ao), (2, .ref (m 0)), (1, .ref q), (0, .ref sb)]) [2, 3, 4, 5, 6] rfl ?_
          refine jk_wide (n' := nn + 11) (k' := ks + 117) (by omega) (by omega) ?_
          exact kk _ _ _ _ _ _ _ _ _ _ _ _ R2
        · exact absurd (by decide) c_622
    · exact absurd (by decide) c_605
  · refine jk_ws (ws' := (lw_w E q b1 b2 ao m O C G M C2 G2 M2 th n S N a)) lw_eq ?_
    refine jk_st (st' := [.int k]) rfl ?_
    refine jk_istore (lv' := [(5, .int k), (4, .int (nI (4 * j))), (3, .ref ao), (2, .ref (m 0)), (1, .ref q), (0, .ref sb)]) K dL_law_579 (by decide) rfl ?_
    refine jk_aload_n K dL_law_581 rfl 3 rfl ?_
    refine jk_aload_n K dL_law_582 rfl 5 rfl ?_
    refine jk_iload K dL_law_583 1 rfl ?_
    refine jk_iconst (x := 1) K dL_law_585 rfl ?_
    refine jk_iadd K dL_law_586 ?_
    refine jk_xld (v := xs (4 * j + 1)) K XL dL_law_587 (lw_i hj hL (c := 1) (by decide)).1 (congrArg xs (lw_i hj hL (c := 1) (by decide)).2) ?_
    refine jk_aload_n K dL_law_588 rfl 5 rfl ?_
    refine jk_iload K dL_law_589 1 rfl ?_
    refine jk_iconst (x := 2) K dL_law_591 rfl ?_
    refine jk_iadd K dL_law_592 ?_
    refine jk_xld (v := xs (4 * j + 2)) K XL dL_law_593 (lw_i hj hL (c := 2) (by decide)).1 (congrArg xs (lw_i hj hL (c := 2) (by decide)).2) ?_
    refine jk_cVi K (n' := (nn + 2)) (k' := (ks + 12)) [.int (xs (4 * j + 1)), .int (xs (4 * j + 2))] [] dL_law_594 (hb_X3_setDamp _ hl E (hb_v1 E q b1 b2 [hb_o E ao O] C G M C2 G2 M2) [] m th S N a n R.1 (xs (4 * j + 1)) (xs (4 * j + 2))) gL_law_X3_setDamp rfl kd_X3_setDamp ⟨Nat.le_of_ble_eq_true rfl, Nat.le_of_ble_eq_true rfl⟩ _ hm_x0 rfl (Nat.le_of_ble_eq_true rfl) ⟨rfl, rfl⟩ ⟨(by show _ ≤ 601024; omega), (by show _ ≤ 7293034; omega)⟩ rfl (fun v hv => ?_)
    obtain ⟨e1, ek, R2⟩ := lp_setDamp_no (k := k) (v := v) R hu hv
    refine jk_ws (ws' := (lw_w E q b1 b2 ao m O C G M C2 G2 M2 v.1 n v.2.2.1 v.2.2.2 a)) rfl ?_
    refine jk_st (st' := [.int v.2.1]) rfl ?_
    refine jk_istore (lv' := [(6, .int v.2.1), (5, .int k), (4, .int (nI (4 * j))), (3, .ref ao), (2, .ref (m 0)), (1, .ref q), (0, .ref sb)]) K dL_law_597 (by decide) rfl ?_
    refine jk_aload_n K dL_law_599 rfl 4 rfl ?_
    refine jk_cVi K (n' := (nn + 2)) (k' := (ks + 12)) [] [] dL_law_600 (hb_X3_thrown _ hl E (hb_v1 E q b1 b2 [hb_o E ao O] C G M C2 G2 M2) [] m v.1 v.2.2.1 v.2.2.2 a n R2.1) gL_law_X3_thrown rfl kd_X3_thrown ⟨Nat.le_of_ble_eq_true rfl, Nat.le_of_ble_eq_true rfl⟩ _ hm_x0 rfl (Nat.le_of_ble_eq_true rfl) ⟨rfl, rfl⟩ ⟨(by show _ ≤ 601024; omega), (by show _ ≤ 7293034; omega)⟩ rfl (fun _ _ => ?_)
    refine jk_st (st' := [.int k]) (by rw [e1]) ?_
    refine jk_iload K dL_law_603 1 rfl ?_
    refine jk_icmp_eq (tgt := 610) K dL_law_605 rfl (fun c_605 => ?_) (fun c_605 => ?_)
    · refine jk_iload K dL_law_610 1 rfl ?_
      refine jk_if_ne (tgt := 627) K dL_law_612 rfl (fun c_612 => ?_) (fun c_612 => ?_)
      · refine jk_goto (tgt := 2155) K dL_law_627 rfl ?_
        refine jk_sub (lv' := [(4, .int (nI (4 * j))), (3, .ref ao), (2, .ref (m 0)), (1, .ref q), (0, .ref sb)]) [2, 3, 4, 5, 6] rfl ?_
        refine jk_wide (n' := nn + 11) (k' := ks + 117) (by omega) (by omega) ?_
        exact kk _ _ _ _ _ _ _ _ _ _ _ _ R2
      · exact absurd c_612 ek
    · exact absurd rfl c_605
set_option maxHeartbeats 4000000 in
set_option maxRecDepth 100000 in
theorem lw_c6 {Γ : jk_G} {E : jk_T} (K : jk_C Γ E RL cL_law 9 wsL_law ({ frames := 13, cells := 601024, slots := 7293034, locals := 468 } : Room)) {sb L : Nat} {xs : Nat → Int32} (XL : jk_LX Γ sb L xs) (hL : L ≤ 2048) {j : Nat} (hj : 4 * j + 3 < L) {nn ks : Nat} (hnn : nn + 11 ≤ 601024) (hks : ks + 117 ≤ 7293034) {q : Nat} {b1 b2 : Nat → Nat} {ao : Nat} {m : Nat → Nat} {O : Nat → Int64} {C : Nat → Nat → Int32} {G M : Nat → Int32} {C2 : Nat → Nat → Int32} {G2 M2 : Nat → Int32} {th : Int32} {n : Nat} {S : Nat → Int32} {N a : Nat → Nat → Int32} (R : hm_R n C G M S N a) (kk : ∀ (O : Nat → Int64) (C : Nat → Nat → Int32) (G M : Nat → Int32) (C2 : Nat → Nat → Int32) (G2 M2 : Nat → Int32) (th : Int32) (n : Nat) (S : Nat → Int32) (N a : Nat → Nat → Int32), hm_R n C G M S N a → jk_J Γ E (lw_w E q b1 b2 ao m O C G M C2 G2 M2 th n S N a) (nn + 11) (ks + 117) 2155 [(4, .int (nI (4 * j))), (3, .ref ao), (2, .ref (m 0)), (1, .ref q), (0, .ref sb)] []) : jk_J Γ E (lw_w E q b1 b2 ao m O C G M C2 G2 M2 th n S N a) nn ks 630 [(4, .int (nI (4 * j))), (3, .ref ao), (2, .ref (m 0)), (1, .ref q), (0, .ref sb)] [] := by
  have hl := K.2.2.2.2.2.2.2.2.2.2
  refine jk_aload_n K dL_law_630 rfl 3 rfl ?_
  refine jk_aload_n K dL_law_631 rfl 4 rfl ?_
  refine jk_iload K dL_law_632 0 rfl ?_
  refine jk_iconst (x := 1) K dL_law_634 rfl ?_
  refine jk_iadd K dL_law_635 ?_
  refine jk_xld (v := xs (4 * j + 1)) K XL dL_law_636 (lw_i hj hL (c := 1) (by decide)).1 (congrArg xs (lw_i hj hL (c := 1) (by decide)).2) ?_
  refine jk_aload_n K dL_law_637 rfl 1 rfl ?_
  refine jk_ws (ws' := (hb_v1 E q b1 b2 (hb_o E ao O :: (hm_MW E m th (nI n) S N a ++ [])) C G M C2 G2 M2)) lw_eq.symm ?_
  refine jk_cSiH K (n' := (nn + 1)) (k' := (ks + 6)) [.ref q, .int (xs (4 * j + 1)), .ref ao] [] dL_law_638 (hb_L_setHaze _ hl E q b1 b2 ao O (hm_MW E m th (nI n) S N a ++ []) C G M C2 G2 M2 n R.1 R.2.2.1.1 (xs (4 * j + 1))) gL_law_L_setHaze rfl kd_L_setHaze ⟨Nat.le_of_ble_eq_true rfl, Nat.le_of_ble_eq_true rfl⟩ (Nat.le_of_ble_eq_true rfl) ⟨rfl, rfl⟩ ⟨(by show _ ≤ 601024; omega), (by show _ ≤ 7293034; omega)⟩ rfl (fun u hu => ?_)
  rcases u with u | k
  · refine jk_ws (ws' := (lw_w E q b1 b2 ao m (vp_updL O 0 (Int32.toInt64 (G 1))) C (hb_fu G 1 (xs (4 * j + 1))) M C2 G2 M2 th n S N a)) lw_eq ?_
    refine jk_st (st' := [.int 0]) rfl ?_
    refine jk_istore (lv' := [(5, .int 0), (4, .int (nI (4 * j))), (3, .ref ao), (2, .ref (m 0)), (1, .ref q), (0, .ref sb)]) K dL_law_641 (by decide) rfl ?_
    refine jk_aload_n K dL_law_643 rfl 3 rfl ?_
    refine jk_aload_n K dL_law_644 rfl 5 rfl ?_
    refine jk_iload K dL_law_645 1 rfl ?_
    refine jk_iconst (x := 1) K dL_law_647 rfl ?_
    refine jk_iadd K dL_law_648 ?_
    refine jk_xld (v := xs (4 * j + 1)) K XL dL_law_649 (lw_i hj hL (c := 1) (by decide)).1 (congrArg xs (lw_i hj hL (c := 1) (by decide)).2) ?_
    refine jk_cVi K (n' := (nn + 1)) (k' := (ks + 6)) [.int (xs (4 * j + 1))] [] dL_law_650 (hb_X3_setHaze _ hl E (hb_v1 E q b1 b2 [hb_o E ao (vp_updL O 0 (Int32.toInt64 (G 1)))] C (hb_fu G 1 (xs (4 * j + 1))) M C2 G2 M2) [] m th S N a n R.1 (xs (4 * j + 1))) gL_law_X3_setHaze rfl kd_X3_setHaze ⟨Nat.le_of_ble_eq_true rfl, Nat.le_of_ble_eq_true rfl⟩ _ hm_x0 rfl (Nat.le_of_ble_eq_true rfl) ⟨rfl, rfl⟩ ⟨(by show _ ≤ 601024; omega), (by show _ ≤ 7293034; omega)⟩ rfl (fun v hv => ?_)
    obtain ⟨e1, e2, R2⟩ := lp_setHaze_ok (C2 := C2) (G2 := G2) (M2 := M2) (u := u) (v := v) R hu hv
    refine jk_ws (ws' := (lw_w E q b1 b2 ao m (vp_updL O 0 (Int32.toInt64 (G 1))) C (hb_fu G 1 (xs (4 * j + 1))) M C2 G2 M2 v.1 n v.2.2 N a)) rfl ?_
    refine jk_st (st' := [.int (G 1)]) (by rw [e2]) ?_
    refine jk_istore (lv' := [(6, .int (G 1)), (5, .int 0), (4, .int (nI (4 * j))), (3, .ref ao), (2, .ref (m 0)), (1, .ref q), (0, .ref sb)]) K dL_law_653 (by decide) rfl ?_
    refine jk_aload_n K dL_law_655 rfl 4 rfl ?_
    refine jk_cVi K (n' := (nn + 1)) (k' := (ks + 6)) [] [] dL_law_656 (hb_X3_thrown _ hl E (hb_v1 E q b1 b2 [hb_o E ao (vp_updL O 0 (Int32.toInt64 (G 1)))] C (hb_fu G 1 (xs (4 * j + 1))) M C2 G2 M2) [] m v.1 v.2.2 N a n R2.1) gL_law_X3_thrown rfl kd_X3_thrown ⟨Nat.le_of_ble_eq_true rfl, Nat.le_of_ble_eq_true rfl⟩ _ hm_x0 rfl (Nat.le_of_ble_eq_true rfl) ⟨rfl, rfl⟩ ⟨(by show _ ≤ 601024; omega), (by show _ ≤ 7293034; omega)⟩ rfl (fun _ _ => ?_)
    refine jk_st (st' := [.int 0]) (by rw [e1]) ?_
    refine jk_iload K dL_law_659 1 rfl ?_
    refine jk_icmp_eq (tgt := 666) K dL_law_661 rfl (fun c_661 => ?_) (fun c_661 => ?_)
    · refine jk_iload K dL_law_666 1 rfl ?_
      refine jk_if_ne (tgt := 683) K dL_law_668 rfl (fun c_668 => ?_) (fun c_668 => ?_)
      · exact absurd (by decide) c_668
      · refine jk_aload_n K dL_law_671 rfl 3 rfl ?_
        refine jk_iconst (x := 0) K dL_law_672 rfl ?_
        refine jk_lald (v := (Int32.toInt64 (G 1))) K dL_law_673 29 lw_out (vp_in_nI (n := 0) (by decide) (by decide)) (by rw [show Int32.toNatClampNeg 0 = 0 from by decide]; exact if_pos rfl) ?_
        refine jk_iload K dL_law_674 0 rfl ?_
        refine jk_i2l K dL_law_676 ?_
        refine jk_lcmp K dL_law_677 ?_
        refine jk_st (st' := [.int 0]) (by rw [lg_self]) ?_
        refine jk_if_eq (tgt := 683) K dL_law_678 rfl (fun c_678 => ?_) (fun c_678 => ?_)
        · refine jk_goto (tgt := 2155) K dL_law_683 rfl ?_
          refine jk_sub (lv' := [(4, .int (nI (4 * j))), (3, .ref ao), (2, .ref (m 0)), (1, .ref q), (0, .ref sb)]) [2, 3, 4, 5, 6] rfl ?_
          refine jk_wide (n' := nn + 11) (k' := ks + 117) (by omega) (by omega) ?_
          exact kk _ _ _ _ _ _ _ _ _ _ _ _ R2
        · exact absurd (by decide) c_678
    · exact absurd (by decide) c_661
  · refine jk_ws (ws' := (lw_w E q b1 b2 ao m O C G M C2 G2 M2 th n S N a)) lw_eq ?_
    refine jk_st (st' := [.int k]) rfl ?_
    refine jk_istore (lv' := [(5, .int k), (4, .int (nI (4 * j))), (3, .ref ao), (2, .ref (m 0)), (1, .ref q), (0, .ref sb)]) K dL_law_641 (by decide) rfl ?_
    refine jk_aload_n K dL_law_643 rfl 3 rfl ?_
    refine jk_aload_n K dL_law_644 rfl 5 rfl ?_
    refine jk_iload K dL_law_645 1 rfl ?_
    refine jk_iconst (x := 1) K dL_law_647 rfl ?_
    refine jk_iadd K dL_law_648 ?_
    refine jk_xld (v := xs (4 * j + 1)) K XL dL_law_649 (lw_i hj hL (c := 1) (by decide)).1 (congrArg xs (lw_i hj hL (c := 1) (by decide)).2) ?_
    refine jk_cVi K (n' := (nn + 1)) (k' := (ks + 6)) [.int (xs (4 * j + 1))] [] dL_law_650 (hb_X3_setHaze _ hl E (hb_v1 E q b1 b2 [hb_o E ao O] C G M C2 G2 M2) [] m th S N a n R.1 (xs (4 * j + 1))) gL_law_X3_setHaze rfl kd_X3_setHaze ⟨Nat.le_of_ble_eq_true rfl, Nat.le_of_ble_eq_true rfl⟩ _ hm_x0 rfl (Nat.le_of_ble_eq_true rfl) ⟨rfl, rfl⟩ ⟨(by show _ ≤ 601024; omega), (by show _ ≤ 7293034; omega)⟩ rfl (fun v hv => ?_)
    obtain ⟨e1, ek, R2⟩ := lp_setHaze_no (k := k) (v := v) R hu hv
    refine jk_ws (ws' := (lw_w E q b1 b2 ao m O C G M C2 G2 M2 v.1 n v.2.2 N a)) rfl ?_
    refine jk_st (st' := [.int v.2.1]) rfl ?_
    refine jk_istore (lv' := [(6, .int v.2.1), (5, .int k), (4, .int (nI (4 * j))), (3, .ref ao), (2, .ref (m 0)), (1, .ref q), (0, .ref sb)]) K dL_law_653 (by decide) rfl ?_
    refine jk_aload_n K dL_law_655 rfl 4 rfl ?_
    refine jk_cVi K (n' := (nn + 1)) (k' := (ks + 6)) [] [] dL_law_656 (hb_X3_thrown _ hl E (hb_v1 E q b1 b2 [hb_o E ao O] C G M C2 G2 M2) [] m v.1 v.2.2 N a n R2.1) gL_law_X3_thrown rfl kd_X3_thrown ⟨Nat.le_of_ble_eq_true rfl, Nat.le_of_ble_eq_true rfl⟩ _ hm_x0 rfl (Nat.le_of_ble_eq_true rfl) ⟨rfl, rfl⟩ ⟨(by show _ ≤ 601024; omega), (by show _ ≤ 7293034; omega)⟩ rfl (fun _ _ => ?_)
    refine jk_st (st' := [.int k]) (by rw [e1]) ?_
    refine jk_iload K dL_law_659 1 rfl ?_
    refine jk_icmp_eq (tgt := 666) K dL_law_661 rfl (fun c_661 => ?_) (fun c_661 => ?_)
    · refine jk_iload K dL_law_666 1 rfl ?_
      refine jk_if_ne (tgt := 683) K dL_law_668 rfl (fun c_668 => ?_) (fun c_668 => ?_)
      · refine jk_goto (tgt := 2155) K dL_law_683 rfl ?_
        refine jk_sub (lv' := [(4, .int (nI (4 * j))), (3, .ref ao), (2, .ref (m 0)), (1, .ref q), (0, .ref sb)]) [2, 3, 4, 5, 6] rfl ?_
        refine jk_wide (n' := nn + 11) (k' := ks + 117) (by omega) (by omega) ?_
        exact kk _ _ _ _ _ _ _ _ _ _ _ _ R2
      · exact absurd c_668 ek
    · exact absurd rfl c_661
set_option maxHeartbeats 4000000 in
set_option maxRecDepth 100000 in
theorem lw_c7 {Γ : jk_G} {E : jk_T} (K : jk_C Γ E RL cL_law 9 wsL_law ({ frames := 13, cells := 601024, slots := 7293034, locals := 468 } : Room)) {sb L : Nat} {xs : Nat → Int32} (XL : jk_LX Γ sb L xs) (hL : L ≤ 2048) {j : Nat} (hj : 4 * j + 3 < L) {nn ks : Nat} (hnn : nn + 11 ≤ 601024) (hks : ks + 117 ≤ 7293034) {q : Nat} {b1 b2 : Nat → Nat} {ao : Nat} {m : Nat → Nat} {O : Nat → Int64} {C : Nat → Nat → Int32} {G M : Nat → Int32} {C2 : Nat → Nat → Int32} {G2 M2 : Nat → Int32} {th : Int32} {n : Nat} {S : Nat → Int32} {N a : Nat → Nat → Int32} (R : hm_R n C G M S N a) (kk : ∀ (O : Nat → Int64) (C : Nat → Nat → Int32) (G M : Nat → Int32) (C2 : Nat → Nat → Int32) (G2 M2 : Nat → Int32) (th : Int32) (n : Nat) (S : Nat → Int32) (N a : Nat → Nat → Int32), hm_R n C G M S N a → jk_J Γ E (lw_w E q b1 b2 ao m O C G M C2 G2 M2 th n S N a) (nn + 11) (ks + 117) 2155 [(4, .int (nI (4 * j))), (3, .ref ao), (2, .ref (m 0)), (1, .ref q), (0, .ref sb)] []) : jk_J Γ E (lw_w E q b1 b2 ao m O C G M C2 G2 M2 th n S N a) nn ks 686 [(4, .int (nI (4 * j))), (3, .ref ao), (2, .ref (m 0)), (1, .ref q), (0, .ref sb)] [] := by
  have hl := K.2.2.2.2.2.2.2.2.2.2
  refine jk_aload_n K dL_law_686 rfl 3 rfl ?_
  refine jk_aload_n K dL_law_687 rfl 4 rfl ?_
  refine jk_iload K dL_law_688 0 rfl ?_
  refine jk_iconst (x := 1) K dL_law_690 rfl ?_
  refine jk_iadd K dL_law_691 ?_
  refine jk_xld (v := xs (4 * j + 1)) K XL dL_law_692 (lw_i hj hL (c := 1) (by decide)).1 (congrArg xs (lw_i hj hL (c := 1) (by decide)).2) ?_
  refine jk_aload_n K dL_law_693 rfl 1 rfl ?_
  refine jk_ws (ws' := (hb_v1 E q b1 b2 (hb_o E ao O :: (hm_MW E m th (nI n) S N a ++ [])) C G M C2 G2 M2)) lw_eq.symm ?_
  refine jk_cSiH K (n' := (nn + 2)) (k' := (ks + 12)) [.ref q, .int (xs (4 * j + 1)), .ref ao] [] dL_law_694 (hb_L_light _ hl E q b1 b2 ao O (hm_MW E m th (nI n) S N a ++ []) C G M C2 G2 M2 n R.1 R.2.2.1.1 (xs (4 * j + 1))) gL_law_L_light rfl kd_L_light ⟨Nat.le_of_ble_eq_true rfl, Nat.le_of_ble_eq_true rfl⟩ (Nat.le_of_ble_eq_true rfl) ⟨rfl, rfl⟩ ⟨(by show _ ≤ 601024; omega), (by show _ ≤ 7293034; omega)⟩ rfl (fun u hu => ?_)
  rcases u with u | k
  · refine jk_ws (ws' := (lw_w E q b1 b2 ao m (vp_updL O 0 (Int32.toInt64 (hb_hC C u u 7))) (hb_hC C u) (hb_kG G (nI u)) M C2 G2 M2 th n S N a)) lw_eq ?_
    refine jk_st (st' := [.int 0]) rfl ?_
    refine jk_istore (lv' := [(5, .int 0), (4, .int (nI (4 * j))), (3, .ref ao), (2, .ref (m 0)), (1, .ref q), (0, .ref sb)]) K dL_law_697 (by decide) rfl ?_
    refine jk_aload_n K dL_law_699 rfl 3 rfl ?_
    refine jk_aload_n K dL_law_700 rfl 5 rfl ?_
    refine jk_iload K dL_law_701 1 rfl ?_
    refine jk_iconst (x := 1) K dL_law_703 rfl ?_
    refine jk_iadd K dL_law_704 ?_
    refine jk_xld (v := xs (4 * j + 1)) K XL dL_law_705 (lw_i hj hL (c := 1) (by decide)).1 (congrArg xs (lw_i hj hL (c := 1) (by decide)).2) ?_
    refine jk_cVi K (n' := (nn + 2)) (k' := (ks + 12)) [.int (xs (4 * j + 1))] [] dL_law_706 (hb_X3_light _ hl E (hb_v1 E q b1 b2 [hb_o E ao (vp_updL O 0 (Int32.toInt64 (hb_hC C u u 7)))] (hb_hC C u) (hb_kG G (nI u)) M C2 G2 M2) [] m th S N a n R.1 (xs (4 * j + 1))) gL_law_X3_light rfl kd_X3_light ⟨Nat.le_of_ble_eq_true rfl, Nat.le_of_ble_eq_true rfl⟩ _ hm_x0 rfl (Nat.le_of_ble_eq_true rfl) ⟨rfl, rfl⟩ ⟨(by show _ ≤ 601024; omega), (by show _ ≤ 7293034; omega)⟩ rfl (fun v hv => ?_)
    obtain ⟨e1, e2, R2⟩ := lp_light_ok (C2 := C2) (G2 := G2) (M2 := M2) (u := u) (v := v) R hu hv
    refine jk_ws (ws' := (lw_w E q b1 b2 ao m (vp_updL O 0 (Int32.toInt64 (hb_hC C u u 7))) (hb_hC C u) (hb_kG G (nI u)) M C2 G2 M2 v.1 n v.2.2.1 v.2.2.2 a)) rfl ?_
    refine jk_st (st' := [.int (hb_hC C u u 7)]) (by rw [e2]) ?_
    refine jk_istore (lv' := [(6, .int (hb_hC C u u 7)), (5, .int 0), (4, .int (nI (4 * j))), (3, .ref ao), (2, .ref (m 0)), (1, .ref q), (0, .ref sb)]) K dL_law_709 (by decide) rfl ?_
    refine jk_aload_n K dL_law_711 rfl 4 rfl ?_
    refine jk_cVi K (n' := (nn + 2)) (k' := (ks + 12)) [] [] dL_law_712 (hb_X3_thrown _ hl E (hb_v1 E q b1 b2 [hb_o E ao (vp_updL O 0 (Int32.toInt64 (hb_hC C u u 7)))] (hb_hC C u) (hb_kG G (nI u)) M C2 G2 M2) [] m v.1 v.2.2.1 v.2.2.2 a n R2.1) gL_law_X3_thrown rfl kd_X3_thrown ⟨Nat.le_of_ble_eq_true rfl, Nat.le_of_ble_eq_true rfl⟩ _ hm_x0 rfl (Nat.le_of_ble_eq_true rfl) ⟨rfl, rfl⟩ ⟨(by show _ ≤ 601024; omega), (by show _ ≤ 7293034; omega)⟩ rfl (fun _ _ => ?_)
    refine jk_st (st' := [.int 0]) (by rw [e1]) ?_
    refine jk_iload K dL_law_715 1 rfl ?_
    refine jk_icmp_eq (tgt := 722) K dL_law_717 rfl (fun c_717 => ?_) (fun c_717 => ?_)
    · refine jk_iload K dL_law_722 1 rfl ?_
      refine jk_if_ne (tgt := 739) K dL_law_724 rfl (fun c_724 => ?_) (fun c_724 => ?_)
      · exact absurd (by decide) c_724
      · refine jk_aload_n K dL_law_727 rfl 3 rfl ?_
        refine jk_iconst (x := 0) K dL_law_728 rfl ?_
        refine jk_lald (v := (Int32.toInt64 (hb_hC C u u 7))) K dL_law_729 29 lw_out (vp_in_nI (n := 0) (by decide) (by decide)) (by rw [show Int32.toNatClampNeg 0 = 0 from by decide]; exact if_pos rfl) ?_
        refine jk_iload K dL_law_730 0 rfl ?_
        refine jk_i2l K dL_law_732 ?_
        refine jk_lcmp K dL_law_733 ?_
        refine jk_st (st' := [.int 0]) (by rw [lg_self]) ?_
        refine jk_if_eq (tgt := 739) K dL_law_734 rfl (fun c_734 => ?_) (fun c_734 => ?_)
        · refine jk_goto (tgt := 2155) K dL_law_739 rfl ?_
          refine jk_sub (lv' := [(4, .int (nI (4 * j))), (3, .ref ao), (2, .ref (m 0)), (1, .ref q), (0, .ref sb)]) [2, 3, 4, 5, 6] rfl ?_
          refine jk_wide (n' := nn + 11) (k' := ks + 117) (by omega) (by omega) ?_
          exact kk _ _ _ _ _ _ _ _ _ _ _ _ R2
        · exact absurd (by decide) c_734
    · exact absurd (by decide) c_717
  · refine jk_ws (ws' := (lw_w E q b1 b2 ao m O C G M C2 G2 M2 th n S N a)) lw_eq ?_
    refine jk_st (st' := [.int k]) rfl ?_
    refine jk_istore (lv' := [(5, .int k), (4, .int (nI (4 * j))), (3, .ref ao), (2, .ref (m 0)), (1, .ref q), (0, .ref sb)]) K dL_law_697 (by decide) rfl ?_
    refine jk_aload_n K dL_law_699 rfl 3 rfl ?_
    refine jk_aload_n K dL_law_700 rfl 5 rfl ?_
    refine jk_iload K dL_law_701 1 rfl ?_
    refine jk_iconst (x := 1) K dL_law_703 rfl ?_
    refine jk_iadd K dL_law_704 ?_
    refine jk_xld (v := xs (4 * j + 1)) K XL dL_law_705 (lw_i hj hL (c := 1) (by decide)).1 (congrArg xs (lw_i hj hL (c := 1) (by decide)).2) ?_
    refine jk_cVi K (n' := (nn + 2)) (k' := (ks + 12)) [.int (xs (4 * j + 1))] [] dL_law_706 (hb_X3_light _ hl E (hb_v1 E q b1 b2 [hb_o E ao O] C G M C2 G2 M2) [] m th S N a n R.1 (xs (4 * j + 1))) gL_law_X3_light rfl kd_X3_light ⟨Nat.le_of_ble_eq_true rfl, Nat.le_of_ble_eq_true rfl⟩ _ hm_x0 rfl (Nat.le_of_ble_eq_true rfl) ⟨rfl, rfl⟩ ⟨(by show _ ≤ 601024; omega), (by show _ ≤ 7293034; omega)⟩ rfl (fun v hv => ?_)
    obtain ⟨e1, ek, R2⟩ := lp_light_no (k := k) (v := v) R hu hv
    refine jk_ws (ws' := (lw_w E q b1 b2 ao m O C G M C2 G2 M2 v.1 n v.2.2.1 v.2.2.2 a)) rfl ?_
    refine jk_st (st' := [.int v.2.1]) rfl ?_
    refine jk_istore (lv' := [(6, .int v.2.1), (5, .int k), (4, .int (nI (4 * j))), (3, .ref ao), (2, .ref (m 0)), (1, .ref q), (0, .ref sb)]) K dL_law_709 (by decide) rfl ?_
    refine jk_aload_n K dL_law_711 rfl 4 rfl ?_
    refine jk_cVi K (n' := (nn + 2)) (k' := (ks + 12)) [] [] dL_law_712 (hb_X3_thrown _ hl E (hb_v1 E q b1 b2 [hb_o E ao O] C G M C2 G2 M2) [] m v.1 v.2.2.1 v.2.2.2 a n R2.1) gL_law_X3_thrown rfl kd_X3_thrown ⟨Nat.le_of_ble_eq_true rfl, Nat.le_of_ble_eq_true rfl⟩ _ hm_x0 rfl (Nat.le_of_ble_eq_true rfl) ⟨rfl, rfl⟩ ⟨(by show _ ≤ 601024; omega), (by show _ ≤ 7293034; omega)⟩ rfl (fun _ _ => ?_)
    refine jk_st (st' := [.int k]) (by rw [e1]) ?_
    refine jk_iload K dL_law_715 1 rfl ?_
    refine jk_icmp_eq (tgt := 722) K dL_law_717 rfl (fun c_717 => ?_) (fun c_717 => ?_)
    · refine jk_iload K dL_law_722 1 rfl ?_
      refine jk_if_ne (tgt := 739) K dL_law_724 rfl (fun c_724 => ?_) (fun c_724 => ?_)
      · refine jk_goto (tgt := 2155) K dL_law_739 rfl ?_
        refine jk_sub (lv' := [(4, .int (nI (4 * j))), (3, .ref ao), (2, .ref (m 0)), (1, .ref q), (0, .ref sb)]) [2, 3, 4, 5, 6] rfl ?_
        refine jk_wide (n' := nn + 11) (k' := ks + 117) (by omega) (by omega) ?_
        exact kk _ _ _ _ _ _ _ _ _ _ _ _ R2
      · exact absurd c_724 ek
    · exact absurd rfl c_717
set_option maxHeartbeats 4000000 in
set_option maxRecDepth 100000 in
theorem lw_c8 {Γ : jk_G} {E : jk_T} (K : jk_C Γ E RL cL_law 9 wsL_law ({ frames := 13, cells := 601024, slots := 7293034, locals := 468 } : Room)) {sb L : Nat} {xs : Nat → Int32} (XL : jk_LX Γ sb L xs) (hL : L ≤ 2048) {j : Nat} (hj : 4 * j + 3 < L) {nn ks : Nat} (hnn : nn + 11 ≤ 601024) (hks : ks + 117 ≤ 7293034) {q : Nat} {b1 b2 : Nat → Nat} {ao : Nat} {m : Nat → Nat} {O : Nat → Int64} {C : Nat → Nat → Int32} {G M : Nat → Int32} {C2 : Nat → Nat → Int32} {G2 M2 : Nat → Int32} {th : Int32} {n : Nat} {S : Nat → Int32} {N a : Nat → Nat → Int32} (R : hm_R n C G M S N a) (kk : ∀ (O : Nat → Int64) (C : Nat → Nat → Int32) (G M : Nat → Int32) (C2 : Nat → Nat → Int32) (G2 M2 : Nat → Int32) (th : Int32) (n : Nat) (S : Nat → Int32) (N a : Nat → Nat → Int32), hm_R n C G M S N a → jk_J Γ E (lw_w E q b1 b2 ao m O C G M C2 G2 M2 th n S N a) (nn + 11) (ks + 117) 2155 [(4, .int (nI (4 * j))), (3, .ref ao), (2, .ref (m 0)), (1, .ref q), (0, .ref sb)] []) : jk_J Γ E (lw_w E q b1 b2 ao m O C G M C2 G2 M2 th n S N a) nn ks 742 [(4, .int (nI (4 * j))), (3, .ref ao), (2, .ref (m 0)), (1, .ref q), (0, .ref sb)] [] := by
  have hl := K.2.2.2.2.2.2.2.2.2.2
  refine jk_aload_n K dL_law_742 rfl 3 rfl ?_
  refine jk_aload_n K dL_law_743 rfl 4 rfl ?_
  refine jk_iload K dL_law_744 0 rfl ?_
  refine jk_iconst (x := 1) K dL_law_746 rfl ?_
  refine jk_iadd K dL_law_747 ?_
  refine jk_xld (v := xs (4 * j + 1)) K XL dL_law_748 (lw_i hj hL (c := 1) (by decide)).1 (congrArg xs (lw_i hj hL (c := 1) (by decide)).2) ?_
  refine jk_aload_n K dL_law_749 rfl 1 rfl ?_
  refine jk_ws (ws' := (hb_v1 E q b1 b2 (hb_o E ao O :: (hm_MW E m th (nI n) S N a ++ [])) C G M C2 G2 M2)) lw_eq.symm ?_
  refine jk_cSiH K (n' := (nn + 2)) (k' := (ks + 12)) [.ref q, .int (xs (4 * j + 1)), .ref ao] [] dL_law_750 (hb_L_douse _ hl E q b1 b2 ao O (hm_MW E m th (nI n) S N a ++ []) C G M C2 G2 M2 n R.1 R.2.2.1.1 (xs (4 * j + 1))) gL_law_L_douse rfl kd_L_douse ⟨Nat.le_of_ble_eq_true rfl, Nat.le_of_ble_eq_true rfl⟩ (Nat.le_of_ble_eq_true rfl) ⟨rfl, rfl⟩ ⟨(by show _ ≤ 601024; omega), (by show _ ≤ 7293034; omega)⟩ rfl (fun u hu => ?_)
  rcases u with u | k
  · refine jk_ws (ws' := (lw_w E q b1 b2 ao m (vp_updL O 0 (Int32.toInt64 (C u 0))) (va_up C u (hb_darkF (C u))) G M C2 G2 M2 th n S N a)) lw_eq ?_
    refine jk_st (st' := [.int 0]) rfl ?_
    refine jk_istore (lv' := [(5, .int 0), (4, .int (nI (4 * j))), (3, .ref ao), (2, .ref (m 0)), (1, .ref q), (0, .ref sb)]) K dL_law_753 (by decide) rfl ?_
    refine jk_aload_n K dL_law_755 rfl 3 rfl ?_
    refine jk_aload_n K dL_law_756 rfl 5 rfl ?_
    refine jk_iload K dL_law_757 1 rfl ?_
    refine jk_iconst (x := 1) K dL_law_759 rfl ?_
    refine jk_iadd K dL_law_760 ?_
    refine jk_xld (v := xs (4 * j + 1)) K XL dL_law_761 (lw_i hj hL (c := 1) (by decide)).1 (congrArg xs (lw_i hj hL (c := 1) (by decide)).2) ?_
    refine jk_cVi K (n' := (nn + 2)) (k' := (ks + 12)) [.int (xs (4 * j + 1))] [] dL_law_762 (hb_X3_douse _ hl E (hb_v1 E q b1 b2 [hb_o E ao (vp_updL O 0 (Int32.toInt64 (C u 0)))] (va_up C u (hb_darkF (C u))) G M C2 G2 M2) [] m th S N a n R.1 (xs (4 * j + 1))) gL_law_X3_douse rfl kd_X3_douse ⟨Nat.le_of_ble_eq_true rfl, Nat.le_of_ble_eq_true rfl⟩ _ hm_x0 rfl (Nat.le_of_ble_eq_true rfl) ⟨rfl, rfl⟩ ⟨(by show _ ≤ 601024; omega), (by show _ ≤ 7293034; omega)⟩ rfl (fun v hv => ?_)
    obtain ⟨e1, e2, R2⟩ := lp_douse_ok (C2 := C2) (G2 := G2) (M2 := M2) (u := u) (v := v) R hu hv
    refine jk_ws (ws' := (lw_w E q b1 b2 ao m (vp_updL O 0 (Int32.toInt64 (C u 0))) (va_up C u (hb_darkF (C u))) G M C2 G2 M2 v.1 n v.2.2.1 v.2.2.2 a)) rfl ?_
    refine jk_st (st' := [.int (C u 0)]) (by rw [e2]) ?_
    refine jk_istore (lv' := [(6, .int (C u 0)), (5, .int 0), (4, .int (nI (4 * j))), (3, .ref ao), (2, .ref (m 0)), (1, .ref q), (0, .ref sb)]) K dL_law_765 (by decide) rfl ?_
    refine jk_aload_n K dL_law_767 rfl 4 rfl ?_
    refine jk_cVi K (n' := (nn + 2)) (k' := (ks + 12)) [] [] dL_law_768 (hb_X3_thrown _ hl E (hb_v1 E q b1 b2 [hb_o E ao (vp_updL O 0 (Int32.toInt64 (C u 0)))] (va_up C u (hb_darkF (C u))) G M C2 G2 M2) [] m v.1 v.2.2.1 v.2.2.2 a n R2.1) gL_law_X3_thrown rfl kd_X3_thrown ⟨Nat.le_of_ble_eq_true rfl, Nat.le_of_ble_eq_true rfl⟩ _ hm_x0 rfl (Nat.le_of_ble_eq_true rfl) ⟨rfl, rfl⟩ ⟨(by show _ ≤ 601024; omega), (by show _ ≤ 7293034; omega)⟩ rfl (fun _ _ => ?_)
    refine jk_st (st' := [.int 0]) (by rw [e1]) ?_
    refine jk_iload K dL_law_771 1 rfl ?_
    refine jk_icmp_eq (tgt := 778) K dL_law_773 rfl (fun c_773 => ?_) (fun c_773 => ?_)
    · refine jk_iload K dL_law_778 1 rfl ?_
      refine jk_if_ne (tgt := 795) K dL_law_780 rfl (fun c_780 => ?_) (fun c_780 => ?_)
      · exact absurd (by decide) c_780
      · refine jk_aload_n K dL_law_783 rfl 3 rfl ?_
        refine jk_iconst (x := 0) K dL_law_784 rfl ?_
        refine jk_lald (v := (Int32.toInt64 (C u 0))) K dL_law_785 29 lw_out (vp_in_nI (n := 0) (by decide) (by decide)) (by rw [show Int32.toNatClampNeg 0 = 0 from by decide]; exact if_pos rfl) ?_
        refine jk_iload K dL_law_786 0 rfl ?_
        refine jk_i2l K dL_law_788 ?_
        refine jk_lcmp K dL_law_789 ?_
        refine jk_st (st' := [.int 0]) (by rw [lg_self]) ?_
        refine jk_if_eq (tgt := 795) K dL_law_790 rfl (fun c_790 => ?_) (fun c_790 => ?_)
        · refine jk_goto (tgt := 2155) K dL_law_795 rfl ?_
          refine jk_sub (lv' := [(4, .int (nI (4 * j))), (3, .ref ao), (2, .ref (m 0)), (1, .ref q), (0, .ref sb)]) [2, 3, 4, 5, 6] rfl ?_
          refine jk_wide (n' := nn + 11) (k' := ks + 117) (by omega) (by omega) ?_
          exact kk _ _ _ _ _ _ _ _ _ _ _ _ R2
        · exact absurd (by decide) c_790
    · exact absurd (by decide) c_773
  · refine jk_ws (ws' := (lw_w E q b1 b2 ao m O C G M C2 G2 M2 th n S N a)) lw_eq ?_
    refine jk_st (st' := [.int k]) rfl ?_
    refine jk_istore (lv' := [(5, .int k), (4, .int (nI (4 * j))), (3, .ref ao), (2, .ref (m 0)), (1, .ref q), (0, .ref sb)]) K dL_law_753 (by decide) rfl ?_
    refine jk_aload_n K dL_law_755 rfl 3 rfl ?_
    refine jk_aload_n K dL_law_756 rfl 5 rfl ?_
    refine jk_iload K dL_law_757 1 rfl ?_
    refine jk_iconst (x := 1) K dL_law_759 rfl ?_
    refine jk_iadd K dL_law_760 ?_
    refine jk_xld (v := xs (4 * j + 1)) K XL dL_law_761 (lw_i hj hL (c := 1) (by decide)).1 (congrArg xs (lw_i hj hL (c := 1) (by decide)).2) ?_
    refine jk_cVi K (n' := (nn + 2)) (k' := (ks + 12)) [.int (xs (4 * j + 1))] [] dL_law_762 (hb_X3_douse _ hl E (hb_v1 E q b1 b2 [hb_o E ao O] C G M C2 G2 M2) [] m th S N a n R.1 (xs (4 * j + 1))) gL_law_X3_douse rfl kd_X3_douse ⟨Nat.le_of_ble_eq_true rfl, Nat.le_of_ble_eq_true rfl⟩ _ hm_x0 rfl (Nat.le_of_ble_eq_true rfl) ⟨rfl, rfl⟩ ⟨(by show _ ≤ 601024; omega), (by show _ ≤ 7293034; omega)⟩ rfl (fun v hv => ?_)
    obtain ⟨e1, ek, R2⟩ := lp_douse_no (k := k) (v := v) R hu hv
    refine jk_ws (ws' := (lw_w E q b1 b2 ao m O C G M C2 G2 M2 v.1 n v.2.2.1 v.2.2.2 a)) rfl ?_
    refine jk_st (st' := [.int v.2.1]) rfl ?_
    refine jk_istore (lv' := [(6, .int v.2.1), (5, .int k), (4, .int (nI (4 * j))), (3, .ref ao), (2, .ref (m 0)), (1, .ref q), (0, .ref sb)]) K dL_law_765 (by decide) rfl ?_
    refine jk_aload_n K dL_law_767 rfl 4 rfl ?_
    refine jk_cVi K (n' := (nn + 2)) (k' := (ks + 12)) [] [] dL_law_768 (hb_X3_thrown _ hl E (hb_v1 E q b1 b2 [hb_o E ao O] C G M C2 G2 M2) [] m v.1 v.2.2.1 v.2.2.2 a n R2.1) gL_law_X3_thrown rfl kd_X3_thrown ⟨Nat.le_of_ble_eq_true rfl, Nat.le_of_ble_eq_true rfl⟩ _ hm_x0 rfl (Nat.le_of_ble_eq_true rfl) ⟨rfl, rfl⟩ ⟨(by show _ ≤ 601024; omega), (by show _ ≤ 7293034; omega)⟩ rfl (fun _ _ => ?_)
    refine jk_st (st' := [.int k]) (by rw [e1]) ?_
    refine jk_iload K dL_law_771 1 rfl ?_
    refine jk_icmp_eq (tgt := 778) K dL_law_773 rfl (fun c_773 => ?_) (fun c_773 => ?_)
    · refine jk_iload K dL_law_778 1 rfl ?_
      refine jk_if_ne (tgt := 795) K dL_law_780 rfl (fun c_780 => ?_) (fun c_780 => ?_)
      · refine jk_goto (tgt := 2155) K dL_law_795 rfl ?_
        refine jk_sub (lv' := [(4, .int (nI (4 * j))), (3, .ref ao), (2, .ref (m 0)), (1, .ref q), (0, .ref sb)]) [2, 3, 4, 5, 6] rfl ?_
        refine jk_wide (n' := nn + 11) (k' := ks + 117) (by omega) (by omega) ?_
        exact kk _ _ _ _ _ _ _ _ _ _ _ _ R2
      · exact absurd c_780 ek
    · exact absurd rfl c_773
set_option maxHeartbeats 4000000 in
set_option maxRecDepth 100000 in
theorem lw_c9 {Γ : jk_G} {E : jk_T} (K : jk_C Γ E RL cL_law 9 wsL_law ({ frames := 13, cells := 601024, slots := 7293034, locals := 468 } : Room)) {sb L : Nat} {xs : Nat → Int32} (XL : jk_LX Γ sb L xs) (hL : L ≤ 2048) {j : Nat} (hj : 4 * j + 3 < L) {nn ks : Nat} (hnn : nn + 11 ≤ 601024) (hks : ks + 117 ≤ 7293034) {q : Nat} {b1 b2 : Nat → Nat} {ao : Nat} {m : Nat → Nat} {O : Nat → Int64} {C : Nat → Nat → Int32} {G M : Nat → Int32} {C2 : Nat → Nat → Int32} {G2 M2 : Nat → Int32} {th : Int32} {n : Nat} {S : Nat → Int32} {N a : Nat → Nat → Int32} (R : hm_R n C G M S N a) (kk : ∀ (O : Nat → Int64) (C : Nat → Nat → Int32) (G M : Nat → Int32) (C2 : Nat → Nat → Int32) (G2 M2 : Nat → Int32) (th : Int32) (n : Nat) (S : Nat → Int32) (N a : Nat → Nat → Int32), hm_R n C G M S N a → jk_J Γ E (lw_w E q b1 b2 ao m O C G M C2 G2 M2 th n S N a) (nn + 11) (ks + 117) 2155 [(4, .int (nI (4 * j))), (3, .ref ao), (2, .ref (m 0)), (1, .ref q), (0, .ref sb)] []) : jk_J Γ E (lw_w E q b1 b2 ao m O C G M C2 G2 M2 th n S N a) nn ks 798 [(4, .int (nI (4 * j))), (3, .ref ao), (2, .ref (m 0)), (1, .ref q), (0, .ref sb)] [] := by
  have hl := K.2.2.2.2.2.2.2.2.2.2
  refine jk_aload_n K dL_law_798 rfl 3 rfl ?_
  refine jk_aload_n K dL_law_799 rfl 4 rfl ?_
  refine jk_iload K dL_law_800 0 rfl ?_
  refine jk_iconst (x := 1) K dL_law_802 rfl ?_
  refine jk_iadd K dL_law_803 ?_
  refine jk_xld (v := xs (4 * j + 1)) K XL dL_law_804 (lw_i hj hL (c := 1) (by decide)).1 (congrArg xs (lw_i hj hL (c := 1) (by decide)).2) ?_
  refine jk_aload_n K dL_law_805 rfl 1 rfl ?_
  refine jk_ws (ws' := (hb_v1 E q b1 b2 (hb_o E ao O :: (hm_MW E m th (nI n) S N a ++ [])) C G M C2 G2 M2)) lw_eq.symm ?_
  refine jk_cSiH K (n' := (nn + 1)) (k' := (ks + 6)) [.ref q, .int (xs (4 * j + 1)), .ref ao] [] dL_law_806 (hb_L_glow _ hl E q b1 b2 ao O (hm_MW E m th (nI n) S N a ++ []) C G M C2 G2 M2 n R.1 R.2.2.1.1 (xs (4 * j + 1))) gL_law_L_glow rfl kd_L_glow ⟨Nat.le_of_ble_eq_true rfl, Nat.le_of_ble_eq_true rfl⟩ (Nat.le_of_ble_eq_true rfl) ⟨rfl, rfl⟩ ⟨(by show _ ≤ 601024; omega), (by show _ ≤ 7293034; omega)⟩ rfl (fun u hu => ?_)
  rcases u with u | k
  · refine jk_ws (ws' := (lw_w E q b1 b2 ao m (vp_updL O 0 (Int32.toInt64 (G 2))) C (hb_fu G 2 (xs (4 * j + 1))) M C2 G2 M2 th n S N a)) lw_eq ?_
    refine jk_st (st' := [.int 0]) rfl ?_
    refine jk_istore (lv' := [(5, .int 0), (4, .int (nI (4 * j))), (3, .ref ao), (2, .ref (m 0)), (1, .ref q), (0, .ref sb)]) K dL_law_809 (by decide) rfl ?_
    refine jk_aload_n K dL_law_811 rfl 3 rfl ?_
    refine jk_aload_n K dL_law_812 rfl 5 rfl ?_
    refine jk_iload K dL_law_813 1 rfl ?_
    refine jk_iconst (x := 1) K dL_law_815 rfl ?_
    refine jk_iadd K dL_law_816 ?_
    refine jk_xld (v := xs (4 * j + 1)) K XL dL_law_817 (lw_i hj hL (c := 1) (by decide)).1 (congrArg xs (lw_i hj hL (c := 1) (by decide)).2) ?_
    refine jk_cVi K (n' := (nn + 1)) (k' := (ks + 6)) [.int (xs (4 * j + 1))] [] dL_law_818 (hb_X3_glow _ hl E (hb_v1 E q b1 b2 [hb_o E ao (vp_updL O 0 (Int32.toInt64 (G 2)))] C (hb_fu G 2 (xs (4 * j + 1))) M C2 G2 M2) [] m th S N a n R.1 (xs (4 * j + 1))) gL_law_X3_glow rfl kd_X3_glow ⟨Nat.le_of_ble_eq_true rfl, Nat.le_of_ble_eq_true rfl⟩ _ hm_x0 rfl (Nat.le_of_ble_eq_true rfl) ⟨rfl, rfl⟩ ⟨(by show _ ≤ 601024; omega), (by show _ ≤ 7293034; omega)⟩ rfl (fun v hv => ?_)
    obtain ⟨e1, e2, R2⟩ := lp_glow_ok (C2 := C2) (G2 := G2) (M2 := M2) (u := u) (v := v) R hu hv
    refine jk_ws (ws' := (lw_w E q b1 b2 ao m (vp_updL O 0 (Int32.toInt64 (G 2))) C (hb_fu G 2 (xs (4 * j + 1))) M C2 G2 M2 v.1 n v.2.2 N a)) rfl ?_
    refine jk_st (st' := [.int (G 2)]) (by rw [e2]) ?_
    refine jk_istore (lv' := [(6, .int (G 2)), (5, .int 0), (4, .int (nI (4 * j))), (3, .ref ao), (2, .ref (m 0)), (1, .ref q), (0, .ref sb)]) K dL_law_821 (by decide) rfl ?_
    refine jk_aload_n K dL_law_823 rfl 4 rfl ?_
    refine jk_cVi K (n' := (nn + 1)) (k' := (ks + 6)) [] [] dL_law_824 (hb_X3_thrown _ hl E (hb_v1 E q b1 b2 [hb_o E ao (vp_updL O 0 (Int32.toInt64 (G 2)))] C (hb_fu G 2 (xs (4 * j + 1))) M C2 G2 M2) [] m v.1 v.2.2 N a n R2.1) gL_law_X3_thrown rfl kd_X3_thrown ⟨Nat.le_of_ble_eq_true rfl, Nat.le_of_ble_eq_true rfl⟩ _ hm_x0 rfl (Nat.le_of_ble_eq_true rfl) ⟨rfl, rfl⟩ ⟨(by show _ ≤ 601024; omega), (by show _ ≤ 7293034; omega)⟩ rfl (fun _ _ => ?_)
    refine jk_st (st' := [.int 0]) (by rw [e1]) ?_
    refine jk_iload K dL_law_827 1 rfl ?_
    refine jk_icmp_eq (tgt := 834) K dL_law_829 rfl (fun c_829 => ?_) (fun c_829 => ?_)
    · refine jk_iload K dL_law_834 1 rfl ?_
      refine jk_if_ne (tgt := 851) K dL_law_836 rfl (fun c_836 => ?_) (fun c_836 => ?_)
      · exact absurd (by decide) c_836
      · refine jk_aload_n K dL_law_839 rfl 3 rfl ?_
        refine jk_iconst (x := 0) K dL_law_840 rfl ?_
        refine jk_lald (v := (Int32.toInt64 (G 2))) K dL_law_841 29 lw_out (vp_in_nI (n := 0) (by decide) (by decide)) (by rw [show Int32.toNatClampNeg 0 = 0 from by decide]; exact if_pos rfl) ?_
        refine jk_iload K dL_law_842 0 rfl ?_
        refine jk_i2l K dL_law_844 ?_
        refine jk_lcmp K dL_law_845 ?_
        refine jk_st (st' := [.int 0]) (by rw [lg_self]) ?_
        refine jk_if_eq (tgt := 851) K dL_law_846 rfl (fun c_846 => ?_) (fun c_846 => ?_)
        · refine jk_goto (tgt := 2155) K dL_law_851 rfl ?_
          refine jk_sub (lv' := [(4, .int (nI (4 * j))), (3, .ref ao), (2, .ref (m 0)), (1, .ref q), (0, .ref sb)]) [2, 3, 4, 5, 6] rfl ?_
          refine jk_wide (n' := nn + 11) (k' := ks + 117) (by omega) (by omega) ?_
          exact kk _ _ _ _ _ _ _ _ _ _ _ _ R2
        · exact absurd (by decide) c_846
    · exact absurd (by decide) c_829
  · refine jk_ws (ws' := (lw_w E q b1 b2 ao m O C G M C2 G2 M2 th n S N a)) lw_eq ?_
    refine jk_st (st' := [.int k]) rfl ?_
    refine jk_istore (lv' := [(5, .int k), (4, .int (nI (4 * j))), (3, .ref ao), (2, .ref (m 0)), (1, .ref q), (0, .ref sb)]) K dL_law_809 (by decide) rfl ?_
    refine jk_aload_n K dL_law_811 rfl 3 rfl ?_
    refine jk_aload_n K dL_law_812 rfl 5 rfl ?_
    refine jk_iload K dL_law_813 1 rfl ?_
    refine jk_iconst (x := 1) K dL_law_815 rfl ?_
    refine jk_iadd K dL_law_816 ?_
    refine jk_xld (v := xs (4 * j + 1)) K XL dL_law_817 (lw_i hj hL (c := 1) (by decide)).1 (congrArg xs (lw_i hj hL (c := 1) (by decide)).2) ?_
    refine jk_cVi K (n' := (nn + 1)) (k' := (ks + 6)) [.int (xs (4 * j + 1))] [] dL_law_818 (hb_X3_glow _ hl E (hb_v1 E q b1 b2 [hb_o E ao O] C G M C2 G2 M2) [] m th S N a n R.1 (xs (4 * j + 1))) gL_law_X3_glow rfl kd_X3_glow ⟨Nat.le_of_ble_eq_true rfl, Nat.le_of_ble_eq_true rfl⟩ _ hm_x0 rfl (Nat.le_of_ble_eq_true rfl) ⟨rfl, rfl⟩ ⟨(by show _ ≤ 601024; omega), (by show _ ≤ 7293034; omega)⟩ rfl (fun v hv => ?_)
    obtain ⟨e1, ek, R2⟩ := lp_glow_no (k := k) (v := v) R hu hv
    refine jk_ws (ws' := (lw_w E q b1 b2 ao m O C G M C2 G2 M2 v.1 n v.2.2 N a)) rfl ?_
    refine jk_st (st' := [.int v.2.1]) rfl ?_
    refine jk_istore (lv' := [(6, .int v.2.1), (5, .int k), (4, .int (nI (4 * j))), (3, .ref ao), (2, .ref (m 0)), (1, .ref q), (0, .ref sb)]) K dL_law_821 (by decide) rfl ?_
    refine jk_aload_n K dL_law_823 rfl 4 rfl ?_
    refine jk_cVi K (n' := (nn + 1)) (k' := (ks + 6)) [] [] dL_law_824 (hb_X3_thrown _ hl E (hb_v1 E q b1 b2 [hb_o E ao O] C G M C2 G2 M2) [] m v.1 v.2.2 N a n R2.1) gL_law_X3_thrown rfl kd_X3_thrown ⟨Nat.le_of_ble_eq_true rfl, Nat.le_of_ble_eq_true rfl⟩ _ hm_x0 rfl (Nat.le_of_ble_eq_true rfl) ⟨rfl, rfl⟩ ⟨(by show _ ≤ 601024; omega), (by show _ ≤ 7293034; omega)⟩ rfl (fun _ _ => ?_)
    refine jk_st (st' := [.int k]) (by rw [e1]) ?_
    refine jk_iload K dL_law_827 1 rfl ?_
    refine jk_icmp_eq (tgt := 834) K dL_law_829 rfl (fun c_829 => ?_) (fun c_829 => ?_)
    · refine jk_iload K dL_law_834 1 rfl ?_
      refine jk_if_ne (tgt := 851) K dL_law_836 rfl (fun c_836 => ?_) (fun c_836 => ?_)
      · refine jk_goto (tgt := 2155) K dL_law_851 rfl ?_
        refine jk_sub (lv' := [(4, .int (nI (4 * j))), (3, .ref ao), (2, .ref (m 0)), (1, .ref q), (0, .ref sb)]) [2, 3, 4, 5, 6] rfl ?_
        refine jk_wide (n' := nn + 11) (k' := ks + 117) (by omega) (by omega) ?_
        exact kk _ _ _ _ _ _ _ _ _ _ _ _ R2
      · exact absurd c_836 ek
    · exact absurd rfl c_829
set_option maxHeartbeats 4000000 in
set_option maxRecDepth 100000 in
theorem lw_c10 {Γ : jk_G} {E : jk_T} (K : jk_C Γ E RL cL_law 9 wsL_law ({ frames := 13, cells := 601024, slots := 7293034, locals := 468 } : Room)) {sb L : Nat} {xs : Nat → Int32} (XL : jk_LX Γ sb L xs) (hL : L ≤ 2048) {j : Nat} (hj : 4 * j + 3 < L) {nn ks : Nat} (hnn : nn + 11 ≤ 601024) (hks : ks + 117 ≤ 7293034) {q : Nat} {b1 b2 : Nat → Nat} {ao : Nat} {m : Nat → Nat} {O : Nat → Int64} {C : Nat → Nat → Int32} {G M : Nat → Int32} {C2 : Nat → Nat → Int32} {G2 M2 : Nat → Int32} {th : Int32} {n : Nat} {S : Nat → Int32} {N a : Nat → Nat → Int32} (R : hm_R n C G M S N a) (kk : ∀ (O : Nat → Int64) (C : Nat → Nat → Int32) (G M : Nat → Int32) (C2 : Nat → Nat → Int32) (G2 M2 : Nat → Int32) (th : Int32) (n : Nat) (S : Nat → Int32) (N a : Nat → Nat → Int32), hm_R n C G M S N a → jk_J Γ E (lw_w E q b1 b2 ao m O C G M C2 G2 M2 th n S N a) (nn + 11) (ks + 117) 2155 [(4, .int (nI (4 * j))), (3, .ref ao), (2, .ref (m 0)), (1, .ref q), (0, .ref sb)] []) : jk_J Γ E (lw_w E q b1 b2 ao m O C G M C2 G2 M2 th n S N a) nn ks 854 [(4, .int (nI (4 * j))), (3, .ref ao), (2, .ref (m 0)), (1, .ref q), (0, .ref sb)] [] := by
  have hl := K.2.2.2.2.2.2.2.2.2.2
  refine jk_aload_n K dL_law_854 rfl 3 rfl ?_
  refine jk_aload_n K dL_law_855 rfl 4 rfl ?_
  refine jk_iload K dL_law_856 0 rfl ?_
  refine jk_iconst (x := 1) K dL_law_858 rfl ?_
  refine jk_iadd K dL_law_859 ?_
  refine jk_xld (v := xs (4 * j + 1)) K XL dL_law_860 (lw_i hj hL (c := 1) (by decide)).1 (congrArg xs (lw_i hj hL (c := 1) (by decide)).2) ?_
  refine jk_aload_n K dL_law_861 rfl 1 rfl ?_
  refine jk_ws (ws' := (hb_v1 E q b1 b2 (hb_o E ao O :: (hm_MW E m th (nI n) S N a ++ [])) C G M C2 G2 M2)) lw_eq.symm ?_
  refine jk_cSiH K (n' := (nn + 1)) (k' := (ks + 6)) [.ref q, .int (xs (4 * j + 1)), .ref ao] [] dL_law_862 (hb_L_passMinutes _ hl E q b1 b2 ao O (hm_MW E m th (nI n) S N a ++ []) C G M C2 G2 M2 n R.1 R.2.2.1.1 (xs (4 * j + 1))) gL_law_L_passMinutes rfl kd_L_passMinutes ⟨Nat.le_of_ble_eq_true rfl, Nat.le_of_ble_eq_true rfl⟩ (Nat.le_of_ble_eq_true rfl) ⟨rfl, rfl⟩ ⟨(by show _ ≤ 601024; omega), (by show _ ≤ 7293034; omega)⟩ rfl (fun u hu => ?_)
  rcases u with u | k
  · refine jk_ws (ws' := (lw_w E q b1 b2 ao m (vp_updL O 0 (Int32.toInt64 ((hb_pm C G M n u).2 4 - G 4))) ((hb_pm C G M n u).1) ((hb_pm C G M n u).2) M C2 G2 M2 th n S N a)) lw_eq ?_
    refine jk_st (st' := [.int 0]) rfl ?_
    refine jk_istore (lv' := [(5, .int 0), (4, .int (nI (4 * j))), (3, .ref ao), (2, .ref (m 0)), (1, .ref q), (0, .ref sb)]) K dL_law_865 (by decide) rfl ?_
    refine jk_aload_n K dL_law_867 rfl 3 rfl ?_
    refine jk_aload_n K dL_law_868 rfl 5 rfl ?_
    refine jk_iload K dL_law_869 1 rfl ?_
    refine jk_iconst (x := 1) K dL_law_871 rfl ?_
    refine jk_iadd K dL_law_872 ?_
    refine jk_xld (v := xs (4 * j + 1)) K XL dL_law_873 (lw_i hj hL (c := 1) (by decide)).1 (congrArg xs (lw_i hj hL (c := 1) (by decide)).2) ?_
    refine jk_cVi K (n' := (nn + 1)) (k' := (ks + 6)) [.int (xs (4 * j + 1))] [] dL_law_874 (hb_X3_passMinutes _ hl E (hb_v1 E q b1 b2 [hb_o E ao (vp_updL O 0 (Int32.toInt64 ((hb_pm C G M n u).2 4 - G 4)))] ((hb_pm C G M n u).1) ((hb_pm C G M n u).2) M C2 G2 M2) [] m th S N a n R.1 (xs (4 * j + 1)) (hm_R_so R)) gL_law_X3_passMinutes rfl kd_X3_passMinutes ⟨Nat.le_of_ble_eq_true rfl, Nat.le_of_ble_eq_true rfl⟩ _ hm_x0 rfl (Nat.le_of_ble_eq_true rfl) ⟨rfl, rfl⟩ ⟨(by show _ ≤ 601024; omega), (by show _ ≤ 7293034; omega)⟩ rfl (fun v hv => ?_)
    obtain ⟨e1, e2, R2⟩ := lp_passMinutes_ok (C2 := C2) (G2 := G2) (M2 := M2) (u := u) (v := v) R hu hv
    refine jk_ws (ws' := (lw_w E q b1 b2 ao m (vp_updL O 0 (Int32.toInt64 ((hb_pm C G M n u).2 4 - G 4))) ((hb_pm C G M n u).1) ((hb_pm C G M n u).2) M C2 G2 M2 v.1 n v.2.2.1 v.2.2.2.1 (va_up a 8 v.2.2.2.2))) rfl ?_
    refine jk_st (st' := [.int ((hb_pm C G M n u).2 4 - G 4)]) (by rw [e2]) ?_
    refine jk_istore (lv' := [(6, .int ((hb_pm C G M n u).2 4 - G 4)), (5, .int 0), (4, .int (nI (4 * j))), (3, .ref ao), (2, .ref (m 0)), (1, .ref q), (0, .ref sb)]) K dL_law_877 (by decide) rfl ?_
    refine jk_aload_n K dL_law_879 rfl 4 rfl ?_
    refine jk_cVi K (n' := (nn + 1)) (k' := (ks + 6)) [] [] dL_law_880 (hb_X3_thrown _ hl E (hb_v1 E q b1 b2 [hb_o E ao (vp_updL O 0 (Int32.toInt64 ((hb_pm C G M n u).2 4 - G 4)))] ((hb_pm C G M n u).1) ((hb_pm C G M n u).2) M C2 G2 M2) [] m v.1 v.2.2.1 v.2.2.2.1 (va_up a 8 v.2.2.2.2) n R2.1) gL_law_X3_thrown rfl kd_X3_thrown ⟨Nat.le_of_ble_eq_true rfl, Nat.le_of_ble_eq_true rfl⟩ _ hm_x0 rfl (Nat.le_of_ble_eq_true rfl) ⟨rfl, rfl⟩ ⟨(by show _ ≤ 601024; omega), (by show _ ≤ 7293034; omega)⟩ rfl (fun _ _ => ?_)
    refine jk_st (st' := [.int 0]) (by rw [e1]) ?_
    refine jk_iload K dL_law_883 1 rfl ?_
    refine jk_icmp_eq (tgt := 890) K dL_law_885 rfl (fun c_885 => ?_) (fun c_885 => ?_)
    · refine jk_iload K dL_law_890 1 rfl ?_
      refine jk_if_ne (tgt := 907) K dL_law_892 rfl (fun c_892 => ?_) (fun c_892 => ?_)
      · exact absurd (by decide) c_892
      · refine jk_aload_n K dL_law_895 rfl 3 rfl ?_
        refine jk_iconst (x := 0) K dL_law_896 rfl ?_
        refine jk_lald (v := (Int32.toInt64 ((hb_pm C G M n u).2 4 - G 4))) K dL_law_897 29 lw_out (vp_in_nI (n := 0) (by decide) (by decide)) (by rw [show Int32.toNatClampNeg 0 = 0 from by decide]; exact if_pos rfl) ?_
        refine jk_iload K dL_law_898 0 rfl ?_
        refine jk_i2l K dL_law_900 ?_
        refine jk_lcmp K dL_law_901 ?_
        refine jk_st (st' := [.int 0]) (by rw [lg_self]) ?_
        refine jk_if_eq (tgt := 907) K dL_law_902 rfl (fun c_902 => ?_) (fun c_902 => ?_)
        · refine jk_goto (tgt := 2155) K dL_law_907 rfl ?_
          refine jk_sub (lv' := [(4, .int (nI (4 * j))), (3, .ref ao), (2, .ref (m 0)), (1, .ref q), (0, .ref sb)]) [2, 3, 4, 5, 6] rfl ?_
          refine jk_wide (n' := nn + 11) (k' := ks + 117) (by omega) (by omega) ?_
          exact kk _ _ _ _ _ _ _ _ _ _ _ _ R2
        · exact absurd (by decide) c_902
    · exact absurd (by decide) c_885
  · refine jk_ws (ws' := (lw_w E q b1 b2 ao m O C G M C2 G2 M2 th n S N a)) lw_eq ?_
    refine jk_st (st' := [.int k]) rfl ?_
    refine jk_istore (lv' := [(5, .int k), (4, .int (nI (4 * j))), (3, .ref ao), (2, .ref (m 0)), (1, .ref q), (0, .ref sb)]) K dL_law_865 (by decide) rfl ?_
    refine jk_aload_n K dL_law_867 rfl 3 rfl ?_
    refine jk_aload_n K dL_law_868 rfl 5 rfl ?_
    refine jk_iload K dL_law_869 1 rfl ?_
    refine jk_iconst (x := 1) K dL_law_871 rfl ?_
    refine jk_iadd K dL_law_872 ?_
    refine jk_xld (v := xs (4 * j + 1)) K XL dL_law_873 (lw_i hj hL (c := 1) (by decide)).1 (congrArg xs (lw_i hj hL (c := 1) (by decide)).2) ?_
    refine jk_cVi K (n' := (nn + 1)) (k' := (ks + 6)) [.int (xs (4 * j + 1))] [] dL_law_874 (hb_X3_passMinutes _ hl E (hb_v1 E q b1 b2 [hb_o E ao O] C G M C2 G2 M2) [] m th S N a n R.1 (xs (4 * j + 1)) (hm_R_so R)) gL_law_X3_passMinutes rfl kd_X3_passMinutes ⟨Nat.le_of_ble_eq_true rfl, Nat.le_of_ble_eq_true rfl⟩ _ hm_x0 rfl (Nat.le_of_ble_eq_true rfl) ⟨rfl, rfl⟩ ⟨(by show _ ≤ 601024; omega), (by show _ ≤ 7293034; omega)⟩ rfl (fun v hv => ?_)
    obtain ⟨e1, ek, R2⟩ := lp_passMinutes_no (k := k) (v := v) R hu hv
    refine jk_ws (ws' := (lw_w E q b1 b2 ao m O C G M C2 G2 M2 v.1 n v.2.2.1 v.2.2.2.1 (va_up a 8 v.2.2.2.2))) rfl ?_
    refine jk_st (st' := [.int v.2.1]) rfl ?_
    refine jk_istore (lv' := [(6, .int v.2.1), (5, .int k), (4, .int (nI (4 * j))), (3, .ref ao), (2, .ref (m 0)), (1, .ref q), (0, .ref sb)]) K dL_law_877 (by decide) rfl ?_
    refine jk_aload_n K dL_law_879 rfl 4 rfl ?_
    refine jk_cVi K (n' := (nn + 1)) (k' := (ks + 6)) [] [] dL_law_880 (hb_X3_thrown _ hl E (hb_v1 E q b1 b2 [hb_o E ao O] C G M C2 G2 M2) [] m v.1 v.2.2.1 v.2.2.2.1 (va_up a 8 v.2.2.2.2) n R2.1) gL_law_X3_thrown rfl kd_X3_thrown ⟨Nat.le_of_ble_eq_true rfl, Nat.le_of_ble_eq_true rfl⟩ _ hm_x0 rfl (Nat.le_of_ble_eq_true rfl) ⟨rfl, rfl⟩ ⟨(by show _ ≤ 601024; omega), (by show _ ≤ 7293034; omega)⟩ rfl (fun _ _ => ?_)
    refine jk_st (st' := [.int k]) (by rw [e1]) ?_
    refine jk_iload K dL_law_883 1 rfl ?_
    refine jk_icmp_eq (tgt := 890) K dL_law_885 rfl (fun c_885 => ?_) (fun c_885 => ?_)
    · refine jk_iload K dL_law_890 1 rfl ?_
      refine jk_if_ne (tgt := 907) K dL_law_892 rfl (fun c_892 => ?_) (fun c_892 => ?_)
      · refine jk_goto (tgt := 2155) K dL_law_907 rfl ?_
        refine jk_sub (lv' := [(4, .int (nI (4 * j))), (3, .ref ao), (2, .ref (m 0)), (1, .ref q), (0, .ref sb)]) [2, 3, 4, 5, 6] rfl ?_
        refine jk_wide (n' := nn + 11) (k' := ks + 117) (by omega) (by omega) ?_
        exact kk _ _ _ _ _ _ _ _ _ _ _ _ R2
      · exact absurd c_892 ek
    · exact absurd rfl c_885
set_option maxHeartbeats 4000000 in
set_option maxRecDepth 100000 in
theorem lw_c11 {Γ : jk_G} {E : jk_T} (K : jk_C Γ E RL cL_law 9 wsL_law ({ frames := 13, cells := 601024, slots := 7293034, locals := 468 } : Room)) {sb L : Nat} {xs : Nat → Int32} (XL : jk_LX Γ sb L xs) (hL : L ≤ 2048) {j : Nat} (hj : 4 * j + 3 < L) {nn ks : Nat} (hnn : nn + 11 ≤ 601024) (hks : ks + 117 ≤ 7293034) {q : Nat} {b1 b2 : Nat → Nat} {ao : Nat} {m : Nat → Nat} {O : Nat → Int64} {C : Nat → Nat → Int32} {G M : Nat → Int32} {C2 : Nat → Nat → Int32} {G2 M2 : Nat → Int32} {th : Int32} {n : Nat} {S : Nat → Int32} {N a : Nat → Nat → Int32} (R : hm_R n C G M S N a) (kk : ∀ (O : Nat → Int64) (C : Nat → Nat → Int32) (G M : Nat → Int32) (C2 : Nat → Nat → Int32) (G2 M2 : Nat → Int32) (th : Int32) (n : Nat) (S : Nat → Int32) (N a : Nat → Nat → Int32), hm_R n C G M S N a → jk_J Γ E (lw_w E q b1 b2 ao m O C G M C2 G2 M2 th n S N a) (nn + 11) (ks + 117) 2155 [(4, .int (nI (4 * j))), (3, .ref ao), (2, .ref (m 0)), (1, .ref q), (0, .ref sb)] []) : jk_J Γ E (lw_w E q b1 b2 ao m O C G M C2 G2 M2 th n S N a) nn ks 910 [(4, .int (nI (4 * j))), (3, .ref ao), (2, .ref (m 0)), (1, .ref q), (0, .ref sb)] [] := by
  have hl := K.2.2.2.2.2.2.2.2.2.2
  refine jk_aload_n K dL_law_910 rfl 3 rfl ?_
  refine jk_aload_n K dL_law_911 rfl 4 rfl ?_
  refine jk_iload K dL_law_912 0 rfl ?_
  refine jk_iconst (x := 1) K dL_law_914 rfl ?_
  refine jk_iadd K dL_law_915 ?_
  refine jk_xld (v := xs (4 * j + 1)) K XL dL_law_916 (lw_i hj hL (c := 1) (by decide)).1 (congrArg xs (lw_i hj hL (c := 1) (by decide)).2) ?_
  refine jk_aload_n K dL_law_917 rfl 1 rfl ?_
  refine jk_ws (ws' := (hb_v1 E q b1 b2 (hb_o E ao O :: (hm_MW E m th (nI n) S N a ++ [])) C G M C2 G2 M2)) lw_eq.symm ?_
  refine jk_cSiH K (n' := (nn + 1)) (k' := (ks + 6)) [.ref q, .int (xs (4 * j + 1)), .ref ao] [] dL_law_918 (hb_L_woodOf _ hl E q b1 b2 ao O (hm_MW E m th (nI n) S N a ++ []) C G M C2 G2 M2 n R.1 R.2.2.1.1 (xs (4 * j + 1))) gL_law_L_woodOf rfl kd_L_woodOf ⟨Nat.le_of_ble_eq_true rfl, Nat.le_of_ble_eq_true rfl⟩ (Nat.le_of_ble_eq_true rfl) ⟨rfl, rfl⟩ ⟨(by show _ ≤ 601024; omega), (by show _ ≤ 7293034; omega)⟩ rfl (fun u hu => ?_)
  rcases u with u | k
  · refine jk_ws (ws' := (lw_w E q b1 b2 ao m (vp_updL O 0 (Int32.toInt64 (C u 0))) C G M C2 G2 M2 th n S N a)) lw_eq ?_
    refine jk_st (st' := [.int 0]) rfl ?_
    refine jk_istore (lv' := [(5, .int 0), (4, .int (nI (4 * j))), (3, .ref ao), (2, .ref (m 0)), (1, .ref q), (0, .ref sb)]) K dL_law_921 (by decide) rfl ?_
    refine jk_aload_n K dL_law_923 rfl 3 rfl ?_
    refine jk_aload_n K dL_law_924 rfl 5 rfl ?_
    refine jk_iload K dL_law_925 1 rfl ?_
    refine jk_iconst (x := 1) K dL_law_927 rfl ?_
    refine jk_iadd K dL_law_928 ?_
    refine jk_xld (v := xs (4 * j + 1)) K XL dL_law_929 (lw_i hj hL (c := 1) (by decide)).1 (congrArg xs (lw_i hj hL (c := 1) (by decide)).2) ?_
    refine jk_cVi K (n' := (nn + 1)) (k' := (ks + 6)) [.int (xs (4 * j + 1))] [] dL_law_930 (hb_X3_woodOf _ hl E (hb_v1 E q b1 b2 [hb_o E ao (vp_updL O 0 (Int32.toInt64 (C u 0)))] C G M C2 G2 M2) [] m th S N a n R.1 (xs (4 * j + 1))) gL_law_X3_woodOf rfl kd_X3_woodOf ⟨Nat.le_of_ble_eq_true rfl, Nat.le_of_ble_eq_true rfl⟩ _ hm_x0 rfl (Nat.le_of_ble_eq_true rfl) ⟨rfl, rfl⟩ ⟨(by show _ ≤ 601024; omega), (by show _ ≤ 7293034; omega)⟩ rfl (fun v hv => ?_)
    obtain ⟨e1, e2, R2⟩ := lp_woodOf_ok (C2 := C2) (G2 := G2) (M2 := M2) (u := u) (v := v) R hu hv
    refine jk_ws (ws' := (lw_w E q b1 b2 ao m (vp_updL O 0 (Int32.toInt64 (C u 0))) C G M C2 G2 M2 v.1 n S N a)) rfl ?_
    refine jk_st (st' := [.int (C u 0)]) (by rw [e2]) ?_
    refine jk_istore (lv' := [(6, .int (C u 0)), (5, .int 0), (4, .int (nI (4 * j))), (3, .ref ao), (2, .ref (m 0)), (1, .ref q), (0, .ref sb)]) K dL_law_933 (by decide) rfl ?_
    refine jk_aload_n K dL_law_935 rfl 4 rfl ?_
    refine jk_cVi K (n' := (nn + 1)) (k' := (ks + 6)) [] [] dL_law_936 (hb_X3_thrown _ hl E (hb_v1 E q b1 b2 [hb_o E ao (vp_updL O 0 (Int32.toInt64 (C u 0)))] C G M C2 G2 M2) [] m v.1 S N a n R2.1) gL_law_X3_thrown rfl kd_X3_thrown ⟨Nat.le_of_ble_eq_true rfl, Nat.le_of_ble_eq_true rfl⟩ _ hm_x0 rfl (Nat.le_of_ble_eq_true rfl) ⟨rfl, rfl⟩ ⟨(by show _ ≤ 601024; omega), (by show _ ≤ 7293034; omega)⟩ rfl (fun _ _ => ?_)
    refine jk_st (st' := [.int 0]) (by rw [e1]) ?_
    refine jk_iload K dL_law_939 1 rfl ?_
    refine jk_icmp_eq (tgt := 946) K dL_law_941 rfl (fun c_941 => ?_) (fun c_941 => ?_)
    · refine jk_iload K dL_law_946 1 rfl ?_
      refine jk_if_ne (tgt := 963) K dL_law_948 rfl (fun c_948 => ?_) (fun c_948 => ?_)
      · exact absurd (by decide) c_948
      · refine jk_aload_n K dL_law_951 rfl 3 rfl ?_
        refine jk_iconst (x := 0) K dL_law_952 rfl ?_
        refine jk_lald (v := (Int32.toInt64 (C u 0))) K dL_law_953 29 lw_out (vp_in_nI (n := 0) (by decide) (by decide)) (by rw [show Int32.toNatClampNeg 0 = 0 from by decide]; exact if_pos rfl) ?_
        refine jk_iload K dL_law_954 0 rfl ?_
        refine jk_i2l K dL_law_956 ?_
        refine jk_lcmp K dL_law_957 ?_
        refine jk_st (st' := [.int 0]) (by rw [lg_self]) ?_
        refine jk_if_eq (tgt := 963) K dL_law_958 rfl (fun c_958 => ?_) (fun c_958 => ?_)
        · refine jk_goto (tgt := 2155) K dL_law_963 rfl ?_
          refine jk_sub (lv' := [(4, .int (nI (4 * j))), (3, .ref ao), (2, .ref (m 0)), (1, .ref q), (0, .ref sb)]) [2, 3, 4, 5, 6] rfl ?_
          refine jk_wide (n' := nn + 11) (k' := ks + 117) (by omega) (by omega) ?_
          exact kk _ _ _ _ _ _ _ _ _ _ _ _ R2
        · exact absurd (by decide) c_958
    · exact absurd (by decide) c_941
  · refine jk_ws (ws' := (lw_w E q b1 b2 ao m O C G M C2 G2 M2 th n S N a)) lw_eq ?_
    refine jk_st (st' := [.int k]) rfl ?_
    refine jk_istore (lv' := [(5, .int k), (4, .int (nI (4 * j))), (3, .ref ao), (2, .ref (m 0)), (1, .ref q), (0, .ref sb)]) K dL_law_921 (by decide) rfl ?_
    refine jk_aload_n K dL_law_923 rfl 3 rfl ?_
    refine jk_aload_n K dL_law_924 rfl 5 rfl ?_
    refine jk_iload K dL_law_925 1 rfl ?_
    refine jk_iconst (x := 1) K dL_law_927 rfl ?_
    refine jk_iadd K dL_law_928 ?_
    refine jk_xld (v := xs (4 * j + 1)) K XL dL_law_929 (lw_i hj hL (c := 1) (by decide)).1 (congrArg xs (lw_i hj hL (c := 1) (by decide)).2) ?_
    refine jk_cVi K (n' := (nn + 1)) (k' := (ks + 6)) [.int (xs (4 * j + 1))] [] dL_law_930 (hb_X3_woodOf _ hl E (hb_v1 E q b1 b2 [hb_o E ao O] C G M C2 G2 M2) [] m th S N a n R.1 (xs (4 * j + 1))) gL_law_X3_woodOf rfl kd_X3_woodOf ⟨Nat.le_of_ble_eq_true rfl, Nat.le_of_ble_eq_true rfl⟩ _ hm_x0 rfl (Nat.le_of_ble_eq_true rfl) ⟨rfl, rfl⟩ ⟨(by show _ ≤ 601024; omega), (by show _ ≤ 7293034; omega)⟩ rfl (fun v hv => ?_)
    obtain ⟨e1, ek, R2⟩ := lp_woodOf_no (k := k) (v := v) R hu hv
    refine jk_ws (ws' := (lw_w E q b1 b2 ao m O C G M C2 G2 M2 v.1 n S N a)) rfl ?_
    refine jk_st (st' := [.int v.2]) rfl ?_
    refine jk_istore (lv' := [(6, .int v.2), (5, .int k), (4, .int (nI (4 * j))), (3, .ref ao), (2, .ref (m 0)), (1, .ref q), (0, .ref sb)]) K dL_law_933 (by decide) rfl ?_
    refine jk_aload_n K dL_law_935 rfl 4 rfl ?_
    refine jk_cVi K (n' := (nn + 1)) (k' := (ks + 6)) [] [] dL_law_936 (hb_X3_thrown _ hl E (hb_v1 E q b1 b2 [hb_o E ao O] C G M C2 G2 M2) [] m v.1 S N a n R2.1) gL_law_X3_thrown rfl kd_X3_thrown ⟨Nat.le_of_ble_eq_true rfl, Nat.le_of_ble_eq_true rfl⟩ _ hm_x0 rfl (Nat.le_of_ble_eq_true rfl) ⟨rfl, rfl⟩ ⟨(by show _ ≤ 601024; omega), (by show _ ≤ 7293034; omega)⟩ rfl (fun _ _ => ?_)
    refine jk_st (st' := [.int k]) (by rw [e1]) ?_
    refine jk_iload K dL_law_939 1 rfl ?_
    refine jk_icmp_eq (tgt := 946) K dL_law_941 rfl (fun c_941 => ?_) (fun c_941 => ?_)
    · refine jk_iload K dL_law_946 1 rfl ?_
      refine jk_if_ne (tgt := 963) K dL_law_948 rfl (fun c_948 => ?_) (fun c_948 => ?_)
      · refine jk_goto (tgt := 2155) K dL_law_963 rfl ?_
        refine jk_sub (lv' := [(4, .int (nI (4 * j))), (3, .ref ao), (2, .ref (m 0)), (1, .ref q), (0, .ref sb)]) [2, 3, 4, 5, 6] rfl ?_
        refine jk_wide (n' := nn + 11) (k' := ks + 117) (by omega) (by omega) ?_
        exact kk _ _ _ _ _ _ _ _ _ _ _ _ R2
      · exact absurd c_948 ek
    · exact absurd rfl c_941
set_option maxHeartbeats 4000000 in
set_option maxRecDepth 100000 in
theorem lw_c12 {Γ : jk_G} {E : jk_T} (K : jk_C Γ E RL cL_law 9 wsL_law ({ frames := 13, cells := 601024, slots := 7293034, locals := 468 } : Room)) {sb L : Nat} {xs : Nat → Int32} (XL : jk_LX Γ sb L xs) (hL : L ≤ 2048) {j : Nat} (hj : 4 * j + 3 < L) {nn ks : Nat} (hnn : nn + 11 ≤ 601024) (hks : ks + 117 ≤ 7293034) {q : Nat} {b1 b2 : Nat → Nat} {ao : Nat} {m : Nat → Nat} {O : Nat → Int64} {C : Nat → Nat → Int32} {G M : Nat → Int32} {C2 : Nat → Nat → Int32} {G2 M2 : Nat → Int32} {th : Int32} {n : Nat} {S : Nat → Int32} {N a : Nat → Nat → Int32} (R : hm_R n C G M S N a) (kk : ∀ (O : Nat → Int64) (C : Nat → Nat → Int32) (G M : Nat → Int32) (C2 : Nat → Nat → Int32) (G2 M2 : Nat → Int32) (th : Int32) (n : Nat) (S : Nat → Int32) (N a : Nat → Nat → Int32), hm_R n C G M S N a → jk_J Γ E (lw_w E q b1 b2 ao m O C G M C2 G2 M2 th n S N a) (nn + 11) (ks + 117) 2155 [(4, .int (nI (4 * j))), (3, .ref ao), (2, .ref (m 0)), (1, .ref q), (0, .ref sb)] []) : jk_J Γ E (lw_w E q b1 b2 ao m O C G M C2 G2 M2 th n S N a) nn ks 966 [(4, .int (nI (4 * j))), (3, .ref ao), (2, .ref (m 0)), (1, .ref q), (0, .ref sb)] [] := by
  have hl := K.2.2.2.2.2.2.2.2.2.2
  refine jk_aload_n K dL_law_966 rfl 3 rfl ?_
  refine jk_aload_n K dL_law_967 rfl 4 rfl ?_
  refine jk_iload K dL_law_968 0 rfl ?_
  refine jk_iconst (x := 1) K dL_law_970 rfl ?_
  refine jk_iadd K dL_law_971 ?_
  refine jk_xld (v := xs (4 * j + 1)) K XL dL_law_972 (lw_i hj hL (c := 1) (by decide)).1 (congrArg xs (lw_i hj hL (c := 1) (by decide)).2) ?_
  refine jk_aload_n K dL_law_973 rfl 1 rfl ?_
  refine jk_ws (ws' := (hb_v1 E q b1 b2 (hb_o E ao O :: (hm_MW E m th (nI n) S N a ++ [])) C G M C2 G2 M2)) lw_eq.symm ?_
  refine jk_cSiH K (n' := (nn + 1)) (k' := (ks + 6)) [.ref q, .int (xs (4 * j + 1)), .ref ao] [] dL_law_974 (hb_L_dampOf _ hl E q b1 b2 ao O (hm_MW E m th (nI n) S N a ++ []) C G M C2 G2 M2 n R.1 R.2.2.1.1 (xs (4 * j + 1))) gL_law_L_dampOf rfl kd_L_dampOf ⟨Nat.le_of_ble_eq_true rfl, Nat.le_of_ble_eq_true rfl⟩ (Nat.le_of_ble_eq_true rfl) ⟨rfl, rfl⟩ ⟨(by show _ ≤ 601024; omega), (by show _ ≤ 7293034; omega)⟩ rfl (fun u hu => ?_)
  rcases u with u | k
  · refine jk_ws (ws' := (lw_w E q b1 b2 ao m (vp_updL O 0 (Int32.toInt64 (C u 1))) C G M C2 G2 M2 th n S N a)) lw_eq ?_
    refine jk_st (st' := [.int 0]) rfl ?_
    refine jk_istore (lv' := [(5, .int 0), (4, .int (nI (4 * j))), (3, .ref ao), (2, .ref (m 0)), (1, .ref q), (0, .ref sb)]) K dL_law_977 (by decide) rfl ?_
    refine jk_aload_n K dL_law_979 rfl 3 rfl ?_
    refine jk_aload_n K dL_law_980 rfl 5 rfl ?_
    refine jk_iload K dL_law_981 1 rfl ?_
    refine jk_iconst (x := 1) K dL_law_983 rfl ?_
    refine jk_iadd K dL_law_984 ?_
    refine jk_xld (v := xs (4 * j + 1)) K XL dL_law_985 (lw_i hj hL (c := 1) (by decide)).1 (congrArg xs (lw_i hj hL (c := 1) (by decide)).2) ?_
    refine jk_cVi K (n' := (nn + 1)) (k' := (ks + 6)) [.int (xs (4 * j + 1))] [] dL_law_986 (hb_X3_dampOf _ hl E (hb_v1 E q b1 b2 [hb_o E ao (vp_updL O 0 (Int32.toInt64 (C u 1)))] C G M C2 G2 M2) [] m th S N a n R.1 (xs (4 * j + 1))) gL_law_X3_dampOf rfl kd_X3_dampOf ⟨Nat.le_of_ble_eq_true rfl, Nat.le_of_ble_eq_true rfl⟩ _ hm_x0 rfl (Nat.le_of_ble_eq_true rfl) ⟨rfl, rfl⟩ ⟨(by show _ ≤ 601024; omega), (by show _ ≤ 7293034; omega)⟩ rfl (fun v hv => ?_)
    obtain ⟨e1, e2, R2⟩ := lp_dampOf_ok (C2 := C2) (G2 := G2) (M2 := M2) (u := u) (v := v) R hu hv
    refine jk_ws (ws' := (lw_w E q b1 b2 ao m (vp_updL O 0 (Int32.toInt64 (C u 1))) C G M C2 G2 M2 v.1 n S N a)) rfl ?_
    refine jk_st (st' := [.int (C u 1)]) (by rw [e2]) ?_
    refine jk_istore (lv' := [(6, .int (C u 1)), (5, .int 0), (4, .int (nI (4 * j))), (3, .ref ao), (2, .ref (m 0)), (1, .ref q), (0, .ref sb)]) K dL_law_989 (by decide) rfl ?_
    refine jk_aload_n K dL_law_991 rfl 4 rfl ?_
    refine jk_cVi K (n' := (nn + 1)) (k' := (ks + 6)) [] [] dL_law_992 (hb_X3_thrown _ hl E (hb_v1 E q b1 b2 [hb_o E ao (vp_updL O 0 (Int32.toInt64 (C u 1)))] C G M C2 G2 M2) [] m v.1 S N a n R2.1) gL_law_X3_thrown rfl kd_X3_thrown ⟨Nat.le_of_ble_eq_true rfl, Nat.le_of_ble_eq_true rfl⟩ _ hm_x0 rfl (Nat.le_of_ble_eq_true rfl) ⟨rfl, rfl⟩ ⟨(by show _ ≤ 601024; omega), (by show _ ≤ 7293034; omega)⟩ rfl (fun _ _ => ?_)
    refine jk_st (st' := [.int 0]) (by rw [e1]) ?_
    refine jk_iload K dL_law_995 1 rfl ?_
    refine jk_icmp_eq (tgt := 1002) K dL_law_997 rfl (fun c_997 => ?_) (fun c_997 => ?_)
    · refine jk_iload K dL_law_1002 1 rfl ?_
      refine jk_if_ne (tgt := 1019) K dL_law_1004 rfl (fun c_1004 => ?_) (fun c_1004 => ?_)
      · exact absurd (by decide) c_1004
      · refine jk_aload_n K dL_law_1007 rfl 3 rfl ?_
        refine jk_iconst (x := 0) K dL_law_1008 rfl ?_
        refine jk_lald (v := (Int32.toInt64 (C u 1))) K dL_law_1009 29 lw_out (vp_in_nI (n := 0) (by decide) (by decide)) (by rw [show Int32.toNatClampNeg 0 = 0 from by decide]; exact if_pos rfl) ?_
        refine jk_iload K dL_law_1010 0 rfl ?_
        refine jk_i2l K dL_law_1012 ?_
        refine jk_lcmp K dL_law_1013 ?_
        refine jk_st (st' := [.int 0]) (by rw [lg_self]) ?_
        refine jk_if_eq (tgt := 1019) K dL_law_1014 rfl (fun c_1014 => ?_) (fun c_1014 => ?_)
        · refine jk_goto (tgt := 2155) K dL_law_1019 rfl ?_
          refine jk_sub (lv' := [(4, .int (nI (4 * j))), (3, .ref ao), (2, .ref (m 0)), (1, .ref q), (0, .ref sb)]) [2, 3, 4, 5, 6] rfl ?_
          refine jk_wide (n' := nn + 11) (k' := ks + 117) (by omega) (by omega) ?_
          exact kk _ _ _ _ _ _ _ _ _ _ _ _ R2
        · exact absurd (by decide) c_1014
    · exact absurd (by decide) c_997
  · refine jk_ws (ws' := (lw_w E q b1 b2 ao m O C G M C2 G2 M2 th n S N a)) lw_eq ?_
    refine jk_st (st' := [.int k]) rfl ?_
    refine jk_istore (lv' := [(5, .int k), (4, .int (nI (4 * j))), (3, .ref ao), (2, .ref (m 0)), (1, .ref q), (0, .ref sb)]) K dL_law_977 (by decide) rfl ?_
    refine jk_aload_n K dL_law_979 rfl 3 rfl ?_
    refine jk_aload_n K dL_law_980 rfl 5 rfl ?_
    refine jk_iload K dL_law_981 1 rfl ?_
    refine jk_iconst (x := 1) K dL_law_983 rfl ?_
    refine jk_iadd K dL_law_984 ?_
    refine jk_xld (v := xs (4 * j + 1)) K XL dL_law_985 (lw_i hj hL (c := 1) (by decide)).1 (congrArg xs (lw_i hj hL (c := 1) (by decide)).2) ?_
    refine jk_cVi K (n' := (nn + 1)) (k' := (ks + 6)) [.int (xs (4 * j + 1))] [] dL_law_986 (hb_X3_dampOf _ hl E (hb_v1 E q b1 b2 [hb_o E ao O] C G M C2 G2 M2) [] m th S N a n R.1 (xs (4 * j + 1))) gL_law_X3_dampOf rfl kd_X3_dampOf ⟨Nat.le_of_ble_eq_true rfl, Nat.le_of_ble_eq_true rfl⟩ _ hm_x0 rfl (Nat.le_of_ble_eq_true rfl) ⟨rfl, rfl⟩ ⟨(by show _ ≤ 601024; omega), (by show _ ≤ 7293034; omega)⟩ rfl (fun v hv => ?_)
    obtain ⟨e1, ek, R2⟩ := lp_dampOf_no (k := k) (v := v) R hu hv
    refine jk_ws (ws' := (lw_w E q b1 b2 ao m O C G M C2 G2 M2 v.1 n S N a)) rfl ?_
    refine jk_st (st' := [.int v.2]) rfl ?_
    refine jk_istore (lv' := [(6, .int v.2), (5, .int k), (4, .int (nI (4 * j))), (3, .ref ao), (2, .ref (m 0)), (1, .ref q), (0, .ref sb)]) K dL_law_989 (by decide) rfl ?_
    refine jk_aload_n K dL_law_991 rfl 4 rfl ?_
    refine jk_cVi K (n' := (nn + 1)) (k' := (ks + 6)) [] [] dL_law_992 (hb_X3_thrown _ hl E (hb_v1 E q b1 b2 [hb_o E ao O] C G M C2 G2 M2) [] m v.1 S N a n R2.1) gL_law_X3_thrown rfl kd_X3_thrown ⟨Nat.le_of_ble_eq_true rfl, Nat.le_of_ble_eq_true rfl⟩ _ hm_x0 rfl (Nat.le_of_ble_eq_true rfl) ⟨rfl, rfl⟩ ⟨(by show _ ≤ 601024; omega), (by show _ ≤ 7293034; omega)⟩ rfl (fun _ _ => ?_)
    refine jk_st (st' := [.int k]) (by rw [e1]) ?_
    refine jk_iload K dL_law_995 1 rfl ?_
    refine jk_icmp_eq (tgt := 1002) K dL_law_997 rfl (fun c_997 => ?_) (fun c_997 => ?_)
    · refine jk_iload K dL_law_1002 1 rfl ?_
      refine jk_if_ne (tgt := 1019) K dL_law_1004 rfl (fun c_1004 => ?_) (fun c_1004 => ?_)
      · refine jk_goto (tgt := 2155) K dL_law_1019 rfl ?_
        refine jk_sub (lv' := [(4, .int (nI (4 * j))), (3, .ref ao), (2, .ref (m 0)), (1, .ref q), (0, .ref sb)]) [2, 3, 4, 5, 6] rfl ?_
        refine jk_wide (n' := nn + 11) (k' := ks + 117) (by omega) (by omega) ?_
        exact kk _ _ _ _ _ _ _ _ _ _ _ _ R2
      · exact absurd c_1004 ek
    · exact absurd rfl c_997
set_option maxHeartbeats 4000000 in
set_option maxRecDepth 100000 in
theorem lw_c13 {Γ : jk_G} {E : jk_T} (K : jk_C Γ E RL cL_law 9 wsL_law ({ frames := 13, cells := 601024, slots := 7293034, locals := 468 } : Room)) {sb L : Nat} {xs : Nat → Int32} (XL : jk_LX Γ sb L xs) (hL : L ≤ 2048) {j : Nat} (hj : 4 * j + 3 < L) {nn ks : Nat} (hnn : nn + 11 ≤ 601024) (hks : ks + 117 ≤ 7293034) {q : Nat} {b1 b2 : Nat → Nat} {ao : Nat} {m : Nat → Nat} {O : Nat → Int64} {C : Nat → Nat → Int32} {G M : Nat → Int32} {C2 : Nat → Nat → Int32} {G2 M2 : Nat → Int32} {th : Int32} {n : Nat} {S : Nat → Int32} {N a : Nat → Nat → Int32} (R : hm_R n C G M S N a) (kk : ∀ (O : Nat → Int64) (C : Nat → Nat → Int32) (G M : Nat → Int32) (C2 : Nat → Nat → Int32) (G2 M2 : Nat → Int32) (th : Int32) (n : Nat) (S : Nat → Int32) (N a : Nat → Nat → Int32), hm_R n C G M S N a → jk_J Γ E (lw_w E q b1 b2 ao m O C G M C2 G2 M2 th n S N a) (nn + 11) (ks + 117) 2155 [(4, .int (nI (4 * j))), (3, .ref ao), (2, .ref (m 0)), (1, .ref q), (0, .ref sb)] []) : jk_J Γ E (lw_w E q b1 b2 ao m O C G M C2 G2 M2 th n S N a) nn ks 1022 [(4, .int (nI (4 * j))), (3, .ref ao), (2, .ref (m 0)), (1, .ref q), (0, .ref sb)] [] := by
  have hl := K.2.2.2.2.2.2.2.2.2.2
  refine jk_aload_n K dL_law_1022 rfl 3 rfl ?_
  refine jk_aload_n K dL_law_1023 rfl 4 rfl ?_
  refine jk_iload K dL_law_1024 0 rfl ?_
  refine jk_iconst (x := 1) K dL_law_1026 rfl ?_
  refine jk_iadd K dL_law_1027 ?_
  refine jk_xld (v := xs (4 * j + 1)) K XL dL_law_1028 (lw_i hj hL (c := 1) (by decide)).1 (congrArg xs (lw_i hj hL (c := 1) (by decide)).2) ?_
  refine jk_aload_n K dL_law_1029 rfl 1 rfl ?_
  refine jk_ws (ws' := (hb_v1 E q b1 b2 (hb_o E ao O :: (hm_MW E m th (nI n) S N a ++ [])) C G M C2 G2 M2)) lw_eq.symm ?_
  refine jk_cSiH K (n' := (nn + 1)) (k' := (ks + 6)) [.ref q, .int (xs (4 * j + 1)), .ref ao] [] dL_law_1030 (hb_L_watchOf _ hl E q b1 b2 ao O (hm_MW E m th (nI n) S N a ++ []) C G M C2 G2 M2 n R.1 R.2.2.1.1 (xs (4 * j + 1))) gL_law_L_watchOf rfl kd_L_watchOf ⟨Nat.le_of_ble_eq_true rfl, Nat.le_of_ble_eq_true rfl⟩ (Nat.le_of_ble_eq_true rfl) ⟨rfl, rfl⟩ ⟨(by show _ ≤ 601024; omega), (by show _ ≤ 7293034; omega)⟩ rfl (fun u hu => ?_)
  rcases u with u | k
  · refine jk_ws (ws' := (lw_w E q b1 b2 ao m (vp_updL O 0 (Int32.toInt64 (C u 2))) C G M C2 G2 M2 th n S N a)) lw_eq ?_
    refine jk_st (st' := [.int 0]) rfl ?_
    refine jk_istore (lv' := [(5, .int 0), (4, .int (nI (4 * j))), (3, .ref ao), (2, .ref (m 0)), (1, .ref q), (0, .ref sb)]) K dL_law_1033 (by decide) rfl ?_
    refine jk_aload_n K dL_law_1035 rfl 3 rfl ?_
    refine jk_aload_n K dL_law_1036 rfl 5 rfl ?_
    refine jk_iload K dL_law_1037 1 rfl ?_
    refine jk_iconst (x := 1) K dL_law_1039 rfl ?_
    refine jk_iadd K dL_law_1040 ?_
    refine jk_xld (v := xs (4 * j + 1)) K XL dL_law_1041 (lw_i hj hL (c := 1) (by decide)).1 (congrArg xs (lw_i hj hL (c := 1) (by decide)).2) ?_
    refine jk_cVi K (n' := (nn + 1)) (k' := (ks + 6)) [.int (xs (4 * j + 1))] [] dL_law_1042 (hb_X3_watchOf _ hl E (hb_v1 E q b1 b2 [hb_o E ao (vp_updL O 0 (Int32.toInt64 (C u 2)))] C G M C2 G2 M2) [] m th S N a n R.1 (xs (4 * j + 1))) gL_law_X3_watchOf rfl kd_X3_watchOf ⟨Nat.le_of_ble_eq_true rfl, Nat.le_of_ble_eq_true rfl⟩ _ hm_x0 rfl (Nat.le_of_ble_eq_true rfl) ⟨rfl, rfl⟩ ⟨(by show _ ≤ 601024; omega), (by show _ ≤ 7293034; omega)⟩ rfl (fun v hv => ?_)
    obtain ⟨e1, e2, R2⟩ := lp_watchOf_ok (C2 := C2) (G2 := G2) (M2 := M2) (u := u) (v := v) R hu hv
    refine jk_ws (ws' := (lw_w E q b1 b2 ao m (vp_updL O 0 (Int32.toInt64 (C u 2))) C G M C2 G2 M2 v.1 n S N a)) rfl ?_
    refine jk_st (st' := [.int (C u 2)]) (by rw [e2]) ?_
    refine jk_istore (lv' := [(6, .int (C u 2)), (5, .int 0), (4, .int (nI (4 * j))), (3, .ref ao), (2, .ref (m 0)), (1, .ref q), (0, .ref sb)]) K dL_law_1045 (by decide) rfl ?_
    refine jk_aload_n K dL_law_1047 rfl 4 rfl ?_
    refine jk_cVi K (n' := (nn + 1)) (k' := (ks + 6)) [] [] dL_law_1048 (hb_X3_thrown _ hl E (hb_v1 E q b1 b2 [hb_o E ao (vp_updL O 0 (Int32.toInt64 (C u 2)))] C G M C2 G2 M2) [] m v.1 S N a n R2.1) gL_law_X3_thrown rfl kd_X3_thrown ⟨Nat.le_of_ble_eq_true rfl, Nat.le_of_ble_eq_true rfl⟩ _ hm_x0 rfl (Nat.le_of_ble_eq_true rfl) ⟨rfl, rfl⟩ ⟨(by show _ ≤ 601024; omega), (by show _ ≤ 7293034; omega)⟩ rfl (fun _ _ => ?_)
    refine jk_st (st' := [.int 0]) (by rw [e1]) ?_
    refine jk_iload K dL_law_1051 1 rfl ?_
    refine jk_icmp_eq (tgt := 1058) K dL_law_1053 rfl (fun c_1053 => ?_) (fun c_1053 => ?_)
    · refine jk_iload K dL_law_1058 1 rfl ?_
      refine jk_if_ne (tgt := 1075) K dL_law_1060 rfl (fun c_1060 => ?_) (fun c_1060 => ?_)
      · exact absurd (by decide) c_1060
      · refine jk_aload_n K dL_law_1063 rfl 3 rfl ?_
        refine jk_iconst (x := 0) K dL_law_1064 rfl ?_
        refine jk_lald (v := (Int32.toInt64 (C u 2))) K dL_law_1065 29 lw_out (vp_in_nI (n := 0) (by decide) (by decide)) (by rw [show Int32.toNatClampNeg 0 = 0 from by decide]; exact if_pos rfl) ?_
        refine jk_iload K dL_law_1066 0 rfl ?_
        refine jk_i2l K dL_law_1068 ?_
        refine jk_lcmp K dL_law_1069 ?_
        refine jk_st (st' := [.int 0]) (by rw [lg_self]) ?_
        refine jk_if_eq (tgt := 1075) K dL_law_1070 rfl (fun c_1070 => ?_) (fun c_1070 => ?_)
        · refine jk_goto (tgt := 2155) K dL_law_1075 rfl ?_
          refine jk_sub (lv' := [(4, .int (nI (4 * j))), (3, .ref ao), (2, .ref (m 0)), (1, .ref q), (0, .ref sb)]) [2, 3, 4, 5, 6] rfl ?_
          refine jk_wide (n' := nn + 11) (k' := ks + 117) (by omega) (by omega) ?_
          exact kk _ _ _ _ _ _ _ _ _ _ _ _ R2
        · exact absurd (by decide) c_1070
    · exact absurd (by decide) c_1053
  · refine jk_ws (ws' := (lw_w E q b1 b2 ao m O C G M C2 G2 M2 th n S N a)) lw_eq ?_
    refine jk_st (st' := [.int k]) rfl ?_
    refine jk_istore (lv' := [(5, .int k), (4, .int (nI (4 * j))), (3, .ref ao), (2, .ref (m 0)), (1, .ref q), (0, .ref sb)]) K dL_law_1033 (by decide) rfl ?_
    refine jk_aload_n K dL_law_1035 rfl 3 rfl ?_
    refine jk_aload_n K dL_law_1036 rfl 5 rfl ?_
    refine jk_iload K dL_law_1037 1 rfl ?_
    refine jk_iconst (x := 1) K dL_law_1039 rfl ?_
    refine jk_iadd K dL_law_1040 ?_
    refine jk_xld (v := xs (4 * j + 1)) K XL dL_law_1041 (lw_i hj hL (c := 1) (by decide)).1 (congrArg xs (lw_i hj hL (c := 1) (by decide)).2) ?_
    refine jk_cVi K (n' := (nn + 1)) (k' := (ks + 6)) [.int (xs (4 * j + 1))] [] dL_law_1042 (hb_X3_watchOf _ hl E (hb_v1 E q b1 b2 [hb_o E ao O] C G M C2 G2 M2) [] m th S N a n R.1 (xs (4 * j + 1))) gL_law_X3_watchOf rfl kd_X3_watchOf ⟨Nat.le_of_ble_eq_true rfl, Nat.le_of_ble_eq_true rfl⟩ _ hm_x0 rfl (Nat.le_of_ble_eq_true rfl) ⟨rfl, rfl⟩ ⟨(by show _ ≤ 601024; omega), (by show _ ≤ 7293034; omega)⟩ rfl (fun v hv => ?_)
    obtain ⟨e1, ek, R2⟩ := lp_watchOf_no (k := k) (v := v) R hu hv
    refine jk_ws (ws' := (lw_w E q b1 b2 ao m O C G M C2 G2 M2 v.1 n S N a)) rfl ?_
    refine jk_st (st' := [.int v.2]) rfl ?_
    refine jk_istore (lv' := [(6, .int v.2), (5, .int k), (4, .int (nI (4 * j))), (3, .ref ao), (2, .ref (m 0)), (1, .ref q), (0, .ref sb)]) K dL_law_1045 (by decide) rfl ?_
    refine jk_aload_n K dL_law_1047 rfl 4 rfl ?_
    refine jk_cVi K (n' := (nn + 1)) (k' := (ks + 6)) [] [] dL_law_1048 (hb_X3_thrown _ hl E (hb_v1 E q b1 b2 [hb_o E ao O] C G M C2 G2 M2) [] m v.1 S N a n R2.1) gL_law_X3_thrown rfl kd_X3_thrown ⟨Nat.le_of_ble_eq_true rfl, Nat.le_of_ble_eq_true rfl⟩ _ hm_x0 rfl (Nat.le_of_ble_eq_true rfl) ⟨rfl, rfl⟩ ⟨(by show _ ≤ 601024; omega), (by show _ ≤ 7293034; omega)⟩ rfl (fun _ _ => ?_)
    refine jk_st (st' := [.int k]) (by rw [e1]) ?_
    refine jk_iload K dL_law_1051 1 rfl ?_
    refine jk_icmp_eq (tgt := 1058) K dL_law_1053 rfl (fun c_1053 => ?_) (fun c_1053 => ?_)
    · refine jk_iload K dL_law_1058 1 rfl ?_
      refine jk_if_ne (tgt := 1075) K dL_law_1060 rfl (fun c_1060 => ?_) (fun c_1060 => ?_)
      · refine jk_goto (tgt := 2155) K dL_law_1075 rfl ?_
        refine jk_sub (lv' := [(4, .int (nI (4 * j))), (3, .ref ao), (2, .ref (m 0)), (1, .ref q), (0, .ref sb)]) [2, 3, 4, 5, 6] rfl ?_
        refine jk_wide (n' := nn + 11) (k' := ks + 117) (by omega) (by omega) ?_
        exact kk _ _ _ _ _ _ _ _ _ _ _ _ R2
      · exact absurd c_1060 ek
    · exact absurd rfl c_1053
set_option maxHeartbeats 4000000 in
set_option maxRecDepth 100000 in
theorem lw_c14 {Γ : jk_G} {E : jk_T} (K : jk_C Γ E RL cL_law 9 wsL_law ({ frames := 13, cells := 601024, slots := 7293034, locals := 468 } : Room)) {sb L : Nat} {xs : Nat → Int32} (XL : jk_LX Γ sb L xs) (hL : L ≤ 2048) {j : Nat} (hj : 4 * j + 3 < L) {nn ks : Nat} (hnn : nn + 11 ≤ 601024) (hks : ks + 117 ≤ 7293034) {q : Nat} {b1 b2 : Nat → Nat} {ao : Nat} {m : Nat → Nat} {O : Nat → Int64} {C : Nat → Nat → Int32} {G M : Nat → Int32} {C2 : Nat → Nat → Int32} {G2 M2 : Nat → Int32} {th : Int32} {n : Nat} {S : Nat → Int32} {N a : Nat → Nat → Int32} (R : hm_R n C G M S N a) (kk : ∀ (O : Nat → Int64) (C : Nat → Nat → Int32) (G M : Nat → Int32) (C2 : Nat → Nat → Int32) (G2 M2 : Nat → Int32) (th : Int32) (n : Nat) (S : Nat → Int32) (N a : Nat → Nat → Int32), hm_R n C G M S N a → jk_J Γ E (lw_w E q b1 b2 ao m O C G M C2 G2 M2 th n S N a) (nn + 11) (ks + 117) 2155 [(4, .int (nI (4 * j))), (3, .ref ao), (2, .ref (m 0)), (1, .ref q), (0, .ref sb)] []) : jk_J Γ E (lw_w E q b1 b2 ao m O C G M C2 G2 M2 th n S N a) nn ks 1078 [(4, .int (nI (4 * j))), (3, .ref ao), (2, .ref (m 0)), (1, .ref q), (0, .ref sb)] [] := by
  have hl := K.2.2.2.2.2.2.2.2.2.2
  refine jk_aload_n K dL_law_1078 rfl 3 rfl ?_
  refine jk_aload_n K dL_law_1079 rfl 4 rfl ?_
  refine jk_iload K dL_law_1080 0 rfl ?_
  refine jk_iconst (x := 1) K dL_law_1082 rfl ?_
  refine jk_iadd K dL_law_1083 ?_
  refine jk_xld (v := xs (4 * j + 1)) K XL dL_law_1084 (lw_i hj hL (c := 1) (by decide)).1 (congrArg xs (lw_i hj hL (c := 1) (by decide)).2) ?_
  refine jk_aload_n K dL_law_1085 rfl 1 rfl ?_
  refine jk_ws (ws' := (hb_v1 E q b1 b2 (hb_o E ao O :: (hm_MW E m th (nI n) S N a ++ [])) C G M C2 G2 M2)) lw_eq.symm ?_
  refine jk_cSiH K (n' := (nn + 1)) (k' := (ks + 6)) [.ref q, .int (xs (4 * j + 1)), .ref ao] [] dL_law_1086 (hb_L_looksEast _ hl E q b1 b2 ao O (hm_MW E m th (nI n) S N a ++ []) C G M C2 G2 M2 n R.1 R.2.2.1.1 (xs (4 * j + 1))) gL_law_L_looksEast rfl kd_L_looksEast ⟨Nat.le_of_ble_eq_true rfl, Nat.le_of_ble_eq_true rfl⟩ (Nat.le_of_ble_eq_true rfl) ⟨rfl, rfl⟩ ⟨(by show _ ≤ 601024; omega), (by show _ ≤ 7293034; omega)⟩ rfl (fun u hu => ?_)
  rcases u with u | k
  · refine jk_ws (ws' := (lw_w E q b1 b2 ao m (vp_updL O 0 (if (hb_zb (C u 3) : Int32) = 0 then (0 : Int64) else 1)) C G M C2 G2 M2 th n S N a)) lw_eq ?_
    refine jk_st (st' := [.int 0]) rfl ?_
    refine jk_istore (lv' := [(5, .int 0), (4, .int (nI (4 * j))), (3, .ref ao), (2, .ref (m 0)), (1, .ref q), (0, .ref sb)]) K dL_law_1089 (by decide) rfl ?_
    refine jk_aload_n K dL_law_1091 rfl 3 rfl ?_
    refine jk_aload_n K dL_law_1092 rfl 5 rfl ?_
    refine jk_iload K dL_law_1093 1 rfl ?_
    refine jk_iconst (x := 1) K dL_law_1095 rfl ?_
    refine jk_iadd K dL_law_1096 ?_
    refine jk_xld (v := xs (4 * j + 1)) K XL dL_law_1097 (lw_i hj hL (c := 1) (by decide)).1 (congrArg xs (lw_i hj hL (c := 1) (by decide)).2) ?_
    refine jk_cVi K (n' := (nn + 1)) (k' := (ks + 6)) [.int (xs (4 * j + 1))] [] dL_law_1098 (hb_X3_looksEast _ hl E (hb_v1 E q b1 b2 [hb_o E ao (vp_updL O 0 (if (hb_zb (C u 3) : Int32) = 0 then (0 : Int64) else 1))] C G M C2 G2 M2) [] m th S N a n R.1 (xs (4 * j + 1))) gL_law_X3_looksEast rfl kd_X3_looksEast ⟨Nat.le_of_ble_eq_true rfl, Nat.le_of_ble_eq_true rfl⟩ _ hm_x0 rfl (Nat.le_of_ble_eq_true rfl) ⟨rfl, rfl⟩ ⟨(by show _ ≤ 601024; omega), (by show _ ≤ 7293034; omega)⟩ rfl (fun v hv => ?_)
    obtain ⟨e1, e2, R2⟩ := lp_looksEast_ok (C2 := C2) (G2 := G2) (M2 := M2) (u := u) (v := v) R hu hv
    refine jk_ws (ws' := (lw_w E q b1 b2 ao m (vp_updL O 0 (if (hb_zb (C u 3) : Int32) = 0 then (0 : Int64) else 1)) C G M C2 G2 M2 v.1 n S N a)) rfl ?_
    refine jk_st (st' := [.int (hb_zb (C u 3))]) (by rw [e2]) ?_
    refine jk_istore (lv' := [(6, .int (hb_zb (C u 3))), (5, .int 0), (4, .int (nI (4 * j))), (3, .ref ao), (2, .ref (m 0)), (1, .ref q), (0, .ref sb)]) K dL_law_1101 (by decide) rfl ?_
    refine jk_aload_n K dL_law_1103 rfl 4 rfl ?_
    refine jk_cVi K (n' := (nn + 1)) (k' := (ks + 6)) [] [] dL_law_1104 (hb_X3_thrown _ hl E (hb_v1 E q b1 b2 [hb_o E ao (vp_updL O 0 (if (hb_zb (C u 3) : Int32) = 0 then (0 : Int64) else 1))] C G M C2 G2 M2) [] m v.1 S N a n R2.1) gL_law_X3_thrown rfl kd_X3_thrown ⟨Nat.le_of_ble_eq_true rfl, Nat.le_of_ble_eq_true rfl⟩ _ hm_x0 rfl (Nat.le_of_ble_eq_true rfl) ⟨rfl, rfl⟩ ⟨(by show _ ≤ 601024; omega), (by show _ ≤ 7293034; omega)⟩ rfl (fun _ _ => ?_)
    refine jk_st (st' := [.int 0]) (by rw [e1]) ?_
    refine jk_iload K dL_law_1107 1 rfl ?_
    refine jk_icmp_eq (tgt := 1114) K dL_law_1109 rfl (fun c_1109 => ?_) (fun c_1109 => ?_)
    · refine jk_iload K dL_law_1114 1 rfl ?_
      refine jk_if_ne (tgt := 1138) K dL_law_1116 rfl (fun c_1116 => ?_) (fun c_1116 => ?_)
      · exact absurd (by decide) c_1116
      · refine jk_aload_n K dL_law_1119 rfl 3 rfl ?_
        refine jk_iconst (x := 0) K dL_law_1120 rfl ?_
        refine jk_lald (v := (if (hb_zb (C u 3) : Int32) = 0 then (0 : Int64) else 1)) K dL_law_1121 29 lw_out (vp_in_nI (n := 0) (by decide) (by decide)) (by rw [show Int32.toNatClampNeg 0 = 0 from by decide]; exact if_pos rfl) ?_
        refine jk_iload K dL_law_1122 0 rfl ?_
        refine jk_if_eq (tgt := 1131) K dL_law_1124 rfl (fun c_1124 => ?_) (fun c_1124 => ?_)
        · refine jk_lconst (x := 0) K dL_law_1131 rfl ?_
          refine jk_lcmp K dL_law_1132 ?_
          refine jk_st (st' := [.int 0]) (by rw [if_pos c_1124, lg_self]) ?_
          refine jk_if_eq (tgt := 1138) K dL_law_1133 rfl (fun c_1133 => ?_) (fun c_1133 => ?_)
          · refine jk_goto (tgt := 2155) K dL_law_1138 rfl ?_
            refine jk_sub (lv' := [(4, .int (nI (4 * j))), (3, .ref ao), (2, .ref (m 0)), (1, .ref q), (0, .ref sb)]) [2, 3, 4, 5, 6] rfl ?_
            refine jk_wide (n' := nn + 11) (k' := ks + 117) (by omega) (by omega) ?_
            exact kk _ _ _ _ _ _ _ _ _ _ _ _ R2
          · exact absurd (by decide) c_1133
        · refine jk_lconst (x := 1) K dL_law_1127 rfl ?_
          refine jk_goto (tgt := 1132) K dL_law_1128 rfl ?_
          refine jk_lcmp K dL_law_1132 ?_
          refine jk_st (st' := [.int 0]) (by rw [if_neg c_1124, lg_self]) ?_
          refine jk_if_eq (tgt := 1138) K dL_law_1133 rfl (fun c_1133 => ?_) (fun c_1133 => ?_)
          · refine jk_goto (tgt := 2155) K dL_law_1138 rfl ?_
            refine jk_sub (lv' := [(4, .int (nI (4 * j))), (3, .ref ao), (2, .ref (m 0)), (1, .ref q), (0, .ref sb)]) [2, 3, 4, 5, 6] rfl ?_
            refine jk_wide (n' := nn + 11) (k' := ks + 117) (by omega) (by omega) ?_
            exact kk _ _ _ _ _ _ _ _ _ _ _ _ R2
          · exact absurd (by decide) c_1133
    · exact absurd (by decide) c_1109
  · refine jk_ws (ws' := (lw_w E q b1 b2 ao m O C G M C2 G2 M2 th n S N a)) lw_eq ?_
    refine jk_st (st' := [.int k]) rfl ?_
    refine jk_istore (lv' := [(5, .int k), (4, .int (nI (4 * j))), (3, .ref ao), (2, .ref (m 0)), (1, .ref q), (0, .ref sb)]) K dL_law_1089 (by decide) rfl ?_
    refine jk_aload_n K dL_law_1091 rfl 3 rfl ?_
    refine jk_aload_n K dL_law_1092 rfl 5 rfl ?_
    refine jk_iload K dL_law_1093 1 rfl ?_
    refine jk_iconst (x := 1) K dL_law_1095 rfl ?_
    refine jk_iadd K dL_law_1096 ?_
    refine jk_xld (v := xs (4 * j + 1)) K XL dL_law_1097 (lw_i hj hL (c := 1) (by decide)).1 (congrArg xs (lw_i hj hL (c := 1) (by decide)).2) ?_
    refine jk_cVi K (n' := (nn + 1)) (k' := (ks + 6)) [.int (xs (4 * j + 1))] [] dL_law_1098 (hb_X3_looksEast _ hl E (hb_v1 E q b1 b2 [hb_o E ao O] C G M C2 G2 M2) [] m th S N a n R.1 (xs (4 * j + 1))) gL_law_X3_looksEast rfl kd_X3_looksEast ⟨Nat.le_of_ble_eq_true rfl, Nat.le_of_ble_eq_true rfl⟩ _ hm_x0 rfl (Nat.le_of_ble_eq_true rfl) ⟨rfl, rfl⟩ ⟨(by show _ ≤ 601024; omega), (by show _ ≤ 7293034; omega)⟩ rfl (fun v hv => ?_)
    obtain ⟨e1, ek, R2⟩ := lp_looksEast_no (k := k) (v := v) R hu hv
    refine jk_ws (ws' := (lw_w E q b1 b2 ao m O C G M C2 G2 M2 v.1 n S N a)) rfl ?_
    refine jk_st (st' := [.int v.2]) rfl ?_
    refine jk_istore (lv' := [(6, .int v.2), (5, .int k), (4, .int (nI (4 * j))), (3, .ref ao), (2, .ref (m 0)), (1, .ref q), (0, .ref sb)]) K dL_law_1101 (by decide) rfl ?_
    refine jk_aload_n K dL_law_1103 rfl 4 rfl ?_
    refine jk_cVi K (n' := (nn + 1)) (k' := (ks + 6)) [] [] dL_law_1104 (hb_X3_thrown _ hl E (hb_v1 E q b1 b2 [hb_o E ao O] C G M C2 G2 M2) [] m v.1 S N a n R2.1) gL_law_X3_thrown rfl kd_X3_thrown ⟨Nat.le_of_ble_eq_true rfl, Nat.le_of_ble_eq_true rfl⟩ _ hm_x0 rfl (Nat.le_of_ble_eq_true rfl) ⟨rfl, rfl⟩ ⟨(by show _ ≤ 601024; omega), (by show _ ≤ 7293034; omega)⟩ rfl (fun _ _ => ?_)
    refine jk_st (st' := [.int k]) (by rw [e1]) ?_
    refine jk_iload K dL_law_1107 1 rfl ?_
    refine jk_icmp_eq (tgt := 1114) K dL_law_1109 rfl (fun c_1109 => ?_) (fun c_1109 => ?_)
    · refine jk_iload K dL_law_1114 1 rfl ?_
      refine jk_if_ne (tgt := 1138) K dL_law_1116 rfl (fun c_1116 => ?_) (fun c_1116 => ?_)
      · refine jk_goto (tgt := 2155) K dL_law_1138 rfl ?_
        refine jk_sub (lv' := [(4, .int (nI (4 * j))), (3, .ref ao), (2, .ref (m 0)), (1, .ref q), (0, .ref sb)]) [2, 3, 4, 5, 6] rfl ?_
        refine jk_wide (n' := nn + 11) (k' := ks + 117) (by omega) (by omega) ?_
        exact kk _ _ _ _ _ _ _ _ _ _ _ _ R2
      · exact absurd c_1116 ek
    · exact absurd rfl c_1109
set_option maxHeartbeats 4000000 in
set_option maxRecDepth 100000 in
theorem lw_c15 {Γ : jk_G} {E : jk_T} (K : jk_C Γ E RL cL_law 9 wsL_law ({ frames := 13, cells := 601024, slots := 7293034, locals := 468 } : Room)) {sb L : Nat} {xs : Nat → Int32} (XL : jk_LX Γ sb L xs) (hL : L ≤ 2048) {j : Nat} (hj : 4 * j + 3 < L) {nn ks : Nat} (hnn : nn + 11 ≤ 601024) (hks : ks + 117 ≤ 7293034) {q : Nat} {b1 b2 : Nat → Nat} {ao : Nat} {m : Nat → Nat} {O : Nat → Int64} {C : Nat → Nat → Int32} {G M : Nat → Int32} {C2 : Nat → Nat → Int32} {G2 M2 : Nat → Int32} {th : Int32} {n : Nat} {S : Nat → Int32} {N a : Nat → Nat → Int32} (R : hm_R n C G M S N a) (kk : ∀ (O : Nat → Int64) (C : Nat → Nat → Int32) (G M : Nat → Int32) (C2 : Nat → Nat → Int32) (G2 M2 : Nat → Int32) (th : Int32) (n : Nat) (S : Nat → Int32) (N a : Nat → Nat → Int32), hm_R n C G M S N a → jk_J Γ E (lw_w E q b1 b2 ao m O C G M C2 G2 M2 th n S N a) (nn + 11) (ks + 117) 2155 [(4, .int (nI (4 * j))), (3, .ref ao), (2, .ref (m 0)), (1, .ref q), (0, .ref sb)] []) : jk_J Γ E (lw_w E q b1 b2 ao m O C G M C2 G2 M2 th n S N a) nn ks 1141 [(4, .int (nI (4 * j))), (3, .ref ao), (2, .ref (m 0)), (1, .ref q), (0, .ref sb)] [] := by
  have hl := K.2.2.2.2.2.2.2.2.2.2
  refine jk_aload_n K dL_law_1141 rfl 3 rfl ?_
  refine jk_aload_n K dL_law_1142 rfl 4 rfl ?_
  refine jk_iload K dL_law_1143 0 rfl ?_
  refine jk_iconst (x := 1) K dL_law_1145 rfl ?_
  refine jk_iadd K dL_law_1146 ?_
  refine jk_xld (v := xs (4 * j + 1)) K XL dL_law_1147 (lw_i hj hL (c := 1) (by decide)).1 (congrArg xs (lw_i hj hL (c := 1) (by decide)).2) ?_
  refine jk_aload_n K dL_law_1148 rfl 1 rfl ?_
  refine jk_ws (ws' := (hb_v1 E q b1 b2 (hb_o E ao O :: (hm_MW E m th (nI n) S N a ++ [])) C G M C2 G2 M2)) lw_eq.symm ?_
  refine jk_cSiH K (n' := (nn + 1)) (k' := (ks + 6)) [.ref q, .int (xs (4 * j + 1)), .ref ao] [] dL_law_1149 (hb_L_isPost _ hl E q b1 b2 ao O (hm_MW E m th (nI n) S N a ++ []) C G M C2 G2 M2 n R.1 R.2.2.1.1 (xs (4 * j + 1))) gL_law_L_isPost rfl kd_L_isPost ⟨Nat.le_of_ble_eq_true rfl, Nat.le_of_ble_eq_true rfl⟩ (Nat.le_of_ble_eq_true rfl) ⟨rfl, rfl⟩ ⟨(by show _ ≤ 601024; omega), (by show _ ≤ 7293034; omega)⟩ rfl (fun u hu => ?_)
  rcases u with u | k
  · refine jk_ws (ws' := (lw_w E q b1 b2 ao m (vp_updL O 0 (if (hb_zb (C u 4) : Int32) = 0 then (0 : Int64) else 1)) C G M C2 G2 M2 th n S N a)) lw_eq ?_
    refine jk_st (st' := [.int 0]) rfl ?_
    refine jk_istore (lv' := [(5, .int 0), (4, .int (nI (4 * j))), (3, .ref ao), (2, .ref (m 0)), (1, .ref q), (0, .ref sb)]) K dL_law_1152 (by decide) rfl ?_
    refine jk_aload_n K dL_law_1154 rfl 3 rfl ?_
    refine jk_aload_n K dL_law_1155 rfl 5 rfl ?_
    refine jk_iload K dL_law_1156 1 rfl ?_
    refine jk_iconst (x := 1) K dL_law_1158 rfl ?_
    refine jk_iadd K dL_law_1159 ?_
    refine jk_xld (v := xs (4 * j + 1)) K XL dL_law_1160 (lw_i hj hL (c := 1) (by decide)).1 (congrArg xs (lw_i hj hL (c := 1) (by decide)).2) ?_
    refine jk_cVi K (n' := (nn + 1)) (k' := (ks + 6)) [.int (xs (4 * j + 1))] [] dL_law_1161 (hb_X3_isPost _ hl E (hb_v1 E q b1 b2 [hb_o E ao (vp_updL O 0 (if (hb_zb (C u 4) : Int32) = 0 then (0 : Int64) else 1))] C G M C2 G2 M2) [] m th S N a n R.1 (xs (4 * j + 1))) gL_law_X3_isPost rfl kd_X3_isPost ⟨Nat.le_of_ble_eq_true rfl, Nat.le_of_ble_eq_true rfl⟩ _ hm_x0 rfl (Nat.le_of_ble_eq_true rfl) ⟨rfl, rfl⟩ ⟨(by show _ ≤ 601024; omega), (by show _ ≤ 7293034; omega)⟩ rfl (fun v hv => ?_)
    obtain ⟨e1, e2, R2⟩ := lp_isPost_ok (C2 := C2) (G2 := G2) (M2 := M2) (u := u) (v := v) R hu hv
    refine jk_ws (ws' := (lw_w E q b1 b2 ao m (vp_updL O 0 (if (hb_zb (C u 4) : Int32) = 0 then (0 : Int64) else 1)) C G M C2 G2 M2 v.1 n S N a)) rfl ?_
    refine jk_st (st' := [.int (hb_zb (C u 4))]) (by rw [e2]) ?_
    refine jk_istore (lv' := [(6, .int (hb_zb (C u 4))), (5, .int 0), (4, .int (nI (4 * j))), (3, .ref ao), (2, .ref (m 0)), (1, .ref q), (0, .ref sb)]) K dL_law_1164 (by decide) rfl ?_
    refine jk_aload_n K dL_law_1166 rfl 4 rfl ?_
    refine jk_cVi K (n' := (nn + 1)) (k' := (ks + 6)) [] [] dL_law_1167 (hb_X3_thrown _ hl E (hb_v1 E q b1 b2 [hb_o E ao (vp_updL O 0 (if (hb_zb (C u 4) : Int32) = 0 then (0 : Int64) else 1))] C G M C2 G2 M2) [] m v.1 S N a n R2.1) gL_law_X3_thrown rfl kd_X3_thrown ⟨Nat.le_of_ble_eq_true rfl, Nat.le_of_ble_eq_true rfl⟩ _ hm_x0 rfl (Nat.le_of_ble_eq_true rfl) ⟨rfl, rfl⟩ ⟨(by show _ ≤ 601024; omega), (by show _ ≤ 7293034; omega)⟩ rfl (fun _ _ => ?_)
    refine jk_st (st' := [.int 0]) (by rw [e1]) ?_
    refine jk_iload K dL_law_1170 1 rfl ?_
    refine jk_icmp_eq (tgt := 1177) K dL_law_1172 rfl (fun c_1172 => ?_) (fun c_1172 => ?_)
    · refine jk_iload K dL_law_1177 1 rfl ?_
      refine jk_if_ne (tgt := 1201) K dL_law_1179 rfl (fun c_1179 => ?_) (fun c_1179 => ?_)
      · exact absurd (by decide) c_1179
      · refine jk_aload_n K dL_law_1182 rfl 3 rfl ?_
        refine jk_iconst (x := 0) K dL_law_1183 rfl ?_
        refine jk_lald (v := (if (hb_zb (C u 4) : Int32) = 0 then (0 : Int64) else 1)) K dL_law_1184 29 lw_out (vp_in_nI (n := 0) (by decide) (by decide)) (by rw [show Int32.toNatClampNeg 0 = 0 from by decide]; exact if_pos rfl) ?_
        refine jk_iload K dL_law_1185 0 rfl ?_
        refine jk_if_eq (tgt := 1194) K dL_law_1187 rfl (fun c_1187 => ?_) (fun c_1187 => ?_)
        · refine jk_lconst (x := 0) K dL_law_1194 rfl ?_
          refine jk_lcmp K dL_law_1195 ?_
          refine jk_st (st' := [.int 0]) (by rw [if_pos c_1187, lg_self]) ?_
          refine jk_if_eq (tgt := 1201) K dL_law_1196 rfl (fun c_1196 => ?_) (fun c_1196 => ?_)
          · refine jk_goto (tgt := 2155) K dL_law_1201 rfl ?_
            refine jk_sub (lv' := [(4, .int (nI (4 * j))), (3, .ref ao), (2, .ref (m 0)), (1, .ref q), (0, .ref sb)]) [2, 3, 4, 5, 6] rfl ?_
            refine jk_wide (n' := nn + 11) (k' := ks + 117) (by omega) (by omega) ?_
            exact kk _ _ _ _ _ _ _ _ _ _ _ _ R2
          · exact absurd (by decide) c_1196
        · refine jk_lconst (x := 1) K dL_law_1190 rfl ?_
          refine jk_goto (tgt := 1195) K dL_law_1191 rfl ?_
          refine jk_lcmp K dL_law_1195 ?_
          refine jk_st (st' := [.int 0]) (by rw [if_neg c_1187, lg_self]) ?_
          refine jk_if_eq (tgt := 1201) K dL_law_1196 rfl (fun c_1196 => ?_) (fun c_1196 => ?_)
          · refine jk_goto (tgt := 2155) K dL_law_1201 rfl ?_
            refine jk_sub (lv' := [(4, .int (nI (4 * j))), (3, .ref ao), (2, .ref (m 0)), (1, .ref q), (0, .ref sb)]) [2, 3, 4, 5, 6] rfl ?_
            refine jk_wide (n' := nn + 11) (k' := ks + 117) (by omega) (by omega) ?_
            exact kk _ _ _ _ _ _ _ _ _ _ _ _ R2
          · exact absurd (by decide) c_1196
    · exact absurd (by decide) c_1172
  · refine jk_ws (ws' := (lw_w E q b1 b2 ao m O C G M C2 G2 M2 th n S N a)) lw_eq ?_
    refine jk_st (st' := [.int k]) rfl ?_
    refine jk_istore (lv' := [(5, .int k), (4, .int (nI (4 * j))), (3, .ref ao), (2, .ref (m 0)), (1, .ref q), (0, .ref sb)]) K dL_law_1152 (by decide) rfl ?_
    refine jk_aload_n K dL_law_1154 rfl 3 rfl ?_
    refine jk_aload_n K dL_law_1155 rfl 5 rfl ?_
    refine jk_iload K dL_law_1156 1 rfl ?_
    refine jk_iconst (x := 1) K dL_law_1158 rfl ?_
    refine jk_iadd K dL_law_1159 ?_
    refine jk_xld (v := xs (4 * j + 1)) K XL dL_law_1160 (lw_i hj hL (c := 1) (by decide)).1 (congrArg xs (lw_i hj hL (c := 1) (by decide)).2) ?_
    refine jk_cVi K (n' := (nn + 1)) (k' := (ks + 6)) [.int (xs (4 * j + 1))] [] dL_law_1161 (hb_X3_isPost _ hl E (hb_v1 E q b1 b2 [hb_o E ao O] C G M C2 G2 M2) [] m th S N a n R.1 (xs (4 * j + 1))) gL_law_X3_isPost rfl kd_X3_isPost ⟨Nat.le_of_ble_eq_true rfl, Nat.le_of_ble_eq_true rfl⟩ _ hm_x0 rfl (Nat.le_of_ble_eq_true rfl) ⟨rfl, rfl⟩ ⟨(by show _ ≤ 601024; omega), (by show _ ≤ 7293034; omega)⟩ rfl (fun v hv => ?_)
    obtain ⟨e1, ek, R2⟩ := lp_isPost_no (k := k) (v := v) R hu hv
    refine jk_ws (ws' := (lw_w E q b1 b2 ao m O C G M C2 G2 M2 v.1 n S N a)) rfl ?_
    refine jk_st (st' := [.int v.2]) rfl ?_
    refine jk_istore (lv' := [(6, .int v.2), (5, .int k), (4, .int (nI (4 * j))), (3, .ref ao), (2, .ref (m 0)), (1, .ref q), (0, .ref sb)]) K dL_law_1164 (by decide) rfl ?_
    refine jk_aload_n K dL_law_1166 rfl 4 rfl ?_
    refine jk_cVi K (n' := (nn + 1)) (k' := (ks + 6)) [] [] dL_law_1167 (hb_X3_thrown _ hl E (hb_v1 E q b1 b2 [hb_o E ao O] C G M C2 G2 M2) [] m v.1 S N a n R2.1) gL_law_X3_thrown rfl kd_X3_thrown ⟨Nat.le_of_ble_eq_true rfl, Nat.le_of_ble_eq_true rfl⟩ _ hm_x0 rfl (Nat.le_of_ble_eq_true rfl) ⟨rfl, rfl⟩ ⟨(by show _ ≤ 601024; omega), (by show _ ≤ 7293034; omega)⟩ rfl (fun _ _ => ?_)
    refine jk_st (st' := [.int k]) (by rw [e1]) ?_
    refine jk_iload K dL_law_1170 1 rfl ?_
    refine jk_icmp_eq (tgt := 1177) K dL_law_1172 rfl (fun c_1172 => ?_) (fun c_1172 => ?_)
    · refine jk_iload K dL_law_1177 1 rfl ?_
      refine jk_if_ne (tgt := 1201) K dL_law_1179 rfl (fun c_1179 => ?_) (fun c_1179 => ?_)
      · refine jk_goto (tgt := 2155) K dL_law_1201 rfl ?_
        refine jk_sub (lv' := [(4, .int (nI (4 * j))), (3, .ref ao), (2, .ref (m 0)), (1, .ref q), (0, .ref sb)]) [2, 3, 4, 5, 6] rfl ?_
        refine jk_wide (n' := nn + 11) (k' := ks + 117) (by omega) (by omega) ?_
        exact kk _ _ _ _ _ _ _ _ _ _ _ _ R2
      · exact absurd c_1179 ek
    · exact absurd rfl c_1172
set_option maxHeartbeats 4000000 in
set_option maxRecDepth 100000 in
theorem lw_c16 {Γ : jk_G} {E : jk_T} (K : jk_C Γ E RL cL_law 9 wsL_law ({ frames := 13, cells := 601024, slots := 7293034, locals := 468 } : Room)) {sb L : Nat} {xs : Nat → Int32} (XL : jk_LX Γ sb L xs) (hL : L ≤ 2048) {j : Nat} (hj : 4 * j + 3 < L) {nn ks : Nat} (hnn : nn + 11 ≤ 601024) (hks : ks + 117 ≤ 7293034) {q : Nat} {b1 b2 : Nat → Nat} {ao : Nat} {m : Nat → Nat} {O : Nat → Int64} {C : Nat → Nat → Int32} {G M : Nat → Int32} {C2 : Nat → Nat → Int32} {G2 M2 : Nat → Int32} {th : Int32} {n : Nat} {S : Nat → Int32} {N a : Nat → Nat → Int32} (R : hm_R n C G M S N a) (kk : ∀ (O : Nat → Int64) (C : Nat → Nat → Int32) (G M : Nat → Int32) (C2 : Nat → Nat → Int32) (G2 M2 : Nat → Int32) (th : Int32) (n : Nat) (S : Nat → Int32) (N a : Nat → Nat → Int32), hm_R n C G M S N a → jk_J Γ E (lw_w E q b1 b2 ao m O C G M C2 G2 M2 th n S N a) (nn + 11) (ks + 117) 2155 [(4, .int (nI (4 * j))), (3, .ref ao), (2, .ref (m 0)), (1, .ref q), (0, .ref sb)] []) : jk_J Γ E (lw_w E q b1 b2 ao m O C G M C2 G2 M2 th n S N a) nn ks 1204 [(4, .int (nI (4 * j))), (3, .ref ao), (2, .ref (m 0)), (1, .ref q), (0, .ref sb)] [] := by
  have hl := K.2.2.2.2.2.2.2.2.2.2
  refine jk_aload_n K dL_law_1204 rfl 3 rfl ?_
  refine jk_aload_n K dL_law_1205 rfl 4 rfl ?_
  refine jk_iload K dL_law_1206 0 rfl ?_
  refine jk_iconst (x := 1) K dL_law_1208 rfl ?_
  refine jk_iadd K dL_law_1209 ?_
  refine jk_xld (v := xs (4 * j + 1)) K XL dL_law_1210 (lw_i hj hL (c := 1) (by decide)).1 (congrArg xs (lw_i hj hL (c := 1) (by decide)).2) ?_
  refine jk_aload_n K dL_law_1211 rfl 4 rfl ?_
  refine jk_iload K dL_law_1212 0 rfl ?_
  refine jk_iconst (x := 2) K dL_law_1214 rfl ?_
  refine jk_iadd K dL_law_1215 ?_
  refine jk_xld (v := xs (4 * j + 2)) K XL dL_law_1216 (lw_i hj hL (c := 2) (by decide)).1 (congrArg xs (lw_i hj hL (c := 2) (by decide)).2) ?_
  refine jk_aload_n K dL_law_1217 rfl 1 rfl ?_
  refine jk_ws (ws' := (hb_v1 E q b1 b2 (hb_o E ao O :: (hm_MW E m th (nI n) S N a ++ [])) C G M C2 G2 M2)) lw_eq.symm ?_
  refine jk_cSiH K (n' := (nn + 2)) (k' := (ks + 12)) [.ref q, .int (xs (4 * j + 1)), .int (xs (4 * j + 2)), .ref ao] [] dL_law_1218 (hb_L_milesBetween _ hl E q b1 b2 ao O (hm_MW E m th (nI n) S N a ++ []) C G M C2 G2 M2 n R.1 R.2.2.1.1 (xs (4 * j + 1)) (xs (4 * j + 2))) gL_law_L_milesBetween rfl kd_L_milesBetween ⟨Nat.le_of_ble_eq_true rfl, Nat.le_of_ble_eq_true rfl⟩ (Nat.le_of_ble_eq_true rfl) ⟨rfl, rfl⟩ ⟨(by show _ ≤ 601024; omega), (by show _ ≤ 7293034; omega)⟩ rfl (fun u hu => ?_)
  rcases u with u | k
  · refine jk_ws (ws' := (lw_w E q b1 b2 ao m (vp_updL O 0 (Int32.toInt64 (M (u.1 * 10 + u.2)))) C G M C2 G2 M2 th n S N a)) lw_eq ?_
    refine jk_st (st' := [.int 0]) rfl ?_
    refine jk_istore (lv' := [(5, .int 0), (4, .int (nI (4 * j))), (3, .ref ao), (2, .ref (m 0)), (1, .ref q), (0, .ref sb)]) K dL_law_1221 (by decide) rfl ?_
    refine jk_aload_n K dL_law_1223 rfl 3 rfl ?_
    refine jk_aload_n K dL_law_1224 rfl 5 rfl ?_
    refine jk_iload K dL_law_1225 1 rfl ?_
    refine jk_iconst (x := 1) K dL_law_1227 rfl ?_
    refine jk_iadd K dL_law_1228 ?_
    refine jk_xld (v := xs (4 * j + 1)) K XL dL_law_1229 (lw_i hj hL (c := 1) (by decide)).1 (congrArg xs (lw_i hj hL (c := 1) (by decide)).2) ?_
    refine jk_aload_n K dL_law_1230 rfl 5 rfl ?_
    refine jk_iload K dL_law_1231 1 rfl ?_
    refine jk_iconst (x := 2) K dL_law_1233 rfl ?_
    refine jk_iadd K dL_law_1234 ?_
    refine jk_xld (v := xs (4 * j + 2)) K XL dL_law_1235 (lw_i hj hL (c := 2) (by decide)).1 (congrArg xs (lw_i hj hL (c := 2) (by decide)).2) ?_
    refine jk_cVi K (n' := (nn + 2)) (k' := (ks + 12)) [.int (xs (4 * j + 1)), .int (xs (4 * j + 2))] [] dL_law_1236 (hb_X3_milesBetween _ hl E (hb_v1 E q b1 b2 [hb_o E ao (vp_updL O 0 (Int32.toInt64 (M (u.1 * 10 + u.2))))] C G M C2 G2 M2) [] m th S N a n R.1 (xs (4 * j + 1)) (xs (4 * j + 2))) gL_law_X3_milesBetween rfl kd_X3_milesBetween ⟨Nat.le_of_ble_eq_true rfl, Nat.le_of_ble_eq_true rfl⟩ _ hm_x0 rfl (Nat.le_of_ble_eq_true rfl) ⟨rfl, rfl⟩ ⟨(by show _ ≤ 601024; omega), (by show _ ≤ 7293034; omega)⟩ rfl (fun v hv => ?_)
    obtain ⟨e1, e2, R2⟩ := lp_milesBetween_ok (C2 := C2) (G2 := G2) (M2 := M2) (u := u) (v := v) R hu hv
    refine jk_ws (ws' := (lw_w E q b1 b2 ao m (vp_updL O 0 (Int32.toInt64 (M (u.1 * 10 + u.2)))) C G M C2 G2 M2 v.1 n S N a)) rfl ?_
    refine jk_st (st' := [.int (M (u.1 * 10 + u.2))]) (by rw [e2]) ?_
    refine jk_istore (lv' := [(6, .int (M (u.1 * 10 + u.2))), (5, .int 0), (4, .int (nI (4 * j))), (3, .ref ao), (2, .ref (m 0)), (1, .ref q), (0, .ref sb)]) K dL_law_1239 (by decide) rfl ?_
    refine jk_aload_n K dL_law_1241 rfl 4 rfl ?_
    refine jk_cVi K (n' := (nn + 2)) (k' := (ks + 12)) [] [] dL_law_1242 (hb_X3_thrown _ hl E (hb_v1 E q b1 b2 [hb_o E ao (vp_updL O 0 (Int32.toInt64 (M (u.1 * 10 + u.2))))] C G M C2 G2 M2) [] m v.1 S N a n R2.1) gL_law_X3_thrown rfl kd_X3_thrown ⟨Nat.le_of_ble_eq_true rfl, Nat.le_of_ble_eq_true rfl⟩ _ hm_x0 rfl (Nat.le_of_ble_eq_true rfl) ⟨rfl, rfl⟩ ⟨(by show _ ≤ 601024; omega), (by show _ ≤ 7293034; omega)⟩ rfl (fun _ _ => ?_)
    refine jk_st (st' := [.int 0]) (by rw [e1]) ?_
    refine jk_iload K dL_law_1245 1 rfl ?_
    refine jk_icmp_eq (tgt := 1252) K dL_law_1247 rfl (fun c_1247 => ?_) (fun c_1247 => ?_)
    · refine jk_iload K dL_law_1252 1 rfl ?_
      refine jk_if_ne (tgt := 1269) K dL_law_1254 rfl (fun c_1254 => ?_) (fun c_1254 => ?_)
      · exact absurd (by decide) c_1254
      · refine jk_aload_n K dL_law_1257 rfl 3 rfl ?_
        refine jk_iconst (x := 0) K dL_law_1258 rfl ?_
        refine jk_lald (v := (Int32.toInt64 (M (u.1 * 10 + u.2)))) K dL_law_1259 29 lw_out (vp_in_nI (n := 0) (by decide) (by decide)) (by rw [show Int32.toNatClampNeg 0 = 0 from by decide]; exact if_pos rfl) ?_
        refine jk_iload K dL_law_1260 0 rfl ?_
        refine jk_i2l K dL_law_1262 ?_
        refine jk_lcmp K dL_law_1263 ?_
        refine jk_st (st' := [.int 0]) (by rw [lg_self]) ?_
        refine jk_if_eq (tgt := 1269) K dL_law_1264 rfl (fun c_1264 => ?_) (fun c_1264 => ?_)
        · refine jk_goto (tgt := 2155) K dL_law_1269 rfl ?_
          refine jk_sub (lv' := [(4, .int (nI (4 * j))), (3, .ref ao), (2, .ref (m 0)), (1, .ref q), (0, .ref sb)]) [2, 3, 4, 5, 6] rfl ?_
          refine jk_wide (n' := nn + 11) (k' := ks + 117) (by omega) (by omega) ?_
          exact kk _ _ _ _ _ _ _ _ _ _ _ _ R2
        · exact absurd (by decide) c_1264
    · exact absurd (by decide) c_1247
  · refine jk_ws (ws' := (lw_w E q b1 b2 ao m O C G M C2 G2 M2 th n S N a)) lw_eq ?_
    refine jk_st (st' := [.int k]) rfl ?_
    refine jk_istore (lv' := [(5, .int k), (4, .int (nI (4 * j))), (3, .ref ao), (2, .ref (m 0)), (1, .ref q), (0, .ref sb)]) K dL_law_1221 (by decide) rfl ?_
    refine jk_aload_n K dL_law_1223 rfl 3 rfl ?_
    refine jk_aload_n K dL_law_1224 rfl 5 rfl ?_
    refine jk_iload K dL_law_1225 1 rfl ?_
    refine jk_iconst (x := 1) K dL_law_1227 rfl ?_
    refine jk_iadd K dL_law_1228 ?_
    refine jk_xld (v := xs (4 * j + 1)) K XL dL_law_1229 (lw_i hj hL (c := 1) (by decide)).1 (congrArg xs (lw_i hj hL (c := 1) (by decide)).2) ?_
    refine jk_aload_n K dL_law_1230 rfl 5 rfl ?_
    refine jk_iload K dL_law_1231 1 rfl ?_
    refine jk_iconst (x := 2) K dL_law_1233 rfl ?_
    refine jk_iadd K dL_law_1234 ?_
    refine jk_xld (v := xs (4 * j + 2)) K XL dL_law_1235 (lw_i hj hL (c := 2) (by decide)).1 (congrArg xs (lw_i hj hL (c := 2) (by decide)).2) ?_
    refine jk_cVi K (n' := (nn + 2)) (k' := (ks + 12)) [.int (xs (4 * j + 1)), .int (xs (4 * j + 2))] [] dL_law_1236 (hb_X3_milesBetween _ hl E (hb_v1 E q b1 b2 [hb_o E ao O] C G M C2 G2 M2) [] m th S N a n R.1 (xs (4 * j + 1)) (xs (4 * j + 2))) gL_law_X3_milesBetween rfl kd_X3_milesBetween ⟨Nat.le_of_ble_eq_true rfl, Nat.le_of_ble_eq_true rfl⟩ _ hm_x0 rfl (Nat.le_of_ble_eq_true rfl) ⟨rfl, rfl⟩ ⟨(by show _ ≤ 601024; omega), (by show _ ≤ 7293034; omega)⟩ rfl (fun v hv => ?_)
    obtain ⟨e1, ek, R2⟩ := lp_milesBetween_no (k := k) (v := v) R hu hv
    refine jk_ws (ws' := (lw_w E q b1 b2 ao m O C G M C2 G2 M2 v.1 n S N a)) rfl ?_
    refine jk_st (st' := [.int v.2]) rfl ?_
    refine jk_istore (lv' := [(6, .int v.2), (5, .int k), (4, .int (nI (4 * j))), (3, .ref ao), (2, .ref (m 0)), (1, .ref q), (0, .ref sb)]) K dL_law_1239 (by decide) rfl ?_
    refine jk_aload_n K dL_law_1241 rfl 4 rfl ?_
    refine jk_cVi K (n' := (nn + 2)) (k' := (ks + 12)) [] [] dL_law_1242 (hb_X3_thrown _ hl E (hb_v1 E q b1 b2 [hb_o E ao O] C G M C2 G2 M2) [] m v.1 S N a n R2.1) gL_law_X3_thrown rfl kd_X3_thrown ⟨Nat.le_of_ble_eq_true rfl, Nat.le_of_ble_eq_true rfl⟩ _ hm_x0 rfl (Nat.le_of_ble_eq_true rfl) ⟨rfl, rfl⟩ ⟨(by show _ ≤ 601024; omega), (by show _ ≤ 7293034; omega)⟩ rfl (fun _ _ => ?_)
    refine jk_st (st' := [.int k]) (by rw [e1]) ?_
    refine jk_iload K dL_law_1245 1 rfl ?_
    refine jk_icmp_eq (tgt := 1252) K dL_law_1247 rfl (fun c_1247 => ?_) (fun c_1247 => ?_)
    · refine jk_iload K dL_law_1252 1 rfl ?_
      refine jk_if_ne (tgt := 1269) K dL_law_1254 rfl (fun c_1254 => ?_) (fun c_1254 => ?_)
      · refine jk_goto (tgt := 2155) K dL_law_1269 rfl ?_
        refine jk_sub (lv' := [(4, .int (nI (4 * j))), (3, .ref ao), (2, .ref (m 0)), (1, .ref q), (0, .ref sb)]) [2, 3, 4, 5, 6] rfl ?_
        refine jk_wide (n' := nn + 11) (k' := ks + 117) (by omega) (by omega) ?_
        exact kk _ _ _ _ _ _ _ _ _ _ _ _ R2
      · exact absurd c_1254 ek
    · exact absurd rfl c_1247
set_option maxHeartbeats 4000000 in
set_option maxRecDepth 100000 in
theorem lw_c17 {Γ : jk_G} {E : jk_T} (K : jk_C Γ E RL cL_law 9 wsL_law ({ frames := 13, cells := 601024, slots := 7293034, locals := 468 } : Room)) {sb L : Nat} {xs : Nat → Int32} (XL : jk_LX Γ sb L xs) (hL : L ≤ 2048) {j : Nat} (hj : 4 * j + 3 < L) {nn ks : Nat} (hnn : nn + 11 ≤ 601024) (hks : ks + 117 ≤ 7293034) {q : Nat} {b1 b2 : Nat → Nat} {ao : Nat} {m : Nat → Nat} {O : Nat → Int64} {C : Nat → Nat → Int32} {G M : Nat → Int32} {C2 : Nat → Nat → Int32} {G2 M2 : Nat → Int32} {th : Int32} {n : Nat} {S : Nat → Int32} {N a : Nat → Nat → Int32} (R : hm_R n C G M S N a) (kk : ∀ (O : Nat → Int64) (C : Nat → Nat → Int32) (G M : Nat → Int32) (C2 : Nat → Nat → Int32) (G2 M2 : Nat → Int32) (th : Int32) (n : Nat) (S : Nat → Int32) (N a : Nat → Nat → Int32), hm_R n C G M S N a → jk_J Γ E (lw_w E q b1 b2 ao m O C G M C2 G2 M2 th n S N a) (nn + 11) (ks + 117) 2155 [(4, .int (nI (4 * j))), (3, .ref ao), (2, .ref (m 0)), (1, .ref q), (0, .ref sb)] []) : jk_J Γ E (lw_w E q b1 b2 ao m O C G M C2 G2 M2 th n S N a) nn ks 1272 [(4, .int (nI (4 * j))), (3, .ref ao), (2, .ref (m 0)), (1, .ref q), (0, .ref sb)] [] := by
  have hl := K.2.2.2.2.2.2.2.2.2.2
  refine jk_aload_n K dL_law_1272 rfl 3 rfl ?_
  refine jk_aload_n K dL_law_1273 rfl 4 rfl ?_
  refine jk_iload K dL_law_1274 0 rfl ?_
  refine jk_iconst (x := 1) K dL_law_1276 rfl ?_
  refine jk_iadd K dL_law_1277 ?_
  refine jk_xld (v := xs (4 * j + 1)) K XL dL_law_1278 (lw_i hj hL (c := 1) (by decide)).1 (congrArg xs (lw_i hj hL (c := 1) (by decide)).2) ?_
  refine jk_aload_n K dL_law_1279 rfl 4 rfl ?_
  refine jk_iload K dL_law_1280 0 rfl ?_
  refine jk_iconst (x := 2) K dL_law_1282 rfl ?_
  refine jk_iadd K dL_law_1283 ?_
  refine jk_xld (v := xs (4 * j + 2)) K XL dL_law_1284 (lw_i hj hL (c := 2) (by decide)).1 (congrArg xs (lw_i hj hL (c := 2) (by decide)).2) ?_
  refine jk_aload_n K dL_law_1285 rfl 1 rfl ?_
  refine jk_ws (ws' := (hb_v1 E q b1 b2 (hb_o E ao O :: (hm_MW E m th (nI n) S N a ++ [])) C G M C2 G2 M2)) lw_eq.symm ?_
  refine jk_cSiH K (n' := (nn + 2)) (k' := (ks + 12)) [.ref q, .int (xs (4 * j + 1)), .int (xs (4 * j + 2)), .ref ao] [] dL_law_1286 (hb_L_canSee _ hl E q b1 b2 ao O (hm_MW E m th (nI n) S N a ++ []) C G M C2 G2 M2 n R.1 R.2.2.1.1 (xs (4 * j + 1)) (xs (4 * j + 2))) gL_law_L_canSee rfl kd_L_canSee ⟨Nat.le_of_ble_eq_true rfl, Nat.le_of_ble_eq_true rfl⟩ (Nat.le_of_ble_eq_true rfl) ⟨rfl, rfl⟩ ⟨(by show _ ≤ 601024; omega), (by show _ ≤ 7293034; omega)⟩ rfl (fun u hu => ?_)
  rcases u with u | k
  · refine jk_ws (ws' := (lw_w E q b1 b2 ao m (vp_updL O 0 (if (hb_clr (G 1) (M (u.1 * 10 + u.2)) : Int32) = 0 then (0 : Int64) else 1)) C G M C2 G2 M2 th n S N a)) lw_eq ?_
    refine jk_st (st' := [.int 0]) rfl ?_
    refine jk_istore (lv' := [(5, .int 0), (4, .int (nI (4 * j))), (3, .ref ao), (2, .ref (m 0)), (1, .ref q), (0, .ref sb)]) K dL_law_1289 (by decide) rfl ?_
    refine jk_aload_n K dL_law_1291 rfl 3 rfl ?_
    refine jk_aload_n K dL_law_1292 rfl 5 rfl ?_
    refine jk_iload K dL_law_1293 1 rfl ?_
    refine jk_iconst (x := 1) K dL_law_1295 rfl ?_
    refine jk_iadd K dL_law_1296 ?_
    refine jk_xld (v := xs (4 * j + 1)) K XL dL_law_1297 (lw_i hj hL (c := 1) (by decide)).1 (congrArg xs (lw_i hj hL (c := 1) (by decide)).2) ?_
    refine jk_aload_n K dL_law_1298 rfl 5 rfl ?_
    refine jk_iload K dL_law_1299 1 rfl ?_
    refine jk_iconst (x := 2) K dL_law_1301 rfl ?_
    refine jk_iadd K dL_law_1302 ?_
    refine jk_xld (v := xs (4 * j + 2)) K XL dL_law_1303 (lw_i hj hL (c := 2) (by decide)).1 (congrArg xs (lw_i hj hL (c := 2) (by decide)).2) ?_
    refine jk_cVi K (n' := (nn + 2)) (k' := (ks + 12)) [.int (xs (4 * j + 1)), .int (xs (4 * j + 2))] [] dL_law_1304 (hb_X3_canSee _ hl E (hb_v1 E q b1 b2 [hb_o E ao (vp_updL O 0 (if (hb_clr (G 1) (M (u.1 * 10 + u.2)) : Int32) = 0 then (0 : Int64) else 1))] C G M C2 G2 M2) [] m th S N a n R.1 (xs (4 * j + 1)) (xs (4 * j + 2))) gL_law_X3_canSee rfl kd_X3_canSee ⟨Nat.le_of_ble_eq_true rfl, Nat.le_of_ble_eq_true rfl⟩ _ hm_x0 rfl (Nat.le_of_ble_eq_true rfl) ⟨rfl, rfl⟩ ⟨(by show _ ≤ 601024; omega), (by show _ ≤ 7293034; omega)⟩ rfl (fun v hv => ?_)
    obtain ⟨e1, e2, R2⟩ := lp_canSee_ok (C2 := C2) (G2 := G2) (M2 := M2) (u := u) (v := v) R hu hv
    refine jk_ws (ws' := (lw_w E q b1 b2 ao m (vp_updL O 0 (if (hb_clr (G 1) (M (u.1 * 10 + u.2)) : Int32) = 0 then (0 : Int64) else 1)) C G M C2 G2 M2 v.1 n S N a)) rfl ?_
    refine jk_st (st' := [.int (hb_clr (G 1) (M (u.1 * 10 + u.2)))]) (by rw [e2]) ?_
    refine jk_istore (lv' := [(6, .int (hb_clr (G 1) (M (u.1 * 10 + u.2)))), (5, .int 0), (4, .int (nI (4 * j))), (3, .ref ao), (2, .ref (m 0)), (1, .ref q), (0, .ref sb)]) K dL_law_1307 (by decide) rfl ?_
    refine jk_aload_n K dL_law_1309 rfl 4 rfl ?_
    refine jk_cVi K (n' := (nn + 2)) (k' := (ks + 12)) [] [] dL_law_1310 (hb_X3_thrown _ hl E (hb_v1 E q b1 b2 [hb_o E ao (vp_updL O 0 (if (hb_clr (G 1) (M (u.1 * 10 + u.2)) : Int32) = 0 then (0 : Int64) else 1))] C G M C2 G2 M2) [] m v.1 S N a n R2.1) gL_law_X3_thrown rfl kd_X3_thrown ⟨Nat.le_of_ble_eq_true rfl, Nat.le_of_ble_eq_true rfl⟩ _ hm_x0 rfl (Nat.le_of_ble_eq_true rfl) ⟨rfl, rfl⟩ ⟨(by show _ ≤ 601024; omega), (by show _ ≤ 7293034; omega)⟩ rfl (fun _ _ => ?_)
    refine jk_st (st' := [.int 0]) (by rw [e1]) ?_
    refine jk_iload K dL_law_1313 1 rfl ?_
    refine jk_icmp_eq (tgt := 1320) K dL_law_1315 rfl (fun c_1315 => ?_) (fun c_1315 => ?_)
    · refine jk_iload K dL_law_1320 1 rfl ?_
      refine jk_if_ne (tgt := 1344) K dL_law_1322 rfl (fun c_1322 => ?_) (fun c_1322 => ?_)
      · exact absurd (by decide) c_1322
      · refine jk_aload_n K dL_law_1325 rfl 3 rfl ?_
        refine jk_iconst (x := 0) K dL_law_1326 rfl ?_
        refine jk_lald (v := (if (hb_clr (G 1) (M (u.1 * 10 + u.2)) : Int32) = 0 then (0 : Int64) else 1)) K dL_law_1327 29 lw_out (vp_in_nI (n := 0) (by decide) (by decide)) (by rw [show Int32.toNatClampNeg 0 = 0 from by decide]; exact if_pos rfl) ?_
        refine jk_iload K dL_law_1328 0 rfl ?_
        refine jk_if_eq (tgt := 1337) K dL_law_1330 rfl (fun c_1330 => ?_) (fun c_1330 => ?_)
        · refine jk_lconst (x := 0) K dL_law_1337 rfl ?_
          refine jk_lcmp K dL_law_1338 ?_
          refine jk_st (st' := [.int 0]) (by rw [if_pos c_1330, lg_self]) ?_
          refine jk_if_eq (tgt := 1344) K dL_law_1339 rfl (fun c_1339 => ?_) (fun c_1339 => ?_)
          · refine jk_goto (tgt := 2155) K dL_law_1344 rfl ?_
            refine jk_sub (lv' := [(4, .int (nI (4 * j))), (3, .ref ao), (2, .ref (m 0)), (1, .ref q), (0, .ref sb)]) [2, 3, 4, 5, 6] rfl ?_
            refine jk_wide (n' := nn + 11) (k' := ks + 117) (by omega) (by omega) ?_
            exact kk _ _ _ _ _ _ _ _ _ _ _ _ R2
          · exact absurd (by decide) c_1339
        · refine jk_lconst (x := 1) K dL_law_1333 rfl ?_
          refine jk_goto (tgt := 1338) K dL_law_1334 rfl ?_
          refine jk_lcmp K dL_law_1338 ?_
          refine jk_st (st' := [.int 0]) (by rw [if_neg c_1330, lg_self]) ?_
          refine jk_if_eq (tgt := 1344) K dL_law_1339 rfl (fun c_1339 => ?_) (fun c_1339 => ?_)
          · refine jk_goto (tgt := 2155) K dL_law_1344 rfl ?_
            refine jk_sub (lv' := [(4, .int (nI (4 * j))), (3, .ref ao), (2, .ref (m 0)), (1, .ref q), (0, .ref sb)]) [2, 3, 4, 5, 6] rfl ?_
            refine jk_wide (n' := nn + 11) (k' := ks + 117) (by omega) (by omega) ?_
            exact kk _ _ _ _ _ _ _ _ _ _ _ _ R2
          · exact absurd (by decide) c_1339
    · exact absurd (by decide) c_1315
  · refine jk_ws (ws' := (lw_w E q b1 b2 ao m O C G M C2 G2 M2 th n S N a)) lw_eq ?_
    refine jk_st (st' := [.int k]) rfl ?_
    refine jk_istore (lv' := [(5, .int k), (4, .int (nI (4 * j))), (3, .ref ao), (2, .ref (m 0)), (1, .ref q), (0, .ref sb)]) K dL_law_1289 (by decide) rfl ?_
    refine jk_aload_n K dL_law_1291 rfl 3 rfl ?_
    refine jk_aload_n K dL_law_1292 rfl 5 rfl ?_
    refine jk_iload K dL_law_1293 1 rfl ?_
    refine jk_iconst (x := 1) K dL_law_1295 rfl ?_
    refine jk_iadd K dL_law_1296 ?_
    refine jk_xld (v := xs (4 * j + 1)) K XL dL_law_1297 (lw_i hj hL (c := 1) (by decide)).1 (congrArg xs (lw_i hj hL (c := 1) (by decide)).2) ?_
    refine jk_aload_n K dL_law_1298 rfl 5 rfl ?_
    refine jk_iload K dL_law_1299 1 rfl ?_
    refine jk_iconst (x := 2) K dL_law_1301 rfl ?_
    refine jk_iadd K dL_law_1302 ?_
    refine jk_xld (v := xs (4 * j + 2)) K XL dL_law_1303 (lw_i hj hL (c := 2) (by decide)).1 (congrArg xs (lw_i hj hL (c := 2) (by decide)).2) ?_
    refine jk_cVi K (n' := (nn + 2)) (k' := (ks + 12)) [.int (xs (4 * j + 1)), .int (xs (4 * j + 2))] [] dL_law_1304 (hb_X3_canSee _ hl E (hb_v1 E q b1 b2 [hb_o E ao O] C G M C2 G2 M2) [] m th S N a n R.1 (xs (4 * j + 1)) (xs (4 * j + 2))) gL_law_X3_canSee rfl kd_X3_canSee ⟨Nat.le_of_ble_eq_true rfl, Nat.le_of_ble_eq_true rfl⟩ _ hm_x0 rfl (Nat.le_of_ble_eq_true rfl) ⟨rfl, rfl⟩ ⟨(by show _ ≤ 601024; omega), (by show _ ≤ 7293034; omega)⟩ rfl (fun v hv => ?_)
    obtain ⟨e1, ek, R2⟩ := lp_canSee_no (k := k) (v := v) R hu hv
    refine jk_ws (ws' := (lw_w E q b1 b2 ao m O C G M C2 G2 M2 v.1 n S N a)) rfl ?_
    refine jk_st (st' := [.int v.2]) rfl ?_
    refine jk_istore (lv' := [(6, .int v.2), (5, .int k), (4, .int (nI (4 * j))), (3, .ref ao), (2, .ref (m 0)), (1, .ref q), (0, .ref sb)]) K dL_law_1307 (by decide) rfl ?_
    refine jk_aload_n K dL_law_1309 rfl 4 rfl ?_
    refine jk_cVi K (n' := (nn + 2)) (k' := (ks + 12)) [] [] dL_law_1310 (hb_X3_thrown _ hl E (hb_v1 E q b1 b2 [hb_o E ao O] C G M C2 G2 M2) [] m v.1 S N a n R2.1) gL_law_X3_thrown rfl kd_X3_thrown ⟨Nat.le_of_ble_eq_true rfl, Nat.le_of_ble_eq_true rfl⟩ _ hm_x0 rfl (Nat.le_of_ble_eq_true rfl) ⟨rfl, rfl⟩ ⟨(by show _ ≤ 601024; omega), (by show _ ≤ 7293034; omega)⟩ rfl (fun _ _ => ?_)
    refine jk_st (st' := [.int k]) (by rw [e1]) ?_
    refine jk_iload K dL_law_1313 1 rfl ?_
    refine jk_icmp_eq (tgt := 1320) K dL_law_1315 rfl (fun c_1315 => ?_) (fun c_1315 => ?_)
    · refine jk_iload K dL_law_1320 1 rfl ?_
      refine jk_if_ne (tgt := 1344) K dL_law_1322 rfl (fun c_1322 => ?_) (fun c_1322 => ?_)
      · refine jk_goto (tgt := 2155) K dL_law_1344 rfl ?_
        refine jk_sub (lv' := [(4, .int (nI (4 * j))), (3, .ref ao), (2, .ref (m 0)), (1, .ref q), (0, .ref sb)]) [2, 3, 4, 5, 6] rfl ?_
        refine jk_wide (n' := nn + 11) (k' := ks + 117) (by omega) (by omega) ?_
        exact kk _ _ _ _ _ _ _ _ _ _ _ _ R2
      · exact absurd c_1322 ek
    · exact absurd rfl c_1315
set_option maxHeartbeats 4000000 in
set_option maxRecDepth 100000 in
theorem lw_c18 {Γ : jk_G} {E : jk_T} (K : jk_C Γ E RL cL_law 9 wsL_law ({ frames := 13, cells := 601024, slots := 7293034, locals := 468 } : Room)) {sb L : Nat} {xs : Nat → Int32} (XL : jk_LX Γ sb L xs) (hL : L ≤ 2048) {j : Nat} (hj : 4 * j + 3 < L) {nn ks : Nat} (hnn : nn + 11 ≤ 601024) (hks : ks + 117 ≤ 7293034) {q : Nat} {b1 b2 : Nat → Nat} {ao : Nat} {m : Nat → Nat} {O : Nat → Int64} {C : Nat → Nat → Int32} {G M : Nat → Int32} {C2 : Nat → Nat → Int32} {G2 M2 : Nat → Int32} {th : Int32} {n : Nat} {S : Nat → Int32} {N a : Nat → Nat → Int32} (R : hm_R n C G M S N a) (kk : ∀ (O : Nat → Int64) (C : Nat → Nat → Int32) (G M : Nat → Int32) (C2 : Nat → Nat → Int32) (G2 M2 : Nat → Int32) (th : Int32) (n : Nat) (S : Nat → Int32) (N a : Nat → Nat → Int32), hm_R n C G M S N a → jk_J Γ E (lw_w E q b1 b2 ao m O C G M C2 G2 M2 th n S N a) (nn + 11) (ks + 117) 2155 [(4, .int (nI (4 * j))), (3, .ref ao), (2, .ref (m 0)), (1, .ref q), (0, .ref sb)] []) : jk_J Γ E (lw_w E q b1 b2 ao m O C G M C2 G2 M2 th n S N a) nn ks 1347 [(4, .int (nI (4 * j))), (3, .ref ao), (2, .ref (m 0)), (1, .ref q), (0, .ref sb)] [] := by
  have hl := K.2.2.2.2.2.2.2.2.2.2
  refine jk_aload_n K dL_law_1347 rfl 3 rfl ?_
  refine jk_aload_n K dL_law_1348 rfl 4 rfl ?_
  refine jk_iload K dL_law_1349 0 rfl ?_
  refine jk_iconst (x := 1) K dL_law_1351 rfl ?_
  refine jk_iadd K dL_law_1352 ?_
  refine jk_xld (v := xs (4 * j + 1)) K XL dL_law_1353 (lw_i hj hL (c := 1) (by decide)).1 (congrArg xs (lw_i hj hL (c := 1) (by decide)).2) ?_
  refine jk_aload_n K dL_law_1354 rfl 4 rfl ?_
  refine jk_iload K dL_law_1355 0 rfl ?_
  refine jk_iconst (x := 2) K dL_law_1357 rfl ?_
  refine jk_iadd K dL_law_1358 ?_
  refine jk_xld (v := xs (4 * j + 2)) K XL dL_law_1359 (lw_i hj hL (c := 2) (by decide)).1 (congrArg xs (lw_i hj hL (c := 2) (by decide)).2) ?_
  refine jk_aload_n K dL_law_1360 rfl 1 rfl ?_
  refine jk_ws (ws' := (hb_v1 E q b1 b2 (hb_o E ao O :: (hm_MW E m th (nI n) S N a ++ [])) C G M C2 G2 M2)) lw_eq.symm ?_
  refine jk_cSiH K (n' := (nn + 2)) (k' := (ks + 12)) [.ref q, .int (xs (4 * j + 1)), .int (xs (4 * j + 2)), .ref ao] [] dL_law_1361 (hb_L_fewestSteps _ hl E q b1 b2 ao O (hm_MW E m th (nI n) S N a ++ []) C G M C2 G2 M2 n R.1 R.2.2.1.1 (xs (4 * j + 1)) (xs (4 * j + 2))) gL_law_L_fewestSteps rfl kd_L_fewestSteps ⟨Nat.le_of_ble_eq_true rfl, Nat.le_of_ble_eq_true rfl⟩ (Nat.le_of_ble_eq_true rfl) ⟨rfl, rfl⟩ ⟨(by show _ ≤ 601024; omega), (by show _ ≤ 7293034; omega)⟩ rfl (fun u hu => ?_)
  rcases u with u | k
  · refine jk_ws (ws' := (lw_w E q b1 b2 ao m (vp_updL O 0 (Int32.toInt64 (hb_steps G M n u.1 u.2))) C G M C2 G2 M2 th n S N a)) lw_eq ?_
    refine jk_st (st' := [.int 0]) rfl ?_
    refine jk_istore (lv' := [(5, .int 0), (4, .int (nI (4 * j))), (3, .ref ao), (2, .ref (m 0)), (1, .ref q), (0, .ref sb)]) K dL_law_1364 (by decide) rfl ?_
    refine jk_aload_n K dL_law_1366 rfl 3 rfl ?_
    refine jk_aload_n K dL_law_1367 rfl 5 rfl ?_
    refine jk_iload K dL_law_1368 1 rfl ?_
    refine jk_iconst (x := 1) K dL_law_1370 rfl ?_
    refine jk_iadd K dL_law_1371 ?_
    refine jk_xld (v := xs (4 * j + 1)) K XL dL_law_1372 (lw_i hj hL (c := 1) (by decide)).1 (congrArg xs (lw_i hj hL (c := 1) (by decide)).2) ?_
    refine jk_aload_n K dL_law_1373 rfl 5 rfl ?_
    refine jk_iload K dL_law_1374 1 rfl ?_
    refine jk_iconst (x := 2) K dL_law_1376 rfl ?_
    refine jk_iadd K dL_law_1377 ?_
    refine jk_xld (v := xs (4 * j + 2)) K XL dL_law_1378 (lw_i hj hL (c := 2) (by decide)).1 (congrArg xs (lw_i hj hL (c := 2) (by decide)).2) ?_
    refine jk_cVi K (n' := (nn + 2)) (k' := (ks + 12)) [.int (xs (4 * j + 1)), .int (xs (4 * j + 2))] [] dL_law_1379 (hb_X3_fewestSteps _ hl E (hb_v1 E q b1 b2 [hb_o E ao (vp_updL O 0 (Int32.toInt64 (hb_steps G M n u.1 u.2)))] C G M C2 G2 M2) [] m th S N a n R.1 (xs (4 * j + 1)) (xs (4 * j + 2))) gL_law_X3_fewestSteps rfl kd_X3_fewestSteps ⟨Nat.le_of_ble_eq_true rfl, Nat.le_of_ble_eq_true rfl⟩ _ hm_x0 rfl (Nat.le_of_ble_eq_true rfl) ⟨rfl, rfl⟩ ⟨(by show _ ≤ 601024; omega), (by show _ ≤ 7293034; omega)⟩ rfl (fun v hv => ?_)
    obtain ⟨e1, e2, R2⟩ := lp_fewestSteps_ok (C2 := C2) (G2 := G2) (M2 := M2) (u := u) (v := v) R hu hv
    refine jk_ws (ws' := (lw_w E q b1 b2 ao m (vp_updL O 0 (Int32.toInt64 (hb_steps G M n u.1 u.2))) C G M C2 G2 M2 v.1 n S N (va_up (va_up a 9 v.2.2.1) 10 v.2.2.2))) rfl ?_
    refine jk_st (st' := [.int (hb_steps G M n u.1 u.2)]) (by rw [e2]) ?_
    refine jk_istore (lv' := [(6, .int (hb_steps G M n u.1 u.2)), (5, .int 0), (4, .int (nI (4 * j))), (3, .ref ao), (2, .ref (m 0)), (1, .ref q), (0, .ref sb)]) K dL_law_1382 (by decide) rfl ?_
    refine jk_aload_n K dL_law_1384 rfl 4 rfl ?_
    refine jk_cVi K (n' := (nn + 2)) (k' := (ks + 12)) [] [] dL_law_1385 (hb_X3_thrown _ hl E (hb_v1 E q b1 b2 [hb_o E ao (vp_updL O 0 (Int32.toInt64 (hb_steps G M n u.1 u.2)))] C G M C2 G2 M2) [] m v.1 S N (va_up (va_up a 9 v.2.2.1) 10 v.2.2.2) n R2.1) gL_law_X3_thrown rfl kd_X3_thrown ⟨Nat.le_of_ble_eq_true rfl, Nat.le_of_ble_eq_true rfl⟩ _ hm_x0 rfl (Nat.le_of_ble_eq_true rfl) ⟨rfl, rfl⟩ ⟨(by show _ ≤ 601024; omega), (by show _ ≤ 7293034; omega)⟩ rfl (fun _ _ => ?_)
    refine jk_st (st' := [.int 0]) (by rw [e1]) ?_
    refine jk_iload K dL_law_1388 1 rfl ?_
    refine jk_icmp_eq (tgt := 1395) K dL_law_1390 rfl (fun c_1390 => ?_) (fun c_1390 => ?_)
    · refine jk_iload K dL_law_1395 1 rfl ?_
      refine jk_if_ne (tgt := 1412) K dL_law_1397 rfl (fun c_1397 => ?_) (fun c_1397 => ?_)
      · exact absurd (by decide) c_1397
      · refine jk_aload_n K dL_law_1400 rfl 3 rfl ?_
        refine jk_iconst (x := 0) K dL_law_1401 rfl ?_
        refine jk_lald (v := (Int32.toInt64 (hb_steps G M n u.1 u.2))) K dL_law_1402 29 lw_out (vp_in_nI (n := 0) (by decide) (by decide)) (by rw [show Int32.toNatClampNeg 0 = 0 from by decide]; exact if_pos rfl) ?_
        refine jk_iload K dL_law_1403 0 rfl ?_
        refine jk_i2l K dL_law_1405 ?_
        refine jk_lcmp K dL_law_1406 ?_
        refine jk_st (st' := [.int 0]) (by rw [lg_self]) ?_
        refine jk_if_eq (tgt := 1412) K dL_law_1407 rfl (fun c_1407 => ?_) (fun c_1407 => ?_)
        · refine jk_goto (tgt := 2155) K dL_law_1412 rfl ?_
          refine jk_sub (lv' := [(4, .int (nI (4 * j))), (3, .ref ao), (2, .ref (m 0)), (1, .ref q), (0, .ref sb)]) [2, 3, 4, 5, 6] rfl ?_
          refine jk_wide (n' := nn + 11) (k' := ks + 117) (by omega) (by omega) ?_
          exact kk _ _ _ _ _ _ _ _ _ _ _ _ R2
        · exact absurd (by decide) c_1407
    · exact absurd (by decide) c_1390
  · refine jk_ws (ws' := (lw_w E q b1 b2 ao m O C G M C2 G2 M2 th n S N a)) lw_eq ?_
    refine jk_st (st' := [.int k]) rfl ?_
    refine jk_istore (lv' := [(5, .int k), (4, .int (nI (4 * j))), (3, .ref ao), (2, .ref (m 0)), (1, .ref q), (0, .ref sb)]) K dL_law_1364 (by decide) rfl ?_
    refine jk_aload_n K dL_law_1366 rfl 3 rfl ?_
    refine jk_aload_n K dL_law_1367 rfl 5 rfl ?_
    refine jk_iload K dL_law_1368 1 rfl ?_
    refine jk_iconst (x := 1) K dL_law_1370 rfl ?_
    refine jk_iadd K dL_law_1371 ?_
    refine jk_xld (v := xs (4 * j + 1)) K XL dL_law_1372 (lw_i hj hL (c := 1) (by decide)).1 (congrArg xs (lw_i hj hL (c := 1) (by decide)).2) ?_
    refine jk_aload_n K dL_law_1373 rfl 5 rfl ?_
    refine jk_iload K dL_law_1374 1 rfl ?_
    refine jk_iconst (x := 2) K dL_law_1376 rfl ?_
    refine jk_iadd K dL_law_1377 ?_
    refine jk_xld (v := xs (4 * j + 2)) K XL dL_law_1378 (lw_i hj hL (c := 2) (by decide)).1 (congrArg xs (lw_i hj hL (c := 2) (by decide)).2) ?_
    refine jk_cVi K (n' := (nn + 2)) (k' := (ks + 12)) [.int (xs (4 * j + 1)), .int (xs (4 * j + 2))] [] dL_law_1379 (hb_X3_fewestSteps _ hl E (hb_v1 E q b1 b2 [hb_o E ao O] C G M C2 G2 M2) [] m th S N a n R.1 (xs (4 * j + 1)) (xs (4 * j + 2))) gL_law_X3_fewestSteps rfl kd_X3_fewestSteps ⟨Nat.le_of_ble_eq_true rfl, Nat.le_of_ble_eq_true rfl⟩ _ hm_x0 rfl (Nat.le_of_ble_eq_true rfl) ⟨rfl, rfl⟩ ⟨(by show _ ≤ 601024; omega), (by show _ ≤ 7293034; omega)⟩ rfl (fun v hv => ?_)
    obtain ⟨e1, ek, R2⟩ := lp_fewestSteps_no (k := k) (v := v) R hu hv
    refine jk_ws (ws' := (lw_w E q b1 b2 ao m O C G M C2 G2 M2 v.1 n S N (va_up (va_up a 9 v.2.2.1) 10 v.2.2.2))) rfl ?_
    refine jk_st (st' := [.int v.2.1]) rfl ?_
    refine jk_istore (lv' := [(6, .int v.2.1), (5, .int k), (4, .int (nI (4 * j))), (3, .ref ao), (2, .ref (m 0)), (1, .ref q), (0, .ref sb)]) K dL_law_1382 (by decide) rfl ?_
    refine jk_aload_n K dL_law_1384 rfl 4 rfl ?_
    refine jk_cVi K (n' := (nn + 2)) (k' := (ks + 12)) [] [] dL_law_1385 (hb_X3_thrown _ hl E (hb_v1 E q b1 b2 [hb_o E ao O] C G M C2 G2 M2) [] m v.1 S N (va_up (va_up a 9 v.2.2.1) 10 v.2.2.2) n R2.1) gL_law_X3_thrown rfl kd_X3_thrown ⟨Nat.le_of_ble_eq_true rfl, Nat.le_of_ble_eq_true rfl⟩ _ hm_x0 rfl (Nat.le_of_ble_eq_true rfl) ⟨rfl, rfl⟩ ⟨(by show _ ≤ 601024; omega), (by show _ ≤ 7293034; omega)⟩ rfl (fun _ _ => ?_)
    refine jk_st (st' := [.int k]) (by rw [e1]) ?_
    refine jk_iload K dL_law_1388 1 rfl ?_
    refine jk_icmp_eq (tgt := 1395) K dL_law_1390 rfl (fun c_1390 => ?_) (fun c_1390 => ?_)
    · refine jk_iload K dL_law_1395 1 rfl ?_
      refine jk_if_ne (tgt := 1412) K dL_law_1397 rfl (fun c_1397 => ?_) (fun c_1397 => ?_)
      · refine jk_goto (tgt := 2155) K dL_law_1412 rfl ?_
        refine jk_sub (lv' := [(4, .int (nI (4 * j))), (3, .ref ao), (2, .ref (m 0)), (1, .ref q), (0, .ref sb)]) [2, 3, 4, 5, 6] rfl ?_
        refine jk_wide (n' := nn + 11) (k' := ks + 117) (by omega) (by omega) ?_
        exact kk _ _ _ _ _ _ _ _ _ _ _ _ R2
      · exact absurd c_1397 ek
    · exact absurd rfl c_1390
set_option maxHeartbeats 4000000 in
set_option maxRecDepth 100000 in
theorem lw_c19 {Γ : jk_G} {E : jk_T} (K : jk_C Γ E RL cL_law 9 wsL_law ({ frames := 13, cells := 601024, slots := 7293034, locals := 468 } : Room)) {sb L : Nat} {xs : Nat → Int32} (XL : jk_LX Γ sb L xs) (hL : L ≤ 2048) {j : Nat} (hj : 4 * j + 3 < L) {nn ks : Nat} (hnn : nn + 11 ≤ 601024) (hks : ks + 117 ≤ 7293034) {q : Nat} {b1 b2 : Nat → Nat} {ao : Nat} {m : Nat → Nat} {O : Nat → Int64} {C : Nat → Nat → Int32} {G M : Nat → Int32} {C2 : Nat → Nat → Int32} {G2 M2 : Nat → Int32} {th : Int32} {n : Nat} {S : Nat → Int32} {N a : Nat → Nat → Int32} (R : hm_R n C G M S N a) (kk : ∀ (O : Nat → Int64) (C : Nat → Nat → Int32) (G M : Nat → Int32) (C2 : Nat → Nat → Int32) (G2 M2 : Nat → Int32) (th : Int32) (n : Nat) (S : Nat → Int32) (N a : Nat → Nat → Int32), hm_R n C G M S N a → jk_J Γ E (lw_w E q b1 b2 ao m O C G M C2 G2 M2 th n S N a) (nn + 11) (ks + 117) 2155 [(4, .int (nI (4 * j))), (3, .ref ao), (2, .ref (m 0)), (1, .ref q), (0, .ref sb)] []) : jk_J Γ E (lw_w E q b1 b2 ao m O C G M C2 G2 M2 th n S N a) nn ks 1415 [(4, .int (nI (4 * j))), (3, .ref ao), (2, .ref (m 0)), (1, .ref q), (0, .ref sb)] [] := by
  have hl := K.2.2.2.2.2.2.2.2.2.2
  refine jk_aload_n K dL_law_1415 rfl 3 rfl ?_
  refine jk_aload_n K dL_law_1416 rfl 4 rfl ?_
  refine jk_iload K dL_law_1417 0 rfl ?_
  refine jk_iconst (x := 1) K dL_law_1419 rfl ?_
  refine jk_iadd K dL_law_1420 ?_
  refine jk_xld (v := xs (4 * j + 1)) K XL dL_law_1421 (lw_i hj hL (c := 1) (by decide)).1 (congrArg xs (lw_i hj hL (c := 1) (by decide)).2) ?_
  refine jk_aload_n K dL_law_1422 rfl 1 rfl ?_
  refine jk_ws (ws' := (hb_v1 E q b1 b2 (hb_o E ao O :: (hm_MW E m th (nI n) S N a ++ [])) C G M C2 G2 M2)) lw_eq.symm ?_
  refine jk_cSiH K (n' := (nn + 1)) (k' := (ks + 6)) [.ref q, .int (xs (4 * j + 1)), .ref ao] [] dL_law_1423 (hb_L_isDark _ hl E q b1 b2 ao O (hm_MW E m th (nI n) S N a ++ []) C G M C2 G2 M2 n R.1 R.2.2.1.1 (xs (4 * j + 1))) gL_law_L_isDark rfl kd_L_isDark ⟨Nat.le_of_ble_eq_true rfl, Nat.le_of_ble_eq_true rfl⟩ (Nat.le_of_ble_eq_true rfl) ⟨rfl, rfl⟩ ⟨(by show _ ≤ 601024; omega), (by show _ ≤ 7293034; omega)⟩ rfl (fun u hu => ?_)
  rcases u with u | k
  · refine jk_ws (ws' := (lw_w E q b1 b2 ao m (vp_updL O 0 (if (if C u 5 = 0 then 1 else 0 : Int32) = 0 then (0 : Int64) else 1)) C G M C2 G2 M2 th n S N a)) lw_eq ?_
    refine jk_st (st' := [.int 0]) rfl ?_
    refine jk_istore (lv' := [(5, .int 0), (4, .int (nI (4 * j))), (3, .ref ao), (2, .ref (m 0)), (1, .ref q), (0, .ref sb)]) K dL_law_1426 (by decide) rfl ?_
    refine jk_aload_n K dL_law_1428 rfl 3 rfl ?_
    refine jk_aload_n K dL_law_1429 rfl 5 rfl ?_
    refine jk_iload K dL_law_1430 1 rfl ?_
    refine jk_iconst (x := 1) K dL_law_1432 rfl ?_
    refine jk_iadd K dL_law_1433 ?_
    refine jk_xld (v := xs (4 * j + 1)) K XL dL_law_1434 (lw_i hj hL (c := 1) (by decide)).1 (congrArg xs (lw_i hj hL (c := 1) (by decide)).2) ?_
    refine jk_cVi K (n' := (nn + 1)) (k' := (ks + 6)) [.int (xs (4 * j + 1))] [] dL_law_1435 (hb_X3_isDark _ hl E (hb_v1 E q b1 b2 [hb_o E ao (vp_updL O 0 (if (if C u 5 = 0 then 1 else 0 : Int32) = 0 then (0 : Int64) else 1))] C G M C2 G2 M2) [] m th S N a n R.1 (xs (4 * j + 1))) gL_law_X3_isDark rfl kd_X3_isDark ⟨Nat.le_of_ble_eq_true rfl, Nat.le_of_ble_eq_true rfl⟩ _ hm_x0 rfl (Nat.le_of_ble_eq_true rfl) ⟨rfl, rfl⟩ ⟨(by show _ ≤ 601024; omega), (by show _ ≤ 7293034; omega)⟩ rfl (fun v hv => ?_)
    obtain ⟨e1, e2, R2⟩ := lp_isDark_ok (C2 := C2) (G2 := G2) (M2 := M2) (u := u) (v := v) R hu hv
    refine jk_ws (ws' := (lw_w E q b1 b2 ao m (vp_updL O 0 (if (if C u 5 = 0 then 1 else 0 : Int32) = 0 then (0 : Int64) else 1)) C G M C2 G2 M2 v.1 n S N a)) rfl ?_
    refine jk_st (st' := [.int (if C u 5 = 0 then 1 else 0)]) (by rw [e2]) ?_
    refine jk_istore (lv' := [(6, .int (if C u 5 = 0 then 1 else 0)), (5, .int 0), (4, .int (nI (4 * j))), (3, .ref ao), (2, .ref (m 0)), (1, .ref q), (0, .ref sb)]) K dL_law_1438 (by decide) rfl ?_
    refine jk_aload_n K dL_law_1440 rfl 4 rfl ?_
    refine jk_cVi K (n' := (nn + 1)) (k' := (ks + 6)) [] [] dL_law_1441 (hb_X3_thrown _ hl E (hb_v1 E q b1 b2 [hb_o E ao (vp_updL O 0 (if (if C u 5 = 0 then 1 else 0 : Int32) = 0 then (0 : Int64) else 1))] C G M C2 G2 M2) [] m v.1 S N a n R2.1) gL_law_X3_thrown rfl kd_X3_thrown ⟨Nat.le_of_ble_eq_true rfl, Nat.le_of_ble_eq_true rfl⟩ _ hm_x0 rfl (Nat.le_of_ble_eq_true rfl) ⟨rfl, rfl⟩ ⟨(by show _ ≤ 601024; omega), (by show _ ≤ 7293034; omega)⟩ rfl (fun _ _ => ?_)
    refine jk_st (st' := [.int 0]) (by rw [e1]) ?_
    refine jk_iload K dL_law_1444 1 rfl ?_
    refine jk_icmp_eq (tgt := 1451) K dL_law_1446 rfl (fun c_1446 => ?_) (fun c_1446 => ?_)
    · refine jk_iload K dL_law_1451 1 rfl ?_
      refine jk_if_ne (tgt := 1475) K dL_law_1453 rfl (fun c_1453 => ?_) (fun c_1453 => ?_)
      · exact absurd (by decide) c_1453
      · refine jk_aload_n K dL_law_1456 rfl 3 rfl ?_
        refine jk_iconst (x := 0) K dL_law_1457 rfl ?_
        refine jk_lald (v := (if (if C u 5 = 0 then 1 else 0 : Int32) = 0 then (0 : Int64) else 1)) K dL_law_1458 29 lw_out (vp_in_nI (n := 0) (by decide) (by decide)) (by rw [show Int32.toNatClampNeg 0 = 0 from by decide]; exact if_pos rfl) ?_
        refine jk_iload K dL_law_1459 0 rfl ?_
        refine jk_if_eq (tgt := 1468) K dL_law_1461 rfl (fun c_1461 => ?_) (fun c_1461 => ?_)
        · refine jk_lconst (x := 0) K dL_law_1468 rfl ?_
          refine jk_lcmp K dL_law_1469 ?_
          refine jk_st (st' := [.int 0]) (by rw [if_pos c_1461, lg_self]) ?_
          refine jk_if_eq (tgt := 1475) K dL_law_1470 rfl (fun c_1470 => ?_) (fun c_1470 => ?_)
          · refine jk_goto (tgt := 2155) K dL_law_1475 rfl ?_
            refine jk_sub (lv' := [(4, .int (nI (4 * j))), (3, .ref ao), (2, .ref (m 0)), (1, .ref q), (0, .ref sb)]) [2, 3, 4, 5, 6] rfl ?_
            refine jk_wide (n' := nn + 11) (k' := ks + 117) (by omega) (by omega) ?_
            exact kk _ _ _ _ _ _ _ _ _ _ _ _ R2
          · exact absurd (by decide) c_1470
        · refine jk_lconst (x := 1) K dL_law_1464 rfl ?_
          refine jk_goto (tgt := 1469) K dL_law_1465 rfl ?_
          refine jk_lcmp K dL_law_1469 ?_
          refine jk_st (st' := [.int 0]) (by rw [if_neg c_1461, lg_self]) ?_
          refine jk_if_eq (tgt := 1475) K dL_law_1470 rfl (fun c_1470 => ?_) (fun c_1470 => ?_)
          · refine jk_goto (tgt := 2155) K dL_law_1475 rfl ?_
            refine jk_sub (lv' := [(4, .int (nI (4 * j))), (3, .ref ao), (2, .ref (m 0)), (1, .ref q), (0, .ref sb)]) [2, 3, 4, 5, 6] rfl ?_
            refine jk_wide (n' := nn + 11) (k' := ks + 117) (by omega) (by omega) ?_
            exact kk _ _ _ _ _ _ _ _ _ _ _ _ R2
          · exact absurd (by decide) c_1470
    · exact absurd (by decide) c_1446
  · refine jk_ws (ws' := (lw_w E q b1 b2 ao m O C G M C2 G2 M2 th n S N a)) lw_eq ?_
    refine jk_st (st' := [.int k]) rfl ?_
    refine jk_istore (lv' := [(5, .int k), (4, .int (nI (4 * j))), (3, .ref ao), (2, .ref (m 0)), (1, .ref q), (0, .ref sb)]) K dL_law_1426 (by decide) rfl ?_
    refine jk_aload_n K dL_law_1428 rfl 3 rfl ?_
    refine jk_aload_n K dL_law_1429 rfl 5 rfl ?_
    refine jk_iload K dL_law_1430 1 rfl ?_
    refine jk_iconst (x := 1) K dL_law_1432 rfl ?_
    refine jk_iadd K dL_law_1433 ?_
    refine jk_xld (v := xs (4 * j + 1)) K XL dL_law_1434 (lw_i hj hL (c := 1) (by decide)).1 (congrArg xs (lw_i hj hL (c := 1) (by decide)).2) ?_
    refine jk_cVi K (n' := (nn + 1)) (k' := (ks + 6)) [.int (xs (4 * j + 1))] [] dL_law_1435 (hb_X3_isDark _ hl E (hb_v1 E q b1 b2 [hb_o E ao O] C G M C2 G2 M2) [] m th S N a n R.1 (xs (4 * j + 1))) gL_law_X3_isDark rfl kd_X3_isDark ⟨Nat.le_of_ble_eq_true rfl, Nat.le_of_ble_eq_true rfl⟩ _ hm_x0 rfl (Nat.le_of_ble_eq_true rfl) ⟨rfl, rfl⟩ ⟨(by show _ ≤ 601024; omega), (by show _ ≤ 7293034; omega)⟩ rfl (fun v hv => ?_)
    obtain ⟨e1, ek, R2⟩ := lp_isDark_no (k := k) (v := v) R hu hv
    refine jk_ws (ws' := (lw_w E q b1 b2 ao m O C G M C2 G2 M2 v.1 n S N a)) rfl ?_
    refine jk_st (st' := [.int v.2]) rfl ?_
    refine jk_istore (lv' := [(6, .int v.2), (5, .int k), (4, .int (nI (4 * j))), (3, .ref ao), (2, .ref (m 0)), (1, .ref q), (0, .ref sb)]) K dL_law_1438 (by decide) rfl ?_
    refine jk_aload_n K dL_law_1440 rfl 4 rfl ?_
    refine jk_cVi K (n' := (nn + 1)) (k' := (ks + 6)) [] [] dL_law_1441 (hb_X3_thrown _ hl E (hb_v1 E q b1 b2 [hb_o E ao O] C G M C2 G2 M2) [] m v.1 S N a n R2.1) gL_law_X3_thrown rfl kd_X3_thrown ⟨Nat.le_of_ble_eq_true rfl, Nat.le_of_ble_eq_true rfl⟩ _ hm_x0 rfl (Nat.le_of_ble_eq_true rfl) ⟨rfl, rfl⟩ ⟨(by show _ ≤ 601024; omega), (by show _ ≤ 7293034; omega)⟩ rfl (fun _ _ => ?_)
    refine jk_st (st' := [.int k]) (by rw [e1]) ?_
    refine jk_iload K dL_law_1444 1 rfl ?_
    refine jk_icmp_eq (tgt := 1451) K dL_law_1446 rfl (fun c_1446 => ?_) (fun c_1446 => ?_)
    · refine jk_iload K dL_law_1451 1 rfl ?_
      refine jk_if_ne (tgt := 1475) K dL_law_1453 rfl (fun c_1453 => ?_) (fun c_1453 => ?_)
      · refine jk_goto (tgt := 2155) K dL_law_1475 rfl ?_
        refine jk_sub (lv' := [(4, .int (nI (4 * j))), (3, .ref ao), (2, .ref (m 0)), (1, .ref q), (0, .ref sb)]) [2, 3, 4, 5, 6] rfl ?_
        refine jk_wide (n' := nn + 11) (k' := ks + 117) (by omega) (by omega) ?_
        exact kk _ _ _ _ _ _ _ _ _ _ _ _ R2
      · exact absurd c_1453 ek
    · exact absurd rfl c_1446
set_option maxHeartbeats 4000000 in
set_option maxRecDepth 100000 in
theorem lw_c20 {Γ : jk_G} {E : jk_T} (K : jk_C Γ E RL cL_law 9 wsL_law ({ frames := 13, cells := 601024, slots := 7293034, locals := 468 } : Room)) {sb L : Nat} {xs : Nat → Int32} (XL : jk_LX Γ sb L xs) (hL : L ≤ 2048) {j : Nat} (hj : 4 * j + 3 < L) {nn ks : Nat} (hnn : nn + 11 ≤ 601024) (hks : ks + 117 ≤ 7293034) {q : Nat} {b1 b2 : Nat → Nat} {ao : Nat} {m : Nat → Nat} {O : Nat → Int64} {C : Nat → Nat → Int32} {G M : Nat → Int32} {C2 : Nat → Nat → Int32} {G2 M2 : Nat → Int32} {th : Int32} {n : Nat} {S : Nat → Int32} {N a : Nat → Nat → Int32} (R : hm_R n C G M S N a) (kk : ∀ (O : Nat → Int64) (C : Nat → Nat → Int32) (G M : Nat → Int32) (C2 : Nat → Nat → Int32) (G2 M2 : Nat → Int32) (th : Int32) (n : Nat) (S : Nat → Int32) (N a : Nat → Nat → Int32), hm_R n C G M S N a → jk_J Γ E (lw_w E q b1 b2 ao m O C G M C2 G2 M2 th n S N a) (nn + 11) (ks + 117) 2155 [(4, .int (nI (4 * j))), (3, .ref ao), (2, .ref (m 0)), (1, .ref q), (0, .ref sb)] []) : jk_J Γ E (lw_w E q b1 b2 ao m O C G M C2 G2 M2 th n S N a) nn ks 1478 [(4, .int (nI (4 * j))), (3, .ref ao), (2, .ref (m 0)), (1, .ref q), (0, .ref sb)] [] := by
  have hl := K.2.2.2.2.2.2.2.2.2.2
  refine jk_aload_n K dL_law_1478 rfl 3 rfl ?_
  refine jk_aload_n K dL_law_1479 rfl 4 rfl ?_
  refine jk_iload K dL_law_1480 0 rfl ?_
  refine jk_iconst (x := 1) K dL_law_1482 rfl ?_
  refine jk_iadd K dL_law_1483 ?_
  refine jk_xld (v := xs (4 * j + 1)) K XL dL_law_1484 (lw_i hj hL (c := 1) (by decide)).1 (congrArg xs (lw_i hj hL (c := 1) (by decide)).2) ?_
  refine jk_aload_n K dL_law_1485 rfl 1 rfl ?_
  refine jk_ws (ws' := (hb_v1 E q b1 b2 (hb_o E ao O :: (hm_MW E m th (nI n) S N a ++ [])) C G M C2 G2 M2)) lw_eq.symm ?_
  refine jk_cSiH K (n' := (nn + 1)) (k' := (ks + 6)) [.ref q, .int (xs (4 * j + 1)), .ref ao] [] dL_law_1486 (hb_L_isBurning _ hl E q b1 b2 ao O (hm_MW E m th (nI n) S N a ++ []) C G M C2 G2 M2 n R.1 R.2.2.1.1 (xs (4 * j + 1))) gL_law_L_isBurning rfl kd_L_isBurning ⟨Nat.le_of_ble_eq_true rfl, Nat.le_of_ble_eq_true rfl⟩ (Nat.le_of_ble_eq_true rfl) ⟨rfl, rfl⟩ ⟨(by show _ ≤ 601024; omega), (by show _ ≤ 7293034; omega)⟩ rfl (fun u hu => ?_)
  rcases u with u | k
  · refine jk_ws (ws' := (lw_w E q b1 b2 ao m (vp_updL O 0 (if (if C u 5 = 2 then 1 else 0 : Int32) = 0 then (0 : Int64) else 1)) C G M C2 G2 M2 th n S N a)) lw_eq ?_
    refine jk_st (st' := [.int 0]) rfl ?_
    refine jk_istore (lv' := [(5, .int 0), (4, .int (nI (4 * j))), (3, .ref ao), (2, .ref (m 0)), (1, .ref q), (0, .ref sb)]) K dL_law_1489 (by decide) rfl ?_
    refine jk_aload_n K dL_law_1491 rfl 3 rfl ?_
    refine jk_aload_n K dL_law_1492 rfl 5 rfl ?_
    refine jk_iload K dL_law_1493 1 rfl ?_
    refine jk_iconst (x := 1) K dL_law_1495 rfl ?_
    refine jk_iadd K dL_law_1496 ?_
    refine jk_xld (v := xs (4 * j + 1)) K XL dL_law_1497 (lw_i hj hL (c := 1) (by decide)).1 (congrArg xs (lw_i hj hL (c := 1) (by decide)).2) ?_
    refine jk_cVi K (n' := (nn + 1)) (k' := (ks + 6)) [.int (xs (4 * j + 1))] [] dL_law_1498 (hb_X3_isBurning _ hl E (hb_v1 E q b1 b2 [hb_o E ao (vp_updL O 0 (if (if C u 5 = 2 then 1 else 0 : Int32) = 0 then (0 : Int64) else 1))] C G M C2 G2 M2) [] m th S N a n R.1 (xs (4 * j + 1))) gL_law_X3_isBurning rfl kd_X3_isBurning ⟨Nat.le_of_ble_eq_true rfl, Nat.le_of_ble_eq_true rfl⟩ _ hm_x0 rfl (Nat.le_of_ble_eq_true rfl) ⟨rfl, rfl⟩ ⟨(by show _ ≤ 601024; omega), (by show _ ≤ 7293034; omega)⟩ rfl (fun v hv => ?_)
    obtain ⟨e1, e2, R2⟩ := lp_isBurning_ok (C2 := C2) (G2 := G2) (M2 := M2) (u := u) (v := v) R hu hv
    refine jk_ws (ws' := (lw_w E q b1 b2 ao m (vp_updL O 0 (if (if C u 5 = 2 then 1 else 0 : Int32) = 0 then (0 : Int64) else 1)) C G M C2 G2 M2 v.1 n S N a)) rfl ?_
    refine jk_st (st' := [.int (if C u 5 = 2 then 1 else 0)]) (by rw [e2]) ?_
    refine jk_istore (lv' := [(6, .int (if C u 5 = 2 then 1 else 0)), (5, .int 0), (4, .int (nI (4 * j))), (3, .ref ao), (2, .ref (m 0)), (1, .ref q), (0, .ref sb)]) K dL_law_1501 (by decide) rfl ?_
    refine jk_aload_n K dL_law_1503 rfl 4 rfl ?_
    refine jk_cVi K (n' := (nn + 1)) (k' := (ks + 6)) [] [] dL_law_1504 (hb_X3_thrown _ hl E (hb_v1 E q b1 b2 [hb_o E ao (vp_updL O 0 (if (if C u 5 = 2 then 1 else 0 : Int32) = 0 then (0 : Int64) else 1))] C G M C2 G2 M2) [] m v.1 S N a n R2.1) gL_law_X3_thrown rfl kd_X3_thrown ⟨Nat.le_of_ble_eq_true rfl, Nat.le_of_ble_eq_true rfl⟩ _ hm_x0 rfl (Nat.le_of_ble_eq_true rfl) ⟨rfl, rfl⟩ ⟨(by show _ ≤ 601024; omega), (by show _ ≤ 7293034; omega)⟩ rfl (fun _ _ => ?_)
    refine jk_st (st' := [.int 0]) (by rw [e1]) ?_
    refine jk_iload K dL_law_1507 1 rfl ?_
    refine jk_icmp_eq (tgt := 1514) K dL_law_1509 rfl (fun c_1509 => ?_) (fun c_1509 => ?_)
    · refine jk_iload K dL_law_1514 1 rfl ?_
      refine jk_if_ne (tgt := 1538) K dL_law_1516 rfl (fun c_1516 => ?_) (fun c_1516 => ?_)
      · exact absurd (by decide) c_1516
      · refine jk_aload_n K dL_law_1519 rfl 3 rfl ?_
        refine jk_iconst (x := 0) K dL_law_1520 rfl ?_
        refine jk_lald (v := (if (if C u 5 = 2 then 1 else 0 : Int32) = 0 then (0 : Int64) else 1)) K dL_law_1521 29 lw_out (vp_in_nI (n := 0) (by decide) (by decide)) (by rw [show Int32.toNatClampNeg 0 = 0 from by decide]; exact if_pos rfl) ?_
        refine jk_iload K dL_law_1522 0 rfl ?_
        refine jk_if_eq (tgt := 1531) K dL_law_1524 rfl (fun c_1524 => ?_) (fun c_1524 => ?_)
        · refine jk_lconst (x := 0) K dL_law_1531 rfl ?_
          refine jk_lcmp K dL_law_1532 ?_
          refine jk_st (st' := [.int 0]) (by rw [if_pos c_1524, lg_self]) ?_
          refine jk_if_eq (tgt := 1538) K dL_law_1533 rfl (fun c_1533 => ?_) (fun c_1533 => ?_)
          · refine jk_goto (tgt := 2155) K dL_law_1538 rfl ?_
            refine jk_sub (lv' := [(4, .int (nI (4 * j))), (3, .ref ao), (2, .ref (m 0)), (1, .ref q), (0, .ref sb)]) [2, 3, 4, 5, 6] rfl ?_
            refine jk_wide (n' := nn + 11) (k' := ks + 117) (by omega) (by omega) ?_
            exact kk _ _ _ _ _ _ _ _ _ _ _ _ R2
          · exact absurd (by decide) c_1533
        · refine jk_lconst (x := 1) K dL_law_1527 rfl ?_
          refine jk_goto (tgt := 1532) K dL_law_1528 rfl ?_
          refine jk_lcmp K dL_law_1532 ?_
          refine jk_st (st' := [.int 0]) (by rw [if_neg c_1524, lg_self]) ?_
          refine jk_if_eq (tgt := 1538) K dL_law_1533 rfl (fun c_1533 => ?_) (fun c_1533 => ?_)
          · refine jk_goto (tgt := 2155) K dL_law_1538 rfl ?_
            refine jk_sub (lv' := [(4, .int (nI (4 * j))), (3, .ref ao), (2, .ref (m 0)), (1, .ref q), (0, .ref sb)]) [2, 3, 4, 5, 6] rfl ?_
            refine jk_wide (n' := nn + 11) (k' := ks + 117) (by omega) (by omega) ?_
            exact kk _ _ _ _ _ _ _ _ _ _ _ _ R2
          · exact absurd (by decide) c_1533
    · exact absurd (by decide) c_1509
  · refine jk_ws (ws' := (lw_w E q b1 b2 ao m O C G M C2 G2 M2 th n S N a)) lw_eq ?_
    refine jk_st (st' := [.int k]) rfl ?_
    refine jk_istore (lv' := [(5, .int k), (4, .int (nI (4 * j))), (3, .ref ao), (2, .ref (m 0)), (1, .ref q), (0, .ref sb)]) K dL_law_1489 (by decide) rfl ?_
    refine jk_aload_n K dL_law_1491 rfl 3 rfl ?_
    refine jk_aload_n K dL_law_1492 rfl 5 rfl ?_
    refine jk_iload K dL_law_1493 1 rfl ?_
    refine jk_iconst (x := 1) K dL_law_1495 rfl ?_
    refine jk_iadd K dL_law_1496 ?_
    refine jk_xld (v := xs (4 * j + 1)) K XL dL_law_1497 (lw_i hj hL (c := 1) (by decide)).1 (congrArg xs (lw_i hj hL (c := 1) (by decide)).2) ?_
    refine jk_cVi K (n' := (nn + 1)) (k' := (ks + 6)) [.int (xs (4 * j + 1))] [] dL_law_1498 (hb_X3_isBurning _ hl E (hb_v1 E q b1 b2 [hb_o E ao O] C G M C2 G2 M2) [] m th S N a n R.1 (xs (4 * j + 1))) gL_law_X3_isBurning rfl kd_X3_isBurning ⟨Nat.le_of_ble_eq_true rfl, Nat.le_of_ble_eq_true rfl⟩ _ hm_x0 rfl (Nat.le_of_ble_eq_true rfl) ⟨rfl, rfl⟩ ⟨(by show _ ≤ 601024; omega), (by show _ ≤ 7293034; omega)⟩ rfl (fun v hv => ?_)
    obtain ⟨e1, ek, R2⟩ := lp_isBurning_no (k := k) (v := v) R hu hv
    refine jk_ws (ws' := (lw_w E q b1 b2 ao m O C G M C2 G2 M2 v.1 n S N a)) rfl ?_
    refine jk_st (st' := [.int v.2]) rfl ?_
    refine jk_istore (lv' := [(6, .int v.2), (5, .int k), (4, .int (nI (4 * j))), (3, .ref ao), (2, .ref (m 0)), (1, .ref q), (0, .ref sb)]) K dL_law_1501 (by decide) rfl ?_
    refine jk_aload_n K dL_law_1503 rfl 4 rfl ?_
    refine jk_cVi K (n' := (nn + 1)) (k' := (ks + 6)) [] [] dL_law_1504 (hb_X3_thrown _ hl E (hb_v1 E q b1 b2 [hb_o E ao O] C G M C2 G2 M2) [] m v.1 S N a n R2.1) gL_law_X3_thrown rfl kd_X3_thrown ⟨Nat.le_of_ble_eq_true rfl, Nat.le_of_ble_eq_true rfl⟩ _ hm_x0 rfl (Nat.le_of_ble_eq_true rfl) ⟨rfl, rfl⟩ ⟨(by show _ ≤ 601024; omega), (by show _ ≤ 7293034; omega)⟩ rfl (fun _ _ => ?_)
    refine jk_st (st' := [.int k]) (by rw [e1]) ?_
    refine jk_iload K dL_law_1507 1 rfl ?_
    refine jk_icmp_eq (tgt := 1514) K dL_law_1509 rfl (fun c_1509 => ?_) (fun c_1509 => ?_)
    · refine jk_iload K dL_law_1514 1 rfl ?_
      refine jk_if_ne (tgt := 1538) K dL_law_1516 rfl (fun c_1516 => ?_) (fun c_1516 => ?_)
      · refine jk_goto (tgt := 2155) K dL_law_1538 rfl ?_
        refine jk_sub (lv' := [(4, .int (nI (4 * j))), (3, .ref ao), (2, .ref (m 0)), (1, .ref q), (0, .ref sb)]) [2, 3, 4, 5, 6] rfl ?_
        refine jk_wide (n' := nn + 11) (k' := ks + 117) (by omega) (by omega) ?_
        exact kk _ _ _ _ _ _ _ _ _ _ _ _ R2
      · exact absurd c_1516 ek
    · exact absurd rfl c_1509
set_option maxHeartbeats 4000000 in
set_option maxRecDepth 100000 in
theorem lw_c21 {Γ : jk_G} {E : jk_T} (K : jk_C Γ E RL cL_law 9 wsL_law ({ frames := 13, cells := 601024, slots := 7293034, locals := 468 } : Room)) {sb L : Nat} {xs : Nat → Int32} (XL : jk_LX Γ sb L xs) (hL : L ≤ 2048) {j : Nat} (hj : 4 * j + 3 < L) {nn ks : Nat} (hnn : nn + 11 ≤ 601024) (hks : ks + 117 ≤ 7293034) {q : Nat} {b1 b2 : Nat → Nat} {ao : Nat} {m : Nat → Nat} {O : Nat → Int64} {C : Nat → Nat → Int32} {G M : Nat → Int32} {C2 : Nat → Nat → Int32} {G2 M2 : Nat → Int32} {th : Int32} {n : Nat} {S : Nat → Int32} {N a : Nat → Nat → Int32} (R : hm_R n C G M S N a) (kk : ∀ (O : Nat → Int64) (C : Nat → Nat → Int32) (G M : Nat → Int32) (C2 : Nat → Nat → Int32) (G2 M2 : Nat → Int32) (th : Int32) (n : Nat) (S : Nat → Int32) (N a : Nat → Nat → Int32), hm_R n C G M S N a → jk_J Γ E (lw_w E q b1 b2 ao m O C G M C2 G2 M2 th n S N a) (nn + 11) (ks + 117) 2155 [(4, .int (nI (4 * j))), (3, .ref ao), (2, .ref (m 0)), (1, .ref q), (0, .ref sb)] []) : jk_J Γ E (lw_w E q b1 b2 ao m O C G M C2 G2 M2 th n S N a) nn ks 1541 [(4, .int (nI (4 * j))), (3, .ref ao), (2, .ref (m 0)), (1, .ref q), (0, .ref sb)] [] := by
  have hl := K.2.2.2.2.2.2.2.2.2.2
  refine jk_aload_n K dL_law_1541 rfl 3 rfl ?_
  refine jk_aload_n K dL_law_1542 rfl 4 rfl ?_
  refine jk_iload K dL_law_1543 0 rfl ?_
  refine jk_iconst (x := 1) K dL_law_1545 rfl ?_
  refine jk_iadd K dL_law_1546 ?_
  refine jk_xld (v := xs (4 * j + 1)) K XL dL_law_1547 (lw_i hj hL (c := 1) (by decide)).1 (congrArg xs (lw_i hj hL (c := 1) (by decide)).2) ?_
  refine jk_aload_n K dL_law_1548 rfl 1 rfl ?_
  refine jk_ws (ws' := (hb_v1 E q b1 b2 (hb_o E ao O :: (hm_MW E m th (nI n) S N a ++ [])) C G M C2 G2 M2)) lw_eq.symm ?_
  refine jk_cSiH K (n' := (nn + 1)) (k' := (ks + 6)) [.ref q, .int (xs (4 * j + 1)), .ref ao] [] dL_law_1549 (hb_L_minutesToBurn _ hl E q b1 b2 ao O (hm_MW E m th (nI n) S N a ++ []) C G M C2 G2 M2 n R.1 R.2.2.1.1 (xs (4 * j + 1))) gL_law_L_minutesToBurn rfl kd_L_minutesToBurn ⟨Nat.le_of_ble_eq_true rfl, Nat.le_of_ble_eq_true rfl⟩ (Nat.le_of_ble_eq_true rfl) ⟨rfl, rfl⟩ ⟨(by show _ ≤ 601024; omega), (by show _ ≤ 7293034; omega)⟩ rfl (fun u hu => ?_)
  rcases u with u | k
  · refine jk_ws (ws' := (lw_w E q b1 b2 ao m (vp_updL O 0 (Int32.toInt64 (C u 7))) C G M C2 G2 M2 th n S N a)) lw_eq ?_
    refine jk_st (st' := [.int 0]) rfl ?_
    refine jk_istore (lv' := [(5, .int 0), (4, .int (nI (4 * j))), (3, .ref ao), (2, .ref (m 0)), (1, .ref q), (0, .ref sb)]) K dL_law_1552 (by decide) rfl ?_
    refine jk_aload_n K dL_law_1554 rfl 3 rfl ?_
    refine jk_aload_n K dL_law_1555 rfl 5 rfl ?_
    refine jk_iload K dL_law_1556 1 rfl ?_
    refine jk_iconst (x := 1) K dL_law_1558 rfl ?_
    refine jk_iadd K dL_law_1559 ?_
    refine jk_xld (v := xs (4 * j + 1)) K XL dL_law_1560 (lw_i hj hL (c := 1) (by decide)).1 (congrArg xs (lw_i hj hL (c := 1) (by decide)).2) ?_
    refine jk_cVi K (n' := (nn + 1)) (k' := (ks + 6)) [.int (xs (4 * j + 1))] [] dL_law_1561 (hb_X3_minutesToBurn _ hl E (hb_v1 E q b1 b2 [hb_o E ao (vp_updL O 0 (Int32.toInt64 (C u 7)))] C G M C2 G2 M2) [] m th S N a n R.1 (xs (4 * j + 1))) gL_law_X3_minutesToBurn rfl kd_X3_minutesToBurn ⟨Nat.le_of_ble_eq_true rfl, Nat.le_of_ble_eq_true rfl⟩ _ hm_x0 rfl (Nat.le_of_ble_eq_true rfl) ⟨rfl, rfl⟩ ⟨(by show _ ≤ 601024; omega), (by show _ ≤ 7293034; omega)⟩ rfl (fun v hv => ?_)
    obtain ⟨e1, e2, R2⟩ := lp_minutesToBurn_ok (C2 := C2) (G2 := G2) (M2 := M2) (u := u) (v := v) R hu hv
    refine jk_ws (ws' := (lw_w E q b1 b2 ao m (vp_updL O 0 (Int32.toInt64 (C u 7))) C G M C2 G2 M2 v.1 n S N a)) rfl ?_
    refine jk_st (st' := [.int (C u 7)]) (by rw [e2]) ?_
    refine jk_istore (lv' := [(6, .int (C u 7)), (5, .int 0), (4, .int (nI (4 * j))), (3, .ref ao), (2, .ref (m 0)), (1, .ref q), (0, .ref sb)]) K dL_law_1564 (by decide) rfl ?_
    refine jk_aload_n K dL_law_1566 rfl 4 rfl ?_
    refine jk_cVi K (n' := (nn + 1)) (k' := (ks + 6)) [] [] dL_law_1567 (hb_X3_thrown _ hl E (hb_v1 E q b1 b2 [hb_o E ao (vp_updL O 0 (Int32.toInt64 (C u 7)))] C G M C2 G2 M2) [] m v.1 S N a n R2.1) gL_law_X3_thrown rfl kd_X3_thrown ⟨Nat.le_of_ble_eq_true rfl, Nat.le_of_ble_eq_true rfl⟩ _ hm_x0 rfl (Nat.le_of_ble_eq_true rfl) ⟨rfl, rfl⟩ ⟨(by show _ ≤ 601024; omega), (by show _ ≤ 7293034; omega)⟩ rfl (fun _ _ => ?_)
    refine jk_st (st' := [.int 0]) (by rw [e1]) ?_
    refine jk_iload K dL_law_1570 1 rfl ?_
    refine jk_icmp_eq (tgt := 1577) K dL_law_1572 rfl (fun c_1572 => ?_) (fun c_1572 => ?_)
    · refine jk_iload K dL_law_1577 1 rfl ?_
      refine jk_if_ne (tgt := 1594) K dL_law_1579 rfl (fun c_1579 => ?_) (fun c_1579 => ?_)
      · exact absurd (by decide) c_1579
      · refine jk_aload_n K dL_law_1582 rfl 3 rfl ?_
        refine jk_iconst (x := 0) K dL_law_1583 rfl ?_
        refine jk_lald (v := (Int32.toInt64 (C u 7))) K dL_law_1584 29 lw_out (vp_in_nI (n := 0) (by decide) (by decide)) (by rw [show Int32.toNatClampNeg 0 = 0 from by decide]; exact if_pos rfl) ?_
        refine jk_iload K dL_law_1585 0 rfl ?_
        refine jk_i2l K dL_law_1587 ?_
        refine jk_lcmp K dL_law_1588 ?_
        refine jk_st (st' := [.int 0]) (by rw [lg_self]) ?_
        refine jk_if_eq (tgt := 1594) K dL_law_1589 rfl (fun c_1589 => ?_) (fun c_1589 => ?_)
        · refine jk_goto (tgt := 2155) K dL_law_1594 rfl ?_
          refine jk_sub (lv' := [(4, .int (nI (4 * j))), (3, .ref ao), (2, .ref (m 0)), (1, .ref q), (0, .ref sb)]) [2, 3, 4, 5, 6] rfl ?_
          refine jk_wide (n' := nn + 11) (k' := ks + 117) (by omega) (by omega) ?_
          exact kk _ _ _ _ _ _ _ _ _ _ _ _ R2
        · exact absurd (by decide) c_1589
    · exact absurd (by decide) c_1572
  · refine jk_ws (ws' := (lw_w E q b1 b2 ao m O C G M C2 G2 M2 th n S N a)) lw_eq ?_
    refine jk_st (st' := [.int k]) rfl ?_
    refine jk_istore (lv' := [(5, .int k), (4, .int (nI (4 * j))), (3, .ref ao), (2, .ref (m 0)), (1, .ref q), (0, .ref sb)]) K dL_law_1552 (by decide) rfl ?_
    refine jk_aload_n K dL_law_1554 rfl 3 rfl ?_
    refine jk_aload_n K dL_law_1555 rfl 5 rfl ?_
    refine jk_iload K dL_law_1556 1 rfl ?_
    refine jk_iconst (x := 1) K dL_law_1558 rfl ?_
    refine jk_iadd K dL_law_1559 ?_
    refine jk_xld (v := xs (4 * j + 1)) K XL dL_law_1560 (lw_i hj hL (c := 1) (by decide)).1 (congrArg xs (lw_i hj hL (c := 1) (by decide)).2) ?_
    refine jk_cVi K (n' := (nn + 1)) (k' := (ks + 6)) [.int (xs (4 * j + 1))] [] dL_law_1561 (hb_X3_minutesToBurn _ hl E (hb_v1 E q b1 b2 [hb_o E ao O] C G M C2 G2 M2) [] m th S N a n R.1 (xs (4 * j + 1))) gL_law_X3_minutesToBurn rfl kd_X3_minutesToBurn ⟨Nat.le_of_ble_eq_true rfl, Nat.le_of_ble_eq_true rfl⟩ _ hm_x0 rfl (Nat.le_of_ble_eq_true rfl) ⟨rfl, rfl⟩ ⟨(by show _ ≤ 601024; omega), (by show _ ≤ 7293034; omega)⟩ rfl (fun v hv => ?_)
    obtain ⟨e1, ek, R2⟩ := lp_minutesToBurn_no (k := k) (v := v) R hu hv
    refine jk_ws (ws' := (lw_w E q b1 b2 ao m O C G M C2 G2 M2 v.1 n S N a)) rfl ?_
    refine jk_st (st' := [.int v.2]) rfl ?_
    refine jk_istore (lv' := [(6, .int v.2), (5, .int k), (4, .int (nI (4 * j))), (3, .ref ao), (2, .ref (m 0)), (1, .ref q), (0, .ref sb)]) K dL_law_1564 (by decide) rfl ?_
    refine jk_aload_n K dL_law_1566 rfl 4 rfl ?_
    refine jk_cVi K (n' := (nn + 1)) (k' := (ks + 6)) [] [] dL_law_1567 (hb_X3_thrown _ hl E (hb_v1 E q b1 b2 [hb_o E ao O] C G M C2 G2 M2) [] m v.1 S N a n R2.1) gL_law_X3_thrown rfl kd_X3_thrown ⟨Nat.le_of_ble_eq_true rfl, Nat.le_of_ble_eq_true rfl⟩ _ hm_x0 rfl (Nat.le_of_ble_eq_true rfl) ⟨rfl, rfl⟩ ⟨(by show _ ≤ 601024; omega), (by show _ ≤ 7293034; omega)⟩ rfl (fun _ _ => ?_)
    refine jk_st (st' := [.int k]) (by rw [e1]) ?_
    refine jk_iload K dL_law_1570 1 rfl ?_
    refine jk_icmp_eq (tgt := 1577) K dL_law_1572 rfl (fun c_1572 => ?_) (fun c_1572 => ?_)
    · refine jk_iload K dL_law_1577 1 rfl ?_
      refine jk_if_ne (tgt := 1594) K dL_law_1579 rfl (fun c_1579 => ?_) (fun c_1579 => ?_)
      · refine jk_goto (tgt := 2155) K dL_law_1594 rfl ?_
        refine jk_sub (lv' := [(4, .int (nI (4 * j))), (3, .ref ao), (2, .ref (m 0)), (1, .ref q), (0, .ref sb)]) [2, 3, 4, 5, 6] rfl ?_
        refine jk_wide (n' := nn + 11) (k' := ks + 117) (by omega) (by omega) ?_
        exact kk _ _ _ _ _ _ _ _ _ _ _ _ R2
      · exact absurd c_1579 ek
    · exact absurd rfl c_1572
set_option maxHeartbeats 4000000 in
set_option maxRecDepth 100000 in
theorem lw_c22 {Γ : jk_G} {E : jk_T} (K : jk_C Γ E RL cL_law 9 wsL_law ({ frames := 13, cells := 601024, slots := 7293034, locals := 468 } : Room)) {sb L : Nat} {xs : Nat → Int32} (XL : jk_LX Γ sb L xs) (hL : L ≤ 2048) {j : Nat} (hj : 4 * j + 3 < L) {nn ks : Nat} (hnn : nn + 11 ≤ 601024) (hks : ks + 117 ≤ 7293034) {q : Nat} {b1 b2 : Nat → Nat} {ao : Nat} {m : Nat → Nat} {O : Nat → Int64} {C : Nat → Nat → Int32} {G M : Nat → Int32} {C2 : Nat → Nat → Int32} {G2 M2 : Nat → Int32} {th : Int32} {n : Nat} {S : Nat → Int32} {N a : Nat → Nat → Int32} (R : hm_R n C G M S N a) (kk : ∀ (O : Nat → Int64) (C : Nat → Nat → Int32) (G M : Nat → Int32) (C2 : Nat → Nat → Int32) (G2 M2 : Nat → Int32) (th : Int32) (n : Nat) (S : Nat → Int32) (N a : Nat → Nat → Int32), hm_R n C G M S N a → jk_J Γ E (lw_w E q b1 b2 ao m O C G M C2 G2 M2 th n S N a) (nn + 11) (ks + 117) 2155 [(4, .int (nI (4 * j))), (3, .ref ao), (2, .ref (m 0)), (1, .ref q), (0, .ref sb)] []) : jk_J Γ E (lw_w E q b1 b2 ao m O C G M C2 G2 M2 th n S N a) nn ks 1597 [(4, .int (nI (4 * j))), (3, .ref ao), (2, .ref (m 0)), (1, .ref q), (0, .ref sb)] [] := by
  have hl := K.2.2.2.2.2.2.2.2.2.2
  refine jk_aload_n K dL_law_1597 rfl 3 rfl ?_
  refine jk_aload_n K dL_law_1598 rfl 4 rfl ?_
  refine jk_iload K dL_law_1599 0 rfl ?_
  refine jk_iconst (x := 1) K dL_law_1601 rfl ?_
  refine jk_iadd K dL_law_1602 ?_
  refine jk_xld (v := xs (4 * j + 1)) K XL dL_law_1603 (lw_i hj hL (c := 1) (by decide)).1 (congrArg xs (lw_i hj hL (c := 1) (by decide)).2) ?_
  refine jk_aload_n K dL_law_1604 rfl 1 rfl ?_
  refine jk_ws (ws' := (hb_v1 E q b1 b2 (hb_o E ao O :: (hm_MW E m th (nI n) S N a ++ [])) C G M C2 G2 M2)) lw_eq.symm ?_
  refine jk_cSiH K (n' := (nn + 1)) (k' := (ks + 6)) [.ref q, .int (xs (4 * j + 1)), .ref ao] [] dL_law_1605 (hb_L_lookingFor _ hl E q b1 b2 ao O (hm_MW E m th (nI n) S N a ++ []) C G M C2 G2 M2 n R.1 R.2.2.1.1 (xs (4 * j + 1))) gL_law_L_lookingFor rfl kd_L_lookingFor ⟨Nat.le_of_ble_eq_true rfl, Nat.le_of_ble_eq_true rfl⟩ (Nat.le_of_ble_eq_true rfl) ⟨rfl, rfl⟩ ⟨(by show _ ≤ 601024; omega), (by show _ ≤ 7293034; omega)⟩ rfl (fun u hu => ?_)
  rcases u with u | k
  · refine jk_ws (ws' := (lw_w E q b1 b2 ao m (vp_updL O 0 (Int32.toInt64 (C u 8))) C G M C2 G2 M2 th n S N a)) lw_eq ?_
    refine jk_st (st' := [.int 0]) rfl ?_
    refine jk_istore (lv' := [(5, .int 0), (4, .int (nI (4 * j))), (3, .ref ao), (2, .ref (m 0)), (1, .ref q), (0, .ref sb)]) K dL_law_1608 (by decide) rfl ?_
    refine jk_aload_n K dL_law_1610 rfl 3 rfl ?_
    refine jk_aload_n K dL_law_1611 rfl 5 rfl ?_
    refine jk_iload K dL_law_1612 1 rfl ?_
    refine jk_iconst (x := 1) K dL_law_1614 rfl ?_
    refine jk_iadd K dL_law_1615 ?_
    refine jk_xld (v := xs (4 * j + 1)) K XL dL_law_1616 (lw_i hj hL (c := 1) (by decide)).1 (congrArg xs (lw_i hj hL (c := 1) (by decide)).2) ?_
    refine jk_cVi K (n' := (nn + 1)) (k' := (ks + 6)) [.int (xs (4 * j + 1))] [] dL_law_1617 (hb_X3_lookingFor _ hl E (hb_v1 E q b1 b2 [hb_o E ao (vp_updL O 0 (Int32.toInt64 (C u 8)))] C G M C2 G2 M2) [] m th S N a n R.1 (xs (4 * j + 1))) gL_law_X3_lookingFor rfl kd_X3_lookingFor ⟨Nat.le_of_ble_eq_true rfl, Nat.le_of_ble_eq_true rfl⟩ _ hm_x0 rfl (Nat.le_of_ble_eq_true rfl) ⟨rfl, rfl⟩ ⟨(by show _ ≤ 601024; omega), (by show _ ≤ 7293034; omega)⟩ rfl (fun v hv => ?_)
    obtain ⟨e1, e2, R2⟩ := lp_lookingFor_ok (C2 := C2) (G2 := G2) (M2 := M2) (u := u) (v := v) R hu hv
    refine jk_ws (ws' := (lw_w E q b1 b2 ao m (vp_updL O 0 (Int32.toInt64 (C u 8))) C G M C2 G2 M2 v.1 n S N a)) rfl ?_
    refine jk_st (st' := [.int (C u 8)]) (by rw [e2]) ?_
    refine jk_istore (lv' := [(6, .int (C u 8)), (5, .int 0), (4, .int (nI (4 * j))), (3, .ref ao), (2, .ref (m 0)), (1, .ref q), (0, .ref sb)]) K dL_law_1620 (by decide) rfl ?_
    refine jk_aload_n K dL_law_1622 rfl 4 rfl ?_
    refine jk_cVi K (n' := (nn + 1)) (k' := (ks + 6)) [] [] dL_law_1623 (hb_X3_thrown _ hl E (hb_v1 E q b1 b2 [hb_o E ao (vp_updL O 0 (Int32.toInt64 (C u 8)))] C G M C2 G2 M2) [] m v.1 S N a n R2.1) gL_law_X3_thrown rfl kd_X3_thrown ⟨Nat.le_of_ble_eq_true rfl, Nat.le_of_ble_eq_true rfl⟩ _ hm_x0 rfl (Nat.le_of_ble_eq_true rfl) ⟨rfl, rfl⟩ ⟨(by show _ ≤ 601024; omega), (by show _ ≤ 7293034; omega)⟩ rfl (fun _ _ => ?_)
    refine jk_st (st' := [.int 0]) (by rw [e1]) ?_
    refine jk_iload K dL_law_1626 1 rfl ?_
    refine jk_icmp_eq (tgt := 1633) K dL_law_1628 rfl (fun c_1628 => ?_) (fun c_1628 => ?_)
    · refine jk_iload K dL_law_1633 1 rfl ?_
      refine jk_if_ne (tgt := 1650) K dL_law_1635 rfl (fun c_1635 => ?_) (fun c_1635 => ?_)
      · exact absurd (by decide) c_1635
      · refine jk_aload_n K dL_law_1638 rfl 3 rfl ?_
        refine jk_iconst (x := 0) K dL_law_1639 rfl ?_
        refine jk_lald (v := (Int32.toInt64 (C u 8))) K dL_law_1640 29 lw_out (vp_in_nI (n := 0) (by decide) (by decide)) (by rw [show Int32.toNatClampNeg 0 = 0 from by decide]; exact if_pos rfl) ?_
        refine jk_iload K dL_law_1641 0 rfl ?_
        refine jk_i2l K dL_law_1643 ?_
        refine jk_lcmp K dL_law_1644 ?_
        refine jk_st (st' := [.int 0]) (by rw [lg_self]) ?_
        refine jk_if_eq (tgt := 1650) K dL_law_1645 rfl (fun c_1645 => ?_) (fun c_1645 => ?_)
        · refine jk_goto (tgt := 2155) K dL_law_1650 rfl ?_
          refine jk_sub (lv' := [(4, .int (nI (4 * j))), (3, .ref ao), (2, .ref (m 0)), (1, .ref q), (0, .ref sb)]) [2, 3, 4, 5, 6] rfl ?_
          refine jk_wide (n' := nn + 11) (k' := ks + 117) (by omega) (by omega) ?_
          exact kk _ _ _ _ _ _ _ _ _ _ _ _ R2
        · exact absurd (by decide) c_1645
    · exact absurd (by decide) c_1628
  · refine jk_ws (ws' := (lw_w E q b1 b2 ao m O C G M C2 G2 M2 th n S N a)) lw_eq ?_
    refine jk_st (st' := [.int k]) rfl ?_
    refine jk_istore (lv' := [(5, .int k), (4, .int (nI (4 * j))), (3, .ref ao), (2, .ref (m 0)), (1, .ref q), (0, .ref sb)]) K dL_law_1608 (by decide) rfl ?_
    refine jk_aload_n K dL_law_1610 rfl 3 rfl ?_
    refine jk_aload_n K dL_law_1611 rfl 5 rfl ?_
    refine jk_iload K dL_law_1612 1 rfl ?_
    refine jk_iconst (x := 1) K dL_law_1614 rfl ?_
    refine jk_iadd K dL_law_1615 ?_
    refine jk_xld (v := xs (4 * j + 1)) K XL dL_law_1616 (lw_i hj hL (c := 1) (by decide)).1 (congrArg xs (lw_i hj hL (c := 1) (by decide)).2) ?_
    refine jk_cVi K (n' := (nn + 1)) (k' := (ks + 6)) [.int (xs (4 * j + 1))] [] dL_law_1617 (hb_X3_lookingFor _ hl E (hb_v1 E q b1 b2 [hb_o E ao O] C G M C2 G2 M2) [] m th S N a n R.1 (xs (4 * j + 1))) gL_law_X3_lookingFor rfl kd_X3_lookingFor ⟨Nat.le_of_ble_eq_true rfl, Nat.le_of_ble_eq_true rfl⟩ _ hm_x0 rfl (Nat.le_of_ble_eq_true rfl) ⟨rfl, rfl⟩ ⟨(by show _ ≤ 601024; omega), (by show _ ≤ 7293034; omega)⟩ rfl (fun v hv => ?_)
    obtain ⟨e1, ek, R2⟩ := lp_lookingFor_no (k := k) (v := v) R hu hv
    refine jk_ws (ws' := (lw_w E q b1 b2 ao m O C G M C2 G2 M2 v.1 n S N a)) rfl ?_
    refine jk_st (st' := [.int v.2]) rfl ?_
    refine jk_istore (lv' := [(6, .int v.2), (5, .int k), (4, .int (nI (4 * j))), (3, .ref ao), (2, .ref (m 0)), (1, .ref q), (0, .ref sb)]) K dL_law_1620 (by decide) rfl ?_
    refine jk_aload_n K dL_law_1622 rfl 4 rfl ?_
    refine jk_cVi K (n' := (nn + 1)) (k' := (ks + 6)) [] [] dL_law_1623 (hb_X3_thrown _ hl E (hb_v1 E q b1 b2 [hb_o E ao O] C G M C2 G2 M2) [] m v.1 S N a n R2.1) gL_law_X3_thrown rfl kd_X3_thrown ⟨Nat.le_of_ble_eq_true rfl, Nat.le_of_ble_eq_true rfl⟩ _ hm_x0 rfl (Nat.le_of_ble_eq_true rfl) ⟨rfl, rfl⟩ ⟨(by show _ ≤ 601024; omega), (by show _ ≤ 7293034; omega)⟩ rfl (fun _ _ => ?_)
    refine jk_st (st' := [.int k]) (by rw [e1]) ?_
    refine jk_iload K dL_law_1626 1 rfl ?_
    refine jk_icmp_eq (tgt := 1633) K dL_law_1628 rfl (fun c_1628 => ?_) (fun c_1628 => ?_)
    · refine jk_iload K dL_law_1633 1 rfl ?_
      refine jk_if_ne (tgt := 1650) K dL_law_1635 rfl (fun c_1635 => ?_) (fun c_1635 => ?_)
      · refine jk_goto (tgt := 2155) K dL_law_1650 rfl ?_
        refine jk_sub (lv' := [(4, .int (nI (4 * j))), (3, .ref ao), (2, .ref (m 0)), (1, .ref q), (0, .ref sb)]) [2, 3, 4, 5, 6] rfl ?_
        refine jk_wide (n' := nn + 11) (k' := ks + 117) (by omega) (by omega) ?_
        exact kk _ _ _ _ _ _ _ _ _ _ _ _ R2
      · exact absurd c_1635 ek
    · exact absurd rfl c_1628
set_option maxHeartbeats 4000000 in
set_option maxRecDepth 100000 in
theorem lw_c23 {Γ : jk_G} {E : jk_T} (K : jk_C Γ E RL cL_law 9 wsL_law ({ frames := 13, cells := 601024, slots := 7293034, locals := 468 } : Room)) {sb L : Nat} {xs : Nat → Int32} (XL : jk_LX Γ sb L xs) (hL : L ≤ 2048) {j : Nat} (hj : 4 * j + 3 < L) {nn ks : Nat} (hnn : nn + 11 ≤ 601024) (hks : ks + 117 ≤ 7293034) {q : Nat} {b1 b2 : Nat → Nat} {ao : Nat} {m : Nat → Nat} {O : Nat → Int64} {C : Nat → Nat → Int32} {G M : Nat → Int32} {C2 : Nat → Nat → Int32} {G2 M2 : Nat → Int32} {th : Int32} {n : Nat} {S : Nat → Int32} {N a : Nat → Nat → Int32} (R : hm_R n C G M S N a) (kk : ∀ (O : Nat → Int64) (C : Nat → Nat → Int32) (G M : Nat → Int32) (C2 : Nat → Nat → Int32) (G2 M2 : Nat → Int32) (th : Int32) (n : Nat) (S : Nat → Int32) (N a : Nat → Nat → Int32), hm_R n C G M S N a → jk_J Γ E (lw_w E q b1 b2 ao m O C G M C2 G2 M2 th n S N a) (nn + 11) (ks + 117) 2155 [(4, .int (nI (4 * j))), (3, .ref ao), (2, .ref (m 0)), (1, .ref q), (0, .ref sb)] []) : jk_J Γ E (lw_w E q b1 b2 ao m O C G M C2 G2 M2 th n S N a) nn ks 1653 [(4, .int (nI (4 * j))), (3, .ref ao), (2, .ref (m 0)), (1, .ref q), (0, .ref sb)] [] := by
  have hl := K.2.2.2.2.2.2.2.2.2.2
  refine jk_aload_n K dL_law_1653 rfl 3 rfl ?_
  refine jk_aload_n K dL_law_1654 rfl 4 rfl ?_
  refine jk_iload K dL_law_1655 0 rfl ?_
  refine jk_iconst (x := 1) K dL_law_1657 rfl ?_
  refine jk_iadd K dL_law_1658 ?_
  refine jk_xld (v := xs (4 * j + 1)) K XL dL_law_1659 (lw_i hj hL (c := 1) (by decide)).1 (congrArg xs (lw_i hj hL (c := 1) (by decide)).2) ?_
  refine jk_aload_n K dL_law_1660 rfl 1 rfl ?_
  refine jk_ws (ws' := (hb_v1 E q b1 b2 (hb_o E ao O :: (hm_MW E m th (nI n) S N a ++ [])) C G M C2 G2 M2)) lw_eq.symm ?_
  refine jk_cSiH K (n' := (nn + 2)) (k' := (ks + 12)) [.ref q, .int (xs (4 * j + 1)), .ref ao] [] dL_law_1661 (hb_L_sourceOf _ hl E q b1 b2 ao O (hm_MW E m th (nI n) S N a ++ []) C G M C2 G2 M2 n R.1 R.2.2.1.1 (xs (4 * j + 1))) gL_law_L_sourceOf rfl kd_L_sourceOf ⟨Nat.le_of_ble_eq_true rfl, Nat.le_of_ble_eq_true rfl⟩ (Nat.le_of_ble_eq_true rfl) ⟨rfl, rfl⟩ ⟨(by show _ ≤ 601024; omega), (by show _ ≤ 7293034; omega)⟩ rfl (fun u hu => ?_)
  rcases u with u | k
  · refine jk_ws (ws' := (lw_w E q b1 b2 ao m (vp_updL O 0 (Int32.toInt64 (C u 9))) C G M C2 G2 M2 th n S N a)) lw_eq ?_
    refine jk_st (st' := [.int 0]) rfl ?_
    refine jk_istore (lv' := [(5, .int 0), (4, .int (nI (4 * j))), (3, .ref ao), (2, .ref (m 0)), (1, .ref q), (0, .ref sb)]) K dL_law_1664 (by decide) rfl ?_
    refine jk_aload_n K dL_law_1666 rfl 3 rfl ?_
    refine jk_aload_n K dL_law_1667 rfl 5 rfl ?_
    refine jk_iload K dL_law_1668 1 rfl ?_
    refine jk_iconst (x := 1) K dL_law_1670 rfl ?_
    refine jk_iadd K dL_law_1671 ?_
    refine jk_xld (v := xs (4 * j + 1)) K XL dL_law_1672 (lw_i hj hL (c := 1) (by decide)).1 (congrArg xs (lw_i hj hL (c := 1) (by decide)).2) ?_
    refine jk_cVi K (n' := (nn + 2)) (k' := (ks + 12)) [.int (xs (4 * j + 1))] [] dL_law_1673 (hb_X3_sourceOf _ hl E (hb_v1 E q b1 b2 [hb_o E ao (vp_updL O 0 (Int32.toInt64 (C u 9)))] C G M C2 G2 M2) [] m th S N a n R.1 (xs (4 * j + 1))) gL_law_X3_sourceOf rfl kd_X3_sourceOf ⟨Nat.le_of_ble_eq_true rfl, Nat.le_of_ble_eq_true rfl⟩ _ hm_x0 rfl (Nat.le_of_ble_eq_true rfl) ⟨rfl, rfl⟩ ⟨(by show _ ≤ 601024; omega), (by show _ ≤ 7293034; omega)⟩ rfl (fun v hv => ?_)
    obtain ⟨e1, e2, R2⟩ := lp_sourceOf_ok (C2 := C2) (G2 := G2) (M2 := M2) (u := u) (v := v) R hu hv
    refine jk_ws (ws' := (lw_w E q b1 b2 ao m (vp_updL O 0 (Int32.toInt64 (C u 9))) C G M C2 G2 M2 v.1 n S N a)) rfl ?_
    refine jk_st (st' := [.int (C u 9)]) (by rw [e2]) ?_
    refine jk_istore (lv' := [(6, .int (C u 9)), (5, .int 0), (4, .int (nI (4 * j))), (3, .ref ao), (2, .ref (m 0)), (1, .ref q), (0, .ref sb)]) K dL_law_1676 (by decide) rfl ?_
    refine jk_aload_n K dL_law_1678 rfl 4 rfl ?_
    refine jk_cVi K (n' := (nn + 2)) (k' := (ks + 12)) [] [] dL_law_1679 (hb_X3_thrown _ hl E (hb_v1 E q b1 b2 [hb_o E ao (vp_updL O 0 (Int32.toInt64 (C u 9)))] C G M C2 G2 M2) [] m v.1 S N a n R2.1) gL_law_X3_thrown rfl kd_X3_thrown ⟨Nat.le_of_ble_eq_true rfl, Nat.le_of_ble_eq_true rfl⟩ _ hm_x0 rfl (Nat.le_of_ble_eq_true rfl) ⟨rfl, rfl⟩ ⟨(by show _ ≤ 601024; omega), (by show _ ≤ 7293034; omega)⟩ rfl (fun _ _ => ?_)
    refine jk_st (st' := [.int 0]) (by rw [e1]) ?_
    refine jk_iload K dL_law_1682 1 rfl ?_
    refine jk_icmp_eq (tgt := 1689) K dL_law_1684 rfl (fun c_1684 => ?_) (fun c_1684 => ?_)
    · refine jk_iload K dL_law_1689 1 rfl ?_
      refine jk_if_ne (tgt := 1706) K dL_law_1691 rfl (fun c_1691 => ?_) (fun c_1691 => ?_)
      · exact absurd (by decide) c_1691
      · refine jk_aload_n K dL_law_1694 rfl 3 rfl ?_
        refine jk_iconst (x := 0) K dL_law_1695 rfl ?_
        refine jk_lald (v := (Int32.toInt64 (C u 9))) K dL_law_1696 29 lw_out (vp_in_nI (n := 0) (by decide) (by decide)) (by rw [show Int32.toNatClampNeg 0 = 0 from by decide]; exact if_pos rfl) ?_
        refine jk_iload K dL_law_1697 0 rfl ?_
        refine jk_i2l K dL_law_1699 ?_
        refine jk_lcmp K dL_law_1700 ?_
        refine jk_st (st' := [.int 0]) (by rw [lg_self]) ?_
        refine jk_if_eq (tgt := 1706) K dL_law_1701 rfl (fun c_1701 => ?_) (fun c_1701 => ?_)
        · refine jk_goto (tgt := 2155) K dL_law_1706 rfl ?_
          refine jk_sub (lv' := [(4, .int (nI (4 * j))), (3, .ref ao), (2, .ref (m 0)), (1, .ref q), (0, .ref sb)]) [2, 3, 4, 5, 6] rfl ?_
          refine jk_wide (n' := nn + 11) (k' := ks + 117) (by omega) (by omega) ?_
          exact kk _ _ _ _ _ _ _ _ _ _ _ _ R2
        · exact absurd (by decide) c_1701
    · exact absurd (by decide) c_1684
  · refine jk_ws (ws' := (lw_w E q b1 b2 ao m O C G M C2 G2 M2 th n S N a)) lw_eq ?_
    refine jk_st (st' := [.int k]) rfl ?_
    refine jk_istore (lv' := [(5, .int k), (4, .int (nI (4 * j))), (3, .ref ao), (2, .ref (m 0)), (1, .ref q), (0, .ref sb)]) K dL_law_1664 (by decide) rfl ?_
    refine jk_aload_n K dL_law_1666 rfl 3 rfl ?_
    refine jk_aload_n K dL_law_1667 rfl 5 rfl ?_
    refine jk_iload K dL_law_1668 1 rfl ?_
    refine jk_iconst (x := 1) K dL_law_1670 rfl ?_
    refine jk_iadd K dL_law_1671 ?_
    refine jk_xld (v := xs (4 * j + 1)) K XL dL_law_1672 (lw_i hj hL (c := 1) (by decide)).1 (congrArg xs (lw_i hj hL (c := 1) (by decide)).2) ?_
    refine jk_cVi K (n' := (nn + 2)) (k' := (ks + 12)) [.int (xs (4 * j + 1))] [] dL_law_1673 (hb_X3_sourceOf _ hl E (hb_v1 E q b1 b2 [hb_o E ao O] C G M C2 G2 M2) [] m th S N a n R.1 (xs (4 * j + 1))) gL_law_X3_sourceOf rfl kd_X3_sourceOf ⟨Nat.le_of_ble_eq_true rfl, Nat.le_of_ble_eq_true rfl⟩ _ hm_x0 rfl (Nat.le_of_ble_eq_true rfl) ⟨rfl, rfl⟩ ⟨(by show _ ≤ 601024; omega), (by show _ ≤ 7293034; omega)⟩ rfl (fun v hv => ?_)
    obtain ⟨e1, ek, R2⟩ := lp_sourceOf_no (k := k) (v := v) R hu hv
    refine jk_ws (ws' := (lw_w E q b1 b2 ao m O C G M C2 G2 M2 v.1 n S N a)) rfl ?_
    refine jk_st (st' := [.int v.2]) rfl ?_
    refine jk_istore (lv' := [(6, .int v.2), (5, .int k), (4, .int (nI (4 * j))), (3, .ref ao), (2, .ref (m 0)), (1, .ref q), (0, .ref sb)]) K dL_law_1676 (by decide) rfl ?_
    refine jk_aload_n K dL_law_1678 rfl 4 rfl ?_
    refine jk_cVi K (n' := (nn + 2)) (k' := (ks + 12)) [] [] dL_law_1679 (hb_X3_thrown _ hl E (hb_v1 E q b1 b2 [hb_o E ao O] C G M C2 G2 M2) [] m v.1 S N a n R2.1) gL_law_X3_thrown rfl kd_X3_thrown ⟨Nat.le_of_ble_eq_true rfl, Nat.le_of_ble_eq_true rfl⟩ _ hm_x0 rfl (Nat.le_of_ble_eq_true rfl) ⟨rfl, rfl⟩ ⟨(by show _ ≤ 601024; omega), (by show _ ≤ 7293034; omega)⟩ rfl (fun _ _ => ?_)
    refine jk_st (st' := [.int k]) (by rw [e1]) ?_
    refine jk_iload K dL_law_1682 1 rfl ?_
    refine jk_icmp_eq (tgt := 1689) K dL_law_1684 rfl (fun c_1684 => ?_) (fun c_1684 => ?_)
    · refine jk_iload K dL_law_1689 1 rfl ?_
      refine jk_if_ne (tgt := 1706) K dL_law_1691 rfl (fun c_1691 => ?_) (fun c_1691 => ?_)
      · refine jk_goto (tgt := 2155) K dL_law_1706 rfl ?_
        refine jk_sub (lv' := [(4, .int (nI (4 * j))), (3, .ref ao), (2, .ref (m 0)), (1, .ref q), (0, .ref sb)]) [2, 3, 4, 5, 6] rfl ?_
        refine jk_wide (n' := nn + 11) (k' := ks + 117) (by omega) (by omega) ?_
        exact kk _ _ _ _ _ _ _ _ _ _ _ _ R2
      · exact absurd c_1691 ek
    · exact absurd rfl c_1684
set_option maxHeartbeats 4000000 in
set_option maxRecDepth 100000 in
theorem lw_c24 {Γ : jk_G} {E : jk_T} (K : jk_C Γ E RL cL_law 9 wsL_law ({ frames := 13, cells := 601024, slots := 7293034, locals := 468 } : Room)) {sb L : Nat} {xs : Nat → Int32} (XL : jk_LX Γ sb L xs) (hL : L ≤ 2048) {j : Nat} (hj : 4 * j + 3 < L) {nn ks : Nat} (hnn : nn + 11 ≤ 601024) (hks : ks + 117 ≤ 7293034) {q : Nat} {b1 b2 : Nat → Nat} {ao : Nat} {m : Nat → Nat} {O : Nat → Int64} {C : Nat → Nat → Int32} {G M : Nat → Int32} {C2 : Nat → Nat → Int32} {G2 M2 : Nat → Int32} {th : Int32} {n : Nat} {S : Nat → Int32} {N a : Nat → Nat → Int32} (R : hm_R n C G M S N a) (kk : ∀ (O : Nat → Int64) (C : Nat → Nat → Int32) (G M : Nat → Int32) (C2 : Nat → Nat → Int32) (G2 M2 : Nat → Int32) (th : Int32) (n : Nat) (S : Nat → Int32) (N a : Nat → Nat → Int32), hm_R n C G M S N a → jk_J Γ E (lw_w E q b1 b2 ao m O C G M C2 G2 M2 th n S N a) (nn + 11) (ks + 117) 2155 [(4, .int (nI (4 * j))), (3, .ref ao), (2, .ref (m 0)), (1, .ref q), (0, .ref sb)] []) : jk_J Γ E (lw_w E q b1 b2 ao m O C G M C2 G2 M2 th n S N a) nn ks 1709 [(4, .int (nI (4 * j))), (3, .ref ao), (2, .ref (m 0)), (1, .ref q), (0, .ref sb)] [] := by
  have hl := K.2.2.2.2.2.2.2.2.2.2
  refine jk_aload_n K dL_law_1709 rfl 3 rfl ?_
  refine jk_aload_n K dL_law_1710 rfl 4 rfl ?_
  refine jk_iload K dL_law_1711 0 rfl ?_
  refine jk_iconst (x := 1) K dL_law_1713 rfl ?_
  refine jk_iadd K dL_law_1714 ?_
  refine jk_xld (v := xs (4 * j + 1)) K XL dL_law_1715 (lw_i hj hL (c := 1) (by decide)).1 (congrArg xs (lw_i hj hL (c := 1) (by decide)).2) ?_
  refine jk_aload_n K dL_law_1716 rfl 1 rfl ?_
  refine jk_ws (ws' := (hb_v1 E q b1 b2 (hb_o E ao O :: (hm_MW E m th (nI n) S N a ++ [])) C G M C2 G2 M2)) lw_eq.symm ?_
  refine jk_cSiH K (n' := (nn + 1)) (k' := (ks + 6)) [.ref q, .int (xs (4 * j + 1)), .ref ao] [] dL_law_1717 (hb_L_isMistaken _ hl E q b1 b2 ao O (hm_MW E m th (nI n) S N a ++ []) C G M C2 G2 M2 n R.1 R.2.2.1.1 (xs (4 * j + 1))) gL_law_L_isMistaken rfl kd_L_isMistaken ⟨Nat.le_of_ble_eq_true rfl, Nat.le_of_ble_eq_true rfl⟩ (Nat.le_of_ble_eq_true rfl) ⟨rfl, rfl⟩ ⟨(by show _ ≤ 601024; omega), (by show _ ≤ 7293034; omega)⟩ rfl (fun u hu => ?_)
  rcases u with u | k
  · refine jk_ws (ws' := (lw_w E q b1 b2 ao m (vp_updL O 0 (if (if C u 9 = -1 then 1 else 0 : Int32) = 0 then (0 : Int64) else 1)) C G M C2 G2 M2 th n S N a)) lw_eq ?_
    refine jk_st (st' := [.int 0]) rfl ?_
    refine jk_istore (lv' := [(5, .int 0), (4, .int (nI (4 * j))), (3, .ref ao), (2, .ref (m 0)), (1, .ref q), (0, .ref sb)]) K dL_law_1720 (by decide) rfl ?_
    refine jk_aload_n K dL_law_1722 rfl 3 rfl ?_
    refine jk_aload_n K dL_law_1723 rfl 5 rfl ?_
    refine jk_iload K dL_law_1724 1 rfl ?_
    refine jk_iconst (x := 1) K dL_law_1726 rfl ?_
    refine jk_iadd K dL_law_1727 ?_
    refine jk_xld (v := xs (4 * j + 1)) K XL dL_law_1728 (lw_i hj hL (c := 1) (by decide)).1 (congrArg xs (lw_i hj hL (c := 1) (by decide)).2) ?_
    refine jk_cVi K (n' := (nn + 1)) (k' := (ks + 6)) [.int (xs (4 * j + 1))] [] dL_law_1729 (hb_X3_isMistaken _ hl E (hb_v1 E q b1 b2 [hb_o E ao (vp_updL O 0 (if (if C u 9 = -1 then 1 else 0 : Int32) = 0 then (0 : Int64) else 1))] C G M C2 G2 M2) [] m th S N a n R.1 (xs (4 * j + 1))) gL_law_X3_isMistaken rfl kd_X3_isMistaken ⟨Nat.le_of_ble_eq_true rfl, Nat.le_of_ble_eq_true rfl⟩ _ hm_x0 rfl (Nat.le_of_ble_eq_true rfl) ⟨rfl, rfl⟩ ⟨(by show _ ≤ 601024; omega), (by show _ ≤ 7293034; omega)⟩ rfl (fun v hv => ?_)
    obtain ⟨e1, e2, R2⟩ := lp_isMistaken_ok (C2 := C2) (G2 := G2) (M2 := M2) (u := u) (v := v) R hu hv
    refine jk_ws (ws' := (lw_w E q b1 b2 ao m (vp_updL O 0 (if (if C u 9 = -1 then 1 else 0 : Int32) = 0 then (0 : Int64) else 1)) C G M C2 G2 M2 v.1 n S N a)) rfl ?_
    refine jk_st (st' := [.int (if C u 9 = -1 then 1 else 0)]) (by rw [e2]) ?_
    refine jk_istore (lv' := [(6, .int (if C u 9 = -1 then 1 else 0)), (5, .int 0), (4, .int (nI (4 * j))), (3, .ref ao), (2, .ref (m 0)), (1, .ref q), (0, .ref sb)]) K dL_law_1732 (by decide) rfl ?_
    refine jk_aload_n K dL_law_1734 rfl 4 rfl ?_
    refine jk_cVi K (n' := (nn + 1)) (k' := (ks + 6)) [] [] dL_law_1735 (hb_X3_thrown _ hl E (hb_v1 E q b1 b2 [hb_o E ao (vp_updL O 0 (if (if C u 9 = -1 then 1 else 0 : Int32) = 0 then (0 : Int64) else 1))] C G M C2 G2 M2) [] m v.1 S N a n R2.1) gL_law_X3_thrown rfl kd_X3_thrown ⟨Nat.le_of_ble_eq_true rfl, Nat.le_of_ble_eq_true rfl⟩ _ hm_x0 rfl (Nat.le_of_ble_eq_true rfl) ⟨rfl, rfl⟩ ⟨(by show _ ≤ 601024; omega), (by show _ ≤ 7293034; omega)⟩ rfl (fun _ _ => ?_)
    refine jk_st (st' := [.int 0]) (by rw [e1]) ?_
    refine jk_iload K dL_law_1738 1 rfl ?_
    refine jk_icmp_eq (tgt := 1745) K dL_law_1740 rfl (fun c_1740 => ?_) (fun c_1740 => ?_)
    · refine jk_iload K dL_law_1745 1 rfl ?_
      refine jk_if_ne (tgt := 1769) K dL_law_1747 rfl (fun c_1747 => ?_) (fun c_1747 => ?_)
      · exact absurd (by decide) c_1747
      · refine jk_aload_n K dL_law_1750 rfl 3 rfl ?_
        refine jk_iconst (x := 0) K dL_law_1751 rfl ?_
        refine jk_lald (v := (if (if C u 9 = -1 then 1 else 0 : Int32) = 0 then (0 : Int64) else 1)) K dL_law_1752 29 lw_out (vp_in_nI (n := 0) (by decide) (by decide)) (by rw [show Int32.toNatClampNeg 0 = 0 from by decide]; exact if_pos rfl) ?_
        refine jk_iload K dL_law_1753 0 rfl ?_
        refine jk_if_eq (tgt := 1762) K dL_law_1755 rfl (fun c_1755 => ?_) (fun c_1755 => ?_)
        · refine jk_lconst (x := 0) K dL_law_1762 rfl ?_
          refine jk_lcmp K dL_law_1763 ?_
          refine jk_st (st' := [.int 0]) (by rw [if_pos c_1755, lg_self]) ?_
          refine jk_if_eq (tgt := 1769) K dL_law_1764 rfl (fun c_1764 => ?_) (fun c_1764 => ?_)
          · refine jk_goto (tgt := 2155) K dL_law_1769 rfl ?_
            refine jk_sub (lv' := [(4, .int (nI (4 * j))), (3, .ref ao), (2, .ref (m 0)), (1, .ref q), (0, .ref sb)]) [2, 3, 4, 5, 6] rfl ?_
            refine jk_wide (n' := nn + 11) (k' := ks + 117) (by omega) (by omega) ?_
            exact kk _ _ _ _ _ _ _ _ _ _ _ _ R2
          · exact absurd (by decide) c_1764
        · refine jk_lconst (x := 1) K dL_law_1758 rfl ?_
          refine jk_goto (tgt := 1763) K dL_law_1759 rfl ?_
          refine jk_lcmp K dL_law_1763 ?_
          refine jk_st (st' := [.int 0]) (by rw [if_neg c_1755, lg_self]) ?_
          refine jk_if_eq (tgt := 1769) K dL_law_1764 rfl (fun c_1764 => ?_) (fun c_1764 => ?_)
          · refine jk_goto (tgt := 2155) K dL_law_1769 rfl ?_
            refine jk_sub (lv' := [(4, .int (nI (4 * j))), (3, .ref ao), (2, .ref (m 0)), (1, .ref q), (0, .ref sb)]) [2, 3, 4, 5, 6] rfl ?_
            refine jk_wide (n' := nn + 11) (k' := ks + 117) (by omega) (by omega) ?_
            exact kk _ _ _ _ _ _ _ _ _ _ _ _ R2
          · exact absurd (by decide) c_1764
    · exact absurd (by decide) c_1740
  · refine jk_ws (ws' := (lw_w E q b1 b2 ao m O C G M C2 G2 M2 th n S N a)) lw_eq ?_
    refine jk_st (st' := [.int k]) rfl ?_
    refine jk_istore (lv' := [(5, .int k), (4, .int (nI (4 * j))), (3, .ref ao), (2, .ref (m 0)), (1, .ref q), (0, .ref sb)]) K dL_law_1720 (by decide) rfl ?_
    refine jk_aload_n K dL_law_1722 rfl 3 rfl ?_
    refine jk_aload_n K dL_law_1723 rfl 5 rfl ?_
    refine jk_iload K dL_law_1724 1 rfl ?_
    refine jk_iconst (x := 1) K dL_law_1726 rfl ?_
    refine jk_iadd K dL_law_1727 ?_
    refine jk_xld (v := xs (4 * j + 1)) K XL dL_law_1728 (lw_i hj hL (c := 1) (by decide)).1 (congrArg xs (lw_i hj hL (c := 1) (by decide)).2) ?_
    refine jk_cVi K (n' := (nn + 1)) (k' := (ks + 6)) [.int (xs (4 * j + 1))] [] dL_law_1729 (hb_X3_isMistaken _ hl E (hb_v1 E q b1 b2 [hb_o E ao O] C G M C2 G2 M2) [] m th S N a n R.1 (xs (4 * j + 1))) gL_law_X3_isMistaken rfl kd_X3_isMistaken ⟨Nat.le_of_ble_eq_true rfl, Nat.le_of_ble_eq_true rfl⟩ _ hm_x0 rfl (Nat.le_of_ble_eq_true rfl) ⟨rfl, rfl⟩ ⟨(by show _ ≤ 601024; omega), (by show _ ≤ 7293034; omega)⟩ rfl (fun v hv => ?_)
    obtain ⟨e1, ek, R2⟩ := lp_isMistaken_no (k := k) (v := v) R hu hv
    refine jk_ws (ws' := (lw_w E q b1 b2 ao m O C G M C2 G2 M2 v.1 n S N a)) rfl ?_
    refine jk_st (st' := [.int v.2]) rfl ?_
    refine jk_istore (lv' := [(6, .int v.2), (5, .int k), (4, .int (nI (4 * j))), (3, .ref ao), (2, .ref (m 0)), (1, .ref q), (0, .ref sb)]) K dL_law_1732 (by decide) rfl ?_
    refine jk_aload_n K dL_law_1734 rfl 4 rfl ?_
    refine jk_cVi K (n' := (nn + 1)) (k' := (ks + 6)) [] [] dL_law_1735 (hb_X3_thrown _ hl E (hb_v1 E q b1 b2 [hb_o E ao O] C G M C2 G2 M2) [] m v.1 S N a n R2.1) gL_law_X3_thrown rfl kd_X3_thrown ⟨Nat.le_of_ble_eq_true rfl, Nat.le_of_ble_eq_true rfl⟩ _ hm_x0 rfl (Nat.le_of_ble_eq_true rfl) ⟨rfl, rfl⟩ ⟨(by show _ ≤ 601024; omega), (by show _ ≤ 7293034; omega)⟩ rfl (fun _ _ => ?_)
    refine jk_st (st' := [.int k]) (by rw [e1]) ?_
    refine jk_iload K dL_law_1738 1 rfl ?_
    refine jk_icmp_eq (tgt := 1745) K dL_law_1740 rfl (fun c_1740 => ?_) (fun c_1740 => ?_)
    · refine jk_iload K dL_law_1745 1 rfl ?_
      refine jk_if_ne (tgt := 1769) K dL_law_1747 rfl (fun c_1747 => ?_) (fun c_1747 => ?_)
      · refine jk_goto (tgt := 2155) K dL_law_1769 rfl ?_
        refine jk_sub (lv' := [(4, .int (nI (4 * j))), (3, .ref ao), (2, .ref (m 0)), (1, .ref q), (0, .ref sb)]) [2, 3, 4, 5, 6] rfl ?_
        refine jk_wide (n' := nn + 11) (k' := ks + 117) (by omega) (by omega) ?_
        exact kk _ _ _ _ _ _ _ _ _ _ _ _ R2
      · exact absurd c_1747 ek
    · exact absurd rfl c_1740
set_option maxHeartbeats 4000000 in
set_option maxRecDepth 100000 in
theorem lw_c25 {Γ : jk_G} {E : jk_T} (K : jk_C Γ E RL cL_law 9 wsL_law ({ frames := 13, cells := 601024, slots := 7293034, locals := 468 } : Room)) {sb L : Nat} {xs : Nat → Int32} (XL : jk_LX Γ sb L xs) (hL : L ≤ 2048) {j : Nat} (hj : 4 * j + 3 < L) {nn ks : Nat} (hnn : nn + 11 ≤ 601024) (hks : ks + 117 ≤ 7293034) {q : Nat} {b1 b2 : Nat → Nat} {ao : Nat} {m : Nat → Nat} {O : Nat → Int64} {C : Nat → Nat → Int32} {G M : Nat → Int32} {C2 : Nat → Nat → Int32} {G2 M2 : Nat → Int32} {th : Int32} {n : Nat} {S : Nat → Int32} {N a : Nat → Nat → Int32} (R : hm_R n C G M S N a) (kk : ∀ (O : Nat → Int64) (C : Nat → Nat → Int32) (G M : Nat → Int32) (C2 : Nat → Nat → Int32) (G2 M2 : Nat → Int32) (th : Int32) (n : Nat) (S : Nat → Int32) (N a : Nat → Nat → Int32), hm_R n C G M S N a → jk_J Γ E (lw_w E q b1 b2 ao m O C G M C2 G2 M2 th n S N a) (nn + 11) (ks + 117) 2155 [(4, .int (nI (4 * j))), (3, .ref ao), (2, .ref (m 0)), (1, .ref q), (0, .ref sb)] []) : jk_J Γ E (lw_w E q b1 b2 ao m O C G M C2 G2 M2 th n S N a) nn ks 1772 [(4, .int (nI (4 * j))), (3, .ref ao), (2, .ref (m 0)), (1, .ref q), (0, .ref sb)] [] := by
  have hl := K.2.2.2.2.2.2.2.2.2.2
  refine jk_aload_n K dL_law_1772 rfl 3 rfl ?_
  refine jk_aload_n K dL_law_1773 rfl 4 rfl ?_
  refine jk_iload K dL_law_1774 0 rfl ?_
  refine jk_iconst (x := 1) K dL_law_1776 rfl ?_
  refine jk_iadd K dL_law_1777 ?_
  refine jk_xld (v := xs (4 * j + 1)) K XL dL_law_1778 (lw_i hj hL (c := 1) (by decide)).1 (congrArg xs (lw_i hj hL (c := 1) (by decide)).2) ?_
  refine jk_aload_n K dL_law_1779 rfl 1 rfl ?_
  refine jk_ws (ws' := (hb_v1 E q b1 b2 (hb_o E ao O :: (hm_MW E m th (nI n) S N a ++ [])) C G M C2 G2 M2)) lw_eq.symm ?_
  refine jk_cSiH K (n' := (nn + 1)) (k' := (ks + 6)) [.ref q, .int (xs (4 * j + 1)), .ref ao] [] dL_law_1780 (hb_L_answersTo _ hl E q b1 b2 ao O (hm_MW E m th (nI n) S N a ++ []) C G M C2 G2 M2 n R.1 R.2.2.1.1 (xs (4 * j + 1))) gL_law_L_answersTo rfl kd_L_answersTo ⟨Nat.le_of_ble_eq_true rfl, Nat.le_of_ble_eq_true rfl⟩ (Nat.le_of_ble_eq_true rfl) ⟨rfl, rfl⟩ ⟨(by show _ ≤ 601024; omega), (by show _ ≤ 7293034; omega)⟩ rfl (fun u hu => ?_)
  rcases u with u | k
  · refine jk_ws (ws' := (lw_w E q b1 b2 ao m (vp_updL O 0 (Int32.toInt64 (C u 10))) C G M C2 G2 M2 th n S N a)) lw_eq ?_
    refine jk_st (st' := [.int 0]) rfl ?_
    refine jk_istore (lv' := [(5, .int 0), (4, .int (nI (4 * j))), (3, .ref ao), (2, .ref (m 0)), (1, .ref q), (0, .ref sb)]) K dL_law_1783 (by decide) rfl ?_
    refine jk_aload_n K dL_law_1785 rfl 3 rfl ?_
    refine jk_aload_n K dL_law_1786 rfl 5 rfl ?_
    refine jk_iload K dL_law_1787 1 rfl ?_
    refine jk_iconst (x := 1) K dL_law_1789 rfl ?_
    refine jk_iadd K dL_law_1790 ?_
    refine jk_xld (v := xs (4 * j + 1)) K XL dL_law_1791 (lw_i hj hL (c := 1) (by decide)).1 (congrArg xs (lw_i hj hL (c := 1) (by decide)).2) ?_
    refine jk_cVi K (n' := (nn + 1)) (k' := (ks + 6)) [.int (xs (4 * j + 1))] [] dL_law_1792 (hb_X3_answersTo _ hl E (hb_v1 E q b1 b2 [hb_o E ao (vp_updL O 0 (Int32.toInt64 (C u 10)))] C G M C2 G2 M2) [] m th S N a n R.1 (xs (4 * j + 1))) gL_law_X3_answersTo rfl kd_X3_answersTo ⟨Nat.le_of_ble_eq_true rfl, Nat.le_of_ble_eq_true rfl⟩ _ hm_x0 rfl (Nat.le_of_ble_eq_true rfl) ⟨rfl, rfl⟩ ⟨(by show _ ≤ 601024; omega), (by show _ ≤ 7293034; omega)⟩ rfl (fun v hv => ?_)
    obtain ⟨e1, e2, R2⟩ := lp_answersTo_ok (C2 := C2) (G2 := G2) (M2 := M2) (u := u) (v := v) R hu hv
    refine jk_ws (ws' := (lw_w E q b1 b2 ao m (vp_updL O 0 (Int32.toInt64 (C u 10))) C G M C2 G2 M2 v.1 n S N a)) rfl ?_
    refine jk_st (st' := [.int (C u 10)]) (by rw [e2]) ?_
    refine jk_istore (lv' := [(6, .int (C u 10)), (5, .int 0), (4, .int (nI (4 * j))), (3, .ref ao), (2, .ref (m 0)), (1, .ref q), (0, .ref sb)]) K dL_law_1795 (by decide) rfl ?_
    refine jk_aload_n K dL_law_1797 rfl 4 rfl ?_
    refine jk_cVi K (n' := (nn + 1)) (k' := (ks + 6)) [] [] dL_law_1798 (hb_X3_thrown _ hl E (hb_v1 E q b1 b2 [hb_o E ao (vp_updL O 0 (Int32.toInt64 (C u 10)))] C G M C2 G2 M2) [] m v.1 S N a n R2.1) gL_law_X3_thrown rfl kd_X3_thrown ⟨Nat.le_of_ble_eq_true rfl, Nat.le_of_ble_eq_true rfl⟩ _ hm_x0 rfl (Nat.le_of_ble_eq_true rfl) ⟨rfl, rfl⟩ ⟨(by show _ ≤ 601024; omega), (by show _ ≤ 7293034; omega)⟩ rfl (fun _ _ => ?_)
    refine jk_st (st' := [.int 0]) (by rw [e1]) ?_
    refine jk_iload K dL_law_1801 1 rfl ?_
    refine jk_icmp_eq (tgt := 1808) K dL_law_1803 rfl (fun c_1803 => ?_) (fun c_1803 => ?_)
    · refine jk_iload K dL_law_1808 1 rfl ?_
      refine jk_if_ne (tgt := 1825) K dL_law_1810 rfl (fun c_1810 => ?_) (fun c_1810 => ?_)
      · exact absurd (by decide) c_1810
      · refine jk_aload_n K dL_law_1813 rfl 3 rfl ?_
        refine jk_iconst (x := 0) K dL_law_1814 rfl ?_
        refine jk_lald (v := (Int32.toInt64 (C u 10))) K dL_law_1815 29 lw_out (vp_in_nI (n := 0) (by decide) (by decide)) (by rw [show Int32.toNatClampNeg 0 = 0 from by decide]; exact if_pos rfl) ?_
        refine jk_iload K dL_law_1816 0 rfl ?_
        refine jk_i2l K dL_law_1818 ?_
        refine jk_lcmp K dL_law_1819 ?_
        refine jk_st (st' := [.int 0]) (by rw [lg_self]) ?_
        refine jk_if_eq (tgt := 1825) K dL_law_1820 rfl (fun c_1820 => ?_) (fun c_1820 => ?_)
        · refine jk_goto (tgt := 2155) K dL_law_1825 rfl ?_
          refine jk_sub (lv' := [(4, .int (nI (4 * j))), (3, .ref ao), (2, .ref (m 0)), (1, .ref q), (0, .ref sb)]) [2, 3, 4, 5, 6] rfl ?_
          refine jk_wide (n' := nn + 11) (k' := ks + 117) (by omega) (by omega) ?_
          exact kk _ _ _ _ _ _ _ _ _ _ _ _ R2
        · exact absurd (by decide) c_1820
    · exact absurd (by decide) c_1803
  · refine jk_ws (ws' := (lw_w E q b1 b2 ao m O C G M C2 G2 M2 th n S N a)) lw_eq ?_
    refine jk_st (st' := [.int k]) rfl ?_
    refine jk_istore (lv' := [(5, .int k), (4, .int (nI (4 * j))), (3, .ref ao), (2, .ref (m 0)), (1, .ref q), (0, .ref sb)]) K dL_law_1783 (by decide) rfl ?_
    refine jk_aload_n K dL_law_1785 rfl 3 rfl ?_
    refine jk_aload_n K dL_law_1786 rfl 5 rfl ?_
    refine jk_iload K dL_law_1787 1 rfl ?_
    refine jk_iconst (x := 1) K dL_law_1789 rfl ?_
    refine jk_iadd K dL_law_1790 ?_
    refine jk_xld (v := xs (4 * j + 1)) K XL dL_law_1791 (lw_i hj hL (c := 1) (by decide)).1 (congrArg xs (lw_i hj hL (c := 1) (by decide)).2) ?_
    refine jk_cVi K (n' := (nn + 1)) (k' := (ks + 6)) [.int (xs (4 * j + 1))] [] dL_law_1792 (hb_X3_answersTo _ hl E (hb_v1 E q b1 b2 [hb_o E ao O] C G M C2 G2 M2) [] m th S N a n R.1 (xs (4 * j + 1))) gL_law_X3_answersTo rfl kd_X3_answersTo ⟨Nat.le_of_ble_eq_true rfl, Nat.le_of_ble_eq_true rfl⟩ _ hm_x0 rfl (Nat.le_of_ble_eq_true rfl) ⟨rfl, rfl⟩ ⟨(by show _ ≤ 601024; omega), (by show _ ≤ 7293034; omega)⟩ rfl (fun v hv => ?_)
    obtain ⟨e1, ek, R2⟩ := lp_answersTo_no (k := k) (v := v) R hu hv
    refine jk_ws (ws' := (lw_w E q b1 b2 ao m O C G M C2 G2 M2 v.1 n S N a)) rfl ?_
    refine jk_st (st' := [.int v.2]) rfl ?_
    refine jk_istore (lv' := [(6, .int v.2), (5, .int k), (4, .int (nI (4 * j))), (3, .ref ao), (2, .ref (m 0)), (1, .ref q), (0, .ref sb)]) K dL_law_1795 (by decide) rfl ?_
    refine jk_aload_n K dL_law_1797 rfl 4 rfl ?_
    refine jk_cVi K (n' := (nn + 1)) (k' := (ks + 6)) [] [] dL_law_1798 (hb_X3_thrown _ hl E (hb_v1 E q b1 b2 [hb_o E ao O] C G M C2 G2 M2) [] m v.1 S N a n R2.1) gL_law_X3_thrown rfl kd_X3_thrown ⟨Nat.le_of_ble_eq_true rfl, Nat.le_of_ble_eq_true rfl⟩ _ hm_x0 rfl (Nat.le_of_ble_eq_true rfl) ⟨rfl, rfl⟩ ⟨(by show _ ≤ 601024; omega), (by show _ ≤ 7293034; omega)⟩ rfl (fun _ _ => ?_)
    refine jk_st (st' := [.int k]) (by rw [e1]) ?_
    refine jk_iload K dL_law_1801 1 rfl ?_
    refine jk_icmp_eq (tgt := 1808) K dL_law_1803 rfl (fun c_1803 => ?_) (fun c_1803 => ?_)
    · refine jk_iload K dL_law_1808 1 rfl ?_
      refine jk_if_ne (tgt := 1825) K dL_law_1810 rfl (fun c_1810 => ?_) (fun c_1810 => ?_)
      · refine jk_goto (tgt := 2155) K dL_law_1825 rfl ?_
        refine jk_sub (lv' := [(4, .int (nI (4 * j))), (3, .ref ao), (2, .ref (m 0)), (1, .ref q), (0, .ref sb)]) [2, 3, 4, 5, 6] rfl ?_
        refine jk_wide (n' := nn + 11) (k' := ks + 117) (by omega) (by omega) ?_
        exact kk _ _ _ _ _ _ _ _ _ _ _ _ R2
      · exact absurd c_1810 ek
    · exact absurd rfl c_1803
set_option maxHeartbeats 4000000 in
set_option maxRecDepth 100000 in
theorem lw_c33 {Γ : jk_G} {E : jk_T} (K : jk_C Γ E RL cL_law 9 wsL_law ({ frames := 13, cells := 601024, slots := 7293034, locals := 468 } : Room)) {sb L : Nat} {xs : Nat → Int32} (XL : jk_LX Γ sb L xs) (hL : L ≤ 2048) {j : Nat} (hj : 4 * j + 3 < L) {nn ks : Nat} (hnn : nn + 11 ≤ 601024) (hks : ks + 117 ≤ 7293034) {q : Nat} {b1 b2 : Nat → Nat} {ao : Nat} {m : Nat → Nat} {O : Nat → Int64} {C : Nat → Nat → Int32} {G M : Nat → Int32} {C2 : Nat → Nat → Int32} {G2 M2 : Nat → Int32} {th : Int32} {n : Nat} {S : Nat → Int32} {N a : Nat → Nat → Int32} (R : hm_R n C G M S N a) (kk : ∀ (O : Nat → Int64) (C : Nat → Nat → Int32) (G M : Nat → Int32) (C2 : Nat → Nat → Int32) (G2 M2 : Nat → Int32) (th : Int32) (n : Nat) (S : Nat → Int32) (N a : Nat → Nat → Int32), hm_R n C G M S N a → jk_J Γ E (lw_w E q b1 b2 ao m O C G M C2 G2 M2 th n S N a) (nn + 11) (ks + 117) 2155 [(4, .int (nI (4 * j))), (3, .ref ao), (2, .ref (m 0)), (1, .ref q), (0, .ref sb)] []) : jk_J Γ E (lw_w E q b1 b2 ao m O C G M C2 G2 M2 th n S N a) nn ks 1919 [(4, .int (nI (4 * j))), (3, .ref ao), (2, .ref (m 0)), (1, .ref q), (0, .ref sb)] [] := by
  have hl := K.2.2.2.2.2.2.2.2.2.2
  refine jk_aload_n K dL_law_1919 rfl 3 rfl ?_
  refine jk_aload_n K dL_law_1920 rfl 4 rfl ?_
  refine jk_iload K dL_law_1921 0 rfl ?_
  refine jk_iconst (x := 1) K dL_law_1923 rfl ?_
  refine jk_iadd K dL_law_1924 ?_
  refine jk_xld (v := xs (4 * j + 1)) K XL dL_law_1925 (lw_i hj hL (c := 1) (by decide)).1 (congrArg xs (lw_i hj hL (c := 1) (by decide)).2) ?_
  refine jk_aload_n K dL_law_1926 rfl 1 rfl ?_
  refine jk_ws (ws' := (hb_v1 E q b1 b2 (hb_o E ao O :: (hm_MW E m th (nI n) S N a ++ [])) C G M C2 G2 M2)) lw_eq.symm ?_
  refine jk_cSiH K (n' := (nn + 1)) (k' := (ks + 6)) [.ref q, .int (xs (4 * j + 1)), .ref ao] [] dL_law_1927 (hb_L_minutesUntilBurning _ hl E q b1 b2 ao O (hm_MW E m th (nI n) S N a ++ []) C G M C2 G2 M2 n R.1 R.2.2.1.1 (xs (4 * j + 1))) gL_law_L_minutesUntilBurning rfl kd_L_minutesUntilBurning ⟨Nat.le_of_ble_eq_true rfl, Nat.le_of_ble_eq_true rfl⟩ (Nat.le_of_ble_eq_true rfl) ⟨rfl, rfl⟩ ⟨(by show _ ≤ 601024; omega), (by show _ ≤ 7293034; omega)⟩ rfl (fun u hu => ?_)
  rcases u with u | k
  · refine jk_ws (ws' := (lw_w E q b1 b2 ao m (vp_updL O 0 (Int32.toInt64 (hb_mub (hb_cpC C2 C 10) (hb_cpG G2 G) (hb_cpM M2 M 10) n u.1))) C G M u.2.1 u.2.2.1 u.2.2.2 th n S N a)) lw_eq ?_
    refine jk_st (st' := [.int 0]) rfl ?_
    refine jk_istore (lv' := [(5, .int 0), (4, .int (nI (4 * j))), (3, .ref ao), (2, .ref (m 0)), (1, .ref q), (0, .ref sb)]) K dL_law_1930 (by decide) rfl ?_
    refine jk_aload_n K dL_law_1932 rfl 3 rfl ?_
    refine jk_aload_n K dL_law_1933 rfl 5 rfl ?_
    refine jk_iload K dL_law_1934 1 rfl ?_
    refine jk_iconst (x := 1) K dL_law_1936 rfl ?_
    refine jk_iadd K dL_law_1937 ?_
    refine jk_xld (v := xs (4 * j + 1)) K XL dL_law_1938 (lw_i hj hL (c := 1) (by decide)).1 (congrArg xs (lw_i hj hL (c := 1) (by decide)).2) ?_
    refine jk_cVi K (n' := (nn + 1)) (k' := (ks + 6)) [.int (xs (4 * j + 1))] [] dL_law_1939 (hb_X3_minutesUntilBurning _ hl E (hb_v1 E q b1 b2 [hb_o E ao (vp_updL O 0 (Int32.toInt64 (hb_mub (hb_cpC C2 C 10) (hb_cpG G2 G) (hb_cpM M2 M 10) n u.1)))] C G M u.2.1 u.2.2.1 u.2.2.2) [] m th S N a n R.1 (xs (4 * j + 1)) (hm_R_so R)) gL_law_X3_minutesUntilBurning rfl kd_X3_minutesUntilBurning ⟨Nat.le_of_ble_eq_true rfl, Nat.le_of_ble_eq_true rfl⟩ _ hm_x0 rfl (Nat.le_of_ble_eq_true rfl) ⟨rfl, rfl⟩ ⟨(by show _ ≤ 601024; omega), (by show _ ≤ 7293034; omega)⟩ rfl (fun v hv => ?_)
    obtain ⟨e1, e2, R2⟩ := lp_minutesUntilBurning_ok (C2 := C2) (G2 := G2) (M2 := M2) (u := u) (v := v) R hu hv
    refine jk_ws (ws' := (lw_w E q b1 b2 ao m (vp_updL O 0 (Int32.toInt64 (hb_mub (hb_cpC C2 C 10) (hb_cpG G2 G) (hb_cpM M2 M 10) n u.1))) C G M u.2.1 u.2.2.1 u.2.2.2 v.1 n S N (va_up (va_up a 7 v.2.2.1) 8 v.2.2.2))) rfl ?_
    refine jk_st (st' := [.int (hb_mub (hb_cpC C2 C 10) (hb_cpG G2 G) (hb_cpM M2 M 10) n u.1)]) (by rw [e2]) ?_
    refine jk_istore (lv' := [(6, .int (hb_mub (hb_cpC C2 C 10) (hb_cpG G2 G) (hb_cpM M2 M 10) n u.1)), (5, .int 0), (4, .int (nI (4 * j))), (3, .ref ao), (2, .ref (m 0)), (1, .ref q), (0, .ref sb)]) K dL_law_1942 (by decide) rfl ?_
    refine jk_aload_n K dL_law_1944 rfl 4 rfl ?_
    refine jk_cVi K (n' := (nn + 1)) (k' := (ks + 6)) [] [] dL_law_1945 (hb_X3_thrown _ hl E (hb_v1 E q b1 b2 [hb_o E ao (vp_updL O 0 (Int32.toInt64 (hb_mub (hb_cpC C2 C 10) (hb_cpG G2 G) (hb_cpM M2 M 10) n u.1)))] C G M u.2.1 u.2.2.1 u.2.2.2) [] m v.1 S N (va_up (va_up a 7 v.2.2.1) 8 v.2.2.2) n R2.1) gL_law_X3_thrown rfl kd_X3_thrown ⟨Nat.le_of_ble_eq_true rfl, Nat.le_of_ble_eq_true rfl⟩ _ hm_x0 rfl (Nat.le_of_ble_eq_true rfl) ⟨rfl, rfl⟩ ⟨(by show _ ≤ 601024; omega), (by show _ ≤ 7293034; omega)⟩ rfl (fun _ _ => ?_)
    refine jk_st (st' := [.int 0]) (by rw [e1]) ?_
    refine jk_iload K dL_law_1948 1 rfl ?_
    refine jk_icmp_eq (tgt := 1955) K dL_law_1950 rfl (fun c_1950 => ?_) (fun c_1950 => ?_)
    · refine jk_iload K dL_law_1955 1 rfl ?_
      refine jk_if_ne (tgt := 1972) K dL_law_1957 rfl (fun c_1957 => ?_) (fun c_1957 => ?_)
      · exact absurd (by decide) c_1957
      · refine jk_aload_n K dL_law_1960 rfl 3 rfl ?_
        refine jk_iconst (x := 0) K dL_law_1961 rfl ?_
        refine jk_lald (v := (Int32.toInt64 (hb_mub (hb_cpC C2 C 10) (hb_cpG G2 G) (hb_cpM M2 M 10) n u.1))) K dL_law_1962 29 lw_out (vp_in_nI (n := 0) (by decide) (by decide)) (by rw [show Int32.toNatClampNeg 0 = 0 from by decide]; exact if_pos rfl) ?_
        refine jk_iload K dL_law_1963 0 rfl ?_
        refine jk_i2l K dL_law_1965 ?_
        refine jk_lcmp K dL_law_1966 ?_
        refine jk_st (st' := [.int 0]) (by rw [lg_self]) ?_
        refine jk_if_eq (tgt := 1972) K dL_law_1967 rfl (fun c_1967 => ?_) (fun c_1967 => ?_)
        · refine jk_goto (tgt := 2155) K dL_law_1972 rfl ?_
          refine jk_sub (lv' := [(4, .int (nI (4 * j))), (3, .ref ao), (2, .ref (m 0)), (1, .ref q), (0, .ref sb)]) [2, 3, 4, 5, 6] rfl ?_
          refine jk_wide (n' := nn + 11) (k' := ks + 117) (by omega) (by omega) ?_
          exact kk _ _ _ _ _ _ _ _ _ _ _ _ R2
        · exact absurd (by decide) c_1967
    · exact absurd (by decide) c_1950
  · refine jk_ws (ws' := (lw_w E q b1 b2 ao m O C G M C2 G2 M2 th n S N a)) lw_eq ?_
    refine jk_st (st' := [.int k]) rfl ?_
    refine jk_istore (lv' := [(5, .int k), (4, .int (nI (4 * j))), (3, .ref ao), (2, .ref (m 0)), (1, .ref q), (0, .ref sb)]) K dL_law_1930 (by decide) rfl ?_
    refine jk_aload_n K dL_law_1932 rfl 3 rfl ?_
    refine jk_aload_n K dL_law_1933 rfl 5 rfl ?_
    refine jk_iload K dL_law_1934 1 rfl ?_
    refine jk_iconst (x := 1) K dL_law_1936 rfl ?_
    refine jk_iadd K dL_law_1937 ?_
    refine jk_xld (v := xs (4 * j + 1)) K XL dL_law_1938 (lw_i hj hL (c := 1) (by decide)).1 (congrArg xs (lw_i hj hL (c := 1) (by decide)).2) ?_
    refine jk_cVi K (n' := (nn + 1)) (k' := (ks + 6)) [.int (xs (4 * j + 1))] [] dL_law_1939 (hb_X3_minutesUntilBurning _ hl E (hb_v1 E q b1 b2 [hb_o E ao O] C G M C2 G2 M2) [] m th S N a n R.1 (xs (4 * j + 1)) (hm_R_so R)) gL_law_X3_minutesUntilBurning rfl kd_X3_minutesUntilBurning ⟨Nat.le_of_ble_eq_true rfl, Nat.le_of_ble_eq_true rfl⟩ _ hm_x0 rfl (Nat.le_of_ble_eq_true rfl) ⟨rfl, rfl⟩ ⟨(by show _ ≤ 601024; omega), (by show _ ≤ 7293034; omega)⟩ rfl (fun v hv => ?_)
    obtain ⟨e1, ek, R2⟩ := lp_minutesUntilBurning_no (k := k) (v := v) R hu hv
    refine jk_ws (ws' := (lw_w E q b1 b2 ao m O C G M C2 G2 M2 v.1 n S N (va_up (va_up a 7 v.2.2.1) 8 v.2.2.2))) rfl ?_
    refine jk_st (st' := [.int v.2.1]) rfl ?_
    refine jk_istore (lv' := [(6, .int v.2.1), (5, .int k), (4, .int (nI (4 * j))), (3, .ref ao), (2, .ref (m 0)), (1, .ref q), (0, .ref sb)]) K dL_law_1942 (by decide) rfl ?_
    refine jk_aload_n K dL_law_1944 rfl 4 rfl ?_
    refine jk_cVi K (n' := (nn + 1)) (k' := (ks + 6)) [] [] dL_law_1945 (hb_X3_thrown _ hl E (hb_v1 E q b1 b2 [hb_o E ao O] C G M C2 G2 M2) [] m v.1 S N (va_up (va_up a 7 v.2.2.1) 8 v.2.2.2) n R2.1) gL_law_X3_thrown rfl kd_X3_thrown ⟨Nat.le_of_ble_eq_true rfl, Nat.le_of_ble_eq_true rfl⟩ _ hm_x0 rfl (Nat.le_of_ble_eq_true rfl) ⟨rfl, rfl⟩ ⟨(by show _ ≤ 601024; omega), (by show _ ≤ 7293034; omega)⟩ rfl (fun _ _ => ?_)
    refine jk_st (st' := [.int k]) (by rw [e1]) ?_
    refine jk_iload K dL_law_1948 1 rfl ?_
    refine jk_icmp_eq (tgt := 1955) K dL_law_1950 rfl (fun c_1950 => ?_) (fun c_1950 => ?_)
    · refine jk_iload K dL_law_1955 1 rfl ?_
      refine jk_if_ne (tgt := 1972) K dL_law_1957 rfl (fun c_1957 => ?_) (fun c_1957 => ?_)
      · refine jk_goto (tgt := 2155) K dL_law_1972 rfl ?_
        refine jk_sub (lv' := [(4, .int (nI (4 * j))), (3, .ref ao), (2, .ref (m 0)), (1, .ref q), (0, .ref sb)]) [2, 3, 4, 5, 6] rfl ?_
        refine jk_wide (n' := nn + 11) (k' := ks + 117) (by omega) (by omega) ?_
        exact kk _ _ _ _ _ _ _ _ _ _ _ _ R2
      · exact absurd c_1957 ek
    · exact absurd rfl c_1950
set_option maxHeartbeats 4000000 in
set_option maxRecDepth 100000 in
theorem lw_c34 {Γ : jk_G} {E : jk_T} (K : jk_C Γ E RL cL_law 9 wsL_law ({ frames := 13, cells := 601024, slots := 7293034, locals := 468 } : Room)) {sb L : Nat} {xs : Nat → Int32} (XL : jk_LX Γ sb L xs) (hL : L ≤ 2048) {j : Nat} (hj : 4 * j + 3 < L) {nn ks : Nat} (hnn : nn + 11 ≤ 601024) (hks : ks + 117 ≤ 7293034) {q : Nat} {b1 b2 : Nat → Nat} {ao : Nat} {m : Nat → Nat} {O : Nat → Int64} {C : Nat → Nat → Int32} {G M : Nat → Int32} {C2 : Nat → Nat → Int32} {G2 M2 : Nat → Int32} {th : Int32} {n : Nat} {S : Nat → Int32} {N a : Nat → Nat → Int32} (R : hm_R n C G M S N a) (kk : ∀ (O : Nat → Int64) (C : Nat → Nat → Int32) (G M : Nat → Int32) (C2 : Nat → Nat → Int32) (G2 M2 : Nat → Int32) (th : Int32) (n : Nat) (S : Nat → Int32) (N a : Nat → Nat → Int32), hm_R n C G M S N a → jk_J Γ E (lw_w E q b1 b2 ao m O C G M C2 G2 M2 th n S N a) (nn + 11) (ks + 117) 2155 [(4, .int (nI (4 * j))), (3, .ref ao), (2, .ref (m 0)), (1, .ref q), (0, .ref sb)] []) : jk_J Γ E (lw_w E q b1 b2 ao m O C G M C2 G2 M2 th n S N a) nn ks 1975 [(4, .int (nI (4 * j))), (3, .ref ao), (2, .ref (m 0)), (1, .ref q), (0, .ref sb)] [] := by
  have hl := K.2.2.2.2.2.2.2.2.2.2
  refine jk_aload_n K dL_law_1975 rfl 3 rfl ?_
  refine jk_aload_n K dL_law_1976 rfl 4 rfl ?_
  refine jk_iload K dL_law_1977 0 rfl ?_
  refine jk_iconst (x := 1) K dL_law_1979 rfl ?_
  refine jk_iadd K dL_law_1980 ?_
  refine jk_xld (v := xs (4 * j + 1)) K XL dL_law_1981 (lw_i hj hL (c := 1) (by decide)).1 (congrArg xs (lw_i hj hL (c := 1) (by decide)).2) ?_
  refine jk_aload_n K dL_law_1982 rfl 1 rfl ?_
  refine jk_ws (ws' := (hb_v1 E q b1 b2 (hb_o E ao O :: (hm_MW E m th (nI n) S N a ++ [])) C G M C2 G2 M2)) lw_eq.symm ?_
  refine jk_cSiH K (n' := (nn + 1)) (k' := (ks + 6)) [.ref q, .int (xs (4 * j + 1)), .ref ao] [] dL_law_1983 (hb_L_burningAfter _ hl E q b1 b2 ao O (hm_MW E m th (nI n) S N a ++ []) C G M C2 G2 M2 n R.1 R.2.2.1.1 (xs (4 * j + 1))) gL_law_L_burningAfter rfl kd_L_burningAfter ⟨Nat.le_of_ble_eq_true rfl, Nat.le_of_ble_eq_true rfl⟩ (Nat.le_of_ble_eq_true rfl) ⟨rfl, rfl⟩ ⟨(by show _ ≤ 601024; omega), (by show _ ≤ 7293034; omega)⟩ rfl (fun u hu => ?_)
  rcases u with u | k
  · refine jk_ws (ws' := (lw_w E q b1 b2 ao m (vp_updL O 0 (Int32.toInt64 (hb_burn (hb_pm (hb_cpC C2 C 10) (hb_cpG G2 G) (hb_cpM M2 M 10) n u.1).1 n))) C G M u.2.1 u.2.2.1 u.2.2.2 th n S N a)) lw_eq ?_
    refine jk_st (st' := [.int 0]) rfl ?_
    refine jk_istore (lv' := [(5, .int 0), (4, .int (nI (4 * j))), (3, .ref ao), (2, .ref (m 0)), (1, .ref q), (0, .ref sb)]) K dL_law_1986 (by decide) rfl ?_
    refine jk_aload_n K dL_law_1988 rfl 3 rfl ?_
    refine jk_aload_n K dL_law_1989 rfl 5 rfl ?_
    refine jk_iload K dL_law_1990 1 rfl ?_
    refine jk_iconst (x := 1) K dL_law_1992 rfl ?_
    refine jk_iadd K dL_law_1993 ?_
    refine jk_xld (v := xs (4 * j + 1)) K XL dL_law_1994 (lw_i hj hL (c := 1) (by decide)).1 (congrArg xs (lw_i hj hL (c := 1) (by decide)).2) ?_
    refine jk_cVi K (n' := (nn + 1)) (k' := (ks + 6)) [.int (xs (4 * j + 1))] [] dL_law_1995 (hb_X3_burningAfter _ hl E (hb_v1 E q b1 b2 [hb_o E ao (vp_updL O 0 (Int32.toInt64 (hb_burn (hb_pm (hb_cpC C2 C 10) (hb_cpG G2 G) (hb_cpM M2 M 10) n u.1).1 n)))] C G M u.2.1 u.2.2.1 u.2.2.2) [] m th S N a n R.1 (xs (4 * j + 1)) (hm_R_so R)) gL_law_X3_burningAfter rfl kd_X3_burningAfter ⟨Nat.le_of_ble_eq_true rfl, Nat.le_of_ble_eq_true rfl⟩ _ hm_x0 rfl (Nat.le_of_ble_eq_true rfl) ⟨rfl, rfl⟩ ⟨(by show _ ≤ 601024; omega), (by show _ ≤ 7293034; omega)⟩ rfl (fun v hv => ?_)
    obtain ⟨e1, e2, R2⟩ := lp_burningAfter_ok (C2 := C2) (G2 := G2) (M2 := M2) (u := u) (v := v) R hu hv
    refine jk_ws (ws' := (lw_w E q b1 b2 ao m (vp_updL O 0 (Int32.toInt64 (hb_burn (hb_pm (hb_cpC C2 C 10) (hb_cpG G2 G) (hb_cpM M2 M 10) n u.1).1 n))) C G M u.2.1 u.2.2.1 u.2.2.2 v.1 n S N (va_up (va_up a 7 v.2.2.1) 8 v.2.2.2))) rfl ?_
    refine jk_st (st' := [.int (hb_burn (hb_pm (hb_cpC C2 C 10) (hb_cpG G2 G) (hb_cpM M2 M 10) n u.1).1 n)]) (by rw [e2]) ?_
    refine jk_istore (lv' := [(6, .int (hb_burn (hb_pm (hb_cpC C2 C 10) (hb_cpG G2 G) (hb_cpM M2 M 10) n u.1).1 n)), (5, .int 0), (4, .int (nI (4 * j))), (3, .ref ao), (2, .ref (m 0)), (1, .ref q), (0, .ref sb)]) K dL_law_1998 (by decide) rfl ?_
    refine jk_aload_n K dL_law_2000 rfl 4 rfl ?_
    refine jk_cVi K (n' := (nn + 1)) (k' := (ks + 6)) [] [] dL_law_2001 (hb_X3_thrown _ hl E (hb_v1 E q b1 b2 [hb_o E ao (vp_updL O 0 (Int32.toInt64 (hb_burn (hb_pm (hb_cpC C2 C 10) (hb_cpG G2 G) (hb_cpM M2 M 10) n u.1).1 n)))] C G M u.2.1 u.2.2.1 u.2.2.2) [] m v.1 S N (va_up (va_up a 7 v.2.2.1) 8 v.2.2.2) n R2.1) gL_law_X3_thrown rfl kd_X3_thrown ⟨Nat.le_of_ble_eq_true rfl, Nat.le_of_ble_eq_true rfl⟩ _ hm_x0 rfl (Nat.le_of_ble_eq_true rfl) ⟨rfl, rfl⟩ ⟨(by show _ ≤ 601024; omega), (by show _ ≤ 7293034; omega)⟩ rfl (fun _ _ => ?_)
    refine jk_st (st' := [.int 0]) (by rw [e1]) ?_
    refine jk_iload K dL_law_2004 1 rfl ?_
    refine jk_icmp_eq (tgt := 2011) K dL_law_2006 rfl (fun c_2006 => ?_) (fun c_2006 => ?_)
    · refine jk_iload K dL_law_2011 1 rfl ?_
      refine jk_if_ne (tgt := 2028) K dL_law_2013 rfl (fun c_2013 => ?_) (fun c_2013 => ?_)
      · exact absurd (by decide) c_2013
      · refine jk_aload_n K dL_law_2016 rfl 3 rfl ?_
        refine jk_iconst (x := 0) K dL_law_2017 rfl ?_
        refine jk_lald (v := (Int32.toInt64 (hb_burn (hb_pm (hb_cpC C2 C 10) (hb_cpG G2 G) (hb_cpM M2 M 10) n u.1).1 n))) K dL_law_2018 29 lw_out (vp_in_nI (n := 0) (by decide) (by decide)) (by rw [show Int32.toNatClampNeg 0 = 0 from by decide]; exact if_pos rfl) ?_
        refine jk_iload K dL_law_2019 0 rfl ?_
        refine jk_i2l K dL_law_2021 ?_
        refine jk_lcmp K dL_law_2022 ?_
        refine jk_st (st' := [.int 0]) (by rw [lg_self]) ?_
        refine jk_if_eq (tgt := 2028) K dL_law_2023 rfl (fun c_2023 => ?_) (fun c_2023 => ?_)
        · refine jk_goto (tgt := 2155) K dL_law_2028 rfl ?_
          refine jk_sub (lv' := [(4, .int (nI (4 * j))), (3, .ref ao), (2, .ref (m 0)), (1, .ref q), (0, .ref sb)]) [2, 3, 4, 5, 6] rfl ?_
          refine jk_wide (n' := nn + 11) (k' := ks + 117) (by omega) (by omega) ?_
          exact kk _ _ _ _ _ _ _ _ _ _ _ _ R2
        · exact absurd (by decide) c_2023
    · exact absurd (by decide) c_2006
  · refine jk_ws (ws' := (lw_w E q b1 b2 ao m O C G M C2 G2 M2 th n S N a)) lw_eq ?_
    refine jk_st (st' := [.int k]) rfl ?_
    refine jk_istore (lv' := [(5, .int k), (4, .int (nI (4 * j))), (3, .ref ao), (2, .ref (m 0)), (1, .ref q), (0, .ref sb)]) K dL_law_1986 (by decide) rfl ?_
    refine jk_aload_n K dL_law_1988 rfl 3 rfl ?_
    refine jk_aload_n K dL_law_1989 rfl 5 rfl ?_
    refine jk_iload K dL_law_1990 1 rfl ?_
    refine jk_iconst (x := 1) K dL_law_1992 rfl ?_
    refine jk_iadd K dL_law_1993 ?_
    refine jk_xld (v := xs (4 * j + 1)) K XL dL_law_1994 (lw_i hj hL (c := 1) (by decide)).1 (congrArg xs (lw_i hj hL (c := 1) (by decide)).2) ?_
    refine jk_cVi K (n' := (nn + 1)) (k' := (ks + 6)) [.int (xs (4 * j + 1))] [] dL_law_1995 (hb_X3_burningAfter _ hl E (hb_v1 E q b1 b2 [hb_o E ao O] C G M C2 G2 M2) [] m th S N a n R.1 (xs (4 * j + 1)) (hm_R_so R)) gL_law_X3_burningAfter rfl kd_X3_burningAfter ⟨Nat.le_of_ble_eq_true rfl, Nat.le_of_ble_eq_true rfl⟩ _ hm_x0 rfl (Nat.le_of_ble_eq_true rfl) ⟨rfl, rfl⟩ ⟨(by show _ ≤ 601024; omega), (by show _ ≤ 7293034; omega)⟩ rfl (fun v hv => ?_)
    obtain ⟨e1, ek, R2⟩ := lp_burningAfter_no (k := k) (v := v) R hu hv
    refine jk_ws (ws' := (lw_w E q b1 b2 ao m O C G M C2 G2 M2 v.1 n S N (va_up (va_up a 7 v.2.2.1) 8 v.2.2.2))) rfl ?_
    refine jk_st (st' := [.int v.2.1]) rfl ?_
    refine jk_istore (lv' := [(6, .int v.2.1), (5, .int k), (4, .int (nI (4 * j))), (3, .ref ao), (2, .ref (m 0)), (1, .ref q), (0, .ref sb)]) K dL_law_1998 (by decide) rfl ?_
    refine jk_aload_n K dL_law_2000 rfl 4 rfl ?_
    refine jk_cVi K (n' := (nn + 1)) (k' := (ks + 6)) [] [] dL_law_2001 (hb_X3_thrown _ hl E (hb_v1 E q b1 b2 [hb_o E ao O] C G M C2 G2 M2) [] m v.1 S N (va_up (va_up a 7 v.2.2.1) 8 v.2.2.2) n R2.1) gL_law_X3_thrown rfl kd_X3_thrown ⟨Nat.le_of_ble_eq_true rfl, Nat.le_of_ble_eq_true rfl⟩ _ hm_x0 rfl (Nat.le_of_ble_eq_true rfl) ⟨rfl, rfl⟩ ⟨(by show _ ≤ 601024; omega), (by show _ ≤ 7293034; omega)⟩ rfl (fun _ _ => ?_)
    refine jk_st (st' := [.int k]) (by rw [e1]) ?_
    refine jk_iload K dL_law_2004 1 rfl ?_
    refine jk_icmp_eq (tgt := 2011) K dL_law_2006 rfl (fun c_2006 => ?_) (fun c_2006 => ?_)
    · refine jk_iload K dL_law_2011 1 rfl ?_
      refine jk_if_ne (tgt := 2028) K dL_law_2013 rfl (fun c_2013 => ?_) (fun c_2013 => ?_)
      · refine jk_goto (tgt := 2155) K dL_law_2028 rfl ?_
        refine jk_sub (lv' := [(4, .int (nI (4 * j))), (3, .ref ao), (2, .ref (m 0)), (1, .ref q), (0, .ref sb)]) [2, 3, 4, 5, 6] rfl ?_
        refine jk_wide (n' := nn + 11) (k' := ks + 117) (by omega) (by omega) ?_
        exact kk _ _ _ _ _ _ _ _ _ _ _ _ R2
      · exact absurd c_2013 ek
    · exact absurd rfl c_2006
set_option maxHeartbeats 4000000 in
set_option maxRecDepth 100000 in
theorem lw_c35 {Γ : jk_G} {E : jk_T} (K : jk_C Γ E RL cL_law 9 wsL_law ({ frames := 13, cells := 601024, slots := 7293034, locals := 468 } : Room)) {sb L : Nat} {xs : Nat → Int32} (XL : jk_LX Γ sb L xs) (hL : L ≤ 2048) {j : Nat} (hj : 4 * j + 3 < L) {nn ks : Nat} (hnn : nn + 11 ≤ 601024) (hks : ks + 117 ≤ 7293034) {q : Nat} {b1 b2 : Nat → Nat} {ao : Nat} {m : Nat → Nat} {O : Nat → Int64} {C : Nat → Nat → Int32} {G M : Nat → Int32} {C2 : Nat → Nat → Int32} {G2 M2 : Nat → Int32} {th : Int32} {n : Nat} {S : Nat → Int32} {N a : Nat → Nat → Int32} (R : hm_R n C G M S N a) (kk : ∀ (O : Nat → Int64) (C : Nat → Nat → Int32) (G M : Nat → Int32) (C2 : Nat → Nat → Int32) (G2 M2 : Nat → Int32) (th : Int32) (n : Nat) (S : Nat → Int32) (N a : Nat → Nat → Int32), hm_R n C G M S N a → jk_J Γ E (lw_w E q b1 b2 ao m O C G M C2 G2 M2 th n S N a) (nn + 11) (ks + 117) 2155 [(4, .int (nI (4 * j))), (3, .ref ao), (2, .ref (m 0)), (1, .ref q), (0, .ref sb)] []) : jk_J Γ E (lw_w E q b1 b2 ao m O C G M C2 G2 M2 th n S N a) nn ks 2031 [(4, .int (nI (4 * j))), (3, .ref ao), (2, .ref (m 0)), (1, .ref q), (0, .ref sb)] [] := by
  have hl := K.2.2.2.2.2.2.2.2.2.2
  refine jk_aload_n K dL_law_2031 rfl 3 rfl ?_
  refine jk_aload_n K dL_law_2032 rfl 4 rfl ?_
  refine jk_iload K dL_law_2033 0 rfl ?_
  refine jk_iconst (x := 1) K dL_law_2035 rfl ?_
  refine jk_iadd K dL_law_2036 ?_
  refine jk_xld (v := xs (4 * j + 1)) K XL dL_law_2037 (lw_i hj hL (c := 1) (by decide)).1 (congrArg xs (lw_i hj hL (c := 1) (by decide)).2) ?_
  refine jk_aload_n K dL_law_2038 rfl 1 rfl ?_
  refine jk_ws (ws' := (hb_v1 E q b1 b2 (hb_o E ao O :: (hm_MW E m th (nI n) S N a ++ [])) C G M C2 G2 M2)) lw_eq.symm ?_
  refine jk_cSiH K (n' := (nn + 2)) (k' := (ks + 12)) [.ref q, .int (xs (4 * j + 1)), .ref ao] [] dL_law_2039 (hb_L_reachOf _ hl E q b1 b2 ao O (hm_MW E m th (nI n) S N a ++ []) C G M C2 G2 M2 n R.1 R.2.2.1.1 (xs (4 * j + 1))) gL_law_L_reachOf rfl kd_L_reachOf ⟨Nat.le_of_ble_eq_true rfl, Nat.le_of_ble_eq_true rfl⟩ (Nat.le_of_ble_eq_true rfl) ⟨rfl, rfl⟩ ⟨(by show _ ≤ 601024; omega), (by show _ ≤ 7293034; omega)⟩ rfl (fun u hu => ?_)
  rcases u with u | k
  · refine jk_ws (ws' := (lw_w E q b1 b2 ao m (vp_updL O 0 (Int32.toInt64 (hb_tr C2 G2 M2 C G M n u.1))) C G M u.2.1 u.2.2.1 u.2.2.2 th n S N a)) lw_eq ?_
    refine jk_st (st' := [.int 0]) rfl ?_
    refine jk_istore (lv' := [(5, .int 0), (4, .int (nI (4 * j))), (3, .ref ao), (2, .ref (m 0)), (1, .ref q), (0, .ref sb)]) K dL_law_2042 (by decide) rfl ?_
    refine jk_aload_n K dL_law_2044 rfl 3 rfl ?_
    refine jk_aload_n K dL_law_2045 rfl 5 rfl ?_
    refine jk_iload K dL_law_2046 1 rfl ?_
    refine jk_iconst (x := 1) K dL_law_2048 rfl ?_
    refine jk_iadd K dL_law_2049 ?_
    refine jk_xld (v := xs (4 * j + 1)) K XL dL_law_2050 (lw_i hj hL (c := 1) (by decide)).1 (congrArg xs (lw_i hj hL (c := 1) (by decide)).2) ?_
    refine jk_cVi K (n' := (nn + 2)) (k' := (ks + 12)) [.int (xs (4 * j + 1))] [] dL_law_2051 (hb_X3_reachOf _ hl E (hb_v1 E q b1 b2 [hb_o E ao (vp_updL O 0 (Int32.toInt64 (hb_tr C2 G2 M2 C G M n u.1)))] C G M u.2.1 u.2.2.1 u.2.2.2) [] m th S N a n R.1 (xs (4 * j + 1)) (hm_R_so R)) gL_law_X3_reachOf rfl kd_X3_reachOf ⟨Nat.le_of_ble_eq_true rfl, Nat.le_of_ble_eq_true rfl⟩ _ hm_x0 rfl (Nat.le_of_ble_eq_true rfl) ⟨rfl, rfl⟩ ⟨(by show _ ≤ 601024; omega), (by show _ ≤ 7293034; omega)⟩ rfl (fun v hv => ?_)
    obtain ⟨e1, e2, R2⟩ := lp_reachOf_ok (C2 := C2) (G2 := G2) (M2 := M2) (u := u) (v := v) R hu hv
    refine jk_ws (ws' := (lw_w E q b1 b2 ao m (vp_updL O 0 (Int32.toInt64 (hb_tr C2 G2 M2 C G M n u.1))) C G M u.2.1 u.2.2.1 u.2.2.2 v.1 n S N (va_up (va_up a 7 v.2.2.1) 8 v.2.2.2))) rfl ?_
    refine jk_st (st' := [.int (hb_tr C2 G2 M2 C G M n u.1)]) (by rw [e2]) ?_
    refine jk_istore (lv' := [(6, .int (hb_tr C2 G2 M2 C G M n u.1)), (5, .int 0), (4, .int (nI (4 * j))), (3, .ref ao), (2, .ref (m 0)), (1, .ref q), (0, .ref sb)]) K dL_law_2054 (by decide) rfl ?_
    refine jk_aload_n K dL_law_2056 rfl 4 rfl ?_
    refine jk_cVi K (n' := (nn + 2)) (k' := (ks + 12)) [] [] dL_law_2057 (hb_X3_thrown _ hl E (hb_v1 E q b1 b2 [hb_o E ao (vp_updL O 0 (Int32.toInt64 (hb_tr C2 G2 M2 C G M n u.1)))] C G M u.2.1 u.2.2.1 u.2.2.2) [] m v.1 S N (va_up (va_up a 7 v.2.2.1) 8 v.2.2.2) n R2.1) gL_law_X3_thrown rfl kd_X3_thrown ⟨Nat.le_of_ble_eq_true rfl, Nat.le_of_ble_eq_true rfl⟩ _ hm_x0 rfl (Nat.le_of_ble_eq_true rfl) ⟨rfl, rfl⟩ ⟨(by show _ ≤ 601024; omega), (by show _ ≤ 7293034; omega)⟩ rfl (fun _ _ => ?_)
    refine jk_st (st' := [.int 0]) (by rw [e1]) ?_
    refine jk_iload K dL_law_2060 1 rfl ?_
    refine jk_icmp_eq (tgt := 2067) K dL_law_2062 rfl (fun c_2062 => ?_) (fun c_2062 => ?_)
    · refine jk_iload K dL_law_2067 1 rfl ?_
      refine jk_if_ne (tgt := 2084) K dL_law_2069 rfl (fun c_2069 => ?_) (fun c_2069 => ?_)
      · exact absurd (by decide) c_2069
      · refine jk_aload_n K dL_law_2072 rfl 3 rfl ?_
        refine jk_iconst (x := 0) K dL_law_2073 rfl ?_
        refine jk_lald (v := (Int32.toInt64 (hb_tr C2 G2 M2 C G M n u.1))) K dL_law_2074 29 lw_out (vp_in_nI (n := 0) (by decide) (by decide)) (by rw [show Int32.toNatClampNeg 0 = 0 from by decide]; exact if_pos rfl) ?_
        refine jk_iload K dL_law_2075 0 rfl ?_
        refine jk_i2l K dL_law_2077 ?_
        refine jk_lcmp K dL_law_2078 ?_
        refine jk_st (st' := [.int 0]) (by rw [lg_self]) ?_
        refine jk_if_eq (tgt := 2084) K dL_law_2079 rfl (fun c_2079 => ?_) (fun c_2079 => ?_)
        · refine jk_goto (tgt := 2155) K dL_law_2084 rfl ?_
          refine jk_sub (lv' := [(4, .int (nI (4 * j))), (3, .ref ao), (2, .ref (m 0)), (1, .ref q), (0, .ref sb)]) [2, 3, 4, 5, 6] rfl ?_
          refine jk_wide (n' := nn + 11) (k' := ks + 117) (by omega) (by omega) ?_
          exact kk _ _ _ _ _ _ _ _ _ _ _ _ R2
        · exact absurd (by decide) c_2079
    · exact absurd (by decide) c_2062
  · refine jk_ws (ws' := (lw_w E q b1 b2 ao m O C G M C2 G2 M2 th n S N a)) lw_eq ?_
    refine jk_st (st' := [.int k]) rfl ?_
    refine jk_istore (lv' := [(5, .int k), (4, .int (nI (4 * j))), (3, .ref ao), (2, .ref (m 0)), (1, .ref q), (0, .ref sb)]) K dL_law_2042 (by decide) rfl ?_
    refine jk_aload_n K dL_law_2044 rfl 3 rfl ?_
    refine jk_aload_n K dL_law_2045 rfl 5 rfl ?_
    refine jk_iload K dL_law_2046 1 rfl ?_
    refine jk_iconst (x := 1) K dL_law_2048 rfl ?_
    refine jk_iadd K dL_law_2049 ?_
    refine jk_xld (v := xs (4 * j + 1)) K XL dL_law_2050 (lw_i hj hL (c := 1) (by decide)).1 (congrArg xs (lw_i hj hL (c := 1) (by decide)).2) ?_
    refine jk_cVi K (n' := (nn + 2)) (k' := (ks + 12)) [.int (xs (4 * j + 1))] [] dL_law_2051 (hb_X3_reachOf _ hl E (hb_v1 E q b1 b2 [hb_o E ao O] C G M C2 G2 M2) [] m th S N a n R.1 (xs (4 * j + 1)) (hm_R_so R)) gL_law_X3_reachOf rfl kd_X3_reachOf ⟨Nat.le_of_ble_eq_true rfl, Nat.le_of_ble_eq_true rfl⟩ _ hm_x0 rfl (Nat.le_of_ble_eq_true rfl) ⟨rfl, rfl⟩ ⟨(by show _ ≤ 601024; omega), (by show _ ≤ 7293034; omega)⟩ rfl (fun v hv => ?_)
    obtain ⟨e1, ek, R2⟩ := lp_reachOf_no (k := k) (v := v) R hu hv
    refine jk_ws (ws' := (lw_w E q b1 b2 ao m O C G M C2 G2 M2 v.1 n S N (va_up (va_up a 7 v.2.2.1) 8 v.2.2.2))) rfl ?_
    refine jk_st (st' := [.int v.2.1]) rfl ?_
    refine jk_istore (lv' := [(6, .int v.2.1), (5, .int k), (4, .int (nI (4 * j))), (3, .ref ao), (2, .ref (m 0)), (1, .ref q), (0, .ref sb)]) K dL_law_2054 (by decide) rfl ?_
    refine jk_aload_n K dL_law_2056 rfl 4 rfl ?_
    refine jk_cVi K (n' := (nn + 2)) (k' := (ks + 12)) [] [] dL_law_2057 (hb_X3_thrown _ hl E (hb_v1 E q b1 b2 [hb_o E ao O] C G M C2 G2 M2) [] m v.1 S N (va_up (va_up a 7 v.2.2.1) 8 v.2.2.2) n R2.1) gL_law_X3_thrown rfl kd_X3_thrown ⟨Nat.le_of_ble_eq_true rfl, Nat.le_of_ble_eq_true rfl⟩ _ hm_x0 rfl (Nat.le_of_ble_eq_true rfl) ⟨rfl, rfl⟩ ⟨(by show _ ≤ 601024; omega), (by show _ ≤ 7293034; omega)⟩ rfl (fun _ _ => ?_)
    refine jk_st (st' := [.int k]) (by rw [e1]) ?_
    refine jk_iload K dL_law_2060 1 rfl ?_
    refine jk_icmp_eq (tgt := 2067) K dL_law_2062 rfl (fun c_2062 => ?_) (fun c_2062 => ?_)
    · refine jk_iload K dL_law_2067 1 rfl ?_
      refine jk_if_ne (tgt := 2084) K dL_law_2069 rfl (fun c_2069 => ?_) (fun c_2069 => ?_)
      · refine jk_goto (tgt := 2155) K dL_law_2084 rfl ?_
        refine jk_sub (lv' := [(4, .int (nI (4 * j))), (3, .ref ao), (2, .ref (m 0)), (1, .ref q), (0, .ref sb)]) [2, 3, 4, 5, 6] rfl ?_
        refine jk_wide (n' := nn + 11) (k' := ks + 117) (by omega) (by omega) ?_
        exact kk _ _ _ _ _ _ _ _ _ _ _ _ R2
      · exact absurd c_2069 ek
    · exact absurd rfl c_2062
