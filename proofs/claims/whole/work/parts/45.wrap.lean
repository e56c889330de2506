theorem kd_X2_addHill : yX2_addHill.cls = RX2 ∧ yX2_addHill.cls ≠ "java/lang/invoke/MethodHandle" ∧ yX2_addHill.cls ≠ "java/lang/invoke/VarHandle" ∧ (parseMethodDescriptor yX2_addHill.desc).map (fun d => d.parameters.length) = some 3 := by decide +kernel
theorem kd_X2_answersTo : yX2_answersTo.cls = RX2 ∧ yX2_answersTo.cls ≠ "java/lang/invoke/MethodHandle" ∧ yX2_answersTo.cls ≠ "java/lang/invoke/VarHandle" ∧ (parseMethodDescriptor yX2_answersTo.desc).map (fun d => d.parameters.length) = some 1 := by decide +kernel
theorem kd_X2_bringWood : yX2_bringWood.cls = RX2 ∧ yX2_bringWood.cls ≠ "java/lang/invoke/MethodHandle" ∧ yX2_bringWood.cls ≠ "java/lang/invoke/VarHandle" ∧ (parseMethodDescriptor yX2_bringWood.desc).map (fun d => d.parameters.length) = some 2 := by decide +kernel
theorem kd_X2_burningAfter : yX2_burningAfter.cls = RX2 ∧ yX2_burningAfter.cls ≠ "java/lang/invoke/MethodHandle" ∧ yX2_burningAfter.cls ≠ "java/lang/invoke/VarHandle" ∧ (parseMethodDescriptor yX2_burningAfter.desc).map (fun d => d.parameters.length) = some 1 := by decide +kernel
theorem kd_X2_canSee : yX2_canSee.cls = RX2 ∧ yX2_canSee.cls ≠ "java/lang/invoke/MethodHandle" ∧ yX2_canSee.cls ≠ "java/lang/invoke/VarHandle" ∧ (parseMethodDescriptor yX2_canSee.desc).map (fun d => d.parameters.length) = some 2 := by decide +kernel
theorem kd_X2_dampOf : yX2_dampOf.cls = RX2 ∧ yX2_dampOf.cls ≠ "java/lang/invoke/MethodHandle" ∧ yX2_dampOf.cls ≠ "java/lang/invoke/VarHandle" ∧ (parseMethodDescriptor yX2_dampOf.desc).map (fun d => d.parameters.length) = some 1 := by decide +kernel
theorem kd_X2_douse : yX2_douse.cls = RX2 ∧ yX2_douse.cls ≠ "java/lang/invoke/MethodHandle" ∧ yX2_douse.cls ≠ "java/lang/invoke/VarHandle" ∧ (parseMethodDescriptor yX2_douse.desc).map (fun d => d.parameters.length) = some 1 := by decide +kernel
theorem kd_X2_fewestSteps : yX2_fewestSteps.cls = RX2 ∧ yX2_fewestSteps.cls ≠ "java/lang/invoke/MethodHandle" ∧ yX2_fewestSteps.cls ≠ "java/lang/invoke/VarHandle" ∧ (parseMethodDescriptor yX2_fewestSteps.desc).map (fun d => d.parameters.length) = some 2 := by decide +kernel
theorem kd_X2_glow : yX2_glow.cls = RX2 ∧ yX2_glow.cls ≠ "java/lang/invoke/MethodHandle" ∧ yX2_glow.cls ≠ "java/lang/invoke/VarHandle" ∧ (parseMethodDescriptor yX2_glow.desc).map (fun d => d.parameters.length) = some 1 := by decide +kernel
theorem kd_X2_isBurning : yX2_isBurning.cls = RX2 ∧ yX2_isBurning.cls ≠ "java/lang/invoke/MethodHandle" ∧ yX2_isBurning.cls ≠ "java/lang/invoke/VarHandle" ∧ (parseMethodDescriptor yX2_isBurning.desc).map (fun d => d.parameters.length) = some 1 := by decide +kernel
theorem kd_X2_isDark : yX2_isDark.cls = RX2 ∧ yX2_isDark.cls ≠ "java/lang/invoke/MethodHandle" ∧ yX2_isDark.cls ≠ "java/lang/invoke/VarHandle" ∧ (parseMethodDescriptor yX2_isDark.desc).map (fun d => d.parameters.length) = some 1 := by decide +kernel
theorem kd_X2_isMistaken : yX2_isMistaken.cls = RX2 ∧ yX2_isMistaken.cls ≠ "java/lang/invoke/MethodHandle" ∧ yX2_isMistaken.cls ≠ "java/lang/invoke/VarHandle" ∧ (parseMethodDescriptor yX2_isMistaken.desc).map (fun d => d.parameters.length) = some 1 := by decide +kernel
theorem kd_X2_isPost : yX2_isPost.cls = RX2 ∧ yX2_isPost.cls ≠ "java/lang/invoke/MethodHandle" ∧ yX2_isPost.cls ≠ "java/lang/invoke/VarHandle" ∧ (parseMethodDescriptor yX2_isPost.desc).map (fun d => d.parameters.length) = some 1 := by decide +kernel
theorem kd_X2_light : yX2_light.cls = RX2 ∧ yX2_light.cls ≠ "java/lang/invoke/MethodHandle" ∧ yX2_light.cls ≠ "java/lang/invoke/VarHandle" ∧ (parseMethodDescriptor yX2_light.desc).map (fun d => d.parameters.length) = some 1 := by decide +kernel
theorem kd_X2_lookingFor : yX2_lookingFor.cls = RX2 ∧ yX2_lookingFor.cls ≠ "java/lang/invoke/MethodHandle" ∧ yX2_lookingFor.cls ≠ "java/lang/invoke/VarHandle" ∧ (parseMethodDescriptor yX2_lookingFor.desc).map (fun d => d.parameters.length) = some 1 := by decide +kernel
theorem kd_X2_looksEast : yX2_looksEast.cls = RX2 ∧ yX2_looksEast.cls ≠ "java/lang/invoke/MethodHandle" ∧ yX2_looksEast.cls ≠ "java/lang/invoke/VarHandle" ∧ (parseMethodDescriptor yX2_looksEast.desc).map (fun d => d.parameters.length) = some 1 := by decide +kernel
theorem kd_X2_milesBetween : yX2_milesBetween.cls = RX2 ∧ yX2_milesBetween.cls ≠ "java/lang/invoke/MethodHandle" ∧ yX2_milesBetween.cls ≠ "java/lang/invoke/VarHandle" ∧ (parseMethodDescriptor yX2_milesBetween.desc).map (fun d => d.parameters.length) = some 2 := by decide +kernel
theorem kd_X2_minutesToBurn : yX2_minutesToBurn.cls = RX2 ∧ yX2_minutesToBurn.cls ≠ "java/lang/invoke/MethodHandle" ∧ yX2_minutesToBurn.cls ≠ "java/lang/invoke/VarHandle" ∧ (parseMethodDescriptor yX2_minutesToBurn.desc).map (fun d => d.parameters.length) = some 1 := by decide +kernel
theorem kd_X2_minutesUntilBurning : yX2_minutesUntilBurning.cls = RX2 ∧ yX2_minutesUntilBurning.cls ≠ "java/lang/invoke/MethodHandle" ∧ yX2_minutesUntilBurning.cls ≠ "java/lang/invoke/VarHandle" ∧ (parseMethodDescriptor yX2_minutesUntilBurning.desc).map (fun d => d.parameters.length) = some 1 := by decide +kernel
theorem kd_X2_passMinutes : yX2_passMinutes.cls = RX2 ∧ yX2_passMinutes.cls ≠ "java/lang/invoke/MethodHandle" ∧ yX2_passMinutes.cls ≠ "java/lang/invoke/VarHandle" ∧ (parseMethodDescriptor yX2_passMinutes.desc).map (fun d => d.parameters.length) = some 1 := by decide +kernel
theorem kd_X2_reachOf : yX2_reachOf.cls = RX2 ∧ yX2_reachOf.cls ≠ "java/lang/invoke/MethodHandle" ∧ yX2_reachOf.cls ≠ "java/lang/invoke/VarHandle" ∧ (parseMethodDescriptor yX2_reachOf.desc).map (fun d => d.parameters.length) = some 1 := by decide +kernel
theorem kd_X2_setDamp : yX2_setDamp.cls = RX2 ∧ yX2_setDamp.cls ≠ "java/lang/invoke/MethodHandle" ∧ yX2_setDamp.cls ≠ "java/lang/invoke/VarHandle" ∧ (parseMethodDescriptor yX2_setDamp.desc).map (fun d => d.parameters.length) = some 2 := by decide +kernel
theorem kd_X2_setHaze : yX2_setHaze.cls = RX2 ∧ yX2_setHaze.cls ≠ "java/lang/invoke/MethodHandle" ∧ yX2_setHaze.cls ≠ "java/lang/invoke/VarHandle" ∧ (parseMethodDescriptor yX2_setHaze.desc).map (fun d => d.parameters.length) = some 1 := by decide +kernel
theorem kd_X2_setSight : yX2_setSight.cls = RX2 ∧ yX2_setSight.cls ≠ "java/lang/invoke/MethodHandle" ∧ yX2_setSight.cls ≠ "java/lang/invoke/VarHandle" ∧ (parseMethodDescriptor yX2_setSight.desc).map (fun d => d.parameters.length) = some 3 := by decide +kernel
theorem kd_X2_sourceOf : yX2_sourceOf.cls = RX2 ∧ yX2_sourceOf.cls ≠ "java/lang/invoke/MethodHandle" ∧ yX2_sourceOf.cls ≠ "java/lang/invoke/VarHandle" ∧ (parseMethodDescriptor yX2_sourceOf.desc).map (fun d => d.parameters.length) = some 1 := by decide +kernel
theorem kd_X2_turnEast : yX2_turnEast.cls = RX2 ∧ yX2_turnEast.cls ≠ "java/lang/invoke/MethodHandle" ∧ yX2_turnEast.cls ≠ "java/lang/invoke/VarHandle" ∧ (parseMethodDescriptor yX2_turnEast.desc).map (fun d => d.parameters.length) = some 1 := by decide +kernel
theorem kd_X2_turnPost : yX2_turnPost.cls = RX2 ∧ yX2_turnPost.cls ≠ "java/lang/invoke/MethodHandle" ∧ yX2_turnPost.cls ≠ "java/lang/invoke/VarHandle" ∧ (parseMethodDescriptor yX2_turnPost.desc).map (fun d => d.parameters.length) = some 1 := by decide +kernel
theorem kd_X2_watchOf : yX2_watchOf.cls = RX2 ∧ yX2_watchOf.cls ≠ "java/lang/invoke/MethodHandle" ∧ yX2_watchOf.cls ≠ "java/lang/invoke/VarHandle" ∧ (parseMethodDescriptor yX2_watchOf.desc).map (fun d => d.parameters.length) = some 1 := by decide +kernel
theorem kd_X2_woodOf : yX2_woodOf.cls = RX2 ∧ yX2_woodOf.cls ≠ "java/lang/invoke/MethodHandle" ∧ yX2_woodOf.cls ≠ "java/lang/invoke/VarHandle" ∧ (parseMethodDescriptor yX2_woodOf.desc).map (fun d => d.parameters.length) = some 1 := by decide +kernel
set_option maxHeartbeats 4000000 in
set_option maxRecDepth 100000 in
theorem hb_L_addHill (l : Launch) (hl : l.stackTraces = false) (E : jk_T) (q : Nat) (b1 b2 : Nat → Nat) (ao : Nat) (O : Nat → Int64) (Y2 : va_W) (C : Nat → Nat → Int32) (G M : Nat → Int32) (C2 : Nat → Nat → Int32) (G2 M2 : Nat → Int32) (n : Nat) (hn : n ≤ 10) (hg : G 0 = nI n) (x : Int32) (y : Int32) (z : Int32) : jk_Cx l yL_addHill wsL_addHill ({ frames := 8, cells := 4, slots := 24, locals := 135 } : Room) [.ref q, .int x, .int y, .int z, .ref ao] E (hb_v1 E q b1 b2 (hb_o E ao O :: Y2) C G M C2 G2 M2) (fun u : (Unit) ⊕ Int32 => some (.int (hb_wk u))) (hb_el (fun u => (hb_v1 E q b1 b2 (hb_o E ao (vp_updL O 0 (Int32.toInt64 (nI n))) :: Y2) (va_up C n (hb_fu (hb_fu (hb_fu (C n) 0 x) 1 y) 2 z)) (hb_fu G 0 (nI (n + 1))) M C2 G2 M2)) (fun _ => (hb_v1 E q b1 b2 (hb_o E ao O :: Y2) C G M C2 G2 M2))) (hb_ep (fun u => hb_bt x 0 30 ∧ hb_bt y 0 9 ∧ hb_bt z 1 5 ∧ n < 10) (fun k => (k = 1 ∧ ¬ (hb_bt x 0 30 ∧ hb_bt y 0 9 ∧ hb_bt z 1 5)) ∨ (k = 2 ∧ (hb_bt x 0 30 ∧ hb_bt y 0 9 ∧ hb_bt z 1 5) ∧ n = 10))) (fun _ => False) := by
  refine jk_ofH (lv := [(0, .ref q), (1, .int x), (2, .int y), (3, .int z), (4, .ref ao)]) (own := RL) (nm := "addHill") hl (by decide +kernel) rfl (Nat.le_of_ble_eq_true rfl) rfl rfl rfl (fun Γ hΓ K ht hz => ?_)
  subst hΓ
  refine jk_aload K dL_addHill_0 4 rfl ?_
  refine jk_iconst (x := 0) K dL_addHill_2 rfl ?_
  refine jk_aload_n K dL_addHill_3 rfl 0 rfl ?_
  refine jk_iload_n K dL_addHill_4 rfl 1 rfl ?_
  refine jk_iload_n K dL_addHill_5 rfl 2 rfl ?_
  refine jk_iload_n K dL_addHill_6 rfl 3 rfl ?_
  refine jk_cVix K (n' := 4) (k' := 24) [.int x, .int y, .int z] [.int 0, .ref ao] dL_addHill_7 (hb_X2_addHill _ hl E q b1 b2 (hb_o E ao O :: Y2) C G M C2 G2 M2 n hn hg x y z) gL_addHill_X2_addHill rfl kd_X2_addHill ⟨Nat.le_of_ble_eq_true rfl, Nat.le_of_ble_eq_true rfl⟩ 0 hb_ob0 rfl (Nat.le_of_ble_eq_true rfl) ⟨rfl, rfl⟩ ⟨Nat.le_of_ble_eq_true rfl, Nat.le_of_ble_eq_true rfl⟩ rfl ?_ (fun u hu => ?_)
  · intro Ex hx
    rcases hx with ⟨rfl, hx⟩ | ⟨rfl, hx⟩
    · refine jk_catch1 K ht rfl (by decide) (by decide +kernel) (by decide +kernel) rfl (fun qe => ?_)
      refine jk_astore (lv' := [(5, .ref qe), (0, .ref q), (1, .int x), (2, .int y), (3, .int z), (4, .ref ao)]) K dL_addHill_15 (by decide) rfl ?_
      refine jk_iconst (x := 1) K dL_addHill_17 rfl ?_
      exact jk_iret K hz dL_addHill_18 (.inr 1) rfl (Or.inl ⟨rfl, hx⟩) rfl rfl (Nat.le_of_ble_eq_true rfl) (Nat.le_of_ble_eq_true rfl)
    · refine jk_catch2 K ht (by decide) (F := "java/lang/IllegalArgumentException") (by decide +kernel) (by decide +kernel) (by decide +kernel) rfl (by decide) (by decide +kernel) (by decide +kernel) rfl (fun qe => ?_)
      refine jk_astore (lv' := [(5, .ref qe), (0, .ref q), (1, .int x), (2, .int y), (3, .int z), (4, .ref ao)]) K dL_addHill_19 (by decide) rfl ?_
      refine jk_iconst (x := 2) K dL_addHill_21 rfl ?_
      exact jk_iret K hz dL_addHill_22 (.inr 2) rfl (Or.inr ⟨rfl, hx⟩) rfl rfl (Nat.le_of_ble_eq_true rfl) (Nat.le_of_ble_eq_true rfl)
  refine jk_ws (ws' := (hb_v1 E q b1 b2 (hb_o E ao O :: Y2) (va_up C n (hb_fu (hb_fu (hb_fu (C n) 0 x) 1 y) 2 z)) (hb_fu G 0 (nI (n + 1))) M C2 G2 M2)) rfl ?_
  refine jk_st (st' := [.int (nI n), .int 0, .ref ao]) rfl ?_
  refine jk_i2l K dL_addHill_10 ?_
  refine jk_last (w' := (hb_v1 E q b1 b2 (hb_o E ao (vp_updL O 0 (Int32.toInt64 (nI n))) :: Y2) (va_up C n (hb_fu (hb_fu (hb_fu (C n) 0 x) 1 y) 2 z)) (hb_fu G 0 (nI (n + 1))) M C2 G2 M2)) K dL_addHill_11 29 hb_out (vp_in_nI (n := 0) (by decide) (by decide)) (by rw [show Int32.toNatClampNeg 0 = 0 from by decide]; exact hb_outs) ?_
  refine jk_goto (tgt := 23) K dL_addHill_12 rfl ?_
  refine jk_iconst (x := 0) K dL_addHill_23 rfl ?_
  exact jk_iret K hz dL_addHill_24 (.inl u) rfl hu rfl rfl (Nat.le_of_ble_eq_true rfl) (Nat.le_of_ble_eq_true rfl)
set_option maxHeartbeats 4000000 in
set_option maxRecDepth 100000 in
theorem hb_L_setSight (l : Launch) (hl : l.stackTraces = false) (E : jk_T) (q : Nat) (b1 b2 : Nat → Nat) (ao : Nat) (O : Nat → Int64) (Y2 : va_W) (C : Nat → Nat → Int32) (G M : Nat → Int32) (C2 : Nat → Nat → Int32) (G2 M2 : Nat → Int32) (n : Nat) (hn : n ≤ 10) (hg : G 0 = nI n) (x : Int32) (y : Int32) (z : Int32) : jk_Cx l yL_setSight wsL_setSight ({ frames := 8, cells := 4, slots := 24, locals := 136 } : Room) [.ref q, .int x, .int y, .int z, .ref ao] E (hb_v1 E q b1 b2 (hb_o E ao O :: Y2) C G M C2 G2 M2) (fun u : (Nat × Nat) ⊕ Int32 => some (.int (hb_wk u))) (hb_el (fun u => (hb_v1 E q b1 b2 (hb_o E ao (vp_updL O 0 (Int32.toInt64 (M (u.1 * 10 + u.2)))) :: Y2) C G (upd (upd M (u.1 * 10 + u.2) z) (u.2 * 10 + u.1) z) C2 G2 M2)) (fun _ => (hb_v1 E q b1 b2 (hb_o E ao O :: Y2) C G M C2 G2 M2))) (hb_ep (fun u => u.1 < n ∧ u.2 < n ∧ x = nI u.1 ∧ y = nI u.2 ∧ ¬ x = y ∧ hb_bt z 0 20) (fun k => (k = 1 ∧ ¬ (hb_ok n x ∧ hb_ok n y)) ∨ (k = 2 ∧ hb_ok n x ∧ hb_ok n y ∧ (x = y ∨ ¬ hb_bt z 0 20)))) (fun _ => False) := by
  refine jk_ofH (lv := [(0, .ref q), (1, .int x), (2, .int y), (3, .int z), (4, .ref ao)]) (own := RL) (nm := "setSight") hl (by decide +kernel) rfl (Nat.le_of_ble_eq_true rfl) rfl rfl rfl (fun Γ hΓ K ht hz => ?_)
  subst hΓ
  refine jk_aload K dL_setSight_0 4 rfl ?_
  refine jk_iconst (x := 0) K dL_setSight_2 rfl ?_
  refine jk_aload_n K dL_setSight_3 rfl 0 rfl ?_
  refine jk_iload_n K dL_setSight_4 rfl 1 rfl ?_
  refine jk_iload_n K dL_setSight_5 rfl 2 rfl ?_
  refine jk_iload_n K dL_setSight_6 rfl 3 rfl ?_
  refine jk_cVix K (n' := 4) (k' := 24) [.int x, .int y, .int z] [.int 0, .ref ao] dL_setSight_7 (hb_X2_setSight _ hl E q b1 b2 (hb_o E ao O :: Y2) C G M C2 G2 M2 n hn hg x y z) gL_setSight_X2_setSight rfl kd_X2_setSight ⟨Nat.le_of_ble_eq_true rfl, Nat.le_of_ble_eq_true rfl⟩ 0 hb_ob0 rfl (Nat.le_of_ble_eq_true rfl) ⟨rfl, rfl⟩ ⟨Nat.le_of_ble_eq_true rfl, Nat.le_of_ble_eq_true rfl⟩ rfl ?_ (fun u hu => ?_)
  · intro Ex hx
    rcases hx with ⟨rfl, hx⟩ | ⟨rfl, hx⟩
    · refine jk_catch1 K ht rfl (by decide) (by decide +kernel) (by decide +kernel) rfl (fun qe => ?_)
      refine jk_astore (lv' := [(5, .ref qe), (0, .ref q), (1, .int x), (2, .int y), (3, .int z), (4, .ref ao)]) K dL_setSight_15 (by decide) rfl ?_
      refine jk_iconst (x := 1) K dL_setSight_17 rfl ?_
      exact jk_iret K hz dL_setSight_18 (.inr 1) rfl (Or.inl ⟨rfl, hx⟩) rfl rfl (Nat.le_of_ble_eq_true rfl) (Nat.le_of_ble_eq_true rfl)
    · refine jk_catch2 K ht (by decide) (F := "java/lang/IndexOutOfBoundsException") (by decide +kernel) (by decide +kernel) (by decide +kernel) rfl (by decide) (by decide +kernel) (by decide +kernel) rfl (fun qe => ?_)
      refine jk_astore (lv' := [(5, .ref qe), (0, .ref q), (1, .int x), (2, .int y), (3, .int z), (4, .ref ao)]) K dL_setSight_19 (by decide) rfl ?_
      refine jk_iconst (x := 2) K dL_setSight_21 rfl ?_
      exact jk_iret K hz dL_setSight_22 (.inr 2) rfl (Or.inr ⟨rfl, hx⟩) rfl rfl (Nat.le_of_ble_eq_true rfl) (Nat.le_of_ble_eq_true rfl)
  refine jk_ws (ws' := (hb_v1 E q b1 b2 (hb_o E ao O :: Y2) C G (upd (upd M (u.1 * 10 + u.2) z) (u.2 * 10 + u.1) z) C2 G2 M2)) rfl ?_
  refine jk_st (st' := [.int (M (u.1 * 10 + u.2)), .int 0, .ref ao]) rfl ?_
  refine jk_i2l K dL_setSight_10 ?_
  refine jk_last (w' := (hb_v1 E q b1 b2 (hb_o E ao (vp_updL O 0 (Int32.toInt64 (M (u.1 * 10 + u.2)))) :: Y2) C G (upd (upd M (u.1 * 10 + u.2) z) (u.2 * 10 + u.1) z) C2 G2 M2)) K dL_setSight_11 29 hb_out (vp_in_nI (n := 0) (by decide) (by decide)) (by rw [show Int32.toNatClampNeg 0 = 0 from by decide]; exact hb_outs) ?_
  refine jk_goto (tgt := 23) K dL_setSight_12 rfl ?_
  refine jk_iconst (x := 0) K dL_setSight_23 rfl ?_
  exact jk_iret K hz dL_setSight_24 (.inl u) rfl hu rfl rfl (Nat.le_of_ble_eq_true rfl) (Nat.le_of_ble_eq_true rfl)
set_option maxHeartbeats 4000000 in
set_option maxRecDepth 100000 in
theorem hb_L_turnEast (l : Launch) (hl : l.stackTraces = false) (E : jk_T) (q : Nat) (b1 b2 : Nat → Nat) (ao : Nat) (O : Nat → Int64) (Y2 : va_W) (C : Nat → Nat → Int32) (G M : Nat → Int32) (C2 : Nat → Nat → Int32) (G2 M2 : Nat → Int32) (n : Nat) (hn : n ≤ 10) (hg : G 0 = nI n) (x : Int32) : jk_Cx l yL_turnEast wsL_turnEast ({ frames := 9, cells := 1, slots := 6, locals := 154 } : Room) [.ref q, .int x, .ref ao] E (hb_v1 E q b1 b2 (hb_o E ao O :: Y2) C G M C2 G2 M2) (fun u : (Nat) ⊕ Int32 => some (.int (hb_wk u))) (hb_el (fun u => (hb_v1 E q b1 b2 (hb_o E ao (vp_updL O 0 (if (hb_neg (C u 3) : Int32) = 0 then (0 : Int64) else 1)) :: Y2) (va_up C u (hb_fu (C u) 3 (hb_neg (C u 3)))) G M C2 G2 M2)) (fun _ => (hb_v1 E q b1 b2 (hb_o E ao O :: Y2) C G M C2 G2 M2))) (hb_ep (fun u => u < n ∧ x = nI u) (fun k => (k = 1 ∧ ¬ hb_ok n x))) (fun _ => False) := by
  refine jk_ofH (lv := [(0, .ref q), (1, .int x), (2, .ref ao)]) (own := RL) (nm := "turnEast") hl (by decide +kernel) rfl (Nat.le_of_ble_eq_true rfl) rfl rfl rfl (fun Γ hΓ K ht hz => ?_)
  subst hΓ
  refine jk_aload_n K dL_turnEast_0 rfl 2 rfl ?_
  refine jk_iconst (x := 0) K dL_turnEast_1 rfl ?_
  refine jk_aload_n K dL_turnEast_2 rfl 0 rfl ?_
  refine jk_iload_n K dL_turnEast_3 rfl 1 rfl ?_
  refine jk_cVix K (n' := 1) (k' := 6) [.int x] [.int 0, .ref ao] dL_turnEast_4 (hb_X2_turnEast _ hl E q b1 b2 (hb_o E ao O :: Y2) C G M C2 G2 M2 n hn hg x) gL_turnEast_X2_turnEast rfl kd_X2_turnEast ⟨Nat.le_of_ble_eq_true rfl, Nat.le_of_ble_eq_true rfl⟩ 0 hb_ob0 rfl (Nat.le_of_ble_eq_true rfl) ⟨rfl, rfl⟩ ⟨Nat.le_of_ble_eq_true rfl, Nat.le_of_ble_eq_true rfl⟩ rfl ?_ (fun u hu => ?_)
  · intro Ex hx
    rcases hx with ⟨rfl, hx⟩
    · refine jk_catch1 K ht rfl (by decide) (by decide +kernel) (by decide +kernel) rfl (fun qe => ?_)
      refine jk_astore_n (lv' := [(3, .ref qe), (0, .ref q), (1, .int x), (2, .ref ao)]) K dL_turnEast_19 rfl (by decide) rfl ?_
      refine jk_iconst (x := 1) K dL_turnEast_20 rfl ?_
      exact jk_iret K hz dL_turnEast_21 (.inr 1) rfl ⟨rfl, hx⟩ rfl rfl (Nat.le_of_ble_eq_true rfl) (Nat.le_of_ble_eq_true rfl)
  refine jk_ws (ws' := (hb_v1 E q b1 b2 (hb_o E ao O :: Y2) (va_up C u (hb_fu (C u) 3 (hb_neg (C u 3)))) G M C2 G2 M2)) rfl ?_
  refine jk_st (st' := [.int (hb_neg (C u 3)), .int 0, .ref ao]) rfl ?_
  refine jk_if_eq (tgt := 14) K dL_turnEast_7 rfl (fun c_7 => ?_) (fun c_7 => ?_)
  · refine jk_lconst (x := 0) K dL_turnEast_14 rfl ?_
    refine jk_last (w' := (hb_v1 E q b1 b2 (hb_o E ao (vp_updL O 0 0) :: Y2) (va_up C u (hb_fu (C u) 3 (hb_neg (C u 3)))) G M C2 G2 M2)) K dL_turnEast_15 29 hb_out (vp_in_nI (n := 0) (by decide) (by decide)) (by rw [show Int32.toNatClampNeg 0 = 0 from by decide]; exact hb_outs) ?_
    refine jk_goto (tgt := 22) K dL_turnEast_16 rfl ?_
    refine jk_iconst (x := 0) K dL_turnEast_22 rfl ?_
    exact jk_iret K hz dL_turnEast_23 (.inl u) rfl hu (by show _ = (hb_v1 E q b1 b2 (hb_o E ao (vp_updL O 0 (if (hb_neg (C u 3) : Int32) = 0 then (0 : Int64) else 1)) :: Y2) (va_up C u (hb_fu (C u) 3 (hb_neg (C u 3)))) G M C2 G2 M2); rw [if_pos c_7]) rfl (Nat.le_of_ble_eq_true rfl) (Nat.le_of_ble_eq_true rfl)
  · refine jk_lconst (x := 1) K dL_turnEast_10 rfl ?_
    refine jk_goto (tgt := 15) K dL_turnEast_11 rfl ?_
    refine jk_last (w' := (hb_v1 E q b1 b2 (hb_o E ao (vp_updL O 0 1) :: Y2) (va_up C u (hb_fu (C u) 3 (hb_neg (C u 3)))) G M C2 G2 M2)) K dL_turnEast_15 29 hb_out (vp_in_nI (n := 0) (by decide) (by decide)) (by rw [show Int32.toNatClampNeg 0 = 0 from by decide]; exact hb_outs) ?_
    refine jk_goto (tgt := 22) K dL_turnEast_16 rfl ?_
    refine jk_iconst (x := 0) K dL_turnEast_22 rfl ?_
    exact jk_iret K hz dL_turnEast_23 (.inl u) rfl hu (by show _ = (hb_v1 E q b1 b2 (hb_o E ao (vp_updL O 0 (if (hb_neg (C u 3) : Int32) = 0 then (0 : Int64) else 1)) :: Y2) (va_up C u (hb_fu (C u) 3 (hb_neg (C u 3)))) G M C2 G2 M2); rw [if_neg c_7]) rfl (Nat.le_of_ble_eq_true rfl) (Nat.le_of_ble_eq_true rfl)
set_option maxHeartbeats 4000000 in
set_option maxRecDepth 100000 in
theorem hb_L_turnPost (l : Launch) (hl : l.stackTraces = false) (E : jk_T) (q : Nat) (b1 b2 : Nat → Nat) (ao : Nat) (O : Nat → Int64) (Y2 : va_W) (C : Nat → Nat → Int32) (G M : Nat → Int32) (C2 : Nat → Nat → Int32) (G2 M2 : Nat → Int32) (n : Nat) (hn : n ≤ 10) (hg : G 0 = nI n) (x : Int32) : jk_Cx l yL_turnPost wsL_turnPost ({ frames := 9, cells := 1, slots := 6, locals := 154 } : Room) [.ref q, .int x, .ref ao] E (hb_v1 E q b1 b2 (hb_o E ao O :: Y2) C G M C2 G2 M2) (fun u : (Nat) ⊕ Int32 => some (.int (hb_wk u))) (hb_el (fun u => (hb_v1 E q b1 b2 (hb_o E ao (vp_updL O 0 (if (hb_neg (C u 4) : Int32) = 0 then (0 : Int64) else 1)) :: Y2) (va_up C u (hb_fu (C u) 4 (hb_neg (C u 4)))) G M C2 G2 M2)) (fun _ => (hb_v1 E q b1 b2 (hb_o E ao O :: Y2) C G M C2 G2 M2))) (hb_ep (fun u => u < n ∧ x = nI u) (fun k => (k = 1 ∧ ¬ hb_ok n x))) (fun _ => False) := by
  refine jk_ofH (lv := [(0, .ref q), (1, .int x), (2, .ref ao)]) (own := RL) (nm := "turnPost") hl (by decide +kernel) rfl (Nat.le_of_ble_eq_true rfl) rfl rfl rfl (fun Γ hΓ K ht hz => ?_)
  subst hΓ
  refine jk_aload_n K dL_turnPost_0 rfl 2 rfl ?_
  refine jk_iconst (x := 0) K dL_turnPost_1 rfl ?_
  refine jk_aload_n K dL_turnPost_2 rfl 0 rfl ?_
  refine jk_iload_n K dL_turnPost_3 rfl 1 rfl ?_
  refine jk_cVix K (n' := 1) (k' := 6) [.int x] [.int 0, .ref ao] dL_turnPost_4 (hb_X2_turnPost _ hl E q b1 b2 (hb_o E ao O :: Y2) C G M C2 G2 M2 n hn hg x) gL_turnPost_X2_turnPost rfl kd_X2_turnPost ⟨Nat.le_of_ble_eq_true rfl, Nat.le_of_ble_eq_true rfl⟩ 0 hb_ob0 rfl (Nat.le_of_ble_eq_true rfl) ⟨rfl, rfl⟩ ⟨Nat.le_of_ble_eq_true rfl, Nat.le_of_ble_eq_true rfl⟩ rfl ?_ (fun u hu => ?_)
  · intro Ex hx
    rcases hx with ⟨rfl, hx⟩
    · refine jk_catch1 K ht rfl (by decide) (by decide +kernel) (by decide +kernel) rfl (fun qe => ?_)
      refine jk_astore_n (lv' := [(3, .ref qe), (0, .ref q), (1, .int x), (2, .ref ao)]) K dL_turnPost_19 rfl (by decide) rfl ?_
      refine jk_iconst (x := 1) K dL_turnPost_20 rfl ?_
      exact jk_iret K hz dL_turnPost_21 (.inr 1) rfl ⟨rfl, hx⟩ rfl rfl (Nat.le_of_ble_eq_true rfl) (Nat.le_of_ble_eq_true rfl)
  refine jk_ws (ws' := (hb_v1 E q b1 b2 (hb_o E ao O :: Y2) (va_up C u (hb_fu (C u) 4 (hb_neg (C u 4)))) G M C2 G2 M2)) rfl ?_
  refine jk_st (st' := [.int (hb_neg (C u 4)), .int 0, .ref ao]) rfl ?_
  refine jk_if_eq (tgt := 14) K dL_turnPost_7 rfl (fun c_7 => ?_) (fun c_7 => ?_)
  · refine jk_lconst (x := 0) K dL_turnPost_14 rfl ?_
    refine jk_last (w' := (hb_v1 E q b1 b2 (hb_o E ao (vp_updL O 0 0) :: Y2) (va_up C u (hb_fu (C u) 4 (hb_neg (C u 4)))) G M C2 G2 M2)) K dL_turnPost_15 29 hb_out (vp_in_nI (n := 0) (by decide) (by decide)) (by rw [show Int32.toNatClampNeg 0 = 0 from by decide]; exact hb_outs) ?_
    refine jk_goto (tgt := 22) K dL_turnPost_16 rfl ?_
    refine jk_iconst (x := 0) K dL_turnPost_22 rfl ?_
    exact jk_iret K hz dL_turnPost_23 (.inl u) rfl hu (by show _ = (hb_v1 E q b1 b2 (hb_o E ao (vp_updL O 0 (if (hb_neg (C u 4) : Int32) = 0 then (0 : Int64) else 1)) :: Y2) (va_up C u (hb_fu (C u) 4 (hb_neg (C u 4)))) G M C2 G2 M2); rw [if_pos c_7]) rfl (Nat.le_of_ble_eq_true rfl) (Nat.le_of_ble_eq_true rfl)
  · refine jk_lconst (x := 1) K dL_turnPost_10 rfl ?_
    refine jk_goto (tgt := 15) K dL_turnPost_11 rfl ?_
    refine jk_last (w' := (hb_v1 E q b1 b2 (hb_o E ao (vp_updL O 0 1) :: Y2) (va_up C u (hb_fu (C u) 4 (hb_neg (C u 4)))) G M C2 G2 M2)) K dL_turnPost_15 29 hb_out (vp_in_nI (n := 0) (by decide) (by decide)) (by rw [show Int32.toNatClampNeg 0 = 0 from by decide]; exact hb_outs) ?_
    refine jk_goto (tgt := 22) K dL_turnPost_16 rfl ?_
    refine jk_iconst (x := 0) K dL_turnPost_22 rfl ?_
    exact jk_iret K hz dL_turnPost_23 (.inl u) rfl hu (by show _ = (hb_v1 E q b1 b2 (hb_o E ao (vp_updL O 0 (if (hb_neg (C u 4) : Int32) = 0 then (0 : Int64) else 1)) :: Y2) (va_up C u (hb_fu (C u) 4 (hb_neg (C u 4)))) G M C2 G2 M2); rw [if_neg c_7]) rfl (Nat.le_of_ble_eq_true rfl) (Nat.le_of_ble_eq_true rfl)
set_option maxHeartbeats 4000000 in
set_option maxRecDepth 100000 in
theorem hb_L_bringWood (l : Launch) (hl : l.stackTraces = false) (E : jk_T) (q : Nat) (b1 b2 : Nat → Nat) (ao : Nat) (O : Nat → Int64) (Y2 : va_W) (C : Nat → Nat → Int32) (G M : Nat → Int32) (C2 : Nat → Nat → Int32) (G2 M2 : Nat → Int32) (n : Nat) (hn : n ≤ 10) (hg : G 0 = nI n) (x : Int32) (y : Int32) : jk_Cx l yL_bringWood wsL_bringWood ({ frames := 9, cells := 2, slots := 12, locals := 155 } : Room) [.ref q, .int x, .int y, .ref ao] E (hb_v1 E q b1 b2 (hb_o E ao O :: Y2) C G M C2 G2 M2) (fun u : (Nat) ⊕ Int32 => some (.int (hb_wk u))) (hb_el (fun u => (hb_v1 E q b1 b2 (hb_o E ao (vp_updL O 0 (Int32.toInt64 (hb_min (C u 0 + y) 30))) :: Y2) (va_up C u (hb_fu (C u) 0 (hb_min (C u 0 + y) 30))) G M C2 G2 M2)) (fun _ => (hb_v1 E q b1 b2 (hb_o E ao O :: Y2) C G M C2 G2 M2))) (hb_ep (fun u => u < n ∧ x = nI u ∧ hb_bt y 1 30) (fun k => (k = 1 ∧ ¬ hb_ok n x) ∨ (k = 2 ∧ hb_ok n x ∧ ¬ hb_bt y 1 30))) (fun _ => False) := by
  refine jk_ofH (lv := [(0, .ref q), (1, .int x), (2, .int y), (3, .ref ao)]) (own := RL) (nm := "bringWood") hl (by decide +kernel) rfl (Nat.le_of_ble_eq_true rfl) rfl rfl rfl (fun Γ hΓ K ht hz => ?_)
  subst hΓ
  refine jk_aload_n K dL_bringWood_0 rfl 3 rfl ?_
  refine jk_iconst (x := 0) K dL_bringWood_1 rfl ?_
  refine jk_aload_n K dL_bringWood_2 rfl 0 rfl ?_
  refine jk_iload_n K dL_bringWood_3 rfl 1 rfl ?_
  refine jk_iload_n K dL_bringWood_4 rfl 2 rfl ?_
  refine jk_cVix K (n' := 2) (k' := 12) [.int x, .int y] [.int 0, .ref ao] dL_bringWood_5 (hb_X2_bringWood _ hl E q b1 b2 (hb_o E ao O :: Y2) C G M C2 G2 M2 n hn hg x y) gL_bringWood_X2_bringWood rfl kd_X2_bringWood ⟨Nat.le_of_ble_eq_true rfl, Nat.le_of_ble_eq_true rfl⟩ 0 hb_ob0 rfl (Nat.le_of_ble_eq_true rfl) ⟨rfl, rfl⟩ ⟨Nat.le_of_ble_eq_true rfl, Nat.le_of_ble_eq_true rfl⟩ rfl ?_ (fun u hu => ?_)
  · intro Ex hx
    rcases hx with ⟨rfl, hx⟩ | ⟨rfl, hx⟩
    · refine jk_catch1 K ht rfl (by decide) (by decide +kernel) (by decide +kernel) rfl (fun qe => ?_)
      refine jk_astore (lv' := [(4, .ref qe), (0, .ref q), (1, .int x), (2, .int y), (3, .ref ao)]) K dL_bringWood_13 (by decide) rfl ?_
      refine jk_iconst (x := 1) K dL_bringWood_15 rfl ?_
      exact jk_iret K hz dL_bringWood_16 (.inr 1) rfl (Or.inl ⟨rfl, hx⟩) rfl rfl (Nat.le_of_ble_eq_true rfl) (Nat.le_of_ble_eq_true rfl)
    · refine jk_catch2 K ht (by decide) (F := "java/lang/IndexOutOfBoundsException") (by decide +kernel) (by decide +kernel) (by decide +kernel) rfl (by decide) (by decide +kernel) (by decide +kernel) rfl (fun qe => ?_)
      refine jk_astore (lv' := [(4, .ref qe), (0, .ref q), (1, .int x), (2, .int y), (3, .ref ao)]) K dL_bringWood_17 (by decide) rfl ?_
      refine jk_iconst (x := 2) K dL_bringWood_19 rfl ?_
      exact jk_iret K hz dL_bringWood_20 (.inr 2) rfl (Or.inr ⟨rfl, hx⟩) rfl rfl (Nat.le_of_ble_eq_true rfl) (Nat.le_of_ble_eq_true rfl)
  refine jk_ws (ws' := (hb_v1 E q b1 b2 (hb_o E ao O :: Y2) (va_up C u (hb_fu (C u) 0 (hb_min (C u 0 + y) 30))) G M C2 G2 M2)) rfl ?_
  refine jk_st (st' := [.int (hb_min (C u 0 + y) 30), .int 0, .ref ao]) rfl ?_
  refine jk_i2l K dL_bringWood_8 ?_
  refine jk_last (w' := (hb_v1 E q b1 b2 (hb_o E ao (vp_updL O 0 (Int32.toInt64 (hb_min (C u 0 + y) 30))) :: Y2) (va_up C u (hb_fu (C u) 0 (hb_min (C u 0 + y) 30))) G M C2 G2 M2)) K dL_bringWood_9 29 hb_out (vp_in_nI (n := 0) (by decide) (by decide)) (by rw [show Int32.toNatClampNeg 0 = 0 from by decide]; exact hb_outs) ?_
  refine jk_goto (tgt := 21) K dL_bringWood_10 rfl ?_
  refine jk_iconst (x := 0) K dL_bringWood_21 rfl ?_
  exact jk_iret K hz dL_bringWood_22 (.inl u) rfl hu rfl rfl (Nat.le_of_ble_eq_true rfl) (Nat.le_of_ble_eq_true rfl)
set_option maxHeartbeats 4000000 in
set_option maxRecDepth 100000 in
theorem hb_L_setDamp (l : Launch) (hl : l.stackTraces = false) (E : jk_T) (q : Nat) (b1 b2 : Nat → Nat) (ao : Nat) (O : Nat → Int64) (Y2 : va_W) (C : Nat → Nat → Int32) (G M : Nat → Int32) (C2 : Nat → Nat → Int32) (G2 M2 : Nat → Int32) (n : Nat) (hn : n ≤ 10) (hg : G 0 = nI n) (x : Int32) (y : Int32) : jk_Cx l yL_setDamp wsL_setDamp ({ frames := 9, cells := 2, slots := 12, locals := 156 } : Room) [.ref q, .int x, .int y, .ref ao] E (hb_v1 E q b1 b2 (hb_o E ao O :: Y2) C G M C2 G2 M2) (fun u : (Nat) ⊕ Int32 => some (.int (hb_wk u))) (hb_el (fun u => (hb_v1 E q b1 b2 (hb_o E ao (vp_updL O 0 (Int32.toInt64 (C u 1))) :: Y2) (va_up C u (hb_fu (C u) 1 y)) G M C2 G2 M2)) (fun _ => (hb_v1 E q b1 b2 (hb_o E ao O :: Y2) C G M C2 G2 M2))) (hb_ep (fun u => u < n ∧ x = nI u ∧ hb_bt y 0 9) (fun k => (k = 1 ∧ ¬ hb_ok n x) ∨ (k = 2 ∧ hb_ok n x ∧ ¬ hb_bt y 0 9))) (fun _ => False) := by
  refine jk_ofH (lv := [(0, .ref q), (1, .int x), (2, .int y), (3, .ref ao)]) (own := RL) (nm := "setDamp") hl (by decide +kernel) rfl (Nat.le_of_ble_eq_true rfl) rfl rfl rfl (fun Γ hΓ K ht hz => ?_)
  subst hΓ
  refine jk_aload_n K dL_setDamp_0 rfl 3 rfl ?_
  refine jk_iconst (x := 0) K dL_setDamp_1 rfl ?_
  refine jk_aload_n K dL_setDamp_2 rfl 0 rfl ?_
  refine jk_iload_n K dL_setDamp_3 rfl 1 rfl ?_
  refine jk_iload_n K dL_setDamp_4 rfl 2 rfl ?_
  refine jk_cVix K (n' := 2) (k' := 12) [.int x, .int y] [.int 0, .ref ao] dL_setDamp_5 (hb_X2_setDamp _ hl E q b1 b2 (hb_o E ao O :: Y2) C G M C2 G2 M2 n hn hg x y) gL_setDamp_X2_setDamp rfl kd_X2_setDamp ⟨Nat.le_of_ble_eq_true rfl, Nat.le_of_ble_eq_true rfl⟩ 0 hb_ob0 rfl (Nat.le_of_ble_eq_true rfl) ⟨rfl, rfl⟩ ⟨Nat.le_of_ble_eq_true rfl, Nat.le_of_ble_eq_true rfl⟩ rfl ?_ (fun u hu => ?_)
  · intro Ex hx
    rcases hx with ⟨rfl, hx⟩ | ⟨rfl, hx⟩
    · refine jk_catch1 K ht rfl (by decide) (by decide +kernel) (by decide +kernel) rfl (fun qe => ?_)
      refine jk_astore (lv' := [(4, .ref qe), (0, .ref q), (1, .int x), (2, .int y), (3, .ref ao)]) K dL_setDamp_13 (by decide) rfl ?_
      refine jk_iconst (x := 1) K dL_setDamp_15 rfl ?_
      exact jk_iret K hz dL_setDamp_16 (.inr 1) rfl (Or.inl ⟨rfl, hx⟩) rfl rfl (Nat.le_of_ble_eq_true rfl) (Nat.le_of_ble_eq_true rfl)
    · refine jk_catch2 K ht (by decide) (F := "java/lang/IndexOutOfBoundsException") (by decide +kernel) (by decide +kernel) (by decide +kernel) rfl (by decide) (by decide +kernel) (by decide +kernel) rfl (fun qe => ?_)
      refine jk_astore (lv' := [(4, .ref qe), (0, .ref q), (1, .int x), (2, .int y), (3, .ref ao)]) K dL_setDamp_17 (by decide) rfl ?_
      refine jk_iconst (x := 2) K dL_setDamp_19 rfl ?_
      exact jk_iret K hz dL_setDamp_20 (.inr 2) rfl (Or.inr ⟨rfl, hx⟩) rfl rfl (Nat.le_of_ble_eq_true rfl) (Nat.le_of_ble_eq_true rfl)
  refine jk_ws (ws' := (hb_v1 E q b1 b2 (hb_o E ao O :: Y2) (va_up C u (hb_fu (C u) 1 y)) G M C2 G2 M2)) rfl ?_
  refine jk_st (st' := [.int (C u 1), .int 0, .ref ao]) rfl ?_
  refine jk_i2l K dL_setDamp_8 ?_
  refine jk_last (w' := (hb_v1 E q b1 b2 (hb_o E ao (vp_updL O 0 (Int32.toInt64 (C u 1))) :: Y2) (va_up C u (hb_fu (C u) 1 y)) G M C2 G2 M2)) K dL_setDamp_9 29 hb_out (vp_in_nI (n := 0) (by decide) (by decide)) (by rw [show Int32.toNatClampNeg 0 = 0 from by decide]; exact hb_outs) ?_
  refine jk_goto (tgt := 21) K dL_setDamp_10 rfl ?_
  refine jk_iconst (x := 0) K dL_setDamp_21 rfl ?_
  exact jk_iret K hz dL_setDamp_22 (.inl u) rfl hu rfl rfl (Nat.le_of_ble_eq_true rfl) (Nat.le_of_ble_eq_true rfl)
set_option maxHeartbeats 4000000 in
set_option maxRecDepth 100000 in
theorem hb_L_setHaze (l : Launch) (hl : l.stackTraces = false) (E : jk_T) (q : Nat) (b1 b2 : Nat → Nat) (ao : Nat) (O : Nat → Int64) (Y2 : va_W) (C : Nat → Nat → Int32) (G M : Nat → Int32) (C2 : Nat → Nat → Int32) (G2 M2 : Nat → Int32) (n : Nat) (hn : n ≤ 10) (hg : G 0 = nI n) (y : Int32) : jk_Cx l yL_setHaze wsL_setHaze ({ frames := 8, cells := 1, slots := 6, locals := 134 } : Room) [.ref q, .int y, .ref ao] E (hb_v1 E q b1 b2 (hb_o E ao O :: Y2) C G M C2 G2 M2) (fun u : (Unit) ⊕ Int32 => some (.int (hb_wk u))) (hb_el (fun u => (hb_v1 E q b1 b2 (hb_o E ao (vp_updL O 0 (Int32.toInt64 (G 1))) :: Y2) C (hb_fu G 1 y) M C2 G2 M2)) (fun _ => (hb_v1 E q b1 b2 (hb_o E ao O :: Y2) C G M C2 G2 M2))) (hb_ep (fun u => hb_bt y 0 9) (fun k => (k = 1 ∧ ¬ hb_bt y 0 9))) (fun _ => False) := by
  refine jk_ofH (lv := [(0, .ref q), (1, .int y), (2, .ref ao)]) (own := RL) (nm := "setHaze") hl (by decide +kernel) rfl (Nat.le_of_ble_eq_true rfl) rfl rfl rfl (fun Γ hΓ K ht hz => ?_)
  subst hΓ
  refine jk_aload_n K dL_setHaze_0 rfl 2 rfl ?_
  refine jk_iconst (x := 0) K dL_setHaze_1 rfl ?_
  refine jk_aload_n K dL_setHaze_2 rfl 0 rfl ?_
  refine jk_iload_n K dL_setHaze_3 rfl 1 rfl ?_
  refine jk_cVix K (n' := 1) (k' := 6) [.int y] [.int 0, .ref ao] dL_setHaze_4 (hb_X2_setHaze _ hl E q b1 b2 (hb_o E ao O :: Y2) C G M C2 G2 M2 n hn hg y) gL_setHaze_X2_setHaze rfl kd_X2_setHaze ⟨Nat.le_of_ble_eq_true rfl, Nat.le_of_ble_eq_true rfl⟩ 0 hb_ob0 rfl (Nat.le_of_ble_eq_true rfl) ⟨rfl, rfl⟩ ⟨Nat.le_of_ble_eq_true rfl, Nat.le_of_ble_eq_true rfl⟩ rfl ?_ (fun u hu => ?_)
  · intro Ex hx
    rcases hx with ⟨rfl, hx⟩
    · refine jk_catch1 K ht rfl (by decide) (by decide +kernel) (by decide +kernel) rfl (fun qe => ?_)
      refine jk_astore_n (lv' := [(3, .ref qe), (0, .ref q), (1, .int y), (2, .ref ao)]) K dL_setHaze_12 rfl (by decide) rfl ?_
      refine jk_iconst (x := 1) K dL_setHaze_13 rfl ?_
      exact jk_iret K hz dL_setHaze_14 (.inr 1) rfl ⟨rfl, hx⟩ rfl rfl (Nat.le_of_ble_eq_true rfl) (Nat.le_of_ble_eq_true rfl)
  refine jk_ws (ws' := (hb_v1 E q b1 b2 (hb_o E ao O :: Y2) C (hb_fu G 1 y) M C2 G2 M2)) rfl ?_
  refine jk_st (st' := [.int (G 1), .int 0, .ref ao]) rfl ?_
  refine jk_i2l K dL_setHaze_7 ?_
  refine jk_last (w' := (hb_v1 E q b1 b2 (hb_o E ao (vp_updL O 0 (Int32.toInt64 (G 1))) :: Y2) C (hb_fu G 1 y) M C2 G2 M2)) K dL_setHaze_8 29 hb_out (vp_in_nI (n := 0) (by decide) (by decide)) (by rw [show Int32.toNatClampNeg 0 = 0 from by decide]; exact hb_outs) ?_
  refine jk_goto (tgt := 15) K dL_setHaze_9 rfl ?_
  refine jk_iconst (x := 0) K dL_setHaze_15 rfl ?_
  exact jk_iret K hz dL_setHaze_16 (.inl u) rfl hu rfl rfl (Nat.le_of_ble_eq_true rfl) (Nat.le_of_ble_eq_true rfl)
set_option maxHeartbeats 4000000 in
set_option maxRecDepth 100000 in
theorem hb_L_light (l : Launch) (hl : l.stackTraces = false) (E : jk_T) (q : Nat) (b1 b2 : Nat → Nat) (ao : Nat) (O : Nat → Int64) (Y2 : va_W) (C : Nat → Nat → Int32) (G M : Nat → Int32) (C2 : Nat → Nat → Int32) (G2 M2 : Nat → Int32) (n : Nat) (hn : n ≤ 10) (hg : G 0 = nI n) (x : Int32) : jk_Cx l yL_light wsL_light ({ frames := 10, cells := 2, slots := 12, locals := 174 } : Room) [.ref q, .int x, .ref ao] E (hb_v1 E q b1 b2 (hb_o E ao O :: Y2) C G M C2 G2 M2) (fun u : (Nat) ⊕ Int32 => some (.int (hb_wk u))) (hb_el (fun u => (hb_v1 E q b1 b2 (hb_o E ao (vp_updL O 0 (Int32.toInt64 (hb_hC C u u 7))) :: Y2) (hb_hC C u) (hb_kG G (nI u)) M C2 G2 M2)) (fun _ => (hb_v1 E q b1 b2 (hb_o E ao O :: Y2) C G M C2 G2 M2))) (hb_ep (fun u => u < n ∧ x = nI u ∧ ¬ hb_rdy (C u) = 0) (fun k => (k = 1 ∧ ¬ hb_ok n x) ∨ (k = 2 ∧ ∃ i, i < n ∧ x = nI i ∧ hb_rdy (C i) = 0))) (fun _ => False) := by
  refine jk_ofH (lv := [(0, .ref q), (1, .int x), (2, .ref ao)]) (own := RL) (nm := "light") hl (by decide +kernel) rfl (Nat.le_of_ble_eq_true rfl) rfl rfl rfl (fun Γ hΓ K ht hz => ?_)
  subst hΓ
  refine jk_aload_n K dL_light_0 rfl 2 rfl ?_
  refine jk_iconst (x := 0) K dL_light_1 rfl ?_
  refine jk_aload_n K dL_light_2 rfl 0 rfl ?_
  refine jk_iload_n K dL_light_3 rfl 1 rfl ?_
  refine jk_cVix K (n' := 2) (k' := 12) [.int x] [.int 0, .ref ao] dL_light_4 (hb_X2_light _ hl E q b1 b2 (hb_o E ao O :: Y2) C G M C2 G2 M2 n hn hg x) gL_light_X2_light rfl kd_X2_light ⟨Nat.le_of_ble_eq_true rfl, Nat.le_of_ble_eq_true rfl⟩ 0 hb_ob0 rfl (Nat.le_of_ble_eq_true rfl) ⟨rfl, rfl⟩ ⟨Nat.le_of_ble_eq_true rfl, Nat.le_of_ble_eq_true rfl⟩ rfl ?_ (fun u hu => ?_)
  · intro Ex hx
    rcases hx with ⟨rfl, hx⟩ | ⟨rfl, hx⟩
    · refine jk_catch1 K ht rfl (by decide) (by decide +kernel) (by decide +kernel) rfl (fun qe => ?_)
      refine jk_astore_n (lv' := [(3, .ref qe), (0, .ref q), (1, .int x), (2, .ref ao)]) K dL_light_12 rfl (by decide) rfl ?_
      refine jk_iconst (x := 1) K dL_light_13 rfl ?_
      exact jk_iret K hz dL_light_14 (.inr 1) rfl (Or.inl ⟨rfl, hx⟩) rfl rfl (Nat.le_of_ble_eq_true rfl) (Nat.le_of_ble_eq_true rfl)
    · refine jk_catch2 K ht (by decide) (F := "java/lang/IndexOutOfBoundsException") (by decide +kernel) (by decide +kernel) (by decide +kernel) rfl (by decide) (by decide +kernel) (by decide +kernel) rfl (fun qe => ?_)
      refine jk_astore_n (lv' := [(3, .ref qe), (0, .ref q), (1, .int x), (2, .ref ao)]) K dL_light_15 rfl (by decide) rfl ?_
      refine jk_iconst (x := 2) K dL_light_16 rfl ?_
      exact jk_iret K hz dL_light_17 (.inr 2) rfl (Or.inr ⟨rfl, hx⟩) rfl rfl (Nat.le_of_ble_eq_true rfl) (Nat.le_of_ble_eq_true rfl)
  refine jk_ws (ws' := (hb_v1 E q b1 b2 (hb_o E ao O :: Y2) (hb_hC C u) (hb_kG G (nI u)) M C2 G2 M2)) rfl ?_
  refine jk_st (st' := [.int (hb_hC C u u 7), .int 0, .ref ao]) rfl ?_
  refine jk_i2l K dL_light_7 ?_
  refine jk_last (w' := (hb_v1 E q b1 b2 (hb_o E ao (vp_updL O 0 (Int32.toInt64 (hb_hC C u u 7))) :: Y2) (hb_hC C u) (hb_kG G (nI u)) M C2 G2 M2)) K dL_light_8 29 hb_out (vp_in_nI (n := 0) (by decide) (by decide)) (by rw [show Int32.toNatClampNeg 0 = 0 from by decide]; exact hb_outs) ?_
  refine jk_goto (tgt := 18) K dL_light_9 rfl ?_
  refine jk_iconst (x := 0) K dL_light_18 rfl ?_
  exact jk_iret K hz dL_light_19 (.inl u) rfl hu rfl rfl (Nat.le_of_ble_eq_true rfl) (Nat.le_of_ble_eq_true rfl)
set_option maxHeartbeats 4000000 in
set_option maxRecDepth 100000 in
theorem hb_L_douse (l : Launch) (hl : l.stackTraces = false) (E : jk_T) (q : Nat) (b1 b2 : Nat → Nat) (ao : Nat) (O : Nat → Int64) (Y2 : va_W) (C : Nat → Nat → Int32) (G M : Nat → Int32) (C2 : Nat → Nat → Int32) (G2 M2 : Nat → Int32) (n : Nat) (hn : n ≤ 10) (hg : G 0 = nI n) (x : Int32) : jk_Cx l yL_douse wsL_douse ({ frames := 10, cells := 2, slots := 12, locals := 176 } : Room) [.ref q, .int x, .ref ao] E (hb_v1 E q b1 b2 (hb_o E ao O :: Y2) C G M C2 G2 M2) (fun u : (Nat) ⊕ Int32 => some (.int (hb_wk u))) (hb_el (fun u => (hb_v1 E q b1 b2 (hb_o E ao (vp_updL O 0 (Int32.toInt64 (C u 0))) :: Y2) (va_up C u (hb_darkF (C u))) G M C2 G2 M2)) (fun _ => (hb_v1 E q b1 b2 (hb_o E ao O :: Y2) C G M C2 G2 M2))) (hb_ep (fun u => u < n ∧ x = nI u ∧ ¬ C u 5 = 0) (fun k => (k = 1 ∧ ¬ hb_ok n x) ∨ (k = 2 ∧ ∃ i, i < n ∧ x = nI i ∧ C i 5 = 0))) (fun _ => False) := by
  refine jk_ofH (lv := [(0, .ref q), (1, .int x), (2, .ref ao)]) (own := RL) (nm := "douse") hl (by decide +kernel) rfl (Nat.le_of_ble_eq_true rfl) rfl rfl rfl (fun Γ hΓ K ht hz => ?_)
  subst hΓ
  refine jk_aload_n K dL_douse_0 rfl 2 rfl ?_
  refine jk_iconst (x := 0) K dL_douse_1 rfl ?_
  refine jk_aload_n K dL_douse_2 rfl 0 rfl ?_
  refine jk_iload_n K dL_douse_3 rfl 1 rfl ?_
  refine jk_cVix K (n' := 2) (k' := 12) [.int x] [.int 0, .ref ao] dL_douse_4 (hb_X2_douse _ hl E q b1 b2 (hb_o E ao O :: Y2) C G M C2 G2 M2 n hn hg x) gL_douse_X2_douse rfl kd_X2_douse ⟨Nat.le_of_ble_eq_true rfl, Nat.le_of_ble_eq_true rfl⟩ 0 hb_ob0 rfl (Nat.le_of_ble_eq_true rfl) ⟨rfl, rfl⟩ ⟨Nat.le_of_ble_eq_true rfl, Nat.le_of_ble_eq_true rfl⟩ rfl ?_ (fun u hu => ?_)
  · intro Ex hx
    rcases hx with ⟨rfl, hx⟩ | ⟨rfl, hx⟩
    · refine jk_catch1 K ht rfl (by decide) (by decide +kernel) (by decide +kernel) rfl (fun qe => ?_)
      refine jk_astore_n (lv' := [(3, .ref qe), (0, .ref q), (1, .int x), (2, .ref ao)]) K dL_douse_12 rfl (by decide) rfl ?_
      refine jk_iconst (x := 1) K dL_douse_13 rfl ?_
      exact jk_iret K hz dL_douse_14 (.inr 1) rfl (Or.inl ⟨rfl, hx⟩) rfl rfl (Nat.le_of_ble_eq_true rfl) (Nat.le_of_ble_eq_true rfl)
    · refine jk_catch2 K ht (by decide) (F := "java/lang/IndexOutOfBoundsException") (by decide +kernel) (by decide +kernel) (by decide +kernel) rfl (by decide) (by decide +kernel) (by decide +kernel) rfl (fun qe => ?_)
      refine jk_astore_n (lv' := [(3, .ref qe), (0, .ref q), (1, .int x), (2, .ref ao)]) K dL_douse_15 rfl (by decide) rfl ?_
      refine jk_iconst (x := 2) K dL_douse_16 rfl ?_
      exact jk_iret K hz dL_douse_17 (.inr 2) rfl (Or.inr ⟨rfl, hx⟩) rfl rfl (Nat.le_of_ble_eq_true rfl) (Nat.le_of_ble_eq_true rfl)
  refine jk_ws (ws' := (hb_v1 E q b1 b2 (hb_o E ao O :: Y2) (va_up C u (hb_darkF (C u))) G M C2 G2 M2)) rfl ?_
  refine jk_st (st' := [.int (C u 0), .int 0, .ref ao]) rfl ?_
  refine jk_i2l K dL_douse_7 ?_
  refine jk_last (w' := (hb_v1 E q b1 b2 (hb_o E ao (vp_updL O 0 (Int32.toInt64 (C u 0))) :: Y2) (va_up C u (hb_darkF (C u))) G M C2 G2 M2)) K dL_douse_8 29 hb_out (vp_in_nI (n := 0) (by decide) (by decide)) (by rw [show Int32.toNatClampNeg 0 = 0 from by decide]; exact hb_outs) ?_
  refine jk_goto (tgt := 18) K dL_douse_9 rfl ?_
  refine jk_iconst (x := 0) K dL_douse_18 rfl ?_
  exact jk_iret K hz dL_douse_19 (.inl u) rfl hu rfl rfl (Nat.le_of_ble_eq_true rfl) (Nat.le_of_ble_eq_true rfl)
set_option maxHeartbeats 4000000 in
set_option maxRecDepth 100000 in
theorem hb_L_glow (l : Launch) (hl : l.stackTraces = false) (E : jk_T) (q : Nat) (b1 b2 : Nat → Nat) (ao : Nat) (O : Nat → Int64) (Y2 : va_W) (C : Nat → Nat → Int32) (G M : Nat → Int32) (C2 : Nat → Nat → Int32) (G2 M2 : Nat → Int32) (n : Nat) (hn : n ≤ 10) (hg : G 0 = nI n) (y : Int32) : jk_Cx l yL_glow wsL_glow ({ frames := 8, cells := 1, slots := 6, locals := 134 } : Room) [.ref q, .int y, .ref ao] E (hb_v1 E q b1 b2 (hb_o E ao O :: Y2) C G M C2 G2 M2) (fun u : (Unit) ⊕ Int32 => some (.int (hb_wk u))) (hb_el (fun u => (hb_v1 E q b1 b2 (hb_o E ao (vp_updL O 0 (Int32.toInt64 (G 2))) :: Y2) C (hb_fu G 2 y) M C2 G2 M2)) (fun _ => (hb_v1 E q b1 b2 (hb_o E ao O :: Y2) C G M C2 G2 M2))) (hb_ep (fun u => hb_bt y 0 30) (fun k => (k = 1 ∧ ¬ hb_bt y 0 30))) (fun _ => False) := by
  refine jk_ofH (lv := [(0, .ref q), (1, .int y), (2, .ref ao)]) (own := RL) (nm := "glow") hl (by decide +kernel) rfl (Nat.le_of_ble_eq_true rfl) rfl rfl rfl (fun Γ hΓ K ht hz => ?_)
  subst hΓ
  refine jk_aload_n K dL_glow_0 rfl 2 rfl ?_
  refine jk_iconst (x := 0) K dL_glow_1 rfl ?_
  refine jk_aload_n K dL_glow_2 rfl 0 rfl ?_
  refine jk_iload_n K dL_glow_3 rfl 1 rfl ?_
  refine jk_cVix K (n' := 1) (k' := 6) [.int y] [.int 0, .ref ao] dL_glow_4 (hb_X2_glow _ hl E q b1 b2 (hb_o E ao O :: Y2) C G M C2 G2 M2 n hn hg y) gL_glow_X2_glow rfl kd_X2_glow ⟨Nat.le_of_ble_eq_true rfl, Nat.le_of_ble_eq_true rfl⟩ 0 hb_ob0 rfl (Nat.le_of_ble_eq_true rfl) ⟨rfl, rfl⟩ ⟨Nat.le_of_ble_eq_true rfl, Nat.le_of_ble_eq_true rfl⟩ rfl ?_ (fun u hu => ?_)
  · intro Ex hx
    rcases hx with ⟨rfl, hx⟩
    · refine jk_catch1 K ht rfl (by decide) (by decide +kernel) (by decide +kernel) rfl (fun qe => ?_)
      refine jk_astore_n (lv' := [(3, .ref qe), (0, .ref q), (1, .int y), (2, .ref ao)]) K dL_glow_12 rfl (by decide) rfl ?_
      refine jk_iconst (x := 1) K dL_glow_13 rfl ?_
      exact jk_iret K hz dL_glow_14 (.inr 1) rfl ⟨rfl, hx⟩ rfl rfl (Nat.le_of_ble_eq_true rfl) (Nat.le_of_ble_eq_true rfl)
  refine jk_ws (ws' := (hb_v1 E q b1 b2 (hb_o E ao O :: Y2) C (hb_fu G 2 y) M C2 G2 M2)) rfl ?_
  refine jk_st (st' := [.int (G 2), .int 0, .ref ao]) rfl ?_
  refine jk_i2l K dL_glow_7 ?_
  refine jk_last (w' := (hb_v1 E q b1 b2 (hb_o E ao (vp_updL O 0 (Int32.toInt64 (G 2))) :: Y2) C (hb_fu G 2 y) M C2 G2 M2)) K dL_glow_8 29 hb_out (vp_in_nI (n := 0) (by decide) (by decide)) (by rw [show Int32.toNatClampNeg 0 = 0 from by decide]; exact hb_outs) ?_
  refine jk_goto (tgt := 15) K dL_glow_9 rfl ?_
  refine jk_iconst (x := 0) K dL_glow_15 rfl ?_
  exact jk_iret K hz dL_glow_16 (.inl u) rfl hu rfl rfl (Nat.le_of_ble_eq_true rfl) (Nat.le_of_ble_eq_true rfl)
set_option maxHeartbeats 4000000 in
set_option maxRecDepth 100000 in
theorem hb_L_passMinutes (l : Launch) (hl : l.stackTraces = false) (E : jk_T) (q : Nat) (b1 b2 : Nat → Nat) (ao : Nat) (O : Nat → Int64) (Y2 : va_W) (C : Nat → Nat → Int32) (G M : Nat → Int32) (C2 : Nat → Nat → Int32) (G2 M2 : Nat → Int32) (n : Nat) (hn : n ≤ 10) (hg : G 0 = nI n) (x : Int32) : jk_Cx l yL_passMinutes wsL_passMinutes ({ frames := 8, cells := 1, slots := 6, locals := 157 } : Room) [.ref q, .int x, .ref ao] E (hb_v1 E q b1 b2 (hb_o E ao O :: Y2) C G M C2 G2 M2) (fun u : (Nat) ⊕ Int32 => some (.int (hb_wk u))) (hb_el (fun u => (hb_v1 E q b1 b2 (hb_o E ao (vp_updL O 0 (Int32.toInt64 ((hb_pm C G M n u).2 4 - G 4))) :: Y2) (hb_pm C G M n u).1 (hb_pm C G M n u).2 M C2 G2 M2)) (fun _ => (hb_v1 E q b1 b2 (hb_o E ao O :: Y2) C G M C2 G2 M2))) (hb_ep (fun u => 1 ≤ u ∧ u ≤ 100 ∧ x = nI u) (fun k => (k = 1 ∧ ¬ hb_bt x 1 100))) (fun _ => False) := by
  refine jk_ofH (lv := [(0, .ref q), (1, .int x), (2, .ref ao)]) (own := RL) (nm := "passMinutes") hl (by decide +kernel) rfl (Nat.le_of_ble_eq_true rfl) rfl rfl rfl (fun Γ hΓ K ht hz => ?_)
  subst hΓ
  refine jk_aload_n K dL_passMinutes_0 rfl 2 rfl ?_
  refine jk_iconst (x := 0) K dL_passMinutes_1 rfl ?_
  refine jk_aload_n K dL_passMinutes_2 rfl 0 rfl ?_
  refine jk_iload_n K dL_passMinutes_3 rfl 1 rfl ?_
  refine jk_cVix K (n' := 1) (k' := 6) [.int x] [.int 0, .ref ao] dL_passMinutes_4 (hb_X2_passMinutes _ hl E q b1 b2 (hb_o E ao O :: Y2) C G M C2 G2 M2 n hn hg x) gL_passMinutes_X2_passMinutes rfl kd_X2_passMinutes ⟨Nat.le_of_ble_eq_true rfl, Nat.le_of_ble_eq_true rfl⟩ 0 hb_ob0 rfl (Nat.le_of_ble_eq_true rfl) ⟨rfl, rfl⟩ ⟨Nat.le_of_ble_eq_true rfl, Nat.le_of_ble_eq_true rfl⟩ rfl ?_ (fun u hu => ?_)
  · intro Ex hx
    rcases hx with ⟨rfl, hx⟩
    · refine jk_catch1 K ht rfl (by decide) (by decide +kernel) (by decide +kernel) rfl (fun qe => ?_)
      refine jk_astore_n (lv' := [(3, .ref qe), (0, .ref q), (1, .int x), (2, .ref ao)]) K dL_passMinutes_12 rfl (by decide) rfl ?_
      refine jk_iconst (x := 1) K dL_passMinutes_13 rfl ?_
      exact jk_iret K hz dL_passMinutes_14 (.inr 1) rfl ⟨rfl, hx⟩ rfl rfl (Nat.le_of_ble_eq_true rfl) (Nat.le_of_ble_eq_true rfl)
  refine jk_ws (ws' := (hb_v1 E q b1 b2 (hb_o E ao O :: Y2) (hb_pm C G M n u).1 (hb_pm C G M n u).2 M C2 G2 M2)) rfl ?_
  refine jk_st (st' := [.int ((hb_pm C G M n u).2 4 - G 4), .int 0, .ref ao]) rfl ?_
  refine jk_i2l K dL_passMinutes_7 ?_
  refine jk_last (w' := (hb_v1 E q b1 b2 (hb_o E ao (vp_updL O 0 (Int32.toInt64 ((hb_pm C G M n u).2 4 - G 4))) :: Y2) (hb_pm C G M n u).1 (hb_pm C G M n u).2 M C2 G2 M2)) K dL_passMinutes_8 29 hb_out (vp_in_nI (n := 0) (by decide) (by decide)) (by rw [show Int32.toNatClampNeg 0 = 0 from by decide]; exact hb_outs) ?_
  refine jk_goto (tgt := 15) K dL_passMinutes_9 rfl ?_
  refine jk_iconst (x := 0) K dL_passMinutes_15 rfl ?_
  exact jk_iret K hz dL_passMinutes_16 (.inl u) rfl hu rfl rfl (Nat.le_of_ble_eq_true rfl) (Nat.le_of_ble_eq_true rfl)
set_option maxHeartbeats 4000000 in
set_option maxRecDepth 100000 in
theorem hb_L_woodOf (l : Launch) (hl : l.stackTraces = false) (E : jk_T) (q : Nat) (b1 b2 : Nat → Nat) (ao : Nat) (O : Nat → Int64) (Y2 : va_W) (C : Nat → Nat → Int32) (G M : Nat → Int32) (C2 : Nat → Nat → Int32) (G2 M2 : Nat → Int32) (n : Nat) (hn : n ≤ 10) (hg : G 0 = nI n) (x : Int32) : jk_Cx l yL_woodOf wsL_woodOf ({ frames := 9, cells := 1, slots := 6, locals := 153 } : Room) [.ref q, .int x, .ref ao] E (hb_v1 E q b1 b2 (hb_o E ao O :: Y2) C G M C2 G2 M2) (fun u : (Nat) ⊕ Int32 => some (.int (hb_wk u))) (hb_el (fun u => (hb_v1 E q b1 b2 (hb_o E ao (vp_updL O 0 (Int32.toInt64 (C u 0))) :: Y2) C G M C2 G2 M2)) (fun _ => (hb_v1 E q b1 b2 (hb_o E ao O :: Y2) C G M C2 G2 M2))) (hb_ep (fun u => u < n ∧ x = nI u) (fun k => (k = 1 ∧ ¬ hb_ok n x))) (fun _ => False) := by
  refine jk_ofH (lv := [(0, .ref q), (1, .int x), (2, .ref ao)]) (own := RL) (nm := "woodOf") hl (by decide +kernel) rfl (Nat.le_of_ble_eq_true rfl) rfl rfl rfl (fun Γ hΓ K ht hz => ?_)
  subst hΓ
  refine jk_aload_n K dL_woodOf_0 rfl 2 rfl ?_
  refine jk_iconst (x := 0) K dL_woodOf_1 rfl ?_
  refine jk_aload_n K dL_woodOf_2 rfl 0 rfl ?_
  refine jk_iload_n K dL_woodOf_3 rfl 1 rfl ?_
  refine jk_cVix K (n' := 1) (k' := 6) [.int x] [.int 0, .ref ao] dL_woodOf_4 (hb_X2_woodOf _ hl E q b1 b2 (hb_o E ao O :: Y2) C G M C2 G2 M2 n hn hg x) gL_woodOf_X2_woodOf rfl kd_X2_woodOf ⟨Nat.le_of_ble_eq_true rfl, Nat.le_of_ble_eq_true rfl⟩ 0 hb_ob0 rfl (Nat.le_of_ble_eq_true rfl) ⟨rfl, rfl⟩ ⟨Nat.le_of_ble_eq_true rfl, Nat.le_of_ble_eq_true rfl⟩ rfl ?_ (fun u hu => ?_)
  · intro Ex hx
    rcases hx with ⟨rfl, hx⟩
    · refine jk_catch1 K ht rfl (by decide) (by decide +kernel) (by decide +kernel) rfl (fun qe => ?_)
      refine jk_astore_n (lv' := [(3, .ref qe), (0, .ref q), (1, .int x), (2, .ref ao)]) K dL_woodOf_12 rfl (by decide) rfl ?_
      refine jk_iconst (x := 1) K dL_woodOf_13 rfl ?_
      exact jk_iret K hz dL_woodOf_14 (.inr 1) rfl ⟨rfl, hx⟩ rfl rfl (Nat.le_of_ble_eq_true rfl) (Nat.le_of_ble_eq_true rfl)
  refine jk_ws (ws' := (hb_v1 E q b1 b2 (hb_o E ao O :: Y2) C G M C2 G2 M2)) rfl ?_
  refine jk_st (st' := [.int (C u 0), .int 0, .ref ao]) rfl ?_
  refine jk_i2l K dL_woodOf_7 ?_
  refine jk_last (w' := (hb_v1 E q b1 b2 (hb_o E ao (vp_updL O 0 (Int32.toInt64 (C u 0))) :: Y2) C G M C2 G2 M2)) K dL_woodOf_8 29 hb_out (vp_in_nI (n := 0) (by decide) (by decide)) (by rw [show Int32.toNatClampNeg 0 = 0 from by decide]; exact hb_outs) ?_
  refine jk_goto (tgt := 15) K dL_woodOf_9 rfl ?_
  refine jk_iconst (x := 0) K dL_woodOf_15 rfl ?_
  exact jk_iret K hz dL_woodOf_16 (.inl u) rfl hu rfl rfl (Nat.le_of_ble_eq_true rfl) (Nat.le_of_ble_eq_true rfl)
set_option maxHeartbeats 4000000 in
set_option maxRecDepth 100000 in
theorem hb_L_dampOf (l : Launch) (hl : l.stackTraces = false) (E : jk_T) (q : Nat) (b1 b2 : Nat → Nat) (ao : Nat) (O : Nat → Int64) (Y2 : va_W) (C : Nat → Nat → Int32) (G M : Nat → Int32) (C2 : Nat → Nat → Int32) (G2 M2 : Nat → Int32) (n : Nat) (hn : n ≤ 10) (hg : G 0 = nI n) (x : Int32) : jk_Cx l yL_dampOf wsL_dampOf ({ frames := 9, cells := 1, slots := 6, locals := 153 } : Room) [.ref q, .int x, .ref ao] E (hb_v1 E q b1 b2 (hb_o E ao O :: Y2) C G M C2 G2 M2) (fun u : (Nat) ⊕ Int32 => some (.int (hb_wk u))) (hb_el (fun u => (hb_v1 E q b1 b2 (hb_o E ao (vp_updL O 0 (Int32.toInt64 (C u 1))) :: Y2) C G M C2 G2 M2)) (fun _ => (hb_v1 E q b1 b2 (hb_o E ao O :: Y2) C G M C2 G2 M2))) (hb_ep (fun u => u < n ∧ x = nI u) (fun k => (k = 1 ∧ ¬ hb_ok n x))) (fun _ => False) := by
  refine jk_ofH (lv := [(0, .ref q), (1, .int x), (2, .ref ao)]) (own := RL) (nm := "dampOf") hl (by decide +kernel) rfl (Nat.le_of_ble_eq_true rfl) rfl rfl rfl (fun Γ hΓ K ht hz => ?_)
  subst hΓ
  refine jk_aload_n K dL_dampOf_0 rfl 2 rfl ?_
  refine jk_iconst (x := 0) K dL_dampOf_1 rfl ?_
  refine jk_aload_n K dL_dampOf_2 rfl 0 rfl ?_
  refine jk_iload_n K dL_dampOf_3 rfl 1 rfl ?_
  refine jk_cVix K (n' := 1) (k' := 6) [.int x] [.int 0, .ref ao] dL_dampOf_4 (hb_X2_dampOf _ hl E q b1 b2 (hb_o E ao O :: Y2) C G M C2 G2 M2 n hn hg x) gL_dampOf_X2_dampOf rfl kd_X2_dampOf ⟨Nat.le_of_ble_eq_true rfl, Nat.le_of_ble_eq_true rfl⟩ 0 hb_ob0 rfl (Nat.le_of_ble_eq_true rfl) ⟨rfl, rfl⟩ ⟨Nat.le_of_ble_eq_true rfl, Nat.le_of_ble_eq_true rfl⟩ rfl ?_ (fun u hu => ?_)
  · intro Ex hx
    rcases hx with ⟨rfl, hx⟩
    · refine jk_catch1 K ht rfl (by decide) (by decide +kernel) (by decide +kernel) rfl (fun qe => ?_)
      refine jk_astore_n (lv' := [(3, .ref qe), (0, .ref q), (1, .int x), (2, .ref ao)]) K dL_dampOf_12 rfl (by decide) rfl ?_
      refine jk_iconst (x := 1) K dL_dampOf_13 rfl ?_
      exact jk_iret K hz dL_dampOf_14 (.inr 1) rfl ⟨rfl, hx⟩ rfl rfl (Nat.le_of_ble_eq_true rfl) (Nat.le_of_ble_eq_true rfl)
  refine jk_ws (ws' := (hb_v1 E q b1 b2 (hb_o E ao O :: Y2) C G M C2 G2 M2)) rfl ?_
  refine jk_st (st' := [.int (C u 1), .int 0, .ref ao]) rfl ?_
  refine jk_i2l K dL_dampOf_7 ?_
  refine jk_last (w' := (hb_v1 E q b1 b2 (hb_o E ao (vp_updL O 0 (Int32.toInt64 (C u 1))) :: Y2) C G M C2 G2 M2)) K dL_dampOf_8 29 hb_out (vp_in_nI (n := 0) (by decide) (by decide)) (by rw [show Int32.toNatClampNeg 0 = 0 from by decide]; exact hb_outs) ?_
  refine jk_goto (tgt := 15) K dL_dampOf_9 rfl ?_
  refine jk_iconst (x := 0) K dL_dampOf_15 rfl ?_
  exact jk_iret K hz dL_dampOf_16 (.inl u) rfl hu rfl rfl (Nat.le_of_ble_eq_true rfl) (Nat.le_of_ble_eq_true rfl)
set_option maxHeartbeats 4000000 in
set_option maxRecDepth 100000 in
theorem hb_L_watchOf (l : Launch) (hl : l.stackTraces = false) (E : jk_T) (q : Nat) (b1 b2 : Nat → Nat) (ao : Nat) (O : Nat → Int64) (Y2 : va_W) (C : Nat → Nat → Int32) (G M : Nat → Int32) (C2 : Nat → Nat → Int32) (G2 M2 : Nat → Int32) (n : Nat) (hn : n ≤ 10) (hg : G 0 = nI n) (x : Int32) : jk_Cx l yL_watchOf wsL_watchOf ({ frames := 9, cells := 1, slots := 6, locals := 153 } : Room) [.ref q, .int x, .ref ao] E (hb_v1 E q b1 b2 (hb_o E ao O :: Y2) C G M C2 G2 M2) (fun u : (Nat) ⊕ Int32 => some (.int (hb_wk u))) (hb_el (fun u => (hb_v1 E q b1 b2 (hb_o E ao (vp_updL O 0 (Int32.toInt64 (C u 2))) :: Y2) C G M C2 G2 M2)) (fun _ => (hb_v1 E q b1 b2 (hb_o E ao O :: Y2) C G M C2 G2 M2))) (hb_ep (fun u => u < n ∧ x = nI u) (fun k => (k = 1 ∧ ¬ hb_ok n x))) (fun _ => False) := by
  refine jk_ofH (lv := [(0, .ref q), (1, .int x), (2, .ref ao)]) (own := RL) (nm := "watchOf") hl (by decide +kernel) rfl (Nat.le_of_ble_eq_true rfl) rfl rfl rfl (fun Γ hΓ K ht hz => ?_)
  subst hΓ
  refine jk_aload_n K dL_watchOf_0 rfl 2 rfl ?_
  refine jk_iconst (x := 0) K dL_watchOf_1 rfl ?_
  refine jk_aload_n K dL_watchOf_2 rfl 0 rfl ?_
  refine jk_iload_n K dL_watchOf_3 rfl 1 rfl ?_
  refine jk_cVix K (n' := 1) (k' := 6) [.int x] [.int 0, .ref ao] dL_watchOf_4 (hb_X2_watchOf _ hl E q b1 b2 (hb_o E ao O :: Y2) C G M C2 G2 M2 n hn hg x) gL_watchOf_X2_watchOf rfl kd_X2_watchOf ⟨Nat.le_of_ble_eq_true rfl, Nat.le_of_ble_eq_true rfl⟩ 0 hb_ob0 rfl (Nat.le_of_ble_eq_true rfl) ⟨rfl, rfl⟩ ⟨Nat.le_of_ble_eq_true rfl, Nat.le_of_ble_eq_true rfl⟩ rfl ?_ (fun u hu => ?_)
  · intro Ex hx
    rcases hx with ⟨rfl, hx⟩
    · refine jk_catch1 K ht rfl (by decide) (by decide +kernel) (by decide +kernel) rfl (fun qe => ?_)
      refine jk_astore_n (lv' := [(3, .ref qe), (0, .ref q), (1, .int x), (2, .ref ao)]) K dL_watchOf_12 rfl (by decide) rfl ?_
      refine jk_iconst (x := 1) K dL_watchOf_13 rfl ?_
      exact jk_iret K hz dL_watchOf_14 (.inr 1) rfl ⟨rfl, hx⟩ rfl rfl (Nat.le_of_ble_eq_true rfl) (Nat.le_of_ble_eq_true rfl)
  refine jk_ws (ws' := (hb_v1 E q b1 b2 (hb_o E ao O :: Y2) C G M C2 G2 M2)) rfl ?_
  refine jk_st (st' := [.int (C u 2), .int 0, .ref ao]) rfl ?_
  refine jk_i2l K dL_watchOf_7 ?_
  refine jk_last (w' := (hb_v1 E q b1 b2 (hb_o E ao (vp_updL O 0 (Int32.toInt64 (C u 2))) :: Y2) C G M C2 G2 M2)) K dL_watchOf_8 29 hb_out (vp_in_nI (n := 0) (by decide) (by decide)) (by rw [show Int32.toNatClampNeg 0 = 0 from by decide]; exact hb_outs) ?_
  refine jk_goto (tgt := 15) K dL_watchOf_9 rfl ?_
  refine jk_iconst (x := 0) K dL_watchOf_15 rfl ?_
  exact jk_iret K hz dL_watchOf_16 (.inl u) rfl hu rfl rfl (Nat.le_of_ble_eq_true rfl) (Nat.le_of_ble_eq_true rfl)
set_option maxHeartbeats 4000000 in
set_option maxRecDepth 100000 in
theorem hb_L_looksEast (l : Launch) (hl : l.stackTraces = false) (E : jk_T) (q : Nat) (b1 b2 : Nat → Nat) (ao : Nat) (O : Nat → Int64) (Y2 : va_W) (C : Nat → Nat → Int32) (G M : Nat → Int32) (C2 : Nat → Nat → Int32) (G2 M2 : Nat → Int32) (n : Nat) (hn : n ≤ 10) (hg : G 0 = nI n) (x : Int32) : jk_Cx l yL_looksEast wsL_looksEast ({ frames := 9, cells := 1, slots := 6, locals := 153 } : Room) [.ref q, .int x, .ref ao] E (hb_v1 E q b1 b2 (hb_o E ao O :: Y2) C G M C2 G2 M2) (fun u : (Nat) ⊕ Int32 => some (.int (hb_wk u))) (hb_el (fun u => (hb_v1 E q b1 b2 (hb_o E ao (vp_updL O 0 (if (hb_zb (C u 3) : Int32) = 0 then (0 : Int64) else 1)) :: Y2) C G M C2 G2 M2)) (fun _ => (hb_v1 E q b1 b2 (hb_o E ao O :: Y2) C G M C2 G2 M2))) (hb_ep (fun u => u < n ∧ x = nI u) (fun k => (k = 1 ∧ ¬ hb_ok n x))) (fun _ => False) := by
  refine jk_ofH (lv := [(0, .ref q), (1, .int x), (2, .ref ao)]) (own := RL) (nm := "looksEast") hl (by decide +kernel) rfl (Nat.le_of_ble_eq_true rfl) rfl rfl rfl (fun Γ hΓ K ht hz => ?_)
  subst hΓ
  refine jk_aload_n K dL_looksEast_0 rfl 2 rfl ?_
  refine jk_iconst (x := 0) K dL_looksEast_1 rfl ?_
  refine jk_aload_n K dL_looksEast_2 rfl 0 rfl ?_
  refine jk_iload_n K dL_looksEast_3 rfl 1 rfl ?_
  refine jk_cVix K (n' := 1) (k' := 6) [.int x] [.int 0, .ref ao] dL_looksEast_4 (hb_X2_looksEast _ hl E q b1 b2 (hb_o E ao O :: Y2) C G M C2 G2 M2 n hn hg x) gL_looksEast_X2_looksEast rfl kd_X2_looksEast ⟨Nat.le_of_ble_eq_true rfl, Nat.le_of_ble_eq_true rfl⟩ 0 hb_ob0 rfl (Nat.le_of_ble_eq_true rfl) ⟨rfl, rfl⟩ ⟨Nat.le_of_ble_eq_true rfl, Nat.le_of_ble_eq_true rfl⟩ rfl ?_ (fun u hu => ?_)
  · intro Ex hx
    rcases hx with ⟨rfl, hx⟩
    · refine jk_catch1 K ht rfl (by decide) (by decide +kernel) (by decide +kernel) rfl (fun qe => ?_)
      refine jk_astore_n (lv' := [(3, .ref qe), (0, .ref q), (1, .int x), (2, .ref ao)]) K dL_looksEast_19 rfl (by decide) rfl ?_
      refine jk_iconst (x := 1) K dL_looksEast_20 rfl ?_
      exact jk_iret K hz dL_looksEast_21 (.inr 1) rfl ⟨rfl, hx⟩ rfl rfl (Nat.le_of_ble_eq_true rfl) (Nat.le_of_ble_eq_true rfl)
  refine jk_ws (ws' := (hb_v1 E q b1 b2 (hb_o E ao O :: Y2) C G M C2 G2 M2)) rfl ?_
  refine jk_st (st' := [.int (hb_zb (C u 3)), .int 0, .ref ao]) rfl ?_
  refine jk_if_eq (tgt := 14) K dL_looksEast_7 rfl (fun c_7 => ?_) (fun c_7 => ?_)
  · refine jk_lconst (x := 0) K dL_looksEast_14 rfl ?_
    refine jk_last (w' := (hb_v1 E q b1 b2 (hb_o E ao (vp_updL O 0 0) :: Y2) C G M C2 G2 M2)) K dL_looksEast_15 29 hb_out (vp_in_nI (n := 0) (by decide) (by decide)) (by rw [show Int32.toNatClampNeg 0 = 0 from by decide]; exact hb_outs) ?_
    refine jk_goto (tgt := 22) K dL_looksEast_16 rfl ?_
    refine jk_iconst (x := 0) K dL_looksEast_22 rfl ?_
    exact jk_iret K hz dL_looksEast_23 (.inl u) rfl hu (by show _ = (hb_v1 E q b1 b2 (hb_o E ao (vp_updL O 0 (if (hb_zb (C u 3) : Int32) = 0 then (0 : Int64) else 1)) :: Y2) C G M C2 G2 M2); rw [if_pos c_7]) rfl (Nat.le_of_ble_eq_true rfl) (Nat.le_of_ble_eq_true rfl)
  · refine jk_lconst (x := 1) K dL_looksEast_10 rfl ?_
    refine jk_goto (tgt := 15) K dL_looksEast_11 rfl ?_
    refine jk_last (w' := (hb_v1 E q b1 b2 (hb_o E ao (vp_updL O 0 1) :: Y2) C G M C2 G2 M2)) K dL_looksEast_15 29 hb_out (vp_in_nI (n := 0) (by decide) (by decide)) (by rw [show Int32.toNatClampNeg 0 = 0 from by decide]; exact hb_outs) ?_
    refine jk_goto (tgt := 22) K dL_looksEast_16 rfl ?_
    refine jk_iconst (x := 0) K dL_looksEast_22 rfl ?_
    exact jk_iret K hz dL_looksEast_23 (.inl u) rfl hu (by show _ = (hb_v1 E q b1 b2 (hb_o E ao (vp_updL O 0 (if (hb_zb (C u 3) : Int32) = 0 then (0 : Int64) else 1)) :: Y2) C G M C2 G2 M2); rw [if_neg c_7]) rfl (Nat.le_of_ble_eq_true rfl) (Nat.le_of_ble_eq_true rfl)
set_option maxHeartbeats 4000000 in
set_option maxRecDepth 100000 in
theorem hb_L_isPost (l : Launch) (hl : l.stackTraces = false) (E : jk_T) (q : Nat) (b1 b2 : Nat → Nat) (ao : Nat) (O : Nat → Int64) (Y2 : va_W) (C : Nat → Nat → Int32) (G M : Nat → Int32) (C2 : Nat → Nat → Int32) (G2 M2 : Nat → Int32) (n : Nat) (hn : n ≤ 10) (hg : G 0 = nI n) (x : Int32) : jk_Cx l yL_isPost wsL_isPost ({ frames := 9, cells := 1, slots := 6, locals := 153 } : Room) [.ref q, .int x, .ref ao] E (hb_v1 E q b1 b2 (hb_o E ao O :: Y2) C G M C2 G2 M2) (fun u : (Nat) ⊕ Int32 => some (.int (hb_wk u))) (hb_el (fun u => (hb_v1 E q b1 b2 (hb_o E ao (vp_updL O 0 (if (hb_zb (C u 4) : Int32) = 0 then (0 : Int64) else 1)) :: Y2) C G M C2 G2 M2)) (fun _ => (hb_v1 E q b1 b2 (hb_o E ao O :: Y2) C G M C2 G2 M2))) (hb_ep (fun u => u < n ∧ x = nI u) (fun k => (k = 1 ∧ ¬ hb_ok n x))) (fun _ => False) := by
  refine jk_ofH (lv := [(0, .ref q), (1, .int x), (2, .ref ao)]) (own := RL) (nm := "isPost") hl (by decide +kernel) rfl (Nat.le_of_ble_eq_true rfl) rfl rfl rfl (fun Γ hΓ K ht hz => ?_)
  subst hΓ
  refine jk_aload_n K dL_isPost_0 rfl 2 rfl ?_
  refine jk_iconst (x := 0) K dL_isPost_1 rfl ?_
  refine jk_aload_n K dL_isPost_2 rfl 0 rfl ?_
  refine jk_iload_n K dL_isPost_3 rfl 1 rfl ?_
  refine jk_cVix K (n' := 1) (k' := 6) [.int x] [.int 0, .ref ao] dL_isPost_4 (hb_X2_isPost _ hl E q b1 b2 (hb_o E ao O :: Y2) C G M C2 G2 M2 n hn hg x) gL_isPost_X2_isPost rfl kd_X2_isPost ⟨Nat.le_of_ble_eq_true rfl, Nat.le_of_ble_eq_true rfl⟩ 0 hb_ob0 rfl (Nat.le_of_ble_eq_true rfl) ⟨rfl, rfl⟩ ⟨Nat.le_of_ble_eq_true rfl, Nat.le_of_ble_eq_true rfl⟩ rfl ?_ (fun u hu => ?_)
  · intro Ex hx
    rcases hx with ⟨rfl, hx⟩
    · refine jk_catch1 K ht rfl (by decide) (by decide +kernel) (by decide +kernel) rfl (fun qe => ?_)
      refine jk_astore_n (lv' := [(3, .ref qe), (0, .ref q), (1, .int x), (2, .ref ao)]) K dL_isPost_19 rfl (by decide) rfl ?_
      refine jk_iconst (x := 1) K dL_isPost_20 rfl ?_
      exact jk_iret K hz dL_isPost_21 (.inr 1) rfl ⟨rfl, hx⟩ rfl rfl (Nat.le_of_ble_eq_true rfl) (Nat.le_of_ble_eq_true rfl)
  refine jk_ws (ws' := (hb_v1 E q b1 b2 (hb_o E ao O :: Y2) C G M C2 G2 M2)) rfl ?_
  refine jk_st (st' := [.int (hb_zb (C u 4)), .int 0, .ref ao]) rfl ?_
  refine jk_if_eq (tgt := 14) K dL_isPost_7 rfl (fun c_7 => ?_) (fun c_7 => ?_)
  · refine jk_lconst (x := 0) K dL_isPost_14 rfl ?_
    refine jk_last (w' := (hb_v1 E q b1 b2 (hb_o E ao (vp_updL O 0 0) :: Y2) C G M C2 G2 M2)) K dL_isPost_15 29 hb_out (vp_in_nI (n := 0) (by decide) (by decide)) (by rw [show Int32.toNatClampNeg 0 = 0 from by decide]; exact hb_outs) ?_
    refine jk_goto (tgt := 22) K dL_isPost_16 rfl ?_
    refine jk_iconst (x := 0) K dL_isPost_22 rfl ?_
    exact jk_iret K hz dL_isPost_23 (.inl u) rfl hu (by show _ = (hb_v1 E q b1 b2 (hb_o E ao (vp_updL O 0 (if (hb_zb (C u 4) : Int32) = 0 then (0 : Int64) else 1)) :: Y2) C G M C2 G2 M2); rw [if_pos c_7]) rfl (Nat.le_of_ble_eq_true rfl) (Nat.le_of_ble_eq_true rfl)
  · refine jk_lconst (x := 1) K dL_isPost_10 rfl ?_
    refine jk_goto (tgt := 15) K dL_isPost_11 rfl ?_
    refine jk_last (w' := (hb_v1 E q b1 b2 (hb_o E ao (vp_updL O 0 1) :: Y2) C G M C2 G2 M2)) K dL_isPost_15 29 hb_out (vp_in_nI (n := 0) (by decide) (by decide)) (by rw [show Int32.toNatClampNeg 0 = 0 from by decide]; exact hb_outs) ?_
    refine jk_goto (tgt := 22) K dL_isPost_16 rfl ?_
    refine jk_iconst (x := 0) K dL_isPost_22 rfl ?_
    exact jk_iret K hz dL_isPost_23 (.inl u) rfl hu (by show _ = (hb_v1 E q b1 b2 (hb_o E ao (vp_updL O 0 (if (hb_zb (C u 4) : Int32) = 0 then (0 : Int64) else 1)) :: Y2) C G M C2 G2 M2); rw [if_neg c_7]) rfl (Nat.le_of_ble_eq_true rfl) (Nat.le_of_ble_eq_true rfl)
set_option maxHeartbeats 4000000 in
set_option maxRecDepth 100000 in
theorem hb_L_milesBetween (l : Launch) (hl : l.stackTraces = false) (E : jk_T) (q : Nat) (b1 b2 : Nat → Nat) (ao : Nat) (O : Nat → Int64) (Y2 : va_W) (C : Nat → Nat → Int32) (G M : Nat → Int32) (C2 : Nat → Nat → Int32) (G2 M2 : Nat → Int32) (n : Nat) (hn : n ≤ 10) (hg : G 0 = nI n) (x : Int32) (y : Int32) : jk_Cx l yL_milesBetween wsL_milesBetween ({ frames := 8, cells := 2, slots := 12, locals := 133 } : Room) [.ref q, .int x, .int y, .ref ao] E (hb_v1 E q b1 b2 (hb_o E ao O :: Y2) C G M C2 G2 M2) (fun u : (Nat × Nat) ⊕ Int32 => some (.int (hb_wk u))) (hb_el (fun u => (hb_v1 E q b1 b2 (hb_o E ao (vp_updL O 0 (Int32.toInt64 (M (u.1 * 10 + u.2)))) :: Y2) C G M C2 G2 M2)) (fun _ => (hb_v1 E q b1 b2 (hb_o E ao O :: Y2) C G M C2 G2 M2))) (hb_ep (fun u => u.1 < n ∧ u.2 < n ∧ x = nI u.1 ∧ y = nI u.2) (fun k => (k = 1 ∧ ¬ (hb_ok n x ∧ hb_ok n y)))) (fun _ => False) := by
  refine jk_ofH (lv := [(0, .ref q), (1, .int x), (2, .int y), (3, .ref ao)]) (own := RL) (nm := "milesBetween") hl (by decide +kernel) rfl (Nat.le_of_ble_eq_true rfl) rfl rfl rfl (fun Γ hΓ K ht hz => ?_)
  subst hΓ
  refine jk_aload_n K dL_milesBetween_0 rfl 3 rfl ?_
  refine jk_iconst (x := 0) K dL_milesBetween_1 rfl ?_
  refine jk_aload_n K dL_milesBetween_2 rfl 0 rfl ?_
  refine jk_iload_n K dL_milesBetween_3 rfl 1 rfl ?_
  refine jk_iload_n K dL_milesBetween_4 rfl 2 rfl ?_
  refine jk_cVix K (n' := 2) (k' := 12) [.int x, .int y] [.int 0, .ref ao] dL_milesBetween_5 (hb_X2_milesBetween _ hl E q b1 b2 (hb_o E ao O :: Y2) C G M C2 G2 M2 n hn hg x y) gL_milesBetween_X2_milesBetween rfl kd_X2_milesBetween ⟨Nat.le_of_ble_eq_true rfl, Nat.le_of_ble_eq_true rfl⟩ 0 hb_ob0 rfl (Nat.le_of_ble_eq_true rfl) ⟨rfl, rfl⟩ ⟨Nat.le_of_ble_eq_true rfl, Nat.le_of_ble_eq_true rfl⟩ rfl ?_ (fun u hu => ?_)
  · intro Ex hx
    rcases hx with ⟨rfl, hx⟩
    · refine jk_catch1 K ht rfl (by decide) (by decide +kernel) (by decide +kernel) rfl (fun qe => ?_)
      refine jk_astore (lv' := [(4, .ref qe), (0, .ref q), (1, .int x), (2, .int y), (3, .ref ao)]) K dL_milesBetween_13 (by decide) rfl ?_
      refine jk_iconst (x := 1) K dL_milesBetween_15 rfl ?_
      exact jk_iret K hz dL_milesBetween_16 (.inr 1) rfl ⟨rfl, hx⟩ rfl rfl (Nat.le_of_ble_eq_true rfl) (Nat.le_of_ble_eq_true rfl)
  refine jk_ws (ws' := (hb_v1 E q b1 b2 (hb_o E ao O :: Y2) C G M C2 G2 M2)) rfl ?_
  refine jk_st (st' := [.int (M (u.1 * 10 + u.2)), .int 0, .ref ao]) rfl ?_
  refine jk_i2l K dL_milesBetween_8 ?_
  refine jk_last (w' := (hb_v1 E q b1 b2 (hb_o E ao (vp_updL O 0 (Int32.toInt64 (M (u.1 * 10 + u.2)))) :: Y2) C G M C2 G2 M2)) K dL_milesBetween_9 29 hb_out (vp_in_nI (n := 0) (by decide) (by decide)) (by rw [show Int32.toNatClampNeg 0 = 0 from by decide]; exact hb_outs) ?_
  refine jk_goto (tgt := 17) K dL_milesBetween_10 rfl ?_
  refine jk_iconst (x := 0) K dL_milesBetween_17 rfl ?_
  exact jk_iret K hz dL_milesBetween_18 (.inl u) rfl hu rfl rfl (Nat.le_of_ble_eq_true rfl) (Nat.le_of_ble_eq_true rfl)
set_option maxHeartbeats 4000000 in
set_option maxRecDepth 100000 in
theorem hb_L_canSee (l : Launch) (hl : l.stackTraces = false) (E : jk_T) (q : Nat) (b1 b2 : Nat → Nat) (ao : Nat) (O : Nat → Int64) (Y2 : va_W) (C : Nat → Nat → Int32) (G M : Nat → Int32) (C2 : Nat → Nat → Int32) (G2 M2 : Nat → Int32) (n : Nat) (hn : n ≤ 10) (hg : G 0 = nI n) (x : Int32) (y : Int32) : jk_Cx l yL_canSee wsL_canSee ({ frames := 8, cells := 2, slots := 12, locals := 133 } : Room) [.ref q, .int x, .int y, .ref ao] E (hb_v1 E q b1 b2 (hb_o E ao O :: Y2) C G M C2 G2 M2) (fun u : (Nat × Nat) ⊕ Int32 => some (.int (hb_wk u))) (hb_el (fun u => (hb_v1 E q b1 b2 (hb_o E ao (vp_updL O 0 (if (hb_clr (G 1) (M (u.1 * 10 + u.2)) : Int32) = 0 then (0 : Int64) else 1)) :: Y2) C G M C2 G2 M2)) (fun _ => (hb_v1 E q b1 b2 (hb_o E ao O :: Y2) C G M C2 G2 M2))) (hb_ep (fun u => u.1 < n ∧ u.2 < n ∧ x = nI u.1 ∧ y = nI u.2) (fun k => (k = 1 ∧ ¬ (hb_ok n x ∧ hb_ok n y)))) (fun _ => False) := by
  refine jk_ofH (lv := [(0, .ref q), (1, .int x), (2, .int y), (3, .ref ao)]) (own := RL) (nm := "canSee") hl (by decide +kernel) rfl (Nat.le_of_ble_eq_true rfl) rfl rfl rfl (fun Γ hΓ K ht hz => ?_)
  subst hΓ
  refine jk_aload_n K dL_canSee_0 rfl 3 rfl ?_
  refine jk_iconst (x := 0) K dL_canSee_1 rfl ?_
  refine jk_aload_n K dL_canSee_2 rfl 0 rfl ?_
  refine jk_iload_n K dL_canSee_3 rfl 1 rfl ?_
  refine jk_iload_n K dL_canSee_4 rfl 2 rfl ?_
  refine jk_cVix K (n' := 2) (k' := 12) [.int x, .int y] [.int 0, .ref ao] dL_canSee_5 (hb_X2_canSee _ hl E q b1 b2 (hb_o E ao O :: Y2) C G M C2 G2 M2 n hn hg x y) gL_canSee_X2_canSee rfl kd_X2_canSee ⟨Nat.le_of_ble_eq_true rfl, Nat.le_of_ble_eq_true rfl⟩ 0 hb_ob0 rfl (Nat.le_of_ble_eq_true rfl) ⟨rfl, rfl⟩ ⟨Nat.le_of_ble_eq_true rfl, Nat.le_of_ble_eq_true rfl⟩ rfl ?_ (fun u hu => ?_)
  · intro Ex hx
    rcases hx with ⟨rfl, hx⟩
    · refine jk_catch1 K ht rfl (by decide) (by decide +kernel) (by decide +kernel) rfl (fun qe => ?_)
      refine jk_astore (lv' := [(4, .ref qe), (0, .ref q), (1, .int x), (2, .int y), (3, .ref ao)]) K dL_canSee_20 (by decide) rfl ?_
      refine jk_iconst (x := 1) K dL_canSee_22 rfl ?_
      exact jk_iret K hz dL_canSee_23 (.inr 1) rfl ⟨rfl, hx⟩ rfl rfl (Nat.le_of_ble_eq_true rfl) (Nat.le_of_ble_eq_true rfl)
  refine jk_ws (ws' := (hb_v1 E q b1 b2 (hb_o E ao O :: Y2) C G M C2 G2 M2)) rfl ?_
  refine jk_st (st' := [.int (hb_clr (G 1) (M (u.1 * 10 + u.2))), .int 0, .ref ao]) rfl ?_
  refine jk_if_eq (tgt := 15) K dL_canSee_8 rfl (fun c_8 => ?_) (fun c_8 => ?_)
  · refine jk_lconst (x := 0) K dL_canSee_15 rfl ?_
    refine jk_last (w' := (hb_v1 E q b1 b2 (hb_o E ao (vp_updL O 0 0) :: Y2) C G M C2 G2 M2)) K dL_canSee_16 29 hb_out (vp_in_nI (n := 0) (by decide) (by decide)) (by rw [show Int32.toNatClampNeg 0 = 0 from by decide]; exact hb_outs) ?_
    refine jk_goto (tgt := 24) K dL_canSee_17 rfl ?_
    refine jk_iconst (x := 0) K dL_canSee_24 rfl ?_
    exact jk_iret K hz dL_canSee_25 (.inl u) rfl hu (by show _ = (hb_v1 E q b1 b2 (hb_o E ao (vp_updL O 0 (if (hb_clr (G 1) (M (u.1 * 10 + u.2)) : Int32) = 0 then (0 : Int64) else 1)) :: Y2) C G M C2 G2 M2); rw [if_pos c_8]) rfl (Nat.le_of_ble_eq_true rfl) (Nat.le_of_ble_eq_true rfl)
  · refine jk_lconst (x := 1) K dL_canSee_11 rfl ?_
    refine jk_goto (tgt := 16) K dL_canSee_12 rfl ?_
    refine jk_last (w' := (hb_v1 E q b1 b2 (hb_o E ao (vp_updL O 0 1) :: Y2) C G M C2 G2 M2)) K dL_canSee_16 29 hb_out (vp_in_nI (n := 0) (by decide) (by decide)) (by rw [show Int32.toNatClampNeg 0 = 0 from by decide]; exact hb_outs) ?_
    refine jk_goto (tgt := 24) K dL_canSee_17 rfl ?_
    refine jk_iconst (x := 0) K dL_canSee_24 rfl ?_
    exact jk_iret K hz dL_canSee_25 (.inl u) rfl hu (by show _ = (hb_v1 E q b1 b2 (hb_o E ao (vp_updL O 0 (if (hb_clr (G 1) (M (u.1 * 10 + u.2)) : Int32) = 0 then (0 : Int64) else 1)) :: Y2) C G M C2 G2 M2); rw [if_neg c_8]) rfl (Nat.le_of_ble_eq_true rfl) (Nat.le_of_ble_eq_true rfl)
set_option maxHeartbeats 4000000 in
set_option maxRecDepth 100000 in
theorem hb_L_fewestSteps (l : Launch) (hl : l.stackTraces = false) (E : jk_T) (q : Nat) (b1 b2 : Nat → Nat) (ao : Nat) (O : Nat → Int64) (Y2 : va_W) (C : Nat → Nat → Int32) (G M : Nat → Int32) (C2 : Nat → Nat → Int32) (G2 M2 : Nat → Int32) (n : Nat) (hn : n ≤ 10) (hg : G 0 = nI n) (x : Int32) (y : Int32) : jk_Cx l yL_fewestSteps wsL_fewestSteps ({ frames := 8, cells := 2, slots := 12, locals := 137 } : Room) [.ref q, .int x, .int y, .ref ao] E (hb_v1 E q b1 b2 (hb_o E ao O :: Y2) C G M C2 G2 M2) (fun u : (Nat × Nat) ⊕ Int32 => some (.int (hb_wk u))) (hb_el (fun u => (hb_v1 E q b1 b2 (hb_o E ao (vp_updL O 0 (Int32.toInt64 (hb_steps G M n u.1 u.2))) :: Y2) C G M C2 G2 M2)) (fun _ => (hb_v1 E q b1 b2 (hb_o E ao O :: Y2) C G M C2 G2 M2))) (hb_ep (fun u => u.1 < n ∧ u.2 < n ∧ x = nI u.1 ∧ y = nI u.2) (fun k => (k = 1 ∧ ¬ (hb_ok n x ∧ hb_ok n y)))) (fun _ => False) := by
  refine jk_ofH (lv := [(0, .ref q), (1, .int x), (2, .int y), (3, .ref ao)]) (own := RL) (nm := "fewestSteps") hl (by decide +kernel) rfl (Nat.le_of_ble_eq_true rfl) rfl rfl rfl (fun Γ hΓ K ht hz => ?_)
  subst hΓ
  refine jk_aload_n K dL_fewestSteps_0 rfl 3 rfl ?_
  refine jk_iconst (x := 0) K dL_fewestSteps_1 rfl ?_
  refine jk_aload_n K dL_fewestSteps_2 rfl 0 rfl ?_
  refine jk_iload_n K dL_fewestSteps_3 rfl 1 rfl ?_
  refine jk_iload_n K dL_fewestSteps_4 rfl 2 rfl ?_
  refine jk_cVix K (n' := 2) (k' := 12) [.int x, .int y] [.int 0, .ref ao] dL_fewestSteps_5 (hb_X2_fewestSteps _ hl E q b1 b2 (hb_o E ao O :: Y2) C G M C2 G2 M2 n hn hg x y) gL_fewestSteps_X2_fewestSteps rfl kd_X2_fewestSteps ⟨Nat.le_of_ble_eq_true rfl, Nat.le_of_ble_eq_true rfl⟩ 0 hb_ob0 rfl (Nat.le_of_ble_eq_true rfl) ⟨rfl, rfl⟩ ⟨Nat.le_of_ble_eq_true rfl, Nat.le_of_ble_eq_true rfl⟩ rfl ?_ (fun u hu => ?_)
  · intro Ex hx
    rcases hx with ⟨rfl, hx⟩
    · refine jk_catch1 K ht rfl (by decide) (by decide +kernel) (by decide +kernel) rfl (fun qe => ?_)
      refine jk_astore (lv' := [(4, .ref qe), (0, .ref q), (1, .int x), (2, .int y), (3, .ref ao)]) K dL_fewestSteps_13 (by decide) rfl ?_
      refine jk_iconst (x := 1) K dL_fewestSteps_15 rfl ?_
      exact jk_iret K hz dL_fewestSteps_16 (.inr 1) rfl ⟨rfl, hx⟩ rfl rfl (Nat.le_of_ble_eq_true rfl) (Nat.le_of_ble_eq_true rfl)
  refine jk_ws (ws' := (hb_v1 E q b1 b2 (hb_o E ao O :: Y2) C G M C2 G2 M2)) rfl ?_
  refine jk_st (st' := [.int (hb_steps G M n u.1 u.2), .int 0, .ref ao]) rfl ?_
  refine jk_i2l K dL_fewestSteps_8 ?_
  refine jk_last (w' := (hb_v1 E q b1 b2 (hb_o E ao (vp_updL O 0 (Int32.toInt64 (hb_steps G M n u.1 u.2))) :: Y2) C G M C2 G2 M2)) K dL_fewestSteps_9 29 hb_out (vp_in_nI (n := 0) (by decide) (by decide)) (by rw [show Int32.toNatClampNeg 0 = 0 from by decide]; exact hb_outs) ?_
  refine jk_goto (tgt := 17) K dL_fewestSteps_10 rfl ?_
  refine jk_iconst (x := 0) K dL_fewestSteps_17 rfl ?_
  exact jk_iret K hz dL_fewestSteps_18 (.inl u) rfl hu rfl rfl (Nat.le_of_ble_eq_true rfl) (Nat.le_of_ble_eq_true rfl)
set_option maxHeartbeats 4000000 in
set_option maxRecDepth 100000 in
theorem hb_L_isDark (l : Launch) (hl : l.stackTraces = false) (E : jk_T) (q : Nat) (b1 b2 : Nat → Nat) (ao : Nat) (O : Nat → Int64) (Y2 : va_W) (C : Nat → Nat → Int32) (G M : Nat → Int32) (C2 : Nat → Nat → Int32) (G2 M2 : Nat → Int32) (n : Nat) (hn : n ≤ 10) (hg : G 0 = nI n) (x : Int32) : jk_Cx l yL_isDark wsL_isDark ({ frames := 9, cells := 1, slots := 6, locals := 153 } : Room) [.ref q, .int x, .ref ao] E (hb_v1 E q b1 b2 (hb_o E ao O :: Y2) C G M C2 G2 M2) (fun u : (Nat) ⊕ Int32 => some (.int (hb_wk u))) (hb_el (fun u => (hb_v1 E q b1 b2 (hb_o E ao (vp_updL O 0 (if (if C u 5 = 0 then 1 else 0 : Int32) = 0 then (0 : Int64) else 1)) :: Y2) C G M C2 G2 M2)) (fun _ => (hb_v1 E q b1 b2 (hb_o E ao O :: Y2) C G M C2 G2 M2))) (hb_ep (fun u => u < n ∧ x = nI u) (fun k => (k = 1 ∧ ¬ hb_ok n x))) (fun _ => False) := by
  refine jk_ofH (lv := [(0, .ref q), (1, .int x), (2, .ref ao)]) (own := RL) (nm := "isDark") hl (by decide +kernel) rfl (Nat.le_of_ble_eq_true rfl) rfl rfl rfl (fun Γ hΓ K ht hz => ?_)
  subst hΓ
  refine jk_aload_n K dL_isDark_0 rfl 2 rfl ?_
  refine jk_iconst (x := 0) K dL_isDark_1 rfl ?_
  refine jk_aload_n K dL_isDark_2 rfl 0 rfl ?_
  refine jk_iload_n K dL_isDark_3 rfl 1 rfl ?_
  refine jk_cVix K (n' := 1) (k' := 6) [.int x] [.int 0, .ref ao] dL_isDark_4 (hb_X2_isDark _ hl E q b1 b2 (hb_o E ao O :: Y2) C G M C2 G2 M2 n hn hg x) gL_isDark_X2_isDark rfl kd_X2_isDark ⟨Nat.le_of_ble_eq_true rfl, Nat.le_of_ble_eq_true rfl⟩ 0 hb_ob0 rfl (Nat.le_of_ble_eq_true rfl) ⟨rfl, rfl⟩ ⟨Nat.le_of_ble_eq_true rfl, Nat.le_of_ble_eq_true rfl⟩ rfl ?_ (fun u hu => ?_)
  · intro Ex hx
    rcases hx with ⟨rfl, hx⟩
    · refine jk_catch1 K ht rfl (by decide) (by decide +kernel) (by decide +kernel) rfl (fun qe => ?_)
      refine jk_astore_n (lv' := [(3, .ref qe), (0, .ref q), (1, .int x), (2, .ref ao)]) K dL_isDark_19 rfl (by decide) rfl ?_
      refine jk_iconst (x := 1) K dL_isDark_20 rfl ?_
      exact jk_iret K hz dL_isDark_21 (.inr 1) rfl ⟨rfl, hx⟩ rfl rfl (Nat.le_of_ble_eq_true rfl) (Nat.le_of_ble_eq_true rfl)
  refine jk_ws (ws' := (hb_v1 E q b1 b2 (hb_o E ao O :: Y2) C G M C2 G2 M2)) rfl ?_
  refine jk_st (st' := [.int (if C u 5 = 0 then 1 else 0), .int 0, .ref ao]) rfl ?_
  refine jk_if_eq (tgt := 14) K dL_isDark_7 rfl (fun c_7 => ?_) (fun c_7 => ?_)
  · refine jk_lconst (x := 0) K dL_isDark_14 rfl ?_
    refine jk_last (w' := (hb_v1 E q b1 b2 (hb_o E ao (vp_updL O 0 0) :: Y2) C G M C2 G2 M2)) K dL_isDark_15 29 hb_out (vp_in_nI (n := 0) (by decide) (by decide)) (by rw [show Int32.toNatClampNeg 0 = 0 from by decide]; exact hb_outs) ?_
    refine jk_goto (tgt := 22) K dL_isDark_16 rfl ?_
    refine jk_iconst (x := 0) K dL_isDark_22 rfl ?_
    exact jk_iret K hz dL_isDark_23 (.inl u) rfl hu (by show _ = (hb_v1 E q b1 b2 (hb_o E ao (vp_updL O 0 (if (if C u 5 = 0 then 1 else 0 : Int32) = 0 then (0 : Int64) else 1)) :: Y2) C G M C2 G2 M2); rw [if_pos c_7]) rfl (Nat.le_of_ble_eq_true rfl) (Nat.le_of_ble_eq_true rfl)
  · refine jk_lconst (x := 1) K dL_isDark_10 rfl ?_
    refine jk_goto (tgt := 15) K dL_isDark_11 rfl ?_
    refine jk_last (w' := (hb_v1 E q b1 b2 (hb_o E ao (vp_updL O 0 1) :: Y2) C G M C2 G2 M2)) K dL_isDark_15 29 hb_out (vp_in_nI (n := 0) (by decide) (by decide)) (by rw [show Int32.toNatClampNeg 0 = 0 from by decide]; exact hb_outs) ?_
    refine jk_goto (tgt := 22) K dL_isDark_16 rfl ?_
    refine jk_iconst (x := 0) K dL_isDark_22 rfl ?_
    exact jk_iret K hz dL_isDark_23 (.inl u) rfl hu (by show _ = (hb_v1 E q b1 b2 (hb_o E ao (vp_updL O 0 (if (if C u 5 = 0 then 1 else 0 : Int32) = 0 then (0 : Int64) else 1)) :: Y2) C G M C2 G2 M2); rw [if_neg c_7]) rfl (Nat.le_of_ble_eq_true rfl) (Nat.le_of_ble_eq_true rfl)
set_option maxHeartbeats 4000000 in
set_option maxRecDepth 100000 in
theorem hb_L_isBurning (l : Launch) (hl : l.stackTraces = false) (E : jk_T) (q : Nat) (b1 b2 : Nat → Nat) (ao : Nat) (O : Nat → Int64) (Y2 : va_W) (C : Nat → Nat → Int32) (G M : Nat → Int32) (C2 : Nat → Nat → Int32) (G2 M2 : Nat → Int32) (n : Nat) (hn : n ≤ 10) (hg : G 0 = nI n) (x : Int32) : jk_Cx l yL_isBurning wsL_isBurning ({ frames := 9, cells := 1, slots := 6, locals := 153 } : Room) [.ref q, .int x, .ref ao] E (hb_v1 E q b1 b2 (hb_o E ao O :: Y2) C G M C2 G2 M2) (fun u : (Nat) ⊕ Int32 => some (.int (hb_wk u))) (hb_el (fun u => (hb_v1 E q b1 b2 (hb_o E ao (vp_updL O 0 (if (if C u 5 = 2 then 1 else 0 : Int32) = 0 then (0 : Int64) else 1)) :: Y2) C G M C2 G2 M2)) (fun _ => (hb_v1 E q b1 b2 (hb_o E ao O :: Y2) C G M C2 G2 M2))) (hb_ep (fun u => u < n ∧ x = nI u) (fun k => (k = 1 ∧ ¬ hb_ok n x))) (fun _ => False) := by
  refine jk_ofH (lv := [(0, .ref q), (1, .int x), (2, .ref ao)]) (own := RL) (nm := "isBurning") hl (by decide +kernel) rfl (Nat.le_of_ble_eq_true rfl) rfl rfl rfl (fun Γ hΓ K ht hz => ?_)
  subst hΓ
  refine jk_aload_n K dL_isBurning_0 rfl 2 rfl ?_
  refine jk_iconst (x := 0) K dL_isBurning_1 rfl ?_
  refine jk_aload_n K dL_isBurning_2 rfl 0 rfl ?_
  refine jk_iload_n K dL_isBurning_3 rfl 1 rfl ?_
  refine jk_cVix K (n' := 1) (k' := 6) [.int x] [.int 0, .ref ao] dL_isBurning_4 (hb_X2_isBurning _ hl E q b1 b2 (hb_o E ao O :: Y2) C G M C2 G2 M2 n hn hg x) gL_isBurning_X2_isBurning rfl kd_X2_isBurning ⟨Nat.le_of_ble_eq_true rfl, Nat.le_of_ble_eq_true rfl⟩ 0 hb_ob0 rfl (Nat.le_of_ble_eq_true rfl) ⟨rfl, rfl⟩ ⟨Nat.le_of_ble_eq_true rfl, Nat.le_of_ble_eq_true rfl⟩ rfl ?_ (fun u hu => ?_)
  · intro Ex hx
    rcases hx with ⟨rfl, hx⟩
    · refine jk_catch1 K ht rfl (by decide) (by decide +kernel) (by decide +kernel) rfl (fun qe => ?_)
      refine jk_astore_n (lv' := [(3, .ref qe), (0, .ref q), (1, .int x), (2, .ref ao)]) K dL_isBurning_19 rfl (by decide) rfl ?_
      refine jk_iconst (x := 1) K dL_isBurning_20 rfl ?_
      exact jk_iret K hz dL_isBurning_21 (.inr 1) rfl ⟨rfl, hx⟩ rfl rfl (Nat.le_of_ble_eq_true rfl) (Nat.le_of_ble_eq_true rfl)
  refine jk_ws (ws' := (hb_v1 E q b1 b2 (hb_o E ao O :: Y2) C G M C2 G2 M2)) rfl ?_
  refine jk_st (st' := [.int (if C u 5 = 2 then 1 else 0), .int 0, .ref ao]) rfl ?_
  refine jk_if_eq (tgt := 14) K dL_isBurning_7 rfl (fun c_7 => ?_) (fun c_7 => ?_)
  · refine jk_lconst (x := 0) K dL_isBurning_14 rfl ?_
    refine jk_last (w' := (hb_v1 E q b1 b2 (hb_o E ao (vp_updL O 0 0) :: Y2) C G M C2 G2 M2)) K dL_isBurning_15 29 hb_out (vp_in_nI (n := 0) (by decide) (by decide)) (by rw [show Int32.toNatClampNeg 0 = 0 from by decide]; exact hb_outs) ?_
    refine jk_goto (tgt := 22) K dL_isBurning_16 rfl ?_
    refine jk_iconst (x := 0) K dL_isBurning_22 rfl ?_
    exact jk_iret K hz dL_isBurning_23 (.inl u) rfl hu (by show _ = (hb_v1 E q b1 b2 (hb_o E ao (vp_updL O 0 (if (if C u 5 = 2 then 1 else 0 : Int32) = 0 then (0 : Int64) else 1)) :: Y2) C G M C2 G2 M2); rw [if_pos c_7]) rfl (Nat.le_of_ble_eq_true rfl) (Nat.le_of_ble_eq_true rfl)
  · refine jk_lconst (x := 1) K dL_isBurning_10 rfl ?_
    refine jk_goto (tgt := 15) K dL_isBurning_11 rfl ?_
    refine jk_last (w' := (hb_v1 E q b1 b2 (hb_o E ao (vp_updL O 0 1) :: Y2) C G M C2 G2 M2)) K dL_isBurning_15 29 hb_out (vp_in_nI (n := 0) (by decide) (by decide)) (by rw [show Int32.toNatClampNeg 0 = 0 from by decide]; exact hb_outs) ?_
    refine jk_goto (tgt := 22) K dL_isBurning_16 rfl ?_
    refine jk_iconst (x := 0) K dL_isBurning_22 rfl ?_
    exact jk_iret K hz dL_isBurning_23 (.inl u) rfl hu (by show _ = (hb_v1 E q b1 b2 (hb_o E ao (vp_updL O 0 (if (if C u 5 = 2 then 1 else 0 : Int32) = 0 then (0 : Int64) else 1)) :: Y2) C G M C2 G2 M2); rw [if_neg c_7]) rfl (Nat.le_of_ble_eq_true rfl) (Nat.le_of_ble_eq_true rfl)
set_option maxHeartbeats 4000000 in
set_option maxRecDepth 100000 in
theorem hb_L_minutesToBurn (l : Launch) (hl : l.stackTraces = false) (E : jk_T) (q : Nat) (b1 b2 : Nat → Nat) (ao : Nat) (O : Nat → Int64) (Y2 : va_W) (C : Nat → Nat → Int32) (G M : Nat → Int32) (C2 : Nat → Nat → Int32) (G2 M2 : Nat → Int32) (n : Nat) (hn : n ≤ 10) (hg : G 0 = nI n) (x : Int32) : jk_Cx l yL_minutesToBurn wsL_minutesToBurn ({ frames := 9, cells := 1, slots := 6, locals := 153 } : Room) [.ref q, .int x, .ref ao] E (hb_v1 E q b1 b2 (hb_o E ao O :: Y2) C G M C2 G2 M2) (fun u : (Nat) ⊕ Int32 => some (.int (hb_wk u))) (hb_el (fun u => (hb_v1 E q b1 b2 (hb_o E ao (vp_updL O 0 (Int32.toInt64 (C u 7))) :: Y2) C G M C2 G2 M2)) (fun _ => (hb_v1 E q b1 b2 (hb_o E ao O :: Y2) C G M C2 G2 M2))) (hb_ep (fun u => u < n ∧ x = nI u) (fun k => (k = 1 ∧ ¬ hb_ok n x))) (fun _ => False) := by
  refine jk_ofH (lv := [(0, .ref q), (1, .int x), (2, .ref ao)]) (own := RL) (nm := "minutesToBurn") hl (by decide +kernel) rfl (Nat.le_of_ble_eq_true rfl) rfl rfl rfl (fun Γ hΓ K ht hz => ?_)
  subst hΓ
  refine jk_aload_n K dL_minutesToBurn_0 rfl 2 rfl ?_
  refine jk_iconst (x := 0) K dL_minutesToBurn_1 rfl ?_
  refine jk_aload_n K dL_minutesToBurn_2 rfl 0 rfl ?_
  refine jk_iload_n K dL_minutesToBurn_3 rfl 1 rfl ?_
  refine jk_cVix K (n' := 1) (k' := 6) [.int x] [.int 0, .ref ao] dL_minutesToBurn_4 (hb_X2_minutesToBurn _ hl E q b1 b2 (hb_o E ao O :: Y2) C G M C2 G2 M2 n hn hg x) gL_minutesToBurn_X2_minutesToBurn rfl kd_X2_minutesToBurn ⟨Nat.le_of_ble_eq_true rfl, Nat.le_of_ble_eq_true rfl⟩ 0 hb_ob0 rfl (Nat.le_of_ble_eq_true rfl) ⟨rfl, rfl⟩ ⟨Nat.le_of_ble_eq_true rfl, Nat.le_of_ble_eq_true rfl⟩ rfl ?_ (fun u hu => ?_)
  · intro Ex hx
    rcases hx with ⟨rfl, hx⟩
    · refine jk_catch1 K ht rfl (by decide) (by decide +kernel) (by decide +kernel) rfl (fun qe => ?_)
      refine jk_astore_n (lv' := [(3, .ref qe), (0, .ref q), (1, .int x), (2, .ref ao)]) K dL_minutesToBurn_12 rfl (by decide) rfl ?_
      refine jk_iconst (x := 1) K dL_minutesToBurn_13 rfl ?_
      exact jk_iret K hz dL_minutesToBurn_14 (.inr 1) rfl ⟨rfl, hx⟩ rfl rfl (Nat.le_of_ble_eq_true rfl) (Nat.le_of_ble_eq_true rfl)
  refine jk_ws (ws' := (hb_v1 E q b1 b2 (hb_o E ao O :: Y2) C G M C2 G2 M2)) rfl ?_
  refine jk_st (st' := [.int (C u 7), .int 0, .ref ao]) rfl ?_
  refine jk_i2l K dL_minutesToBurn_7 ?_
  refine jk_last (w' := (hb_v1 E q b1 b2 (hb_o E ao (vp_updL O 0 (Int32.toInt64 (C u 7))) :: Y2) C G M C2 G2 M2)) K dL_minutesToBurn_8 29 hb_out (vp_in_nI (n := 0) (by decide) (by decide)) (by rw [show Int32.toNatClampNeg 0 = 0 from by decide]; exact hb_outs) ?_
  refine jk_goto (tgt := 15) K dL_minutesToBurn_9 rfl ?_
  refine jk_iconst (x := 0) K dL_minutesToBurn_15 rfl ?_
  exact jk_iret K hz dL_minutesToBurn_16 (.inl u) rfl hu rfl rfl (Nat.le_of_ble_eq_true rfl) (Nat.le_of_ble_eq_true rfl)
set_option maxHeartbeats 4000000 in
set_option maxRecDepth 100000 in
theorem hb_L_lookingFor (l : Launch) (hl : l.stackTraces = false) (E : jk_T) (q : Nat) (b1 b2 : Nat → Nat) (ao : Nat) (O : Nat → Int64) (Y2 : va_W) (C : Nat → Nat → Int32) (G M : Nat → Int32) (C2 : Nat → Nat → Int32) (G2 M2 : Nat → Int32) (n : Nat) (hn : n ≤ 10) (hg : G 0 = nI n) (x : Int32) : jk_Cx l yL_lookingFor wsL_lookingFor ({ frames := 9, cells := 1, slots := 6, locals := 153 } : Room) [.ref q, .int x, .ref ao] E (hb_v1 E q b1 b2 (hb_o E ao O :: Y2) C G M C2 G2 M2) (fun u : (Nat) ⊕ Int32 => some (.int (hb_wk u))) (hb_el (fun u => (hb_v1 E q b1 b2 (hb_o E ao (vp_updL O 0 (Int32.toInt64 (C u 8))) :: Y2) C G M C2 G2 M2)) (fun _ => (hb_v1 E q b1 b2 (hb_o E ao O :: Y2) C G M C2 G2 M2))) (hb_ep (fun u => u < n ∧ x = nI u) (fun k => (k = 1 ∧ ¬ hb_ok n x))) (fun _ => False) := by
  refine jk_ofH (lv := [(0, .ref q), (1, .int x), (2, .ref ao)]) (own := RL) (nm := "lookingFor") hl (by decide +kernel) rfl (Nat.le_of_ble_eq_true rfl) rfl rfl rfl (fun Γ hΓ K ht hz => ?_)
  subst hΓ
  refine jk_aload_n K dL_lookingFor_0 rfl 2 rfl ?_
  refine jk_iconst (x := 0) K dL_lookingFor_1 rfl ?_
  refine jk_aload_n K dL_lookingFor_2 rfl 0 rfl ?_
  refine jk_iload_n K dL_lookingFor_3 rfl 1 rfl ?_
  refine jk_cVix K (n' := 1) (k' := 6) [.int x] [.int 0, .ref ao] dL_lookingFor_4 (hb_X2_lookingFor _ hl E q b1 b2 (hb_o E ao O :: Y2) C G M C2 G2 M2 n hn hg x) gL_lookingFor_X2_lookingFor rfl kd_X2_lookingFor ⟨Nat.le_of_ble_eq_true rfl, Nat.le_of_ble_eq_true rfl⟩ 0 hb_ob0 rfl (Nat.le_of_ble_eq_true rfl) ⟨rfl, rfl⟩ ⟨Nat.le_of_ble_eq_true rfl, Nat.le_of_ble_eq_true rfl⟩ rfl ?_ (fun u hu => ?_)
  · intro Ex hx
    rcases hx with ⟨rfl, hx⟩
    · refine jk_catch1 K ht rfl (by decide) (by decide +kernel) (by decide +kernel) rfl (fun qe => ?_)
      refine jk_astore_n (lv' := [(3, .ref qe), (0, .ref q), (1, .int x), (2, .ref ao)]) K dL_lookingFor_12 rfl (by decide) rfl ?_
      refine jk_iconst (x := 1) K dL_lookingFor_13 rfl ?_
      exact jk_iret K hz dL_lookingFor_14 (.inr 1) rfl ⟨rfl, hx⟩ rfl rfl (Nat.le_of_ble_eq_true rfl) (Nat.le_of_ble_eq_true rfl)
  refine jk_ws (ws' := (hb_v1 E q b1 b2 (hb_o E ao O :: Y2) C G M C2 G2 M2)) rfl ?_
  refine jk_st (st' := [.int (C u 8), .int 0, .ref ao]) rfl ?_
  refine jk_i2l K dL_lookingFor_7 ?_
  refine jk_last (w' := (hb_v1 E q b1 b2 (hb_o E ao (vp_updL O 0 (Int32.toInt64 (C u 8))) :: Y2) C G M C2 G2 M2)) K dL_lookingFor_8 29 hb_out (vp_in_nI (n := 0) (by decide) (by decide)) (by rw [show Int32.toNatClampNeg 0 = 0 from by decide]; exact hb_outs) ?_
  refine jk_goto (tgt := 15) K dL_lookingFor_9 rfl ?_
  refine jk_iconst (x := 0) K dL_lookingFor_15 rfl ?_
  exact jk_iret K hz dL_lookingFor_16 (.inl u) rfl hu rfl rfl (Nat.le_of_ble_eq_true rfl) (Nat.le_of_ble_eq_true rfl)
set_option maxHeartbeats 4000000 in
set_option maxRecDepth 100000 in
theorem hb_L_sourceOf (l : Launch) (hl : l.stackTraces = false) (E : jk_T) (q : Nat) (b1 b2 : Nat → Nat) (ao : Nat) (O : Nat → Int64) (Y2 : va_W) (C : Nat → Nat → Int32) (G M : Nat → Int32) (C2 : Nat → Nat → Int32) (G2 M2 : Nat → Int32) (n : Nat) (hn : n ≤ 10) (hg : G 0 = nI n) (x : Int32) : jk_Cx l yL_sourceOf wsL_sourceOf ({ frames := 10, cells := 2, slots := 12, locals := 175 } : Room) [.ref q, .int x, .ref ao] E (hb_v1 E q b1 b2 (hb_o E ao O :: Y2) C G M C2 G2 M2) (fun u : (Nat) ⊕ Int32 => some (.int (hb_wk u))) (hb_el (fun u => (hb_v1 E q b1 b2 (hb_o E ao (vp_updL O 0 (Int32.toInt64 (C u 9))) :: Y2) C G M C2 G2 M2)) (fun _ => (hb_v1 E q b1 b2 (hb_o E ao O :: Y2) C G M C2 G2 M2))) (hb_ep (fun u => u < n ∧ x = nI u ∧ ¬ C u 5 = 0) (fun k => (k = 1 ∧ ¬ hb_ok n x) ∨ (k = 2 ∧ ∃ i, i < n ∧ x = nI i ∧ C i 5 = 0))) (fun _ => False) := by
  refine jk_ofH (lv := [(0, .ref q), (1, .int x), (2, .ref ao)]) (own := RL) (nm := "sourceOf") hl (by decide +kernel) rfl (Nat.le_of_ble_eq_true rfl) rfl rfl rfl (fun Γ hΓ K ht hz => ?_)
  subst hΓ
  refine jk_aload_n K dL_sourceOf_0 rfl 2 rfl ?_
  refine jk_iconst (x := 0) K dL_sourceOf_1 rfl ?_
  refine jk_aload_n K dL_sourceOf_2 rfl 0 rfl ?_
  refine jk_iload_n K dL_sourceOf_3 rfl 1 rfl ?_
  refine jk_cVix K (n' := 2) (k' := 12) [.int x] [.int 0, .ref ao] dL_sourceOf_4 (hb_X2_sourceOf _ hl E q b1 b2 (hb_o E ao O :: Y2) C G M C2 G2 M2 n hn hg x) gL_sourceOf_X2_sourceOf rfl kd_X2_sourceOf ⟨Nat.le_of_ble_eq_true rfl, Nat.le_of_ble_eq_true rfl⟩ 0 hb_ob0 rfl (Nat.le_of_ble_eq_true rfl) ⟨rfl, rfl⟩ ⟨Nat.le_of_ble_eq_true rfl, Nat.le_of_ble_eq_true rfl⟩ rfl ?_ (fun u hu => ?_)
  · intro Ex hx
    rcases hx with ⟨rfl, hx⟩ | ⟨rfl, hx⟩
    · refine jk_catch1 K ht rfl (by decide) (by decide +kernel) (by decide +kernel) rfl (fun qe => ?_)
      refine jk_astore_n (lv' := [(3, .ref qe), (0, .ref q), (1, .int x), (2, .ref ao)]) K dL_sourceOf_12 rfl (by decide) rfl ?_
      refine jk_iconst (x := 1) K dL_sourceOf_13 rfl ?_
      exact jk_iret K hz dL_sourceOf_14 (.inr 1) rfl (Or.inl ⟨rfl, hx⟩) rfl rfl (Nat.le_of_ble_eq_true rfl) (Nat.le_of_ble_eq_true rfl)
    · refine jk_catch2 K ht (by decide) (F := "java/lang/IndexOutOfBoundsException") (by decide +kernel) (by decide +kernel) (by decide +kernel) rfl (by decide) (by decide +kernel) (by decide +kernel) rfl (fun qe => ?_)
      refine jk_astore_n (lv' := [(3, .ref qe), (0, .ref q), (1, .int x), (2, .ref ao)]) K dL_sourceOf_15 rfl (by decide) rfl ?_
      refine jk_iconst (x := 2) K dL_sourceOf_16 rfl ?_
      exact jk_iret K hz dL_sourceOf_17 (.inr 2) rfl (Or.inr ⟨rfl, hx⟩) rfl rfl (Nat.le_of_ble_eq_true rfl) (Nat.le_of_ble_eq_true rfl)
  refine jk_ws (ws' := (hb_v1 E q b1 b2 (hb_o E ao O :: Y2) C G M C2 G2 M2)) rfl ?_
  refine jk_st (st' := [.int (C u 9), .int 0, .ref ao]) rfl ?_
  refine jk_i2l K dL_sourceOf_7 ?_
  refine jk_last (w' := (hb_v1 E q b1 b2 (hb_o E ao (vp_updL O 0 (Int32.toInt64 (C u 9))) :: Y2) C G M C2 G2 M2)) K dL_sourceOf_8 29 hb_out (vp_in_nI (n := 0) (by decide) (by decide)) (by rw [show Int32.toNatClampNeg 0 = 0 from by decide]; exact hb_outs) ?_
  refine jk_goto (tgt := 18) K dL_sourceOf_9 rfl ?_
  refine jk_iconst (x := 0) K dL_sourceOf_18 rfl ?_
  exact jk_iret K hz dL_sourceOf_19 (.inl u) rfl hu rfl rfl (Nat.le_of_ble_eq_true rfl) (Nat.le_of_ble_eq_true rfl)
set_option maxHeartbeats 4000000 in
set_option maxRecDepth 100000 in
theorem hb_L_isMistaken (l : Launch) (hl : l.stackTraces = false) (E : jk_T) (q : Nat) (b1 b2 : Nat → Nat) (ao : Nat) (O : Nat → Int64) (Y2 : va_W) (C : Nat → Nat → Int32) (G M : Nat → Int32) (C2 : Nat → Nat → Int32) (G2 M2 : Nat → Int32) (n : Nat) (hn : n ≤ 10) (hg : G 0 = nI n) (x : Int32) : jk_Cx l yL_isMistaken wsL_isMistaken ({ frames := 9, cells := 1, slots := 6, locals := 153 } : Room) [.ref q, .int x, .ref ao] E (hb_v1 E q b1 b2 (hb_o E ao O :: Y2) C G M C2 G2 M2) (fun u : (Nat) ⊕ Int32 => some (.int (hb_wk u))) (hb_el (fun u => (hb_v1 E q b1 b2 (hb_o E ao (vp_updL O 0 (if (if C u 9 = -1 then 1 else 0 : Int32) = 0 then (0 : Int64) else 1)) :: Y2) C G M C2 G2 M2)) (fun _ => (hb_v1 E q b1 b2 (hb_o E ao O :: Y2) C G M C2 G2 M2))) (hb_ep (fun u => u < n ∧ x = nI u) (fun k => (k = 1 ∧ ¬ hb_ok n x))) (fun _ => False) := by
  refine jk_ofH (lv := [(0, .ref q), (1, .int x), (2, .ref ao)]) (own := RL) (nm := "isMistaken") hl (by decide +kernel) rfl (Nat.le_of_ble_eq_true rfl) rfl rfl rfl (fun Γ hΓ K ht hz => ?_)
  subst hΓ
  refine jk_aload_n K dL_isMistaken_0 rfl 2 rfl ?_
  refine jk_iconst (x := 0) K dL_isMistaken_1 rfl ?_
  refine jk_aload_n K dL_isMistaken_2 rfl 0 rfl ?_
  refine jk_iload_n K dL_isMistaken_3 rfl 1 rfl ?_
  refine jk_cVix K (n' := 1) (k' := 6) [.int x] [.int 0, .ref ao] dL_isMistaken_4 (hb_X2_isMistaken _ hl E q b1 b2 (hb_o E ao O :: Y2) C G M C2 G2 M2 n hn hg x) gL_isMistaken_X2_isMistaken rfl kd_X2_isMistaken ⟨Nat.le_of_ble_eq_true rfl, Nat.le_of_ble_eq_true rfl⟩ 0 hb_ob0 rfl (Nat.le_of_ble_eq_true rfl) ⟨rfl, rfl⟩ ⟨Nat.le_of_ble_eq_true rfl, Nat.le_of_ble_eq_true rfl⟩ rfl ?_ (fun u hu => ?_)
  · intro Ex hx
    rcases hx with ⟨rfl, hx⟩
    · refine jk_catch1 K ht rfl (by decide) (by decide +kernel) (by decide +kernel) rfl (fun qe => ?_)
      refine jk_astore_n (lv' := [(3, .ref qe), (0, .ref q), (1, .int x), (2, .ref ao)]) K dL_isMistaken_19 rfl (by decide) rfl ?_
      refine jk_iconst (x := 1) K dL_isMistaken_20 rfl ?_
      exact jk_iret K hz dL_isMistaken_21 (.inr 1) rfl ⟨rfl, hx⟩ rfl rfl (Nat.le_of_ble_eq_true rfl) (Nat.le_of_ble_eq_true rfl)
  refine jk_ws (ws' := (hb_v1 E q b1 b2 (hb_o E ao O :: Y2) C G M C2 G2 M2)) rfl ?_
  refine jk_st (st' := [.int (if C u 9 = -1 then 1 else 0), .int 0, .ref ao]) rfl ?_
  refine jk_if_eq (tgt := 14) K dL_isMistaken_7 rfl (fun c_7 => ?_) (fun c_7 => ?_)
  · refine jk_lconst (x := 0) K dL_isMistaken_14 rfl ?_
    refine jk_last (w' := (hb_v1 E q b1 b2 (hb_o E ao (vp_updL O 0 0) :: Y2) C G M C2 G2 M2)) K dL_isMistaken_15 29 hb_out (vp_in_nI (n := 0) (by decide) (by decide)) (by rw [show Int32.toNatClampNeg 0 = 0 from by decide]; exact hb_outs) ?_
    refine jk_goto (tgt := 22) K dL_isMistaken_16 rfl ?_
    refine jk_iconst (x := 0) K dL_isMistaken_22 rfl ?_
    exact jk_iret K hz dL_isMistaken_23 (.inl u) rfl hu (by show _ = (hb_v1 E q b1 b2 (hb_o E ao (vp_updL O 0 (if (if C u 9 = -1 then 1 else 0 : Int32) = 0 then (0 : Int64) else 1)) :: Y2) C G M C2 G2 M2); rw [if_pos c_7]) rfl (Nat.le_of_ble_eq_true rfl) (Nat.le_of_ble_eq_true rfl)
  · refine jk_lconst (x := 1) K dL_isMistaken_10 rfl ?_
    refine jk_goto (tgt := 15) K dL_isMistaken_11 rfl ?_
    refine jk_last (w' := (hb_v1 E q b1 b2 (hb_o E ao (vp_updL O 0 1) :: Y2) C G M C2 G2 M2)) K dL_isMistaken_15 29 hb_out (vp_in_nI (n := 0) (by decide) (by decide)) (by rw [show Int32.toNatClampNeg 0 = 0 from by decide]; exact hb_outs) ?_
    refine jk_goto (tgt := 22) K dL_isMistaken_16 rfl ?_
    refine jk_iconst (x := 0) K dL_isMistaken_22 rfl ?_
    exact jk_iret K hz dL_isMistaken_23 (.inl u) rfl hu (by show _ = (hb_v1 E q b1 b2 (hb_o E ao (vp_updL O 0 (if (if C u 9 = -1 then 1 else 0 : Int32) = 0 then (0 : Int64) else 1)) :: Y2) C G M C2 G2 M2); rw [if_neg c_7]) rfl (Nat.le_of_ble_eq_true rfl) (Nat.le_of_ble_eq_true rfl)
set_option maxHeartbeats 4000000 in
set_option maxRecDepth 100000 in
theorem hb_L_answersTo (l : Launch) (hl : l.stackTraces = false) (E : jk_T) (q : Nat) (b1 b2 : Nat → Nat) (ao : Nat) (O : Nat → Int64) (Y2 : va_W) (C : Nat → Nat → Int32) (G M : Nat → Int32) (C2 : Nat → Nat → Int32) (G2 M2 : Nat → Int32) (n : Nat) (hn : n ≤ 10) (hg : G 0 = nI n) (x : Int32) : jk_Cx l yL_answersTo wsL_answersTo ({ frames := 9, cells := 1, slots := 6, locals := 153 } : Room) [.ref q, .int x, .ref ao] E (hb_v1 E q b1 b2 (hb_o E ao O :: Y2) C G M C2 G2 M2) (fun u : (Nat) ⊕ Int32 => some (.int (hb_wk u))) (hb_el (fun u => (hb_v1 E q b1 b2 (hb_o E ao (vp_updL O 0 (Int32.toInt64 (C u 10))) :: Y2) C G M C2 G2 M2)) (fun _ => (hb_v1 E q b1 b2 (hb_o E ao O :: Y2) C G M C2 G2 M2))) (hb_ep (fun u => u < n ∧ x = nI u) (fun k => (k = 1 ∧ ¬ hb_ok n x))) (fun _ => False) := by
  refine jk_ofH (lv := [(0, .ref q), (1, .int x), (2, .ref ao)]) (own := RL) (nm := "answersTo") hl (by decide +kernel) rfl (Nat.le_of_ble_eq_true rfl) rfl rfl rfl (fun Γ hΓ K ht hz => ?_)
  subst hΓ
  refine jk_aload_n K dL_answersTo_0 rfl 2 rfl ?_
  refine jk_iconst (x := 0) K dL_answersTo_1 rfl ?_
  refine jk_aload_n K dL_answersTo_2 rfl 0 rfl ?_
  refine jk_iload_n K dL_answersTo_3 rfl 1 rfl ?_
  refine jk_cVix K (n' := 1) (k' := 6) [.int x] [.int 0, .ref ao] dL_answersTo_4 (hb_X2_answersTo _ hl E q b1 b2 (hb_o E ao O :: Y2) C G M C2 G2 M2 n hn hg x) gL_answersTo_X2_answersTo rfl kd_X2_answersTo ⟨Nat.le_of_ble_eq_true rfl, Nat.le_of_ble_eq_true rfl⟩ 0 hb_ob0 rfl (Nat.le_of_ble_eq_true rfl) ⟨rfl, rfl⟩ ⟨Nat.le_of_ble_eq_true rfl, Nat.le_of_ble_eq_true rfl⟩ rfl ?_ (fun u hu => ?_)
  · intro Ex hx
    rcases hx with ⟨rfl, hx⟩
    · refine jk_catch1 K ht rfl (by decide) (by decide +kernel) (by decide +kernel) rfl (fun qe => ?_)
      refine jk_astore_n (lv' := [(3, .ref qe), (0, .ref q), (1, .int x), (2, .ref ao)]) K dL_answersTo_12 rfl (by decide) rfl ?_
      refine jk_iconst (x := 1) K dL_answersTo_13 rfl ?_
      exact jk_iret K hz dL_answersTo_14 (.inr 1) rfl ⟨rfl, hx⟩ rfl rfl (Nat.le_of_ble_eq_true rfl) (Nat.le_of_ble_eq_true rfl)
  refine jk_ws (ws' := (hb_v1 E q b1 b2 (hb_o E ao O :: Y2) C G M C2 G2 M2)) rfl ?_
  refine jk_st (st' := [.int (C u 10), .int 0, .ref ao]) rfl ?_
  refine jk_i2l K dL_answersTo_7 ?_
  refine jk_last (w' := (hb_v1 E q b1 b2 (hb_o E ao (vp_updL O 0 (Int32.toInt64 (C u 10))) :: Y2) C G M C2 G2 M2)) K dL_answersTo_8 29 hb_out (vp_in_nI (n := 0) (by decide) (by decide)) (by rw [show Int32.toNatClampNeg 0 = 0 from by decide]; exact hb_outs) ?_
  refine jk_goto (tgt := 15) K dL_answersTo_9 rfl ?_
  refine jk_iconst (x := 0) K dL_answersTo_15 rfl ?_
  exact jk_iret K hz dL_answersTo_16 (.inl u) rfl hu rfl rfl (Nat.le_of_ble_eq_true rfl) (Nat.le_of_ble_eq_true rfl)
set_option maxHeartbeats 4000000 in
set_option maxRecDepth 100000 in
theorem hb_L_minutesUntilBurning (l : Launch) (hl : l.stackTraces = false) (E : jk_T) (q : Nat) (b1 b2 : Nat → Nat) (ao : Nat) (O : Nat → Int64) (Y2 : va_W) (C : Nat → Nat → Int32) (G M : Nat → Int32) (C2 : Nat → Nat → Int32) (G2 M2 : Nat → Int32) (n : Nat) (hn : n ≤ 10) (hg : G 0 = nI n) (x : Int32) : jk_Cx l yL_minutesUntilBurning wsL_minutesUntilBurning ({ frames := 8, cells := 1, slots := 6, locals := 135 } : Room) [.ref q, .int x, .ref ao] E (hb_v1 E q b1 b2 (hb_o E ao O :: Y2) C G M C2 G2 M2) (fun u : (Nat × hb_LS) ⊕ Int32 => some (.int (hb_wk u))) (hb_el (fun u => (hb_v1 E q b1 b2 (hb_o E ao (vp_updL O 0 (Int32.toInt64 (hb_mub (hb_cpC C2 C 10) (hb_cpG G2 G) (hb_cpM M2 M 10) n u.1))) :: Y2) C G M u.2.1 u.2.2.1 u.2.2.2)) (fun _ => (hb_v1 E q b1 b2 (hb_o E ao O :: Y2) C G M C2 G2 M2))) (hb_ep (fun u => u.1 < n ∧ x = nI u.1) (fun k => (k = 1 ∧ ¬ hb_ok n x))) (fun _ => False) := by
  refine jk_ofH (lv := [(0, .ref q), (1, .int x), (2, .ref ao)]) (own := RL) (nm := "minutesUntilBurning") hl (by decide +kernel) rfl (Nat.le_of_ble_eq_true rfl) rfl rfl rfl (fun Γ hΓ K ht hz => ?_)
  subst hΓ
  refine jk_aload_n K dL_minutesUntilBurning_0 rfl 2 rfl ?_
  refine jk_iconst (x := 0) K dL_minutesUntilBurning_1 rfl ?_
  refine jk_aload_n K dL_minutesUntilBurning_2 rfl 0 rfl ?_
  refine jk_iload_n K dL_minutesUntilBurning_3 rfl 1 rfl ?_
  refine jk_cVix K (n' := 1) (k' := 6) [.int x] [.int 0, .ref ao] dL_minutesUntilBurning_4 (hb_X2_minutesUntilBurning _ hl E q b1 b2 (hb_o E ao O :: Y2) C G M C2 G2 M2 n hn hg x) gL_minutesUntilBurning_X2_minutesUntilBurning rfl kd_X2_minutesUntilBurning ⟨Nat.le_of_ble_eq_true rfl, Nat.le_of_ble_eq_true rfl⟩ 0 hb_ob0 rfl (Nat.le_of_ble_eq_true rfl) ⟨rfl, rfl⟩ ⟨Nat.le_of_ble_eq_true rfl, Nat.le_of_ble_eq_true rfl⟩ rfl ?_ (fun u hu => ?_)
  · intro Ex hx
    rcases hx with ⟨rfl, hx⟩
    · refine jk_catch1 K ht rfl (by decide) (by decide +kernel) (by decide +kernel) rfl (fun qe => ?_)
      refine jk_astore_n (lv' := [(3, .ref qe), (0, .ref q), (1, .int x), (2, .ref ao)]) K dL_minutesUntilBurning_12 rfl (by decide) rfl ?_
      refine jk_iconst (x := 1) K dL_minutesUntilBurning_13 rfl ?_
      exact jk_iret K hz dL_minutesUntilBurning_14 (.inr 1) rfl ⟨rfl, hx⟩ rfl rfl (Nat.le_of_ble_eq_true rfl) (Nat.le_of_ble_eq_true rfl)
  refine jk_ws (ws' := (hb_v1 E q b1 b2 (hb_o E ao O :: Y2) C G M u.2.1 u.2.2.1 u.2.2.2)) rfl ?_
  refine jk_st (st' := [.int (hb_mub (hb_cpC C2 C 10) (hb_cpG G2 G) (hb_cpM M2 M 10) n u.1), .int 0, .ref ao]) rfl ?_
  refine jk_i2l K dL_minutesUntilBurning_7 ?_
  refine jk_last (w' := (hb_v1 E q b1 b2 (hb_o E ao (vp_updL O 0 (Int32.toInt64 (hb_mub (hb_cpC C2 C 10) (hb_cpG G2 G) (hb_cpM M2 M 10) n u.1))) :: Y2) C G M u.2.1 u.2.2.1 u.2.2.2)) K dL_minutesUntilBurning_8 29 hb_out (vp_in_nI (n := 0) (by decide) (by decide)) (by rw [show Int32.toNatClampNeg 0 = 0 from by decide]; exact hb_outs) ?_
  refine jk_goto (tgt := 15) K dL_minutesUntilBurning_9 rfl ?_
  refine jk_iconst (x := 0) K dL_minutesUntilBurning_15 rfl ?_
  exact jk_iret K hz dL_minutesUntilBurning_16 (.inl u) rfl hu rfl rfl (Nat.le_of_ble_eq_true rfl) (Nat.le_of_ble_eq_true rfl)
set_option maxHeartbeats 4000000 in
set_option maxRecDepth 100000 in
theorem hb_L_burningAfter (l : Launch) (hl : l.stackTraces = false) (E : jk_T) (q : Nat) (b1 b2 : Nat → Nat) (ao : Nat) (O : Nat → Int64) (Y2 : va_W) (C : Nat → Nat → Int32) (G M : Nat → Int32) (C2 : Nat → Nat → Int32) (G2 M2 : Nat → Int32) (n : Nat) (hn : n ≤ 10) (hg : G 0 = nI n) (x : Int32) : jk_Cx l yL_burningAfter wsL_burningAfter ({ frames := 8, cells := 1, slots := 6, locals := 156 } : Room) [.ref q, .int x, .ref ao] E (hb_v1 E q b1 b2 (hb_o E ao O :: Y2) C G M C2 G2 M2) (fun u : (Nat × hb_LS) ⊕ Int32 => some (.int (hb_wk u))) (hb_el (fun u => (hb_v1 E q b1 b2 (hb_o E ao (vp_updL O 0 (Int32.toInt64 (hb_burn (hb_pm (hb_cpC C2 C 10) (hb_cpG G2 G) (hb_cpM M2 M 10) n u.1).1 n))) :: Y2) C G M u.2.1 u.2.2.1 u.2.2.2)) (fun _ => (hb_v1 E q b1 b2 (hb_o E ao O :: Y2) C G M C2 G2 M2))) (hb_ep (fun u => 1 ≤ u.1 ∧ u.1 ≤ 100 ∧ x = nI u.1) (fun k => (k = 1 ∧ ¬ hb_bt x 1 100))) (fun _ => False) := by
  refine jk_ofH (lv := [(0, .ref q), (1, .int x), (2, .ref ao)]) (own := RL) (nm := "burningAfter") hl (by decide +kernel) rfl (Nat.le_of_ble_eq_true rfl) rfl rfl rfl (fun Γ hΓ K ht hz => ?_)
  subst hΓ
  refine jk_aload_n K dL_burningAfter_0 rfl 2 rfl ?_
  refine jk_iconst (x := 0) K dL_burningAfter_1 rfl ?_
  refine jk_aload_n K dL_burningAfter_2 rfl 0 rfl ?_
  refine jk_iload_n K dL_burningAfter_3 rfl 1 rfl ?_
  refine jk_cVix K (n' := 1) (k' := 6) [.int x] [.int 0, .ref ao] dL_burningAfter_4 (hb_X2_burningAfter _ hl E q b1 b2 (hb_o E ao O :: Y2) C G M C2 G2 M2 n hn hg x) gL_burningAfter_X2_burningAfter rfl kd_X2_burningAfter ⟨Nat.le_of_ble_eq_true rfl, Nat.le_of_ble_eq_true rfl⟩ 0 hb_ob0 rfl (Nat.le_of_ble_eq_true rfl) ⟨rfl, rfl⟩ ⟨Nat.le_of_ble_eq_true rfl, Nat.le_of_ble_eq_true rfl⟩ rfl ?_ (fun u hu => ?_)
  · intro Ex hx
    rcases hx with ⟨rfl, hx⟩
    · refine jk_catch1 K ht rfl (by decide) (by decide +kernel) (by decide +kernel) rfl (fun qe => ?_)
      refine jk_astore_n (lv' := [(3, .ref qe), (0, .ref q), (1, .int x), (2, .ref ao)]) K dL_burningAfter_12 rfl (by decide) rfl ?_
      refine jk_iconst (x := 1) K dL_burningAfter_13 rfl ?_
      exact jk_iret K hz dL_burningAfter_14 (.inr 1) rfl ⟨rfl, hx⟩ rfl rfl (Nat.le_of_ble_eq_true rfl) (Nat.le_of_ble_eq_true rfl)
  refine jk_ws (ws' := (hb_v1 E q b1 b2 (hb_o E ao O :: Y2) C G M u.2.1 u.2.2.1 u.2.2.2)) rfl ?_
  refine jk_st (st' := [.int (hb_burn (hb_pm (hb_cpC C2 C 10) (hb_cpG G2 G) (hb_cpM M2 M 10) n u.1).1 n), .int 0, .ref ao]) rfl ?_
  refine jk_i2l K dL_burningAfter_7 ?_
  refine jk_last (w' := (hb_v1 E q b1 b2 (hb_o E ao (vp_updL O 0 (Int32.toInt64 (hb_burn (hb_pm (hb_cpC C2 C 10) (hb_cpG G2 G) (hb_cpM M2 M 10) n u.1).1 n))) :: Y2) C G M u.2.1 u.2.2.1 u.2.2.2)) K dL_burningAfter_8 29 hb_out (vp_in_nI (n := 0) (by decide) (by decide)) (by rw [show Int32.toNatClampNeg 0 = 0 from by decide]; exact hb_outs) ?_
  refine jk_goto (tgt := 15) K dL_burningAfter_9 rfl ?_
  refine jk_iconst (x := 0) K dL_burningAfter_15 rfl ?_
  exact jk_iret K hz dL_burningAfter_16 (.inl u) rfl hu rfl rfl (Nat.le_of_ble_eq_true rfl) (Nat.le_of_ble_eq_true rfl)
set_option maxHeartbeats 4000000 in
set_option maxRecDepth 100000 in
theorem hb_L_reachOf (l : Launch) (hl : l.stackTraces = false) (E : jk_T) (q : Nat) (b1 b2 : Nat → Nat) (ao : Nat) (O : Nat → Int64) (Y2 : va_W) (C : Nat → Nat → Int32) (G M : Nat → Int32) (C2 : Nat → Nat → Int32) (G2 M2 : Nat → Int32) (n : Nat) (hn : n ≤ 10) (hg : G 0 = nI n) (x : Int32) : jk_Cx l yL_reachOf wsL_reachOf ({ frames := 10, cells := 2, slots := 12, locals := 174 } : Room) [.ref q, .int x, .ref ao] E (hb_v1 E q b1 b2 (hb_o E ao O :: Y2) C G M C2 G2 M2) (fun u : (Nat × hb_LS) ⊕ Int32 => some (.int (hb_wk u))) (hb_el (fun u => (hb_v1 E q b1 b2 (hb_o E ao (vp_updL O 0 (Int32.toInt64 (hb_tr C2 G2 M2 C G M n u.1))) :: Y2) C G M u.2.1 u.2.2.1 u.2.2.2)) (fun _ => (hb_v1 E q b1 b2 (hb_o E ao O :: Y2) C G M C2 G2 M2))) (hb_ep (fun u => u.1 < n ∧ x = nI u.1 ∧ ¬ hb_rdy (C u.1) = 0) (fun k => (k = 1 ∧ ¬ hb_ok n x) ∨ (k = 2 ∧ ∃ i, i < n ∧ x = nI i ∧ hb_rdy (C i) = 0))) (fun _ => False) := by
  refine jk_ofH (lv := [(0, .ref q), (1, .int x), (2, .ref ao)]) (own := RL) (nm := "reachOf") hl (by decide +kernel) rfl (Nat.le_of_ble_eq_true rfl) rfl rfl rfl (fun Γ hΓ K ht hz => ?_)
  subst hΓ
  refine jk_aload_n K dL_reachOf_0 rfl 2 rfl ?_
  refine jk_iconst (x := 0) K dL_reachOf_1 rfl ?_
  refine jk_aload_n K dL_reachOf_2 rfl 0 rfl ?_
  refine jk_iload_n K dL_reachOf_3 rfl 1 rfl ?_
  refine jk_cVix K (n' := 2) (k' := 12) [.int x] [.int 0, .ref ao] dL_reachOf_4 (hb_X2_reachOf _ hl E q b1 b2 (hb_o E ao O :: Y2) C G M C2 G2 M2 n hn hg x) gL_reachOf_X2_reachOf rfl kd_X2_reachOf ⟨Nat.le_of_ble_eq_true rfl, Nat.le_of_ble_eq_true rfl⟩ 0 hb_ob0 rfl (Nat.le_of_ble_eq_true rfl) ⟨rfl, rfl⟩ ⟨Nat.le_of_ble_eq_true rfl, Nat.le_of_ble_eq_true rfl⟩ rfl ?_ (fun u hu => ?_)
  · intro Ex hx
    rcases hx with ⟨rfl, hx⟩ | ⟨rfl, hx⟩
    · refine jk_catch1 K ht rfl (by decide) (by decide +kernel) (by decide +kernel) rfl (fun qe => ?_)
      refine jk_astore_n (lv' := [(3, .ref qe), (0, .ref q), (1, .int x), (2, .ref ao)]) K dL_reachOf_12 rfl (by decide) rfl ?_
      refine jk_iconst (x := 1) K dL_reachOf_13 rfl ?_
      exact jk_iret K hz dL_reachOf_14 (.inr 1) rfl (Or.inl ⟨rfl, hx⟩) rfl rfl (Nat.le_of_ble_eq_true rfl) (Nat.le_of_ble_eq_true rfl)
    · refine jk_catch2 K ht (by decide) (F := "java/lang/IndexOutOfBoundsException") (by decide +kernel) (by decide +kernel) (by decide +kernel) rfl (by decide) (by decide +kernel) (by decide +kernel) rfl (fun qe => ?_)
      refine jk_astore_n (lv' := [(3, .ref qe), (0, .ref q), (1, .int x), (2, .ref ao)]) K dL_reachOf_15 rfl (by decide) rfl ?_
      refine jk_iconst (x := 2) K dL_reachOf_16 rfl ?_
      exact jk_iret K hz dL_reachOf_17 (.inr 2) rfl (Or.inr ⟨rfl, hx⟩) rfl rfl (Nat.le_of_ble_eq_true rfl) (Nat.le_of_ble_eq_true rfl)
  refine jk_ws (ws' := (hb_v1 E q b1 b2 (hb_o E ao O :: Y2) C G M u.2.1 u.2.2.1 u.2.2.2)) rfl ?_
  refine jk_st (st' := [.int (hb_tr C2 G2 M2 C G M n u.1), .int 0, .ref ao]) rfl ?_
  refine jk_i2l K dL_reachOf_7 ?_
  refine jk_last (w' := (hb_v1 E q b1 b2 (hb_o E ao (vp_updL O 0 (Int32.toInt64 (hb_tr C2 G2 M2 C G M n u.1))) :: Y2) C G M u.2.1 u.2.2.1 u.2.2.2)) K dL_reachOf_8 29 hb_out (vp_in_nI (n := 0) (by decide) (by decide)) (by rw [show Int32.toNatClampNeg 0 = 0 from by decide]; exact hb_outs) ?_
  refine jk_goto (tgt := 18) K dL_reachOf_9 rfl ?_
  refine jk_iconst (x := 0) K dL_reachOf_18 rfl ?_
  exact jk_iret K hz dL_reachOf_19 (.inl u) rfl hu rfl rfl (Nat.le_of_ble_eq_true rfl) (Nat.le_of_ble_eq_true rfl)
