theorem kd_J6_bitCount_0f7a4 : yJ6_bitCount_0f7a4.cls ≠ "java/lang/invoke/MethodHandle" ∧ yJ6_bitCount_0f7a4.cls ≠ "java/lang/invoke/VarHandle" ∧ (parseMethodDescriptor yJ6_bitCount_0f7a4.desc).map (fun d => d.parameters.length) = some 1 := by decide +kernel
theorem kd_X1_burningFrom : yX1_burningFrom.cls = RX1 ∧ yX1_burningFrom.cls ≠ "java/lang/invoke/MethodHandle" ∧ yX1_burningFrom.cls ≠ "java/lang/invoke/VarHandle" ∧ (parseMethodDescriptor yX1_burningFrom.desc).map (fun d => d.parameters.length) = some 1 := by decide +kernel
theorem kd_X1_copyFrom : yX1_copyFrom.cls = RX1 ∧ yX1_copyFrom.cls ≠ "java/lang/invoke/MethodHandle" ∧ yX1_copyFrom.cls ≠ "java/lang/invoke/VarHandle" ∧ (parseMethodDescriptor yX1_copyFrom.desc).map (fun d => d.parameters.length) = some 1 := by decide +kernel
theorem kd_X1_passMany : yX1_passMany.cls = RX1 ∧ yX1_passMany.cls ≠ "java/lang/invoke/MethodHandle" ∧ yX1_passMany.cls ≠ "java/lang/invoke/VarHandle" ∧ (parseMethodDescriptor yX1_passMany.desc).map (fun d => d.parameters.length) = some 1 := by decide +kernel
theorem kd_X1_settle : yX1_settle.cls = RX1 ∧ yX1_settle.cls ≠ "java/lang/invoke/MethodHandle" ∧ yX1_settle.cls ≠ "java/lang/invoke/VarHandle" ∧ (parseMethodDescriptor yX1_settle.desc).map (fun d => d.parameters.length) = some 3 := by decide +kernel
theorem kd_X1_stepsFrom : yX1_stepsFrom.cls = RX1 ∧ yX1_stepsFrom.cls ≠ "java/lang/invoke/MethodHandle" ∧ yX1_stepsFrom.cls ≠ "java/lang/invoke/VarHandle" ∧ (parseMethodDescriptor yX1_stepsFrom.desc).map (fun d => d.parameters.length) = some 2 := by decide +kernel
theorem kd_X1_sumWood : yX1_sumWood.cls = RX1 ∧ yX1_sumWood.cls ≠ "java/lang/invoke/MethodHandle" ∧ yX1_sumWood.cls ≠ "java/lang/invoke/VarHandle" ∧ (parseMethodDescriptor yX1_sumWood.desc).map (fun d => d.parameters.length) = some 0 := by decide +kernel
theorem kd_X2_digestHill : yX2_digestHill.cls ≠ "java/lang/invoke/MethodHandle" ∧ yX2_digestHill.cls ≠ "java/lang/invoke/VarHandle" ∧ (parseMethodDescriptor yX2_digestHill.desc).map (fun d => d.parameters.length) = some 2 := by decide +kernel
theorem kd_X2_digestHills : yX2_digestHills.cls = RX2 ∧ yX2_digestHills.cls ≠ "java/lang/invoke/MethodHandle" ∧ yX2_digestHills.cls ≠ "java/lang/invoke/VarHandle" ∧ (parseMethodDescriptor yX2_digestHills.desc).map (fun d => d.parameters.length) = some 1 := by decide +kernel
theorem kd_X2_digestLand : yX2_digestLand.cls = RX2 ∧ yX2_digestLand.cls ≠ "java/lang/invoke/MethodHandle" ∧ yX2_digestLand.cls ≠ "java/lang/invoke/VarHandle" ∧ (parseMethodDescriptor yX2_digestLand.desc).map (fun d => d.parameters.length) = some 1 := by decide +kernel
theorem kd_X2_digestSights : yX2_digestSights.cls = RX2 ∧ yX2_digestSights.cls ≠ "java/lang/invoke/MethodHandle" ∧ yX2_digestSights.cls ≠ "java/lang/invoke/VarHandle" ∧ (parseMethodDescriptor yX2_digestSights.desc).map (fun d => d.parameters.length) = some 1 := by decide +kernel
theorem kd_X2_mix : yX2_mix.cls ≠ "java/lang/invoke/MethodHandle" ∧ yX2_mix.cls ≠ "java/lang/invoke/VarHandle" ∧ (parseMethodDescriptor yX2_mix.desc).map (fun d => d.parameters.length) = some 2 := by decide +kernel
theorem kd_X2_mixIf : yX2_mixIf.cls ≠ "java/lang/invoke/MethodHandle" ∧ yX2_mixIf.cls ≠ "java/lang/invoke/VarHandle" ∧ (parseMethodDescriptor yX2_mixIf.desc).map (fun d => d.parameters.length) = some 2 := by decide +kernel
theorem kd_X2_tryReach : yX2_tryReach.cls = RX2 ∧ yX2_tryReach.cls ≠ "java/lang/invoke/MethodHandle" ∧ yX2_tryReach.cls ≠ "java/lang/invoke/VarHandle" ∧ (parseMethodDescriptor yX2_tryReach.desc).map (fun d => d.parameters.length) = some 1 := by decide +kernel
set_option maxHeartbeats 4000000 in
set_option maxRecDepth 100000 in
theorem hb_X2_milesBetween (l : Launch) (hl : l.stackTraces = false) (E : jk_T) (q : Nat) (b1 b2 : Nat → Nat) (Y : va_W) (C : Nat → Nat → Int32) (G M : Nat → Int32) (C2 : Nat → Nat → Int32) (G2 M2 : Nat → Int32) (n : Nat) (hn : n ≤ 10) (hg : G 0 = nI n) (x y : Int32) : jk_Cx l yX2_milesBetween wsX2_milesBetween ({ frames := 7, cells := 2, slots := 12, locals := 111 } : Room) [.ref q, .int x, .int y] E (hb_v1 E q b1 b2 Y C G M C2 G2 M2) (fun u : Nat × Nat => some (.int (M (u.1 * 10 + u.2)))) (fun _ => (hb_v1 E q b1 b2 Y C G M C2 G2 M2)) (fun u => u.1 < n ∧ u.2 < n ∧ x = nI u.1 ∧ y = nI u.2) (fun Ex => Ex = "java/lang/IndexOutOfBoundsException" ∧ ¬ (hb_ok n x ∧ hb_ok n y)) := by
  refine jk_ofx (lv := [(0, .ref q), (1, .int x), (2, .int y)]) (own := RX2) (nm := "milesBetween") hl (by decide +kernel) rfl (Nat.le_of_ble_eq_true rfl) rfl rfl rfl (fun Γ hΓ K hnm hz hzx => ?_)
  subst hΓ
  have hin_RX2 : ∀ w ∈ u_ws RX2 TX2 2, w ∈ wsX2_milesBetween := by decide +kernel
  refine jk_aload_n K dX2_milesBetween_0 rfl 0 rfl ?_
  refine jk_iload_n K dX2_milesBetween_1 rfl 1 rfl ?_
  refine jk_cVvx K (n' := 1) (k' := 6) [.int x] [] dX2_milesBetween_2 (hb_X2_requireHill _ hl E q b1 b2 Y C G M C2 G2 M2 n hn hg x) gX2_milesBetween_X2_requireHill rfl kd_X2_requireHill ⟨Nat.le_of_ble_eq_true rfl, Nat.le_of_ble_eq_true rfl⟩ 0 rfl rfl (Nat.le_of_ble_eq_true rfl) ⟨rfl, rfl⟩ ⟨Nat.le_of_ble_eq_true rfl, Nat.le_of_ble_eq_true rfl⟩ rfl (fun Ex hx => jk_out K hzx ⟨hx.1, fun q => hx.2 q.1⟩ (Nat.le_of_ble_eq_true rfl) (Nat.le_of_ble_eq_true rfl)) (fun i hp => ?_)
  obtain ⟨hi, rfl⟩ := hp
  refine jk_aload_n K dX2_milesBetween_5 rfl 0 rfl ?_
  refine jk_iload_n K dX2_milesBetween_6 rfl 2 rfl ?_
  refine jk_cVvx K (n' := 2) (k' := 12) [.int y] [] dX2_milesBetween_7 (hb_X2_requireHill _ hl E q b1 b2 Y C G M C2 G2 M2 n hn hg y) gX2_milesBetween_X2_requireHill rfl kd_X2_requireHill ⟨Nat.le_of_ble_eq_true rfl, Nat.le_of_ble_eq_true rfl⟩ 0 rfl rfl (Nat.le_of_ble_eq_true rfl) ⟨rfl, rfl⟩ ⟨Nat.le_of_ble_eq_true rfl, Nat.le_of_ble_eq_true rfl⟩ rfl (fun Ex hx => jk_out K hzx ⟨hx.1, fun q => hx.2 q.2⟩ (Nat.le_of_ble_eq_true rfl) (Nat.le_of_ble_eq_true rfl)) (fun k hp => ?_)
  obtain ⟨hk, rfl⟩ := hp
  refine jk_aload_n K dX2_milesBetween_10 rfl 0 rfl ?_
  refine jk_get (C := RX2) (T := TX2) (N := 2) (nm := "land") (ds := "LHillBeacons$Land;") (v := .ref (b1 0)) K dX2_milesBetween_11 hin_RX2 (by decide +kernel) 0 rfl rfl 0 rfl (by decide) rfl ?_
  refine jk_iload_n K dX2_milesBetween_14 rfl 1 rfl ?_
  refine jk_iload_n K dX2_milesBetween_15 rfl 2 rfl ?_
  refine jk_cVi K (n' := 2) (k' := 12) [.int (nI i), .int (nI k)] [] dX2_milesBetween_16 (hb_X1_milesFrom _ hl E [hb_ob q b1 b2] (hb_LW E b2 C2 G2 M2 ++ Y) b1 C G M i k (Nat.lt_of_lt_of_le hi hn) (Nat.lt_of_lt_of_le hk hn)) gX2_milesBetween_X1_milesFrom rfl kd_X1_milesFrom ⟨Nat.le_of_ble_eq_true rfl, Nat.le_of_ble_eq_true rfl⟩ ([hb_ob q b1 b2].length + 0) hb_L0 rfl (Nat.le_of_ble_eq_true rfl) ⟨rfl, rfl⟩ ⟨Nat.le_of_ble_eq_true rfl, Nat.le_of_ble_eq_true rfl⟩ rfl (fun _ _ => ?_)
  exact jk_iret K hz dX2_milesBetween_19 (i, k) rfl ⟨hi, hk, rfl, rfl⟩ rfl rfl (Nat.le_of_ble_eq_true rfl) (Nat.le_of_ble_eq_true rfl)
set_option maxHeartbeats 4000000 in
set_option maxRecDepth 100000 in
theorem hb_X2_canSee (l : Launch) (hl : l.stackTraces = false) (E : jk_T) (q : Nat) (b1 b2 : Nat → Nat) (Y : va_W) (C : Nat → Nat → Int32) (G M : Nat → Int32) (C2 : Nat → Nat → Int32) (G2 M2 : Nat → Int32) (n : Nat) (hn : n ≤ 10) (hg : G 0 = nI n) (x y : Int32) : jk_Cx l yX2_canSee wsX2_canSee ({ frames := 7, cells := 2, slots := 12, locals := 111 } : Room) [.ref q, .int x, .int y] E (hb_v1 E q b1 b2 Y C G M C2 G2 M2) (fun u : Nat × Nat => some (.int (hb_clr (G 1) (M (u.1 * 10 + u.2))))) (fun _ => (hb_v1 E q b1 b2 Y C G M C2 G2 M2)) (fun u => u.1 < n ∧ u.2 < n ∧ x = nI u.1 ∧ y = nI u.2) (fun Ex => Ex = "java/lang/IndexOutOfBoundsException" ∧ ¬ (hb_ok n x ∧ hb_ok n y)) := by
  refine jk_ofx (lv := [(0, .ref q), (1, .int x), (2, .int y)]) (own := RX2) (nm := "canSee") hl (by decide +kernel) rfl (Nat.le_of_ble_eq_true rfl) rfl rfl rfl (fun Γ hΓ K hnm hz hzx => ?_)
  subst hΓ
  have hin_RX2 : ∀ w ∈ u_ws RX2 TX2 2, w ∈ wsX2_canSee := by decide +kernel
  refine jk_aload_n K dX2_canSee_0 rfl 0 rfl ?_
  refine jk_iload_n K dX2_canSee_1 rfl 1 rfl ?_
  refine jk_cVvx K (n' := 1) (k' := 6) [.int x] [] dX2_canSee_2 (hb_X2_requireHill _ hl E q b1 b2 Y C G M C2 G2 M2 n hn hg x) gX2_canSee_X2_requireHill rfl kd_X2_requireHill ⟨Nat.le_of_ble_eq_true rfl, Nat.le_of_ble_eq_true rfl⟩ 0 rfl rfl (Nat.le_of_ble_eq_true rfl) ⟨rfl, rfl⟩ ⟨Nat.le_of_ble_eq_true rfl, Nat.le_of_ble_eq_true rfl⟩ rfl (fun Ex hx => jk_out K hzx ⟨hx.1, fun q => hx.2 q.1⟩ (Nat.le_of_ble_eq_true rfl) (Nat.le_of_ble_eq_true rfl)) (fun i hp => ?_)
  obtain ⟨hi, rfl⟩ := hp
  refine jk_aload_n K dX2_canSee_5 rfl 0 rfl ?_
  refine jk_iload_n K dX2_canSee_6 rfl 2 rfl ?_
  refine jk_cVvx K (n' := 2) (k' := 12) [.int y] [] dX2_canSee_7 (hb_X2_requireHill _ hl E q b1 b2 Y C G M C2 G2 M2 n hn hg y) gX2_canSee_X2_requireHill rfl kd_X2_requireHill ⟨Nat.le_of_ble_eq_true rfl, Nat.le_of_ble_eq_true rfl⟩ 0 rfl rfl (Nat.le_of_ble_eq_true rfl) ⟨rfl, rfl⟩ ⟨Nat.le_of_ble_eq_true rfl, Nat.le_of_ble_eq_true rfl⟩ rfl (fun Ex hx => jk_out K hzx ⟨hx.1, fun q => hx.2 q.2⟩ (Nat.le_of_ble_eq_true rfl) (Nat.le_of_ble_eq_true rfl)) (fun k hp => ?_)
  obtain ⟨hk, rfl⟩ := hp
  refine jk_aload_n K dX2_canSee_10 rfl 0 rfl ?_
  refine jk_get (C := RX2) (T := TX2) (N := 2) (nm := "land") (ds := "LHillBeacons$Land;") (v := .ref (b1 0)) K dX2_canSee_11 hin_RX2 (by decide +kernel) 0 rfl rfl 0 rfl (by decide) rfl ?_
  refine jk_iload_n K dX2_canSee_14 rfl 1 rfl ?_
  refine jk_iload_n K dX2_canSee_15 rfl 2 rfl ?_
  refine jk_cVi K (n' := 2) (k' := 12) [.int (nI i), .int (nI k)] [] dX2_canSee_16 (hb_X1_sees _ hl E [hb_ob q b1 b2] (hb_LW E b2 C2 G2 M2 ++ Y) b1 C G M i k (Nat.lt_of_lt_of_le hi hn) (Nat.lt_of_lt_of_le hk hn)) gX2_canSee_X1_sees rfl kd_X1_sees ⟨Nat.le_of_ble_eq_true rfl, Nat.le_of_ble_eq_true rfl⟩ ([hb_ob q b1 b2].length + 0) hb_L0 rfl (Nat.le_of_ble_eq_true rfl) ⟨rfl, rfl⟩ ⟨Nat.le_of_ble_eq_true rfl, Nat.le_of_ble_eq_true rfl⟩ rfl (fun _ _ => ?_)
  exact jk_iret K hz dX2_canSee_19 (i, k) rfl ⟨hi, hk, rfl, rfl⟩ rfl (by unfold hb_clr; split <;> rfl) (Nat.le_of_ble_eq_true rfl) (Nat.le_of_ble_eq_true rfl)
set_option maxHeartbeats 4000000 in
set_option maxRecDepth 100000 in
theorem hb_X2_fewestSteps (l : Launch) (hl : l.stackTraces = false) (E : jk_T) (q : Nat) (b1 b2 : Nat → Nat) (Y : va_W) (C : Nat → Nat → Int32) (G M : Nat → Int32) (C2 : Nat → Nat → Int32) (G2 M2 : Nat → Int32) (n : Nat) (hn : n ≤ 10) (hg : G 0 = nI n) (x y : Int32) : jk_Cx l yX2_fewestSteps wsX2_fewestSteps ({ frames := 7, cells := 2, slots := 12, locals := 115 } : Room) [.ref q, .int x, .int y] E (hb_v1 E q b1 b2 Y C G M C2 G2 M2) (fun u : Nat × Nat => some (.int (hb_steps G M n u.1 u.2))) (fun _ => (hb_v1 E q b1 b2 Y C G M C2 G2 M2)) (fun u => u.1 < n ∧ u.2 < n ∧ x = nI u.1 ∧ y = nI u.2) (fun Ex => Ex = "java/lang/IndexOutOfBoundsException" ∧ ¬ (hb_ok n x ∧ hb_ok n y)) := by
  refine jk_ofx (lv := [(0, .ref q), (1, .int x), (2, .int y)]) (own := RX2) (nm := "fewestSteps") hl (by decide +kernel) rfl (Nat.le_of_ble_eq_true rfl) rfl rfl rfl (fun Γ hΓ K hnm hz hzx => ?_)
  subst hΓ
  have hin_RX2 : ∀ w ∈ u_ws RX2 TX2 2, w ∈ wsX2_fewestSteps := by decide +kernel
  refine jk_aload_n K dX2_fewestSteps_0 rfl 0 rfl ?_
  refine jk_iload_n K dX2_fewestSteps_1 rfl 1 rfl ?_
  refine jk_cVvx K (n' := 1) (k' := 6) [.int x] [] dX2_fewestSteps_2 (hb_X2_requireHill _ hl E q b1 b2 Y C G M C2 G2 M2 n hn hg x) gX2_fewestSteps_X2_requireHill rfl kd_X2_requireHill ⟨Nat.le_of_ble_eq_true rfl, Nat.le_of_ble_eq_true rfl⟩ 0 rfl rfl (Nat.le_of_ble_eq_true rfl) ⟨rfl, rfl⟩ ⟨Nat.le_of_ble_eq_true rfl, Nat.le_of_ble_eq_true rfl⟩ rfl (fun Ex hx => jk_out K hzx ⟨hx.1, fun q => hx.2 q.1⟩ (Nat.le_of_ble_eq_true rfl) (Nat.le_of_ble_eq_true rfl)) (fun i hp => ?_)
  obtain ⟨hi, rfl⟩ := hp
  refine jk_aload_n K dX2_fewestSteps_5 rfl 0 rfl ?_
  refine jk_iload_n K dX2_fewestSteps_6 rfl 2 rfl ?_
  refine jk_cVvx K (n' := 2) (k' := 12) [.int y] [] dX2_fewestSteps_7 (hb_X2_requireHill _ hl E q b1 b2 Y C G M C2 G2 M2 n hn hg y) gX2_fewestSteps_X2_requireHill rfl kd_X2_requireHill ⟨Nat.le_of_ble_eq_true rfl, Nat.le_of_ble_eq_true rfl⟩ 0 rfl rfl (Nat.le_of_ble_eq_true rfl) ⟨rfl, rfl⟩ ⟨Nat.le_of_ble_eq_true rfl, Nat.le_of_ble_eq_true rfl⟩ rfl (fun Ex hx => jk_out K hzx ⟨hx.1, fun q => hx.2 q.2⟩ (Nat.le_of_ble_eq_true rfl) (Nat.le_of_ble_eq_true rfl)) (fun k hp => ?_)
  obtain ⟨hk, rfl⟩ := hp
  refine jk_aload_n K dX2_fewestSteps_10 rfl 0 rfl ?_
  refine jk_get (C := RX2) (T := TX2) (N := 2) (nm := "land") (ds := "LHillBeacons$Land;") (v := .ref (b1 0)) K dX2_fewestSteps_11 hin_RX2 (by decide +kernel) 0 rfl rfl 0 rfl (by decide) rfl ?_
  refine jk_iload_n K dX2_fewestSteps_14 rfl 1 rfl ?_
  refine jk_iload_n K dX2_fewestSteps_15 rfl 2 rfl ?_
  refine jk_cVi K (n' := 2) (k' := 12) [.int (nI i), .int (nI k)] [] dX2_fewestSteps_16 (hb_X1_stepsFrom _ hl E [hb_ob q b1 b2] (hb_LW E b2 C2 G2 M2 ++ Y) b1 C G M i k (Nat.lt_of_lt_of_le hi hn) (Nat.lt_of_lt_of_le hk hn) n hn hg) gX2_fewestSteps_X1_stepsFrom rfl kd_X1_stepsFrom ⟨Nat.le_of_ble_eq_true rfl, Nat.le_of_ble_eq_true rfl⟩ ([hb_ob q b1 b2].length + 0) hb_L0 rfl (Nat.le_of_ble_eq_true rfl) ⟨rfl, rfl⟩ ⟨Nat.le_of_ble_eq_true rfl, Nat.le_of_ble_eq_true rfl⟩ rfl (fun _ _ => ?_)
  exact jk_iret K hz dX2_fewestSteps_19 (i, k) rfl ⟨hi, hk, rfl, rfl⟩ rfl rfl (Nat.le_of_ble_eq_true rfl) (Nat.le_of_ble_eq_true rfl)
set_option maxHeartbeats 4000000 in
set_option maxRecDepth 100000 in
theorem hb_X2_setSight (l : Launch) (hl : l.stackTraces = false) (E : jk_T) (q : Nat) (b1 b2 : Nat → Nat) (Y : va_W) (C : Nat → Nat → Int32) (G M : Nat → Int32) (C2 : Nat → Nat → Int32) (G2 M2 : Nat → Int32) (n : Nat) (hn : n ≤ 10) (hg : G 0 = nI n) (x y z : Int32) : jk_Cx l yX2_setSight wsX2_setSight ({ frames := 7, cells := 4, slots := 24, locals := 112 } : Room) [.ref q, .int x, .int y, .int z] E (hb_v1 E q b1 b2 Y C G M C2 G2 M2) (fun u : Nat × Nat => some (.int (M (u.1 * 10 + u.2)))) (fun u => (hb_v1 E q b1 b2 Y C G (upd (upd M (u.1 * 10 + u.2) z) (u.2 * 10 + u.1) z) C2 G2 M2)) (fun u => u.1 < n ∧ u.2 < n ∧ x = nI u.1 ∧ y = nI u.2 ∧ ¬ x = y ∧ hb_bt z 0 20) (fun Ex => (Ex = "java/lang/IndexOutOfBoundsException" ∧ ¬ (hb_ok n x ∧ hb_ok n y)) ∨ (Ex = "java/lang/IllegalArgumentException" ∧ hb_ok n x ∧ hb_ok n y ∧ (x = y ∨ ¬ hb_bt z 0 20))) := by
  refine jk_ofx (lv := [(0, .ref q), (1, .int x), (2, .int y), (3, .int z)]) (own := RX2) (nm := "setSight") hl (by decide +kernel) rfl (Nat.le_of_ble_eq_true rfl) rfl rfl rfl (fun Γ hΓ K hnm hz hzx => ?_)
  subst hΓ
  have hin_RX2 : ∀ w ∈ u_ws RX2 TX2 2, w ∈ wsX2_setSight := by decide +kernel
  refine jk_aload_n K dX2_setSight_0 rfl 0 rfl ?_
  refine jk_iload_n K dX2_setSight_1 rfl 1 rfl ?_
  refine jk_cVvx K (n' := 1) (k' := 6) [.int x] [] dX2_setSight_2 (hb_X2_requireHill _ hl E q b1 b2 Y C G M C2 G2 M2 n hn hg x) gX2_setSight_X2_requireHill rfl kd_X2_requireHill ⟨Nat.le_of_ble_eq_true rfl, Nat.le_of_ble_eq_true rfl⟩ 0 rfl rfl (Nat.le_of_ble_eq_true rfl) ⟨rfl, rfl⟩ ⟨Nat.le_of_ble_eq_true rfl, Nat.le_of_ble_eq_true rfl⟩ rfl (fun Ex hx => jk_out K hzx (Or.inl ⟨hx.1, fun q => hx.2 q.1⟩) (Nat.le_of_ble_eq_true rfl) (Nat.le_of_ble_eq_true rfl)) (fun i hp => ?_)
  obtain ⟨hi, rfl⟩ := hp
  refine jk_aload_n K dX2_setSight_5 rfl 0 rfl ?_
  refine jk_iload_n K dX2_setSight_6 rfl 2 rfl ?_
  refine jk_cVvx K (n' := 2) (k' := 12) [.int y] [] dX2_setSight_7 (hb_X2_requireHill _ hl E q b1 b2 Y C G M C2 G2 M2 n hn hg y) gX2_setSight_X2_requireHill rfl kd_X2_requireHill ⟨Nat.le_of_ble_eq_true rfl, Nat.le_of_ble_eq_true rfl⟩ 0 rfl rfl (Nat.le_of_ble_eq_true rfl) ⟨rfl, rfl⟩ ⟨Nat.le_of_ble_eq_true rfl, Nat.le_of_ble_eq_true rfl⟩ rfl (fun Ex hx => jk_out K hzx (Or.inl ⟨hx.1, fun q => hx.2 q.2⟩) (Nat.le_of_ble_eq_true rfl) (Nat.le_of_ble_eq_true rfl)) (fun k hp => ?_)
  obtain ⟨hk, rfl⟩ := hp
  refine jk_iload_n K dX2_setSight_10 rfl 1 rfl ?_
  refine jk_iload_n K dX2_setSight_11 rfl 2 rfl ?_
  refine jk_icmp_ne (tgt := 25) K dX2_setSight_12 rfl (fun c_12 => ?_) (fun c_12 => ?_)
  · refine jk_iload_n K dX2_setSight_25 rfl 3 rfl ?_
    refine jk_iconst (x := 0) K dX2_setSight_26 rfl ?_
    refine jk_bipush (x := 20) K dX2_setSight_27 rfl ?_
    refine jk_cSvx K (n' := 3) (k' := 18) [.int z, .int 0, .int 20] [] dX2_setSight_29 (hb_X2_requireBetween _ hl E (hb_L E [hb_ob q b1 b2] (hb_LW E b2 C2 G2 M2 ++ Y) b1 C G M) z 0 20) gX2_setSight_X2_requireBetween rfl kd_X2_requireBetween ⟨Nat.le_of_ble_eq_true rfl, Nat.le_of_ble_eq_true rfl⟩ (Nat.le_of_ble_eq_true rfl) ⟨rfl, rfl⟩ ⟨Nat.le_of_ble_eq_true rfl, Nat.le_of_ble_eq_true rfl⟩ rfl (fun Ex hx => jk_out K hzx (Or.inr ⟨hx.1, hb_ok_i hi, hb_ok_i hk, Or.inr hx.2⟩) (Nat.le_of_ble_eq_true rfl) (Nat.le_of_ble_eq_true rfl)) (fun _ hbt29 => ?_)
    refine jk_aload_n K dX2_setSight_32 rfl 0 rfl ?_
    refine jk_get (C := RX2) (T := TX2) (N := 2) (nm := "land") (ds := "LHillBeacons$Land;") (v := .ref (b1 0)) K dX2_setSight_33 hin_RX2 (by decide +kernel) 0 rfl rfl 0 rfl (by decide) rfl ?_
    refine jk_iload_n K dX2_setSight_36 rfl 1 rfl ?_
    refine jk_iload_n K dX2_setSight_37 rfl 2 rfl ?_
    refine jk_cVi K (n' := 3) (k' := 18) [.int (nI i), .int (nI k)] [] dX2_setSight_38 (hb_X1_milesFrom _ hl E [hb_ob q b1 b2] (hb_LW E b2 C2 G2 M2 ++ Y) b1 C G M i k (Nat.lt_of_lt_of_le hi hn) (Nat.lt_of_lt_of_le hk hn)) gX2_setSight_X1_milesFrom rfl kd_X1_milesFrom ⟨Nat.le_of_ble_eq_true rfl, Nat.le_of_ble_eq_true rfl⟩ ([hb_ob q b1 b2].length + 0) hb_L0 rfl (Nat.le_of_ble_eq_true rfl) ⟨rfl, rfl⟩ ⟨Nat.le_of_ble_eq_true rfl, Nat.le_of_ble_eq_true rfl⟩ rfl (fun _ _ => ?_)
    refine jk_istore (lv' := [(4, .int (M (i * 10 + k))), (0, .ref q), (1, .int (nI i)), (2, .int (nI k)), (3, .int z)]) K dX2_setSight_41 (by decide) rfl ?_
    refine jk_aload_n K dX2_setSight_43 rfl 1 rfl ?_
    refine jk_get (C := RX2) (T := TX2) (N := 2) (nm := "land") (ds := "LHillBeacons$Land;") (v := .ref (b1 0)) K dX2_setSight_44 hin_RX2 (by decide +kernel) 0 rfl rfl 0 rfl (by decide) rfl ?_
    refine jk_iload_n K dX2_setSight_47 rfl 2 rfl ?_
    refine jk_iload_n K dX2_setSight_48 rfl 3 rfl ?_
    refine jk_iload_n K dX2_setSight_49 rfl 4 rfl ?_
    refine jk_cVv K (n' := 3) (k' := 18) [.int (nI i), .int (nI k), .int z] [] dX2_setSight_50 (hb_X1_putMiles _ hl E [hb_ob q b1 b2] (hb_LW E b2 C2 G2 M2 ++ Y) b1 C G M i k (Nat.lt_of_lt_of_le hi hn) (Nat.lt_of_lt_of_le hk hn) z) gX2_setSight_X1_putMiles rfl kd_X1_putMiles ⟨Nat.le_of_ble_eq_true rfl, Nat.le_of_ble_eq_true rfl⟩ ([hb_ob q b1 b2].length + 0) hb_L0 rfl (Nat.le_of_ble_eq_true rfl) ⟨rfl, rfl⟩ ⟨Nat.le_of_ble_eq_true rfl, Nat.le_of_ble_eq_true rfl⟩ rfl (fun _ _ => ?_)
    refine jk_aload_n K dX2_setSight_53 rfl 1 rfl ?_
    refine jk_get (C := RX2) (T := TX2) (N := 2) (nm := "land") (ds := "LHillBeacons$Land;") (v := .ref (b1 0)) K dX2_setSight_54 hin_RX2 (by decide +kernel) 0 rfl rfl 0 rfl (by decide) rfl ?_
    refine jk_iload_n K dX2_setSight_57 rfl 3 rfl ?_
    refine jk_iload_n K dX2_setSight_58 rfl 2 rfl ?_
    refine jk_iload_n K dX2_setSight_59 rfl 4 rfl ?_
    refine jk_cVv K (n' := 3) (k' := 18) [.int (nI k), .int (nI i), .int z] [] dX2_setSight_60 (hb_X1_putMiles _ hl E [hb_ob q b1 b2] (hb_LW E b2 C2 G2 M2 ++ Y) b1 C G (upd M (i * 10 + k) z) k i (Nat.lt_of_lt_of_le hk hn) (Nat.lt_of_lt_of_le hi hn) z) gX2_setSight_X1_putMiles rfl kd_X1_putMiles ⟨Nat.le_of_ble_eq_true rfl, Nat.le_of_ble_eq_true rfl⟩ ([hb_ob q b1 b2].length + 0) hb_L0 rfl (Nat.le_of_ble_eq_true rfl) ⟨rfl, rfl⟩ ⟨Nat.le_of_ble_eq_true rfl, Nat.le_of_ble_eq_true rfl⟩ rfl (fun _ _ => ?_)
    refine jk_iload K dX2_setSight_63 0 rfl ?_
    exact jk_iret K hz dX2_setSight_65 (i, k) rfl ⟨hi, hk, rfl, rfl, c_12, hbt29⟩ rfl rfl (Nat.le_of_ble_eq_true rfl) (Nat.le_of_ble_eq_true rfl)
  · exact jk_throw K hzx (cls := "java/lang/IllegalArgumentException") (text := "a hill has no sight to itself") (Or.inr ⟨rfl, hb_ok_i hi, hb_ok_i hk, Or.inl c_12⟩) (by decide) (by decide) dX2_setSight_15 dX2_setSight_18 dX2_setSight_19 dX2_setSight_21 dX2_setSight_24 ⟨rfl, rfl, rfl, rfl⟩ (by decide +kernel) (by decide +kernel) (by decide +kernel) (by decide +kernel) (by decide +kernel) (by decide +kernel) ⟨(Nat.le_of_ble_eq_true rfl), (Nat.le_of_ble_eq_true rfl)⟩ (Nat.le_of_ble_eq_true rfl) (Nat.le_of_ble_eq_true rfl)
set_option maxHeartbeats 4000000 in
set_option maxRecDepth 100000 in
theorem hb_X2_addHill (l : Launch) (hl : l.stackTraces = false) (E : jk_T) (q : Nat) (b1 b2 : Nat → Nat) (Y : va_W) (C : Nat → Nat → Int32) (G M : Nat → Int32) (C2 : Nat → Nat → Int32) (G2 M2 : Nat → Int32) (n : Nat) (hn : n ≤ 10) (hg : G 0 = nI n) (x y z : Int32) : jk_Cx l yX2_addHill wsX2_addHill ({ frames := 7, cells := 4, slots := 24, locals := 112 } : Room) [.ref q, .int x, .int y, .int z] E (hb_v1 E q b1 b2 Y C G M C2 G2 M2) (fun _ : Unit => some (.int (nI n))) (fun _ => (hb_v1 E q b1 b2 Y (va_up C n (hb_fu (hb_fu (hb_fu (C n) 0 x) 1 y) 2 z)) (hb_fu G 0 (nI (n + 1))) M C2 G2 M2)) (fun _ => hb_bt x 0 30 ∧ hb_bt y 0 9 ∧ hb_bt z 1 5 ∧ n < 10) (fun Ex => (Ex = "java/lang/IllegalArgumentException" ∧ ¬ (hb_bt x 0 30 ∧ hb_bt y 0 9 ∧ hb_bt z 1 5)) ∨ (Ex = "java/lang/IllegalStateException" ∧ (hb_bt x 0 30 ∧ hb_bt y 0 9 ∧ hb_bt z 1 5) ∧ n = 10)) := by
  refine jk_ofx (lv := [(0, .ref q), (1, .int x), (2, .int y), (3, .int z)]) (own := RX2) (nm := "addHill") hl (by decide +kernel) rfl (Nat.le_of_ble_eq_true rfl) rfl rfl rfl (fun Γ hΓ K hnm hz hzx => ?_)
  subst hΓ
  have hin_RX1 : ∀ w ∈ u_ws RX1 TX1 9, w ∈ wsX2_addHill := by decide +kernel
  have hin_RX2 : ∀ w ∈ u_ws RX2 TX2 2, w ∈ wsX2_addHill := by decide +kernel
  refine jk_iload_n K dX2_addHill_0 rfl 1 rfl ?_
  refine jk_iconst (x := 0) K dX2_addHill_1 rfl ?_
  refine jk_bipush (x := 30) K dX2_addHill_2 rfl ?_
  refine jk_cSvx K (n' := 1) (k' := 6) [.int x, .int 0, .int 30] [] dX2_addHill_4 (hb_X2_requireBetween _ hl E (hb_L E [hb_ob q b1 b2] (hb_LW E b2 C2 G2 M2 ++ Y) b1 C G M) x 0 30) gX2_addHill_X2_requireBetween rfl kd_X2_requireBetween ⟨Nat.le_of_ble_eq_true rfl, Nat.le_of_ble_eq_true rfl⟩ (Nat.le_of_ble_eq_true rfl) ⟨rfl, rfl⟩ ⟨Nat.le_of_ble_eq_true rfl, Nat.le_of_ble_eq_true rfl⟩ rfl (fun Ex hx => jk_out K hzx (Or.inl ⟨hx.1, fun q => hx.2 q.1⟩) (Nat.le_of_ble_eq_true rfl) (Nat.le_of_ble_eq_true rfl)) (fun _ hbt4 => ?_)
  refine jk_iload_n K dX2_addHill_7 rfl 2 rfl ?_
  refine jk_iconst (x := 0) K dX2_addHill_8 rfl ?_
  refine jk_bipush (x := 9) K dX2_addHill_9 rfl ?_
  refine jk_cSvx K (n' := 2) (k' := 12) [.int y, .int 0, .int 9] [] dX2_addHill_11 (hb_X2_requireBetween _ hl E (hb_L E [hb_ob q b1 b2] (hb_LW E b2 C2 G2 M2 ++ Y) b1 C G M) y 0 9) gX2_addHill_X2_requireBetween rfl kd_X2_requireBetween ⟨Nat.le_of_ble_eq_true rfl, Nat.le_of_ble_eq_true rfl⟩ (Nat.le_of_ble_eq_true rfl) ⟨rfl, rfl⟩ ⟨Nat.le_of_ble_eq_true rfl, Nat.le_of_ble_eq_true rfl⟩ rfl (fun Ex hx => jk_out K hzx (Or.inl ⟨hx.1, fun q => hx.2 q.2.1⟩) (Nat.le_of_ble_eq_true rfl) (Nat.le_of_ble_eq_true rfl)) (fun _ hbt11 => ?_)
  refine jk_iload_n K dX2_addHill_14 rfl 3 rfl ?_
  refine jk_iconst (x := 1) K dX2_addHill_15 rfl ?_
  refine jk_iconst (x := 5) K dX2_addHill_16 rfl ?_
  refine jk_cSvx K (n' := 3) (k' := 18) [.int z, .int 1, .int 5] [] dX2_addHill_17 (hb_X2_requireBetween _ hl E (hb_L E [hb_ob q b1 b2] (hb_LW E b2 C2 G2 M2 ++ Y) b1 C G M) z 1 5) gX2_addHill_X2_requireBetween rfl kd_X2_requireBetween ⟨Nat.le_of_ble_eq_true rfl, Nat.le_of_ble_eq_true rfl⟩ (Nat.le_of_ble_eq_true rfl) ⟨rfl, rfl⟩ ⟨Nat.le_of_ble_eq_true rfl, Nat.le_of_ble_eq_true rfl⟩ rfl (fun Ex hx => jk_out K hzx (Or.inl ⟨hx.1, fun q => hx.2 q.2.2⟩) (Nat.le_of_ble_eq_true rfl) (Nat.le_of_ble_eq_true rfl)) (fun _ hbt17 => ?_)
  refine jk_aload_n K dX2_addHill_20 rfl 0 rfl ?_
  refine jk_get (C := RX2) (T := TX2) (N := 2) (nm := "land") (ds := "LHillBeacons$Land;") (v := .ref (b1 0)) K dX2_addHill_21 hin_RX2 (by decide +kernel) 0 rfl rfl 0 rfl (by decide) rfl ?_
  refine jk_get (C := RX1) (T := TX1) (N := 9) (nm := "count") (ds := "I") (v := .int (G 0)) K dX2_addHill_24 hin_RX1 (by decide +kernel) ([hb_ob q b1 b2].length + 0) hb_L0 rfl 3 rfl (by decide) rfl ?_
  refine jk_bipush (x := (nI 10)) K dX2_addHill_27 rfl ?_
  refine jk_icmp_lt (tgt := 42) K dX2_addHill_29 rfl (fun c_29 => ?_) (fun c_29 => ?_)
  · have hn10 : n < 10 := by rw [hg] at c_29; exact (nI_ltI (by omega) (by omega)).mp c_29
    refine jk_aload_n K dX2_addHill_42 rfl 0 rfl ?_
    refine jk_get (C := RX2) (T := TX2) (N := 2) (nm := "land") (ds := "LHillBeacons$Land;") (v := .ref (b1 0)) K dX2_addHill_43 hin_RX2 (by decide +kernel) 0 rfl rfl 0 rfl (by decide) rfl ?_
    refine jk_iload_n K dX2_addHill_46 rfl 1 rfl ?_
    refine jk_iload_n K dX2_addHill_47 rfl 2 rfl ?_
    refine jk_iload_n K dX2_addHill_48 rfl 3 rfl ?_
    refine jk_cVi K (n' := 3) (k' := 18) [.int x, .int y, .int z] [] dX2_addHill_49 (hb_X1_settle _ hl E [hb_ob q b1 b2] (hb_LW E b2 C2 G2 M2 ++ Y) b1 C G M x y z n hn10 hg) gX2_addHill_X1_settle rfl kd_X1_settle ⟨Nat.le_of_ble_eq_true rfl, Nat.le_of_ble_eq_true rfl⟩ ([hb_ob q b1 b2].length + 0) hb_L0 rfl (Nat.le_of_ble_eq_true rfl) ⟨rfl, rfl⟩ ⟨Nat.le_of_ble_eq_true rfl, Nat.le_of_ble_eq_true rfl⟩ rfl (fun _ _ => ?_)
    exact jk_iret K hz dX2_addHill_52 () rfl ⟨hbt4, hbt11, hbt17, hn10⟩ rfl rfl (Nat.le_of_ble_eq_true rfl) (Nat.le_of_ble_eq_true rfl)
  · have hn10 : n = 10 := by rw [hg] at c_29; have h9 : ¬ n < 10 := fun q => c_29 (nI_lt q (by omega)); omega
    exact jk_throw K hzx (cls := "java/lang/IllegalStateException") (text := "there is no room for another hill") (Or.inr ⟨rfl, ⟨hbt4, hbt11, hbt17⟩, hn10⟩) (by decide) (by decide) dX2_addHill_32 dX2_addHill_35 dX2_addHill_36 dX2_addHill_38 dX2_addHill_41 ⟨rfl, rfl, rfl, rfl⟩ (by decide +kernel) (by decide +kernel) (by decide +kernel) (by decide +kernel) (by decide +kernel) (by decide +kernel) ⟨(Nat.le_of_ble_eq_true rfl), (Nat.le_of_ble_eq_true rfl)⟩ (Nat.le_of_ble_eq_true rfl) (Nat.le_of_ble_eq_true rfl)
set_option maxHeartbeats 4000000 in
set_option maxRecDepth 100000 in
theorem hb_X2_passMinutes (l : Launch) (hl : l.stackTraces = false) (E : jk_T) (q : Nat) (b1 b2 : Nat → Nat) (Y : va_W) (C : Nat → Nat → Int32) (G M : Nat → Int32) (C2 : Nat → Nat → Int32) (G2 M2 : Nat → Int32) (n : Nat) (hn : n ≤ 10) (hg : G 0 = nI n) (x : Int32) : jk_Cx l yX2_passMinutes wsX2_passMinutes ({ frames := 7, cells := 1, slots := 6, locals := 135 } : Room) [.ref q, .int x] E (hb_v1 E q b1 b2 Y C G M C2 G2 M2) (fun m : Nat => some (.int ((hb_pm C G M n m).2 4 - G 4))) (fun m => (hb_v1 E q b1 b2 Y (hb_pm C G M n m).1 (hb_pm C G M n m).2 M C2 G2 M2)) (fun m => 1 ≤ m ∧ m ≤ 100 ∧ x = nI m) (fun Ex => Ex = "java/lang/IllegalArgumentException" ∧ ¬ hb_bt x 1 100) := by
  refine jk_ofx (lv := [(0, .ref q), (1, .int x)]) (own := RX2) (nm := "passMinutes") hl (by decide +kernel) rfl (Nat.le_of_ble_eq_true rfl) rfl rfl rfl (fun Γ hΓ K hnm hz hzx => ?_)
  subst hΓ
  have hin_RX1 : ∀ w ∈ u_ws RX1 TX1 9, w ∈ wsX2_passMinutes := by decide +kernel
  have hin_RX2 : ∀ w ∈ u_ws RX2 TX2 2, w ∈ wsX2_passMinutes := by decide +kernel
  refine jk_iload_n K dX2_passMinutes_0 rfl 1 rfl ?_
  refine jk_iconst (x := 1) K dX2_passMinutes_1 rfl ?_
  refine jk_bipush (x := 100) K dX2_passMinutes_2 rfl ?_
  refine jk_cSvx K (n' := 1) (k' := 6) [.int x, .int 1, .int 100] [] dX2_passMinutes_4 (hb_X2_requireBetween _ hl E (hb_L E [hb_ob q b1 b2] (hb_LW E b2 C2 G2 M2 ++ Y) b1 C G M) x 1 100) gX2_passMinutes_X2_requireBetween rfl kd_X2_requireBetween ⟨Nat.le_of_ble_eq_true rfl, Nat.le_of_ble_eq_true rfl⟩ (Nat.le_of_ble_eq_true rfl) ⟨rfl, rfl⟩ ⟨Nat.le_of_ble_eq_true rfl, Nat.le_of_ble_eq_true rfl⟩ rfl (fun Ex hx => jk_out K hzx hx (Nat.le_of_ble_eq_true rfl) (Nat.le_of_ble_eq_true rfl)) (fun _ hbt4 => ?_)
  obtain ⟨m, hm1, hm, rfl⟩ := hb_bt_nat (lo := 1) (hi := 100) (by decide) (by decide) hbt4
  refine jk_aload_n K dX2_passMinutes_7 rfl 0 rfl ?_
  refine jk_get (C := RX2) (T := TX2) (N := 2) (nm := "land") (ds := "LHillBeacons$Land;") (v := .ref (b1 0)) K dX2_passMinutes_8 hin_RX2 (by decide +kernel) 0 rfl rfl 0 rfl (by decide) rfl ?_
  refine jk_get (C := RX1) (T := TX1) (N := 9) (nm := "lit") (ds := "I") (v := .int (G 4)) K dX2_passMinutes_11 hin_RX1 (by decide +kernel) ([hb_ob q b1 b2].length + 0) hb_L0 rfl 7 rfl (by decide) rfl ?_
  refine jk_istore_n (lv' := [(2, .int (G 4)), (0, .ref q), (1, .int (nI m))]) K dX2_passMinutes_14 rfl (by decide) rfl ?_
  refine jk_aload_n K dX2_passMinutes_15 rfl 1 rfl ?_
  refine jk_get (C := RX2) (T := TX2) (N := 2) (nm := "land") (ds := "LHillBeacons$Land;") (v := .ref (b1 0)) K dX2_passMinutes_16 hin_RX2 (by decide +kernel) 0 rfl rfl 0 rfl (by decide) rfl ?_
  refine jk_iload_n K dX2_passMinutes_19 rfl 2 rfl ?_
  refine jk_cVv K (n' := 1) (k' := 6) [.int (nI m)] [] dX2_passMinutes_20 (hb_X1_passMany _ hl E [hb_ob q b1 b2] (hb_LW E b2 C2 G2 M2 ++ Y) b1 C G M n hn hg m (by omega)) gX2_passMinutes_X1_passMany rfl kd_X1_passMany ⟨Nat.le_of_ble_eq_true rfl, Nat.le_of_ble_eq_true rfl⟩ ([hb_ob q b1 b2].length + 0) hb_L0 rfl (Nat.le_of_ble_eq_true rfl) ⟨rfl, rfl⟩ ⟨Nat.le_of_ble_eq_true rfl, Nat.le_of_ble_eq_true rfl⟩ rfl (fun _ _ => ?_)
  refine jk_aload_n K dX2_passMinutes_23 rfl 1 rfl ?_
  refine jk_get (C := RX2) (T := TX2) (N := 2) (nm := "land") (ds := "LHillBeacons$Land;") (v := .ref (b1 0)) K dX2_passMinutes_24 hin_RX2 (by decide +kernel) 0 rfl rfl 0 rfl (by decide) rfl ?_
  refine jk_get (C := RX1) (T := TX1) (N := 9) (nm := "lit") (ds := "I") (v := .int ((hb_pm C G M n m).2 4)) K dX2_passMinutes_27 hin_RX1 (by decide +kernel) ([hb_ob q b1 b2].length + 0) hb_L0 rfl 7 rfl (by decide) rfl ?_
  refine jk_iload_n K dX2_passMinutes_30 rfl 0 rfl ?_
  refine jk_isub K dX2_passMinutes_31 ?_
  exact jk_iret K hz dX2_passMinutes_32 m rfl ⟨hm1, hm, rfl⟩ rfl rfl (Nat.le_of_ble_eq_true rfl) (Nat.le_of_ble_eq_true rfl)
set_option maxHeartbeats 4000000 in
set_option maxRecDepth 100000 in
theorem hb_X2_burningAfter (l : Launch) (hl : l.stackTraces = false) (E : jk_T) (q : Nat) (b1 b2 : Nat → Nat) (Y : va_W) (C : Nat → Nat → Int32) (G M : Nat → Int32) (C2 : Nat → Nat → Int32) (G2 M2 : Nat → Int32) (n : Nat) (hn : n ≤ 10) (hg : G 0 = nI n) (x : Int32) : jk_Cx l yX2_burningAfter wsX2_burningAfter ({ frames := 7, cells := 1, slots := 6, locals := 135 } : Room) [.ref q, .int x] E (hb_v1 E q b1 b2 Y C G M C2 G2 M2) (fun u : Nat × hb_LS => some (.int (hb_burn (hb_pm (hb_cpC C2 C 10) (hb_cpG G2 G) (hb_cpM M2 M 10) n u.1).1 n))) (fun u => (hb_v1 E q b1 b2 Y C G M u.2.1 u.2.2.1 u.2.2.2)) (fun u => 1 ≤ u.1 ∧ u.1 ≤ 100 ∧ x = nI u.1) (fun Ex => Ex = "java/lang/IllegalArgumentException" ∧ ¬ hb_bt x 1 100) := by
  refine jk_ofx (lv := [(0, .ref q), (1, .int x)]) (own := RX2) (nm := "burningAfter") hl (by decide +kernel) rfl (Nat.le_of_ble_eq_true rfl) rfl rfl rfl (fun Γ hΓ K hnm hz hzx => ?_)
  subst hΓ
  have hin_RX2 : ∀ w ∈ u_ws RX2 TX2 2, w ∈ wsX2_burningAfter := by decide +kernel
  refine jk_iload_n K dX2_burningAfter_0 rfl 1 rfl ?_
  refine jk_iconst (x := 1) K dX2_burningAfter_1 rfl ?_
  refine jk_bipush (x := 100) K dX2_burningAfter_2 rfl ?_
  refine jk_cSvx K (n' := 1) (k' := 6) [.int x, .int 1, .int 100] [] dX2_burningAfter_4 (hb_X2_requireBetween _ hl E (hb_L E [hb_ob q b1 b2] (hb_LW E b2 C2 G2 M2 ++ Y) b1 C G M) x 1 100) gX2_burningAfter_X2_requireBetween rfl kd_X2_requireBetween ⟨Nat.le_of_ble_eq_true rfl, Nat.le_of_ble_eq_true rfl⟩ (Nat.le_of_ble_eq_true rfl) ⟨rfl, rfl⟩ ⟨Nat.le_of_ble_eq_true rfl, Nat.le_of_ble_eq_true rfl⟩ rfl (fun Ex hx => jk_out K hzx hx (Nat.le_of_ble_eq_true rfl) (Nat.le_of_ble_eq_true rfl)) (fun _ hbt4 => ?_)
  obtain ⟨m, hm1, hm, rfl⟩ := hb_bt_nat (lo := 1) (hi := 100) (by decide) (by decide) hbt4
  refine jk_aload_n K dX2_burningAfter_7 rfl 0 rfl ?_
  refine jk_get (C := RX2) (T := TX2) (N := 2) (nm := "trial") (ds := "LHillBeacons$Land;") (v := .ref (b2 0)) K dX2_burningAfter_8 hin_RX2 (by decide +kernel) 0 rfl rfl 1 rfl (by decide) rfl ?_
  refine jk_aload_n K dX2_burningAfter_11 rfl 0 rfl ?_
  refine jk_get (C := RX2) (T := TX2) (N := 2) (nm := "land") (ds := "LHillBeacons$Land;") (v := .ref (b1 0)) K dX2_burningAfter_12 hin_RX2 (by decide +kernel) 0 rfl rfl 0 rfl (by decide) rfl ?_
  refine jk_ws (ws' := (hb_L E (hb_ob q b1 b2 :: hb_LW E b1 C G M) Y b2 C2 G2 M2)) rfl ?_
  refine jk_cVv K (n' := 1) (k' := 6) [.ref (b1 0)] [] dX2_burningAfter_15 (hb_X1_copyFrom _ hl E q b1 b2 Y C G M C2 G2 M2) gX2_burningAfter_X1_copyFrom rfl kd_X1_copyFrom ⟨Nat.le_of_ble_eq_true rfl, Nat.le_of_ble_eq_true rfl⟩ ((hb_ob q b1 b2 :: hb_LW E b1 C G M).length + 0) hb_L0 rfl (Nat.le_of_ble_eq_true rfl) ⟨rfl, rfl⟩ ⟨Nat.le_of_ble_eq_true rfl, Nat.le_of_ble_eq_true rfl⟩ rfl (fun _ _ => ?_)
  refine jk_aload_n K dX2_burningAfter_18 rfl 0 rfl ?_
  refine jk_get (C := RX2) (T := TX2) (N := 2) (nm := "trial") (ds := "LHillBeacons$Land;") (v := .ref (b2 0)) K dX2_burningAfter_19 hin_RX2 (by decide +kernel) 0 rfl rfl 1 rfl (by decide) rfl ?_
  refine jk_iload_n K dX2_burningAfter_22 rfl 1 rfl ?_
  have hgT : (hb_cpG G2 G) 0 = nI n := hg
  refine jk_cVv K (n' := 1) (k' := 6) [.int (nI m)] [] dX2_burningAfter_23 (hb_X1_passMany _ hl E (hb_ob q b1 b2 :: hb_LW E b1 C G M) Y b2 (hb_cpC C2 C 10) (hb_cpG G2 G) (hb_cpM M2 M 10) n hn hgT m (by omega)) gX2_burningAfter_X1_passMany rfl kd_X1_passMany ⟨Nat.le_of_ble_eq_true rfl, Nat.le_of_ble_eq_true rfl⟩ ((hb_ob q b1 b2 :: hb_LW E b1 C G M).length + 0) hb_L0 rfl (Nat.le_of_ble_eq_true rfl) ⟨rfl, rfl⟩ ⟨Nat.le_of_ble_eq_true rfl, Nat.le_of_ble_eq_true rfl⟩ rfl (fun _ _ => ?_)
  refine jk_aload_n K dX2_burningAfter_26 rfl 0 rfl ?_
  refine jk_get (C := RX2) (T := TX2) (N := 2) (nm := "trial") (ds := "LHillBeacons$Land;") (v := .ref (b2 0)) K dX2_burningAfter_27 hin_RX2 (by decide +kernel) 0 rfl rfl 1 rfl (by decide) rfl ?_
  have hg' : (hb_pm (hb_cpC C2 C 10) (hb_cpG G2 G) (hb_cpM M2 M 10) n m).2 0 = nI n := (hb_pm_0 0 (by decide) (by decide) (by decide) (by decide) m).trans hgT
  refine jk_cVi K (n' := 1) (k' := 6) [] [] dX2_burningAfter_30 (hb_X1_countBurning _ hl E (hb_ob q b1 b2 :: hb_LW E b1 C G M) Y b2 (hb_pm (hb_cpC C2 C 10) (hb_cpG G2 G) (hb_cpM M2 M 10) n m).1 (hb_pm (hb_cpC C2 C 10) (hb_cpG G2 G) (hb_cpM M2 M 10) n m).2 (hb_cpM M2 M 10) n hn hg') gX2_burningAfter_X1_countBurning rfl kd_X1_countBurning ⟨Nat.le_of_ble_eq_true rfl, Nat.le_of_ble_eq_true rfl⟩ ((hb_ob q b1 b2 :: hb_LW E b1 C G M).length + 0) hb_L0 rfl (Nat.le_of_ble_eq_true rfl) ⟨rfl, rfl⟩ ⟨Nat.le_of_ble_eq_true rfl, Nat.le_of_ble_eq_true rfl⟩ rfl (fun _ _ => ?_)
  exact jk_iret K hz dX2_burningAfter_33 (m, ((hb_pm (hb_cpC C2 C 10) (hb_cpG G2 G) (hb_cpM M2 M 10) n m).1, (hb_pm (hb_cpC C2 C 10) (hb_cpG G2 G) (hb_cpM M2 M 10) n m).2, (hb_cpM M2 M 10))) rfl ⟨hm1, hm, rfl⟩ rfl rfl (Nat.le_of_ble_eq_true rfl) (Nat.le_of_ble_eq_true rfl)
set_option maxHeartbeats 4000000 in
set_option maxRecDepth 100000 in
theorem hb_X2_minutesUntilBurning (l : Launch) (hl : l.stackTraces = false) (E : jk_T) (q : Nat) (b1 b2 : Nat → Nat) (Y : va_W) (C : Nat → Nat → Int32) (G M : Nat → Int32) (C2 : Nat → Nat → Int32) (G2 M2 : Nat → Int32) (n : Nat) (hn : n ≤ 10) (hg : G 0 = nI n) (x : Int32) : jk_Cx l yX2_minutesUntilBurning wsX2_minutesUntilBurning ({ frames := 7, cells := 1, slots := 6, locals := 113 } : Room) [.ref q, .int x] E (hb_v1 E q b1 b2 Y C G M C2 G2 M2) (fun u : Nat × hb_LS => some (.int (hb_mub (hb_cpC C2 C 10) (hb_cpG G2 G) (hb_cpM M2 M 10) n u.1))) (fun u => (hb_v1 E q b1 b2 Y C G M u.2.1 u.2.2.1 u.2.2.2)) (fun u => u.1 < n ∧ x = nI u.1) (fun Ex => Ex = "java/lang/IndexOutOfBoundsException" ∧ ¬ hb_ok n x) := by
  refine jk_ofx (lv := [(0, .ref q), (1, .int x)]) (own := RX2) (nm := "minutesUntilBurning") hl (by decide +kernel) rfl (Nat.le_of_ble_eq_true rfl) rfl rfl rfl (fun Γ hΓ K hnm hz hzx => ?_)
  subst hΓ
  have hin_RX0 : ∀ w ∈ u_ws RX0 TX0 11, w ∈ wsX2_minutesUntilBurning := by decide +kernel
  have hin_RX2 : ∀ w ∈ u_ws RX2 TX2 2, w ∈ wsX2_minutesUntilBurning := by decide +kernel
  refine jk_aload_n K dX2_minutesUntilBurning_0 rfl 0 rfl ?_
  refine jk_iload_n K dX2_minutesUntilBurning_1 rfl 1 rfl ?_
  refine jk_cVvx K (n' := 1) (k' := 6) [.int x] [] dX2_minutesUntilBurning_2 (hb_X2_requireHill _ hl E q b1 b2 Y C G M C2 G2 M2 n hn hg x) gX2_minutesUntilBurning_X2_requireHill rfl kd_X2_requireHill ⟨Nat.le_of_ble_eq_true rfl, Nat.le_of_ble_eq_true rfl⟩ 0 rfl rfl (Nat.le_of_ble_eq_true rfl) ⟨rfl, rfl⟩ ⟨Nat.le_of_ble_eq_true rfl, Nat.le_of_ble_eq_true rfl⟩ rfl (fun Ex hx => jk_out K hzx hx (Nat.le_of_ble_eq_true rfl) (Nat.le_of_ble_eq_true rfl)) (fun i hp => ?_)
  obtain ⟨hi, rfl⟩ := hp
  refine jk_aload_n K dX2_minutesUntilBurning_5 rfl 0 rfl ?_
  refine jk_get (C := RX2) (T := TX2) (N := 2) (nm := "trial") (ds := "LHillBeacons$Land;") (v := .ref (b2 0)) K dX2_minutesUntilBurning_6 hin_RX2 (by decide +kernel) 0 rfl rfl 1 rfl (by decide) rfl ?_
  refine jk_aload_n K dX2_minutesUntilBurning_9 rfl 0 rfl ?_
  refine jk_get (C := RX2) (T := TX2) (N := 2) (nm := "land") (ds := "LHillBeacons$Land;") (v := .ref (b1 0)) K dX2_minutesUntilBurning_10 hin_RX2 (by decide +kernel) 0 rfl rfl 0 rfl (by decide) rfl ?_
  refine jk_ws (ws' := (hb_L E (hb_ob q b1 b2 :: hb_LW E b1 C G M) Y b2 C2 G2 M2)) rfl ?_
  refine jk_cVv K (n' := 1) (k' := 6) [.ref (b1 0)] [] dX2_minutesUntilBurning_13 (hb_X1_copyFrom _ hl E q b1 b2 Y C G M C2 G2 M2) gX2_minutesUntilBurning_X1_copyFrom rfl kd_X1_copyFrom ⟨Nat.le_of_ble_eq_true rfl, Nat.le_of_ble_eq_true rfl⟩ ((hb_ob q b1 b2 :: hb_LW E b1 C G M).length + 0) hb_L0 rfl (Nat.le_of_ble_eq_true rfl) ⟨rfl, rfl⟩ ⟨Nat.le_of_ble_eq_true rfl, Nat.le_of_ble_eq_true rfl⟩ rfl (fun _ _ => ?_)
  refine jk_iconst (x := 0) K dX2_minutesUntilBurning_16 rfl ?_
  refine jk_istore_n (lv' := [(2, .int 0), (0, .ref q), (1, .int (nI i))]) K dX2_minutesUntilBurning_17 rfl (by decide) rfl ?_
  have hgT : (hb_cpG G2 G) 0 = nI n := hg
  have hL : ∀ j, j ≤ 151 → (hb_mub (hb_cpC C2 C 10) (hb_cpG G2 G) (hb_cpM M2 M 10) n i) = hb_first (fun j => if (hb_pm (hb_cpC C2 C 10) (hb_cpG G2 G) (hb_cpM M2 M 10) n j).1 i 5 = 2 then 1 else 0) (151 - j) j → jk_J Γ E (hb_L E (hb_ob q b1 b2 :: hb_LW E b1 C G M) Y b2 (hb_pm (hb_cpC C2 C 10) (hb_cpG G2 G) (hb_cpM M2 M 10) n j).1 (hb_pm (hb_cpC C2 C 10) (hb_cpG G2 G) (hb_cpM M2 M 10) n j).2 (hb_cpM M2 M 10)) 1 6 18 [(2, .int (nI j)), (0, .ref q), (1, .int (nI i))] [] := by
    refine jk_loop (fun j hj ih hR => ?_)
    have hg' : (hb_pm (hb_cpC C2 C 10) (hb_cpG G2 G) (hb_cpM M2 M 10) n j).2 0 = nI n := (hb_pm_0 0 (by decide) (by decide) (by decide) (by decide) j).trans hgT
    refine jk_iload_n K dX2_minutesUntilBurning_18 rfl 0 rfl ?_
    refine jk_sipush (x := (nI 150)) K dX2_minutesUntilBurning_19 rfl ?_
    refine jk_icmp_gt (tgt := 55) K dX2_minutesUntilBurning_22 rfl (fun c_22 => ?_) (fun c_22 => ?_)
    · have hjn : j = 151 := by have h9 := (nI_ltI (a := 150) (b := j) (by omega) (by omega)).mp c_22; omega
      have hv : (some (Value.int (hb_mub (hb_cpC C2 C 10) (hb_cpG G2 G) (hb_cpM M2 M 10) n i))) = some (.int (-1)) := by rw [hR, hjn]; rfl
      refine jk_iconst (x := (-1)) K dX2_minutesUntilBurning_55 rfl ?_
      exact jk_iret K hz dX2_minutesUntilBurning_56 (i, ((hb_pm (hb_cpC C2 C 10) (hb_cpG G2 G) (hb_cpM M2 M 10) n j).1, (hb_pm (hb_cpC C2 C 10) (hb_cpG G2 G) (hb_cpM M2 M 10) n j).2, (hb_cpM M2 M 10))) hv ⟨hi, rfl⟩ rfl rfl (Nat.le_of_ble_eq_true rfl) (Nat.le_of_ble_eq_true rfl)
    · have hlt : j < 151 := Nat.lt_of_not_le (fun h9 => c_22 (nI_lt (a := 150) (b := j) (by omega) (by omega)))
      have hs : hb_first (fun j => if (hb_pm (hb_cpC C2 C 10) (hb_cpG G2 G) (hb_cpM M2 M 10) n j).1 i 5 = 2 then 1 else 0) (151 - j) j = if (if (hb_pm (hb_cpC C2 C 10) (hb_cpG G2 G) (hb_cpM M2 M 10) n j).1 i 5 = 2 then (1 : Int32) else 0) = 0 then hb_first (fun j => if (hb_pm (hb_cpC C2 C 10) (hb_cpG G2 G) (hb_cpM M2 M 10) n j).1 i 5 = 2 then 1 else 0) (151 - (j + 1)) (j + 1) else nI j := by rw [show 151 - j = (151 - (j + 1)) + 1 by omega]; rfl
      refine jk_aload_n K dX2_minutesUntilBurning_25 rfl 1 rfl ?_
      refine jk_get (C := RX2) (T := TX2) (N := 2) (nm := "trial") (ds := "LHillBeacons$Land;") (v := .ref (b2 0)) K dX2_minutesUntilBurning_26 hin_RX2 (by decide +kernel) 0 rfl rfl 1 rfl (by decide) rfl ?_
      refine jk_iload_n K dX2_minutesUntilBurning_29 rfl 2 rfl ?_
      refine jk_cVr K (n' := 1) (k' := 6) [.int (nI i)] [] dX2_minutesUntilBurning_30 (hb_X1_hillAt_i _ hl E (hb_ob q b1 b2 :: hb_LW E b1 C G M) Y b2 (hb_pm (hb_cpC C2 C 10) (hb_cpG G2 G) (hb_cpM M2 M 10) n j).1 (hb_pm (hb_cpC C2 C 10) (hb_cpG G2 G) (hb_cpM M2 M 10) n j).2 (hb_cpM M2 M 10) i (Nat.lt_of_lt_of_le hi hn)) gX2_minutesUntilBurning_X1_hillAt rfl kd_X1_hillAt ⟨Nat.le_of_ble_eq_true rfl, Nat.le_of_ble_eq_true rfl⟩ ((hb_ob q b1 b2 :: hb_LW E b1 C G M).length + 0) hb_L0 rfl (Nat.le_of_ble_eq_true rfl) ⟨rfl, rfl⟩ ⟨Nat.le_of_ble_eq_true rfl, Nat.le_of_ble_eq_true rfl⟩ rfl (fun _ _ => ?_)
      refine jk_get (C := RX0) (T := TX0) (N := 11) (nm := "fire") (ds := "I") (v := .int (((hb_pm (hb_cpC C2 C 10) (hb_cpG G2 G) (hb_cpM M2 M 10) n j).1 i) 5)) K dX2_minutesUntilBurning_33 hin_RX0 (by decide +kernel) ((hb_ob q b1 b2 :: hb_LW E b1 C G M).length + (3 + i)) (hb_Lh (Nat.le_of_lt (Nat.lt_of_lt_of_le hi hn))) rfl 5 rfl (by decide) rfl ?_
      refine jk_iconst (x := 2) K dX2_minutesUntilBurning_36 rfl ?_
      refine jk_icmp_ne (tgt := 42) K dX2_minutesUntilBurning_37 rfl (fun c_37 => ?_) (fun c_37 => ?_)
      · have hR2 : (hb_mub (hb_cpC C2 C 10) (hb_cpG G2 G) (hb_cpM M2 M 10) n i) = hb_first (fun j => if (hb_pm (hb_cpC C2 C 10) (hb_cpG G2 G) (hb_cpM M2 M 10) n j).1 i 5 = 2 then 1 else 0) (151 - (j + 1)) (j + 1) := by rw [hR, hs, if_neg c_37]; rfl
        refine jk_aload_n K dX2_minutesUntilBurning_42 rfl 1 rfl ?_
        refine jk_get (C := RX2) (T := TX2) (N := 2) (nm := "trial") (ds := "LHillBeacons$Land;") (v := .ref (b2 0)) K dX2_minutesUntilBurning_43 hin_RX2 (by decide +kernel) 0 rfl rfl 1 rfl (by decide) rfl ?_
        refine jk_cVv K (n' := 1) (k' := 6) [] [] dX2_minutesUntilBurning_46 (hb_X1_passOne _ hl E (hb_ob q b1 b2 :: hb_LW E b1 C G M) Y b2 (hb_pm (hb_cpC C2 C 10) (hb_cpG G2 G) (hb_cpM M2 M 10) n j).1 (hb_pm (hb_cpC C2 C 10) (hb_cpG G2 G) (hb_cpM M2 M 10) n j).2 (hb_cpM M2 M 10) n hn hg') gX2_minutesUntilBurning_X1_passOne rfl kd_X1_passOne ⟨Nat.le_of_ble_eq_true rfl, Nat.le_of_ble_eq_true rfl⟩ ((hb_ob q b1 b2 :: hb_LW E b1 C G M).length + 0) hb_L0 rfl (Nat.le_of_ble_eq_true rfl) ⟨rfl, rfl⟩ ⟨Nat.le_of_ble_eq_true rfl, Nat.le_of_ble_eq_true rfl⟩ rfl (fun _ _ => ?_)
        refine jk_iinc (v := (nI (j + 1))) (lv' := [(2, .int (nI (j + 1))), (0, .ref q), (1, .int (nI i))]) K dX2_minutesUntilBurning_49 0 rfl (nI_1 j) (by decide) rfl ?_
        refine jk_goto (tgt := 18) K dX2_minutesUntilBurning_52 rfl ?_
        refine jk_ws (ws' := (hb_L E (hb_ob q b1 b2 :: hb_LW E b1 C G M) Y b2 (hb_pm (hb_cpC C2 C 10) (hb_cpG G2 G) (hb_cpM M2 M 10) n (j + 1)).1 (hb_pm (hb_cpC C2 C 10) (hb_cpG G2 G) (hb_cpM M2 M 10) n (j + 1)).2 (hb_cpM M2 M 10))) (by first | rfl | (simp [hb_pm_s, c_22, c_37]; done)) ?_
        exact ih hlt hR2
      · have hv : (some (Value.int (hb_mub (hb_cpC C2 C 10) (hb_cpG G2 G) (hb_cpM M2 M 10) n i))) = some (.int (nI j)) := by rw [hR, hs, if_pos c_37]; rfl
        refine jk_iload_n K dX2_minutesUntilBurning_40 rfl 0 rfl ?_
        exact jk_iret K hz dX2_minutesUntilBurning_41 (i, ((hb_pm (hb_cpC C2 C 10) (hb_cpG G2 G) (hb_cpM M2 M 10) n j).1, (hb_pm (hb_cpC C2 C 10) (hb_cpG G2 G) (hb_cpM M2 M 10) n j).2, (hb_cpM M2 M 10))) hv ⟨hi, rfl⟩ rfl rfl (Nat.le_of_ble_eq_true rfl) (Nat.le_of_ble_eq_true rfl)
  refine jk_lv (lv' := [(2, .int (nI 0)), (0, .ref q), (1, .int (nI i))]) (by first | rfl | (simp []; done)) ?_
  refine jk_ws (ws' := (hb_L E (hb_ob q b1 b2 :: hb_LW E b1 C G M) Y b2 (hb_pm (hb_cpC C2 C 10) (hb_cpG G2 G) (hb_cpM M2 M 10) n 0).1 (hb_pm (hb_cpC C2 C 10) (hb_cpG G2 G) (hb_cpM M2 M 10) n 0).2 (hb_cpM M2 M 10))) (by first | rfl | (simp []; done)) ?_
  exact hL 0 (by omega) rfl
set_option maxHeartbeats 4000000 in
set_option maxRecDepth 100000 in
theorem hb_J6_bitCount_0f7a4 (l : Launch) (hl : l.stackTraces = false) (E : jk_T) (ws : va_W) (x : Int32) : jk_fn l yJ6_bitCount_0f7a4 wsJ6_bitCount_0f7a4 ({ frames := 0, cells := 0, slots := 0, locals := 0 } : Room) [.int x] E ws (some (.int (hb_bitc x))) ws := by
  refine jk_of (lv := [(0, .int x)]) (own := RJ6) (nm := "bitCount") hl (by decide +kernel) rfl (Nat.le_of_ble_eq_true rfl) rfl rfl rfl (fun Γ hΓ K hnm hz => ?_)
  subst hΓ
  refine jk_iload_n K dJ6_bitCount_0f7a4_0 rfl 0 rfl ?_
  refine jk_iload_n K dJ6_bitCount_0f7a4_1 rfl 0 rfl ?_
  refine jk_iconst (x := 1) K dJ6_bitCount_0f7a4_2 rfl ?_
  refine jk_iushr K dJ6_bitCount_0f7a4_3 ?_
  refine jk_ldcw (v := 1431655765) K dJ6_bitCount_0f7a4_4 (by decide +kernel) ?_
  refine jk_iand K dJ6_bitCount_0f7a4_7 ?_
  refine jk_isub K dJ6_bitCount_0f7a4_8 ?_
  refine jk_istore_n (lv' := [(0, .int (x - ((((Int32.toUInt32 x) >>> ((Int32.toUInt32 1) &&& Int32.toUInt32 31)).toInt32) &&& 1431655765)))]) K dJ6_bitCount_0f7a4_9 rfl (by decide) rfl ?_
  refine jk_iload_n K dJ6_bitCount_0f7a4_10 rfl 0 rfl ?_
  refine jk_ldcw (v := 858993459) K dJ6_bitCount_0f7a4_11 (by decide +kernel) ?_
  refine jk_iand K dJ6_bitCount_0f7a4_14 ?_
  refine jk_iload_n K dJ6_bitCount_0f7a4_15 rfl 0 rfl ?_
  refine jk_iconst (x := 2) K dJ6_bitCount_0f7a4_16 rfl ?_
  refine jk_iushr K dJ6_bitCount_0f7a4_17 ?_
  refine jk_ldcw (v := 858993459) K dJ6_bitCount_0f7a4_18 (by decide +kernel) ?_
  refine jk_iand K dJ6_bitCount_0f7a4_21 ?_
  refine jk_iadd K dJ6_bitCount_0f7a4_22 ?_
  refine jk_istore_n (lv' := [(0, .int (((x - ((((Int32.toUInt32 x) >>> ((Int32.toUInt32 1) &&& Int32.toUInt32 31)).toInt32) &&& 1431655765)) &&& 858993459) + ((((Int32.toUInt32 (x - ((((Int32.toUInt32 x) >>> ((Int32.toUInt32 1) &&& Int32.toUInt32 31)).toInt32) &&& 1431655765))) >>> ((Int32.toUInt32 2) &&& Int32.toUInt32 31)).toInt32) &&& 858993459)))]) K dJ6_bitCount_0f7a4_23 rfl (by decide) rfl ?_
  refine jk_iload_n K dJ6_bitCount_0f7a4_24 rfl 0 rfl ?_
  refine jk_iload_n K dJ6_bitCount_0f7a4_25 rfl 0 rfl ?_
  refine jk_iconst (x := 4) K dJ6_bitCount_0f7a4_26 rfl ?_
  refine jk_iushr K dJ6_bitCount_0f7a4_27 ?_
  refine jk_iadd K dJ6_bitCount_0f7a4_28 ?_
  refine jk_ldcw (v := 252645135) K dJ6_bitCount_0f7a4_29 (by decide +kernel) ?_
  refine jk_iand K dJ6_bitCount_0f7a4_32 ?_
  refine jk_istore_n (lv' := [(0, .int (((((x - ((((Int32.toUInt32 x) >>> ((Int32.toUInt32 1) &&& Int32.toUInt32 31)).toInt32) &&& 1431655765)) &&& 858993459) + ((((Int32.toUInt32 (x - ((((Int32.toUInt32 x) >>> ((Int32.toUInt32 1) &&& Int32.toUInt32 31)).toInt32) &&& 1431655765))) >>> ((Int32.toUInt32 2) &&& Int32.toUInt32 31)).toInt32) &&& 858993459)) + (((Int32.toUInt32 (((x - ((((Int32.toUInt32 x) >>> ((Int32.toUInt32 1) &&& Int32.toUInt32 31)).toInt32) &&& 1431655765)) &&& 858993459) + ((((Int32.toUInt32 (x - ((((Int32.toUInt32 x) >>> ((Int32.toUInt32 1) &&& Int32.toUInt32 31)).toInt32) &&& 1431655765))) >>> ((Int32.toUInt32 2) &&& Int32.toUInt32 31)).toInt32) &&& 858993459))) >>> ((Int32.toUInt32 4) &&& Int32.toUInt32 31)).toInt32)) &&& 252645135))]) K dJ6_bitCount_0f7a4_33 rfl (by decide) rfl ?_
  refine jk_iload_n K dJ6_bitCount_0f7a4_34 rfl 0 rfl ?_
  refine jk_iload_n K dJ6_bitCount_0f7a4_35 rfl 0 rfl ?_
  refine jk_bipush (x := 8) K dJ6_bitCount_0f7a4_36 rfl ?_
  refine jk_iushr K dJ6_bitCount_0f7a4_38 ?_
  refine jk_iadd K dJ6_bitCount_0f7a4_39 ?_
  refine jk_istore_n (lv' := [(0, .int ((((((x - ((((Int32.toUInt32 x) >>> ((Int32.toUInt32 1) &&& Int32.toUInt32 31)).toInt32) &&& 1431655765)) &&& 858993459) + ((((Int32.toUInt32 (x - ((((Int32.toUInt32 x) >>> ((Int32.toUInt32 1) &&& Int32.toUInt32 31)).toInt32) &&& 1431655765))) >>> ((Int32.toUInt32 2) &&& Int32.toUInt32 31)).toInt32) &&& 858993459)) + (((Int32.toUInt32 (((x - ((((Int32.toUInt32 x) >>> ((Int32.toUInt32 1) &&& Int32.toUInt32 31)).toInt32) &&& 1431655765)) &&& 858993459) + ((((Int32.toUInt32 (x - ((((Int32.toUInt32 x) >>> ((Int32.toUInt32 1) &&& Int32.toUInt32 31)).toInt32) &&& 1431655765))) >>> ((Int32.toUInt32 2) &&& Int32.toUInt32 31)).toInt32) &&& 858993459))) >>> ((Int32.toUInt32 4) &&& Int32.toUInt32 31)).toInt32)) &&& 252645135) + (((Int32.toUInt32 (((((x - ((((Int32.toUInt32 x) >>> ((Int32.toUInt32 1) &&& Int32.toUInt32 31)).toInt32) &&& 1431655765)) &&& 858993459) + ((((Int32.toUInt32 (x - ((((Int32.toUInt32 x) >>> ((Int32.toUInt32 1) &&& Int32.toUInt32 31)).toInt32) &&& 1431655765))) >>> ((Int32.toUInt32 2) &&& Int32.toUInt32 31)).toInt32) &&& 858993459)) + (((Int32.toUInt32 (((x - ((((Int32.toUInt32 x) >>> ((Int32.toUInt32 1) &&& Int32.toUInt32 31)).toInt32) &&& 1431655765)) &&& 858993459) + ((((Int32.toUInt32 (x - ((((Int32.toUInt32 x) >>> ((Int32.toUInt32 1) &&& Int32.toUInt32 31)).toInt32) &&& 1431655765))) >>> ((Int32.toUInt32 2) &&& Int32.toUInt32 31)).toInt32) &&& 858993459))) >>> ((Int32.toUInt32 4) &&& Int32.toUInt32 31)).toInt32)) &&& 252645135)) >>> ((Int32.toUInt32 8) &&& Int32.toUInt32 31)).toInt32)))]) K dJ6_bitCount_0f7a4_40 rfl (by decide) rfl ?_
  refine jk_iload_n K dJ6_bitCount_0f7a4_41 rfl 0 rfl ?_
  refine jk_iload_n K dJ6_bitCount_0f7a4_42 rfl 0 rfl ?_
  refine jk_bipush (x := 16) K dJ6_bitCount_0f7a4_43 rfl ?_
  refine jk_iushr K dJ6_bitCount_0f7a4_45 ?_
  refine jk_iadd K dJ6_bitCount_0f7a4_46 ?_
  refine jk_istore_n (lv' := [(0, .int (((((((x - ((((Int32.toUInt32 x) >>> ((Int32.toUInt32 1) &&& Int32.toUInt32 31)).toInt32) &&& 1431655765)) &&& 858993459) + ((((Int32.toUInt32 (x - ((((Int32.toUInt32 x) >>> ((Int32.toUInt32 1) &&& Int32.toUInt32 31)).toInt32) &&& 1431655765))) >>> ((Int32.toUInt32 2) &&& Int32.toUInt32 31)).toInt32) &&& 858993459)) + (((Int32.toUInt32 (((x - ((((Int32.toUInt32 x) >>> ((Int32.toUInt32 1) &&& Int32.toUInt32 31)).toInt32) &&& 1431655765)) &&& 858993459) + ((((Int32.toUInt32 (x - ((((Int32.toUInt32 x) >>> ((Int32.toUInt32 1) &&& Int32.toUInt32 31)).toInt32) &&& 1431655765))) >>> ((Int32.toUInt32 2) &&& Int32.toUInt32 31)).toInt32) &&& 858993459))) >>> ((Int32.toUInt32 4) &&& Int32.toUInt32 31)).toInt32)) &&& 252645135) + (((Int32.toUInt32 (((((x - ((((Int32.toUInt32 x) >>> ((Int32.toUInt32 1) &&& Int32.toUInt32 31)).toInt32) &&& 1431655765)) &&& 858993459) + ((((Int32.toUInt32 (x - ((((Int32.toUInt32 x) >>> ((Int32.toUInt32 1) &&& Int32.toUInt32 31)).toInt32) &&& 1431655765))) >>> ((Int32.toUInt32 2) &&& Int32.toUInt32 31)).toInt32) &&& 858993459)) + (((Int32.toUInt32 (((x - ((((Int32.toUInt32 x) >>> ((Int32.toUInt32 1) &&& Int32.toUInt32 31)).toInt32) &&& 1431655765)) &&& 858993459) + ((((Int32.toUInt32 (x - ((((Int32.toUInt32 x) >>> ((Int32.toUInt32 1) &&& Int32.toUInt32 31)).toInt32) &&& 1431655765))) >>> ((Int32.toUInt32 2) &&& Int32.toUInt32 31)).toInt32) &&& 858993459))) >>> ((Int32.toUInt32 4) &&& Int32.toUInt32 31)).toInt32)) &&& 252645135)) >>> ((Int32.toUInt32 8) &&& Int32.toUInt32 31)).toInt32)) + (((Int32.toUInt32 ((((((x - ((((Int32.toUInt32 x) >>> ((Int32.toUInt32 1) &&& Int32.toUInt32 31)).toInt32) &&& 1431655765)) &&& 858993459) + ((((Int32.toUInt32 (x - ((((Int32.toUInt32 x) >>> ((Int32.toUInt32 1) &&& Int32.toUInt32 31)).toInt32) &&& 1431655765))) >>> ((Int32.toUInt32 2) &&& Int32.toUInt32 31)).toInt32) &&& 858993459)) + (((Int32.toUInt32 (((x - ((((Int32.toUInt32 x) >>> ((Int32.toUInt32 1) &&& Int32.toUInt32 31)).toInt32) &&& 1431655765)) &&& 858993459) + ((((Int32.toUInt32 (x - ((((Int32.toUInt32 x) >>> ((Int32.toUInt32 1) &&& Int32.toUInt32 31)).toInt32) &&& 1431655765))) >>> ((Int32.toUInt32 2) &&& Int32.toUInt32 31)).toInt32) &&& 858993459))) >>> ((Int32.toUInt32 4) &&& Int32.toUInt32 31)).toInt32)) &&& 252645135) + (((Int32.toUInt32 (((((x - ((((Int32.toUInt32 x) >>> ((Int32.toUInt32 1) &&& Int32.toUInt32 31)).toInt32) &&& 1431655765)) &&& 858993459) + ((((Int32.toUInt32 (x - ((((Int32.toUInt32 x) >>> ((Int32.toUInt32 1) &&& Int32.toUInt32 31)).toInt32) &&& 1431655765))) >>> ((Int32.toUInt32 2) &&& Int32.toUInt32 31)).toInt32) &&& 858993459)) + (((Int32.toUInt32 (((x - ((((Int32.toUInt32 x) >>> ((Int32.toUInt32 1) &&& Int32.toUInt32 31)).toInt32) &&& 1431655765)) &&& 858993459) + ((((Int32.toUInt32 (x - ((((Int32.toUInt32 x) >>> ((Int32.toUInt32 1) &&& Int32.toUInt32 31)).toInt32) &&& 1431655765))) >>> ((Int32.toUInt32 2) &&& Int32.toUInt32 31)).toInt32) &&& 858993459))) >>> ((Int32.toUInt32 4) &&& Int32.toUInt32 31)).toInt32)) &&& 252645135)) >>> ((Int32.toUInt32 8) &&& Int32.toUInt32 31)).toInt32))) >>> ((Int32.toUInt32 16) &&& Int32.toUInt32 31)).toInt32)))]) K dJ6_bitCount_0f7a4_47 rfl (by decide) rfl ?_
  refine jk_iload_n K dJ6_bitCount_0f7a4_48 rfl 0 rfl ?_
  refine jk_bipush (x := 63) K dJ6_bitCount_0f7a4_49 rfl ?_
  refine jk_iand K dJ6_bitCount_0f7a4_51 ?_
  exact jk_iret K hz dJ6_bitCount_0f7a4_52 () rfl trivial rfl rfl (Nat.le_of_ble_eq_true rfl) (Nat.le_of_ble_eq_true rfl)
set_option maxHeartbeats 4000000 in
set_option maxRecDepth 100000 in
theorem hb_X2_tryReach (l : Launch) (hl : l.stackTraces = false) (E : jk_T) (q : Nat) (b1 b2 : Nat → Nat) (Y : va_W) (C : Nat → Nat → Int32) (G M : Nat → Int32) (C2 : Nat → Nat → Int32) (G2 M2 : Nat → Int32) (n : Nat) (hn : n ≤ 10) (hg : G 0 = nI n) (i : Nat) (hi : i < n) : jk_Ct l yX2_tryReach wsX2_tryReach ({ frames := 5, cells := 0, slots := 0, locals := 113 } : Room) [.ref q, .int (nI i)] E (hb_v1 E q b1 b2 Y C G M C2 G2 M2) (fun _ : hb_LS => some (.int (hb_tr C2 G2 M2 C G M n i))) (fun u => (hb_v1 E q b1 b2 Y C G M u.1 u.2.1 u.2.2)) (fun _ => True) := by
  refine jk_of (lv := [(0, .ref q), (1, .int (nI i))]) (own := RX2) (nm := "tryReach") hl (by decide +kernel) rfl (Nat.le_of_ble_eq_true rfl) rfl rfl rfl (fun Γ hΓ K hnm hz => ?_)
  subst hΓ
  have hin_RX2 : ∀ w ∈ u_ws RX2 TX2 2, w ∈ wsX2_tryReach := by decide +kernel
  refine jk_aload_n K dX2_tryReach_0 rfl 0 rfl ?_
  refine jk_get (C := RX2) (T := TX2) (N := 2) (nm := "trial") (ds := "LHillBeacons$Land;") (v := .ref (b2 0)) K dX2_tryReach_1 hin_RX2 (by decide +kernel) 0 rfl rfl 1 rfl (by decide) rfl ?_
  refine jk_aload_n K dX2_tryReach_4 rfl 0 rfl ?_
  refine jk_get (C := RX2) (T := TX2) (N := 2) (nm := "land") (ds := "LHillBeacons$Land;") (v := .ref (b1 0)) K dX2_tryReach_5 hin_RX2 (by decide +kernel) 0 rfl rfl 0 rfl (by decide) rfl ?_
  refine jk_ws (ws' := (hb_L E (hb_ob q b1 b2 :: hb_LW E b1 C G M) Y b2 C2 G2 M2)) rfl ?_
  refine jk_cVv K (n' := 0) (k' := 0) [.ref (b1 0)] [] dX2_tryReach_8 (hb_X1_copyFrom _ hl E q b1 b2 Y C G M C2 G2 M2) gX2_tryReach_X1_copyFrom rfl kd_X1_copyFrom ⟨Nat.le_of_ble_eq_true rfl, Nat.le_of_ble_eq_true rfl⟩ ((hb_ob q b1 b2 :: hb_LW E b1 C G M).length + 0) hb_L0 rfl (Nat.le_of_ble_eq_true rfl) ⟨rfl, rfl⟩ ⟨Nat.le_of_ble_eq_true rfl, Nat.le_of_ble_eq_true rfl⟩ rfl (fun _ _ => ?_)
  refine jk_aload_n K dX2_tryReach_11 rfl 0 rfl ?_
  refine jk_get (C := RX2) (T := TX2) (N := 2) (nm := "trial") (ds := "LHillBeacons$Land;") (v := .ref (b2 0)) K dX2_tryReach_12 hin_RX2 (by decide +kernel) 0 rfl rfl 1 rfl (by decide) rfl ?_
  refine jk_iload_n K dX2_tryReach_15 rfl 1 rfl ?_
  refine jk_cVv K (n' := 0) (k' := 0) [.int (nI i)] [] dX2_tryReach_16 (hb_X1_kindleByHand _ hl E (hb_ob q b1 b2 :: hb_LW E b1 C G M) Y b2 (hb_cpC C2 C 10) (hb_cpG G2 G) (hb_cpM M2 M 10) i (Nat.lt_of_lt_of_le hi hn)) gX2_tryReach_X1_kindleByHand rfl kd_X1_kindleByHand ⟨Nat.le_of_ble_eq_true rfl, Nat.le_of_ble_eq_true rfl⟩ ((hb_ob q b1 b2 :: hb_LW E b1 C G M).length + 0) hb_L0 rfl (Nat.le_of_ble_eq_true rfl) ⟨rfl, rfl⟩ ⟨Nat.le_of_ble_eq_true rfl, Nat.le_of_ble_eq_true rfl⟩ rfl (fun _ _ => ?_)
  refine jk_iconst (x := 0) K dX2_tryReach_19 rfl ?_
  refine jk_istore_n (lv' := [(2, .int 0), (0, .ref q), (1, .int (nI i))]) K dX2_tryReach_20 rfl (by decide) rfl ?_
  refine jk_iconst (x := 0) K dX2_tryReach_21 rfl ?_
  refine jk_istore_n (lv' := [(3, .int 0), (2, .int 0), (0, .ref q), (1, .int (nI i))]) K dX2_tryReach_22 rfl (by decide) rfl ?_
  have hgH : (hb_kG (hb_cpG G2 G) (nI i)) 0 = nI n := (hb_kG_0 _ _ 0 (by decide) (by decide)).trans hg
  have hgP : ∀ j, (hb_pm (hb_hC (hb_cpC C2 C 10) i) (hb_kG (hb_cpG G2 G) (nI i)) (hb_cpM M2 M 10) n j).2 0 = nI n := fun j => (hb_pm_0 0 (by decide) (by decide) (by decide) (by decide) j).trans hgH
  have hL : ∀ j, j ≤ 100 → jk_J Γ E (hb_L E (hb_ob q b1 b2 :: hb_LW E b1 C G M) Y b2 (hb_pm (hb_hC (hb_cpC C2 C 10) i) (hb_kG (hb_cpG G2 G) (nI i)) (hb_cpM M2 M 10) n j).1 (hb_pm (hb_hC (hb_cpC C2 C 10) i) (hb_kG (hb_cpG G2 G) (nI i)) (hb_cpM M2 M 10) n j).2 (hb_cpM M2 M 10)) 0 0 23 [(3, .int (nI j)), (2, .int (hb_rc (hb_hC (hb_cpC C2 C 10) i) (hb_kG (hb_cpG G2 G) (nI i)) (hb_cpM M2 M 10) n i j)), (0, .ref q), (1, .int (nI i))] [] := by
    refine jk_loop (fun j hj ih => ?_)
    have hg' := hgP j
    refine jk_iload_n K dX2_tryReach_23 rfl 0 rfl ?_
    refine jk_bipush (x := (nI 100)) K dX2_tryReach_24 rfl ?_
    refine jk_icmp_ge (tgt := 53) K dX2_tryReach_26 rfl (fun c_26 => ?_) (fun c_26 => ?_)
    · have hjn : j = 100 := hb_ex (n := 100) rfl (by decide) hj c_26
      refine jk_iload_n K dX2_tryReach_53 rfl 1 rfl ?_
      refine jk_cSi K (n' := 0) (k' := 0) [.int (hb_rc (hb_hC (hb_cpC C2 C 10) i) (hb_kG (hb_cpG G2 G) (nI i)) (hb_cpM M2 M 10) n i j)] [] dX2_tryReach_54 (hb_J6_bitCount_0f7a4 _ hl E (hb_L E (hb_ob q b1 b2 :: hb_LW E b1 C G M) Y b2 (hb_pm (hb_hC (hb_cpC C2 C 10) i) (hb_kG (hb_cpG G2 G) (nI i)) (hb_cpM M2 M 10) n j).1 (hb_pm (hb_hC (hb_cpC C2 C 10) i) (hb_kG (hb_cpG G2 G) (nI i)) (hb_cpM M2 M 10) n j).2 (hb_cpM M2 M 10)) (hb_rc (hb_hC (hb_cpC C2 C 10) i) (hb_kG (hb_cpG G2 G) (nI i)) (hb_cpM M2 M 10) n i j)) gX2_tryReach_J6_bitCount_0f7a4 rfl kd_J6_bitCount_0f7a4 ⟨Nat.le_of_ble_eq_true rfl, Nat.le_of_ble_eq_true rfl⟩ (Nat.le_of_ble_eq_true rfl) ⟨rfl, rfl⟩ ⟨Nat.le_of_ble_eq_true rfl, Nat.le_of_ble_eq_true rfl⟩ rfl (fun _ _ => ?_)
      exact jk_iret K hz dX2_tryReach_57 ((hb_pm (hb_hC (hb_cpC C2 C 10) i) (hb_kG (hb_cpG G2 G) (nI i)) (hb_cpM M2 M 10) n j).1, (hb_pm (hb_hC (hb_cpC C2 C 10) i) (hb_kG (hb_cpG G2 G) (nI i)) (hb_cpM M2 M 10) n j).2, (hb_cpM M2 M 10)) (by show some (Value.int (hb_bitc (hb_rc _ _ _ _ _ 100))) = _; rw [hjn]) trivial rfl rfl (Nat.le_of_ble_eq_true rfl) (Nat.le_of_ble_eq_true rfl)
    · have hlt : j < 100 := hb_in (n := 100) rfl (by decide) hj c_26
      refine jk_aload_n K dX2_tryReach_29 rfl 2 rfl ?_
      refine jk_get (C := RX2) (T := TX2) (N := 2) (nm := "trial") (ds := "LHillBeacons$Land;") (v := .ref (b2 0)) K dX2_tryReach_30 hin_RX2 (by decide +kernel) 0 rfl rfl 1 rfl (by decide) rfl ?_
      refine jk_cVv K (n' := 0) (k' := 0) [] [] dX2_tryReach_33 (hb_X1_passOne _ hl E (hb_ob q b1 b2 :: hb_LW E b1 C G M) Y b2 (hb_pm (hb_hC (hb_cpC C2 C 10) i) (hb_kG (hb_cpG G2 G) (nI i)) (hb_cpM M2 M 10) n j).1 (hb_pm (hb_hC (hb_cpC C2 C 10) i) (hb_kG (hb_cpG G2 G) (nI i)) (hb_cpM M2 M 10) n j).2 (hb_cpM M2 M 10) n hn hg') gX2_tryReach_X1_passOne rfl kd_X1_passOne ⟨Nat.le_of_ble_eq_true rfl, Nat.le_of_ble_eq_true rfl⟩ ((hb_ob q b1 b2 :: hb_LW E b1 C G M).length + 0) hb_L0 rfl (Nat.le_of_ble_eq_true rfl) ⟨rfl, rfl⟩ ⟨Nat.le_of_ble_eq_true rfl, Nat.le_of_ble_eq_true rfl⟩ rfl (fun _ _ => ?_)
      refine jk_iload_n K dX2_tryReach_36 rfl 1 rfl ?_
      refine jk_aload_n K dX2_tryReach_37 rfl 2 rfl ?_
      refine jk_get (C := RX2) (T := TX2) (N := 2) (nm := "trial") (ds := "LHillBeacons$Land;") (v := .ref (b2 0)) K dX2_tryReach_38 hin_RX2 (by decide +kernel) 0 rfl rfl 1 rfl (by decide) rfl ?_
      refine jk_iload_n K dX2_tryReach_41 rfl 3 rfl ?_
      refine jk_cVi K (n' := 0) (k' := 0) [.int (nI i)] [.int (hb_rc (hb_hC (hb_cpC C2 C 10) i) (hb_kG (hb_cpG G2 G) (nI i)) (hb_cpM M2 M 10) n i j)] dX2_tryReach_42 (hb_X1_burningFrom _ hl E (hb_ob q b1 b2 :: hb_LW E b1 C G M) Y b2 (hb_poC (hb_pm (hb_hC (hb_cpC C2 C 10) i) (hb_kG (hb_cpG G2 G) (nI i)) (hb_cpM M2 M 10) n j).1 (hb_pm (hb_hC (hb_cpC C2 C 10) i) (hb_kG (hb_cpG G2 G) (nI i)) (hb_cpM M2 M 10) n j).2 (hb_cpM M2 M 10) n) (hb_poG (hb_pm (hb_hC (hb_cpC C2 C 10) i) (hb_kG (hb_cpG G2 G) (nI i)) (hb_cpM M2 M 10) n j).1 (hb_pm (hb_hC (hb_cpC C2 C 10) i) (hb_kG (hb_cpG G2 G) (nI i)) (hb_cpM M2 M 10) n j).2 (hb_cpM M2 M 10) n) (hb_cpM M2 M 10) (nI i) n hn (hgP (j + 1))) gX2_tryReach_X1_burningFrom rfl kd_X1_burningFrom ⟨Nat.le_of_ble_eq_true rfl, Nat.le_of_ble_eq_true rfl⟩ ((hb_ob q b1 b2 :: hb_LW E b1 C G M).length + 0) hb_L0 rfl (Nat.le_of_ble_eq_true rfl) ⟨rfl, rfl⟩ ⟨Nat.le_of_ble_eq_true rfl, Nat.le_of_ble_eq_true rfl⟩ rfl (fun _ _ => ?_)
      refine jk_ior K dX2_tryReach_45 ?_
      refine jk_istore_n (lv' := [(2, .int ((hb_rc (hb_hC (hb_cpC C2 C 10) i) (hb_kG (hb_cpG G2 G) (nI i)) (hb_cpM M2 M 10) n i j) ||| (hb_bset (hb_poC (hb_pm (hb_hC (hb_cpC C2 C 10) i) (hb_kG (hb_cpG G2 G) (nI i)) (hb_cpM M2 M 10) n j).1 (hb_pm (hb_hC (hb_cpC C2 C 10) i) (hb_kG (hb_cpG G2 G) (nI i)) (hb_cpM M2 M 10) n j).2 (hb_cpM M2 M 10) n) (nI i) n))), (3, .int (nI j)), (0, .ref q), (1, .int (nI i))]) K dX2_tryReach_46 rfl (by decide) rfl ?_
      refine jk_iinc (v := (nI (j + 1))) (lv' := [(3, .int (nI (j + 1))), (2, .int ((hb_rc (hb_hC (hb_cpC C2 C 10) i) (hb_kG (hb_cpG G2 G) (nI i)) (hb_cpM M2 M 10) n i j) ||| (hb_bset (hb_poC (hb_pm (hb_hC (hb_cpC C2 C 10) i) (hb_kG (hb_cpG G2 G) (nI i)) (hb_cpM M2 M 10) n j).1 (hb_pm (hb_hC (hb_cpC C2 C 10) i) (hb_kG (hb_cpG G2 G) (nI i)) (hb_cpM M2 M 10) n j).2 (hb_cpM M2 M 10) n) (nI i) n))), (0, .ref q), (1, .int (nI i))]) K dX2_tryReach_47 1 rfl (nI_1 j) (by decide) rfl ?_
      refine jk_goto (tgt := 23) K dX2_tryReach_50 rfl ?_
      refine jk_lv (lv' := [(3, .int (nI (j + 1))), (2, .int (hb_rc (hb_hC (hb_cpC C2 C 10) i) (hb_kG (hb_cpG G2 G) (nI i)) (hb_cpM M2 M 10) n i (j + 1))), (0, .ref q), (1, .int (nI i))]) (by first | rfl | (simp [hb_pm_s, hb_rc_s, c_26]; done)) ?_
      refine jk_ws (ws' := (hb_L E (hb_ob q b1 b2 :: hb_LW E b1 C G M) Y b2 (hb_pm (hb_hC (hb_cpC C2 C 10) i) (hb_kG (hb_cpG G2 G) (nI i)) (hb_cpM M2 M 10) n (j + 1)).1 (hb_pm (hb_hC (hb_cpC C2 C 10) i) (hb_kG (hb_cpG G2 G) (nI i)) (hb_cpM M2 M 10) n (j + 1)).2 (hb_cpM M2 M 10))) (by first | rfl | (simp [hb_pm_s, hb_rc_s, c_26]; done)) ?_
      exact ih hlt
  refine jk_lv (lv' := [(3, .int (nI 0)), (2, .int (hb_rc (hb_hC (hb_cpC C2 C 10) i) (hb_kG (hb_cpG G2 G) (nI i)) (hb_cpM M2 M 10) n i 0)), (0, .ref q), (1, .int (nI i))]) (by first | rfl | (simp []; done)) ?_
  refine jk_ws (ws' := (hb_L E (hb_ob q b1 b2 :: hb_LW E b1 C G M) Y b2 (hb_pm (hb_hC (hb_cpC C2 C 10) i) (hb_kG (hb_cpG G2 G) (nI i)) (hb_cpM M2 M 10) n 0).1 (hb_pm (hb_hC (hb_cpC C2 C 10) i) (hb_kG (hb_cpG G2 G) (nI i)) (hb_cpM M2 M 10) n 0).2 (hb_cpM M2 M 10))) (by first | rfl | (simp []; done)) ?_
  exact hL 0 (by omega)
set_option maxHeartbeats 4000000 in
set_option maxRecDepth 100000 in
theorem hb_X2_reachOf (l : Launch) (hl : l.stackTraces = false) (E : jk_T) (q : Nat) (b1 b2 : Nat → Nat) (Y : va_W) (C : Nat → Nat → Int32) (G M : Nat → Int32) (C2 : Nat → Nat → Int32) (G2 M2 : Nat → Int32) (n : Nat) (hn : n ≤ 10) (hg : G 0 = nI n) (x : Int32) : jk_Cx l yX2_reachOf wsX2_reachOf ({ frames := 9, cells := 2, slots := 12, locals := 153 } : Room) [.ref q, .int x] E (hb_v1 E q b1 b2 Y C G M C2 G2 M2) (fun u : Nat × hb_LS => some (.int (hb_tr C2 G2 M2 C G M n u.1))) (fun u => (hb_v1 E q b1 b2 Y C G M u.2.1 u.2.2.1 u.2.2.2)) (fun u => u.1 < n ∧ x = nI u.1 ∧ ¬ hb_rdy (C u.1) = 0) (fun Ex => (Ex = "java/lang/IndexOutOfBoundsException" ∧ ¬ hb_ok n x) ∨ (Ex = "java/lang/IllegalStateException" ∧ ∃ i, i < n ∧ x = nI i ∧ hb_rdy (C i) = 0)) := by
  refine jk_ofx (lv := [(0, .ref q), (1, .int x)]) (own := RX2) (nm := "reachOf") hl (by decide +kernel) rfl (Nat.le_of_ble_eq_true rfl) rfl rfl rfl (fun Γ hΓ K hnm hz hzx => ?_)
  subst hΓ
  refine jk_aload_n K dX2_reachOf_0 rfl 0 rfl ?_
  refine jk_iload_n K dX2_reachOf_1 rfl 1 rfl ?_
  refine jk_cVvx K (n' := 2) (k' := 12) [.int x] [] dX2_reachOf_2 (hb_X2_requireReady _ hl E q b1 b2 Y C G M C2 G2 M2 n hn hg x) gX2_reachOf_X2_requireReady rfl kd_X2_requireReady ⟨Nat.le_of_ble_eq_true rfl, Nat.le_of_ble_eq_true rfl⟩ 0 rfl rfl (Nat.le_of_ble_eq_true rfl) ⟨rfl, rfl⟩ ⟨Nat.le_of_ble_eq_true rfl, Nat.le_of_ble_eq_true rfl⟩ rfl (fun Ex hx => jk_out K hzx hx (Nat.le_of_ble_eq_true rfl) (Nat.le_of_ble_eq_true rfl)) (fun i hp => ?_)
  obtain ⟨hi, rfl, hrd⟩ := hp
  refine jk_aload_n K dX2_reachOf_5 rfl 0 rfl ?_
  refine jk_iload_n K dX2_reachOf_6 rfl 1 rfl ?_
  refine jk_cVi K (n' := 2) (k' := 12) [.int (nI i)] [] dX2_reachOf_7 (hb_X2_tryReach _ hl E q b1 b2 Y C G M C2 G2 M2 n hn hg i hi) gX2_reachOf_X2_tryReach rfl kd_X2_tryReach ⟨Nat.le_of_ble_eq_true rfl, Nat.le_of_ble_eq_true rfl⟩ 0 rfl rfl (Nat.le_of_ble_eq_true rfl) ⟨rfl, rfl⟩ ⟨Nat.le_of_ble_eq_true rfl, Nat.le_of_ble_eq_true rfl⟩ rfl (fun u7 _ => ?_)
  exact jk_iret K hz dX2_reachOf_10 (i, u7) rfl ⟨hi, rfl, hrd⟩ rfl rfl (Nat.le_of_ble_eq_true rfl) (Nat.le_of_ble_eq_true rfl)
set_option maxHeartbeats 4000000 in
set_option maxRecDepth 100000 in
theorem hb_X2_bestHill (l : Launch) (hl : l.stackTraces = false) (E : jk_T) (q : Nat) (b1 b2 : Nat → Nat) (Y : va_W) (C : Nat → Nat → Int32) (G M : Nat → Int32) (C2 : Nat → Nat → Int32) (G2 M2 : Nat → Int32) (n : Nat) (hn : n ≤ 10) (hg : G 0 = nI n) (R : Nat → Int32) (hR : ∀ i, i < n → ¬ hb_rdy (C i) = 0 → ∀ (D : Nat → Nat → Int32) (G3 M3 : Nat → Int32), hb_tr D G3 M3 C G M n i = R i) : jk_Ct l yX2_bestHill wsX2_bestHill ({ frames := 6, cells := 0, slots := 0, locals := 136 } : Room) [.ref q] E (hb_v1 E q b1 b2 Y C G M C2 G2 M2) (fun _ : hb_LS => some (.int (hb_bh C R n).1)) (fun u => (hb_v1 E q b1 b2 Y C G M u.1 u.2.1 u.2.2)) (fun _ => True) := by
  refine jk_of (lv := [(0, .ref q)]) (own := RX2) (nm := "bestHill") hl (by decide +kernel) rfl (Nat.le_of_ble_eq_true rfl) rfl rfl rfl (fun Γ hΓ K hnm hz => ?_)
  subst hΓ
  have hin_RX1 : ∀ w ∈ u_ws RX1 TX1 9, w ∈ wsX2_bestHill := by decide +kernel
  have hin_RX2 : ∀ w ∈ u_ws RX2 TX2 2, w ∈ wsX2_bestHill := by decide +kernel
  have hL : ∀ j, j ≤ n → ∀ (C2 : Nat → Nat → Int32) (G2 M2 : Nat → Int32), jk_J Γ E (hb_L E [hb_ob q b1 b2] (hb_LW E b2 C2 G2 M2 ++ Y) b1 C G M) 0 0 6 [(3, .int (nI j)), (2, .int ((hb_bh C R j).2)), (1, .int ((hb_bh C R j).1)), (0, .ref q)] [] := by
    refine jk_loop (fun j hj ih => ?_)
    intro C2 G2 M2
    refine jk_iload_n K dX2_bestHill_6 rfl 0 rfl ?_
    refine jk_aload_n K dX2_bestHill_7 rfl 3 rfl ?_
    refine jk_get (C := RX2) (T := TX2) (N := 2) (nm := "land") (ds := "LHillBeacons$Land;") (v := .ref (b1 0)) K dX2_bestHill_8 hin_RX2 (by decide +kernel) 0 rfl rfl 0 rfl (by decide) rfl ?_
    refine jk_get (C := RX1) (T := TX1) (N := 9) (nm := "count") (ds := "I") (v := .int (G 0)) K dX2_bestHill_11 hin_RX1 (by decide +kernel) ([hb_ob q b1 b2].length + 0) hb_L0 rfl 3 rfl (by decide) rfl ?_
    refine jk_icmp_ge (tgt := 59) K dX2_bestHill_14 rfl (fun c_14 => ?_) (fun c_14 => ?_)
    · have hjn : j = n := hb_ex hg (by omega) hj c_14
      refine jk_iload_n K dX2_bestHill_59 rfl 2 rfl ?_
      exact jk_iret K hz dX2_bestHill_60 (C2, G2, M2) (by rw [hjn]) trivial rfl rfl (Nat.le_of_ble_eq_true rfl) (Nat.le_of_ble_eq_true rfl)
    · have hlt : j < n := hb_in hg (by omega) hj c_14
      refine jk_aload_n K dX2_bestHill_17 rfl 3 rfl ?_
      refine jk_get (C := RX2) (T := TX2) (N := 2) (nm := "land") (ds := "LHillBeacons$Land;") (v := .ref (b1 0)) K dX2_bestHill_18 hin_RX2 (by decide +kernel) 0 rfl rfl 0 rfl (by decide) rfl ?_
      refine jk_iload_n K dX2_bestHill_21 rfl 0 rfl ?_
      refine jk_cVr K (n' := 0) (k' := 0) [.int (nI j)] [] dX2_bestHill_22 (hb_X1_hillAt_i _ hl E [hb_ob q b1 b2] (hb_LW E b2 C2 G2 M2 ++ Y) b1 C G M j (Nat.lt_of_lt_of_le hlt hn)) gX2_bestHill_X1_hillAt rfl kd_X1_hillAt ⟨Nat.le_of_ble_eq_true rfl, Nat.le_of_ble_eq_true rfl⟩ ([hb_ob q b1 b2].length + 0) hb_L0 rfl (Nat.le_of_ble_eq_true rfl) ⟨rfl, rfl⟩ ⟨Nat.le_of_ble_eq_true rfl, Nat.le_of_ble_eq_true rfl⟩ rfl (fun _ _ => ?_)
      refine jk_cVi K (n' := 0) (k' := 0) [] [] dX2_bestHill_25 (hb_X0_isReady _ hl E (hb_L E [hb_ob q b1 b2] (hb_LW E b2 C2 G2 M2 ++ Y) b1 C G M) ([hb_ob q b1 b2].length + (3 + j)) (b1 (3 + j)) (C j) (hb_Lh (Nat.le_of_lt (Nat.lt_of_lt_of_le hlt hn)))) gX2_bestHill_X0_isReady rfl kd_X0_isReady ⟨Nat.le_of_ble_eq_true rfl, Nat.le_of_ble_eq_true rfl⟩ ([hb_ob q b1 b2].length + (3 + j)) (hb_Lh (Nat.le_of_lt (Nat.lt_of_lt_of_le hlt hn))) rfl (Nat.le_of_ble_eq_true rfl) ⟨rfl, rfl⟩ ⟨Nat.le_of_ble_eq_true rfl, Nat.le_of_ble_eq_true rfl⟩ rfl (fun _ _ => ?_)
      refine jk_if_eq (tgt := 39) K dX2_bestHill_28 rfl (fun c_28 => ?_) (fun c_28 => ?_)
      · refine jk_iconst (x := 0) K dX2_bestHill_39 rfl ?_
        refine jk_istore (lv' := [(4, .int 0), (3, .int (nI j)), (2, .int ((hb_bh C R j).2)), (1, .int ((hb_bh C R j).1)), (0, .ref q)]) K dX2_bestHill_40 (by decide) rfl ?_
        refine jk_iload K dX2_bestHill_42 0 rfl ?_
        refine jk_iload_n K dX2_bestHill_44 rfl 2 rfl ?_
        refine jk_icmp_le (tgt := 53) K dX2_bestHill_45 rfl (fun c_45 => ?_) (fun c_45 => ?_)
        · refine jk_iinc (v := (nI (j + 1))) (lv' := [(3, .int (nI (j + 1))), (4, .int 0), (2, .int ((hb_bh C R j).2)), (1, .int ((hb_bh C R j).1)), (0, .ref q)]) K dX2_bestHill_53 1 rfl (nI_1 j) (by decide) rfl ?_
          refine jk_goto (tgt := 6) K dX2_bestHill_56 rfl ?_
          refine jk_sub (lv' := [(3, .int (nI (j + 1))), (2, .int ((hb_bh C R j).2)), (1, .int ((hb_bh C R j).1)), (0, .ref q)]) [0, 2, 3, 4] rfl ?_
          refine jk_lv (lv' := [(3, .int (nI (j + 1))), (2, .int ((hb_bh C R (j + 1)).2)), (1, .int ((hb_bh C R (j + 1)).1)), (0, .ref q)]) (by first | rfl | (simp [hb_bh_s, c_14, c_28, c_45]; done)) ?_
          exact ih hlt _ _ _
        · refine jk_iload_n K dX2_bestHill_48 rfl 1 rfl ?_
          refine jk_istore_n (lv' := [(1, .int (nI j)), (4, .int 0), (3, .int (nI j)), (2, .int ((hb_bh C R j).2)), (0, .ref q)]) K dX2_bestHill_49 rfl (by decide) rfl ?_
          refine jk_iload K dX2_bestHill_50 1 rfl ?_
          refine jk_istore_n (lv' := [(2, .int 0), (1, .int (nI j)), (4, .int 0), (3, .int (nI j)), (0, .ref q)]) K dX2_bestHill_52 rfl (by decide) rfl ?_
          refine jk_iinc (v := (nI (j + 1))) (lv' := [(3, .int (nI (j + 1))), (2, .int 0), (1, .int (nI j)), (4, .int 0), (0, .ref q)]) K dX2_bestHill_53 3 rfl (nI_1 j) (by decide) rfl ?_
          refine jk_goto (tgt := 6) K dX2_bestHill_56 rfl ?_
          refine jk_sub (lv' := [(3, .int (nI (j + 1))), (2, .int 0), (1, .int (nI j)), (0, .ref q)]) [0, 1, 2, 4] rfl ?_
          refine jk_lv (lv' := [(3, .int (nI (j + 1))), (2, .int ((hb_bh C R (j + 1)).2)), (1, .int ((hb_bh C R (j + 1)).1)), (0, .ref q)]) (by first | rfl | (simp [hb_bh_s, c_14, c_28, c_45]; done)) ?_
          exact ih hlt _ _ _
      · refine jk_aload_n K dX2_bestHill_31 rfl 3 rfl ?_
        refine jk_iload_n K dX2_bestHill_32 rfl 0 rfl ?_
        refine jk_cVi K (n' := 0) (k' := 0) [.int (nI j)] [] dX2_bestHill_33 (hb_X2_tryReach _ hl E q b1 b2 Y C G M C2 G2 M2 n hn hg j hlt) gX2_bestHill_X2_tryReach rfl kd_X2_tryReach ⟨Nat.le_of_ble_eq_true rfl, Nat.le_of_ble_eq_true rfl⟩ 0 rfl rfl (Nat.le_of_ble_eq_true rfl) ⟨rfl, rfl⟩ ⟨Nat.le_of_ble_eq_true rfl, Nat.le_of_ble_eq_true rfl⟩ rfl (fun u33 _ => ?_)
        refine jk_st (st' := [.int (R j)]) (by rw [hR j hlt c_28]) ?_
        refine jk_goto (tgt := 40) K dX2_bestHill_36 rfl ?_
        refine jk_istore (lv' := [(4, .int (R j)), (3, .int (nI j)), (2, .int ((hb_bh C R j).2)), (1, .int ((hb_bh C R j).1)), (0, .ref q)]) K dX2_bestHill_40 (by decide) rfl ?_
        refine jk_iload K dX2_bestHill_42 0 rfl ?_
        refine jk_iload_n K dX2_bestHill_44 rfl 2 rfl ?_
        refine jk_icmp_le (tgt := 53) K dX2_bestHill_45 rfl (fun c_45 => ?_) (fun c_45 => ?_)
        · refine jk_iinc (v := (nI (j + 1))) (lv' := [(3, .int (nI (j + 1))), (4, .int (R j)), (2, .int ((hb_bh C R j).2)), (1, .int ((hb_bh C R j).1)), (0, .ref q)]) K dX2_bestHill_53 1 rfl (nI_1 j) (by decide) rfl ?_
          refine jk_goto (tgt := 6) K dX2_bestHill_56 rfl ?_
          refine jk_sub (lv' := [(3, .int (nI (j + 1))), (2, .int ((hb_bh C R j).2)), (1, .int ((hb_bh C R j).1)), (0, .ref q)]) [0, 2, 3, 4] rfl ?_
          refine jk_lv (lv' := [(3, .int (nI (j + 1))), (2, .int ((hb_bh C R (j + 1)).2)), (1, .int ((hb_bh C R (j + 1)).1)), (0, .ref q)]) (by first | rfl | (simp [hb_bh_s, c_14, c_28, c_45]; done)) ?_
          exact ih hlt _ _ _
        · refine jk_iload_n K dX2_bestHill_48 rfl 1 rfl ?_
          refine jk_istore_n (lv' := [(1, .int (nI j)), (4, .int (R j)), (3, .int (nI j)), (2, .int ((hb_bh C R j).2)), (0, .ref q)]) K dX2_bestHill_49 rfl (by decide) rfl ?_
          refine jk_iload K dX2_bestHill_50 1 rfl ?_
          refine jk_istore_n (lv' := [(2, .int (R j)), (1, .int (nI j)), (4, .int (R j)), (3, .int (nI j)), (0, .ref q)]) K dX2_bestHill_52 rfl (by decide) rfl ?_
          refine jk_iinc (v := (nI (j + 1))) (lv' := [(3, .int (nI (j + 1))), (2, .int (R j)), (1, .int (nI j)), (4, .int (R j)), (0, .ref q)]) K dX2_bestHill_53 3 rfl (nI_1 j) (by decide) rfl ?_
          refine jk_goto (tgt := 6) K dX2_bestHill_56 rfl ?_
          refine jk_sub (lv' := [(3, .int (nI (j + 1))), (2, .int (R j)), (1, .int (nI j)), (0, .ref q)]) [0, 1, 2, 4] rfl ?_
          refine jk_lv (lv' := [(3, .int (nI (j + 1))), (2, .int ((hb_bh C R (j + 1)).2)), (1, .int ((hb_bh C R (j + 1)).1)), (0, .ref q)]) (by first | rfl | (simp [hb_bh_s, c_14, c_28, c_45]; done)) ?_
          exact ih hlt _ _ _
  refine jk_iconst (x := (-1)) K dX2_bestHill_0 rfl ?_
  refine jk_istore_n (lv' := [(1, .int (-1)), (0, .ref q)]) K dX2_bestHill_1 rfl (by decide) rfl ?_
  refine jk_iconst (x := 0) K dX2_bestHill_2 rfl ?_
  refine jk_istore_n (lv' := [(2, .int 0), (1, .int (-1)), (0, .ref q)]) K dX2_bestHill_3 rfl (by decide) rfl ?_
  refine jk_iconst (x := 0) K dX2_bestHill_4 rfl ?_
  refine jk_istore_n (lv' := [(3, .int 0), (2, .int 0), (1, .int (-1)), (0, .ref q)]) K dX2_bestHill_5 rfl (by decide) rfl ?_
  refine jk_lv (lv' := [(3, .int (nI 0)), (2, .int ((hb_bh C R 0).2)), (1, .int ((hb_bh C R 0).1)), (0, .ref q)]) (by first | rfl | (simp [hb_bh_s]; done)) ?_
  exact hL 0 (Nat.zero_le _) _ _ _
set_option maxHeartbeats 4000000 in
set_option maxRecDepth 100000 in
theorem hb_X2_meanWood (l : Launch) (hl : l.stackTraces = false) (E : jk_T) (q : Nat) (b1 b2 : Nat → Nat) (Y : va_W) (C : Nat → Nat → Int32) (G M : Nat → Int32) (C2 : Nat → Nat → Int32) (G2 M2 : Nat → Int32) (n : Nat) (hn : n ≤ 10) (hg : G 0 = nI n) (hv : 0 < G 0 → vf_n64 (FP.ddiv (FP.i2d (hb_wood C n)) (FP.i2d (G 0)))) : jk_fn l yX2_meanWood wsX2_meanWood ({ frames := 2, cells := 0, slots := 0, locals := 44 } : Room) [.ref q] E (hb_v1 E q b1 b2 Y C G M C2 G2 M2) (some (.double (hb_mean C G n))) (hb_v1 E q b1 b2 Y C G M C2 G2 M2) := by
  refine jk_of (lv := [(0, .ref q)]) (own := RX2) (nm := "meanWood") hl (by decide +kernel) rfl (Nat.le_of_ble_eq_true rfl) rfl rfl rfl (fun Γ hΓ K hnm hz => ?_)
  subst hΓ
  have hin_RX1 : ∀ w ∈ u_ws RX1 TX1 9, w ∈ wsX2_meanWood := by decide +kernel
  have hin_RX2 : ∀ w ∈ u_ws RX2 TX2 2, w ∈ wsX2_meanWood := by decide +kernel
  refine jk_aload_n K dX2_meanWood_0 rfl 0 rfl ?_
  refine jk_get (C := RX2) (T := TX2) (N := 2) (nm := "land") (ds := "LHillBeacons$Land;") (v := .ref (b1 0)) K dX2_meanWood_1 hin_RX2 (by decide +kernel) 0 rfl rfl 0 rfl (by decide) rfl ?_
  refine jk_get (C := RX1) (T := TX1) (N := 9) (nm := "count") (ds := "I") (v := .int (G 0)) K dX2_meanWood_4 hin_RX1 (by decide +kernel) ([hb_ob q b1 b2].length + 0) hb_L0 rfl 3 rfl (by decide) rfl ?_
  refine jk_if_gt (tgt := 12) K dX2_meanWood_7 rfl (fun c_7 => ?_) (fun c_7 => ?_)
  · refine jk_aload_n K dX2_meanWood_12 rfl 0 rfl ?_
    refine jk_get (C := RX2) (T := TX2) (N := 2) (nm := "land") (ds := "LHillBeacons$Land;") (v := .ref (b1 0)) K dX2_meanWood_13 hin_RX2 (by decide +kernel) 0 rfl rfl 0 rfl (by decide) rfl ?_
    refine jk_cVi K (n' := 0) (k' := 0) [] [] dX2_meanWood_16 (hb_X1_sumWood _ hl E [hb_ob q b1 b2] (hb_LW E b2 C2 G2 M2 ++ Y) b1 C G M n hn hg) gX2_meanWood_X1_sumWood rfl kd_X1_sumWood ⟨Nat.le_of_ble_eq_true rfl, Nat.le_of_ble_eq_true rfl⟩ ([hb_ob q b1 b2].length + 0) hb_L0 rfl (Nat.le_of_ble_eq_true rfl) ⟨rfl, rfl⟩ ⟨Nat.le_of_ble_eq_true rfl, Nat.le_of_ble_eq_true rfl⟩ rfl (fun _ _ => ?_)
    refine jk_i2d K dX2_meanWood_19 ?_
    refine jk_aload_n K dX2_meanWood_20 rfl 0 rfl ?_
    refine jk_get (C := RX2) (T := TX2) (N := 2) (nm := "land") (ds := "LHillBeacons$Land;") (v := .ref (b1 0)) K dX2_meanWood_21 hin_RX2 (by decide +kernel) 0 rfl rfl 0 rfl (by decide) rfl ?_
    refine jk_get (C := RX1) (T := TX1) (N := 9) (nm := "count") (ds := "I") (v := .int (G 0)) K dX2_meanWood_24 hin_RX1 (by decide +kernel) ([hb_ob q b1 b2].length + 0) hb_L0 rfl 3 rfl (by decide) rfl ?_
    refine jk_i2d K dX2_meanWood_27 ?_
    refine jk_ddiv K dX2_meanWood_28 (hv c_7) ?_
    exact jk_dret K hz dX2_meanWood_29 () (by unfold hb_mean; rw [if_pos c_7]) trivial rfl (Nat.le_of_ble_eq_true rfl) (Nat.le_of_ble_eq_true rfl)
  · refine jk_dconst0 K dX2_meanWood_10 ?_
    exact jk_dret K hz dX2_meanWood_11 () (by unfold hb_mean; rw [if_neg c_7]) trivial rfl (Nat.le_of_ble_eq_true rfl) (Nat.le_of_ble_eq_true rfl)
set_option maxHeartbeats 4000000 in
set_option maxRecDepth 100000 in
theorem hb_X2_mix (l : Launch) (hl : l.stackTraces = false) (E : jk_T) (ws : va_W) (d x : Int64) : jk_fn l yX2_mix wsX2_mix ({ frames := 0, cells := 0, slots := 0, locals := 0 } : Room) [.long d, .long x] E ws (some (.long (hb_mix d x))) ws := by
  refine jk_of (lv := [(0, .long d), (2, .long x)]) (own := RX2) (nm := "mix") hl (by decide +kernel) rfl (Nat.le_of_ble_eq_true rfl) rfl rfl rfl (fun Γ hΓ K hnm hz => ?_)
  subst hΓ
  refine jk_lload_n K dX2_mix_0 rfl 0 rfl ?_
  refine jk_ldc2 (v := 31) K dX2_mix_1 (by decide +kernel) ?_
  refine jk_lmul K dX2_mix_4 ?_
  refine jk_lload_n K dX2_mix_5 rfl 1 rfl ?_
  refine jk_ladd K dX2_mix_6 ?_
  exact jk_lret K hz dX2_mix_7 () rfl trivial rfl (Nat.le_of_ble_eq_true rfl) (Nat.le_of_ble_eq_true rfl)
set_option maxHeartbeats 4000000 in
set_option maxRecDepth 100000 in
theorem hb_X2_mixIf (l : Launch) (hl : l.stackTraces = false) (E : jk_T) (ws : va_W) (d : Int64) (x : Int32) : jk_fn l yX2_mixIf wsX2_mixIf ({ frames := 1, cells := 0, slots := 0, locals := 23 } : Room) [.long d, .int x] E ws (some (.long (hb_mix d (hb_if (¬ x = 0))))) ws := by
  refine jk_of (lv := [(0, .long d), (2, .int x)]) (own := RX2) (nm := "mixIf") hl (by decide +kernel) rfl (Nat.le_of_ble_eq_true rfl) rfl rfl rfl (fun Γ hΓ K hnm hz => ?_)
  subst hΓ
  refine jk_lload_n K dX2_mixIf_0 rfl 0 rfl ?_
  refine jk_iload_n K dX2_mixIf_1 rfl 1 rfl ?_
  refine jk_if_eq (tgt := 9) K dX2_mixIf_2 rfl (fun c_2 => ?_) (fun c_2 => ?_)
  · refine jk_lconst (x := 0) K dX2_mixIf_9 rfl ?_
    refine jk_cSl K (n' := 0) (k' := 0) [.long d, .long 0] [] dX2_mixIf_10 (hb_X2_mix _ hl E ws d 0) gX2_mixIf_X2_mix rfl kd_X2_mix ⟨Nat.le_of_ble_eq_true rfl, Nat.le_of_ble_eq_true rfl⟩ (Nat.le_of_ble_eq_true rfl) ⟨rfl, rfl⟩ ⟨Nat.le_of_ble_eq_true rfl, Nat.le_of_ble_eq_true rfl⟩ rfl (fun _ _ => ?_)
    exact jk_lret K hz dX2_mixIf_13 () (by simp [hb_if, c_2]) trivial rfl (Nat.le_of_ble_eq_true rfl) (Nat.le_of_ble_eq_true rfl)
  · refine jk_lconst (x := 1) K dX2_mixIf_5 rfl ?_
    refine jk_goto (tgt := 10) K dX2_mixIf_6 rfl ?_
    refine jk_cSl K (n' := 0) (k' := 0) [.long d, .long 1] [] dX2_mixIf_10 (hb_X2_mix _ hl E ws d 1) gX2_mixIf_X2_mix rfl kd_X2_mix ⟨Nat.le_of_ble_eq_true rfl, Nat.le_of_ble_eq_true rfl⟩ (Nat.le_of_ble_eq_true rfl) ⟨rfl, rfl⟩ ⟨Nat.le_of_ble_eq_true rfl, Nat.le_of_ble_eq_true rfl⟩ rfl (fun _ _ => ?_)
    exact jk_lret K hz dX2_mixIf_13 () (by simp [hb_if, c_2]) trivial rfl (Nat.le_of_ble_eq_true rfl) (Nat.le_of_ble_eq_true rfl)
set_option maxHeartbeats 4000000 in
set_option maxRecDepth 100000 in
theorem hb_X2_digestLand (l : Launch) (hl : l.stackTraces = false) (E : jk_T) (q : Nat) (b1 b2 : Nat → Nat) (Y : va_W) (C : Nat → Nat → Int32) (G M : Nat → Int32) (C2 : Nat → Nat → Int32) (G2 M2 : Nat → Int32) (n : Nat) (hn : n ≤ 10) (hg : G 0 = nI n) (d : Int64) : jk_fn l yX2_digestLand wsX2_digestLand ({ frames := 2, cells := 0, slots := 0, locals := 44 } : Room) [.ref q, .long d] E (hb_v1 E q b1 b2 Y C G M C2 G2 M2) (some (.long (hb_dl C G n d))) (hb_v1 E q b1 b2 Y C G M C2 G2 M2) := by
  refine jk_of (lv := [(0, .ref q), (1, .long d)]) (own := RX2) (nm := "digestLand") hl (by decide +kernel) rfl (Nat.le_of_ble_eq_true rfl) rfl rfl rfl (fun Γ hΓ K hnm hz => ?_)
  subst hΓ
  have hin_RX1 : ∀ w ∈ u_ws RX1 TX1 9, w ∈ wsX2_digestLand := by decide +kernel
  have hin_RX2 : ∀ w ∈ u_ws RX2 TX2 2, w ∈ wsX2_digestLand := by decide +kernel
  refine jk_lload_n K dX2_digestLand_0 rfl 1 rfl ?_
  refine jk_aload_n K dX2_digestLand_1 rfl 0 rfl ?_
  refine jk_get (C := RX2) (T := TX2) (N := 2) (nm := "land") (ds := "LHillBeacons$Land;") (v := .ref (b1 0)) K dX2_digestLand_2 hin_RX2 (by decide +kernel) 0 rfl rfl 0 rfl (by decide) rfl ?_
  refine jk_get (C := RX1) (T := TX1) (N := 9) (nm := "count") (ds := "I") (v := .int (G 0)) K dX2_digestLand_5 hin_RX1 (by decide +kernel) ([hb_ob q b1 b2].length + 0) hb_L0 rfl 3 rfl (by decide) rfl ?_
  refine jk_i2l K dX2_digestLand_8 ?_
  refine jk_cSl K (n' := 0) (k' := 0) [.long d, .long (Int32.toInt64 (G 0))] [] dX2_digestLand_9 (hb_X2_mix _ hl E (hb_L E [hb_ob q b1 b2] (hb_LW E b2 C2 G2 M2 ++ Y) b1 C G M) d (Int32.toInt64 (G 0))) gX2_digestLand_X2_mix rfl kd_X2_mix ⟨Nat.le_of_ble_eq_true rfl, Nat.le_of_ble_eq_true rfl⟩ (Nat.le_of_ble_eq_true rfl) ⟨rfl, rfl⟩ ⟨Nat.le_of_ble_eq_true rfl, Nat.le_of_ble_eq_true rfl⟩ rfl (fun _ _ => ?_)
  refine jk_lstore_n (lv' := [(3, .long (hb_mix d (Int32.toInt64 (G 0)))), (0, .ref q), (1, .long d)]) K dX2_digestLand_12 rfl (by decide) rfl ?_
  refine jk_lload_n K dX2_digestLand_13 rfl 0 rfl ?_
  refine jk_aload_n K dX2_digestLand_14 rfl 1 rfl ?_
  refine jk_get (C := RX2) (T := TX2) (N := 2) (nm := "land") (ds := "LHillBeacons$Land;") (v := .ref (b1 0)) K dX2_digestLand_15 hin_RX2 (by decide +kernel) 0 rfl rfl 0 rfl (by decide) rfl ?_
  refine jk_get (C := RX1) (T := TX1) (N := 9) (nm := "minute") (ds := "I") (v := .int (G 3)) K dX2_digestLand_18 hin_RX1 (by decide +kernel) ([hb_ob q b1 b2].length + 0) hb_L0 rfl 6 rfl (by decide) rfl ?_
  refine jk_i2l K dX2_digestLand_21 ?_
  refine jk_cSl K (n' := 0) (k' := 0) [.long (hb_mix d (Int32.toInt64 (G 0))), .long (Int32.toInt64 (G 3))] [] dX2_digestLand_22 (hb_X2_mix _ hl E (hb_L E [hb_ob q b1 b2] (hb_LW E b2 C2 G2 M2 ++ Y) b1 C G M) (hb_mix d (Int32.toInt64 (G 0))) (Int32.toInt64 (G 3))) gX2_digestLand_X2_mix rfl kd_X2_mix ⟨Nat.le_of_ble_eq_true rfl, Nat.le_of_ble_eq_true rfl⟩ (Nat.le_of_ble_eq_true rfl) ⟨rfl, rfl⟩ ⟨Nat.le_of_ble_eq_true rfl, Nat.le_of_ble_eq_true rfl⟩ rfl (fun _ _ => ?_)
  refine jk_lstore_n (lv' := [(3, .long (hb_mix (hb_mix d (Int32.toInt64 (G 0))) (Int32.toInt64 (G 3)))), (0, .ref q), (1, .long d)]) K dX2_digestLand_25 rfl (by decide) rfl ?_
  refine jk_lload_n K dX2_digestLand_26 rfl 0 rfl ?_
  refine jk_aload_n K dX2_digestLand_27 rfl 1 rfl ?_
  refine jk_get (C := RX2) (T := TX2) (N := 2) (nm := "land") (ds := "LHillBeacons$Land;") (v := .ref (b1 0)) K dX2_digestLand_28 hin_RX2 (by decide +kernel) 0 rfl rfl 0 rfl (by decide) rfl ?_
  refine jk_get (C := RX1) (T := TX1) (N := 9) (nm := "haze") (ds := "I") (v := .int (G 1)) K dX2_digestLand_31 hin_RX1 (by decide +kernel) ([hb_ob q b1 b2].length + 0) hb_L0 rfl 4 rfl (by decide) rfl ?_
  refine jk_i2l K dX2_digestLand_34 ?_
  refine jk_cSl K (n' := 0) (k' := 0) [.long (hb_mix (hb_mix d (Int32.toInt64 (G 0))) (Int32.toInt64 (G 3))), .long (Int32.toInt64 (G 1))] [] dX2_digestLand_35 (hb_X2_mix _ hl E (hb_L E [hb_ob q b1 b2] (hb_LW E b2 C2 G2 M2 ++ Y) b1 C G M) (hb_mix (hb_mix d (Int32.toInt64 (G 0))) (Int32.toInt64 (G 3))) (Int32.toInt64 (G 1))) gX2_digestLand_X2_mix rfl kd_X2_mix ⟨Nat.le_of_ble_eq_true rfl, Nat.le_of_ble_eq_true rfl⟩ (Nat.le_of_ble_eq_true rfl) ⟨rfl, rfl⟩ ⟨Nat.le_of_ble_eq_true rfl, Nat.le_of_ble_eq_true rfl⟩ rfl (fun _ _ => ?_)
  refine jk_lstore_n (lv' := [(3, .long (hb_mix (hb_mix (hb_mix d (Int32.toInt64 (G 0))) (Int32.toInt64 (G 3))) (Int32.toInt64 (G 1)))), (0, .ref q), (1, .long d)]) K dX2_digestLand_38 rfl (by decide) rfl ?_
  refine jk_lload_n K dX2_digestLand_39 rfl 0 rfl ?_
  refine jk_aload_n K dX2_digestLand_40 rfl 1 rfl ?_
  refine jk_get (C := RX2) (T := TX2) (N := 2) (nm := "land") (ds := "LHillBeacons$Land;") (v := .ref (b1 0)) K dX2_digestLand_41 hin_RX2 (by decide +kernel) 0 rfl rfl 0 rfl (by decide) rfl ?_
  refine jk_get (C := RX1) (T := TX1) (N := 9) (nm := "glow") (ds := "I") (v := .int (G 2)) K dX2_digestLand_44 hin_RX1 (by decide +kernel) ([hb_ob q b1 b2].length + 0) hb_L0 rfl 5 rfl (by decide) rfl ?_
  refine jk_i2l K dX2_digestLand_47 ?_
  refine jk_cSl K (n' := 0) (k' := 0) [.long (hb_mix (hb_mix (hb_mix d (Int32.toInt64 (G 0))) (Int32.toInt64 (G 3))) (Int32.toInt64 (G 1))), .long (Int32.toInt64 (G 2))] [] dX2_digestLand_48 (hb_X2_mix _ hl E (hb_L E [hb_ob q b1 b2] (hb_LW E b2 C2 G2 M2 ++ Y) b1 C G M) (hb_mix (hb_mix (hb_mix d (Int32.toInt64 (G 0))) (Int32.toInt64 (G 3))) (Int32.toInt64 (G 1))) (Int32.toInt64 (G 2))) gX2_digestLand_X2_mix rfl kd_X2_mix ⟨Nat.le_of_ble_eq_true rfl, Nat.le_of_ble_eq_true rfl⟩ (Nat.le_of_ble_eq_true rfl) ⟨rfl, rfl⟩ ⟨Nat.le_of_ble_eq_true rfl, Nat.le_of_ble_eq_true rfl⟩ rfl (fun _ _ => ?_)
  refine jk_lstore_n (lv' := [(3, .long (hb_mix (hb_mix (hb_mix (hb_mix d (Int32.toInt64 (G 0))) (Int32.toInt64 (G 3))) (Int32.toInt64 (G 1))) (Int32.toInt64 (G 2)))), (0, .ref q), (1, .long d)]) K dX2_digestLand_51 rfl (by decide) rfl ?_
  refine jk_lload_n K dX2_digestLand_52 rfl 0 rfl ?_
  refine jk_aload_n K dX2_digestLand_53 rfl 1 rfl ?_
  refine jk_get (C := RX2) (T := TX2) (N := 2) (nm := "land") (ds := "LHillBeacons$Land;") (v := .ref (b1 0)) K dX2_digestLand_54 hin_RX2 (by decide +kernel) 0 rfl rfl 0 rfl (by decide) rfl ?_
  refine jk_cVi K (n' := 0) (k' := 0) [] [.long (hb_mix (hb_mix (hb_mix (hb_mix d (Int32.toInt64 (G 0))) (Int32.toInt64 (G 3))) (Int32.toInt64 (G 1))) (Int32.toInt64 (G 2)))] dX2_digestLand_57 (hb_X1_countBurning _ hl E [hb_ob q b1 b2] (hb_LW E b2 C2 G2 M2 ++ Y) b1 C G M n hn hg) gX2_digestLand_X1_countBurning rfl kd_X1_countBurning ⟨Nat.le_of_ble_eq_true rfl, Nat.le_of_ble_eq_true rfl⟩ ([hb_ob q b1 b2].length + 0) hb_L0 rfl (Nat.le_of_ble_eq_true rfl) ⟨rfl, rfl⟩ ⟨Nat.le_of_ble_eq_true rfl, Nat.le_of_ble_eq_true rfl⟩ rfl (fun _ _ => ?_)
  refine jk_i2l K dX2_digestLand_60 ?_
  refine jk_cSl K (n' := 0) (k' := 0) [.long (hb_mix (hb_mix (hb_mix (hb_mix d (Int32.toInt64 (G 0))) (Int32.toInt64 (G 3))) (Int32.toInt64 (G 1))) (Int32.toInt64 (G 2))), .long (Int32.toInt64 (hb_burn C n))] [] dX2_digestLand_61 (hb_X2_mix _ hl E (hb_L E [hb_ob q b1 b2] (hb_LW E b2 C2 G2 M2 ++ Y) b1 C G M) (hb_mix (hb_mix (hb_mix (hb_mix d (Int32.toInt64 (G 0))) (Int32.toInt64 (G 3))) (Int32.toInt64 (G 1))) (Int32.toInt64 (G 2))) (Int32.toInt64 (hb_burn C n))) gX2_digestLand_X2_mix rfl kd_X2_mix ⟨Nat.le_of_ble_eq_true rfl, Nat.le_of_ble_eq_true rfl⟩ (Nat.le_of_ble_eq_true rfl) ⟨rfl, rfl⟩ ⟨Nat.le_of_ble_eq_true rfl, Nat.le_of_ble_eq_true rfl⟩ rfl (fun _ _ => ?_)
  refine jk_lstore_n (lv' := [(3, .long (hb_mix (hb_mix (hb_mix (hb_mix (hb_mix d (Int32.toInt64 (G 0))) (Int32.toInt64 (G 3))) (Int32.toInt64 (G 1))) (Int32.toInt64 (G 2))) (Int32.toInt64 (hb_burn C n)))), (0, .ref q), (1, .long d)]) K dX2_digestLand_64 rfl (by decide) rfl ?_
  refine jk_lload_n K dX2_digestLand_65 rfl 0 rfl ?_
  refine jk_aload_n K dX2_digestLand_66 rfl 1 rfl ?_
  refine jk_get (C := RX2) (T := TX2) (N := 2) (nm := "land") (ds := "LHillBeacons$Land;") (v := .ref (b1 0)) K dX2_digestLand_67 hin_RX2 (by decide +kernel) 0 rfl rfl 0 rfl (by decide) rfl ?_
  refine jk_get (C := RX1) (T := TX1) (N := 9) (nm := "lit") (ds := "I") (v := .int (G 4)) K dX2_digestLand_70 hin_RX1 (by decide +kernel) ([hb_ob q b1 b2].length + 0) hb_L0 rfl 7 rfl (by decide) rfl ?_
  refine jk_i2l K dX2_digestLand_73 ?_
  refine jk_cSl K (n' := 0) (k' := 0) [.long (hb_mix (hb_mix (hb_mix (hb_mix (hb_mix d (Int32.toInt64 (G 0))) (Int32.toInt64 (G 3))) (Int32.toInt64 (G 1))) (Int32.toInt64 (G 2))) (Int32.toInt64 (hb_burn C n))), .long (Int32.toInt64 (G 4))] [] dX2_digestLand_74 (hb_X2_mix _ hl E (hb_L E [hb_ob q b1 b2] (hb_LW E b2 C2 G2 M2 ++ Y) b1 C G M) (hb_mix (hb_mix (hb_mix (hb_mix (hb_mix d (Int32.toInt64 (G 0))) (Int32.toInt64 (G 3))) (Int32.toInt64 (G 1))) (Int32.toInt64 (G 2))) (Int32.toInt64 (hb_burn C n))) (Int32.toInt64 (G 4))) gX2_digestLand_X2_mix rfl kd_X2_mix ⟨Nat.le_of_ble_eq_true rfl, Nat.le_of_ble_eq_true rfl⟩ (Nat.le_of_ble_eq_true rfl) ⟨rfl, rfl⟩ ⟨Nat.le_of_ble_eq_true rfl, Nat.le_of_ble_eq_true rfl⟩ rfl (fun _ _ => ?_)
  refine jk_lstore_n (lv' := [(3, .long (hb_mix (hb_mix (hb_mix (hb_mix (hb_mix (hb_mix d (Int32.toInt64 (G 0))) (Int32.toInt64 (G 3))) (Int32.toInt64 (G 1))) (Int32.toInt64 (G 2))) (Int32.toInt64 (hb_burn C n))) (Int32.toInt64 (G 4)))), (0, .ref q), (1, .long d)]) K dX2_digestLand_77 rfl (by decide) rfl ?_
  refine jk_lload_n K dX2_digestLand_78 rfl 0 rfl ?_
  refine jk_aload_n K dX2_digestLand_79 rfl 1 rfl ?_
  refine jk_get (C := RX2) (T := TX2) (N := 2) (nm := "land") (ds := "LHillBeacons$Land;") (v := .ref (b1 0)) K dX2_digestLand_80 hin_RX2 (by decide +kernel) 0 rfl rfl 0 rfl (by decide) rfl ?_
  refine jk_get (C := RX1) (T := TX1) (N := 9) (nm := "mistaken") (ds := "I") (v := .int (G 5)) K dX2_digestLand_83 hin_RX1 (by decide +kernel) ([hb_ob q b1 b2].length + 0) hb_L0 rfl 8 rfl (by decide) rfl ?_
  refine jk_i2l K dX2_digestLand_86 ?_
  refine jk_cSl K (n' := 0) (k' := 0) [.long (hb_mix (hb_mix (hb_mix (hb_mix (hb_mix (hb_mix d (Int32.toInt64 (G 0))) (Int32.toInt64 (G 3))) (Int32.toInt64 (G 1))) (Int32.toInt64 (G 2))) (Int32.toInt64 (hb_burn C n))) (Int32.toInt64 (G 4))), .long (Int32.toInt64 (G 5))] [] dX2_digestLand_87 (hb_X2_mix _ hl E (hb_L E [hb_ob q b1 b2] (hb_LW E b2 C2 G2 M2 ++ Y) b1 C G M) (hb_mix (hb_mix (hb_mix (hb_mix (hb_mix (hb_mix d (Int32.toInt64 (G 0))) (Int32.toInt64 (G 3))) (Int32.toInt64 (G 1))) (Int32.toInt64 (G 2))) (Int32.toInt64 (hb_burn C n))) (Int32.toInt64 (G 4))) (Int32.toInt64 (G 5))) gX2_digestLand_X2_mix rfl kd_X2_mix ⟨Nat.le_of_ble_eq_true rfl, Nat.le_of_ble_eq_true rfl⟩ (Nat.le_of_ble_eq_true rfl) ⟨rfl, rfl⟩ ⟨Nat.le_of_ble_eq_true rfl, Nat.le_of_ble_eq_true rfl⟩ rfl (fun _ _ => ?_)
  exact jk_lret K hz dX2_digestLand_90 () rfl trivial rfl (Nat.le_of_ble_eq_true rfl) (Nat.le_of_ble_eq_true rfl)
set_option maxHeartbeats 4000000 in
set_option maxRecDepth 100000 in
theorem hb_X2_digestHill (l : Launch) (hl : l.stackTraces = false) (E : jk_T) (q : Nat) (b1 b2 : Nat → Nat) (Y : va_W) (C : Nat → Nat → Int32) (G M : Nat → Int32) (C2 : Nat → Nat → Int32) (G2 M2 : Nat → Int32) (i : Nat) (hi : i ≤ 10) (d : Int64) : jk_fn l yX2_digestHill wsX2_digestHill ({ frames := 2, cells := 0, slots := 0, locals := 45 } : Room) [.long d, .ref (b1 (3 + i))] E (hb_v1 E q b1 b2 Y C G M C2 G2 M2) (some (.long (hb_dh (C i) d))) (hb_v1 E q b1 b2 Y C G M C2 G2 M2) := by
  refine jk_of (lv := [(0, .long d), (2, .ref (b1 (3 + i)))]) (own := RX2) (nm := "digestHill") hl (by decide +kernel) rfl (Nat.le_of_ble_eq_true rfl) rfl rfl rfl (fun Γ hΓ K hnm hz => ?_)
  subst hΓ
  have hin_RX0 : ∀ w ∈ u_ws RX0 TX0 11, w ∈ wsX2_digestHill := by decide +kernel
  refine jk_lload_n K dX2_digestHill_0 rfl 0 rfl ?_
  refine jk_aload_n K dX2_digestHill_1 rfl 1 rfl ?_
  refine jk_get (C := RX0) (T := TX0) (N := 11) (nm := "wood") (ds := "I") (v := .int ((C i) 0)) K dX2_digestHill_2 hin_RX0 (by decide +kernel) ([hb_ob q b1 b2].length + (3 + i)) (hb_Lh hi) rfl 0 rfl (by decide) rfl ?_
  refine jk_i2l K dX2_digestHill_5 ?_
  refine jk_cSl K (n' := 0) (k' := 0) [.long d, .long (Int32.toInt64 ((C i) 0))] [] dX2_digestHill_6 (hb_X2_mix _ hl E (hb_L E [hb_ob q b1 b2] (hb_LW E b2 C2 G2 M2 ++ Y) b1 C G M) d (Int32.toInt64 ((C i) 0))) gX2_digestHill_X2_mix rfl kd_X2_mix ⟨Nat.le_of_ble_eq_true rfl, Nat.le_of_ble_eq_true rfl⟩ (Nat.le_of_ble_eq_true rfl) ⟨rfl, rfl⟩ ⟨Nat.le_of_ble_eq_true rfl, Nat.le_of_ble_eq_true rfl⟩ rfl (fun _ _ => ?_)
  refine jk_lstore_n (lv' := [(3, .long (hb_mix d (Int32.toInt64 ((C i) 0)))), (0, .long d), (2, .ref (b1 (3 + i)))]) K dX2_digestHill_9 rfl (by decide) rfl ?_
  refine jk_lload_n K dX2_digestHill_10 rfl 0 rfl ?_
  refine jk_aload_n K dX2_digestHill_11 rfl 2 rfl ?_
  refine jk_get (C := RX0) (T := TX0) (N := 11) (nm := "damp") (ds := "I") (v := .int ((C i) 1)) K dX2_digestHill_12 hin_RX0 (by decide +kernel) ([hb_ob q b1 b2].length + (3 + i)) (hb_Lh hi) rfl 1 rfl (by decide) rfl ?_
  refine jk_i2l K dX2_digestHill_15 ?_
  refine jk_cSl K (n' := 0) (k' := 0) [.long (hb_mix d (Int32.toInt64 ((C i) 0))), .long (Int32.toInt64 ((C i) 1))] [] dX2_digestHill_16 (hb_X2_mix _ hl E (hb_L E [hb_ob q b1 b2] (hb_LW E b2 C2 G2 M2 ++ Y) b1 C G M) (hb_mix d (Int32.toInt64 ((C i) 0))) (Int32.toInt64 ((C i) 1))) gX2_digestHill_X2_mix rfl kd_X2_mix ⟨Nat.le_of_ble_eq_true rfl, Nat.le_of_ble_eq_true rfl⟩ (Nat.le_of_ble_eq_true rfl) ⟨rfl, rfl⟩ ⟨Nat.le_of_ble_eq_true rfl, Nat.le_of_ble_eq_true rfl⟩ rfl (fun _ _ => ?_)
  refine jk_lstore_n (lv' := [(3, .long (hb_mix (hb_mix d (Int32.toInt64 ((C i) 0))) (Int32.toInt64 ((C i) 1)))), (0, .long d), (2, .ref (b1 (3 + i)))]) K dX2_digestHill_19 rfl (by decide) rfl ?_
  refine jk_lload_n K dX2_digestHill_20 rfl 0 rfl ?_
  refine jk_aload_n K dX2_digestHill_21 rfl 2 rfl ?_
  refine jk_get (C := RX0) (T := TX0) (N := 11) (nm := "watch") (ds := "I") (v := .int ((C i) 2)) K dX2_digestHill_22 hin_RX0 (by decide +kernel) ([hb_ob q b1 b2].length + (3 + i)) (hb_Lh hi) rfl 2 rfl (by decide) rfl ?_
  refine jk_i2l K dX2_digestHill_25 ?_
  refine jk_cSl K (n' := 0) (k' := 0) [.long (hb_mix (hb_mix d (Int32.toInt64 ((C i) 0))) (Int32.toInt64 ((C i) 1))), .long (Int32.toInt64 ((C i) 2))] [] dX2_digestHill_26 (hb_X2_mix _ hl E (hb_L E [hb_ob q b1 b2] (hb_LW E b2 C2 G2 M2 ++ Y) b1 C G M) (hb_mix (hb_mix d (Int32.toInt64 ((C i) 0))) (Int32.toInt64 ((C i) 1))) (Int32.toInt64 ((C i) 2))) gX2_digestHill_X2_mix rfl kd_X2_mix ⟨Nat.le_of_ble_eq_true rfl, Nat.le_of_ble_eq_true rfl⟩ (Nat.le_of_ble_eq_true rfl) ⟨rfl, rfl⟩ ⟨Nat.le_of_ble_eq_true rfl, Nat.le_of_ble_eq_true rfl⟩ rfl (fun _ _ => ?_)
  refine jk_lstore_n (lv' := [(3, .long (hb_mix (hb_mix (hb_mix d (Int32.toInt64 ((C i) 0))) (Int32.toInt64 ((C i) 1))) (Int32.toInt64 ((C i) 2)))), (0, .long d), (2, .ref (b1 (3 + i)))]) K dX2_digestHill_29 rfl (by decide) rfl ?_
  refine jk_lload_n K dX2_digestHill_30 rfl 0 rfl ?_
  refine jk_aload_n K dX2_digestHill_31 rfl 2 rfl ?_
  refine jk_get (C := RX0) (T := TX0) (N := 11) (nm := "east") (ds := "Z") (v := .int (hb_zb ((C i) 3))) K dX2_digestHill_32 hin_RX0 (by decide +kernel) ([hb_ob q b1 b2].length + (3 + i)) (hb_Lh hi) rfl 3 rfl (by decide) rfl ?_
  refine jk_cSl K (n' := 0) (k' := 0) [.long (hb_mix (hb_mix (hb_mix d (Int32.toInt64 ((C i) 0))) (Int32.toInt64 ((C i) 1))) (Int32.toInt64 ((C i) 2))), .int (hb_zb ((C i) 3))] [] dX2_digestHill_35 (hb_X2_mixIf _ hl E (hb_L E [hb_ob q b1 b2] (hb_LW E b2 C2 G2 M2 ++ Y) b1 C G M) (hb_mix (hb_mix (hb_mix d (Int32.toInt64 ((C i) 0))) (Int32.toInt64 ((C i) 1))) (Int32.toInt64 ((C i) 2))) (hb_zb ((C i) 3))) gX2_digestHill_X2_mixIf rfl kd_X2_mixIf ⟨Nat.le_of_ble_eq_true rfl, Nat.le_of_ble_eq_true rfl⟩ (Nat.le_of_ble_eq_true rfl) ⟨rfl, rfl⟩ ⟨Nat.le_of_ble_eq_true rfl, Nat.le_of_ble_eq_true rfl⟩ rfl (fun _ _ => ?_)
  refine jk_lstore_n (lv' := [(3, .long (hb_mix (hb_mix (hb_mix (hb_mix d (Int32.toInt64 ((C i) 0))) (Int32.toInt64 ((C i) 1))) (Int32.toInt64 ((C i) 2))) (hb_if (¬ (hb_zb ((C i) 3)) = 0)))), (0, .long d), (2, .ref (b1 (3 + i)))]) K dX2_digestHill_38 rfl (by decide) rfl ?_
  refine jk_lload_n K dX2_digestHill_39 rfl 0 rfl ?_
  refine jk_aload_n K dX2_digestHill_40 rfl 2 rfl ?_
  refine jk_get (C := RX0) (T := TX0) (N := 11) (nm := "post") (ds := "Z") (v := .int (hb_zb ((C i) 4))) K dX2_digestHill_41 hin_RX0 (by decide +kernel) ([hb_ob q b1 b2].length + (3 + i)) (hb_Lh hi) rfl 4 rfl (by decide) rfl ?_
  refine jk_cSl K (n' := 0) (k' := 0) [.long (hb_mix (hb_mix (hb_mix (hb_mix d (Int32.toInt64 ((C i) 0))) (Int32.toInt64 ((C i) 1))) (Int32.toInt64 ((C i) 2))) (hb_if (¬ (hb_zb ((C i) 3)) = 0))), .int (hb_zb ((C i) 4))] [] dX2_digestHill_44 (hb_X2_mixIf _ hl E (hb_L E [hb_ob q b1 b2] (hb_LW E b2 C2 G2 M2 ++ Y) b1 C G M) (hb_mix (hb_mix (hb_mix (hb_mix d (Int32.toInt64 ((C i) 0))) (Int32.toInt64 ((C i) 1))) (Int32.toInt64 ((C i) 2))) (hb_if (¬ (hb_zb ((C i) 3)) = 0))) (hb_zb ((C i) 4))) gX2_digestHill_X2_mixIf rfl kd_X2_mixIf ⟨Nat.le_of_ble_eq_true rfl, Nat.le_of_ble_eq_true rfl⟩ (Nat.le_of_ble_eq_true rfl) ⟨rfl, rfl⟩ ⟨Nat.le_of_ble_eq_true rfl, Nat.le_of_ble_eq_true rfl⟩ rfl (fun _ _ => ?_)
  refine jk_lstore_n (lv' := [(3, .long (hb_mix (hb_mix (hb_mix (hb_mix (hb_mix d (Int32.toInt64 ((C i) 0))) (Int32.toInt64 ((C i) 1))) (Int32.toInt64 ((C i) 2))) (hb_if (¬ (hb_zb ((C i) 3)) = 0))) (hb_if (¬ (hb_zb ((C i) 4)) = 0)))), (0, .long d), (2, .ref (b1 (3 + i)))]) K dX2_digestHill_47 rfl (by decide) rfl ?_
  refine jk_lload_n K dX2_digestHill_48 rfl 0 rfl ?_
  refine jk_aload_n K dX2_digestHill_49 rfl 2 rfl ?_
  refine jk_get (C := RX0) (T := TX0) (N := 11) (nm := "fire") (ds := "I") (v := .int ((C i) 5)) K dX2_digestHill_50 hin_RX0 (by decide +kernel) ([hb_ob q b1 b2].length + (3 + i)) (hb_Lh hi) rfl 5 rfl (by decide) rfl ?_
  refine jk_if_ne (tgt := 60) K dX2_digestHill_53 rfl (fun c_53 => ?_) (fun c_53 => ?_)
  · refine jk_iconst (x := 0) K dX2_digestHill_60 rfl ?_
    refine jk_cSl K (n' := 0) (k' := 0) [.long (hb_mix (hb_mix (hb_mix (hb_mix (hb_mix d (Int32.toInt64 ((C i) 0))) (Int32.toInt64 ((C i) 1))) (Int32.toInt64 ((C i) 2))) (hb_if (¬ (hb_zb ((C i) 3)) = 0))) (hb_if (¬ (hb_zb ((C i) 4)) = 0))), .int 0] [] dX2_digestHill_61 (hb_X2_mixIf _ hl E (hb_L E [hb_ob q b1 b2] (hb_LW E b2 C2 G2 M2 ++ Y) b1 C G M) (hb_mix (hb_mix (hb_mix (hb_mix (hb_mix d (Int32.toInt64 ((C i) 0))) (Int32.toInt64 ((C i) 1))) (Int32.toInt64 ((C i) 2))) (hb_if (¬ (hb_zb ((C i) 3)) = 0))) (hb_if (¬ (hb_zb ((C i) 4)) = 0))) 0) gX2_digestHill_X2_mixIf rfl kd_X2_mixIf ⟨Nat.le_of_ble_eq_true rfl, Nat.le_of_ble_eq_true rfl⟩ (Nat.le_of_ble_eq_true rfl) ⟨rfl, rfl⟩ ⟨Nat.le_of_ble_eq_true rfl, Nat.le_of_ble_eq_true rfl⟩ rfl (fun _ _ => ?_)
    refine jk_lstore_n (lv' := [(3, .long (hb_mix (hb_mix (hb_mix (hb_mix (hb_mix (hb_mix d (Int32.toInt64 ((C i) 0))) (Int32.toInt64 ((C i) 1))) (Int32.toInt64 ((C i) 2))) (hb_if (¬ (hb_zb ((C i) 3)) = 0))) (hb_if (¬ (hb_zb ((C i) 4)) = 0))) (hb_if (¬ 0 = 0)))), (0, .long d), (2, .ref (b1 (3 + i)))]) K dX2_digestHill_64 rfl (by decide) rfl ?_
    refine jk_lload_n K dX2_digestHill_65 rfl 0 rfl ?_
    refine jk_aload_n K dX2_digestHill_66 rfl 2 rfl ?_
    refine jk_get (C := RX0) (T := TX0) (N := 11) (nm := "fire") (ds := "I") (v := .int ((C i) 5)) K dX2_digestHill_67 hin_RX0 (by decide +kernel) ([hb_ob q b1 b2].length + (3 + i)) (hb_Lh hi) rfl 5 rfl (by decide) rfl ?_
    refine jk_iconst (x := 2) K dX2_digestHill_70 rfl ?_
    refine jk_icmp_ne (tgt := 78) K dX2_digestHill_71 rfl (fun c_71 => ?_) (fun c_71 => ?_)
    · refine jk_iconst (x := 0) K dX2_digestHill_78 rfl ?_
      refine jk_cSl K (n' := 0) (k' := 0) [.long (hb_mix (hb_mix (hb_mix (hb_mix (hb_mix (hb_mix d (Int32.toInt64 ((C i) 0))) (Int32.toInt64 ((C i) 1))) (Int32.toInt64 ((C i) 2))) (hb_if (¬ (hb_zb ((C i) 3)) = 0))) (hb_if (¬ (hb_zb ((C i) 4)) = 0))) (hb_if (¬ 0 = 0))), .int 0] [] dX2_digestHill_79 (hb_X2_mixIf _ hl E (hb_L E [hb_ob q b1 b2] (hb_LW E b2 C2 G2 M2 ++ Y) b1 C G M) (hb_mix (hb_mix (hb_mix (hb_mix (hb_mix (hb_mix d (Int32.toInt64 ((C i) 0))) (Int32.toInt64 ((C i) 1))) (Int32.toInt64 ((C i) 2))) (hb_if (¬ (hb_zb ((C i) 3)) = 0))) (hb_if (¬ (hb_zb ((C i) 4)) = 0))) (hb_if (¬ 0 = 0))) 0) gX2_digestHill_X2_mixIf rfl kd_X2_mixIf ⟨Nat.le_of_ble_eq_true rfl, Nat.le_of_ble_eq_true rfl⟩ (Nat.le_of_ble_eq_true rfl) ⟨rfl, rfl⟩ ⟨Nat.le_of_ble_eq_true rfl, Nat.le_of_ble_eq_true rfl⟩ rfl (fun _ _ => ?_)
      refine jk_lstore_n (lv' := [(3, .long (hb_mix (hb_mix (hb_mix (hb_mix (hb_mix (hb_mix (hb_mix d (Int32.toInt64 ((C i) 0))) (Int32.toInt64 ((C i) 1))) (Int32.toInt64 ((C i) 2))) (hb_if (¬ (hb_zb ((C i) 3)) = 0))) (hb_if (¬ (hb_zb ((C i) 4)) = 0))) (hb_if (¬ 0 = 0))) (hb_if (¬ 0 = 0)))), (0, .long d), (2, .ref (b1 (3 + i)))]) K dX2_digestHill_82 rfl (by decide) rfl ?_
      refine jk_lload_n K dX2_digestHill_83 rfl 0 rfl ?_
      refine jk_aload_n K dX2_digestHill_84 rfl 2 rfl ?_
      refine jk_get (C := RX0) (T := TX0) (N := 11) (nm := "left") (ds := "I") (v := .int ((C i) 7)) K dX2_digestHill_85 hin_RX0 (by decide +kernel) ([hb_ob q b1 b2].length + (3 + i)) (hb_Lh hi) rfl 7 rfl (by decide) rfl ?_
      refine jk_i2l K dX2_digestHill_88 ?_
      refine jk_cSl K (n' := 0) (k' := 0) [.long (hb_mix (hb_mix (hb_mix (hb_mix (hb_mix (hb_mix (hb_mix d (Int32.toInt64 ((C i) 0))) (Int32.toInt64 ((C i) 1))) (Int32.toInt64 ((C i) 2))) (hb_if (¬ (hb_zb ((C i) 3)) = 0))) (hb_if (¬ (hb_zb ((C i) 4)) = 0))) (hb_if (¬ 0 = 0))) (hb_if (¬ 0 = 0))), .long (Int32.toInt64 ((C i) 7))] [] dX2_digestHill_89 (hb_X2_mix _ hl E (hb_L E [hb_ob q b1 b2] (hb_LW E b2 C2 G2 M2 ++ Y) b1 C G M) (hb_mix (hb_mix (hb_mix (hb_mix (hb_mix (hb_mix (hb_mix d (Int32.toInt64 ((C i) 0))) (Int32.toInt64 ((C i) 1))) (Int32.toInt64 ((C i) 2))) (hb_if (¬ (hb_zb ((C i) 3)) = 0))) (hb_if (¬ (hb_zb ((C i) 4)) = 0))) (hb_if (¬ 0 = 0))) (hb_if (¬ 0 = 0))) (Int32.toInt64 ((C i) 7))) gX2_digestHill_X2_mix rfl kd_X2_mix ⟨Nat.le_of_ble_eq_true rfl, Nat.le_of_ble_eq_true rfl⟩ (Nat.le_of_ble_eq_true rfl) ⟨rfl, rfl⟩ ⟨Nat.le_of_ble_eq_true rfl, Nat.le_of_ble_eq_true rfl⟩ rfl (fun _ _ => ?_)
      refine jk_lstore_n (lv' := [(3, .long (hb_mix (hb_mix (hb_mix (hb_mix (hb_mix (hb_mix (hb_mix (hb_mix d (Int32.toInt64 ((C i) 0))) (Int32.toInt64 ((C i) 1))) (Int32.toInt64 ((C i) 2))) (hb_if (¬ (hb_zb ((C i) 3)) = 0))) (hb_if (¬ (hb_zb ((C i) 4)) = 0))) (hb_if (¬ 0 = 0))) (hb_if (¬ 0 = 0))) (Int32.toInt64 ((C i) 7)))), (0, .long d), (2, .ref (b1 (3 + i)))]) K dX2_digestHill_92 rfl (by decide) rfl ?_
      refine jk_lload_n K dX2_digestHill_93 rfl 0 rfl ?_
      refine jk_aload_n K dX2_digestHill_94 rfl 2 rfl ?_
      refine jk_get (C := RX0) (T := TX0) (N := 11) (nm := "looking") (ds := "I") (v := .int ((C i) 8)) K dX2_digestHill_95 hin_RX0 (by decide +kernel) ([hb_ob q b1 b2].length + (3 + i)) (hb_Lh hi) rfl 8 rfl (by decide) rfl ?_
      refine jk_i2l K dX2_digestHill_98 ?_
      refine jk_cSl K (n' := 0) (k' := 0) [.long (hb_mix (hb_mix (hb_mix (hb_mix (hb_mix (hb_mix (hb_mix (hb_mix d (Int32.toInt64 ((C i) 0))) (Int32.toInt64 ((C i) 1))) (Int32.toInt64 ((C i) 2))) (hb_if (¬ (hb_zb ((C i) 3)) = 0))) (hb_if (¬ (hb_zb ((C i) 4)) = 0))) (hb_if (¬ 0 = 0))) (hb_if (¬ 0 = 0))) (Int32.toInt64 ((C i) 7))), .long (Int32.toInt64 ((C i) 8))] [] dX2_digestHill_99 (hb_X2_mix _ hl E (hb_L E [hb_ob q b1 b2] (hb_LW E b2 C2 G2 M2 ++ Y) b1 C G M) (hb_mix (hb_mix (hb_mix (hb_mix (hb_mix (hb_mix (hb_mix (hb_mix d (Int32.toInt64 ((C i) 0))) (Int32.toInt64 ((C i) 1))) (Int32.toInt64 ((C i) 2))) (hb_if (¬ (hb_zb ((C i) 3)) = 0))) (hb_if (¬ (hb_zb ((C i) 4)) = 0))) (hb_if (¬ 0 = 0))) (hb_if (¬ 0 = 0))) (Int32.toInt64 ((C i) 7))) (Int32.toInt64 ((C i) 8))) gX2_digestHill_X2_mix rfl kd_X2_mix ⟨Nat.le_of_ble_eq_true rfl, Nat.le_of_ble_eq_true rfl⟩ (Nat.le_of_ble_eq_true rfl) ⟨rfl, rfl⟩ ⟨Nat.le_of_ble_eq_true rfl, Nat.le_of_ble_eq_true rfl⟩ rfl (fun _ _ => ?_)
      refine jk_lstore_n (lv' := [(3, .long (hb_mix (hb_mix (hb_mix (hb_mix (hb_mix (hb_mix (hb_mix (hb_mix (hb_mix d (Int32.toInt64 ((C i) 0))) (Int32.toInt64 ((C i) 1))) (Int32.toInt64 ((C i) 2))) (hb_if (¬ (hb_zb ((C i) 3)) = 0))) (hb_if (¬ (hb_zb ((C i) 4)) = 0))) (hb_if (¬ 0 = 0))) (hb_if (¬ 0 = 0))) (Int32.toInt64 ((C i) 7))) (Int32.toInt64 ((C i) 8)))), (0, .long d), (2, .ref (b1 (3 + i)))]) K dX2_digestHill_102 rfl (by decide) rfl ?_
      refine jk_lload_n K dX2_digestHill_103 rfl 0 rfl ?_
      refine jk_aload_n K dX2_digestHill_104 rfl 2 rfl ?_
      refine jk_get (C := RX0) (T := TX0) (N := 11) (nm := "source") (ds := "I") (v := .int ((C i) 9)) K dX2_digestHill_105 hin_RX0 (by decide +kernel) ([hb_ob q b1 b2].length + (3 + i)) (hb_Lh hi) rfl 9 rfl (by decide) rfl ?_
      refine jk_i2l K dX2_digestHill_108 ?_
      refine jk_cSl K (n' := 0) (k' := 0) [.long (hb_mix (hb_mix (hb_mix (hb_mix (hb_mix (hb_mix (hb_mix (hb_mix (hb_mix d (Int32.toInt64 ((C i) 0))) (Int32.toInt64 ((C i) 1))) (Int32.toInt64 ((C i) 2))) (hb_if (¬ (hb_zb ((C i) 3)) = 0))) (hb_if (¬ (hb_zb ((C i) 4)) = 0))) (hb_if (¬ 0 = 0))) (hb_if (¬ 0 = 0))) (Int32.toInt64 ((C i) 7))) (Int32.toInt64 ((C i) 8))), .long (Int32.toInt64 ((C i) 9))] [] dX2_digestHill_109 (hb_X2_mix _ hl E (hb_L E [hb_ob q b1 b2] (hb_LW E b2 C2 G2 M2 ++ Y) b1 C G M) (hb_mix (hb_mix (hb_mix (hb_mix (hb_mix (hb_mix (hb_mix (hb_mix (hb_mix d (Int32.toInt64 ((C i) 0))) (Int32.toInt64 ((C i) 1))) (Int32.toInt64 ((C i) 2))) (hb_if (¬ (hb_zb ((C i) 3)) = 0))) (hb_if (¬ (hb_zb ((C i) 4)) = 0))) (hb_if (¬ 0 = 0))) (hb_if (¬ 0 = 0))) (Int32.toInt64 ((C i) 7))) (Int32.toInt64 ((C i) 8))) (Int32.toInt64 ((C i) 9))) gX2_digestHill_X2_mix rfl kd_X2_mix ⟨Nat.le_of_ble_eq_true rfl, Nat.le_of_ble_eq_true rfl⟩ (Nat.le_of_ble_eq_true rfl) ⟨rfl, rfl⟩ ⟨Nat.le_of_ble_eq_true rfl, Nat.le_of_ble_eq_true rfl⟩ rfl (fun _ _ => ?_)
      refine jk_lstore_n (lv' := [(3, .long (hb_mix (hb_mix (hb_mix (hb_mix (hb_mix (hb_mix (hb_mix (hb_mix (hb_mix (hb_mix d (Int32.toInt64 ((C i) 0))) (Int32.toInt64 ((C i) 1))) (Int32.toInt64 ((C i) 2))) (hb_if (¬ (hb_zb ((C i) 3)) = 0))) (hb_if (¬ (hb_zb ((C i) 4)) = 0))) (hb_if (¬ 0 = 0))) (hb_if (¬ 0 = 0))) (Int32.toInt64 ((C i) 7))) (Int32.toInt64 ((C i) 8))) (Int32.toInt64 ((C i) 9)))), (0, .long d), (2, .ref (b1 (3 + i)))]) K dX2_digestHill_112 rfl (by decide) rfl ?_
      refine jk_lload_n K dX2_digestHill_113 rfl 0 rfl ?_
      refine jk_aload_n K dX2_digestHill_114 rfl 2 rfl ?_
      refine jk_get (C := RX0) (T := TX0) (N := 11) (nm := "answers") (ds := "I") (v := .int ((C i) 10)) K dX2_digestHill_115 hin_RX0 (by decide +kernel) ([hb_ob q b1 b2].length + (3 + i)) (hb_Lh hi) rfl 10 rfl (by decide) rfl ?_
      refine jk_i2l K dX2_digestHill_118 ?_
      refine jk_cSl K (n' := 0) (k' := 0) [.long (hb_mix (hb_mix (hb_mix (hb_mix (hb_mix (hb_mix (hb_mix (hb_mix (hb_mix (hb_mix d (Int32.toInt64 ((C i) 0))) (Int32.toInt64 ((C i) 1))) (Int32.toInt64 ((C i) 2))) (hb_if (¬ (hb_zb ((C i) 3)) = 0))) (hb_if (¬ (hb_zb ((C i) 4)) = 0))) (hb_if (¬ 0 = 0))) (hb_if (¬ 0 = 0))) (Int32.toInt64 ((C i) 7))) (Int32.toInt64 ((C i) 8))) (Int32.toInt64 ((C i) 9))), .long (Int32.toInt64 ((C i) 10))] [] dX2_digestHill_119 (hb_X2_mix _ hl E (hb_L E [hb_ob q b1 b2] (hb_LW E b2 C2 G2 M2 ++ Y) b1 C G M) (hb_mix (hb_mix (hb_mix (hb_mix (hb_mix (hb_mix (hb_mix (hb_mix (hb_mix (hb_mix d (Int32.toInt64 ((C i) 0))) (Int32.toInt64 ((C i) 1))) (Int32.toInt64 ((C i) 2))) (hb_if (¬ (hb_zb ((C i) 3)) = 0))) (hb_if (¬ (hb_zb ((C i) 4)) = 0))) (hb_if (¬ 0 = 0))) (hb_if (¬ 0 = 0))) (Int32.toInt64 ((C i) 7))) (Int32.toInt64 ((C i) 8))) (Int32.toInt64 ((C i) 9))) (Int32.toInt64 ((C i) 10))) gX2_digestHill_X2_mix rfl kd_X2_mix ⟨Nat.le_of_ble_eq_true rfl, Nat.le_of_ble_eq_true rfl⟩ (Nat.le_of_ble_eq_true rfl) ⟨rfl, rfl⟩ ⟨Nat.le_of_ble_eq_true rfl, Nat.le_of_ble_eq_true rfl⟩ rfl (fun _ _ => ?_)
      exact jk_lret K hz dX2_digestHill_122 () (by simp [hb_dh, hb_if, c_53, c_71]) trivial rfl (Nat.le_of_ble_eq_true rfl) (Nat.le_of_ble_eq_true rfl)
    · refine jk_iconst (x := 1) K dX2_digestHill_74 rfl ?_
      refine jk_goto (tgt := 79) K dX2_digestHill_75 rfl ?_
      refine jk_cSl K (n' := 0) (k' := 0) [.long (hb_mix (hb_mix (hb_mix (hb_mix (hb_mix (hb_mix d (Int32.toInt64 ((C i) 0))) (Int32.toInt64 ((C i) 1))) (Int32.toInt64 ((C i) 2))) (hb_if (¬ (hb_zb ((C i) 3)) = 0))) (hb_if (¬ (hb_zb ((C i) 4)) = 0))) (hb_if (¬ 0 = 0))), .int 1] [] dX2_digestHill_79 (hb_X2_mixIf _ hl E (hb_L E [hb_ob q b1 b2] (hb_LW E b2 C2 G2 M2 ++ Y) b1 C G M) (hb_mix (hb_mix (hb_mix (hb_mix (hb_mix (hb_mix d (Int32.toInt64 ((C i) 0))) (Int32.toInt64 ((C i) 1))) (Int32.toInt64 ((C i) 2))) (hb_if (¬ (hb_zb ((C i) 3)) = 0))) (hb_if (¬ (hb_zb ((C i) 4)) = 0))) (hb_if (¬ 0 = 0))) 1) gX2_digestHill_X2_mixIf rfl kd_X2_mixIf ⟨Nat.le_of_ble_eq_true rfl, Nat.le_of_ble_eq_true rfl⟩ (Nat.le_of_ble_eq_true rfl) ⟨rfl, rfl⟩ ⟨Nat.le_of_ble_eq_true rfl, Nat.le_of_ble_eq_true rfl⟩ rfl (fun _ _ => ?_)
      refine jk_lstore_n (lv' := [(3, .long (hb_mix (hb_mix (hb_mix (hb_mix (hb_mix (hb_mix (hb_mix d (Int32.toInt64 ((C i) 0))) (Int32.toInt64 ((C i) 1))) (Int32.toInt64 ((C i) 2))) (hb_if (¬ (hb_zb ((C i) 3)) = 0))) (hb_if (¬ (hb_zb ((C i) 4)) = 0))) (hb_if (¬ 0 = 0))) (hb_if (¬ 1 = 0)))), (0, .long d), (2, .ref (b1 (3 + i)))]) K dX2_digestHill_82 rfl (by decide) rfl ?_
      refine jk_lload_n K dX2_digestHill_83 rfl 0 rfl ?_
      refine jk_aload_n K dX2_digestHill_84 rfl 2 rfl ?_
      refine jk_get (C := RX0) (T := TX0) (N := 11) (nm := "left") (ds := "I") (v := .int ((C i) 7)) K dX2_digestHill_85 hin_RX0 (by decide +kernel) ([hb_ob q b1 b2].length + (3 + i)) (hb_Lh hi) rfl 7 rfl (by decide) rfl ?_
      refine jk_i2l K dX2_digestHill_88 ?_
      refine jk_cSl K (n' := 0) (k' := 0) [.long (hb_mix (hb_mix (hb_mix (hb_mix (hb_mix (hb_mix (hb_mix d (Int32.toInt64 ((C i) 0))) (Int32.toInt64 ((C i) 1))) (Int32.toInt64 ((C i) 2))) (hb_if (¬ (hb_zb ((C i) 3)) = 0))) (hb_if (¬ (hb_zb ((C i) 4)) = 0))) (hb_if (¬ 0 = 0))) (hb_if (¬ 1 = 0))), .long (Int32.toInt64 ((C i) 7))] [] dX2_digestHill_89 (hb_X2_mix _ hl E (hb_L E [hb_ob q b1 b2] (hb_LW E b2 C2 G2 M2 ++ Y) b1 C G M) (hb_mix (hb_mix (hb_mix (hb_mix (hb_mix (hb_mix (hb_mix d (Int32.toInt64 ((C i) 0))) (Int32.toInt64 ((C i) 1))) (Int32.toInt64 ((C i) 2))) (hb_if (¬ (hb_zb ((C i) 3)) = 0))) (hb_if (¬ (hb_zb ((C i) 4)) = 0))) (hb_if (¬ 0 = 0))) (hb_if (¬ 1 = 0))) (Int32.toInt64 ((C i) 7))) gX2_digestHill_X2_mix rfl kd_X2_mix ⟨Nat.le_of_ble_eq_true rfl, Nat.le_of_ble_eq_true rfl⟩ (Nat.le_of_ble_eq_true rfl) ⟨rfl, rfl⟩ ⟨Nat.le_of_ble_eq_true rfl, Nat.le_of_ble_eq_true rfl⟩ rfl (fun _ _ => ?_)
      refine jk_lstore_n (lv' := [(3, .long (hb_mix (hb_mix (hb_mix (hb_mix (hb_mix (hb_mix (hb_mix (hb_mix d (Int32.toInt64 ((C i) 0))) (Int32.toInt64 ((C i) 1))) (Int32.toInt64 ((C i) 2))) (hb_if (¬ (hb_zb ((C i) 3)) = 0))) (hb_if (¬ (hb_zb ((C i) 4)) = 0))) (hb_if (¬ 0 = 0))) (hb_if (¬ 1 = 0))) (Int32.toInt64 ((C i) 7)))), (0, .long d), (2, .ref (b1 (3 + i)))]) K dX2_digestHill_92 rfl (by decide) rfl ?_
      refine jk_lload_n K dX2_digestHill_93 rfl 0 rfl ?_
      refine jk_aload_n K dX2_digestHill_94 rfl 2 rfl ?_
      refine jk_get (C := RX0) (T := TX0) (N := 11) (nm := "looking") (ds := "I") (v := .int ((C i) 8)) K dX2_digestHill_95 hin_RX0 (by decide +kernel) ([hb_ob q b1 b2].length + (3 + i)) (hb_Lh hi) rfl 8 rfl (by decide) rfl ?_
      refine jk_i2l K dX2_digestHill_98 ?_
      refine jk_cSl K (n' := 0) (k' := 0) [.long (hb_mix (hb_mix (hb_mix (hb_mix (hb_mix (hb_mix (hb_mix (hb_mix d (Int32.toInt64 ((C i) 0))) (Int32.toInt64 ((C i) 1))) (Int32.toInt64 ((C i) 2))) (hb_if (¬ (hb_zb ((C i) 3)) = 0))) (hb_if (¬ (hb_zb ((C i) 4)) = 0))) (hb_if (¬ 0 = 0))) (hb_if (¬ 1 = 0))) (Int32.toInt64 ((C i) 7))), .long (Int32.toInt64 ((C i) 8))] [] dX2_digestHill_99 (hb_X2_mix _ hl E (hb_L E [hb_ob q b1 b2] (hb_LW E b2 C2 G2 M2 ++ Y) b1 C G M) (hb_mix (hb_mix (hb_mix (hb_mix (hb_mix (hb_mix (hb_mix (hb_mix d (Int32.toInt64 ((C i) 0))) (Int32.toInt64 ((C i) 1))) (Int32.toInt64 ((C i) 2))) (hb_if (¬ (hb_zb ((C i) 3)) = 0))) (hb_if (¬ (hb_zb ((C i) 4)) = 0))) (hb_if (¬ 0 = 0))) (hb_if (¬ 1 = 0))) (Int32.toInt64 ((C i) 7))) (Int32.toInt64 ((C i) 8))) gX2_digestHill_X2_mix rfl kd_X2_mix ⟨Nat.le_of_ble_eq_true rfl, Nat.le_of_ble_eq_true rfl⟩ (Nat.le_of_ble_eq_true rfl) ⟨rfl, rfl⟩ ⟨Nat.le_of_ble_eq_true rfl, Nat.le_of_ble_eq_true rfl⟩ rfl (fun _ _ => ?_)
      refine jk_lstore_n (lv' := [(3, .long (hb_mix (hb_mix (hb_mix (hb_mix (hb_mix (hb_mix (hb_mix (hb_mix (hb_mix d (Int32.toInt64 ((C i) 0))) (Int32.toInt64 ((C i) 1))) (Int32.toInt64 ((C i) 2))) (hb_if (¬ (hb_zb ((C i) 3)) = 0))) (hb_if (¬ (hb_zb ((C i) 4)) = 0))) (hb_if (¬ 0 = 0))) (hb_if (¬ 1 = 0))) (Int32.toInt64 ((C i) 7))) (Int32.toInt64 ((C i) 8)))), (0, .long d), (2, .ref (b1 (3 + i)))]) K dX2_digestHill_102 rfl (by decide) rfl ?_
      refine jk_lload_n K dX2_digestHill_103 rfl 0 rfl ?_
      refine jk_aload_n K dX2_digestHill_104 rfl 2 rfl ?_
      refine jk_get (C := RX0) (T := TX0) (N := 11) (nm := "source") (ds := "I") (v := .int ((C i) 9)) K dX2_digestHill_105 hin_RX0 (by decide +kernel) ([hb_ob q b1 b2].length + (3 + i)) (hb_Lh hi) rfl 9 rfl (by decide) rfl ?_
      refine jk_i2l K dX2_digestHill_108 ?_
      refine jk_cSl K (n' := 0) (k' := 0) [.long (hb_mix (hb_mix (hb_mix (hb_mix (hb_mix (hb_mix (hb_mix (hb_mix (hb_mix d (Int32.toInt64 ((C i) 0))) (Int32.toInt64 ((C i) 1))) (Int32.toInt64 ((C i) 2))) (hb_if (¬ (hb_zb ((C i) 3)) = 0))) (hb_if (¬ (hb_zb ((C i) 4)) = 0))) (hb_if (¬ 0 = 0))) (hb_if (¬ 1 = 0))) (Int32.toInt64 ((C i) 7))) (Int32.toInt64 ((C i) 8))), .long (Int32.toInt64 ((C i) 9))] [] dX2_digestHill_109 (hb_X2_mix _ hl E (hb_L E [hb_ob q b1 b2] (hb_LW E b2 C2 G2 M2 ++ Y) b1 C G M) (hb_mix (hb_mix (hb_mix (hb_mix (hb_mix (hb_mix (hb_mix (hb_mix (hb_mix d (Int32.toInt64 ((C i) 0))) (Int32.toInt64 ((C i) 1))) (Int32.toInt64 ((C i) 2))) (hb_if (¬ (hb_zb ((C i) 3)) = 0))) (hb_if (¬ (hb_zb ((C i) 4)) = 0))) (hb_if (¬ 0 = 0))) (hb_if (¬ 1 = 0))) (Int32.toInt64 ((C i) 7))) (Int32.toInt64 ((C i) 8))) (Int32.toInt64 ((C i) 9))) gX2_digestHill_X2_mix rfl kd_X2_mix ⟨Nat.le_of_ble_eq_true rfl, Nat.le_of_ble_eq_true rfl⟩ (Nat.le_of_ble_eq_true rfl) ⟨rfl, rfl⟩ ⟨Nat.le_of_ble_eq_true rfl, Nat.le_of_ble_eq_true rfl⟩ rfl (fun _ _ => ?_)
      refine jk_lstore_n (lv' := [(3, .long (hb_mix (hb_mix (hb_mix (hb_mix (hb_mix (hb_mix (hb_mix (hb_mix (hb_mix (hb_mix d (Int32.toInt64 ((C i) 0))) (Int32.toInt64 ((C i) 1))) (Int32.toInt64 ((C i) 2))) (hb_if (¬ (hb_zb ((C i) 3)) = 0))) (hb_if (¬ (hb_zb ((C i) 4)) = 0))) (hb_if (¬ 0 = 0))) (hb_if (¬ 1 = 0))) (Int32.toInt64 ((C i) 7))) (Int32.toInt64 ((C i) 8))) (Int32.toInt64 ((C i) 9)))), (0, .long d), (2, .ref (b1 (3 + i)))]) K dX2_digestHill_112 rfl (by decide) rfl ?_
      refine jk_lload_n K dX2_digestHill_113 rfl 0 rfl ?_
      refine jk_aload_n K dX2_digestHill_114 rfl 2 rfl ?_
      refine jk_get (C := RX0) (T := TX0) (N := 11) (nm := "answers") (ds := "I") (v := .int ((C i) 10)) K dX2_digestHill_115 hin_RX0 (by decide +kernel) ([hb_ob q b1 b2].length + (3 + i)) (hb_Lh hi) rfl 10 rfl (by decide) rfl ?_
      refine jk_i2l K dX2_digestHill_118 ?_
      refine jk_cSl K (n' := 0) (k' := 0) [.long (hb_mix (hb_mix (hb_mix (hb_mix (hb_mix (hb_mix (hb_mix (hb_mix (hb_mix (hb_mix d (Int32.toInt64 ((C i) 0))) (Int32.toInt64 ((C i) 1))) (Int32.toInt64 ((C i) 2))) (hb_if (¬ (hb_zb ((C i) 3)) = 0))) (hb_if (¬ (hb_zb ((C i) 4)) = 0))) (hb_if (¬ 0 = 0))) (hb_if (¬ 1 = 0))) (Int32.toInt64 ((C i) 7))) (Int32.toInt64 ((C i) 8))) (Int32.toInt64 ((C i) 9))), .long (Int32.toInt64 ((C i) 10))] [] dX2_digestHill_119 (hb_X2_mix _ hl E (hb_L E [hb_ob q b1 b2] (hb_LW E b2 C2 G2 M2 ++ Y) b1 C G M) (hb_mix (hb_mix (hb_mix (hb_mix (hb_mix (hb_mix (hb_mix (hb_mix (hb_mix (hb_mix d (Int32.toInt64 ((C i) 0))) (Int32.toInt64 ((C i) 1))) (Int32.toInt64 ((C i) 2))) (hb_if (¬ (hb_zb ((C i) 3)) = 0))) (hb_if (¬ (hb_zb ((C i) 4)) = 0))) (hb_if (¬ 0 = 0))) (hb_if (¬ 1 = 0))) (Int32.toInt64 ((C i) 7))) (Int32.toInt64 ((C i) 8))) (Int32.toInt64 ((C i) 9))) (Int32.toInt64 ((C i) 10))) gX2_digestHill_X2_mix rfl kd_X2_mix ⟨Nat.le_of_ble_eq_true rfl, Nat.le_of_ble_eq_true rfl⟩ (Nat.le_of_ble_eq_true rfl) ⟨rfl, rfl⟩ ⟨Nat.le_of_ble_eq_true rfl, Nat.le_of_ble_eq_true rfl⟩ rfl (fun _ _ => ?_)
      exact jk_lret K hz dX2_digestHill_122 () (by simp [hb_dh, hb_if, c_53, c_71]) trivial rfl (Nat.le_of_ble_eq_true rfl) (Nat.le_of_ble_eq_true rfl)
  · refine jk_iconst (x := 1) K dX2_digestHill_56 rfl ?_
    refine jk_goto (tgt := 61) K dX2_digestHill_57 rfl ?_
    refine jk_cSl K (n' := 0) (k' := 0) [.long (hb_mix (hb_mix (hb_mix (hb_mix (hb_mix d (Int32.toInt64 ((C i) 0))) (Int32.toInt64 ((C i) 1))) (Int32.toInt64 ((C i) 2))) (hb_if (¬ (hb_zb ((C i) 3)) = 0))) (hb_if (¬ (hb_zb ((C i) 4)) = 0))), .int 1] [] dX2_digestHill_61 (hb_X2_mixIf _ hl E (hb_L E [hb_ob q b1 b2] (hb_LW E b2 C2 G2 M2 ++ Y) b1 C G M) (hb_mix (hb_mix (hb_mix (hb_mix (hb_mix d (Int32.toInt64 ((C i) 0))) (Int32.toInt64 ((C i) 1))) (Int32.toInt64 ((C i) 2))) (hb_if (¬ (hb_zb ((C i) 3)) = 0))) (hb_if (¬ (hb_zb ((C i) 4)) = 0))) 1) gX2_digestHill_X2_mixIf rfl kd_X2_mixIf ⟨Nat.le_of_ble_eq_true rfl, Nat.le_of_ble_eq_true rfl⟩ (Nat.le_of_ble_eq_true rfl) ⟨rfl, rfl⟩ ⟨Nat.le_of_ble_eq_true rfl, Nat.le_of_ble_eq_true rfl⟩ rfl (fun _ _ => ?_)
    refine jk_lstore_n (lv' := [(3, .long (hb_mix (hb_mix (hb_mix (hb_mix (hb_mix (hb_mix d (Int32.toInt64 ((C i) 0))) (Int32.toInt64 ((C i) 1))) (Int32.toInt64 ((C i) 2))) (hb_if (¬ (hb_zb ((C i) 3)) = 0))) (hb_if (¬ (hb_zb ((C i) 4)) = 0))) (hb_if (¬ 1 = 0)))), (0, .long d), (2, .ref (b1 (3 + i)))]) K dX2_digestHill_64 rfl (by decide) rfl ?_
    refine jk_lload_n K dX2_digestHill_65 rfl 0 rfl ?_
    refine jk_aload_n K dX2_digestHill_66 rfl 2 rfl ?_
    refine jk_get (C := RX0) (T := TX0) (N := 11) (nm := "fire") (ds := "I") (v := .int ((C i) 5)) K dX2_digestHill_67 hin_RX0 (by decide +kernel) ([hb_ob q b1 b2].length + (3 + i)) (hb_Lh hi) rfl 5 rfl (by decide) rfl ?_
    refine jk_iconst (x := 2) K dX2_digestHill_70 rfl ?_
    refine jk_icmp_ne (tgt := 78) K dX2_digestHill_71 rfl (fun c_71 => ?_) (fun c_71 => ?_)
    · refine jk_iconst (x := 0) K dX2_digestHill_78 rfl ?_
      refine jk_cSl K (n' := 0) (k' := 0) [.long (hb_mix (hb_mix (hb_mix (hb_mix (hb_mix (hb_mix d (Int32.toInt64 ((C i) 0))) (Int32.toInt64 ((C i) 1))) (Int32.toInt64 ((C i) 2))) (hb_if (¬ (hb_zb ((C i) 3)) = 0))) (hb_if (¬ (hb_zb ((C i) 4)) = 0))) (hb_if (¬ 1 = 0))), .int 0] [] dX2_digestHill_79 (hb_X2_mixIf _ hl E (hb_L E [hb_ob q b1 b2] (hb_LW E b2 C2 G2 M2 ++ Y) b1 C G M) (hb_mix (hb_mix (hb_mix (hb_mix (hb_mix (hb_mix d (Int32.toInt64 ((C i) 0))) (Int32.toInt64 ((C i) 1))) (Int32.toInt64 ((C i) 2))) (hb_if (¬ (hb_zb ((C i) 3)) = 0))) (hb_if (¬ (hb_zb ((C i) 4)) = 0))) (hb_if (¬ 1 = 0))) 0) gX2_digestHill_X2_mixIf rfl kd_X2_mixIf ⟨Nat.le_of_ble_eq_true rfl, Nat.le_of_ble_eq_true rfl⟩ (Nat.le_of_ble_eq_true rfl) ⟨rfl, rfl⟩ ⟨Nat.le_of_ble_eq_true rfl, Nat.le_of_ble_eq_true rfl⟩ rfl (fun _ _ => ?_)
      refine jk_lstore_n (lv' := [(3, .long (hb_mix (hb_mix (hb_mix (hb_mix (hb_mix (hb_mix (hb_mix d (Int32.toInt64 ((C i) 0))) (Int32.toInt64 ((C i) 1))) (Int32.toInt64 ((C i) 2))) (hb_if (¬ (hb_zb ((C i) 3)) = 0))) (hb_if (¬ (hb_zb ((C i) 4)) = 0))) (hb_if (¬ 1 = 0))) (hb_if (¬ 0 = 0)))), (0, .long d), (2, .ref (b1 (3 + i)))]) K dX2_digestHill_82 rfl (by decide) rfl ?_
      refine jk_lload_n K dX2_digestHill_83 rfl 0 rfl ?_
      refine jk_aload_n K dX2_digestHill_84 rfl 2 rfl ?_
      refine jk_get (C := RX0) (T := TX0) (N := 11) (nm := "left") (ds := "I") (v := .int ((C i) 7)) K dX2_digestHill_85 hin_RX0 (by decide +kernel) ([hb_ob q b1 b2].length + (3 + i)) (hb_Lh hi) rfl 7 rfl (by decide) rfl ?_
      refine jk_i2l K dX2_digestHill_88 ?_
      refine jk_cSl K (n' := 0) (k' := 0) [.long (hb_mix (hb_mix (hb_mix (hb_mix (hb_mix (hb_mix (hb_mix d (Int32.toInt64 ((C i) 0))) (Int32.toInt64 ((C i) 1))) (Int32.toInt64 ((C i) 2))) (hb_if (¬ (hb_zb ((C i) 3)) = 0))) (hb_if (¬ (hb_zb ((C i) 4)) = 0))) (hb_if (¬ 1 = 0))) (hb_if (¬ 0 = 0))), .long (Int32.toInt64 ((C i) 7))] [] dX2_digestHill_89 (hb_X2_mix _ hl E (hb_L E [hb_ob q b1 b2] (hb_LW E b2 C2 G2 M2 ++ Y) b1 C G M) (hb_mix (hb_mix (hb_mix (hb_mix (hb_mix (hb_mix (hb_mix d (Int32.toInt64 ((C i) 0))) (Int32.toInt64 ((C i) 1))) (Int32.toInt64 ((C i) 2))) (hb_if (¬ (hb_zb ((C i) 3)) = 0))) (hb_if (¬ (hb_zb ((C i) 4)) = 0))) (hb_if (¬ 1 = 0))) (hb_if (¬ 0 = 0))) (Int32.toInt64 ((C i) 7))) gX2_digestHill_X2_mix rfl kd_X2_mix ⟨Nat.le_of_ble_eq_true rfl, Nat.le_of_ble_eq_true rfl⟩ (Nat.le_of_ble_eq_true rfl) ⟨rfl, rfl⟩ ⟨Nat.le_of_ble_eq_true rfl, Nat.le_of_ble_eq_true rfl⟩ rfl (fun _ _ => ?_)
      refine jk_lstore_n (lv' := [(3, .long (hb_mix (hb_mix (hb_mix (hb_mix (hb_mix (hb_mix (hb_mix (hb_mix d (Int32.toInt64 ((C i) 0))) (Int32.toInt64 ((C i) 1))) (Int32.toInt64 ((C i) 2))) (hb_if (¬ (hb_zb ((C i) 3)) = 0))) (hb_if (¬ (hb_zb ((C i) 4)) = 0))) (hb_if (¬ 1 = 0))) (hb_if (¬ 0 = 0))) (Int32.toInt64 ((C i) 7)))), (0, .long d), (2, .ref (b1 (3 + i)))]) K dX2_digestHill_92 rfl (by decide) rfl ?_
      refine jk_lload_n K dX2_digestHill_93 rfl 0 rfl ?_
      refine jk_aload_n K dX2_digestHill_94 rfl 2 rfl ?_
      refine jk_get (C := RX0) (T := TX0) (N := 11) (nm := "looking") (ds := "I") (v := .int ((C i) 8)) K dX2_digestHill_95 hin_RX0 (by decide +kernel) ([hb_ob q b1 b2].length + (3 + i)) (hb_Lh hi) rfl 8 rfl (by decide) rfl ?_
      refine jk_i2l K dX2_digestHill_98 ?_
      refine jk_cSl K (n' := 0) (k' := 0) [.long (hb_mix (hb_mix (hb_mix (hb_mix (hb_mix (hb_mix (hb_mix (hb_mix d (Int32.toInt64 ((C i) 0))) (Int32.toInt64 ((C i) 1))) (Int32.toInt64 ((C i) 2))) (hb_if (¬ (hb_zb ((C i) 3)) = 0))) (hb_if (¬ (hb_zb ((C i) 4)) = 0))) (hb_if (¬ 1 = 0))) (hb_if (¬ 0 = 0))) (Int32.toInt64 ((C i) 7))), .long (Int32.toInt64 ((C i) 8))] [] dX2_digestHill_99 (hb_X2_mix _ hl E (hb_L E [hb_ob q b1 b2] (hb_LW E b2 C2 G2 M2 ++ Y) b1 C G M) (hb_mix (hb_mix (hb_mix (hb_mix (hb_mix (hb_mix (hb_mix (hb_mix d (Int32.toInt64 ((C i) 0))) (Int32.toInt64 ((C i) 1))) (Int32.toInt64 ((C i) 2))) (hb_if (¬ (hb_zb ((C i) 3)) = 0))) (hb_if (¬ (hb_zb ((C i) 4)) = 0))) (hb_if (¬ 1 = 0))) (hb_if (¬ 0 = 0))) (Int32.toInt64 ((C i) 7))) (Int32.toInt64 ((C i) 8))) gX2_digestHill_X2_mix rfl kd_X2_mix ⟨Nat.le_of_ble_eq_true rfl, Nat.le_of_ble_eq_true rfl⟩ (Nat.le_of_ble_eq_true rfl) ⟨rfl, rfl⟩ ⟨Nat.le_of_ble_eq_true rfl, Nat.le_of_ble_eq_true rfl⟩ rfl (fun _ _ => ?_)
      refine jk_lstore_n (lv' := [(3, .long (hb_mix (hb_mix (hb_mix (hb_mix (hb_mix (hb_mix (hb_mix (hb_mix (hb_mix d (Int32.toInt64 ((C i) 0))) (Int32.toInt64 ((C i) 1))) (Int32.toInt64 ((C i) 2))) (hb_if (¬ (hb_zb ((C i) 3)) = 0))) (hb_if (¬ (hb_zb ((C i) 4)) = 0))) (hb_if (¬ 1 = 0))) (hb_if (¬ 0 = 0))) (Int32.toInt64 ((C i) 7))) (Int32.toInt64 ((C i) 8)))), (0, .long d), (2, .ref (b1 (3 + i)))]) K dX2_digestHill_102 rfl (by decide) rfl ?_
      refine jk_lload_n K dX2_digestHill_103 rfl 0 rfl ?_
      refine jk_aload_n K dX2_digestHill_104 rfl 2 rfl ?_
      refine jk_get (C := RX0) (T := TX0) (N := 11) (nm := "source") (ds := "I") (v := .int ((C i) 9)) K dX2_digestHill_105 hin_RX0 (by decide +kernel) ([hb_ob q b1 b2].length + (3 + i)) (hb_Lh hi) rfl 9 rfl (by decide) rfl ?_
      refine jk_i2l K dX2_digestHill_108 ?_
      refine jk_cSl K (n' := 0) (k' := 0) [.long (hb_mix (hb_mix (hb_mix (hb_mix (hb_mix (hb_mix (hb_mix (hb_mix (hb_mix d (Int32.toInt64 ((C i) 0))) (Int32.toInt64 ((C i) 1))) (Int32.toInt64 ((C i) 2))) (hb_if (¬ (hb_zb ((C i) 3)) = 0))) (hb_if (¬ (hb_zb ((C i) 4)) = 0))) (hb_if (¬ 1 = 0))) (hb_if (¬ 0 = 0))) (Int32.toInt64 ((C i) 7))) (Int32.toInt64 ((C i) 8))), .long (Int32.toInt64 ((C i) 9))] [] dX2_digestHill_109 (hb_X2_mix _ hl E (hb_L E [hb_ob q b1 b2] (hb_LW E b2 C2 G2 M2 ++ Y) b1 C G M) (hb_mix (hb_mix (hb_mix (hb_mix (hb_mix (hb_mix (hb_mix (hb_mix (hb_mix d (Int32.toInt64 ((C i) 0))) (Int32.toInt64 ((C i) 1))) (Int32.toInt64 ((C i) 2))) (hb_if (¬ (hb_zb ((C i) 3)) = 0))) (hb_if (¬ (hb_zb ((C i) 4)) = 0))) (hb_if (¬ 1 = 0))) (hb_if (¬ 0 = 0))) (Int32.toInt64 ((C i) 7))) (Int32.toInt64 ((C i) 8))) (Int32.toInt64 ((C i) 9))) gX2_digestHill_X2_mix rfl kd_X2_mix ⟨Nat.le_of_ble_eq_true rfl, Nat.le_of_ble_eq_true rfl⟩ (Nat.le_of_ble_eq_true rfl) ⟨rfl, rfl⟩ ⟨Nat.le_of_ble_eq_true rfl, Nat.le_of_ble_eq_true rfl⟩ rfl (fun _ _ => ?_)
      refine jk_lstore_n (lv' := [(3, .long (hb_mix (hb_mix (hb_mix (hb_mix (hb_mix (hb_mix (hb_mix (hb_mix (hb_mix (hb_mix d (Int32.toInt64 ((C i) 0))) (Int32.toInt64 ((C i) 1))) (Int32.toInt64 ((C i) 2))) (hb_if (¬ (hb_zb ((C i) 3)) = 0))) (hb_if (¬ (hb_zb ((C i) 4)) = 0))) (hb_if (¬ 1 = 0))) (hb_if (¬ 0 = 0))) (Int32.toInt64 ((C i) 7))) (Int32.toInt64 ((C i) 8))) (Int32.toInt64 ((C i) 9)))), (0, .long d), (2, .ref (b1 (3 + i)))]) K dX2_digestHill_112 rfl (by decide) rfl ?_
      refine jk_lload_n K dX2_digestHill_113 rfl 0 rfl ?_
      refine jk_aload_n K dX2_digestHill_114 rfl 2 rfl ?_
      refine jk_get (C := RX0) (T := TX0) (N := 11) (nm := "answers") (ds := "I") (v := .int ((C i) 10)) K dX2_digestHill_115 hin_RX0 (by decide +kernel) ([hb_ob q b1 b2].length + (3 + i)) (hb_Lh hi) rfl 10 rfl (by decide) rfl ?_
      refine jk_i2l K dX2_digestHill_118 ?_
      refine jk_cSl K (n' := 0) (k' := 0) [.long (hb_mix (hb_mix (hb_mix (hb_mix (hb_mix (hb_mix (hb_mix (hb_mix (hb_mix (hb_mix d (Int32.toInt64 ((C i) 0))) (Int32.toInt64 ((C i) 1))) (Int32.toInt64 ((C i) 2))) (hb_if (¬ (hb_zb ((C i) 3)) = 0))) (hb_if (¬ (hb_zb ((C i) 4)) = 0))) (hb_if (¬ 1 = 0))) (hb_if (¬ 0 = 0))) (Int32.toInt64 ((C i) 7))) (Int32.toInt64 ((C i) 8))) (Int32.toInt64 ((C i) 9))), .long (Int32.toInt64 ((C i) 10))] [] dX2_digestHill_119 (hb_X2_mix _ hl E (hb_L E [hb_ob q b1 b2] (hb_LW E b2 C2 G2 M2 ++ Y) b1 C G M) (hb_mix (hb_mix (hb_mix (hb_mix (hb_mix (hb_mix (hb_mix (hb_mix (hb_mix (hb_mix d (Int32.toInt64 ((C i) 0))) (Int32.toInt64 ((C i) 1))) (Int32.toInt64 ((C i) 2))) (hb_if (¬ (hb_zb ((C i) 3)) = 0))) (hb_if (¬ (hb_zb ((C i) 4)) = 0))) (hb_if (¬ 1 = 0))) (hb_if (¬ 0 = 0))) (Int32.toInt64 ((C i) 7))) (Int32.toInt64 ((C i) 8))) (Int32.toInt64 ((C i) 9))) (Int32.toInt64 ((C i) 10))) gX2_digestHill_X2_mix rfl kd_X2_mix ⟨Nat.le_of_ble_eq_true rfl, Nat.le_of_ble_eq_true rfl⟩ (Nat.le_of_ble_eq_true rfl) ⟨rfl, rfl⟩ ⟨Nat.le_of_ble_eq_true rfl, Nat.le_of_ble_eq_true rfl⟩ rfl (fun _ _ => ?_)
      exact jk_lret K hz dX2_digestHill_122 () (by simp [hb_dh, hb_if, c_53, c_71]) trivial rfl (Nat.le_of_ble_eq_true rfl) (Nat.le_of_ble_eq_true rfl)
    · refine jk_iconst (x := 1) K dX2_digestHill_74 rfl ?_
      refine jk_goto (tgt := 79) K dX2_digestHill_75 rfl ?_
      refine jk_cSl K (n' := 0) (k' := 0) [.long (hb_mix (hb_mix (hb_mix (hb_mix (hb_mix (hb_mix d (Int32.toInt64 ((C i) 0))) (Int32.toInt64 ((C i) 1))) (Int32.toInt64 ((C i) 2))) (hb_if (¬ (hb_zb ((C i) 3)) = 0))) (hb_if (¬ (hb_zb ((C i) 4)) = 0))) (hb_if (¬ 1 = 0))), .int 1] [] dX2_digestHill_79 (hb_X2_mixIf _ hl E (hb_L E [hb_ob q b1 b2] (hb_LW E b2 C2 G2 M2 ++ Y) b1 C G M) (hb_mix (hb_mix (hb_mix (hb_mix (hb_mix (hb_mix d (Int32.toInt64 ((C i) 0))) (Int32.toInt64 ((C i) 1))) (Int32.toInt64 ((C i) 2))) (hb_if (¬ (hb_zb ((C i) 3)) = 0))) (hb_if (¬ (hb_zb ((C i) 4)) = 0))) (hb_if (¬ 1 = 0))) 1) gX2_digestHill_X2_mixIf rfl kd_X2_mixIf ⟨Nat.le_of_ble_eq_true rfl, Nat.le_of_ble_eq_true rfl⟩ (Nat.le_of_ble_eq_true rfl) ⟨rfl, rfl⟩ ⟨Nat.le_of_ble_eq_true rfl, Nat.le_of_ble_eq_true rfl⟩ rfl (fun _ _ => ?_)
      refine jk_lstore_n (lv' := [(3, .long (hb_mix (hb_mix (hb_mix (hb_mix (hb_mix (hb_mix (hb_mix d (Int32.toInt64 ((C i) 0))) (Int32.toInt64 ((C i) 1))) (Int32.toInt64 ((C i) 2))) (hb_if (¬ (hb_zb ((C i) 3)) = 0))) (hb_if (¬ (hb_zb ((C i) 4)) = 0))) (hb_if (¬ 1 = 0))) (hb_if (¬ 1 = 0)))), (0, .long d), (2, .ref (b1 (3 + i)))]) K dX2_digestHill_82 rfl (by decide) rfl ?_
      refine jk_lload_n K dX2_digestHill_83 rfl 0 rfl ?_
      refine jk_aload_n K dX2_digestHill_84 rfl 2 rfl ?_
      refine jk_get (C := RX0) (T := TX0) (N := 11) (nm := "left") (ds := "I") (v := .int ((C i) 7)) K dX2_digestHill_85 hin_RX0 (by decide +kernel) ([hb_ob q b1 b2].length + (3 + i)) (hb_Lh hi) rfl 7 rfl (by decide) rfl ?_
      refine jk_i2l K dX2_digestHill_88 ?_
      refine jk_cSl K (n' := 0) (k' := 0) [.long (hb_mix (hb_mix (hb_mix (hb_mix (hb_mix (hb_mix (hb_mix d (Int32.toInt64 ((C i) 0))) (Int32.toInt64 ((C i) 1))) (Int32.toInt64 ((C i) 2))) (hb_if (¬ (hb_zb ((C i) 3)) = 0))) (hb_if (¬ (hb_zb ((C i) 4)) = 0))) (hb_if (¬ 1 = 0))) (hb_if (¬ 1 = 0))), .long (Int32.toInt64 ((C i) 7))] [] dX2_digestHill_89 (hb_X2_mix _ hl E (hb_L E [hb_ob q b1 b2] (hb_LW E b2 C2 G2 M2 ++ Y) b1 C G M) (hb_mix (hb_mix (hb_mix (hb_mix (hb_mix (hb_mix (hb_mix d (Int32.toInt64 ((C i) 0))) (Int32.toInt64 ((C i) 1))) (Int32.toInt64 ((C i) 2))) (hb_if (¬ (hb_zb ((C i) 3)) = 0))) (hb_if (¬ (hb_zb ((C i) 4)) = 0))) (hb_if (¬ 1 = 0))) (hb_if (¬ 1 = 0))) (Int32.toInt64 ((C i) 7))) gX2_digestHill_X2_mix rfl kd_X2_mix ⟨Nat.le_of_ble_eq_true rfl, Nat.le_of_ble_eq_true rfl⟩ (Nat.le_of_ble_eq_true rfl) ⟨rfl, rfl⟩ ⟨Nat.le_of_ble_eq_true rfl, Nat.le_of_ble_eq_true rfl⟩ rfl (fun _ _ => ?_)
      refine jk_lstore_n (lv' := [(3, .long (hb_mix (hb_mix (hb_mix (hb_mix (hb_mix (hb_mix (hb_mix (hb_mix d (Int32.toInt64 ((C i) 0))) (Int32.toInt64 ((C i) 1))) (Int32.toInt64 ((C i) 2))) (hb_if (¬ (hb_zb ((C i) 3)) = 0))) (hb_if (¬ (hb_zb ((C i) 4)) = 0))) (hb_if (¬ 1 = 0))) (hb_if (¬ 1 = 0))) (Int32.toInt64 ((C i) 7)))), (0, .long d), (2, .ref (b1 (3 + i)))]) K dX2_digestHill_92 rfl (by decide) rfl ?_
      refine jk_lload_n K dX2_digestHill_93 rfl 0 rfl ?_
      refine jk_aload_n K dX2_digestHill_94 rfl 2 rfl ?_
      refine jk_get (C := RX0) (T := TX0) (N := 11) (nm := "looking") (ds := "I") (v := .int ((C i) 8)) K dX2_digestHill_95 hin_RX0 (by decide +kernel) ([hb_ob q b1 b2].length + (3 + i)) (hb_Lh hi) rfl 8 rfl (by decide) rfl ?_
      refine jk_i2l K dX2_digestHill_98 ?_
      refine jk_cSl K (n' := 0) (k' := 0) [.long (hb_mix (hb_mix (hb_mix (hb_mix (hb_mix (hb_mix (hb_mix (hb_mix d (Int32.toInt64 ((C i) 0))) (Int32.toInt64 ((C i) 1))) (Int32.toInt64 ((C i) 2))) (hb_if (¬ (hb_zb ((C i) 3)) = 0))) (hb_if (¬ (hb_zb ((C i) 4)) = 0))) (hb_if (¬ 1 = 0))) (hb_if (¬ 1 = 0))) (Int32.toInt64 ((C i) 7))), .long (Int32.toInt64 ((C i) 8))] [] dX2_digestHill_99 (hb_X2_mix _ hl E (hb_L E [hb_ob q b1 b2] (hb_LW E b2 C2 G2 M2 ++ Y) b1 C G M) (hb_mix (hb_mix (hb_mix (hb_mix (hb_mix (hb_mix (hb_mix (hb_mix d (Int32.toInt64 ((C i) 0))) (Int32.toInt64 ((C i) 1))) (Int32.toInt64 ((C i) 2))) (hb_if (¬ (hb_zb ((C i) 3)) = 0))) (hb_if (¬ (hb_zb ((C i) 4)) = 0))) (hb_if (¬ 1 = 0))) (hb_if (¬ 1 = 0))) (Int32.toInt64 ((C i) 7))) (Int32.toInt64 ((C i) 8))) gX2_digestHill_X2_mix rfl kd_X2_mix ⟨Nat.le_of_ble_eq_true rfl, Nat.le_of_ble_eq_true rfl⟩ (Nat.le_of_ble_eq_true rfl) ⟨rfl, rfl⟩ ⟨Nat.le_of_ble_eq_true rfl, Nat.le_of_ble_eq_true rfl⟩ rfl (fun _ _ => ?_)
      refine jk_lstore_n (lv' := [(3, .long (hb_mix (hb_mix (hb_mix (hb_mix (hb_mix (hb_mix (hb_mix (hb_mix (hb_mix d (Int32.toInt64 ((C i) 0))) (Int32.toInt64 ((C i) 1))) (Int32.toInt64 ((C i) 2))) (hb_if (¬ (hb_zb ((C i) 3)) = 0))) (hb_if (¬ (hb_zb ((C i) 4)) = 0))) (hb_if (¬ 1 = 0))) (hb_if (¬ 1 = 0))) (Int32.toInt64 ((C i) 7))) (Int32.toInt64 ((C i) 8)))), (0, .long d), (2, .ref (b1 (3 + i)))]) K dX2_digestHill_102 rfl (by decide) rfl ?_
      refine jk_lload_n K dX2_digestHill_103 rfl 0 rfl ?_
      refine jk_aload_n K dX2_digestHill_104 rfl 2 rfl ?_
      refine jk_get (C := RX0) (T := TX0) (N := 11) (nm := "source") (ds := "I") (v := .int ((C i) 9)) K dX2_digestHill_105 hin_RX0 (by decide +kernel) ([hb_ob q b1 b2].length + (3 + i)) (hb_Lh hi) rfl 9 rfl (by decide) rfl ?_
      refine jk_i2l K dX2_digestHill_108 ?_
      refine jk_cSl K (n' := 0) (k' := 0) [.long (hb_mix (hb_mix (hb_mix (hb_mix (hb_mix (hb_mix (hb_mix (hb_mix (hb_mix d (Int32.toInt64 ((C i) 0))) (Int32.toInt64 ((C i) 1))) (Int32.toInt64 ((C i) 2))) (hb_if (¬ (hb_zb ((C i) 3)) = 0))) (hb_if (¬ (hb_zb ((C i) 4)) = 0))) (hb_if (¬ 1 = 0))) (hb_if (¬ 1 = 0))) (Int32.toInt64 ((C i) 7))) (Int32.toInt64 ((C i) 8))), .long (Int32.toInt64 ((C i) 9))] [] dX2_digestHill_109 (hb_X2_mix _ hl E (hb_L E [hb_ob q b1 b2] (hb_LW E b2 C2 G2 M2 ++ Y) b1 C G M) (hb_mix (hb_mix (hb_mix (hb_mix (hb_mix (hb_mix (hb_mix (hb_mix (hb_mix d (Int32.toInt64 ((C i) 0))) (Int32.toInt64 ((C i) 1))) (Int32.toInt64 ((C i) 2))) (hb_if (¬ (hb_zb ((C i) 3)) = 0))) (hb_if (¬ (hb_zb ((C i) 4)) = 0))) (hb_if (¬ 1 = 0))) (hb_if (¬ 1 = 0))) (Int32.toInt64 ((C i) 7))) (Int32.toInt64 ((C i) 8))) (Int32.toInt64 ((C i) 9))) gX2_digestHill_X2_mix rfl kd_X2_mix ⟨Nat.le_of_ble_eq_true rfl, Nat.le_of_ble_eq_true rfl⟩ (Nat.le_of_ble_eq_true rfl) ⟨rfl, rfl⟩ ⟨Nat.le_of_ble_eq_true rfl, Nat.le_of_ble_eq_true rfl⟩ rfl (fun _ _ => ?_)
      refine jk_lstore_n (lv' := [(3, .long (hb_mix (hb_mix (hb_mix (hb_mix (hb_mix (hb_mix (hb_mix (hb_mix (hb_mix (hb_mix d (Int32.toInt64 ((C i) 0))) (Int32.toInt64 ((C i) 1))) (Int32.toInt64 ((C i) 2))) (hb_if (¬ (hb_zb ((C i) 3)) = 0))) (hb_if (¬ (hb_zb ((C i) 4)) = 0))) (hb_if (¬ 1 = 0))) (hb_if (¬ 1 = 0))) (Int32.toInt64 ((C i) 7))) (Int32.toInt64 ((C i) 8))) (Int32.toInt64 ((C i) 9)))), (0, .long d), (2, .ref (b1 (3 + i)))]) K dX2_digestHill_112 rfl (by decide) rfl ?_
      refine jk_lload_n K dX2_digestHill_113 rfl 0 rfl ?_
      refine jk_aload_n K dX2_digestHill_114 rfl 2 rfl ?_
      refine jk_get (C := RX0) (T := TX0) (N := 11) (nm := "answers") (ds := "I") (v := .int ((C i) 10)) K dX2_digestHill_115 hin_RX0 (by decide +kernel) ([hb_ob q b1 b2].length + (3 + i)) (hb_Lh hi) rfl 10 rfl (by decide) rfl ?_
      refine jk_i2l K dX2_digestHill_118 ?_
      refine jk_cSl K (n' := 0) (k' := 0) [.long (hb_mix (hb_mix (hb_mix (hb_mix (hb_mix (hb_mix (hb_mix (hb_mix (hb_mix (hb_mix d (Int32.toInt64 ((C i) 0))) (Int32.toInt64 ((C i) 1))) (Int32.toInt64 ((C i) 2))) (hb_if (¬ (hb_zb ((C i) 3)) = 0))) (hb_if (¬ (hb_zb ((C i) 4)) = 0))) (hb_if (¬ 1 = 0))) (hb_if (¬ 1 = 0))) (Int32.toInt64 ((C i) 7))) (Int32.toInt64 ((C i) 8))) (Int32.toInt64 ((C i) 9))), .long (Int32.toInt64 ((C i) 10))] [] dX2_digestHill_119 (hb_X2_mix _ hl E (hb_L E [hb_ob q b1 b2] (hb_LW E b2 C2 G2 M2 ++ Y) b1 C G M) (hb_mix (hb_mix (hb_mix (hb_mix (hb_mix (hb_mix (hb_mix (hb_mix (hb_mix (hb_mix d (Int32.toInt64 ((C i) 0))) (Int32.toInt64 ((C i) 1))) (Int32.toInt64 ((C i) 2))) (hb_if (¬ (hb_zb ((C i) 3)) = 0))) (hb_if (¬ (hb_zb ((C i) 4)) = 0))) (hb_if (¬ 1 = 0))) (hb_if (¬ 1 = 0))) (Int32.toInt64 ((C i) 7))) (Int32.toInt64 ((C i) 8))) (Int32.toInt64 ((C i) 9))) (Int32.toInt64 ((C i) 10))) gX2_digestHill_X2_mix rfl kd_X2_mix ⟨Nat.le_of_ble_eq_true rfl, Nat.le_of_ble_eq_true rfl⟩ (Nat.le_of_ble_eq_true rfl) ⟨rfl, rfl⟩ ⟨Nat.le_of_ble_eq_true rfl, Nat.le_of_ble_eq_true rfl⟩ rfl (fun _ _ => ?_)
      exact jk_lret K hz dX2_digestHill_122 () (absurd (c_53.symm.trans c_71) (by decide)) trivial rfl (Nat.le_of_ble_eq_true rfl) (Nat.le_of_ble_eq_true rfl)
set_option maxHeartbeats 4000000 in
set_option maxRecDepth 100000 in
theorem hb_X2_digestHills (l : Launch) (hl : l.stackTraces = false) (E : jk_T) (q : Nat) (b1 b2 : Nat → Nat) (Y : va_W) (C : Nat → Nat → Int32) (G M : Nat → Int32) (C2 : Nat → Nat → Int32) (G2 M2 : Nat → Int32) (n : Nat) (hn : n ≤ 10) (hg : G 0 = nI n) (d : Int64) : jk_fn l yX2_digestHills wsX2_digestHills ({ frames := 3, cells := 0, slots := 0, locals := 69 } : Room) [.ref q, .long d] E (hb_v1 E q b1 b2 Y C G M C2 G2 M2) (some (.long (hb_dhs C d n))) (hb_v1 E q b1 b2 Y C G M C2 G2 M2) := by
  refine jk_of (lv := [(0, .ref q), (1, .long d)]) (own := RX2) (nm := "digestHills") hl (by decide +kernel) rfl (Nat.le_of_ble_eq_true rfl) rfl rfl rfl (fun Γ hΓ K hnm hz => ?_)
  subst hΓ
  have hin_RX1 : ∀ w ∈ u_ws RX1 TX1 9, w ∈ wsX2_digestHills := by decide +kernel
  have hin_RX2 : ∀ w ∈ u_ws RX2 TX2 2, w ∈ wsX2_digestHills := by decide +kernel
  have hL : ∀ j, j ≤ n → jk_J Γ E (hb_L E [hb_ob q b1 b2] (hb_LW E b2 C2 G2 M2 ++ Y) b1 C G M) 0 0 5 [(5, .int (nI j)), (3, .long (hb_dhs C d j)), (0, .ref q)] [] := by
    refine jk_loop (fun j hj ih => ?_)
    refine jk_iload K dX2_digestHills_5 0 rfl ?_
    refine jk_aload_n K dX2_digestHills_7 rfl 2 rfl ?_
    refine jk_get (C := RX2) (T := TX2) (N := 2) (nm := "land") (ds := "LHillBeacons$Land;") (v := .ref (b1 0)) K dX2_digestHills_8 hin_RX2 (by decide +kernel) 0 rfl rfl 0 rfl (by decide) rfl ?_
    refine jk_get (C := RX1) (T := TX1) (N := 9) (nm := "count") (ds := "I") (v := .int (G 0)) K dX2_digestHills_11 hin_RX1 (by decide +kernel) ([hb_ob q b1 b2].length + 0) hb_L0 rfl 3 rfl (by decide) rfl ?_
    refine jk_icmp_ge (tgt := 37) K dX2_digestHills_14 rfl (fun c_14 => ?_) (fun c_14 => ?_)
    · have hjn : j = n := hb_ex hg (by omega) hj c_14
      refine jk_lload_n K dX2_digestHills_37 rfl 1 rfl ?_
      exact jk_lret K hz dX2_digestHills_38 () (by rw [hjn]) trivial rfl (Nat.le_of_ble_eq_true rfl) (Nat.le_of_ble_eq_true rfl)
    · have hlt : j < n := hb_in hg (by omega) hj c_14
      refine jk_lload_n K dX2_digestHills_17 rfl 1 rfl ?_
      refine jk_aload_n K dX2_digestHills_18 rfl 2 rfl ?_
      refine jk_get (C := RX2) (T := TX2) (N := 2) (nm := "land") (ds := "LHillBeacons$Land;") (v := .ref (b1 0)) K dX2_digestHills_19 hin_RX2 (by decide +kernel) 0 rfl rfl 0 rfl (by decide) rfl ?_
      refine jk_iload K dX2_digestHills_22 0 rfl ?_
      refine jk_cVr K (n' := 0) (k' := 0) [.int (nI j)] [.long (hb_dhs C d j)] dX2_digestHills_24 (hb_X1_hillAt_i _ hl E [hb_ob q b1 b2] (hb_LW E b2 C2 G2 M2 ++ Y) b1 C G M j (Nat.lt_of_lt_of_le hlt hn)) gX2_digestHills_X1_hillAt rfl kd_X1_hillAt ⟨Nat.le_of_ble_eq_true rfl, Nat.le_of_ble_eq_true rfl⟩ ([hb_ob q b1 b2].length + 0) hb_L0 rfl (Nat.le_of_ble_eq_true rfl) ⟨rfl, rfl⟩ ⟨Nat.le_of_ble_eq_true rfl, Nat.le_of_ble_eq_true rfl⟩ rfl (fun _ _ => ?_)
      refine jk_cSl K (n' := 0) (k' := 0) [.long (hb_dhs C d j), .ref (b1 (3 + j))] [] dX2_digestHills_27 (hb_X2_digestHill _ hl E q b1 b2 Y C G M C2 G2 M2 j (Nat.le_of_lt (Nat.lt_of_lt_of_le hlt hn)) (hb_dhs C d j)) gX2_digestHills_X2_digestHill rfl kd_X2_digestHill ⟨Nat.le_of_ble_eq_true rfl, Nat.le_of_ble_eq_true rfl⟩ (Nat.le_of_ble_eq_true rfl) ⟨rfl, rfl⟩ ⟨Nat.le_of_ble_eq_true rfl, Nat.le_of_ble_eq_true rfl⟩ rfl (fun _ _ => ?_)
      refine jk_lstore_n (lv' := [(3, .long (hb_dh (C j) (hb_dhs C d j))), (5, .int (nI j)), (0, .ref q)]) K dX2_digestHills_30 rfl (by decide) rfl ?_
      refine jk_iinc (v := (nI (j + 1))) (lv' := [(5, .int (nI (j + 1))), (3, .long (hb_dh (C j) (hb_dhs C d j))), (0, .ref q)]) K dX2_digestHills_31 1 rfl (nI_1 j) (by decide) rfl ?_
      refine jk_goto (tgt := 5) K dX2_digestHills_34 rfl ?_
      refine jk_lv (lv' := [(5, .int (nI (j + 1))), (3, .long (hb_dhs C d (j + 1))), (0, .ref q)]) (by first | rfl | (simp [hb_dhs_s, c_14]; done)) ?_
      exact ih hlt
  refine jk_lload_n K dX2_digestHills_0 rfl 1 rfl ?_
  refine jk_lstore_n (lv' := [(3, .long d), (0, .ref q), (1, .long d)]) K dX2_digestHills_1 rfl (by decide) rfl ?_
  refine jk_iconst (x := 0) K dX2_digestHills_2 rfl ?_
  refine jk_istore (lv' := [(5, .int 0), (3, .long d), (0, .ref q), (1, .long d)]) K dX2_digestHills_3 (by decide) rfl ?_
  refine jk_sub (lv' := [(5, .int 0), (3, .long d), (0, .ref q)]) [0, 1, 2] rfl ?_
  refine jk_lv (lv' := [(5, .int (nI 0)), (3, .long (hb_dhs C d 0)), (0, .ref q)]) (by first | rfl | (simp [hb_dhs_s]; done)) ?_
  exact hL 0 (Nat.zero_le _)
set_option maxHeartbeats 4000000 in
set_option maxRecDepth 100000 in
theorem hb_X2_digestSights (l : Launch) (hl : l.stackTraces = false) (E : jk_T) (q : Nat) (b1 b2 : Nat → Nat) (Y : va_W) (C : Nat → Nat → Int32) (G M : Nat → Int32) (C2 : Nat → Nat → Int32) (G2 M2 : Nat → Int32) (n : Nat) (hn : n ≤ 10) (hg : G 0 = nI n) (d : Int64) : jk_fn l yX2_digestSights wsX2_digestSights ({ frames := 2, cells := 0, slots := 0, locals := 45 } : Room) [.ref q, .long d] E (hb_v1 E q b1 b2 Y C G M C2 G2 M2) (some (.long (hb_ds G M n d n))) (hb_v1 E q b1 b2 Y C G M C2 G2 M2) := by
  refine jk_of (lv := [(0, .ref q), (1, .long d)]) (own := RX2) (nm := "digestSights") hl (by decide +kernel) rfl (Nat.le_of_ble_eq_true rfl) rfl rfl rfl (fun Γ hΓ K hnm hz => ?_)
  subst hΓ
  have hin_RX1 : ∀ w ∈ u_ws RX1 TX1 9, w ∈ wsX2_digestSights := by decide +kernel
  have hin_RX2 : ∀ w ∈ u_ws RX2 TX2 2, w ∈ wsX2_digestSights := by decide +kernel
  have hL : ∀ j, j ≤ n → jk_J Γ E (hb_v1 E q b1 b2 Y C G M C2 G2 M2) 0 0 5 [(5, .int (nI j)), (3, .long (hb_ds G M n d j)), (0, .ref q)] [] := by
    refine jk_loop (fun j hj ih => ?_)
    refine jk_iload K dX2_digestSights_5 0 rfl ?_
    refine jk_aload_n K dX2_digestSights_7 rfl 2 rfl ?_
    refine jk_get (C := RX2) (T := TX2) (N := 2) (nm := "land") (ds := "LHillBeacons$Land;") (v := .ref (b1 0)) K dX2_digestSights_8 hin_RX2 (by decide +kernel) 0 rfl rfl 0 rfl (by decide) rfl ?_
    refine jk_get (C := RX1) (T := TX1) (N := 9) (nm := "count") (ds := "I") (v := .int (G 0)) K dX2_digestSights_11 hin_RX1 (by decide +kernel) ([hb_ob q b1 b2].length + 0) hb_L0 rfl 3 rfl (by decide) rfl ?_
    refine jk_icmp_ge (tgt := 77) K dX2_digestSights_14 rfl (fun c_14 => ?_) (fun c_14 => ?_)
    · have hjn : j = n := hb_ex hg (by omega) hj c_14
      refine jk_lload_n K dX2_digestSights_77 rfl 1 rfl ?_
      exact jk_lret K hz dX2_digestSights_78 () (by rw [hjn]) trivial rfl (Nat.le_of_ble_eq_true rfl) (Nat.le_of_ble_eq_true rfl)
    · have hlt : j < n := hb_in hg (by omega) hj c_14
      refine jk_iconst (x := 0) K dX2_digestSights_17 rfl ?_
      refine jk_istore (lv' := [(6, .int 0), (5, .int (nI j)), (3, .long (hb_ds G M n d j)), (0, .ref q)]) K dX2_digestSights_18 (by decide) rfl ?_
      have hI : ∀ k, k ≤ n → jk_J Γ E (hb_v1 E q b1 b2 Y C G M C2 G2 M2) 0 0 20 [(6, .int (nI k)), (3, .long (hb_dr G M j (hb_ds G M n d j) k)), (5, .int (nI j)), (0, .ref q)] [] := by
        refine jk_loop (fun k hk ihk => ?_)
        refine jk_iload K dX2_digestSights_20 0 rfl ?_
        refine jk_aload_n K dX2_digestSights_22 rfl 3 rfl ?_
        refine jk_get (C := RX2) (T := TX2) (N := 2) (nm := "land") (ds := "LHillBeacons$Land;") (v := .ref (b1 0)) K dX2_digestSights_23 hin_RX2 (by decide +kernel) 0 rfl rfl 0 rfl (by decide) rfl ?_
        refine jk_get (C := RX1) (T := TX1) (N := 9) (nm := "count") (ds := "I") (v := .int (G 0)) K dX2_digestSights_26 hin_RX1 (by decide +kernel) ([hb_ob q b1 b2].length + 0) hb_L0 rfl 3 rfl (by decide) rfl ?_
        refine jk_icmp_ge (tgt := 71) K dX2_digestSights_29 rfl (fun c_29 => ?_) (fun c_29 => ?_)
        · have hjhlk : k = n := hb_ex hg (by omega) hk c_29
          refine jk_iinc (v := (nI (j + 1))) (lv' := [(5, .int (nI (j + 1))), (6, .int (nI k)), (3, .long (hb_dr G M j (hb_ds G M n d j) k)), (0, .ref q)]) K dX2_digestSights_71 2 rfl (nI_1 j) (by decide) rfl ?_
          refine jk_goto (tgt := 5) K dX2_digestSights_74 rfl ?_
          refine jk_sub (lv' := [(5, .int (nI (j + 1))), (3, .long (hb_dr G M j (hb_ds G M n d j) k)), (0, .ref q)]) [0, 2, 3] rfl ?_
          refine jk_lv (lv' := [(5, .int (nI (j + 1))), (3, .long (hb_ds G M n d (j + 1))), (0, .ref q)]) (by rw [hjhlk]; rfl) ?_
          exact ih hlt
        · have hlk : k < n := hb_in hg (by omega) hk c_29
          refine jk_lload_n K dX2_digestSights_32 rfl 1 rfl ?_
          refine jk_aload_n K dX2_digestSights_33 rfl 3 rfl ?_
          refine jk_get (C := RX2) (T := TX2) (N := 2) (nm := "land") (ds := "LHillBeacons$Land;") (v := .ref (b1 0)) K dX2_digestSights_34 hin_RX2 (by decide +kernel) 0 rfl rfl 0 rfl (by decide) rfl ?_
          refine jk_iload K dX2_digestSights_37 2 rfl ?_
          refine jk_iload K dX2_digestSights_39 0 rfl ?_
          refine jk_cVi K (n' := 0) (k' := 0) [.int (nI j), .int (nI k)] [.long (hb_dr G M j (hb_ds G M n d j) k)] dX2_digestSights_41 (hb_X1_milesFrom _ hl E [hb_ob q b1 b2] (hb_LW E b2 C2 G2 M2 ++ Y) b1 C G M j k (Nat.lt_of_lt_of_le hlt hn) (Nat.lt_of_lt_of_le hlk hn)) gX2_digestSights_X1_milesFrom rfl kd_X1_milesFrom ⟨Nat.le_of_ble_eq_true rfl, Nat.le_of_ble_eq_true rfl⟩ ([hb_ob q b1 b2].length + 0) hb_L0 rfl (Nat.le_of_ble_eq_true rfl) ⟨rfl, rfl⟩ ⟨Nat.le_of_ble_eq_true rfl, Nat.le_of_ble_eq_true rfl⟩ rfl (fun _ _ => ?_)
          refine jk_i2l K dX2_digestSights_44 ?_
          refine jk_cSl K (n' := 0) (k' := 0) [.long (hb_dr G M j (hb_ds G M n d j) k), .long (Int32.toInt64 (M (j * 10 + k)))] [] dX2_digestSights_45 (hb_X2_mix _ hl E (hb_L E [hb_ob q b1 b2] (hb_LW E b2 C2 G2 M2 ++ Y) b1 C G M) (hb_dr G M j (hb_ds G M n d j) k) (Int32.toInt64 (M (j * 10 + k)))) gX2_digestSights_X2_mix rfl kd_X2_mix ⟨Nat.le_of_ble_eq_true rfl, Nat.le_of_ble_eq_true rfl⟩ (Nat.le_of_ble_eq_true rfl) ⟨rfl, rfl⟩ ⟨Nat.le_of_ble_eq_true rfl, Nat.le_of_ble_eq_true rfl⟩ rfl (fun _ _ => ?_)
          refine jk_lstore_n (lv' := [(3, .long (hb_mix (hb_dr G M j (hb_ds G M n d j) k) (Int32.toInt64 (M (j * 10 + k))))), (6, .int (nI k)), (5, .int (nI j)), (0, .ref q)]) K dX2_digestSights_48 rfl (by decide) rfl ?_
          refine jk_lload_n K dX2_digestSights_49 rfl 0 rfl ?_
          refine jk_aload_n K dX2_digestSights_50 rfl 3 rfl ?_
          refine jk_get (C := RX2) (T := TX2) (N := 2) (nm := "land") (ds := "LHillBeacons$Land;") (v := .ref (b1 0)) K dX2_digestSights_51 hin_RX2 (by decide +kernel) 0 rfl rfl 0 rfl (by decide) rfl ?_
          refine jk_iload K dX2_digestSights_54 2 rfl ?_
          refine jk_iload K dX2_digestSights_56 1 rfl ?_
          refine jk_cVi K (n' := 0) (k' := 0) [.int (nI j), .int (nI k)] [.long (hb_mix (hb_dr G M j (hb_ds G M n d j) k) (Int32.toInt64 (M (j * 10 + k))))] dX2_digestSights_58 (hb_X1_sees _ hl E [hb_ob q b1 b2] (hb_LW E b2 C2 G2 M2 ++ Y) b1 C G M j k (Nat.lt_of_lt_of_le hlt hn) (Nat.lt_of_lt_of_le hlk hn)) gX2_digestSights_X1_sees rfl kd_X1_sees ⟨Nat.le_of_ble_eq_true rfl, Nat.le_of_ble_eq_true rfl⟩ ([hb_ob q b1 b2].length + 0) hb_L0 rfl (Nat.le_of_ble_eq_true rfl) ⟨rfl, rfl⟩ ⟨Nat.le_of_ble_eq_true rfl, Nat.le_of_ble_eq_true rfl⟩ rfl (fun _ _ => ?_)
          refine jk_cSl K (n' := 0) (k' := 0) [.long (hb_mix (hb_dr G M j (hb_ds G M n d j) k) (Int32.toInt64 (M (j * 10 + k)))), .int (hb_clr (G 1) (M (j * 10 + k)))] [] dX2_digestSights_61 (hb_X2_mixIf _ hl E (hb_L E [hb_ob q b1 b2] (hb_LW E b2 C2 G2 M2 ++ Y) b1 C G M) (hb_mix (hb_dr G M j (hb_ds G M n d j) k) (Int32.toInt64 (M (j * 10 + k)))) (hb_clr (G 1) (M (j * 10 + k)))) gX2_digestSights_X2_mixIf rfl kd_X2_mixIf ⟨Nat.le_of_ble_eq_true rfl, Nat.le_of_ble_eq_true rfl⟩ (Nat.le_of_ble_eq_true rfl) ⟨rfl, rfl⟩ ⟨Nat.le_of_ble_eq_true rfl, Nat.le_of_ble_eq_true rfl⟩ rfl (fun _ _ => ?_)
          refine jk_lstore_n (lv' := [(3, .long (hb_mix (hb_mix (hb_dr G M j (hb_ds G M n d j) k) (Int32.toInt64 (M (j * 10 + k)))) (hb_if (¬ (hb_clr (G 1) (M (j * 10 + k))) = 0)))), (6, .int (nI k)), (5, .int (nI j)), (0, .ref q)]) K dX2_digestSights_64 rfl (by decide) rfl ?_
          refine jk_iinc (v := (nI (k + 1))) (lv' := [(6, .int (nI (k + 1))), (3, .long (hb_mix (hb_mix (hb_dr G M j (hb_ds G M n d j) k) (Int32.toInt64 (M (j * 10 + k)))) (hb_if (¬ (hb_clr (G 1) (M (j * 10 + k))) = 0)))), (5, .int (nI j)), (0, .ref q)]) K dX2_digestSights_65 1 rfl (nI_1 k) (by decide) rfl ?_
          refine jk_goto (tgt := 20) K dX2_digestSights_68 rfl ?_
          refine jk_lv (lv' := [(6, .int (nI (k + 1))), (3, .long (hb_dr G M j (hb_ds G M n d j) (k + 1))), (5, .int (nI j)), (0, .ref q)]) (by first | rfl | (simp [hb_dr_s, c_29]; done)) ?_
          exact ihk hlk
      refine jk_sub (lv' := [(6, .int 0), (3, .long (hb_ds G M n d j)), (5, .int (nI j)), (0, .ref q)]) [0, 2, 1, 3] rfl ?_
      refine jk_lv (lv' := [(6, .int (nI 0)), (3, .long (hb_dr G M j (hb_ds G M n d j) 0)), (5, .int (nI j)), (0, .ref q)]) (by first | rfl | (simp [c_14]; done)) ?_
      exact hI 0 (Nat.zero_le _)
  refine jk_lload_n K dX2_digestSights_0 rfl 1 rfl ?_
  refine jk_lstore_n (lv' := [(3, .long d), (0, .ref q), (1, .long d)]) K dX2_digestSights_1 rfl (by decide) rfl ?_
  refine jk_iconst (x := 0) K dX2_digestSights_2 rfl ?_
  refine jk_istore (lv' := [(5, .int 0), (3, .long d), (0, .ref q), (1, .long d)]) K dX2_digestSights_3 (by decide) rfl ?_
  refine jk_sub (lv' := [(5, .int 0), (3, .long d), (0, .ref q)]) [0, 1, 2] rfl ?_
  refine jk_lv (lv' := [(5, .int (nI 0)), (3, .long (hb_ds G M n d 0)), (0, .ref q)]) (by first | rfl | (simp []; done)) ?_
  exact hL 0 (Nat.zero_le _)
set_option maxHeartbeats 4000000 in
set_option maxRecDepth 100000 in
theorem hb_X2_digest (l : Launch) (hl : l.stackTraces = false) (E : jk_T) (q : Nat) (b1 b2 : Nat → Nat) (Y : va_W) (C : Nat → Nat → Int32) (G M : Nat → Int32) (C2 : Nat → Nat → Int32) (G2 M2 : Nat → Int32) (n : Nat) (hn : n ≤ 10) (hg : G 0 = nI n) : jk_fn l yX2_digest wsX2_digest ({ frames := 4, cells := 0, slots := 0, locals := 94 } : Room) [.ref q] E (hb_v1 E q b1 b2 Y C G M C2 G2 M2) (some (.long (hb_dig C G M n))) (hb_v1 E q b1 b2 Y C G M C2 G2 M2) := by
  refine jk_of (lv := [(0, .ref q)]) (own := RX2) (nm := "digest") hl (by decide +kernel) rfl (Nat.le_of_ble_eq_true rfl) rfl rfl rfl (fun Γ hΓ K hnm hz => ?_)
  subst hΓ
  refine jk_aload_n K dX2_digest_0 rfl 0 rfl ?_
  refine jk_aload_n K dX2_digest_1 rfl 0 rfl ?_
  refine jk_aload_n K dX2_digest_2 rfl 0 rfl ?_
  refine jk_ldc2 (v := 1883) K dX2_digest_3 (by decide +kernel) ?_
  refine jk_cVl K (n' := 0) (k' := 0) [.long 1883] [.ref q, .ref q] dX2_digest_6 (hb_X2_digestLand _ hl E q b1 b2 Y C G M C2 G2 M2 n hn hg 1883) gX2_digest_X2_digestLand rfl kd_X2_digestLand ⟨Nat.le_of_ble_eq_true rfl, Nat.le_of_ble_eq_true rfl⟩ 0 rfl rfl (Nat.le_of_ble_eq_true rfl) ⟨rfl, rfl⟩ ⟨Nat.le_of_ble_eq_true rfl, Nat.le_of_ble_eq_true rfl⟩ rfl (fun _ _ => ?_)
  refine jk_cVl K (n' := 0) (k' := 0) [.long (hb_dl C G n 1883)] [.ref q] dX2_digest_9 (hb_X2_digestHills _ hl E q b1 b2 Y C G M C2 G2 M2 n hn hg (hb_dl C G n 1883)) gX2_digest_X2_digestHills rfl kd_X2_digestHills ⟨Nat.le_of_ble_eq_true rfl, Nat.le_of_ble_eq_true rfl⟩ 0 rfl rfl (Nat.le_of_ble_eq_true rfl) ⟨rfl, rfl⟩ ⟨Nat.le_of_ble_eq_true rfl, Nat.le_of_ble_eq_true rfl⟩ rfl (fun _ _ => ?_)
  refine jk_cVl K (n' := 0) (k' := 0) [.long (hb_dhs C (hb_dl C G n 1883) n)] [] dX2_digest_12 (hb_X2_digestSights _ hl E q b1 b2 Y C G M C2 G2 M2 n hn hg (hb_dhs C (hb_dl C G n 1883) n)) gX2_digest_X2_digestSights rfl kd_X2_digestSights ⟨Nat.le_of_ble_eq_true rfl, Nat.le_of_ble_eq_true rfl⟩ 0 rfl rfl (Nat.le_of_ble_eq_true rfl) ⟨rfl, rfl⟩ ⟨Nat.le_of_ble_eq_true rfl, Nat.le_of_ble_eq_true rfl⟩ rfl (fun _ _ => ?_)
  exact jk_lret K hz dX2_digest_15 () rfl trivial rfl (Nat.le_of_ble_eq_true rfl) (Nat.le_of_ble_eq_true rfl)
