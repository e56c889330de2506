theorem kd_X1_passMany : yX1_passMany.cls = RX1 ∧ yX1_passMany.cls ≠ "java/lang/invoke/MethodHandle" ∧ yX1_passMany.cls ≠ "java/lang/invoke/VarHandle" ∧ (parseMethodDescriptor yX1_passMany.desc).map (fun d => d.parameters.length) = some 1 := by decide +kernel
theorem kd_X1_putMiles : yX1_putMiles.cls = RX1 ∧ yX1_putMiles.cls ≠ "java/lang/invoke/MethodHandle" ∧ yX1_putMiles.cls ≠ "java/lang/invoke/VarHandle" ∧ (parseMethodDescriptor yX1_putMiles.desc).map (fun d => d.parameters.length) = some 3 := by decide +kernel
theorem kd_X1_settle : yX1_settle.cls = RX1 ∧ yX1_settle.cls ≠ "java/lang/invoke/MethodHandle" ∧ yX1_settle.cls ≠ "java/lang/invoke/VarHandle" ∧ (parseMethodDescriptor yX1_settle.desc).map (fun d => d.parameters.length) = some 3 := by decide +kernel
theorem kd_X1_stepsFrom : yX1_stepsFrom.cls = RX1 ∧ yX1_stepsFrom.cls ≠ "java/lang/invoke/MethodHandle" ∧ yX1_stepsFrom.cls ≠ "java/lang/invoke/VarHandle" ∧ (parseMethodDescriptor yX1_stepsFrom.desc).map (fun d => d.parameters.length) = some 2 := by decide +kernel
theorem kd_X1_sumWood : yX1_sumWood.cls = RX1 ∧ yX1_sumWood.cls ≠ "java/lang/invoke/MethodHandle" ∧ yX1_sumWood.cls ≠ "java/lang/invoke/VarHandle" ∧ (parseMethodDescriptor yX1_sumWood.desc).map (fun d => d.parameters.length) = some 0 := by decide +kernel
set_option maxHeartbeats 4000000 in
set_option maxRecDepth 100000 in
theorem hb_X2_milesBetween (l : Launch) (hl : l.stackTraces = false) (E : jk_T) (q : Nat) (b1 b2 : Nat → Nat) (Y : va_W) (C : Nat → Nat → Int32) (G M : Nat → Int32) (C2 : Nat → Nat → Int32) (G2 M2 : Nat → Int32) (n : Nat) (hn : n ≤ 10) (hg : G 0 = nI n) (x y : Int32) : jk_Cx l yX2_milesBetween wsX2_milesBetween ({ frames := 7, cells := 2, slots := 12, locals := 111 } : Room) [.ref q, .int x, .int y] E (hb_v1 E q b1 b2 Y C G M C2 G2 M2) (fun u : Nat × Nat => some (.int (M (u.1 * 10 + u.2)))) (fun _ => (hb_v1 E q b1 b2 Y C G M C2 G2 M2)) (fun u => u.1 < n ∧ u.2 < n ∧ x = nI u.1 ∧ y = nI u.2) (fun Ex => Ex = "java/lang/IndexOutOfBoundsException" ∧ ¬ (hb_ok n x ∧ hb_ok n y)) := by
  refine jk_ofx (lv := [(0, .ref q), (1, .int x), (2, .int y)]) (own := RX2) (nm := "milesBetween") hl (by decide +kernel) rfl (Nat.le_of_ble_eq_true rfl) rfl rfl rfl (fun Γ hΓ K hnm hz hzx => ?_)
  subst hΓ
  have hin_RX2 : ∀ w ∈ u_ws RX2 TX2 2, w ∈ wsX2_milesBetween := by decide +kernel
  refine jk_aload_n K dX2_milesBetween_0 rfl 0 rfl ?_
  refine jk_iload_n K dX2_milesBetween_1 rfl 1 rfl ?_
  refine jk_cVvx K (n' := 1) (k' := 6) [.int x] [] dX2_milesBetween_2 (hb_X2_requireHill _ hl E q b1 b2 Y C G M C2 G2 M2 n hn hg x) gX2_milesBetween_X2_requireHill rfl kd_X2_requireHill ⟨Nat.le_of_ble_eq_true rfl, Nat.le_of_ble_eq_true rfl⟩ 0 rfl rfl (Nat.le_of_ble_eq_true rfl) ⟨rfl, rfl⟩ ⟨Nat.le_of_ble_eq_true rfl, Nat.le_of_ble_eq_true rfl⟩ rfl (fun Ex hx => jk_out K hzx ⟨hx.1, fun q => hx.2 q.1⟩ (Nat.le_of_ble_eq_true rfl) (Nat.le_of_ble_eq_true rfl)) (fun i hp => ?_)
  obtain ⟨hi, rfl⟩ := hp
  refine jk_aload_n K dX2_milesBetween_5 rfl 0 rfl ?_
  refine jk_iload_n K dX2_milesBetween_6 rfl 2 rfl ?_
  refine jk_cVvx K (n' := 2) (k' := 12) [.int y] [] dX2_milesBetween_7 (hb_X2_requireHill _ hl E q b1 b2 Y C G M C2 G2 M2 n hn hg y) gX2_milesBetween_X2_requireHill rfl kd_X2_requireHill ⟨Nat.le_of_ble_eq_true rfl, Nat.le_of_ble_eq_true rfl⟩ 0 rfl rfl (Nat.le_of_ble_eq_true rfl) ⟨rfl, rfl⟩ ⟨Nat.le_of_ble_eq_true rfl, Nat.le_of_ble_eq_true rfl⟩ rfl (fun Ex hx => jk_out K hzx ⟨hx.1, fun q => hx.2 q.2⟩ (Nat.le_of_ble_eq_true rfl) (Nat.le_of_ble_eq_true rfl)) (fun k hp => ?_)
  obtain ⟨hk, rfl⟩ := hp
  refine jk_aload_n K dX2_milesBetween_10 rfl 0 rfl ?_
  refine jk_get (C := RX2) (T := TX2) (N := 2) (nm := "land") (ds := "LHillBeacons$Land;") (v := .ref (b1 0)) K dX2_milesBetween_11 hin_RX2 (by decide +kernel) 0 rfl rfl 0 rfl (by decide) rfl ?_
  refine jk_iload_n K dX2_milesBetween_14 rfl 1 rfl ?_
  refine jk_iload_n K dX2_milesBetween_15 rfl 2 rfl ?_
  refine jk_cVi K (n' := 2) (k' := 12) [.int (nI i), .int (nI k)] [] dX2_milesBetween_16 (hb_X1_milesFrom _ hl E [hb_ob q b1 b2] (hb_LW E b2 C2 G2 M2 ++ Y) b1 C G M i k (Nat.lt_of_lt_of_le hi hn) (Nat.lt_of_lt_of_le hk hn)) gX2_milesBetween_X1_milesFrom rfl kd_X1_milesFrom ⟨Nat.le_of_ble_eq_true rfl, Nat.le_of_ble_eq_true rfl⟩ ([hb_ob q b1 b2].length + 0) hb_L0 rfl (Nat.le_of_ble_eq_true rfl) ⟨rfl, rfl⟩ ⟨Nat.le_of_ble_eq_true rfl, Nat.le_of_ble_eq_true rfl⟩ rfl (fun _ _ => ?_)
  exact jk_iret K hz dX2_milesBetween_19 (i, k) rfl ⟨hi, hk, rfl, rfl⟩ rfl rfl (Nat.le_of_ble_eq_true rfl) (Nat.le_of_ble_eq_true rfl)
set_option maxHeartbeats 4000000 in
set_option maxRecDepth 100000 in
theorem hb_X2_canSee (l : Launch) (hl : l.stackTraces = false) (E : jk_T) (q : Nat) (b1 b2 : Nat → Nat) (Y : va_W) (C : Nat → Nat → Int32) (G M : Nat → Int32) (C2 : Nat → Nat → Int32) (G2 M2 : Nat → Int32) (n : Nat) (hn : n ≤ 10) (hg : G 0 = nI n) (x y : Int32) : jk_Cx l yX2_canSee wsX2_canSee ({ frames := 7, cells := 2, slots := 12, locals := 111 } : Room) [.ref q, .int x, .int y] E (hb_v1 E q b1 b2 Y C G M C2 G2 M2) (fun u : Nat × Nat => some (.int (hb_clr (G 1) (M (u.1 * 10 + u.2))))) (fun _ => (hb_v1 E q b1 b2 Y C G M C2 G2 M2)) (fun u => u.1 < n ∧ u.2 < n ∧ x = nI u.1 ∧ y = nI u.2) (fun Ex => Ex = "java/lang/IndexOutOfBoundsException" ∧ ¬ (hb_ok n x ∧ hb_ok n y)) := by
  refine jk_ofx (lv := [(0, .ref q), (1, .int x), (2, .int y)]) (own := RX2) (nm := "canSee") hl (by decide +kernel) rfl (Nat.le_of_ble_eq_true rfl) rfl rfl rfl (fun Γ hΓ K hnm hz hzx => ?_)
  subst hΓ
  have hin_RX2 : ∀ w ∈ u_ws RX2 TX2 2, w ∈ wsX2_canSee := by decide +kernel
  refine jk_aload_n K dX2_canSee_0 rfl 0 rfl ?_
  refine jk_iload_n K dX2_canSee_1 rfl 1 rfl ?_
  refine jk_cVvx K (n' := 1) (k' := 6) [.int x] [] dX2_canSee_2 (hb_X2_requireHill _ hl E q b1 b2 Y C G M C2 G2 M2 n hn hg x) gX2_canSee_X2_requireHill rfl kd_X2_requireHill ⟨Nat.le_of_ble_eq_true rfl, Nat.le_of_ble_eq_true rfl⟩ 0 rfl rfl (Nat.le_of_ble_eq_true rfl) ⟨rfl, rfl⟩ ⟨Nat.le_of_ble_eq_true rfl, Nat.le_of_ble_eq_true rfl⟩ rfl (fun Ex hx => jk_out K hzx ⟨hx.1, fun q => hx.2 q.1⟩ (Nat.le_of_ble_eq_true rfl) (Nat.le_of_ble_eq_true rfl)) (fun i hp => ?_)
  obtain ⟨hi, rfl⟩ := hp
  refine jk_aload_n K dX2_canSee_5 rfl 0 rfl ?_
  refine jk_iload_n K dX2_canSee_6 rfl 2 rfl ?_
  refine jk_cVvx K (n' := 2) (k' := 12) [.int y] [] dX2_canSee_7 (hb_X2_requireHill _ hl E q b1 b2 Y C G M C2 G2 M2 n hn hg y) gX2_canSee_X2_requireHill rfl kd_X2_requireHill ⟨Nat.le_of_ble_eq_true rfl, Nat.le_of_ble_eq_true rfl⟩ 0 rfl rfl (Nat.le_of_ble_eq_true rfl) ⟨rfl, rfl⟩ ⟨Nat.le_of_ble_eq_true rfl, Nat.le_of_ble_eq_true rfl⟩ rfl (fun Ex hx => jk_out K hzx ⟨hx.1, fun q => hx.2 q.2⟩ (Nat.le_of_ble_eq_true rfl) (Nat.le_of_ble_eq_true rfl)) (fun k hp => ?_)
  obtain ⟨hk, rfl⟩ := hp
  refine jk_aload_n K dX2_canSee_10 rfl 0 rfl ?_
  refine jk_get (C := RX2) (T := TX2) (N := 2) (nm := "land") (ds := "LHillBeacons$Land;") (v := .ref (b1 0)) K dX2_canSee_11 hin_RX2 (by decide +kernel) 0 rfl rfl 0 rfl (by decide) rfl ?_
  refine jk_iload_n K dX2_canSee_14 rfl 1 rfl ?_
  refine jk_iload_n K dX2_canSee_15 rfl 2 rfl ?_
  refine jk_cVi K (n' := 2) (k' := 12) [.int (nI i), .int (nI k)] [] dX2_canSee_16 (hb_X1_sees _ hl E [hb_ob q b1 b2] (hb_LW E b2 C2 G2 M2 ++ Y) b1 C G M i k (Nat.lt_of_lt_of_le hi hn) (Nat.lt_of_lt_of_le hk hn)) gX2_canSee_X1_sees rfl kd_X1_sees ⟨Nat.le_of_ble_eq_true rfl, Nat.le_of_ble_eq_true rfl⟩ ([hb_ob q b1 b2].length + 0) hb_L0 rfl (Nat.le_of_ble_eq_true rfl) ⟨rfl, rfl⟩ ⟨Nat.le_of_ble_eq_true rfl, Nat.le_of_ble_eq_true rfl⟩ rfl (fun _ _ => ?_)
  exact jk_iret K hz dX2_canSee_19 (i, k) rfl ⟨hi, hk, rfl, rfl⟩ rfl (by unfold hb_clr; split <;> rfl) (Nat.le_of_ble_eq_true rfl) (Nat.le_of_ble_eq_true rfl)
set_option maxHeartbeats 4000000 in
set_option maxRecDepth 100000 in
theorem hb_X2_fewestSteps (l : Launch) (hl : l.stackTraces = false) (E : jk_T) (q : Nat) (b1 b2 : Nat → Nat) (Y : va_W) (C : Nat → Nat → Int32) (G M : Nat → Int32) (C2 : Nat → Nat → Int32) (G2 M2 : Nat → Int32) (n : Nat) (hn : n ≤ 10) (hg : G 0 = nI n) (x y : Int32) : jk_Cx l yX2_fewestSteps wsX2_fewestSteps ({ frames := 7, cells := 2, slots := 12, locals := 115 } : Room) [.ref q, .int x, .int y] E (hb_v1 E q b1 b2 Y C G M C2 G2 M2) (fun u : Nat × Nat => some (.int (hb_steps G M n u.1 u.2))) (fun _ => (hb_v1 E q b1 b2 Y C G M C2 G2 M2)) (fun u => u.1 < n ∧ u.2 < n ∧ x = nI u.1 ∧ y = nI u.2) (fun Ex => Ex = "java/lang/IndexOutOfBoundsException" ∧ ¬ (hb_ok n x ∧ hb_ok n y)) := by
  refine jk_ofx (lv := [(0, .ref q), (1, .int x), (2, .int y)]) (own := RX2) (nm := "fewestSteps") hl (by decide +kernel) rfl (Nat.le_of_ble_eq_true rfl) rfl rfl rfl (fun Γ hΓ K hnm hz hzx => ?_)
  subst hΓ
  have hin_RX2 : ∀ w ∈ u_ws RX2 TX2 2, w ∈ wsX2_fewestSteps := by decide +kernel
  refine jk_aload_n K dX2_fewestSteps_0 rfl 0 rfl ?_
  refine jk_iload_n K dX2_fewestSteps_1 rfl 1 rfl ?_
  refine jk_cVvx K (n' := 1) (k' := 6) [.int x] [] dX2_fewestSteps_2 (hb_X2_requireHill _ hl E q b1 b2 Y C G M C2 G2 M2 n hn hg x) gX2_fewestSteps_X2_requireHill rfl kd_X2_requireHill ⟨Nat.le_of_ble_eq_true rfl, Nat.le_of_ble_eq_true rfl⟩ 0 rfl rfl (Nat.le_of_ble_eq_true rfl) ⟨rfl, rfl⟩ ⟨Nat.le_of_ble_eq_true rfl, Nat.le_of_ble_eq_true rfl⟩ rfl (fun Ex hx => jk_out K hzx ⟨hx.1, fun q => hx.2 q.1⟩ (Nat.le_of_ble_eq_true rfl) (Nat.le_of_ble_eq_true rfl)) (fun i hp => ?_)
  obtain ⟨hi, rfl⟩ := hp
  refine jk_aload_n K dX2_fewestSteps_5 rfl 0 rfl ?_
  refine jk_iload_n K dX2_fewestSteps_6 rfl 2 rfl ?_
  refine jk_cVvx K (n' := 2) (k' := 12) [.int y] [] dX2_fewestSteps_7 (hb_X2_requireHill _ hl E q b1 b2 Y C G M C2 G2 M2 n hn hg y) gX2_fewestSteps_X2_requireHill rfl kd_X2_requireHill ⟨Nat.le_of_ble_eq_true rfl, Nat.le_of_ble_eq_true rfl⟩ 0 rfl rfl (Nat.le_of_ble_eq_true rfl) ⟨rfl, rfl⟩ ⟨Nat.le_of_ble_eq_true rfl, Nat.le_of_ble_eq_true rfl⟩ rfl (fun Ex hx => jk_out K hzx ⟨hx.1, fun q => hx.2 q.2⟩ (Nat.le_of_ble_eq_true rfl) (Nat.le_of_ble_eq_true rfl)) (fun k hp => ?_)
  obtain ⟨hk, rfl⟩ := hp
  refine jk_aload_n K dX2_fewestSteps_10 rfl 0 rfl ?_
  refine jk_get (C := RX2) (T := TX2) (N := 2) (nm := "land") (ds := "LHillBeacons$Land;") (v := .ref (b1 0)) K dX2_fewestSteps_11 hin_RX2 (by decide +kernel) 0 rfl rfl 0 rfl (by decide) rfl ?_
  refine jk_iload_n K dX2_fewestSteps_14 rfl 1 rfl ?_
  refine jk_iload_n K dX2_fewestSteps_15 rfl 2 rfl ?_
  refine jk_cVi K (n' := 2) (k' := 12) [.int (nI i), .int (nI k)] [] dX2_fewestSteps_16 (hb_X1_stepsFrom _ hl E [hb_ob q b1 b2] (hb_LW E b2 C2 G2 M2 ++ Y) b1 C G M i k (Nat.lt_of_lt_of_le hi hn) (Nat.lt_of_lt_of_le hk hn) n hn hg) gX2_fewestSteps_X1_stepsFrom rfl kd_X1_stepsFrom ⟨Nat.le_of_ble_eq_true rfl, Nat.le_of_ble_eq_true rfl⟩ ([hb_ob q b1 b2].length + 0) hb_L0 rfl (Nat.le_of_ble_eq_true rfl) ⟨rfl, rfl⟩ ⟨Nat.le_of_ble_eq_true rfl, Nat.le_of_ble_eq_true rfl⟩ rfl (fun _ _ => ?_)
  exact jk_iret K hz dX2_fewestSteps_19 (i, k) rfl ⟨hi, hk, rfl, rfl⟩ rfl rfl (Nat.le_of_ble_eq_true rfl) (Nat.le_of_ble_eq_true rfl)
set_option maxHeartbeats 4000000 in
set_option maxRecDepth 100000 in
theorem hb_X2_setSight (l : Launch) (hl : l.stackTraces = false) (E : jk_T) (q : Nat) (b1 b2 : Nat → Nat) (Y : va_W) (C : Nat → Nat → Int32) (G M : Nat → Int32) (C2 : Nat → Nat → Int32) (G2 M2 : Nat → Int32) (n : Nat) (hn : n ≤ 10) (hg : G 0 = nI n) (x y z : Int32) : jk_Cx l yX2_setSight wsX2_setSight ({ frames := 7, cells := 4, slots := 24, locals := 112 } : Room) [.ref q, .int x, .int y, .int z] E (hb_v1 E q b1 b2 Y C G M C2 G2 M2) (fun u : Nat × Nat => some (.int (M (u.1 * 10 + u.2)))) (fun u => (hb_v1 E q b1 b2 Y C G (upd (upd M (u.1 * 10 + u.2) z) (u.2 * 10 + u.1) z) C2 G2 M2)) (fun u => u.1 < n ∧ u.2 < n ∧ x = nI u.1 ∧ y = nI u.2 ∧ ¬ x = y ∧ hb_bt z 0 20) (fun Ex => (Ex = "java/lang/IndexOutOfBoundsException" ∧ ¬ (hb_ok n x ∧ hb_ok n y)) ∨ (Ex = "java/lang/IllegalArgumentException" ∧ hb_ok n x ∧ hb_ok n y ∧ (x = y ∨ ¬ hb_bt z 0 20))) := by
  refine jk_ofx (lv := [(0, .ref q), (1, .int x), (2, .int y), (3, .int z)]) (own := RX2) (nm := "setSight") hl (by decide +kernel) rfl (Nat.le_of_ble_eq_true rfl) rfl rfl rfl (fun Γ hΓ K hnm hz hzx => ?_)
  subst hΓ
  have hin_RX2 : ∀ w ∈ u_ws RX2 TX2 2, w ∈ wsX2_setSight := by decide +kernel
  refine jk_aload_n K dX2_setSight_0 rfl 0 rfl ?_
  refine jk_iload_n K dX2_setSight_1 rfl 1 rfl ?_
  refine jk_cVvx K (n' := 1) (k' := 6) [.int x] [] dX2_setSight_2 (hb_X2_requireHill _ hl E q b1 b2 Y C G M C2 G2 M2 n hn hg x) gX2_setSight_X2_requireHill rfl kd_X2_requireHill ⟨Nat.le_of_ble_eq_true rfl, Nat.le_of_ble_eq_true rfl⟩ 0 rfl rfl (Nat.le_of_ble_eq_true rfl) ⟨rfl, rfl⟩ ⟨Nat.le_of_ble_eq_true rfl, Nat.le_of_ble_eq_true rfl⟩ rfl (fun Ex hx => jk_out K hzx (Or.inl ⟨hx.1, fun q => hx.2 q.1⟩) (Nat.le_of_ble_eq_true rfl) (Nat.le_of_ble_eq_true rfl)) (fun i hp => ?_)
  obtain ⟨hi, rfl⟩ := hp
  refine jk_aload_n K dX2_setSight_5 rfl 0 rfl ?_
  refine jk_iload_n K dX2_setSight_6 rfl 2 rfl ?_
  refine jk_cVvx K (n' := 2) (k' := 12) [.int y] [] dX2_setSight_7 (hb_X2_requireHill _ hl E q b1 b2 Y C G M C2 G2 M2 n hn hg y) gX2_setSight_X2_requireHill rfl kd_X2_requireHill ⟨Nat.le_of_ble_eq_true rfl, Nat.le_of_ble_eq_true rfl⟩ 0 rfl rfl (Nat.le_of_ble_eq_true rfl) ⟨rfl, rfl⟩ ⟨Nat.le_of_ble_eq_true rfl, Nat.le_of_ble_eq_true rfl⟩ rfl (fun Ex hx => jk_out K hzx (Or.inl ⟨hx.1, fun q => hx.2 q.2⟩) (Nat.le_of_ble_eq_true rfl) (Nat.le_of_ble_eq_true rfl)) (fun k hp => ?_)
  obtain ⟨hk, rfl⟩ := hp
  refine jk_iload_n K dX2_setSight_10 rfl 1 rfl ?_
  refine jk_iload_n K dX2_setSight_11 rfl 2 rfl ?_
  refine jk_icmp_ne (tgt := 25) K dX2_setSight_12 rfl (fun c_12 => ?_) (fun c_12 => ?_)
  · refine jk_iload_n K dX2_setSight_25 rfl 3 rfl ?_
    refine jk_iconst (x := 0) K dX2_setSight_26 rfl ?_
    refine jk_bipush (x := 20) K dX2_setSight_27 rfl ?_
    refine jk_cSvx K (n' := 3) (k' := 18) [.int z, .int 0, .int 20] [] dX2_setSight_29 (hb_X2_requireBetween _ hl E (hb_L E [hb_ob q b1 b2] (hb_LW E b2 C2 G2 M2 ++ Y) b1 C G M) z 0 20) gX2_setSight_X2_requireBetween rfl kd_X2_requireBetween ⟨Nat.le_of_ble_eq_true rfl, Nat.le_of_ble_eq_true rfl⟩ (Nat.le_of_ble_eq_true rfl) ⟨rfl, rfl⟩ ⟨Nat.le_of_ble_eq_true rfl, Nat.le_of_ble_eq_true rfl⟩ rfl (fun Ex hx => jk_out K hzx (Or.inr ⟨hx.1, hb_ok_i hi, hb_ok_i hk, Or.inr hx.2⟩) (Nat.le_of_ble_eq_true rfl) (Nat.le_of_ble_eq_true rfl)) (fun _ hbt29 => ?_)
    refine jk_aload_n K dX2_setSight_32 rfl 0 rfl ?_
    refine jk_get (C := RX2) (T := TX2) (N := 2) (nm := "land") (ds := "LHillBeacons$Land;") (v := .ref (b1 0)) K dX2_setSight_33 hin_RX2 (by decide +kernel) 0 rfl rfl 0 rfl (by decide) rfl ?_
    refine jk_iload_n K dX2_setSight_36 rfl 1 rfl ?_
    refine jk_iload_n K dX2_setSight_37 rfl 2 rfl ?_
    refine jk_cVi K (n' := 3) (k' := 18) [.int (nI i), .int (nI k)] [] dX2_setSight_38 (hb_X1_milesFrom _ hl E [hb_ob q b1 b2] (hb_LW E b2 C2 G2 M2 ++ Y) b1 C G M i k (Nat.lt_of_lt_of_le hi hn) (Nat.lt_of_lt_of_le hk hn)) gX2_setSight_X1_milesFrom rfl kd_X1_milesFrom ⟨Nat.le_of_ble_eq_true rfl, Nat.le_of_ble_eq_true rfl⟩ ([hb_ob q b1 b2].length + 0) hb_L0 rfl (Nat.le_of_ble_eq_true rfl) ⟨rfl, rfl⟩ ⟨Nat.le_of_ble_eq_true rfl, Nat.le_of_ble_eq_true rfl⟩ rfl (fun _ _ => ?_)
    refine jk_istore (lv' := [(4, .int (M (i * 10 + k))), (0, .ref q), (1, .int (nI i)), (2, .int (nI k)), (3, .int z)]) K dX2_setSight_41 (by decide) rfl ?_
    refine jk_aload_n K dX2_setSight_43 rfl 1 rfl ?_
    refine jk_get (C := RX2) (T := TX2) (N := 2) (nm := "land") (ds := "LHillBeacons$Land;") (v := .ref (b1 0)) K dX2_setSight_44 hin_RX2 (by decide +kernel) 0 rfl rfl 0 rfl (by decide) rfl ?_
    refine jk_iload_n K dX2_setSight_47 rfl 2 rfl ?_
    refine jk_iload_n K dX2_setSight_48 rfl 3 rfl ?_
    refine jk_iload_n K dX2_setSight_49 rfl 4 rfl ?_
    refine jk_cVv K (n' := 3) (k' := 18) [.int (nI i), .int (nI k), .int z] [] dX2_setSight_50 (hb_X1_putMiles _ hl E [hb_ob q b1 b2] (hb_LW E b2 C2 G2 M2 ++ Y) b1 C G M i k (Nat.lt_of_lt_of_le hi hn) (Nat.lt_of_lt_of_le hk hn) z) gX2_setSight_X1_putMiles rfl kd_X1_putMiles ⟨Nat.le_of_ble_eq_true rfl, Nat.le_of_ble_eq_true rfl⟩ ([hb_ob q b1 b2].length + 0) hb_L0 rfl (Nat.le_of_ble_eq_true rfl) ⟨rfl, rfl⟩ ⟨Nat.le_of_ble_eq_true rfl, Nat.le_of_ble_eq_true rfl⟩ rfl (fun _ _ => ?_)
    refine jk_aload_n K dX2_setSight_53 rfl 1 rfl ?_
    refine jk_get (C := RX2) (T := TX2) (N := 2) (nm := "land") (ds := "LHillBeacons$Land;") (v := .ref (b1 0)) K dX2_setSight_54 hin_RX2 (by decide +kernel) 0 rfl rfl 0 rfl (by decide) rfl ?_
    refine jk_iload_n K dX2_setSight_57 rfl 3 rfl ?_
    refine jk_iload_n K dX2_setSight_58 rfl 2 rfl ?_
    refine jk_iload_n K dX2_setSight_59 rfl 4 rfl ?_
    refine jk_cVv K (n' := 3) (k' := 18) [.int (nI k), .int (nI i), .int z] [] dX2_setSight_60 (hb_X1_putMiles _ hl E [hb_ob q b1 b2] (hb_LW E b2 C2 G2 M2 ++ Y) b1 C G (upd M (i * 10 + k) z) k i (Nat.lt_of_lt_of_le hk hn) (Nat.lt_of_lt_of_le hi hn) z) gX2_setSight_X1_putMiles rfl kd_X1_putMiles ⟨Nat.le_of_ble_eq_true rfl, Nat.le_of_ble_eq_true rfl⟩ ([hb_ob q b1 b2].length + 0) hb_L0 rfl (Nat.le_of_ble_eq_true rfl) ⟨rfl, rfl⟩ ⟨Nat.le_of_ble_eq_true rfl, Nat.le_of_ble_eq_true rfl⟩ rfl (fun _ _ => ?_)
    refine jk_iload K dX2_setSight_63 0 rfl ?_
    exact jk_iret K hz dX2_setSight_65 (i, k) rfl ⟨hi, hk, rfl, rfl, c_12, hbt29⟩ rfl rfl (Nat.le_of_ble_eq_true rfl) (Nat.le_of_ble_eq_true rfl)
  · exact jk_throw K hzx (cls := "java/lang/IllegalArgumentException") (text := "a hill has no sight to itself") (Or.inr ⟨rfl, hb_ok_i hi, hb_ok_i hk, Or.inl c_12⟩) (by decide) (by decide) dX2_setSight_15 dX2_setSight_18 dX2_setSight_19 dX2_setSight_21 dX2_setSight_24 ⟨rfl, rfl, rfl, rfl⟩ (by decide +kernel) (by decide +kernel) (by decide +kernel) (by decide +kernel) (by decide +kernel) (by decide +kernel) ⟨(Nat.le_of_ble_eq_true rfl), (Nat.le_of_ble_eq_true rfl)⟩ (Nat.le_of_ble_eq_true rfl) (Nat.le_of_ble_eq_true rfl)
set_option maxHeartbeats 4000000 in
set_option maxRecDepth 100000 in
theorem hb_X2_addHill (l : Launch) (hl : l.stackTraces = false) (E : jk_T) (q : Nat) (b1 b2 : Nat → Nat) (Y : va_W) (C : Nat → Nat → Int32) (G M : Nat → Int32) (C2 : Nat → Nat → Int32) (G2 M2 : Nat → Int32) (n : Nat) (hn : n ≤ 10) (hg : G 0 = nI n) (x y z : Int32) : jk_Cx l yX2_addHill wsX2_addHill ({ frames := 7, cells := 4, slots := 24, locals := 112 } : Room) [.ref q, .int x, .int y, .int z] E (hb_v1 E q b1 b2 Y C G M C2 G2 M2) (fun _ : Unit => some (.int (nI n))) (fun _ => (hb_v1 E q b1 b2 Y (va_up C n (hb_fu (hb_fu (hb_fu (C n) 0 x) 1 y) 2 z)) (hb_fu G 0 (nI (n + 1))) M C2 G2 M2)) (fun _ => hb_bt x 0 30 ∧ hb_bt y 0 9 ∧ hb_bt z 1 5 ∧ n < 10) (fun Ex => (Ex = "java/lang/IllegalArgumentException" ∧ ¬ (hb_bt x 0 30 ∧ hb_bt y 0 9 ∧ hb_bt z 1 5)) ∨ (Ex = "java/lang/IllegalStateException" ∧ (hb_bt x 0 30 ∧ hb_bt y 0 9 ∧ hb_bt z 1 5) ∧ n = 10)) := by
  refine jk_ofx (lv := [(0, .ref q), (1, .int x), (2, .int y), (3, .int z)]) (own := RX2) (nm := "addHill") hl (by decide +kernel) rfl (Nat.le_of_ble_eq_true rfl) rfl rfl rfl (fun Γ hΓ K hnm hz hzx => ?_)
  subst hΓ
  have hin_RX1 : ∀ w ∈ u_ws RX1 TX1 9, w ∈ wsX2_addHill := by decide +kernel
  have hin_RX2 : ∀ w ∈ u_ws RX2 TX2 2, w ∈ wsX2_addHill := by decide +kernel
  refine jk_iload_n K dX2_addHill_0 rfl 1 rfl ?_
  refine jk_iconst (x := 0) K dX2_addHill_1 rfl ?_
  refine jk_bipush (x := 30) K dX2_addHill_2 rfl ?_
  refine jk_cSvx K (n' := 1) (k' := 6) [.int x, .int 0, .int 30] [] dX2_addHill_4 (hb_X2_requireBetween _ hl E (hb_L E [hb_ob q b1 b2] (hb_LW E b2 C2 G2 M2 ++ Y) b1 C G M) x 0 30) gX2_addHill_X2_requireBetween rfl kd_X2_requireBetween ⟨Nat.le_of_ble_eq_true rfl, Nat.le_of_ble_eq_true rfl⟩ (Nat.le_of_ble_eq_true rfl) ⟨rfl, rfl⟩ ⟨Nat.le_of_ble_eq_true rfl, Nat.le_of_ble_eq_true rfl⟩ rfl (fun Ex hx => jk_out K hzx (Or.inl ⟨hx.1, fun q => hx.2 q.1⟩) (Nat.le_of_ble_eq_true rfl) (Nat.le_of_ble_eq_true rfl)) (fun _ hbt4 => ?_)
  refine jk_iload_n K dX2_addHill_7 rfl 2 rfl ?_
  refine jk_iconst (x := 0) K dX2_addHill_8 rfl ?_
  refine jk_bipush (x := 9) K dX2_addHill_9 rfl ?_
  refine jk_cSvx K (n' := 2) (k' := 12) [.int y, .int 0, .int 9] [] dX2_addHill_11 (hb_X2_requireBetween _ hl E (hb_L E [hb_ob q b1 b2] (hb_LW E b2 C2 G2 M2 ++ Y) b1 C G M) y 0 9) gX2_addHill_X2_requireBetween rfl kd_X2_requireBetween ⟨Nat.le_of_ble_eq_true rfl, Nat.le_of_ble_eq_true rfl⟩ (Nat.le_of_ble_eq_true rfl) ⟨rfl, rfl⟩ ⟨Nat.le_of_ble_eq_true rfl, Nat.le_of_ble_eq_true rfl⟩ rfl (fun Ex hx => jk_out K hzx (Or.inl ⟨hx.1, fun q => hx.2 q.2.1⟩) (Nat.le_of_ble_eq_true rfl) (Nat.le_of_ble_eq_true rfl)) (fun _ hbt11 => ?_)
  refine jk_iload_n K dX2_addHill_14 rfl 3 rfl ?_
  refine jk_iconst (x := 1) K dX2_addHill_15 rfl ?_
  refine jk_iconst (x := 5) K dX2_addHill_16 rfl ?_
  refine jk_cSvx K (n' := 3) (k' := 18) [.int z, .int 1, .int 5] [] dX2_addHill_17 (hb_X2_requireBetween _ hl E (hb_L E [hb_ob q b1 b2] (hb_LW E b2 C2 G2 M2 ++ Y) b1 C G M) z 1 5) gX2_addHill_X2_requireBetween rfl kd_X2_requireBetween ⟨Nat.le_of_ble_eq_true rfl, Nat.le_of_ble_eq_true rfl⟩ (Nat.le_of_ble_eq_true rfl) ⟨rfl, rfl⟩ ⟨Nat.le_of_ble_eq_true rfl, Nat.le_of_ble_eq_true rfl⟩ rfl (fun Ex hx => jk_out K hzx (Or.inl ⟨hx.1, fun q => hx.2 q.2.2⟩) (Nat.le_of_ble_eq_true rfl) (Nat.le_of_ble_eq_true rfl)) (fun _ hbt17 => ?_)
  refine jk_aload_n K dX2_addHill_20 rfl 0 rfl ?_
  refine jk_get (C := RX2) (T := TX2) (N := 2) (nm := "land") (ds := "LHillBeacons$Land;") (v := .ref (b1 0)) K dX2_addHill_21 hin_RX2 (by decide +kernel) 0 rfl rfl 0 rfl (by decide) rfl ?_
  refine jk_get (C := RX1) (T := TX1) (N := 9) (nm := "count") (ds := "I") (v := .int (G 0)) K dX2_addHill_24 hin_RX1 (by decide +kernel) ([hb_ob q b1 b2].length + 0) hb_L0 rfl 3 rfl (by decide) rfl ?_
  refine jk_bipush (x := (nI 10)) K dX2_addHill_27 rfl ?_
  refine jk_icmp_lt (tgt := 42) K dX2_addHill_29 rfl (fun c_29 => ?_) (fun c_29 => ?_)
  · have hn10 : n < 10 := by rw [hg] at c_29; exact (nI_ltI (by omega) (by omega)).mp c_29
    refine jk_aload_n K dX2_addHill_42 rfl 0 rfl ?_
    refine jk_get (C := RX2) (T := TX2) (N := 2) (nm := "land") (ds := "LHillBeacons$Land;") (v := .ref (b1 0)) K dX2_addHill_43 hin_RX2 (by decide +kernel) 0 rfl rfl 0 rfl (by decide) rfl ?_
    refine jk_iload_n K dX2_addHill_46 rfl 1 rfl ?_
    refine jk_iload_n K dX2_addHill_47 rfl 2 rfl ?_
    refine jk_iload_n K dX2_addHill_48 rfl 3 rfl ?_
    refine jk_cVi K (n' := 3) (k' := 18) [.int x, .int y, .int z] [] dX2_addHill_49 (hb_X1_settle _ hl E [hb_ob q b1 b2] (hb_LW E b2 C2 G2 M2 ++ Y) b1 C G M x y z n hn10 hg) gX2_addHill_X1_settle rfl kd_X1_settle ⟨Nat.le_of_ble_eq_true rfl, Nat.le_of_ble_eq_true rfl⟩ ([hb_ob q b1 b2].length + 0) hb_L0 rfl (Nat.le_of_ble_eq_true rfl) ⟨rfl, rfl⟩ ⟨Nat.le_of_ble_eq_true rfl, Nat.le_of_ble_eq_true rfl⟩ rfl (fun _ _ => ?_)
    exact jk_iret K hz dX2_addHill_52 () rfl ⟨hbt4, hbt11, hbt17, hn10⟩ rfl rfl (Nat.le_of_ble_eq_true rfl) (Nat.le_of_ble_eq_true rfl)
  · have hn10 : n = 10 := by rw [hg] at c_29; have h9 : ¬ n < 10 := fun q => c_29 (nI_lt q (by omega)); omega
    exact jk_throw K hzx (cls := "java/lang/IllegalStateException") (text := "there is no room for another hill") (Or.inr ⟨rfl, ⟨hbt4, hbt11, hbt17⟩, hn10⟩) (by decide) (by decide) dX2_addHill_32 dX2_addHill_35 dX2_addHill_36 dX2_addHill_38 dX2_addHill_41 ⟨rfl, rfl, rfl, rfl⟩ (by decide +kernel) (by decide +kernel) (by decide +kernel) (by decide +kernel) (by decide +kernel) (by decide +kernel) ⟨(Nat.le_of_ble_eq_true rfl), (Nat.le_of_ble_eq_true rfl)⟩ (Nat.le_of_ble_eq_true rfl) (Nat.le_of_ble_eq_true rfl)
set_option maxHeartbeats 4000000 in
set_option maxRecDepth 100000 in
theorem hb_X2_passMinutes (l : Launch) (hl : l.stackTraces = false) (E : jk_T) (q : Nat) (b1 b2 : Nat → Nat) (Y : va_W) (C : Nat → Nat → Int32) (G M : Nat → Int32) (C2 : Nat → Nat → Int32) (G2 M2 : Nat → Int32) (n : Nat) (hn : n ≤ 10) (hg : G 0 = nI n) (x : Int32) : jk_Cx l yX2_passMinutes wsX2_passMinutes ({ frames := 7, cells := 1, slots := 6, locals := 135 } : Room) [.ref q, .int x] E (hb_v1 E q b1 b2 Y C G M C2 G2 M2) (fun m : Nat => some (.int ((hb_pm C G M n m).2 4 - G 4))) (fun m => (hb_v1 E q b1 b2 Y (hb_pm C G M n m).1 (hb_pm C G M n m).2 M C2 G2 M2)) (fun m => 1 ≤ m ∧ m ≤ 100 ∧ x = nI m) (fun Ex => Ex = "java/lang/IllegalArgumentException" ∧ ¬ hb_bt x 1 100) := by
  refine jk_ofx (lv := [(0, .ref q), (1, .int x)]) (own := RX2) (nm := "passMinutes") hl (by decide +kernel) rfl (Nat.le_of_ble_eq_true rfl) rfl rfl rfl (fun Γ hΓ K hnm hz hzx => ?_)
  subst hΓ
  have hin_RX1 : ∀ w ∈ u_ws RX1 TX1 9, w ∈ wsX2_passMinutes := by decide +kernel
  have hin_RX2 : ∀ w ∈ u_ws RX2 TX2 2, w ∈ wsX2_passMinutes := by decide +kernel
  refine jk_iload_n K dX2_passMinutes_0 rfl 1 rfl ?_
  refine jk_iconst (x := 1) K dX2_passMinutes_1 rfl ?_
  refine jk_bipush (x := 100) K dX2_passMinutes_2 rfl ?_
  refine jk_cSvx K (n' := 1) (k' := 6) [.int x, .int 1, .int 100] [] dX2_passMinutes_4 (hb_X2_requireBetween _ hl E (hb_L E [hb_ob q b1 b2] (hb_LW E b2 C2 G2 M2 ++ Y) b1 C G M) x 1 100) gX2_passMinutes_X2_requireBetween rfl kd_X2_requireBetween ⟨Nat.le_of_ble_eq_true rfl, Nat.le_of_ble_eq_true rfl⟩ (Nat.le_of_ble_eq_true rfl) ⟨rfl, rfl⟩ ⟨Nat.le_of_ble_eq_true rfl, Nat.le_of_ble_eq_true rfl⟩ rfl (fun Ex hx => jk_out K hzx hx (Nat.le_of_ble_eq_true rfl) (Nat.le_of_ble_eq_true rfl)) (fun _ hbt4 => ?_)
  obtain ⟨m, hm1, hm, rfl⟩ := hb_bt_nat (lo := 1) (hi := 100) (by decide) (by decide) hbt4
  refine jk_aload_n K dX2_passMinutes_7 rfl 0 rfl ?_
  refine jk_get (C := RX2) (T := TX2) (N := 2) (nm := "land") (ds := "LHillBeacons$Land;") (v := .ref (b1 0)) K dX2_passMinutes_8 hin_RX2 (by decide +kernel) 0 rfl rfl 0 rfl (by decide) rfl ?_
  refine jk_get (C := RX1) (T := TX1) (N := 9) (nm := "lit") (ds := "I") (v := .int (G 4)) K dX2_passMinutes_11 hin_RX1 (by decide +kernel) ([hb_ob q b1 b2].length + 0) hb_L0 rfl 7 rfl (by decide) rfl ?_
  refine jk_istore_n (lv' := [(2, .int (G 4)), (0, .ref q), (1, .int (nI m))]) K dX2_passMinutes_14 rfl (by decide) rfl ?_
  refine jk_aload_n K dX2_passMinutes_15 rfl 1 rfl ?_
  refine jk_get (C := RX2) (T := TX2) (N := 2) (nm := "land") (ds := "LHillBeacons$Land;") (v := .ref (b1 0)) K dX2_passMinutes_16 hin_RX2 (by decide +kernel) 0 rfl rfl 0 rfl (by decide) rfl ?_
  refine jk_iload_n K dX2_passMinutes_19 rfl 2 rfl ?_
  refine jk_cVv K (n' := 1) (k' := 6) [.int (nI m)] [] dX2_passMinutes_20 (hb_X1_passMany _ hl E [hb_ob q b1 b2] (hb_LW E b2 C2 G2 M2 ++ Y) b1 C G M n hn hg m (by omega)) gX2_passMinutes_X1_passMany rfl kd_X1_passMany ⟨Nat.le_of_ble_eq_true rfl, Nat.le_of_ble_eq_true rfl⟩ ([hb_ob q b1 b2].length + 0) hb_L0 rfl (Nat.le_of_ble_eq_true rfl) ⟨rfl, rfl⟩ ⟨Nat.le_of_ble_eq_true rfl, Nat.le_of_ble_eq_true rfl⟩ rfl (fun _ _ => ?_)
  refine jk_aload_n K dX2_passMinutes_23 rfl 1 rfl ?_
  refine jk_get (C := RX2) (T := TX2) (N := 2) (nm := "land") (ds := "LHillBeacons$Land;") (v := .ref (b1 0)) K dX2_passMinutes_24 hin_RX2 (by decide +kernel) 0 rfl rfl 0 rfl (by decide) rfl ?_
  refine jk_get (C := RX1) (T := TX1) (N := 9) (nm := "lit") (ds := "I") (v := .int ((hb_pm C G M n m).2 4)) K dX2_passMinutes_27 hin_RX1 (by decide +kernel) ([hb_ob q b1 b2].length + 0) hb_L0 rfl 7 rfl (by decide) rfl ?_
  refine jk_iload_n K dX2_passMinutes_30 rfl 0 rfl ?_
  refine jk_isub K dX2_passMinutes_31 ?_
  exact jk_iret K hz dX2_passMinutes_32 m rfl ⟨hm1, hm, rfl⟩ rfl rfl (Nat.le_of_ble_eq_true rfl) (Nat.le_of_ble_eq_true rfl)
set_option maxHeartbeats 4000000 in
set_option maxRecDepth 100000 in
theorem hb_X2_meanWood (l : Launch) (hl : l.stackTraces = false) (E : jk_T) (q : Nat) (b1 b2 : Nat → Nat) (Y : va_W) (C : Nat → Nat → Int32) (G M : Nat → Int32) (C2 : Nat → Nat → Int32) (G2 M2 : Nat → Int32) (n : Nat) (hn : n ≤ 10) (hg : G 0 = nI n) (hv : 0 < G 0 → vf_n64 (FP.ddiv (FP.i2d (hb_wood C n)) (FP.i2d (G 0)))) : jk_fn l yX2_meanWood wsX2_meanWood ({ frames := 2, cells := 0, slots := 0, locals := 44 } : Room) [.ref q] E (hb_v1 E q b1 b2 Y C G M C2 G2 M2) (some (.double (hb_mean C G n))) (hb_v1 E q b1 b2 Y C G M C2 G2 M2) := by
  refine jk_of (lv := [(0, .ref q)]) (own := RX2) (nm := "meanWood") hl (by decide +kernel) rfl (Nat.le_of_ble_eq_true rfl) rfl rfl rfl (fun Γ hΓ K hnm hz => ?_)
  subst hΓ
  have hin_RX1 : ∀ w ∈ u_ws RX1 TX1 9, w ∈ wsX2_meanWood := by decide +kernel
  have hin_RX2 : ∀ w ∈ u_ws RX2 TX2 2, w ∈ wsX2_meanWood := by decide +kernel
  refine jk_aload_n K dX2_meanWood_0 rfl 0 rfl ?_
  refine jk_get (C := RX2) (T := TX2) (N := 2) (nm := "land") (ds := "LHillBeacons$Land;") (v := .ref (b1 0)) K dX2_meanWood_1 hin_RX2 (by decide +kernel) 0 rfl rfl 0 rfl (by decide) rfl ?_
  refine jk_get (C := RX1) (T := TX1) (N := 9) (nm := "count") (ds := "I") (v := .int (G 0)) K dX2_meanWood_4 hin_RX1 (by decide +kernel) ([hb_ob q b1 b2].length + 0) hb_L0 rfl 3 rfl (by decide) rfl ?_
  refine jk_if_gt (tgt := 12) K dX2_meanWood_7 rfl (fun c_7 => ?_) (fun c_7 => ?_)
  · refine jk_aload_n K dX2_meanWood_12 rfl 0 rfl ?_
    refine jk_get (C := RX2) (T := TX2) (N := 2) (nm := "land") (ds := "LHillBeacons$Land;") (v := .ref (b1 0)) K dX2_meanWood_13 hin_RX2 (by decide +kernel) 0 rfl rfl 0 rfl (by decide) rfl ?_
    refine jk_cVi K (n' := 0) (k' := 0) [] [] dX2_meanWood_16 (hb_X1_sumWood _ hl E [hb_ob q b1 b2] (hb_LW E b2 C2 G2 M2 ++ Y) b1 C G M n hn hg) gX2_meanWood_X1_sumWood rfl kd_X1_sumWood ⟨Nat.le_of_ble_eq_true rfl, Nat.le_of_ble_eq_true rfl⟩ ([hb_ob q b1 b2].length + 0) hb_L0 rfl (Nat.le_of_ble_eq_true rfl) ⟨rfl, rfl⟩ ⟨Nat.le_of_ble_eq_true rfl, Nat.le_of_ble_eq_true rfl⟩ rfl (fun _ _ => ?_)
    refine jk_i2d K dX2_meanWood_19 ?_
    refine jk_aload_n K dX2_meanWood_20 rfl 0 rfl ?_
    refine jk_get (C := RX2) (T := TX2) (N := 2) (nm := "land") (ds := "LHillBeacons$Land;") (v := .ref (b1 0)) K dX2_meanWood_21 hin_RX2 (by decide +kernel) 0 rfl rfl 0 rfl (by decide) rfl ?_
    refine jk_get (C := RX1) (T := TX1) (N := 9) (nm := "count") (ds := "I") (v := .int (G 0)) K dX2_meanWood_24 hin_RX1 (by decide +kernel) ([hb_ob q b1 b2].length + 0) hb_L0 rfl 3 rfl (by decide) rfl ?_
    refine jk_i2d K dX2_meanWood_27 ?_
    refine jk_ddiv K dX2_meanWood_28 (hv c_7) ?_
    exact jk_dret K hz dX2_meanWood_29 () (by unfold hb_mean; rw [if_pos c_7]) trivial rfl (Nat.le_of_ble_eq_true rfl) (Nat.le_of_ble_eq_true rfl)
  · refine jk_dconst0 K dX2_meanWood_10 ?_
    exact jk_dret K hz dX2_meanWood_11 () (by unfold hb_mean; rw [if_neg c_7]) trivial rfl (Nat.le_of_ble_eq_true rfl) (Nat.le_of_ble_eq_true rfl)
