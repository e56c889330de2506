theorem kd_X1_countBurning : yX1_countBurning.cls = RX1 ∧ yX1_countBurning.cls ≠ "java/lang/invoke/MethodHandle" ∧ yX1_countBurning.cls ≠ "java/lang/invoke/VarHandle" ∧ (parseMethodDescriptor yX1_countBurning.desc).map (fun d => d.parameters.length) = some 0 := by decide +kernel
theorem kd_X1_kindleByHand : yX1_kindleByHand.cls = RX1 ∧ yX1_kindleByHand.cls ≠ "java/lang/invoke/MethodHandle" ∧ yX1_kindleByHand.cls ≠ "java/lang/invoke/VarHandle" ∧ (parseMethodDescriptor yX1_kindleByHand.desc).map (fun d => d.parameters.length) = some 1 := by decide +kernel
theorem kd_X2_alight : yX2_alight.cls = RX2 ∧ yX2_alight.cls ≠ "java/lang/invoke/MethodHandle" ∧ yX2_alight.cls ≠ "java/lang/invoke/VarHandle" ∧ (parseMethodDescriptor yX2_alight.desc).map (fun d => d.parameters.length) = some 1 := by decide +kernel
theorem kd_X2_existing : yX2_existing.cls = RX2 ∧ yX2_existing.cls ≠ "java/lang/invoke/MethodHandle" ∧ yX2_existing.cls ≠ "java/lang/invoke/VarHandle" ∧ (parseMethodDescriptor yX2_existing.desc).map (fun d => d.parameters.length) = some 1 := by decide +kernel
theorem kd_X2_requireBetween : yX2_requireBetween.cls ≠ "java/lang/invoke/MethodHandle" ∧ yX2_requireBetween.cls ≠ "java/lang/invoke/VarHandle" ∧ (parseMethodDescriptor yX2_requireBetween.desc).map (fun d => d.parameters.length) = some 3 := by decide +kernel
theorem kd_X2_requireHill : yX2_requireHill.cls = RX2 ∧ yX2_requireHill.cls ≠ "java/lang/invoke/MethodHandle" ∧ yX2_requireHill.cls ≠ "java/lang/invoke/VarHandle" ∧ (parseMethodDescriptor yX2_requireHill.desc).map (fun d => d.parameters.length) = some 1 := by decide +kernel
theorem kd_X2_requireReady : yX2_requireReady.cls = RX2 ∧ yX2_requireReady.cls ≠ "java/lang/invoke/MethodHandle" ∧ yX2_requireReady.cls ≠ "java/lang/invoke/VarHandle" ∧ (parseMethodDescriptor yX2_requireReady.desc).map (fun d => d.parameters.length) = some 1 := by decide +kernel
set_option maxHeartbeats 4000000 in
set_option maxRecDepth 100000 in
theorem hb_X2_requireBetween (l : Launch) (hl : l.stackTraces = false) (E : jk_T) (ws : va_W) (x lo hi : Int32) : jk_Cx l yX2_requireBetween wsX2_requireBetween ({ frames := 6, cells := 1, slots := 6, locals := 90 } : Room) [.int x, .int lo, .int hi] E ws (fun _ : Unit => none) (fun _ => ws) (fun _ => hb_bt x lo hi) (fun Ex => Ex = "java/lang/IllegalArgumentException" ∧ ¬ hb_bt x lo hi) := by
  refine jk_ofx (lv := [(0, .int x), (1, .int lo), (2, .int hi)]) (own := RX2) (nm := "requireBetween") hl (by decide +kernel) rfl (Nat.le_of_ble_eq_true rfl) rfl rfl rfl (fun Γ hΓ K hnm hz hzx => ?_)
  subst hΓ
  refine jk_iload_n K dX2_requireBetween_0 rfl 0 rfl ?_
  refine jk_iload_n K dX2_requireBetween_1 rfl 1 rfl ?_
  refine jk_icmp_lt (tgt := 10) K dX2_requireBetween_2 rfl (fun c_2 => ?_) (fun c_2 => ?_)
  · exact jk_throw K hzx (cls := "java/lang/IllegalArgumentException") (text := "a number is outside its bounds") ⟨rfl, fun q => q.1 c_2⟩ (by decide) (by decide) dX2_requireBetween_10 dX2_requireBetween_13 dX2_requireBetween_14 dX2_requireBetween_16 dX2_requireBetween_19 ⟨rfl, rfl, rfl, rfl⟩ (by decide +kernel) (by decide +kernel) (by decide +kernel) (by decide +kernel) (by decide +kernel) (by decide +kernel) ⟨(Nat.le_of_ble_eq_true rfl), (Nat.le_of_ble_eq_true rfl)⟩ (Nat.le_of_ble_eq_true rfl) (Nat.le_of_ble_eq_true rfl)
  · refine jk_iload_n K dX2_requireBetween_5 rfl 0 rfl ?_
    refine jk_iload_n K dX2_requireBetween_6 rfl 2 rfl ?_
    refine jk_icmp_le (tgt := 20) K dX2_requireBetween_7 rfl (fun c_7 => ?_) (fun c_7 => ?_)
    · exact jk_vret K hz dX2_requireBetween_20 () rfl ⟨c_2, Int32.not_lt.mpr c_7⟩ rfl (Nat.le_of_ble_eq_true rfl) (Nat.le_of_ble_eq_true rfl)
    · exact jk_throw K hzx (cls := "java/lang/IllegalArgumentException") (text := "a number is outside its bounds") ⟨rfl, fun q => c_7 (Int32.not_lt.mp q.2)⟩ (by decide) (by decide) dX2_requireBetween_10 dX2_requireBetween_13 dX2_requireBetween_14 dX2_requireBetween_16 dX2_requireBetween_19 ⟨rfl, rfl, rfl, rfl⟩ (by decide +kernel) (by decide +kernel) (by decide +kernel) (by decide +kernel) (by decide +kernel) (by decide +kernel) ⟨(Nat.le_of_ble_eq_true rfl), (Nat.le_of_ble_eq_true rfl)⟩ (Nat.le_of_ble_eq_true rfl) (Nat.le_of_ble_eq_true rfl)
set_option maxHeartbeats 4000000 in
set_option maxRecDepth 100000 in
theorem hb_X2_requireHill (l : Launch) (hl : l.stackTraces = false) (E : jk_T) (q : Nat) (b1 b2 : Nat → Nat) (Y : va_W) (C : Nat → Nat → Int32) (G M : Nat → Int32) (C2 : Nat → Nat → Int32) (G2 M2 : Nat → Int32) (n : Nat) (hn : n ≤ 10) (hg : G 0 = nI n) (x : Int32) : jk_Cx l yX2_requireHill wsX2_requireHill ({ frames := 6, cells := 1, slots := 6, locals := 90 } : Room) [.ref q, .int x] E (hb_v1 E q b1 b2 Y C G M C2 G2 M2) (fun i : Nat => none) (fun _ => (hb_v1 E q b1 b2 Y C G M C2 G2 M2)) (fun i => i < n ∧ x = nI i) (fun Ex => Ex = "java/lang/IndexOutOfBoundsException" ∧ ¬ hb_ok n x) := by
  refine jk_ofx (lv := [(0, .ref q), (1, .int x)]) (own := RX2) (nm := "requireHill") hl (by decide +kernel) rfl (Nat.le_of_ble_eq_true rfl) rfl rfl rfl (fun Γ hΓ K hnm hz hzx => ?_)
  subst hΓ
  have hin_RX1 : ∀ w ∈ u_ws RX1 TX1 9, w ∈ wsX2_requireHill := by decide +kernel
  have hin_RX2 : ∀ w ∈ u_ws RX2 TX2 2, w ∈ wsX2_requireHill := by decide +kernel
  refine jk_iload_n K dX2_requireHill_0 rfl 1 rfl ?_
  refine jk_if_lt (tgt := 15) K dX2_requireHill_1 rfl (fun c_1 => ?_) (fun c_1 => ?_)
  · exact jk_throw K hzx (cls := "java/lang/IndexOutOfBoundsException") (text := "there is no such hill") ⟨rfl, hb_no1 hn c_1⟩ (by decide) (by decide) dX2_requireHill_15 dX2_requireHill_18 dX2_requireHill_19 dX2_requireHill_21 dX2_requireHill_24 ⟨rfl, rfl, rfl, rfl⟩ (by decide +kernel) (by decide +kernel) (by decide +kernel) (by decide +kernel) (by decide +kernel) (by decide +kernel) ⟨(Nat.le_of_ble_eq_true rfl), (Nat.le_of_ble_eq_true rfl)⟩ (Nat.le_of_ble_eq_true rfl) (Nat.le_of_ble_eq_true rfl)
  · refine jk_iload_n K dX2_requireHill_4 rfl 1 rfl ?_
    refine jk_aload_n K dX2_requireHill_5 rfl 0 rfl ?_
    refine jk_get (C := RX2) (T := TX2) (N := 2) (nm := "land") (ds := "LHillBeacons$Land;") (v := .ref (b1 0)) K dX2_requireHill_6 hin_RX2 (by decide +kernel) 0 rfl rfl 0 rfl (by decide) rfl ?_
    refine jk_get (C := RX1) (T := TX1) (N := 9) (nm := "count") (ds := "I") (v := .int (G 0)) K dX2_requireHill_9 hin_RX1 (by decide +kernel) ([hb_ob q b1 b2].length + 0) hb_L0 rfl 3 rfl (by decide) rfl ?_
    refine jk_icmp_lt (tgt := 25) K dX2_requireHill_12 rfl (fun c_12 => ?_) (fun c_12 => ?_)
    · obtain ⟨i, hi, hix⟩ := hb_ok_of hg hn c_1 c_12
      exact jk_vret K hz dX2_requireHill_25 i rfl ⟨hi, hix⟩ rfl (Nat.le_of_ble_eq_true rfl) (Nat.le_of_ble_eq_true rfl)
    · exact jk_throw K hzx (cls := "java/lang/IndexOutOfBoundsException") (text := "there is no such hill") ⟨rfl, hb_no2 hg hn c_12⟩ (by decide) (by decide) dX2_requireHill_15 dX2_requireHill_18 dX2_requireHill_19 dX2_requireHill_21 dX2_requireHill_24 ⟨rfl, rfl, rfl, rfl⟩ (by decide +kernel) (by decide +kernel) (by decide +kernel) (by decide +kernel) (by decide +kernel) (by decide +kernel) ⟨(Nat.le_of_ble_eq_true rfl), (Nat.le_of_ble_eq_true rfl)⟩ (Nat.le_of_ble_eq_true rfl) (Nat.le_of_ble_eq_true rfl)
set_option maxHeartbeats 4000000 in
set_option maxRecDepth 100000 in
theorem hb_X2_existing (l : Launch) (hl : l.stackTraces = false) (E : jk_T) (q : Nat) (b1 b2 : Nat → Nat) (Y : va_W) (C : Nat → Nat → Int32) (G M : Nat → Int32) (C2 : Nat → Nat → Int32) (G2 M2 : Nat → Int32) (n : Nat) (hn : n ≤ 10) (hg : G 0 = nI n) (x : Int32) : jk_Cx l yX2_existing wsX2_existing ({ frames := 7, cells := 1, slots := 6, locals := 111 } : Room) [.ref q, .int x] E (hb_v1 E q b1 b2 Y C G M C2 G2 M2) (fun i : Nat => some (.ref (b1 (3 + i)))) (fun _ => (hb_v1 E q b1 b2 Y C G M C2 G2 M2)) (fun i => i < n ∧ x = nI i) (fun Ex => Ex = "java/lang/IndexOutOfBoundsException" ∧ ¬ hb_ok n x) := by
  refine jk_ofx (lv := [(0, .ref q), (1, .int x)]) (own := RX2) (nm := "existing") hl (by decide +kernel) rfl (Nat.le_of_ble_eq_true rfl) rfl rfl rfl (fun Γ hΓ K hnm hz hzx => ?_)
  subst hΓ
  have hin_RX2 : ∀ w ∈ u_ws RX2 TX2 2, w ∈ wsX2_existing := by decide +kernel
  refine jk_aload_n K dX2_existing_0 rfl 0 rfl ?_
  refine jk_iload_n K dX2_existing_1 rfl 1 rfl ?_
  refine jk_cVvx K (n' := 1) (k' := 6) [.int x] [] dX2_existing_2 (hb_X2_requireHill _ hl E q b1 b2 Y C G M C2 G2 M2 n hn hg x) gX2_existing_X2_requireHill rfl kd_X2_requireHill ⟨Nat.le_of_ble_eq_true rfl, Nat.le_of_ble_eq_true rfl⟩ 0 rfl rfl (Nat.le_of_ble_eq_true rfl) ⟨rfl, rfl⟩ ⟨Nat.le_of_ble_eq_true rfl, Nat.le_of_ble_eq_true rfl⟩ rfl (fun Ex hx => jk_out K hzx hx (Nat.le_of_ble_eq_true rfl) (Nat.le_of_ble_eq_true rfl)) (fun i hp => ?_)
  obtain ⟨hi, rfl⟩ := hp
  refine jk_aload_n K dX2_existing_5 rfl 0 rfl ?_
  refine jk_get (C := RX2) (T := TX2) (N := 2) (nm := "land") (ds := "LHillBeacons$Land;") (v := .ref (b1 0)) K dX2_existing_6 hin_RX2 (by decide +kernel) 0 rfl rfl 0 rfl (by decide) rfl ?_
  refine jk_iload_n K dX2_existing_9 rfl 1 rfl ?_
  refine jk_cVr K (n' := 1) (k' := 6) [.int (nI i)] [] dX2_existing_10 (hb_X1_hillAt_i _ hl E [hb_ob q b1 b2] (hb_LW E b2 C2 G2 M2 ++ Y) b1 C G M i (Nat.lt_of_lt_of_le hi hn)) gX2_existing_X1_hillAt rfl kd_X1_hillAt ⟨Nat.le_of_ble_eq_true rfl, Nat.le_of_ble_eq_true rfl⟩ ([hb_ob q b1 b2].length + 0) hb_L0 rfl (Nat.le_of_ble_eq_true rfl) ⟨rfl, rfl⟩ ⟨Nat.le_of_ble_eq_true rfl, Nat.le_of_ble_eq_true rfl⟩ rfl (fun _ _ => ?_)
  exact jk_aret K hz dX2_existing_13 i rfl ⟨hi, rfl⟩ rfl ⟨_, rfl⟩ (Nat.le_of_ble_eq_true rfl) (Nat.le_of_ble_eq_true rfl)
set_option maxHeartbeats 4000000 in
set_option maxRecDepth 100000 in
theorem hb_X2_alight (l : Launch) (hl : l.stackTraces = false) (E : jk_T) (q : Nat) (b1 b2 : Nat → Nat) (Y : va_W) (C : Nat → Nat → Int32) (G M : Nat → Int32) (C2 : Nat → Nat → Int32) (G2 M2 : Nat → Int32) (n : Nat) (hn : n ≤ 10) (hg : G 0 = nI n) (x : Int32) : jk_Cx l yX2_alight wsX2_alight ({ frames := 8, cells := 2, slots := 12, locals := 132 } : Room) [.ref q, .int x] E (hb_v1 E q b1 b2 Y C G M C2 G2 M2) (fun i : Nat => some (.ref (b1 (3 + i)))) (fun _ => (hb_v1 E q b1 b2 Y C G M C2 G2 M2)) (fun i => i < n ∧ x = nI i ∧ ¬ C i 5 = 0) (fun Ex => (Ex = "java/lang/IndexOutOfBoundsException" ∧ ¬ hb_ok n x) ∨ (Ex = "java/lang/IllegalStateException" ∧ ∃ i, i < n ∧ x = nI i ∧ C i 5 = 0)) := by
  refine jk_ofx (lv := [(0, .ref q), (1, .int x)]) (own := RX2) (nm := "alight") hl (by decide +kernel) rfl (Nat.le_of_ble_eq_true rfl) rfl rfl rfl (fun Γ hΓ K hnm hz hzx => ?_)
  subst hΓ
  have hin_RX0 : ∀ w ∈ u_ws RX0 TX0 11, w ∈ wsX2_alight := by decide +kernel
  refine jk_aload_n K dX2_alight_0 rfl 0 rfl ?_
  refine jk_iload_n K dX2_alight_1 rfl 1 rfl ?_
  refine jk_cVrx K (n' := 1) (k' := 6) [.int x] [] dX2_alight_2 (hb_X2_existing _ hl E q b1 b2 Y C G M C2 G2 M2 n hn hg x) gX2_alight_X2_existing rfl kd_X2_existing ⟨Nat.le_of_ble_eq_true rfl, Nat.le_of_ble_eq_true rfl⟩ 0 rfl rfl (Nat.le_of_ble_eq_true rfl) ⟨rfl, rfl⟩ ⟨Nat.le_of_ble_eq_true rfl, Nat.le_of_ble_eq_true rfl⟩ rfl (fun Ex hx => jk_out K hzx (Or.inl hx) (Nat.le_of_ble_eq_true rfl) (Nat.le_of_ble_eq_true rfl)) (fun i hp => ?_)
  obtain ⟨hi, rfl⟩ := hp
  refine jk_astore_n (lv' := [(2, .ref (b1 (3 + i))), (0, .ref q), (1, .int (nI i))]) K dX2_alight_5 rfl (by decide) rfl ?_
  refine jk_aload_n K dX2_alight_6 rfl 0 rfl ?_
  refine jk_get (C := RX0) (T := TX0) (N := 11) (nm := "fire") (ds := "I") (v := .int ((C i) 5)) K dX2_alight_7 hin_RX0 (by decide +kernel) ([hb_ob q b1 b2].length + (3 + i)) (hb_Lh (Nat.le_of_lt (Nat.lt_of_lt_of_le hi hn))) rfl 5 rfl (by decide) rfl ?_
  refine jk_if_ne (tgt := 23) K dX2_alight_10 rfl (fun c_10 => ?_) (fun c_10 => ?_)
  · refine jk_aload_n K dX2_alight_23 rfl 0 rfl ?_
    exact jk_aret K hz dX2_alight_24 i rfl ⟨hi, rfl, c_10⟩ rfl ⟨_, rfl⟩ (Nat.le_of_ble_eq_true rfl) (Nat.le_of_ble_eq_true rfl)
  · exact jk_throw K hzx (cls := "java/lang/IllegalStateException") (text := "the hill is dark") (Or.inr ⟨rfl, i, hi, rfl, c_10⟩) (by decide) (by decide) dX2_alight_13 dX2_alight_16 dX2_alight_17 dX2_alight_19 dX2_alight_22 ⟨rfl, rfl, rfl, rfl⟩ (by decide +kernel) (by decide +kernel) (by decide +kernel) (by decide +kernel) (by decide +kernel) (by decide +kernel) ⟨(Nat.le_of_ble_eq_true rfl), (Nat.le_of_ble_eq_true rfl)⟩ (Nat.le_of_ble_eq_true rfl) (Nat.le_of_ble_eq_true rfl)
set_option maxHeartbeats 4000000 in
set_option maxRecDepth 100000 in
theorem hb_X2_requireReady (l : Launch) (hl : l.stackTraces = false) (E : jk_T) (q : Nat) (b1 b2 : Nat → Nat) (Y : va_W) (C : Nat → Nat → Int32) (G M : Nat → Int32) (C2 : Nat → Nat → Int32) (G2 M2 : Nat → Int32) (n : Nat) (hn : n ≤ 10) (hg : G 0 = nI n) (x : Int32) : jk_Cx l yX2_requireReady wsX2_requireReady ({ frames := 8, cells := 2, slots := 12, locals := 132 } : Room) [.ref q, .int x] E (hb_v1 E q b1 b2 Y C G M C2 G2 M2) (fun i : Nat => none) (fun _ => (hb_v1 E q b1 b2 Y C G M C2 G2 M2)) (fun i => i < n ∧ x = nI i ∧ ¬ hb_rdy (C i) = 0) (fun Ex => (Ex = "java/lang/IndexOutOfBoundsException" ∧ ¬ hb_ok n x) ∨ (Ex = "java/lang/IllegalStateException" ∧ ∃ i, i < n ∧ x = nI i ∧ hb_rdy (C i) = 0)) := by
  refine jk_ofx (lv := [(0, .ref q), (1, .int x)]) (own := RX2) (nm := "requireReady") hl (by decide +kernel) rfl (Nat.le_of_ble_eq_true rfl) rfl rfl rfl (fun Γ hΓ K hnm hz hzx => ?_)
  subst hΓ
  refine jk_aload_n K dX2_requireReady_0 rfl 0 rfl ?_
  refine jk_iload_n K dX2_requireReady_1 rfl 1 rfl ?_
  refine jk_cVrx K (n' := 1) (k' := 6) [.int x] [] dX2_requireReady_2 (hb_X2_existing _ hl E q b1 b2 Y C G M C2 G2 M2 n hn hg x) gX2_requireReady_X2_existing rfl kd_X2_existing ⟨Nat.le_of_ble_eq_true rfl, Nat.le_of_ble_eq_true rfl⟩ 0 rfl rfl (Nat.le_of_ble_eq_true rfl) ⟨rfl, rfl⟩ ⟨Nat.le_of_ble_eq_true rfl, Nat.le_of_ble_eq_true rfl⟩ rfl (fun Ex hx => jk_out K hzx (Or.inl hx) (Nat.le_of_ble_eq_true rfl) (Nat.le_of_ble_eq_true rfl)) (fun i hp => ?_)
  obtain ⟨hi, rfl⟩ := hp
  refine jk_cVi K (n' := 1) (k' := 6) [] [] dX2_requireReady_5 (hb_X0_isReady _ hl E (hb_L E [hb_ob q b1 b2] (hb_LW E b2 C2 G2 M2 ++ Y) b1 C G M) ([hb_ob q b1 b2].length + (3 + i)) (b1 (3 + i)) (C i) (hb_Lh (Nat.le_of_lt (Nat.lt_of_lt_of_le hi hn)))) gX2_requireReady_X0_isReady rfl kd_X0_isReady ⟨Nat.le_of_ble_eq_true rfl, Nat.le_of_ble_eq_true rfl⟩ ([hb_ob q b1 b2].length + (3 + i)) (hb_Lh (Nat.le_of_lt (Nat.lt_of_lt_of_le hi hn))) rfl (Nat.le_of_ble_eq_true rfl) ⟨rfl, rfl⟩ ⟨Nat.le_of_ble_eq_true rfl, Nat.le_of_ble_eq_true rfl⟩ rfl (fun _ _ => ?_)
  refine jk_if_ne (tgt := 21) K dX2_requireReady_8 rfl (fun c_8 => ?_) (fun c_8 => ?_)
  · exact jk_vret K hz dX2_requireReady_21 i rfl ⟨hi, rfl, c_8⟩ rfl (Nat.le_of_ble_eq_true rfl) (Nat.le_of_ble_eq_true rfl)
  · exact jk_throw K hzx (cls := "java/lang/IllegalStateException") (text := "the hill is not dark, or has no wood") (Or.inr ⟨rfl, i, hi, rfl, c_8⟩) (by decide) (by decide) dX2_requireReady_11 dX2_requireReady_14 dX2_requireReady_15 dX2_requireReady_17 dX2_requireReady_20 ⟨rfl, rfl, rfl, rfl⟩ (by decide +kernel) (by decide +kernel) (by decide +kernel) (by decide +kernel) (by decide +kernel) (by decide +kernel) ⟨(Nat.le_of_ble_eq_true rfl), (Nat.le_of_ble_eq_true rfl)⟩ (Nat.le_of_ble_eq_true rfl) (Nat.le_of_ble_eq_true rfl)
set_option maxHeartbeats 4000000 in
set_option maxRecDepth 100000 in
theorem hb_X2_woodOf (l : Launch) (hl : l.stackTraces = false) (E : jk_T) (q : Nat) (b1 b2 : Nat → Nat) (Y : va_W) (C : Nat → Nat → Int32) (G M : Nat → Int32) (C2 : Nat → Nat → Int32) (G2 M2 : Nat → Int32) (n : Nat) (hn : n ≤ 10) (hg : G 0 = nI n) (x : Int32) : jk_Cx l yX2_woodOf wsX2_woodOf ({ frames := 8, cells := 1, slots := 6, locals := 132 } : Room) [.ref q, .int x] E (hb_v1 E q b1 b2 Y C G M C2 G2 M2) (fun i : Nat => some (.int (C i 0))) (fun _ => (hb_v1 E q b1 b2 Y C G M C2 G2 M2)) (fun i => i < n ∧ x = nI i) (fun Ex => Ex = "java/lang/IndexOutOfBoundsException" ∧ ¬ hb_ok n x) := by
  refine jk_ofx (lv := [(0, .ref q), (1, .int x)]) (own := RX2) (nm := "woodOf") hl (by decide +kernel) rfl (Nat.le_of_ble_eq_true rfl) rfl rfl rfl (fun Γ hΓ K hnm hz hzx => ?_)
  subst hΓ
  have hin_RX0 : ∀ w ∈ u_ws RX0 TX0 11, w ∈ wsX2_woodOf := by decide +kernel
  refine jk_aload_n K dX2_woodOf_0 rfl 0 rfl ?_
  refine jk_iload_n K dX2_woodOf_1 rfl 1 rfl ?_
  refine jk_cVrx K (n' := 1) (k' := 6) [.int x] [] dX2_woodOf_2 (hb_X2_existing _ hl E q b1 b2 Y C G M C2 G2 M2 n hn hg x) gX2_woodOf_X2_existing rfl kd_X2_existing ⟨Nat.le_of_ble_eq_true rfl, Nat.le_of_ble_eq_true rfl⟩ 0 rfl rfl (Nat.le_of_ble_eq_true rfl) ⟨rfl, rfl⟩ ⟨Nat.le_of_ble_eq_true rfl, Nat.le_of_ble_eq_true rfl⟩ rfl (fun Ex hx => jk_out K hzx hx (Nat.le_of_ble_eq_true rfl) (Nat.le_of_ble_eq_true rfl)) (fun i hp => ?_)
  obtain ⟨hi, rfl⟩ := hp
  refine jk_get (C := RX0) (T := TX0) (N := 11) (nm := "wood") (ds := "I") (v := .int ((C i) 0)) K dX2_woodOf_5 hin_RX0 (by decide +kernel) ([hb_ob q b1 b2].length + (3 + i)) (hb_Lh (Nat.le_of_lt (Nat.lt_of_lt_of_le hi hn))) rfl 0 rfl (by decide) rfl ?_
  exact jk_iret K hz dX2_woodOf_8 i rfl ⟨hi, rfl⟩ rfl rfl (Nat.le_of_ble_eq_true rfl) (Nat.le_of_ble_eq_true rfl)
set_option maxHeartbeats 4000000 in
set_option maxRecDepth 100000 in
theorem hb_X2_dampOf (l : Launch) (hl : l.stackTraces = false) (E : jk_T) (q : Nat) (b1 b2 : Nat → Nat) (Y : va_W) (C : Nat → Nat → Int32) (G M : Nat → Int32) (C2 : Nat → Nat → Int32) (G2 M2 : Nat → Int32) (n : Nat) (hn : n ≤ 10) (hg : G 0 = nI n) (x : Int32) : jk_Cx l yX2_dampOf wsX2_dampOf ({ frames := 8, cells := 1, slots := 6, locals := 132 } : Room) [.ref q, .int x] E (hb_v1 E q b1 b2 Y C G M C2 G2 M2) (fun i : Nat => some (.int (C i 1))) (fun _ => (hb_v1 E q b1 b2 Y C G M C2 G2 M2)) (fun i => i < n ∧ x = nI i) (fun Ex => Ex = "java/lang/IndexOutOfBoundsException" ∧ ¬ hb_ok n x) := by
  refine jk_ofx (lv := [(0, .ref q), (1, .int x)]) (own := RX2) (nm := "dampOf") hl (by decide +kernel) rfl (Nat.le_of_ble_eq_true rfl) rfl rfl rfl (fun Γ hΓ K hnm hz hzx => ?_)
  subst hΓ
  have hin_RX0 : ∀ w ∈ u_ws RX0 TX0 11, w ∈ wsX2_dampOf := by decide +kernel
  refine jk_aload_n K dX2_dampOf_0 rfl 0 rfl ?_
  refine jk_iload_n K dX2_dampOf_1 rfl 1 rfl ?_
  refine jk_cVrx K (n' := 1) (k' := 6) [.int x] [] dX2_dampOf_2 (hb_X2_existing _ hl E q b1 b2 Y C G M C2 G2 M2 n hn hg x) gX2_dampOf_X2_existing rfl kd_X2_existing ⟨Nat.le_of_ble_eq_true rfl, Nat.le_of_ble_eq_true rfl⟩ 0 rfl rfl (Nat.le_of_ble_eq_true rfl) ⟨rfl, rfl⟩ ⟨Nat.le_of_ble_eq_true rfl, Nat.le_of_ble_eq_true rfl⟩ rfl (fun Ex hx => jk_out K hzx hx (Nat.le_of_ble_eq_true rfl) (Nat.le_of_ble_eq_true rfl)) (fun i hp => ?_)
  obtain ⟨hi, rfl⟩ := hp
  refine jk_get (C := RX0) (T := TX0) (N := 11) (nm := "damp") (ds := "I") (v := .int ((C i) 1)) K dX2_dampOf_5 hin_RX0 (by decide +kernel) ([hb_ob q b1 b2].length + (3 + i)) (hb_Lh (Nat.le_of_lt (Nat.lt_of_lt_of_le hi hn))) rfl 1 rfl (by decide) rfl ?_
  exact jk_iret K hz dX2_dampOf_8 i rfl ⟨hi, rfl⟩ rfl rfl (Nat.le_of_ble_eq_true rfl) (Nat.le_of_ble_eq_true rfl)
set_option maxHeartbeats 4000000 in
set_option maxRecDepth 100000 in
theorem hb_X2_watchOf (l : Launch) (hl : l.stackTraces = false) (E : jk_T) (q : Nat) (b1 b2 : Nat → Nat) (Y : va_W) (C : Nat → Nat → Int32) (G M : Nat → Int32) (C2 : Nat → Nat → Int32) (G2 M2 : Nat → Int32) (n : Nat) (hn : n ≤ 10) (hg : G 0 = nI n) (x : Int32) : jk_Cx l yX2_watchOf wsX2_watchOf ({ frames := 8, cells := 1, slots := 6, locals := 132 } : Room) [.ref q, .int x] E (hb_v1 E q b1 b2 Y C G M C2 G2 M2) (fun i : Nat => some (.int (C i 2))) (fun _ => (hb_v1 E q b1 b2 Y C G M C2 G2 M2)) (fun i => i < n ∧ x = nI i) (fun Ex => Ex = "java/lang/IndexOutOfBoundsException" ∧ ¬ hb_ok n x) := by
  refine jk_ofx (lv := [(0, .ref q), (1, .int x)]) (own := RX2) (nm := "watchOf") hl (by decide +kernel) rfl (Nat.le_of_ble_eq_true rfl) rfl rfl rfl (fun Γ hΓ K hnm hz hzx => ?_)
  subst hΓ
  have hin_RX0 : ∀ w ∈ u_ws RX0 TX0 11, w ∈ wsX2_watchOf := by decide +kernel
  refine jk_aload_n K dX2_watchOf_0 rfl 0 rfl ?_
  refine jk_iload_n K dX2_watchOf_1 rfl 1 rfl ?_
  refine jk_cVrx K (n' := 1) (k' := 6) [.int x] [] dX2_watchOf_2 (hb_X2_existing _ hl E q b1 b2 Y C G M C2 G2 M2 n hn hg x) gX2_watchOf_X2_existing rfl kd_X2_existing ⟨Nat.le_of_ble_eq_true rfl, Nat.le_of_ble_eq_true rfl⟩ 0 rfl rfl (Nat.le_of_ble_eq_true rfl) ⟨rfl, rfl⟩ ⟨Nat.le_of_ble_eq_true rfl, Nat.le_of_ble_eq_true rfl⟩ rfl (fun Ex hx => jk_out K hzx hx (Nat.le_of_ble_eq_true rfl) (Nat.le_of_ble_eq_true rfl)) (fun i hp => ?_)
  obtain ⟨hi, rfl⟩ := hp
  refine jk_get (C := RX0) (T := TX0) (N := 11) (nm := "watch") (ds := "I") (v := .int ((C i) 2)) K dX2_watchOf_5 hin_RX0 (by decide +kernel) ([hb_ob q b1 b2].length + (3 + i)) (hb_Lh (Nat.le_of_lt (Nat.lt_of_lt_of_le hi hn))) rfl 2 rfl (by decide) rfl ?_
  exact jk_iret K hz dX2_watchOf_8 i rfl ⟨hi, rfl⟩ rfl rfl (Nat.le_of_ble_eq_true rfl) (Nat.le_of_ble_eq_true rfl)
set_option maxHeartbeats 4000000 in
set_option maxRecDepth 100000 in
theorem hb_X2_minutesToBurn (l : Launch) (hl : l.stackTraces = false) (E : jk_T) (q : Nat) (b1 b2 : Nat → Nat) (Y : va_W) (C : Nat → Nat → Int32) (G M : Nat → Int32) (C2 : Nat → Nat → Int32) (G2 M2 : Nat → Int32) (n : Nat) (hn : n ≤ 10) (hg : G 0 = nI n) (x : Int32) : jk_Cx l yX2_minutesToBurn wsX2_minutesToBurn ({ frames := 8, cells := 1, slots := 6, locals := 132 } : Room) [.ref q, .int x] E (hb_v1 E q b1 b2 Y C G M C2 G2 M2) (fun i : Nat => some (.int (C i 7))) (fun _ => (hb_v1 E q b1 b2 Y C G M C2 G2 M2)) (fun i => i < n ∧ x = nI i) (fun Ex => Ex = "java/lang/IndexOutOfBoundsException" ∧ ¬ hb_ok n x) := by
  refine jk_ofx (lv := [(0, .ref q), (1, .int x)]) (own := RX2) (nm := "minutesToBurn") hl (by decide +kernel) rfl (Nat.le_of_ble_eq_true rfl) rfl rfl rfl (fun Γ hΓ K hnm hz hzx => ?_)
  subst hΓ
  have hin_RX0 : ∀ w ∈ u_ws RX0 TX0 11, w ∈ wsX2_minutesToBurn := by decide +kernel
  refine jk_aload_n K dX2_minutesToBurn_0 rfl 0 rfl ?_
  refine jk_iload_n K dX2_minutesToBurn_1 rfl 1 rfl ?_
  refine jk_cVrx K (n' := 1) (k' := 6) [.int x] [] dX2_minutesToBurn_2 (hb_X2_existing _ hl E q b1 b2 Y C G M C2 G2 M2 n hn hg x) gX2_minutesToBurn_X2_existing rfl kd_X2_existing ⟨Nat.le_of_ble_eq_true rfl, Nat.le_of_ble_eq_true rfl⟩ 0 rfl rfl (Nat.le_of_ble_eq_true rfl) ⟨rfl, rfl⟩ ⟨Nat.le_of_ble_eq_true rfl, Nat.le_of_ble_eq_true rfl⟩ rfl (fun Ex hx => jk_out K hzx hx (Nat.le_of_ble_eq_true rfl) (Nat.le_of_ble_eq_true rfl)) (fun i hp => ?_)
  obtain ⟨hi, rfl⟩ := hp
  refine jk_get (C := RX0) (T := TX0) (N := 11) (nm := "left") (ds := "I") (v := .int ((C i) 7)) K dX2_minutesToBurn_5 hin_RX0 (by decide +kernel) ([hb_ob q b1 b2].length + (3 + i)) (hb_Lh (Nat.le_of_lt (Nat.lt_of_lt_of_le hi hn))) rfl 7 rfl (by decide) rfl ?_
  exact jk_iret K hz dX2_minutesToBurn_8 i rfl ⟨hi, rfl⟩ rfl rfl (Nat.le_of_ble_eq_true rfl) (Nat.le_of_ble_eq_true rfl)
set_option maxHeartbeats 4000000 in
set_option maxRecDepth 100000 in
theorem hb_X2_lookingFor (l : Launch) (hl : l.stackTraces = false) (E : jk_T) (q : Nat) (b1 b2 : Nat → Nat) (Y : va_W) (C : Nat → Nat → Int32) (G M : Nat → Int32) (C2 : Nat → Nat → Int32) (G2 M2 : Nat → Int32) (n : Nat) (hn : n ≤ 10) (hg : G 0 = nI n) (x : Int32) : jk_Cx l yX2_lookingFor wsX2_lookingFor ({ frames := 8, cells := 1, slots := 6, locals := 132 } : Room) [.ref q, .int x] E (hb_v1 E q b1 b2 Y C G M C2 G2 M2) (fun i : Nat => some (.int (C i 8))) (fun _ => (hb_v1 E q b1 b2 Y C G M C2 G2 M2)) (fun i => i < n ∧ x = nI i) (fun Ex => Ex = "java/lang/IndexOutOfBoundsException" ∧ ¬ hb_ok n x) := by
  refine jk_ofx (lv := [(0, .ref q), (1, .int x)]) (own := RX2) (nm := "lookingFor") hl (by decide +kernel) rfl (Nat.le_of_ble_eq_true rfl) rfl rfl rfl (fun Γ hΓ K hnm hz hzx => ?_)
  subst hΓ
  have hin_RX0 : ∀ w ∈ u_ws RX0 TX0 11, w ∈ wsX2_lookingFor := by decide +kernel
  refine jk_aload_n K dX2_lookingFor_0 rfl 0 rfl ?_
  refine jk_iload_n K dX2_lookingFor_1 rfl 1 rfl ?_
  refine jk_cVrx K (n' := 1) (k' := 6) [.int x] [] dX2_lookingFor_2 (hb_X2_existing _ hl E q b1 b2 Y C G M C2 G2 M2 n hn hg x) gX2_lookingFor_X2_existing rfl kd_X2_existing ⟨Nat.le_of_ble_eq_true rfl, Nat.le_of_ble_eq_true rfl⟩ 0 rfl rfl (Nat.le_of_ble_eq_true rfl) ⟨rfl, rfl⟩ ⟨Nat.le_of_ble_eq_true rfl, Nat.le_of_ble_eq_true rfl⟩ rfl (fun Ex hx => jk_out K hzx hx (Nat.le_of_ble_eq_true rfl) (Nat.le_of_ble_eq_true rfl)) (fun i hp => ?_)
  obtain ⟨hi, rfl⟩ := hp
  refine jk_get (C := RX0) (T := TX0) (N := 11) (nm := "looking") (ds := "I") (v := .int ((C i) 8)) K dX2_lookingFor_5 hin_RX0 (by decide +kernel) ([hb_ob q b1 b2].length + (3 + i)) (hb_Lh (Nat.le_of_lt (Nat.lt_of_lt_of_le hi hn))) rfl 8 rfl (by decide) rfl ?_
  exact jk_iret K hz dX2_lookingFor_8 i rfl ⟨hi, rfl⟩ rfl rfl (Nat.le_of_ble_eq_true rfl) (Nat.le_of_ble_eq_true rfl)
set_option maxHeartbeats 4000000 in
set_option maxRecDepth 100000 in
theorem hb_X2_answersTo (l : Launch) (hl : l.stackTraces = false) (E : jk_T) (q : Nat) (b1 b2 : Nat → Nat) (Y : va_W) (C : Nat → Nat → Int32) (G M : Nat → Int32) (C2 : Nat → Nat → Int32) (G2 M2 : Nat → Int32) (n : Nat) (hn : n ≤ 10) (hg : G 0 = nI n) (x : Int32) : jk_Cx l yX2_answersTo wsX2_answersTo ({ frames := 8, cells := 1, slots := 6, locals := 132 } : Room) [.ref q, .int x] E (hb_v1 E q b1 b2 Y C G M C2 G2 M2) (fun i : Nat => some (.int (C i 10))) (fun _ => (hb_v1 E q b1 b2 Y C G M C2 G2 M2)) (fun i => i < n ∧ x = nI i) (fun Ex => Ex = "java/lang/IndexOutOfBoundsException" ∧ ¬ hb_ok n x) := by
  refine jk_ofx (lv := [(0, .ref q), (1, .int x)]) (own := RX2) (nm := "answersTo") hl (by decide +kernel) rfl (Nat.le_of_ble_eq_true rfl) rfl rfl rfl (fun Γ hΓ K hnm hz hzx => ?_)
  subst hΓ
  have hin_RX0 : ∀ w ∈ u_ws RX0 TX0 11, w ∈ wsX2_answersTo := by decide +kernel
  refine jk_aload_n K dX2_answersTo_0 rfl 0 rfl ?_
  refine jk_iload_n K dX2_answersTo_1 rfl 1 rfl ?_
  refine jk_cVrx K (n' := 1) (k' := 6) [.int x] [] dX2_answersTo_2 (hb_X2_existing _ hl E q b1 b2 Y C G M C2 G2 M2 n hn hg x) gX2_answersTo_X2_existing rfl kd_X2_existing ⟨Nat.le_of_ble_eq_true rfl, Nat.le_of_ble_eq_true rfl⟩ 0 rfl rfl (Nat.le_of_ble_eq_true rfl) ⟨rfl, rfl⟩ ⟨Nat.le_of_ble_eq_true rfl, Nat.le_of_ble_eq_true rfl⟩ rfl (fun Ex hx => jk_out K hzx hx (Nat.le_of_ble_eq_true rfl) (Nat.le_of_ble_eq_true rfl)) (fun i hp => ?_)
  obtain ⟨hi, rfl⟩ := hp
  refine jk_get (C := RX0) (T := TX0) (N := 11) (nm := "answers") (ds := "I") (v := .int ((C i) 10)) K dX2_answersTo_5 hin_RX0 (by decide +kernel) ([hb_ob q b1 b2].length + (3 + i)) (hb_Lh (Nat.le_of_lt (Nat.lt_of_lt_of_le hi hn))) rfl 10 rfl (by decide) rfl ?_
  exact jk_iret K hz dX2_answersTo_8 i rfl ⟨hi, rfl⟩ rfl rfl (Nat.le_of_ble_eq_true rfl) (Nat.le_of_ble_eq_true rfl)
set_option maxHeartbeats 4000000 in
set_option maxRecDepth 100000 in
theorem hb_X2_looksEast (l : Launch) (hl : l.stackTraces = false) (E : jk_T) (q : Nat) (b1 b2 : Nat → Nat) (Y : va_W) (C : Nat → Nat → Int32) (G M : Nat → Int32) (C2 : Nat → Nat → Int32) (G2 M2 : Nat → Int32) (n : Nat) (hn : n ≤ 10) (hg : G 0 = nI n) (x : Int32) : jk_Cx l yX2_looksEast wsX2_looksEast ({ frames := 8, cells := 1, slots := 6, locals := 132 } : Room) [.ref q, .int x] E (hb_v1 E q b1 b2 Y C G M C2 G2 M2) (fun i : Nat => some (.int (hb_zb (C i 3)))) (fun _ => (hb_v1 E q b1 b2 Y C G M C2 G2 M2)) (fun i => i < n ∧ x = nI i) (fun Ex => Ex = "java/lang/IndexOutOfBoundsException" ∧ ¬ hb_ok n x) := by
  refine jk_ofx (lv := [(0, .ref q), (1, .int x)]) (own := RX2) (nm := "looksEast") hl (by decide +kernel) rfl (Nat.le_of_ble_eq_true rfl) rfl rfl rfl (fun Γ hΓ K hnm hz hzx => ?_)
  subst hΓ
  have hin_RX0 : ∀ w ∈ u_ws RX0 TX0 11, w ∈ wsX2_looksEast := by decide +kernel
  refine jk_aload_n K dX2_looksEast_0 rfl 0 rfl ?_
  refine jk_iload_n K dX2_looksEast_1 rfl 1 rfl ?_
  refine jk_cVrx K (n' := 1) (k' := 6) [.int x] [] dX2_looksEast_2 (hb_X2_existing _ hl E q b1 b2 Y C G M C2 G2 M2 n hn hg x) gX2_looksEast_X2_existing rfl kd_X2_existing ⟨Nat.le_of_ble_eq_true rfl, Nat.le_of_ble_eq_true rfl⟩ 0 rfl rfl (Nat.le_of_ble_eq_true rfl) ⟨rfl, rfl⟩ ⟨Nat.le_of_ble_eq_true rfl, Nat.le_of_ble_eq_true rfl⟩ rfl (fun Ex hx => jk_out K hzx hx (Nat.le_of_ble_eq_true rfl) (Nat.le_of_ble_eq_true rfl)) (fun i hp => ?_)
  obtain ⟨hi, rfl⟩ := hp
  refine jk_get (C := RX0) (T := TX0) (N := 11) (nm := "east") (ds := "Z") (v := .int (hb_zb ((C i) 3))) K dX2_looksEast_5 hin_RX0 (by decide +kernel) ([hb_ob q b1 b2].length + (3 + i)) (hb_Lh (Nat.le_of_lt (Nat.lt_of_lt_of_le hi hn))) rfl 3 rfl (by decide) rfl ?_
  exact jk_iret K hz dX2_looksEast_8 i rfl ⟨hi, rfl⟩ rfl (hb_zb_nar _) (Nat.le_of_ble_eq_true rfl) (Nat.le_of_ble_eq_true rfl)
set_option maxHeartbeats 4000000 in
set_option maxRecDepth 100000 in
theorem hb_X2_isPost (l : Launch) (hl : l.stackTraces = false) (E : jk_T) (q : Nat) (b1 b2 : Nat → Nat) (Y : va_W) (C : Nat → Nat → Int32) (G M : Nat → Int32) (C2 : Nat → Nat → Int32) (G2 M2 : Nat → Int32) (n : Nat) (hn : n ≤ 10) (hg : G 0 = nI n) (x : Int32) : jk_Cx l yX2_isPost wsX2_isPost ({ frames := 8, cells := 1, slots := 6, locals := 132 } : Room) [.ref q, .int x] E (hb_v1 E q b1 b2 Y C G M C2 G2 M2) (fun i : Nat => some (.int (hb_zb (C i 4)))) (fun _ => (hb_v1 E q b1 b2 Y C G M C2 G2 M2)) (fun i => i < n ∧ x = nI i) (fun Ex => Ex = "java/lang/IndexOutOfBoundsException" ∧ ¬ hb_ok n x) := by
  refine jk_ofx (lv := [(0, .ref q), (1, .int x)]) (own := RX2) (nm := "isPost") hl (by decide +kernel) rfl (Nat.le_of_ble_eq_true rfl) rfl rfl rfl (fun Γ hΓ K hnm hz hzx => ?_)
  subst hΓ
  have hin_RX0 : ∀ w ∈ u_ws RX0 TX0 11, w ∈ wsX2_isPost := by decide +kernel
  refine jk_aload_n K dX2_isPost_0 rfl 0 rfl ?_
  refine jk_iload_n K dX2_isPost_1 rfl 1 rfl ?_
  refine jk_cVrx K (n' := 1) (k' := 6) [.int x] [] dX2_isPost_2 (hb_X2_existing _ hl E q b1 b2 Y C G M C2 G2 M2 n hn hg x) gX2_isPost_X2_existing rfl kd_X2_existing ⟨Nat.le_of_ble_eq_true rfl, Nat.le_of_ble_eq_true rfl⟩ 0 rfl rfl (Nat.le_of_ble_eq_true rfl) ⟨rfl, rfl⟩ ⟨Nat.le_of_ble_eq_true rfl, Nat.le_of_ble_eq_true rfl⟩ rfl (fun Ex hx => jk_out K hzx hx (Nat.le_of_ble_eq_true rfl) (Nat.le_of_ble_eq_true rfl)) (fun i hp => ?_)
  obtain ⟨hi, rfl⟩ := hp
  refine jk_get (C := RX0) (T := TX0) (N := 11) (nm := "post") (ds := "Z") (v := .int (hb_zb ((C i) 4))) K dX2_isPost_5 hin_RX0 (by decide +kernel) ([hb_ob q b1 b2].length + (3 + i)) (hb_Lh (Nat.le_of_lt (Nat.lt_of_lt_of_le hi hn))) rfl 4 rfl (by decide) rfl ?_
  exact jk_iret K hz dX2_isPost_8 i rfl ⟨hi, rfl⟩ rfl (hb_zb_nar _) (Nat.le_of_ble_eq_true rfl) (Nat.le_of_ble_eq_true rfl)
set_option maxHeartbeats 4000000 in
set_option maxRecDepth 100000 in
theorem hb_X2_isDark (l : Launch) (hl : l.stackTraces = false) (E : jk_T) (q : Nat) (b1 b2 : Nat → Nat) (Y : va_W) (C : Nat → Nat → Int32) (G M : Nat → Int32) (C2 : Nat → Nat → Int32) (G2 M2 : Nat → Int32) (n : Nat) (hn : n ≤ 10) (hg : G 0 = nI n) (x : Int32) : jk_Cx l yX2_isDark wsX2_isDark ({ frames := 8, cells := 1, slots := 6, locals := 132 } : Room) [.ref q, .int x] E (hb_v1 E q b1 b2 Y C G M C2 G2 M2) (fun i : Nat => some (.int (if C i 5 = 0 then 1 else 0))) (fun _ => (hb_v1 E q b1 b2 Y C G M C2 G2 M2)) (fun i => i < n ∧ x = nI i) (fun Ex => Ex = "java/lang/IndexOutOfBoundsException" ∧ ¬ hb_ok n x) := by
  refine jk_ofx (lv := [(0, .ref q), (1, .int x)]) (own := RX2) (nm := "isDark") hl (by decide +kernel) rfl (Nat.le_of_ble_eq_true rfl) rfl rfl rfl (fun Γ hΓ K hnm hz hzx => ?_)
  subst hΓ
  have hin_RX0 : ∀ w ∈ u_ws RX0 TX0 11, w ∈ wsX2_isDark := by decide +kernel
  refine jk_aload_n K dX2_isDark_0 rfl 0 rfl ?_
  refine jk_iload_n K dX2_isDark_1 rfl 1 rfl ?_
  refine jk_cVrx K (n' := 1) (k' := 6) [.int x] [] dX2_isDark_2 (hb_X2_existing _ hl E q b1 b2 Y C G M C2 G2 M2 n hn hg x) gX2_isDark_X2_existing rfl kd_X2_existing ⟨Nat.le_of_ble_eq_true rfl, Nat.le_of_ble_eq_true rfl⟩ 0 rfl rfl (Nat.le_of_ble_eq_true rfl) ⟨rfl, rfl⟩ ⟨Nat.le_of_ble_eq_true rfl, Nat.le_of_ble_eq_true rfl⟩ rfl (fun Ex hx => jk_out K hzx hx (Nat.le_of_ble_eq_true rfl) (Nat.le_of_ble_eq_true rfl)) (fun i hp => ?_)
  obtain ⟨hi, rfl⟩ := hp
  refine jk_get (C := RX0) (T := TX0) (N := 11) (nm := "fire") (ds := "I") (v := .int ((C i) 5)) K dX2_isDark_5 hin_RX0 (by decide +kernel) ([hb_ob q b1 b2].length + (3 + i)) (hb_Lh (Nat.le_of_lt (Nat.lt_of_lt_of_le hi hn))) rfl 5 rfl (by decide) rfl ?_
  refine jk_if_ne (tgt := 15) K dX2_isDark_8 rfl (fun c_8 => ?_) (fun c_8 => ?_)
  · refine jk_iconst (x := 0) K dX2_isDark_15 rfl ?_
    exact jk_iret K hz dX2_isDark_16 i (by show some (Value.int (if _ then _ else _)) = _; rw [if_neg c_8]) ⟨hi, rfl⟩ rfl rfl (Nat.le_of_ble_eq_true rfl) (Nat.le_of_ble_eq_true rfl)
  · refine jk_iconst (x := 1) K dX2_isDark_11 rfl ?_
    refine jk_goto (tgt := 16) K dX2_isDark_12 rfl ?_
    exact jk_iret K hz dX2_isDark_16 i (by show some (Value.int (if _ then _ else _)) = _; rw [if_pos c_8]) ⟨hi, rfl⟩ rfl rfl (Nat.le_of_ble_eq_true rfl) (Nat.le_of_ble_eq_true rfl)
set_option maxHeartbeats 4000000 in
set_option maxRecDepth 100000 in
theorem hb_X2_isBurning (l : Launch) (hl : l.stackTraces = false) (E : jk_T) (q : Nat) (b1 b2 : Nat → Nat) (Y : va_W) (C : Nat → Nat → Int32) (G M : Nat → Int32) (C2 : Nat → Nat → Int32) (G2 M2 : Nat → Int32) (n : Nat) (hn : n ≤ 10) (hg : G 0 = nI n) (x : Int32) : jk_Cx l yX2_isBurning wsX2_isBurning ({ frames := 8, cells := 1, slots := 6, locals := 132 } : Room) [.ref q, .int x] E (hb_v1 E q b1 b2 Y C G M C2 G2 M2) (fun i : Nat => some (.int (if C i 5 = 2 then 1 else 0))) (fun _ => (hb_v1 E q b1 b2 Y C G M C2 G2 M2)) (fun i => i < n ∧ x = nI i) (fun Ex => Ex = "java/lang/IndexOutOfBoundsException" ∧ ¬ hb_ok n x) := by
  refine jk_ofx (lv := [(0, .ref q), (1, .int x)]) (own := RX2) (nm := "isBurning") hl (by decide +kernel) rfl (Nat.le_of_ble_eq_true rfl) rfl rfl rfl (fun Γ hΓ K hnm hz hzx => ?_)
  subst hΓ
  have hin_RX0 : ∀ w ∈ u_ws RX0 TX0 11, w ∈ wsX2_isBurning := by decide +kernel
  refine jk_aload_n K dX2_isBurning_0 rfl 0 rfl ?_
  refine jk_iload_n K dX2_isBurning_1 rfl 1 rfl ?_
  refine jk_cVrx K (n' := 1) (k' := 6) [.int x] [] dX2_isBurning_2 (hb_X2_existing _ hl E q b1 b2 Y C G M C2 G2 M2 n hn hg x) gX2_isBurning_X2_existing rfl kd_X2_existing ⟨Nat.le_of_ble_eq_true rfl, Nat.le_of_ble_eq_true rfl⟩ 0 rfl rfl (Nat.le_of_ble_eq_true rfl) ⟨rfl, rfl⟩ ⟨Nat.le_of_ble_eq_true rfl, Nat.le_of_ble_eq_true rfl⟩ rfl (fun Ex hx => jk_out K hzx hx (Nat.le_of_ble_eq_true rfl) (Nat.le_of_ble_eq_true rfl)) (fun i hp => ?_)
  obtain ⟨hi, rfl⟩ := hp
  refine jk_get (C := RX0) (T := TX0) (N := 11) (nm := "fire") (ds := "I") (v := .int ((C i) 5)) K dX2_isBurning_5 hin_RX0 (by decide +kernel) ([hb_ob q b1 b2].length + (3 + i)) (hb_Lh (Nat.le_of_lt (Nat.lt_of_lt_of_le hi hn))) rfl 5 rfl (by decide) rfl ?_
  refine jk_iconst (x := 2) K dX2_isBurning_8 rfl ?_
  refine jk_icmp_ne (tgt := 16) K dX2_isBurning_9 rfl (fun c_9 => ?_) (fun c_9 => ?_)
  · refine jk_iconst (x := 0) K dX2_isBurning_16 rfl ?_
    exact jk_iret K hz dX2_isBurning_17 i (by show some (Value.int (if _ then _ else _)) = _; rw [if_neg c_9]) ⟨hi, rfl⟩ rfl rfl (Nat.le_of_ble_eq_true rfl) (Nat.le_of_ble_eq_true rfl)
  · refine jk_iconst (x := 1) K dX2_isBurning_12 rfl ?_
    refine jk_goto (tgt := 17) K dX2_isBurning_13 rfl ?_
    exact jk_iret K hz dX2_isBurning_17 i (by show some (Value.int (if _ then _ else _)) = _; rw [if_pos c_9]) ⟨hi, rfl⟩ rfl rfl (Nat.le_of_ble_eq_true rfl) (Nat.le_of_ble_eq_true rfl)
set_option maxHeartbeats 4000000 in
set_option maxRecDepth 100000 in
theorem hb_X2_isMistaken (l : Launch) (hl : l.stackTraces = false) (E : jk_T) (q : Nat) (b1 b2 : Nat → Nat) (Y : va_W) (C : Nat → Nat → Int32) (G M : Nat → Int32) (C2 : Nat → Nat → Int32) (G2 M2 : Nat → Int32) (n : Nat) (hn : n ≤ 10) (hg : G 0 = nI n) (x : Int32) : jk_Cx l yX2_isMistaken wsX2_isMistaken ({ frames := 8, cells := 1, slots := 6, locals := 132 } : Room) [.ref q, .int x] E (hb_v1 E q b1 b2 Y C G M C2 G2 M2) (fun i : Nat => some (.int (if C i 9 = -1 then 1 else 0))) (fun _ => (hb_v1 E q b1 b2 Y C G M C2 G2 M2)) (fun i => i < n ∧ x = nI i) (fun Ex => Ex = "java/lang/IndexOutOfBoundsException" ∧ ¬ hb_ok n x) := by
  refine jk_ofx (lv := [(0, .ref q), (1, .int x)]) (own := RX2) (nm := "isMistaken") hl (by decide +kernel) rfl (Nat.le_of_ble_eq_true rfl) rfl rfl rfl (fun Γ hΓ K hnm hz hzx => ?_)
  subst hΓ
  have hin_RX0 : ∀ w ∈ u_ws RX0 TX0 11, w ∈ wsX2_isMistaken := by decide +kernel
  refine jk_aload_n K dX2_isMistaken_0 rfl 0 rfl ?_
  refine jk_iload_n K dX2_isMistaken_1 rfl 1 rfl ?_
  refine jk_cVrx K (n' := 1) (k' := 6) [.int x] [] dX2_isMistaken_2 (hb_X2_existing _ hl E q b1 b2 Y C G M C2 G2 M2 n hn hg x) gX2_isMistaken_X2_existing rfl kd_X2_existing ⟨Nat.le_of_ble_eq_true rfl, Nat.le_of_ble_eq_true rfl⟩ 0 rfl rfl (Nat.le_of_ble_eq_true rfl) ⟨rfl, rfl⟩ ⟨Nat.le_of_ble_eq_true rfl, Nat.le_of_ble_eq_true rfl⟩ rfl (fun Ex hx => jk_out K hzx hx (Nat.le_of_ble_eq_true rfl) (Nat.le_of_ble_eq_true rfl)) (fun i hp => ?_)
  obtain ⟨hi, rfl⟩ := hp
  refine jk_get (C := RX0) (T := TX0) (N := 11) (nm := "source") (ds := "I") (v := .int ((C i) 9)) K dX2_isMistaken_5 hin_RX0 (by decide +kernel) ([hb_ob q b1 b2].length + (3 + i)) (hb_Lh (Nat.le_of_lt (Nat.lt_of_lt_of_le hi hn))) rfl 9 rfl (by decide) rfl ?_
  refine jk_iconst (x := (-1)) K dX2_isMistaken_8 rfl ?_
  refine jk_icmp_ne (tgt := 16) K dX2_isMistaken_9 rfl (fun c_9 => ?_) (fun c_9 => ?_)
  · refine jk_iconst (x := 0) K dX2_isMistaken_16 rfl ?_
    exact jk_iret K hz dX2_isMistaken_17 i (by show some (Value.int (if _ then _ else _)) = _; rw [if_neg c_9]) ⟨hi, rfl⟩ rfl rfl (Nat.le_of_ble_eq_true rfl) (Nat.le_of_ble_eq_true rfl)
  · refine jk_iconst (x := 1) K dX2_isMistaken_12 rfl ?_
    refine jk_goto (tgt := 17) K dX2_isMistaken_13 rfl ?_
    exact jk_iret K hz dX2_isMistaken_17 i (by show some (Value.int (if _ then _ else _)) = _; rw [if_pos c_9]) ⟨hi, rfl⟩ rfl rfl (Nat.le_of_ble_eq_true rfl) (Nat.le_of_ble_eq_true rfl)
set_option maxHeartbeats 4000000 in
set_option maxRecDepth 100000 in
theorem hb_X2_sourceOf (l : Launch) (hl : l.stackTraces = false) (E : jk_T) (q : Nat) (b1 b2 : Nat → Nat) (Y : va_W) (C : Nat → Nat → Int32) (G M : Nat → Int32) (C2 : Nat → Nat → Int32) (G2 M2 : Nat → Int32) (n : Nat) (hn : n ≤ 10) (hg : G 0 = nI n) (x : Int32) : jk_Cx l yX2_sourceOf wsX2_sourceOf ({ frames := 9, cells := 2, slots := 12, locals := 154 } : Room) [.ref q, .int x] E (hb_v1 E q b1 b2 Y C G M C2 G2 M2) (fun i : Nat => some (.int (C i 9))) (fun _ => (hb_v1 E q b1 b2 Y C G M C2 G2 M2)) (fun i => i < n ∧ x = nI i ∧ ¬ C i 5 = 0) (fun Ex => (Ex = "java/lang/IndexOutOfBoundsException" ∧ ¬ hb_ok n x) ∨ (Ex = "java/lang/IllegalStateException" ∧ ∃ i, i < n ∧ x = nI i ∧ C i 5 = 0)) := by
  refine jk_ofx (lv := [(0, .ref q), (1, .int x)]) (own := RX2) (nm := "sourceOf") hl (by decide +kernel) rfl (Nat.le_of_ble_eq_true rfl) rfl rfl rfl (fun Γ hΓ K hnm hz hzx => ?_)
  subst hΓ
  have hin_RX0 : ∀ w ∈ u_ws RX0 TX0 11, w ∈ wsX2_sourceOf := by decide +kernel
  refine jk_aload_n K dX2_sourceOf_0 rfl 0 rfl ?_
  refine jk_iload_n K dX2_sourceOf_1 rfl 1 rfl ?_
  refine jk_cVrx K (n' := 2) (k' := 12) [.int x] [] dX2_sourceOf_2 (hb_X2_alight _ hl E q b1 b2 Y C G M C2 G2 M2 n hn hg x) gX2_sourceOf_X2_alight rfl kd_X2_alight ⟨Nat.le_of_ble_eq_true rfl, Nat.le_of_ble_eq_true rfl⟩ 0 rfl rfl (Nat.le_of_ble_eq_true rfl) ⟨rfl, rfl⟩ ⟨Nat.le_of_ble_eq_true rfl, Nat.le_of_ble_eq_true rfl⟩ rfl (fun Ex hx => jk_out K hzx hx (Nat.le_of_ble_eq_true rfl) (Nat.le_of_ble_eq_true rfl)) (fun i hp => ?_)
  obtain ⟨hi, rfl, hal⟩ := hp
  refine jk_get (C := RX0) (T := TX0) (N := 11) (nm := "source") (ds := "I") (v := .int ((C i) 9)) K dX2_sourceOf_5 hin_RX0 (by decide +kernel) ([hb_ob q b1 b2].length + (3 + i)) (hb_Lh (Nat.le_of_lt (Nat.lt_of_lt_of_le hi hn))) rfl 9 rfl (by decide) rfl ?_
  exact jk_iret K hz dX2_sourceOf_8 i rfl ⟨hi, rfl, hal⟩ rfl rfl (Nat.le_of_ble_eq_true rfl) (Nat.le_of_ble_eq_true rfl)
set_option maxHeartbeats 4000000 in
set_option maxRecDepth 100000 in
theorem hb_X2_hills (l : Launch) (hl : l.stackTraces = false) (E : jk_T) (q : Nat) (b1 b2 : Nat → Nat) (Y : va_W) (C : Nat → Nat → Int32) (G M : Nat → Int32) (C2 : Nat → Nat → Int32) (G2 M2 : Nat → Int32) : jk_fn l yX2_hills wsX2_hills ({ frames := 0, cells := 0, slots := 0, locals := 0 } : Room) [.ref q] E (hb_v1 E q b1 b2 Y C G M C2 G2 M2) (some (.int (G 0))) (hb_v1 E q b1 b2 Y C G M C2 G2 M2) := by
  refine jk_of (lv := [(0, .ref q)]) (own := RX2) (nm := "hills") hl (by decide +kernel) rfl (Nat.le_of_ble_eq_true rfl) rfl rfl rfl (fun Γ hΓ K hnm hz => ?_)
  subst hΓ
  have hin_RX1 : ∀ w ∈ u_ws RX1 TX1 9, w ∈ wsX2_hills := by decide +kernel
  have hin_RX2 : ∀ w ∈ u_ws RX2 TX2 2, w ∈ wsX2_hills := by decide +kernel
  refine jk_aload_n K dX2_hills_0 rfl 0 rfl ?_
  refine jk_get (C := RX2) (T := TX2) (N := 2) (nm := "land") (ds := "LHillBeacons$Land;") (v := .ref (b1 0)) K dX2_hills_1 hin_RX2 (by decide +kernel) 0 rfl rfl 0 rfl (by decide) rfl ?_
  refine jk_get (C := RX1) (T := TX1) (N := 9) (nm := "count") (ds := "I") (v := .int (G 0)) K dX2_hills_4 hin_RX1 (by decide +kernel) ([hb_ob q b1 b2].length + 0) hb_L0 rfl 3 rfl (by decide) rfl ?_
  exact jk_iret K hz dX2_hills_7 () rfl trivial rfl rfl (Nat.le_of_ble_eq_true rfl) (Nat.le_of_ble_eq_true rfl)
set_option maxHeartbeats 4000000 in
set_option maxRecDepth 100000 in
theorem hb_X2_minute (l : Launch) (hl : l.stackTraces = false) (E : jk_T) (q : Nat) (b1 b2 : Nat → Nat) (Y : va_W) (C : Nat → Nat → Int32) (G M : Nat → Int32) (C2 : Nat → Nat → Int32) (G2 M2 : Nat → Int32) : jk_fn l yX2_minute wsX2_minute ({ frames := 0, cells := 0, slots := 0, locals := 0 } : Room) [.ref q] E (hb_v1 E q b1 b2 Y C G M C2 G2 M2) (some (.int (G 3))) (hb_v1 E q b1 b2 Y C G M C2 G2 M2) := by
  refine jk_of (lv := [(0, .ref q)]) (own := RX2) (nm := "minute") hl (by decide +kernel) rfl (Nat.le_of_ble_eq_true rfl) rfl rfl rfl (fun Γ hΓ K hnm hz => ?_)
  subst hΓ
  have hin_RX1 : ∀ w ∈ u_ws RX1 TX1 9, w ∈ wsX2_minute := by decide +kernel
  have hin_RX2 : ∀ w ∈ u_ws RX2 TX2 2, w ∈ wsX2_minute := by decide +kernel
  refine jk_aload_n K dX2_minute_0 rfl 0 rfl ?_
  refine jk_get (C := RX2) (T := TX2) (N := 2) (nm := "land") (ds := "LHillBeacons$Land;") (v := .ref (b1 0)) K dX2_minute_1 hin_RX2 (by decide +kernel) 0 rfl rfl 0 rfl (by decide) rfl ?_
  refine jk_get (C := RX1) (T := TX1) (N := 9) (nm := "minute") (ds := "I") (v := .int (G 3)) K dX2_minute_4 hin_RX1 (by decide +kernel) ([hb_ob q b1 b2].length + 0) hb_L0 rfl 6 rfl (by decide) rfl ?_
  exact jk_iret K hz dX2_minute_7 () rfl trivial rfl rfl (Nat.le_of_ble_eq_true rfl) (Nat.le_of_ble_eq_true rfl)
set_option maxHeartbeats 4000000 in
set_option maxRecDepth 100000 in
theorem hb_X2_haze (l : Launch) (hl : l.stackTraces = false) (E : jk_T) (q : Nat) (b1 b2 : Nat → Nat) (Y : va_W) (C : Nat → Nat → Int32) (G M : Nat → Int32) (C2 : Nat → Nat → Int32) (G2 M2 : Nat → Int32) : jk_fn l yX2_haze wsX2_haze ({ frames := 0, cells := 0, slots := 0, locals := 0 } : Room) [.ref q] E (hb_v1 E q b1 b2 Y C G M C2 G2 M2) (some (.int (G 1))) (hb_v1 E q b1 b2 Y C G M C2 G2 M2) := by
  refine jk_of (lv := [(0, .ref q)]) (own := RX2) (nm := "haze") hl (by decide +kernel) rfl (Nat.le_of_ble_eq_true rfl) rfl rfl rfl (fun Γ hΓ K hnm hz => ?_)
  subst hΓ
  have hin_RX1 : ∀ w ∈ u_ws RX1 TX1 9, w ∈ wsX2_haze := by decide +kernel
  have hin_RX2 : ∀ w ∈ u_ws RX2 TX2 2, w ∈ wsX2_haze := by decide +kernel
  refine jk_aload_n K dX2_haze_0 rfl 0 rfl ?_
  refine jk_get (C := RX2) (T := TX2) (N := 2) (nm := "land") (ds := "LHillBeacons$Land;") (v := .ref (b1 0)) K dX2_haze_1 hin_RX2 (by decide +kernel) 0 rfl rfl 0 rfl (by decide) rfl ?_
  refine jk_get (C := RX1) (T := TX1) (N := 9) (nm := "haze") (ds := "I") (v := .int (G 1)) K dX2_haze_4 hin_RX1 (by decide +kernel) ([hb_ob q b1 b2].length + 0) hb_L0 rfl 4 rfl (by decide) rfl ?_
  exact jk_iret K hz dX2_haze_7 () rfl trivial rfl rfl (Nat.le_of_ble_eq_true rfl) (Nat.le_of_ble_eq_true rfl)
set_option maxHeartbeats 4000000 in
set_option maxRecDepth 100000 in
theorem hb_X2_glowLeft (l : Launch) (hl : l.stackTraces = false) (E : jk_T) (q : Nat) (b1 b2 : Nat → Nat) (Y : va_W) (C : Nat → Nat → Int32) (G M : Nat → Int32) (C2 : Nat → Nat → Int32) (G2 M2 : Nat → Int32) : jk_fn l yX2_glowLeft wsX2_glowLeft ({ frames := 0, cells := 0, slots := 0, locals := 0 } : Room) [.ref q] E (hb_v1 E q b1 b2 Y C G M C2 G2 M2) (some (.int (G 2))) (hb_v1 E q b1 b2 Y C G M C2 G2 M2) := by
  refine jk_of (lv := [(0, .ref q)]) (own := RX2) (nm := "glowLeft") hl (by decide +kernel) rfl (Nat.le_of_ble_eq_true rfl) rfl rfl rfl (fun Γ hΓ K hnm hz => ?_)
  subst hΓ
  have hin_RX1 : ∀ w ∈ u_ws RX1 TX1 9, w ∈ wsX2_glowLeft := by decide +kernel
  have hin_RX2 : ∀ w ∈ u_ws RX2 TX2 2, w ∈ wsX2_glowLeft := by decide +kernel
  refine jk_aload_n K dX2_glowLeft_0 rfl 0 rfl ?_
  refine jk_get (C := RX2) (T := TX2) (N := 2) (nm := "land") (ds := "LHillBeacons$Land;") (v := .ref (b1 0)) K dX2_glowLeft_1 hin_RX2 (by decide +kernel) 0 rfl rfl 0 rfl (by decide) rfl ?_
  refine jk_get (C := RX1) (T := TX1) (N := 9) (nm := "glow") (ds := "I") (v := .int (G 2)) K dX2_glowLeft_4 hin_RX1 (by decide +kernel) ([hb_ob q b1 b2].length + 0) hb_L0 rfl 5 rfl (by decide) rfl ?_
  exact jk_iret K hz dX2_glowLeft_7 () rfl trivial rfl rfl (Nat.le_of_ble_eq_true rfl) (Nat.le_of_ble_eq_true rfl)
set_option maxHeartbeats 4000000 in
set_option maxRecDepth 100000 in
theorem hb_X2_timesLit (l : Launch) (hl : l.stackTraces = false) (E : jk_T) (q : Nat) (b1 b2 : Nat → Nat) (Y : va_W) (C : Nat → Nat → Int32) (G M : Nat → Int32) (C2 : Nat → Nat → Int32) (G2 M2 : Nat → Int32) : jk_fn l yX2_timesLit wsX2_timesLit ({ frames := 0, cells := 0, slots := 0, locals := 0 } : Room) [.ref q] E (hb_v1 E q b1 b2 Y C G M C2 G2 M2) (some (.int (G 4))) (hb_v1 E q b1 b2 Y C G M C2 G2 M2) := by
  refine jk_of (lv := [(0, .ref q)]) (own := RX2) (nm := "timesLit") hl (by decide +kernel) rfl (Nat.le_of_ble_eq_true rfl) rfl rfl rfl (fun Γ hΓ K hnm hz => ?_)
  subst hΓ
  have hin_RX1 : ∀ w ∈ u_ws RX1 TX1 9, w ∈ wsX2_timesLit := by decide +kernel
  have hin_RX2 : ∀ w ∈ u_ws RX2 TX2 2, w ∈ wsX2_timesLit := by decide +kernel
  refine jk_aload_n K dX2_timesLit_0 rfl 0 rfl ?_
  refine jk_get (C := RX2) (T := TX2) (N := 2) (nm := "land") (ds := "LHillBeacons$Land;") (v := .ref (b1 0)) K dX2_timesLit_1 hin_RX2 (by decide +kernel) 0 rfl rfl 0 rfl (by decide) rfl ?_
  refine jk_get (C := RX1) (T := TX1) (N := 9) (nm := "lit") (ds := "I") (v := .int (G 4)) K dX2_timesLit_4 hin_RX1 (by decide +kernel) ([hb_ob q b1 b2].length + 0) hb_L0 rfl 7 rfl (by decide) rfl ?_
  exact jk_iret K hz dX2_timesLit_7 () rfl trivial rfl rfl (Nat.le_of_ble_eq_true rfl) (Nat.le_of_ble_eq_true rfl)
set_option maxHeartbeats 4000000 in
set_option maxRecDepth 100000 in
theorem hb_X2_timesMistaken (l : Launch) (hl : l.stackTraces = false) (E : jk_T) (q : Nat) (b1 b2 : Nat → Nat) (Y : va_W) (C : Nat → Nat → Int32) (G M : Nat → Int32) (C2 : Nat → Nat → Int32) (G2 M2 : Nat → Int32) : jk_fn l yX2_timesMistaken wsX2_timesMistaken ({ frames := 0, cells := 0, slots := 0, locals := 0 } : Room) [.ref q] E (hb_v1 E q b1 b2 Y C G M C2 G2 M2) (some (.int (G 5))) (hb_v1 E q b1 b2 Y C G M C2 G2 M2) := by
  refine jk_of (lv := [(0, .ref q)]) (own := RX2) (nm := "timesMistaken") hl (by decide +kernel) rfl (Nat.le_of_ble_eq_true rfl) rfl rfl rfl (fun Γ hΓ K hnm hz => ?_)
  subst hΓ
  have hin_RX1 : ∀ w ∈ u_ws RX1 TX1 9, w ∈ wsX2_timesMistaken := by decide +kernel
  have hin_RX2 : ∀ w ∈ u_ws RX2 TX2 2, w ∈ wsX2_timesMistaken := by decide +kernel
  refine jk_aload_n K dX2_timesMistaken_0 rfl 0 rfl ?_
  refine jk_get (C := RX2) (T := TX2) (N := 2) (nm := "land") (ds := "LHillBeacons$Land;") (v := .ref (b1 0)) K dX2_timesMistaken_1 hin_RX2 (by decide +kernel) 0 rfl rfl 0 rfl (by decide) rfl ?_
  refine jk_get (C := RX1) (T := TX1) (N := 9) (nm := "mistaken") (ds := "I") (v := .int (G 5)) K dX2_timesMistaken_4 hin_RX1 (by decide +kernel) ([hb_ob q b1 b2].length + 0) hb_L0 rfl 8 rfl (by decide) rfl ?_
  exact jk_iret K hz dX2_timesMistaken_7 () rfl trivial rfl rfl (Nat.le_of_ble_eq_true rfl) (Nat.le_of_ble_eq_true rfl)
set_option maxHeartbeats 4000000 in
set_option maxRecDepth 100000 in
theorem hb_X2_burningHills (l : Launch) (hl : l.stackTraces = false) (E : jk_T) (q : Nat) (b1 b2 : Nat → Nat) (Y : va_W) (C : Nat → Nat → Int32) (G M : Nat → Int32) (C2 : Nat → Nat → Int32) (G2 M2 : Nat → Int32) (n : Nat) (hn : n ≤ 10) (hg : G 0 = nI n) : jk_fn l yX2_burningHills wsX2_burningHills ({ frames := 2, cells := 0, slots := 0, locals := 44 } : Room) [.ref q] E (hb_v1 E q b1 b2 Y C G M C2 G2 M2) (some (.int (hb_burn C n))) (hb_v1 E q b1 b2 Y C G M C2 G2 M2) := by
  refine jk_of (lv := [(0, .ref q)]) (own := RX2) (nm := "burningHills") hl (by decide +kernel) rfl (Nat.le_of_ble_eq_true rfl) rfl rfl rfl (fun Γ hΓ K hnm hz => ?_)
  subst hΓ
  have hin_RX2 : ∀ w ∈ u_ws RX2 TX2 2, w ∈ wsX2_burningHills := by decide +kernel
  refine jk_aload_n K dX2_burningHills_0 rfl 0 rfl ?_
  refine jk_get (C := RX2) (T := TX2) (N := 2) (nm := "land") (ds := "LHillBeacons$Land;") (v := .ref (b1 0)) K dX2_burningHills_1 hin_RX2 (by decide +kernel) 0 rfl rfl 0 rfl (by decide) rfl ?_
  refine jk_cVi K (n' := 0) (k' := 0) [] [] dX2_burningHills_4 (hb_X1_countBurning _ hl E [hb_ob q b1 b2] (hb_LW E b2 C2 G2 M2 ++ Y) b1 C G M n hn hg) gX2_burningHills_X1_countBurning rfl kd_X1_countBurning ⟨Nat.le_of_ble_eq_true rfl, Nat.le_of_ble_eq_true rfl⟩ ([hb_ob q b1 b2].length + 0) hb_L0 rfl (Nat.le_of_ble_eq_true rfl) ⟨rfl, rfl⟩ ⟨Nat.le_of_ble_eq_true rfl, Nat.le_of_ble_eq_true rfl⟩ rfl (fun _ _ => ?_)
  exact jk_iret K hz dX2_burningHills_7 () rfl trivial rfl rfl (Nat.le_of_ble_eq_true rfl) (Nat.le_of_ble_eq_true rfl)
set_option maxHeartbeats 4000000 in
set_option maxRecDepth 100000 in
theorem hb_X2_turnEast (l : Launch) (hl : l.stackTraces = false) (E : jk_T) (q : Nat) (b1 b2 : Nat → Nat) (Y : va_W) (C : Nat → Nat → Int32) (G M : Nat → Int32) (C2 : Nat → Nat → Int32) (G2 M2 : Nat → Int32) (n : Nat) (hn : n ≤ 10) (hg : G 0 = nI n) (x : Int32) : jk_Cx l yX2_turnEast wsX2_turnEast ({ frames := 8, cells := 1, slots := 6, locals := 132 } : Room) [.ref q, .int x] E (hb_v1 E q b1 b2 Y C G M C2 G2 M2) (fun i : Nat => some (.int (hb_neg (C i 3)))) (fun i => (hb_v1 E q b1 b2 Y (va_up C i (hb_fu (C i) 3 (hb_neg (C i 3)))) G M C2 G2 M2)) (fun i => i < n ∧ x = nI i) (fun Ex => Ex = "java/lang/IndexOutOfBoundsException" ∧ ¬ hb_ok n x) := by
  refine jk_ofx (lv := [(0, .ref q), (1, .int x)]) (own := RX2) (nm := "turnEast") hl (by decide +kernel) rfl (Nat.le_of_ble_eq_true rfl) rfl rfl rfl (fun Γ hΓ K hnm hz hzx => ?_)
  subst hΓ
  have hin_RX0 : ∀ w ∈ u_ws RX0 TX0 11, w ∈ wsX2_turnEast := by decide +kernel
  refine jk_aload_n K dX2_turnEast_0 rfl 0 rfl ?_
  refine jk_iload_n K dX2_turnEast_1 rfl 1 rfl ?_
  refine jk_cVrx K (n' := 1) (k' := 6) [.int x] [] dX2_turnEast_2 (hb_X2_existing _ hl E q b1 b2 Y C G M C2 G2 M2 n hn hg x) gX2_turnEast_X2_existing rfl kd_X2_existing ⟨Nat.le_of_ble_eq_true rfl, Nat.le_of_ble_eq_true rfl⟩ 0 rfl rfl (Nat.le_of_ble_eq_true rfl) ⟨rfl, rfl⟩ ⟨Nat.le_of_ble_eq_true rfl, Nat.le_of_ble_eq_true rfl⟩ rfl (fun Ex hx => jk_out K hzx hx (Nat.le_of_ble_eq_true rfl) (Nat.le_of_ble_eq_true rfl)) (fun i hp => ?_)
  obtain ⟨hi, rfl⟩ := hp
  refine jk_astore_n (lv' := [(2, .ref (b1 (3 + i))), (0, .ref q), (1, .int (nI i))]) K dX2_turnEast_5 rfl (by decide) rfl ?_
  refine jk_aload_n K dX2_turnEast_6 rfl 0 rfl ?_
  refine jk_aload_n K dX2_turnEast_7 rfl 0 rfl ?_
  refine jk_get (C := RX0) (T := TX0) (N := 11) (nm := "east") (ds := "Z") (v := .int (hb_zb ((C i) 3))) K dX2_turnEast_8 hin_RX0 (by decide +kernel) ([hb_ob q b1 b2].length + (3 + i)) (hb_Lh (Nat.le_of_lt (Nat.lt_of_lt_of_le hi hn))) rfl 3 rfl (by decide) rfl ?_
  refine jk_if_ne (tgt := 18) K dX2_turnEast_11 rfl (fun c_11 => ?_) (fun c_11 => ?_)
  · refine jk_iconst (x := 0) K dX2_turnEast_18 rfl ?_
    refine jk_put (C := RX0) (T := TX0) (N := 11) (nm := "east") (ds := "Z") (w' := (hb_L E [hb_ob q b1 b2] (hb_LW E b2 C2 G2 M2 ++ Y) b1 (va_up C i (hb_fu (C i) 3 0)) G M)) K dX2_turnEast_19 hin_RX0 tyX0 tyX0_ok nmX0 (by decide +kernel) ([hb_ob q b1 b2].length + (3 + i)) (hb_Lh (Nat.le_of_lt (Nat.lt_of_lt_of_le hi hn))) rfl 3 rfl (by decide) rfl rfl rfl rfl (Nat.le_of_ble_eq_true rfl) (hb_Sh (Nat.le_of_lt (Nat.lt_of_lt_of_le hi hn)) rfl) ?_
    refine jk_aload_n K dX2_turnEast_22 rfl 0 rfl ?_
    refine jk_get (C := RX0) (T := TX0) (N := 11) (nm := "east") (ds := "Z") (v := .int (hb_zb 0)) K dX2_turnEast_23 hin_RX0 (by decide +kernel) ([hb_ob q b1 b2].length + (3 + i)) (hb_Lhu (Nat.le_of_lt (Nat.lt_of_lt_of_le hi hn))) rfl 3 rfl (by decide) rfl ?_
    exact jk_iret K hz dX2_turnEast_26 i (by show some (Value.int (hb_neg (C i 3))) = _; unfold hb_neg; rw [if_neg c_11]; rfl) ⟨hi, rfl⟩ (by show _ = hb_v1 _ _ _ _ _ (va_up C i (hb_fu (C i) 3 (hb_neg (C i 3)))) _ _ _ _ _; unfold hb_neg; rw [if_neg c_11]) rfl (Nat.le_of_ble_eq_true rfl) (Nat.le_of_ble_eq_true rfl)
  · refine jk_iconst (x := 1) K dX2_turnEast_14 rfl ?_
    refine jk_goto (tgt := 19) K dX2_turnEast_15 rfl ?_
    refine jk_put (C := RX0) (T := TX0) (N := 11) (nm := "east") (ds := "Z") (w' := (hb_L E [hb_ob q b1 b2] (hb_LW E b2 C2 G2 M2 ++ Y) b1 (va_up C i (hb_fu (C i) 3 1)) G M)) K dX2_turnEast_19 hin_RX0 tyX0 tyX0_ok nmX0 (by decide +kernel) ([hb_ob q b1 b2].length + (3 + i)) (hb_Lh (Nat.le_of_lt (Nat.lt_of_lt_of_le hi hn))) rfl 3 rfl (by decide) rfl rfl rfl rfl (Nat.le_of_ble_eq_true rfl) (hb_Sh (Nat.le_of_lt (Nat.lt_of_lt_of_le hi hn)) rfl) ?_
    refine jk_aload_n K dX2_turnEast_22 rfl 0 rfl ?_
    refine jk_get (C := RX0) (T := TX0) (N := 11) (nm := "east") (ds := "Z") (v := .int (hb_zb 1)) K dX2_turnEast_23 hin_RX0 (by decide +kernel) ([hb_ob q b1 b2].length + (3 + i)) (hb_Lhu (Nat.le_of_lt (Nat.lt_of_lt_of_le hi hn))) rfl 3 rfl (by decide) rfl ?_
    exact jk_iret K hz dX2_turnEast_26 i (by show some (Value.int (hb_neg (C i 3))) = _; unfold hb_neg; rw [if_pos c_11]; rfl) ⟨hi, rfl⟩ (by show _ = hb_v1 _ _ _ _ _ (va_up C i (hb_fu (C i) 3 (hb_neg (C i 3)))) _ _ _ _ _; unfold hb_neg; rw [if_pos c_11]) rfl (Nat.le_of_ble_eq_true rfl) (Nat.le_of_ble_eq_true rfl)
set_option maxHeartbeats 4000000 in
set_option maxRecDepth 100000 in
theorem hb_X2_turnPost (l : Launch) (hl : l.stackTraces = false) (E : jk_T) (q : Nat) (b1 b2 : Nat → Nat) (Y : va_W) (C : Nat → Nat → Int32) (G M : Nat → Int32) (C2 : Nat → Nat → Int32) (G2 M2 : Nat → Int32) (n : Nat) (hn : n ≤ 10) (hg : G 0 = nI n) (x : Int32) : jk_Cx l yX2_turnPost wsX2_turnPost ({ frames := 8, cells := 1, slots := 6, locals := 132 } : Room) [.ref q, .int x] E (hb_v1 E q b1 b2 Y C G M C2 G2 M2) (fun i : Nat => some (.int (hb_neg (C i 4)))) (fun i => (hb_v1 E q b1 b2 Y (va_up C i (hb_fu (C i) 4 (hb_neg (C i 4)))) G M C2 G2 M2)) (fun i => i < n ∧ x = nI i) (fun Ex => Ex = "java/lang/IndexOutOfBoundsException" ∧ ¬ hb_ok n x) := by
  refine jk_ofx (lv := [(0, .ref q), (1, .int x)]) (own := RX2) (nm := "turnPost") hl (by decide +kernel) rfl (Nat.le_of_ble_eq_true rfl) rfl rfl rfl (fun Γ hΓ K hnm hz hzx => ?_)
  subst hΓ
  have hin_RX0 : ∀ w ∈ u_ws RX0 TX0 11, w ∈ wsX2_turnPost := by decide +kernel
  refine jk_aload_n K dX2_turnPost_0 rfl 0 rfl ?_
  refine jk_iload_n K dX2_turnPost_1 rfl 1 rfl ?_
  refine jk_cVrx K (n' := 1) (k' := 6) [.int x] [] dX2_turnPost_2 (hb_X2_existing _ hl E q b1 b2 Y C G M C2 G2 M2 n hn hg x) gX2_turnPost_X2_existing rfl kd_X2_existing ⟨Nat.le_of_ble_eq_true rfl, Nat.le_of_ble_eq_true rfl⟩ 0 rfl rfl (Nat.le_of_ble_eq_true rfl) ⟨rfl, rfl⟩ ⟨Nat.le_of_ble_eq_true rfl, Nat.le_of_ble_eq_true rfl⟩ rfl (fun Ex hx => jk_out K hzx hx (Nat.le_of_ble_eq_true rfl) (Nat.le_of_ble_eq_true rfl)) (fun i hp => ?_)
  obtain ⟨hi, rfl⟩ := hp
  refine jk_astore_n (lv' := [(2, .ref (b1 (3 + i))), (0, .ref q), (1, .int (nI i))]) K dX2_turnPost_5 rfl (by decide) rfl ?_
  refine jk_aload_n K dX2_turnPost_6 rfl 0 rfl ?_
  refine jk_aload_n K dX2_turnPost_7 rfl 0 rfl ?_
  refine jk_get (C := RX0) (T := TX0) (N := 11) (nm := "post") (ds := "Z") (v := .int (hb_zb ((C i) 4))) K dX2_turnPost_8 hin_RX0 (by decide +kernel) ([hb_ob q b1 b2].length + (3 + i)) (hb_Lh (Nat.le_of_lt (Nat.lt_of_lt_of_le hi hn))) rfl 4 rfl (by decide) rfl ?_
  refine jk_if_ne (tgt := 18) K dX2_turnPost_11 rfl (fun c_11 => ?_) (fun c_11 => ?_)
  · refine jk_iconst (x := 0) K dX2_turnPost_18 rfl ?_
    refine jk_put (C := RX0) (T := TX0) (N := 11) (nm := "post") (ds := "Z") (w' := (hb_L E [hb_ob q b1 b2] (hb_LW E b2 C2 G2 M2 ++ Y) b1 (va_up C i (hb_fu (C i) 4 0)) G M)) K dX2_turnPost_19 hin_RX0 tyX0 tyX0_ok nmX0 (by decide +kernel) ([hb_ob q b1 b2].length + (3 + i)) (hb_Lh (Nat.le_of_lt (Nat.lt_of_lt_of_le hi hn))) rfl 4 rfl (by decide) rfl rfl rfl rfl (Nat.le_of_ble_eq_true rfl) (hb_Sh (Nat.le_of_lt (Nat.lt_of_lt_of_le hi hn)) rfl) ?_
    refine jk_aload_n K dX2_turnPost_22 rfl 0 rfl ?_
    refine jk_get (C := RX0) (T := TX0) (N := 11) (nm := "post") (ds := "Z") (v := .int (hb_zb 0)) K dX2_turnPost_23 hin_RX0 (by decide +kernel) ([hb_ob q b1 b2].length + (3 + i)) (hb_Lhu (Nat.le_of_lt (Nat.lt_of_lt_of_le hi hn))) rfl 4 rfl (by decide) rfl ?_
    exact jk_iret K hz dX2_turnPost_26 i (by show some (Value.int (hb_neg (C i 4))) = _; unfold hb_neg; rw [if_neg c_11]; rfl) ⟨hi, rfl⟩ (by show _ = hb_v1 _ _ _ _ _ (va_up C i (hb_fu (C i) 4 (hb_neg (C i 4)))) _ _ _ _ _; unfold hb_neg; rw [if_neg c_11]) rfl (Nat.le_of_ble_eq_true rfl) (Nat.le_of_ble_eq_true rfl)
  · refine jk_iconst (x := 1) K dX2_turnPost_14 rfl ?_
    refine jk_goto (tgt := 19) K dX2_turnPost_15 rfl ?_
    refine jk_put (C := RX0) (T := TX0) (N := 11) (nm := "post") (ds := "Z") (w' := (hb_L E [hb_ob q b1 b2] (hb_LW E b2 C2 G2 M2 ++ Y) b1 (va_up C i (hb_fu (C i) 4 1)) G M)) K dX2_turnPost_19 hin_RX0 tyX0 tyX0_ok nmX0 (by decide +kernel) ([hb_ob q b1 b2].length + (3 + i)) (hb_Lh (Nat.le_of_lt (Nat.lt_of_lt_of_le hi hn))) rfl 4 rfl (by decide) rfl rfl rfl rfl (Nat.le_of_ble_eq_true rfl) (hb_Sh (Nat.le_of_lt (Nat.lt_of_lt_of_le hi hn)) rfl) ?_
    refine jk_aload_n K dX2_turnPost_22 rfl 0 rfl ?_
    refine jk_get (C := RX0) (T := TX0) (N := 11) (nm := "post") (ds := "Z") (v := .int (hb_zb 1)) K dX2_turnPost_23 hin_RX0 (by decide +kernel) ([hb_ob q b1 b2].length + (3 + i)) (hb_Lhu (Nat.le_of_lt (Nat.lt_of_lt_of_le hi hn))) rfl 4 rfl (by decide) rfl ?_
    exact jk_iret K hz dX2_turnPost_26 i (by show some (Value.int (hb_neg (C i 4))) = _; unfold hb_neg; rw [if_pos c_11]; rfl) ⟨hi, rfl⟩ (by show _ = hb_v1 _ _ _ _ _ (va_up C i (hb_fu (C i) 4 (hb_neg (C i 4)))) _ _ _ _ _; unfold hb_neg; rw [if_pos c_11]) rfl (Nat.le_of_ble_eq_true rfl) (Nat.le_of_ble_eq_true rfl)
set_option maxHeartbeats 4000000 in
set_option maxRecDepth 100000 in
theorem hb_X2_bringWood (l : Launch) (hl : l.stackTraces = false) (E : jk_T) (q : Nat) (b1 b2 : Nat → Nat) (Y : va_W) (C : Nat → Nat → Int32) (G M : Nat → Int32) (C2 : Nat → Nat → Int32) (G2 M2 : Nat → Int32) (n : Nat) (hn : n ≤ 10) (hg : G 0 = nI n) (x y : Int32) : jk_Cx l yX2_bringWood wsX2_bringWood ({ frames := 8, cells := 2, slots := 12, locals := 132 } : Room) [.ref q, .int x, .int y] E (hb_v1 E q b1 b2 Y C G M C2 G2 M2) (fun i : Nat => some (.int (hb_min (C i 0 + y) 30))) (fun i => (hb_v1 E q b1 b2 Y (va_up C i (hb_fu (C i) 0 (hb_min (C i 0 + y) 30))) G M C2 G2 M2)) (fun i => i < n ∧ x = nI i ∧ hb_bt y 1 30) (fun Ex => (Ex = "java/lang/IndexOutOfBoundsException" ∧ ¬ hb_ok n x) ∨ (Ex = "java/lang/IllegalArgumentException" ∧ hb_ok n x ∧ ¬ hb_bt y 1 30)) := by
  refine jk_ofx (lv := [(0, .ref q), (1, .int x), (2, .int y)]) (own := RX2) (nm := "bringWood") hl (by decide +kernel) rfl (Nat.le_of_ble_eq_true rfl) rfl rfl rfl (fun Γ hΓ K hnm hz hzx => ?_)
  subst hΓ
  have hin_RX0 : ∀ w ∈ u_ws RX0 TX0 11, w ∈ wsX2_bringWood := by decide +kernel
  refine jk_aload_n K dX2_bringWood_0 rfl 0 rfl ?_
  refine jk_iload_n K dX2_bringWood_1 rfl 1 rfl ?_
  refine jk_cVrx K (n' := 1) (k' := 6) [.int x] [] dX2_bringWood_2 (hb_X2_existing _ hl E q b1 b2 Y C G M C2 G2 M2 n hn hg x) gX2_bringWood_X2_existing rfl kd_X2_existing ⟨Nat.le_of_ble_eq_true rfl, Nat.le_of_ble_eq_true rfl⟩ 0 rfl rfl (Nat.le_of_ble_eq_true rfl) ⟨rfl, rfl⟩ ⟨Nat.le_of_ble_eq_true rfl, Nat.le_of_ble_eq_true rfl⟩ rfl (fun Ex hx => jk_out K hzx (Or.inl hx) (Nat.le_of_ble_eq_true rfl) (Nat.le_of_ble_eq_true rfl)) (fun i hp => ?_)
  obtain ⟨hi, rfl⟩ := hp
  refine jk_astore_n (lv' := [(3, .ref (b1 (3 + i))), (0, .ref q), (1, .int (nI i)), (2, .int y)]) K dX2_bringWood_5 rfl (by decide) rfl ?_
  refine jk_iload_n K dX2_bringWood_6 rfl 3 rfl ?_
  refine jk_iconst (x := 1) K dX2_bringWood_7 rfl ?_
  refine jk_bipush (x := 30) K dX2_bringWood_8 rfl ?_
  refine jk_cSvx K (n' := 2) (k' := 12) [.int y, .int 1, .int 30] [] dX2_bringWood_10 (hb_X2_requireBetween _ hl E (hb_L E [hb_ob q b1 b2] (hb_LW E b2 C2 G2 M2 ++ Y) b1 C G M) y 1 30) gX2_bringWood_X2_requireBetween rfl kd_X2_requireBetween ⟨Nat.le_of_ble_eq_true rfl, Nat.le_of_ble_eq_true rfl⟩ (Nat.le_of_ble_eq_true rfl) ⟨rfl, rfl⟩ ⟨Nat.le_of_ble_eq_true rfl, Nat.le_of_ble_eq_true rfl⟩ rfl (fun Ex hx => jk_out K hzx (Or.inr ⟨hx.1, ⟨i, hi, rfl⟩, hx.2⟩) (Nat.le_of_ble_eq_true rfl) (Nat.le_of_ble_eq_true rfl)) (fun _ hbt10 => ?_)
  refine jk_aload_n K dX2_bringWood_13 rfl 0 rfl ?_
  refine jk_aload_n K dX2_bringWood_14 rfl 0 rfl ?_
  refine jk_get (C := RX0) (T := TX0) (N := 11) (nm := "wood") (ds := "I") (v := .int ((C i) 0)) K dX2_bringWood_15 hin_RX0 (by decide +kernel) ([hb_ob q b1 b2].length + (3 + i)) (hb_Lh (Nat.le_of_lt (Nat.lt_of_lt_of_le hi hn))) rfl 0 rfl (by decide) rfl ?_
  refine jk_iload_n K dX2_bringWood_18 rfl 3 rfl ?_
  refine jk_iadd K dX2_bringWood_19 ?_
  refine jk_bipush (x := 30) K dX2_bringWood_20 rfl ?_
  refine jk_mmin K dX2_bringWood_22 (rest := [.ref (b1 (3 + i))]) (by decide +kernel) (by decide +kernel) (by decide +kernel) (by decide +kernel) (Nat.le_of_ble_eq_true rfl) (Nat.le_of_ble_eq_true rfl) ⟨Nat.le_of_ble_eq_true rfl, Nat.le_of_ble_eq_true rfl⟩ ?_
  refine jk_put (C := RX0) (T := TX0) (N := 11) (nm := "wood") (ds := "I") (w' := (hb_L E [hb_ob q b1 b2] (hb_LW E b2 C2 G2 M2 ++ Y) b1 (va_up C i (hb_fu (C i) 0 (if 30 < (((C i) 0) + y) then 30 else (((C i) 0) + y)))) G M)) K dX2_bringWood_25 hin_RX0 tyX0 tyX0_ok nmX0 (by decide +kernel) ([hb_ob q b1 b2].length + (3 + i)) (hb_Lh (Nat.le_of_lt (Nat.lt_of_lt_of_le hi hn))) rfl 0 rfl (by decide) rfl rfl rfl rfl (Nat.le_of_ble_eq_true rfl) (hb_Sh (Nat.le_of_lt (Nat.lt_of_lt_of_le hi hn)) rfl) ?_
  refine jk_aload_n K dX2_bringWood_28 rfl 0 rfl ?_
  refine jk_get (C := RX0) (T := TX0) (N := 11) (nm := "wood") (ds := "I") (v := .int (if 30 < (((C i) 0) + y) then 30 else (((C i) 0) + y))) K dX2_bringWood_29 hin_RX0 (by decide +kernel) ([hb_ob q b1 b2].length + (3 + i)) (hb_Lhu (Nat.le_of_lt (Nat.lt_of_lt_of_le hi hn))) rfl 0 rfl (by decide) rfl ?_
  exact jk_iret K hz dX2_bringWood_32 i rfl ⟨hi, rfl, hbt10⟩ rfl rfl (Nat.le_of_ble_eq_true rfl) (Nat.le_of_ble_eq_true rfl)
set_option maxHeartbeats 4000000 in
set_option maxRecDepth 100000 in
theorem hb_X2_setDamp (l : Launch) (hl : l.stackTraces = false) (E : jk_T) (q : Nat) (b1 b2 : Nat → Nat) (Y : va_W) (C : Nat → Nat → Int32) (G M : Nat → Int32) (C2 : Nat → Nat → Int32) (G2 M2 : Nat → Int32) (n : Nat) (hn : n ≤ 10) (hg : G 0 = nI n) (x y : Int32) : jk_Cx l yX2_setDamp wsX2_setDamp ({ frames := 8, cells := 2, slots := 12, locals := 132 } : Room) [.ref q, .int x, .int y] E (hb_v1 E q b1 b2 Y C G M C2 G2 M2) (fun i : Nat => some (.int (C i 1))) (fun i => (hb_v1 E q b1 b2 Y (va_up C i (hb_fu (C i) 1 y)) G M C2 G2 M2)) (fun i => i < n ∧ x = nI i ∧ hb_bt y 0 9) (fun Ex => (Ex = "java/lang/IndexOutOfBoundsException" ∧ ¬ hb_ok n x) ∨ (Ex = "java/lang/IllegalArgumentException" ∧ hb_ok n x ∧ ¬ hb_bt y 0 9)) := by
  refine jk_ofx (lv := [(0, .ref q), (1, .int x), (2, .int y)]) (own := RX2) (nm := "setDamp") hl (by decide +kernel) rfl (Nat.le_of_ble_eq_true rfl) rfl rfl rfl (fun Γ hΓ K hnm hz hzx => ?_)
  subst hΓ
  have hin_RX0 : ∀ w ∈ u_ws RX0 TX0 11, w ∈ wsX2_setDamp := by decide +kernel
  refine jk_aload_n K dX2_setDamp_0 rfl 0 rfl ?_
  refine jk_iload_n K dX2_setDamp_1 rfl 1 rfl ?_
  refine jk_cVrx K (n' := 1) (k' := 6) [.int x] [] dX2_setDamp_2 (hb_X2_existing _ hl E q b1 b2 Y C G M C2 G2 M2 n hn hg x) gX2_setDamp_X2_existing rfl kd_X2_existing ⟨Nat.le_of_ble_eq_true rfl, Nat.le_of_ble_eq_true rfl⟩ 0 rfl rfl (Nat.le_of_ble_eq_true rfl) ⟨rfl, rfl⟩ ⟨Nat.le_of_ble_eq_true rfl, Nat.le_of_ble_eq_true rfl⟩ rfl (fun Ex hx => jk_out K hzx (Or.inl hx) (Nat.le_of_ble_eq_true rfl) (Nat.le_of_ble_eq_true rfl)) (fun i hp => ?_)
  obtain ⟨hi, rfl⟩ := hp
  refine jk_astore_n (lv' := [(3, .ref (b1 (3 + i))), (0, .ref q), (1, .int (nI i)), (2, .int y)]) K dX2_setDamp_5 rfl (by decide) rfl ?_
  refine jk_iload_n K dX2_setDamp_6 rfl 3 rfl ?_
  refine jk_iconst (x := 0) K dX2_setDamp_7 rfl ?_
  refine jk_bipush (x := 9) K dX2_setDamp_8 rfl ?_
  refine jk_cSvx K (n' := 2) (k' := 12) [.int y, .int 0, .int 9] [] dX2_setDamp_10 (hb_X2_requireBetween _ hl E (hb_L E [hb_ob q b1 b2] (hb_LW E b2 C2 G2 M2 ++ Y) b1 C G M) y 0 9) gX2_setDamp_X2_requireBetween rfl kd_X2_requireBetween ⟨Nat.le_of_ble_eq_true rfl, Nat.le_of_ble_eq_true rfl⟩ (Nat.le_of_ble_eq_true rfl) ⟨rfl, rfl⟩ ⟨Nat.le_of_ble_eq_true rfl, Nat.le_of_ble_eq_true rfl⟩ rfl (fun Ex hx => jk_out K hzx (Or.inr ⟨hx.1, ⟨i, hi, rfl⟩, hx.2⟩) (Nat.le_of_ble_eq_true rfl) (Nat.le_of_ble_eq_true rfl)) (fun _ hbt10 => ?_)
  refine jk_aload_n K dX2_setDamp_13 rfl 0 rfl ?_
  refine jk_get (C := RX0) (T := TX0) (N := 11) (nm := "damp") (ds := "I") (v := .int ((C i) 1)) K dX2_setDamp_14 hin_RX0 (by decide +kernel) ([hb_ob q b1 b2].length + (3 + i)) (hb_Lh (Nat.le_of_lt (Nat.lt_of_lt_of_le hi hn))) rfl 1 rfl (by decide) rfl ?_
  refine jk_istore (lv' := [(4, .int ((C i) 1)), (3, .ref (b1 (3 + i))), (0, .ref q), (1, .int (nI i)), (2, .int y)]) K dX2_setDamp_17 (by decide) rfl ?_
  refine jk_aload_n K dX2_setDamp_19 rfl 1 rfl ?_
  refine jk_iload_n K dX2_setDamp_20 rfl 4 rfl ?_
  refine jk_put (C := RX0) (T := TX0) (N := 11) (nm := "damp") (ds := "I") (w' := (hb_L E [hb_ob q b1 b2] (hb_LW E b2 C2 G2 M2 ++ Y) b1 (va_up C i (hb_fu (C i) 1 y)) G M)) K dX2_setDamp_21 hin_RX0 tyX0 tyX0_ok nmX0 (by decide +kernel) ([hb_ob q b1 b2].length + (3 + i)) (hb_Lh (Nat.le_of_lt (Nat.lt_of_lt_of_le hi hn))) rfl 1 rfl (by decide) rfl rfl rfl rfl (Nat.le_of_ble_eq_true rfl) (hb_Sh (Nat.le_of_lt (Nat.lt_of_lt_of_le hi hn)) rfl) ?_
  refine jk_iload K dX2_setDamp_24 0 rfl ?_
  exact jk_iret K hz dX2_setDamp_26 i rfl ⟨hi, rfl, hbt10⟩ rfl rfl (Nat.le_of_ble_eq_true rfl) (Nat.le_of_ble_eq_true rfl)
set_option maxHeartbeats 4000000 in
set_option maxRecDepth 100000 in
theorem hb_X2_setHaze (l : Launch) (hl : l.stackTraces = false) (E : jk_T) (q : Nat) (b1 b2 : Nat → Nat) (Y : va_W) (C : Nat → Nat → Int32) (G M : Nat → Int32) (C2 : Nat → Nat → Int32) (G2 M2 : Nat → Int32) (n : Nat) (hn : n ≤ 10) (hg : G 0 = nI n) (y : Int32) : jk_Cx l yX2_setHaze wsX2_setHaze ({ frames := 7, cells := 1, slots := 6, locals := 112 } : Room) [.ref q, .int y] E (hb_v1 E q b1 b2 Y C G M C2 G2 M2) (fun _ : Unit => some (.int (G 1))) (fun _ => (hb_v1 E q b1 b2 Y C (hb_fu G 1 y) M C2 G2 M2)) (fun _ => hb_bt y 0 9) (fun Ex => Ex = "java/lang/IllegalArgumentException" ∧ ¬ hb_bt y 0 9) := by
  refine jk_ofx (lv := [(0, .ref q), (1, .int y)]) (own := RX2) (nm := "setHaze") hl (by decide +kernel) rfl (Nat.le_of_ble_eq_true rfl) rfl rfl rfl (fun Γ hΓ K hnm hz hzx => ?_)
  subst hΓ
  have hin_RX1 : ∀ w ∈ u_ws RX1 TX1 9, w ∈ wsX2_setHaze := by decide +kernel
  have hin_RX2 : ∀ w ∈ u_ws RX2 TX2 2, w ∈ wsX2_setHaze := by decide +kernel
  refine jk_iload_n K dX2_setHaze_0 rfl 1 rfl ?_
  refine jk_iconst (x := 0) K dX2_setHaze_1 rfl ?_
  refine jk_bipush (x := 9) K dX2_setHaze_2 rfl ?_
  refine jk_cSvx K (n' := 1) (k' := 6) [.int y, .int 0, .int 9] [] dX2_setHaze_4 (hb_X2_requireBetween _ hl E (hb_L E [hb_ob q b1 b2] (hb_LW E b2 C2 G2 M2 ++ Y) b1 C G M) y 0 9) gX2_setHaze_X2_requireBetween rfl kd_X2_requireBetween ⟨Nat.le_of_ble_eq_true rfl, Nat.le_of_ble_eq_true rfl⟩ (Nat.le_of_ble_eq_true rfl) ⟨rfl, rfl⟩ ⟨Nat.le_of_ble_eq_true rfl, Nat.le_of_ble_eq_true rfl⟩ rfl (fun Ex hx => jk_out K hzx hx (Nat.le_of_ble_eq_true rfl) (Nat.le_of_ble_eq_true rfl)) (fun _ hbt4 => ?_)
  refine jk_aload_n K dX2_setHaze_7 rfl 0 rfl ?_
  refine jk_get (C := RX2) (T := TX2) (N := 2) (nm := "land") (ds := "LHillBeacons$Land;") (v := .ref (b1 0)) K dX2_setHaze_8 hin_RX2 (by decide +kernel) 0 rfl rfl 0 rfl (by decide) rfl ?_
  refine jk_get (C := RX1) (T := TX1) (N := 9) (nm := "haze") (ds := "I") (v := .int (G 1)) K dX2_setHaze_11 hin_RX1 (by decide +kernel) ([hb_ob q b1 b2].length + 0) hb_L0 rfl 4 rfl (by decide) rfl ?_
  refine jk_istore_n (lv' := [(2, .int (G 1)), (0, .ref q), (1, .int y)]) K dX2_setHaze_14 rfl (by decide) rfl ?_
  refine jk_aload_n K dX2_setHaze_15 rfl 1 rfl ?_
  refine jk_get (C := RX2) (T := TX2) (N := 2) (nm := "land") (ds := "LHillBeacons$Land;") (v := .ref (b1 0)) K dX2_setHaze_16 hin_RX2 (by decide +kernel) 0 rfl rfl 0 rfl (by decide) rfl ?_
  refine jk_iload_n K dX2_setHaze_19 rfl 2 rfl ?_
  refine jk_put (C := RX1) (T := TX1) (N := 9) (nm := "haze") (ds := "I") (w' := (hb_L E [hb_ob q b1 b2] (hb_LW E b2 C2 G2 M2 ++ Y) b1 C (hb_fu G 1 y) M)) K dX2_setHaze_20 hin_RX1 tyX1 tyX1_ok nmX1 (by decide +kernel) ([hb_ob q b1 b2].length + 0) hb_L0 rfl 4 rfl (by decide) rfl rfl rfl rfl (Nat.le_of_ble_eq_true rfl) (hb_S0 rfl) ?_
  refine jk_iload_n K dX2_setHaze_23 rfl 0 rfl ?_
  exact jk_iret K hz dX2_setHaze_24 () rfl hbt4 rfl rfl (Nat.le_of_ble_eq_true rfl) (Nat.le_of_ble_eq_true rfl)
set_option maxHeartbeats 4000000 in
set_option maxRecDepth 100000 in
theorem hb_X2_glow (l : Launch) (hl : l.stackTraces = false) (E : jk_T) (q : Nat) (b1 b2 : Nat → Nat) (Y : va_W) (C : Nat → Nat → Int32) (G M : Nat → Int32) (C2 : Nat → Nat → Int32) (G2 M2 : Nat → Int32) (n : Nat) (hn : n ≤ 10) (hg : G 0 = nI n) (y : Int32) : jk_Cx l yX2_glow wsX2_glow ({ frames := 7, cells := 1, slots := 6, locals := 112 } : Room) [.ref q, .int y] E (hb_v1 E q b1 b2 Y C G M C2 G2 M2) (fun _ : Unit => some (.int (G 2))) (fun _ => (hb_v1 E q b1 b2 Y C (hb_fu G 2 y) M C2 G2 M2)) (fun _ => hb_bt y 0 30) (fun Ex => Ex = "java/lang/IllegalArgumentException" ∧ ¬ hb_bt y 0 30) := by
  refine jk_ofx (lv := [(0, .ref q), (1, .int y)]) (own := RX2) (nm := "glow") hl (by decide +kernel) rfl (Nat.le_of_ble_eq_true rfl) rfl rfl rfl (fun Γ hΓ K hnm hz hzx => ?_)
  subst hΓ
  have hin_RX1 : ∀ w ∈ u_ws RX1 TX1 9, w ∈ wsX2_glow := by decide +kernel
  have hin_RX2 : ∀ w ∈ u_ws RX2 TX2 2, w ∈ wsX2_glow := by decide +kernel
  refine jk_iload_n K dX2_glow_0 rfl 1 rfl ?_
  refine jk_iconst (x := 0) K dX2_glow_1 rfl ?_
  refine jk_bipush (x := 30) K dX2_glow_2 rfl ?_
  refine jk_cSvx K (n' := 1) (k' := 6) [.int y, .int 0, .int 30] [] dX2_glow_4 (hb_X2_requireBetween _ hl E (hb_L E [hb_ob q b1 b2] (hb_LW E b2 C2 G2 M2 ++ Y) b1 C G M) y 0 30) gX2_glow_X2_requireBetween rfl kd_X2_requireBetween ⟨Nat.le_of_ble_eq_true rfl, Nat.le_of_ble_eq_true rfl⟩ (Nat.le_of_ble_eq_true rfl) ⟨rfl, rfl⟩ ⟨Nat.le_of_ble_eq_true rfl, Nat.le_of_ble_eq_true rfl⟩ rfl (fun Ex hx => jk_out K hzx hx (Nat.le_of_ble_eq_true rfl) (Nat.le_of_ble_eq_true rfl)) (fun _ hbt4 => ?_)
  refine jk_aload_n K dX2_glow_7 rfl 0 rfl ?_
  refine jk_get (C := RX2) (T := TX2) (N := 2) (nm := "land") (ds := "LHillBeacons$Land;") (v := .ref (b1 0)) K dX2_glow_8 hin_RX2 (by decide +kernel) 0 rfl rfl 0 rfl (by decide) rfl ?_
  refine jk_get (C := RX1) (T := TX1) (N := 9) (nm := "glow") (ds := "I") (v := .int (G 2)) K dX2_glow_11 hin_RX1 (by decide +kernel) ([hb_ob q b1 b2].length + 0) hb_L0 rfl 5 rfl (by decide) rfl ?_
  refine jk_istore_n (lv' := [(2, .int (G 2)), (0, .ref q), (1, .int y)]) K dX2_glow_14 rfl (by decide) rfl ?_
  refine jk_aload_n K dX2_glow_15 rfl 1 rfl ?_
  refine jk_get (C := RX2) (T := TX2) (N := 2) (nm := "land") (ds := "LHillBeacons$Land;") (v := .ref (b1 0)) K dX2_glow_16 hin_RX2 (by decide +kernel) 0 rfl rfl 0 rfl (by decide) rfl ?_
  refine jk_iload_n K dX2_glow_19 rfl 2 rfl ?_
  refine jk_put (C := RX1) (T := TX1) (N := 9) (nm := "glow") (ds := "I") (w' := (hb_L E [hb_ob q b1 b2] (hb_LW E b2 C2 G2 M2 ++ Y) b1 C (hb_fu G 2 y) M)) K dX2_glow_20 hin_RX1 tyX1 tyX1_ok nmX1 (by decide +kernel) ([hb_ob q b1 b2].length + 0) hb_L0 rfl 5 rfl (by decide) rfl rfl rfl rfl (Nat.le_of_ble_eq_true rfl) (hb_S0 rfl) ?_
  refine jk_iload_n K dX2_glow_23 rfl 0 rfl ?_
  exact jk_iret K hz dX2_glow_24 () rfl hbt4 rfl rfl (Nat.le_of_ble_eq_true rfl) (Nat.le_of_ble_eq_true rfl)
set_option maxHeartbeats 4000000 in
set_option maxRecDepth 100000 in
theorem hb_X2_light (l : Launch) (hl : l.stackTraces = false) (E : jk_T) (q : Nat) (b1 b2 : Nat → Nat) (Y : va_W) (C : Nat → Nat → Int32) (G M : Nat → Int32) (C2 : Nat → Nat → Int32) (G2 M2 : Nat → Int32) (n : Nat) (hn : n ≤ 10) (hg : G 0 = nI n) (x : Int32) : jk_Cx l yX2_light wsX2_light ({ frames := 9, cells := 2, slots := 12, locals := 153 } : Room) [.ref q, .int x] E (hb_v1 E q b1 b2 Y C G M C2 G2 M2) (fun i : Nat => some (.int (hb_hC C i i 7))) (fun i => (hb_v1 E q b1 b2 Y (hb_hC C i) (hb_kG G (nI i)) M C2 G2 M2)) (fun i => i < n ∧ x = nI i ∧ ¬ hb_rdy (C i) = 0) (fun Ex => (Ex = "java/lang/IndexOutOfBoundsException" ∧ ¬ hb_ok n x) ∨ (Ex = "java/lang/IllegalStateException" ∧ ∃ i, i < n ∧ x = nI i ∧ hb_rdy (C i) = 0)) := by
  refine jk_ofx (lv := [(0, .ref q), (1, .int x)]) (own := RX2) (nm := "light") hl (by decide +kernel) rfl (Nat.le_of_ble_eq_true rfl) rfl rfl rfl (fun Γ hΓ K hnm hz hzx => ?_)
  subst hΓ
  have hin_RX0 : ∀ w ∈ u_ws RX0 TX0 11, w ∈ wsX2_light := by decide +kernel
  have hin_RX2 : ∀ w ∈ u_ws RX2 TX2 2, w ∈ wsX2_light := by decide +kernel
  refine jk_aload_n K dX2_light_0 rfl 0 rfl ?_
  refine jk_iload_n K dX2_light_1 rfl 1 rfl ?_
  refine jk_cVvx K (n' := 2) (k' := 12) [.int x] [] dX2_light_2 (hb_X2_requireReady _ hl E q b1 b2 Y C G M C2 G2 M2 n hn hg x) gX2_light_X2_requireReady rfl kd_X2_requireReady ⟨Nat.le_of_ble_eq_true rfl, Nat.le_of_ble_eq_true rfl⟩ 0 rfl rfl (Nat.le_of_ble_eq_true rfl) ⟨rfl, rfl⟩ ⟨Nat.le_of_ble_eq_true rfl, Nat.le_of_ble_eq_true rfl⟩ rfl (fun Ex hx => jk_out K hzx hx (Nat.le_of_ble_eq_true rfl) (Nat.le_of_ble_eq_true rfl)) (fun i hp => ?_)
  obtain ⟨hi, rfl, hrd⟩ := hp
  refine jk_aload_n K dX2_light_5 rfl 0 rfl ?_
  refine jk_get (C := RX2) (T := TX2) (N := 2) (nm := "land") (ds := "LHillBeacons$Land;") (v := .ref (b1 0)) K dX2_light_6 hin_RX2 (by decide +kernel) 0 rfl rfl 0 rfl (by decide) rfl ?_
  refine jk_iload_n K dX2_light_9 rfl 1 rfl ?_
  refine jk_cVv K (n' := 2) (k' := 12) [.int (nI i)] [] dX2_light_10 (hb_X1_kindleByHand _ hl E [hb_ob q b1 b2] (hb_LW E b2 C2 G2 M2 ++ Y) b1 C G M i (Nat.lt_of_lt_of_le hi hn)) gX2_light_X1_kindleByHand rfl kd_X1_kindleByHand ⟨Nat.le_of_ble_eq_true rfl, Nat.le_of_ble_eq_true rfl⟩ ([hb_ob q b1 b2].length + 0) hb_L0 rfl (Nat.le_of_ble_eq_true rfl) ⟨rfl, rfl⟩ ⟨Nat.le_of_ble_eq_true rfl, Nat.le_of_ble_eq_true rfl⟩ rfl (fun _ _ => ?_)
  refine jk_aload_n K dX2_light_13 rfl 0 rfl ?_
  refine jk_get (C := RX2) (T := TX2) (N := 2) (nm := "land") (ds := "LHillBeacons$Land;") (v := .ref (b1 0)) K dX2_light_14 hin_RX2 (by decide +kernel) 0 rfl rfl 0 rfl (by decide) rfl ?_
  refine jk_iload_n K dX2_light_17 rfl 1 rfl ?_
  refine jk_cVr K (n' := 2) (k' := 12) [.int (nI i)] [] dX2_light_18 (hb_X1_hillAt_i _ hl E [hb_ob q b1 b2] (hb_LW E b2 C2 G2 M2 ++ Y) b1 (hb_hC C i) (hb_kG G (nI i)) M i (Nat.lt_of_lt_of_le hi hn)) gX2_light_X1_hillAt rfl kd_X1_hillAt ⟨Nat.le_of_ble_eq_true rfl, Nat.le_of_ble_eq_true rfl⟩ ([hb_ob q b1 b2].length + 0) hb_L0 rfl (Nat.le_of_ble_eq_true rfl) ⟨rfl, rfl⟩ ⟨Nat.le_of_ble_eq_true rfl, Nat.le_of_ble_eq_true rfl⟩ rfl (fun _ _ => ?_)
  refine jk_get (C := RX0) (T := TX0) (N := 11) (nm := "left") (ds := "I") (v := .int (((hb_hC C i) i) 7)) K dX2_light_21 hin_RX0 (by decide +kernel) ([hb_ob q b1 b2].length + (3 + i)) (hb_Lh (Nat.le_of_lt (Nat.lt_of_lt_of_le hi hn))) rfl 7 rfl (by decide) rfl ?_
  exact jk_iret K hz dX2_light_24 i rfl ⟨hi, rfl, hrd⟩ rfl rfl (Nat.le_of_ble_eq_true rfl) (Nat.le_of_ble_eq_true rfl)
set_option maxHeartbeats 4000000 in
set_option maxRecDepth 100000 in
theorem hb_X2_douse (l : Launch) (hl : l.stackTraces = false) (E : jk_T) (q : Nat) (b1 b2 : Nat → Nat) (Y : va_W) (C : Nat → Nat → Int32) (G M : Nat → Int32) (C2 : Nat → Nat → Int32) (G2 M2 : Nat → Int32) (n : Nat) (hn : n ≤ 10) (hg : G 0 = nI n) (x : Int32) : jk_Cx l yX2_douse wsX2_douse ({ frames := 9, cells := 2, slots := 12, locals := 154 } : Room) [.ref q, .int x] E (hb_v1 E q b1 b2 Y C G M C2 G2 M2) (fun i : Nat => some (.int (C i 0))) (fun i => (hb_v1 E q b1 b2 Y (va_up C i (hb_darkF (C i))) G M C2 G2 M2)) (fun i => i < n ∧ x = nI i ∧ ¬ C i 5 = 0) (fun Ex => (Ex = "java/lang/IndexOutOfBoundsException" ∧ ¬ hb_ok n x) ∨ (Ex = "java/lang/IllegalStateException" ∧ ∃ i, i < n ∧ x = nI i ∧ C i 5 = 0)) := by
  refine jk_ofx (lv := [(0, .ref q), (1, .int x)]) (own := RX2) (nm := "douse") hl (by decide +kernel) rfl (Nat.le_of_ble_eq_true rfl) rfl rfl rfl (fun Γ hΓ K hnm hz hzx => ?_)
  subst hΓ
  have hin_RX0 : ∀ w ∈ u_ws RX0 TX0 11, w ∈ wsX2_douse := by decide +kernel
  refine jk_aload_n K dX2_douse_0 rfl 0 rfl ?_
  refine jk_iload_n K dX2_douse_1 rfl 1 rfl ?_
  refine jk_cVrx K (n' := 2) (k' := 12) [.int x] [] dX2_douse_2 (hb_X2_alight _ hl E q b1 b2 Y C G M C2 G2 M2 n hn hg x) gX2_douse_X2_alight rfl kd_X2_alight ⟨Nat.le_of_ble_eq_true rfl, Nat.le_of_ble_eq_true rfl⟩ 0 rfl rfl (Nat.le_of_ble_eq_true rfl) ⟨rfl, rfl⟩ ⟨Nat.le_of_ble_eq_true rfl, Nat.le_of_ble_eq_true rfl⟩ rfl (fun Ex hx => jk_out K hzx hx (Nat.le_of_ble_eq_true rfl) (Nat.le_of_ble_eq_true rfl)) (fun i hp => ?_)
  obtain ⟨hi, rfl, hal⟩ := hp
  refine jk_astore_n (lv' := [(2, .ref (b1 (3 + i))), (0, .ref q), (1, .int (nI i))]) K dX2_douse_5 rfl (by decide) rfl ?_
  refine jk_aload_n K dX2_douse_6 rfl 0 rfl ?_
  refine jk_cVv K (n' := 2) (k' := 12) [] [] dX2_douse_7 (hb_X0_goDark _ hl E (hb_L E [hb_ob q b1 b2] (hb_LW E b2 C2 G2 M2 ++ Y) b1 C G M) ([hb_ob q b1 b2].length + (3 + i)) (b1 (3 + i)) (C i) (hb_Lh (Nat.le_of_lt (Nat.lt_of_lt_of_le hi hn)))) gX2_douse_X0_goDark rfl kd_X0_goDark ⟨Nat.le_of_ble_eq_true rfl, Nat.le_of_ble_eq_true rfl⟩ ([hb_ob q b1 b2].length + (3 + i)) (hb_Lh (Nat.le_of_lt (Nat.lt_of_lt_of_le hi hn))) rfl (Nat.le_of_ble_eq_true rfl) ⟨rfl, rfl⟩ ⟨Nat.le_of_ble_eq_true rfl, Nat.le_of_ble_eq_true rfl⟩ rfl (fun _ _ => ?_)
  refine jk_ws (ws' := (hb_L E [hb_ob q b1 b2] (hb_LW E b2 C2 G2 M2 ++ Y) b1 (va_up C i (hb_darkF (C i))) G M)) (hb_Sh (Nat.le_of_lt (Nat.lt_of_lt_of_le hi hn)) rfl) ?_
  refine jk_aload_n K dX2_douse_10 rfl 0 rfl ?_
  refine jk_get (C := RX0) (T := TX0) (N := 11) (nm := "wood") (ds := "I") (v := .int ((hb_darkF (C i)) 0)) K dX2_douse_11 hin_RX0 (by decide +kernel) ([hb_ob q b1 b2].length + (3 + i)) (hb_Lhu (Nat.le_of_lt (Nat.lt_of_lt_of_le hi hn))) rfl 0 rfl (by decide) rfl ?_
  exact jk_iret K hz dX2_douse_14 i rfl ⟨hi, rfl, hal⟩ rfl rfl (Nat.le_of_ble_eq_true rfl) (Nat.le_of_ble_eq_true rfl)
