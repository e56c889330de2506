theorem kd_X0_burnOn : yX0_burnOn.cls = RX0 ∧ yX0_burnOn.cls ≠ "java/lang/invoke/MethodHandle" ∧ yX0_burnOn.cls ≠ "java/lang/invoke/VarHandle" ∧ (parseMethodDescriptor yX0_burnOn.desc).map (fun d => d.parameters.length) = some 0 := by decide +kernel
theorem kd_X0_isReady : yX0_isReady.cls = RX0 ∧ yX0_isReady.cls ≠ "java/lang/invoke/MethodHandle" ∧ yX0_isReady.cls ≠ "java/lang/invoke/VarHandle" ∧ (parseMethodDescriptor yX0_isReady.desc).map (fun d => d.parameters.length) = some 0 := by decide +kernel
theorem kd_X0_kindle : yX0_kindle.cls = RX0 ∧ yX0_kindle.cls ≠ "java/lang/invoke/MethodHandle" ∧ yX0_kindle.cls ≠ "java/lang/invoke/VarHandle" ∧ (parseMethodDescriptor yX0_kindle.desc).map (fun d => d.parameters.length) = some 1 := by decide +kernel
theorem kd_X1_answerSignals : yX1_answerSignals.cls = RX1 ∧ yX1_answerSignals.cls ≠ "java/lang/invoke/MethodHandle" ∧ yX1_answerSignals.cls ≠ "java/lang/invoke/VarHandle" ∧ (parseMethodDescriptor yX1_answerSignals.desc).map (fun d => d.parameters.length) = some 0 := by decide +kernel
theorem kd_X1_burnOn : yX1_burnOn.cls = RX1 ∧ yX1_burnOn.cls ≠ "java/lang/invoke/MethodHandle" ∧ yX1_burnOn.cls ≠ "java/lang/invoke/VarHandle" ∧ (parseMethodDescriptor yX1_burnOn.desc).map (fun d => d.parameters.length) = some 0 := by decide +kernel
theorem kd_X1_kindle : yX1_kindle.cls = RX1 ∧ yX1_kindle.cls ≠ "java/lang/invoke/MethodHandle" ∧ yX1_kindle.cls ≠ "java/lang/invoke/VarHandle" ∧ (parseMethodDescriptor yX1_kindle.desc).map (fun d => d.parameters.length) = some 2 := by decide +kernel
theorem kd_X1_kindleOn : yX1_kindleOn.cls = RX1 ∧ yX1_kindleOn.cls ≠ "java/lang/invoke/MethodHandle" ∧ yX1_kindleOn.cls ≠ "java/lang/invoke/VarHandle" ∧ (parseMethodDescriptor yX1_kindleOn.desc).map (fun d => d.parameters.length) = some 0 := by decide +kernel
theorem kd_X1_lookOut : yX1_lookOut.cls = RX1 ∧ yX1_lookOut.cls ≠ "java/lang/invoke/MethodHandle" ∧ yX1_lookOut.cls ≠ "java/lang/invoke/VarHandle" ∧ (parseMethodDescriptor yX1_lookOut.desc).map (fun d => d.parameters.length) = some 0 := by decide +kernel
theorem kd_X1_nearestFire : yX1_nearestFire.cls = RX1 ∧ yX1_nearestFire.cls ≠ "java/lang/invoke/MethodHandle" ∧ yX1_nearestFire.cls ≠ "java/lang/invoke/VarHandle" ∧ (parseMethodDescriptor yX1_nearestFire.desc).map (fun d => d.parameters.length) = some 1 := by decide +kernel
theorem kd_X1_passOne : yX1_passOne.cls = RX1 ∧ yX1_passOne.cls ≠ "java/lang/invoke/MethodHandle" ∧ yX1_passOne.cls ≠ "java/lang/invoke/VarHandle" ∧ (parseMethodDescriptor yX1_passOne.desc).map (fun d => d.parameters.length) = some 0 := by decide +kernel
theorem kd_X1_rememberFires : yX1_rememberFires.cls = RX1 ∧ yX1_rememberFires.cls ≠ "java/lang/invoke/MethodHandle" ∧ yX1_rememberFires.cls ≠ "java/lang/invoke/VarHandle" ∧ (parseMethodDescriptor yX1_rememberFires.desc).map (fun d => d.parameters.length) = some 0 := by decide +kernel
theorem kd_X1_seesGlow : yX1_seesGlow.cls = RX1 ∧ yX1_seesGlow.cls ≠ "java/lang/invoke/MethodHandle" ∧ yX1_seesGlow.cls ≠ "java/lang/invoke/VarHandle" ∧ (parseMethodDescriptor yX1_seesGlow.desc).map (fun d => d.parameters.length) = some 1 := by decide +kernel
theorem kd_X1_sourceSeenFrom : yX1_sourceSeenFrom.cls = RX1 ∧ yX1_sourceSeenFrom.cls ≠ "java/lang/invoke/MethodHandle" ∧ yX1_sourceSeenFrom.cls ≠ "java/lang/invoke/VarHandle" ∧ (parseMethodDescriptor yX1_sourceSeenFrom.desc).map (fun d => d.parameters.length) = some 1 := by decide +kernel
theorem kd_X1_startBurning : yX1_startBurning.cls = RX1 ∧ yX1_startBurning.cls ≠ "java/lang/invoke/MethodHandle" ∧ yX1_startBurning.cls ≠ "java/lang/invoke/VarHandle" ∧ (parseMethodDescriptor yX1_startBurning.desc).map (fun d => d.parameters.length) = some 1 := by decide +kernel
set_option maxHeartbeats 4000000 in
set_option maxRecDepth 100000 in
theorem hb_X1_kindle (l : Launch) (hl : l.stackTraces = false) (E : jk_T) (X Y : va_W) (b : Nat → Nat) (C : Nat → Nat → Int32) (G M : Nat → Int32) (i : Nat) (hi : i < 10) (src : Int32) : jk_fn l yX1_kindle wsX1_kindle ({ frames := 1, cells := 0, slots := 0, locals := 22 } : Room) [.ref (b 0), .int (nI i), .int src] E (hb_L E X Y b C G M) (none) (hb_L E X Y b (hb_kC C i src) (hb_kG G src) M) := by
  refine jk_of (lv := [(0, .ref (b 0)), (1, .int (nI i)), (2, .int src)]) (own := RX1) (nm := "kindle") hl (by decide +kernel) rfl (Nat.le_of_ble_eq_true rfl) rfl rfl rfl (fun Γ hΓ K hnm hz => ?_)
  subst hΓ
  have hin_RX1 : ∀ w ∈ u_ws RX1 TX1 9, w ∈ wsX1_kindle := by decide +kernel
  refine jk_aload_n K dX1_kindle_0 rfl 0 rfl ?_
  refine jk_iload_n K dX1_kindle_1 rfl 1 rfl ?_
  refine jk_cVr K (n' := 0) (k' := 0) [.int (nI i)] [] dX1_kindle_2 (hb_X1_hillAt_i _ hl E X Y b C G M i hi) gX1_kindle_X1_hillAt rfl kd_X1_hillAt ⟨Nat.le_of_ble_eq_true rfl, Nat.le_of_ble_eq_true rfl⟩ (X.length + 0) hb_L0 rfl (Nat.le_of_ble_eq_true rfl) ⟨rfl, rfl⟩ ⟨Nat.le_of_ble_eq_true rfl, Nat.le_of_ble_eq_true rfl⟩ rfl (fun _ _ => ?_)
  refine jk_iload_n K dX1_kindle_5 rfl 2 rfl ?_
  refine jk_cVv K (n' := 0) (k' := 0) [.int src] [] dX1_kindle_6 (hb_X0_kindle _ hl E (hb_L E X Y b C G M) (X.length + (3 + i)) (b (3 + i)) (C i) (hb_Lh (Nat.le_of_lt hi)) src) gX1_kindle_X0_kindle rfl kd_X0_kindle ⟨Nat.le_of_ble_eq_true rfl, Nat.le_of_ble_eq_true rfl⟩ (X.length + (3 + i)) (hb_Lh (Nat.le_of_lt hi)) rfl (Nat.le_of_ble_eq_true rfl) ⟨rfl, rfl⟩ ⟨Nat.le_of_ble_eq_true rfl, Nat.le_of_ble_eq_true rfl⟩ rfl (fun _ _ => ?_)
  refine jk_ws (ws' := (hb_L E X Y b (va_up C i (hb_kindleF (C i) src)) G M)) (hb_Sh (Nat.le_of_lt hi) rfl) ?_
  refine jk_aload_n K dX1_kindle_9 rfl 0 rfl ?_
  refine jk_dup K dX1_kindle_10 rfl ?_
  refine jk_get (C := RX1) (T := TX1) (N := 9) (nm := "lit") (ds := "I") (v := .int (G 4)) K dX1_kindle_11 hin_RX1 (by decide +kernel) (X.length + 0) hb_L0 rfl 7 rfl (by decide) rfl ?_
  refine jk_iconst (x := 1) K dX1_kindle_14 rfl ?_
  refine jk_iadd K dX1_kindle_15 ?_
  refine jk_put (C := RX1) (T := TX1) (N := 9) (nm := "lit") (ds := "I") (w' := (hb_L E X Y b (va_up C i (hb_kindleF (C i) src)) (hb_fu G 4 ((G 4) + 1)) M)) K dX1_kindle_16 hin_RX1 tyX1 tyX1_ok nmX1 (by decide +kernel) (X.length + 0) hb_L0 rfl 7 rfl (by decide) rfl rfl rfl rfl (Nat.le_of_ble_eq_true rfl) (hb_S0 rfl) ?_
  refine jk_iload_n K dX1_kindle_19 rfl 2 rfl ?_
  refine jk_iconst (x := (-1)) K dX1_kindle_20 rfl ?_
  refine jk_icmp_ne (tgt := 34) K dX1_kindle_21 rfl (fun c_21 => ?_) (fun c_21 => ?_)
  · exact jk_vret K hz dX1_kindle_34 () rfl trivial (by unfold hb_kG hb_kC; rw [if_neg c_21]) (Nat.le_of_ble_eq_true rfl) (Nat.le_of_ble_eq_true rfl)
  · refine jk_aload_n K dX1_kindle_24 rfl 0 rfl ?_
    refine jk_dup K dX1_kindle_25 rfl ?_
    refine jk_get (C := RX1) (T := TX1) (N := 9) (nm := "mistaken") (ds := "I") (v := .int ((hb_fu G 4 ((G 4) + 1)) 5)) K dX1_kindle_26 hin_RX1 (by decide +kernel) (X.length + 0) hb_L0 rfl 8 rfl (by decide) rfl ?_
    refine jk_iconst (x := 1) K dX1_kindle_29 rfl ?_
    refine jk_iadd K dX1_kindle_30 ?_
    refine jk_put (C := RX1) (T := TX1) (N := 9) (nm := "mistaken") (ds := "I") (w' := (hb_L E X Y b (va_up C i (hb_kindleF (C i) src)) (hb_fu (hb_fu G 4 ((G 4) + 1)) 5 (((hb_fu G 4 ((G 4) + 1)) 5) + 1)) M)) K dX1_kindle_31 hin_RX1 tyX1 tyX1_ok nmX1 (by decide +kernel) (X.length + 0) hb_L0 rfl 8 rfl (by decide) rfl rfl rfl rfl (Nat.le_of_ble_eq_true rfl) (hb_S0 rfl) ?_
    exact jk_vret K hz dX1_kindle_34 () rfl trivial (by unfold hb_kG hb_kC; rw [if_pos c_21]; rfl) (Nat.le_of_ble_eq_true rfl) (Nat.le_of_ble_eq_true rfl)
set_option maxHeartbeats 4000000 in
set_option maxRecDepth 100000 in
theorem hb_X1_kindleByHand (l : Launch) (hl : l.stackTraces = false) (E : jk_T) (X Y : va_W) (b : Nat → Nat) (C : Nat → Nat → Int32) (G M : Nat → Int32) (i : Nat) (hi : i < 10) : jk_fn l yX1_kindleByHand wsX1_kindleByHand ({ frames := 2, cells := 0, slots := 0, locals := 44 } : Room) [.ref (b 0), .int (nI i)] E (hb_L E X Y b C G M) (none) (hb_L E X Y b (hb_hC C i) (hb_kG G (nI i)) M) := by
  refine jk_of (lv := [(0, .ref (b 0)), (1, .int (nI i))]) (own := RX1) (nm := "kindleByHand") hl (by decide +kernel) rfl (Nat.le_of_ble_eq_true rfl) rfl rfl rfl (fun Γ hΓ K hnm hz => ?_)
  subst hΓ
  have hin_RX0 : ∀ w ∈ u_ws RX0 TX0 11, w ∈ wsX1_kindleByHand := by decide +kernel
  refine jk_aload_n K dX1_kindleByHand_0 rfl 0 rfl ?_
  refine jk_iload_n K dX1_kindleByHand_1 rfl 1 rfl ?_
  refine jk_iload_n K dX1_kindleByHand_2 rfl 1 rfl ?_
  refine jk_cVv K (n' := 0) (k' := 0) [.int (nI i), .int (nI i)] [] dX1_kindleByHand_3 (hb_X1_kindle _ hl E X Y b C G M i hi (nI i)) gX1_kindleByHand_X1_kindle rfl kd_X1_kindle ⟨Nat.le_of_ble_eq_true rfl, Nat.le_of_ble_eq_true rfl⟩ (X.length + 0) hb_L0 rfl (Nat.le_of_ble_eq_true rfl) ⟨rfl, rfl⟩ ⟨Nat.le_of_ble_eq_true rfl, Nat.le_of_ble_eq_true rfl⟩ rfl (fun _ _ => ?_)
  refine jk_aload_n K dX1_kindleByHand_6 rfl 0 rfl ?_
  refine jk_iload_n K dX1_kindleByHand_7 rfl 1 rfl ?_
  refine jk_cVr K (n' := 0) (k' := 0) [.int (nI i)] [] dX1_kindleByHand_8 (hb_X1_hillAt_i _ hl E X Y b (hb_kC C i (nI i)) (hb_kG G (nI i)) M i hi) gX1_kindleByHand_X1_hillAt rfl kd_X1_hillAt ⟨Nat.le_of_ble_eq_true rfl, Nat.le_of_ble_eq_true rfl⟩ (X.length + 0) hb_L0 rfl (Nat.le_of_ble_eq_true rfl) ⟨rfl, rfl⟩ ⟨Nat.le_of_ble_eq_true rfl, Nat.le_of_ble_eq_true rfl⟩ rfl (fun _ _ => ?_)
  refine jk_iconst (x := 0) K dX1_kindleByHand_11 rfl ?_
  refine jk_put (C := RX0) (T := TX0) (N := 11) (nm := "answers") (ds := "I") (w' := (hb_L E X Y b (va_up (hb_kC C i (nI i)) i (hb_fu ((hb_kC C i (nI i)) i) 10 0)) (hb_kG G (nI i)) M)) K dX1_kindleByHand_12 hin_RX0 tyX0 tyX0_ok nmX0 (by decide +kernel) (X.length + (3 + i)) (hb_Lh (Nat.le_of_lt hi)) rfl 10 rfl (by decide) rfl rfl rfl rfl (Nat.le_of_ble_eq_true rfl) (hb_Sh (Nat.le_of_lt hi) rfl) ?_
  exact jk_vret K hz dX1_kindleByHand_15 () rfl trivial (by unfold hb_hC hb_kC; rw [hb_up_up, va_up_self]) (Nat.le_of_ble_eq_true rfl) (Nat.le_of_ble_eq_true rfl)
set_option maxHeartbeats 4000000 in
set_option maxRecDepth 100000 in
theorem hb_X1_rememberFires (l : Launch) (hl : l.stackTraces = false) (E : jk_T) (X Y : va_W) (b : Nat → Nat) (C : Nat → Nat → Int32) (G M : Nat → Int32) (n : Nat) (hn : n ≤ 10) (hg : G 0 = nI n) : jk_fn l yX1_rememberFires wsX1_rememberFires ({ frames := 1, cells := 0, slots := 0, locals := 22 } : Room) [.ref (b 0)] E (hb_L E X Y b C G M) (none) (hb_L E X Y b (hb_rem C n) G M) := by
  refine jk_of (lv := [(0, .ref (b 0))]) (own := RX1) (nm := "rememberFires") hl (by decide +kernel) rfl (Nat.le_of_ble_eq_true rfl) rfl rfl rfl (fun Γ hΓ K hnm hz => ?_)
  subst hΓ
  have hin_RX0 : ∀ w ∈ u_ws RX0 TX0 11, w ∈ wsX1_rememberFires := by decide +kernel
  have hin_RX1 : ∀ w ∈ u_ws RX1 TX1 9, w ∈ wsX1_rememberFires := by decide +kernel
  have hL : ∀ j, j ≤ n → jk_J Γ E (hb_L E X Y b (hb_rem C j) G M) 0 0 2 [(1, .int (nI j)), (0, .ref (b 0))] [] := by
    refine jk_loop (fun j hj ih => ?_)
    refine jk_iload_n K dX1_rememberFires_2 rfl 0 rfl ?_
    refine jk_aload_n K dX1_rememberFires_3 rfl 1 rfl ?_
    refine jk_get (C := RX1) (T := TX1) (N := 9) (nm := "count") (ds := "I") (v := .int (G 0)) K dX1_rememberFires_4 hin_RX1 (by decide +kernel) (X.length + 0) hb_L0 rfl 3 rfl (by decide) rfl ?_
    refine jk_icmp_ge (tgt := 30) K dX1_rememberFires_7 rfl (fun c_7 => ?_) (fun c_7 => ?_)
    · have hjn : j = n := hb_ex hg (by omega) hj c_7
      exact jk_vret K hz dX1_rememberFires_30 () rfl trivial (by rw [hjn]) (Nat.le_of_ble_eq_true rfl) (Nat.le_of_ble_eq_true rfl)
    · have hlt : j < n := hb_in hg (by omega) hj c_7
      refine jk_aload_n K dX1_rememberFires_10 rfl 1 rfl ?_
      refine jk_iload_n K dX1_rememberFires_11 rfl 0 rfl ?_
      refine jk_cVr K (n' := 0) (k' := 0) [.int (nI j)] [] dX1_rememberFires_12 (hb_X1_hillAt_i _ hl E X Y b (hb_rem C j) G M j (Nat.lt_of_lt_of_le hlt hn)) gX1_rememberFires_X1_hillAt rfl kd_X1_hillAt ⟨Nat.le_of_ble_eq_true rfl, Nat.le_of_ble_eq_true rfl⟩ (X.length + 0) hb_L0 rfl (Nat.le_of_ble_eq_true rfl) ⟨rfl, rfl⟩ ⟨Nat.le_of_ble_eq_true rfl, Nat.le_of_ble_eq_true rfl⟩ rfl (fun _ _ => ?_)
      refine jk_astore_n (lv' := [(2, .ref (b (3 + j))), (1, .int (nI j)), (0, .ref (b 0))]) K dX1_rememberFires_15 rfl (by decide) rfl ?_
      refine jk_aload_n K dX1_rememberFires_16 rfl 0 rfl ?_
      refine jk_aload_n K dX1_rememberFires_17 rfl 0 rfl ?_
      refine jk_get (C := RX0) (T := TX0) (N := 11) (nm := "fire") (ds := "I") (v := .int (((hb_rem C j) j) 5)) K dX1_rememberFires_18 hin_RX0 (by decide +kernel) (X.length + (3 + j)) (hb_Lh (Nat.le_of_lt (Nat.lt_of_lt_of_le hlt hn))) rfl 5 rfl (by decide) rfl ?_
      refine jk_put (C := RX0) (T := TX0) (N := 11) (nm := "fireBefore") (ds := "I") (w' := (hb_L E X Y b (va_up (hb_rem C j) j (hb_fu ((hb_rem C j) j) 6 (((hb_rem C j) j) 5))) G M)) K dX1_rememberFires_21 hin_RX0 tyX0 tyX0_ok nmX0 (by decide +kernel) (X.length + (3 + j)) (hb_Lh (Nat.le_of_lt (Nat.lt_of_lt_of_le hlt hn))) rfl 6 rfl (by decide) rfl rfl rfl rfl (Nat.le_of_ble_eq_true rfl) (hb_Sh (Nat.le_of_lt (Nat.lt_of_lt_of_le hlt hn)) rfl) ?_
      refine jk_iinc (v := (nI (j + 1))) (lv' := [(1, .int (nI (j + 1))), (2, .ref (b (3 + j))), (0, .ref (b 0))]) K dX1_rememberFires_24 1 rfl (nI_1 j) (by decide) rfl ?_
      refine jk_goto (tgt := 2) K dX1_rememberFires_27 rfl ?_
      refine jk_sub (lv' := [(1, .int (nI (j + 1))), (0, .ref (b 0))]) [0, 2] rfl ?_
      refine jk_ws (ws' := (hb_L E X Y b (hb_rem C (j + 1)) G M)) (by first | rfl | (simp [hb_rem_s, c_7]; done)) ?_
      exact ih hlt
  refine jk_iconst (x := 0) K dX1_rememberFires_0 rfl ?_
  refine jk_istore_n (lv' := [(1, .int 0), (0, .ref (b 0))]) K dX1_rememberFires_1 rfl (by decide) rfl ?_
  refine jk_lv (lv' := [(1, .int (nI 0)), (0, .ref (b 0))]) (by first | rfl | (simp [hb_rem_s]; done)) ?_
  refine jk_ws (ws' := (hb_L E X Y b (hb_rem C 0) G M)) (by first | rfl | (simp [hb_rem_s]; done)) ?_
  exact hL 0 (Nat.zero_le _)
set_option maxHeartbeats 4000000 in
set_option maxRecDepth 100000 in
theorem hb_X1_seesGlow (l : Launch) (hl : l.stackTraces = false) (E : jk_T) (X Y : va_W) (b : Nat → Nat) (C : Nat → Nat → Int32) (G M : Nat → Int32) (i : Nat) (hi : i < 10) : jk_fn l yX1_seesGlow wsX1_seesGlow ({ frames := 0, cells := 0, slots := 0, locals := 0 } : Room) [.ref (b 0), .ref (b (3 + i))] E (hb_L E X Y b C G M) (some (.int (hb_glo (C i) G))) (hb_L E X Y b C G M) := by
  refine jk_of (lv := [(0, .ref (b 0)), (1, .ref (b (3 + i)))]) (own := RX1) (nm := "seesGlow") hl (by decide +kernel) rfl (Nat.le_of_ble_eq_true rfl) rfl rfl rfl (fun Γ hΓ K hnm hz => ?_)
  subst hΓ
  have hin_RX0 : ∀ w ∈ u_ws RX0 TX0 11, w ∈ wsX1_seesGlow := by decide +kernel
  have hin_RX1 : ∀ w ∈ u_ws RX1 TX1 9, w ∈ wsX1_seesGlow := by decide +kernel
  refine jk_aload_n K dX1_seesGlow_0 rfl 1 rfl ?_
  refine jk_get (C := RX0) (T := TX0) (N := 11) (nm := "east") (ds := "Z") (v := .int (hb_zb ((C i) 3))) K dX1_seesGlow_1 hin_RX0 (by decide +kernel) (X.length + (3 + i)) (hb_Lh (Nat.le_of_lt hi)) rfl 3 rfl (by decide) rfl ?_
  refine jk_if_eq (tgt := 18) K dX1_seesGlow_4 rfl (fun c_4 => ?_) (fun c_4 => ?_)
  · refine jk_iconst (x := 0) K dX1_seesGlow_18 rfl ?_
    exact jk_iret K hz dX1_seesGlow_19 () (by unfold hb_glo; rw [if_neg (fun q => q.1 c_4)]) trivial rfl rfl (Nat.le_of_ble_eq_true rfl) (Nat.le_of_ble_eq_true rfl)
  · refine jk_aload_n K dX1_seesGlow_7 rfl 0 rfl ?_
    refine jk_get (C := RX1) (T := TX1) (N := 9) (nm := "glow") (ds := "I") (v := .int (G 2)) K dX1_seesGlow_8 hin_RX1 (by decide +kernel) (X.length + 0) hb_L0 rfl 5 rfl (by decide) rfl ?_
    refine jk_if_le (tgt := 18) K dX1_seesGlow_11 rfl (fun c_11 => ?_) (fun c_11 => ?_)
    · refine jk_iconst (x := 0) K dX1_seesGlow_18 rfl ?_
      exact jk_iret K hz dX1_seesGlow_19 () (by unfold hb_glo; rw [if_neg (fun q => absurd q.2 (Int32.not_lt.mpr c_11))]) trivial rfl rfl (Nat.le_of_ble_eq_true rfl) (Nat.le_of_ble_eq_true rfl)
    · refine jk_iconst (x := 1) K dX1_seesGlow_14 rfl ?_
      refine jk_goto (tgt := 19) K dX1_seesGlow_15 rfl ?_
      exact jk_iret K hz dX1_seesGlow_19 () (by unfold hb_glo; rw [if_pos ⟨c_4, Int32.not_le.mp c_11⟩]) trivial rfl rfl (Nat.le_of_ble_eq_true rfl) (Nat.le_of_ble_eq_true rfl)
set_option maxHeartbeats 4000000 in
set_option maxRecDepth 100000 in
theorem hb_X1_nearestFire (l : Launch) (hl : l.stackTraces = false) (E : jk_T) (X Y : va_W) (b : Nat → Nat) (C : Nat → Nat → Int32) (G M : Nat → Int32) (a : Nat) (ha : a < 10) (n : Nat) (hn : n ≤ 10) (hg : G 0 = nI n) : jk_fn l yX1_nearestFire wsX1_nearestFire ({ frames := 1, cells := 0, slots := 0, locals := 23 } : Room) [.ref (b 0), .int (nI a)] E (hb_L E X Y b C G M) (some (.int (hb_nf C G M a n).1)) (hb_L E X Y b C G M) := by
  refine jk_of (lv := [(0, .ref (b 0)), (1, .int (nI a))]) (own := RX1) (nm := "nearestFire") hl (by decide +kernel) rfl (Nat.le_of_ble_eq_true rfl) rfl rfl rfl (fun Γ hΓ K hnm hz => ?_)
  subst hΓ
  have hin_RX0 : ∀ w ∈ u_ws RX0 TX0 11, w ∈ wsX1_nearestFire := by decide +kernel
  have hin_RX1 : ∀ w ∈ u_ws RX1 TX1 9, w ∈ wsX1_nearestFire := by decide +kernel
  have hL : ∀ j, j ≤ n → jk_J Γ E (hb_L E X Y b C G M) 0 0 8 [(4, .int (nI j)), (3, .int ((hb_nf C G M a j).2)), (2, .int ((hb_nf C G M a j).1)), (1, .int (nI a)), (0, .ref (b 0))] [] := by
    refine jk_loop (fun j hj ih => ?_)
    refine jk_iload K dX1_nearestFire_8 0 rfl ?_
    refine jk_aload_n K dX1_nearestFire_10 rfl 4 rfl ?_
    refine jk_get (C := RX1) (T := TX1) (N := 9) (nm := "count") (ds := "I") (v := .int (G 0)) K dX1_nearestFire_11 hin_RX1 (by decide +kernel) (X.length + 0) hb_L0 rfl 3 rfl (by decide) rfl ?_
    refine jk_icmp_ge (tgt := 78) K dX1_nearestFire_14 rfl (fun c_14 => ?_) (fun c_14 => ?_)
    · have hjn : j = n := hb_ex hg (by omega) hj c_14
      refine jk_iload_n K dX1_nearestFire_78 rfl 2 rfl ?_
      exact jk_iret K hz dX1_nearestFire_79 () (by rw [hjn]) trivial rfl rfl (Nat.le_of_ble_eq_true rfl) (Nat.le_of_ble_eq_true rfl)
    · have hlt : j < n := hb_in hg (by omega) hj c_14
      refine jk_aload_n K dX1_nearestFire_17 rfl 4 rfl ?_
      refine jk_iload_n K dX1_nearestFire_18 rfl 3 rfl ?_
      refine jk_iload K dX1_nearestFire_19 0 rfl ?_
      refine jk_cVi K (n' := 0) (k' := 0) [.int (nI a), .int (nI j)] [] dX1_nearestFire_21 (hb_X1_milesFrom _ hl E X Y b C G M a j ha (Nat.lt_of_lt_of_le hlt hn)) gX1_nearestFire_X1_milesFrom rfl kd_X1_milesFrom ⟨Nat.le_of_ble_eq_true rfl, Nat.le_of_ble_eq_true rfl⟩ (X.length + 0) hb_L0 rfl (Nat.le_of_ble_eq_true rfl) ⟨rfl, rfl⟩ ⟨Nat.le_of_ble_eq_true rfl, Nat.le_of_ble_eq_true rfl⟩ rfl (fun _ _ => ?_)
      refine jk_istore (lv' := [(5, .int (M (a * 10 + j))), (4, .int (nI j)), (3, .int ((hb_nf C G M a j).2)), (2, .int ((hb_nf C G M a j).1)), (1, .int (nI a)), (0, .ref (b 0))]) K dX1_nearestFire_24 (by decide) rfl ?_
      refine jk_aload_n K dX1_nearestFire_26 rfl 5 rfl ?_
      refine jk_iload K dX1_nearestFire_27 1 rfl ?_
      refine jk_cVr K (n' := 0) (k' := 0) [.int (nI j)] [] dX1_nearestFire_29 (hb_X1_hillAt_i _ hl E X Y b C G M j (Nat.lt_of_lt_of_le hlt hn)) gX1_nearestFire_X1_hillAt rfl kd_X1_hillAt ⟨Nat.le_of_ble_eq_true rfl, Nat.le_of_ble_eq_true rfl⟩ (X.length + 0) hb_L0 rfl (Nat.le_of_ble_eq_true rfl) ⟨rfl, rfl⟩ ⟨Nat.le_of_ble_eq_true rfl, Nat.le_of_ble_eq_true rfl⟩ rfl (fun _ _ => ?_)
      refine jk_get (C := RX0) (T := TX0) (N := 11) (nm := "fireBefore") (ds := "I") (v := .int ((C j) 6)) K dX1_nearestFire_32 hin_RX0 (by decide +kernel) (X.length + (3 + j)) (hb_Lh (Nat.le_of_lt (Nat.lt_of_lt_of_le hlt hn))) rfl 6 rfl (by decide) rfl ?_
      refine jk_iconst (x := 2) K dX1_nearestFire_35 rfl ?_
      refine jk_icmp_ne (tgt := 43) K dX1_nearestFire_36 rfl (fun c_36 => ?_) (fun c_36 => ?_)
      · refine jk_iconst (x := 0) K dX1_nearestFire_43 rfl ?_
        refine jk_istore (lv' := [(6, .int 0), (5, .int (M (a * 10 + j))), (4, .int (nI j)), (3, .int ((hb_nf C G M a j).2)), (2, .int ((hb_nf C G M a j).1)), (1, .int (nI a)), (0, .ref (b 0))]) K dX1_nearestFire_44 (by decide) rfl ?_
        refine jk_iload K dX1_nearestFire_46 0 rfl ?_
        refine jk_if_eq (tgt := 72) K dX1_nearestFire_48 rfl (fun c_48 => ?_) (fun c_48 => ?_)
        · refine jk_iinc (v := (nI (j + 1))) (lv' := [(4, .int (nI (j + 1))), (6, .int 0), (5, .int (M (a * 10 + j))), (3, .int ((hb_nf C G M a j).2)), (2, .int ((hb_nf C G M a j).1)), (1, .int (nI a)), (0, .ref (b 0))]) K dX1_nearestFire_72 2 rfl (nI_1 j) (by decide) rfl ?_
          refine jk_goto (tgt := 8) K dX1_nearestFire_75 rfl ?_
          refine jk_sub (lv' := [(4, .int (nI (j + 1))), (3, .int ((hb_nf C G M a j).2)), (2, .int ((hb_nf C G M a j).1)), (1, .int (nI a)), (0, .ref (b 0))]) [0, 3, 4, 5, 6] rfl ?_
          refine jk_lv (lv' := [(4, .int (nI (j + 1))), (3, .int ((hb_nf C G M a (j + 1)).2)), (2, .int ((hb_nf C G M a (j + 1)).1)), (1, .int (nI a)), (0, .ref (b 0))]) (by first | rfl | (simp [hb_nf_s, c_14, c_36]; done)) ?_
          exact ih hlt
        · exact absurd (by decide) c_48
      · refine jk_iconst (x := 1) K dX1_nearestFire_39 rfl ?_
        refine jk_goto (tgt := 44) K dX1_nearestFire_40 rfl ?_
        refine jk_istore (lv' := [(6, .int 1), (5, .int (M (a * 10 + j))), (4, .int (nI j)), (3, .int ((hb_nf C G M a j).2)), (2, .int ((hb_nf C G M a j).1)), (1, .int (nI a)), (0, .ref (b 0))]) K dX1_nearestFire_44 (by decide) rfl ?_
        refine jk_iload K dX1_nearestFire_46 0 rfl ?_
        refine jk_if_eq (tgt := 72) K dX1_nearestFire_48 rfl (fun c_48 => ?_) (fun c_48 => ?_)
        · exact absurd c_48 (by decide)
        · refine jk_aload_n K dX1_nearestFire_51 rfl 6 rfl ?_
          refine jk_iload K dX1_nearestFire_52 1 rfl ?_
          refine jk_cVi K (n' := 0) (k' := 0) [.int (M (a * 10 + j))] [] dX1_nearestFire_54 (hb_X1_isClearOver _ hl E X Y b C G M (M (a * 10 + j))) gX1_nearestFire_X1_isClearOver rfl kd_X1_isClearOver ⟨Nat.le_of_ble_eq_true rfl, Nat.le_of_ble_eq_true rfl⟩ (X.length + 0) hb_L0 rfl (Nat.le_of_ble_eq_true rfl) ⟨rfl, rfl⟩ ⟨Nat.le_of_ble_eq_true rfl, Nat.le_of_ble_eq_true rfl⟩ rfl (fun _ _ => ?_)
          refine jk_if_eq (tgt := 72) K dX1_nearestFire_57 rfl (fun c_57 => ?_) (fun c_57 => ?_)
          · refine jk_iinc (v := (nI (j + 1))) (lv' := [(4, .int (nI (j + 1))), (6, .int 1), (5, .int (M (a * 10 + j))), (3, .int ((hb_nf C G M a j).2)), (2, .int ((hb_nf C G M a j).1)), (1, .int (nI a)), (0, .ref (b 0))]) K dX1_nearestFire_72 2 rfl (nI_1 j) (by decide) rfl ?_
            refine jk_goto (tgt := 8) K dX1_nearestFire_75 rfl ?_
            refine jk_sub (lv' := [(4, .int (nI (j + 1))), (3, .int ((hb_nf C G M a j).2)), (2, .int ((hb_nf C G M a j).1)), (1, .int (nI a)), (0, .ref (b 0))]) [0, 3, 4, 5, 6] rfl ?_
            refine jk_lv (lv' := [(4, .int (nI (j + 1))), (3, .int ((hb_nf C G M a (j + 1)).2)), (2, .int ((hb_nf C G M a (j + 1)).1)), (1, .int (nI a)), (0, .ref (b 0))]) (by first | rfl | (simp [hb_nf_s, c_14, c_36, c_57]; done)) ?_
            exact ih hlt
          · refine jk_iload K dX1_nearestFire_60 1 rfl ?_
            refine jk_iload_n K dX1_nearestFire_62 rfl 3 rfl ?_
            refine jk_icmp_ge (tgt := 72) K dX1_nearestFire_63 rfl (fun c_63 => ?_) (fun c_63 => ?_)
            · refine jk_iinc (v := (nI (j + 1))) (lv' := [(4, .int (nI (j + 1))), (6, .int 1), (5, .int (M (a * 10 + j))), (3, .int ((hb_nf C G M a j).2)), (2, .int ((hb_nf C G M a j).1)), (1, .int (nI a)), (0, .ref (b 0))]) K dX1_nearestFire_72 2 rfl (nI_1 j) (by decide) rfl ?_
              refine jk_goto (tgt := 8) K dX1_nearestFire_75 rfl ?_
              refine jk_sub (lv' := [(4, .int (nI (j + 1))), (3, .int ((hb_nf C G M a j).2)), (2, .int ((hb_nf C G M a j).1)), (1, .int (nI a)), (0, .ref (b 0))]) [0, 3, 4, 5, 6] rfl ?_
              refine jk_lv (lv' := [(4, .int (nI (j + 1))), (3, .int ((hb_nf C G M a (j + 1)).2)), (2, .int ((hb_nf C G M a (j + 1)).1)), (1, .int (nI a)), (0, .ref (b 0))]) (by first | rfl | (simp [hb_nf_s, c_14, c_36, c_57, c_63]; done)) ?_
              exact ih hlt
            · refine jk_iload K dX1_nearestFire_66 2 rfl ?_
              refine jk_istore_n (lv' := [(2, .int (nI j)), (6, .int 1), (5, .int (M (a * 10 + j))), (4, .int (nI j)), (3, .int ((hb_nf C G M a j).2)), (1, .int (nI a)), (0, .ref (b 0))]) K dX1_nearestFire_68 rfl (by decide) rfl ?_
              refine jk_iload K dX1_nearestFire_69 2 rfl ?_
              refine jk_istore_n (lv' := [(3, .int (M (a * 10 + j))), (2, .int (nI j)), (6, .int 1), (5, .int (M (a * 10 + j))), (4, .int (nI j)), (1, .int (nI a)), (0, .ref (b 0))]) K dX1_nearestFire_71 rfl (by decide) rfl ?_
              refine jk_iinc (v := (nI (j + 1))) (lv' := [(4, .int (nI (j + 1))), (3, .int (M (a * 10 + j))), (2, .int (nI j)), (6, .int 1), (5, .int (M (a * 10 + j))), (1, .int (nI a)), (0, .ref (b 0))]) K dX1_nearestFire_72 4 rfl (nI_1 j) (by decide) rfl ?_
              refine jk_goto (tgt := 8) K dX1_nearestFire_75 rfl ?_
              refine jk_sub (lv' := [(4, .int (nI (j + 1))), (3, .int (M (a * 10 + j))), (2, .int (nI j)), (1, .int (nI a)), (0, .ref (b 0))]) [0, 1, 2, 5, 6] rfl ?_
              refine jk_lv (lv' := [(4, .int (nI (j + 1))), (3, .int ((hb_nf C G M a (j + 1)).2)), (2, .int ((hb_nf C G M a (j + 1)).1)), (1, .int (nI a)), (0, .ref (b 0))]) (by first | rfl | (simp [hb_nf_s, c_14, c_36, c_57, c_63]; done)) ?_
              exact ih hlt
  refine jk_iconst (x := (-1)) K dX1_nearestFire_0 rfl ?_
  refine jk_istore_n (lv' := [(2, .int (-1)), (0, .ref (b 0)), (1, .int (nI a))]) K dX1_nearestFire_1 rfl (by decide) rfl ?_
  refine jk_bipush (x := 21) K dX1_nearestFire_2 rfl ?_
  refine jk_istore_n (lv' := [(3, .int 21), (2, .int (-1)), (0, .ref (b 0)), (1, .int (nI a))]) K dX1_nearestFire_4 rfl (by decide) rfl ?_
  refine jk_iconst (x := 0) K dX1_nearestFire_5 rfl ?_
  refine jk_istore (lv' := [(4, .int 0), (3, .int 21), (2, .int (-1)), (0, .ref (b 0)), (1, .int (nI a))]) K dX1_nearestFire_6 (by decide) rfl ?_
  refine jk_sub (lv' := [(4, .int 0), (3, .int 21), (2, .int (-1)), (1, .int (nI a)), (0, .ref (b 0))]) [0, 1, 2, 4, 3] rfl ?_
  refine jk_lv (lv' := [(4, .int (nI 0)), (3, .int ((hb_nf C G M a 0).2)), (2, .int ((hb_nf C G M a 0).1)), (1, .int (nI a)), (0, .ref (b 0))]) (by first | rfl | (simp [hb_nf_s]; done)) ?_
  exact hL 0 (Nat.zero_le _)
set_option maxHeartbeats 4000000 in
set_option maxRecDepth 100000 in
theorem hb_X1_lookOut (l : Launch) (hl : l.stackTraces = false) (E : jk_T) (X Y : va_W) (b : Nat → Nat) (C : Nat → Nat → Int32) (G M : Nat → Int32) (n : Nat) (hn : n ≤ 10) (hg : G 0 = nI n) : jk_fn l yX1_lookOut wsX1_lookOut ({ frames := 2, cells := 0, slots := 0, locals := 49 } : Room) [.ref (b 0)] E (hb_L E X Y b C G M) (none) (hb_L E X Y b (hb_lo C G M n n) G M) := by
  refine jk_of (lv := [(0, .ref (b 0))]) (own := RX1) (nm := "lookOut") hl (by decide +kernel) rfl (Nat.le_of_ble_eq_true rfl) rfl rfl rfl (fun Γ hΓ K hnm hz => ?_)
  subst hΓ
  have hin_RX0 : ∀ w ∈ u_ws RX0 TX0 11, w ∈ wsX1_lookOut := by decide +kernel
  have hin_RX1 : ∀ w ∈ u_ws RX1 TX1 9, w ∈ wsX1_lookOut := by decide +kernel
  have hL : ∀ j, j ≤ n → jk_J Γ E (hb_L E X Y b (hb_lo C G M n j) G M) 0 0 2 [(1, .int (nI j)), (0, .ref (b 0))] [] := by
    refine jk_loop (fun j hj ih => ?_)
    refine jk_iload_n K dX1_lookOut_2 rfl 0 rfl ?_
    refine jk_aload_n K dX1_lookOut_3 rfl 1 rfl ?_
    refine jk_get (C := RX1) (T := TX1) (N := 9) (nm := "count") (ds := "I") (v := .int (G 0)) K dX1_lookOut_4 hin_RX1 (by decide +kernel) (X.length + 0) hb_L0 rfl 3 rfl (by decide) rfl ?_
    refine jk_icmp_ge (tgt := 70) K dX1_lookOut_7 rfl (fun c_7 => ?_) (fun c_7 => ?_)
    · have hjn : j = n := hb_ex hg (by omega) hj c_7
      exact jk_vret K hz dX1_lookOut_70 () rfl trivial (by rw [hjn]) (Nat.le_of_ble_eq_true rfl) (Nat.le_of_ble_eq_true rfl)
    · have hlt : j < n := hb_in hg (by omega) hj c_7
      refine jk_aload_n K dX1_lookOut_10 rfl 1 rfl ?_
      refine jk_iload_n K dX1_lookOut_11 rfl 0 rfl ?_
      refine jk_cVr K (n' := 0) (k' := 0) [.int (nI j)] [] dX1_lookOut_12 (hb_X1_hillAt_i _ hl E X Y b (hb_lo C G M n j) G M j (Nat.lt_of_lt_of_le hlt hn)) gX1_lookOut_X1_hillAt rfl kd_X1_hillAt ⟨Nat.le_of_ble_eq_true rfl, Nat.le_of_ble_eq_true rfl⟩ (X.length + 0) hb_L0 rfl (Nat.le_of_ble_eq_true rfl) ⟨rfl, rfl⟩ ⟨Nat.le_of_ble_eq_true rfl, Nat.le_of_ble_eq_true rfl⟩ rfl (fun _ _ => ?_)
      refine jk_astore_n (lv' := [(2, .ref (b (3 + j))), (1, .int (nI j)), (0, .ref (b 0))]) K dX1_lookOut_15 rfl (by decide) rfl ?_
      refine jk_aload_n K dX1_lookOut_16 rfl 0 rfl ?_
      refine jk_cVi K (n' := 0) (k' := 0) [] [] dX1_lookOut_17 (hb_X0_isReady _ hl E (hb_L E X Y b (hb_lo C G M n j) G M) (X.length + (3 + j)) (b (3 + j)) ((hb_lo C G M n j) j) (hb_Lh (Nat.le_of_lt (Nat.lt_of_lt_of_le hlt hn)))) gX1_lookOut_X0_isReady rfl kd_X0_isReady ⟨Nat.le_of_ble_eq_true rfl, Nat.le_of_ble_eq_true rfl⟩ (X.length + (3 + j)) (hb_Lh (Nat.le_of_lt (Nat.lt_of_lt_of_le hlt hn))) rfl (Nat.le_of_ble_eq_true rfl) ⟨rfl, rfl⟩ ⟨Nat.le_of_ble_eq_true rfl, Nat.le_of_ble_eq_true rfl⟩ rfl (fun _ _ => ?_)
      refine jk_if_eq (tgt := 44) K dX1_lookOut_20 rfl (fun c_20 => ?_) (fun c_20 => ?_)
      · refine jk_iconst (x := 0) K dX1_lookOut_44 rfl ?_
        refine jk_istore_n (lv' := [(3, .int 0), (2, .ref (b (3 + j))), (1, .int (nI j)), (0, .ref (b 0))]) K dX1_lookOut_45 rfl (by decide) rfl ?_
        refine jk_aload_n K dX1_lookOut_46 rfl 1 rfl ?_
        refine jk_iload_n K dX1_lookOut_47 rfl 0 rfl ?_
        refine jk_if_eq (tgt := 60) K dX1_lookOut_48 rfl (fun c_48 => ?_) (fun c_48 => ?_)
        · refine jk_iconst (x := 0) K dX1_lookOut_60 rfl ?_
          refine jk_put (C := RX0) (T := TX0) (N := 11) (nm := "looking") (ds := "I") (w' := (hb_L E X Y b (va_up (hb_lo C G M n j) j (hb_fu ((hb_lo C G M n j) j) 8 0)) G M)) K dX1_lookOut_61 hin_RX0 tyX0 tyX0_ok nmX0 (by decide +kernel) (X.length + (3 + j)) (hb_Lh (Nat.le_of_lt (Nat.lt_of_lt_of_le hlt hn))) rfl 8 rfl (by decide) rfl rfl rfl rfl (Nat.le_of_ble_eq_true rfl) (hb_Sh (Nat.le_of_lt (Nat.lt_of_lt_of_le hlt hn)) rfl) ?_
          refine jk_iinc (v := (nI (j + 1))) (lv' := [(1, .int (nI (j + 1))), (3, .int 0), (2, .ref (b (3 + j))), (0, .ref (b 0))]) K dX1_lookOut_64 2 rfl (nI_1 j) (by decide) rfl ?_
          refine jk_goto (tgt := 2) K dX1_lookOut_67 rfl ?_
          refine jk_sub (lv' := [(1, .int (nI (j + 1))), (0, .ref (b 0))]) [0, 3] rfl ?_
          refine jk_ws (ws' := (hb_L E X Y b (hb_lo C G M n (j + 1)) G M)) (by first | rfl | (simp [hb_lo_s, hb_loF, c_7, c_20]; done)) ?_
          exact ih hlt
        · exact absurd (by decide) c_48
      · refine jk_aload_n K dX1_lookOut_23 rfl 2 rfl ?_
        refine jk_aload_n K dX1_lookOut_24 rfl 0 rfl ?_
        refine jk_cVi K (n' := 0) (k' := 0) [.ref (b (3 + j))] [] dX1_lookOut_25 (hb_X1_seesGlow _ hl E X Y b (hb_lo C G M n j) G M j (Nat.lt_of_lt_of_le hlt hn)) gX1_lookOut_X1_seesGlow rfl kd_X1_seesGlow ⟨Nat.le_of_ble_eq_true rfl, Nat.le_of_ble_eq_true rfl⟩ (X.length + 0) hb_L0 rfl (Nat.le_of_ble_eq_true rfl) ⟨rfl, rfl⟩ ⟨Nat.le_of_ble_eq_true rfl, Nat.le_of_ble_eq_true rfl⟩ rfl (fun _ _ => ?_)
        refine jk_if_ne (tgt := 40) K dX1_lookOut_28 rfl (fun c_28 => ?_) (fun c_28 => ?_)
        · refine jk_iconst (x := 1) K dX1_lookOut_40 rfl ?_
          refine jk_goto (tgt := 45) K dX1_lookOut_41 rfl ?_
          refine jk_istore_n (lv' := [(3, .int 1), (2, .ref (b (3 + j))), (1, .int (nI j)), (0, .ref (b 0))]) K dX1_lookOut_45 rfl (by decide) rfl ?_
          refine jk_aload_n K dX1_lookOut_46 rfl 1 rfl ?_
          refine jk_iload_n K dX1_lookOut_47 rfl 0 rfl ?_
          refine jk_if_eq (tgt := 60) K dX1_lookOut_48 rfl (fun c_48 => ?_) (fun c_48 => ?_)
          · exact absurd c_48 (by decide)
          · refine jk_aload_n K dX1_lookOut_51 rfl 1 rfl ?_
            refine jk_get (C := RX0) (T := TX0) (N := 11) (nm := "looking") (ds := "I") (v := .int (((hb_lo C G M n j) j) 8)) K dX1_lookOut_52 hin_RX0 (by decide +kernel) (X.length + (3 + j)) (hb_Lh (Nat.le_of_lt (Nat.lt_of_lt_of_le hlt hn))) rfl 8 rfl (by decide) rfl ?_
            refine jk_iconst (x := 1) K dX1_lookOut_55 rfl ?_
            refine jk_iadd K dX1_lookOut_56 ?_
            refine jk_goto (tgt := 61) K dX1_lookOut_57 rfl ?_
            refine jk_put (C := RX0) (T := TX0) (N := 11) (nm := "looking") (ds := "I") (w' := (hb_L E X Y b (va_up (hb_lo C G M n j) j (hb_fu ((hb_lo C G M n j) j) 8 ((((hb_lo C G M n j) j) 8) + 1))) G M)) K dX1_lookOut_61 hin_RX0 tyX0 tyX0_ok nmX0 (by decide +kernel) (X.length + (3 + j)) (hb_Lh (Nat.le_of_lt (Nat.lt_of_lt_of_le hlt hn))) rfl 8 rfl (by decide) rfl rfl rfl rfl (Nat.le_of_ble_eq_true rfl) (hb_Sh (Nat.le_of_lt (Nat.lt_of_lt_of_le hlt hn)) rfl) ?_
            refine jk_iinc (v := (nI (j + 1))) (lv' := [(1, .int (nI (j + 1))), (3, .int 1), (2, .ref (b (3 + j))), (0, .ref (b 0))]) K dX1_lookOut_64 2 rfl (nI_1 j) (by decide) rfl ?_
            refine jk_goto (tgt := 2) K dX1_lookOut_67 rfl ?_
            refine jk_sub (lv' := [(1, .int (nI (j + 1))), (0, .ref (b 0))]) [0, 3] rfl ?_
            refine jk_ws (ws' := (hb_L E X Y b (hb_lo C G M n (j + 1)) G M)) (by first | rfl | (simp [hb_lo_s, hb_loF, c_7, c_20, c_28]; done)) ?_
            exact ih hlt
        · refine jk_aload_n K dX1_lookOut_31 rfl 2 rfl ?_
          refine jk_iload_n K dX1_lookOut_32 rfl 1 rfl ?_
          refine jk_cVi K (n' := 0) (k' := 0) [.int (nI j)] [] dX1_lookOut_33 (hb_X1_nearestFire _ hl E X Y b (hb_lo C G M n j) G M j (Nat.lt_of_lt_of_le hlt hn) n hn hg) gX1_lookOut_X1_nearestFire rfl kd_X1_nearestFire ⟨Nat.le_of_ble_eq_true rfl, Nat.le_of_ble_eq_true rfl⟩ (X.length + 0) hb_L0 rfl (Nat.le_of_ble_eq_true rfl) ⟨rfl, rfl⟩ ⟨Nat.le_of_ble_eq_true rfl, Nat.le_of_ble_eq_true rfl⟩ rfl (fun _ _ => ?_)
          refine jk_iconst (x := (-1)) K dX1_lookOut_36 rfl ?_
          refine jk_icmp_eq (tgt := 44) K dX1_lookOut_37 rfl (fun c_37 => ?_) (fun c_37 => ?_)
          · refine jk_iconst (x := 0) K dX1_lookOut_44 rfl ?_
            refine jk_istore_n (lv' := [(3, .int 0), (2, .ref (b (3 + j))), (1, .int (nI j)), (0, .ref (b 0))]) K dX1_lookOut_45 rfl (by decide) rfl ?_
            refine jk_aload_n K dX1_lookOut_46 rfl 1 rfl ?_
            refine jk_iload_n K dX1_lookOut_47 rfl 0 rfl ?_
            refine jk_if_eq (tgt := 60) K dX1_lookOut_48 rfl (fun c_48 => ?_) (fun c_48 => ?_)
            · refine jk_iconst (x := 0) K dX1_lookOut_60 rfl ?_
              refine jk_put (C := RX0) (T := TX0) (N := 11) (nm := "looking") (ds := "I") (w' := (hb_L E X Y b (va_up (hb_lo C G M n j) j (hb_fu ((hb_lo C G M n j) j) 8 0)) G M)) K dX1_lookOut_61 hin_RX0 tyX0 tyX0_ok nmX0 (by decide +kernel) (X.length + (3 + j)) (hb_Lh (Nat.le_of_lt (Nat.lt_of_lt_of_le hlt hn))) rfl 8 rfl (by decide) rfl rfl rfl rfl (Nat.le_of_ble_eq_true rfl) (hb_Sh (Nat.le_of_lt (Nat.lt_of_lt_of_le hlt hn)) rfl) ?_
              refine jk_iinc (v := (nI (j + 1))) (lv' := [(1, .int (nI (j + 1))), (3, .int 0), (2, .ref (b (3 + j))), (0, .ref (b 0))]) K dX1_lookOut_64 2 rfl (nI_1 j) (by decide) rfl ?_
              refine jk_goto (tgt := 2) K dX1_lookOut_67 rfl ?_
              refine jk_sub (lv' := [(1, .int (nI (j + 1))), (0, .ref (b 0))]) [0, 3] rfl ?_
              refine jk_ws (ws' := (hb_L E X Y b (hb_lo C G M n (j + 1)) G M)) (by first | rfl | (simp [hb_lo_s, hb_loF, c_7, c_20, c_28, c_37]; done)) ?_
              exact ih hlt
            · exact absurd (by decide) c_48
          · refine jk_iconst (x := 1) K dX1_lookOut_40 rfl ?_
            refine jk_goto (tgt := 45) K dX1_lookOut_41 rfl ?_
            refine jk_istore_n (lv' := [(3, .int 1), (2, .ref (b (3 + j))), (1, .int (nI j)), (0, .ref (b 0))]) K dX1_lookOut_45 rfl (by decide) rfl ?_
            refine jk_aload_n K dX1_lookOut_46 rfl 1 rfl ?_
            refine jk_iload_n K dX1_lookOut_47 rfl 0 rfl ?_
            refine jk_if_eq (tgt := 60) K dX1_lookOut_48 rfl (fun c_48 => ?_) (fun c_48 => ?_)
            · exact absurd c_48 (by decide)
            · refine jk_aload_n K dX1_lookOut_51 rfl 1 rfl ?_
              refine jk_get (C := RX0) (T := TX0) (N := 11) (nm := "looking") (ds := "I") (v := .int (((hb_lo C G M n j) j) 8)) K dX1_lookOut_52 hin_RX0 (by decide +kernel) (X.length + (3 + j)) (hb_Lh (Nat.le_of_lt (Nat.lt_of_lt_of_le hlt hn))) rfl 8 rfl (by decide) rfl ?_
              refine jk_iconst (x := 1) K dX1_lookOut_55 rfl ?_
              refine jk_iadd K dX1_lookOut_56 ?_
              refine jk_goto (tgt := 61) K dX1_lookOut_57 rfl ?_
              refine jk_put (C := RX0) (T := TX0) (N := 11) (nm := "looking") (ds := "I") (w' := (hb_L E X Y b (va_up (hb_lo C G M n j) j (hb_fu ((hb_lo C G M n j) j) 8 ((((hb_lo C G M n j) j) 8) + 1))) G M)) K dX1_lookOut_61 hin_RX0 tyX0 tyX0_ok nmX0 (by decide +kernel) (X.length + (3 + j)) (hb_Lh (Nat.le_of_lt (Nat.lt_of_lt_of_le hlt hn))) rfl 8 rfl (by decide) rfl rfl rfl rfl (Nat.le_of_ble_eq_true rfl) (hb_Sh (Nat.le_of_lt (Nat.lt_of_lt_of_le hlt hn)) rfl) ?_
              refine jk_iinc (v := (nI (j + 1))) (lv' := [(1, .int (nI (j + 1))), (3, .int 1), (2, .ref (b (3 + j))), (0, .ref (b 0))]) K dX1_lookOut_64 2 rfl (nI_1 j) (by decide) rfl ?_
              refine jk_goto (tgt := 2) K dX1_lookOut_67 rfl ?_
              refine jk_sub (lv' := [(1, .int (nI (j + 1))), (0, .ref (b 0))]) [0, 3] rfl ?_
              refine jk_ws (ws' := (hb_L E X Y b (hb_lo C G M n (j + 1)) G M)) (by first | rfl | (simp [hb_lo_s, hb_loF, c_7, c_20, c_28, c_37]; done)) ?_
              exact ih hlt
  refine jk_iconst (x := 0) K dX1_lookOut_0 rfl ?_
  refine jk_istore_n (lv' := [(1, .int 0), (0, .ref (b 0))]) K dX1_lookOut_1 rfl (by decide) rfl ?_
  refine jk_lv (lv' := [(1, .int (nI 0)), (0, .ref (b 0))]) (by first | rfl | (simp [hb_lo_s, hb_loF]; done)) ?_
  refine jk_ws (ws' := (hb_L E X Y b (hb_lo C G M n 0) G M)) (by first | rfl | (simp [hb_lo_s, hb_loF]; done)) ?_
  exact hL 0 (Nat.zero_le _)
set_option maxHeartbeats 4000000 in
set_option maxRecDepth 100000 in
theorem hb_X1_sourceSeenFrom (l : Launch) (hl : l.stackTraces = false) (E : jk_T) (X Y : va_W) (b : Nat → Nat) (C : Nat → Nat → Int32) (G M : Nat → Int32) (i : Nat) (hi : i < 10) (n : Nat) (hn : n ≤ 10) (hg : G 0 = nI n) : jk_fn l yX1_sourceSeenFrom wsX1_sourceSeenFrom ({ frames := 2, cells := 0, slots := 0, locals := 49 } : Room) [.ref (b 0), .int (nI i)] E (hb_L E X Y b C G M) (some (.int (hb_ssf C G M n i))) (hb_L E X Y b C G M) := by
  refine jk_of (lv := [(0, .ref (b 0)), (1, .int (nI i))]) (own := RX1) (nm := "sourceSeenFrom") hl (by decide +kernel) rfl (Nat.le_of_ble_eq_true rfl) rfl rfl rfl (fun Γ hΓ K hnm hz => ?_)
  subst hΓ
  have hin_RX0 : ∀ w ∈ u_ws RX0 TX0 11, w ∈ wsX1_sourceSeenFrom := by decide +kernel
  refine jk_aload_n K dX1_sourceSeenFrom_0 rfl 0 rfl ?_
  refine jk_iload_n K dX1_sourceSeenFrom_1 rfl 1 rfl ?_
  refine jk_cVi K (n' := 0) (k' := 0) [.int (nI i)] [] dX1_sourceSeenFrom_2 (hb_X1_nearestFire _ hl E X Y b C G M i hi n hn hg) gX1_sourceSeenFrom_X1_nearestFire rfl kd_X1_nearestFire ⟨Nat.le_of_ble_eq_true rfl, Nat.le_of_ble_eq_true rfl⟩ (X.length + 0) hb_L0 rfl (Nat.le_of_ble_eq_true rfl) ⟨rfl, rfl⟩ ⟨Nat.le_of_ble_eq_true rfl, Nat.le_of_ble_eq_true rfl⟩ rfl (fun _ _ => ?_)
  refine jk_istore_n (lv' := [(2, .int ((hb_nf C G M i n).1)), (0, .ref (b 0)), (1, .int (nI i))]) K dX1_sourceSeenFrom_5 rfl (by decide) rfl ?_
  refine jk_iload_n K dX1_sourceSeenFrom_6 rfl 0 rfl ?_
  refine jk_iconst (x := (-1)) K dX1_sourceSeenFrom_7 rfl ?_
  refine jk_icmp_ne (tgt := 15) K dX1_sourceSeenFrom_8 rfl (fun c_8 => ?_) (fun c_8 => ?_)
  · refine jk_aload_n K dX1_sourceSeenFrom_15 rfl 1 rfl ?_
    refine jk_iload_n K dX1_sourceSeenFrom_16 rfl 0 rfl ?_
    refine jk_cVr K (n' := 0) (k' := 0) [.int ((hb_nf C G M i n).1)] [] dX1_sourceSeenFrom_17 (hb_X1_hillAt _ hl E X Y b C G M ((hb_nf C G M i n).1)) gX1_sourceSeenFrom_X1_hillAt rfl kd_X1_hillAt ⟨Nat.le_of_ble_eq_true rfl, Nat.le_of_ble_eq_true rfl⟩ (X.length + 0) hb_L0 rfl (Nat.le_of_ble_eq_true rfl) ⟨rfl, rfl⟩ ⟨Nat.le_of_ble_eq_true rfl, Nat.le_of_ble_eq_true rfl⟩ rfl (fun _ _ => ?_)
    refine jk_get (C := RX0) (T := TX0) (N := 11) (nm := "source") (ds := "I") (v := .int ((C (hb_hx ((hb_nf C G M i n).1))) 9)) K dX1_sourceSeenFrom_20 hin_RX0 (by decide +kernel) (X.length + (3 + (hb_hx ((hb_nf C G M i n).1)))) (hb_Lh (hb_hx_le ((hb_nf C G M i n).1))) rfl 9 rfl (by decide) rfl ?_
    exact jk_iret K hz dX1_sourceSeenFrom_23 () (by unfold hb_ssf; first | rw [if_pos (by assumption)] | rw [if_neg (by assumption)]) trivial rfl rfl (Nat.le_of_ble_eq_true rfl) (Nat.le_of_ble_eq_true rfl)
  · refine jk_iconst (x := (-1)) K dX1_sourceSeenFrom_11 rfl ?_
    refine jk_goto (tgt := 23) K dX1_sourceSeenFrom_12 rfl ?_
    exact jk_iret K hz dX1_sourceSeenFrom_23 () (by unfold hb_ssf; first | rw [if_pos (by assumption)] | rw [if_neg (by assumption)]) trivial rfl rfl (Nat.le_of_ble_eq_true rfl) (Nat.le_of_ble_eq_true rfl)
set_option maxHeartbeats 4000000 in
set_option maxRecDepth 100000 in
theorem hb_X1_answerSignals (l : Launch) (hl : l.stackTraces = false) (E : jk_T) (X Y : va_W) (b : Nat → Nat) (C : Nat → Nat → Int32) (G M : Nat → Int32) (n : Nat) (hn : n ≤ 10) (hg : G 0 = nI n) : jk_fn l yX1_answerSignals wsX1_answerSignals ({ frames := 3, cells := 0, slots := 0, locals := 71 } : Room) [.ref (b 0)] E (hb_L E X Y b C G M) (none) (hb_L E X Y b (hb_as C G M n n).1 (hb_as C G M n n).2 M) := by
  refine jk_of (lv := [(0, .ref (b 0))]) (own := RX1) (nm := "answerSignals") hl (by decide +kernel) rfl (Nat.le_of_ble_eq_true rfl) rfl rfl rfl (fun Γ hΓ K hnm hz => ?_)
  subst hΓ
  have hin_RX0 : ∀ w ∈ u_ws RX0 TX0 11, w ∈ wsX1_answerSignals := by decide +kernel
  have hin_RX1 : ∀ w ∈ u_ws RX1 TX1 9, w ∈ wsX1_answerSignals := by decide +kernel
  have hL : ∀ j, j ≤ n → jk_J Γ E (hb_L E X Y b (hb_as C G M n j).1 (hb_as C G M n j).2 M) 0 0 2 [(1, .int (nI j)), (0, .ref (b 0))] [] := by
    refine jk_loop (fun j hj ih => ?_)
    have hg' : (hb_as C G M n j).2 0 = nI n := (hb_as_0 0 (by decide) (by decide) j).trans hg
    refine jk_iload_n K dX1_answerSignals_2 rfl 0 rfl ?_
    refine jk_aload_n K dX1_answerSignals_3 rfl 1 rfl ?_
    refine jk_get (C := RX1) (T := TX1) (N := 9) (nm := "count") (ds := "I") (v := .int ((hb_as C G M n j).2 0)) K dX1_answerSignals_4 hin_RX1 (by decide +kernel) (X.length + 0) hb_L0 rfl 3 rfl (by decide) rfl ?_
    refine jk_icmp_ge (tgt := 43) K dX1_answerSignals_7 rfl (fun c_7 => ?_) (fun c_7 => ?_)
    · have hjn : j = n := hb_ex hg' (by omega) hj c_7
      exact jk_vret K hz dX1_answerSignals_43 () rfl trivial (by rw [hjn]) (Nat.le_of_ble_eq_true rfl) (Nat.le_of_ble_eq_true rfl)
    · have hlt : j < n := hb_in hg' (by omega) hj c_7
      refine jk_aload_n K dX1_answerSignals_10 rfl 1 rfl ?_
      refine jk_iload_n K dX1_answerSignals_11 rfl 0 rfl ?_
      refine jk_cVr K (n' := 0) (k' := 0) [.int (nI j)] [] dX1_answerSignals_12 (hb_X1_hillAt_i _ hl E X Y b (hb_as C G M n j).1 (hb_as C G M n j).2 M j (Nat.lt_of_lt_of_le hlt hn)) gX1_answerSignals_X1_hillAt rfl kd_X1_hillAt ⟨Nat.le_of_ble_eq_true rfl, Nat.le_of_ble_eq_true rfl⟩ (X.length + 0) hb_L0 rfl (Nat.le_of_ble_eq_true rfl) ⟨rfl, rfl⟩ ⟨Nat.le_of_ble_eq_true rfl, Nat.le_of_ble_eq_true rfl⟩ rfl (fun _ _ => ?_)
      refine jk_astore_n (lv' := [(2, .ref (b (3 + j))), (1, .int (nI j)), (0, .ref (b 0))]) K dX1_answerSignals_15 rfl (by decide) rfl ?_
      refine jk_aload_n K dX1_answerSignals_16 rfl 0 rfl ?_
      refine jk_get (C := RX0) (T := TX0) (N := 11) (nm := "looking") (ds := "I") (v := .int (((hb_as C G M n j).1 j) 8)) K dX1_answerSignals_17 hin_RX0 (by decide +kernel) (X.length + (3 + j)) (hb_Lh (Nat.le_of_lt (Nat.lt_of_lt_of_le hlt hn))) rfl 8 rfl (by decide) rfl ?_
      refine jk_aload_n K dX1_answerSignals_20 rfl 0 rfl ?_
      refine jk_get (C := RX0) (T := TX0) (N := 11) (nm := "watch") (ds := "I") (v := .int (((hb_as C G M n j).1 j) 2)) K dX1_answerSignals_21 hin_RX0 (by decide +kernel) (X.length + (3 + j)) (hb_Lh (Nat.le_of_lt (Nat.lt_of_lt_of_le hlt hn))) rfl 2 rfl (by decide) rfl ?_
      refine jk_icmp_lt (tgt := 37) K dX1_answerSignals_24 rfl (fun c_24 => ?_) (fun c_24 => ?_)
      · refine jk_iinc (v := (nI (j + 1))) (lv' := [(1, .int (nI (j + 1))), (2, .ref (b (3 + j))), (0, .ref (b 0))]) K dX1_answerSignals_37 1 rfl (nI_1 j) (by decide) rfl ?_
        refine jk_goto (tgt := 2) K dX1_answerSignals_40 rfl ?_
        refine jk_sub (lv' := [(1, .int (nI (j + 1))), (0, .ref (b 0))]) [0, 2] rfl ?_
        refine jk_ws (ws' := (hb_L E X Y b (hb_as C G M n (j + 1)).1 (hb_as C G M n (j + 1)).2 M)) (by first | rfl | (simp [hb_as_s, c_7, c_24]; done)) ?_
        exact ih hlt
      · refine jk_aload_n K dX1_answerSignals_27 rfl 2 rfl ?_
        refine jk_iload_n K dX1_answerSignals_28 rfl 1 rfl ?_
        refine jk_aload_n K dX1_answerSignals_29 rfl 2 rfl ?_
        refine jk_iload_n K dX1_answerSignals_30 rfl 1 rfl ?_
        refine jk_cVi K (n' := 0) (k' := 0) [.int (nI j)] [.int (nI j), .ref (b 0)] dX1_answerSignals_31 (hb_X1_sourceSeenFrom _ hl E X Y b (hb_as C G M n j).1 (hb_as C G M n j).2 M j (Nat.lt_of_lt_of_le hlt hn) n hn hg') gX1_answerSignals_X1_sourceSeenFrom rfl kd_X1_sourceSeenFrom ⟨Nat.le_of_ble_eq_true rfl, Nat.le_of_ble_eq_true rfl⟩ (X.length + 0) hb_L0 rfl (Nat.le_of_ble_eq_true rfl) ⟨rfl, rfl⟩ ⟨Nat.le_of_ble_eq_true rfl, Nat.le_of_ble_eq_true rfl⟩ rfl (fun _ _ => ?_)
        refine jk_cVv K (n' := 0) (k' := 0) [.int (nI j), .int (hb_ssf (hb_as C G M n j).1 (hb_as C G M n j).2 M n j)] [] dX1_answerSignals_34 (hb_X1_kindle _ hl E X Y b (hb_as C G M n j).1 (hb_as C G M n j).2 M j (Nat.lt_of_lt_of_le hlt hn) (hb_ssf (hb_as C G M n j).1 (hb_as C G M n j).2 M n j)) gX1_answerSignals_X1_kindle rfl kd_X1_kindle ⟨Nat.le_of_ble_eq_true rfl, Nat.le_of_ble_eq_true rfl⟩ (X.length + 0) hb_L0 rfl (Nat.le_of_ble_eq_true rfl) ⟨rfl, rfl⟩ ⟨Nat.le_of_ble_eq_true rfl, Nat.le_of_ble_eq_true rfl⟩ rfl (fun _ _ => ?_)
        refine jk_iinc (v := (nI (j + 1))) (lv' := [(1, .int (nI (j + 1))), (2, .ref (b (3 + j))), (0, .ref (b 0))]) K dX1_answerSignals_37 1 rfl (nI_1 j) (by decide) rfl ?_
        refine jk_goto (tgt := 2) K dX1_answerSignals_40 rfl ?_
        refine jk_sub (lv' := [(1, .int (nI (j + 1))), (0, .ref (b 0))]) [0, 2] rfl ?_
        refine jk_ws (ws' := (hb_L E X Y b (hb_as C G M n (j + 1)).1 (hb_as C G M n (j + 1)).2 M)) (by first | rfl | (simp [hb_as_s, c_7, c_24]; done)) ?_
        exact ih hlt
  refine jk_iconst (x := 0) K dX1_answerSignals_0 rfl ?_
  refine jk_istore_n (lv' := [(1, .int 0), (0, .ref (b 0))]) K dX1_answerSignals_1 rfl (by decide) rfl ?_
  refine jk_lv (lv' := [(1, .int (nI 0)), (0, .ref (b 0))]) (by first | rfl | (simp [hb_as_s]; done)) ?_
  refine jk_ws (ws' := (hb_L E X Y b (hb_as C G M n 0).1 (hb_as C G M n 0).2 M)) (by first | rfl | (simp [hb_as_s]; done)) ?_
  exact hL 0 (Nat.zero_le _)
set_option maxHeartbeats 4000000 in
set_option maxRecDepth 100000 in
theorem hb_X1_startBurning (l : Launch) (hl : l.stackTraces = false) (E : jk_T) (X Y : va_W) (b : Nat → Nat) (C : Nat → Nat → Int32) (G M : Nat → Int32) (i : Nat) (hi : i < 10) : jk_fn l yX1_startBurning wsX1_startBurning ({ frames := 1, cells := 0, slots := 0, locals := 22 } : Room) [.ref (b 0), .ref (b (3 + i))] E (hb_L E X Y b C G M) (none) (hb_L E X Y b (hb_sb C i) G M) := by
  refine jk_of (lv := [(0, .ref (b 0)), (1, .ref (b (3 + i)))]) (own := RX1) (nm := "startBurning") hl (by decide +kernel) rfl (Nat.le_of_ble_eq_true rfl) rfl rfl rfl (fun Γ hΓ K hnm hz => ?_)
  subst hΓ
  have hin_RX0 : ∀ w ∈ u_ws RX0 TX0 11, w ∈ wsX1_startBurning := by decide +kernel
  refine jk_aload_n K dX1_startBurning_0 rfl 1 rfl ?_
  refine jk_iconst (x := 2) K dX1_startBurning_1 rfl ?_
  refine jk_put (C := RX0) (T := TX0) (N := 11) (nm := "fire") (ds := "I") (w' := (hb_L E X Y b (va_up C i (hb_fu (C i) 5 2)) G M)) K dX1_startBurning_2 hin_RX0 tyX0 tyX0_ok nmX0 (by decide +kernel) (X.length + (3 + i)) (hb_Lh (Nat.le_of_lt hi)) rfl 5 rfl (by decide) rfl rfl rfl rfl (Nat.le_of_ble_eq_true rfl) (hb_Sh (Nat.le_of_lt hi) rfl) ?_
  refine jk_aload_n K dX1_startBurning_5 rfl 1 rfl ?_
  refine jk_get (C := RX0) (T := TX0) (N := 11) (nm := "post") (ds := "Z") (v := .int (hb_zb ((C i) 4))) K dX1_startBurning_6 hin_RX0 (by decide +kernel) (X.length + (3 + i)) (hb_Lhu (Nat.le_of_lt hi)) rfl 4 rfl (by decide) rfl ?_
  refine jk_if_eq (tgt := 37) K dX1_startBurning_9 rfl (fun c_9 => ?_) (fun c_9 => ?_)
  · exact jk_vret K hz dX1_startBurning_37 () rfl trivial (by unfold hb_sb; rw [if_pos c_9]) (Nat.le_of_ble_eq_true rfl) (Nat.le_of_ble_eq_true rfl)
  · refine jk_aload_n K dX1_startBurning_12 rfl 1 rfl ?_
    refine jk_get (C := RX0) (T := TX0) (N := 11) (nm := "source") (ds := "I") (v := .int ((C i) 9)) K dX1_startBurning_13 hin_RX0 (by decide +kernel) (X.length + (3 + i)) (hb_Lhu (Nat.le_of_lt hi)) rfl 9 rfl (by decide) rfl ?_
    refine jk_iconst (x := (-1)) K dX1_startBurning_16 rfl ?_
    refine jk_icmp_eq (tgt := 37) K dX1_startBurning_17 rfl (fun c_17 => ?_) (fun c_17 => ?_)
    · exact jk_vret K hz dX1_startBurning_37 () rfl trivial (by unfold hb_sb; rw [if_neg c_9, if_pos c_17]) (Nat.le_of_ble_eq_true rfl) (Nat.le_of_ble_eq_true rfl)
    · refine jk_aload_n K dX1_startBurning_20 rfl 0 rfl ?_
      refine jk_aload_n K dX1_startBurning_21 rfl 1 rfl ?_
      refine jk_get (C := RX0) (T := TX0) (N := 11) (nm := "source") (ds := "I") (v := .int ((C i) 9)) K dX1_startBurning_22 hin_RX0 (by decide +kernel) (X.length + (3 + i)) (hb_Lhu (Nat.le_of_lt hi)) rfl 9 rfl (by decide) rfl ?_
      refine jk_cVr K (n' := 0) (k' := 0) [.int ((C i) 9)] [] dX1_startBurning_25 (hb_X1_hillAt _ hl E X Y b (va_up C i (hb_fu (C i) 5 2)) G M ((C i) 9)) gX1_startBurning_X1_hillAt rfl kd_X1_hillAt ⟨Nat.le_of_ble_eq_true rfl, Nat.le_of_ble_eq_true rfl⟩ (X.length + 0) hb_L0 rfl (Nat.le_of_ble_eq_true rfl) ⟨rfl, rfl⟩ ⟨Nat.le_of_ble_eq_true rfl, Nat.le_of_ble_eq_true rfl⟩ rfl (fun _ _ => ?_)
      refine jk_dup K dX1_startBurning_28 rfl ?_
      refine jk_get (C := RX0) (T := TX0) (N := 11) (nm := "answers") (ds := "I") (v := .int (((va_up C i (hb_fu (C i) 5 2)) (hb_hx ((C i) 9))) 10)) K dX1_startBurning_29 hin_RX0 (by decide +kernel) (X.length + (3 + (hb_hx ((C i) 9)))) (hb_Lh (hb_hx_le ((C i) 9))) rfl 10 rfl (by decide) rfl ?_
      refine jk_iconst (x := 1) K dX1_startBurning_32 rfl ?_
      refine jk_iadd K dX1_startBurning_33 ?_
      refine jk_put (C := RX0) (T := TX0) (N := 11) (nm := "answers") (ds := "I") (w' := (hb_L E X Y b (va_up (va_up C i (hb_fu (C i) 5 2)) (hb_hx ((C i) 9)) (hb_fu ((va_up C i (hb_fu (C i) 5 2)) (hb_hx ((C i) 9))) 10 ((((va_up C i (hb_fu (C i) 5 2)) (hb_hx ((C i) 9))) 10) + 1))) G M)) K dX1_startBurning_34 hin_RX0 tyX0 tyX0_ok nmX0 (by decide +kernel) (X.length + (3 + (hb_hx ((C i) 9)))) (hb_Lh (hb_hx_le ((C i) 9))) rfl 10 rfl (by decide) rfl rfl rfl rfl (Nat.le_of_ble_eq_true rfl) (hb_Sh (hb_hx_le ((C i) 9)) rfl) ?_
      exact jk_vret K hz dX1_startBurning_37 () rfl trivial (by unfold hb_sb; rw [if_neg c_9, if_neg c_17]) (Nat.le_of_ble_eq_true rfl) (Nat.le_of_ble_eq_true rfl)
set_option maxHeartbeats 4000000 in
set_option maxRecDepth 100000 in
theorem hb_X1_kindleOn (l : Launch) (hl : l.stackTraces = false) (E : jk_T) (X Y : va_W) (b : Nat → Nat) (C : Nat → Nat → Int32) (G M : Nat → Int32) (n : Nat) (hn : n ≤ 10) (hg : G 0 = nI n) : jk_fn l yX1_kindleOn wsX1_kindleOn ({ frames := 2, cells := 0, slots := 0, locals := 43 } : Room) [.ref (b 0)] E (hb_L E X Y b C G M) (none) (hb_L E X Y b (hb_ko C n) G M) := by
  refine jk_of (lv := [(0, .ref (b 0))]) (own := RX1) (nm := "kindleOn") hl (by decide +kernel) rfl (Nat.le_of_ble_eq_true rfl) rfl rfl rfl (fun Γ hΓ K hnm hz => ?_)
  subst hΓ
  have hin_RX0 : ∀ w ∈ u_ws RX0 TX0 11, w ∈ wsX1_kindleOn := by decide +kernel
  have hin_RX1 : ∀ w ∈ u_ws RX1 TX1 9, w ∈ wsX1_kindleOn := by decide +kernel
  have hL : ∀ j, j ≤ n → jk_J Γ E (hb_L E X Y b (hb_ko C j) G M) 0 0 2 [(1, .int (nI j)), (0, .ref (b 0))] [] := by
    refine jk_loop (fun j hj ih => ?_)
    refine jk_iload_n K dX1_kindleOn_2 rfl 0 rfl ?_
    refine jk_aload_n K dX1_kindleOn_3 rfl 1 rfl ?_
    refine jk_get (C := RX1) (T := TX1) (N := 9) (nm := "count") (ds := "I") (v := .int (G 0)) K dX1_kindleOn_4 hin_RX1 (by decide +kernel) (X.length + 0) hb_L0 rfl 3 rfl (by decide) rfl ?_
    refine jk_icmp_ge (tgt := 52) K dX1_kindleOn_7 rfl (fun c_7 => ?_) (fun c_7 => ?_)
    · have hjn : j = n := hb_ex hg (by omega) hj c_7
      exact jk_vret K hz dX1_kindleOn_52 () rfl trivial (by rw [hjn]) (Nat.le_of_ble_eq_true rfl) (Nat.le_of_ble_eq_true rfl)
    · have hlt : j < n := hb_in hg (by omega) hj c_7
      refine jk_aload_n K dX1_kindleOn_10 rfl 1 rfl ?_
      refine jk_iload_n K dX1_kindleOn_11 rfl 0 rfl ?_
      refine jk_cVr K (n' := 0) (k' := 0) [.int (nI j)] [] dX1_kindleOn_12 (hb_X1_hillAt_i _ hl E X Y b (hb_ko C j) G M j (Nat.lt_of_lt_of_le hlt hn)) gX1_kindleOn_X1_hillAt rfl kd_X1_hillAt ⟨Nat.le_of_ble_eq_true rfl, Nat.le_of_ble_eq_true rfl⟩ (X.length + 0) hb_L0 rfl (Nat.le_of_ble_eq_true rfl) ⟨rfl, rfl⟩ ⟨Nat.le_of_ble_eq_true rfl, Nat.le_of_ble_eq_true rfl⟩ rfl (fun _ _ => ?_)
      refine jk_astore_n (lv' := [(2, .ref (b (3 + j))), (1, .int (nI j)), (0, .ref (b 0))]) K dX1_kindleOn_15 rfl (by decide) rfl ?_
      refine jk_aload_n K dX1_kindleOn_16 rfl 0 rfl ?_
      refine jk_get (C := RX0) (T := TX0) (N := 11) (nm := "fireBefore") (ds := "I") (v := .int (((hb_ko C j) j) 6)) K dX1_kindleOn_17 hin_RX0 (by decide +kernel) (X.length + (3 + j)) (hb_Lh (Nat.le_of_lt (Nat.lt_of_lt_of_le hlt hn))) rfl 6 rfl (by decide) rfl ?_
      refine jk_iconst (x := 1) K dX1_kindleOn_20 rfl ?_
      refine jk_icmp_ne (tgt := 46) K dX1_kindleOn_21 rfl (fun c_21 => ?_) (fun c_21 => ?_)
      · refine jk_iinc (v := (nI (j + 1))) (lv' := [(1, .int (nI (j + 1))), (2, .ref (b (3 + j))), (0, .ref (b 0))]) K dX1_kindleOn_46 1 rfl (nI_1 j) (by decide) rfl ?_
        refine jk_goto (tgt := 2) K dX1_kindleOn_49 rfl ?_
        refine jk_sub (lv' := [(1, .int (nI (j + 1))), (0, .ref (b 0))]) [0, 2] rfl ?_
        refine jk_ws (ws' := (hb_L E X Y b (hb_ko C (j + 1)) G M)) (by first | rfl | (simp [hb_ko_s, c_7, c_21]; done)) ?_
        exact ih hlt
      · refine jk_aload_n K dX1_kindleOn_24 rfl 0 rfl ?_
        refine jk_dup K dX1_kindleOn_25 rfl ?_
        refine jk_get (C := RX0) (T := TX0) (N := 11) (nm := "left") (ds := "I") (v := .int (((hb_ko C j) j) 7)) K dX1_kindleOn_26 hin_RX0 (by decide +kernel) (X.length + (3 + j)) (hb_Lh (Nat.le_of_lt (Nat.lt_of_lt_of_le hlt hn))) rfl 7 rfl (by decide) rfl ?_
        refine jk_iconst (x := 1) K dX1_kindleOn_29 rfl ?_
        refine jk_isub K dX1_kindleOn_30 ?_
        refine jk_put (C := RX0) (T := TX0) (N := 11) (nm := "left") (ds := "I") (w' := (hb_L E X Y b (va_up (hb_ko C j) j (hb_fu ((hb_ko C j) j) 7 ((((hb_ko C j) j) 7) - 1))) G M)) K dX1_kindleOn_31 hin_RX0 tyX0 tyX0_ok nmX0 (by decide +kernel) (X.length + (3 + j)) (hb_Lh (Nat.le_of_lt (Nat.lt_of_lt_of_le hlt hn))) rfl 7 rfl (by decide) rfl rfl rfl rfl (Nat.le_of_ble_eq_true rfl) (hb_Sh (Nat.le_of_lt (Nat.lt_of_lt_of_le hlt hn)) rfl) ?_
        refine jk_aload_n K dX1_kindleOn_34 rfl 0 rfl ?_
        refine jk_get (C := RX0) (T := TX0) (N := 11) (nm := "left") (ds := "I") (v := .int ((((hb_ko C j) j) 7) - 1)) K dX1_kindleOn_35 hin_RX0 (by decide +kernel) (X.length + (3 + j)) (hb_Lhu (Nat.le_of_lt (Nat.lt_of_lt_of_le hlt hn))) rfl 7 rfl (by decide) rfl ?_
        refine jk_if_gt (tgt := 46) K dX1_kindleOn_38 rfl (fun c_38 => ?_) (fun c_38 => ?_)
        · refine jk_iinc (v := (nI (j + 1))) (lv' := [(1, .int (nI (j + 1))), (2, .ref (b (3 + j))), (0, .ref (b 0))]) K dX1_kindleOn_46 1 rfl (nI_1 j) (by decide) rfl ?_
          refine jk_goto (tgt := 2) K dX1_kindleOn_49 rfl ?_
          refine jk_sub (lv' := [(1, .int (nI (j + 1))), (0, .ref (b 0))]) [0, 2] rfl ?_
          refine jk_ws (ws' := (hb_L E X Y b (hb_ko C (j + 1)) G M)) (by first | rfl | (simp [hb_ko_s, c_7, c_21, c_38]; done)) ?_
          exact ih hlt
        · refine jk_aload_n K dX1_kindleOn_41 rfl 2 rfl ?_
          refine jk_aload_n K dX1_kindleOn_42 rfl 0 rfl ?_
          refine jk_cVv K (n' := 0) (k' := 0) [.ref (b (3 + j))] [] dX1_kindleOn_43 (hb_X1_startBurning _ hl E X Y b (va_up (hb_ko C j) j (hb_fu ((hb_ko C j) j) 7 ((((hb_ko C j) j) 7) - 1))) G M j (Nat.lt_of_lt_of_le hlt hn)) gX1_kindleOn_X1_startBurning rfl kd_X1_startBurning ⟨Nat.le_of_ble_eq_true rfl, Nat.le_of_ble_eq_true rfl⟩ (X.length + 0) hb_L0 rfl (Nat.le_of_ble_eq_true rfl) ⟨rfl, rfl⟩ ⟨Nat.le_of_ble_eq_true rfl, Nat.le_of_ble_eq_true rfl⟩ rfl (fun _ _ => ?_)
          refine jk_iinc (v := (nI (j + 1))) (lv' := [(1, .int (nI (j + 1))), (2, .ref (b (3 + j))), (0, .ref (b 0))]) K dX1_kindleOn_46 1 rfl (nI_1 j) (by decide) rfl ?_
          refine jk_goto (tgt := 2) K dX1_kindleOn_49 rfl ?_
          refine jk_sub (lv' := [(1, .int (nI (j + 1))), (0, .ref (b 0))]) [0, 2] rfl ?_
          refine jk_ws (ws' := (hb_L E X Y b (hb_ko C (j + 1)) G M)) (by first | rfl | (simp [hb_ko_s, c_7, c_21, c_38]; done)) ?_
          exact ih hlt
  refine jk_iconst (x := 0) K dX1_kindleOn_0 rfl ?_
  refine jk_istore_n (lv' := [(1, .int 0), (0, .ref (b 0))]) K dX1_kindleOn_1 rfl (by decide) rfl ?_
  refine jk_lv (lv' := [(1, .int (nI 0)), (0, .ref (b 0))]) (by first | rfl | (simp [hb_ko_s]; done)) ?_
  refine jk_ws (ws' := (hb_L E X Y b (hb_ko C 0) G M)) (by first | rfl | (simp [hb_ko_s]; done)) ?_
  exact hL 0 (Nat.zero_le _)
set_option maxHeartbeats 4000000 in
set_option maxRecDepth 100000 in
theorem hb_X1_burnOn (l : Launch) (hl : l.stackTraces = false) (E : jk_T) (X Y : va_W) (b : Nat → Nat) (C : Nat → Nat → Int32) (G M : Nat → Int32) (n : Nat) (hn : n ≤ 10) (hg : G 0 = nI n) : jk_fn l yX1_burnOn wsX1_burnOn ({ frames := 2, cells := 0, slots := 0, locals := 40 } : Room) [.ref (b 0)] E (hb_L E X Y b C G M) (none) (hb_L E X Y b (hb_bo C n) G M) := by
  refine jk_of (lv := [(0, .ref (b 0))]) (own := RX1) (nm := "burnOn") hl (by decide +kernel) rfl (Nat.le_of_ble_eq_true rfl) rfl rfl rfl (fun Γ hΓ K hnm hz => ?_)
  subst hΓ
  have hin_RX0 : ∀ w ∈ u_ws RX0 TX0 11, w ∈ wsX1_burnOn := by decide +kernel
  have hin_RX1 : ∀ w ∈ u_ws RX1 TX1 9, w ∈ wsX1_burnOn := by decide +kernel
  have hL : ∀ j, j ≤ n → jk_J Γ E (hb_L E X Y b (hb_bo C j) G M) 0 0 2 [(1, .int (nI j)), (0, .ref (b 0))] [] := by
    refine jk_loop (fun j hj ih => ?_)
    refine jk_iload_n K dX1_burnOn_2 rfl 0 rfl ?_
    refine jk_aload_n K dX1_burnOn_3 rfl 1 rfl ?_
    refine jk_get (C := RX1) (T := TX1) (N := 9) (nm := "count") (ds := "I") (v := .int (G 0)) K dX1_burnOn_4 hin_RX1 (by decide +kernel) (X.length + 0) hb_L0 rfl 3 rfl (by decide) rfl ?_
    refine jk_icmp_ge (tgt := 34) K dX1_burnOn_7 rfl (fun c_7 => ?_) (fun c_7 => ?_)
    · have hjn : j = n := hb_ex hg (by omega) hj c_7
      exact jk_vret K hz dX1_burnOn_34 () rfl trivial (by rw [hjn]) (Nat.le_of_ble_eq_true rfl) (Nat.le_of_ble_eq_true rfl)
    · have hlt : j < n := hb_in hg (by omega) hj c_7
      refine jk_aload_n K dX1_burnOn_10 rfl 1 rfl ?_
      refine jk_iload_n K dX1_burnOn_11 rfl 0 rfl ?_
      refine jk_cVr K (n' := 0) (k' := 0) [.int (nI j)] [] dX1_burnOn_12 (hb_X1_hillAt_i _ hl E X Y b (hb_bo C j) G M j (Nat.lt_of_lt_of_le hlt hn)) gX1_burnOn_X1_hillAt rfl kd_X1_hillAt ⟨Nat.le_of_ble_eq_true rfl, Nat.le_of_ble_eq_true rfl⟩ (X.length + 0) hb_L0 rfl (Nat.le_of_ble_eq_true rfl) ⟨rfl, rfl⟩ ⟨Nat.le_of_ble_eq_true rfl, Nat.le_of_ble_eq_true rfl⟩ rfl (fun _ _ => ?_)
      refine jk_astore_n (lv' := [(2, .ref (b (3 + j))), (1, .int (nI j)), (0, .ref (b 0))]) K dX1_burnOn_15 rfl (by decide) rfl ?_
      refine jk_aload_n K dX1_burnOn_16 rfl 0 rfl ?_
      refine jk_get (C := RX0) (T := TX0) (N := 11) (nm := "fireBefore") (ds := "I") (v := .int (((hb_bo C j) j) 6)) K dX1_burnOn_17 hin_RX0 (by decide +kernel) (X.length + (3 + j)) (hb_Lh (Nat.le_of_lt (Nat.lt_of_lt_of_le hlt hn))) rfl 6 rfl (by decide) rfl ?_
      refine jk_iconst (x := 2) K dX1_burnOn_20 rfl ?_
      refine jk_icmp_ne (tgt := 28) K dX1_burnOn_21 rfl (fun c_21 => ?_) (fun c_21 => ?_)
      · refine jk_iinc (v := (nI (j + 1))) (lv' := [(1, .int (nI (j + 1))), (2, .ref (b (3 + j))), (0, .ref (b 0))]) K dX1_burnOn_28 1 rfl (nI_1 j) (by decide) rfl ?_
        refine jk_goto (tgt := 2) K dX1_burnOn_31 rfl ?_
        refine jk_sub (lv' := [(1, .int (nI (j + 1))), (0, .ref (b 0))]) [0, 2] rfl ?_
        refine jk_ws (ws' := (hb_L E X Y b (hb_bo C (j + 1)) G M)) (by first | rfl | (simp [hb_bo_s, c_7, c_21]; done)) ?_
        exact ih hlt
      · refine jk_aload_n K dX1_burnOn_24 rfl 0 rfl ?_
        refine jk_cVv K (n' := 0) (k' := 0) [] [] dX1_burnOn_25 (hb_X0_burnOn _ hl E (hb_L E X Y b (hb_bo C j) G M) (X.length + (3 + j)) (b (3 + j)) ((hb_bo C j) j) (hb_Lh (Nat.le_of_lt (Nat.lt_of_lt_of_le hlt hn)))) gX1_burnOn_X0_burnOn rfl kd_X0_burnOn ⟨Nat.le_of_ble_eq_true rfl, Nat.le_of_ble_eq_true rfl⟩ (X.length + (3 + j)) (hb_Lh (Nat.le_of_lt (Nat.lt_of_lt_of_le hlt hn))) rfl (Nat.le_of_ble_eq_true rfl) ⟨rfl, rfl⟩ ⟨Nat.le_of_ble_eq_true rfl, Nat.le_of_ble_eq_true rfl⟩ rfl (fun _ _ => ?_)
        refine jk_ws (ws' := (hb_L E X Y b (va_up (hb_bo C j) j (hb_burnF ((hb_bo C j) j))) G M)) (hb_Sh (Nat.le_of_lt (Nat.lt_of_lt_of_le hlt hn)) rfl) ?_
        refine jk_iinc (v := (nI (j + 1))) (lv' := [(1, .int (nI (j + 1))), (2, .ref (b (3 + j))), (0, .ref (b 0))]) K dX1_burnOn_28 1 rfl (nI_1 j) (by decide) rfl ?_
        refine jk_goto (tgt := 2) K dX1_burnOn_31 rfl ?_
        refine jk_sub (lv' := [(1, .int (nI (j + 1))), (0, .ref (b 0))]) [0, 2] rfl ?_
        refine jk_ws (ws' := (hb_L E X Y b (hb_bo C (j + 1)) G M)) (by first | rfl | (simp [hb_bo_s, c_7, c_21]; done)) ?_
        exact ih hlt
  refine jk_iconst (x := 0) K dX1_burnOn_0 rfl ?_
  refine jk_istore_n (lv' := [(1, .int 0), (0, .ref (b 0))]) K dX1_burnOn_1 rfl (by decide) rfl ?_
  refine jk_lv (lv' := [(1, .int (nI 0)), (0, .ref (b 0))]) (by first | rfl | (simp [hb_bo_s]; done)) ?_
  refine jk_ws (ws' := (hb_L E X Y b (hb_bo C 0) G M)) (by first | rfl | (simp [hb_bo_s]; done)) ?_
  exact hL 0 (Nat.zero_le _)
set_option maxHeartbeats 4000000 in
set_option maxRecDepth 100000 in
theorem hb_X1_passOne (l : Launch) (hl : l.stackTraces = false) (E : jk_T) (X Y : va_W) (b : Nat → Nat) (C : Nat → Nat → Int32) (G M : Nat → Int32) (n : Nat) (hn : n ≤ 10) (hg : G 0 = nI n) : jk_fn l yX1_passOne wsX1_passOne ({ frames := 4, cells := 0, slots := 0, locals := 93 } : Room) [.ref (b 0)] E (hb_L E X Y b C G M) (none) (hb_L E X Y b (hb_poC C G M n) (hb_poG C G M n) M) := by
  refine jk_of (lv := [(0, .ref (b 0))]) (own := RX1) (nm := "passOne") hl (by decide +kernel) rfl (Nat.le_of_ble_eq_true rfl) rfl rfl rfl (fun Γ hΓ K hnm hz => ?_)
  subst hΓ
  have hin_RX1 : ∀ w ∈ u_ws RX1 TX1 9, w ∈ wsX1_passOne := by decide +kernel
  have hg' : (hb_p3 C G M n).2 0 = nI n := (hb_as_0 0 (by decide) (by decide) n).trans hg
  refine jk_aload_n K dX1_passOne_0 rfl 0 rfl ?_
  refine jk_cVv K (n' := 0) (k' := 0) [] [] dX1_passOne_1 (hb_X1_rememberFires _ hl E X Y b C G M n hn hg) gX1_passOne_X1_rememberFires rfl kd_X1_rememberFires ⟨Nat.le_of_ble_eq_true rfl, Nat.le_of_ble_eq_true rfl⟩ (X.length + 0) hb_L0 rfl (Nat.le_of_ble_eq_true rfl) ⟨rfl, rfl⟩ ⟨Nat.le_of_ble_eq_true rfl, Nat.le_of_ble_eq_true rfl⟩ rfl (fun _ _ => ?_)
  refine jk_aload_n K dX1_passOne_4 rfl 0 rfl ?_
  refine jk_cVv K (n' := 0) (k' := 0) [] [] dX1_passOne_5 (hb_X1_lookOut _ hl E X Y b (hb_rem C n) G M n hn hg) gX1_passOne_X1_lookOut rfl kd_X1_lookOut ⟨Nat.le_of_ble_eq_true rfl, Nat.le_of_ble_eq_true rfl⟩ (X.length + 0) hb_L0 rfl (Nat.le_of_ble_eq_true rfl) ⟨rfl, rfl⟩ ⟨Nat.le_of_ble_eq_true rfl, Nat.le_of_ble_eq_true rfl⟩ rfl (fun _ _ => ?_)
  refine jk_aload_n K dX1_passOne_8 rfl 0 rfl ?_
  refine jk_cVv K (n' := 0) (k' := 0) [] [] dX1_passOne_9 (hb_X1_answerSignals _ hl E X Y b (hb_lo (hb_rem C n) G M n n) G M n hn hg) gX1_passOne_X1_answerSignals rfl kd_X1_answerSignals ⟨Nat.le_of_ble_eq_true rfl, Nat.le_of_ble_eq_true rfl⟩ (X.length + 0) hb_L0 rfl (Nat.le_of_ble_eq_true rfl) ⟨rfl, rfl⟩ ⟨Nat.le_of_ble_eq_true rfl, Nat.le_of_ble_eq_true rfl⟩ rfl (fun _ _ => ?_)
  refine jk_aload_n K dX1_passOne_12 rfl 0 rfl ?_
  refine jk_cVv K (n' := 0) (k' := 0) [] [] dX1_passOne_13 (hb_X1_kindleOn _ hl E X Y b (hb_as (hb_lo (hb_rem C n) G M n n) G M n n).1 (hb_as (hb_lo (hb_rem C n) G M n n) G M n n).2 M n hn hg') gX1_passOne_X1_kindleOn rfl kd_X1_kindleOn ⟨Nat.le_of_ble_eq_true rfl, Nat.le_of_ble_eq_true rfl⟩ (X.length + 0) hb_L0 rfl (Nat.le_of_ble_eq_true rfl) ⟨rfl, rfl⟩ ⟨Nat.le_of_ble_eq_true rfl, Nat.le_of_ble_eq_true rfl⟩ rfl (fun _ _ => ?_)
  refine jk_aload_n K dX1_passOne_16 rfl 0 rfl ?_
  refine jk_cVv K (n' := 0) (k' := 0) [] [] dX1_passOne_17 (hb_X1_burnOn _ hl E X Y b (hb_ko (hb_as (hb_lo (hb_rem C n) G M n n) G M n n).1 n) (hb_as (hb_lo (hb_rem C n) G M n n) G M n n).2 M n hn hg') gX1_passOne_X1_burnOn rfl kd_X1_burnOn ⟨Nat.le_of_ble_eq_true rfl, Nat.le_of_ble_eq_true rfl⟩ (X.length + 0) hb_L0 rfl (Nat.le_of_ble_eq_true rfl) ⟨rfl, rfl⟩ ⟨Nat.le_of_ble_eq_true rfl, Nat.le_of_ble_eq_true rfl⟩ rfl (fun _ _ => ?_)
  refine jk_aload_n K dX1_passOne_20 rfl 0 rfl ?_
  refine jk_get (C := RX1) (T := TX1) (N := 9) (nm := "glow") (ds := "I") (v := .int ((hb_as (hb_lo (hb_rem C n) G M n n) G M n n).2 2)) K dX1_passOne_21 hin_RX1 (by decide +kernel) (X.length + 0) hb_L0 rfl 5 rfl (by decide) rfl ?_
  refine jk_if_le (tgt := 37) K dX1_passOne_24 rfl (fun c_24 => ?_) (fun c_24 => ?_)
  · refine jk_aload_n K dX1_passOne_37 rfl 0 rfl ?_
    refine jk_dup K dX1_passOne_38 rfl ?_
    refine jk_get (C := RX1) (T := TX1) (N := 9) (nm := "minute") (ds := "I") (v := .int ((hb_as (hb_lo (hb_rem C n) G M n n) G M n n).2 3)) K dX1_passOne_39 hin_RX1 (by decide +kernel) (X.length + 0) hb_L0 rfl 6 rfl (by decide) rfl ?_
    refine jk_iconst (x := 1) K dX1_passOne_42 rfl ?_
    refine jk_iadd K dX1_passOne_43 ?_
    refine jk_put (C := RX1) (T := TX1) (N := 9) (nm := "minute") (ds := "I") (w' := (hb_L E X Y b (hb_bo (hb_ko (hb_as (hb_lo (hb_rem C n) G M n n) G M n n).1 n) n) (hb_fu (hb_as (hb_lo (hb_rem C n) G M n n) G M n n).2 3 (((hb_as (hb_lo (hb_rem C n) G M n n) G M n n).2 3) + 1)) M)) K dX1_passOne_44 hin_RX1 tyX1 tyX1_ok nmX1 (by decide +kernel) (X.length + 0) hb_L0 rfl 6 rfl (by decide) rfl rfl rfl rfl (Nat.le_of_ble_eq_true rfl) (hb_S0 rfl) ?_
    exact jk_vret K hz dX1_passOne_47 () rfl trivial (by have c24 : (hb_p3 C G M n).2 2 ≤ 0 := c_24; unfold hb_poC hb_poG; rw [if_pos c24]; rfl) (Nat.le_of_ble_eq_true rfl) (Nat.le_of_ble_eq_true rfl)
  · refine jk_aload_n K dX1_passOne_27 rfl 0 rfl ?_
    refine jk_dup K dX1_passOne_28 rfl ?_
    refine jk_get (C := RX1) (T := TX1) (N := 9) (nm := "glow") (ds := "I") (v := .int ((hb_as (hb_lo (hb_rem C n) G M n n) G M n n).2 2)) K dX1_passOne_29 hin_RX1 (by decide +kernel) (X.length + 0) hb_L0 rfl 5 rfl (by decide) rfl ?_
    refine jk_iconst (x := 1) K dX1_passOne_32 rfl ?_
    refine jk_isub K dX1_passOne_33 ?_
    refine jk_put (C := RX1) (T := TX1) (N := 9) (nm := "glow") (ds := "I") (w' := (hb_L E X Y b (hb_bo (hb_ko (hb_as (hb_lo (hb_rem C n) G M n n) G M n n).1 n) n) (hb_fu (hb_as (hb_lo (hb_rem C n) G M n n) G M n n).2 2 (((hb_as (hb_lo (hb_rem C n) G M n n) G M n n).2 2) - 1)) M)) K dX1_passOne_34 hin_RX1 tyX1 tyX1_ok nmX1 (by decide +kernel) (X.length + 0) hb_L0 rfl 5 rfl (by decide) rfl rfl rfl rfl (Nat.le_of_ble_eq_true rfl) (hb_S0 rfl) ?_
    refine jk_aload_n K dX1_passOne_37 rfl 0 rfl ?_
    refine jk_dup K dX1_passOne_38 rfl ?_
    refine jk_get (C := RX1) (T := TX1) (N := 9) (nm := "minute") (ds := "I") (v := .int ((hb_fu (hb_as (hb_lo (hb_rem C n) G M n n) G M n n).2 2 (((hb_as (hb_lo (hb_rem C n) G M n n) G M n n).2 2) - 1)) 3)) K dX1_passOne_39 hin_RX1 (by decide +kernel) (X.length + 0) hb_L0 rfl 6 rfl (by decide) rfl ?_
    refine jk_iconst (x := 1) K dX1_passOne_42 rfl ?_
    refine jk_iadd K dX1_passOne_43 ?_
    refine jk_put (C := RX1) (T := TX1) (N := 9) (nm := "minute") (ds := "I") (w' := (hb_L E X Y b (hb_bo (hb_ko (hb_as (hb_lo (hb_rem C n) G M n n) G M n n).1 n) n) (hb_fu (hb_fu (hb_as (hb_lo (hb_rem C n) G M n n) G M n n).2 2 (((hb_as (hb_lo (hb_rem C n) G M n n) G M n n).2 2) - 1)) 3 (((hb_fu (hb_as (hb_lo (hb_rem C n) G M n n) G M n n).2 2 (((hb_as (hb_lo (hb_rem C n) G M n n) G M n n).2 2) - 1)) 3) + 1)) M)) K dX1_passOne_44 hin_RX1 tyX1 tyX1_ok nmX1 (by decide +kernel) (X.length + 0) hb_L0 rfl 6 rfl (by decide) rfl rfl rfl rfl (Nat.le_of_ble_eq_true rfl) (hb_S0 rfl) ?_
    exact jk_vret K hz dX1_passOne_47 () rfl trivial (by have c24 : ¬ (hb_p3 C G M n).2 2 ≤ 0 := c_24; unfold hb_poC hb_poG; rw [if_neg c24]; rfl) (Nat.le_of_ble_eq_true rfl) (Nat.le_of_ble_eq_true rfl)
set_option maxHeartbeats 4000000 in
set_option maxRecDepth 100000 in
theorem hb_X1_passMany (l : Launch) (hl : l.stackTraces = false) (E : jk_T) (X Y : va_W) (b : Nat → Nat) (C : Nat → Nat → Int32) (G M : Nat → Int32) (n : Nat) (hn : n ≤ 10) (hg : G 0 = nI n) (m : Nat) (hm : m ≤ 1000) : jk_fn l yX1_passMany wsX1_passMany ({ frames := 5, cells := 0, slots := 0, locals := 113 } : Room) [.ref (b 0), .int (nI m)] E (hb_L E X Y b C G M) (none) (hb_L E X Y b (hb_pm C G M n m).1 (hb_pm C G M n m).2 M) := by
  refine jk_of (lv := [(0, .ref (b 0)), (1, .int (nI m))]) (own := RX1) (nm := "passMany") hl (by decide +kernel) rfl (Nat.le_of_ble_eq_true rfl) rfl rfl rfl (fun Γ hΓ K hnm hz => ?_)
  subst hΓ
  have hL : ∀ j, j ≤ m → jk_J Γ E (hb_L E X Y b (hb_pm C G M n j).1 (hb_pm C G M n j).2 M) 0 0 2 [(2, .int (nI j)), (0, .ref (b 0)), (1, .int (nI m))] [] := by
    refine jk_loop (fun j hj ih => ?_)
    have hg' : (hb_pm C G M n j).2 0 = nI n := (hb_pm_0 0 (by decide) (by decide) (by decide) (by decide) j).trans hg
    refine jk_iload_n K dX1_passMany_2 rfl 0 rfl ?_
    refine jk_iload_n K dX1_passMany_3 rfl 2 rfl ?_
    refine jk_icmp_ge (tgt := 17) K dX1_passMany_4 rfl (fun c_4 => ?_) (fun c_4 => ?_)
    · have hjn : j = m := hb_ex (n := m) rfl hm hj c_4
      exact jk_vret K hz dX1_passMany_17 () rfl trivial (by rw [hjn]) (Nat.le_of_ble_eq_true rfl) (Nat.le_of_ble_eq_true rfl)
    · have hlt : j < m := hb_in (n := m) rfl hm hj c_4
      refine jk_aload_n K dX1_passMany_7 rfl 1 rfl ?_
      refine jk_cVv K (n' := 0) (k' := 0) [] [] dX1_passMany_8 (hb_X1_passOne _ hl E X Y b (hb_pm C G M n j).1 (hb_pm C G M n j).2 M n hn hg') gX1_passMany_X1_passOne rfl kd_X1_passOne ⟨Nat.le_of_ble_eq_true rfl, Nat.le_of_ble_eq_true rfl⟩ (X.length + 0) hb_L0 rfl (Nat.le_of_ble_eq_true rfl) ⟨rfl, rfl⟩ ⟨Nat.le_of_ble_eq_true rfl, Nat.le_of_ble_eq_true rfl⟩ rfl (fun _ _ => ?_)
      refine jk_iinc (v := (nI (j + 1))) (lv' := [(2, .int (nI (j + 1))), (0, .ref (b 0)), (1, .int (nI m))]) K dX1_passMany_11 0 rfl (nI_1 j) (by decide) rfl ?_
      refine jk_goto (tgt := 2) K dX1_passMany_14 rfl ?_
      refine jk_ws (ws' := (hb_L E X Y b (hb_pm C G M n (j + 1)).1 (hb_pm C G M n (j + 1)).2 M)) (by first | rfl | (simp [hb_pm_s, c_4]; done)) ?_
      exact ih hlt
  refine jk_iconst (x := 0) K dX1_passMany_0 rfl ?_
  refine jk_istore_n (lv' := [(2, .int 0), (0, .ref (b 0)), (1, .int (nI m))]) K dX1_passMany_1 rfl (by decide) rfl ?_
  refine jk_lv (lv' := [(2, .int (nI 0)), (0, .ref (b 0)), (1, .int (nI m))]) (by first | rfl | (simp [hb_pm_s]; done)) ?_
  refine jk_ws (ws' := (hb_L E X Y b (hb_pm C G M n 0).1 (hb_pm C G M n 0).2 M)) (by first | rfl | (simp [hb_pm_s]; done)) ?_
  exact hL 0 (Nat.zero_le _)
