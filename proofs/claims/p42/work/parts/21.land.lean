theorem kd_X1_hillAt : yX1_hillAt.cls = RX1 ∧ yX1_hillAt.cls ≠ "java/lang/invoke/MethodHandle" ∧ yX1_hillAt.cls ≠ "java/lang/invoke/VarHandle" ∧ (parseMethodDescriptor yX1_hillAt.desc).map (fun d => d.parameters.length) = some 1 := by decide +kernel
theorem kd_X1_isClearOver : yX1_isClearOver.cls = RX1 ∧ yX1_isClearOver.cls ≠ "java/lang/invoke/MethodHandle" ∧ yX1_isClearOver.cls ≠ "java/lang/invoke/VarHandle" ∧ (parseMethodDescriptor yX1_isClearOver.desc).map (fun d => d.parameters.length) = some 1 := by decide +kernel
theorem kd_X1_isIn : yX1_isIn.cls ≠ "java/lang/invoke/MethodHandle" ∧ yX1_isIn.cls ≠ "java/lang/invoke/VarHandle" ∧ (parseMethodDescriptor yX1_isIn.desc).map (fun d => d.parameters.length) = some 2 := by decide +kernel
theorem kd_X1_milesFrom : yX1_milesFrom.cls = RX1 ∧ yX1_milesFrom.cls ≠ "java/lang/invoke/MethodHandle" ∧ yX1_milesFrom.cls ≠ "java/lang/invoke/VarHandle" ∧ (parseMethodDescriptor yX1_milesFrom.desc).map (fun d => d.parameters.length) = some 2 := by decide +kernel
theorem kd_X1_seenFrom : yX1_seenFrom.cls = RX1 ∧ yX1_seenFrom.cls ≠ "java/lang/invoke/MethodHandle" ∧ yX1_seenFrom.cls ≠ "java/lang/invoke/VarHandle" ∧ (parseMethodDescriptor yX1_seenFrom.desc).map (fun d => d.parameters.length) = some 1 := by decide +kernel
theorem kd_X1_seenFromAny : yX1_seenFromAny.cls = RX1 ∧ yX1_seenFromAny.cls ≠ "java/lang/invoke/MethodHandle" ∧ yX1_seenFromAny.cls ≠ "java/lang/invoke/VarHandle" ∧ (parseMethodDescriptor yX1_seenFromAny.desc).map (fun d => d.parameters.length) = some 1 := by decide +kernel
theorem kd_X1_sees : yX1_sees.cls = RX1 ∧ yX1_sees.cls ≠ "java/lang/invoke/MethodHandle" ∧ yX1_sees.cls ≠ "java/lang/invoke/VarHandle" ∧ (parseMethodDescriptor yX1_sees.desc).map (fun d => d.parameters.length) = some 2 := by decide +kernel
set_option maxHeartbeats 4000000 in
set_option maxRecDepth 100000 in
theorem hb_X1_hillAt (l : Launch) (hl : l.stackTraces = false) (E : jk_T) (X Y : va_W) (b : Nat → Nat) (C : Nat → Nat → Int32) (G M : Nat → Int32) (x : Int32) : jk_fn l yX1_hillAt wsX1_hillAt ({ frames := 0, cells := 0, slots := 0, locals := 0 } : Room) [.ref (b 0), .int x] E (hb_L E X Y b C G M) (some (.ref (b (3 + hb_hx x)))) (hb_L E X Y b C G M) := by
  refine jk_of (lv := [(0, .ref (b 0)), (1, .int x)]) (own := RX1) (nm := "hillAt") hl (by decide +kernel) rfl (Nat.le_of_ble_eq_true rfl) rfl rfl rfl (fun Γ hΓ K hnm hz => ?_)
  subst hΓ
  have hin_RX1 : ∀ w ∈ u_ws RX1 TX1 9, w ∈ wsX1_hillAt := by decide +kernel
  refine jk_iload_n K dX1_hillAt_0 rfl 1 rfl ?_
  refine jk_if_lt (tgt := 13) K dX1_hillAt_1 rfl (fun c_1 => ?_) (fun c_1 => ?_)
  · refine jk_aload_n K dX1_hillAt_13 rfl 0 rfl ?_
    refine jk_get (C := RX1) (T := TX1) (N := 9) (nm := "nowhere") (ds := "LHillBeacons$Hill;") (v := .ref (b 13)) K dX1_hillAt_14 hin_RX1 (by decide +kernel) (X.length + 0) hb_L0 rfl 1 rfl (by decide) rfl ?_
    exact jk_aret K hz dX1_hillAt_17 () (by unfold hb_hx; first | rw [if_pos (Or.inl (by assumption))] | rw [if_pos (Or.inr (by assumption))] | rw [if_neg (fun q => q.elim (by assumption) (by assumption))]) trivial rfl ⟨_, rfl⟩ (Nat.le_of_ble_eq_true rfl) (Nat.le_of_ble_eq_true rfl)
  · refine jk_iload_n K dX1_hillAt_4 rfl 1 rfl ?_
    refine jk_aload_n K dX1_hillAt_5 rfl 0 rfl ?_
    refine jk_get (C := RX1) (T := TX1) (N := 9) (nm := "places") (ds := "[LHillBeacons$Hill;") (v := .ref (b 1)) K dX1_hillAt_6 hin_RX1 (by decide +kernel) (X.length + 0) hb_L0 rfl 0 rfl (by decide) rfl ?_
    refine jk_alen (v := (nI 10)) K dX1_hillAt_9 (X.length + 1) 1 hb_L1 rfl rfl ?_
    refine jk_icmp_lt (tgt := 18) K dX1_hillAt_10 rfl (fun c_10 => ?_) (fun c_10 => ?_)
    · have c_x : ¬ nI 10 ≤ x := Int32.not_le.mpr c_10
      have hxi : vp_in x 10 := by
        rcases pk_ix x (n := 10) (by decide) with h1 | h1 | ⟨j, h1, rfl⟩
        · exact absurd h1 c_1
        · exact absurd h1 c_x
        · exact vp_in_nI h1 (by decide)
      refine jk_aload_n K dX1_hillAt_18 rfl 0 rfl ?_
      refine jk_get (C := RX1) (T := TX1) (N := 9) (nm := "places") (ds := "[LHillBeacons$Hill;") (v := .ref (b 1)) K dX1_hillAt_19 hin_RX1 (by decide +kernel) (X.length + 0) hb_L0 rfl 0 rfl (by decide) rfl ?_
      refine jk_iload_n K dX1_hillAt_22 rfl 1 rfl ?_
      refine jk_qald (v := (b (3 + x.toNatClampNeg))) K dX1_hillAt_23 (X.length + 1) hb_L1 hxi rfl ?_
      refine jk_astore_n (lv' := [(2, .ref (b (3 + x.toNatClampNeg))), (0, .ref (b 0)), (1, .int x)]) K dX1_hillAt_24 rfl (by decide) rfl ?_
      refine jk_aload_n K dX1_hillAt_25 rfl 0 rfl ?_
      refine jk_ifnonnull (tgt := 36) K dX1_hillAt_26 rfl ?_
      refine jk_aload_n K dX1_hillAt_36 rfl 0 rfl ?_
      exact jk_aret K hz dX1_hillAt_37 () (by unfold hb_hx; first | rw [if_pos (Or.inl (by assumption))] | rw [if_pos (Or.inr (by assumption))] | rw [if_neg (fun q => q.elim (by assumption) (by assumption))]) trivial rfl ⟨_, rfl⟩ (Nat.le_of_ble_eq_true rfl) (Nat.le_of_ble_eq_true rfl)
    · have c_x : nI 10 ≤ x := Int32.not_lt.mp c_10
      refine jk_aload_n K dX1_hillAt_13 rfl 0 rfl ?_
      refine jk_get (C := RX1) (T := TX1) (N := 9) (nm := "nowhere") (ds := "LHillBeacons$Hill;") (v := .ref (b 13)) K dX1_hillAt_14 hin_RX1 (by decide +kernel) (X.length + 0) hb_L0 rfl 1 rfl (by decide) rfl ?_
      exact jk_aret K hz dX1_hillAt_17 () (by unfold hb_hx; first | rw [if_pos (Or.inl (by assumption))] | rw [if_pos (Or.inr (by assumption))] | rw [if_neg (fun q => q.elim (by assumption) (by assumption))]) trivial rfl ⟨_, rfl⟩ (Nat.le_of_ble_eq_true rfl) (Nat.le_of_ble_eq_true rfl)
theorem hb_X1_hillAt_i (l : Launch) (hl : l.stackTraces = false) (E : jk_T) (X Y : va_W) (b : Nat → Nat) (C : Nat → Nat → Int32) (G M : Nat → Int32) (i : Nat) (hi : i < 10) : jk_fn l yX1_hillAt wsX1_hillAt ({ frames := 0, cells := 0, slots := 0, locals := 0 } : Room) [.ref (b 0), .int (nI i)] E (hb_L E X Y b C G M) (some (.ref (b (3 + i)))) (hb_L E X Y b C G M) := by
  have h := hb_X1_hillAt l hl E X Y b C G M (nI i)
  rw [hb_hx_nI hi] at h
  exact h
set_option maxHeartbeats 4000000 in
set_option maxRecDepth 100000 in
theorem hb_X1_settle (l : Launch) (hl : l.stackTraces = false) (E : jk_T) (X Y : va_W) (b : Nat → Nat) (C : Nat → Nat → Int32) (G M : Nat → Int32) (wood damp watch : Int32) (n : Nat) (hn : n < 10) (hg : G 0 = nI n) : jk_fn l yX1_settle wsX1_settle ({ frames := 1, cells := 0, slots := 0, locals := 22 } : Room) [.ref (b 0), .int wood, .int damp, .int watch] E (hb_L E X Y b C G M) (some (.int (nI n))) (hb_L E X Y b (va_up C n (hb_fu (hb_fu (hb_fu (C n) 0 wood) 1 damp) 2 watch)) (hb_fu G 0 (nI (n + 1))) M) := by
  refine jk_of (lv := [(0, .ref (b 0)), (1, .int wood), (2, .int damp), (3, .int watch)]) (own := RX1) (nm := "settle") hl (by decide +kernel) rfl (Nat.le_of_ble_eq_true rfl) rfl rfl rfl (fun Γ hΓ K hnm hz => ?_)
  subst hΓ
  have hin_RX0 : ∀ w ∈ u_ws RX0 TX0 11, w ∈ wsX1_settle := by decide +kernel
  have hin_RX1 : ∀ w ∈ u_ws RX1 TX1 9, w ∈ wsX1_settle := by decide +kernel
  refine jk_aload_n K dX1_settle_0 rfl 0 rfl ?_
  refine jk_get (C := RX1) (T := TX1) (N := 9) (nm := "count") (ds := "I") (v := .int (G 0)) K dX1_settle_1 hin_RX1 (by decide +kernel) (X.length + 0) hb_L0 rfl 3 rfl (by decide) rfl ?_
  refine jk_st (st' := [.int (nI n)]) (by rw [hg]) ?_
  refine jk_istore (lv' := [(4, .int (nI n)), (0, .ref (b 0)), (1, .int wood), (2, .int damp), (3, .int watch)]) K dX1_settle_4 (by decide) rfl ?_
  refine jk_aload_n K dX1_settle_6 rfl 1 rfl ?_
  refine jk_iload K dX1_settle_7 0 rfl ?_
  refine jk_cVr K (n' := 0) (k' := 0) [.int (nI n)] [] dX1_settle_9 (hb_X1_hillAt_i _ hl E X Y b C G M n hn) gX1_settle_X1_hillAt rfl kd_X1_hillAt ⟨Nat.le_of_ble_eq_true rfl, Nat.le_of_ble_eq_true rfl⟩ (X.length + 0) hb_L0 rfl (Nat.le_of_ble_eq_true rfl) ⟨rfl, rfl⟩ ⟨Nat.le_of_ble_eq_true rfl, Nat.le_of_ble_eq_true rfl⟩ rfl (fun _ _ => ?_)
  refine jk_astore (lv' := [(5, .ref (b (3 + n))), (4, .int (nI n)), (0, .ref (b 0)), (1, .int wood), (2, .int damp), (3, .int watch)]) K dX1_settle_12 (by decide) rfl ?_
  refine jk_aload K dX1_settle_14 0 rfl ?_
  refine jk_iload_n K dX1_settle_16 rfl 3 rfl ?_
  refine jk_put (C := RX0) (T := TX0) (N := 11) (nm := "wood") (ds := "I") (w' := (hb_L E X Y b (va_up C n (hb_fu (C n) 0 wood)) G M)) K dX1_settle_17 hin_RX0 tyX0 tyX0_ok nmX0 (by decide +kernel) (X.length + (3 + n)) (hb_Lh (Nat.le_of_lt hn)) rfl 0 rfl (by decide) rfl rfl rfl rfl (Nat.le_of_ble_eq_true rfl) (hb_Sh (Nat.le_of_lt hn) rfl) ?_
  refine jk_aload K dX1_settle_20 0 rfl ?_
  refine jk_iload_n K dX1_settle_22 rfl 4 rfl ?_
  refine jk_put (C := RX0) (T := TX0) (N := 11) (nm := "damp") (ds := "I") (w' := (hb_L E X Y b (va_up C n (hb_fu (hb_fu (C n) 0 wood) 1 damp)) G M)) K dX1_settle_23 hin_RX0 tyX0 tyX0_ok nmX0 (by decide +kernel) (X.length + (3 + n)) (hb_Lhu (Nat.le_of_lt hn)) rfl 1 rfl (by decide) rfl rfl rfl rfl (Nat.le_of_ble_eq_true rfl) (hb_Shu (Nat.le_of_lt hn) rfl) ?_
  refine jk_aload K dX1_settle_26 0 rfl ?_
  refine jk_iload_n K dX1_settle_28 rfl 5 rfl ?_
  refine jk_put (C := RX0) (T := TX0) (N := 11) (nm := "watch") (ds := "I") (w' := (hb_L E X Y b (va_up C n (hb_fu (hb_fu (hb_fu (C n) 0 wood) 1 damp) 2 watch)) G M)) K dX1_settle_29 hin_RX0 tyX0 tyX0_ok nmX0 (by decide +kernel) (X.length + (3 + n)) (hb_Lhu (Nat.le_of_lt hn)) rfl 2 rfl (by decide) rfl rfl rfl rfl (Nat.le_of_ble_eq_true rfl) (hb_Shu (Nat.le_of_lt hn) rfl) ?_
  refine jk_aload_n K dX1_settle_32 rfl 2 rfl ?_
  refine jk_iload K dX1_settle_33 1 rfl ?_
  refine jk_iconst (x := 1) K dX1_settle_35 rfl ?_
  refine jk_iadd K dX1_settle_36 ?_
  refine jk_st (st' := [.int (nI (n + 1)), .ref (b 0)]) (by rw [nI_1]) ?_
  refine jk_put (C := RX1) (T := TX1) (N := 9) (nm := "count") (ds := "I") (w' := (hb_L E X Y b (va_up C n (hb_fu (hb_fu (hb_fu (C n) 0 wood) 1 damp) 2 watch)) (hb_fu G 0 (nI (n + 1))) M)) K dX1_settle_37 hin_RX1 tyX1 tyX1_ok nmX1 (by decide +kernel) (X.length + 0) hb_L0 rfl 3 rfl (by decide) rfl rfl rfl rfl (Nat.le_of_ble_eq_true rfl) (hb_S0 rfl) ?_
  refine jk_iload K dX1_settle_40 1 rfl ?_
  exact jk_iret K hz dX1_settle_42 () rfl trivial rfl rfl (Nat.le_of_ble_eq_true rfl) (Nat.le_of_ble_eq_true rfl)
set_option maxHeartbeats 4000000 in
set_option maxRecDepth 100000 in
theorem hb_X1_milesFrom (l : Launch) (hl : l.stackTraces = false) (E : jk_T) (X Y : va_W) (b : Nat → Nat) (C : Nat → Nat → Int32) (G M : Nat → Int32) (a c : Nat) (ha : a < 10) (hc : c < 10) : jk_fn l yX1_milesFrom wsX1_milesFrom ({ frames := 0, cells := 0, slots := 0, locals := 0 } : Room) [.ref (b 0), .int (nI a), .int (nI c)] E (hb_L E X Y b C G M) (some (.int (M (a * 10 + c)))) (hb_L E X Y b C G M) := by
  refine jk_of (lv := [(0, .ref (b 0)), (1, .int (nI a)), (2, .int (nI c))]) (own := RX1) (nm := "milesFrom") hl (by decide +kernel) rfl (Nat.le_of_ble_eq_true rfl) rfl rfl rfl (fun Γ hΓ K hnm hz => ?_)
  subst hΓ
  have hin_RX1 : ∀ w ∈ u_ws RX1 TX1 9, w ∈ wsX1_milesFrom := by decide +kernel
  refine jk_iload_n K dX1_milesFrom_0 rfl 1 rfl ?_
  refine jk_bipush (x := (nI 10)) K dX1_milesFrom_1 rfl ?_
  refine jk_imul K dX1_milesFrom_3 ?_
  refine jk_iload_n K dX1_milesFrom_4 rfl 2 rfl ?_
  refine jk_iadd K dX1_milesFrom_5 ?_
  refine jk_st (st' := [.int (nI (a * 10 + c))]) (by rw [pk_mul, nI_add]) ?_
  refine jk_istore_n (lv' := [(3, .int (nI (a * 10 + c))), (0, .ref (b 0)), (1, .int (nI a)), (2, .int (nI c))]) K dX1_milesFrom_6 rfl (by decide) rfl ?_
  refine jk_iload_n K dX1_milesFrom_7 rfl 0 rfl ?_
  refine jk_if_lt (tgt := 29) K dX1_milesFrom_8 rfl (fun c_8 => ?_) (fun c_8 => ?_)
  · exact absurd c_8 (nI_pos (by omega))
  · have hin : vp_in (nI (a * 10 + c)) 100 := vp_in_nI (by omega) (by decide)
    refine jk_iload_n K dX1_milesFrom_11 rfl 0 rfl ?_
    refine jk_aload_n K dX1_milesFrom_12 rfl 1 rfl ?_
    refine jk_get (C := RX1) (T := TX1) (N := 9) (nm := "sights") (ds := "[I") (v := .ref (b 2)) K dX1_milesFrom_13 hin_RX1 (by decide +kernel) (X.length + 0) hb_L0 rfl 2 rfl (by decide) rfl ?_
    refine jk_alen (v := (nI 100)) K dX1_milesFrom_16 (X.length + 2) 0 hb_L2 rfl rfl ?_
    refine jk_icmp_ge (tgt := 29) K dX1_milesFrom_17 rfl (fun c_17 => ?_) (fun c_17 => ?_)
    · exact absurd c_17 (nI_ge (by omega) (by decide))
    · refine jk_aload_n K dX1_milesFrom_20 rfl 1 rfl ?_
      refine jk_get (C := RX1) (T := TX1) (N := 9) (nm := "sights") (ds := "[I") (v := .ref (b 2)) K dX1_milesFrom_21 hin_RX1 (by decide +kernel) (X.length + 0) hb_L0 rfl 2 rfl (by decide) rfl ?_
      refine jk_iload_n K dX1_milesFrom_24 rfl 0 rfl ?_
      refine jk_iald (v := (M (a * 10 + c))) K dX1_milesFrom_25 (X.length + 2) hb_L2 hin (by rw [nI_clamp (by omega)]) ?_
      refine jk_goto (tgt := 30) K dX1_milesFrom_26 rfl ?_
      exact jk_iret K hz dX1_milesFrom_30 () rfl trivial rfl rfl (Nat.le_of_ble_eq_true rfl) (Nat.le_of_ble_eq_true rfl)
set_option maxHeartbeats 4000000 in
set_option maxRecDepth 100000 in
theorem hb_X1_putMiles (l : Launch) (hl : l.stackTraces = false) (E : jk_T) (X Y : va_W) (b : Nat → Nat) (C : Nat → Nat → Int32) (G M : Nat → Int32) (a c : Nat) (ha : a < 10) (hc : c < 10) (v : Int32) : jk_fn l yX1_putMiles wsX1_putMiles ({ frames := 0, cells := 0, slots := 0, locals := 0 } : Room) [.ref (b 0), .int (nI a), .int (nI c), .int v] E (hb_L E X Y b C G M) (none) (hb_L E X Y b C G (upd M (a * 10 + c) v)) := by
  refine jk_of (lv := [(0, .ref (b 0)), (1, .int (nI a)), (2, .int (nI c)), (3, .int v)]) (own := RX1) (nm := "putMiles") hl (by decide +kernel) rfl (Nat.le_of_ble_eq_true rfl) rfl rfl rfl (fun Γ hΓ K hnm hz => ?_)
  subst hΓ
  have hin_RX1 : ∀ w ∈ u_ws RX1 TX1 9, w ∈ wsX1_putMiles := by decide +kernel
  refine jk_iload_n K dX1_putMiles_0 rfl 1 rfl ?_
  refine jk_bipush (x := (nI 10)) K dX1_putMiles_1 rfl ?_
  refine jk_imul K dX1_putMiles_3 ?_
  refine jk_iload_n K dX1_putMiles_4 rfl 2 rfl ?_
  refine jk_iadd K dX1_putMiles_5 ?_
  refine jk_st (st' := [.int (nI (a * 10 + c))]) (by rw [pk_mul, nI_add]) ?_
  refine jk_istore (lv' := [(4, .int (nI (a * 10 + c))), (0, .ref (b 0)), (1, .int (nI a)), (2, .int (nI c)), (3, .int v)]) K dX1_putMiles_6 (by decide) rfl ?_
  refine jk_iload K dX1_putMiles_8 0 rfl ?_
  refine jk_if_lt (tgt := 31) K dX1_putMiles_10 rfl (fun c_10 => ?_) (fun c_10 => ?_)
  · exact absurd c_10 (nI_pos (by omega))
  · have hin : vp_in (nI (a * 10 + c)) 100 := vp_in_nI (by omega) (by decide)
    refine jk_iload K dX1_putMiles_13 0 rfl ?_
    refine jk_aload_n K dX1_putMiles_15 rfl 1 rfl ?_
    refine jk_get (C := RX1) (T := TX1) (N := 9) (nm := "sights") (ds := "[I") (v := .ref (b 2)) K dX1_putMiles_16 hin_RX1 (by decide +kernel) (X.length + 0) hb_L0 rfl 2 rfl (by decide) rfl ?_
    refine jk_alen (v := (nI 100)) K dX1_putMiles_19 (X.length + 2) 0 hb_L2 rfl rfl ?_
    refine jk_icmp_ge (tgt := 31) K dX1_putMiles_20 rfl (fun c_20 => ?_) (fun c_20 => ?_)
    · exact absurd c_20 (nI_ge (by omega) (by decide))
    · refine jk_aload_n K dX1_putMiles_23 rfl 1 rfl ?_
      refine jk_get (C := RX1) (T := TX1) (N := 9) (nm := "sights") (ds := "[I") (v := .ref (b 2)) K dX1_putMiles_24 hin_RX1 (by decide +kernel) (X.length + 0) hb_L0 rfl 2 rfl (by decide) rfl ?_
      refine jk_iload K dX1_putMiles_27 0 rfl ?_
      refine jk_iload_n K dX1_putMiles_29 rfl 4 rfl ?_
      refine jk_iast (w' := (hb_L E X Y b C G (upd M (a * 10 + c) v))) K dX1_putMiles_30 (X.length + 2) hb_L2 hin (by rw [nI_clamp (by omega)]; exact hb_S2) ?_
      exact jk_vret K hz dX1_putMiles_31 () rfl trivial rfl (Nat.le_of_ble_eq_true rfl) (Nat.le_of_ble_eq_true rfl)
set_option maxHeartbeats 4000000 in
set_option maxRecDepth 100000 in
theorem hb_X1_isClearOver (l : Launch) (hl : l.stackTraces = false) (E : jk_T) (X Y : va_W) (b : Nat → Nat) (C : Nat → Nat → Int32) (G M : Nat → Int32) (x : Int32) : jk_fn l yX1_isClearOver wsX1_isClearOver ({ frames := 0, cells := 0, slots := 0, locals := 0 } : Room) [.ref (b 0), .int x] E (hb_L E X Y b C G M) (some (.int (hb_clr (G 1) x))) (hb_L E X Y b C G M) := by
  refine jk_of (lv := [(0, .ref (b 0)), (1, .int x)]) (own := RX1) (nm := "isClearOver") hl (by decide +kernel) rfl (Nat.le_of_ble_eq_true rfl) rfl rfl rfl (fun Γ hΓ K hnm hz => ?_)
  subst hΓ
  have hin_RX1 : ∀ w ∈ u_ws RX1 TX1 9, w ∈ wsX1_isClearOver := by decide +kernel
  refine jk_iload_n K dX1_isClearOver_0 rfl 1 rfl ?_
  refine jk_if_le (tgt := 21) K dX1_isClearOver_1 rfl (fun c_1 => ?_) (fun c_1 => ?_)
  · refine jk_iconst (x := 0) K dX1_isClearOver_21 rfl ?_
    exact jk_iret K hz dX1_isClearOver_22 () (by unfold hb_clr; rw [if_neg (fun q => absurd q.1 (Int32.not_lt.mpr c_1))]) trivial rfl rfl (Nat.le_of_ble_eq_true rfl) (Nat.le_of_ble_eq_true rfl)
  · refine jk_iload_n K dX1_isClearOver_4 rfl 1 rfl ?_
    refine jk_bipush (x := 20) K dX1_isClearOver_5 rfl ?_
    refine jk_iconst (x := 2) K dX1_isClearOver_7 rfl ?_
    refine jk_aload_n K dX1_isClearOver_8 rfl 0 rfl ?_
    refine jk_get (C := RX1) (T := TX1) (N := 9) (nm := "haze") (ds := "I") (v := .int (G 1)) K dX1_isClearOver_9 hin_RX1 (by decide +kernel) (X.length + 0) hb_L0 rfl 4 rfl (by decide) rfl ?_
    refine jk_imul K dX1_isClearOver_12 ?_
    refine jk_isub K dX1_isClearOver_13 ?_
    refine jk_icmp_gt (tgt := 21) K dX1_isClearOver_14 rfl (fun c_14 => ?_) (fun c_14 => ?_)
    · refine jk_iconst (x := 0) K dX1_isClearOver_21 rfl ?_
      exact jk_iret K hz dX1_isClearOver_22 () (by unfold hb_clr; rw [if_neg (fun q => absurd q.2 (Int32.not_le.mpr c_14))]) trivial rfl rfl (Nat.le_of_ble_eq_true rfl) (Nat.le_of_ble_eq_true rfl)
    · refine jk_iconst (x := 1) K dX1_isClearOver_17 rfl ?_
      refine jk_goto (tgt := 22) K dX1_isClearOver_18 rfl ?_
      exact jk_iret K hz dX1_isClearOver_22 () (by unfold hb_clr; rw [if_pos ⟨Int32.not_le.mp c_1, Int32.not_lt.mp c_14⟩]) trivial rfl rfl (Nat.le_of_ble_eq_true rfl) (Nat.le_of_ble_eq_true rfl)
set_option maxHeartbeats 4000000 in
set_option maxRecDepth 100000 in
theorem hb_X1_sees (l : Launch) (hl : l.stackTraces = false) (E : jk_T) (X Y : va_W) (b : Nat → Nat) (C : Nat → Nat → Int32) (G M : Nat → Int32) (a c : Nat) (ha : a < 10) (hc : c < 10) : jk_fn l yX1_sees wsX1_sees ({ frames := 1, cells := 0, slots := 0, locals := 23 } : Room) [.ref (b 0), .int (nI a), .int (nI c)] E (hb_L E X Y b C G M) (some (.int (hb_clr (G 1) (M (a * 10 + c))))) (hb_L E X Y b C G M) := by
  refine jk_of (lv := [(0, .ref (b 0)), (1, .int (nI a)), (2, .int (nI c))]) (own := RX1) (nm := "sees") hl (by decide +kernel) rfl (Nat.le_of_ble_eq_true rfl) rfl rfl rfl (fun Γ hΓ K hnm hz => ?_)
  subst hΓ
  refine jk_aload_n K dX1_sees_0 rfl 0 rfl ?_
  refine jk_aload_n K dX1_sees_1 rfl 0 rfl ?_
  refine jk_iload_n K dX1_sees_2 rfl 1 rfl ?_
  refine jk_iload_n K dX1_sees_3 rfl 2 rfl ?_
  refine jk_cVi K (n' := 0) (k' := 0) [.int (nI a), .int (nI c)] [.ref (b 0)] dX1_sees_4 (hb_X1_milesFrom _ hl E X Y b C G M a c ha hc) gX1_sees_X1_milesFrom rfl kd_X1_milesFrom ⟨Nat.le_of_ble_eq_true rfl, Nat.le_of_ble_eq_true rfl⟩ (X.length + 0) hb_L0 rfl (Nat.le_of_ble_eq_true rfl) ⟨rfl, rfl⟩ ⟨Nat.le_of_ble_eq_true rfl, Nat.le_of_ble_eq_true rfl⟩ rfl (fun _ _ => ?_)
  refine jk_cVi K (n' := 0) (k' := 0) [.int (M (a * 10 + c))] [] dX1_sees_7 (hb_X1_isClearOver _ hl E X Y b C G M (M (a * 10 + c))) gX1_sees_X1_isClearOver rfl kd_X1_isClearOver ⟨Nat.le_of_ble_eq_true rfl, Nat.le_of_ble_eq_true rfl⟩ (X.length + 0) hb_L0 rfl (Nat.le_of_ble_eq_true rfl) ⟨rfl, rfl⟩ ⟨Nat.le_of_ble_eq_true rfl, Nat.le_of_ble_eq_true rfl⟩ rfl (fun _ _ => ?_)
  exact jk_iret K hz dX1_sees_10 () rfl trivial rfl (by unfold hb_clr; split <;> rfl) (Nat.le_of_ble_eq_true rfl) (Nat.le_of_ble_eq_true rfl)
set_option maxHeartbeats 4000000 in
set_option maxRecDepth 100000 in
theorem hb_X1_isIn (l : Launch) (hl : l.stackTraces = false) (E : jk_T) (ws : va_W) (set hill : Int32) : jk_fn l yX1_isIn wsX1_isIn ({ frames := 0, cells := 0, slots := 0, locals := 0 } : Room) [.int set, .int hill] E ws (some (.int (hb_isin set hill))) ws := by
  refine jk_of (lv := [(0, .int set), (1, .int hill)]) (own := RX1) (nm := "isIn") hl (by decide +kernel) rfl (Nat.le_of_ble_eq_true rfl) rfl rfl rfl (fun Γ hΓ K hnm hz => ?_)
  subst hΓ
  refine jk_iload_n K dX1_isIn_0 rfl 0 rfl ?_
  refine jk_iload_n K dX1_isIn_1 rfl 1 rfl ?_
  refine jk_ishr K dX1_isIn_2 ?_
  refine jk_iconst (x := 1) K dX1_isIn_3 rfl ?_
  refine jk_iand K dX1_isIn_4 ?_
  refine jk_if_eq (tgt := 12) K dX1_isIn_5 rfl (fun c_5 => ?_) (fun c_5 => ?_)
  · refine jk_iconst (x := 0) K dX1_isIn_12 rfl ?_
    exact jk_iret K hz dX1_isIn_13 () (by simp_all [hb_isin]) trivial rfl rfl (Nat.le_of_ble_eq_true rfl) (Nat.le_of_ble_eq_true rfl)
  · refine jk_iconst (x := 1) K dX1_isIn_8 rfl ?_
    refine jk_goto (tgt := 13) K dX1_isIn_9 rfl ?_
    exact jk_iret K hz dX1_isIn_13 () (by simp_all [hb_isin]) trivial rfl rfl (Nat.le_of_ble_eq_true rfl) (Nat.le_of_ble_eq_true rfl)
set_option maxHeartbeats 4000000 in
set_option maxRecDepth 100000 in
theorem hb_X1_seenFrom (l : Launch) (hl : l.stackTraces = false) (E : jk_T) (X Y : va_W) (b : Nat → Nat) (C : Nat → Nat → Int32) (G M : Nat → Int32) (a : Nat) (ha : a < 10) (n : Nat) (hn : n ≤ 10) (hg : G 0 = nI n) : jk_fn l yX1_seenFrom wsX1_seenFrom ({ frames := 2, cells := 0, slots := 0, locals := 45 } : Room) [.ref (b 0), .int (nI a)] E (hb_L E X Y b C G M) (some (.int (hb_sf G M a n))) (hb_L E X Y b C G M) := by
  refine jk_of (lv := [(0, .ref (b 0)), (1, .int (nI a))]) (own := RX1) (nm := "seenFrom") hl (by decide +kernel) rfl (Nat.le_of_ble_eq_true rfl) rfl rfl rfl (fun Γ hΓ K hnm hz => ?_)
  subst hΓ
  have hin_RX1 : ∀ w ∈ u_ws RX1 TX1 9, w ∈ wsX1_seenFrom := by decide +kernel
  have hL : ∀ j, j ≤ n → jk_J Γ E (hb_L E X Y b C G M) 0 0 4 [(3, .int (nI j)), (2, .int (hb_sf G M a j)), (1, .int (nI a)), (0, .ref (b 0))] [] := by
    refine jk_loop (fun j hj ih => ?_)
    refine jk_iload_n K dX1_seenFrom_4 rfl 0 rfl ?_
    refine jk_aload_n K dX1_seenFrom_5 rfl 3 rfl ?_
    refine jk_get (C := RX1) (T := TX1) (N := 9) (nm := "count") (ds := "I") (v := .int (G 0)) K dX1_seenFrom_6 hin_RX1 (by decide +kernel) (X.length + 0) hb_L0 rfl 3 rfl (by decide) rfl ?_
    refine jk_icmp_ge (tgt := 33) K dX1_seenFrom_9 rfl (fun c_9 => ?_) (fun c_9 => ?_)
    · have hjn : j = n := hb_ex hg (by omega) hj c_9
      refine jk_iload_n K dX1_seenFrom_33 rfl 1 rfl ?_
      exact jk_iret K hz dX1_seenFrom_34 () (by rw [hjn]) trivial rfl rfl (Nat.le_of_ble_eq_true rfl) (Nat.le_of_ble_eq_true rfl)
    · have hlt : j < n := hb_in hg (by omega) hj c_9
      refine jk_aload_n K dX1_seenFrom_12 rfl 3 rfl ?_
      refine jk_iload_n K dX1_seenFrom_13 rfl 2 rfl ?_
      refine jk_iload_n K dX1_seenFrom_14 rfl 0 rfl ?_
      refine jk_cVi K (n' := 0) (k' := 0) [.int (nI a), .int (nI j)] [] dX1_seenFrom_15 (hb_X1_sees _ hl E X Y b C G M a j ha (Nat.lt_of_lt_of_le hlt hn)) gX1_seenFrom_X1_sees rfl kd_X1_sees ⟨Nat.le_of_ble_eq_true rfl, Nat.le_of_ble_eq_true rfl⟩ (X.length + 0) hb_L0 rfl (Nat.le_of_ble_eq_true rfl) ⟨rfl, rfl⟩ ⟨Nat.le_of_ble_eq_true rfl, Nat.le_of_ble_eq_true rfl⟩ rfl (fun _ _ => ?_)
      refine jk_if_eq (tgt := 27) K dX1_seenFrom_18 rfl (fun c_18 => ?_) (fun c_18 => ?_)
      · refine jk_iinc (v := (nI (j + 1))) (lv' := [(3, .int (nI (j + 1))), (2, .int (hb_sf G M a j)), (1, .int (nI a)), (0, .ref (b 0))]) K dX1_seenFrom_27 0 rfl (nI_1 j) (by decide) rfl ?_
        refine jk_goto (tgt := 4) K dX1_seenFrom_30 rfl ?_
        refine jk_lv (lv' := [(3, .int (nI (j + 1))), (2, .int (hb_sf G M a (j + 1))), (1, .int (nI a)), (0, .ref (b 0))]) (by first | rfl | (simp [hb_sf_s, c_9, c_18]; done)) ?_
        exact ih hlt
      · refine jk_iload_n K dX1_seenFrom_21 rfl 1 rfl ?_
        refine jk_iconst (x := 1) K dX1_seenFrom_22 rfl ?_
        refine jk_iload_n K dX1_seenFrom_23 rfl 0 rfl ?_
        refine jk_ishl K dX1_seenFrom_24 ?_
        refine jk_ior K dX1_seenFrom_25 ?_
        refine jk_istore_n (lv' := [(2, .int ((hb_sf G M a j) ||| (1 <<< ((nI j) &&& 31)))), (3, .int (nI j)), (1, .int (nI a)), (0, .ref (b 0))]) K dX1_seenFrom_26 rfl (by decide) rfl ?_
        refine jk_iinc (v := (nI (j + 1))) (lv' := [(3, .int (nI (j + 1))), (2, .int ((hb_sf G M a j) ||| (1 <<< ((nI j) &&& 31)))), (1, .int (nI a)), (0, .ref (b 0))]) K dX1_seenFrom_27 1 rfl (nI_1 j) (by decide) rfl ?_
        refine jk_goto (tgt := 4) K dX1_seenFrom_30 rfl ?_
        refine jk_lv (lv' := [(3, .int (nI (j + 1))), (2, .int (hb_sf G M a (j + 1))), (1, .int (nI a)), (0, .ref (b 0))]) (by first | rfl | (simp [hb_sf_s, c_9, c_18]; done)) ?_
        exact ih hlt
  refine jk_iconst (x := 0) K dX1_seenFrom_0 rfl ?_
  refine jk_istore_n (lv' := [(2, .int 0), (0, .ref (b 0)), (1, .int (nI a))]) K dX1_seenFrom_1 rfl (by decide) rfl ?_
  refine jk_iconst (x := 0) K dX1_seenFrom_2 rfl ?_
  refine jk_istore_n (lv' := [(3, .int 0), (2, .int 0), (0, .ref (b 0)), (1, .int (nI a))]) K dX1_seenFrom_3 rfl (by decide) rfl ?_
  refine jk_sub (lv' := [(3, .int 0), (2, .int 0), (1, .int (nI a)), (0, .ref (b 0))]) [0, 1, 3, 2] rfl ?_
  refine jk_lv (lv' := [(3, .int (nI 0)), (2, .int (hb_sf G M a 0)), (1, .int (nI a)), (0, .ref (b 0))]) (by first | rfl | (simp [hb_sf_s]; done)) ?_
  exact hL 0 (Nat.zero_le _)
set_option maxHeartbeats 4000000 in
set_option maxRecDepth 100000 in
theorem hb_X1_seenFromAny (l : Launch) (hl : l.stackTraces = false) (E : jk_T) (X Y : va_W) (b : Nat → Nat) (C : Nat → Nat → Int32) (G M : Nat → Int32) (set : Int32) (n : Nat) (hn : n ≤ 10) (hg : G 0 = nI n) : jk_fn l yX1_seenFromAny wsX1_seenFromAny ({ frames := 3, cells := 0, slots := 0, locals := 68 } : Room) [.ref (b 0), .int set] E (hb_L E X Y b C G M) (some (.int (hb_sa G M n set n))) (hb_L E X Y b C G M) := by
  refine jk_of (lv := [(0, .ref (b 0)), (1, .int set)]) (own := RX1) (nm := "seenFromAny") hl (by decide +kernel) rfl (Nat.le_of_ble_eq_true rfl) rfl rfl rfl (fun Γ hΓ K hnm hz => ?_)
  subst hΓ
  have hin_RX1 : ∀ w ∈ u_ws RX1 TX1 9, w ∈ wsX1_seenFromAny := by decide +kernel
  have hL : ∀ j, j ≤ n → jk_J Γ E (hb_L E X Y b C G M) 0 0 4 [(3, .int (nI j)), (2, .int (hb_sa G M n set j)), (1, .int set), (0, .ref (b 0))] [] := by
    refine jk_loop (fun j hj ih => ?_)
    refine jk_iload_n K dX1_seenFromAny_4 rfl 0 rfl ?_
    refine jk_aload_n K dX1_seenFromAny_5 rfl 3 rfl ?_
    refine jk_get (C := RX1) (T := TX1) (N := 9) (nm := "count") (ds := "I") (v := .int (G 0)) K dX1_seenFromAny_6 hin_RX1 (by decide +kernel) (X.length + 0) hb_L0 rfl 3 rfl (by decide) rfl ?_
    refine jk_icmp_ge (tgt := 34) K dX1_seenFromAny_9 rfl (fun c_9 => ?_) (fun c_9 => ?_)
    · have hjn : j = n := hb_ex hg (by omega) hj c_9
      refine jk_iload_n K dX1_seenFromAny_34 rfl 1 rfl ?_
      exact jk_iret K hz dX1_seenFromAny_35 () (by rw [hjn]) trivial rfl rfl (Nat.le_of_ble_eq_true rfl) (Nat.le_of_ble_eq_true rfl)
    · have hlt : j < n := hb_in hg (by omega) hj c_9
      refine jk_iload_n K dX1_seenFromAny_12 rfl 2 rfl ?_
      refine jk_iload_n K dX1_seenFromAny_13 rfl 0 rfl ?_
      refine jk_cSi K (n' := 0) (k' := 0) [.int set, .int (nI j)] [] dX1_seenFromAny_14 (hb_X1_isIn _ hl E (hb_L E X Y b C G M) set (nI j)) gX1_seenFromAny_X1_isIn rfl kd_X1_isIn ⟨Nat.le_of_ble_eq_true rfl, Nat.le_of_ble_eq_true rfl⟩ (Nat.le_of_ble_eq_true rfl) ⟨rfl, rfl⟩ ⟨Nat.le_of_ble_eq_true rfl, Nat.le_of_ble_eq_true rfl⟩ rfl (fun _ _ => ?_)
      refine jk_if_eq (tgt := 28) K dX1_seenFromAny_17 rfl (fun c_17 => ?_) (fun c_17 => ?_)
      · refine jk_iinc (v := (nI (j + 1))) (lv' := [(3, .int (nI (j + 1))), (2, .int (hb_sa G M n set j)), (1, .int set), (0, .ref (b 0))]) K dX1_seenFromAny_28 0 rfl (nI_1 j) (by decide) rfl ?_
        refine jk_goto (tgt := 4) K dX1_seenFromAny_31 rfl ?_
        refine jk_lv (lv' := [(3, .int (nI (j + 1))), (2, .int (hb_sa G M n set (j + 1))), (1, .int set), (0, .ref (b 0))]) (by first | rfl | (simp [hb_sa_s, c_9, c_17]; done)) ?_
        exact ih hlt
      · refine jk_iload_n K dX1_seenFromAny_20 rfl 1 rfl ?_
        refine jk_aload_n K dX1_seenFromAny_21 rfl 3 rfl ?_
        refine jk_iload_n K dX1_seenFromAny_22 rfl 0 rfl ?_
        refine jk_cVi K (n' := 0) (k' := 0) [.int (nI j)] [.int (hb_sa G M n set j)] dX1_seenFromAny_23 (hb_X1_seenFrom _ hl E X Y b C G M j (Nat.lt_of_lt_of_le hlt hn) n hn hg) gX1_seenFromAny_X1_seenFrom rfl kd_X1_seenFrom ⟨Nat.le_of_ble_eq_true rfl, Nat.le_of_ble_eq_true rfl⟩ (X.length + 0) hb_L0 rfl (Nat.le_of_ble_eq_true rfl) ⟨rfl, rfl⟩ ⟨Nat.le_of_ble_eq_true rfl, Nat.le_of_ble_eq_true rfl⟩ rfl (fun _ _ => ?_)
        refine jk_ior K dX1_seenFromAny_26 ?_
        refine jk_istore_n (lv' := [(2, .int ((hb_sa G M n set j) ||| (hb_sf G M j n))), (3, .int (nI j)), (1, .int set), (0, .ref (b 0))]) K dX1_seenFromAny_27 rfl (by decide) rfl ?_
        refine jk_iinc (v := (nI (j + 1))) (lv' := [(3, .int (nI (j + 1))), (2, .int ((hb_sa G M n set j) ||| (hb_sf G M j n))), (1, .int set), (0, .ref (b 0))]) K dX1_seenFromAny_28 1 rfl (nI_1 j) (by decide) rfl ?_
        refine jk_goto (tgt := 4) K dX1_seenFromAny_31 rfl ?_
        refine jk_lv (lv' := [(3, .int (nI (j + 1))), (2, .int (hb_sa G M n set (j + 1))), (1, .int set), (0, .ref (b 0))]) (by first | rfl | (simp [hb_sa_s, c_9, c_17]; done)) ?_
        exact ih hlt
  refine jk_iconst (x := 0) K dX1_seenFromAny_0 rfl ?_
  refine jk_istore_n (lv' := [(2, .int 0), (0, .ref (b 0)), (1, .int set)]) K dX1_seenFromAny_1 rfl (by decide) rfl ?_
  refine jk_iconst (x := 0) K dX1_seenFromAny_2 rfl ?_
  refine jk_istore_n (lv' := [(3, .int 0), (2, .int 0), (0, .ref (b 0)), (1, .int set)]) K dX1_seenFromAny_3 rfl (by decide) rfl ?_
  refine jk_sub (lv' := [(3, .int 0), (2, .int 0), (1, .int set), (0, .ref (b 0))]) [0, 1, 3, 2] rfl ?_
  refine jk_lv (lv' := [(3, .int (nI 0)), (2, .int (hb_sa G M n set 0)), (1, .int set), (0, .ref (b 0))]) (by first | rfl | (simp [hb_sa_s]; done)) ?_
  exact hL 0 (Nat.zero_le _)
set_option maxHeartbeats 4000000 in
set_option maxRecDepth 100000 in
theorem hb_X1_sumWood (l : Launch) (hl : l.stackTraces = false) (E : jk_T) (X Y : va_W) (b : Nat → Nat) (C : Nat → Nat → Int32) (G M : Nat → Int32) (n : Nat) (hn : n ≤ 10) (hg : G 0 = nI n) : jk_fn l yX1_sumWood wsX1_sumWood ({ frames := 1, cells := 0, slots := 0, locals := 22 } : Room) [.ref (b 0)] E (hb_L E X Y b C G M) (some (.int (hb_wood C n))) (hb_L E X Y b C G M) := by
  refine jk_of (lv := [(0, .ref (b 0))]) (own := RX1) (nm := "sumWood") hl (by decide +kernel) rfl (Nat.le_of_ble_eq_true rfl) rfl rfl rfl (fun Γ hΓ K hnm hz => ?_)
  subst hΓ
  have hin_RX0 : ∀ w ∈ u_ws RX0 TX0 11, w ∈ wsX1_sumWood := by decide +kernel
  have hin_RX1 : ∀ w ∈ u_ws RX1 TX1 9, w ∈ wsX1_sumWood := by decide +kernel
  have hL : ∀ j, j ≤ n → jk_J Γ E (hb_L E X Y b C G M) 0 0 4 [(2, .int (nI j)), (1, .int (hb_wood C j)), (0, .ref (b 0))] [] := by
    refine jk_loop (fun j hj ih => ?_)
    refine jk_iload_n K dX1_sumWood_4 rfl 0 rfl ?_
    refine jk_aload_n K dX1_sumWood_5 rfl 2 rfl ?_
    refine jk_get (C := RX1) (T := TX1) (N := 9) (nm := "count") (ds := "I") (v := .int (G 0)) K dX1_sumWood_6 hin_RX1 (by decide +kernel) (X.length + 0) hb_L0 rfl 3 rfl (by decide) rfl ?_
    refine jk_icmp_ge (tgt := 29) K dX1_sumWood_9 rfl (fun c_9 => ?_) (fun c_9 => ?_)
    · have hjn : j = n := hb_ex hg (by omega) hj c_9
      refine jk_iload_n K dX1_sumWood_29 rfl 1 rfl ?_
      exact jk_iret K hz dX1_sumWood_30 () (by rw [hjn]) trivial rfl rfl (Nat.le_of_ble_eq_true rfl) (Nat.le_of_ble_eq_true rfl)
    · have hlt : j < n := hb_in hg (by omega) hj c_9
      refine jk_iload_n K dX1_sumWood_12 rfl 1 rfl ?_
      refine jk_aload_n K dX1_sumWood_13 rfl 2 rfl ?_
      refine jk_iload_n K dX1_sumWood_14 rfl 0 rfl ?_
      refine jk_cVr K (n' := 0) (k' := 0) [.int (nI j)] [.int (hb_wood C j)] dX1_sumWood_15 (hb_X1_hillAt_i _ hl E X Y b C G M j (Nat.lt_of_lt_of_le hlt hn)) gX1_sumWood_X1_hillAt rfl kd_X1_hillAt ⟨Nat.le_of_ble_eq_true rfl, Nat.le_of_ble_eq_true rfl⟩ (X.length + 0) hb_L0 rfl (Nat.le_of_ble_eq_true rfl) ⟨rfl, rfl⟩ ⟨Nat.le_of_ble_eq_true rfl, Nat.le_of_ble_eq_true rfl⟩ rfl (fun _ _ => ?_)
      refine jk_get (C := RX0) (T := TX0) (N := 11) (nm := "wood") (ds := "I") (v := .int ((C j) 0)) K dX1_sumWood_18 hin_RX0 (by decide +kernel) (X.length + (3 + j)) (hb_Lh (Nat.le_of_lt (Nat.lt_of_lt_of_le hlt hn))) rfl 0 rfl (by decide) rfl ?_
      refine jk_iadd K dX1_sumWood_21 ?_
      refine jk_istore_n (lv' := [(1, .int ((hb_wood C j) + ((C j) 0))), (2, .int (nI j)), (0, .ref (b 0))]) K dX1_sumWood_22 rfl (by decide) rfl ?_
      refine jk_iinc (v := (nI (j + 1))) (lv' := [(2, .int (nI (j + 1))), (1, .int ((hb_wood C j) + ((C j) 0))), (0, .ref (b 0))]) K dX1_sumWood_23 1 rfl (nI_1 j) (by decide) rfl ?_
      refine jk_goto (tgt := 4) K dX1_sumWood_26 rfl ?_
      refine jk_lv (lv' := [(2, .int (nI (j + 1))), (1, .int (hb_wood C (j + 1))), (0, .ref (b 0))]) (by first | rfl | (simp [hb_wood_s, c_9]; done)) ?_
      exact ih hlt
  refine jk_iconst (x := 0) K dX1_sumWood_0 rfl ?_
  refine jk_istore_n (lv' := [(1, .int 0), (0, .ref (b 0))]) K dX1_sumWood_1 rfl (by decide) rfl ?_
  refine jk_iconst (x := 0) K dX1_sumWood_2 rfl ?_
  refine jk_istore_n (lv' := [(2, .int 0), (1, .int 0), (0, .ref (b 0))]) K dX1_sumWood_3 rfl (by decide) rfl ?_
  refine jk_lv (lv' := [(2, .int (nI 0)), (1, .int (hb_wood C 0)), (0, .ref (b 0))]) (by first | rfl | (simp [hb_wood_s]; done)) ?_
  exact hL 0 (Nat.zero_le _)
set_option maxHeartbeats 4000000 in
set_option maxRecDepth 100000 in
theorem hb_X1_countBurning (l : Launch) (hl : l.stackTraces = false) (E : jk_T) (X Y : va_W) (b : Nat → Nat) (C : Nat → Nat → Int32) (G M : Nat → Int32) (n : Nat) (hn : n ≤ 10) (hg : G 0 = nI n) : jk_fn l yX1_countBurning wsX1_countBurning ({ frames := 1, cells := 0, slots := 0, locals := 22 } : Room) [.ref (b 0)] E (hb_L E X Y b C G M) (some (.int (hb_burn C n))) (hb_L E X Y b C G M) := by
  refine jk_of (lv := [(0, .ref (b 0))]) (own := RX1) (nm := "countBurning") hl (by decide +kernel) rfl (Nat.le_of_ble_eq_true rfl) rfl rfl rfl (fun Γ hΓ K hnm hz => ?_)
  subst hΓ
  have hin_RX0 : ∀ w ∈ u_ws RX0 TX0 11, w ∈ wsX1_countBurning := by decide +kernel
  have hin_RX1 : ∀ w ∈ u_ws RX1 TX1 9, w ∈ wsX1_countBurning := by decide +kernel
  have hL : ∀ j, j ≤ n → jk_J Γ E (hb_L E X Y b C G M) 0 0 4 [(2, .int (nI j)), (1, .int (hb_burn C j)), (0, .ref (b 0))] [] := by
    refine jk_loop (fun j hj ih => ?_)
    refine jk_iload_n K dX1_countBurning_4 rfl 0 rfl ?_
    refine jk_aload_n K dX1_countBurning_5 rfl 2 rfl ?_
    refine jk_get (C := RX1) (T := TX1) (N := 9) (nm := "count") (ds := "I") (v := .int (G 0)) K dX1_countBurning_6 hin_RX1 (by decide +kernel) (X.length + 0) hb_L0 rfl 3 rfl (by decide) rfl ?_
    refine jk_icmp_ge (tgt := 33) K dX1_countBurning_9 rfl (fun c_9 => ?_) (fun c_9 => ?_)
    · have hjn : j = n := hb_ex hg (by omega) hj c_9
      refine jk_iload_n K dX1_countBurning_33 rfl 1 rfl ?_
      exact jk_iret K hz dX1_countBurning_34 () (by rw [hjn]) trivial rfl rfl (Nat.le_of_ble_eq_true rfl) (Nat.le_of_ble_eq_true rfl)
    · have hlt : j < n := hb_in hg (by omega) hj c_9
      refine jk_aload_n K dX1_countBurning_12 rfl 2 rfl ?_
      refine jk_iload_n K dX1_countBurning_13 rfl 0 rfl ?_
      refine jk_cVr K (n' := 0) (k' := 0) [.int (nI j)] [] dX1_countBurning_14 (hb_X1_hillAt_i _ hl E X Y b C G M j (Nat.lt_of_lt_of_le hlt hn)) gX1_countBurning_X1_hillAt rfl kd_X1_hillAt ⟨Nat.le_of_ble_eq_true rfl, Nat.le_of_ble_eq_true rfl⟩ (X.length + 0) hb_L0 rfl (Nat.le_of_ble_eq_true rfl) ⟨rfl, rfl⟩ ⟨Nat.le_of_ble_eq_true rfl, Nat.le_of_ble_eq_true rfl⟩ rfl (fun _ _ => ?_)
      refine jk_get (C := RX0) (T := TX0) (N := 11) (nm := "fire") (ds := "I") (v := .int ((C j) 5)) K dX1_countBurning_17 hin_RX0 (by decide +kernel) (X.length + (3 + j)) (hb_Lh (Nat.le_of_lt (Nat.lt_of_lt_of_le hlt hn))) rfl 5 rfl (by decide) rfl ?_
      refine jk_iconst (x := 2) K dX1_countBurning_20 rfl ?_
      refine jk_icmp_ne (tgt := 27) K dX1_countBurning_21 rfl (fun c_21 => ?_) (fun c_21 => ?_)
      · refine jk_iinc (v := (nI (j + 1))) (lv' := [(2, .int (nI (j + 1))), (1, .int (hb_burn C j)), (0, .ref (b 0))]) K dX1_countBurning_27 0 rfl (nI_1 j) (by decide) rfl ?_
        refine jk_goto (tgt := 4) K dX1_countBurning_30 rfl ?_
        refine jk_lv (lv' := [(2, .int (nI (j + 1))), (1, .int (hb_burn C (j + 1))), (0, .ref (b 0))]) (by first | rfl | (simp [hb_burn_s, c_9, c_21]; done)) ?_
        exact ih hlt
      · refine jk_iinc (v := ((hb_burn C j) + 1)) (lv' := [(1, .int ((hb_burn C j) + 1)), (2, .int (nI j)), (0, .ref (b 0))]) K dX1_countBurning_24 1 rfl rfl (by decide) rfl ?_
        refine jk_iinc (v := (nI (j + 1))) (lv' := [(2, .int (nI (j + 1))), (1, .int ((hb_burn C j) + 1)), (0, .ref (b 0))]) K dX1_countBurning_27 1 rfl (nI_1 j) (by decide) rfl ?_
        refine jk_goto (tgt := 4) K dX1_countBurning_30 rfl ?_
        refine jk_lv (lv' := [(2, .int (nI (j + 1))), (1, .int (hb_burn C (j + 1))), (0, .ref (b 0))]) (by first | rfl | (simp [hb_burn_s, c_9, c_21]; done)) ?_
        exact ih hlt
  refine jk_iconst (x := 0) K dX1_countBurning_0 rfl ?_
  refine jk_istore_n (lv' := [(1, .int 0), (0, .ref (b 0))]) K dX1_countBurning_1 rfl (by decide) rfl ?_
  refine jk_iconst (x := 0) K dX1_countBurning_2 rfl ?_
  refine jk_istore_n (lv' := [(2, .int 0), (1, .int 0), (0, .ref (b 0))]) K dX1_countBurning_3 rfl (by decide) rfl ?_
  refine jk_lv (lv' := [(2, .int (nI 0)), (1, .int (hb_burn C 0)), (0, .ref (b 0))]) (by first | rfl | (simp [hb_burn_s]; done)) ?_
  exact hL 0 (Nat.zero_le _)
set_option maxHeartbeats 4000000 in
set_option maxRecDepth 100000 in
theorem hb_X1_stepsFrom (l : Launch) (hl : l.stackTraces = false) (E : jk_T) (X Y : va_W) (b : Nat → Nat) (C : Nat → Nat → Int32) (G M : Nat → Int32) (a c : Nat) (ha : a < 10) (hc : c < 10) (n : Nat) (hn : n ≤ 10) (hg : G 0 = nI n) : jk_fn l yX1_stepsFrom wsX1_stepsFrom ({ frames := 4, cells := 0, slots := 0, locals := 91 } : Room) [.ref (b 0), .int (nI a), .int (nI c)] E (hb_L E X Y b C G M) (some (.int (hb_steps G M n a c))) (hb_L E X Y b C G M) := by
  refine jk_of (lv := [(0, .ref (b 0)), (1, .int (nI a)), (2, .int (nI c))]) (own := RX1) (nm := "stepsFrom") hl (by decide +kernel) rfl (Nat.le_of_ble_eq_true rfl) rfl rfl rfl (fun Γ hΓ K hnm hz => ?_)
  subst hΓ
  have hL : ∀ j, j ≤ 10 → hb_steps G M n a c = hb_first (fun j => hb_isin (hb_rs G M n a j) (nI c)) (10 - j) j → jk_J Γ E (hb_L E X Y b C G M) 0 0 7 [(4, .int (nI j)), (3, .int (hb_rs G M n a j)), (0, .ref (b 0)), (1, .int (nI a)), (2, .int (nI c))] [] := by
    refine jk_loop (fun j hj ih => ?_)
    intro hR
    refine jk_iload K dX1_stepsFrom_7 0 rfl ?_
    refine jk_bipush (x := 10) K dX1_stepsFrom_9 rfl ?_
    refine jk_icmp_ge (tgt := 39) K dX1_stepsFrom_11 rfl (fun c_11 => ?_) (fun c_11 => ?_)
    · have hjn : j = 10 := hb_ex (n := 10) rfl (by omega) hj c_11
      have hv : (some (Value.int (hb_steps G M n a c))) = some (.int (-1)) := by rw [hR, hjn]; rfl
      refine jk_iconst (x := (-1)) K dX1_stepsFrom_39 rfl ?_
      exact jk_iret K hz dX1_stepsFrom_40 () hv trivial rfl rfl (Nat.le_of_ble_eq_true rfl) (Nat.le_of_ble_eq_true rfl)
    · have hlt : j < 10 := hb_in (n := 10) rfl (by omega) hj c_11
      have hs : hb_first (fun j => hb_isin (hb_rs G M n a j) (nI c)) (10 - j) j = if hb_isin (hb_rs G M n a j) (nI c) = 0 then hb_first (fun j => hb_isin (hb_rs G M n a j) (nI c)) (10 - (j + 1)) (j + 1) else nI j := by rw [show 10 - j = (10 - (j + 1)) + 1 by omega]; rfl
      refine jk_iload_n K dX1_stepsFrom_14 rfl 1 rfl ?_
      refine jk_iload_n K dX1_stepsFrom_15 rfl 4 rfl ?_
      refine jk_cSi K (n' := 0) (k' := 0) [.int (hb_rs G M n a j), .int (nI c)] [] dX1_stepsFrom_16 (hb_X1_isIn _ hl E (hb_L E X Y b C G M) (hb_rs G M n a j) (nI c)) gX1_stepsFrom_X1_isIn rfl kd_X1_isIn ⟨Nat.le_of_ble_eq_true rfl, Nat.le_of_ble_eq_true rfl⟩ (Nat.le_of_ble_eq_true rfl) ⟨rfl, rfl⟩ ⟨Nat.le_of_ble_eq_true rfl, Nat.le_of_ble_eq_true rfl⟩ rfl (fun _ _ => ?_)
      refine jk_if_eq (tgt := 25) K dX1_stepsFrom_19 rfl (fun c_19 => ?_) (fun c_19 => ?_)
      · have hR2 : hb_steps G M n a c = hb_first (fun j => hb_isin (hb_rs G M n a j) (nI c)) (10 - (j + 1)) (j + 1) := by rw [hR, hs, if_pos c_19]
        refine jk_iload_n K dX1_stepsFrom_25 rfl 1 rfl ?_
        refine jk_aload_n K dX1_stepsFrom_26 rfl 2 rfl ?_
        refine jk_iload_n K dX1_stepsFrom_27 rfl 1 rfl ?_
        refine jk_cVi K (n' := 0) (k' := 0) [.int (hb_rs G M n a j)] [.int (hb_rs G M n a j)] dX1_stepsFrom_28 (hb_X1_seenFromAny _ hl E X Y b C G M (hb_rs G M n a j) n hn hg) gX1_stepsFrom_X1_seenFromAny rfl kd_X1_seenFromAny ⟨Nat.le_of_ble_eq_true rfl, Nat.le_of_ble_eq_true rfl⟩ (X.length + 0) hb_L0 rfl (Nat.le_of_ble_eq_true rfl) ⟨rfl, rfl⟩ ⟨Nat.le_of_ble_eq_true rfl, Nat.le_of_ble_eq_true rfl⟩ rfl (fun _ _ => ?_)
        refine jk_ior K dX1_stepsFrom_31 ?_
        refine jk_istore_n (lv' := [(3, .int ((hb_rs G M n a j) ||| (hb_sa G M n (hb_rs G M n a j) n))), (4, .int (nI j)), (0, .ref (b 0)), (1, .int (nI a)), (2, .int (nI c))]) K dX1_stepsFrom_32 rfl (by decide) rfl ?_
        refine jk_iinc (v := (nI (j + 1))) (lv' := [(4, .int (nI (j + 1))), (3, .int ((hb_rs G M n a j) ||| (hb_sa G M n (hb_rs G M n a j) n))), (0, .ref (b 0)), (1, .int (nI a)), (2, .int (nI c))]) K dX1_stepsFrom_33 1 rfl (nI_1 j) (by decide) rfl ?_
        refine jk_goto (tgt := 7) K dX1_stepsFrom_36 rfl ?_
        refine jk_lv (lv' := [(4, .int (nI (j + 1))), (3, .int (hb_rs G M n a (j + 1))), (0, .ref (b 0)), (1, .int (nI a)), (2, .int (nI c))]) (by first | rfl | (simp [hb_rs_s, c_11, c_19]; done)) ?_
        exact ih hlt hR2
      · have hv : (some (Value.int (hb_steps G M n a c))) = some (.int (nI j)) := by rw [hR, hs, if_neg c_19]
        refine jk_iload K dX1_stepsFrom_22 0 rfl ?_
        exact jk_iret K hz dX1_stepsFrom_24 () hv trivial rfl rfl (Nat.le_of_ble_eq_true rfl) (Nat.le_of_ble_eq_true rfl)
  refine jk_iconst (x := 1) K dX1_stepsFrom_0 rfl ?_
  refine jk_iload_n K dX1_stepsFrom_1 rfl 1 rfl ?_
  refine jk_ishl K dX1_stepsFrom_2 ?_
  refine jk_istore_n (lv' := [(3, .int (1 <<< ((nI a) &&& 31))), (0, .ref (b 0)), (1, .int (nI a)), (2, .int (nI c))]) K dX1_stepsFrom_3 rfl (by decide) rfl ?_
  refine jk_iconst (x := 0) K dX1_stepsFrom_4 rfl ?_
  refine jk_istore (lv' := [(4, .int 0), (3, .int (1 <<< ((nI a) &&& 31))), (0, .ref (b 0)), (1, .int (nI a)), (2, .int (nI c))]) K dX1_stepsFrom_5 (by decide) rfl ?_
  refine jk_lv (lv' := [(4, .int (nI 0)), (3, .int (hb_rs G M n a 0)), (0, .ref (b 0)), (1, .int (nI a)), (2, .int (nI c))]) (by first | rfl | (simp [hb_rs_s]; done)) ?_
  exact hL 0 (by omega) rfl
