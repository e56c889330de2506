theorem kd_X0_copyFrom : yX0_copyFrom.cls = RX0 ∧ yX0_copyFrom.cls ≠ "java/lang/invoke/MethodHandle" ∧ yX0_copyFrom.cls ≠ "java/lang/invoke/VarHandle" ∧ (parseMethodDescriptor yX0_copyFrom.desc).map (fun d => d.parameters.length) = some 1 := by decide +kernel
theorem kd_X1_putMiles : yX1_putMiles.cls = RX1 ∧ yX1_putMiles.cls ≠ "java/lang/invoke/MethodHandle" ∧ yX1_putMiles.cls ≠ "java/lang/invoke/VarHandle" ∧ (parseMethodDescriptor yX1_putMiles.desc).map (fun d => d.parameters.length) = some 3 := by decide +kernel
set_option maxHeartbeats 4000000 in
set_option maxRecDepth 100000 in
theorem hb_X1_copyFrom (l : Launch) (hl : l.stackTraces = false) (E : jk_T) (q : Nat) (b1 b2 : Nat → Nat) (Y : va_W) (C : Nat → Nat → Int32) (G M : Nat → Int32) (C2 : Nat → Nat → Int32) (G2 M2 : Nat → Int32) : jk_fn l yX1_copyFrom wsX1_copyFrom ({ frames := 1, cells := 0, slots := 0, locals := 24 } : Room) [.ref (b2 0), .ref (b1 0)] E (hb_v2 E q b1 b2 Y C G M C2 G2 M2) (none) (hb_v2 E q b1 b2 Y C G M (hb_cpC C2 C 10) (hb_cpG G2 G) (hb_cpM M2 M 10)) := by
  refine jk_of (lv := [(0, .ref (b2 0)), (1, .ref (b1 0))]) (own := RX1) (nm := "copyFrom") hl (by decide +kernel) rfl (Nat.le_of_ble_eq_true rfl) rfl rfl rfl (fun Γ hΓ K hnm hz => ?_)
  subst hΓ
  have hin_RX1 : ∀ w ∈ u_ws RX1 TX1 9, w ∈ wsX1_copyFrom := by decide +kernel
  have hL : ∀ j, j ≤ 10 → jk_J Γ E (hb_L E (hb_ob q b1 b2 :: hb_LW E b1 C G M) Y b2 (hb_cpC C2 C j) G2 (hb_cpM M2 M j)) 0 0 2 [(2, .int (nI j)), (0, .ref (b2 0)), (1, .ref (b1 0))] [] := by
    refine jk_loop (fun j hj ih => ?_)
    refine jk_iload_n K dX1_copyFrom_2 rfl 0 rfl ?_
    refine jk_bipush (x := (nI 10)) K dX1_copyFrom_3 rfl ?_
    refine jk_icmp_ge (tgt := 53) K dX1_copyFrom_5 rfl (fun c_5 => ?_) (fun c_5 => ?_)
    · have hjhlt10 : j = 10 := hb_ex (n := 10) rfl (by decide) hj c_5
      refine jk_aload_n K dX1_copyFrom_53 rfl 1 rfl ?_
      refine jk_aload_n K dX1_copyFrom_54 rfl 2 rfl ?_
      refine jk_ws (ws' := (hb_L E [hb_ob q b1 b2] (hb_LW E b2 (hb_cpC C2 C j) G2 (hb_cpM M2 M j) ++ Y) b1 C G M)) rfl ?_
      refine jk_get (C := RX1) (T := TX1) (N := 9) (nm := "count") (ds := "I") (v := .int (G 0)) K dX1_copyFrom_55 hin_RX1 (by decide +kernel) ([hb_ob q b1 b2].length + 0) hb_L0 rfl 3 rfl (by decide) rfl ?_
      refine jk_ws (ws' := (hb_L E (hb_ob q b1 b2 :: hb_LW E b1 C G M) Y b2 (hb_cpC C2 C j) G2 (hb_cpM M2 M j))) rfl ?_
      refine jk_put (C := RX1) (T := TX1) (N := 9) (nm := "count") (ds := "I") (w' := (hb_L E (hb_ob q b1 b2 :: hb_LW E b1 C G M) Y b2 (hb_cpC C2 C j) (hb_fu G2 0 (G 0)) (hb_cpM M2 M j))) K dX1_copyFrom_58 hin_RX1 tyX1 tyX1_ok nmX1 (by decide +kernel) ((hb_ob q b1 b2 :: hb_LW E b1 C G M).length + 0) hb_L0 rfl 3 rfl (by decide) rfl rfl rfl rfl (Nat.le_of_ble_eq_true rfl) (hb_S0 rfl) ?_
      refine jk_aload_n K dX1_copyFrom_61 rfl 1 rfl ?_
      refine jk_aload_n K dX1_copyFrom_62 rfl 2 rfl ?_
      refine jk_ws (ws' := (hb_L E [hb_ob q b1 b2] (hb_LW E b2 (hb_cpC C2 C j) (hb_fu G2 0 (G 0)) (hb_cpM M2 M j) ++ Y) b1 C G M)) rfl ?_
      refine jk_get (C := RX1) (T := TX1) (N := 9) (nm := "haze") (ds := "I") (v := .int (G 1)) K dX1_copyFrom_63 hin_RX1 (by decide +kernel) ([hb_ob q b1 b2].length + 0) hb_L0 rfl 4 rfl (by decide) rfl ?_
      refine jk_ws (ws' := (hb_L E (hb_ob q b1 b2 :: hb_LW E b1 C G M) Y b2 (hb_cpC C2 C j) (hb_fu G2 0 (G 0)) (hb_cpM M2 M j))) rfl ?_
      refine jk_put (C := RX1) (T := TX1) (N := 9) (nm := "haze") (ds := "I") (w' := (hb_L E (hb_ob q b1 b2 :: hb_LW E b1 C G M) Y b2 (hb_cpC C2 C j) (hb_fu (hb_fu G2 0 (G 0)) 1 (G 1)) (hb_cpM M2 M j))) K dX1_copyFrom_66 hin_RX1 tyX1 tyX1_ok nmX1 (by decide +kernel) ((hb_ob q b1 b2 :: hb_LW E b1 C G M).length + 0) hb_L0 rfl 4 rfl (by decide) rfl rfl rfl rfl (Nat.le_of_ble_eq_true rfl) (hb_S0 rfl) ?_
      refine jk_aload_n K dX1_copyFrom_69 rfl 1 rfl ?_
      refine jk_aload_n K dX1_copyFrom_70 rfl 2 rfl ?_
      refine jk_ws (ws' := (hb_L E [hb_ob q b1 b2] (hb_LW E b2 (hb_cpC C2 C j) (hb_fu (hb_fu G2 0 (G 0)) 1 (G 1)) (hb_cpM M2 M j) ++ Y) b1 C G M)) rfl ?_
      refine jk_get (C := RX1) (T := TX1) (N := 9) (nm := "glow") (ds := "I") (v := .int (G 2)) K dX1_copyFrom_71 hin_RX1 (by decide +kernel) ([hb_ob q b1 b2].length + 0) hb_L0 rfl 5 rfl (by decide) rfl ?_
      refine jk_ws (ws' := (hb_L E (hb_ob q b1 b2 :: hb_LW E b1 C G M) Y b2 (hb_cpC C2 C j) (hb_fu (hb_fu G2 0 (G 0)) 1 (G 1)) (hb_cpM M2 M j))) rfl ?_
      refine jk_put (C := RX1) (T := TX1) (N := 9) (nm := "glow") (ds := "I") (w' := (hb_L E (hb_ob q b1 b2 :: hb_LW E b1 C G M) Y b2 (hb_cpC C2 C j) (hb_fu (hb_fu (hb_fu G2 0 (G 0)) 1 (G 1)) 2 (G 2)) (hb_cpM M2 M j))) K dX1_copyFrom_74 hin_RX1 tyX1 tyX1_ok nmX1 (by decide +kernel) ((hb_ob q b1 b2 :: hb_LW E b1 C G M).length + 0) hb_L0 rfl 5 rfl (by decide) rfl rfl rfl rfl (Nat.le_of_ble_eq_true rfl) (hb_S0 rfl) ?_
      refine jk_aload_n K dX1_copyFrom_77 rfl 1 rfl ?_
      refine jk_aload_n K dX1_copyFrom_78 rfl 2 rfl ?_
      refine jk_ws (ws' := (hb_L E [hb_ob q b1 b2] (hb_LW E b2 (hb_cpC C2 C j) (hb_fu (hb_fu (hb_fu G2 0 (G 0)) 1 (G 1)) 2 (G 2)) (hb_cpM M2 M j) ++ Y) b1 C G M)) rfl ?_
      refine jk_get (C := RX1) (T := TX1) (N := 9) (nm := "minute") (ds := "I") (v := .int (G 3)) K dX1_copyFrom_79 hin_RX1 (by decide +kernel) ([hb_ob q b1 b2].length + 0) hb_L0 rfl 6 rfl (by decide) rfl ?_
      refine jk_ws (ws' := (hb_L E (hb_ob q b1 b2 :: hb_LW E b1 C G M) Y b2 (hb_cpC C2 C j) (hb_fu (hb_fu (hb_fu G2 0 (G 0)) 1 (G 1)) 2 (G 2)) (hb_cpM M2 M j))) rfl ?_
      refine jk_put (C := RX1) (T := TX1) (N := 9) (nm := "minute") (ds := "I") (w' := (hb_L E (hb_ob q b1 b2 :: hb_LW E b1 C G M) Y b2 (hb_cpC C2 C j) (hb_fu (hb_fu (hb_fu (hb_fu G2 0 (G 0)) 1 (G 1)) 2 (G 2)) 3 (G 3)) (hb_cpM M2 M j))) K dX1_copyFrom_82 hin_RX1 tyX1 tyX1_ok nmX1 (by decide +kernel) ((hb_ob q b1 b2 :: hb_LW E b1 C G M).length + 0) hb_L0 rfl 6 rfl (by decide) rfl rfl rfl rfl (Nat.le_of_ble_eq_true rfl) (hb_S0 rfl) ?_
      refine jk_aload_n K dX1_copyFrom_85 rfl 1 rfl ?_
      refine jk_aload_n K dX1_copyFrom_86 rfl 2 rfl ?_
      refine jk_ws (ws' := (hb_L E [hb_ob q b1 b2] (hb_LW E b2 (hb_cpC C2 C j) (hb_fu (hb_fu (hb_fu (hb_fu G2 0 (G 0)) 1 (G 1)) 2 (G 2)) 3 (G 3)) (hb_cpM M2 M j) ++ Y) b1 C G M)) rfl ?_
      refine jk_get (C := RX1) (T := TX1) (N := 9) (nm := "lit") (ds := "I") (v := .int (G 4)) K dX1_copyFrom_87 hin_RX1 (by decide +kernel) ([hb_ob q b1 b2].length + 0) hb_L0 rfl 7 rfl (by decide) rfl ?_
      refine jk_ws (ws' := (hb_L E (hb_ob q b1 b2 :: hb_LW E b1 C G M) Y b2 (hb_cpC C2 C j) (hb_fu (hb_fu (hb_fu (hb_fu G2 0 (G 0)) 1 (G 1)) 2 (G 2)) 3 (G 3)) (hb_cpM M2 M j))) rfl ?_
      refine jk_put (C := RX1) (T := TX1) (N := 9) (nm := "lit") (ds := "I") (w' := (hb_L E (hb_ob q b1 b2 :: hb_LW E b1 C G M) Y b2 (hb_cpC C2 C j) (hb_fu (hb_fu (hb_fu (hb_fu (hb_fu G2 0 (G 0)) 1 (G 1)) 2 (G 2)) 3 (G 3)) 4 (G 4)) (hb_cpM M2 M j))) K dX1_copyFrom_90 hin_RX1 tyX1 tyX1_ok nmX1 (by decide +kernel) ((hb_ob q b1 b2 :: hb_LW E b1 C G M).length + 0) hb_L0 rfl 7 rfl (by decide) rfl rfl rfl rfl (Nat.le_of_ble_eq_true rfl) (hb_S0 rfl) ?_
      refine jk_aload_n K dX1_copyFrom_93 rfl 1 rfl ?_
      refine jk_aload_n K dX1_copyFrom_94 rfl 2 rfl ?_
      refine jk_ws (ws' := (hb_L E [hb_ob q b1 b2] (hb_LW E b2 (hb_cpC C2 C j) (hb_fu (hb_fu (hb_fu (hb_fu (hb_fu G2 0 (G 0)) 1 (G 1)) 2 (G 2)) 3 (G 3)) 4 (G 4)) (hb_cpM M2 M j) ++ Y) b1 C G M)) rfl ?_
      refine jk_get (C := RX1) (T := TX1) (N := 9) (nm := "mistaken") (ds := "I") (v := .int (G 5)) K dX1_copyFrom_95 hin_RX1 (by decide +kernel) ([hb_ob q b1 b2].length + 0) hb_L0 rfl 8 rfl (by decide) rfl ?_
      refine jk_ws (ws' := (hb_L E (hb_ob q b1 b2 :: hb_LW E b1 C G M) Y b2 (hb_cpC C2 C j) (hb_fu (hb_fu (hb_fu (hb_fu (hb_fu G2 0 (G 0)) 1 (G 1)) 2 (G 2)) 3 (G 3)) 4 (G 4)) (hb_cpM M2 M j))) rfl ?_
      refine jk_put (C := RX1) (T := TX1) (N := 9) (nm := "mistaken") (ds := "I") (w' := (hb_L E (hb_ob q b1 b2 :: hb_LW E b1 C G M) Y b2 (hb_cpC C2 C j) (hb_fu (hb_fu (hb_fu (hb_fu (hb_fu (hb_fu G2 0 (G 0)) 1 (G 1)) 2 (G 2)) 3 (G 3)) 4 (G 4)) 5 (G 5)) (hb_cpM M2 M j))) K dX1_copyFrom_98 hin_RX1 tyX1 tyX1_ok nmX1 (by decide +kernel) ((hb_ob q b1 b2 :: hb_LW E b1 C G M).length + 0) hb_L0 rfl 8 rfl (by decide) rfl rfl rfl rfl (Nat.le_of_ble_eq_true rfl) (hb_S0 rfl) ?_
      exact jk_vret K hz dX1_copyFrom_101 () rfl trivial (by rw [hjhlt10]; rfl) (Nat.le_of_ble_eq_true rfl) (Nat.le_of_ble_eq_true rfl)
    · have hlt10 : j < 10 := hb_in (n := 10) rfl (by decide) hj c_5
      refine jk_aload_n K dX1_copyFrom_8 rfl 1 rfl ?_
      refine jk_iload_n K dX1_copyFrom_9 rfl 0 rfl ?_
      refine jk_cVr K (n' := 0) (k' := 0) [.int (nI j)] [] dX1_copyFrom_10 (hb_X1_hillAt_i _ hl E (hb_ob q b1 b2 :: hb_LW E b1 C G M) Y b2 (hb_cpC C2 C j) G2 (hb_cpM M2 M j) j hlt10) gX1_copyFrom_X1_hillAt rfl kd_X1_hillAt ⟨Nat.le_of_ble_eq_true rfl, Nat.le_of_ble_eq_true rfl⟩ ((hb_ob q b1 b2 :: hb_LW E b1 C G M).length + 0) hb_L0 rfl (Nat.le_of_ble_eq_true rfl) ⟨rfl, rfl⟩ ⟨Nat.le_of_ble_eq_true rfl, Nat.le_of_ble_eq_true rfl⟩ rfl (fun _ _ => ?_)
      refine jk_aload_n K dX1_copyFrom_13 rfl 2 rfl ?_
      refine jk_iload_n K dX1_copyFrom_14 rfl 0 rfl ?_
      refine jk_ws (ws' := (hb_L E [hb_ob q b1 b2] (hb_LW E b2 (hb_cpC C2 C j) G2 (hb_cpM M2 M j) ++ Y) b1 C G M)) rfl ?_
      refine jk_cVr K (n' := 0) (k' := 0) [.int (nI j)] [.ref (b2 (3 + j))] dX1_copyFrom_15 (hb_X1_hillAt_i _ hl E [hb_ob q b1 b2] (hb_LW E b2 (hb_cpC C2 C j) G2 (hb_cpM M2 M j) ++ Y) b1 C G M j hlt10) gX1_copyFrom_X1_hillAt rfl kd_X1_hillAt ⟨Nat.le_of_ble_eq_true rfl, Nat.le_of_ble_eq_true rfl⟩ ([hb_ob q b1 b2].length + 0) hb_L0 rfl (Nat.le_of_ble_eq_true rfl) ⟨rfl, rfl⟩ ⟨Nat.le_of_ble_eq_true rfl, Nat.le_of_ble_eq_true rfl⟩ rfl (fun _ _ => ?_)
      refine jk_ws (ws' := (hb_L E (hb_ob q b1 b2 :: hb_LW E b1 C G M) Y b2 (hb_cpC C2 C j) G2 (hb_cpM M2 M j))) rfl ?_
      refine jk_cVv K (n' := 0) (k' := 0) [.ref (b1 (3 + j))] [] dX1_copyFrom_18 (hb_X0_copyFrom _ hl E (hb_L E (hb_ob q b1 b2 :: hb_LW E b1 C G M) Y b2 (hb_cpC C2 C j) G2 (hb_cpM M2 M j)) ((hb_ob q b1 b2 :: hb_LW E b1 C G M).length + (3 + j)) (b2 (3 + j)) ((hb_cpC C2 C j) j) (hb_Lh (Nat.le_of_lt hlt10)) ([hb_ob q b1 b2].length + (3 + j)) (b1 (3 + j)) (C j) (hb_Lh (X := [hb_ob q b1 b2]) (Nat.le_of_lt hlt10)) (by simp [hb_LW])) gX1_copyFrom_X0_copyFrom rfl kd_X0_copyFrom ⟨Nat.le_of_ble_eq_true rfl, Nat.le_of_ble_eq_true rfl⟩ ((hb_ob q b1 b2 :: hb_LW E b1 C G M).length + (3 + j)) (hb_Lh (Nat.le_of_lt hlt10)) rfl (Nat.le_of_ble_eq_true rfl) ⟨rfl, rfl⟩ ⟨Nat.le_of_ble_eq_true rfl, Nat.le_of_ble_eq_true rfl⟩ rfl (fun _ _ => ?_)
      refine jk_ws (ws' := (hb_L E (hb_ob q b1 b2 :: hb_LW E b1 C G M) Y b2 (va_up (hb_cpC C2 C j) j (hb_copyF ((hb_cpC C2 C j) j) (C j))) G2 (hb_cpM M2 M j))) (hb_Sh (Nat.le_of_lt hlt10) rfl) ?_
      refine jk_iconst (x := 0) K dX1_copyFrom_21 rfl ?_
      refine jk_istore_n (lv' := [(3, .int 0), (2, .int (nI j)), (0, .ref (b2 0)), (1, .ref (b1 0))]) K dX1_copyFrom_22 rfl (by decide) rfl ?_
      have hI : ∀ k, k ≤ 10 → jk_J Γ E (hb_L E (hb_ob q b1 b2 :: hb_LW E b1 C G M) Y b2 (hb_cpC C2 C (j + 1)) G2 (hb_cpR (hb_cpM M2 M j) M j k)) 0 0 23 [(3, .int (nI k)), (2, .int (nI j)), (0, .ref (b2 0)), (1, .ref (b1 0))] [] := by
        refine jk_loop (fun k hk ihk => ?_)
        refine jk_iload_n K dX1_copyFrom_23 rfl 0 rfl ?_
        refine jk_bipush (x := (nI 10)) K dX1_copyFrom_24 rfl ?_
        refine jk_icmp_ge (tgt := 47) K dX1_copyFrom_26 rfl (fun c_26 => ?_) (fun c_26 => ?_)
        · have hjhlk : k = 10 := hb_ex (n := 10) rfl (by decide) hk c_26
          refine jk_iinc (v := (nI (j + 1))) (lv' := [(2, .int (nI (j + 1))), (3, .int (nI k)), (0, .ref (b2 0)), (1, .ref (b1 0))]) K dX1_copyFrom_47 1 rfl (nI_1 j) (by decide) rfl ?_
          refine jk_goto (tgt := 2) K dX1_copyFrom_50 rfl ?_
          refine jk_sub (lv' := [(2, .int (nI (j + 1))), (0, .ref (b2 0)), (1, .ref (b1 0))]) [0, 2, 3] rfl ?_
          refine jk_ws (ws' := (hb_L E (hb_ob q b1 b2 :: hb_LW E b1 C G M) Y b2 (hb_cpC C2 C (j + 1)) G2 (hb_cpM M2 M (j + 1)))) (by rw [hjhlk]; rfl) ?_
          exact ih hlt10
        · have hlk : k < 10 := hb_in (n := 10) rfl (by decide) hk c_26
          refine jk_aload_n K dX1_copyFrom_29 rfl 2 rfl ?_
          refine jk_iload_n K dX1_copyFrom_30 rfl 1 rfl ?_
          refine jk_iload_n K dX1_copyFrom_31 rfl 0 rfl ?_
          refine jk_aload_n K dX1_copyFrom_32 rfl 3 rfl ?_
          refine jk_iload_n K dX1_copyFrom_33 rfl 1 rfl ?_
          refine jk_iload_n K dX1_copyFrom_34 rfl 0 rfl ?_
          refine jk_ws (ws' := (hb_L E [hb_ob q b1 b2] (hb_LW E b2 (hb_cpC C2 C (j + 1)) G2 (hb_cpR (hb_cpM M2 M j) M j k) ++ Y) b1 C G M)) rfl ?_
          refine jk_cVi K (n' := 0) (k' := 0) [.int (nI j), .int (nI k)] [.int (nI k), .int (nI j), .ref (b2 0)] dX1_copyFrom_35 (hb_X1_milesFrom _ hl E [hb_ob q b1 b2] (hb_LW E b2 (hb_cpC C2 C (j + 1)) G2 (hb_cpR (hb_cpM M2 M j) M j k) ++ Y) b1 C G M j k hlt10 hlk) gX1_copyFrom_X1_milesFrom rfl kd_X1_milesFrom ⟨Nat.le_of_ble_eq_true rfl, Nat.le_of_ble_eq_true rfl⟩ ([hb_ob q b1 b2].length + 0) hb_L0 rfl (Nat.le_of_ble_eq_true rfl) ⟨rfl, rfl⟩ ⟨Nat.le_of_ble_eq_true rfl, Nat.le_of_ble_eq_true rfl⟩ rfl (fun _ _ => ?_)
          refine jk_ws (ws' := (hb_L E (hb_ob q b1 b2 :: hb_LW E b1 C G M) Y b2 (hb_cpC C2 C (j + 1)) G2 (hb_cpR (hb_cpM M2 M j) M j k))) rfl ?_
          refine jk_cVv K (n' := 0) (k' := 0) [.int (nI j), .int (nI k), .int (M (j * 10 + k))] [] dX1_copyFrom_38 (hb_X1_putMiles _ hl E (hb_ob q b1 b2 :: hb_LW E b1 C G M) Y b2 (hb_cpC C2 C (j + 1)) G2 (hb_cpR (hb_cpM M2 M j) M j k) j k hlt10 hlk (M (j * 10 + k))) gX1_copyFrom_X1_putMiles rfl kd_X1_putMiles ⟨Nat.le_of_ble_eq_true rfl, Nat.le_of_ble_eq_true rfl⟩ ((hb_ob q b1 b2 :: hb_LW E b1 C G M).length + 0) hb_L0 rfl (Nat.le_of_ble_eq_true rfl) ⟨rfl, rfl⟩ ⟨Nat.le_of_ble_eq_true rfl, Nat.le_of_ble_eq_true rfl⟩ rfl (fun _ _ => ?_)
          refine jk_iinc (v := (nI (k + 1))) (lv' := [(3, .int (nI (k + 1))), (2, .int (nI j)), (0, .ref (b2 0)), (1, .ref (b1 0))]) K dX1_copyFrom_41 0 rfl (nI_1 k) (by decide) rfl ?_
          refine jk_goto (tgt := 23) K dX1_copyFrom_44 rfl ?_
          refine jk_ws (ws' := (hb_L E (hb_ob q b1 b2 :: hb_LW E b1 C G M) Y b2 (hb_cpC C2 C (j + 1)) G2 (hb_cpR (hb_cpM M2 M j) M j (k + 1)))) (by first | rfl | (simp [hb_cpR_s, c_26]; done)) ?_
          exact ihk hlk
      refine jk_lv (lv' := [(3, .int (nI 0)), (2, .int (nI j)), (0, .ref (b2 0)), (1, .ref (b1 0))]) (by first | rfl | (simp [hb_cpC_s, c_5]; done)) ?_
      refine jk_ws (ws' := (hb_L E (hb_ob q b1 b2 :: hb_LW E b1 C G M) Y b2 (hb_cpC C2 C (j + 1)) G2 (hb_cpR (hb_cpM M2 M j) M j 0))) (by first | rfl | (simp [hb_cpC_s, c_5]; done)) ?_
      exact hI 0 (Nat.zero_le _)
  refine jk_iconst (x := 0) K dX1_copyFrom_0 rfl ?_
  refine jk_istore_n (lv' := [(2, .int 0), (0, .ref (b2 0)), (1, .ref (b1 0))]) K dX1_copyFrom_1 rfl (by decide) rfl ?_
  refine jk_lv (lv' := [(2, .int (nI 0)), (0, .ref (b2 0)), (1, .ref (b1 0))]) (by first | rfl | (simp []; done)) ?_
  refine jk_ws (ws' := (hb_L E (hb_ob q b1 b2 :: hb_LW E b1 C G M) Y b2 (hb_cpC C2 C 0) G2 (hb_cpM M2 M 0))) (by first | rfl | (simp []; done)) ?_
  exact hL 0 (Nat.zero_le _)
