theorem kd_L_below : yL_below.cls ≠ "java/lang/invoke/MethodHandle" ∧ yL_below.cls ≠ "java/lang/invoke/VarHandle" ∧ (parseMethodDescriptor yL_below.desc).map (fun d => d.parameters.length) = some 2 := by decide +kernel
theorem kd_X2_addHill : yX2_addHill.cls = RX2 ∧ yX2_addHill.cls ≠ "java/lang/invoke/MethodHandle" ∧ yX2_addHill.cls ≠ "java/lang/invoke/VarHandle" ∧ (parseMethodDescriptor yX2_addHill.desc).map (fun d => d.parameters.length) = some 3 := by decide +kernel
theorem kd_X2_bringWood : yX2_bringWood.cls = RX2 ∧ yX2_bringWood.cls ≠ "java/lang/invoke/MethodHandle" ∧ yX2_bringWood.cls ≠ "java/lang/invoke/VarHandle" ∧ (parseMethodDescriptor yX2_bringWood.desc).map (fun d => d.parameters.length) = some 2 := by decide +kernel
theorem kd_X2_douse : yX2_douse.cls = RX2 ∧ yX2_douse.cls ≠ "java/lang/invoke/MethodHandle" ∧ yX2_douse.cls ≠ "java/lang/invoke/VarHandle" ∧ (parseMethodDescriptor yX2_douse.desc).map (fun d => d.parameters.length) = some 1 := by decide +kernel
theorem kd_X2_glow : yX2_glow.cls = RX2 ∧ yX2_glow.cls ≠ "java/lang/invoke/MethodHandle" ∧ yX2_glow.cls ≠ "java/lang/invoke/VarHandle" ∧ (parseMethodDescriptor yX2_glow.desc).map (fun d => d.parameters.length) = some 1 := by decide +kernel
theorem kd_X2_light : yX2_light.cls = RX2 ∧ yX2_light.cls ≠ "java/lang/invoke/MethodHandle" ∧ yX2_light.cls ≠ "java/lang/invoke/VarHandle" ∧ (parseMethodDescriptor yX2_light.desc).map (fun d => d.parameters.length) = some 1 := by decide +kernel
theorem kd_X2_passMinutes : yX2_passMinutes.cls = RX2 ∧ yX2_passMinutes.cls ≠ "java/lang/invoke/MethodHandle" ∧ yX2_passMinutes.cls ≠ "java/lang/invoke/VarHandle" ∧ (parseMethodDescriptor yX2_passMinutes.desc).map (fun d => d.parameters.length) = some 1 := by decide +kernel
theorem kd_X2_setDamp : yX2_setDamp.cls = RX2 ∧ yX2_setDamp.cls ≠ "java/lang/invoke/MethodHandle" ∧ yX2_setDamp.cls ≠ "java/lang/invoke/VarHandle" ∧ (parseMethodDescriptor yX2_setDamp.desc).map (fun d => d.parameters.length) = some 2 := by decide +kernel
theorem kd_X2_setHaze : yX2_setHaze.cls = RX2 ∧ yX2_setHaze.cls ≠ "java/lang/invoke/MethodHandle" ∧ yX2_setHaze.cls ≠ "java/lang/invoke/VarHandle" ∧ (parseMethodDescriptor yX2_setHaze.desc).map (fun d => d.parameters.length) = some 1 := by decide +kernel
theorem kd_X2_setSight : yX2_setSight.cls = RX2 ∧ yX2_setSight.cls ≠ "java/lang/invoke/MethodHandle" ∧ yX2_setSight.cls ≠ "java/lang/invoke/VarHandle" ∧ (parseMethodDescriptor yX2_setSight.desc).map (fun d => d.parameters.length) = some 3 := by decide +kernel
theorem kd_X2_turnEast : yX2_turnEast.cls = RX2 ∧ yX2_turnEast.cls ≠ "java/lang/invoke/MethodHandle" ∧ yX2_turnEast.cls ≠ "java/lang/invoke/VarHandle" ∧ (parseMethodDescriptor yX2_turnEast.desc).map (fun d => d.parameters.length) = some 1 := by decide +kernel
theorem kd_X2_turnPost : yX2_turnPost.cls = RX2 ∧ yX2_turnPost.cls ≠ "java/lang/invoke/MethodHandle" ∧ yX2_turnPost.cls ≠ "java/lang/invoke/VarHandle" ∧ (parseMethodDescriptor yX2_turnPost.desc).map (fun d => d.parameters.length) = some 1 := by decide +kernel
theorem kd_X4_pass : yX4_pass.cls = RX4 ∧ yX4_pass.cls ≠ "java/lang/invoke/MethodHandle" ∧ yX4_pass.cls ≠ "java/lang/invoke/VarHandle" ∧ (parseMethodDescriptor yX4_pass.desc).map (fun d => d.parameters.length) = some 0 := by decide +kernel
abbrev lw_LS : Type := (Nat → Nat) × Nat × (Nat → Nat → Int32) × (Nat → Int32) × (Nat → Int32)
/-- the law's world of such a state -/
abbrev lw_W (E : jk_T) (q : Nat) (b1 b2 : Nat → Nat) (Y : va_W) (C2 : Nat → Nat → Int32) (G2 M2 : Nat → Int32) (u : lw_LS) : va_W := hb_v1 E q b1 b2 (sm_SW E u.1 u.2.1 (sm_G u.2.2.2.1) (sm_N u.2.2.1) (sm_M u.2.2.2.2) ++ Y) u.2.2.1 u.2.2.2.1 u.2.2.2.2 C2 G2 M2
theorem sm_pn_at {E : jk_T} {X Y : va_W} {p : Nat → Nat} {n ha hh : Nat} {S : Nat → Int32} {N mi : Nat → Nat → Int32} {f : Nat → Int32} : (sm_S E X Y (sm_pn p n ha hh) (n + 1) S (va_up N n f) mi)[X.length + (13 + n)]? = some (hh, .inr (3, sm_hill f)) := by
  have h := sm_hu (E := E) (X := X) (Y := Y) (p := sm_pn p n ha hh) (n := n + 1) (S := S) (N := N) (mi := mi) (f := f) (Nat.lt_succ_self n)
  rw [show sm_pn p n ha hh (13 + n) = hh by unfold sm_pn; rw [if_neg (by omega), if_pos rfl]] at h
  exact h
theorem sm_pn_0 {p : Nat → Nat} {n ha hh : Nat} : sm_pn p n ha hh 0 = p 0 := by
  unfold sm_pn
  rw [if_neg (by omega), if_neg (by omega)]
theorem sm_oth {n a k : Nat} (ha : a < n) (hk : k < n - 1) : (a + 1 + k) % n < n ∧ (a + 1 + k) % n ≠ a := by
  refine ⟨Nat.mod_lt _ (by omega), ?_⟩
  by_cases h : a + 1 + k < n
  · rw [Nat.mod_eq_of_lt h]; omega
  · rw [Nat.mod_eq_sub_mod (by omega), Nat.mod_eq_of_lt (by omega)]
    omega
set_option maxHeartbeats 4000000 in
set_option maxRecDepth 100000 in
theorem hb_L_act (l : Launch) (hl : l.stackTraces = false) (E : jk_T) (q : Nat) (b1 b2 : Nat → Nat) (Y : va_W) (p : Nat → Nat) (n B : Nat) (C : Nat → Nat → Int32) (G M : Nat → Int32) (C2 : Nat → Nat → Int32) (G2 M2 : Nat → Int32) (hiv : iv n B C G M) (x : Int32) : jk_Ct l yL_act wsL_act ({ frames := 10, cells := 81, slots := 806, locals := 176 } : Room) [.ref q, .ref (p 0), .int x] E (lw_W E q b1 b2 Y C2 G2 M2 (p, n, C, G, M)) (fun _ : lw_LS => some (.int 1)) (lw_W E q b1 b2 Y C2 G2 M2) (fun u => u.1 0 = p 0 ∧ iv u.2.1 (B + 400) u.2.2.1 u.2.2.2.1 u.2.2.2.2 ∧ n ≤ u.2.1 ∧ (n < 2 → n < u.2.1)) := by
  refine jk_of (lv := [(0, .ref q), (1, .ref (p 0)), (2, .int x)]) (own := RL) (nm := "act") hl (by decide +kernel) rfl (Nat.le_of_ble_eq_true rfl) rfl rfl rfl (fun Γ hΓ K hnm hz => ?_)
  subst hΓ
  have hin_RX3 : ∀ w ∈ u_ws RX3 TX3 11, w ∈ wsL_act := by decide +kernel
  have hin_RX4 : ∀ w ∈ u_ws RX4 TX4 7, w ∈ wsL_act := by decide +kernel
  have hn := hiv.1
  have hg := hiv.2.2.2.1.1
  have hAdd : ∀ k4 : Nat, jk_J Γ E (sm_S E (hb_cw E q b1 b2 C G M C2 G2 M2) Y p n (sm_G G) (sm_N C) (sm_M M)) 0 0 28 [(4, .int (nI k4)), (3, .int (nI n)), (0, .ref q), (1, .ref (p 0)), (2, .int x)] [] := by
    intro k4
    refine jk_iload_n K dL_act_28 rfl 1 rfl ?_
    refine jk_bipush (x := (nI 10)) K dL_act_29 rfl ?_
    refine jk_icmp_ne (tgt := 36) K dL_act_31 rfl (fun c_31 => ?_) (fun c_31 => ?_)
    · have hn10 : n < 10 := by rcases Nat.lt_or_ge n 10 with z | z; exact z; exact absurd (by rw [show n = 10 by omega]) c_31
      refine jk_iload_n K dL_act_36 rfl 1 rfl ?_
      refine jk_iconst (x := 1) K dL_act_37 rfl ?_
      refine jk_iadd K dL_act_38 ?_
      refine jk_st (st' := [.int (nI (n + 1))]) (by rw [nI_1]) ?_
      refine jk_newL (z := n + 1) K dL_act_39 (by decide +kernel) ⟨nI_pos (by omega), nI_clamp (by omega)⟩ (by omega) (Nat.le_of_ble_eq_true rfl) (by show _ ≤ 806; omega) (fun a5 => ?_)
      refine jk_wide (n' := 1) (k' := n + 1) (by omega) (by omega) ?_
      refine jk_ws (ws' := (sm_S E (hb_cw E q b1 b2 C G M C2 G2 M2) (Y ++ [(a5, .inl (E.2 3, (n + 1), .inr (.inr (.inr (.inr (fun _ => none))))))]) p n (sm_G G) (sm_N C) (sm_M M))) sm_ext ?_
      refine jk_astore (lv' := [(5, .ref a5), (4, .int (nI k4)), (3, .int (nI n)), (0, .ref q), (1, .ref (p 0)), (2, .int x)]) K dL_act_42 (by decide) rfl ?_
      refine jk_iconst (x := 0) K dL_act_44 rfl ?_
      refine jk_istore (lv' := [(6, .int 0), (5, .ref a5), (4, .int (nI k4)), (3, .int (nI n)), (0, .ref q), (1, .ref (p 0)), (2, .int x)]) K dL_act_45 (by decide) rfl ?_
      have hF : ∀ j, j ≤ n → jk_J Γ E (sm_S E (hb_cw E q b1 b2 C G M C2 G2 M2) (Y ++ [(a5, .inl (E.2 3, (n + 1), .inr (.inr (.inr (.inr (hb_pf (fun i => p (13 + i)) j))))))]) p n (sm_G G) (sm_N C) (sm_M M)) 1 (n + 1) 47 [(6, .int (nI j)), (5, .ref a5), (4, .int (nI k4)), (3, .int (nI n)), (0, .ref q), (1, .ref (p 0)), (2, .int x)] [] := by
        refine jk_loop (fun j hj ih => ?_)
        refine jk_iload K dL_act_47 0 rfl ?_
        refine jk_iload_n K dL_act_49 rfl 3 rfl ?_
        refine jk_icmp_ge (tgt := 71) K dL_act_50 rfl (fun c_50 => ?_) (fun c_50 => ?_)
        · have hjn : j = n := hb_ex (n := n) rfl (by omega) hj c_50
          refine jk_ws (ws' := (sm_S E (hb_cw E q b1 b2 C G M C2 G2 M2) (Y ++ [(a5, .inl (E.2 3, (n + 1), .inr (.inr (.inr (.inr (hb_pf (fun i => p (13 + i)) n))))))]) p n (sm_G G) (sm_N C) (sm_M M))) (by rw [hjn]) ?_
          refine jk_new (C := RX3) (T := TX3) (N := 11) (ci := 3) (fs := sm_hill (fun _ => 0)) K dL_act_71 hin_RX3 tyX3 tyX3_ok (by decide +kernel) (by decide +kernel) (by decide +kernel) rfl df3 (Nat.le_of_ble_eq_true rfl) (by show _ ≤ 806; omega) (fun a6 => ?_)
          refine jk_ws (ws' := (sm_S E (hb_cw E q b1 b2 C G M C2 G2 M2) (Y ++ [(a5, .inl (E.2 3, (n + 1), .inr (.inr (.inr (.inr (hb_pf (fun i => p (13 + i)) n)))))), (a6, .inr (3, sm_hill (fun _ => 0)))]) p n (sm_G G) (sm_N C) (sm_M M))) (sm_ext.trans (by rw [List.append_assoc]; rfl)) ?_
          refine jk_dup K dL_act_74 rfl ?_
          refine jk_cIN K (n' := 2) (k' := (n + 1 + 11)) [] [.ref a6] dL_act_75 (hb_X3_init _ hl E (sm_S E (hb_cw E q b1 b2 C G M C2 G2 M2) (Y ++ [(a5, .inl (E.2 3, (n + 1), .inr (.inr (.inr (.inr (hb_pf (fun i => p (13 + i)) n)))))), (a6, .inr (3, sm_hill (fun _ => 0)))]) p n (sm_G G) (sm_N C) (sm_M M)) ((hb_cw E q b1 b2 C G M C2 G2 M2).length + (13 + n + (Y.length + 1))) a6 (fun _ => 0) (sm_yat rfl)) gL_act_X3_init_n23 rfl K.2.2.2.2.2.2.2.2.2.1.2.2.2.2.2.2.2.2.2.1 ⟨by decide +kernel, by decide +kernel⟩ rfl (by decide +kernel) ⟨Nat.le_of_ble_eq_true rfl, Nat.le_of_ble_eq_true rfl⟩ (Nat.le_of_ble_eq_true rfl) ⟨rfl, rfl⟩ ⟨(Nat.le_of_ble_eq_true rfl), by show _ ≤ 806; omega⟩ rfl (fun _ _ => ?_)
          refine jk_ws (ws' := (sm_S E (hb_cw E q b1 b2 C G M C2 G2 M2) (Y ++ [(a5, .inl (E.2 3, (n + 1), .inr (.inr (.inr (.inr (hb_pf (fun i => p (13 + i)) n)))))), (a6, .inr (3, sm_hill (hb_fu (fun _ => 0) 9 (-1))))]) p n (sm_G G) (sm_N C) (sm_M M))) (sm_yst rfl) ?_
          refine jk_astore (lv' := [(6, .ref a6), (5, .ref a5), (4, .int (nI k4)), (3, .int (nI n)), (0, .ref q), (1, .ref (p 0)), (2, .int x)]) K dL_act_78 (by decide) rfl ?_
          refine jk_aload K dL_act_80 0 rfl ?_
          refine jk_iload_n K dL_act_82 rfl 3 rfl ?_
          refine jk_put (C := RX3) (T := TX3) (N := 11) (nm := "number") (ds := "I") (w' := (sm_S E (hb_cw E q b1 b2 C G M C2 G2 M2) (Y ++ [(a5, .inl (E.2 3, (n + 1), .inr (.inr (.inr (.inr (hb_pf (fun i => p (13 + i)) n)))))), (a6, .inr (3, sm_hill (hb_fu (hb_fu (fun _ => 0) 9 (-1)) 0 (nI n))))]) p n (sm_G G) (sm_N C) (sm_M M))) K dL_act_83 hin_RX3 tyX3 tyX3_ok nmX3 (by decide +kernel) ((hb_cw E q b1 b2 C G M C2 G2 M2).length + (13 + n + (Y.length + 1))) (sm_yat rfl) rfl 0 rfl (by decide) rfl rfl rfl rfl (Nat.le_of_ble_eq_true rfl) (sm_yst (Z' := [(a5, .inl (E.2 3, (n + 1), .inr (.inr (.inr (.inr (hb_pf (fun i => p (13 + i)) n)))))), (a6, .inr (3, sm_hill (hb_fu (hb_fu (fun _ => 0) 9 (-1)) 0 (nI n))))]) rfl) ?_
          refine jk_aload K dL_act_86 0 rfl ?_
          refine jk_iload_n K dL_act_88 rfl 6 rfl ?_
          refine jk_iconst (x := 1) K dL_act_89 rfl ?_
          refine jk_ishr K dL_act_90 ?_
          refine jk_bipush (x := (nI 31)) K dL_act_91 rfl ?_
          refine jk_cSi K (n' := 2) (k' := (n + 1 + 11)) [.int (x >>> (1 &&& 31)), .int (nI 31)] [.ref a6] dL_act_93 (hb_L_below _ hl E (sm_S E (hb_cw E q b1 b2 C G M C2 G2 M2) (Y ++ [(a5, .inl (E.2 3, (n + 1), .inr (.inr (.inr (.inr (hb_pf (fun i => p (13 + i)) n)))))), (a6, .inr (3, sm_hill (hb_fu (hb_fu (fun _ => 0) 9 (-1)) 0 (nI n))))]) p n (sm_G G) (sm_N C) (sm_M M)) (x >>> (1 &&& 31)) 31 (by omega) (by omega)) gL_act_L_below rfl kd_L_below ⟨Nat.le_of_ble_eq_true rfl, Nat.le_of_ble_eq_true rfl⟩ (Nat.le_of_ble_eq_true rfl) ⟨rfl, rfl⟩ ⟨Nat.le_of_ble_eq_true rfl, (by show _ ≤ 806; omega)⟩ rfl (fun k93 hk93 => ?_)
          refine jk_put (C := RX3) (T := TX3) (N := 11) (nm := "wood") (ds := "I") (w' := (sm_S E (hb_cw E q b1 b2 C G M C2 G2 M2) (Y ++ [(a5, .inl (E.2 3, (n + 1), .inr (.inr (.inr (.inr (hb_pf (fun i => p (13 + i)) n)))))), (a6, .inr (3, sm_hill (hb_fu (hb_fu (hb_fu (fun _ => 0) 9 (-1)) 0 (nI n)) 1 (nI k93))))]) p n (sm_G G) (sm_N C) (sm_M M))) K dL_act_96 hin_RX3 tyX3 tyX3_ok nmX3 (by decide +kernel) ((hb_cw E q b1 b2 C G M C2 G2 M2).length + (13 + n + (Y.length + 1))) (sm_yat rfl) rfl 1 rfl (by decide) rfl rfl rfl rfl (Nat.le_of_ble_eq_true rfl) (sm_yst (Z' := [(a5, .inl (E.2 3, (n + 1), .inr (.inr (.inr (.inr (hb_pf (fun i => p (13 + i)) n)))))), (a6, .inr (3, sm_hill (hb_fu (hb_fu (hb_fu (fun _ => 0) 9 (-1)) 0 (nI n)) 1 (nI k93))))]) rfl) ?_
          refine jk_aload K dL_act_99 0 rfl ?_
          refine jk_iload_n K dL_act_101 rfl 6 rfl ?_
          refine jk_iconst (x := 3) K dL_act_102 rfl ?_
          refine jk_ishr K dL_act_103 ?_
          refine jk_iload_n K dL_act_104 rfl 6 rfl ?_
          refine jk_iconst (x := (nI 2)) K dL_act_105 rfl ?_
          refine jk_cSi K (n' := 2) (k' := (n + 1 + 11)) [.int x, .int (nI 2)] [.int (x >>> (3 &&& 31)), .ref a6] dL_act_106 (hb_L_below _ hl E (sm_S E (hb_cw E q b1 b2 C G M C2 G2 M2) (Y ++ [(a5, .inl (E.2 3, (n + 1), .inr (.inr (.inr (.inr (hb_pf (fun i => p (13 + i)) n)))))), (a6, .inr (3, sm_hill (hb_fu (hb_fu (hb_fu (fun _ => 0) 9 (-1)) 0 (nI n)) 1 (nI k93))))]) p n (sm_G G) (sm_N C) (sm_M M)) x 2 (by omega) (by omega)) gL_act_L_below rfl kd_L_below ⟨Nat.le_of_ble_eq_true rfl, Nat.le_of_ble_eq_true rfl⟩ (Nat.le_of_ble_eq_true rfl) ⟨rfl, rfl⟩ ⟨Nat.le_of_ble_eq_true rfl, (by show _ ≤ 806; omega)⟩ rfl (fun k106 hk106 => ?_)
          refine jk_if_ne (tgt := 117) K dL_act_109 rfl (fun c_109 => ?_) (fun c_109 => ?_)
          · refine jk_iconst (x := (nI 3)) K dL_act_117 rfl ?_
            refine jk_cSi K (n' := 2) (k' := (n + 1 + 11)) [.int (x >>> (3 &&& 31)), .int (nI 3)] [.ref a6] dL_act_118 (hb_L_below _ hl E (sm_S E (hb_cw E q b1 b2 C G M C2 G2 M2) (Y ++ [(a5, .inl (E.2 3, (n + 1), .inr (.inr (.inr (.inr (hb_pf (fun i => p (13 + i)) n)))))), (a6, .inr (3, sm_hill (hb_fu (hb_fu (hb_fu (fun _ => 0) 9 (-1)) 0 (nI n)) 1 (nI k93))))]) p n (sm_G G) (sm_N C) (sm_M M)) (x >>> (3 &&& 31)) 3 (by omega) (by omega)) gL_act_L_below rfl kd_L_below ⟨Nat.le_of_ble_eq_true rfl, Nat.le_of_ble_eq_true rfl⟩ (Nat.le_of_ble_eq_true rfl) ⟨rfl, rfl⟩ ⟨Nat.le_of_ble_eq_true rfl, (by show _ ≤ 806; omega)⟩ rfl (fun k118 hk118 => ?_)
            refine jk_put (C := RX3) (T := TX3) (N := 11) (nm := "damp") (ds := "I") (w' := (sm_S E (hb_cw E q b1 b2 C G M C2 G2 M2) (Y ++ [(a5, .inl (E.2 3, (n + 1), .inr (.inr (.inr (.inr (hb_pf (fun i => p (13 + i)) n)))))), (a6, .inr (3, sm_hill (hb_fu (hb_fu (hb_fu (hb_fu (fun _ => 0) 9 (-1)) 0 (nI n)) 1 (nI k93)) 2 (nI k118))))]) p n (sm_G G) (sm_N C) (sm_M M))) K dL_act_121 hin_RX3 tyX3 tyX3_ok nmX3 (by decide +kernel) ((hb_cw E q b1 b2 C G M C2 G2 M2).length + (13 + n + (Y.length + 1))) (sm_yat rfl) rfl 2 rfl (by decide) rfl rfl rfl rfl (Nat.le_of_ble_eq_true rfl) (sm_yst (Z' := [(a5, .inl (E.2 3, (n + 1), .inr (.inr (.inr (.inr (hb_pf (fun i => p (13 + i)) n)))))), (a6, .inr (3, sm_hill (hb_fu (hb_fu (hb_fu (hb_fu (fun _ => 0) 9 (-1)) 0 (nI n)) 1 (nI k93)) 2 (nI k118))))]) rfl) ?_
            refine jk_aload K dL_act_124 0 rfl ?_
            refine jk_iconst (x := (nI 1)) K dL_act_126 rfl ?_
            refine jk_iload_n K dL_act_127 rfl 6 rfl ?_
            refine jk_iconst (x := 5) K dL_act_128 rfl ?_
            refine jk_ishr K dL_act_129 ?_
            refine jk_iconst (x := (nI 5)) K dL_act_130 rfl ?_
            refine jk_cSi K (n' := 2) (k' := (n + 1 + 11)) [.int (x >>> (5 &&& 31)), .int (nI 5)] [.int (nI 1), .ref a6] dL_act_131 (hb_L_below _ hl E (sm_S E (hb_cw E q b1 b2 C G M C2 G2 M2) (Y ++ [(a5, .inl (E.2 3, (n + 1), .inr (.inr (.inr (.inr (hb_pf (fun i => p (13 + i)) n)))))), (a6, .inr (3, sm_hill (hb_fu (hb_fu (hb_fu (hb_fu (fun _ => 0) 9 (-1)) 0 (nI n)) 1 (nI k93)) 2 (nI k118))))]) p n (sm_G G) (sm_N C) (sm_M M)) (x >>> (5 &&& 31)) 5 (by omega) (by omega)) gL_act_L_below rfl kd_L_below ⟨Nat.le_of_ble_eq_true rfl, Nat.le_of_ble_eq_true rfl⟩ (Nat.le_of_ble_eq_true rfl) ⟨rfl, rfl⟩ ⟨Nat.le_of_ble_eq_true rfl, (by show _ ≤ 806; omega)⟩ rfl (fun k131 hk131 => ?_)
            refine jk_iadd K dL_act_134 ?_
            refine jk_st (st' := [.int (nI (1 + k131)), .ref a6]) (by rw [nI_add]) ?_
            refine jk_put (C := RX3) (T := TX3) (N := 11) (nm := "watch") (ds := "I") (w' := (sm_S E (hb_cw E q b1 b2 C G M C2 G2 M2) (Y ++ [(a5, .inl (E.2 3, (n + 1), .inr (.inr (.inr (.inr (hb_pf (fun i => p (13 + i)) n)))))), (a6, .inr (3, sm_hill (hb_fu (hb_fu (hb_fu (hb_fu (hb_fu (fun _ => 0) 9 (-1)) 0 (nI n)) 1 (nI k93)) 2 (nI k118)) 3 (nI (1 + k131)))))]) p n (sm_G G) (sm_N C) (sm_M M))) K dL_act_135 hin_RX3 tyX3 tyX3_ok nmX3 (by decide +kernel) ((hb_cw E q b1 b2 C G M C2 G2 M2).length + (13 + n + (Y.length + 1))) (sm_yat rfl) rfl 3 rfl (by decide) rfl rfl rfl rfl (Nat.le_of_ble_eq_true rfl) (sm_yst (Z' := [(a5, .inl (E.2 3, (n + 1), .inr (.inr (.inr (.inr (hb_pf (fun i => p (13 + i)) n)))))), (a6, .inr (3, sm_hill (hb_fu (hb_fu (hb_fu (hb_fu (hb_fu (fun _ => 0) 9 (-1)) 0 (nI n)) 1 (nI k93)) 2 (nI k118)) 3 (nI (1 + k131)))))]) rfl) ?_
            refine jk_aload K dL_act_138 1 rfl ?_
            refine jk_iload_n K dL_act_140 rfl 3 rfl ?_
            refine jk_aload K dL_act_141 0 rfl ?_
            refine jk_qastL (w' := (sm_S E (hb_cw E q b1 b2 C G M C2 G2 M2) (Y ++ [(a5, .inl (E.2 3, (n + 1), .inr (.inr (.inr (.inr (va_up (hb_pf (fun i => p (13 + i)) n) n (some a6))))))), (a6, .inr (3, sm_hill (hb_fu (hb_fu (hb_fu (hb_fu (hb_fu (fun _ => 0) 9 (-1)) 0 (nI n)) 1 (nI k93)) 2 (nI k118)) 3 (nI (1 + k131)))))]) p n (sm_G G) (sm_N C) (sm_M M))) K dL_act_143 ((hb_cw E q b1 b2 C G M C2 G2 M2).length + (13 + n + (Y.length + 0))) (sm_yat rfl) ((hb_cw E q b1 b2 C G M C2 G2 M2).length + (13 + n + (Y.length + 1))) (sm_yat rfl) (vp_in_nI (by omega) (by omega)) (by rw [nI_clamp (by omega)]; exact sm_yst rfl) ?_
            refine jk_aload_n K dL_act_144 rfl 5 rfl ?_
            refine jk_aload K dL_act_145 1 rfl ?_
            refine jk_put (C := RX4) (T := TX4) (N := 7) (nm := "hills") (ds := "[LHillBeaconsLaw$Hill;") (w' := ((sm_S E (hb_cw E q b1 b2 C G M C2 G2 M2) (Y ++ [(a5, .inl (E.2 3, (n + 1), .inr (.inr (.inr (.inr (va_up (hb_pf (fun i => p (13 + i)) n) n (some a6))))))), (a6, .inr (3, sm_hill (hb_fu (hb_fu (hb_fu (hb_fu (hb_fu (fun _ => 0) 9 (-1)) 0 (nI n)) 1 (nI k93)) 2 (nI k118)) 3 (nI (1 + k131)))))]) p n (sm_G G) (sm_N C) (sm_M M)).set ((hb_cw E q b1 b2 C G M C2 G2 M2).length + 0) (p 0, .inr (4, sm_ob (sm_G G) a5 (p 2))))) K dL_act_147 hin_RX4 tyX4 tyX4_ok nmX4 (by decide +kernel) ((hb_cw E q b1 b2 C G M C2 G2 M2).length + 0) sm_0 rfl 5 rfl (by decide) rfl rfl rfl rfl (Nat.le_of_ble_eq_true rfl) rfl ?_
            refine sm_lay ?_
            refine jk_aload_n K dL_act_150 rfl 4 rfl ?_
            refine jk_aload K dL_act_151 0 rfl ?_
            refine jk_get (C := RX3) (T := TX3) (N := 11) (nm := "wood") (ds := "I") (v := .int (nI k93)) K dL_act_153 hin_RX3 (by decide +kernel) ((hb_cw E q b1 b2 C G M C2 G2 M2).length + (13 + n)) sm_pn_at rfl 1 rfl (by decide) rfl ?_
            refine jk_aload K dL_act_156 0 rfl ?_
            refine jk_get (C := RX3) (T := TX3) (N := 11) (nm := "damp") (ds := "I") (v := .int (nI k118)) K dL_act_158 hin_RX3 (by decide +kernel) ((hb_cw E q b1 b2 C G M C2 G2 M2).length + (13 + n)) sm_pn_at rfl 2 rfl (by decide) rfl ?_
            refine jk_aload K dL_act_161 0 rfl ?_
            refine jk_get (C := RX3) (T := TX3) (N := 11) (nm := "watch") (ds := "I") (v := .int (nI (1 + k131))) K dL_act_163 hin_RX3 (by decide +kernel) ((hb_cw E q b1 b2 C G M C2 G2 M2).length + (13 + n)) sm_pn_at rfl 3 rfl (by decide) rfl ?_
            refine jk_ws (ws' := (hb_v1 E q b1 b2 (sm_SW E (sm_pn p n a5 a6) (n + 1) (sm_G G) (va_up (sm_N C) n (hb_fu (hb_fu (hb_fu (hb_fu (hb_fu (fun _ => 0) 9 (-1)) 0 (nI n)) 1 (nI k93)) 2 (nI k118)) 3 (nI (1 + k131)))) (sm_M M) ++ Y) C G M C2 G2 M2)) lw_sw.symm ?_
            refine jk_cVi K (n' := 6) (k' := ((n + 1 + 11) + 24)) [.int (nI k93), .int (nI k118), .int (nI (1 + k131))] [] dL_act_166 (lc_addHill _ hl E q b1 b2 (sm_SW E (sm_pn p n a5 a6) (n + 1) (sm_G G) (va_up (sm_N C) n (hb_fu (hb_fu (hb_fu (hb_fu (hb_fu (fun _ => 0) 9 (-1)) 0 (nI n)) 1 (nI k93)) 2 (nI k118)) 3 (nI (1 + k131)))) (sm_M M) ++ Y) C G M C2 G2 M2 n hn hg hn10 (nI k93) (nI k118) (nI (1 + k131)) (lw_bt (lo := 0) (hi := 30) (by omega) (by omega) (by decide)) (lw_bt (lo := 0) (hi := 9) (by omega) (by omega) (by decide)) (lw_bt (lo := 1) (hi := 5) (by omega) (by omega) (by decide))) gL_act_X2_addHill rfl kd_X2_addHill ⟨Nat.le_of_ble_eq_true rfl, Nat.le_of_ble_eq_true rfl⟩ 0 rfl rfl (Nat.le_of_ble_eq_true rfl) ⟨rfl, rfl⟩ ⟨Nat.le_of_ble_eq_true rfl, (by show _ ≤ 806; omega)⟩ rfl (fun _ _ => ?_)
            refine jk_iload_n K dL_act_169 rfl 3 rfl ?_
            refine jk_icmp_ne_F (tgt := 177) K dL_act_170 rfl rfl ?_
            refine jk_iconst (x := 1) K dL_act_173 rfl ?_
            refine jk_goto (tgt := 178) K dL_act_174 rfl ?_
            refine jk_ws (ws' := lw_W E q b1 b2 Y C2 G2 M2 ((sm_pn p n a5 a6), (n + 1), (va_up C n (hb_fu (hb_fu (hb_fu (C n) 0 (nI k93)) 1 (nI k118)) 2 (nI (1 + k131)))), (hb_fu G 0 (nI (n + 1))), M)) (lw_congr (w5 rfl rfl rfl rfl rfl) (fun k _ => sm_N_add hiv hn10 k) (fun _ _ => rfl)) ?_
            exact jk_iret K hz dL_act_178 ((sm_pn p n a5 a6), (n + 1), (va_up C n (hb_fu (hb_fu (hb_fu (C n) 0 (nI k93)) 1 (nI k118)) 2 (nI (1 + k131)))), (hb_fu G 0 (nI (n + 1))), M) rfl ⟨(sm_pn_0 (ha := a5) (hh := a6)), (iv_w (iv_add hiv hn10 (by omega) (by omega) (by omega) (by omega)) (by omega)), ⟨Nat.le_succ n, fun _ => Nat.lt_succ_self n⟩⟩ rfl rfl (Nat.le_of_ble_eq_true rfl) ((by show _ ≤ 806; omega))
          · refine jk_bipush (x := (nI 10)) K dL_act_112 rfl ?_
            refine jk_goto (tgt := 118) K dL_act_114 rfl ?_
            refine jk_cSi K (n' := 2) (k' := (n + 1 + 11)) [.int (x >>> (3 &&& 31)), .int (nI 10)] [.ref a6] dL_act_118 (hb_L_below _ hl E (sm_S E (hb_cw E q b1 b2 C G M C2 G2 M2) (Y ++ [(a5, .inl (E.2 3, (n + 1), .inr (.inr (.inr (.inr (hb_pf (fun i => p (13 + i)) n)))))), (a6, .inr (3, sm_hill (hb_fu (hb_fu (hb_fu (fun _ => 0) 9 (-1)) 0 (nI n)) 1 (nI k93))))]) p n (sm_G G) (sm_N C) (sm_M M)) (x >>> (3 &&& 31)) 10 (by omega) (by omega)) gL_act_L_below rfl kd_L_below ⟨Nat.le_of_ble_eq_true rfl, Nat.le_of_ble_eq_true rfl⟩ (Nat.le_of_ble_eq_true rfl) ⟨rfl, rfl⟩ ⟨Nat.le_of_ble_eq_true rfl, (by show _ ≤ 806; omega)⟩ rfl (fun k118 hk118 => ?_)
            refine jk_put (C := RX3) (T := TX3) (N := 11) (nm := "damp") (ds := "I") (w' := (sm_S E (hb_cw E q b1 b2 C G M C2 G2 M2) (Y ++ [(a5, .inl (E.2 3, (n + 1), .inr (.inr (.inr (.inr (hb_pf (fun i => p (13 + i)) n)))))), (a6, .inr (3, sm_hill (hb_fu (hb_fu (hb_fu (hb_fu (fun _ => 0) 9 (-1)) 0 (nI n)) 1 (nI k93)) 2 (nI k118))))]) p n (sm_G G) (sm_N C) (sm_M M))) K dL_act_121 hin_RX3 tyX3 tyX3_ok nmX3 (by decide +kernel) ((hb_cw E q b1 b2 C G M C2 G2 M2).length + (13 + n + (Y.length + 1))) (sm_yat rfl) rfl 2 rfl (by decide) rfl rfl rfl rfl (Nat.le_of_ble_eq_true rfl) (sm_yst (Z' := [(a5, .inl (E.2 3, (n + 1), .inr (.inr (.inr (.inr (hb_pf (fun i => p (13 + i)) n)))))), (a6, .inr (3, sm_hill (hb_fu (hb_fu (hb_fu (hb_fu (fun _ => 0) 9 (-1)) 0 (nI n)) 1 (nI k93)) 2 (nI k118))))]) rfl) ?_
            refine jk_aload K dL_act_124 0 rfl ?_
            refine jk_iconst (x := (nI 1)) K dL_act_126 rfl ?_
            refine jk_iload_n K dL_act_127 rfl 6 rfl ?_
            refine jk_iconst (x := 5) K dL_act_128 rfl ?_
            refine jk_ishr K dL_act_129 ?_
            refine jk_iconst (x := (nI 5)) K dL_act_130 rfl ?_
            refine jk_cSi K (n' := 2) (k' := (n + 1 + 11)) [.int (x >>> (5 &&& 31)), .int (nI 5)] [.int (nI 1), .ref a6] dL_act_131 (hb_L_below _ hl E (sm_S E (hb_cw E q b1 b2 C G M C2 G2 M2) (Y ++ [(a5, .inl (E.2 3, (n + 1), .inr (.inr (.inr (.inr (hb_pf (fun i => p (13 + i)) n)))))), (a6, .inr (3, sm_hill (hb_fu (hb_fu (hb_fu (hb_fu (fun _ => 0) 9 (-1)) 0 (nI n)) 1 (nI k93)) 2 (nI k118))))]) p n (sm_G G) (sm_N C) (sm_M M)) (x >>> (5 &&& 31)) 5 (by omega) (by omega)) gL_act_L_below rfl kd_L_below ⟨Nat.le_of_ble_eq_true rfl, Nat.le_of_ble_eq_true rfl⟩ (Nat.le_of_ble_eq_true rfl) ⟨rfl, rfl⟩ ⟨Nat.le_of_ble_eq_true rfl, (by show _ ≤ 806; omega)⟩ rfl (fun k131 hk131 => ?_)
            refine jk_iadd K dL_act_134 ?_
            refine jk_st (st' := [.int (nI (1 + k131)), .ref a6]) (by rw [nI_add]) ?_
            refine jk_put (C := RX3) (T := TX3) (N := 11) (nm := "watch") (ds := "I") (w' := (sm_S E (hb_cw E q b1 b2 C G M C2 G2 M2) (Y ++ [(a5, .inl (E.2 3, (n + 1), .inr (.inr (.inr (.inr (hb_pf (fun i => p (13 + i)) n)))))), (a6, .inr (3, sm_hill (hb_fu (hb_fu (hb_fu (hb_fu (hb_fu (fun _ => 0) 9 (-1)) 0 (nI n)) 1 (nI k93)) 2 (nI k118)) 3 (nI (1 + k131)))))]) p n (sm_G G) (sm_N C) (sm_M M))) K dL_act_135 hin_RX3 tyX3 tyX3_ok nmX3 (by decide +kernel) ((hb_cw E q b1 b2 C G M C2 G2 M2).length + (13 + n + (Y.length + 1))) (sm_yat rfl) rfl 3 rfl (by decide) rfl rfl rfl rfl (Nat.le_of_ble_eq_true rfl) (sm_yst (Z' := [(a5, .inl (E.2 3, (n + 1), .inr (.inr (.inr (.inr (hb_pf (fun i => p (13 + i)) n)))))), (a6, .inr (3, sm_hill (hb_fu (hb_fu (hb_fu (hb_fu (hb_fu (fun _ => 0) 9 (-1)) 0 (nI n)) 1 (nI k93)) 2 (nI k118)) 3 (nI (1 + k131)))))]) rfl) ?_
            refine jk_aload K dL_act_138 1 rfl ?_
            refine jk_iload_n K dL_act_140 rfl 3 rfl ?_
            refine jk_aload K dL_act_141 0 rfl ?_
            refine jk_qastL (w' := (sm_S E (hb_cw E q b1 b2 C G M C2 G2 M2) (Y ++ [(a5, .inl (E.2 3, (n + 1), .inr (.inr (.inr (.inr (va_up (hb_pf (fun i => p (13 + i)) n) n (some a6))))))), (a6, .inr (3, sm_hill (hb_fu (hb_fu (hb_fu (hb_fu (hb_fu (fun _ => 0) 9 (-1)) 0 (nI n)) 1 (nI k93)) 2 (nI k118)) 3 (nI (1 + k131)))))]) p n (sm_G G) (sm_N C) (sm_M M))) K dL_act_143 ((hb_cw E q b1 b2 C G M C2 G2 M2).length + (13 + n + (Y.length + 0))) (sm_yat rfl) ((hb_cw E q b1 b2 C G M C2 G2 M2).length + (13 + n + (Y.length + 1))) (sm_yat rfl) (vp_in_nI (by omega) (by omega)) (by rw [nI_clamp (by omega)]; exact sm_yst rfl) ?_
            refine jk_aload_n K dL_act_144 rfl 5 rfl ?_
            refine jk_aload K dL_act_145 1 rfl ?_
            refine jk_put (C := RX4) (T := TX4) (N := 7) (nm := "hills") (ds := "[LHillBeaconsLaw$Hill;") (w' := ((sm_S E (hb_cw E q b1 b2 C G M C2 G2 M2) (Y ++ [(a5, .inl (E.2 3, (n + 1), .inr (.inr (.inr (.inr (va_up (hb_pf (fun i => p (13 + i)) n) n (some a6))))))), (a6, .inr (3, sm_hill (hb_fu (hb_fu (hb_fu (hb_fu (hb_fu (fun _ => 0) 9 (-1)) 0 (nI n)) 1 (nI k93)) 2 (nI k118)) 3 (nI (1 + k131)))))]) p n (sm_G G) (sm_N C) (sm_M M)).set ((hb_cw E q b1 b2 C G M C2 G2 M2).length + 0) (p 0, .inr (4, sm_ob (sm_G G) a5 (p 2))))) K dL_act_147 hin_RX4 tyX4 tyX4_ok nmX4 (by decide +kernel) ((hb_cw E q b1 b2 C G M C2 G2 M2).length + 0) sm_0 rfl 5 rfl (by decide) rfl rfl rfl rfl (Nat.le_of_ble_eq_true rfl) rfl ?_
            refine sm_lay ?_
            refine jk_aload_n K dL_act_150 rfl 4 rfl ?_
            refine jk_aload K dL_act_151 0 rfl ?_
            refine jk_get (C := RX3) (T := TX3) (N := 11) (nm := "wood") (ds := "I") (v := .int (nI k93)) K dL_act_153 hin_RX3 (by decide +kernel) ((hb_cw E q b1 b2 C G M C2 G2 M2).length + (13 + n)) sm_pn_at rfl 1 rfl (by decide) rfl ?_
            refine jk_aload K dL_act_156 0 rfl ?_
            refine jk_get (C := RX3) (T := TX3) (N := 11) (nm := "damp") (ds := "I") (v := .int (nI k118)) K dL_act_158 hin_RX3 (by decide +kernel) ((hb_cw E q b1 b2 C G M C2 G2 M2).length + (13 + n)) sm_pn_at rfl 2 rfl (by decide) rfl ?_
            refine jk_aload K dL_act_161 0 rfl ?_
            refine jk_get (C := RX3) (T := TX3) (N := 11) (nm := "watch") (ds := "I") (v := .int (nI (1 + k131))) K dL_act_163 hin_RX3 (by decide +kernel) ((hb_cw E q b1 b2 C G M C2 G2 M2).length + (13 + n)) sm_pn_at rfl 3 rfl (by decide) rfl ?_
            refine jk_ws (ws' := (hb_v1 E q b1 b2 (sm_SW E (sm_pn p n a5 a6) (n + 1) (sm_G G) (va_up (sm_N C) n (hb_fu (hb_fu (hb_fu (hb_fu (hb_fu (fun _ => 0) 9 (-1)) 0 (nI n)) 1 (nI k93)) 2 (nI k118)) 3 (nI (1 + k131)))) (sm_M M) ++ Y) C G M C2 G2 M2)) lw_sw.symm ?_
            refine jk_cVi K (n' := 6) (k' := ((n + 1 + 11) + 24)) [.int (nI k93), .int (nI k118), .int (nI (1 + k131))] [] dL_act_166 (lc_addHill _ hl E q b1 b2 (sm_SW E (sm_pn p n a5 a6) (n + 1) (sm_G G) (va_up (sm_N C) n (hb_fu (hb_fu (hb_fu (hb_fu (hb_fu (fun _ => 0) 9 (-1)) 0 (nI n)) 1 (nI k93)) 2 (nI k118)) 3 (nI (1 + k131)))) (sm_M M) ++ Y) C G M C2 G2 M2 n hn hg hn10 (nI k93) (nI k118) (nI (1 + k131)) (lw_bt (lo := 0) (hi := 30) (by omega) (by omega) (by decide)) (lw_bt (lo := 0) (hi := 9) (by omega) (by omega) (by decide)) (lw_bt (lo := 1) (hi := 5) (by omega) (by omega) (by decide))) gL_act_X2_addHill rfl kd_X2_addHill ⟨Nat.le_of_ble_eq_true rfl, Nat.le_of_ble_eq_true rfl⟩ 0 rfl rfl (Nat.le_of_ble_eq_true rfl) ⟨rfl, rfl⟩ ⟨Nat.le_of_ble_eq_true rfl, (by show _ ≤ 806; omega)⟩ rfl (fun _ _ => ?_)
            refine jk_iload_n K dL_act_169 rfl 3 rfl ?_
            refine jk_icmp_ne_F (tgt := 177) K dL_act_170 rfl rfl ?_
            refine jk_iconst (x := 1) K dL_act_173 rfl ?_
            refine jk_goto (tgt := 178) K dL_act_174 rfl ?_
            refine jk_ws (ws' := lw_W E q b1 b2 Y C2 G2 M2 ((sm_pn p n a5 a6), (n + 1), (va_up C n (hb_fu (hb_fu (hb_fu (C n) 0 (nI k93)) 1 (nI k118)) 2 (nI (1 + k131)))), (hb_fu G 0 (nI (n + 1))), M)) (lw_congr (w5 rfl rfl rfl rfl rfl) (fun k _ => sm_N_add hiv hn10 k) (fun _ _ => rfl)) ?_
            exact jk_iret K hz dL_act_178 ((sm_pn p n a5 a6), (n + 1), (va_up C n (hb_fu (hb_fu (hb_fu (C n) 0 (nI k93)) 1 (nI k118)) 2 (nI (1 + k131)))), (hb_fu G 0 (nI (n + 1))), M) rfl ⟨(sm_pn_0 (ha := a5) (hh := a6)), (iv_w (iv_add hiv hn10 (by omega) (by omega) (by omega) (by omega)) (by omega)), ⟨Nat.le_succ n, fun _ => Nat.lt_succ_self n⟩⟩ rfl rfl (Nat.le_of_ble_eq_true rfl) ((by show _ ≤ 806; omega))
        · have hlt : j < n := hb_in (n := n) rfl (by omega) hj c_50
          refine jk_aload K dL_act_53 1 rfl ?_
          refine jk_iload K dL_act_55 0 rfl ?_
          refine jk_aload_n K dL_act_57 rfl 5 rfl ?_
          refine jk_get (C := RX4) (T := TX4) (N := 7) (nm := "hills") (ds := "[LHillBeaconsLaw$Hill;") (v := .ref (p 1)) K dL_act_58 hin_RX4 (by decide +kernel) ((hb_cw E q b1 b2 C G M C2 G2 M2).length + 0) sm_0 rfl 5 rfl (by decide) rfl ?_
          refine jk_iload K dL_act_61 0 rfl ?_
          refine jk_laldL (v := (p (13 + j))) K dL_act_63 ((hb_cw E q b1 b2 C G M C2 G2 M2).length + 1) sm_1 (vp_in_nI hlt (by omega)) (by rw [nI_clamp (by omega)]) ?_
          refine jk_qastL (w' := (sm_S E (hb_cw E q b1 b2 C G M C2 G2 M2) (Y ++ [(a5, .inl (E.2 3, (n + 1), .inr (.inr (.inr (.inr (hb_pf (fun i => p (13 + i)) (j + 1)))))))]) p n (sm_G G) (sm_N C) (sm_M M))) K dL_act_64 ((hb_cw E q b1 b2 C G M C2 G2 M2).length + (13 + n + (Y.length + 0))) (sm_yat rfl) ((hb_cw E q b1 b2 C G M C2 G2 M2).length + (13 + j)) (sm_h hlt) (vp_in_nI (by omega) (by omega)) (by rw [nI_clamp (by omega), show va_up (hb_pf (fun i => p (13 + i)) j) j (some (p (13 + j))) = hb_pf (fun i => p (13 + i)) (j + 1) from sm_pf_s (fun i => p (13 + i)) j]; exact sm_yst rfl) ?_
          refine jk_iinc (v := (nI (j + 1))) (lv' := [(6, .int (nI (j + 1))), (5, .ref a5), (4, .int (nI k4)), (3, .int (nI n)), (0, .ref q), (1, .ref (p 0)), (2, .int x)]) K dL_act_65 0 rfl (nI_1 j) (by decide) rfl ?_
          refine jk_goto (tgt := 47) K dL_act_68 rfl ?_
          exact ih hlt
      refine jk_lv (lv' := [(6, .int (nI 0)), (5, .ref a5), (4, .int (nI k4)), (3, .int (nI n)), (0, .ref q), (1, .ref (p 0)), (2, .int x)]) (by first | rfl | (simp [c_31]; done)) ?_
      refine jk_ws (ws' := (sm_S E (hb_cw E q b1 b2 C G M C2 G2 M2) (Y ++ [(a5, .inl (E.2 3, (n + 1), .inr (.inr (.inr (.inr (hb_pf (fun i => p (13 + i)) 0))))))]) p n (sm_G G) (sm_N C) (sm_M M))) rfl ?_
      exact hF 0 (Nat.zero_le _)
    · have e10 : n = 10 := by have z := congrArg Int32.toNatClampNeg c_31; rwa [nI_clamp (by omega), nI_clamp (by omega)] at z
      refine jk_iconst (x := 1) K dL_act_34 rfl ?_
      refine jk_ws (ws' := (hb_v1 E q b1 b2 (sm_SW E p n (sm_G G) (sm_N C) (sm_M M) ++ Y) C G M C2 G2 M2)) lw_sw.symm ?_
      refine jk_ws (ws' := lw_W E q b1 b2 Y C2 G2 M2 (p, n, C, G, M)) (lw_congr (w5 rfl rfl rfl rfl rfl) (fun _ _ => rfl) (fun _ _ => rfl)) ?_
      exact jk_iret K hz dL_act_35 (p, n, C, G, M) rfl ⟨rfl, (iv_w hiv (by omega)), ⟨Nat.le_refl n, fun q => absurd q (by omega)⟩⟩ rfl rfl (Nat.le_of_ble_eq_true rfl) (Nat.le_of_ble_eq_true rfl)
  refine jk_aload_n K dL_act_0 rfl 1 rfl ?_
  refine jk_ws (ws' := (sm_S E (hb_cw E q b1 b2 C G M C2 G2 M2) Y p n (sm_G G) (sm_N C) (sm_M M))) lw_sw ?_
  refine jk_get (C := RX4) (T := TX4) (N := 7) (nm := "hills") (ds := "[LHillBeaconsLaw$Hill;") (v := .ref (p 1)) K dL_act_1 hin_RX4 (by decide +kernel) ((hb_cw E q b1 b2 C G M C2 G2 M2).length + 0) sm_0 rfl 5 rfl (by decide) rfl ?_
  refine jk_alen (v := (nI n)) K dL_act_4 ((hb_cw E q b1 b2 C G M C2 G2 M2).length + 1) 3 sm_1 rfl rfl ?_
  refine jk_istore_n (lv' := [(3, .int (nI n)), (0, .ref q), (1, .ref (p 0)), (2, .int x)]) K dL_act_5 rfl (by decide) rfl ?_
  refine jk_iload_n K dL_act_6 rfl 3 rfl ?_
  refine jk_bipush (x := 9) K dL_act_7 rfl ?_
  refine jk_ishr K dL_act_9 ?_
  refine jk_bipush (x := (nI 24)) K dL_act_10 rfl ?_
  refine jk_cSi K (n' := 0) (k' := 0) [.int (x >>> (9 &&& 31)), .int (nI 24)] [] dL_act_12 (hb_L_below _ hl E (sm_S E (hb_cw E q b1 b2 C G M C2 G2 M2) Y p n (sm_G G) (sm_N C) (sm_M M)) (x >>> (9 &&& 31)) 24 (by omega) (by omega)) gL_act_L_below rfl kd_L_below ⟨Nat.le_of_ble_eq_true rfl, Nat.le_of_ble_eq_true rfl⟩ (Nat.le_of_ble_eq_true rfl) ⟨rfl, rfl⟩ ⟨Nat.le_of_ble_eq_true rfl, Nat.le_of_ble_eq_true rfl⟩ rfl (fun k12 hk12 => ?_)
  refine jk_istore (lv' := [(4, .int (nI k12)), (3, .int (nI n)), (0, .ref q), (1, .ref (p 0)), (2, .int x)]) K dL_act_15 (by decide) rfl ?_
  refine jk_iload_n K dL_act_17 rfl 1 rfl ?_
  refine jk_iconst (x := (nI 2)) K dL_act_18 rfl ?_
  refine jk_icmp_lt (tgt := 28) K dL_act_19 rfl (fun c_19 => ?_) (fun c_19 => ?_)
  · exact hAdd k12
  · have hn2 : 2 ≤ n := by rcases Nat.lt_or_ge n 2 with z | z; exact absurd (nI_lt (a := n) (b := 2) z (by omega)) c_19; exact z
    refine jk_iload K dL_act_22 0 rfl ?_
    refine jk_iconst (x := (nI 3)) K dL_act_24 rfl ?_
    refine jk_icmp_ge (tgt := 179) K dL_act_25 rfl (fun c_25 => ?_) (fun c_25 => ?_)
    · have hk3 : 3 ≤ k12 := (nI_leI (a := 3) (b := k12) (by omega) (by omega)).mp c_25
      refine jk_iload_n K dL_act_179 rfl 4 rfl ?_
      refine jk_iconst (x := 1) K dL_act_180 rfl ?_
      refine jk_ishr K dL_act_181 ?_
      refine jk_iload_n K dL_act_182 rfl 1 rfl ?_
      refine jk_cSi K (n' := 0) (k' := 0) [.int (x >>> (1 &&& 31)), .int (nI n)] [] dL_act_183 (hb_L_below _ hl E (sm_S E (hb_cw E q b1 b2 C G M C2 G2 M2) Y p n (sm_G G) (sm_N C) (sm_M M)) (x >>> (1 &&& 31)) n (by omega) (by omega)) gL_act_L_below rfl kd_L_below ⟨Nat.le_of_ble_eq_true rfl, Nat.le_of_ble_eq_true rfl⟩ (Nat.le_of_ble_eq_true rfl) ⟨rfl, rfl⟩ ⟨Nat.le_of_ble_eq_true rfl, Nat.le_of_ble_eq_true rfl⟩ rfl (fun a ha => ?_)
      refine jk_istore (lv' := [(5, .int (nI a)), (4, .int (nI k12)), (3, .int (nI n)), (0, .ref q), (1, .ref (p 0)), (2, .int x)]) K dL_act_186 (by decide) rfl ?_
      refine jk_iload K dL_act_188 0 rfl ?_
      refine jk_iconst (x := (nI 1)) K dL_act_190 rfl ?_
      refine jk_iadd K dL_act_191 ?_
      refine jk_iload_n K dL_act_192 rfl 5 rfl ?_
      refine jk_iconst (x := 4) K dL_act_193 rfl ?_
      refine jk_ishr K dL_act_194 ?_
      refine jk_iload_n K dL_act_195 rfl 2 rfl ?_
      refine jk_iconst (x := 1) K dL_act_196 rfl ?_
      refine jk_isub K dL_act_197 ?_
      refine jk_st (st' := [.int (nI (n - 1)), .int (x >>> (4 &&& 31)), .int ((nI a) + (nI 1))]) (by rw [nI_sub1 (by omega)]) ?_
      refine jk_cSi K (n' := 0) (k' := 0) [.int (x >>> (4 &&& 31)), .int (nI (n - 1))] [.int ((nI a) + (nI 1))] dL_act_198 (hb_L_below _ hl E (sm_S E (hb_cw E q b1 b2 C G M C2 G2 M2) Y p n (sm_G G) (sm_N C) (sm_M M)) (x >>> (4 &&& 31)) (n - 1) (by omega) (by omega)) gL_act_L_below rfl kd_L_below ⟨Nat.le_of_ble_eq_true rfl, Nat.le_of_ble_eq_true rfl⟩ (Nat.le_of_ble_eq_true rfl) ⟨rfl, rfl⟩ ⟨Nat.le_of_ble_eq_true rfl, Nat.le_of_ble_eq_true rfl⟩ rfl (fun k198 hk198 => ?_)
      refine jk_iadd K dL_act_201 ?_
      refine jk_st (st' := [.int (nI (a + 1 + k198))]) (by rw [nI_add, nI_add]) ?_
      refine jk_iload_n K dL_act_202 rfl 2 rfl ?_
      refine jk_irem K dL_act_203 (nI_ne0 (by omega) (by omega)) ?_
      refine jk_st (st' := [.int (nI ((a + 1 + k198) % n))]) (by rw [pk_rem (by omega) (by omega) (by omega)]) ?_
      obtain ⟨hc, hne⟩ := sm_oth ha hk198
      generalize (a + 1 + k198) % n = c at hc hne ⊢
      refine jk_istore (lv' := [(6, .int (nI c)), (5, .int (nI a)), (4, .int (nI k12)), (3, .int (nI n)), (0, .ref q), (1, .ref (p 0)), (2, .int x)]) K dL_act_204 (by decide) rfl ?_
      refine jk_aload_n K dL_act_206 rfl 5 rfl ?_
      refine jk_get (C := RX4) (T := TX4) (N := 7) (nm := "hills") (ds := "[LHillBeaconsLaw$Hill;") (v := .ref (p 1)) K dL_act_207 hin_RX4 (by decide +kernel) ((hb_cw E q b1 b2 C G M C2 G2 M2).length + 0) sm_0 rfl 5 rfl (by decide) rfl ?_
      refine jk_iload K dL_act_210 1 rfl ?_
      refine jk_laldL (v := (p (13 + a))) K dL_act_212 ((hb_cw E q b1 b2 C G M C2 G2 M2).length + 1) sm_1 (vp_in_nI ha (by omega)) (by rw [nI_clamp (by omega)]) ?_
      refine jk_astore (lv' := [(7, .ref (p (13 + a))), (6, .int (nI c)), (5, .int (nI a)), (4, .int (nI k12)), (3, .int (nI n)), (0, .ref q), (1, .ref (p 0)), (2, .int x)]) K dL_act_213 (by decide) rfl ?_
      refine jk_iload K dL_act_215 3 rfl ?_
      have hC296 : jk_J Γ E (sm_S E (hb_cw E q b1 b2 C G M C2 G2 M2) Y p n (sm_G G) (sm_N C) (sm_M M)) 0 0 296 [(7, .ref (p (13 + a))), (6, .int (nI c)), (5, .int (nI a)), (4, .int (nI k12)), (3, .int (nI n)), (0, .ref q), (1, .ref (p 0)), (2, .int x)] [] := by
        refine jk_aload_n K dL_act_296 rfl 6 rfl ?_
        refine jk_get (C := RX4) (T := TX4) (N := 7) (nm := "miles") (ds := "[[I") (v := .ref (p 2)) K dL_act_297 hin_RX4 (by decide +kernel) ((hb_cw E q b1 b2 C G M C2 G2 M2).length + 0) sm_0 rfl 6 rfl (by decide) rfl ?_
        refine jk_iload K dL_act_300 2 rfl ?_
        refine jk_aald (v := (p (3 + a))) K dL_act_302 ((hb_cw E q b1 b2 C G M C2 G2 M2).length + 2) sm_2 (vp_in_nI (Nat.lt_of_lt_of_le ha hn) (by decide)) (by rw [nI_clamp (by omega)]) ?_
        refine jk_iload K dL_act_303 1 rfl ?_
        refine jk_iald (v := (M (a * 10 + c))) K dL_act_305 ((hb_cw E q b1 b2 C G M C2 G2 M2).length + (3 + a)) (sm_r (Nat.lt_of_lt_of_le ha hn)) (vp_in_nI (Nat.lt_of_lt_of_le hc hn) (by decide)) (by rw [nI_clamp (by omega)]; unfold sm_M; rw [if_pos (by omega)]) ?_
        refine jk_istore (lv' := [(8, .int (M (a * 10 + c))), (7, .ref (p (13 + a))), (6, .int (nI c)), (5, .int (nI a)), (4, .int (nI k12)), (3, .int (nI n)), (0, .ref q), (1, .ref (p 0)), (2, .int x)]) K dL_act_306 (by decide) rfl ?_
        refine jk_aload_n K dL_act_308 rfl 7 rfl ?_
        refine jk_get (C := RX4) (T := TX4) (N := 7) (nm := "miles") (ds := "[[I") (v := .ref (p 2)) K dL_act_309 hin_RX4 (by decide +kernel) ((hb_cw E q b1 b2 C G M C2 G2 M2).length + 0) sm_0 rfl 6 rfl (by decide) rfl ?_
        refine jk_iload K dL_act_312 3 rfl ?_
        refine jk_aald (v := (p (3 + a))) K dL_act_314 ((hb_cw E q b1 b2 C G M C2 G2 M2).length + 2) sm_2 (vp_in_nI (Nat.lt_of_lt_of_le ha hn) (by decide)) (by rw [nI_clamp (by omega)]) ?_
        refine jk_iload K dL_act_315 2 rfl ?_
        refine jk_iload_n K dL_act_317 rfl 8 rfl ?_
        refine jk_bipush (x := 6) K dL_act_318 rfl ?_
        refine jk_ishr K dL_act_320 ?_
        refine jk_bipush (x := (nI 21)) K dL_act_321 rfl ?_
        refine jk_cSi K (n' := 0) (k' := 0) [.int (x >>> (6 &&& 31)), .int (nI 21)] [.int (nI c), .ref (p (3 + a))] dL_act_323 (hb_L_below _ hl E (sm_S E (hb_cw E q b1 b2 C G M C2 G2 M2) Y p n (sm_G G) (sm_N C) (sm_M M)) (x >>> (6 &&& 31)) 21 (by omega) (by omega)) gL_act_L_below rfl kd_L_below ⟨Nat.le_of_ble_eq_true rfl, Nat.le_of_ble_eq_true rfl⟩ (Nat.le_of_ble_eq_true rfl) ⟨rfl, rfl⟩ ⟨Nat.le_of_ble_eq_true rfl, Nat.le_of_ble_eq_true rfl⟩ rfl (fun k323 hk323 => ?_)
        refine jk_iast (w' := (sm_S E (hb_cw E q b1 b2 C G M C2 G2 M2) Y p n (sm_G G) (sm_N C) (va_up (sm_M M) a (upd (sm_M M a) c (nI k323))))) K dL_act_326 ((hb_cw E q b1 b2 C G M C2 G2 M2).length + (3 + a)) (sm_r (Nat.lt_of_lt_of_le ha hn)) (vp_in_nI (Nat.lt_of_lt_of_le hc hn) (by decide)) (by rw [nI_clamp (by omega)]; exact sm_sr (Nat.lt_of_lt_of_le ha hn)) ?_
        refine jk_aload_n K dL_act_327 rfl 7 rfl ?_
        refine jk_get (C := RX4) (T := TX4) (N := 7) (nm := "miles") (ds := "[[I") (v := .ref (p 2)) K dL_act_328 hin_RX4 (by decide +kernel) ((hb_cw E q b1 b2 C G M C2 G2 M2).length + 0) sm_0 rfl 6 rfl (by decide) rfl ?_
        refine jk_iload K dL_act_331 2 rfl ?_
        refine jk_aald (v := (p (3 + c))) K dL_act_333 ((hb_cw E q b1 b2 C G M C2 G2 M2).length + 2) sm_2 (vp_in_nI (Nat.lt_of_lt_of_le hc hn) (by decide)) (by rw [nI_clamp (by omega)]) ?_
        refine jk_iload K dL_act_334 3 rfl ?_
        refine jk_aload_n K dL_act_336 rfl 7 rfl ?_
        refine jk_get (C := RX4) (T := TX4) (N := 7) (nm := "miles") (ds := "[[I") (v := .ref (p 2)) K dL_act_337 hin_RX4 (by decide +kernel) ((hb_cw E q b1 b2 C G M C2 G2 M2).length + 0) sm_0 rfl 6 rfl (by decide) rfl ?_
        refine jk_iload K dL_act_340 3 rfl ?_
        refine jk_aald (v := (p (3 + a))) K dL_act_342 ((hb_cw E q b1 b2 C G M C2 G2 M2).length + 2) sm_2 (vp_in_nI (Nat.lt_of_lt_of_le ha hn) (by decide)) (by rw [nI_clamp (by omega)]) ?_
        refine jk_iload K dL_act_343 2 rfl ?_
        refine jk_iald (v := (nI k323)) K dL_act_345 ((hb_cw E q b1 b2 C G M C2 G2 M2).length + (3 + a)) (sm_r (Nat.lt_of_lt_of_le ha hn)) (vp_in_nI (Nat.lt_of_lt_of_le hc hn) (by decide)) (by rw [nI_clamp (by omega), va_up_self, pk_us]) ?_
        refine jk_iast (w' := (sm_S E (hb_cw E q b1 b2 C G M C2 G2 M2) Y p n (sm_G G) (sm_N C) (va_up (va_up (sm_M M) a (upd (sm_M M a) c (nI k323))) c (upd (sm_M M c) a (nI k323))))) K dL_act_346 ((hb_cw E q b1 b2 C G M C2 G2 M2).length + (3 + c)) (sm_r (Nat.lt_of_lt_of_le hc hn)) (vp_in_nI (Nat.lt_of_lt_of_le ha hn) (by decide)) (by rw [nI_clamp (by omega), va_up_ne _ _ hne]; exact sm_sr (Nat.lt_of_lt_of_le hc hn)) ?_
        refine jk_aload_n K dL_act_347 rfl 6 rfl ?_
        refine jk_iload K dL_act_348 3 rfl ?_
        refine jk_iload K dL_act_350 2 rfl ?_
        refine jk_aload_n K dL_act_352 rfl 7 rfl ?_
        refine jk_get (C := RX4) (T := TX4) (N := 7) (nm := "miles") (ds := "[[I") (v := .ref (p 2)) K dL_act_353 hin_RX4 (by decide +kernel) ((hb_cw E q b1 b2 C G M C2 G2 M2).length + 0) sm_0 rfl 6 rfl (by decide) rfl ?_
        refine jk_iload K dL_act_356 3 rfl ?_
        refine jk_aald (v := (p (3 + a))) K dL_act_358 ((hb_cw E q b1 b2 C G M C2 G2 M2).length + 2) sm_2 (vp_in_nI (Nat.lt_of_lt_of_le ha hn) (by decide)) (by rw [nI_clamp (by omega)]) ?_
        refine jk_iload K dL_act_359 2 rfl ?_
        refine jk_iald (v := (nI k323)) K dL_act_361 ((hb_cw E q b1 b2 C G M C2 G2 M2).length + (3 + a)) (sm_r (Nat.lt_of_lt_of_le ha hn)) (vp_in_nI (Nat.lt_of_lt_of_le hc hn) (by decide)) (by rw [nI_clamp (by omega), va_up_ne _ _ (Ne.symm hne), va_up_self, pk_us]) ?_
        refine jk_ws (ws' := (hb_v1 E q b1 b2 (sm_SW E p n (sm_G G) (sm_N C) (va_up (va_up (sm_M M) a (upd (sm_M M a) c (nI k323))) c (upd (sm_M M c) a (nI k323))) ++ Y) C G M C2 G2 M2)) lw_sw.symm ?_
        refine jk_cVi K (n' := 4) (k' := 24) [.int (nI a), .int (nI c), .int (nI k323)] [] dL_act_362 (lc_setSight _ hl E q b1 b2 (sm_SW E p n (sm_G G) (sm_N C) (va_up (va_up (sm_M M) a (upd (sm_M M a) c (nI k323))) c (upd (sm_M M c) a (nI k323))) ++ Y) C G M C2 G2 M2 n hn hg a c ha hc (fun e => hne e.symm) (nI k323) (lw_bt (lo := 0) (hi := 20) (by omega) (by omega) (by decide))) gL_act_X2_setSight rfl kd_X2_setSight ⟨Nat.le_of_ble_eq_true rfl, Nat.le_of_ble_eq_true rfl⟩ 0 rfl rfl (Nat.le_of_ble_eq_true rfl) ⟨rfl, rfl⟩ ⟨Nat.le_of_ble_eq_true rfl, Nat.le_of_ble_eq_true rfl⟩ rfl (fun _ _ => ?_)
        refine jk_iload K dL_act_365 0 rfl ?_
        refine jk_icmp_ne_F (tgt := 374) K dL_act_367 rfl rfl ?_
        refine jk_iconst (x := 1) K dL_act_370 rfl ?_
        refine jk_goto (tgt := 375) K dL_act_371 rfl ?_
        refine jk_ws (ws' := lw_W E q b1 b2 Y C2 G2 M2 (p, n, C, G, (upd (upd M (a * 10 + c) (nI k323)) (c * 10 + a) (nI k323)))) (lw_congr (w5 rfl rfl rfl rfl rfl) (fun _ _ => rfl) (sm_M_up (Nat.lt_of_lt_of_le ha hn) (Nat.lt_of_lt_of_le hc hn) (Ne.symm hne))) ?_
        exact jk_iret K hz dL_act_375 (p, n, C, G, (upd (upd M (a * 10 + c) (nI k323)) (c * 10 + a) (nI k323))) rfl ⟨rfl, (iv_w (iv_sight hiv (Nat.lt_of_lt_of_le ha hn) (Nat.lt_of_lt_of_le hc hn) (Ne.symm hne) (by omega)) (by omega)), ⟨Nat.le_refl n, fun q => absurd q (by omega)⟩⟩ rfl rfl (Nat.le_of_ble_eq_true rfl) (Nat.le_of_ble_eq_true rfl)
      have hC376 : jk_J Γ E (sm_S E (hb_cw E q b1 b2 C G M C2 G2 M2) Y p n (sm_G G) (sm_N C) (sm_M M)) 0 0 376 [(7, .ref (p (13 + a))), (6, .int (nI c)), (5, .int (nI a)), (4, .int (nI k12)), (3, .int (nI n)), (0, .ref q), (1, .ref (p 0)), (2, .int x)] [] := by
        refine jk_aload K dL_act_376 0 rfl ?_
        refine jk_aload K dL_act_378 0 rfl ?_
        refine jk_get (C := RX3) (T := TX3) (N := 11) (nm := "east") (ds := "Z") (v := .int (hb_zb (((sm_N C) a) 4))) K dL_act_380 hin_RX3 (by decide +kernel) ((hb_cw E q b1 b2 C G M C2 G2 M2).length + (13 + a)) (sm_h ha) rfl 4 rfl (by decide) rfl ?_
        refine jk_if_ne (tgt := 390) K dL_act_383 rfl (fun c_383 => ?_) (fun c_383 => ?_)
        · refine jk_iconst (x := 0) K dL_act_390 rfl ?_
          refine jk_put (C := RX3) (T := TX3) (N := 11) (nm := "east") (ds := "Z") (w' := (sm_S E (hb_cw E q b1 b2 C G M C2 G2 M2) Y p n (sm_G G) (va_up (sm_N C) a (hb_fu ((sm_N C) a) 4 0)) (sm_M M))) K dL_act_391 hin_RX3 tyX3 tyX3_ok nmX3 (by decide +kernel) ((hb_cw E q b1 b2 C G M C2 G2 M2).length + (13 + a)) (sm_h ha) rfl 4 rfl (by decide) rfl rfl rfl rfl (Nat.le_of_ble_eq_true rfl) (sm_sh (f := (hb_fu ((sm_N C) a) 4 0)) ha rfl) ?_
          refine jk_aload_n K dL_act_394 rfl 5 rfl ?_
          refine jk_iload K dL_act_395 2 rfl ?_
          refine jk_ws (ws' := (hb_v1 E q b1 b2 (sm_SW E p n (sm_G G) (va_up (sm_N C) a (hb_fu ((sm_N C) a) 4 0)) (sm_M M) ++ Y) C G M C2 G2 M2)) lw_sw.symm ?_
          refine jk_cVi K (n' := 1) (k' := 6) [.int (nI a)] [] dL_act_397 (lc_turnEast _ hl E q b1 b2 (sm_SW E p n (sm_G G) (va_up (sm_N C) a (hb_fu ((sm_N C) a) 4 0)) (sm_M M) ++ Y) C G M C2 G2 M2 n hn hg a ha) gL_act_X2_turnEast rfl kd_X2_turnEast ⟨Nat.le_of_ble_eq_true rfl, Nat.le_of_ble_eq_true rfl⟩ 0 rfl rfl (Nat.le_of_ble_eq_true rfl) ⟨rfl, rfl⟩ ⟨Nat.le_of_ble_eq_true rfl, Nat.le_of_ble_eq_true rfl⟩ rfl (fun _ _ => ?_)
          refine jk_aload K dL_act_400 0 rfl ?_
          refine jk_ws (ws' := (sm_S E (hb_cw E q b1 b2 (va_up C a (hb_fu (C a) 3 (hb_neg (C a 3)))) G M C2 G2 M2) Y p n (sm_G G) (va_up (sm_N C) a (hb_fu ((sm_N C) a) 4 0)) (sm_M M))) lw_sw ?_
          refine jk_get (C := RX3) (T := TX3) (N := 11) (nm := "east") (ds := "Z") (v := .int (hb_zb 0)) K dL_act_402 hin_RX3 (by decide +kernel) ((hb_cw E q b1 b2 (va_up C a (hb_fu (C a) 3 (hb_neg (C a 3)))) G M C2 G2 M2).length + (13 + a)) (sm_hu ha) rfl 4 rfl (by decide) rfl ?_
          refine jk_icmp_ne_F (tgt := 412) K dL_act_405 rfl ((hb_neg_0 (v := C a 3) c_383).trans (by decide)) ?_
          refine jk_iconst (x := 1) K dL_act_408 rfl ?_
          refine jk_goto (tgt := 413) K dL_act_409 rfl ?_
          refine jk_ws (ws' := (hb_v1 E q b1 b2 (sm_SW E p n (sm_G G) (va_up (sm_N C) a (hb_fu ((sm_N C) a) 4 0)) (sm_M M) ++ Y) (va_up C a (hb_fu (C a) 3 (hb_neg (C a 3)))) G M C2 G2 M2)) lw_sw.symm ?_
          refine jk_ws (ws' := lw_W E q b1 b2 Y C2 G2 M2 (p, n, (va_up C a (hb_fu (C a) 3 (hb_neg (C a 3)))), G, M)) (lw_congr (w5 rfl rfl rfl rfl rfl) (fun k _ => sm_N_up (f := (hb_fu ((sm_N C) a) 4 0)) (g := hb_fu (C a) 3 (hb_neg (C a 3))) (by rw [hb_neg_0 (v := C a 3) c_383] <;> rfl) k) (fun _ _ => rfl)) ?_
          exact jk_iret K hz dL_act_413 (p, n, (va_up C a (hb_fu (C a) 3 (hb_neg (C a 3)))), G, M) rfl ⟨rfl, (iv_w (iv_up hiv ha (iv_turn3 hiv ha)) (by omega)), ⟨Nat.le_refl n, fun q => absurd q (by omega)⟩⟩ rfl rfl (Nat.le_of_ble_eq_true rfl) (Nat.le_of_ble_eq_true rfl)
        · refine jk_iconst (x := 1) K dL_act_386 rfl ?_
          refine jk_goto (tgt := 391) K dL_act_387 rfl ?_
          refine jk_put (C := RX3) (T := TX3) (N := 11) (nm := "east") (ds := "Z") (w' := (sm_S E (hb_cw E q b1 b2 C G M C2 G2 M2) Y p n (sm_G G) (va_up (sm_N C) a (hb_fu ((sm_N C) a) 4 1)) (sm_M M))) K dL_act_391 hin_RX3 tyX3 tyX3_ok nmX3 (by decide +kernel) ((hb_cw E q b1 b2 C G M C2 G2 M2).length + (13 + a)) (sm_h ha) rfl 4 rfl (by decide) rfl rfl rfl rfl (Nat.le_of_ble_eq_true rfl) (sm_sh (f := (hb_fu ((sm_N C) a) 4 1)) ha rfl) ?_
          refine jk_aload_n K dL_act_394 rfl 5 rfl ?_
          refine jk_iload K dL_act_395 2 rfl ?_
          refine jk_ws (ws' := (hb_v1 E q b1 b2 (sm_SW E p n (sm_G G) (va_up (sm_N C) a (hb_fu ((sm_N C) a) 4 1)) (sm_M M) ++ Y) C G M C2 G2 M2)) lw_sw.symm ?_
          refine jk_cVi K (n' := 1) (k' := 6) [.int (nI a)] [] dL_act_397 (lc_turnEast _ hl E q b1 b2 (sm_SW E p n (sm_G G) (va_up (sm_N C) a (hb_fu ((sm_N C) a) 4 1)) (sm_M M) ++ Y) C G M C2 G2 M2 n hn hg a ha) gL_act_X2_turnEast rfl kd_X2_turnEast ⟨Nat.le_of_ble_eq_true rfl, Nat.le_of_ble_eq_true rfl⟩ 0 rfl rfl (Nat.le_of_ble_eq_true rfl) ⟨rfl, rfl⟩ ⟨Nat.le_of_ble_eq_true rfl, Nat.le_of_ble_eq_true rfl⟩ rfl (fun _ _ => ?_)
          refine jk_aload K dL_act_400 0 rfl ?_
          refine jk_ws (ws' := (sm_S E (hb_cw E q b1 b2 (va_up C a (hb_fu (C a) 3 (hb_neg (C a 3)))) G M C2 G2 M2) Y p n (sm_G G) (va_up (sm_N C) a (hb_fu ((sm_N C) a) 4 1)) (sm_M M))) lw_sw ?_
          refine jk_get (C := RX3) (T := TX3) (N := 11) (nm := "east") (ds := "Z") (v := .int (hb_zb 1)) K dL_act_402 hin_RX3 (by decide +kernel) ((hb_cw E q b1 b2 (va_up C a (hb_fu (C a) 3 (hb_neg (C a 3)))) G M C2 G2 M2).length + (13 + a)) (sm_hu ha) rfl 4 rfl (by decide) rfl ?_
          refine jk_icmp_ne_F (tgt := 412) K dL_act_405 rfl ((hb_neg_1 (v := C a 3) c_383).trans (by decide)) ?_
          refine jk_iconst (x := 1) K dL_act_408 rfl ?_
          refine jk_goto (tgt := 413) K dL_act_409 rfl ?_
          refine jk_ws (ws' := (hb_v1 E q b1 b2 (sm_SW E p n (sm_G G) (va_up (sm_N C) a (hb_fu ((sm_N C) a) 4 1)) (sm_M M) ++ Y) (va_up C a (hb_fu (C a) 3 (hb_neg (C a 3)))) G M C2 G2 M2)) lw_sw.symm ?_
          refine jk_ws (ws' := lw_W E q b1 b2 Y C2 G2 M2 (p, n, (va_up C a (hb_fu (C a) 3 (hb_neg (C a 3)))), G, M)) (lw_congr (w5 rfl rfl rfl rfl rfl) (fun k _ => sm_N_up (f := (hb_fu ((sm_N C) a) 4 1)) (g := hb_fu (C a) 3 (hb_neg (C a 3))) (by rw [hb_neg_1 (v := C a 3) c_383] <;> rfl) k) (fun _ _ => rfl)) ?_
          exact jk_iret K hz dL_act_413 (p, n, (va_up C a (hb_fu (C a) 3 (hb_neg (C a 3)))), G, M) rfl ⟨rfl, (iv_w (iv_up hiv ha (iv_turn3 hiv ha)) (by omega)), ⟨Nat.le_refl n, fun q => absurd q (by omega)⟩⟩ rfl rfl (Nat.le_of_ble_eq_true rfl) (Nat.le_of_ble_eq_true rfl)
      have hC414 : jk_J Γ E (sm_S E (hb_cw E q b1 b2 C G M C2 G2 M2) Y p n (sm_G G) (sm_N C) (sm_M M)) 0 0 414 [(7, .ref (p (13 + a))), (6, .int (nI c)), (5, .int (nI a)), (4, .int (nI k12)), (3, .int (nI n)), (0, .ref q), (1, .ref (p 0)), (2, .int x)] [] := by
        refine jk_aload K dL_act_414 0 rfl ?_
        refine jk_aload K dL_act_416 0 rfl ?_
        refine jk_get (C := RX3) (T := TX3) (N := 11) (nm := "post") (ds := "Z") (v := .int (hb_zb (((sm_N C) a) 5))) K dL_act_418 hin_RX3 (by decide +kernel) ((hb_cw E q b1 b2 C G M C2 G2 M2).length + (13 + a)) (sm_h ha) rfl 5 rfl (by decide) rfl ?_
        refine jk_if_ne (tgt := 428) K dL_act_421 rfl (fun c_421 => ?_) (fun c_421 => ?_)
        · refine jk_iconst (x := 0) K dL_act_428 rfl ?_
          refine jk_put (C := RX3) (T := TX3) (N := 11) (nm := "post") (ds := "Z") (w' := (sm_S E (hb_cw E q b1 b2 C G M C2 G2 M2) Y p n (sm_G G) (va_up (sm_N C) a (hb_fu ((sm_N C) a) 5 0)) (sm_M M))) K dL_act_429 hin_RX3 tyX3 tyX3_ok nmX3 (by decide +kernel) ((hb_cw E q b1 b2 C G M C2 G2 M2).length + (13 + a)) (sm_h ha) rfl 5 rfl (by decide) rfl rfl rfl rfl (Nat.le_of_ble_eq_true rfl) (sm_sh (f := (hb_fu ((sm_N C) a) 5 0)) ha rfl) ?_
          refine jk_aload_n K dL_act_432 rfl 5 rfl ?_
          refine jk_iload K dL_act_433 2 rfl ?_
          refine jk_ws (ws' := (hb_v1 E q b1 b2 (sm_SW E p n (sm_G G) (va_up (sm_N C) a (hb_fu ((sm_N C) a) 5 0)) (sm_M M) ++ Y) C G M C2 G2 M2)) lw_sw.symm ?_
          refine jk_cVi K (n' := 1) (k' := 6) [.int (nI a)] [] dL_act_435 (lc_turnPost _ hl E q b1 b2 (sm_SW E p n (sm_G G) (va_up (sm_N C) a (hb_fu ((sm_N C) a) 5 0)) (sm_M M) ++ Y) C G M C2 G2 M2 n hn hg a ha) gL_act_X2_turnPost rfl kd_X2_turnPost ⟨Nat.le_of_ble_eq_true rfl, Nat.le_of_ble_eq_true rfl⟩ 0 rfl rfl (Nat.le_of_ble_eq_true rfl) ⟨rfl, rfl⟩ ⟨Nat.le_of_ble_eq_true rfl, Nat.le_of_ble_eq_true rfl⟩ rfl (fun _ _ => ?_)
          refine jk_aload K dL_act_438 0 rfl ?_
          refine jk_ws (ws' := (sm_S E (hb_cw E q b1 b2 (va_up C a (hb_fu (C a) 4 (hb_neg (C a 4)))) G M C2 G2 M2) Y p n (sm_G G) (va_up (sm_N C) a (hb_fu ((sm_N C) a) 5 0)) (sm_M M))) lw_sw ?_
          refine jk_get (C := RX3) (T := TX3) (N := 11) (nm := "post") (ds := "Z") (v := .int (hb_zb 0)) K dL_act_440 hin_RX3 (by decide +kernel) ((hb_cw E q b1 b2 (va_up C a (hb_fu (C a) 4 (hb_neg (C a 4)))) G M C2 G2 M2).length + (13 + a)) (sm_hu ha) rfl 5 rfl (by decide) rfl ?_
          refine jk_icmp_ne_F (tgt := 450) K dL_act_443 rfl ((hb_neg_0 (v := C a 4) c_421).trans (by decide)) ?_
          refine jk_iconst (x := 1) K dL_act_446 rfl ?_
          refine jk_goto (tgt := 451) K dL_act_447 rfl ?_
          refine jk_ws (ws' := (hb_v1 E q b1 b2 (sm_SW E p n (sm_G G) (va_up (sm_N C) a (hb_fu ((sm_N C) a) 5 0)) (sm_M M) ++ Y) (va_up C a (hb_fu (C a) 4 (hb_neg (C a 4)))) G M C2 G2 M2)) lw_sw.symm ?_
          refine jk_ws (ws' := lw_W E q b1 b2 Y C2 G2 M2 (p, n, (va_up C a (hb_fu (C a) 4 (hb_neg (C a 4)))), G, M)) (lw_congr (w5 rfl rfl rfl rfl rfl) (fun k _ => sm_N_up (f := (hb_fu ((sm_N C) a) 5 0)) (g := hb_fu (C a) 4 (hb_neg (C a 4))) (by rw [hb_neg_0 (v := C a 4) c_421] <;> rfl) k) (fun _ _ => rfl)) ?_
          exact jk_iret K hz dL_act_451 (p, n, (va_up C a (hb_fu (C a) 4 (hb_neg (C a 4)))), G, M) rfl ⟨rfl, (iv_w (iv_up hiv ha (iv_turn4 hiv ha)) (by omega)), ⟨Nat.le_refl n, fun q => absurd q (by omega)⟩⟩ rfl rfl (Nat.le_of_ble_eq_true rfl) (Nat.le_of_ble_eq_true rfl)
        · refine jk_iconst (x := 1) K dL_act_424 rfl ?_
          refine jk_goto (tgt := 429) K dL_act_425 rfl ?_
          refine jk_put (C := RX3) (T := TX3) (N := 11) (nm := "post") (ds := "Z") (w' := (sm_S E (hb_cw E q b1 b2 C G M C2 G2 M2) Y p n (sm_G G) (va_up (sm_N C) a (hb_fu ((sm_N C) a) 5 1)) (sm_M M))) K dL_act_429 hin_RX3 tyX3 tyX3_ok nmX3 (by decide +kernel) ((hb_cw E q b1 b2 C G M C2 G2 M2).length + (13 + a)) (sm_h ha) rfl 5 rfl (by decide) rfl rfl rfl rfl (Nat.le_of_ble_eq_true rfl) (sm_sh (f := (hb_fu ((sm_N C) a) 5 1)) ha rfl) ?_
          refine jk_aload_n K dL_act_432 rfl 5 rfl ?_
          refine jk_iload K dL_act_433 2 rfl ?_
          refine jk_ws (ws' := (hb_v1 E q b1 b2 (sm_SW E p n (sm_G G) (va_up (sm_N C) a (hb_fu ((sm_N C) a) 5 1)) (sm_M M) ++ Y) C G M C2 G2 M2)) lw_sw.symm ?_
          refine jk_cVi K (n' := 1) (k' := 6) [.int (nI a)] [] dL_act_435 (lc_turnPost _ hl E q b1 b2 (sm_SW E p n (sm_G G) (va_up (sm_N C) a (hb_fu ((sm_N C) a) 5 1)) (sm_M M) ++ Y) C G M C2 G2 M2 n hn hg a ha) gL_act_X2_turnPost rfl kd_X2_turnPost ⟨Nat.le_of_ble_eq_true rfl, Nat.le_of_ble_eq_true rfl⟩ 0 rfl rfl (Nat.le_of_ble_eq_true rfl) ⟨rfl, rfl⟩ ⟨Nat.le_of_ble_eq_true rfl, Nat.le_of_ble_eq_true rfl⟩ rfl (fun _ _ => ?_)
          refine jk_aload K dL_act_438 0 rfl ?_
          refine jk_ws (ws' := (sm_S E (hb_cw E q b1 b2 (va_up C a (hb_fu (C a) 4 (hb_neg (C a 4)))) G M C2 G2 M2) Y p n (sm_G G) (va_up (sm_N C) a (hb_fu ((sm_N C) a) 5 1)) (sm_M M))) lw_sw ?_
          refine jk_get (C := RX3) (T := TX3) (N := 11) (nm := "post") (ds := "Z") (v := .int (hb_zb 1)) K dL_act_440 hin_RX3 (by decide +kernel) ((hb_cw E q b1 b2 (va_up C a (hb_fu (C a) 4 (hb_neg (C a 4)))) G M C2 G2 M2).length + (13 + a)) (sm_hu ha) rfl 5 rfl (by decide) rfl ?_
          refine jk_icmp_ne_F (tgt := 450) K dL_act_443 rfl ((hb_neg_1 (v := C a 4) c_421).trans (by decide)) ?_
          refine jk_iconst (x := 1) K dL_act_446 rfl ?_
          refine jk_goto (tgt := 451) K dL_act_447 rfl ?_
          refine jk_ws (ws' := (hb_v1 E q b1 b2 (sm_SW E p n (sm_G G) (va_up (sm_N C) a (hb_fu ((sm_N C) a) 5 1)) (sm_M M) ++ Y) (va_up C a (hb_fu (C a) 4 (hb_neg (C a 4)))) G M C2 G2 M2)) lw_sw.symm ?_
          refine jk_ws (ws' := lw_W E q b1 b2 Y C2 G2 M2 (p, n, (va_up C a (hb_fu (C a) 4 (hb_neg (C a 4)))), G, M)) (lw_congr (w5 rfl rfl rfl rfl rfl) (fun k _ => sm_N_up (f := (hb_fu ((sm_N C) a) 5 1)) (g := hb_fu (C a) 4 (hb_neg (C a 4))) (by rw [hb_neg_1 (v := C a 4) c_421] <;> rfl) k) (fun _ _ => rfl)) ?_
          exact jk_iret K hz dL_act_451 (p, n, (va_up C a (hb_fu (C a) 4 (hb_neg (C a 4)))), G, M) rfl ⟨rfl, (iv_w (iv_up hiv ha (iv_turn4 hiv ha)) (by omega)), ⟨Nat.le_refl n, fun q => absurd q (by omega)⟩⟩ rfl rfl (Nat.le_of_ble_eq_true rfl) (Nat.le_of_ble_eq_true rfl)
      have hC452 : jk_J Γ E (sm_S E (hb_cw E q b1 b2 C G M C2 G2 M2) Y p n (sm_G G) (sm_N C) (sm_M M)) 0 0 452 [(7, .ref (p (13 + a))), (6, .int (nI c)), (5, .int (nI a)), (4, .int (nI k12)), (3, .int (nI n)), (0, .ref q), (1, .ref (p 0)), (2, .int x)] [] := by
        refine jk_iconst (x := (nI 1)) K dL_act_452 rfl ?_
        refine jk_iload_n K dL_act_453 rfl 7 rfl ?_
        refine jk_iconst (x := 3) K dL_act_454 rfl ?_
        refine jk_ishr K dL_act_455 ?_
        refine jk_bipush (x := (nI 30)) K dL_act_456 rfl ?_
        refine jk_cSi K (n' := 0) (k' := 0) [.int (x >>> (3 &&& 31)), .int (nI 30)] [.int (nI 1)] dL_act_458 (hb_L_below _ hl E (sm_S E (hb_cw E q b1 b2 C G M C2 G2 M2) Y p n (sm_G G) (sm_N C) (sm_M M)) (x >>> (3 &&& 31)) 30 (by omega) (by omega)) gL_act_L_below rfl kd_L_below ⟨Nat.le_of_ble_eq_true rfl, Nat.le_of_ble_eq_true rfl⟩ (Nat.le_of_ble_eq_true rfl) ⟨rfl, rfl⟩ ⟨Nat.le_of_ble_eq_true rfl, Nat.le_of_ble_eq_true rfl⟩ rfl (fun k458 hk458 => ?_)
        refine jk_iadd K dL_act_461 ?_
        refine jk_st (st' := [.int (nI (1 + k458))]) (by rw [nI_add]) ?_
        refine jk_istore (lv' := [(9, .int (nI (1 + k458))), (7, .ref (p (13 + a))), (6, .int (nI c)), (5, .int (nI a)), (4, .int (nI k12)), (3, .int (nI n)), (0, .ref q), (1, .ref (p 0)), (2, .int x)]) K dL_act_462 (by decide) rfl ?_
        refine jk_aload K dL_act_464 1 rfl ?_
        refine jk_aload K dL_act_466 1 rfl ?_
        refine jk_get (C := RX3) (T := TX3) (N := 11) (nm := "wood") (ds := "I") (v := .int (((sm_N C) a) 1)) K dL_act_468 hin_RX3 (by decide +kernel) ((hb_cw E q b1 b2 C G M C2 G2 M2).length + (13 + a)) (sm_h ha) rfl 1 rfl (by decide) rfl ?_
        refine jk_iload K dL_act_471 0 rfl ?_
        refine jk_iadd K dL_act_473 ?_
        refine jk_bipush (x := 30) K dL_act_474 rfl ?_
        refine jk_icmp_le (tgt := 484) K dL_act_476 rfl (fun c_476 => ?_) (fun c_476 => ?_)
        · refine jk_aload K dL_act_484 1 rfl ?_
          refine jk_get (C := RX3) (T := TX3) (N := 11) (nm := "wood") (ds := "I") (v := .int (((sm_N C) a) 1)) K dL_act_486 hin_RX3 (by decide +kernel) ((hb_cw E q b1 b2 C G M C2 G2 M2).length + (13 + a)) (sm_h ha) rfl 1 rfl (by decide) rfl ?_
          refine jk_iload K dL_act_489 0 rfl ?_
          refine jk_iadd K dL_act_491 ?_
          refine jk_put (C := RX3) (T := TX3) (N := 11) (nm := "wood") (ds := "I") (w' := (sm_S E (hb_cw E q b1 b2 C G M C2 G2 M2) Y p n (sm_G G) (va_up (sm_N C) a (hb_fu ((sm_N C) a) 1 ((((sm_N C) a) 1) + (nI (1 + k458))))) (sm_M M))) K dL_act_492 hin_RX3 tyX3 tyX3_ok nmX3 (by decide +kernel) ((hb_cw E q b1 b2 C G M C2 G2 M2).length + (13 + a)) (sm_h ha) rfl 1 rfl (by decide) rfl rfl rfl rfl (Nat.le_of_ble_eq_true rfl) (sm_sh (f := (hb_fu ((sm_N C) a) 1 ((((sm_N C) a) 1) + (nI (1 + k458))))) ha rfl) ?_
          refine jk_aload_n K dL_act_495 rfl 6 rfl ?_
          refine jk_iload K dL_act_496 3 rfl ?_
          refine jk_iload K dL_act_498 0 rfl ?_
          refine jk_ws (ws' := (hb_v1 E q b1 b2 (sm_SW E p n (sm_G G) (va_up (sm_N C) a (hb_fu ((sm_N C) a) 1 ((((sm_N C) a) 1) + (nI (1 + k458))))) (sm_M M) ++ Y) C G M C2 G2 M2)) lw_sw.symm ?_
          refine jk_cVi K (n' := 2) (k' := 12) [.int (nI a), .int (nI (1 + k458))] [] dL_act_500 (lc_bringWood _ hl E q b1 b2 (sm_SW E p n (sm_G G) (va_up (sm_N C) a (hb_fu ((sm_N C) a) 1 ((((sm_N C) a) 1) + (nI (1 + k458))))) (sm_M M) ++ Y) C G M C2 G2 M2 n hn hg a ha (nI (1 + k458)) (lw_bt (lo := 1) (hi := 30) (by omega) (by omega) (by decide))) gL_act_X2_bringWood rfl kd_X2_bringWood ⟨Nat.le_of_ble_eq_true rfl, Nat.le_of_ble_eq_true rfl⟩ 0 rfl rfl (Nat.le_of_ble_eq_true rfl) ⟨rfl, rfl⟩ ⟨Nat.le_of_ble_eq_true rfl, Nat.le_of_ble_eq_true rfl⟩ rfl (fun _ _ => ?_)
          refine jk_aload K dL_act_503 1 rfl ?_
          refine jk_ws (ws' := (sm_S E (hb_cw E q b1 b2 (va_up C a (hb_fu (C a) 0 (hb_min (C a 0 + (nI (1 + k458))) 30))) G M C2 G2 M2) Y p n (sm_G G) (va_up (sm_N C) a (hb_fu ((sm_N C) a) 1 ((((sm_N C) a) 1) + (nI (1 + k458))))) (sm_M M))) lw_sw ?_
          refine jk_get (C := RX3) (T := TX3) (N := 11) (nm := "wood") (ds := "I") (v := .int ((((sm_N C) a) 1) + (nI (1 + k458)))) K dL_act_505 hin_RX3 (by decide +kernel) ((hb_cw E q b1 b2 (va_up C a (hb_fu (C a) 0 (hb_min (C a 0 + (nI (1 + k458))) 30))) G M C2 G2 M2).length + (13 + a)) (sm_hu ha) rfl 1 rfl (by decide) rfl ?_
          refine jk_icmp_ne_F (tgt := 515) K dL_act_508 rfl (show hb_min (C a 0 + nI (1 + k458)) 30 = C a 0 + nI (1 + k458) by unfold hb_min; exact if_neg (fun z => absurd c_476 (Int32.not_le.mpr z))) ?_
          refine jk_iconst (x := 1) K dL_act_511 rfl ?_
          refine jk_goto (tgt := 516) K dL_act_512 rfl ?_
          refine jk_ws (ws' := (hb_v1 E q b1 b2 (sm_SW E p n (sm_G G) (va_up (sm_N C) a (hb_fu ((sm_N C) a) 1 ((((sm_N C) a) 1) + (nI (1 + k458))))) (sm_M M) ++ Y) (va_up C a (hb_fu (C a) 0 (hb_min (C a 0 + (nI (1 + k458))) 30))) G M C2 G2 M2)) lw_sw.symm ?_
          refine jk_ws (ws' := lw_W E q b1 b2 Y C2 G2 M2 (p, n, (va_up C a (hb_fu (C a) 0 (hb_min (C a 0 + (nI (1 + k458))) 30))), G, M)) (lw_congr (w5 rfl rfl rfl rfl rfl) (fun k _ => sm_N_up (f := (hb_fu ((sm_N C) a) 1 ((((sm_N C) a) 1) + (nI (1 + k458))))) (g := hb_fu (C a) 0 (hb_min (C a 0 + nI (1 + k458)) 30)) (by rw [(show hb_min (C a 0 + nI (1 + k458)) 30 = C a 0 + nI (1 + k458) by unfold hb_min; exact if_neg (fun z => absurd c_476 (Int32.not_le.mpr z)))] <;> rfl) k) (fun _ _ => rfl)) ?_
          exact jk_iret K hz dL_act_516 (p, n, (va_up C a (hb_fu (C a) 0 (hb_min (C a 0 + (nI (1 + k458))) 30))), G, M) rfl ⟨rfl, (iv_w (iv_up hiv ha (iv_wood hiv ha (by omega))) (by omega)), ⟨Nat.le_refl n, fun q => absurd q (by omega)⟩⟩ rfl rfl (Nat.le_of_ble_eq_true rfl) (Nat.le_of_ble_eq_true rfl)
        · refine jk_bipush (x := 30) K dL_act_479 rfl ?_
          refine jk_goto (tgt := 492) K dL_act_481 rfl ?_
          refine jk_put (C := RX3) (T := TX3) (N := 11) (nm := "wood") (ds := "I") (w' := (sm_S E (hb_cw E q b1 b2 C G M C2 G2 M2) Y p n (sm_G G) (va_up (sm_N C) a (hb_fu ((sm_N C) a) 1 30)) (sm_M M))) K dL_act_492 hin_RX3 tyX3 tyX3_ok nmX3 (by decide +kernel) ((hb_cw E q b1 b2 C G M C2 G2 M2).length + (13 + a)) (sm_h ha) rfl 1 rfl (by decide) rfl rfl rfl rfl (Nat.le_of_ble_eq_true rfl) (sm_sh (f := (hb_fu ((sm_N C) a) 1 30)) ha rfl) ?_
          refine jk_aload_n K dL_act_495 rfl 6 rfl ?_
          refine jk_iload K dL_act_496 3 rfl ?_
          refine jk_iload K dL_act_498 0 rfl ?_
          refine jk_ws (ws' := (hb_v1 E q b1 b2 (sm_SW E p n (sm_G G) (va_up (sm_N C) a (hb_fu ((sm_N C) a) 1 30)) (sm_M M) ++ Y) C G M C2 G2 M2)) lw_sw.symm ?_
          refine jk_cVi K (n' := 2) (k' := 12) [.int (nI a), .int (nI (1 + k458))] [] dL_act_500 (lc_bringWood _ hl E q b1 b2 (sm_SW E p n (sm_G G) (va_up (sm_N C) a (hb_fu ((sm_N C) a) 1 30)) (sm_M M) ++ Y) C G M C2 G2 M2 n hn hg a ha (nI (1 + k458)) (lw_bt (lo := 1) (hi := 30) (by omega) (by omega) (by decide))) gL_act_X2_bringWood rfl kd_X2_bringWood ⟨Nat.le_of_ble_eq_true rfl, Nat.le_of_ble_eq_true rfl⟩ 0 rfl rfl (Nat.le_of_ble_eq_true rfl) ⟨rfl, rfl⟩ ⟨Nat.le_of_ble_eq_true rfl, Nat.le_of_ble_eq_true rfl⟩ rfl (fun _ _ => ?_)
          refine jk_aload K dL_act_503 1 rfl ?_
          refine jk_ws (ws' := (sm_S E (hb_cw E q b1 b2 (va_up C a (hb_fu (C a) 0 (hb_min (C a 0 + (nI (1 + k458))) 30))) G M C2 G2 M2) Y p n (sm_G G) (va_up (sm_N C) a (hb_fu ((sm_N C) a) 1 30)) (sm_M M))) lw_sw ?_
          refine jk_get (C := RX3) (T := TX3) (N := 11) (nm := "wood") (ds := "I") (v := .int 30) K dL_act_505 hin_RX3 (by decide +kernel) ((hb_cw E q b1 b2 (va_up C a (hb_fu (C a) 0 (hb_min (C a 0 + (nI (1 + k458))) 30))) G M C2 G2 M2).length + (13 + a)) (sm_hu ha) rfl 1 rfl (by decide) rfl ?_
          refine jk_icmp_ne_F (tgt := 515) K dL_act_508 rfl (show hb_min (C a 0 + nI (1 + k458)) 30 = 30 by unfold hb_min; exact if_pos (Int32.not_le.mp c_476)) ?_
          refine jk_iconst (x := 1) K dL_act_511 rfl ?_
          refine jk_goto (tgt := 516) K dL_act_512 rfl ?_
          refine jk_ws (ws' := (hb_v1 E q b1 b2 (sm_SW E p n (sm_G G) (va_up (sm_N C) a (hb_fu ((sm_N C) a) 1 30)) (sm_M M) ++ Y) (va_up C a (hb_fu (C a) 0 (hb_min (C a 0 + (nI (1 + k458))) 30))) G M C2 G2 M2)) lw_sw.symm ?_
          refine jk_ws (ws' := lw_W E q b1 b2 Y C2 G2 M2 (p, n, (va_up C a (hb_fu (C a) 0 (hb_min (C a 0 + (nI (1 + k458))) 30))), G, M)) (lw_congr (w5 rfl rfl rfl rfl rfl) (fun k _ => sm_N_up (f := (hb_fu ((sm_N C) a) 1 30)) (g := hb_fu (C a) 0 (hb_min (C a 0 + nI (1 + k458)) 30)) (by rw [(show hb_min (C a 0 + nI (1 + k458)) 30 = 30 by unfold hb_min; exact if_pos (Int32.not_le.mp c_476))] <;> rfl) k) (fun _ _ => rfl)) ?_
          exact jk_iret K hz dL_act_516 (p, n, (va_up C a (hb_fu (C a) 0 (hb_min (C a 0 + (nI (1 + k458))) 30))), G, M) rfl ⟨rfl, (iv_w (iv_up hiv ha (iv_wood hiv ha (by omega))) (by omega)), ⟨Nat.le_refl n, fun q => absurd q (by omega)⟩⟩ rfl rfl (Nat.le_of_ble_eq_true rfl) (Nat.le_of_ble_eq_true rfl)
      have hC517 : jk_J Γ E (sm_S E (hb_cw E q b1 b2 C G M C2 G2 M2) Y p n (sm_G G) (sm_N C) (sm_M M)) 0 0 517 [(7, .ref (p (13 + a))), (6, .int (nI c)), (5, .int (nI a)), (4, .int (nI k12)), (3, .int (nI n)), (0, .ref q), (1, .ref (p 0)), (2, .int x)] [] := by
        refine jk_aload K dL_act_517 0 rfl ?_
        refine jk_get (C := RX3) (T := TX3) (N := 11) (nm := "damp") (ds := "I") (v := .int (((sm_N C) a) 2)) K dL_act_519 hin_RX3 (by decide +kernel) ((hb_cw E q b1 b2 C G M C2 G2 M2).length + (13 + a)) (sm_h ha) rfl 2 rfl (by decide) rfl ?_
        refine jk_istore (lv' := [(10, .int (((sm_N C) a) 2)), (7, .ref (p (13 + a))), (6, .int (nI c)), (5, .int (nI a)), (4, .int (nI k12)), (3, .int (nI n)), (0, .ref q), (1, .ref (p 0)), (2, .int x)]) K dL_act_522 (by decide) rfl ?_
        refine jk_aload K dL_act_524 1 rfl ?_
        refine jk_iload_n K dL_act_526 rfl 8 rfl ?_
        refine jk_iconst (x := 3) K dL_act_527 rfl ?_
        refine jk_ishr K dL_act_528 ?_
        refine jk_bipush (x := (nI 10)) K dL_act_529 rfl ?_
        refine jk_cSi K (n' := 0) (k' := 0) [.int (x >>> (3 &&& 31)), .int (nI 10)] [.ref (p (13 + a))] dL_act_531 (hb_L_below _ hl E (sm_S E (hb_cw E q b1 b2 C G M C2 G2 M2) Y p n (sm_G G) (sm_N C) (sm_M M)) (x >>> (3 &&& 31)) 10 (by omega) (by omega)) gL_act_L_below rfl kd_L_below ⟨Nat.le_of_ble_eq_true rfl, Nat.le_of_ble_eq_true rfl⟩ (Nat.le_of_ble_eq_true rfl) ⟨rfl, rfl⟩ ⟨Nat.le_of_ble_eq_true rfl, Nat.le_of_ble_eq_true rfl⟩ rfl (fun k531 hk531 => ?_)
        refine jk_put (C := RX3) (T := TX3) (N := 11) (nm := "damp") (ds := "I") (w' := (sm_S E (hb_cw E q b1 b2 C G M C2 G2 M2) Y p n (sm_G G) (va_up (sm_N C) a (hb_fu ((sm_N C) a) 2 (nI k531))) (sm_M M))) K dL_act_534 hin_RX3 tyX3 tyX3_ok nmX3 (by decide +kernel) ((hb_cw E q b1 b2 C G M C2 G2 M2).length + (13 + a)) (sm_h ha) rfl 2 rfl (by decide) rfl rfl rfl rfl (Nat.le_of_ble_eq_true rfl) (sm_sh (f := (hb_fu ((sm_N C) a) 2 (nI k531))) ha rfl) ?_
        refine jk_aload_n K dL_act_537 rfl 6 rfl ?_
        refine jk_iload K dL_act_538 3 rfl ?_
        refine jk_aload K dL_act_540 1 rfl ?_
        refine jk_get (C := RX3) (T := TX3) (N := 11) (nm := "damp") (ds := "I") (v := .int (nI k531)) K dL_act_542 hin_RX3 (by decide +kernel) ((hb_cw E q b1 b2 C G M C2 G2 M2).length + (13 + a)) (sm_hu ha) rfl 2 rfl (by decide) rfl ?_
        refine jk_ws (ws' := (hb_v1 E q b1 b2 (sm_SW E p n (sm_G G) (va_up (sm_N C) a (hb_fu ((sm_N C) a) 2 (nI k531))) (sm_M M) ++ Y) C G M C2 G2 M2)) lw_sw.symm ?_
        refine jk_cVi K (n' := 2) (k' := 12) [.int (nI a), .int (nI k531)] [] dL_act_545 (lc_setDamp _ hl E q b1 b2 (sm_SW E p n (sm_G G) (va_up (sm_N C) a (hb_fu ((sm_N C) a) 2 (nI k531))) (sm_M M) ++ Y) C G M C2 G2 M2 n hn hg a ha (nI k531) (lw_bt (lo := 0) (hi := 9) (by omega) (by omega) (by decide))) gL_act_X2_setDamp rfl kd_X2_setDamp ⟨Nat.le_of_ble_eq_true rfl, Nat.le_of_ble_eq_true rfl⟩ 0 rfl rfl (Nat.le_of_ble_eq_true rfl) ⟨rfl, rfl⟩ ⟨Nat.le_of_ble_eq_true rfl, Nat.le_of_ble_eq_true rfl⟩ rfl (fun _ _ => ?_)
        refine jk_iload K dL_act_548 0 rfl ?_
        refine jk_icmp_ne_F (tgt := 557) K dL_act_550 rfl rfl ?_
        refine jk_iconst (x := 1) K dL_act_553 rfl ?_
        refine jk_goto (tgt := 558) K dL_act_554 rfl ?_
        refine jk_ws (ws' := lw_W E q b1 b2 Y C2 G2 M2 (p, n, (va_up C a (hb_fu (C a) 1 (nI k531))), G, M)) (lw_congr (w5 rfl rfl rfl rfl rfl) (fun k _ => sm_N_up (f := (hb_fu ((sm_N C) a) 2 (nI k531))) (g := hb_fu (C a) 1 (nI k531)) rfl k) (fun _ _ => rfl)) ?_
        exact jk_iret K hz dL_act_558 (p, n, (va_up C a (hb_fu (C a) 1 (nI k531))), G, M) rfl ⟨rfl, (iv_w (iv_up hiv ha (iv_damp hiv ha (by omega))) (by omega)), ⟨Nat.le_refl n, fun q => absurd q (by omega)⟩⟩ rfl rfl (Nat.le_of_ble_eq_true rfl) (Nat.le_of_ble_eq_true rfl)
      have hC559 : jk_J Γ E (sm_S E (hb_cw E q b1 b2 C G M C2 G2 M2) Y p n (sm_G G) (sm_N C) (sm_M M)) 0 0 559 [(7, .ref (p (13 + a))), (6, .int (nI c)), (5, .int (nI a)), (4, .int (nI k12)), (3, .int (nI n)), (0, .ref q), (1, .ref (p 0)), (2, .int x)] [] := by
        refine jk_aload_n K dL_act_559 rfl 6 rfl ?_
        refine jk_get (C := RX4) (T := TX4) (N := 7) (nm := "haze") (ds := "I") (v := .int ((sm_G G) 1)) K dL_act_560 hin_RX4 (by decide +kernel) ((hb_cw E q b1 b2 C G M C2 G2 M2).length + 0) sm_0 rfl 1 rfl (by decide) rfl ?_
        refine jk_istore (lv' := [(11, .int ((sm_G G) 1)), (7, .ref (p (13 + a))), (6, .int (nI c)), (5, .int (nI a)), (4, .int (nI k12)), (3, .int (nI n)), (0, .ref q), (1, .ref (p 0)), (2, .int x)]) K dL_act_563 (by decide) rfl ?_
        refine jk_aload_n K dL_act_565 rfl 7 rfl ?_
        refine jk_iload_n K dL_act_566 rfl 8 rfl ?_
        refine jk_iconst (x := 2) K dL_act_567 rfl ?_
        refine jk_ishr K dL_act_568 ?_
        refine jk_iload_n K dL_act_569 rfl 8 rfl ?_
        refine jk_iconst (x := (nI 2)) K dL_act_570 rfl ?_
        refine jk_cSi K (n' := 0) (k' := 0) [.int x, .int (nI 2)] [.int (x >>> (2 &&& 31)), .ref (p 0)] dL_act_571 (hb_L_below _ hl E (sm_S E (hb_cw E q b1 b2 C G M C2 G2 M2) Y p n (sm_G G) (sm_N C) (sm_M M)) x 2 (by omega) (by omega)) gL_act_L_below rfl kd_L_below ⟨Nat.le_of_ble_eq_true rfl, Nat.le_of_ble_eq_true rfl⟩ (Nat.le_of_ble_eq_true rfl) ⟨rfl, rfl⟩ ⟨Nat.le_of_ble_eq_true rfl, Nat.le_of_ble_eq_true rfl⟩ rfl (fun k571 hk571 => ?_)
        refine jk_if_ne (tgt := 582) K dL_act_574 rfl (fun c_574 => ?_) (fun c_574 => ?_)
        · refine jk_iconst (x := (nI 4)) K dL_act_582 rfl ?_
          refine jk_cSi K (n' := 0) (k' := 0) [.int (x >>> (2 &&& 31)), .int (nI 4)] [.ref (p 0)] dL_act_583 (hb_L_below _ hl E (sm_S E (hb_cw E q b1 b2 C G M C2 G2 M2) Y p n (sm_G G) (sm_N C) (sm_M M)) (x >>> (2 &&& 31)) 4 (by omega) (by omega)) gL_act_L_below rfl kd_L_below ⟨Nat.le_of_ble_eq_true rfl, Nat.le_of_ble_eq_true rfl⟩ (Nat.le_of_ble_eq_true rfl) ⟨rfl, rfl⟩ ⟨Nat.le_of_ble_eq_true rfl, Nat.le_of_ble_eq_true rfl⟩ rfl (fun k583 hk583 => ?_)
          refine jk_put (C := RX4) (T := TX4) (N := 7) (nm := "haze") (ds := "I") (w' := (sm_S E (hb_cw E q b1 b2 C G M C2 G2 M2) Y p n (hb_fu (sm_G G) 1 (nI k583)) (sm_N C) (sm_M M))) K dL_act_586 hin_RX4 tyX4 tyX4_ok nmX4 (by decide +kernel) ((hb_cw E q b1 b2 C G M C2 G2 M2).length + 0) sm_0 rfl 1 rfl (by decide) rfl rfl rfl rfl (Nat.le_of_ble_eq_true rfl) (sm_s0 (S' := (hb_fu (sm_G G) 1 (nI k583))) rfl) ?_
          refine jk_aload_n K dL_act_589 rfl 6 rfl ?_
          refine jk_aload_n K dL_act_590 rfl 7 rfl ?_
          refine jk_get (C := RX4) (T := TX4) (N := 7) (nm := "haze") (ds := "I") (v := .int ((hb_fu (sm_G G) 1 (nI k583)) 1)) K dL_act_591 hin_RX4 (by decide +kernel) ((hb_cw E q b1 b2 C G M C2 G2 M2).length + 0) sm_0 rfl 1 rfl (by decide) rfl ?_
          refine jk_ws (ws' := (hb_v1 E q b1 b2 (sm_SW E p n (hb_fu (sm_G G) 1 (nI k583)) (sm_N C) (sm_M M) ++ Y) C G M C2 G2 M2)) lw_sw.symm ?_
          refine jk_cVi K (n' := 1) (k' := 6) [.int ((hb_fu (sm_G G) 1 (nI k583)) 1)] [] dL_act_594 (lc_setHaze _ hl E q b1 b2 (sm_SW E p n (hb_fu (sm_G G) 1 (nI k583)) (sm_N C) (sm_M M) ++ Y) C G M C2 G2 M2 n hn hg ((hb_fu (sm_G G) 1 (nI k583)) 1) (lw_bt (lo := 0) (hi := 9) (by omega) (by omega) (by decide))) gL_act_X2_setHaze rfl kd_X2_setHaze ⟨Nat.le_of_ble_eq_true rfl, Nat.le_of_ble_eq_true rfl⟩ 0 rfl rfl (Nat.le_of_ble_eq_true rfl) ⟨rfl, rfl⟩ ⟨Nat.le_of_ble_eq_true rfl, Nat.le_of_ble_eq_true rfl⟩ rfl (fun _ _ => ?_)
          refine jk_iload K dL_act_597 0 rfl ?_
          refine jk_icmp_ne_F (tgt := 606) K dL_act_599 rfl rfl ?_
          refine jk_iconst (x := 1) K dL_act_602 rfl ?_
          refine jk_goto (tgt := 607) K dL_act_603 rfl ?_
          refine jk_ws (ws' := lw_W E q b1 b2 Y C2 G2 M2 (p, n, C, (hb_fu G 1 ((hb_fu (sm_G G) 1 (nI k583)) 1)), M)) (lw_congr (w5 rfl rfl rfl rfl rfl) (fun _ _ => rfl) (fun _ _ => rfl)) ?_
          exact jk_iret K hz dL_act_607 (p, n, C, (hb_fu G 1 ((hb_fu (sm_G G) 1 (nI k583)) 1)), M) rfl ⟨rfl, (iv_w (iv_g1 hiv (by omega)) (by omega)), ⟨Nat.le_refl n, fun q => absurd q (by omega)⟩⟩ rfl rfl (Nat.le_of_ble_eq_true rfl) (Nat.le_of_ble_eq_true rfl)
        · refine jk_bipush (x := (nI 10)) K dL_act_577 rfl ?_
          refine jk_goto (tgt := 583) K dL_act_579 rfl ?_
          refine jk_cSi K (n' := 0) (k' := 0) [.int (x >>> (2 &&& 31)), .int (nI 10)] [.ref (p 0)] dL_act_583 (hb_L_below _ hl E (sm_S E (hb_cw E q b1 b2 C G M C2 G2 M2) Y p n (sm_G G) (sm_N C) (sm_M M)) (x >>> (2 &&& 31)) 10 (by omega) (by omega)) gL_act_L_below rfl kd_L_below ⟨Nat.le_of_ble_eq_true rfl, Nat.le_of_ble_eq_true rfl⟩ (Nat.le_of_ble_eq_true rfl) ⟨rfl, rfl⟩ ⟨Nat.le_of_ble_eq_true rfl, Nat.le_of_ble_eq_true rfl⟩ rfl (fun k583 hk583 => ?_)
          refine jk_put (C := RX4) (T := TX4) (N := 7) (nm := "haze") (ds := "I") (w' := (sm_S E (hb_cw E q b1 b2 C G M C2 G2 M2) Y p n (hb_fu (sm_G G) 1 (nI k583)) (sm_N C) (sm_M M))) K dL_act_586 hin_RX4 tyX4 tyX4_ok nmX4 (by decide +kernel) ((hb_cw E q b1 b2 C G M C2 G2 M2).length + 0) sm_0 rfl 1 rfl (by decide) rfl rfl rfl rfl (Nat.le_of_ble_eq_true rfl) (sm_s0 (S' := (hb_fu (sm_G G) 1 (nI k583))) rfl) ?_
          refine jk_aload_n K dL_act_589 rfl 6 rfl ?_
          refine jk_aload_n K dL_act_590 rfl 7 rfl ?_
          refine jk_get (C := RX4) (T := TX4) (N := 7) (nm := "haze") (ds := "I") (v := .int ((hb_fu (sm_G G) 1 (nI k583)) 1)) K dL_act_591 hin_RX4 (by decide +kernel) ((hb_cw E q b1 b2 C G M C2 G2 M2).length + 0) sm_0 rfl 1 rfl (by decide) rfl ?_
          refine jk_ws (ws' := (hb_v1 E q b1 b2 (sm_SW E p n (hb_fu (sm_G G) 1 (nI k583)) (sm_N C) (sm_M M) ++ Y) C G M C2 G2 M2)) lw_sw.symm ?_
          refine jk_cVi K (n' := 1) (k' := 6) [.int ((hb_fu (sm_G G) 1 (nI k583)) 1)] [] dL_act_594 (lc_setHaze _ hl E q b1 b2 (sm_SW E p n (hb_fu (sm_G G) 1 (nI k583)) (sm_N C) (sm_M M) ++ Y) C G M C2 G2 M2 n hn hg ((hb_fu (sm_G G) 1 (nI k583)) 1) (lw_bt (lo := 0) (hi := 9) (by omega) (by omega) (by decide))) gL_act_X2_setHaze rfl kd_X2_setHaze ⟨Nat.le_of_ble_eq_true rfl, Nat.le_of_ble_eq_true rfl⟩ 0 rfl rfl (Nat.le_of_ble_eq_true rfl) ⟨rfl, rfl⟩ ⟨Nat.le_of_ble_eq_true rfl, Nat.le_of_ble_eq_true rfl⟩ rfl (fun _ _ => ?_)
          refine jk_iload K dL_act_597 0 rfl ?_
          refine jk_icmp_ne_F (tgt := 606) K dL_act_599 rfl rfl ?_
          refine jk_iconst (x := 1) K dL_act_602 rfl ?_
          refine jk_goto (tgt := 607) K dL_act_603 rfl ?_
          refine jk_ws (ws' := lw_W E q b1 b2 Y C2 G2 M2 (p, n, C, (hb_fu G 1 ((hb_fu (sm_G G) 1 (nI k583)) 1)), M)) (lw_congr (w5 rfl rfl rfl rfl rfl) (fun _ _ => rfl) (fun _ _ => rfl)) ?_
          exact jk_iret K hz dL_act_607 (p, n, C, (hb_fu G 1 ((hb_fu (sm_G G) 1 (nI k583)) 1)), M) rfl ⟨rfl, (iv_w (iv_g1 hiv (by omega)) (by omega)), ⟨Nat.le_refl n, fun q => absurd q (by omega)⟩⟩ rfl rfl (Nat.le_of_ble_eq_true rfl) (Nat.le_of_ble_eq_true rfl)
      have hC608 : jk_J Γ E (sm_S E (hb_cw E q b1 b2 C G M C2 G2 M2) Y p n (sm_G G) (sm_N C) (sm_M M)) 0 0 608 [(7, .ref (p (13 + a))), (6, .int (nI c)), (5, .int (nI a)), (4, .int (nI k12)), (3, .int (nI n)), (0, .ref q), (1, .ref (p 0)), (2, .int x)] [] := by
        refine jk_aload K dL_act_608 0 rfl ?_
        refine jk_get (C := RX3) (T := TX3) (N := 11) (nm := "state") (ds := "I") (v := .int (((sm_N C) a) 6)) K dL_act_610 hin_RX3 (by decide +kernel) ((hb_cw E q b1 b2 C G M C2 G2 M2).length + (13 + a)) (sm_h ha) rfl 6 rfl (by decide) rfl ?_
        refine jk_if_ne (tgt := 624) K dL_act_613 rfl (fun c_613 => ?_) (fun c_613 => ?_)
        · refine jk_iconst (x := 1) K dL_act_624 rfl ?_
          refine jk_ws (ws' := (hb_v1 E q b1 b2 (sm_SW E p n (sm_G G) (sm_N C) (sm_M M) ++ Y) C G M C2 G2 M2)) lw_sw.symm ?_
          refine jk_ws (ws' := lw_W E q b1 b2 Y C2 G2 M2 (p, n, C, G, M)) (lw_congr (w5 rfl rfl rfl rfl rfl) (fun _ _ => rfl) (fun _ _ => rfl)) ?_
          exact jk_iret K hz dL_act_625 (p, n, C, G, M) rfl ⟨rfl, (iv_w hiv (by omega)), ⟨Nat.le_refl n, fun q => absurd q (by omega)⟩⟩ rfl rfl (Nat.le_of_ble_eq_true rfl) (Nat.le_of_ble_eq_true rfl)
        · refine jk_aload K dL_act_616 0 rfl ?_
          refine jk_get (C := RX3) (T := TX3) (N := 11) (nm := "wood") (ds := "I") (v := .int (((sm_N C) a) 1)) K dL_act_618 hin_RX3 (by decide +kernel) ((hb_cw E q b1 b2 C G M C2 G2 M2).length + (13 + a)) (sm_h ha) rfl 1 rfl (by decide) rfl ?_
          refine jk_if_ne (tgt := 626) K dL_act_621 rfl (fun c_621 => ?_) (fun c_621 => ?_)
          · have hr : ¬ hb_rdy (C a) = 0 := hb_rdy_iff.mpr ⟨c_613, iv_pos hiv ha c_621⟩
            refine jk_aload K dL_act_626 0 rfl ?_
            refine jk_iconst (x := 0) K dL_act_628 rfl ?_
            refine jk_put (C := RX3) (T := TX3) (N := 11) (nm := "answers") (ds := "I") (w' := (sm_S E (hb_cw E q b1 b2 C G M C2 G2 M2) Y p n (sm_G G) (va_up (sm_N C) a (hb_fu ((sm_N C) a) 10 0)) (sm_M M))) K dL_act_629 hin_RX3 tyX3 tyX3_ok nmX3 (by decide +kernel) ((hb_cw E q b1 b2 C G M C2 G2 M2).length + (13 + a)) (sm_h ha) rfl 10 rfl (by decide) rfl rfl rfl rfl (Nat.le_of_ble_eq_true rfl) (sm_sh (f := (hb_fu ((sm_N C) a) 10 0)) ha rfl) ?_
            refine jk_aload_n K dL_act_632 rfl 5 rfl ?_
            refine jk_iload K dL_act_633 2 rfl ?_
            refine jk_ws (ws' := (hb_v1 E q b1 b2 (sm_SW E p n (sm_G G) (va_up (sm_N C) a (hb_fu ((sm_N C) a) 10 0)) (sm_M M) ++ Y) C G M C2 G2 M2)) lw_sw.symm ?_
            refine jk_cVi K (n' := 2) (k' := 12) [.int (nI a)] [] dL_act_635 (lc_light _ hl E q b1 b2 (sm_SW E p n (sm_G G) (va_up (sm_N C) a (hb_fu ((sm_N C) a) 10 0)) (sm_M M) ++ Y) C G M C2 G2 M2 n hn hg a ha hr) gL_act_X2_light rfl kd_X2_light ⟨Nat.le_of_ble_eq_true rfl, Nat.le_of_ble_eq_true rfl⟩ 0 rfl rfl (Nat.le_of_ble_eq_true rfl) ⟨rfl, rfl⟩ ⟨Nat.le_of_ble_eq_true rfl, Nat.le_of_ble_eq_true rfl⟩ rfl (fun _ _ => ?_)
            refine jk_aload_n K dL_act_638 rfl 6 rfl ?_
            refine jk_aload K dL_act_639 0 rfl ?_
            refine jk_iload K dL_act_641 2 rfl ?_
            refine jk_ws (ws' := (sm_S E (hb_cw E q b1 b2 (hb_hC C a) (hb_kG G (nI a)) M C2 G2 M2) Y p n (sm_G G) (va_up (sm_N C) a (hb_fu ((sm_N C) a) 10 0)) (sm_M M))) lw_sw ?_
            refine jk_cVi K (n' := 2) (k' := 12) [.ref (p (13 + a)), .int (nI a)] [.int (hb_hC C a a 7)] dL_act_643 (hb_X4_light _ hl E (hb_cw E q b1 b2 (hb_hC C a) (hb_kG G (nI a)) M C2 G2 M2) Y p n hn (sm_G G) (va_up (sm_N C) a (hb_fu ((sm_N C) a) 10 0)) (sm_M M) a ha (nI a)) gL_act_X4_light rfl kd_X4_light ⟨Nat.le_of_ble_eq_true rfl, Nat.le_of_ble_eq_true rfl⟩ ((hb_cw E q b1 b2 (hb_hC C a) (hb_kG G (nI a)) M C2 G2 M2).length + 0) sm_0 rfl (Nat.le_of_ble_eq_true rfl) ⟨rfl, rfl⟩ ⟨Nat.le_of_ble_eq_true rfl, Nat.le_of_ble_eq_true rfl⟩ rfl (fun _ _ => ?_)
            refine jk_ws (ws' := (sm_S E (hb_cw E q b1 b2 (hb_hC C a) (hb_kG G (nI a)) M C2 G2 M2) Y p n (sm_kS (sm_G G) (nI a)) (va_up (sm_N C) a (sm_kF (hb_fu ((sm_N C) a) 10 0) (nI a))) (sm_M M))) (by rw [va_up_self, hb_up_up]) ?_
            refine jk_icmp_ne_F (tgt := 653) K dL_act_646 rfl (by unfold hb_hC; rw [va_up_self, va_up_self] <;> rfl) ?_
            refine jk_iconst (x := 1) K dL_act_649 rfl ?_
            refine jk_goto (tgt := 654) K dL_act_650 rfl ?_
            refine jk_ws (ws' := (hb_v1 E q b1 b2 (sm_SW E p n (sm_kS (sm_G G) (nI a)) (va_up (sm_N C) a (sm_kF (hb_fu ((sm_N C) a) 10 0) (nI a))) (sm_M M) ++ Y) (hb_hC C a) (hb_kG G (nI a)) M C2 G2 M2)) lw_sw.symm ?_
            refine jk_ws (ws' := lw_W E q b1 b2 Y C2 G2 M2 (p, n, (hb_hC C a), (hb_kG G (nI a)), M)) (lw_congr (sm_kS_G (fun _ _ => rfl) hn (Or.inr ⟨a, ha, rfl⟩)) (fun k _ => sm_N_up (f := (sm_kF (hb_fu ((sm_N C) a) 10 0) (nI a))) (g := hb_fu (hb_kindleF (C a) (nI a)) 10 0) (sm_hill_c (w11 rfl rfl rfl rfl rfl rfl rfl rfl rfl (sm_s_so hn (Or.inr ⟨a, ha, rfl⟩)).symm rfl)) k) (fun _ _ => rfl)) ?_
            exact jk_iret K hz dL_act_654 (p, n, (hb_hC C a), (hb_kG G (nI a)), M) rfl ⟨rfl, (iv_w (iv_light hiv ha hr) (by omega)), ⟨Nat.le_refl n, fun q => absurd q (by omega)⟩⟩ rfl rfl (Nat.le_of_ble_eq_true rfl) (Nat.le_of_ble_eq_true rfl)
          · refine jk_iconst (x := 1) K dL_act_624 rfl ?_
            refine jk_ws (ws' := (hb_v1 E q b1 b2 (sm_SW E p n (sm_G G) (sm_N C) (sm_M M) ++ Y) C G M C2 G2 M2)) lw_sw.symm ?_
            refine jk_ws (ws' := lw_W E q b1 b2 Y C2 G2 M2 (p, n, C, G, M)) (lw_congr (w5 rfl rfl rfl rfl rfl) (fun _ _ => rfl) (fun _ _ => rfl)) ?_
            exact jk_iret K hz dL_act_625 (p, n, C, G, M) rfl ⟨rfl, (iv_w hiv (by omega)), ⟨Nat.le_refl n, fun q => absurd q (by omega)⟩⟩ rfl rfl (Nat.le_of_ble_eq_true rfl) (Nat.le_of_ble_eq_true rfl)
      have hC655 : jk_J Γ E (sm_S E (hb_cw E q b1 b2 C G M C2 G2 M2) Y p n (sm_G G) (sm_N C) (sm_M M)) 0 0 655 [(7, .ref (p (13 + a))), (6, .int (nI c)), (5, .int (nI a)), (4, .int (nI k12)), (3, .int (nI n)), (0, .ref q), (1, .ref (p 0)), (2, .int x)] [] := by
        refine jk_aload K dL_act_655 0 rfl ?_
        refine jk_get (C := RX3) (T := TX3) (N := 11) (nm := "state") (ds := "I") (v := .int (((sm_N C) a) 6)) K dL_act_657 hin_RX3 (by decide +kernel) ((hb_cw E q b1 b2 C G M C2 G2 M2).length + (13 + a)) (sm_h ha) rfl 6 rfl (by decide) rfl ?_
        refine jk_if_eq (tgt := 671) K dL_act_660 rfl (fun c_660 => ?_) (fun c_660 => ?_)
        · refine jk_iconst (x := 1) K dL_act_671 rfl ?_
          refine jk_ws (ws' := (hb_v1 E q b1 b2 (sm_SW E p n (sm_G G) (sm_N C) (sm_M M) ++ Y) C G M C2 G2 M2)) lw_sw.symm ?_
          refine jk_ws (ws' := lw_W E q b1 b2 Y C2 G2 M2 (p, n, C, G, M)) (lw_congr (w5 rfl rfl rfl rfl rfl) (fun _ _ => rfl) (fun _ _ => rfl)) ?_
          exact jk_iret K hz dL_act_672 (p, n, C, G, M) rfl ⟨rfl, (iv_w hiv (by omega)), ⟨Nat.le_refl n, fun q => absurd q (by omega)⟩⟩ rfl rfl (Nat.le_of_ble_eq_true rfl) (Nat.le_of_ble_eq_true rfl)
        · refine jk_iload_n K dL_act_663 rfl 7 rfl ?_
          refine jk_iconst (x := (nI 2)) K dL_act_664 rfl ?_
          refine jk_cSi K (n' := 0) (k' := 0) [.int x, .int (nI 2)] [] dL_act_665 (hb_L_below _ hl E (sm_S E (hb_cw E q b1 b2 C G M C2 G2 M2) Y p n (sm_G G) (sm_N C) (sm_M M)) x 2 (by omega) (by omega)) gL_act_L_below rfl kd_L_below ⟨Nat.le_of_ble_eq_true rfl, Nat.le_of_ble_eq_true rfl⟩ (Nat.le_of_ble_eq_true rfl) ⟨rfl, rfl⟩ ⟨Nat.le_of_ble_eq_true rfl, Nat.le_of_ble_eq_true rfl⟩ rfl (fun k665 hk665 => ?_)
          refine jk_if_ne (tgt := 673) K dL_act_668 rfl (fun c_668 => ?_) (fun c_668 => ?_)
          · refine jk_aload K dL_act_673 0 rfl ?_
            refine jk_cVv K (n' := 0) (k' := 0) [] [] dL_act_675 (hb_X3_dark _ hl E (sm_S E (hb_cw E q b1 b2 C G M C2 G2 M2) Y p n (sm_G G) (sm_N C) (sm_M M)) ((hb_cw E q b1 b2 C G M C2 G2 M2).length + (13 + a)) (p (13 + a)) ((sm_N C) a) (sm_h ha)) gL_act_X3_dark rfl kd_X3_dark ⟨Nat.le_of_ble_eq_true rfl, Nat.le_of_ble_eq_true rfl⟩ ((hb_cw E q b1 b2 C G M C2 G2 M2).length + (13 + a)) (sm_h ha) rfl (Nat.le_of_ble_eq_true rfl) ⟨rfl, rfl⟩ ⟨Nat.le_of_ble_eq_true rfl, Nat.le_of_ble_eq_true rfl⟩ rfl (fun _ _ => ?_)
            refine jk_ws (ws' := (sm_S E (hb_cw E q b1 b2 C G M C2 G2 M2) Y p n (sm_G G) (va_up (sm_N C) a (sm_dF ((sm_N C) a))) (sm_M M))) (sm_sh (f := (sm_dF ((sm_N C) a))) ha rfl) ?_
            refine jk_aload_n K dL_act_678 rfl 5 rfl ?_
            refine jk_iload K dL_act_679 2 rfl ?_
            refine jk_ws (ws' := (hb_v1 E q b1 b2 (sm_SW E p n (sm_G G) (va_up (sm_N C) a (sm_dF ((sm_N C) a))) (sm_M M) ++ Y) C G M C2 G2 M2)) lw_sw.symm ?_
            refine jk_cVi K (n' := 2) (k' := 12) [.int (nI a)] [] dL_act_681 (lc_douse _ hl E q b1 b2 (sm_SW E p n (sm_G G) (va_up (sm_N C) a (sm_dF ((sm_N C) a))) (sm_M M) ++ Y) C G M C2 G2 M2 n hn hg a ha c_660) gL_act_X2_douse rfl kd_X2_douse ⟨Nat.le_of_ble_eq_true rfl, Nat.le_of_ble_eq_true rfl⟩ 0 rfl rfl (Nat.le_of_ble_eq_true rfl) ⟨rfl, rfl⟩ ⟨Nat.le_of_ble_eq_true rfl, Nat.le_of_ble_eq_true rfl⟩ rfl (fun _ _ => ?_)
            refine jk_aload K dL_act_684 0 rfl ?_
            refine jk_ws (ws' := (sm_S E (hb_cw E q b1 b2 (va_up C a (hb_darkF (C a))) G M C2 G2 M2) Y p n (sm_G G) (va_up (sm_N C) a (sm_dF ((sm_N C) a))) (sm_M M))) lw_sw ?_
            refine jk_get (C := RX3) (T := TX3) (N := 11) (nm := "wood") (ds := "I") (v := .int ((sm_dF ((sm_N C) a)) 1)) K dL_act_686 hin_RX3 (by decide +kernel) ((hb_cw E q b1 b2 (va_up C a (hb_darkF (C a))) G M C2 G2 M2).length + (13 + a)) (sm_hu ha) rfl 1 rfl (by decide) rfl ?_
            refine jk_icmp_ne_F (tgt := 696) K dL_act_689 rfl rfl ?_
            refine jk_iconst (x := 1) K dL_act_692 rfl ?_
            refine jk_goto (tgt := 697) K dL_act_693 rfl ?_
            refine jk_ws (ws' := (hb_v1 E q b1 b2 (sm_SW E p n (sm_G G) (va_up (sm_N C) a (sm_dF ((sm_N C) a))) (sm_M M) ++ Y) (va_up C a (hb_darkF (C a))) G M C2 G2 M2)) lw_sw.symm ?_
            refine jk_ws (ws' := lw_W E q b1 b2 Y C2 G2 M2 (p, n, (va_up C a (hb_darkF (C a))), G, M)) (lw_congr (w5 rfl rfl rfl rfl rfl) (fun k _ => sm_N_up (f := (sm_dF ((sm_N C) a))) (g := hb_darkF (C a)) (sm_hill_c (w11 rfl rfl rfl rfl rfl rfl rfl rfl rfl (by show (-1 : Int32) = sm_s (-2); decide) rfl)) k) (fun _ _ => rfl)) ?_
            exact jk_iret K hz dL_act_697 (p, n, (va_up C a (hb_darkF (C a))), G, M) rfl ⟨rfl, (iv_w (iv_up hiv ha (iv_douse hiv ha)) (by omega)), ⟨Nat.le_refl n, fun q => absurd q (by omega)⟩⟩ rfl rfl (Nat.le_of_ble_eq_true rfl) (Nat.le_of_ble_eq_true rfl)
          · refine jk_iconst (x := 1) K dL_act_671 rfl ?_
            refine jk_ws (ws' := (hb_v1 E q b1 b2 (sm_SW E p n (sm_G G) (sm_N C) (sm_M M) ++ Y) C G M C2 G2 M2)) lw_sw.symm ?_
            refine jk_ws (ws' := lw_W E q b1 b2 Y C2 G2 M2 (p, n, C, G, M)) (lw_congr (w5 rfl rfl rfl rfl rfl) (fun _ _ => rfl) (fun _ _ => rfl)) ?_
            exact jk_iret K hz dL_act_672 (p, n, C, G, M) rfl ⟨rfl, (iv_w hiv (by omega)), ⟨Nat.le_refl n, fun q => absurd q (by omega)⟩⟩ rfl rfl (Nat.le_of_ble_eq_true rfl) (Nat.le_of_ble_eq_true rfl)
      have hC698 : jk_J Γ E (sm_S E (hb_cw E q b1 b2 C G M C2 G2 M2) Y p n (sm_G G) (sm_N C) (sm_M M)) 0 0 698 [(7, .ref (p (13 + a))), (6, .int (nI c)), (5, .int (nI a)), (4, .int (nI k12)), (3, .int (nI n)), (0, .ref q), (1, .ref (p 0)), (2, .int x)] [] := by
        refine jk_aload_n K dL_act_698 rfl 6 rfl ?_
        refine jk_get (C := RX4) (T := TX4) (N := 7) (nm := "glow") (ds := "I") (v := .int ((sm_G G) 2)) K dL_act_699 hin_RX4 (by decide +kernel) ((hb_cw E q b1 b2 C G M C2 G2 M2).length + 0) sm_0 rfl 2 rfl (by decide) rfl ?_
        refine jk_istore (lv' := [(12, .int ((sm_G G) 2)), (7, .ref (p (13 + a))), (6, .int (nI c)), (5, .int (nI a)), (4, .int (nI k12)), (3, .int (nI n)), (0, .ref q), (1, .ref (p 0)), (2, .int x)]) K dL_act_702 (by decide) rfl ?_
        refine jk_aload_n K dL_act_704 rfl 7 rfl ?_
        refine jk_iload_n K dL_act_705 rfl 8 rfl ?_
        refine jk_iconst (x := 3) K dL_act_706 rfl ?_
        refine jk_ishr K dL_act_707 ?_
        refine jk_bipush (x := (nI 31)) K dL_act_708 rfl ?_
        refine jk_cSi K (n' := 0) (k' := 0) [.int (x >>> (3 &&& 31)), .int (nI 31)] [.ref (p 0)] dL_act_710 (hb_L_below _ hl E (sm_S E (hb_cw E q b1 b2 C G M C2 G2 M2) Y p n (sm_G G) (sm_N C) (sm_M M)) (x >>> (3 &&& 31)) 31 (by omega) (by omega)) gL_act_L_below rfl kd_L_below ⟨Nat.le_of_ble_eq_true rfl, Nat.le_of_ble_eq_true rfl⟩ (Nat.le_of_ble_eq_true rfl) ⟨rfl, rfl⟩ ⟨Nat.le_of_ble_eq_true rfl, Nat.le_of_ble_eq_true rfl⟩ rfl (fun k710 hk710 => ?_)
        refine jk_put (C := RX4) (T := TX4) (N := 7) (nm := "glow") (ds := "I") (w' := (sm_S E (hb_cw E q b1 b2 C G M C2 G2 M2) Y p n (hb_fu (sm_G G) 2 (nI k710)) (sm_N C) (sm_M M))) K dL_act_713 hin_RX4 tyX4 tyX4_ok nmX4 (by decide +kernel) ((hb_cw E q b1 b2 C G M C2 G2 M2).length + 0) sm_0 rfl 2 rfl (by decide) rfl rfl rfl rfl (Nat.le_of_ble_eq_true rfl) (sm_s0 (S' := (hb_fu (sm_G G) 2 (nI k710))) rfl) ?_
        refine jk_aload_n K dL_act_716 rfl 6 rfl ?_
        refine jk_aload_n K dL_act_717 rfl 7 rfl ?_
        refine jk_get (C := RX4) (T := TX4) (N := 7) (nm := "glow") (ds := "I") (v := .int ((hb_fu (sm_G G) 2 (nI k710)) 2)) K dL_act_718 hin_RX4 (by decide +kernel) ((hb_cw E q b1 b2 C G M C2 G2 M2).length + 0) sm_0 rfl 2 rfl (by decide) rfl ?_
        refine jk_ws (ws' := (hb_v1 E q b1 b2 (sm_SW E p n (hb_fu (sm_G G) 2 (nI k710)) (sm_N C) (sm_M M) ++ Y) C G M C2 G2 M2)) lw_sw.symm ?_
        refine jk_cVi K (n' := 1) (k' := 6) [.int ((hb_fu (sm_G G) 2 (nI k710)) 2)] [] dL_act_721 (lc_glow _ hl E q b1 b2 (sm_SW E p n (hb_fu (sm_G G) 2 (nI k710)) (sm_N C) (sm_M M) ++ Y) C G M C2 G2 M2 n hn hg ((hb_fu (sm_G G) 2 (nI k710)) 2) (lw_bt (lo := 0) (hi := 30) (by omega) (by omega) (by decide))) gL_act_X2_glow rfl kd_X2_glow ⟨Nat.le_of_ble_eq_true rfl, Nat.le_of_ble_eq_true rfl⟩ 0 rfl rfl (Nat.le_of_ble_eq_true rfl) ⟨rfl, rfl⟩ ⟨Nat.le_of_ble_eq_true rfl, Nat.le_of_ble_eq_true rfl⟩ rfl (fun _ _ => ?_)
        refine jk_iload K dL_act_724 0 rfl ?_
        refine jk_icmp_ne_F (tgt := 733) K dL_act_726 rfl rfl ?_
        refine jk_iconst (x := 1) K dL_act_729 rfl ?_
        refine jk_goto (tgt := 734) K dL_act_730 rfl ?_
        refine jk_ws (ws' := lw_W E q b1 b2 Y C2 G2 M2 (p, n, C, (hb_fu G 2 ((hb_fu (sm_G G) 2 (nI k710)) 2)), M)) (lw_congr (w5 rfl rfl rfl rfl rfl) (fun _ _ => rfl) (fun _ _ => rfl)) ?_
        exact jk_iret K hz dL_act_734 (p, n, C, (hb_fu G 2 ((hb_fu (sm_G G) 2 (nI k710)) 2)), M) rfl ⟨rfl, (iv_w (iv_g2 hiv (by omega)) (by omega)), ⟨Nat.le_refl n, fun q => absurd q (by omega)⟩⟩ rfl rfl (Nat.le_of_ble_eq_true rfl) (Nat.le_of_ble_eq_true rfl)
      have hM : ∀ k753 : Nat, k753 < 40 → jk_J Γ E (sm_S E (hb_cw E q b1 b2 C G M C2 G2 M2) Y p n (sm_G G) (sm_N C) (sm_M M)) 0 0 757 [(7, .ref (p (13 + a))), (6, .int (nI c)), (5, .int (nI a)), (4, .int (nI k12)), (3, .int (nI n)), (0, .ref q), (1, .ref (p 0)), (2, .int x)] [.int (nI (1 + k753))] := by
        intro k753 hk753
        refine jk_istore (lv' := [(13, .int (nI (1 + k753))), (7, .ref (p (13 + a))), (6, .int (nI c)), (5, .int (nI a)), (4, .int (nI k12)), (3, .int (nI n)), (0, .ref q), (1, .ref (p 0)), (2, .int x)]) K dL_act_757 (by decide) rfl ?_
        refine jk_aload_n K dL_act_759 rfl 7 rfl ?_
        refine jk_get (C := RX4) (T := TX4) (N := 7) (nm := "lit") (ds := "I") (v := .int ((sm_G G) 3)) K dL_act_760 hin_RX4 (by decide +kernel) ((hb_cw E q b1 b2 C G M C2 G2 M2).length + 0) sm_0 rfl 3 rfl (by decide) rfl ?_
        refine jk_istore (lv' := [(14, .int ((sm_G G) 3)), (13, .int (nI (1 + k753))), (7, .ref (p (13 + a))), (6, .int (nI c)), (5, .int (nI a)), (4, .int (nI k12)), (3, .int (nI n)), (0, .ref q), (1, .ref (p 0)), (2, .int x)]) K dL_act_763 (by decide) rfl ?_
        refine jk_iconst (x := 0) K dL_act_765 rfl ?_
        refine jk_istore (lv' := [(15, .int 0), (14, .int ((sm_G G) 3)), (13, .int (nI (1 + k753))), (7, .ref (p (13 + a))), (6, .int (nI c)), (5, .int (nI a)), (4, .int (nI k12)), (3, .int (nI n)), (0, .ref q), (1, .ref (p 0)), (2, .int x)]) K dL_act_766 (by decide) rfl ?_
        have hP : ∀ j, j ≤ 1 + k753 → jk_J Γ E (sm_S E (hb_cw E q b1 b2 C G M C2 G2 M2) Y p n (sm_G (hb_pm C G M n j).2) (sm_N (hb_pm C G M n j).1) (sm_M M)) (2 * j) (20 * j) 768 [(15, .int (nI j)), (14, .int (sm_G G 3)), (13, .int (nI (1 + k753))), (7, .ref (p (13 + a))), (6, .int (nI c)), (5, .int (nI a)), (4, .int (nI k12)), (3, .int (nI n)), (0, .ref q), (1, .ref (p 0)), (2, .int x)] [] := by
          refine jk_loop (fun j hj ih => ?_)
          refine jk_iload K dL_act_768 0 rfl ?_
          refine jk_iload K dL_act_770 2 rfl ?_
          refine jk_icmp_ge (tgt := 785) K dL_act_772 rfl (fun c_772 => ?_) (fun c_772 => ?_)
          · have hjn : j = 1 + k753 := hb_ex (n := 1 + k753) rfl (by omega) hj c_772
            refine jk_ws (ws' := (sm_S E (hb_cw E q b1 b2 C G M C2 G2 M2) Y p n (sm_G (hb_pm C G M n (1 + k753)).2) (sm_N (hb_pm C G M n (1 + k753)).1) (sm_M M))) (by rw [hjn]) ?_
            refine jk_aload_n K dL_act_785 rfl 8 rfl ?_
            refine jk_iload K dL_act_786 2 rfl ?_
            refine jk_ws (ws' := (hb_v1 E q b1 b2 (sm_SW E p n (sm_G (hb_pm C G M n (1 + k753)).2) (sm_N (hb_pm C G M n (1 + k753)).1) (sm_M M) ++ Y) C G M C2 G2 M2)) lw_sw.symm ?_
            refine jk_cVi K (n' := ((2 * j) + 1)) (k' := ((20 * j) + 6)) [.int (nI (1 + k753))] [] dL_act_788 (lc_passMinutes _ hl E q b1 b2 (sm_SW E p n (sm_G (hb_pm C G M n (1 + k753)).2) (sm_N (hb_pm C G M n (1 + k753)).1) (sm_M M) ++ Y) C G M C2 G2 M2 n hn hg (1 + k753) (by omega) (by omega)) gL_act_X2_passMinutes rfl kd_X2_passMinutes ⟨Nat.le_of_ble_eq_true rfl, Nat.le_of_ble_eq_true rfl⟩ 0 rfl rfl (Nat.le_of_ble_eq_true rfl) ⟨rfl, rfl⟩ ⟨(by show _ ≤ 81; omega), (by show _ ≤ 806; omega)⟩ rfl (fun _ _ => ?_)
            refine jk_aload_n K dL_act_791 rfl 9 rfl ?_
            refine jk_ws (ws' := (sm_S E (hb_cw E q b1 b2 (hb_pm C G M n (1 + k753)).1 (hb_pm C G M n (1 + k753)).2 M C2 G2 M2) Y p n (sm_G (hb_pm C G M n (1 + k753)).2) (sm_N (hb_pm C G M n (1 + k753)).1) (sm_M M))) lw_sw ?_
            refine jk_get (C := RX4) (T := TX4) (N := 7) (nm := "lit") (ds := "I") (v := .int ((sm_G (hb_pm C G M n (1 + k753)).2) 3)) K dL_act_792 hin_RX4 (by decide +kernel) ((hb_cw E q b1 b2 (hb_pm C G M n (1 + k753)).1 (hb_pm C G M n (1 + k753)).2 M C2 G2 M2).length + 0) sm_0 rfl 3 rfl (by decide) rfl ?_
            refine jk_iload K dL_act_795 1 rfl ?_
            refine jk_isub K dL_act_797 ?_
            refine jk_icmp_ne_F (tgt := 805) K dL_act_798 rfl rfl ?_
            refine jk_iconst (x := 1) K dL_act_801 rfl ?_
            refine jk_goto (tgt := 806) K dL_act_802 rfl ?_
            refine jk_ws (ws' := (hb_v1 E q b1 b2 (sm_SW E p n (sm_G (hb_pm C G M n (1 + k753)).2) (sm_N (hb_pm C G M n (1 + k753)).1) (sm_M M) ++ Y) (hb_pm C G M n (1 + k753)).1 (hb_pm C G M n (1 + k753)).2 M C2 G2 M2)) lw_sw.symm ?_
            refine jk_ws (ws' := lw_W E q b1 b2 Y C2 G2 M2 (p, n, (hb_pm C G M n (1 + k753)).1, (hb_pm C G M n (1 + k753)).2, M)) (lw_congr (w5 rfl rfl rfl rfl rfl) (fun _ _ => rfl) (fun _ _ => rfl)) ?_
            exact jk_iret K hz dL_act_806 (p, n, (hb_pm C G M n (1 + k753)).1, (hb_pm C G M n (1 + k753)).2, M) rfl ⟨rfl, (iv_w (hb_pm_iv hiv (1 + k753)) (by omega)), ⟨Nat.le_refl n, fun q => absurd q (by omega)⟩⟩ rfl rfl ((by show _ ≤ 81; omega)) ((by show _ ≤ 806; omega))
          · have hlt : j < 1 + k753 := hb_in (n := 1 + k753) rfl (by omega) hj c_772
            refine jk_aload_n K dL_act_775 rfl 9 rfl ?_
            refine jk_cVv K (n' := ((2 * j) + 2)) (k' := ((20 * j) + 20)) [] [] dL_act_776 (hb_X4_pass _ hl E (hb_cw E q b1 b2 C G M C2 G2 M2) Y p n hn (sm_G (hb_pm C G M n j).2) (sm_N (hb_pm C G M n j).1) (sm_M M) (sm_no_N _ n) (sm_so_N (hb_pm_iv hiv j))) gL_act_X4_pass rfl kd_X4_pass ⟨Nat.le_of_ble_eq_true rfl, Nat.le_of_ble_eq_true rfl⟩ ((hb_cw E q b1 b2 C G M C2 G2 M2).length + 0) sm_0 rfl (Nat.le_of_ble_eq_true rfl) ⟨rfl, rfl⟩ ⟨(by show _ ≤ 81; omega), (by show _ ≤ 806; omega)⟩ rfl (fun _ _ => ?_)
            refine jk_ws (ws' := (sm_S E (hb_cw E q b1 b2 C G M C2 G2 M2) Y p n (sm_G (hb_pm C G M n (j + 1)).2) (sm_N (hb_pm C G M n (j + 1)).1) (sm_M M))) (sm_congr (sm_paS_v (hb_pm_iv hiv j)) (fun i hi => sm_paN_v (hb_pm_iv hiv j) hi) (fun _ _ => rfl)) ?_
            refine jk_iinc (v := (nI (j + 1))) (lv' := [(15, .int (nI (j + 1))), (14, .int (sm_G G 3)), (13, .int (nI (1 + k753))), (7, .ref (p (13 + a))), (6, .int (nI c)), (5, .int (nI a)), (4, .int (nI k12)), (3, .int (nI n)), (0, .ref q), (1, .ref (p 0)), (2, .int x)]) K dL_act_779 0 rfl (nI_1 j) (by decide) rfl ?_
            refine jk_goto (tgt := 768) K dL_act_782 rfl ?_
            refine jk_wide (n' := 2 * (j + 1)) (k' := 20 * (j + 1)) (by omega) (by omega) ?_
            exact ih hlt
        refine jk_wide (n' := 2 * 0) (k' := 20 * 0) (by omega) (by omega) ?_
        refine jk_lv (lv' := [(15, .int (nI 0)), (14, .int (sm_G G 3)), (13, .int (nI (1 + k753))), (7, .ref (p (13 + a))), (6, .int (nI c)), (5, .int (nI a)), (4, .int (nI k12)), (3, .int (nI n)), (0, .ref q), (1, .ref (p 0)), (2, .int x)]) (by first | rfl | (simp [c_19, c_25]; done)) ?_
        refine jk_ws (ws' := (sm_S E (hb_cw E q b1 b2 C G M C2 G2 M2) Y p n (sm_G (hb_pm C G M n 0).2) (sm_N (hb_pm C G M n 0).1) (sm_M M))) rfl ?_
        exact hP 0 (Nat.zero_le _)
      have hC735 : jk_J Γ E (sm_S E (hb_cw E q b1 b2 C G M C2 G2 M2) Y p n (sm_G G) (sm_N C) (sm_M M)) 0 0 735 [(7, .ref (p (13 + a))), (6, .int (nI c)), (5, .int (nI a)), (4, .int (nI k12)), (3, .int (nI n)), (0, .ref q), (1, .ref (p 0)), (2, .int x)] [] := by
        refine jk_iconst (x := (nI 1)) K dL_act_735 rfl ?_
        refine jk_iload_n K dL_act_736 rfl 7 rfl ?_
        refine jk_iconst (x := 2) K dL_act_737 rfl ?_
        refine jk_ishr K dL_act_738 ?_
        refine jk_iload_n K dL_act_739 rfl 7 rfl ?_
        refine jk_iconst (x := (nI 5)) K dL_act_740 rfl ?_
        refine jk_cSi K (n' := 0) (k' := 0) [.int x, .int (nI 5)] [.int (x >>> (2 &&& 31)), .int (nI 1)] dL_act_741 (hb_L_below _ hl E (sm_S E (hb_cw E q b1 b2 C G M C2 G2 M2) Y p n (sm_G G) (sm_N C) (sm_M M)) x 5 (by omega) (by omega)) gL_act_L_below rfl kd_L_below ⟨Nat.le_of_ble_eq_true rfl, Nat.le_of_ble_eq_true rfl⟩ (Nat.le_of_ble_eq_true rfl) ⟨rfl, rfl⟩ ⟨Nat.le_of_ble_eq_true rfl, Nat.le_of_ble_eq_true rfl⟩ rfl (fun k741 hk741 => ?_)
        refine jk_if_ne (tgt := 752) K dL_act_744 rfl (fun c_744 => ?_) (fun c_744 => ?_)
        · refine jk_iconst (x := (nI 4)) K dL_act_752 rfl ?_
          refine jk_cSi K (n' := 0) (k' := 0) [.int (x >>> (2 &&& 31)), .int (nI 4)] [.int (nI 1)] dL_act_753 (hb_L_below _ hl E (sm_S E (hb_cw E q b1 b2 C G M C2 G2 M2) Y p n (sm_G G) (sm_N C) (sm_M M)) (x >>> (2 &&& 31)) 4 (by omega) (by omega)) gL_act_L_below rfl kd_L_below ⟨Nat.le_of_ble_eq_true rfl, Nat.le_of_ble_eq_true rfl⟩ (Nat.le_of_ble_eq_true rfl) ⟨rfl, rfl⟩ ⟨Nat.le_of_ble_eq_true rfl, Nat.le_of_ble_eq_true rfl⟩ rfl (fun k753 hk753 => ?_)
          refine jk_iadd K dL_act_756 ?_
          refine jk_st (st' := [.int (nI (1 + k753))]) (by rw [nI_add]) ?_
          exact hM k753 (by omega)
        · refine jk_bipush (x := (nI 40)) K dL_act_747 rfl ?_
          refine jk_goto (tgt := 753) K dL_act_749 rfl ?_
          refine jk_cSi K (n' := 0) (k' := 0) [.int (x >>> (2 &&& 31)), .int (nI 40)] [.int (nI 1)] dL_act_753 (hb_L_below _ hl E (sm_S E (hb_cw E q b1 b2 C G M C2 G2 M2) Y p n (sm_G G) (sm_N C) (sm_M M)) (x >>> (2 &&& 31)) 40 (by omega) (by omega)) gL_act_L_below rfl kd_L_below ⟨Nat.le_of_ble_eq_true rfl, Nat.le_of_ble_eq_true rfl⟩ (Nat.le_of_ble_eq_true rfl) ⟨rfl, rfl⟩ ⟨Nat.le_of_ble_eq_true rfl, Nat.le_of_ble_eq_true rfl⟩ rfl (fun k753 hk753 => ?_)
          refine jk_iadd K dL_act_756 ?_
          refine jk_st (st' := [.int (nI (1 + k753))]) (by rw [nI_add]) ?_
          exact hM k753 (by omega)
      rcases (show k12 = 3 ∨ k12 = 4 ∨ k12 = 5 ∨ k12 = 6 ∨ k12 = 7 ∨ k12 = 8 ∨ k12 = 9 ∨ k12 = 10 ∨ k12 = 11 ∨ k12 = 12 ∨ k12 = 13 ∨ k12 = 14 ∨ k12 = 15 ∨ k12 = 16 ∨ k12 = 17 ∨ k12 = 18 ∨ 18 < k12 by omega) with rfl | rfl | rfl | rfl | rfl | rfl | rfl | rfl | rfl | rfl | rfl | rfl | rfl | rfl | rfl | rfl | z
      · exact jk_tableIn (off := 79) (tgt := 296) K dL_act_217 (by decide) (by decide) rfl (by decide) hC296
      · exact jk_tableIn (off := 79) (tgt := 296) K dL_act_217 (by decide) (by decide) rfl (by decide) hC296
      · exact jk_tableIn (off := 79) (tgt := 296) K dL_act_217 (by decide) (by decide) rfl (by decide) hC296
      · exact jk_tableIn (off := 79) (tgt := 296) K dL_act_217 (by decide) (by decide) rfl (by decide) hC296
      · exact jk_tableIn (off := 79) (tgt := 296) K dL_act_217 (by decide) (by decide) rfl (by decide) hC296
      · exact jk_tableIn (off := 159) (tgt := 376) K dL_act_217 (by decide) (by decide) rfl (by decide) hC376
      · exact jk_tableIn (off := 197) (tgt := 414) K dL_act_217 (by decide) (by decide) rfl (by decide) hC414
      · exact jk_tableIn (off := 197) (tgt := 414) K dL_act_217 (by decide) (by decide) rfl (by decide) hC414
      · exact jk_tableIn (off := 235) (tgt := 452) K dL_act_217 (by decide) (by decide) rfl (by decide) hC452
      · exact jk_tableIn (off := 300) (tgt := 517) K dL_act_217 (by decide) (by decide) rfl (by decide) hC517
      · exact jk_tableIn (off := 342) (tgt := 559) K dL_act_217 (by decide) (by decide) rfl (by decide) hC559
      · exact jk_tableIn (off := 391) (tgt := 608) K dL_act_217 (by decide) (by decide) rfl (by decide) hC608
      · exact jk_tableIn (off := 391) (tgt := 608) K dL_act_217 (by decide) (by decide) rfl (by decide) hC608
      · exact jk_tableIn (off := 391) (tgt := 608) K dL_act_217 (by decide) (by decide) rfl (by decide) hC608
      · exact jk_tableIn (off := 438) (tgt := 655) K dL_act_217 (by decide) (by decide) rfl (by decide) hC655
      · exact jk_tableIn (off := 481) (tgt := 698) K dL_act_217 (by decide) (by decide) rfl (by decide) hC698
      · exact jk_tableOut (tgt := 735) K dL_act_217 (Or.inr (by rw [nI_toInt (by omega)]; omega)) (by decide) hC735
    · exact hAdd k12
