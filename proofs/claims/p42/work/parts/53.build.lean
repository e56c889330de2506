theorem kd_L_act : yL_act.cls ≠ "java/lang/invoke/MethodHandle" ∧ yL_act.cls ≠ "java/lang/invoke/VarHandle" ∧ (parseMethodDescriptor yL_act.desc).map (fun d => d.parameters.length) = some 3 := by decide +kernel
theorem kd_L_cell : yL_cell.cls ≠ "java/lang/invoke/MethodHandle" ∧ yL_cell.cls ≠ "java/lang/invoke/VarHandle" ∧ (parseMethodDescriptor yL_cell.desc).map (fun d => d.parameters.length) = some 2 := by decide +kernel
theorem lw_W0 {E : jk_T} {q : Nat} {b1 b2 : Nat → Nat} {C2 : Nat → Nat → Int32} {G2 M2 : Nat → Int32} {p : Nat → Nat} : sm_S E (hb_v1 E q b1 b2 [] (fun _ => hb_f0) (fun _ => 0) (fun _ => 0) C2 G2 M2) [] p 0 (fun _ => 0) (sm_N (fun _ => hb_f0)) (fun _ _ => 0) = lw_W E q b1 b2 [] C2 G2 M2 (p, 0, (fun _ => hb_f0), (fun _ => 0), (fun _ => 0)) := by
  have e : sm_S E (hb_v1 E q b1 b2 [] (fun _ => hb_f0) (fun _ => 0) (fun _ => 0) C2 G2 M2) [] p 0 (fun _ => 0) (sm_N (fun _ => hb_f0)) (fun _ _ => 0) = sm_S E (hb_v1 E q b1 b2 [] (fun _ => hb_f0) (fun _ => 0) (fun _ => 0) C2 G2 M2) [] p 0 (sm_G (fun _ => 0)) (sm_N (fun _ => hb_f0)) (sm_M (fun _ => 0)) := sm_congr (w5 rfl rfl rfl rfl rfl) (fun _ _ => rfl) (fun i _ => by
    funext b
    unfold sm_M
    split <;> rfl)
  rw [e]
  unfold sm_S
  rw [lw_cw, List.append_nil]
  exact lw_cw.symm
theorem iv_0 : iv 0 (400 * 0) (fun _ => hb_f0) (fun _ => 0) (fun _ => 0) := ⟨by decide, fun i hi => absurd hi (by omega), fun i _ _ => ⟨rfl, rfl, rfl, rfl, rfl, rfl, rfl⟩, ⟨rfl, ⟨0, by decide, rfl⟩, ⟨0, by decide, rfl⟩, 0, 0, Nat.le_refl 0, Nat.zero_le _, rfl, rfl⟩, fun a b _ _ => ⟨rfl, ⟨0, by decide, rfl⟩, fun _ => rfl⟩⟩
set_option maxHeartbeats 4000000 in
set_option maxRecDepth 100000 in
theorem hb_L_build (l : Launch) (hl : l.stackTraces = false) (E : jk_T) (hL : E.1.2.2.1 ≤ 260) (q : Nat) (b1 b2 : Nat → Nat) (C2 : Nat → Nat → Int32) (G2 M2 : Nat → Int32) : jk_Ct l yL_build wsL_build ({ frames := 11, cells := 5440, slots := 54119, locals := 211 } : Room) [.ref q, .ref E.1.2.1] E (hb_v1 E q b1 b2 [] (fun _ => hb_f0) (fun _ => 0) (fun _ => 0) C2 G2 M2) (fun u : lw_LS => some (.ref (u.1 0))) (lw_W E q b1 b2 [] C2 G2 M2) (fun u => iv u.2.1 30000 u.2.2.1 u.2.2.2.1 u.2.2.2.2 ∧ 2 ≤ u.2.1) := by
  refine jk_of (lv := [(0, .ref q), (1, .ref E.1.2.1)]) (own := RL) (nm := "build") hl (by decide +kernel) rfl (Nat.le_of_ble_eq_true rfl) rfl rfl rfl (fun Γ hΓ K hnm hz => ?_)
  subst hΓ
  refine jk_new (C := RX4) (T := TX4) (N := 7) (ci := 4) (fs := [.int 0, .int 0, .int 0, .int 0, .int 0, .null, .null]) K dL_build_0 (by decide +kernel) tyX4 tyX4_ok (by decide +kernel) (by decide +kernel) (by decide +kernel) rfl df4 (Nat.le_of_ble_eq_true rfl) (Nat.le_of_ble_eq_true rfl) (fun o => ?_)
  refine jk_dup K dL_build_3 rfl ?_
  refine jk_cIN K (n' := 13) (k' := 117) [] [.ref o] dL_build_4 (hb_X4_init _ hl E (hb_v1 E q b1 b2 [] (fun _ => hb_f0) (fun _ => 0) (fun _ => 0) C2 G2 M2) o (sm_N (fun _ => hb_f0))) gL_build_X4_init_n109 rfl K.2.2.2.2.2.2.2.2.2.1.2.2.2.2.2.2.2.2.2.2.1 ⟨by decide +kernel, by decide +kernel⟩ rfl (by decide +kernel) ⟨Nat.le_of_ble_eq_true rfl, Nat.le_of_ble_eq_true rfl⟩ (Nat.le_of_ble_eq_true rfl) ⟨rfl, rfl⟩ ⟨(Nat.le_of_ble_eq_true rfl), (Nat.le_of_ble_eq_true rfl)⟩ rfl (fun p hp => ?_)
  subst hp
  refine jk_ws (ws' := lw_W E q b1 b2 [] C2 G2 M2 ((p, 0, (fun _ => hb_f0), (fun _ => 0), (fun _ => 0)) : lw_LS)) lw_W0 ?_
  refine jk_astore_n (lv' := [(2, .ref (p 0)), (0, .ref q), (1, .ref E.1.2.1)]) K dL_build_7 rfl (by decide) rfl ?_
  refine jk_bipush (x := (nI 24)) K dL_build_8 rfl ?_
  refine jk_aload_n K dL_build_10 rfl 2 rfl ?_
  refine jk_iconst (x := (nI 0)) K dL_build_11 rfl ?_
  refine jk_cSi K (n' := 13) (k' := 117) [.ref E.1.2.1, .int (nI 0)] [.int (nI 24)] dL_build_12 (hb_L_cell _ hl E (hb_v1 E q b1 b2 (sm_SW E p 0 (sm_G (fun _ => 0)) (sm_N (fun _ => hb_f0)) (sm_M (fun _ => 0)) ++ []) (fun _ => hb_f0) (fun _ => 0) (fun _ => 0) C2 G2 M2) hL (nI 0) (nI_pos (by omega))) gL_build_L_cell rfl kd_L_cell ⟨Nat.le_of_ble_eq_true rfl, Nat.le_of_ble_eq_true rfl⟩ (Nat.le_of_ble_eq_true rfl) ⟨rfl, rfl⟩ ⟨Nat.le_of_ble_eq_true rfl, Nat.le_of_ble_eq_true rfl⟩ rfl (fun v12 _ => ?_)
  refine jk_bipush (x := (nI 44)) K dL_build_15 rfl ?_
  refine jk_cSi K (n' := 13) (k' := 117) [.int v12, .int (nI 44)] [.int (nI 24)] dL_build_17 (hb_L_below _ hl E (hb_v1 E q b1 b2 (sm_SW E p 0 (sm_G (fun _ => 0)) (sm_N (fun _ => hb_f0)) (sm_M (fun _ => 0)) ++ []) (fun _ => hb_f0) (fun _ => 0) (fun _ => 0) C2 G2 M2) v12 44 (by omega) (by omega)) gL_build_L_below rfl kd_L_below ⟨Nat.le_of_ble_eq_true rfl, Nat.le_of_ble_eq_true rfl⟩ (Nat.le_of_ble_eq_true rfl) ⟨rfl, rfl⟩ ⟨Nat.le_of_ble_eq_true rfl, Nat.le_of_ble_eq_true rfl⟩ rfl (fun k17 hk17 => ?_)
  refine jk_iadd K dL_build_20 ?_
  refine jk_st (st' := [.int (nI (24 + k17))]) (by rw [nI_add]) ?_
  refine jk_istore_n (lv' := [(3, .int (nI (24 + k17))), (2, .ref (p 0)), (0, .ref q), (1, .ref E.1.2.1)]) K dL_build_21 rfl (by decide) rfl ?_
  refine jk_iconst (x := 0) K dL_build_22 rfl ?_
  refine jk_istore (lv' := [(4, .int 0), (3, .int (nI (24 + k17))), (2, .ref (p 0)), (0, .ref q), (1, .ref E.1.2.1)]) K dL_build_23 (by decide) rfl ?_
  have hF : ∀ j, j ≤ 24 + k17 → ∀ u : lw_LS, iv u.2.1 (400 * j) u.2.2.1 u.2.2.2.1 u.2.2.2.2 → (2 ≤ u.2.1 ∨ j ≤ u.2.1) → jk_J Γ E (lw_W E q b1 b2 [] C2 G2 M2 u) (13 + 81 * j) (117 + 806 * j) 25 [(4, .int (nI j)), (3, .int (nI (24 + k17))), (2, .ref (u.1 0)), (0, .ref q), (1, .ref E.1.2.1)] [] := by
    refine jk_loop (fun j hj ih => ?_)
    intro u hiv hu2
    have hn := hiv.1
    refine jk_iload K dL_build_25 0 rfl ?_
    refine jk_iload_n K dL_build_27 rfl 1 rfl ?_
    refine jk_icmp_ge (tgt := 71) K dL_build_28 rfl (fun c_28 => ?_) (fun c_28 => ?_)
    · have hjn : j = 24 + k17 := hb_ex (n := 24 + k17) rfl (by omega) hj c_28
      refine jk_aload_n K dL_build_71 rfl 2 rfl ?_
      exact jk_aret K hz dL_build_72 u rfl ⟨iv_w hiv (by omega), by omega⟩ rfl ⟨_, rfl⟩ (by show _ ≤ 5440; omega) (by show _ ≤ 54119; omega)
    · have hlt : j < 24 + k17 := hb_in (n := 24 + k17) rfl (by omega) hj c_28
      refine jk_aload_n K dL_build_31 rfl 3 rfl ?_
      refine jk_aload_n K dL_build_32 rfl 2 rfl ?_
      refine jk_aload_n K dL_build_33 rfl 4 rfl ?_
      refine jk_iload K dL_build_34 0 rfl ?_
      refine jk_bipush (x := (nI 16)) K dL_build_36 rfl ?_
      refine jk_irem K dL_build_38 (nI_ne0 (by decide) (by decide)) ?_
      refine jk_st (st' := [.int (nI (j % 16)), .ref E.1.2.1, .ref (u.1 0), .ref q]) (by rw [pk_rem (by omega) (by decide) (by decide)]) ?_
      refine jk_cSi K (n' := (13 + 81 * j)) (k' := (117 + 806 * j)) [.ref E.1.2.1, .int (nI (j % 16))] [.ref (u.1 0), .ref q] dL_build_39 (hb_L_cell _ hl E (hb_v1 E q b1 b2 (sm_SW E u.1 u.2.1 (sm_G u.2.2.2.1) (sm_N u.2.2.1) (sm_M u.2.2.2.2) ++ []) u.2.2.1 u.2.2.2.1 u.2.2.2.2 C2 G2 M2) hL (nI (j % 16)) (nI_pos (by omega))) gL_build_L_cell rfl kd_L_cell ⟨Nat.le_of_ble_eq_true rfl, Nat.le_of_ble_eq_true rfl⟩ (Nat.le_of_ble_eq_true rfl) ⟨rfl, rfl⟩ ⟨(by show _ ≤ 5440; omega), (by show _ ≤ 54119; omega)⟩ rfl (fun v39 _ => ?_)
      refine jk_iload K dL_build_42 0 rfl ?_
      refine jk_bipush (x := (nI 16)) K dL_build_44 rfl ?_
      refine jk_idiv K dL_build_46 (nI_ne0 (by decide) (by decide)) ?_
      refine jk_iconst (x := 3) K dL_build_47 rfl ?_
      refine jk_imul K dL_build_48 ?_
      refine jk_ishr K dL_build_49 ?_
      refine jk_sipush (x := 541) K dL_build_50 rfl ?_
      refine jk_iload K dL_build_53 0 rfl ?_
      refine jk_imul K dL_build_55 ?_
      refine jk_iadd K dL_build_56 ?_
      refine jk_cSi K (n' := ((13 + 81 * j) + 81)) (k' := ((117 + 806 * j) + 806)) [.ref q, .ref (u.1 0), .int ((v39 >>> ((((nI j) / (nI 16)) * 3) &&& 31)) + (541 * (nI j)))] [] dL_build_57 (hb_L_act _ hl E q b1 b2 [] u.1 u.2.1 (400 * j) u.2.2.1 u.2.2.2.1 u.2.2.2.2 C2 G2 M2 hiv ((v39 >>> ((((nI j) / (nI 16)) * 3) &&& 31)) + (541 * (nI j)))) gL_build_L_act rfl kd_L_act ⟨Nat.le_of_ble_eq_true rfl, Nat.le_of_ble_eq_true rfl⟩ (Nat.le_of_ble_eq_true rfl) ⟨rfl, rfl⟩ ⟨(by show _ ≤ 5440; omega), (by show _ ≤ 54119; omega)⟩ rfl (fun v57 hv57 => ?_)
      refine jk_if_ne (tgt := 65) K dL_build_60 rfl (fun c_60 => ?_) (fun c_60 => ?_)
      · refine jk_iinc (v := (nI (j + 1))) (lv' := [(4, .int (nI (j + 1))), (3, .int (nI (24 + k17))), (2, .ref (u.1 0)), (0, .ref q), (1, .ref E.1.2.1)]) K dL_build_65 0 rfl (nI_1 j) (by decide) rfl ?_
        refine jk_goto (tgt := 25) K dL_build_68 rfl ?_
        refine jk_sub (lv' := [(4, .int (nI (j + 1))), (3, .int (nI (24 + k17))), (2, .ref (u.1 0)), (0, .ref q), (1, .ref E.1.2.1)]) [0, 1, 2, 3, 4] rfl ?_
        refine jk_lv (lv' := [(4, .int (nI (j + 1))), (3, .int (nI (24 + k17))), (2, .ref (v57.1 0)), (0, .ref q), (1, .ref E.1.2.1)]) (by rw [hv57.1]) ?_
        refine jk_wide (n' := (13 + 81 * (j + 1))) (k' := (117 + 806 * (j + 1))) (by omega) (by omega) ?_
        exact ih hlt v57 (by rw [show 400 * (j + 1) = 400 * j + 400 by omega]; exact hv57.2.1) (by have z1 := hv57.2.2.1; have z2 := hv57.2.2.2; omega)
      · exact absurd c_60 (by decide)
  refine jk_lv (lv' := [(4, .int (nI 0)), (3, .int (nI (24 + k17))), (2, .ref (((p, 0, (fun _ => hb_f0), (fun _ => 0), (fun _ => 0)) : lw_LS).1 0)), (0, .ref q), (1, .ref E.1.2.1)]) rfl ?_
  exact hF 0 (Nat.zero_le _) ((p, 0, (fun _ => hb_f0), (fun _ => 0), (fun _ => 0)) : lw_LS) iv_0 (Or.inr (Nat.le_refl 0))
