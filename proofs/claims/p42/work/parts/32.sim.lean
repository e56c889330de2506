theorem kd_X3_dark : yX3_dark.cls = RX3 ∧ yX3_dark.cls ≠ "java/lang/invoke/MethodHandle" ∧ yX3_dark.cls ≠ "java/lang/invoke/VarHandle" ∧ (parseMethodDescriptor yX3_dark.desc).map (fun d => d.parameters.length) = some 0 := by decide +kernel
theorem kd_X4_light : yX4_light.cls = RX4 ∧ yX4_light.cls ≠ "java/lang/invoke/MethodHandle" ∧ yX4_light.cls ≠ "java/lang/invoke/VarHandle" ∧ (parseMethodDescriptor yX4_light.desc).map (fun d => d.parameters.length) = some 2 := by decide +kernel
theorem kd_X4_sees : yX4_sees.cls = RX4 ∧ yX4_sees.cls ≠ "java/lang/invoke/MethodHandle" ∧ yX4_sees.cls ≠ "java/lang/invoke/VarHandle" ∧ (parseMethodDescriptor yX4_sees.desc).map (fun d => d.parameters.length) = some 2 := by decide +kernel
set_option maxHeartbeats 4000000 in
set_option maxRecDepth 100000 in
theorem hb_X4_sees (l : Launch) (hl : l.stackTraces = false) (E : jk_T) (X Y : va_W) (p : Nat → Nat) (n : Nat) (hn : n ≤ 10) (S : Nat → Int32) (N mi : Nat → Nat → Int32) (a c : Nat) (ha : a < 10) (hc : c < 10) : jk_fn l yX4_sees wsX4_sees ({ frames := 0, cells := 0, slots := 0, locals := 0 } : Room) [.ref (p 0), .int (nI a), .int (nI c)] E (sm_S E X Y p n S N mi) (some (.int (sm_clr (S 1) (mi a c)))) (sm_S E X Y p n S N mi) := by
  refine jk_of (lv := [(0, .ref (p 0)), (1, .int (nI a)), (2, .int (nI c))]) (own := RX4) (nm := "sees") hl (by decide +kernel) rfl (Nat.le_of_ble_eq_true rfl) rfl rfl rfl (fun Γ hΓ K hnm hz => ?_)
  subst hΓ
  have hin_RX4 : ∀ w ∈ u_ws RX4 TX4 7, w ∈ wsX4_sees := by decide +kernel
  refine jk_aload_n K dX4_sees_0 rfl 0 rfl ?_
  refine jk_get (C := RX4) (T := TX4) (N := 7) (nm := "miles") (ds := "[[I") (v := .ref (p 2)) K dX4_sees_1 hin_RX4 (by decide +kernel) (X.length + 0) sm_0 rfl 6 rfl (by decide) rfl ?_
  refine jk_iload_n K dX4_sees_4 rfl 1 rfl ?_
  refine jk_aald (v := (p (3 + a))) K dX4_sees_5 (X.length + 2) sm_2 (vp_in_nI ha (by decide)) (by rw [nI_clamp (by omega)]) ?_
  refine jk_iload_n K dX4_sees_6 rfl 2 rfl ?_
  refine jk_iald (v := (mi a c)) K dX4_sees_7 (X.length + (3 + a)) (sm_r ha) (vp_in_nI hc (by decide)) (by rw [nI_clamp (by omega)]) ?_
  refine jk_if_le (tgt := 35) K dX4_sees_8 rfl (fun c_8 => ?_) (fun c_8 => ?_)
  · refine jk_iconst (x := 0) K dX4_sees_35 rfl ?_
    exact jk_iret K hz dX4_sees_36 () (by unfold sm_clr; rw [if_neg (fun q => absurd q.1 (Int32.not_lt.mpr c_8))]) trivial rfl rfl (Nat.le_of_ble_eq_true rfl) (Nat.le_of_ble_eq_true rfl)
  · refine jk_aload_n K dX4_sees_11 rfl 0 rfl ?_
    refine jk_get (C := RX4) (T := TX4) (N := 7) (nm := "miles") (ds := "[[I") (v := .ref (p 2)) K dX4_sees_12 hin_RX4 (by decide +kernel) (X.length + 0) sm_0 rfl 6 rfl (by decide) rfl ?_
    refine jk_iload_n K dX4_sees_15 rfl 1 rfl ?_
    refine jk_aald (v := (p (3 + a))) K dX4_sees_16 (X.length + 2) sm_2 (vp_in_nI ha (by decide)) (by rw [nI_clamp (by omega)]) ?_
    refine jk_iload_n K dX4_sees_17 rfl 2 rfl ?_
    refine jk_iald (v := (mi a c)) K dX4_sees_18 (X.length + (3 + a)) (sm_r ha) (vp_in_nI hc (by decide)) (by rw [nI_clamp (by omega)]) ?_
    refine jk_iconst (x := 2) K dX4_sees_19 rfl ?_
    refine jk_aload_n K dX4_sees_20 rfl 0 rfl ?_
    refine jk_get (C := RX4) (T := TX4) (N := 7) (nm := "haze") (ds := "I") (v := .int (S 1)) K dX4_sees_21 hin_RX4 (by decide +kernel) (X.length + 0) sm_0 rfl 1 rfl (by decide) rfl ?_
    refine jk_imul K dX4_sees_24 ?_
    refine jk_iadd K dX4_sees_25 ?_
    refine jk_bipush (x := 20) K dX4_sees_26 rfl ?_
    refine jk_icmp_gt (tgt := 35) K dX4_sees_28 rfl (fun c_28 => ?_) (fun c_28 => ?_)
    · refine jk_iconst (x := 0) K dX4_sees_35 rfl ?_
      exact jk_iret K hz dX4_sees_36 () (by unfold sm_clr; rw [if_neg (fun q => absurd q.2 (Int32.not_le.mpr c_28))]) trivial rfl rfl (Nat.le_of_ble_eq_true rfl) (Nat.le_of_ble_eq_true rfl)
    · refine jk_iconst (x := 1) K dX4_sees_31 rfl ?_
      refine jk_goto (tgt := 36) K dX4_sees_32 rfl ?_
      exact jk_iret K hz dX4_sees_36 () (by unfold sm_clr; rw [if_pos ⟨Int32.not_le.mp c_8, Int32.not_lt.mp c_28⟩]) trivial rfl rfl (Nat.le_of_ble_eq_true rfl) (Nat.le_of_ble_eq_true rfl)
set_option maxHeartbeats 4000000 in
set_option maxRecDepth 100000 in
theorem hb_X4_light (l : Launch) (hl : l.stackTraces = false) (E : jk_T) (X Y : va_W) (p : Nat → Nat) (n : Nat) (hn : n ≤ 10) (S : Nat → Int32) (N mi : Nat → Nat → Int32) (i : Nat) (hi : i < n) (s : Int32) : jk_fn l yX4_light wsX4_light ({ frames := 0, cells := 0, slots := 0, locals := 0 } : Room) [.ref (p 0), .ref (p (13 + i)), .int s] E (sm_S E X Y p n S N mi) (some (.int (N i 2 + 1))) (sm_S E X Y p n (sm_kS S s) (va_up N i (sm_kF (N i) s)) mi) := by
  refine jk_of (lv := [(0, .ref (p 0)), (1, .ref (p (13 + i))), (2, .int s)]) (own := RX4) (nm := "light") hl (by decide +kernel) rfl (Nat.le_of_ble_eq_true rfl) rfl rfl rfl (fun Γ hΓ K hnm hz => ?_)
  subst hΓ
  have hin_RX3 : ∀ w ∈ u_ws RX3 TX3 11, w ∈ wsX4_light := by decide +kernel
  have hin_RX4 : ∀ w ∈ u_ws RX4 TX4 7, w ∈ wsX4_light := by decide +kernel
  refine jk_aload_n K dX4_light_0 rfl 1 rfl ?_
  refine jk_dup K dX4_light_1 rfl ?_
  refine jk_get (C := RX3) (T := TX3) (N := 11) (nm := "wood") (ds := "I") (v := .int ((N i) 1)) K dX4_light_2 hin_RX3 (by decide +kernel) (X.length + (13 + i)) (sm_h hi) rfl 1 rfl (by decide) rfl ?_
  refine jk_iconst (x := 1) K dX4_light_5 rfl ?_
  refine jk_isub K dX4_light_6 ?_
  refine jk_put (C := RX3) (T := TX3) (N := 11) (nm := "wood") (ds := "I") (w' := (sm_S E X Y p n S (va_up N i (hb_fu (N i) 1 (((N i) 1) - 1))) mi)) K dX4_light_7 hin_RX3 tyX3 tyX3_ok nmX3 (by decide +kernel) (X.length + (13 + i)) (sm_h hi) rfl 1 rfl (by decide) rfl rfl rfl rfl (Nat.le_of_ble_eq_true rfl) (sm_sh (f := (hb_fu (N i) 1 (((N i) 1) - 1))) hi rfl) ?_
  refine jk_aload_n K dX4_light_10 rfl 1 rfl ?_
  refine jk_iconst (x := 0) K dX4_light_11 rfl ?_
  refine jk_put (C := RX3) (T := TX3) (N := 11) (nm := "looking") (ds := "I") (w' := (sm_S E X Y p n S (va_up N i (hb_fu (hb_fu (N i) 1 (((N i) 1) - 1)) 8 0)) mi)) K dX4_light_12 hin_RX3 tyX3 tyX3_ok nmX3 (by decide +kernel) (X.length + (13 + i)) (sm_hu hi) rfl 8 rfl (by decide) rfl rfl rfl rfl (Nat.le_of_ble_eq_true rfl) (sm_shu (f := (hb_fu (hb_fu (N i) 1 (((N i) 1) - 1)) 8 0)) hi rfl) ?_
  refine jk_aload_n K dX4_light_15 rfl 1 rfl ?_
  refine jk_iconst (x := 1) K dX4_light_16 rfl ?_
  refine jk_put (C := RX3) (T := TX3) (N := 11) (nm := "state") (ds := "I") (w' := (sm_S E X Y p n S (va_up N i (hb_fu (hb_fu (hb_fu (N i) 1 (((N i) 1) - 1)) 8 0) 6 1)) mi)) K dX4_light_17 hin_RX3 tyX3 tyX3_ok nmX3 (by decide +kernel) (X.length + (13 + i)) (sm_hu hi) rfl 6 rfl (by decide) rfl rfl rfl rfl (Nat.le_of_ble_eq_true rfl) (sm_shu (f := (hb_fu (hb_fu (hb_fu (N i) 1 (((N i) 1) - 1)) 8 0) 6 1)) hi rfl) ?_
  refine jk_aload_n K dX4_light_20 rfl 1 rfl ?_
  refine jk_aload_n K dX4_light_21 rfl 1 rfl ?_
  refine jk_get (C := RX3) (T := TX3) (N := 11) (nm := "damp") (ds := "I") (v := .int ((N i) 2)) K dX4_light_22 hin_RX3 (by decide +kernel) (X.length + (13 + i)) (sm_hu hi) rfl 2 rfl (by decide) rfl ?_
  refine jk_iconst (x := 1) K dX4_light_25 rfl ?_
  refine jk_iadd K dX4_light_26 ?_
  refine jk_put (C := RX3) (T := TX3) (N := 11) (nm := "left") (ds := "I") (w' := (sm_S E X Y p n S (va_up N i (hb_fu (hb_fu (hb_fu (hb_fu (N i) 1 (((N i) 1) - 1)) 8 0) 6 1) 7 (((N i) 2) + 1))) mi)) K dX4_light_27 hin_RX3 tyX3 tyX3_ok nmX3 (by decide +kernel) (X.length + (13 + i)) (sm_hu hi) rfl 7 rfl (by decide) rfl rfl rfl rfl (Nat.le_of_ble_eq_true rfl) (sm_shu (f := (hb_fu (hb_fu (hb_fu (hb_fu (N i) 1 (((N i) 1) - 1)) 8 0) 6 1) 7 (((N i) 2) + 1))) hi rfl) ?_
  refine jk_aload_n K dX4_light_30 rfl 1 rfl ?_
  refine jk_iload_n K dX4_light_31 rfl 2 rfl ?_
  refine jk_put (C := RX3) (T := TX3) (N := 11) (nm := "source") (ds := "I") (w' := (sm_S E X Y p n S (va_up N i (hb_fu (hb_fu (hb_fu (hb_fu (hb_fu (N i) 1 (((N i) 1) - 1)) 8 0) 6 1) 7 (((N i) 2) + 1)) 9 s)) mi)) K dX4_light_32 hin_RX3 tyX3 tyX3_ok nmX3 (by decide +kernel) (X.length + (13 + i)) (sm_hu hi) rfl 9 rfl (by decide) rfl rfl rfl rfl (Nat.le_of_ble_eq_true rfl) (sm_shu (f := (hb_fu (hb_fu (hb_fu (hb_fu (hb_fu (N i) 1 (((N i) 1) - 1)) 8 0) 6 1) 7 (((N i) 2) + 1)) 9 s)) hi rfl) ?_
  refine jk_aload_n K dX4_light_35 rfl 0 rfl ?_
  refine jk_dup K dX4_light_36 rfl ?_
  refine jk_get (C := RX4) (T := TX4) (N := 7) (nm := "lit") (ds := "I") (v := .int (S 3)) K dX4_light_37 hin_RX4 (by decide +kernel) (X.length + 0) sm_0 rfl 3 rfl (by decide) rfl ?_
  refine jk_iconst (x := 1) K dX4_light_40 rfl ?_
  refine jk_iadd K dX4_light_41 ?_
  refine jk_put (C := RX4) (T := TX4) (N := 7) (nm := "lit") (ds := "I") (w' := (sm_S E X Y p n (hb_fu S 3 ((S 3) + 1)) (va_up N i (hb_fu (hb_fu (hb_fu (hb_fu (hb_fu (N i) 1 (((N i) 1) - 1)) 8 0) 6 1) 7 (((N i) 2) + 1)) 9 s)) mi)) K dX4_light_42 hin_RX4 tyX4 tyX4_ok nmX4 (by decide +kernel) (X.length + 0) sm_0 rfl 3 rfl (by decide) rfl rfl rfl rfl (Nat.le_of_ble_eq_true rfl) (sm_s0 (S' := (hb_fu S 3 ((S 3) + 1))) rfl) ?_
  refine jk_iload_n K dX4_light_45 rfl 2 rfl ?_
  refine jk_if_ge (tgt := 59) K dX4_light_46 rfl (fun c_46 => ?_) (fun c_46 => ?_)
  · refine jk_aload_n K dX4_light_59 rfl 1 rfl ?_
    refine jk_get (C := RX3) (T := TX3) (N := 11) (nm := "left") (ds := "I") (v := .int (((N i) 2) + 1)) K dX4_light_60 hin_RX3 (by decide +kernel) (X.length + (13 + i)) (sm_hu hi) rfl 7 rfl (by decide) rfl ?_
    exact jk_iret K hz dX4_light_63 () rfl trivial (by unfold sm_kS; rw [if_pos c_46]; rfl) rfl (Nat.le_of_ble_eq_true rfl) (Nat.le_of_ble_eq_true rfl)
  · refine jk_aload_n K dX4_light_49 rfl 0 rfl ?_
    refine jk_dup K dX4_light_50 rfl ?_
    refine jk_get (C := RX4) (T := TX4) (N := 7) (nm := "mistaken") (ds := "I") (v := .int ((hb_fu S 3 ((S 3) + 1)) 4)) K dX4_light_51 hin_RX4 (by decide +kernel) (X.length + 0) sm_0 rfl 4 rfl (by decide) rfl ?_
    refine jk_iconst (x := 1) K dX4_light_54 rfl ?_
    refine jk_iadd K dX4_light_55 ?_
    refine jk_put (C := RX4) (T := TX4) (N := 7) (nm := "mistaken") (ds := "I") (w' := (sm_S E X Y p n (hb_fu (hb_fu S 3 ((S 3) + 1)) 4 (((hb_fu S 3 ((S 3) + 1)) 4) + 1)) (va_up N i (hb_fu (hb_fu (hb_fu (hb_fu (hb_fu (N i) 1 (((N i) 1) - 1)) 8 0) 6 1) 7 (((N i) 2) + 1)) 9 s)) mi)) K dX4_light_56 hin_RX4 tyX4 tyX4_ok nmX4 (by decide +kernel) (X.length + 0) sm_0 rfl 4 rfl (by decide) rfl rfl rfl rfl (Nat.le_of_ble_eq_true rfl) (sm_s0 (S' := (hb_fu (hb_fu S 3 ((S 3) + 1)) 4 (((hb_fu S 3 ((S 3) + 1)) 4) + 1))) rfl) ?_
    refine jk_aload_n K dX4_light_59 rfl 1 rfl ?_
    refine jk_get (C := RX3) (T := TX3) (N := 11) (nm := "left") (ds := "I") (v := .int (((N i) 2) + 1)) K dX4_light_60 hin_RX3 (by decide +kernel) (X.length + (13 + i)) (sm_hu hi) rfl 7 rfl (by decide) rfl ?_
    exact jk_iret K hz dX4_light_63 () rfl trivial (by unfold sm_kS; rw [if_neg c_46]; rfl) rfl (Nat.le_of_ble_eq_true rfl) (Nat.le_of_ble_eq_true rfl)
set_option maxHeartbeats 4000000 in
set_option maxRecDepth 100000 in
theorem hb_X4_burning (l : Launch) (hl : l.stackTraces = false) (E : jk_T) (X Y : va_W) (p : Nat → Nat) (n : Nat) (hn : n ≤ 10) (S : Nat → Int32) (N mi : Nat → Nat → Int32) : jk_fn l yX4_burning wsX4_burning ({ frames := 0, cells := 0, slots := 0, locals := 0 } : Room) [.ref (p 0)] E (sm_S E X Y p n S N mi) (some (.int (sm_bu N n))) (sm_S E X Y p n S N mi) := by
  refine jk_of (lv := [(0, .ref (p 0))]) (own := RX4) (nm := "burning") hl (by decide +kernel) rfl (Nat.le_of_ble_eq_true rfl) rfl rfl rfl (fun Γ hΓ K hnm hz => ?_)
  subst hΓ
  have hin_RX3 : ∀ w ∈ u_ws RX3 TX3 11, w ∈ wsX4_burning := by decide +kernel
  have hin_RX4 : ∀ w ∈ u_ws RX4 TX4 7, w ∈ wsX4_burning := by decide +kernel
  have hL : ∀ j, j ≤ n → jk_J Γ E (sm_S E X Y p n S N mi) 0 0 13 [(4, .int (nI j)), (3, .int (nI n)), (2, .ref (p 1)), (1, .int (sm_bu N j)), (0, .ref (p 0))] [] := by
    refine jk_loop (fun j hj ih => ?_)
    refine jk_iload K dX4_burning_13 0 rfl ?_
    refine jk_iload_n K dX4_burning_15 rfl 1 rfl ?_
    refine jk_icmp_ge (tgt := 48) K dX4_burning_16 rfl (fun c_16 => ?_) (fun c_16 => ?_)
    · have hjn : j = n := hb_ex (n := n) rfl (by omega) hj c_16
      refine jk_iload_n K dX4_burning_48 rfl 3 rfl ?_
      exact jk_iret K hz dX4_burning_49 () (by rw [hjn]) trivial rfl rfl (Nat.le_of_ble_eq_true rfl) (Nat.le_of_ble_eq_true rfl)
    · have hlt : j < n := hb_in (n := n) rfl (by omega) hj c_16
      refine jk_aload_n K dX4_burning_19 rfl 2 rfl ?_
      refine jk_iload K dX4_burning_20 0 rfl ?_
      refine jk_laldL (v := (p (13 + j))) K dX4_burning_22 (X.length + 1) sm_1 (vp_in_nI hlt (by omega)) (by rw [nI_clamp (by omega)]) ?_
      refine jk_astore (lv' := [(5, .ref (p (13 + j))), (4, .int (nI j)), (3, .int (nI n)), (2, .ref (p 1)), (1, .int (sm_bu N j)), (0, .ref (p 0))]) K dX4_burning_23 (by decide) rfl ?_
      refine jk_iload_n K dX4_burning_25 rfl 4 rfl ?_
      refine jk_aload K dX4_burning_26 0 rfl ?_
      refine jk_get (C := RX3) (T := TX3) (N := 11) (nm := "state") (ds := "I") (v := .int ((N j) 6)) K dX4_burning_28 hin_RX3 (by decide +kernel) (X.length + (13 + j)) (sm_h hlt) rfl 6 rfl (by decide) rfl ?_
      refine jk_iconst (x := 2) K dX4_burning_31 rfl ?_
      refine jk_icmp_ne (tgt := 39) K dX4_burning_32 rfl (fun c_32 => ?_) (fun c_32 => ?_)
      · refine jk_iconst (x := 0) K dX4_burning_39 rfl ?_
        refine jk_iadd K dX4_burning_40 ?_
        refine jk_istore_n (lv' := [(1, .int ((sm_bu N j) + 0)), (5, .ref (p (13 + j))), (4, .int (nI j)), (3, .int (nI n)), (2, .ref (p 1)), (0, .ref (p 0))]) K dX4_burning_41 rfl (by decide) rfl ?_
        refine jk_iinc (v := (nI (j + 1))) (lv' := [(4, .int (nI (j + 1))), (1, .int ((sm_bu N j) + 0)), (5, .ref (p (13 + j))), (3, .int (nI n)), (2, .ref (p 1)), (0, .ref (p 0))]) K dX4_burning_42 2 rfl (nI_1 j) (by decide) rfl ?_
        refine jk_goto (tgt := 13) K dX4_burning_45 rfl ?_
        refine jk_sub (lv' := [(4, .int (nI (j + 1))), (3, .int (nI n)), (2, .ref (p 1)), (1, .int ((sm_bu N j) + 0)), (0, .ref (p 0))]) [0, 3, 4, 1, 5] rfl ?_
        refine jk_lv (lv' := [(4, .int (nI (j + 1))), (3, .int (nI n)), (2, .ref (p 1)), (1, .int (sm_bu N (j + 1))), (0, .ref (p 0))]) (by first | rfl | (simp [sm_bu_s, c_16, c_32]; done)) ?_
        exact ih hlt
      · refine jk_iconst (x := 1) K dX4_burning_35 rfl ?_
        refine jk_goto (tgt := 40) K dX4_burning_36 rfl ?_
        refine jk_iadd K dX4_burning_40 ?_
        refine jk_istore_n (lv' := [(1, .int ((sm_bu N j) + 1)), (5, .ref (p (13 + j))), (4, .int (nI j)), (3, .int (nI n)), (2, .ref (p 1)), (0, .ref (p 0))]) K dX4_burning_41 rfl (by decide) rfl ?_
        refine jk_iinc (v := (nI (j + 1))) (lv' := [(4, .int (nI (j + 1))), (1, .int ((sm_bu N j) + 1)), (5, .ref (p (13 + j))), (3, .int (nI n)), (2, .ref (p 1)), (0, .ref (p 0))]) K dX4_burning_42 2 rfl (nI_1 j) (by decide) rfl ?_
        refine jk_goto (tgt := 13) K dX4_burning_45 rfl ?_
        refine jk_sub (lv' := [(4, .int (nI (j + 1))), (3, .int (nI n)), (2, .ref (p 1)), (1, .int ((sm_bu N j) + 1)), (0, .ref (p 0))]) [0, 3, 4, 1, 5] rfl ?_
        refine jk_lv (lv' := [(4, .int (nI (j + 1))), (3, .int (nI n)), (2, .ref (p 1)), (1, .int (sm_bu N (j + 1))), (0, .ref (p 0))]) (by first | rfl | (simp [sm_bu_s, c_16, c_32]; done)) ?_
        exact ih hlt
  refine jk_iconst (x := 0) K dX4_burning_0 rfl ?_
  refine jk_istore_n (lv' := [(1, .int 0), (0, .ref (p 0))]) K dX4_burning_1 rfl (by decide) rfl ?_
  refine jk_aload_n K dX4_burning_2 rfl 1 rfl ?_
  refine jk_get (C := RX4) (T := TX4) (N := 7) (nm := "hills") (ds := "[LHillBeaconsLaw$Hill;") (v := .ref (p 1)) K dX4_burning_3 hin_RX4 (by decide +kernel) (X.length + 0) sm_0 rfl 5 rfl (by decide) rfl ?_
  refine jk_astore_n (lv' := [(2, .ref (p 1)), (1, .int 0), (0, .ref (p 0))]) K dX4_burning_6 rfl (by decide) rfl ?_
  refine jk_aload_n K dX4_burning_7 rfl 0 rfl ?_
  refine jk_alen (v := (nI n)) K dX4_burning_8 (X.length + 1) 3 sm_1 rfl rfl ?_
  refine jk_istore_n (lv' := [(3, .int (nI n)), (2, .ref (p 1)), (1, .int 0), (0, .ref (p 0))]) K dX4_burning_9 rfl (by decide) rfl ?_
  refine jk_iconst (x := 0) K dX4_burning_10 rfl ?_
  refine jk_istore (lv' := [(4, .int 0), (3, .int (nI n)), (2, .ref (p 1)), (1, .int 0), (0, .ref (p 0))]) K dX4_burning_11 (by decide) rfl ?_
  refine jk_lv (lv' := [(4, .int (nI 0)), (3, .int (nI n)), (2, .ref (p 1)), (1, .int (sm_bu N 0)), (0, .ref (p 0))]) (by first | rfl | (simp [sm_bu_s]; done)) ?_
  exact hL 0 (Nat.zero_le _)
theorem sm_dn {n d : Nat} (h : d < n) : nI (n - d) - 1 = nI (n - 1 - d) := by
  obtain ⟨k, e⟩ : ∃ k, n - d = k + 1 := ⟨n - d - 1, by omega⟩
  rw [e, nI_pred, show n - 1 - d = k by omega]
theorem sm_dec {n d : Nat} : nI (n - 1 - d) + Int32.ofInt (-1) = nI (n - (d + 1)) - 1 := by
  rw [show n - 1 - d = n - (d + 1) by omega, Int32.sub_eq_add_neg]
  rfl
theorem sm_dlt {n d : Nat} (hd : d ≤ n) (c : ¬ nI (n - d) - 1 < 0) : d < n := by
  rcases Nat.lt_or_ge d n with h | h
  · exact h
  · rw [show n - d = 0 by omega] at c
    exact absurd (by decide) c
theorem sm_deq {n d : Nat} (hd : d ≤ n) (hn : n ≤ 1000) (c : nI (n - d) - 1 < 0) : d = n := by
  rcases Nat.lt_or_ge d n with h | h
  · rw [sm_dn h] at c
    exact absurd c (nI_pos (by omega))
  · omega
section SLK
variable {mi : Nat → Nat → Int32} {was src : Nat → Int32} {n i : Nat} {s : (Nat → Int32) × (Nat → Nat → Int32)}
theorem sm_lk_0 (hV : sm_is (s.2 i) s.1 (was i) (sm_ne (s.1 1) (mi i) was n n) = 0) : sm_lk mi was src n i s = (s.1, va_up s.2 i (hb_fu (s.2 i) 8 0)) := by
  unfold sm_lk sm_lF
  rw [if_pos hV, if_pos hV]
theorem sm_lk_1 (hV : sm_is (s.2 i) s.1 (was i) (sm_ne (s.1 1) (mi i) was n n) = 1) (hc : s.2 i 8 + 1 < s.2 i 3) : sm_lk mi was src n i s = (s.1, va_up s.2 i (hb_fu (s.2 i) 8 (s.2 i 8 + 1))) := by
  have h0 : ¬ sm_is (s.2 i) s.1 (was i) (sm_ne (s.1 1) (mi i) was n n) = 0 := by rw [hV]; decide
  have e : sm_lF (s.2 i) s.1 (was i) (sm_ne (s.1 1) (mi i) was n n) = hb_fu (s.2 i) 8 (s.2 i 8 + 1) := by
    unfold sm_lF
    rw [if_neg h0]
  unfold sm_lk
  rw [if_neg h0, e, if_pos (show hb_fu (s.2 i) 8 (s.2 i 8 + 1) 8 < s.2 i 3 from hc)]
theorem sm_lk_2 (hV : sm_is (s.2 i) s.1 (was i) (sm_ne (s.1 1) (mi i) was n n) = 1) (hc : ¬ s.2 i 8 + 1 < s.2 i 3) {x : Int32} (hx : sm_src src (sm_ne (s.1 1) (mi i) was n n) = x) : sm_lk mi was src n i s = (sm_kS s.1 x, va_up s.2 i (sm_kF (hb_fu (s.2 i) 8 (s.2 i 8 + 1)) x)) := by
  have h0 : ¬ sm_is (s.2 i) s.1 (was i) (sm_ne (s.1 1) (mi i) was n n) = 0 := by rw [hV]; decide
  have e : sm_lF (s.2 i) s.1 (was i) (sm_ne (s.1 1) (mi i) was n n) = hb_fu (s.2 i) 8 (s.2 i 8 + 1) := by
    unfold sm_lF
    rw [if_neg h0]
  unfold sm_lk
  rw [if_neg h0, e, if_neg (show ¬ hb_fu (s.2 i) 8 (s.2 i 8 + 1) 8 < s.2 i 3 from hc), hx]
end SLK
set_option maxHeartbeats 4000000 in
set_option maxRecDepth 100000 in
theorem hb_X4_pass (l : Launch) (hl : l.stackTraces = false) (E : jk_T) (X Y : va_W) (p : Nat → Nat) (n : Nat) (hn : n ≤ 10) (S : Nat → Int32) (N mi : Nat → Nat → Int32) (hno : sm_no n N) (hso : sm_so n N) : jk_fn l yX4_pass wsX4_pass ({ frames := 2, cells := 2, slots := 20, locals := 22 } : Room) [.ref (p 0)] E (sm_S E X Y p n S N mi) (none) (sm_S E X Y p n (sm_paS S N mi n) (sm_paN S N mi n) mi) := by
  refine jk_of (lv := [(0, .ref (p 0))]) (own := RX4) (nm := "pass") hl (by decide +kernel) rfl (Nat.le_of_ble_eq_true rfl) rfl rfl rfl (fun Γ hΓ K hnm hz => ?_)
  subst hΓ
  have hin_RX3 : ∀ w ∈ u_ws RX3 TX3 11, w ∈ wsX4_pass := by decide +kernel
  have hin_RX4 : ∀ w ∈ u_ws RX4 TX4 7, w ∈ wsX4_pass := by decide +kernel
  have hNO : ∀ j, sm_no n (sm_l1 S N mi (sm_cp N 6 n) (sm_cp N 9 n) n j).2 := sm_l1_no hno
  have hSO : sm_so n (sm_l1 S N mi (sm_cp N 6 n) (sm_cp N 9 n) n n).2 := sm_l1_so hso (sm_cp_so hso) n (Nat.le_refl n)
  have hL3 : ∀ j, j ≤ n → ∀ a1 a2 : Nat, jk_J Γ E (sm_S E X (Y ++ [(a1, .inl (E.2 0, n, .inl (sm_cp N 6 n))), (a2, .inl (E.2 0, n, .inl (sm_cp N 9 n)))]) p n (sm_l1 S N mi (sm_cp N 6 n) (sm_cp N 9 n) n n).1 (sm_l2 (sm_l1 S N mi (sm_cp N 6 n) (sm_cp N 9 n) n n).2 (sm_cp N 6 n) j) mi) 2 (n + n) 288 [(6, .int (nI j)), (5, .int (nI n)), (4, .ref (p 1)), (3, .ref a2), (2, .ref a1), (1, .int (nI n)), (0, .ref (p 0))] [] := by
    refine jk_loop (fun j hj ih => ?_)
    intro a1 a2
    have hno2 := sm_l2_no (was := (sm_cp N 6 n)) (hNO n) j
    have hso2 := sm_l2_so (was := (sm_cp N 6 n)) hSO j
    have hB : j < n → jk_J Γ E (sm_S E X (Y ++ [(a1, .inl (E.2 0, n, .inl (sm_cp N 6 n))), (a2, .inl (E.2 0, n, .inl (sm_cp N 9 n)))]) p n (sm_l1 S N mi (sm_cp N 6 n) (sm_cp N 9 n) n n).1 (sm_b1 (sm_cp N 6 n) j (sm_l2 (sm_l1 S N mi (sm_cp N 6 n) (sm_cp N 9 n) n n).2 (sm_cp N 6 n) j)) mi) 2 (n + n) 373 [(7, .ref (p (13 + j))), (6, .int (nI j)), (5, .int (nI n)), (4, .ref (p 1)), (3, .ref a2), (2, .ref a1), (1, .int (nI n)), (0, .ref (p 0))] [] := by
      intro hlt
      have hno3 := sm_b1_no (was := (sm_cp N 6 n)) j hno2
      refine jk_aload_n K dX4_pass_373 rfl 5 rfl ?_
      refine jk_aload K dX4_pass_374 0 rfl ?_
      refine jk_get (C := RX3) (T := TX3) (N := 11) (nm := "number") (ds := "I") (v := .int (((sm_b1 (sm_cp N 6 n) j (sm_l2 (sm_l1 S N mi (sm_cp N 6 n) (sm_cp N 9 n) n n).2 (sm_cp N 6 n) j)) j) 0)) K dX4_pass_376 hin_RX3 (by decide +kernel) (X.length + (13 + j)) (sm_h hlt) rfl 0 rfl (by decide) rfl ?_
      refine jk_st (st' := [.int (nI j), .ref a1]) (by rw [hno3 j hlt]) ?_
      refine jk_iald (v := ((sm_cp N 6 n) j)) K dX4_pass_379 (X.length + (13 + n + (Y.length + 0))) (sm_yat rfl) (vp_in_nI hlt (by omega)) (by rw [nI_clamp (by omega)]) ?_
      refine jk_iconst (x := 2) K dX4_pass_380 rfl ?_
      refine jk_icmp_ne (tgt := 411) K dX4_pass_381 rfl (fun c_381 => ?_) (fun c_381 => ?_)
      · refine jk_iinc (v := (nI (j + 1))) (lv' := [(6, .int (nI (j + 1))), (7, .ref (p (13 + j))), (5, .int (nI n)), (4, .ref (p 1)), (3, .ref a2), (2, .ref a1), (1, .int (nI n)), (0, .ref (p 0))]) K dX4_pass_411 1 rfl (nI_1 j) (by decide) rfl ?_
        refine jk_goto (tgt := 288) K dX4_pass_414 rfl ?_
        refine jk_sub (lv' := [(6, .int (nI (j + 1))), (5, .int (nI n)), (4, .ref (p 1)), (3, .ref a2), (2, .ref a1), (1, .int (nI n)), (0, .ref (p 0))]) [0, 2, 3, 4, 5, 6, 7] rfl ?_
        refine jk_ws (ws' := (sm_S E X (Y ++ [(a1, .inl (E.2 0, n, .inl (sm_cp N 6 n))), (a2, .inl (E.2 0, n, .inl (sm_cp N 9 n)))]) p n (sm_l1 S N mi (sm_cp N 6 n) (sm_cp N 9 n) n n).1 (sm_l2 (sm_l1 S N mi (sm_cp N 6 n) (sm_cp N 9 n) n n).2 (sm_cp N 6 n) (j + 1)) mi)) (by rw [sm_l2_s]; unfold sm_b2; rw [if_neg c_381]) ?_
        exact ih hlt a1 a2
      · refine jk_aload K dX4_pass_384 0 rfl ?_
        refine jk_get (C := RX3) (T := TX3) (N := 11) (nm := "wood") (ds := "I") (v := .int (((sm_b1 (sm_cp N 6 n) j (sm_l2 (sm_l1 S N mi (sm_cp N 6 n) (sm_cp N 9 n) n n).2 (sm_cp N 6 n) j)) j) 1)) K dX4_pass_386 hin_RX3 (by decide +kernel) (X.length + (13 + j)) (sm_h hlt) rfl 1 rfl (by decide) rfl ?_
        refine jk_if_ne (tgt := 400) K dX4_pass_389 rfl (fun c_389 => ?_) (fun c_389 => ?_)
        · refine jk_aload K dX4_pass_400 0 rfl ?_
          refine jk_dup K dX4_pass_402 rfl ?_
          refine jk_get (C := RX3) (T := TX3) (N := 11) (nm := "wood") (ds := "I") (v := .int (((sm_b1 (sm_cp N 6 n) j (sm_l2 (sm_l1 S N mi (sm_cp N 6 n) (sm_cp N 9 n) n n).2 (sm_cp N 6 n) j)) j) 1)) K dX4_pass_403 hin_RX3 (by decide +kernel) (X.length + (13 + j)) (sm_h hlt) rfl 1 rfl (by decide) rfl ?_
          refine jk_iconst (x := 1) K dX4_pass_406 rfl ?_
          refine jk_isub K dX4_pass_407 ?_
          refine jk_put (C := RX3) (T := TX3) (N := 11) (nm := "wood") (ds := "I") (w' := (sm_S E X (Y ++ [(a1, .inl (E.2 0, n, .inl (sm_cp N 6 n))), (a2, .inl (E.2 0, n, .inl (sm_cp N 9 n)))]) p n (sm_l1 S N mi (sm_cp N 6 n) (sm_cp N 9 n) n n).1 (va_up (sm_b1 (sm_cp N 6 n) j (sm_l2 (sm_l1 S N mi (sm_cp N 6 n) (sm_cp N 9 n) n n).2 (sm_cp N 6 n) j)) j (hb_fu ((sm_b1 (sm_cp N 6 n) j (sm_l2 (sm_l1 S N mi (sm_cp N 6 n) (sm_cp N 9 n) n n).2 (sm_cp N 6 n) j)) j) 1 ((((sm_b1 (sm_cp N 6 n) j (sm_l2 (sm_l1 S N mi (sm_cp N 6 n) (sm_cp N 9 n) n n).2 (sm_cp N 6 n) j)) j) 1) - 1))) mi)) K dX4_pass_408 hin_RX3 tyX3 tyX3_ok nmX3 (by decide +kernel) (X.length + (13 + j)) (sm_h hlt) rfl 1 rfl (by decide) rfl rfl rfl rfl (Nat.le_of_ble_eq_true rfl) (sm_sh (f := (hb_fu ((sm_b1 (sm_cp N 6 n) j (sm_l2 (sm_l1 S N mi (sm_cp N 6 n) (sm_cp N 9 n) n n).2 (sm_cp N 6 n) j)) j) 1 ((((sm_b1 (sm_cp N 6 n) j (sm_l2 (sm_l1 S N mi (sm_cp N 6 n) (sm_cp N 9 n) n n).2 (sm_cp N 6 n) j)) j) 1) - 1))) hlt rfl) ?_
          refine jk_iinc (v := (nI (j + 1))) (lv' := [(6, .int (nI (j + 1))), (7, .ref (p (13 + j))), (5, .int (nI n)), (4, .ref (p 1)), (3, .ref a2), (2, .ref a1), (1, .int (nI n)), (0, .ref (p 0))]) K dX4_pass_411 1 rfl (nI_1 j) (by decide) rfl ?_
          refine jk_goto (tgt := 288) K dX4_pass_414 rfl ?_
          refine jk_sub (lv' := [(6, .int (nI (j + 1))), (5, .int (nI n)), (4, .ref (p 1)), (3, .ref a2), (2, .ref a1), (1, .int (nI n)), (0, .ref (p 0))]) [0, 2, 3, 4, 5, 6, 7] rfl ?_
          refine jk_ws (ws' := (sm_S E X (Y ++ [(a1, .inl (E.2 0, n, .inl (sm_cp N 6 n))), (a2, .inl (E.2 0, n, .inl (sm_cp N 9 n)))]) p n (sm_l1 S N mi (sm_cp N 6 n) (sm_cp N 9 n) n n).1 (sm_l2 (sm_l1 S N mi (sm_cp N 6 n) (sm_cp N 9 n) n n).2 (sm_cp N 6 n) (j + 1)) mi)) (by rw [sm_l2_s]; unfold sm_b2; rw [if_pos c_381, if_neg c_389] <;> rfl) ?_
          exact ih hlt a1 a2
        · refine jk_aload K dX4_pass_392 0 rfl ?_
          refine jk_cVv K (n' := 2) (k' := (n + n)) [] [] dX4_pass_394 (hb_X3_dark _ hl E (sm_S E X (Y ++ [(a1, .inl (E.2 0, n, .inl (sm_cp N 6 n))), (a2, .inl (E.2 0, n, .inl (sm_cp N 9 n)))]) p n (sm_l1 S N mi (sm_cp N 6 n) (sm_cp N 9 n) n n).1 (sm_b1 (sm_cp N 6 n) j (sm_l2 (sm_l1 S N mi (sm_cp N 6 n) (sm_cp N 9 n) n n).2 (sm_cp N 6 n) j)) mi) (X.length + (13 + j)) (p (13 + j)) ((sm_b1 (sm_cp N 6 n) j (sm_l2 (sm_l1 S N mi (sm_cp N 6 n) (sm_cp N 9 n) n n).2 (sm_cp N 6 n) j)) j) (sm_h hlt)) gX4_pass_X3_dark rfl kd_X3_dark ⟨Nat.le_of_ble_eq_true rfl, Nat.le_of_ble_eq_true rfl⟩ (X.length + (13 + j)) (sm_h hlt) rfl (Nat.le_of_ble_eq_true rfl) ⟨rfl, rfl⟩ ⟨Nat.le_of_ble_eq_true rfl, (by show _ ≤ 20; omega)⟩ rfl (fun _ _ => ?_)
          refine jk_ws (ws' := (sm_S E X (Y ++ [(a1, .inl (E.2 0, n, .inl (sm_cp N 6 n))), (a2, .inl (E.2 0, n, .inl (sm_cp N 9 n)))]) p n (sm_l1 S N mi (sm_cp N 6 n) (sm_cp N 9 n) n n).1 (va_up (sm_b1 (sm_cp N 6 n) j (sm_l2 (sm_l1 S N mi (sm_cp N 6 n) (sm_cp N 9 n) n n).2 (sm_cp N 6 n) j)) j (sm_dF ((sm_b1 (sm_cp N 6 n) j (sm_l2 (sm_l1 S N mi (sm_cp N 6 n) (sm_cp N 9 n) n n).2 (sm_cp N 6 n) j)) j))) mi)) (sm_sh (f := (sm_dF ((sm_b1 (sm_cp N 6 n) j (sm_l2 (sm_l1 S N mi (sm_cp N 6 n) (sm_cp N 9 n) n n).2 (sm_cp N 6 n) j)) j))) hlt rfl) ?_
          refine jk_goto (tgt := 411) K dX4_pass_397 rfl ?_
          refine jk_iinc (v := (nI (j + 1))) (lv' := [(6, .int (nI (j + 1))), (7, .ref (p (13 + j))), (5, .int (nI n)), (4, .ref (p 1)), (3, .ref a2), (2, .ref a1), (1, .int (nI n)), (0, .ref (p 0))]) K dX4_pass_411 1 rfl (nI_1 j) (by decide) rfl ?_
          refine jk_goto (tgt := 288) K dX4_pass_414 rfl ?_
          refine jk_sub (lv' := [(6, .int (nI (j + 1))), (5, .int (nI n)), (4, .ref (p 1)), (3, .ref a2), (2, .ref a1), (1, .int (nI n)), (0, .ref (p 0))]) [0, 2, 3, 4, 5, 6, 7] rfl ?_
          refine jk_ws (ws' := (sm_S E X (Y ++ [(a1, .inl (E.2 0, n, .inl (sm_cp N 6 n))), (a2, .inl (E.2 0, n, .inl (sm_cp N 9 n)))]) p n (sm_l1 S N mi (sm_cp N 6 n) (sm_cp N 9 n) n n).1 (sm_l2 (sm_l1 S N mi (sm_cp N 6 n) (sm_cp N 9 n) n n).2 (sm_cp N 6 n) (j + 1)) mi)) (by rw [sm_l2_s]; unfold sm_b2; rw [if_pos c_381, if_pos c_389] <;> rfl) ?_
          exact ih hlt a1 a2
    refine jk_iload K dX4_pass_288 0 rfl ?_
    refine jk_iload K dX4_pass_290 1 rfl ?_
    refine jk_icmp_ge (tgt := 417) K dX4_pass_292 rfl (fun c_292 => ?_) (fun c_292 => ?_)
    · have hjn : j = n := hb_ex (n := n) rfl (by omega) hj c_292
      refine jk_aload_n K dX4_pass_417 rfl 6 rfl ?_
      refine jk_get (C := RX4) (T := TX4) (N := 7) (nm := "glow") (ds := "I") (v := .int ((sm_l1 S N mi (sm_cp N 6 n) (sm_cp N 9 n) n n).1 2)) K dX4_pass_418 hin_RX4 (by decide +kernel) (X.length + 0) sm_0 rfl 2 rfl (by decide) rfl ?_
      refine jk_if_le (tgt := 434) K dX4_pass_421 rfl (fun c_421 => ?_) (fun c_421 => ?_)
      · refine jk_aload_n K dX4_pass_434 rfl 6 rfl ?_
        refine jk_dup K dX4_pass_435 rfl ?_
        refine jk_get (C := RX4) (T := TX4) (N := 7) (nm := "minute") (ds := "I") (v := .int ((sm_l1 S N mi (sm_cp N 6 n) (sm_cp N 9 n) n n).1 0)) K dX4_pass_436 hin_RX4 (by decide +kernel) (X.length + 0) sm_0 rfl 0 rfl (by decide) rfl ?_
        refine jk_iconst (x := 1) K dX4_pass_439 rfl ?_
        refine jk_iadd K dX4_pass_440 ?_
        refine jk_put (C := RX4) (T := TX4) (N := 7) (nm := "minute") (ds := "I") (w' := (sm_S E X (Y ++ [(a1, .inl (E.2 0, n, .inl (sm_cp N 6 n))), (a2, .inl (E.2 0, n, .inl (sm_cp N 9 n)))]) p n (hb_fu (sm_l1 S N mi (sm_cp N 6 n) (sm_cp N 9 n) n n).1 0 (((sm_l1 S N mi (sm_cp N 6 n) (sm_cp N 9 n) n n).1 0) + 1)) (sm_l2 (sm_l1 S N mi (sm_cp N 6 n) (sm_cp N 9 n) n n).2 (sm_cp N 6 n) j) mi)) K dX4_pass_441 hin_RX4 tyX4 tyX4_ok nmX4 (by decide +kernel) (X.length + 0) sm_0 rfl 0 rfl (by decide) rfl rfl rfl rfl (Nat.le_of_ble_eq_true rfl) (sm_s0 (S' := (hb_fu (sm_l1 S N mi (sm_cp N 6 n) (sm_cp N 9 n) n n).1 0 (((sm_l1 S N mi (sm_cp N 6 n) (sm_cp N 9 n) n n).1 0) + 1))) rfl) ?_
        refine jk_take (w1 := (sm_S E X Y p n (hb_fu (sm_l1 S N mi (sm_cp N 6 n) (sm_cp N 9 n) n n).1 0 (((sm_l1 S N mi (sm_cp N 6 n) (sm_cp N 9 n) n n).1 0) + 1)) (sm_l2 (sm_l1 S N mi (sm_cp N 6 n) (sm_cp N 9 n) n n).2 (sm_cp N 6 n) j) mi)) (w2 := [(a1, .inl (E.2 0, n, .inl (sm_cp N 6 n))), (a2, .inl (E.2 0, n, .inl (sm_cp N 9 n)))]) sm_ext.symm ?_
        exact jk_vret K hz dX4_pass_444 () rfl trivial (by rw [hjn]; unfold sm_paS sm_paN sm_mS; rw [if_pos c_421] <;> rfl) (Nat.le_of_ble_eq_true rfl) (by show _ ≤ 20; omega)
      · refine jk_aload_n K dX4_pass_424 rfl 6 rfl ?_
        refine jk_dup K dX4_pass_425 rfl ?_
        refine jk_get (C := RX4) (T := TX4) (N := 7) (nm := "glow") (ds := "I") (v := .int ((sm_l1 S N mi (sm_cp N 6 n) (sm_cp N 9 n) n n).1 2)) K dX4_pass_426 hin_RX4 (by decide +kernel) (X.length + 0) sm_0 rfl 2 rfl (by decide) rfl ?_
        refine jk_iconst (x := 1) K dX4_pass_429 rfl ?_
        refine jk_isub K dX4_pass_430 ?_
        refine jk_put (C := RX4) (T := TX4) (N := 7) (nm := "glow") (ds := "I") (w' := (sm_S E X (Y ++ [(a1, .inl (E.2 0, n, .inl (sm_cp N 6 n))), (a2, .inl (E.2 0, n, .inl (sm_cp N 9 n)))]) p n (hb_fu (sm_l1 S N mi (sm_cp N 6 n) (sm_cp N 9 n) n n).1 2 (((sm_l1 S N mi (sm_cp N 6 n) (sm_cp N 9 n) n n).1 2) - 1)) (sm_l2 (sm_l1 S N mi (sm_cp N 6 n) (sm_cp N 9 n) n n).2 (sm_cp N 6 n) j) mi)) K dX4_pass_431 hin_RX4 tyX4 tyX4_ok nmX4 (by decide +kernel) (X.length + 0) sm_0 rfl 2 rfl (by decide) rfl rfl rfl rfl (Nat.le_of_ble_eq_true rfl) (sm_s0 (S' := (hb_fu (sm_l1 S N mi (sm_cp N 6 n) (sm_cp N 9 n) n n).1 2 (((sm_l1 S N mi (sm_cp N 6 n) (sm_cp N 9 n) n n).1 2) - 1))) rfl) ?_
        refine jk_aload_n K dX4_pass_434 rfl 6 rfl ?_
        refine jk_dup K dX4_pass_435 rfl ?_
        refine jk_get (C := RX4) (T := TX4) (N := 7) (nm := "minute") (ds := "I") (v := .int ((hb_fu (sm_l1 S N mi (sm_cp N 6 n) (sm_cp N 9 n) n n).1 2 (((sm_l1 S N mi (sm_cp N 6 n) (sm_cp N 9 n) n n).1 2) - 1)) 0)) K dX4_pass_436 hin_RX4 (by decide +kernel) (X.length + 0) sm_0 rfl 0 rfl (by decide) rfl ?_
        refine jk_iconst (x := 1) K dX4_pass_439 rfl ?_
        refine jk_iadd K dX4_pass_440 ?_
        refine jk_put (C := RX4) (T := TX4) (N := 7) (nm := "minute") (ds := "I") (w' := (sm_S E X (Y ++ [(a1, .inl (E.2 0, n, .inl (sm_cp N 6 n))), (a2, .inl (E.2 0, n, .inl (sm_cp N 9 n)))]) p n (hb_fu (hb_fu (sm_l1 S N mi (sm_cp N 6 n) (sm_cp N 9 n) n n).1 2 (((sm_l1 S N mi (sm_cp N 6 n) (sm_cp N 9 n) n n).1 2) - 1)) 0 (((hb_fu (sm_l1 S N mi (sm_cp N 6 n) (sm_cp N 9 n) n n).1 2 (((sm_l1 S N mi (sm_cp N 6 n) (sm_cp N 9 n) n n).1 2) - 1)) 0) + 1)) (sm_l2 (sm_l1 S N mi (sm_cp N 6 n) (sm_cp N 9 n) n n).2 (sm_cp N 6 n) j) mi)) K dX4_pass_441 hin_RX4 tyX4 tyX4_ok nmX4 (by decide +kernel) (X.length + 0) sm_0 rfl 0 rfl (by decide) rfl rfl rfl rfl (Nat.le_of_ble_eq_true rfl) (sm_s0 (S' := (hb_fu (hb_fu (sm_l1 S N mi (sm_cp N 6 n) (sm_cp N 9 n) n n).1 2 (((sm_l1 S N mi (sm_cp N 6 n) (sm_cp N 9 n) n n).1 2) - 1)) 0 (((hb_fu (sm_l1 S N mi (sm_cp N 6 n) (sm_cp N 9 n) n n).1 2 (((sm_l1 S N mi (sm_cp N 6 n) (sm_cp N 9 n) n n).1 2) - 1)) 0) + 1))) rfl) ?_
        refine jk_take (w1 := (sm_S E X Y p n (hb_fu (hb_fu (sm_l1 S N mi (sm_cp N 6 n) (sm_cp N 9 n) n n).1 2 (((sm_l1 S N mi (sm_cp N 6 n) (sm_cp N 9 n) n n).1 2) - 1)) 0 (((hb_fu (sm_l1 S N mi (sm_cp N 6 n) (sm_cp N 9 n) n n).1 2 (((sm_l1 S N mi (sm_cp N 6 n) (sm_cp N 9 n) n n).1 2) - 1)) 0) + 1)) (sm_l2 (sm_l1 S N mi (sm_cp N 6 n) (sm_cp N 9 n) n n).2 (sm_cp N 6 n) j) mi)) (w2 := [(a1, .inl (E.2 0, n, .inl (sm_cp N 6 n))), (a2, .inl (E.2 0, n, .inl (sm_cp N 9 n)))]) sm_ext.symm ?_
        exact jk_vret K hz dX4_pass_444 () rfl trivial (by rw [hjn]; unfold sm_paS sm_paN sm_mS; rw [if_neg c_421] <;> rfl) (Nat.le_of_ble_eq_true rfl) (by show _ ≤ 20; omega)
    · have hlt : j < n := hb_in (n := n) rfl (by omega) hj c_292
      refine jk_aload K dX4_pass_295 2 rfl ?_
      refine jk_iload K dX4_pass_297 0 rfl ?_
      refine jk_laldL (v := (p (13 + j))) K dX4_pass_299 (X.length + 1) sm_1 (vp_in_nI hlt (by omega)) (by rw [nI_clamp (by omega)]) ?_
      refine jk_astore (lv' := [(7, .ref (p (13 + j))), (6, .int (nI j)), (5, .int (nI n)), (4, .ref (p 1)), (3, .ref a2), (2, .ref a1), (1, .int (nI n)), (0, .ref (p 0))]) K dX4_pass_300 (by decide) rfl ?_
      refine jk_aload_n K dX4_pass_302 rfl 5 rfl ?_
      refine jk_aload K dX4_pass_303 0 rfl ?_
      refine jk_get (C := RX3) (T := TX3) (N := 11) (nm := "number") (ds := "I") (v := .int (((sm_l2 (sm_l1 S N mi (sm_cp N 6 n) (sm_cp N 9 n) n n).2 (sm_cp N 6 n) j) j) 0)) K dX4_pass_305 hin_RX3 (by decide +kernel) (X.length + (13 + j)) (sm_h hlt) rfl 0 rfl (by decide) rfl ?_
      refine jk_st (st' := [.int (nI j), .ref a1]) (by rw [hno2 j hlt]) ?_
      refine jk_iald (v := ((sm_cp N 6 n) j)) K dX4_pass_308 (X.length + (13 + n + (Y.length + 0))) (sm_yat rfl) (vp_in_nI hlt (by omega)) (by rw [nI_clamp (by omega)]) ?_
      refine jk_iconst (x := 1) K dX4_pass_309 rfl ?_
      refine jk_icmp_ne (tgt := 373) K dX4_pass_310 rfl (fun c_310 => ?_) (fun c_310 => ?_)
      · refine jk_ws (ws' := (sm_S E X (Y ++ [(a1, .inl (E.2 0, n, .inl (sm_cp N 6 n))), (a2, .inl (E.2 0, n, .inl (sm_cp N 9 n)))]) p n (sm_l1 S N mi (sm_cp N 6 n) (sm_cp N 9 n) n n).1 (sm_b1 (sm_cp N 6 n) j (sm_l2 (sm_l1 S N mi (sm_cp N 6 n) (sm_cp N 9 n) n n).2 (sm_cp N 6 n) j)) mi)) (by unfold sm_b1; rw [if_neg c_310]) ?_
        exact hB hlt
      · refine jk_aload K dX4_pass_313 0 rfl ?_
        refine jk_dup K dX4_pass_315 rfl ?_
        refine jk_get (C := RX3) (T := TX3) (N := 11) (nm := "left") (ds := "I") (v := .int (((sm_l2 (sm_l1 S N mi (sm_cp N 6 n) (sm_cp N 9 n) n n).2 (sm_cp N 6 n) j) j) 7)) K dX4_pass_316 hin_RX3 (by decide +kernel) (X.length + (13 + j)) (sm_h hlt) rfl 7 rfl (by decide) rfl ?_
        refine jk_iconst (x := 1) K dX4_pass_319 rfl ?_
        refine jk_isub K dX4_pass_320 ?_
        refine jk_put (C := RX3) (T := TX3) (N := 11) (nm := "left") (ds := "I") (w' := (sm_S E X (Y ++ [(a1, .inl (E.2 0, n, .inl (sm_cp N 6 n))), (a2, .inl (E.2 0, n, .inl (sm_cp N 9 n)))]) p n (sm_l1 S N mi (sm_cp N 6 n) (sm_cp N 9 n) n n).1 (va_up (sm_l2 (sm_l1 S N mi (sm_cp N 6 n) (sm_cp N 9 n) n n).2 (sm_cp N 6 n) j) j (hb_fu ((sm_l2 (sm_l1 S N mi (sm_cp N 6 n) (sm_cp N 9 n) n n).2 (sm_cp N 6 n) j) j) 7 ((((sm_l2 (sm_l1 S N mi (sm_cp N 6 n) (sm_cp N 9 n) n n).2 (sm_cp N 6 n) j) j) 7) - 1))) mi)) K dX4_pass_321 hin_RX3 tyX3 tyX3_ok nmX3 (by decide +kernel) (X.length + (13 + j)) (sm_h hlt) rfl 7 rfl (by decide) rfl rfl rfl rfl (Nat.le_of_ble_eq_true rfl) (sm_sh (f := (hb_fu ((sm_l2 (sm_l1 S N mi (sm_cp N 6 n) (sm_cp N 9 n) n n).2 (sm_cp N 6 n) j) j) 7 ((((sm_l2 (sm_l1 S N mi (sm_cp N 6 n) (sm_cp N 9 n) n n).2 (sm_cp N 6 n) j) j) 7) - 1))) hlt rfl) ?_
        refine jk_aload K dX4_pass_324 0 rfl ?_
        refine jk_get (C := RX3) (T := TX3) (N := 11) (nm := "left") (ds := "I") (v := .int ((((sm_l2 (sm_l1 S N mi (sm_cp N 6 n) (sm_cp N 9 n) n n).2 (sm_cp N 6 n) j) j) 7) - 1)) K dX4_pass_326 hin_RX3 (by decide +kernel) (X.length + (13 + j)) (sm_hu hlt) rfl 7 rfl (by decide) rfl ?_
        refine jk_if_ne (tgt := 373) K dX4_pass_329 rfl (fun c_329 => ?_) (fun c_329 => ?_)
        · refine jk_ws (ws' := (sm_S E X (Y ++ [(a1, .inl (E.2 0, n, .inl (sm_cp N 6 n))), (a2, .inl (E.2 0, n, .inl (sm_cp N 9 n)))]) p n (sm_l1 S N mi (sm_cp N 6 n) (sm_cp N 9 n) n n).1 (sm_b1 (sm_cp N 6 n) j (sm_l2 (sm_l1 S N mi (sm_cp N 6 n) (sm_cp N 9 n) n n).2 (sm_cp N 6 n) j)) mi)) (by unfold sm_b1; rw [if_pos c_310, if_neg c_329] <;> rfl) ?_
          exact hB hlt
        · refine jk_aload K dX4_pass_332 0 rfl ?_
          refine jk_iconst (x := 2) K dX4_pass_334 rfl ?_
          refine jk_put (C := RX3) (T := TX3) (N := 11) (nm := "state") (ds := "I") (w' := (sm_S E X (Y ++ [(a1, .inl (E.2 0, n, .inl (sm_cp N 6 n))), (a2, .inl (E.2 0, n, .inl (sm_cp N 9 n)))]) p n (sm_l1 S N mi (sm_cp N 6 n) (sm_cp N 9 n) n n).1 (va_up (sm_l2 (sm_l1 S N mi (sm_cp N 6 n) (sm_cp N 9 n) n n).2 (sm_cp N 6 n) j) j (hb_fu (hb_fu ((sm_l2 (sm_l1 S N mi (sm_cp N 6 n) (sm_cp N 9 n) n n).2 (sm_cp N 6 n) j) j) 7 ((((sm_l2 (sm_l1 S N mi (sm_cp N 6 n) (sm_cp N 9 n) n n).2 (sm_cp N 6 n) j) j) 7) - 1)) 6 2)) mi)) K dX4_pass_335 hin_RX3 tyX3 tyX3_ok nmX3 (by decide +kernel) (X.length + (13 + j)) (sm_hu hlt) rfl 6 rfl (by decide) rfl rfl rfl rfl (Nat.le_of_ble_eq_true rfl) (sm_shu (f := (hb_fu (hb_fu ((sm_l2 (sm_l1 S N mi (sm_cp N 6 n) (sm_cp N 9 n) n n).2 (sm_cp N 6 n) j) j) 7 ((((sm_l2 (sm_l1 S N mi (sm_cp N 6 n) (sm_cp N 9 n) n n).2 (sm_cp N 6 n) j) j) 7) - 1)) 6 2)) hlt rfl) ?_
          refine jk_aload K dX4_pass_338 0 rfl ?_
          refine jk_get (C := RX3) (T := TX3) (N := 11) (nm := "post") (ds := "Z") (v := .int (hb_zb (((sm_l2 (sm_l1 S N mi (sm_cp N 6 n) (sm_cp N 9 n) n n).2 (sm_cp N 6 n) j) j) 5))) K dX4_pass_340 hin_RX3 (by decide +kernel) (X.length + (13 + j)) (sm_hu hlt) rfl 5 rfl (by decide) rfl ?_
          refine jk_if_eq (tgt := 373) K dX4_pass_343 rfl (fun c_343 => ?_) (fun c_343 => ?_)
          · refine jk_ws (ws' := (sm_S E X (Y ++ [(a1, .inl (E.2 0, n, .inl (sm_cp N 6 n))), (a2, .inl (E.2 0, n, .inl (sm_cp N 9 n)))]) p n (sm_l1 S N mi (sm_cp N 6 n) (sm_cp N 9 n) n n).1 (sm_b1 (sm_cp N 6 n) j (sm_l2 (sm_l1 S N mi (sm_cp N 6 n) (sm_cp N 9 n) n n).2 (sm_cp N 6 n) j)) mi)) (by unfold sm_b1; rw [if_pos c_310, if_pos c_329, if_pos c_343] <;> rfl) ?_
            exact hB hlt
          · refine jk_aload K dX4_pass_346 0 rfl ?_
            refine jk_get (C := RX3) (T := TX3) (N := 11) (nm := "source") (ds := "I") (v := .int (((sm_l2 (sm_l1 S N mi (sm_cp N 6 n) (sm_cp N 9 n) n n).2 (sm_cp N 6 n) j) j) 9)) K dX4_pass_348 hin_RX3 (by decide +kernel) (X.length + (13 + j)) (sm_hu hlt) rfl 9 rfl (by decide) rfl ?_
            refine jk_if_lt (tgt := 373) K dX4_pass_351 rfl (fun c_351 => ?_) (fun c_351 => ?_)
            · refine jk_ws (ws' := (sm_S E X (Y ++ [(a1, .inl (E.2 0, n, .inl (sm_cp N 6 n))), (a2, .inl (E.2 0, n, .inl (sm_cp N 9 n)))]) p n (sm_l1 S N mi (sm_cp N 6 n) (sm_cp N 9 n) n n).1 (sm_b1 (sm_cp N 6 n) j (sm_l2 (sm_l1 S N mi (sm_cp N 6 n) (sm_cp N 9 n) n n).2 (sm_cp N 6 n) j)) mi)) (by unfold sm_b1; rw [if_pos c_310, if_pos c_329, if_neg c_343, if_pos c_351] <;> rfl) ?_
              exact hB hlt
            · refine jk_aload_n K dX4_pass_354 rfl 7 rfl ?_
              refine jk_get (C := RX4) (T := TX4) (N := 7) (nm := "hills") (ds := "[LHillBeaconsLaw$Hill;") (v := .ref (p 1)) K dX4_pass_355 hin_RX4 (by decide +kernel) (X.length + 0) sm_0 rfl 5 rfl (by decide) rfl ?_
              refine jk_aload K dX4_pass_358 0 rfl ?_
              refine jk_get (C := RX3) (T := TX3) (N := 11) (nm := "source") (ds := "I") (v := .int (((sm_l2 (sm_l1 S N mi (sm_cp N 6 n) (sm_cp N 9 n) n n).2 (sm_cp N 6 n) j) j) 9)) K dX4_pass_360 hin_RX3 (by decide +kernel) (X.length + (13 + j)) (sm_hu hlt) rfl 9 rfl (by decide) rfl ?_
              obtain ⟨s, hs, es⟩ : ∃ s, s < n ∧ (sm_l2 (sm_l1 S N mi (sm_cp N 6 n) (sm_cp N 9 n) n n).2 (sm_cp N 6 n) j) j 9 = nI s := (hso2 j hlt).resolve_left (fun q => c_351 (by show (sm_l2 (sm_l1 S N mi (sm_cp N 6 n) (sm_cp N 9 n) n n).2 (sm_cp N 6 n) j) j 9 < 0; rw [q]; decide))
              refine jk_st (st' := [.int (nI s), .ref (p 1)]) (by rw [← es] <;> rfl) ?_
              refine jk_laldL (v := (p (13 + s))) K dX4_pass_363 (X.length + 1) sm_1 (vp_in_nI hs (by omega)) (by rw [nI_clamp (by omega)]) ?_
              refine jk_dup K dX4_pass_364 rfl ?_
              refine jk_get (C := RX3) (T := TX3) (N := 11) (nm := "answers") (ds := "I") (v := .int (((va_up (sm_l2 (sm_l1 S N mi (sm_cp N 6 n) (sm_cp N 9 n) n n).2 (sm_cp N 6 n) j) j (hb_fu (hb_fu ((sm_l2 (sm_l1 S N mi (sm_cp N 6 n) (sm_cp N 9 n) n n).2 (sm_cp N 6 n) j) j) 7 ((((sm_l2 (sm_l1 S N mi (sm_cp N 6 n) (sm_cp N 9 n) n n).2 (sm_cp N 6 n) j) j) 7) - 1)) 6 2)) s) 10)) K dX4_pass_365 hin_RX3 (by decide +kernel) (X.length + (13 + s)) (sm_h hs) rfl 10 rfl (by decide) rfl ?_
              refine jk_iconst (x := 1) K dX4_pass_368 rfl ?_
              refine jk_iadd K dX4_pass_369 ?_
              refine jk_put (C := RX3) (T := TX3) (N := 11) (nm := "answers") (ds := "I") (w' := (sm_S E X (Y ++ [(a1, .inl (E.2 0, n, .inl (sm_cp N 6 n))), (a2, .inl (E.2 0, n, .inl (sm_cp N 9 n)))]) p n (sm_l1 S N mi (sm_cp N 6 n) (sm_cp N 9 n) n n).1 (va_up (va_up (sm_l2 (sm_l1 S N mi (sm_cp N 6 n) (sm_cp N 9 n) n n).2 (sm_cp N 6 n) j) j (hb_fu (hb_fu ((sm_l2 (sm_l1 S N mi (sm_cp N 6 n) (sm_cp N 9 n) n n).2 (sm_cp N 6 n) j) j) 7 ((((sm_l2 (sm_l1 S N mi (sm_cp N 6 n) (sm_cp N 9 n) n n).2 (sm_cp N 6 n) j) j) 7) - 1)) 6 2)) s (hb_fu ((va_up (sm_l2 (sm_l1 S N mi (sm_cp N 6 n) (sm_cp N 9 n) n n).2 (sm_cp N 6 n) j) j (hb_fu (hb_fu ((sm_l2 (sm_l1 S N mi (sm_cp N 6 n) (sm_cp N 9 n) n n).2 (sm_cp N 6 n) j) j) 7 ((((sm_l2 (sm_l1 S N mi (sm_cp N 6 n) (sm_cp N 9 n) n n).2 (sm_cp N 6 n) j) j) 7) - 1)) 6 2)) s) 10 ((((va_up (sm_l2 (sm_l1 S N mi (sm_cp N 6 n) (sm_cp N 9 n) n n).2 (sm_cp N 6 n) j) j (hb_fu (hb_fu ((sm_l2 (sm_l1 S N mi (sm_cp N 6 n) (sm_cp N 9 n) n n).2 (sm_cp N 6 n) j) j) 7 ((((sm_l2 (sm_l1 S N mi (sm_cp N 6 n) (sm_cp N 9 n) n n).2 (sm_cp N 6 n) j) j) 7) - 1)) 6 2)) s) 10) + 1))) mi)) K dX4_pass_370 hin_RX3 tyX3 tyX3_ok nmX3 (by decide +kernel) (X.length + (13 + s)) (sm_h hs) rfl 10 rfl (by decide) rfl rfl rfl rfl (Nat.le_of_ble_eq_true rfl) (sm_sh (f := (hb_fu ((va_up (sm_l2 (sm_l1 S N mi (sm_cp N 6 n) (sm_cp N 9 n) n n).2 (sm_cp N 6 n) j) j (hb_fu (hb_fu ((sm_l2 (sm_l1 S N mi (sm_cp N 6 n) (sm_cp N 9 n) n n).2 (sm_cp N 6 n) j) j) 7 ((((sm_l2 (sm_l1 S N mi (sm_cp N 6 n) (sm_cp N 9 n) n n).2 (sm_cp N 6 n) j) j) 7) - 1)) 6 2)) s) 10 ((((va_up (sm_l2 (sm_l1 S N mi (sm_cp N 6 n) (sm_cp N 9 n) n n).2 (sm_cp N 6 n) j) j (hb_fu (hb_fu ((sm_l2 (sm_l1 S N mi (sm_cp N 6 n) (sm_cp N 9 n) n n).2 (sm_cp N 6 n) j) j) 7 ((((sm_l2 (sm_l1 S N mi (sm_cp N 6 n) (sm_cp N 9 n) n n).2 (sm_cp N 6 n) j) j) 7) - 1)) 6 2)) s) 10) + 1))) hs rfl) ?_
              refine jk_ws (ws' := (sm_S E X (Y ++ [(a1, .inl (E.2 0, n, .inl (sm_cp N 6 n))), (a2, .inl (E.2 0, n, .inl (sm_cp N 9 n)))]) p n (sm_l1 S N mi (sm_cp N 6 n) (sm_cp N 9 n) n n).1 (sm_b1 (sm_cp N 6 n) j (sm_l2 (sm_l1 S N mi (sm_cp N 6 n) (sm_cp N 9 n) n n).2 (sm_cp N 6 n) j)) mi)) (by unfold sm_b1; rw [if_pos c_310, if_pos c_329, if_neg c_343, if_neg c_351, es, nI_clamp (by omega)] <;> rfl) ?_
              exact hB hlt
  have hL2 : ∀ j, j ≤ n → ∀ a1 a2 : Nat, jk_J Γ E (sm_S E X (Y ++ [(a1, .inl (E.2 0, n, .inl (sm_cp N 6 n))), (a2, .inl (E.2 0, n, .inl (sm_cp N 9 n)))]) p n (sm_l1 S N mi (sm_cp N 6 n) (sm_cp N 9 n) n j).1 (sm_l1 S N mi (sm_cp N 6 n) (sm_cp N 9 n) n j).2 mi) 2 (n + n) 71 [(6, .int (nI j)), (5, .int (nI n)), (4, .ref (p 1)), (3, .ref a2), (2, .ref a1), (1, .int (nI n)), (0, .ref (p 0))] [] := by
    refine jk_loop (fun j hj ih => ?_)
    intro a1 a2
    have hnoj := hNO j
    have hC : j < n → jk_J Γ E (sm_S E X (Y ++ [(a1, .inl (E.2 0, n, .inl (sm_cp N 6 n))), (a2, .inl (E.2 0, n, .inl (sm_cp N 9 n)))]) p n (sm_l1 S N mi (sm_cp N 6 n) (sm_cp N 9 n) n j).1 (sm_l1 S N mi (sm_cp N 6 n) (sm_cp N 9 n) n j).2 mi) 2 (n + n) 164 [(8, .int (sm_o (sm_ne ((sm_l1 S N mi (sm_cp N 6 n) (sm_cp N 9 n) n j).1 1) (mi j) (sm_cp N 6 n) n n))), (7, .ref (p (13 + j))), (6, .int (nI j)), (5, .int (nI n)), (4, .ref (p 1)), (3, .ref a2), (2, .ref a1), (1, .int (nI n)), (0, .ref (p 0))] [] := by
      intro hlt
      refine jk_aload_n K dX4_pass_164 rfl 6 rfl ?_
      refine jk_aload K dX4_pass_165 1 rfl ?_
      refine jk_get (C := RX3) (T := TX3) (N := 11) (nm := "number") (ds := "I") (v := .int (((sm_l1 S N mi (sm_cp N 6 n) (sm_cp N 9 n) n j).2 j) 0)) K dX4_pass_167 hin_RX3 (by decide +kernel) (X.length + (13 + j)) (sm_h hlt) rfl 0 rfl (by decide) rfl ?_
      refine jk_st (st' := [.int (nI j), .ref a1]) (by rw [hnoj j hlt]) ?_
      refine jk_iald (v := ((sm_cp N 6 n) j)) K dX4_pass_170 (X.length + (13 + n + (Y.length + 0))) (sm_yat rfl) (vp_in_nI hlt (by omega)) (by rw [nI_clamp (by omega)]) ?_
      refine jk_if_ne (tgt := 206) K dX4_pass_171 rfl (fun c_171 => ?_) (fun c_171 => ?_)
      · refine jk_iconst (x := 0) K dX4_pass_206 rfl ?_
        refine jk_istore (lv' := [(9, .int 0), (8, .int (sm_o (sm_ne ((sm_l1 S N mi (sm_cp N 6 n) (sm_cp N 9 n) n j).1 1) (mi j) (sm_cp N 6 n) n n))), (7, .ref (p (13 + j))), (6, .int (nI j)), (5, .int (nI n)), (4, .ref (p 1)), (3, .ref a2), (2, .ref a1), (1, .int (nI n)), (0, .ref (p 0))]) K dX4_pass_207 (by decide) rfl ?_
        refine jk_aload K dX4_pass_209 2 rfl ?_
        refine jk_iload K dX4_pass_211 0 rfl ?_
        refine jk_if_eq (tgt := 226) K dX4_pass_213 rfl (fun c_213 => ?_) (fun c_213 => ?_)
        · refine jk_iconst (x := 0) K dX4_pass_226 rfl ?_
          refine jk_put (C := RX3) (T := TX3) (N := 11) (nm := "looking") (ds := "I") (w' := (sm_S E X (Y ++ [(a1, .inl (E.2 0, n, .inl (sm_cp N 6 n))), (a2, .inl (E.2 0, n, .inl (sm_cp N 9 n)))]) p n (sm_l1 S N mi (sm_cp N 6 n) (sm_cp N 9 n) n j).1 (va_up (sm_l1 S N mi (sm_cp N 6 n) (sm_cp N 9 n) n j).2 j (hb_fu ((sm_l1 S N mi (sm_cp N 6 n) (sm_cp N 9 n) n j).2 j) 8 0)) mi)) K dX4_pass_227 hin_RX3 tyX3 tyX3_ok nmX3 (by decide +kernel) (X.length + (13 + j)) (sm_h hlt) rfl 8 rfl (by decide) rfl rfl rfl rfl (Nat.le_of_ble_eq_true rfl) (sm_sh (f := (hb_fu ((sm_l1 S N mi (sm_cp N 6 n) (sm_cp N 9 n) n j).2 j) 8 0)) hlt rfl) ?_
          refine jk_iload K dX4_pass_230 0 rfl ?_
          refine jk_if_eq (tgt := 268) K dX4_pass_232 rfl (fun c_232 => ?_) (fun c_232 => ?_)
          · refine jk_iinc (v := (nI (j + 1))) (lv' := [(6, .int (nI (j + 1))), (9, .int 0), (8, .int (sm_o (sm_ne ((sm_l1 S N mi (sm_cp N 6 n) (sm_cp N 9 n) n j).1 1) (mi j) (sm_cp N 6 n) n n))), (7, .ref (p (13 + j))), (5, .int (nI n)), (4, .ref (p 1)), (3, .ref a2), (2, .ref a1), (1, .int (nI n)), (0, .ref (p 0))]) K dX4_pass_268 3 rfl (nI_1 j) (by decide) rfl ?_
            refine jk_goto (tgt := 71) K dX4_pass_271 rfl ?_
            refine jk_sub (lv' := [(6, .int (nI (j + 1))), (5, .int (nI n)), (4, .ref (p 1)), (3, .ref a2), (2, .ref a1), (1, .int (nI n)), (0, .ref (p 0))]) [0, 4, 5, 6, 7, 8, 9] rfl ?_
            refine jk_ws (ws' := (sm_S E X (Y ++ [(a1, .inl (E.2 0, n, .inl (sm_cp N 6 n))), (a2, .inl (E.2 0, n, .inl (sm_cp N 9 n)))]) p n (sm_l1 S N mi (sm_cp N 6 n) (sm_cp N 9 n) n (j + 1)).1 (sm_l1 S N mi (sm_cp N 6 n) (sm_cp N 9 n) n (j + 1)).2 mi)) (by rw [sm_l1_s, sm_lk_0 (by unfold sm_is; rw [if_neg c_171])] <;> rfl) ?_
            exact ih hlt a1 a2
          · exact absurd (by decide) c_232
        · exact absurd (by decide) c_213
      · refine jk_aload K dX4_pass_174 1 rfl ?_
        refine jk_get (C := RX3) (T := TX3) (N := 11) (nm := "wood") (ds := "I") (v := .int (((sm_l1 S N mi (sm_cp N 6 n) (sm_cp N 9 n) n j).2 j) 1)) K dX4_pass_176 hin_RX3 (by decide +kernel) (X.length + (13 + j)) (sm_h hlt) rfl 1 rfl (by decide) rfl ?_
        refine jk_if_le (tgt := 206) K dX4_pass_179 rfl (fun c_179 => ?_) (fun c_179 => ?_)
        · refine jk_iconst (x := 0) K dX4_pass_206 rfl ?_
          refine jk_istore (lv' := [(9, .int 0), (8, .int (sm_o (sm_ne ((sm_l1 S N mi (sm_cp N 6 n) (sm_cp N 9 n) n j).1 1) (mi j) (sm_cp N 6 n) n n))), (7, .ref (p (13 + j))), (6, .int (nI j)), (5, .int (nI n)), (4, .ref (p 1)), (3, .ref a2), (2, .ref a1), (1, .int (nI n)), (0, .ref (p 0))]) K dX4_pass_207 (by decide) rfl ?_
          refine jk_aload K dX4_pass_209 2 rfl ?_
          refine jk_iload K dX4_pass_211 0 rfl ?_
          refine jk_if_eq (tgt := 226) K dX4_pass_213 rfl (fun c_213 => ?_) (fun c_213 => ?_)
          · refine jk_iconst (x := 0) K dX4_pass_226 rfl ?_
            refine jk_put (C := RX3) (T := TX3) (N := 11) (nm := "looking") (ds := "I") (w' := (sm_S E X (Y ++ [(a1, .inl (E.2 0, n, .inl (sm_cp N 6 n))), (a2, .inl (E.2 0, n, .inl (sm_cp N 9 n)))]) p n (sm_l1 S N mi (sm_cp N 6 n) (sm_cp N 9 n) n j).1 (va_up (sm_l1 S N mi (sm_cp N 6 n) (sm_cp N 9 n) n j).2 j (hb_fu ((sm_l1 S N mi (sm_cp N 6 n) (sm_cp N 9 n) n j).2 j) 8 0)) mi)) K dX4_pass_227 hin_RX3 tyX3 tyX3_ok nmX3 (by decide +kernel) (X.length + (13 + j)) (sm_h hlt) rfl 8 rfl (by decide) rfl rfl rfl rfl (Nat.le_of_ble_eq_true rfl) (sm_sh (f := (hb_fu ((sm_l1 S N mi (sm_cp N 6 n) (sm_cp N 9 n) n j).2 j) 8 0)) hlt rfl) ?_
            refine jk_iload K dX4_pass_230 0 rfl ?_
            refine jk_if_eq (tgt := 268) K dX4_pass_232 rfl (fun c_232 => ?_) (fun c_232 => ?_)
            · refine jk_iinc (v := (nI (j + 1))) (lv' := [(6, .int (nI (j + 1))), (9, .int 0), (8, .int (sm_o (sm_ne ((sm_l1 S N mi (sm_cp N 6 n) (sm_cp N 9 n) n j).1 1) (mi j) (sm_cp N 6 n) n n))), (7, .ref (p (13 + j))), (5, .int (nI n)), (4, .ref (p 1)), (3, .ref a2), (2, .ref a1), (1, .int (nI n)), (0, .ref (p 0))]) K dX4_pass_268 3 rfl (nI_1 j) (by decide) rfl ?_
              refine jk_goto (tgt := 71) K dX4_pass_271 rfl ?_
              refine jk_sub (lv' := [(6, .int (nI (j + 1))), (5, .int (nI n)), (4, .ref (p 1)), (3, .ref a2), (2, .ref a1), (1, .int (nI n)), (0, .ref (p 0))]) [0, 4, 5, 6, 7, 8, 9] rfl ?_
              refine jk_ws (ws' := (sm_S E X (Y ++ [(a1, .inl (E.2 0, n, .inl (sm_cp N 6 n))), (a2, .inl (E.2 0, n, .inl (sm_cp N 9 n)))]) p n (sm_l1 S N mi (sm_cp N 6 n) (sm_cp N 9 n) n (j + 1)).1 (sm_l1 S N mi (sm_cp N 6 n) (sm_cp N 9 n) n (j + 1)).2 mi)) (by rw [sm_l1_s, sm_lk_0 (by unfold sm_is; rw [if_pos c_171, if_pos c_179])] <;> rfl) ?_
              exact ih hlt a1 a2
            · exact absurd (by decide) c_232
          · exact absurd (by decide) c_213
        · rcases hq : (sm_ne ((sm_l1 S N mi (sm_cp N 6 n) (sm_cp N 9 n) n j).1 1) (mi j) (sm_cp N 6 n) n n) with _ | b
          · refine jk_lv (lv' := [(8, .int (-1)), (7, .ref (p (13 + j))), (6, .int (nI j)), (5, .int (nI n)), (4, .ref (p 1)), (3, .ref a2), (2, .ref a1), (1, .int (nI n)), (0, .ref (p 0))]) rfl ?_
            refine jk_iload K dX4_pass_182 0 rfl ?_
            refine jk_if_ge (tgt := 202) K dX4_pass_184 rfl (fun c_184 => ?_) (fun c_184 => ?_)
            · exact absurd c_184 (by decide)
            · refine jk_aload K dX4_pass_187 1 rfl ?_
              refine jk_get (C := RX3) (T := TX3) (N := 11) (nm := "east") (ds := "Z") (v := .int (hb_zb (((sm_l1 S N mi (sm_cp N 6 n) (sm_cp N 9 n) n j).2 j) 4))) K dX4_pass_189 hin_RX3 (by decide +kernel) (X.length + (13 + j)) (sm_h hlt) rfl 4 rfl (by decide) rfl ?_
              refine jk_if_eq (tgt := 206) K dX4_pass_192 rfl (fun c_192 => ?_) (fun c_192 => ?_)
              · refine jk_iconst (x := 0) K dX4_pass_206 rfl ?_
                refine jk_istore (lv' := [(9, .int 0), (8, .int (-1)), (7, .ref (p (13 + j))), (6, .int (nI j)), (5, .int (nI n)), (4, .ref (p 1)), (3, .ref a2), (2, .ref a1), (1, .int (nI n)), (0, .ref (p 0))]) K dX4_pass_207 (by decide) rfl ?_
                refine jk_aload K dX4_pass_209 2 rfl ?_
                refine jk_iload K dX4_pass_211 0 rfl ?_
                refine jk_if_eq (tgt := 226) K dX4_pass_213 rfl (fun c_213 => ?_) (fun c_213 => ?_)
                · refine jk_iconst (x := 0) K dX4_pass_226 rfl ?_
                  refine jk_put (C := RX3) (T := TX3) (N := 11) (nm := "looking") (ds := "I") (w' := (sm_S E X (Y ++ [(a1, .inl (E.2 0, n, .inl (sm_cp N 6 n))), (a2, .inl (E.2 0, n, .inl (sm_cp N 9 n)))]) p n (sm_l1 S N mi (sm_cp N 6 n) (sm_cp N 9 n) n j).1 (va_up (sm_l1 S N mi (sm_cp N 6 n) (sm_cp N 9 n) n j).2 j (hb_fu ((sm_l1 S N mi (sm_cp N 6 n) (sm_cp N 9 n) n j).2 j) 8 0)) mi)) K dX4_pass_227 hin_RX3 tyX3 tyX3_ok nmX3 (by decide +kernel) (X.length + (13 + j)) (sm_h hlt) rfl 8 rfl (by decide) rfl rfl rfl rfl (Nat.le_of_ble_eq_true rfl) (sm_sh (f := (hb_fu ((sm_l1 S N mi (sm_cp N 6 n) (sm_cp N 9 n) n j).2 j) 8 0)) hlt rfl) ?_
                  refine jk_iload K dX4_pass_230 0 rfl ?_
                  refine jk_if_eq (tgt := 268) K dX4_pass_232 rfl (fun c_232 => ?_) (fun c_232 => ?_)
                  · refine jk_iinc (v := (nI (j + 1))) (lv' := [(6, .int (nI (j + 1))), (9, .int 0), (8, .int (-1)), (7, .ref (p (13 + j))), (5, .int (nI n)), (4, .ref (p 1)), (3, .ref a2), (2, .ref a1), (1, .int (nI n)), (0, .ref (p 0))]) K dX4_pass_268 3 rfl (nI_1 j) (by decide) rfl ?_
                    refine jk_goto (tgt := 71) K dX4_pass_271 rfl ?_
                    refine jk_sub (lv' := [(6, .int (nI (j + 1))), (5, .int (nI n)), (4, .ref (p 1)), (3, .ref a2), (2, .ref a1), (1, .int (nI n)), (0, .ref (p 0))]) [0, 4, 5, 6, 7, 8, 9] rfl ?_
                    refine jk_ws (ws' := (sm_S E X (Y ++ [(a1, .inl (E.2 0, n, .inl (sm_cp N 6 n))), (a2, .inl (E.2 0, n, .inl (sm_cp N 9 n)))]) p n (sm_l1 S N mi (sm_cp N 6 n) (sm_cp N 9 n) n (j + 1)).1 (sm_l1 S N mi (sm_cp N 6 n) (sm_cp N 9 n) n (j + 1)).2 mi)) (by rw [sm_l1_s, sm_lk_0 (by rw [hq]; unfold sm_is; rw [if_pos c_171, if_neg c_179]; show (if _ then _ else _) = _; rw [if_pos c_192])] <;> rfl) ?_
                    exact ih hlt a1 a2
                  · exact absurd (by decide) c_232
                · exact absurd (by decide) c_213
              · refine jk_aload_n K dX4_pass_195 rfl 8 rfl ?_
                refine jk_get (C := RX4) (T := TX4) (N := 7) (nm := "glow") (ds := "I") (v := .int ((sm_l1 S N mi (sm_cp N 6 n) (sm_cp N 9 n) n j).1 2)) K dX4_pass_196 hin_RX4 (by decide +kernel) (X.length + 0) sm_0 rfl 2 rfl (by decide) rfl ?_
                refine jk_if_le (tgt := 206) K dX4_pass_199 rfl (fun c_199 => ?_) (fun c_199 => ?_)
                · refine jk_iconst (x := 0) K dX4_pass_206 rfl ?_
                  refine jk_istore (lv' := [(9, .int 0), (8, .int (-1)), (7, .ref (p (13 + j))), (6, .int (nI j)), (5, .int (nI n)), (4, .ref (p 1)), (3, .ref a2), (2, .ref a1), (1, .int (nI n)), (0, .ref (p 0))]) K dX4_pass_207 (by decide) rfl ?_
                  refine jk_aload K dX4_pass_209 2 rfl ?_
                  refine jk_iload K dX4_pass_211 0 rfl ?_
                  refine jk_if_eq (tgt := 226) K dX4_pass_213 rfl (fun c_213 => ?_) (fun c_213 => ?_)
                  · refine jk_iconst (x := 0) K dX4_pass_226 rfl ?_
                    refine jk_put (C := RX3) (T := TX3) (N := 11) (nm := "looking") (ds := "I") (w' := (sm_S E X (Y ++ [(a1, .inl (E.2 0, n, .inl (sm_cp N 6 n))), (a2, .inl (E.2 0, n, .inl (sm_cp N 9 n)))]) p n (sm_l1 S N mi (sm_cp N 6 n) (sm_cp N 9 n) n j).1 (va_up (sm_l1 S N mi (sm_cp N 6 n) (sm_cp N 9 n) n j).2 j (hb_fu ((sm_l1 S N mi (sm_cp N 6 n) (sm_cp N 9 n) n j).2 j) 8 0)) mi)) K dX4_pass_227 hin_RX3 tyX3 tyX3_ok nmX3 (by decide +kernel) (X.length + (13 + j)) (sm_h hlt) rfl 8 rfl (by decide) rfl rfl rfl rfl (Nat.le_of_ble_eq_true rfl) (sm_sh (f := (hb_fu ((sm_l1 S N mi (sm_cp N 6 n) (sm_cp N 9 n) n j).2 j) 8 0)) hlt rfl) ?_
                    refine jk_iload K dX4_pass_230 0 rfl ?_
                    refine jk_if_eq (tgt := 268) K dX4_pass_232 rfl (fun c_232 => ?_) (fun c_232 => ?_)
                    · refine jk_iinc (v := (nI (j + 1))) (lv' := [(6, .int (nI (j + 1))), (9, .int 0), (8, .int (-1)), (7, .ref (p (13 + j))), (5, .int (nI n)), (4, .ref (p 1)), (3, .ref a2), (2, .ref a1), (1, .int (nI n)), (0, .ref (p 0))]) K dX4_pass_268 3 rfl (nI_1 j) (by decide) rfl ?_
                      refine jk_goto (tgt := 71) K dX4_pass_271 rfl ?_
                      refine jk_sub (lv' := [(6, .int (nI (j + 1))), (5, .int (nI n)), (4, .ref (p 1)), (3, .ref a2), (2, .ref a1), (1, .int (nI n)), (0, .ref (p 0))]) [0, 4, 5, 6, 7, 8, 9] rfl ?_
                      refine jk_ws (ws' := (sm_S E X (Y ++ [(a1, .inl (E.2 0, n, .inl (sm_cp N 6 n))), (a2, .inl (E.2 0, n, .inl (sm_cp N 9 n)))]) p n (sm_l1 S N mi (sm_cp N 6 n) (sm_cp N 9 n) n (j + 1)).1 (sm_l1 S N mi (sm_cp N 6 n) (sm_cp N 9 n) n (j + 1)).2 mi)) (by rw [sm_l1_s, sm_lk_0 (by rw [hq]; unfold sm_is; rw [if_pos c_171, if_neg c_179]; show (if _ then _ else _) = _; rw [if_neg c_192, if_pos c_199])] <;> rfl) ?_
                      exact ih hlt a1 a2
                    · exact absurd (by decide) c_232
                  · exact absurd (by decide) c_213
                · refine jk_iconst (x := 1) K dX4_pass_202 rfl ?_
                  refine jk_goto (tgt := 207) K dX4_pass_203 rfl ?_
                  refine jk_istore (lv' := [(9, .int 1), (8, .int (-1)), (7, .ref (p (13 + j))), (6, .int (nI j)), (5, .int (nI n)), (4, .ref (p 1)), (3, .ref a2), (2, .ref a1), (1, .int (nI n)), (0, .ref (p 0))]) K dX4_pass_207 (by decide) rfl ?_
                  refine jk_aload K dX4_pass_209 2 rfl ?_
                  refine jk_iload K dX4_pass_211 0 rfl ?_
                  refine jk_if_eq (tgt := 226) K dX4_pass_213 rfl (fun c_213 => ?_) (fun c_213 => ?_)
                  · exact absurd c_213 (by decide)
                  · refine jk_aload K dX4_pass_216 2 rfl ?_
                    refine jk_get (C := RX3) (T := TX3) (N := 11) (nm := "looking") (ds := "I") (v := .int (((sm_l1 S N mi (sm_cp N 6 n) (sm_cp N 9 n) n j).2 j) 8)) K dX4_pass_218 hin_RX3 (by decide +kernel) (X.length + (13 + j)) (sm_h hlt) rfl 8 rfl (by decide) rfl ?_
                    refine jk_iconst (x := 1) K dX4_pass_221 rfl ?_
                    refine jk_iadd K dX4_pass_222 ?_
                    refine jk_goto (tgt := 227) K dX4_pass_223 rfl ?_
                    refine jk_put (C := RX3) (T := TX3) (N := 11) (nm := "looking") (ds := "I") (w' := (sm_S E X (Y ++ [(a1, .inl (E.2 0, n, .inl (sm_cp N 6 n))), (a2, .inl (E.2 0, n, .inl (sm_cp N 9 n)))]) p n (sm_l1 S N mi (sm_cp N 6 n) (sm_cp N 9 n) n j).1 (va_up (sm_l1 S N mi (sm_cp N 6 n) (sm_cp N 9 n) n j).2 j (hb_fu ((sm_l1 S N mi (sm_cp N 6 n) (sm_cp N 9 n) n j).2 j) 8 ((((sm_l1 S N mi (sm_cp N 6 n) (sm_cp N 9 n) n j).2 j) 8) + 1))) mi)) K dX4_pass_227 hin_RX3 tyX3 tyX3_ok nmX3 (by decide +kernel) (X.length + (13 + j)) (sm_h hlt) rfl 8 rfl (by decide) rfl rfl rfl rfl (Nat.le_of_ble_eq_true rfl) (sm_sh (f := (hb_fu ((sm_l1 S N mi (sm_cp N 6 n) (sm_cp N 9 n) n j).2 j) 8 ((((sm_l1 S N mi (sm_cp N 6 n) (sm_cp N 9 n) n j).2 j) 8) + 1))) hlt rfl) ?_
                    refine jk_iload K dX4_pass_230 0 rfl ?_
                    refine jk_if_eq (tgt := 268) K dX4_pass_232 rfl (fun c_232 => ?_) (fun c_232 => ?_)
                    · exact absurd c_232 (by decide)
                    · refine jk_aload K dX4_pass_235 2 rfl ?_
                      refine jk_get (C := RX3) (T := TX3) (N := 11) (nm := "looking") (ds := "I") (v := .int ((((sm_l1 S N mi (sm_cp N 6 n) (sm_cp N 9 n) n j).2 j) 8) + 1)) K dX4_pass_237 hin_RX3 (by decide +kernel) (X.length + (13 + j)) (sm_hu hlt) rfl 8 rfl (by decide) rfl ?_
                      refine jk_aload K dX4_pass_240 2 rfl ?_
                      refine jk_get (C := RX3) (T := TX3) (N := 11) (nm := "watch") (ds := "I") (v := .int (((sm_l1 S N mi (sm_cp N 6 n) (sm_cp N 9 n) n j).2 j) 3)) K dX4_pass_242 hin_RX3 (by decide +kernel) (X.length + (13 + j)) (sm_hu hlt) rfl 3 rfl (by decide) rfl ?_
                      refine jk_icmp_lt (tgt := 268) K dX4_pass_245 rfl (fun c_245 => ?_) (fun c_245 => ?_)
                      · refine jk_iinc (v := (nI (j + 1))) (lv' := [(6, .int (nI (j + 1))), (9, .int 1), (8, .int (-1)), (7, .ref (p (13 + j))), (5, .int (nI n)), (4, .ref (p 1)), (3, .ref a2), (2, .ref a1), (1, .int (nI n)), (0, .ref (p 0))]) K dX4_pass_268 3 rfl (nI_1 j) (by decide) rfl ?_
                        refine jk_goto (tgt := 71) K dX4_pass_271 rfl ?_
                        refine jk_sub (lv' := [(6, .int (nI (j + 1))), (5, .int (nI n)), (4, .ref (p 1)), (3, .ref a2), (2, .ref a1), (1, .int (nI n)), (0, .ref (p 0))]) [0, 4, 5, 6, 7, 8, 9] rfl ?_
                        refine jk_ws (ws' := (sm_S E X (Y ++ [(a1, .inl (E.2 0, n, .inl (sm_cp N 6 n))), (a2, .inl (E.2 0, n, .inl (sm_cp N 9 n)))]) p n (sm_l1 S N mi (sm_cp N 6 n) (sm_cp N 9 n) n (j + 1)).1 (sm_l1 S N mi (sm_cp N 6 n) (sm_cp N 9 n) n (j + 1)).2 mi)) (by rw [sm_l1_s, sm_lk_1 (by rw [hq]; unfold sm_is; rw [if_pos c_171, if_neg c_179]; show (if _ then _ else _) = _; rw [if_neg c_192, if_neg c_199]) c_245] <;> rfl) ?_
                        exact ih hlt a1 a2
                      · refine jk_aload_n K dX4_pass_248 rfl 9 rfl ?_
                        refine jk_aload K dX4_pass_249 2 rfl ?_
                        refine jk_iload K dX4_pass_251 1 rfl ?_
                        refine jk_if_ge (tgt := 260) K dX4_pass_253 rfl (fun c_253 => ?_) (fun c_253 => ?_)
                        · exact absurd c_253 (by decide)
                        · refine jk_iconst (x := (-1)) K dX4_pass_256 rfl ?_
                          refine jk_goto (tgt := 264) K dX4_pass_257 rfl ?_
                          refine jk_cVi K (n' := 2) (k' := (n + n)) [.ref (p (13 + j)), .int (-1)] [] dX4_pass_264 (hb_X4_light _ hl E X (Y ++ [(a1, .inl (E.2 0, n, .inl (sm_cp N 6 n))), (a2, .inl (E.2 0, n, .inl (sm_cp N 9 n)))]) p n hn (sm_l1 S N mi (sm_cp N 6 n) (sm_cp N 9 n) n j).1 (va_up (sm_l1 S N mi (sm_cp N 6 n) (sm_cp N 9 n) n j).2 j (hb_fu ((sm_l1 S N mi (sm_cp N 6 n) (sm_cp N 9 n) n j).2 j) 8 ((((sm_l1 S N mi (sm_cp N 6 n) (sm_cp N 9 n) n j).2 j) 8) + 1))) mi j hlt (-1)) gX4_pass_X4_light rfl kd_X4_light ⟨Nat.le_of_ble_eq_true rfl, Nat.le_of_ble_eq_true rfl⟩ (X.length + 0) sm_0 rfl (Nat.le_of_ble_eq_true rfl) ⟨rfl, rfl⟩ ⟨Nat.le_of_ble_eq_true rfl, (by show _ ≤ 20; omega)⟩ rfl (fun _ _ => ?_)
                          refine jk_ws (ws' := (sm_S E X (Y ++ [(a1, .inl (E.2 0, n, .inl (sm_cp N 6 n))), (a2, .inl (E.2 0, n, .inl (sm_cp N 9 n)))]) p n (sm_kS (sm_l1 S N mi (sm_cp N 6 n) (sm_cp N 9 n) n j).1 (-1)) (va_up (sm_l1 S N mi (sm_cp N 6 n) (sm_cp N 9 n) n j).2 j (sm_kF (hb_fu ((sm_l1 S N mi (sm_cp N 6 n) (sm_cp N 9 n) n j).2 j) 8 ((((sm_l1 S N mi (sm_cp N 6 n) (sm_cp N 9 n) n j).2 j) 8) + 1)) (-1))) mi)) (by rw [va_up_self, hb_up_up]) ?_
                          refine jk_pop K dX4_pass_267 rfl ?_
                          refine jk_iinc (v := (nI (j + 1))) (lv' := [(6, .int (nI (j + 1))), (9, .int 1), (8, .int (-1)), (7, .ref (p (13 + j))), (5, .int (nI n)), (4, .ref (p 1)), (3, .ref a2), (2, .ref a1), (1, .int (nI n)), (0, .ref (p 0))]) K dX4_pass_268 3 rfl (nI_1 j) (by decide) rfl ?_
                          refine jk_goto (tgt := 71) K dX4_pass_271 rfl ?_
                          refine jk_sub (lv' := [(6, .int (nI (j + 1))), (5, .int (nI n)), (4, .ref (p 1)), (3, .ref a2), (2, .ref a1), (1, .int (nI n)), (0, .ref (p 0))]) [0, 4, 5, 6, 7, 8, 9] rfl ?_
                          refine jk_ws (ws' := (sm_S E X (Y ++ [(a1, .inl (E.2 0, n, .inl (sm_cp N 6 n))), (a2, .inl (E.2 0, n, .inl (sm_cp N 9 n)))]) p n (sm_l1 S N mi (sm_cp N 6 n) (sm_cp N 9 n) n (j + 1)).1 (sm_l1 S N mi (sm_cp N 6 n) (sm_cp N 9 n) n (j + 1)).2 mi)) (by rw [sm_l1_s, sm_lk_2 (by rw [hq]; unfold sm_is; rw [if_pos c_171, if_neg c_179]; show (if _ then _ else _) = _; rw [if_neg c_192, if_neg c_199]) c_245 (show sm_src _ _ = -1 by rw [hq] <;> rfl)] <;> rfl) ?_
                          exact ih hlt a1 a2
          · refine jk_lv (lv' := [(8, .int (nI b)), (7, .ref (p (13 + j))), (6, .int (nI j)), (5, .int (nI n)), (4, .ref (p 1)), (3, .ref a2), (2, .ref a1), (1, .int (nI n)), (0, .ref (p 0))]) rfl ?_
            have hb : b < n := sm_ne_lt _ _ _ _ _ _ (Nat.le_refl n) hq
            refine jk_iload K dX4_pass_182 0 rfl ?_
            refine jk_if_ge (tgt := 202) K dX4_pass_184 rfl (fun c_184 => ?_) (fun c_184 => ?_)
            · refine jk_iconst (x := 1) K dX4_pass_202 rfl ?_
              refine jk_goto (tgt := 207) K dX4_pass_203 rfl ?_
              refine jk_istore (lv' := [(9, .int 1), (8, .int (nI b)), (7, .ref (p (13 + j))), (6, .int (nI j)), (5, .int (nI n)), (4, .ref (p 1)), (3, .ref a2), (2, .ref a1), (1, .int (nI n)), (0, .ref (p 0))]) K dX4_pass_207 (by decide) rfl ?_
              refine jk_aload K dX4_pass_209 2 rfl ?_
              refine jk_iload K dX4_pass_211 0 rfl ?_
              refine jk_if_eq (tgt := 226) K dX4_pass_213 rfl (fun c_213 => ?_) (fun c_213 => ?_)
              · exact absurd c_213 (by decide)
              · refine jk_aload K dX4_pass_216 2 rfl ?_
                refine jk_get (C := RX3) (T := TX3) (N := 11) (nm := "looking") (ds := "I") (v := .int (((sm_l1 S N mi (sm_cp N 6 n) (sm_cp N 9 n) n j).2 j) 8)) K dX4_pass_218 hin_RX3 (by decide +kernel) (X.length + (13 + j)) (sm_h hlt) rfl 8 rfl (by decide) rfl ?_
                refine jk_iconst (x := 1) K dX4_pass_221 rfl ?_
                refine jk_iadd K dX4_pass_222 ?_
                refine jk_goto (tgt := 227) K dX4_pass_223 rfl ?_
                refine jk_put (C := RX3) (T := TX3) (N := 11) (nm := "looking") (ds := "I") (w' := (sm_S E X (Y ++ [(a1, .inl (E.2 0, n, .inl (sm_cp N 6 n))), (a2, .inl (E.2 0, n, .inl (sm_cp N 9 n)))]) p n (sm_l1 S N mi (sm_cp N 6 n) (sm_cp N 9 n) n j).1 (va_up (sm_l1 S N mi (sm_cp N 6 n) (sm_cp N 9 n) n j).2 j (hb_fu ((sm_l1 S N mi (sm_cp N 6 n) (sm_cp N 9 n) n j).2 j) 8 ((((sm_l1 S N mi (sm_cp N 6 n) (sm_cp N 9 n) n j).2 j) 8) + 1))) mi)) K dX4_pass_227 hin_RX3 tyX3 tyX3_ok nmX3 (by decide +kernel) (X.length + (13 + j)) (sm_h hlt) rfl 8 rfl (by decide) rfl rfl rfl rfl (Nat.le_of_ble_eq_true rfl) (sm_sh (f := (hb_fu ((sm_l1 S N mi (sm_cp N 6 n) (sm_cp N 9 n) n j).2 j) 8 ((((sm_l1 S N mi (sm_cp N 6 n) (sm_cp N 9 n) n j).2 j) 8) + 1))) hlt rfl) ?_
                refine jk_iload K dX4_pass_230 0 rfl ?_
                refine jk_if_eq (tgt := 268) K dX4_pass_232 rfl (fun c_232 => ?_) (fun c_232 => ?_)
                · exact absurd c_232 (by decide)
                · refine jk_aload K dX4_pass_235 2 rfl ?_
                  refine jk_get (C := RX3) (T := TX3) (N := 11) (nm := "looking") (ds := "I") (v := .int ((((sm_l1 S N mi (sm_cp N 6 n) (sm_cp N 9 n) n j).2 j) 8) + 1)) K dX4_pass_237 hin_RX3 (by decide +kernel) (X.length + (13 + j)) (sm_hu hlt) rfl 8 rfl (by decide) rfl ?_
                  refine jk_aload K dX4_pass_240 2 rfl ?_
                  refine jk_get (C := RX3) (T := TX3) (N := 11) (nm := "watch") (ds := "I") (v := .int (((sm_l1 S N mi (sm_cp N 6 n) (sm_cp N 9 n) n j).2 j) 3)) K dX4_pass_242 hin_RX3 (by decide +kernel) (X.length + (13 + j)) (sm_hu hlt) rfl 3 rfl (by decide) rfl ?_
                  refine jk_icmp_lt (tgt := 268) K dX4_pass_245 rfl (fun c_245 => ?_) (fun c_245 => ?_)
                  · refine jk_iinc (v := (nI (j + 1))) (lv' := [(6, .int (nI (j + 1))), (9, .int 1), (8, .int (nI b)), (7, .ref (p (13 + j))), (5, .int (nI n)), (4, .ref (p 1)), (3, .ref a2), (2, .ref a1), (1, .int (nI n)), (0, .ref (p 0))]) K dX4_pass_268 3 rfl (nI_1 j) (by decide) rfl ?_
                    refine jk_goto (tgt := 71) K dX4_pass_271 rfl ?_
                    refine jk_sub (lv' := [(6, .int (nI (j + 1))), (5, .int (nI n)), (4, .ref (p 1)), (3, .ref a2), (2, .ref a1), (1, .int (nI n)), (0, .ref (p 0))]) [0, 4, 5, 6, 7, 8, 9] rfl ?_
                    refine jk_ws (ws' := (sm_S E X (Y ++ [(a1, .inl (E.2 0, n, .inl (sm_cp N 6 n))), (a2, .inl (E.2 0, n, .inl (sm_cp N 9 n)))]) p n (sm_l1 S N mi (sm_cp N 6 n) (sm_cp N 9 n) n (j + 1)).1 (sm_l1 S N mi (sm_cp N 6 n) (sm_cp N 9 n) n (j + 1)).2 mi)) (by rw [sm_l1_s, sm_lk_1 (by rw [hq]; unfold sm_is; rw [if_pos c_171, if_neg c_179] <;> rfl) c_245] <;> rfl) ?_
                    exact ih hlt a1 a2
                  · refine jk_aload_n K dX4_pass_248 rfl 9 rfl ?_
                    refine jk_aload K dX4_pass_249 2 rfl ?_
                    refine jk_iload K dX4_pass_251 1 rfl ?_
                    refine jk_if_ge (tgt := 260) K dX4_pass_253 rfl (fun c_253 => ?_) (fun c_253 => ?_)
                    · refine jk_aload_n K dX4_pass_260 rfl 6 rfl ?_
                      refine jk_iload K dX4_pass_261 1 rfl ?_
                      refine jk_iald (v := ((sm_cp N 9 n) b)) K dX4_pass_263 (X.length + (13 + n + (Y.length + 1))) (sm_yat rfl) (vp_in_nI hb (by omega)) (by rw [nI_clamp (by omega)]) ?_
                      refine jk_cVi K (n' := 2) (k' := (n + n)) [.ref (p (13 + j)), .int ((sm_cp N 9 n) b)] [] dX4_pass_264 (hb_X4_light _ hl E X (Y ++ [(a1, .inl (E.2 0, n, .inl (sm_cp N 6 n))), (a2, .inl (E.2 0, n, .inl (sm_cp N 9 n)))]) p n hn (sm_l1 S N mi (sm_cp N 6 n) (sm_cp N 9 n) n j).1 (va_up (sm_l1 S N mi (sm_cp N 6 n) (sm_cp N 9 n) n j).2 j (hb_fu ((sm_l1 S N mi (sm_cp N 6 n) (sm_cp N 9 n) n j).2 j) 8 ((((sm_l1 S N mi (sm_cp N 6 n) (sm_cp N 9 n) n j).2 j) 8) + 1))) mi j hlt ((sm_cp N 9 n) b)) gX4_pass_X4_light rfl kd_X4_light ⟨Nat.le_of_ble_eq_true rfl, Nat.le_of_ble_eq_true rfl⟩ (X.length + 0) sm_0 rfl (Nat.le_of_ble_eq_true rfl) ⟨rfl, rfl⟩ ⟨Nat.le_of_ble_eq_true rfl, (by show _ ≤ 20; omega)⟩ rfl (fun _ _ => ?_)
                      refine jk_ws (ws' := (sm_S E X (Y ++ [(a1, .inl (E.2 0, n, .inl (sm_cp N 6 n))), (a2, .inl (E.2 0, n, .inl (sm_cp N 9 n)))]) p n (sm_kS (sm_l1 S N mi (sm_cp N 6 n) (sm_cp N 9 n) n j).1 ((sm_cp N 9 n) b)) (va_up (sm_l1 S N mi (sm_cp N 6 n) (sm_cp N 9 n) n j).2 j (sm_kF (hb_fu ((sm_l1 S N mi (sm_cp N 6 n) (sm_cp N 9 n) n j).2 j) 8 ((((sm_l1 S N mi (sm_cp N 6 n) (sm_cp N 9 n) n j).2 j) 8) + 1)) ((sm_cp N 9 n) b))) mi)) (by rw [va_up_self, hb_up_up]) ?_
                      refine jk_pop K dX4_pass_267 rfl ?_
                      refine jk_iinc (v := (nI (j + 1))) (lv' := [(6, .int (nI (j + 1))), (9, .int 1), (8, .int (nI b)), (7, .ref (p (13 + j))), (5, .int (nI n)), (4, .ref (p 1)), (3, .ref a2), (2, .ref a1), (1, .int (nI n)), (0, .ref (p 0))]) K dX4_pass_268 3 rfl (nI_1 j) (by decide) rfl ?_
                      refine jk_goto (tgt := 71) K dX4_pass_271 rfl ?_
                      refine jk_sub (lv' := [(6, .int (nI (j + 1))), (5, .int (nI n)), (4, .ref (p 1)), (3, .ref a2), (2, .ref a1), (1, .int (nI n)), (0, .ref (p 0))]) [0, 4, 5, 6, 7, 8, 9] rfl ?_
                      refine jk_ws (ws' := (sm_S E X (Y ++ [(a1, .inl (E.2 0, n, .inl (sm_cp N 6 n))), (a2, .inl (E.2 0, n, .inl (sm_cp N 9 n)))]) p n (sm_l1 S N mi (sm_cp N 6 n) (sm_cp N 9 n) n (j + 1)).1 (sm_l1 S N mi (sm_cp N 6 n) (sm_cp N 9 n) n (j + 1)).2 mi)) (by rw [sm_l1_s, sm_lk_2 (by rw [hq]; unfold sm_is; rw [if_pos c_171, if_neg c_179] <;> rfl) c_245 (show sm_src _ _ = (sm_cp N 9 n) b by rw [hq] <;> rfl)] <;> rfl) ?_
                      exact ih hlt a1 a2
                    · exact absurd c_253 (fun q => q (Int32.not_lt.mp (nI_pos (by omega))))
            · exact absurd c_184 (fun q => q (Int32.not_lt.mp (nI_pos (by omega))))
    have hI : j < n → ∀ d, d ≤ n → jk_J Γ E (sm_S E X (Y ++ [(a1, .inl (E.2 0, n, .inl (sm_cp N 6 n))), (a2, .inl (E.2 0, n, .inl (sm_cp N 9 n)))]) p n (sm_l1 S N mi (sm_cp N 6 n) (sm_cp N 9 n) n j).1 (sm_l1 S N mi (sm_cp N 6 n) (sm_cp N 9 n) n j).2 mi) 2 (n + n) 93 [(9, .int (nI (n - d) - 1)), (8, .int (sm_o (sm_ne ((sm_l1 S N mi (sm_cp N 6 n) (sm_cp N 9 n) n j).1 1) (mi j) (sm_cp N 6 n) n d))), (7, .ref (p (13 + j))), (6, .int (nI j)), (5, .int (nI n)), (4, .ref (p 1)), (3, .ref a2), (2, .ref a1), (1, .int (nI n)), (0, .ref (p 0))] [] := by
      intro hlt
      refine jk_loop (fun d hd ihd => ?_)
      refine jk_iload K dX4_pass_93 0 rfl ?_
      refine jk_if_lt (tgt := 164) K dX4_pass_95 rfl (fun c_95 => ?_) (fun c_95 => ?_)
      · have hdn : d = n := sm_deq hd (by omega) c_95
        refine jk_sub (lv' := [(8, .int (sm_o (sm_ne ((sm_l1 S N mi (sm_cp N 6 n) (sm_cp N 9 n) n j).1 1) (mi j) (sm_cp N 6 n) n d))), (7, .ref (p (13 + j))), (6, .int (nI j)), (5, .int (nI n)), (4, .ref (p 1)), (3, .ref a2), (2, .ref a1), (1, .int (nI n)), (0, .ref (p 0))]) [1, 2, 3, 4, 5, 6, 7, 8, 9] rfl ?_
        refine jk_lv (lv' := [(8, .int (sm_o (sm_ne ((sm_l1 S N mi (sm_cp N 6 n) (sm_cp N 9 n) n j).1 1) (mi j) (sm_cp N 6 n) n n))), (7, .ref (p (13 + j))), (6, .int (nI j)), (5, .int (nI n)), (4, .ref (p 1)), (3, .ref a2), (2, .ref a1), (1, .int (nI n)), (0, .ref (p 0))]) (by rw [hdn]) ?_
        exact hC hlt
      · have hld : d < n := sm_dlt hd c_95
        have hk : n - 1 - d < n := by omega
        refine jk_lv (lv' := [(9, .int (nI (n - 1 - d))), (8, .int (sm_o (sm_ne ((sm_l1 S N mi (sm_cp N 6 n) (sm_cp N 9 n) n j).1 1) (mi j) (sm_cp N 6 n) n d))), (7, .ref (p (13 + j))), (6, .int (nI j)), (5, .int (nI n)), (4, .ref (p 1)), (3, .ref a2), (2, .ref a1), (1, .int (nI n)), (0, .ref (p 0))]) (by rw [sm_dn hld]) ?_
        refine jk_aload_n K dX4_pass_98 rfl 7 rfl ?_
        refine jk_iload K dX4_pass_99 0 rfl ?_
        refine jk_iald (v := ((sm_cp N 6 n) (n - 1 - d))) K dX4_pass_101 (X.length + (13 + n + (Y.length + 0))) (sm_yat rfl) (vp_in_nI hk (by omega)) (by rw [nI_clamp (by omega)]) ?_
        refine jk_iconst (x := 2) K dX4_pass_102 rfl ?_
        refine jk_icmp_ne (tgt := 158) K dX4_pass_103 rfl (fun c_103 => ?_) (fun c_103 => ?_)
        · refine jk_iinc (v := (nI (n - (d + 1)) - 1)) (lv' := [(9, .int (nI (n - (d + 1)) - 1)), (8, .int (sm_o (sm_ne ((sm_l1 S N mi (sm_cp N 6 n) (sm_cp N 9 n) n j).1 1) (mi j) (sm_cp N 6 n) n d))), (7, .ref (p (13 + j))), (6, .int (nI j)), (5, .int (nI n)), (4, .ref (p 1)), (3, .ref a2), (2, .ref a1), (1, .int (nI n)), (0, .ref (p 0))]) K dX4_pass_158 0 rfl sm_dec (by decide) rfl ?_
          refine jk_goto (tgt := 93) K dX4_pass_161 rfl ?_
          refine jk_lv (lv' := [(9, .int (nI (n - (d + 1)) - 1)), (8, .int (sm_o (sm_ne ((sm_l1 S N mi (sm_cp N 6 n) (sm_cp N 9 n) n j).1 1) (mi j) (sm_cp N 6 n) n (d + 1)))), (7, .ref (p (13 + j))), (6, .int (nI j)), (5, .int (nI n)), (4, .ref (p 1)), (3, .ref a2), (2, .ref a1), (1, .int (nI n)), (0, .ref (p 0))]) (by rw [show sm_o (sm_ne ((sm_l1 S N mi (sm_cp N 6 n) (sm_cp N 9 n) n j).1 1) (mi j) (sm_cp N 6 n) n (d + 1)) = (sm_o (sm_ne ((sm_l1 S N mi (sm_cp N 6 n) (sm_cp N 9 n) n j).1 1) (mi j) (sm_cp N 6 n) n d)) from by rw [sm_ne_s]; unfold sm_nS; rw [if_neg c_103]]) ?_
          exact ihd hld
        · refine jk_aload_n K dX4_pass_106 rfl 9 rfl ?_
          refine jk_aload K dX4_pass_107 2 rfl ?_
          refine jk_get (C := RX3) (T := TX3) (N := 11) (nm := "number") (ds := "I") (v := .int (((sm_l1 S N mi (sm_cp N 6 n) (sm_cp N 9 n) n j).2 j) 0)) K dX4_pass_109 hin_RX3 (by decide +kernel) (X.length + (13 + j)) (sm_h hlt) rfl 0 rfl (by decide) rfl ?_
          refine jk_st (st' := [.int (nI j), .ref (p 0)]) (by rw [hnoj j hlt]) ?_
          refine jk_iload K dX4_pass_112 0 rfl ?_
          refine jk_cVi K (n' := 2) (k' := (n + n)) [.int (nI j), .int (nI (n - 1 - d))] [] dX4_pass_114 (hb_X4_sees _ hl E X (Y ++ [(a1, .inl (E.2 0, n, .inl (sm_cp N 6 n))), (a2, .inl (E.2 0, n, .inl (sm_cp N 9 n)))]) p n hn (sm_l1 S N mi (sm_cp N 6 n) (sm_cp N 9 n) n j).1 (sm_l1 S N mi (sm_cp N 6 n) (sm_cp N 9 n) n j).2 mi j (n - 1 - d) (Nat.lt_of_lt_of_le hlt hn) (Nat.lt_of_lt_of_le hk hn)) gX4_pass_X4_sees rfl kd_X4_sees ⟨Nat.le_of_ble_eq_true rfl, Nat.le_of_ble_eq_true rfl⟩ (X.length + 0) sm_0 rfl (Nat.le_of_ble_eq_true rfl) ⟨rfl, rfl⟩ ⟨Nat.le_of_ble_eq_true rfl, (by show _ ≤ 20; omega)⟩ rfl (fun _ _ => ?_)
          refine jk_if_eq (tgt := 158) K dX4_pass_117 rfl (fun c_117 => ?_) (fun c_117 => ?_)
          · refine jk_iinc (v := (nI (n - (d + 1)) - 1)) (lv' := [(9, .int (nI (n - (d + 1)) - 1)), (8, .int (sm_o (sm_ne ((sm_l1 S N mi (sm_cp N 6 n) (sm_cp N 9 n) n j).1 1) (mi j) (sm_cp N 6 n) n d))), (7, .ref (p (13 + j))), (6, .int (nI j)), (5, .int (nI n)), (4, .ref (p 1)), (3, .ref a2), (2, .ref a1), (1, .int (nI n)), (0, .ref (p 0))]) K dX4_pass_158 0 rfl sm_dec (by decide) rfl ?_
            refine jk_goto (tgt := 93) K dX4_pass_161 rfl ?_
            refine jk_lv (lv' := [(9, .int (nI (n - (d + 1)) - 1)), (8, .int (sm_o (sm_ne ((sm_l1 S N mi (sm_cp N 6 n) (sm_cp N 9 n) n j).1 1) (mi j) (sm_cp N 6 n) n (d + 1)))), (7, .ref (p (13 + j))), (6, .int (nI j)), (5, .int (nI n)), (4, .ref (p 1)), (3, .ref a2), (2, .ref a1), (1, .int (nI n)), (0, .ref (p 0))]) (by rw [show sm_o (sm_ne ((sm_l1 S N mi (sm_cp N 6 n) (sm_cp N 9 n) n j).1 1) (mi j) (sm_cp N 6 n) n (d + 1)) = (sm_o (sm_ne ((sm_l1 S N mi (sm_cp N 6 n) (sm_cp N 9 n) n j).1 1) (mi j) (sm_cp N 6 n) n d)) from by rw [sm_ne_s]; unfold sm_nS; rw [if_pos c_103, if_pos c_117]]) ?_
            exact ihd hld
          · rcases hq : (sm_ne ((sm_l1 S N mi (sm_cp N 6 n) (sm_cp N 9 n) n j).1 1) (mi j) (sm_cp N 6 n) n d) with _ | b
            · refine jk_lv (lv' := [(9, .int (nI (n - 1 - d))), (8, .int (-1)), (7, .ref (p (13 + j))), (6, .int (nI j)), (5, .int (nI n)), (4, .ref (p 1)), (3, .ref a2), (2, .ref a1), (1, .int (nI n)), (0, .ref (p 0))]) rfl ?_
              refine jk_iload K dX4_pass_120 1 rfl ?_
              refine jk_if_lt (tgt := 154) K dX4_pass_122 rfl (fun c_122 => ?_) (fun c_122 => ?_)
              · refine jk_iload K dX4_pass_154 0 rfl ?_
                refine jk_istore (lv' := [(8, .int (nI (n - 1 - d))), (9, .int (nI (n - 1 - d))), (7, .ref (p (13 + j))), (6, .int (nI j)), (5, .int (nI n)), (4, .ref (p 1)), (3, .ref a2), (2, .ref a1), (1, .int (nI n)), (0, .ref (p 0))]) K dX4_pass_156 (by decide) rfl ?_
                refine jk_iinc (v := (nI (n - (d + 1)) - 1)) (lv' := [(9, .int (nI (n - (d + 1)) - 1)), (8, .int (nI (n - 1 - d))), (7, .ref (p (13 + j))), (6, .int (nI j)), (5, .int (nI n)), (4, .ref (p 1)), (3, .ref a2), (2, .ref a1), (1, .int (nI n)), (0, .ref (p 0))]) K dX4_pass_158 1 rfl sm_dec (by decide) rfl ?_
                refine jk_goto (tgt := 93) K dX4_pass_161 rfl ?_
                refine jk_lv (lv' := [(9, .int (nI (n - (d + 1)) - 1)), (8, .int (sm_o (sm_ne ((sm_l1 S N mi (sm_cp N 6 n) (sm_cp N 9 n) n j).1 1) (mi j) (sm_cp N 6 n) n (d + 1)))), (7, .ref (p (13 + j))), (6, .int (nI j)), (5, .int (nI n)), (4, .ref (p 1)), (3, .ref a2), (2, .ref a1), (1, .int (nI n)), (0, .ref (p 0))]) (by rw [show sm_o (sm_ne ((sm_l1 S N mi (sm_cp N 6 n) (sm_cp N 9 n) n j).1 1) (mi j) (sm_cp N 6 n) n (d + 1)) = (nI (n - 1 - d)) from by rw [sm_ne_s, hq]; unfold sm_nS; rw [if_pos c_103, if_neg c_117] <;> rfl]) ?_
                exact ihd hld
              · exact absurd (by decide) c_122
            · refine jk_lv (lv' := [(9, .int (nI (n - 1 - d))), (8, .int (nI b)), (7, .ref (p (13 + j))), (6, .int (nI j)), (5, .int (nI n)), (4, .ref (p 1)), (3, .ref a2), (2, .ref a1), (1, .int (nI n)), (0, .ref (p 0))]) rfl ?_
              have hb : b < n := sm_ne_lt _ _ _ _ _ _ hd hq
              refine jk_iload K dX4_pass_120 1 rfl ?_
              refine jk_if_lt (tgt := 154) K dX4_pass_122 rfl (fun c_122 => ?_) (fun c_122 => ?_)
              · exact absurd c_122 (nI_pos (by omega))
              · refine jk_aload_n K dX4_pass_125 rfl 9 rfl ?_
                refine jk_get (C := RX4) (T := TX4) (N := 7) (nm := "miles") (ds := "[[I") (v := .ref (p 2)) K dX4_pass_126 hin_RX4 (by decide +kernel) (X.length + 0) sm_0 rfl 6 rfl (by decide) rfl ?_
                refine jk_aload K dX4_pass_129 2 rfl ?_
                refine jk_get (C := RX3) (T := TX3) (N := 11) (nm := "number") (ds := "I") (v := .int (((sm_l1 S N mi (sm_cp N 6 n) (sm_cp N 9 n) n j).2 j) 0)) K dX4_pass_131 hin_RX3 (by decide +kernel) (X.length + (13 + j)) (sm_h hlt) rfl 0 rfl (by decide) rfl ?_
                refine jk_st (st' := [.int (nI j), .ref (p 2)]) (by rw [hnoj j hlt]) ?_
                refine jk_aald (v := (p (3 + j))) K dX4_pass_134 (X.length + 2) sm_2 (vp_in_nI (Nat.lt_of_lt_of_le hlt hn) (by decide)) (by rw [nI_clamp (by omega)]) ?_
                refine jk_iload K dX4_pass_135 0 rfl ?_
                refine jk_iald (v := (mi j (n - 1 - d))) K dX4_pass_137 (X.length + (3 + j)) (sm_r (Nat.lt_of_lt_of_le hlt hn)) (vp_in_nI (Nat.lt_of_lt_of_le hk hn) (by decide)) (by rw [nI_clamp (by omega)]) ?_
                refine jk_aload_n K dX4_pass_138 rfl 9 rfl ?_
                refine jk_get (C := RX4) (T := TX4) (N := 7) (nm := "miles") (ds := "[[I") (v := .ref (p 2)) K dX4_pass_139 hin_RX4 (by decide +kernel) (X.length + 0) sm_0 rfl 6 rfl (by decide) rfl ?_
                refine jk_aload K dX4_pass_142 2 rfl ?_
                refine jk_get (C := RX3) (T := TX3) (N := 11) (nm := "number") (ds := "I") (v := .int (((sm_l1 S N mi (sm_cp N 6 n) (sm_cp N 9 n) n j).2 j) 0)) K dX4_pass_144 hin_RX3 (by decide +kernel) (X.length + (13 + j)) (sm_h hlt) rfl 0 rfl (by decide) rfl ?_
                refine jk_st (st' := [.int (nI j), .ref (p 2), .int (mi j (n - 1 - d))]) (by rw [hnoj j hlt]) ?_
                refine jk_aald (v := (p (3 + j))) K dX4_pass_147 (X.length + 2) sm_2 (vp_in_nI (Nat.lt_of_lt_of_le hlt hn) (by decide)) (by rw [nI_clamp (by omega)]) ?_
                refine jk_iload K dX4_pass_148 1 rfl ?_
                refine jk_iald (v := (mi j b)) K dX4_pass_150 (X.length + (3 + j)) (sm_r (Nat.lt_of_lt_of_le hlt hn)) (vp_in_nI (Nat.lt_of_lt_of_le hb hn) (by decide)) (by rw [nI_clamp (by omega)]) ?_
                refine jk_icmp_gt (tgt := 158) K dX4_pass_151 rfl (fun c_151 => ?_) (fun c_151 => ?_)
                · refine jk_iinc (v := (nI (n - (d + 1)) - 1)) (lv' := [(9, .int (nI (n - (d + 1)) - 1)), (8, .int (nI b)), (7, .ref (p (13 + j))), (6, .int (nI j)), (5, .int (nI n)), (4, .ref (p 1)), (3, .ref a2), (2, .ref a1), (1, .int (nI n)), (0, .ref (p 0))]) K dX4_pass_158 0 rfl sm_dec (by decide) rfl ?_
                  refine jk_goto (tgt := 93) K dX4_pass_161 rfl ?_
                  refine jk_lv (lv' := [(9, .int (nI (n - (d + 1)) - 1)), (8, .int (sm_o (sm_ne ((sm_l1 S N mi (sm_cp N 6 n) (sm_cp N 9 n) n j).1 1) (mi j) (sm_cp N 6 n) n (d + 1)))), (7, .ref (p (13 + j))), (6, .int (nI j)), (5, .int (nI n)), (4, .ref (p 1)), (3, .ref a2), (2, .ref a1), (1, .int (nI n)), (0, .ref (p 0))]) (by rw [show sm_o (sm_ne ((sm_l1 S N mi (sm_cp N 6 n) (sm_cp N 9 n) n j).1 1) (mi j) (sm_cp N 6 n) n (d + 1)) = (nI b) from by rw [sm_ne_s, hq]; unfold sm_nS; rw [if_pos c_103, if_neg c_117]; show sm_o (if _ then _ else _) = _; rw [if_pos c_151] <;> rfl]) ?_
                  exact ihd hld
                · refine jk_iload K dX4_pass_154 0 rfl ?_
                  refine jk_istore (lv' := [(8, .int (nI (n - 1 - d))), (9, .int (nI (n - 1 - d))), (7, .ref (p (13 + j))), (6, .int (nI j)), (5, .int (nI n)), (4, .ref (p 1)), (3, .ref a2), (2, .ref a1), (1, .int (nI n)), (0, .ref (p 0))]) K dX4_pass_156 (by decide) rfl ?_
                  refine jk_iinc (v := (nI (n - (d + 1)) - 1)) (lv' := [(9, .int (nI (n - (d + 1)) - 1)), (8, .int (nI (n - 1 - d))), (7, .ref (p (13 + j))), (6, .int (nI j)), (5, .int (nI n)), (4, .ref (p 1)), (3, .ref a2), (2, .ref a1), (1, .int (nI n)), (0, .ref (p 0))]) K dX4_pass_158 1 rfl sm_dec (by decide) rfl ?_
                  refine jk_goto (tgt := 93) K dX4_pass_161 rfl ?_
                  refine jk_lv (lv' := [(9, .int (nI (n - (d + 1)) - 1)), (8, .int (sm_o (sm_ne ((sm_l1 S N mi (sm_cp N 6 n) (sm_cp N 9 n) n j).1 1) (mi j) (sm_cp N 6 n) n (d + 1)))), (7, .ref (p (13 + j))), (6, .int (nI j)), (5, .int (nI n)), (4, .ref (p 1)), (3, .ref a2), (2, .ref a1), (1, .int (nI n)), (0, .ref (p 0))]) (by rw [show sm_o (sm_ne ((sm_l1 S N mi (sm_cp N 6 n) (sm_cp N 9 n) n j).1 1) (mi j) (sm_cp N 6 n) n (d + 1)) = (nI (n - 1 - d)) from by rw [sm_ne_s, hq]; unfold sm_nS; rw [if_pos c_103, if_neg c_117]; show sm_o (if _ then _ else _) = _; rw [if_neg c_151] <;> rfl]) ?_
                  exact ihd hld
    refine jk_iload K dX4_pass_71 0 rfl ?_
    refine jk_iload K dX4_pass_73 1 rfl ?_
    refine jk_icmp_ge (tgt := 274) K dX4_pass_75 rfl (fun c_75 => ?_) (fun c_75 => ?_)
    · have hjn : j = n := hb_ex (n := n) rfl (by omega) hj c_75
      refine jk_aload_n K dX4_pass_274 rfl 6 rfl ?_
      refine jk_get (C := RX4) (T := TX4) (N := 7) (nm := "hills") (ds := "[LHillBeaconsLaw$Hill;") (v := .ref (p 1)) K dX4_pass_275 hin_RX4 (by decide +kernel) (X.length + 0) sm_0 rfl 5 rfl (by decide) rfl ?_
      refine jk_astore (lv' := [(4, .ref (p 1)), (6, .int (nI j)), (5, .int (nI n)), (3, .ref a2), (2, .ref a1), (1, .int (nI n)), (0, .ref (p 0))]) K dX4_pass_278 (by decide) rfl ?_
      refine jk_aload K dX4_pass_280 0 rfl ?_
      refine jk_alen (v := (nI n)) K dX4_pass_282 (X.length + 1) 3 sm_1 rfl rfl ?_
      refine jk_istore (lv' := [(5, .int (nI n)), (4, .ref (p 1)), (6, .int (nI j)), (3, .ref a2), (2, .ref a1), (1, .int (nI n)), (0, .ref (p 0))]) K dX4_pass_283 (by decide) rfl ?_
      refine jk_iconst (x := 0) K dX4_pass_285 rfl ?_
      refine jk_istore (lv' := [(6, .int 0), (5, .int (nI n)), (4, .ref (p 1)), (3, .ref a2), (2, .ref a1), (1, .int (nI n)), (0, .ref (p 0))]) K dX4_pass_286 (by decide) rfl ?_
      refine jk_lv (lv' := [(6, .int (nI 0)), (5, .int (nI n)), (4, .ref (p 1)), (3, .ref a2), (2, .ref a1), (1, .int (nI n)), (0, .ref (p 0))]) (by first | rfl | (simp [c_75]; done)) ?_
      refine jk_ws (ws' := (sm_S E X (Y ++ [(a1, .inl (E.2 0, n, .inl (sm_cp N 6 n))), (a2, .inl (E.2 0, n, .inl (sm_cp N 9 n)))]) p n (sm_l1 S N mi (sm_cp N 6 n) (sm_cp N 9 n) n n).1 (sm_l2 (sm_l1 S N mi (sm_cp N 6 n) (sm_cp N 9 n) n n).2 (sm_cp N 6 n) 0) mi)) (by rw [hjn] <;> rfl) ?_
      exact hL3 0 (Nat.zero_le _) a1 a2
    · have hlt : j < n := hb_in (n := n) rfl (by omega) hj c_75
      refine jk_aload K dX4_pass_78 2 rfl ?_
      refine jk_iload K dX4_pass_80 0 rfl ?_
      refine jk_laldL (v := (p (13 + j))) K dX4_pass_82 (X.length + 1) sm_1 (vp_in_nI hlt (by omega)) (by rw [nI_clamp (by omega)]) ?_
      refine jk_astore (lv' := [(7, .ref (p (13 + j))), (6, .int (nI j)), (5, .int (nI n)), (4, .ref (p 1)), (3, .ref a2), (2, .ref a1), (1, .int (nI n)), (0, .ref (p 0))]) K dX4_pass_83 (by decide) rfl ?_
      refine jk_iconst (x := (-1)) K dX4_pass_85 rfl ?_
      refine jk_istore (lv' := [(8, .int (-1)), (7, .ref (p (13 + j))), (6, .int (nI j)), (5, .int (nI n)), (4, .ref (p 1)), (3, .ref a2), (2, .ref a1), (1, .int (nI n)), (0, .ref (p 0))]) K dX4_pass_86 (by decide) rfl ?_
      refine jk_iload_n K dX4_pass_88 rfl 7 rfl ?_
      refine jk_iconst (x := 1) K dX4_pass_89 rfl ?_
      refine jk_isub K dX4_pass_90 ?_
      refine jk_istore (lv' := [(9, .int ((nI n) - 1)), (8, .int (-1)), (7, .ref (p (13 + j))), (6, .int (nI j)), (5, .int (nI n)), (4, .ref (p 1)), (3, .ref a2), (2, .ref a1), (1, .int (nI n)), (0, .ref (p 0))]) K dX4_pass_91 (by decide) rfl ?_
      refine jk_lv (lv' := [(9, .int (nI (n - 0) - 1)), (8, .int (sm_o (sm_ne ((sm_l1 S N mi (sm_cp N 6 n) (sm_cp N 9 n) n j).1 1) (mi j) (sm_cp N 6 n) n 0))), (7, .ref (p (13 + j))), (6, .int (nI j)), (5, .int (nI n)), (4, .ref (p 1)), (3, .ref a2), (2, .ref a1), (1, .int (nI n)), (0, .ref (p 0))]) rfl ?_
      exact hI hlt 0 (Nat.zero_le _)
  have hL1 : ∀ j, j ≤ n → ∀ a1 a2 : Nat, jk_J Γ E (sm_S E X (Y ++ [(a1, .inl (E.2 0, n, .inl (sm_cp N 6 j))), (a2, .inl (E.2 0, n, .inl (sm_cp N 9 j)))]) p n S N mi) 2 (n + n) 17 [(4, .int (nI j)), (3, .ref a2), (2, .ref a1), (1, .int (nI n)), (0, .ref (p 0))] [] := by
    refine jk_loop (fun j hj ih => ?_)
    intro a1 a2
    refine jk_iload K dX4_pass_17 0 rfl ?_
    refine jk_iload_n K dX4_pass_19 rfl 3 rfl ?_
    refine jk_icmp_ge (tgt := 57) K dX4_pass_20 rfl (fun c_20 => ?_) (fun c_20 => ?_)
    · have hjn : j = n := hb_ex (n := n) rfl (by omega) hj c_20
      refine jk_aload_n K dX4_pass_57 rfl 4 rfl ?_
      refine jk_get (C := RX4) (T := TX4) (N := 7) (nm := "hills") (ds := "[LHillBeaconsLaw$Hill;") (v := .ref (p 1)) K dX4_pass_58 hin_RX4 (by decide +kernel) (X.length + 0) sm_0 rfl 5 rfl (by decide) rfl ?_
      refine jk_astore (lv' := [(4, .ref (p 1)), (3, .ref a2), (2, .ref a1), (1, .int (nI n)), (0, .ref (p 0))]) K dX4_pass_61 (by decide) rfl ?_
      refine jk_aload K dX4_pass_63 0 rfl ?_
      refine jk_alen (v := (nI n)) K dX4_pass_65 (X.length + 1) 3 sm_1 rfl rfl ?_
      refine jk_istore (lv' := [(5, .int (nI n)), (4, .ref (p 1)), (3, .ref a2), (2, .ref a1), (1, .int (nI n)), (0, .ref (p 0))]) K dX4_pass_66 (by decide) rfl ?_
      refine jk_iconst (x := 0) K dX4_pass_68 rfl ?_
      refine jk_istore (lv' := [(6, .int 0), (5, .int (nI n)), (4, .ref (p 1)), (3, .ref a2), (2, .ref a1), (1, .int (nI n)), (0, .ref (p 0))]) K dX4_pass_69 (by decide) rfl ?_
      refine jk_lv (lv' := [(6, .int (nI 0)), (5, .int (nI n)), (4, .ref (p 1)), (3, .ref a2), (2, .ref a1), (1, .int (nI n)), (0, .ref (p 0))]) (by first | rfl | (simp [c_20]; done)) ?_
      refine jk_ws (ws' := (sm_S E X (Y ++ [(a1, .inl (E.2 0, n, .inl (sm_cp N 6 n))), (a2, .inl (E.2 0, n, .inl (sm_cp N 9 n)))]) p n (sm_l1 S N mi (sm_cp N 6 n) (sm_cp N 9 n) n 0).1 (sm_l1 S N mi (sm_cp N 6 n) (sm_cp N 9 n) n 0).2 mi)) (by rw [hjn] <;> rfl) ?_
      exact hL2 0 (Nat.zero_le _) a1 a2
    · have hlt : j < n := hb_in (n := n) rfl (by omega) hj c_20
      refine jk_aload_n K dX4_pass_23 rfl 2 rfl ?_
      refine jk_iload K dX4_pass_24 0 rfl ?_
      refine jk_aload_n K dX4_pass_26 rfl 4 rfl ?_
      refine jk_get (C := RX4) (T := TX4) (N := 7) (nm := "hills") (ds := "[LHillBeaconsLaw$Hill;") (v := .ref (p 1)) K dX4_pass_27 hin_RX4 (by decide +kernel) (X.length + 0) sm_0 rfl 5 rfl (by decide) rfl ?_
      refine jk_iload K dX4_pass_30 0 rfl ?_
      refine jk_laldL (v := (p (13 + j))) K dX4_pass_32 (X.length + 1) sm_1 (vp_in_nI hlt (by omega)) (by rw [nI_clamp (by omega)]) ?_
      refine jk_get (C := RX3) (T := TX3) (N := 11) (nm := "state") (ds := "I") (v := .int ((N j) 6)) K dX4_pass_33 hin_RX3 (by decide +kernel) (X.length + (13 + j)) (sm_h hlt) rfl 6 rfl (by decide) rfl ?_
      refine jk_iast (w' := (sm_S E X (Y ++ [(a1, .inl (E.2 0, n, .inl (upd (sm_cp N 6 j) j ((N j) 6)))), (a2, .inl (E.2 0, n, .inl (sm_cp N 9 j)))]) p n S N mi)) K dX4_pass_36 (X.length + (13 + n + (Y.length + 0))) (sm_yat rfl) (vp_in_nI hlt (by omega)) (by rw [nI_clamp (by omega)]; exact sm_yst rfl) ?_
      refine jk_aload_n K dX4_pass_37 rfl 1 rfl ?_
      refine jk_iload K dX4_pass_38 0 rfl ?_
      refine jk_aload_n K dX4_pass_40 rfl 4 rfl ?_
      refine jk_get (C := RX4) (T := TX4) (N := 7) (nm := "hills") (ds := "[LHillBeaconsLaw$Hill;") (v := .ref (p 1)) K dX4_pass_41 hin_RX4 (by decide +kernel) (X.length + 0) sm_0 rfl 5 rfl (by decide) rfl ?_
      refine jk_iload K dX4_pass_44 0 rfl ?_
      refine jk_laldL (v := (p (13 + j))) K dX4_pass_46 (X.length + 1) sm_1 (vp_in_nI hlt (by omega)) (by rw [nI_clamp (by omega)]) ?_
      refine jk_get (C := RX3) (T := TX3) (N := 11) (nm := "source") (ds := "I") (v := .int ((N j) 9)) K dX4_pass_47 hin_RX3 (by decide +kernel) (X.length + (13 + j)) (sm_h hlt) rfl 9 rfl (by decide) rfl ?_
      refine jk_iast (w' := (sm_S E X (Y ++ [(a1, .inl (E.2 0, n, .inl (upd (sm_cp N 6 j) j ((N j) 6)))), (a2, .inl (E.2 0, n, .inl (upd (sm_cp N 9 j) j ((N j) 9))))]) p n S N mi)) K dX4_pass_50 (X.length + (13 + n + (Y.length + 1))) (sm_yat rfl) (vp_in_nI hlt (by omega)) (by rw [nI_clamp (by omega)]; exact sm_yst rfl) ?_
      refine jk_iinc (v := (nI (j + 1))) (lv' := [(4, .int (nI (j + 1))), (3, .ref a2), (2, .ref a1), (1, .int (nI n)), (0, .ref (p 0))]) K dX4_pass_51 0 rfl (nI_1 j) (by decide) rfl ?_
      refine jk_goto (tgt := 17) K dX4_pass_54 rfl ?_
      refine jk_ws (ws' := (sm_S E X (Y ++ [(a1, .inl (E.2 0, n, .inl (sm_cp N 6 (j + 1)))), (a2, .inl (E.2 0, n, .inl (sm_cp N 9 (j + 1))))]) p n S N mi)) rfl ?_
      exact ih hlt a1 a2
  refine jk_aload_n K dX4_pass_0 rfl 0 rfl ?_
  refine jk_get (C := RX4) (T := TX4) (N := 7) (nm := "hills") (ds := "[LHillBeaconsLaw$Hill;") (v := .ref (p 1)) K dX4_pass_1 hin_RX4 (by decide +kernel) (X.length + 0) sm_0 rfl 5 rfl (by decide) rfl ?_
  refine jk_alen (v := (nI n)) K dX4_pass_4 (X.length + 1) 3 sm_1 rfl rfl ?_
  refine jk_istore_n (lv' := [(1, .int (nI n)), (0, .ref (p 0))]) K dX4_pass_5 rfl (by decide) rfl ?_
  refine jk_iload_n K dX4_pass_6 rfl 0 rfl ?_
  refine jk_newI (ty := .int) (z := n) (ti := 0) (a0 := (n, .inl (fun _ => 0))) K dX4_pass_7 (by decide +kernel) rfl rfl (fun _ _ => rfl) (fun _ => rfl) ⟨nI_pos (by omega), nI_clamp (by omega)⟩ (by show n * 4 ≤ _; omega) (by show _ ≤ 2; omega) (by show _ ≤ 20; omega) (fun a1 => ?_)
  refine jk_ws (ws' := (sm_S E X (Y ++ [(a1, .inl (E.2 0, n, .inl (fun _ => 0)))]) p n S N mi)) sm_ext ?_
  refine jk_astore_n (lv' := [(2, .ref a1), (1, .int (nI n)), (0, .ref (p 0))]) K dX4_pass_9 rfl (by decide) rfl ?_
  refine jk_iload_n K dX4_pass_10 rfl 1 rfl ?_
  refine jk_newI (ty := .int) (z := n) (ti := 0) (a0 := (n, .inl (fun _ => 0))) K dX4_pass_11 (by decide +kernel) rfl rfl (fun _ _ => rfl) (fun _ => rfl) ⟨nI_pos (by omega), nI_clamp (by omega)⟩ (by show n * 4 ≤ _; omega) (by show _ ≤ 2; omega) (by show _ ≤ 20; omega) (fun a2 => ?_)
  refine jk_ws (ws' := (sm_S E X (Y ++ [(a1, .inl (E.2 0, n, .inl (fun _ => 0))), (a2, .inl (E.2 0, n, .inl (fun _ => 0)))]) p n S N mi)) (sm_ext.trans (by rw [List.append_assoc]; rfl)) ?_
  refine jk_astore_n (lv' := [(3, .ref a2), (2, .ref a1), (1, .int (nI n)), (0, .ref (p 0))]) K dX4_pass_13 rfl (by decide) rfl ?_
  refine jk_iconst (x := 0) K dX4_pass_14 rfl ?_
  refine jk_istore (lv' := [(4, .int 0), (3, .ref a2), (2, .ref a1), (1, .int (nI n)), (0, .ref (p 0))]) K dX4_pass_15 (by decide) rfl ?_
  refine jk_wide (n' := 2) (k' := n + n) (by omega) (by omega) ?_
  refine jk_lv (lv' := [(4, .int (nI 0)), (3, .ref a2), (2, .ref a1), (1, .int (nI n)), (0, .ref (p 0))]) (by first | rfl | (simp []; done)) ?_
  refine jk_ws (ws' := (sm_S E X (Y ++ [(a1, .inl (E.2 0, n, .inl (sm_cp N 6 0))), (a2, .inl (E.2 0, n, .inl (sm_cp N 9 0)))]) p n S N mi)) rfl ?_
  exact hL1 0 (Nat.zero_le _) a1 a2
