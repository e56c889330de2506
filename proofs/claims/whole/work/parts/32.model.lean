theorem kd_X3_hi : yX3_hi.cls = RX3 ∧ yX3_hi.cls ≠ "java/lang/invoke/MethodHandle" ∧ yX3_hi.cls ≠ "java/lang/invoke/VarHandle" ∧ (parseMethodDescriptor yX3_hi.desc).map (fun d => d.parameters.length) = some 2 := by decide +kernel
theorem kd_X3_kindle : yX3_kindle.cls = RX3 ∧ yX3_kindle.cls ≠ "java/lang/invoke/MethodHandle" ∧ yX3_kindle.cls ≠ "java/lang/invoke/VarHandle" ∧ (parseMethodDescriptor yX3_kindle.desc).map (fun d => d.parameters.length) = some 2 := by decide +kernel
theorem kd_X3_let : yX3_let.cls = RX3 ∧ yX3_let.cls ≠ "java/lang/invoke/MethodHandle" ∧ yX3_let.cls ≠ "java/lang/invoke/VarHandle" ∧ (parseMethodDescriptor yX3_let.desc).map (fun d => d.parameters.length) = some 3 := by decide +kernel
theorem kd_X3_nearest : yX3_nearest.cls = RX3 ∧ yX3_nearest.cls ≠ "java/lang/invoke/MethodHandle" ∧ yX3_nearest.cls ≠ "java/lang/invoke/VarHandle" ∧ (parseMethodDescriptor yX3_nearest.desc).map (fun d => d.parameters.length) = some 1 := by decide +kernel
theorem kd_X3_sees : yX3_sees.cls = RX3 ∧ yX3_sees.cls ≠ "java/lang/invoke/MethodHandle" ∧ yX3_sees.cls ≠ "java/lang/invoke/VarHandle" ∧ (parseMethodDescriptor yX3_sees.desc).map (fun d => d.parameters.length) = some 2 := by decide +kernel
set_option maxHeartbeats 4000000 in
set_option maxRecDepth 100000 in
theorem hb_X3_nearest (l : Launch) (hl : l.stackTraces = false) (E : jk_T) (X Y : va_W) (m : Nat → Nat) (th : Int32) (S : Nat → Int32) (N a : Nat → Nat → Int32) (n : Nat) (hn : n ≤ 10) (h : Nat) (hh : h < 10) : jk_fn l yX3_nearest wsX3_nearest ({ frames := 1, cells := 0, slots := 0, locals := 23 } : Room) [.ref (m 0), .int (nI h)] E (hm_M E X Y m th (nI n) S N a) (some (.int (hm_o (hm_ne (S 4) (a 5) (a 8) h n)))) (hm_M E X Y m th (nI n) S N a) := by
  refine jk_of (lv := [(0, .ref (m 0)), (1, .int (nI h))]) (own := RX3) (nm := "nearest") hl (by decide +kernel) rfl (Nat.le_of_ble_eq_true rfl) rfl rfl rfl (fun Γ hΓ K hnm hz => ?_)
  subst hΓ
  have hin_RX3 : ∀ w ∈ u_ws RX3 TX3 11, w ∈ wsX3_nearest := by decide +kernel
  have hL : ∀ j, j ≤ n → jk_J Γ E (hm_M E X Y m th (nI n) S N a) 0 0 4 [(3, .int (nI j)), (2, .int (hm_o (hm_ne (S 4) (a 5) (a 8) h j))), (0, .ref (m 0)), (1, .int (nI h))] [] := by
    refine jk_loop (fun j hj ih => ?_)
    refine jk_iload_n K dX3_nearest_4 rfl 0 rfl ?_
    refine jk_aload_n K dX3_nearest_5 rfl 2 rfl ?_
    refine jk_get (C := RX3) (T := TX3) (N := 11) (nm := "hills") (ds := "I") (v := .int (nI n)) K dX3_nearest_6 hin_RX3 (by decide +kernel) (X.length + 0) hm_x0 rfl 1 rfl (by decide) rfl ?_
    refine jk_icmp_ge (tgt := 72) K dX3_nearest_9 rfl (fun c_9 => ?_) (fun c_9 => ?_)
    · have hjn : j = n := hb_ex rfl (by omega) hj c_9
      refine jk_iload_n K dX3_nearest_72 rfl 1 rfl ?_
      exact jk_iret K hz dX3_nearest_73 () (by rw [hjn]) trivial rfl rfl (Nat.le_of_ble_eq_true rfl) (Nat.le_of_ble_eq_true rfl)
    · have hlt : j < n := hb_in rfl (by omega) hj c_9
      refine jk_aload_n K dX3_nearest_12 rfl 2 rfl ?_
      refine jk_get (C := RX3) (T := TX3) (N := 11) (nm := "was") (ds := "[I") (v := .ref (m 8)) K dX3_nearest_13 hin_RX3 (by decide +kernel) (X.length + 0) hm_x0 rfl 8 rfl (by decide) rfl ?_
      refine jk_iload_n K dX3_nearest_16 rfl 0 rfl ?_
      refine jk_iald (v := (a 8 j)) K dX3_nearest_17 (X.length + 7) hm_a8 (vp_in_nI (by omega) (by decide)) (by rw [nI_clamp (by omega)]) ?_
      refine jk_iconst (x := 2) K dX3_nearest_18 rfl ?_
      refine jk_icmp_ne (tgt := 66) K dX3_nearest_19 rfl (fun c_19 => ?_) (fun c_19 => ?_)
      · refine jk_iinc (v := (nI (j + 1))) (lv' := [(3, .int (nI (j + 1))), (2, .int (hm_o (hm_ne (S 4) (a 5) (a 8) h j))), (0, .ref (m 0)), (1, .int (nI h))]) K dX3_nearest_66 0 rfl (nI_1 j) (by decide) rfl ?_
        refine jk_goto (tgt := 4) K dX3_nearest_69 rfl ?_
        refine jk_lv (lv' := [(3, .int (nI (j + 1))), (2, .int (hm_o (hm_ne (S 4) (a 5) (a 8) h (j + 1)))), (0, .ref (m 0)), (1, .int (nI h))]) (by rw [show hm_o (hm_ne (S 4) (a 5) (a 8) h (j + 1)) = (hm_o (hm_ne (S 4) (a 5) (a 8) h j)) from (by rw [hm_ne_s]; unfold hm_nS; rw [if_neg c_19])]) ?_
        exact ih hlt
      · refine jk_aload_n K dX3_nearest_22 rfl 2 rfl ?_
        refine jk_iload_n K dX3_nearest_23 rfl 3 rfl ?_
        refine jk_iload_n K dX3_nearest_24 rfl 0 rfl ?_
        refine jk_cVi K (n' := 0) (k' := 0) [.int (nI h), .int (nI j)] [] dX3_nearest_25 (hb_X3_sees _ hl E X Y m th S N a n hn h j hh (Nat.lt_of_lt_of_le hlt hn)) gX3_nearest_X3_sees rfl kd_X3_sees ⟨Nat.le_of_ble_eq_true rfl, Nat.le_of_ble_eq_true rfl⟩ (X.length + 0) hm_x0 rfl (Nat.le_of_ble_eq_true rfl) ⟨rfl, rfl⟩ ⟨Nat.le_of_ble_eq_true rfl, Nat.le_of_ble_eq_true rfl⟩ rfl (fun _ _ => ?_)
        refine jk_if_ne (tgt := 34) K dX3_nearest_28 rfl (fun c_28 => ?_) (fun c_28 => ?_)
        · rcases hq : (hm_ne (S 4) (a 5) (a 8) h j) with _ | b
          · refine jk_lv (lv' := [(3, .int (nI j)), (2, .int (-1)), (0, .ref (m 0)), (1, .int (nI h))]) rfl ?_
            refine jk_iload_n K dX3_nearest_34 rfl 1 rfl ?_
            refine jk_iconst (x := (-1)) K dX3_nearest_35 rfl ?_
            refine jk_icmp_eq (tgt := 64) K dX3_nearest_36 rfl (fun c_36 => ?_) (fun c_36 => ?_)
            · refine jk_iload_n K dX3_nearest_64 rfl 0 rfl ?_
              refine jk_istore_n (lv' := [(2, .int (nI j)), (3, .int (nI j)), (0, .ref (m 0)), (1, .int (nI h))]) K dX3_nearest_65 rfl (by decide) rfl ?_
              refine jk_iinc (v := (nI (j + 1))) (lv' := [(3, .int (nI (j + 1))), (2, .int (nI j)), (0, .ref (m 0)), (1, .int (nI h))]) K dX3_nearest_66 1 rfl (nI_1 j) (by decide) rfl ?_
              refine jk_goto (tgt := 4) K dX3_nearest_69 rfl ?_
              refine jk_lv (lv' := [(3, .int (nI (j + 1))), (2, .int (hm_o (hm_ne (S 4) (a 5) (a 8) h (j + 1)))), (0, .ref (m 0)), (1, .int (nI h))]) (by rw [show hm_o (hm_ne (S 4) (a 5) (a 8) h (j + 1)) = (nI j) from (by rw [hm_ne_s, hq]; unfold hm_nS; rw [if_pos c_19, if_neg c_28]; rfl)]) ?_
              exact ih hlt
            · exact absurd (by decide) c_36
          · refine jk_lv (lv' := [(3, .int (nI j)), (2, .int (nI b)), (0, .ref (m 0)), (1, .int (nI h))]) rfl ?_
            have hb10 : b < 10 := Nat.lt_of_lt_of_le (Nat.lt_trans (hm_ne_lt _ _ _ _ _ _ hq) hlt) hn
            refine jk_iload_n K dX3_nearest_34 rfl 1 rfl ?_
            refine jk_iconst (x := (-1)) K dX3_nearest_35 rfl ?_
            refine jk_icmp_eq (tgt := 64) K dX3_nearest_36 rfl (fun c_36 => ?_) (fun c_36 => ?_)
            · exact absurd c_36 (hm_neg (by omega))
            · refine jk_aload_n K dX3_nearest_39 rfl 2 rfl ?_
              refine jk_get (C := RX3) (T := TX3) (N := 11) (nm := "miles") (ds := "[I") (v := .ref (m 5)) K dX3_nearest_40 hin_RX3 (by decide +kernel) (X.length + 0) hm_x0 rfl 5 rfl (by decide) rfl ?_
              refine jk_bipush (x := (nI 10)) K dX3_nearest_43 rfl ?_
              refine jk_iload_n K dX3_nearest_45 rfl 3 rfl ?_
              refine jk_imul K dX3_nearest_46 ?_
              refine jk_iload_n K dX3_nearest_47 rfl 0 rfl ?_
              refine jk_iadd K dX3_nearest_48 ?_
              refine jk_st (st' := [.int (nI (h * 10 + j)), .ref (m 5)]) (by rw [pk_mul, nI_add, Nat.mul_comm 10 h]) ?_
              refine jk_iald (v := (a 5 (h * 10 + j))) K dX3_nearest_49 (X.length + 4) hm_a5 (vp_in_nI (by omega) (by decide)) (by rw [nI_clamp (by omega)]) ?_
              refine jk_aload_n K dX3_nearest_50 rfl 2 rfl ?_
              refine jk_get (C := RX3) (T := TX3) (N := 11) (nm := "miles") (ds := "[I") (v := .ref (m 5)) K dX3_nearest_51 hin_RX3 (by decide +kernel) (X.length + 0) hm_x0 rfl 5 rfl (by decide) rfl ?_
              refine jk_bipush (x := (nI 10)) K dX3_nearest_54 rfl ?_
              refine jk_iload_n K dX3_nearest_56 rfl 3 rfl ?_
              refine jk_imul K dX3_nearest_57 ?_
              refine jk_iload_n K dX3_nearest_58 rfl 1 rfl ?_
              refine jk_iadd K dX3_nearest_59 ?_
              refine jk_st (st' := [.int (nI (h * 10 + b)), .ref (m 5), .int (a 5 (h * 10 + j))]) (by rw [pk_mul, nI_add, Nat.mul_comm 10 h]) ?_
              refine jk_iald (v := (a 5 (h * 10 + b))) K dX3_nearest_60 (X.length + 4) hm_a5 (vp_in_nI (by omega) (by decide)) (by rw [nI_clamp (by omega)]) ?_
              refine jk_icmp_ge (tgt := 66) K dX3_nearest_61 rfl (fun c_61 => ?_) (fun c_61 => ?_)
              · refine jk_iinc (v := (nI (j + 1))) (lv' := [(3, .int (nI (j + 1))), (2, .int (nI b)), (0, .ref (m 0)), (1, .int (nI h))]) K dX3_nearest_66 0 rfl (nI_1 j) (by decide) rfl ?_
                refine jk_goto (tgt := 4) K dX3_nearest_69 rfl ?_
                refine jk_lv (lv' := [(3, .int (nI (j + 1))), (2, .int (hm_o (hm_ne (S 4) (a 5) (a 8) h (j + 1)))), (0, .ref (m 0)), (1, .int (nI h))]) (by rw [show hm_o (hm_ne (S 4) (a 5) (a 8) h (j + 1)) = (nI b) from (by rw [hm_ne_s, hq]; unfold hm_nS; rw [if_pos c_19, if_neg c_28]; show hm_o (if _ then _ else _) = _; rw [if_pos c_61]; rfl)]) ?_
                exact ih hlt
              · refine jk_iload_n K dX3_nearest_64 rfl 0 rfl ?_
                refine jk_istore_n (lv' := [(2, .int (nI j)), (3, .int (nI j)), (0, .ref (m 0)), (1, .int (nI h))]) K dX3_nearest_65 rfl (by decide) rfl ?_
                refine jk_iinc (v := (nI (j + 1))) (lv' := [(3, .int (nI (j + 1))), (2, .int (nI j)), (0, .ref (m 0)), (1, .int (nI h))]) K dX3_nearest_66 1 rfl (nI_1 j) (by decide) rfl ?_
                refine jk_goto (tgt := 4) K dX3_nearest_69 rfl ?_
                refine jk_lv (lv' := [(3, .int (nI (j + 1))), (2, .int (hm_o (hm_ne (S 4) (a 5) (a 8) h (j + 1)))), (0, .ref (m 0)), (1, .int (nI h))]) (by rw [show hm_o (hm_ne (S 4) (a 5) (a 8) h (j + 1)) = (nI j) from (by rw [hm_ne_s, hq]; unfold hm_nS; rw [if_pos c_19, if_neg c_28]; show hm_o (if _ then _ else _) = _; rw [if_neg c_61]; rfl)]) ?_
                exact ih hlt
        · refine jk_goto (tgt := 66) K dX3_nearest_31 rfl ?_
          refine jk_iinc (v := (nI (j + 1))) (lv' := [(3, .int (nI (j + 1))), (2, .int (hm_o (hm_ne (S 4) (a 5) (a 8) h j))), (0, .ref (m 0)), (1, .int (nI h))]) K dX3_nearest_66 0 rfl (nI_1 j) (by decide) rfl ?_
          refine jk_goto (tgt := 4) K dX3_nearest_69 rfl ?_
          refine jk_lv (lv' := [(3, .int (nI (j + 1))), (2, .int (hm_o (hm_ne (S 4) (a 5) (a 8) h (j + 1)))), (0, .ref (m 0)), (1, .int (nI h))]) (by rw [show hm_o (hm_ne (S 4) (a 5) (a 8) h (j + 1)) = (hm_o (hm_ne (S 4) (a 5) (a 8) h j)) from (by rw [hm_ne_s]; unfold hm_nS; rw [if_pos c_19, if_pos c_28])]) ?_
          exact ih hlt
  refine jk_iconst (x := (-1)) K dX3_nearest_0 rfl ?_
  refine jk_istore_n (lv' := [(2, .int (-1)), (0, .ref (m 0)), (1, .int (nI h))]) K dX3_nearest_1 rfl (by decide) rfl ?_
  refine jk_iconst (x := 0) K dX3_nearest_2 rfl ?_
  refine jk_istore_n (lv' := [(3, .int 0), (2, .int (-1)), (0, .ref (m 0)), (1, .int (nI h))]) K dX3_nearest_3 rfl (by decide) rfl ?_
  refine jk_lv (lv' := [(3, .int (nI 0)), (2, .int (hm_o (hm_ne (S 4) (a 5) (a 8) h 0))), (0, .ref (m 0)), (1, .int (nI h))]) rfl ?_
  exact hL 0 (Nat.zero_le _)
set_option maxHeartbeats 4000000 in
set_option maxRecDepth 100000 in
theorem hb_X3_kindle (l : Launch) (hl : l.stackTraces = false) (E : jk_T) (X Y : va_W) (m : Nat → Nat) (th : Int32) (S : Nat → Int32) (N a : Nat → Nat → Int32) (n : Nat) (hn : n ≤ 10) (h : Nat) (hh : h < 10) (s : Int32) : jk_fn l yX3_kindle wsX3_kindle ({ frames := 1, cells := 0, slots := 0, locals := 23 } : Room) [.ref (m 0), .int (nI h), .int s] E (hm_M E X Y m th (nI n) S N a) (some (.int (N h 6 + 1))) (hm_M E X Y m th (nI n) (hm_kS S s) (va_up N h (hm_kF (N h) s)) a) := by
  refine jk_of (lv := [(0, .ref (m 0)), (1, .int (nI h)), (2, .int s)]) (own := RX3) (nm := "kindle") hl (by decide +kernel) rfl (Nat.le_of_ble_eq_true rfl) rfl rfl rfl (fun Γ hΓ K hnm hz => ?_)
  subst hΓ
  have hin_RX3 : ∀ w ∈ u_ws RX3 TX3 11, w ∈ wsX3_kindle := by decide +kernel
  refine jk_aload_n K dX3_kindle_0 rfl 0 rfl ?_
  refine jk_iload_n K dX3_kindle_1 rfl 1 rfl ?_
  refine jk_iconst (x := 0) K dX3_kindle_2 rfl ?_
  refine jk_aload_n K dX3_kindle_3 rfl 0 rfl ?_
  refine jk_iload_n K dX3_kindle_4 rfl 1 rfl ?_
  refine jk_iconst (x := 0) K dX3_kindle_5 rfl ?_
  refine jk_cVi K (n' := 0) (k' := 0) [.int (nI h), .int (nI 0)] [.int 0, .int (nI h), .ref (m 0)] dX3_kindle_6 (hb_X3_hi _ hl E X Y m th S N a n hn h 0 hh (by decide)) gX3_kindle_X3_hi rfl kd_X3_hi ⟨Nat.le_of_ble_eq_true rfl, Nat.le_of_ble_eq_true rfl⟩ (X.length + 0) hm_x0 rfl (Nat.le_of_ble_eq_true rfl) ⟨rfl, rfl⟩ ⟨Nat.le_of_ble_eq_true rfl, Nat.le_of_ble_eq_true rfl⟩ rfl (fun _ _ => ?_)
  refine jk_iconst (x := 1) K dX3_kindle_9 rfl ?_
  refine jk_isub K dX3_kindle_10 ?_
  refine jk_cVv K (n' := 0) (k' := 0) [.int (nI h), .int (nI 0), .int ((N h 0) - 1)] [] dX3_kindle_11 (hb_X3_let _ hl E X Y m th S N a n hn h 0 hh (by decide) ((N h 0) - 1)) gX3_kindle_X3_let rfl kd_X3_let ⟨Nat.le_of_ble_eq_true rfl, Nat.le_of_ble_eq_true rfl⟩ (X.length + 0) hm_x0 rfl (Nat.le_of_ble_eq_true rfl) ⟨rfl, rfl⟩ ⟨Nat.le_of_ble_eq_true rfl, Nat.le_of_ble_eq_true rfl⟩ rfl (fun _ _ => ?_)
  refine jk_aload_n K dX3_kindle_14 rfl 0 rfl ?_
  refine jk_iload_n K dX3_kindle_15 rfl 1 rfl ?_
  refine jk_iconst (x := 3) K dX3_kindle_16 rfl ?_
  refine jk_iconst (x := 0) K dX3_kindle_17 rfl ?_
  refine jk_cVv K (n' := 0) (k' := 0) [.int (nI h), .int (nI 3), .int 0] [] dX3_kindle_18 (hb_X3_let _ hl E X Y m th S (va_up N h (hb_fu (N h) 0 ((N h 0) - 1))) a n hn h 3 hh (by decide) 0) gX3_kindle_X3_let rfl kd_X3_let ⟨Nat.le_of_ble_eq_true rfl, Nat.le_of_ble_eq_true rfl⟩ (X.length + 0) hm_x0 rfl (Nat.le_of_ble_eq_true rfl) ⟨rfl, rfl⟩ ⟨Nat.le_of_ble_eq_true rfl, Nat.le_of_ble_eq_true rfl⟩ rfl (fun _ _ => ?_)
  refine jk_ws (ws' := (hm_M E X Y m th (nI n) S (va_up N h (hb_fu (hb_fu (N h) 0 ((N h 0) - 1)) 3 0)) a)) (by rw [va_up_self, hb_up_up]) ?_
  refine jk_aload_n K dX3_kindle_21 rfl 0 rfl ?_
  refine jk_iload_n K dX3_kindle_22 rfl 1 rfl ?_
  refine jk_iconst (x := 1) K dX3_kindle_23 rfl ?_
  refine jk_iconst (x := 1) K dX3_kindle_24 rfl ?_
  refine jk_cVv K (n' := 0) (k' := 0) [.int (nI h), .int (nI 1), .int 1] [] dX3_kindle_25 (hb_X3_let _ hl E X Y m th S (va_up N h (hb_fu (hb_fu (N h) 0 ((N h 0) - 1)) 3 0)) a n hn h 1 hh (by decide) 1) gX3_kindle_X3_let rfl kd_X3_let ⟨Nat.le_of_ble_eq_true rfl, Nat.le_of_ble_eq_true rfl⟩ (X.length + 0) hm_x0 rfl (Nat.le_of_ble_eq_true rfl) ⟨rfl, rfl⟩ ⟨Nat.le_of_ble_eq_true rfl, Nat.le_of_ble_eq_true rfl⟩ rfl (fun _ _ => ?_)
  refine jk_ws (ws' := (hm_M E X Y m th (nI n) S (va_up N h (hb_fu (hb_fu (hb_fu (N h) 0 ((N h 0) - 1)) 3 0) 1 1)) a)) (by rw [va_up_self, hb_up_up]) ?_
  refine jk_aload_n K dX3_kindle_28 rfl 0 rfl ?_
  refine jk_iload_n K dX3_kindle_29 rfl 1 rfl ?_
  refine jk_iconst (x := 2) K dX3_kindle_30 rfl ?_
  refine jk_aload_n K dX3_kindle_31 rfl 0 rfl ?_
  refine jk_iload_n K dX3_kindle_32 rfl 1 rfl ?_
  refine jk_bipush (x := 6) K dX3_kindle_33 rfl ?_
  refine jk_cVi K (n' := 0) (k' := 0) [.int (nI h), .int (nI 6)] [.int 2, .int (nI h), .ref (m 0)] dX3_kindle_35 (hb_X3_hi _ hl E X Y m th S (va_up N h (hb_fu (hb_fu (hb_fu (N h) 0 ((N h 0) - 1)) 3 0) 1 1)) a n hn h 6 hh (by decide)) gX3_kindle_X3_hi rfl kd_X3_hi ⟨Nat.le_of_ble_eq_true rfl, Nat.le_of_ble_eq_true rfl⟩ (X.length + 0) hm_x0 rfl (Nat.le_of_ble_eq_true rfl) ⟨rfl, rfl⟩ ⟨Nat.le_of_ble_eq_true rfl, Nat.le_of_ble_eq_true rfl⟩ rfl (fun _ _ => ?_)
  refine jk_st (st' := [.int ((N h) 6), .int 2, .int (nI h), .ref (m 0)]) (by rw [va_up_self] <;> rfl) ?_
  refine jk_iconst (x := 1) K dX3_kindle_38 rfl ?_
  refine jk_iadd K dX3_kindle_39 ?_
  refine jk_cVv K (n' := 0) (k' := 0) [.int (nI h), .int (nI 2), .int (((N h) 6) + 1)] [] dX3_kindle_40 (hb_X3_let _ hl E X Y m th S (va_up N h (hb_fu (hb_fu (hb_fu (N h) 0 ((N h 0) - 1)) 3 0) 1 1)) a n hn h 2 hh (by decide) (((N h) 6) + 1)) gX3_kindle_X3_let rfl kd_X3_let ⟨Nat.le_of_ble_eq_true rfl, Nat.le_of_ble_eq_true rfl⟩ (X.length + 0) hm_x0 rfl (Nat.le_of_ble_eq_true rfl) ⟨rfl, rfl⟩ ⟨Nat.le_of_ble_eq_true rfl, Nat.le_of_ble_eq_true rfl⟩ rfl (fun _ _ => ?_)
  refine jk_ws (ws' := (hm_M E X Y m th (nI n) S (va_up N h (hb_fu (hb_fu (hb_fu (hb_fu (N h) 0 ((N h 0) - 1)) 3 0) 1 1) 2 (((N h) 6) + 1))) a)) (by rw [va_up_self, hb_up_up]) ?_
  refine jk_aload_n K dX3_kindle_43 rfl 0 rfl ?_
  refine jk_iload_n K dX3_kindle_44 rfl 1 rfl ?_
  refine jk_iconst (x := 4) K dX3_kindle_45 rfl ?_
  refine jk_iload_n K dX3_kindle_46 rfl 2 rfl ?_
  refine jk_cVv K (n' := 0) (k' := 0) [.int (nI h), .int (nI 4), .int s] [] dX3_kindle_47 (hb_X3_let _ hl E X Y m th S (va_up N h (hb_fu (hb_fu (hb_fu (hb_fu (N h) 0 ((N h 0) - 1)) 3 0) 1 1) 2 (((N h) 6) + 1))) a n hn h 4 hh (by decide) s) gX3_kindle_X3_let rfl kd_X3_let ⟨Nat.le_of_ble_eq_true rfl, Nat.le_of_ble_eq_true rfl⟩ (X.length + 0) hm_x0 rfl (Nat.le_of_ble_eq_true rfl) ⟨rfl, rfl⟩ ⟨Nat.le_of_ble_eq_true rfl, Nat.le_of_ble_eq_true rfl⟩ rfl (fun _ _ => ?_)
  refine jk_ws (ws' := (hm_M E X Y m th (nI n) S (va_up N h (hb_fu (hb_fu (hb_fu (hb_fu (hb_fu (N h) 0 ((N h 0) - 1)) 3 0) 1 1) 2 (((N h) 6) + 1)) 4 s)) a)) (by rw [va_up_self, hb_up_up]) ?_
  refine jk_aload_n K dX3_kindle_50 rfl 0 rfl ?_
  refine jk_get (C := RX3) (T := TX3) (N := 11) (nm := "now") (ds := "[I") (v := .ref (m 6)) K dX3_kindle_51 hin_RX3 (by decide +kernel) (X.length + 0) hm_x0 rfl 6 rfl (by decide) rfl ?_
  refine jk_iconst (x := 2) K dX3_kindle_54 rfl ?_
  refine jk_dup2 K dX3_kindle_55 rfl rfl ?_
  refine jk_iald (v := (S 2)) K dX3_kindle_56 (X.length + 5) hm_a6 (vp_in_nI (n := 2) (by decide) (by decide)) (hm_now_s _ _ (k := 2) (by decide)) ?_
  refine jk_iconst (x := 1) K dX3_kindle_57 rfl ?_
  refine jk_iadd K dX3_kindle_58 ?_
  refine jk_iast (w' := (hm_M E X Y m th (nI n) (hb_fu S 2 ((S 2) + 1)) (va_up N h (hb_fu (hb_fu (hb_fu (hb_fu (hb_fu (N h) 0 ((N h 0) - 1)) 3 0) 1 1) 2 (((N h) 6) + 1)) 4 s)) a)) K dX3_kindle_59 (X.length + 5) hm_a6 (vp_in_nI (n := 2) (by decide) (by decide)) (hm_s6 (hm_now_set _ _ (k := 2) (by decide) _)) ?_
  refine jk_aload_n K dX3_kindle_60 rfl 0 rfl ?_
  refine jk_get (C := RX3) (T := TX3) (N := 11) (nm := "now") (ds := "[I") (v := .ref (m 6)) K dX3_kindle_61 hin_RX3 (by decide +kernel) (X.length + 0) hm_x0 rfl 6 rfl (by decide) rfl ?_
  refine jk_iconst (x := 3) K dX3_kindle_64 rfl ?_
  refine jk_dup2 K dX3_kindle_65 rfl rfl ?_
  refine jk_iald (v := (S 3)) K dX3_kindle_66 (X.length + 5) hm_a6 (vp_in_nI (n := 3) (by decide) (by decide)) (hm_now_s _ _ (k := 3) (by decide)) ?_
  refine jk_iload_n K dX3_kindle_67 rfl 2 rfl ?_
  refine jk_iconst (x := (-1)) K dX3_kindle_68 rfl ?_
  refine jk_icmp_ne (tgt := 76) K dX3_kindle_69 rfl (fun c_69 => ?_) (fun c_69 => ?_)
  · refine jk_iconst (x := 0) K dX3_kindle_76 rfl ?_
    refine jk_iadd K dX3_kindle_77 ?_
    refine jk_iast (w' := (hm_M E X Y m th (nI n) (hb_fu (hb_fu S 2 ((S 2) + 1)) 3 ((S 3) + 0)) (va_up N h (hb_fu (hb_fu (hb_fu (hb_fu (hb_fu (N h) 0 ((N h 0) - 1)) 3 0) 1 1) 2 (((N h) 6) + 1)) 4 s)) a)) K dX3_kindle_78 (X.length + 5) hm_a6 (vp_in_nI (n := 3) (by decide) (by decide)) (hm_s6 (hm_now_set _ _ (k := 3) (by decide) _)) ?_
    refine jk_aload_n K dX3_kindle_79 rfl 0 rfl ?_
    refine jk_iload_n K dX3_kindle_80 rfl 1 rfl ?_
    refine jk_iconst (x := 2) K dX3_kindle_81 rfl ?_
    refine jk_cVi K (n' := 0) (k' := 0) [.int (nI h), .int (nI 2)] [] dX3_kindle_82 (hb_X3_hi _ hl E X Y m th (hb_fu (hb_fu S 2 ((S 2) + 1)) 3 ((S 3) + 0)) (va_up N h (hb_fu (hb_fu (hb_fu (hb_fu (hb_fu (N h) 0 ((N h 0) - 1)) 3 0) 1 1) 2 (((N h) 6) + 1)) 4 s)) a n hn h 2 hh (by decide)) gX3_kindle_X3_hi rfl kd_X3_hi ⟨Nat.le_of_ble_eq_true rfl, Nat.le_of_ble_eq_true rfl⟩ (X.length + 0) hm_x0 rfl (Nat.le_of_ble_eq_true rfl) ⟨rfl, rfl⟩ ⟨Nat.le_of_ble_eq_true rfl, Nat.le_of_ble_eq_true rfl⟩ rfl (fun _ _ => ?_)
    refine jk_st (st' := [.int (((N h) 6) + 1)]) (by rw [va_up_self] <;> rfl) ?_
    exact jk_iret K hz dX3_kindle_85 () rfl trivial (by unfold hm_kS; rw [if_neg c_69]; rfl) rfl (Nat.le_of_ble_eq_true rfl) (Nat.le_of_ble_eq_true rfl)
  · refine jk_iconst (x := 1) K dX3_kindle_72 rfl ?_
    refine jk_goto (tgt := 77) K dX3_kindle_73 rfl ?_
    refine jk_iadd K dX3_kindle_77 ?_
    refine jk_iast (w' := (hm_M E X Y m th (nI n) (hb_fu (hb_fu S 2 ((S 2) + 1)) 3 ((S 3) + 1)) (va_up N h (hb_fu (hb_fu (hb_fu (hb_fu (hb_fu (N h) 0 ((N h 0) - 1)) 3 0) 1 1) 2 (((N h) 6) + 1)) 4 s)) a)) K dX3_kindle_78 (X.length + 5) hm_a6 (vp_in_nI (n := 3) (by decide) (by decide)) (hm_s6 (hm_now_set _ _ (k := 3) (by decide) _)) ?_
    refine jk_aload_n K dX3_kindle_79 rfl 0 rfl ?_
    refine jk_iload_n K dX3_kindle_80 rfl 1 rfl ?_
    refine jk_iconst (x := 2) K dX3_kindle_81 rfl ?_
    refine jk_cVi K (n' := 0) (k' := 0) [.int (nI h), .int (nI 2)] [] dX3_kindle_82 (hb_X3_hi _ hl E X Y m th (hb_fu (hb_fu S 2 ((S 2) + 1)) 3 ((S 3) + 1)) (va_up N h (hb_fu (hb_fu (hb_fu (hb_fu (hb_fu (N h) 0 ((N h 0) - 1)) 3 0) 1 1) 2 (((N h) 6) + 1)) 4 s)) a n hn h 2 hh (by decide)) gX3_kindle_X3_hi rfl kd_X3_hi ⟨Nat.le_of_ble_eq_true rfl, Nat.le_of_ble_eq_true rfl⟩ (X.length + 0) hm_x0 rfl (Nat.le_of_ble_eq_true rfl) ⟨rfl, rfl⟩ ⟨Nat.le_of_ble_eq_true rfl, Nat.le_of_ble_eq_true rfl⟩ rfl (fun _ _ => ?_)
    refine jk_st (st' := [.int (((N h) 6) + 1)]) (by rw [va_up_self] <;> rfl) ?_
    exact jk_iret K hz dX3_kindle_85 () rfl trivial (by unfold hm_kS; rw [if_pos c_69]; rfl) rfl (Nat.le_of_ble_eq_true rfl) (Nat.le_of_ble_eq_true rfl)
set_option maxHeartbeats 4000000 in
set_option maxRecDepth 100000 in
theorem hb_X3_dark (l : Launch) (hl : l.stackTraces = false) (E : jk_T) (X Y : va_W) (m : Nat → Nat) (th : Int32) (S : Nat → Int32) (N a : Nat → Nat → Int32) (n : Nat) (hn : n ≤ 10) (h : Nat) (hh : h < 10) : jk_fn l yX3_dark wsX3_dark ({ frames := 1, cells := 0, slots := 0, locals := 23 } : Room) [.ref (m 0), .int (nI h)] E (hm_M E X Y m th (nI n) S N a) (none) (hm_M E X Y m th (nI n) S (va_up N h (hm_dF (N h))) a) := by
  refine jk_of (lv := [(0, .ref (m 0)), (1, .int (nI h))]) (own := RX3) (nm := "dark") hl (by decide +kernel) rfl (Nat.le_of_ble_eq_true rfl) rfl rfl rfl (fun Γ hΓ K hnm hz => ?_)
  subst hΓ
  refine jk_aload_n K dX3_dark_0 rfl 0 rfl ?_
  refine jk_iload_n K dX3_dark_1 rfl 1 rfl ?_
  refine jk_iconst (x := 1) K dX3_dark_2 rfl ?_
  refine jk_iconst (x := 0) K dX3_dark_3 rfl ?_
  refine jk_cVv K (n' := 0) (k' := 0) [.int (nI h), .int (nI 1), .int 0] [] dX3_dark_4 (hb_X3_let _ hl E X Y m th S N a n hn h 1 hh (by decide) 0) gX3_dark_X3_let rfl kd_X3_let ⟨Nat.le_of_ble_eq_true rfl, Nat.le_of_ble_eq_true rfl⟩ (X.length + 0) hm_x0 rfl (Nat.le_of_ble_eq_true rfl) ⟨rfl, rfl⟩ ⟨Nat.le_of_ble_eq_true rfl, Nat.le_of_ble_eq_true rfl⟩ rfl (fun _ _ => ?_)
  refine jk_aload_n K dX3_dark_7 rfl 0 rfl ?_
  refine jk_iload_n K dX3_dark_8 rfl 1 rfl ?_
  refine jk_iconst (x := 2) K dX3_dark_9 rfl ?_
  refine jk_iconst (x := 0) K dX3_dark_10 rfl ?_
  refine jk_cVv K (n' := 0) (k' := 0) [.int (nI h), .int (nI 2), .int 0] [] dX3_dark_11 (hb_X3_let _ hl E X Y m th S (va_up N h (hb_fu (N h) 1 0)) a n hn h 2 hh (by decide) 0) gX3_dark_X3_let rfl kd_X3_let ⟨Nat.le_of_ble_eq_true rfl, Nat.le_of_ble_eq_true rfl⟩ (X.length + 0) hm_x0 rfl (Nat.le_of_ble_eq_true rfl) ⟨rfl, rfl⟩ ⟨Nat.le_of_ble_eq_true rfl, Nat.le_of_ble_eq_true rfl⟩ rfl (fun _ _ => ?_)
  refine jk_ws (ws' := (hm_M E X Y m th (nI n) S (va_up N h (hb_fu (hb_fu (N h) 1 0) 2 0)) a)) (by rw [va_up_self, hb_up_up]) ?_
  refine jk_aload_n K dX3_dark_14 rfl 0 rfl ?_
  refine jk_iload_n K dX3_dark_15 rfl 1 rfl ?_
  refine jk_iconst (x := 4) K dX3_dark_16 rfl ?_
  refine jk_iconst (x := (-1)) K dX3_dark_17 rfl ?_
  refine jk_cVv K (n' := 0) (k' := 0) [.int (nI h), .int (nI 4), .int (-1)] [] dX3_dark_18 (hb_X3_let _ hl E X Y m th S (va_up N h (hb_fu (hb_fu (N h) 1 0) 2 0)) a n hn h 4 hh (by decide) (-1)) gX3_dark_X3_let rfl kd_X3_let ⟨Nat.le_of_ble_eq_true rfl, Nat.le_of_ble_eq_true rfl⟩ (X.length + 0) hm_x0 rfl (Nat.le_of_ble_eq_true rfl) ⟨rfl, rfl⟩ ⟨Nat.le_of_ble_eq_true rfl, Nat.le_of_ble_eq_true rfl⟩ rfl (fun _ _ => ?_)
  refine jk_ws (ws' := (hm_M E X Y m th (nI n) S (va_up N h (hb_fu (hb_fu (hb_fu (N h) 1 0) 2 0) 4 (-1))) a)) (by rw [va_up_self, hb_up_up]) ?_
  exact jk_vret K hz dX3_dark_21 () rfl trivial rfl (Nat.le_of_ble_eq_true rfl) (Nat.le_of_ble_eq_true rfl)
set_option maxHeartbeats 4000000 in
set_option maxRecDepth 100000 in
theorem hb_X3_look (l : Launch) (hl : l.stackTraces = false) (E : jk_T) (X Y : va_W) (m : Nat → Nat) (th : Int32) (S : Nat → Int32) (N a : Nat → Nat → Int32) (n : Nat) (hn : n ≤ 10) (h : Nat) (hh : h < 10) : jk_fn l yX3_look wsX3_look ({ frames := 2, cells := 0, slots := 0, locals := 46 } : Room) [.ref (m 0), .int (nI h)] E (hm_M E X Y m th (nI n) S N a) (none) (hm_M E X Y m th (nI n) (hm_lk S N a n h).1 (hm_lk S N a n h).2 a) := by
  refine jk_of (lv := [(0, .ref (m 0)), (1, .int (nI h))]) (own := RX3) (nm := "look") hl (by decide +kernel) rfl (Nat.le_of_ble_eq_true rfl) rfl rfl rfl (fun Γ hΓ K hnm hz => ?_)
  subst hΓ
  have hin_RX3 : ∀ w ∈ u_ws RX3 TX3 11, w ∈ wsX3_look := by decide +kernel
  refine jk_aload_n K dX3_look_0 rfl 0 rfl ?_
  refine jk_iload_n K dX3_look_1 rfl 1 rfl ?_
  refine jk_cVi K (n' := 0) (k' := 0) [.int (nI h)] [] dX3_look_2 (hb_X3_nearest _ hl E X Y m th S N a n hn h hh) gX3_look_X3_nearest rfl kd_X3_nearest ⟨Nat.le_of_ble_eq_true rfl, Nat.le_of_ble_eq_true rfl⟩ (X.length + 0) hm_x0 rfl (Nat.le_of_ble_eq_true rfl) ⟨rfl, rfl⟩ ⟨Nat.le_of_ble_eq_true rfl, Nat.le_of_ble_eq_true rfl⟩ rfl (fun _ _ => ?_)
  refine jk_istore_n (lv' := [(2, .int (hm_o (hm_ne (S 4) (a 5) (a 8) h n))), (0, .ref (m 0)), (1, .int (nI h))]) K dX3_look_5 rfl (by decide) rfl ?_
  rcases hq : (hm_ne (S 4) (a 5) (a 8) h n) with _ | b
  · refine jk_lv (lv' := [(2, .int (-1)), (0, .ref (m 0)), (1, .int (nI h))]) rfl ?_
    refine jk_aload_n K dX3_look_6 rfl 1 rfl ?_
    refine jk_iload_n K dX3_look_7 rfl 2 rfl ?_
    refine jk_iconst (x := 0) K dX3_look_8 rfl ?_
    refine jk_cVi K (n' := 0) (k' := 0) [.int (nI h), .int (nI 0)] [] dX3_look_9 (hb_X3_hi _ hl E X Y m th S N a n hn h 0 hh (by decide)) gX3_look_X3_hi rfl kd_X3_hi ⟨Nat.le_of_ble_eq_true rfl, Nat.le_of_ble_eq_true rfl⟩ (X.length + 0) hm_x0 rfl (Nat.le_of_ble_eq_true rfl) ⟨rfl, rfl⟩ ⟨Nat.le_of_ble_eq_true rfl, Nat.le_of_ble_eq_true rfl⟩ rfl (fun _ _ => ?_)
    refine jk_if_le (tgt := 42) K dX3_look_12 rfl (fun c_12 => ?_) (fun c_12 => ?_)
    · refine jk_iconst (x := 0) K dX3_look_42 rfl ?_
      have his : hm_is (N h) S (a 3 h) (hm_o (hm_ne (S 4) (a 5) (a 8) h n)) = 0 := by unfold hm_is; rw [hq, if_pos c_12]
      have hF : hm_lF (N h) S (a 3 h) (hm_o (hm_ne (S 4) (a 5) (a 8) h n)) = hb_fu (N h) 3 0 := by unfold hm_lF; rw [his]; rfl
      refine jk_istore_n (lv' := [(3, .int 0), (2, .int (-1)), (0, .ref (m 0)), (1, .int (nI h))]) K dX3_look_43 rfl (by decide) rfl ?_
      refine jk_aload_n K dX3_look_44 rfl 2 rfl ?_
      refine jk_iload_n K dX3_look_45 rfl 3 rfl ?_
      refine jk_iconst (x := 3) K dX3_look_46 rfl ?_
      refine jk_iload_n K dX3_look_47 rfl 0 rfl ?_
      refine jk_if_eq (tgt := 62) K dX3_look_48 rfl (fun c_48 => ?_) (fun c_48 => ?_)
      · refine jk_iconst (x := 0) K dX3_look_62 rfl ?_
        refine jk_cVv K (n' := 0) (k' := 0) [.int (nI h), .int (nI 3), .int 0] [] dX3_look_63 (hb_X3_let _ hl E X Y m th S N a n hn h 3 hh (by decide) 0) gX3_look_X3_let rfl kd_X3_let ⟨Nat.le_of_ble_eq_true rfl, Nat.le_of_ble_eq_true rfl⟩ (X.length + 0) hm_x0 rfl (Nat.le_of_ble_eq_true rfl) ⟨rfl, rfl⟩ ⟨Nat.le_of_ble_eq_true rfl, Nat.le_of_ble_eq_true rfl⟩ rfl (fun _ _ => ?_)
        refine jk_aload_n K dX3_look_66 rfl 2 rfl ?_
        refine jk_iload_n K dX3_look_67 rfl 3 rfl ?_
        refine jk_iconst (x := 3) K dX3_look_68 rfl ?_
        refine jk_cVi K (n' := 0) (k' := 0) [.int (nI h), .int (nI 3)] [] dX3_look_69 (hb_X3_hi _ hl E X Y m th S (va_up N h (hb_fu (N h) 3 0)) a n hn h 3 hh (by decide)) gX3_look_X3_hi rfl kd_X3_hi ⟨Nat.le_of_ble_eq_true rfl, Nat.le_of_ble_eq_true rfl⟩ (X.length + 0) hm_x0 rfl (Nat.le_of_ble_eq_true rfl) ⟨rfl, rfl⟩ ⟨Nat.le_of_ble_eq_true rfl, Nat.le_of_ble_eq_true rfl⟩ rfl (fun _ _ => ?_)
        refine jk_st (st' := [.int 0]) (by rw [va_up_self] <;> rfl) ?_
        refine jk_aload_n K dX3_look_72 rfl 2 rfl ?_
        refine jk_get (C := RX3) (T := TX3) (N := 11) (nm := "watch") (ds := "[I") (v := .ref (m 2)) K dX3_look_73 hin_RX3 (by decide +kernel) (X.length + 0) hm_x0 rfl 2 rfl (by decide) rfl ?_
        refine jk_iload_n K dX3_look_76 rfl 3 rfl ?_
        refine jk_iald (v := (a 2 h)) K dX3_look_77 (X.length + 1) hm_a2 (vp_in_nI (by omega) (by decide)) (by rw [nI_clamp (by omega)]) ?_
        refine jk_icmp_ge (tgt := 82) K dX3_look_78 rfl (fun c_78 => ?_) (fun c_78 => ?_)
        · refine jk_aload_n K dX3_look_82 rfl 2 rfl ?_
          refine jk_iload_n K dX3_look_83 rfl 3 rfl ?_
          refine jk_iload_n K dX3_look_84 rfl 1 rfl ?_
          refine jk_iconst (x := (-1)) K dX3_look_85 rfl ?_
          refine jk_icmp_ne (tgt := 93) K dX3_look_86 rfl (fun c_86 => ?_) (fun c_86 => ?_)
          · exact absurd (by decide) c_86
          · refine jk_iconst (x := (-1)) K dX3_look_89 rfl ?_
            refine jk_goto (tgt := 99) K dX3_look_90 rfl ?_
            refine jk_cVi K (n' := 0) (k' := 0) [.int (nI h), .int (-1)] [] dX3_look_99 (hb_X3_kindle _ hl E X Y m th S (va_up N h (hb_fu (N h) 3 0)) a n hn h hh (-1)) gX3_look_X3_kindle rfl kd_X3_kindle ⟨Nat.le_of_ble_eq_true rfl, Nat.le_of_ble_eq_true rfl⟩ (X.length + 0) hm_x0 rfl (Nat.le_of_ble_eq_true rfl) ⟨rfl, rfl⟩ ⟨Nat.le_of_ble_eq_true rfl, Nat.le_of_ble_eq_true rfl⟩ rfl (fun _ _ => ?_)
            refine jk_ws (ws' := (hm_M E X Y m th (nI n) (hm_kS S (-1)) (va_up N h (hm_kF (hb_fu (N h) 3 0) (-1))) a)) (by rw [va_up_self, hb_up_up]) ?_
            refine jk_pop K dX3_look_102 rfl ?_
            exact jk_vret K hz dX3_look_103 () rfl trivial (by unfold hm_lk; rw [hF, if_pos (show a 2 h ≤ hb_fu (N h) 3 _ 3 from c_78), hq]; rfl) (Nat.le_of_ble_eq_true rfl) (Nat.le_of_ble_eq_true rfl)
        · exact jk_vret K hz dX3_look_81 () rfl trivial (by unfold hm_lk; rw [hF, if_neg (show ¬ a 2 h ≤ hb_fu (N h) 3 _ 3 from c_78)]) (Nat.le_of_ble_eq_true rfl) (Nat.le_of_ble_eq_true rfl)
      · exact absurd (by decide) c_48
    · refine jk_iload_n K dX3_look_15 rfl 0 rfl ?_
      refine jk_iconst (x := (-1)) K dX3_look_16 rfl ?_
      refine jk_icmp_ne (tgt := 38) K dX3_look_17 rfl (fun c_17 => ?_) (fun c_17 => ?_)
      · exact absurd (by decide) c_17
      · refine jk_aload_n K dX3_look_20 rfl 1 rfl ?_
        refine jk_get (C := RX3) (T := TX3) (N := 11) (nm := "east") (ds := "[Z") (v := .ref (m 3)) K dX3_look_21 hin_RX3 (by decide +kernel) (X.length + 0) hm_x0 rfl 3 rfl (by decide) rfl ?_
        refine jk_iload_n K dX3_look_24 rfl 2 rfl ?_
        refine jk_zald (v := (hb_zb (a 3 h))) K dX3_look_25 (X.length + 2) hm_a3 (vp_in_nI (by omega) (by decide)) (by rw [nI_clamp (by omega)]) ?_
        refine jk_if_eq (tgt := 42) K dX3_look_26 rfl (fun c_26 => ?_) (fun c_26 => ?_)
        · refine jk_iconst (x := 0) K dX3_look_42 rfl ?_
          have his : hm_is (N h) S (a 3 h) (hm_o (hm_ne (S 4) (a 5) (a 8) h n)) = 0 := by unfold hm_is; rw [hq, if_neg c_12, if_pos (show hm_o none = -1 from rfl), if_pos c_26]
          have hF : hm_lF (N h) S (a 3 h) (hm_o (hm_ne (S 4) (a 5) (a 8) h n)) = hb_fu (N h) 3 0 := by unfold hm_lF; rw [his]; rfl
          refine jk_istore_n (lv' := [(3, .int 0), (2, .int (-1)), (0, .ref (m 0)), (1, .int (nI h))]) K dX3_look_43 rfl (by decide) rfl ?_
          refine jk_aload_n K dX3_look_44 rfl 2 rfl ?_
          refine jk_iload_n K dX3_look_45 rfl 3 rfl ?_
          refine jk_iconst (x := 3) K dX3_look_46 rfl ?_
          refine jk_iload_n K dX3_look_47 rfl 0 rfl ?_
          refine jk_if_eq (tgt := 62) K dX3_look_48 rfl (fun c_48 => ?_) (fun c_48 => ?_)
          · refine jk_iconst (x := 0) K dX3_look_62 rfl ?_
            refine jk_cVv K (n' := 0) (k' := 0) [.int (nI h), .int (nI 3), .int 0] [] dX3_look_63 (hb_X3_let _ hl E X Y m th S N a n hn h 3 hh (by decide) 0) gX3_look_X3_let rfl kd_X3_let ⟨Nat.le_of_ble_eq_true rfl, Nat.le_of_ble_eq_true rfl⟩ (X.length + 0) hm_x0 rfl (Nat.le_of_ble_eq_true rfl) ⟨rfl, rfl⟩ ⟨Nat.le_of_ble_eq_true rfl, Nat.le_of_ble_eq_true rfl⟩ rfl (fun _ _ => ?_)
            refine jk_aload_n K dX3_look_66 rfl 2 rfl ?_
            refine jk_iload_n K dX3_look_67 rfl 3 rfl ?_
            refine jk_iconst (x := 3) K dX3_look_68 rfl ?_
            refine jk_cVi K (n' := 0) (k' := 0) [.int (nI h), .int (nI 3)] [] dX3_look_69 (hb_X3_hi _ hl E X Y m th S (va_up N h (hb_fu (N h) 3 0)) a n hn h 3 hh (by decide)) gX3_look_X3_hi rfl kd_X3_hi ⟨Nat.le_of_ble_eq_true rfl, Nat.le_of_ble_eq_true rfl⟩ (X.length + 0) hm_x0 rfl (Nat.le_of_ble_eq_true rfl) ⟨rfl, rfl⟩ ⟨Nat.le_of_ble_eq_true rfl, Nat.le_of_ble_eq_true rfl⟩ rfl (fun _ _ => ?_)
            refine jk_st (st' := [.int 0]) (by rw [va_up_self] <;> rfl) ?_
            refine jk_aload_n K dX3_look_72 rfl 2 rfl ?_
            refine jk_get (C := RX3) (T := TX3) (N := 11) (nm := "watch") (ds := "[I") (v := .ref (m 2)) K dX3_look_73 hin_RX3 (by decide +kernel) (X.length + 0) hm_x0 rfl 2 rfl (by decide) rfl ?_
            refine jk_iload_n K dX3_look_76 rfl 3 rfl ?_
            refine jk_iald (v := (a 2 h)) K dX3_look_77 (X.length + 1) hm_a2 (vp_in_nI (by omega) (by decide)) (by rw [nI_clamp (by omega)]) ?_
            refine jk_icmp_ge (tgt := 82) K dX3_look_78 rfl (fun c_78 => ?_) (fun c_78 => ?_)
            · refine jk_aload_n K dX3_look_82 rfl 2 rfl ?_
              refine jk_iload_n K dX3_look_83 rfl 3 rfl ?_
              refine jk_iload_n K dX3_look_84 rfl 1 rfl ?_
              refine jk_iconst (x := (-1)) K dX3_look_85 rfl ?_
              refine jk_icmp_ne (tgt := 93) K dX3_look_86 rfl (fun c_86 => ?_) (fun c_86 => ?_)
              · exact absurd (by decide) c_86
              · refine jk_iconst (x := (-1)) K dX3_look_89 rfl ?_
                refine jk_goto (tgt := 99) K dX3_look_90 rfl ?_
                refine jk_cVi K (n' := 0) (k' := 0) [.int (nI h), .int (-1)] [] dX3_look_99 (hb_X3_kindle _ hl E X Y m th S (va_up N h (hb_fu (N h) 3 0)) a n hn h hh (-1)) gX3_look_X3_kindle rfl kd_X3_kindle ⟨Nat.le_of_ble_eq_true rfl, Nat.le_of_ble_eq_true rfl⟩ (X.length + 0) hm_x0 rfl (Nat.le_of_ble_eq_true rfl) ⟨rfl, rfl⟩ ⟨Nat.le_of_ble_eq_true rfl, Nat.le_of_ble_eq_true rfl⟩ rfl (fun _ _ => ?_)
                refine jk_ws (ws' := (hm_M E X Y m th (nI n) (hm_kS S (-1)) (va_up N h (hm_kF (hb_fu (N h) 3 0) (-1))) a)) (by rw [va_up_self, hb_up_up]) ?_
                refine jk_pop K dX3_look_102 rfl ?_
                exact jk_vret K hz dX3_look_103 () rfl trivial (by unfold hm_lk; rw [hF, if_pos (show a 2 h ≤ hb_fu (N h) 3 _ 3 from c_78), hq]; rfl) (Nat.le_of_ble_eq_true rfl) (Nat.le_of_ble_eq_true rfl)
            · exact jk_vret K hz dX3_look_81 () rfl trivial (by unfold hm_lk; rw [hF, if_neg (show ¬ a 2 h ≤ hb_fu (N h) 3 _ 3 from c_78)]) (Nat.le_of_ble_eq_true rfl) (Nat.le_of_ble_eq_true rfl)
          · exact absurd (by decide) c_48
        · refine jk_aload_n K dX3_look_29 rfl 1 rfl ?_
          refine jk_get (C := RX3) (T := TX3) (N := 11) (nm := "now") (ds := "[I") (v := .ref (m 6)) K dX3_look_30 hin_RX3 (by decide +kernel) (X.length + 0) hm_x0 rfl 6 rfl (by decide) rfl ?_
          refine jk_iconst (x := 1) K dX3_look_33 rfl ?_
          refine jk_iald (v := (S 1)) K dX3_look_34 (X.length + 5) hm_a6 (vp_in_nI (n := 1) (by decide) (by decide)) (hm_now_s _ _ (k := 1) (by decide)) ?_
          refine jk_if_le (tgt := 42) K dX3_look_35 rfl (fun c_35 => ?_) (fun c_35 => ?_)
          · refine jk_iconst (x := 0) K dX3_look_42 rfl ?_
            have his : hm_is (N h) S (a 3 h) (hm_o (hm_ne (S 4) (a 5) (a 8) h n)) = 0 := by unfold hm_is; rw [hq, if_neg c_12, if_pos (show hm_o none = -1 from rfl), if_neg c_26, if_pos c_35]
            have hF : hm_lF (N h) S (a 3 h) (hm_o (hm_ne (S 4) (a 5) (a 8) h n)) = hb_fu (N h) 3 0 := by unfold hm_lF; rw [his]; rfl
            refine jk_istore_n (lv' := [(3, .int 0), (2, .int (-1)), (0, .ref (m 0)), (1, .int (nI h))]) K dX3_look_43 rfl (by decide) rfl ?_
            refine jk_aload_n K dX3_look_44 rfl 2 rfl ?_
            refine jk_iload_n K dX3_look_45 rfl 3 rfl ?_
            refine jk_iconst (x := 3) K dX3_look_46 rfl ?_
            refine jk_iload_n K dX3_look_47 rfl 0 rfl ?_
            refine jk_if_eq (tgt := 62) K dX3_look_48 rfl (fun c_48 => ?_) (fun c_48 => ?_)
            · refine jk_iconst (x := 0) K dX3_look_62 rfl ?_
              refine jk_cVv K (n' := 0) (k' := 0) [.int (nI h), .int (nI 3), .int 0] [] dX3_look_63 (hb_X3_let _ hl E X Y m th S N a n hn h 3 hh (by decide) 0) gX3_look_X3_let rfl kd_X3_let ⟨Nat.le_of_ble_eq_true rfl, Nat.le_of_ble_eq_true rfl⟩ (X.length + 0) hm_x0 rfl (Nat.le_of_ble_eq_true rfl) ⟨rfl, rfl⟩ ⟨Nat.le_of_ble_eq_true rfl, Nat.le_of_ble_eq_true rfl⟩ rfl (fun _ _ => ?_)
              refine jk_aload_n K dX3_look_66 rfl 2 rfl ?_
              refine jk_iload_n K dX3_look_67 rfl 3 rfl ?_
              refine jk_iconst (x := 3) K dX3_look_68 rfl ?_
              refine jk_cVi K (n' := 0) (k' := 0) [.int (nI h), .int (nI 3)] [] dX3_look_69 (hb_X3_hi _ hl E X Y m th S (va_up N h (hb_fu (N h) 3 0)) a n hn h 3 hh (by decide)) gX3_look_X3_hi rfl kd_X3_hi ⟨Nat.le_of_ble_eq_true rfl, Nat.le_of_ble_eq_true rfl⟩ (X.length + 0) hm_x0 rfl (Nat.le_of_ble_eq_true rfl) ⟨rfl, rfl⟩ ⟨Nat.le_of_ble_eq_true rfl, Nat.le_of_ble_eq_true rfl⟩ rfl (fun _ _ => ?_)
              refine jk_st (st' := [.int 0]) (by rw [va_up_self] <;> rfl) ?_
              refine jk_aload_n K dX3_look_72 rfl 2 rfl ?_
              refine jk_get (C := RX3) (T := TX3) (N := 11) (nm := "watch") (ds := "[I") (v := .ref (m 2)) K dX3_look_73 hin_RX3 (by decide +kernel) (X.length + 0) hm_x0 rfl 2 rfl (by decide) rfl ?_
              refine jk_iload_n K dX3_look_76 rfl 3 rfl ?_
              refine jk_iald (v := (a 2 h)) K dX3_look_77 (X.length + 1) hm_a2 (vp_in_nI (by omega) (by decide)) (by rw [nI_clamp (by omega)]) ?_
              refine jk_icmp_ge (tgt := 82) K dX3_look_78 rfl (fun c_78 => ?_) (fun c_78 => ?_)
              · refine jk_aload_n K dX3_look_82 rfl 2 rfl ?_
                refine jk_iload_n K dX3_look_83 rfl 3 rfl ?_
                refine jk_iload_n K dX3_look_84 rfl 1 rfl ?_
                refine jk_iconst (x := (-1)) K dX3_look_85 rfl ?_
                refine jk_icmp_ne (tgt := 93) K dX3_look_86 rfl (fun c_86 => ?_) (fun c_86 => ?_)
                · exact absurd (by decide) c_86
                · refine jk_iconst (x := (-1)) K dX3_look_89 rfl ?_
                  refine jk_goto (tgt := 99) K dX3_look_90 rfl ?_
                  refine jk_cVi K (n' := 0) (k' := 0) [.int (nI h), .int (-1)] [] dX3_look_99 (hb_X3_kindle _ hl E X Y m th S (va_up N h (hb_fu (N h) 3 0)) a n hn h hh (-1)) gX3_look_X3_kindle rfl kd_X3_kindle ⟨Nat.le_of_ble_eq_true rfl, Nat.le_of_ble_eq_true rfl⟩ (X.length + 0) hm_x0 rfl (Nat.le_of_ble_eq_true rfl) ⟨rfl, rfl⟩ ⟨Nat.le_of_ble_eq_true rfl, Nat.le_of_ble_eq_true rfl⟩ rfl (fun _ _ => ?_)
                  refine jk_ws (ws' := (hm_M E X Y m th (nI n) (hm_kS S (-1)) (va_up N h (hm_kF (hb_fu (N h) 3 0) (-1))) a)) (by rw [va_up_self, hb_up_up]) ?_
                  refine jk_pop K dX3_look_102 rfl ?_
                  exact jk_vret K hz dX3_look_103 () rfl trivial (by unfold hm_lk; rw [hF, if_pos (show a 2 h ≤ hb_fu (N h) 3 _ 3 from c_78), hq]; rfl) (Nat.le_of_ble_eq_true rfl) (Nat.le_of_ble_eq_true rfl)
              · exact jk_vret K hz dX3_look_81 () rfl trivial (by unfold hm_lk; rw [hF, if_neg (show ¬ a 2 h ≤ hb_fu (N h) 3 _ 3 from c_78)]) (Nat.le_of_ble_eq_true rfl) (Nat.le_of_ble_eq_true rfl)
            · exact absurd (by decide) c_48
          · refine jk_iconst (x := 1) K dX3_look_38 rfl ?_
            refine jk_goto (tgt := 43) K dX3_look_39 rfl ?_
            have his : hm_is (N h) S (a 3 h) (hm_o (hm_ne (S 4) (a 5) (a 8) h n)) = 1 := by unfold hm_is; rw [hq, if_neg c_12, if_pos (show hm_o none = -1 from rfl), if_neg c_26, if_neg c_35]
            have hF : hm_lF (N h) S (a 3 h) (hm_o (hm_ne (S 4) (a 5) (a 8) h n)) = hb_fu (N h) 3 ((N h 3) + 1) := by unfold hm_lF; rw [his]; rfl
            refine jk_istore_n (lv' := [(3, .int 1), (2, .int (-1)), (0, .ref (m 0)), (1, .int (nI h))]) K dX3_look_43 rfl (by decide) rfl ?_
            refine jk_aload_n K dX3_look_44 rfl 2 rfl ?_
            refine jk_iload_n K dX3_look_45 rfl 3 rfl ?_
            refine jk_iconst (x := 3) K dX3_look_46 rfl ?_
            refine jk_iload_n K dX3_look_47 rfl 0 rfl ?_
            refine jk_if_eq (tgt := 62) K dX3_look_48 rfl (fun c_48 => ?_) (fun c_48 => ?_)
            · exact absurd c_48 (by decide)
            · refine jk_aload_n K dX3_look_51 rfl 2 rfl ?_
              refine jk_iload_n K dX3_look_52 rfl 3 rfl ?_
              refine jk_iconst (x := 3) K dX3_look_53 rfl ?_
              refine jk_cVi K (n' := 0) (k' := 0) [.int (nI h), .int (nI 3)] [.int 3, .int (nI h), .ref (m 0)] dX3_look_54 (hb_X3_hi _ hl E X Y m th S N a n hn h 3 hh (by decide)) gX3_look_X3_hi rfl kd_X3_hi ⟨Nat.le_of_ble_eq_true rfl, Nat.le_of_ble_eq_true rfl⟩ (X.length + 0) hm_x0 rfl (Nat.le_of_ble_eq_true rfl) ⟨rfl, rfl⟩ ⟨Nat.le_of_ble_eq_true rfl, Nat.le_of_ble_eq_true rfl⟩ rfl (fun _ _ => ?_)
              refine jk_iconst (x := 1) K dX3_look_57 rfl ?_
              refine jk_iadd K dX3_look_58 ?_
              refine jk_goto (tgt := 63) K dX3_look_59 rfl ?_
              refine jk_cVv K (n' := 0) (k' := 0) [.int (nI h), .int (nI 3), .int ((N h 3) + 1)] [] dX3_look_63 (hb_X3_let _ hl E X Y m th S N a n hn h 3 hh (by decide) ((N h 3) + 1)) gX3_look_X3_let rfl kd_X3_let ⟨Nat.le_of_ble_eq_true rfl, Nat.le_of_ble_eq_true rfl⟩ (X.length + 0) hm_x0 rfl (Nat.le_of_ble_eq_true rfl) ⟨rfl, rfl⟩ ⟨Nat.le_of_ble_eq_true rfl, Nat.le_of_ble_eq_true rfl⟩ rfl (fun _ _ => ?_)
              refine jk_aload_n K dX3_look_66 rfl 2 rfl ?_
              refine jk_iload_n K dX3_look_67 rfl 3 rfl ?_
              refine jk_iconst (x := 3) K dX3_look_68 rfl ?_
              refine jk_cVi K (n' := 0) (k' := 0) [.int (nI h), .int (nI 3)] [] dX3_look_69 (hb_X3_hi _ hl E X Y m th S (va_up N h (hb_fu (N h) 3 ((N h 3) + 1))) a n hn h 3 hh (by decide)) gX3_look_X3_hi rfl kd_X3_hi ⟨Nat.le_of_ble_eq_true rfl, Nat.le_of_ble_eq_true rfl⟩ (X.length + 0) hm_x0 rfl (Nat.le_of_ble_eq_true rfl) ⟨rfl, rfl⟩ ⟨Nat.le_of_ble_eq_true rfl, Nat.le_of_ble_eq_true rfl⟩ rfl (fun _ _ => ?_)
              refine jk_st (st' := [.int ((N h 3) + 1)]) (by rw [va_up_self] <;> rfl) ?_
              refine jk_aload_n K dX3_look_72 rfl 2 rfl ?_
              refine jk_get (C := RX3) (T := TX3) (N := 11) (nm := "watch") (ds := "[I") (v := .ref (m 2)) K dX3_look_73 hin_RX3 (by decide +kernel) (X.length + 0) hm_x0 rfl 2 rfl (by decide) rfl ?_
              refine jk_iload_n K dX3_look_76 rfl 3 rfl ?_
              refine jk_iald (v := (a 2 h)) K dX3_look_77 (X.length + 1) hm_a2 (vp_in_nI (by omega) (by decide)) (by rw [nI_clamp (by omega)]) ?_
              refine jk_icmp_ge (tgt := 82) K dX3_look_78 rfl (fun c_78 => ?_) (fun c_78 => ?_)
              · refine jk_aload_n K dX3_look_82 rfl 2 rfl ?_
                refine jk_iload_n K dX3_look_83 rfl 3 rfl ?_
                refine jk_iload_n K dX3_look_84 rfl 1 rfl ?_
                refine jk_iconst (x := (-1)) K dX3_look_85 rfl ?_
                refine jk_icmp_ne (tgt := 93) K dX3_look_86 rfl (fun c_86 => ?_) (fun c_86 => ?_)
                · exact absurd (by decide) c_86
                · refine jk_iconst (x := (-1)) K dX3_look_89 rfl ?_
                  refine jk_goto (tgt := 99) K dX3_look_90 rfl ?_
                  refine jk_cVi K (n' := 0) (k' := 0) [.int (nI h), .int (-1)] [] dX3_look_99 (hb_X3_kindle _ hl E X Y m th S (va_up N h (hb_fu (N h) 3 ((N h 3) + 1))) a n hn h hh (-1)) gX3_look_X3_kindle rfl kd_X3_kindle ⟨Nat.le_of_ble_eq_true rfl, Nat.le_of_ble_eq_true rfl⟩ (X.length + 0) hm_x0 rfl (Nat.le_of_ble_eq_true rfl) ⟨rfl, rfl⟩ ⟨Nat.le_of_ble_eq_true rfl, Nat.le_of_ble_eq_true rfl⟩ rfl (fun _ _ => ?_)
                  refine jk_ws (ws' := (hm_M E X Y m th (nI n) (hm_kS S (-1)) (va_up N h (hm_kF (hb_fu (N h) 3 ((N h 3) + 1)) (-1))) a)) (by rw [va_up_self, hb_up_up]) ?_
                  refine jk_pop K dX3_look_102 rfl ?_
                  exact jk_vret K hz dX3_look_103 () rfl trivial (by unfold hm_lk; rw [hF, if_pos (show a 2 h ≤ hb_fu (N h) 3 _ 3 from c_78), hq]; rfl) (Nat.le_of_ble_eq_true rfl) (Nat.le_of_ble_eq_true rfl)
              · exact jk_vret K hz dX3_look_81 () rfl trivial (by unfold hm_lk; rw [hF, if_neg (show ¬ a 2 h ≤ hb_fu (N h) 3 _ 3 from c_78)]) (Nat.le_of_ble_eq_true rfl) (Nat.le_of_ble_eq_true rfl)
  · refine jk_lv (lv' := [(2, .int (nI b)), (0, .ref (m 0)), (1, .int (nI h))]) rfl ?_
    have hb10 : b < 10 := Nat.lt_of_lt_of_le (hm_ne_lt _ _ _ _ _ _ hq) hn
    refine jk_aload_n K dX3_look_6 rfl 1 rfl ?_
    refine jk_iload_n K dX3_look_7 rfl 2 rfl ?_
    refine jk_iconst (x := 0) K dX3_look_8 rfl ?_
    refine jk_cVi K (n' := 0) (k' := 0) [.int (nI h), .int (nI 0)] [] dX3_look_9 (hb_X3_hi _ hl E X Y m th S N a n hn h 0 hh (by decide)) gX3_look_X3_hi rfl kd_X3_hi ⟨Nat.le_of_ble_eq_true rfl, Nat.le_of_ble_eq_true rfl⟩ (X.length + 0) hm_x0 rfl (Nat.le_of_ble_eq_true rfl) ⟨rfl, rfl⟩ ⟨Nat.le_of_ble_eq_true rfl, Nat.le_of_ble_eq_true rfl⟩ rfl (fun _ _ => ?_)
    refine jk_if_le (tgt := 42) K dX3_look_12 rfl (fun c_12 => ?_) (fun c_12 => ?_)
    · refine jk_iconst (x := 0) K dX3_look_42 rfl ?_
      have his : hm_is (N h) S (a 3 h) (hm_o (hm_ne (S 4) (a 5) (a 8) h n)) = 0 := by unfold hm_is; rw [hq, if_pos c_12]
      have hF : hm_lF (N h) S (a 3 h) (hm_o (hm_ne (S 4) (a 5) (a 8) h n)) = hb_fu (N h) 3 0 := by unfold hm_lF; rw [his]; rfl
      refine jk_istore_n (lv' := [(3, .int 0), (2, .int (nI b)), (0, .ref (m 0)), (1, .int (nI h))]) K dX3_look_43 rfl (by decide) rfl ?_
      refine jk_aload_n K dX3_look_44 rfl 2 rfl ?_
      refine jk_iload_n K dX3_look_45 rfl 3 rfl ?_
      refine jk_iconst (x := 3) K dX3_look_46 rfl ?_
      refine jk_iload_n K dX3_look_47 rfl 0 rfl ?_
      refine jk_if_eq (tgt := 62) K dX3_look_48 rfl (fun c_48 => ?_) (fun c_48 => ?_)
      · refine jk_iconst (x := 0) K dX3_look_62 rfl ?_
        refine jk_cVv K (n' := 0) (k' := 0) [.int (nI h), .int (nI 3), .int 0] [] dX3_look_63 (hb_X3_let _ hl E X Y m th S N a n hn h 3 hh (by decide) 0) gX3_look_X3_let rfl kd_X3_let ⟨Nat.le_of_ble_eq_true rfl, Nat.le_of_ble_eq_true rfl⟩ (X.length + 0) hm_x0 rfl (Nat.le_of_ble_eq_true rfl) ⟨rfl, rfl⟩ ⟨Nat.le_of_ble_eq_true rfl, Nat.le_of_ble_eq_true rfl⟩ rfl (fun _ _ => ?_)
        refine jk_aload_n K dX3_look_66 rfl 2 rfl ?_
        refine jk_iload_n K dX3_look_67 rfl 3 rfl ?_
        refine jk_iconst (x := 3) K dX3_look_68 rfl ?_
        refine jk_cVi K (n' := 0) (k' := 0) [.int (nI h), .int (nI 3)] [] dX3_look_69 (hb_X3_hi _ hl E X Y m th S (va_up N h (hb_fu (N h) 3 0)) a n hn h 3 hh (by decide)) gX3_look_X3_hi rfl kd_X3_hi ⟨Nat.le_of_ble_eq_true rfl, Nat.le_of_ble_eq_true rfl⟩ (X.length + 0) hm_x0 rfl (Nat.le_of_ble_eq_true rfl) ⟨rfl, rfl⟩ ⟨Nat.le_of_ble_eq_true rfl, Nat.le_of_ble_eq_true rfl⟩ rfl (fun _ _ => ?_)
        refine jk_st (st' := [.int 0]) (by rw [va_up_self] <;> rfl) ?_
        refine jk_aload_n K dX3_look_72 rfl 2 rfl ?_
        refine jk_get (C := RX3) (T := TX3) (N := 11) (nm := "watch") (ds := "[I") (v := .ref (m 2)) K dX3_look_73 hin_RX3 (by decide +kernel) (X.length + 0) hm_x0 rfl 2 rfl (by decide) rfl ?_
        refine jk_iload_n K dX3_look_76 rfl 3 rfl ?_
        refine jk_iald (v := (a 2 h)) K dX3_look_77 (X.length + 1) hm_a2 (vp_in_nI (by omega) (by decide)) (by rw [nI_clamp (by omega)]) ?_
        refine jk_icmp_ge (tgt := 82) K dX3_look_78 rfl (fun c_78 => ?_) (fun c_78 => ?_)
        · refine jk_aload_n K dX3_look_82 rfl 2 rfl ?_
          refine jk_iload_n K dX3_look_83 rfl 3 rfl ?_
          refine jk_iload_n K dX3_look_84 rfl 1 rfl ?_
          refine jk_iconst (x := (-1)) K dX3_look_85 rfl ?_
          refine jk_icmp_ne (tgt := 93) K dX3_look_86 rfl (fun c_86 => ?_) (fun c_86 => ?_)
          · refine jk_aload_n K dX3_look_93 rfl 2 rfl ?_
            refine jk_iload_n K dX3_look_94 rfl 1 rfl ?_
            refine jk_iconst (x := 4) K dX3_look_95 rfl ?_
            refine jk_cVi K (n' := 0) (k' := 0) [.int (nI b), .int (nI 4)] [.int (nI h), .ref (m 0)] dX3_look_96 (hb_X3_hi _ hl E X Y m th S (va_up N h (hb_fu (N h) 3 0)) a n hn b 4 hb10 (by decide)) gX3_look_X3_hi rfl kd_X3_hi ⟨Nat.le_of_ble_eq_true rfl, Nat.le_of_ble_eq_true rfl⟩ (X.length + 0) hm_x0 rfl (Nat.le_of_ble_eq_true rfl) ⟨rfl, rfl⟩ ⟨Nat.le_of_ble_eq_true rfl, Nat.le_of_ble_eq_true rfl⟩ rfl (fun _ _ => ?_)
            refine jk_cVi K (n' := 0) (k' := 0) [.int (nI h), .int ((va_up N h (hb_fu (N h) 3 0)) b 4)] [] dX3_look_99 (hb_X3_kindle _ hl E X Y m th S (va_up N h (hb_fu (N h) 3 0)) a n hn h hh ((va_up N h (hb_fu (N h) 3 0)) b 4)) gX3_look_X3_kindle rfl kd_X3_kindle ⟨Nat.le_of_ble_eq_true rfl, Nat.le_of_ble_eq_true rfl⟩ (X.length + 0) hm_x0 rfl (Nat.le_of_ble_eq_true rfl) ⟨rfl, rfl⟩ ⟨Nat.le_of_ble_eq_true rfl, Nat.le_of_ble_eq_true rfl⟩ rfl (fun _ _ => ?_)
            refine jk_ws (ws' := (hm_M E X Y m th (nI n) (hm_kS S ((va_up N h (hb_fu (N h) 3 0)) b 4)) (va_up N h (hm_kF (hb_fu (N h) 3 0) ((va_up N h (hb_fu (N h) 3 0)) b 4))) a)) (by rw [va_up_self, hb_up_up]) ?_
            refine jk_pop K dX3_look_102 rfl ?_
            exact jk_vret K hz dX3_look_103 () rfl trivial (by unfold hm_lk; rw [hF, if_pos (show a 2 h ≤ hb_fu (N h) 3 _ 3 from c_78), hq]; rfl) (Nat.le_of_ble_eq_true rfl) (Nat.le_of_ble_eq_true rfl)
          · exact absurd c_86 (hm_neg (by omega))
        · exact jk_vret K hz dX3_look_81 () rfl trivial (by unfold hm_lk; rw [hF, if_neg (show ¬ a 2 h ≤ hb_fu (N h) 3 _ 3 from c_78)]) (Nat.le_of_ble_eq_true rfl) (Nat.le_of_ble_eq_true rfl)
      · exact absurd (by decide) c_48
    · refine jk_iload_n K dX3_look_15 rfl 0 rfl ?_
      refine jk_iconst (x := (-1)) K dX3_look_16 rfl ?_
      refine jk_icmp_ne (tgt := 38) K dX3_look_17 rfl (fun c_17 => ?_) (fun c_17 => ?_)
      · refine jk_iconst (x := 1) K dX3_look_38 rfl ?_
        refine jk_goto (tgt := 43) K dX3_look_39 rfl ?_
        have his : hm_is (N h) S (a 3 h) (hm_o (hm_ne (S 4) (a 5) (a 8) h n)) = 1 := by unfold hm_is; rw [hq, if_neg c_12, if_neg (show ¬ hm_o (some b) = -1 from hm_neg (by omega))]
        have hF : hm_lF (N h) S (a 3 h) (hm_o (hm_ne (S 4) (a 5) (a 8) h n)) = hb_fu (N h) 3 ((N h 3) + 1) := by unfold hm_lF; rw [his]; rfl
        refine jk_istore_n (lv' := [(3, .int 1), (2, .int (nI b)), (0, .ref (m 0)), (1, .int (nI h))]) K dX3_look_43 rfl (by decide) rfl ?_
        refine jk_aload_n K dX3_look_44 rfl 2 rfl ?_
        refine jk_iload_n K dX3_look_45 rfl 3 rfl ?_
        refine jk_iconst (x := 3) K dX3_look_46 rfl ?_
        refine jk_iload_n K dX3_look_47 rfl 0 rfl ?_
        refine jk_if_eq (tgt := 62) K dX3_look_48 rfl (fun c_48 => ?_) (fun c_48 => ?_)
        · exact absurd c_48 (by decide)
        · refine jk_aload_n K dX3_look_51 rfl 2 rfl ?_
          refine jk_iload_n K dX3_look_52 rfl 3 rfl ?_
          refine jk_iconst (x := 3) K dX3_look_53 rfl ?_
          refine jk_cVi K (n' := 0) (k' := 0) [.int (nI h), .int (nI 3)] [.int 3, .int (nI h), .ref (m 0)] dX3_look_54 (hb_X3_hi _ hl E X Y m th S N a n hn h 3 hh (by decide)) gX3_look_X3_hi rfl kd_X3_hi ⟨Nat.le_of_ble_eq_true rfl, Nat.le_of_ble_eq_true rfl⟩ (X.length + 0) hm_x0 rfl (Nat.le_of_ble_eq_true rfl) ⟨rfl, rfl⟩ ⟨Nat.le_of_ble_eq_true rfl, Nat.le_of_ble_eq_true rfl⟩ rfl (fun _ _ => ?_)
          refine jk_iconst (x := 1) K dX3_look_57 rfl ?_
          refine jk_iadd K dX3_look_58 ?_
          refine jk_goto (tgt := 63) K dX3_look_59 rfl ?_
          refine jk_cVv K (n' := 0) (k' := 0) [.int (nI h), .int (nI 3), .int ((N h 3) + 1)] [] dX3_look_63 (hb_X3_let _ hl E X Y m th S N a n hn h 3 hh (by decide) ((N h 3) + 1)) gX3_look_X3_let rfl kd_X3_let ⟨Nat.le_of_ble_eq_true rfl, Nat.le_of_ble_eq_true rfl⟩ (X.length + 0) hm_x0 rfl (Nat.le_of_ble_eq_true rfl) ⟨rfl, rfl⟩ ⟨Nat.le_of_ble_eq_true rfl, Nat.le_of_ble_eq_true rfl⟩ rfl (fun _ _ => ?_)
          refine jk_aload_n K dX3_look_66 rfl 2 rfl ?_
          refine jk_iload_n K dX3_look_67 rfl 3 rfl ?_
          refine jk_iconst (x := 3) K dX3_look_68 rfl ?_
          refine jk_cVi K (n' := 0) (k' := 0) [.int (nI h), .int (nI 3)] [] dX3_look_69 (hb_X3_hi _ hl E X Y m th S (va_up N h (hb_fu (N h) 3 ((N h 3) + 1))) a n hn h 3 hh (by decide)) gX3_look_X3_hi rfl kd_X3_hi ⟨Nat.le_of_ble_eq_true rfl, Nat.le_of_ble_eq_true rfl⟩ (X.length + 0) hm_x0 rfl (Nat.le_of_ble_eq_true rfl) ⟨rfl, rfl⟩ ⟨Nat.le_of_ble_eq_true rfl, Nat.le_of_ble_eq_true rfl⟩ rfl (fun _ _ => ?_)
          refine jk_st (st' := [.int ((N h 3) + 1)]) (by rw [va_up_self] <;> rfl) ?_
          refine jk_aload_n K dX3_look_72 rfl 2 rfl ?_
          refine jk_get (C := RX3) (T := TX3) (N := 11) (nm := "watch") (ds := "[I") (v := .ref (m 2)) K dX3_look_73 hin_RX3 (by decide +kernel) (X.length + 0) hm_x0 rfl 2 rfl (by decide) rfl ?_
          refine jk_iload_n K dX3_look_76 rfl 3 rfl ?_
          refine jk_iald (v := (a 2 h)) K dX3_look_77 (X.length + 1) hm_a2 (vp_in_nI (by omega) (by decide)) (by rw [nI_clamp (by omega)]) ?_
          refine jk_icmp_ge (tgt := 82) K dX3_look_78 rfl (fun c_78 => ?_) (fun c_78 => ?_)
          · refine jk_aload_n K dX3_look_82 rfl 2 rfl ?_
            refine jk_iload_n K dX3_look_83 rfl 3 rfl ?_
            refine jk_iload_n K dX3_look_84 rfl 1 rfl ?_
            refine jk_iconst (x := (-1)) K dX3_look_85 rfl ?_
            refine jk_icmp_ne (tgt := 93) K dX3_look_86 rfl (fun c_86 => ?_) (fun c_86 => ?_)
            · refine jk_aload_n K dX3_look_93 rfl 2 rfl ?_
              refine jk_iload_n K dX3_look_94 rfl 1 rfl ?_
              refine jk_iconst (x := 4) K dX3_look_95 rfl ?_
              refine jk_cVi K (n' := 0) (k' := 0) [.int (nI b), .int (nI 4)] [.int (nI h), .ref (m 0)] dX3_look_96 (hb_X3_hi _ hl E X Y m th S (va_up N h (hb_fu (N h) 3 ((N h 3) + 1))) a n hn b 4 hb10 (by decide)) gX3_look_X3_hi rfl kd_X3_hi ⟨Nat.le_of_ble_eq_true rfl, Nat.le_of_ble_eq_true rfl⟩ (X.length + 0) hm_x0 rfl (Nat.le_of_ble_eq_true rfl) ⟨rfl, rfl⟩ ⟨Nat.le_of_ble_eq_true rfl, Nat.le_of_ble_eq_true rfl⟩ rfl (fun _ _ => ?_)
              refine jk_cVi K (n' := 0) (k' := 0) [.int (nI h), .int ((va_up N h (hb_fu (N h) 3 ((N h 3) + 1))) b 4)] [] dX3_look_99 (hb_X3_kindle _ hl E X Y m th S (va_up N h (hb_fu (N h) 3 ((N h 3) + 1))) a n hn h hh ((va_up N h (hb_fu (N h) 3 ((N h 3) + 1))) b 4)) gX3_look_X3_kindle rfl kd_X3_kindle ⟨Nat.le_of_ble_eq_true rfl, Nat.le_of_ble_eq_true rfl⟩ (X.length + 0) hm_x0 rfl (Nat.le_of_ble_eq_true rfl) ⟨rfl, rfl⟩ ⟨Nat.le_of_ble_eq_true rfl, Nat.le_of_ble_eq_true rfl⟩ rfl (fun _ _ => ?_)
              refine jk_ws (ws' := (hm_M E X Y m th (nI n) (hm_kS S ((va_up N h (hb_fu (N h) 3 ((N h 3) + 1))) b 4)) (va_up N h (hm_kF (hb_fu (N h) 3 ((N h 3) + 1)) ((va_up N h (hb_fu (N h) 3 ((N h 3) + 1))) b 4))) a)) (by rw [va_up_self, hb_up_up]) ?_
              refine jk_pop K dX3_look_102 rfl ?_
              exact jk_vret K hz dX3_look_103 () rfl trivial (by unfold hm_lk; rw [hF, if_pos (show a 2 h ≤ hb_fu (N h) 3 _ 3 from c_78), hq]; rfl) (Nat.le_of_ble_eq_true rfl) (Nat.le_of_ble_eq_true rfl)
            · exact absurd c_86 (hm_neg (by omega))
          · exact jk_vret K hz dX3_look_81 () rfl trivial (by unfold hm_lk; rw [hF, if_neg (show ¬ a 2 h ≤ hb_fu (N h) 3 _ 3 from c_78)]) (Nat.le_of_ble_eq_true rfl) (Nat.le_of_ble_eq_true rfl)
      · exact absurd c_17 (hm_neg (by omega))
