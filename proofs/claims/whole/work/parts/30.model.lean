theorem kd_X3_isIn : yX3_isIn.cls ≠ "java/lang/invoke/MethodHandle" ∧ yX3_isIn.cls ≠ "java/lang/invoke/VarHandle" ∧ (parseMethodDescriptor yX3_isIn.desc).map (fun d => d.parameters.length) = some 3 := by decide +kernel
set_option maxHeartbeats 4000000 in
set_option maxRecDepth 100000 in
theorem hb_X3_thrown (l : Launch) (hl : l.stackTraces = false) (E : jk_T) (X Y : va_W) (m : Nat → Nat) (th : Int32) (S : Nat → Int32) (N a : Nat → Nat → Int32) (n : Nat) (hn : n ≤ 10) : jk_fn l yX3_thrown wsX3_thrown ({ frames := 0, cells := 0, slots := 0, locals := 0 } : Room) [.ref (m 0)] E (hm_M E X Y m th (nI n) S N a) (some (.int th)) (hm_M E X Y m th (nI n) S N a) := by
  refine jk_of (lv := [(0, .ref (m 0))]) (own := RX3) (nm := "thrown") hl (by decide +kernel) rfl (Nat.le_of_ble_eq_true rfl) rfl rfl rfl (fun Γ hΓ K hnm hz => ?_)
  subst hΓ
  have hin_RX3 : ∀ w ∈ u_ws RX3 TX3 11, w ∈ wsX3_thrown := by decide +kernel
  refine jk_aload_n K dX3_thrown_0 rfl 0 rfl ?_
  refine jk_get (C := RX3) (T := TX3) (N := 11) (nm := "thrown") (ds := "I") (v := .int th) K dX3_thrown_1 hin_RX3 (by decide +kernel) (X.length + 0) hm_x0 rfl 0 rfl (by decide) rfl ?_
  exact jk_iret K hz dX3_thrown_4 () rfl trivial rfl rfl (Nat.le_of_ble_eq_true rfl) (Nat.le_of_ble_eq_true rfl)
set_option maxHeartbeats 4000000 in
set_option maxRecDepth 100000 in
theorem hb_X3_fail (l : Launch) (hl : l.stackTraces = false) (E : jk_T) (X Y : va_W) (m : Nat → Nat) (th : Int32) (S : Nat → Int32) (N a : Nat → Nat → Int32) (n : Nat) (hn : n ≤ 10) (x : Int32) : jk_fn l yX3_fail wsX3_fail ({ frames := 0, cells := 0, slots := 0, locals := 0 } : Room) [.ref (m 0), .int x] E (hm_M E X Y m th (nI n) S N a) (some (.int 0)) (hm_M E X Y m x (nI n) S N a) := by
  refine jk_of (lv := [(0, .ref (m 0)), (1, .int x)]) (own := RX3) (nm := "fail") hl (by decide +kernel) rfl (Nat.le_of_ble_eq_true rfl) rfl rfl rfl (fun Γ hΓ K hnm hz => ?_)
  subst hΓ
  have hin_RX3 : ∀ w ∈ u_ws RX3 TX3 11, w ∈ wsX3_fail := by decide +kernel
  refine jk_aload_n K dX3_fail_0 rfl 0 rfl ?_
  refine jk_iload_n K dX3_fail_1 rfl 1 rfl ?_
  refine jk_put (C := RX3) (T := TX3) (N := 11) (nm := "thrown") (ds := "I") (w' := (hm_M E X Y m x (nI n) S N a)) K dX3_fail_2 hin_RX3 tyX3 tyX3_ok nmX3 (by decide +kernel) (X.length + 0) hm_x0 rfl 0 rfl (by decide) rfl rfl rfl rfl (Nat.le_of_ble_eq_true rfl) (hm_s0 rfl) ?_
  refine jk_iconst (x := 0) K dX3_fail_5 rfl ?_
  exact jk_iret K hz dX3_fail_6 () rfl trivial rfl rfl (Nat.le_of_ble_eq_true rfl) (Nat.le_of_ble_eq_true rfl)
set_option maxHeartbeats 4000000 in
set_option maxRecDepth 100000 in
theorem hb_X3_failed (l : Launch) (hl : l.stackTraces = false) (E : jk_T) (X Y : va_W) (m : Nat → Nat) (th : Int32) (S : Nat → Int32) (N a : Nat → Nat → Int32) (n : Nat) (hn : n ≤ 10) (x : Int32) : jk_fn l yX3_failed wsX3_failed ({ frames := 0, cells := 0, slots := 0, locals := 0 } : Room) [.ref (m 0), .int x] E (hm_M E X Y m th (nI n) S N a) (some (.int 0)) (hm_M E X Y m x (nI n) S N a) := by
  refine jk_of (lv := [(0, .ref (m 0)), (1, .int x)]) (own := RX3) (nm := "failed") hl (by decide +kernel) rfl (Nat.le_of_ble_eq_true rfl) rfl rfl rfl (fun Γ hΓ K hnm hz => ?_)
  subst hΓ
  have hin_RX3 : ∀ w ∈ u_ws RX3 TX3 11, w ∈ wsX3_failed := by decide +kernel
  refine jk_aload_n K dX3_failed_0 rfl 0 rfl ?_
  refine jk_iload_n K dX3_failed_1 rfl 1 rfl ?_
  refine jk_put (C := RX3) (T := TX3) (N := 11) (nm := "thrown") (ds := "I") (w' := (hm_M E X Y m x (nI n) S N a)) K dX3_failed_2 hin_RX3 tyX3 tyX3_ok nmX3 (by decide +kernel) (X.length + 0) hm_x0 rfl 0 rfl (by decide) rfl rfl rfl rfl (Nat.le_of_ble_eq_true rfl) (hm_s0 rfl) ?_
  refine jk_iconst (x := 0) K dX3_failed_5 rfl ?_
  exact jk_iret K hz dX3_failed_6 () rfl trivial rfl rfl (Nat.le_of_ble_eq_true rfl) (Nat.le_of_ble_eq_true rfl)
set_option maxHeartbeats 4000000 in
set_option maxRecDepth 100000 in
theorem hb_X3_isIn (l : Launch) (hl : l.stackTraces = false) (E : jk_T) (ws : va_W) (v lo hi : Int32) : jk_fn l yX3_isIn wsX3_isIn ({ frames := 0, cells := 0, slots := 0, locals := 0 } : Room) [.int v, .int lo, .int hi] E ws (some (.int (hm_in v lo hi))) ws := by
  refine jk_of (lv := [(0, .int v), (1, .int lo), (2, .int hi)]) (own := RX3) (nm := "isIn") hl (by decide +kernel) rfl (Nat.le_of_ble_eq_true rfl) rfl rfl rfl (fun Γ hΓ K hnm hz => ?_)
  subst hΓ
  refine jk_iload_n K dX3_isIn_0 rfl 0 rfl ?_
  refine jk_iload_n K dX3_isIn_1 rfl 1 rfl ?_
  refine jk_icmp_lt (tgt := 14) K dX3_isIn_2 rfl (fun c_2 => ?_) (fun c_2 => ?_)
  · refine jk_iconst (x := 0) K dX3_isIn_14 rfl ?_
    exact jk_iret K hz dX3_isIn_15 () (by unfold hm_in; rw [if_pos c_2]) trivial rfl rfl (Nat.le_of_ble_eq_true rfl) (Nat.le_of_ble_eq_true rfl)
  · refine jk_iload_n K dX3_isIn_5 rfl 0 rfl ?_
    refine jk_iload_n K dX3_isIn_6 rfl 2 rfl ?_
    refine jk_icmp_gt (tgt := 14) K dX3_isIn_7 rfl (fun c_7 => ?_) (fun c_7 => ?_)
    · refine jk_iconst (x := 0) K dX3_isIn_14 rfl ?_
      exact jk_iret K hz dX3_isIn_15 () (by unfold hm_in; rw [if_neg c_2, if_pos c_7]) trivial rfl rfl (Nat.le_of_ble_eq_true rfl) (Nat.le_of_ble_eq_true rfl)
    · refine jk_iconst (x := 1) K dX3_isIn_10 rfl ?_
      refine jk_goto (tgt := 15) K dX3_isIn_11 rfl ?_
      exact jk_iret K hz dX3_isIn_15 () (by unfold hm_in; rw [if_neg c_2, if_neg c_7]) trivial rfl rfl (Nat.le_of_ble_eq_true rfl) (Nat.le_of_ble_eq_true rfl)
set_option maxHeartbeats 4000000 in
set_option maxRecDepth 100000 in
theorem hb_X3_isHill (l : Launch) (hl : l.stackTraces = false) (E : jk_T) (X Y : va_W) (m : Nat → Nat) (th : Int32) (S : Nat → Int32) (N a : Nat → Nat → Int32) (n : Nat) (hn : n ≤ 10) (x : Int32) : jk_fn l yX3_isHill wsX3_isHill ({ frames := 1, cells := 0, slots := 0, locals := 22 } : Room) [.ref (m 0), .int x] E (hm_M E X Y m th (nI n) S N a) (some (.int (hm_in x 0 (nI n - 1)))) (hm_M E X Y m th (nI n) S N a) := by
  refine jk_of (lv := [(0, .ref (m 0)), (1, .int x)]) (own := RX3) (nm := "isHill") hl (by decide +kernel) rfl (Nat.le_of_ble_eq_true rfl) rfl rfl rfl (fun Γ hΓ K hnm hz => ?_)
  subst hΓ
  have hin_RX3 : ∀ w ∈ u_ws RX3 TX3 11, w ∈ wsX3_isHill := by decide +kernel
  refine jk_iload_n K dX3_isHill_0 rfl 1 rfl ?_
  refine jk_iconst (x := 0) K dX3_isHill_1 rfl ?_
  refine jk_aload_n K dX3_isHill_2 rfl 0 rfl ?_
  refine jk_get (C := RX3) (T := TX3) (N := 11) (nm := "hills") (ds := "I") (v := .int (nI n)) K dX3_isHill_3 hin_RX3 (by decide +kernel) (X.length + 0) hm_x0 rfl 1 rfl (by decide) rfl ?_
  refine jk_iconst (x := 1) K dX3_isHill_6 rfl ?_
  refine jk_isub K dX3_isHill_7 ?_
  refine jk_cSi K (n' := 0) (k' := 0) [.int x, .int 0, .int ((nI n) - 1)] [] dX3_isHill_8 (hb_X3_isIn _ hl E (hm_M E X Y m th (nI n) S N a) x 0 ((nI n) - 1)) gX3_isHill_X3_isIn rfl kd_X3_isIn ⟨Nat.le_of_ble_eq_true rfl, Nat.le_of_ble_eq_true rfl⟩ (Nat.le_of_ble_eq_true rfl) ⟨rfl, rfl⟩ ⟨Nat.le_of_ble_eq_true rfl, Nat.le_of_ble_eq_true rfl⟩ rfl (fun _ _ => ?_)
  exact jk_iret K hz dX3_isHill_11 () rfl trivial rfl (by unfold hm_in; repeat (first | rfl | split)) (Nat.le_of_ble_eq_true rfl) (Nat.le_of_ble_eq_true rfl)
set_option maxHeartbeats 4000000 in
set_option maxRecDepth 100000 in
theorem hb_X3_hi (l : Launch) (hl : l.stackTraces = false) (E : jk_T) (X Y : va_W) (m : Nat → Nat) (th : Int32) (S : Nat → Int32) (N a : Nat → Nat → Int32) (n : Nat) (hn : n ≤ 10) (h w : Nat) (hh : h < 10) (hw : w < 7) : jk_fn l yX3_hi wsX3_hi ({ frames := 0, cells := 0, slots := 0, locals := 0 } : Room) [.ref (m 0), .int (nI h), .int (nI w)] E (hm_M E X Y m th (nI n) S N a) (some (.int (N h w))) (hm_M E X Y m th (nI n) S N a) := by
  refine jk_of (lv := [(0, .ref (m 0)), (1, .int (nI h)), (2, .int (nI w))]) (own := RX3) (nm := "hi") hl (by decide +kernel) rfl (Nat.le_of_ble_eq_true rfl) rfl rfl rfl (fun Γ hΓ K hnm hz => ?_)
  subst hΓ
  have hin_RX3 : ∀ w ∈ u_ws RX3 TX3 11, w ∈ wsX3_hi := by decide +kernel
  refine jk_aload_n K dX3_hi_0 rfl 0 rfl ?_
  refine jk_get (C := RX3) (T := TX3) (N := 11) (nm := "now") (ds := "[I") (v := .ref (m 6)) K dX3_hi_1 hin_RX3 (by decide +kernel) (X.length + 0) hm_x0 rfl 6 rfl (by decide) rfl ?_
  refine jk_iconst (x := (nI 5)) K dX3_hi_4 rfl ?_
  refine jk_bipush (x := (nI 7)) K dX3_hi_5 rfl ?_
  refine jk_iload_n K dX3_hi_7 rfl 1 rfl ?_
  refine jk_imul K dX3_hi_8 ?_
  refine jk_iadd K dX3_hi_9 ?_
  refine jk_iload_n K dX3_hi_10 rfl 2 rfl ?_
  refine jk_iadd K dX3_hi_11 ?_
  refine jk_st (st' := [.int (nI (5 + 7 * h + w)), .ref (m 6)]) (by rw [pk_mul, nI_add, nI_add]) ?_
  refine jk_iald (v := (N h w)) K dX3_hi_12 (X.length + 5) hm_a6 (vp_in_nI (by omega) (by decide)) (by rw [nI_clamp (by omega), hm_now_h _ _ hh hw]) ?_
  exact jk_iret K hz dX3_hi_13 () rfl trivial rfl rfl (Nat.le_of_ble_eq_true rfl) (Nat.le_of_ble_eq_true rfl)
set_option maxHeartbeats 4000000 in
set_option maxRecDepth 100000 in
theorem hb_X3_let (l : Launch) (hl : l.stackTraces = false) (E : jk_T) (X Y : va_W) (m : Nat → Nat) (th : Int32) (S : Nat → Int32) (N a : Nat → Nat → Int32) (n : Nat) (hn : n ≤ 10) (h w : Nat) (hh : h < 10) (hw : w < 7) (v : Int32) : jk_fn l yX3_let wsX3_let ({ frames := 0, cells := 0, slots := 0, locals := 0 } : Room) [.ref (m 0), .int (nI h), .int (nI w), .int v] E (hm_M E X Y m th (nI n) S N a) (none) (hm_M E X Y m th (nI n) S (va_up N h (hb_fu (N h) w v)) a) := by
  refine jk_of (lv := [(0, .ref (m 0)), (1, .int (nI h)), (2, .int (nI w)), (3, .int v)]) (own := RX3) (nm := "let") hl (by decide +kernel) rfl (Nat.le_of_ble_eq_true rfl) rfl rfl rfl (fun Γ hΓ K hnm hz => ?_)
  subst hΓ
  have hin_RX3 : ∀ w ∈ u_ws RX3 TX3 11, w ∈ wsX3_let := by decide +kernel
  refine jk_aload_n K dX3_let_0 rfl 0 rfl ?_
  refine jk_get (C := RX3) (T := TX3) (N := 11) (nm := "now") (ds := "[I") (v := .ref (m 6)) K dX3_let_1 hin_RX3 (by decide +kernel) (X.length + 0) hm_x0 rfl 6 rfl (by decide) rfl ?_
  refine jk_iconst (x := (nI 5)) K dX3_let_4 rfl ?_
  refine jk_bipush (x := (nI 7)) K dX3_let_5 rfl ?_
  refine jk_iload_n K dX3_let_7 rfl 1 rfl ?_
  refine jk_imul K dX3_let_8 ?_
  refine jk_iadd K dX3_let_9 ?_
  refine jk_iload_n K dX3_let_10 rfl 2 rfl ?_
  refine jk_iadd K dX3_let_11 ?_
  refine jk_st (st' := [.int (nI (5 + 7 * h + w)), .ref (m 6)]) (by rw [pk_mul, nI_add, nI_add]) ?_
  refine jk_iload_n K dX3_let_12 rfl 3 rfl ?_
  refine jk_iast (w' := (hm_M E X Y m th (nI n) S (va_up N h (hb_fu (N h) w v)) a)) K dX3_let_13 (X.length + 5) hm_a6 (vp_in_nI (by omega) (by decide)) (hm_s6 (by rw [nI_clamp (by omega), hm_now_let _ _ hh hw])) ?_
  exact jk_vret K hz dX3_let_14 () rfl trivial rfl (Nat.le_of_ble_eq_true rfl) (Nat.le_of_ble_eq_true rfl)
set_option maxHeartbeats 4000000 in
set_option maxRecDepth 100000 in
theorem hb_X3_keep (l : Launch) (hl : l.stackTraces = false) (E : jk_T) (X Y : va_W) (m : Nat → Nat) (th : Int32) (S : Nat → Int32) (N a : Nat → Nat → Int32) (n : Nat) (hn : n ≤ 10) : jk_fn l yX3_keep wsX3_keep ({ frames := 1, cells := 0, slots := 0, locals := 24 } : Room) [.ref (m 0)] E (hm_M E X Y m th (nI n) S N a) (none) (hm_M E X Y m th (nI n) S N (va_up a 7 (va_cpy (hm_now S N) (a 7) 0 0 75))) := by
  refine jk_of (lv := [(0, .ref (m 0))]) (own := RX3) (nm := "keep") hl (by decide +kernel) rfl (Nat.le_of_ble_eq_true rfl) rfl rfl rfl (fun Γ hΓ K hnm hz => ?_)
  subst hΓ
  have hin_RX3 : ∀ w ∈ u_ws RX3 TX3 11, w ∈ wsX3_keep := by decide +kernel
  refine jk_aload_n K dX3_keep_0 rfl 0 rfl ?_
  refine jk_get (C := RX3) (T := TX3) (N := 11) (nm := "now") (ds := "[I") (v := .ref (m 6)) K dX3_keep_1 hin_RX3 (by decide +kernel) (X.length + 0) hm_x0 rfl 6 rfl (by decide) rfl ?_
  refine jk_iconst (x := 0) K dX3_keep_4 rfl ?_
  refine jk_aload_n K dX3_keep_5 rfl 0 rfl ?_
  refine jk_get (C := RX3) (T := TX3) (N := 11) (nm := "kept") (ds := "[I") (v := .ref (m 7)) K dX3_keep_6 hin_RX3 (by decide +kernel) (X.length + 0) hm_x0 rfl 7 rfl (by decide) rfl ?_
  refine jk_iconst (x := 0) K dX3_keep_9 rfl ?_
  refine jk_bipush (x := 75) K dX3_keep_10 rfl ?_
  refine jk_copyi (w' := (hm_M E X Y m th (nI n) S N (va_up a 7 (va_cpy (hm_now S N) (a 7) 0 0 75)))) K dX3_keep_12 (by decide +kernel) (by decide +kernel) (by decide +kernel) (by decide +kernel) (X.length + 5) (X.length + 6) hm_a6 hm_a7 ⟨Nat.le_of_ble_eq_true rfl, Nat.le_of_ble_eq_true rfl⟩ hm_t7 ?_
  exact jk_vret K hz dX3_keep_15 () rfl trivial rfl (Nat.le_of_ble_eq_true rfl) (Nat.le_of_ble_eq_true rfl)
set_option maxHeartbeats 4000000 in
set_option maxRecDepth 100000 in
theorem hb_X3_bringBack (l : Launch) (hl : l.stackTraces = false) (E : jk_T) (X Y : va_W) (m : Nat → Nat) (th : Int32) (S : Nat → Int32) (N a : Nat → Nat → Int32) (n : Nat) (hn : n ≤ 10) (S' : Nat → Int32) (N' : Nat → Nat → Int32) (hk : ∀ k, k < 75 → a 7 k = hm_now S' N' k) : jk_fn l yX3_bringBack wsX3_bringBack ({ frames := 1, cells := 0, slots := 0, locals := 24 } : Room) [.ref (m 0)] E (hm_M E X Y m th (nI n) S N a) (none) (hm_M E X Y m th (nI n) S' N' a) := by
  refine jk_of (lv := [(0, .ref (m 0))]) (own := RX3) (nm := "bringBack") hl (by decide +kernel) rfl (Nat.le_of_ble_eq_true rfl) rfl rfl rfl (fun Γ hΓ K hnm hz => ?_)
  subst hΓ
  have hin_RX3 : ∀ w ∈ u_ws RX3 TX3 11, w ∈ wsX3_bringBack := by decide +kernel
  refine jk_aload_n K dX3_bringBack_0 rfl 0 rfl ?_
  refine jk_get (C := RX3) (T := TX3) (N := 11) (nm := "kept") (ds := "[I") (v := .ref (m 7)) K dX3_bringBack_1 hin_RX3 (by decide +kernel) (X.length + 0) hm_x0 rfl 7 rfl (by decide) rfl ?_
  refine jk_iconst (x := 0) K dX3_bringBack_4 rfl ?_
  refine jk_aload_n K dX3_bringBack_5 rfl 0 rfl ?_
  refine jk_get (C := RX3) (T := TX3) (N := 11) (nm := "now") (ds := "[I") (v := .ref (m 6)) K dX3_bringBack_6 hin_RX3 (by decide +kernel) (X.length + 0) hm_x0 rfl 6 rfl (by decide) rfl ?_
  refine jk_iconst (x := 0) K dX3_bringBack_9 rfl ?_
  refine jk_bipush (x := 75) K dX3_bringBack_10 rfl ?_
  refine jk_copyi (w' := (hm_M E X Y m th (nI n) S' N' a)) K dX3_bringBack_12 (by decide +kernel) (by decide +kernel) (by decide +kernel) (by decide +kernel) (X.length + 6) (X.length + 5) hm_a7 hm_a6 ⟨Nat.le_of_ble_eq_true rfl, Nat.le_of_ble_eq_true rfl⟩ (hm_s6 (hm_cpy _ _ _ _ _ hk)) ?_
  exact jk_vret K hz dX3_bringBack_15 () rfl trivial rfl (Nat.le_of_ble_eq_true rfl) (Nat.le_of_ble_eq_true rfl)
set_option maxHeartbeats 4000000 in
set_option maxRecDepth 100000 in
theorem hb_X3_sees (l : Launch) (hl : l.stackTraces = false) (E : jk_T) (X Y : va_W) (m : Nat → Nat) (th : Int32) (S : Nat → Int32) (N a : Nat → Nat → Int32) (n : Nat) (hn : n ≤ 10) (h t : Nat) (hh : h < 10) (ht : t < 10) : jk_fn l yX3_sees wsX3_sees ({ frames := 0, cells := 0, slots := 0, locals := 0 } : Room) [.ref (m 0), .int (nI h), .int (nI t)] E (hm_M E X Y m th (nI n) S N a) (some (.int (hb_clr (S 4) (a 5 (h * 10 + t))))) (hm_M E X Y m th (nI n) S N a) := by
  refine jk_of (lv := [(0, .ref (m 0)), (1, .int (nI h)), (2, .int (nI t))]) (own := RX3) (nm := "sees") hl (by decide +kernel) rfl (Nat.le_of_ble_eq_true rfl) rfl rfl rfl (fun Γ hΓ K hnm hz => ?_)
  subst hΓ
  have hin_RX3 : ∀ w ∈ u_ws RX3 TX3 11, w ∈ wsX3_sees := by decide +kernel
  refine jk_aload_n K dX3_sees_0 rfl 0 rfl ?_
  refine jk_get (C := RX3) (T := TX3) (N := 11) (nm := "miles") (ds := "[I") (v := .ref (m 5)) K dX3_sees_1 hin_RX3 (by decide +kernel) (X.length + 0) hm_x0 rfl 5 rfl (by decide) rfl ?_
  refine jk_bipush (x := (nI 10)) K dX3_sees_4 rfl ?_
  refine jk_iload_n K dX3_sees_6 rfl 1 rfl ?_
  refine jk_imul K dX3_sees_7 ?_
  refine jk_iload_n K dX3_sees_8 rfl 2 rfl ?_
  refine jk_iadd K dX3_sees_9 ?_
  refine jk_st (st' := [.int (nI (h * 10 + t)), .ref (m 5)]) (by rw [pk_mul, nI_add, Nat.mul_comm 10 h]) ?_
  refine jk_iald (v := (a 5 (h * 10 + t))) K dX3_sees_10 (X.length + 4) hm_a5 (vp_in_nI (by omega) (by decide)) (by rw [nI_clamp (by omega)]) ?_
  refine jk_istore_n (lv' := [(3, .int (a 5 (h * 10 + t))), (0, .ref (m 0)), (1, .int (nI h)), (2, .int (nI t))]) K dX3_sees_11 rfl (by decide) rfl ?_
  refine jk_iload_n K dX3_sees_12 rfl 0 rfl ?_
  refine jk_if_le (tgt := 35) K dX3_sees_13 rfl (fun c_13 => ?_) (fun c_13 => ?_)
  · refine jk_iconst (x := 0) K dX3_sees_35 rfl ?_
    exact jk_iret K hz dX3_sees_36 () (by unfold hb_clr; rw [if_neg (fun q => absurd q.1 (Int32.not_lt.mpr c_13))]) trivial rfl rfl (Nat.le_of_ble_eq_true rfl) (Nat.le_of_ble_eq_true rfl)
  · refine jk_iload_n K dX3_sees_16 rfl 0 rfl ?_
    refine jk_bipush (x := 20) K dX3_sees_17 rfl ?_
    refine jk_iconst (x := 2) K dX3_sees_19 rfl ?_
    refine jk_aload_n K dX3_sees_20 rfl 1 rfl ?_
    refine jk_get (C := RX3) (T := TX3) (N := 11) (nm := "now") (ds := "[I") (v := .ref (m 6)) K dX3_sees_21 hin_RX3 (by decide +kernel) (X.length + 0) hm_x0 rfl 6 rfl (by decide) rfl ?_
    refine jk_iconst (x := 4) K dX3_sees_24 rfl ?_
    refine jk_iald (v := (S 4)) K dX3_sees_25 (X.length + 5) hm_a6 (vp_in_nI (n := 4) (by decide) (by decide)) (hm_now_s _ _ (k := 4) (by decide)) ?_
    refine jk_imul K dX3_sees_26 ?_
    refine jk_isub K dX3_sees_27 ?_
    refine jk_icmp_gt (tgt := 35) K dX3_sees_28 rfl (fun c_28 => ?_) (fun c_28 => ?_)
    · refine jk_iconst (x := 0) K dX3_sees_35 rfl ?_
      exact jk_iret K hz dX3_sees_36 () (by unfold hb_clr; rw [if_neg (fun q => absurd q.2 (Int32.not_le.mpr c_28))]) trivial rfl rfl (Nat.le_of_ble_eq_true rfl) (Nat.le_of_ble_eq_true rfl)
    · refine jk_iconst (x := 1) K dX3_sees_31 rfl ?_
      refine jk_goto (tgt := 36) K dX3_sees_32 rfl ?_
      exact jk_iret K hz dX3_sees_36 () (by unfold hb_clr; rw [if_pos ⟨Int32.not_le.mp c_13, Int32.not_lt.mp c_28⟩]) trivial rfl rfl (Nat.le_of_ble_eq_true rfl) (Nat.le_of_ble_eq_true rfl)
