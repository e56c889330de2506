theorem kd_X0_goDark : yX0_goDark.cls = RX0 ∧ yX0_goDark.cls ≠ "java/lang/invoke/MethodHandle" ∧ yX0_goDark.cls ≠ "java/lang/invoke/VarHandle" ∧ (parseMethodDescriptor yX0_goDark.desc).map (fun d => d.parameters.length) = some 0 := by decide +kernel
set_option maxHeartbeats 4000000 in
set_option maxRecDepth 100000 in
theorem hb_X0_isReady (l : Launch) (hl : l.stackTraces = false) (E : jk_T) (ws : va_W) (kk h : Nat) (f : Nat → Int32) (he : ws[kk]? = some (h, .inr (0, hb_hill f))) : jk_fn l yX0_isReady wsX0_isReady ({ frames := 0, cells := 0, slots := 0, locals := 0 } : Room) [.ref h] E ws (some (.int (hb_rdy f))) ws := by
  refine jk_of (lv := [(0, .ref h)]) (own := RX0) (nm := "isReady") hl (by decide +kernel) rfl (Nat.le_of_ble_eq_true rfl) rfl rfl rfl (fun Γ hΓ K hnm hz => ?_)
  subst hΓ
  have hin_RX0 : ∀ w ∈ u_ws RX0 TX0 11, w ∈ wsX0_isReady := by decide +kernel
  refine jk_aload_n K dX0_isReady_0 rfl 0 rfl ?_
  refine jk_get (C := RX0) (T := TX0) (N := 11) (nm := "fire") (ds := "I") (v := .int (f 5)) K dX0_isReady_1 hin_RX0 (by decide +kernel) kk he rfl 5 rfl (by decide) rfl ?_
  refine jk_if_ne (tgt := 18) K dX0_isReady_4 rfl (fun c_4 => ?_) (fun c_4 => ?_)
  · refine jk_iconst (x := 0) K dX0_isReady_18 rfl ?_
    exact jk_iret K hz dX0_isReady_19 () (by simp_all [hb_rdy, Int32.not_le, Int32.not_lt]) trivial rfl rfl (Nat.le_of_ble_eq_true rfl) (Nat.le_of_ble_eq_true rfl)
  · refine jk_aload_n K dX0_isReady_7 rfl 0 rfl ?_
    refine jk_get (C := RX0) (T := TX0) (N := 11) (nm := "wood") (ds := "I") (v := .int (f 0)) K dX0_isReady_8 hin_RX0 (by decide +kernel) kk he rfl 0 rfl (by decide) rfl ?_
    refine jk_if_le (tgt := 18) K dX0_isReady_11 rfl (fun c_11 => ?_) (fun c_11 => ?_)
    · refine jk_iconst (x := 0) K dX0_isReady_18 rfl ?_
      exact jk_iret K hz dX0_isReady_19 () (by simp_all [hb_rdy, Int32.not_le, Int32.not_lt]) trivial rfl rfl (Nat.le_of_ble_eq_true rfl) (Nat.le_of_ble_eq_true rfl)
    · refine jk_iconst (x := 1) K dX0_isReady_14 rfl ?_
      refine jk_goto (tgt := 19) K dX0_isReady_15 rfl ?_
      exact jk_iret K hz dX0_isReady_19 () (by simp_all [hb_rdy, Int32.not_le, Int32.not_lt]) trivial rfl rfl (Nat.le_of_ble_eq_true rfl) (Nat.le_of_ble_eq_true rfl)
set_option maxHeartbeats 4000000 in
set_option maxRecDepth 100000 in
theorem hb_X0_kindle (l : Launch) (hl : l.stackTraces = false) (E : jk_T) (ws : va_W) (kk h : Nat) (f : Nat → Int32) (he : ws[kk]? = some (h, .inr (0, hb_hill f))) (src : Int32) : jk_fn l yX0_kindle wsX0_kindle ({ frames := 0, cells := 0, slots := 0, locals := 0 } : Room) [.ref h, .int src] E ws (none) (ws.set kk (h, .inr (0, hb_hill (hb_kindleF f src)))) := by
  refine jk_of (lv := [(0, .ref h), (1, .int src)]) (own := RX0) (nm := "kindle") hl (by decide +kernel) rfl (Nat.le_of_ble_eq_true rfl) rfl rfl rfl (fun Γ hΓ K hnm hz => ?_)
  subst hΓ
  have hin_RX0 : ∀ w ∈ u_ws RX0 TX0 11, w ∈ wsX0_kindle := by decide +kernel
  refine jk_aload_n K dX0_kindle_0 rfl 0 rfl ?_
  refine jk_dup K dX0_kindle_1 rfl ?_
  refine jk_get (C := RX0) (T := TX0) (N := 11) (nm := "wood") (ds := "I") (v := .int (f 0)) K dX0_kindle_2 hin_RX0 (by decide +kernel) kk he rfl 0 rfl (by decide) rfl ?_
  refine jk_iconst (x := 1) K dX0_kindle_5 rfl ?_
  refine jk_isub K dX0_kindle_6 ?_
  refine jk_put (C := RX0) (T := TX0) (N := 11) (nm := "wood") (ds := "I") (w' := (ws.set kk (h, .inr (0, hb_hill (hb_fu f 0 ((f 0) - 1)))))) K dX0_kindle_7 hin_RX0 tyX0 tyX0_ok nmX0 (by decide +kernel) kk he rfl 0 rfl (by decide) rfl rfl rfl rfl (Nat.le_of_ble_eq_true rfl) (hb_set1 rfl) ?_
  refine jk_aload_n K dX0_kindle_10 rfl 0 rfl ?_
  refine jk_iconst (x := 0) K dX0_kindle_11 rfl ?_
  refine jk_put (C := RX0) (T := TX0) (N := 11) (nm := "looking") (ds := "I") (w' := (ws.set kk (h, .inr (0, hb_hill (hb_fu (hb_fu f 0 ((f 0) - 1)) 8 0))))) K dX0_kindle_12 hin_RX0 tyX0 tyX0_ok nmX0 (by decide +kernel) kk (hb_set_at he) rfl 8 rfl (by decide) rfl rfl rfl rfl (Nat.le_of_ble_eq_true rfl) (hb_set2 rfl) ?_
  refine jk_aload_n K dX0_kindle_15 rfl 0 rfl ?_
  refine jk_iconst (x := 1) K dX0_kindle_16 rfl ?_
  refine jk_put (C := RX0) (T := TX0) (N := 11) (nm := "fire") (ds := "I") (w' := (ws.set kk (h, .inr (0, hb_hill (hb_fu (hb_fu (hb_fu f 0 ((f 0) - 1)) 8 0) 5 1))))) K dX0_kindle_17 hin_RX0 tyX0 tyX0_ok nmX0 (by decide +kernel) kk (hb_set_at he) rfl 5 rfl (by decide) rfl rfl rfl rfl (Nat.le_of_ble_eq_true rfl) (hb_set2 rfl) ?_
  refine jk_aload_n K dX0_kindle_20 rfl 0 rfl ?_
  refine jk_aload_n K dX0_kindle_21 rfl 0 rfl ?_
  refine jk_get (C := RX0) (T := TX0) (N := 11) (nm := "damp") (ds := "I") (v := .int (f 1)) K dX0_kindle_22 hin_RX0 (by decide +kernel) kk (hb_set_at he) rfl 1 rfl (by decide) rfl ?_
  refine jk_iconst (x := 1) K dX0_kindle_25 rfl ?_
  refine jk_iadd K dX0_kindle_26 ?_
  refine jk_put (C := RX0) (T := TX0) (N := 11) (nm := "left") (ds := "I") (w' := (ws.set kk (h, .inr (0, hb_hill (hb_fu (hb_fu (hb_fu (hb_fu f 0 ((f 0) - 1)) 8 0) 5 1) 7 ((f 1) + 1)))))) K dX0_kindle_27 hin_RX0 tyX0 tyX0_ok nmX0 (by decide +kernel) kk (hb_set_at he) rfl 7 rfl (by decide) rfl rfl rfl rfl (Nat.le_of_ble_eq_true rfl) (hb_set2 rfl) ?_
  refine jk_aload_n K dX0_kindle_30 rfl 0 rfl ?_
  refine jk_iload_n K dX0_kindle_31 rfl 1 rfl ?_
  refine jk_put (C := RX0) (T := TX0) (N := 11) (nm := "source") (ds := "I") (w' := (ws.set kk (h, .inr (0, hb_hill (hb_fu (hb_fu (hb_fu (hb_fu (hb_fu f 0 ((f 0) - 1)) 8 0) 5 1) 7 ((f 1) + 1)) 9 src))))) K dX0_kindle_32 hin_RX0 tyX0 tyX0_ok nmX0 (by decide +kernel) kk (hb_set_at he) rfl 9 rfl (by decide) rfl rfl rfl rfl (Nat.le_of_ble_eq_true rfl) (hb_set2 rfl) ?_
  exact jk_vret K hz dX0_kindle_35 () rfl trivial rfl (Nat.le_of_ble_eq_true rfl) (Nat.le_of_ble_eq_true rfl)
set_option maxHeartbeats 4000000 in
set_option maxRecDepth 100000 in
theorem hb_X0_goDark (l : Launch) (hl : l.stackTraces = false) (E : jk_T) (ws : va_W) (kk h : Nat) (f : Nat → Int32) (he : ws[kk]? = some (h, .inr (0, hb_hill f))) : jk_fn l yX0_goDark wsX0_goDark ({ frames := 0, cells := 0, slots := 0, locals := 0 } : Room) [.ref h] E ws (none) (ws.set kk (h, .inr (0, hb_hill (hb_darkF f)))) := by
  refine jk_of (lv := [(0, .ref h)]) (own := RX0) (nm := "goDark") hl (by decide +kernel) rfl (Nat.le_of_ble_eq_true rfl) rfl rfl rfl (fun Γ hΓ K hnm hz => ?_)
  subst hΓ
  have hin_RX0 : ∀ w ∈ u_ws RX0 TX0 11, w ∈ wsX0_goDark := by decide +kernel
  refine jk_aload_n K dX0_goDark_0 rfl 0 rfl ?_
  refine jk_iconst (x := 0) K dX0_goDark_1 rfl ?_
  refine jk_put (C := RX0) (T := TX0) (N := 11) (nm := "fire") (ds := "I") (w' := (ws.set kk (h, .inr (0, hb_hill (hb_fu f 5 0))))) K dX0_goDark_2 hin_RX0 tyX0 tyX0_ok nmX0 (by decide +kernel) kk he rfl 5 rfl (by decide) rfl rfl rfl rfl (Nat.le_of_ble_eq_true rfl) (hb_set1 rfl) ?_
  refine jk_aload_n K dX0_goDark_5 rfl 0 rfl ?_
  refine jk_iconst (x := 0) K dX0_goDark_6 rfl ?_
  refine jk_put (C := RX0) (T := TX0) (N := 11) (nm := "left") (ds := "I") (w' := (ws.set kk (h, .inr (0, hb_hill (hb_fu (hb_fu f 5 0) 7 0))))) K dX0_goDark_7 hin_RX0 tyX0 tyX0_ok nmX0 (by decide +kernel) kk (hb_set_at he) rfl 7 rfl (by decide) rfl rfl rfl rfl (Nat.le_of_ble_eq_true rfl) (hb_set2 rfl) ?_
  refine jk_aload_n K dX0_goDark_10 rfl 0 rfl ?_
  refine jk_bipush (x := (-2)) K dX0_goDark_11 rfl ?_
  refine jk_put (C := RX0) (T := TX0) (N := 11) (nm := "source") (ds := "I") (w' := (ws.set kk (h, .inr (0, hb_hill (hb_fu (hb_fu (hb_fu f 5 0) 7 0) 9 (-2)))))) K dX0_goDark_13 hin_RX0 tyX0 tyX0_ok nmX0 (by decide +kernel) kk (hb_set_at he) rfl 9 rfl (by decide) rfl rfl rfl rfl (Nat.le_of_ble_eq_true rfl) (hb_set2 rfl) ?_
  exact jk_vret K hz dX0_goDark_16 () rfl trivial rfl (Nat.le_of_ble_eq_true rfl) (Nat.le_of_ble_eq_true rfl)
set_option maxHeartbeats 4000000 in
set_option maxRecDepth 100000 in
theorem hb_X0_burnOn (l : Launch) (hl : l.stackTraces = false) (E : jk_T) (ws : va_W) (kk h : Nat) (f : Nat → Int32) (he : ws[kk]? = some (h, .inr (0, hb_hill f))) : jk_fn l yX0_burnOn wsX0_burnOn ({ frames := 1, cells := 0, slots := 0, locals := 20 } : Room) [.ref h] E ws (none) (ws.set kk (h, .inr (0, hb_hill (hb_burnF f)))) := by
  refine jk_of (lv := [(0, .ref h)]) (own := RX0) (nm := "burnOn") hl (by decide +kernel) rfl (Nat.le_of_ble_eq_true rfl) rfl rfl rfl (fun Γ hΓ K hnm hz => ?_)
  subst hΓ
  have hin_RX0 : ∀ w ∈ u_ws RX0 TX0 11, w ∈ wsX0_burnOn := by decide +kernel
  refine jk_aload_n K dX0_burnOn_0 rfl 0 rfl ?_
  refine jk_get (C := RX0) (T := TX0) (N := 11) (nm := "wood") (ds := "I") (v := .int (f 0)) K dX0_burnOn_1 hin_RX0 (by decide +kernel) kk he rfl 0 rfl (by decide) rfl ?_
  refine jk_if_le (tgt := 20) K dX0_burnOn_4 rfl (fun c_4 => ?_) (fun c_4 => ?_)
  · refine jk_aload_n K dX0_burnOn_20 rfl 0 rfl ?_
    refine jk_cVv K (n' := 0) (k' := 0) [] [] dX0_burnOn_21 (hb_X0_goDark _ hl E ws kk h f he) gX0_burnOn_X0_goDark rfl kd_X0_goDark ⟨Nat.le_of_ble_eq_true rfl, Nat.le_of_ble_eq_true rfl⟩ kk he rfl (Nat.le_of_ble_eq_true rfl) ⟨rfl, rfl⟩ ⟨Nat.le_of_ble_eq_true rfl, Nat.le_of_ble_eq_true rfl⟩ rfl (fun _ _ => ?_)
    exact jk_vret K hz dX0_burnOn_24 () rfl trivial (by unfold hb_burnF; first | rw [if_pos (Int32.not_le.mp c_4)] | rw [if_neg (Int32.not_lt.mpr c_4)]) (Nat.le_of_ble_eq_true rfl) (Nat.le_of_ble_eq_true rfl)
  · refine jk_aload_n K dX0_burnOn_7 rfl 0 rfl ?_
    refine jk_dup K dX0_burnOn_8 rfl ?_
    refine jk_get (C := RX0) (T := TX0) (N := 11) (nm := "wood") (ds := "I") (v := .int (f 0)) K dX0_burnOn_9 hin_RX0 (by decide +kernel) kk he rfl 0 rfl (by decide) rfl ?_
    refine jk_iconst (x := 1) K dX0_burnOn_12 rfl ?_
    refine jk_isub K dX0_burnOn_13 ?_
    refine jk_put (C := RX0) (T := TX0) (N := 11) (nm := "wood") (ds := "I") (w' := (ws.set kk (h, .inr (0, hb_hill (hb_fu f 0 ((f 0) - 1)))))) K dX0_burnOn_14 hin_RX0 tyX0 tyX0_ok nmX0 (by decide +kernel) kk he rfl 0 rfl (by decide) rfl rfl rfl rfl (Nat.le_of_ble_eq_true rfl) (hb_set1 rfl) ?_
    refine jk_goto (tgt := 24) K dX0_burnOn_17 rfl ?_
    exact jk_vret K hz dX0_burnOn_24 () rfl trivial (by unfold hb_burnF; first | rw [if_pos (Int32.not_le.mp c_4)] | rw [if_neg (Int32.not_lt.mpr c_4)]) (Nat.le_of_ble_eq_true rfl) (Nat.le_of_ble_eq_true rfl)
