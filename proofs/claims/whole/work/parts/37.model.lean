theorem kd_X3_arePair : yX3_arePair.cls = RX3 ∧ yX3_arePair.cls ≠ "java/lang/invoke/MethodHandle" ∧ yX3_arePair.cls ≠ "java/lang/invoke/VarHandle" ∧ (parseMethodDescriptor yX3_arePair.desc).map (fun d => d.parameters.length) = some 2 := by decide +kernel
theorem kd_X3_bringBack : yX3_bringBack.cls = RX3 ∧ yX3_bringBack.cls ≠ "java/lang/invoke/MethodHandle" ∧ yX3_bringBack.cls ≠ "java/lang/invoke/VarHandle" ∧ (parseMethodDescriptor yX3_bringBack.desc).map (fun d => d.parameters.length) = some 0 := by decide +kernel
theorem kd_X3_burning : yX3_burning.cls = RX3 ∧ yX3_burning.cls ≠ "java/lang/invoke/MethodHandle" ∧ yX3_burning.cls ≠ "java/lang/invoke/VarHandle" ∧ (parseMethodDescriptor yX3_burning.desc).map (fun d => d.parameters.length) = some 0 := by decide +kernel
theorem kd_X3_keep : yX3_keep.cls = RX3 ∧ yX3_keep.cls ≠ "java/lang/invoke/MethodHandle" ∧ yX3_keep.cls ≠ "java/lang/invoke/VarHandle" ∧ (parseMethodDescriptor yX3_keep.desc).map (fun d => d.parameters.length) = some 0 := by decide +kernel
theorem kd_X3_minuteOn : yX3_minuteOn.cls = RX3 ∧ yX3_minuteOn.cls ≠ "java/lang/invoke/MethodHandle" ∧ yX3_minuteOn.cls ≠ "java/lang/invoke/VarHandle" ∧ (parseMethodDescriptor yX3_minuteOn.desc).map (fun d => d.parameters.length) = some 0 := by decide +kernel
theorem kd_X3_told : yX3_told.cls = RX3 ∧ yX3_told.cls ≠ "java/lang/invoke/MethodHandle" ∧ yX3_told.cls ≠ "java/lang/invoke/VarHandle" ∧ (parseMethodDescriptor yX3_told.desc).map (fun d => d.parameters.length) = some 1 := by decide +kernel
set_option maxHeartbeats 4000000 in
set_option maxRecDepth 100000 in
theorem hb_X3_arePair (l : Launch) (hl : l.stackTraces = false) (E : jk_T) (X Y : va_W) (m : Nat → Nat) (th : Int32) (S : Nat → Int32) (N a : Nat → Nat → Int32) (n : Nat) (hn : n ≤ 10) (x y : Int32) : jk_Ct l yX3_arePair wsX3_arePair ({ frames := 2, cells := 0, slots := 0, locals := 43 } : Room) [.ref (m 0), .int x, .int y] E (hm_M E X Y m th (nI n) S N a) (fun u : Int32 × Int32 => some (.int u.2)) (fun u => (hm_M E X Y m u.1 (nI n) S N a)) (fun u => (∃ i k, i < n ∧ k < n ∧ x = nI i ∧ y = nI k ∧ u = (0, 1)) ∨ (¬ (hb_ok n x ∧ hb_ok n y) ∧ u = (1, 0))) := by
  refine jk_of (lv := [(0, .ref (m 0)), (1, .int x), (2, .int y)]) (own := RX3) (nm := "arePair") hl (by decide +kernel) rfl (Nat.le_of_ble_eq_true rfl) rfl rfl rfl (fun Γ hΓ K hnm hz => ?_)
  subst hΓ
  have hin_RX3 : ∀ w ∈ u_ws RX3 TX3 11, w ∈ wsX3_arePair := by decide +kernel
  refine jk_aload_n K dX3_arePair_0 rfl 0 rfl ?_
  refine jk_aload_n K dX3_arePair_1 rfl 0 rfl ?_
  refine jk_iload_n K dX3_arePair_2 rfl 1 rfl ?_
  refine jk_cVi K (n' := 0) (k' := 0) [.int x] [.ref (m 0)] dX3_arePair_3 (hb_X3_isHill _ hl E X Y m th S N a n hn x) gX3_arePair_X3_isHill rfl kd_X3_isHill ⟨Nat.le_of_ble_eq_true rfl, Nat.le_of_ble_eq_true rfl⟩ (X.length + 0) hm_x0 rfl (Nat.le_of_ble_eq_true rfl) ⟨rfl, rfl⟩ ⟨Nat.le_of_ble_eq_true rfl, Nat.le_of_ble_eq_true rfl⟩ rfl (fun _ _ => ?_)
  refine jk_if_eq (tgt := 21) K dX3_arePair_6 rfl (fun c_6 => ?_) (fun c_6 => ?_)
  · have hno : ¬ (hb_ok n x ∧ hb_ok n y) := fun q => hm_noH hn c_6 q.1
    refine jk_iconst (x := 1) K dX3_arePair_21 rfl ?_
    refine jk_put (C := RX3) (T := TX3) (N := 11) (nm := "thrown") (ds := "I") (w' := (hm_M E X Y m 1 (nI n) S N a)) K dX3_arePair_22 hin_RX3 tyX3 tyX3_ok nmX3 (by decide +kernel) (X.length + 0) hm_x0 rfl 0 rfl (by decide) rfl rfl rfl rfl (Nat.le_of_ble_eq_true rfl) (hm_s0 rfl) ?_
    refine jk_aload_n K dX3_arePair_25 rfl 0 rfl ?_
    refine jk_get (C := RX3) (T := TX3) (N := 11) (nm := "thrown") (ds := "I") (v := .int 1) K dX3_arePair_26 hin_RX3 (by decide +kernel) (X.length + 0) hm_x0 rfl 0 rfl (by decide) rfl ?_
    refine jk_if_ne (tgt := 36) K dX3_arePair_29 rfl (fun c_29 => ?_) (fun c_29 => ?_)
    · refine jk_iconst (x := 0) K dX3_arePair_36 rfl ?_
      exact jk_iret K hz dX3_arePair_37 (1, 0) rfl (Or.inr ⟨hno, rfl⟩) rfl rfl (Nat.le_of_ble_eq_true rfl) (Nat.le_of_ble_eq_true rfl)
    · exact absurd c_29 (by decide)
  · obtain ⟨i, hi, rfl⟩ := hm_isH hn c_6
    refine jk_aload_n K dX3_arePair_9 rfl 0 rfl ?_
    refine jk_iload_n K dX3_arePair_10 rfl 2 rfl ?_
    refine jk_cVi K (n' := 0) (k' := 0) [.int y] [.ref (m 0)] dX3_arePair_11 (hb_X3_isHill _ hl E X Y m th S N a n hn y) gX3_arePair_X3_isHill rfl kd_X3_isHill ⟨Nat.le_of_ble_eq_true rfl, Nat.le_of_ble_eq_true rfl⟩ (X.length + 0) hm_x0 rfl (Nat.le_of_ble_eq_true rfl) ⟨rfl, rfl⟩ ⟨Nat.le_of_ble_eq_true rfl, Nat.le_of_ble_eq_true rfl⟩ rfl (fun _ _ => ?_)
    refine jk_if_eq (tgt := 21) K dX3_arePair_14 rfl (fun c_14 => ?_) (fun c_14 => ?_)
    · have hno : ¬ (hb_ok n (nI i) ∧ hb_ok n y) := fun q => hm_noH hn c_14 q.2
      refine jk_iconst (x := 1) K dX3_arePair_21 rfl ?_
      refine jk_put (C := RX3) (T := TX3) (N := 11) (nm := "thrown") (ds := "I") (w' := (hm_M E X Y m 1 (nI n) S N a)) K dX3_arePair_22 hin_RX3 tyX3 tyX3_ok nmX3 (by decide +kernel) (X.length + 0) hm_x0 rfl 0 rfl (by decide) rfl rfl rfl rfl (Nat.le_of_ble_eq_true rfl) (hm_s0 rfl) ?_
      refine jk_aload_n K dX3_arePair_25 rfl 0 rfl ?_
      refine jk_get (C := RX3) (T := TX3) (N := 11) (nm := "thrown") (ds := "I") (v := .int 1) K dX3_arePair_26 hin_RX3 (by decide +kernel) (X.length + 0) hm_x0 rfl 0 rfl (by decide) rfl ?_
      refine jk_if_ne (tgt := 36) K dX3_arePair_29 rfl (fun c_29 => ?_) (fun c_29 => ?_)
      · refine jk_iconst (x := 0) K dX3_arePair_36 rfl ?_
        exact jk_iret K hz dX3_arePair_37 (1, 0) rfl (Or.inr ⟨hno, rfl⟩) rfl rfl (Nat.le_of_ble_eq_true rfl) (Nat.le_of_ble_eq_true rfl)
      · exact absurd c_29 (by decide)
    · obtain ⟨k, hk, rfl⟩ := hm_isH hn c_14
      refine jk_iconst (x := 0) K dX3_arePair_17 rfl ?_
      refine jk_goto (tgt := 22) K dX3_arePair_18 rfl ?_
      refine jk_put (C := RX3) (T := TX3) (N := 11) (nm := "thrown") (ds := "I") (w' := (hm_M E X Y m 0 (nI n) S N a)) K dX3_arePair_22 hin_RX3 tyX3 tyX3_ok nmX3 (by decide +kernel) (X.length + 0) hm_x0 rfl 0 rfl (by decide) rfl rfl rfl rfl (Nat.le_of_ble_eq_true rfl) (hm_s0 rfl) ?_
      refine jk_aload_n K dX3_arePair_25 rfl 0 rfl ?_
      refine jk_get (C := RX3) (T := TX3) (N := 11) (nm := "thrown") (ds := "I") (v := .int 0) K dX3_arePair_26 hin_RX3 (by decide +kernel) (X.length + 0) hm_x0 rfl 0 rfl (by decide) rfl ?_
      refine jk_if_ne (tgt := 36) K dX3_arePair_29 rfl (fun c_29 => ?_) (fun c_29 => ?_)
      · exact absurd (by decide) c_29
      · refine jk_iconst (x := 1) K dX3_arePair_32 rfl ?_
        refine jk_goto (tgt := 37) K dX3_arePair_33 rfl ?_
        exact jk_iret K hz dX3_arePair_37 (0, 1) rfl (Or.inl ⟨i, k, hi, hk, rfl, rfl, rfl⟩) rfl rfl (Nat.le_of_ble_eq_true rfl) (Nat.le_of_ble_eq_true rfl)
set_option maxHeartbeats 4000000 in
set_option maxRecDepth 100000 in
theorem hb_X3_milesBetween (l : Launch) (hl : l.stackTraces = false) (E : jk_T) (X Y : va_W) (m : Nat → Nat) (th : Int32) (S : Nat → Int32) (N a : Nat → Nat → Int32) (n : Nat) (hn : n ≤ 10) (x y : Int32) : jk_Ct l yX3_milesBetween wsX3_milesBetween ({ frames := 3, cells := 0, slots := 0, locals := 65 } : Room) [.ref (m 0), .int x, .int y] E (hm_M E X Y m th (nI n) S N a) (fun u : Int32 × Int32 => some (.int u.2)) (fun u => (hm_M E X Y m u.1 (nI n) S N a)) (fun u => (∃ i k, i < n ∧ k < n ∧ x = nI i ∧ y = nI k ∧ u = (0, a 5 (i * 10 + k))) ∨ (¬ (hb_ok n x ∧ hb_ok n y) ∧ u = (1, 0))) := by
  refine jk_of (lv := [(0, .ref (m 0)), (1, .int x), (2, .int y)]) (own := RX3) (nm := "milesBetween") hl (by decide +kernel) rfl (Nat.le_of_ble_eq_true rfl) rfl rfl rfl (fun Γ hΓ K hnm hz => ?_)
  subst hΓ
  have hin_RX3 : ∀ w ∈ u_ws RX3 TX3 11, w ∈ wsX3_milesBetween := by decide +kernel
  refine jk_aload_n K dX3_milesBetween_0 rfl 0 rfl ?_
  refine jk_iload_n K dX3_milesBetween_1 rfl 1 rfl ?_
  refine jk_iload_n K dX3_milesBetween_2 rfl 2 rfl ?_
  refine jk_cVi K (n' := 0) (k' := 0) [.int x, .int y] [] dX3_milesBetween_3 (hb_X3_arePair _ hl E X Y m th S N a n hn x y) gX3_milesBetween_X3_arePair rfl kd_X3_arePair ⟨Nat.le_of_ble_eq_true rfl, Nat.le_of_ble_eq_true rfl⟩ (X.length + 0) hm_x0 rfl (Nat.le_of_ble_eq_true rfl) ⟨rfl, rfl⟩ ⟨Nat.le_of_ble_eq_true rfl, Nat.le_of_ble_eq_true rfl⟩ rfl (fun u1 hu1 => ?_)
  rcases hu1 with ⟨i, k, hi, hk, rfl, rfl, rfl⟩ | ⟨hno, rfl⟩
  · refine jk_ws (ws' := (hm_M E X Y m 0 (nI n) S N a)) rfl ?_
    refine jk_st (st' := [.int 1]) rfl ?_
    refine jk_if_eq (tgt := 23) K dX3_milesBetween_6 rfl (fun c_6 => ?_) (fun c_6 => ?_)
    · exact absurd c_6 (by decide)
    · refine jk_aload_n K dX3_milesBetween_9 rfl 0 rfl ?_
      refine jk_get (C := RX3) (T := TX3) (N := 11) (nm := "miles") (ds := "[I") (v := .ref (m 5)) K dX3_milesBetween_10 hin_RX3 (by decide +kernel) (X.length + 0) hm_x0 rfl 5 rfl (by decide) rfl ?_
      refine jk_bipush (x := (nI 10)) K dX3_milesBetween_13 rfl ?_
      refine jk_iload_n K dX3_milesBetween_15 rfl 1 rfl ?_
      refine jk_imul K dX3_milesBetween_16 ?_
      refine jk_iload_n K dX3_milesBetween_17 rfl 2 rfl ?_
      refine jk_iadd K dX3_milesBetween_18 ?_
      refine jk_st (st' := [.int (nI (i * 10 + k)), .ref (m 5)]) (by rw [pk_mul, nI_add, Nat.mul_comm 10 i]) ?_
      refine jk_iald (v := (a 5 (i * 10 + k))) K dX3_milesBetween_19 (X.length + 4) hm_a5 (vp_in_nI (by omega) (by decide)) (by rw [nI_clamp (by omega)]) ?_
      refine jk_goto (tgt := 24) K dX3_milesBetween_20 rfl ?_
      exact jk_iret K hz dX3_milesBetween_24 (0, a 5 (i * 10 + k)) rfl (Or.inl ⟨i, k, hi, hk, rfl, rfl, rfl⟩) rfl rfl (Nat.le_of_ble_eq_true rfl) (Nat.le_of_ble_eq_true rfl)
  · refine jk_ws (ws' := (hm_M E X Y m 1 (nI n) S N a)) rfl ?_
    refine jk_st (st' := [.int 0]) rfl ?_
    refine jk_if_eq (tgt := 23) K dX3_milesBetween_6 rfl (fun c_6 => ?_) (fun c_6 => ?_)
    · refine jk_iconst (x := 0) K dX3_milesBetween_23 rfl ?_
      exact jk_iret K hz dX3_milesBetween_24 (1, 0) rfl (Or.inr ⟨hno, rfl⟩) rfl rfl (Nat.le_of_ble_eq_true rfl) (Nat.le_of_ble_eq_true rfl)
    · exact absurd (by decide) c_6
set_option maxHeartbeats 4000000 in
set_option maxRecDepth 100000 in
theorem hb_X3_canSee (l : Launch) (hl : l.stackTraces = false) (E : jk_T) (X Y : va_W) (m : Nat → Nat) (th : Int32) (S : Nat → Int32) (N a : Nat → Nat → Int32) (n : Nat) (hn : n ≤ 10) (x y : Int32) : jk_Ct l yX3_canSee wsX3_canSee ({ frames := 3, cells := 0, slots := 0, locals := 65 } : Room) [.ref (m 0), .int x, .int y] E (hm_M E X Y m th (nI n) S N a) (fun u : Int32 × Int32 => some (.int u.2)) (fun u => (hm_M E X Y m u.1 (nI n) S N a)) (fun u => (∃ i k, i < n ∧ k < n ∧ x = nI i ∧ y = nI k ∧ u = (0, hb_clr (S 4) (a 5 (i * 10 + k)))) ∨ (¬ (hb_ok n x ∧ hb_ok n y) ∧ u = (1, 0))) := by
  refine jk_of (lv := [(0, .ref (m 0)), (1, .int x), (2, .int y)]) (own := RX3) (nm := "canSee") hl (by decide +kernel) rfl (Nat.le_of_ble_eq_true rfl) rfl rfl rfl (fun Γ hΓ K hnm hz => ?_)
  subst hΓ
  refine jk_aload_n K dX3_canSee_0 rfl 0 rfl ?_
  refine jk_iload_n K dX3_canSee_1 rfl 1 rfl ?_
  refine jk_iload_n K dX3_canSee_2 rfl 2 rfl ?_
  refine jk_cVi K (n' := 0) (k' := 0) [.int x, .int y] [] dX3_canSee_3 (hb_X3_arePair _ hl E X Y m th S N a n hn x y) gX3_canSee_X3_arePair rfl kd_X3_arePair ⟨Nat.le_of_ble_eq_true rfl, Nat.le_of_ble_eq_true rfl⟩ (X.length + 0) hm_x0 rfl (Nat.le_of_ble_eq_true rfl) ⟨rfl, rfl⟩ ⟨Nat.le_of_ble_eq_true rfl, Nat.le_of_ble_eq_true rfl⟩ rfl (fun u1 hu1 => ?_)
  rcases hu1 with ⟨i, k, hi, hk, rfl, rfl, rfl⟩ | ⟨hno, rfl⟩
  · refine jk_ws (ws' := (hm_M E X Y m 0 (nI n) S N a)) rfl ?_
    refine jk_st (st' := [.int 1]) rfl ?_
    refine jk_if_eq (tgt := 22) K dX3_canSee_6 rfl (fun c_6 => ?_) (fun c_6 => ?_)
    · exact absurd c_6 (by decide)
    · refine jk_aload_n K dX3_canSee_9 rfl 0 rfl ?_
      refine jk_iload_n K dX3_canSee_10 rfl 1 rfl ?_
      refine jk_iload_n K dX3_canSee_11 rfl 2 rfl ?_
      refine jk_cVi K (n' := 0) (k' := 0) [.int (nI i), .int (nI k)] [] dX3_canSee_12 (hb_X3_sees _ hl E X Y m 0 S N a n hn i k (Nat.lt_of_lt_of_le hi hn) (Nat.lt_of_lt_of_le hk hn)) gX3_canSee_X3_sees rfl kd_X3_sees ⟨Nat.le_of_ble_eq_true rfl, Nat.le_of_ble_eq_true rfl⟩ (X.length + 0) hm_x0 rfl (Nat.le_of_ble_eq_true rfl) ⟨rfl, rfl⟩ ⟨Nat.le_of_ble_eq_true rfl, Nat.le_of_ble_eq_true rfl⟩ rfl (fun _ _ => ?_)
      refine jk_if_eq (tgt := 22) K dX3_canSee_15 rfl (fun c_15 => ?_) (fun c_15 => ?_)
      · refine jk_iconst (x := 0) K dX3_canSee_22 rfl ?_
        exact jk_iret K hz dX3_canSee_23 (0, 0) rfl (Or.inl ⟨i, k, hi, hk, rfl, rfl, by rw [c_15]⟩) rfl rfl (Nat.le_of_ble_eq_true rfl) (Nat.le_of_ble_eq_true rfl)
      · refine jk_iconst (x := 1) K dX3_canSee_18 rfl ?_
        refine jk_goto (tgt := 23) K dX3_canSee_19 rfl ?_
        exact jk_iret K hz dX3_canSee_23 (0, 1) rfl (Or.inl ⟨i, k, hi, hk, rfl, rfl, by rw [hm_clr1 c_15]⟩) rfl rfl (Nat.le_of_ble_eq_true rfl) (Nat.le_of_ble_eq_true rfl)
  · refine jk_ws (ws' := (hm_M E X Y m 1 (nI n) S N a)) rfl ?_
    refine jk_st (st' := [.int 0]) rfl ?_
    refine jk_if_eq (tgt := 22) K dX3_canSee_6 rfl (fun c_6 => ?_) (fun c_6 => ?_)
    · refine jk_iconst (x := 0) K dX3_canSee_22 rfl ?_
      exact jk_iret K hz dX3_canSee_23 (1, 0) rfl (Or.inr ⟨hno, rfl⟩) rfl rfl (Nat.le_of_ble_eq_true rfl) (Nat.le_of_ble_eq_true rfl)
    · exact absurd (by decide) c_6
set_option maxHeartbeats 4000000 in
set_option maxRecDepth 100000 in
theorem hb_X3_setSight (l : Launch) (hl : l.stackTraces = false) (E : jk_T) (X Y : va_W) (m : Nat → Nat) (th : Int32) (S : Nat → Int32) (N a : Nat → Nat → Int32) (n : Nat) (hn : n ≤ 10) (x y z : Int32) : jk_Ct l yX3_setSight wsX3_setSight ({ frames := 2, cells := 0, slots := 0, locals := 43 } : Room) [.ref (m 0), .int x, .int y, .int z] E (hm_M E X Y m th (nI n) S N a) (fun u : Int32 × Int32 × (Nat → Int32) => some (.int u.2.1)) (fun u => (hm_M E X Y m u.1 (nI n) S N (va_up a 5 u.2.2))) (fun u => (∃ i k, i < n ∧ k < n ∧ x = nI i ∧ y = nI k ∧ ¬ x = y ∧ hb_bt z 0 20 ∧ u = (0, a 5 (i * 10 + k), upd (upd (a 5) (i * 10 + k) z) (k * 10 + i) z)) ∨ (hb_ok n x ∧ hb_ok n y ∧ (x = y ∨ ¬ hb_bt z 0 20) ∧ u = (2, 0, a 5)) ∨ (¬ (hb_ok n x ∧ hb_ok n y) ∧ u = (1, 0, a 5))) := by
  refine jk_of (lv := [(0, .ref (m 0)), (1, .int x), (2, .int y), (3, .int z)]) (own := RX3) (nm := "setSight") hl (by decide +kernel) rfl (Nat.le_of_ble_eq_true rfl) rfl rfl rfl (fun Γ hΓ K hnm hz => ?_)
  subst hΓ
  have hin_RX3 : ∀ w ∈ u_ws RX3 TX3 11, w ∈ wsX3_setSight := by decide +kernel
  refine jk_aload_n K dX3_setSight_0 rfl 0 rfl ?_
  refine jk_iconst (x := 0) K dX3_setSight_1 rfl ?_
  refine jk_put (C := RX3) (T := TX3) (N := 11) (nm := "thrown") (ds := "I") (w' := (hm_M E X Y m 0 (nI n) S N a)) K dX3_setSight_2 hin_RX3 tyX3 tyX3_ok nmX3 (by decide +kernel) (X.length + 0) hm_x0 rfl 0 rfl (by decide) rfl rfl rfl rfl (Nat.le_of_ble_eq_true rfl) (hm_s0 rfl) ?_
  refine jk_aload_n K dX3_setSight_5 rfl 0 rfl ?_
  refine jk_iload_n K dX3_setSight_6 rfl 1 rfl ?_
  refine jk_cVi K (n' := 0) (k' := 0) [.int x] [] dX3_setSight_7 (hb_X3_isHill _ hl E X Y m 0 S N a n hn x) gX3_setSight_X3_isHill rfl kd_X3_isHill ⟨Nat.le_of_ble_eq_true rfl, Nat.le_of_ble_eq_true rfl⟩ (X.length + 0) hm_x0 rfl (Nat.le_of_ble_eq_true rfl) ⟨rfl, rfl⟩ ⟨Nat.le_of_ble_eq_true rfl, Nat.le_of_ble_eq_true rfl⟩ rfl (fun _ _ => ?_)
  refine jk_if_eq (tgt := 21) K dX3_setSight_10 rfl (fun c_10 => ?_) (fun c_10 => ?_)
  · have hno : ¬ (hb_ok n x ∧ hb_ok n y) := fun q => hm_noH hn c_10 q.1
    refine jk_aload_n K dX3_setSight_21 rfl 0 rfl ?_
    refine jk_iconst (x := 1) K dX3_setSight_22 rfl ?_
    refine jk_cVi K (n' := 0) (k' := 0) [.int 1] [] dX3_setSight_23 (hb_X3_fail _ hl E X Y m 0 S N a n hn 1) gX3_setSight_X3_fail rfl kd_X3_fail ⟨Nat.le_of_ble_eq_true rfl, Nat.le_of_ble_eq_true rfl⟩ (X.length + 0) hm_x0 rfl (Nat.le_of_ble_eq_true rfl) ⟨rfl, rfl⟩ ⟨Nat.le_of_ble_eq_true rfl, Nat.le_of_ble_eq_true rfl⟩ rfl (fun _ _ => ?_)
    exact jk_iret K hz dX3_setSight_26 (1, 0, a 5) rfl (Or.inr (Or.inr ⟨hno, rfl⟩)) rfl rfl (Nat.le_of_ble_eq_true rfl) (Nat.le_of_ble_eq_true rfl)
  · obtain ⟨i, hi, rfl⟩ := hm_isH hn c_10
    refine jk_aload_n K dX3_setSight_13 rfl 0 rfl ?_
    refine jk_iload_n K dX3_setSight_14 rfl 2 rfl ?_
    refine jk_cVi K (n' := 0) (k' := 0) [.int y] [] dX3_setSight_15 (hb_X3_isHill _ hl E X Y m 0 S N a n hn y) gX3_setSight_X3_isHill rfl kd_X3_isHill ⟨Nat.le_of_ble_eq_true rfl, Nat.le_of_ble_eq_true rfl⟩ (X.length + 0) hm_x0 rfl (Nat.le_of_ble_eq_true rfl) ⟨rfl, rfl⟩ ⟨Nat.le_of_ble_eq_true rfl, Nat.le_of_ble_eq_true rfl⟩ rfl (fun _ _ => ?_)
    refine jk_if_ne (tgt := 27) K dX3_setSight_18 rfl (fun c_18 => ?_) (fun c_18 => ?_)
    · obtain ⟨k, hk, rfl⟩ := hm_isH hn c_18
      refine jk_iload_n K dX3_setSight_27 rfl 1 rfl ?_
      refine jk_iload_n K dX3_setSight_28 rfl 2 rfl ?_
      refine jk_icmp_eq (tgt := 42) K dX3_setSight_29 rfl (fun c_29 => ?_) (fun c_29 => ?_)
      · refine jk_aload_n K dX3_setSight_42 rfl 0 rfl ?_
        refine jk_iconst (x := 2) K dX3_setSight_43 rfl ?_
        refine jk_cVi K (n' := 0) (k' := 0) [.int 2] [] dX3_setSight_44 (hb_X3_fail _ hl E X Y m 0 S N a n hn 2) gX3_setSight_X3_fail rfl kd_X3_fail ⟨Nat.le_of_ble_eq_true rfl, Nat.le_of_ble_eq_true rfl⟩ (X.length + 0) hm_x0 rfl (Nat.le_of_ble_eq_true rfl) ⟨rfl, rfl⟩ ⟨Nat.le_of_ble_eq_true rfl, Nat.le_of_ble_eq_true rfl⟩ rfl (fun _ _ => ?_)
        exact jk_iret K hz dX3_setSight_47 (2, 0, a 5) rfl (Or.inr (Or.inl ⟨hb_ok_i hi, hb_ok_i hk, Or.inl c_29, rfl⟩)) rfl rfl (Nat.le_of_ble_eq_true rfl) (Nat.le_of_ble_eq_true rfl)
      · refine jk_iload_n K dX3_setSight_32 rfl 3 rfl ?_
        refine jk_iconst (x := 0) K dX3_setSight_33 rfl ?_
        refine jk_bipush (x := 20) K dX3_setSight_34 rfl ?_
        refine jk_cSi K (n' := 0) (k' := 0) [.int z, .int 0, .int 20] [] dX3_setSight_36 (hb_X3_isIn _ hl E (hm_M E X Y m 0 (nI n) S N a) z 0 20) gX3_setSight_X3_isIn rfl kd_X3_isIn ⟨Nat.le_of_ble_eq_true rfl, Nat.le_of_ble_eq_true rfl⟩ (Nat.le_of_ble_eq_true rfl) ⟨rfl, rfl⟩ ⟨Nat.le_of_ble_eq_true rfl, Nat.le_of_ble_eq_true rfl⟩ rfl (fun _ _ => ?_)
        refine jk_if_ne (tgt := 48) K dX3_setSight_39 rfl (fun c_39 => ?_) (fun c_39 => ?_)
        · refine jk_aload_n K dX3_setSight_48 rfl 0 rfl ?_
          refine jk_get (C := RX3) (T := TX3) (N := 11) (nm := "miles") (ds := "[I") (v := .ref (m 5)) K dX3_setSight_49 hin_RX3 (by decide +kernel) (X.length + 0) hm_x0 rfl 5 rfl (by decide) rfl ?_
          refine jk_bipush (x := (nI 10)) K dX3_setSight_52 rfl ?_
          refine jk_iload_n K dX3_setSight_54 rfl 1 rfl ?_
          refine jk_imul K dX3_setSight_55 ?_
          refine jk_iload_n K dX3_setSight_56 rfl 2 rfl ?_
          refine jk_iadd K dX3_setSight_57 ?_
          refine jk_st (st' := [.int (nI (i * 10 + k)), .ref (m 5)]) (by rw [pk_mul, nI_add, Nat.mul_comm 10 i]) ?_
          refine jk_iald (v := (a 5 (i * 10 + k))) K dX3_setSight_58 (X.length + 4) hm_a5 (vp_in_nI (by omega) (by decide)) (by rw [nI_clamp (by omega)]) ?_
          refine jk_istore (lv' := [(4, .int (a 5 (i * 10 + k))), (0, .ref (m 0)), (1, .int (nI i)), (2, .int (nI k)), (3, .int z)]) K dX3_setSight_59 (by decide) rfl ?_
          refine jk_aload_n K dX3_setSight_61 rfl 1 rfl ?_
          refine jk_get (C := RX3) (T := TX3) (N := 11) (nm := "miles") (ds := "[I") (v := .ref (m 5)) K dX3_setSight_62 hin_RX3 (by decide +kernel) (X.length + 0) hm_x0 rfl 5 rfl (by decide) rfl ?_
          refine jk_bipush (x := (nI 10)) K dX3_setSight_65 rfl ?_
          refine jk_iload_n K dX3_setSight_67 rfl 2 rfl ?_
          refine jk_imul K dX3_setSight_68 ?_
          refine jk_iload_n K dX3_setSight_69 rfl 3 rfl ?_
          refine jk_iadd K dX3_setSight_70 ?_
          refine jk_st (st' := [.int (nI (i * 10 + k)), .ref (m 5)]) (by rw [pk_mul, nI_add, Nat.mul_comm 10 i]) ?_
          refine jk_iload_n K dX3_setSight_71 rfl 4 rfl ?_
          refine jk_iast (w' := (hm_M E X Y m 0 (nI n) S N (va_up a 5 (upd (a 5) (i * 10 + k) z)))) K dX3_setSight_72 (X.length + 4) hm_a5 (vp_in_nI (by omega) (by decide)) (by rw [nI_clamp (by omega)]; first | exact hm_t5 | (rw [hm_t5, hb_up_up, va_up_self])) ?_
          refine jk_aload_n K dX3_setSight_73 rfl 1 rfl ?_
          refine jk_get (C := RX3) (T := TX3) (N := 11) (nm := "miles") (ds := "[I") (v := .ref (m 5)) K dX3_setSight_74 hin_RX3 (by decide +kernel) (X.length + 0) hm_x0 rfl 5 rfl (by decide) rfl ?_
          refine jk_bipush (x := (nI 10)) K dX3_setSight_77 rfl ?_
          refine jk_iload_n K dX3_setSight_79 rfl 3 rfl ?_
          refine jk_imul K dX3_setSight_80 ?_
          refine jk_iload_n K dX3_setSight_81 rfl 2 rfl ?_
          refine jk_iadd K dX3_setSight_82 ?_
          refine jk_st (st' := [.int (nI (k * 10 + i)), .ref (m 5)]) (by rw [pk_mul, nI_add, Nat.mul_comm 10 k]) ?_
          refine jk_iload_n K dX3_setSight_83 rfl 4 rfl ?_
          refine jk_iast (w' := (hm_M E X Y m 0 (nI n) S N (va_up a 5 (upd (upd (a 5) (i * 10 + k) z) (k * 10 + i) z)))) K dX3_setSight_84 (X.length + 4) hm_a5 (vp_in_nI (by omega) (by decide)) (by rw [nI_clamp (by omega)]; first | exact hm_t5 | (rw [hm_t5, hb_up_up, va_up_self])) ?_
          refine jk_iload K dX3_setSight_85 0 rfl ?_
          exact jk_iret K hz dX3_setSight_87 (0, a 5 (i * 10 + k), upd (upd (a 5) (i * 10 + k) z) (k * 10 + i) z) rfl (Or.inl ⟨i, k, hi, hk, rfl, rfl, c_29, hm_in_bt.mp c_39, rfl⟩) rfl rfl (Nat.le_of_ble_eq_true rfl) (Nat.le_of_ble_eq_true rfl)
        · refine jk_aload_n K dX3_setSight_42 rfl 0 rfl ?_
          refine jk_iconst (x := 2) K dX3_setSight_43 rfl ?_
          refine jk_cVi K (n' := 0) (k' := 0) [.int 2] [] dX3_setSight_44 (hb_X3_fail _ hl E X Y m 0 S N a n hn 2) gX3_setSight_X3_fail rfl kd_X3_fail ⟨Nat.le_of_ble_eq_true rfl, Nat.le_of_ble_eq_true rfl⟩ (X.length + 0) hm_x0 rfl (Nat.le_of_ble_eq_true rfl) ⟨rfl, rfl⟩ ⟨Nat.le_of_ble_eq_true rfl, Nat.le_of_ble_eq_true rfl⟩ rfl (fun _ _ => ?_)
          exact jk_iret K hz dX3_setSight_47 (2, 0, a 5) rfl (Or.inr (Or.inl ⟨hb_ok_i hi, hb_ok_i hk, Or.inr (fun q => (hm_in_bt.mpr q) c_39), rfl⟩)) rfl rfl (Nat.le_of_ble_eq_true rfl) (Nat.le_of_ble_eq_true rfl)
    · have hno : ¬ (hb_ok n (nI i) ∧ hb_ok n y) := fun q => hm_noH hn c_18 q.2
      refine jk_aload_n K dX3_setSight_21 rfl 0 rfl ?_
      refine jk_iconst (x := 1) K dX3_setSight_22 rfl ?_
      refine jk_cVi K (n' := 0) (k' := 0) [.int 1] [] dX3_setSight_23 (hb_X3_fail _ hl E X Y m 0 S N a n hn 1) gX3_setSight_X3_fail rfl kd_X3_fail ⟨Nat.le_of_ble_eq_true rfl, Nat.le_of_ble_eq_true rfl⟩ (X.length + 0) hm_x0 rfl (Nat.le_of_ble_eq_true rfl) ⟨rfl, rfl⟩ ⟨Nat.le_of_ble_eq_true rfl, Nat.le_of_ble_eq_true rfl⟩ rfl (fun _ _ => ?_)
      exact jk_iret K hz dX3_setSight_26 (1, 0, a 5) rfl (Or.inr (Or.inr ⟨hno, rfl⟩)) rfl rfl (Nat.le_of_ble_eq_true rfl) (Nat.le_of_ble_eq_true rfl)
set_option maxHeartbeats 4000000 in
set_option maxRecDepth 100000 in
theorem hb_X3_told (l : Launch) (hl : l.stackTraces = false) (E : jk_T) (X Y : va_W) (m : Nat → Nat) (th : Int32) (S : Nat → Int32) (N a : Nat → Nat → Int32) (n : Nat) (hn : n ≤ 10) (x : Int32) : jk_fn l yX3_told wsX3_told ({ frames := 0, cells := 0, slots := 0, locals := 0 } : Room) [.ref (m 0), .int x] E (hm_M E X Y m th (nI n) S N a) (some (.int x)) (hm_M E X Y m 0 (nI n) S N a) := by
  refine jk_of (lv := [(0, .ref (m 0)), (1, .int x)]) (own := RX3) (nm := "told") hl (by decide +kernel) rfl (Nat.le_of_ble_eq_true rfl) rfl rfl rfl (fun Γ hΓ K hnm hz => ?_)
  subst hΓ
  have hin_RX3 : ∀ w ∈ u_ws RX3 TX3 11, w ∈ wsX3_told := by decide +kernel
  refine jk_aload_n K dX3_told_0 rfl 0 rfl ?_
  refine jk_iconst (x := 0) K dX3_told_1 rfl ?_
  refine jk_put (C := RX3) (T := TX3) (N := 11) (nm := "thrown") (ds := "I") (w' := (hm_M E X Y m 0 (nI n) S N a)) K dX3_told_2 hin_RX3 tyX3 tyX3_ok nmX3 (by decide +kernel) (X.length + 0) hm_x0 rfl 0 rfl (by decide) rfl rfl rfl rfl (Nat.le_of_ble_eq_true rfl) (hm_s0 rfl) ?_
  refine jk_iload_n K dX3_told_5 rfl 1 rfl ?_
  exact jk_iret K hz dX3_told_6 () rfl trivial rfl rfl (Nat.le_of_ble_eq_true rfl) (Nat.le_of_ble_eq_true rfl)
set_option maxHeartbeats 4000000 in
set_option maxRecDepth 100000 in
theorem hb_X3_burning (l : Launch) (hl : l.stackTraces = false) (E : jk_T) (X Y : va_W) (m : Nat → Nat) (th : Int32) (S : Nat → Int32) (N a : Nat → Nat → Int32) (n : Nat) (hn : n ≤ 10) : jk_fn l yX3_burning wsX3_burning ({ frames := 1, cells := 0, slots := 0, locals := 22 } : Room) [.ref (m 0)] E (hm_M E X Y m th (nI n) S N a) (some (.int (hm_bu N n))) (hm_M E X Y m th (nI n) S N a) := by
  refine jk_of (lv := [(0, .ref (m 0))]) (own := RX3) (nm := "burning") hl (by decide +kernel) rfl (Nat.le_of_ble_eq_true rfl) rfl rfl rfl (fun Γ hΓ K hnm hz => ?_)
  subst hΓ
  have hin_RX3 : ∀ w ∈ u_ws RX3 TX3 11, w ∈ wsX3_burning := by decide +kernel
  have hL : ∀ j, j ≤ n → jk_J Γ E (hm_M E X Y m th (nI n) S N a) 0 0 4 [(2, .int (nI j)), (1, .int (hm_bu N j)), (0, .ref (m 0))] [] := by
    refine jk_loop (fun j hj ih => ?_)
    refine jk_iload_n K dX3_burning_4 rfl 0 rfl ?_
    refine jk_aload_n K dX3_burning_5 rfl 2 rfl ?_
    refine jk_get (C := RX3) (T := TX3) (N := 11) (nm := "hills") (ds := "I") (v := .int (nI n)) K dX3_burning_6 hin_RX3 (by decide +kernel) (X.length + 0) hm_x0 rfl 1 rfl (by decide) rfl ?_
    refine jk_icmp_ge (tgt := 36) K dX3_burning_9 rfl (fun c_9 => ?_) (fun c_9 => ?_)
    · have hjn : j = n := hb_ex rfl (by omega) hj c_9
      refine jk_iload_n K dX3_burning_36 rfl 1 rfl ?_
      exact jk_iret K hz dX3_burning_37 () (by rw [hjn]) trivial rfl rfl (Nat.le_of_ble_eq_true rfl) (Nat.le_of_ble_eq_true rfl)
    · have hlt : j < n := hb_in rfl (by omega) hj c_9
      refine jk_iload_n K dX3_burning_12 rfl 1 rfl ?_
      refine jk_aload_n K dX3_burning_13 rfl 2 rfl ?_
      refine jk_iload_n K dX3_burning_14 rfl 0 rfl ?_
      refine jk_iconst (x := 1) K dX3_burning_15 rfl ?_
      refine jk_cVi K (n' := 0) (k' := 0) [.int (nI j), .int (nI 1)] [.int (hm_bu N j)] dX3_burning_16 (hb_X3_hi _ hl E X Y m th S N a n hn j 1 (Nat.lt_of_lt_of_le hlt hn) (by decide)) gX3_burning_X3_hi rfl kd_X3_hi ⟨Nat.le_of_ble_eq_true rfl, Nat.le_of_ble_eq_true rfl⟩ (X.length + 0) hm_x0 rfl (Nat.le_of_ble_eq_true rfl) ⟨rfl, rfl⟩ ⟨Nat.le_of_ble_eq_true rfl, Nat.le_of_ble_eq_true rfl⟩ rfl (fun _ _ => ?_)
      refine jk_iconst (x := 2) K dX3_burning_19 rfl ?_
      refine jk_icmp_ne (tgt := 27) K dX3_burning_20 rfl (fun c_20 => ?_) (fun c_20 => ?_)
      · refine jk_iconst (x := 0) K dX3_burning_27 rfl ?_
        refine jk_iadd K dX3_burning_28 ?_
        refine jk_istore_n (lv' := [(1, .int ((hm_bu N j) + 0)), (2, .int (nI j)), (0, .ref (m 0))]) K dX3_burning_29 rfl (by decide) rfl ?_
        refine jk_iinc (v := (nI (j + 1))) (lv' := [(2, .int (nI (j + 1))), (1, .int ((hm_bu N j) + 0)), (0, .ref (m 0))]) K dX3_burning_30 1 rfl (nI_1 j) (by decide) rfl ?_
        refine jk_goto (tgt := 4) K dX3_burning_33 rfl ?_
        refine jk_lv (lv' := [(2, .int (nI (j + 1))), (1, .int (hm_bu N (j + 1))), (0, .ref (m 0))]) (by rw [hm_bu_s, if_neg c_20]) ?_
        exact ih hlt
      · refine jk_iconst (x := 1) K dX3_burning_23 rfl ?_
        refine jk_goto (tgt := 28) K dX3_burning_24 rfl ?_
        refine jk_iadd K dX3_burning_28 ?_
        refine jk_istore_n (lv' := [(1, .int ((hm_bu N j) + 1)), (2, .int (nI j)), (0, .ref (m 0))]) K dX3_burning_29 rfl (by decide) rfl ?_
        refine jk_iinc (v := (nI (j + 1))) (lv' := [(2, .int (nI (j + 1))), (1, .int ((hm_bu N j) + 1)), (0, .ref (m 0))]) K dX3_burning_30 1 rfl (nI_1 j) (by decide) rfl ?_
        refine jk_goto (tgt := 4) K dX3_burning_33 rfl ?_
        refine jk_lv (lv' := [(2, .int (nI (j + 1))), (1, .int (hm_bu N (j + 1))), (0, .ref (m 0))]) (by rw [hm_bu_s, if_pos c_20]) ?_
        exact ih hlt
  refine jk_iconst (x := 0) K dX3_burning_0 rfl ?_
  refine jk_istore_n (lv' := [(1, .int 0), (0, .ref (m 0))]) K dX3_burning_1 rfl (by decide) rfl ?_
  refine jk_iconst (x := 0) K dX3_burning_2 rfl ?_
  refine jk_istore_n (lv' := [(2, .int 0), (1, .int 0), (0, .ref (m 0))]) K dX3_burning_3 rfl (by decide) rfl ?_
  refine jk_lv (lv' := [(2, .int (nI 0)), (1, .int (hm_bu N 0)), (0, .ref (m 0))]) (by first | rfl | (simp []; done)) ?_
  exact hL 0 (Nat.zero_le _)
set_option maxHeartbeats 4000000 in
set_option maxRecDepth 100000 in
theorem hb_X3_hills (l : Launch) (hl : l.stackTraces = false) (E : jk_T) (X Y : va_W) (m : Nat → Nat) (th : Int32) (S : Nat → Int32) (N a : Nat → Nat → Int32) (n : Nat) (hn : n ≤ 10) : jk_fn l yX3_hills wsX3_hills ({ frames := 1, cells := 0, slots := 0, locals := 21 } : Room) [.ref (m 0)] E (hm_M E X Y m th (nI n) S N a) (some (.int (nI n))) (hm_M E X Y m 0 (nI n) S N a) := by
  refine jk_of (lv := [(0, .ref (m 0))]) (own := RX3) (nm := "hills") hl (by decide +kernel) rfl (Nat.le_of_ble_eq_true rfl) rfl rfl rfl (fun Γ hΓ K hnm hz => ?_)
  subst hΓ
  have hin_RX3 : ∀ w ∈ u_ws RX3 TX3 11, w ∈ wsX3_hills := by decide +kernel
  refine jk_aload_n K dX3_hills_0 rfl 0 rfl ?_
  refine jk_aload_n K dX3_hills_1 rfl 0 rfl ?_
  refine jk_get (C := RX3) (T := TX3) (N := 11) (nm := "hills") (ds := "I") (v := .int (nI n)) K dX3_hills_2 hin_RX3 (by decide +kernel) (X.length + 0) hm_x0 rfl 1 rfl (by decide) rfl ?_
  refine jk_cVi K (n' := 0) (k' := 0) [.int (nI n)] [] dX3_hills_5 (hb_X3_told _ hl E X Y m th S N a n hn (nI n)) gX3_hills_X3_told rfl kd_X3_told ⟨Nat.le_of_ble_eq_true rfl, Nat.le_of_ble_eq_true rfl⟩ (X.length + 0) hm_x0 rfl (Nat.le_of_ble_eq_true rfl) ⟨rfl, rfl⟩ ⟨Nat.le_of_ble_eq_true rfl, Nat.le_of_ble_eq_true rfl⟩ rfl (fun _ _ => ?_)
  exact jk_iret K hz dX3_hills_8 () rfl trivial rfl rfl (Nat.le_of_ble_eq_true rfl) (Nat.le_of_ble_eq_true rfl)
set_option maxHeartbeats 4000000 in
set_option maxRecDepth 100000 in
theorem hb_X3_burningHills (l : Launch) (hl : l.stackTraces = false) (E : jk_T) (X Y : va_W) (m : Nat → Nat) (th : Int32) (S : Nat → Int32) (N a : Nat → Nat → Int32) (n : Nat) (hn : n ≤ 10) : jk_fn l yX3_burningHills wsX3_burningHills ({ frames := 2, cells := 0, slots := 0, locals := 44 } : Room) [.ref (m 0)] E (hm_M E X Y m th (nI n) S N a) (some (.int (hm_bu N n))) (hm_M E X Y m 0 (nI n) S N a) := by
  refine jk_of (lv := [(0, .ref (m 0))]) (own := RX3) (nm := "burningHills") hl (by decide +kernel) rfl (Nat.le_of_ble_eq_true rfl) rfl rfl rfl (fun Γ hΓ K hnm hz => ?_)
  subst hΓ
  refine jk_aload_n K dX3_burningHills_0 rfl 0 rfl ?_
  refine jk_aload_n K dX3_burningHills_1 rfl 0 rfl ?_
  refine jk_cVi K (n' := 0) (k' := 0) [] [.ref (m 0)] dX3_burningHills_2 (hb_X3_burning _ hl E X Y m th S N a n hn) gX3_burningHills_X3_burning rfl kd_X3_burning ⟨Nat.le_of_ble_eq_true rfl, Nat.le_of_ble_eq_true rfl⟩ (X.length + 0) hm_x0 rfl (Nat.le_of_ble_eq_true rfl) ⟨rfl, rfl⟩ ⟨Nat.le_of_ble_eq_true rfl, Nat.le_of_ble_eq_true rfl⟩ rfl (fun _ _ => ?_)
  refine jk_cVi K (n' := 0) (k' := 0) [.int (hm_bu N n)] [] dX3_burningHills_5 (hb_X3_told _ hl E X Y m th S N a n hn (hm_bu N n)) gX3_burningHills_X3_told rfl kd_X3_told ⟨Nat.le_of_ble_eq_true rfl, Nat.le_of_ble_eq_true rfl⟩ (X.length + 0) hm_x0 rfl (Nat.le_of_ble_eq_true rfl) ⟨rfl, rfl⟩ ⟨Nat.le_of_ble_eq_true rfl, Nat.le_of_ble_eq_true rfl⟩ rfl (fun _ _ => ?_)
  exact jk_iret K hz dX3_burningHills_8 () rfl trivial rfl rfl (Nat.le_of_ble_eq_true rfl) (Nat.le_of_ble_eq_true rfl)
set_option maxHeartbeats 4000000 in
set_option maxRecDepth 100000 in
theorem hb_X3_minute (l : Launch) (hl : l.stackTraces = false) (E : jk_T) (X Y : va_W) (m : Nat → Nat) (th : Int32) (S : Nat → Int32) (N a : Nat → Nat → Int32) (n : Nat) (hn : n ≤ 10) : jk_fn l yX3_minute wsX3_minute ({ frames := 1, cells := 0, slots := 0, locals := 21 } : Room) [.ref (m 0)] E (hm_M E X Y m th (nI n) S N a) (some (.int (S 0))) (hm_M E X Y m 0 (nI n) S N a) := by
  refine jk_of (lv := [(0, .ref (m 0))]) (own := RX3) (nm := "minute") hl (by decide +kernel) rfl (Nat.le_of_ble_eq_true rfl) rfl rfl rfl (fun Γ hΓ K hnm hz => ?_)
  subst hΓ
  have hin_RX3 : ∀ w ∈ u_ws RX3 TX3 11, w ∈ wsX3_minute := by decide +kernel
  refine jk_aload_n K dX3_minute_0 rfl 0 rfl ?_
  refine jk_aload_n K dX3_minute_1 rfl 0 rfl ?_
  refine jk_get (C := RX3) (T := TX3) (N := 11) (nm := "now") (ds := "[I") (v := .ref (m 6)) K dX3_minute_2 hin_RX3 (by decide +kernel) (X.length + 0) hm_x0 rfl 6 rfl (by decide) rfl ?_
  refine jk_iconst (x := 0) K dX3_minute_5 rfl ?_
  refine jk_iald (v := (S 0)) K dX3_minute_6 (X.length + 5) hm_a6 (vp_in_nI (n := 0) (by decide) (by decide)) (hm_now_s _ _ (k := 0) (by decide)) ?_
  refine jk_cVi K (n' := 0) (k' := 0) [.int (S 0)] [] dX3_minute_7 (hb_X3_told _ hl E X Y m th S N a n hn (S 0)) gX3_minute_X3_told rfl kd_X3_told ⟨Nat.le_of_ble_eq_true rfl, Nat.le_of_ble_eq_true rfl⟩ (X.length + 0) hm_x0 rfl (Nat.le_of_ble_eq_true rfl) ⟨rfl, rfl⟩ ⟨Nat.le_of_ble_eq_true rfl, Nat.le_of_ble_eq_true rfl⟩ rfl (fun _ _ => ?_)
  exact jk_iret K hz dX3_minute_10 () rfl trivial rfl rfl (Nat.le_of_ble_eq_true rfl) (Nat.le_of_ble_eq_true rfl)
set_option maxHeartbeats 4000000 in
set_option maxRecDepth 100000 in
theorem hb_X3_haze (l : Launch) (hl : l.stackTraces = false) (E : jk_T) (X Y : va_W) (m : Nat → Nat) (th : Int32) (S : Nat → Int32) (N a : Nat → Nat → Int32) (n : Nat) (hn : n ≤ 10) : jk_fn l yX3_haze wsX3_haze ({ frames := 1, cells := 0, slots := 0, locals := 21 } : Room) [.ref (m 0)] E (hm_M E X Y m th (nI n) S N a) (some (.int (S 4))) (hm_M E X Y m 0 (nI n) S N a) := by
  refine jk_of (lv := [(0, .ref (m 0))]) (own := RX3) (nm := "haze") hl (by decide +kernel) rfl (Nat.le_of_ble_eq_true rfl) rfl rfl rfl (fun Γ hΓ K hnm hz => ?_)
  subst hΓ
  have hin_RX3 : ∀ w ∈ u_ws RX3 TX3 11, w ∈ wsX3_haze := by decide +kernel
  refine jk_aload_n K dX3_haze_0 rfl 0 rfl ?_
  refine jk_aload_n K dX3_haze_1 rfl 0 rfl ?_
  refine jk_get (C := RX3) (T := TX3) (N := 11) (nm := "now") (ds := "[I") (v := .ref (m 6)) K dX3_haze_2 hin_RX3 (by decide +kernel) (X.length + 0) hm_x0 rfl 6 rfl (by decide) rfl ?_
  refine jk_iconst (x := 4) K dX3_haze_5 rfl ?_
  refine jk_iald (v := (S 4)) K dX3_haze_6 (X.length + 5) hm_a6 (vp_in_nI (n := 4) (by decide) (by decide)) (hm_now_s _ _ (k := 4) (by decide)) ?_
  refine jk_cVi K (n' := 0) (k' := 0) [.int (S 4)] [] dX3_haze_7 (hb_X3_told _ hl E X Y m th S N a n hn (S 4)) gX3_haze_X3_told rfl kd_X3_told ⟨Nat.le_of_ble_eq_true rfl, Nat.le_of_ble_eq_true rfl⟩ (X.length + 0) hm_x0 rfl (Nat.le_of_ble_eq_true rfl) ⟨rfl, rfl⟩ ⟨Nat.le_of_ble_eq_true rfl, Nat.le_of_ble_eq_true rfl⟩ rfl (fun _ _ => ?_)
  exact jk_iret K hz dX3_haze_10 () rfl trivial rfl rfl (Nat.le_of_ble_eq_true rfl) (Nat.le_of_ble_eq_true rfl)
set_option maxHeartbeats 4000000 in
set_option maxRecDepth 100000 in
theorem hb_X3_glowLeft (l : Launch) (hl : l.stackTraces = false) (E : jk_T) (X Y : va_W) (m : Nat → Nat) (th : Int32) (S : Nat → Int32) (N a : Nat → Nat → Int32) (n : Nat) (hn : n ≤ 10) : jk_fn l yX3_glowLeft wsX3_glowLeft ({ frames := 1, cells := 0, slots := 0, locals := 21 } : Room) [.ref (m 0)] E (hm_M E X Y m th (nI n) S N a) (some (.int (S 1))) (hm_M E X Y m 0 (nI n) S N a) := by
  refine jk_of (lv := [(0, .ref (m 0))]) (own := RX3) (nm := "glowLeft") hl (by decide +kernel) rfl (Nat.le_of_ble_eq_true rfl) rfl rfl rfl (fun Γ hΓ K hnm hz => ?_)
  subst hΓ
  have hin_RX3 : ∀ w ∈ u_ws RX3 TX3 11, w ∈ wsX3_glowLeft := by decide +kernel
  refine jk_aload_n K dX3_glowLeft_0 rfl 0 rfl ?_
  refine jk_aload_n K dX3_glowLeft_1 rfl 0 rfl ?_
  refine jk_get (C := RX3) (T := TX3) (N := 11) (nm := "now") (ds := "[I") (v := .ref (m 6)) K dX3_glowLeft_2 hin_RX3 (by decide +kernel) (X.length + 0) hm_x0 rfl 6 rfl (by decide) rfl ?_
  refine jk_iconst (x := 1) K dX3_glowLeft_5 rfl ?_
  refine jk_iald (v := (S 1)) K dX3_glowLeft_6 (X.length + 5) hm_a6 (vp_in_nI (n := 1) (by decide) (by decide)) (hm_now_s _ _ (k := 1) (by decide)) ?_
  refine jk_cVi K (n' := 0) (k' := 0) [.int (S 1)] [] dX3_glowLeft_7 (hb_X3_told _ hl E X Y m th S N a n hn (S 1)) gX3_glowLeft_X3_told rfl kd_X3_told ⟨Nat.le_of_ble_eq_true rfl, Nat.le_of_ble_eq_true rfl⟩ (X.length + 0) hm_x0 rfl (Nat.le_of_ble_eq_true rfl) ⟨rfl, rfl⟩ ⟨Nat.le_of_ble_eq_true rfl, Nat.le_of_ble_eq_true rfl⟩ rfl (fun _ _ => ?_)
  exact jk_iret K hz dX3_glowLeft_10 () rfl trivial rfl rfl (Nat.le_of_ble_eq_true rfl) (Nat.le_of_ble_eq_true rfl)
set_option maxHeartbeats 4000000 in
set_option maxRecDepth 100000 in
theorem hb_X3_timesLit (l : Launch) (hl : l.stackTraces = false) (E : jk_T) (X Y : va_W) (m : Nat → Nat) (th : Int32) (S : Nat → Int32) (N a : Nat → Nat → Int32) (n : Nat) (hn : n ≤ 10) : jk_fn l yX3_timesLit wsX3_timesLit ({ frames := 1, cells := 0, slots := 0, locals := 21 } : Room) [.ref (m 0)] E (hm_M E X Y m th (nI n) S N a) (some (.int (S 2))) (hm_M E X Y m 0 (nI n) S N a) := by
  refine jk_of (lv := [(0, .ref (m 0))]) (own := RX3) (nm := "timesLit") hl (by decide +kernel) rfl (Nat.le_of_ble_eq_true rfl) rfl rfl rfl (fun Γ hΓ K hnm hz => ?_)
  subst hΓ
  have hin_RX3 : ∀ w ∈ u_ws RX3 TX3 11, w ∈ wsX3_timesLit := by decide +kernel
  refine jk_aload_n K dX3_timesLit_0 rfl 0 rfl ?_
  refine jk_aload_n K dX3_timesLit_1 rfl 0 rfl ?_
  refine jk_get (C := RX3) (T := TX3) (N := 11) (nm := "now") (ds := "[I") (v := .ref (m 6)) K dX3_timesLit_2 hin_RX3 (by decide +kernel) (X.length + 0) hm_x0 rfl 6 rfl (by decide) rfl ?_
  refine jk_iconst (x := 2) K dX3_timesLit_5 rfl ?_
  refine jk_iald (v := (S 2)) K dX3_timesLit_6 (X.length + 5) hm_a6 (vp_in_nI (n := 2) (by decide) (by decide)) (hm_now_s _ _ (k := 2) (by decide)) ?_
  refine jk_cVi K (n' := 0) (k' := 0) [.int (S 2)] [] dX3_timesLit_7 (hb_X3_told _ hl E X Y m th S N a n hn (S 2)) gX3_timesLit_X3_told rfl kd_X3_told ⟨Nat.le_of_ble_eq_true rfl, Nat.le_of_ble_eq_true rfl⟩ (X.length + 0) hm_x0 rfl (Nat.le_of_ble_eq_true rfl) ⟨rfl, rfl⟩ ⟨Nat.le_of_ble_eq_true rfl, Nat.le_of_ble_eq_true rfl⟩ rfl (fun _ _ => ?_)
  exact jk_iret K hz dX3_timesLit_10 () rfl trivial rfl rfl (Nat.le_of_ble_eq_true rfl) (Nat.le_of_ble_eq_true rfl)
set_option maxHeartbeats 4000000 in
set_option maxRecDepth 100000 in
theorem hb_X3_timesMistaken (l : Launch) (hl : l.stackTraces = false) (E : jk_T) (X Y : va_W) (m : Nat → Nat) (th : Int32) (S : Nat → Int32) (N a : Nat → Nat → Int32) (n : Nat) (hn : n ≤ 10) : jk_fn l yX3_timesMistaken wsX3_timesMistaken ({ frames := 1, cells := 0, slots := 0, locals := 21 } : Room) [.ref (m 0)] E (hm_M E X Y m th (nI n) S N a) (some (.int (S 3))) (hm_M E X Y m 0 (nI n) S N a) := by
  refine jk_of (lv := [(0, .ref (m 0))]) (own := RX3) (nm := "timesMistaken") hl (by decide +kernel) rfl (Nat.le_of_ble_eq_true rfl) rfl rfl rfl (fun Γ hΓ K hnm hz => ?_)
  subst hΓ
  have hin_RX3 : ∀ w ∈ u_ws RX3 TX3 11, w ∈ wsX3_timesMistaken := by decide +kernel
  refine jk_aload_n K dX3_timesMistaken_0 rfl 0 rfl ?_
  refine jk_aload_n K dX3_timesMistaken_1 rfl 0 rfl ?_
  refine jk_get (C := RX3) (T := TX3) (N := 11) (nm := "now") (ds := "[I") (v := .ref (m 6)) K dX3_timesMistaken_2 hin_RX3 (by decide +kernel) (X.length + 0) hm_x0 rfl 6 rfl (by decide) rfl ?_
  refine jk_iconst (x := 3) K dX3_timesMistaken_5 rfl ?_
  refine jk_iald (v := (S 3)) K dX3_timesMistaken_6 (X.length + 5) hm_a6 (vp_in_nI (n := 3) (by decide) (by decide)) (hm_now_s _ _ (k := 3) (by decide)) ?_
  refine jk_cVi K (n' := 0) (k' := 0) [.int (S 3)] [] dX3_timesMistaken_7 (hb_X3_told _ hl E X Y m th S N a n hn (S 3)) gX3_timesMistaken_X3_told rfl kd_X3_told ⟨Nat.le_of_ble_eq_true rfl, Nat.le_of_ble_eq_true rfl⟩ (X.length + 0) hm_x0 rfl (Nat.le_of_ble_eq_true rfl) ⟨rfl, rfl⟩ ⟨Nat.le_of_ble_eq_true rfl, Nat.le_of_ble_eq_true rfl⟩ rfl (fun _ _ => ?_)
  exact jk_iret K hz dX3_timesMistaken_10 () rfl trivial rfl rfl (Nat.le_of_ble_eq_true rfl) (Nat.le_of_ble_eq_true rfl)
set_option maxHeartbeats 4000000 in
set_option maxRecDepth 100000 in
theorem hb_X3_passMinutes (l : Launch) (hl : l.stackTraces = false) (E : jk_T) (X Y : va_W) (m : Nat → Nat) (th : Int32) (S : Nat → Int32) (N a : Nat → Nat → Int32) (n : Nat) (hn : n ≤ 10) (x : Int32) (hso : hm_so N) : jk_Ct l yX3_passMinutes wsX3_passMinutes ({ frames := 4, cells := 0, slots := 0, locals := 91 } : Room) [.ref (m 0), .int x] E (hm_M E X Y m th (nI n) S N a) (fun u : Int32 × Int32 × hm_St => some (.int u.2.1)) (fun u => (hm_M E X Y m u.1 (nI n) u.2.2.1 u.2.2.2.1 (va_up a 8 u.2.2.2.2))) (fun u => (∃ p, 1 ≤ p ∧ p ≤ 100 ∧ x = nI p ∧ u = (0, (hm_pm S N a n p).1 2 - S 2, (hm_pm S N a n p))) ∨ (¬ hb_bt x 1 100 ∧ u = (1, 0, S, N, a 8))) := by
  refine jk_of (lv := [(0, .ref (m 0)), (1, .int x)]) (own := RX3) (nm := "passMinutes") hl (by decide +kernel) rfl (Nat.le_of_ble_eq_true rfl) rfl rfl rfl (fun Γ hΓ K hnm hz => ?_)
  subst hΓ
  have hin_RX3 : ∀ w ∈ u_ws RX3 TX3 11, w ∈ wsX3_passMinutes := by decide +kernel
  refine jk_aload_n K dX3_passMinutes_0 rfl 0 rfl ?_
  refine jk_iconst (x := 0) K dX3_passMinutes_1 rfl ?_
  refine jk_put (C := RX3) (T := TX3) (N := 11) (nm := "thrown") (ds := "I") (w' := (hm_M E X Y m 0 (nI n) S N a)) K dX3_passMinutes_2 hin_RX3 tyX3 tyX3_ok nmX3 (by decide +kernel) (X.length + 0) hm_x0 rfl 0 rfl (by decide) rfl rfl rfl rfl (Nat.le_of_ble_eq_true rfl) (hm_s0 rfl) ?_
  refine jk_iload_n K dX3_passMinutes_5 rfl 1 rfl ?_
  refine jk_iconst (x := 1) K dX3_passMinutes_6 rfl ?_
  refine jk_bipush (x := 100) K dX3_passMinutes_7 rfl ?_
  refine jk_cSi K (n' := 0) (k' := 0) [.int x, .int 1, .int 100] [] dX3_passMinutes_9 (hb_X3_isIn _ hl E (hm_M E X Y m 0 (nI n) S N a) x 1 100) gX3_passMinutes_X3_isIn rfl kd_X3_isIn ⟨Nat.le_of_ble_eq_true rfl, Nat.le_of_ble_eq_true rfl⟩ (Nat.le_of_ble_eq_true rfl) ⟨rfl, rfl⟩ ⟨Nat.le_of_ble_eq_true rfl, Nat.le_of_ble_eq_true rfl⟩ rfl (fun _ _ => ?_)
  refine jk_if_ne (tgt := 21) K dX3_passMinutes_12 rfl (fun c_12 => ?_) (fun c_12 => ?_)
  · obtain ⟨p, hm1, hm, rfl⟩ := hb_bt_nat (lo := 1) (hi := 100) (by decide) (by decide) (hm_in_bt.mp c_12)
    refine jk_aload_n K dX3_passMinutes_21 rfl 0 rfl ?_
    refine jk_get (C := RX3) (T := TX3) (N := 11) (nm := "now") (ds := "[I") (v := .ref (m 6)) K dX3_passMinutes_22 hin_RX3 (by decide +kernel) (X.length + 0) hm_x0 rfl 6 rfl (by decide) rfl ?_
    refine jk_iconst (x := 2) K dX3_passMinutes_25 rfl ?_
    refine jk_iald (v := (S 2)) K dX3_passMinutes_26 (X.length + 5) hm_a6 (vp_in_nI (n := 2) (by decide) (by decide)) (hm_now_s _ _ (k := 2) (by decide)) ?_
    refine jk_istore_n (lv' := [(2, .int (S 2)), (0, .ref (m 0)), (1, .int (nI p))]) K dX3_passMinutes_27 rfl (by decide) rfl ?_
    refine jk_iconst (x := 0) K dX3_passMinutes_28 rfl ?_
    refine jk_istore_n (lv' := [(3, .int 0), (2, .int (S 2)), (0, .ref (m 0)), (1, .int (nI p))]) K dX3_passMinutes_29 rfl (by decide) rfl ?_
    have hL : ∀ j, j ≤ p → jk_J Γ E (hm_M E X Y m 0 (nI n) (hm_pm S N a n j).1 (hm_pm S N a n j).2.1 (va_up a 8 (hm_pm S N a n j).2.2)) 0 0 30 [(3, .int (nI j)), (2, .int (S 2)), (0, .ref (m 0)), (1, .int (nI p))] [] := by
      refine jk_loop (fun j hj ih => ?_)
      refine jk_iload_n K dX3_passMinutes_30 rfl 0 rfl ?_
      refine jk_iload_n K dX3_passMinutes_31 rfl 3 rfl ?_
      refine jk_icmp_ge (tgt := 45) K dX3_passMinutes_32 rfl (fun c_32 => ?_) (fun c_32 => ?_)
      · have hjn : j = p := hb_ex (n := p) rfl (by omega) hj c_32
        refine jk_aload_n K dX3_passMinutes_45 rfl 2 rfl ?_
        refine jk_get (C := RX3) (T := TX3) (N := 11) (nm := "now") (ds := "[I") (v := .ref (m 6)) K dX3_passMinutes_46 hin_RX3 (by decide +kernel) (X.length + 0) hm_x0 rfl 6 rfl (by decide) rfl ?_
        refine jk_iconst (x := 2) K dX3_passMinutes_49 rfl ?_
        refine jk_iald (v := ((hm_pm S N a n j).1 2)) K dX3_passMinutes_50 (X.length + 5) hm_a6 (vp_in_nI (n := 2) (by decide) (by decide)) (hm_now_s _ _ (k := 2) (by decide)) ?_
        refine jk_iload_n K dX3_passMinutes_51 rfl 1 rfl ?_
        refine jk_isub K dX3_passMinutes_52 ?_
        exact jk_iret K hz dX3_passMinutes_53 (0, (hm_pm S N a n p).1 2 - S 2, (hm_pm S N a n p)) (by rw [hjn]) (Or.inl ⟨p, hm1, hm, rfl, rfl⟩) (by rw [hjn]) rfl (Nat.le_of_ble_eq_true rfl) (Nat.le_of_ble_eq_true rfl)
      · have hlt : j < p := hb_in (n := p) rfl (by omega) hj c_32
        have hsoj : hm_so (hm_pm S N a n j).2.1 := hm_so_pm hn hso j
        refine jk_aload_n K dX3_passMinutes_35 rfl 2 rfl ?_
        refine jk_cVv K (n' := 0) (k' := 0) [] [] dX3_passMinutes_36 (hb_X3_minuteOn _ hl E X Y m 0 (hm_pm S N a n j).1 (hm_pm S N a n j).2.1 (va_up a 8 (hm_pm S N a n j).2.2) n hn hsoj) gX3_passMinutes_X3_minuteOn rfl kd_X3_minuteOn ⟨Nat.le_of_ble_eq_true rfl, Nat.le_of_ble_eq_true rfl⟩ (X.length + 0) hm_x0 rfl (Nat.le_of_ble_eq_true rfl) ⟨rfl, rfl⟩ ⟨Nat.le_of_ble_eq_true rfl, Nat.le_of_ble_eq_true rfl⟩ rfl (fun _ _ => ?_)
        refine jk_iinc (v := (nI (j + 1))) (lv' := [(3, .int (nI (j + 1))), (2, .int (S 2)), (0, .ref (m 0)), (1, .int (nI p))]) K dX3_passMinutes_39 0 rfl (nI_1 j) (by decide) rfl ?_
        refine jk_goto (tgt := 30) K dX3_passMinutes_42 rfl ?_
        refine jk_ws (ws' := (hm_M E X Y m 0 (nI n) (hm_pm S N a n (j + 1)).1 (hm_pm S N a n (j + 1)).2.1 (va_up a 8 (hm_pm S N a n (j + 1)).2.2))) rfl ?_
        exact ih hlt
    refine jk_lv (lv' := [(3, .int (nI 0)), (2, .int (S 2)), (0, .ref (m 0)), (1, .int (nI p))]) (by first | rfl | (simp [c_12]; done)) ?_
    refine jk_ws (ws' := (hm_M E X Y m 0 (nI n) (hm_pm S N a n 0).1 (hm_pm S N a n 0).2.1 (va_up a 8 (hm_pm S N a n 0).2.2))) rfl ?_
    exact hL 0 (Nat.zero_le _)
  · refine jk_aload_n K dX3_passMinutes_15 rfl 0 rfl ?_
    refine jk_iconst (x := 1) K dX3_passMinutes_16 rfl ?_
    refine jk_cVi K (n' := 0) (k' := 0) [.int 1] [] dX3_passMinutes_17 (hb_X3_fail _ hl E X Y m 0 S N a n hn 1) gX3_passMinutes_X3_fail rfl kd_X3_fail ⟨Nat.le_of_ble_eq_true rfl, Nat.le_of_ble_eq_true rfl⟩ (X.length + 0) hm_x0 rfl (Nat.le_of_ble_eq_true rfl) ⟨rfl, rfl⟩ ⟨Nat.le_of_ble_eq_true rfl, Nat.le_of_ble_eq_true rfl⟩ rfl (fun _ _ => ?_)
    exact jk_iret K hz dX3_passMinutes_20 (1, 0, S, N, a 8) rfl (Or.inr ⟨fun q => (hm_in_bt.mpr q) c_12, rfl⟩) rfl rfl (Nat.le_of_ble_eq_true rfl) (Nat.le_of_ble_eq_true rfl)
set_option maxHeartbeats 4000000 in
set_option maxRecDepth 100000 in
theorem hb_X3_burningAfter (l : Launch) (hl : l.stackTraces = false) (E : jk_T) (X Y : va_W) (m : Nat → Nat) (th : Int32) (S : Nat → Int32) (N a : Nat → Nat → Int32) (n : Nat) (hn : n ≤ 10) (x : Int32) (hso : hm_so N) : jk_Ct l yX3_burningAfter wsX3_burningAfter ({ frames := 4, cells := 0, slots := 0, locals := 91 } : Room) [.ref (m 0), .int x] E (hm_M E X Y m th (nI n) S N a) (fun u : Int32 × Int32 × (Nat → Int32) × (Nat → Int32) => some (.int u.2.1)) (fun u => (hm_M E X Y m u.1 (nI n) S N (va_up (va_up a 7 u.2.2.1) 8 u.2.2.2))) (fun u => (∃ p, 1 ≤ p ∧ p ≤ 100 ∧ x = nI p ∧ u.1 = 0 ∧ u.2.1 = hm_bu (hm_pm S N (hm_ka S N a) n p).2.1 n) ∨ (¬ hb_bt x 1 100 ∧ u.1 = 1 ∧ u.2.1 = 0)) := by
  refine jk_of (lv := [(0, .ref (m 0)), (1, .int x)]) (own := RX3) (nm := "burningAfter") hl (by decide +kernel) rfl (Nat.le_of_ble_eq_true rfl) rfl rfl rfl (fun Γ hΓ K hnm hz => ?_)
  subst hΓ
  have hin_RX3 : ∀ w ∈ u_ws RX3 TX3 11, w ∈ wsX3_burningAfter := by decide +kernel
  refine jk_aload_n K dX3_burningAfter_0 rfl 0 rfl ?_
  refine jk_iconst (x := 0) K dX3_burningAfter_1 rfl ?_
  refine jk_put (C := RX3) (T := TX3) (N := 11) (nm := "thrown") (ds := "I") (w' := (hm_M E X Y m 0 (nI n) S N a)) K dX3_burningAfter_2 hin_RX3 tyX3 tyX3_ok nmX3 (by decide +kernel) (X.length + 0) hm_x0 rfl 0 rfl (by decide) rfl rfl rfl rfl (Nat.le_of_ble_eq_true rfl) (hm_s0 rfl) ?_
  refine jk_iload_n K dX3_burningAfter_5 rfl 1 rfl ?_
  refine jk_iconst (x := 1) K dX3_burningAfter_6 rfl ?_
  refine jk_bipush (x := 100) K dX3_burningAfter_7 rfl ?_
  refine jk_cSi K (n' := 0) (k' := 0) [.int x, .int 1, .int 100] [] dX3_burningAfter_9 (hb_X3_isIn _ hl E (hm_M E X Y m 0 (nI n) S N a) x 1 100) gX3_burningAfter_X3_isIn rfl kd_X3_isIn ⟨Nat.le_of_ble_eq_true rfl, Nat.le_of_ble_eq_true rfl⟩ (Nat.le_of_ble_eq_true rfl) ⟨rfl, rfl⟩ ⟨Nat.le_of_ble_eq_true rfl, Nat.le_of_ble_eq_true rfl⟩ rfl (fun _ _ => ?_)
  refine jk_if_ne (tgt := 21) K dX3_burningAfter_12 rfl (fun c_12 => ?_) (fun c_12 => ?_)
  · obtain ⟨p, hm1, hm, rfl⟩ := hb_bt_nat (lo := 1) (hi := 100) (by decide) (by decide) (hm_in_bt.mp c_12)
    refine jk_aload_n K dX3_burningAfter_21 rfl 0 rfl ?_
    refine jk_cVv K (n' := 0) (k' := 0) [] [] dX3_burningAfter_22 (hb_X3_keep _ hl E X Y m 0 S N a n hn) gX3_burningAfter_X3_keep rfl kd_X3_keep ⟨Nat.le_of_ble_eq_true rfl, Nat.le_of_ble_eq_true rfl⟩ (X.length + 0) hm_x0 rfl (Nat.le_of_ble_eq_true rfl) ⟨rfl, rfl⟩ ⟨Nat.le_of_ble_eq_true rfl, Nat.le_of_ble_eq_true rfl⟩ rfl (fun _ _ => ?_)
    refine jk_iconst (x := 0) K dX3_burningAfter_25 rfl ?_
    refine jk_istore_n (lv' := [(2, .int 0), (0, .ref (m 0)), (1, .int (nI p))]) K dX3_burningAfter_26 rfl (by decide) rfl ?_
    have hL : ∀ j, j ≤ p → jk_J Γ E (hm_M E X Y m 0 (nI n) (hm_pm S N (hm_ka S N a) n j).1 (hm_pm S N (hm_ka S N a) n j).2.1 (va_up (hm_ka S N a) 8 (hm_pm S N (hm_ka S N a) n j).2.2)) 0 0 27 [(2, .int (nI j)), (0, .ref (m 0)), (1, .int (nI p))] [] := by
      refine jk_loop (fun j hj ih => ?_)
      refine jk_iload_n K dX3_burningAfter_27 rfl 0 rfl ?_
      refine jk_iload_n K dX3_burningAfter_28 rfl 2 rfl ?_
      refine jk_icmp_ge (tgt := 42) K dX3_burningAfter_29 rfl (fun c_29 => ?_) (fun c_29 => ?_)
      · have hjn : j = p := hb_ex (n := p) rfl (by omega) hj c_29
        refine jk_aload_n K dX3_burningAfter_42 rfl 1 rfl ?_
        refine jk_cVi K (n' := 0) (k' := 0) [] [] dX3_burningAfter_43 (hb_X3_burning _ hl E X Y m 0 (hm_pm S N (hm_ka S N a) n j).1 (hm_pm S N (hm_ka S N a) n j).2.1 (va_up (hm_ka S N a) 8 (hm_pm S N (hm_ka S N a) n j).2.2) n hn) gX3_burningAfter_X3_burning rfl kd_X3_burning ⟨Nat.le_of_ble_eq_true rfl, Nat.le_of_ble_eq_true rfl⟩ (X.length + 0) hm_x0 rfl (Nat.le_of_ble_eq_true rfl) ⟨rfl, rfl⟩ ⟨Nat.le_of_ble_eq_true rfl, Nat.le_of_ble_eq_true rfl⟩ rfl (fun _ _ => ?_)
        refine jk_istore_n (lv' := [(2, .int (hm_bu (hm_pm S N (hm_ka S N a) n j).2.1 n)), (0, .ref (m 0)), (1, .int (nI p))]) K dX3_burningAfter_46 rfl (by decide) rfl ?_
        refine jk_aload_n K dX3_burningAfter_47 rfl 1 rfl ?_
        refine jk_cVv K (n' := 0) (k' := 0) [] [] dX3_burningAfter_48 (hb_X3_bringBack _ hl E X Y m 0 (hm_pm S N (hm_ka S N a) n j).1 (hm_pm S N (hm_ka S N a) n j).2.1 (va_up (hm_ka S N a) 8 (hm_pm S N (hm_ka S N a) n j).2.2) n hn S N (fun k hk => (show hm_ka S N a 7 k = _ from (pk_cpy_in (Nat.zero_le _) (by omega)).trans (congrArg (hm_now S N) (by omega))))) gX3_burningAfter_X3_bringBack rfl kd_X3_bringBack ⟨Nat.le_of_ble_eq_true rfl, Nat.le_of_ble_eq_true rfl⟩ (X.length + 0) hm_x0 rfl (Nat.le_of_ble_eq_true rfl) ⟨rfl, rfl⟩ ⟨Nat.le_of_ble_eq_true rfl, Nat.le_of_ble_eq_true rfl⟩ rfl (fun _ _ => ?_)
        refine jk_iload_n K dX3_burningAfter_51 rfl 0 rfl ?_
        exact jk_iret K hz dX3_burningAfter_52 (0, hm_bu (hm_pm S N (hm_ka S N a) n p).2.1 n, hm_ka S N a 7, (hm_pm S N (hm_ka S N a) n p).2.2) (by rw [hjn]) (Or.inl ⟨p, hm1, hm, rfl, rfl, rfl⟩) (by rw [hjn]; rfl) rfl (Nat.le_of_ble_eq_true rfl) (Nat.le_of_ble_eq_true rfl)
      · have hlt : j < p := hb_in (n := p) rfl (by omega) hj c_29
        have hsoj : hm_so (hm_pm S N (hm_ka S N a) n j).2.1 := hm_so_pm hn hso j
        refine jk_aload_n K dX3_burningAfter_32 rfl 1 rfl ?_
        refine jk_cVv K (n' := 0) (k' := 0) [] [] dX3_burningAfter_33 (hb_X3_minuteOn _ hl E X Y m 0 (hm_pm S N (hm_ka S N a) n j).1 (hm_pm S N (hm_ka S N a) n j).2.1 (va_up (hm_ka S N a) 8 (hm_pm S N (hm_ka S N a) n j).2.2) n hn hsoj) gX3_burningAfter_X3_minuteOn rfl kd_X3_minuteOn ⟨Nat.le_of_ble_eq_true rfl, Nat.le_of_ble_eq_true rfl⟩ (X.length + 0) hm_x0 rfl (Nat.le_of_ble_eq_true rfl) ⟨rfl, rfl⟩ ⟨Nat.le_of_ble_eq_true rfl, Nat.le_of_ble_eq_true rfl⟩ rfl (fun _ _ => ?_)
        refine jk_iinc (v := (nI (j + 1))) (lv' := [(2, .int (nI (j + 1))), (0, .ref (m 0)), (1, .int (nI p))]) K dX3_burningAfter_36 0 rfl (nI_1 j) (by decide) rfl ?_
        refine jk_goto (tgt := 27) K dX3_burningAfter_39 rfl ?_
        refine jk_ws (ws' := (hm_M E X Y m 0 (nI n) (hm_pm S N (hm_ka S N a) n (j + 1)).1 (hm_pm S N (hm_ka S N a) n (j + 1)).2.1 (va_up (hm_ka S N a) 8 (hm_pm S N (hm_ka S N a) n (j + 1)).2.2))) rfl ?_
        exact ih hlt
    refine jk_lv (lv' := [(2, .int (nI 0)), (0, .ref (m 0)), (1, .int (nI p))]) (by first | rfl | (simp [c_12]; done)) ?_
    refine jk_ws (ws' := (hm_M E X Y m 0 (nI n) (hm_pm S N (hm_ka S N a) n 0).1 (hm_pm S N (hm_ka S N a) n 0).2.1 (va_up (hm_ka S N a) 8 (hm_pm S N (hm_ka S N a) n 0).2.2))) rfl ?_
    exact hL 0 (Nat.zero_le _)
  · refine jk_aload_n K dX3_burningAfter_15 rfl 0 rfl ?_
    refine jk_iconst (x := 1) K dX3_burningAfter_16 rfl ?_
    refine jk_cVi K (n' := 0) (k' := 0) [.int 1] [] dX3_burningAfter_17 (hb_X3_fail _ hl E X Y m 0 S N a n hn 1) gX3_burningAfter_X3_fail rfl kd_X3_fail ⟨Nat.le_of_ble_eq_true rfl, Nat.le_of_ble_eq_true rfl⟩ (X.length + 0) hm_x0 rfl (Nat.le_of_ble_eq_true rfl) ⟨rfl, rfl⟩ ⟨Nat.le_of_ble_eq_true rfl, Nat.le_of_ble_eq_true rfl⟩ rfl (fun _ _ => ?_)
    exact jk_iret K hz dX3_burningAfter_20 (1, 0, a 7, a 8) rfl (Or.inr ⟨fun q => (hm_in_bt.mpr q) c_12, rfl, rfl⟩) rfl rfl (Nat.le_of_ble_eq_true rfl) (Nat.le_of_ble_eq_true rfl)
set_option maxHeartbeats 4000000 in
set_option maxRecDepth 100000 in
theorem hb_X3_minutesUntilBurning (l : Launch) (hl : l.stackTraces = false) (E : jk_T) (X Y : va_W) (m : Nat → Nat) (th : Int32) (S : Nat → Int32) (N a : Nat → Nat → Int32) (n : Nat) (hn : n ≤ 10) (x : Int32) (hso : hm_so N) : jk_Ct l yX3_minutesUntilBurning wsX3_minutesUntilBurning ({ frames := 4, cells := 0, slots := 0, locals := 91 } : Room) [.ref (m 0), .int x] E (hm_M E X Y m th (nI n) S N a) (fun u : Int32 × Int32 × (Nat → Int32) × (Nat → Int32) => some (.int u.2.1)) (fun u => (hm_M E X Y m u.1 (nI n) S N (va_up (va_up a 7 u.2.2.1) 8 u.2.2.2))) (fun u => (∃ i, i < n ∧ x = nI i ∧ u.1 = 0 ∧ u.2.1 = hm_mub S N (hm_ka S N a) n i) ∨ (¬ hb_ok n x ∧ u.1 = 1 ∧ u.2.1 = 0)) := by
  refine jk_of (lv := [(0, .ref (m 0)), (1, .int x)]) (own := RX3) (nm := "minutesUntilBurning") hl (by decide +kernel) rfl (Nat.le_of_ble_eq_true rfl) rfl rfl rfl (fun Γ hΓ K hnm hz => ?_)
  subst hΓ
  have hin_RX3 : ∀ w ∈ u_ws RX3 TX3 11, w ∈ wsX3_minutesUntilBurning := by decide +kernel
  refine jk_aload_n K dX3_minutesUntilBurning_0 rfl 0 rfl ?_
  refine jk_iconst (x := 0) K dX3_minutesUntilBurning_1 rfl ?_
  refine jk_put (C := RX3) (T := TX3) (N := 11) (nm := "thrown") (ds := "I") (w' := (hm_M E X Y m 0 (nI n) S N a)) K dX3_minutesUntilBurning_2 hin_RX3 tyX3 tyX3_ok nmX3 (by decide +kernel) (X.length + 0) hm_x0 rfl 0 rfl (by decide) rfl rfl rfl rfl (Nat.le_of_ble_eq_true rfl) (hm_s0 rfl) ?_
  refine jk_aload_n K dX3_minutesUntilBurning_5 rfl 0 rfl ?_
  refine jk_iload_n K dX3_minutesUntilBurning_6 rfl 1 rfl ?_
  refine jk_cVi K (n' := 0) (k' := 0) [.int x] [] dX3_minutesUntilBurning_7 (hb_X3_isHill _ hl E X Y m 0 S N a n hn x) gX3_minutesUntilBurning_X3_isHill rfl kd_X3_isHill ⟨Nat.le_of_ble_eq_true rfl, Nat.le_of_ble_eq_true rfl⟩ (X.length + 0) hm_x0 rfl (Nat.le_of_ble_eq_true rfl) ⟨rfl, rfl⟩ ⟨Nat.le_of_ble_eq_true rfl, Nat.le_of_ble_eq_true rfl⟩ rfl (fun _ _ => ?_)
  refine jk_if_ne (tgt := 19) K dX3_minutesUntilBurning_10 rfl (fun c_10 => ?_) (fun c_10 => ?_)
  · obtain ⟨i, hi, rfl⟩ := hm_isH hn c_10
    refine jk_aload_n K dX3_minutesUntilBurning_19 rfl 0 rfl ?_
    refine jk_cVv K (n' := 0) (k' := 0) [] [] dX3_minutesUntilBurning_20 (hb_X3_keep _ hl E X Y m 0 S N a n hn) gX3_minutesUntilBurning_X3_keep rfl kd_X3_keep ⟨Nat.le_of_ble_eq_true rfl, Nat.le_of_ble_eq_true rfl⟩ (X.length + 0) hm_x0 rfl (Nat.le_of_ble_eq_true rfl) ⟨rfl, rfl⟩ ⟨Nat.le_of_ble_eq_true rfl, Nat.le_of_ble_eq_true rfl⟩ rfl (fun _ _ => ?_)
    refine jk_iconst (x := 0) K dX3_minutesUntilBurning_23 rfl ?_
    refine jk_istore_n (lv' := [(2, .int 0), (0, .ref (m 0)), (1, .int (nI i))]) K dX3_minutesUntilBurning_24 rfl (by decide) rfl ?_
    have hL : ∀ j, j ≤ 151 → (hm_mub S N (hm_ka S N a) n i) = hb_first (fun j => if (hm_pm S N (hm_ka S N a) n j).2.1 i 1 = 2 then 1 else 0) (151 - j) j → jk_J Γ E (hm_M E X Y m 0 (nI n) (hm_pm S N (hm_ka S N a) n j).1 (hm_pm S N (hm_ka S N a) n j).2.1 (va_up (hm_ka S N a) 8 (hm_pm S N (hm_ka S N a) n j).2.2)) 0 0 25 [(2, .int (nI j)), (0, .ref (m 0)), (1, .int (nI i))] [] := by
      refine jk_loop (fun j hj ih hR => ?_)
      refine jk_iload_n K dX3_minutesUntilBurning_25 rfl 0 rfl ?_
      refine jk_sipush (x := (nI 150)) K dX3_minutesUntilBurning_26 rfl ?_
      refine jk_icmp_gt (tgt := 52) K dX3_minutesUntilBurning_29 rfl (fun c_29 => ?_) (fun c_29 => ?_)
      · have hjn : j = 151 := by have h9 := (nI_ltI (a := 150) (b := j) (by omega) (by omega)).mp c_29; omega
        have hv : (hm_mub S N (hm_ka S N a) n i) = -1 := by rw [hR, hjn]; rfl
        refine jk_aload_n K dX3_minutesUntilBurning_52 rfl 1 rfl ?_
        refine jk_cVv K (n' := 0) (k' := 0) [] [] dX3_minutesUntilBurning_53 (hb_X3_bringBack _ hl E X Y m 0 (hm_pm S N (hm_ka S N a) n j).1 (hm_pm S N (hm_ka S N a) n j).2.1 (va_up (hm_ka S N a) 8 (hm_pm S N (hm_ka S N a) n j).2.2) n hn S N (fun k hk => (show hm_ka S N a 7 k = _ from (pk_cpy_in (Nat.zero_le _) (by omega)).trans (congrArg (hm_now S N) (by omega))))) gX3_minutesUntilBurning_X3_bringBack rfl kd_X3_bringBack ⟨Nat.le_of_ble_eq_true rfl, Nat.le_of_ble_eq_true rfl⟩ (X.length + 0) hm_x0 rfl (Nat.le_of_ble_eq_true rfl) ⟨rfl, rfl⟩ ⟨Nat.le_of_ble_eq_true rfl, Nat.le_of_ble_eq_true rfl⟩ rfl (fun _ _ => ?_)
        refine jk_iload_n K dX3_minutesUntilBurning_56 rfl 0 rfl ?_
        refine jk_sipush (x := (nI 150)) K dX3_minutesUntilBurning_57 rfl ?_
        refine jk_icmp_le (tgt := 67) K dX3_minutesUntilBurning_60 rfl (fun c_60 => ?_) (fun c_60 => ?_)
        · exact absurd c_60 (nI_ge (by omega) (by omega))
        · refine jk_iconst (x := (-1)) K dX3_minutesUntilBurning_63 rfl ?_
          refine jk_goto (tgt := 68) K dX3_minutesUntilBurning_64 rfl ?_
          exact jk_iret K hz dX3_minutesUntilBurning_68 (0, (hm_mub S N (hm_ka S N a) n i), hm_ka S N a 7, (hm_pm S N (hm_ka S N a) n j).2.2) (by rw [hv]) (Or.inl ⟨i, hi, rfl, rfl, rfl⟩) rfl rfl (Nat.le_of_ble_eq_true rfl) (Nat.le_of_ble_eq_true rfl)
      · have hlt : j < 151 := Nat.lt_of_not_le (fun h9 => c_29 (nI_lt (a := 150) (b := j) (by omega) (by omega)))
        have hsoj : hm_so (hm_pm S N (hm_ka S N a) n j).2.1 := hm_so_pm hn hso j
        have hs : hb_first (fun j => if (hm_pm S N (hm_ka S N a) n j).2.1 i 1 = 2 then 1 else 0) (151 - j) j = if (if (hm_pm S N (hm_ka S N a) n j).2.1 i 1 = 2 then (1 : Int32) else 0) = 0 then hb_first (fun j => if (hm_pm S N (hm_ka S N a) n j).2.1 i 1 = 2 then 1 else 0) (151 - (j + 1)) (j + 1) else nI j := by rw [show 151 - j = (151 - (j + 1)) + 1 by omega]; rfl
        refine jk_aload_n K dX3_minutesUntilBurning_32 rfl 1 rfl ?_
        refine jk_iload_n K dX3_minutesUntilBurning_33 rfl 2 rfl ?_
        refine jk_iconst (x := 1) K dX3_minutesUntilBurning_34 rfl ?_
        refine jk_cVi K (n' := 0) (k' := 0) [.int (nI i), .int (nI 1)] [] dX3_minutesUntilBurning_35 (hb_X3_hi _ hl E X Y m 0 (hm_pm S N (hm_ka S N a) n j).1 (hm_pm S N (hm_ka S N a) n j).2.1 (va_up (hm_ka S N a) 8 (hm_pm S N (hm_ka S N a) n j).2.2) n hn i 1 (Nat.lt_of_lt_of_le hi hn) (by decide)) gX3_minutesUntilBurning_X3_hi rfl kd_X3_hi ⟨Nat.le_of_ble_eq_true rfl, Nat.le_of_ble_eq_true rfl⟩ (X.length + 0) hm_x0 rfl (Nat.le_of_ble_eq_true rfl) ⟨rfl, rfl⟩ ⟨Nat.le_of_ble_eq_true rfl, Nat.le_of_ble_eq_true rfl⟩ rfl (fun _ _ => ?_)
        refine jk_iconst (x := 2) K dX3_minutesUntilBurning_38 rfl ?_
        refine jk_icmp_eq (tgt := 52) K dX3_minutesUntilBurning_39 rfl (fun c_39 => ?_) (fun c_39 => ?_)
        · have hv : (hm_mub S N (hm_ka S N a) n i) = nI j := by rw [hR, hs, if_pos c_39]; rfl
          refine jk_aload_n K dX3_minutesUntilBurning_52 rfl 1 rfl ?_
          refine jk_cVv K (n' := 0) (k' := 0) [] [] dX3_minutesUntilBurning_53 (hb_X3_bringBack _ hl E X Y m 0 (hm_pm S N (hm_ka S N a) n j).1 (hm_pm S N (hm_ka S N a) n j).2.1 (va_up (hm_ka S N a) 8 (hm_pm S N (hm_ka S N a) n j).2.2) n hn S N (fun k hk => (show hm_ka S N a 7 k = _ from (pk_cpy_in (Nat.zero_le _) (by omega)).trans (congrArg (hm_now S N) (by omega))))) gX3_minutesUntilBurning_X3_bringBack rfl kd_X3_bringBack ⟨Nat.le_of_ble_eq_true rfl, Nat.le_of_ble_eq_true rfl⟩ (X.length + 0) hm_x0 rfl (Nat.le_of_ble_eq_true rfl) ⟨rfl, rfl⟩ ⟨Nat.le_of_ble_eq_true rfl, Nat.le_of_ble_eq_true rfl⟩ rfl (fun _ _ => ?_)
          refine jk_iload_n K dX3_minutesUntilBurning_56 rfl 0 rfl ?_
          refine jk_sipush (x := (nI 150)) K dX3_minutesUntilBurning_57 rfl ?_
          refine jk_icmp_le (tgt := 67) K dX3_minutesUntilBurning_60 rfl (fun c_60 => ?_) (fun c_60 => ?_)
          · refine jk_iload_n K dX3_minutesUntilBurning_67 rfl 0 rfl ?_
            exact jk_iret K hz dX3_minutesUntilBurning_68 (0, (hm_mub S N (hm_ka S N a) n i), hm_ka S N a 7, (hm_pm S N (hm_ka S N a) n j).2.2) (by rw [hv]) (Or.inl ⟨i, hi, rfl, rfl, rfl⟩) rfl rfl (Nat.le_of_ble_eq_true rfl) (Nat.le_of_ble_eq_true rfl)
          · exact absurd (nI_le (by omega) (by decide)) c_60
        · have hR2 : (hm_mub S N (hm_ka S N a) n i) = hb_first (fun j => if (hm_pm S N (hm_ka S N a) n j).2.1 i 1 = 2 then 1 else 0) (151 - (j + 1)) (j + 1) := by rw [hR, hs, if_neg c_39]; rfl
          refine jk_aload_n K dX3_minutesUntilBurning_42 rfl 1 rfl ?_
          refine jk_cVv K (n' := 0) (k' := 0) [] [] dX3_minutesUntilBurning_43 (hb_X3_minuteOn _ hl E X Y m 0 (hm_pm S N (hm_ka S N a) n j).1 (hm_pm S N (hm_ka S N a) n j).2.1 (va_up (hm_ka S N a) 8 (hm_pm S N (hm_ka S N a) n j).2.2) n hn hsoj) gX3_minutesUntilBurning_X3_minuteOn rfl kd_X3_minuteOn ⟨Nat.le_of_ble_eq_true rfl, Nat.le_of_ble_eq_true rfl⟩ (X.length + 0) hm_x0 rfl (Nat.le_of_ble_eq_true rfl) ⟨rfl, rfl⟩ ⟨Nat.le_of_ble_eq_true rfl, Nat.le_of_ble_eq_true rfl⟩ rfl (fun _ _ => ?_)
          refine jk_iinc (v := (nI (j + 1))) (lv' := [(2, .int (nI (j + 1))), (0, .ref (m 0)), (1, .int (nI i))]) K dX3_minutesUntilBurning_46 0 rfl (nI_1 j) (by decide) rfl ?_
          refine jk_goto (tgt := 25) K dX3_minutesUntilBurning_49 rfl ?_
          refine jk_ws (ws' := (hm_M E X Y m 0 (nI n) (hm_pm S N (hm_ka S N a) n (j + 1)).1 (hm_pm S N (hm_ka S N a) n (j + 1)).2.1 (va_up (hm_ka S N a) 8 (hm_pm S N (hm_ka S N a) n (j + 1)).2.2))) rfl ?_
          exact ih hlt hR2
    refine jk_lv (lv' := [(2, .int (nI 0)), (0, .ref (m 0)), (1, .int (nI i))]) (by first | rfl | (simp [c_10]; done)) ?_
    refine jk_ws (ws' := (hm_M E X Y m 0 (nI n) (hm_pm S N (hm_ka S N a) n 0).1 (hm_pm S N (hm_ka S N a) n 0).2.1 (va_up (hm_ka S N a) 8 (hm_pm S N (hm_ka S N a) n 0).2.2))) rfl ?_
    exact hL 0 (by omega) rfl
  · have hno : ¬ hb_ok n x := hm_noH hn c_10
    refine jk_aload_n K dX3_minutesUntilBurning_13 rfl 0 rfl ?_
    refine jk_iconst (x := 1) K dX3_minutesUntilBurning_14 rfl ?_
    refine jk_cVi K (n' := 0) (k' := 0) [.int 1] [] dX3_minutesUntilBurning_15 (hb_X3_fail _ hl E X Y m 0 S N a n hn 1) gX3_minutesUntilBurning_X3_fail rfl kd_X3_fail ⟨Nat.le_of_ble_eq_true rfl, Nat.le_of_ble_eq_true rfl⟩ (X.length + 0) hm_x0 rfl (Nat.le_of_ble_eq_true rfl) ⟨rfl, rfl⟩ ⟨Nat.le_of_ble_eq_true rfl, Nat.le_of_ble_eq_true rfl⟩ rfl (fun _ _ => ?_)
    exact jk_iret K hz dX3_minutesUntilBurning_18 (1, 0, a 7, a 8) rfl (Or.inr ⟨hno, rfl, rfl⟩) rfl rfl (Nat.le_of_ble_eq_true rfl) (Nat.le_of_ble_eq_true rfl)
