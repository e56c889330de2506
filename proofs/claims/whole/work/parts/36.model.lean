theorem kd_X3_canLight : yX3_canLight.cls = RX3 ∧ yX3_canLight.cls ≠ "java/lang/invoke/MethodHandle" ∧ yX3_canLight.cls ≠ "java/lang/invoke/VarHandle" ∧ (parseMethodDescriptor yX3_canLight.desc).map (fun d => d.parameters.length) = some 1 := by decide +kernel
theorem kd_X3_lightNow : yX3_lightNow.cls = RX3 ∧ yX3_lightNow.cls ≠ "java/lang/invoke/MethodHandle" ∧ yX3_lightNow.cls ≠ "java/lang/invoke/VarHandle" ∧ (parseMethodDescriptor yX3_lightNow.desc).map (fun d => d.parameters.length) = some 1 := by decide +kernel
set_option maxHeartbeats 4000000 in
set_option maxRecDepth 100000 in
theorem hb_X3_isDark (l : Launch) (hl : l.stackTraces = false) (E : jk_T) (X Y : va_W) (m : Nat → Nat) (th : Int32) (S : Nat → Int32) (N a : Nat → Nat → Int32) (n : Nat) (hn : n ≤ 10) (x : Int32) : jk_Ct l yX3_isDark wsX3_isDark ({ frames := 3, cells := 0, slots := 0, locals := 65 } : Room) [.ref (m 0), .int x] E (hm_M E X Y m th (nI n) S N a) (fun u : Int32 × Int32 => some (.int u.2)) (fun u => (hm_M E X Y m u.1 (nI n) S N a)) (fun u => (∃ i, i < n ∧ x = nI i ∧ u = (0, if N i 1 = 0 then 1 else 0)) ∨ (¬ hb_ok n x ∧ u = (1, 0))) := by
  refine jk_of (lv := [(0, .ref (m 0)), (1, .int x)]) (own := RX3) (nm := "isDark") hl (by decide +kernel) rfl (Nat.le_of_ble_eq_true rfl) rfl rfl rfl (fun Γ hΓ K hnm hz => ?_)
  subst hΓ
  have hin_RX3 : ∀ w ∈ u_ws RX3 TX3 11, w ∈ wsX3_isDark := by decide +kernel
  refine jk_aload_n K dX3_isDark_0 rfl 0 rfl ?_
  refine jk_iload_n K dX3_isDark_1 rfl 1 rfl ?_
  refine jk_iconst (x := 1) K dX3_isDark_2 rfl ?_
  refine jk_cVi K (n' := 0) (k' := 0) [.int x, .int (nI 1)] [] dX3_isDark_3 (hb_X3_hill _ hl E X Y m th S N a n hn x 1 (by decide)) gX3_isDark_X3_hill rfl kd_X3_hill ⟨Nat.le_of_ble_eq_true rfl, Nat.le_of_ble_eq_true rfl⟩ (X.length + 0) hm_x0 rfl (Nat.le_of_ble_eq_true rfl) ⟨rfl, rfl⟩ ⟨Nat.le_of_ble_eq_true rfl, Nat.le_of_ble_eq_true rfl⟩ rfl (fun u1 hu1 => ?_)
  rcases hu1 with ⟨i, hi, rfl, rfl⟩ | ⟨hno, rfl⟩
  · refine jk_ws (ws' := (hm_M E X Y m 0 (nI n) S N a)) rfl ?_
    refine jk_st (st' := [.int (N i 1)]) rfl ?_
    refine jk_if_ne (tgt := 20) K dX3_isDark_6 rfl (fun c_6 => ?_) (fun c_6 => ?_)
    · refine jk_iconst (x := 0) K dX3_isDark_20 rfl ?_
      exact jk_iret K hz dX3_isDark_21 (0, 0) rfl (Or.inl ⟨i, hi, rfl, by rw [if_neg c_6]⟩) rfl rfl (Nat.le_of_ble_eq_true rfl) (Nat.le_of_ble_eq_true rfl)
    · refine jk_aload_n K dX3_isDark_9 rfl 0 rfl ?_
      refine jk_get (C := RX3) (T := TX3) (N := 11) (nm := "thrown") (ds := "I") (v := .int 0) K dX3_isDark_10 hin_RX3 (by decide +kernel) (X.length + 0) hm_x0 rfl 0 rfl (by decide) rfl ?_
      refine jk_if_ne (tgt := 20) K dX3_isDark_13 rfl (fun c_13 => ?_) (fun c_13 => ?_)
      · exact absurd (by decide) c_13
      · refine jk_iconst (x := 1) K dX3_isDark_16 rfl ?_
        refine jk_goto (tgt := 21) K dX3_isDark_17 rfl ?_
        exact jk_iret K hz dX3_isDark_21 (0, 1) rfl (Or.inl ⟨i, hi, rfl, by rw [if_pos c_6]⟩) rfl rfl (Nat.le_of_ble_eq_true rfl) (Nat.le_of_ble_eq_true rfl)
  · refine jk_ws (ws' := (hm_M E X Y m 1 (nI n) S N a)) rfl ?_
    refine jk_st (st' := [.int 0]) rfl ?_
    refine jk_if_ne (tgt := 20) K dX3_isDark_6 rfl (fun c_6 => ?_) (fun c_6 => ?_)
    · exact absurd (by decide) c_6
    · refine jk_aload_n K dX3_isDark_9 rfl 0 rfl ?_
      refine jk_get (C := RX3) (T := TX3) (N := 11) (nm := "thrown") (ds := "I") (v := .int 1) K dX3_isDark_10 hin_RX3 (by decide +kernel) (X.length + 0) hm_x0 rfl 0 rfl (by decide) rfl ?_
      refine jk_if_ne (tgt := 20) K dX3_isDark_13 rfl (fun c_13 => ?_) (fun c_13 => ?_)
      · refine jk_iconst (x := 0) K dX3_isDark_20 rfl ?_
        exact jk_iret K hz dX3_isDark_21 (1, 0) rfl (Or.inr ⟨hno, rfl⟩) rfl rfl (Nat.le_of_ble_eq_true rfl) (Nat.le_of_ble_eq_true rfl)
      · exact absurd c_13 (by decide)
set_option maxHeartbeats 4000000 in
set_option maxRecDepth 100000 in
theorem hb_X3_isBurning (l : Launch) (hl : l.stackTraces = false) (E : jk_T) (X Y : va_W) (m : Nat → Nat) (th : Int32) (S : Nat → Int32) (N a : Nat → Nat → Int32) (n : Nat) (hn : n ≤ 10) (x : Int32) : jk_Ct l yX3_isBurning wsX3_isBurning ({ frames := 3, cells := 0, slots := 0, locals := 65 } : Room) [.ref (m 0), .int x] E (hm_M E X Y m th (nI n) S N a) (fun u : Int32 × Int32 => some (.int u.2)) (fun u => (hm_M E X Y m u.1 (nI n) S N a)) (fun u => (∃ i, i < n ∧ x = nI i ∧ u = (0, if N i 1 = 2 then 1 else 0)) ∨ (¬ hb_ok n x ∧ u = (1, 0))) := by
  refine jk_of (lv := [(0, .ref (m 0)), (1, .int x)]) (own := RX3) (nm := "isBurning") hl (by decide +kernel) rfl (Nat.le_of_ble_eq_true rfl) rfl rfl rfl (fun Γ hΓ K hnm hz => ?_)
  subst hΓ
  refine jk_aload_n K dX3_isBurning_0 rfl 0 rfl ?_
  refine jk_iload_n K dX3_isBurning_1 rfl 1 rfl ?_
  refine jk_iconst (x := 1) K dX3_isBurning_2 rfl ?_
  refine jk_cVi K (n' := 0) (k' := 0) [.int x, .int (nI 1)] [] dX3_isBurning_3 (hb_X3_hill _ hl E X Y m th S N a n hn x 1 (by decide)) gX3_isBurning_X3_hill rfl kd_X3_hill ⟨Nat.le_of_ble_eq_true rfl, Nat.le_of_ble_eq_true rfl⟩ (X.length + 0) hm_x0 rfl (Nat.le_of_ble_eq_true rfl) ⟨rfl, rfl⟩ ⟨Nat.le_of_ble_eq_true rfl, Nat.le_of_ble_eq_true rfl⟩ rfl (fun u1 hu1 => ?_)
  rcases hu1 with ⟨i, hi, rfl, rfl⟩ | ⟨hno, rfl⟩
  · refine jk_ws (ws' := (hm_M E X Y m 0 (nI n) S N a)) rfl ?_
    refine jk_st (st' := [.int (N i 1)]) rfl ?_
    refine jk_iconst (x := 2) K dX3_isBurning_6 rfl ?_
    refine jk_icmp_ne (tgt := 14) K dX3_isBurning_7 rfl (fun c_7 => ?_) (fun c_7 => ?_)
    · refine jk_iconst (x := 0) K dX3_isBurning_14 rfl ?_
      exact jk_iret K hz dX3_isBurning_15 (0, 0) rfl (Or.inl ⟨i, hi, rfl, by rw [if_neg c_7]⟩) rfl rfl (Nat.le_of_ble_eq_true rfl) (Nat.le_of_ble_eq_true rfl)
    · refine jk_iconst (x := 1) K dX3_isBurning_10 rfl ?_
      refine jk_goto (tgt := 15) K dX3_isBurning_11 rfl ?_
      exact jk_iret K hz dX3_isBurning_15 (0, 1) rfl (Or.inl ⟨i, hi, rfl, by rw [if_pos c_7]⟩) rfl rfl (Nat.le_of_ble_eq_true rfl) (Nat.le_of_ble_eq_true rfl)
  · refine jk_ws (ws' := (hm_M E X Y m 1 (nI n) S N a)) rfl ?_
    refine jk_st (st' := [.int 0]) rfl ?_
    refine jk_iconst (x := 2) K dX3_isBurning_6 rfl ?_
    refine jk_icmp_ne (tgt := 14) K dX3_isBurning_7 rfl (fun c_7 => ?_) (fun c_7 => ?_)
    · refine jk_iconst (x := 0) K dX3_isBurning_14 rfl ?_
      exact jk_iret K hz dX3_isBurning_15 (1, 0) rfl (Or.inr ⟨hno, rfl⟩) rfl rfl (Nat.le_of_ble_eq_true rfl) (Nat.le_of_ble_eq_true rfl)
    · exact absurd c_7 (by decide)
set_option maxHeartbeats 4000000 in
set_option maxRecDepth 100000 in
theorem hb_X3_sourceOf (l : Launch) (hl : l.stackTraces = false) (E : jk_T) (X Y : va_W) (m : Nat → Nat) (th : Int32) (S : Nat → Int32) (N a : Nat → Nat → Int32) (n : Nat) (hn : n ≤ 10) (x : Int32) : jk_Ct l yX3_sourceOf wsX3_sourceOf ({ frames := 2, cells := 0, slots := 0, locals := 43 } : Room) [.ref (m 0), .int x] E (hm_M E X Y m th (nI n) S N a) (fun u : Int32 × Int32 => some (.int u.2)) (fun u => (hm_M E X Y m u.1 (nI n) S N a)) (fun u => (∃ i, i < n ∧ x = nI i ∧ ¬ N i 1 = 0 ∧ u = (0, N i 4)) ∨ (∃ i, i < n ∧ x = nI i ∧ N i 1 = 0 ∧ u = (2, 0)) ∨ (¬ hb_ok n x ∧ u = (1, 0))) := by
  refine jk_of (lv := [(0, .ref (m 0)), (1, .int x)]) (own := RX3) (nm := "sourceOf") hl (by decide +kernel) rfl (Nat.le_of_ble_eq_true rfl) rfl rfl rfl (fun Γ hΓ K hnm hz => ?_)
  subst hΓ
  have hin_RX3 : ∀ w ∈ u_ws RX3 TX3 11, w ∈ wsX3_sourceOf := by decide +kernel
  refine jk_aload_n K dX3_sourceOf_0 rfl 0 rfl ?_
  refine jk_iconst (x := 0) K dX3_sourceOf_1 rfl ?_
  refine jk_put (C := RX3) (T := TX3) (N := 11) (nm := "thrown") (ds := "I") (w' := (hm_M E X Y m 0 (nI n) S N a)) K dX3_sourceOf_2 hin_RX3 tyX3 tyX3_ok nmX3 (by decide +kernel) (X.length + 0) hm_x0 rfl 0 rfl (by decide) rfl rfl rfl rfl (Nat.le_of_ble_eq_true rfl) (hm_s0 rfl) ?_
  refine jk_aload_n K dX3_sourceOf_5 rfl 0 rfl ?_
  refine jk_iload_n K dX3_sourceOf_6 rfl 1 rfl ?_
  refine jk_cVi K (n' := 0) (k' := 0) [.int x] [] dX3_sourceOf_7 (hb_X3_isHill _ hl E X Y m 0 S N a n hn x) gX3_sourceOf_X3_isHill rfl kd_X3_isHill ⟨Nat.le_of_ble_eq_true rfl, Nat.le_of_ble_eq_true rfl⟩ (X.length + 0) hm_x0 rfl (Nat.le_of_ble_eq_true rfl) ⟨rfl, rfl⟩ ⟨Nat.le_of_ble_eq_true rfl, Nat.le_of_ble_eq_true rfl⟩ rfl (fun _ _ => ?_)
  refine jk_if_ne (tgt := 19) K dX3_sourceOf_10 rfl (fun c_10 => ?_) (fun c_10 => ?_)
  · obtain ⟨i, hi, rfl⟩ := hm_isH hn c_10
    refine jk_aload_n K dX3_sourceOf_19 rfl 0 rfl ?_
    refine jk_iload_n K dX3_sourceOf_20 rfl 1 rfl ?_
    refine jk_iconst (x := 1) K dX3_sourceOf_21 rfl ?_
    refine jk_cVi K (n' := 0) (k' := 0) [.int (nI i), .int (nI 1)] [] dX3_sourceOf_22 (hb_X3_hi _ hl E X Y m 0 S N a n hn i 1 (Nat.lt_of_lt_of_le hi hn) (by decide)) gX3_sourceOf_X3_hi rfl kd_X3_hi ⟨Nat.le_of_ble_eq_true rfl, Nat.le_of_ble_eq_true rfl⟩ (X.length + 0) hm_x0 rfl (Nat.le_of_ble_eq_true rfl) ⟨rfl, rfl⟩ ⟨Nat.le_of_ble_eq_true rfl, Nat.le_of_ble_eq_true rfl⟩ rfl (fun _ _ => ?_)
    refine jk_if_ne (tgt := 36) K dX3_sourceOf_25 rfl (fun c_25 => ?_) (fun c_25 => ?_)
    · refine jk_aload_n K dX3_sourceOf_36 rfl 0 rfl ?_
      refine jk_iload_n K dX3_sourceOf_37 rfl 1 rfl ?_
      refine jk_iconst (x := 4) K dX3_sourceOf_38 rfl ?_
      refine jk_cVi K (n' := 0) (k' := 0) [.int (nI i), .int (nI 4)] [] dX3_sourceOf_39 (hb_X3_hi _ hl E X Y m 0 S N a n hn i 4 (Nat.lt_of_lt_of_le hi hn) (by decide)) gX3_sourceOf_X3_hi rfl kd_X3_hi ⟨Nat.le_of_ble_eq_true rfl, Nat.le_of_ble_eq_true rfl⟩ (X.length + 0) hm_x0 rfl (Nat.le_of_ble_eq_true rfl) ⟨rfl, rfl⟩ ⟨Nat.le_of_ble_eq_true rfl, Nat.le_of_ble_eq_true rfl⟩ rfl (fun _ _ => ?_)
      exact jk_iret K hz dX3_sourceOf_42 (0, N i 4) rfl (Or.inl ⟨i, hi, rfl, c_25, rfl⟩) rfl rfl (Nat.le_of_ble_eq_true rfl) (Nat.le_of_ble_eq_true rfl)
    · refine jk_aload_n K dX3_sourceOf_28 rfl 0 rfl ?_
      refine jk_iconst (x := 2) K dX3_sourceOf_29 rfl ?_
      refine jk_cVi K (n' := 0) (k' := 0) [.int 2] [] dX3_sourceOf_30 (hb_X3_fail _ hl E X Y m 0 S N a n hn 2) gX3_sourceOf_X3_fail rfl kd_X3_fail ⟨Nat.le_of_ble_eq_true rfl, Nat.le_of_ble_eq_true rfl⟩ (X.length + 0) hm_x0 rfl (Nat.le_of_ble_eq_true rfl) ⟨rfl, rfl⟩ ⟨Nat.le_of_ble_eq_true rfl, Nat.le_of_ble_eq_true rfl⟩ rfl (fun _ _ => ?_)
      refine jk_goto (tgt := 42) K dX3_sourceOf_33 rfl ?_
      exact jk_iret K hz dX3_sourceOf_42 (2, 0) rfl (Or.inr (Or.inl ⟨i, hi, rfl, c_25, rfl⟩)) rfl rfl (Nat.le_of_ble_eq_true rfl) (Nat.le_of_ble_eq_true rfl)
  · have hno : ¬ hb_ok n x := hm_noH hn c_10
    refine jk_aload_n K dX3_sourceOf_13 rfl 0 rfl ?_
    refine jk_iconst (x := 1) K dX3_sourceOf_14 rfl ?_
    refine jk_cVi K (n' := 0) (k' := 0) [.int 1] [] dX3_sourceOf_15 (hb_X3_fail _ hl E X Y m 0 S N a n hn 1) gX3_sourceOf_X3_fail rfl kd_X3_fail ⟨Nat.le_of_ble_eq_true rfl, Nat.le_of_ble_eq_true rfl⟩ (X.length + 0) hm_x0 rfl (Nat.le_of_ble_eq_true rfl) ⟨rfl, rfl⟩ ⟨Nat.le_of_ble_eq_true rfl, Nat.le_of_ble_eq_true rfl⟩ rfl (fun _ _ => ?_)
    exact jk_iret K hz dX3_sourceOf_18 (1, 0) rfl (Or.inr (Or.inr ⟨hno, rfl⟩)) rfl rfl (Nat.le_of_ble_eq_true rfl) (Nat.le_of_ble_eq_true rfl)
set_option maxHeartbeats 4000000 in
set_option maxRecDepth 100000 in
theorem hb_X3_isMistaken (l : Launch) (hl : l.stackTraces = false) (E : jk_T) (X Y : va_W) (m : Nat → Nat) (th : Int32) (S : Nat → Int32) (N a : Nat → Nat → Int32) (n : Nat) (hn : n ≤ 10) (x : Int32) : jk_Ct l yX3_isMistaken wsX3_isMistaken ({ frames := 2, cells := 0, slots := 0, locals := 43 } : Room) [.ref (m 0), .int x] E (hm_M E X Y m th (nI n) S N a) (fun u : Int32 × Int32 => some (.int u.2)) (fun u => (hm_M E X Y m u.1 (nI n) S N a)) (fun u => (∃ i, i < n ∧ x = nI i ∧ u = (0, if N i 1 = 0 then 0 else if N i 4 = -1 then 1 else 0)) ∨ (¬ hb_ok n x ∧ u = (1, 0))) := by
  refine jk_of (lv := [(0, .ref (m 0)), (1, .int x)]) (own := RX3) (nm := "isMistaken") hl (by decide +kernel) rfl (Nat.le_of_ble_eq_true rfl) rfl rfl rfl (fun Γ hΓ K hnm hz => ?_)
  subst hΓ
  have hin_RX3 : ∀ w ∈ u_ws RX3 TX3 11, w ∈ wsX3_isMistaken := by decide +kernel
  refine jk_aload_n K dX3_isMistaken_0 rfl 0 rfl ?_
  refine jk_iconst (x := 0) K dX3_isMistaken_1 rfl ?_
  refine jk_put (C := RX3) (T := TX3) (N := 11) (nm := "thrown") (ds := "I") (w' := (hm_M E X Y m 0 (nI n) S N a)) K dX3_isMistaken_2 hin_RX3 tyX3 tyX3_ok nmX3 (by decide +kernel) (X.length + 0) hm_x0 rfl 0 rfl (by decide) rfl rfl rfl rfl (Nat.le_of_ble_eq_true rfl) (hm_s0 rfl) ?_
  refine jk_aload_n K dX3_isMistaken_5 rfl 0 rfl ?_
  refine jk_iload_n K dX3_isMistaken_6 rfl 1 rfl ?_
  refine jk_cVi K (n' := 0) (k' := 0) [.int x] [] dX3_isMistaken_7 (hb_X3_isHill _ hl E X Y m 0 S N a n hn x) gX3_isMistaken_X3_isHill rfl kd_X3_isHill ⟨Nat.le_of_ble_eq_true rfl, Nat.le_of_ble_eq_true rfl⟩ (X.length + 0) hm_x0 rfl (Nat.le_of_ble_eq_true rfl) ⟨rfl, rfl⟩ ⟨Nat.le_of_ble_eq_true rfl, Nat.le_of_ble_eq_true rfl⟩ rfl (fun _ _ => ?_)
  refine jk_if_eq (tgt := 40) K dX3_isMistaken_10 rfl (fun c_10 => ?_) (fun c_10 => ?_)
  · have hno : ¬ hb_ok n x := hm_noH hn c_10
    refine jk_aload_n K dX3_isMistaken_40 rfl 0 rfl ?_
    refine jk_iconst (x := 1) K dX3_isMistaken_41 rfl ?_
    refine jk_cVi K (n' := 0) (k' := 0) [.int 1] [] dX3_isMistaken_42 (hb_X3_failed _ hl E X Y m 0 S N a n hn 1) gX3_isMistaken_X3_failed rfl kd_X3_failed ⟨Nat.le_of_ble_eq_true rfl, Nat.le_of_ble_eq_true rfl⟩ (X.length + 0) hm_x0 rfl (Nat.le_of_ble_eq_true rfl) ⟨rfl, rfl⟩ ⟨Nat.le_of_ble_eq_true rfl, Nat.le_of_ble_eq_true rfl⟩ rfl (fun _ _ => ?_)
    exact jk_iret K hz dX3_isMistaken_45 (1, 0) rfl (Or.inr ⟨hno, rfl⟩) rfl rfl (Nat.le_of_ble_eq_true rfl) (Nat.le_of_ble_eq_true rfl)
  · obtain ⟨i, hi, rfl⟩ := hm_isH hn c_10
    refine jk_aload_n K dX3_isMistaken_13 rfl 0 rfl ?_
    refine jk_iload_n K dX3_isMistaken_14 rfl 1 rfl ?_
    refine jk_iconst (x := 1) K dX3_isMistaken_15 rfl ?_
    refine jk_cVi K (n' := 0) (k' := 0) [.int (nI i), .int (nI 1)] [] dX3_isMistaken_16 (hb_X3_hi _ hl E X Y m 0 S N a n hn i 1 (Nat.lt_of_lt_of_le hi hn) (by decide)) gX3_isMistaken_X3_hi rfl kd_X3_hi ⟨Nat.le_of_ble_eq_true rfl, Nat.le_of_ble_eq_true rfl⟩ (X.length + 0) hm_x0 rfl (Nat.le_of_ble_eq_true rfl) ⟨rfl, rfl⟩ ⟨Nat.le_of_ble_eq_true rfl, Nat.le_of_ble_eq_true rfl⟩ rfl (fun _ _ => ?_)
    refine jk_if_eq (tgt := 36) K dX3_isMistaken_19 rfl (fun c_19 => ?_) (fun c_19 => ?_)
    · refine jk_iconst (x := 0) K dX3_isMistaken_36 rfl ?_
      refine jk_goto (tgt := 45) K dX3_isMistaken_37 rfl ?_
      exact jk_iret K hz dX3_isMistaken_45 (0, 0) rfl (Or.inl ⟨i, hi, rfl, by rw [if_pos c_19]⟩) rfl rfl (Nat.le_of_ble_eq_true rfl) (Nat.le_of_ble_eq_true rfl)
    · refine jk_aload_n K dX3_isMistaken_22 rfl 0 rfl ?_
      refine jk_iload_n K dX3_isMistaken_23 rfl 1 rfl ?_
      refine jk_iconst (x := 4) K dX3_isMistaken_24 rfl ?_
      refine jk_cVi K (n' := 0) (k' := 0) [.int (nI i), .int (nI 4)] [] dX3_isMistaken_25 (hb_X3_hi _ hl E X Y m 0 S N a n hn i 4 (Nat.lt_of_lt_of_le hi hn) (by decide)) gX3_isMistaken_X3_hi rfl kd_X3_hi ⟨Nat.le_of_ble_eq_true rfl, Nat.le_of_ble_eq_true rfl⟩ (X.length + 0) hm_x0 rfl (Nat.le_of_ble_eq_true rfl) ⟨rfl, rfl⟩ ⟨Nat.le_of_ble_eq_true rfl, Nat.le_of_ble_eq_true rfl⟩ rfl (fun _ _ => ?_)
      refine jk_iconst (x := (-1)) K dX3_isMistaken_28 rfl ?_
      refine jk_icmp_ne (tgt := 36) K dX3_isMistaken_29 rfl (fun c_29 => ?_) (fun c_29 => ?_)
      · refine jk_iconst (x := 0) K dX3_isMistaken_36 rfl ?_
        refine jk_goto (tgt := 45) K dX3_isMistaken_37 rfl ?_
        exact jk_iret K hz dX3_isMistaken_45 (0, 0) rfl (Or.inl ⟨i, hi, rfl, by rw [if_neg c_19, if_neg c_29]⟩) rfl rfl (Nat.le_of_ble_eq_true rfl) (Nat.le_of_ble_eq_true rfl)
      · refine jk_iconst (x := 1) K dX3_isMistaken_32 rfl ?_
        refine jk_goto (tgt := 45) K dX3_isMistaken_33 rfl ?_
        exact jk_iret K hz dX3_isMistaken_45 (0, 1) rfl (Or.inl ⟨i, hi, rfl, by rw [if_neg c_19, if_pos c_29]⟩) rfl rfl (Nat.le_of_ble_eq_true rfl) (Nat.le_of_ble_eq_true rfl)
set_option maxHeartbeats 4000000 in
set_option maxRecDepth 100000 in
theorem hb_X3_canLight (l : Launch) (hl : l.stackTraces = false) (E : jk_T) (X Y : va_W) (m : Nat → Nat) (th : Int32) (S : Nat → Int32) (N a : Nat → Nat → Int32) (n : Nat) (hn : n ≤ 10) (x : Int32) : jk_Ct l yX3_canLight wsX3_canLight ({ frames := 2, cells := 0, slots := 0, locals := 43 } : Room) [.ref (m 0), .int x] E (hm_M E X Y m th (nI n) S N a) (fun u : Int32 × Int32 => some (.int u.2)) (fun u => (hm_M E X Y m u.1 (nI n) S N a)) (fun u => (∃ i, i < n ∧ x = nI i ∧ (N i 1 = 0 ∧ 0 < N i 0) ∧ u = (0, 1)) ∨ (∃ i, i < n ∧ x = nI i ∧ ¬ (N i 1 = 0 ∧ 0 < N i 0) ∧ u = (2, 0)) ∨ (¬ hb_ok n x ∧ u = (1, 0))) := by
  refine jk_of (lv := [(0, .ref (m 0)), (1, .int x)]) (own := RX3) (nm := "canLight") hl (by decide +kernel) rfl (Nat.le_of_ble_eq_true rfl) rfl rfl rfl (fun Γ hΓ K hnm hz => ?_)
  subst hΓ
  have hin_RX3 : ∀ w ∈ u_ws RX3 TX3 11, w ∈ wsX3_canLight := by decide +kernel
  refine jk_aload_n K dX3_canLight_0 rfl 0 rfl ?_
  refine jk_aload_n K dX3_canLight_1 rfl 0 rfl ?_
  refine jk_iload_n K dX3_canLight_2 rfl 1 rfl ?_
  refine jk_cVi K (n' := 0) (k' := 0) [.int x] [.ref (m 0)] dX3_canLight_3 (hb_X3_isHill _ hl E X Y m th S N a n hn x) gX3_canLight_X3_isHill rfl kd_X3_isHill ⟨Nat.le_of_ble_eq_true rfl, Nat.le_of_ble_eq_true rfl⟩ (X.length + 0) hm_x0 rfl (Nat.le_of_ble_eq_true rfl) ⟨rfl, rfl⟩ ⟨Nat.le_of_ble_eq_true rfl, Nat.le_of_ble_eq_true rfl⟩ rfl (fun _ _ => ?_)
  refine jk_if_ne (tgt := 13) K dX3_canLight_6 rfl (fun c_6 => ?_) (fun c_6 => ?_)
  · obtain ⟨i, hi, rfl⟩ := hm_isH hn c_6
    refine jk_aload_n K dX3_canLight_13 rfl 0 rfl ?_
    refine jk_iload_n K dX3_canLight_14 rfl 1 rfl ?_
    refine jk_iconst (x := 1) K dX3_canLight_15 rfl ?_
    refine jk_cVi K (n' := 0) (k' := 0) [.int (nI i), .int (nI 1)] [.ref (m 0)] dX3_canLight_16 (hb_X3_hi _ hl E X Y m th S N a n hn i 1 (Nat.lt_of_lt_of_le hi hn) (by decide)) gX3_canLight_X3_hi rfl kd_X3_hi ⟨Nat.le_of_ble_eq_true rfl, Nat.le_of_ble_eq_true rfl⟩ (X.length + 0) hm_x0 rfl (Nat.le_of_ble_eq_true rfl) ⟨rfl, rfl⟩ ⟨Nat.le_of_ble_eq_true rfl, Nat.le_of_ble_eq_true rfl⟩ rfl (fun _ _ => ?_)
    refine jk_if_ne (tgt := 35) K dX3_canLight_19 rfl (fun c_19 => ?_) (fun c_19 => ?_)
    · refine jk_iconst (x := 2) K dX3_canLight_35 rfl ?_
      refine jk_put (C := RX3) (T := TX3) (N := 11) (nm := "thrown") (ds := "I") (w' := (hm_M E X Y m 2 (nI n) S N a)) K dX3_canLight_36 hin_RX3 tyX3 tyX3_ok nmX3 (by decide +kernel) (X.length + 0) hm_x0 rfl 0 rfl (by decide) rfl rfl rfl rfl (Nat.le_of_ble_eq_true rfl) (hm_s0 rfl) ?_
      refine jk_aload_n K dX3_canLight_39 rfl 0 rfl ?_
      refine jk_get (C := RX3) (T := TX3) (N := 11) (nm := "thrown") (ds := "I") (v := .int 2) K dX3_canLight_40 hin_RX3 (by decide +kernel) (X.length + 0) hm_x0 rfl 0 rfl (by decide) rfl ?_
      refine jk_if_ne (tgt := 50) K dX3_canLight_43 rfl (fun c_43 => ?_) (fun c_43 => ?_)
      · refine jk_iconst (x := 0) K dX3_canLight_50 rfl ?_
        exact jk_iret K hz dX3_canLight_51 (2, 0) rfl (Or.inr (Or.inl ⟨i, hi, rfl, fun q => c_19 q.1, rfl⟩)) rfl rfl (Nat.le_of_ble_eq_true rfl) (Nat.le_of_ble_eq_true rfl)
      · exact absurd c_43 (by decide)
    · refine jk_aload_n K dX3_canLight_22 rfl 0 rfl ?_
      refine jk_iload_n K dX3_canLight_23 rfl 1 rfl ?_
      refine jk_iconst (x := 0) K dX3_canLight_24 rfl ?_
      refine jk_cVi K (n' := 0) (k' := 0) [.int (nI i), .int (nI 0)] [.ref (m 0)] dX3_canLight_25 (hb_X3_hi _ hl E X Y m th S N a n hn i 0 (Nat.lt_of_lt_of_le hi hn) (by decide)) gX3_canLight_X3_hi rfl kd_X3_hi ⟨Nat.le_of_ble_eq_true rfl, Nat.le_of_ble_eq_true rfl⟩ (X.length + 0) hm_x0 rfl (Nat.le_of_ble_eq_true rfl) ⟨rfl, rfl⟩ ⟨Nat.le_of_ble_eq_true rfl, Nat.le_of_ble_eq_true rfl⟩ rfl (fun _ _ => ?_)
      refine jk_if_le (tgt := 35) K dX3_canLight_28 rfl (fun c_28 => ?_) (fun c_28 => ?_)
      · refine jk_iconst (x := 2) K dX3_canLight_35 rfl ?_
        refine jk_put (C := RX3) (T := TX3) (N := 11) (nm := "thrown") (ds := "I") (w' := (hm_M E X Y m 2 (nI n) S N a)) K dX3_canLight_36 hin_RX3 tyX3 tyX3_ok nmX3 (by decide +kernel) (X.length + 0) hm_x0 rfl 0 rfl (by decide) rfl rfl rfl rfl (Nat.le_of_ble_eq_true rfl) (hm_s0 rfl) ?_
        refine jk_aload_n K dX3_canLight_39 rfl 0 rfl ?_
        refine jk_get (C := RX3) (T := TX3) (N := 11) (nm := "thrown") (ds := "I") (v := .int 2) K dX3_canLight_40 hin_RX3 (by decide +kernel) (X.length + 0) hm_x0 rfl 0 rfl (by decide) rfl ?_
        refine jk_if_ne (tgt := 50) K dX3_canLight_43 rfl (fun c_43 => ?_) (fun c_43 => ?_)
        · refine jk_iconst (x := 0) K dX3_canLight_50 rfl ?_
          exact jk_iret K hz dX3_canLight_51 (2, 0) rfl (Or.inr (Or.inl ⟨i, hi, rfl, fun q => absurd q.2 (Int32.not_lt.mpr c_28), rfl⟩)) rfl rfl (Nat.le_of_ble_eq_true rfl) (Nat.le_of_ble_eq_true rfl)
        · exact absurd c_43 (by decide)
      · refine jk_iconst (x := 0) K dX3_canLight_31 rfl ?_
        refine jk_goto (tgt := 36) K dX3_canLight_32 rfl ?_
        refine jk_put (C := RX3) (T := TX3) (N := 11) (nm := "thrown") (ds := "I") (w' := (hm_M E X Y m 0 (nI n) S N a)) K dX3_canLight_36 hin_RX3 tyX3 tyX3_ok nmX3 (by decide +kernel) (X.length + 0) hm_x0 rfl 0 rfl (by decide) rfl rfl rfl rfl (Nat.le_of_ble_eq_true rfl) (hm_s0 rfl) ?_
        refine jk_aload_n K dX3_canLight_39 rfl 0 rfl ?_
        refine jk_get (C := RX3) (T := TX3) (N := 11) (nm := "thrown") (ds := "I") (v := .int 0) K dX3_canLight_40 hin_RX3 (by decide +kernel) (X.length + 0) hm_x0 rfl 0 rfl (by decide) rfl ?_
        refine jk_if_ne (tgt := 50) K dX3_canLight_43 rfl (fun c_43 => ?_) (fun c_43 => ?_)
        · exact absurd (by decide) c_43
        · refine jk_iconst (x := 1) K dX3_canLight_46 rfl ?_
          refine jk_goto (tgt := 51) K dX3_canLight_47 rfl ?_
          exact jk_iret K hz dX3_canLight_51 (0, 1) rfl (Or.inl ⟨i, hi, rfl, ⟨c_19, Int32.not_le.mp c_28⟩, rfl⟩) rfl rfl (Nat.le_of_ble_eq_true rfl) (Nat.le_of_ble_eq_true rfl)
  · have hno : ¬ hb_ok n x := hm_noH hn c_6
    refine jk_iconst (x := 1) K dX3_canLight_9 rfl ?_
    refine jk_goto (tgt := 36) K dX3_canLight_10 rfl ?_
    refine jk_put (C := RX3) (T := TX3) (N := 11) (nm := "thrown") (ds := "I") (w' := (hm_M E X Y m 1 (nI n) S N a)) K dX3_canLight_36 hin_RX3 tyX3 tyX3_ok nmX3 (by decide +kernel) (X.length + 0) hm_x0 rfl 0 rfl (by decide) rfl rfl rfl rfl (Nat.le_of_ble_eq_true rfl) (hm_s0 rfl) ?_
    refine jk_aload_n K dX3_canLight_39 rfl 0 rfl ?_
    refine jk_get (C := RX3) (T := TX3) (N := 11) (nm := "thrown") (ds := "I") (v := .int 1) K dX3_canLight_40 hin_RX3 (by decide +kernel) (X.length + 0) hm_x0 rfl 0 rfl (by decide) rfl ?_
    refine jk_if_ne (tgt := 50) K dX3_canLight_43 rfl (fun c_43 => ?_) (fun c_43 => ?_)
    · refine jk_iconst (x := 0) K dX3_canLight_50 rfl ?_
      exact jk_iret K hz dX3_canLight_51 (1, 0) rfl (Or.inr (Or.inr ⟨hno, rfl⟩)) rfl rfl (Nat.le_of_ble_eq_true rfl) (Nat.le_of_ble_eq_true rfl)
    · exact absurd c_43 (by decide)
set_option maxHeartbeats 4000000 in
set_option maxRecDepth 100000 in
theorem hb_X3_lightNow (l : Launch) (hl : l.stackTraces = false) (E : jk_T) (X Y : va_W) (m : Nat → Nat) (th : Int32) (S : Nat → Int32) (N a : Nat → Nat → Int32) (n : Nat) (hn : n ≤ 10) (i : Nat) (hi : i < 10) : jk_fn l yX3_lightNow wsX3_lightNow ({ frames := 2, cells := 0, slots := 0, locals := 45 } : Room) [.ref (m 0), .int (nI i)] E (hm_M E X Y m th (nI n) S N a) (some (.int (N i 6 + 1))) (hm_M E X Y m th (nI n) (hm_kS S (nI i)) (hm_lN N i) a) := by
  refine jk_of (lv := [(0, .ref (m 0)), (1, .int (nI i))]) (own := RX3) (nm := "lightNow") hl (by decide +kernel) rfl (Nat.le_of_ble_eq_true rfl) rfl rfl rfl (fun Γ hΓ K hnm hz => ?_)
  subst hΓ
  refine jk_aload_n K dX3_lightNow_0 rfl 0 rfl ?_
  refine jk_iload_n K dX3_lightNow_1 rfl 1 rfl ?_
  refine jk_iconst (x := 5) K dX3_lightNow_2 rfl ?_
  refine jk_iconst (x := 0) K dX3_lightNow_3 rfl ?_
  refine jk_cVv K (n' := 0) (k' := 0) [.int (nI i), .int (nI 5), .int 0] [] dX3_lightNow_4 (hb_X3_let _ hl E X Y m th S N a n hn i 5 hi (by decide) 0) gX3_lightNow_X3_let rfl kd_X3_let ⟨Nat.le_of_ble_eq_true rfl, Nat.le_of_ble_eq_true rfl⟩ (X.length + 0) hm_x0 rfl (Nat.le_of_ble_eq_true rfl) ⟨rfl, rfl⟩ ⟨Nat.le_of_ble_eq_true rfl, Nat.le_of_ble_eq_true rfl⟩ rfl (fun _ _ => ?_)
  refine jk_aload_n K dX3_lightNow_7 rfl 0 rfl ?_
  refine jk_iload_n K dX3_lightNow_8 rfl 1 rfl ?_
  refine jk_iload_n K dX3_lightNow_9 rfl 1 rfl ?_
  refine jk_cVi K (n' := 0) (k' := 0) [.int (nI i), .int (nI i)] [] dX3_lightNow_10 (hb_X3_kindle _ hl E X Y m th S (va_up N i (hb_fu (N i) 5 0)) a n hn i hi (nI i)) gX3_lightNow_X3_kindle rfl kd_X3_kindle ⟨Nat.le_of_ble_eq_true rfl, Nat.le_of_ble_eq_true rfl⟩ (X.length + 0) hm_x0 rfl (Nat.le_of_ble_eq_true rfl) ⟨rfl, rfl⟩ ⟨Nat.le_of_ble_eq_true rfl, Nat.le_of_ble_eq_true rfl⟩ rfl (fun _ _ => ?_)
  refine jk_ws (ws' := (hm_M E X Y m th (nI n) (hm_kS S (nI i)) (va_up N i (hm_kF (hb_fu (N i) 5 0) (nI i))) a)) (by rw [va_up_self, hb_up_up]) ?_
  exact jk_iret K hz dX3_lightNow_13 () (by rw [va_up_self] <;> rfl) trivial rfl rfl (Nat.le_of_ble_eq_true rfl) (Nat.le_of_ble_eq_true rfl)
set_option maxHeartbeats 4000000 in
set_option maxRecDepth 100000 in
theorem hb_X3_light (l : Launch) (hl : l.stackTraces = false) (E : jk_T) (X Y : va_W) (m : Nat → Nat) (th : Int32) (S : Nat → Int32) (N a : Nat → Nat → Int32) (n : Nat) (hn : n ≤ 10) (x : Int32) : jk_Ct l yX3_light wsX3_light ({ frames := 3, cells := 0, slots := 0, locals := 66 } : Room) [.ref (m 0), .int x] E (hm_M E X Y m th (nI n) S N a) (fun u : Int32 × Int32 × (Nat → Int32) × (Nat → Nat → Int32) => some (.int u.2.1)) (fun u => (hm_M E X Y m u.1 (nI n) u.2.2.1 u.2.2.2 a)) (fun u => (∃ i, i < n ∧ x = nI i ∧ (N i 1 = 0 ∧ 0 < N i 0) ∧ u = (0, N i 6 + 1, hm_kS S (nI i), hm_lN N i)) ∨ (∃ i, i < n ∧ x = nI i ∧ ¬ (N i 1 = 0 ∧ 0 < N i 0) ∧ u = (2, 0, S, N)) ∨ (¬ hb_ok n x ∧ u = (1, 0, S, N))) := by
  refine jk_of (lv := [(0, .ref (m 0)), (1, .int x)]) (own := RX3) (nm := "light") hl (by decide +kernel) rfl (Nat.le_of_ble_eq_true rfl) rfl rfl rfl (fun Γ hΓ K hnm hz => ?_)
  subst hΓ
  refine jk_aload_n K dX3_light_0 rfl 0 rfl ?_
  refine jk_iload_n K dX3_light_1 rfl 1 rfl ?_
  refine jk_cVi K (n' := 0) (k' := 0) [.int x] [] dX3_light_2 (hb_X3_canLight _ hl E X Y m th S N a n hn x) gX3_light_X3_canLight rfl kd_X3_canLight ⟨Nat.le_of_ble_eq_true rfl, Nat.le_of_ble_eq_true rfl⟩ (X.length + 0) hm_x0 rfl (Nat.le_of_ble_eq_true rfl) ⟨rfl, rfl⟩ ⟨Nat.le_of_ble_eq_true rfl, Nat.le_of_ble_eq_true rfl⟩ rfl (fun u1 hu1 => ?_)
  rcases hu1 with ⟨i, hi, rfl, hcl, rfl⟩ | ⟨i, hi, rfl, hcl, rfl⟩ | ⟨hno, rfl⟩
  · refine jk_ws (ws' := (hm_M E X Y m 0 (nI n) S N a)) rfl ?_
    refine jk_st (st' := [.int 1]) rfl ?_
    refine jk_if_eq (tgt := 16) K dX3_light_5 rfl (fun c_5 => ?_) (fun c_5 => ?_)
    · exact absurd c_5 (by decide)
    · refine jk_aload_n K dX3_light_8 rfl 0 rfl ?_
      refine jk_iload_n K dX3_light_9 rfl 1 rfl ?_
      refine jk_cVi K (n' := 0) (k' := 0) [.int (nI i)] [] dX3_light_10 (hb_X3_lightNow _ hl E X Y m 0 S N a n hn i (Nat.lt_of_lt_of_le hi hn)) gX3_light_X3_lightNow rfl kd_X3_lightNow ⟨Nat.le_of_ble_eq_true rfl, Nat.le_of_ble_eq_true rfl⟩ (X.length + 0) hm_x0 rfl (Nat.le_of_ble_eq_true rfl) ⟨rfl, rfl⟩ ⟨Nat.le_of_ble_eq_true rfl, Nat.le_of_ble_eq_true rfl⟩ rfl (fun _ _ => ?_)
      refine jk_goto (tgt := 17) K dX3_light_13 rfl ?_
      exact jk_iret K hz dX3_light_17 (0, N i 6 + 1, hm_kS S (nI i), hm_lN N i) rfl (Or.inl ⟨i, hi, rfl, hcl, rfl⟩) rfl rfl (Nat.le_of_ble_eq_true rfl) (Nat.le_of_ble_eq_true rfl)
  · refine jk_ws (ws' := (hm_M E X Y m 2 (nI n) S N a)) rfl ?_
    refine jk_st (st' := [.int 0]) rfl ?_
    refine jk_if_eq (tgt := 16) K dX3_light_5 rfl (fun c_5 => ?_) (fun c_5 => ?_)
    · refine jk_iconst (x := 0) K dX3_light_16 rfl ?_
      exact jk_iret K hz dX3_light_17 (2, 0, S, N) rfl (Or.inr (Or.inl ⟨i, hi, rfl, hcl, rfl⟩)) rfl rfl (Nat.le_of_ble_eq_true rfl) (Nat.le_of_ble_eq_true rfl)
    · exact absurd (by decide) c_5
  · refine jk_ws (ws' := (hm_M E X Y m 1 (nI n) S N a)) rfl ?_
    refine jk_st (st' := [.int 0]) rfl ?_
    refine jk_if_eq (tgt := 16) K dX3_light_5 rfl (fun c_5 => ?_) (fun c_5 => ?_)
    · refine jk_iconst (x := 0) K dX3_light_16 rfl ?_
      exact jk_iret K hz dX3_light_17 (1, 0, S, N) rfl (Or.inr (Or.inr ⟨hno, rfl⟩)) rfl rfl (Nat.le_of_ble_eq_true rfl) (Nat.le_of_ble_eq_true rfl)
    · exact absurd (by decide) c_5
set_option maxHeartbeats 4000000 in
set_option maxRecDepth 100000 in
theorem hb_X3_douse (l : Launch) (hl : l.stackTraces = false) (E : jk_T) (X Y : va_W) (m : Nat → Nat) (th : Int32) (S : Nat → Int32) (N a : Nat → Nat → Int32) (n : Nat) (hn : n ≤ 10) (x : Int32) : jk_Ct l yX3_douse wsX3_douse ({ frames := 2, cells := 0, slots := 0, locals := 44 } : Room) [.ref (m 0), .int x] E (hm_M E X Y m th (nI n) S N a) (fun u : Int32 × Int32 × (Nat → Int32) × (Nat → Nat → Int32) => some (.int u.2.1)) (fun u => (hm_M E X Y m u.1 (nI n) u.2.2.1 u.2.2.2 a)) (fun u => (∃ i, i < n ∧ x = nI i ∧ ¬ N i 1 = 0 ∧ u = (0, N i 0, S, va_up N i (hm_dF (N i)))) ∨ (∃ i, i < n ∧ x = nI i ∧ N i 1 = 0 ∧ u = (2, 0, S, N)) ∨ (¬ hb_ok n x ∧ u = (1, 0, S, N))) := by
  refine jk_of (lv := [(0, .ref (m 0)), (1, .int x)]) (own := RX3) (nm := "douse") hl (by decide +kernel) rfl (Nat.le_of_ble_eq_true rfl) rfl rfl rfl (fun Γ hΓ K hnm hz => ?_)
  subst hΓ
  have hin_RX3 : ∀ w ∈ u_ws RX3 TX3 11, w ∈ wsX3_douse := by decide +kernel
  refine jk_aload_n K dX3_douse_0 rfl 0 rfl ?_
  refine jk_iconst (x := 0) K dX3_douse_1 rfl ?_
  refine jk_put (C := RX3) (T := TX3) (N := 11) (nm := "thrown") (ds := "I") (w' := (hm_M E X Y m 0 (nI n) S N a)) K dX3_douse_2 hin_RX3 tyX3 tyX3_ok nmX3 (by decide +kernel) (X.length + 0) hm_x0 rfl 0 rfl (by decide) rfl rfl rfl rfl (Nat.le_of_ble_eq_true rfl) (hm_s0 rfl) ?_
  refine jk_aload_n K dX3_douse_5 rfl 0 rfl ?_
  refine jk_iload_n K dX3_douse_6 rfl 1 rfl ?_
  refine jk_cVi K (n' := 0) (k' := 0) [.int x] [] dX3_douse_7 (hb_X3_isHill _ hl E X Y m 0 S N a n hn x) gX3_douse_X3_isHill rfl kd_X3_isHill ⟨Nat.le_of_ble_eq_true rfl, Nat.le_of_ble_eq_true rfl⟩ (X.length + 0) hm_x0 rfl (Nat.le_of_ble_eq_true rfl) ⟨rfl, rfl⟩ ⟨Nat.le_of_ble_eq_true rfl, Nat.le_of_ble_eq_true rfl⟩ rfl (fun _ _ => ?_)
  refine jk_if_ne (tgt := 19) K dX3_douse_10 rfl (fun c_10 => ?_) (fun c_10 => ?_)
  · obtain ⟨i, hi, rfl⟩ := hm_isH hn c_10
    refine jk_aload_n K dX3_douse_19 rfl 0 rfl ?_
    refine jk_iload_n K dX3_douse_20 rfl 1 rfl ?_
    refine jk_iconst (x := 1) K dX3_douse_21 rfl ?_
    refine jk_cVi K (n' := 0) (k' := 0) [.int (nI i), .int (nI 1)] [] dX3_douse_22 (hb_X3_hi _ hl E X Y m 0 S N a n hn i 1 (Nat.lt_of_lt_of_le hi hn) (by decide)) gX3_douse_X3_hi rfl kd_X3_hi ⟨Nat.le_of_ble_eq_true rfl, Nat.le_of_ble_eq_true rfl⟩ (X.length + 0) hm_x0 rfl (Nat.le_of_ble_eq_true rfl) ⟨rfl, rfl⟩ ⟨Nat.le_of_ble_eq_true rfl, Nat.le_of_ble_eq_true rfl⟩ rfl (fun _ _ => ?_)
    refine jk_if_ne (tgt := 34) K dX3_douse_25 rfl (fun c_25 => ?_) (fun c_25 => ?_)
    · refine jk_aload_n K dX3_douse_34 rfl 0 rfl ?_
      refine jk_iload_n K dX3_douse_35 rfl 1 rfl ?_
      refine jk_cVv K (n' := 0) (k' := 0) [.int (nI i)] [] dX3_douse_36 (hb_X3_dark _ hl E X Y m 0 S N a n hn i (Nat.lt_of_lt_of_le hi hn)) gX3_douse_X3_dark rfl kd_X3_dark ⟨Nat.le_of_ble_eq_true rfl, Nat.le_of_ble_eq_true rfl⟩ (X.length + 0) hm_x0 rfl (Nat.le_of_ble_eq_true rfl) ⟨rfl, rfl⟩ ⟨Nat.le_of_ble_eq_true rfl, Nat.le_of_ble_eq_true rfl⟩ rfl (fun _ _ => ?_)
      refine jk_aload_n K dX3_douse_39 rfl 0 rfl ?_
      refine jk_iload_n K dX3_douse_40 rfl 1 rfl ?_
      refine jk_iconst (x := 0) K dX3_douse_41 rfl ?_
      refine jk_cVi K (n' := 0) (k' := 0) [.int (nI i), .int (nI 0)] [] dX3_douse_42 (hb_X3_hi _ hl E X Y m 0 S (va_up N i (hm_dF (N i))) a n hn i 0 (Nat.lt_of_lt_of_le hi hn) (by decide)) gX3_douse_X3_hi rfl kd_X3_hi ⟨Nat.le_of_ble_eq_true rfl, Nat.le_of_ble_eq_true rfl⟩ (X.length + 0) hm_x0 rfl (Nat.le_of_ble_eq_true rfl) ⟨rfl, rfl⟩ ⟨Nat.le_of_ble_eq_true rfl, Nat.le_of_ble_eq_true rfl⟩ rfl (fun _ _ => ?_)
      refine jk_st (st' := [.int ((hm_dF (N i)) 0)]) (by rw [va_up_self] <;> rfl) ?_
      exact jk_iret K hz dX3_douse_45 (0, N i 0, S, va_up N i (hm_dF (N i))) rfl (Or.inl ⟨i, hi, rfl, c_25, rfl⟩) rfl rfl (Nat.le_of_ble_eq_true rfl) (Nat.le_of_ble_eq_true rfl)
    · refine jk_aload_n K dX3_douse_28 rfl 0 rfl ?_
      refine jk_iconst (x := 2) K dX3_douse_29 rfl ?_
      refine jk_cVi K (n' := 0) (k' := 0) [.int 2] [] dX3_douse_30 (hb_X3_fail _ hl E X Y m 0 S N a n hn 2) gX3_douse_X3_fail rfl kd_X3_fail ⟨Nat.le_of_ble_eq_true rfl, Nat.le_of_ble_eq_true rfl⟩ (X.length + 0) hm_x0 rfl (Nat.le_of_ble_eq_true rfl) ⟨rfl, rfl⟩ ⟨Nat.le_of_ble_eq_true rfl, Nat.le_of_ble_eq_true rfl⟩ rfl (fun _ _ => ?_)
      exact jk_iret K hz dX3_douse_33 (2, 0, S, N) rfl (Or.inr (Or.inl ⟨i, hi, rfl, c_25, rfl⟩)) rfl rfl (Nat.le_of_ble_eq_true rfl) (Nat.le_of_ble_eq_true rfl)
  · have hno : ¬ hb_ok n x := hm_noH hn c_10
    refine jk_aload_n K dX3_douse_13 rfl 0 rfl ?_
    refine jk_iconst (x := 1) K dX3_douse_14 rfl ?_
    refine jk_cVi K (n' := 0) (k' := 0) [.int 1] [] dX3_douse_15 (hb_X3_fail _ hl E X Y m 0 S N a n hn 1) gX3_douse_X3_fail rfl kd_X3_fail ⟨Nat.le_of_ble_eq_true rfl, Nat.le_of_ble_eq_true rfl⟩ (X.length + 0) hm_x0 rfl (Nat.le_of_ble_eq_true rfl) ⟨rfl, rfl⟩ ⟨Nat.le_of_ble_eq_true rfl, Nat.le_of_ble_eq_true rfl⟩ rfl (fun _ _ => ?_)
    exact jk_iret K hz dX3_douse_18 (1, 0, S, N) rfl (Or.inr (Or.inr ⟨hno, rfl⟩)) rfl rfl (Nat.le_of_ble_eq_true rfl) (Nat.le_of_ble_eq_true rfl)
set_option maxHeartbeats 4000000 in
set_option maxRecDepth 100000 in
theorem hb_X3_bringWood (l : Launch) (hl : l.stackTraces = false) (E : jk_T) (X Y : va_W) (m : Nat → Nat) (th : Int32) (S : Nat → Int32) (N a : Nat → Nat → Int32) (n : Nat) (hn : n ≤ 10) (x y : Int32) : jk_Ct l yX3_bringWood wsX3_bringWood ({ frames := 2, cells := 0, slots := 0, locals := 43 } : Room) [.ref (m 0), .int x, .int y] E (hm_M E X Y m th (nI n) S N a) (fun u : Int32 × Int32 × (Nat → Int32) × (Nat → Nat → Int32) => some (.int u.2.1)) (fun u => (hm_M E X Y m u.1 (nI n) u.2.2.1 u.2.2.2 a)) (fun u => (∃ i, i < n ∧ x = nI i ∧ hb_bt y 1 30 ∧ u = (0, (if (N i 0 + y) < 30 then (N i 0 + y) else 30), S, va_up N i (hb_fu (N i) 0 (if (N i 0 + y) < 30 then (N i 0 + y) else 30)))) ∨ (hb_ok n x ∧ ¬ hb_bt y 1 30 ∧ u = (2, 0, S, N)) ∨ (¬ hb_ok n x ∧ u = (1, 0, S, N))) := by
  refine jk_of (lv := [(0, .ref (m 0)), (1, .int x), (2, .int y)]) (own := RX3) (nm := "bringWood") hl (by decide +kernel) rfl (Nat.le_of_ble_eq_true rfl) rfl rfl rfl (fun Γ hΓ K hnm hz => ?_)
  subst hΓ
  have hin_RX3 : ∀ w ∈ u_ws RX3 TX3 11, w ∈ wsX3_bringWood := by decide +kernel
  refine jk_aload_n K dX3_bringWood_0 rfl 0 rfl ?_
  refine jk_iconst (x := 0) K dX3_bringWood_1 rfl ?_
  refine jk_put (C := RX3) (T := TX3) (N := 11) (nm := "thrown") (ds := "I") (w' := (hm_M E X Y m 0 (nI n) S N a)) K dX3_bringWood_2 hin_RX3 tyX3 tyX3_ok nmX3 (by decide +kernel) (X.length + 0) hm_x0 rfl 0 rfl (by decide) rfl rfl rfl rfl (Nat.le_of_ble_eq_true rfl) (hm_s0 rfl) ?_
  refine jk_aload_n K dX3_bringWood_5 rfl 0 rfl ?_
  refine jk_iload_n K dX3_bringWood_6 rfl 1 rfl ?_
  refine jk_cVi K (n' := 0) (k' := 0) [.int x] [] dX3_bringWood_7 (hb_X3_isHill _ hl E X Y m 0 S N a n hn x) gX3_bringWood_X3_isHill rfl kd_X3_isHill ⟨Nat.le_of_ble_eq_true rfl, Nat.le_of_ble_eq_true rfl⟩ (X.length + 0) hm_x0 rfl (Nat.le_of_ble_eq_true rfl) ⟨rfl, rfl⟩ ⟨Nat.le_of_ble_eq_true rfl, Nat.le_of_ble_eq_true rfl⟩ rfl (fun _ _ => ?_)
  refine jk_if_ne (tgt := 19) K dX3_bringWood_10 rfl (fun c_10 => ?_) (fun c_10 => ?_)
  · obtain ⟨i, hi, rfl⟩ := hm_isH hn c_10
    refine jk_iload_n K dX3_bringWood_19 rfl 2 rfl ?_
    refine jk_iconst (x := 1) K dX3_bringWood_20 rfl ?_
    refine jk_bipush (x := 30) K dX3_bringWood_21 rfl ?_
    refine jk_cSi K (n' := 0) (k' := 0) [.int y, .int 1, .int 30] [] dX3_bringWood_23 (hb_X3_isIn _ hl E (hm_M E X Y m 0 (nI n) S N a) y 1 30) gX3_bringWood_X3_isIn rfl kd_X3_isIn ⟨Nat.le_of_ble_eq_true rfl, Nat.le_of_ble_eq_true rfl⟩ (Nat.le_of_ble_eq_true rfl) ⟨rfl, rfl⟩ ⟨Nat.le_of_ble_eq_true rfl, Nat.le_of_ble_eq_true rfl⟩ rfl (fun _ _ => ?_)
    refine jk_if_ne (tgt := 35) K dX3_bringWood_26 rfl (fun c_26 => ?_) (fun c_26 => ?_)
    · refine jk_aload_n K dX3_bringWood_35 rfl 0 rfl ?_
      refine jk_iload_n K dX3_bringWood_36 rfl 1 rfl ?_
      refine jk_iconst (x := 0) K dX3_bringWood_37 rfl ?_
      refine jk_bipush (x := 30) K dX3_bringWood_38 rfl ?_
      refine jk_aload_n K dX3_bringWood_40 rfl 0 rfl ?_
      refine jk_iload_n K dX3_bringWood_41 rfl 1 rfl ?_
      refine jk_iconst (x := 0) K dX3_bringWood_42 rfl ?_
      refine jk_cVi K (n' := 0) (k' := 0) [.int (nI i), .int (nI 0)] [.int 30, .int 0, .int (nI i), .ref (m 0)] dX3_bringWood_43 (hb_X3_hi _ hl E X Y m 0 S N a n hn i 0 (Nat.lt_of_lt_of_le hi hn) (by decide)) gX3_bringWood_X3_hi rfl kd_X3_hi ⟨Nat.le_of_ble_eq_true rfl, Nat.le_of_ble_eq_true rfl⟩ (X.length + 0) hm_x0 rfl (Nat.le_of_ble_eq_true rfl) ⟨rfl, rfl⟩ ⟨Nat.le_of_ble_eq_true rfl, Nat.le_of_ble_eq_true rfl⟩ rfl (fun _ _ => ?_)
      refine jk_iload_n K dX3_bringWood_46 rfl 2 rfl ?_
      refine jk_iadd K dX3_bringWood_47 ?_
      refine jk_mmin K dX3_bringWood_48 (rest := [.int 0, .int (nI i), .ref (m 0)]) (by decide +kernel) (by decide +kernel) (by decide +kernel) (by decide +kernel) (Nat.le_of_ble_eq_true rfl) (Nat.le_of_ble_eq_true rfl) ⟨Nat.le_of_ble_eq_true rfl, Nat.le_of_ble_eq_true rfl⟩ ?_
      refine jk_cVv K (n' := 0) (k' := 0) [.int (nI i), .int (nI 0), .int (if ((N i 0) + y) < 30 then ((N i 0) + y) else 30)] [] dX3_bringWood_51 (hb_X3_let _ hl E X Y m 0 S N a n hn i 0 (Nat.lt_of_lt_of_le hi hn) (by decide) (if ((N i 0) + y) < 30 then ((N i 0) + y) else 30)) gX3_bringWood_X3_let rfl kd_X3_let ⟨Nat.le_of_ble_eq_true rfl, Nat.le_of_ble_eq_true rfl⟩ (X.length + 0) hm_x0 rfl (Nat.le_of_ble_eq_true rfl) ⟨rfl, rfl⟩ ⟨Nat.le_of_ble_eq_true rfl, Nat.le_of_ble_eq_true rfl⟩ rfl (fun _ _ => ?_)
      refine jk_aload_n K dX3_bringWood_54 rfl 0 rfl ?_
      refine jk_iload_n K dX3_bringWood_55 rfl 1 rfl ?_
      refine jk_iconst (x := 0) K dX3_bringWood_56 rfl ?_
      refine jk_cVi K (n' := 0) (k' := 0) [.int (nI i), .int (nI 0)] [] dX3_bringWood_57 (hb_X3_hi _ hl E X Y m 0 S (va_up N i (hb_fu (N i) 0 (if ((N i 0) + y) < 30 then ((N i 0) + y) else 30))) a n hn i 0 (Nat.lt_of_lt_of_le hi hn) (by decide)) gX3_bringWood_X3_hi rfl kd_X3_hi ⟨Nat.le_of_ble_eq_true rfl, Nat.le_of_ble_eq_true rfl⟩ (X.length + 0) hm_x0 rfl (Nat.le_of_ble_eq_true rfl) ⟨rfl, rfl⟩ ⟨Nat.le_of_ble_eq_true rfl, Nat.le_of_ble_eq_true rfl⟩ rfl (fun _ _ => ?_)
      refine jk_st (st' := [.int (if ((N i 0) + y) < 30 then ((N i 0) + y) else 30)]) (by rw [va_up_self] <;> rfl) ?_
      exact jk_iret K hz dX3_bringWood_60 (0, (if (N i 0 + y) < 30 then (N i 0 + y) else 30), S, va_up N i (hb_fu (N i) 0 (if (N i 0 + y) < 30 then (N i 0 + y) else 30))) rfl (Or.inl ⟨i, hi, rfl, hm_in_bt.mp c_26, rfl⟩) rfl rfl (Nat.le_of_ble_eq_true rfl) (Nat.le_of_ble_eq_true rfl)
    · refine jk_aload_n K dX3_bringWood_29 rfl 0 rfl ?_
      refine jk_iconst (x := 2) K dX3_bringWood_30 rfl ?_
      refine jk_cVi K (n' := 0) (k' := 0) [.int 2] [] dX3_bringWood_31 (hb_X3_fail _ hl E X Y m 0 S N a n hn 2) gX3_bringWood_X3_fail rfl kd_X3_fail ⟨Nat.le_of_ble_eq_true rfl, Nat.le_of_ble_eq_true rfl⟩ (X.length + 0) hm_x0 rfl (Nat.le_of_ble_eq_true rfl) ⟨rfl, rfl⟩ ⟨Nat.le_of_ble_eq_true rfl, Nat.le_of_ble_eq_true rfl⟩ rfl (fun _ _ => ?_)
      exact jk_iret K hz dX3_bringWood_34 (2, 0, S, N) rfl (Or.inr (Or.inl ⟨hb_ok_i hi, fun q => (hm_in_bt.mpr q) c_26, rfl⟩)) rfl rfl (Nat.le_of_ble_eq_true rfl) (Nat.le_of_ble_eq_true rfl)
  · have hno : ¬ hb_ok n x := hm_noH hn c_10
    refine jk_aload_n K dX3_bringWood_13 rfl 0 rfl ?_
    refine jk_iconst (x := 1) K dX3_bringWood_14 rfl ?_
    refine jk_cVi K (n' := 0) (k' := 0) [.int 1] [] dX3_bringWood_15 (hb_X3_fail _ hl E X Y m 0 S N a n hn 1) gX3_bringWood_X3_fail rfl kd_X3_fail ⟨Nat.le_of_ble_eq_true rfl, Nat.le_of_ble_eq_true rfl⟩ (X.length + 0) hm_x0 rfl (Nat.le_of_ble_eq_true rfl) ⟨rfl, rfl⟩ ⟨Nat.le_of_ble_eq_true rfl, Nat.le_of_ble_eq_true rfl⟩ rfl (fun _ _ => ?_)
    exact jk_iret K hz dX3_bringWood_18 (1, 0, S, N) rfl (Or.inr (Or.inr ⟨hno, rfl⟩)) rfl rfl (Nat.le_of_ble_eq_true rfl) (Nat.le_of_ble_eq_true rfl)
set_option maxHeartbeats 4000000 in
set_option maxRecDepth 100000 in
theorem hb_X3_setDamp (l : Launch) (hl : l.stackTraces = false) (E : jk_T) (X Y : va_W) (m : Nat → Nat) (th : Int32) (S : Nat → Int32) (N a : Nat → Nat → Int32) (n : Nat) (hn : n ≤ 10) (x y : Int32) : jk_Ct l yX3_setDamp wsX3_setDamp ({ frames := 2, cells := 0, slots := 0, locals := 43 } : Room) [.ref (m 0), .int x, .int y] E (hm_M E X Y m th (nI n) S N a) (fun u : Int32 × Int32 × (Nat → Int32) × (Nat → Nat → Int32) => some (.int u.2.1)) (fun u => (hm_M E X Y m u.1 (nI n) u.2.2.1 u.2.2.2 a)) (fun u => (∃ i, i < n ∧ x = nI i ∧ hb_bt y 0 9 ∧ u = (0, N i 6, S, va_up N i (hb_fu (N i) 6 y))) ∨ (hb_ok n x ∧ ¬ hb_bt y 0 9 ∧ u = (2, 0, S, N)) ∨ (¬ hb_ok n x ∧ u = (1, 0, S, N))) := by
  refine jk_of (lv := [(0, .ref (m 0)), (1, .int x), (2, .int y)]) (own := RX3) (nm := "setDamp") hl (by decide +kernel) rfl (Nat.le_of_ble_eq_true rfl) rfl rfl rfl (fun Γ hΓ K hnm hz => ?_)
  subst hΓ
  have hin_RX3 : ∀ w ∈ u_ws RX3 TX3 11, w ∈ wsX3_setDamp := by decide +kernel
  refine jk_aload_n K dX3_setDamp_0 rfl 0 rfl ?_
  refine jk_iconst (x := 0) K dX3_setDamp_1 rfl ?_
  refine jk_put (C := RX3) (T := TX3) (N := 11) (nm := "thrown") (ds := "I") (w' := (hm_M E X Y m 0 (nI n) S N a)) K dX3_setDamp_2 hin_RX3 tyX3 tyX3_ok nmX3 (by decide +kernel) (X.length + 0) hm_x0 rfl 0 rfl (by decide) rfl rfl rfl rfl (Nat.le_of_ble_eq_true rfl) (hm_s0 rfl) ?_
  refine jk_aload_n K dX3_setDamp_5 rfl 0 rfl ?_
  refine jk_iload_n K dX3_setDamp_6 rfl 1 rfl ?_
  refine jk_cVi K (n' := 0) (k' := 0) [.int x] [] dX3_setDamp_7 (hb_X3_isHill _ hl E X Y m 0 S N a n hn x) gX3_setDamp_X3_isHill rfl kd_X3_isHill ⟨Nat.le_of_ble_eq_true rfl, Nat.le_of_ble_eq_true rfl⟩ (X.length + 0) hm_x0 rfl (Nat.le_of_ble_eq_true rfl) ⟨rfl, rfl⟩ ⟨Nat.le_of_ble_eq_true rfl, Nat.le_of_ble_eq_true rfl⟩ rfl (fun _ _ => ?_)
  refine jk_if_ne (tgt := 19) K dX3_setDamp_10 rfl (fun c_10 => ?_) (fun c_10 => ?_)
  · obtain ⟨i, hi, rfl⟩ := hm_isH hn c_10
    refine jk_iload_n K dX3_setDamp_19 rfl 2 rfl ?_
    refine jk_iconst (x := 0) K dX3_setDamp_20 rfl ?_
    refine jk_bipush (x := 9) K dX3_setDamp_21 rfl ?_
    refine jk_cSi K (n' := 0) (k' := 0) [.int y, .int 0, .int 9] [] dX3_setDamp_23 (hb_X3_isIn _ hl E (hm_M E X Y m 0 (nI n) S N a) y 0 9) gX3_setDamp_X3_isIn rfl kd_X3_isIn ⟨Nat.le_of_ble_eq_true rfl, Nat.le_of_ble_eq_true rfl⟩ (Nat.le_of_ble_eq_true rfl) ⟨rfl, rfl⟩ ⟨Nat.le_of_ble_eq_true rfl, Nat.le_of_ble_eq_true rfl⟩ rfl (fun _ _ => ?_)
    refine jk_if_ne (tgt := 35) K dX3_setDamp_26 rfl (fun c_26 => ?_) (fun c_26 => ?_)
    · refine jk_aload_n K dX3_setDamp_35 rfl 0 rfl ?_
      refine jk_iload_n K dX3_setDamp_36 rfl 1 rfl ?_
      refine jk_bipush (x := 6) K dX3_setDamp_37 rfl ?_
      refine jk_cVi K (n' := 0) (k' := 0) [.int (nI i), .int (nI 6)] [] dX3_setDamp_39 (hb_X3_hi _ hl E X Y m 0 S N a n hn i 6 (Nat.lt_of_lt_of_le hi hn) (by decide)) gX3_setDamp_X3_hi rfl kd_X3_hi ⟨Nat.le_of_ble_eq_true rfl, Nat.le_of_ble_eq_true rfl⟩ (X.length + 0) hm_x0 rfl (Nat.le_of_ble_eq_true rfl) ⟨rfl, rfl⟩ ⟨Nat.le_of_ble_eq_true rfl, Nat.le_of_ble_eq_true rfl⟩ rfl (fun _ _ => ?_)
      refine jk_istore_n (lv' := [(3, .int (N i 6)), (0, .ref (m 0)), (1, .int (nI i)), (2, .int y)]) K dX3_setDamp_42 rfl (by decide) rfl ?_
      refine jk_aload_n K dX3_setDamp_43 rfl 1 rfl ?_
      refine jk_iload_n K dX3_setDamp_44 rfl 2 rfl ?_
      refine jk_bipush (x := 6) K dX3_setDamp_45 rfl ?_
      refine jk_iload_n K dX3_setDamp_47 rfl 3 rfl ?_
      refine jk_cVv K (n' := 0) (k' := 0) [.int (nI i), .int (nI 6), .int y] [] dX3_setDamp_48 (hb_X3_let _ hl E X Y m 0 S N a n hn i 6 (Nat.lt_of_lt_of_le hi hn) (by decide) y) gX3_setDamp_X3_let rfl kd_X3_let ⟨Nat.le_of_ble_eq_true rfl, Nat.le_of_ble_eq_true rfl⟩ (X.length + 0) hm_x0 rfl (Nat.le_of_ble_eq_true rfl) ⟨rfl, rfl⟩ ⟨Nat.le_of_ble_eq_true rfl, Nat.le_of_ble_eq_true rfl⟩ rfl (fun _ _ => ?_)
      refine jk_iload_n K dX3_setDamp_51 rfl 0 rfl ?_
      exact jk_iret K hz dX3_setDamp_52 (0, N i 6, S, va_up N i (hb_fu (N i) 6 y)) rfl (Or.inl ⟨i, hi, rfl, hm_in_bt.mp c_26, rfl⟩) rfl rfl (Nat.le_of_ble_eq_true rfl) (Nat.le_of_ble_eq_true rfl)
    · refine jk_aload_n K dX3_setDamp_29 rfl 0 rfl ?_
      refine jk_iconst (x := 2) K dX3_setDamp_30 rfl ?_
      refine jk_cVi K (n' := 0) (k' := 0) [.int 2] [] dX3_setDamp_31 (hb_X3_fail _ hl E X Y m 0 S N a n hn 2) gX3_setDamp_X3_fail rfl kd_X3_fail ⟨Nat.le_of_ble_eq_true rfl, Nat.le_of_ble_eq_true rfl⟩ (X.length + 0) hm_x0 rfl (Nat.le_of_ble_eq_true rfl) ⟨rfl, rfl⟩ ⟨Nat.le_of_ble_eq_true rfl, Nat.le_of_ble_eq_true rfl⟩ rfl (fun _ _ => ?_)
      exact jk_iret K hz dX3_setDamp_34 (2, 0, S, N) rfl (Or.inr (Or.inl ⟨hb_ok_i hi, fun q => (hm_in_bt.mpr q) c_26, rfl⟩)) rfl rfl (Nat.le_of_ble_eq_true rfl) (Nat.le_of_ble_eq_true rfl)
  · have hno : ¬ hb_ok n x := hm_noH hn c_10
    refine jk_aload_n K dX3_setDamp_13 rfl 0 rfl ?_
    refine jk_iconst (x := 1) K dX3_setDamp_14 rfl ?_
    refine jk_cVi K (n' := 0) (k' := 0) [.int 1] [] dX3_setDamp_15 (hb_X3_fail _ hl E X Y m 0 S N a n hn 1) gX3_setDamp_X3_fail rfl kd_X3_fail ⟨Nat.le_of_ble_eq_true rfl, Nat.le_of_ble_eq_true rfl⟩ (X.length + 0) hm_x0 rfl (Nat.le_of_ble_eq_true rfl) ⟨rfl, rfl⟩ ⟨Nat.le_of_ble_eq_true rfl, Nat.le_of_ble_eq_true rfl⟩ rfl (fun _ _ => ?_)
    exact jk_iret K hz dX3_setDamp_18 (1, 0, S, N) rfl (Or.inr (Or.inr ⟨hno, rfl⟩)) rfl rfl (Nat.le_of_ble_eq_true rfl) (Nat.le_of_ble_eq_true rfl)
set_option maxHeartbeats 4000000 in
set_option maxRecDepth 100000 in
theorem hb_X3_setHaze (l : Launch) (hl : l.stackTraces = false) (E : jk_T) (X Y : va_W) (m : Nat → Nat) (th : Int32) (S : Nat → Int32) (N a : Nat → Nat → Int32) (n : Nat) (hn : n ≤ 10) (y : Int32) : jk_Ct l yX3_setHaze wsX3_setHaze ({ frames := 1, cells := 0, slots := 0, locals := 22 } : Room) [.ref (m 0), .int y] E (hm_M E X Y m th (nI n) S N a) (fun u : Int32 × Int32 × (Nat → Int32) => some (.int u.2.1)) (fun u => (hm_M E X Y m u.1 (nI n) u.2.2 N a)) (fun u => (hb_bt y 0 9 ∧ u = (0, S 4, hb_fu S 4 y)) ∨ (¬ hb_bt y 0 9 ∧ u = (1, 0, S))) := by
  refine jk_of (lv := [(0, .ref (m 0)), (1, .int y)]) (own := RX3) (nm := "setHaze") hl (by decide +kernel) rfl (Nat.le_of_ble_eq_true rfl) rfl rfl rfl (fun Γ hΓ K hnm hz => ?_)
  subst hΓ
  have hin_RX3 : ∀ w ∈ u_ws RX3 TX3 11, w ∈ wsX3_setHaze := by decide +kernel
  refine jk_aload_n K dX3_setHaze_0 rfl 0 rfl ?_
  refine jk_iconst (x := 0) K dX3_setHaze_1 rfl ?_
  refine jk_put (C := RX3) (T := TX3) (N := 11) (nm := "thrown") (ds := "I") (w' := (hm_M E X Y m 0 (nI n) S N a)) K dX3_setHaze_2 hin_RX3 tyX3 tyX3_ok nmX3 (by decide +kernel) (X.length + 0) hm_x0 rfl 0 rfl (by decide) rfl rfl rfl rfl (Nat.le_of_ble_eq_true rfl) (hm_s0 rfl) ?_
  refine jk_iload_n K dX3_setHaze_5 rfl 1 rfl ?_
  refine jk_iconst (x := 0) K dX3_setHaze_6 rfl ?_
  refine jk_bipush (x := 9) K dX3_setHaze_7 rfl ?_
  refine jk_cSi K (n' := 0) (k' := 0) [.int y, .int 0, .int 9] [] dX3_setHaze_9 (hb_X3_isIn _ hl E (hm_M E X Y m 0 (nI n) S N a) y 0 9) gX3_setHaze_X3_isIn rfl kd_X3_isIn ⟨Nat.le_of_ble_eq_true rfl, Nat.le_of_ble_eq_true rfl⟩ (Nat.le_of_ble_eq_true rfl) ⟨rfl, rfl⟩ ⟨Nat.le_of_ble_eq_true rfl, Nat.le_of_ble_eq_true rfl⟩ rfl (fun _ _ => ?_)
  refine jk_if_ne (tgt := 21) K dX3_setHaze_12 rfl (fun c_12 => ?_) (fun c_12 => ?_)
  · refine jk_aload_n K dX3_setHaze_21 rfl 0 rfl ?_
    refine jk_get (C := RX3) (T := TX3) (N := 11) (nm := "now") (ds := "[I") (v := .ref (m 6)) K dX3_setHaze_22 hin_RX3 (by decide +kernel) (X.length + 0) hm_x0 rfl 6 rfl (by decide) rfl ?_
    refine jk_iconst (x := 4) K dX3_setHaze_25 rfl ?_
    refine jk_iald (v := (S 4)) K dX3_setHaze_26 (X.length + 5) hm_a6 (vp_in_nI (n := 4) (by decide) (by decide)) (hm_now_s _ _ (k := 4) (by decide)) ?_
    refine jk_istore_n (lv' := [(2, .int (S 4)), (0, .ref (m 0)), (1, .int y)]) K dX3_setHaze_27 rfl (by decide) rfl ?_
    refine jk_aload_n K dX3_setHaze_28 rfl 1 rfl ?_
    refine jk_get (C := RX3) (T := TX3) (N := 11) (nm := "now") (ds := "[I") (v := .ref (m 6)) K dX3_setHaze_29 hin_RX3 (by decide +kernel) (X.length + 0) hm_x0 rfl 6 rfl (by decide) rfl ?_
    refine jk_iconst (x := 4) K dX3_setHaze_32 rfl ?_
    refine jk_iload_n K dX3_setHaze_33 rfl 2 rfl ?_
    refine jk_iast (w' := (hm_M E X Y m 0 (nI n) (hb_fu S 4 y) N a)) K dX3_setHaze_34 (X.length + 5) hm_a6 (vp_in_nI (n := 4) (by decide) (by decide)) (hm_s6 (hm_now_set _ _ (k := 4) (by decide) _)) ?_
    refine jk_iload_n K dX3_setHaze_35 rfl 0 rfl ?_
    exact jk_iret K hz dX3_setHaze_36 (0, S 4, hb_fu S 4 y) rfl (Or.inl ⟨hm_in_bt.mp c_12, rfl⟩) rfl rfl (Nat.le_of_ble_eq_true rfl) (Nat.le_of_ble_eq_true rfl)
  · refine jk_aload_n K dX3_setHaze_15 rfl 0 rfl ?_
    refine jk_iconst (x := 1) K dX3_setHaze_16 rfl ?_
    refine jk_cVi K (n' := 0) (k' := 0) [.int 1] [] dX3_setHaze_17 (hb_X3_fail _ hl E X Y m 0 S N a n hn 1) gX3_setHaze_X3_fail rfl kd_X3_fail ⟨Nat.le_of_ble_eq_true rfl, Nat.le_of_ble_eq_true rfl⟩ (X.length + 0) hm_x0 rfl (Nat.le_of_ble_eq_true rfl) ⟨rfl, rfl⟩ ⟨Nat.le_of_ble_eq_true rfl, Nat.le_of_ble_eq_true rfl⟩ rfl (fun _ _ => ?_)
    exact jk_iret K hz dX3_setHaze_20 (1, 0, S) rfl (Or.inr ⟨fun q => (hm_in_bt.mpr q) c_12, rfl⟩) rfl rfl (Nat.le_of_ble_eq_true rfl) (Nat.le_of_ble_eq_true rfl)
set_option maxHeartbeats 4000000 in
set_option maxRecDepth 100000 in
theorem hb_X3_glow (l : Launch) (hl : l.stackTraces = false) (E : jk_T) (X Y : va_W) (m : Nat → Nat) (th : Int32) (S : Nat → Int32) (N a : Nat → Nat → Int32) (n : Nat) (hn : n ≤ 10) (y : Int32) : jk_Ct l yX3_glow wsX3_glow ({ frames := 1, cells := 0, slots := 0, locals := 22 } : Room) [.ref (m 0), .int y] E (hm_M E X Y m th (nI n) S N a) (fun u : Int32 × Int32 × (Nat → Int32) => some (.int u.2.1)) (fun u => (hm_M E X Y m u.1 (nI n) u.2.2 N a)) (fun u => (hb_bt y 0 30 ∧ u = (0, S 1, hb_fu S 1 y)) ∨ (¬ hb_bt y 0 30 ∧ u = (1, 0, S))) := by
  refine jk_of (lv := [(0, .ref (m 0)), (1, .int y)]) (own := RX3) (nm := "glow") hl (by decide +kernel) rfl (Nat.le_of_ble_eq_true rfl) rfl rfl rfl (fun Γ hΓ K hnm hz => ?_)
  subst hΓ
  have hin_RX3 : ∀ w ∈ u_ws RX3 TX3 11, w ∈ wsX3_glow := by decide +kernel
  refine jk_aload_n K dX3_glow_0 rfl 0 rfl ?_
  refine jk_iconst (x := 0) K dX3_glow_1 rfl ?_
  refine jk_put (C := RX3) (T := TX3) (N := 11) (nm := "thrown") (ds := "I") (w' := (hm_M E X Y m 0 (nI n) S N a)) K dX3_glow_2 hin_RX3 tyX3 tyX3_ok nmX3 (by decide +kernel) (X.length + 0) hm_x0 rfl 0 rfl (by decide) rfl rfl rfl rfl (Nat.le_of_ble_eq_true rfl) (hm_s0 rfl) ?_
  refine jk_iload_n K dX3_glow_5 rfl 1 rfl ?_
  refine jk_iconst (x := 0) K dX3_glow_6 rfl ?_
  refine jk_bipush (x := 30) K dX3_glow_7 rfl ?_
  refine jk_cSi K (n' := 0) (k' := 0) [.int y, .int 0, .int 30] [] dX3_glow_9 (hb_X3_isIn _ hl E (hm_M E X Y m 0 (nI n) S N a) y 0 30) gX3_glow_X3_isIn rfl kd_X3_isIn ⟨Nat.le_of_ble_eq_true rfl, Nat.le_of_ble_eq_true rfl⟩ (Nat.le_of_ble_eq_true rfl) ⟨rfl, rfl⟩ ⟨Nat.le_of_ble_eq_true rfl, Nat.le_of_ble_eq_true rfl⟩ rfl (fun _ _ => ?_)
  refine jk_if_ne (tgt := 21) K dX3_glow_12 rfl (fun c_12 => ?_) (fun c_12 => ?_)
  · refine jk_aload_n K dX3_glow_21 rfl 0 rfl ?_
    refine jk_get (C := RX3) (T := TX3) (N := 11) (nm := "now") (ds := "[I") (v := .ref (m 6)) K dX3_glow_22 hin_RX3 (by decide +kernel) (X.length + 0) hm_x0 rfl 6 rfl (by decide) rfl ?_
    refine jk_iconst (x := 1) K dX3_glow_25 rfl ?_
    refine jk_iald (v := (S 1)) K dX3_glow_26 (X.length + 5) hm_a6 (vp_in_nI (n := 1) (by decide) (by decide)) (hm_now_s _ _ (k := 1) (by decide)) ?_
    refine jk_istore_n (lv' := [(2, .int (S 1)), (0, .ref (m 0)), (1, .int y)]) K dX3_glow_27 rfl (by decide) rfl ?_
    refine jk_aload_n K dX3_glow_28 rfl 1 rfl ?_
    refine jk_get (C := RX3) (T := TX3) (N := 11) (nm := "now") (ds := "[I") (v := .ref (m 6)) K dX3_glow_29 hin_RX3 (by decide +kernel) (X.length + 0) hm_x0 rfl 6 rfl (by decide) rfl ?_
    refine jk_iconst (x := 1) K dX3_glow_32 rfl ?_
    refine jk_iload_n K dX3_glow_33 rfl 2 rfl ?_
    refine jk_iast (w' := (hm_M E X Y m 0 (nI n) (hb_fu S 1 y) N a)) K dX3_glow_34 (X.length + 5) hm_a6 (vp_in_nI (n := 1) (by decide) (by decide)) (hm_s6 (hm_now_set _ _ (k := 1) (by decide) _)) ?_
    refine jk_iload_n K dX3_glow_35 rfl 0 rfl ?_
    exact jk_iret K hz dX3_glow_36 (0, S 1, hb_fu S 1 y) rfl (Or.inl ⟨hm_in_bt.mp c_12, rfl⟩) rfl rfl (Nat.le_of_ble_eq_true rfl) (Nat.le_of_ble_eq_true rfl)
  · refine jk_aload_n K dX3_glow_15 rfl 0 rfl ?_
    refine jk_iconst (x := 1) K dX3_glow_16 rfl ?_
    refine jk_cVi K (n' := 0) (k' := 0) [.int 1] [] dX3_glow_17 (hb_X3_fail _ hl E X Y m 0 S N a n hn 1) gX3_glow_X3_fail rfl kd_X3_fail ⟨Nat.le_of_ble_eq_true rfl, Nat.le_of_ble_eq_true rfl⟩ (X.length + 0) hm_x0 rfl (Nat.le_of_ble_eq_true rfl) ⟨rfl, rfl⟩ ⟨Nat.le_of_ble_eq_true rfl, Nat.le_of_ble_eq_true rfl⟩ rfl (fun _ _ => ?_)
    exact jk_iret K hz dX3_glow_20 (1, 0, S) rfl (Or.inr ⟨fun q => (hm_in_bt.mpr q) c_12, rfl⟩) rfl rfl (Nat.le_of_ble_eq_true rfl) (Nat.le_of_ble_eq_true rfl)
set_option maxHeartbeats 4000000 in
set_option maxRecDepth 100000 in
theorem hb_X3_turnEast (l : Launch) (hl : l.stackTraces = false) (E : jk_T) (X Y : va_W) (m : Nat → Nat) (th : Int32) (S : Nat → Int32) (N a : Nat → Nat → Int32) (n : Nat) (hn : n ≤ 10) (x : Int32) : jk_Ct l yX3_turnEast wsX3_turnEast ({ frames := 2, cells := 0, slots := 0, locals := 43 } : Room) [.ref (m 0), .int x] E (hm_M E X Y m th (nI n) S N a) (fun u : Int32 × Int32 × (Nat → Int32) => some (.int u.2.1)) (fun u => (hm_M E X Y m u.1 (nI n) S N (va_up a 3 u.2.2))) (fun u => (∃ i, i < n ∧ x = nI i ∧ u = (0, hb_neg (a 3 i), upd (a 3) i (hb_neg (a 3 i)))) ∨ (¬ hb_ok n x ∧ u = (1, 0, a 3))) := by
  refine jk_of (lv := [(0, .ref (m 0)), (1, .int x)]) (own := RX3) (nm := "turnEast") hl (by decide +kernel) rfl (Nat.le_of_ble_eq_true rfl) rfl rfl rfl (fun Γ hΓ K hnm hz => ?_)
  subst hΓ
  have hin_RX3 : ∀ w ∈ u_ws RX3 TX3 11, w ∈ wsX3_turnEast := by decide +kernel
  refine jk_aload_n K dX3_turnEast_0 rfl 0 rfl ?_
  refine jk_iconst (x := 0) K dX3_turnEast_1 rfl ?_
  refine jk_put (C := RX3) (T := TX3) (N := 11) (nm := "thrown") (ds := "I") (w' := (hm_M E X Y m 0 (nI n) S N a)) K dX3_turnEast_2 hin_RX3 tyX3 tyX3_ok nmX3 (by decide +kernel) (X.length + 0) hm_x0 rfl 0 rfl (by decide) rfl rfl rfl rfl (Nat.le_of_ble_eq_true rfl) (hm_s0 rfl) ?_
  refine jk_aload_n K dX3_turnEast_5 rfl 0 rfl ?_
  refine jk_iload_n K dX3_turnEast_6 rfl 1 rfl ?_
  refine jk_cVi K (n' := 0) (k' := 0) [.int x] [] dX3_turnEast_7 (hb_X3_isHill _ hl E X Y m 0 S N a n hn x) gX3_turnEast_X3_isHill rfl kd_X3_isHill ⟨Nat.le_of_ble_eq_true rfl, Nat.le_of_ble_eq_true rfl⟩ (X.length + 0) hm_x0 rfl (Nat.le_of_ble_eq_true rfl) ⟨rfl, rfl⟩ ⟨Nat.le_of_ble_eq_true rfl, Nat.le_of_ble_eq_true rfl⟩ rfl (fun _ _ => ?_)
  refine jk_if_ne (tgt := 19) K dX3_turnEast_10 rfl (fun c_10 => ?_) (fun c_10 => ?_)
  · obtain ⟨i, hi, rfl⟩ := hm_isH hn c_10
    refine jk_aload_n K dX3_turnEast_19 rfl 0 rfl ?_
    refine jk_get (C := RX3) (T := TX3) (N := 11) (nm := "east") (ds := "[Z") (v := .ref (m 3)) K dX3_turnEast_20 hin_RX3 (by decide +kernel) (X.length + 0) hm_x0 rfl 3 rfl (by decide) rfl ?_
    refine jk_iload_n K dX3_turnEast_23 rfl 1 rfl ?_
    refine jk_aload_n K dX3_turnEast_24 rfl 0 rfl ?_
    refine jk_get (C := RX3) (T := TX3) (N := 11) (nm := "east") (ds := "[Z") (v := .ref (m 3)) K dX3_turnEast_25 hin_RX3 (by decide +kernel) (X.length + 0) hm_x0 rfl 3 rfl (by decide) rfl ?_
    refine jk_iload_n K dX3_turnEast_28 rfl 1 rfl ?_
    refine jk_zald (v := (hb_zb (a 3 i))) K dX3_turnEast_29 (X.length + 2) hm_a3 (vp_in_nI (by omega) (by decide)) (by rw [nI_clamp (by omega)]) ?_
    refine jk_if_ne (tgt := 37) K dX3_turnEast_30 rfl (fun c_30 => ?_) (fun c_30 => ?_)
    · refine jk_iconst (x := 0) K dX3_turnEast_37 rfl ?_
      refine jk_zast (w' := (hm_M E X Y m 0 (nI n) S N (va_up a 3 (upd (a 3) i 0)))) K dX3_turnEast_38 (X.length + 2) hm_a3 (vp_in_nI (by omega) (by decide)) (by rw [nI_clamp (by omega), hm_zst _ _ (by decide)]; exact hm_t3) ?_
      refine jk_aload_n K dX3_turnEast_39 rfl 0 rfl ?_
      refine jk_get (C := RX3) (T := TX3) (N := 11) (nm := "east") (ds := "[Z") (v := .ref (m 3)) K dX3_turnEast_40 hin_RX3 (by decide +kernel) (X.length + 0) hm_x0 rfl 3 rfl (by decide) rfl ?_
      refine jk_iload_n K dX3_turnEast_43 rfl 1 rfl ?_
      refine jk_zald (v := (hb_zb 0)) K dX3_turnEast_44 (X.length + 2) hm_a3 (vp_in_nI (by omega) (by decide)) (by rw [nI_clamp (by omega)]; show hb_zb (upd (a 3) i 0 i) = _; rw [pk_us]) ?_
      exact jk_iret K hz dX3_turnEast_45 (0, hb_zb 0, upd (a 3) i 0) rfl (Or.inl ⟨i, hi, rfl, by unfold hb_neg; rw [if_neg c_30]; rfl⟩) rfl (hb_zb_nar _) (Nat.le_of_ble_eq_true rfl) (Nat.le_of_ble_eq_true rfl)
    · refine jk_iconst (x := 1) K dX3_turnEast_33 rfl ?_
      refine jk_goto (tgt := 38) K dX3_turnEast_34 rfl ?_
      refine jk_zast (w' := (hm_M E X Y m 0 (nI n) S N (va_up a 3 (upd (a 3) i 1)))) K dX3_turnEast_38 (X.length + 2) hm_a3 (vp_in_nI (by omega) (by decide)) (by rw [nI_clamp (by omega), hm_zst _ _ (by decide)]; exact hm_t3) ?_
      refine jk_aload_n K dX3_turnEast_39 rfl 0 rfl ?_
      refine jk_get (C := RX3) (T := TX3) (N := 11) (nm := "east") (ds := "[Z") (v := .ref (m 3)) K dX3_turnEast_40 hin_RX3 (by decide +kernel) (X.length + 0) hm_x0 rfl 3 rfl (by decide) rfl ?_
      refine jk_iload_n K dX3_turnEast_43 rfl 1 rfl ?_
      refine jk_zald (v := (hb_zb 1)) K dX3_turnEast_44 (X.length + 2) hm_a3 (vp_in_nI (by omega) (by decide)) (by rw [nI_clamp (by omega)]; show hb_zb (upd (a 3) i 1 i) = _; rw [pk_us]) ?_
      exact jk_iret K hz dX3_turnEast_45 (0, hb_zb 1, upd (a 3) i 1) rfl (Or.inl ⟨i, hi, rfl, by unfold hb_neg; rw [if_pos c_30]; rfl⟩) rfl (hb_zb_nar _) (Nat.le_of_ble_eq_true rfl) (Nat.le_of_ble_eq_true rfl)
  · have hno : ¬ hb_ok n x := hm_noH hn c_10
    refine jk_aload_n K dX3_turnEast_13 rfl 0 rfl ?_
    refine jk_iconst (x := 1) K dX3_turnEast_14 rfl ?_
    refine jk_cVi K (n' := 0) (k' := 0) [.int 1] [] dX3_turnEast_15 (hb_X3_failed _ hl E X Y m 0 S N a n hn 1) gX3_turnEast_X3_failed rfl kd_X3_failed ⟨Nat.le_of_ble_eq_true rfl, Nat.le_of_ble_eq_true rfl⟩ (X.length + 0) hm_x0 rfl (Nat.le_of_ble_eq_true rfl) ⟨rfl, rfl⟩ ⟨Nat.le_of_ble_eq_true rfl, Nat.le_of_ble_eq_true rfl⟩ rfl (fun _ _ => ?_)
    exact jk_iret K hz dX3_turnEast_18 (1, 0, a 3) rfl (Or.inr ⟨hno, rfl⟩) rfl rfl (Nat.le_of_ble_eq_true rfl) (Nat.le_of_ble_eq_true rfl)
set_option maxHeartbeats 4000000 in
set_option maxRecDepth 100000 in
theorem hb_X3_turnPost (l : Launch) (hl : l.stackTraces = false) (E : jk_T) (X Y : va_W) (m : Nat → Nat) (th : Int32) (S : Nat → Int32) (N a : Nat → Nat → Int32) (n : Nat) (hn : n ≤ 10) (x : Int32) : jk_Ct l yX3_turnPost wsX3_turnPost ({ frames := 2, cells := 0, slots := 0, locals := 43 } : Room) [.ref (m 0), .int x] E (hm_M E X Y m th (nI n) S N a) (fun u : Int32 × Int32 × (Nat → Int32) => some (.int u.2.1)) (fun u => (hm_M E X Y m u.1 (nI n) S N (va_up a 4 u.2.2))) (fun u => (∃ i, i < n ∧ x = nI i ∧ u = (0, hb_neg (a 4 i), upd (a 4) i (hb_neg (a 4 i)))) ∨ (¬ hb_ok n x ∧ u = (1, 0, a 4))) := by
  refine jk_of (lv := [(0, .ref (m 0)), (1, .int x)]) (own := RX3) (nm := "turnPost") hl (by decide +kernel) rfl (Nat.le_of_ble_eq_true rfl) rfl rfl rfl (fun Γ hΓ K hnm hz => ?_)
  subst hΓ
  have hin_RX3 : ∀ w ∈ u_ws RX3 TX3 11, w ∈ wsX3_turnPost := by decide +kernel
  refine jk_aload_n K dX3_turnPost_0 rfl 0 rfl ?_
  refine jk_iconst (x := 0) K dX3_turnPost_1 rfl ?_
  refine jk_put (C := RX3) (T := TX3) (N := 11) (nm := "thrown") (ds := "I") (w' := (hm_M E X Y m 0 (nI n) S N a)) K dX3_turnPost_2 hin_RX3 tyX3 tyX3_ok nmX3 (by decide +kernel) (X.length + 0) hm_x0 rfl 0 rfl (by decide) rfl rfl rfl rfl (Nat.le_of_ble_eq_true rfl) (hm_s0 rfl) ?_
  refine jk_aload_n K dX3_turnPost_5 rfl 0 rfl ?_
  refine jk_iload_n K dX3_turnPost_6 rfl 1 rfl ?_
  refine jk_cVi K (n' := 0) (k' := 0) [.int x] [] dX3_turnPost_7 (hb_X3_isHill _ hl E X Y m 0 S N a n hn x) gX3_turnPost_X3_isHill rfl kd_X3_isHill ⟨Nat.le_of_ble_eq_true rfl, Nat.le_of_ble_eq_true rfl⟩ (X.length + 0) hm_x0 rfl (Nat.le_of_ble_eq_true rfl) ⟨rfl, rfl⟩ ⟨Nat.le_of_ble_eq_true rfl, Nat.le_of_ble_eq_true rfl⟩ rfl (fun _ _ => ?_)
  refine jk_if_ne (tgt := 19) K dX3_turnPost_10 rfl (fun c_10 => ?_) (fun c_10 => ?_)
  · obtain ⟨i, hi, rfl⟩ := hm_isH hn c_10
    refine jk_aload_n K dX3_turnPost_19 rfl 0 rfl ?_
    refine jk_get (C := RX3) (T := TX3) (N := 11) (nm := "post") (ds := "[Z") (v := .ref (m 4)) K dX3_turnPost_20 hin_RX3 (by decide +kernel) (X.length + 0) hm_x0 rfl 4 rfl (by decide) rfl ?_
    refine jk_iload_n K dX3_turnPost_23 rfl 1 rfl ?_
    refine jk_aload_n K dX3_turnPost_24 rfl 0 rfl ?_
    refine jk_get (C := RX3) (T := TX3) (N := 11) (nm := "post") (ds := "[Z") (v := .ref (m 4)) K dX3_turnPost_25 hin_RX3 (by decide +kernel) (X.length + 0) hm_x0 rfl 4 rfl (by decide) rfl ?_
    refine jk_iload_n K dX3_turnPost_28 rfl 1 rfl ?_
    refine jk_zald (v := (hb_zb (a 4 i))) K dX3_turnPost_29 (X.length + 3) hm_a4 (vp_in_nI (by omega) (by decide)) (by rw [nI_clamp (by omega)]) ?_
    refine jk_if_ne (tgt := 37) K dX3_turnPost_30 rfl (fun c_30 => ?_) (fun c_30 => ?_)
    · refine jk_iconst (x := 0) K dX3_turnPost_37 rfl ?_
      refine jk_zast (w' := (hm_M E X Y m 0 (nI n) S N (va_up a 4 (upd (a 4) i 0)))) K dX3_turnPost_38 (X.length + 3) hm_a4 (vp_in_nI (by omega) (by decide)) (by rw [nI_clamp (by omega), hm_zst _ _ (by decide)]; exact hm_t4) ?_
      refine jk_aload_n K dX3_turnPost_39 rfl 0 rfl ?_
      refine jk_get (C := RX3) (T := TX3) (N := 11) (nm := "post") (ds := "[Z") (v := .ref (m 4)) K dX3_turnPost_40 hin_RX3 (by decide +kernel) (X.length + 0) hm_x0 rfl 4 rfl (by decide) rfl ?_
      refine jk_iload_n K dX3_turnPost_43 rfl 1 rfl ?_
      refine jk_zald (v := (hb_zb 0)) K dX3_turnPost_44 (X.length + 3) hm_a4 (vp_in_nI (by omega) (by decide)) (by rw [nI_clamp (by omega)]; show hb_zb (upd (a 4) i 0 i) = _; rw [pk_us]) ?_
      exact jk_iret K hz dX3_turnPost_45 (0, hb_zb 0, upd (a 4) i 0) rfl (Or.inl ⟨i, hi, rfl, by unfold hb_neg; rw [if_neg c_30]; rfl⟩) rfl (hb_zb_nar _) (Nat.le_of_ble_eq_true rfl) (Nat.le_of_ble_eq_true rfl)
    · refine jk_iconst (x := 1) K dX3_turnPost_33 rfl ?_
      refine jk_goto (tgt := 38) K dX3_turnPost_34 rfl ?_
      refine jk_zast (w' := (hm_M E X Y m 0 (nI n) S N (va_up a 4 (upd (a 4) i 1)))) K dX3_turnPost_38 (X.length + 3) hm_a4 (vp_in_nI (by omega) (by decide)) (by rw [nI_clamp (by omega), hm_zst _ _ (by decide)]; exact hm_t4) ?_
      refine jk_aload_n K dX3_turnPost_39 rfl 0 rfl ?_
      refine jk_get (C := RX3) (T := TX3) (N := 11) (nm := "post") (ds := "[Z") (v := .ref (m 4)) K dX3_turnPost_40 hin_RX3 (by decide +kernel) (X.length + 0) hm_x0 rfl 4 rfl (by decide) rfl ?_
      refine jk_iload_n K dX3_turnPost_43 rfl 1 rfl ?_
      refine jk_zald (v := (hb_zb 1)) K dX3_turnPost_44 (X.length + 3) hm_a4 (vp_in_nI (by omega) (by decide)) (by rw [nI_clamp (by omega)]; show hb_zb (upd (a 4) i 1 i) = _; rw [pk_us]) ?_
      exact jk_iret K hz dX3_turnPost_45 (0, hb_zb 1, upd (a 4) i 1) rfl (Or.inl ⟨i, hi, rfl, by unfold hb_neg; rw [if_pos c_30]; rfl⟩) rfl (hb_zb_nar _) (Nat.le_of_ble_eq_true rfl) (Nat.le_of_ble_eq_true rfl)
  · have hno : ¬ hb_ok n x := hm_noH hn c_10
    refine jk_aload_n K dX3_turnPost_13 rfl 0 rfl ?_
    refine jk_iconst (x := 1) K dX3_turnPost_14 rfl ?_
    refine jk_cVi K (n' := 0) (k' := 0) [.int 1] [] dX3_turnPost_15 (hb_X3_failed _ hl E X Y m 0 S N a n hn 1) gX3_turnPost_X3_failed rfl kd_X3_failed ⟨Nat.le_of_ble_eq_true rfl, Nat.le_of_ble_eq_true rfl⟩ (X.length + 0) hm_x0 rfl (Nat.le_of_ble_eq_true rfl) ⟨rfl, rfl⟩ ⟨Nat.le_of_ble_eq_true rfl, Nat.le_of_ble_eq_true rfl⟩ rfl (fun _ _ => ?_)
    exact jk_iret K hz dX3_turnPost_18 (1, 0, a 4) rfl (Or.inr ⟨hno, rfl⟩) rfl rfl (Nat.le_of_ble_eq_true rfl) (Nat.le_of_ble_eq_true rfl)
set_option maxHeartbeats 4000000 in
set_option maxRecDepth 100000 in
theorem hb_X3_addHill (l : Launch) (hl : l.stackTraces = false) (E : jk_T) (X Y : va_W) (m : Nat → Nat) (th : Int32) (S : Nat → Int32) (N a : Nat → Nat → Int32) (n : Nat) (hn : n ≤ 10) (x y z : Int32) : jk_Ct l yX3_addHill wsX3_addHill ({ frames := 1, cells := 0, slots := 0, locals := 23 } : Room) [.ref (m 0), .int x, .int y, .int z] E (hm_M E X Y m th (nI n) S N a) (fun u : Int32 × Int32 × Int32 × (Nat → Nat → Int32) × (Nat → Int32) => some (.int u.2.1)) (fun u => (hm_M E X Y m u.1 u.2.2.1 S u.2.2.2.1 (va_up a 2 u.2.2.2.2))) (fun u => ((hb_bt x 0 30 ∧ hb_bt y 0 9 ∧ hb_bt z 1 5) ∧ n < 10 ∧ u = (0, nI n, nI (n + 1), va_up N n (hb_fu (hb_fu (hb_fu (N n) 0 x) 6 y) 4 (-1)), upd (a 2) n z)) ∨ ((hb_bt x 0 30 ∧ hb_bt y 0 9 ∧ hb_bt z 1 5) ∧ n = 10 ∧ u = (2, 0, nI n, N, a 2)) ∨ (¬ (hb_bt x 0 30 ∧ hb_bt y 0 9 ∧ hb_bt z 1 5) ∧ u = (1, 0, nI n, N, a 2))) := by
  refine jk_of (lv := [(0, .ref (m 0)), (1, .int x), (2, .int y), (3, .int z)]) (own := RX3) (nm := "addHill") hl (by decide +kernel) rfl (Nat.le_of_ble_eq_true rfl) rfl rfl rfl (fun Γ hΓ K hnm hz => ?_)
  subst hΓ
  have hin_RX3 : ∀ w ∈ u_ws RX3 TX3 11, w ∈ wsX3_addHill := by decide +kernel
  refine jk_aload_n K dX3_addHill_0 rfl 0 rfl ?_
  refine jk_iconst (x := 0) K dX3_addHill_1 rfl ?_
  refine jk_put (C := RX3) (T := TX3) (N := 11) (nm := "thrown") (ds := "I") (w' := (hm_M E X Y m 0 (nI n) S N a)) K dX3_addHill_2 hin_RX3 tyX3 tyX3_ok nmX3 (by decide +kernel) (X.length + 0) hm_x0 rfl 0 rfl (by decide) rfl rfl rfl rfl (Nat.le_of_ble_eq_true rfl) (hm_s0 rfl) ?_
  refine jk_iload_n K dX3_addHill_5 rfl 1 rfl ?_
  refine jk_iconst (x := 0) K dX3_addHill_6 rfl ?_
  refine jk_bipush (x := 30) K dX3_addHill_7 rfl ?_
  refine jk_cSi K (n' := 0) (k' := 0) [.int x, .int 0, .int 30] [] dX3_addHill_9 (hb_X3_isIn _ hl E (hm_M E X Y m 0 (nI n) S N a) x 0 30) gX3_addHill_X3_isIn rfl kd_X3_isIn ⟨Nat.le_of_ble_eq_true rfl, Nat.le_of_ble_eq_true rfl⟩ (Nat.le_of_ble_eq_true rfl) ⟨rfl, rfl⟩ ⟨Nat.le_of_ble_eq_true rfl, Nat.le_of_ble_eq_true rfl⟩ rfl (fun _ _ => ?_)
  refine jk_if_eq (tgt := 34) K dX3_addHill_12 rfl (fun c_12 => ?_) (fun c_12 => ?_)
  · refine jk_aload_n K dX3_addHill_34 rfl 0 rfl ?_
    refine jk_iconst (x := 1) K dX3_addHill_35 rfl ?_
    refine jk_cVi K (n' := 0) (k' := 0) [.int 1] [] dX3_addHill_36 (hb_X3_fail _ hl E X Y m 0 S N a n hn 1) gX3_addHill_X3_fail rfl kd_X3_fail ⟨Nat.le_of_ble_eq_true rfl, Nat.le_of_ble_eq_true rfl⟩ (X.length + 0) hm_x0 rfl (Nat.le_of_ble_eq_true rfl) ⟨rfl, rfl⟩ ⟨Nat.le_of_ble_eq_true rfl, Nat.le_of_ble_eq_true rfl⟩ rfl (fun _ _ => ?_)
    exact jk_iret K hz dX3_addHill_39 (1, 0, nI n, N, a 2) rfl (Or.inr (Or.inr ⟨fun q => (hm_in_bt.mpr q.1) c_12, rfl⟩)) rfl rfl (Nat.le_of_ble_eq_true rfl) (Nat.le_of_ble_eq_true rfl)
  · refine jk_iload_n K dX3_addHill_15 rfl 2 rfl ?_
    refine jk_iconst (x := 0) K dX3_addHill_16 rfl ?_
    refine jk_bipush (x := 9) K dX3_addHill_17 rfl ?_
    refine jk_cSi K (n' := 0) (k' := 0) [.int y, .int 0, .int 9] [] dX3_addHill_19 (hb_X3_isIn _ hl E (hm_M E X Y m 0 (nI n) S N a) y 0 9) gX3_addHill_X3_isIn rfl kd_X3_isIn ⟨Nat.le_of_ble_eq_true rfl, Nat.le_of_ble_eq_true rfl⟩ (Nat.le_of_ble_eq_true rfl) ⟨rfl, rfl⟩ ⟨Nat.le_of_ble_eq_true rfl, Nat.le_of_ble_eq_true rfl⟩ rfl (fun _ _ => ?_)
    refine jk_if_eq (tgt := 34) K dX3_addHill_22 rfl (fun c_22 => ?_) (fun c_22 => ?_)
    · refine jk_aload_n K dX3_addHill_34 rfl 0 rfl ?_
      refine jk_iconst (x := 1) K dX3_addHill_35 rfl ?_
      refine jk_cVi K (n' := 0) (k' := 0) [.int 1] [] dX3_addHill_36 (hb_X3_fail _ hl E X Y m 0 S N a n hn 1) gX3_addHill_X3_fail rfl kd_X3_fail ⟨Nat.le_of_ble_eq_true rfl, Nat.le_of_ble_eq_true rfl⟩ (X.length + 0) hm_x0 rfl (Nat.le_of_ble_eq_true rfl) ⟨rfl, rfl⟩ ⟨Nat.le_of_ble_eq_true rfl, Nat.le_of_ble_eq_true rfl⟩ rfl (fun _ _ => ?_)
      exact jk_iret K hz dX3_addHill_39 (1, 0, nI n, N, a 2) rfl (Or.inr (Or.inr ⟨fun q => (hm_in_bt.mpr q.2.1) c_22, rfl⟩)) rfl rfl (Nat.le_of_ble_eq_true rfl) (Nat.le_of_ble_eq_true rfl)
    · refine jk_iload_n K dX3_addHill_25 rfl 3 rfl ?_
      refine jk_iconst (x := 1) K dX3_addHill_26 rfl ?_
      refine jk_iconst (x := 5) K dX3_addHill_27 rfl ?_
      refine jk_cSi K (n' := 0) (k' := 0) [.int z, .int 1, .int 5] [] dX3_addHill_28 (hb_X3_isIn _ hl E (hm_M E X Y m 0 (nI n) S N a) z 1 5) gX3_addHill_X3_isIn rfl kd_X3_isIn ⟨Nat.le_of_ble_eq_true rfl, Nat.le_of_ble_eq_true rfl⟩ (Nat.le_of_ble_eq_true rfl) ⟨rfl, rfl⟩ ⟨Nat.le_of_ble_eq_true rfl, Nat.le_of_ble_eq_true rfl⟩ rfl (fun _ _ => ?_)
      refine jk_if_ne (tgt := 40) K dX3_addHill_31 rfl (fun c_31 => ?_) (fun c_31 => ?_)
      · refine jk_aload_n K dX3_addHill_40 rfl 0 rfl ?_
        refine jk_get (C := RX3) (T := TX3) (N := 11) (nm := "hills") (ds := "I") (v := .int (nI n)) K dX3_addHill_41 hin_RX3 (by decide +kernel) (X.length + 0) hm_x0 rfl 1 rfl (by decide) rfl ?_
        refine jk_bipush (x := (nI 10)) K dX3_addHill_44 rfl ?_
        refine jk_icmp_ne (tgt := 55) K dX3_addHill_46 rfl (fun c_46 => ?_) (fun c_46 => ?_)
        · have hn10 : n < 10 := by rcases Nat.lt_or_ge n 10 with q | q <;> first | exact q | exact absurd (by rw [show n = 10 by omega]) c_46
          refine jk_aload_n K dX3_addHill_55 rfl 0 rfl ?_
          refine jk_aload_n K dX3_addHill_56 rfl 0 rfl ?_
          refine jk_get (C := RX3) (T := TX3) (N := 11) (nm := "hills") (ds := "I") (v := .int (nI n)) K dX3_addHill_57 hin_RX3 (by decide +kernel) (X.length + 0) hm_x0 rfl 1 rfl (by decide) rfl ?_
          refine jk_iconst (x := 0) K dX3_addHill_60 rfl ?_
          refine jk_iload_n K dX3_addHill_61 rfl 1 rfl ?_
          refine jk_cVv K (n' := 0) (k' := 0) [.int (nI n), .int (nI 0), .int x] [] dX3_addHill_62 (hb_X3_let _ hl E X Y m 0 S N a n hn n 0 hn10 (by decide) x) gX3_addHill_X3_let rfl kd_X3_let ⟨Nat.le_of_ble_eq_true rfl, Nat.le_of_ble_eq_true rfl⟩ (X.length + 0) hm_x0 rfl (Nat.le_of_ble_eq_true rfl) ⟨rfl, rfl⟩ ⟨Nat.le_of_ble_eq_true rfl, Nat.le_of_ble_eq_true rfl⟩ rfl (fun _ _ => ?_)
          refine jk_aload_n K dX3_addHill_65 rfl 0 rfl ?_
          refine jk_aload_n K dX3_addHill_66 rfl 0 rfl ?_
          refine jk_get (C := RX3) (T := TX3) (N := 11) (nm := "hills") (ds := "I") (v := .int (nI n)) K dX3_addHill_67 hin_RX3 (by decide +kernel) (X.length + 0) hm_x0 rfl 1 rfl (by decide) rfl ?_
          refine jk_bipush (x := 6) K dX3_addHill_70 rfl ?_
          refine jk_iload_n K dX3_addHill_72 rfl 2 rfl ?_
          refine jk_cVv K (n' := 0) (k' := 0) [.int (nI n), .int (nI 6), .int y] [] dX3_addHill_73 (hb_X3_let _ hl E X Y m 0 S (va_up N n (hb_fu (N n) 0 x)) a n hn n 6 hn10 (by decide) y) gX3_addHill_X3_let rfl kd_X3_let ⟨Nat.le_of_ble_eq_true rfl, Nat.le_of_ble_eq_true rfl⟩ (X.length + 0) hm_x0 rfl (Nat.le_of_ble_eq_true rfl) ⟨rfl, rfl⟩ ⟨Nat.le_of_ble_eq_true rfl, Nat.le_of_ble_eq_true rfl⟩ rfl (fun _ _ => ?_)
          refine jk_ws (ws' := (hm_M E X Y m 0 (nI n) S (va_up N n (hb_fu (hb_fu (N n) 0 x) 6 y)) a)) (by rw [va_up_self, hb_up_up]) ?_
          refine jk_aload_n K dX3_addHill_76 rfl 0 rfl ?_
          refine jk_aload_n K dX3_addHill_77 rfl 0 rfl ?_
          refine jk_get (C := RX3) (T := TX3) (N := 11) (nm := "hills") (ds := "I") (v := .int (nI n)) K dX3_addHill_78 hin_RX3 (by decide +kernel) (X.length + 0) hm_x0 rfl 1 rfl (by decide) rfl ?_
          refine jk_iconst (x := 4) K dX3_addHill_81 rfl ?_
          refine jk_iconst (x := (-1)) K dX3_addHill_82 rfl ?_
          refine jk_cVv K (n' := 0) (k' := 0) [.int (nI n), .int (nI 4), .int (-1)] [] dX3_addHill_83 (hb_X3_let _ hl E X Y m 0 S (va_up N n (hb_fu (hb_fu (N n) 0 x) 6 y)) a n hn n 4 hn10 (by decide) (-1)) gX3_addHill_X3_let rfl kd_X3_let ⟨Nat.le_of_ble_eq_true rfl, Nat.le_of_ble_eq_true rfl⟩ (X.length + 0) hm_x0 rfl (Nat.le_of_ble_eq_true rfl) ⟨rfl, rfl⟩ ⟨Nat.le_of_ble_eq_true rfl, Nat.le_of_ble_eq_true rfl⟩ rfl (fun _ _ => ?_)
          refine jk_ws (ws' := (hm_M E X Y m 0 (nI n) S (va_up N n (hb_fu (hb_fu (hb_fu (N n) 0 x) 6 y) 4 (-1))) a)) (by rw [va_up_self, hb_up_up]) ?_
          refine jk_aload_n K dX3_addHill_86 rfl 0 rfl ?_
          refine jk_get (C := RX3) (T := TX3) (N := 11) (nm := "watch") (ds := "[I") (v := .ref (m 2)) K dX3_addHill_87 hin_RX3 (by decide +kernel) (X.length + 0) hm_x0 rfl 2 rfl (by decide) rfl ?_
          refine jk_aload_n K dX3_addHill_90 rfl 0 rfl ?_
          refine jk_get (C := RX3) (T := TX3) (N := 11) (nm := "hills") (ds := "I") (v := .int (nI n)) K dX3_addHill_91 hin_RX3 (by decide +kernel) (X.length + 0) hm_x0 rfl 1 rfl (by decide) rfl ?_
          refine jk_iload_n K dX3_addHill_94 rfl 3 rfl ?_
          refine jk_iast (w' := (hm_M E X Y m 0 (nI n) S (va_up N n (hb_fu (hb_fu (hb_fu (N n) 0 x) 6 y) 4 (-1))) (va_up a 2 (upd (a 2) n z)))) K dX3_addHill_95 (X.length + 1) hm_a2 (vp_in_nI (by omega) (by decide)) (by rw [nI_clamp (by omega)]; exact hm_t2) ?_
          refine jk_aload_n K dX3_addHill_96 rfl 0 rfl ?_
          refine jk_dup K dX3_addHill_97 rfl ?_
          refine jk_get (C := RX3) (T := TX3) (N := 11) (nm := "hills") (ds := "I") (v := .int (nI n)) K dX3_addHill_98 hin_RX3 (by decide +kernel) (X.length + 0) hm_x0 rfl 1 rfl (by decide) rfl ?_
          refine jk_iconst (x := 1) K dX3_addHill_101 rfl ?_
          refine jk_iadd K dX3_addHill_102 ?_
          refine jk_st (st' := [.int (nI (n + 1)), .ref (m 0)]) (by rw [nI_1]) ?_
          refine jk_put (C := RX3) (T := TX3) (N := 11) (nm := "hills") (ds := "I") (w' := (hm_M E X Y m 0 (nI (n + 1)) S (va_up N n (hb_fu (hb_fu (hb_fu (N n) 0 x) 6 y) 4 (-1))) (va_up a 2 (upd (a 2) n z)))) K dX3_addHill_103 hin_RX3 tyX3 tyX3_ok nmX3 (by decide +kernel) (X.length + 0) hm_x0 rfl 1 rfl (by decide) rfl rfl rfl rfl (Nat.le_of_ble_eq_true rfl) (hm_s0 rfl) ?_
          refine jk_aload_n K dX3_addHill_106 rfl 0 rfl ?_
          refine jk_get (C := RX3) (T := TX3) (N := 11) (nm := "hills") (ds := "I") (v := .int (nI (n + 1))) K dX3_addHill_107 hin_RX3 (by decide +kernel) (X.length + 0) hm_x0 rfl 1 rfl (by decide) rfl ?_
          refine jk_iconst (x := 1) K dX3_addHill_110 rfl ?_
          refine jk_isub K dX3_addHill_111 ?_
          refine jk_st (st' := [.int (nI n)]) (by rw [nI_pred]) ?_
          exact jk_iret K hz dX3_addHill_112 (0, nI n, nI (n + 1), va_up N n (hb_fu (hb_fu (hb_fu (N n) 0 x) 6 y) 4 (-1)), upd (a 2) n z) rfl (Or.inl ⟨⟨hm_in_bt.mp c_12, hm_in_bt.mp c_22, hm_in_bt.mp c_31⟩, hn10, rfl⟩) rfl rfl (Nat.le_of_ble_eq_true rfl) (Nat.le_of_ble_eq_true rfl)
        · have hn10 : n = 10 := (nI_eq (by omega) (by omega)).mp c_46
          refine jk_aload_n K dX3_addHill_49 rfl 0 rfl ?_
          refine jk_iconst (x := 2) K dX3_addHill_50 rfl ?_
          refine jk_cVi K (n' := 0) (k' := 0) [.int 2] [] dX3_addHill_51 (hb_X3_fail _ hl E X Y m 0 S N a n hn 2) gX3_addHill_X3_fail rfl kd_X3_fail ⟨Nat.le_of_ble_eq_true rfl, Nat.le_of_ble_eq_true rfl⟩ (X.length + 0) hm_x0 rfl (Nat.le_of_ble_eq_true rfl) ⟨rfl, rfl⟩ ⟨Nat.le_of_ble_eq_true rfl, Nat.le_of_ble_eq_true rfl⟩ rfl (fun _ _ => ?_)
          exact jk_iret K hz dX3_addHill_54 (2, 0, nI n, N, a 2) rfl (Or.inr (Or.inl ⟨⟨hm_in_bt.mp c_12, hm_in_bt.mp c_22, hm_in_bt.mp c_31⟩, hn10, rfl⟩)) rfl rfl (Nat.le_of_ble_eq_true rfl) (Nat.le_of_ble_eq_true rfl)
      · refine jk_aload_n K dX3_addHill_34 rfl 0 rfl ?_
        refine jk_iconst (x := 1) K dX3_addHill_35 rfl ?_
        refine jk_cVi K (n' := 0) (k' := 0) [.int 1] [] dX3_addHill_36 (hb_X3_fail _ hl E X Y m 0 S N a n hn 1) gX3_addHill_X3_fail rfl kd_X3_fail ⟨Nat.le_of_ble_eq_true rfl, Nat.le_of_ble_eq_true rfl⟩ (X.length + 0) hm_x0 rfl (Nat.le_of_ble_eq_true rfl) ⟨rfl, rfl⟩ ⟨Nat.le_of_ble_eq_true rfl, Nat.le_of_ble_eq_true rfl⟩ rfl (fun _ _ => ?_)
        exact jk_iret K hz dX3_addHill_39 (1, 0, nI n, N, a 2) rfl (Or.inr (Or.inr ⟨fun q => (hm_in_bt.mpr q.2.2) c_31, rfl⟩)) rfl rfl (Nat.le_of_ble_eq_true rfl) (Nat.le_of_ble_eq_true rfl)
