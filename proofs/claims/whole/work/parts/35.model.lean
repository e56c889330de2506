theorem kd_X3_fail : yX3_fail.cls = RX3 ∧ yX3_fail.cls ≠ "java/lang/invoke/MethodHandle" ∧ yX3_fail.cls ≠ "java/lang/invoke/VarHandle" ∧ (parseMethodDescriptor yX3_fail.desc).map (fun d => d.parameters.length) = some 1 := by decide +kernel
theorem kd_X3_failed : yX3_failed.cls = RX3 ∧ yX3_failed.cls ≠ "java/lang/invoke/MethodHandle" ∧ yX3_failed.cls ≠ "java/lang/invoke/VarHandle" ∧ (parseMethodDescriptor yX3_failed.desc).map (fun d => d.parameters.length) = some 1 := by decide +kernel
theorem kd_X3_hill : yX3_hill.cls = RX3 ∧ yX3_hill.cls ≠ "java/lang/invoke/MethodHandle" ∧ yX3_hill.cls ≠ "java/lang/invoke/VarHandle" ∧ (parseMethodDescriptor yX3_hill.desc).map (fun d => d.parameters.length) = some 2 := by decide +kernel
theorem kd_X3_isHill : yX3_isHill.cls = RX3 ∧ yX3_isHill.cls ≠ "java/lang/invoke/MethodHandle" ∧ yX3_isHill.cls ≠ "java/lang/invoke/VarHandle" ∧ (parseMethodDescriptor yX3_isHill.desc).map (fun d => d.parameters.length) = some 1 := by decide +kernel
set_option maxHeartbeats 4000000 in
set_option maxRecDepth 100000 in
theorem hb_X3_hill (l : Launch) (hl : l.stackTraces = false) (E : jk_T) (X Y : va_W) (m : Nat → Nat) (th : Int32) (S : Nat → Int32) (N a : Nat → Nat → Int32) (n : Nat) (hn : n ≤ 10) (x : Int32) (w : Nat) (hw : w < 7) : jk_Ct l yX3_hill wsX3_hill ({ frames := 2, cells := 0, slots := 0, locals := 43 } : Room) [.ref (m 0), .int x, .int (nI w)] E (hm_M E X Y m th (nI n) S N a) (fun u : Int32 × Int32 => some (.int u.2)) (fun u => (hm_M E X Y m u.1 (nI n) S N a)) (fun u => (∃ i, i < n ∧ x = nI i ∧ u = (0, N i w)) ∨ (¬ hb_ok n x ∧ u = (1, 0))) := by
  refine jk_of (lv := [(0, .ref (m 0)), (1, .int x), (2, .int (nI w))]) (own := RX3) (nm := "hill") hl (by decide +kernel) rfl (Nat.le_of_ble_eq_true rfl) rfl rfl rfl (fun Γ hΓ K hnm hz => ?_)
  subst hΓ
  have hin_RX3 : ∀ w ∈ u_ws RX3 TX3 11, w ∈ wsX3_hill := by decide +kernel
  refine jk_aload_n K dX3_hill_0 rfl 0 rfl ?_
  refine jk_iconst (x := 0) K dX3_hill_1 rfl ?_
  refine jk_put (C := RX3) (T := TX3) (N := 11) (nm := "thrown") (ds := "I") (w' := (hm_M E X Y m 0 (nI n) S N a)) K dX3_hill_2 hin_RX3 tyX3 tyX3_ok nmX3 (by decide +kernel) (X.length + 0) hm_x0 rfl 0 rfl (by decide) rfl rfl rfl rfl (Nat.le_of_ble_eq_true rfl) (hm_s0 rfl) ?_
  refine jk_aload_n K dX3_hill_5 rfl 0 rfl ?_
  refine jk_iload_n K dX3_hill_6 rfl 1 rfl ?_
  refine jk_cVi K (n' := 0) (k' := 0) [.int x] [] dX3_hill_7 (hb_X3_isHill _ hl E X Y m 0 S N a n hn x) gX3_hill_X3_isHill rfl kd_X3_isHill ⟨Nat.le_of_ble_eq_true rfl, Nat.le_of_ble_eq_true rfl⟩ (X.length + 0) hm_x0 rfl (Nat.le_of_ble_eq_true rfl) ⟨rfl, rfl⟩ ⟨Nat.le_of_ble_eq_true rfl, Nat.le_of_ble_eq_true rfl⟩ rfl (fun _ _ => ?_)
  refine jk_if_eq (tgt := 22) K dX3_hill_10 rfl (fun c_10 => ?_) (fun c_10 => ?_)
  · have hno : ¬ hb_ok n x := hm_noH hn c_10
    refine jk_aload_n K dX3_hill_22 rfl 0 rfl ?_
    refine jk_iconst (x := 1) K dX3_hill_23 rfl ?_
    refine jk_cVi K (n' := 0) (k' := 0) [.int 1] [] dX3_hill_24 (hb_X3_fail _ hl E X Y m 0 S N a n hn 1) gX3_hill_X3_fail rfl kd_X3_fail ⟨Nat.le_of_ble_eq_true rfl, Nat.le_of_ble_eq_true rfl⟩ (X.length + 0) hm_x0 rfl (Nat.le_of_ble_eq_true rfl) ⟨rfl, rfl⟩ ⟨Nat.le_of_ble_eq_true rfl, Nat.le_of_ble_eq_true rfl⟩ rfl (fun _ _ => ?_)
    exact jk_iret K hz dX3_hill_27 (1, 0) rfl (Or.inr ⟨hno, rfl⟩) rfl rfl (Nat.le_of_ble_eq_true rfl) (Nat.le_of_ble_eq_true rfl)
  · obtain ⟨i, hi, rfl⟩ := hm_isH hn c_10
    refine jk_aload_n K dX3_hill_13 rfl 0 rfl ?_
    refine jk_iload_n K dX3_hill_14 rfl 1 rfl ?_
    refine jk_iload_n K dX3_hill_15 rfl 2 rfl ?_
    refine jk_cVi K (n' := 0) (k' := 0) [.int (nI i), .int (nI w)] [] dX3_hill_16 (hb_X3_hi _ hl E X Y m 0 S N a n hn i w (Nat.lt_of_lt_of_le hi hn) hw) gX3_hill_X3_hi rfl kd_X3_hi ⟨Nat.le_of_ble_eq_true rfl, Nat.le_of_ble_eq_true rfl⟩ (X.length + 0) hm_x0 rfl (Nat.le_of_ble_eq_true rfl) ⟨rfl, rfl⟩ ⟨Nat.le_of_ble_eq_true rfl, Nat.le_of_ble_eq_true rfl⟩ rfl (fun _ _ => ?_)
    refine jk_goto (tgt := 27) K dX3_hill_19 rfl ?_
    exact jk_iret K hz dX3_hill_27 (0, N i w) rfl (Or.inl ⟨i, hi, rfl, rfl⟩) rfl rfl (Nat.le_of_ble_eq_true rfl) (Nat.le_of_ble_eq_true rfl)
set_option maxHeartbeats 4000000 in
set_option maxRecDepth 100000 in
theorem hb_X3_woodOf (l : Launch) (hl : l.stackTraces = false) (E : jk_T) (X Y : va_W) (m : Nat → Nat) (th : Int32) (S : Nat → Int32) (N a : Nat → Nat → Int32) (n : Nat) (hn : n ≤ 10) (x : Int32) : jk_Ct l yX3_woodOf wsX3_woodOf ({ frames := 3, cells := 0, slots := 0, locals := 65 } : Room) [.ref (m 0), .int x] E (hm_M E X Y m th (nI n) S N a) (fun u : Int32 × Int32 => some (.int u.2)) (fun u => (hm_M E X Y m u.1 (nI n) S N a)) (fun u => (∃ i, i < n ∧ x = nI i ∧ u = (0, N i 0)) ∨ (¬ hb_ok n x ∧ u = (1, 0))) := by
  refine jk_of (lv := [(0, .ref (m 0)), (1, .int x)]) (own := RX3) (nm := "woodOf") hl (by decide +kernel) rfl (Nat.le_of_ble_eq_true rfl) rfl rfl rfl (fun Γ hΓ K hnm hz => ?_)
  subst hΓ
  refine jk_aload_n K dX3_woodOf_0 rfl 0 rfl ?_
  refine jk_iload_n K dX3_woodOf_1 rfl 1 rfl ?_
  refine jk_iconst (x := 0) K dX3_woodOf_2 rfl ?_
  refine jk_cVi K (n' := 0) (k' := 0) [.int x, .int (nI 0)] [] dX3_woodOf_3 (hb_X3_hill _ hl E X Y m th S N a n hn x 0 (by decide)) gX3_woodOf_X3_hill rfl kd_X3_hill ⟨Nat.le_of_ble_eq_true rfl, Nat.le_of_ble_eq_true rfl⟩ (X.length + 0) hm_x0 rfl (Nat.le_of_ble_eq_true rfl) ⟨rfl, rfl⟩ ⟨Nat.le_of_ble_eq_true rfl, Nat.le_of_ble_eq_true rfl⟩ rfl (fun u1 hu1 => ?_)
  exact jk_iret K hz dX3_woodOf_6 u1 rfl hu1 rfl rfl (Nat.le_of_ble_eq_true rfl) (Nat.le_of_ble_eq_true rfl)
set_option maxHeartbeats 4000000 in
set_option maxRecDepth 100000 in
theorem hb_X3_dampOf (l : Launch) (hl : l.stackTraces = false) (E : jk_T) (X Y : va_W) (m : Nat → Nat) (th : Int32) (S : Nat → Int32) (N a : Nat → Nat → Int32) (n : Nat) (hn : n ≤ 10) (x : Int32) : jk_Ct l yX3_dampOf wsX3_dampOf ({ frames := 3, cells := 0, slots := 0, locals := 65 } : Room) [.ref (m 0), .int x] E (hm_M E X Y m th (nI n) S N a) (fun u : Int32 × Int32 => some (.int u.2)) (fun u => (hm_M E X Y m u.1 (nI n) S N a)) (fun u => (∃ i, i < n ∧ x = nI i ∧ u = (0, N i 6)) ∨ (¬ hb_ok n x ∧ u = (1, 0))) := by
  refine jk_of (lv := [(0, .ref (m 0)), (1, .int x)]) (own := RX3) (nm := "dampOf") hl (by decide +kernel) rfl (Nat.le_of_ble_eq_true rfl) rfl rfl rfl (fun Γ hΓ K hnm hz => ?_)
  subst hΓ
  refine jk_aload_n K dX3_dampOf_0 rfl 0 rfl ?_
  refine jk_iload_n K dX3_dampOf_1 rfl 1 rfl ?_
  refine jk_bipush (x := 6) K dX3_dampOf_2 rfl ?_
  refine jk_cVi K (n' := 0) (k' := 0) [.int x, .int (nI 6)] [] dX3_dampOf_4 (hb_X3_hill _ hl E X Y m th S N a n hn x 6 (by decide)) gX3_dampOf_X3_hill rfl kd_X3_hill ⟨Nat.le_of_ble_eq_true rfl, Nat.le_of_ble_eq_true rfl⟩ (X.length + 0) hm_x0 rfl (Nat.le_of_ble_eq_true rfl) ⟨rfl, rfl⟩ ⟨Nat.le_of_ble_eq_true rfl, Nat.le_of_ble_eq_true rfl⟩ rfl (fun u1 hu1 => ?_)
  exact jk_iret K hz dX3_dampOf_7 u1 rfl hu1 rfl rfl (Nat.le_of_ble_eq_true rfl) (Nat.le_of_ble_eq_true rfl)
set_option maxHeartbeats 4000000 in
set_option maxRecDepth 100000 in
theorem hb_X3_minutesToBurn (l : Launch) (hl : l.stackTraces = false) (E : jk_T) (X Y : va_W) (m : Nat → Nat) (th : Int32) (S : Nat → Int32) (N a : Nat → Nat → Int32) (n : Nat) (hn : n ≤ 10) (x : Int32) : jk_Ct l yX3_minutesToBurn wsX3_minutesToBurn ({ frames := 3, cells := 0, slots := 0, locals := 65 } : Room) [.ref (m 0), .int x] E (hm_M E X Y m th (nI n) S N a) (fun u : Int32 × Int32 => some (.int u.2)) (fun u => (hm_M E X Y m u.1 (nI n) S N a)) (fun u => (∃ i, i < n ∧ x = nI i ∧ u = (0, N i 2)) ∨ (¬ hb_ok n x ∧ u = (1, 0))) := by
  refine jk_of (lv := [(0, .ref (m 0)), (1, .int x)]) (own := RX3) (nm := "minutesToBurn") hl (by decide +kernel) rfl (Nat.le_of_ble_eq_true rfl) rfl rfl rfl (fun Γ hΓ K hnm hz => ?_)
  subst hΓ
  refine jk_aload_n K dX3_minutesToBurn_0 rfl 0 rfl ?_
  refine jk_iload_n K dX3_minutesToBurn_1 rfl 1 rfl ?_
  refine jk_iconst (x := 2) K dX3_minutesToBurn_2 rfl ?_
  refine jk_cVi K (n' := 0) (k' := 0) [.int x, .int (nI 2)] [] dX3_minutesToBurn_3 (hb_X3_hill _ hl E X Y m th S N a n hn x 2 (by decide)) gX3_minutesToBurn_X3_hill rfl kd_X3_hill ⟨Nat.le_of_ble_eq_true rfl, Nat.le_of_ble_eq_true rfl⟩ (X.length + 0) hm_x0 rfl (Nat.le_of_ble_eq_true rfl) ⟨rfl, rfl⟩ ⟨Nat.le_of_ble_eq_true rfl, Nat.le_of_ble_eq_true rfl⟩ rfl (fun u1 hu1 => ?_)
  exact jk_iret K hz dX3_minutesToBurn_6 u1 rfl hu1 rfl rfl (Nat.le_of_ble_eq_true rfl) (Nat.le_of_ble_eq_true rfl)
set_option maxHeartbeats 4000000 in
set_option maxRecDepth 100000 in
theorem hb_X3_lookingFor (l : Launch) (hl : l.stackTraces = false) (E : jk_T) (X Y : va_W) (m : Nat → Nat) (th : Int32) (S : Nat → Int32) (N a : Nat → Nat → Int32) (n : Nat) (hn : n ≤ 10) (x : Int32) : jk_Ct l yX3_lookingFor wsX3_lookingFor ({ frames := 3, cells := 0, slots := 0, locals := 65 } : Room) [.ref (m 0), .int x] E (hm_M E X Y m th (nI n) S N a) (fun u : Int32 × Int32 => some (.int u.2)) (fun u => (hm_M E X Y m u.1 (nI n) S N a)) (fun u => (∃ i, i < n ∧ x = nI i ∧ u = (0, N i 3)) ∨ (¬ hb_ok n x ∧ u = (1, 0))) := by
  refine jk_of (lv := [(0, .ref (m 0)), (1, .int x)]) (own := RX3) (nm := "lookingFor") hl (by decide +kernel) rfl (Nat.le_of_ble_eq_true rfl) rfl rfl rfl (fun Γ hΓ K hnm hz => ?_)
  subst hΓ
  refine jk_aload_n K dX3_lookingFor_0 rfl 0 rfl ?_
  refine jk_iload_n K dX3_lookingFor_1 rfl 1 rfl ?_
  refine jk_iconst (x := 3) K dX3_lookingFor_2 rfl ?_
  refine jk_cVi K (n' := 0) (k' := 0) [.int x, .int (nI 3)] [] dX3_lookingFor_3 (hb_X3_hill _ hl E X Y m th S N a n hn x 3 (by decide)) gX3_lookingFor_X3_hill rfl kd_X3_hill ⟨Nat.le_of_ble_eq_true rfl, Nat.le_of_ble_eq_true rfl⟩ (X.length + 0) hm_x0 rfl (Nat.le_of_ble_eq_true rfl) ⟨rfl, rfl⟩ ⟨Nat.le_of_ble_eq_true rfl, Nat.le_of_ble_eq_true rfl⟩ rfl (fun u1 hu1 => ?_)
  exact jk_iret K hz dX3_lookingFor_6 u1 rfl hu1 rfl rfl (Nat.le_of_ble_eq_true rfl) (Nat.le_of_ble_eq_true rfl)
set_option maxHeartbeats 4000000 in
set_option maxRecDepth 100000 in
theorem hb_X3_answersTo (l : Launch) (hl : l.stackTraces = false) (E : jk_T) (X Y : va_W) (m : Nat → Nat) (th : Int32) (S : Nat → Int32) (N a : Nat → Nat → Int32) (n : Nat) (hn : n ≤ 10) (x : Int32) : jk_Ct l yX3_answersTo wsX3_answersTo ({ frames := 3, cells := 0, slots := 0, locals := 65 } : Room) [.ref (m 0), .int x] E (hm_M E X Y m th (nI n) S N a) (fun u : Int32 × Int32 => some (.int u.2)) (fun u => (hm_M E X Y m u.1 (nI n) S N a)) (fun u => (∃ i, i < n ∧ x = nI i ∧ u = (0, N i 5)) ∨ (¬ hb_ok n x ∧ u = (1, 0))) := by
  refine jk_of (lv := [(0, .ref (m 0)), (1, .int x)]) (own := RX3) (nm := "answersTo") hl (by decide +kernel) rfl (Nat.le_of_ble_eq_true rfl) rfl rfl rfl (fun Γ hΓ K hnm hz => ?_)
  subst hΓ
  refine jk_aload_n K dX3_answersTo_0 rfl 0 rfl ?_
  refine jk_iload_n K dX3_answersTo_1 rfl 1 rfl ?_
  refine jk_iconst (x := 5) K dX3_answersTo_2 rfl ?_
  refine jk_cVi K (n' := 0) (k' := 0) [.int x, .int (nI 5)] [] dX3_answersTo_3 (hb_X3_hill _ hl E X Y m th S N a n hn x 5 (by decide)) gX3_answersTo_X3_hill rfl kd_X3_hill ⟨Nat.le_of_ble_eq_true rfl, Nat.le_of_ble_eq_true rfl⟩ (X.length + 0) hm_x0 rfl (Nat.le_of_ble_eq_true rfl) ⟨rfl, rfl⟩ ⟨Nat.le_of_ble_eq_true rfl, Nat.le_of_ble_eq_true rfl⟩ rfl (fun u1 hu1 => ?_)
  exact jk_iret K hz dX3_answersTo_6 u1 rfl hu1 rfl rfl (Nat.le_of_ble_eq_true rfl) (Nat.le_of_ble_eq_true rfl)
set_option maxHeartbeats 4000000 in
set_option maxRecDepth 100000 in
theorem hb_X3_watchOf (l : Launch) (hl : l.stackTraces = false) (E : jk_T) (X Y : va_W) (m : Nat → Nat) (th : Int32) (S : Nat → Int32) (N a : Nat → Nat → Int32) (n : Nat) (hn : n ≤ 10) (x : Int32) : jk_Ct l yX3_watchOf wsX3_watchOf ({ frames := 2, cells := 0, slots := 0, locals := 43 } : Room) [.ref (m 0), .int x] E (hm_M E X Y m th (nI n) S N a) (fun u : Int32 × Int32 => some (.int u.2)) (fun u => (hm_M E X Y m u.1 (nI n) S N a)) (fun u => (∃ i, i < n ∧ x = nI i ∧ u = (0, a 2 i)) ∨ (¬ hb_ok n x ∧ u = (1, 0))) := by
  refine jk_of (lv := [(0, .ref (m 0)), (1, .int x)]) (own := RX3) (nm := "watchOf") hl (by decide +kernel) rfl (Nat.le_of_ble_eq_true rfl) rfl rfl rfl (fun Γ hΓ K hnm hz => ?_)
  subst hΓ
  have hin_RX3 : ∀ w ∈ u_ws RX3 TX3 11, w ∈ wsX3_watchOf := by decide +kernel
  refine jk_aload_n K dX3_watchOf_0 rfl 0 rfl ?_
  refine jk_iconst (x := 0) K dX3_watchOf_1 rfl ?_
  refine jk_put (C := RX3) (T := TX3) (N := 11) (nm := "thrown") (ds := "I") (w' := (hm_M E X Y m 0 (nI n) S N a)) K dX3_watchOf_2 hin_RX3 tyX3 tyX3_ok nmX3 (by decide +kernel) (X.length + 0) hm_x0 rfl 0 rfl (by decide) rfl rfl rfl rfl (Nat.le_of_ble_eq_true rfl) (hm_s0 rfl) ?_
  refine jk_aload_n K dX3_watchOf_5 rfl 0 rfl ?_
  refine jk_iload_n K dX3_watchOf_6 rfl 1 rfl ?_
  refine jk_cVi K (n' := 0) (k' := 0) [.int x] [] dX3_watchOf_7 (hb_X3_isHill _ hl E X Y m 0 S N a n hn x) gX3_watchOf_X3_isHill rfl kd_X3_isHill ⟨Nat.le_of_ble_eq_true rfl, Nat.le_of_ble_eq_true rfl⟩ (X.length + 0) hm_x0 rfl (Nat.le_of_ble_eq_true rfl) ⟨rfl, rfl⟩ ⟨Nat.le_of_ble_eq_true rfl, Nat.le_of_ble_eq_true rfl⟩ rfl (fun _ _ => ?_)
  refine jk_if_eq (tgt := 22) K dX3_watchOf_10 rfl (fun c_10 => ?_) (fun c_10 => ?_)
  · have hno : ¬ hb_ok n x := hm_noH hn c_10
    refine jk_aload_n K dX3_watchOf_22 rfl 0 rfl ?_
    refine jk_iconst (x := 1) K dX3_watchOf_23 rfl ?_
    refine jk_cVi K (n' := 0) (k' := 0) [.int 1] [] dX3_watchOf_24 (hb_X3_fail _ hl E X Y m 0 S N a n hn 1) gX3_watchOf_X3_fail rfl kd_X3_fail ⟨Nat.le_of_ble_eq_true rfl, Nat.le_of_ble_eq_true rfl⟩ (X.length + 0) hm_x0 rfl (Nat.le_of_ble_eq_true rfl) ⟨rfl, rfl⟩ ⟨Nat.le_of_ble_eq_true rfl, Nat.le_of_ble_eq_true rfl⟩ rfl (fun _ _ => ?_)
    exact jk_iret K hz dX3_watchOf_27 (1, 0) rfl (Or.inr ⟨hno, rfl⟩) rfl rfl (Nat.le_of_ble_eq_true rfl) (Nat.le_of_ble_eq_true rfl)
  · obtain ⟨i, hi, rfl⟩ := hm_isH hn c_10
    refine jk_aload_n K dX3_watchOf_13 rfl 0 rfl ?_
    refine jk_get (C := RX3) (T := TX3) (N := 11) (nm := "watch") (ds := "[I") (v := .ref (m 2)) K dX3_watchOf_14 hin_RX3 (by decide +kernel) (X.length + 0) hm_x0 rfl 2 rfl (by decide) rfl ?_
    refine jk_iload_n K dX3_watchOf_17 rfl 1 rfl ?_
    refine jk_iald (v := (a 2 i)) K dX3_watchOf_18 (X.length + 1) hm_a2 (vp_in_nI (by omega) (by decide)) (by rw [nI_clamp (by omega)]) ?_
    refine jk_goto (tgt := 27) K dX3_watchOf_19 rfl ?_
    exact jk_iret K hz dX3_watchOf_27 (0, a 2 i) rfl (Or.inl ⟨i, hi, rfl, rfl⟩) rfl rfl (Nat.le_of_ble_eq_true rfl) (Nat.le_of_ble_eq_true rfl)
set_option maxHeartbeats 4000000 in
set_option maxRecDepth 100000 in
theorem hb_X3_looksEast (l : Launch) (hl : l.stackTraces = false) (E : jk_T) (X Y : va_W) (m : Nat → Nat) (th : Int32) (S : Nat → Int32) (N a : Nat → Nat → Int32) (n : Nat) (hn : n ≤ 10) (x : Int32) : jk_Ct l yX3_looksEast wsX3_looksEast ({ frames := 2, cells := 0, slots := 0, locals := 43 } : Room) [.ref (m 0), .int x] E (hm_M E X Y m th (nI n) S N a) (fun u : Int32 × Int32 => some (.int u.2)) (fun u => (hm_M E X Y m u.1 (nI n) S N a)) (fun u => (∃ i, i < n ∧ x = nI i ∧ u = (0, hb_zb (a 3 i))) ∨ (¬ hb_ok n x ∧ u = (1, 0))) := by
  refine jk_of (lv := [(0, .ref (m 0)), (1, .int x)]) (own := RX3) (nm := "looksEast") hl (by decide +kernel) rfl (Nat.le_of_ble_eq_true rfl) rfl rfl rfl (fun Γ hΓ K hnm hz => ?_)
  subst hΓ
  have hin_RX3 : ∀ w ∈ u_ws RX3 TX3 11, w ∈ wsX3_looksEast := by decide +kernel
  refine jk_aload_n K dX3_looksEast_0 rfl 0 rfl ?_
  refine jk_iconst (x := 0) K dX3_looksEast_1 rfl ?_
  refine jk_put (C := RX3) (T := TX3) (N := 11) (nm := "thrown") (ds := "I") (w' := (hm_M E X Y m 0 (nI n) S N a)) K dX3_looksEast_2 hin_RX3 tyX3 tyX3_ok nmX3 (by decide +kernel) (X.length + 0) hm_x0 rfl 0 rfl (by decide) rfl rfl rfl rfl (Nat.le_of_ble_eq_true rfl) (hm_s0 rfl) ?_
  refine jk_aload_n K dX3_looksEast_5 rfl 0 rfl ?_
  refine jk_iload_n K dX3_looksEast_6 rfl 1 rfl ?_
  refine jk_cVi K (n' := 0) (k' := 0) [.int x] [] dX3_looksEast_7 (hb_X3_isHill _ hl E X Y m 0 S N a n hn x) gX3_looksEast_X3_isHill rfl kd_X3_isHill ⟨Nat.le_of_ble_eq_true rfl, Nat.le_of_ble_eq_true rfl⟩ (X.length + 0) hm_x0 rfl (Nat.le_of_ble_eq_true rfl) ⟨rfl, rfl⟩ ⟨Nat.le_of_ble_eq_true rfl, Nat.le_of_ble_eq_true rfl⟩ rfl (fun _ _ => ?_)
  refine jk_if_eq (tgt := 22) K dX3_looksEast_10 rfl (fun c_10 => ?_) (fun c_10 => ?_)
  · have hno : ¬ hb_ok n x := hm_noH hn c_10
    refine jk_aload_n K dX3_looksEast_22 rfl 0 rfl ?_
    refine jk_iconst (x := 1) K dX3_looksEast_23 rfl ?_
    refine jk_cVi K (n' := 0) (k' := 0) [.int 1] [] dX3_looksEast_24 (hb_X3_failed _ hl E X Y m 0 S N a n hn 1) gX3_looksEast_X3_failed rfl kd_X3_failed ⟨Nat.le_of_ble_eq_true rfl, Nat.le_of_ble_eq_true rfl⟩ (X.length + 0) hm_x0 rfl (Nat.le_of_ble_eq_true rfl) ⟨rfl, rfl⟩ ⟨Nat.le_of_ble_eq_true rfl, Nat.le_of_ble_eq_true rfl⟩ rfl (fun _ _ => ?_)
    exact jk_iret K hz dX3_looksEast_27 (1, 0) rfl (Or.inr ⟨hno, rfl⟩) rfl rfl (Nat.le_of_ble_eq_true rfl) (Nat.le_of_ble_eq_true rfl)
  · obtain ⟨i, hi, rfl⟩ := hm_isH hn c_10
    refine jk_aload_n K dX3_looksEast_13 rfl 0 rfl ?_
    refine jk_get (C := RX3) (T := TX3) (N := 11) (nm := "east") (ds := "[Z") (v := .ref (m 3)) K dX3_looksEast_14 hin_RX3 (by decide +kernel) (X.length + 0) hm_x0 rfl 3 rfl (by decide) rfl ?_
    refine jk_iload_n K dX3_looksEast_17 rfl 1 rfl ?_
    refine jk_zald (v := (hb_zb (a 3 i))) K dX3_looksEast_18 (X.length + 2) hm_a3 (vp_in_nI (by omega) (by decide)) (by rw [nI_clamp (by omega)]) ?_
    refine jk_goto (tgt := 27) K dX3_looksEast_19 rfl ?_
    exact jk_iret K hz dX3_looksEast_27 (0, hb_zb (a 3 i)) rfl (Or.inl ⟨i, hi, rfl, rfl⟩) rfl (hb_zb_nar _) (Nat.le_of_ble_eq_true rfl) (Nat.le_of_ble_eq_true rfl)
set_option maxHeartbeats 4000000 in
set_option maxRecDepth 100000 in
theorem hb_X3_isPost (l : Launch) (hl : l.stackTraces = false) (E : jk_T) (X Y : va_W) (m : Nat → Nat) (th : Int32) (S : Nat → Int32) (N a : Nat → Nat → Int32) (n : Nat) (hn : n ≤ 10) (x : Int32) : jk_Ct l yX3_isPost wsX3_isPost ({ frames := 2, cells := 0, slots := 0, locals := 43 } : Room) [.ref (m 0), .int x] E (hm_M E X Y m th (nI n) S N a) (fun u : Int32 × Int32 => some (.int u.2)) (fun u => (hm_M E X Y m u.1 (nI n) S N a)) (fun u => (∃ i, i < n ∧ x = nI i ∧ u = (0, hb_zb (a 4 i))) ∨ (¬ hb_ok n x ∧ u = (1, 0))) := by
  refine jk_of (lv := [(0, .ref (m 0)), (1, .int x)]) (own := RX3) (nm := "isPost") hl (by decide +kernel) rfl (Nat.le_of_ble_eq_true rfl) rfl rfl rfl (fun Γ hΓ K hnm hz => ?_)
  subst hΓ
  have hin_RX3 : ∀ w ∈ u_ws RX3 TX3 11, w ∈ wsX3_isPost := by decide +kernel
  refine jk_aload_n K dX3_isPost_0 rfl 0 rfl ?_
  refine jk_iconst (x := 0) K dX3_isPost_1 rfl ?_
  refine jk_put (C := RX3) (T := TX3) (N := 11) (nm := "thrown") (ds := "I") (w' := (hm_M E X Y m 0 (nI n) S N a)) K dX3_isPost_2 hin_RX3 tyX3 tyX3_ok nmX3 (by decide +kernel) (X.length + 0) hm_x0 rfl 0 rfl (by decide) rfl rfl rfl rfl (Nat.le_of_ble_eq_true rfl) (hm_s0 rfl) ?_
  refine jk_aload_n K dX3_isPost_5 rfl 0 rfl ?_
  refine jk_iload_n K dX3_isPost_6 rfl 1 rfl ?_
  refine jk_cVi K (n' := 0) (k' := 0) [.int x] [] dX3_isPost_7 (hb_X3_isHill _ hl E X Y m 0 S N a n hn x) gX3_isPost_X3_isHill rfl kd_X3_isHill ⟨Nat.le_of_ble_eq_true rfl, Nat.le_of_ble_eq_true rfl⟩ (X.length + 0) hm_x0 rfl (Nat.le_of_ble_eq_true rfl) ⟨rfl, rfl⟩ ⟨Nat.le_of_ble_eq_true rfl, Nat.le_of_ble_eq_true rfl⟩ rfl (fun _ _ => ?_)
  refine jk_if_eq (tgt := 22) K dX3_isPost_10 rfl (fun c_10 => ?_) (fun c_10 => ?_)
  · have hno : ¬ hb_ok n x := hm_noH hn c_10
    refine jk_aload_n K dX3_isPost_22 rfl 0 rfl ?_
    refine jk_iconst (x := 1) K dX3_isPost_23 rfl ?_
    refine jk_cVi K (n' := 0) (k' := 0) [.int 1] [] dX3_isPost_24 (hb_X3_failed _ hl E X Y m 0 S N a n hn 1) gX3_isPost_X3_failed rfl kd_X3_failed ⟨Nat.le_of_ble_eq_true rfl, Nat.le_of_ble_eq_true rfl⟩ (X.length + 0) hm_x0 rfl (Nat.le_of_ble_eq_true rfl) ⟨rfl, rfl⟩ ⟨Nat.le_of_ble_eq_true rfl, Nat.le_of_ble_eq_true rfl⟩ rfl (fun _ _ => ?_)
    exact jk_iret K hz dX3_isPost_27 (1, 0) rfl (Or.inr ⟨hno, rfl⟩) rfl rfl (Nat.le_of_ble_eq_true rfl) (Nat.le_of_ble_eq_true rfl)
  · obtain ⟨i, hi, rfl⟩ := hm_isH hn c_10
    refine jk_aload_n K dX3_isPost_13 rfl 0 rfl ?_
    refine jk_get (C := RX3) (T := TX3) (N := 11) (nm := "post") (ds := "[Z") (v := .ref (m 4)) K dX3_isPost_14 hin_RX3 (by decide +kernel) (X.length + 0) hm_x0 rfl 4 rfl (by decide) rfl ?_
    refine jk_iload_n K dX3_isPost_17 rfl 1 rfl ?_
    refine jk_zald (v := (hb_zb (a 4 i))) K dX3_isPost_18 (X.length + 3) hm_a4 (vp_in_nI (by omega) (by decide)) (by rw [nI_clamp (by omega)]) ?_
    refine jk_goto (tgt := 27) K dX3_isPost_19 rfl ?_
    exact jk_iret K hz dX3_isPost_27 (0, hb_zb (a 4 i)) rfl (Or.inl ⟨i, hi, rfl, rfl⟩) rfl (hb_zb_nar _) (Nat.le_of_ble_eq_true rfl) (Nat.le_of_ble_eq_true rfl)
