
set_option maxHeartbeats 4000000 in
set_option maxRecDepth 100000 in
theorem hb_L_below (l : Launch) (hl : l.stackTraces = false) (E : jk_T) (ws : va_W) (v : Int32) (m : Nat) (h0 : 0 < m) (hm : m < 2 ^ 31) : jk_Ct l yL_below wsL_below ({ frames := 0, cells := 0, slots := 0, locals := 0 } : Room) [.int v, .int (nI m)] E ws (fun k : Nat => some (.int (nI k))) (fun _ => ws) (fun k => k < m) := by
  refine jk_of (lv := [(0, .int v), (1, .int (nI m))]) (own := RL) (nm := "below") hl (by decide +kernel) rfl (Nat.le_of_ble_eq_true rfl) rfl rfl rfl (fun Γ hΓ K hnm hz => ?_)
  subst hΓ
  refine jk_iload_n K dL_below_0 rfl 0 rfl ?_
  refine jk_ldc (v := 2147483647) K dL_below_1 (by decide +kernel) ?_
  refine jk_iand K dL_below_3 ?_
  refine jk_iload_n K dL_below_4 rfl 1 rfl ?_
  refine jk_irem K dL_below_5 (nI_ne0 h0 hm) ?_
  obtain ⟨k, hk, e⟩ := bw_v v h0 hm
  exact jk_iret K hz dL_below_6 k (by rw [e]) hk rfl rfl (Nat.le_of_ble_eq_true rfl) (Nat.le_of_ble_eq_true rfl)
set_option maxHeartbeats 4000000 in
set_option maxRecDepth 100000 in
theorem hb_L_cell (l : Launch) (hl : l.stackTraces = false) (E : jk_T) (ws : va_W) (hL : E.1.2.2.1 ≤ 260) (x : Int32) (hx : ¬ x < 0) : jk_Ct l yL_cell wsL_cell ({ frames := 0, cells := 0, slots := 0, locals := 0 } : Room) [.ref E.1.2.1, .int x] E ws (fun v : Int32 => some (.int v)) (fun _ => ws) (fun _ => True) := by
  refine jk_of (lv := [(0, .ref E.1.2.1), (1, .int x)]) (own := RL) (nm := "cell") hl (by decide +kernel) rfl (Nat.le_of_ble_eq_true rfl) rfl rfl rfl (fun Γ hΓ K hnm hz => ?_)
  subst hΓ
  refine jk_iload_n K dL_cell_0 rfl 1 rfl ?_
  refine jk_aload_n K dL_cell_1 rfl 0 rfl ?_
  refine jk_xlen K dL_cell_2 ?_
  refine jk_icmp_ge (tgt := 12) K dL_cell_3 rfl (fun c_3 => ?_) (fun c_3 => ?_)
  · refine jk_ldc (v := 790386105) K dL_cell_12 (by decide +kernel) ?_
    refine jk_iload_n K dL_cell_14 rfl 1 rfl ?_
    refine jk_iconst (x := 3) K dL_cell_15 rfl ?_
    refine jk_iadd K dL_cell_16 ?_
    refine jk_imul K dL_cell_17 ?_
    exact jk_iret K hz dL_cell_18 _ rfl trivial rfl rfl (Nat.le_of_ble_eq_true rfl) (Nat.le_of_ble_eq_true rfl)
  · have hin : vp_in x E.1.2.2.1 := by
      rcases pk_ix x (n := E.1.2.2.1) (by omega) with q | q | ⟨j, q, rfl⟩
      · exact absurd q hx
      · exact absurd q c_3
      · exact vp_in_nI q (by omega)
    refine jk_aload_n K dL_cell_6 rfl 0 rfl ?_
    refine jk_iload_n K dL_cell_7 rfl 1 rfl ?_
    refine jk_xld (v := E.1.2.2.2 x.toNatClampNeg) K dL_cell_8 hin rfl ?_
    refine jk_goto (tgt := 18) K dL_cell_9 rfl ?_
    exact jk_iret K hz dL_cell_18 _ rfl trivial rfl rfl (Nat.le_of_ble_eq_true rfl) (Nat.le_of_ble_eq_true rfl)
def sm_p0 (o a m : Nat) (r : Nat → Nat) : Nat → Nat := fun i => cond (Nat.beq i 0) o (cond (Nat.beq i 1) a (cond (Nat.beq i 2) m (r (i - 3))))
theorem sm_p0_r {o a m : Nat} {r : Nat → Nat} (i : Nat) : sm_p0 o a m r (3 + i) = r i := by
  rw [Nat.add_comm]
  rfl
set_option maxHeartbeats 4000000 in
set_option maxRecDepth 100000 in
theorem hb_X4_init (l : Launch) (hl : l.stackTraces = false) (E : jk_T) (X : va_W) (o : Nat) (N : Nat → Nat → Int32) : jk_Ct l yX4_init wsX4_init ({ frames := 1, cells := 12, slots := 110, locals := 12 } : Room) [.ref o] E (X ++ [(o, .inr (4, [.int 0, .int 0, .int 0, .int 0, .int 0, .null, .null]))]) (fun _ : Nat → Nat => none) (fun p => sm_S E X [] p 0 (fun _ => 0) N (fun _ _ => 0)) (fun p => p 0 = o) := by
  refine jk_of (lv := [(0, .ref o)]) (own := RX4) (nm := "<init>") hl (by decide +kernel) rfl (Nat.le_of_ble_eq_true rfl) rfl rfl rfl (fun Γ hΓ K hnm hz => ?_)
  subst hΓ
  have hin_RX4 : ∀ w ∈ u_ws RX4 TX4 7, w ∈ wsX4_init := by decide +kernel
  refine jk_aload_n K dX4_init_0 rfl 0 rfl ?_
  refine jk_objInit K dX4_init_1 (by decide +kernel) (by decide +kernel) (by decide +kernel) (Nat.le_of_ble_eq_true rfl) (Nat.le_of_ble_eq_true rfl) ?_
  refine jk_aload_n K dX4_init_4 rfl 0 rfl ?_
  refine jk_iconst (x := 0) K dX4_init_5 rfl ?_
  refine jk_newL (z := 0) K dX4_init_6 (by decide +kernel) (by decide) (by decide) (Nat.le_of_ble_eq_true rfl) (Nat.le_of_ble_eq_true rfl) (fun a => ?_)
  refine jk_ws (ws' := X ++ [(o, .inr (4, [.int 0, .int 0, .int 0, .int 0, .int 0, .null, .null])), (a, .inl (E.2 3, 0, .inr (.inr (.inr (.inr (fun _ => none))))))]) (List.append_assoc _ _ _) ?_
  refine jk_put (C := RX4) (T := TX4) (N := 7) (nm := "hills") (ds := "[LHillBeaconsLaw$Hill;") (v := .ref a) (w' := X ++ [(o, .inr (4, [.int 0, .int 0, .int 0, .int 0, .int 0, .ref a, .null])), (a, .inl (E.2 3, 0, .inr (.inr (.inr (.inr (fun _ => none))))))]) K dX4_init_9 hin_RX4 tyX4 tyX4_ok nmX4 (by decide +kernel) (X.length + 0) (hx_at 0 rfl) rfl 5 rfl (by decide) rfl rfl rfl rfl (Nat.le_of_ble_eq_true rfl) (hx_set 0 rfl) ?_
  refine jk_aload_n K dX4_init_12 rfl 0 rfl ?_
  refine jk_bipush (x := 10) K dX4_init_13 rfl ?_
  refine jk_bipush (x := 10) K dX4_init_15 rfl ?_
  refine jk_mna K dX4_init_17 (by decide +kernel) (by decide +kernel) (Nat.le_of_ble_eq_true rfl) (Nat.le_of_ble_eq_true rfl) (fun m r => ?_)
  refine jk_ws (ws' := X ++ ((o, .inr (4, [.int 0, .int 0, .int 0, .int 0, .int 0, .ref a, .null])) :: (a, .inl (E.2 3, 0, .inr (.inr (.inr (.inr (fun _ => none)))))) :: (m, .inl (E.2 4, 10, .inr (.inr (.inr (.inr (fun i => some (r i))))))) :: (List.range 10).map (fun i => (r i, .inl (E.2 0, 10, .inl (fun _ => 0)))))) (List.append_assoc _ _ _) ?_
  refine jk_put (C := RX4) (T := TX4) (N := 7) (nm := "miles") (ds := "[[I") (v := .ref m) (w' := X ++ ((o, .inr (4, [.int 0, .int 0, .int 0, .int 0, .int 0, .ref a, .ref m])) :: (a, .inl (E.2 3, 0, .inr (.inr (.inr (.inr (fun _ => none)))))) :: (m, .inl (E.2 4, 10, .inr (.inr (.inr (.inr (fun i => some (r i))))))) :: (List.range 10).map (fun i => (r i, .inl (E.2 0, 10, .inl (fun _ => 0)))))) K dX4_init_21 hin_RX4 tyX4 tyX4_ok nmX4 (by decide +kernel) (X.length + 0) (hx_at 0 rfl) rfl 6 rfl (by decide) rfl rfl rfl rfl (Nat.le_of_ble_eq_true rfl) (hx_set 0 rfl) ?_
  refine jk_cellq (w' := X ++ ((o, .inr (4, [.int 0, .int 0, .int 0, .int 0, .int 0, .ref a, .ref m])) :: (a, .inl (E.2 3, 0, .inr (.inr (.inr (.inr (fun i => some ((sm_p0 o a m r) (13 + i)))))))) :: (m, .inl (E.2 4, 10, .inr (.inr (.inr (.inr (fun i => some (r i))))))) :: (List.range 10).map (fun i => (r i, .inl (E.2 0, 10, .inl (fun _ => 0)))))) (X.length + 1) (hx_at 1 rfl) (sm_cellq (g := fun i => some ((sm_p0 o a m r) (13 + i))) (fun i hi => absurd hi (by omega))) (hx_set 1 rfl) ?_
  refine jk_ws (ws' := sm_S E X [] (sm_p0 o a m r) 0 (fun _ => 0) N (fun _ _ => 0)) ?_ ?_
  · unfold sm_S sm_SW
    simp only [sm_p0_r, List.range_zero, List.map_nil, List.append_nil]
    rfl
  · exact jk_vret K hz dX4_init_24 (sm_p0 o a m r) rfl rfl rfl (Nat.le_of_ble_eq_true rfl) (Nat.le_of_ble_eq_true rfl)
