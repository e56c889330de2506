
set_option maxHeartbeats 4000000 in
set_option maxRecDepth 100000 in
theorem hb_X0_init (l : Launch) (hl : l.stackTraces = false) (E : jk_T) (ws : va_W) (kk h : Nat) (f : Nat → Int32) (he : ws[kk]? = some (h, .inr (0, hb_hill f))) : jk_fn l yX0_init wsX0_init ({ frames := 1, cells := 0, slots := 0, locals := 12 } : Room) [.ref h] E ws (none) (ws.set kk (h, .inr (0, hb_hill (hb_fu (hb_fu (hb_fu f 5 0) 6 0) 9 (-2))))) := by
  refine jk_of (lv := [(0, .ref h)]) (own := RX0) (nm := "<init>") hl (by decide +kernel) rfl (Nat.le_of_ble_eq_true rfl) rfl rfl rfl (fun Γ hΓ K hnm hz => ?_)
  subst hΓ
  have hin_RX0 : ∀ w ∈ u_ws RX0 TX0 11, w ∈ wsX0_init := by decide +kernel
  refine jk_aload_n K dX0_init_0 rfl 0 rfl ?_
  refine jk_objInit K dX0_init_1 (by decide +kernel) (by decide +kernel) (by decide +kernel) (Nat.le_of_ble_eq_true rfl) (Nat.le_of_ble_eq_true rfl) ?_
  refine jk_aload_n K dX0_init_4 rfl 0 rfl ?_
  refine jk_iconst (x := 0) K dX0_init_5 rfl ?_
  refine jk_put (C := RX0) (T := TX0) (N := 11) (nm := "fire") (ds := "I") (w' := (ws.set kk (h, .inr (0, hb_hill (hb_fu f 5 0))))) K dX0_init_6 hin_RX0 tyX0 tyX0_ok nmX0 (by decide +kernel) kk he rfl 5 rfl (by decide) rfl rfl rfl rfl (Nat.le_of_ble_eq_true rfl) (hb_set1 rfl) ?_
  refine jk_aload_n K dX0_init_9 rfl 0 rfl ?_
  refine jk_iconst (x := 0) K dX0_init_10 rfl ?_
  refine jk_put (C := RX0) (T := TX0) (N := 11) (nm := "fireBefore") (ds := "I") (w' := (ws.set kk (h, .inr (0, hb_hill (hb_fu (hb_fu f 5 0) 6 0))))) K dX0_init_11 hin_RX0 tyX0 tyX0_ok nmX0 (by decide +kernel) kk (hb_set_at he) rfl 6 rfl (by decide) rfl rfl rfl rfl (Nat.le_of_ble_eq_true rfl) (hb_set2 rfl) ?_
  refine jk_aload_n K dX0_init_14 rfl 0 rfl ?_
  refine jk_bipush (x := (-2)) K dX0_init_15 rfl ?_
  refine jk_put (C := RX0) (T := TX0) (N := 11) (nm := "source") (ds := "I") (w' := (ws.set kk (h, .inr (0, hb_hill (hb_fu (hb_fu (hb_fu f 5 0) 6 0) 9 (-2)))))) K dX0_init_17 hin_RX0 tyX0 tyX0_ok nmX0 (by decide +kernel) kk (hb_set_at he) rfl 9 rfl (by decide) rfl rfl rfl rfl (Nat.le_of_ble_eq_true rfl) (hb_set2 rfl) ?_
  exact jk_vret K hz dX0_init_20 () rfl trivial rfl (Nat.le_of_ble_eq_true rfl) (Nat.le_of_ble_eq_true rfl)
set_option maxHeartbeats 4000000 in
set_option maxRecDepth 100000 in
theorem hb_X1_init (l : Launch) (hl : l.stackTraces = false) (E : jk_T) (X : va_W) (b0 : Nat) : jk_Ct l yX1_init wsX1_init ({ frames := 2, cells := 13, slots := 231, locals := 32 } : Room) [.ref b0] E (X ++ [(b0, .inr (1, hb_la .null .null .null))]) (fun _ : Nat → Nat => none) (fun u => hb_L E X [] u (fun _ => hb_f0) (fun _ => 0) (fun _ => 0)) (fun u => u 0 = b0) := by
  refine jk_of (lv := [(0, .ref b0)]) (own := RX1) (nm := "<init>") hl (by decide +kernel) rfl (Nat.le_of_ble_eq_true rfl) rfl rfl rfl (fun Γ hΓ K hnm hz => ?_)
  subst hΓ
  have hin_RX0 : ∀ w ∈ u_ws RX0 TX0 11, w ∈ wsX1_init := by decide +kernel
  have hin_RX1 : ∀ w ∈ u_ws RX1 TX1 9, w ∈ wsX1_init := by decide +kernel
  refine jk_aload_n K dX1_init_0 rfl 0 rfl ?_
  refine jk_objInit K dX1_init_1 (by decide +kernel) (by decide +kernel) (by decide +kernel) (Nat.le_of_ble_eq_true rfl) (Nat.le_of_ble_eq_true rfl) ?_
  refine jk_aload_n K dX1_init_4 rfl 0 rfl ?_
  refine jk_bipush (x := 10) K dX1_init_5 rfl ?_
  refine jk_newQ (z := 10) K dX1_init_7 (by decide +kernel) (by decide) (by decide) (Nat.le_of_ble_eq_true rfl) (Nat.le_of_ble_eq_true rfl) (fun p => ?_)
  refine jk_ws (ws' := (X ++ [(b0, .inr (1, (hb_la .null .null .null))), (p, .inl (E.2 1, 10, .inr (.inr (.inr (.inr (fun _ => none))))))])) (List.append_assoc _ _ _) ?_
  refine jk_putF (C := RX1) (T := TX1) (N := 9) (nm := "places") (ds := "[LHillBeacons$Hill;") (v := .ref p) (w' := (X ++ [(b0, .inr (1, (hb_la (.ref p) .null .null))), (p, .inl (E.2 1, 10, .inr (.inr (.inr (.inr (fun _ => none))))))])) K dX1_init_10 hnm rfl hin_RX1 tyX1 tyX1_ok nmX1 (by decide +kernel) (X.length + 0) (hx_at 0 rfl) rfl 0 rfl (by decide) rfl rfl rfl rfl (Nat.le_of_ble_eq_true rfl) (hx_set 0 rfl) ?_
  refine jk_aload_n K dX1_init_13 rfl 0 rfl ?_
  refine jk_new (C := RX0) (T := TX0) (N := 11) (ci := 0) (fs := hb_hill (fun _ => 0)) K dX1_init_14 hin_RX0 tyX0 tyX0_ok (by decide +kernel) (by decide +kernel) (by decide +kernel) rfl df0 (Nat.le_of_ble_eq_true rfl) (Nat.le_of_ble_eq_true rfl) (fun nw => ?_)
  refine jk_ws (ws' := (X ++ [(b0, .inr (1, (hb_la (.ref p) .null .null))), (p, .inl (E.2 1, 10, .inr (.inr (.inr (.inr (fun _ => none)))))), (nw, .inr (0, hb_hill (fun _ => 0)))])) (List.append_assoc _ _ _) ?_
  refine jk_dup K dX1_init_17 rfl ?_
  refine jk_cIN K (n' := 2) (k' := 21) [] [.ref nw, .ref b0] dX1_init_18 (hb_X0_init _ hl E (X ++ [(b0, .inr (1, (hb_la (.ref p) .null .null))), (p, .inl (E.2 1, 10, .inr (.inr (.inr (.inr (fun _ => none)))))), (nw, .inr (0, hb_hill (fun _ => 0)))]) (X.length + 2) nw (fun _ => 0) (hx_at 2 rfl)) gX1_init_X0_init_n17 rfl K.2.2.2.2.2.2.2.2.2.1.2.2.2.2.2.2.1 ⟨(by decide +kernel), (by decide +kernel)⟩ rfl (by decide +kernel) ⟨Nat.le_of_ble_eq_true rfl, Nat.le_of_ble_eq_true rfl⟩ (Nat.le_of_ble_eq_true rfl) ⟨rfl, rfl⟩ ⟨Nat.le_of_ble_eq_true rfl, Nat.le_of_ble_eq_true rfl⟩ rfl (fun _ _ => ?_)
  refine jk_ws (ws' := (X ++ [(b0, .inr (1, (hb_la (.ref p) .null .null))), (p, .inl (E.2 1, 10, .inr (.inr (.inr (.inr (fun _ => none)))))), (nw, .inr (0, hb_hill hb_f0))])) (hx_set 2 rfl) ?_
  refine jk_putF (C := RX1) (T := TX1) (N := 9) (nm := "nowhere") (ds := "LHillBeacons$Hill;") (v := .ref nw) (w' := (X ++ [(b0, .inr (1, (hb_la (.ref p) (.ref nw) .null))), (p, .inl (E.2 1, 10, .inr (.inr (.inr (.inr (fun _ => none)))))), (nw, .inr (0, hb_hill hb_f0))])) K dX1_init_21 hnm rfl hin_RX1 tyX1 tyX1_ok nmX1 (by decide +kernel) (X.length + 0) (hx_at 0 rfl) rfl 1 rfl (by decide) rfl rfl rfl rfl (Nat.le_of_ble_eq_true rfl) (hx_set 0 rfl) ?_
  refine jk_aload_n K dX1_init_24 rfl 0 rfl ?_
  refine jk_bipush (x := 100) K dX1_init_25 rfl ?_
  refine jk_newI (ty := .int) (z := 100) (ti := 0) (a0 := (100, .inl (fun _ => 0))) K dX1_init_27 (by decide +kernel) rfl rfl (fun _ _ => rfl) (fun _ => rfl) (by decide) (by decide) (Nat.le_of_ble_eq_true rfl) (Nat.le_of_ble_eq_true rfl) (fun s => ?_)
  refine jk_ws (ws' := (X ++ [(b0, .inr (1, (hb_la (.ref p) (.ref nw) .null))), (p, .inl (E.2 1, 10, .inr (.inr (.inr (.inr (fun _ => none)))))), (nw, .inr (0, hb_hill hb_f0)), (s, .inl (E.2 0, 100, .inl (fun _ => 0)))])) (List.append_assoc _ _ _) ?_
  refine jk_putF (C := RX1) (T := TX1) (N := 9) (nm := "sights") (ds := "[I") (v := .ref s) (w' := (X ++ [(b0, .inr (1, (hb_la (.ref p) (.ref nw) (.ref s)))), (p, .inl (E.2 1, 10, .inr (.inr (.inr (.inr (fun _ => none)))))), (nw, .inr (0, hb_hill hb_f0)), (s, .inl (E.2 0, 100, .inl (fun _ => 0)))])) K dX1_init_29 hnm rfl hin_RX1 tyX1 tyX1_ok nmX1 (by decide +kernel) (X.length + 0) (hx_at 0 rfl) rfl 2 rfl (by decide) rfl rfl rfl rfl (Nat.le_of_ble_eq_true rfl) (hx_set 0 rfl) ?_
  refine jk_iconst (x := 0) K dX1_init_32 rfl ?_
  refine jk_istore_n (lv' := [(1, .int 0), (0, .ref b0)]) K dX1_init_33 rfl (by decide) rfl ?_
  have hL : ∀ j, j ≤ 10 → ∀ b : Nat → Nat, jk_J Γ E (X ++ hb_c4 E b0 p nw s b j) (3 + j) (121 + 11 * j) 34 [(1, .int (nI j)), (0, .ref b0)] [] := by
    refine jk_loop (fun j hj ih => ?_)
    intro b
    refine jk_iload_n K dX1_init_34 rfl 0 rfl ?_
    refine jk_aload_n K dX1_init_35 rfl 1 rfl ?_
    refine jk_get (C := RX1) (T := TX1) (N := 9) (nm := "places") (ds := "[LHillBeacons$Hill;") (v := .ref p) K dX1_init_36 hin_RX1 (by decide +kernel) (X.length + 0) (hx_at 0 rfl) rfl 0 rfl (by decide) rfl ?_
    refine jk_alen (v := (nI 10)) K dX1_init_39 (X.length + 1) 1 (hx_at 1 rfl) rfl rfl ?_
    refine jk_icmp_ge (tgt := 62) K dX1_init_40 rfl (fun c_40 => ?_) (fun c_40 => ?_)
    · have hjn : j = 10 := hb_ex (n := 10) rfl (by decide) hj c_40
      subst hjn
      refine jk_cellq (w' := X ++ ((b0, .inr (1, hb_la (.ref p) (.ref nw) (.ref s))) :: (p, .inl (E.2 1, 10, .inr (.inr (.inr (.inr (fun i => some ((hb_bb b0 p nw s b) (3 + i)))))))) :: (nw, .inr (0, hb_hill hb_f0)) :: (s, .inl (E.2 0, 100, .inl (fun _ => 0))) :: hb_hs b 10)) (X.length + 1) (hx_at 1 rfl) (hb_cellq (E.2 1) b0 p nw s b) (hx_set 1 rfl) ?_
      refine jk_lessX (w1 := hb_LW E (hb_bb b0 p nw s b) (fun _ => hb_f0) (fun _ => 0) (fun _ => 0) ++ []) [0, 1, 3, 4, 5, 6, 7, 8, 9, 10, 11, 12, 13, 2] rfl rfl ?_
      exact jk_vret K hz dX1_init_62 (hb_bb b0 p nw s b) rfl rfl rfl (Nat.le_of_ble_eq_true rfl) (Nat.le_of_ble_eq_true rfl)
    · have hlt : j < 10 := hb_in (n := 10) rfl (by decide) hj c_40
      refine jk_aload_n K dX1_init_43 rfl 1 rfl ?_
      refine jk_get (C := RX1) (T := TX1) (N := 9) (nm := "places") (ds := "[LHillBeacons$Hill;") (v := .ref p) K dX1_init_44 hin_RX1 (by decide +kernel) (X.length + 0) (hx_at 0 rfl) rfl 0 rfl (by decide) rfl ?_
      refine jk_iload_n K dX1_init_47 rfl 0 rfl ?_
      refine jk_new (C := RX0) (T := TX0) (N := 11) (ci := 0) (fs := hb_hill (fun _ => 0)) K dX1_init_48 hin_RX0 tyX0 tyX0_ok (by decide +kernel) (by decide +kernel) (by decide +kernel) rfl df0 (by show _ ≤ 13; omega) (by show _ ≤ 231; omega) (fun q => ?_)
      refine jk_ws (ws' := (X ++ (hb_c4 E b0 p nw s b j ++ [(q, .inr (0, hb_hill (fun _ => 0)))]))) (List.append_assoc _ _ _) ?_
      refine jk_dup K dX1_init_51 rfl ?_
      refine jk_cIN K (n' := (3 + j + 1)) (k' := (121 + 11 * j + 11)) [] [.ref q, .int (nI j), .ref p] dX1_init_52 (hb_X0_init _ hl E (X ++ (hb_c4 E b0 p nw s b j ++ [(q, .inr (0, hb_hill (fun _ => 0)))])) (X.length + (4 + j)) q (fun _ => 0) (hx_at (4 + j) (hx_last hb_c4_len))) gX1_init_X0_init_n17 rfl K.2.2.2.2.2.2.2.2.2.1.2.2.2.2.2.2.1 ⟨(by decide +kernel), (by decide +kernel)⟩ rfl (by decide +kernel) ⟨Nat.le_of_ble_eq_true rfl, Nat.le_of_ble_eq_true rfl⟩ (Nat.le_of_ble_eq_true rfl) ⟨rfl, rfl⟩ ⟨(by show _ ≤ 13; omega), (by show _ ≤ 231; omega)⟩ rfl (fun _ _ => ?_)
      refine jk_ws (ws' := (X ++ (hb_c4 E b0 p nw s b j ++ [(q, .inr (0, hb_hill hb_f0))]))) (hx_set (4 + j) (hx_lset hb_c4_len)) ?_
      refine jk_qast (w' := (X ++ hb_c4 E b0 p nw s (va_up b j q) (j + 1))) K dX1_init_55 (X.length + 1) (hx_at 1 rfl) (X.length + (4 + j)) (hx_at (4 + j) (hx_last hb_c4_len)) (vp_in_nI (by omega) (by decide)) ?_ ?_
      · refine hx_set 1 ?_
        rw [nI_clamp (by omega), hb_pf_s]
        unfold hb_c4
        rw [← hb_hs_s]
        rfl
      · refine jk_iinc (v := (nI (j + 1))) (lv' := [(1, .int (nI (j + 1))), (0, .ref b0)]) K dX1_init_56 0 rfl (nI_1 j) (by decide) rfl ?_
        refine jk_goto (tgt := 34) K dX1_init_59 rfl ?_
        refine jk_wide (n' := 3 + (j + 1)) (k' := 121 + 11 * (j + 1)) (by omega) (by omega) ?_
        exact ih hlt _
  refine jk_ws (ws' := X ++ hb_c4 E b0 p nw s (fun _ => 0) 0) (congrArg (fun z => X ++ z) (by unfold hb_c4 hb_hs; rw [show hb_pf (fun _ => 0) 0 = fun _ => none from rfl]; rfl)) ?_
  exact hL 0 (Nat.zero_le _) _
set_option maxHeartbeats 4000000 in
set_option maxRecDepth 100000 in
theorem hb_X2_init (l : Launch) (hl : l.stackTraces = false) (E : jk_T) (X : va_W) (q : Nat) : jk_Ct l yX2_init wsX2_init ({ frames := 3, cells := 28, slots := 480, locals := 53 } : Room) [.ref q] E (X ++ [(q, .inr (2, [.null, .null]))]) (fun _ : (Nat → Nat) × (Nat → Nat) => none) (fun u => X ++ ((q, .inr (2, [.ref (u.1 0), .ref (u.2 0)])) :: ((hb_LW E u.1 (fun _ => hb_f0) (fun _ => 0) (fun _ => 0) ++ []) ++ (hb_LW E u.2 (fun _ => hb_f0) (fun _ => 0) (fun _ => 0) ++ [])))) (fun _ => True) := by
  refine jk_of (lv := [(0, .ref q)]) (own := RX2) (nm := "<init>") hl (by decide +kernel) rfl (Nat.le_of_ble_eq_true rfl) rfl rfl rfl (fun Γ hΓ K hnm hz => ?_)
  subst hΓ
  have hin_RX1 : ∀ w ∈ u_ws RX1 TX1 9, w ∈ wsX2_init := by decide +kernel
  have hin_RX2 : ∀ w ∈ u_ws RX2 TX2 2, w ∈ wsX2_init := by decide +kernel
  refine jk_aload_n K dX2_init_0 rfl 0 rfl ?_
  refine jk_objInit K dX2_init_1 (by decide +kernel) (by decide +kernel) (by decide +kernel) (Nat.le_of_ble_eq_true rfl) (Nat.le_of_ble_eq_true rfl) ?_
  refine jk_aload_n K dX2_init_4 rfl 0 rfl ?_
  refine jk_new (C := RX1) (T := TX1) (N := 9) (ci := 1) (fs := hb_la .null .null .null) K dX2_init_5 hin_RX1 tyX1 tyX1_ok (by decide +kernel) (by decide +kernel) (by decide +kernel) rfl df1 (Nat.le_of_ble_eq_true rfl) (Nat.le_of_ble_eq_true rfl) (fun q1 => ?_)
  refine jk_dup K dX2_init_8 rfl ?_
  refine jk_cI K (n' := 14) (k' := 240) [] [.ref q1, .ref q] dX2_init_9 (hb_X1_init _ hl E (X ++ [(q, .inr (2, [.null, .null]))]) q1) gX2_init_X1_init rfl ⟨(by decide +kernel), (by decide +kernel), (by decide +kernel)⟩ rfl (by decide +kernel) ⟨Nat.le_of_ble_eq_true rfl, Nat.le_of_ble_eq_true rfl⟩ (Nat.le_of_ble_eq_true rfl) ⟨rfl, rfl⟩ ⟨Nat.le_of_ble_eq_true rfl, Nat.le_of_ble_eq_true rfl⟩ rfl (fun b1 hb1 => ?_)
  subst hb1
  refine jk_ws (ws' := X ++ ((q, .inr (2, [.null, .null])) :: (hb_LW E b1 (fun _ => hb_f0) (fun _ => 0) (fun _ => 0) ++ []))) (List.append_assoc _ _ _) ?_
  refine jk_putF (C := RX2) (T := TX2) (N := 2) (nm := "land") (ds := "LHillBeacons$Land;") (v := .ref (b1 0)) (w' := X ++ ((q, .inr (2, [.ref (b1 0), .null])) :: (hb_LW E b1 (fun _ => hb_f0) (fun _ => 0) (fun _ => 0) ++ []))) K dX2_init_12 hnm rfl hin_RX2 tyX2 tyX2_ok nmX2 (by decide +kernel) (X.length + 0) (hx_at 0 rfl) rfl 0 rfl (by decide) rfl rfl rfl rfl (Nat.le_of_ble_eq_true rfl) (hx_set 0 rfl) ?_
  refine jk_aload_n K dX2_init_15 rfl 0 rfl ?_
  refine jk_new (C := RX1) (T := TX1) (N := 9) (ci := 1) (fs := hb_la .null .null .null) K dX2_init_16 hin_RX1 tyX1 tyX1_ok (by decide +kernel) (by decide +kernel) (by decide +kernel) rfl df1 (Nat.le_of_ble_eq_true rfl) (Nat.le_of_ble_eq_true rfl) (fun q2 => ?_)
  refine jk_dup K dX2_init_19 rfl ?_
  refine jk_cI K (n' := 28) (k' := 480) [] [.ref q2, .ref q] dX2_init_20 (hb_X1_init _ hl E (X ++ ((q, .inr (2, [.ref (b1 0), .null])) :: (hb_LW E b1 (fun _ => hb_f0) (fun _ => 0) (fun _ => 0) ++ []))) q2) gX2_init_X1_init rfl ⟨(by decide +kernel), (by decide +kernel), (by decide +kernel)⟩ rfl (by decide +kernel) ⟨Nat.le_of_ble_eq_true rfl, Nat.le_of_ble_eq_true rfl⟩ (Nat.le_of_ble_eq_true rfl) ⟨rfl, rfl⟩ ⟨Nat.le_of_ble_eq_true rfl, Nat.le_of_ble_eq_true rfl⟩ rfl (fun b2 hb2 => ?_)
  subst hb2
  refine jk_ws (ws' := X ++ ((q, .inr (2, [.ref (b1 0), .null])) :: ((hb_LW E b1 (fun _ => hb_f0) (fun _ => 0) (fun _ => 0) ++ []) ++ (hb_LW E b2 (fun _ => hb_f0) (fun _ => 0) (fun _ => 0) ++ [])))) (List.append_assoc X _ _) ?_
  refine jk_putF (C := RX2) (T := TX2) (N := 2) (nm := "trial") (ds := "LHillBeacons$Land;") (v := .ref (b2 0)) (w' := X ++ ((q, .inr (2, [.ref (b1 0), .ref (b2 0)])) :: ((hb_LW E b1 (fun _ => hb_f0) (fun _ => 0) (fun _ => 0) ++ []) ++ (hb_LW E b2 (fun _ => hb_f0) (fun _ => 0) (fun _ => 0) ++ [])))) K dX2_init_23 hnm rfl hin_RX2 tyX2 tyX2_ok nmX2 (by decide +kernel) (X.length + 0) (hx_at 0 rfl) rfl 1 rfl (by decide) rfl rfl rfl rfl (Nat.le_of_ble_eq_true rfl) (hx_set 0 rfl) ?_
  exact jk_vret K hz dX2_init_26 (b1, b2) rfl trivial rfl (Nat.le_of_ble_eq_true rfl) (Nat.le_of_ble_eq_true rfl)
theorem sm_set_at {ws : va_W} {kk : Nat} {q e : Nat × va_E} (h : ws[kk]? = some q) : (ws.set kk e)[kk]? = some e := List.getElem?_set_self (List.getElem?_eq_some_iff.mp h).1
theorem sm_set1 {ws : va_W} {kk h : Nat} {l : List Value} {f : Nat → Int32} (e : l = sm_hill f) : ws.set kk (h, .inr (3, l)) = ws.set kk (h, .inr (3, sm_hill f)) := by rw [e]
theorem sm_set2 {ws : va_W} {kk h : Nat} {l : List Value} {f : Nat → Int32} {x : Nat × va_E} (e : l = sm_hill f) : (ws.set kk x).set kk (h, .inr (3, l)) = ws.set kk (h, .inr (3, sm_hill f)) := by rw [e, List.set_set]
def sm_f0 : Nat → Int32 := hb_fu (fun _ => 0) 9 (-1)
def sm_dF (f : Nat → Int32) : Nat → Int32 := hb_fu (hb_fu (hb_fu f 6 0) 7 0) 9 (-1)
set_option maxHeartbeats 4000000 in
set_option maxRecDepth 100000 in
theorem hb_X3_init (l : Launch) (hl : l.stackTraces = false) (E : jk_T) (ws : va_W) (kk h : Nat) (f : Nat → Int32) (he : ws[kk]? = some (h, .inr (3, sm_hill f))) : jk_fn l yX3_init wsX3_init ({ frames := 1, cells := 0, slots := 0, locals := 12 } : Room) [.ref h] E ws (none) (ws.set kk (h, .inr (3, sm_hill (hb_fu f 9 (-1))))) := by
  refine jk_of (lv := [(0, .ref h)]) (own := RX3) (nm := "<init>") hl (by decide +kernel) rfl (Nat.le_of_ble_eq_true rfl) rfl rfl rfl (fun Γ hΓ K hnm hz => ?_)
  subst hΓ
  have hin_RX3 : ∀ w ∈ u_ws RX3 TX3 11, w ∈ wsX3_init := by decide +kernel
  refine jk_aload_n K dX3_init_0 rfl 0 rfl ?_
  refine jk_objInit K dX3_init_1 (by decide +kernel) (by decide +kernel) (by decide +kernel) (Nat.le_of_ble_eq_true rfl) (Nat.le_of_ble_eq_true rfl) ?_
  refine jk_aload_n K dX3_init_4 rfl 0 rfl ?_
  refine jk_iconst (x := (-1)) K dX3_init_5 rfl ?_
  refine jk_put (C := RX3) (T := TX3) (N := 11) (nm := "source") (ds := "I") (w' := (ws.set kk (h, .inr (3, sm_hill (hb_fu f 9 (-1)))))) K dX3_init_6 hin_RX3 tyX3 tyX3_ok nmX3 (by decide +kernel) kk he rfl 9 rfl (by decide) rfl rfl rfl rfl (Nat.le_of_ble_eq_true rfl) (sm_set1 rfl) ?_
  exact jk_vret K hz dX3_init_9 () rfl trivial rfl (Nat.le_of_ble_eq_true rfl) (Nat.le_of_ble_eq_true rfl)
set_option maxHeartbeats 4000000 in
set_option maxRecDepth 100000 in
theorem hb_X3_dark (l : Launch) (hl : l.stackTraces = false) (E : jk_T) (ws : va_W) (kk h : Nat) (f : Nat → Int32) (he : ws[kk]? = some (h, .inr (3, sm_hill f))) : jk_fn l yX3_dark wsX3_dark ({ frames := 0, cells := 0, slots := 0, locals := 0 } : Room) [.ref h] E ws (none) (ws.set kk (h, .inr (3, sm_hill (sm_dF f)))) := by
  refine jk_of (lv := [(0, .ref h)]) (own := RX3) (nm := "dark") hl (by decide +kernel) rfl (Nat.le_of_ble_eq_true rfl) rfl rfl rfl (fun Γ hΓ K hnm hz => ?_)
  subst hΓ
  have hin_RX3 : ∀ w ∈ u_ws RX3 TX3 11, w ∈ wsX3_dark := by decide +kernel
  refine jk_aload_n K dX3_dark_0 rfl 0 rfl ?_
  refine jk_iconst (x := 0) K dX3_dark_1 rfl ?_
  refine jk_put (C := RX3) (T := TX3) (N := 11) (nm := "state") (ds := "I") (w' := (ws.set kk (h, .inr (3, sm_hill (hb_fu f 6 0))))) K dX3_dark_2 hin_RX3 tyX3 tyX3_ok nmX3 (by decide +kernel) kk he rfl 6 rfl (by decide) rfl rfl rfl rfl (Nat.le_of_ble_eq_true rfl) (sm_set1 rfl) ?_
  refine jk_aload_n K dX3_dark_5 rfl 0 rfl ?_
  refine jk_iconst (x := 0) K dX3_dark_6 rfl ?_
  refine jk_put (C := RX3) (T := TX3) (N := 11) (nm := "left") (ds := "I") (w' := (ws.set kk (h, .inr (3, sm_hill (hb_fu (hb_fu f 6 0) 7 0))))) K dX3_dark_7 hin_RX3 tyX3 tyX3_ok nmX3 (by decide +kernel) kk (sm_set_at he) rfl 7 rfl (by decide) rfl rfl rfl rfl (Nat.le_of_ble_eq_true rfl) (sm_set2 rfl) ?_
  refine jk_aload_n K dX3_dark_10 rfl 0 rfl ?_
  refine jk_iconst (x := (-1)) K dX3_dark_11 rfl ?_
  refine jk_put (C := RX3) (T := TX3) (N := 11) (nm := "source") (ds := "I") (w' := (ws.set kk (h, .inr (3, sm_hill (hb_fu (hb_fu (hb_fu f 6 0) 7 0) 9 (-1)))))) K dX3_dark_12 hin_RX3 tyX3 tyX3_ok nmX3 (by decide +kernel) kk (sm_set_at he) rfl 9 rfl (by decide) rfl rfl rfl rfl (Nat.le_of_ble_eq_true rfl) (sm_set2 rfl) ?_
  exact jk_vret K hz dX3_dark_15 () rfl trivial rfl (Nat.le_of_ble_eq_true rfl) (Nat.le_of_ble_eq_true rfl)
