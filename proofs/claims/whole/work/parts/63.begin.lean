/-! the law's beginning -/
theorem hm_R0 : hm_R 0 (fun _ => hb_f0) (fun _ => 0) (fun _ => 0) (fun _ => 0) (fun _ _ => 0) (fun _ _ => 0) := ⟨by decide, fun k hk => absurd hk (by omega), ⟨rfl, rfl, rfl, rfl, rfl, rfl, 0, by decide, rfl⟩, fun p _ => ⟨rfl, (by decide : (0 : Int32) ≤ 20)⟩, fun k _ _ => ⟨rfl, rfl, rfl, rfl, rfl, rfl, rfl, rfl, rfl, rfl, rfl, rfl, rfl, rfl⟩⟩
set_option maxHeartbeats 4000000 in
set_option maxRecDepth 100000 in
theorem lw_begin {Γ : jk_G} {E : jk_T} (K : jk_C Γ E RL cL_law 9 wsL_law ({ frames := 13, cells := 601024, slots := 7293034, locals := 468 } : Room)) {sb L : Nat} {xs : Nat → Int32} (XL : jk_LX Γ sb L xs) (hL : L ≤ 2048) (hz : lw_Zl Γ) : jk_J Γ E [] 0 0 0 [(0, .ref sb)] [] := by
  have hl := K.2.2.2.2.2.2.2.2.2.2
  have h2 : ∀ w ∈ u_ws RX2 TX2 2, w ∈ wsX2_init := by decide +kernel
  have h3 : ∀ w ∈ u_ws RX3 TX3 11, w ∈ wsX3_init := by decide +kernel
  refine jk_new (C := RX2) (T := TX2) (N := 2) (ci := 2) (fs := [.null, .null]) K dL_law_0 (fun w hw => (gL_law_X2_init w (h2 w hw)).1) tyX2 tyX2_ok (List.mem_of_getElem? (i := 0) rfl) (List.mem_of_getElem? (i := 1) rfl) (List.mem_of_getElem? (i := 2) rfl) rfl df2 (Nat.le_of_ble_eq_true rfl) (Nat.le_of_ble_eq_true rfl) (fun q => ?_)
  refine jk_dup K dL_law_3 rfl ?_
  refine jk_cI K (n' := 29) (k' := 482) [] [.ref q] dL_law_4 (hb_X2_init _ hl E [] q) gL_law_X2_init rfl ⟨(List.mem_of_getElem? (i := 2) rfl), (List.mem_of_getElem? (i := 7) rfl), (List.mem_of_getElem? (i := 8) rfl)⟩ rfl (by decide +kernel) ⟨Nat.le_of_ble_eq_true rfl, Nat.le_of_ble_eq_true rfl⟩ (Nat.le_of_ble_eq_true rfl) ⟨rfl, rfl⟩ ⟨Nat.le_of_ble_eq_true rfl, Nat.le_of_ble_eq_true rfl⟩ rfl (fun b _ => ?_)
  refine jk_astore_n (lv' := [(1, .ref q), (0, .ref sb)]) K dL_law_7 rfl (by decide) rfl ?_
  refine jk_new (C := RX3) (T := TX3) (N := 11) (ci := 3) (fs := hm_la [.null, .null, .null, .null, .null, .null, .null, .null, .null]) K dL_law_8 (fun w hw => (gL_law_X3_init w (h3 w hw)).1) tyX3 tyX3_ok (List.mem_of_getElem? (i := 3) rfl) (List.mem_of_getElem? (i := 4) rfl) (List.mem_of_getElem? (i := 5) rfl) rfl df3 (Nat.le_of_ble_eq_true rfl) (Nat.le_of_ble_eq_true rfl) (fun m0 => ?_)
  refine jk_dup K dL_law_11 rfl ?_
  refine jk_cI K (n' := 39) (k' := 803) [] [.ref m0] dL_law_12 (hb_X3_init _ hl E _ m0) gL_law_X3_init rfl ⟨(List.mem_of_getElem? (i := 5) rfl), (List.mem_of_getElem? (i := 35) rfl), (List.mem_of_getElem? (i := 36) rfl)⟩ rfl (by decide +kernel) ⟨Nat.le_of_ble_eq_true rfl, Nat.le_of_ble_eq_true rfl⟩ (Nat.le_of_ble_eq_true rfl) ⟨rfl, rfl⟩ ⟨Nat.le_of_ble_eq_true rfl, Nat.le_of_ble_eq_true rfl⟩ rfl (fun m hm => ?_)
  subst hm
  refine jk_astore_n (lv' := [(2, .ref (m 0)), (1, .ref q), (0, .ref sb)]) K dL_law_15 rfl (by decide) rfl ?_
  refine jk_iconst (x := 1) K dL_law_16 rfl ?_
  refine jk_newI (ty := .long) (z := 1) (ti := 3) (a0 := (1, .inr (.inl (fun _ => 0)))) K dL_law_17 (List.mem_of_getElem? (i := 6) rfl) rfl rfl (fun _ _ => rfl) (fun _ => rfl) (by decide) (by decide) (Nat.le_of_ble_eq_true rfl) (Nat.le_of_ble_eq_true rfl) (fun ao => ?_)
  refine jk_astore_n (lv' := [(3, .ref ao), (2, .ref (m 0)), (1, .ref q), (0, .ref sb)]) K dL_law_19 rfl (by decide) rfl ?_
  refine jk_iconst (x := 0) K dL_law_20 rfl ?_
  refine jk_istore (lv' := [(4, .int 0), (3, .ref ao), (2, .ref (m 0)), (1, .ref q), (0, .ref sb)]) K dL_law_21 (by decide) rfl ?_
  refine jk_less (ws' := lw_w E q b.1 b.2 ao m (fun _ => 0) (fun _ => hb_f0) (fun _ => 0) (fun _ => 0) (fun _ => hb_f0) (fun _ => 0) (fun _ => 0) 0 0 (fun _ => 0) (fun _ _ => 0) (fun _ _ => 0)) [0, 1, 2, 3, 4, 5, 6, 7, 8, 9, 10, 11, 12, 13, 14, 15, 16, 17, 18, 19, 20, 21, 22, 23, 24, 25, 26, 27, 28, 39, 29, 30, 31, 32, 33, 34, 35, 36, 37, 38] rfl rfl ?_
  refine jk_lv (lv' := [(4, .int (nI (4 * 0))), (3, .ref ao), (2, .ref (m 0)), (1, .ref q), (0, .ref sb)]) rfl ?_
  refine jk_wide (n' := 40 + 11 * 0) (k' := 804 + 117 * 0) (Nat.le_of_ble_eq_true rfl) (Nat.le_of_ble_eq_true rfl) ?_
  exact lw_loop K XL hL hz 0 (by decide) _ _ _ _ _ _ _ _ _ _ _ _ hm_R0
