
set_option maxHeartbeats 60000000 in
set_option maxRecDepth 100000 in
theorem lw_N {Γ : jk_G} {E : jk_T} (K : jk_C Γ E RL cL_law 22 wsL_law ({ frames := 14, cells := 600130, slots := 7301079, locals := 540 } : Room)) (q : Nat) (b1 b2 : Nat → Nat) (p : Nat → Nat) (n B : Nat) (C : Nat → Nat → Int32) (G M : Nat → Int32) (C2 : Nat → Nat → Int32) (G2 M2 : Nat → Int32) (hiv : iv n B C G M) (h2 : 2 ≤ n) (hB : B ≤ 1000000) (t : Nat) (x : Int32) (cn ck : Nat) (hcn : cn + 2300 ≤ 600130) (hck : ck + 14000 ≤ 7301079) (kk : jk_J Γ E (lw_W E q b1 b2 [] C2 G2 M2 (p, n, (hb_poC C G M n), (hb_poG C G M n), M)) (cn + 2300) (ck + 14000) 22 [(3, .int (nI (t + 1))), (2, .ref (p 0)), (1, .ref q), (0, .ref E.1.2.1)] []) : jk_J Γ E (lw_W E q b1 b2 [] C2 G2 M2 (p, n, C, G, M)) cn ck 90 [(5, .int (nI 2)), (4, .int x), (3, .int (nI t)), (2, .ref (p 0)), (1, .ref q), (0, .ref E.1.2.1)] [] := by
  have hl := K.2.2.2.2.2.2.2.2.2.2
  have hn := hiv.1
  have hg : G 0 = nI n := hiv.2.2.2.1.1
  refine jk_aload_n K dL_law_90 rfl 4 rfl ?_
  refine jk_cVi K (n' := cn) (k' := ck) [] [] dL_law_91 (hb_X2_hills _ hl E q b1 b2 (sm_SW E p n (sm_G G) (sm_N C) (sm_M M) ++ []) C G M C2 G2 M2) gL_law_X2_hills rfl kd_X2_hills ⟨Nat.le_of_ble_eq_true rfl, Nat.le_of_ble_eq_true rfl⟩ 0 rfl rfl (Nat.le_of_ble_eq_true rfl) ⟨rfl, rfl⟩ ⟨(by show _ ≤ 600130; omega), (by show _ ≤ 7301079; omega)⟩ rfl (fun _ _ => ?_)
  refine jk_st (st' := [.int (nI n)]) (by rw [hg]) ?_
  refine jk_istore (lv' := [(5, .int (nI n)), (4, .int x), (3, .int (nI t)), (2, .ref (p 0)), (1, .ref q), (0, .ref E.1.2.1)]) K dL_law_94 (by decide) rfl ?_
  refine jk_iload K dL_law_96 0 rfl ?_
  refine jk_ws (ws' := (sm_S E (hb_cw E q b1 b2 C G M C2 G2 M2) [] p n (sm_G G) (sm_N C) (sm_M M))) lw_sw ?_
  refine jk_newI (ty := .int) (z := n) (ti := 0) (a0 := (n, .inl (fun _ => 0))) K dL_law_98 (by decide +kernel) rfl rfl (fun _ _ => rfl) (fun _ => rfl) ⟨nI_pos (by omega), nI_clamp (by omega)⟩ (by show n * 4 ≤ _; omega) (by show _ ≤ 600130; omega) (by show _ ≤ 7301079; omega) (fun a6 => ?_)
  refine jk_ws (ws' := (sm_S E (hb_cw E q b1 b2 C G M C2 G2 M2) ([] ++ [lw_a E 0 a6 n (fun _ => 0)]) p n (sm_G G) (sm_N C) (sm_M M))) sm_ext ?_
  refine jk_astore (lv' := [(6, .ref a6), (5, .int (nI n)), (4, .int x), (3, .int (nI t)), (2, .ref (p 0)), (1, .ref q), (0, .ref E.1.2.1)]) K dL_law_100 (by decide) rfl ?_
  refine jk_iload K dL_law_102 1 rfl ?_
  refine jk_newI (ty := .boolean) (z := n) (ti := 2) (a0 := (n, .inl (fun _ => 0))) K dL_law_104 (by decide +kernel) rfl rfl (fun _ _ => rfl) (fun _ => rfl) ⟨nI_pos (by omega), nI_clamp (by omega)⟩ (by show n * 1 ≤ _; omega) (by show _ ≤ 600130; omega) (by show _ ≤ 7301079; omega) (fun a7 => ?_)
  refine jk_ws (ws' := (sm_S E (hb_cw E q b1 b2 C G M C2 G2 M2) ([] ++ [lw_a E 0 a6 n (fun _ => 0), lw_a E 2 a7 n (fun _ => 0)]) p n (sm_G G) (sm_N C) (sm_M M))) (sm_ext.trans (by rw [List.append_assoc]; rfl)) ?_
  refine jk_astore (lv' := [(7, .ref a7), (6, .ref a6), (5, .int (nI n)), (4, .int x), (3, .int (nI t)), (2, .ref (p 0)), (1, .ref q), (0, .ref E.1.2.1)]) K dL_law_106 (by decide) rfl ?_
  refine jk_iload K dL_law_108 2 rfl ?_
  refine jk_newI (ty := .boolean) (z := n) (ti := 2) (a0 := (n, .inl (fun _ => 0))) K dL_law_110 (by decide +kernel) rfl rfl (fun _ _ => rfl) (fun _ => rfl) ⟨nI_pos (by omega), nI_clamp (by omega)⟩ (by show n * 1 ≤ _; omega) (by show _ ≤ 600130; omega) (by show _ ≤ 7301079; omega) (fun a8 => ?_)
  refine jk_ws (ws' := (sm_S E (hb_cw E q b1 b2 C G M C2 G2 M2) ([] ++ [lw_a E 0 a6 n (fun _ => 0), lw_a E 2 a7 n (fun _ => 0), lw_a E 2 a8 n (fun _ => 0)]) p n (sm_G G) (sm_N C) (sm_M M))) (sm_ext.trans (by rw [List.append_assoc]; rfl)) ?_
  refine jk_astore (lv' := [(8, .ref a8), (7, .ref a7), (6, .ref a6), (5, .int (nI n)), (4, .int x), (3, .int (nI t)), (2, .ref (p 0)), (1, .ref q), (0, .ref E.1.2.1)]) K dL_law_112 (by decide) rfl ?_
  refine jk_iload K dL_law_114 3 rfl ?_
  refine jk_newI (ty := .int) (z := n) (ti := 0) (a0 := (n, .inl (fun _ => 0))) K dL_law_116 (by decide +kernel) rfl rfl (fun _ _ => rfl) (fun _ => rfl) ⟨nI_pos (by omega), nI_clamp (by omega)⟩ (by show n * 4 ≤ _; omega) (by show _ ≤ 600130; omega) (by show _ ≤ 7301079; omega) (fun a9 => ?_)
  refine jk_ws (ws' := (sm_S E (hb_cw E q b1 b2 C G M C2 G2 M2) ([] ++ [lw_a E 0 a6 n (fun _ => 0), lw_a E 2 a7 n (fun _ => 0), lw_a E 2 a8 n (fun _ => 0), lw_a E 0 a9 n (fun _ => 0)]) p n (sm_G G) (sm_N C) (sm_M M))) (sm_ext.trans (by rw [List.append_assoc]; rfl)) ?_
  refine jk_astore (lv' := [(9, .ref a9), (8, .ref a8), (7, .ref a7), (6, .ref a6), (5, .int (nI n)), (4, .int x), (3, .int (nI t)), (2, .ref (p 0)), (1, .ref q), (0, .ref E.1.2.1)]) K dL_law_118 (by decide) rfl ?_
  refine jk_iconst (x := 0) K dL_law_120 rfl ?_
  refine jk_istore (lv' := [(10, .int 0), (9, .ref a9), (8, .ref a8), (7, .ref a7), (6, .ref a6), (5, .int (nI n)), (4, .int x), (3, .int (nI t)), (2, .ref (p 0)), (1, .ref q), (0, .ref E.1.2.1)]) K dL_law_121 (by decide) rfl ?_
  refine jk_iconst (x := 0) K dL_law_123 rfl ?_
  refine jk_istore (lv' := [(11, .int 0), (10, .int 0), (9, .ref a9), (8, .ref a8), (7, .ref a7), (6, .ref a6), (5, .int (nI n)), (4, .int x), (3, .int (nI t)), (2, .ref (p 0)), (1, .ref q), (0, .ref E.1.2.1)]) K dL_law_124 (by decide) rfl ?_
  refine jk_iconst (x := 0) K dL_law_126 rfl ?_
  refine jk_istore (lv' := [(12, .int 0), (11, .int 0), (10, .int 0), (9, .ref a9), (8, .ref a8), (7, .ref a7), (6, .ref a6), (5, .int (nI n)), (4, .int x), (3, .int (nI t)), (2, .ref (p 0)), (1, .ref q), (0, .ref E.1.2.1)]) K dL_law_127 (by decide) rfl ?_
  refine jk_sub (lv' := [(12, .int 0), (11, .int 0), (10, .int 0), (9, .ref a9), (8, .ref a8), (7, .ref a7), (6, .ref a6), (5, .int (nI n)), (3, .int (nI t)), (2, .ref (p 0)), (1, .ref q), (0, .ref E.1.2.1)]) [0, 1, 2, 3, 4, 5, 6, 7, 9, 10, 11, 12] rfl ?_
  refine jk_lv (lv' := [(12, .int (nI 0)), (11, .int (hb_wood C 0)), (10, .int (sm_bu (sm_N C) 0)), (9, .ref a9), (8, .ref a8), (7, .ref a7), (6, .ref a6), (5, .int (nI n)), (3, .int (nI t)), (2, .ref (p 0)), (1, .ref q), (0, .ref E.1.2.1)]) rfl ?_
  refine jk_ws (ws' := (sm_S E (hb_cw E q b1 b2 C G M C2 G2 M2) ([] ++ [lw_a E 0 a6 n (ar_f (lf_w C) 0), lw_a E 2 a7 n (ar_f (lf_b C) 0), lw_a E 2 a8 n (ar_f (lf_d C) 0), lw_a E 0 a9 n (ar_f (lf_s C) 0)]) p n (sm_G G) (sm_N C) (sm_M M))) rfl ?_
  refine jk_wide (n' := cn + 4) (k' := ck + 40) (by omega) (by omega) ?_
  exact lw_B K q b1 b2 [] p n B C G M C2 G2 M2 hiv h2 hB t a6 a7 a8 a9 (cn + 4) (ck + 40) (by omega) (by omega) (lw_C K q b1 b2 [] p n B C G M C2 G2 M2 hiv h2 hB t a6 a7 a8 a9 _ _ (by omega) (by omega) (jk_wide (by omega) (by omega) kk))
set_option maxHeartbeats 60000000 in
set_option maxRecDepth 100000 in
theorem lw_A {Γ : jk_G} {E : jk_T} (K : jk_C Γ E RL cL_law 22 wsL_law ({ frames := 14, cells := 600130, slots := 7301079, locals := 540 } : Room)) (hL : E.1.2.2.1 ≤ 260) (q : Nat) (b1 b2 : Nat → Nat) (C2 : Nat → Nat → Int32) (G2 M2 : Nat → Int32) (t : Nat) (ht : t < 20) (B : Nat) (hB : B + 1000 ≤ 1000000) (u : lw_LS) (hiv : iv u.2.1 B u.2.2.1 u.2.2.2.1 u.2.2.2.2) (h2 : 2 ≤ u.2.1) (cn ck : Nat) (hcn : cn + 3000 ≤ 600130) (hck : ck + 20000 ≤ 7301079) (kk : ∀ v : lw_LS, iv v.2.1 (B + 1000) v.2.2.1 v.2.2.2.1 v.2.2.2.2 → 2 ≤ v.2.1 → jk_J Γ E (lw_W E q b1 b2 [] C2 G2 M2 v) (cn + 3000) (ck + 20000) 22 [(3, .int (nI (t + 1))), (2, .ref (v.1 0)), (1, .ref q), (0, .ref E.1.2.1)] []) : jk_J Γ E (lw_W E q b1 b2 [] C2 G2 M2 u) (cn + 81 * 0) (ck + 806 * 0) 28 [(3, .int (nI t)), (2, .ref (u.1 0)), (1, .ref q), (0, .ref E.1.2.1)] [] := by
  have hl := K.2.2.2.2.2.2.2.2.2.2
  have hF : ∀ x : Int32, ∀ k, k ≤ 2 → ∀ u : lw_LS, iv u.2.1 (B + 400 * k) u.2.2.1 u.2.2.2.1 u.2.2.2.2 → 2 ≤ u.2.1 → jk_J Γ E (lw_W E q b1 b2 [] C2 G2 M2 u) (cn + 81 * k) (ck + 806 * k) 54 [(5, .int (nI k)), (4, .int x), (3, .int (nI t)), (2, .ref (u.1 0)), (1, .ref q), (0, .ref E.1.2.1)] [] := by
    intro x
    refine jk_loop (fun k hk ih => ?_)
    intro u hiv h2
    refine jk_iload K dL_law_54 0 rfl ?_
    refine jk_iconst (x := (nI 2)) K dL_law_56 rfl ?_
    refine jk_icmp_ge (tgt := 90) K dL_law_57 rfl (fun c_57 => ?_) (fun c_57 => ?_)
    · have hk2 : k = 2 := hb_ex (n := 2) rfl (by omega) hk c_57
      subst hk2
      obtain ⟨p, n, C, G, M⟩ := u
      exact lw_N K q b1 b2 p n _ C G M C2 G2 M2 hiv h2 (by omega) t x _ _ (by omega) (by omega) (jk_wide (by omega) (by omega) (kk (p, n, (hb_poC C G M n), (hb_poG C G M n), M) (iv_w (mn_iv hiv) (by omega)) h2))
    · have hlk : k < 2 := hb_in (n := 2) rfl (by omega) hk c_57
      refine jk_aload_n K dL_law_60 rfl 4 rfl ?_
      refine jk_aload_n K dL_law_61 rfl 3 rfl ?_
      refine jk_iload K dL_law_62 1 rfl ?_
      refine jk_iconst (x := 2) K dL_law_64 rfl ?_
      refine jk_iload K dL_law_65 0 rfl ?_
      refine jk_imul K dL_law_67 ?_
      refine jk_ishr K dL_law_68 ?_
      refine jk_sipush (x := 419) K dL_law_69 rfl ?_
      refine jk_iload K dL_law_72 0 rfl ?_
      refine jk_imul K dL_law_74 ?_
      refine jk_iadd K dL_law_75 ?_
      refine jk_cSi K (n' := ((cn + 81 * k) + 81)) (k' := ((ck + 806 * k) + 806)) [.ref q, .ref (u.1 0), .int ((x >>> ((2 * (nI k)) &&& 31)) + (419 * (nI k)))] [] dL_law_76 (hb_L_act _ hl E q b1 b2 [] u.1 u.2.1 (B + 400 * k) u.2.2.1 u.2.2.2.1 u.2.2.2.2 C2 G2 M2 hiv ((x >>> ((2 * (nI k)) &&& 31)) + (419 * (nI k)))) gL_law_L_act rfl kd_L_act ⟨Nat.le_of_ble_eq_true rfl, Nat.le_of_ble_eq_true rfl⟩ (Nat.le_of_ble_eq_true rfl) ⟨rfl, rfl⟩ ⟨(by show _ ≤ 600130; omega), (by show _ ≤ 7301079; omega)⟩ rfl (fun v76 hv76 => ?_)
      refine jk_if_ne (tgt := 84) K dL_law_79 rfl (fun c_79 => ?_) (fun c_79 => ?_)
      · refine jk_iinc (v := (nI (k + 1))) (lv' := [(5, .int (nI (k + 1))), (4, .int x), (3, .int (nI t)), (2, .ref (u.1 0)), (1, .ref q), (0, .ref E.1.2.1)]) K dL_law_84 0 rfl (nI_1 k) (by decide) rfl ?_
        refine jk_goto (tgt := 54) K dL_law_87 rfl ?_
        refine jk_sub (lv' := [(5, .int (nI (k + 1))), (4, .int x), (3, .int (nI t)), (2, .ref (u.1 0)), (1, .ref q), (0, .ref E.1.2.1)]) [0, 1, 2, 3, 4, 5] rfl ?_
        refine jk_lv (lv' := [(5, .int (nI (k + 1))), (4, .int x), (3, .int (nI t)), (2, .ref (v76.1 0)), (1, .ref q), (0, .ref E.1.2.1)]) (by rw [hv76.1]) ?_
        refine jk_wide (n' := (cn + 81 * (k + 1))) (k' := (ck + 806 * (k + 1))) (by omega) (by omega) ?_
        exact ih hlk v76 (by rw [show B + 400 * (k + 1) = B + 400 * k + 400 by omega]; exact hv76.2.1) (by have z1 := hv76.2.2.1; omega)
      · exact absurd c_79 (by decide)
  refine jk_aload_n K dL_law_28 rfl 3 rfl ?_
  refine jk_iload_n K dL_law_29 rfl 0 rfl ?_
  refine jk_bipush (x := (nI 16)) K dL_law_30 rfl ?_
  refine jk_irem K dL_law_32 (nI_ne0 (by decide) (by decide)) ?_
  refine jk_st (st' := [.int (nI (t % 16)), .ref E.1.2.1]) (by rw [pk_rem (by omega) (by decide) (by decide)]) ?_
  refine jk_cSi K (n' := (cn + 81 * 0)) (k' := (ck + 806 * 0)) [.ref E.1.2.1, .int (nI (t % 16))] [] dL_law_33 (hb_L_cell _ hl E (hb_v1 E q b1 b2 (sm_SW E u.1 u.2.1 (sm_G u.2.2.2.1) (sm_N u.2.2.1) (sm_M u.2.2.2.2) ++ []) u.2.2.1 u.2.2.2.1 u.2.2.2.2 C2 G2 M2) hL (nI (t % 16)) (nI_pos (by omega))) gL_law_L_cell rfl kd_L_cell ⟨Nat.le_of_ble_eq_true rfl, Nat.le_of_ble_eq_true rfl⟩ (Nat.le_of_ble_eq_true rfl) ⟨rfl, rfl⟩ ⟨(by show _ ≤ 600130; omega), (by show _ ≤ 7301079; omega)⟩ rfl (fun v33 _ => ?_)
  refine jk_iload_n K dL_law_36 rfl 0 rfl ?_
  refine jk_bipush (x := (nI 16)) K dL_law_37 rfl ?_
  refine jk_idiv K dL_law_39 (nI_ne0 (by decide) (by decide)) ?_
  refine jk_iconst (x := 3) K dL_law_40 rfl ?_
  refine jk_imul K dL_law_41 ?_
  refine jk_ishr K dL_law_42 ?_
  refine jk_sipush (x := 541) K dL_law_43 rfl ?_
  refine jk_iload_n K dL_law_46 rfl 0 rfl ?_
  refine jk_imul K dL_law_47 ?_
  refine jk_iadd K dL_law_48 ?_
  refine jk_istore (lv' := [(4, .int ((v33 >>> ((((nI t) / (nI 16)) * 3) &&& 31)) + (541 * (nI t)))), (3, .int (nI t)), (2, .ref (u.1 0)), (1, .ref q), (0, .ref E.1.2.1)]) K dL_law_49 (by decide) rfl ?_
  refine jk_iconst (x := 0) K dL_law_51 rfl ?_
  refine jk_istore (lv' := [(5, .int 0), (4, .int ((v33 >>> ((((nI t) / (nI 16)) * 3) &&& 31)) + (541 * (nI t)))), (3, .int (nI t)), (2, .ref (u.1 0)), (1, .ref q), (0, .ref E.1.2.1)]) K dL_law_52 (by decide) rfl ?_
  refine jk_lv (lv' := [(5, .int (nI 0)), (4, .int ((v33 >>> ((((nI t) / (nI 16)) * 3) &&& 31)) + (541 * (nI t)))), (3, .int (nI t)), (2, .ref (u.1 0)), (1, .ref q), (0, .ref E.1.2.1)]) rfl ?_
  exact hF _ 0 (by decide) u hiv h2
