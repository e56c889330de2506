theorem kd_X2_fewestSteps : yX2_fewestSteps.cls = RX2 ∧ yX2_fewestSteps.cls ≠ "java/lang/invoke/MethodHandle" ∧ yX2_fewestSteps.cls ≠ "java/lang/invoke/VarHandle" ∧ (parseMethodDescriptor yX2_fewestSteps.desc).map (fun d => d.parameters.length) = some 2 := by decide +kernel
set_option maxHeartbeats 60000000 in
set_option maxRecDepth 100000 in
theorem lw_I {Γ : jk_G} {E : jk_T} (K : jk_C Γ E RL cL_law 22 wsL_law ({ frames := 14, cells := 600130, slots := 7301079, locals := 540 } : Room)) (q : Nat) (b1 b2 : Nat → Nat) (Y : va_W) (p : Nat → Nat) (n B : Nat) (C : Nat → Nat → Int32) (G M : Nat → Int32) (C2 : Nat → Nat → Int32) (G2 M2 : Nat → Int32) (hiv : iv n B C G M) (h2 : 2 ≤ n) (hB : B ≤ 1000000) (t : Nat) (a6 a7 a8 a9 : Nat) (j : Nat) (hlt : j < n) (cn ck : Nat) (hcn : cn + 1720 ≤ 600130) (hck : ck + 10300 ≤ 7301079) (kk : jk_J Γ E (sm_S E (hb_cw E q b1 b2 C G M C2 G2 M2) (Y ++ [lw_a E 0 a6 n (ar_f (lf_w C) (j + 1)), lw_a E 2 a7 n (ar_f (lf_b C) (j + 1)), lw_a E 2 a8 n (ar_f (lf_d C) (j + 1)), lw_a E 0 a9 n (ar_f (lf_s C) (j + 1))]) p n (sm_G G) (sm_N C) (sm_M M)) (cn + 171 * (j + 1)) (ck + 1026 * (j + 1)) 129 [(12, .int (nI (j + 1))), (11, .int (hb_wood C (j + 1))), (10, .int (sm_bu (sm_N C) (j + 1))), (9, .ref a9), (8, .ref a8), (7, .ref a7), (6, .ref a6), (5, .int (nI n)), (3, .int (nI t)), (2, .ref (p 0)), (1, .ref q), (0, .ref E.1.2.1)] []) : jk_J Γ E (sm_S E (hb_cw E q b1 b2 C G M C2 G2 M2) (Y ++ [lw_a E 0 a6 n (ar_f (lf_w C) (j + 1)), lw_a E 2 a7 n (ar_f (lf_b C) (j + 1)), lw_a E 2 a8 n (ar_f (lf_d C) (j + 1)), lw_a E 0 a9 n (ar_f (lf_s C) (j + 1))]) p n (sm_G G) (sm_N C) (sm_M M)) (cn + 171 * j + 11 + 16 * 0) (ck + 1026 * j + 66 + 96 * 0) 383 [(14, .int (nI 0)), (12, .int (nI j)), (11, .int (hb_wood C (j + 1))), (10, .int (sm_bu (sm_N C) (j + 1))), (9, .ref a9), (8, .ref a8), (7, .ref a7), (6, .ref a6), (5, .int (nI n)), (3, .int (nI t)), (2, .ref (p 0)), (1, .ref q), (0, .ref E.1.2.1)] [] := by
  have hl := K.2.2.2.2.2.2.2.2.2.2
  have hn := hiv.1
  have hg : G 0 = nI n := hiv.2.2.2.1.1
  have hI : ∀ i, i ≤ n → jk_J Γ E (hb_v1 E q b1 b2 (sm_SW E p n (sm_G G) (sm_N C) (sm_M M) ++ (Y ++ [lw_a E 0 a6 n (ar_f (lf_w C) (j + 1)), lw_a E 2 a7 n (ar_f (lf_b C) (j + 1)), lw_a E 2 a8 n (ar_f (lf_d C) (j + 1)), lw_a E 0 a9 n (ar_f (lf_s C) (j + 1))])) C G M C2 G2 M2) (cn + 171 * j + 11 + 16 * i) (ck + 1026 * j + 66 + 96 * i) 383 [(14, .int (nI i)), (12, .int (nI j)), (11, .int (hb_wood C (j + 1))), (10, .int (sm_bu (sm_N C) (j + 1))), (9, .ref a9), (8, .ref a8), (7, .ref a7), (6, .ref a6), (5, .int (nI n)), (3, .int (nI t)), (2, .ref (p 0)), (1, .ref q), (0, .ref E.1.2.1)] [] := by
    refine jk_loop (fun i hi ih => ?_)
    refine jk_iload K dL_law_383 0 rfl ?_
    refine jk_iload K dL_law_385 8 rfl ?_
    refine jk_icmp_ge (tgt := 547) K dL_law_387 rfl (fun c_387 => ?_) (fun c_387 => ?_)
    · have hin : i = n := hb_ex (n := n) rfl (by omega) hi c_387
      refine jk_iinc (v := (nI (j + 1))) (lv' := [(12, .int (nI (j + 1))), (14, .int (nI i)), (11, .int (hb_wood C (j + 1))), (10, .int (sm_bu (sm_N C) (j + 1))), (9, .ref a9), (8, .ref a8), (7, .ref a7), (6, .ref a6), (5, .int (nI n)), (3, .int (nI t)), (2, .ref (p 0)), (1, .ref q), (0, .ref E.1.2.1)]) K dL_law_547 1 rfl (nI_1 j) (by decide) rfl ?_
      refine jk_goto (tgt := 129) K dL_law_550 rfl ?_
      refine jk_ws (ws' := (sm_S E (hb_cw E q b1 b2 C G M C2 G2 M2) (Y ++ [lw_a E 0 a6 n (ar_f (lf_w C) (j + 1)), lw_a E 2 a7 n (ar_f (lf_b C) (j + 1)), lw_a E 2 a8 n (ar_f (lf_d C) (j + 1)), lw_a E 0 a9 n (ar_f (lf_s C) (j + 1))]) p n (sm_G G) (sm_N C) (sm_M M))) lw_sw ?_
      refine jk_wide (n' := (cn + 171 * (j + 1))) (k' := (ck + 1026 * (j + 1))) (by omega) (by omega) ?_
      refine jk_sub (lv' := [(12, .int (nI (j + 1))), (11, .int (hb_wood C (j + 1))), (10, .int (sm_bu (sm_N C) (j + 1))), (9, .ref a9), (8, .ref a8), (7, .ref a7), (6, .ref a6), (5, .int (nI n)), (3, .int (nI t)), (2, .ref (p 0)), (1, .ref q), (0, .ref E.1.2.1)]) [0, 2, 3, 4, 5, 6, 7, 8, 9, 10, 11, 12] rfl ?_
      exact kk
    · have hli : i < n := hb_in (n := n) rfl (by omega) hi c_387
      refine jk_aload_n K dL_law_390 rfl 11 rfl ?_
      refine jk_iload K dL_law_391 1 rfl ?_
      refine jk_iload K dL_law_393 0 rfl ?_
      refine jk_cVi K (n' := ((cn + 171 * j + 11 + 16 * i) + 2)) (k' := ((ck + 1026 * j + 66 + 96 * i) + 12)) [.int (nI j), .int (nI i)] [] dL_law_395 (lc_canSee _ hl E q b1 b2 (sm_SW E p n (sm_G G) (sm_N C) (sm_M M) ++ (Y ++ [lw_a E 0 a6 n (ar_f (lf_w C) (j + 1)), lw_a E 2 a7 n (ar_f (lf_b C) (j + 1)), lw_a E 2 a8 n (ar_f (lf_d C) (j + 1)), lw_a E 0 a9 n (ar_f (lf_s C) (j + 1))])) C G M C2 G2 M2 n hn hg j i hlt hli) gL_law_X2_canSee rfl kd_X2_canSee ⟨Nat.le_of_ble_eq_true rfl, Nat.le_of_ble_eq_true rfl⟩ 0 rfl rfl (Nat.le_of_ble_eq_true rfl) ⟨rfl, rfl⟩ ⟨(by show _ ≤ 600130; omega), (by show _ ≤ 7301079; omega)⟩ rfl (fun _ _ => ?_)
      refine jk_istore (lv' := [(15, .int (hb_clr (G 1) (M (j * 10 + i)))), (14, .int (nI i)), (12, .int (nI j)), (11, .int (hb_wood C (j + 1))), (10, .int (sm_bu (sm_N C) (j + 1))), (9, .ref a9), (8, .ref a8), (7, .ref a7), (6, .ref a6), (5, .int (nI n)), (3, .int (nI t)), (2, .ref (p 0)), (1, .ref q), (0, .ref E.1.2.1)]) K dL_law_398 (by decide) rfl ?_
      refine jk_aload_n K dL_law_400 rfl 12 rfl ?_
      refine jk_iload K dL_law_401 2 rfl ?_
      refine jk_iload K dL_law_403 1 rfl ?_
      refine jk_cVi K (n' := (((cn + 171 * j + 11 + 16 * i) + 2) + 2)) (k' := (((ck + 1026 * j + 66 + 96 * i) + 12) + 12)) [.int (nI j), .int (nI i)] [] dL_law_405 (lc_fewestSteps _ hl E q b1 b2 (sm_SW E p n (sm_G G) (sm_N C) (sm_M M) ++ (Y ++ [lw_a E 0 a6 n (ar_f (lf_w C) (j + 1)), lw_a E 2 a7 n (ar_f (lf_b C) (j + 1)), lw_a E 2 a8 n (ar_f (lf_d C) (j + 1)), lw_a E 0 a9 n (ar_f (lf_s C) (j + 1))])) C G M C2 G2 M2 n hn hg j i hlt hli) gL_law_X2_fewestSteps rfl kd_X2_fewestSteps ⟨Nat.le_of_ble_eq_true rfl, Nat.le_of_ble_eq_true rfl⟩ 0 rfl rfl (Nat.le_of_ble_eq_true rfl) ⟨rfl, rfl⟩ ⟨(by show _ ≤ 600130; omega), (by show _ ≤ 7301079; omega)⟩ rfl (fun _ _ => ?_)
      refine jk_istore (lv' := [(16, .int (hb_steps G M n j i)), (15, .int (hb_clr (G 1) (M (j * 10 + i)))), (14, .int (nI i)), (12, .int (nI j)), (11, .int (hb_wood C (j + 1))), (10, .int (sm_bu (sm_N C) (j + 1))), (9, .ref a9), (8, .ref a8), (7, .ref a7), (6, .ref a6), (5, .int (nI n)), (3, .int (nI t)), (2, .ref (p 0)), (1, .ref q), (0, .ref E.1.2.1)]) K dL_law_408 (by decide) rfl ?_
      refine jk_iload K dL_law_410 1 rfl ?_
      refine jk_aload_n K dL_law_412 rfl 13 rfl ?_
      refine jk_iload K dL_law_413 2 rfl ?_
      refine jk_iload K dL_law_415 3 rfl ?_
      refine jk_cVi K (n' := ((((cn + 171 * j + 11 + 16 * i) + 2) + 2) + 2)) (k' := ((((ck + 1026 * j + 66 + 96 * i) + 12) + 12) + 12)) [.int (nI i), .int (nI j)] [.int (hb_clr (G 1) (M (j * 10 + i)))] dL_law_417 (lc_canSee _ hl E q b1 b2 (sm_SW E p n (sm_G G) (sm_N C) (sm_M M) ++ (Y ++ [lw_a E 0 a6 n (ar_f (lf_w C) (j + 1)), lw_a E 2 a7 n (ar_f (lf_b C) (j + 1)), lw_a E 2 a8 n (ar_f (lf_d C) (j + 1)), lw_a E 0 a9 n (ar_f (lf_s C) (j + 1))])) C G M C2 G2 M2 n hn hg i j hli hlt) gL_law_X2_canSee rfl kd_X2_canSee ⟨Nat.le_of_ble_eq_true rfl, Nat.le_of_ble_eq_true rfl⟩ 0 rfl rfl (Nat.le_of_ble_eq_true rfl) ⟨rfl, rfl⟩ ⟨(by show _ ≤ 600130; omega), (by show _ ≤ 7301079; omega)⟩ rfl (fun _ _ => ?_)
      refine jk_icmp_ne_F (tgt := 539) K dL_law_420 rfl (congrArg (hb_clr (G 1)) (hiv.2.2.2.2 j i (Nat.lt_of_lt_of_le hlt hn) (Nat.lt_of_lt_of_le hli hn)).1) ?_
      refine jk_aload_n K dL_law_423 rfl 13 rfl ?_
      refine jk_iload K dL_law_424 3 rfl ?_
      refine jk_iload K dL_law_426 2 rfl ?_
      refine jk_cVi K (n' := (((((cn + 171 * j + 11 + 16 * i) + 2) + 2) + 2) + 2)) (k' := (((((ck + 1026 * j + 66 + 96 * i) + 12) + 12) + 12) + 12)) [.int (nI j), .int (nI i)] [] dL_law_428 (lc_milesBetween _ hl E q b1 b2 (sm_SW E p n (sm_G G) (sm_N C) (sm_M M) ++ (Y ++ [lw_a E 0 a6 n (ar_f (lf_w C) (j + 1)), lw_a E 2 a7 n (ar_f (lf_b C) (j + 1)), lw_a E 2 a8 n (ar_f (lf_d C) (j + 1)), lw_a E 0 a9 n (ar_f (lf_s C) (j + 1))])) C G M C2 G2 M2 n hn hg j i hlt hli) gL_law_X2_milesBetween rfl kd_X2_milesBetween ⟨Nat.le_of_ble_eq_true rfl, Nat.le_of_ble_eq_true rfl⟩ 0 rfl rfl (Nat.le_of_ble_eq_true rfl) ⟨rfl, rfl⟩ ⟨(by show _ ≤ 600130; omega), (by show _ ≤ 7301079; omega)⟩ rfl (fun _ _ => ?_)
      refine jk_aload_n K dL_law_431 rfl 13 rfl ?_
      refine jk_iload K dL_law_432 2 rfl ?_
      refine jk_iload K dL_law_434 3 rfl ?_
      refine jk_cVi K (n' := ((((((cn + 171 * j + 11 + 16 * i) + 2) + 2) + 2) + 2) + 2)) (k' := ((((((ck + 1026 * j + 66 + 96 * i) + 12) + 12) + 12) + 12) + 12)) [.int (nI i), .int (nI j)] [.int (M (j * 10 + i))] dL_law_436 (lc_milesBetween _ hl E q b1 b2 (sm_SW E p n (sm_G G) (sm_N C) (sm_M M) ++ (Y ++ [lw_a E 0 a6 n (ar_f (lf_w C) (j + 1)), lw_a E 2 a7 n (ar_f (lf_b C) (j + 1)), lw_a E 2 a8 n (ar_f (lf_d C) (j + 1)), lw_a E 0 a9 n (ar_f (lf_s C) (j + 1))])) C G M C2 G2 M2 n hn hg i j hli hlt) gL_law_X2_milesBetween rfl kd_X2_milesBetween ⟨Nat.le_of_ble_eq_true rfl, Nat.le_of_ble_eq_true rfl⟩ 0 rfl rfl (Nat.le_of_ble_eq_true rfl) ⟨rfl, rfl⟩ ⟨(by show _ ≤ 600130; omega), (by show _ ≤ 7301079; omega)⟩ rfl (fun _ _ => ?_)
      refine jk_icmp_ne_F (tgt := 539) K dL_law_439 rfl (hiv.2.2.2.2 j i (Nat.lt_of_lt_of_le hlt hn) (Nat.lt_of_lt_of_le hli hn)).1 ?_
      refine jk_iload K dL_law_442 1 rfl ?_
      refine jk_if_eq (tgt := 478) K dL_law_444 rfl (fun c_444 => ?_) (fun c_444 => ?_)
      · refine jk_iload K dL_law_478 0 rfl ?_
        refine jk_aload_n K dL_law_480 rfl 13 rfl ?_
        refine jk_iload K dL_law_481 2 rfl ?_
        refine jk_iload K dL_law_483 3 rfl ?_
        refine jk_cVi K (n' := (((((((cn + 171 * j + 11 + 16 * i) + 2) + 2) + 2) + 2) + 2) + 2)) (k' := (((((((ck + 1026 * j + 66 + 96 * i) + 12) + 12) + 12) + 12) + 12) + 12)) [.int (nI i), .int (nI j)] [.int (hb_steps G M n j i)] dL_law_485 (lc_fewestSteps _ hl E q b1 b2 (sm_SW E p n (sm_G G) (sm_N C) (sm_M M) ++ (Y ++ [lw_a E 0 a6 n (ar_f (lf_w C) (j + 1)), lw_a E 2 a7 n (ar_f (lf_b C) (j + 1)), lw_a E 2 a8 n (ar_f (lf_d C) (j + 1)), lw_a E 0 a9 n (ar_f (lf_s C) (j + 1))])) C G M C2 G2 M2 n hn hg i j hli hlt) gL_law_X2_fewestSteps rfl kd_X2_fewestSteps ⟨Nat.le_of_ble_eq_true rfl, Nat.le_of_ble_eq_true rfl⟩ 0 rfl rfl (Nat.le_of_ble_eq_true rfl) ⟨rfl, rfl⟩ ⟨(by show _ ≤ 600130; omega), (by show _ ≤ 7301079; omega)⟩ rfl (fun _ _ => ?_)
        refine jk_icmp_ne_F (tgt := 539) K dL_law_488 rfl (st_sym hiv hlt hli) ?_
        refine jk_iload K dL_law_491 0 rfl ?_
        refine jk_iconst (x := 1) K dL_law_493 rfl ?_
        refine jk_icmp_ne_T (tgt := 501) K dL_law_494 rfl (fun z => (st_1 hiv hlt hli).mp z c_444) ?_
        refine jk_iconst (x := 0) K dL_law_501 rfl ?_
        refine jk_iload K dL_law_502 1 rfl ?_
        refine jk_icmp_ne_F (tgt := 539) K dL_law_504 rfl c_444.symm ?_
        refine jk_iload K dL_law_507 0 rfl ?_
        refine jk_if_ne (tgt := 516) K dL_law_509 rfl (fun c_509 => ?_) (fun c_509 => ?_)
        · refine jk_iconst (x := 0) K dL_law_516 rfl ?_
          refine jk_iload K dL_law_517 3 rfl ?_
          refine jk_iload K dL_law_519 2 rfl ?_
          refine jk_icmp_ne_T (tgt := 528) K dL_law_521 rfl (fun z => c_509 ((st_0 hn hlt hli).mpr (lw_inj hn hlt hli z))) ?_
          refine jk_iconst (x := 0) K dL_law_528 rfl ?_
          refine jk_icmp_ne (tgt := 539) K dL_law_529 rfl (fun c_529 => ?_) (fun c_529 => ?_)
          · exact absurd (by decide) c_529
          · refine jk_iload K dL_law_532 0 rfl ?_
            refine jk_iload K dL_law_534 10 rfl ?_
            refine jk_icmp_lt_T (tgt := 541) K dL_law_536 rfl (st_lt hiv hlt hli) ?_
            refine jk_iinc (v := (nI (i + 1))) (lv' := [(14, .int (nI (i + 1))), (16, .int (hb_steps G M n j i)), (15, .int (hb_clr (G 1) (M (j * 10 + i)))), (12, .int (nI j)), (11, .int (hb_wood C (j + 1))), (10, .int (sm_bu (sm_N C) (j + 1))), (9, .ref a9), (8, .ref a8), (7, .ref a7), (6, .ref a6), (5, .int (nI n)), (3, .int (nI t)), (2, .ref (p 0)), (1, .ref q), (0, .ref E.1.2.1)]) K dL_law_541 2 rfl (nI_1 i) (by decide) rfl ?_
            refine jk_goto (tgt := 383) K dL_law_544 rfl ?_
            refine jk_wide (n' := (cn + 171 * j + 11 + 16 * (i + 1))) (k' := (ck + 1026 * j + 66 + 96 * (i + 1))) (by omega) (by omega) ?_
            refine jk_sub (lv' := [(14, .int (nI (i + 1))), (12, .int (nI j)), (11, .int (hb_wood C (j + 1))), (10, .int (sm_bu (sm_N C) (j + 1))), (9, .ref a9), (8, .ref a8), (7, .ref a7), (6, .ref a6), (5, .int (nI n)), (3, .int (nI t)), (2, .ref (p 0)), (1, .ref q), (0, .ref E.1.2.1)]) [0, 3, 4, 5, 6, 7, 8, 9, 10, 11, 12, 13, 14] rfl ?_
            exact ih hli
        · refine jk_iconst (x := 1) K dL_law_512 rfl ?_
          refine jk_goto (tgt := 517) K dL_law_513 rfl ?_
          refine jk_iload K dL_law_517 3 rfl ?_
          refine jk_iload K dL_law_519 2 rfl ?_
          refine jk_icmp_ne_F (tgt := 528) K dL_law_521 rfl (by rw [(st_0 hn hlt hli).mp c_509]) ?_
          refine jk_iconst (x := 1) K dL_law_524 rfl ?_
          refine jk_goto (tgt := 529) K dL_law_525 rfl ?_
          refine jk_icmp_ne (tgt := 539) K dL_law_529 rfl (fun c_529 => ?_) (fun c_529 => ?_)
          · exact absurd (by decide) c_529
          · refine jk_iload K dL_law_532 0 rfl ?_
            refine jk_iload K dL_law_534 10 rfl ?_
            refine jk_icmp_lt_T (tgt := 541) K dL_law_536 rfl (st_lt hiv hlt hli) ?_
            refine jk_iinc (v := (nI (i + 1))) (lv' := [(14, .int (nI (i + 1))), (16, .int (hb_steps G M n j i)), (15, .int (hb_clr (G 1) (M (j * 10 + i)))), (12, .int (nI j)), (11, .int (hb_wood C (j + 1))), (10, .int (sm_bu (sm_N C) (j + 1))), (9, .ref a9), (8, .ref a8), (7, .ref a7), (6, .ref a6), (5, .int (nI n)), (3, .int (nI t)), (2, .ref (p 0)), (1, .ref q), (0, .ref E.1.2.1)]) K dL_law_541 2 rfl (nI_1 i) (by decide) rfl ?_
            refine jk_goto (tgt := 383) K dL_law_544 rfl ?_
            refine jk_wide (n' := (cn + 171 * j + 11 + 16 * (i + 1))) (k' := (ck + 1026 * j + 66 + 96 * (i + 1))) (by omega) (by omega) ?_
            refine jk_sub (lv' := [(14, .int (nI (i + 1))), (12, .int (nI j)), (11, .int (hb_wood C (j + 1))), (10, .int (sm_bu (sm_N C) (j + 1))), (9, .ref a9), (8, .ref a8), (7, .ref a7), (6, .ref a6), (5, .int (nI n)), (3, .int (nI t)), (2, .ref (p 0)), (1, .ref q), (0, .ref E.1.2.1)]) [0, 3, 4, 5, 6, 7, 8, 9, 10, 11, 12, 13, 14] rfl ?_
            exact ih hli
      · refine jk_aload_n K dL_law_447 rfl 13 rfl ?_
        refine jk_iload K dL_law_448 3 rfl ?_
        refine jk_iload K dL_law_450 2 rfl ?_
        refine jk_cVi K (n' := (((((((cn + 171 * j + 11 + 16 * i) + 2) + 2) + 2) + 2) + 2) + 2)) (k' := (((((((ck + 1026 * j + 66 + 96 * i) + 12) + 12) + 12) + 12) + 12) + 12)) [.int (nI j), .int (nI i)] [] dL_law_452 (lc_milesBetween _ hl E q b1 b2 (sm_SW E p n (sm_G G) (sm_N C) (sm_M M) ++ (Y ++ [lw_a E 0 a6 n (ar_f (lf_w C) (j + 1)), lw_a E 2 a7 n (ar_f (lf_b C) (j + 1)), lw_a E 2 a8 n (ar_f (lf_d C) (j + 1)), lw_a E 0 a9 n (ar_f (lf_s C) (j + 1))])) C G M C2 G2 M2 n hn hg j i hlt hli) gL_law_X2_milesBetween rfl kd_X2_milesBetween ⟨Nat.le_of_ble_eq_true rfl, Nat.le_of_ble_eq_true rfl⟩ 0 rfl rfl (Nat.le_of_ble_eq_true rfl) ⟨rfl, rfl⟩ ⟨(by show _ ≤ 600130; omega), (by show _ ≤ 7301079; omega)⟩ rfl (fun _ _ => ?_)
        refine jk_if_eq_F (tgt := 539) K dL_law_455 rfl (fun z => by have w := (clr_pos c_444).1; rw [z] at w; exact absurd w (by decide)) ?_
        refine jk_aload_n K dL_law_458 rfl 13 rfl ?_
        refine jk_iload K dL_law_459 3 rfl ?_
        refine jk_iload K dL_law_461 2 rfl ?_
        refine jk_cVi K (n' := ((((((((cn + 171 * j + 11 + 16 * i) + 2) + 2) + 2) + 2) + 2) + 2) + 2)) (k' := ((((((((ck + 1026 * j + 66 + 96 * i) + 12) + 12) + 12) + 12) + 12) + 12) + 12)) [.int (nI j), .int (nI i)] [] dL_law_463 (lc_milesBetween _ hl E q b1 b2 (sm_SW E p n (sm_G G) (sm_N C) (sm_M M) ++ (Y ++ [lw_a E 0 a6 n (ar_f (lf_w C) (j + 1)), lw_a E 2 a7 n (ar_f (lf_b C) (j + 1)), lw_a E 2 a8 n (ar_f (lf_d C) (j + 1)), lw_a E 0 a9 n (ar_f (lf_s C) (j + 1))])) C G M C2 G2 M2 n hn hg j i hlt hli) gL_law_X2_milesBetween rfl kd_X2_milesBetween ⟨Nat.le_of_ble_eq_true rfl, Nat.le_of_ble_eq_true rfl⟩ 0 rfl rfl (Nat.le_of_ble_eq_true rfl) ⟨rfl, rfl⟩ ⟨(by show _ ≤ 600130; omega), (by show _ ≤ 7301079; omega)⟩ rfl (fun _ _ => ?_)
        refine jk_bipush (x := 20) K dL_law_466 rfl ?_
        refine jk_iconst (x := 2) K dL_law_468 rfl ?_
        refine jk_aload_n K dL_law_469 rfl 13 rfl ?_
        refine jk_cVi K (n' := ((((((((cn + 171 * j + 11 + 16 * i) + 2) + 2) + 2) + 2) + 2) + 2) + 2)) (k' := ((((((((ck + 1026 * j + 66 + 96 * i) + 12) + 12) + 12) + 12) + 12) + 12) + 12)) [] [.int 2, .int 20, .int (M (j * 10 + i))] dL_law_470 (hb_X2_haze _ hl E q b1 b2 (sm_SW E p n (sm_G G) (sm_N C) (sm_M M) ++ (Y ++ [lw_a E 0 a6 n (ar_f (lf_w C) (j + 1)), lw_a E 2 a7 n (ar_f (lf_b C) (j + 1)), lw_a E 2 a8 n (ar_f (lf_d C) (j + 1)), lw_a E 0 a9 n (ar_f (lf_s C) (j + 1))])) C G M C2 G2 M2) gL_law_X2_haze rfl kd_X2_haze ⟨Nat.le_of_ble_eq_true rfl, Nat.le_of_ble_eq_true rfl⟩ 0 rfl rfl (Nat.le_of_ble_eq_true rfl) ⟨rfl, rfl⟩ ⟨(by show _ ≤ 600130; omega), (by show _ ≤ 7301079; omega)⟩ rfl (fun _ _ => ?_)
        refine jk_imul K dL_law_473 ?_
        refine jk_isub K dL_law_474 ?_
        refine jk_icmp_gt_F (tgt := 539) K dL_law_475 rfl (Int32.not_lt.mpr (clr_pos c_444).2) ?_
        refine jk_iload K dL_law_478 0 rfl ?_
        refine jk_aload_n K dL_law_480 rfl 13 rfl ?_
        refine jk_iload K dL_law_481 2 rfl ?_
        refine jk_iload K dL_law_483 3 rfl ?_
        refine jk_cVi K (n' := (((((((((cn + 171 * j + 11 + 16 * i) + 2) + 2) + 2) + 2) + 2) + 2) + 2) + 2)) (k' := (((((((((ck + 1026 * j + 66 + 96 * i) + 12) + 12) + 12) + 12) + 12) + 12) + 12) + 12)) [.int (nI i), .int (nI j)] [.int (hb_steps G M n j i)] dL_law_485 (lc_fewestSteps _ hl E q b1 b2 (sm_SW E p n (sm_G G) (sm_N C) (sm_M M) ++ (Y ++ [lw_a E 0 a6 n (ar_f (lf_w C) (j + 1)), lw_a E 2 a7 n (ar_f (lf_b C) (j + 1)), lw_a E 2 a8 n (ar_f (lf_d C) (j + 1)), lw_a E 0 a9 n (ar_f (lf_s C) (j + 1))])) C G M C2 G2 M2 n hn hg i j hli hlt) gL_law_X2_fewestSteps rfl kd_X2_fewestSteps ⟨Nat.le_of_ble_eq_true rfl, Nat.le_of_ble_eq_true rfl⟩ 0 rfl rfl (Nat.le_of_ble_eq_true rfl) ⟨rfl, rfl⟩ ⟨(by show _ ≤ 600130; omega), (by show _ ≤ 7301079; omega)⟩ rfl (fun _ _ => ?_)
        refine jk_icmp_ne_F (tgt := 539) K dL_law_488 rfl (st_sym hiv hlt hli) ?_
        refine jk_iload K dL_law_491 0 rfl ?_
        refine jk_iconst (x := 1) K dL_law_493 rfl ?_
        refine jk_icmp_ne_F (tgt := 501) K dL_law_494 rfl ((st_1 hiv hlt hli).mpr c_444) ?_
        refine jk_iconst (x := 1) K dL_law_497 rfl ?_
        refine jk_goto (tgt := 502) K dL_law_498 rfl ?_
        refine jk_iload K dL_law_502 1 rfl ?_
        refine jk_icmp_ne_F (tgt := 539) K dL_law_504 rfl (clr_1 c_444).symm ?_
        refine jk_iload K dL_law_507 0 rfl ?_
        refine jk_if_ne (tgt := 516) K dL_law_509 rfl (fun c_509 => ?_) (fun c_509 => ?_)
        · refine jk_iconst (x := 0) K dL_law_516 rfl ?_
          refine jk_iload K dL_law_517 3 rfl ?_
          refine jk_iload K dL_law_519 2 rfl ?_
          refine jk_icmp_ne_T (tgt := 528) K dL_law_521 rfl (fun z => c_509 ((st_0 hn hlt hli).mpr (lw_inj hn hlt hli z))) ?_
          refine jk_iconst (x := 0) K dL_law_528 rfl ?_
          refine jk_icmp_ne (tgt := 539) K dL_law_529 rfl (fun c_529 => ?_) (fun c_529 => ?_)
          · exact absurd (by decide) c_529
          · refine jk_iload K dL_law_532 0 rfl ?_
            refine jk_iload K dL_law_534 10 rfl ?_
            refine jk_icmp_lt_T (tgt := 541) K dL_law_536 rfl (st_lt hiv hlt hli) ?_
            refine jk_iinc (v := (nI (i + 1))) (lv' := [(14, .int (nI (i + 1))), (16, .int (hb_steps G M n j i)), (15, .int (hb_clr (G 1) (M (j * 10 + i)))), (12, .int (nI j)), (11, .int (hb_wood C (j + 1))), (10, .int (sm_bu (sm_N C) (j + 1))), (9, .ref a9), (8, .ref a8), (7, .ref a7), (6, .ref a6), (5, .int (nI n)), (3, .int (nI t)), (2, .ref (p 0)), (1, .ref q), (0, .ref E.1.2.1)]) K dL_law_541 2 rfl (nI_1 i) (by decide) rfl ?_
            refine jk_goto (tgt := 383) K dL_law_544 rfl ?_
            refine jk_wide (n' := (cn + 171 * j + 11 + 16 * (i + 1))) (k' := (ck + 1026 * j + 66 + 96 * (i + 1))) (by omega) (by omega) ?_
            refine jk_sub (lv' := [(14, .int (nI (i + 1))), (12, .int (nI j)), (11, .int (hb_wood C (j + 1))), (10, .int (sm_bu (sm_N C) (j + 1))), (9, .ref a9), (8, .ref a8), (7, .ref a7), (6, .ref a6), (5, .int (nI n)), (3, .int (nI t)), (2, .ref (p 0)), (1, .ref q), (0, .ref E.1.2.1)]) [0, 3, 4, 5, 6, 7, 8, 9, 10, 11, 12, 13, 14] rfl ?_
            exact ih hli
        · refine jk_iconst (x := 1) K dL_law_512 rfl ?_
          refine jk_goto (tgt := 517) K dL_law_513 rfl ?_
          refine jk_iload K dL_law_517 3 rfl ?_
          refine jk_iload K dL_law_519 2 rfl ?_
          refine jk_icmp_ne_F (tgt := 528) K dL_law_521 rfl (by rw [(st_0 hn hlt hli).mp c_509]) ?_
          refine jk_iconst (x := 1) K dL_law_524 rfl ?_
          refine jk_goto (tgt := 529) K dL_law_525 rfl ?_
          refine jk_icmp_ne (tgt := 539) K dL_law_529 rfl (fun c_529 => ?_) (fun c_529 => ?_)
          · exact absurd (by decide) c_529
          · refine jk_iload K dL_law_532 0 rfl ?_
            refine jk_iload K dL_law_534 10 rfl ?_
            refine jk_icmp_lt_T (tgt := 541) K dL_law_536 rfl (st_lt hiv hlt hli) ?_
            refine jk_iinc (v := (nI (i + 1))) (lv' := [(14, .int (nI (i + 1))), (16, .int (hb_steps G M n j i)), (15, .int (hb_clr (G 1) (M (j * 10 + i)))), (12, .int (nI j)), (11, .int (hb_wood C (j + 1))), (10, .int (sm_bu (sm_N C) (j + 1))), (9, .ref a9), (8, .ref a8), (7, .ref a7), (6, .ref a6), (5, .int (nI n)), (3, .int (nI t)), (2, .ref (p 0)), (1, .ref q), (0, .ref E.1.2.1)]) K dL_law_541 2 rfl (nI_1 i) (by decide) rfl ?_
            refine jk_goto (tgt := 383) K dL_law_544 rfl ?_
            refine jk_wide (n' := (cn + 171 * j + 11 + 16 * (i + 1))) (k' := (ck + 1026 * j + 66 + 96 * (i + 1))) (by omega) (by omega) ?_
            refine jk_sub (lv' := [(14, .int (nI (i + 1))), (12, .int (nI j)), (11, .int (hb_wood C (j + 1))), (10, .int (sm_bu (sm_N C) (j + 1))), (9, .ref a9), (8, .ref a8), (7, .ref a7), (6, .ref a6), (5, .int (nI n)), (3, .int (nI t)), (2, .ref (p 0)), (1, .ref q), (0, .ref E.1.2.1)]) [0, 3, 4, 5, 6, 7, 8, 9, 10, 11, 12, 13, 14] rfl ?_
            exact ih hli
  refine jk_ws (ws' := (hb_v1 E q b1 b2 (sm_SW E p n (sm_G G) (sm_N C) (sm_M M) ++ (Y ++ [lw_a E 0 a6 n (ar_f (lf_w C) (j + 1)), lw_a E 2 a7 n (ar_f (lf_b C) (j + 1)), lw_a E 2 a8 n (ar_f (lf_d C) (j + 1)), lw_a E 0 a9 n (ar_f (lf_s C) (j + 1))])) C G M C2 G2 M2)) lw_sw.symm ?_
  exact hI 0 (Nat.zero_le _)
