
set_option maxHeartbeats 60000000 in
set_option maxRecDepth 100000 in
theorem lw_C {Γ : jk_G} {E : jk_T} (K : jk_C Γ E RL cL_law 22 wsL_law ({ frames := 14, cells := 600130, slots := 7301079, locals := 540 } : Room)) (q : Nat) (b1 b2 : Nat → Nat) (Y : va_W) (p : Nat → Nat) (n B : Nat) (C : Nat → Nat → Int32) (G M : Nat → Int32) (C2 : Nat → Nat → Int32) (G2 M2 : Nat → Int32) (hiv : iv n B C G M) (h2 : 2 ≤ n) (hB : B ≤ 1000000) (t : Nat) (a6 a7 a8 a9 : Nat) (cn ck : Nat) (hcn : cn + 500 ≤ 600130) (hck : ck + 3000 ≤ 7301079) (kk : jk_J Γ E (lw_W E q b1 b2 Y C2 G2 M2 (p, n, (hb_poC C G M n), (hb_poG C G M n), M)) (cn + 500) (ck + 3000) 22 [(3, .int (nI (t + 1))), (2, .ref (p 0)), (1, .ref q), (0, .ref E.1.2.1)] []) : jk_J Γ E (sm_S E (hb_cw E q b1 b2 (hb_poC C G M n) (hb_poG C G M n) M C2 G2 M2) (Y ++ [lw_a E 0 a6 n (ar_f (lf_w C) n), lw_a E 2 a7 n (ar_f (lf_b C) n), lw_a E 2 a8 n (ar_f (lf_d C) n), lw_a E 0 a9 n (ar_f (lf_s C) n)]) p n (sm_G (hb_poG C G M n)) (sm_N (hb_poC C G M n)) (sm_M M)) cn ck 622 [(17, .int (nI 0)), (16, .int (mn_ce C G M n 0)), (15, .int (mn_cl C G M n 0)), (14, .int (mn_cl C G M n n)), (13, .int (G 5)), (12, .int (G 4)), (9, .ref a9), (8, .ref a8), (7, .ref a7), (6, .ref a6), (5, .int (nI n)), (3, .int (nI t)), (2, .ref (p 0)), (1, .ref q), (0, .ref E.1.2.1)] [] := by
  have hl := K.2.2.2.2.2.2.2.2.2.2
  have hn := hiv.1
  have hiv' := mn_iv hiv
  have hg' : (hb_poG C G M n) 0 = nI n := hiv'.2.2.2.1.1
  have hG1 : (hb_poG C G M n) 1 = G 1 := hb_poG_0 1 (by decide) (by decide) (by decide) (by decide)
  have hL : ∀ j, j ≤ n → jk_J Γ E (sm_S E (hb_cw E q b1 b2 (hb_poC C G M n) (hb_poG C G M n) M C2 G2 M2) (Y ++ [lw_a E 0 a6 n (ar_f (lf_w C) n), lw_a E 2 a7 n (ar_f (lf_b C) n), lw_a E 2 a8 n (ar_f (lf_d C) n), lw_a E 0 a9 n (ar_f (lf_s C) n)]) p n (sm_G (hb_poG C G M n)) (sm_N (hb_poC C G M n)) (sm_M M)) (cn + 50 * j) (ck + 300 * j) 622 [(17, .int (nI j)), (16, .int (mn_ce C G M n j)), (15, .int (mn_cl C G M n j)), (14, .int (mn_cl C G M n n)), (13, .int (G 5)), (12, .int (G 4)), (9, .ref a9), (8, .ref a8), (7, .ref a7), (6, .ref a6), (5, .int (nI n)), (3, .int (nI t)), (2, .ref (p 0)), (1, .ref q), (0, .ref E.1.2.1)] [] := by
    refine jk_loop (fun j hj ih => ?_)
    refine jk_iload K dL_law_622 0 rfl ?_
    refine jk_iload K dL_law_624 10 rfl ?_
    refine jk_icmp_ge (tgt := 908) K dL_law_626 rfl (fun c_626 => ?_) (fun c_626 => ?_)
    · have hjn : j = n := hb_ex (n := n) rfl (by omega) hj c_626
      refine jk_lv (lv' := [(17, .int (nI j)), (16, .int (mn_ce C G M n n)), (15, .int (mn_cl C G M n n)), (14, .int (mn_cl C G M n n)), (13, .int (G 5)), (12, .int (G 4)), (9, .ref a9), (8, .ref a8), (7, .ref a7), (6, .ref a6), (5, .int (nI n)), (3, .int (nI t)), (2, .ref (p 0)), (1, .ref q), (0, .ref E.1.2.1)]) (by rw [hjn]) ?_
      refine jk_iload K dL_law_908 2 rfl ?_
      refine jk_iload K dL_law_910 3 rfl ?_
      refine jk_icmp_ne_F (tgt := 939) K dL_law_912 rfl rfl ?_
      refine jk_aload_n K dL_law_915 rfl 13 rfl ?_
      refine jk_ws (ws' := (hb_v1 E q b1 b2 (sm_SW E p n (sm_G (hb_poG C G M n)) (sm_N (hb_poC C G M n)) (sm_M M) ++ (Y ++ [lw_a E 0 a6 n (ar_f (lf_w C) n), lw_a E 2 a7 n (ar_f (lf_b C) n), lw_a E 2 a8 n (ar_f (lf_d C) n), lw_a E 0 a9 n (ar_f (lf_s C) n)])) (hb_poC C G M n) (hb_poG C G M n) M C2 G2 M2)) lw_sw.symm ?_
      refine jk_cVi K (n' := (cn + 50 * j)) (k' := (ck + 300 * j)) [] [] dL_law_916 (hb_X2_timesLit _ hl E q b1 b2 (sm_SW E p n (sm_G (hb_poG C G M n)) (sm_N (hb_poC C G M n)) (sm_M M) ++ (Y ++ [lw_a E 0 a6 n (ar_f (lf_w C) n), lw_a E 2 a7 n (ar_f (lf_b C) n), lw_a E 2 a8 n (ar_f (lf_d C) n), lw_a E 0 a9 n (ar_f (lf_s C) n)])) (hb_poC C G M n) (hb_poG C G M n) M C2 G2 M2) gL_law_X2_timesLit rfl kd_X2_timesLit ⟨Nat.le_of_ble_eq_true rfl, Nat.le_of_ble_eq_true rfl⟩ 0 rfl rfl (Nat.le_of_ble_eq_true rfl) ⟨rfl, rfl⟩ ⟨(by show _ ≤ 600130; omega), (by show _ ≤ 7301079; omega)⟩ rfl (fun _ _ => ?_)
      refine jk_iload K dL_law_919 5 rfl ?_
      refine jk_iload K dL_law_921 3 rfl ?_
      refine jk_iadd K dL_law_923 ?_
      refine jk_icmp_ne_F (tgt := 939) K dL_law_924 rfl (mn_G_4 hiv) ?_
      refine jk_aload_n K dL_law_927 rfl 13 rfl ?_
      refine jk_cVi K (n' := (cn + 50 * j)) (k' := (ck + 300 * j)) [] [] dL_law_928 (hb_X2_timesMistaken _ hl E q b1 b2 (sm_SW E p n (sm_G (hb_poG C G M n)) (sm_N (hb_poC C G M n)) (sm_M M) ++ (Y ++ [lw_a E 0 a6 n (ar_f (lf_w C) n), lw_a E 2 a7 n (ar_f (lf_b C) n), lw_a E 2 a8 n (ar_f (lf_d C) n), lw_a E 0 a9 n (ar_f (lf_s C) n)])) (hb_poC C G M n) (hb_poG C G M n) M C2 G2 M2) gL_law_X2_timesMistaken rfl kd_X2_timesMistaken ⟨Nat.le_of_ble_eq_true rfl, Nat.le_of_ble_eq_true rfl⟩ 0 rfl rfl (Nat.le_of_ble_eq_true rfl) ⟨rfl, rfl⟩ ⟨(by show _ ≤ 600130; omega), (by show _ ≤ 7301079; omega)⟩ rfl (fun _ _ => ?_)
      refine jk_iload K dL_law_931 4 rfl ?_
      refine jk_iload K dL_law_933 1 rfl ?_
      refine jk_iadd K dL_law_935 ?_
      refine jk_icmp_eq_T (tgt := 941) K dL_law_936 rfl (mn_G_5 hiv) ?_
      refine jk_iinc (v := (nI (t + 1))) (lv' := [(3, .int (nI (t + 1))), (17, .int (nI j)), (16, .int (mn_ce C G M n n)), (15, .int (mn_cl C G M n n)), (14, .int (mn_cl C G M n n)), (13, .int (G 5)), (12, .int (G 4)), (9, .ref a9), (8, .ref a8), (7, .ref a7), (6, .ref a6), (5, .int (nI n)), (2, .ref (p 0)), (1, .ref q), (0, .ref E.1.2.1)]) K dL_law_941 11 rfl (nI_1 t) (by decide) rfl ?_
      refine jk_goto (tgt := 22) K dL_law_944 rfl ?_
      refine jk_take (w1 := lw_W E q b1 b2 Y C2 G2 M2 (p, n, (hb_poC C G M n), (hb_poG C G M n), M)) (w2 := [lw_a E 0 a6 n (ar_f (lf_w C) n), lw_a E 2 a7 n (ar_f (lf_b C) n), lw_a E 2 a8 n (ar_f (lf_d C) n), lw_a E 0 a9 n (ar_f (lf_s C) n)]) lw_drop ?_
      refine jk_wide (n' := cn + 500) (k' := ck + 3000) (by omega) (by omega) ?_
      refine jk_sub (lv' := [(3, .int (nI (t + 1))), (2, .ref (p 0)), (1, .ref q), (0, .ref E.1.2.1)]) [0, 12, 13, 14] rfl ?_
      exact kk
    · have hlt : j < n := hb_in (n := n) rfl (by omega) hj c_626
      rcases mn_cases hiv hlt with ⟨z5, ht, y5, w0⟩ | ⟨z5, ht, y5, ⟨k0, hk0, w0, w1⟩, w9⟩ | ⟨z5, ht, y5, w0, w9⟩ | ⟨z5, ht, y5, ⟨k0, hk0, w0, w1⟩, w9⟩ | ⟨z5, ht, y5, w0, w1⟩
      · refine jk_aload K dL_law_629 7 rfl ?_
        refine jk_iload K dL_law_631 0 rfl ?_
        refine jk_zald (v := 1) K dL_law_633 ((hb_cw E q b1 b2 (hb_poC C G M n) (hb_poG C G M n) M C2 G2 M2).length + (13 + n + (Y.length + 2))) (sm_yat rfl) (vp_in_nI hlt (by omega)) (by rw [nI_clamp (by omega), ar_v _ hlt, (show lf_d C j = 1 from if_pos z5)]) ?_
        refine jk_if_eq (tgt := 650) K dL_law_634 rfl (fun c_634 => ?_) (fun c_634 => ?_)
        · exact absurd c_634 (by decide)
        · refine jk_aload_n K dL_law_637 rfl 13 rfl ?_
          refine jk_iload K dL_law_638 0 rfl ?_
          refine jk_ws (ws' := (hb_v1 E q b1 b2 (sm_SW E p n (sm_G (hb_poG C G M n)) (sm_N (hb_poC C G M n)) (sm_M M) ++ (Y ++ [lw_a E 0 a6 n (ar_f (lf_w C) n), lw_a E 2 a7 n (ar_f (lf_b C) n), lw_a E 2 a8 n (ar_f (lf_d C) n), lw_a E 0 a9 n (ar_f (lf_s C) n)])) (hb_poC C G M n) (hb_poG C G M n) M C2 G2 M2)) lw_sw.symm ?_
          refine jk_cVi K (n' := ((cn + 50 * j) + 1)) (k' := ((ck + 300 * j) + 6)) [.int (nI j)] [] dL_law_640 (lc_isDark _ hl E q b1 b2 (sm_SW E p n (sm_G (hb_poG C G M n)) (sm_N (hb_poC C G M n)) (sm_M M) ++ (Y ++ [lw_a E 0 a6 n (ar_f (lf_w C) n), lw_a E 2 a7 n (ar_f (lf_b C) n), lw_a E 2 a8 n (ar_f (lf_d C) n), lw_a E 0 a9 n (ar_f (lf_s C) n)])) (hb_poC C G M n) (hb_poG C G M n) M C2 G2 M2 n hn hg' j hlt) gL_law_X2_isDark rfl kd_X2_isDark ⟨Nat.le_of_ble_eq_true rfl, Nat.le_of_ble_eq_true rfl⟩ 0 rfl rfl (Nat.le_of_ble_eq_true rfl) ⟨rfl, rfl⟩ ⟨(by show _ ≤ 600130; omega), (by show _ ≤ 7301079; omega)⟩ rfl (fun _ _ => ?_)
          refine jk_st (st' := [.int 1]) (by rw [if_pos y5]) ?_
          refine jk_if_ne (tgt := 650) K dL_law_643 rfl (fun c_643 => ?_) (fun c_643 => ?_)
          · refine jk_iconst (x := 0) K dL_law_650 rfl ?_
            refine jk_istore (lv' := [(18, .int 0), (17, .int (nI j)), (16, .int (mn_ce C G M n j)), (15, .int (mn_cl C G M n j)), (14, .int (mn_cl C G M n n)), (13, .int (G 5)), (12, .int (G 4)), (9, .ref a9), (8, .ref a8), (7, .ref a7), (6, .ref a6), (5, .int (nI n)), (3, .int (nI t)), (2, .ref (p 0)), (1, .ref q), (0, .ref E.1.2.1)]) K dL_law_651 (by decide) rfl ?_
            refine jk_iload K dL_law_653 3 rfl ?_
            refine jk_iload K dL_law_655 0 rfl ?_
            refine jk_if_eq (tgt := 664) K dL_law_657 rfl (fun c_657 => ?_) (fun c_657 => ?_)
            · refine jk_iconst (x := 0) K dL_law_664 rfl ?_
              refine jk_iadd K dL_law_665 ?_
              refine jk_istore (lv' := [(15, .int ((mn_cl C G M n j) + 0)), (18, .int 0), (17, .int (nI j)), (16, .int (mn_ce C G M n j)), (14, .int (mn_cl C G M n n)), (13, .int (G 5)), (12, .int (G 4)), (9, .ref a9), (8, .ref a8), (7, .ref a7), (6, .ref a6), (5, .int (nI n)), (3, .int (nI t)), (2, .ref (p 0)), (1, .ref q), (0, .ref E.1.2.1)]) K dL_law_666 (by decide) rfl ?_
              refine jk_iload K dL_law_668 3 rfl ?_
              refine jk_iload K dL_law_670 1 rfl ?_
              refine jk_if_eq (tgt := 688) K dL_law_672 rfl (fun c_672 => ?_) (fun c_672 => ?_)
              · refine jk_iconst (x := 0) K dL_law_688 rfl ?_
                refine jk_iadd K dL_law_689 ?_
                refine jk_istore (lv' := [(16, .int ((mn_ce C G M n j) + 0)), (15, .int ((mn_cl C G M n j) + 0)), (18, .int 0), (17, .int (nI j)), (14, .int (mn_cl C G M n n)), (13, .int (G 5)), (12, .int (G 4)), (9, .ref a9), (8, .ref a8), (7, .ref a7), (6, .ref a6), (5, .int (nI n)), (3, .int (nI t)), (2, .ref (p 0)), (1, .ref q), (0, .ref E.1.2.1)]) K dL_law_690 (by decide) rfl ?_
                refine jk_aload K dL_law_692 10 rfl ?_
                refine jk_iload K dL_law_694 3 rfl ?_
                refine jk_ws (ws' := (sm_S E (hb_cw E q b1 b2 (hb_poC C G M n) (hb_poG C G M n) M C2 G2 M2) (Y ++ [lw_a E 0 a6 n (ar_f (lf_w C) n), lw_a E 2 a7 n (ar_f (lf_b C) n), lw_a E 2 a8 n (ar_f (lf_d C) n), lw_a E 0 a9 n (ar_f (lf_s C) n)]) p n (sm_G (hb_poG C G M n)) (sm_N (hb_poC C G M n)) (sm_M M))) lw_sw ?_
                refine jk_iald (v := (C j 0)) K dL_law_696 ((hb_cw E q b1 b2 (hb_poC C G M n) (hb_poG C G M n) M C2 G2 M2).length + (13 + n + (Y.length + 0))) (sm_yat rfl) (vp_in_nI hlt (by omega)) (by rw [nI_clamp (by omega), ar_v _ hlt, (show lf_w C j = C j 0 from rfl)]) ?_
                refine jk_aload_n K dL_law_697 rfl 14 rfl ?_
                refine jk_iload K dL_law_698 3 rfl ?_
                refine jk_ws (ws' := (hb_v1 E q b1 b2 (sm_SW E p n (sm_G (hb_poG C G M n)) (sm_N (hb_poC C G M n)) (sm_M M) ++ (Y ++ [lw_a E 0 a6 n (ar_f (lf_w C) n), lw_a E 2 a7 n (ar_f (lf_b C) n), lw_a E 2 a8 n (ar_f (lf_d C) n), lw_a E 0 a9 n (ar_f (lf_s C) n)])) (hb_poC C G M n) (hb_poG C G M n) M C2 G2 M2)) lw_sw.symm ?_
                refine jk_cVi K (n' := (((cn + 50 * j) + 1) + 1)) (k' := (((ck + 300 * j) + 6) + 6)) [.int (nI j)] [.int (C j 0)] dL_law_700 (lc_woodOf _ hl E q b1 b2 (sm_SW E p n (sm_G (hb_poG C G M n)) (sm_N (hb_poC C G M n)) (sm_M M) ++ (Y ++ [lw_a E 0 a6 n (ar_f (lf_w C) n), lw_a E 2 a7 n (ar_f (lf_b C) n), lw_a E 2 a8 n (ar_f (lf_d C) n), lw_a E 0 a9 n (ar_f (lf_s C) n)])) (hb_poC C G M n) (hb_poG C G M n) M C2 G2 M2 n hn hg' j hlt) gL_law_X2_woodOf rfl kd_X2_woodOf ⟨Nat.le_of_ble_eq_true rfl, Nat.le_of_ble_eq_true rfl⟩ 0 rfl rfl (Nat.le_of_ble_eq_true rfl) ⟨rfl, rfl⟩ ⟨(by show _ ≤ 600130; omega), (by show _ ≤ 7301079; omega)⟩ rfl (fun _ _ => ?_)
                refine jk_isub K dL_law_703 ?_
                refine jk_st (st' := [.int 0]) (by rw [w0, Int32.sub_self]) ?_
                refine jk_istore (lv' := [(19, .int 0), (16, .int ((mn_ce C G M n j) + 0)), (15, .int ((mn_cl C G M n j) + 0)), (18, .int 0), (17, .int (nI j)), (14, .int (mn_cl C G M n n)), (13, .int (G 5)), (12, .int (G 4)), (9, .ref a9), (8, .ref a8), (7, .ref a7), (6, .ref a6), (5, .int (nI n)), (3, .int (nI t)), (2, .ref (p 0)), (1, .ref q), (0, .ref E.1.2.1)]) K dL_law_704 (by decide) rfl ?_
                refine jk_iload K dL_law_706 0 rfl ?_
                refine jk_iload K dL_law_708 3 rfl ?_
                refine jk_if_ne (tgt := 729) K dL_law_710 rfl (fun c_710 => ?_) (fun c_710 => ?_)
                · exact absurd (by decide) c_710
                · refine jk_aload K dL_law_713 10 rfl ?_
                  refine jk_iload K dL_law_715 4 rfl ?_
                  refine jk_ws (ws' := (sm_S E (hb_cw E q b1 b2 (hb_poC C G M n) (hb_poG C G M n) M C2 G2 M2) (Y ++ [lw_a E 0 a6 n (ar_f (lf_w C) n), lw_a E 2 a7 n (ar_f (lf_b C) n), lw_a E 2 a8 n (ar_f (lf_d C) n), lw_a E 0 a9 n (ar_f (lf_s C) n)]) p n (sm_G (hb_poG C G M n)) (sm_N (hb_poC C G M n)) (sm_M M))) lw_sw ?_
                  refine jk_zald (v := 0) K dL_law_717 ((hb_cw E q b1 b2 (hb_poC C G M n) (hb_poG C G M n) M C2 G2 M2).length + (13 + n + (Y.length + 1))) (sm_yat rfl) (vp_in_nI hlt (by omega)) (by rw [nI_clamp (by omega), ar_v _ hlt, (show lf_b C j = 0 from if_neg (by rw [z5]; decide))]) ?_
                  refine jk_if_eq (tgt := 733) K dL_law_718 rfl (fun c_718 => ?_) (fun c_718 => ?_)
                  · refine jk_iconst (x := 0) K dL_law_733 rfl ?_
                    refine jk_icmp_ne (tgt := 812) K dL_law_734 rfl (fun c_734 => ?_) (fun c_734 => ?_)
                    · exact absurd (by decide) c_734
                    · refine jk_aload K dL_law_737 10 rfl ?_
                      refine jk_iload K dL_law_739 4 rfl ?_
                      refine jk_zald (v := 0) K dL_law_741 ((hb_cw E q b1 b2 (hb_poC C G M n) (hb_poG C G M n) M C2 G2 M2).length + (13 + n + (Y.length + 1))) (sm_yat rfl) (vp_in_nI hlt (by omega)) (by rw [nI_clamp (by omega), ar_v _ hlt, (show lf_b C j = 0 from if_neg (by rw [z5]; decide))]) ?_
                      refine jk_if_eq (tgt := 767) K dL_law_742 rfl (fun c_742 => ?_) (fun c_742 => ?_)
                      · refine jk_aload K dL_law_767 9 rfl ?_
                        refine jk_iload K dL_law_769 4 rfl ?_
                        refine jk_zald (v := 1) K dL_law_771 ((hb_cw E q b1 b2 (hb_poC C G M n) (hb_poG C G M n) M C2 G2 M2).length + (13 + n + (Y.length + 2))) (sm_yat rfl) (vp_in_nI hlt (by omega)) (by rw [nI_clamp (by omega), ar_v _ hlt, (show lf_d C j = 1 from if_pos z5)]) ?_
                        refine jk_if_ne (tgt := 798) K dL_law_772 rfl (fun c_772 => ?_) (fun c_772 => ?_)
                        · refine jk_iload K dL_law_798 3 rfl ?_
                          refine jk_if_eq (tgt := 814) K dL_law_800 rfl (fun c_800 => ?_) (fun c_800 => ?_)
                          · refine jk_iload K dL_law_814 3 rfl ?_
                            refine jk_if_eq (tgt := 902) K dL_law_816 rfl (fun c_816 => ?_) (fun c_816 => ?_)
                            · refine jk_iinc (v := (nI (j + 1))) (lv' := [(17, .int (nI (j + 1))), (19, .int 0), (16, .int ((mn_ce C G M n j) + 0)), (15, .int ((mn_cl C G M n j) + 0)), (18, .int 0), (14, .int (mn_cl C G M n n)), (13, .int (G 5)), (12, .int (G 4)), (9, .ref a9), (8, .ref a8), (7, .ref a7), (6, .ref a6), (5, .int (nI n)), (3, .int (nI t)), (2, .ref (p 0)), (1, .ref q), (0, .ref E.1.2.1)]) K dL_law_902 4 rfl (nI_1 j) (by decide) rfl ?_
                              refine jk_goto (tgt := 622) K dL_law_905 rfl ?_
                              refine jk_wide (n' := (cn + 50 * (j + 1))) (k' := (ck + 300 * (j + 1))) (by omega) (by omega) ?_
                              refine jk_sub (lv' := [(17, .int (nI (j + 1))), (16, .int ((mn_ce C G M n j) + 0)), (15, .int ((mn_cl C G M n j) + 0)), (14, .int (mn_cl C G M n n)), (13, .int (G 5)), (12, .int (G 4)), (9, .ref a9), (8, .ref a8), (7, .ref a7), (6, .ref a6), (5, .int (nI n)), (3, .int (nI t)), (2, .ref (p 0)), (1, .ref q), (0, .ref E.1.2.1)]) [0, 2, 3, 5, 6, 7, 8, 9, 10, 11, 12, 13, 14, 15, 16] rfl ?_
                              refine jk_lv (lv' := [(17, .int (nI (j + 1))), (16, .int (mn_ce C G M n (j + 1))), (15, .int (mn_cl C G M n (j + 1))), (14, .int (mn_cl C G M n n)), (13, .int (G 5)), (12, .int (G 4)), (9, .ref a9), (8, .ref a8), (7, .ref a7), (6, .ref a6), (5, .int (nI n)), (3, .int (nI t)), (2, .ref (p 0)), (1, .ref q), (0, .ref E.1.2.1)]) (by rw [mn_ce_s, mn_cl_s, ht, (show mn_e C G M n j = 0 by unfold mn_e; rw [if_pos ht])]) ?_
                              exact ih hlt
                            · exact absurd (by decide) c_816
                          · exact absurd (by decide) c_800
                        · exact absurd c_772 (by decide)
                      · exact absurd (by decide) c_742
                  · exact absurd (by decide) c_718
              · exact absurd (by decide) c_672
            · exact absurd (by decide) c_657
          · exact absurd c_643 (by decide)
      · rcases mn_sr_iv hiv hlt with hsr | ⟨s, hs, hsr⟩
        · rw [hsr] at w9
          refine jk_aload K dL_law_629 7 rfl ?_
          refine jk_iload K dL_law_631 0 rfl ?_
          refine jk_zald (v := 1) K dL_law_633 ((hb_cw E q b1 b2 (hb_poC C G M n) (hb_poG C G M n) M C2 G2 M2).length + (13 + n + (Y.length + 2))) (sm_yat rfl) (vp_in_nI hlt (by omega)) (by rw [nI_clamp (by omega), ar_v _ hlt, (show lf_d C j = 1 from if_pos z5)]) ?_
          refine jk_if_eq (tgt := 650) K dL_law_634 rfl (fun c_634 => ?_) (fun c_634 => ?_)
          · exact absurd c_634 (by decide)
          · refine jk_aload_n K dL_law_637 rfl 13 rfl ?_
            refine jk_iload K dL_law_638 0 rfl ?_
            refine jk_ws (ws' := (hb_v1 E q b1 b2 (sm_SW E p n (sm_G (hb_poG C G M n)) (sm_N (hb_poC C G M n)) (sm_M M) ++ (Y ++ [lw_a E 0 a6 n (ar_f (lf_w C) n), lw_a E 2 a7 n (ar_f (lf_b C) n), lw_a E 2 a8 n (ar_f (lf_d C) n), lw_a E 0 a9 n (ar_f (lf_s C) n)])) (hb_poC C G M n) (hb_poG C G M n) M C2 G2 M2)) lw_sw.symm ?_
            refine jk_cVi K (n' := ((cn + 50 * j) + 1)) (k' := ((ck + 300 * j) + 6)) [.int (nI j)] [] dL_law_640 (lc_isDark _ hl E q b1 b2 (sm_SW E p n (sm_G (hb_poG C G M n)) (sm_N (hb_poC C G M n)) (sm_M M) ++ (Y ++ [lw_a E 0 a6 n (ar_f (lf_w C) n), lw_a E 2 a7 n (ar_f (lf_b C) n), lw_a E 2 a8 n (ar_f (lf_d C) n), lw_a E 0 a9 n (ar_f (lf_s C) n)])) (hb_poC C G M n) (hb_poG C G M n) M C2 G2 M2 n hn hg' j hlt) gL_law_X2_isDark rfl kd_X2_isDark ⟨Nat.le_of_ble_eq_true rfl, Nat.le_of_ble_eq_true rfl⟩ 0 rfl rfl (Nat.le_of_ble_eq_true rfl) ⟨rfl, rfl⟩ ⟨(by show _ ≤ 600130; omega), (by show _ ≤ 7301079; omega)⟩ rfl (fun _ _ => ?_)
            refine jk_st (st' := [.int 0]) (by rw [if_neg (by rw [y5]; decide)]) ?_
            refine jk_if_ne (tgt := 650) K dL_law_643 rfl (fun c_643 => ?_) (fun c_643 => ?_)
            · exact absurd (by decide) c_643
            · refine jk_iconst (x := 1) K dL_law_646 rfl ?_
              refine jk_goto (tgt := 651) K dL_law_647 rfl ?_
              refine jk_istore (lv' := [(18, .int 1), (17, .int (nI j)), (16, .int (mn_ce C G M n j)), (15, .int (mn_cl C G M n j)), (14, .int (mn_cl C G M n n)), (13, .int (G 5)), (12, .int (G 4)), (9, .ref a9), (8, .ref a8), (7, .ref a7), (6, .ref a6), (5, .int (nI n)), (3, .int (nI t)), (2, .ref (p 0)), (1, .ref q), (0, .ref E.1.2.1)]) K dL_law_651 (by decide) rfl ?_
              refine jk_iload K dL_law_653 3 rfl ?_
              refine jk_iload K dL_law_655 0 rfl ?_
              refine jk_if_eq (tgt := 664) K dL_law_657 rfl (fun c_657 => ?_) (fun c_657 => ?_)
              · exact absurd c_657 (by decide)
              · refine jk_iconst (x := 1) K dL_law_660 rfl ?_
                refine jk_goto (tgt := 665) K dL_law_661 rfl ?_
                refine jk_iadd K dL_law_665 ?_
                refine jk_istore (lv' := [(15, .int ((mn_cl C G M n j) + 1)), (18, .int 1), (17, .int (nI j)), (16, .int (mn_ce C G M n j)), (14, .int (mn_cl C G M n n)), (13, .int (G 5)), (12, .int (G 4)), (9, .ref a9), (8, .ref a8), (7, .ref a7), (6, .ref a6), (5, .int (nI n)), (3, .int (nI t)), (2, .ref (p 0)), (1, .ref q), (0, .ref E.1.2.1)]) K dL_law_666 (by decide) rfl ?_
                refine jk_iload K dL_law_668 3 rfl ?_
                refine jk_iload K dL_law_670 1 rfl ?_
                refine jk_if_eq (tgt := 688) K dL_law_672 rfl (fun c_672 => ?_) (fun c_672 => ?_)
                · exact absurd c_672 (by decide)
                · refine jk_aload_n K dL_law_675 rfl 14 rfl ?_
                  refine jk_iload K dL_law_676 2 rfl ?_
                  refine jk_cVi K (n' := (((cn + 50 * j) + 1) + 1)) (k' := (((ck + 300 * j) + 6) + 6)) [.int (nI j)] [.int (mn_ce C G M n j)] dL_law_678 (lc_isMistaken _ hl E q b1 b2 (sm_SW E p n (sm_G (hb_poG C G M n)) (sm_N (hb_poC C G M n)) (sm_M M) ++ (Y ++ [lw_a E 0 a6 n (ar_f (lf_w C) n), lw_a E 2 a7 n (ar_f (lf_b C) n), lw_a E 2 a8 n (ar_f (lf_d C) n), lw_a E 0 a9 n (ar_f (lf_s C) n)])) (hb_poC C G M n) (hb_poG C G M n) M C2 G2 M2 n hn hg' j hlt) gL_law_X2_isMistaken rfl kd_X2_isMistaken ⟨Nat.le_of_ble_eq_true rfl, Nat.le_of_ble_eq_true rfl⟩ 0 rfl rfl (Nat.le_of_ble_eq_true rfl) ⟨rfl, rfl⟩ ⟨(by show _ ≤ 600130; omega), (by show _ ≤ 7301079; omega)⟩ rfl (fun _ _ => ?_)
                  refine jk_st (st' := [.int 1, .int (mn_ce C G M n j)]) (by rw [if_pos w9]) ?_
                  refine jk_if_eq (tgt := 688) K dL_law_681 rfl (fun c_681 => ?_) (fun c_681 => ?_)
                  · exact absurd c_681 (by decide)
                  · refine jk_iconst (x := 1) K dL_law_684 rfl ?_
                    refine jk_goto (tgt := 689) K dL_law_685 rfl ?_
                    refine jk_iadd K dL_law_689 ?_
                    refine jk_istore (lv' := [(16, .int ((mn_ce C G M n j) + 1)), (15, .int ((mn_cl C G M n j) + 1)), (18, .int 1), (17, .int (nI j)), (14, .int (mn_cl C G M n n)), (13, .int (G 5)), (12, .int (G 4)), (9, .ref a9), (8, .ref a8), (7, .ref a7), (6, .ref a6), (5, .int (nI n)), (3, .int (nI t)), (2, .ref (p 0)), (1, .ref q), (0, .ref E.1.2.1)]) K dL_law_690 (by decide) rfl ?_
                    refine jk_aload K dL_law_692 10 rfl ?_
                    refine jk_iload K dL_law_694 3 rfl ?_
                    refine jk_ws (ws' := (sm_S E (hb_cw E q b1 b2 (hb_poC C G M n) (hb_poG C G M n) M C2 G2 M2) (Y ++ [lw_a E 0 a6 n (ar_f (lf_w C) n), lw_a E 2 a7 n (ar_f (lf_b C) n), lw_a E 2 a8 n (ar_f (lf_d C) n), lw_a E 0 a9 n (ar_f (lf_s C) n)]) p n (sm_G (hb_poG C G M n)) (sm_N (hb_poC C G M n)) (sm_M M))) lw_sw ?_
                    refine jk_iald (v := (nI (k0 + 1))) K dL_law_696 ((hb_cw E q b1 b2 (hb_poC C G M n) (hb_poG C G M n) M C2 G2 M2).length + (13 + n + (Y.length + 0))) (sm_yat rfl) (vp_in_nI hlt (by omega)) (by rw [nI_clamp (by omega), ar_v _ hlt, (show lf_w C j = nI (k0 + 1) from w0)]) ?_
                    refine jk_aload_n K dL_law_697 rfl 14 rfl ?_
                    refine jk_iload K dL_law_698 3 rfl ?_
                    refine jk_ws (ws' := (hb_v1 E q b1 b2 (sm_SW E p n (sm_G (hb_poG C G M n)) (sm_N (hb_poC C G M n)) (sm_M M) ++ (Y ++ [lw_a E 0 a6 n (ar_f (lf_w C) n), lw_a E 2 a7 n (ar_f (lf_b C) n), lw_a E 2 a8 n (ar_f (lf_d C) n), lw_a E 0 a9 n (ar_f (lf_s C) n)])) (hb_poC C G M n) (hb_poG C G M n) M C2 G2 M2)) lw_sw.symm ?_
                    refine jk_cVi K (n' := ((((cn + 50 * j) + 1) + 1) + 1)) (k' := ((((ck + 300 * j) + 6) + 6) + 6)) [.int (nI j)] [.int (nI (k0 + 1))] dL_law_700 (lc_woodOf _ hl E q b1 b2 (sm_SW E p n (sm_G (hb_poG C G M n)) (sm_N (hb_poC C G M n)) (sm_M M) ++ (Y ++ [lw_a E 0 a6 n (ar_f (lf_w C) n), lw_a E 2 a7 n (ar_f (lf_b C) n), lw_a E 2 a8 n (ar_f (lf_d C) n), lw_a E 0 a9 n (ar_f (lf_s C) n)])) (hb_poC C G M n) (hb_poG C G M n) M C2 G2 M2 n hn hg' j hlt) gL_law_X2_woodOf rfl kd_X2_woodOf ⟨Nat.le_of_ble_eq_true rfl, Nat.le_of_ble_eq_true rfl⟩ 0 rfl rfl (Nat.le_of_ble_eq_true rfl) ⟨rfl, rfl⟩ ⟨(by show _ ≤ 600130; omega), (by show _ ≤ 7301079; omega)⟩ rfl (fun _ _ => ?_)
                    refine jk_isub K dL_law_703 ?_
                    refine jk_st (st' := [.int 1]) (by rw [w1]; rw [nI_one]) ?_
                    refine jk_istore (lv' := [(19, .int 1), (16, .int ((mn_ce C G M n j) + 1)), (15, .int ((mn_cl C G M n j) + 1)), (18, .int 1), (17, .int (nI j)), (14, .int (mn_cl C G M n n)), (13, .int (G 5)), (12, .int (G 4)), (9, .ref a9), (8, .ref a8), (7, .ref a7), (6, .ref a6), (5, .int (nI n)), (3, .int (nI t)), (2, .ref (p 0)), (1, .ref q), (0, .ref E.1.2.1)]) K dL_law_704 (by decide) rfl ?_
                    refine jk_iload K dL_law_706 0 rfl ?_
                    refine jk_iload K dL_law_708 3 rfl ?_
                    refine jk_if_ne (tgt := 729) K dL_law_710 rfl (fun c_710 => ?_) (fun c_710 => ?_)
                    · refine jk_iconst (x := 1) K dL_law_729 rfl ?_
                      refine jk_goto (tgt := 734) K dL_law_730 rfl ?_
                      refine jk_icmp_ne (tgt := 812) K dL_law_734 rfl (fun c_734 => ?_) (fun c_734 => ?_)
                      · exact absurd (by decide) c_734
                      · refine jk_aload K dL_law_737 10 rfl ?_
                        refine jk_iload K dL_law_739 4 rfl ?_
                        refine jk_ws (ws' := (sm_S E (hb_cw E q b1 b2 (hb_poC C G M n) (hb_poG C G M n) M C2 G2 M2) (Y ++ [lw_a E 0 a6 n (ar_f (lf_w C) n), lw_a E 2 a7 n (ar_f (lf_b C) n), lw_a E 2 a8 n (ar_f (lf_d C) n), lw_a E 0 a9 n (ar_f (lf_s C) n)]) p n (sm_G (hb_poG C G M n)) (sm_N (hb_poC C G M n)) (sm_M M))) lw_sw ?_
                        refine jk_zald (v := 0) K dL_law_741 ((hb_cw E q b1 b2 (hb_poC C G M n) (hb_poG C G M n) M C2 G2 M2).length + (13 + n + (Y.length + 1))) (sm_yat rfl) (vp_in_nI hlt (by omega)) (by rw [nI_clamp (by omega), ar_v _ hlt, (show lf_b C j = 0 from if_neg (by rw [z5]; decide))]) ?_
                        refine jk_if_eq (tgt := 767) K dL_law_742 rfl (fun c_742 => ?_) (fun c_742 => ?_)
                        · refine jk_aload K dL_law_767 9 rfl ?_
                          refine jk_iload K dL_law_769 4 rfl ?_
                          refine jk_zald (v := 1) K dL_law_771 ((hb_cw E q b1 b2 (hb_poC C G M n) (hb_poG C G M n) M C2 G2 M2).length + (13 + n + (Y.length + 2))) (sm_yat rfl) (vp_in_nI hlt (by omega)) (by rw [nI_clamp (by omega), ar_v _ hlt, (show lf_d C j = 1 from if_pos z5)]) ?_
                          refine jk_if_ne (tgt := 798) K dL_law_772 rfl (fun c_772 => ?_) (fun c_772 => ?_)
                          · refine jk_iload K dL_law_798 3 rfl ?_
                            refine jk_if_eq (tgt := 814) K dL_law_800 rfl (fun c_800 => ?_) (fun c_800 => ?_)
                            · exact absurd c_800 (by decide)
                            · refine jk_aload_n K dL_law_803 rfl 15 rfl ?_
                              refine jk_iload K dL_law_804 4 rfl ?_
                              refine jk_ws (ws' := (hb_v1 E q b1 b2 (sm_SW E p n (sm_G (hb_poG C G M n)) (sm_N (hb_poC C G M n)) (sm_M M) ++ (Y ++ [lw_a E 0 a6 n (ar_f (lf_w C) n), lw_a E 2 a7 n (ar_f (lf_b C) n), lw_a E 2 a8 n (ar_f (lf_d C) n), lw_a E 0 a9 n (ar_f (lf_s C) n)])) (hb_poC C G M n) (hb_poG C G M n) M C2 G2 M2)) lw_sw.symm ?_
                              refine jk_cVi K (n' := (((((cn + 50 * j) + 1) + 1) + 1) + 1)) (k' := (((((ck + 300 * j) + 6) + 6) + 6) + 6)) [.int (nI j)] [] dL_law_806 (lc_isBurning _ hl E q b1 b2 (sm_SW E p n (sm_G (hb_poG C G M n)) (sm_N (hb_poC C G M n)) (sm_M M) ++ (Y ++ [lw_a E 0 a6 n (ar_f (lf_w C) n), lw_a E 2 a7 n (ar_f (lf_b C) n), lw_a E 2 a8 n (ar_f (lf_d C) n), lw_a E 0 a9 n (ar_f (lf_s C) n)])) (hb_poC C G M n) (hb_poG C G M n) M C2 G2 M2 n hn hg' j hlt) gL_law_X2_isBurning rfl kd_X2_isBurning ⟨Nat.le_of_ble_eq_true rfl, Nat.le_of_ble_eq_true rfl⟩ 0 rfl rfl (Nat.le_of_ble_eq_true rfl) ⟨rfl, rfl⟩ ⟨(by show _ ≤ 600130; omega), (by show _ ≤ 7301079; omega)⟩ rfl (fun _ _ => ?_)
                              refine jk_st (st' := [.int 0]) (by rw [if_neg (by rw [y5]; decide)]) ?_
                              refine jk_if_eq (tgt := 814) K dL_law_809 rfl (fun c_809 => ?_) (fun c_809 => ?_)
                              · refine jk_iload K dL_law_814 3 rfl ?_
                                refine jk_if_eq (tgt := 902) K dL_law_816 rfl (fun c_816 => ?_) (fun c_816 => ?_)
                                · exact absurd c_816 (by decide)
                                · refine jk_aload_n K dL_law_819 rfl 15 rfl ?_
                                  refine jk_iload K dL_law_820 4 rfl ?_
                                  refine jk_cVi K (n' := ((((((cn + 50 * j) + 1) + 1) + 1) + 1) + 2)) (k' := ((((((ck + 300 * j) + 6) + 6) + 6) + 6) + 12)) [.int (nI j)] [] dL_law_822 (lc_sourceOf _ hl E q b1 b2 (sm_SW E p n (sm_G (hb_poG C G M n)) (sm_N (hb_poC C G M n)) (sm_M M) ++ (Y ++ [lw_a E 0 a6 n (ar_f (lf_w C) n), lw_a E 2 a7 n (ar_f (lf_b C) n), lw_a E 2 a8 n (ar_f (lf_d C) n), lw_a E 0 a9 n (ar_f (lf_s C) n)])) (hb_poC C G M n) (hb_poG C G M n) M C2 G2 M2 n hn hg' j hlt (by rw [y5]; decide)) gL_law_X2_sourceOf rfl kd_X2_sourceOf ⟨Nat.le_of_ble_eq_true rfl, Nat.le_of_ble_eq_true rfl⟩ 0 rfl rfl (Nat.le_of_ble_eq_true rfl) ⟨rfl, rfl⟩ ⟨(by show _ ≤ 600130; omega), (by show _ ≤ 7301079; omega)⟩ rfl (fun _ _ => ?_)
                                  refine jk_st (st' := [.int (-1)]) (by rw [w9]) ?_
                                  refine jk_if_ge (tgt := 831) K dL_law_825 rfl (fun c_825 => ?_) (fun c_825 => ?_)
                                  · exact absurd c_825 (by decide)
                                  · refine jk_goto (tgt := 902) K dL_law_828 rfl ?_
                                    refine jk_iinc (v := (nI (j + 1))) (lv' := [(17, .int (nI (j + 1))), (19, .int 1), (16, .int ((mn_ce C G M n j) + 1)), (15, .int ((mn_cl C G M n j) + 1)), (18, .int 1), (14, .int (mn_cl C G M n n)), (13, .int (G 5)), (12, .int (G 4)), (9, .ref a9), (8, .ref a8), (7, .ref a7), (6, .ref a6), (5, .int (nI n)), (3, .int (nI t)), (2, .ref (p 0)), (1, .ref q), (0, .ref E.1.2.1)]) K dL_law_902 4 rfl (nI_1 j) (by decide) rfl ?_
                                    refine jk_goto (tgt := 622) K dL_law_905 rfl ?_
                                    refine jk_ws (ws' := (sm_S E (hb_cw E q b1 b2 (hb_poC C G M n) (hb_poG C G M n) M C2 G2 M2) (Y ++ [lw_a E 0 a6 n (ar_f (lf_w C) n), lw_a E 2 a7 n (ar_f (lf_b C) n), lw_a E 2 a8 n (ar_f (lf_d C) n), lw_a E 0 a9 n (ar_f (lf_s C) n)]) p n (sm_G (hb_poG C G M n)) (sm_N (hb_poC C G M n)) (sm_M M))) lw_sw ?_
                                    refine jk_wide (n' := (cn + 50 * (j + 1))) (k' := (ck + 300 * (j + 1))) (by omega) (by omega) ?_
                                    refine jk_sub (lv' := [(17, .int (nI (j + 1))), (16, .int ((mn_ce C G M n j) + 1)), (15, .int ((mn_cl C G M n j) + 1)), (14, .int (mn_cl C G M n n)), (13, .int (G 5)), (12, .int (G 4)), (9, .ref a9), (8, .ref a8), (7, .ref a7), (6, .ref a6), (5, .int (nI n)), (3, .int (nI t)), (2, .ref (p 0)), (1, .ref q), (0, .ref E.1.2.1)]) [0, 2, 3, 5, 6, 7, 8, 9, 10, 11, 12, 13, 14, 15, 16] rfl ?_
                                    refine jk_lv (lv' := [(17, .int (nI (j + 1))), (16, .int (mn_ce C G M n (j + 1))), (15, .int (mn_cl C G M n (j + 1))), (14, .int (mn_cl C G M n n)), (13, .int (G 5)), (12, .int (G 4)), (9, .ref a9), (8, .ref a8), (7, .ref a7), (6, .ref a6), (5, .int (nI n)), (3, .int (nI t)), (2, .ref (p 0)), (1, .ref q), (0, .ref E.1.2.1)]) (by rw [mn_ce_s, mn_cl_s, ht, (show mn_e C G M n j = 1 by unfold mn_e; rw [if_neg (by rw [ht]; decide), if_pos hsr])]) ?_
                                    exact ih hlt
                              · exact absurd (by decide) c_809
                          · exact absurd c_772 (by decide)
                        · exact absurd (by decide) c_742
                    · exact absurd c_710 (by decide)
        · obtain ⟨u, hu, t5, tE, tS⟩ := (mn_sr_so hiv hlt).resolve_left (fun z => by rw [hsr] at z; exact hm_neg (by omega) z)
          rw [hsr] at w9
          have tS := tS.symm.trans hsr
          refine jk_aload K dL_law_629 7 rfl ?_
          refine jk_iload K dL_law_631 0 rfl ?_
          refine jk_zald (v := 1) K dL_law_633 ((hb_cw E q b1 b2 (hb_poC C G M n) (hb_poG C G M n) M C2 G2 M2).length + (13 + n + (Y.length + 2))) (sm_yat rfl) (vp_in_nI hlt (by omega)) (by rw [nI_clamp (by omega), ar_v _ hlt, (show lf_d C j = 1 from if_pos z5)]) ?_
          refine jk_if_eq (tgt := 650) K dL_law_634 rfl (fun c_634 => ?_) (fun c_634 => ?_)
          · exact absurd c_634 (by decide)
          · refine jk_aload_n K dL_law_637 rfl 13 rfl ?_
            refine jk_iload K dL_law_638 0 rfl ?_
            refine jk_ws (ws' := (hb_v1 E q b1 b2 (sm_SW E p n (sm_G (hb_poG C G M n)) (sm_N (hb_poC C G M n)) (sm_M M) ++ (Y ++ [lw_a E 0 a6 n (ar_f (lf_w C) n), lw_a E 2 a7 n (ar_f (lf_b C) n), lw_a E 2 a8 n (ar_f (lf_d C) n), lw_a E 0 a9 n (ar_f (lf_s C) n)])) (hb_poC C G M n) (hb_poG C G M n) M C2 G2 M2)) lw_sw.symm ?_
            refine jk_cVi K (n' := ((cn + 50 * j) + 1)) (k' := ((ck + 300 * j) + 6)) [.int (nI j)] [] dL_law_640 (lc_isDark _ hl E q b1 b2 (sm_SW E p n (sm_G (hb_poG C G M n)) (sm_N (hb_poC C G M n)) (sm_M M) ++ (Y ++ [lw_a E 0 a6 n (ar_f (lf_w C) n), lw_a E 2 a7 n (ar_f (lf_b C) n), lw_a E 2 a8 n (ar_f (lf_d C) n), lw_a E 0 a9 n (ar_f (lf_s C) n)])) (hb_poC C G M n) (hb_poG C G M n) M C2 G2 M2 n hn hg' j hlt) gL_law_X2_isDark rfl kd_X2_isDark ⟨Nat.le_of_ble_eq_true rfl, Nat.le_of_ble_eq_true rfl⟩ 0 rfl rfl (Nat.le_of_ble_eq_true rfl) ⟨rfl, rfl⟩ ⟨(by show _ ≤ 600130; omega), (by show _ ≤ 7301079; omega)⟩ rfl (fun _ _ => ?_)
            refine jk_st (st' := [.int 0]) (by rw [if_neg (by rw [y5]; decide)]) ?_
            refine jk_if_ne (tgt := 650) K dL_law_643 rfl (fun c_643 => ?_) (fun c_643 => ?_)
            · exact absurd (by decide) c_643
            · refine jk_iconst (x := 1) K dL_law_646 rfl ?_
              refine jk_goto (tgt := 651) K dL_law_647 rfl ?_
              refine jk_istore (lv' := [(18, .int 1), (17, .int (nI j)), (16, .int (mn_ce C G M n j)), (15, .int (mn_cl C G M n j)), (14, .int (mn_cl C G M n n)), (13, .int (G 5)), (12, .int (G 4)), (9, .ref a9), (8, .ref a8), (7, .ref a7), (6, .ref a6), (5, .int (nI n)), (3, .int (nI t)), (2, .ref (p 0)), (1, .ref q), (0, .ref E.1.2.1)]) K dL_law_651 (by decide) rfl ?_
              refine jk_iload K dL_law_653 3 rfl ?_
              refine jk_iload K dL_law_655 0 rfl ?_
              refine jk_if_eq (tgt := 664) K dL_law_657 rfl (fun c_657 => ?_) (fun c_657 => ?_)
              · exact absurd c_657 (by decide)
              · refine jk_iconst (x := 1) K dL_law_660 rfl ?_
                refine jk_goto (tgt := 665) K dL_law_661 rfl ?_
                refine jk_iadd K dL_law_665 ?_
                refine jk_istore (lv' := [(15, .int ((mn_cl C G M n j) + 1)), (18, .int 1), (17, .int (nI j)), (16, .int (mn_ce C G M n j)), (14, .int (mn_cl C G M n n)), (13, .int (G 5)), (12, .int (G 4)), (9, .ref a9), (8, .ref a8), (7, .ref a7), (6, .ref a6), (5, .int (nI n)), (3, .int (nI t)), (2, .ref (p 0)), (1, .ref q), (0, .ref E.1.2.1)]) K dL_law_666 (by decide) rfl ?_
                refine jk_iload K dL_law_668 3 rfl ?_
                refine jk_iload K dL_law_670 1 rfl ?_
                refine jk_if_eq (tgt := 688) K dL_law_672 rfl (fun c_672 => ?_) (fun c_672 => ?_)
                · exact absurd c_672 (by decide)
                · refine jk_aload_n K dL_law_675 rfl 14 rfl ?_
                  refine jk_iload K dL_law_676 2 rfl ?_
                  refine jk_cVi K (n' := (((cn + 50 * j) + 1) + 1)) (k' := (((ck + 300 * j) + 6) + 6)) [.int (nI j)] [.int (mn_ce C G M n j)] dL_law_678 (lc_isMistaken _ hl E q b1 b2 (sm_SW E p n (sm_G (hb_poG C G M n)) (sm_N (hb_poC C G M n)) (sm_M M) ++ (Y ++ [lw_a E 0 a6 n (ar_f (lf_w C) n), lw_a E 2 a7 n (ar_f (lf_b C) n), lw_a E 2 a8 n (ar_f (lf_d C) n), lw_a E 0 a9 n (ar_f (lf_s C) n)])) (hb_poC C G M n) (hb_poG C G M n) M C2 G2 M2 n hn hg' j hlt) gL_law_X2_isMistaken rfl kd_X2_isMistaken ⟨Nat.le_of_ble_eq_true rfl, Nat.le_of_ble_eq_true rfl⟩ 0 rfl rfl (Nat.le_of_ble_eq_true rfl) ⟨rfl, rfl⟩ ⟨(by show _ ≤ 600130; omega), (by show _ ≤ 7301079; omega)⟩ rfl (fun _ _ => ?_)
                  refine jk_st (st' := [.int 0, .int (mn_ce C G M n j)]) (by rw [if_neg (by rw [w9]; exact hm_neg (by omega))]) ?_
                  refine jk_if_eq (tgt := 688) K dL_law_681 rfl (fun c_681 => ?_) (fun c_681 => ?_)
                  · refine jk_iconst (x := 0) K dL_law_688 rfl ?_
                    refine jk_iadd K dL_law_689 ?_
                    refine jk_istore (lv' := [(16, .int ((mn_ce C G M n j) + 0)), (15, .int ((mn_cl C G M n j) + 1)), (18, .int 1), (17, .int (nI j)), (14, .int (mn_cl C G M n n)), (13, .int (G 5)), (12, .int (G 4)), (9, .ref a9), (8, .ref a8), (7, .ref a7), (6, .ref a6), (5, .int (nI n)), (3, .int (nI t)), (2, .ref (p 0)), (1, .ref q), (0, .ref E.1.2.1)]) K dL_law_690 (by decide) rfl ?_
                    refine jk_aload K dL_law_692 10 rfl ?_
                    refine jk_iload K dL_law_694 3 rfl ?_
                    refine jk_ws (ws' := (sm_S E (hb_cw E q b1 b2 (hb_poC C G M n) (hb_poG C G M n) M C2 G2 M2) (Y ++ [lw_a E 0 a6 n (ar_f (lf_w C) n), lw_a E 2 a7 n (ar_f (lf_b C) n), lw_a E 2 a8 n (ar_f (lf_d C) n), lw_a E 0 a9 n (ar_f (lf_s C) n)]) p n (sm_G (hb_poG C G M n)) (sm_N (hb_poC C G M n)) (sm_M M))) lw_sw ?_
                    refine jk_iald (v := (nI (k0 + 1))) K dL_law_696 ((hb_cw E q b1 b2 (hb_poC C G M n) (hb_poG C G M n) M C2 G2 M2).length + (13 + n + (Y.length + 0))) (sm_yat rfl) (vp_in_nI hlt (by omega)) (by rw [nI_clamp (by omega), ar_v _ hlt, (show lf_w C j = nI (k0 + 1) from w0)]) ?_
                    refine jk_aload_n K dL_law_697 rfl 14 rfl ?_
                    refine jk_iload K dL_law_698 3 rfl ?_
                    refine jk_ws (ws' := (hb_v1 E q b1 b2 (sm_SW E p n (sm_G (hb_poG C G M n)) (sm_N (hb_poC C G M n)) (sm_M M) ++ (Y ++ [lw_a E 0 a6 n (ar_f (lf_w C) n), lw_a E 2 a7 n (ar_f (lf_b C) n), lw_a E 2 a8 n (ar_f (lf_d C) n), lw_a E 0 a9 n (ar_f (lf_s C) n)])) (hb_poC C G M n) (hb_poG C G M n) M C2 G2 M2)) lw_sw.symm ?_
                    refine jk_cVi K (n' := ((((cn + 50 * j) + 1) + 1) + 1)) (k' := ((((ck + 300 * j) + 6) + 6) + 6)) [.int (nI j)] [.int (nI (k0 + 1))] dL_law_700 (lc_woodOf _ hl E q b1 b2 (sm_SW E p n (sm_G (hb_poG C G M n)) (sm_N (hb_poC C G M n)) (sm_M M) ++ (Y ++ [lw_a E 0 a6 n (ar_f (lf_w C) n), lw_a E 2 a7 n (ar_f (lf_b C) n), lw_a E 2 a8 n (ar_f (lf_d C) n), lw_a E 0 a9 n (ar_f (lf_s C) n)])) (hb_poC C G M n) (hb_poG C G M n) M C2 G2 M2 n hn hg' j hlt) gL_law_X2_woodOf rfl kd_X2_woodOf ⟨Nat.le_of_ble_eq_true rfl, Nat.le_of_ble_eq_true rfl⟩ 0 rfl rfl (Nat.le_of_ble_eq_true rfl) ⟨rfl, rfl⟩ ⟨(by show _ ≤ 600130; omega), (by show _ ≤ 7301079; omega)⟩ rfl (fun _ _ => ?_)
                    refine jk_isub K dL_law_703 ?_
                    refine jk_st (st' := [.int 1]) (by rw [w1]; rw [nI_one]) ?_
                    refine jk_istore (lv' := [(19, .int 1), (16, .int ((mn_ce C G M n j) + 0)), (15, .int ((mn_cl C G M n j) + 1)), (18, .int 1), (17, .int (nI j)), (14, .int (mn_cl C G M n n)), (13, .int (G 5)), (12, .int (G 4)), (9, .ref a9), (8, .ref a8), (7, .ref a7), (6, .ref a6), (5, .int (nI n)), (3, .int (nI t)), (2, .ref (p 0)), (1, .ref q), (0, .ref E.1.2.1)]) K dL_law_704 (by decide) rfl ?_
                    refine jk_iload K dL_law_706 0 rfl ?_
                    refine jk_iload K dL_law_708 3 rfl ?_
                    refine jk_if_ne (tgt := 729) K dL_law_710 rfl (fun c_710 => ?_) (fun c_710 => ?_)
                    · refine jk_iconst (x := 1) K dL_law_729 rfl ?_
                      refine jk_goto (tgt := 734) K dL_law_730 rfl ?_
                      refine jk_icmp_ne (tgt := 812) K dL_law_734 rfl (fun c_734 => ?_) (fun c_734 => ?_)
                      · exact absurd (by decide) c_734
                      · refine jk_aload K dL_law_737 10 rfl ?_
                        refine jk_iload K dL_law_739 4 rfl ?_
                        refine jk_ws (ws' := (sm_S E (hb_cw E q b1 b2 (hb_poC C G M n) (hb_poG C G M n) M C2 G2 M2) (Y ++ [lw_a E 0 a6 n (ar_f (lf_w C) n), lw_a E 2 a7 n (ar_f (lf_b C) n), lw_a E 2 a8 n (ar_f (lf_d C) n), lw_a E 0 a9 n (ar_f (lf_s C) n)]) p n (sm_G (hb_poG C G M n)) (sm_N (hb_poC C G M n)) (sm_M M))) lw_sw ?_
                        refine jk_zald (v := 0) K dL_law_741 ((hb_cw E q b1 b2 (hb_poC C G M n) (hb_poG C G M n) M C2 G2 M2).length + (13 + n + (Y.length + 1))) (sm_yat rfl) (vp_in_nI hlt (by omega)) (by rw [nI_clamp (by omega), ar_v _ hlt, (show lf_b C j = 0 from if_neg (by rw [z5]; decide))]) ?_
                        refine jk_if_eq (tgt := 767) K dL_law_742 rfl (fun c_742 => ?_) (fun c_742 => ?_)
                        · refine jk_aload K dL_law_767 9 rfl ?_
                          refine jk_iload K dL_law_769 4 rfl ?_
                          refine jk_zald (v := 1) K dL_law_771 ((hb_cw E q b1 b2 (hb_poC C G M n) (hb_poG C G M n) M C2 G2 M2).length + (13 + n + (Y.length + 2))) (sm_yat rfl) (vp_in_nI hlt (by omega)) (by rw [nI_clamp (by omega), ar_v _ hlt, (show lf_d C j = 1 from if_pos z5)]) ?_
                          refine jk_if_ne (tgt := 798) K dL_law_772 rfl (fun c_772 => ?_) (fun c_772 => ?_)
                          · refine jk_iload K dL_law_798 3 rfl ?_
                            refine jk_if_eq (tgt := 814) K dL_law_800 rfl (fun c_800 => ?_) (fun c_800 => ?_)
                            · exact absurd c_800 (by decide)
                            · refine jk_aload_n K dL_law_803 rfl 15 rfl ?_
                              refine jk_iload K dL_law_804 4 rfl ?_
                              refine jk_ws (ws' := (hb_v1 E q b1 b2 (sm_SW E p n (sm_G (hb_poG C G M n)) (sm_N (hb_poC C G M n)) (sm_M M) ++ (Y ++ [lw_a E 0 a6 n (ar_f (lf_w C) n), lw_a E 2 a7 n (ar_f (lf_b C) n), lw_a E 2 a8 n (ar_f (lf_d C) n), lw_a E 0 a9 n (ar_f (lf_s C) n)])) (hb_poC C G M n) (hb_poG C G M n) M C2 G2 M2)) lw_sw.symm ?_
                              refine jk_cVi K (n' := (((((cn + 50 * j) + 1) + 1) + 1) + 1)) (k' := (((((ck + 300 * j) + 6) + 6) + 6) + 6)) [.int (nI j)] [] dL_law_806 (lc_isBurning _ hl E q b1 b2 (sm_SW E p n (sm_G (hb_poG C G M n)) (sm_N (hb_poC C G M n)) (sm_M M) ++ (Y ++ [lw_a E 0 a6 n (ar_f (lf_w C) n), lw_a E 2 a7 n (ar_f (lf_b C) n), lw_a E 2 a8 n (ar_f (lf_d C) n), lw_a E 0 a9 n (ar_f (lf_s C) n)])) (hb_poC C G M n) (hb_poG C G M n) M C2 G2 M2 n hn hg' j hlt) gL_law_X2_isBurning rfl kd_X2_isBurning ⟨Nat.le_of_ble_eq_true rfl, Nat.le_of_ble_eq_true rfl⟩ 0 rfl rfl (Nat.le_of_ble_eq_true rfl) ⟨rfl, rfl⟩ ⟨(by show _ ≤ 600130; omega), (by show _ ≤ 7301079; omega)⟩ rfl (fun _ _ => ?_)
                              refine jk_st (st' := [.int 0]) (by rw [if_neg (by rw [y5]; decide)]) ?_
                              refine jk_if_eq (tgt := 814) K dL_law_809 rfl (fun c_809 => ?_) (fun c_809 => ?_)
                              · refine jk_iload K dL_law_814 3 rfl ?_
                                refine jk_if_eq (tgt := 902) K dL_law_816 rfl (fun c_816 => ?_) (fun c_816 => ?_)
                                · exact absurd c_816 (by decide)
                                · refine jk_aload_n K dL_law_819 rfl 15 rfl ?_
                                  refine jk_iload K dL_law_820 4 rfl ?_
                                  refine jk_cVi K (n' := ((((((cn + 50 * j) + 1) + 1) + 1) + 1) + 2)) (k' := ((((((ck + 300 * j) + 6) + 6) + 6) + 6) + 12)) [.int (nI j)] [] dL_law_822 (lc_sourceOf _ hl E q b1 b2 (sm_SW E p n (sm_G (hb_poG C G M n)) (sm_N (hb_poC C G M n)) (sm_M M) ++ (Y ++ [lw_a E 0 a6 n (ar_f (lf_w C) n), lw_a E 2 a7 n (ar_f (lf_b C) n), lw_a E 2 a8 n (ar_f (lf_d C) n), lw_a E 0 a9 n (ar_f (lf_s C) n)])) (hb_poC C G M n) (hb_poG C G M n) M C2 G2 M2 n hn hg' j hlt (by rw [y5]; decide)) gL_law_X2_sourceOf rfl kd_X2_sourceOf ⟨Nat.le_of_ble_eq_true rfl, Nat.le_of_ble_eq_true rfl⟩ 0 rfl rfl (Nat.le_of_ble_eq_true rfl) ⟨rfl, rfl⟩ ⟨(by show _ ≤ 600130; omega), (by show _ ≤ 7301079; omega)⟩ rfl (fun _ _ => ?_)
                                  refine jk_st (st' := [.int (nI s)]) (by rw [w9]) ?_
                                  refine jk_if_ge_T (tgt := 831) K dL_law_825 rfl (Int32.not_lt.mp (nI_pos (by omega))) ?_
                                  refine jk_iconst (x := 0) K dL_law_831 rfl ?_
                                  refine jk_istore (lv' := [(20, .int 0), (19, .int 1), (16, .int ((mn_ce C G M n j) + 0)), (15, .int ((mn_cl C G M n j) + 1)), (18, .int 1), (17, .int (nI j)), (14, .int (mn_cl C G M n n)), (13, .int (G 5)), (12, .int (G 4)), (9, .ref a9), (8, .ref a8), (7, .ref a7), (6, .ref a6), (5, .int (nI n)), (3, .int (nI t)), (2, .ref (p 0)), (1, .ref q), (0, .ref E.1.2.1)]) K dL_law_832 (by decide) rfl ?_
                                  refine jk_iconst (x := 0) K dL_law_834 rfl ?_
                                  refine jk_istore (lv' := [(21, .int 0), (20, .int 0), (19, .int 1), (16, .int ((mn_ce C G M n j) + 0)), (15, .int ((mn_cl C G M n j) + 1)), (18, .int 1), (17, .int (nI j)), (14, .int (mn_cl C G M n n)), (13, .int (G 5)), (12, .int (G 4)), (9, .ref a9), (8, .ref a8), (7, .ref a7), (6, .ref a6), (5, .int (nI n)), (3, .int (nI t)), (2, .ref (p 0)), (1, .ref q), (0, .ref E.1.2.1)]) K dL_law_835 (by decide) rfl ?_
                                  have hI : ∀ i, i ≤ n → ∀ v : Int32, (v = 0 ∨ v = 1) → (u < i → v = 1) → jk_J Γ E (sm_S E (hb_cw E q b1 b2 (hb_poC C G M n) (hb_poG C G M n) M C2 G2 M2) (Y ++ [lw_a E 0 a6 n (ar_f (lf_w C) n), lw_a E 2 a7 n (ar_f (lf_b C) n), lw_a E 2 a8 n (ar_f (lf_d C) n), lw_a E 0 a9 n (ar_f (lf_s C) n)]) p n (sm_G (hb_poG C G M n)) (sm_N (hb_poC C G M n)) (sm_M M)) (cn + 50 * j + 10 + 4 * i) (ck + 300 * j + 60 + 24 * i) 837 [(21, .int (nI i)), (20, .int v), (19, .int 1), (18, .int 1), (17, .int (nI j)), (16, .int ((mn_ce C G M n j) + 0)), (15, .int ((mn_cl C G M n j) + 1)), (14, .int (mn_cl C G M n n)), (13, .int (G 5)), (12, .int (G 4)), (9, .ref a9), (8, .ref a8), (7, .ref a7), (6, .ref a6), (5, .int (nI n)), (3, .int (nI t)), (2, .ref (p 0)), (1, .ref q), (0, .ref E.1.2.1)] [] := by
                                    refine jk_loop (fun i hi ihi => ?_)
                                    intro v hv hvu
                                    refine jk_iload K dL_law_837 0 rfl ?_
                                    refine jk_iload K dL_law_839 14 rfl ?_
                                    refine jk_icmp_ge (tgt := 895) K dL_law_841 rfl (fun c_841 => ?_) (fun c_841 => ?_)
                                    · have hin : i = n := hb_ex (n := n) rfl (by omega) hi c_841
                                      have hv1 : v = 1 := hvu (by omega)
                                      refine jk_lv (lv' := [(21, .int (nI i)), (20, .int 1), (19, .int 1), (18, .int 1), (17, .int (nI j)), (16, .int ((mn_ce C G M n j) + 0)), (15, .int ((mn_cl C G M n j) + 1)), (14, .int (mn_cl C G M n n)), (13, .int (G 5)), (12, .int (G 4)), (9, .ref a9), (8, .ref a8), (7, .ref a7), (6, .ref a6), (5, .int (nI n)), (3, .int (nI t)), (2, .ref (p 0)), (1, .ref q), (0, .ref E.1.2.1)]) (by rw [hv1]) ?_
                                      refine jk_iload K dL_law_895 1 rfl ?_
                                      refine jk_if_ne (tgt := 902) K dL_law_897 rfl (fun c_897 => ?_) (fun c_897 => ?_)
                                      · refine jk_iinc (v := (nI (j + 1))) (lv' := [(17, .int (nI (j + 1))), (21, .int (nI i)), (20, .int 1), (19, .int 1), (18, .int 1), (16, .int ((mn_ce C G M n j) + 0)), (15, .int ((mn_cl C G M n j) + 1)), (14, .int (mn_cl C G M n n)), (13, .int (G 5)), (12, .int (G 4)), (9, .ref a9), (8, .ref a8), (7, .ref a7), (6, .ref a6), (5, .int (nI n)), (3, .int (nI t)), (2, .ref (p 0)), (1, .ref q), (0, .ref E.1.2.1)]) K dL_law_902 4 rfl (nI_1 j) (by decide) rfl ?_
                                        refine jk_goto (tgt := 622) K dL_law_905 rfl ?_
                                        refine jk_wide (n' := (cn + 50 * (j + 1))) (k' := (ck + 300 * (j + 1))) (by omega) (by omega) ?_
                                        refine jk_sub (lv' := [(17, .int (nI (j + 1))), (16, .int ((mn_ce C G M n j) + 0)), (15, .int ((mn_cl C G M n j) + 1)), (14, .int (mn_cl C G M n n)), (13, .int (G 5)), (12, .int (G 4)), (9, .ref a9), (8, .ref a8), (7, .ref a7), (6, .ref a6), (5, .int (nI n)), (3, .int (nI t)), (2, .ref (p 0)), (1, .ref q), (0, .ref E.1.2.1)]) [0, 5, 6, 7, 8, 9, 10, 11, 12, 13, 14, 15, 16, 17, 18] rfl ?_
                                        refine jk_lv (lv' := [(17, .int (nI (j + 1))), (16, .int (mn_ce C G M n (j + 1))), (15, .int (mn_cl C G M n (j + 1))), (14, .int (mn_cl C G M n n)), (13, .int (G 5)), (12, .int (G 4)), (9, .ref a9), (8, .ref a8), (7, .ref a7), (6, .ref a6), (5, .int (nI n)), (3, .int (nI t)), (2, .ref (p 0)), (1, .ref q), (0, .ref E.1.2.1)]) (by rw [mn_ce_s, mn_cl_s, ht, (show mn_e C G M n j = 0 by unfold mn_e; rw [if_neg (by rw [ht]; decide), if_neg (by rw [hsr]; exact hm_neg (by omega))])]) ?_
                                        exact ih hlt
                                      · exact absurd c_897 (by decide)
                                    · have hli : i < n := hb_in (n := n) rfl (by omega) hi c_841
                                      rcases hv with rfl | rfl
                                      · by_cases hiu : i = u
                                        · refine jk_iload K dL_law_844 1 rfl ?_
                                          refine jk_if_ne (tgt := 882) K dL_law_846 rfl (fun c_846 => ?_) (fun c_846 => ?_)
                                          · exact absurd (by decide) c_846
                                          · refine jk_aload K dL_law_849 12 rfl ?_
                                            refine jk_iload K dL_law_851 0 rfl ?_
                                            refine jk_zald (v := 1) K dL_law_853 ((hb_cw E q b1 b2 (hb_poC C G M n) (hb_poG C G M n) M C2 G2 M2).length + (13 + n + (Y.length + 1))) (sm_yat rfl) (vp_in_nI hli (by omega)) (by rw [nI_clamp (by omega), ar_v _ hli, hiu]; exact if_pos t5) ?_
                                            refine jk_if_eq (tgt := 886) K dL_law_854 rfl (fun c_854 => ?_) (fun c_854 => ?_)
                                            · exact absurd c_854 (by decide)
                                            · refine jk_aload_n K dL_law_857 rfl 17 rfl ?_
                                              refine jk_iload K dL_law_858 4 rfl ?_
                                              refine jk_iload K dL_law_860 0 rfl ?_
                                              refine jk_ws (ws' := (hb_v1 E q b1 b2 (sm_SW E p n (sm_G (hb_poG C G M n)) (sm_N (hb_poC C G M n)) (sm_M M) ++ (Y ++ [lw_a E 0 a6 n (ar_f (lf_w C) n), lw_a E 2 a7 n (ar_f (lf_b C) n), lw_a E 2 a8 n (ar_f (lf_d C) n), lw_a E 0 a9 n (ar_f (lf_s C) n)])) (hb_poC C G M n) (hb_poG C G M n) M C2 G2 M2)) lw_sw.symm ?_
                                              refine jk_cVi K (n' := ((cn + 50 * j + 10 + 4 * i) + 2)) (k' := ((ck + 300 * j + 60 + 24 * i) + 12)) [.int (nI j), .int (nI i)] [] dL_law_862 (lc_canSee _ hl E q b1 b2 (sm_SW E p n (sm_G (hb_poG C G M n)) (sm_N (hb_poC C G M n)) (sm_M M) ++ (Y ++ [lw_a E 0 a6 n (ar_f (lf_w C) n), lw_a E 2 a7 n (ar_f (lf_b C) n), lw_a E 2 a8 n (ar_f (lf_d C) n), lw_a E 0 a9 n (ar_f (lf_s C) n)])) (hb_poC C G M n) (hb_poG C G M n) M C2 G2 M2 n hn hg' j i hlt hli) gL_law_X2_canSee rfl kd_X2_canSee ⟨Nat.le_of_ble_eq_true rfl, Nat.le_of_ble_eq_true rfl⟩ 0 rfl rfl (Nat.le_of_ble_eq_true rfl) ⟨rfl, rfl⟩ ⟨(by show _ ≤ 600130; omega), (by show _ ≤ 7301079; omega)⟩ rfl (fun _ _ => ?_)
                                              refine jk_if_eq_F (tgt := 886) K dL_law_865 rfl (by rw [hiu, hG1]; exact tE) ?_
                                              refine jk_aload K dL_law_868 10 rfl ?_
                                              refine jk_iload K dL_law_870 0 rfl ?_
                                              refine jk_ws (ws' := (sm_S E (hb_cw E q b1 b2 (hb_poC C G M n) (hb_poG C G M n) M C2 G2 M2) (Y ++ [lw_a E 0 a6 n (ar_f (lf_w C) n), lw_a E 2 a7 n (ar_f (lf_b C) n), lw_a E 2 a8 n (ar_f (lf_d C) n), lw_a E 0 a9 n (ar_f (lf_s C) n)]) p n (sm_G (hb_poG C G M n)) (sm_N (hb_poC C G M n)) (sm_M M))) lw_sw ?_
                                              refine jk_iald (v := (nI s)) K dL_law_872 ((hb_cw E q b1 b2 (hb_poC C G M n) (hb_poG C G M n) M C2 G2 M2).length + (13 + n + (Y.length + 3))) (sm_yat rfl) (vp_in_nI hli (by omega)) (by rw [nI_clamp (by omega), ar_v _ hli, hiu]; exact (if_neg (show ¬ C u 5 = 0 by rw [t5]; decide)).trans tS) ?_
                                              refine jk_aload_n K dL_law_873 rfl 17 rfl ?_
                                              refine jk_iload K dL_law_874 4 rfl ?_
                                              refine jk_ws (ws' := (hb_v1 E q b1 b2 (sm_SW E p n (sm_G (hb_poG C G M n)) (sm_N (hb_poC C G M n)) (sm_M M) ++ (Y ++ [lw_a E 0 a6 n (ar_f (lf_w C) n), lw_a E 2 a7 n (ar_f (lf_b C) n), lw_a E 2 a8 n (ar_f (lf_d C) n), lw_a E 0 a9 n (ar_f (lf_s C) n)])) (hb_poC C G M n) (hb_poG C G M n) M C2 G2 M2)) lw_sw.symm ?_
                                              refine jk_cVi K (n' := (((cn + 50 * j + 10 + 4 * i) + 2) + 2)) (k' := (((ck + 300 * j + 60 + 24 * i) + 12) + 12)) [.int (nI j)] [.int (nI s)] dL_law_876 (lc_sourceOf _ hl E q b1 b2 (sm_SW E p n (sm_G (hb_poG C G M n)) (sm_N (hb_poC C G M n)) (sm_M M) ++ (Y ++ [lw_a E 0 a6 n (ar_f (lf_w C) n), lw_a E 2 a7 n (ar_f (lf_b C) n), lw_a E 2 a8 n (ar_f (lf_d C) n), lw_a E 0 a9 n (ar_f (lf_s C) n)])) (hb_poC C G M n) (hb_poG C G M n) M C2 G2 M2 n hn hg' j hlt (by rw [y5]; decide)) gL_law_X2_sourceOf rfl kd_X2_sourceOf ⟨Nat.le_of_ble_eq_true rfl, Nat.le_of_ble_eq_true rfl⟩ 0 rfl rfl (Nat.le_of_ble_eq_true rfl) ⟨rfl, rfl⟩ ⟨(by show _ ≤ 600130; omega), (by show _ ≤ 7301079; omega)⟩ rfl (fun _ _ => ?_)
                                              refine jk_icmp_ne_F (tgt := 886) K dL_law_879 rfl w9.symm ?_
                                              refine jk_iconst (x := 1) K dL_law_882 rfl ?_
                                              refine jk_goto (tgt := 887) K dL_law_883 rfl ?_
                                              refine jk_istore (lv' := [(20, .int 1), (21, .int (nI i)), (19, .int 1), (18, .int 1), (17, .int (nI j)), (16, .int ((mn_ce C G M n j) + 0)), (15, .int ((mn_cl C G M n j) + 1)), (14, .int (mn_cl C G M n n)), (13, .int (G 5)), (12, .int (G 4)), (9, .ref a9), (8, .ref a8), (7, .ref a7), (6, .ref a6), (5, .int (nI n)), (3, .int (nI t)), (2, .ref (p 0)), (1, .ref q), (0, .ref E.1.2.1)]) K dL_law_887 (by decide) rfl ?_
                                              refine jk_iinc (v := (nI (i + 1))) (lv' := [(21, .int (nI (i + 1))), (20, .int 1), (19, .int 1), (18, .int 1), (17, .int (nI j)), (16, .int ((mn_ce C G M n j) + 0)), (15, .int ((mn_cl C G M n j) + 1)), (14, .int (mn_cl C G M n n)), (13, .int (G 5)), (12, .int (G 4)), (9, .ref a9), (8, .ref a8), (7, .ref a7), (6, .ref a6), (5, .int (nI n)), (3, .int (nI t)), (2, .ref (p 0)), (1, .ref q), (0, .ref E.1.2.1)]) K dL_law_889 1 rfl (nI_1 i) (by decide) rfl ?_
                                              refine jk_goto (tgt := 837) K dL_law_892 rfl ?_
                                              refine jk_ws (ws' := (sm_S E (hb_cw E q b1 b2 (hb_poC C G M n) (hb_poG C G M n) M C2 G2 M2) (Y ++ [lw_a E 0 a6 n (ar_f (lf_w C) n), lw_a E 2 a7 n (ar_f (lf_b C) n), lw_a E 2 a8 n (ar_f (lf_d C) n), lw_a E 0 a9 n (ar_f (lf_s C) n)]) p n (sm_G (hb_poG C G M n)) (sm_N (hb_poC C G M n)) (sm_M M))) lw_sw ?_
                                              refine jk_wide (n' := (cn + 50 * j + 10 + 4 * (i + 1))) (k' := (ck + 300 * j + 60 + 24 * (i + 1))) (by omega) (by omega) ?_
                                              exact ihi hli 1 (Or.inr rfl) (fun _ => rfl)
                                        · refine jk_iload K dL_law_844 1 rfl ?_
                                          refine jk_if_ne (tgt := 882) K dL_law_846 rfl (fun c_846 => ?_) (fun c_846 => ?_)
                                          · exact absurd (by decide) c_846
                                          · refine jk_aload K dL_law_849 12 rfl ?_
                                            refine jk_iload K dL_law_851 0 rfl ?_
                                            refine jk_zald (v := (lf_b C i)) K dL_law_853 ((hb_cw E q b1 b2 (hb_poC C G M n) (hb_poG C G M n) M C2 G2 M2).length + (13 + n + (Y.length + 1))) (sm_yat rfl) (vp_in_nI hli (by omega)) (by rw [nI_clamp (by omega), ar_v _ hli]) ?_
                                            refine jk_if_eq (tgt := 886) K dL_law_854 rfl (fun c_854 => ?_) (fun c_854 => ?_)
                                            · refine jk_iconst (x := 0) K dL_law_886 rfl ?_
                                              refine jk_istore (lv' := [(20, .int 0), (21, .int (nI i)), (19, .int 1), (18, .int 1), (17, .int (nI j)), (16, .int ((mn_ce C G M n j) + 0)), (15, .int ((mn_cl C G M n j) + 1)), (14, .int (mn_cl C G M n n)), (13, .int (G 5)), (12, .int (G 4)), (9, .ref a9), (8, .ref a8), (7, .ref a7), (6, .ref a6), (5, .int (nI n)), (3, .int (nI t)), (2, .ref (p 0)), (1, .ref q), (0, .ref E.1.2.1)]) K dL_law_887 (by decide) rfl ?_
                                              refine jk_iinc (v := (nI (i + 1))) (lv' := [(21, .int (nI (i + 1))), (20, .int 0), (19, .int 1), (18, .int 1), (17, .int (nI j)), (16, .int ((mn_ce C G M n j) + 0)), (15, .int ((mn_cl C G M n j) + 1)), (14, .int (mn_cl C G M n n)), (13, .int (G 5)), (12, .int (G 4)), (9, .ref a9), (8, .ref a8), (7, .ref a7), (6, .ref a6), (5, .int (nI n)), (3, .int (nI t)), (2, .ref (p 0)), (1, .ref q), (0, .ref E.1.2.1)]) K dL_law_889 1 rfl (nI_1 i) (by decide) rfl ?_
                                              refine jk_goto (tgt := 837) K dL_law_892 rfl ?_
                                              refine jk_wide (n' := (cn + 50 * j + 10 + 4 * (i + 1))) (k' := (ck + 300 * j + 60 + 24 * (i + 1))) (by omega) (by omega) ?_
                                              exact ihi hli 0 (Or.inl rfl) (fun z => hvu (by omega))
                                            · refine jk_aload_n K dL_law_857 rfl 17 rfl ?_
                                              refine jk_iload K dL_law_858 4 rfl ?_
                                              refine jk_iload K dL_law_860 0 rfl ?_
                                              refine jk_ws (ws' := (hb_v1 E q b1 b2 (sm_SW E p n (sm_G (hb_poG C G M n)) (sm_N (hb_poC C G M n)) (sm_M M) ++ (Y ++ [lw_a E 0 a6 n (ar_f (lf_w C) n), lw_a E 2 a7 n (ar_f (lf_b C) n), lw_a E 2 a8 n (ar_f (lf_d C) n), lw_a E 0 a9 n (ar_f (lf_s C) n)])) (hb_poC C G M n) (hb_poG C G M n) M C2 G2 M2)) lw_sw.symm ?_
                                              refine jk_cVi K (n' := ((cn + 50 * j + 10 + 4 * i) + 2)) (k' := ((ck + 300 * j + 60 + 24 * i) + 12)) [.int (nI j), .int (nI i)] [] dL_law_862 (lc_canSee _ hl E q b1 b2 (sm_SW E p n (sm_G (hb_poG C G M n)) (sm_N (hb_poC C G M n)) (sm_M M) ++ (Y ++ [lw_a E 0 a6 n (ar_f (lf_w C) n), lw_a E 2 a7 n (ar_f (lf_b C) n), lw_a E 2 a8 n (ar_f (lf_d C) n), lw_a E 0 a9 n (ar_f (lf_s C) n)])) (hb_poC C G M n) (hb_poG C G M n) M C2 G2 M2 n hn hg' j i hlt hli) gL_law_X2_canSee rfl kd_X2_canSee ⟨Nat.le_of_ble_eq_true rfl, Nat.le_of_ble_eq_true rfl⟩ 0 rfl rfl (Nat.le_of_ble_eq_true rfl) ⟨rfl, rfl⟩ ⟨(by show _ ≤ 600130; omega), (by show _ ≤ 7301079; omega)⟩ rfl (fun _ _ => ?_)
                                              refine jk_if_eq (tgt := 886) K dL_law_865 rfl (fun c_865 => ?_) (fun c_865 => ?_)
                                              · refine jk_iconst (x := 0) K dL_law_886 rfl ?_
                                                refine jk_istore (lv' := [(20, .int 0), (21, .int (nI i)), (19, .int 1), (18, .int 1), (17, .int (nI j)), (16, .int ((mn_ce C G M n j) + 0)), (15, .int ((mn_cl C G M n j) + 1)), (14, .int (mn_cl C G M n n)), (13, .int (G 5)), (12, .int (G 4)), (9, .ref a9), (8, .ref a8), (7, .ref a7), (6, .ref a6), (5, .int (nI n)), (3, .int (nI t)), (2, .ref (p 0)), (1, .ref q), (0, .ref E.1.2.1)]) K dL_law_887 (by decide) rfl ?_
                                                refine jk_iinc (v := (nI (i + 1))) (lv' := [(21, .int (nI (i + 1))), (20, .int 0), (19, .int 1), (18, .int 1), (17, .int (nI j)), (16, .int ((mn_ce C G M n j) + 0)), (15, .int ((mn_cl C G M n j) + 1)), (14, .int (mn_cl C G M n n)), (13, .int (G 5)), (12, .int (G 4)), (9, .ref a9), (8, .ref a8), (7, .ref a7), (6, .ref a6), (5, .int (nI n)), (3, .int (nI t)), (2, .ref (p 0)), (1, .ref q), (0, .ref E.1.2.1)]) K dL_law_889 1 rfl (nI_1 i) (by decide) rfl ?_
                                                refine jk_goto (tgt := 837) K dL_law_892 rfl ?_
                                                refine jk_ws (ws' := (sm_S E (hb_cw E q b1 b2 (hb_poC C G M n) (hb_poG C G M n) M C2 G2 M2) (Y ++ [lw_a E 0 a6 n (ar_f (lf_w C) n), lw_a E 2 a7 n (ar_f (lf_b C) n), lw_a E 2 a8 n (ar_f (lf_d C) n), lw_a E 0 a9 n (ar_f (lf_s C) n)]) p n (sm_G (hb_poG C G M n)) (sm_N (hb_poC C G M n)) (sm_M M))) lw_sw ?_
                                                refine jk_wide (n' := (cn + 50 * j + 10 + 4 * (i + 1))) (k' := (ck + 300 * j + 60 + 24 * (i + 1))) (by omega) (by omega) ?_
                                                exact ihi hli 0 (Or.inl rfl) (fun z => hvu (by omega))
                                              · refine jk_aload K dL_law_868 10 rfl ?_
                                                refine jk_iload K dL_law_870 0 rfl ?_
                                                refine jk_ws (ws' := (sm_S E (hb_cw E q b1 b2 (hb_poC C G M n) (hb_poG C G M n) M C2 G2 M2) (Y ++ [lw_a E 0 a6 n (ar_f (lf_w C) n), lw_a E 2 a7 n (ar_f (lf_b C) n), lw_a E 2 a8 n (ar_f (lf_d C) n), lw_a E 0 a9 n (ar_f (lf_s C) n)]) p n (sm_G (hb_poG C G M n)) (sm_N (hb_poC C G M n)) (sm_M M))) lw_sw ?_
                                                refine jk_iald (v := (lf_s C i)) K dL_law_872 ((hb_cw E q b1 b2 (hb_poC C G M n) (hb_poG C G M n) M C2 G2 M2).length + (13 + n + (Y.length + 3))) (sm_yat rfl) (vp_in_nI hli (by omega)) (by rw [nI_clamp (by omega), ar_v _ hli]) ?_
                                                refine jk_aload_n K dL_law_873 rfl 17 rfl ?_
                                                refine jk_iload K dL_law_874 4 rfl ?_
                                                refine jk_ws (ws' := (hb_v1 E q b1 b2 (sm_SW E p n (sm_G (hb_poG C G M n)) (sm_N (hb_poC C G M n)) (sm_M M) ++ (Y ++ [lw_a E 0 a6 n (ar_f (lf_w C) n), lw_a E 2 a7 n (ar_f (lf_b C) n), lw_a E 2 a8 n (ar_f (lf_d C) n), lw_a E 0 a9 n (ar_f (lf_s C) n)])) (hb_poC C G M n) (hb_poG C G M n) M C2 G2 M2)) lw_sw.symm ?_
                                                refine jk_cVi K (n' := (((cn + 50 * j + 10 + 4 * i) + 2) + 2)) (k' := (((ck + 300 * j + 60 + 24 * i) + 12) + 12)) [.int (nI j)] [.int (lf_s C i)] dL_law_876 (lc_sourceOf _ hl E q b1 b2 (sm_SW E p n (sm_G (hb_poG C G M n)) (sm_N (hb_poC C G M n)) (sm_M M) ++ (Y ++ [lw_a E 0 a6 n (ar_f (lf_w C) n), lw_a E 2 a7 n (ar_f (lf_b C) n), lw_a E 2 a8 n (ar_f (lf_d C) n), lw_a E 0 a9 n (ar_f (lf_s C) n)])) (hb_poC C G M n) (hb_poG C G M n) M C2 G2 M2 n hn hg' j hlt (by rw [y5]; decide)) gL_law_X2_sourceOf rfl kd_X2_sourceOf ⟨Nat.le_of_ble_eq_true rfl, Nat.le_of_ble_eq_true rfl⟩ 0 rfl rfl (Nat.le_of_ble_eq_true rfl) ⟨rfl, rfl⟩ ⟨(by show _ ≤ 600130; omega), (by show _ ≤ 7301079; omega)⟩ rfl (fun _ _ => ?_)
                                                refine jk_icmp_ne (tgt := 886) K dL_law_879 rfl (fun c_879 => ?_) (fun c_879 => ?_)
                                                · refine jk_iconst (x := 0) K dL_law_886 rfl ?_
                                                  refine jk_istore (lv' := [(20, .int 0), (21, .int (nI i)), (19, .int 1), (18, .int 1), (17, .int (nI j)), (16, .int ((mn_ce C G M n j) + 0)), (15, .int ((mn_cl C G M n j) + 1)), (14, .int (mn_cl C G M n n)), (13, .int (G 5)), (12, .int (G 4)), (9, .ref a9), (8, .ref a8), (7, .ref a7), (6, .ref a6), (5, .int (nI n)), (3, .int (nI t)), (2, .ref (p 0)), (1, .ref q), (0, .ref E.1.2.1)]) K dL_law_887 (by decide) rfl ?_
                                                  refine jk_iinc (v := (nI (i + 1))) (lv' := [(21, .int (nI (i + 1))), (20, .int 0), (19, .int 1), (18, .int 1), (17, .int (nI j)), (16, .int ((mn_ce C G M n j) + 0)), (15, .int ((mn_cl C G M n j) + 1)), (14, .int (mn_cl C G M n n)), (13, .int (G 5)), (12, .int (G 4)), (9, .ref a9), (8, .ref a8), (7, .ref a7), (6, .ref a6), (5, .int (nI n)), (3, .int (nI t)), (2, .ref (p 0)), (1, .ref q), (0, .ref E.1.2.1)]) K dL_law_889 1 rfl (nI_1 i) (by decide) rfl ?_
                                                  refine jk_goto (tgt := 837) K dL_law_892 rfl ?_
                                                  refine jk_ws (ws' := (sm_S E (hb_cw E q b1 b2 (hb_poC C G M n) (hb_poG C G M n) M C2 G2 M2) (Y ++ [lw_a E 0 a6 n (ar_f (lf_w C) n), lw_a E 2 a7 n (ar_f (lf_b C) n), lw_a E 2 a8 n (ar_f (lf_d C) n), lw_a E 0 a9 n (ar_f (lf_s C) n)]) p n (sm_G (hb_poG C G M n)) (sm_N (hb_poC C G M n)) (sm_M M))) lw_sw ?_
                                                  refine jk_wide (n' := (cn + 50 * j + 10 + 4 * (i + 1))) (k' := (ck + 300 * j + 60 + 24 * (i + 1))) (by omega) (by omega) ?_
                                                  exact ihi hli 0 (Or.inl rfl) (fun z => hvu (by omega))
                                                · refine jk_iconst (x := 1) K dL_law_882 rfl ?_
                                                  refine jk_goto (tgt := 887) K dL_law_883 rfl ?_
                                                  refine jk_istore (lv' := [(20, .int 1), (21, .int (nI i)), (19, .int 1), (18, .int 1), (17, .int (nI j)), (16, .int ((mn_ce C G M n j) + 0)), (15, .int ((mn_cl C G M n j) + 1)), (14, .int (mn_cl C G M n n)), (13, .int (G 5)), (12, .int (G 4)), (9, .ref a9), (8, .ref a8), (7, .ref a7), (6, .ref a6), (5, .int (nI n)), (3, .int (nI t)), (2, .ref (p 0)), (1, .ref q), (0, .ref E.1.2.1)]) K dL_law_887 (by decide) rfl ?_
                                                  refine jk_iinc (v := (nI (i + 1))) (lv' := [(21, .int (nI (i + 1))), (20, .int 1), (19, .int 1), (18, .int 1), (17, .int (nI j)), (16, .int ((mn_ce C G M n j) + 0)), (15, .int ((mn_cl C G M n j) + 1)), (14, .int (mn_cl C G M n n)), (13, .int (G 5)), (12, .int (G 4)), (9, .ref a9), (8, .ref a8), (7, .ref a7), (6, .ref a6), (5, .int (nI n)), (3, .int (nI t)), (2, .ref (p 0)), (1, .ref q), (0, .ref E.1.2.1)]) K dL_law_889 1 rfl (nI_1 i) (by decide) rfl ?_
                                                  refine jk_goto (tgt := 837) K dL_law_892 rfl ?_
                                                  refine jk_ws (ws' := (sm_S E (hb_cw E q b1 b2 (hb_poC C G M n) (hb_poG C G M n) M C2 G2 M2) (Y ++ [lw_a E 0 a6 n (ar_f (lf_w C) n), lw_a E 2 a7 n (ar_f (lf_b C) n), lw_a E 2 a8 n (ar_f (lf_d C) n), lw_a E 0 a9 n (ar_f (lf_s C) n)]) p n (sm_G (hb_poG C G M n)) (sm_N (hb_poC C G M n)) (sm_M M))) lw_sw ?_
                                                  refine jk_wide (n' := (cn + 50 * j + 10 + 4 * (i + 1))) (k' := (ck + 300 * j + 60 + 24 * (i + 1))) (by omega) (by omega) ?_
                                                  exact ihi hli 1 (Or.inr rfl) (fun _ => rfl)
                                      · refine jk_iload K dL_law_844 1 rfl ?_
                                        refine jk_if_ne (tgt := 882) K dL_law_846 rfl (fun c_846 => ?_) (fun c_846 => ?_)
                                        · refine jk_iconst (x := 1) K dL_law_882 rfl ?_
                                          refine jk_goto (tgt := 887) K dL_law_883 rfl ?_
                                          refine jk_istore (lv' := [(20, .int 1), (21, .int (nI i)), (19, .int 1), (18, .int 1), (17, .int (nI j)), (16, .int ((mn_ce C G M n j) + 0)), (15, .int ((mn_cl C G M n j) + 1)), (14, .int (mn_cl C G M n n)), (13, .int (G 5)), (12, .int (G 4)), (9, .ref a9), (8, .ref a8), (7, .ref a7), (6, .ref a6), (5, .int (nI n)), (3, .int (nI t)), (2, .ref (p 0)), (1, .ref q), (0, .ref E.1.2.1)]) K dL_law_887 (by decide) rfl ?_
                                          refine jk_iinc (v := (nI (i + 1))) (lv' := [(21, .int (nI (i + 1))), (20, .int 1), (19, .int 1), (18, .int 1), (17, .int (nI j)), (16, .int ((mn_ce C G M n j) + 0)), (15, .int ((mn_cl C G M n j) + 1)), (14, .int (mn_cl C G M n n)), (13, .int (G 5)), (12, .int (G 4)), (9, .ref a9), (8, .ref a8), (7, .ref a7), (6, .ref a6), (5, .int (nI n)), (3, .int (nI t)), (2, .ref (p 0)), (1, .ref q), (0, .ref E.1.2.1)]) K dL_law_889 1 rfl (nI_1 i) (by decide) rfl ?_
                                          refine jk_goto (tgt := 837) K dL_law_892 rfl ?_
                                          refine jk_wide (n' := (cn + 50 * j + 10 + 4 * (i + 1))) (k' := (ck + 300 * j + 60 + 24 * (i + 1))) (by omega) (by omega) ?_
                                          exact ihi hli 1 (Or.inr rfl) (fun _ => rfl)
                                        · exact absurd c_846 (by decide)
                                  refine jk_ws (ws' := (sm_S E (hb_cw E q b1 b2 (hb_poC C G M n) (hb_poG C G M n) M C2 G2 M2) (Y ++ [lw_a E 0 a6 n (ar_f (lf_w C) n), lw_a E 2 a7 n (ar_f (lf_b C) n), lw_a E 2 a8 n (ar_f (lf_d C) n), lw_a E 0 a9 n (ar_f (lf_s C) n)]) p n (sm_G (hb_poG C G M n)) (sm_N (hb_poC C G M n)) (sm_M M))) lw_sw ?_
                                  refine jk_wide (n' := (cn + 50 * j + 10 + 4 * 0)) (k' := (ck + 300 * j + 60 + 24 * 0)) (by omega) (by omega) ?_
                                  refine jk_sub (lv' := [(21, .int 0), (20, .int 0), (19, .int 1), (18, .int 1), (17, .int (nI j)), (16, .int ((mn_ce C G M n j) + 0)), (15, .int ((mn_cl C G M n j) + 1)), (14, .int (mn_cl C G M n n)), (13, .int (G 5)), (12, .int (G 4)), (9, .ref a9), (8, .ref a8), (7, .ref a7), (6, .ref a6), (5, .int (nI n)), (3, .int (nI t)), (2, .ref (p 0)), (1, .ref q), (0, .ref E.1.2.1)]) [0, 1, 2, 5, 6, 3, 4, 7, 8, 9, 10, 11, 12, 13, 14, 15, 16, 17, 18] rfl ?_
                                  refine jk_lv (lv' := [(21, .int (nI 0)), (20, .int 0), (19, .int 1), (18, .int 1), (17, .int (nI j)), (16, .int ((mn_ce C G M n j) + 0)), (15, .int ((mn_cl C G M n j) + 1)), (14, .int (mn_cl C G M n n)), (13, .int (G 5)), (12, .int (G 4)), (9, .ref a9), (8, .ref a8), (7, .ref a7), (6, .ref a6), (5, .int (nI n)), (3, .int (nI t)), (2, .ref (p 0)), (1, .ref q), (0, .ref E.1.2.1)]) rfl ?_
                                  exact hI 0 (Nat.zero_le _) 0 (Or.inl rfl) (fun z => absurd z (by omega))
                              · exact absurd (by decide) c_809
                          · exact absurd c_772 (by decide)
                        · exact absurd (by decide) c_742
                    · exact absurd c_710 (by decide)
                  · exact absurd (by decide) c_681
      · refine jk_aload K dL_law_629 7 rfl ?_
        refine jk_iload K dL_law_631 0 rfl ?_
        refine jk_zald (v := 0) K dL_law_633 ((hb_cw E q b1 b2 (hb_poC C G M n) (hb_poG C G M n) M C2 G2 M2).length + (13 + n + (Y.length + 2))) (sm_yat rfl) (vp_in_nI hlt (by omega)) (by rw [nI_clamp (by omega), ar_v _ hlt, (show lf_d C j = 0 from if_neg (by rw [z5]; decide))]) ?_
        refine jk_if_eq (tgt := 650) K dL_law_634 rfl (fun c_634 => ?_) (fun c_634 => ?_)
        · refine jk_iconst (x := 0) K dL_law_650 rfl ?_
          refine jk_istore (lv' := [(18, .int 0), (17, .int (nI j)), (16, .int (mn_ce C G M n j)), (15, .int (mn_cl C G M n j)), (14, .int (mn_cl C G M n n)), (13, .int (G 5)), (12, .int (G 4)), (9, .ref a9), (8, .ref a8), (7, .ref a7), (6, .ref a6), (5, .int (nI n)), (3, .int (nI t)), (2, .ref (p 0)), (1, .ref q), (0, .ref E.1.2.1)]) K dL_law_651 (by decide) rfl ?_
          refine jk_iload K dL_law_653 3 rfl ?_
          refine jk_iload K dL_law_655 0 rfl ?_
          refine jk_if_eq (tgt := 664) K dL_law_657 rfl (fun c_657 => ?_) (fun c_657 => ?_)
          · refine jk_iconst (x := 0) K dL_law_664 rfl ?_
            refine jk_iadd K dL_law_665 ?_
            refine jk_istore (lv' := [(15, .int ((mn_cl C G M n j) + 0)), (18, .int 0), (17, .int (nI j)), (16, .int (mn_ce C G M n j)), (14, .int (mn_cl C G M n n)), (13, .int (G 5)), (12, .int (G 4)), (9, .ref a9), (8, .ref a8), (7, .ref a7), (6, .ref a6), (5, .int (nI n)), (3, .int (nI t)), (2, .ref (p 0)), (1, .ref q), (0, .ref E.1.2.1)]) K dL_law_666 (by decide) rfl ?_
            refine jk_iload K dL_law_668 3 rfl ?_
            refine jk_iload K dL_law_670 1 rfl ?_
            refine jk_if_eq (tgt := 688) K dL_law_672 rfl (fun c_672 => ?_) (fun c_672 => ?_)
            · refine jk_iconst (x := 0) K dL_law_688 rfl ?_
              refine jk_iadd K dL_law_689 ?_
              refine jk_istore (lv' := [(16, .int ((mn_ce C G M n j) + 0)), (15, .int ((mn_cl C G M n j) + 0)), (18, .int 0), (17, .int (nI j)), (14, .int (mn_cl C G M n n)), (13, .int (G 5)), (12, .int (G 4)), (9, .ref a9), (8, .ref a8), (7, .ref a7), (6, .ref a6), (5, .int (nI n)), (3, .int (nI t)), (2, .ref (p 0)), (1, .ref q), (0, .ref E.1.2.1)]) K dL_law_690 (by decide) rfl ?_
              refine jk_aload K dL_law_692 10 rfl ?_
              refine jk_iload K dL_law_694 3 rfl ?_
              refine jk_iald (v := (C j 0)) K dL_law_696 ((hb_cw E q b1 b2 (hb_poC C G M n) (hb_poG C G M n) M C2 G2 M2).length + (13 + n + (Y.length + 0))) (sm_yat rfl) (vp_in_nI hlt (by omega)) (by rw [nI_clamp (by omega), ar_v _ hlt, (show lf_w C j = C j 0 from rfl)]) ?_
              refine jk_aload_n K dL_law_697 rfl 14 rfl ?_
              refine jk_iload K dL_law_698 3 rfl ?_
              refine jk_ws (ws' := (hb_v1 E q b1 b2 (sm_SW E p n (sm_G (hb_poG C G M n)) (sm_N (hb_poC C G M n)) (sm_M M) ++ (Y ++ [lw_a E 0 a6 n (ar_f (lf_w C) n), lw_a E 2 a7 n (ar_f (lf_b C) n), lw_a E 2 a8 n (ar_f (lf_d C) n), lw_a E 0 a9 n (ar_f (lf_s C) n)])) (hb_poC C G M n) (hb_poG C G M n) M C2 G2 M2)) lw_sw.symm ?_
              refine jk_cVi K (n' := ((cn + 50 * j) + 1)) (k' := ((ck + 300 * j) + 6)) [.int (nI j)] [.int (C j 0)] dL_law_700 (lc_woodOf _ hl E q b1 b2 (sm_SW E p n (sm_G (hb_poG C G M n)) (sm_N (hb_poC C G M n)) (sm_M M) ++ (Y ++ [lw_a E 0 a6 n (ar_f (lf_w C) n), lw_a E 2 a7 n (ar_f (lf_b C) n), lw_a E 2 a8 n (ar_f (lf_d C) n), lw_a E 0 a9 n (ar_f (lf_s C) n)])) (hb_poC C G M n) (hb_poG C G M n) M C2 G2 M2 n hn hg' j hlt) gL_law_X2_woodOf rfl kd_X2_woodOf ⟨Nat.le_of_ble_eq_true rfl, Nat.le_of_ble_eq_true rfl⟩ 0 rfl rfl (Nat.le_of_ble_eq_true rfl) ⟨rfl, rfl⟩ ⟨(by show _ ≤ 600130; omega), (by show _ ≤ 7301079; omega)⟩ rfl (fun _ _ => ?_)
              refine jk_isub K dL_law_703 ?_
              refine jk_st (st' := [.int 0]) (by rw [w0, Int32.sub_self]) ?_
              refine jk_istore (lv' := [(19, .int 0), (16, .int ((mn_ce C G M n j) + 0)), (15, .int ((mn_cl C G M n j) + 0)), (18, .int 0), (17, .int (nI j)), (14, .int (mn_cl C G M n n)), (13, .int (G 5)), (12, .int (G 4)), (9, .ref a9), (8, .ref a8), (7, .ref a7), (6, .ref a6), (5, .int (nI n)), (3, .int (nI t)), (2, .ref (p 0)), (1, .ref q), (0, .ref E.1.2.1)]) K dL_law_704 (by decide) rfl ?_
              refine jk_iload K dL_law_706 0 rfl ?_
              refine jk_iload K dL_law_708 3 rfl ?_
              refine jk_if_ne (tgt := 729) K dL_law_710 rfl (fun c_710 => ?_) (fun c_710 => ?_)
              · exact absurd (by decide) c_710
              · refine jk_aload K dL_law_713 10 rfl ?_
                refine jk_iload K dL_law_715 4 rfl ?_
                refine jk_ws (ws' := (sm_S E (hb_cw E q b1 b2 (hb_poC C G M n) (hb_poG C G M n) M C2 G2 M2) (Y ++ [lw_a E 0 a6 n (ar_f (lf_w C) n), lw_a E 2 a7 n (ar_f (lf_b C) n), lw_a E 2 a8 n (ar_f (lf_d C) n), lw_a E 0 a9 n (ar_f (lf_s C) n)]) p n (sm_G (hb_poG C G M n)) (sm_N (hb_poC C G M n)) (sm_M M))) lw_sw ?_
                refine jk_zald (v := 0) K dL_law_717 ((hb_cw E q b1 b2 (hb_poC C G M n) (hb_poG C G M n) M C2 G2 M2).length + (13 + n + (Y.length + 1))) (sm_yat rfl) (vp_in_nI hlt (by omega)) (by rw [nI_clamp (by omega), ar_v _ hlt, (show lf_b C j = 0 from if_neg (by rw [z5]; decide))]) ?_
                refine jk_if_eq (tgt := 733) K dL_law_718 rfl (fun c_718 => ?_) (fun c_718 => ?_)
                · refine jk_iconst (x := 0) K dL_law_733 rfl ?_
                  refine jk_icmp_ne (tgt := 812) K dL_law_734 rfl (fun c_734 => ?_) (fun c_734 => ?_)
                  · exact absurd (by decide) c_734
                  · refine jk_aload K dL_law_737 10 rfl ?_
                    refine jk_iload K dL_law_739 4 rfl ?_
                    refine jk_zald (v := 0) K dL_law_741 ((hb_cw E q b1 b2 (hb_poC C G M n) (hb_poG C G M n) M C2 G2 M2).length + (13 + n + (Y.length + 1))) (sm_yat rfl) (vp_in_nI hlt (by omega)) (by rw [nI_clamp (by omega), ar_v _ hlt, (show lf_b C j = 0 from if_neg (by rw [z5]; decide))]) ?_
                    refine jk_if_eq (tgt := 767) K dL_law_742 rfl (fun c_742 => ?_) (fun c_742 => ?_)
                    · refine jk_aload K dL_law_767 9 rfl ?_
                      refine jk_iload K dL_law_769 4 rfl ?_
                      refine jk_zald (v := 0) K dL_law_771 ((hb_cw E q b1 b2 (hb_poC C G M n) (hb_poG C G M n) M C2 G2 M2).length + (13 + n + (Y.length + 2))) (sm_yat rfl) (vp_in_nI hlt (by omega)) (by rw [nI_clamp (by omega), ar_v _ hlt, (show lf_d C j = 0 from if_neg (by rw [z5]; decide))]) ?_
                      refine jk_if_ne (tgt := 798) K dL_law_772 rfl (fun c_772 => ?_) (fun c_772 => ?_)
                      · exact absurd (by decide) c_772
                      · refine jk_aload_n K dL_law_775 rfl 15 rfl ?_
                        refine jk_iload K dL_law_776 4 rfl ?_
                        refine jk_ws (ws' := (hb_v1 E q b1 b2 (sm_SW E p n (sm_G (hb_poG C G M n)) (sm_N (hb_poC C G M n)) (sm_M M) ++ (Y ++ [lw_a E 0 a6 n (ar_f (lf_w C) n), lw_a E 2 a7 n (ar_f (lf_b C) n), lw_a E 2 a8 n (ar_f (lf_d C) n), lw_a E 0 a9 n (ar_f (lf_s C) n)])) (hb_poC C G M n) (hb_poG C G M n) M C2 G2 M2)) lw_sw.symm ?_
                        refine jk_cVi K (n' := (((cn + 50 * j) + 1) + 1)) (k' := (((ck + 300 * j) + 6) + 6)) [.int (nI j)] [] dL_law_778 (lc_isDark _ hl E q b1 b2 (sm_SW E p n (sm_G (hb_poG C G M n)) (sm_N (hb_poC C G M n)) (sm_M M) ++ (Y ++ [lw_a E 0 a6 n (ar_f (lf_w C) n), lw_a E 2 a7 n (ar_f (lf_b C) n), lw_a E 2 a8 n (ar_f (lf_d C) n), lw_a E 0 a9 n (ar_f (lf_s C) n)])) (hb_poC C G M n) (hb_poG C G M n) M C2 G2 M2 n hn hg' j hlt) gL_law_X2_isDark rfl kd_X2_isDark ⟨Nat.le_of_ble_eq_true rfl, Nat.le_of_ble_eq_true rfl⟩ 0 rfl rfl (Nat.le_of_ble_eq_true rfl) ⟨rfl, rfl⟩ ⟨(by show _ ≤ 600130; omega), (by show _ ≤ 7301079; omega)⟩ rfl (fun _ _ => ?_)
                        refine jk_st (st' := [.int 0]) (by rw [if_neg y5]) ?_
                        refine jk_if_ne (tgt := 798) K dL_law_781 rfl (fun c_781 => ?_) (fun c_781 => ?_)
                        · exact absurd (by decide) c_781
                        · refine jk_aload_n K dL_law_784 rfl 15 rfl ?_
                          refine jk_iload K dL_law_785 4 rfl ?_
                          refine jk_cVi K (n' := ((((cn + 50 * j) + 1) + 1) + 2)) (k' := ((((ck + 300 * j) + 6) + 6) + 12)) [.int (nI j)] [] dL_law_787 (lc_sourceOf _ hl E q b1 b2 (sm_SW E p n (sm_G (hb_poG C G M n)) (sm_N (hb_poC C G M n)) (sm_M M) ++ (Y ++ [lw_a E 0 a6 n (ar_f (lf_w C) n), lw_a E 2 a7 n (ar_f (lf_b C) n), lw_a E 2 a8 n (ar_f (lf_d C) n), lw_a E 0 a9 n (ar_f (lf_s C) n)])) (hb_poC C G M n) (hb_poG C G M n) M C2 G2 M2 n hn hg' j hlt y5) gL_law_X2_sourceOf rfl kd_X2_sourceOf ⟨Nat.le_of_ble_eq_true rfl, Nat.le_of_ble_eq_true rfl⟩ 0 rfl rfl (Nat.le_of_ble_eq_true rfl) ⟨rfl, rfl⟩ ⟨(by show _ ≤ 600130; omega), (by show _ ≤ 7301079; omega)⟩ rfl (fun _ _ => ?_)
                          refine jk_aload K dL_law_790 8 rfl ?_
                          refine jk_iload K dL_law_792 4 rfl ?_
                          refine jk_ws (ws' := (sm_S E (hb_cw E q b1 b2 (hb_poC C G M n) (hb_poG C G M n) M C2 G2 M2) (Y ++ [lw_a E 0 a6 n (ar_f (lf_w C) n), lw_a E 2 a7 n (ar_f (lf_b C) n), lw_a E 2 a8 n (ar_f (lf_d C) n), lw_a E 0 a9 n (ar_f (lf_s C) n)]) p n (sm_G (hb_poG C G M n)) (sm_N (hb_poC C G M n)) (sm_M M))) lw_sw ?_
                          refine jk_iald (v := (C j 9)) K dL_law_794 ((hb_cw E q b1 b2 (hb_poC C G M n) (hb_poG C G M n) M C2 G2 M2).length + (13 + n + (Y.length + 3))) (sm_yat rfl) (vp_in_nI hlt (by omega)) (by rw [nI_clamp (by omega), ar_v _ hlt, (show lf_s C j = C j 9 from if_neg (by rw [z5]; decide))]) ?_
                          refine jk_icmp_ne_F (tgt := 812) K dL_law_795 rfl w9 ?_
                          refine jk_iload K dL_law_798 3 rfl ?_
                          refine jk_if_eq (tgt := 814) K dL_law_800 rfl (fun c_800 => ?_) (fun c_800 => ?_)
                          · refine jk_iload K dL_law_814 3 rfl ?_
                            refine jk_if_eq (tgt := 902) K dL_law_816 rfl (fun c_816 => ?_) (fun c_816 => ?_)
                            · refine jk_iinc (v := (nI (j + 1))) (lv' := [(17, .int (nI (j + 1))), (19, .int 0), (16, .int ((mn_ce C G M n j) + 0)), (15, .int ((mn_cl C G M n j) + 0)), (18, .int 0), (14, .int (mn_cl C G M n n)), (13, .int (G 5)), (12, .int (G 4)), (9, .ref a9), (8, .ref a8), (7, .ref a7), (6, .ref a6), (5, .int (nI n)), (3, .int (nI t)), (2, .ref (p 0)), (1, .ref q), (0, .ref E.1.2.1)]) K dL_law_902 4 rfl (nI_1 j) (by decide) rfl ?_
                              refine jk_goto (tgt := 622) K dL_law_905 rfl ?_
                              refine jk_wide (n' := (cn + 50 * (j + 1))) (k' := (ck + 300 * (j + 1))) (by omega) (by omega) ?_
                              refine jk_sub (lv' := [(17, .int (nI (j + 1))), (16, .int ((mn_ce C G M n j) + 0)), (15, .int ((mn_cl C G M n j) + 0)), (14, .int (mn_cl C G M n n)), (13, .int (G 5)), (12, .int (G 4)), (9, .ref a9), (8, .ref a8), (7, .ref a7), (6, .ref a6), (5, .int (nI n)), (3, .int (nI t)), (2, .ref (p 0)), (1, .ref q), (0, .ref E.1.2.1)]) [0, 2, 3, 5, 6, 7, 8, 9, 10, 11, 12, 13, 14, 15, 16] rfl ?_
                              refine jk_lv (lv' := [(17, .int (nI (j + 1))), (16, .int (mn_ce C G M n (j + 1))), (15, .int (mn_cl C G M n (j + 1))), (14, .int (mn_cl C G M n n)), (13, .int (G 5)), (12, .int (G 4)), (9, .ref a9), (8, .ref a8), (7, .ref a7), (6, .ref a6), (5, .int (nI n)), (3, .int (nI t)), (2, .ref (p 0)), (1, .ref q), (0, .ref E.1.2.1)]) (by rw [mn_ce_s, mn_cl_s, ht, (show mn_e C G M n j = 0 by unfold mn_e; rw [if_pos ht])]) ?_
                              exact ih hlt
                            · exact absurd (by decide) c_816
                          · exact absurd (by decide) c_800
                    · exact absurd (by decide) c_742
                · exact absurd (by decide) c_718
            · exact absurd (by decide) c_672
          · exact absurd (by decide) c_657
        · exact absurd (by decide) c_634
      · refine jk_aload K dL_law_629 7 rfl ?_
        refine jk_iload K dL_law_631 0 rfl ?_
        refine jk_zald (v := 0) K dL_law_633 ((hb_cw E q b1 b2 (hb_poC C G M n) (hb_poG C G M n) M C2 G2 M2).length + (13 + n + (Y.length + 2))) (sm_yat rfl) (vp_in_nI hlt (by omega)) (by rw [nI_clamp (by omega), ar_v _ hlt, (show lf_d C j = 0 from if_neg (by rw [z5]; decide))]) ?_
        refine jk_if_eq (tgt := 650) K dL_law_634 rfl (fun c_634 => ?_) (fun c_634 => ?_)
        · refine jk_iconst (x := 0) K dL_law_650 rfl ?_
          refine jk_istore (lv' := [(18, .int 0), (17, .int (nI j)), (16, .int (mn_ce C G M n j)), (15, .int (mn_cl C G M n j)), (14, .int (mn_cl C G M n n)), (13, .int (G 5)), (12, .int (G 4)), (9, .ref a9), (8, .ref a8), (7, .ref a7), (6, .ref a6), (5, .int (nI n)), (3, .int (nI t)), (2, .ref (p 0)), (1, .ref q), (0, .ref E.1.2.1)]) K dL_law_651 (by decide) rfl ?_
          refine jk_iload K dL_law_653 3 rfl ?_
          refine jk_iload K dL_law_655 0 rfl ?_
          refine jk_if_eq (tgt := 664) K dL_law_657 rfl (fun c_657 => ?_) (fun c_657 => ?_)
          · refine jk_iconst (x := 0) K dL_law_664 rfl ?_
            refine jk_iadd K dL_law_665 ?_
            refine jk_istore (lv' := [(15, .int ((mn_cl C G M n j) + 0)), (18, .int 0), (17, .int (nI j)), (16, .int (mn_ce C G M n j)), (14, .int (mn_cl C G M n n)), (13, .int (G 5)), (12, .int (G 4)), (9, .ref a9), (8, .ref a8), (7, .ref a7), (6, .ref a6), (5, .int (nI n)), (3, .int (nI t)), (2, .ref (p 0)), (1, .ref q), (0, .ref E.1.2.1)]) K dL_law_666 (by decide) rfl ?_
            refine jk_iload K dL_law_668 3 rfl ?_
            refine jk_iload K dL_law_670 1 rfl ?_
            refine jk_if_eq (tgt := 688) K dL_law_672 rfl (fun c_672 => ?_) (fun c_672 => ?_)
            · refine jk_iconst (x := 0) K dL_law_688 rfl ?_
              refine jk_iadd K dL_law_689 ?_
              refine jk_istore (lv' := [(16, .int ((mn_ce C G M n j) + 0)), (15, .int ((mn_cl C G M n j) + 0)), (18, .int 0), (17, .int (nI j)), (14, .int (mn_cl C G M n n)), (13, .int (G 5)), (12, .int (G 4)), (9, .ref a9), (8, .ref a8), (7, .ref a7), (6, .ref a6), (5, .int (nI n)), (3, .int (nI t)), (2, .ref (p 0)), (1, .ref q), (0, .ref E.1.2.1)]) K dL_law_690 (by decide) rfl ?_
              refine jk_aload K dL_law_692 10 rfl ?_
              refine jk_iload K dL_law_694 3 rfl ?_
              refine jk_iald (v := (nI (k0 + 1))) K dL_law_696 ((hb_cw E q b1 b2 (hb_poC C G M n) (hb_poG C G M n) M C2 G2 M2).length + (13 + n + (Y.length + 0))) (sm_yat rfl) (vp_in_nI hlt (by omega)) (by rw [nI_clamp (by omega), ar_v _ hlt, (show lf_w C j = nI (k0 + 1) from w0)]) ?_
              refine jk_aload_n K dL_law_697 rfl 14 rfl ?_
              refine jk_iload K dL_law_698 3 rfl ?_
              refine jk_ws (ws' := (hb_v1 E q b1 b2 (sm_SW E p n (sm_G (hb_poG C G M n)) (sm_N (hb_poC C G M n)) (sm_M M) ++ (Y ++ [lw_a E 0 a6 n (ar_f (lf_w C) n), lw_a E 2 a7 n (ar_f (lf_b C) n), lw_a E 2 a8 n (ar_f (lf_d C) n), lw_a E 0 a9 n (ar_f (lf_s C) n)])) (hb_poC C G M n) (hb_poG C G M n) M C2 G2 M2)) lw_sw.symm ?_
              refine jk_cVi K (n' := ((cn + 50 * j) + 1)) (k' := ((ck + 300 * j) + 6)) [.int (nI j)] [.int (nI (k0 + 1))] dL_law_700 (lc_woodOf _ hl E q b1 b2 (sm_SW E p n (sm_G (hb_poG C G M n)) (sm_N (hb_poC C G M n)) (sm_M M) ++ (Y ++ [lw_a E 0 a6 n (ar_f (lf_w C) n), lw_a E 2 a7 n (ar_f (lf_b C) n), lw_a E 2 a8 n (ar_f (lf_d C) n), lw_a E 0 a9 n (ar_f (lf_s C) n)])) (hb_poC C G M n) (hb_poG C G M n) M C2 G2 M2 n hn hg' j hlt) gL_law_X2_woodOf rfl kd_X2_woodOf ⟨Nat.le_of_ble_eq_true rfl, Nat.le_of_ble_eq_true rfl⟩ 0 rfl rfl (Nat.le_of_ble_eq_true rfl) ⟨rfl, rfl⟩ ⟨(by show _ ≤ 600130; omega), (by show _ ≤ 7301079; omega)⟩ rfl (fun _ _ => ?_)
              refine jk_isub K dL_law_703 ?_
              refine jk_st (st' := [.int 1]) (by rw [w1]; rw [nI_one]) ?_
              refine jk_istore (lv' := [(19, .int 1), (16, .int ((mn_ce C G M n j) + 0)), (15, .int ((mn_cl C G M n j) + 0)), (18, .int 0), (17, .int (nI j)), (14, .int (mn_cl C G M n n)), (13, .int (G 5)), (12, .int (G 4)), (9, .ref a9), (8, .ref a8), (7, .ref a7), (6, .ref a6), (5, .int (nI n)), (3, .int (nI t)), (2, .ref (p 0)), (1, .ref q), (0, .ref E.1.2.1)]) K dL_law_704 (by decide) rfl ?_
              refine jk_iload K dL_law_706 0 rfl ?_
              refine jk_iload K dL_law_708 3 rfl ?_
              refine jk_if_ne (tgt := 729) K dL_law_710 rfl (fun c_710 => ?_) (fun c_710 => ?_)
              · exact absurd (by decide) c_710
              · refine jk_aload K dL_law_713 10 rfl ?_
                refine jk_iload K dL_law_715 4 rfl ?_
                refine jk_ws (ws' := (sm_S E (hb_cw E q b1 b2 (hb_poC C G M n) (hb_poG C G M n) M C2 G2 M2) (Y ++ [lw_a E 0 a6 n (ar_f (lf_w C) n), lw_a E 2 a7 n (ar_f (lf_b C) n), lw_a E 2 a8 n (ar_f (lf_d C) n), lw_a E 0 a9 n (ar_f (lf_s C) n)]) p n (sm_G (hb_poG C G M n)) (sm_N (hb_poC C G M n)) (sm_M M))) lw_sw ?_
                refine jk_zald (v := 1) K dL_law_717 ((hb_cw E q b1 b2 (hb_poC C G M n) (hb_poG C G M n) M C2 G2 M2).length + (13 + n + (Y.length + 1))) (sm_yat rfl) (vp_in_nI hlt (by omega)) (by rw [nI_clamp (by omega), ar_v _ hlt, (show lf_b C j = 1 from if_pos z5)]) ?_
                refine jk_if_eq (tgt := 733) K dL_law_718 rfl (fun c_718 => ?_) (fun c_718 => ?_)
                · exact absurd c_718 (by decide)
                · refine jk_aload K dL_law_721 11 rfl ?_
                  refine jk_iload K dL_law_723 4 rfl ?_
                  refine jk_iald (v := (nI (k0 + 1))) K dL_law_725 ((hb_cw E q b1 b2 (hb_poC C G M n) (hb_poG C G M n) M C2 G2 M2).length + (13 + n + (Y.length + 0))) (sm_yat rfl) (vp_in_nI hlt (by omega)) (by rw [nI_clamp (by omega), ar_v _ hlt, (show lf_w C j = nI (k0 + 1) from w0)]) ?_
                  refine jk_if_le_F (tgt := 733) K dL_law_726 rfl (fun z => by have z9 := (nI_leI (a := k0 + 1) (b := 0) (by omega) (by omega)).mp z; omega) ?_
                  refine jk_iconst (x := 1) K dL_law_729 rfl ?_
                  refine jk_goto (tgt := 734) K dL_law_730 rfl ?_
                  refine jk_icmp_ne (tgt := 812) K dL_law_734 rfl (fun c_734 => ?_) (fun c_734 => ?_)
                  · exact absurd (by decide) c_734
                  · refine jk_aload K dL_law_737 10 rfl ?_
                    refine jk_iload K dL_law_739 4 rfl ?_
                    refine jk_zald (v := 1) K dL_law_741 ((hb_cw E q b1 b2 (hb_poC C G M n) (hb_poG C G M n) M C2 G2 M2).length + (13 + n + (Y.length + 1))) (sm_yat rfl) (vp_in_nI hlt (by omega)) (by rw [nI_clamp (by omega), ar_v _ hlt, (show lf_b C j = 1 from if_pos z5)]) ?_
                    refine jk_if_eq (tgt := 767) K dL_law_742 rfl (fun c_742 => ?_) (fun c_742 => ?_)
                    · exact absurd c_742 (by decide)
                    · refine jk_aload_n K dL_law_745 rfl 15 rfl ?_
                      refine jk_iload K dL_law_746 4 rfl ?_
                      refine jk_ws (ws' := (hb_v1 E q b1 b2 (sm_SW E p n (sm_G (hb_poG C G M n)) (sm_N (hb_poC C G M n)) (sm_M M) ++ (Y ++ [lw_a E 0 a6 n (ar_f (lf_w C) n), lw_a E 2 a7 n (ar_f (lf_b C) n), lw_a E 2 a8 n (ar_f (lf_d C) n), lw_a E 0 a9 n (ar_f (lf_s C) n)])) (hb_poC C G M n) (hb_poG C G M n) M C2 G2 M2)) lw_sw.symm ?_
                      refine jk_cVi K (n' := (((cn + 50 * j) + 1) + 1)) (k' := (((ck + 300 * j) + 6) + 6)) [.int (nI j)] [] dL_law_748 (lc_isDark _ hl E q b1 b2 (sm_SW E p n (sm_G (hb_poG C G M n)) (sm_N (hb_poC C G M n)) (sm_M M) ++ (Y ++ [lw_a E 0 a6 n (ar_f (lf_w C) n), lw_a E 2 a7 n (ar_f (lf_b C) n), lw_a E 2 a8 n (ar_f (lf_d C) n), lw_a E 0 a9 n (ar_f (lf_s C) n)])) (hb_poC C G M n) (hb_poG C G M n) M C2 G2 M2 n hn hg' j hlt) gL_law_X2_isDark rfl kd_X2_isDark ⟨Nat.le_of_ble_eq_true rfl, Nat.le_of_ble_eq_true rfl⟩ 0 rfl rfl (Nat.le_of_ble_eq_true rfl) ⟨rfl, rfl⟩ ⟨(by show _ ≤ 600130; omega), (by show _ ≤ 7301079; omega)⟩ rfl (fun _ _ => ?_)
                      refine jk_st (st' := [.int 0]) (by rw [if_neg y5]) ?_
                      refine jk_aload K dL_law_751 11 rfl ?_
                      refine jk_iload K dL_law_753 4 rfl ?_
                      refine jk_ws (ws' := (sm_S E (hb_cw E q b1 b2 (hb_poC C G M n) (hb_poG C G M n) M C2 G2 M2) (Y ++ [lw_a E 0 a6 n (ar_f (lf_w C) n), lw_a E 2 a7 n (ar_f (lf_b C) n), lw_a E 2 a8 n (ar_f (lf_d C) n), lw_a E 0 a9 n (ar_f (lf_s C) n)]) p n (sm_G (hb_poG C G M n)) (sm_N (hb_poC C G M n)) (sm_M M))) lw_sw ?_
                      refine jk_iald (v := (nI (k0 + 1))) K dL_law_755 ((hb_cw E q b1 b2 (hb_poC C G M n) (hb_poG C G M n) M C2 G2 M2).length + (13 + n + (Y.length + 0))) (sm_yat rfl) (vp_in_nI hlt (by omega)) (by rw [nI_clamp (by omega), ar_v _ hlt, (show lf_w C j = nI (k0 + 1) from w0)]) ?_
                      refine jk_if_ne_T (tgt := 763) K dL_law_756 rfl (nI_ne0 (by omega) (by omega)) ?_
                      refine jk_iconst (x := 0) K dL_law_763 rfl ?_
                      refine jk_icmp_ne (tgt := 812) K dL_law_764 rfl (fun c_764 => ?_) (fun c_764 => ?_)
                      · exact absurd (by decide) c_764
                      · refine jk_aload K dL_law_767 9 rfl ?_
                        refine jk_iload K dL_law_769 4 rfl ?_
                        refine jk_zald (v := 0) K dL_law_771 ((hb_cw E q b1 b2 (hb_poC C G M n) (hb_poG C G M n) M C2 G2 M2).length + (13 + n + (Y.length + 2))) (sm_yat rfl) (vp_in_nI hlt (by omega)) (by rw [nI_clamp (by omega), ar_v _ hlt, (show lf_d C j = 0 from if_neg (by rw [z5]; decide))]) ?_
                        refine jk_if_ne (tgt := 798) K dL_law_772 rfl (fun c_772 => ?_) (fun c_772 => ?_)
                        · exact absurd (by decide) c_772
                        · refine jk_aload_n K dL_law_775 rfl 15 rfl ?_
                          refine jk_iload K dL_law_776 4 rfl ?_
                          refine jk_ws (ws' := (hb_v1 E q b1 b2 (sm_SW E p n (sm_G (hb_poG C G M n)) (sm_N (hb_poC C G M n)) (sm_M M) ++ (Y ++ [lw_a E 0 a6 n (ar_f (lf_w C) n), lw_a E 2 a7 n (ar_f (lf_b C) n), lw_a E 2 a8 n (ar_f (lf_d C) n), lw_a E 0 a9 n (ar_f (lf_s C) n)])) (hb_poC C G M n) (hb_poG C G M n) M C2 G2 M2)) lw_sw.symm ?_
                          refine jk_cVi K (n' := ((((cn + 50 * j) + 1) + 1) + 1)) (k' := ((((ck + 300 * j) + 6) + 6) + 6)) [.int (nI j)] [] dL_law_778 (lc_isDark _ hl E q b1 b2 (sm_SW E p n (sm_G (hb_poG C G M n)) (sm_N (hb_poC C G M n)) (sm_M M) ++ (Y ++ [lw_a E 0 a6 n (ar_f (lf_w C) n), lw_a E 2 a7 n (ar_f (lf_b C) n), lw_a E 2 a8 n (ar_f (lf_d C) n), lw_a E 0 a9 n (ar_f (lf_s C) n)])) (hb_poC C G M n) (hb_poG C G M n) M C2 G2 M2 n hn hg' j hlt) gL_law_X2_isDark rfl kd_X2_isDark ⟨Nat.le_of_ble_eq_true rfl, Nat.le_of_ble_eq_true rfl⟩ 0 rfl rfl (Nat.le_of_ble_eq_true rfl) ⟨rfl, rfl⟩ ⟨(by show _ ≤ 600130; omega), (by show _ ≤ 7301079; omega)⟩ rfl (fun _ _ => ?_)
                          refine jk_st (st' := [.int 0]) (by rw [if_neg y5]) ?_
                          refine jk_if_ne (tgt := 798) K dL_law_781 rfl (fun c_781 => ?_) (fun c_781 => ?_)
                          · exact absurd (by decide) c_781
                          · refine jk_aload_n K dL_law_784 rfl 15 rfl ?_
                            refine jk_iload K dL_law_785 4 rfl ?_
                            refine jk_cVi K (n' := (((((cn + 50 * j) + 1) + 1) + 1) + 2)) (k' := (((((ck + 300 * j) + 6) + 6) + 6) + 12)) [.int (nI j)] [] dL_law_787 (lc_sourceOf _ hl E q b1 b2 (sm_SW E p n (sm_G (hb_poG C G M n)) (sm_N (hb_poC C G M n)) (sm_M M) ++ (Y ++ [lw_a E 0 a6 n (ar_f (lf_w C) n), lw_a E 2 a7 n (ar_f (lf_b C) n), lw_a E 2 a8 n (ar_f (lf_d C) n), lw_a E 0 a9 n (ar_f (lf_s C) n)])) (hb_poC C G M n) (hb_poG C G M n) M C2 G2 M2 n hn hg' j hlt y5) gL_law_X2_sourceOf rfl kd_X2_sourceOf ⟨Nat.le_of_ble_eq_true rfl, Nat.le_of_ble_eq_true rfl⟩ 0 rfl rfl (Nat.le_of_ble_eq_true rfl) ⟨rfl, rfl⟩ ⟨(by show _ ≤ 600130; omega), (by show _ ≤ 7301079; omega)⟩ rfl (fun _ _ => ?_)
                            refine jk_aload K dL_law_790 8 rfl ?_
                            refine jk_iload K dL_law_792 4 rfl ?_
                            refine jk_ws (ws' := (sm_S E (hb_cw E q b1 b2 (hb_poC C G M n) (hb_poG C G M n) M C2 G2 M2) (Y ++ [lw_a E 0 a6 n (ar_f (lf_w C) n), lw_a E 2 a7 n (ar_f (lf_b C) n), lw_a E 2 a8 n (ar_f (lf_d C) n), lw_a E 0 a9 n (ar_f (lf_s C) n)]) p n (sm_G (hb_poG C G M n)) (sm_N (hb_poC C G M n)) (sm_M M))) lw_sw ?_
                            refine jk_iald (v := (C j 9)) K dL_law_794 ((hb_cw E q b1 b2 (hb_poC C G M n) (hb_poG C G M n) M C2 G2 M2).length + (13 + n + (Y.length + 3))) (sm_yat rfl) (vp_in_nI hlt (by omega)) (by rw [nI_clamp (by omega), ar_v _ hlt, (show lf_s C j = C j 9 from if_neg (by rw [z5]; decide))]) ?_
                            refine jk_icmp_ne_F (tgt := 812) K dL_law_795 rfl w9 ?_
                            refine jk_iload K dL_law_798 3 rfl ?_
                            refine jk_if_eq (tgt := 814) K dL_law_800 rfl (fun c_800 => ?_) (fun c_800 => ?_)
                            · refine jk_iload K dL_law_814 3 rfl ?_
                              refine jk_if_eq (tgt := 902) K dL_law_816 rfl (fun c_816 => ?_) (fun c_816 => ?_)
                              · refine jk_iinc (v := (nI (j + 1))) (lv' := [(17, .int (nI (j + 1))), (19, .int 1), (16, .int ((mn_ce C G M n j) + 0)), (15, .int ((mn_cl C G M n j) + 0)), (18, .int 0), (14, .int (mn_cl C G M n n)), (13, .int (G 5)), (12, .int (G 4)), (9, .ref a9), (8, .ref a8), (7, .ref a7), (6, .ref a6), (5, .int (nI n)), (3, .int (nI t)), (2, .ref (p 0)), (1, .ref q), (0, .ref E.1.2.1)]) K dL_law_902 4 rfl (nI_1 j) (by decide) rfl ?_
                                refine jk_goto (tgt := 622) K dL_law_905 rfl ?_
                                refine jk_wide (n' := (cn + 50 * (j + 1))) (k' := (ck + 300 * (j + 1))) (by omega) (by omega) ?_
                                refine jk_sub (lv' := [(17, .int (nI (j + 1))), (16, .int ((mn_ce C G M n j) + 0)), (15, .int ((mn_cl C G M n j) + 0)), (14, .int (mn_cl C G M n n)), (13, .int (G 5)), (12, .int (G 4)), (9, .ref a9), (8, .ref a8), (7, .ref a7), (6, .ref a6), (5, .int (nI n)), (3, .int (nI t)), (2, .ref (p 0)), (1, .ref q), (0, .ref E.1.2.1)]) [0, 2, 3, 5, 6, 7, 8, 9, 10, 11, 12, 13, 14, 15, 16] rfl ?_
                                refine jk_lv (lv' := [(17, .int (nI (j + 1))), (16, .int (mn_ce C G M n (j + 1))), (15, .int (mn_cl C G M n (j + 1))), (14, .int (mn_cl C G M n n)), (13, .int (G 5)), (12, .int (G 4)), (9, .ref a9), (8, .ref a8), (7, .ref a7), (6, .ref a6), (5, .int (nI n)), (3, .int (nI t)), (2, .ref (p 0)), (1, .ref q), (0, .ref E.1.2.1)]) (by rw [mn_ce_s, mn_cl_s, ht, (show mn_e C G M n j = 0 by unfold mn_e; rw [if_pos ht])]) ?_
                                exact ih hlt
                              · exact absurd (by decide) c_816
                            · exact absurd (by decide) c_800
            · exact absurd (by decide) c_672
          · exact absurd (by decide) c_657
        · exact absurd (by decide) c_634
      · refine jk_aload K dL_law_629 7 rfl ?_
        refine jk_iload K dL_law_631 0 rfl ?_
        refine jk_zald (v := 0) K dL_law_633 ((hb_cw E q b1 b2 (hb_poC C G M n) (hb_poG C G M n) M C2 G2 M2).length + (13 + n + (Y.length + 2))) (sm_yat rfl) (vp_in_nI hlt (by omega)) (by rw [nI_clamp (by omega), ar_v _ hlt, (show lf_d C j = 0 from if_neg (by rw [z5]; decide))]) ?_
        refine jk_if_eq (tgt := 650) K dL_law_634 rfl (fun c_634 => ?_) (fun c_634 => ?_)
        · refine jk_iconst (x := 0) K dL_law_650 rfl ?_
          refine jk_istore (lv' := [(18, .int 0), (17, .int (nI j)), (16, .int (mn_ce C G M n j)), (15, .int (mn_cl C G M n j)), (14, .int (mn_cl C G M n n)), (13, .int (G 5)), (12, .int (G 4)), (9, .ref a9), (8, .ref a8), (7, .ref a7), (6, .ref a6), (5, .int (nI n)), (3, .int (nI t)), (2, .ref (p 0)), (1, .ref q), (0, .ref E.1.2.1)]) K dL_law_651 (by decide) rfl ?_
          refine jk_iload K dL_law_653 3 rfl ?_
          refine jk_iload K dL_law_655 0 rfl ?_
          refine jk_if_eq (tgt := 664) K dL_law_657 rfl (fun c_657 => ?_) (fun c_657 => ?_)
          · refine jk_iconst (x := 0) K dL_law_664 rfl ?_
            refine jk_iadd K dL_law_665 ?_
            refine jk_istore (lv' := [(15, .int ((mn_cl C G M n j) + 0)), (18, .int 0), (17, .int (nI j)), (16, .int (mn_ce C G M n j)), (14, .int (mn_cl C G M n n)), (13, .int (G 5)), (12, .int (G 4)), (9, .ref a9), (8, .ref a8), (7, .ref a7), (6, .ref a6), (5, .int (nI n)), (3, .int (nI t)), (2, .ref (p 0)), (1, .ref q), (0, .ref E.1.2.1)]) K dL_law_666 (by decide) rfl ?_
            refine jk_iload K dL_law_668 3 rfl ?_
            refine jk_iload K dL_law_670 1 rfl ?_
            refine jk_if_eq (tgt := 688) K dL_law_672 rfl (fun c_672 => ?_) (fun c_672 => ?_)
            · refine jk_iconst (x := 0) K dL_law_688 rfl ?_
              refine jk_iadd K dL_law_689 ?_
              refine jk_istore (lv' := [(16, .int ((mn_ce C G M n j) + 0)), (15, .int ((mn_cl C G M n j) + 0)), (18, .int 0), (17, .int (nI j)), (14, .int (mn_cl C G M n n)), (13, .int (G 5)), (12, .int (G 4)), (9, .ref a9), (8, .ref a8), (7, .ref a7), (6, .ref a6), (5, .int (nI n)), (3, .int (nI t)), (2, .ref (p 0)), (1, .ref q), (0, .ref E.1.2.1)]) K dL_law_690 (by decide) rfl ?_
              refine jk_aload K dL_law_692 10 rfl ?_
              refine jk_iload K dL_law_694 3 rfl ?_
              refine jk_iald (v := 0) K dL_law_696 ((hb_cw E q b1 b2 (hb_poC C G M n) (hb_poG C G M n) M C2 G2 M2).length + (13 + n + (Y.length + 0))) (sm_yat rfl) (vp_in_nI hlt (by omega)) (by rw [nI_clamp (by omega), ar_v _ hlt, (show lf_w C j = 0 from w0)]) ?_
              refine jk_aload_n K dL_law_697 rfl 14 rfl ?_
              refine jk_iload K dL_law_698 3 rfl ?_
              refine jk_ws (ws' := (hb_v1 E q b1 b2 (sm_SW E p n (sm_G (hb_poG C G M n)) (sm_N (hb_poC C G M n)) (sm_M M) ++ (Y ++ [lw_a E 0 a6 n (ar_f (lf_w C) n), lw_a E 2 a7 n (ar_f (lf_b C) n), lw_a E 2 a8 n (ar_f (lf_d C) n), lw_a E 0 a9 n (ar_f (lf_s C) n)])) (hb_poC C G M n) (hb_poG C G M n) M C2 G2 M2)) lw_sw.symm ?_
              refine jk_cVi K (n' := ((cn + 50 * j) + 1)) (k' := ((ck + 300 * j) + 6)) [.int (nI j)] [.int 0] dL_law_700 (lc_woodOf _ hl E q b1 b2 (sm_SW E p n (sm_G (hb_poG C G M n)) (sm_N (hb_poC C G M n)) (sm_M M) ++ (Y ++ [lw_a E 0 a6 n (ar_f (lf_w C) n), lw_a E 2 a7 n (ar_f (lf_b C) n), lw_a E 2 a8 n (ar_f (lf_d C) n), lw_a E 0 a9 n (ar_f (lf_s C) n)])) (hb_poC C G M n) (hb_poG C G M n) M C2 G2 M2 n hn hg' j hlt) gL_law_X2_woodOf rfl kd_X2_woodOf ⟨Nat.le_of_ble_eq_true rfl, Nat.le_of_ble_eq_true rfl⟩ 0 rfl rfl (Nat.le_of_ble_eq_true rfl) ⟨rfl, rfl⟩ ⟨(by show _ ≤ 600130; omega), (by show _ ≤ 7301079; omega)⟩ rfl (fun _ _ => ?_)
              refine jk_isub K dL_law_703 ?_
              refine jk_st (st' := [.int 0]) (by rw [w1]; rfl) ?_
              refine jk_istore (lv' := [(19, .int 0), (16, .int ((mn_ce C G M n j) + 0)), (15, .int ((mn_cl C G M n j) + 0)), (18, .int 0), (17, .int (nI j)), (14, .int (mn_cl C G M n n)), (13, .int (G 5)), (12, .int (G 4)), (9, .ref a9), (8, .ref a8), (7, .ref a7), (6, .ref a6), (5, .int (nI n)), (3, .int (nI t)), (2, .ref (p 0)), (1, .ref q), (0, .ref E.1.2.1)]) K dL_law_704 (by decide) rfl ?_
              refine jk_iload K dL_law_706 0 rfl ?_
              refine jk_iload K dL_law_708 3 rfl ?_
              refine jk_if_ne (tgt := 729) K dL_law_710 rfl (fun c_710 => ?_) (fun c_710 => ?_)
              · exact absurd (by decide) c_710
              · refine jk_aload K dL_law_713 10 rfl ?_
                refine jk_iload K dL_law_715 4 rfl ?_
                refine jk_ws (ws' := (sm_S E (hb_cw E q b1 b2 (hb_poC C G M n) (hb_poG C G M n) M C2 G2 M2) (Y ++ [lw_a E 0 a6 n (ar_f (lf_w C) n), lw_a E 2 a7 n (ar_f (lf_b C) n), lw_a E 2 a8 n (ar_f (lf_d C) n), lw_a E 0 a9 n (ar_f (lf_s C) n)]) p n (sm_G (hb_poG C G M n)) (sm_N (hb_poC C G M n)) (sm_M M))) lw_sw ?_
                refine jk_zald (v := 1) K dL_law_717 ((hb_cw E q b1 b2 (hb_poC C G M n) (hb_poG C G M n) M C2 G2 M2).length + (13 + n + (Y.length + 1))) (sm_yat rfl) (vp_in_nI hlt (by omega)) (by rw [nI_clamp (by omega), ar_v _ hlt, (show lf_b C j = 1 from if_pos z5)]) ?_
                refine jk_if_eq (tgt := 733) K dL_law_718 rfl (fun c_718 => ?_) (fun c_718 => ?_)
                · exact absurd c_718 (by decide)
                · refine jk_aload K dL_law_721 11 rfl ?_
                  refine jk_iload K dL_law_723 4 rfl ?_
                  refine jk_iald (v := 0) K dL_law_725 ((hb_cw E q b1 b2 (hb_poC C G M n) (hb_poG C G M n) M C2 G2 M2).length + (13 + n + (Y.length + 0))) (sm_yat rfl) (vp_in_nI hlt (by omega)) (by rw [nI_clamp (by omega), ar_v _ hlt, (show lf_w C j = 0 from w0)]) ?_
                  refine jk_if_le (tgt := 733) K dL_law_726 rfl (fun c_726 => ?_) (fun c_726 => ?_)
                  · refine jk_iconst (x := 0) K dL_law_733 rfl ?_
                    refine jk_icmp_ne (tgt := 812) K dL_law_734 rfl (fun c_734 => ?_) (fun c_734 => ?_)
                    · exact absurd (by decide) c_734
                    · refine jk_aload K dL_law_737 10 rfl ?_
                      refine jk_iload K dL_law_739 4 rfl ?_
                      refine jk_zald (v := 1) K dL_law_741 ((hb_cw E q b1 b2 (hb_poC C G M n) (hb_poG C G M n) M C2 G2 M2).length + (13 + n + (Y.length + 1))) (sm_yat rfl) (vp_in_nI hlt (by omega)) (by rw [nI_clamp (by omega), ar_v _ hlt, (show lf_b C j = 1 from if_pos z5)]) ?_
                      refine jk_if_eq (tgt := 767) K dL_law_742 rfl (fun c_742 => ?_) (fun c_742 => ?_)
                      · exact absurd c_742 (by decide)
                      · refine jk_aload_n K dL_law_745 rfl 15 rfl ?_
                        refine jk_iload K dL_law_746 4 rfl ?_
                        refine jk_ws (ws' := (hb_v1 E q b1 b2 (sm_SW E p n (sm_G (hb_poG C G M n)) (sm_N (hb_poC C G M n)) (sm_M M) ++ (Y ++ [lw_a E 0 a6 n (ar_f (lf_w C) n), lw_a E 2 a7 n (ar_f (lf_b C) n), lw_a E 2 a8 n (ar_f (lf_d C) n), lw_a E 0 a9 n (ar_f (lf_s C) n)])) (hb_poC C G M n) (hb_poG C G M n) M C2 G2 M2)) lw_sw.symm ?_
                        refine jk_cVi K (n' := (((cn + 50 * j) + 1) + 1)) (k' := (((ck + 300 * j) + 6) + 6)) [.int (nI j)] [] dL_law_748 (lc_isDark _ hl E q b1 b2 (sm_SW E p n (sm_G (hb_poG C G M n)) (sm_N (hb_poC C G M n)) (sm_M M) ++ (Y ++ [lw_a E 0 a6 n (ar_f (lf_w C) n), lw_a E 2 a7 n (ar_f (lf_b C) n), lw_a E 2 a8 n (ar_f (lf_d C) n), lw_a E 0 a9 n (ar_f (lf_s C) n)])) (hb_poC C G M n) (hb_poG C G M n) M C2 G2 M2 n hn hg' j hlt) gL_law_X2_isDark rfl kd_X2_isDark ⟨Nat.le_of_ble_eq_true rfl, Nat.le_of_ble_eq_true rfl⟩ 0 rfl rfl (Nat.le_of_ble_eq_true rfl) ⟨rfl, rfl⟩ ⟨(by show _ ≤ 600130; omega), (by show _ ≤ 7301079; omega)⟩ rfl (fun _ _ => ?_)
                        refine jk_st (st' := [.int 1]) (by rw [if_pos y5]) ?_
                        refine jk_aload K dL_law_751 11 rfl ?_
                        refine jk_iload K dL_law_753 4 rfl ?_
                        refine jk_ws (ws' := (sm_S E (hb_cw E q b1 b2 (hb_poC C G M n) (hb_poG C G M n) M C2 G2 M2) (Y ++ [lw_a E 0 a6 n (ar_f (lf_w C) n), lw_a E 2 a7 n (ar_f (lf_b C) n), lw_a E 2 a8 n (ar_f (lf_d C) n), lw_a E 0 a9 n (ar_f (lf_s C) n)]) p n (sm_G (hb_poG C G M n)) (sm_N (hb_poC C G M n)) (sm_M M))) lw_sw ?_
                        refine jk_iald (v := 0) K dL_law_755 ((hb_cw E q b1 b2 (hb_poC C G M n) (hb_poG C G M n) M C2 G2 M2).length + (13 + n + (Y.length + 0))) (sm_yat rfl) (vp_in_nI hlt (by omega)) (by rw [nI_clamp (by omega), ar_v _ hlt, (show lf_w C j = 0 from w0)]) ?_
                        refine jk_if_ne (tgt := 763) K dL_law_756 rfl (fun c_756 => ?_) (fun c_756 => ?_)
                        · exact absurd (by decide) c_756
                        · refine jk_iconst (x := 1) K dL_law_759 rfl ?_
                          refine jk_goto (tgt := 764) K dL_law_760 rfl ?_
                          refine jk_icmp_ne (tgt := 812) K dL_law_764 rfl (fun c_764 => ?_) (fun c_764 => ?_)
                          · exact absurd (by decide) c_764
                          · refine jk_aload K dL_law_767 9 rfl ?_
                            refine jk_iload K dL_law_769 4 rfl ?_
                            refine jk_zald (v := 0) K dL_law_771 ((hb_cw E q b1 b2 (hb_poC C G M n) (hb_poG C G M n) M C2 G2 M2).length + (13 + n + (Y.length + 2))) (sm_yat rfl) (vp_in_nI hlt (by omega)) (by rw [nI_clamp (by omega), ar_v _ hlt, (show lf_d C j = 0 from if_neg (by rw [z5]; decide))]) ?_
                            refine jk_if_ne (tgt := 798) K dL_law_772 rfl (fun c_772 => ?_) (fun c_772 => ?_)
                            · exact absurd (by decide) c_772
                            · refine jk_aload_n K dL_law_775 rfl 15 rfl ?_
                              refine jk_iload K dL_law_776 4 rfl ?_
                              refine jk_ws (ws' := (hb_v1 E q b1 b2 (sm_SW E p n (sm_G (hb_poG C G M n)) (sm_N (hb_poC C G M n)) (sm_M M) ++ (Y ++ [lw_a E 0 a6 n (ar_f (lf_w C) n), lw_a E 2 a7 n (ar_f (lf_b C) n), lw_a E 2 a8 n (ar_f (lf_d C) n), lw_a E 0 a9 n (ar_f (lf_s C) n)])) (hb_poC C G M n) (hb_poG C G M n) M C2 G2 M2)) lw_sw.symm ?_
                              refine jk_cVi K (n' := ((((cn + 50 * j) + 1) + 1) + 1)) (k' := ((((ck + 300 * j) + 6) + 6) + 6)) [.int (nI j)] [] dL_law_778 (lc_isDark _ hl E q b1 b2 (sm_SW E p n (sm_G (hb_poG C G M n)) (sm_N (hb_poC C G M n)) (sm_M M) ++ (Y ++ [lw_a E 0 a6 n (ar_f (lf_w C) n), lw_a E 2 a7 n (ar_f (lf_b C) n), lw_a E 2 a8 n (ar_f (lf_d C) n), lw_a E 0 a9 n (ar_f (lf_s C) n)])) (hb_poC C G M n) (hb_poG C G M n) M C2 G2 M2 n hn hg' j hlt) gL_law_X2_isDark rfl kd_X2_isDark ⟨Nat.le_of_ble_eq_true rfl, Nat.le_of_ble_eq_true rfl⟩ 0 rfl rfl (Nat.le_of_ble_eq_true rfl) ⟨rfl, rfl⟩ ⟨(by show _ ≤ 600130; omega), (by show _ ≤ 7301079; omega)⟩ rfl (fun _ _ => ?_)
                              refine jk_st (st' := [.int 1]) (by rw [if_pos y5]) ?_
                              refine jk_if_ne (tgt := 798) K dL_law_781 rfl (fun c_781 => ?_) (fun c_781 => ?_)
                              · refine jk_iload K dL_law_798 3 rfl ?_
                                refine jk_if_eq (tgt := 814) K dL_law_800 rfl (fun c_800 => ?_) (fun c_800 => ?_)
                                · refine jk_iload K dL_law_814 3 rfl ?_
                                  refine jk_if_eq (tgt := 902) K dL_law_816 rfl (fun c_816 => ?_) (fun c_816 => ?_)
                                  · refine jk_iinc (v := (nI (j + 1))) (lv' := [(17, .int (nI (j + 1))), (19, .int 0), (16, .int ((mn_ce C G M n j) + 0)), (15, .int ((mn_cl C G M n j) + 0)), (18, .int 0), (14, .int (mn_cl C G M n n)), (13, .int (G 5)), (12, .int (G 4)), (9, .ref a9), (8, .ref a8), (7, .ref a7), (6, .ref a6), (5, .int (nI n)), (3, .int (nI t)), (2, .ref (p 0)), (1, .ref q), (0, .ref E.1.2.1)]) K dL_law_902 4 rfl (nI_1 j) (by decide) rfl ?_
                                    refine jk_goto (tgt := 622) K dL_law_905 rfl ?_
                                    refine jk_ws (ws' := (sm_S E (hb_cw E q b1 b2 (hb_poC C G M n) (hb_poG C G M n) M C2 G2 M2) (Y ++ [lw_a E 0 a6 n (ar_f (lf_w C) n), lw_a E 2 a7 n (ar_f (lf_b C) n), lw_a E 2 a8 n (ar_f (lf_d C) n), lw_a E 0 a9 n (ar_f (lf_s C) n)]) p n (sm_G (hb_poG C G M n)) (sm_N (hb_poC C G M n)) (sm_M M))) lw_sw ?_
                                    refine jk_wide (n' := (cn + 50 * (j + 1))) (k' := (ck + 300 * (j + 1))) (by omega) (by omega) ?_
                                    refine jk_sub (lv' := [(17, .int (nI (j + 1))), (16, .int ((mn_ce C G M n j) + 0)), (15, .int ((mn_cl C G M n j) + 0)), (14, .int (mn_cl C G M n n)), (13, .int (G 5)), (12, .int (G 4)), (9, .ref a9), (8, .ref a8), (7, .ref a7), (6, .ref a6), (5, .int (nI n)), (3, .int (nI t)), (2, .ref (p 0)), (1, .ref q), (0, .ref E.1.2.1)]) [0, 2, 3, 5, 6, 7, 8, 9, 10, 11, 12, 13, 14, 15, 16] rfl ?_
                                    refine jk_lv (lv' := [(17, .int (nI (j + 1))), (16, .int (mn_ce C G M n (j + 1))), (15, .int (mn_cl C G M n (j + 1))), (14, .int (mn_cl C G M n n)), (13, .int (G 5)), (12, .int (G 4)), (9, .ref a9), (8, .ref a8), (7, .ref a7), (6, .ref a6), (5, .int (nI n)), (3, .int (nI t)), (2, .ref (p 0)), (1, .ref q), (0, .ref E.1.2.1)]) (by rw [mn_ce_s, mn_cl_s, ht, (show mn_e C G M n j = 0 by unfold mn_e; rw [if_pos ht])]) ?_
                                    exact ih hlt
                                  · exact absurd (by decide) c_816
                                · exact absurd (by decide) c_800
                              · exact absurd c_781 (by decide)
                  · exact absurd (by decide) c_726
            · exact absurd (by decide) c_672
          · exact absurd (by decide) c_657
        · exact absurd (by decide) c_634
  exact hL 0 (Nat.zero_le _)
