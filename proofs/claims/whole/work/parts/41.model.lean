
set_option maxHeartbeats 4000000 in
set_option maxRecDepth 100000 in
theorem hb_X3_fewestSteps (l : Launch) (hl : l.stackTraces = false) (E : jk_T) (X Y : va_W) (m : Nat → Nat) (th : Int32) (S : Nat → Int32) (N a : Nat → Nat → Int32) (n : Nat) (hn : n ≤ 10) (x y : Int32) : jk_Ct l yX3_fewestSteps wsX3_fewestSteps ({ frames := 3, cells := 0, slots := 0, locals := 65 } : Room) [.ref (m 0), .int x, .int y] E (hm_M E X Y m th (nI n) S N a) (fun u : Int32 × Int32 × (Nat → Int32) × (Nat → Int32) => some (.int u.2.1)) (fun u => (hm_M E X Y m u.1 (nI n) S N (va_up (va_up a 9 u.2.2.1) 10 u.2.2.2))) (fun u => (∃ i k, i < n ∧ k < n ∧ x = nI i ∧ y = nI k ∧ u.1 = 0 ∧ u.2.1 = hm_fs (S 4) (a 5) (a 9) (a 10) n i k) ∨ (¬ (hb_ok n x ∧ hb_ok n y) ∧ u.1 = 1 ∧ u.2.1 = 0)) := by
  refine jk_of (lv := [(0, .ref (m 0)), (1, .int x), (2, .int y)]) (own := RX3) (nm := "fewestSteps") hl (by decide +kernel) rfl (Nat.le_of_ble_eq_true rfl) rfl rfl rfl (fun Γ hΓ K hnm hz => ?_)
  subst hΓ
  have hin_RX3 : ∀ w ∈ u_ws RX3 TX3 11, w ∈ wsX3_fewestSteps := by decide +kernel
  refine jk_aload_n K dX3_fewestSteps_0 rfl 0 rfl ?_
  refine jk_iload_n K dX3_fewestSteps_1 rfl 1 rfl ?_
  refine jk_iload_n K dX3_fewestSteps_2 rfl 2 rfl ?_
  refine jk_cVi K (n' := 0) (k' := 0) [.int x, .int y] [] dX3_fewestSteps_3 (hb_X3_arePair _ hl E X Y m th S N a n hn x y) gX3_fewestSteps_X3_arePair rfl kd_X3_arePair ⟨Nat.le_of_ble_eq_true rfl, Nat.le_of_ble_eq_true rfl⟩ (X.length + 0) hm_x0 rfl (Nat.le_of_ble_eq_true rfl) ⟨rfl, rfl⟩ ⟨Nat.le_of_ble_eq_true rfl, Nat.le_of_ble_eq_true rfl⟩ rfl (fun u1 hu1 => ?_)
  rcases hu1 with ⟨i, k, hi, hk, rfl, rfl, rfl⟩ | ⟨hno, rfl⟩
  · refine jk_ws (ws' := (hm_M E X Y m 0 (nI n) S N a)) rfl ?_
    refine jk_st (st' := [.int 1]) rfl ?_
    refine jk_if_ne (tgt := 11) K dX3_fewestSteps_6 rfl (fun c_6 => ?_) (fun c_6 => ?_)
    · refine jk_iconst (x := 0) K dX3_fewestSteps_11 rfl ?_
      refine jk_istore_n (lv' := [(3, .int 0), (0, .ref (m 0)), (1, .int (nI i)), (2, .int (nI k))]) K dX3_fewestSteps_12 rfl (by decide) rfl ?_
      have hP : ∀ p, p ≤ n → jk_J Γ E (hm_M E X Y m 0 (nI n) S N (va_up (va_up a 9 (hm_bp (S 4) (a 5) n (hm_b0 (a 9) (a 10) n i) p).1) 10 (hm_bp (S 4) (a 5) n (hm_b0 (a 9) (a 10) n i) p).2.1)) 0 0 53 [(4, .int (nI p)), (3, .int (nI ((hm_bp (S 4) (a 5) n (hm_b0 (a 9) (a 10) n i) p).2.2))), (0, .ref (m 0)), (2, .int (nI k))] [] := by
        refine jk_loop (fun p hp ih => ?_)
        have hI0 : hm_bI n (hm_bp (S 4) (a 5) n (hm_b0 (a 9) (a 10) n i) p) := hm_bp_I hn (hm_bI0 hi) p
        have hcn := hm_bI_c hI0
        refine jk_iload K dX3_fewestSteps_53 0 rfl ?_
        refine jk_iload_n K dX3_fewestSteps_55 rfl 1 rfl ?_
        refine jk_icmp_ge (tgt := 145) K dX3_fewestSteps_56 rfl (fun c_56 => ?_) (fun c_56 => ?_)
        · have hpc : ¬ p < (hm_bp (S 4) (a 5) n (hm_b0 (a 9) (a 10) n i) p).2.2 := by have h9 := hm_nle (by omega) (by omega) c_56; omega
          have hend : (hm_bp (S 4) (a 5) n (hm_b0 (a 9) (a 10) n i) n) = (hm_bp (S 4) (a 5) n (hm_b0 (a 9) (a 10) n i) p) := by have h9 := hm_bp_end hpc (n - p); rwa [show p + (n - p) = n by omega] at h9
          refine jk_aload_n K dX3_fewestSteps_145 rfl 2 rfl ?_
          refine jk_get (C := RX3) (T := TX3) (N := 11) (nm := "steps") (ds := "[I") (v := .ref (m 9)) K dX3_fewestSteps_146 hin_RX3 (by decide +kernel) (X.length + 0) hm_x0 rfl 9 rfl (by decide) rfl ?_
          refine jk_iload_n K dX3_fewestSteps_149 rfl 3 rfl ?_
          refine jk_iald (v := ((hm_bp (S 4) (a 5) n (hm_b0 (a 9) (a 10) n i) p).1 k)) K dX3_fewestSteps_150 (X.length + 8) hm_a9 (vp_in_nI (by omega) (by decide)) (by rw [nI_clamp (by omega)]; rfl) ?_
          exact jk_iret K hz dX3_fewestSteps_151 (0, hm_fs (S 4) (a 5) (a 9) (a 10) n i k, (hm_bp (S 4) (a 5) n (hm_b0 (a 9) (a 10) n i) p).1, (hm_bp (S 4) (a 5) n (hm_b0 (a 9) (a 10) n i) p).2.1) (by unfold hm_fs; rw [hend]) (Or.inl ⟨i, k, hi, hk, rfl, rfl, rfl, rfl⟩) rfl rfl (Nat.le_of_ble_eq_true rfl) (Nat.le_of_ble_eq_true rfl)
        · have hpc : p < (hm_bp (S 4) (a 5) n (hm_b0 (a 9) (a 10) n i) p).2.2 := hm_nlt (by omega) c_56
          have hplt : p < n := by omega
          refine jk_iconst (x := 0) K dX3_fewestSteps_59 rfl ?_
          refine jk_istore (lv' := [(5, .int 0), (4, .int (nI p)), (3, .int (nI ((hm_bp (S 4) (a 5) n (hm_b0 (a 9) (a 10) n i) p).2.2))), (0, .ref (m 0)), (2, .int (nI k))]) K dX3_fewestSteps_60 (by decide) rfl ?_
          have hI : ∀ t, t ≤ n → jk_J Γ E (hm_M E X Y m 0 (nI n) S N (va_up (va_up a 9 (hm_bq (S 4) (a 5) p (hm_bp (S 4) (a 5) n (hm_b0 (a 9) (a 10) n i) p) t).1) 10 (hm_bq (S 4) (a 5) p (hm_bp (S 4) (a 5) n (hm_b0 (a 9) (a 10) n i) p) t).2.1)) 0 0 62 [(5, .int (nI t)), (4, .int (nI p)), (3, .int (nI ((hm_bq (S 4) (a 5) p (hm_bp (S 4) (a 5) n (hm_b0 (a 9) (a 10) n i) p) t).2.2))), (0, .ref (m 0)), (2, .int (nI k))] [] := by
            refine jk_loop (fun t ht iht => ?_)
            refine jk_iload K dX3_fewestSteps_62 0 rfl ?_
            refine jk_aload_n K dX3_fewestSteps_64 rfl 3 rfl ?_
            refine jk_get (C := RX3) (T := TX3) (N := 11) (nm := "hills") (ds := "I") (v := .int (nI n)) K dX3_fewestSteps_65 hin_RX3 (by decide +kernel) (X.length + 0) hm_x0 rfl 1 rfl (by decide) rfl ?_
            refine jk_icmp_ge (tgt := 139) K dX3_fewestSteps_68 rfl (fun c_68 => ?_) (fun c_68 => ?_)
            · have htn : t = n := hb_ex rfl (by omega) ht c_68
              refine jk_iinc (v := (nI (p + 1))) (lv' := [(4, .int (nI (p + 1))), (5, .int (nI t)), (3, .int (nI ((hm_bq (S 4) (a 5) p (hm_bp (S 4) (a 5) n (hm_b0 (a 9) (a 10) n i) p) t).2.2))), (0, .ref (m 0)), (2, .int (nI k))]) K dX3_fewestSteps_139 1 rfl (nI_1 p) (by decide) rfl ?_
              refine jk_goto (tgt := 53) K dX3_fewestSteps_142 rfl ?_
              refine jk_sub (lv' := [(4, .int (nI (p + 1))), (3, .int (nI ((hm_bq (S 4) (a 5) p (hm_bp (S 4) (a 5) n (hm_b0 (a 9) (a 10) n i) p) t).2.2))), (0, .ref (m 0)), (2, .int (nI k))]) [0, 2, 3, 4] rfl ?_
              refine jk_lv (lv' := [(4, .int (nI (p + 1))), (3, .int (nI ((hm_bp (S 4) (a 5) n (hm_b0 (a 9) (a 10) n i) (p + 1)).2.2))), (0, .ref (m 0)), (2, .int (nI k))]) (by rw [hm_bp_s, if_pos hpc, htn]) ?_
              refine jk_ws (ws' := (hm_M E X Y m 0 (nI n) S N (va_up (va_up a 9 (hm_bp (S 4) (a 5) n (hm_b0 (a 9) (a 10) n i) (p + 1)).1) 10 (hm_bp (S 4) (a 5) n (hm_b0 (a 9) (a 10) n i) (p + 1)).2.1))) (by rw [hm_bp_s, if_pos hpc, htn]) ?_
              exact ih hplt
            · have htl : t < n := hb_in rfl (by omega) ht c_68
              obtain ⟨hJ, hpt⟩ := hm_bq_I (hz := S 4) (mi := a 5) hn hI0 hpc t ht
              obtain ⟨q, hq, hqe, d, hd, hqd⟩ := hJ.2 p hpt
              refine jk_aload_n K dX3_fewestSteps_71 rfl 3 rfl ?_
              refine jk_get (C := RX3) (T := TX3) (N := 11) (nm := "steps") (ds := "[I") (v := .ref (m 9)) K dX3_fewestSteps_72 hin_RX3 (by decide +kernel) (X.length + 0) hm_x0 rfl 9 rfl (by decide) rfl ?_
              refine jk_iload K dX3_fewestSteps_75 0 rfl ?_
              refine jk_iald (v := ((hm_bq (S 4) (a 5) p (hm_bp (S 4) (a 5) n (hm_b0 (a 9) (a 10) n i) p) t).1 t)) K dX3_fewestSteps_77 (X.length + 8) hm_a9 (vp_in_nI (by omega) (by decide)) (by rw [nI_clamp (by omega)]; rfl) ?_
              refine jk_iconst (x := (-1)) K dX3_fewestSteps_78 rfl ?_
              refine jk_icmp_ne (tgt := 133) K dX3_fewestSteps_79 rfl (fun c_79 => ?_) (fun c_79 => ?_)
              · have hst : (hm_bq (S 4) (a 5) p (hm_bp (S 4) (a 5) n (hm_b0 (a 9) (a 10) n i) p) (t + 1)) = (hm_bq (S 4) (a 5) p (hm_bp (S 4) (a 5) n (hm_b0 (a 9) (a 10) n i) p) t) := by rw [hm_bq_s]; unfold hm_bS; rw [if_neg c_79]
                refine jk_iinc (v := (nI (t + 1))) (lv' := [(5, .int (nI (t + 1))), (4, .int (nI p)), (3, .int (nI ((hm_bq (S 4) (a 5) p (hm_bp (S 4) (a 5) n (hm_b0 (a 9) (a 10) n i) p) t).2.2))), (0, .ref (m 0)), (2, .int (nI k))]) K dX3_fewestSteps_133 0 rfl (nI_1 t) (by decide) rfl ?_
                refine jk_goto (tgt := 62) K dX3_fewestSteps_136 rfl ?_
                refine jk_lv (lv' := [(5, .int (nI (t + 1))), (4, .int (nI p)), (3, .int (nI ((hm_bq (S 4) (a 5) p (hm_bp (S 4) (a 5) n (hm_b0 (a 9) (a 10) n i) p) (t + 1)).2.2))), (0, .ref (m 0)), (2, .int (nI k))]) (by rw [hst]) ?_
                refine jk_ws (ws' := (hm_M E X Y m 0 (nI n) S N (va_up (va_up a 9 (hm_bq (S 4) (a 5) p (hm_bp (S 4) (a 5) n (hm_b0 (a 9) (a 10) n i) p) (t + 1)).1) 10 (hm_bq (S 4) (a 5) p (hm_bp (S 4) (a 5) n (hm_b0 (a 9) (a 10) n i) p) (t + 1)).2.1))) (by rw [hst]) ?_
                exact iht htl
              · refine jk_aload_n K dX3_fewestSteps_82 rfl 3 rfl ?_
                refine jk_aload_n K dX3_fewestSteps_83 rfl 3 rfl ?_
                refine jk_get (C := RX3) (T := TX3) (N := 11) (nm := "line") (ds := "[I") (v := .ref (m 10)) K dX3_fewestSteps_84 hin_RX3 (by decide +kernel) (X.length + 0) hm_x0 rfl 10 rfl (by decide) rfl ?_
                refine jk_iload K dX3_fewestSteps_87 1 rfl ?_
                refine jk_iald (v := (nI q)) K dX3_fewestSteps_89 (X.length + 9) hm_a10 (vp_in_nI (by omega) (by decide)) (by rw [nI_clamp (by omega)]; exact hqe) ?_
                refine jk_iload K dX3_fewestSteps_90 0 rfl ?_
                refine jk_cVi K (n' := 0) (k' := 0) [.int (nI q), .int (nI t)] [] dX3_fewestSteps_92 (hb_X3_sees _ hl E X Y m 0 S N (va_up (va_up a 9 (hm_bq (S 4) (a 5) p (hm_bp (S 4) (a 5) n (hm_b0 (a 9) (a 10) n i) p) t).1) 10 (hm_bq (S 4) (a 5) p (hm_bp (S 4) (a 5) n (hm_b0 (a 9) (a 10) n i) p) t).2.1) n hn q t (Nat.lt_of_lt_of_le hq hn) (Nat.lt_of_lt_of_le htl hn)) gX3_fewestSteps_X3_sees rfl kd_X3_sees ⟨Nat.le_of_ble_eq_true rfl, Nat.le_of_ble_eq_true rfl⟩ (X.length + 0) hm_x0 rfl (Nat.le_of_ble_eq_true rfl) ⟨rfl, rfl⟩ ⟨Nat.le_of_ble_eq_true rfl, Nat.le_of_ble_eq_true rfl⟩ rfl (fun _ _ => ?_)
                refine jk_if_ne (tgt := 101) K dX3_fewestSteps_95 rfl (fun c_95 => ?_) (fun c_95 => ?_)
                · have c95 : ¬ hb_clr (S 4) (a 5 (q * 10 + t)) = 0 := c_95
                  have hst : (hm_bq (S 4) (a 5) p (hm_bp (S 4) (a 5) n (hm_b0 (a 9) (a 10) n i) p) (t + 1)) = (upd (hm_bq (S 4) (a 5) p (hm_bp (S 4) (a 5) n (hm_b0 (a 9) (a 10) n i) p) t).1 t (nI d + 1), upd (hm_bq (S 4) (a 5) p (hm_bp (S 4) (a 5) n (hm_b0 (a 9) (a 10) n i) p) t).2.1 (hm_bq (S 4) (a 5) p (hm_bp (S 4) (a 5) n (hm_b0 (a 9) (a 10) n i) p) t).2.2 (nI t), (hm_bq (S 4) (a 5) p (hm_bp (S 4) (a 5) n (hm_b0 (a 9) (a 10) n i) p) t).2.2 + 1) := by rw [hm_bq_s]; unfold hm_bS; rw [if_pos c_79, hqe, nI_clamp (by omega), if_neg c95, hqd]
                  have hcl := hm_bI_l hJ htl c_79
                  refine jk_aload_n K dX3_fewestSteps_101 rfl 3 rfl ?_
                  refine jk_get (C := RX3) (T := TX3) (N := 11) (nm := "steps") (ds := "[I") (v := .ref (m 9)) K dX3_fewestSteps_102 hin_RX3 (by decide +kernel) (X.length + 0) hm_x0 rfl 9 rfl (by decide) rfl ?_
                  refine jk_iload K dX3_fewestSteps_105 0 rfl ?_
                  refine jk_aload_n K dX3_fewestSteps_107 rfl 3 rfl ?_
                  refine jk_get (C := RX3) (T := TX3) (N := 11) (nm := "steps") (ds := "[I") (v := .ref (m 9)) K dX3_fewestSteps_108 hin_RX3 (by decide +kernel) (X.length + 0) hm_x0 rfl 9 rfl (by decide) rfl ?_
                  refine jk_aload_n K dX3_fewestSteps_111 rfl 3 rfl ?_
                  refine jk_get (C := RX3) (T := TX3) (N := 11) (nm := "line") (ds := "[I") (v := .ref (m 10)) K dX3_fewestSteps_112 hin_RX3 (by decide +kernel) (X.length + 0) hm_x0 rfl 10 rfl (by decide) rfl ?_
                  refine jk_iload K dX3_fewestSteps_115 1 rfl ?_
                  refine jk_iald (v := (nI q)) K dX3_fewestSteps_117 (X.length + 9) hm_a10 (vp_in_nI (by omega) (by decide)) (by rw [nI_clamp (by omega)]; exact hqe) ?_
                  refine jk_iald (v := (nI d)) K dX3_fewestSteps_118 (X.length + 8) hm_a9 (vp_in_nI (by omega) (by decide)) (by rw [nI_clamp (by omega)]; exact hqd) ?_
                  refine jk_iconst (x := 1) K dX3_fewestSteps_119 rfl ?_
                  refine jk_iadd K dX3_fewestSteps_120 ?_
                  refine jk_iast (w' := (hm_M E X Y m 0 (nI n) S N (va_up (va_up a 9 (upd (hm_bq (S 4) (a 5) p (hm_bp (S 4) (a 5) n (hm_b0 (a 9) (a 10) n i) p) t).1 t ((nI d) + 1))) 10 (hm_bq (S 4) (a 5) p (hm_bp (S 4) (a 5) n (hm_b0 (a 9) (a 10) n i) p) t).2.1))) K dX3_fewestSteps_121 (X.length + 8) hm_a9 (vp_in_nI (by omega) (by decide)) (by rw [nI_clamp (by omega), hm_t9]; rfl) ?_
                  refine jk_aload_n K dX3_fewestSteps_122 rfl 3 rfl ?_
                  refine jk_get (C := RX3) (T := TX3) (N := 11) (nm := "line") (ds := "[I") (v := .ref (m 10)) K dX3_fewestSteps_123 hin_RX3 (by decide +kernel) (X.length + 0) hm_x0 rfl 10 rfl (by decide) rfl ?_
                  refine jk_iload_n K dX3_fewestSteps_126 rfl 2 rfl ?_
                  refine jk_iload K dX3_fewestSteps_127 0 rfl ?_
                  refine jk_iast (w' := (hm_M E X Y m 0 (nI n) S N (va_up (va_up a 9 (upd (hm_bq (S 4) (a 5) p (hm_bp (S 4) (a 5) n (hm_b0 (a 9) (a 10) n i) p) t).1 t ((nI d) + 1))) 10 (upd (hm_bq (S 4) (a 5) p (hm_bp (S 4) (a 5) n (hm_b0 (a 9) (a 10) n i) p) t).2.1 ((hm_bq (S 4) (a 5) p (hm_bp (S 4) (a 5) n (hm_b0 (a 9) (a 10) n i) p) t).2.2) (nI t))))) K dX3_fewestSteps_129 (X.length + 9) hm_a10 (vp_in_nI (by omega) (by decide)) (by rw [nI_clamp (by omega), hm_t10]; rfl) ?_
                  refine jk_iinc (v := (nI ((hm_bq (S 4) (a 5) p (hm_bp (S 4) (a 5) n (hm_b0 (a 9) (a 10) n i) p) t).2.2 + 1))) (lv' := [(3, .int (nI ((hm_bq (S 4) (a 5) p (hm_bp (S 4) (a 5) n (hm_b0 (a 9) (a 10) n i) p) t).2.2 + 1))), (5, .int (nI t)), (4, .int (nI p)), (0, .ref (m 0)), (2, .int (nI k))]) K dX3_fewestSteps_130 2 rfl (nI_1 _) (by decide) rfl ?_
                  refine jk_iinc (v := (nI (t + 1))) (lv' := [(5, .int (nI (t + 1))), (3, .int (nI ((hm_bq (S 4) (a 5) p (hm_bp (S 4) (a 5) n (hm_b0 (a 9) (a 10) n i) p) t).2.2 + 1))), (4, .int (nI p)), (0, .ref (m 0)), (2, .int (nI k))]) K dX3_fewestSteps_133 1 rfl (nI_1 t) (by decide) rfl ?_
                  refine jk_goto (tgt := 62) K dX3_fewestSteps_136 rfl ?_
                  refine jk_sub (lv' := [(5, .int (nI (t + 1))), (4, .int (nI p)), (3, .int (nI ((hm_bq (S 4) (a 5) p (hm_bp (S 4) (a 5) n (hm_b0 (a 9) (a 10) n i) p) t).2.2 + 1))), (0, .ref (m 0)), (2, .int (nI k))]) [0, 2, 1, 3, 4] rfl ?_
                  refine jk_lv (lv' := [(5, .int (nI (t + 1))), (4, .int (nI p)), (3, .int (nI ((hm_bq (S 4) (a 5) p (hm_bp (S 4) (a 5) n (hm_b0 (a 9) (a 10) n i) p) (t + 1)).2.2))), (0, .ref (m 0)), (2, .int (nI k))]) (by rw [hst]) ?_
                  refine jk_ws (ws' := (hm_M E X Y m 0 (nI n) S N (va_up (va_up a 9 (hm_bq (S 4) (a 5) p (hm_bp (S 4) (a 5) n (hm_b0 (a 9) (a 10) n i) p) (t + 1)).1) 10 (hm_bq (S 4) (a 5) p (hm_bp (S 4) (a 5) n (hm_b0 (a 9) (a 10) n i) p) (t + 1)).2.1))) (by rw [hst]) ?_
                  exact iht htl
                · have c95 : hb_clr (S 4) (a 5 (q * 10 + t)) = 0 := c_95
                  have hst : (hm_bq (S 4) (a 5) p (hm_bp (S 4) (a 5) n (hm_b0 (a 9) (a 10) n i) p) (t + 1)) = (hm_bq (S 4) (a 5) p (hm_bp (S 4) (a 5) n (hm_b0 (a 9) (a 10) n i) p) t) := by rw [hm_bq_s]; unfold hm_bS; rw [if_pos c_79, hqe, nI_clamp (by omega), if_pos c95]
                  refine jk_goto (tgt := 133) K dX3_fewestSteps_98 rfl ?_
                  refine jk_iinc (v := (nI (t + 1))) (lv' := [(5, .int (nI (t + 1))), (4, .int (nI p)), (3, .int (nI ((hm_bq (S 4) (a 5) p (hm_bp (S 4) (a 5) n (hm_b0 (a 9) (a 10) n i) p) t).2.2))), (0, .ref (m 0)), (2, .int (nI k))]) K dX3_fewestSteps_133 0 rfl (nI_1 t) (by decide) rfl ?_
                  refine jk_goto (tgt := 62) K dX3_fewestSteps_136 rfl ?_
                  refine jk_lv (lv' := [(5, .int (nI (t + 1))), (4, .int (nI p)), (3, .int (nI ((hm_bq (S 4) (a 5) p (hm_bp (S 4) (a 5) n (hm_b0 (a 9) (a 10) n i) p) (t + 1)).2.2))), (0, .ref (m 0)), (2, .int (nI k))]) (by rw [hst]) ?_
                  refine jk_ws (ws' := (hm_M E X Y m 0 (nI n) S N (va_up (va_up a 9 (hm_bq (S 4) (a 5) p (hm_bp (S 4) (a 5) n (hm_b0 (a 9) (a 10) n i) p) (t + 1)).1) 10 (hm_bq (S 4) (a 5) p (hm_bp (S 4) (a 5) n (hm_b0 (a 9) (a 10) n i) p) (t + 1)).2.1))) (by rw [hst]) ?_
                  exact iht htl
          refine jk_lv (lv' := [(5, .int (nI 0)), (4, .int (nI p)), (3, .int (nI ((hm_bq (S 4) (a 5) p (hm_bp (S 4) (a 5) n (hm_b0 (a 9) (a 10) n i) p) 0).2.2))), (0, .ref (m 0)), (2, .int (nI k))]) rfl ?_
          refine jk_ws (ws' := (hm_M E X Y m 0 (nI n) S N (va_up (va_up a 9 (hm_bq (S 4) (a 5) p (hm_bp (S 4) (a 5) n (hm_b0 (a 9) (a 10) n i) p) 0).1) 10 (hm_bq (S 4) (a 5) p (hm_bp (S 4) (a 5) n (hm_b0 (a 9) (a 10) n i) p) 0).2.1))) rfl ?_
          exact hI 0 (Nat.zero_le _)
      have hF : ∀ j, j ≤ n → jk_J Γ E (hm_M E X Y m 0 (nI n) S N (va_up a 9 (hm_fl (a 9) j))) 0 0 13 [(3, .int (nI j)), (0, .ref (m 0)), (1, .int (nI i)), (2, .int (nI k))] [] := by
        refine jk_loop (fun j hj ih => ?_)
        refine jk_iload_n K dX3_fewestSteps_13 rfl 0 rfl ?_
        refine jk_aload_n K dX3_fewestSteps_14 rfl 1 rfl ?_
        refine jk_get (C := RX3) (T := TX3) (N := 11) (nm := "hills") (ds := "I") (v := .int (nI n)) K dX3_fewestSteps_15 hin_RX3 (by decide +kernel) (X.length + 0) hm_x0 rfl 1 rfl (by decide) rfl ?_
        refine jk_icmp_ge (tgt := 34) K dX3_fewestSteps_18 rfl (fun c_18 => ?_) (fun c_18 => ?_)
        · have hjn : j = n := hb_ex rfl (by omega) hj c_18
          refine jk_aload_n K dX3_fewestSteps_34 rfl 1 rfl ?_
          refine jk_get (C := RX3) (T := TX3) (N := 11) (nm := "steps") (ds := "[I") (v := .ref (m 9)) K dX3_fewestSteps_35 hin_RX3 (by decide +kernel) (X.length + 0) hm_x0 rfl 9 rfl (by decide) rfl ?_
          refine jk_iload_n K dX3_fewestSteps_38 rfl 2 rfl ?_
          refine jk_iconst (x := 0) K dX3_fewestSteps_39 rfl ?_
          refine jk_iast (w' := (hm_M E X Y m 0 (nI n) S N (va_up a 9 (upd (hm_fl (a 9) j) i 0)))) K dX3_fewestSteps_40 (X.length + 8) hm_a9 (vp_in_nI (by omega) (by decide)) (by rw [nI_clamp (by omega), hm_t9]; rfl) ?_
          refine jk_aload_n K dX3_fewestSteps_41 rfl 1 rfl ?_
          refine jk_get (C := RX3) (T := TX3) (N := 11) (nm := "line") (ds := "[I") (v := .ref (m 10)) K dX3_fewestSteps_42 hin_RX3 (by decide +kernel) (X.length + 0) hm_x0 rfl 10 rfl (by decide) rfl ?_
          refine jk_iconst (x := 0) K dX3_fewestSteps_45 rfl ?_
          refine jk_iload_n K dX3_fewestSteps_46 rfl 2 rfl ?_
          refine jk_iast (w' := (hm_M E X Y m 0 (nI n) S N (va_up (va_up a 9 (upd (hm_fl (a 9) j) i 0)) 10 (upd (a 10) 0 (nI i))))) K dX3_fewestSteps_47 (X.length + 9) hm_a10 (vp_in_nI (n := 0) (by decide) (by decide)) (by rw [show Int32.toNatClampNeg 0 = 0 from by decide, hm_t10]; rfl) ?_
          refine jk_iconst (x := 1) K dX3_fewestSteps_48 rfl ?_
          refine jk_istore_n (lv' := [(3, .int 1), (0, .ref (m 0)), (1, .int (nI i)), (2, .int (nI k))]) K dX3_fewestSteps_49 rfl (by decide) rfl ?_
          refine jk_iconst (x := 0) K dX3_fewestSteps_50 rfl ?_
          refine jk_istore (lv' := [(4, .int 0), (3, .int 1), (0, .ref (m 0)), (1, .int (nI i)), (2, .int (nI k))]) K dX3_fewestSteps_51 (by decide) rfl ?_
          refine jk_sub (lv' := [(4, .int 0), (3, .int 1), (0, .ref (m 0)), (2, .int (nI k))]) [0, 1, 2, 4] rfl ?_
          refine jk_lv (lv' := [(4, .int (nI 0)), (3, .int (nI ((hm_bp (S 4) (a 5) n (hm_b0 (a 9) (a 10) n i) 0).2.2))), (0, .ref (m 0)), (2, .int (nI k))]) rfl ?_
          refine jk_ws (ws' := (hm_M E X Y m 0 (nI n) S N (va_up (va_up a 9 (hm_bp (S 4) (a 5) n (hm_b0 (a 9) (a 10) n i) 0).1) 10 (hm_bp (S 4) (a 5) n (hm_b0 (a 9) (a 10) n i) 0).2.1))) (by rw [hjn]; rfl) ?_
          exact hP 0 (Nat.zero_le _)
        · have hlt : j < n := hb_in rfl (by omega) hj c_18
          refine jk_aload_n K dX3_fewestSteps_21 rfl 1 rfl ?_
          refine jk_get (C := RX3) (T := TX3) (N := 11) (nm := "steps") (ds := "[I") (v := .ref (m 9)) K dX3_fewestSteps_22 hin_RX3 (by decide +kernel) (X.length + 0) hm_x0 rfl 9 rfl (by decide) rfl ?_
          refine jk_iload_n K dX3_fewestSteps_25 rfl 0 rfl ?_
          refine jk_iconst (x := (-1)) K dX3_fewestSteps_26 rfl ?_
          refine jk_iast (w' := (hm_M E X Y m 0 (nI n) S N (va_up a 9 (upd (hm_fl (a 9) j) j (-1))))) K dX3_fewestSteps_27 (X.length + 8) hm_a9 (vp_in_nI (by omega) (by decide)) (by rw [nI_clamp (by omega), hm_t9]; rfl) ?_
          refine jk_iinc (v := (nI (j + 1))) (lv' := [(3, .int (nI (j + 1))), (0, .ref (m 0)), (1, .int (nI i)), (2, .int (nI k))]) K dX3_fewestSteps_28 0 rfl (nI_1 j) (by decide) rfl ?_
          refine jk_goto (tgt := 13) K dX3_fewestSteps_31 rfl ?_
          refine jk_ws (ws' := (hm_M E X Y m 0 (nI n) S N (va_up a 9 (hm_fl (a 9) (j + 1))))) rfl ?_
          exact ih hlt
      refine jk_lv (lv' := [(3, .int (nI 0)), (0, .ref (m 0)), (1, .int (nI i)), (2, .int (nI k))]) rfl ?_
      refine jk_ws (ws' := (hm_M E X Y m 0 (nI n) S N (va_up a 9 (hm_fl (a 9) 0)))) rfl ?_
      exact hF 0 (Nat.zero_le _)
    · exact absurd c_6 (by decide)
  · refine jk_ws (ws' := (hm_M E X Y m 1 (nI n) S N a)) rfl ?_
    refine jk_st (st' := [.int 0]) rfl ?_
    refine jk_if_ne (tgt := 11) K dX3_fewestSteps_6 rfl (fun c_6 => ?_) (fun c_6 => ?_)
    · exact absurd (by decide) c_6
    · refine jk_iconst (x := 0) K dX3_fewestSteps_9 rfl ?_
      exact jk_iret K hz dX3_fewestSteps_10 (1, 0, a 9, a 10) rfl (Or.inr ⟨hno, rfl, rfl⟩) rfl rfl (Nat.le_of_ble_eq_true rfl) (Nat.le_of_ble_eq_true rfl)
set_option maxHeartbeats 4000000 in
set_option maxRecDepth 100000 in
theorem hb_X3_digest (l : Launch) (hl : l.stackTraces = false) (E : jk_T) (X Y : va_W) (m : Nat → Nat) (th : Int32) (S : Nat → Int32) (N a : Nat → Nat → Int32) (n : Nat) (hn : n ≤ 10) : jk_fn l yX3_digest wsX3_digest ({ frames := 2, cells := 11, slots := 117, locals := 44 } : Room) [.ref (m 0)] E (hm_M E X Y m th (nI n) S N a) (some (.long (hm_dig S N a n))) (hm_M E X Y m 0 (nI n) S N a) := by
  refine jk_of (lv := [(0, .ref (m 0))]) (own := RX3) (nm := "digest") hl (by decide +kernel) rfl (Nat.le_of_ble_eq_true rfl) rfl rfl rfl (fun Γ hΓ K hnm hz => ?_)
  subst hΓ
  have hin_RX3 : ∀ w ∈ u_ws RX3 TX3 11, w ∈ wsX3_digest := by decide +kernel
  refine jk_aload_n K dX3_digest_0 rfl 0 rfl ?_
  refine jk_iconst (x := 0) K dX3_digest_1 rfl ?_
  refine jk_put (C := RX3) (T := TX3) (N := 11) (nm := "thrown") (ds := "I") (w' := (hm_M E X Y m 0 (nI n) S N a)) K dX3_digest_2 hin_RX3 tyX3 tyX3_ok nmX3 (by decide +kernel) (X.length + 0) hm_x0 rfl 0 rfl (by decide) rfl rfl rfl rfl (Nat.le_of_ble_eq_true rfl) (hm_s0 rfl) ?_
  refine jk_bipush (x := 7) K dX3_digest_5 rfl ?_
  refine jk_newI (ty := .int) (z := 7) (ti := 0) (a0 := (7, .inl (fun _ => 0))) K dX3_digest_7 (by decide +kernel) rfl rfl (fun _ _ => rfl) (fun _ => rfl) (by decide) (by decide) (Nat.le_of_ble_eq_true rfl) (Nat.le_of_ble_eq_true rfl) (fun q7 => ?_)
  refine jk_ws (ws' := (hm_M E X (Y ++ [(q7, .inl (E.2 0, 7, .inl (fun _ => 0)))]) m 0 (nI n) S N a)) hm_ext ?_
  refine jk_dup K dX3_digest_9 rfl ?_
  refine jk_iconst (x := 0) K dX3_digest_10 rfl ?_
  refine jk_aload_n K dX3_digest_11 rfl 0 rfl ?_
  refine jk_get (C := RX3) (T := TX3) (N := 11) (nm := "hills") (ds := "I") (v := .int (nI n)) K dX3_digest_12 hin_RX3 (by decide +kernel) (X.length + 0) hm_x0 rfl 1 rfl (by decide) rfl ?_
  refine jk_iast (w' := (hm_M E X (Y ++ [(q7, .inl (E.2 0, 7, .inl (upd (fun _ => 0) 0 (nI n))))]) m 0 (nI n) S N a)) K dX3_digest_15 (X.length + 10 + Y.length) hm_y (vp_in_nI (n := 0) (by decide) (by decide)) (by rw [show Int32.toNatClampNeg 0 = 0 from by decide]; exact hm_yset) ?_
  refine jk_dup K dX3_digest_16 rfl ?_
  refine jk_iconst (x := 1) K dX3_digest_17 rfl ?_
  refine jk_aload_n K dX3_digest_18 rfl 0 rfl ?_
  refine jk_get (C := RX3) (T := TX3) (N := 11) (nm := "now") (ds := "[I") (v := .ref (m 6)) K dX3_digest_19 hin_RX3 (by decide +kernel) (X.length + 0) hm_x0 rfl 6 rfl (by decide) rfl ?_
  refine jk_iconst (x := 0) K dX3_digest_22 rfl ?_
  refine jk_iald (v := (S 0)) K dX3_digest_23 (X.length + 5) hm_a6 (vp_in_nI (n := 0) (by decide) (by decide)) (hm_now_s _ _ (k := 0) (by decide)) ?_
  refine jk_iast (w' := (hm_M E X (Y ++ [(q7, .inl (E.2 0, 7, .inl (upd (upd (fun _ => 0) 0 (nI n)) 1 (S 0))))]) m 0 (nI n) S N a)) K dX3_digest_24 (X.length + 10 + Y.length) hm_y (vp_in_nI (n := 1) (by decide) (by decide)) (by rw [show Int32.toNatClampNeg 1 = 1 from by decide]; exact hm_yset) ?_
  refine jk_dup K dX3_digest_25 rfl ?_
  refine jk_iconst (x := 2) K dX3_digest_26 rfl ?_
  refine jk_aload_n K dX3_digest_27 rfl 0 rfl ?_
  refine jk_get (C := RX3) (T := TX3) (N := 11) (nm := "now") (ds := "[I") (v := .ref (m 6)) K dX3_digest_28 hin_RX3 (by decide +kernel) (X.length + 0) hm_x0 rfl 6 rfl (by decide) rfl ?_
  refine jk_iconst (x := 4) K dX3_digest_31 rfl ?_
  refine jk_iald (v := (S 4)) K dX3_digest_32 (X.length + 5) hm_a6 (vp_in_nI (n := 4) (by decide) (by decide)) (hm_now_s _ _ (k := 4) (by decide)) ?_
  refine jk_iast (w' := (hm_M E X (Y ++ [(q7, .inl (E.2 0, 7, .inl (upd (upd (upd (fun _ => 0) 0 (nI n)) 1 (S 0)) 2 (S 4))))]) m 0 (nI n) S N a)) K dX3_digest_33 (X.length + 10 + Y.length) hm_y (vp_in_nI (n := 2) (by decide) (by decide)) (by rw [show Int32.toNatClampNeg 2 = 2 from by decide]; exact hm_yset) ?_
  refine jk_dup K dX3_digest_34 rfl ?_
  refine jk_iconst (x := 3) K dX3_digest_35 rfl ?_
  refine jk_aload_n K dX3_digest_36 rfl 0 rfl ?_
  refine jk_get (C := RX3) (T := TX3) (N := 11) (nm := "now") (ds := "[I") (v := .ref (m 6)) K dX3_digest_37 hin_RX3 (by decide +kernel) (X.length + 0) hm_x0 rfl 6 rfl (by decide) rfl ?_
  refine jk_iconst (x := 1) K dX3_digest_40 rfl ?_
  refine jk_iald (v := (S 1)) K dX3_digest_41 (X.length + 5) hm_a6 (vp_in_nI (n := 1) (by decide) (by decide)) (hm_now_s _ _ (k := 1) (by decide)) ?_
  refine jk_iast (w' := (hm_M E X (Y ++ [(q7, .inl (E.2 0, 7, .inl (upd (upd (upd (upd (fun _ => 0) 0 (nI n)) 1 (S 0)) 2 (S 4)) 3 (S 1))))]) m 0 (nI n) S N a)) K dX3_digest_42 (X.length + 10 + Y.length) hm_y (vp_in_nI (n := 3) (by decide) (by decide)) (by rw [show Int32.toNatClampNeg 3 = 3 from by decide]; exact hm_yset) ?_
  refine jk_dup K dX3_digest_43 rfl ?_
  refine jk_iconst (x := 4) K dX3_digest_44 rfl ?_
  refine jk_aload_n K dX3_digest_45 rfl 0 rfl ?_
  refine jk_cVi K (n' := 1) (k' := 7) [] [.int 4, .ref q7, .ref q7] dX3_digest_46 (hb_X3_burning _ hl E X (Y ++ [(q7, .inl (E.2 0, 7, .inl (upd (upd (upd (upd (fun _ => 0) 0 (nI n)) 1 (S 0)) 2 (S 4)) 3 (S 1))))]) m 0 S N a n hn) gX3_digest_X3_burning rfl kd_X3_burning ⟨Nat.le_of_ble_eq_true rfl, Nat.le_of_ble_eq_true rfl⟩ (X.length + 0) hm_x0 rfl (Nat.le_of_ble_eq_true rfl) ⟨rfl, rfl⟩ ⟨Nat.le_of_ble_eq_true rfl, Nat.le_of_ble_eq_true rfl⟩ rfl (fun _ _ => ?_)
  refine jk_iast (w' := (hm_M E X (Y ++ [(q7, .inl (E.2 0, 7, .inl (upd (upd (upd (upd (upd (fun _ => 0) 0 (nI n)) 1 (S 0)) 2 (S 4)) 3 (S 1)) 4 (hm_bu N n))))]) m 0 (nI n) S N a)) K dX3_digest_49 (X.length + 10 + Y.length) hm_y (vp_in_nI (n := 4) (by decide) (by decide)) (by rw [show Int32.toNatClampNeg 4 = 4 from by decide]; exact hm_yset) ?_
  refine jk_dup K dX3_digest_50 rfl ?_
  refine jk_iconst (x := 5) K dX3_digest_51 rfl ?_
  refine jk_aload_n K dX3_digest_52 rfl 0 rfl ?_
  refine jk_get (C := RX3) (T := TX3) (N := 11) (nm := "now") (ds := "[I") (v := .ref (m 6)) K dX3_digest_53 hin_RX3 (by decide +kernel) (X.length + 0) hm_x0 rfl 6 rfl (by decide) rfl ?_
  refine jk_iconst (x := 2) K dX3_digest_56 rfl ?_
  refine jk_iald (v := (S 2)) K dX3_digest_57 (X.length + 5) hm_a6 (vp_in_nI (n := 2) (by decide) (by decide)) (hm_now_s _ _ (k := 2) (by decide)) ?_
  refine jk_iast (w' := (hm_M E X (Y ++ [(q7, .inl (E.2 0, 7, .inl (upd (upd (upd (upd (upd (upd (fun _ => 0) 0 (nI n)) 1 (S 0)) 2 (S 4)) 3 (S 1)) 4 (hm_bu N n)) 5 (S 2))))]) m 0 (nI n) S N a)) K dX3_digest_58 (X.length + 10 + Y.length) hm_y (vp_in_nI (n := 5) (by decide) (by decide)) (by rw [show Int32.toNatClampNeg 5 = 5 from by decide]; exact hm_yset) ?_
  refine jk_dup K dX3_digest_59 rfl ?_
  refine jk_bipush (x := 6) K dX3_digest_60 rfl ?_
  refine jk_aload_n K dX3_digest_62 rfl 0 rfl ?_
  refine jk_get (C := RX3) (T := TX3) (N := 11) (nm := "now") (ds := "[I") (v := .ref (m 6)) K dX3_digest_63 hin_RX3 (by decide +kernel) (X.length + 0) hm_x0 rfl 6 rfl (by decide) rfl ?_
  refine jk_iconst (x := 3) K dX3_digest_66 rfl ?_
  refine jk_iald (v := (S 3)) K dX3_digest_67 (X.length + 5) hm_a6 (vp_in_nI (n := 3) (by decide) (by decide)) (hm_now_s _ _ (k := 3) (by decide)) ?_
  refine jk_iast (w' := (hm_M E X (Y ++ [(q7, .inl (E.2 0, 7, .inl (upd (upd (upd (upd (upd (upd (upd (fun _ => 0) 0 (nI n)) 1 (S 0)) 2 (S 4)) 3 (S 1)) 4 (hm_bu N n)) 5 (S 2)) 6 (S 3))))]) m 0 (nI n) S N a)) K dX3_digest_68 (X.length + 10 + Y.length) hm_y (vp_in_nI (n := 6) (by decide) (by decide)) (by rw [show Int32.toNatClampNeg 6 = 6 from by decide]; exact hm_yset) ?_
  refine jk_astore_n (lv' := [(1, .ref q7), (0, .ref (m 0))]) K dX3_digest_69 rfl (by decide) rfl ?_
  refine jk_ldc2 (v := 1883) K dX3_digest_70 (by decide +kernel) ?_
  refine jk_lstore_n (lv' := [(2, .long 1883), (1, .ref q7), (0, .ref (m 0))]) K dX3_digest_73 rfl (by decide) rfl ?_
  refine jk_aload_n K dX3_digest_74 rfl 1 rfl ?_
  refine jk_astore (lv' := [(4, .ref q7), (2, .long 1883), (1, .ref q7), (0, .ref (m 0))]) K dX3_digest_75 (by decide) rfl ?_
  refine jk_aload K dX3_digest_77 0 rfl ?_
  refine jk_alen (v := (nI 7)) K dX3_digest_79 (X.length + 10 + Y.length) 0 hm_y rfl rfl ?_
  refine jk_istore (lv' := [(5, .int (nI 7)), (4, .ref q7), (2, .long 1883), (1, .ref q7), (0, .ref (m 0))]) K dX3_digest_80 (by decide) rfl ?_
  refine jk_iconst (x := 0) K dX3_digest_82 rfl ?_
  refine jk_istore (lv' := [(6, .int 0), (5, .int (nI 7)), (4, .ref q7), (2, .long 1883), (1, .ref q7), (0, .ref (m 0))]) K dX3_digest_83 (by decide) rfl ?_
  have hE : ∀ i, i ≤ n → jk_J Γ E (hm_M E X Y m 0 (nI n) S N a) 11 117 342 [(4, .int (nI i)), (2, .long (hm_ds (S 4) (a 5) n (hm_dhs N a (hm_dl S N n) n) i)), (0, .ref (m 0))] [] := by
    refine jk_loop (fun i hi ih => ?_)
    refine jk_iload K dX3_digest_342 0 rfl ?_
    refine jk_aload_n K dX3_digest_344 rfl 2 rfl ?_
    refine jk_get (C := RX3) (T := TX3) (N := 11) (nm := "hills") (ds := "I") (v := .int (nI n)) K dX3_digest_345 hin_RX3 (by decide +kernel) (X.length + 0) hm_x0 rfl 1 rfl (by decide) rfl ?_
    refine jk_icmp_ge (tgt := 420) K dX3_digest_348 rfl (fun c_348 => ?_) (fun c_348 => ?_)
    · have hin9 : i = n := hb_ex rfl (by omega) hi c_348
      refine jk_lload_n K dX3_digest_420 rfl 1 rfl ?_
      exact jk_lret K hz dX3_digest_421 () (by rw [hin9]; rfl) trivial rfl (Nat.le_of_ble_eq_true rfl) (Nat.le_of_ble_eq_true rfl)
    · have hlt : i < n := hb_in rfl (by omega) hi c_348
      refine jk_iconst (x := 0) K dX3_digest_351 rfl ?_
      refine jk_istore (lv' := [(5, .int 0), (4, .int (nI i)), (2, .long (hm_ds (S 4) (a 5) n (hm_dhs N a (hm_dl S N n) n) i)), (0, .ref (m 0))]) K dX3_digest_352 (by decide) rfl ?_
      have hR : ∀ t, t ≤ n → jk_J Γ E (hm_M E X Y m 0 (nI n) S N a) 11 117 354 [(5, .int (nI t)), (2, .long (hm_dr (S 4) (a 5) i (hm_ds (S 4) (a 5) n (hm_dhs N a (hm_dl S N n) n) i) t)), (4, .int (nI i)), (0, .ref (m 0))] [] := by
        refine jk_loop (fun t ht iht => ?_)
        refine jk_iload K dX3_digest_354 0 rfl ?_
        refine jk_aload_n K dX3_digest_356 rfl 3 rfl ?_
        refine jk_get (C := RX3) (T := TX3) (N := 11) (nm := "hills") (ds := "I") (v := .int (nI n)) K dX3_digest_357 hin_RX3 (by decide +kernel) (X.length + 0) hm_x0 rfl 1 rfl (by decide) rfl ?_
        refine jk_icmp_ge (tgt := 414) K dX3_digest_360 rfl (fun c_360 => ?_) (fun c_360 => ?_)
        · have htn : t = n := hb_ex rfl (by omega) ht c_360
          refine jk_iinc (v := (nI (i + 1))) (lv' := [(4, .int (nI (i + 1))), (5, .int (nI t)), (2, .long (hm_dr (S 4) (a 5) i (hm_ds (S 4) (a 5) n (hm_dhs N a (hm_dl S N n) n) i) t)), (0, .ref (m 0))]) K dX3_digest_414 2 rfl (nI_1 i) (by decide) rfl ?_
          refine jk_goto (tgt := 342) K dX3_digest_417 rfl ?_
          refine jk_sub (lv' := [(4, .int (nI (i + 1))), (2, .long (hm_dr (S 4) (a 5) i (hm_ds (S 4) (a 5) n (hm_dhs N a (hm_dl S N n) n) i) t)), (0, .ref (m 0))]) [0, 2, 3] rfl ?_
          refine jk_lv (lv' := [(4, .int (nI (i + 1))), (2, .long (hm_ds (S 4) (a 5) n (hm_dhs N a (hm_dl S N n) n) (i + 1))), (0, .ref (m 0))]) (by rw [htn]; rfl) ?_
          exact ih hlt
        · have htl : t < n := hb_in rfl (by omega) ht c_360
          refine jk_lload_n K dX3_digest_363 rfl 1 rfl ?_
          refine jk_ldc2 (v := 31) K dX3_digest_364 (by decide +kernel) ?_
          refine jk_lmul K dX3_digest_367 ?_
          refine jk_aload_n K dX3_digest_368 rfl 3 rfl ?_
          refine jk_get (C := RX3) (T := TX3) (N := 11) (nm := "miles") (ds := "[I") (v := .ref (m 5)) K dX3_digest_369 hin_RX3 (by decide +kernel) (X.length + 0) hm_x0 rfl 5 rfl (by decide) rfl ?_
          refine jk_bipush (x := (nI 10)) K dX3_digest_372 rfl ?_
          refine jk_iload K dX3_digest_374 2 rfl ?_
          refine jk_imul K dX3_digest_376 ?_
          refine jk_iload K dX3_digest_377 0 rfl ?_
          refine jk_iadd K dX3_digest_379 ?_
          refine jk_st (st' := [.int (nI (i * 10 + t)), .ref (m 5), .long ((hm_dr (S 4) (a 5) i (hm_ds (S 4) (a 5) n (hm_dhs N a (hm_dl S N n) n) i) t) * 31)]) (by rw [pk_mul, nI_add, Nat.mul_comm 10 i]) ?_
          refine jk_iald (v := (a 5 (i * 10 + t))) K dX3_digest_380 (X.length + 4) hm_a5 (vp_in_nI (by omega) (by decide)) (by rw [nI_clamp (by omega)]) ?_
          refine jk_i2l K dX3_digest_381 ?_
          refine jk_ladd K dX3_digest_382 ?_
          refine jk_lstore_n (lv' := [(2, .long (((hm_dr (S 4) (a 5) i (hm_ds (S 4) (a 5) n (hm_dhs N a (hm_dl S N n) n) i) t) * 31) + (Int32.toInt64 (a 5 (i * 10 + t))))), (5, .int (nI t)), (4, .int (nI i)), (0, .ref (m 0))]) K dX3_digest_383 rfl (by decide) rfl ?_
          refine jk_lload_n K dX3_digest_384 rfl 0 rfl ?_
          refine jk_ldc2 (v := 31) K dX3_digest_385 (by decide +kernel) ?_
          refine jk_lmul K dX3_digest_388 ?_
          refine jk_aload_n K dX3_digest_389 rfl 3 rfl ?_
          refine jk_iload K dX3_digest_390 2 rfl ?_
          refine jk_iload K dX3_digest_392 1 rfl ?_
          refine jk_cVi K (n' := 11) (k' := 117) [.int (nI i), .int (nI t)] [.long ((((hm_dr (S 4) (a 5) i (hm_ds (S 4) (a 5) n (hm_dhs N a (hm_dl S N n) n) i) t) * 31) + (Int32.toInt64 (a 5 (i * 10 + t)))) * 31)] dX3_digest_394 (hb_X3_sees _ hl E X Y m 0 S N a n hn i t (Nat.lt_of_lt_of_le hlt hn) (Nat.lt_of_lt_of_le htl hn)) gX3_digest_X3_sees rfl kd_X3_sees ⟨Nat.le_of_ble_eq_true rfl, Nat.le_of_ble_eq_true rfl⟩ (X.length + 0) hm_x0 rfl (Nat.le_of_ble_eq_true rfl) ⟨rfl, rfl⟩ ⟨Nat.le_of_ble_eq_true rfl, Nat.le_of_ble_eq_true rfl⟩ rfl (fun _ _ => ?_)
          have hJ405 : jk_J Γ E (hm_M E X Y m 0 (nI n) S N a) 11 117 405 [(2, .long (((hm_dr (S 4) (a 5) i (hm_ds (S 4) (a 5) n (hm_dhs N a (hm_dl S N n) n) i) t) * 31) + (Int32.toInt64 (a 5 (i * 10 + t))))), (5, .int (nI t)), (4, .int (nI i)), (0, .ref (m 0))] [.int (if hb_clr (S 4) (a 5 (i * 10 + t)) = 0 then (0 : Int32) else 1), .long ((((hm_dr (S 4) (a 5) i (hm_ds (S 4) (a 5) n (hm_dhs N a (hm_dl S N n) n) i) t) * 31) + (Int32.toInt64 (a 5 (i * 10 + t)))) * 31)] := by
            refine jk_i2l K dX3_digest_405 ?_
            refine jk_ladd K dX3_digest_406 ?_
            refine jk_lstore_n (lv' := [(2, .long (((((hm_dr (S 4) (a 5) i (hm_ds (S 4) (a 5) n (hm_dhs N a (hm_dl S N n) n) i) t) * 31) + (Int32.toInt64 (a 5 (i * 10 + t)))) * 31) + (Int32.toInt64 (if hb_clr (S 4) (a 5 (i * 10 + t)) = 0 then (0 : Int32) else 1)))), (5, .int (nI t)), (4, .int (nI i)), (0, .ref (m 0))]) K dX3_digest_407 rfl (by decide) rfl ?_
            refine jk_iinc (v := (nI (t + 1))) (lv' := [(5, .int (nI (t + 1))), (2, .long (((((hm_dr (S 4) (a 5) i (hm_ds (S 4) (a 5) n (hm_dhs N a (hm_dl S N n) n) i) t) * 31) + (Int32.toInt64 (a 5 (i * 10 + t)))) * 31) + (Int32.toInt64 (if hb_clr (S 4) (a 5 (i * 10 + t)) = 0 then (0 : Int32) else 1)))), (4, .int (nI i)), (0, .ref (m 0))]) K dX3_digest_408 1 rfl (nI_1 t) (by decide) rfl ?_
            refine jk_goto (tgt := 354) K dX3_digest_411 rfl ?_
            refine jk_lv (lv' := [(5, .int (nI (t + 1))), (2, .long (hm_dr (S 4) (a 5) i (hm_ds (S 4) (a 5) n (hm_dhs N a (hm_dl S N n) n) i) (t + 1))), (4, .int (nI i)), (0, .ref (m 0))]) rfl ?_
            exact iht htl
          refine jk_if_eq (tgt := 404) K dX3_digest_397 rfl (fun c_397 => ?_) (fun c_397 => ?_)
          · refine jk_iconst (x := 0) K dX3_digest_404 rfl ?_
            refine jk_st (st' := [.int (if hb_clr (S 4) (a 5 (i * 10 + t)) = 0 then (0 : Int32) else 1), .long ((((hm_dr (S 4) (a 5) i (hm_ds (S 4) (a 5) n (hm_dhs N a (hm_dl S N n) n) i) t) * 31) + (Int32.toInt64 (a 5 (i * 10 + t)))) * 31)]) (by rw [if_pos c_397]) ?_
            exact hJ405
          · refine jk_iconst (x := 1) K dX3_digest_400 rfl ?_
            refine jk_goto (tgt := 405) K dX3_digest_401 rfl ?_
            refine jk_st (st' := [.int (if hb_clr (S 4) (a 5 (i * 10 + t)) = 0 then (0 : Int32) else 1), .long ((((hm_dr (S 4) (a 5) i (hm_ds (S 4) (a 5) n (hm_dhs N a (hm_dl S N n) n) i) t) * 31) + (Int32.toInt64 (a 5 (i * 10 + t)))) * 31)]) (by rw [if_neg c_397]) ?_
            exact hJ405
      refine jk_sub (lv' := [(5, .int 0), (2, .long (hm_ds (S 4) (a 5) n (hm_dhs N a (hm_dl S N n) n) i)), (4, .int (nI i)), (0, .ref (m 0))]) [0, 2, 1, 3] rfl ?_
      refine jk_lv (lv' := [(5, .int (nI 0)), (2, .long (hm_dr (S 4) (a 5) i (hm_ds (S 4) (a 5) n (hm_dhs N a (hm_dl S N n) n) i) 0)), (4, .int (nI i)), (0, .ref (m 0))]) rfl ?_
      exact hR 0 (Nat.zero_le _)
  have hC : ∀ j, j ≤ n → jk_J Γ E (hm_M E X Y m 0 (nI n) S N a) (1 + j) (7 + 11 * j) 118 [(4, .int (nI j)), (2, .long (hm_dhs N a (hm_dl S N n) j)), (0, .ref (m 0))] [] := by
    refine jk_loop (fun j hj ih => ?_)
    refine jk_iload K dX3_digest_118 0 rfl ?_
    refine jk_aload_n K dX3_digest_120 rfl 2 rfl ?_
    refine jk_get (C := RX3) (T := TX3) (N := 11) (nm := "hills") (ds := "I") (v := .int (nI n)) K dX3_digest_121 hin_RX3 (by decide +kernel) (X.length + 0) hm_x0 rfl 1 rfl (by decide) rfl ?_
    refine jk_icmp_ge (tgt := 339) K dX3_digest_124 rfl (fun c_124 => ?_) (fun c_124 => ?_)
    · have hjn : j = n := hb_ex rfl (by omega) hj c_124
      refine jk_iconst (x := 0) K dX3_digest_339 rfl ?_
      refine jk_istore (lv' := [(4, .int 0), (2, .long (hm_dhs N a (hm_dl S N n) j)), (0, .ref (m 0))]) K dX3_digest_340 (by decide) rfl ?_
      refine jk_wide (n' := 11) (k' := 117) (by omega) (by omega) ?_
      refine jk_lv (lv' := [(4, .int (nI 0)), (2, .long (hm_ds (S 4) (a 5) n (hm_dhs N a (hm_dl S N n) n) 0)), (0, .ref (m 0))]) (by rw [hjn]; rfl) ?_
      exact hE 0 (Nat.zero_le _)
    · have hlt : j < n := hb_in rfl (by omega) hj c_124
      refine jk_aload_n K dX3_digest_127 rfl 2 rfl ?_
      refine jk_iload K dX3_digest_128 0 rfl ?_
      refine jk_iconst (x := 1) K dX3_digest_130 rfl ?_
      refine jk_cVi K (n' := (1 + j)) (k' := (7 + 11 * j)) [.int (nI j), .int (nI 1)] [] dX3_digest_131 (hb_X3_hi _ hl E X Y m 0 S N a n hn j 1 (Nat.lt_of_lt_of_le hlt hn) (by decide)) gX3_digest_X3_hi rfl kd_X3_hi ⟨Nat.le_of_ble_eq_true rfl, Nat.le_of_ble_eq_true rfl⟩ (X.length + 0) hm_x0 rfl (Nat.le_of_ble_eq_true rfl) ⟨rfl, rfl⟩ ⟨(by show _ ≤ 11; omega), (by show _ ≤ 117; omega)⟩ rfl (fun _ _ => ?_)
      refine jk_istore (lv' := [(5, .int (N j 1)), (4, .int (nI j)), (2, .long (hm_dhs N a (hm_dl S N n) j)), (0, .ref (m 0))]) K dX3_digest_134 (by decide) rfl ?_
      refine jk_bipush (x := 11) K dX3_digest_136 rfl ?_
      refine jk_newI (ty := .int) (z := 11) (ti := 0) (a0 := (11, .inl (fun _ => 0))) K dX3_digest_138 (by decide +kernel) rfl rfl (fun _ _ => rfl) (fun _ => rfl) (by decide) (by decide) (by show _ ≤ 11; omega) (by show _ ≤ 117; omega) (fun q138 => ?_)
      refine jk_ws (ws' := (hm_M E X (Y ++ [(q138, .inl (E.2 0, 11, .inl (fun _ => 0)))]) m 0 (nI n) S N a)) hm_ext ?_
      refine jk_dup K dX3_digest_140 rfl ?_
      refine jk_iconst (x := 0) K dX3_digest_141 rfl ?_
      refine jk_aload_n K dX3_digest_142 rfl 3 rfl ?_
      refine jk_iload K dX3_digest_143 1 rfl ?_
      refine jk_iconst (x := 0) K dX3_digest_145 rfl ?_
      refine jk_cVi K (n' := ((1 + j) + 1)) (k' := ((7 + 11 * j) + 11)) [.int (nI j), .int (nI 0)] [.int 0, .ref q138, .ref q138] dX3_digest_146 (hb_X3_hi _ hl E X (Y ++ [(q138, .inl (E.2 0, 11, .inl (fun _ => 0)))]) m 0 S N a n hn j 0 (Nat.lt_of_lt_of_le hlt hn) (by decide)) gX3_digest_X3_hi rfl kd_X3_hi ⟨Nat.le_of_ble_eq_true rfl, Nat.le_of_ble_eq_true rfl⟩ (X.length + 0) hm_x0 rfl (Nat.le_of_ble_eq_true rfl) ⟨rfl, rfl⟩ ⟨(by show _ ≤ 11; omega), (by show _ ≤ 117; omega)⟩ rfl (fun _ _ => ?_)
      refine jk_iast (w' := (hm_M E X (Y ++ [(q138, .inl (E.2 0, 11, .inl (upd (fun _ => 0) 0 (N j 0))))]) m 0 (nI n) S N a)) K dX3_digest_149 (X.length + 10 + Y.length) hm_y (vp_in_nI (n := 0) (by decide) (by decide)) (by rw [show Int32.toNatClampNeg 0 = 0 from by decide]; exact hm_yset) ?_
      refine jk_dup K dX3_digest_150 rfl ?_
      refine jk_iconst (x := 1) K dX3_digest_151 rfl ?_
      refine jk_aload_n K dX3_digest_152 rfl 3 rfl ?_
      refine jk_iload K dX3_digest_153 1 rfl ?_
      refine jk_bipush (x := 6) K dX3_digest_155 rfl ?_
      refine jk_cVi K (n' := ((1 + j) + 1)) (k' := ((7 + 11 * j) + 11)) [.int (nI j), .int (nI 6)] [.int 1, .ref q138, .ref q138] dX3_digest_157 (hb_X3_hi _ hl E X (Y ++ [(q138, .inl (E.2 0, 11, .inl (upd (fun _ => 0) 0 (N j 0))))]) m 0 S N a n hn j 6 (Nat.lt_of_lt_of_le hlt hn) (by decide)) gX3_digest_X3_hi rfl kd_X3_hi ⟨Nat.le_of_ble_eq_true rfl, Nat.le_of_ble_eq_true rfl⟩ (X.length + 0) hm_x0 rfl (Nat.le_of_ble_eq_true rfl) ⟨rfl, rfl⟩ ⟨(by show _ ≤ 11; omega), (by show _ ≤ 117; omega)⟩ rfl (fun _ _ => ?_)
      refine jk_iast (w' := (hm_M E X (Y ++ [(q138, .inl (E.2 0, 11, .inl (upd (upd (fun _ => 0) 0 (N j 0)) 1 (N j 6))))]) m 0 (nI n) S N a)) K dX3_digest_160 (X.length + 10 + Y.length) hm_y (vp_in_nI (n := 1) (by decide) (by decide)) (by rw [show Int32.toNatClampNeg 1 = 1 from by decide]; exact hm_yset) ?_
      refine jk_dup K dX3_digest_161 rfl ?_
      refine jk_iconst (x := 2) K dX3_digest_162 rfl ?_
      refine jk_aload_n K dX3_digest_163 rfl 3 rfl ?_
      refine jk_get (C := RX3) (T := TX3) (N := 11) (nm := "watch") (ds := "[I") (v := .ref (m 2)) K dX3_digest_164 hin_RX3 (by decide +kernel) (X.length + 0) hm_x0 rfl 2 rfl (by decide) rfl ?_
      refine jk_iload K dX3_digest_167 1 rfl ?_
      refine jk_iald (v := (a 2 j)) K dX3_digest_169 (X.length + 1) hm_a2 (vp_in_nI (by omega) (by decide)) (by rw [nI_clamp (by omega)]) ?_
      refine jk_iast (w' := (hm_M E X (Y ++ [(q138, .inl (E.2 0, 11, .inl (upd (upd (upd (fun _ => 0) 0 (N j 0)) 1 (N j 6)) 2 (a 2 j))))]) m 0 (nI n) S N a)) K dX3_digest_170 (X.length + 10 + Y.length) hm_y (vp_in_nI (n := 2) (by decide) (by decide)) (by rw [show Int32.toNatClampNeg 2 = 2 from by decide]; exact hm_yset) ?_
      refine jk_dup K dX3_digest_171 rfl ?_
      refine jk_iconst (x := 3) K dX3_digest_172 rfl ?_
      refine jk_aload_n K dX3_digest_173 rfl 3 rfl ?_
      refine jk_get (C := RX3) (T := TX3) (N := 11) (nm := "east") (ds := "[Z") (v := .ref (m 3)) K dX3_digest_174 hin_RX3 (by decide +kernel) (X.length + 0) hm_x0 rfl 3 rfl (by decide) rfl ?_
      refine jk_iload K dX3_digest_177 1 rfl ?_
      refine jk_zald (v := (hb_zb (a 3 j))) K dX3_digest_179 (X.length + 2) hm_a3 (vp_in_nI (by omega) (by decide)) (by rw [nI_clamp (by omega)]) ?_
      have hJ188 : jk_J Γ E (hm_M E X (Y ++ [(q138, .inl (E.2 0, 11, .inl (upd (upd (upd (fun _ => 0) 0 (N j 0)) 1 (N j 6)) 2 (a 2 j))))]) m 0 (nI n) S N a) ((1 + j) + 1) ((7 + 11 * j) + 11) 188 [(5, .int (N j 1)), (4, .int (nI j)), (2, .long (hm_dhs N a (hm_dl S N n) j)), (0, .ref (m 0))] [.int (if hb_zb (a 3 j) = 0 then (0 : Int32) else 1), .int 3, .ref q138, .ref q138] := by
        refine jk_iast (w' := (hm_M E X (Y ++ [(q138, .inl (E.2 0, 11, .inl (upd (upd (upd (upd (fun _ => 0) 0 (N j 0)) 1 (N j 6)) 2 (a 2 j)) 3 (if hb_zb (a 3 j) = 0 then (0 : Int32) else 1))))]) m 0 (nI n) S N a)) K dX3_digest_188 (X.length + 10 + Y.length) hm_y (vp_in_nI (n := 3) (by decide) (by decide)) (by rw [show Int32.toNatClampNeg 3 = 3 from by decide]; exact hm_yset) ?_
        refine jk_dup K dX3_digest_189 rfl ?_
        refine jk_iconst (x := 4) K dX3_digest_190 rfl ?_
        refine jk_aload_n K dX3_digest_191 rfl 3 rfl ?_
        refine jk_get (C := RX3) (T := TX3) (N := 11) (nm := "post") (ds := "[Z") (v := .ref (m 4)) K dX3_digest_192 hin_RX3 (by decide +kernel) (X.length + 0) hm_x0 rfl 4 rfl (by decide) rfl ?_
        refine jk_iload K dX3_digest_195 1 rfl ?_
        refine jk_zald (v := (hb_zb (a 4 j))) K dX3_digest_197 (X.length + 3) hm_a4 (vp_in_nI (by omega) (by decide)) (by rw [nI_clamp (by omega)]) ?_
        have hJ206 : jk_J Γ E (hm_M E X (Y ++ [(q138, .inl (E.2 0, 11, .inl (upd (upd (upd (upd (fun _ => 0) 0 (N j 0)) 1 (N j 6)) 2 (a 2 j)) 3 (if hb_zb (a 3 j) = 0 then (0 : Int32) else 1))))]) m 0 (nI n) S N a) ((1 + j) + 1) ((7 + 11 * j) + 11) 206 [(5, .int (N j 1)), (4, .int (nI j)), (2, .long (hm_dhs N a (hm_dl S N n) j)), (0, .ref (m 0))] [.int (if hb_zb (a 4 j) = 0 then (0 : Int32) else 1), .int 4, .ref q138, .ref q138] := by
          refine jk_iast (w' := (hm_M E X (Y ++ [(q138, .inl (E.2 0, 11, .inl (upd (upd (upd (upd (upd (fun _ => 0) 0 (N j 0)) 1 (N j 6)) 2 (a 2 j)) 3 (if hb_zb (a 3 j) = 0 then (0 : Int32) else 1)) 4 (if hb_zb (a 4 j) = 0 then (0 : Int32) else 1))))]) m 0 (nI n) S N a)) K dX3_digest_206 (X.length + 10 + Y.length) hm_y (vp_in_nI (n := 4) (by decide) (by decide)) (by rw [show Int32.toNatClampNeg 4 = 4 from by decide]; exact hm_yset) ?_
          refine jk_dup K dX3_digest_207 rfl ?_
          refine jk_iconst (x := 5) K dX3_digest_208 rfl ?_
          refine jk_iload K dX3_digest_209 0 rfl ?_
          have hJ219 : jk_J Γ E (hm_M E X (Y ++ [(q138, .inl (E.2 0, 11, .inl (upd (upd (upd (upd (upd (fun _ => 0) 0 (N j 0)) 1 (N j 6)) 2 (a 2 j)) 3 (if hb_zb (a 3 j) = 0 then (0 : Int32) else 1)) 4 (if hb_zb (a 4 j) = 0 then (0 : Int32) else 1))))]) m 0 (nI n) S N a) ((1 + j) + 1) ((7 + 11 * j) + 11) 219 [(5, .int (N j 1)), (4, .int (nI j)), (2, .long (hm_dhs N a (hm_dl S N n) j)), (0, .ref (m 0))] [.int (if N j 1 = 0 then (1 : Int32) else 0), .int 5, .ref q138, .ref q138] := by
            refine jk_iast (w' := (hm_M E X (Y ++ [(q138, .inl (E.2 0, 11, .inl (upd (upd (upd (upd (upd (upd (fun _ => 0) 0 (N j 0)) 1 (N j 6)) 2 (a 2 j)) 3 (if hb_zb (a 3 j) = 0 then (0 : Int32) else 1)) 4 (if hb_zb (a 4 j) = 0 then (0 : Int32) else 1)) 5 (if N j 1 = 0 then (1 : Int32) else 0))))]) m 0 (nI n) S N a)) K dX3_digest_219 (X.length + 10 + Y.length) hm_y (vp_in_nI (n := 5) (by decide) (by decide)) (by rw [show Int32.toNatClampNeg 5 = 5 from by decide]; exact hm_yset) ?_
            refine jk_dup K dX3_digest_220 rfl ?_
            refine jk_bipush (x := 6) K dX3_digest_221 rfl ?_
            refine jk_iload K dX3_digest_223 0 rfl ?_
            refine jk_iconst (x := 2) K dX3_digest_225 rfl ?_
            have hJ234 : jk_J Γ E (hm_M E X (Y ++ [(q138, .inl (E.2 0, 11, .inl (upd (upd (upd (upd (upd (upd (fun _ => 0) 0 (N j 0)) 1 (N j 6)) 2 (a 2 j)) 3 (if hb_zb (a 3 j) = 0 then (0 : Int32) else 1)) 4 (if hb_zb (a 4 j) = 0 then (0 : Int32) else 1)) 5 (if N j 1 = 0 then (1 : Int32) else 0))))]) m 0 (nI n) S N a) ((1 + j) + 1) ((7 + 11 * j) + 11) 234 [(5, .int (N j 1)), (4, .int (nI j)), (2, .long (hm_dhs N a (hm_dl S N n) j)), (0, .ref (m 0))] [.int (if N j 1 = 2 then (1 : Int32) else 0), .int 6, .ref q138, .ref q138] := by
              refine jk_iast (w' := (hm_M E X (Y ++ [(q138, .inl (E.2 0, 11, .inl (upd (upd (upd (upd (upd (upd (upd (fun _ => 0) 0 (N j 0)) 1 (N j 6)) 2 (a 2 j)) 3 (if hb_zb (a 3 j) = 0 then (0 : Int32) else 1)) 4 (if hb_zb (a 4 j) = 0 then (0 : Int32) else 1)) 5 (if N j 1 = 0 then (1 : Int32) else 0)) 6 (if N j 1 = 2 then (1 : Int32) else 0))))]) m 0 (nI n) S N a)) K dX3_digest_234 (X.length + 10 + Y.length) hm_y (vp_in_nI (n := 6) (by decide) (by decide)) (by rw [show Int32.toNatClampNeg 6 = 6 from by decide]; exact hm_yset) ?_
              refine jk_dup K dX3_digest_235 rfl ?_
              refine jk_bipush (x := 7) K dX3_digest_236 rfl ?_
              refine jk_aload_n K dX3_digest_238 rfl 3 rfl ?_
              refine jk_iload K dX3_digest_239 1 rfl ?_
              refine jk_iconst (x := 2) K dX3_digest_241 rfl ?_
              refine jk_cVi K (n' := ((1 + j) + 1)) (k' := ((7 + 11 * j) + 11)) [.int (nI j), .int (nI 2)] [.int 7, .ref q138, .ref q138] dX3_digest_242 (hb_X3_hi _ hl E X (Y ++ [(q138, .inl (E.2 0, 11, .inl (upd (upd (upd (upd (upd (upd (upd (fun _ => 0) 0 (N j 0)) 1 (N j 6)) 2 (a 2 j)) 3 (if hb_zb (a 3 j) = 0 then (0 : Int32) else 1)) 4 (if hb_zb (a 4 j) = 0 then (0 : Int32) else 1)) 5 (if N j 1 = 0 then (1 : Int32) else 0)) 6 (if N j 1 = 2 then (1 : Int32) else 0))))]) m 0 S N a n hn j 2 (Nat.lt_of_lt_of_le hlt hn) (by decide)) gX3_digest_X3_hi rfl kd_X3_hi ⟨Nat.le_of_ble_eq_true rfl, Nat.le_of_ble_eq_true rfl⟩ (X.length + 0) hm_x0 rfl (Nat.le_of_ble_eq_true rfl) ⟨rfl, rfl⟩ ⟨(by show _ ≤ 11; omega), (by show _ ≤ 117; omega)⟩ rfl (fun _ _ => ?_)
              refine jk_iast (w' := (hm_M E X (Y ++ [(q138, .inl (E.2 0, 11, .inl (upd (upd (upd (upd (upd (upd (upd (upd (fun _ => 0) 0 (N j 0)) 1 (N j 6)) 2 (a 2 j)) 3 (if hb_zb (a 3 j) = 0 then (0 : Int32) else 1)) 4 (if hb_zb (a 4 j) = 0 then (0 : Int32) else 1)) 5 (if N j 1 = 0 then (1 : Int32) else 0)) 6 (if N j 1 = 2 then (1 : Int32) else 0)) 7 (N j 2))))]) m 0 (nI n) S N a)) K dX3_digest_245 (X.length + 10 + Y.length) hm_y (vp_in_nI (n := 7) (by decide) (by decide)) (by rw [show Int32.toNatClampNeg 7 = 7 from by decide]; exact hm_yset) ?_
              refine jk_dup K dX3_digest_246 rfl ?_
              refine jk_bipush (x := 8) K dX3_digest_247 rfl ?_
              refine jk_aload_n K dX3_digest_249 rfl 3 rfl ?_
              refine jk_iload K dX3_digest_250 1 rfl ?_
              refine jk_iconst (x := 3) K dX3_digest_252 rfl ?_
              refine jk_cVi K (n' := ((1 + j) + 1)) (k' := ((7 + 11 * j) + 11)) [.int (nI j), .int (nI 3)] [.int 8, .ref q138, .ref q138] dX3_digest_253 (hb_X3_hi _ hl E X (Y ++ [(q138, .inl (E.2 0, 11, .inl (upd (upd (upd (upd (upd (upd (upd (upd (fun _ => 0) 0 (N j 0)) 1 (N j 6)) 2 (a 2 j)) 3 (if hb_zb (a 3 j) = 0 then (0 : Int32) else 1)) 4 (if hb_zb (a 4 j) = 0 then (0 : Int32) else 1)) 5 (if N j 1 = 0 then (1 : Int32) else 0)) 6 (if N j 1 = 2 then (1 : Int32) else 0)) 7 (N j 2))))]) m 0 S N a n hn j 3 (Nat.lt_of_lt_of_le hlt hn) (by decide)) gX3_digest_X3_hi rfl kd_X3_hi ⟨Nat.le_of_ble_eq_true rfl, Nat.le_of_ble_eq_true rfl⟩ (X.length + 0) hm_x0 rfl (Nat.le_of_ble_eq_true rfl) ⟨rfl, rfl⟩ ⟨(by show _ ≤ 11; omega), (by show _ ≤ 117; omega)⟩ rfl (fun _ _ => ?_)
              refine jk_iast (w' := (hm_M E X (Y ++ [(q138, .inl (E.2 0, 11, .inl (upd (upd (upd (upd (upd (upd (upd (upd (upd (fun _ => 0) 0 (N j 0)) 1 (N j 6)) 2 (a 2 j)) 3 (if hb_zb (a 3 j) = 0 then (0 : Int32) else 1)) 4 (if hb_zb (a 4 j) = 0 then (0 : Int32) else 1)) 5 (if N j 1 = 0 then (1 : Int32) else 0)) 6 (if N j 1 = 2 then (1 : Int32) else 0)) 7 (N j 2)) 8 (N j 3))))]) m 0 (nI n) S N a)) K dX3_digest_256 (X.length + 10 + Y.length) hm_y (vp_in_nI (n := 8) (by decide) (by decide)) (by rw [show Int32.toNatClampNeg 8 = 8 from by decide]; exact hm_yset) ?_
              refine jk_dup K dX3_digest_257 rfl ?_
              refine jk_bipush (x := 9) K dX3_digest_258 rfl ?_
              refine jk_iload K dX3_digest_260 0 rfl ?_
              have hJ277 : jk_J Γ E (hm_M E X (Y ++ [(q138, .inl (E.2 0, 11, .inl (upd (upd (upd (upd (upd (upd (upd (upd (upd (fun _ => 0) 0 (N j 0)) 1 (N j 6)) 2 (a 2 j)) 3 (if hb_zb (a 3 j) = 0 then (0 : Int32) else 1)) 4 (if hb_zb (a 4 j) = 0 then (0 : Int32) else 1)) 5 (if N j 1 = 0 then (1 : Int32) else 0)) 6 (if N j 1 = 2 then (1 : Int32) else 0)) 7 (N j 2)) 8 (N j 3))))]) m 0 (nI n) S N a) ((1 + j) + 1) ((7 + 11 * j) + 11) 277 [(5, .int (N j 1)), (4, .int (nI j)), (2, .long (hm_dhs N a (hm_dl S N n) j)), (0, .ref (m 0))] [.int (if N j 1 = 0 then (-2 : Int32) else N j 4), .int 9, .ref q138, .ref q138] := by
                refine jk_iast (w' := (hm_M E X (Y ++ [(q138, .inl (E.2 0, 11, .inl (upd (upd (upd (upd (upd (upd (upd (upd (upd (upd (fun _ => 0) 0 (N j 0)) 1 (N j 6)) 2 (a 2 j)) 3 (if hb_zb (a 3 j) = 0 then (0 : Int32) else 1)) 4 (if hb_zb (a 4 j) = 0 then (0 : Int32) else 1)) 5 (if N j 1 = 0 then (1 : Int32) else 0)) 6 (if N j 1 = 2 then (1 : Int32) else 0)) 7 (N j 2)) 8 (N j 3)) 9 (if N j 1 = 0 then (-2 : Int32) else N j 4))))]) m 0 (nI n) S N a)) K dX3_digest_277 (X.length + 10 + Y.length) hm_y (vp_in_nI (n := 9) (by decide) (by decide)) (by rw [show Int32.toNatClampNeg 9 = 9 from by decide]; exact hm_yset) ?_
                refine jk_dup K dX3_digest_278 rfl ?_
                refine jk_bipush (x := 10) K dX3_digest_279 rfl ?_
                refine jk_aload_n K dX3_digest_281 rfl 3 rfl ?_
                refine jk_iload K dX3_digest_282 1 rfl ?_
                refine jk_iconst (x := 5) K dX3_digest_284 rfl ?_
                refine jk_cVi K (n' := ((1 + j) + 1)) (k' := ((7 + 11 * j) + 11)) [.int (nI j), .int (nI 5)] [.int 10, .ref q138, .ref q138] dX3_digest_285 (hb_X3_hi _ hl E X (Y ++ [(q138, .inl (E.2 0, 11, .inl (upd (upd (upd (upd (upd (upd (upd (upd (upd (upd (fun _ => 0) 0 (N j 0)) 1 (N j 6)) 2 (a 2 j)) 3 (if hb_zb (a 3 j) = 0 then (0 : Int32) else 1)) 4 (if hb_zb (a 4 j) = 0 then (0 : Int32) else 1)) 5 (if N j 1 = 0 then (1 : Int32) else 0)) 6 (if N j 1 = 2 then (1 : Int32) else 0)) 7 (N j 2)) 8 (N j 3)) 9 (if N j 1 = 0 then (-2 : Int32) else N j 4))))]) m 0 S N a n hn j 5 (Nat.lt_of_lt_of_le hlt hn) (by decide)) gX3_digest_X3_hi rfl kd_X3_hi ⟨Nat.le_of_ble_eq_true rfl, Nat.le_of_ble_eq_true rfl⟩ (X.length + 0) hm_x0 rfl (Nat.le_of_ble_eq_true rfl) ⟨rfl, rfl⟩ ⟨(by show _ ≤ 11; omega), (by show _ ≤ 117; omega)⟩ rfl (fun _ _ => ?_)
                refine jk_iast (w' := (hm_M E X (Y ++ [(q138, .inl (E.2 0, 11, .inl (upd (upd (upd (upd (upd (upd (upd (upd (upd (upd (upd (fun _ => 0) 0 (N j 0)) 1 (N j 6)) 2 (a 2 j)) 3 (if hb_zb (a 3 j) = 0 then (0 : Int32) else 1)) 4 (if hb_zb (a 4 j) = 0 then (0 : Int32) else 1)) 5 (if N j 1 = 0 then (1 : Int32) else 0)) 6 (if N j 1 = 2 then (1 : Int32) else 0)) 7 (N j 2)) 8 (N j 3)) 9 (if N j 1 = 0 then (-2 : Int32) else N j 4)) 10 (N j 5))))]) m 0 (nI n) S N a)) K dX3_digest_288 (X.length + 10 + Y.length) hm_y (vp_in_nI (n := 10) (by decide) (by decide)) (by rw [show Int32.toNatClampNeg 10 = 10 from by decide]; exact hm_yset) ?_
                refine jk_astore (lv' := [(6, .ref q138), (5, .int (N j 1)), (4, .int (nI j)), (2, .long (hm_dhs N a (hm_dl S N n) j)), (0, .ref (m 0))]) K dX3_digest_289 (by decide) rfl ?_
                refine jk_aload K dX3_digest_291 0 rfl ?_
                refine jk_astore (lv' := [(7, .ref q138), (6, .ref q138), (5, .int (N j 1)), (4, .int (nI j)), (2, .long (hm_dhs N a (hm_dl S N n) j)), (0, .ref (m 0))]) K dX3_digest_293 (by decide) rfl ?_
                refine jk_aload K dX3_digest_295 0 rfl ?_
                refine jk_alen (v := (nI 11)) K dX3_digest_297 (X.length + 10 + Y.length) 0 hm_y rfl rfl ?_
                refine jk_istore (lv' := [(8, .int (nI 11)), (7, .ref q138), (6, .ref q138), (5, .int (N j 1)), (4, .int (nI j)), (2, .long (hm_dhs N a (hm_dl S N n) j)), (0, .ref (m 0))]) K dX3_digest_298 (by decide) rfl ?_
                refine jk_iconst (x := 0) K dX3_digest_300 rfl ?_
                refine jk_istore (lv' := [(9, .int 0), (8, .int (nI 11)), (7, .ref q138), (6, .ref q138), (5, .int (N j 1)), (4, .int (nI j)), (2, .long (hm_dhs N a (hm_dl S N n) j)), (0, .ref (m 0))]) K dX3_digest_301 (by decide) rfl ?_
                have hB : ∀ t, t ≤ 11 → jk_J Γ E (hm_M E X (Y ++ [(q138, .inl (E.2 0, 11, .inl (upd (upd (upd (upd (upd (upd (upd (upd (upd (upd (upd (fun _ => 0) 0 (N j 0)) 1 (N j 6)) 2 (a 2 j)) 3 (if hb_zb (a 3 j) = 0 then (0 : Int32) else 1)) 4 (if hb_zb (a 4 j) = 0 then (0 : Int32) else 1)) 5 (if N j 1 = 0 then (1 : Int32) else 0)) 6 (if N j 1 = 2 then (1 : Int32) else 0)) 7 (N j 2)) 8 (N j 3)) 9 (if N j 1 = 0 then (-2 : Int32) else N j 4)) 10 (N j 5))))]) m 0 (nI n) S N a) ((1 + j) + 1) ((7 + 11 * j) + 11) 303 [(9, .int (nI t)), (2, .long (hb_it (fun i d => hb_mix d ((upd (upd (upd (upd (upd (upd (upd (upd (upd (upd (upd (fun _ => 0) 0 (N j 0)) 1 (N j 6)) 2 (a 2 j)) 3 (if hb_zb (a 3 j) = 0 then (0 : Int32) else 1)) 4 (if hb_zb (a 4 j) = 0 then (0 : Int32) else 1)) 5 (if N j 1 = 0 then (1 : Int32) else 0)) 6 (if N j 1 = 2 then (1 : Int32) else 0)) 7 (N j 2)) 8 (N j 3)) 9 (if N j 1 = 0 then (-2 : Int32) else N j 4)) 10 (N j 5)) i).toInt64) t (hm_dhs N a (hm_dl S N n) j))), (8, .int (nI 11)), (7, .ref q138), (4, .int (nI j)), (0, .ref (m 0))] [] := by
                  refine jk_loop (fun t ht iht => ?_)
                  refine jk_iload K dX3_digest_303 0 rfl ?_
                  refine jk_iload K dX3_digest_305 2 rfl ?_
                  refine jk_icmp_ge (tgt := 333) K dX3_digest_307 rfl (fun c_307 => ?_) (fun c_307 => ?_)
                  · have htn : t = 11 := hb_ex (n := 11) rfl (by decide) ht c_307
                    refine jk_iinc (v := (nI (j + 1))) (lv' := [(4, .int (nI (j + 1))), (9, .int (nI t)), (2, .long (hb_it (fun i d => hb_mix d ((upd (upd (upd (upd (upd (upd (upd (upd (upd (upd (upd (fun _ => 0) 0 (N j 0)) 1 (N j 6)) 2 (a 2 j)) 3 (if hb_zb (a 3 j) = 0 then (0 : Int32) else 1)) 4 (if hb_zb (a 4 j) = 0 then (0 : Int32) else 1)) 5 (if N j 1 = 0 then (1 : Int32) else 0)) 6 (if N j 1 = 2 then (1 : Int32) else 0)) 7 (N j 2)) 8 (N j 3)) 9 (if N j 1 = 0 then (-2 : Int32) else N j 4)) 10 (N j 5)) i).toInt64) t (hm_dhs N a (hm_dl S N n) j))), (8, .int (nI 11)), (7, .ref q138), (0, .ref (m 0))]) K dX3_digest_333 4 rfl (nI_1 j) (by decide) rfl ?_
                    refine jk_goto (tgt := 118) K dX3_digest_336 rfl ?_
                    refine jk_sub (lv' := [(4, .int (nI (j + 1))), (2, .long (hb_it (fun i d => hb_mix d ((upd (upd (upd (upd (upd (upd (upd (upd (upd (upd (upd (fun _ => 0) 0 (N j 0)) 1 (N j 6)) 2 (a 2 j)) 3 (if hb_zb (a 3 j) = 0 then (0 : Int32) else 1)) 4 (if hb_zb (a 4 j) = 0 then (0 : Int32) else 1)) 5 (if N j 1 = 0 then (1 : Int32) else 0)) 6 (if N j 1 = 2 then (1 : Int32) else 0)) 7 (N j 2)) 8 (N j 3)) 9 (if N j 1 = 0 then (-2 : Int32) else N j 4)) 10 (N j 5)) i).toInt64) t (hm_dhs N a (hm_dl S N n) j))), (0, .ref (m 0))]) [0, 2, 5] rfl ?_
                    refine jk_lv (lv' := [(4, .int (nI (j + 1))), (2, .long (hm_dhs N a (hm_dl S N n) (j + 1))), (0, .ref (m 0))]) (by rw [htn]; rfl) ?_
                    refine jk_take (w1 := (hm_M E X Y m 0 (nI n) S N a)) hm_ext.symm ?_
                    refine jk_wide (n' := (1 + (j + 1))) (k' := (7 + 11 * (j + 1))) (by omega) (by omega) ?_
                    exact ih hlt
                  · have htl2 : t < 11 := hb_in (n := 11) rfl (by decide) ht c_307
                    refine jk_aload K dX3_digest_310 3 rfl ?_
                    refine jk_iload K dX3_digest_312 0 rfl ?_
                    refine jk_iald (v := ((upd (upd (upd (upd (upd (upd (upd (upd (upd (upd (upd (fun _ => 0) 0 (N j 0)) 1 (N j 6)) 2 (a 2 j)) 3 (if hb_zb (a 3 j) = 0 then (0 : Int32) else 1)) 4 (if hb_zb (a 4 j) = 0 then (0 : Int32) else 1)) 5 (if N j 1 = 0 then (1 : Int32) else 0)) 6 (if N j 1 = 2 then (1 : Int32) else 0)) 7 (N j 2)) 8 (N j 3)) 9 (if N j 1 = 0 then (-2 : Int32) else N j 4)) 10 (N j 5)) t)) K dX3_digest_314 (X.length + 10 + Y.length) hm_y (vp_in_nI (by omega) (by decide)) (by rw [nI_clamp (by omega)]) ?_
                    refine jk_istore (lv' := [(10, .int ((upd (upd (upd (upd (upd (upd (upd (upd (upd (upd (upd (fun _ => 0) 0 (N j 0)) 1 (N j 6)) 2 (a 2 j)) 3 (if hb_zb (a 3 j) = 0 then (0 : Int32) else 1)) 4 (if hb_zb (a 4 j) = 0 then (0 : Int32) else 1)) 5 (if N j 1 = 0 then (1 : Int32) else 0)) 6 (if N j 1 = 2 then (1 : Int32) else 0)) 7 (N j 2)) 8 (N j 3)) 9 (if N j 1 = 0 then (-2 : Int32) else N j 4)) 10 (N j 5)) t)), (9, .int (nI t)), (2, .long (hb_it (fun i d => hb_mix d ((upd (upd (upd (upd (upd (upd (upd (upd (upd (upd (upd (fun _ => 0) 0 (N j 0)) 1 (N j 6)) 2 (a 2 j)) 3 (if hb_zb (a 3 j) = 0 then (0 : Int32) else 1)) 4 (if hb_zb (a 4 j) = 0 then (0 : Int32) else 1)) 5 (if N j 1 = 0 then (1 : Int32) else 0)) 6 (if N j 1 = 2 then (1 : Int32) else 0)) 7 (N j 2)) 8 (N j 3)) 9 (if N j 1 = 0 then (-2 : Int32) else N j 4)) 10 (N j 5)) i).toInt64) t (hm_dhs N a (hm_dl S N n) j))), (8, .int (nI 11)), (7, .ref q138), (4, .int (nI j)), (0, .ref (m 0))]) K dX3_digest_315 (by decide) rfl ?_
                    refine jk_lload_n K dX3_digest_317 rfl 2 rfl ?_
                    refine jk_ldc2 (v := 31) K dX3_digest_318 (by decide +kernel) ?_
                    refine jk_lmul K dX3_digest_321 ?_
                    refine jk_iload K dX3_digest_322 0 rfl ?_
                    refine jk_i2l K dX3_digest_324 ?_
                    refine jk_ladd K dX3_digest_325 ?_
                    refine jk_lstore_n (lv' := [(2, .long (((hb_it (fun i d => hb_mix d ((upd (upd (upd (upd (upd (upd (upd (upd (upd (upd (upd (fun _ => 0) 0 (N j 0)) 1 (N j 6)) 2 (a 2 j)) 3 (if hb_zb (a 3 j) = 0 then (0 : Int32) else 1)) 4 (if hb_zb (a 4 j) = 0 then (0 : Int32) else 1)) 5 (if N j 1 = 0 then (1 : Int32) else 0)) 6 (if N j 1 = 2 then (1 : Int32) else 0)) 7 (N j 2)) 8 (N j 3)) 9 (if N j 1 = 0 then (-2 : Int32) else N j 4)) 10 (N j 5)) i).toInt64) t (hm_dhs N a (hm_dl S N n) j)) * 31) + (Int32.toInt64 ((upd (upd (upd (upd (upd (upd (upd (upd (upd (upd (upd (fun _ => 0) 0 (N j 0)) 1 (N j 6)) 2 (a 2 j)) 3 (if hb_zb (a 3 j) = 0 then (0 : Int32) else 1)) 4 (if hb_zb (a 4 j) = 0 then (0 : Int32) else 1)) 5 (if N j 1 = 0 then (1 : Int32) else 0)) 6 (if N j 1 = 2 then (1 : Int32) else 0)) 7 (N j 2)) 8 (N j 3)) 9 (if N j 1 = 0 then (-2 : Int32) else N j 4)) 10 (N j 5)) t)))), (10, .int ((upd (upd (upd (upd (upd (upd (upd (upd (upd (upd (upd (fun _ => 0) 0 (N j 0)) 1 (N j 6)) 2 (a 2 j)) 3 (if hb_zb (a 3 j) = 0 then (0 : Int32) else 1)) 4 (if hb_zb (a 4 j) = 0 then (0 : Int32) else 1)) 5 (if N j 1 = 0 then (1 : Int32) else 0)) 6 (if N j 1 = 2 then (1 : Int32) else 0)) 7 (N j 2)) 8 (N j 3)) 9 (if N j 1 = 0 then (-2 : Int32) else N j 4)) 10 (N j 5)) t)), (9, .int (nI t)), (8, .int (nI 11)), (7, .ref q138), (4, .int (nI j)), (0, .ref (m 0))]) K dX3_digest_326 rfl (by decide) rfl ?_
                    refine jk_iinc (v := (nI (t + 1))) (lv' := [(9, .int (nI (t + 1))), (2, .long (((hb_it (fun i d => hb_mix d ((upd (upd (upd (upd (upd (upd (upd (upd (upd (upd (upd (fun _ => 0) 0 (N j 0)) 1 (N j 6)) 2 (a 2 j)) 3 (if hb_zb (a 3 j) = 0 then (0 : Int32) else 1)) 4 (if hb_zb (a 4 j) = 0 then (0 : Int32) else 1)) 5 (if N j 1 = 0 then (1 : Int32) else 0)) 6 (if N j 1 = 2 then (1 : Int32) else 0)) 7 (N j 2)) 8 (N j 3)) 9 (if N j 1 = 0 then (-2 : Int32) else N j 4)) 10 (N j 5)) i).toInt64) t (hm_dhs N a (hm_dl S N n) j)) * 31) + (Int32.toInt64 ((upd (upd (upd (upd (upd (upd (upd (upd (upd (upd (upd (fun _ => 0) 0 (N j 0)) 1 (N j 6)) 2 (a 2 j)) 3 (if hb_zb (a 3 j) = 0 then (0 : Int32) else 1)) 4 (if hb_zb (a 4 j) = 0 then (0 : Int32) else 1)) 5 (if N j 1 = 0 then (1 : Int32) else 0)) 6 (if N j 1 = 2 then (1 : Int32) else 0)) 7 (N j 2)) 8 (N j 3)) 9 (if N j 1 = 0 then (-2 : Int32) else N j 4)) 10 (N j 5)) t)))), (10, .int ((upd (upd (upd (upd (upd (upd (upd (upd (upd (upd (upd (fun _ => 0) 0 (N j 0)) 1 (N j 6)) 2 (a 2 j)) 3 (if hb_zb (a 3 j) = 0 then (0 : Int32) else 1)) 4 (if hb_zb (a 4 j) = 0 then (0 : Int32) else 1)) 5 (if N j 1 = 0 then (1 : Int32) else 0)) 6 (if N j 1 = 2 then (1 : Int32) else 0)) 7 (N j 2)) 8 (N j 3)) 9 (if N j 1 = 0 then (-2 : Int32) else N j 4)) 10 (N j 5)) t)), (8, .int (nI 11)), (7, .ref q138), (4, .int (nI j)), (0, .ref (m 0))]) K dX3_digest_327 2 rfl (nI_1 t) (by decide) rfl ?_
                    refine jk_goto (tgt := 303) K dX3_digest_330 rfl ?_
                    refine jk_sub (lv' := [(9, .int (nI (t + 1))), (2, .long (((hb_it (fun i d => hb_mix d ((upd (upd (upd (upd (upd (upd (upd (upd (upd (upd (upd (fun _ => 0) 0 (N j 0)) 1 (N j 6)) 2 (a 2 j)) 3 (if hb_zb (a 3 j) = 0 then (0 : Int32) else 1)) 4 (if hb_zb (a 4 j) = 0 then (0 : Int32) else 1)) 5 (if N j 1 = 0 then (1 : Int32) else 0)) 6 (if N j 1 = 2 then (1 : Int32) else 0)) 7 (N j 2)) 8 (N j 3)) 9 (if N j 1 = 0 then (-2 : Int32) else N j 4)) 10 (N j 5)) i).toInt64) t (hm_dhs N a (hm_dl S N n) j)) * 31) + (Int32.toInt64 ((upd (upd (upd (upd (upd (upd (upd (upd (upd (upd (upd (fun _ => 0) 0 (N j 0)) 1 (N j 6)) 2 (a 2 j)) 3 (if hb_zb (a 3 j) = 0 then (0 : Int32) else 1)) 4 (if hb_zb (a 4 j) = 0 then (0 : Int32) else 1)) 5 (if N j 1 = 0 then (1 : Int32) else 0)) 6 (if N j 1 = 2 then (1 : Int32) else 0)) 7 (N j 2)) 8 (N j 3)) 9 (if N j 1 = 0 then (-2 : Int32) else N j 4)) 10 (N j 5)) t)))), (8, .int (nI 11)), (7, .ref q138), (4, .int (nI j)), (0, .ref (m 0))]) [0, 1, 3, 4, 5, 6] rfl ?_
                    refine jk_lv (lv' := [(9, .int (nI (t + 1))), (2, .long (hb_it (fun i d => hb_mix d ((upd (upd (upd (upd (upd (upd (upd (upd (upd (upd (upd (fun _ => 0) 0 (N j 0)) 1 (N j 6)) 2 (a 2 j)) 3 (if hb_zb (a 3 j) = 0 then (0 : Int32) else 1)) 4 (if hb_zb (a 4 j) = 0 then (0 : Int32) else 1)) 5 (if N j 1 = 0 then (1 : Int32) else 0)) 6 (if N j 1 = 2 then (1 : Int32) else 0)) 7 (N j 2)) 8 (N j 3)) 9 (if N j 1 = 0 then (-2 : Int32) else N j 4)) 10 (N j 5)) i).toInt64) (t + 1) (hm_dhs N a (hm_dl S N n) j))), (8, .int (nI 11)), (7, .ref q138), (4, .int (nI j)), (0, .ref (m 0))]) rfl ?_
                    exact iht htl2
                refine jk_sub (lv' := [(9, .int 0), (2, .long (hm_dhs N a (hm_dl S N n) j)), (8, .int (nI 11)), (7, .ref q138), (4, .int (nI j)), (0, .ref (m 0))]) [0, 6, 1, 2, 5, 7] rfl ?_
                refine jk_lv (lv' := [(9, .int (nI 0)), (2, .long (hb_it (fun i d => hb_mix d ((upd (upd (upd (upd (upd (upd (upd (upd (upd (upd (upd (fun _ => 0) 0 (N j 0)) 1 (N j 6)) 2 (a 2 j)) 3 (if hb_zb (a 3 j) = 0 then (0 : Int32) else 1)) 4 (if hb_zb (a 4 j) = 0 then (0 : Int32) else 1)) 5 (if N j 1 = 0 then (1 : Int32) else 0)) 6 (if N j 1 = 2 then (1 : Int32) else 0)) 7 (N j 2)) 8 (N j 3)) 9 (if N j 1 = 0 then (-2 : Int32) else N j 4)) 10 (N j 5)) i).toInt64) 0 (hm_dhs N a (hm_dl S N n) j))), (8, .int (nI 11)), (7, .ref q138), (4, .int (nI j)), (0, .ref (m 0))]) rfl ?_
                exact hB 0 (Nat.zero_le _)
              refine jk_if_ne (tgt := 270) K dX3_digest_262 rfl (fun c_262 => ?_) (fun c_262 => ?_)
              · refine jk_aload_n K dX3_digest_270 rfl 3 rfl ?_
                refine jk_iload K dX3_digest_271 1 rfl ?_
                refine jk_iconst (x := 4) K dX3_digest_273 rfl ?_
                refine jk_cVi K (n' := ((1 + j) + 1)) (k' := ((7 + 11 * j) + 11)) [.int (nI j), .int (nI 4)] [.int 9, .ref q138, .ref q138] dX3_digest_274 (hb_X3_hi _ hl E X (Y ++ [(q138, .inl (E.2 0, 11, .inl (upd (upd (upd (upd (upd (upd (upd (upd (upd (fun _ => 0) 0 (N j 0)) 1 (N j 6)) 2 (a 2 j)) 3 (if hb_zb (a 3 j) = 0 then (0 : Int32) else 1)) 4 (if hb_zb (a 4 j) = 0 then (0 : Int32) else 1)) 5 (if N j 1 = 0 then (1 : Int32) else 0)) 6 (if N j 1 = 2 then (1 : Int32) else 0)) 7 (N j 2)) 8 (N j 3))))]) m 0 S N a n hn j 4 (Nat.lt_of_lt_of_le hlt hn) (by decide)) gX3_digest_X3_hi rfl kd_X3_hi ⟨Nat.le_of_ble_eq_true rfl, Nat.le_of_ble_eq_true rfl⟩ (X.length + 0) hm_x0 rfl (Nat.le_of_ble_eq_true rfl) ⟨rfl, rfl⟩ ⟨(by show _ ≤ 11; omega), (by show _ ≤ 117; omega)⟩ rfl (fun _ _ => ?_)
                refine jk_st (st' := [.int (if N j 1 = 0 then (-2 : Int32) else N j 4), .int 9, .ref q138, .ref q138]) (by rw [if_neg c_262]) ?_
                exact hJ277
              · refine jk_bipush (x := (-2)) K dX3_digest_265 rfl ?_
                refine jk_goto (tgt := 277) K dX3_digest_267 rfl ?_
                refine jk_st (st' := [.int (if N j 1 = 0 then (-2 : Int32) else N j 4), .int 9, .ref q138, .ref q138]) (by rw [if_pos c_262]) ?_
                exact hJ277
            refine jk_icmp_ne (tgt := 233) K dX3_digest_226 rfl (fun c_226 => ?_) (fun c_226 => ?_)
            · refine jk_iconst (x := 0) K dX3_digest_233 rfl ?_
              refine jk_st (st' := [.int (if N j 1 = 2 then (1 : Int32) else 0), .int 6, .ref q138, .ref q138]) (by rw [if_neg c_226]) ?_
              exact hJ234
            · refine jk_iconst (x := 1) K dX3_digest_229 rfl ?_
              refine jk_goto (tgt := 234) K dX3_digest_230 rfl ?_
              refine jk_st (st' := [.int (if N j 1 = 2 then (1 : Int32) else 0), .int 6, .ref q138, .ref q138]) (by rw [if_pos c_226]) ?_
              exact hJ234
          refine jk_if_ne (tgt := 218) K dX3_digest_211 rfl (fun c_211 => ?_) (fun c_211 => ?_)
          · refine jk_iconst (x := 0) K dX3_digest_218 rfl ?_
            refine jk_st (st' := [.int (if N j 1 = 0 then (1 : Int32) else 0), .int 5, .ref q138, .ref q138]) (by rw [if_neg c_211]) ?_
            exact hJ219
          · refine jk_iconst (x := 1) K dX3_digest_214 rfl ?_
            refine jk_goto (tgt := 219) K dX3_digest_215 rfl ?_
            refine jk_st (st' := [.int (if N j 1 = 0 then (1 : Int32) else 0), .int 5, .ref q138, .ref q138]) (by rw [if_pos c_211]) ?_
            exact hJ219
        refine jk_if_eq (tgt := 205) K dX3_digest_198 rfl (fun c_198 => ?_) (fun c_198 => ?_)
        · refine jk_iconst (x := 0) K dX3_digest_205 rfl ?_
          refine jk_st (st' := [.int (if hb_zb (a 4 j) = 0 then (0 : Int32) else 1), .int 4, .ref q138, .ref q138]) (by rw [if_pos c_198]) ?_
          exact hJ206
        · refine jk_iconst (x := 1) K dX3_digest_201 rfl ?_
          refine jk_goto (tgt := 206) K dX3_digest_202 rfl ?_
          refine jk_st (st' := [.int (if hb_zb (a 4 j) = 0 then (0 : Int32) else 1), .int 4, .ref q138, .ref q138]) (by rw [if_neg c_198]) ?_
          exact hJ206
      refine jk_if_eq (tgt := 187) K dX3_digest_180 rfl (fun c_180 => ?_) (fun c_180 => ?_)
      · refine jk_iconst (x := 0) K dX3_digest_187 rfl ?_
        refine jk_st (st' := [.int (if hb_zb (a 3 j) = 0 then (0 : Int32) else 1), .int 3, .ref q138, .ref q138]) (by rw [if_pos c_180]) ?_
        exact hJ188
      · refine jk_iconst (x := 1) K dX3_digest_183 rfl ?_
        refine jk_goto (tgt := 188) K dX3_digest_184 rfl ?_
        refine jk_st (st' := [.int (if hb_zb (a 3 j) = 0 then (0 : Int32) else 1), .int 3, .ref q138, .ref q138]) (by rw [if_neg c_180]) ?_
        exact hJ188
  have hA : ∀ t, t ≤ 7 → jk_J Γ E (hm_M E X (Y ++ [(q7, .inl (E.2 0, 7, .inl (upd (upd (upd (upd (upd (upd (upd (fun _ => 0) 0 (nI n)) 1 (S 0)) 2 (S 4)) 3 (S 1)) 4 (hm_bu N n)) 5 (S 2)) 6 (S 3))))]) m 0 (nI n) S N a) 1 7 85 [(6, .int (nI t)), (2, .long (hb_it (fun i d => hb_mix d ((upd (upd (upd (upd (upd (upd (upd (fun _ => 0) 0 (nI n)) 1 (S 0)) 2 (S 4)) 3 (S 1)) 4 (hm_bu N n)) 5 (S 2)) 6 (S 3)) i).toInt64) t 1883)), (5, .int (nI 7)), (4, .ref q7), (0, .ref (m 0))] [] := by
    refine jk_loop (fun t ht iht => ?_)
    refine jk_iload K dX3_digest_85 0 rfl ?_
    refine jk_iload K dX3_digest_87 2 rfl ?_
    refine jk_icmp_ge (tgt := 115) K dX3_digest_89 rfl (fun c_89 => ?_) (fun c_89 => ?_)
    · have ht7 : t = 7 := hb_ex (n := 7) rfl (by decide) ht c_89
      refine jk_iconst (x := 0) K dX3_digest_115 rfl ?_
      refine jk_istore (lv' := [(4, .int 0), (6, .int (nI t)), (2, .long (hb_it (fun i d => hb_mix d ((upd (upd (upd (upd (upd (upd (upd (fun _ => 0) 0 (nI n)) 1 (S 0)) 2 (S 4)) 3 (S 1)) 4 (hm_bu N n)) 5 (S 2)) 6 (S 3)) i).toInt64) t 1883)), (5, .int (nI 7)), (0, .ref (m 0))]) K dX3_digest_116 (by decide) rfl ?_
      refine jk_sub (lv' := [(4, .int 0), (2, .long (hb_it (fun i d => hb_mix d ((upd (upd (upd (upd (upd (upd (upd (fun _ => 0) 0 (nI n)) 1 (S 0)) 2 (S 4)) 3 (S 1)) 4 (hm_bu N n)) 5 (S 2)) 6 (S 3)) i).toInt64) t 1883)), (0, .ref (m 0))]) [0, 2, 4] rfl ?_
      refine jk_lv (lv' := [(4, .int (nI 0)), (2, .long (hm_dhs N a (hm_dl S N n) 0)), (0, .ref (m 0))]) (by rw [ht7]; rfl) ?_
      refine jk_take (w1 := (hm_M E X Y m 0 (nI n) S N a)) hm_ext.symm ?_
      exact hC 0 (Nat.zero_le _)
    · have htl7 : t < 7 := hb_in (n := 7) rfl (by decide) ht c_89
      refine jk_aload K dX3_digest_92 3 rfl ?_
      refine jk_iload K dX3_digest_94 0 rfl ?_
      refine jk_iald (v := ((upd (upd (upd (upd (upd (upd (upd (fun _ => 0) 0 (nI n)) 1 (S 0)) 2 (S 4)) 3 (S 1)) 4 (hm_bu N n)) 5 (S 2)) 6 (S 3)) t)) K dX3_digest_96 (X.length + 10 + Y.length) hm_y (vp_in_nI (by omega) (by decide)) (by rw [nI_clamp (by omega)]) ?_
      refine jk_istore (lv' := [(7, .int ((upd (upd (upd (upd (upd (upd (upd (fun _ => 0) 0 (nI n)) 1 (S 0)) 2 (S 4)) 3 (S 1)) 4 (hm_bu N n)) 5 (S 2)) 6 (S 3)) t)), (6, .int (nI t)), (2, .long (hb_it (fun i d => hb_mix d ((upd (upd (upd (upd (upd (upd (upd (fun _ => 0) 0 (nI n)) 1 (S 0)) 2 (S 4)) 3 (S 1)) 4 (hm_bu N n)) 5 (S 2)) 6 (S 3)) i).toInt64) t 1883)), (5, .int (nI 7)), (4, .ref q7), (0, .ref (m 0))]) K dX3_digest_97 (by decide) rfl ?_
      refine jk_lload_n K dX3_digest_99 rfl 2 rfl ?_
      refine jk_ldc2 (v := 31) K dX3_digest_100 (by decide +kernel) ?_
      refine jk_lmul K dX3_digest_103 ?_
      refine jk_iload K dX3_digest_104 0 rfl ?_
      refine jk_i2l K dX3_digest_106 ?_
      refine jk_ladd K dX3_digest_107 ?_
      refine jk_lstore_n (lv' := [(2, .long (((hb_it (fun i d => hb_mix d ((upd (upd (upd (upd (upd (upd (upd (fun _ => 0) 0 (nI n)) 1 (S 0)) 2 (S 4)) 3 (S 1)) 4 (hm_bu N n)) 5 (S 2)) 6 (S 3)) i).toInt64) t 1883) * 31) + (Int32.toInt64 ((upd (upd (upd (upd (upd (upd (upd (fun _ => 0) 0 (nI n)) 1 (S 0)) 2 (S 4)) 3 (S 1)) 4 (hm_bu N n)) 5 (S 2)) 6 (S 3)) t)))), (7, .int ((upd (upd (upd (upd (upd (upd (upd (fun _ => 0) 0 (nI n)) 1 (S 0)) 2 (S 4)) 3 (S 1)) 4 (hm_bu N n)) 5 (S 2)) 6 (S 3)) t)), (6, .int (nI t)), (5, .int (nI 7)), (4, .ref q7), (0, .ref (m 0))]) K dX3_digest_108 rfl (by decide) rfl ?_
      refine jk_iinc (v := (nI (t + 1))) (lv' := [(6, .int (nI (t + 1))), (2, .long (((hb_it (fun i d => hb_mix d ((upd (upd (upd (upd (upd (upd (upd (fun _ => 0) 0 (nI n)) 1 (S 0)) 2 (S 4)) 3 (S 1)) 4 (hm_bu N n)) 5 (S 2)) 6 (S 3)) i).toInt64) t 1883) * 31) + (Int32.toInt64 ((upd (upd (upd (upd (upd (upd (upd (fun _ => 0) 0 (nI n)) 1 (S 0)) 2 (S 4)) 3 (S 1)) 4 (hm_bu N n)) 5 (S 2)) 6 (S 3)) t)))), (7, .int ((upd (upd (upd (upd (upd (upd (upd (fun _ => 0) 0 (nI n)) 1 (S 0)) 2 (S 4)) 3 (S 1)) 4 (hm_bu N n)) 5 (S 2)) 6 (S 3)) t)), (5, .int (nI 7)), (4, .ref q7), (0, .ref (m 0))]) K dX3_digest_109 2 rfl (nI_1 t) (by decide) rfl ?_
      refine jk_goto (tgt := 85) K dX3_digest_112 rfl ?_
      refine jk_sub (lv' := [(6, .int (nI (t + 1))), (2, .long (((hb_it (fun i d => hb_mix d ((upd (upd (upd (upd (upd (upd (upd (fun _ => 0) 0 (nI n)) 1 (S 0)) 2 (S 4)) 3 (S 1)) 4 (hm_bu N n)) 5 (S 2)) 6 (S 3)) i).toInt64) t 1883) * 31) + (Int32.toInt64 ((upd (upd (upd (upd (upd (upd (upd (fun _ => 0) 0 (nI n)) 1 (S 0)) 2 (S 4)) 3 (S 1)) 4 (hm_bu N n)) 5 (S 2)) 6 (S 3)) t)))), (5, .int (nI 7)), (4, .ref q7), (0, .ref (m 0))]) [0, 1, 3, 4, 5] rfl ?_
      refine jk_lv (lv' := [(6, .int (nI (t + 1))), (2, .long (hb_it (fun i d => hb_mix d ((upd (upd (upd (upd (upd (upd (upd (fun _ => 0) 0 (nI n)) 1 (S 0)) 2 (S 4)) 3 (S 1)) 4 (hm_bu N n)) 5 (S 2)) 6 (S 3)) i).toInt64) (t + 1) 1883)), (5, .int (nI 7)), (4, .ref q7), (0, .ref (m 0))]) rfl ?_
      exact iht htl7
  refine jk_sub (lv' := [(6, .int 0), (2, .long 1883), (5, .int (nI 7)), (4, .ref q7), (0, .ref (m 0))]) [0, 3, 1, 2, 5] rfl ?_
  refine jk_lv (lv' := [(6, .int (nI 0)), (2, .long (hb_it (fun i d => hb_mix d ((upd (upd (upd (upd (upd (upd (upd (fun _ => 0) 0 (nI n)) 1 (S 0)) 2 (S 4)) 3 (S 1)) 4 (hm_bu N n)) 5 (S 2)) 6 (S 3)) i).toInt64) 0 1883)), (5, .int (nI 7)), (4, .ref q7), (0, .ref (m 0))]) rfl ?_
  exact hA 0 (Nat.zero_le _)
