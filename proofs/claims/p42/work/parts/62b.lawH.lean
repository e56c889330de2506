
set_option maxHeartbeats 60000000 in
set_option maxRecDepth 100000 in
theorem lw_H {Γ : jk_G} {E : jk_T} (K : jk_C Γ E RL cL_law 22 wsL_law ({ frames := 14, cells := 600130, slots := 7301079, locals := 540 } : Room)) (q : Nat) (b1 b2 : Nat → Nat) (Y : va_W) (p : Nat → Nat) (n B : Nat) (C : Nat → Nat → Int32) (G M : Nat → Int32) (C2 : Nat → Nat → Int32) (G2 M2 : Nat → Int32) (hiv : iv n B C G M) (h2 : 2 ≤ n) (hB : B ≤ 1000000) (t : Nat) (a6 a7 a8 a9 : Nat) (j : Nat) (hlt : j < n) (cn ck : Nat) (hcn : cn + 1720 ≤ 600130) (hck : ck + 10300 ≤ 7301079) (kk : jk_J Γ E (sm_S E (hb_cw E q b1 b2 C G M C2 G2 M2) (Y ++ [lw_a E 0 a6 n (ar_f (lf_w C) (j + 1)), lw_a E 2 a7 n (ar_f (lf_b C) (j + 1)), lw_a E 2 a8 n (ar_f (lf_d C) (j + 1)), lw_a E 0 a9 n (ar_f (lf_s C) (j + 1))]) p n (sm_G G) (sm_N C) (sm_M M)) (cn + 171 * j + 11 + 16 * 0) (ck + 1026 * j + 66 + 96 * 0) 383 [(14, .int (nI 0)), (12, .int (nI j)), (11, .int (hb_wood C (j + 1))), (10, .int (sm_bu (sm_N C) (j + 1))), (9, .ref a9), (8, .ref a8), (7, .ref a7), (6, .ref a6), (5, .int (nI n)), (3, .int (nI t)), (2, .ref (p 0)), (1, .ref q), (0, .ref E.1.2.1)] []) : jk_J Γ E (sm_S E (hb_cw E q b1 b2 C G M C2 G2 M2) (Y ++ [lw_a E 0 a6 n (ar_f (lf_w C) j), lw_a E 2 a7 n (ar_f (lf_b C) j), lw_a E 2 a8 n (ar_f (lf_d C) j), lw_a E 0 a9 n (ar_f (lf_s C) j)]) p n (sm_G G) (sm_N C) (sm_M M)) (cn + 171 * j) (ck + 1026 * j) 136 [(12, .int (nI j)), (11, .int (hb_wood C j)), (10, .int (sm_bu (sm_N C) j)), (9, .ref a9), (8, .ref a8), (7, .ref a7), (6, .ref a6), (5, .int (nI n)), (3, .int (nI t)), (2, .ref (p 0)), (1, .ref q), (0, .ref E.1.2.1)] [] := by
  have hl := K.2.2.2.2.2.2.2.2.2.2
  have hn := hiv.1
  have hg : G 0 = nI n := hiv.2.2.2.1.1
  obtain ⟨⟨k0, hk0, e0⟩, -, ⟨m0, hm1, hm5, e2⟩, ⟨k10, hk10, e10⟩, -⟩ := hiv.2.1 j hlt
  rcases (show (C j 5 = 0 ∧ C j 7 = 0 ∧ C j 9 = -2 ∧ ∃ k m : Nat, C j 8 = nI k ∧ C j 2 = nI m ∧ k < m ∧ m ≤ 5) ∨ (C j 5 = 1 ∧ (∃ k : Nat, 1 ≤ k ∧ k ≤ 10 ∧ C j 7 = nI k) ∧ C j 8 = 0 ∧ iv_so n (C j 9)) ∨ (C j 5 = 2 ∧ C j 7 = 0 ∧ C j 8 = 0 ∧ iv_so n (C j 9)) from (hiv.2.1 j hlt).2.2.2.2) with ⟨z5, z7, z9, k8, m8, e8, em, hkm, hm8⟩ | ⟨z5, ⟨k7, h71, h710, e7⟩, z8, zs⟩ | ⟨z5, z7, z8, zs⟩
  · have hlw : ¬ C j 2 ≤ C j 8 := by rw [e8, em]; exact fun z => by have z9 := (nI_leI (a := m8) (b := k8) (by omega) (by omega)).mp z; omega
    refine jk_aload K dL_law_136 6 rfl ?_
    refine jk_iload K dL_law_138 0 rfl ?_
    refine jk_aload_n K dL_law_140 rfl 10 rfl ?_
    refine jk_iload K dL_law_141 0 rfl ?_
    refine jk_ws (ws' := (hb_v1 E q b1 b2 (sm_SW E p n (sm_G G) (sm_N C) (sm_M M) ++ (Y ++ [lw_a E 0 a6 n (ar_f (lf_w C) j), lw_a E 2 a7 n (ar_f (lf_b C) j), lw_a E 2 a8 n (ar_f (lf_d C) j), lw_a E 0 a9 n (ar_f (lf_s C) j)])) C G M C2 G2 M2)) lw_sw.symm ?_
    refine jk_cVi K (n' := ((cn + 171 * j) + 1)) (k' := ((ck + 1026 * j) + 6)) [.int (nI j)] [.int (nI j), .ref a6] dL_law_143 (lc_woodOf _ hl E q b1 b2 (sm_SW E p n (sm_G G) (sm_N C) (sm_M M) ++ (Y ++ [lw_a E 0 a6 n (ar_f (lf_w C) j), lw_a E 2 a7 n (ar_f (lf_b C) j), lw_a E 2 a8 n (ar_f (lf_d C) j), lw_a E 0 a9 n (ar_f (lf_s C) j)])) C G M C2 G2 M2 n hn hg j hlt) gL_law_X2_woodOf rfl kd_X2_woodOf ⟨Nat.le_of_ble_eq_true rfl, Nat.le_of_ble_eq_true rfl⟩ 0 rfl rfl (Nat.le_of_ble_eq_true rfl) ⟨rfl, rfl⟩ ⟨(by show _ ≤ 600130; omega), (by show _ ≤ 7301079; omega)⟩ rfl (fun _ _ => ?_)
    refine jk_ws (ws' := (sm_S E (hb_cw E q b1 b2 C G M C2 G2 M2) (Y ++ [lw_a E 0 a6 n (ar_f (lf_w C) j), lw_a E 2 a7 n (ar_f (lf_b C) j), lw_a E 2 a8 n (ar_f (lf_d C) j), lw_a E 0 a9 n (ar_f (lf_s C) j)]) p n (sm_G G) (sm_N C) (sm_M M))) lw_sw ?_
    refine jk_iast (w' := (sm_S E (hb_cw E q b1 b2 C G M C2 G2 M2) (Y ++ [lw_a E 0 a6 n (upd (ar_f (lf_w C) j) j (C j 0)), lw_a E 2 a7 n (ar_f (lf_b C) j), lw_a E 2 a8 n (ar_f (lf_d C) j), lw_a E 0 a9 n (ar_f (lf_s C) j)]) p n (sm_G G) (sm_N C) (sm_M M))) K dL_law_146 ((hb_cw E q b1 b2 C G M C2 G2 M2).length + (13 + n + (Y.length + 0))) (sm_yat rfl) (vp_in_nI hlt (by omega)) (by rw [nI_clamp (by omega)]; exact sm_yst rfl) ?_
    refine jk_aload K dL_law_147 5 rfl ?_
    refine jk_iload K dL_law_149 0 rfl ?_
    refine jk_aload_n K dL_law_151 rfl 10 rfl ?_
    refine jk_iload K dL_law_152 0 rfl ?_
    refine jk_ws (ws' := (hb_v1 E q b1 b2 (sm_SW E p n (sm_G G) (sm_N C) (sm_M M) ++ (Y ++ [lw_a E 0 a6 n (upd (ar_f (lf_w C) j) j (C j 0)), lw_a E 2 a7 n (ar_f (lf_b C) j), lw_a E 2 a8 n (ar_f (lf_d C) j), lw_a E 0 a9 n (ar_f (lf_s C) j)])) C G M C2 G2 M2)) lw_sw.symm ?_
    refine jk_cVi K (n' := (((cn + 171 * j) + 1) + 1)) (k' := (((ck + 1026 * j) + 6) + 6)) [.int (nI j)] [.int (nI j), .ref a7] dL_law_154 (lc_isBurning _ hl E q b1 b2 (sm_SW E p n (sm_G G) (sm_N C) (sm_M M) ++ (Y ++ [lw_a E 0 a6 n (upd (ar_f (lf_w C) j) j (C j 0)), lw_a E 2 a7 n (ar_f (lf_b C) j), lw_a E 2 a8 n (ar_f (lf_d C) j), lw_a E 0 a9 n (ar_f (lf_s C) j)])) C G M C2 G2 M2 n hn hg j hlt) gL_law_X2_isBurning rfl kd_X2_isBurning ⟨Nat.le_of_ble_eq_true rfl, Nat.le_of_ble_eq_true rfl⟩ 0 rfl rfl (Nat.le_of_ble_eq_true rfl) ⟨rfl, rfl⟩ ⟨(by show _ ≤ 600130; omega), (by show _ ≤ 7301079; omega)⟩ rfl (fun _ _ => ?_)
    refine jk_st (st' := [.int 0, .int (nI j), .ref a7]) (by rw [if_neg (by rw [z5]; decide)]) ?_
    refine jk_ws (ws' := (sm_S E (hb_cw E q b1 b2 C G M C2 G2 M2) (Y ++ [lw_a E 0 a6 n (upd (ar_f (lf_w C) j) j (C j 0)), lw_a E 2 a7 n (ar_f (lf_b C) j), lw_a E 2 a8 n (ar_f (lf_d C) j), lw_a E 0 a9 n (ar_f (lf_s C) j)]) p n (sm_G G) (sm_N C) (sm_M M))) lw_sw ?_
    refine jk_zast (w' := (sm_S E (hb_cw E q b1 b2 C G M C2 G2 M2) (Y ++ [lw_a E 0 a6 n (upd (ar_f (lf_w C) j) j (C j 0)), lw_a E 2 a7 n (upd (ar_f (lf_b C) j) j 0), lw_a E 2 a8 n (ar_f (lf_d C) j), lw_a E 0 a9 n (ar_f (lf_s C) j)]) p n (sm_G G) (sm_N C) (sm_M M))) K dL_law_157 ((hb_cw E q b1 b2 C G M C2 G2 M2).length + (13 + n + (Y.length + 1))) (sm_yat rfl) (vp_in_nI hlt (by omega)) (by rw [nI_clamp (by omega)]; exact sm_yst rfl) ?_
    refine jk_aload K dL_law_158 4 rfl ?_
    refine jk_iload K dL_law_160 0 rfl ?_
    refine jk_aload_n K dL_law_162 rfl 10 rfl ?_
    refine jk_iload K dL_law_163 0 rfl ?_
    refine jk_ws (ws' := (hb_v1 E q b1 b2 (sm_SW E p n (sm_G G) (sm_N C) (sm_M M) ++ (Y ++ [lw_a E 0 a6 n (upd (ar_f (lf_w C) j) j (C j 0)), lw_a E 2 a7 n (upd (ar_f (lf_b C) j) j 0), lw_a E 2 a8 n (ar_f (lf_d C) j), lw_a E 0 a9 n (ar_f (lf_s C) j)])) C G M C2 G2 M2)) lw_sw.symm ?_
    refine jk_cVi K (n' := ((((cn + 171 * j) + 1) + 1) + 1)) (k' := ((((ck + 1026 * j) + 6) + 6) + 6)) [.int (nI j)] [.int (nI j), .ref a8] dL_law_165 (lc_isDark _ hl E q b1 b2 (sm_SW E p n (sm_G G) (sm_N C) (sm_M M) ++ (Y ++ [lw_a E 0 a6 n (upd (ar_f (lf_w C) j) j (C j 0)), lw_a E 2 a7 n (upd (ar_f (lf_b C) j) j 0), lw_a E 2 a8 n (ar_f (lf_d C) j), lw_a E 0 a9 n (ar_f (lf_s C) j)])) C G M C2 G2 M2 n hn hg j hlt) gL_law_X2_isDark rfl kd_X2_isDark ⟨Nat.le_of_ble_eq_true rfl, Nat.le_of_ble_eq_true rfl⟩ 0 rfl rfl (Nat.le_of_ble_eq_true rfl) ⟨rfl, rfl⟩ ⟨(by show _ ≤ 600130; omega), (by show _ ≤ 7301079; omega)⟩ rfl (fun _ _ => ?_)
    refine jk_st (st' := [.int 1, .int (nI j), .ref a8]) (by rw [if_pos z5]) ?_
    refine jk_ws (ws' := (sm_S E (hb_cw E q b1 b2 C G M C2 G2 M2) (Y ++ [lw_a E 0 a6 n (upd (ar_f (lf_w C) j) j (C j 0)), lw_a E 2 a7 n (upd (ar_f (lf_b C) j) j 0), lw_a E 2 a8 n (ar_f (lf_d C) j), lw_a E 0 a9 n (ar_f (lf_s C) j)]) p n (sm_G G) (sm_N C) (sm_M M))) lw_sw ?_
    refine jk_zast (w' := (sm_S E (hb_cw E q b1 b2 C G M C2 G2 M2) (Y ++ [lw_a E 0 a6 n (upd (ar_f (lf_w C) j) j (C j 0)), lw_a E 2 a7 n (upd (ar_f (lf_b C) j) j 0), lw_a E 2 a8 n (upd (ar_f (lf_d C) j) j 1), lw_a E 0 a9 n (ar_f (lf_s C) j)]) p n (sm_G G) (sm_N C) (sm_M M))) K dL_law_168 ((hb_cw E q b1 b2 C G M C2 G2 M2).length + (13 + n + (Y.length + 2))) (sm_yat rfl) (vp_in_nI hlt (by omega)) (by rw [nI_clamp (by omega)]; exact sm_yst rfl) ?_
    refine jk_aload K dL_law_169 3 rfl ?_
    refine jk_iload K dL_law_171 0 rfl ?_
    refine jk_aload K dL_law_173 4 rfl ?_
    refine jk_iload K dL_law_175 0 rfl ?_
    refine jk_zald (v := 1) K dL_law_177 ((hb_cw E q b1 b2 C G M C2 G2 M2).length + (13 + n + (Y.length + 2))) (sm_yat rfl) (vp_in_nI hlt (by omega)) (by rw [nI_clamp (by omega), pk_us]) ?_
    refine jk_if_eq (tgt := 186) K dL_law_178 rfl (fun c_178 => ?_) (fun c_178 => ?_)
    · exact absurd c_178 (by decide)
    · refine jk_bipush (x := (-2)) K dL_law_181 rfl ?_
      refine jk_goto (tgt := 192) K dL_law_183 rfl ?_
      refine jk_iast (w' := (sm_S E (hb_cw E q b1 b2 C G M C2 G2 M2) (Y ++ [lw_a E 0 a6 n (upd (ar_f (lf_w C) j) j (C j 0)), lw_a E 2 a7 n (upd (ar_f (lf_b C) j) j 0), lw_a E 2 a8 n (upd (ar_f (lf_d C) j) j 1), lw_a E 0 a9 n (upd (ar_f (lf_s C) j) j (-2))]) p n (sm_G G) (sm_N C) (sm_M M))) K dL_law_192 ((hb_cw E q b1 b2 C G M C2 G2 M2).length + (13 + n + (Y.length + 3))) (sm_yat rfl) (vp_in_nI hlt (by omega)) (by rw [nI_clamp (by omega)]; exact sm_yst rfl) ?_
      refine jk_iload K dL_law_193 2 rfl ?_
      refine jk_aload K dL_law_195 5 rfl ?_
      refine jk_iload K dL_law_197 0 rfl ?_
      refine jk_zald (v := 0) K dL_law_199 ((hb_cw E q b1 b2 C G M C2 G2 M2).length + (13 + n + (Y.length + 1))) (sm_yat rfl) (vp_in_nI hlt (by omega)) (by rw [nI_clamp (by omega), pk_us]) ?_
      refine jk_if_eq (tgt := 207) K dL_law_200 rfl (fun c_200 => ?_) (fun c_200 => ?_)
      · refine jk_iconst (x := 0) K dL_law_207 rfl ?_
        refine jk_iadd K dL_law_208 ?_
        refine jk_istore (lv' := [(10, .int ((sm_bu (sm_N C) j) + 0)), (12, .int (nI j)), (11, .int (hb_wood C j)), (9, .ref a9), (8, .ref a8), (7, .ref a7), (6, .ref a6), (5, .int (nI n)), (3, .int (nI t)), (2, .ref (p 0)), (1, .ref q), (0, .ref E.1.2.1)]) K dL_law_209 (by decide) rfl ?_
        refine jk_iload K dL_law_211 2 rfl ?_
        refine jk_aload K dL_law_213 6 rfl ?_
        refine jk_iload K dL_law_215 1 rfl ?_
        refine jk_iald (v := (C j 0)) K dL_law_217 ((hb_cw E q b1 b2 C G M C2 G2 M2).length + (13 + n + (Y.length + 0))) (sm_yat rfl) (vp_in_nI hlt (by omega)) (by rw [nI_clamp (by omega), pk_us]) ?_
        refine jk_iadd K dL_law_218 ?_
        refine jk_istore (lv' := [(11, .int ((hb_wood C j) + (C j 0))), (10, .int ((sm_bu (sm_N C) j) + 0)), (12, .int (nI j)), (9, .ref a9), (8, .ref a8), (7, .ref a7), (6, .ref a6), (5, .int (nI n)), (3, .int (nI t)), (2, .ref (p 0)), (1, .ref q), (0, .ref E.1.2.1)]) K dL_law_219 (by decide) rfl ?_
        refine jk_aload_n K dL_law_221 rfl 10 rfl ?_
        refine jk_iload K dL_law_222 2 rfl ?_
        refine jk_ws (ws' := (hb_v1 E q b1 b2 (sm_SW E p n (sm_G G) (sm_N C) (sm_M M) ++ (Y ++ [lw_a E 0 a6 n (upd (ar_f (lf_w C) j) j (C j 0)), lw_a E 2 a7 n (upd (ar_f (lf_b C) j) j 0), lw_a E 2 a8 n (upd (ar_f (lf_d C) j) j 1), lw_a E 0 a9 n (upd (ar_f (lf_s C) j) j (-2))])) C G M C2 G2 M2)) lw_sw.symm ?_
        refine jk_cVi K (n' := (((((cn + 171 * j) + 1) + 1) + 1) + 1)) (k' := (((((ck + 1026 * j) + 6) + 6) + 6) + 6)) [.int (nI j)] [] dL_law_224 (lc_minutesToBurn _ hl E q b1 b2 (sm_SW E p n (sm_G G) (sm_N C) (sm_M M) ++ (Y ++ [lw_a E 0 a6 n (upd (ar_f (lf_w C) j) j (C j 0)), lw_a E 2 a7 n (upd (ar_f (lf_b C) j) j 0), lw_a E 2 a8 n (upd (ar_f (lf_d C) j) j 1), lw_a E 0 a9 n (upd (ar_f (lf_s C) j) j (-2))])) C G M C2 G2 M2 n hn hg j hlt) gL_law_X2_minutesToBurn rfl kd_X2_minutesToBurn ⟨Nat.le_of_ble_eq_true rfl, Nat.le_of_ble_eq_true rfl⟩ 0 rfl rfl (Nat.le_of_ble_eq_true rfl) ⟨rfl, rfl⟩ ⟨(by show _ ≤ 600130; omega), (by show _ ≤ 7301079; omega)⟩ rfl (fun _ _ => ?_)
        refine jk_st (st' := [.int 0]) (by rw [z7]) ?_
        refine jk_istore (lv' := [(13, .int 0), (11, .int ((hb_wood C j) + (C j 0))), (10, .int ((sm_bu (sm_N C) j) + 0)), (12, .int (nI j)), (9, .ref a9), (8, .ref a8), (7, .ref a7), (6, .ref a6), (5, .int (nI n)), (3, .int (nI t)), (2, .ref (p 0)), (1, .ref q), (0, .ref E.1.2.1)]) K dL_law_227 (by decide) rfl ?_
        refine jk_aload K dL_law_229 6 rfl ?_
        refine jk_iload K dL_law_231 3 rfl ?_
        refine jk_ws (ws' := (sm_S E (hb_cw E q b1 b2 C G M C2 G2 M2) (Y ++ [lw_a E 0 a6 n (upd (ar_f (lf_w C) j) j (C j 0)), lw_a E 2 a7 n (upd (ar_f (lf_b C) j) j 0), lw_a E 2 a8 n (upd (ar_f (lf_d C) j) j 1), lw_a E 0 a9 n (upd (ar_f (lf_s C) j) j (-2))]) p n (sm_G G) (sm_N C) (sm_M M))) lw_sw ?_
        refine jk_zald (v := 0) K dL_law_233 ((hb_cw E q b1 b2 C G M C2 G2 M2).length + (13 + n + (Y.length + 1))) (sm_yat rfl) (vp_in_nI hlt (by omega)) (by rw [nI_clamp (by omega), pk_us]) ?_
        refine jk_if_eq (tgt := 245) K dL_law_234 rfl (fun c_234 => ?_) (fun c_234 => ?_)
        · refine jk_iload K dL_law_245 0 rfl ?_
          refine jk_if_le (tgt := 254) K dL_law_247 rfl (fun c_247 => ?_) (fun c_247 => ?_)
          · refine jk_iconst (x := 0) K dL_law_254 rfl ?_
            refine jk_aload K dL_law_255 6 rfl ?_
            refine jk_iload K dL_law_257 3 rfl ?_
            refine jk_zald (v := 0) K dL_law_259 ((hb_cw E q b1 b2 C G M C2 G2 M2).length + (13 + n + (Y.length + 1))) (sm_yat rfl) (vp_in_nI hlt (by omega)) (by rw [nI_clamp (by omega), pk_us]) ?_
            refine jk_if_ne (tgt := 275) K dL_law_260 rfl (fun c_260 => ?_) (fun c_260 => ?_)
            · exact absurd (by decide) c_260
            · refine jk_aload K dL_law_263 5 rfl ?_
              refine jk_iload K dL_law_265 3 rfl ?_
              refine jk_zald (v := 1) K dL_law_267 ((hb_cw E q b1 b2 C G M C2 G2 M2).length + (13 + n + (Y.length + 2))) (sm_yat rfl) (vp_in_nI hlt (by omega)) (by rw [nI_clamp (by omega), pk_us]) ?_
              refine jk_if_ne (tgt := 275) K dL_law_268 rfl (fun c_268 => ?_) (fun c_268 => ?_)
              · refine jk_iconst (x := 0) K dL_law_275 rfl ?_
                refine jk_icmp_ne (tgt := 378) K dL_law_276 rfl (fun c_276 => ?_) (fun c_276 => ?_)
                · exact absurd (by decide) c_276
                · refine jk_iload K dL_law_279 0 rfl ?_
                  refine jk_bipush (x := 10) K dL_law_281 rfl ?_
                  refine jk_icmp_gt (tgt := 378) K dL_law_283 rfl (fun c_283 => ?_) (fun c_283 => ?_)
                  · exact absurd c_283 (by decide)
                  · refine jk_aload_n K dL_law_286 rfl 11 rfl ?_
                    refine jk_iload K dL_law_287 3 rfl ?_
                    refine jk_ws (ws' := (hb_v1 E q b1 b2 (sm_SW E p n (sm_G G) (sm_N C) (sm_M M) ++ (Y ++ [lw_a E 0 a6 n (upd (ar_f (lf_w C) j) j (C j 0)), lw_a E 2 a7 n (upd (ar_f (lf_b C) j) j 0), lw_a E 2 a8 n (upd (ar_f (lf_d C) j) j 1), lw_a E 0 a9 n (upd (ar_f (lf_s C) j) j (-2))])) C G M C2 G2 M2)) lw_sw.symm ?_
                    refine jk_cVi K (n' := ((((((cn + 171 * j) + 1) + 1) + 1) + 1) + 1)) (k' := ((((((ck + 1026 * j) + 6) + 6) + 6) + 6) + 6)) [.int (nI j)] [] dL_law_289 (lc_lookingFor _ hl E q b1 b2 (sm_SW E p n (sm_G G) (sm_N C) (sm_M M) ++ (Y ++ [lw_a E 0 a6 n (upd (ar_f (lf_w C) j) j (C j 0)), lw_a E 2 a7 n (upd (ar_f (lf_b C) j) j 0), lw_a E 2 a8 n (upd (ar_f (lf_d C) j) j 1), lw_a E 0 a9 n (upd (ar_f (lf_s C) j) j (-2))])) C G M C2 G2 M2 n hn hg j hlt) gL_law_X2_lookingFor rfl kd_X2_lookingFor ⟨Nat.le_of_ble_eq_true rfl, Nat.le_of_ble_eq_true rfl⟩ 0 rfl rfl (Nat.le_of_ble_eq_true rfl) ⟨rfl, rfl⟩ ⟨(by show _ ≤ 600130; omega), (by show _ ≤ 7301079; omega)⟩ rfl (fun _ _ => ?_)
                    refine jk_st (st' := [.int (nI k8)]) (by rw [e8]) ?_
                    refine jk_if_le (tgt := 303) K dL_law_292 rfl (fun c_292 => ?_) (fun c_292 => ?_)
                    · refine jk_aload_n K dL_law_303 rfl 11 rfl ?_
                      refine jk_iload K dL_law_304 3 rfl ?_
                      refine jk_cVi K (n' := (((((((cn + 171 * j) + 1) + 1) + 1) + 1) + 1) + 1)) (k' := (((((((ck + 1026 * j) + 6) + 6) + 6) + 6) + 6) + 6)) [.int (nI j)] [] dL_law_306 (lc_lookingFor _ hl E q b1 b2 (sm_SW E p n (sm_G G) (sm_N C) (sm_M M) ++ (Y ++ [lw_a E 0 a6 n (upd (ar_f (lf_w C) j) j (C j 0)), lw_a E 2 a7 n (upd (ar_f (lf_b C) j) j 0), lw_a E 2 a8 n (upd (ar_f (lf_d C) j) j 1), lw_a E 0 a9 n (upd (ar_f (lf_s C) j) j (-2))])) C G M C2 G2 M2 n hn hg j hlt) gL_law_X2_lookingFor rfl kd_X2_lookingFor ⟨Nat.le_of_ble_eq_true rfl, Nat.le_of_ble_eq_true rfl⟩ 0 rfl rfl (Nat.le_of_ble_eq_true rfl) ⟨rfl, rfl⟩ ⟨(by show _ ≤ 600130; omega), (by show _ ≤ 7301079; omega)⟩ rfl (fun _ _ => ?_)
                      refine jk_aload_n K dL_law_309 rfl 11 rfl ?_
                      refine jk_iload K dL_law_310 3 rfl ?_
                      refine jk_cVi K (n' := ((((((((cn + 171 * j) + 1) + 1) + 1) + 1) + 1) + 1) + 1)) (k' := ((((((((ck + 1026 * j) + 6) + 6) + 6) + 6) + 6) + 6) + 6)) [.int (nI j)] [.int (C j 8)] dL_law_312 (lc_watchOf _ hl E q b1 b2 (sm_SW E p n (sm_G G) (sm_N C) (sm_M M) ++ (Y ++ [lw_a E 0 a6 n (upd (ar_f (lf_w C) j) j (C j 0)), lw_a E 2 a7 n (upd (ar_f (lf_b C) j) j 0), lw_a E 2 a8 n (upd (ar_f (lf_d C) j) j 1), lw_a E 0 a9 n (upd (ar_f (lf_s C) j) j (-2))])) C G M C2 G2 M2 n hn hg j hlt) gL_law_X2_watchOf rfl kd_X2_watchOf ⟨Nat.le_of_ble_eq_true rfl, Nat.le_of_ble_eq_true rfl⟩ 0 rfl rfl (Nat.le_of_ble_eq_true rfl) ⟨rfl, rfl⟩ ⟨(by show _ ≤ 600130; omega), (by show _ ≤ 7301079; omega)⟩ rfl (fun _ _ => ?_)
                      refine jk_icmp_ge_F (tgt := 378) K dL_law_315 rfl hlw ?_
                      refine jk_aload K dL_law_318 7 rfl ?_
                      refine jk_iload K dL_law_320 3 rfl ?_
                      refine jk_ws (ws' := (sm_S E (hb_cw E q b1 b2 C G M C2 G2 M2) (Y ++ [lw_a E 0 a6 n (upd (ar_f (lf_w C) j) j (C j 0)), lw_a E 2 a7 n (upd (ar_f (lf_b C) j) j 0), lw_a E 2 a8 n (upd (ar_f (lf_d C) j) j 1), lw_a E 0 a9 n (upd (ar_f (lf_s C) j) j (-2))]) p n (sm_G G) (sm_N C) (sm_M M))) lw_sw ?_
                      refine jk_iald (v := (C j 0)) K dL_law_322 ((hb_cw E q b1 b2 C G M C2 G2 M2).length + (13 + n + (Y.length + 0))) (sm_yat rfl) (vp_in_nI hlt (by omega)) (by rw [nI_clamp (by omega), pk_us]) ?_
                      refine jk_if_lt_F (tgt := 378) K dL_law_323 rfl (by rw [e0]; exact nI_pos (by omega)) ?_
                      refine jk_aload K dL_law_326 7 rfl ?_
                      refine jk_iload K dL_law_328 3 rfl ?_
                      refine jk_iald (v := (C j 0)) K dL_law_330 ((hb_cw E q b1 b2 C G M C2 G2 M2).length + (13 + n + (Y.length + 0))) (sm_yat rfl) (vp_in_nI hlt (by omega)) (by rw [nI_clamp (by omega), pk_us]) ?_
                      refine jk_bipush (x := (nI 30)) K dL_law_331 rfl ?_
                      refine jk_icmp_gt_F (tgt := 378) K dL_law_333 rfl (by rw [e0]; exact Int32.not_lt.mpr (nI_le hk0 (by decide))) ?_
                      refine jk_aload K dL_law_336 4 rfl ?_
                      refine jk_iload K dL_law_338 3 rfl ?_
                      refine jk_iald (v := (-2)) K dL_law_340 ((hb_cw E q b1 b2 C G M C2 G2 M2).length + (13 + n + (Y.length + 3))) (sm_yat rfl) (vp_in_nI hlt (by omega)) (by rw [nI_clamp (by omega), pk_us]) ?_
                      refine jk_iload K dL_law_341 8 rfl ?_
                      refine jk_icmp_ge_F (tgt := 378) K dL_law_343 rfl (fun z => absurd (Int32.le_trans (Int32.not_lt.mp (nI_pos (by omega))) z) (by decide)) ?_
                      refine jk_aload_n K dL_law_346 rfl 11 rfl ?_
                      refine jk_iload K dL_law_347 3 rfl ?_
                      refine jk_ws (ws' := (hb_v1 E q b1 b2 (sm_SW E p n (sm_G G) (sm_N C) (sm_M M) ++ (Y ++ [lw_a E 0 a6 n (upd (ar_f (lf_w C) j) j (C j 0)), lw_a E 2 a7 n (upd (ar_f (lf_b C) j) j 0), lw_a E 2 a8 n (upd (ar_f (lf_d C) j) j 1), lw_a E 0 a9 n (upd (ar_f (lf_s C) j) j (-2))])) C G M C2 G2 M2)) lw_sw.symm ?_
                      refine jk_cVi K (n' := (((((((((cn + 171 * j) + 1) + 1) + 1) + 1) + 1) + 1) + 1) + 1)) (k' := (((((((((ck + 1026 * j) + 6) + 6) + 6) + 6) + 6) + 6) + 6) + 6)) [.int (nI j)] [] dL_law_349 (lc_isMistaken _ hl E q b1 b2 (sm_SW E p n (sm_G G) (sm_N C) (sm_M M) ++ (Y ++ [lw_a E 0 a6 n (upd (ar_f (lf_w C) j) j (C j 0)), lw_a E 2 a7 n (upd (ar_f (lf_b C) j) j 0), lw_a E 2 a8 n (upd (ar_f (lf_d C) j) j 1), lw_a E 0 a9 n (upd (ar_f (lf_s C) j) j (-2))])) C G M C2 G2 M2 n hn hg j hlt) gL_law_X2_isMistaken rfl kd_X2_isMistaken ⟨Nat.le_of_ble_eq_true rfl, Nat.le_of_ble_eq_true rfl⟩ 0 rfl rfl (Nat.le_of_ble_eq_true rfl) ⟨rfl, rfl⟩ ⟨(by show _ ≤ 600130; omega), (by show _ ≤ 7301079; omega)⟩ rfl (fun _ _ => ?_)
                      refine jk_st (st' := [.int 0]) (by rw [if_neg (by rw [z9]; decide)]) ?_
                      refine jk_aload K dL_law_352 4 rfl ?_
                      refine jk_iload K dL_law_354 3 rfl ?_
                      refine jk_ws (ws' := (sm_S E (hb_cw E q b1 b2 C G M C2 G2 M2) (Y ++ [lw_a E 0 a6 n (upd (ar_f (lf_w C) j) j (C j 0)), lw_a E 2 a7 n (upd (ar_f (lf_b C) j) j 0), lw_a E 2 a8 n (upd (ar_f (lf_d C) j) j 1), lw_a E 0 a9 n (upd (ar_f (lf_s C) j) j (-2))]) p n (sm_G G) (sm_N C) (sm_M M))) lw_sw ?_
                      refine jk_iald (v := (-2)) K dL_law_356 ((hb_cw E q b1 b2 C G M C2 G2 M2).length + (13 + n + (Y.length + 3))) (sm_yat rfl) (vp_in_nI hlt (by omega)) (by rw [nI_clamp (by omega), pk_us]) ?_
                      refine jk_iconst (x := (-1)) K dL_law_357 rfl ?_
                      refine jk_icmp_ne (tgt := 365) K dL_law_358 rfl (fun c_358 => ?_) (fun c_358 => ?_)
                      · refine jk_iconst (x := 0) K dL_law_365 rfl ?_
                        refine jk_icmp_ne (tgt := 378) K dL_law_366 rfl (fun c_366 => ?_) (fun c_366 => ?_)
                        · exact absurd (by decide) c_366
                        · refine jk_aload_n K dL_law_369 rfl 11 rfl ?_
                          refine jk_iload K dL_law_370 3 rfl ?_
                          refine jk_ws (ws' := (hb_v1 E q b1 b2 (sm_SW E p n (sm_G G) (sm_N C) (sm_M M) ++ (Y ++ [lw_a E 0 a6 n (upd (ar_f (lf_w C) j) j (C j 0)), lw_a E 2 a7 n (upd (ar_f (lf_b C) j) j 0), lw_a E 2 a8 n (upd (ar_f (lf_d C) j) j 1), lw_a E 0 a9 n (upd (ar_f (lf_s C) j) j (-2))])) C G M C2 G2 M2)) lw_sw.symm ?_
                          refine jk_cVi K (n' := ((((((((((cn + 171 * j) + 1) + 1) + 1) + 1) + 1) + 1) + 1) + 1) + 1)) (k' := ((((((((((ck + 1026 * j) + 6) + 6) + 6) + 6) + 6) + 6) + 6) + 6) + 6)) [.int (nI j)] [] dL_law_372 (lc_answersTo _ hl E q b1 b2 (sm_SW E p n (sm_G G) (sm_N C) (sm_M M) ++ (Y ++ [lw_a E 0 a6 n (upd (ar_f (lf_w C) j) j (C j 0)), lw_a E 2 a7 n (upd (ar_f (lf_b C) j) j 0), lw_a E 2 a8 n (upd (ar_f (lf_d C) j) j 1), lw_a E 0 a9 n (upd (ar_f (lf_s C) j) j (-2))])) C G M C2 G2 M2 n hn hg j hlt) gL_law_X2_answersTo rfl kd_X2_answersTo ⟨Nat.le_of_ble_eq_true rfl, Nat.le_of_ble_eq_true rfl⟩ 0 rfl rfl (Nat.le_of_ble_eq_true rfl) ⟨rfl, rfl⟩ ⟨(by show _ ≤ 600130; omega), (by show _ ≤ 7301079; omega)⟩ rfl (fun _ _ => ?_)
                          refine jk_if_ge_T (tgt := 380) K dL_law_375 rfl (by rw [e10]; exact Int32.not_lt.mp (nI_pos (by omega))) ?_
                          refine jk_iconst (x := 0) K dL_law_380 rfl ?_
                          refine jk_istore (lv' := [(14, .int 0), (13, .int 0), (11, .int ((hb_wood C j) + (C j 0))), (10, .int ((sm_bu (sm_N C) j) + 0)), (12, .int (nI j)), (9, .ref a9), (8, .ref a8), (7, .ref a7), (6, .ref a6), (5, .int (nI n)), (3, .int (nI t)), (2, .ref (p 0)), (1, .ref q), (0, .ref E.1.2.1)]) K dL_law_381 (by decide) rfl ?_
                          refine jk_ws (ws' := (hb_v1 E q b1 b2 (sm_SW E p n (sm_G G) (sm_N C) (sm_M M) ++ (Y ++ [lw_a E 0 a6 n (ar_f (lf_w C) (j + 1)), lw_a E 2 a7 n (ar_f (lf_b C) (j + 1)), lw_a E 2 a8 n (ar_f (lf_d C) (j + 1)), lw_a E 0 a9 n (ar_f (lf_s C) (j + 1))])) C G M C2 G2 M2)) (by rw [ar_f_s (lf_w C), ar_f_s (lf_b C), ar_f_s (lf_d C), ar_f_s (lf_s C), show lf_w C j = C j 0 from rfl, (show lf_b C j = 0 from if_neg (by rw [z5]; decide)), (show lf_d C j = 1 from if_pos z5), (show lf_s C j = (-2) from if_pos z5)]) ?_
                          refine jk_ws (ws' := (sm_S E (hb_cw E q b1 b2 C G M C2 G2 M2) (Y ++ [lw_a E 0 a6 n (ar_f (lf_w C) (j + 1)), lw_a E 2 a7 n (ar_f (lf_b C) (j + 1)), lw_a E 2 a8 n (ar_f (lf_d C) (j + 1)), lw_a E 0 a9 n (ar_f (lf_s C) (j + 1))]) p n (sm_G G) (sm_N C) (sm_M M))) lw_sw ?_
                          refine jk_wide (n' := (cn + 171 * j + 11 + 16 * 0)) (k' := (ck + 1026 * j + 66 + 96 * 0)) (by omega) (by omega) ?_
                          refine jk_sub (lv' := [(14, .int 0), (12, .int (nI j)), (11, .int ((hb_wood C j) + (C j 0))), (10, .int ((sm_bu (sm_N C) j) + 0)), (9, .ref a9), (8, .ref a8), (7, .ref a7), (6, .ref a6), (5, .int (nI n)), (3, .int (nI t)), (2, .ref (p 0)), (1, .ref q), (0, .ref E.1.2.1)]) [0, 4, 2, 3, 5, 6, 7, 8, 9, 10, 11, 12, 13] rfl ?_
                          refine jk_lv (lv' := [(14, .int (nI 0)), (12, .int (nI j)), (11, .int (hb_wood C (j + 1))), (10, .int (sm_bu (sm_N C) (j + 1))), (9, .ref a9), (8, .ref a8), (7, .ref a7), (6, .ref a6), (5, .int (nI n)), (3, .int (nI t)), (2, .ref (p 0)), (1, .ref q), (0, .ref E.1.2.1)]) (by rw [sm_bu_s, hb_wood_s, (show (if sm_N C j 6 = 2 then (1 : Int32) else 0) = 0 from if_neg (show ¬ C j 5 = 2 by rw [z5]; decide))]; rfl) ?_
                          exact kk
                      · exact absurd c_358 (by decide)
                    · refine jk_aload K dL_law_295 5 rfl ?_
                      refine jk_iload K dL_law_297 3 rfl ?_
                      refine jk_ws (ws' := (sm_S E (hb_cw E q b1 b2 C G M C2 G2 M2) (Y ++ [lw_a E 0 a6 n (upd (ar_f (lf_w C) j) j (C j 0)), lw_a E 2 a7 n (upd (ar_f (lf_b C) j) j 0), lw_a E 2 a8 n (upd (ar_f (lf_d C) j) j 1), lw_a E 0 a9 n (upd (ar_f (lf_s C) j) j (-2))]) p n (sm_G G) (sm_N C) (sm_M M))) lw_sw ?_
                      refine jk_zald (v := 1) K dL_law_299 ((hb_cw E q b1 b2 C G M C2 G2 M2).length + (13 + n + (Y.length + 2))) (sm_yat rfl) (vp_in_nI hlt (by omega)) (by rw [nI_clamp (by omega), pk_us]) ?_
                      refine jk_if_eq (tgt := 378) K dL_law_300 rfl (fun c_300 => ?_) (fun c_300 => ?_)
                      · exact absurd c_300 (by decide)
                      · refine jk_aload_n K dL_law_303 rfl 11 rfl ?_
                        refine jk_iload K dL_law_304 3 rfl ?_
                        refine jk_ws (ws' := (hb_v1 E q b1 b2 (sm_SW E p n (sm_G G) (sm_N C) (sm_M M) ++ (Y ++ [lw_a E 0 a6 n (upd (ar_f (lf_w C) j) j (C j 0)), lw_a E 2 a7 n (upd (ar_f (lf_b C) j) j 0), lw_a E 2 a8 n (upd (ar_f (lf_d C) j) j 1), lw_a E 0 a9 n (upd (ar_f (lf_s C) j) j (-2))])) C G M C2 G2 M2)) lw_sw.symm ?_
                        refine jk_cVi K (n' := (((((((cn + 171 * j) + 1) + 1) + 1) + 1) + 1) + 1)) (k' := (((((((ck + 1026 * j) + 6) + 6) + 6) + 6) + 6) + 6)) [.int (nI j)] [] dL_law_306 (lc_lookingFor _ hl E q b1 b2 (sm_SW E p n (sm_G G) (sm_N C) (sm_M M) ++ (Y ++ [lw_a E 0 a6 n (upd (ar_f (lf_w C) j) j (C j 0)), lw_a E 2 a7 n (upd (ar_f (lf_b C) j) j 0), lw_a E 2 a8 n (upd (ar_f (lf_d C) j) j 1), lw_a E 0 a9 n (upd (ar_f (lf_s C) j) j (-2))])) C G M C2 G2 M2 n hn hg j hlt) gL_law_X2_lookingFor rfl kd_X2_lookingFor ⟨Nat.le_of_ble_eq_true rfl, Nat.le_of_ble_eq_true rfl⟩ 0 rfl rfl (Nat.le_of_ble_eq_true rfl) ⟨rfl, rfl⟩ ⟨(by show _ ≤ 600130; omega), (by show _ ≤ 7301079; omega)⟩ rfl (fun _ _ => ?_)
                        refine jk_aload_n K dL_law_309 rfl 11 rfl ?_
                        refine jk_iload K dL_law_310 3 rfl ?_
                        refine jk_cVi K (n' := ((((((((cn + 171 * j) + 1) + 1) + 1) + 1) + 1) + 1) + 1)) (k' := ((((((((ck + 1026 * j) + 6) + 6) + 6) + 6) + 6) + 6) + 6)) [.int (nI j)] [.int (C j 8)] dL_law_312 (lc_watchOf _ hl E q b1 b2 (sm_SW E p n (sm_G G) (sm_N C) (sm_M M) ++ (Y ++ [lw_a E 0 a6 n (upd (ar_f (lf_w C) j) j (C j 0)), lw_a E 2 a7 n (upd (ar_f (lf_b C) j) j 0), lw_a E 2 a8 n (upd (ar_f (lf_d C) j) j 1), lw_a E 0 a9 n (upd (ar_f (lf_s C) j) j (-2))])) C G M C2 G2 M2 n hn hg j hlt) gL_law_X2_watchOf rfl kd_X2_watchOf ⟨Nat.le_of_ble_eq_true rfl, Nat.le_of_ble_eq_true rfl⟩ 0 rfl rfl (Nat.le_of_ble_eq_true rfl) ⟨rfl, rfl⟩ ⟨(by show _ ≤ 600130; omega), (by show _ ≤ 7301079; omega)⟩ rfl (fun _ _ => ?_)
                        refine jk_icmp_ge_F (tgt := 378) K dL_law_315 rfl hlw ?_
                        refine jk_aload K dL_law_318 7 rfl ?_
                        refine jk_iload K dL_law_320 3 rfl ?_
                        refine jk_ws (ws' := (sm_S E (hb_cw E q b1 b2 C G M C2 G2 M2) (Y ++ [lw_a E 0 a6 n (upd (ar_f (lf_w C) j) j (C j 0)), lw_a E 2 a7 n (upd (ar_f (lf_b C) j) j 0), lw_a E 2 a8 n (upd (ar_f (lf_d C) j) j 1), lw_a E 0 a9 n (upd (ar_f (lf_s C) j) j (-2))]) p n (sm_G G) (sm_N C) (sm_M M))) lw_sw ?_
                        refine jk_iald (v := (C j 0)) K dL_law_322 ((hb_cw E q b1 b2 C G M C2 G2 M2).length + (13 + n + (Y.length + 0))) (sm_yat rfl) (vp_in_nI hlt (by omega)) (by rw [nI_clamp (by omega), pk_us]) ?_
                        refine jk_if_lt_F (tgt := 378) K dL_law_323 rfl (by rw [e0]; exact nI_pos (by omega)) ?_
                        refine jk_aload K dL_law_326 7 rfl ?_
                        refine jk_iload K dL_law_328 3 rfl ?_
                        refine jk_iald (v := (C j 0)) K dL_law_330 ((hb_cw E q b1 b2 C G M C2 G2 M2).length + (13 + n + (Y.length + 0))) (sm_yat rfl) (vp_in_nI hlt (by omega)) (by rw [nI_clamp (by omega), pk_us]) ?_
                        refine jk_bipush (x := (nI 30)) K dL_law_331 rfl ?_
                        refine jk_icmp_gt_F (tgt := 378) K dL_law_333 rfl (by rw [e0]; exact Int32.not_lt.mpr (nI_le hk0 (by decide))) ?_
                        refine jk_aload K dL_law_336 4 rfl ?_
                        refine jk_iload K dL_law_338 3 rfl ?_
                        refine jk_iald (v := (-2)) K dL_law_340 ((hb_cw E q b1 b2 C G M C2 G2 M2).length + (13 + n + (Y.length + 3))) (sm_yat rfl) (vp_in_nI hlt (by omega)) (by rw [nI_clamp (by omega), pk_us]) ?_
                        refine jk_iload K dL_law_341 8 rfl ?_
                        refine jk_icmp_ge_F (tgt := 378) K dL_law_343 rfl (fun z => absurd (Int32.le_trans (Int32.not_lt.mp (nI_pos (by omega))) z) (by decide)) ?_
                        refine jk_aload_n K dL_law_346 rfl 11 rfl ?_
                        refine jk_iload K dL_law_347 3 rfl ?_
                        refine jk_ws (ws' := (hb_v1 E q b1 b2 (sm_SW E p n (sm_G G) (sm_N C) (sm_M M) ++ (Y ++ [lw_a E 0 a6 n (upd (ar_f (lf_w C) j) j (C j 0)), lw_a E 2 a7 n (upd (ar_f (lf_b C) j) j 0), lw_a E 2 a8 n (upd (ar_f (lf_d C) j) j 1), lw_a E 0 a9 n (upd (ar_f (lf_s C) j) j (-2))])) C G M C2 G2 M2)) lw_sw.symm ?_
                        refine jk_cVi K (n' := (((((((((cn + 171 * j) + 1) + 1) + 1) + 1) + 1) + 1) + 1) + 1)) (k' := (((((((((ck + 1026 * j) + 6) + 6) + 6) + 6) + 6) + 6) + 6) + 6)) [.int (nI j)] [] dL_law_349 (lc_isMistaken _ hl E q b1 b2 (sm_SW E p n (sm_G G) (sm_N C) (sm_M M) ++ (Y ++ [lw_a E 0 a6 n (upd (ar_f (lf_w C) j) j (C j 0)), lw_a E 2 a7 n (upd (ar_f (lf_b C) j) j 0), lw_a E 2 a8 n (upd (ar_f (lf_d C) j) j 1), lw_a E 0 a9 n (upd (ar_f (lf_s C) j) j (-2))])) C G M C2 G2 M2 n hn hg j hlt) gL_law_X2_isMistaken rfl kd_X2_isMistaken ⟨Nat.le_of_ble_eq_true rfl, Nat.le_of_ble_eq_true rfl⟩ 0 rfl rfl (Nat.le_of_ble_eq_true rfl) ⟨rfl, rfl⟩ ⟨(by show _ ≤ 600130; omega), (by show _ ≤ 7301079; omega)⟩ rfl (fun _ _ => ?_)
                        refine jk_st (st' := [.int 0]) (by rw [if_neg (by rw [z9]; decide)]) ?_
                        refine jk_aload K dL_law_352 4 rfl ?_
                        refine jk_iload K dL_law_354 3 rfl ?_
                        refine jk_ws (ws' := (sm_S E (hb_cw E q b1 b2 C G M C2 G2 M2) (Y ++ [lw_a E 0 a6 n (upd (ar_f (lf_w C) j) j (C j 0)), lw_a E 2 a7 n (upd (ar_f (lf_b C) j) j 0), lw_a E 2 a8 n (upd (ar_f (lf_d C) j) j 1), lw_a E 0 a9 n (upd (ar_f (lf_s C) j) j (-2))]) p n (sm_G G) (sm_N C) (sm_M M))) lw_sw ?_
                        refine jk_iald (v := (-2)) K dL_law_356 ((hb_cw E q b1 b2 C G M C2 G2 M2).length + (13 + n + (Y.length + 3))) (sm_yat rfl) (vp_in_nI hlt (by omega)) (by rw [nI_clamp (by omega), pk_us]) ?_
                        refine jk_iconst (x := (-1)) K dL_law_357 rfl ?_
                        refine jk_icmp_ne (tgt := 365) K dL_law_358 rfl (fun c_358 => ?_) (fun c_358 => ?_)
                        · refine jk_iconst (x := 0) K dL_law_365 rfl ?_
                          refine jk_icmp_ne (tgt := 378) K dL_law_366 rfl (fun c_366 => ?_) (fun c_366 => ?_)
                          · exact absurd (by decide) c_366
                          · refine jk_aload_n K dL_law_369 rfl 11 rfl ?_
                            refine jk_iload K dL_law_370 3 rfl ?_
                            refine jk_ws (ws' := (hb_v1 E q b1 b2 (sm_SW E p n (sm_G G) (sm_N C) (sm_M M) ++ (Y ++ [lw_a E 0 a6 n (upd (ar_f (lf_w C) j) j (C j 0)), lw_a E 2 a7 n (upd (ar_f (lf_b C) j) j 0), lw_a E 2 a8 n (upd (ar_f (lf_d C) j) j 1), lw_a E 0 a9 n (upd (ar_f (lf_s C) j) j (-2))])) C G M C2 G2 M2)) lw_sw.symm ?_
                            refine jk_cVi K (n' := ((((((((((cn + 171 * j) + 1) + 1) + 1) + 1) + 1) + 1) + 1) + 1) + 1)) (k' := ((((((((((ck + 1026 * j) + 6) + 6) + 6) + 6) + 6) + 6) + 6) + 6) + 6)) [.int (nI j)] [] dL_law_372 (lc_answersTo _ hl E q b1 b2 (sm_SW E p n (sm_G G) (sm_N C) (sm_M M) ++ (Y ++ [lw_a E 0 a6 n (upd (ar_f (lf_w C) j) j (C j 0)), lw_a E 2 a7 n (upd (ar_f (lf_b C) j) j 0), lw_a E 2 a8 n (upd (ar_f (lf_d C) j) j 1), lw_a E 0 a9 n (upd (ar_f (lf_s C) j) j (-2))])) C G M C2 G2 M2 n hn hg j hlt) gL_law_X2_answersTo rfl kd_X2_answersTo ⟨Nat.le_of_ble_eq_true rfl, Nat.le_of_ble_eq_true rfl⟩ 0 rfl rfl (Nat.le_of_ble_eq_true rfl) ⟨rfl, rfl⟩ ⟨(by show _ ≤ 600130; omega), (by show _ ≤ 7301079; omega)⟩ rfl (fun _ _ => ?_)
                            refine jk_if_ge_T (tgt := 380) K dL_law_375 rfl (by rw [e10]; exact Int32.not_lt.mp (nI_pos (by omega))) ?_
                            refine jk_iconst (x := 0) K dL_law_380 rfl ?_
                            refine jk_istore (lv' := [(14, .int 0), (13, .int 0), (11, .int ((hb_wood C j) + (C j 0))), (10, .int ((sm_bu (sm_N C) j) + 0)), (12, .int (nI j)), (9, .ref a9), (8, .ref a8), (7, .ref a7), (6, .ref a6), (5, .int (nI n)), (3, .int (nI t)), (2, .ref (p 0)), (1, .ref q), (0, .ref E.1.2.1)]) K dL_law_381 (by decide) rfl ?_
                            refine jk_ws (ws' := (hb_v1 E q b1 b2 (sm_SW E p n (sm_G G) (sm_N C) (sm_M M) ++ (Y ++ [lw_a E 0 a6 n (ar_f (lf_w C) (j + 1)), lw_a E 2 a7 n (ar_f (lf_b C) (j + 1)), lw_a E 2 a8 n (ar_f (lf_d C) (j + 1)), lw_a E 0 a9 n (ar_f (lf_s C) (j + 1))])) C G M C2 G2 M2)) (by rw [ar_f_s (lf_w C), ar_f_s (lf_b C), ar_f_s (lf_d C), ar_f_s (lf_s C), show lf_w C j = C j 0 from rfl, (show lf_b C j = 0 from if_neg (by rw [z5]; decide)), (show lf_d C j = 1 from if_pos z5), (show lf_s C j = (-2) from if_pos z5)]) ?_
                            refine jk_ws (ws' := (sm_S E (hb_cw E q b1 b2 C G M C2 G2 M2) (Y ++ [lw_a E 0 a6 n (ar_f (lf_w C) (j + 1)), lw_a E 2 a7 n (ar_f (lf_b C) (j + 1)), lw_a E 2 a8 n (ar_f (lf_d C) (j + 1)), lw_a E 0 a9 n (ar_f (lf_s C) (j + 1))]) p n (sm_G G) (sm_N C) (sm_M M))) lw_sw ?_
                            refine jk_wide (n' := (cn + 171 * j + 11 + 16 * 0)) (k' := (ck + 1026 * j + 66 + 96 * 0)) (by omega) (by omega) ?_
                            refine jk_sub (lv' := [(14, .int 0), (12, .int (nI j)), (11, .int ((hb_wood C j) + (C j 0))), (10, .int ((sm_bu (sm_N C) j) + 0)), (9, .ref a9), (8, .ref a8), (7, .ref a7), (6, .ref a6), (5, .int (nI n)), (3, .int (nI t)), (2, .ref (p 0)), (1, .ref q), (0, .ref E.1.2.1)]) [0, 4, 2, 3, 5, 6, 7, 8, 9, 10, 11, 12, 13] rfl ?_
                            refine jk_lv (lv' := [(14, .int (nI 0)), (12, .int (nI j)), (11, .int (hb_wood C (j + 1))), (10, .int (sm_bu (sm_N C) (j + 1))), (9, .ref a9), (8, .ref a8), (7, .ref a7), (6, .ref a6), (5, .int (nI n)), (3, .int (nI t)), (2, .ref (p 0)), (1, .ref q), (0, .ref E.1.2.1)]) (by rw [sm_bu_s, hb_wood_s, (show (if sm_N C j 6 = 2 then (1 : Int32) else 0) = 0 from if_neg (show ¬ C j 5 = 2 by rw [z5]; decide))]; rfl) ?_
                            exact kk
                        · exact absurd c_358 (by decide)
              · exact absurd c_268 (by decide)
          · exact absurd (by decide) c_247
        · exact absurd (by decide) c_234
      · exact absurd (by decide) c_200
  · have hlw : ¬ C j 2 ≤ C j 8 := by rw [z8, e2]; exact fun z => by have z9 := (nI_leI (a := m0) (b := 0) (by omega) (by omega)).mp z; omega
    rcases zs with zs | ⟨s, hs, zs⟩
    · refine jk_aload K dL_law_136 6 rfl ?_
      refine jk_iload K dL_law_138 0 rfl ?_
      refine jk_aload_n K dL_law_140 rfl 10 rfl ?_
      refine jk_iload K dL_law_141 0 rfl ?_
      refine jk_ws (ws' := (hb_v1 E q b1 b2 (sm_SW E p n (sm_G G) (sm_N C) (sm_M M) ++ (Y ++ [lw_a E 0 a6 n (ar_f (lf_w C) j), lw_a E 2 a7 n (ar_f (lf_b C) j), lw_a E 2 a8 n (ar_f (lf_d C) j), lw_a E 0 a9 n (ar_f (lf_s C) j)])) C G M C2 G2 M2)) lw_sw.symm ?_
      refine jk_cVi K (n' := ((cn + 171 * j) + 1)) (k' := ((ck + 1026 * j) + 6)) [.int (nI j)] [.int (nI j), .ref a6] dL_law_143 (lc_woodOf _ hl E q b1 b2 (sm_SW E p n (sm_G G) (sm_N C) (sm_M M) ++ (Y ++ [lw_a E 0 a6 n (ar_f (lf_w C) j), lw_a E 2 a7 n (ar_f (lf_b C) j), lw_a E 2 a8 n (ar_f (lf_d C) j), lw_a E 0 a9 n (ar_f (lf_s C) j)])) C G M C2 G2 M2 n hn hg j hlt) gL_law_X2_woodOf rfl kd_X2_woodOf ⟨Nat.le_of_ble_eq_true rfl, Nat.le_of_ble_eq_true rfl⟩ 0 rfl rfl (Nat.le_of_ble_eq_true rfl) ⟨rfl, rfl⟩ ⟨(by show _ ≤ 600130; omega), (by show _ ≤ 7301079; omega)⟩ rfl (fun _ _ => ?_)
      refine jk_ws (ws' := (sm_S E (hb_cw E q b1 b2 C G M C2 G2 M2) (Y ++ [lw_a E 0 a6 n (ar_f (lf_w C) j), lw_a E 2 a7 n (ar_f (lf_b C) j), lw_a E 2 a8 n (ar_f (lf_d C) j), lw_a E 0 a9 n (ar_f (lf_s C) j)]) p n (sm_G G) (sm_N C) (sm_M M))) lw_sw ?_
      refine jk_iast (w' := (sm_S E (hb_cw E q b1 b2 C G M C2 G2 M2) (Y ++ [lw_a E 0 a6 n (upd (ar_f (lf_w C) j) j (C j 0)), lw_a E 2 a7 n (ar_f (lf_b C) j), lw_a E 2 a8 n (ar_f (lf_d C) j), lw_a E 0 a9 n (ar_f (lf_s C) j)]) p n (sm_G G) (sm_N C) (sm_M M))) K dL_law_146 ((hb_cw E q b1 b2 C G M C2 G2 M2).length + (13 + n + (Y.length + 0))) (sm_yat rfl) (vp_in_nI hlt (by omega)) (by rw [nI_clamp (by omega)]; exact sm_yst rfl) ?_
      refine jk_aload K dL_law_147 5 rfl ?_
      refine jk_iload K dL_law_149 0 rfl ?_
      refine jk_aload_n K dL_law_151 rfl 10 rfl ?_
      refine jk_iload K dL_law_152 0 rfl ?_
      refine jk_ws (ws' := (hb_v1 E q b1 b2 (sm_SW E p n (sm_G G) (sm_N C) (sm_M M) ++ (Y ++ [lw_a E 0 a6 n (upd (ar_f (lf_w C) j) j (C j 0)), lw_a E 2 a7 n (ar_f (lf_b C) j), lw_a E 2 a8 n (ar_f (lf_d C) j), lw_a E 0 a9 n (ar_f (lf_s C) j)])) C G M C2 G2 M2)) lw_sw.symm ?_
      refine jk_cVi K (n' := (((cn + 171 * j) + 1) + 1)) (k' := (((ck + 1026 * j) + 6) + 6)) [.int (nI j)] [.int (nI j), .ref a7] dL_law_154 (lc_isBurning _ hl E q b1 b2 (sm_SW E p n (sm_G G) (sm_N C) (sm_M M) ++ (Y ++ [lw_a E 0 a6 n (upd (ar_f (lf_w C) j) j (C j 0)), lw_a E 2 a7 n (ar_f (lf_b C) j), lw_a E 2 a8 n (ar_f (lf_d C) j), lw_a E 0 a9 n (ar_f (lf_s C) j)])) C G M C2 G2 M2 n hn hg j hlt) gL_law_X2_isBurning rfl kd_X2_isBurning ⟨Nat.le_of_ble_eq_true rfl, Nat.le_of_ble_eq_true rfl⟩ 0 rfl rfl (Nat.le_of_ble_eq_true rfl) ⟨rfl, rfl⟩ ⟨(by show _ ≤ 600130; omega), (by show _ ≤ 7301079; omega)⟩ rfl (fun _ _ => ?_)
      refine jk_st (st' := [.int 0, .int (nI j), .ref a7]) (by rw [if_neg (by rw [z5]; decide)]) ?_
      refine jk_ws (ws' := (sm_S E (hb_cw E q b1 b2 C G M C2 G2 M2) (Y ++ [lw_a E 0 a6 n (upd (ar_f (lf_w C) j) j (C j 0)), lw_a E 2 a7 n (ar_f (lf_b C) j), lw_a E 2 a8 n (ar_f (lf_d C) j), lw_a E 0 a9 n (ar_f (lf_s C) j)]) p n (sm_G G) (sm_N C) (sm_M M))) lw_sw ?_
      refine jk_zast (w' := (sm_S E (hb_cw E q b1 b2 C G M C2 G2 M2) (Y ++ [lw_a E 0 a6 n (upd (ar_f (lf_w C) j) j (C j 0)), lw_a E 2 a7 n (upd (ar_f (lf_b C) j) j 0), lw_a E 2 a8 n (ar_f (lf_d C) j), lw_a E 0 a9 n (ar_f (lf_s C) j)]) p n (sm_G G) (sm_N C) (sm_M M))) K dL_law_157 ((hb_cw E q b1 b2 C G M C2 G2 M2).length + (13 + n + (Y.length + 1))) (sm_yat rfl) (vp_in_nI hlt (by omega)) (by rw [nI_clamp (by omega)]; exact sm_yst rfl) ?_
      refine jk_aload K dL_law_158 4 rfl ?_
      refine jk_iload K dL_law_160 0 rfl ?_
      refine jk_aload_n K dL_law_162 rfl 10 rfl ?_
      refine jk_iload K dL_law_163 0 rfl ?_
      refine jk_ws (ws' := (hb_v1 E q b1 b2 (sm_SW E p n (sm_G G) (sm_N C) (sm_M M) ++ (Y ++ [lw_a E 0 a6 n (upd (ar_f (lf_w C) j) j (C j 0)), lw_a E 2 a7 n (upd (ar_f (lf_b C) j) j 0), lw_a E 2 a8 n (ar_f (lf_d C) j), lw_a E 0 a9 n (ar_f (lf_s C) j)])) C G M C2 G2 M2)) lw_sw.symm ?_
      refine jk_cVi K (n' := ((((cn + 171 * j) + 1) + 1) + 1)) (k' := ((((ck + 1026 * j) + 6) + 6) + 6)) [.int (nI j)] [.int (nI j), .ref a8] dL_law_165 (lc_isDark _ hl E q b1 b2 (sm_SW E p n (sm_G G) (sm_N C) (sm_M M) ++ (Y ++ [lw_a E 0 a6 n (upd (ar_f (lf_w C) j) j (C j 0)), lw_a E 2 a7 n (upd (ar_f (lf_b C) j) j 0), lw_a E 2 a8 n (ar_f (lf_d C) j), lw_a E 0 a9 n (ar_f (lf_s C) j)])) C G M C2 G2 M2 n hn hg j hlt) gL_law_X2_isDark rfl kd_X2_isDark ⟨Nat.le_of_ble_eq_true rfl, Nat.le_of_ble_eq_true rfl⟩ 0 rfl rfl (Nat.le_of_ble_eq_true rfl) ⟨rfl, rfl⟩ ⟨(by show _ ≤ 600130; omega), (by show _ ≤ 7301079; omega)⟩ rfl (fun _ _ => ?_)
      refine jk_st (st' := [.int 0, .int (nI j), .ref a8]) (by rw [if_neg (by rw [z5]; decide)]) ?_
      refine jk_ws (ws' := (sm_S E (hb_cw E q b1 b2 C G M C2 G2 M2) (Y ++ [lw_a E 0 a6 n (upd (ar_f (lf_w C) j) j (C j 0)), lw_a E 2 a7 n (upd (ar_f (lf_b C) j) j 0), lw_a E 2 a8 n (ar_f (lf_d C) j), lw_a E 0 a9 n (ar_f (lf_s C) j)]) p n (sm_G G) (sm_N C) (sm_M M))) lw_sw ?_
      refine jk_zast (w' := (sm_S E (hb_cw E q b1 b2 C G M C2 G2 M2) (Y ++ [lw_a E 0 a6 n (upd (ar_f (lf_w C) j) j (C j 0)), lw_a E 2 a7 n (upd (ar_f (lf_b C) j) j 0), lw_a E 2 a8 n (upd (ar_f (lf_d C) j) j 0), lw_a E 0 a9 n (ar_f (lf_s C) j)]) p n (sm_G G) (sm_N C) (sm_M M))) K dL_law_168 ((hb_cw E q b1 b2 C G M C2 G2 M2).length + (13 + n + (Y.length + 2))) (sm_yat rfl) (vp_in_nI hlt (by omega)) (by rw [nI_clamp (by omega)]; exact sm_yst rfl) ?_
      refine jk_aload K dL_law_169 3 rfl ?_
      refine jk_iload K dL_law_171 0 rfl ?_
      refine jk_aload K dL_law_173 4 rfl ?_
      refine jk_iload K dL_law_175 0 rfl ?_
      refine jk_zald (v := 0) K dL_law_177 ((hb_cw E q b1 b2 C G M C2 G2 M2).length + (13 + n + (Y.length + 2))) (sm_yat rfl) (vp_in_nI hlt (by omega)) (by rw [nI_clamp (by omega), pk_us]) ?_
      refine jk_if_eq (tgt := 186) K dL_law_178 rfl (fun c_178 => ?_) (fun c_178 => ?_)
      · refine jk_aload_n K dL_law_186 rfl 10 rfl ?_
        refine jk_iload K dL_law_187 0 rfl ?_
        refine jk_ws (ws' := (hb_v1 E q b1 b2 (sm_SW E p n (sm_G G) (sm_N C) (sm_M M) ++ (Y ++ [lw_a E 0 a6 n (upd (ar_f (lf_w C) j) j (C j 0)), lw_a E 2 a7 n (upd (ar_f (lf_b C) j) j 0), lw_a E 2 a8 n (upd (ar_f (lf_d C) j) j 0), lw_a E 0 a9 n (ar_f (lf_s C) j)])) C G M C2 G2 M2)) lw_sw.symm ?_
        refine jk_cVi K (n' := (((((cn + 171 * j) + 1) + 1) + 1) + 2)) (k' := (((((ck + 1026 * j) + 6) + 6) + 6) + 12)) [.int (nI j)] [.int (nI j), .ref a9] dL_law_189 (lc_sourceOf _ hl E q b1 b2 (sm_SW E p n (sm_G G) (sm_N C) (sm_M M) ++ (Y ++ [lw_a E 0 a6 n (upd (ar_f (lf_w C) j) j (C j 0)), lw_a E 2 a7 n (upd (ar_f (lf_b C) j) j 0), lw_a E 2 a8 n (upd (ar_f (lf_d C) j) j 0), lw_a E 0 a9 n (ar_f (lf_s C) j)])) C G M C2 G2 M2 n hn hg j hlt (by rw [z5]; decide)) gL_law_X2_sourceOf rfl kd_X2_sourceOf ⟨Nat.le_of_ble_eq_true rfl, Nat.le_of_ble_eq_true rfl⟩ 0 rfl rfl (Nat.le_of_ble_eq_true rfl) ⟨rfl, rfl⟩ ⟨(by show _ ≤ 600130; omega), (by show _ ≤ 7301079; omega)⟩ rfl (fun _ _ => ?_)
        refine jk_st (st' := [.int (-1), .int (nI j), .ref a9]) (by rw [zs]) ?_
        refine jk_ws (ws' := (sm_S E (hb_cw E q b1 b2 C G M C2 G2 M2) (Y ++ [lw_a E 0 a6 n (upd (ar_f (lf_w C) j) j (C j 0)), lw_a E 2 a7 n (upd (ar_f (lf_b C) j) j 0), lw_a E 2 a8 n (upd (ar_f (lf_d C) j) j 0), lw_a E 0 a9 n (ar_f (lf_s C) j)]) p n (sm_G G) (sm_N C) (sm_M M))) lw_sw ?_
        refine jk_iast (w' := (sm_S E (hb_cw E q b1 b2 C G M C2 G2 M2) (Y ++ [lw_a E 0 a6 n (upd (ar_f (lf_w C) j) j (C j 0)), lw_a E 2 a7 n (upd (ar_f (lf_b C) j) j 0), lw_a E 2 a8 n (upd (ar_f (lf_d C) j) j 0), lw_a E 0 a9 n (upd (ar_f (lf_s C) j) j (-1))]) p n (sm_G G) (sm_N C) (sm_M M))) K dL_law_192 ((hb_cw E q b1 b2 C G M C2 G2 M2).length + (13 + n + (Y.length + 3))) (sm_yat rfl) (vp_in_nI hlt (by omega)) (by rw [nI_clamp (by omega)]; exact sm_yst rfl) ?_
        refine jk_iload K dL_law_193 2 rfl ?_
        refine jk_aload K dL_law_195 5 rfl ?_
        refine jk_iload K dL_law_197 0 rfl ?_
        refine jk_zald (v := 0) K dL_law_199 ((hb_cw E q b1 b2 C G M C2 G2 M2).length + (13 + n + (Y.length + 1))) (sm_yat rfl) (vp_in_nI hlt (by omega)) (by rw [nI_clamp (by omega), pk_us]) ?_
        refine jk_if_eq (tgt := 207) K dL_law_200 rfl (fun c_200 => ?_) (fun c_200 => ?_)
        · refine jk_iconst (x := 0) K dL_law_207 rfl ?_
          refine jk_iadd K dL_law_208 ?_
          refine jk_istore (lv' := [(10, .int ((sm_bu (sm_N C) j) + 0)), (12, .int (nI j)), (11, .int (hb_wood C j)), (9, .ref a9), (8, .ref a8), (7, .ref a7), (6, .ref a6), (5, .int (nI n)), (3, .int (nI t)), (2, .ref (p 0)), (1, .ref q), (0, .ref E.1.2.1)]) K dL_law_209 (by decide) rfl ?_
          refine jk_iload K dL_law_211 2 rfl ?_
          refine jk_aload K dL_law_213 6 rfl ?_
          refine jk_iload K dL_law_215 1 rfl ?_
          refine jk_iald (v := (C j 0)) K dL_law_217 ((hb_cw E q b1 b2 C G M C2 G2 M2).length + (13 + n + (Y.length + 0))) (sm_yat rfl) (vp_in_nI hlt (by omega)) (by rw [nI_clamp (by omega), pk_us]) ?_
          refine jk_iadd K dL_law_218 ?_
          refine jk_istore (lv' := [(11, .int ((hb_wood C j) + (C j 0))), (10, .int ((sm_bu (sm_N C) j) + 0)), (12, .int (nI j)), (9, .ref a9), (8, .ref a8), (7, .ref a7), (6, .ref a6), (5, .int (nI n)), (3, .int (nI t)), (2, .ref (p 0)), (1, .ref q), (0, .ref E.1.2.1)]) K dL_law_219 (by decide) rfl ?_
          refine jk_aload_n K dL_law_221 rfl 10 rfl ?_
          refine jk_iload K dL_law_222 2 rfl ?_
          refine jk_ws (ws' := (hb_v1 E q b1 b2 (sm_SW E p n (sm_G G) (sm_N C) (sm_M M) ++ (Y ++ [lw_a E 0 a6 n (upd (ar_f (lf_w C) j) j (C j 0)), lw_a E 2 a7 n (upd (ar_f (lf_b C) j) j 0), lw_a E 2 a8 n (upd (ar_f (lf_d C) j) j 0), lw_a E 0 a9 n (upd (ar_f (lf_s C) j) j (-1))])) C G M C2 G2 M2)) lw_sw.symm ?_
          refine jk_cVi K (n' := ((((((cn + 171 * j) + 1) + 1) + 1) + 2) + 1)) (k' := ((((((ck + 1026 * j) + 6) + 6) + 6) + 12) + 6)) [.int (nI j)] [] dL_law_224 (lc_minutesToBurn _ hl E q b1 b2 (sm_SW E p n (sm_G G) (sm_N C) (sm_M M) ++ (Y ++ [lw_a E 0 a6 n (upd (ar_f (lf_w C) j) j (C j 0)), lw_a E 2 a7 n (upd (ar_f (lf_b C) j) j 0), lw_a E 2 a8 n (upd (ar_f (lf_d C) j) j 0), lw_a E 0 a9 n (upd (ar_f (lf_s C) j) j (-1))])) C G M C2 G2 M2 n hn hg j hlt) gL_law_X2_minutesToBurn rfl kd_X2_minutesToBurn ⟨Nat.le_of_ble_eq_true rfl, Nat.le_of_ble_eq_true rfl⟩ 0 rfl rfl (Nat.le_of_ble_eq_true rfl) ⟨rfl, rfl⟩ ⟨(by show _ ≤ 600130; omega), (by show _ ≤ 7301079; omega)⟩ rfl (fun _ _ => ?_)
          refine jk_st (st' := [.int (nI k7)]) (by rw [e7]) ?_
          refine jk_istore (lv' := [(13, .int (nI k7)), (11, .int ((hb_wood C j) + (C j 0))), (10, .int ((sm_bu (sm_N C) j) + 0)), (12, .int (nI j)), (9, .ref a9), (8, .ref a8), (7, .ref a7), (6, .ref a6), (5, .int (nI n)), (3, .int (nI t)), (2, .ref (p 0)), (1, .ref q), (0, .ref E.1.2.1)]) K dL_law_227 (by decide) rfl ?_
          refine jk_aload K dL_law_229 6 rfl ?_
          refine jk_iload K dL_law_231 3 rfl ?_
          refine jk_ws (ws' := (sm_S E (hb_cw E q b1 b2 C G M C2 G2 M2) (Y ++ [lw_a E 0 a6 n (upd (ar_f (lf_w C) j) j (C j 0)), lw_a E 2 a7 n (upd (ar_f (lf_b C) j) j 0), lw_a E 2 a8 n (upd (ar_f (lf_d C) j) j 0), lw_a E 0 a9 n (upd (ar_f (lf_s C) j) j (-1))]) p n (sm_G G) (sm_N C) (sm_M M))) lw_sw ?_
          refine jk_zald (v := 0) K dL_law_233 ((hb_cw E q b1 b2 C G M C2 G2 M2).length + (13 + n + (Y.length + 1))) (sm_yat rfl) (vp_in_nI hlt (by omega)) (by rw [nI_clamp (by omega), pk_us]) ?_
          refine jk_if_eq (tgt := 245) K dL_law_234 rfl (fun c_234 => ?_) (fun c_234 => ?_)
          · refine jk_iload K dL_law_245 0 rfl ?_
            refine jk_if_le_F (tgt := 254) K dL_law_247 rfl (fun z => by have z9 := (nI_leI (a := k7) (b := 0) (by omega) (by omega)).mp z; omega) ?_
            refine jk_iconst (x := 1) K dL_law_250 rfl ?_
            refine jk_goto (tgt := 255) K dL_law_251 rfl ?_
            refine jk_aload K dL_law_255 6 rfl ?_
            refine jk_iload K dL_law_257 3 rfl ?_
            refine jk_zald (v := 0) K dL_law_259 ((hb_cw E q b1 b2 C G M C2 G2 M2).length + (13 + n + (Y.length + 1))) (sm_yat rfl) (vp_in_nI hlt (by omega)) (by rw [nI_clamp (by omega), pk_us]) ?_
            refine jk_if_ne (tgt := 275) K dL_law_260 rfl (fun c_260 => ?_) (fun c_260 => ?_)
            · exact absurd (by decide) c_260
            · refine jk_aload K dL_law_263 5 rfl ?_
              refine jk_iload K dL_law_265 3 rfl ?_
              refine jk_zald (v := 0) K dL_law_267 ((hb_cw E q b1 b2 C G M C2 G2 M2).length + (13 + n + (Y.length + 2))) (sm_yat rfl) (vp_in_nI hlt (by omega)) (by rw [nI_clamp (by omega), pk_us]) ?_
              refine jk_if_ne (tgt := 275) K dL_law_268 rfl (fun c_268 => ?_) (fun c_268 => ?_)
              · exact absurd (by decide) c_268
              · refine jk_iconst (x := 1) K dL_law_271 rfl ?_
                refine jk_goto (tgt := 276) K dL_law_272 rfl ?_
                refine jk_icmp_ne (tgt := 378) K dL_law_276 rfl (fun c_276 => ?_) (fun c_276 => ?_)
                · exact absurd (by decide) c_276
                · refine jk_iload K dL_law_279 0 rfl ?_
                  refine jk_bipush (x := (nI 10)) K dL_law_281 rfl ?_
                  refine jk_icmp_gt_F (tgt := 378) K dL_law_283 rfl (Int32.not_lt.mpr (nI_le h710 (by decide))) ?_
                  refine jk_aload_n K dL_law_286 rfl 11 rfl ?_
                  refine jk_iload K dL_law_287 3 rfl ?_
                  refine jk_ws (ws' := (hb_v1 E q b1 b2 (sm_SW E p n (sm_G G) (sm_N C) (sm_M M) ++ (Y ++ [lw_a E 0 a6 n (upd (ar_f (lf_w C) j) j (C j 0)), lw_a E 2 a7 n (upd (ar_f (lf_b C) j) j 0), lw_a E 2 a8 n (upd (ar_f (lf_d C) j) j 0), lw_a E 0 a9 n (upd (ar_f (lf_s C) j) j (-1))])) C G M C2 G2 M2)) lw_sw.symm ?_
                  refine jk_cVi K (n' := (((((((cn + 171 * j) + 1) + 1) + 1) + 2) + 1) + 1)) (k' := (((((((ck + 1026 * j) + 6) + 6) + 6) + 12) + 6) + 6)) [.int (nI j)] [] dL_law_289 (lc_lookingFor _ hl E q b1 b2 (sm_SW E p n (sm_G G) (sm_N C) (sm_M M) ++ (Y ++ [lw_a E 0 a6 n (upd (ar_f (lf_w C) j) j (C j 0)), lw_a E 2 a7 n (upd (ar_f (lf_b C) j) j 0), lw_a E 2 a8 n (upd (ar_f (lf_d C) j) j 0), lw_a E 0 a9 n (upd (ar_f (lf_s C) j) j (-1))])) C G M C2 G2 M2 n hn hg j hlt) gL_law_X2_lookingFor rfl kd_X2_lookingFor ⟨Nat.le_of_ble_eq_true rfl, Nat.le_of_ble_eq_true rfl⟩ 0 rfl rfl (Nat.le_of_ble_eq_true rfl) ⟨rfl, rfl⟩ ⟨(by show _ ≤ 600130; omega), (by show _ ≤ 7301079; omega)⟩ rfl (fun _ _ => ?_)
                  refine jk_st (st' := [.int 0]) (by rw [z8]) ?_
                  refine jk_if_le (tgt := 303) K dL_law_292 rfl (fun c_292 => ?_) (fun c_292 => ?_)
                  · refine jk_aload_n K dL_law_303 rfl 11 rfl ?_
                    refine jk_iload K dL_law_304 3 rfl ?_
                    refine jk_cVi K (n' := ((((((((cn + 171 * j) + 1) + 1) + 1) + 2) + 1) + 1) + 1)) (k' := ((((((((ck + 1026 * j) + 6) + 6) + 6) + 12) + 6) + 6) + 6)) [.int (nI j)] [] dL_law_306 (lc_lookingFor _ hl E q b1 b2 (sm_SW E p n (sm_G G) (sm_N C) (sm_M M) ++ (Y ++ [lw_a E 0 a6 n (upd (ar_f (lf_w C) j) j (C j 0)), lw_a E 2 a7 n (upd (ar_f (lf_b C) j) j 0), lw_a E 2 a8 n (upd (ar_f (lf_d C) j) j 0), lw_a E 0 a9 n (upd (ar_f (lf_s C) j) j (-1))])) C G M C2 G2 M2 n hn hg j hlt) gL_law_X2_lookingFor rfl kd_X2_lookingFor ⟨Nat.le_of_ble_eq_true rfl, Nat.le_of_ble_eq_true rfl⟩ 0 rfl rfl (Nat.le_of_ble_eq_true rfl) ⟨rfl, rfl⟩ ⟨(by show _ ≤ 600130; omega), (by show _ ≤ 7301079; omega)⟩ rfl (fun _ _ => ?_)
                    refine jk_aload_n K dL_law_309 rfl 11 rfl ?_
                    refine jk_iload K dL_law_310 3 rfl ?_
                    refine jk_cVi K (n' := (((((((((cn + 171 * j) + 1) + 1) + 1) + 2) + 1) + 1) + 1) + 1)) (k' := (((((((((ck + 1026 * j) + 6) + 6) + 6) + 12) + 6) + 6) + 6) + 6)) [.int (nI j)] [.int (C j 8)] dL_law_312 (lc_watchOf _ hl E q b1 b2 (sm_SW E p n (sm_G G) (sm_N C) (sm_M M) ++ (Y ++ [lw_a E 0 a6 n (upd (ar_f (lf_w C) j) j (C j 0)), lw_a E 2 a7 n (upd (ar_f (lf_b C) j) j 0), lw_a E 2 a8 n (upd (ar_f (lf_d C) j) j 0), lw_a E 0 a9 n (upd (ar_f (lf_s C) j) j (-1))])) C G M C2 G2 M2 n hn hg j hlt) gL_law_X2_watchOf rfl kd_X2_watchOf ⟨Nat.le_of_ble_eq_true rfl, Nat.le_of_ble_eq_true rfl⟩ 0 rfl rfl (Nat.le_of_ble_eq_true rfl) ⟨rfl, rfl⟩ ⟨(by show _ ≤ 600130; omega), (by show _ ≤ 7301079; omega)⟩ rfl (fun _ _ => ?_)
                    refine jk_icmp_ge_F (tgt := 378) K dL_law_315 rfl hlw ?_
                    refine jk_aload K dL_law_318 7 rfl ?_
                    refine jk_iload K dL_law_320 3 rfl ?_
                    refine jk_ws (ws' := (sm_S E (hb_cw E q b1 b2 C G M C2 G2 M2) (Y ++ [lw_a E 0 a6 n (upd (ar_f (lf_w C) j) j (C j 0)), lw_a E 2 a7 n (upd (ar_f (lf_b C) j) j 0), lw_a E 2 a8 n (upd (ar_f (lf_d C) j) j 0), lw_a E 0 a9 n (upd (ar_f (lf_s C) j) j (-1))]) p n (sm_G G) (sm_N C) (sm_M M))) lw_sw ?_
                    refine jk_iald (v := (C j 0)) K dL_law_322 ((hb_cw E q b1 b2 C G M C2 G2 M2).length + (13 + n + (Y.length + 0))) (sm_yat rfl) (vp_in_nI hlt (by omega)) (by rw [nI_clamp (by omega), pk_us]) ?_
                    refine jk_if_lt_F (tgt := 378) K dL_law_323 rfl (by rw [e0]; exact nI_pos (by omega)) ?_
                    refine jk_aload K dL_law_326 7 rfl ?_
                    refine jk_iload K dL_law_328 3 rfl ?_
                    refine jk_iald (v := (C j 0)) K dL_law_330 ((hb_cw E q b1 b2 C G M C2 G2 M2).length + (13 + n + (Y.length + 0))) (sm_yat rfl) (vp_in_nI hlt (by omega)) (by rw [nI_clamp (by omega), pk_us]) ?_
                    refine jk_bipush (x := (nI 30)) K dL_law_331 rfl ?_
                    refine jk_icmp_gt_F (tgt := 378) K dL_law_333 rfl (by rw [e0]; exact Int32.not_lt.mpr (nI_le hk0 (by decide))) ?_
                    refine jk_aload K dL_law_336 4 rfl ?_
                    refine jk_iload K dL_law_338 3 rfl ?_
                    refine jk_iald (v := (-1)) K dL_law_340 ((hb_cw E q b1 b2 C G M C2 G2 M2).length + (13 + n + (Y.length + 3))) (sm_yat rfl) (vp_in_nI hlt (by omega)) (by rw [nI_clamp (by omega), pk_us]) ?_
                    refine jk_iload K dL_law_341 8 rfl ?_
                    refine jk_icmp_ge_F (tgt := 378) K dL_law_343 rfl (fun z => absurd (Int32.le_trans (Int32.not_lt.mp (nI_pos (by omega))) z) (by decide)) ?_
                    refine jk_aload_n K dL_law_346 rfl 11 rfl ?_
                    refine jk_iload K dL_law_347 3 rfl ?_
                    refine jk_ws (ws' := (hb_v1 E q b1 b2 (sm_SW E p n (sm_G G) (sm_N C) (sm_M M) ++ (Y ++ [lw_a E 0 a6 n (upd (ar_f (lf_w C) j) j (C j 0)), lw_a E 2 a7 n (upd (ar_f (lf_b C) j) j 0), lw_a E 2 a8 n (upd (ar_f (lf_d C) j) j 0), lw_a E 0 a9 n (upd (ar_f (lf_s C) j) j (-1))])) C G M C2 G2 M2)) lw_sw.symm ?_
                    refine jk_cVi K (n' := ((((((((((cn + 171 * j) + 1) + 1) + 1) + 2) + 1) + 1) + 1) + 1) + 1)) (k' := ((((((((((ck + 1026 * j) + 6) + 6) + 6) + 12) + 6) + 6) + 6) + 6) + 6)) [.int (nI j)] [] dL_law_349 (lc_isMistaken _ hl E q b1 b2 (sm_SW E p n (sm_G G) (sm_N C) (sm_M M) ++ (Y ++ [lw_a E 0 a6 n (upd (ar_f (lf_w C) j) j (C j 0)), lw_a E 2 a7 n (upd (ar_f (lf_b C) j) j 0), lw_a E 2 a8 n (upd (ar_f (lf_d C) j) j 0), lw_a E 0 a9 n (upd (ar_f (lf_s C) j) j (-1))])) C G M C2 G2 M2 n hn hg j hlt) gL_law_X2_isMistaken rfl kd_X2_isMistaken ⟨Nat.le_of_ble_eq_true rfl, Nat.le_of_ble_eq_true rfl⟩ 0 rfl rfl (Nat.le_of_ble_eq_true rfl) ⟨rfl, rfl⟩ ⟨(by show _ ≤ 600130; omega), (by show _ ≤ 7301079; omega)⟩ rfl (fun _ _ => ?_)
                    refine jk_st (st' := [.int 1]) (by rw [if_pos zs]) ?_
                    refine jk_aload K dL_law_352 4 rfl ?_
                    refine jk_iload K dL_law_354 3 rfl ?_
                    refine jk_ws (ws' := (sm_S E (hb_cw E q b1 b2 C G M C2 G2 M2) (Y ++ [lw_a E 0 a6 n (upd (ar_f (lf_w C) j) j (C j 0)), lw_a E 2 a7 n (upd (ar_f (lf_b C) j) j 0), lw_a E 2 a8 n (upd (ar_f (lf_d C) j) j 0), lw_a E 0 a9 n (upd (ar_f (lf_s C) j) j (-1))]) p n (sm_G G) (sm_N C) (sm_M M))) lw_sw ?_
                    refine jk_iald (v := (-1)) K dL_law_356 ((hb_cw E q b1 b2 C G M C2 G2 M2).length + (13 + n + (Y.length + 3))) (sm_yat rfl) (vp_in_nI hlt (by omega)) (by rw [nI_clamp (by omega), pk_us]) ?_
                    refine jk_iconst (x := (-1)) K dL_law_357 rfl ?_
                    refine jk_icmp_ne (tgt := 365) K dL_law_358 rfl (fun c_358 => ?_) (fun c_358 => ?_)
                    · exact absurd (by decide) c_358
                    · refine jk_iconst (x := 1) K dL_law_361 rfl ?_
                      refine jk_goto (tgt := 366) K dL_law_362 rfl ?_
                      refine jk_icmp_ne (tgt := 378) K dL_law_366 rfl (fun c_366 => ?_) (fun c_366 => ?_)
                      · exact absurd (by decide) c_366
                      · refine jk_aload_n K dL_law_369 rfl 11 rfl ?_
                        refine jk_iload K dL_law_370 3 rfl ?_
                        refine jk_ws (ws' := (hb_v1 E q b1 b2 (sm_SW E p n (sm_G G) (sm_N C) (sm_M M) ++ (Y ++ [lw_a E 0 a6 n (upd (ar_f (lf_w C) j) j (C j 0)), lw_a E 2 a7 n (upd (ar_f (lf_b C) j) j 0), lw_a E 2 a8 n (upd (ar_f (lf_d C) j) j 0), lw_a E 0 a9 n (upd (ar_f (lf_s C) j) j (-1))])) C G M C2 G2 M2)) lw_sw.symm ?_
                        refine jk_cVi K (n' := (((((((((((cn + 171 * j) + 1) + 1) + 1) + 2) + 1) + 1) + 1) + 1) + 1) + 1)) (k' := (((((((((((ck + 1026 * j) + 6) + 6) + 6) + 12) + 6) + 6) + 6) + 6) + 6) + 6)) [.int (nI j)] [] dL_law_372 (lc_answersTo _ hl E q b1 b2 (sm_SW E p n (sm_G G) (sm_N C) (sm_M M) ++ (Y ++ [lw_a E 0 a6 n (upd (ar_f (lf_w C) j) j (C j 0)), lw_a E 2 a7 n (upd (ar_f (lf_b C) j) j 0), lw_a E 2 a8 n (upd (ar_f (lf_d C) j) j 0), lw_a E 0 a9 n (upd (ar_f (lf_s C) j) j (-1))])) C G M C2 G2 M2 n hn hg j hlt) gL_law_X2_answersTo rfl kd_X2_answersTo ⟨Nat.le_of_ble_eq_true rfl, Nat.le_of_ble_eq_true rfl⟩ 0 rfl rfl (Nat.le_of_ble_eq_true rfl) ⟨rfl, rfl⟩ ⟨(by show _ ≤ 600130; omega), (by show _ ≤ 7301079; omega)⟩ rfl (fun _ _ => ?_)
                        refine jk_if_ge_T (tgt := 380) K dL_law_375 rfl (by rw [e10]; exact Int32.not_lt.mp (nI_pos (by omega))) ?_
                        refine jk_iconst (x := 0) K dL_law_380 rfl ?_
                        refine jk_istore (lv' := [(14, .int 0), (13, .int (nI k7)), (11, .int ((hb_wood C j) + (C j 0))), (10, .int ((sm_bu (sm_N C) j) + 0)), (12, .int (nI j)), (9, .ref a9), (8, .ref a8), (7, .ref a7), (6, .ref a6), (5, .int (nI n)), (3, .int (nI t)), (2, .ref (p 0)), (1, .ref q), (0, .ref E.1.2.1)]) K dL_law_381 (by decide) rfl ?_
                        refine jk_ws (ws' := (hb_v1 E q b1 b2 (sm_SW E p n (sm_G G) (sm_N C) (sm_M M) ++ (Y ++ [lw_a E 0 a6 n (ar_f (lf_w C) (j + 1)), lw_a E 2 a7 n (ar_f (lf_b C) (j + 1)), lw_a E 2 a8 n (ar_f (lf_d C) (j + 1)), lw_a E 0 a9 n (ar_f (lf_s C) (j + 1))])) C G M C2 G2 M2)) (by rw [ar_f_s (lf_w C), ar_f_s (lf_b C), ar_f_s (lf_d C), ar_f_s (lf_s C), show lf_w C j = C j 0 from rfl, (show lf_b C j = 0 from if_neg (by rw [z5]; decide)), (show lf_d C j = 0 from if_neg (by rw [z5]; decide)), (show lf_s C j = (-1) from (if_neg (show ¬ C j 5 = 0 by rw [z5]; decide)).trans zs)]) ?_
                        refine jk_ws (ws' := (sm_S E (hb_cw E q b1 b2 C G M C2 G2 M2) (Y ++ [lw_a E 0 a6 n (ar_f (lf_w C) (j + 1)), lw_a E 2 a7 n (ar_f (lf_b C) (j + 1)), lw_a E 2 a8 n (ar_f (lf_d C) (j + 1)), lw_a E 0 a9 n (ar_f (lf_s C) (j + 1))]) p n (sm_G G) (sm_N C) (sm_M M))) lw_sw ?_
                        refine jk_wide (n' := (cn + 171 * j + 11 + 16 * 0)) (k' := (ck + 1026 * j + 66 + 96 * 0)) (by omega) (by omega) ?_
                        refine jk_sub (lv' := [(14, .int 0), (12, .int (nI j)), (11, .int ((hb_wood C j) + (C j 0))), (10, .int ((sm_bu (sm_N C) j) + 0)), (9, .ref a9), (8, .ref a8), (7, .ref a7), (6, .ref a6), (5, .int (nI n)), (3, .int (nI t)), (2, .ref (p 0)), (1, .ref q), (0, .ref E.1.2.1)]) [0, 4, 2, 3, 5, 6, 7, 8, 9, 10, 11, 12, 13] rfl ?_
                        refine jk_lv (lv' := [(14, .int (nI 0)), (12, .int (nI j)), (11, .int (hb_wood C (j + 1))), (10, .int (sm_bu (sm_N C) (j + 1))), (9, .ref a9), (8, .ref a8), (7, .ref a7), (6, .ref a6), (5, .int (nI n)), (3, .int (nI t)), (2, .ref (p 0)), (1, .ref q), (0, .ref E.1.2.1)]) (by rw [sm_bu_s, hb_wood_s, (show (if sm_N C j 6 = 2 then (1 : Int32) else 0) = 0 from if_neg (show ¬ C j 5 = 2 by rw [z5]; decide))]; rfl) ?_
                        exact kk
                  · exact absurd (by decide) c_292
          · exact absurd (by decide) c_234
        · exact absurd (by decide) c_200
      · exact absurd (by decide) c_178
    · refine jk_aload K dL_law_136 6 rfl ?_
      refine jk_iload K dL_law_138 0 rfl ?_
      refine jk_aload_n K dL_law_140 rfl 10 rfl ?_
      refine jk_iload K dL_law_141 0 rfl ?_
      refine jk_ws (ws' := (hb_v1 E q b1 b2 (sm_SW E p n (sm_G G) (sm_N C) (sm_M M) ++ (Y ++ [lw_a E 0 a6 n (ar_f (lf_w C) j), lw_a E 2 a7 n (ar_f (lf_b C) j), lw_a E 2 a8 n (ar_f (lf_d C) j), lw_a E 0 a9 n (ar_f (lf_s C) j)])) C G M C2 G2 M2)) lw_sw.symm ?_
      refine jk_cVi K (n' := ((cn + 171 * j) + 1)) (k' := ((ck + 1026 * j) + 6)) [.int (nI j)] [.int (nI j), .ref a6] dL_law_143 (lc_woodOf _ hl E q b1 b2 (sm_SW E p n (sm_G G) (sm_N C) (sm_M M) ++ (Y ++ [lw_a E 0 a6 n (ar_f (lf_w C) j), lw_a E 2 a7 n (ar_f (lf_b C) j), lw_a E 2 a8 n (ar_f (lf_d C) j), lw_a E 0 a9 n (ar_f (lf_s C) j)])) C G M C2 G2 M2 n hn hg j hlt) gL_law_X2_woodOf rfl kd_X2_woodOf ⟨Nat.le_of_ble_eq_true rfl, Nat.le_of_ble_eq_true rfl⟩ 0 rfl rfl (Nat.le_of_ble_eq_true rfl) ⟨rfl, rfl⟩ ⟨(by show _ ≤ 600130; omega), (by show _ ≤ 7301079; omega)⟩ rfl (fun _ _ => ?_)
      refine jk_ws (ws' := (sm_S E (hb_cw E q b1 b2 C G M C2 G2 M2) (Y ++ [lw_a E 0 a6 n (ar_f (lf_w C) j), lw_a E 2 a7 n (ar_f (lf_b C) j), lw_a E 2 a8 n (ar_f (lf_d C) j), lw_a E 0 a9 n (ar_f (lf_s C) j)]) p n (sm_G G) (sm_N C) (sm_M M))) lw_sw ?_
      refine jk_iast (w' := (sm_S E (hb_cw E q b1 b2 C G M C2 G2 M2) (Y ++ [lw_a E 0 a6 n (upd (ar_f (lf_w C) j) j (C j 0)), lw_a E 2 a7 n (ar_f (lf_b C) j), lw_a E 2 a8 n (ar_f (lf_d C) j), lw_a E 0 a9 n (ar_f (lf_s C) j)]) p n (sm_G G) (sm_N C) (sm_M M))) K dL_law_146 ((hb_cw E q b1 b2 C G M C2 G2 M2).length + (13 + n + (Y.length + 0))) (sm_yat rfl) (vp_in_nI hlt (by omega)) (by rw [nI_clamp (by omega)]; exact sm_yst rfl) ?_
      refine jk_aload K dL_law_147 5 rfl ?_
      refine jk_iload K dL_law_149 0 rfl ?_
      refine jk_aload_n K dL_law_151 rfl 10 rfl ?_
      refine jk_iload K dL_law_152 0 rfl ?_
      refine jk_ws (ws' := (hb_v1 E q b1 b2 (sm_SW E p n (sm_G G) (sm_N C) (sm_M M) ++ (Y ++ [lw_a E 0 a6 n (upd (ar_f (lf_w C) j) j (C j 0)), lw_a E 2 a7 n (ar_f (lf_b C) j), lw_a E 2 a8 n (ar_f (lf_d C) j), lw_a E 0 a9 n (ar_f (lf_s C) j)])) C G M C2 G2 M2)) lw_sw.symm ?_
      refine jk_cVi K (n' := (((cn + 171 * j) + 1) + 1)) (k' := (((ck + 1026 * j) + 6) + 6)) [.int (nI j)] [.int (nI j), .ref a7] dL_law_154 (lc_isBurning _ hl E q b1 b2 (sm_SW E p n (sm_G G) (sm_N C) (sm_M M) ++ (Y ++ [lw_a E 0 a6 n (upd (ar_f (lf_w C) j) j (C j 0)), lw_a E 2 a7 n (ar_f (lf_b C) j), lw_a E 2 a8 n (ar_f (lf_d C) j), lw_a E 0 a9 n (ar_f (lf_s C) j)])) C G M C2 G2 M2 n hn hg j hlt) gL_law_X2_isBurning rfl kd_X2_isBurning ⟨Nat.le_of_ble_eq_true rfl, Nat.le_of_ble_eq_true rfl⟩ 0 rfl rfl (Nat.le_of_ble_eq_true rfl) ⟨rfl, rfl⟩ ⟨(by show _ ≤ 600130; omega), (by show _ ≤ 7301079; omega)⟩ rfl (fun _ _ => ?_)
      refine jk_st (st' := [.int 0, .int (nI j), .ref a7]) (by rw [if_neg (by rw [z5]; decide)]) ?_
      refine jk_ws (ws' := (sm_S E (hb_cw E q b1 b2 C G M C2 G2 M2) (Y ++ [lw_a E 0 a6 n (upd (ar_f (lf_w C) j) j (C j 0)), lw_a E 2 a7 n (ar_f (lf_b C) j), lw_a E 2 a8 n (ar_f (lf_d C) j), lw_a E 0 a9 n (ar_f (lf_s C) j)]) p n (sm_G G) (sm_N C) (sm_M M))) lw_sw ?_
      refine jk_zast (w' := (sm_S E (hb_cw E q b1 b2 C G M C2 G2 M2) (Y ++ [lw_a E 0 a6 n (upd (ar_f (lf_w C) j) j (C j 0)), lw_a E 2 a7 n (upd (ar_f (lf_b C) j) j 0), lw_a E 2 a8 n (ar_f (lf_d C) j), lw_a E 0 a9 n (ar_f (lf_s C) j)]) p n (sm_G G) (sm_N C) (sm_M M))) K dL_law_157 ((hb_cw E q b1 b2 C G M C2 G2 M2).length + (13 + n + (Y.length + 1))) (sm_yat rfl) (vp_in_nI hlt (by omega)) (by rw [nI_clamp (by omega)]; exact sm_yst rfl) ?_
      refine jk_aload K dL_law_158 4 rfl ?_
      refine jk_iload K dL_law_160 0 rfl ?_
      refine jk_aload_n K dL_law_162 rfl 10 rfl ?_
      refine jk_iload K dL_law_163 0 rfl ?_
      refine jk_ws (ws' := (hb_v1 E q b1 b2 (sm_SW E p n (sm_G G) (sm_N C) (sm_M M) ++ (Y ++ [lw_a E 0 a6 n (upd (ar_f (lf_w C) j) j (C j 0)), lw_a E 2 a7 n (upd (ar_f (lf_b C) j) j 0), lw_a E 2 a8 n (ar_f (lf_d C) j), lw_a E 0 a9 n (ar_f (lf_s C) j)])) C G M C2 G2 M2)) lw_sw.symm ?_
      refine jk_cVi K (n' := ((((cn + 171 * j) + 1) + 1) + 1)) (k' := ((((ck + 1026 * j) + 6) + 6) + 6)) [.int (nI j)] [.int (nI j), .ref a8] dL_law_165 (lc_isDark _ hl E q b1 b2 (sm_SW E p n (sm_G G) (sm_N C) (sm_M M) ++ (Y ++ [lw_a E 0 a6 n (upd (ar_f (lf_w C) j) j (C j 0)), lw_a E 2 a7 n (upd (ar_f (lf_b C) j) j 0), lw_a E 2 a8 n (ar_f (lf_d C) j), lw_a E 0 a9 n (ar_f (lf_s C) j)])) C G M C2 G2 M2 n hn hg j hlt) gL_law_X2_isDark rfl kd_X2_isDark ⟨Nat.le_of_ble_eq_true rfl, Nat.le_of_ble_eq_true rfl⟩ 0 rfl rfl (Nat.le_of_ble_eq_true rfl) ⟨rfl, rfl⟩ ⟨(by show _ ≤ 600130; omega), (by show _ ≤ 7301079; omega)⟩ rfl (fun _ _ => ?_)
      refine jk_st (st' := [.int 0, .int (nI j), .ref a8]) (by rw [if_neg (by rw [z5]; decide)]) ?_
      refine jk_ws (ws' := (sm_S E (hb_cw E q b1 b2 C G M C2 G2 M2) (Y ++ [lw_a E 0 a6 n (upd (ar_f (lf_w C) j) j (C j 0)), lw_a E 2 a7 n (upd (ar_f (lf_b C) j) j 0), lw_a E 2 a8 n (ar_f (lf_d C) j), lw_a E 0 a9 n (ar_f (lf_s C) j)]) p n (sm_G G) (sm_N C) (sm_M M))) lw_sw ?_
      refine jk_zast (w' := (sm_S E (hb_cw E q b1 b2 C G M C2 G2 M2) (Y ++ [lw_a E 0 a6 n (upd (ar_f (lf_w C) j) j (C j 0)), lw_a E 2 a7 n (upd (ar_f (lf_b C) j) j 0), lw_a E 2 a8 n (upd (ar_f (lf_d C) j) j 0), lw_a E 0 a9 n (ar_f (lf_s C) j)]) p n (sm_G G) (sm_N C) (sm_M M))) K dL_law_168 ((hb_cw E q b1 b2 C G M C2 G2 M2).length + (13 + n + (Y.length + 2))) (sm_yat rfl) (vp_in_nI hlt (by omega)) (by rw [nI_clamp (by omega)]; exact sm_yst rfl) ?_
      refine jk_aload K dL_law_169 3 rfl ?_
      refine jk_iload K dL_law_171 0 rfl ?_
      refine jk_aload K dL_law_173 4 rfl ?_
      refine jk_iload K dL_law_175 0 rfl ?_
      refine jk_zald (v := 0) K dL_law_177 ((hb_cw E q b1 b2 C G M C2 G2 M2).length + (13 + n + (Y.length + 2))) (sm_yat rfl) (vp_in_nI hlt (by omega)) (by rw [nI_clamp (by omega), pk_us]) ?_
      refine jk_if_eq (tgt := 186) K dL_law_178 rfl (fun c_178 => ?_) (fun c_178 => ?_)
      · refine jk_aload_n K dL_law_186 rfl 10 rfl ?_
        refine jk_iload K dL_law_187 0 rfl ?_
        refine jk_ws (ws' := (hb_v1 E q b1 b2 (sm_SW E p n (sm_G G) (sm_N C) (sm_M M) ++ (Y ++ [lw_a E 0 a6 n (upd (ar_f (lf_w C) j) j (C j 0)), lw_a E 2 a7 n (upd (ar_f (lf_b C) j) j 0), lw_a E 2 a8 n (upd (ar_f (lf_d C) j) j 0), lw_a E 0 a9 n (ar_f (lf_s C) j)])) C G M C2 G2 M2)) lw_sw.symm ?_
        refine jk_cVi K (n' := (((((cn + 171 * j) + 1) + 1) + 1) + 2)) (k' := (((((ck + 1026 * j) + 6) + 6) + 6) + 12)) [.int (nI j)] [.int (nI j), .ref a9] dL_law_189 (lc_sourceOf _ hl E q b1 b2 (sm_SW E p n (sm_G G) (sm_N C) (sm_M M) ++ (Y ++ [lw_a E 0 a6 n (upd (ar_f (lf_w C) j) j (C j 0)), lw_a E 2 a7 n (upd (ar_f (lf_b C) j) j 0), lw_a E 2 a8 n (upd (ar_f (lf_d C) j) j 0), lw_a E 0 a9 n (ar_f (lf_s C) j)])) C G M C2 G2 M2 n hn hg j hlt (by rw [z5]; decide)) gL_law_X2_sourceOf rfl kd_X2_sourceOf ⟨Nat.le_of_ble_eq_true rfl, Nat.le_of_ble_eq_true rfl⟩ 0 rfl rfl (Nat.le_of_ble_eq_true rfl) ⟨rfl, rfl⟩ ⟨(by show _ ≤ 600130; omega), (by show _ ≤ 7301079; omega)⟩ rfl (fun _ _ => ?_)
        refine jk_st (st' := [.int (nI s), .int (nI j), .ref a9]) (by rw [zs]) ?_
        refine jk_ws (ws' := (sm_S E (hb_cw E q b1 b2 C G M C2 G2 M2) (Y ++ [lw_a E 0 a6 n (upd (ar_f (lf_w C) j) j (C j 0)), lw_a E 2 a7 n (upd (ar_f (lf_b C) j) j 0), lw_a E 2 a8 n (upd (ar_f (lf_d C) j) j 0), lw_a E 0 a9 n (ar_f (lf_s C) j)]) p n (sm_G G) (sm_N C) (sm_M M))) lw_sw ?_
        refine jk_iast (w' := (sm_S E (hb_cw E q b1 b2 C G M C2 G2 M2) (Y ++ [lw_a E 0 a6 n (upd (ar_f (lf_w C) j) j (C j 0)), lw_a E 2 a7 n (upd (ar_f (lf_b C) j) j 0), lw_a E 2 a8 n (upd (ar_f (lf_d C) j) j 0), lw_a E 0 a9 n (upd (ar_f (lf_s C) j) j (nI s))]) p n (sm_G G) (sm_N C) (sm_M M))) K dL_law_192 ((hb_cw E q b1 b2 C G M C2 G2 M2).length + (13 + n + (Y.length + 3))) (sm_yat rfl) (vp_in_nI hlt (by omega)) (by rw [nI_clamp (by omega)]; exact sm_yst rfl) ?_
        refine jk_iload K dL_law_193 2 rfl ?_
        refine jk_aload K dL_law_195 5 rfl ?_
        refine jk_iload K dL_law_197 0 rfl ?_
        refine jk_zald (v := 0) K dL_law_199 ((hb_cw E q b1 b2 C G M C2 G2 M2).length + (13 + n + (Y.length + 1))) (sm_yat rfl) (vp_in_nI hlt (by omega)) (by rw [nI_clamp (by omega), pk_us]) ?_
        refine jk_if_eq (tgt := 207) K dL_law_200 rfl (fun c_200 => ?_) (fun c_200 => ?_)
        · refine jk_iconst (x := 0) K dL_law_207 rfl ?_
          refine jk_iadd K dL_law_208 ?_
          refine jk_istore (lv' := [(10, .int ((sm_bu (sm_N C) j) + 0)), (12, .int (nI j)), (11, .int (hb_wood C j)), (9, .ref a9), (8, .ref a8), (7, .ref a7), (6, .ref a6), (5, .int (nI n)), (3, .int (nI t)), (2, .ref (p 0)), (1, .ref q), (0, .ref E.1.2.1)]) K dL_law_209 (by decide) rfl ?_
          refine jk_iload K dL_law_211 2 rfl ?_
          refine jk_aload K dL_law_213 6 rfl ?_
          refine jk_iload K dL_law_215 1 rfl ?_
          refine jk_iald (v := (C j 0)) K dL_law_217 ((hb_cw E q b1 b2 C G M C2 G2 M2).length + (13 + n + (Y.length + 0))) (sm_yat rfl) (vp_in_nI hlt (by omega)) (by rw [nI_clamp (by omega), pk_us]) ?_
          refine jk_iadd K dL_law_218 ?_
          refine jk_istore (lv' := [(11, .int ((hb_wood C j) + (C j 0))), (10, .int ((sm_bu (sm_N C) j) + 0)), (12, .int (nI j)), (9, .ref a9), (8, .ref a8), (7, .ref a7), (6, .ref a6), (5, .int (nI n)), (3, .int (nI t)), (2, .ref (p 0)), (1, .ref q), (0, .ref E.1.2.1)]) K dL_law_219 (by decide) rfl ?_
          refine jk_aload_n K dL_law_221 rfl 10 rfl ?_
          refine jk_iload K dL_law_222 2 rfl ?_
          refine jk_ws (ws' := (hb_v1 E q b1 b2 (sm_SW E p n (sm_G G) (sm_N C) (sm_M M) ++ (Y ++ [lw_a E 0 a6 n (upd (ar_f (lf_w C) j) j (C j 0)), lw_a E 2 a7 n (upd (ar_f (lf_b C) j) j 0), lw_a E 2 a8 n (upd (ar_f (lf_d C) j) j 0), lw_a E 0 a9 n (upd (ar_f (lf_s C) j) j (nI s))])) C G M C2 G2 M2)) lw_sw.symm ?_
          refine jk_cVi K (n' := ((((((cn + 171 * j) + 1) + 1) + 1) + 2) + 1)) (k' := ((((((ck + 1026 * j) + 6) + 6) + 6) + 12) + 6)) [.int (nI j)] [] dL_law_224 (lc_minutesToBurn _ hl E q b1 b2 (sm_SW E p n (sm_G G) (sm_N C) (sm_M M) ++ (Y ++ [lw_a E 0 a6 n (upd (ar_f (lf_w C) j) j (C j 0)), lw_a E 2 a7 n (upd (ar_f (lf_b C) j) j 0), lw_a E 2 a8 n (upd (ar_f (lf_d C) j) j 0), lw_a E 0 a9 n (upd (ar_f (lf_s C) j) j (nI s))])) C G M C2 G2 M2 n hn hg j hlt) gL_law_X2_minutesToBurn rfl kd_X2_minutesToBurn ⟨Nat.le_of_ble_eq_true rfl, Nat.le_of_ble_eq_true rfl⟩ 0 rfl rfl (Nat.le_of_ble_eq_true rfl) ⟨rfl, rfl⟩ ⟨(by show _ ≤ 600130; omega), (by show _ ≤ 7301079; omega)⟩ rfl (fun _ _ => ?_)
          refine jk_st (st' := [.int (nI k7)]) (by rw [e7]) ?_
          refine jk_istore (lv' := [(13, .int (nI k7)), (11, .int ((hb_wood C j) + (C j 0))), (10, .int ((sm_bu (sm_N C) j) + 0)), (12, .int (nI j)), (9, .ref a9), (8, .ref a8), (7, .ref a7), (6, .ref a6), (5, .int (nI n)), (3, .int (nI t)), (2, .ref (p 0)), (1, .ref q), (0, .ref E.1.2.1)]) K dL_law_227 (by decide) rfl ?_
          refine jk_aload K dL_law_229 6 rfl ?_
          refine jk_iload K dL_law_231 3 rfl ?_
          refine jk_ws (ws' := (sm_S E (hb_cw E q b1 b2 C G M C2 G2 M2) (Y ++ [lw_a E 0 a6 n (upd (ar_f (lf_w C) j) j (C j 0)), lw_a E 2 a7 n (upd (ar_f (lf_b C) j) j 0), lw_a E 2 a8 n (upd (ar_f (lf_d C) j) j 0), lw_a E 0 a9 n (upd (ar_f (lf_s C) j) j (nI s))]) p n (sm_G G) (sm_N C) (sm_M M))) lw_sw ?_
          refine jk_zald (v := 0) K dL_law_233 ((hb_cw E q b1 b2 C G M C2 G2 M2).length + (13 + n + (Y.length + 1))) (sm_yat rfl) (vp_in_nI hlt (by omega)) (by rw [nI_clamp (by omega), pk_us]) ?_
          refine jk_if_eq (tgt := 245) K dL_law_234 rfl (fun c_234 => ?_) (fun c_234 => ?_)
          · refine jk_iload K dL_law_245 0 rfl ?_
            refine jk_if_le_F (tgt := 254) K dL_law_247 rfl (fun z => by have z9 := (nI_leI (a := k7) (b := 0) (by omega) (by omega)).mp z; omega) ?_
            refine jk_iconst (x := 1) K dL_law_250 rfl ?_
            refine jk_goto (tgt := 255) K dL_law_251 rfl ?_
            refine jk_aload K dL_law_255 6 rfl ?_
            refine jk_iload K dL_law_257 3 rfl ?_
            refine jk_zald (v := 0) K dL_law_259 ((hb_cw E q b1 b2 C G M C2 G2 M2).length + (13 + n + (Y.length + 1))) (sm_yat rfl) (vp_in_nI hlt (by omega)) (by rw [nI_clamp (by omega), pk_us]) ?_
            refine jk_if_ne (tgt := 275) K dL_law_260 rfl (fun c_260 => ?_) (fun c_260 => ?_)
            · exact absurd (by decide) c_260
            · refine jk_aload K dL_law_263 5 rfl ?_
              refine jk_iload K dL_law_265 3 rfl ?_
              refine jk_zald (v := 0) K dL_law_267 ((hb_cw E q b1 b2 C G M C2 G2 M2).length + (13 + n + (Y.length + 2))) (sm_yat rfl) (vp_in_nI hlt (by omega)) (by rw [nI_clamp (by omega), pk_us]) ?_
              refine jk_if_ne (tgt := 275) K dL_law_268 rfl (fun c_268 => ?_) (fun c_268 => ?_)
              · exact absurd (by decide) c_268
              · refine jk_iconst (x := 1) K dL_law_271 rfl ?_
                refine jk_goto (tgt := 276) K dL_law_272 rfl ?_
                refine jk_icmp_ne (tgt := 378) K dL_law_276 rfl (fun c_276 => ?_) (fun c_276 => ?_)
                · exact absurd (by decide) c_276
                · refine jk_iload K dL_law_279 0 rfl ?_
                  refine jk_bipush (x := (nI 10)) K dL_law_281 rfl ?_
                  refine jk_icmp_gt_F (tgt := 378) K dL_law_283 rfl (Int32.not_lt.mpr (nI_le h710 (by decide))) ?_
                  refine jk_aload_n K dL_law_286 rfl 11 rfl ?_
                  refine jk_iload K dL_law_287 3 rfl ?_
                  refine jk_ws (ws' := (hb_v1 E q b1 b2 (sm_SW E p n (sm_G G) (sm_N C) (sm_M M) ++ (Y ++ [lw_a E 0 a6 n (upd (ar_f (lf_w C) j) j (C j 0)), lw_a E 2 a7 n (upd (ar_f (lf_b C) j) j 0), lw_a E 2 a8 n (upd (ar_f (lf_d C) j) j 0), lw_a E 0 a9 n (upd (ar_f (lf_s C) j) j (nI s))])) C G M C2 G2 M2)) lw_sw.symm ?_
                  refine jk_cVi K (n' := (((((((cn + 171 * j) + 1) + 1) + 1) + 2) + 1) + 1)) (k' := (((((((ck + 1026 * j) + 6) + 6) + 6) + 12) + 6) + 6)) [.int (nI j)] [] dL_law_289 (lc_lookingFor _ hl E q b1 b2 (sm_SW E p n (sm_G G) (sm_N C) (sm_M M) ++ (Y ++ [lw_a E 0 a6 n (upd (ar_f (lf_w C) j) j (C j 0)), lw_a E 2 a7 n (upd (ar_f (lf_b C) j) j 0), lw_a E 2 a8 n (upd (ar_f (lf_d C) j) j 0), lw_a E 0 a9 n (upd (ar_f (lf_s C) j) j (nI s))])) C G M C2 G2 M2 n hn hg j hlt) gL_law_X2_lookingFor rfl kd_X2_lookingFor ⟨Nat.le_of_ble_eq_true rfl, Nat.le_of_ble_eq_true rfl⟩ 0 rfl rfl (Nat.le_of_ble_eq_true rfl) ⟨rfl, rfl⟩ ⟨(by show _ ≤ 600130; omega), (by show _ ≤ 7301079; omega)⟩ rfl (fun _ _ => ?_)
                  refine jk_st (st' := [.int 0]) (by rw [z8]) ?_
                  refine jk_if_le (tgt := 303) K dL_law_292 rfl (fun c_292 => ?_) (fun c_292 => ?_)
                  · refine jk_aload_n K dL_law_303 rfl 11 rfl ?_
                    refine jk_iload K dL_law_304 3 rfl ?_
                    refine jk_cVi K (n' := ((((((((cn + 171 * j) + 1) + 1) + 1) + 2) + 1) + 1) + 1)) (k' := ((((((((ck + 1026 * j) + 6) + 6) + 6) + 12) + 6) + 6) + 6)) [.int (nI j)] [] dL_law_306 (lc_lookingFor _ hl E q b1 b2 (sm_SW E p n (sm_G G) (sm_N C) (sm_M M) ++ (Y ++ [lw_a E 0 a6 n (upd (ar_f (lf_w C) j) j (C j 0)), lw_a E 2 a7 n (upd (ar_f (lf_b C) j) j 0), lw_a E 2 a8 n (upd (ar_f (lf_d C) j) j 0), lw_a E 0 a9 n (upd (ar_f (lf_s C) j) j (nI s))])) C G M C2 G2 M2 n hn hg j hlt) gL_law_X2_lookingFor rfl kd_X2_lookingFor ⟨Nat.le_of_ble_eq_true rfl, Nat.le_of_ble_eq_true rfl⟩ 0 rfl rfl (Nat.le_of_ble_eq_true rfl) ⟨rfl, rfl⟩ ⟨(by show _ ≤ 600130; omega), (by show _ ≤ 7301079; omega)⟩ rfl (fun _ _ => ?_)
                    refine jk_aload_n K dL_law_309 rfl 11 rfl ?_
                    refine jk_iload K dL_law_310 3 rfl ?_
                    refine jk_cVi K (n' := (((((((((cn + 171 * j) + 1) + 1) + 1) + 2) + 1) + 1) + 1) + 1)) (k' := (((((((((ck + 1026 * j) + 6) + 6) + 6) + 12) + 6) + 6) + 6) + 6)) [.int (nI j)] [.int (C j 8)] dL_law_312 (lc_watchOf _ hl E q b1 b2 (sm_SW E p n (sm_G G) (sm_N C) (sm_M M) ++ (Y ++ [lw_a E 0 a6 n (upd (ar_f (lf_w C) j) j (C j 0)), lw_a E 2 a7 n (upd (ar_f (lf_b C) j) j 0), lw_a E 2 a8 n (upd (ar_f (lf_d C) j) j 0), lw_a E 0 a9 n (upd (ar_f (lf_s C) j) j (nI s))])) C G M C2 G2 M2 n hn hg j hlt) gL_law_X2_watchOf rfl kd_X2_watchOf ⟨Nat.le_of_ble_eq_true rfl, Nat.le_of_ble_eq_true rfl⟩ 0 rfl rfl (Nat.le_of_ble_eq_true rfl) ⟨rfl, rfl⟩ ⟨(by show _ ≤ 600130; omega), (by show _ ≤ 7301079; omega)⟩ rfl (fun _ _ => ?_)
                    refine jk_icmp_ge_F (tgt := 378) K dL_law_315 rfl hlw ?_
                    refine jk_aload K dL_law_318 7 rfl ?_
                    refine jk_iload K dL_law_320 3 rfl ?_
                    refine jk_ws (ws' := (sm_S E (hb_cw E q b1 b2 C G M C2 G2 M2) (Y ++ [lw_a E 0 a6 n (upd (ar_f (lf_w C) j) j (C j 0)), lw_a E 2 a7 n (upd (ar_f (lf_b C) j) j 0), lw_a E 2 a8 n (upd (ar_f (lf_d C) j) j 0), lw_a E 0 a9 n (upd (ar_f (lf_s C) j) j (nI s))]) p n (sm_G G) (sm_N C) (sm_M M))) lw_sw ?_
                    refine jk_iald (v := (C j 0)) K dL_law_322 ((hb_cw E q b1 b2 C G M C2 G2 M2).length + (13 + n + (Y.length + 0))) (sm_yat rfl) (vp_in_nI hlt (by omega)) (by rw [nI_clamp (by omega), pk_us]) ?_
                    refine jk_if_lt_F (tgt := 378) K dL_law_323 rfl (by rw [e0]; exact nI_pos (by omega)) ?_
                    refine jk_aload K dL_law_326 7 rfl ?_
                    refine jk_iload K dL_law_328 3 rfl ?_
                    refine jk_iald (v := (C j 0)) K dL_law_330 ((hb_cw E q b1 b2 C G M C2 G2 M2).length + (13 + n + (Y.length + 0))) (sm_yat rfl) (vp_in_nI hlt (by omega)) (by rw [nI_clamp (by omega), pk_us]) ?_
                    refine jk_bipush (x := (nI 30)) K dL_law_331 rfl ?_
                    refine jk_icmp_gt_F (tgt := 378) K dL_law_333 rfl (by rw [e0]; exact Int32.not_lt.mpr (nI_le hk0 (by decide))) ?_
                    refine jk_aload K dL_law_336 4 rfl ?_
                    refine jk_iload K dL_law_338 3 rfl ?_
                    refine jk_iald (v := (nI s)) K dL_law_340 ((hb_cw E q b1 b2 C G M C2 G2 M2).length + (13 + n + (Y.length + 3))) (sm_yat rfl) (vp_in_nI hlt (by omega)) (by rw [nI_clamp (by omega), pk_us]) ?_
                    refine jk_iload K dL_law_341 8 rfl ?_
                    refine jk_icmp_ge_F (tgt := 378) K dL_law_343 rfl (Int32.not_le.mpr (nI_lt hs (by omega))) ?_
                    refine jk_aload_n K dL_law_346 rfl 11 rfl ?_
                    refine jk_iload K dL_law_347 3 rfl ?_
                    refine jk_ws (ws' := (hb_v1 E q b1 b2 (sm_SW E p n (sm_G G) (sm_N C) (sm_M M) ++ (Y ++ [lw_a E 0 a6 n (upd (ar_f (lf_w C) j) j (C j 0)), lw_a E 2 a7 n (upd (ar_f (lf_b C) j) j 0), lw_a E 2 a8 n (upd (ar_f (lf_d C) j) j 0), lw_a E 0 a9 n (upd (ar_f (lf_s C) j) j (nI s))])) C G M C2 G2 M2)) lw_sw.symm ?_
                    refine jk_cVi K (n' := ((((((((((cn + 171 * j) + 1) + 1) + 1) + 2) + 1) + 1) + 1) + 1) + 1)) (k' := ((((((((((ck + 1026 * j) + 6) + 6) + 6) + 12) + 6) + 6) + 6) + 6) + 6)) [.int (nI j)] [] dL_law_349 (lc_isMistaken _ hl E q b1 b2 (sm_SW E p n (sm_G G) (sm_N C) (sm_M M) ++ (Y ++ [lw_a E 0 a6 n (upd (ar_f (lf_w C) j) j (C j 0)), lw_a E 2 a7 n (upd (ar_f (lf_b C) j) j 0), lw_a E 2 a8 n (upd (ar_f (lf_d C) j) j 0), lw_a E 0 a9 n (upd (ar_f (lf_s C) j) j (nI s))])) C G M C2 G2 M2 n hn hg j hlt) gL_law_X2_isMistaken rfl kd_X2_isMistaken ⟨Nat.le_of_ble_eq_true rfl, Nat.le_of_ble_eq_true rfl⟩ 0 rfl rfl (Nat.le_of_ble_eq_true rfl) ⟨rfl, rfl⟩ ⟨(by show _ ≤ 600130; omega), (by show _ ≤ 7301079; omega)⟩ rfl (fun _ _ => ?_)
                    refine jk_st (st' := [.int 0]) (by rw [if_neg (by rw [zs]; exact hm_neg (by omega))]) ?_
                    refine jk_aload K dL_law_352 4 rfl ?_
                    refine jk_iload K dL_law_354 3 rfl ?_
                    refine jk_ws (ws' := (sm_S E (hb_cw E q b1 b2 C G M C2 G2 M2) (Y ++ [lw_a E 0 a6 n (upd (ar_f (lf_w C) j) j (C j 0)), lw_a E 2 a7 n (upd (ar_f (lf_b C) j) j 0), lw_a E 2 a8 n (upd (ar_f (lf_d C) j) j 0), lw_a E 0 a9 n (upd (ar_f (lf_s C) j) j (nI s))]) p n (sm_G G) (sm_N C) (sm_M M))) lw_sw ?_
                    refine jk_iald (v := (nI s)) K dL_law_356 ((hb_cw E q b1 b2 C G M C2 G2 M2).length + (13 + n + (Y.length + 3))) (sm_yat rfl) (vp_in_nI hlt (by omega)) (by rw [nI_clamp (by omega), pk_us]) ?_
                    refine jk_iconst (x := (-1)) K dL_law_357 rfl ?_
                    refine jk_icmp_ne_T (tgt := 365) K dL_law_358 rfl (hm_neg (by omega)) ?_
                    refine jk_iconst (x := 0) K dL_law_365 rfl ?_
                    refine jk_icmp_ne (tgt := 378) K dL_law_366 rfl (fun c_366 => ?_) (fun c_366 => ?_)
                    · exact absurd (by decide) c_366
                    · refine jk_aload_n K dL_law_369 rfl 11 rfl ?_
                      refine jk_iload K dL_law_370 3 rfl ?_
                      refine jk_ws (ws' := (hb_v1 E q b1 b2 (sm_SW E p n (sm_G G) (sm_N C) (sm_M M) ++ (Y ++ [lw_a E 0 a6 n (upd (ar_f (lf_w C) j) j (C j 0)), lw_a E 2 a7 n (upd (ar_f (lf_b C) j) j 0), lw_a E 2 a8 n (upd (ar_f (lf_d C) j) j 0), lw_a E 0 a9 n (upd (ar_f (lf_s C) j) j (nI s))])) C G M C2 G2 M2)) lw_sw.symm ?_
                      refine jk_cVi K (n' := (((((((((((cn + 171 * j) + 1) + 1) + 1) + 2) + 1) + 1) + 1) + 1) + 1) + 1)) (k' := (((((((((((ck + 1026 * j) + 6) + 6) + 6) + 12) + 6) + 6) + 6) + 6) + 6) + 6)) [.int (nI j)] [] dL_law_372 (lc_answersTo _ hl E q b1 b2 (sm_SW E p n (sm_G G) (sm_N C) (sm_M M) ++ (Y ++ [lw_a E 0 a6 n (upd (ar_f (lf_w C) j) j (C j 0)), lw_a E 2 a7 n (upd (ar_f (lf_b C) j) j 0), lw_a E 2 a8 n (upd (ar_f (lf_d C) j) j 0), lw_a E 0 a9 n (upd (ar_f (lf_s C) j) j (nI s))])) C G M C2 G2 M2 n hn hg j hlt) gL_law_X2_answersTo rfl kd_X2_answersTo ⟨Nat.le_of_ble_eq_true rfl, Nat.le_of_ble_eq_true rfl⟩ 0 rfl rfl (Nat.le_of_ble_eq_true rfl) ⟨rfl, rfl⟩ ⟨(by show _ ≤ 600130; omega), (by show _ ≤ 7301079; omega)⟩ rfl (fun _ _ => ?_)
                      refine jk_if_ge_T (tgt := 380) K dL_law_375 rfl (by rw [e10]; exact Int32.not_lt.mp (nI_pos (by omega))) ?_
                      refine jk_iconst (x := 0) K dL_law_380 rfl ?_
                      refine jk_istore (lv' := [(14, .int 0), (13, .int (nI k7)), (11, .int ((hb_wood C j) + (C j 0))), (10, .int ((sm_bu (sm_N C) j) + 0)), (12, .int (nI j)), (9, .ref a9), (8, .ref a8), (7, .ref a7), (6, .ref a6), (5, .int (nI n)), (3, .int (nI t)), (2, .ref (p 0)), (1, .ref q), (0, .ref E.1.2.1)]) K dL_law_381 (by decide) rfl ?_
                      refine jk_ws (ws' := (hb_v1 E q b1 b2 (sm_SW E p n (sm_G G) (sm_N C) (sm_M M) ++ (Y ++ [lw_a E 0 a6 n (ar_f (lf_w C) (j + 1)), lw_a E 2 a7 n (ar_f (lf_b C) (j + 1)), lw_a E 2 a8 n (ar_f (lf_d C) (j + 1)), lw_a E 0 a9 n (ar_f (lf_s C) (j + 1))])) C G M C2 G2 M2)) (by rw [ar_f_s (lf_w C), ar_f_s (lf_b C), ar_f_s (lf_d C), ar_f_s (lf_s C), show lf_w C j = C j 0 from rfl, (show lf_b C j = 0 from if_neg (by rw [z5]; decide)), (show lf_d C j = 0 from if_neg (by rw [z5]; decide)), (show lf_s C j = (nI s) from (if_neg (show ¬ C j 5 = 0 by rw [z5]; decide)).trans zs)]) ?_
                      refine jk_ws (ws' := (sm_S E (hb_cw E q b1 b2 C G M C2 G2 M2) (Y ++ [lw_a E 0 a6 n (ar_f (lf_w C) (j + 1)), lw_a E 2 a7 n (ar_f (lf_b C) (j + 1)), lw_a E 2 a8 n (ar_f (lf_d C) (j + 1)), lw_a E 0 a9 n (ar_f (lf_s C) (j + 1))]) p n (sm_G G) (sm_N C) (sm_M M))) lw_sw ?_
                      refine jk_wide (n' := (cn + 171 * j + 11 + 16 * 0)) (k' := (ck + 1026 * j + 66 + 96 * 0)) (by omega) (by omega) ?_
                      refine jk_sub (lv' := [(14, .int 0), (12, .int (nI j)), (11, .int ((hb_wood C j) + (C j 0))), (10, .int ((sm_bu (sm_N C) j) + 0)), (9, .ref a9), (8, .ref a8), (7, .ref a7), (6, .ref a6), (5, .int (nI n)), (3, .int (nI t)), (2, .ref (p 0)), (1, .ref q), (0, .ref E.1.2.1)]) [0, 4, 2, 3, 5, 6, 7, 8, 9, 10, 11, 12, 13] rfl ?_
                      refine jk_lv (lv' := [(14, .int (nI 0)), (12, .int (nI j)), (11, .int (hb_wood C (j + 1))), (10, .int (sm_bu (sm_N C) (j + 1))), (9, .ref a9), (8, .ref a8), (7, .ref a7), (6, .ref a6), (5, .int (nI n)), (3, .int (nI t)), (2, .ref (p 0)), (1, .ref q), (0, .ref E.1.2.1)]) (by rw [sm_bu_s, hb_wood_s, (show (if sm_N C j 6 = 2 then (1 : Int32) else 0) = 0 from if_neg (show ¬ C j 5 = 2 by rw [z5]; decide))]; rfl) ?_
                      exact kk
                  · exact absurd (by decide) c_292
          · exact absurd (by decide) c_234
        · exact absurd (by decide) c_200
      · exact absurd (by decide) c_178
  · have hlw : ¬ C j 2 ≤ C j 8 := by rw [z8, e2]; exact fun z => by have z9 := (nI_leI (a := m0) (b := 0) (by omega) (by omega)).mp z; omega
    rcases zs with zs | ⟨s, hs, zs⟩
    · refine jk_aload K dL_law_136 6 rfl ?_
      refine jk_iload K dL_law_138 0 rfl ?_
      refine jk_aload_n K dL_law_140 rfl 10 rfl ?_
      refine jk_iload K dL_law_141 0 rfl ?_
      refine jk_ws (ws' := (hb_v1 E q b1 b2 (sm_SW E p n (sm_G G) (sm_N C) (sm_M M) ++ (Y ++ [lw_a E 0 a6 n (ar_f (lf_w C) j), lw_a E 2 a7 n (ar_f (lf_b C) j), lw_a E 2 a8 n (ar_f (lf_d C) j), lw_a E 0 a9 n (ar_f (lf_s C) j)])) C G M C2 G2 M2)) lw_sw.symm ?_
      refine jk_cVi K (n' := ((cn + 171 * j) + 1)) (k' := ((ck + 1026 * j) + 6)) [.int (nI j)] [.int (nI j), .ref a6] dL_law_143 (lc_woodOf _ hl E q b1 b2 (sm_SW E p n (sm_G G) (sm_N C) (sm_M M) ++ (Y ++ [lw_a E 0 a6 n (ar_f (lf_w C) j), lw_a E 2 a7 n (ar_f (lf_b C) j), lw_a E 2 a8 n (ar_f (lf_d C) j), lw_a E 0 a9 n (ar_f (lf_s C) j)])) C G M C2 G2 M2 n hn hg j hlt) gL_law_X2_woodOf rfl kd_X2_woodOf ⟨Nat.le_of_ble_eq_true rfl, Nat.le_of_ble_eq_true rfl⟩ 0 rfl rfl (Nat.le_of_ble_eq_true rfl) ⟨rfl, rfl⟩ ⟨(by show _ ≤ 600130; omega), (by show _ ≤ 7301079; omega)⟩ rfl (fun _ _ => ?_)
      refine jk_ws (ws' := (sm_S E (hb_cw E q b1 b2 C G M C2 G2 M2) (Y ++ [lw_a E 0 a6 n (ar_f (lf_w C) j), lw_a E 2 a7 n (ar_f (lf_b C) j), lw_a E 2 a8 n (ar_f (lf_d C) j), lw_a E 0 a9 n (ar_f (lf_s C) j)]) p n (sm_G G) (sm_N C) (sm_M M))) lw_sw ?_
      refine jk_iast (w' := (sm_S E (hb_cw E q b1 b2 C G M C2 G2 M2) (Y ++ [lw_a E 0 a6 n (upd (ar_f (lf_w C) j) j (C j 0)), lw_a E 2 a7 n (ar_f (lf_b C) j), lw_a E 2 a8 n (ar_f (lf_d C) j), lw_a E 0 a9 n (ar_f (lf_s C) j)]) p n (sm_G G) (sm_N C) (sm_M M))) K dL_law_146 ((hb_cw E q b1 b2 C G M C2 G2 M2).length + (13 + n + (Y.length + 0))) (sm_yat rfl) (vp_in_nI hlt (by omega)) (by rw [nI_clamp (by omega)]; exact sm_yst rfl) ?_
      refine jk_aload K dL_law_147 5 rfl ?_
      refine jk_iload K dL_law_149 0 rfl ?_
      refine jk_aload_n K dL_law_151 rfl 10 rfl ?_
      refine jk_iload K dL_law_152 0 rfl ?_
      refine jk_ws (ws' := (hb_v1 E q b1 b2 (sm_SW E p n (sm_G G) (sm_N C) (sm_M M) ++ (Y ++ [lw_a E 0 a6 n (upd (ar_f (lf_w C) j) j (C j 0)), lw_a E 2 a7 n (ar_f (lf_b C) j), lw_a E 2 a8 n (ar_f (lf_d C) j), lw_a E 0 a9 n (ar_f (lf_s C) j)])) C G M C2 G2 M2)) lw_sw.symm ?_
      refine jk_cVi K (n' := (((cn + 171 * j) + 1) + 1)) (k' := (((ck + 1026 * j) + 6) + 6)) [.int (nI j)] [.int (nI j), .ref a7] dL_law_154 (lc_isBurning _ hl E q b1 b2 (sm_SW E p n (sm_G G) (sm_N C) (sm_M M) ++ (Y ++ [lw_a E 0 a6 n (upd (ar_f (lf_w C) j) j (C j 0)), lw_a E 2 a7 n (ar_f (lf_b C) j), lw_a E 2 a8 n (ar_f (lf_d C) j), lw_a E 0 a9 n (ar_f (lf_s C) j)])) C G M C2 G2 M2 n hn hg j hlt) gL_law_X2_isBurning rfl kd_X2_isBurning ⟨Nat.le_of_ble_eq_true rfl, Nat.le_of_ble_eq_true rfl⟩ 0 rfl rfl (Nat.le_of_ble_eq_true rfl) ⟨rfl, rfl⟩ ⟨(by show _ ≤ 600130; omega), (by show _ ≤ 7301079; omega)⟩ rfl (fun _ _ => ?_)
      refine jk_st (st' := [.int 1, .int (nI j), .ref a7]) (by rw [if_pos z5]) ?_
      refine jk_ws (ws' := (sm_S E (hb_cw E q b1 b2 C G M C2 G2 M2) (Y ++ [lw_a E 0 a6 n (upd (ar_f (lf_w C) j) j (C j 0)), lw_a E 2 a7 n (ar_f (lf_b C) j), lw_a E 2 a8 n (ar_f (lf_d C) j), lw_a E 0 a9 n (ar_f (lf_s C) j)]) p n (sm_G G) (sm_N C) (sm_M M))) lw_sw ?_
      refine jk_zast (w' := (sm_S E (hb_cw E q b1 b2 C G M C2 G2 M2) (Y ++ [lw_a E 0 a6 n (upd (ar_f (lf_w C) j) j (C j 0)), lw_a E 2 a7 n (upd (ar_f (lf_b C) j) j 1), lw_a E 2 a8 n (ar_f (lf_d C) j), lw_a E 0 a9 n (ar_f (lf_s C) j)]) p n (sm_G G) (sm_N C) (sm_M M))) K dL_law_157 ((hb_cw E q b1 b2 C G M C2 G2 M2).length + (13 + n + (Y.length + 1))) (sm_yat rfl) (vp_in_nI hlt (by omega)) (by rw [nI_clamp (by omega)]; exact sm_yst rfl) ?_
      refine jk_aload K dL_law_158 4 rfl ?_
      refine jk_iload K dL_law_160 0 rfl ?_
      refine jk_aload_n K dL_law_162 rfl 10 rfl ?_
      refine jk_iload K dL_law_163 0 rfl ?_
      refine jk_ws (ws' := (hb_v1 E q b1 b2 (sm_SW E p n (sm_G G) (sm_N C) (sm_M M) ++ (Y ++ [lw_a E 0 a6 n (upd (ar_f (lf_w C) j) j (C j 0)), lw_a E 2 a7 n (upd (ar_f (lf_b C) j) j 1), lw_a E 2 a8 n (ar_f (lf_d C) j), lw_a E 0 a9 n (ar_f (lf_s C) j)])) C G M C2 G2 M2)) lw_sw.symm ?_
      refine jk_cVi K (n' := ((((cn + 171 * j) + 1) + 1) + 1)) (k' := ((((ck + 1026 * j) + 6) + 6) + 6)) [.int (nI j)] [.int (nI j), .ref a8] dL_law_165 (lc_isDark _ hl E q b1 b2 (sm_SW E p n (sm_G G) (sm_N C) (sm_M M) ++ (Y ++ [lw_a E 0 a6 n (upd (ar_f (lf_w C) j) j (C j 0)), lw_a E 2 a7 n (upd (ar_f (lf_b C) j) j 1), lw_a E 2 a8 n (ar_f (lf_d C) j), lw_a E 0 a9 n (ar_f (lf_s C) j)])) C G M C2 G2 M2 n hn hg j hlt) gL_law_X2_isDark rfl kd_X2_isDark ⟨Nat.le_of_ble_eq_true rfl, Nat.le_of_ble_eq_true rfl⟩ 0 rfl rfl (Nat.le_of_ble_eq_true rfl) ⟨rfl, rfl⟩ ⟨(by show _ ≤ 600130; omega), (by show _ ≤ 7301079; omega)⟩ rfl (fun _ _ => ?_)
      refine jk_st (st' := [.int 0, .int (nI j), .ref a8]) (by rw [if_neg (by rw [z5]; decide)]) ?_
      refine jk_ws (ws' := (sm_S E (hb_cw E q b1 b2 C G M C2 G2 M2) (Y ++ [lw_a E 0 a6 n (upd (ar_f (lf_w C) j) j (C j 0)), lw_a E 2 a7 n (upd (ar_f (lf_b C) j) j 1), lw_a E 2 a8 n (ar_f (lf_d C) j), lw_a E 0 a9 n (ar_f (lf_s C) j)]) p n (sm_G G) (sm_N C) (sm_M M))) lw_sw ?_
      refine jk_zast (w' := (sm_S E (hb_cw E q b1 b2 C G M C2 G2 M2) (Y ++ [lw_a E 0 a6 n (upd (ar_f (lf_w C) j) j (C j 0)), lw_a E 2 a7 n (upd (ar_f (lf_b C) j) j 1), lw_a E 2 a8 n (upd (ar_f (lf_d C) j) j 0), lw_a E 0 a9 n (ar_f (lf_s C) j)]) p n (sm_G G) (sm_N C) (sm_M M))) K dL_law_168 ((hb_cw E q b1 b2 C G M C2 G2 M2).length + (13 + n + (Y.length + 2))) (sm_yat rfl) (vp_in_nI hlt (by omega)) (by rw [nI_clamp (by omega)]; exact sm_yst rfl) ?_
      refine jk_aload K dL_law_169 3 rfl ?_
      refine jk_iload K dL_law_171 0 rfl ?_
      refine jk_aload K dL_law_173 4 rfl ?_
      refine jk_iload K dL_law_175 0 rfl ?_
      refine jk_zald (v := 0) K dL_law_177 ((hb_cw E q b1 b2 C G M C2 G2 M2).length + (13 + n + (Y.length + 2))) (sm_yat rfl) (vp_in_nI hlt (by omega)) (by rw [nI_clamp (by omega), pk_us]) ?_
      refine jk_if_eq (tgt := 186) K dL_law_178 rfl (fun c_178 => ?_) (fun c_178 => ?_)
      · refine jk_aload_n K dL_law_186 rfl 10 rfl ?_
        refine jk_iload K dL_law_187 0 rfl ?_
        refine jk_ws (ws' := (hb_v1 E q b1 b2 (sm_SW E p n (sm_G G) (sm_N C) (sm_M M) ++ (Y ++ [lw_a E 0 a6 n (upd (ar_f (lf_w C) j) j (C j 0)), lw_a E 2 a7 n (upd (ar_f (lf_b C) j) j 1), lw_a E 2 a8 n (upd (ar_f (lf_d C) j) j 0), lw_a E 0 a9 n (ar_f (lf_s C) j)])) C G M C2 G2 M2)) lw_sw.symm ?_
        refine jk_cVi K (n' := (((((cn + 171 * j) + 1) + 1) + 1) + 2)) (k' := (((((ck + 1026 * j) + 6) + 6) + 6) + 12)) [.int (nI j)] [.int (nI j), .ref a9] dL_law_189 (lc_sourceOf _ hl E q b1 b2 (sm_SW E p n (sm_G G) (sm_N C) (sm_M M) ++ (Y ++ [lw_a E 0 a6 n (upd (ar_f (lf_w C) j) j (C j 0)), lw_a E 2 a7 n (upd (ar_f (lf_b C) j) j 1), lw_a E 2 a8 n (upd (ar_f (lf_d C) j) j 0), lw_a E 0 a9 n (ar_f (lf_s C) j)])) C G M C2 G2 M2 n hn hg j hlt (by rw [z5]; decide)) gL_law_X2_sourceOf rfl kd_X2_sourceOf ⟨Nat.le_of_ble_eq_true rfl, Nat.le_of_ble_eq_true rfl⟩ 0 rfl rfl (Nat.le_of_ble_eq_true rfl) ⟨rfl, rfl⟩ ⟨(by show _ ≤ 600130; omega), (by show _ ≤ 7301079; omega)⟩ rfl (fun _ _ => ?_)
        refine jk_st (st' := [.int (-1), .int (nI j), .ref a9]) (by rw [zs]) ?_
        refine jk_ws (ws' := (sm_S E (hb_cw E q b1 b2 C G M C2 G2 M2) (Y ++ [lw_a E 0 a6 n (upd (ar_f (lf_w C) j) j (C j 0)), lw_a E 2 a7 n (upd (ar_f (lf_b C) j) j 1), lw_a E 2 a8 n (upd (ar_f (lf_d C) j) j 0), lw_a E 0 a9 n (ar_f (lf_s C) j)]) p n (sm_G G) (sm_N C) (sm_M M))) lw_sw ?_
        refine jk_iast (w' := (sm_S E (hb_cw E q b1 b2 C G M C2 G2 M2) (Y ++ [lw_a E 0 a6 n (upd (ar_f (lf_w C) j) j (C j 0)), lw_a E 2 a7 n (upd (ar_f (lf_b C) j) j 1), lw_a E 2 a8 n (upd (ar_f (lf_d C) j) j 0), lw_a E 0 a9 n (upd (ar_f (lf_s C) j) j (-1))]) p n (sm_G G) (sm_N C) (sm_M M))) K dL_law_192 ((hb_cw E q b1 b2 C G M C2 G2 M2).length + (13 + n + (Y.length + 3))) (sm_yat rfl) (vp_in_nI hlt (by omega)) (by rw [nI_clamp (by omega)]; exact sm_yst rfl) ?_
        refine jk_iload K dL_law_193 2 rfl ?_
        refine jk_aload K dL_law_195 5 rfl ?_
        refine jk_iload K dL_law_197 0 rfl ?_
        refine jk_zald (v := 1) K dL_law_199 ((hb_cw E q b1 b2 C G M C2 G2 M2).length + (13 + n + (Y.length + 1))) (sm_yat rfl) (vp_in_nI hlt (by omega)) (by rw [nI_clamp (by omega), pk_us]) ?_
        refine jk_if_eq (tgt := 207) K dL_law_200 rfl (fun c_200 => ?_) (fun c_200 => ?_)
        · exact absurd c_200 (by decide)
        · refine jk_iconst (x := 1) K dL_law_203 rfl ?_
          refine jk_goto (tgt := 208) K dL_law_204 rfl ?_
          refine jk_iadd K dL_law_208 ?_
          refine jk_istore (lv' := [(10, .int ((sm_bu (sm_N C) j) + 1)), (12, .int (nI j)), (11, .int (hb_wood C j)), (9, .ref a9), (8, .ref a8), (7, .ref a7), (6, .ref a6), (5, .int (nI n)), (3, .int (nI t)), (2, .ref (p 0)), (1, .ref q), (0, .ref E.1.2.1)]) K dL_law_209 (by decide) rfl ?_
          refine jk_iload K dL_law_211 2 rfl ?_
          refine jk_aload K dL_law_213 6 rfl ?_
          refine jk_iload K dL_law_215 1 rfl ?_
          refine jk_iald (v := (C j 0)) K dL_law_217 ((hb_cw E q b1 b2 C G M C2 G2 M2).length + (13 + n + (Y.length + 0))) (sm_yat rfl) (vp_in_nI hlt (by omega)) (by rw [nI_clamp (by omega), pk_us]) ?_
          refine jk_iadd K dL_law_218 ?_
          refine jk_istore (lv' := [(11, .int ((hb_wood C j) + (C j 0))), (10, .int ((sm_bu (sm_N C) j) + 1)), (12, .int (nI j)), (9, .ref a9), (8, .ref a8), (7, .ref a7), (6, .ref a6), (5, .int (nI n)), (3, .int (nI t)), (2, .ref (p 0)), (1, .ref q), (0, .ref E.1.2.1)]) K dL_law_219 (by decide) rfl ?_
          refine jk_aload_n K dL_law_221 rfl 10 rfl ?_
          refine jk_iload K dL_law_222 2 rfl ?_
          refine jk_ws (ws' := (hb_v1 E q b1 b2 (sm_SW E p n (sm_G G) (sm_N C) (sm_M M) ++ (Y ++ [lw_a E 0 a6 n (upd (ar_f (lf_w C) j) j (C j 0)), lw_a E 2 a7 n (upd (ar_f (lf_b C) j) j 1), lw_a E 2 a8 n (upd (ar_f (lf_d C) j) j 0), lw_a E 0 a9 n (upd (ar_f (lf_s C) j) j (-1))])) C G M C2 G2 M2)) lw_sw.symm ?_
          refine jk_cVi K (n' := ((((((cn + 171 * j) + 1) + 1) + 1) + 2) + 1)) (k' := ((((((ck + 1026 * j) + 6) + 6) + 6) + 12) + 6)) [.int (nI j)] [] dL_law_224 (lc_minutesToBurn _ hl E q b1 b2 (sm_SW E p n (sm_G G) (sm_N C) (sm_M M) ++ (Y ++ [lw_a E 0 a6 n (upd (ar_f (lf_w C) j) j (C j 0)), lw_a E 2 a7 n (upd (ar_f (lf_b C) j) j 1), lw_a E 2 a8 n (upd (ar_f (lf_d C) j) j 0), lw_a E 0 a9 n (upd (ar_f (lf_s C) j) j (-1))])) C G M C2 G2 M2 n hn hg j hlt) gL_law_X2_minutesToBurn rfl kd_X2_minutesToBurn ⟨Nat.le_of_ble_eq_true rfl, Nat.le_of_ble_eq_true rfl⟩ 0 rfl rfl (Nat.le_of_ble_eq_true rfl) ⟨rfl, rfl⟩ ⟨(by show _ ≤ 600130; omega), (by show _ ≤ 7301079; omega)⟩ rfl (fun _ _ => ?_)
          refine jk_st (st' := [.int 0]) (by rw [z7]) ?_
          refine jk_istore (lv' := [(13, .int 0), (11, .int ((hb_wood C j) + (C j 0))), (10, .int ((sm_bu (sm_N C) j) + 1)), (12, .int (nI j)), (9, .ref a9), (8, .ref a8), (7, .ref a7), (6, .ref a6), (5, .int (nI n)), (3, .int (nI t)), (2, .ref (p 0)), (1, .ref q), (0, .ref E.1.2.1)]) K dL_law_227 (by decide) rfl ?_
          refine jk_aload K dL_law_229 6 rfl ?_
          refine jk_iload K dL_law_231 3 rfl ?_
          refine jk_ws (ws' := (sm_S E (hb_cw E q b1 b2 C G M C2 G2 M2) (Y ++ [lw_a E 0 a6 n (upd (ar_f (lf_w C) j) j (C j 0)), lw_a E 2 a7 n (upd (ar_f (lf_b C) j) j 1), lw_a E 2 a8 n (upd (ar_f (lf_d C) j) j 0), lw_a E 0 a9 n (upd (ar_f (lf_s C) j) j (-1))]) p n (sm_G G) (sm_N C) (sm_M M))) lw_sw ?_
          refine jk_zald (v := 1) K dL_law_233 ((hb_cw E q b1 b2 C G M C2 G2 M2).length + (13 + n + (Y.length + 1))) (sm_yat rfl) (vp_in_nI hlt (by omega)) (by rw [nI_clamp (by omega), pk_us]) ?_
          refine jk_if_eq (tgt := 245) K dL_law_234 rfl (fun c_234 => ?_) (fun c_234 => ?_)
          · exact absurd c_234 (by decide)
          · refine jk_aload K dL_law_237 5 rfl ?_
            refine jk_iload K dL_law_239 3 rfl ?_
            refine jk_zald (v := 0) K dL_law_241 ((hb_cw E q b1 b2 C G M C2 G2 M2).length + (13 + n + (Y.length + 2))) (sm_yat rfl) (vp_in_nI hlt (by omega)) (by rw [nI_clamp (by omega), pk_us]) ?_
            refine jk_if_ne (tgt := 378) K dL_law_242 rfl (fun c_242 => ?_) (fun c_242 => ?_)
            · exact absurd (by decide) c_242
            · refine jk_iload K dL_law_245 0 rfl ?_
              refine jk_if_le (tgt := 254) K dL_law_247 rfl (fun c_247 => ?_) (fun c_247 => ?_)
              · refine jk_iconst (x := 0) K dL_law_254 rfl ?_
                refine jk_aload K dL_law_255 6 rfl ?_
                refine jk_iload K dL_law_257 3 rfl ?_
                refine jk_zald (v := 1) K dL_law_259 ((hb_cw E q b1 b2 C G M C2 G2 M2).length + (13 + n + (Y.length + 1))) (sm_yat rfl) (vp_in_nI hlt (by omega)) (by rw [nI_clamp (by omega), pk_us]) ?_
                refine jk_if_ne (tgt := 275) K dL_law_260 rfl (fun c_260 => ?_) (fun c_260 => ?_)
                · refine jk_iconst (x := 0) K dL_law_275 rfl ?_
                  refine jk_icmp_ne (tgt := 378) K dL_law_276 rfl (fun c_276 => ?_) (fun c_276 => ?_)
                  · exact absurd (by decide) c_276
                  · refine jk_iload K dL_law_279 0 rfl ?_
                    refine jk_bipush (x := 10) K dL_law_281 rfl ?_
                    refine jk_icmp_gt (tgt := 378) K dL_law_283 rfl (fun c_283 => ?_) (fun c_283 => ?_)
                    · exact absurd c_283 (by decide)
                    · refine jk_aload_n K dL_law_286 rfl 11 rfl ?_
                      refine jk_iload K dL_law_287 3 rfl ?_
                      refine jk_ws (ws' := (hb_v1 E q b1 b2 (sm_SW E p n (sm_G G) (sm_N C) (sm_M M) ++ (Y ++ [lw_a E 0 a6 n (upd (ar_f (lf_w C) j) j (C j 0)), lw_a E 2 a7 n (upd (ar_f (lf_b C) j) j 1), lw_a E 2 a8 n (upd (ar_f (lf_d C) j) j 0), lw_a E 0 a9 n (upd (ar_f (lf_s C) j) j (-1))])) C G M C2 G2 M2)) lw_sw.symm ?_
                      refine jk_cVi K (n' := (((((((cn + 171 * j) + 1) + 1) + 1) + 2) + 1) + 1)) (k' := (((((((ck + 1026 * j) + 6) + 6) + 6) + 12) + 6) + 6)) [.int (nI j)] [] dL_law_289 (lc_lookingFor _ hl E q b1 b2 (sm_SW E p n (sm_G G) (sm_N C) (sm_M M) ++ (Y ++ [lw_a E 0 a6 n (upd (ar_f (lf_w C) j) j (C j 0)), lw_a E 2 a7 n (upd (ar_f (lf_b C) j) j 1), lw_a E 2 a8 n (upd (ar_f (lf_d C) j) j 0), lw_a E 0 a9 n (upd (ar_f (lf_s C) j) j (-1))])) C G M C2 G2 M2 n hn hg j hlt) gL_law_X2_lookingFor rfl kd_X2_lookingFor ⟨Nat.le_of_ble_eq_true rfl, Nat.le_of_ble_eq_true rfl⟩ 0 rfl rfl (Nat.le_of_ble_eq_true rfl) ⟨rfl, rfl⟩ ⟨(by show _ ≤ 600130; omega), (by show _ ≤ 7301079; omega)⟩ rfl (fun _ _ => ?_)
                      refine jk_st (st' := [.int 0]) (by rw [z8]) ?_
                      refine jk_if_le (tgt := 303) K dL_law_292 rfl (fun c_292 => ?_) (fun c_292 => ?_)
                      · refine jk_aload_n K dL_law_303 rfl 11 rfl ?_
                        refine jk_iload K dL_law_304 3 rfl ?_
                        refine jk_cVi K (n' := ((((((((cn + 171 * j) + 1) + 1) + 1) + 2) + 1) + 1) + 1)) (k' := ((((((((ck + 1026 * j) + 6) + 6) + 6) + 12) + 6) + 6) + 6)) [.int (nI j)] [] dL_law_306 (lc_lookingFor _ hl E q b1 b2 (sm_SW E p n (sm_G G) (sm_N C) (sm_M M) ++ (Y ++ [lw_a E 0 a6 n (upd (ar_f (lf_w C) j) j (C j 0)), lw_a E 2 a7 n (upd (ar_f (lf_b C) j) j 1), lw_a E 2 a8 n (upd (ar_f (lf_d C) j) j 0), lw_a E 0 a9 n (upd (ar_f (lf_s C) j) j (-1))])) C G M C2 G2 M2 n hn hg j hlt) gL_law_X2_lookingFor rfl kd_X2_lookingFor ⟨Nat.le_of_ble_eq_true rfl, Nat.le_of_ble_eq_true rfl⟩ 0 rfl rfl (Nat.le_of_ble_eq_true rfl) ⟨rfl, rfl⟩ ⟨(by show _ ≤ 600130; omega), (by show _ ≤ 7301079; omega)⟩ rfl (fun _ _ => ?_)
                        refine jk_aload_n K dL_law_309 rfl 11 rfl ?_
                        refine jk_iload K dL_law_310 3 rfl ?_
                        refine jk_cVi K (n' := (((((((((cn + 171 * j) + 1) + 1) + 1) + 2) + 1) + 1) + 1) + 1)) (k' := (((((((((ck + 1026 * j) + 6) + 6) + 6) + 12) + 6) + 6) + 6) + 6)) [.int (nI j)] [.int (C j 8)] dL_law_312 (lc_watchOf _ hl E q b1 b2 (sm_SW E p n (sm_G G) (sm_N C) (sm_M M) ++ (Y ++ [lw_a E 0 a6 n (upd (ar_f (lf_w C) j) j (C j 0)), lw_a E 2 a7 n (upd (ar_f (lf_b C) j) j 1), lw_a E 2 a8 n (upd (ar_f (lf_d C) j) j 0), lw_a E 0 a9 n (upd (ar_f (lf_s C) j) j (-1))])) C G M C2 G2 M2 n hn hg j hlt) gL_law_X2_watchOf rfl kd_X2_watchOf ⟨Nat.le_of_ble_eq_true rfl, Nat.le_of_ble_eq_true rfl⟩ 0 rfl rfl (Nat.le_of_ble_eq_true rfl) ⟨rfl, rfl⟩ ⟨(by show _ ≤ 600130; omega), (by show _ ≤ 7301079; omega)⟩ rfl (fun _ _ => ?_)
                        refine jk_icmp_ge_F (tgt := 378) K dL_law_315 rfl hlw ?_
                        refine jk_aload K dL_law_318 7 rfl ?_
                        refine jk_iload K dL_law_320 3 rfl ?_
                        refine jk_ws (ws' := (sm_S E (hb_cw E q b1 b2 C G M C2 G2 M2) (Y ++ [lw_a E 0 a6 n (upd (ar_f (lf_w C) j) j (C j 0)), lw_a E 2 a7 n (upd (ar_f (lf_b C) j) j 1), lw_a E 2 a8 n (upd (ar_f (lf_d C) j) j 0), lw_a E 0 a9 n (upd (ar_f (lf_s C) j) j (-1))]) p n (sm_G G) (sm_N C) (sm_M M))) lw_sw ?_
                        refine jk_iald (v := (C j 0)) K dL_law_322 ((hb_cw E q b1 b2 C G M C2 G2 M2).length + (13 + n + (Y.length + 0))) (sm_yat rfl) (vp_in_nI hlt (by omega)) (by rw [nI_clamp (by omega), pk_us]) ?_
                        refine jk_if_lt_F (tgt := 378) K dL_law_323 rfl (by rw [e0]; exact nI_pos (by omega)) ?_
                        refine jk_aload K dL_law_326 7 rfl ?_
                        refine jk_iload K dL_law_328 3 rfl ?_
                        refine jk_iald (v := (C j 0)) K dL_law_330 ((hb_cw E q b1 b2 C G M C2 G2 M2).length + (13 + n + (Y.length + 0))) (sm_yat rfl) (vp_in_nI hlt (by omega)) (by rw [nI_clamp (by omega), pk_us]) ?_
                        refine jk_bipush (x := (nI 30)) K dL_law_331 rfl ?_
                        refine jk_icmp_gt_F (tgt := 378) K dL_law_333 rfl (by rw [e0]; exact Int32.not_lt.mpr (nI_le hk0 (by decide))) ?_
                        refine jk_aload K dL_law_336 4 rfl ?_
                        refine jk_iload K dL_law_338 3 rfl ?_
                        refine jk_iald (v := (-1)) K dL_law_340 ((hb_cw E q b1 b2 C G M C2 G2 M2).length + (13 + n + (Y.length + 3))) (sm_yat rfl) (vp_in_nI hlt (by omega)) (by rw [nI_clamp (by omega), pk_us]) ?_
                        refine jk_iload K dL_law_341 8 rfl ?_
                        refine jk_icmp_ge_F (tgt := 378) K dL_law_343 rfl (fun z => absurd (Int32.le_trans (Int32.not_lt.mp (nI_pos (by omega))) z) (by decide)) ?_
                        refine jk_aload_n K dL_law_346 rfl 11 rfl ?_
                        refine jk_iload K dL_law_347 3 rfl ?_
                        refine jk_ws (ws' := (hb_v1 E q b1 b2 (sm_SW E p n (sm_G G) (sm_N C) (sm_M M) ++ (Y ++ [lw_a E 0 a6 n (upd (ar_f (lf_w C) j) j (C j 0)), lw_a E 2 a7 n (upd (ar_f (lf_b C) j) j 1), lw_a E 2 a8 n (upd (ar_f (lf_d C) j) j 0), lw_a E 0 a9 n (upd (ar_f (lf_s C) j) j (-1))])) C G M C2 G2 M2)) lw_sw.symm ?_
                        refine jk_cVi K (n' := ((((((((((cn + 171 * j) + 1) + 1) + 1) + 2) + 1) + 1) + 1) + 1) + 1)) (k' := ((((((((((ck + 1026 * j) + 6) + 6) + 6) + 12) + 6) + 6) + 6) + 6) + 6)) [.int (nI j)] [] dL_law_349 (lc_isMistaken _ hl E q b1 b2 (sm_SW E p n (sm_G G) (sm_N C) (sm_M M) ++ (Y ++ [lw_a E 0 a6 n (upd (ar_f (lf_w C) j) j (C j 0)), lw_a E 2 a7 n (upd (ar_f (lf_b C) j) j 1), lw_a E 2 a8 n (upd (ar_f (lf_d C) j) j 0), lw_a E 0 a9 n (upd (ar_f (lf_s C) j) j (-1))])) C G M C2 G2 M2 n hn hg j hlt) gL_law_X2_isMistaken rfl kd_X2_isMistaken ⟨Nat.le_of_ble_eq_true rfl, Nat.le_of_ble_eq_true rfl⟩ 0 rfl rfl (Nat.le_of_ble_eq_true rfl) ⟨rfl, rfl⟩ ⟨(by show _ ≤ 600130; omega), (by show _ ≤ 7301079; omega)⟩ rfl (fun _ _ => ?_)
                        refine jk_st (st' := [.int 1]) (by rw [if_pos zs]) ?_
                        refine jk_aload K dL_law_352 4 rfl ?_
                        refine jk_iload K dL_law_354 3 rfl ?_
                        refine jk_ws (ws' := (sm_S E (hb_cw E q b1 b2 C G M C2 G2 M2) (Y ++ [lw_a E 0 a6 n (upd (ar_f (lf_w C) j) j (C j 0)), lw_a E 2 a7 n (upd (ar_f (lf_b C) j) j 1), lw_a E 2 a8 n (upd (ar_f (lf_d C) j) j 0), lw_a E 0 a9 n (upd (ar_f (lf_s C) j) j (-1))]) p n (sm_G G) (sm_N C) (sm_M M))) lw_sw ?_
                        refine jk_iald (v := (-1)) K dL_law_356 ((hb_cw E q b1 b2 C G M C2 G2 M2).length + (13 + n + (Y.length + 3))) (sm_yat rfl) (vp_in_nI hlt (by omega)) (by rw [nI_clamp (by omega), pk_us]) ?_
                        refine jk_iconst (x := (-1)) K dL_law_357 rfl ?_
                        refine jk_icmp_ne (tgt := 365) K dL_law_358 rfl (fun c_358 => ?_) (fun c_358 => ?_)
                        · exact absurd (by decide) c_358
                        · refine jk_iconst (x := 1) K dL_law_361 rfl ?_
                          refine jk_goto (tgt := 366) K dL_law_362 rfl ?_
                          refine jk_icmp_ne (tgt := 378) K dL_law_366 rfl (fun c_366 => ?_) (fun c_366 => ?_)
                          · exact absurd (by decide) c_366
                          · refine jk_aload_n K dL_law_369 rfl 11 rfl ?_
                            refine jk_iload K dL_law_370 3 rfl ?_
                            refine jk_ws (ws' := (hb_v1 E q b1 b2 (sm_SW E p n (sm_G G) (sm_N C) (sm_M M) ++ (Y ++ [lw_a E 0 a6 n (upd (ar_f (lf_w C) j) j (C j 0)), lw_a E 2 a7 n (upd (ar_f (lf_b C) j) j 1), lw_a E 2 a8 n (upd (ar_f (lf_d C) j) j 0), lw_a E 0 a9 n (upd (ar_f (lf_s C) j) j (-1))])) C G M C2 G2 M2)) lw_sw.symm ?_
                            refine jk_cVi K (n' := (((((((((((cn + 171 * j) + 1) + 1) + 1) + 2) + 1) + 1) + 1) + 1) + 1) + 1)) (k' := (((((((((((ck + 1026 * j) + 6) + 6) + 6) + 12) + 6) + 6) + 6) + 6) + 6) + 6)) [.int (nI j)] [] dL_law_372 (lc_answersTo _ hl E q b1 b2 (sm_SW E p n (sm_G G) (sm_N C) (sm_M M) ++ (Y ++ [lw_a E 0 a6 n (upd (ar_f (lf_w C) j) j (C j 0)), lw_a E 2 a7 n (upd (ar_f (lf_b C) j) j 1), lw_a E 2 a8 n (upd (ar_f (lf_d C) j) j 0), lw_a E 0 a9 n (upd (ar_f (lf_s C) j) j (-1))])) C G M C2 G2 M2 n hn hg j hlt) gL_law_X2_answersTo rfl kd_X2_answersTo ⟨Nat.le_of_ble_eq_true rfl, Nat.le_of_ble_eq_true rfl⟩ 0 rfl rfl (Nat.le_of_ble_eq_true rfl) ⟨rfl, rfl⟩ ⟨(by show _ ≤ 600130; omega), (by show _ ≤ 7301079; omega)⟩ rfl (fun _ _ => ?_)
                            refine jk_if_ge_T (tgt := 380) K dL_law_375 rfl (by rw [e10]; exact Int32.not_lt.mp (nI_pos (by omega))) ?_
                            refine jk_iconst (x := 0) K dL_law_380 rfl ?_
                            refine jk_istore (lv' := [(14, .int 0), (13, .int 0), (11, .int ((hb_wood C j) + (C j 0))), (10, .int ((sm_bu (sm_N C) j) + 1)), (12, .int (nI j)), (9, .ref a9), (8, .ref a8), (7, .ref a7), (6, .ref a6), (5, .int (nI n)), (3, .int (nI t)), (2, .ref (p 0)), (1, .ref q), (0, .ref E.1.2.1)]) K dL_law_381 (by decide) rfl ?_
                            refine jk_ws (ws' := (hb_v1 E q b1 b2 (sm_SW E p n (sm_G G) (sm_N C) (sm_M M) ++ (Y ++ [lw_a E 0 a6 n (ar_f (lf_w C) (j + 1)), lw_a E 2 a7 n (ar_f (lf_b C) (j + 1)), lw_a E 2 a8 n (ar_f (lf_d C) (j + 1)), lw_a E 0 a9 n (ar_f (lf_s C) (j + 1))])) C G M C2 G2 M2)) (by rw [ar_f_s (lf_w C), ar_f_s (lf_b C), ar_f_s (lf_d C), ar_f_s (lf_s C), show lf_w C j = C j 0 from rfl, (show lf_b C j = 1 from if_pos z5), (show lf_d C j = 0 from if_neg (by rw [z5]; decide)), (show lf_s C j = (-1) from (if_neg (show ¬ C j 5 = 0 by rw [z5]; decide)).trans zs)]) ?_
                            refine jk_ws (ws' := (sm_S E (hb_cw E q b1 b2 C G M C2 G2 M2) (Y ++ [lw_a E 0 a6 n (ar_f (lf_w C) (j + 1)), lw_a E 2 a7 n (ar_f (lf_b C) (j + 1)), lw_a E 2 a8 n (ar_f (lf_d C) (j + 1)), lw_a E 0 a9 n (ar_f (lf_s C) (j + 1))]) p n (sm_G G) (sm_N C) (sm_M M))) lw_sw ?_
                            refine jk_wide (n' := (cn + 171 * j + 11 + 16 * 0)) (k' := (ck + 1026 * j + 66 + 96 * 0)) (by omega) (by omega) ?_
                            refine jk_sub (lv' := [(14, .int 0), (12, .int (nI j)), (11, .int ((hb_wood C j) + (C j 0))), (10, .int ((sm_bu (sm_N C) j) + 1)), (9, .ref a9), (8, .ref a8), (7, .ref a7), (6, .ref a6), (5, .int (nI n)), (3, .int (nI t)), (2, .ref (p 0)), (1, .ref q), (0, .ref E.1.2.1)]) [0, 4, 2, 3, 5, 6, 7, 8, 9, 10, 11, 12, 13] rfl ?_
                            refine jk_lv (lv' := [(14, .int (nI 0)), (12, .int (nI j)), (11, .int (hb_wood C (j + 1))), (10, .int (sm_bu (sm_N C) (j + 1))), (9, .ref a9), (8, .ref a8), (7, .ref a7), (6, .ref a6), (5, .int (nI n)), (3, .int (nI t)), (2, .ref (p 0)), (1, .ref q), (0, .ref E.1.2.1)]) (by rw [sm_bu_s, hb_wood_s, (show (if sm_N C j 6 = 2 then (1 : Int32) else 0) = 1 from if_pos z5)]; rfl) ?_
                            exact kk
                      · exact absurd (by decide) c_292
                · exact absurd c_260 (by decide)
              · exact absurd (by decide) c_247
      · exact absurd (by decide) c_178
    · refine jk_aload K dL_law_136 6 rfl ?_
      refine jk_iload K dL_law_138 0 rfl ?_
      refine jk_aload_n K dL_law_140 rfl 10 rfl ?_
      refine jk_iload K dL_law_141 0 rfl ?_
      refine jk_ws (ws' := (hb_v1 E q b1 b2 (sm_SW E p n (sm_G G) (sm_N C) (sm_M M) ++ (Y ++ [lw_a E 0 a6 n (ar_f (lf_w C) j), lw_a E 2 a7 n (ar_f (lf_b C) j), lw_a E 2 a8 n (ar_f (lf_d C) j), lw_a E 0 a9 n (ar_f (lf_s C) j)])) C G M C2 G2 M2)) lw_sw.symm ?_
      refine jk_cVi K (n' := ((cn + 171 * j) + 1)) (k' := ((ck + 1026 * j) + 6)) [.int (nI j)] [.int (nI j), .ref a6] dL_law_143 (lc_woodOf _ hl E q b1 b2 (sm_SW E p n (sm_G G) (sm_N C) (sm_M M) ++ (Y ++ [lw_a E 0 a6 n (ar_f (lf_w C) j), lw_a E 2 a7 n (ar_f (lf_b C) j), lw_a E 2 a8 n (ar_f (lf_d C) j), lw_a E 0 a9 n (ar_f (lf_s C) j)])) C G M C2 G2 M2 n hn hg j hlt) gL_law_X2_woodOf rfl kd_X2_woodOf ⟨Nat.le_of_ble_eq_true rfl, Nat.le_of_ble_eq_true rfl⟩ 0 rfl rfl (Nat.le_of_ble_eq_true rfl) ⟨rfl, rfl⟩ ⟨(by show _ ≤ 600130; omega), (by show _ ≤ 7301079; omega)⟩ rfl (fun _ _ => ?_)
      refine jk_ws (ws' := (sm_S E (hb_cw E q b1 b2 C G M C2 G2 M2) (Y ++ [lw_a E 0 a6 n (ar_f (lf_w C) j), lw_a E 2 a7 n (ar_f (lf_b C) j), lw_a E 2 a8 n (ar_f (lf_d C) j), lw_a E 0 a9 n (ar_f (lf_s C) j)]) p n (sm_G G) (sm_N C) (sm_M M))) lw_sw ?_
      refine jk_iast (w' := (sm_S E (hb_cw E q b1 b2 C G M C2 G2 M2) (Y ++ [lw_a E 0 a6 n (upd (ar_f (lf_w C) j) j (C j 0)), lw_a E 2 a7 n (ar_f (lf_b C) j), lw_a E 2 a8 n (ar_f (lf_d C) j), lw_a E 0 a9 n (ar_f (lf_s C) j)]) p n (sm_G G) (sm_N C) (sm_M M))) K dL_law_146 ((hb_cw E q b1 b2 C G M C2 G2 M2).length + (13 + n + (Y.length + 0))) (sm_yat rfl) (vp_in_nI hlt (by omega)) (by rw [nI_clamp (by omega)]; exact sm_yst rfl) ?_
      refine jk_aload K dL_law_147 5 rfl ?_
      refine jk_iload K dL_law_149 0 rfl ?_
      refine jk_aload_n K dL_law_151 rfl 10 rfl ?_
      refine jk_iload K dL_law_152 0 rfl ?_
      refine jk_ws (ws' := (hb_v1 E q b1 b2 (sm_SW E p n (sm_G G) (sm_N C) (sm_M M) ++ (Y ++ [lw_a E 0 a6 n (upd (ar_f (lf_w C) j) j (C j 0)), lw_a E 2 a7 n (ar_f (lf_b C) j), lw_a E 2 a8 n (ar_f (lf_d C) j), lw_a E 0 a9 n (ar_f (lf_s C) j)])) C G M C2 G2 M2)) lw_sw.symm ?_
      refine jk_cVi K (n' := (((cn + 171 * j) + 1) + 1)) (k' := (((ck + 1026 * j) + 6) + 6)) [.int (nI j)] [.int (nI j), .ref a7] dL_law_154 (lc_isBurning _ hl E q b1 b2 (sm_SW E p n (sm_G G) (sm_N C) (sm_M M) ++ (Y ++ [lw_a E 0 a6 n (upd (ar_f (lf_w C) j) j (C j 0)), lw_a E 2 a7 n (ar_f (lf_b C) j), lw_a E 2 a8 n (ar_f (lf_d C) j), lw_a E 0 a9 n (ar_f (lf_s C) j)])) C G M C2 G2 M2 n hn hg j hlt) gL_law_X2_isBurning rfl kd_X2_isBurning ⟨Nat.le_of_ble_eq_true rfl, Nat.le_of_ble_eq_true rfl⟩ 0 rfl rfl (Nat.le_of_ble_eq_true rfl) ⟨rfl, rfl⟩ ⟨(by show _ ≤ 600130; omega), (by show _ ≤ 7301079; omega)⟩ rfl (fun _ _ => ?_)
      refine jk_st (st' := [.int 1, .int (nI j), .ref a7]) (by rw [if_pos z5]) ?_
      refine jk_ws (ws' := (sm_S E (hb_cw E q b1 b2 C G M C2 G2 M2) (Y ++ [lw_a E 0 a6 n (upd (ar_f (lf_w C) j) j (C j 0)), lw_a E 2 a7 n (ar_f (lf_b C) j), lw_a E 2 a8 n (ar_f (lf_d C) j), lw_a E 0 a9 n (ar_f (lf_s C) j)]) p n (sm_G G) (sm_N C) (sm_M M))) lw_sw ?_
      refine jk_zast (w' := (sm_S E (hb_cw E q b1 b2 C G M C2 G2 M2) (Y ++ [lw_a E 0 a6 n (upd (ar_f (lf_w C) j) j (C j 0)), lw_a E 2 a7 n (upd (ar_f (lf_b C) j) j 1), lw_a E 2 a8 n (ar_f (lf_d C) j), lw_a E 0 a9 n (ar_f (lf_s C) j)]) p n (sm_G G) (sm_N C) (sm_M M))) K dL_law_157 ((hb_cw E q b1 b2 C G M C2 G2 M2).length + (13 + n + (Y.length + 1))) (sm_yat rfl) (vp_in_nI hlt (by omega)) (by rw [nI_clamp (by omega)]; exact sm_yst rfl) ?_
      refine jk_aload K dL_law_158 4 rfl ?_
      refine jk_iload K dL_law_160 0 rfl ?_
      refine jk_aload_n K dL_law_162 rfl 10 rfl ?_
      refine jk_iload K dL_law_163 0 rfl ?_
      refine jk_ws (ws' := (hb_v1 E q b1 b2 (sm_SW E p n (sm_G G) (sm_N C) (sm_M M) ++ (Y ++ [lw_a E 0 a6 n (upd (ar_f (lf_w C) j) j (C j 0)), lw_a E 2 a7 n (upd (ar_f (lf_b C) j) j 1), lw_a E 2 a8 n (ar_f (lf_d C) j), lw_a E 0 a9 n (ar_f (lf_s C) j)])) C G M C2 G2 M2)) lw_sw.symm ?_
      refine jk_cVi K (n' := ((((cn + 171 * j) + 1) + 1) + 1)) (k' := ((((ck + 1026 * j) + 6) + 6) + 6)) [.int (nI j)] [.int (nI j), .ref a8] dL_law_165 (lc_isDark _ hl E q b1 b2 (sm_SW E p n (sm_G G) (sm_N C) (sm_M M) ++ (Y ++ [lw_a E 0 a6 n (upd (ar_f (lf_w C) j) j (C j 0)), lw_a E 2 a7 n (upd (ar_f (lf_b C) j) j 1), lw_a E 2 a8 n (ar_f (lf_d C) j), lw_a E 0 a9 n (ar_f (lf_s C) j)])) C G M C2 G2 M2 n hn hg j hlt) gL_law_X2_isDark rfl kd_X2_isDark ⟨Nat.le_of_ble_eq_true rfl, Nat.le_of_ble_eq_true rfl⟩ 0 rfl rfl (Nat.le_of_ble_eq_true rfl) ⟨rfl, rfl⟩ ⟨(by show _ ≤ 600130; omega), (by show _ ≤ 7301079; omega)⟩ rfl (fun _ _ => ?_)
      refine jk_st (st' := [.int 0, .int (nI j), .ref a8]) (by rw [if_neg (by rw [z5]; decide)]) ?_
      refine jk_ws (ws' := (sm_S E (hb_cw E q b1 b2 C G M C2 G2 M2) (Y ++ [lw_a E 0 a6 n (upd (ar_f (lf_w C) j) j (C j 0)), lw_a E 2 a7 n (upd (ar_f (lf_b C) j) j 1), lw_a E 2 a8 n (ar_f (lf_d C) j), lw_a E 0 a9 n (ar_f (lf_s C) j)]) p n (sm_G G) (sm_N C) (sm_M M))) lw_sw ?_
      refine jk_zast (w' := (sm_S E (hb_cw E q b1 b2 C G M C2 G2 M2) (Y ++ [lw_a E 0 a6 n (upd (ar_f (lf_w C) j) j (C j 0)), lw_a E 2 a7 n (upd (ar_f (lf_b C) j) j 1), lw_a E 2 a8 n (upd (ar_f (lf_d C) j) j 0), lw_a E 0 a9 n (ar_f (lf_s C) j)]) p n (sm_G G) (sm_N C) (sm_M M))) K dL_law_168 ((hb_cw E q b1 b2 C G M C2 G2 M2).length + (13 + n + (Y.length + 2))) (sm_yat rfl) (vp_in_nI hlt (by omega)) (by rw [nI_clamp (by omega)]; exact sm_yst rfl) ?_
      refine jk_aload K dL_law_169 3 rfl ?_
      refine jk_iload K dL_law_171 0 rfl ?_
      refine jk_aload K dL_law_173 4 rfl ?_
      refine jk_iload K dL_law_175 0 rfl ?_
      refine jk_zald (v := 0) K dL_law_177 ((hb_cw E q b1 b2 C G M C2 G2 M2).length + (13 + n + (Y.length + 2))) (sm_yat rfl) (vp_in_nI hlt (by omega)) (by rw [nI_clamp (by omega), pk_us]) ?_
      refine jk_if_eq (tgt := 186) K dL_law_178 rfl (fun c_178 => ?_) (fun c_178 => ?_)
      · refine jk_aload_n K dL_law_186 rfl 10 rfl ?_
        refine jk_iload K dL_law_187 0 rfl ?_
        refine jk_ws (ws' := (hb_v1 E q b1 b2 (sm_SW E p n (sm_G G) (sm_N C) (sm_M M) ++ (Y ++ [lw_a E 0 a6 n (upd (ar_f (lf_w C) j) j (C j 0)), lw_a E 2 a7 n (upd (ar_f (lf_b C) j) j 1), lw_a E 2 a8 n (upd (ar_f (lf_d C) j) j 0), lw_a E 0 a9 n (ar_f (lf_s C) j)])) C G M C2 G2 M2)) lw_sw.symm ?_
        refine jk_cVi K (n' := (((((cn + 171 * j) + 1) + 1) + 1) + 2)) (k' := (((((ck + 1026 * j) + 6) + 6) + 6) + 12)) [.int (nI j)] [.int (nI j), .ref a9] dL_law_189 (lc_sourceOf _ hl E q b1 b2 (sm_SW E p n (sm_G G) (sm_N C) (sm_M M) ++ (Y ++ [lw_a E 0 a6 n (upd (ar_f (lf_w C) j) j (C j 0)), lw_a E 2 a7 n (upd (ar_f (lf_b C) j) j 1), lw_a E 2 a8 n (upd (ar_f (lf_d C) j) j 0), lw_a E 0 a9 n (ar_f (lf_s C) j)])) C G M C2 G2 M2 n hn hg j hlt (by rw [z5]; decide)) gL_law_X2_sourceOf rfl kd_X2_sourceOf ⟨Nat.le_of_ble_eq_true rfl, Nat.le_of_ble_eq_true rfl⟩ 0 rfl rfl (Nat.le_of_ble_eq_true rfl) ⟨rfl, rfl⟩ ⟨(by show _ ≤ 600130; omega), (by show _ ≤ 7301079; omega)⟩ rfl (fun _ _ => ?_)
        refine jk_st (st' := [.int (nI s), .int (nI j), .ref a9]) (by rw [zs]) ?_
        refine jk_ws (ws' := (sm_S E (hb_cw E q b1 b2 C G M C2 G2 M2) (Y ++ [lw_a E 0 a6 n (upd (ar_f (lf_w C) j) j (C j 0)), lw_a E 2 a7 n (upd (ar_f (lf_b C) j) j 1), lw_a E 2 a8 n (upd (ar_f (lf_d C) j) j 0), lw_a E 0 a9 n (ar_f (lf_s C) j)]) p n (sm_G G) (sm_N C) (sm_M M))) lw_sw ?_
        refine jk_iast (w' := (sm_S E (hb_cw E q b1 b2 C G M C2 G2 M2) (Y ++ [lw_a E 0 a6 n (upd (ar_f (lf_w C) j) j (C j 0)), lw_a E 2 a7 n (upd (ar_f (lf_b C) j) j 1), lw_a E 2 a8 n (upd (ar_f (lf_d C) j) j 0), lw_a E 0 a9 n (upd (ar_f (lf_s C) j) j (nI s))]) p n (sm_G G) (sm_N C) (sm_M M))) K dL_law_192 ((hb_cw E q b1 b2 C G M C2 G2 M2).length + (13 + n + (Y.length + 3))) (sm_yat rfl) (vp_in_nI hlt (by omega)) (by rw [nI_clamp (by omega)]; exact sm_yst rfl) ?_
        refine jk_iload K dL_law_193 2 rfl ?_
        refine jk_aload K dL_law_195 5 rfl ?_
        refine jk_iload K dL_law_197 0 rfl ?_
        refine jk_zald (v := 1) K dL_law_199 ((hb_cw E q b1 b2 C G M C2 G2 M2).length + (13 + n + (Y.length + 1))) (sm_yat rfl) (vp_in_nI hlt (by omega)) (by rw [nI_clamp (by omega), pk_us]) ?_
        refine jk_if_eq (tgt := 207) K dL_law_200 rfl (fun c_200 => ?_) (fun c_200 => ?_)
        · exact absurd c_200 (by decide)
        · refine jk_iconst (x := 1) K dL_law_203 rfl ?_
          refine jk_goto (tgt := 208) K dL_law_204 rfl ?_
          refine jk_iadd K dL_law_208 ?_
          refine jk_istore (lv' := [(10, .int ((sm_bu (sm_N C) j) + 1)), (12, .int (nI j)), (11, .int (hb_wood C j)), (9, .ref a9), (8, .ref a8), (7, .ref a7), (6, .ref a6), (5, .int (nI n)), (3, .int (nI t)), (2, .ref (p 0)), (1, .ref q), (0, .ref E.1.2.1)]) K dL_law_209 (by decide) rfl ?_
          refine jk_iload K dL_law_211 2 rfl ?_
          refine jk_aload K dL_law_213 6 rfl ?_
          refine jk_iload K dL_law_215 1 rfl ?_
          refine jk_iald (v := (C j 0)) K dL_law_217 ((hb_cw E q b1 b2 C G M C2 G2 M2).length + (13 + n + (Y.length + 0))) (sm_yat rfl) (vp_in_nI hlt (by omega)) (by rw [nI_clamp (by omega), pk_us]) ?_
          refine jk_iadd K dL_law_218 ?_
          refine jk_istore (lv' := [(11, .int ((hb_wood C j) + (C j 0))), (10, .int ((sm_bu (sm_N C) j) + 1)), (12, .int (nI j)), (9, .ref a9), (8, .ref a8), (7, .ref a7), (6, .ref a6), (5, .int (nI n)), (3, .int (nI t)), (2, .ref (p 0)), (1, .ref q), (0, .ref E.1.2.1)]) K dL_law_219 (by decide) rfl ?_
          refine jk_aload_n K dL_law_221 rfl 10 rfl ?_
          refine jk_iload K dL_law_222 2 rfl ?_
          refine jk_ws (ws' := (hb_v1 E q b1 b2 (sm_SW E p n (sm_G G) (sm_N C) (sm_M M) ++ (Y ++ [lw_a E 0 a6 n (upd (ar_f (lf_w C) j) j (C j 0)), lw_a E 2 a7 n (upd (ar_f (lf_b C) j) j 1), lw_a E 2 a8 n (upd (ar_f (lf_d C) j) j 0), lw_a E 0 a9 n (upd (ar_f (lf_s C) j) j (nI s))])) C G M C2 G2 M2)) lw_sw.symm ?_
          refine jk_cVi K (n' := ((((((cn + 171 * j) + 1) + 1) + 1) + 2) + 1)) (k' := ((((((ck + 1026 * j) + 6) + 6) + 6) + 12) + 6)) [.int (nI j)] [] dL_law_224 (lc_minutesToBurn _ hl E q b1 b2 (sm_SW E p n (sm_G G) (sm_N C) (sm_M M) ++ (Y ++ [lw_a E 0 a6 n (upd (ar_f (lf_w C) j) j (C j 0)), lw_a E 2 a7 n (upd (ar_f (lf_b C) j) j 1), lw_a E 2 a8 n (upd (ar_f (lf_d C) j) j 0), lw_a E 0 a9 n (upd (ar_f (lf_s C) j) j (nI s))])) C G M C2 G2 M2 n hn hg j hlt) gL_law_X2_minutesToBurn rfl kd_X2_minutesToBurn ⟨Nat.le_of_ble_eq_true rfl, Nat.le_of_ble_eq_true rfl⟩ 0 rfl rfl (Nat.le_of_ble_eq_true rfl) ⟨rfl, rfl⟩ ⟨(by show _ ≤ 600130; omega), (by show _ ≤ 7301079; omega)⟩ rfl (fun _ _ => ?_)
          refine jk_st (st' := [.int 0]) (by rw [z7]) ?_
          refine jk_istore (lv' := [(13, .int 0), (11, .int ((hb_wood C j) + (C j 0))), (10, .int ((sm_bu (sm_N C) j) + 1)), (12, .int (nI j)), (9, .ref a9), (8, .ref a8), (7, .ref a7), (6, .ref a6), (5, .int (nI n)), (3, .int (nI t)), (2, .ref (p 0)), (1, .ref q), (0, .ref E.1.2.1)]) K dL_law_227 (by decide) rfl ?_
          refine jk_aload K dL_law_229 6 rfl ?_
          refine jk_iload K dL_law_231 3 rfl ?_
          refine jk_ws (ws' := (sm_S E (hb_cw E q b1 b2 C G M C2 G2 M2) (Y ++ [lw_a E 0 a6 n (upd (ar_f (lf_w C) j) j (C j 0)), lw_a E 2 a7 n (upd (ar_f (lf_b C) j) j 1), lw_a E 2 a8 n (upd (ar_f (lf_d C) j) j 0), lw_a E 0 a9 n (upd (ar_f (lf_s C) j) j (nI s))]) p n (sm_G G) (sm_N C) (sm_M M))) lw_sw ?_
          refine jk_zald (v := 1) K dL_law_233 ((hb_cw E q b1 b2 C G M C2 G2 M2).length + (13 + n + (Y.length + 1))) (sm_yat rfl) (vp_in_nI hlt (by omega)) (by rw [nI_clamp (by omega), pk_us]) ?_
          refine jk_if_eq (tgt := 245) K dL_law_234 rfl (fun c_234 => ?_) (fun c_234 => ?_)
          · exact absurd c_234 (by decide)
          · refine jk_aload K dL_law_237 5 rfl ?_
            refine jk_iload K dL_law_239 3 rfl ?_
            refine jk_zald (v := 0) K dL_law_241 ((hb_cw E q b1 b2 C G M C2 G2 M2).length + (13 + n + (Y.length + 2))) (sm_yat rfl) (vp_in_nI hlt (by omega)) (by rw [nI_clamp (by omega), pk_us]) ?_
            refine jk_if_ne (tgt := 378) K dL_law_242 rfl (fun c_242 => ?_) (fun c_242 => ?_)
            · exact absurd (by decide) c_242
            · refine jk_iload K dL_law_245 0 rfl ?_
              refine jk_if_le (tgt := 254) K dL_law_247 rfl (fun c_247 => ?_) (fun c_247 => ?_)
              · refine jk_iconst (x := 0) K dL_law_254 rfl ?_
                refine jk_aload K dL_law_255 6 rfl ?_
                refine jk_iload K dL_law_257 3 rfl ?_
                refine jk_zald (v := 1) K dL_law_259 ((hb_cw E q b1 b2 C G M C2 G2 M2).length + (13 + n + (Y.length + 1))) (sm_yat rfl) (vp_in_nI hlt (by omega)) (by rw [nI_clamp (by omega), pk_us]) ?_
                refine jk_if_ne (tgt := 275) K dL_law_260 rfl (fun c_260 => ?_) (fun c_260 => ?_)
                · refine jk_iconst (x := 0) K dL_law_275 rfl ?_
                  refine jk_icmp_ne (tgt := 378) K dL_law_276 rfl (fun c_276 => ?_) (fun c_276 => ?_)
                  · exact absurd (by decide) c_276
                  · refine jk_iload K dL_law_279 0 rfl ?_
                    refine jk_bipush (x := 10) K dL_law_281 rfl ?_
                    refine jk_icmp_gt (tgt := 378) K dL_law_283 rfl (fun c_283 => ?_) (fun c_283 => ?_)
                    · exact absurd c_283 (by decide)
                    · refine jk_aload_n K dL_law_286 rfl 11 rfl ?_
                      refine jk_iload K dL_law_287 3 rfl ?_
                      refine jk_ws (ws' := (hb_v1 E q b1 b2 (sm_SW E p n (sm_G G) (sm_N C) (sm_M M) ++ (Y ++ [lw_a E 0 a6 n (upd (ar_f (lf_w C) j) j (C j 0)), lw_a E 2 a7 n (upd (ar_f (lf_b C) j) j 1), lw_a E 2 a8 n (upd (ar_f (lf_d C) j) j 0), lw_a E 0 a9 n (upd (ar_f (lf_s C) j) j (nI s))])) C G M C2 G2 M2)) lw_sw.symm ?_
                      refine jk_cVi K (n' := (((((((cn + 171 * j) + 1) + 1) + 1) + 2) + 1) + 1)) (k' := (((((((ck + 1026 * j) + 6) + 6) + 6) + 12) + 6) + 6)) [.int (nI j)] [] dL_law_289 (lc_lookingFor _ hl E q b1 b2 (sm_SW E p n (sm_G G) (sm_N C) (sm_M M) ++ (Y ++ [lw_a E 0 a6 n (upd (ar_f (lf_w C) j) j (C j 0)), lw_a E 2 a7 n (upd (ar_f (lf_b C) j) j 1), lw_a E 2 a8 n (upd (ar_f (lf_d C) j) j 0), lw_a E 0 a9 n (upd (ar_f (lf_s C) j) j (nI s))])) C G M C2 G2 M2 n hn hg j hlt) gL_law_X2_lookingFor rfl kd_X2_lookingFor ⟨Nat.le_of_ble_eq_true rfl, Nat.le_of_ble_eq_true rfl⟩ 0 rfl rfl (Nat.le_of_ble_eq_true rfl) ⟨rfl, rfl⟩ ⟨(by show _ ≤ 600130; omega), (by show _ ≤ 7301079; omega)⟩ rfl (fun _ _ => ?_)
                      refine jk_st (st' := [.int 0]) (by rw [z8]) ?_
                      refine jk_if_le (tgt := 303) K dL_law_292 rfl (fun c_292 => ?_) (fun c_292 => ?_)
                      · refine jk_aload_n K dL_law_303 rfl 11 rfl ?_
                        refine jk_iload K dL_law_304 3 rfl ?_
                        refine jk_cVi K (n' := ((((((((cn + 171 * j) + 1) + 1) + 1) + 2) + 1) + 1) + 1)) (k' := ((((((((ck + 1026 * j) + 6) + 6) + 6) + 12) + 6) + 6) + 6)) [.int (nI j)] [] dL_law_306 (lc_lookingFor _ hl E q b1 b2 (sm_SW E p n (sm_G G) (sm_N C) (sm_M M) ++ (Y ++ [lw_a E 0 a6 n (upd (ar_f (lf_w C) j) j (C j 0)), lw_a E 2 a7 n (upd (ar_f (lf_b C) j) j 1), lw_a E 2 a8 n (upd (ar_f (lf_d C) j) j 0), lw_a E 0 a9 n (upd (ar_f (lf_s C) j) j (nI s))])) C G M C2 G2 M2 n hn hg j hlt) gL_law_X2_lookingFor rfl kd_X2_lookingFor ⟨Nat.le_of_ble_eq_true rfl, Nat.le_of_ble_eq_true rfl⟩ 0 rfl rfl (Nat.le_of_ble_eq_true rfl) ⟨rfl, rfl⟩ ⟨(by show _ ≤ 600130; omega), (by show _ ≤ 7301079; omega)⟩ rfl (fun _ _ => ?_)
                        refine jk_aload_n K dL_law_309 rfl 11 rfl ?_
                        refine jk_iload K dL_law_310 3 rfl ?_
                        refine jk_cVi K (n' := (((((((((cn + 171 * j) + 1) + 1) + 1) + 2) + 1) + 1) + 1) + 1)) (k' := (((((((((ck + 1026 * j) + 6) + 6) + 6) + 12) + 6) + 6) + 6) + 6)) [.int (nI j)] [.int (C j 8)] dL_law_312 (lc_watchOf _ hl E q b1 b2 (sm_SW E p n (sm_G G) (sm_N C) (sm_M M) ++ (Y ++ [lw_a E 0 a6 n (upd (ar_f (lf_w C) j) j (C j 0)), lw_a E 2 a7 n (upd (ar_f (lf_b C) j) j 1), lw_a E 2 a8 n (upd (ar_f (lf_d C) j) j 0), lw_a E 0 a9 n (upd (ar_f (lf_s C) j) j (nI s))])) C G M C2 G2 M2 n hn hg j hlt) gL_law_X2_watchOf rfl kd_X2_watchOf ⟨Nat.le_of_ble_eq_true rfl, Nat.le_of_ble_eq_true rfl⟩ 0 rfl rfl (Nat.le_of_ble_eq_true rfl) ⟨rfl, rfl⟩ ⟨(by show _ ≤ 600130; omega), (by show _ ≤ 7301079; omega)⟩ rfl (fun _ _ => ?_)
                        refine jk_icmp_ge_F (tgt := 378) K dL_law_315 rfl hlw ?_
                        refine jk_aload K dL_law_318 7 rfl ?_
                        refine jk_iload K dL_law_320 3 rfl ?_
                        refine jk_ws (ws' := (sm_S E (hb_cw E q b1 b2 C G M C2 G2 M2) (Y ++ [lw_a E 0 a6 n (upd (ar_f (lf_w C) j) j (C j 0)), lw_a E 2 a7 n (upd (ar_f (lf_b C) j) j 1), lw_a E 2 a8 n (upd (ar_f (lf_d C) j) j 0), lw_a E 0 a9 n (upd (ar_f (lf_s C) j) j (nI s))]) p n (sm_G G) (sm_N C) (sm_M M))) lw_sw ?_
                        refine jk_iald (v := (C j 0)) K dL_law_322 ((hb_cw E q b1 b2 C G M C2 G2 M2).length + (13 + n + (Y.length + 0))) (sm_yat rfl) (vp_in_nI hlt (by omega)) (by rw [nI_clamp (by omega), pk_us]) ?_
                        refine jk_if_lt_F (tgt := 378) K dL_law_323 rfl (by rw [e0]; exact nI_pos (by omega)) ?_
                        refine jk_aload K dL_law_326 7 rfl ?_
                        refine jk_iload K dL_law_328 3 rfl ?_
                        refine jk_iald (v := (C j 0)) K dL_law_330 ((hb_cw E q b1 b2 C G M C2 G2 M2).length + (13 + n + (Y.length + 0))) (sm_yat rfl) (vp_in_nI hlt (by omega)) (by rw [nI_clamp (by omega), pk_us]) ?_
                        refine jk_bipush (x := (nI 30)) K dL_law_331 rfl ?_
                        refine jk_icmp_gt_F (tgt := 378) K dL_law_333 rfl (by rw [e0]; exact Int32.not_lt.mpr (nI_le hk0 (by decide))) ?_
                        refine jk_aload K dL_law_336 4 rfl ?_
                        refine jk_iload K dL_law_338 3 rfl ?_
                        refine jk_iald (v := (nI s)) K dL_law_340 ((hb_cw E q b1 b2 C G M C2 G2 M2).length + (13 + n + (Y.length + 3))) (sm_yat rfl) (vp_in_nI hlt (by omega)) (by rw [nI_clamp (by omega), pk_us]) ?_
                        refine jk_iload K dL_law_341 8 rfl ?_
                        refine jk_icmp_ge_F (tgt := 378) K dL_law_343 rfl (Int32.not_le.mpr (nI_lt hs (by omega))) ?_
                        refine jk_aload_n K dL_law_346 rfl 11 rfl ?_
                        refine jk_iload K dL_law_347 3 rfl ?_
                        refine jk_ws (ws' := (hb_v1 E q b1 b2 (sm_SW E p n (sm_G G) (sm_N C) (sm_M M) ++ (Y ++ [lw_a E 0 a6 n (upd (ar_f (lf_w C) j) j (C j 0)), lw_a E 2 a7 n (upd (ar_f (lf_b C) j) j 1), lw_a E 2 a8 n (upd (ar_f (lf_d C) j) j 0), lw_a E 0 a9 n (upd (ar_f (lf_s C) j) j (nI s))])) C G M C2 G2 M2)) lw_sw.symm ?_
                        refine jk_cVi K (n' := ((((((((((cn + 171 * j) + 1) + 1) + 1) + 2) + 1) + 1) + 1) + 1) + 1)) (k' := ((((((((((ck + 1026 * j) + 6) + 6) + 6) + 12) + 6) + 6) + 6) + 6) + 6)) [.int (nI j)] [] dL_law_349 (lc_isMistaken _ hl E q b1 b2 (sm_SW E p n (sm_G G) (sm_N C) (sm_M M) ++ (Y ++ [lw_a E 0 a6 n (upd (ar_f (lf_w C) j) j (C j 0)), lw_a E 2 a7 n (upd (ar_f (lf_b C) j) j 1), lw_a E 2 a8 n (upd (ar_f (lf_d C) j) j 0), lw_a E 0 a9 n (upd (ar_f (lf_s C) j) j (nI s))])) C G M C2 G2 M2 n hn hg j hlt) gL_law_X2_isMistaken rfl kd_X2_isMistaken ⟨Nat.le_of_ble_eq_true rfl, Nat.le_of_ble_eq_true rfl⟩ 0 rfl rfl (Nat.le_of_ble_eq_true rfl) ⟨rfl, rfl⟩ ⟨(by show _ ≤ 600130; omega), (by show _ ≤ 7301079; omega)⟩ rfl (fun _ _ => ?_)
                        refine jk_st (st' := [.int 0]) (by rw [if_neg (by rw [zs]; exact hm_neg (by omega))]) ?_
                        refine jk_aload K dL_law_352 4 rfl ?_
                        refine jk_iload K dL_law_354 3 rfl ?_
                        refine jk_ws (ws' := (sm_S E (hb_cw E q b1 b2 C G M C2 G2 M2) (Y ++ [lw_a E 0 a6 n (upd (ar_f (lf_w C) j) j (C j 0)), lw_a E 2 a7 n (upd (ar_f (lf_b C) j) j 1), lw_a E 2 a8 n (upd (ar_f (lf_d C) j) j 0), lw_a E 0 a9 n (upd (ar_f (lf_s C) j) j (nI s))]) p n (sm_G G) (sm_N C) (sm_M M))) lw_sw ?_
                        refine jk_iald (v := (nI s)) K dL_law_356 ((hb_cw E q b1 b2 C G M C2 G2 M2).length + (13 + n + (Y.length + 3))) (sm_yat rfl) (vp_in_nI hlt (by omega)) (by rw [nI_clamp (by omega), pk_us]) ?_
                        refine jk_iconst (x := (-1)) K dL_law_357 rfl ?_
                        refine jk_icmp_ne_T (tgt := 365) K dL_law_358 rfl (hm_neg (by omega)) ?_
                        refine jk_iconst (x := 0) K dL_law_365 rfl ?_
                        refine jk_icmp_ne (tgt := 378) K dL_law_366 rfl (fun c_366 => ?_) (fun c_366 => ?_)
                        · exact absurd (by decide) c_366
                        · refine jk_aload_n K dL_law_369 rfl 11 rfl ?_
                          refine jk_iload K dL_law_370 3 rfl ?_
                          refine jk_ws (ws' := (hb_v1 E q b1 b2 (sm_SW E p n (sm_G G) (sm_N C) (sm_M M) ++ (Y ++ [lw_a E 0 a6 n (upd (ar_f (lf_w C) j) j (C j 0)), lw_a E 2 a7 n (upd (ar_f (lf_b C) j) j 1), lw_a E 2 a8 n (upd (ar_f (lf_d C) j) j 0), lw_a E 0 a9 n (upd (ar_f (lf_s C) j) j (nI s))])) C G M C2 G2 M2)) lw_sw.symm ?_
                          refine jk_cVi K (n' := (((((((((((cn + 171 * j) + 1) + 1) + 1) + 2) + 1) + 1) + 1) + 1) + 1) + 1)) (k' := (((((((((((ck + 1026 * j) + 6) + 6) + 6) + 12) + 6) + 6) + 6) + 6) + 6) + 6)) [.int (nI j)] [] dL_law_372 (lc_answersTo _ hl E q b1 b2 (sm_SW E p n (sm_G G) (sm_N C) (sm_M M) ++ (Y ++ [lw_a E 0 a6 n (upd (ar_f (lf_w C) j) j (C j 0)), lw_a E 2 a7 n (upd (ar_f (lf_b C) j) j 1), lw_a E 2 a8 n (upd (ar_f (lf_d C) j) j 0), lw_a E 0 a9 n (upd (ar_f (lf_s C) j) j (nI s))])) C G M C2 G2 M2 n hn hg j hlt) gL_law_X2_answersTo rfl kd_X2_answersTo ⟨Nat.le_of_ble_eq_true rfl, Nat.le_of_ble_eq_true rfl⟩ 0 rfl rfl (Nat.le_of_ble_eq_true rfl) ⟨rfl, rfl⟩ ⟨(by show _ ≤ 600130; omega), (by show _ ≤ 7301079; omega)⟩ rfl (fun _ _ => ?_)
                          refine jk_if_ge_T (tgt := 380) K dL_law_375 rfl (by rw [e10]; exact Int32.not_lt.mp (nI_pos (by omega))) ?_
                          refine jk_iconst (x := 0) K dL_law_380 rfl ?_
                          refine jk_istore (lv' := [(14, .int 0), (13, .int 0), (11, .int ((hb_wood C j) + (C j 0))), (10, .int ((sm_bu (sm_N C) j) + 1)), (12, .int (nI j)), (9, .ref a9), (8, .ref a8), (7, .ref a7), (6, .ref a6), (5, .int (nI n)), (3, .int (nI t)), (2, .ref (p 0)), (1, .ref q), (0, .ref E.1.2.1)]) K dL_law_381 (by decide) rfl ?_
                          refine jk_ws (ws' := (hb_v1 E q b1 b2 (sm_SW E p n (sm_G G) (sm_N C) (sm_M M) ++ (Y ++ [lw_a E 0 a6 n (ar_f (lf_w C) (j + 1)), lw_a E 2 a7 n (ar_f (lf_b C) (j + 1)), lw_a E 2 a8 n (ar_f (lf_d C) (j + 1)), lw_a E 0 a9 n (ar_f (lf_s C) (j + 1))])) C G M C2 G2 M2)) (by rw [ar_f_s (lf_w C), ar_f_s (lf_b C), ar_f_s (lf_d C), ar_f_s (lf_s C), show lf_w C j = C j 0 from rfl, (show lf_b C j = 1 from if_pos z5), (show lf_d C j = 0 from if_neg (by rw [z5]; decide)), (show lf_s C j = (nI s) from (if_neg (show ¬ C j 5 = 0 by rw [z5]; decide)).trans zs)]) ?_
                          refine jk_ws (ws' := (sm_S E (hb_cw E q b1 b2 C G M C2 G2 M2) (Y ++ [lw_a E 0 a6 n (ar_f (lf_w C) (j + 1)), lw_a E 2 a7 n (ar_f (lf_b C) (j + 1)), lw_a E 2 a8 n (ar_f (lf_d C) (j + 1)), lw_a E 0 a9 n (ar_f (lf_s C) (j + 1))]) p n (sm_G G) (sm_N C) (sm_M M))) lw_sw ?_
                          refine jk_wide (n' := (cn + 171 * j + 11 + 16 * 0)) (k' := (ck + 1026 * j + 66 + 96 * 0)) (by omega) (by omega) ?_
                          refine jk_sub (lv' := [(14, .int 0), (12, .int (nI j)), (11, .int ((hb_wood C j) + (C j 0))), (10, .int ((sm_bu (sm_N C) j) + 1)), (9, .ref a9), (8, .ref a8), (7, .ref a7), (6, .ref a6), (5, .int (nI n)), (3, .int (nI t)), (2, .ref (p 0)), (1, .ref q), (0, .ref E.1.2.1)]) [0, 4, 2, 3, 5, 6, 7, 8, 9, 10, 11, 12, 13] rfl ?_
                          refine jk_lv (lv' := [(14, .int (nI 0)), (12, .int (nI j)), (11, .int (hb_wood C (j + 1))), (10, .int (sm_bu (sm_N C) (j + 1))), (9, .ref a9), (8, .ref a8), (7, .ref a7), (6, .ref a6), (5, .int (nI n)), (3, .int (nI t)), (2, .ref (p 0)), (1, .ref q), (0, .ref E.1.2.1)]) (by rw [sm_bu_s, hb_wood_s, (show (if sm_N C j 6 = 2 then (1 : Int32) else 0) = 1 from if_pos z5)]; rfl) ?_
                          exact kk
                      · exact absurd (by decide) c_292
                · exact absurd c_260 (by decide)
              · exact absurd (by decide) c_247
      · exact absurd (by decide) c_178
