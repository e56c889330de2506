theorem kd_L_addHill : yL_addHill.cls ≠ "java/lang/invoke/MethodHandle" ∧ yL_addHill.cls ≠ "java/lang/invoke/VarHandle" ∧ (parseMethodDescriptor yL_addHill.desc).map (fun d => d.parameters.length) = some 5 := by decide +kernel
theorem kd_L_turnEast : yL_turnEast.cls ≠ "java/lang/invoke/MethodHandle" ∧ yL_turnEast.cls ≠ "java/lang/invoke/VarHandle" ∧ (parseMethodDescriptor yL_turnEast.desc).map (fun d => d.parameters.length) = some 3 := by decide +kernel
theorem kd_L_woodOf : yL_woodOf.cls ≠ "java/lang/invoke/MethodHandle" ∧ yL_woodOf.cls ≠ "java/lang/invoke/VarHandle" ∧ (parseMethodDescriptor yL_woodOf.desc).map (fun d => d.parameters.length) = some 3 := by decide +kernel
theorem kd_X3_addHill : yX3_addHill.cls = RX3 ∧ yX3_addHill.cls ≠ "java/lang/invoke/MethodHandle" ∧ yX3_addHill.cls ≠ "java/lang/invoke/VarHandle" ∧ (parseMethodDescriptor yX3_addHill.desc).map (fun d => d.parameters.length) = some 3 := by decide +kernel
theorem kd_X3_thrown : yX3_thrown.cls = RX3 ∧ yX3_thrown.cls ≠ "java/lang/invoke/MethodHandle" ∧ yX3_thrown.cls ≠ "java/lang/invoke/VarHandle" ∧ (parseMethodDescriptor yX3_thrown.desc).map (fun d => d.parameters.length) = some 0 := by decide +kernel
theorem kd_X3_turnEast : yX3_turnEast.cls = RX3 ∧ yX3_turnEast.cls ≠ "java/lang/invoke/MethodHandle" ∧ yX3_turnEast.cls ≠ "java/lang/invoke/VarHandle" ∧ (parseMethodDescriptor yX3_turnEast.desc).map (fun d => d.parameters.length) = some 1 := by decide +kernel
theorem kd_X3_woodOf : yX3_woodOf.cls = RX3 ∧ yX3_woodOf.cls ≠ "java/lang/invoke/MethodHandle" ∧ yX3_woodOf.cls ≠ "java/lang/invoke/VarHandle" ∧ (parseMethodDescriptor yX3_woodOf.desc).map (fun d => d.parameters.length) = some 1 := by decide +kernel
set_option maxHeartbeats 4000000 in
set_option maxRecDepth 100000 in
theorem lw_c11 {Γ : jk_G} {E : jk_T} (K : jk_C Γ E RL cL_law 9 wsL_law ({ frames := 13, cells := 601024, slots := 7293034, locals := 468 } : Room)) {sb L : Nat} {xs : Nat → Int32} (XL : jk_LX Γ sb L xs) (hL : L ≤ 2048) {j : Nat} (hj : 4 * j + 3 < L) {nn ks : Nat} (hnn : nn + 11 ≤ 601024) (hks : ks + 117 ≤ 7293034) {q : Nat} {b1 b2 : Nat → Nat} {ao : Nat} {m : Nat → Nat} {O : Nat → Int64} {C : Nat → Nat → Int32} {G M : Nat → Int32} {C2 : Nat → Nat → Int32} {G2 M2 : Nat → Int32} {th : Int32} {n : Nat} {S : Nat → Int32} {N a : Nat → Nat → Int32} (R : hm_R n C G M S N a) (kk : ∀ (O : Nat → Int64) (C : Nat → Nat → Int32) (G M : Nat → Int32) (C2 : Nat → Nat → Int32) (G2 M2 : Nat → Int32) (th : Int32) (n : Nat) (S : Nat → Int32) (N a : Nat → Nat → Int32), hm_R n C G M S N a → jk_J Γ E (lw_w E q b1 b2 ao m O C G M C2 G2 M2 th n S N a) (nn + 11) (ks + 117) 2155 [(4, .int (nI (4 * j))), (3, .ref ao), (2, .ref (m 0)), (1, .ref q), (0, .ref sb)] []) : jk_J Γ E (lw_w E q b1 b2 ao m O C G M C2 G2 M2 th n S N a) nn ks 910 [(4, .int (nI (4 * j))), (3, .ref ao), (2, .ref (m 0)), (1, .ref q), (0, .ref sb)] [] := by
  have hl := K.2.2.2.2.2.2.2.2.2.2
  refine jk_aload_n K dL_law_910 rfl 3 rfl ?_
  refine jk_aload_n K dL_law_911 rfl 4 rfl ?_
  refine jk_iload K dL_law_912 0 rfl ?_
  refine jk_iconst (x := 1) K dL_law_914 rfl ?_
  refine jk_iadd K dL_law_915 ?_
  refine jk_xld (v := xs (4 * j + 1)) K XL dL_law_916 (lw_i hj hL (c := 1) (by decide)).1 (congrArg xs (lw_i hj hL (c := 1) (by decide)).2) ?_
  refine jk_aload_n K dL_law_917 rfl 1 rfl ?_
  refine jk_ws (ws' := (hb_v1 E q b1 b2 (hb_o E ao O :: (hm_MW E m th (nI n) S N a ++ [])) C G M C2 G2 M2)) lw_eq.symm ?_
  refine jk_cSiH K (n' := (nn + 1)) (k' := (ks + 6)) [.ref q, .int (xs (4 * j + 1)), .ref ao] [] dL_law_918 (hb_L_woodOf _ hl E q b1 b2 ao O (hm_MW E m th (nI n) S N a ++ []) C G M C2 G2 M2 n R.1 R.2.2.1.1 (xs (4 * j + 1))) gL_law_L_woodOf rfl kd_L_woodOf ⟨Nat.le_of_ble_eq_true rfl, Nat.le_of_ble_eq_true rfl⟩ (Nat.le_of_ble_eq_true rfl) ⟨rfl, rfl⟩ ⟨(by show _ ≤ 601024; omega), (by show _ ≤ 7293034; omega)⟩ rfl (fun u hu => ?_)
  rcases u with u | k
  · refine jk_ws (ws' := (lw_w E q b1 b2 ao m (vp_updL O 0 (Int32.toInt64 (C u 0))) C G M C2 G2 M2 th n S N a)) lw_eq ?_
    refine jk_st (st' := [.int 0]) rfl ?_
    refine jk_istore (lv' := [(5, .int 0), (4, .int (nI (4 * j))), (3, .ref ao), (2, .ref (m 0)), (1, .ref q), (0, .ref sb)]) K dL_law_921 (by decide) rfl ?_
    refine jk_aload_n K dL_law_923 rfl 3 rfl ?_
    refine jk_aload_n K dL_law_924 rfl 5 rfl ?_
    refine jk_iload K dL_law_925 1 rfl ?_
    refine jk_iconst (x := 1) K dL_law_927 rfl ?_
    refine jk_iadd K dL_law_928 ?_
    refine jk_xld (v := xs (4 * j + 1)) K XL dL_law_929 (lw_i hj hL (c := 1) (by decide)).1 (congrArg xs (lw_i hj hL (c := 1) (by decide)).2) ?_
    refine jk_cVi K (n' := (nn + 1)) (k' := (ks + 6)) [.int (xs (4 * j + 1))] [] dL_law_930 (hb_X3_woodOf _ hl E (hb_v1 E q b1 b2 [hb_o E ao (vp_updL O 0 (Int32.toInt64 (C u 0)))] C G M C2 G2 M2) [] m th S N a n R.1 (xs (4 * j + 1))) gL_law_X3_woodOf rfl kd_X3_woodOf ⟨Nat.le_of_ble_eq_true rfl, Nat.le_of_ble_eq_true rfl⟩ _ hm_x0 rfl (Nat.le_of_ble_eq_true rfl) ⟨rfl, rfl⟩ ⟨(by show _ ≤ 601024; omega), (by show _ ≤ 7293034; omega)⟩ rfl (fun v hv => ?_)
    obtain ⟨e1, e2, R2⟩ := lp_woodOf_ok (C2 := C2) (G2 := G2) (M2 := M2) R hu hv
    refine jk_ws (ws' := (lw_w E q b1 b2 ao m (vp_updL O 0 (Int32.toInt64 (C u 0))) C G M C2 G2 M2 v.1 n S N a)) rfl ?_
    refine jk_st (st' := [.int (C u 0)]) (by rw [e2]) ?_
    refine jk_istore (lv' := [(6, .int (C u 0)), (5, .int 0), (4, .int (nI (4 * j))), (3, .ref ao), (2, .ref (m 0)), (1, .ref q), (0, .ref sb)]) K dL_law_933 (by decide) rfl ?_
    refine jk_aload_n K dL_law_935 rfl 4 rfl ?_
    refine jk_cVi K (n' := (nn + 1)) (k' := (ks + 6)) [] [] dL_law_936 (hb_X3_thrown _ hl E (hb_v1 E q b1 b2 [hb_o E ao (vp_updL O 0 (Int32.toInt64 (C u 0)))] C G M C2 G2 M2) [] m v.1 S N a n R2.1) gL_law_X3_thrown rfl kd_X3_thrown ⟨Nat.le_of_ble_eq_true rfl, Nat.le_of_ble_eq_true rfl⟩ _ hm_x0 rfl (Nat.le_of_ble_eq_true rfl) ⟨rfl, rfl⟩ ⟨(by show _ ≤ 601024; omega), (by show _ ≤ 7293034; omega)⟩ rfl (fun _ _ => ?_)
    refine jk_st (st' := [.int 0]) (by rw [e1]) ?_
    refine jk_iload K dL_law_939 1 rfl ?_
    refine jk_icmp_eq (tgt := 946) K dL_law_941 rfl (fun c_941 => ?_) (fun c_941 => ?_)
    · refine jk_iload K dL_law_946 1 rfl ?_
      refine jk_if_ne (tgt := 963) K dL_law_948 rfl (fun c_948 => ?_) (fun c_948 => ?_)
      · exact absurd (by decide) c_948
      · refine jk_aload_n K dL_law_951 rfl 3 rfl ?_
        refine jk_iconst (x := 0) K dL_law_952 rfl ?_
        refine jk_lald (v := (Int32.toInt64 (C u 0))) K dL_law_953 29 lw_out (vp_in_nI (n := 0) (by decide) (by decide)) (by rw [show Int32.toNatClampNeg 0 = 0 from by decide]; exact if_pos rfl) ?_
        refine jk_iload K dL_law_954 0 rfl ?_
        refine jk_i2l K dL_law_956 ?_
        refine jk_lcmp K dL_law_957 ?_
        refine jk_st (st' := [.int 0]) (by rw [lg_self]) ?_
        refine jk_if_eq (tgt := 963) K dL_law_958 rfl (fun c_958 => ?_) (fun c_958 => ?_)
        · refine jk_goto (tgt := 2155) K dL_law_963 rfl ?_
          refine jk_sub (lv' := [(4, .int (nI (4 * j))), (3, .ref ao), (2, .ref (m 0)), (1, .ref q), (0, .ref sb)]) [2, 3, 4, 5, 6] rfl ?_
          refine jk_wide (n' := nn + 11) (k' := ks + 117) (by omega) (by omega) ?_
          exact kk _ _ _ _ _ _ _ _ _ _ _ _ R2
        · exact absurd (by decide) c_958
    · exact absurd (by decide) c_941
  · refine jk_ws (ws' := (lw_w E q b1 b2 ao m O C G M C2 G2 M2 th n S N a)) lw_eq ?_
    refine jk_st (st' := [.int k]) rfl ?_
    refine jk_istore (lv' := [(5, .int k), (4, .int (nI (4 * j))), (3, .ref ao), (2, .ref (m 0)), (1, .ref q), (0, .ref sb)]) K dL_law_921 (by decide) rfl ?_
    refine jk_aload_n K dL_law_923 rfl 3 rfl ?_
    refine jk_aload_n K dL_law_924 rfl 5 rfl ?_
    refine jk_iload K dL_law_925 1 rfl ?_
    refine jk_iconst (x := 1) K dL_law_927 rfl ?_
    refine jk_iadd K dL_law_928 ?_
    refine jk_xld (v := xs (4 * j + 1)) K XL dL_law_929 (lw_i hj hL (c := 1) (by decide)).1 (congrArg xs (lw_i hj hL (c := 1) (by decide)).2) ?_
    refine jk_cVi K (n' := (nn + 1)) (k' := (ks + 6)) [.int (xs (4 * j + 1))] [] dL_law_930 (hb_X3_woodOf _ hl E (hb_v1 E q b1 b2 [hb_o E ao O] C G M C2 G2 M2) [] m th S N a n R.1 (xs (4 * j + 1))) gL_law_X3_woodOf rfl kd_X3_woodOf ⟨Nat.le_of_ble_eq_true rfl, Nat.le_of_ble_eq_true rfl⟩ _ hm_x0 rfl (Nat.le_of_ble_eq_true rfl) ⟨rfl, rfl⟩ ⟨(by show _ ≤ 601024; omega), (by show _ ≤ 7293034; omega)⟩ rfl (fun v hv => ?_)
    obtain ⟨e1, ek, R2⟩ := lp_woodOf_no R hu hv
    refine jk_ws (ws' := (lw_w E q b1 b2 ao m O C G M C2 G2 M2 v.1 n S N a)) rfl ?_
    refine jk_st (st' := [.int v.2]) rfl ?_
    refine jk_istore (lv' := [(6, .int v.2), (5, .int k), (4, .int (nI (4 * j))), (3, .ref ao), (2, .ref (m 0)), (1, .ref q), (0, .ref sb)]) K dL_law_933 (by decide) rfl ?_
    refine jk_aload_n K dL_law_935 rfl 4 rfl ?_
    refine jk_cVi K (n' := (nn + 1)) (k' := (ks + 6)) [] [] dL_law_936 (hb_X3_thrown _ hl E (hb_v1 E q b1 b2 [hb_o E ao O] C G M C2 G2 M2) [] m v.1 S N a n R2.1) gL_law_X3_thrown rfl kd_X3_thrown ⟨Nat.le_of_ble_eq_true rfl, Nat.le_of_ble_eq_true rfl⟩ _ hm_x0 rfl (Nat.le_of_ble_eq_true rfl) ⟨rfl, rfl⟩ ⟨(by show _ ≤ 601024; omega), (by show _ ≤ 7293034; omega)⟩ rfl (fun _ _ => ?_)
    refine jk_st (st' := [.int k]) (by rw [e1]) ?_
    refine jk_iload K dL_law_939 1 rfl ?_
    refine jk_icmp_eq (tgt := 946) K dL_law_941 rfl (fun c_941 => ?_) (fun c_941 => ?_)
    · refine jk_iload K dL_law_946 1 rfl ?_
      refine jk_if_ne (tgt := 963) K dL_law_948 rfl (fun c_948 => ?_) (fun c_948 => ?_)
      · refine jk_goto (tgt := 2155) K dL_law_963 rfl ?_
        refine jk_sub (lv' := [(4, .int (nI (4 * j))), (3, .ref ao), (2, .ref (m 0)), (1, .ref q), (0, .ref sb)]) [2, 3, 4, 5, 6] rfl ?_
        refine jk_wide (n' := nn + 11) (k' := ks + 117) (by omega) (by omega) ?_
        exact kk _ _ _ _ _ _ _ _ _ _ _ _ R2
      · exact absurd c_948 ek
    · exact absurd rfl c_941
set_option maxHeartbeats 4000000 in
set_option maxRecDepth 100000 in
theorem lw_c0 {Γ : jk_G} {E : jk_T} (K : jk_C Γ E RL cL_law 9 wsL_law ({ frames := 13, cells := 601024, slots := 7293034, locals := 468 } : Room)) {sb L : Nat} {xs : Nat → Int32} (XL : jk_LX Γ sb L xs) (hL : L ≤ 2048) {j : Nat} (hj : 4 * j + 3 < L) {nn ks : Nat} (hnn : nn + 11 ≤ 601024) (hks : ks + 117 ≤ 7293034) {q : Nat} {b1 b2 : Nat → Nat} {ao : Nat} {m : Nat → Nat} {O : Nat → Int64} {C : Nat → Nat → Int32} {G M : Nat → Int32} {C2 : Nat → Nat → Int32} {G2 M2 : Nat → Int32} {th : Int32} {n : Nat} {S : Nat → Int32} {N a : Nat → Nat → Int32} (R : hm_R n C G M S N a) (kk : ∀ (O : Nat → Int64) (C : Nat → Nat → Int32) (G M : Nat → Int32) (C2 : Nat → Nat → Int32) (G2 M2 : Nat → Int32) (th : Int32) (n : Nat) (S : Nat → Int32) (N a : Nat → Nat → Int32), hm_R n C G M S N a → jk_J Γ E (lw_w E q b1 b2 ao m O C G M C2 G2 M2 th n S N a) (nn + 11) (ks + 117) 2155 [(4, .int (nI (4 * j))), (3, .ref ao), (2, .ref (m 0)), (1, .ref q), (0, .ref sb)] []) : jk_J Γ E (lw_w E q b1 b2 ao m O C G M C2 G2 M2 th n S N a) nn ks 208 [(4, .int (nI (4 * j))), (3, .ref ao), (2, .ref (m 0)), (1, .ref q), (0, .ref sb)] [] := by
  have hl := K.2.2.2.2.2.2.2.2.2.2
  refine jk_aload_n K dL_law_208 rfl 3 rfl ?_
  refine jk_aload_n K dL_law_209 rfl 4 rfl ?_
  refine jk_iload K dL_law_210 0 rfl ?_
  refine jk_iconst (x := 1) K dL_law_212 rfl ?_
  refine jk_iadd K dL_law_213 ?_
  refine jk_xld (v := xs (4 * j + 1)) K XL dL_law_214 (lw_i hj hL (c := 1) (by decide)).1 (congrArg xs (lw_i hj hL (c := 1) (by decide)).2) ?_
  refine jk_aload_n K dL_law_215 rfl 4 rfl ?_
  refine jk_iload K dL_law_216 0 rfl ?_
  refine jk_iconst (x := 2) K dL_law_218 rfl ?_
  refine jk_iadd K dL_law_219 ?_
  refine jk_xld (v := xs (4 * j + 2)) K XL dL_law_220 (lw_i hj hL (c := 2) (by decide)).1 (congrArg xs (lw_i hj hL (c := 2) (by decide)).2) ?_
  refine jk_aload_n K dL_law_221 rfl 4 rfl ?_
  refine jk_iload K dL_law_222 0 rfl ?_
  refine jk_iconst (x := 3) K dL_law_224 rfl ?_
  refine jk_iadd K dL_law_225 ?_
  refine jk_xld (v := xs (4 * j + 3)) K XL dL_law_226 (lw_i hj hL (c := 3) (by decide)).1 (congrArg xs (lw_i hj hL (c := 3) (by decide)).2) ?_
  refine jk_aload_n K dL_law_227 rfl 1 rfl ?_
  refine jk_ws (ws' := (hb_v1 E q b1 b2 (hb_o E ao O :: (hm_MW E m th (nI n) S N a ++ [])) C G M C2 G2 M2)) lw_eq.symm ?_
  refine jk_cSiH K (n' := (nn + 4)) (k' := (ks + 24)) [.ref q, .int (xs (4 * j + 1)), .int (xs (4 * j + 2)), .int (xs (4 * j + 3)), .ref ao] [] dL_law_228 (hb_L_addHill _ hl E q b1 b2 ao O (hm_MW E m th (nI n) S N a ++ []) C G M C2 G2 M2 n R.1 R.2.2.1.1 (xs (4 * j + 1)) (xs (4 * j + 2)) (xs (4 * j + 3))) gL_law_L_addHill rfl kd_L_addHill ⟨Nat.le_of_ble_eq_true rfl, Nat.le_of_ble_eq_true rfl⟩ (Nat.le_of_ble_eq_true rfl) ⟨rfl, rfl⟩ ⟨(by show _ ≤ 601024; omega), (by show _ ≤ 7293034; omega)⟩ rfl (fun u hu => ?_)
  rcases u with u | k
  · refine jk_ws (ws' := (lw_w E q b1 b2 ao m (vp_updL O 0 (Int32.toInt64 (nI n))) (va_up C n (hb_fu (hb_fu (hb_fu (C n) 0 (xs (4 * j + 1))) 1 (xs (4 * j + 2))) 2 (xs (4 * j + 3)))) (hb_fu G 0 (nI (n + 1))) M C2 G2 M2 th n S N a)) lw_eq ?_
    refine jk_st (st' := [.int 0]) rfl ?_
    refine jk_istore (lv' := [(5, .int 0), (4, .int (nI (4 * j))), (3, .ref ao), (2, .ref (m 0)), (1, .ref q), (0, .ref sb)]) K dL_law_231 (by decide) rfl ?_
    refine jk_aload_n K dL_law_233 rfl 3 rfl ?_
    refine jk_aload_n K dL_law_234 rfl 5 rfl ?_
    refine jk_iload K dL_law_235 1 rfl ?_
    refine jk_iconst (x := 1) K dL_law_237 rfl ?_
    refine jk_iadd K dL_law_238 ?_
    refine jk_xld (v := xs (4 * j + 1)) K XL dL_law_239 (lw_i hj hL (c := 1) (by decide)).1 (congrArg xs (lw_i hj hL (c := 1) (by decide)).2) ?_
    refine jk_aload_n K dL_law_240 rfl 5 rfl ?_
    refine jk_iload K dL_law_241 1 rfl ?_
    refine jk_iconst (x := 2) K dL_law_243 rfl ?_
    refine jk_iadd K dL_law_244 ?_
    refine jk_xld (v := xs (4 * j + 2)) K XL dL_law_245 (lw_i hj hL (c := 2) (by decide)).1 (congrArg xs (lw_i hj hL (c := 2) (by decide)).2) ?_
    refine jk_aload_n K dL_law_246 rfl 5 rfl ?_
    refine jk_iload K dL_law_247 1 rfl ?_
    refine jk_iconst (x := 3) K dL_law_249 rfl ?_
    refine jk_iadd K dL_law_250 ?_
    refine jk_xld (v := xs (4 * j + 3)) K XL dL_law_251 (lw_i hj hL (c := 3) (by decide)).1 (congrArg xs (lw_i hj hL (c := 3) (by decide)).2) ?_
    refine jk_cVi K (n' := (nn + 4)) (k' := (ks + 24)) [.int (xs (4 * j + 1)), .int (xs (4 * j + 2)), .int (xs (4 * j + 3))] [] dL_law_252 (hb_X3_addHill _ hl E (hb_v1 E q b1 b2 [hb_o E ao (vp_updL O 0 (Int32.toInt64 (nI n)))] (va_up C n (hb_fu (hb_fu (hb_fu (C n) 0 (xs (4 * j + 1))) 1 (xs (4 * j + 2))) 2 (xs (4 * j + 3)))) (hb_fu G 0 (nI (n + 1))) M C2 G2 M2) [] m th S N a n R.1 (xs (4 * j + 1)) (xs (4 * j + 2)) (xs (4 * j + 3))) gL_law_X3_addHill rfl kd_X3_addHill ⟨Nat.le_of_ble_eq_true rfl, Nat.le_of_ble_eq_true rfl⟩ _ hm_x0 rfl (Nat.le_of_ble_eq_true rfl) ⟨rfl, rfl⟩ ⟨(by show _ ≤ 601024; omega), (by show _ ≤ 7293034; omega)⟩ rfl (fun v hv => ?_)
    obtain ⟨e1, e2, R2, e3⟩ := lp_addHill_ok (C2 := C2) (G2 := G2) (M2 := M2) R hu hv
    refine jk_ws (ws' := (lw_w E q b1 b2 ao m (vp_updL O 0 (Int32.toInt64 (nI n))) (va_up C n (hb_fu (hb_fu (hb_fu (C n) 0 (xs (4 * j + 1))) 1 (xs (4 * j + 2))) 2 (xs (4 * j + 3)))) (hb_fu G 0 (nI (n + 1))) M C2 G2 M2 v.1 (n + 1) S v.2.2.2.1 (va_up a 2 v.2.2.2.2))) (by rw [e3]) ?_
    refine jk_st (st' := [.int (nI n)]) (by rw [e2]) ?_
    refine jk_istore (lv' := [(6, .int (nI n)), (5, .int 0), (4, .int (nI (4 * j))), (3, .ref ao), (2, .ref (m 0)), (1, .ref q), (0, .ref sb)]) K dL_law_255 (by decide) rfl ?_
    refine jk_aload_n K dL_law_257 rfl 4 rfl ?_
    refine jk_cVi K (n' := (nn + 4)) (k' := (ks + 24)) [] [] dL_law_258 (hb_X3_thrown _ hl E (hb_v1 E q b1 b2 [hb_o E ao (vp_updL O 0 (Int32.toInt64 (nI n)))] (va_up C n (hb_fu (hb_fu (hb_fu (C n) 0 (xs (4 * j + 1))) 1 (xs (4 * j + 2))) 2 (xs (4 * j + 3)))) (hb_fu G 0 (nI (n + 1))) M C2 G2 M2) [] m v.1 S v.2.2.2.1 (va_up a 2 v.2.2.2.2) (n + 1) R2.1) gL_law_X3_thrown rfl kd_X3_thrown ⟨Nat.le_of_ble_eq_true rfl, Nat.le_of_ble_eq_true rfl⟩ _ hm_x0 rfl (Nat.le_of_ble_eq_true rfl) ⟨rfl, rfl⟩ ⟨(by show _ ≤ 601024; omega), (by show _ ≤ 7293034; omega)⟩ rfl (fun _ _ => ?_)
    refine jk_st (st' := [.int 0]) (by rw [e1]) ?_
    refine jk_iload K dL_law_261 1 rfl ?_
    refine jk_icmp_eq (tgt := 268) K dL_law_263 rfl (fun c_263 => ?_) (fun c_263 => ?_)
    · refine jk_iload K dL_law_268 1 rfl ?_
      refine jk_if_ne (tgt := 285) K dL_law_270 rfl (fun c_270 => ?_) (fun c_270 => ?_)
      · exact absurd (by decide) c_270
      · refine jk_aload_n K dL_law_273 rfl 3 rfl ?_
        refine jk_iconst (x := 0) K dL_law_274 rfl ?_
        refine jk_lald (v := (Int32.toInt64 (nI n))) K dL_law_275 29 lw_out (vp_in_nI (n := 0) (by decide) (by decide)) (by rw [show Int32.toNatClampNeg 0 = 0 from by decide]; exact if_pos rfl) ?_
        refine jk_iload K dL_law_276 0 rfl ?_
        refine jk_i2l K dL_law_278 ?_
        refine jk_lcmp K dL_law_279 ?_
        refine jk_st (st' := [.int 0]) (by rw [lg_self]) ?_
        refine jk_if_eq (tgt := 285) K dL_law_280 rfl (fun c_280 => ?_) (fun c_280 => ?_)
        · refine jk_goto (tgt := 2155) K dL_law_285 rfl ?_
          refine jk_sub (lv' := [(4, .int (nI (4 * j))), (3, .ref ao), (2, .ref (m 0)), (1, .ref q), (0, .ref sb)]) [2, 3, 4, 5, 6] rfl ?_
          refine jk_wide (n' := nn + 11) (k' := ks + 117) (by omega) (by omega) ?_
          exact kk _ _ _ _ _ _ _ _ _ _ _ _ R2
        · exact absurd (by decide) c_280
    · exact absurd (by decide) c_263
  · refine jk_ws (ws' := (lw_w E q b1 b2 ao m O C G M C2 G2 M2 th n S N a)) lw_eq ?_
    refine jk_st (st' := [.int k]) rfl ?_
    refine jk_istore (lv' := [(5, .int k), (4, .int (nI (4 * j))), (3, .ref ao), (2, .ref (m 0)), (1, .ref q), (0, .ref sb)]) K dL_law_231 (by decide) rfl ?_
    refine jk_aload_n K dL_law_233 rfl 3 rfl ?_
    refine jk_aload_n K dL_law_234 rfl 5 rfl ?_
    refine jk_iload K dL_law_235 1 rfl ?_
    refine jk_iconst (x := 1) K dL_law_237 rfl ?_
    refine jk_iadd K dL_law_238 ?_
    refine jk_xld (v := xs (4 * j + 1)) K XL dL_law_239 (lw_i hj hL (c := 1) (by decide)).1 (congrArg xs (lw_i hj hL (c := 1) (by decide)).2) ?_
    refine jk_aload_n K dL_law_240 rfl 5 rfl ?_
    refine jk_iload K dL_law_241 1 rfl ?_
    refine jk_iconst (x := 2) K dL_law_243 rfl ?_
    refine jk_iadd K dL_law_244 ?_
    refine jk_xld (v := xs (4 * j + 2)) K XL dL_law_245 (lw_i hj hL (c := 2) (by decide)).1 (congrArg xs (lw_i hj hL (c := 2) (by decide)).2) ?_
    refine jk_aload_n K dL_law_246 rfl 5 rfl ?_
    refine jk_iload K dL_law_247 1 rfl ?_
    refine jk_iconst (x := 3) K dL_law_249 rfl ?_
    refine jk_iadd K dL_law_250 ?_
    refine jk_xld (v := xs (4 * j + 3)) K XL dL_law_251 (lw_i hj hL (c := 3) (by decide)).1 (congrArg xs (lw_i hj hL (c := 3) (by decide)).2) ?_
    refine jk_cVi K (n' := (nn + 4)) (k' := (ks + 24)) [.int (xs (4 * j + 1)), .int (xs (4 * j + 2)), .int (xs (4 * j + 3))] [] dL_law_252 (hb_X3_addHill _ hl E (hb_v1 E q b1 b2 [hb_o E ao O] C G M C2 G2 M2) [] m th S N a n R.1 (xs (4 * j + 1)) (xs (4 * j + 2)) (xs (4 * j + 3))) gL_law_X3_addHill rfl kd_X3_addHill ⟨Nat.le_of_ble_eq_true rfl, Nat.le_of_ble_eq_true rfl⟩ _ hm_x0 rfl (Nat.le_of_ble_eq_true rfl) ⟨rfl, rfl⟩ ⟨(by show _ ≤ 601024; omega), (by show _ ≤ 7293034; omega)⟩ rfl (fun v hv => ?_)
    obtain ⟨e1, ek, R2, e3⟩ := lp_addHill_no R hu hv
    refine jk_ws (ws' := (lw_w E q b1 b2 ao m O C G M C2 G2 M2 v.1 n S v.2.2.2.1 (va_up a 2 v.2.2.2.2))) (by rw [e3]) ?_
    refine jk_st (st' := [.int v.2.1]) rfl ?_
    refine jk_istore (lv' := [(6, .int v.2.1), (5, .int k), (4, .int (nI (4 * j))), (3, .ref ao), (2, .ref (m 0)), (1, .ref q), (0, .ref sb)]) K dL_law_255 (by decide) rfl ?_
    refine jk_aload_n K dL_law_257 rfl 4 rfl ?_
    refine jk_cVi K (n' := (nn + 4)) (k' := (ks + 24)) [] [] dL_law_258 (hb_X3_thrown _ hl E (hb_v1 E q b1 b2 [hb_o E ao O] C G M C2 G2 M2) [] m v.1 S v.2.2.2.1 (va_up a 2 v.2.2.2.2) n R2.1) gL_law_X3_thrown rfl kd_X3_thrown ⟨Nat.le_of_ble_eq_true rfl, Nat.le_of_ble_eq_true rfl⟩ _ hm_x0 rfl (Nat.le_of_ble_eq_true rfl) ⟨rfl, rfl⟩ ⟨(by show _ ≤ 601024; omega), (by show _ ≤ 7293034; omega)⟩ rfl (fun _ _ => ?_)
    refine jk_st (st' := [.int k]) (by rw [e1]) ?_
    refine jk_iload K dL_law_261 1 rfl ?_
    refine jk_icmp_eq (tgt := 268) K dL_law_263 rfl (fun c_263 => ?_) (fun c_263 => ?_)
    · refine jk_iload K dL_law_268 1 rfl ?_
      refine jk_if_ne (tgt := 285) K dL_law_270 rfl (fun c_270 => ?_) (fun c_270 => ?_)
      · refine jk_goto (tgt := 2155) K dL_law_285 rfl ?_
        refine jk_sub (lv' := [(4, .int (nI (4 * j))), (3, .ref ao), (2, .ref (m 0)), (1, .ref q), (0, .ref sb)]) [2, 3, 4, 5, 6] rfl ?_
        refine jk_wide (n' := nn + 11) (k' := ks + 117) (by omega) (by omega) ?_
        exact kk _ _ _ _ _ _ _ _ _ _ _ _ R2
      · exact absurd c_270 ek
    · exact absurd rfl c_263
set_option maxHeartbeats 4000000 in
set_option maxRecDepth 100000 in
theorem lw_c2 {Γ : jk_G} {E : jk_T} (K : jk_C Γ E RL cL_law 9 wsL_law ({ frames := 13, cells := 601024, slots := 7293034, locals := 468 } : Room)) {sb L : Nat} {xs : Nat → Int32} (XL : jk_LX Γ sb L xs) (hL : L ≤ 2048) {j : Nat} (hj : 4 * j + 3 < L) {nn ks : Nat} (hnn : nn + 11 ≤ 601024) (hks : ks + 117 ≤ 7293034) {q : Nat} {b1 b2 : Nat → Nat} {ao : Nat} {m : Nat → Nat} {O : Nat → Int64} {C : Nat → Nat → Int32} {G M : Nat → Int32} {C2 : Nat → Nat → Int32} {G2 M2 : Nat → Int32} {th : Int32} {n : Nat} {S : Nat → Int32} {N a : Nat → Nat → Int32} (R : hm_R n C G M S N a) (kk : ∀ (O : Nat → Int64) (C : Nat → Nat → Int32) (G M : Nat → Int32) (C2 : Nat → Nat → Int32) (G2 M2 : Nat → Int32) (th : Int32) (n : Nat) (S : Nat → Int32) (N a : Nat → Nat → Int32), hm_R n C G M S N a → jk_J Γ E (lw_w E q b1 b2 ao m O C G M C2 G2 M2 th n S N a) (nn + 11) (ks + 117) 2155 [(4, .int (nI (4 * j))), (3, .ref ao), (2, .ref (m 0)), (1, .ref q), (0, .ref sb)] []) : jk_J Γ E (lw_w E q b1 b2 ao m O C G M C2 G2 M2 th n S N a) nn ks 368 [(4, .int (nI (4 * j))), (3, .ref ao), (2, .ref (m 0)), (1, .ref q), (0, .ref sb)] [] := by
  have hl := K.2.2.2.2.2.2.2.2.2.2
  refine jk_aload_n K dL_law_368 rfl 3 rfl ?_
  refine jk_aload_n K dL_law_369 rfl 4 rfl ?_
  refine jk_iload K dL_law_370 0 rfl ?_
  refine jk_iconst (x := 1) K dL_law_372 rfl ?_
  refine jk_iadd K dL_law_373 ?_
  refine jk_xld (v := xs (4 * j + 1)) K XL dL_law_374 (lw_i hj hL (c := 1) (by decide)).1 (congrArg xs (lw_i hj hL (c := 1) (by decide)).2) ?_
  refine jk_aload_n K dL_law_375 rfl 1 rfl ?_
  refine jk_ws (ws' := (hb_v1 E q b1 b2 (hb_o E ao O :: (hm_MW E m th (nI n) S N a ++ [])) C G M C2 G2 M2)) lw_eq.symm ?_
  refine jk_cSiH K (n' := (nn + 1)) (k' := (ks + 6)) [.ref q, .int (xs (4 * j + 1)), .ref ao] [] dL_law_376 (hb_L_turnEast _ hl E q b1 b2 ao O (hm_MW E m th (nI n) S N a ++ []) C G M C2 G2 M2 n R.1 R.2.2.1.1 (xs (4 * j + 1))) gL_law_L_turnEast rfl kd_L_turnEast ⟨Nat.le_of_ble_eq_true rfl, Nat.le_of_ble_eq_true rfl⟩ (Nat.le_of_ble_eq_true rfl) ⟨rfl, rfl⟩ ⟨(by show _ ≤ 601024; omega), (by show _ ≤ 7293034; omega)⟩ rfl (fun u hu => ?_)
  rcases u with u | k
  · refine jk_ws (ws' := (lw_w E q b1 b2 ao m (vp_updL O 0 (if (hb_neg (C u 3) : Int32) = 0 then (0 : Int64) else 1)) (va_up C u (hb_fu (C u) 3 (hb_neg (C u 3)))) G M C2 G2 M2 th n S N a)) lw_eq ?_
    refine jk_st (st' := [.int 0]) rfl ?_
    refine jk_istore (lv' := [(5, .int 0), (4, .int (nI (4 * j))), (3, .ref ao), (2, .ref (m 0)), (1, .ref q), (0, .ref sb)]) K dL_law_379 (by decide) rfl ?_
    refine jk_aload_n K dL_law_381 rfl 3 rfl ?_
    refine jk_aload_n K dL_law_382 rfl 5 rfl ?_
    refine jk_iload K dL_law_383 1 rfl ?_
    refine jk_iconst (x := 1) K dL_law_385 rfl ?_
    refine jk_iadd K dL_law_386 ?_
    refine jk_xld (v := xs (4 * j + 1)) K XL dL_law_387 (lw_i hj hL (c := 1) (by decide)).1 (congrArg xs (lw_i hj hL (c := 1) (by decide)).2) ?_
    refine jk_cVi K (n' := (nn + 1)) (k' := (ks + 6)) [.int (xs (4 * j + 1))] [] dL_law_388 (hb_X3_turnEast _ hl E (hb_v1 E q b1 b2 [hb_o E ao (vp_updL O 0 (if (hb_neg (C u 3) : Int32) = 0 then (0 : Int64) else 1))] (va_up C u (hb_fu (C u) 3 (hb_neg (C u 3)))) G M C2 G2 M2) [] m th S N a n R.1 (xs (4 * j + 1))) gL_law_X3_turnEast rfl kd_X3_turnEast ⟨Nat.le_of_ble_eq_true rfl, Nat.le_of_ble_eq_true rfl⟩ _ hm_x0 rfl (Nat.le_of_ble_eq_true rfl) ⟨rfl, rfl⟩ ⟨(by show _ ≤ 601024; omega), (by show _ ≤ 7293034; omega)⟩ rfl (fun v hv => ?_)
    obtain ⟨e1, e2, R2⟩ := lp_turnEast_ok (C2 := C2) (G2 := G2) (M2 := M2) R hu hv
    refine jk_ws (ws' := (lw_w E q b1 b2 ao m (vp_updL O 0 (if (hb_neg (C u 3) : Int32) = 0 then (0 : Int64) else 1)) (va_up C u (hb_fu (C u) 3 (hb_neg (C u 3)))) G M C2 G2 M2 v.1 n S N (va_up a 3 v.2.2))) rfl ?_
    refine jk_st (st' := [.int (hb_neg (C u 3))]) (by rw [e2]) ?_
    refine jk_istore (lv' := [(6, .int (hb_neg (C u 3))), (5, .int 0), (4, .int (nI (4 * j))), (3, .ref ao), (2, .ref (m 0)), (1, .ref q), (0, .ref sb)]) K dL_law_391 (by decide) rfl ?_
    refine jk_aload_n K dL_law_393 rfl 4 rfl ?_
    refine jk_cVi K (n' := (nn + 1)) (k' := (ks + 6)) [] [] dL_law_394 (hb_X3_thrown _ hl E (hb_v1 E q b1 b2 [hb_o E ao (vp_updL O 0 (if (hb_neg (C u 3) : Int32) = 0 then (0 : Int64) else 1))] (va_up C u (hb_fu (C u) 3 (hb_neg (C u 3)))) G M C2 G2 M2) [] m v.1 S N (va_up a 3 v.2.2) n R2.1) gL_law_X3_thrown rfl kd_X3_thrown ⟨Nat.le_of_ble_eq_true rfl, Nat.le_of_ble_eq_true rfl⟩ _ hm_x0 rfl (Nat.le_of_ble_eq_true rfl) ⟨rfl, rfl⟩ ⟨(by show _ ≤ 601024; omega), (by show _ ≤ 7293034; omega)⟩ rfl (fun _ _ => ?_)
    refine jk_st (st' := [.int 0]) (by rw [e1]) ?_
    refine jk_iload K dL_law_397 1 rfl ?_
    refine jk_icmp_eq (tgt := 404) K dL_law_399 rfl (fun c_399 => ?_) (fun c_399 => ?_)
    · refine jk_iload K dL_law_404 1 rfl ?_
      refine jk_if_ne (tgt := 428) K dL_law_406 rfl (fun c_406 => ?_) (fun c_406 => ?_)
      · exact absurd (by decide) c_406
      · refine jk_aload_n K dL_law_409 rfl 3 rfl ?_
        refine jk_iconst (x := 0) K dL_law_410 rfl ?_
        refine jk_lald (v := (if (hb_neg (C u 3) : Int32) = 0 then (0 : Int64) else 1)) K dL_law_411 29 lw_out (vp_in_nI (n := 0) (by decide) (by decide)) (by rw [show Int32.toNatClampNeg 0 = 0 from by decide]; exact if_pos rfl) ?_
        refine jk_iload K dL_law_412 0 rfl ?_
        refine jk_if_eq (tgt := 421) K dL_law_414 rfl (fun c_414 => ?_) (fun c_414 => ?_)
        · refine jk_lconst (x := 0) K dL_law_421 rfl ?_
          refine jk_lcmp K dL_law_422 ?_
          refine jk_st (st' := [.int 0]) (by rw [if_pos c_414, lg_self]) ?_
          refine jk_if_eq (tgt := 428) K dL_law_423 rfl (fun c_423 => ?_) (fun c_423 => ?_)
          · refine jk_goto (tgt := 2155) K dL_law_428 rfl ?_
            refine jk_sub (lv' := [(4, .int (nI (4 * j))), (3, .ref ao), (2, .ref (m 0)), (1, .ref q), (0, .ref sb)]) [2, 3, 4, 5, 6] rfl ?_
            refine jk_wide (n' := nn + 11) (k' := ks + 117) (by omega) (by omega) ?_
            exact kk _ _ _ _ _ _ _ _ _ _ _ _ R2
          · exact absurd (by decide) c_423
        · refine jk_lconst (x := 1) K dL_law_417 rfl ?_
          refine jk_goto (tgt := 422) K dL_law_418 rfl ?_
          refine jk_lcmp K dL_law_422 ?_
          refine jk_st (st' := [.int 0]) (by rw [if_neg c_414, lg_self]) ?_
          refine jk_if_eq (tgt := 428) K dL_law_423 rfl (fun c_423 => ?_) (fun c_423 => ?_)
          · refine jk_goto (tgt := 2155) K dL_law_428 rfl ?_
            refine jk_sub (lv' := [(4, .int (nI (4 * j))), (3, .ref ao), (2, .ref (m 0)), (1, .ref q), (0, .ref sb)]) [2, 3, 4, 5, 6] rfl ?_
            refine jk_wide (n' := nn + 11) (k' := ks + 117) (by omega) (by omega) ?_
            exact kk _ _ _ _ _ _ _ _ _ _ _ _ R2
          · exact absurd (by decide) c_423
    · exact absurd (by decide) c_399
  · refine jk_ws (ws' := (lw_w E q b1 b2 ao m O C G M C2 G2 M2 th n S N a)) lw_eq ?_
    refine jk_st (st' := [.int k]) rfl ?_
    refine jk_istore (lv' := [(5, .int k), (4, .int (nI (4 * j))), (3, .ref ao), (2, .ref (m 0)), (1, .ref q), (0, .ref sb)]) K dL_law_379 (by decide) rfl ?_
    refine jk_aload_n K dL_law_381 rfl 3 rfl ?_
    refine jk_aload_n K dL_law_382 rfl 5 rfl ?_
    refine jk_iload K dL_law_383 1 rfl ?_
    refine jk_iconst (x := 1) K dL_law_385 rfl ?_
    refine jk_iadd K dL_law_386 ?_
    refine jk_xld (v := xs (4 * j + 1)) K XL dL_law_387 (lw_i hj hL (c := 1) (by decide)).1 (congrArg xs (lw_i hj hL (c := 1) (by decide)).2) ?_
    refine jk_cVi K (n' := (nn + 1)) (k' := (ks + 6)) [.int (xs (4 * j + 1))] [] dL_law_388 (hb_X3_turnEast _ hl E (hb_v1 E q b1 b2 [hb_o E ao O] C G M C2 G2 M2) [] m th S N a n R.1 (xs (4 * j + 1))) gL_law_X3_turnEast rfl kd_X3_turnEast ⟨Nat.le_of_ble_eq_true rfl, Nat.le_of_ble_eq_true rfl⟩ _ hm_x0 rfl (Nat.le_of_ble_eq_true rfl) ⟨rfl, rfl⟩ ⟨(by show _ ≤ 601024; omega), (by show _ ≤ 7293034; omega)⟩ rfl (fun v hv => ?_)
    obtain ⟨e1, ek, R2⟩ := lp_turnEast_no R hu hv
    refine jk_ws (ws' := (lw_w E q b1 b2 ao m O C G M C2 G2 M2 v.1 n S N (va_up a 3 v.2.2))) rfl ?_
    refine jk_st (st' := [.int v.2.1]) rfl ?_
    refine jk_istore (lv' := [(6, .int v.2.1), (5, .int k), (4, .int (nI (4 * j))), (3, .ref ao), (2, .ref (m 0)), (1, .ref q), (0, .ref sb)]) K dL_law_391 (by decide) rfl ?_
    refine jk_aload_n K dL_law_393 rfl 4 rfl ?_
    refine jk_cVi K (n' := (nn + 1)) (k' := (ks + 6)) [] [] dL_law_394 (hb_X3_thrown _ hl E (hb_v1 E q b1 b2 [hb_o E ao O] C G M C2 G2 M2) [] m v.1 S N (va_up a 3 v.2.2) n R2.1) gL_law_X3_thrown rfl kd_X3_thrown ⟨Nat.le_of_ble_eq_true rfl, Nat.le_of_ble_eq_true rfl⟩ _ hm_x0 rfl (Nat.le_of_ble_eq_true rfl) ⟨rfl, rfl⟩ ⟨(by show _ ≤ 601024; omega), (by show _ ≤ 7293034; omega)⟩ rfl (fun _ _ => ?_)
    refine jk_st (st' := [.int k]) (by rw [e1]) ?_
    refine jk_iload K dL_law_397 1 rfl ?_
    refine jk_icmp_eq (tgt := 404) K dL_law_399 rfl (fun c_399 => ?_) (fun c_399 => ?_)
    · refine jk_iload K dL_law_404 1 rfl ?_
      refine jk_if_ne (tgt := 428) K dL_law_406 rfl (fun c_406 => ?_) (fun c_406 => ?_)
      · refine jk_goto (tgt := 2155) K dL_law_428 rfl ?_
        refine jk_sub (lv' := [(4, .int (nI (4 * j))), (3, .ref ao), (2, .ref (m 0)), (1, .ref q), (0, .ref sb)]) [2, 3, 4, 5, 6] rfl ?_
        refine jk_wide (n' := nn + 11) (k' := ks + 117) (by omega) (by omega) ?_
        exact kk _ _ _ _ _ _ _ _ _ _ _ _ R2
      · exact absurd c_406 ek
    · exact absurd rfl c_399
