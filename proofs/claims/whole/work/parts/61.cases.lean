theorem kd_X2_bestHill : yX2_bestHill.cls = RX2 ∧ yX2_bestHill.cls ≠ "java/lang/invoke/MethodHandle" ∧ yX2_bestHill.cls ≠ "java/lang/invoke/VarHandle" ∧ (parseMethodDescriptor yX2_bestHill.desc).map (fun d => d.parameters.length) = some 0 := by decide +kernel
theorem kd_X2_burningHills : yX2_burningHills.cls = RX2 ∧ yX2_burningHills.cls ≠ "java/lang/invoke/MethodHandle" ∧ yX2_burningHills.cls ≠ "java/lang/invoke/VarHandle" ∧ (parseMethodDescriptor yX2_burningHills.desc).map (fun d => d.parameters.length) = some 0 := by decide +kernel
theorem kd_X2_digest : yX2_digest.cls = RX2 ∧ yX2_digest.cls ≠ "java/lang/invoke/MethodHandle" ∧ yX2_digest.cls ≠ "java/lang/invoke/VarHandle" ∧ (parseMethodDescriptor yX2_digest.desc).map (fun d => d.parameters.length) = some 0 := by decide +kernel
theorem kd_X2_glowLeft : yX2_glowLeft.cls = RX2 ∧ yX2_glowLeft.cls ≠ "java/lang/invoke/MethodHandle" ∧ yX2_glowLeft.cls ≠ "java/lang/invoke/VarHandle" ∧ (parseMethodDescriptor yX2_glowLeft.desc).map (fun d => d.parameters.length) = some 0 := by decide +kernel
theorem kd_X2_haze : yX2_haze.cls = RX2 ∧ yX2_haze.cls ≠ "java/lang/invoke/MethodHandle" ∧ yX2_haze.cls ≠ "java/lang/invoke/VarHandle" ∧ (parseMethodDescriptor yX2_haze.desc).map (fun d => d.parameters.length) = some 0 := by decide +kernel
theorem kd_X2_hills : yX2_hills.cls = RX2 ∧ yX2_hills.cls ≠ "java/lang/invoke/MethodHandle" ∧ yX2_hills.cls ≠ "java/lang/invoke/VarHandle" ∧ (parseMethodDescriptor yX2_hills.desc).map (fun d => d.parameters.length) = some 0 := by decide +kernel
theorem kd_X2_meanWood : yX2_meanWood.cls = RX2 ∧ yX2_meanWood.cls ≠ "java/lang/invoke/MethodHandle" ∧ yX2_meanWood.cls ≠ "java/lang/invoke/VarHandle" ∧ (parseMethodDescriptor yX2_meanWood.desc).map (fun d => d.parameters.length) = some 0 := by decide +kernel
theorem kd_X2_minute : yX2_minute.cls = RX2 ∧ yX2_minute.cls ≠ "java/lang/invoke/MethodHandle" ∧ yX2_minute.cls ≠ "java/lang/invoke/VarHandle" ∧ (parseMethodDescriptor yX2_minute.desc).map (fun d => d.parameters.length) = some 0 := by decide +kernel
theorem kd_X2_timesLit : yX2_timesLit.cls = RX2 ∧ yX2_timesLit.cls ≠ "java/lang/invoke/MethodHandle" ∧ yX2_timesLit.cls ≠ "java/lang/invoke/VarHandle" ∧ (parseMethodDescriptor yX2_timesLit.desc).map (fun d => d.parameters.length) = some 0 := by decide +kernel
theorem kd_X2_timesMistaken : yX2_timesMistaken.cls = RX2 ∧ yX2_timesMistaken.cls ≠ "java/lang/invoke/MethodHandle" ∧ yX2_timesMistaken.cls ≠ "java/lang/invoke/VarHandle" ∧ (parseMethodDescriptor yX2_timesMistaken.desc).map (fun d => d.parameters.length) = some 0 := by decide +kernel
theorem kd_X3_bestHill : yX3_bestHill.cls = RX3 ∧ yX3_bestHill.cls ≠ "java/lang/invoke/MethodHandle" ∧ yX3_bestHill.cls ≠ "java/lang/invoke/VarHandle" ∧ (parseMethodDescriptor yX3_bestHill.desc).map (fun d => d.parameters.length) = some 0 := by decide +kernel
theorem kd_X3_burningHills : yX3_burningHills.cls = RX3 ∧ yX3_burningHills.cls ≠ "java/lang/invoke/MethodHandle" ∧ yX3_burningHills.cls ≠ "java/lang/invoke/VarHandle" ∧ (parseMethodDescriptor yX3_burningHills.desc).map (fun d => d.parameters.length) = some 0 := by decide +kernel
theorem kd_X3_digest : yX3_digest.cls = RX3 ∧ yX3_digest.cls ≠ "java/lang/invoke/MethodHandle" ∧ yX3_digest.cls ≠ "java/lang/invoke/VarHandle" ∧ (parseMethodDescriptor yX3_digest.desc).map (fun d => d.parameters.length) = some 0 := by decide +kernel
theorem kd_X3_glowLeft : yX3_glowLeft.cls = RX3 ∧ yX3_glowLeft.cls ≠ "java/lang/invoke/MethodHandle" ∧ yX3_glowLeft.cls ≠ "java/lang/invoke/VarHandle" ∧ (parseMethodDescriptor yX3_glowLeft.desc).map (fun d => d.parameters.length) = some 0 := by decide +kernel
theorem kd_X3_haze : yX3_haze.cls = RX3 ∧ yX3_haze.cls ≠ "java/lang/invoke/MethodHandle" ∧ yX3_haze.cls ≠ "java/lang/invoke/VarHandle" ∧ (parseMethodDescriptor yX3_haze.desc).map (fun d => d.parameters.length) = some 0 := by decide +kernel
theorem kd_X3_hills : yX3_hills.cls = RX3 ∧ yX3_hills.cls ≠ "java/lang/invoke/MethodHandle" ∧ yX3_hills.cls ≠ "java/lang/invoke/VarHandle" ∧ (parseMethodDescriptor yX3_hills.desc).map (fun d => d.parameters.length) = some 0 := by decide +kernel
theorem kd_X3_meanWood : yX3_meanWood.cls = RX3 ∧ yX3_meanWood.cls ≠ "java/lang/invoke/MethodHandle" ∧ yX3_meanWood.cls ≠ "java/lang/invoke/VarHandle" ∧ (parseMethodDescriptor yX3_meanWood.desc).map (fun d => d.parameters.length) = some 0 := by decide +kernel
theorem kd_X3_minute : yX3_minute.cls = RX3 ∧ yX3_minute.cls ≠ "java/lang/invoke/MethodHandle" ∧ yX3_minute.cls ≠ "java/lang/invoke/VarHandle" ∧ (parseMethodDescriptor yX3_minute.desc).map (fun d => d.parameters.length) = some 0 := by decide +kernel
theorem kd_X3_timesLit : yX3_timesLit.cls = RX3 ∧ yX3_timesLit.cls ≠ "java/lang/invoke/MethodHandle" ∧ yX3_timesLit.cls ≠ "java/lang/invoke/VarHandle" ∧ (parseMethodDescriptor yX3_timesLit.desc).map (fun d => d.parameters.length) = some 0 := by decide +kernel
theorem kd_X3_timesMistaken : yX3_timesMistaken.cls = RX3 ∧ yX3_timesMistaken.cls ≠ "java/lang/invoke/MethodHandle" ∧ yX3_timesMistaken.cls ≠ "java/lang/invoke/VarHandle" ∧ (parseMethodDescriptor yX3_timesMistaken.desc).map (fun d => d.parameters.length) = some 0 := by decide +kernel
set_option maxHeartbeats 4000000 in
set_option maxRecDepth 100000 in
theorem lw_c26 {Γ : jk_G} {E : jk_T} (K : jk_C Γ E RL cL_law 9 wsL_law ({ frames := 13, cells := 601024, slots := 7293034, locals := 468 } : Room)) {sb L : Nat} {xs : Nat → Int32} (XL : jk_LX Γ sb L xs) (hL : L ≤ 2048) {j : Nat} (hj : 4 * j + 3 < L) {nn ks : Nat} (hnn : nn + 11 ≤ 601024) (hks : ks + 117 ≤ 7293034) {q : Nat} {b1 b2 : Nat → Nat} {ao : Nat} {m : Nat → Nat} {O : Nat → Int64} {C : Nat → Nat → Int32} {G M : Nat → Int32} {C2 : Nat → Nat → Int32} {G2 M2 : Nat → Int32} {th : Int32} {n : Nat} {S : Nat → Int32} {N a : Nat → Nat → Int32} (R : hm_R n C G M S N a) (kk : ∀ (O : Nat → Int64) (C : Nat → Nat → Int32) (G M : Nat → Int32) (C2 : Nat → Nat → Int32) (G2 M2 : Nat → Int32) (th : Int32) (n : Nat) (S : Nat → Int32) (N a : Nat → Nat → Int32), hm_R n C G M S N a → jk_J Γ E (lw_w E q b1 b2 ao m O C G M C2 G2 M2 th n S N a) (nn + 11) (ks + 117) 2155 [(4, .int (nI (4 * j))), (3, .ref ao), (2, .ref (m 0)), (1, .ref q), (0, .ref sb)] []) : jk_J Γ E (lw_w E q b1 b2 ao m O C G M C2 G2 M2 th n S N a) nn ks 1828 [(4, .int (nI (4 * j))), (3, .ref ao), (2, .ref (m 0)), (1, .ref q), (0, .ref sb)] [] := by
  have hl := K.2.2.2.2.2.2.2.2.2.2
  refine jk_aload_n K dL_law_1828 rfl 3 rfl ?_
  refine jk_ws (ws' := (hb_v1 E q b1 b2 (hb_o E ao O :: (hm_MW E m th (nI n) S N a ++ [])) C G M C2 G2 M2)) lw_eq.symm ?_
  refine jk_cVi K (n' := nn) (k' := ks) [] [] dL_law_1829 (hb_X2_hills _ hl E q b1 b2 (hb_o E ao O :: (hm_MW E m th (nI n) S N a ++ [])) C G M C2 G2 M2) gL_law_X2_hills rfl kd_X2_hills ⟨Nat.le_of_ble_eq_true rfl, Nat.le_of_ble_eq_true rfl⟩ 0 hb_ob0 rfl (Nat.le_of_ble_eq_true rfl) ⟨rfl, rfl⟩ ⟨(by show _ ≤ 601024; omega), (by show _ ≤ 7293034; omega)⟩ rfl (fun _ _ => ?_)
  refine jk_ws (ws' := (lw_w E q b1 b2 ao m O C G M C2 G2 M2 th n S N a)) lw_eq ?_
  refine jk_aload_n K dL_law_1832 rfl 2 rfl ?_
  refine jk_cVi K (n' := nn) (k' := ks) [] [.int (G 0)] dL_law_1833 (hb_X3_hills _ hl E (hb_v1 E q b1 b2 [hb_o E ao O] C G M C2 G2 M2) [] m th S N a n R.1) gL_law_X3_hills rfl kd_X3_hills ⟨Nat.le_of_ble_eq_true rfl, Nat.le_of_ble_eq_true rfl⟩ _ hm_x0 rfl (Nat.le_of_ble_eq_true rfl) ⟨rfl, rfl⟩ ⟨(by show _ ≤ 601024; omega), (by show _ ≤ 7293034; omega)⟩ rfl (fun _ _ => ?_)
  refine jk_ws (ws' := (lw_w E q b1 b2 ao m O C G M C2 G2 M2 0 n S N a)) rfl ?_
  refine jk_icmp_eq (tgt := 2155) K dL_law_1836 rfl (fun c_1836 => ?_) (fun c_1836 => ?_)
  · refine jk_wide (n' := nn + 11) (k' := ks + 117) (by omega) (by omega) ?_
    exact kk _ _ _ _ _ _ _ _ _ _ _ _ R
  · exact absurd (R.2.2.1.1) c_1836
set_option maxHeartbeats 4000000 in
set_option maxRecDepth 100000 in
theorem lw_c27 {Γ : jk_G} {E : jk_T} (K : jk_C Γ E RL cL_law 9 wsL_law ({ frames := 13, cells := 601024, slots := 7293034, locals := 468 } : Room)) {sb L : Nat} {xs : Nat → Int32} (XL : jk_LX Γ sb L xs) (hL : L ≤ 2048) {j : Nat} (hj : 4 * j + 3 < L) {nn ks : Nat} (hnn : nn + 11 ≤ 601024) (hks : ks + 117 ≤ 7293034) {q : Nat} {b1 b2 : Nat → Nat} {ao : Nat} {m : Nat → Nat} {O : Nat → Int64} {C : Nat → Nat → Int32} {G M : Nat → Int32} {C2 : Nat → Nat → Int32} {G2 M2 : Nat → Int32} {th : Int32} {n : Nat} {S : Nat → Int32} {N a : Nat → Nat → Int32} (R : hm_R n C G M S N a) (kk : ∀ (O : Nat → Int64) (C : Nat → Nat → Int32) (G M : Nat → Int32) (C2 : Nat → Nat → Int32) (G2 M2 : Nat → Int32) (th : Int32) (n : Nat) (S : Nat → Int32) (N a : Nat → Nat → Int32), hm_R n C G M S N a → jk_J Γ E (lw_w E q b1 b2 ao m O C G M C2 G2 M2 th n S N a) (nn + 11) (ks + 117) 2155 [(4, .int (nI (4 * j))), (3, .ref ao), (2, .ref (m 0)), (1, .ref q), (0, .ref sb)] []) : jk_J Γ E (lw_w E q b1 b2 ao m O C G M C2 G2 M2 th n S N a) nn ks 1841 [(4, .int (nI (4 * j))), (3, .ref ao), (2, .ref (m 0)), (1, .ref q), (0, .ref sb)] [] := by
  have hl := K.2.2.2.2.2.2.2.2.2.2
  refine jk_aload_n K dL_law_1841 rfl 3 rfl ?_
  refine jk_ws (ws' := (hb_v1 E q b1 b2 (hb_o E ao O :: (hm_MW E m th (nI n) S N a ++ [])) C G M C2 G2 M2)) lw_eq.symm ?_
  refine jk_cVi K (n' := nn) (k' := ks) [] [] dL_law_1842 (hb_X2_minute _ hl E q b1 b2 (hb_o E ao O :: (hm_MW E m th (nI n) S N a ++ [])) C G M C2 G2 M2) gL_law_X2_minute rfl kd_X2_minute ⟨Nat.le_of_ble_eq_true rfl, Nat.le_of_ble_eq_true rfl⟩ 0 hb_ob0 rfl (Nat.le_of_ble_eq_true rfl) ⟨rfl, rfl⟩ ⟨(by show _ ≤ 601024; omega), (by show _ ≤ 7293034; omega)⟩ rfl (fun _ _ => ?_)
  refine jk_ws (ws' := (lw_w E q b1 b2 ao m O C G M C2 G2 M2 th n S N a)) lw_eq ?_
  refine jk_aload_n K dL_law_1845 rfl 2 rfl ?_
  refine jk_cVi K (n' := nn) (k' := ks) [] [.int (G 3)] dL_law_1846 (hb_X3_minute _ hl E (hb_v1 E q b1 b2 [hb_o E ao O] C G M C2 G2 M2) [] m th S N a n R.1) gL_law_X3_minute rfl kd_X3_minute ⟨Nat.le_of_ble_eq_true rfl, Nat.le_of_ble_eq_true rfl⟩ _ hm_x0 rfl (Nat.le_of_ble_eq_true rfl) ⟨rfl, rfl⟩ ⟨(by show _ ≤ 601024; omega), (by show _ ≤ 7293034; omega)⟩ rfl (fun _ _ => ?_)
  refine jk_ws (ws' := (lw_w E q b1 b2 ao m O C G M C2 G2 M2 0 n S N a)) rfl ?_
  refine jk_icmp_eq (tgt := 2155) K dL_law_1849 rfl (fun c_1849 => ?_) (fun c_1849 => ?_)
  · refine jk_wide (n' := nn + 11) (k' := ks + 117) (by omega) (by omega) ?_
    exact kk _ _ _ _ _ _ _ _ _ _ _ _ R
  · exact absurd (R.2.2.1.2.2.2.1.symm) c_1849
set_option maxHeartbeats 4000000 in
set_option maxRecDepth 100000 in
theorem lw_c28 {Γ : jk_G} {E : jk_T} (K : jk_C Γ E RL cL_law 9 wsL_law ({ frames := 13, cells := 601024, slots := 7293034, locals := 468 } : Room)) {sb L : Nat} {xs : Nat → Int32} (XL : jk_LX Γ sb L xs) (hL : L ≤ 2048) {j : Nat} (hj : 4 * j + 3 < L) {nn ks : Nat} (hnn : nn + 11 ≤ 601024) (hks : ks + 117 ≤ 7293034) {q : Nat} {b1 b2 : Nat → Nat} {ao : Nat} {m : Nat → Nat} {O : Nat → Int64} {C : Nat → Nat → Int32} {G M : Nat → Int32} {C2 : Nat → Nat → Int32} {G2 M2 : Nat → Int32} {th : Int32} {n : Nat} {S : Nat → Int32} {N a : Nat → Nat → Int32} (R : hm_R n C G M S N a) (kk : ∀ (O : Nat → Int64) (C : Nat → Nat → Int32) (G M : Nat → Int32) (C2 : Nat → Nat → Int32) (G2 M2 : Nat → Int32) (th : Int32) (n : Nat) (S : Nat → Int32) (N a : Nat → Nat → Int32), hm_R n C G M S N a → jk_J Γ E (lw_w E q b1 b2 ao m O C G M C2 G2 M2 th n S N a) (nn + 11) (ks + 117) 2155 [(4, .int (nI (4 * j))), (3, .ref ao), (2, .ref (m 0)), (1, .ref q), (0, .ref sb)] []) : jk_J Γ E (lw_w E q b1 b2 ao m O C G M C2 G2 M2 th n S N a) nn ks 1854 [(4, .int (nI (4 * j))), (3, .ref ao), (2, .ref (m 0)), (1, .ref q), (0, .ref sb)] [] := by
  have hl := K.2.2.2.2.2.2.2.2.2.2
  refine jk_aload_n K dL_law_1854 rfl 3 rfl ?_
  refine jk_ws (ws' := (hb_v1 E q b1 b2 (hb_o E ao O :: (hm_MW E m th (nI n) S N a ++ [])) C G M C2 G2 M2)) lw_eq.symm ?_
  refine jk_cVi K (n' := nn) (k' := ks) [] [] dL_law_1855 (hb_X2_haze _ hl E q b1 b2 (hb_o E ao O :: (hm_MW E m th (nI n) S N a ++ [])) C G M C2 G2 M2) gL_law_X2_haze rfl kd_X2_haze ⟨Nat.le_of_ble_eq_true rfl, Nat.le_of_ble_eq_true rfl⟩ 0 hb_ob0 rfl (Nat.le_of_ble_eq_true rfl) ⟨rfl, rfl⟩ ⟨(by show _ ≤ 601024; omega), (by show _ ≤ 7293034; omega)⟩ rfl (fun _ _ => ?_)
  refine jk_ws (ws' := (lw_w E q b1 b2 ao m O C G M C2 G2 M2 th n S N a)) lw_eq ?_
  refine jk_aload_n K dL_law_1858 rfl 2 rfl ?_
  refine jk_cVi K (n' := nn) (k' := ks) [] [.int (G 1)] dL_law_1859 (hb_X3_haze _ hl E (hb_v1 E q b1 b2 [hb_o E ao O] C G M C2 G2 M2) [] m th S N a n R.1) gL_law_X3_haze rfl kd_X3_haze ⟨Nat.le_of_ble_eq_true rfl, Nat.le_of_ble_eq_true rfl⟩ _ hm_x0 rfl (Nat.le_of_ble_eq_true rfl) ⟨rfl, rfl⟩ ⟨(by show _ ≤ 601024; omega), (by show _ ≤ 7293034; omega)⟩ rfl (fun _ _ => ?_)
  refine jk_ws (ws' := (lw_w E q b1 b2 ao m O C G M C2 G2 M2 0 n S N a)) rfl ?_
  refine jk_icmp_eq (tgt := 2155) K dL_law_1862 rfl (fun c_1862 => ?_) (fun c_1862 => ?_)
  · refine jk_wide (n' := nn + 11) (k' := ks + 117) (by omega) (by omega) ?_
    exact kk _ _ _ _ _ _ _ _ _ _ _ _ R
  · exact absurd (R.2.2.1.2.1.symm) c_1862
set_option maxHeartbeats 4000000 in
set_option maxRecDepth 100000 in
theorem lw_c29 {Γ : jk_G} {E : jk_T} (K : jk_C Γ E RL cL_law 9 wsL_law ({ frames := 13, cells := 601024, slots := 7293034, locals := 468 } : Room)) {sb L : Nat} {xs : Nat → Int32} (XL : jk_LX Γ sb L xs) (hL : L ≤ 2048) {j : Nat} (hj : 4 * j + 3 < L) {nn ks : Nat} (hnn : nn + 11 ≤ 601024) (hks : ks + 117 ≤ 7293034) {q : Nat} {b1 b2 : Nat → Nat} {ao : Nat} {m : Nat → Nat} {O : Nat → Int64} {C : Nat → Nat → Int32} {G M : Nat → Int32} {C2 : Nat → Nat → Int32} {G2 M2 : Nat → Int32} {th : Int32} {n : Nat} {S : Nat → Int32} {N a : Nat → Nat → Int32} (R : hm_R n C G M S N a) (kk : ∀ (O : Nat → Int64) (C : Nat → Nat → Int32) (G M : Nat → Int32) (C2 : Nat → Nat → Int32) (G2 M2 : Nat → Int32) (th : Int32) (n : Nat) (S : Nat → Int32) (N a : Nat → Nat → Int32), hm_R n C G M S N a → jk_J Γ E (lw_w E q b1 b2 ao m O C G M C2 G2 M2 th n S N a) (nn + 11) (ks + 117) 2155 [(4, .int (nI (4 * j))), (3, .ref ao), (2, .ref (m 0)), (1, .ref q), (0, .ref sb)] []) : jk_J Γ E (lw_w E q b1 b2 ao m O C G M C2 G2 M2 th n S N a) nn ks 1867 [(4, .int (nI (4 * j))), (3, .ref ao), (2, .ref (m 0)), (1, .ref q), (0, .ref sb)] [] := by
  have hl := K.2.2.2.2.2.2.2.2.2.2
  refine jk_aload_n K dL_law_1867 rfl 3 rfl ?_
  refine jk_ws (ws' := (hb_v1 E q b1 b2 (hb_o E ao O :: (hm_MW E m th (nI n) S N a ++ [])) C G M C2 G2 M2)) lw_eq.symm ?_
  refine jk_cVi K (n' := nn) (k' := ks) [] [] dL_law_1868 (hb_X2_glowLeft _ hl E q b1 b2 (hb_o E ao O :: (hm_MW E m th (nI n) S N a ++ [])) C G M C2 G2 M2) gL_law_X2_glowLeft rfl kd_X2_glowLeft ⟨Nat.le_of_ble_eq_true rfl, Nat.le_of_ble_eq_true rfl⟩ 0 hb_ob0 rfl (Nat.le_of_ble_eq_true rfl) ⟨rfl, rfl⟩ ⟨(by show _ ≤ 601024; omega), (by show _ ≤ 7293034; omega)⟩ rfl (fun _ _ => ?_)
  refine jk_ws (ws' := (lw_w E q b1 b2 ao m O C G M C2 G2 M2 th n S N a)) lw_eq ?_
  refine jk_aload_n K dL_law_1871 rfl 2 rfl ?_
  refine jk_cVi K (n' := nn) (k' := ks) [] [.int (G 2)] dL_law_1872 (hb_X3_glowLeft _ hl E (hb_v1 E q b1 b2 [hb_o E ao O] C G M C2 G2 M2) [] m th S N a n R.1) gL_law_X3_glowLeft rfl kd_X3_glowLeft ⟨Nat.le_of_ble_eq_true rfl, Nat.le_of_ble_eq_true rfl⟩ _ hm_x0 rfl (Nat.le_of_ble_eq_true rfl) ⟨rfl, rfl⟩ ⟨(by show _ ≤ 601024; omega), (by show _ ≤ 7293034; omega)⟩ rfl (fun _ _ => ?_)
  refine jk_ws (ws' := (lw_w E q b1 b2 ao m O C G M C2 G2 M2 0 n S N a)) rfl ?_
  refine jk_icmp_eq (tgt := 2155) K dL_law_1875 rfl (fun c_1875 => ?_) (fun c_1875 => ?_)
  · refine jk_wide (n' := nn + 11) (k' := ks + 117) (by omega) (by omega) ?_
    exact kk _ _ _ _ _ _ _ _ _ _ _ _ R
  · exact absurd (R.2.2.1.2.2.1.symm) c_1875
set_option maxHeartbeats 4000000 in
set_option maxRecDepth 100000 in
theorem lw_c31 {Γ : jk_G} {E : jk_T} (K : jk_C Γ E RL cL_law 9 wsL_law ({ frames := 13, cells := 601024, slots := 7293034, locals := 468 } : Room)) {sb L : Nat} {xs : Nat → Int32} (XL : jk_LX Γ sb L xs) (hL : L ≤ 2048) {j : Nat} (hj : 4 * j + 3 < L) {nn ks : Nat} (hnn : nn + 11 ≤ 601024) (hks : ks + 117 ≤ 7293034) {q : Nat} {b1 b2 : Nat → Nat} {ao : Nat} {m : Nat → Nat} {O : Nat → Int64} {C : Nat → Nat → Int32} {G M : Nat → Int32} {C2 : Nat → Nat → Int32} {G2 M2 : Nat → Int32} {th : Int32} {n : Nat} {S : Nat → Int32} {N a : Nat → Nat → Int32} (R : hm_R n C G M S N a) (kk : ∀ (O : Nat → Int64) (C : Nat → Nat → Int32) (G M : Nat → Int32) (C2 : Nat → Nat → Int32) (G2 M2 : Nat → Int32) (th : Int32) (n : Nat) (S : Nat → Int32) (N a : Nat → Nat → Int32), hm_R n C G M S N a → jk_J Γ E (lw_w E q b1 b2 ao m O C G M C2 G2 M2 th n S N a) (nn + 11) (ks + 117) 2155 [(4, .int (nI (4 * j))), (3, .ref ao), (2, .ref (m 0)), (1, .ref q), (0, .ref sb)] []) : jk_J Γ E (lw_w E q b1 b2 ao m O C G M C2 G2 M2 th n S N a) nn ks 1893 [(4, .int (nI (4 * j))), (3, .ref ao), (2, .ref (m 0)), (1, .ref q), (0, .ref sb)] [] := by
  have hl := K.2.2.2.2.2.2.2.2.2.2
  refine jk_aload_n K dL_law_1893 rfl 3 rfl ?_
  refine jk_ws (ws' := (hb_v1 E q b1 b2 (hb_o E ao O :: (hm_MW E m th (nI n) S N a ++ [])) C G M C2 G2 M2)) lw_eq.symm ?_
  refine jk_cVi K (n' := nn) (k' := ks) [] [] dL_law_1894 (hb_X2_timesLit _ hl E q b1 b2 (hb_o E ao O :: (hm_MW E m th (nI n) S N a ++ [])) C G M C2 G2 M2) gL_law_X2_timesLit rfl kd_X2_timesLit ⟨Nat.le_of_ble_eq_true rfl, Nat.le_of_ble_eq_true rfl⟩ 0 hb_ob0 rfl (Nat.le_of_ble_eq_true rfl) ⟨rfl, rfl⟩ ⟨(by show _ ≤ 601024; omega), (by show _ ≤ 7293034; omega)⟩ rfl (fun _ _ => ?_)
  refine jk_ws (ws' := (lw_w E q b1 b2 ao m O C G M C2 G2 M2 th n S N a)) lw_eq ?_
  refine jk_aload_n K dL_law_1897 rfl 2 rfl ?_
  refine jk_cVi K (n' := nn) (k' := ks) [] [.int (G 4)] dL_law_1898 (hb_X3_timesLit _ hl E (hb_v1 E q b1 b2 [hb_o E ao O] C G M C2 G2 M2) [] m th S N a n R.1) gL_law_X3_timesLit rfl kd_X3_timesLit ⟨Nat.le_of_ble_eq_true rfl, Nat.le_of_ble_eq_true rfl⟩ _ hm_x0 rfl (Nat.le_of_ble_eq_true rfl) ⟨rfl, rfl⟩ ⟨(by show _ ≤ 601024; omega), (by show _ ≤ 7293034; omega)⟩ rfl (fun _ _ => ?_)
  refine jk_ws (ws' := (lw_w E q b1 b2 ao m O C G M C2 G2 M2 0 n S N a)) rfl ?_
  refine jk_icmp_eq (tgt := 2155) K dL_law_1901 rfl (fun c_1901 => ?_) (fun c_1901 => ?_)
  · refine jk_wide (n' := nn + 11) (k' := ks + 117) (by omega) (by omega) ?_
    exact kk _ _ _ _ _ _ _ _ _ _ _ _ R
  · exact absurd (R.2.2.1.2.2.2.2.1.symm) c_1901
set_option maxHeartbeats 4000000 in
set_option maxRecDepth 100000 in
theorem lw_c32 {Γ : jk_G} {E : jk_T} (K : jk_C Γ E RL cL_law 9 wsL_law ({ frames := 13, cells := 601024, slots := 7293034, locals := 468 } : Room)) {sb L : Nat} {xs : Nat → Int32} (XL : jk_LX Γ sb L xs) (hL : L ≤ 2048) {j : Nat} (hj : 4 * j + 3 < L) {nn ks : Nat} (hnn : nn + 11 ≤ 601024) (hks : ks + 117 ≤ 7293034) {q : Nat} {b1 b2 : Nat → Nat} {ao : Nat} {m : Nat → Nat} {O : Nat → Int64} {C : Nat → Nat → Int32} {G M : Nat → Int32} {C2 : Nat → Nat → Int32} {G2 M2 : Nat → Int32} {th : Int32} {n : Nat} {S : Nat → Int32} {N a : Nat → Nat → Int32} (R : hm_R n C G M S N a) (kk : ∀ (O : Nat → Int64) (C : Nat → Nat → Int32) (G M : Nat → Int32) (C2 : Nat → Nat → Int32) (G2 M2 : Nat → Int32) (th : Int32) (n : Nat) (S : Nat → Int32) (N a : Nat → Nat → Int32), hm_R n C G M S N a → jk_J Γ E (lw_w E q b1 b2 ao m O C G M C2 G2 M2 th n S N a) (nn + 11) (ks + 117) 2155 [(4, .int (nI (4 * j))), (3, .ref ao), (2, .ref (m 0)), (1, .ref q), (0, .ref sb)] []) : jk_J Γ E (lw_w E q b1 b2 ao m O C G M C2 G2 M2 th n S N a) nn ks 1906 [(4, .int (nI (4 * j))), (3, .ref ao), (2, .ref (m 0)), (1, .ref q), (0, .ref sb)] [] := by
  have hl := K.2.2.2.2.2.2.2.2.2.2
  refine jk_aload_n K dL_law_1906 rfl 3 rfl ?_
  refine jk_ws (ws' := (hb_v1 E q b1 b2 (hb_o E ao O :: (hm_MW E m th (nI n) S N a ++ [])) C G M C2 G2 M2)) lw_eq.symm ?_
  refine jk_cVi K (n' := nn) (k' := ks) [] [] dL_law_1907 (hb_X2_timesMistaken _ hl E q b1 b2 (hb_o E ao O :: (hm_MW E m th (nI n) S N a ++ [])) C G M C2 G2 M2) gL_law_X2_timesMistaken rfl kd_X2_timesMistaken ⟨Nat.le_of_ble_eq_true rfl, Nat.le_of_ble_eq_true rfl⟩ 0 hb_ob0 rfl (Nat.le_of_ble_eq_true rfl) ⟨rfl, rfl⟩ ⟨(by show _ ≤ 601024; omega), (by show _ ≤ 7293034; omega)⟩ rfl (fun _ _ => ?_)
  refine jk_ws (ws' := (lw_w E q b1 b2 ao m O C G M C2 G2 M2 th n S N a)) lw_eq ?_
  refine jk_aload_n K dL_law_1910 rfl 2 rfl ?_
  refine jk_cVi K (n' := nn) (k' := ks) [] [.int (G 5)] dL_law_1911 (hb_X3_timesMistaken _ hl E (hb_v1 E q b1 b2 [hb_o E ao O] C G M C2 G2 M2) [] m th S N a n R.1) gL_law_X3_timesMistaken rfl kd_X3_timesMistaken ⟨Nat.le_of_ble_eq_true rfl, Nat.le_of_ble_eq_true rfl⟩ _ hm_x0 rfl (Nat.le_of_ble_eq_true rfl) ⟨rfl, rfl⟩ ⟨(by show _ ≤ 601024; omega), (by show _ ≤ 7293034; omega)⟩ rfl (fun _ _ => ?_)
  refine jk_ws (ws' := (lw_w E q b1 b2 ao m O C G M C2 G2 M2 0 n S N a)) rfl ?_
  refine jk_icmp_eq (tgt := 2155) K dL_law_1914 rfl (fun c_1914 => ?_) (fun c_1914 => ?_)
  · refine jk_wide (n' := nn + 11) (k' := ks + 117) (by omega) (by omega) ?_
    exact kk _ _ _ _ _ _ _ _ _ _ _ _ R
  · exact absurd (R.2.2.1.2.2.2.2.2.1.symm) c_1914
set_option maxHeartbeats 4000000 in
set_option maxRecDepth 100000 in
theorem lw_c30 {Γ : jk_G} {E : jk_T} (K : jk_C Γ E RL cL_law 9 wsL_law ({ frames := 13, cells := 601024, slots := 7293034, locals := 468 } : Room)) {sb L : Nat} {xs : Nat → Int32} (XL : jk_LX Γ sb L xs) (hL : L ≤ 2048) {j : Nat} (hj : 4 * j + 3 < L) {nn ks : Nat} (hnn : nn + 11 ≤ 601024) (hks : ks + 117 ≤ 7293034) {q : Nat} {b1 b2 : Nat → Nat} {ao : Nat} {m : Nat → Nat} {O : Nat → Int64} {C : Nat → Nat → Int32} {G M : Nat → Int32} {C2 : Nat → Nat → Int32} {G2 M2 : Nat → Int32} {th : Int32} {n : Nat} {S : Nat → Int32} {N a : Nat → Nat → Int32} (R : hm_R n C G M S N a) (kk : ∀ (O : Nat → Int64) (C : Nat → Nat → Int32) (G M : Nat → Int32) (C2 : Nat → Nat → Int32) (G2 M2 : Nat → Int32) (th : Int32) (n : Nat) (S : Nat → Int32) (N a : Nat → Nat → Int32), hm_R n C G M S N a → jk_J Γ E (lw_w E q b1 b2 ao m O C G M C2 G2 M2 th n S N a) (nn + 11) (ks + 117) 2155 [(4, .int (nI (4 * j))), (3, .ref ao), (2, .ref (m 0)), (1, .ref q), (0, .ref sb)] []) : jk_J Γ E (lw_w E q b1 b2 ao m O C G M C2 G2 M2 th n S N a) nn ks 1880 [(4, .int (nI (4 * j))), (3, .ref ao), (2, .ref (m 0)), (1, .ref q), (0, .ref sb)] [] := by
  have hl := K.2.2.2.2.2.2.2.2.2.2
  refine jk_aload_n K dL_law_1880 rfl 3 rfl ?_
  refine jk_ws (ws' := (hb_v1 E q b1 b2 (hb_o E ao O :: (hm_MW E m th (nI n) S N a ++ [])) C G M C2 G2 M2)) lw_eq.symm ?_
  refine jk_cVi K (n' := nn) (k' := ks) [] [] dL_law_1881 (hb_X2_burningHills _ hl E q b1 b2 (hb_o E ao O :: (hm_MW E m th (nI n) S N a ++ [])) C G M C2 G2 M2 n R.1 R.2.2.1.1) gL_law_X2_burningHills rfl kd_X2_burningHills ⟨Nat.le_of_ble_eq_true rfl, Nat.le_of_ble_eq_true rfl⟩ 0 hb_ob0 rfl (Nat.le_of_ble_eq_true rfl) ⟨rfl, rfl⟩ ⟨(by show _ ≤ 601024; omega), (by show _ ≤ 7293034; omega)⟩ rfl (fun _ _ => ?_)
  refine jk_ws (ws' := (lw_w E q b1 b2 ao m O C G M C2 G2 M2 th n S N a)) lw_eq ?_
  refine jk_aload_n K dL_law_1884 rfl 2 rfl ?_
  refine jk_cVi K (n' := nn) (k' := ks) [] [.int (hb_burn C n)] dL_law_1885 (hb_X3_burningHills _ hl E (hb_v1 E q b1 b2 [hb_o E ao O] C G M C2 G2 M2) [] m th S N a n R.1) gL_law_X3_burningHills rfl kd_X3_burningHills ⟨Nat.le_of_ble_eq_true rfl, Nat.le_of_ble_eq_true rfl⟩ _ hm_x0 rfl (Nat.le_of_ble_eq_true rfl) ⟨rfl, rfl⟩ ⟨(by show _ ≤ 601024; omega), (by show _ ≤ 7293034; omega)⟩ rfl (fun _ _ => ?_)
  refine jk_ws (ws' := (lw_w E q b1 b2 ao m O C G M C2 G2 M2 0 n S N a)) rfl ?_
  refine jk_icmp_eq (tgt := 2155) K dL_law_1888 rfl (fun c_1888 => ?_) (fun c_1888 => ?_)
  · refine jk_wide (n' := nn + 11) (k' := ks + 117) (by omega) (by omega) ?_
    exact kk _ _ _ _ _ _ _ _ _ _ _ _ R
  · exact absurd (hm_R_bu R n (Nat.le_refl n)) c_1888
set_option maxHeartbeats 4000000 in
set_option maxRecDepth 100000 in
theorem lw_c36 {Γ : jk_G} {E : jk_T} (K : jk_C Γ E RL cL_law 9 wsL_law ({ frames := 13, cells := 601024, slots := 7293034, locals := 468 } : Room)) {sb L : Nat} {xs : Nat → Int32} (XL : jk_LX Γ sb L xs) (hL : L ≤ 2048) {j : Nat} (hj : 4 * j + 3 < L) {nn ks : Nat} (hnn : nn + 11 ≤ 601024) (hks : ks + 117 ≤ 7293034) {q : Nat} {b1 b2 : Nat → Nat} {ao : Nat} {m : Nat → Nat} {O : Nat → Int64} {C : Nat → Nat → Int32} {G M : Nat → Int32} {C2 : Nat → Nat → Int32} {G2 M2 : Nat → Int32} {th : Int32} {n : Nat} {S : Nat → Int32} {N a : Nat → Nat → Int32} (R : hm_R n C G M S N a) (kk : ∀ (O : Nat → Int64) (C : Nat → Nat → Int32) (G M : Nat → Int32) (C2 : Nat → Nat → Int32) (G2 M2 : Nat → Int32) (th : Int32) (n : Nat) (S : Nat → Int32) (N a : Nat → Nat → Int32), hm_R n C G M S N a → jk_J Γ E (lw_w E q b1 b2 ao m O C G M C2 G2 M2 th n S N a) (nn + 11) (ks + 117) 2155 [(4, .int (nI (4 * j))), (3, .ref ao), (2, .ref (m 0)), (1, .ref q), (0, .ref sb)] []) : jk_J Γ E (lw_w E q b1 b2 ao m O C G M C2 G2 M2 th n S N a) nn ks 2087 [(4, .int (nI (4 * j))), (3, .ref ao), (2, .ref (m 0)), (1, .ref q), (0, .ref sb)] [] := by
  have hl := K.2.2.2.2.2.2.2.2.2.2
  have hpos : ∀ i, i < n → N i 1 = 0 → ¬ N i 0 = 0 → N i 1 = 0 ∧ 0 < N i 0 := fun i hi h1 h0 => by
    obtain ⟨g0, -, -, -, -, -, -, -, -, ⟨k0, hk0, gk0⟩, -⟩ := R.2.1 i hi
    refine ⟨h1, ?_⟩
    rw [g0, gk0] at h0 ⊢
    rcases Nat.eq_zero_or_pos k0 with q | q
    · subst q; exact absurd rfl h0
    · exact nI_lt (a := 0) q (by omega)
  have hR2 : ∀ i, i < n → ¬ hb_rdy (C i) = 0 → ∀ (D : Nat → Nat → Int32) (G3 M3 : Nat → Int32), hb_tr D G3 M3 C G M n i = hm_re S N a n i := fun i hi h D G3 M3 => (hm_R_re R hi (Classical.byContradiction (fun q => h ((hm_rdy (R.2.1 i hi)).mpr q))) D G3 M3).1
  have hR3 : ∀ i, i < n → N i 1 = 0 → ¬ N i 0 = 0 → ∀ k7 w8 : Nat → Int32, hm_re S N (va_up (va_up a 7 k7) 8 w8) n i = hm_re S N a n i := fun i hi h1 h0 k7 w8 => ((hm_R_re (show hm_R n C G M S N (va_up (va_up a 7 k7) 8 w8) from R) hi (hpos i hi h1 h0) C G M).1.symm.trans (hm_R_re R hi (hpos i hi h1 h0) C G M).1)
  refine jk_aload_n K dL_law_2087 rfl 3 rfl ?_
  refine jk_ws (ws' := (hb_v1 E q b1 b2 (hb_o E ao O :: (hm_MW E m th (nI n) S N a ++ [])) C G M C2 G2 M2)) lw_eq.symm ?_
  refine jk_cVi K (n' := nn) (k' := ks) [] [] dL_law_2088 (hb_X2_bestHill _ hl E q b1 b2 (hb_o E ao O :: (hm_MW E m th (nI n) S N a ++ [])) C G M C2 G2 M2 n R.1 R.2.2.1.1 (fun i => hm_re S N a n i) hR2) gL_law_X2_bestHill rfl kd_X2_bestHill ⟨Nat.le_of_ble_eq_true rfl, Nat.le_of_ble_eq_true rfl⟩ 0 hb_ob0 rfl (Nat.le_of_ble_eq_true rfl) ⟨rfl, rfl⟩ ⟨(by show _ ≤ 601024; omega), (by show _ ≤ 7293034; omega)⟩ rfl (fun u _ => ?_)
  refine jk_ws (ws' := (lw_w E q b1 b2 ao m O C G M u.1 u.2.1 u.2.2 th n S N a)) lw_eq ?_
  refine jk_aload_n K dL_law_2091 rfl 2 rfl ?_
  refine jk_cVi K (n' := nn) (k' := ks) [] [.int ((hb_bh C (fun i => hm_re S N a n i) n).1)] dL_law_2092 (hb_X3_bestHill _ hl E (hb_v1 E q b1 b2 [hb_o E ao O] C G M u.1 u.2.1 u.2.2) [] m th S N a n R.1 (hm_R_so R) (fun i => hm_re S N a n i) hR3) gL_law_X3_bestHill rfl kd_X3_bestHill ⟨Nat.le_of_ble_eq_true rfl, Nat.le_of_ble_eq_true rfl⟩ _ hm_x0 rfl (Nat.le_of_ble_eq_true rfl) ⟨rfl, rfl⟩ ⟨(by show _ ≤ 601024; omega), (by show _ ≤ 7293034; omega)⟩ rfl (fun v _ => ?_)
  refine jk_ws (ws' := (lw_w E q b1 b2 ao m O C G M u.1 u.2.1 u.2.2 0 n S N (va_up (va_up a 7 v.1) 8 v.2))) rfl ?_
  refine jk_icmp_eq (tgt := 2155) K dL_law_2095 rfl (fun c_2095 => ?_) (fun c_2095 => ?_)
  · refine jk_wide (n' := nn + 11) (k' := ks + 117) (by omega) (by omega) ?_
    exact kk _ _ _ _ _ _ _ _ _ _ _ _ R
  · exact absurd (hm_R_best R (fun i hi h => (hm_R_re R hi h C G M).2)) c_2095
set_option maxHeartbeats 4000000 in
set_option maxRecDepth 100000 in
theorem lw_c37 {Γ : jk_G} {E : jk_T} (K : jk_C Γ E RL cL_law 9 wsL_law ({ frames := 13, cells := 601024, slots := 7293034, locals := 468 } : Room)) {sb L : Nat} {xs : Nat → Int32} (XL : jk_LX Γ sb L xs) (hL : L ≤ 2048) {j : Nat} (hj : 4 * j + 3 < L) {nn ks : Nat} (hnn : nn + 11 ≤ 601024) (hks : ks + 117 ≤ 7293034) {q : Nat} {b1 b2 : Nat → Nat} {ao : Nat} {m : Nat → Nat} {O : Nat → Int64} {C : Nat → Nat → Int32} {G M : Nat → Int32} {C2 : Nat → Nat → Int32} {G2 M2 : Nat → Int32} {th : Int32} {n : Nat} {S : Nat → Int32} {N a : Nat → Nat → Int32} (R : hm_R n C G M S N a) (kk : ∀ (O : Nat → Int64) (C : Nat → Nat → Int32) (G M : Nat → Int32) (C2 : Nat → Nat → Int32) (G2 M2 : Nat → Int32) (th : Int32) (n : Nat) (S : Nat → Int32) (N a : Nat → Nat → Int32), hm_R n C G M S N a → jk_J Γ E (lw_w E q b1 b2 ao m O C G M C2 G2 M2 th n S N a) (nn + 11) (ks + 117) 2155 [(4, .int (nI (4 * j))), (3, .ref ao), (2, .ref (m 0)), (1, .ref q), (0, .ref sb)] []) : jk_J Γ E (lw_w E q b1 b2 ao m O C G M C2 G2 M2 th n S N a) nn ks 2100 [(4, .int (nI (4 * j))), (3, .ref ao), (2, .ref (m 0)), (1, .ref q), (0, .ref sb)] [] := by
  have hl := K.2.2.2.2.2.2.2.2.2.2
  have hv3 : ¬ nI n = 0 → vf_n64 (FP.ddiv (FP.i2d (hm_wo N n)) (FP.i2d (nI n))) := fun h => hm_R_mv R (Nat.pos_of_ne_zero (fun e => h (by rw [e]; rfl)))
  have hv2 : 0 < G 0 → vf_n64 (FP.ddiv (FP.i2d (hb_wood C n)) (FP.i2d (G 0))) := fun h => by
    rw [R.2.2.1.1] at h ⊢
    rw [(hm_R_wo R n (Nat.le_refl n)).1]
    exact hm_R_mv R (Nat.pos_of_ne_zero (fun e => absurd h (by rw [e]; decide)))
  refine jk_aload_n K dL_law_2100 rfl 3 rfl ?_
  refine jk_ws (ws' := (hb_v1 E q b1 b2 (hb_o E ao O :: (hm_MW E m th (nI n) S N a ++ [])) C G M C2 G2 M2)) lw_eq.symm ?_
  refine jk_cVd K (n' := nn) (k' := ks) [] [] dL_law_2101 (hb_X2_meanWood _ hl E q b1 b2 (hb_o E ao O :: (hm_MW E m th (nI n) S N a ++ [])) C G M C2 G2 M2 n R.1 R.2.2.1.1 hv2) gL_law_X2_meanWood rfl kd_X2_meanWood ⟨Nat.le_of_ble_eq_true rfl, Nat.le_of_ble_eq_true rfl⟩ 0 hb_ob0 rfl (Nat.le_of_ble_eq_true rfl) ⟨rfl, rfl⟩ ⟨(by show _ ≤ 601024; omega), (by show _ ≤ 7293034; omega)⟩ rfl (fun _ _ => ?_)
  refine jk_ws (ws' := (lw_w E q b1 b2 ao m O C G M C2 G2 M2 th n S N a)) lw_eq ?_
  refine jk_st (st' := [.double (hm_mean N n)]) (by rw [hm_R_mean R]) ?_
  refine jk_dstore (lv' := [(5, .double (hm_mean N n)), (4, .int (nI (4 * j))), (3, .ref ao), (2, .ref (m 0)), (1, .ref q), (0, .ref sb)]) K dL_law_2104 (by decide) rfl ?_
  refine jk_aload_n K dL_law_2106 rfl 3 rfl ?_
  refine jk_cVd K (n' := nn) (k' := ks) [] [] dL_law_2107 (hb_X3_meanWood _ hl E (hb_v1 E q b1 b2 [hb_o E ao O] C G M C2 G2 M2) [] m th S N a n R.1 hv3) gL_law_X3_meanWood rfl kd_X3_meanWood ⟨Nat.le_of_ble_eq_true rfl, Nat.le_of_ble_eq_true rfl⟩ _ hm_x0 rfl (Nat.le_of_ble_eq_true rfl) ⟨rfl, rfl⟩ ⟨(by show _ ≤ 601024; omega), (by show _ ≤ 7293034; omega)⟩ rfl (fun _ _ => ?_)
  refine jk_ws (ws' := (lw_w E q b1 b2 ao m O C G M C2 G2 M2 0 n S N a)) rfl ?_
  refine jk_dstore (lv' := [(7, .double (hm_mean N n)), (5, .double (hm_mean N n)), (4, .int (nI (4 * j))), (3, .ref ao), (2, .ref (m 0)), (1, .ref q), (0, .ref sb)]) K dL_law_2110 (by decide) rfl ?_
  refine jk_dload K dL_law_2112 1 rfl ?_
  refine jk_dload K dL_law_2114 0 rfl ?_
  refine jk_dcmp K dL_law_2116 ?_
  refine jk_if_eq (tgt := 2138) K dL_law_2117 rfl (fun c_2117 => ?_) (fun c_2117 => ?_)
  · refine jk_goto (tgt := 2155) K dL_law_2138 rfl ?_
    refine jk_sub (lv' := [(4, .int (nI (4 * j))), (3, .ref ao), (2, .ref (m 0)), (1, .ref q), (0, .ref sb)]) [2, 3, 4, 5, 6] rfl ?_
    refine jk_wide (n' := nn + 11) (k' := ks + 117) (by omega) (by omega) ?_
    exact kk _ _ _ _ _ _ _ _ _ _ _ _ R
  · refine jk_dload K dL_law_2120 1 rfl ?_
    refine jk_dload K dL_law_2122 1 rfl ?_
    refine jk_dcmp K dL_law_2124 ?_
    refine jk_if_eq (tgt := 2136) K dL_law_2125 rfl (fun c_2125 => ?_) (fun c_2125 => ?_)
    · exact absurd c_2125 c_2117
    · refine jk_dload K dL_law_2128 0 rfl ?_
      refine jk_dload K dL_law_2130 0 rfl ?_
      refine jk_dcmp K dL_law_2132 ?_
      refine jk_if_ne (tgt := 2138) K dL_law_2133 rfl (fun c_2133 => ?_) (fun c_2133 => ?_)
      · refine jk_goto (tgt := 2155) K dL_law_2138 rfl ?_
        refine jk_sub (lv' := [(4, .int (nI (4 * j))), (3, .ref ao), (2, .ref (m 0)), (1, .ref q), (0, .ref sb)]) [2, 3, 4, 5, 6] rfl ?_
        refine jk_wide (n' := nn + 11) (k' := ks + 117) (by omega) (by omega) ?_
        exact kk _ _ _ _ _ _ _ _ _ _ _ _ R
      · exact absurd c_2133 c_2117
set_option maxHeartbeats 4000000 in
set_option maxRecDepth 100000 in
theorem lw_c38 {Γ : jk_G} {E : jk_T} (K : jk_C Γ E RL cL_law 9 wsL_law ({ frames := 13, cells := 601024, slots := 7293034, locals := 468 } : Room)) {sb L : Nat} {xs : Nat → Int32} (XL : jk_LX Γ sb L xs) (hL : L ≤ 2048) {j : Nat} (hj : 4 * j + 3 < L) {nn ks : Nat} (hnn : nn + 11 ≤ 601024) (hks : ks + 117 ≤ 7293034) {q : Nat} {b1 b2 : Nat → Nat} {ao : Nat} {m : Nat → Nat} {O : Nat → Int64} {C : Nat → Nat → Int32} {G M : Nat → Int32} {C2 : Nat → Nat → Int32} {G2 M2 : Nat → Int32} {th : Int32} {n : Nat} {S : Nat → Int32} {N a : Nat → Nat → Int32} (R : hm_R n C G M S N a) (kk : ∀ (O : Nat → Int64) (C : Nat → Nat → Int32) (G M : Nat → Int32) (C2 : Nat → Nat → Int32) (G2 M2 : Nat → Int32) (th : Int32) (n : Nat) (S : Nat → Int32) (N a : Nat → Nat → Int32), hm_R n C G M S N a → jk_J Γ E (lw_w E q b1 b2 ao m O C G M C2 G2 M2 th n S N a) (nn + 11) (ks + 117) 2155 [(4, .int (nI (4 * j))), (3, .ref ao), (2, .ref (m 0)), (1, .ref q), (0, .ref sb)] []) : jk_J Γ E (lw_w E q b1 b2 ao m O C G M C2 G2 M2 th n S N a) nn ks 2141 [(4, .int (nI (4 * j))), (3, .ref ao), (2, .ref (m 0)), (1, .ref q), (0, .ref sb)] [] := by
  have hl := K.2.2.2.2.2.2.2.2.2.2
  refine jk_aload_n K dL_law_2141 rfl 3 rfl ?_
  refine jk_ws (ws' := (hb_v1 E q b1 b2 (hb_o E ao O :: (hm_MW E m th (nI n) S N a ++ [])) C G M C2 G2 M2)) lw_eq.symm ?_
  refine jk_cVl K (n' := nn) (k' := ks) [] [] dL_law_2142 (hb_X2_digest _ hl E q b1 b2 (hb_o E ao O :: (hm_MW E m th (nI n) S N a ++ [])) C G M C2 G2 M2 n R.1 R.2.2.1.1) gL_law_X2_digest rfl kd_X2_digest ⟨Nat.le_of_ble_eq_true rfl, Nat.le_of_ble_eq_true rfl⟩ 0 hb_ob0 rfl (Nat.le_of_ble_eq_true rfl) ⟨rfl, rfl⟩ ⟨(by show _ ≤ 601024; omega), (by show _ ≤ 7293034; omega)⟩ rfl (fun _ _ => ?_)
  refine jk_ws (ws' := (lw_w E q b1 b2 ao m O C G M C2 G2 M2 th n S N a)) lw_eq ?_
  refine jk_st (st' := [.long (hm_dig S N a n)]) (by rw [hm_R_dig R]) ?_
  refine jk_aload_n K dL_law_2145 rfl 2 rfl ?_
  refine jk_cVl K (n' := (nn + 11)) (k' := (ks + 117)) [] [.long (hm_dig S N a n)] dL_law_2146 (hb_X3_digest _ hl E (hb_v1 E q b1 b2 [hb_o E ao O] C G M C2 G2 M2) [] m th S N a n R.1) gL_law_X3_digest rfl kd_X3_digest ⟨Nat.le_of_ble_eq_true rfl, Nat.le_of_ble_eq_true rfl⟩ _ hm_x0 rfl (Nat.le_of_ble_eq_true rfl) ⟨rfl, rfl⟩ ⟨(by show _ ≤ 601024; omega), (by show _ ≤ 7293034; omega)⟩ rfl (fun _ _ => ?_)
  refine jk_ws (ws' := (lw_w E q b1 b2 ao m O C G M C2 G2 M2 0 n S N a)) rfl ?_
  refine jk_lcmp K dL_law_2149 ?_
  refine jk_st (st' := [.int 0]) (by rw [lg_self]) ?_
  refine jk_if_eq (tgt := 2155) K dL_law_2150 rfl (fun c_2150 => ?_) (fun c_2150 => ?_)
  · refine jk_wide (n' := nn + 11) (k' := ks + 117) (by omega) (by omega) ?_
    exact kk _ _ _ _ _ _ _ _ _ _ _ _ R
  · exact absurd (by decide) c_2150
