theorem kd_X3_dark : yX3_dark.cls = RX3 ∧ yX3_dark.cls ≠ "java/lang/invoke/MethodHandle" ∧ yX3_dark.cls ≠ "java/lang/invoke/VarHandle" ∧ (parseMethodDescriptor yX3_dark.desc).map (fun d => d.parameters.length) = some 1 := by decide +kernel
theorem kd_X3_look : yX3_look.cls = RX3 ∧ yX3_look.cls ≠ "java/lang/invoke/MethodHandle" ∧ yX3_look.cls ≠ "java/lang/invoke/VarHandle" ∧ (parseMethodDescriptor yX3_look.desc).map (fun d => d.parameters.length) = some 1 := by decide +kernel
set_option maxHeartbeats 4000000 in
set_option maxRecDepth 100000 in
theorem hb_X3_minuteOn (l : Launch) (hl : l.stackTraces = false) (E : jk_T) (X Y : va_W) (m : Nat → Nat) (th : Int32) (S : Nat → Int32) (N a : Nat → Nat → Int32) (n : Nat) (hn : n ≤ 10) (hso : hm_so N) : jk_fn l yX3_minuteOn wsX3_minuteOn ({ frames := 3, cells := 0, slots := 0, locals := 69 } : Room) [.ref (m 0)] E (hm_M E X Y m th (nI n) S N a) (none) (hm_M E X Y m th (nI n) (hm_mS S N a n) (hm_mN S N a n) (va_up a 8 (hm_mW N a n))) := by
  refine jk_of (lv := [(0, .ref (m 0))]) (own := RX3) (nm := "minuteOn") hl (by decide +kernel) rfl (Nat.le_of_ble_eq_true rfl) rfl rfl rfl (fun Γ hΓ K hnm hz => ?_)
  subst hΓ
  have hin_RX3 : ∀ w ∈ u_ws RX3 TX3 11, w ∈ wsX3_minuteOn := by decide +kernel
  obtain ⟨A, hA⟩ : ∃ A, A = hm_mA N a n := ⟨_, rfl⟩
  have hL4 : ∀ j, j ≤ n → jk_J Γ E (hm_M E X Y m th (nI n) (hm_m2 S N A n n).1 (hm_m4 (hm_m3 (hm_m2 S N A n n).2 A n) A j) A) 0 0 157 [(1, .int (nI j)), (0, .ref (m 0))] [] := by
    refine jk_loop (fun j hj ih => ?_)
    refine jk_iload_n K dX3_minuteOn_157 rfl 0 rfl ?_
    refine jk_aload_n K dX3_minuteOn_158 rfl 1 rfl ?_
    refine jk_get (C := RX3) (T := TX3) (N := 11) (nm := "hills") (ds := "I") (v := .int (nI n)) K dX3_minuteOn_159 hin_RX3 (by decide +kernel) (X.length + 0) hm_x0 rfl 1 rfl (by decide) rfl ?_
    refine jk_icmp_ge (tgt := 215) K dX3_minuteOn_162 rfl (fun c_162 => ?_) (fun c_162 => ?_)
    · have hjn : j = n := hb_ex rfl (by omega) hj c_162
      refine jk_aload_n K dX3_minuteOn_215 rfl 1 rfl ?_
      refine jk_get (C := RX3) (T := TX3) (N := 11) (nm := "now") (ds := "[I") (v := .ref (m 6)) K dX3_minuteOn_216 hin_RX3 (by decide +kernel) (X.length + 0) hm_x0 rfl 6 rfl (by decide) rfl ?_
      refine jk_iconst (x := 1) K dX3_minuteOn_219 rfl ?_
      refine jk_iconst (x := 0) K dX3_minuteOn_220 rfl ?_
      refine jk_aload_n K dX3_minuteOn_221 rfl 1 rfl ?_
      refine jk_get (C := RX3) (T := TX3) (N := 11) (nm := "now") (ds := "[I") (v := .ref (m 6)) K dX3_minuteOn_222 hin_RX3 (by decide +kernel) (X.length + 0) hm_x0 rfl 6 rfl (by decide) rfl ?_
      refine jk_iconst (x := 1) K dX3_minuteOn_225 rfl ?_
      refine jk_iald (v := ((hm_m2 S N A n n).1 1)) K dX3_minuteOn_226 (X.length + 5) hm_a6 (vp_in_nI (n := 1) (by decide) (by decide)) (hm_now_s _ _ (k := 1) (by decide)) ?_
      refine jk_iconst (x := 1) K dX3_minuteOn_227 rfl ?_
      refine jk_isub K dX3_minuteOn_228 ?_
      refine jk_mmax K dX3_minuteOn_229 (rest := [.int 1, .ref (m 6)]) (by decide +kernel) (by decide +kernel) (by decide +kernel) (by decide +kernel) (Nat.le_of_ble_eq_true rfl) (Nat.le_of_ble_eq_true rfl) ⟨Nat.le_of_ble_eq_true rfl, Nat.le_of_ble_eq_true rfl⟩ ?_
      refine jk_iast (w' := (hm_M E X Y m th (nI n) (hb_fu (hm_m2 S N A n n).1 1 (if 0 < (((hm_m2 S N A n n).1 1) - 1) then (((hm_m2 S N A n n).1 1) - 1) else 0)) (hm_m4 (hm_m3 (hm_m2 S N A n n).2 A n) A j) A)) K dX3_minuteOn_232 (X.length + 5) hm_a6 (vp_in_nI (n := 1) (by decide) (by decide)) (hm_s6 (hm_now_set _ _ (k := 1) (by decide) _)) ?_
      refine jk_aload_n K dX3_minuteOn_233 rfl 1 rfl ?_
      refine jk_get (C := RX3) (T := TX3) (N := 11) (nm := "now") (ds := "[I") (v := .ref (m 6)) K dX3_minuteOn_234 hin_RX3 (by decide +kernel) (X.length + 0) hm_x0 rfl 6 rfl (by decide) rfl ?_
      refine jk_iconst (x := 0) K dX3_minuteOn_237 rfl ?_
      refine jk_dup2 K dX3_minuteOn_238 rfl rfl ?_
      refine jk_iald (v := ((hm_m2 S N A n n).1 0)) K dX3_minuteOn_239 (X.length + 5) hm_a6 (vp_in_nI (n := 0) (by decide) (by decide)) (hm_now_s _ _ (k := 0) (by decide)) ?_
      refine jk_iconst (x := 1) K dX3_minuteOn_240 rfl ?_
      refine jk_iadd K dX3_minuteOn_241 ?_
      refine jk_iast (w' := (hm_M E X Y m th (nI n) (hb_fu (hb_fu (hm_m2 S N A n n).1 1 (if 0 < (((hm_m2 S N A n n).1 1) - 1) then (((hm_m2 S N A n n).1 1) - 1) else 0)) 0 (((hm_m2 S N A n n).1 0) + 1)) (hm_m4 (hm_m3 (hm_m2 S N A n n).2 A n) A j) A)) K dX3_minuteOn_242 (X.length + 5) hm_a6 (vp_in_nI (n := 0) (by decide) (by decide)) (hm_s6 (hm_now_set _ _ (k := 0) (by decide) _)) ?_
      exact jk_vret K hz dX3_minuteOn_243 () rfl trivial (by rw [hjn, hA]; rfl) (Nat.le_of_ble_eq_true rfl) (Nat.le_of_ble_eq_true rfl)
    · have hlt : j < n := hb_in rfl (by omega) hj c_162
      refine jk_aload_n K dX3_minuteOn_165 rfl 1 rfl ?_
      refine jk_get (C := RX3) (T := TX3) (N := 11) (nm := "was") (ds := "[I") (v := .ref (m 8)) K dX3_minuteOn_166 hin_RX3 (by decide +kernel) (X.length + 0) hm_x0 rfl 8 rfl (by decide) rfl ?_
      refine jk_iload_n K dX3_minuteOn_169 rfl 0 rfl ?_
      refine jk_iald (v := (A 8 j)) K dX3_minuteOn_170 (X.length + 7) hm_a8 (vp_in_nI (by omega) (by decide)) (by rw [nI_clamp (by omega)]) ?_
      refine jk_iconst (x := 2) K dX3_minuteOn_171 rfl ?_
      refine jk_icmp_eq (tgt := 178) K dX3_minuteOn_172 rfl (fun c_172 => ?_) (fun c_172 => ?_)
      · refine jk_aload_n K dX3_minuteOn_178 rfl 1 rfl ?_
        refine jk_iload_n K dX3_minuteOn_179 rfl 0 rfl ?_
        refine jk_iconst (x := 0) K dX3_minuteOn_180 rfl ?_
        refine jk_cVi K (n' := 0) (k' := 0) [.int (nI j), .int (nI 0)] [] dX3_minuteOn_181 (hb_X3_hi _ hl E X Y m th (hm_m2 S N A n n).1 (hm_m4 (hm_m3 (hm_m2 S N A n n).2 A n) A j) A n hn j 0 (Nat.lt_of_lt_of_le hlt hn) (by decide)) gX3_minuteOn_X3_hi rfl kd_X3_hi ⟨Nat.le_of_ble_eq_true rfl, Nat.le_of_ble_eq_true rfl⟩ (X.length + 0) hm_x0 rfl (Nat.le_of_ble_eq_true rfl) ⟨rfl, rfl⟩ ⟨Nat.le_of_ble_eq_true rfl, Nat.le_of_ble_eq_true rfl⟩ rfl (fun _ _ => ?_)
        refine jk_if_ne (tgt := 195) K dX3_minuteOn_184 rfl (fun c_184 => ?_) (fun c_184 => ?_)
        · refine jk_aload_n K dX3_minuteOn_195 rfl 1 rfl ?_
          refine jk_iload_n K dX3_minuteOn_196 rfl 0 rfl ?_
          refine jk_iconst (x := 0) K dX3_minuteOn_197 rfl ?_
          refine jk_aload_n K dX3_minuteOn_198 rfl 1 rfl ?_
          refine jk_iload_n K dX3_minuteOn_199 rfl 0 rfl ?_
          refine jk_iconst (x := 0) K dX3_minuteOn_200 rfl ?_
          refine jk_cVi K (n' := 0) (k' := 0) [.int (nI j), .int (nI 0)] [.int 0, .int (nI j), .ref (m 0)] dX3_minuteOn_201 (hb_X3_hi _ hl E X Y m th (hm_m2 S N A n n).1 (hm_m4 (hm_m3 (hm_m2 S N A n n).2 A n) A j) A n hn j 0 (Nat.lt_of_lt_of_le hlt hn) (by decide)) gX3_minuteOn_X3_hi rfl kd_X3_hi ⟨Nat.le_of_ble_eq_true rfl, Nat.le_of_ble_eq_true rfl⟩ (X.length + 0) hm_x0 rfl (Nat.le_of_ble_eq_true rfl) ⟨rfl, rfl⟩ ⟨Nat.le_of_ble_eq_true rfl, Nat.le_of_ble_eq_true rfl⟩ rfl (fun _ _ => ?_)
          refine jk_iconst (x := 1) K dX3_minuteOn_204 rfl ?_
          refine jk_isub K dX3_minuteOn_205 ?_
          refine jk_cVv K (n' := 0) (k' := 0) [.int (nI j), .int (nI 0), .int (((hm_m4 (hm_m3 (hm_m2 S N A n n).2 A n) A j) j 0) - 1)] [] dX3_minuteOn_206 (hb_X3_let _ hl E X Y m th (hm_m2 S N A n n).1 (hm_m4 (hm_m3 (hm_m2 S N A n n).2 A n) A j) A n hn j 0 (Nat.lt_of_lt_of_le hlt hn) (by decide) (((hm_m4 (hm_m3 (hm_m2 S N A n n).2 A n) A j) j 0) - 1)) gX3_minuteOn_X3_let rfl kd_X3_let ⟨Nat.le_of_ble_eq_true rfl, Nat.le_of_ble_eq_true rfl⟩ (X.length + 0) hm_x0 rfl (Nat.le_of_ble_eq_true rfl) ⟨rfl, rfl⟩ ⟨Nat.le_of_ble_eq_true rfl, Nat.le_of_ble_eq_true rfl⟩ rfl (fun _ _ => ?_)
          refine jk_iinc (v := (nI (j + 1))) (lv' := [(1, .int (nI (j + 1))), (0, .ref (m 0))]) K dX3_minuteOn_209 0 rfl (nI_1 j) (by decide) rfl ?_
          refine jk_goto (tgt := 157) K dX3_minuteOn_212 rfl ?_
          refine jk_ws (ws' := (hm_M E X Y m th (nI n) (hm_m2 S N A n n).1 (hm_m4 (hm_m3 (hm_m2 S N A n n).2 A n) A (j + 1)) A)) (by first | rfl | (simp [hm_m4_s, c_162, c_172, c_184]; done)) ?_
          exact ih hlt
        · refine jk_aload_n K dX3_minuteOn_187 rfl 1 rfl ?_
          refine jk_iload_n K dX3_minuteOn_188 rfl 0 rfl ?_
          refine jk_cVv K (n' := 0) (k' := 0) [.int (nI j)] [] dX3_minuteOn_189 (hb_X3_dark _ hl E X Y m th (hm_m2 S N A n n).1 (hm_m4 (hm_m3 (hm_m2 S N A n n).2 A n) A j) A n hn j (Nat.lt_of_lt_of_le hlt hn)) gX3_minuteOn_X3_dark rfl kd_X3_dark ⟨Nat.le_of_ble_eq_true rfl, Nat.le_of_ble_eq_true rfl⟩ (X.length + 0) hm_x0 rfl (Nat.le_of_ble_eq_true rfl) ⟨rfl, rfl⟩ ⟨Nat.le_of_ble_eq_true rfl, Nat.le_of_ble_eq_true rfl⟩ rfl (fun _ _ => ?_)
          refine jk_goto (tgt := 209) K dX3_minuteOn_192 rfl ?_
          refine jk_iinc (v := (nI (j + 1))) (lv' := [(1, .int (nI (j + 1))), (0, .ref (m 0))]) K dX3_minuteOn_209 0 rfl (nI_1 j) (by decide) rfl ?_
          refine jk_goto (tgt := 157) K dX3_minuteOn_212 rfl ?_
          refine jk_ws (ws' := (hm_M E X Y m th (nI n) (hm_m2 S N A n n).1 (hm_m4 (hm_m3 (hm_m2 S N A n n).2 A n) A (j + 1)) A)) (by first | rfl | (simp [hm_m4_s, c_162, c_172, c_184]; done)) ?_
          exact ih hlt
      · refine jk_goto (tgt := 209) K dX3_minuteOn_175 rfl ?_
        refine jk_iinc (v := (nI (j + 1))) (lv' := [(1, .int (nI (j + 1))), (0, .ref (m 0))]) K dX3_minuteOn_209 0 rfl (nI_1 j) (by decide) rfl ?_
        refine jk_goto (tgt := 157) K dX3_minuteOn_212 rfl ?_
        refine jk_ws (ws' := (hm_M E X Y m th (nI n) (hm_m2 S N A n n).1 (hm_m4 (hm_m3 (hm_m2 S N A n n).2 A n) A (j + 1)) A)) (by first | rfl | (simp [hm_m4_s, c_162, c_172]; done)) ?_
        exact ih hlt
  have hL3 : ∀ j, j ≤ n → jk_J Γ E (hm_M E X Y m th (nI n) (hm_m2 S N A n n).1 (hm_m3 (hm_m2 S N A n n).2 A j) A) 0 0 60 [(1, .int (nI j)), (0, .ref (m 0))] [] := by
    refine jk_loop (fun j hj ih => ?_)
    have hso3 : hm_so (hm_m3 (hm_m2 S N A n n).2 A j) := hm_so_m3 (hm_so_m2 hn hso n hn) j (by omega)
    refine jk_iload_n K dX3_minuteOn_60 rfl 0 rfl ?_
    refine jk_aload_n K dX3_minuteOn_61 rfl 1 rfl ?_
    refine jk_get (C := RX3) (T := TX3) (N := 11) (nm := "hills") (ds := "I") (v := .int (nI n)) K dX3_minuteOn_62 hin_RX3 (by decide +kernel) (X.length + 0) hm_x0 rfl 1 rfl (by decide) rfl ?_
    refine jk_icmp_ge (tgt := 155) K dX3_minuteOn_65 rfl (fun c_65 => ?_) (fun c_65 => ?_)
    · have hjn : j = n := hb_ex rfl (by omega) hj c_65
      refine jk_iconst (x := 0) K dX3_minuteOn_155 rfl ?_
      refine jk_istore_n (lv' := [(1, .int 0), (0, .ref (m 0))]) K dX3_minuteOn_156 rfl (by decide) rfl ?_
      refine jk_lv (lv' := [(1, .int (nI 0)), (0, .ref (m 0))]) (by first | rfl | (simp [hm_m4_s, c_65]; done)) ?_
      refine jk_ws (ws' := (hm_M E X Y m th (nI n) (hm_m2 S N A n n).1 (hm_m4 (hm_m3 (hm_m2 S N A n n).2 A n) A 0) A)) (by rw [hjn]; rfl) ?_
      exact hL4 0 (Nat.zero_le _)
    · have hlt : j < n := hb_in rfl (by omega) hj c_65
      refine jk_aload_n K dX3_minuteOn_68 rfl 1 rfl ?_
      refine jk_get (C := RX3) (T := TX3) (N := 11) (nm := "was") (ds := "[I") (v := .ref (m 8)) K dX3_minuteOn_69 hin_RX3 (by decide +kernel) (X.length + 0) hm_x0 rfl 8 rfl (by decide) rfl ?_
      refine jk_iload_n K dX3_minuteOn_72 rfl 0 rfl ?_
      refine jk_iald (v := (A 8 j)) K dX3_minuteOn_73 (X.length + 7) hm_a8 (vp_in_nI (by omega) (by decide)) (by rw [nI_clamp (by omega)]) ?_
      refine jk_iconst (x := 1) K dX3_minuteOn_74 rfl ?_
      refine jk_icmp_eq (tgt := 81) K dX3_minuteOn_75 rfl (fun c_75 => ?_) (fun c_75 => ?_)
      · refine jk_aload_n K dX3_minuteOn_81 rfl 1 rfl ?_
        refine jk_iload_n K dX3_minuteOn_82 rfl 0 rfl ?_
        refine jk_iconst (x := 2) K dX3_minuteOn_83 rfl ?_
        refine jk_aload_n K dX3_minuteOn_84 rfl 1 rfl ?_
        refine jk_iload_n K dX3_minuteOn_85 rfl 0 rfl ?_
        refine jk_iconst (x := 2) K dX3_minuteOn_86 rfl ?_
        refine jk_cVi K (n' := 0) (k' := 0) [.int (nI j), .int (nI 2)] [.int 2, .int (nI j), .ref (m 0)] dX3_minuteOn_87 (hb_X3_hi _ hl E X Y m th (hm_m2 S N A n n).1 (hm_m3 (hm_m2 S N A n n).2 A j) A n hn j 2 (Nat.lt_of_lt_of_le hlt hn) (by decide)) gX3_minuteOn_X3_hi rfl kd_X3_hi ⟨Nat.le_of_ble_eq_true rfl, Nat.le_of_ble_eq_true rfl⟩ (X.length + 0) hm_x0 rfl (Nat.le_of_ble_eq_true rfl) ⟨rfl, rfl⟩ ⟨Nat.le_of_ble_eq_true rfl, Nat.le_of_ble_eq_true rfl⟩ rfl (fun _ _ => ?_)
        refine jk_iconst (x := 1) K dX3_minuteOn_90 rfl ?_
        refine jk_isub K dX3_minuteOn_91 ?_
        refine jk_cVv K (n' := 0) (k' := 0) [.int (nI j), .int (nI 2), .int (((hm_m3 (hm_m2 S N A n n).2 A j) j 2) - 1)] [] dX3_minuteOn_92 (hb_X3_let _ hl E X Y m th (hm_m2 S N A n n).1 (hm_m3 (hm_m2 S N A n n).2 A j) A n hn j 2 (Nat.lt_of_lt_of_le hlt hn) (by decide) (((hm_m3 (hm_m2 S N A n n).2 A j) j 2) - 1)) gX3_minuteOn_X3_let rfl kd_X3_let ⟨Nat.le_of_ble_eq_true rfl, Nat.le_of_ble_eq_true rfl⟩ (X.length + 0) hm_x0 rfl (Nat.le_of_ble_eq_true rfl) ⟨rfl, rfl⟩ ⟨Nat.le_of_ble_eq_true rfl, Nat.le_of_ble_eq_true rfl⟩ rfl (fun _ _ => ?_)
        refine jk_aload_n K dX3_minuteOn_95 rfl 1 rfl ?_
        refine jk_iload_n K dX3_minuteOn_96 rfl 0 rfl ?_
        refine jk_iconst (x := 2) K dX3_minuteOn_97 rfl ?_
        refine jk_cVi K (n' := 0) (k' := 0) [.int (nI j), .int (nI 2)] [] dX3_minuteOn_98 (hb_X3_hi _ hl E X Y m th (hm_m2 S N A n n).1 (va_up (hm_m3 (hm_m2 S N A n n).2 A j) j (hb_fu ((hm_m3 (hm_m2 S N A n n).2 A j) j) 2 (((hm_m3 (hm_m2 S N A n n).2 A j) j 2) - 1))) A n hn j 2 (Nat.lt_of_lt_of_le hlt hn) (by decide)) gX3_minuteOn_X3_hi rfl kd_X3_hi ⟨Nat.le_of_ble_eq_true rfl, Nat.le_of_ble_eq_true rfl⟩ (X.length + 0) hm_x0 rfl (Nat.le_of_ble_eq_true rfl) ⟨rfl, rfl⟩ ⟨Nat.le_of_ble_eq_true rfl, Nat.le_of_ble_eq_true rfl⟩ rfl (fun _ _ => ?_)
        refine jk_st (st' := [.int (((hm_m3 (hm_m2 S N A n n).2 A j) j 2) - 1)]) (by rw [va_up_self] <;> rfl) ?_
        refine jk_if_le (tgt := 107) K dX3_minuteOn_101 rfl (fun c_101 => ?_) (fun c_101 => ?_)
        · refine jk_aload_n K dX3_minuteOn_107 rfl 1 rfl ?_
          refine jk_iload_n K dX3_minuteOn_108 rfl 0 rfl ?_
          refine jk_iconst (x := 1) K dX3_minuteOn_109 rfl ?_
          refine jk_iconst (x := 2) K dX3_minuteOn_110 rfl ?_
          refine jk_cVv K (n' := 0) (k' := 0) [.int (nI j), .int (nI 1), .int 2] [] dX3_minuteOn_111 (hb_X3_let _ hl E X Y m th (hm_m2 S N A n n).1 (va_up (hm_m3 (hm_m2 S N A n n).2 A j) j (hb_fu ((hm_m3 (hm_m2 S N A n n).2 A j) j) 2 (((hm_m3 (hm_m2 S N A n n).2 A j) j 2) - 1))) A n hn j 1 (Nat.lt_of_lt_of_le hlt hn) (by decide) 2) gX3_minuteOn_X3_let rfl kd_X3_let ⟨Nat.le_of_ble_eq_true rfl, Nat.le_of_ble_eq_true rfl⟩ (X.length + 0) hm_x0 rfl (Nat.le_of_ble_eq_true rfl) ⟨rfl, rfl⟩ ⟨Nat.le_of_ble_eq_true rfl, Nat.le_of_ble_eq_true rfl⟩ rfl (fun _ _ => ?_)
          refine jk_ws (ws' := (hm_M E X Y m th (nI n) (hm_m2 S N A n n).1 (va_up (hm_m3 (hm_m2 S N A n n).2 A j) j (hb_fu (hb_fu ((hm_m3 (hm_m2 S N A n n).2 A j) j) 2 (((hm_m3 (hm_m2 S N A n n).2 A j) j 2) - 1)) 1 2)) A)) (by rw [va_up_self, hb_up_up]) ?_
          refine jk_aload_n K dX3_minuteOn_114 rfl 1 rfl ?_
          refine jk_iload_n K dX3_minuteOn_115 rfl 0 rfl ?_
          refine jk_iconst (x := 4) K dX3_minuteOn_116 rfl ?_
          refine jk_cVi K (n' := 0) (k' := 0) [.int (nI j), .int (nI 4)] [] dX3_minuteOn_117 (hb_X3_hi _ hl E X Y m th (hm_m2 S N A n n).1 (va_up (hm_m3 (hm_m2 S N A n n).2 A j) j (hb_fu (hb_fu ((hm_m3 (hm_m2 S N A n n).2 A j) j) 2 (((hm_m3 (hm_m2 S N A n n).2 A j) j 2) - 1)) 1 2)) A n hn j 4 (Nat.lt_of_lt_of_le hlt hn) (by decide)) gX3_minuteOn_X3_hi rfl kd_X3_hi ⟨Nat.le_of_ble_eq_true rfl, Nat.le_of_ble_eq_true rfl⟩ (X.length + 0) hm_x0 rfl (Nat.le_of_ble_eq_true rfl) ⟨rfl, rfl⟩ ⟨Nat.le_of_ble_eq_true rfl, Nat.le_of_ble_eq_true rfl⟩ rfl (fun _ _ => ?_)
          refine jk_st (st' := [.int (((hm_m3 (hm_m2 S N A n n).2 A j) j) 4)]) (by rw [va_up_self] <;> rfl) ?_
          refine jk_istore_n (lv' := [(2, .int (((hm_m3 (hm_m2 S N A n n).2 A j) j) 4)), (1, .int (nI j)), (0, .ref (m 0))]) K dX3_minuteOn_120 rfl (by decide) rfl ?_
          refine jk_aload_n K dX3_minuteOn_121 rfl 2 rfl ?_
          refine jk_get (C := RX3) (T := TX3) (N := 11) (nm := "post") (ds := "[Z") (v := .ref (m 4)) K dX3_minuteOn_122 hin_RX3 (by decide +kernel) (X.length + 0) hm_x0 rfl 4 rfl (by decide) rfl ?_
          refine jk_iload_n K dX3_minuteOn_125 rfl 1 rfl ?_
          refine jk_zald (v := (hb_zb (A 4 j))) K dX3_minuteOn_126 (X.length + 3) hm_a4 (vp_in_nI (by omega) (by decide)) (by rw [nI_clamp (by omega)]) ?_
          refine jk_if_eq (tgt := 149) K dX3_minuteOn_127 rfl (fun c_127 => ?_) (fun c_127 => ?_)
          · refine jk_iinc (v := (nI (j + 1))) (lv' := [(1, .int (nI (j + 1))), (2, .int (((hm_m3 (hm_m2 S N A n n).2 A j) j) 4)), (0, .ref (m 0))]) K dX3_minuteOn_149 1 rfl (nI_1 j) (by decide) rfl ?_
            refine jk_goto (tgt := 60) K dX3_minuteOn_152 rfl ?_
            refine jk_sub (lv' := [(1, .int (nI (j + 1))), (0, .ref (m 0))]) [0, 2] rfl ?_
            refine jk_ws (ws' := (hm_M E X Y m th (nI n) (hm_m2 S N A n n).1 (hm_m3 (hm_m2 S N A n n).2 A (j + 1)) A)) (by rw [hm_m3_s, if_pos c_75, if_neg (Int32.not_lt.mpr c_101)]; unfold hm_sb; rw [if_pos c_127, hb_up_up, va_up_self]) ?_
            exact ih hlt
          · refine jk_iload_n K dX3_minuteOn_130 rfl 0 rfl ?_
            refine jk_iconst (x := (-1)) K dX3_minuteOn_131 rfl ?_
            refine jk_icmp_eq (tgt := 149) K dX3_minuteOn_132 rfl (fun c_132 => ?_) (fun c_132 => ?_)
            · refine jk_iinc (v := (nI (j + 1))) (lv' := [(1, .int (nI (j + 1))), (2, .int (((hm_m3 (hm_m2 S N A n n).2 A j) j) 4)), (0, .ref (m 0))]) K dX3_minuteOn_149 1 rfl (nI_1 j) (by decide) rfl ?_
              refine jk_goto (tgt := 60) K dX3_minuteOn_152 rfl ?_
              refine jk_sub (lv' := [(1, .int (nI (j + 1))), (0, .ref (m 0))]) [0, 2] rfl ?_
              refine jk_ws (ws' := (hm_M E X Y m th (nI n) (hm_m2 S N A n n).1 (hm_m3 (hm_m2 S N A n n).2 A (j + 1)) A)) (by rw [hm_m3_s, if_pos c_75, if_neg (Int32.not_lt.mpr c_101)]; unfold hm_sb; rw [if_neg c_127, va_up_self, hb_up_up, if_pos (show hb_fu ((hm_m3 (hm_m2 S N A n n).2 A j) j) 2 ((hm_m3 (hm_m2 S N A n n).2 A j) j 2 - 1) 4 = -1 from c_132)]) ?_
              exact ih hlt
            · obtain ⟨s, hs, hse⟩ := (hso3 j (by omega)).resolve_left c_132
              refine jk_lv (lv' := [(2, .int (nI s)), (1, .int (nI j)), (0, .ref (m 0))]) (by rw [hse]) ?_
              refine jk_aload_n K dX3_minuteOn_135 rfl 2 rfl ?_
              refine jk_iload_n K dX3_minuteOn_136 rfl 0 rfl ?_
              refine jk_iconst (x := 5) K dX3_minuteOn_137 rfl ?_
              refine jk_aload_n K dX3_minuteOn_138 rfl 2 rfl ?_
              refine jk_iload_n K dX3_minuteOn_139 rfl 0 rfl ?_
              refine jk_iconst (x := 5) K dX3_minuteOn_140 rfl ?_
              refine jk_cVi K (n' := 0) (k' := 0) [.int (nI s), .int (nI 5)] [.int 5, .int (nI s), .ref (m 0)] dX3_minuteOn_141 (hb_X3_hi _ hl E X Y m th (hm_m2 S N A n n).1 (va_up (hm_m3 (hm_m2 S N A n n).2 A j) j (hb_fu (hb_fu ((hm_m3 (hm_m2 S N A n n).2 A j) j) 2 (((hm_m3 (hm_m2 S N A n n).2 A j) j 2) - 1)) 1 2)) A n hn s 5 hs (by decide)) gX3_minuteOn_X3_hi rfl kd_X3_hi ⟨Nat.le_of_ble_eq_true rfl, Nat.le_of_ble_eq_true rfl⟩ (X.length + 0) hm_x0 rfl (Nat.le_of_ble_eq_true rfl) ⟨rfl, rfl⟩ ⟨Nat.le_of_ble_eq_true rfl, Nat.le_of_ble_eq_true rfl⟩ rfl (fun _ _ => ?_)
              refine jk_iconst (x := 1) K dX3_minuteOn_144 rfl ?_
              refine jk_iadd K dX3_minuteOn_145 ?_
              refine jk_cVv K (n' := 0) (k' := 0) [.int (nI s), .int (nI 5), .int (((va_up (hm_m3 (hm_m2 S N A n n).2 A j) j (hb_fu (hb_fu ((hm_m3 (hm_m2 S N A n n).2 A j) j) 2 (((hm_m3 (hm_m2 S N A n n).2 A j) j 2) - 1)) 1 2)) s 5) + 1)] [] dX3_minuteOn_146 (hb_X3_let _ hl E X Y m th (hm_m2 S N A n n).1 (va_up (hm_m3 (hm_m2 S N A n n).2 A j) j (hb_fu (hb_fu ((hm_m3 (hm_m2 S N A n n).2 A j) j) 2 (((hm_m3 (hm_m2 S N A n n).2 A j) j 2) - 1)) 1 2)) A n hn s 5 hs (by decide) (((va_up (hm_m3 (hm_m2 S N A n n).2 A j) j (hb_fu (hb_fu ((hm_m3 (hm_m2 S N A n n).2 A j) j) 2 (((hm_m3 (hm_m2 S N A n n).2 A j) j 2) - 1)) 1 2)) s 5) + 1)) gX3_minuteOn_X3_let rfl kd_X3_let ⟨Nat.le_of_ble_eq_true rfl, Nat.le_of_ble_eq_true rfl⟩ (X.length + 0) hm_x0 rfl (Nat.le_of_ble_eq_true rfl) ⟨rfl, rfl⟩ ⟨Nat.le_of_ble_eq_true rfl, Nat.le_of_ble_eq_true rfl⟩ rfl (fun _ _ => ?_)
              refine jk_iinc (v := (nI (j + 1))) (lv' := [(1, .int (nI (j + 1))), (2, .int (nI s)), (0, .ref (m 0))]) K dX3_minuteOn_149 1 rfl (nI_1 j) (by decide) rfl ?_
              refine jk_goto (tgt := 60) K dX3_minuteOn_152 rfl ?_
              refine jk_sub (lv' := [(1, .int (nI (j + 1))), (0, .ref (m 0))]) [0, 2] rfl ?_
              refine jk_ws (ws' := (hm_M E X Y m th (nI n) (hm_m2 S N A n n).1 (hm_m3 (hm_m2 S N A n n).2 A (j + 1)) A)) (by rw [hm_m3_s, if_pos c_75, if_neg (Int32.not_lt.mpr c_101)]; unfold hm_sb; rw [if_neg c_127, va_up_self, hb_up_up, if_neg (show ¬ hb_fu ((hm_m3 (hm_m2 S N A n n).2 A j) j) 2 ((hm_m3 (hm_m2 S N A n n).2 A j) j 2 - 1) 4 = -1 from c_132), show hb_fu ((hm_m3 (hm_m2 S N A n n).2 A j) j) 2 ((hm_m3 (hm_m2 S N A n n).2 A j) j 2 - 1) 4 = nI s from hse, nI_clamp (by omega)]) ?_
              exact ih hlt
        · refine jk_goto (tgt := 149) K dX3_minuteOn_104 rfl ?_
          refine jk_iinc (v := (nI (j + 1))) (lv' := [(1, .int (nI (j + 1))), (0, .ref (m 0))]) K dX3_minuteOn_149 0 rfl (nI_1 j) (by decide) rfl ?_
          refine jk_goto (tgt := 60) K dX3_minuteOn_152 rfl ?_
          refine jk_ws (ws' := (hm_M E X Y m th (nI n) (hm_m2 S N A n n).1 (hm_m3 (hm_m2 S N A n n).2 A (j + 1)) A)) (by rw [hm_m3_s, if_pos c_75, if_pos (Int32.not_le.mp c_101)]) ?_
          exact ih hlt
      · refine jk_goto (tgt := 149) K dX3_minuteOn_78 rfl ?_
        refine jk_iinc (v := (nI (j + 1))) (lv' := [(1, .int (nI (j + 1))), (0, .ref (m 0))]) K dX3_minuteOn_149 0 rfl (nI_1 j) (by decide) rfl ?_
        refine jk_goto (tgt := 60) K dX3_minuteOn_152 rfl ?_
        refine jk_ws (ws' := (hm_M E X Y m th (nI n) (hm_m2 S N A n n).1 (hm_m3 (hm_m2 S N A n n).2 A (j + 1)) A)) (by rw [hm_m3_s, if_neg c_75]) ?_
        exact ih hlt
  have hL2 : ∀ j, j ≤ n → jk_J Γ E (hm_M E X Y m th (nI n) (hm_m2 S N A n j).1 (hm_m2 S N A n j).2 A) 0 0 30 [(1, .int (nI j)), (0, .ref (m 0))] [] := by
    refine jk_loop (fun j hj ih => ?_)
    refine jk_iload_n K dX3_minuteOn_30 rfl 0 rfl ?_
    refine jk_aload_n K dX3_minuteOn_31 rfl 1 rfl ?_
    refine jk_get (C := RX3) (T := TX3) (N := 11) (nm := "hills") (ds := "I") (v := .int (nI n)) K dX3_minuteOn_32 hin_RX3 (by decide +kernel) (X.length + 0) hm_x0 rfl 1 rfl (by decide) rfl ?_
    refine jk_icmp_ge (tgt := 58) K dX3_minuteOn_35 rfl (fun c_35 => ?_) (fun c_35 => ?_)
    · have hjn : j = n := hb_ex rfl (by omega) hj c_35
      refine jk_iconst (x := 0) K dX3_minuteOn_58 rfl ?_
      refine jk_istore_n (lv' := [(1, .int 0), (0, .ref (m 0))]) K dX3_minuteOn_59 rfl (by decide) rfl ?_
      refine jk_lv (lv' := [(1, .int (nI 0)), (0, .ref (m 0))]) (by first | rfl | (simp [c_35]; done)) ?_
      refine jk_ws (ws' := (hm_M E X Y m th (nI n) (hm_m2 S N A n n).1 (hm_m3 (hm_m2 S N A n n).2 A 0) A)) (by rw [hjn]; rfl) ?_
      exact hL3 0 (Nat.zero_le _)
    · have hlt : j < n := hb_in rfl (by omega) hj c_35
      refine jk_aload_n K dX3_minuteOn_38 rfl 1 rfl ?_
      refine jk_get (C := RX3) (T := TX3) (N := 11) (nm := "was") (ds := "[I") (v := .ref (m 8)) K dX3_minuteOn_39 hin_RX3 (by decide +kernel) (X.length + 0) hm_x0 rfl 8 rfl (by decide) rfl ?_
      refine jk_iload_n K dX3_minuteOn_42 rfl 0 rfl ?_
      refine jk_iald (v := (A 8 j)) K dX3_minuteOn_43 (X.length + 7) hm_a8 (vp_in_nI (by omega) (by decide)) (by rw [nI_clamp (by omega)]) ?_
      refine jk_if_ne (tgt := 52) K dX3_minuteOn_44 rfl (fun c_44 => ?_) (fun c_44 => ?_)
      · refine jk_iinc (v := (nI (j + 1))) (lv' := [(1, .int (nI (j + 1))), (0, .ref (m 0))]) K dX3_minuteOn_52 0 rfl (nI_1 j) (by decide) rfl ?_
        refine jk_goto (tgt := 30) K dX3_minuteOn_55 rfl ?_
        refine jk_ws (ws' := (hm_M E X Y m th (nI n) (hm_m2 S N A n (j + 1)).1 (hm_m2 S N A n (j + 1)).2 A)) (by rw [hm_m2_s, if_neg c_44]) ?_
        exact ih hlt
      · refine jk_aload_n K dX3_minuteOn_47 rfl 1 rfl ?_
        refine jk_iload_n K dX3_minuteOn_48 rfl 0 rfl ?_
        refine jk_cVv K (n' := 0) (k' := 0) [.int (nI j)] [] dX3_minuteOn_49 (hb_X3_look _ hl E X Y m th (hm_m2 S N A n j).1 (hm_m2 S N A n j).2 A n hn j (Nat.lt_of_lt_of_le hlt hn)) gX3_minuteOn_X3_look rfl kd_X3_look ⟨Nat.le_of_ble_eq_true rfl, Nat.le_of_ble_eq_true rfl⟩ (X.length + 0) hm_x0 rfl (Nat.le_of_ble_eq_true rfl) ⟨rfl, rfl⟩ ⟨Nat.le_of_ble_eq_true rfl, Nat.le_of_ble_eq_true rfl⟩ rfl (fun _ _ => ?_)
        refine jk_iinc (v := (nI (j + 1))) (lv' := [(1, .int (nI (j + 1))), (0, .ref (m 0))]) K dX3_minuteOn_52 0 rfl (nI_1 j) (by decide) rfl ?_
        refine jk_goto (tgt := 30) K dX3_minuteOn_55 rfl ?_
        refine jk_ws (ws' := (hm_M E X Y m th (nI n) (hm_m2 S N A n (j + 1)).1 (hm_m2 S N A n (j + 1)).2 A)) (by rw [hm_m2_s, if_pos c_44]) ?_
        exact ih hlt
  have hL1 : ∀ j, j ≤ n → jk_J Γ E (hm_M E X Y m th (nI n) S N (va_up a 8 (hm_m1 N (a 8) j))) 0 0 2 [(1, .int (nI j)), (0, .ref (m 0))] [] := by
    refine jk_loop (fun j hj ih => ?_)
    refine jk_iload_n K dX3_minuteOn_2 rfl 0 rfl ?_
    refine jk_aload_n K dX3_minuteOn_3 rfl 1 rfl ?_
    refine jk_get (C := RX3) (T := TX3) (N := 11) (nm := "hills") (ds := "I") (v := .int (nI n)) K dX3_minuteOn_4 hin_RX3 (by decide +kernel) (X.length + 0) hm_x0 rfl 1 rfl (by decide) rfl ?_
    refine jk_icmp_ge (tgt := 28) K dX3_minuteOn_7 rfl (fun c_7 => ?_) (fun c_7 => ?_)
    · have hjn : j = n := hb_ex rfl (by omega) hj c_7
      refine jk_iconst (x := 0) K dX3_minuteOn_28 rfl ?_
      refine jk_istore_n (lv' := [(1, .int 0), (0, .ref (m 0))]) K dX3_minuteOn_29 rfl (by decide) rfl ?_
      refine jk_lv (lv' := [(1, .int (nI 0)), (0, .ref (m 0))]) (by first | rfl | (simp [c_7]; done)) ?_
      refine jk_ws (ws' := (hm_M E X Y m th (nI n) (hm_m2 S N A n 0).1 (hm_m2 S N A n 0).2 A)) (by rw [hjn, hA]; rfl) ?_
      exact hL2 0 (Nat.zero_le _)
    · have hlt : j < n := hb_in rfl (by omega) hj c_7
      refine jk_aload_n K dX3_minuteOn_10 rfl 1 rfl ?_
      refine jk_get (C := RX3) (T := TX3) (N := 11) (nm := "was") (ds := "[I") (v := .ref (m 8)) K dX3_minuteOn_11 hin_RX3 (by decide +kernel) (X.length + 0) hm_x0 rfl 8 rfl (by decide) rfl ?_
      refine jk_iload_n K dX3_minuteOn_14 rfl 0 rfl ?_
      refine jk_aload_n K dX3_minuteOn_15 rfl 1 rfl ?_
      refine jk_iload_n K dX3_minuteOn_16 rfl 0 rfl ?_
      refine jk_iconst (x := 1) K dX3_minuteOn_17 rfl ?_
      refine jk_cVi K (n' := 0) (k' := 0) [.int (nI j), .int (nI 1)] [.int (nI j), .ref (m 8)] dX3_minuteOn_18 (hb_X3_hi _ hl E X Y m th S N (va_up a 8 (hm_m1 N (a 8) j)) n hn j 1 (Nat.lt_of_lt_of_le hlt hn) (by decide)) gX3_minuteOn_X3_hi rfl kd_X3_hi ⟨Nat.le_of_ble_eq_true rfl, Nat.le_of_ble_eq_true rfl⟩ (X.length + 0) hm_x0 rfl (Nat.le_of_ble_eq_true rfl) ⟨rfl, rfl⟩ ⟨Nat.le_of_ble_eq_true rfl, Nat.le_of_ble_eq_true rfl⟩ rfl (fun _ _ => ?_)
      refine jk_iast (w' := (hm_M E X Y m th (nI n) S N (va_up a 8 (upd (hm_m1 N (a 8) j) j (N j 1))))) K dX3_minuteOn_21 (X.length + 7) hm_a8 (vp_in_nI (by omega) (by decide)) (by rw [nI_clamp (by omega), hm_t8, hb_up_up, va_up_self]) ?_
      refine jk_iinc (v := (nI (j + 1))) (lv' := [(1, .int (nI (j + 1))), (0, .ref (m 0))]) K dX3_minuteOn_22 0 rfl (nI_1 j) (by decide) rfl ?_
      refine jk_goto (tgt := 2) K dX3_minuteOn_25 rfl ?_
      refine jk_ws (ws' := (hm_M E X Y m th (nI n) S N (va_up a 8 (hm_m1 N (a 8) (j + 1))))) (by first | rfl | (simp [hm_m1_s, c_7]; done)) ?_
      exact ih hlt
  refine jk_iconst (x := 0) K dX3_minuteOn_0 rfl ?_
  refine jk_istore_n (lv' := [(1, .int 0), (0, .ref (m 0))]) K dX3_minuteOn_1 rfl (by decide) rfl ?_
  refine jk_lv (lv' := [(1, .int (nI 0)), (0, .ref (m 0))]) (by first | rfl | (simp [hm_m1_s]; done)) ?_
  refine jk_ws (ws' := (hm_M E X Y m th (nI n) S N (va_up a 8 (hm_m1 N (a 8) 0)))) (by rfl) ?_
  exact hL1 0 (Nat.zero_le _)
