theorem kd_L_build : yL_build.cls ≠ "java/lang/invoke/MethodHandle" ∧ yL_build.cls ≠ "java/lang/invoke/VarHandle" ∧ (parseMethodDescriptor yL_build.desc).map (fun d => d.parameters.length) = some 2 := by decide +kernel
theorem kd_X4_isSame : yX4_isSame.cls = RX4 ∧ yX4_isSame.cls ≠ "java/lang/invoke/MethodHandle" ∧ yX4_isSame.cls ≠ "java/lang/invoke/VarHandle" ∧ (parseMethodDescriptor yX4_isSame.desc).map (fun d => d.parameters.length) = some 1 := by decide +kernel
/-! the law's end -/
def lw_Zl (Γ : jk_G) : Prop := (∀ q, jk_A Γ q → (jk_s Γ).heap.size ≤ q) ∧ ∀ (H : Heap) (ls : Array Slot) (pc : Nat), decode cL_law pc = .ok (.ireturn, 1) → jk_W Γ H [] 600130 7301079 (F0 (jk_m Γ) pc ls [.int 1])
theorem lw_done {Γ : jk_G} {E : jk_T} {n k pc : Nat} {ws : va_W} {lv : List (Nat × Value)} (hz : lw_Zl Γ) (hdg : decode cL_law pc = .ok (.ireturn, 1)) (hn : n ≤ 600130) (hk : k ≤ 7301079) : jk_J Γ E ws n k pc lv [.int 1] := fun H locs ls hP hD hS hl => W.widen hn hk (va_forget (fun q hq => hz.1 _ (hS.2.2 q hq)) (hz.2 H ls pc hdg))
set_option maxHeartbeats 60000000 in
set_option maxRecDepth 100000 in
theorem lw_loop {Γ : jk_G} {E : jk_T} (K : jk_C Γ E RL cL_law 22 wsL_law ({ frames := 14, cells := 600130, slots := 7301079, locals := 540 } : Room)) (hL : E.1.2.2.1 ≤ 260) (q : Nat) (b1 b2 : Nat → Nat) (C2 : Nat → Nat → Int32) (G2 M2 : Nat → Int32) (hz : lw_Zl Γ) : ∀ t, t ≤ 20 → ∀ u : lw_LS, iv u.2.1 (30000 + 1000 * t) u.2.2.1 u.2.2.2.1 u.2.2.2.2 → 2 ≤ u.2.1 → jk_J Γ E (lw_W E q b1 b2 [] C2 G2 M2 u) (5469 + 3000 * t) (54601 + 20000 * t) 22 [(3, .int (nI t)), (2, .ref (u.1 0)), (1, .ref q), (0, .ref E.1.2.1)] [] := by
  have hl := K.2.2.2.2.2.2.2.2.2.2
  refine jk_loop (fun t hj ih => ?_)
  intro u hiv h2
  refine jk_iload_n K dL_law_22 rfl 0 rfl ?_
  refine jk_bipush (x := (nI 20)) K dL_law_23 rfl ?_
  refine jk_icmp_ge (tgt := 947) K dL_law_25 rfl (fun c_25 => ?_) (fun c_25 => ?_)
  · obtain ⟨p, n, C, G, M⟩ := u
    have hiv : iv n (30000 + 1000 * t) C G M := hiv
    have h2 : 2 ≤ n := h2
    refine jk_ws (ws' := (hb_v1 E q b1 b2 (sm_SW E p n (sm_G G) (sm_N C) (sm_M M) ++ []) C G M C2 G2 M2)) rfl ?_
    refine jk_lv (lv' := [(3, .int (nI t)), (2, .ref (p 0)), (1, .ref q), (0, .ref E.1.2.1)]) rfl ?_
    refine jk_aload_n K dL_law_947 rfl 1 rfl ?_
    refine jk_aload_n K dL_law_948 rfl 2 rfl ?_
    refine jk_cVi K (n' := ((5469 + 3000 * t) + 530)) (k' := ((54601 + 20000 * t) + 3180)) [.ref q] [] dL_law_949 (hb_X4_isSame _ hl E q b1 b2 [] p n (30000 + 1000 * t) C G M C2 G2 M2 hiv (by omega)) gL_law_X4_isSame rfl kd_X4_isSame ⟨Nat.le_of_ble_eq_true rfl, Nat.le_of_ble_eq_true rfl⟩ ((hb_cw E q b1 b2 C G M C2 G2 M2).length + 0) (by rw [lw_sw]; exact sm_0) rfl (Nat.le_of_ble_eq_true rfl) ⟨rfl, rfl⟩ ⟨(by show _ ≤ 600130; omega), (by show _ ≤ 7301079; omega)⟩ rfl (fun _ _ => ?_)
    exact lw_done hz dL_law_952 (by omega) (by omega)
  · have hlt : t < 20 := hb_in (n := 20) rfl (by omega) hj c_25
    exact lw_A K hL q b1 b2 C2 G2 M2 t hlt (30000 + 1000 * t) (by omega) u hiv h2 (5469 + 3000 * t) (54601 + 20000 * t) (by omega) (by omega) (fun v h1 h3 => jk_wide (by omega) (by omega) (ih hlt v (by rw [show 30000 + 1000 * (t + 1) = 30000 + 1000 * t + 1000 by omega]; exact h1) h3))
set_option maxHeartbeats 60000000 in
set_option maxRecDepth 100000 in
theorem lw_begin {Γ : jk_G} {E : jk_T} (K : jk_C Γ E RL cL_law 22 wsL_law ({ frames := 14, cells := 600130, slots := 7301079, locals := 540 } : Room)) (hL : E.1.2.2.1 ≤ 260) (hz : lw_Zl Γ) : jk_J Γ E [] 0 0 0 [(0, .ref E.1.2.1)] [] := by
  have hl := K.2.2.2.2.2.2.2.2.2.2
  refine jk_new (C := RX2) (T := TX2) (N := 2) (ci := 2) (fs := [.null, .null]) K dL_law_0 (by decide +kernel) tyX2 tyX2_ok (by decide +kernel) (by decide +kernel) (by decide +kernel) rfl df2 (Nat.le_of_ble_eq_true rfl) (Nat.le_of_ble_eq_true rfl) (fun q => ?_)
  refine jk_dup K dL_law_3 rfl ?_
  refine jk_cI K (n' := 29) (k' := 482) [] [.ref q] dL_law_4 (hb_X2_init _ hl E [] q) gL_law_X2_init rfl ⟨by decide +kernel, by decide +kernel, by decide +kernel⟩ rfl (by decide +kernel) ⟨(Nat.le_of_ble_eq_true rfl), (Nat.le_of_ble_eq_true rfl)⟩ (Nat.le_of_ble_eq_true rfl) ⟨rfl, rfl⟩ ⟨(Nat.le_of_ble_eq_true rfl), (Nat.le_of_ble_eq_true rfl)⟩ rfl (fun b _ => ?_)
  refine jk_astore_n (lv' := [(1, .ref q), (0, .ref E.1.2.1)]) K dL_law_7 rfl (by decide) rfl ?_
  refine jk_ws (ws' := hb_v1 E q b.1 b.2 [] (fun _ => hb_f0) (fun _ => 0) (fun _ => 0) (fun _ => hb_f0) (fun _ => 0) (fun _ => 0)) rfl ?_
  refine jk_aload_n K dL_law_8 rfl 0 rfl ?_
  refine jk_aload_n K dL_law_9 rfl 1 rfl ?_
  refine jk_cSr K (n' := 5469) (k' := 54601) [.ref q, .ref E.1.2.1] [] dL_law_10 (hb_L_build _ hl E hL q b.1 b.2 (fun _ => hb_f0) (fun _ => 0) (fun _ => 0)) gL_law_L_build rfl kd_L_build ⟨(Nat.le_of_ble_eq_true rfl), (Nat.le_of_ble_eq_true rfl)⟩ (Nat.le_of_ble_eq_true rfl) ⟨rfl, rfl⟩ ⟨(Nat.le_of_ble_eq_true rfl), (Nat.le_of_ble_eq_true rfl)⟩ rfl (fun u hu => ?_)
  refine jk_astore_n (lv' := [(2, .ref (u.1 0)), (1, .ref q), (0, .ref E.1.2.1)]) K dL_law_13 rfl (by decide) rfl ?_
  refine jk_aload_n K dL_law_14 rfl 0 rfl ?_
  refine jk_ifnonnull (tgt := 20) K dL_law_15 rfl ?_
  refine jk_iconst (x := 0) K dL_law_20 rfl ?_
  refine jk_istore_n (lv' := [(3, .int 0), (2, .ref (u.1 0)), (1, .ref q), (0, .ref E.1.2.1)]) K dL_law_21 rfl (by decide) rfl ?_
  refine jk_lv (lv' := [(3, .int (nI 0)), (2, .ref (u.1 0)), (1, .ref q), (0, .ref E.1.2.1)]) rfl ?_
  exact lw_loop K hL q b.1 b.2 (fun _ => hb_f0) (fun _ => 0) (fun _ => 0) hz 0 (by decide) u hu.1 hu.2
