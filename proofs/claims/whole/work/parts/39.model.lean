theorem kd_X3_reach : yX3_reach.cls = RX3 ∧ yX3_reach.cls ≠ "java/lang/invoke/MethodHandle" ∧ yX3_reach.cls ≠ "java/lang/invoke/VarHandle" ∧ (parseMethodDescriptor yX3_reach.desc).map (fun d => d.parameters.length) = some 1 := by decide +kernel
set_option maxHeartbeats 4000000 in
set_option maxRecDepth 100000 in
theorem hb_X3_reach (l : Launch) (hl : l.stackTraces = false) (E : jk_T) (X Y : va_W) (m : Nat → Nat) (th : Int32) (S : Nat → Int32) (N a : Nat → Nat → Int32) (n : Nat) (hn : n ≤ 10) (i : Nat) (hi : i < n) (hso : hm_so N) : jk_Ct l yX3_reach wsX3_reach ({ frames := 4, cells := 0, slots := 0, locals := 91 } : Room) [.ref (m 0), .int (nI i)] E (hm_M E X Y m th (nI n) S N a) (fun u : (Nat → Int32) × (Nat → Int32) => some (.int (hm_re S N a n i))) (fun u => (hm_M E X Y m th (nI n) S N (va_up (va_up a 7 u.1) 8 u.2))) (fun _ => True) := by
  refine jk_of (lv := [(0, .ref (m 0)), (1, .int (nI i))]) (own := RX3) (nm := "reach") hl (by decide +kernel) rfl (Nat.le_of_ble_eq_true rfl) rfl rfl rfl (fun Γ hΓ K hnm hz => ?_)
  subst hΓ
  have hin_RX3 : ∀ w ∈ u_ws RX3 TX3 11, w ∈ wsX3_reach := by decide +kernel
  refine jk_aload_n K dX3_reach_0 rfl 0 rfl ?_
  refine jk_cVv K (n' := 0) (k' := 0) [] [] dX3_reach_1 (hb_X3_keep _ hl E X Y m th S N a n hn) gX3_reach_X3_keep rfl kd_X3_keep ⟨Nat.le_of_ble_eq_true rfl, Nat.le_of_ble_eq_true rfl⟩ (X.length + 0) hm_x0 rfl (Nat.le_of_ble_eq_true rfl) ⟨rfl, rfl⟩ ⟨Nat.le_of_ble_eq_true rfl, Nat.le_of_ble_eq_true rfl⟩ rfl (fun _ _ => ?_)
  refine jk_aload_n K dX3_reach_4 rfl 0 rfl ?_
  refine jk_iload_n K dX3_reach_5 rfl 1 rfl ?_
  refine jk_cVi K (n' := 0) (k' := 0) [.int (nI i)] [] dX3_reach_6 (hb_X3_lightNow _ hl E X Y m th S N (va_up a 7 (va_cpy (hm_now S N) (a 7) 0 0 75)) n hn i (Nat.lt_of_lt_of_le hi hn)) gX3_reach_X3_lightNow rfl kd_X3_lightNow ⟨Nat.le_of_ble_eq_true rfl, Nat.le_of_ble_eq_true rfl⟩ (X.length + 0) hm_x0 rfl (Nat.le_of_ble_eq_true rfl) ⟨rfl, rfl⟩ ⟨Nat.le_of_ble_eq_true rfl, Nat.le_of_ble_eq_true rfl⟩ rfl (fun _ _ => ?_)
  refine jk_pop K dX3_reach_9 rfl ?_
  refine jk_iconst (x := 0) K dX3_reach_10 rfl ?_
  refine jk_istore_n (lv' := [(2, .int 0), (0, .ref (m 0)), (1, .int (nI i))]) K dX3_reach_11 rfl (by decide) rfl ?_
  refine jk_iconst (x := 0) K dX3_reach_12 rfl ?_
  refine jk_istore_n (lv' := [(3, .int 0), (2, .int 0), (0, .ref (m 0)), (1, .int (nI i))]) K dX3_reach_13 rfl (by decide) rfl ?_
  have hL : ∀ j, j ≤ 100 → jk_J Γ E (hm_M E X Y m th (nI n) (hm_pm (hm_kS S (nI i)) (hm_lN N i) (hm_ka S N a) n j).1 (hm_pm (hm_kS S (nI i)) (hm_lN N i) (hm_ka S N a) n j).2.1 (va_up (hm_ka S N a) 8 (hm_pm (hm_kS S (nI i)) (hm_lN N i) (hm_ka S N a) n j).2.2)) 0 0 14 [(3, .int (nI j)), (2, .int (hm_rc (hm_kS S (nI i)) (hm_lN N i) (hm_ka S N a) n i j)), (0, .ref (m 0)), (1, .int (nI i))] [] := by
    refine jk_loop (fun j hj ih => ?_)
    refine jk_iload_n K dX3_reach_14 rfl 0 rfl ?_
    refine jk_bipush (x := (nI 100)) K dX3_reach_15 rfl ?_
    refine jk_icmp_ge (tgt := 77) K dX3_reach_17 rfl (fun c_17 => ?_) (fun c_17 => ?_)
    · have hjn : j = 100 := hb_ex (n := 100) rfl (by decide) hj c_17
      refine jk_aload_n K dX3_reach_77 rfl 2 rfl ?_
      refine jk_cVv K (n' := 0) (k' := 0) [] [] dX3_reach_78 (hb_X3_bringBack _ hl E X Y m th (hm_pm (hm_kS S (nI i)) (hm_lN N i) (hm_ka S N a) n j).1 (hm_pm (hm_kS S (nI i)) (hm_lN N i) (hm_ka S N a) n j).2.1 (va_up (hm_ka S N a) 8 (hm_pm (hm_kS S (nI i)) (hm_lN N i) (hm_ka S N a) n j).2.2) n hn S N (fun k hk => (show hm_ka S N a 7 k = _ from (pk_cpy_in (Nat.zero_le _) (by omega)).trans (congrArg (hm_now S N) (by omega))))) gX3_reach_X3_bringBack rfl kd_X3_bringBack ⟨Nat.le_of_ble_eq_true rfl, Nat.le_of_ble_eq_true rfl⟩ (X.length + 0) hm_x0 rfl (Nat.le_of_ble_eq_true rfl) ⟨rfl, rfl⟩ ⟨Nat.le_of_ble_eq_true rfl, Nat.le_of_ble_eq_true rfl⟩ rfl (fun _ _ => ?_)
      refine jk_iconst (x := 0) K dX3_reach_81 rfl ?_
      refine jk_istore_n (lv' := [(3, .int 0), (2, .int (hm_rc (hm_kS S (nI i)) (hm_lN N i) (hm_ka S N a) n i j)), (0, .ref (m 0)), (1, .int (nI i))]) K dX3_reach_82 rfl (by decide) rfl ?_
      refine jk_iconst (x := 0) K dX3_reach_83 rfl ?_
      refine jk_istore (lv' := [(4, .int 0), (3, .int 0), (2, .int (hm_rc (hm_kS S (nI i)) (hm_lN N i) (hm_ka S N a) n i j)), (0, .ref (m 0)), (1, .int (nI i))]) K dX3_reach_84 (by decide) rfl ?_
      have hT : ∀ t, t ≤ n → jk_J Γ E (hm_M E X Y m th (nI n) S N (va_up (hm_ka S N a) 8 (hm_pm (hm_kS S (nI i)) (hm_lN N i) (hm_ka S N a) n 100).2.2)) 0 0 86 [(4, .int (nI t)), (3, .int (hm_su (hm_rc (hm_kS S (nI i)) (hm_lN N i) (hm_ka S N a) n i 100) t)), (2, .int (hm_rc (hm_kS S (nI i)) (hm_lN N i) (hm_ka S N a) n i 100)), (0, .ref (m 0)), (1, .int (nI i))] [] := by
        refine jk_loop (fun t ht iht => ?_)
        refine jk_iload K dX3_reach_86 0 rfl ?_
        refine jk_aload_n K dX3_reach_88 rfl 3 rfl ?_
        refine jk_get (C := RX3) (T := TX3) (N := 11) (nm := "hills") (ds := "I") (v := .int (nI n)) K dX3_reach_89 hin_RX3 (by decide +kernel) (X.length + 0) hm_x0 rfl 1 rfl (by decide) rfl ?_
        refine jk_icmp_ge (tgt := 110) K dX3_reach_92 rfl (fun c_92 => ?_) (fun c_92 => ?_)
        · have htn : t = n := hb_ex rfl (by omega) ht c_92
          refine jk_iload_n K dX3_reach_110 rfl 1 rfl ?_
          exact jk_iret K hz dX3_reach_111 (hm_ka S N a 7, (hm_pm (hm_kS S (nI i)) (hm_lN N i) (hm_ka S N a) n 100).2.2) (by rw [htn]; rfl) trivial rfl rfl (Nat.le_of_ble_eq_true rfl) (Nat.le_of_ble_eq_true rfl)
        · have hlt3 : t < n := hb_in rfl (by omega) ht c_92
          refine jk_iload_n K dX3_reach_95 rfl 1 rfl ?_
          refine jk_iload_n K dX3_reach_96 rfl 2 rfl ?_
          refine jk_iload K dX3_reach_97 0 rfl ?_
          refine jk_ishr K dX3_reach_99 ?_
          refine jk_iconst (x := 1) K dX3_reach_100 rfl ?_
          refine jk_iand K dX3_reach_101 ?_
          refine jk_iadd K dX3_reach_102 ?_
          refine jk_istore_n (lv' := [(3, .int ((hm_su (hm_rc (hm_kS S (nI i)) (hm_lN N i) (hm_ka S N a) n i 100) t) + (((hm_rc (hm_kS S (nI i)) (hm_lN N i) (hm_ka S N a) n i 100) >>> ((nI t) &&& 31)) &&& 1))), (4, .int (nI t)), (2, .int (hm_rc (hm_kS S (nI i)) (hm_lN N i) (hm_ka S N a) n i 100)), (0, .ref (m 0)), (1, .int (nI i))]) K dX3_reach_103 rfl (by decide) rfl ?_
          refine jk_iinc (v := (nI (t + 1))) (lv' := [(4, .int (nI (t + 1))), (3, .int ((hm_su (hm_rc (hm_kS S (nI i)) (hm_lN N i) (hm_ka S N a) n i 100) t) + (((hm_rc (hm_kS S (nI i)) (hm_lN N i) (hm_ka S N a) n i 100) >>> ((nI t) &&& 31)) &&& 1))), (2, .int (hm_rc (hm_kS S (nI i)) (hm_lN N i) (hm_ka S N a) n i 100)), (0, .ref (m 0)), (1, .int (nI i))]) K dX3_reach_104 1 rfl (nI_1 t) (by decide) rfl ?_
          refine jk_goto (tgt := 86) K dX3_reach_107 rfl ?_
          refine jk_lv (lv' := [(4, .int (nI (t + 1))), (3, .int (hm_su (hm_rc (hm_kS S (nI i)) (hm_lN N i) (hm_ka S N a) n i 100) (t + 1))), (2, .int (hm_rc (hm_kS S (nI i)) (hm_lN N i) (hm_ka S N a) n i 100)), (0, .ref (m 0)), (1, .int (nI i))]) (by first | rfl | (simp [hm_su_s, c_92]; done)) ?_
          exact iht hlt3
      refine jk_lv (lv' := [(4, .int (nI 0)), (3, .int (hm_su (hm_rc (hm_kS S (nI i)) (hm_lN N i) (hm_ka S N a) n i 100) 0)), (2, .int (hm_rc (hm_kS S (nI i)) (hm_lN N i) (hm_ka S N a) n i 100)), (0, .ref (m 0)), (1, .int (nI i))]) (by rw [hjn]; rfl) ?_
      refine jk_ws (ws' := (hm_M E X Y m th (nI n) S N (va_up (hm_ka S N a) 8 (hm_pm (hm_kS S (nI i)) (hm_lN N i) (hm_ka S N a) n 100).2.2))) (by rw [hjn]) ?_
      exact hT 0 (Nat.zero_le _)
    · have hlt : j < 100 := hb_in (n := 100) rfl (by decide) hj c_17
      have hsoj : hm_so (hm_pm (hm_kS S (nI i)) (hm_lN N i) (hm_ka S N a) n j).2.1 := hm_so_pm hn (hm_so_ln hso (by omega)) j
      refine jk_aload_n K dX3_reach_20 rfl 2 rfl ?_
      refine jk_cVv K (n' := 0) (k' := 0) [] [] dX3_reach_21 (hb_X3_minuteOn _ hl E X Y m th (hm_pm (hm_kS S (nI i)) (hm_lN N i) (hm_ka S N a) n j).1 (hm_pm (hm_kS S (nI i)) (hm_lN N i) (hm_ka S N a) n j).2.1 (va_up (hm_ka S N a) 8 (hm_pm (hm_kS S (nI i)) (hm_lN N i) (hm_ka S N a) n j).2.2) n hn hsoj) gX3_reach_X3_minuteOn rfl kd_X3_minuteOn ⟨Nat.le_of_ble_eq_true rfl, Nat.le_of_ble_eq_true rfl⟩ (X.length + 0) hm_x0 rfl (Nat.le_of_ble_eq_true rfl) ⟨rfl, rfl⟩ ⟨Nat.le_of_ble_eq_true rfl, Nat.le_of_ble_eq_true rfl⟩ rfl (fun _ _ => ?_)
      refine jk_iconst (x := 0) K dX3_reach_24 rfl ?_
      refine jk_istore (lv' := [(4, .int 0), (3, .int (nI j)), (2, .int (hm_rc (hm_kS S (nI i)) (hm_lN N i) (hm_ka S N a) n i j)), (0, .ref (m 0)), (1, .int (nI i))]) K dX3_reach_25 (by decide) rfl ?_
      have hI : ∀ k, k ≤ n → jk_J Γ E (hm_M E X Y m th (nI n) (hm_pm (hm_kS S (nI i)) (hm_lN N i) (hm_ka S N a) n (j + 1)).1 (hm_pm (hm_kS S (nI i)) (hm_lN N i) (hm_ka S N a) n (j + 1)).2.1 (va_up (hm_ka S N a) 8 (hm_pm (hm_kS S (nI i)) (hm_lN N i) (hm_ka S N a) n (j + 1)).2.2)) 0 0 27 [(4, .int (nI k)), (2, .int (hm_sn (hm_pm (hm_kS S (nI i)) (hm_lN N i) (hm_ka S N a) n (j + 1)).2.1 (nI i) (hm_rc (hm_kS S (nI i)) (hm_lN N i) (hm_ka S N a) n i j) k)), (3, .int (nI j)), (0, .ref (m 0)), (1, .int (nI i))] [] := by
        refine jk_loop (fun k hk ihk => ?_)
        refine jk_iload K dX3_reach_27 0 rfl ?_
        refine jk_aload_n K dX3_reach_29 rfl 3 rfl ?_
        refine jk_get (C := RX3) (T := TX3) (N := 11) (nm := "hills") (ds := "I") (v := .int (nI n)) K dX3_reach_30 hin_RX3 (by decide +kernel) (X.length + 0) hm_x0 rfl 1 rfl (by decide) rfl ?_
        refine jk_icmp_ge (tgt := 71) K dX3_reach_33 rfl (fun c_33 => ?_) (fun c_33 => ?_)
        · have hjk : k = n := hb_ex rfl (by omega) hk c_33
          refine jk_iinc (v := (nI (j + 1))) (lv' := [(3, .int (nI (j + 1))), (4, .int (nI k)), (2, .int (hm_sn (hm_pm (hm_kS S (nI i)) (hm_lN N i) (hm_ka S N a) n (j + 1)).2.1 (nI i) (hm_rc (hm_kS S (nI i)) (hm_lN N i) (hm_ka S N a) n i j) k)), (0, .ref (m 0)), (1, .int (nI i))]) K dX3_reach_71 2 rfl (nI_1 j) (by decide) rfl ?_
          refine jk_goto (tgt := 14) K dX3_reach_74 rfl ?_
          refine jk_sub (lv' := [(3, .int (nI (j + 1))), (2, .int (hm_sn (hm_pm (hm_kS S (nI i)) (hm_lN N i) (hm_ka S N a) n (j + 1)).2.1 (nI i) (hm_rc (hm_kS S (nI i)) (hm_lN N i) (hm_ka S N a) n i j) k)), (0, .ref (m 0)), (1, .int (nI i))]) [0, 2, 3, 4] rfl ?_
          refine jk_lv (lv' := [(3, .int (nI (j + 1))), (2, .int (hm_rc (hm_kS S (nI i)) (hm_lN N i) (hm_ka S N a) n i (j + 1))), (0, .ref (m 0)), (1, .int (nI i))]) (by rw [hjk]; rfl) ?_
          exact ih hlt
        · have hlk : k < n := hb_in rfl (by omega) hk c_33
          refine jk_aload_n K dX3_reach_36 rfl 3 rfl ?_
          refine jk_iload K dX3_reach_37 0 rfl ?_
          refine jk_iconst (x := 1) K dX3_reach_39 rfl ?_
          refine jk_cVi K (n' := 0) (k' := 0) [.int (nI k), .int (nI 1)] [] dX3_reach_40 (hb_X3_hi _ hl E X Y m th (hm_pm (hm_kS S (nI i)) (hm_lN N i) (hm_ka S N a) n (j + 1)).1 (hm_pm (hm_kS S (nI i)) (hm_lN N i) (hm_ka S N a) n (j + 1)).2.1 (va_up (hm_ka S N a) 8 (hm_pm (hm_kS S (nI i)) (hm_lN N i) (hm_ka S N a) n (j + 1)).2.2) n hn k 1 (Nat.lt_of_lt_of_le hlk hn) (by decide)) gX3_reach_X3_hi rfl kd_X3_hi ⟨Nat.le_of_ble_eq_true rfl, Nat.le_of_ble_eq_true rfl⟩ (X.length + 0) hm_x0 rfl (Nat.le_of_ble_eq_true rfl) ⟨rfl, rfl⟩ ⟨Nat.le_of_ble_eq_true rfl, Nat.le_of_ble_eq_true rfl⟩ rfl (fun _ _ => ?_)
          refine jk_iconst (x := 2) K dX3_reach_43 rfl ?_
          refine jk_icmp_ne (tgt := 65) K dX3_reach_44 rfl (fun c_44 => ?_) (fun c_44 => ?_)
          · refine jk_iinc (v := (nI (k + 1))) (lv' := [(4, .int (nI (k + 1))), (2, .int (hm_sn (hm_pm (hm_kS S (nI i)) (hm_lN N i) (hm_ka S N a) n (j + 1)).2.1 (nI i) (hm_rc (hm_kS S (nI i)) (hm_lN N i) (hm_ka S N a) n i j) k)), (3, .int (nI j)), (0, .ref (m 0)), (1, .int (nI i))]) K dX3_reach_65 0 rfl (nI_1 k) (by decide) rfl ?_
            refine jk_goto (tgt := 27) K dX3_reach_68 rfl ?_
            refine jk_lv (lv' := [(4, .int (nI (k + 1))), (2, .int (hm_sn (hm_pm (hm_kS S (nI i)) (hm_lN N i) (hm_ka S N a) n (j + 1)).2.1 (nI i) (hm_rc (hm_kS S (nI i)) (hm_lN N i) (hm_ka S N a) n i j) (k + 1))), (3, .int (nI j)), (0, .ref (m 0)), (1, .int (nI i))]) (by first | rfl | (simp [hm_sn_s, c_33, c_44]; done)) ?_
            exact ihk hlk
          · refine jk_aload_n K dX3_reach_47 rfl 3 rfl ?_
            refine jk_iload K dX3_reach_48 0 rfl ?_
            refine jk_iconst (x := 4) K dX3_reach_50 rfl ?_
            refine jk_cVi K (n' := 0) (k' := 0) [.int (nI k), .int (nI 4)] [] dX3_reach_51 (hb_X3_hi _ hl E X Y m th (hm_pm (hm_kS S (nI i)) (hm_lN N i) (hm_ka S N a) n (j + 1)).1 (hm_pm (hm_kS S (nI i)) (hm_lN N i) (hm_ka S N a) n (j + 1)).2.1 (va_up (hm_ka S N a) 8 (hm_pm (hm_kS S (nI i)) (hm_lN N i) (hm_ka S N a) n (j + 1)).2.2) n hn k 4 (Nat.lt_of_lt_of_le hlk hn) (by decide)) gX3_reach_X3_hi rfl kd_X3_hi ⟨Nat.le_of_ble_eq_true rfl, Nat.le_of_ble_eq_true rfl⟩ (X.length + 0) hm_x0 rfl (Nat.le_of_ble_eq_true rfl) ⟨rfl, rfl⟩ ⟨Nat.le_of_ble_eq_true rfl, Nat.le_of_ble_eq_true rfl⟩ rfl (fun _ _ => ?_)
            refine jk_iload_n K dX3_reach_54 rfl 4 rfl ?_
            refine jk_icmp_ne (tgt := 65) K dX3_reach_55 rfl (fun c_55 => ?_) (fun c_55 => ?_)
            · refine jk_iinc (v := (nI (k + 1))) (lv' := [(4, .int (nI (k + 1))), (2, .int (hm_sn (hm_pm (hm_kS S (nI i)) (hm_lN N i) (hm_ka S N a) n (j + 1)).2.1 (nI i) (hm_rc (hm_kS S (nI i)) (hm_lN N i) (hm_ka S N a) n i j) k)), (3, .int (nI j)), (0, .ref (m 0)), (1, .int (nI i))]) K dX3_reach_65 0 rfl (nI_1 k) (by decide) rfl ?_
              refine jk_goto (tgt := 27) K dX3_reach_68 rfl ?_
              refine jk_lv (lv' := [(4, .int (nI (k + 1))), (2, .int (hm_sn (hm_pm (hm_kS S (nI i)) (hm_lN N i) (hm_ka S N a) n (j + 1)).2.1 (nI i) (hm_rc (hm_kS S (nI i)) (hm_lN N i) (hm_ka S N a) n i j) (k + 1))), (3, .int (nI j)), (0, .ref (m 0)), (1, .int (nI i))]) (by first | rfl | (simp [hm_sn_s, c_33, c_44, c_55]; done)) ?_
              exact ihk hlk
            · refine jk_iload_n K dX3_reach_58 rfl 1 rfl ?_
              refine jk_iconst (x := 1) K dX3_reach_59 rfl ?_
              refine jk_iload K dX3_reach_60 0 rfl ?_
              refine jk_ishl K dX3_reach_62 ?_
              refine jk_ior K dX3_reach_63 ?_
              refine jk_istore_n (lv' := [(2, .int ((hm_sn (hm_pm (hm_kS S (nI i)) (hm_lN N i) (hm_ka S N a) n (j + 1)).2.1 (nI i) (hm_rc (hm_kS S (nI i)) (hm_lN N i) (hm_ka S N a) n i j) k) ||| (1 <<< ((nI k) &&& 31)))), (4, .int (nI k)), (3, .int (nI j)), (0, .ref (m 0)), (1, .int (nI i))]) K dX3_reach_64 rfl (by decide) rfl ?_
              refine jk_iinc (v := (nI (k + 1))) (lv' := [(4, .int (nI (k + 1))), (2, .int ((hm_sn (hm_pm (hm_kS S (nI i)) (hm_lN N i) (hm_ka S N a) n (j + 1)).2.1 (nI i) (hm_rc (hm_kS S (nI i)) (hm_lN N i) (hm_ka S N a) n i j) k) ||| (1 <<< ((nI k) &&& 31)))), (3, .int (nI j)), (0, .ref (m 0)), (1, .int (nI i))]) K dX3_reach_65 1 rfl (nI_1 k) (by decide) rfl ?_
              refine jk_goto (tgt := 27) K dX3_reach_68 rfl ?_
              refine jk_lv (lv' := [(4, .int (nI (k + 1))), (2, .int (hm_sn (hm_pm (hm_kS S (nI i)) (hm_lN N i) (hm_ka S N a) n (j + 1)).2.1 (nI i) (hm_rc (hm_kS S (nI i)) (hm_lN N i) (hm_ka S N a) n i j) (k + 1))), (3, .int (nI j)), (0, .ref (m 0)), (1, .int (nI i))]) (by first | rfl | (simp [hm_sn_s, c_33, c_44, c_55]; done)) ?_
              exact ihk hlk
      refine jk_sub (lv' := [(4, .int 0), (2, .int (hm_rc (hm_kS S (nI i)) (hm_lN N i) (hm_ka S N a) n i j)), (3, .int (nI j)), (0, .ref (m 0)), (1, .int (nI i))]) [0, 2, 1, 3, 4] rfl ?_
      refine jk_lv (lv' := [(4, .int (nI 0)), (2, .int (hm_sn (hm_pm (hm_kS S (nI i)) (hm_lN N i) (hm_ka S N a) n (j + 1)).2.1 (nI i) (hm_rc (hm_kS S (nI i)) (hm_lN N i) (hm_ka S N a) n i j) 0)), (3, .int (nI j)), (0, .ref (m 0)), (1, .int (nI i))]) (by first | rfl | (simp [c_17]; done)) ?_
      refine jk_ws (ws' := (hm_M E X Y m th (nI n) (hm_pm (hm_kS S (nI i)) (hm_lN N i) (hm_ka S N a) n (j + 1)).1 (hm_pm (hm_kS S (nI i)) (hm_lN N i) (hm_ka S N a) n (j + 1)).2.1 (va_up (hm_ka S N a) 8 (hm_pm (hm_kS S (nI i)) (hm_lN N i) (hm_ka S N a) n (j + 1)).2.2))) rfl ?_
      exact hI 0 (Nat.zero_le _)
  refine jk_lv (lv' := [(3, .int (nI 0)), (2, .int (hm_rc (hm_kS S (nI i)) (hm_lN N i) (hm_ka S N a) n i 0)), (0, .ref (m 0)), (1, .int (nI i))]) (by first | rfl | (simp []; done)) ?_
  refine jk_ws (ws' := (hm_M E X Y m th (nI n) (hm_pm (hm_kS S (nI i)) (hm_lN N i) (hm_ka S N a) n 0).1 (hm_pm (hm_kS S (nI i)) (hm_lN N i) (hm_ka S N a) n 0).2.1 (va_up (hm_ka S N a) 8 (hm_pm (hm_kS S (nI i)) (hm_lN N i) (hm_ka S N a) n 0).2.2))) rfl ?_
  exact hL 0 (Nat.zero_le _)
set_option maxHeartbeats 4000000 in
set_option maxRecDepth 100000 in
theorem hb_X3_reachOf (l : Launch) (hl : l.stackTraces = false) (E : jk_T) (X Y : va_W) (m : Nat → Nat) (th : Int32) (S : Nat → Int32) (N a : Nat → Nat → Int32) (n : Nat) (hn : n ≤ 10) (x : Int32) (hso : hm_so N) : jk_Ct l yX3_reachOf wsX3_reachOf ({ frames := 5, cells := 0, slots := 0, locals := 115 } : Room) [.ref (m 0), .int x] E (hm_M E X Y m th (nI n) S N a) (fun u : Int32 × Int32 × (Nat → Int32) × (Nat → Int32) => some (.int u.2.1)) (fun u => (hm_M E X Y m u.1 (nI n) S N (va_up (va_up a 7 u.2.2.1) 8 u.2.2.2))) (fun u => (∃ i, i < n ∧ x = nI i ∧ (N i 1 = 0 ∧ 0 < N i 0) ∧ u.1 = 0 ∧ u.2.1 = hm_re S N a n i) ∨ (∃ i, i < n ∧ x = nI i ∧ ¬ (N i 1 = 0 ∧ 0 < N i 0) ∧ u.1 = 2 ∧ u.2.1 = 0) ∨ (¬ hb_ok n x ∧ u.1 = 1 ∧ u.2.1 = 0)) := by
  refine jk_of (lv := [(0, .ref (m 0)), (1, .int x)]) (own := RX3) (nm := "reachOf") hl (by decide +kernel) rfl (Nat.le_of_ble_eq_true rfl) rfl rfl rfl (fun Γ hΓ K hnm hz => ?_)
  subst hΓ
  refine jk_aload_n K dX3_reachOf_0 rfl 0 rfl ?_
  refine jk_iload_n K dX3_reachOf_1 rfl 1 rfl ?_
  refine jk_cVi K (n' := 0) (k' := 0) [.int x] [] dX3_reachOf_2 (hb_X3_canLight _ hl E X Y m th S N a n hn x) gX3_reachOf_X3_canLight rfl kd_X3_canLight ⟨Nat.le_of_ble_eq_true rfl, Nat.le_of_ble_eq_true rfl⟩ (X.length + 0) hm_x0 rfl (Nat.le_of_ble_eq_true rfl) ⟨rfl, rfl⟩ ⟨Nat.le_of_ble_eq_true rfl, Nat.le_of_ble_eq_true rfl⟩ rfl (fun u1 hu1 => ?_)
  rcases hu1 with ⟨i, hi, rfl, hcl, rfl⟩ | ⟨i, hi, rfl, hcl, rfl⟩ | ⟨hno, rfl⟩
  · refine jk_ws (ws' := (hm_M E X Y m 0 (nI n) S N a)) rfl ?_
    refine jk_st (st' := [.int 1]) rfl ?_
    refine jk_if_eq (tgt := 16) K dX3_reachOf_5 rfl (fun c_5 => ?_) (fun c_5 => ?_)
    · exact absurd c_5 (by decide)
    · refine jk_aload_n K dX3_reachOf_8 rfl 0 rfl ?_
      refine jk_iload_n K dX3_reachOf_9 rfl 1 rfl ?_
      refine jk_cVi K (n' := 0) (k' := 0) [.int (nI i)] [] dX3_reachOf_10 (hb_X3_reach _ hl E X Y m 0 S N a n hn i hi hso) gX3_reachOf_X3_reach rfl kd_X3_reach ⟨Nat.le_of_ble_eq_true rfl, Nat.le_of_ble_eq_true rfl⟩ (X.length + 0) hm_x0 rfl (Nat.le_of_ble_eq_true rfl) ⟨rfl, rfl⟩ ⟨Nat.le_of_ble_eq_true rfl, Nat.le_of_ble_eq_true rfl⟩ rfl (fun u10 _ => ?_)
      refine jk_ws (ws' := (hm_M E X Y m 0 (nI n) S N (va_up (va_up a 7 u10.1) 8 u10.2))) rfl ?_
      refine jk_goto (tgt := 17) K dX3_reachOf_13 rfl ?_
      exact jk_iret K hz dX3_reachOf_17 (0, hm_re S N a n i, u10.1, u10.2) rfl (Or.inl ⟨i, hi, rfl, hcl, rfl, rfl⟩) rfl rfl (Nat.le_of_ble_eq_true rfl) (Nat.le_of_ble_eq_true rfl)
  · refine jk_ws (ws' := (hm_M E X Y m 2 (nI n) S N a)) rfl ?_
    refine jk_st (st' := [.int 0]) rfl ?_
    refine jk_if_eq (tgt := 16) K dX3_reachOf_5 rfl (fun c_5 => ?_) (fun c_5 => ?_)
    · refine jk_iconst (x := 0) K dX3_reachOf_16 rfl ?_
      exact jk_iret K hz dX3_reachOf_17 (2, 0, a 7, a 8) rfl (Or.inr (Or.inl ⟨i, hi, rfl, hcl, rfl, rfl⟩)) rfl rfl (Nat.le_of_ble_eq_true rfl) (Nat.le_of_ble_eq_true rfl)
    · exact absurd (by decide) c_5
  · refine jk_ws (ws' := (hm_M E X Y m 1 (nI n) S N a)) rfl ?_
    refine jk_st (st' := [.int 0]) rfl ?_
    refine jk_if_eq (tgt := 16) K dX3_reachOf_5 rfl (fun c_5 => ?_) (fun c_5 => ?_)
    · refine jk_iconst (x := 0) K dX3_reachOf_16 rfl ?_
      exact jk_iret K hz dX3_reachOf_17 (1, 0, a 7, a 8) rfl (Or.inr (Or.inr ⟨hno, rfl, rfl⟩)) rfl rfl (Nat.le_of_ble_eq_true rfl) (Nat.le_of_ble_eq_true rfl)
    · exact absurd (by decide) c_5
set_option maxHeartbeats 4000000 in
set_option maxRecDepth 100000 in
theorem hb_X3_bestHill (l : Launch) (hl : l.stackTraces = false) (E : jk_T) (X Y : va_W) (m : Nat → Nat) (th : Int32) (S : Nat → Int32) (N a : Nat → Nat → Int32) (n : Nat) (hn : n ≤ 10) (hso : hm_so N) (R : Nat → Int32) (hR : ∀ i, i < n → N i 1 = 0 → ¬ N i 0 = 0 → ∀ k7 w8 : Nat → Int32, hm_re S N (va_up (va_up a 7 k7) 8 w8) n i = R i) : jk_Ct l yX3_bestHill wsX3_bestHill ({ frames := 5, cells := 0, slots := 0, locals := 115 } : Room) [.ref (m 0)] E (hm_M E X Y m th (nI n) S N a) (fun u : (Nat → Int32) × (Nat → Int32) => some (.int (hm_bh N R n).1)) (fun u => (hm_M E X Y m 0 (nI n) S N (va_up (va_up a 7 u.1) 8 u.2))) (fun _ => True) := by
  refine jk_of (lv := [(0, .ref (m 0))]) (own := RX3) (nm := "bestHill") hl (by decide +kernel) rfl (Nat.le_of_ble_eq_true rfl) rfl rfl rfl (fun Γ hΓ K hnm hz => ?_)
  subst hΓ
  have hin_RX3 : ∀ w ∈ u_ws RX3 TX3 11, w ∈ wsX3_bestHill := by decide +kernel
  have hL : ∀ j, j ≤ n → ∀ (k7 w8 : Nat → Int32), jk_J Γ E (hm_M E X Y m 0 (nI n) S N (va_up (va_up a 7 k7) 8 w8)) 0 0 11 [(3, .int (nI j)), (2, .int ((hm_bh N R j).2)), (1, .int ((hm_bh N R j).1)), (0, .ref (m 0))] [] := by
    refine jk_loop (fun j hj ih => ?_)
    intro k7 w8
    refine jk_iload_n K dX3_bestHill_11 rfl 0 rfl ?_
    refine jk_aload_n K dX3_bestHill_12 rfl 3 rfl ?_
    refine jk_get (C := RX3) (T := TX3) (N := 11) (nm := "hills") (ds := "I") (v := .int (nI n)) K dX3_bestHill_13 hin_RX3 (by decide +kernel) (X.length + 0) hm_x0 rfl 1 rfl (by decide) rfl ?_
    refine jk_icmp_ge (tgt := 67) K dX3_bestHill_16 rfl (fun c_16 => ?_) (fun c_16 => ?_)
    · have hjn : j = n := hb_ex rfl (by omega) hj c_16
      refine jk_iload_n K dX3_bestHill_67 rfl 2 rfl ?_
      exact jk_iret K hz dX3_bestHill_68 (k7, w8) (by rw [hjn]) trivial rfl rfl (Nat.le_of_ble_eq_true rfl) (Nat.le_of_ble_eq_true rfl)
    · have hlt : j < n := hb_in rfl (by omega) hj c_16
      refine jk_aload_n K dX3_bestHill_19 rfl 3 rfl ?_
      refine jk_iload_n K dX3_bestHill_20 rfl 0 rfl ?_
      refine jk_iconst (x := 1) K dX3_bestHill_21 rfl ?_
      refine jk_cVi K (n' := 0) (k' := 0) [.int (nI j), .int (nI 1)] [] dX3_bestHill_22 (hb_X3_hi _ hl E X Y m 0 S N (va_up (va_up a 7 k7) 8 w8) n hn j 1 (Nat.lt_of_lt_of_le hlt hn) (by decide)) gX3_bestHill_X3_hi rfl kd_X3_hi ⟨Nat.le_of_ble_eq_true rfl, Nat.le_of_ble_eq_true rfl⟩ (X.length + 0) hm_x0 rfl (Nat.le_of_ble_eq_true rfl) ⟨rfl, rfl⟩ ⟨Nat.le_of_ble_eq_true rfl, Nat.le_of_ble_eq_true rfl⟩ rfl (fun _ _ => ?_)
      refine jk_if_ne (tgt := 61) K dX3_bestHill_25 rfl (fun c_25 => ?_) (fun c_25 => ?_)
      · refine jk_iinc (v := (nI (j + 1))) (lv' := [(3, .int (nI (j + 1))), (2, .int ((hm_bh N R j).2)), (1, .int ((hm_bh N R j).1)), (0, .ref (m 0))]) K dX3_bestHill_61 0 rfl (nI_1 j) (by decide) rfl ?_
        refine jk_goto (tgt := 11) K dX3_bestHill_64 rfl ?_
        refine jk_lv (lv' := [(3, .int (nI (j + 1))), (2, .int ((hm_bh N R (j + 1)).2)), (1, .int ((hm_bh N R (j + 1)).1)), (0, .ref (m 0))]) (by rw [hm_bh_s, if_neg c_25]) ?_
        exact ih hlt _ _
      · refine jk_aload_n K dX3_bestHill_28 rfl 3 rfl ?_
        refine jk_iload_n K dX3_bestHill_29 rfl 0 rfl ?_
        refine jk_iconst (x := 0) K dX3_bestHill_30 rfl ?_
        refine jk_cVi K (n' := 0) (k' := 0) [.int (nI j), .int (nI 0)] [] dX3_bestHill_31 (hb_X3_hi _ hl E X Y m 0 S N (va_up (va_up a 7 k7) 8 w8) n hn j 0 (Nat.lt_of_lt_of_le hlt hn) (by decide)) gX3_bestHill_X3_hi rfl kd_X3_hi ⟨Nat.le_of_ble_eq_true rfl, Nat.le_of_ble_eq_true rfl⟩ (X.length + 0) hm_x0 rfl (Nat.le_of_ble_eq_true rfl) ⟨rfl, rfl⟩ ⟨Nat.le_of_ble_eq_true rfl, Nat.le_of_ble_eq_true rfl⟩ rfl (fun _ _ => ?_)
        refine jk_if_ne (tgt := 40) K dX3_bestHill_34 rfl (fun c_34 => ?_) (fun c_34 => ?_)
        · refine jk_aload_n K dX3_bestHill_40 rfl 3 rfl ?_
          refine jk_iload_n K dX3_bestHill_41 rfl 0 rfl ?_
          refine jk_cVi K (n' := 0) (k' := 0) [.int (nI j)] [] dX3_bestHill_42 (hb_X3_reach _ hl E X Y m 0 S N (va_up (va_up a 7 k7) 8 w8) n hn j hlt hso) gX3_bestHill_X3_reach rfl kd_X3_reach ⟨Nat.le_of_ble_eq_true rfl, Nat.le_of_ble_eq_true rfl⟩ (X.length + 0) hm_x0 rfl (Nat.le_of_ble_eq_true rfl) ⟨rfl, rfl⟩ ⟨Nat.le_of_ble_eq_true rfl, Nat.le_of_ble_eq_true rfl⟩ rfl (fun u42 _ => ?_)
          refine jk_ws (ws' := (hm_M E X Y m 0 (nI n) S N (va_up (va_up a 7 u42.1) 8 u42.2))) rfl ?_
          refine jk_st (st' := [.int (R j)]) (by rw [hR j hlt c_25 c_34]) ?_
          refine jk_istore (lv' := [(4, .int (R j)), (3, .int (nI j)), (2, .int ((hm_bh N R j).2)), (1, .int ((hm_bh N R j).1)), (0, .ref (m 0))]) K dX3_bestHill_45 (by decide) rfl ?_
          refine jk_iload K dX3_bestHill_47 0 rfl ?_
          refine jk_iload_n K dX3_bestHill_49 rfl 2 rfl ?_
          refine jk_icmp_gt (tgt := 56) K dX3_bestHill_50 rfl (fun c_50 => ?_) (fun c_50 => ?_)
          · refine jk_iload_n K dX3_bestHill_56 rfl 1 rfl ?_
            refine jk_istore_n (lv' := [(1, .int (nI j)), (4, .int (R j)), (3, .int (nI j)), (2, .int ((hm_bh N R j).2)), (0, .ref (m 0))]) K dX3_bestHill_57 rfl (by decide) rfl ?_
            refine jk_iload K dX3_bestHill_58 1 rfl ?_
            refine jk_istore_n (lv' := [(2, .int (R j)), (1, .int (nI j)), (4, .int (R j)), (3, .int (nI j)), (0, .ref (m 0))]) K dX3_bestHill_60 rfl (by decide) rfl ?_
            refine jk_iinc (v := (nI (j + 1))) (lv' := [(3, .int (nI (j + 1))), (2, .int (R j)), (1, .int (nI j)), (4, .int (R j)), (0, .ref (m 0))]) K dX3_bestHill_61 3 rfl (nI_1 j) (by decide) rfl ?_
            refine jk_goto (tgt := 11) K dX3_bestHill_64 rfl ?_
            refine jk_sub (lv' := [(3, .int (nI (j + 1))), (2, .int (R j)), (1, .int (nI j)), (0, .ref (m 0))]) [0, 1, 2, 4] rfl ?_
            refine jk_lv (lv' := [(3, .int (nI (j + 1))), (2, .int ((hm_bh N R (j + 1)).2)), (1, .int ((hm_bh N R (j + 1)).1)), (0, .ref (m 0))]) (by rw [hm_bh_s, if_pos c_25, if_neg c_34, if_neg (Int32.not_le.mpr c_50)]) ?_
            exact ih hlt _ _
          · refine jk_goto (tgt := 61) K dX3_bestHill_53 rfl ?_
            refine jk_iinc (v := (nI (j + 1))) (lv' := [(3, .int (nI (j + 1))), (4, .int (R j)), (2, .int ((hm_bh N R j).2)), (1, .int ((hm_bh N R j).1)), (0, .ref (m 0))]) K dX3_bestHill_61 1 rfl (nI_1 j) (by decide) rfl ?_
            refine jk_goto (tgt := 11) K dX3_bestHill_64 rfl ?_
            refine jk_sub (lv' := [(3, .int (nI (j + 1))), (2, .int ((hm_bh N R j).2)), (1, .int ((hm_bh N R j).1)), (0, .ref (m 0))]) [0, 2, 3, 4] rfl ?_
            refine jk_lv (lv' := [(3, .int (nI (j + 1))), (2, .int ((hm_bh N R (j + 1)).2)), (1, .int ((hm_bh N R (j + 1)).1)), (0, .ref (m 0))]) (by rw [hm_bh_s, if_pos c_25, if_neg c_34, if_pos (Int32.not_lt.mp c_50)]) ?_
            exact ih hlt _ _
        · refine jk_goto (tgt := 61) K dX3_bestHill_37 rfl ?_
          refine jk_iinc (v := (nI (j + 1))) (lv' := [(3, .int (nI (j + 1))), (2, .int ((hm_bh N R j).2)), (1, .int ((hm_bh N R j).1)), (0, .ref (m 0))]) K dX3_bestHill_61 0 rfl (nI_1 j) (by decide) rfl ?_
          refine jk_goto (tgt := 11) K dX3_bestHill_64 rfl ?_
          refine jk_lv (lv' := [(3, .int (nI (j + 1))), (2, .int ((hm_bh N R (j + 1)).2)), (1, .int ((hm_bh N R (j + 1)).1)), (0, .ref (m 0))]) (by rw [hm_bh_s, if_pos c_25, if_pos c_34]) ?_
          exact ih hlt _ _
  refine jk_aload_n K dX3_bestHill_0 rfl 0 rfl ?_
  refine jk_iconst (x := 0) K dX3_bestHill_1 rfl ?_
  refine jk_put (C := RX3) (T := TX3) (N := 11) (nm := "thrown") (ds := "I") (w' := (hm_M E X Y m 0 (nI n) S N a)) K dX3_bestHill_2 hin_RX3 tyX3 tyX3_ok nmX3 (by decide +kernel) (X.length + 0) hm_x0 rfl 0 rfl (by decide) rfl rfl rfl rfl (Nat.le_of_ble_eq_true rfl) (hm_s0 rfl) ?_
  refine jk_iconst (x := (-1)) K dX3_bestHill_5 rfl ?_
  refine jk_istore_n (lv' := [(1, .int (-1)), (0, .ref (m 0))]) K dX3_bestHill_6 rfl (by decide) rfl ?_
  refine jk_iconst (x := (-1)) K dX3_bestHill_7 rfl ?_
  refine jk_istore_n (lv' := [(2, .int (-1)), (1, .int (-1)), (0, .ref (m 0))]) K dX3_bestHill_8 rfl (by decide) rfl ?_
  refine jk_iconst (x := 0) K dX3_bestHill_9 rfl ?_
  refine jk_istore_n (lv' := [(3, .int 0), (2, .int (-1)), (1, .int (-1)), (0, .ref (m 0))]) K dX3_bestHill_10 rfl (by decide) rfl ?_
  refine jk_lv (lv' := [(3, .int (nI 0)), (2, .int ((hm_bh N R 0).2)), (1, .int ((hm_bh N R 0).1)), (0, .ref (m 0))]) rfl ?_
  refine jk_ws (ws' := (hm_M E X Y m 0 (nI n) S N (va_up (va_up a 7 (a 7)) 8 (a 8)))) rfl ?_
  exact hL 0 (Nat.zero_le _) (a 7) (a 8)
set_option maxHeartbeats 4000000 in
set_option maxRecDepth 100000 in
theorem hb_X3_meanWood (l : Launch) (hl : l.stackTraces = false) (E : jk_T) (X Y : va_W) (m : Nat → Nat) (th : Int32) (S : Nat → Int32) (N a : Nat → Nat → Int32) (n : Nat) (hn : n ≤ 10) (hv : ¬ nI n = 0 → vf_n64 (FP.ddiv (FP.i2d (hm_wo N n)) (FP.i2d (nI n)))) : jk_fn l yX3_meanWood wsX3_meanWood ({ frames := 1, cells := 0, slots := 0, locals := 22 } : Room) [.ref (m 0)] E (hm_M E X Y m th (nI n) S N a) (some (.double (hm_mean N n))) (hm_M E X Y m 0 (nI n) S N a) := by
  refine jk_of (lv := [(0, .ref (m 0))]) (own := RX3) (nm := "meanWood") hl (by decide +kernel) rfl (Nat.le_of_ble_eq_true rfl) rfl rfl rfl (fun Γ hΓ K hnm hz => ?_)
  subst hΓ
  have hin_RX3 : ∀ w ∈ u_ws RX3 TX3 11, w ∈ wsX3_meanWood := by decide +kernel
  have hL : ∀ j, j ≤ n → jk_J Γ E (hm_M E X Y m 0 (nI n) S N a) 0 0 9 [(2, .int (nI j)), (1, .int (hm_wo N j)), (0, .ref (m 0))] [] := by
    refine jk_loop (fun j hj ih => ?_)
    refine jk_iload_n K dX3_meanWood_9 rfl 0 rfl ?_
    refine jk_aload_n K dX3_meanWood_10 rfl 2 rfl ?_
    refine jk_get (C := RX3) (T := TX3) (N := 11) (nm := "hills") (ds := "I") (v := .int (nI n)) K dX3_meanWood_11 hin_RX3 (by decide +kernel) (X.length + 0) hm_x0 rfl 1 rfl (by decide) rfl ?_
    refine jk_icmp_ge (tgt := 32) K dX3_meanWood_14 rfl (fun c_14 => ?_) (fun c_14 => ?_)
    · have hjn : j = n := hb_ex rfl (by omega) hj c_14
      refine jk_aload_n K dX3_meanWood_32 rfl 2 rfl ?_
      refine jk_get (C := RX3) (T := TX3) (N := 11) (nm := "hills") (ds := "I") (v := .int (nI n)) K dX3_meanWood_33 hin_RX3 (by decide +kernel) (X.length + 0) hm_x0 rfl 1 rfl (by decide) rfl ?_
      refine jk_if_ne (tgt := 43) K dX3_meanWood_36 rfl (fun c_36 => ?_) (fun c_36 => ?_)
      · refine jk_iload_n K dX3_meanWood_43 rfl 1 rfl ?_
        refine jk_i2d K dX3_meanWood_44 ?_
        refine jk_aload_n K dX3_meanWood_45 rfl 2 rfl ?_
        refine jk_get (C := RX3) (T := TX3) (N := 11) (nm := "hills") (ds := "I") (v := .int (nI n)) K dX3_meanWood_46 hin_RX3 (by decide +kernel) (X.length + 0) hm_x0 rfl 1 rfl (by decide) rfl ?_
        refine jk_i2d K dX3_meanWood_49 ?_
        refine jk_ddiv K dX3_meanWood_50 (by rw [hjn]; exact hv c_36) ?_
        exact jk_dret K hz dX3_meanWood_51 () (by unfold hm_mean; rw [if_neg c_36, hjn]) trivial rfl (Nat.le_of_ble_eq_true rfl) (Nat.le_of_ble_eq_true rfl)
      · refine jk_dconst0 K dX3_meanWood_39 ?_
        refine jk_goto (tgt := 51) K dX3_meanWood_40 rfl ?_
        exact jk_dret K hz dX3_meanWood_51 () (by unfold hm_mean; rw [if_pos c_36]) trivial rfl (Nat.le_of_ble_eq_true rfl) (Nat.le_of_ble_eq_true rfl)
    · have hlt : j < n := hb_in rfl (by omega) hj c_14
      refine jk_iload_n K dX3_meanWood_17 rfl 1 rfl ?_
      refine jk_aload_n K dX3_meanWood_18 rfl 2 rfl ?_
      refine jk_iload_n K dX3_meanWood_19 rfl 0 rfl ?_
      refine jk_iconst (x := 0) K dX3_meanWood_20 rfl ?_
      refine jk_cVi K (n' := 0) (k' := 0) [.int (nI j), .int (nI 0)] [.int (hm_wo N j)] dX3_meanWood_21 (hb_X3_hi _ hl E X Y m 0 S N a n hn j 0 (Nat.lt_of_lt_of_le hlt hn) (by decide)) gX3_meanWood_X3_hi rfl kd_X3_hi ⟨Nat.le_of_ble_eq_true rfl, Nat.le_of_ble_eq_true rfl⟩ (X.length + 0) hm_x0 rfl (Nat.le_of_ble_eq_true rfl) ⟨rfl, rfl⟩ ⟨Nat.le_of_ble_eq_true rfl, Nat.le_of_ble_eq_true rfl⟩ rfl (fun _ _ => ?_)
      refine jk_iadd K dX3_meanWood_24 ?_
      refine jk_istore_n (lv' := [(1, .int ((hm_wo N j) + (N j 0))), (2, .int (nI j)), (0, .ref (m 0))]) K dX3_meanWood_25 rfl (by decide) rfl ?_
      refine jk_iinc (v := (nI (j + 1))) (lv' := [(2, .int (nI (j + 1))), (1, .int ((hm_wo N j) + (N j 0))), (0, .ref (m 0))]) K dX3_meanWood_26 1 rfl (nI_1 j) (by decide) rfl ?_
      refine jk_goto (tgt := 9) K dX3_meanWood_29 rfl ?_
      refine jk_lv (lv' := [(2, .int (nI (j + 1))), (1, .int (hm_wo N (j + 1))), (0, .ref (m 0))]) (by first | rfl | (simp [hm_wo_s, c_14]; done)) ?_
      exact ih hlt
  refine jk_aload_n K dX3_meanWood_0 rfl 0 rfl ?_
  refine jk_iconst (x := 0) K dX3_meanWood_1 rfl ?_
  refine jk_put (C := RX3) (T := TX3) (N := 11) (nm := "thrown") (ds := "I") (w' := (hm_M E X Y m 0 (nI n) S N a)) K dX3_meanWood_2 hin_RX3 tyX3 tyX3_ok nmX3 (by decide +kernel) (X.length + 0) hm_x0 rfl 0 rfl (by decide) rfl rfl rfl rfl (Nat.le_of_ble_eq_true rfl) (hm_s0 rfl) ?_
  refine jk_iconst (x := 0) K dX3_meanWood_5 rfl ?_
  refine jk_istore_n (lv' := [(1, .int 0), (0, .ref (m 0))]) K dX3_meanWood_6 rfl (by decide) rfl ?_
  refine jk_iconst (x := 0) K dX3_meanWood_7 rfl ?_
  refine jk_istore_n (lv' := [(2, .int 0), (1, .int 0), (0, .ref (m 0))]) K dX3_meanWood_8 rfl (by decide) rfl ?_
  refine jk_lv (lv' := [(2, .int (nI 0)), (1, .int (hm_wo N 0)), (0, .ref (m 0))]) (by first | rfl | (simp [hm_wo_s]; done)) ?_
  exact hL 0 (Nat.zero_le _)
