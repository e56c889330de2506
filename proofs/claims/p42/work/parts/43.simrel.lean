/-! THE LAW'S LAND AS AN IMAGE OF THE CLASS'S -/
def sm_s (x : Int32) : Int32 := if x = -2 then -1 else x
def sm_H (i : Nat) (f : Nat → Int32) : Nat → Int32 := fun k => match k with
  | 0 => nI i
  | 1 => f 0
  | 2 => f 1
  | 3 => f 2
  | 4 => f 3
  | 5 => f 4
  | 6 => f 5
  | 7 => f 7
  | 8 => f 8
  | 9 => sm_s (f 9)
  | _ => f 10
def sm_N (C : Nat → Nat → Int32) (i : Nat) : Nat → Int32 := sm_H i (C i)
def sm_G (G : Nat → Int32) : Nat → Int32 := fun k => match k with
  | 0 => G 3
  | 1 => G 1
  | 2 => G 2
  | 3 => G 4
  | _ => G 5
def sm_M (M : Nat → Int32) (a : Nat) : Nat → Int32 := fun b => if b < 10 then M (a * 10 + b) else 0
theorem sm_s_so {n : Nat} {x : Int32} (hn : n ≤ 10) (h : iv_so n x) : sm_s x = x := by
  unfold sm_s
  rw [if_neg]
  rcases h with rfl | ⟨s, hs, rfl⟩
  · decide
  · intro e
    exact nI_pos (n := s) (by omega) (by rw [e]; decide)
theorem sm_clr_all : ∀ k1, k1 < 10 → ∀ k, k < 21 → sm_clr (nI k1) (nI k) = hb_clr (nI k1) (nI k) := by decide +kernel
theorem sm_clr_hb {n B : Nat} {C : Nat → Nat → Int32} {G M : Nat → Int32} (h : iv n B C G M) {a b : Nat} (ha : a < 10) (hb : b < 10) : sm_clr (G 1) (sm_M M a b) = hb_clr (G 1) (M (a * 10 + b)) := by
  obtain ⟨-, ⟨k1, hk1, e1⟩, -⟩ := h.2.2.2.1
  obtain ⟨-, ⟨k, hk, e⟩, -⟩ := h.2.2.2.2 a b ha hb
  unfold sm_M
  rw [if_pos hb, e, e1]
  exact (sm_clr_all k1 (by omega) k (by omega))
theorem sm_H_c {i : Nat} {f g : Nat → Int32} (h : ∀ k, k ≠ 6 → f k = g k) : sm_H i f = sm_H i g := by
  funext w
  unfold sm_H
  rw [h 0 (by decide), h 1 (by decide), h 2 (by decide), h 3 (by decide), h 4 (by decide), h 5 (by decide), h 7 (by decide), h 8 (by decide), h 9 (by decide), h 10 (by decide)]
theorem w11 {P : Nat → Prop} (h0 : P 0) (h1 : P 1) (h2 : P 2) (h3 : P 3) (h4 : P 4) (h5 : P 5) (h6 : P 6) (h7 : P 7) (h8 : P 8) (h9 : P 9) (h10 : P 10) : ∀ w, w < 11 → P w := fun w hw => by
  rcases (show w = 0 ∨ w = 1 ∨ w = 2 ∨ w = 3 ∨ w = 4 ∨ w = 5 ∨ w = 6 ∨ w = 7 ∨ w = 8 ∨ w = 9 ∨ w = 10 by omega) with rfl | rfl | rfl | rfl | rfl | rfl | rfl | rfl | rfl | rfl | rfl <;> assumption
theorem w5 {P : Nat → Prop} (h0 : P 0) (h1 : P 1) (h2 : P 2) (h3 : P 3) (h4 : P 4) : ∀ w, w < 5 → P w := fun w hw => by
  rcases (show w = 0 ∨ w = 1 ∨ w = 2 ∨ w = 3 ∨ w = 4 by omega) with rfl | rfl | rfl | rfl | rfl <;> assumption
section SR
variable {n B : Nat} {C : Nat → Nat → Int32} {G M : Nat → Int32}
theorem sm_was (C : Nat → Nat → Int32) {n k : Nat} (hk : k < n) : sm_cp (sm_N C) 6 n k = C k 5 := sm_cp_v (sm_N C) 6 n k hk
theorem sm_srcv (C : Nat → Nat → Int32) {n k : Nat} (hk : k < n) : sm_cp (sm_N C) 9 n k = sm_s (C k 9) := sm_cp_v (sm_N C) 9 n k hk
/-- the nearest fire is the same -/
theorem sm_near (h : iv n B C G M) {i : Nat} (hi : i < n) : (mn_nf C G M n i).1 = sm_o (sm_ne (G 1) (sm_M M i) (sm_cp (sm_N C) 6 n) n n) ∧ ∀ t, sm_ne (G 1) (sm_M M i) (sm_cp (sm_N C) 6 n) n n = some t → t < n ∧ C t 5 = 2 := by
  have hn := h.1
  obtain ⟨o, h1, h2, h3⟩ := mn_nf_o h hi
  have h4 := mn_ne_is (C := C) (G := G) (M := M) (m := sm_M M i) (was := sm_cp (sm_N C) 6 n) (n := n) (i := i) (hz := G 1) (fun t ht => sm_was C ht) (fun t ht => by unfold sm_M; rw [if_pos (by omega)]) (fun t ht => by rw [sm_clr_hb h (by omega) (by omega)]) n (Nat.le_refl n)
  have e := mn_is_u (fun t => ⟨fun q => ⟨by omega, q⟩, fun q => q.2⟩) h1 h4
  rw [← e]
  exact ⟨h2, h3⟩
theorem sm_is_w {i : Nat} {S : Nat → Int32} {o : Option Nat} (hS : S 2 = G 2) (ho : (mn_nf C G M n i).1 = sm_o o) (hb : ∀ t, o = some t → t < 2 ^ 31) : sm_is (sm_N C i) S (C i 5) o = mn_w C G M n i := by
  have f1 : sm_N C i 1 = C i 0 := rfl
  have f4 : sm_N C i 4 = C i 3 := rfl
  have hr : hb_rdy (C i) = if C i 5 = 0 ∧ 0 < C i 0 then 1 else 0 := rfl
  have hg : hb_glo (C i) G = if ¬ hb_zb (C i 3) = 0 ∧ 0 < G 2 then 1 else 0 := rfl
  unfold sm_is mn_w
  rw [f1, f4, hS, ho]
  by_cases c5 : C i 5 = 0
  · rw [if_pos c5]
    by_cases c0 : C i 0 ≤ 0
    · have hr0 : hb_rdy (C i) = 0 := by rw [hr, if_neg (fun q => absurd q.2 (Int32.not_lt.mpr c0))]
      rw [if_pos c0, if_pos hr0]
    · have hr1 : ¬ hb_rdy (C i) = 0 := by rw [hr, if_pos ⟨c5, Int32.not_le.mp c0⟩]; decide
      rw [if_neg c0, if_neg hr1]
      cases o with
      | some t =>
        show (1 : Int32) = if hb_glo (C i) G = 0 then (if nI t = -1 then 0 else 1) else 1
        rw [if_neg (hm_neg (hb t rfl))]
        split <;> rfl
      | none =>
        show (if hb_zb (C i 3) = 0 then (0 : Int32) else if G 2 ≤ 0 then 0 else 1) = if hb_glo (C i) G = 0 then 0 else 1
        by_cases c3 : hb_zb (C i 3) = 0
        · have hg0 : hb_glo (C i) G = 0 := by rw [hg, if_neg (fun q => q.1 c3)]
          rw [if_pos c3, if_pos hg0]
        · rw [if_neg c3]
          by_cases c2 : G 2 ≤ 0
          · have hg0 : hb_glo (C i) G = 0 := by rw [hg, if_neg (fun q => absurd q.2 (Int32.not_lt.mpr c2))]
            rw [if_pos c2, if_pos hg0]
          · have hg1 : ¬ hb_glo (C i) G = 0 := by rw [hg, if_pos ⟨c3, Int32.not_le.mp c2⟩]; decide
            rw [if_neg c2, if_neg hg1]
  · have hr0 : hb_rdy (C i) = 0 := by rw [hr, if_neg (fun q => c5 q.1)]
    rw [if_neg c5, if_pos hr0]
theorem mn_w01 (C : Nat → Nat → Int32) (G M : Nat → Int32) (n i : Nat) : mn_w C G M n i = 0 ∨ mn_w C G M n i = 1 := by
  unfold mn_w
  repeat (first | exact Or.inl rfl | exact Or.inr rfl | split)
theorem sm_kS_G {g S : Nat → Int32} {x : Int32} (hS : ∀ k, k < 5 → S k = sm_G g k) (hn : n ≤ 10) (hx : iv_so n x) : ∀ k, k < 5 → sm_kS S x k = sm_G (hb_kG g x) k := by
  have s0 : S 0 = g 3 := hS 0 (by omega)
  have s1 : S 1 = g 1 := hS 1 (by omega)
  have s2 : S 2 = g 2 := hS 2 (by omega)
  have s3 : S 3 = g 4 := hS 3 (by omega)
  have s4 : S 4 = g 5 := hS 4 (by omega)
  unfold sm_kS hb_kG
  rcases hx with e | ⟨s, hs, e⟩
  · rw [e, if_neg (by decide), if_pos rfl]
    exact w5 s0 s1 s2 (congrArg (fun z => z + 1) s3) (congrArg (fun z => z + 1) s4)
  · rw [e, if_pos (Int32.not_lt.mp (nI_pos (by omega))), if_neg (hm_neg (by omega))]
    exact w5 s0 s1 s2 (congrArg (fun z => z + 1) s3) s4
theorem sm_l1_v (h : iv n B C G M) : ∀ j, j ≤ n → (∀ k, j ≤ k → (sm_l1 (sm_G G) (sm_N C) (sm_M M) (sm_cp (sm_N C) 6 n) (sm_cp (sm_N C) 9 n) n j).2 k = sm_N C k) ∧ (∀ k, k < j → ∀ w, w < 11 → (sm_l1 (sm_G G) (sm_N C) (sm_M M) (sm_cp (sm_N C) 6 n) (sm_cp (sm_N C) 9 n) n j).2 k w = sm_H k (mn_A C G M n k) w) ∧ ∀ k, k < 5 → (sm_l1 (sm_G G) (sm_N C) (sm_M M) (sm_cp (sm_N C) 6 n) (sm_cp (sm_N C) 9 n) n j).1 k = sm_G (mn_g C G M n j) k
  | 0, _ => ⟨fun _ _ => rfl, fun k hk => absurd hk (by omega), fun _ _ => rfl⟩
  | j + 1, hj => by
    obtain ⟨h1, h2, h3⟩ := sm_l1_v h j (by omega)
    have hjn : j < n := by omega
    have hn := h.1
    have hS1 : (sm_l1 (sm_G G) (sm_N C) (sm_M M) (sm_cp (sm_N C) 6 n) (sm_cp (sm_N C) 9 n) n j).1 1 = G 1 := (h3 1 (by omega)).trans (mn_g_0 1 (by decide) (by decide) j)
    have hS2 : (sm_l1 (sm_G G) (sm_N C) (sm_M M) (sm_cp (sm_N C) 6 n) (sm_cp (sm_N C) 9 n) n j).1 2 = G 2 := (h3 2 (by omega)).trans (mn_g_0 2 (by decide) (by decide) j)
    obtain ⟨ho, hb⟩ := sm_near h hjn
    have hV : sm_is ((sm_l1 (sm_G G) (sm_N C) (sm_M M) (sm_cp (sm_N C) 6 n) (sm_cp (sm_N C) 9 n) n j).2 j) (sm_l1 (sm_G G) (sm_N C) (sm_M M) (sm_cp (sm_N C) 6 n) (sm_cp (sm_N C) 9 n) n j).1 (sm_cp (sm_N C) 6 n j) (sm_ne ((sm_l1 (sm_G G) (sm_N C) (sm_M M) (sm_cp (sm_N C) 6 n) (sm_cp (sm_N C) 9 n) n j).1 1) (sm_M M j) (sm_cp (sm_N C) 6 n) n n) = mn_w C G M n j := by
      rw [h1 j (Nat.le_refl j), sm_was C hjn, hS1]
      exact sm_is_w hS2 ho (fun t e => by have := (hb t e).1; omega)
    have e8 : (sm_l1 (sm_G G) (sm_N C) (sm_M M) (sm_cp (sm_N C) 6 n) (sm_cp (sm_N C) 9 n) n j).2 j 8 = C j 8 := by rw [h1 j (Nat.le_refl j)]; rfl
    have e3 : (sm_l1 (sm_G G) (sm_N C) (sm_M M) (sm_cp (sm_N C) 6 n) (sm_cp (sm_N C) 9 n) n j).2 j 3 = C j 2 := by rw [h1 j (Nat.le_refl j)]; rfl
    have hup : ∀ {f g : Nat → Int32}, (∀ w, w < 11 → f w = sm_H j g w) → g = mn_A C G M n j → (∀ k, j + 1 ≤ k → va_up (sm_l1 (sm_G G) (sm_N C) (sm_M M) (sm_cp (sm_N C) 6 n) (sm_cp (sm_N C) 9 n) n j).2 j f k = sm_N C k) ∧ (∀ k, k < j + 1 → ∀ w, w < 11 → va_up (sm_l1 (sm_G G) (sm_N C) (sm_M M) (sm_cp (sm_N C) 6 n) (sm_cp (sm_N C) 9 n) n j).2 j f k w = sm_H k (mn_A C G M n k) w) := fun {f g} hf hg => by
      refine ⟨fun k hk => by rw [va_up_ne _ _ (by omega)]; exact h1 k (by omega), fun k hk w hw => ?_⟩
      by_cases e : k = j
      · subst e
        rw [va_up_self, hf w hw, hg]
      · rw [va_up_ne _ _ e]
        exact h2 k (by omega) w hw
    rw [sm_l1_s, mn_g_s]
    rcases mn_w01 C G M n j with c1 | c1
    · have ht : mn_t C G M n j = 0 := by unfold mn_t; rw [if_pos c1]
      rw [sm_lk_0 (hV.trans c1), if_pos ht, h1 j (Nat.le_refl j)]
      have hA : hb_fu (C j) 8 0 = mn_A C G M n j := by
        unfold mn_A mn_l
        rw [if_pos ht, if_pos c1]
      obtain ⟨q1, q2⟩ := hup (f := hb_fu (sm_N C j) 8 0) (g := hb_fu (C j) 8 0) (w11 rfl rfl rfl rfl rfl rfl rfl rfl rfl rfl rfl) hA
      exact ⟨q1, q2, h3⟩
    · have c1' : ¬ mn_w C G M n j = 0 := by rw [c1]; decide
      by_cases c2 : C j 8 + 1 < C j 2
      · have ht : mn_t C G M n j = 0 := by unfold mn_t; rw [if_neg c1', if_pos c2]
        rw [sm_lk_1 (hV.trans c1) (by rw [e8, e3]; exact c2), if_pos ht, h1 j (Nat.le_refl j)]
        have hA : hb_fu (C j) 8 (C j 8 + 1) = mn_A C G M n j := by
          unfold mn_A mn_l
          rw [if_pos ht, if_neg c1']
        obtain ⟨q1, q2⟩ := hup (f := hb_fu (sm_N C j) 8 (C j 8 + 1)) (g := hb_fu (C j) 8 (C j 8 + 1)) (w11 rfl rfl rfl rfl rfl rfl rfl rfl rfl rfl rfl) hA
        exact ⟨q1, q2, h3⟩
      · have ht : ¬ mn_t C G M n j = 0 := by unfold mn_t; rw [if_neg c1', if_neg c2]; decide
        have hso := mn_sr_iv h hjn
        have hx : sm_src (sm_cp (sm_N C) 9 n) (sm_ne ((sm_l1 (sm_G G) (sm_N C) (sm_M M) (sm_cp (sm_N C) 6 n) (sm_cp (sm_N C) 9 n) n j).1 1) (sm_M M j) (sm_cp (sm_N C) 6 n) n n) = mn_sr C G M n j := by
          rw [hS1]
          unfold mn_sr
          rw [ho]
          cases hq : sm_ne (G 1) (sm_M M j) (sm_cp (sm_N C) 6 n) n n with
          | none => rfl
          | some b =>
            obtain ⟨hbn, hb5⟩ := hb b hq
            show sm_cp (sm_N C) 9 n b = if nI b = -1 then -1 else C (hb_hx (nI b)) 9
            rw [if_neg (hm_neg (by omega)), hb_hx_nI (by omega), sm_srcv C hbn]
            rcases iv_dark h hbn with z | z | z
            · rw [z.1] at hb5; exact absurd hb5 (by decide)
            · exact sm_s_so hn z.2.2
            · exact sm_s_so hn z.2.2.2
        rw [sm_lk_2 (hV.trans c1) (by rw [e8, e3]; exact c2) hx, if_neg ht, h1 j (Nat.le_refl j)]
        have hA : hb_kindleF (hb_fu (C j) 8 (C j 8 + 1)) (mn_sr C G M n j) = mn_A C G M n j := by
          unfold mn_A mn_l
          rw [if_neg ht, if_neg c1']
        obtain ⟨q1, q2⟩ := hup (f := sm_kF (hb_fu (sm_N C j) 8 (C j 8 + 1)) (mn_sr C G M n j)) (g := hb_kindleF (hb_fu (C j) 8 (C j 8 + 1)) (mn_sr C G M n j)) (w11 rfl rfl rfl rfl rfl rfl rfl rfl rfl (sm_s_so hn hso).symm rfl) hA
        exact ⟨q1, q2, sm_kS_G h3 hn hso⟩
/-! the fires of the law's land, place by place -/
theorem sm_b1_v (N : Nat → Nat → Int32) (was : Nat → Int32) (j i w : Nat) : sm_b1 was j N i w = if was j = 1 then (if i = j ∧ w = 7 then N j 7 - 1 else if (i = j ∧ w = 6) ∧ N j 7 - 1 = 0 then 2 else if w = 10 then N i 10 + (if N j 7 - 1 = 0 then (if hb_zb (N j 5) = 0 then 0 else if N j 9 < 0 then 0 else if i = (N j 9).toNatClampNeg then 1 else 0) else 0) else N i w) else N i w := by
  unfold sm_b1
  by_cases c1 : was j = 1
  · rw [if_pos c1, if_pos c1]
    have k7 : ∀ i w, va_up N j (sm_k7 (N j)) i w = if i = j ∧ w = 7 then N j 7 - 1 else N i w := fun i w => by
      by_cases e : i = j
      · subst e
        rw [va_up_self]
        unfold sm_k7
        rw [hb_fu_eq]
        by_cases e7 : w = 7 <;> simp [e7]
      · rw [va_up_ne _ _ e, if_neg (fun q => e q.1)]
    have k6 : ∀ i w, va_up N j (sm_k6 (N j)) i w = if i = j ∧ w = 7 then N j 7 - 1 else if i = j ∧ w = 6 then 2 else N i w := fun i w => by
      by_cases e : i = j
      · subst e
        rw [va_up_self]
        unfold sm_k6 sm_k7
        rw [hb_fu_eq, hb_fu_eq]
        by_cases e7 : w = 7
        · subst e7; simp
        · by_cases e6 : w = 6
          · subst e6; simp
          · simp [e7, e6]
      · rw [va_up_ne _ _ e, if_neg (fun q => e q.1), if_neg (fun q => e q.1)]
    by_cases c2 : N j 7 - 1 = 0
    · rw [if_pos c2]
      have base : va_up N j (sm_k6 (N j)) i w = if i = j ∧ w = 7 then N j 7 - 1 else if (i = j ∧ w = 6) ∧ N j 7 - 1 = 0 then 2 else if w = 10 then N i 10 + 0 else N i w := by
        rw [k6]
        by_cases e7 : i = j ∧ w = 7
        · rw [if_pos e7, if_pos e7]
        · rw [if_neg e7, if_neg e7]
          by_cases e6 : i = j ∧ w = 6
          · rw [if_pos e6, if_pos ⟨e6, c2⟩]
          · rw [if_neg e6, if_neg (fun q => e6 q.1)]
            by_cases e10 : w = 10
            · rw [if_pos e10, e10, Int32.add_zero]
            · rw [if_neg e10]
      rw [show (if N j 7 - 1 = 0 then (if hb_zb (N j 5) = 0 then (0 : Int32) else if N j 9 < 0 then 0 else if i = (N j 9).toNatClampNeg then 1 else 0) else 0) = (if hb_zb (N j 5) = 0 then (0 : Int32) else if N j 9 < 0 then 0 else if i = (N j 9).toNatClampNeg then 1 else 0) from if_pos c2]
      by_cases c3 : hb_zb (N j 5) = 0
      · rw [if_pos c3, if_pos c3]; exact base
      · rw [if_neg c3, if_neg c3]
        by_cases c4 : N j 9 < 0
        · rw [if_pos c4, if_pos c4]; exact base
        · rw [if_neg c4, if_neg c4]
          by_cases c5 : i = (N j 9).toNatClampNeg
          · rw [← c5, va_up_self, if_pos rfl, hb_fu_eq]
            by_cases e10 : w = 10
            · rw [if_pos e10, k6]
              rw [if_neg (fun q => by have := q.2; omega), if_neg (fun q => by have := q.2; omega), if_neg (fun q => by have := q.2; omega), if_neg (fun q => by have := q.1.2; omega), if_pos e10]
            · rw [if_neg e10, base, if_neg e10, if_neg e10]
          · rw [va_up_ne _ _ c5, if_neg c5]
            exact base
    · rw [if_neg c2, k7]
      by_cases e7 : i = j ∧ w = 7
      · rw [if_pos e7, if_pos e7]
      · rw [if_neg e7, if_neg e7, if_neg (fun q => c2 q.2), if_neg c2, Int32.add_zero]
        by_cases e10 : w = 10
        · rw [if_pos e10, e10]
        · rw [if_neg e10]
  · rw [if_neg c1, if_neg c1]
theorem sm_b2_v (N : Nat → Nat → Int32) (was : Nat → Int32) (j i w : Nat) : sm_b2 was j N i w = if was j = 2 ∧ i = j then (if N j 1 = 0 then sm_dF (N j) w else hb_fu (N j) 1 (N j 1 - 1) w) else N i w := by
  unfold sm_b2
  by_cases c1 : was j = 2
  · rw [if_pos c1]
    by_cases e : i = j
    · subst e
      by_cases c2 : N i 1 = 0
      · simp [c1, c2, va_up_self]
      · simp [c1, c2, va_up_self]
    · by_cases c2 : N j 1 = 0
      · simp [c2, e, va_up_ne _ _ e]
      · simp [c2, e, va_up_ne _ _ e]
  · rw [if_neg c1, if_neg (fun q => c1 q.1)]
theorem sm_K0 {A : Nat → Int32} {v x : Int32} {i : Nat} : ∀ w, w < 11 → (if w = 10 then sm_H i (hb_fu A 10 v) 10 + x else sm_H i (hb_fu A 10 v) w) = sm_H i (hb_fu A 10 (v + x)) w := w11 rfl rfl rfl rfl rfl rfl rfl rfl rfl rfl rfl
theorem sm_K1 {A : Nat → Int32} {v x y : Int32} {i : Nat} (hy : y = 0) : ∀ w, w < 11 → (if i = i ∧ w = 7 then y else if (i = i ∧ w = 6) ∧ y = 0 then 2 else if w = 10 then sm_H i (hb_fu A 10 v) 10 + x else sm_H i (hb_fu A 10 v) w) = sm_H i (hb_fu (hb_fu (hb_fu A 7 y) 5 2) 10 (v + x)) w := by
  subst hy
  intro w hw
  rcases (show w = 0 ∨ w = 1 ∨ w = 2 ∨ w = 3 ∨ w = 4 ∨ w = 5 ∨ w = 6 ∨ w = 7 ∨ w = 8 ∨ w = 9 ∨ w = 10 by omega) with rfl | rfl | rfl | rfl | rfl | rfl | rfl | rfl | rfl | rfl | rfl <;> simp <;> rfl
theorem sm_K2 {A : Nat → Int32} {v x y : Int32} {i : Nat} (hy : ¬ y = 0) : ∀ w, w < 11 → (if i = i ∧ w = 7 then y else if (i = i ∧ w = 6) ∧ y = 0 then 2 else if w = 10 then sm_H i (hb_fu A 10 v) 10 + x else sm_H i (hb_fu A 10 v) w) = sm_H i (hb_fu (hb_fu A 7 y) 10 (v + x)) w := by
  intro w hw
  rcases (show w = 0 ∨ w = 1 ∨ w = 2 ∨ w = 3 ∨ w = 4 ∨ w = 5 ∨ w = 6 ∨ w = 7 ∨ w = 8 ∨ w = 9 ∨ w = 10 by omega) with rfl | rfl | rfl | rfl | rfl | rfl | rfl | rfl | rfl | rfl | rfl <;> simp [hy] <;> rfl
theorem sm_D1 {f A : Nat → Int32} {v : Int32} {i : Nat} (J : ∀ w, w < 11 → f w = sm_H i (hb_fu A 10 v) w) : ∀ w, w < 11 → sm_dF f w = sm_H i (hb_fu (hb_darkF A) 10 v) w := w11 (J 0 (by omega)) (J 1 (by omega)) (J 2 (by omega)) (J 3 (by omega)) (J 4 (by omega)) (J 5 (by omega)) rfl rfl (J 8 (by omega)) rfl (J 10 (by omega))
theorem sm_D2 {f A : Nat → Int32} {v x : Int32} {i : Nat} (J : ∀ w, w < 11 → f w = sm_H i (hb_fu A 10 v) w) : ∀ w, w < 11 → hb_fu f 1 x w = sm_H i (hb_fu (hb_fu A 0 x) 10 v) w := w11 (J 0 (by omega)) rfl (J 2 (by omega)) (J 3 (by omega)) (J 4 (by omega)) (J 5 (by omega)) (J 6 (by omega)) (J 7 (by omega)) (J 8 (by omega)) (J 9 (by omega)) (J 10 (by omega))
theorem sm_A10 {A : Nat → Int32} {v : Int32} {i : Nat} (h : A 10 = v) : ∀ w, w < 11 → sm_H i A w = sm_H i (hb_fu A 10 v) w := w11 rfl rfl rfl rfl rfl rfl rfl rfl rfl rfl h
set_option maxHeartbeats 4000000 in
/-- the second half of the law's minute -/
theorem sm_l2_v (h : iv n B C G M) {N1 : Nat → Nat → Int32} (hN : ∀ k, k < n → ∀ w, w < 11 → N1 k w = sm_H k (mn_A C G M n k) w) (j : Nat) : j ≤ n → ∀ i, i < n → ∀ w, w < 11 → sm_l2 N1 (sm_cp (sm_N C) 6 n) j i w = sm_H i (hb_fu (if i < j then mn_B C G M n i else mn_A C G M n i) 10 (C i 10 + mn_cn C i j)) w := by
  induction j with
  | zero =>
    intro _ i hi w hw
    show N1 i w = _
    rw [hN i hi w hw, if_neg (by omega)]
    have e10 : mn_A C G M n i 10 = C i 10 := by
      unfold mn_A mn_l
      split <;> simp [hb_kindleF, hb_fu_eq]
    exact sm_A10 (by show _ = C i 10 + 0; rw [e10, Int32.add_zero]) w hw
  | succ j ihj =>
    intro hj i hi w hw
    have hjn : j < n := by omega
    have hn := h.1
    have ih := ihj (by omega)
    rw [sm_l2_s, sm_b2_v, sm_was C hjn, mn_cn_s]
    have J : ∀ w, w < 11 → sm_l2 N1 (sm_cp (sm_N C) 6 n) j j w = sm_H j (hb_fu (mn_A C G M n j) 10 (C j 10 + mn_cn C j j)) w := fun w hw => by rw [ih j hjn w hw, if_neg (by omega)]
    by_cases c1 : C j 5 = 1
    · have c50 : ¬ C j 5 = 0 := by rw [c1]; decide
      have hA : mn_A C G M n j = hb_fu (C j) 8 0 := by
        unfold mn_A
        rw [if_pos (mn_t_n c50), mn_l_w c50]
      have hBj : mn_B C G M n j = if 0 < C j 7 - 1 then hb_fu (mn_A C G M n j) 7 (C j 7 - 1) else hb_fu (hb_fu (mn_A C G M n j) 7 (C j 7 - 1)) 5 2 := by
        unfold mn_B mn_K
        rw [if_neg (by rw [c1]; decide), if_pos c1]
      obtain ⟨k7, h71, h710, e7, hs9⟩ : ∃ k7 : Nat, 1 ≤ k7 ∧ k7 ≤ 10 ∧ C j 7 = nI k7 ∧ iv_so n (C j 9) := by
        obtain ⟨-, -, -, -, hd⟩ := h.2.1 j hjn
        rcases hd with ⟨q, -⟩ | ⟨-, ⟨k7, q1, q2, q3⟩, -, q4⟩ | ⟨q, -⟩
        · rw [q] at c1; exact absurd c1 (by decide)
        · exact ⟨k7, q1, q2, q3, q4⟩
        · rw [q] at c1; exact absurd c1 (by decide)
      have j7 : sm_l2 N1 (sm_cp (sm_N C) 6 n) j j 7 = C j 7 := by rw [J 7 (by omega), hA]; rfl
      have j5 : sm_l2 N1 (sm_cp (sm_N C) 6 n) j j 5 = C j 4 := by rw [J 5 (by omega), hA]; rfl
      have j9 : sm_l2 N1 (sm_cp (sm_N C) 6 n) j j 9 = C j 9 := by
        rw [J 9 (by omega), hA]
        exact sm_s_so hn hs9
      have e71 : C j 7 - 1 = nI (k7 - 1) := by rw [e7, nI_sub1 (by omega)]
      rw [if_neg (show ¬ (C j 5 = 2 ∧ i = j) from fun q => by rw [c1] at q; exact absurd q.1 (by decide)), sm_b1_v, sm_was C hjn, if_pos c1, j7, j5, j9, ih i hi w hw, ih i hi 10 (by omega)]
      have han : mn_an C j i = if C j 7 - 1 = 0 then (if hb_zb (C j 4) = 0 then 0 else if C j 9 < 0 then 0 else if i = (C j 9).toNatClampNeg then 1 else 0) else 0 := by
        unfold mn_an
        rw [if_pos c1]
        have q9 : (if C j 9 = -1 then (0 : Int32) else if i = hb_hx (C j 9) then 1 else 0) = (if C j 9 < 0 then 0 else if i = (C j 9).toNatClampNeg then 1 else 0) := by
          rcases hs9 with q | ⟨s, hs, q⟩
          · rw [q, if_pos rfl, if_pos (by decide)]
          · rw [q, if_neg (hm_neg (by omega)), if_neg (nI_pos (by omega)), hb_hx_nI (by omega), nI_clamp (by omega)]
        rw [q9]
        by_cases c7 : C j 7 - 1 = 0
        · rw [if_neg (by rw [c7]; decide), if_pos c7]
        · rw [if_neg c7, if_pos]
          rw [e71] at c7 ⊢
          rcases Nat.eq_zero_or_pos (k7 - 1) with q | q
          · rw [q] at c7; exact absurd rfl c7
          · exact nI_lt (a := 0) q (by omega)
      rw [← han]
      by_cases e : i = j
      · subst e
        rw [if_pos (show i < i + 1 by omega), if_neg (show ¬ i < i by omega), hBj]
        by_cases c7 : C i 7 - 1 = 0
        · rw [if_neg (show ¬ 0 < C i 7 - 1 by rw [c7]; decide)]
          rw [← Int32.add_assoc]
          exact sm_K1 c7 w hw
        · rw [if_pos (show 0 < C i 7 - 1 by
            rw [e71] at c7 ⊢
            rcases Nat.eq_zero_or_pos (k7 - 1) with q | q
            · rw [q] at c7; exact absurd rfl c7
            · exact nI_lt (a := 0) q (by omega))]
          rw [← Int32.add_assoc]
          exact sm_K2 c7 w hw
      · have el : (if i < j + 1 then mn_B C G M n i else mn_A C G M n i) = (if i < j then mn_B C G M n i else mn_A C G M n i) := by
          by_cases l : i < j
          · rw [if_pos l, if_pos (by omega)]
          · rw [if_neg l, if_neg (by omega)]
        rw [el]
        simp only [e, false_and, if_false]
        generalize (if i < j then mn_B C G M n i else mn_A C G M n i) = f
        rw [← Int32.add_assoc]
        exact sm_K0 w hw
    · have han : mn_an C j i = 0 := by
        unfold mn_an
        rw [if_neg c1]
      rw [han, Int32.add_zero]
      by_cases c2 : C j 5 = 2
      · have hno : sm_b1 (sm_cp (sm_N C) 6 n) j (sm_l2 N1 (sm_cp (sm_N C) 6 n) j) = sm_l2 N1 (sm_cp (sm_N C) 6 n) j := by
          unfold sm_b1
          rw [if_neg (by rw [sm_was C hjn]; exact c1)]
        rw [hno]
        have c50 : ¬ C j 5 = 0 := by rw [c2]; decide
        have hA : mn_A C G M n j = hb_fu (C j) 8 0 := by
          unfold mn_A
          rw [if_pos (mn_t_n c50), mn_l_w c50]
        have hBj : mn_B C G M n j = hb_burnF (mn_A C G M n j) := by
          unfold mn_B mn_K
          rw [if_pos c2, if_neg c1]
        by_cases e : i = j
        · subst e
          rw [if_pos ⟨c2, rfl⟩, if_pos (show i < i + 1 by omega), hBj]
          obtain ⟨k0, hk0, e0⟩ := (h.2.1 i hi).1
          have j1 : sm_l2 N1 (sm_cp (sm_N C) 6 n) i i 1 = C i 0 := by rw [J 1 (by omega), hA]; rfl
          rw [j1]
          have a0 : mn_A C G M n i 0 = C i 0 := by rw [hA]; rfl
          by_cases c0 : C i 0 = 0
          · rw [if_pos c0]
            have eb : hb_burnF (mn_A C G M n i) = hb_darkF (mn_A C G M n i) := by
              unfold hb_burnF
              rw [if_neg (by rw [a0, c0]; decide)]
            rw [eb]
            exact sm_D1 J w hw
          · rw [if_neg c0]
            have hp : 0 < C i 0 := by
              rw [e0] at c0 ⊢
              rcases Nat.eq_zero_or_pos k0 with q | q
              · rw [q] at c0; exact absurd rfl c0
              · exact nI_lt (a := 0) q (by omega)
            have eb : hb_burnF (mn_A C G M n i) = hb_fu (mn_A C G M n i) 0 (mn_A C G M n i 0 - 1) := by
              unfold hb_burnF
              rw [if_pos (by rw [a0]; exact hp)]
            rw [eb, a0]
            exact sm_D2 J w hw
        · rw [if_neg (fun q => e q.2), ih i hi w hw]
          by_cases l : i < j
          · rw [if_pos l, if_pos (show i < j + 1 by omega)]
          · rw [if_neg l, if_neg (show ¬ i < j + 1 by omega)]
      · rw [if_neg (fun q => c2 q.1), sm_b1_v, sm_was C hjn, if_neg c1, ih i hi w hw]
        by_cases e : i = j
        · subst e
          rw [if_neg (show ¬ i < i by omega), if_pos (show i < i + 1 by omega)]
          unfold mn_B mn_K
          rw [if_neg c2, if_neg c1]
        · by_cases l : i < j
          · rw [if_pos l, if_pos (show i < j + 1 by omega)]
          · rw [if_neg l, if_neg (show ¬ i < j + 1 by omega)]
/-- the law's minute is the class's -/
theorem sm_paN_v (h : iv n B C G M) {i : Nat} (hi : i < n) : sm_hill (sm_paN (sm_G G) (sm_N C) (sm_M M) n i) = sm_hill (sm_N (hb_poC C G M n) i) := by
  have e : sm_N (hb_poC C G M n) i = sm_H i (mn_C C G M n i) := sm_H_c (fun k hk => mn_po h hi hk)
  rw [e]
  refine sm_hill_c (fun w hw => ?_)
  unfold sm_paN
  rw [sm_l2_v h (sm_l1_v h n (Nat.le_refl n)).2.1 n (Nat.le_refl n) i hi w hw, if_pos hi]
  rfl
theorem sm_paS_v (h : iv n B C G M) : ∀ k, k < 5 → sm_paS (sm_G G) (sm_N C) (sm_M M) n k = sm_G (hb_poG C G M n) k := by
  have hS := (sm_l1_v h n (Nat.le_refl n)).2.2
  have e0 := (hS 0 (by omega)).trans (mn_g_0 3 (by decide) (by decide) n)
  have e1 := (hS 1 (by omega)).trans (mn_g_0 1 (by decide) (by decide) n)
  have e2 := (hS 2 (by omega)).trans (mn_g_0 2 (by decide) (by decide) n)
  have g1 : mn_g C G M n n 1 = G 1 := mn_g_0 1 (by decide) (by decide) n
  have g2 : mn_g C G M n n 2 = G 2 := mn_g_0 2 (by decide) (by decide) n
  rw [mn_poG h]
  unfold sm_paS sm_mS
  rw [e2, e0]
  by_cases c : G 2 ≤ 0
  · rw [if_pos c, if_pos c]
    exact w5 rfl (e1.trans g1.symm) (e2.trans g2.symm) (hS 3 (by omega)) (hS 4 (by omega))
  · rw [if_neg c, if_neg c]
    exact w5 rfl (e1.trans g1.symm) rfl (hS 3 (by omega)) (hS 4 (by omega))
theorem sm_no_N (C : Nat → Nat → Int32) (n : Nat) : sm_no n (sm_N C) := fun _ _ => rfl
theorem sm_so_N (h : iv n B C G M) : sm_so n (sm_N C) := fun i hi => by
  have hn := h.1
  show sm_s (C i 9) = -1 ∨ ∃ s : Nat, s < n ∧ sm_s (C i 9) = nI s
  rcases iv_dark h hi with z | z | z
  · rw [z.2.2]; exact Or.inl rfl
  · rw [sm_s_so hn z.2.2]; exact z.2.2
  · rw [sm_s_so hn z.2.2.2]; exact z.2.2.2
end SR
