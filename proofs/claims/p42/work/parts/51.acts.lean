/-! WHAT IS DONE TO THE LAND: what holds is kept, and the law's land stays its image -/
section ACTS
variable {n B : Nat} {C : Nat → Nat → Int32} {G M : Nat → Int32}
theorem iv_up (h : iv n B C G M) {i : Nat} (hi : i < n) {f : Nat → Int32} (hf : iv_H n B f) : iv n B (va_up C i f) G M := by
  refine ⟨h.1, fun k hk => ?_, fun k hk hk10 => ?_, h.2.2.2.1, h.2.2.2.2⟩
  · by_cases e : k = i
    · subst e; rw [va_up_self]; exact hf
    · rw [va_up_ne _ _ e]; exact h.2.1 k hk
  · rw [va_up_ne _ _ (by omega)]
    exact h.2.2.1 k hk hk10
theorem iv_g1 (h : iv n B C G M) {k : Nat} (hk : k ≤ 9) : iv n B C (hb_fu G 1 (nI k)) M := by
  obtain ⟨hn, hH, hF, ⟨g0, g1, g2, g3⟩, hM⟩ := h
  exact ⟨hn, hH, hF, ⟨g0, ⟨k, hk, rfl⟩, g2, g3⟩, hM⟩
theorem iv_g2 (h : iv n B C G M) {k : Nat} (hk : k ≤ 30) : iv n B C (hb_fu G 2 (nI k)) M := by
  obtain ⟨hn, hH, hF, ⟨g0, g1, g2, g3⟩, hM⟩ := h
  exact ⟨hn, hH, hF, ⟨g0, g1, ⟨k, hk, rfl⟩, g3⟩, hM⟩
theorem st_M (M : Nat → Int32) {a b c d : Nat} {v : Int32} (ha : a < 10) (hb : b < 10) (hc : c < 10) (hd : d < 10) : upd (upd M (a * 10 + b) v) (b * 10 + a) v (c * 10 + d) = if (c = b ∧ d = a) ∨ (c = a ∧ d = b) then v else M (c * 10 + d) := by
  by_cases e1 : c = b ∧ d = a
  · rw [if_pos (Or.inl e1), e1.1, e1.2, pk_us]
  · rw [pk_un (show c * 10 + d ≠ b * 10 + a by omega)]
    by_cases e2 : c = a ∧ d = b
    · rw [if_pos (Or.inr e2), e2.1, e2.2, pk_us]
    · rw [if_neg (fun q => q.elim e1 e2), pk_un (show c * 10 + d ≠ a * 10 + b by omega)]
theorem iv_sight (h : iv n B C G M) {a b k : Nat} (ha : a < 10) (hb : b < 10) (hne : a ≠ b) (hk : k ≤ 20) : iv n B C G (upd (upd M (a * 10 + b) (nI k)) (b * 10 + a) (nI k)) := by
  refine ⟨h.1, h.2.1, h.2.2.1, h.2.2.2.1, fun c d hc hd => ?_⟩
  obtain ⟨m1, m2, m3⟩ := h.2.2.2.2 c d hc hd
  rw [st_M M ha hb hc hd, st_M M ha hb hd hc]
  by_cases e : (c = b ∧ d = a) ∨ (c = a ∧ d = b)
  · rw [if_pos e, if_pos (by omega)]
    exact ⟨rfl, ⟨k, hk, rfl⟩, fun q => absurd q (by omega)⟩
  · rw [if_neg e, if_neg (by omega)]
    exact ⟨m1, m2, m3⟩
theorem sm_M_up {a b : Nat} {v : Int32} (ha : a < 10) (hb : b < 10) (hne : a ≠ b) : ∀ i, i < 10 → va_up (va_up (sm_M M) a (upd (sm_M M a) b v)) b (upd (sm_M M b) a v) i = sm_M (upd (upd M (a * 10 + b) v) (b * 10 + a) v) i := fun i hi => by
  funext d
  by_cases hd : d < 10
  · have hR : sm_M (upd (upd M (a * 10 + b) v) (b * 10 + a) v) i d = if (i = b ∧ d = a) ∨ (i = a ∧ d = b) then v else M (i * 10 + d) := by
      unfold sm_M
      rw [if_pos hd, st_M M ha hb hi hd]
    have hM : ∀ j, sm_M M j d = M (j * 10 + d) := fun j => by unfold sm_M; rw [if_pos hd]
    rw [hR]
    by_cases e1 : i = b
    · subst e1
      rw [va_up_self]
      by_cases e2 : d = a
      · subst e2
        rw [pk_us, if_pos (Or.inl ⟨rfl, rfl⟩)]
      · rw [pk_un e2, if_neg (by omega), hM]
    · rw [va_up_ne _ _ e1]
      by_cases e3 : i = a
      · subst e3
        rw [va_up_self]
        by_cases e2 : d = b
        · subst e2
          rw [pk_us, if_pos (Or.inr ⟨rfl, rfl⟩)]
        · rw [pk_un e2, if_neg (by omega), hM]
      · rw [va_up_ne _ _ e3, if_neg (by omega), hM]
  · have hR : sm_M (upd (upd M (a * 10 + b) v) (b * 10 + a) v) i d = 0 := by unfold sm_M; rw [if_neg hd]
    have hM : ∀ j, sm_M M j d = 0 := fun j => by unfold sm_M; rw [if_neg hd]
    rw [hR]
    by_cases e1 : i = b
    · subst e1
      rw [va_up_self, pk_un (by omega), hM]
    · rw [va_up_ne _ _ e1]
      by_cases e3 : i = a
      · subst e3
        rw [va_up_self, pk_un (by omega), hM]
      · rw [va_up_ne _ _ e3, hM]
theorem sm_N_up {i : Nat} {f g : Nat → Int32} (e : sm_hill f = sm_hill (sm_H i g)) (k : Nat) : sm_hill (va_up (sm_N C) i f k) = sm_hill (sm_N (va_up C i g) k) := by
  by_cases q : k = i
  · subst q
    unfold sm_N
    rw [va_up_self, va_up_self]
    exact e
  · unfold sm_N
    rw [va_up_ne _ _ q, va_up_ne _ _ q]
theorem hb_zb01 (v : Int32) : hb_zb v = 0 ∨ hb_zb v = 1 := by
  unfold hb_zb
  split
  · exact Or.inl rfl
  · exact Or.inr rfl
theorem hb_neg_1 {v : Int32} (h : hb_zb v = 0) : hb_neg v = 1 := by unfold hb_neg; rw [if_pos h]
theorem hb_neg_0 {v : Int32} (h : ¬ hb_zb v = 0) : hb_neg v = 0 := by unfold hb_neg; rw [if_neg h]
theorem mi_all : ∀ s, s < 61 → hb_min (nI s) 30 = nI (if s < 30 then s else 30) := by decide +kernel
theorem iv_wood (h : iv n B C G M) {i : Nat} (hi : i < n) {m : Nat} (hm : m ≤ 30) : iv_H n B (hb_fu (C i) 0 (hb_min (C i 0 + nI m) 30)) := by
  obtain ⟨⟨k0, hk0, e0⟩, h1, h2, h10, hd⟩ := h.2.1 i hi
  refine ⟨⟨if k0 + m < 30 then k0 + m else 30, by split <;> omega, ?_⟩, h1, h2, h10, hd⟩
  show hb_min (C i 0 + nI m) 30 = _
  rw [e0, nI_add, mi_all _ (by omega)]
theorem iv_damp (h : iv n B C G M) {i : Nat} (hi : i < n) {m : Nat} (hm : m ≤ 9) : iv_H n B (hb_fu (C i) 1 (nI m)) := by
  obtain ⟨h0, h1, h2, h10, hd⟩ := h.2.1 i hi
  exact ⟨h0, ⟨m, hm, rfl⟩, h2, h10, hd⟩
theorem iv_turn3 (h : iv n B C G M) {i : Nat} (hi : i < n) {v : Int32} : iv_H n B (hb_fu (C i) 3 v) := by
  obtain ⟨h0, h1, h2, h10, hd⟩ := h.2.1 i hi
  exact ⟨h0, h1, h2, h10, hd⟩
theorem iv_turn4 (h : iv n B C G M) {i : Nat} (hi : i < n) {v : Int32} : iv_H n B (hb_fu (C i) 4 v) := by
  obtain ⟨h0, h1, h2, h10, hd⟩ := h.2.1 i hi
  exact ⟨h0, h1, h2, h10, hd⟩
theorem iv_douse (h : iv n B C G M) {i : Nat} (hi : i < n) : iv_H n B (hb_darkF (C i)) := by
  obtain ⟨h0, h1, ⟨k2, a, b, e⟩, h10, hd⟩ := h.2.1 i hi
  refine ⟨h0, h1, ⟨k2, a, b, e⟩, h10, Or.inl ⟨rfl, rfl, rfl, ?_⟩⟩
  show ∃ k m : Nat, C i 8 = nI k ∧ C i 2 = nI m ∧ k < m ∧ m ≤ 5
  rcases hd with ⟨-, -, -, q⟩ | ⟨-, -, q, -⟩ | ⟨-, -, q, -⟩
  · exact q
  · exact ⟨0, k2, q, e, by omega, b⟩
  · exact ⟨0, k2, q, e, by omega, b⟩
theorem hb_rdy_iff {f : Nat → Int32} : (¬ hb_rdy f = 0) ↔ (f 5 = 0 ∧ 0 < f 0) := by
  unfold hb_rdy
  by_cases c : f 5 = 0 ∧ 0 < f 0
  · rw [if_pos c]; exact ⟨fun _ => c, fun _ => by decide⟩
  · rw [if_neg c]; exact ⟨fun q => absurd rfl q, fun q => absurd q c⟩
theorem iv_pos (h : iv n B C G M) {i : Nat} (hi : i < n) (h0 : ¬ C i 0 = 0) : 0 < C i 0 := by
  obtain ⟨⟨k0, hk0, e0⟩, -⟩ := h.2.1 i hi
  rw [e0] at h0 ⊢
  rcases Nat.eq_zero_or_pos k0 with q | q
  · subst q; exact absurd rfl h0
  · exact nI_lt (a := 0) q (by omega)
theorem iv_light (h : iv n B C G M) {i : Nat} (hi : i < n) (hr : ¬ hb_rdy (C i) = 0) : iv n (B + 1) (hb_hC C i) (hb_kG G (nI i)) M := by
  have hn := h.1
  obtain ⟨-, hw⟩ := hb_rdy_iff.mp hr
  obtain ⟨⟨k0, hk0, e0⟩, ⟨k1, hk1, e1⟩, h2, -, -⟩ := h.2.1 i hi
  have hk00 : 0 < k0 := by
    rcases Nat.eq_zero_or_pos k0 with q | q
    · subst q
      rw [e0] at hw
      exact absurd hw (by decide)
    · exact q
  have h' := iv_w h (Nat.le_succ B)
  obtain ⟨g0, g1, g2, a, b, hab, ha, e4, e5⟩ := h.2.2.2.1
  have hG : iv_G n (B + 1) (hb_kG G (nI i)) := by
    unfold hb_kG
    rw [if_neg (hm_neg (by omega))]
    exact ⟨g0, g1, g2, a + 1, b, by omega, by omega, by show G 4 + 1 = _; rw [e4, nI_1], e5⟩
  have hu := iv_up h' hi (f := hb_fu (hb_kindleF (C i) (nI i)) 10 0) ⟨⟨k0 - 1, by omega, by show C i 0 - 1 = _; rw [e0, nI_sub1 hk00]⟩, ⟨k1, hk1, e1⟩, h2, ⟨0, Nat.zero_le _, rfl⟩, Or.inr (Or.inl ⟨rfl, ⟨k1 + 1, by omega, by omega, by show C i 1 + 1 = _; rw [e1, nI_1]⟩, rfl, Or.inr ⟨i, hi, rfl⟩⟩)⟩
  exact ⟨hu.1, hu.2.1, hu.2.2.1, hG, hu.2.2.2.2⟩
theorem iv_add (h : iv n B C G M) (hn : n < 10) {w d t : Nat} (hw : w ≤ 30) (hd : d ≤ 9) (ht1 : 1 ≤ t) (ht5 : t ≤ 5) : iv (n + 1) B (va_up C n (hb_fu (hb_fu (hb_fu (C n) 0 (nI w)) 1 (nI d)) 2 (nI t))) (hb_fu G 0 (nI (n + 1))) M := by
  obtain ⟨f5, f7, f8, f9, f10, f3, f4⟩ := h.2.2.1 n (Nat.le_refl n) hn
  obtain ⟨g0, g1, g2, g3⟩ := h.2.2.2.1
  refine ⟨by omega, fun k hk => ?_, fun k hk hk10 => ?_, ⟨rfl, g1, g2, g3⟩, h.2.2.2.2⟩
  · by_cases e : k = n
    · subst e
      rw [va_up_self]
      exact ⟨⟨w, hw, rfl⟩, ⟨d, hd, rfl⟩, ⟨t, ht1, ht5, rfl⟩, ⟨0, Nat.zero_le _, f10⟩, Or.inl ⟨f5, f7, f9, 0, t, f8, rfl, by omega, ht5⟩⟩
    · rw [va_up_ne _ _ e]
      exact iv_H_w (h.2.1 k (by omega)) (Nat.le_succ n) (Nat.le_refl B)
  · rw [va_up_ne _ _ (by omega)]
    exact h.2.2.1 k (by omega) hk10
/-- the law's new hill -/
def sm_nh (n : Nat) (w d t : Int32) : Nat → Int32 := hb_fu (hb_fu (hb_fu (hb_fu (hb_fu (fun _ => 0) 9 (-1)) 0 (nI n)) 1 w) 2 d) 3 t
theorem sm_N_add (h : iv n B C G M) (hn : n < 10) {w d t : Int32} (k : Nat) : sm_hill (va_up (sm_N C) n (sm_nh n w d t) k) = sm_hill (sm_N (va_up C n (hb_fu (hb_fu (hb_fu (C n) 0 w) 1 d) 2 t)) k) := by
  obtain ⟨f5, f7, f8, f9, f10, f3, f4⟩ := h.2.2.1 n (Nat.le_refl n) hn
  refine sm_N_up ?_ k
  have e : ∀ f : Nat → Int32, f 5 = 0 → f 7 = 0 → f 8 = 0 → f 9 = -2 → f 10 = 0 → hb_zb (f 3) = 0 → hb_zb (f 4) = 0 → sm_hill (sm_nh n w d t) = sm_hill (sm_H n (hb_fu (hb_fu (hb_fu f 0 w) 1 d) 2 t)) := fun f a b c d' e1 e3 e4 => by
    show [Value.int (nI n), .int w, .int d, .int t, .int (hb_zb 0), .int (hb_zb 0), .int 0, .int 0, .int 0, .int (-1), .int 0] = [Value.int (nI n), .int w, .int d, .int t, .int (hb_zb (f 3)), .int (hb_zb (f 4)), .int (f 5), .int (f 7), .int (f 8), .int (sm_s (f 9)), .int (f 10)]
    rw [a, b, c, d', e1, e3, e4]
    rfl
  exact e (C n) f5 f7 f8 f9 f10 f3 f4
end ACTS
/-! a new hill in the law's row: the row's places, the land's new layout -/
theorem sm_pf_s (b : Nat → Nat) (j : Nat) : va_up (hb_pf b j) j (some (b j)) = hb_pf b (j + 1) := by
  rw [hb_pf_s]
  congr 1
  funext i
  by_cases h : i = j
  · subst h; rw [va_up_self]
  · rw [va_up_ne _ _ h]
def sm_pn (p : Nat → Nat) (n ha hh : Nat) : Nat → Nat := fun i => if i = 1 then ha else if i = 13 + n then hh else p i
theorem sm_pn_h {p : Nat → Nat} {n ha hh : Nat} {i : Nat} (hi : i < n + 1) : va_up (hb_pf (fun i => p (13 + i)) n) n (some hh) i = some (sm_pn p n ha hh (13 + i)) := by
  unfold sm_pn
  by_cases e : i = n
  · subst e
    rw [va_up_self, if_neg (by omega), if_pos rfl]
  · rw [va_up_ne _ _ e, if_neg (by omega), if_neg (by omega)]
    unfold hb_pf
    rw [if_pos (by omega)]
theorem sm_yY {E : jk_T} {X Y : va_W} {p : Nat → Nat} {n : Nat} {S : Nat → Int32} {N mi : Nat → Nat → Int32} (j : Nat) : (sm_S E X Y p n S N mi)[X.length + (13 + n + j)]? = Y[j]? := by
  unfold sm_S
  rw [List.getElem?_append_right (by omega), List.getElem?_append_right (by rw [sm_len]; omega), sm_len, show X.length + (13 + n + j) - X.length - (13 + n) = j by omega]
section LAY
variable {Γ : jk_G} {E : jk_T} {cells k pc : Nat} {lv : List (Nat × Value)} {st : List Value}
theorem sm_lay {X Y : va_W} {p : Nat → Nat} {n ha hh : Nat} {S : Nat → Int32} {N mi : Nat → Nat → Int32} {f : Nat → Int32} (kk : jk_J Γ E (sm_S E X Y (sm_pn p n ha hh) (n + 1) S (va_up N n f) mi) cells k pc lv st) : jk_J Γ E ((sm_S E X (Y ++ [(ha, .inl (E.2 3, n + 1, .inr (.inr (.inr (.inr (va_up (hb_pf (fun i => p (13 + i)) n) n (some hh))))))), (hh, .inr (3, sm_hill f))]) p n S N mi).set (X.length + 0) (p 0, .inr (4, sm_ob S ha (p 2)))) cells k pc lv st := by
  generalize hW : sm_S E X (Y ++ [(ha, .inl (E.2 3, n + 1, .inr (.inr (.inr (.inr (va_up (hb_pf (fun i => p (13 + i)) n) n (some hh))))))), (hh, .inr (3, sm_hill f))]) p n S N mi = W0
  have hlen : W0.length = X.length + (13 + n + (Y.length + 2)) := by
    rw [← hW]
    unfold sm_S
    simp [sm_len]
  have hz0 : W0[X.length + (13 + n + (Y.length + 0))]? = some (ha, .inl (E.2 3, n + 1, .inr (.inr (.inr (.inr (va_up (hb_pf (fun i => p (13 + i)) n) n (some hh))))))) := by rw [← hW]; exact sm_yat rfl
  have hz1 : W0[X.length + (13 + n + (Y.length + 1))]? = some (hh, .inr (3, sm_hill f)) := by rw [← hW]; exact sm_yat rfl
  have hz2 : W0[X.length + 2]? = some (p 2, .inl (E.2 4, 10, .inr (.inr (.inr (.inr (fun i => some (p (3 + i)))))))) := by rw [← hW]; exact sm_2
  have pr : ∀ j, j < 10 → sm_pn p n ha hh (3 + j) = p (3 + j) := fun j hj => by unfold sm_pn; rw [if_neg (by omega), if_neg (by omega)]
  -- the two rows of references read as the new land reads them
  refine jk_cellq (X.length + (13 + n + (Y.length + 0))) (by rw [List.getElem?_set_ne (by omega)]; exact hz0) (sm_cellq (g := fun i => some (sm_pn p n ha hh (13 + i))) (fun i hi => sm_pn_h hi)) rfl ?_
  refine jk_cellq (X.length + 2) (by rw [List.getElem?_set_ne (by omega), List.getElem?_set_ne (by omega)]; exact hz2) (sm_cellq (g := fun i => some (sm_pn p n ha hh (3 + i))) (fun i hi => by rw [pr i hi])) rfl ?_
  generalize hW1 : ((W0.set (X.length + 0) (p 0, .inr (4, sm_ob S ha (p 2)))).set (X.length + (13 + n + (Y.length + 0))) (ha, .inl (E.2 3, n + 1, .inr (.inr (.inr (.inr (fun i => some (sm_pn p n ha hh (13 + i))))))))).set (X.length + 2) (p 2, .inl (E.2 4, 10, .inr (.inr (.inr (.inr (fun i => some (sm_pn p n ha hh (3 + i)))))))) = W1
  have g : ∀ {j : Nat}, j ≠ X.length + 0 → j ≠ X.length + (13 + n + (Y.length + 0)) → j ≠ X.length + 2 → W1[j]? = W0[j]? := fun {j} h1 h2 h3 => by
    rw [← hW1, List.getElem?_set_ne (Ne.symm h3), List.getElem?_set_ne (Ne.symm h2), List.getElem?_set_ne (Ne.symm h1)]
  have g0 : W1[X.length + 0]? = some (p 0, .inr (4, sm_ob S ha (p 2))) := by
    rw [← hW1, List.getElem?_set_ne (by omega), List.getElem?_set_ne (by omega), List.getElem?_set_self (by omega)]
  have gz : W1[X.length + (13 + n + (Y.length + 0))]? = some (ha, .inl (E.2 3, n + 1, .inr (.inr (.inr (.inr (fun i => some (sm_pn p n ha hh (13 + i)))))))) := by
    rw [← hW1, List.getElem?_set_ne (by omega), List.getElem?_set_self (by rw [List.length_set]; omega)]
  have g2 : W1[X.length + 2]? = some (p 2, .inl (E.2 4, 10, .inr (.inr (.inr (.inr (fun i => some (sm_pn p n ha hh (3 + i)))))))) := by
    rw [← hW1, List.getElem?_set_self (by rw [List.length_set, List.length_set]; omega)]
  have hl : (sm_S E X Y (sm_pn p n ha hh) (n + 1) S (va_up N n f) mi).length = X.length + (13 + (n + 1) + Y.length) := by
    unfold sm_S
    simp [sm_len]
  refine jk_map (fun i => if i = X.length + 1 then X.length + (13 + n + (Y.length + 0)) else if i < X.length + (13 + n) then i else if i = X.length + (13 + n) then X.length + (13 + n + (Y.length + 1)) else i - 1) (fun i j hi hj e => ?_) (fun i hi => ?_) kk
  · rw [hl] at hi hj
    have e : (if i = X.length + 1 then X.length + (13 + n + (Y.length + 0)) else if i < X.length + (13 + n) then i else if i = X.length + (13 + n) then X.length + (13 + n + (Y.length + 1)) else i - 1) = (if j = X.length + 1 then X.length + (13 + n + (Y.length + 0)) else if j < X.length + (13 + n) then j else if j = X.length + (13 + n) then X.length + (13 + n + (Y.length + 1)) else j - 1) := e
    have cs : ∀ i v : Nat, v = (if i = X.length + 1 then X.length + (13 + n + (Y.length + 0)) else if i < X.length + (13 + n) then i else if i = X.length + (13 + n) then X.length + (13 + n + (Y.length + 1)) else i - 1) → (i = X.length + 1 ∧ v = X.length + (13 + n + (Y.length + 0))) ∨ (i ≠ X.length + 1 ∧ i < X.length + (13 + n) ∧ v = i) ∨ (i = X.length + (13 + n) ∧ v = X.length + (13 + n + (Y.length + 1))) ∨ (X.length + (13 + n) < i ∧ v = i - 1) := by
      intro i v hv
      by_cases a1 : i = X.length + 1
      · rw [if_pos a1] at hv; exact Or.inl ⟨a1, hv⟩
      · rw [if_neg a1] at hv
        by_cases a2 : i < X.length + (13 + n)
        · rw [if_pos a2] at hv; exact Or.inr (Or.inl ⟨a1, a2, hv⟩)
        · rw [if_neg a2] at hv
          by_cases a3 : i = X.length + (13 + n)
          · rw [if_pos a3] at hv; exact Or.inr (Or.inr (Or.inl ⟨a3, hv⟩))
          · rw [if_neg a3] at hv; exact Or.inr (Or.inr (Or.inr ⟨by omega, hv⟩))
    have e1 := cs i _ rfl
    have e2 := cs j _ e
    generalize (if i = X.length + 1 then X.length + (13 + n + (Y.length + 0)) else if i < X.length + (13 + n) then i else if i = X.length + (13 + n) then X.length + (13 + n + (Y.length + 1)) else i - 1) = v at e1 e2
    omega
  · rw [hl] at hi
    show W1[if i = X.length + 1 then X.length + (13 + n + (Y.length + 0)) else if i < X.length + (13 + n) then i else if i = X.length + (13 + n) then X.length + (13 + n + (Y.length + 1)) else i - 1]? = _
    have p0 : sm_pn p n ha hh 0 = p 0 := by unfold sm_pn; rw [if_neg (by omega), if_neg (by omega)]
    have p1 : sm_pn p n ha hh 1 = ha := by unfold sm_pn; rw [if_pos rfl]
    have p2 : sm_pn p n ha hh 2 = p 2 := by unfold sm_pn; rw [if_neg (by omega), if_neg (by omega)]
    have ph : ∀ j, j < n → sm_pn p n ha hh (13 + j) = p (13 + j) := fun j hj => by unfold sm_pn; rw [if_neg (by omega), if_neg (by omega)]
    have pn : sm_pn p n ha hh (13 + n) = hh := by unfold sm_pn; rw [if_neg (by omega), if_pos rfl]
    by_cases c0 : i < X.length
    · rw [if_neg (by omega), if_pos (by omega), g (by omega) (by omega) (by omega), ← hW]
      unfold sm_S
      rw [List.getElem?_append_left c0, List.getElem?_append_left c0]
    · obtain ⟨m, rfl⟩ : ∃ m, i = X.length + m := ⟨i - X.length, by omega⟩
      by_cases c1 : m = 0
      · subst c1
        rw [if_neg (by omega), if_pos (by omega), g0, sm_0, p0, p1, p2]
      · by_cases c2 : m = 1
        · subst c2
          rw [if_pos rfl, gz, sm_1, p1]
        · rw [if_neg (by omega)]
          by_cases c3 : m = 2
          · subst c3
            rw [if_pos (by omega), g2, sm_2, p2]
          · by_cases c4 : m < 13
            · obtain ⟨j, rfl⟩ : ∃ j, m = 3 + j := ⟨m - 3, by omega⟩
              rw [if_pos (by omega), g (by omega) (by omega) (by omega), ← hW, sm_r (by omega), sm_r (by omega), pr j (by omega)]
            · by_cases c5 : m < 13 + n
              · obtain ⟨j, rfl⟩ : ∃ j, m = 13 + j := ⟨m - 13, by omega⟩
                rw [if_pos (by omega), g (by omega) (by omega) (by omega), ← hW, sm_h (by omega), sm_h (by omega), ph j (by omega), va_up_ne _ _ (by omega)]
              · rw [if_neg (by omega)]
                by_cases c6 : m = 13 + n
                · subst c6
                  rw [if_pos rfl, g (by omega) (by omega) (by omega), hz1, sm_h (by omega), va_up_self, pn]
                · obtain ⟨j, rfl⟩ : ∃ j, m = 13 + (n + 1) + j := ⟨m - (13 + (n + 1)), by omega⟩
                  rw [if_neg (by omega), show X.length + (13 + (n + 1) + j) - 1 = X.length + (13 + n + j) by omega, g (by omega) (by omega) (by omega), ← hW, sm_yY, sm_yY, List.getElem?_append_left (by omega)]
end LAY
