/-! WHAT THE CLASS'S METHODS COMPUTE, as functions: C (hills, fields in their order), G (count, haze, glow, minute, lit, mistaken), M (sights) -/
def hb_it {α : Type} (f : Nat → α → α) : Nat → α → α
  | 0, a => a
  | n + 1, a => f n (hb_it f n a)
def hb_hx (x : Int32) : Nat := if x < 0 ∨ (nI 10) ≤ x then 10 else x.toNatClampNeg
theorem hb_hx_le (x : Int32) : hb_hx x ≤ 10 := by
  unfold hb_hx
  by_cases h : x < 0 ∨ (nI 10) ≤ x
  · simp [h]
  · rw [if_neg h]
    rcases pk_ix x (n := 10) (by decide) with h1 | h1 | ⟨j, h1, rfl⟩
    · exact absurd (Or.inl h1) h
    · exact absurd (Or.inr h1) h
    · rw [nI_clamp (by omega)]; omega
theorem hb_hx_nI {j : Nat} (h : j < 10) : hb_hx (nI j) = j := by
  unfold hb_hx
  rw [if_neg, nI_clamp (by omega)]
  rintro (h1 | h1)
  · exact nI_pos (by omega) h1
  · exact nI_ge h (by decide) h1
theorem hb_ex {x : Int32} {n j : Nat} (hx : x = nI n) (hn : n ≤ 1000) (hj : j ≤ n) (c : x ≤ nI j) : j = n := by
  rw [hx] at c
  have := (nI_leI (by omega) (by omega)).mp c
  omega
theorem hb_in {x : Int32} {n j : Nat} (hx : x = nI n) (hn : n ≤ 1000) (hj : j ≤ n) (c : ¬ x ≤ nI j) : j < n := by
  rw [hx] at c
  rcases Nat.lt_or_ge j n with h | h
  · exact h
  · exact absurd (nI_le h (by omega)) c
def hb_kindleF (f : Nat → Int32) (src : Int32) : Nat → Int32 := hb_fu (hb_fu (hb_fu (hb_fu (hb_fu f 0 (f 0 - 1)) 8 0) 5 1) 7 (f 1 + 1)) 9 src
def hb_darkF (f : Nat → Int32) : Nat → Int32 := hb_fu (hb_fu (hb_fu f 5 0) 7 0) 9 (-2)
def hb_burnF (f : Nat → Int32) : Nat → Int32 := if 0 < f 0 then hb_fu f 0 (f 0 - 1) else hb_darkF f
def hb_copyF (f g : Nat → Int32) : Nat → Int32 := hb_fu (hb_fu (hb_fu (hb_fu (hb_fu (hb_fu (hb_fu (hb_fu (hb_fu (hb_fu f 0 (g 0)) 1 (g 1)) 2 (g 2)) 3 (hb_zb (g 3))) 4 (hb_zb (g 4))) 5 (g 5)) 7 (g 7)) 8 (g 8)) 9 (g 9)) 10 (g 10)
def hb_ready (f : Nat → Int32) : Prop := f 5 = 0 ∧ 0 < f 0
def hb_rdy (f : Nat → Int32) : Int32 := if f 5 = 0 ∧ 0 < f 0 then 1 else 0
def hb_clr (haze x : Int32) : Int32 := if 0 < x ∧ x ≤ 20 - 2 * haze then 1 else 0
def hb_isin (set hill : Int32) : Int32 := if (set >>> (hill &&& 31)) &&& 1 = 0 then 0 else 1
/-- the hills that one sees, as bits -/
def hb_sf (G M : Nat → Int32) (a : Nat) : Nat → Int32 := fun j => hb_it (fun t s => if hb_clr (G 1) (M (a * 10 + t)) = 0 then s else s ||| (1 <<< (nI t &&& 31))) j 0
def hb_sa (G M : Nat → Int32) (n : Nat) (set : Int32) : Nat → Int32 := fun j => hb_it (fun t s => if hb_isin set (nI t) = 0 then s else s ||| hb_sf G M t n) j 0
def hb_rs (G M : Nat → Int32) (n a : Nat) : Nat → Int32 := fun j => hb_it (fun _ r => r ||| hb_sa G M n r n) j (1 <<< (nI a &&& 31))
def hb_first (P : Nat → Int32) : Nat → Nat → Int32
  | 0, _ => -1
  | m + 1, s => if P s = 0 then hb_first P m (s + 1) else nI s
def hb_steps (G M : Nat → Int32) (n a b : Nat) : Int32 := hb_first (fun j => hb_isin (hb_rs G M n a j) (nI b)) 10 0
def hb_wood (C : Nat → Nat → Int32) : Nat → Int32 := fun j => hb_it (fun i s => s + C i 0) j 0
def hb_burn (C : Nat → Nat → Int32) : Nat → Int32 := fun j => hb_it (fun i s => if C i 5 = 2 then s + 1 else s) j 0
def hb_bset (C : Nat → Nat → Int32) (src : Int32) : Nat → Int32 := fun j => hb_it (fun i s => if C i 5 = 2 then (if C i 9 = src then s ||| (1 <<< (nI i &&& 31)) else s) else s) j 0
def hb_kG (G : Nat → Int32) (src : Int32) : Nat → Int32 := if src = -1 then hb_fu (hb_fu G 4 (G 4 + 1)) 5 (G 5 + 1) else hb_fu G 4 (G 4 + 1)
def hb_kC (C : Nat → Nat → Int32) (i : Nat) (src : Int32) : Nat → Nat → Int32 := va_up C i (hb_kindleF (C i) src)
def hb_hC (C : Nat → Nat → Int32) (i : Nat) : Nat → Nat → Int32 := va_up C i (hb_fu (hb_kindleF (C i) (nI i)) 10 0)
def hb_rem (C : Nat → Nat → Int32) : Nat → Nat → Nat → Int32 := fun j => hb_it (fun i C => va_up C i (hb_fu (C i) 6 (C i 5))) j C
def hb_nf (C : Nat → Nat → Int32) (G M : Nat → Int32) (a : Nat) : Nat → Int32 × Int32 := fun j => hb_it (fun t s => if C t 6 = 2 then (if hb_clr (G 1) (M (a * 10 + t)) = 0 then s else if s.2 ≤ M (a * 10 + t) then s else (nI t, M (a * 10 + t))) else s) j (-1, 21)
def hb_glo (f G : Nat → Int32) : Int32 := if ¬ hb_zb (f 3) = 0 ∧ 0 < G 2 then 1 else 0
def hb_loF (C : Nat → Nat → Int32) (G M : Nat → Int32) (n i : Nat) : Nat → Int32 := hb_fu (C i) 8 (if hb_rdy (C i) = 0 then 0 else if hb_glo (C i) G = 0 then (if (hb_nf C G M i n).1 = -1 then 0 else C i 8 + 1) else C i 8 + 1)
def hb_lo (C : Nat → Nat → Int32) (G M : Nat → Int32) (n : Nat) : Nat → Nat → Nat → Int32 := fun j => hb_it (fun i C => va_up C i (hb_loF C G M n i)) j C
def hb_ssf (C : Nat → Nat → Int32) (G M : Nat → Int32) (n i : Nat) : Int32 := if (hb_nf C G M i n).1 = -1 then -1 else C (hb_hx (hb_nf C G M i n).1) 9
def hb_as (C : Nat → Nat → Int32) (G M : Nat → Int32) (n : Nat) : Nat → (Nat → Nat → Int32) × (Nat → Int32) := fun j => hb_it (fun i s => if s.1 i 8 < s.1 i 2 then s else (hb_kC s.1 i (hb_ssf s.1 s.2 M n i), hb_kG s.2 (hb_ssf s.1 s.2 M n i))) j (C, G)
def hb_sb (C : Nat → Nat → Int32) (i : Nat) : Nat → Nat → Int32 := if hb_zb (C i 4) = 0 then va_up C i (hb_fu (C i) 5 2) else if C i 9 = -1 then va_up C i (hb_fu (C i) 5 2) else va_up (va_up C i (hb_fu (C i) 5 2)) (hb_hx (C i 9)) (hb_fu ((va_up C i (hb_fu (C i) 5 2)) (hb_hx (C i 9))) 10 ((va_up C i (hb_fu (C i) 5 2)) (hb_hx (C i 9)) 10 + 1))
def hb_ko (C : Nat → Nat → Int32) : Nat → Nat → Nat → Int32 := fun j => hb_it (fun i C => if C i 6 = 1 then (if 0 < C i 7 - 1 then va_up C i (hb_fu (C i) 7 (C i 7 - 1)) else hb_sb (va_up C i (hb_fu (C i) 7 (C i 7 - 1))) i) else C) j C
def hb_bo (C : Nat → Nat → Int32) : Nat → Nat → Nat → Int32 := fun j => hb_it (fun i C => if C i 6 = 2 then va_up C i (hb_burnF (C i)) else C) j C
def hb_p1 (C : Nat → Nat → Int32) (n : Nat) : Nat → Nat → Int32 := hb_rem C n
def hb_p2 (C : Nat → Nat → Int32) (G M : Nat → Int32) (n : Nat) : Nat → Nat → Int32 := hb_lo (hb_p1 C n) G M n n
def hb_p3 (C : Nat → Nat → Int32) (G M : Nat → Int32) (n : Nat) : (Nat → Nat → Int32) × (Nat → Int32) := hb_as (hb_p2 C G M n) G M n n
def hb_poC (C : Nat → Nat → Int32) (G M : Nat → Int32) (n : Nat) : Nat → Nat → Int32 := hb_bo (hb_ko (hb_p3 C G M n).1 n) n
def hb_poG (C : Nat → Nat → Int32) (G M : Nat → Int32) (n : Nat) : Nat → Int32 := if (hb_p3 C G M n).2 2 ≤ 0 then hb_fu (hb_p3 C G M n).2 3 ((hb_p3 C G M n).2 3 + 1) else hb_fu (hb_fu (hb_p3 C G M n).2 2 ((hb_p3 C G M n).2 2 - 1)) 3 ((hb_p3 C G M n).2 3 + 1)
/-- m minutes -/
def hb_pm (C : Nat → Nat → Int32) (G M : Nat → Int32) (n : Nat) : Nat → (Nat → Nat → Int32) × (Nat → Int32) := fun j => hb_it (fun _ s => (hb_poC s.1 s.2 M n, hb_poG s.1 s.2 M n)) j (C, G)
theorem hb_sf_s (G M : Nat → Int32) (a j : Nat) : hb_sf G M a (j + 1) = if hb_clr (G 1) (M (a * 10 + j)) = 0 then hb_sf G M a j else hb_sf G M a j ||| (1 <<< (nI j &&& 31)) := rfl
theorem hb_sa_s (G M : Nat → Int32) (n : Nat) (set : Int32) (j : Nat) : hb_sa G M n set (j + 1) = if hb_isin set (nI j) = 0 then hb_sa G M n set j else hb_sa G M n set j ||| hb_sf G M j n := rfl
theorem hb_rs_s (G M : Nat → Int32) (n a j : Nat) : hb_rs G M n a (j + 1) = hb_rs G M n a j ||| hb_sa G M n (hb_rs G M n a j) n := rfl
theorem hb_wood_s (C : Nat → Nat → Int32) (j : Nat) : hb_wood C (j + 1) = hb_wood C j + C j 0 := rfl
theorem hb_burn_s (C : Nat → Nat → Int32) (j : Nat) : hb_burn C (j + 1) = if C j 5 = 2 then hb_burn C j + 1 else hb_burn C j := rfl
theorem hb_bset_s (C : Nat → Nat → Int32) (src : Int32) (j : Nat) : hb_bset C src (j + 1) = if C j 5 = 2 then (if C j 9 = src then hb_bset C src j ||| (1 <<< (nI j &&& 31)) else hb_bset C src j) else hb_bset C src j := rfl
theorem hb_rem_s (C : Nat → Nat → Int32) (j : Nat) : hb_rem C (j + 1) = va_up (hb_rem C j) j (hb_fu (hb_rem C j j) 6 (hb_rem C j j 5)) := rfl
theorem hb_nf_s (C : Nat → Nat → Int32) (G M : Nat → Int32) (a j : Nat) : hb_nf C G M a (j + 1) = if C j 6 = 2 then (if hb_clr (G 1) (M (a * 10 + j)) = 0 then hb_nf C G M a j else if (hb_nf C G M a j).2 ≤ M (a * 10 + j) then hb_nf C G M a j else (nI j, M (a * 10 + j))) else hb_nf C G M a j := rfl
theorem hb_lo_s (C : Nat → Nat → Int32) (G M : Nat → Int32) (n j : Nat) : hb_lo C G M n (j + 1) = va_up (hb_lo C G M n j) j (hb_loF (hb_lo C G M n j) G M n j) := rfl
theorem hb_as_s (C : Nat → Nat → Int32) (G M : Nat → Int32) (n j : Nat) : hb_as C G M n (j + 1) = if (hb_as C G M n j).1 j 8 < (hb_as C G M n j).1 j 2 then hb_as C G M n j else (hb_kC (hb_as C G M n j).1 j (hb_ssf (hb_as C G M n j).1 (hb_as C G M n j).2 M n j), hb_kG (hb_as C G M n j).2 (hb_ssf (hb_as C G M n j).1 (hb_as C G M n j).2 M n j)) := rfl
theorem hb_ko_s (C : Nat → Nat → Int32) (j : Nat) : hb_ko C (j + 1) = if hb_ko C j j 6 = 1 then (if 0 < hb_ko C j j 7 - 1 then va_up (hb_ko C j) j (hb_fu (hb_ko C j j) 7 (hb_ko C j j 7 - 1)) else hb_sb (va_up (hb_ko C j) j (hb_fu (hb_ko C j j) 7 (hb_ko C j j 7 - 1))) j) else hb_ko C j := rfl
theorem hb_bo_s (C : Nat → Nat → Int32) (j : Nat) : hb_bo C (j + 1) = if hb_bo C j j 6 = 2 then va_up (hb_bo C j) j (hb_burnF (hb_bo C j j)) else hb_bo C j := rfl
theorem hb_pm_s (C : Nat → Nat → Int32) (G M : Nat → Int32) (n j : Nat) : hb_pm C G M n (j + 1) = (hb_poC (hb_pm C G M n j).1 (hb_pm C G M n j).2 M n, hb_poG (hb_pm C G M n j).1 (hb_pm C G M n j).2 M n) := rfl
theorem hb_it_keep {α β : Type} {f : Nat → α → α} (g : α → β) (h : ∀ i a, g (f i a) = g a) : ∀ j a, g (hb_it f j a) = g a
  | 0, _ => rfl
  | j + 1, a => (h j (hb_it f j a)).trans (hb_it_keep g h j a)
theorem hb_kG_0 (G : Nat → Int32) (src : Int32) (k : Nat) (hk : k ≠ 4) (hk5 : k ≠ 5) : hb_kG G src k = G k := by
  unfold hb_kG
  by_cases h : src = -1 <;> simp [h, hb_fu_eq, hk, hk5]
theorem hb_as_0 {C : Nat → Nat → Int32} {G M : Nat → Int32} {n : Nat} (k : Nat) (hk : k ≠ 4) (hk5 : k ≠ 5) (j : Nat) : (hb_as C G M n j).2 k = G k := by
  refine hb_it_keep (fun s => s.2 k) (fun i s => ?_) j (C, G)
  by_cases h : s.1 i 8 < s.1 i 2
  · simp only [if_pos h]
  · simp only [if_neg h]; exact hb_kG_0 _ _ k hk hk5
theorem hb_poG_0 {C : Nat → Nat → Int32} {G M : Nat → Int32} {n : Nat} (k : Nat) (hk : k ≠ 4) (hk5 : k ≠ 5) (h2 : k ≠ 2) (h3 : k ≠ 3) : hb_poG C G M n k = G k := by
  unfold hb_poG hb_p3
  by_cases h : (hb_as (hb_p2 C G M n) G M n n).2 2 ≤ 0 <;> simp [h, hb_fu_eq, h2, h3, hb_as_0 k hk hk5]
theorem hb_pm_0 {C : Nat → Nat → Int32} {G M : Nat → Int32} {n : Nat} (k : Nat) (hk : k ≠ 4) (hk5 : k ≠ 5) (h2 : k ≠ 2) (h3 : k ≠ 3) (j : Nat) : (hb_pm C G M n j).2 k = G k :=
  hb_it_keep (fun s => s.2 k) (fun _ _ => hb_poG_0 k hk hk5 h2 h3) j (C, G)
