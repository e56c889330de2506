/-! the fewest steps: rings of hills -/
theorem bi_all : ∀ u, u < 10 → ∀ k, k < 1024 → (hb_isin (nI k) (nI u) = 0 ↔ k.testBit u = false) := by decide +kernel
theorem b1_all : ∀ u, u < 10 → (1 : Int32) <<< (nI u &&& 31) = nI (2 ^ u) := by decide +kernel
theorem nI_or (a b : Nat) : nI a ||| nI b = nI (a ||| b) := by
  apply Int32.toBitVec_inj.mp
  rw [Int32.toBitVec_or]
  show BitVec.ofNat 32 a ||| BitVec.ofNat 32 b = BitVec.ofNat 32 (a ||| b)
  exact BitVec.ofNat_or.symm
/-- a set of hills -/
def hm_Y (x : Int32) (P : Nat → Prop) : Prop := ∃ k, k < 2 ^ 10 ∧ x = nI k ∧ ∀ u, k.testBit u = true ↔ P u
theorem hm_Y_0 : hm_Y 0 (fun _ => False) := ⟨0, by decide, rfl, fun u => by rw [Nat.zero_testBit]; exact ⟨fun h => (by cases h), fun h => h.elim⟩⟩
theorem hm_Y_1 {a : Nat} (ha : a < 10) : hm_Y (1 <<< (nI a &&& 31)) (fun u => u = a) := ⟨2 ^ a, Nat.pow_lt_pow_right (by decide) ha, b1_all a ha, fun u => by rw [Nat.testBit_two_pow]; simp [eq_comm]⟩
theorem hm_Y_or {x y : Int32} {P Q : Nat → Prop} (h : hm_Y x P) (g : hm_Y y Q) : hm_Y (x ||| y) (fun u => P u ∨ Q u) := by
  obtain ⟨k, hk, e, hb⟩ := h
  obtain ⟨m, hm, f, hc⟩ := g
  refine ⟨k ||| m, Nat.or_lt_two_pow hk hm, by rw [e, f, nI_or], fun u => ?_⟩
  rw [Nat.testBit_or, Bool.or_eq_true, hb u, hc u]
theorem hm_Y_c {x : Int32} {P Q : Nat → Prop} (h : hm_Y x P) (hpq : ∀ u, P u ↔ Q u) : hm_Y x Q := by
  obtain ⟨k, hk, e, hb⟩ := h
  exact ⟨k, hk, e, fun u => (hb u).trans (hpq u)⟩
theorem hm_Y_in {x : Int32} {P : Nat → Prop} (h : hm_Y x P) {u : Nat} (hu : u < 10) : hb_isin x (nI u) = 0 ↔ ¬ P u := by
  obtain ⟨k, hk, e, hb⟩ := h
  rw [e, bi_all u hu k hk, ← hb u]
  exact ⟨fun q => by rw [q]; decide, fun q => by simpa using q⟩
/-- one sees the other -/
def hm_E (G M : Nat → Int32) (t u : Nat) : Prop := ¬ hb_clr (G 1) (M (t * 10 + u)) = 0
def hm_L (G M : Nat → Int32) (n a : Nat) : Nat → Nat → Prop
  | 0, u => u = a
  | j + 1, u => hm_L G M n a j u ∨ ∃ t, t < n ∧ hm_L G M n a j t ∧ u < n ∧ hm_E G M t u
theorem hm_L_n {G M : Nat → Int32} {n a : Nat} (ha : a < n) : ∀ d u, hm_L G M n a d u → u < n
  | 0, u, h => by rw [show u = a from h]; exact ha
  | d + 1, u, h => by
    rcases h with h | ⟨t, -, -, h, -⟩
    · exact hm_L_n ha d u h
    · exact h
section RINGS
variable {G M : Nat → Int32} {n a : Nat}
theorem hm_Y_sf (hn : n ≤ 10) (t : Nat) : ∀ j, j ≤ n → hm_Y (hb_sf G M t j) (fun u => u < j ∧ hm_E G M t u)
  | 0, _ => hm_Y_c hm_Y_0 (fun u => ⟨fun h => h.elim, fun h => absurd h.1 (by omega)⟩)
  | j + 1, hj => by
    have ih := hm_Y_sf hn t j (by omega)
    rw [hb_sf_s]
    by_cases c : hb_clr (G 1) (M (t * 10 + j)) = 0
    · rw [if_pos c]
      refine hm_Y_c ih (fun u => ⟨fun h => ⟨by omega, h.2⟩, fun h => ⟨?_, h.2⟩⟩)
      have : u ≠ j := fun e => by subst e; exact h.2 c
      omega
    · rw [if_neg c]
      refine hm_Y_c (hm_Y_or ih (hm_Y_1 (by omega))) (fun u => ⟨fun h => ?_, fun h => ?_⟩)
      · rcases h with h | h
        · exact ⟨by omega, h.2⟩
        · subst h; exact ⟨by omega, c⟩
      · by_cases e : u = j
        · exact Or.inr e
        · exact Or.inl ⟨by omega, h.2⟩
theorem hm_Y_sa (hn : n ≤ 10) {set : Int32} {P : Nat → Prop} (h : hm_Y set P) : ∀ j, j ≤ n → hm_Y (hb_sa G M n set j) (fun u => ∃ t, t < j ∧ P t ∧ u < n ∧ hm_E G M t u)
  | 0, _ => hm_Y_c hm_Y_0 (fun u => ⟨fun h => h.elim, fun ⟨t, h, _⟩ => absurd h (by omega)⟩)
  | j + 1, hj => by
    have ih := hm_Y_sa hn h j (by omega)
    rw [hb_sa_s]
    by_cases c : hb_isin set (nI j) = 0
    · have c2 := (hm_Y_in h (by omega)).mp c
      rw [if_pos c]
      refine hm_Y_c ih (fun u => ⟨fun ⟨t, h1, h2⟩ => ⟨t, by omega, h2⟩, fun ⟨t, h1, h2, h3⟩ => ⟨t, ?_, h2, h3⟩⟩)
      have : t ≠ j := fun e => by subst e; exact c2 h2
      omega
    · have c2 : P j := Classical.byContradiction (fun q => c ((hm_Y_in h (by omega)).mpr q))
      rw [if_neg c]
      refine hm_Y_c (hm_Y_or ih (hm_Y_sf hn j n (Nat.le_refl n))) (fun u => ⟨fun h => ?_, fun ⟨t, h1, h2, h3, h4⟩ => ?_⟩)
      · rcases h with ⟨t, h1, h2⟩ | h
        · exact ⟨t, by omega, h2⟩
        · exact ⟨j, by omega, c2, h.1, h.2⟩
      · by_cases e : t = j
        · subst e; exact Or.inr ⟨h3, h4⟩
        · exact Or.inl ⟨t, by omega, h2, h3, h4⟩
theorem hm_Y_rs (hn : n ≤ 10) (ha : a < n) : ∀ j, hm_Y (hb_rs G M n a j) (hm_L G M n a j)
  | 0 => hm_Y_1 (by omega)
  | j + 1 => by
    have ih := hm_Y_rs hn ha j
    rw [hb_rs_s]
    exact hm_Y_or ih (hm_Y_sa hn ih n (Nat.le_refl n))
end RINGS
theorem hb_first_or {P : Nat → Int32} : ∀ m s, hb_first P m s = -1 ∨ ∃ d, s ≤ d ∧ d < s + m ∧ ¬ P d = 0 ∧ (∀ i, s ≤ i → i < d → P i = 0) ∧ hb_first P m s = nI d
  | 0, _ => Or.inl rfl
  | m + 1, s => by
    show (if P s = 0 then hb_first P m (s + 1) else nI s) = -1 ∨ ∃ d, s ≤ d ∧ d < s + (m + 1) ∧ ¬ P d = 0 ∧ (∀ i, s ≤ i → i < d → P i = 0) ∧ (if P s = 0 then hb_first P m (s + 1) else nI s) = nI d
    by_cases c : P s = 0
    · rw [if_pos c]
      rcases hb_first_or m (s + 1) with h | ⟨d, h1, h2, h3, h4, h5⟩
      · exact Or.inl h
      · refine Or.inr ⟨d, by omega, by omega, h3, fun i i1 i2 => ?_, h5⟩
        by_cases e : i = s
        · rw [e]; exact c
        · exact h4 i (by omega) i2
    · rw [if_neg c]
      exact Or.inr ⟨s, Nat.le_refl s, by omega, c, fun i i1 i2 => absurd i1 (by omega), rfl⟩
theorem hb_first_c {P Q : Nat → Int32} (h : ∀ j, P j = 0 ↔ Q j = 0) : ∀ m s, hb_first P m s = hb_first Q m s
  | 0, _ => rfl
  | m + 1, s => by
    show (if P s = 0 then hb_first P m (s + 1) else nI s) = (if Q s = 0 then hb_first Q m (s + 1) else nI s)
    by_cases c : P s = 0
    · rw [if_pos c, if_pos ((h s).mp c), hb_first_c h m (s + 1)]
    · rw [if_neg c, if_neg (fun q => c ((h s).mpr q))]
def st_ct (P : Nat → Int32) : Nat → Nat
  | 0 => 0
  | m + 1 => st_ct P m + if P m = 0 then 0 else 1
theorem st_ct_le (P : Nat → Int32) : ∀ m, st_ct P m ≤ m
  | 0 => Nat.le_refl 0
  | m + 1 => by
    have := st_ct_le P m
    unfold st_ct
    split <;> omega
theorem st_ct_mono {P Q : Nat → Int32} : ∀ m, (∀ u, u < m → ¬ P u = 0 → ¬ Q u = 0) → st_ct P m ≤ st_ct Q m
  | 0, _ => Nat.le_refl 0
  | m + 1, h => by
    have ih := st_ct_mono m (fun u hu => h u (by omega))
    unfold st_ct
    by_cases c : P m = 0
    · rw [if_pos c]
      split <;> omega
    · rw [if_neg c, if_neg (h m (by omega) c)]
      omega
theorem st_ct_lt {P Q : Nat → Int32} : ∀ m, (∀ u, u < m → ¬ P u = 0 → ¬ Q u = 0) → (∃ v, v < m ∧ P v = 0 ∧ ¬ Q v = 0) → st_ct P m < st_ct Q m
  | 0, _, ⟨v, hv, _⟩ => absurd hv (by omega)
  | m + 1, h, ⟨v, hv, p, q⟩ => by
    have hm := st_ct_mono m (fun u hu => h u (by omega))
    unfold st_ct
    by_cases e : v = m
    · subst e
      rw [if_pos p, if_neg q]
      omega
    · have ih := st_ct_lt m (fun u hu => h u (by omega)) ⟨v, by omega, p, q⟩
      by_cases c : P m = 0
      · rw [if_pos c]
        split <;> omega
      · rw [if_neg c, if_neg (h m (by omega) c)]
        omega
section STEPS
variable {n B : Nat} {C : Nat → Nat → Int32} {G M : Nat → Int32}
theorem hm_L_front {u t : Nat} (hu : u < n) (ht : t < n) (hE : hm_E G M u t) : ∀ d v, hm_L G M n t d v → hm_L G M n u (d + 1) v
  | 0, v, h => Or.inr ⟨u, hu, rfl, by rw [show v = t from h]; exact ht, by rw [show v = t from h]; exact hE⟩
  | d + 1, v, h => by
    rcases h with h | ⟨s, h1, h2, h3, h4⟩
    · exact Or.inl (hm_L_front hu ht hE d v h)
    · exact Or.inr ⟨s, h1, hm_L_front hu ht hE d s h2, h3, h4⟩
theorem hm_E_sym (h : iv n B C G M) {t u : Nat} (ht : t < n) (hu : u < n) (hE : hm_E G M t u) : hm_E G M u t := by
  have hn := h.1
  unfold hm_E at hE ⊢
  rw [← (h.2.2.2.2 t u (by omega) (by omega)).1]
  exact hE
theorem hm_L_sym (h : iv n B C G M) {a : Nat} (ha : a < n) : ∀ d u, u < n → hm_L G M n a d u → hm_L G M n u d a
  | 0, u, _, hL => (show u = a from hL).symm
  | d + 1, u, hu, hL => by
    rcases hL with hL | ⟨t, ht, h2, -, hE⟩
    · exact Or.inl (hm_L_sym h ha d u hu hL)
    · exact hm_L_front hu ht (hm_E_sym h ht hu hE) d a (hm_L_sym h ha d t ht h2)
theorem st_in (hn : n ≤ 10) {a : Nat} (ha : a < n) (j : Nat) {u : Nat} (hu : u < n) : hb_isin (hb_rs G M n a j) (nI u) = 0 ↔ ¬ hm_L G M n a j u := hm_Y_in (hm_Y_rs hn ha j) (by omega)
theorem st_sym (h : iv n B C G M) {a b : Nat} (ha : a < n) (hb : b < n) : hb_steps G M n a b = hb_steps G M n b a := by
  refine hb_first_c (fun j => ?_) 10 0
  have h1 := st_in (G := G) (M := M) h.1 ha j hb
  have h2 := st_in (G := G) (M := M) h.1 hb j ha
  rw [h1, h2]
  exact ⟨fun q w => q (hm_L_sym h hb j a ha w), fun q w => q (hm_L_sym h ha j b hb w)⟩
/-- rings that stand still stand still -/
theorem hm_L_still {a j : Nat} (hs : ∀ u, u < n → hm_L G M n a (j + 1) u → hm_L G M n a j u) : ∀ k u, u < n → hm_L G M n a (j + k) u → hm_L G M n a j u
  | 0, u, _, h => h
  | k + 1, u, hu, h => by
    rcases h with h | ⟨t, ht, h2, h3, hE⟩
    · exact hm_L_still hs k u hu h
    · exact hs u hu (Or.inr ⟨t, ht, hm_L_still hs k t ht h2, h3, hE⟩)
theorem st_grow (hn : n ≤ 10) {a : Nat} (ha : a < n) : ∀ d, (∀ j, j < d → ¬ ∀ u, u < n → hm_L G M n a (j + 1) u → hm_L G M n a j u) → d + 1 ≤ st_ct (fun u => hb_isin (hb_rs G M n a d) (nI u)) n
  | 0, _ => by
    have h0 : st_ct (fun _ => 0) n < st_ct (fun u => hb_isin (hb_rs G M n a 0) (nI u)) n := st_ct_lt n (fun u _ q => absurd rfl q) ⟨a, ha, rfl, fun q => (st_in hn ha 0 ha).mp q rfl⟩
    omega
  | d + 1, h => by
    have ih := st_grow hn ha d (fun j hj => h j (by omega))
    have hd := h d (by omega)
    have : st_ct (fun u => hb_isin (hb_rs G M n a d) (nI u)) n < st_ct (fun u => hb_isin (hb_rs G M n a (d + 1)) (nI u)) n := by
      refine st_ct_lt n (fun u hu q w => ?_) (Classical.byContradiction (fun q => hd (fun u hu hL => Classical.byContradiction (fun w => q ⟨u, hu, ?_, ?_⟩))))
      · exact (st_in hn ha (d + 1) hu).mp w (Or.inl (Classical.byContradiction (fun z => q ((st_in hn ha d hu).mpr z))))
      · exact (st_in hn ha d hu).mpr w
      · exact fun z => (st_in hn ha (d + 1) hu).mp z hL
    omega
theorem st_or (hn : n ≤ 10) {a b : Nat} (ha : a < n) (hb : b < n) : hb_steps G M n a b = -1 ∧ (∀ j, j < 10 → ¬ hm_L G M n a j b) ∨ ∃ d, d < n ∧ hm_L G M n a d b ∧ (∀ j, j < d → ¬ hm_L G M n a j b) ∧ hb_steps G M n a b = nI d := by
  have hin := fun j => st_in (G := G) (M := M) hn ha j hb
  unfold hb_steps
  rcases hb_first_or (P := fun j => hb_isin (hb_rs G M n a j) (nI b)) 10 0 with h | ⟨d, -, h2, h3, h4, h5⟩
  · refine Or.inl ⟨h, fun j hj hL => ?_⟩
    have e : ∃ d, d < 10 ∧ hb_first (fun j => hb_isin (hb_rs G M n a j) (nI b)) 10 0 = nI d := by
      rcases (show ∀ m, (∃ i, i < m ∧ hm_L G M n a i b) → ∃ d, d < m ∧ hm_L G M n a d b ∧ ∀ i, i < d → ¬ hm_L G M n a i b from fun m => by
        induction m with
        | zero => exact fun ⟨i, hi, _⟩ => absurd hi (by omega)
        | succ m ih =>
          intro ⟨i, hi, hL⟩
          by_cases q : ∃ i, i < m ∧ hm_L G M n a i b
          · obtain ⟨d, h1, h2⟩ := ih q
            exact ⟨d, by omega, h2⟩
          · exact ⟨i, hi, hL, fun k hk w => q ⟨k, by omega, w⟩⟩) 10 ⟨j, hj, hL⟩ with ⟨d, d1, d2, d3⟩
      refine ⟨d, d1, ?_⟩
      rcases hb_first_or (P := fun j => hb_isin (hb_rs G M n a j) (nI b)) 10 0 with g | ⟨d', -, g2, g3, g4, g5⟩
      · exfalso
        have key : ∀ m s, s ≤ d → d < s + m → hb_first (fun j => hb_isin (hb_rs G M n a j) (nI b)) m s ≠ -1 := fun m => by
          induction m with
          | zero => exact fun s h1 h2 => absurd h2 (by omega)
          | succ m ih =>
            intro s h1 h2
            show (if hb_isin (hb_rs G M n a s) (nI b) = 0 then hb_first (fun j => hb_isin (hb_rs G M n a j) (nI b)) m (s + 1) else nI s) ≠ -1
            by_cases e : s = d
            · subst e
              rw [if_neg (fun q => (hin s).mp q d2)]
              exact hm_neg (by omega)
            · rw [if_pos ((hin s).mpr (d3 s (by omega)))]
              exact ih (s + 1) (by omega) (by omega)
        exact key 10 0 (Nat.zero_le _) (by omega) g
      · rw [g5]
        have a1 : ¬ d < d' := fun q => (hin d).mp (g4 d (Nat.zero_le _) q) d2
        have a2 : ¬ d' < d := fun q => g3 ((hin d').mpr (d3 d' q))
        rw [show d' = d by omega]
    obtain ⟨d, d1, d2⟩ := e
    rw [h] at d2
    exact hm_neg (by omega) d2.symm
  · have hL : hm_L G M n a d b := Classical.byContradiction (fun q => h3 ((hin d).mpr q))
    have hno : ∀ j, j < d → ¬ hm_L G M n a j b := fun j hj => (hin j).mp (h4 j (Nat.zero_le _) hj)
    refine Or.inr ⟨d, ?_, hL, hno, h5⟩
    have hg := st_grow (G := G) (M := M) hn ha d (fun j hj hs => hno j hj (hm_L_still hs (d - j) b hb (by rw [show j + (d - j) = d by omega]; exact hL)))
    have := st_ct_le (fun u => hb_isin (hb_rs G M n a d) (nI u)) n
    omega
theorem st_0 (hn : n ≤ 10) {a b : Nat} (ha : a < n) (hb : b < n) : hb_steps G M n a b = 0 ↔ a = b := by
  rcases st_or (G := G) (M := M) hn ha hb with ⟨h1, h2⟩ | ⟨d, h1, h2, h3, h4⟩
  · rw [h1]
    exact ⟨fun q => absurd q (by decide), fun q => absurd q.symm (h2 0 (by omega))⟩
  · rw [h4]
    constructor
    · intro q
      have : d = 0 := by
        have := congrArg Int32.toNatClampNeg q
        rw [nI_clamp (by omega)] at this
        exact this
      subst this
      exact (show b = a from h2).symm
    · intro q
      have : d = 0 := by
        rcases Nat.eq_zero_or_pos d with z | z
        · exact z
        · exact absurd q.symm (h3 0 z)
      rw [this]
      rfl
theorem iv_E0 (h : iv n B C G M) {a : Nat} (ha : a < n) : hb_clr (G 1) (M (a * 10 + a)) = 0 := by
  have hn := h.1
  rw [(h.2.2.2.2 a a (by omega) (by omega)).2.2 rfl]
  unfold hb_clr
  rw [if_neg (fun q => absurd q.1 (by decide))]
theorem st_1 (h : iv n B C G M) {a b : Nat} (ha : a < n) (hb : b < n) : hb_steps G M n a b = 1 ↔ ¬ hb_clr (G 1) (M (a * 10 + b)) = 0 := by
  have hn := h.1
  have hE : ∀ {d : Nat}, 1 ≤ d → hm_E G M a b → hm_L G M n a d b := fun {d} hd q => by
    have h1 : hm_L G M n a 1 b := Or.inr ⟨a, ha, rfl, hb, q⟩
    obtain ⟨k, rfl⟩ : ∃ k, d = k + 1 := ⟨d - 1, by omega⟩
    clear hd
    induction k with
    | zero => exact h1
    | succ k ih => exact Or.inl ih
  rcases st_or (G := G) (M := M) hn ha hb with ⟨h1, h2⟩ | ⟨d, h1, h2, h3, h4⟩
  · rw [h1]
    exact ⟨fun q => absurd q (by decide), fun q => absurd (hE (Nat.le_refl 1) q) (h2 1 (by omega))⟩
  · rw [h4]
    constructor
    · intro q
      have : d = 1 := by
        have := congrArg Int32.toNatClampNeg q
        rw [nI_clamp (by omega)] at this
        exact this
      subst this
      rcases h2 with z | ⟨t, -, z, -, hE⟩
      · exact absurd z (h3 0 (by omega))
      · rw [show t = a from z] at hE
        exact hE
    · intro q
      have hne : a ≠ b := fun e => by
        subst e
        exact q (iv_E0 h ha)
      have d0 : d ≠ 0 := fun e => by
        subst e
        exact hne (show b = a from h2).symm
      have d1 : ¬ 1 < d := fun z => h3 1 z (hE (Nat.le_refl 1) q)
      rw [show d = 1 by omega]
      rfl
theorem st_lt (h : iv n B C G M) {a b : Nat} (ha : a < n) (hb : b < n) : hb_steps G M n a b < nI n := by
  have hn := h.1
  rcases st_or (G := G) (M := M) hn ha hb with ⟨h1, -⟩ | ⟨d, h1, -, -, h4⟩
  · rw [h1]
    exact Int32.lt_of_lt_of_le (by decide : (-1 : Int32) < 0) (Int32.not_lt.mp (nI_pos (by omega)))
  · rw [h4]
    exact nI_lt h1 (by omega)
end STEPS
