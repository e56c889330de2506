/-! the fewest steps: rings of hills on one side, a line of hills on the other -/
theorem bi_all : ∀ u, u < 10 → ∀ k, k < 1024 → (hb_isin (nI k) (nI u) = 0 ↔ k.testBit u = false) := by decide +kernel
theorem b1_all : ∀ u, u < 10 → (1 : Int32) <<< (nI u &&& 31) = nI (2 ^ u) := by decide +kernel
theorem nI_or (a b : Nat) : nI a ||| nI b = nI (a ||| b) := by
  apply Int32.toBitVec_inj.mp
  rw [Int32.toBitVec_or]
  show BitVec.ofNat 32 a ||| BitVec.ofNat 32 b = BitVec.ofNat 32 (a ||| b)
  exact BitVec.ofNat_or.symm
/-- a set of hills -/
def hm_Y (x : Int32) (P : Nat → Prop) : Prop := ∃ k, k < 2 ^ 10 ∧ x = nI k ∧ ∀ u, k.testBit u = true ↔ P u
theorem hm_Y_0 : hm_Y 0 (fun _ => False) := ⟨0, by decide, rfl, fun u => by rw [Nat.zero_testBit]; exact ⟨fun h => (by cases h), fun h => h.elim⟩⟩
theorem hm_Y_1 {a : Nat} (ha : a < 10) : hm_Y (1 <<< (nI a &&& 31)) (fun u => u = a) := ⟨2 ^ a, Nat.pow_lt_pow_right (by decide) ha, b1_all a ha, fun u => by rw [Nat.testBit_two_pow]; simp [eq_comm]⟩
theorem hm_Y_or {x y : Int32} {P Q : Nat → Prop} (h : hm_Y x P) (g : hm_Y y Q) : hm_Y (x ||| y) (fun u => P u ∨ Q u) := by
  obtain ⟨k, hk, e, hb⟩ := h
  obtain ⟨m, hm, f, hc⟩ := g
  refine ⟨k ||| m, Nat.or_lt_two_pow hk hm, by rw [e, f, nI_or], fun u => ?_⟩
  rw [Nat.testBit_or, Bool.or_eq_true, hb u, hc u]
theorem hm_Y_c {x : Int32} {P Q : Nat → Prop} (h : hm_Y x P) (hpq : ∀ u, P u ↔ Q u) : hm_Y x Q := by
  obtain ⟨k, hk, e, hb⟩ := h
  exact ⟨k, hk, e, fun u => (hb u).trans (hpq u)⟩
theorem hm_Y_in {x : Int32} {P : Nat → Prop} (h : hm_Y x P) {u : Nat} (hu : u < 10) : hb_isin x (nI u) = 0 ↔ ¬ P u := by
  obtain ⟨k, hk, e, hb⟩ := h
  rw [e, bi_all u hu k hk, ← hb u]
  exact ⟨fun q => by rw [q]; decide, fun q => by simpa using q⟩
/-- one sees the other -/
def hm_E (G M : Nat → Int32) (t u : Nat) : Prop := ¬ hb_clr (G 1) (M (t * 10 + u)) = 0
def hm_L (G M : Nat → Int32) (n a : Nat) : Nat → Nat → Prop
  | 0, u => u = a
  | j + 1, u => hm_L G M n a j u ∨ ∃ t, t < n ∧ hm_L G M n a j t ∧ u < n ∧ hm_E G M t u
theorem hm_L_n {G M : Nat → Int32} {n a : Nat} (ha : a < n) : ∀ d u, hm_L G M n a d u → u < n
  | 0, u, h => by rw [show u = a from h]; exact ha
  | d + 1, u, h => by
    rcases h with h | ⟨t, -, -, h, -⟩
    · exact hm_L_n ha d u h
    · exact h
section RINGS
variable {G M : Nat → Int32} {n a : Nat}
theorem hm_Y_sf (hn : n ≤ 10) (t : Nat) : ∀ j, j ≤ n → hm_Y (hb_sf G M t j) (fun u => u < j ∧ hm_E G M t u)
  | 0, _ => hm_Y_c hm_Y_0 (fun u => ⟨fun h => h.elim, fun h => absurd h.1 (by omega)⟩)
  | j + 1, hj => by
    have ih := hm_Y_sf hn t j (by omega)
    rw [hb_sf_s]
    by_cases c : hb_clr (G 1) (M (t * 10 + j)) = 0
    · rw [if_pos c]
      refine hm_Y_c ih (fun u => ⟨fun h => ⟨by omega, h.2⟩, fun h => ⟨?_, h.2⟩⟩)
      have : u ≠ j := fun e => by subst e; exact h.2 c
      omega
    · rw [if_neg c]
      refine hm_Y_c (hm_Y_or ih (hm_Y_1 (by omega))) (fun u => ⟨fun h => ?_, fun h => ?_⟩)
      · rcases h with h | h
        · exact ⟨by omega, h.2⟩
        · subst h; exact ⟨by omega, c⟩
      · by_cases e : u = j
        · exact Or.inr e
        · exact Or.inl ⟨by omega, h.2⟩
theorem hm_Y_sa (hn : n ≤ 10) {set : Int32} {P : Nat → Prop} (h : hm_Y set P) : ∀ j, j ≤ n → hm_Y (hb_sa G M n set j) (fun u => ∃ t, t < j ∧ P t ∧ u < n ∧ hm_E G M t u)
  | 0, _ => hm_Y_c hm_Y_0 (fun u => ⟨fun h => h.elim, fun ⟨t, h, _⟩ => absurd h (by omega)⟩)
  | j + 1, hj => by
    have ih := hm_Y_sa hn h j (by omega)
    rw [hb_sa_s]
    by_cases c : hb_isin set (nI j) = 0
    · have c2 := (hm_Y_in h (by omega)).mp c
      rw [if_pos c]
      refine hm_Y_c ih (fun u => ⟨fun ⟨t, h1, h2⟩ => ⟨t, by omega, h2⟩, fun ⟨t, h1, h2, h3⟩ => ⟨t, ?_, h2, h3⟩⟩)
      have : t ≠ j := fun e => by subst e; exact c2 h2
      omega
    · have c2 : P j := Classical.byContradiction (fun q => c ((hm_Y_in h (by omega)).mpr q))
      rw [if_neg c]
      refine hm_Y_c (hm_Y_or ih (hm_Y_sf hn j n (Nat.le_refl n))) (fun u => ⟨fun h => ?_, fun ⟨t, h1, h2, h3, h4⟩ => ?_⟩)
      · rcases h with ⟨t, h1, h2⟩ | h
        · exact ⟨t, by omega, h2⟩
        · exact ⟨j, by omega, c2, h.1, h.2⟩
      · by_cases e : t = j
        · subst e; exact Or.inr ⟨h3, h4⟩
        · exact Or.inl ⟨t, by omega, h2, h3, h4⟩
theorem hm_Y_rs (hn : n ≤ 10) (ha : a < n) : ∀ j, hm_Y (hb_rs G M n a j) (hm_L G M n a j)
  | 0 => hm_Y_1 (by omega)
  | j + 1 => by
    have ih := hm_Y_rs hn ha j
    rw [hb_rs_s]
    exact hm_Y_or ih (hm_Y_sa hn ih n (Nat.le_refl n))
theorem hb_first_no {P : Nat → Int32} : ∀ m s, (∀ i, s ≤ i → i < s + m → P i = 0) → hb_first P m s = -1
  | 0, _, _ => rfl
  | m + 1, s, h => by
    show (if P s = 0 then hb_first P m (s + 1) else nI s) = -1
    rw [if_pos (h s (Nat.le_refl s) (by omega)), hb_first_no m (s + 1) (fun i h1 h2 => h i (by omega) (by omega))]
theorem hb_first_at {P : Nat → Int32} {d : Nat} (hd : ¬ P d = 0) : ∀ m s, s ≤ d → d < s + m → (∀ i, s ≤ i → i < d → P i = 0) → hb_first P m s = nI d
  | 0, s, h1, h2, _ => absurd h2 (by omega)
  | m + 1, s, h1, h2, h => by
    show (if P s = 0 then hb_first P m (s + 1) else nI s) = nI d
    by_cases e : s = d
    · subst e
      rw [if_neg hd]
    · rw [if_pos (h s (Nat.le_refl s) (by omega)), hb_first_at hd m (s + 1) (by omega) (by omega) (fun i h1 h2 => h i (by omega) h2)]
end RINGS
/-- the line: Q its hills, F their steps; the first p are done, of the next one's sights those below t -/
def hm_W (G M : Nat → Int32) (n a p t : Nat) (s : hm_B) (Q F : Nat → Nat) : Prop :=
  (1 ≤ s.2.2 ∧ Q 0 = a ∧ F 0 = 0) ∧ (∀ i, i < s.2.2 → Q i < n ∧ s.2.1 i = nI (Q i) ∧ s.1 (Q i) = nI (F i) ∧ F i < s.2.2 ∧ hm_L G M n a (F i) (Q i)) ∧ (∀ i j, i ≤ j → j < s.2.2 → F i ≤ F j) ∧ (∀ u, u < n → ¬ s.1 u = -1 → ∃ i, i < s.2.2 ∧ Q i = u) ∧
  (p < s.2.2 → ∀ j, j < s.2.2 → F j ≤ F p + 1) ∧ (∀ i, i < p → i < s.2.2 → ∀ u, u < n → hm_E G M (Q i) u → ∃ j, j < s.2.2 ∧ Q j = u ∧ F j ≤ F i + 1) ∧ (p < s.2.2 → ∀ u, u < t → u < n → hm_E G M (Q p) u → ∃ j, j < s.2.2 ∧ Q j = u ∧ F j ≤ F p + 1)
section LINE
variable {G M mi : Nat → Int32} {hz : Int32} {n a : Nat}
theorem hm_W_0 {f g : Nat → Int32} (ha : a < n) : hm_W G M n a 0 0 (hm_b0 f g n a) (fun _ => a) (fun _ => 0) := by
  have c1 : (hm_b0 f g n a).2.2 = 1 := rfl
  refine ⟨⟨Nat.le_refl 1, rfl, rfl⟩, fun i hi => ?_, fun _ _ _ _ => Nat.le_refl 0, fun u hu h => ⟨0, Nat.zero_lt_one, ?_⟩, fun _ _ _ => Nat.zero_le _, fun i hi => absurd hi (by omega), fun _ u hu => absurd hu (by omega)⟩
  · rw [c1] at hi
    have : i = 0 := by omega
    subst this
    exact ⟨ha, (pk_us : upd g 0 (nI a) 0 = nI a), (pk_us : upd (hm_fl f n) a 0 a = 0), Nat.zero_lt_one, rfl⟩
  · show a = u
    by_cases e : u = a
    · exact e.symm
    · refine absurd ?_ h
      show upd (hm_fl f n) a 0 u = -1
      rw [pk_un e, hm_fl_v f n u hu]
theorem hm_W_S (hn : n ≤ 10) (hV : ∀ p, p < 100 → mi p = M p) (hh : hz = G 1) {p t : Nat} {s : hm_B} {Q F : Nat → Nat} (hI : hm_bI n s) (h : hm_W G M n a p t s Q F) (hp : p < s.2.2) (ht : t < n) : ∃ Q' F', hm_W G M n a p (t + 1) (hm_bS hz mi p t s) Q' F' := by
  obtain ⟨⟨w1, w2, w3⟩, w4, w5, w6, w7, w8, w9⟩ := h
  obtain ⟨p1, p2, p3, p4, p5⟩ := w4 p hp
  have hc := hm_bI_c hI
  have e1 : (s.2.1 p).toNatClampNeg = Q p := by rw [p2, nI_clamp (by omega)]
  unfold hm_bS
  rw [e1, hV (Q p * 10 + t) (by omega), hh, p3]
  by_cases c1 : s.1 t = -1
  · rw [if_pos c1]
    by_cases c2 : hb_clr (G 1) (M (Q p * 10 + t)) = 0
    · rw [if_pos c2]
      refine ⟨Q, F, ⟨w1, w2, w3⟩, w4, w5, w6, w7, w8, fun hp u hu hun he => ?_⟩
      have : u ≠ t := fun e => by subst e; exact he c2
      exact w9 hp u (by omega) hun he
    · rw [if_neg c2, show nI (F p) + 1 = nI (F p + 1) from nI_1 _]
      have hne : ∀ i, i < s.2.2 → Q i ≠ t := fun i hi e => by
        have := (w4 i hi).2.2.1
        rw [e, c1] at this
        exact hm_neg (b := F i) (by have := (w4 i hi).2.2.2.1; omega) this.symm
      have q1 : ∀ i, i < s.2.2 → va_up Q s.2.2 t i = Q i := fun i hi => va_up_ne _ _ (by omega)
      have f1 : ∀ i, i < s.2.2 → va_up F s.2.2 (F p + 1) i = F i := fun i hi => va_up_ne _ _ (by omega)
      have q0 : va_up Q s.2.2 t s.2.2 = t := va_up_self _ _ _
      have f0 : va_up F s.2.2 (F p + 1) s.2.2 = F p + 1 := va_up_self _ _ _
      refine ⟨va_up Q s.2.2 t, va_up F s.2.2 (F p + 1), ⟨?_, ?_, ?_⟩, fun i hi => ?_, fun i j hij hj => ?_, fun u hu hd => ?_, fun _ j hj => ?_, fun i hi hic u hu he => ?_, fun _ u hu hun he => ?_⟩
      · show 1 ≤ s.2.2 + 1; omega
      · rw [q1 0 (by omega)]; exact w2
      · rw [f1 0 (by omega)]; exact w3
      · have hi : i < s.2.2 + 1 := hi
        show va_up Q s.2.2 t i < n ∧ upd s.2.1 s.2.2 (nI t) i = nI (va_up Q s.2.2 t i) ∧ upd s.1 t (nI (F p + 1)) (va_up Q s.2.2 t i) = nI (va_up F s.2.2 (F p + 1) i) ∧ va_up F s.2.2 (F p + 1) i < s.2.2 + 1 ∧ hm_L G M n a (va_up F s.2.2 (F p + 1) i) (va_up Q s.2.2 t i)
        by_cases e : i = s.2.2
        · subst e
          rw [q0, f0, pk_us, pk_us]
          exact ⟨ht, rfl, rfl, by omega, Or.inr ⟨Q p, p1, p5, ht, c2⟩⟩
        · have hi2 : i < s.2.2 := by omega
          obtain ⟨v1, v2, v3, v4, v5⟩ := w4 i hi2
          rw [q1 i hi2, f1 i hi2, pk_un e, pk_un (hne i hi2)]
          exact ⟨v1, v2, v3, by omega, v5⟩
      · have hj : j < s.2.2 + 1 := hj
        by_cases e : j = s.2.2
        · subst e
          rw [f0]
          by_cases e2 : i = s.2.2
          · subst e2
            rw [f0]; exact Nat.le_refl _
          · rw [f1 i (by omega)]
            exact w7 hp i (by omega)
        · rw [f1 i (by omega), f1 j (by omega)]
          exact w5 i j hij (by omega)
      · have hd : ¬ upd s.1 t (nI (F p + 1)) u = -1 := hd
        by_cases e : u = t
        · exact ⟨s.2.2, Nat.lt_succ_self _, by rw [q0, e]⟩
        · rw [pk_un e] at hd
          obtain ⟨i, hi, e2⟩ := w6 u hu hd
          exact ⟨i, Nat.lt_succ_of_lt hi, by rw [q1 i hi, e2]⟩
      · have hj : j < s.2.2 + 1 := hj
        rw [f1 p hp]
        by_cases e : j = s.2.2
        · subst e; rw [f0]; exact Nat.le_refl _
        · rw [f1 j (by omega)]; exact w7 hp j (by omega)
      · rw [q1 i (by omega)] at he
        obtain ⟨j, hj, e2, e3⟩ := w8 i hi (by omega) u hu he
        exact ⟨j, Nat.lt_succ_of_lt hj, by rw [q1 j hj, e2], by rw [f1 j hj, f1 i (by omega)]; exact e3⟩
      · rw [q1 p hp] at he
        by_cases e : u = t
        · exact ⟨s.2.2, Nat.lt_succ_self _, by rw [q0, e], by rw [f0, f1 p hp]; exact Nat.le_refl _⟩
        · obtain ⟨j, hj, e2, e3⟩ := w9 hp u (by omega) hun he
          exact ⟨j, Nat.lt_succ_of_lt hj, by rw [q1 j hj, e2], by rw [f1 j hj, f1 p hp]; exact e3⟩
  · rw [if_neg c1]
    refine ⟨Q, F, ⟨w1, w2, w3⟩, w4, w5, w6, w7, w8, fun hp u hu hun he => ?_⟩
    by_cases e : u = t
    · subst e
      obtain ⟨j, hj, e2⟩ := w6 u ht c1
      exact ⟨j, hj, e2, w7 hp j hj⟩
    · exact w9 hp u (by omega) hun he
theorem hm_W_q (hn : n ≤ 10) (hV : ∀ p, p < 100 → mi p = M p) (hh : hz = G 1) {p : Nat} {s : hm_B} {Q F : Nat → Nat} (hI : hm_bI n s) (h : hm_W G M n a p 0 s Q F) (hp : p < s.2.2) : ∀ t, t ≤ n → ∃ Q' F', hm_W G M n a p t (hm_bq hz mi p s t) Q' F'
  | 0, _ => ⟨Q, F, h⟩
  | t + 1, ht => by
    obtain ⟨Q1, F1, h1⟩ := hm_W_q hn hV hh hI h hp t (by omega)
    obtain ⟨i1, i2⟩ := hm_bq_I (hz := hz) (mi := mi) hn hI hp t (by omega)
    rw [hm_bq_s]
    exact hm_W_S hn hV hh i1 h1 i2 (by omega)
theorem hm_W_p (hn : n ≤ 10) (ha : a < n) (hV : ∀ p, p < 100 → mi p = M p) (hh : hz = G 1) {f g : Nat → Int32} : ∀ p, ∃ Q F, hm_W G M n a p 0 (hm_bp hz mi n (hm_b0 f g n a) p) Q F
  | 0 => ⟨_, _, hm_W_0 ha⟩
  | p + 1 => by
    obtain ⟨Q, F, h⟩ := hm_W_p hn ha hV hh (f := f) (g := g) p
    have hI := hm_bp_I (hz := hz) (mi := mi) hn (hm_bI0 (f := f) (g := g) ha) p
    rw [hm_bp_s]
    by_cases c : p < (hm_bp hz mi n (hm_b0 f g n a) p).2.2
    · rw [if_pos c]
      obtain ⟨Q1, F1, w1, w4, w5, w6, w7, w8, w9⟩ := hm_W_q hn hV hh hI h c n (Nat.le_refl n)
      obtain ⟨i1, i2⟩ := hm_bq_I (hz := hz) (mi := mi) hn hI c n (Nat.le_refl n)
      refine ⟨Q1, F1, w1, w4, w5, w6, fun h1 j hj => ?_, fun i hi hic u hu he => ?_, fun _ u hu => absurd hu (by omega)⟩
      · have := w7 i2 j hj
        have := w5 p (p + 1) (by omega) h1
        omega
      · by_cases e : i = p
        · subst e
          exact w9 i2 u hu hu he
        · exact w8 i (by omega) hic u hu he
    · rw [if_neg c]
      obtain ⟨w1, w4, w5, w6, w7, w8, w9⟩ := h
      exact ⟨Q, F, w1, w4, w5, w6, fun h1 => absurd h1 (by omega), fun i hi hic u hu he => w8 i (by omega) hic u hu he, fun h1 => absurd h1 (by omega)⟩
theorem hm_steps (hn : n ≤ 10) (ha : a < n) {b : Nat} (hb : b < n) (hV : ∀ p, p < 100 → mi p = M p) (hh : hz = G 1) (f g : Nat → Int32) : hb_steps G M n a b = hm_fs hz mi f g n a b := by
  obtain ⟨Q, F, ⟨w1, w2, w3⟩, w4, w5, w6, w7, w8, w9⟩ := hm_W_p (mi := mi) (hz := hz) hn ha hV hh (f := f) (g := g) n
  have hI := hm_bp_I (hz := hz) (mi := mi) hn (hm_bI0 (f := f) (g := g) ha) n
  have hc := hm_bI_c hI
  unfold hm_fs hb_steps
  generalize hm_bp hz mi n (hm_b0 f g n a) n = s at *
  have hin : ∀ j u, u < n → (hb_isin (hb_rs G M n a j) (nI u) = 0 ↔ ¬ hm_L G M n a j u) := fun j u hu => hm_Y_in (hm_Y_rs hn ha j) (by omega)
  have hall : ∀ d u, hm_L G M n a d u → ∃ i, i < s.2.2 ∧ Q i = u ∧ F i ≤ d := by
    intro d
    induction d with
    | zero => exact fun u h => ⟨0, by omega, by rw [w2]; exact h.symm, by rw [w3]; exact Nat.le_refl 0⟩
    | succ d ih =>
      intro u h
      rcases h with h | ⟨t, h1, h2, h3, h4⟩
      · obtain ⟨i, i1, i2, i3⟩ := ih u h
        exact ⟨i, i1, i2, by omega⟩
      · obtain ⟨i, i1, i2, i3⟩ := ih t h2
        subst i2
        obtain ⟨j, j1, j2, j3⟩ := w8 i (by omega) i1 u h3 h4
        exact ⟨j, j1, j2, by omega⟩
  by_cases c : s.1 b = -1
  · rw [c]
    refine hb_first_no 10 0 (fun i _ _ => (hin i b hb).mpr (fun h => ?_))
    obtain ⟨k, k1, k2, k3⟩ := hall i b h
    have h1 := (w4 k k1).2.2.1
    rw [k2, c] at h1
    exact hm_neg (b := F k) (by have := (w4 k k1).2.2.2.1; omega) h1.symm
  · obtain ⟨k, k1, k2⟩ := w6 b hb c
    obtain ⟨v1, v2, v3, v4, v5⟩ := w4 k k1
    rw [k2] at v3 v5
    rw [v3]
    refine hb_first_at (fun q => (hin (F k) b hb).mp q v5) 10 0 (Nat.zero_le _) (by omega) (fun i _ hi => (hin i b hb).mpr (fun h => ?_))
    obtain ⟨j, j1, j2, j3⟩ := hall i b h
    have h1 := (w4 j j1).2.2.1
    rw [j2, v3] at h1
    have h2 : F k = F j := by
      have := congrArg Int32.toNatClampNeg h1
      rw [nI_clamp (by omega), nI_clamp (by have := (w4 j j1).2.2.2.1; omega)] at this
      exact this
    omega
end LINE
