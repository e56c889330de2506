/-! WHAT THE LAW'S LAND COMPUTES, as functions: S (minute, haze, glow, lit, mistaken), N (number, wood, damp, watch, east, post, state, left, looking, source, answers), mi (miles) -/
def sm_o : Option Nat → Int32
  | none => -1
  | some b => nI b
def sm_clr (hz x : Int32) : Int32 := if 0 < x ∧ x + 2 * hz ≤ 20 then 1 else 0
def sm_nS (hz : Int32) (m was : Nat → Int32) (k : Nat) (acc : Option Nat) : Option Nat := if was k = 2 then (if sm_clr hz (m k) = 0 then acc else match acc with
  | none => some k
  | some b => if m b < m k then some b else some k) else acc
/-- the nearest fire, looked for from the last hill down -/
def sm_ne (hz : Int32) (m was : Nat → Int32) (n : Nat) : Nat → Option Nat := fun d => hb_it (fun t s => sm_nS hz m was (n - 1 - t) s) d none
theorem sm_ne_s (hz : Int32) (m was : Nat → Int32) (n d : Nat) : sm_ne hz m was n (d + 1) = sm_nS hz m was (n - 1 - d) (sm_ne hz m was n d) := rfl
theorem sm_ne_lt (hz : Int32) (m was : Nat → Int32) (n : Nat) : ∀ d b, d ≤ n → sm_ne hz m was n d = some b → b < n
  | 0, b, _, e => by cases e
  | d + 1, b, hd, e => by
    rw [sm_ne_s] at e
    have ih := sm_ne_lt hz m was n d
    unfold sm_nS at e
    split at e
    · split at e
      · exact ih b (by omega) e
      · cases hq : sm_ne hz m was n d with
        | none => rw [hq] at e; cases e; omega
        | some c =>
          rw [hq] at e
          have := ih c (by omega) hq
          dsimp only at e
          split at e <;> cases e <;> omega
    · exact ih b (by omega) e
def sm_is (f S : Nat → Int32) (w : Int32) (o : Option Nat) : Int32 := if w = 0 then (if f 1 ≤ 0 then 0 else match o with
  | some _ => 1
  | none => if hb_zb (f 4) = 0 then 0 else if S 2 ≤ 0 then 0 else 1) else 0
def sm_src (src : Nat → Int32) : Option Nat → Int32
  | none => -1
  | some b => src b
def sm_kF (f : Nat → Int32) (s : Int32) : Nat → Int32 := hb_fu (hb_fu (hb_fu (hb_fu (hb_fu f 1 (f 1 - 1)) 8 0) 6 1) 7 (f 2 + 1)) 9 s
def sm_kS (S : Nat → Int32) (s : Int32) : Nat → Int32 := if 0 ≤ s then hb_fu S 3 (S 3 + 1) else hb_fu (hb_fu S 3 (S 3 + 1)) 4 (S 4 + 1)
def sm_lF (f S : Nat → Int32) (w : Int32) (o : Option Nat) : Nat → Int32 := hb_fu f 8 (if sm_is f S w o = 0 then 0 else f 8 + 1)
/-- one keeper looks -/
def sm_lk (mi : Nat → Nat → Int32) (was src : Nat → Int32) (n i : Nat) (s : (Nat → Int32) × (Nat → Nat → Int32)) : (Nat → Int32) × (Nat → Nat → Int32) :=
  if sm_is (s.2 i) s.1 (was i) (sm_ne (s.1 1) (mi i) was n n) = 0 then (s.1, va_up s.2 i (sm_lF (s.2 i) s.1 (was i) (sm_ne (s.1 1) (mi i) was n n)))
  else if sm_lF (s.2 i) s.1 (was i) (sm_ne (s.1 1) (mi i) was n n) 8 < s.2 i 3 then (s.1, va_up s.2 i (sm_lF (s.2 i) s.1 (was i) (sm_ne (s.1 1) (mi i) was n n)))
  else (sm_kS s.1 (sm_src src (sm_ne (s.1 1) (mi i) was n n)), va_up s.2 i (sm_kF (sm_lF (s.2 i) s.1 (was i) (sm_ne (s.1 1) (mi i) was n n)) (sm_src src (sm_ne (s.1 1) (mi i) was n n))))
def sm_l1 (S : Nat → Int32) (N mi : Nat → Nat → Int32) (was src : Nat → Int32) (n : Nat) : Nat → (Nat → Int32) × (Nat → Nat → Int32) := fun j => hb_it (fun i s => sm_lk mi was src n i s) j (S, N)
theorem sm_l1_s (S : Nat → Int32) (N mi : Nat → Nat → Int32) (was src : Nat → Int32) (n j : Nat) : sm_l1 S N mi was src n (j + 1) = sm_lk mi was src n j (sm_l1 S N mi was src n j) := rfl
/-- what is kept of the beginning -/
def sm_cp (N : Nat → Nat → Int32) (c : Nat) : Nat → Nat → Int32 := fun j => hb_it (fun i w => upd w i (N i c)) j (fun _ => 0)
theorem sm_cp_s (N : Nat → Nat → Int32) (c j : Nat) : sm_cp N c (j + 1) = upd (sm_cp N c j) j (N j c) := rfl
theorem sm_cp_v (N : Nat → Nat → Int32) (c : Nat) : ∀ j k, k < j → sm_cp N c j k = N k c
  | 0, k, h => absurd h (by omega)
  | j + 1, k, h => by
    rw [sm_cp_s]
    by_cases e : k = j
    · subst e; rw [pk_us]
    · rw [pk_un e]; exact sm_cp_v N c j k (by omega)
def sm_k7 (f : Nat → Int32) : Nat → Int32 := hb_fu f 7 (f 7 - 1)
def sm_k6 (f : Nat → Int32) : Nat → Int32 := hb_fu (sm_k7 f) 6 2
/-- a fire that was kindling -/
def sm_b1 (was : Nat → Int32) (i : Nat) (N : Nat → Nat → Int32) : Nat → Nat → Int32 := if was i = 1 then (if N i 7 - 1 = 0 then (if hb_zb (N i 5) = 0 then va_up N i (sm_k6 (N i)) else if N i 9 < 0 then va_up N i (sm_k6 (N i)) else va_up (va_up N i (sm_k6 (N i))) (N i 9).toNatClampNeg (hb_fu (va_up N i (sm_k6 (N i)) (N i 9).toNatClampNeg) 10 (va_up N i (sm_k6 (N i)) (N i 9).toNatClampNeg 10 + 1))) else va_up N i (sm_k7 (N i))) else N
/-- a fire that was burning -/
def sm_b2 (was : Nat → Int32) (i : Nat) (N : Nat → Nat → Int32) : Nat → Nat → Int32 := if was i = 2 then (if N i 1 = 0 then va_up N i (sm_dF (N i)) else va_up N i (hb_fu (N i) 1 (N i 1 - 1))) else N
def sm_l2 (N : Nat → Nat → Int32) (was : Nat → Int32) : Nat → Nat → Nat → Int32 := fun j => hb_it (fun i N => sm_b2 was i (sm_b1 was i N)) j N
theorem sm_l2_s (N : Nat → Nat → Int32) (was : Nat → Int32) (j : Nat) : sm_l2 N was (j + 1) = sm_b2 was j (sm_b1 was j (sm_l2 N was j)) := rfl
def sm_paN (S : Nat → Int32) (N mi : Nat → Nat → Int32) (n : Nat) : Nat → Nat → Int32 := sm_l2 (sm_l1 S N mi (sm_cp N 6 n) (sm_cp N 9 n) n n).2 (sm_cp N 6 n) n
def sm_mS (S : Nat → Int32) : Nat → Int32 := if S 2 ≤ 0 then hb_fu S 0 (S 0 + 1) else hb_fu (hb_fu S 2 (S 2 - 1)) 0 (S 0 + 1)
def sm_paS (S : Nat → Int32) (N mi : Nat → Nat → Int32) (n : Nat) : Nat → Int32 := sm_mS (sm_l1 S N mi (sm_cp N 6 n) (sm_cp N 9 n) n n).1
/-- numbers are in order; sources are none, or hills -/
def sm_no (n : Nat) (N : Nat → Nat → Int32) : Prop := ∀ i, i < n → N i 0 = nI i
def sm_so (n : Nat) (N : Nat → Nat → Int32) : Prop := ∀ i, i < n → N i 9 = -1 ∨ ∃ s : Nat, s < n ∧ N i 9 = nI s
theorem sm_no_up {n : Nat} {N : Nat → Nat → Int32} (h : sm_no n N) (i : Nat) {f : Nat → Int32} (hf : f 0 = N i 0) : sm_no n (va_up N i f) := fun k hk => by
  by_cases e : k = i
  · subst e; rw [va_up_self, hf]; exact h k hk
  · rw [va_up_ne _ _ e]; exact h k hk
theorem sm_so_up {n : Nat} {N : Nat → Nat → Int32} (h : sm_so n N) (i : Nat) {f : Nat → Int32} (hf : i < n → f 9 = -1 ∨ ∃ s : Nat, s < n ∧ f 9 = nI s) : sm_so n (va_up N i f) := fun k hk => by
  by_cases e : k = i
  · subst e; rw [va_up_self]; exact hf hk
  · rw [va_up_ne _ _ e]; exact h k hk
theorem sm_l1_no {S : Nat → Int32} {N mi : Nat → Nat → Int32} {was src : Nat → Int32} {n : Nat} (h : sm_no n N) : ∀ j, sm_no n (sm_l1 S N mi was src n j).2
  | 0 => h
  | j + 1 => by
    have ih := sm_l1_no (S := S) (mi := mi) (was := was) (src := src) h j
    rw [sm_l1_s]
    unfold sm_lk
    split
    · exact sm_no_up ih j rfl
    · split
      · exact sm_no_up ih j rfl
      · exact sm_no_up ih j rfl
theorem sm_l1_so {S : Nat → Int32} {N mi : Nat → Nat → Int32} {was src : Nat → Int32} {n : Nat} (h : sm_so n N) (hs : ∀ b, b < n → src b = -1 ∨ ∃ s : Nat, s < n ∧ src b = nI s) : ∀ j, j ≤ n → sm_so n (sm_l1 S N mi was src n j).2
  | 0, _ => h
  | j + 1, hj => by
    have ih := sm_l1_so (S := S) (mi := mi) (was := was) h hs j (by omega)
    rw [sm_l1_s]
    unfold sm_lk
    split
    · exact sm_so_up ih j (fun hk => ih j hk)
    · split
      · exact sm_so_up ih j (fun hk => ih j hk)
      · refine sm_so_up ih j (fun hk => ?_)
        show sm_src src _ = -1 ∨ _
        cases hq : sm_ne ((sm_l1 S N mi was src n j).1 1) (mi j) was n n with
        | none => exact Or.inl rfl
        | some b =>
          have hb := sm_ne_lt _ _ _ _ _ _ (Nat.le_refl n) hq
          exact hs b hb
theorem sm_b1_no {n : Nat} {N : Nat → Nat → Int32} {was : Nat → Int32} (i : Nat) (h : sm_no n N) : sm_no n (sm_b1 was i N) := by
  unfold sm_b1
  split
  · split
    · have h6 : sm_no n (va_up N i (sm_k6 (N i))) := sm_no_up h i rfl
      split
      · exact h6
      · split
        · exact h6
        · exact sm_no_up h6 _ rfl
    · exact sm_no_up h i rfl
  · exact h
theorem sm_b1_so {n : Nat} {N : Nat → Nat → Int32} {was : Nat → Int32} (i : Nat) (h : sm_so n N) : sm_so n (sm_b1 was i N) := by
  unfold sm_b1
  split
  · split
    · have h6 : sm_so n (va_up N i (sm_k6 (N i))) := sm_so_up h i (fun hk => h i hk)
      split
      · exact h6
      · split
        · exact h6
        · exact sm_so_up h6 _ (fun hk => h6 _ hk)
    · exact sm_so_up h i (fun hk => h i hk)
  · exact h
theorem sm_b2_no {n : Nat} {N : Nat → Nat → Int32} {was : Nat → Int32} (i : Nat) (h : sm_no n N) : sm_no n (sm_b2 was i N) := by
  unfold sm_b2
  split
  · split
    · exact sm_no_up h i rfl
    · exact sm_no_up h i rfl
  · exact h
theorem sm_b2_so {n : Nat} {N : Nat → Nat → Int32} {was : Nat → Int32} (i : Nat) (h : sm_so n N) : sm_so n (sm_b2 was i N) := by
  unfold sm_b2
  split
  · split
    · exact sm_so_up h i (fun _ => Or.inl rfl)
    · exact sm_so_up h i (fun hk => h i hk)
  · exact h
theorem sm_l2_no {n : Nat} {N : Nat → Nat → Int32} {was : Nat → Int32} (h : sm_no n N) : ∀ j, sm_no n (sm_l2 N was j)
  | 0 => h
  | j + 1 => by rw [sm_l2_s]; exact sm_b2_no j (sm_b1_no j (sm_l2_no h j))
theorem sm_l2_so {n : Nat} {N : Nat → Nat → Int32} {was : Nat → Int32} (h : sm_so n N) : ∀ j, sm_so n (sm_l2 N was j)
  | 0 => h
  | j + 1 => by rw [sm_l2_s]; exact sm_b2_so j (sm_b1_so j (sm_l2_so h j))
def sm_bu (N : Nat → Nat → Int32) : Nat → Int32 := fun j => hb_it (fun i s => s + (if N i 6 = 2 then 1 else 0)) j 0
theorem sm_bu_s (N : Nat → Nat → Int32) (j : Nat) : sm_bu N (j + 1) = sm_bu N j + (if N j 6 = 2 then 1 else 0) := rfl
theorem sm_cp_so {n : Nat} {N : Nat → Nat → Int32} (h : sm_so n N) : ∀ b, b < n → sm_cp N 9 n b = -1 ∨ ∃ s : Nat, s < n ∧ sm_cp N 9 n b = nI s := fun b hb => by
  rw [sm_cp_v N 9 n b hb]
  exact h b hb
