/-! what the reference's methods compute: S (minute, glow, lit, mistaken, haze), N (wood, state, left, looking, source, answers, damp) -/
def hm_in (v lo hi : Int32) : Int32 := if v < lo then 0 else if hi < v then 0 else 1
theorem hm_in_bt {v lo hi : Int32} : (¬ hm_in v lo hi = 0) ↔ hb_bt v lo hi := by
  unfold hm_in hb_bt
  by_cases h1 : v < lo
  · simp [h1]
  · by_cases h2 : hi < v <;> simp [h1, h2]
theorem hm_isH {x : Int32} {n : Nat} (hn : n ≤ 10) (c : ¬ hm_in x 0 (nI n - 1) = 0) : ∃ i : Nat, i < n ∧ x = nI i := by
  obtain ⟨h1, h2⟩ := hm_in_bt.mp c
  rcases pk_ix x (n := n) (by omega) with h | h | h
  · exact absurd h h1
  · exfalso
    apply h2
    cases n with
    | zero =>
      have e : nI 0 - 1 = -1 := by decide
      rw [e]
      exact Int32.lt_of_lt_of_le (by decide) (Int32.not_lt.mp h1)
    | succ n =>
      rw [nI_pred]
      exact Int32.lt_of_lt_of_le (nI_lt (by omega) (by omega)) h
  · exact h
theorem hm_noH {x : Int32} {n : Nat} (hn : n ≤ 10) (c : hm_in x 0 (nI n - 1) = 0) : ¬ hb_ok n x := fun ⟨i, hi, e⟩ => by
  subst e
  have h : ¬ hm_in (nI i) 0 (nI n - 1) = 0 := hm_in_bt.mpr ⟨nI_pos (by omega), by
    obtain ⟨n, rfl⟩ : ∃ k, n = k + 1 := ⟨n - 1, by omega⟩
    rw [nI_pred]
    exact nI_nlt (by omega) (by omega)⟩
  exact h c
def hm_o : Option Nat → Int32
  | none => -1
  | some b => nI b
def hm_nS (hz : Int32) (mi was : Nat → Int32) (h t : Nat) (acc : Option Nat) : Option Nat := if was t = 2 then (if hb_clr hz (mi (h * 10 + t)) = 0 then acc else match acc with
  | none => some t
  | some b => if mi (h * 10 + b) ≤ mi (h * 10 + t) then some b else some t) else acc
/-- the nearest fire -/
def hm_ne (hz : Int32) (mi was : Nat → Int32) (h : Nat) : Nat → Option Nat := fun j => hb_it (hm_nS hz mi was h) j none
theorem hm_ne_s (hz : Int32) (mi was : Nat → Int32) (h j : Nat) : hm_ne hz mi was h (j + 1) = hm_nS hz mi was h j (hm_ne hz mi was h j) := rfl
theorem hm_ne_lt (hz : Int32) (mi was : Nat → Int32) (h : Nat) : ∀ j b, hm_ne hz mi was h j = some b → b < j
  | 0, b, e => by cases e
  | j + 1, b, e => by
    rw [hm_ne_s] at e
    have ih := hm_ne_lt hz mi was h j
    unfold hm_nS at e
    split at e
    · split at e
      · have := ih b e; omega
      · cases hq : hm_ne hz mi was h j with
        | none => rw [hq] at e; cases e; omega
        | some c =>
          rw [hq] at e
          have := ih c hq
          dsimp only at e
          split at e <;> cases e <;> omega
    · have := ih b e; omega
def hm_kF (f : Nat → Int32) (s : Int32) : Nat → Int32 := hb_fu (hb_fu (hb_fu (hb_fu (hb_fu f 0 (f 0 - 1)) 3 0) 1 1) 2 (f 6 + 1)) 4 s
def hm_kS (S : Nat → Int32) (s : Int32) : Nat → Int32 := hb_fu (hb_fu S 2 (S 2 + 1)) 3 (S 3 + (if s = -1 then 1 else 0))
def hm_dF (f : Nat → Int32) : Nat → Int32 := hb_fu (hb_fu (hb_fu f 1 0) 2 0) 4 (-1)
def hm_is (f S : Nat → Int32) (ea to : Int32) : Int32 := if f 0 ≤ 0 then 0 else if to = -1 then (if hb_zb ea = 0 then 0 else if S 1 ≤ 0 then 0 else 1) else 1
def hm_lF (f S : Nat → Int32) (ea to : Int32) : Nat → Int32 := hb_fu f 3 (if hm_is f S ea to = 0 then 0 else f 3 + 1)
def hm_sr (N : Nat → Nat → Int32) : Option Nat → Int32
  | none => -1
  | some b => N b 4
/-- one keeper looks -/
def hm_lk (S : Nat → Int32) (N a : Nat → Nat → Int32) (n h : Nat) : (Nat → Int32) × (Nat → Nat → Int32) :=
  if a 2 h ≤ hm_lF (N h) S (a 3 h) (hm_o (hm_ne (S 4) (a 5) (a 8) h n)) 3 then
    (hm_kS S (hm_sr (va_up N h (hm_lF (N h) S (a 3 h) (hm_o (hm_ne (S 4) (a 5) (a 8) h n)))) (hm_ne (S 4) (a 5) (a 8) h n)),
      va_up N h (hm_kF (hm_lF (N h) S (a 3 h) (hm_o (hm_ne (S 4) (a 5) (a 8) h n))) (hm_sr (va_up N h (hm_lF (N h) S (a 3 h) (hm_o (hm_ne (S 4) (a 5) (a 8) h n)))) (hm_ne (S 4) (a 5) (a 8) h n))))
  else (S, va_up N h (hm_lF (N h) S (a 3 h) (hm_o (hm_ne (S 4) (a 5) (a 8) h n))))
def hm_m1 (N : Nat → Nat → Int32) (w : Nat → Int32) : Nat → Nat → Int32 := fun j => hb_it (fun i w => upd w i (N i 1)) j w
def hm_m2 (S : Nat → Int32) (N a : Nat → Nat → Int32) (n : Nat) : Nat → (Nat → Int32) × (Nat → Nat → Int32) := fun j => hb_it (fun h s => if a 8 h = 0 then hm_lk s.1 s.2 a n h else s) j (S, N)
def hm_sb (N : Nat → Nat → Int32) (po : Int32) (h : Nat) : Nat → Nat → Int32 := if hb_zb po = 0 then va_up N h (hb_fu (N h) 1 2) else if N h 4 = -1 then va_up N h (hb_fu (N h) 1 2) else va_up (va_up N h (hb_fu (N h) 1 2)) (N h 4).toNatClampNeg (hb_fu ((va_up N h (hb_fu (N h) 1 2)) (N h 4).toNatClampNeg) 5 ((va_up N h (hb_fu (N h) 1 2)) (N h 4).toNatClampNeg 5 + 1))
def hm_m3 (N a : Nat → Nat → Int32) : Nat → Nat → Nat → Int32 := fun j => hb_it (fun h N => if a 8 h = 1 then (if 0 < N h 2 - 1 then va_up N h (hb_fu (N h) 2 (N h 2 - 1)) else hm_sb (va_up N h (hb_fu (N h) 2 (N h 2 - 1))) (a 4 h) h) else N) j N
def hm_m4 (N a : Nat → Nat → Int32) : Nat → Nat → Nat → Int32 := fun j => hb_it (fun h N => if a 8 h = 2 then (if N h 0 = 0 then va_up N h (hm_dF (N h)) else va_up N h (hb_fu (N h) 0 (N h 0 - 1))) else N) j N
theorem hm_m1_s (N : Nat → Nat → Int32) (w : Nat → Int32) (j : Nat) : hm_m1 N w (j + 1) = upd (hm_m1 N w j) j (N j 1) := rfl
theorem hm_m2_s (S : Nat → Int32) (N a : Nat → Nat → Int32) (n j : Nat) : hm_m2 S N a n (j + 1) = if a 8 j = 0 then hm_lk (hm_m2 S N a n j).1 (hm_m2 S N a n j).2 a n j else hm_m2 S N a n j := rfl
theorem hm_m3_s (N a : Nat → Nat → Int32) (j : Nat) : hm_m3 N a (j + 1) = if a 8 j = 1 then (if 0 < hm_m3 N a j j 2 - 1 then va_up (hm_m3 N a j) j (hb_fu (hm_m3 N a j j) 2 (hm_m3 N a j j 2 - 1)) else hm_sb (va_up (hm_m3 N a j) j (hb_fu (hm_m3 N a j j) 2 (hm_m3 N a j j 2 - 1))) (a 4 j) j) else hm_m3 N a j := rfl
theorem hm_m4_s (N a : Nat → Nat → Int32) (j : Nat) : hm_m4 N a (j + 1) = if a 8 j = 2 then (if hm_m4 N a j j 0 = 0 then va_up (hm_m4 N a j) j (hm_dF (hm_m4 N a j j)) else va_up (hm_m4 N a j) j (hb_fu (hm_m4 N a j j) 0 (hm_m4 N a j j 0 - 1))) else hm_m4 N a j := rfl
/-- sources are none, or hills -/
def hm_so (N : Nat → Nat → Int32) : Prop := ∀ h, h < 10 → N h 4 = -1 ∨ ∃ s : Nat, s < 10 ∧ N h 4 = nI s
