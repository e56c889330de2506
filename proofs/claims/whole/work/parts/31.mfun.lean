/-! the reference's minute, as functions -/
theorem hm_neg {b : Nat} (h : b < 2 ^ 31) : ¬ nI b = -1 := fun e => nI_pos h (by rw [e]; decide)
theorem hm_so_up {N : Nat → Nat → Int32} (h : hm_so N) (i : Nat) {f : Nat → Int32} (hf : f 4 = -1 ∨ ∃ s : Nat, s < 10 ∧ f 4 = nI s) : hm_so (va_up N i f) := by
  intro k hk
  by_cases e : k = i
  · subst e; rw [va_up_self]; exact hf
  · rw [va_up_ne _ _ e]; exact h k hk
theorem hm_so_f {N : Nat → Nat → Int32} (h : hm_so N) {i : Nat} (hi : i < 10) {f : Nat → Int32} (hf : f 4 = N i 4) : hm_so (va_up N i f) := hm_so_up h i (by rw [hf]; exact h i hi)
theorem hm_so_sr {N : Nat → Nat → Int32} (h : hm_so N) {o : Option Nat} (ho : ∀ b, o = some b → b < 10) : hm_sr N o = -1 ∨ ∃ s : Nat, s < 10 ∧ hm_sr N o = nI s := by
  cases o with
  | none => exact Or.inl rfl
  | some b => exact h b (ho b rfl)
theorem hm_so_lk {S : Nat → Int32} {N a : Nat → Nat → Int32} {n i : Nat} (hn : n ≤ 10) (hi : i < 10) (h : hm_so N) : hm_so (hm_lk S N a n i).2 := by
  have h1 : hm_so (va_up N i (hm_lF (N i) S (a 3 i) (hm_o (hm_ne (S 4) (a 5) (a 8) i n)))) := hm_so_f h hi rfl
  have h2 := hm_so_sr h1 (o := hm_ne (S 4) (a 5) (a 8) i n) (fun b e => Nat.lt_of_lt_of_le (hm_ne_lt _ _ _ _ _ _ e) hn)
  unfold hm_lk
  split
  · exact hm_so_up h i h2
  · exact h1
theorem hm_so_m2 {S : Nat → Int32} {N a : Nat → Nat → Int32} {n : Nat} (hn : n ≤ 10) (h : hm_so N) : ∀ j, j ≤ 10 → hm_so (hm_m2 S N a n j).2
  | 0, _ => h
  | j + 1, hj => by
    have ih := hm_so_m2 (S := S) (a := a) hn h j (by omega)
    rw [hm_m2_s]
    split
    · exact hm_so_lk hn (by omega) ih
    · exact ih
theorem hm_so_sb {N : Nat → Nat → Int32} {po : Int32} {i : Nat} (hi : i < 10) (h : hm_so N) : hm_so (hm_sb N po i) := by
  have h1 : hm_so (va_up N i (hb_fu (N i) 1 2)) := hm_so_f h hi rfl
  unfold hm_sb
  split
  · exact h1
  · split
    · exact h1
    · rename_i h2 h3
      rcases h i hi with q | ⟨s, hs, q⟩
      · exact absurd q h3
      · rw [q, nI_clamp (by omega)]
        exact hm_so_f h1 hs rfl
theorem hm_so_m3 {N a : Nat → Nat → Int32} (h : hm_so N) : ∀ j, j ≤ 10 → hm_so (hm_m3 N a j)
  | 0, _ => h
  | j + 1, hj => by
    have ih := hm_so_m3 (a := a) h j (by omega)
    have h1 : hm_so (va_up (hm_m3 N a j) j (hb_fu (hm_m3 N a j j) 2 (hm_m3 N a j j 2 - 1))) := hm_so_f ih (by omega) rfl
    rw [hm_m3_s]
    split
    · split
      · exact h1
      · exact hm_so_sb (by omega) h1
    · exact ih
theorem hm_so_m4 {N a : Nat → Nat → Int32} (h : hm_so N) : ∀ j, j ≤ 10 → hm_so (hm_m4 N a j)
  | 0, _ => h
  | j + 1, hj => by
    have ih := hm_so_m4 (a := a) h j (by omega)
    rw [hm_m4_s]
    split
    · split
      · exact hm_so_up ih j (Or.inl rfl)
      · exact hm_so_f ih (by omega) rfl
    · exact ih
/-- 'was' behind a minute, and the row behind it -/
def hm_mW (N a : Nat → Nat → Int32) (n : Nat) : Nat → Int32 := hm_m1 N (a 8) n
def hm_mA (N a : Nat → Nat → Int32) (n : Nat) : Nat → Nat → Int32 := va_up a 8 (hm_mW N a n)
def hm_mN (S : Nat → Int32) (N a : Nat → Nat → Int32) (n : Nat) : Nat → Nat → Int32 := hm_m4 (hm_m3 (hm_m2 S N (hm_mA N a n) n n).2 (hm_mA N a n) n) (hm_mA N a n) n
def hm_mG (S : Nat → Int32) : Nat → Int32 := hb_fu (hb_fu S 1 (if 0 < S 1 - 1 then S 1 - 1 else 0)) 0 (S 0 + 1)
def hm_mS (S : Nat → Int32) (N a : Nat → Nat → Int32) (n : Nat) : Nat → Int32 := hm_mG (hm_m2 S N (hm_mA N a n) n n).1
theorem hm_so_mN {S : Nat → Int32} {N a : Nat → Nat → Int32} {n : Nat} (hn : n ≤ 10) (h : hm_so N) : hm_so (hm_mN S N a n) := hm_so_m4 (hm_so_m3 (hm_so_m2 hn h n hn) n hn) n hn
