/-! what the reference's calls compute -/
def hm_bu (N : Nat → Nat → Int32) : Nat → Int32 := fun j => hb_it (fun i s => s + (if N i 1 = 2 then 1 else 0)) j 0
theorem hm_bu_s (N : Nat → Nat → Int32) (j : Nat) : hm_bu N (j + 1) = hm_bu N j + (if N j 1 = 2 then 1 else 0) := rfl
abbrev hm_St : Type := (Nat → Int32) × (Nat → Nat → Int32) × (Nat → Int32)
def hm_pm (S : Nat → Int32) (N a : Nat → Nat → Int32) (n : Nat) : Nat → hm_St := fun j => hb_it (fun _ s => (hm_mS s.1 s.2.1 (va_up a 8 s.2.2) n, hm_mN s.1 s.2.1 (va_up a 8 s.2.2) n, hm_mW s.2.1 (va_up a 8 s.2.2) n)) j (S, N, a 8)
theorem hm_pm_s (S : Nat → Int32) (N a : Nat → Nat → Int32) (n j : Nat) : hm_pm S N a n (j + 1) = (hm_mS (hm_pm S N a n j).1 (hm_pm S N a n j).2.1 (va_up a 8 (hm_pm S N a n j).2.2) n, hm_mN (hm_pm S N a n j).1 (hm_pm S N a n j).2.1 (va_up a 8 (hm_pm S N a n j).2.2) n, hm_mW (hm_pm S N a n j).2.1 (va_up a 8 (hm_pm S N a n j).2.2) n) := rfl
theorem hm_so_pm {S : Nat → Int32} {N a : Nat → Nat → Int32} {n : Nat} (hn : n ≤ 10) (h : hm_so N) : ∀ j, hm_so (hm_pm S N a n j).2.1
  | 0 => h
  | j + 1 => by rw [hm_pm_s]; exact hm_so_mN hn (hm_so_pm hn h j)
def hm_mub (S : Nat → Int32) (N a : Nat → Nat → Int32) (n i : Nat) : Int32 := hb_first (fun j => if (hm_pm S N a n j).2.1 i 1 = 2 then 1 else 0) 151 0
def hm_sn (N : Nat → Nat → Int32) (src s0 : Int32) : Nat → Int32 := fun j => hb_it (fun h s => if N h 1 = 2 then (if N h 4 = src then s ||| (1 <<< (nI h &&& 31)) else s) else s) j s0
theorem hm_sn_s (N : Nat → Nat → Int32) (src s0 : Int32) (j : Nat) : hm_sn N src s0 (j + 1) = if N j 1 = 2 then (if N j 4 = src then hm_sn N src s0 j ||| (1 <<< (nI j &&& 31)) else hm_sn N src s0 j) else hm_sn N src s0 j := rfl
def hm_rc (S : Nat → Int32) (N a : Nat → Nat → Int32) (n i : Nat) : Nat → Int32 := fun j => hb_it (fun k s => hm_sn (hm_pm S N a n (k + 1)).2.1 (nI i) s n) j 0
theorem hm_rc_s (S : Nat → Int32) (N a : Nat → Nat → Int32) (n i j : Nat) : hm_rc S N a n i (j + 1) = hm_sn (hm_pm S N a n (j + 1)).2.1 (nI i) (hm_rc S N a n i j) n := rfl
def hm_su (seen : Int32) : Nat → Int32 := fun j => hb_it (fun h s => s + ((seen >>> (nI h &&& 31)) &&& 1)) j 0
theorem hm_su_s (seen : Int32) (j : Nat) : hm_su seen (j + 1) = hm_su seen j + ((seen >>> (nI j &&& 31)) &&& 1) := rfl
def hm_lN (N : Nat → Nat → Int32) (i : Nat) : Nat → Nat → Int32 := va_up N i (hm_kF (hb_fu (N i) 5 0) (nI i))
def hm_ka (S : Nat → Int32) (N a : Nat → Nat → Int32) : Nat → Nat → Int32 := va_up a 7 (va_cpy (hm_now S N) (a 7) 0 0 75)
def hm_re (S : Nat → Int32) (N a : Nat → Nat → Int32) (n i : Nat) : Int32 := hm_su (hm_rc (hm_kS S (nI i)) (hm_lN N i) (hm_ka S N a) n i 100) n
def hm_bh (N : Nat → Nat → Int32) (R : Nat → Int32) : Nat → Int32 × Int32 := fun j => hb_it (fun i s => if N i 1 = 0 then (if N i 0 = 0 then s else if R i ≤ s.2 then s else (nI i, R i)) else s) j (-1, -1)
theorem hm_bh_s (N : Nat → Nat → Int32) (R : Nat → Int32) (j : Nat) : hm_bh N R (j + 1) = if N j 1 = 0 then (if N j 0 = 0 then hm_bh N R j else if R j ≤ (hm_bh N R j).2 then hm_bh N R j else (nI j, R j)) else hm_bh N R j := rfl
def hm_wo (N : Nat → Nat → Int32) : Nat → Int32 := fun j => hb_it (fun i s => s + N i 0) j 0
theorem hm_wo_s (N : Nat → Nat → Int32) (j : Nat) : hm_wo N (j + 1) = hm_wo N j + N j 0 := rfl
def hm_mean (N : Nat → Nat → Int32) (n : Nat) : UInt64 := if nI n = 0 then FP.dconst0 else FP.ddiv (FP.i2d (hm_wo N n)) (FP.i2d (nI n))
def hm_cl (N : Nat → Nat → Int32) (i : Nat) : Prop := N i 1 = 0 ∧ 0 < N i 0
theorem hm_clr1 {h x : Int32} (c : ¬ hb_clr h x = 0) : hb_clr h x = 1 := by
  unfold hb_clr at c ⊢
  split
  · rfl
  · rename_i q; rw [if_neg q] at c; exact absurd rfl c
theorem hm_so_ln {N : Nat → Nat → Int32} {i : Nat} (h : hm_so N) (hi : i < 10) : hm_so (hm_lN N i) := hm_so_up h i (Or.inr ⟨i, hi, rfl⟩)
