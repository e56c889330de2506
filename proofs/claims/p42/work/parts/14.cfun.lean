/-! what the calls of the class compute -/
def hb_cpC (D C : Nat → Nat → Int32) : Nat → Nat → Nat → Int32 := fun j => hb_it (fun i D => va_up D i (hb_copyF (D i) (C i))) j D
def hb_cpR (m M : Nat → Int32) (i : Nat) : Nat → Nat → Int32 := fun j => hb_it (fun j m => upd m (i * 10 + j) (M (i * 10 + j))) j m
def hb_cpM (m M : Nat → Int32) : Nat → Nat → Int32 := fun j => hb_it (fun i m => hb_cpR m M i 10) j m
def hb_cpG (D G : Nat → Int32) : Nat → Int32 := hb_fu (hb_fu (hb_fu (hb_fu (hb_fu (hb_fu D 0 (G 0)) 1 (G 1)) 2 (G 2)) 3 (G 3)) 4 (G 4)) 5 (G 5)
theorem hb_cpC_s (D C : Nat → Nat → Int32) (j : Nat) : hb_cpC D C (j + 1) = va_up (hb_cpC D C j) j (hb_copyF (hb_cpC D C j j) (C j)) := rfl
theorem hb_cpR_s (m M : Nat → Int32) (i j : Nat) : hb_cpR m M i (j + 1) = upd (hb_cpR m M i j) (i * 10 + j) (M (i * 10 + j)) := rfl
theorem hb_cpM_s (m M : Nat → Int32) (j : Nat) : hb_cpM m M (j + 1) = hb_cpR (hb_cpM m M j) M j 10 := rfl
/-- a hill's number -/
def hb_ok (n : Nat) (x : Int32) : Prop := ∃ i : Nat, i < n ∧ x = nI i
theorem hb_ok_of {x g : Int32} {n : Nat} (hg : g = nI n) (hn : n ≤ 10) (c1 : ¬ x < 0) (c2 : x < g) : ∃ i : Nat, i < n ∧ x = nI i := by
  rcases pk_ix x (n := n) (by omega) with h | h | h
  · exact absurd h c1
  · rw [hg] at c2; exact absurd h (Int32.not_le.mpr c2)
  · exact h
theorem hb_no1 {x : Int32} {n : Nat} (hn : n ≤ 10) (c : x < 0) : ¬ hb_ok n x := fun ⟨i, hi, e⟩ => by
  subst e
  exact nI_pos (by omega) c
theorem hb_no2 {x g : Int32} {n : Nat} (hg : g = nI n) (hn : n ≤ 10) (c : ¬ x < g) : ¬ hb_ok n x := fun ⟨i, hi, e⟩ => by
  subst e
  exact c (by rw [hg]; exact nI_lt hi (by omega))
theorem hb_ok_i {n i : Nat} (h : i < n) : hb_ok n (nI i) := ⟨i, h, rfl⟩
def hb_bt (x lo hi : Int32) : Prop := ¬ x < lo ∧ ¬ hi < x
def hb_neg (v : Int32) : Int32 := if hb_zb v = 0 then 1 else 0
def hb_min (a b : Int32) : Int32 := if b < a then b else a
def hb_mub (C : Nat → Nat → Int32) (G M : Nat → Int32) (n i : Nat) : Int32 := hb_first (fun j => if (hb_pm C G M n j).1 i 5 = 2 then 1 else 0) 151 0
def hb_bc1 (x : Int32) : Int32 := x - ((x.toUInt32 >>> ((1 : Int32).toUInt32 &&& Int32.toUInt32 31)).toInt32 &&& 1431655765)
def hb_bc2 (x : Int32) : Int32 := (x &&& 858993459) + ((x.toUInt32 >>> ((2 : Int32).toUInt32 &&& Int32.toUInt32 31)).toInt32 &&& 858993459)
def hb_bc3 (x : Int32) : Int32 := (x + (x.toUInt32 >>> ((4 : Int32).toUInt32 &&& Int32.toUInt32 31)).toInt32) &&& 252645135
def hb_bc4 (x : Int32) : Int32 := x + (x.toUInt32 >>> ((8 : Int32).toUInt32 &&& Int32.toUInt32 31)).toInt32
def hb_bc5 (x : Int32) : Int32 := x + (x.toUInt32 >>> ((16 : Int32).toUInt32 &&& Int32.toUInt32 31)).toInt32
def hb_bitc (x : Int32) : Int32 := hb_bc5 (hb_bc4 (hb_bc3 (hb_bc2 (hb_bc1 x)))) &&& 63
def hb_rc (C : Nat → Nat → Int32) (G M : Nat → Int32) (n i : Nat) : Nat → Int32 := fun j => hb_it (fun k r => r ||| hb_bset (hb_pm C G M n (k + 1)).1 (nI i) n) j 0
theorem hb_rc_s (C : Nat → Nat → Int32) (G M : Nat → Int32) (n i j : Nat) : hb_rc C G M n i (j + 1) = hb_rc C G M n i j ||| hb_bset (hb_pm C G M n (j + 1)).1 (nI i) n := rfl
/-- how far a signal would go, tried on the second land -/
def hb_tr (D : Nat → Nat → Int32) (G2 M2 : Nat → Int32) (C : Nat → Nat → Int32) (G M : Nat → Int32) (n i : Nat) : Int32 := hb_bitc (hb_rc (hb_hC (hb_cpC D C 10) i) (hb_kG (hb_cpG G2 G) (nI i)) (hb_cpM M2 M 10) n i 100)
def hb_bh (C : Nat → Nat → Int32) (R : Nat → Int32) : Nat → Int32 × Int32 := fun j => hb_it (fun i s => if hb_rdy (C i) = 0 then (if 0 ≤ s.2 then s else (nI i, 0)) else if R i ≤ s.2 then s else (nI i, R i)) j (-1, 0)
theorem hb_bh_s (C : Nat → Nat → Int32) (R : Nat → Int32) (j : Nat) : hb_bh C R (j + 1) = if hb_rdy (C j) = 0 then (if 0 ≤ (hb_bh C R j).2 then hb_bh C R j else (nI j, 0)) else if R j ≤ (hb_bh C R j).2 then hb_bh C R j else (nI j, R j) := rfl
def hb_mix (d x : Int64) : Int64 := d * 31 + x
def hb_dl (C : Nat → Nat → Int32) (G : Nat → Int32) (n : Nat) (d : Int64) : Int64 := hb_mix (hb_mix (hb_mix (hb_mix (hb_mix (hb_mix (hb_mix d (G 0).toInt64) (G 3).toInt64) (G 1).toInt64) (G 2).toInt64) (hb_burn C n).toInt64) (G 4).toInt64) (G 5).toInt64
def hb_if (p : Prop) [Decidable p] : Int64 := if p then 1 else 0
def hb_dh (f : Nat → Int32) (d : Int64) : Int64 := (hb_mix (hb_mix (hb_mix (hb_mix (hb_mix (hb_mix (hb_mix (hb_mix (hb_mix (hb_mix (hb_mix d (f 0).toInt64) (f 1).toInt64) (f 2).toInt64) (hb_if (¬ hb_zb (f 3) = 0))) (hb_if (¬ hb_zb (f 4) = 0))) (hb_if (f 5 = 0))) (hb_if (f 5 = 2))) (f 7).toInt64) (f 8).toInt64) (f 9).toInt64) (f 10).toInt64)
def hb_dhs (C : Nat → Nat → Int32) (d : Int64) : Nat → Int64 := fun j => hb_it (fun i d => hb_dh (C i) d) j d
theorem hb_dhs_s (C : Nat → Nat → Int32) (d : Int64) (j : Nat) : hb_dhs C d (j + 1) = hb_dh (C j) (hb_dhs C d j) := rfl
def hb_dr (G M : Nat → Int32) (a : Nat) (d : Int64) : Nat → Int64 := fun j => hb_it (fun c d => hb_mix (hb_mix d (M (a * 10 + c)).toInt64) (hb_if (¬ hb_clr (G 1) (M (a * 10 + c)) = 0))) j d
theorem hb_dr_s (G M : Nat → Int32) (a : Nat) (d : Int64) (j : Nat) : hb_dr G M a d (j + 1) = hb_mix (hb_mix (hb_dr G M a d j) (M (a * 10 + j)).toInt64) (hb_if (¬ hb_clr (G 1) (M (a * 10 + j)) = 0)) := rfl
def hb_ds (G M : Nat → Int32) (n : Nat) (d : Int64) : Nat → Int64 := fun j => hb_it (fun a d => hb_dr G M a d n) j d
theorem hb_ds_s (G M : Nat → Int32) (n : Nat) (d : Int64) (j : Nat) : hb_ds G M n d (j + 1) = hb_dr G M j (hb_ds G M n d j) n := rfl
def hb_dig (C : Nat → Nat → Int32) (G M : Nat → Int32) (n : Nat) : Int64 := hb_ds G M n (hb_dhs C (hb_dl C G n 1883) n) n
/-- the class's world, seen from its first land, and from its second -/
abbrev hb_v1 (E : jk_T) (q : Nat) (b1 b2 : Nat → Nat) (Y : va_W) (C : Nat → Nat → Int32) (G M : Nat → Int32) (C2 : Nat → Nat → Int32) (G2 M2 : Nat → Int32) : va_W := hb_L E [hb_ob q b1 b2] (hb_LW E b2 C2 G2 M2 ++ Y) b1 C G M
abbrev hb_v2 (E : jk_T) (q : Nat) (b1 b2 : Nat → Nat) (Y : va_W) (C : Nat → Nat → Int32) (G M : Nat → Int32) (C2 : Nat → Nat → Int32) (G2 M2 : Nat → Int32) : va_W := hb_L E (hb_ob q b1 b2 :: hb_LW E b1 C G M) Y b2 C2 G2 M2
theorem hb_v12 {E : jk_T} {q : Nat} {b1 b2 : Nat → Nat} {Y : va_W} {C : Nat → Nat → Int32} {G M : Nat → Int32} {C2 : Nat → Nat → Int32} {G2 M2 : Nat → Int32} : hb_v1 E q b1 b2 Y C G M C2 G2 M2 = hb_v2 E q b1 b2 Y C G M C2 G2 M2 := rfl
/-- a land's values -/
abbrev hb_LS : Type := (Nat → Nat → Int32) × (Nat → Int32) × (Nat → Int32)
theorem hb_bt_nat {x : Int32} {lo hi : Nat} (hl : lo < 1000) (hh : hi < 1000) (h : hb_bt x (nI lo) (nI hi)) : ∃ m : Nat, lo ≤ m ∧ m ≤ hi ∧ x = nI m := by
  obtain ⟨h1, h2⟩ := h
  rcases pk_ix x (n := hi + 1) (by omega) with h | h | ⟨m, h, rfl⟩
  · exact absurd (Int32.lt_of_le_of_lt (Int32.not_lt.mp h1) h) (nI_pos (by omega))
  · exact absurd (Int32.lt_of_lt_of_le (nI_lt (by omega) (by omega)) h) h2
  · refine ⟨m, ?_, by omega, rfl⟩
    rcases Nat.lt_or_ge m lo with q | q
    · exact absurd (nI_lt q (by omega)) h1
    · exact q
def hb_mean (C : Nat → Nat → Int32) (G : Nat → Int32) (n : Nat) : UInt64 := if 0 < G 0 then FP.ddiv (FP.i2d (hb_wood C n)) (FP.i2d (G 0)) else FP.dconst0
