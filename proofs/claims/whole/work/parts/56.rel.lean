/-! the mean is a number -/
theorem mn_all : ∀ n, n < 11 → 0 < n → ∀ k, k < 301 → FP.ddiv (FP.i2d (nI k)) (FP.i2d (nI n)) &&& 0x7fffffffffffffff ≤ 0x7ff0000000000000 := by decide +kernel
theorem hm_R_mv {n : Nat} {C : Nat → Nat → Int32} {G M S : Nat → Int32} {N a : Nat → Nat → Int32} (h : hm_R n C G M S N a) (hn : 0 < n) : vf_n64 (FP.ddiv (FP.i2d (hm_wo N n)) (FP.i2d (nI n))) := by
  obtain ⟨-, k, hk, e⟩ := hm_R_wo h n (Nat.le_refl n)
  have := h.1
  rw [e]
  exact mn_all n (by omega) hn k (by omega)
