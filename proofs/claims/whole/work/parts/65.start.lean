/-! what a throw needs of the start -/
theorem lw_str {s : State} {args : Array Value} {k : Nat} {tx : String} (h1 : (Cond.stringRef "HillBeacons" k tx).before args s = true) (h2 : (Cond.exactly (.string "HillBeacons" k) "java/lang/String").before args s = true) : ∃ sa : Nat, vk_R "HillBeacons" k tx sa s := by
  obtain ⟨a, _, _, _, he, -⟩ := Cond.exactly_spec h2
  exact ⟨a, vk_R.of h1 he⟩
theorem lw_X {s : State} {b : Nat} (C0 : ∀ w ∈ lw_tbl, w.before #[Value.ref b] s = true) (hg : (Jvm.Cond.and given_1 narrow_1).before #[Value.ref b] s = true) : jk_X (fun q => s.heap.size ≤ q) s s.heap := by
  have hs := flat_of_before _ hg
  refine ⟨vx_Zqof (C0 _ (by decide +kernel)) (C0 _ (by decide +kernel)) (hs _ (by decide +kernel)) (fun a ha h => absurd ha (by omega)), vx_Zqof (C0 _ (by decide +kernel)) (C0 _ (by decide +kernel)) (hs _ (by decide +kernel)) (fun a ha h => absurd ha (by omega)), fun q hq => ?_, fun E hE => ?_, fun E hE => ?_, fun E hE F hF hne => ?_, va_AO.of (C0 _ (by decide +kernel)), va_Nw.of rfl (C0 _ (by decide +kernel))⟩
  · simp only [jk_strs, List.mem_cons, List.not_mem_nil, or_false] at hq
    rcases hq with rfl | rfl | rfl | rfl | rfl | rfl <;> exact lw_str (C0 _ (by decide +kernel)) (hs _ (by decide +kernel))
  · simp only [jk_exs, List.mem_cons, List.not_mem_nil, or_false] at hE
    rcases hE with rfl | rfl | rfl <;> exact va_Nw.of rfl (C0 _ (by decide +kernel))
  · simp only [jk_ups, List.mem_cons, List.not_mem_nil, or_false] at hE
    rcases hE with rfl | rfl | rfl <;> exact va_Nw.of rfl (C0 _ (by decide +kernel))
  · simp only [jk_exs, List.mem_cons, List.not_mem_nil, or_false] at hE hF
    rcases hE with rfl | rfl | rfl <;> rcases hF with rfl | rfl | rfl <;> first | exact absurd rfl hne | exact va_Nc.of (hs _ (by decide +kernel))
