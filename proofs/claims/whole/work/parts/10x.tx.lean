theorem nD_0 (a : Int32) (V : gx_M) : F_Mac_needsOf (nI 0) a V = some (nI 0, V) := by
  unfold F_Mac_needsOf
  rw [if_neg (by decide), if_neg (by decide), ib_t (by decide) (by decide), nI_clamp (by decide)]
  rfl
theorem oD_0 (V : gx_M) : F_Mac_onlyPushes (nI 0) V = some ((0 : Int32), V) := by
  unfold F_Mac_onlyPushes
  rw [if_neg (by decide), if_neg (by decide), if_pos (by decide)]
theorem rD_0 (c : Nat) (V : gx_M) : F_Mac_priceOf 1 c (nI 0) V = some (nI 0, V) := by
  unfold F_Mac_priceOf
  rw [ib_t (by decide) (by decide), if_neg (by decide), if_neg (by decide), if_neg (by decide), nI_clamp (by decide)]
  rfl
theorem pD_0 (V : gx_M) : F_Mod_pops (nI 0) V = some (nI 0, V) := by
  unfold F_Mod_pops
  rw [if_neg (by decide), if_neg (by decide), if_neg (by decide), if_pos (by decide), F_Mod_pops_33, if_neg (by decide), if_neg (by decide), if_neg (by decide), if_neg (by decide), if_neg (by decide), if_neg (by decide), if_neg (by decide), if_pos (by decide)]
  rfl
theorem uD_0 (V : gx_M) : F_Mod_pushes (nI 0) V = some (nI 0, V) := by
  unfold F_Mod_pushes
  rw [if_neg (by decide), if_neg (by decide), if_neg (by decide), if_neg (by decide), if_pos (by decide), F_Mod_pushes_35, if_neg (by decide), if_pos (by decide), F_Mod_pushes_53, if_neg (by decide)]
  rfl
theorem kD_0 (V : gx_M) : F_Mod_cost 0 (nI 0) V = some (nI 0, V) := by
  unfold F_Mod_cost
  rw [if_pos (by decide)]
  rfl
theorem nD_1 (a : Int32) (V : gx_M) : F_Mac_needsOf (nI 1) a V = some (nI 0, V) := by
  unfold F_Mac_needsOf
  rw [if_neg (by decide), if_neg (by decide), ib_t (by decide) (by decide), nI_clamp (by decide)]
  rfl
theorem oD_1 (V : gx_M) : F_Mac_onlyPushes (nI 1) V = some ((1 : Int32), V) := by
  unfold F_Mac_onlyPushes
  rw [if_pos (by decide)]
theorem rD_1 (c : Nat) (V : gx_M) : F_Mac_priceOf 1 c (nI 1) V = some (nI 1, V) := by
  unfold F_Mac_priceOf
  rw [ib_t (by decide) (by decide), if_neg (by decide), if_neg (by decide), if_neg (by decide), nI_clamp (by decide)]
  rfl
theorem pD_1 (V : gx_M) : F_Mod_pops (nI 1) V = some (nI 0, V) := by
  unfold F_Mod_pops
  rw [if_neg (by decide), if_neg (by decide), if_neg (by decide), if_pos (by decide), F_Mod_pops_33, if_neg (by decide), if_neg (by decide), if_neg (by decide), if_neg (by decide), if_neg (by decide), if_neg (by decide), if_neg (by decide), if_pos (by decide)]
  rfl
theorem uD_1 (V : gx_M) : F_Mod_pushes (nI 1) V = some (nI 1, V) := by
  unfold F_Mod_pushes
  rw [if_neg (by decide), if_neg (by decide), if_pos (by decide)]
  rfl
theorem kD_1 (V : gx_M) : F_Mod_cost 0 (nI 1) V = some (nI 1, V) := by
  unfold F_Mod_cost
  rw [if_neg (by decide), if_neg (by decide), if_neg (by decide), if_neg (by decide), if_neg (by decide), if_neg (by decide), if_neg (by decide), if_neg (by decide), if_neg (by decide), if_neg (by decide), if_neg (by decide), if_neg (by decide), if_neg (by decide), if_neg (by decide), if_neg (by decide)]
  rfl
theorem nD_2 (a : Int32) (V : gx_M) : F_Mac_needsOf (nI 2) a V = some (nI 1, V) := by
  unfold F_Mac_needsOf
  rw [if_neg (by decide), if_neg (by decide), ib_t (by decide) (by decide), nI_clamp (by decide)]
  rfl
theorem oD_2 (V : gx_M) : F_Mac_onlyPushes (nI 2) V = some ((0 : Int32), V) := by
  unfold F_Mac_onlyPushes
  rw [if_neg (by decide), if_neg (by decide), if_pos (by decide)]
theorem rD_2 (c : Nat) (V : gx_M) : F_Mac_priceOf 1 c (nI 2) V = some (nI 1, V) := by
  unfold F_Mac_priceOf
  rw [ib_t (by decide) (by decide), if_neg (by decide), if_neg (by decide), if_neg (by decide), nI_clamp (by decide)]
  rfl
theorem pD_2 (V : gx_M) : F_Mod_pops (nI 2) V = some (nI 1, V) := by
  unfold F_Mod_pops
  rw [if_neg (by decide), if_neg (by decide), if_neg (by decide), if_pos (by decide), F_Mod_pops_33, if_neg (by decide), if_neg (by decide), if_pos (by decide)]
  rfl
theorem uD_2 (V : gx_M) : F_Mod_pushes (nI 2) V = some (nI 0, V) := by
  unfold F_Mod_pushes
  rw [if_neg (by decide), if_neg (by decide), if_neg (by decide), if_neg (by decide), if_pos (by decide), F_Mod_pushes_35, if_neg (by decide), if_pos (by decide), F_Mod_pushes_53, if_neg (by decide)]
  rfl
theorem kD_2 (V : gx_M) : F_Mod_cost 0 (nI 2) V = some (nI 1, V) := by
  unfold F_Mod_cost
  rw [if_neg (by decide), if_neg (by decide), if_neg (by decide), if_neg (by decide), if_neg (by decide), if_neg (by decide), if_neg (by decide), if_neg (by decide), if_neg (by decide), if_neg (by decide), if_neg (by decide), if_neg (by decide), if_neg (by decide), if_neg (by decide), if_neg (by decide)]
  rfl
theorem oD_3 (V : gx_M) : F_Mac_onlyPushes (nI 3) V = some ((1 : Int32), V) := by
  unfold F_Mac_onlyPushes
  rw [if_neg (by decide), if_pos (by decide)]
theorem rD_3 (c : Nat) (V : gx_M) : F_Mac_priceOf 1 c (nI 3) V = some (nI 1, V) := by
  unfold F_Mac_priceOf
  rw [ib_t (by decide) (by decide), if_neg (by decide), if_neg (by decide), if_neg (by decide), nI_clamp (by decide)]
  rfl
theorem pD_3 (V : gx_M) : F_Mod_pops (nI 3) V = some (nI 0, V) := by
  unfold F_Mod_pops
  rw [if_neg (by decide), if_neg (by decide), if_neg (by decide), if_pos (by decide), F_Mod_pops_33, if_neg (by decide), if_neg (by decide), if_neg (by decide), if_neg (by decide), if_neg (by decide), if_neg (by decide), if_neg (by decide), if_pos (by decide)]
  rfl
theorem uD_3 (V : gx_M) : F_Mod_pushes (nI 3) V = some (nI 1, V) := by
  unfold F_Mod_pushes
  rw [if_neg (by decide), if_neg (by decide), if_neg (by decide), if_pos (by decide)]
  rfl
theorem kD_3 (V : gx_M) : F_Mod_cost 0 (nI 3) V = some (nI 1, V) := by
  unfold F_Mod_cost
  rw [if_neg (by decide), if_neg (by decide), if_neg (by decide), if_neg (by decide), if_neg (by decide), if_neg (by decide), if_neg (by decide), if_neg (by decide), if_neg (by decide), if_neg (by decide), if_neg (by decide), if_neg (by decide), if_neg (by decide), if_neg (by decide), if_neg (by decide)]
  rfl
theorem oD_4 (V : gx_M) : F_Mac_onlyPushes (nI 4) V = some ((0 : Int32), V) := by
  unfold F_Mac_onlyPushes
  rw [if_neg (by decide), if_neg (by decide), if_pos (by decide)]
theorem rD_4 (c : Nat) (V : gx_M) : F_Mac_priceOf 1 c (nI 4) V = some (nI 1, V) := by
  unfold F_Mac_priceOf
  rw [ib_t (by decide) (by decide), if_neg (by decide), if_neg (by decide), if_neg (by decide), nI_clamp (by decide)]
  rfl
theorem pD_4 (V : gx_M) : F_Mod_pops (nI 4) V = some (nI 0, V) := by
  unfold F_Mod_pops
  rw [if_neg (by decide), if_neg (by decide), if_neg (by decide), if_pos (by decide), F_Mod_pops_33, if_neg (by decide), if_neg (by decide), if_neg (by decide), if_neg (by decide), if_neg (by decide), if_neg (by decide), if_neg (by decide), if_pos (by decide)]
  rfl
theorem uD_4 (V : gx_M) : F_Mod_pushes (nI 4) V = some (nI 0, V) := by
  unfold F_Mod_pushes
  rw [if_neg (by decide), if_neg (by decide), if_neg (by decide), if_neg (by decide), if_pos (by decide), F_Mod_pushes_35, if_neg (by decide), if_pos (by decide), F_Mod_pushes_53, if_neg (by decide)]
  rfl
theorem kD_4 (V : gx_M) : F_Mod_cost 0 (nI 4) V = some (nI 1, V) := by
  unfold F_Mod_cost
  rw [if_neg (by decide), if_neg (by decide), if_neg (by decide), if_neg (by decide), if_neg (by decide), if_neg (by decide), if_neg (by decide), if_neg (by decide), if_neg (by decide), if_neg (by decide), if_neg (by decide), if_neg (by decide), if_neg (by decide), if_neg (by decide), if_neg (by decide)]
  rfl
theorem nD_5 (a : Int32) (V : gx_M) : F_Mac_needsOf (nI 5) a V = some (nI 2, V) := by
  unfold F_Mac_needsOf
  rw [if_neg (by decide), if_neg (by decide), ib_t (by decide) (by decide), nI_clamp (by decide)]
  rfl
theorem oD_5 (V : gx_M) : F_Mac_onlyPushes (nI 5) V = some ((0 : Int32), V) := by
  unfold F_Mac_onlyPushes
  rw [if_neg (by decide), if_neg (by decide), if_pos (by decide)]
theorem rD_5 (c : Nat) (V : gx_M) : F_Mac_priceOf 1 c (nI 5) V = some (nI 1, V) := by
  unfold F_Mac_priceOf
  rw [ib_t (by decide) (by decide), if_neg (by decide), if_neg (by decide), if_neg (by decide), nI_clamp (by decide)]
  rfl
theorem pD_5 (V : gx_M) : F_Mod_pops (nI 5) V = some (nI 2, V) := by
  unfold F_Mod_pops
  rw [if_neg (by decide), if_neg (by decide), if_neg (by decide), if_neg (by decide), if_pos (by decide)]
  rfl
theorem uD_5 (V : gx_M) : F_Mod_pushes (nI 5) V = some (nI 1, V) := by
  unfold F_Mod_pushes
  rw [if_neg (by decide), if_neg (by decide), if_neg (by decide), if_neg (by decide), if_neg (by decide), if_pos (by decide)]
  rfl
theorem kD_5 (V : gx_M) : F_Mod_cost 0 (nI 5) V = some (nI 1, V) := by
  unfold F_Mod_cost
  rw [if_neg (by decide), if_neg (by decide), if_neg (by decide), if_neg (by decide), if_neg (by decide), if_neg (by decide), if_neg (by decide), if_neg (by decide), if_neg (by decide), if_neg (by decide), if_neg (by decide), if_neg (by decide), if_neg (by decide), if_neg (by decide), if_neg (by decide)]
  rfl
theorem nD_6 (a : Int32) (V : gx_M) : F_Mac_needsOf (nI 6) a V = some (nI 2, V) := by
  unfold F_Mac_needsOf
  rw [if_neg (by decide), if_neg (by decide), ib_t (by decide) (by decide), nI_clamp (by decide)]
  rfl
theorem oD_6 (V : gx_M) : F_Mac_onlyPushes (nI 6) V = some ((0 : Int32), V) := by
  unfold F_Mac_onlyPushes
  rw [if_neg (by decide), if_neg (by decide), if_pos (by decide)]
theorem rD_6 (c : Nat) (V : gx_M) : F_Mac_priceOf 1 c (nI 6) V = some (nI 1, V) := by
  unfold F_Mac_priceOf
  rw [ib_t (by decide) (by decide), if_neg (by decide), if_neg (by decide), if_neg (by decide), nI_clamp (by decide)]
  rfl
theorem pD_6 (V : gx_M) : F_Mod_pops (nI 6) V = some (nI 2, V) := by
  unfold F_Mod_pops
  rw [if_neg (by decide), if_neg (by decide), if_neg (by decide), if_neg (by decide), if_pos (by decide)]
  rfl
theorem uD_6 (V : gx_M) : F_Mod_pushes (nI 6) V = some (nI 1, V) := by
  unfold F_Mod_pushes
  rw [if_neg (by decide), if_neg (by decide), if_neg (by decide), if_neg (by decide), if_neg (by decide), if_pos (by decide)]
  rfl
theorem kD_6 (V : gx_M) : F_Mod_cost 0 (nI 6) V = some (nI 1, V) := by
  unfold F_Mod_cost
  rw [if_neg (by decide), if_neg (by decide), if_neg (by decide), if_neg (by decide), if_neg (by decide), if_neg (by decide), if_neg (by decide), if_neg (by decide), if_neg (by decide), if_neg (by decide), if_neg (by decide), if_neg (by decide), if_neg (by decide), if_neg (by decide), if_neg (by decide)]
  rfl
theorem nD_7 (a : Int32) (V : gx_M) : F_Mac_needsOf (nI 7) a V = some (nI 2, V) := by
  unfold F_Mac_needsOf
  rw [if_neg (by decide), if_neg (by decide), ib_t (by decide) (by decide), nI_clamp (by decide)]
  rfl
theorem oD_7 (V : gx_M) : F_Mac_onlyPushes (nI 7) V = some ((0 : Int32), V) := by
  unfold F_Mac_onlyPushes
  rw [if_neg (by decide), if_neg (by decide), if_pos (by decide)]
theorem rD_7 (c : Nat) (V : gx_M) : F_Mac_priceOf 1 c (nI 7) V = some (nI 2, V) := by
  unfold F_Mac_priceOf
  rw [ib_t (by decide) (by decide), if_neg (by decide), if_neg (by decide), if_neg (by decide), nI_clamp (by decide)]
  rfl
theorem pD_7 (V : gx_M) : F_Mod_pops (nI 7) V = some (nI 2, V) := by
  unfold F_Mod_pops
  rw [if_neg (by decide), if_neg (by decide), if_neg (by decide), if_neg (by decide), if_pos (by decide)]
  rfl
theorem uD_7 (V : gx_M) : F_Mod_pushes (nI 7) V = some (nI 1, V) := by
  unfold F_Mod_pushes
  rw [if_neg (by decide), if_neg (by decide), if_neg (by decide), if_neg (by decide), if_neg (by decide), if_pos (by decide)]
  rfl
theorem kD_7 (V : gx_M) : F_Mod_cost 0 (nI 7) V = some (nI 2, V) := by
  unfold F_Mod_cost
  rw [if_neg (by decide), if_neg (by decide), if_neg (by decide), if_neg (by decide), if_neg (by decide), if_neg (by decide), if_pos (by decide)]
  rfl
theorem nD_8 (a : Int32) (V : gx_M) : F_Mac_needsOf (nI 8) a V = some (nI 2, V) := by
  unfold F_Mac_needsOf
  rw [if_neg (by decide), if_neg (by decide), ib_t (by decide) (by decide), nI_clamp (by decide)]
  rfl
theorem oD_8 (V : gx_M) : F_Mac_onlyPushes (nI 8) V = some ((0 : Int32), V) := by
  unfold F_Mac_onlyPushes
  rw [if_neg (by decide), if_neg (by decide), if_pos (by decide)]
theorem rD_8 (c : Nat) (V : gx_M) : F_Mac_priceOf 1 c (nI 8) V = some (nI 2, V) := by
  unfold F_Mac_priceOf
  rw [ib_t (by decide) (by decide), if_neg (by decide), if_neg (by decide), if_neg (by decide), nI_clamp (by decide)]
  rfl
theorem pD_8 (V : gx_M) : F_Mod_pops (nI 8) V = some (nI 2, V) := by
  unfold F_Mod_pops
  rw [if_neg (by decide), if_neg (by decide), if_neg (by decide), if_neg (by decide), if_pos (by decide)]
  rfl
theorem uD_8 (V : gx_M) : F_Mod_pushes (nI 8) V = some (nI 1, V) := by
  unfold F_Mod_pushes
  rw [if_neg (by decide), if_neg (by decide), if_neg (by decide), if_neg (by decide), if_neg (by decide), if_pos (by decide)]
  rfl
theorem kD_8 (V : gx_M) : F_Mod_cost 0 (nI 8) V = some (nI 2, V) := by
  unfold F_Mod_cost
  rw [if_neg (by decide), if_neg (by decide), if_neg (by decide), if_neg (by decide), if_neg (by decide), if_neg (by decide), if_neg (by decide), if_pos (by decide)]
  rfl
theorem nD_9 (a : Int32) (V : gx_M) : F_Mac_needsOf (nI 9) a V = some (nI 2, V) := by
  unfold F_Mac_needsOf
  rw [if_neg (by decide), if_neg (by decide), ib_t (by decide) (by decide), nI_clamp (by decide)]
  rfl
theorem oD_9 (V : gx_M) : F_Mac_onlyPushes (nI 9) V = some ((0 : Int32), V) := by
  unfold F_Mac_onlyPushes
  rw [if_neg (by decide), if_neg (by decide), if_pos (by decide)]
theorem rD_9 (c : Nat) (V : gx_M) : F_Mac_priceOf 1 c (nI 9) V = some (nI 1, V) := by
  unfold F_Mac_priceOf
  rw [ib_t (by decide) (by decide), if_neg (by decide), if_neg (by decide), if_neg (by decide), nI_clamp (by decide)]
  rfl
theorem pD_9 (V : gx_M) : F_Mod_pops (nI 9) V = some (nI 2, V) := by
  unfold F_Mod_pops
  rw [if_neg (by decide), if_neg (by decide), if_neg (by decide), if_neg (by decide), if_pos (by decide)]
  rfl
theorem uD_9 (V : gx_M) : F_Mod_pushes (nI 9) V = some (nI 1, V) := by
  unfold F_Mod_pushes
  rw [if_neg (by decide), if_neg (by decide), if_neg (by decide), if_neg (by decide), if_neg (by decide), if_pos (by decide)]
  rfl
theorem kD_9 (V : gx_M) : F_Mod_cost 0 (nI 9) V = some (nI 1, V) := by
  unfold F_Mod_cost
  rw [if_neg (by decide), if_neg (by decide), if_neg (by decide), if_neg (by decide), if_neg (by decide), if_neg (by decide), if_neg (by decide), if_neg (by decide), if_neg (by decide), if_neg (by decide), if_neg (by decide), if_neg (by decide), if_neg (by decide), if_neg (by decide), if_neg (by decide)]
  rfl
theorem nD_10 (a : Int32) (V : gx_M) : F_Mac_needsOf (nI 10) a V = some (nI 2, V) := by
  unfold F_Mac_needsOf
  rw [if_neg (by decide), if_neg (by decide), ib_t (by decide) (by decide), nI_clamp (by decide)]
  rfl
theorem oD_10 (V : gx_M) : F_Mac_onlyPushes (nI 10) V = some ((0 : Int32), V) := by
  unfold F_Mac_onlyPushes
  rw [if_neg (by decide), if_neg (by decide), if_pos (by decide)]
theorem rD_10 (c : Nat) (V : gx_M) : F_Mac_priceOf 1 c (nI 10) V = some (nI 1, V) := by
  unfold F_Mac_priceOf
  rw [ib_t (by decide) (by decide), if_neg (by decide), if_neg (by decide), if_neg (by decide), nI_clamp (by decide)]
  rfl
theorem pD_10 (V : gx_M) : F_Mod_pops (nI 10) V = some (nI 2, V) := by
  unfold F_Mod_pops
  rw [if_neg (by decide), if_neg (by decide), if_neg (by decide), if_neg (by decide), if_pos (by decide)]
  rfl
theorem uD_10 (V : gx_M) : F_Mod_pushes (nI 10) V = some (nI 1, V) := by
  unfold F_Mod_pushes
  rw [if_neg (by decide), if_neg (by decide), if_neg (by decide), if_neg (by decide), if_neg (by decide), if_pos (by decide)]
  rfl
theorem kD_10 (V : gx_M) : F_Mod_cost 0 (nI 10) V = some (nI 1, V) := by
  unfold F_Mod_cost
  rw [if_neg (by decide), if_neg (by decide), if_neg (by decide), if_neg (by decide), if_neg (by decide), if_neg (by decide), if_neg (by decide), if_neg (by decide), if_neg (by decide), if_neg (by decide), if_neg (by decide), if_neg (by decide), if_neg (by decide), if_neg (by decide), if_neg (by decide)]
  rfl
theorem nD_11 (a : Int32) (V : gx_M) : F_Mac_needsOf (nI 11) a V = some (nI 1, V) := by
  unfold F_Mac_needsOf
  rw [if_neg (by decide), if_neg (by decide), ib_t (by decide) (by decide), nI_clamp (by decide)]
  rfl
theorem oD_11 (V : gx_M) : F_Mac_onlyPushes (nI 11) V = some ((0 : Int32), V) := by
  unfold F_Mac_onlyPushes
  rw [if_neg (by decide), if_neg (by decide), if_pos (by decide)]
theorem rD_11 (c : Nat) (V : gx_M) : F_Mac_priceOf 1 c (nI 11) V = some (nI 1, V) := by
  unfold F_Mac_priceOf
  rw [ib_t (by decide) (by decide), if_neg (by decide), if_neg (by decide), if_neg (by decide), nI_clamp (by decide)]
  rfl
theorem pD_11 (V : gx_M) : F_Mod_pops (nI 11) V = some (nI 1, V) := by
  unfold F_Mod_pops
  rw [if_neg (by decide), if_neg (by decide), if_neg (by decide), if_neg (by decide), if_neg (by decide), F_Mod_pops_33, if_neg (by decide), if_neg (by decide), if_neg (by decide), if_pos (by decide)]
  rfl
theorem uD_11 (V : gx_M) : F_Mod_pushes (nI 11) V = some (nI 1, V) := by
  unfold F_Mod_pushes
  rw [if_neg (by decide), if_neg (by decide), if_neg (by decide), if_neg (by decide), if_neg (by decide), if_pos (by decide)]
  rfl
theorem kD_11 (V : gx_M) : F_Mod_cost 0 (nI 11) V = some (nI 1, V) := by
  unfold F_Mod_cost
  rw [if_neg (by decide), if_neg (by decide), if_neg (by decide), if_neg (by decide), if_neg (by decide), if_neg (by decide), if_neg (by decide), if_neg (by decide), if_neg (by decide), if_neg (by decide), if_neg (by decide), if_neg (by decide), if_neg (by decide), if_neg (by decide), if_neg (by decide)]
  rfl
theorem nD_12 (a : Int32) (V : gx_M) : F_Mac_needsOf (nI 12) a V = some (nI 1, V) := by
  unfold F_Mac_needsOf
  rw [if_neg (by decide), if_neg (by decide), ib_t (by decide) (by decide), nI_clamp (by decide)]
  rfl
theorem oD_12 (V : gx_M) : F_Mac_onlyPushes (nI 12) V = some ((0 : Int32), V) := by
  unfold F_Mac_onlyPushes
  rw [if_neg (by decide), if_neg (by decide), if_pos (by decide)]
theorem rD_12 (c : Nat) (V : gx_M) : F_Mac_priceOf 1 c (nI 12) V = some (nI 3, V) := by
  unfold F_Mac_priceOf
  rw [ib_t (by decide) (by decide), if_neg (by decide), if_neg (by decide), if_neg (by decide), nI_clamp (by decide)]
  rfl
theorem pD_12 (V : gx_M) : F_Mod_pops (nI 12) V = some (nI 1, V) := by
  unfold F_Mod_pops
  rw [if_neg (by decide), if_neg (by decide), if_neg (by decide), if_neg (by decide), if_neg (by decide), F_Mod_pops_33, if_neg (by decide), if_neg (by decide), if_neg (by decide), if_neg (by decide), if_pos (by decide)]
  rfl
theorem uD_12 (V : gx_M) : F_Mod_pushes (nI 12) V = some (nI 0, V) := by
  unfold F_Mod_pushes
  rw [if_neg (by decide), if_neg (by decide), if_neg (by decide), if_neg (by decide), if_neg (by decide), if_neg (by decide), F_Mod_pushes_35, if_neg (by decide), if_pos (by decide), F_Mod_pushes_53, if_neg (by decide)]
  rfl
theorem kD_12 (V : gx_M) : F_Mod_cost 0 (nI 12) V = some (nI 3, V) := by
  unfold F_Mod_cost
  rw [if_neg (by decide), if_neg (by decide), if_neg (by decide), if_neg (by decide), if_neg (by decide), if_neg (by decide), if_neg (by decide), if_neg (by decide), if_pos (by decide)]
  rfl
theorem nD_13 (a : Int32) (V : gx_M) : F_Mac_needsOf (nI 13) a V = some (nI 2, V) := by
  unfold F_Mac_needsOf
  rw [if_neg (by decide), if_neg (by decide), ib_t (by decide) (by decide), nI_clamp (by decide)]
  rfl
theorem oD_13 (V : gx_M) : F_Mac_onlyPushes (nI 13) V = some ((0 : Int32), V) := by
  unfold F_Mac_onlyPushes
  rw [if_neg (by decide), if_neg (by decide), if_pos (by decide)]
theorem rD_13 (c : Nat) (V : gx_M) : F_Mac_priceOf 1 c (nI 13) V = some (nI 4, V) := by
  unfold F_Mac_priceOf
  rw [ib_t (by decide) (by decide), if_neg (by decide), if_neg (by decide), if_neg (by decide), nI_clamp (by decide)]
  rfl
theorem pD_13 (V : gx_M) : F_Mod_pops (nI 13) V = some (nI 2, V) := by
  unfold F_Mod_pops
  rw [if_neg (by decide), if_neg (by decide), if_neg (by decide), if_neg (by decide), if_neg (by decide), F_Mod_pops_33, if_pos (by decide)]
  rfl
theorem uD_13 (V : gx_M) : F_Mod_pushes (nI 13) V = some (nI 0, V) := by
  unfold F_Mod_pushes
  rw [if_neg (by decide), if_neg (by decide), if_neg (by decide), if_neg (by decide), if_neg (by decide), if_neg (by decide), F_Mod_pushes_35, if_neg (by decide), if_pos (by decide), F_Mod_pushes_53, if_neg (by decide)]
  rfl
theorem kD_13 (V : gx_M) : F_Mod_cost 0 (nI 13) V = some (nI 4, V) := by
  unfold F_Mod_cost
  rw [if_neg (by decide), if_neg (by decide), if_neg (by decide), if_neg (by decide), if_neg (by decide), if_neg (by decide), if_neg (by decide), if_neg (by decide), if_neg (by decide), if_pos (by decide)]
  rfl
theorem nD_14 (a : Int32) (V : gx_M) : F_Mac_needsOf (nI 14) a V = some (nI 1, V) := by
  unfold F_Mac_needsOf
  rw [if_neg (by decide), if_neg (by decide), ib_t (by decide) (by decide), nI_clamp (by decide)]
  rfl
theorem oD_14 (V : gx_M) : F_Mac_onlyPushes (nI 14) V = some ((0 : Int32), V) := by
  unfold F_Mac_onlyPushes
  rw [if_neg (by decide), if_neg (by decide), if_pos (by decide)]
theorem rD_14 (c : Nat) (V : gx_M) : F_Mac_priceOf 1 c (nI 14) V = some (nI 10, V) := by
  unfold F_Mac_priceOf
  rw [ib_t (by decide) (by decide), if_neg (by decide), if_neg (by decide), if_neg (by decide), nI_clamp (by decide)]
  rfl
theorem pD_14 (V : gx_M) : F_Mod_pops (nI 14) V = some (nI 1, V) := by
  unfold F_Mod_pops
  rw [if_neg (by decide), if_neg (by decide), if_neg (by decide), if_neg (by decide), if_neg (by decide), F_Mod_pops_33, if_neg (by decide), if_neg (by decide), if_neg (by decide), if_neg (by decide), if_neg (by decide), if_pos (by decide)]
  rfl
theorem uD_14 (V : gx_M) : F_Mod_pushes (nI 14) V = some (nI 1, V) := by
  unfold F_Mod_pushes
  rw [if_neg (by decide), if_neg (by decide), if_neg (by decide), if_neg (by decide), if_neg (by decide), if_neg (by decide), F_Mod_pushes_35, if_pos (by decide)]
  rfl
theorem kD_14 (V : gx_M) : F_Mod_cost 0 (nI 14) V = some (nI 10, V) := by
  unfold F_Mod_cost
  rw [if_neg (by decide), if_neg (by decide), if_neg (by decide), if_neg (by decide), if_neg (by decide), if_neg (by decide), if_neg (by decide), if_neg (by decide), if_neg (by decide), if_neg (by decide), if_pos (by decide)]
  rfl
theorem nD_15 (a : Int32) (V : gx_M) : F_Mac_needsOf (nI 15) a V = some (nI 2, V) := by
  unfold F_Mac_needsOf
  rw [if_neg (by decide), if_neg (by decide), ib_t (by decide) (by decide), nI_clamp (by decide)]
  rfl
theorem oD_15 (V : gx_M) : F_Mac_onlyPushes (nI 15) V = some ((0 : Int32), V) := by
  unfold F_Mac_onlyPushes
  rw [if_neg (by decide), if_neg (by decide), if_pos (by decide)]
theorem pD_15 (V : gx_M) : F_Mod_pops (nI 15) V = some (nI 2, V) := by
  unfold F_Mod_pops
  rw [if_neg (by decide), if_neg (by decide), if_neg (by decide), if_neg (by decide), if_neg (by decide), F_Mod_pops_33, if_neg (by decide), if_pos (by decide)]
  rfl
theorem uD_15 (V : gx_M) : F_Mod_pushes (nI 15) V = some (nI 0, V) := by
  unfold F_Mod_pushes
  rw [if_neg (by decide), if_neg (by decide), if_neg (by decide), if_neg (by decide), if_neg (by decide), if_neg (by decide), F_Mod_pushes_35, if_neg (by decide), if_pos (by decide), F_Mod_pushes_53, if_neg (by decide)]
  rfl
theorem nD_16 (a : Int32) (V : gx_M) : F_Mac_needsOf (nI 16) a V = some (nI 1, V) := by
  unfold F_Mac_needsOf
  rw [if_neg (by decide), if_neg (by decide), ib_t (by decide) (by decide), nI_clamp (by decide)]
  rfl
theorem oD_16 (V : gx_M) : F_Mac_onlyPushes (nI 16) V = some ((0 : Int32), V) := by
  unfold F_Mac_onlyPushes
  rw [if_neg (by decide), if_neg (by decide), if_pos (by decide)]
theorem rD_16 (c : Nat) (V : gx_M) : F_Mac_priceOf 1 c (nI 16) V = some (nI 10, V) := by
  unfold F_Mac_priceOf
  rw [ib_t (by decide) (by decide), if_neg (by decide), if_neg (by decide), if_neg (by decide), nI_clamp (by decide)]
  rfl
theorem pD_16 (V : gx_M) : F_Mod_pops (nI 16) V = some (nI 1, V) := by
  unfold F_Mod_pops
  rw [if_neg (by decide), if_neg (by decide), if_neg (by decide), if_neg (by decide), if_neg (by decide), F_Mod_pops_33, if_neg (by decide), if_neg (by decide), if_neg (by decide), if_neg (by decide), if_neg (by decide), if_neg (by decide), if_pos (by decide)]
  rfl
theorem uD_16 (V : gx_M) : F_Mod_pushes (nI 16) V = some (nI 1, V) := by
  unfold F_Mod_pushes
  rw [if_neg (by decide), if_neg (by decide), if_neg (by decide), if_neg (by decide), if_neg (by decide), if_neg (by decide), F_Mod_pushes_35, if_neg (by decide), if_neg (by decide), if_pos (by decide)]
  rfl
theorem kD_16 (V : gx_M) : F_Mod_cost 0 (nI 16) V = some (nI 10, V) := by
  unfold F_Mod_cost
  rw [if_neg (by decide), if_neg (by decide), if_neg (by decide), if_neg (by decide), if_neg (by decide), if_neg (by decide), if_neg (by decide), if_neg (by decide), if_neg (by decide), if_neg (by decide), if_neg (by decide), if_pos (by decide)]
  rfl
theorem nD_17 (a : Int32) (V : gx_M) : F_Mac_needsOf (nI 17) a V = some (nI 0, V) := by
  unfold F_Mac_needsOf
  rw [if_neg (by decide), if_neg (by decide), ib_t (by decide) (by decide), nI_clamp (by decide)]
  rfl
theorem oD_17 (V : gx_M) : F_Mac_onlyPushes (nI 17) V = some ((1 : Int32), V) := by
  unfold F_Mac_onlyPushes
  rw [if_neg (by decide), if_neg (by decide), if_neg (by decide), if_neg (by decide)]
theorem rD_17 (c : Nat) (V : gx_M) : F_Mac_priceOf 1 c (nI 17) V = some (nI 1, V) := by
  unfold F_Mac_priceOf
  rw [ib_t (by decide) (by decide), if_neg (by decide), if_neg (by decide), if_neg (by decide), nI_clamp (by decide)]
  rfl
theorem pD_17 (V : gx_M) : F_Mod_pops (nI 17) V = some (nI 0, V) := by
  unfold F_Mod_pops
  rw [if_neg (by decide), if_neg (by decide), if_neg (by decide), if_neg (by decide), if_neg (by decide), F_Mod_pops_33, if_neg (by decide), if_neg (by decide), if_neg (by decide), if_neg (by decide), if_neg (by decide), if_neg (by decide), if_neg (by decide), if_pos (by decide)]
  rfl
theorem uD_17 (V : gx_M) : F_Mod_pushes (nI 17) V = some (nI 1, V) := by
  unfold F_Mod_pushes
  rw [if_neg (by decide), if_neg (by decide), if_neg (by decide), if_neg (by decide), if_neg (by decide), if_neg (by decide), F_Mod_pushes_35, if_neg (by decide), if_neg (by decide), if_pos (by decide)]
  rfl
theorem kD_17 (V : gx_M) : F_Mod_cost 0 (nI 17) V = some (nI 1, V) := by
  unfold F_Mod_cost
  rw [if_neg (by decide), if_neg (by decide), if_neg (by decide), if_neg (by decide), if_neg (by decide), if_neg (by decide), if_neg (by decide), if_neg (by decide), if_neg (by decide), if_neg (by decide), if_neg (by decide), if_neg (by decide), if_neg (by decide), if_neg (by decide), if_neg (by decide)]
  rfl
theorem nD_18 (a : Int32) (V : gx_M) : F_Mac_needsOf (nI 18) a V = some (nI 0, V) := by
  unfold F_Mac_needsOf
  rw [if_neg (by decide), if_neg (by decide), ib_t (by decide) (by decide), nI_clamp (by decide)]
  rfl
theorem oD_18 (V : gx_M) : F_Mac_onlyPushes (nI 18) V = some ((1 : Int32), V) := by
  unfold F_Mac_onlyPushes
  rw [if_neg (by decide), if_neg (by decide), if_neg (by decide), if_neg (by decide)]
theorem rD_18 (c : Nat) (V : gx_M) : F_Mac_priceOf 1 c (nI 18) V = some (nI 1, V) := by
  unfold F_Mac_priceOf
  rw [ib_t (by decide) (by decide), if_neg (by decide), if_neg (by decide), if_neg (by decide), nI_clamp (by decide)]
  rfl
theorem pD_18 (V : gx_M) : F_Mod_pops (nI 18) V = some (nI 0, V) := by
  unfold F_Mod_pops
  rw [if_neg (by decide), if_neg (by decide), if_neg (by decide), if_neg (by decide), if_neg (by decide), F_Mod_pops_33, if_neg (by decide), if_neg (by decide), if_neg (by decide), if_neg (by decide), if_neg (by decide), if_neg (by decide), if_neg (by decide), if_pos (by decide)]
  rfl
theorem uD_18 (V : gx_M) : F_Mod_pushes (nI 18) V = some (nI 1, V) := by
  unfold F_Mod_pushes
  rw [if_neg (by decide), if_neg (by decide), if_neg (by decide), if_neg (by decide), if_neg (by decide), if_neg (by decide), F_Mod_pushes_35, if_neg (by decide), if_neg (by decide), if_pos (by decide)]
  rfl
theorem kD_18 (V : gx_M) : F_Mod_cost 0 (nI 18) V = some (nI 1, V) := by
  unfold F_Mod_cost
  rw [if_neg (by decide), if_neg (by decide), if_neg (by decide), if_neg (by decide), if_neg (by decide), if_neg (by decide), if_neg (by decide), if_neg (by decide), if_neg (by decide), if_neg (by decide), if_neg (by decide), if_neg (by decide), if_neg (by decide), if_neg (by decide), if_neg (by decide)]
  rfl
theorem nD_19 (a : Int32) (V : gx_M) : F_Mac_needsOf (nI 19) a V = some (nI 0, V) := by
  unfold F_Mac_needsOf
  rw [if_neg (by decide), if_neg (by decide), ib_t (by decide) (by decide), nI_clamp (by decide)]
  rfl
theorem oD_19 (V : gx_M) : F_Mac_onlyPushes (nI 19) V = some ((1 : Int32), V) := by
  unfold F_Mac_onlyPushes
  rw [if_neg (by decide), if_neg (by decide), if_neg (by decide), if_neg (by decide)]
theorem rD_19 (c : Nat) (V : gx_M) : F_Mac_priceOf 1 c (nI 19) V = some (nI 1, V) := by
  unfold F_Mac_priceOf
  rw [ib_t (by decide) (by decide), if_neg (by decide), if_neg (by decide), if_neg (by decide), nI_clamp (by decide)]
  rfl
theorem pD_19 (V : gx_M) : F_Mod_pops (nI 19) V = some (nI 0, V) := by
  unfold F_Mod_pops
  rw [if_neg (by decide), if_neg (by decide), if_neg (by decide), if_neg (by decide), if_neg (by decide), F_Mod_pops_33, if_neg (by decide), if_neg (by decide), if_neg (by decide), if_neg (by decide), if_neg (by decide), if_neg (by decide), if_neg (by decide), if_pos (by decide)]
  rfl
theorem uD_19 (V : gx_M) : F_Mod_pushes (nI 19) V = some (nI 1, V) := by
  unfold F_Mod_pushes
  rw [if_neg (by decide), if_neg (by decide), if_neg (by decide), if_neg (by decide), if_neg (by decide), if_neg (by decide), F_Mod_pushes_35, if_neg (by decide), if_neg (by decide), if_pos (by decide)]
  rfl
theorem kD_19 (V : gx_M) : F_Mod_cost 0 (nI 19) V = some (nI 1, V) := by
  unfold F_Mod_cost
  rw [if_neg (by decide), if_neg (by decide), if_neg (by decide), if_neg (by decide), if_neg (by decide), if_neg (by decide), if_neg (by decide), if_neg (by decide), if_neg (by decide), if_neg (by decide), if_neg (by decide), if_neg (by decide), if_neg (by decide), if_neg (by decide), if_neg (by decide)]
  rfl
theorem nD_20 (a : Int32) (V : gx_M) : F_Mac_needsOf (nI 20) a V = some (nI 0, V) := by
  unfold F_Mac_needsOf
  rw [if_neg (by decide), if_neg (by decide), ib_t (by decide) (by decide), nI_clamp (by decide)]
  rfl
theorem oD_20 (V : gx_M) : F_Mac_onlyPushes (nI 20) V = some ((1 : Int32), V) := by
  unfold F_Mac_onlyPushes
  rw [if_neg (by decide), if_neg (by decide), if_neg (by decide), if_neg (by decide)]
theorem rD_20 (c : Nat) (V : gx_M) : F_Mac_priceOf 1 c (nI 20) V = some (nI 1, V) := by
  unfold F_Mac_priceOf
  rw [ib_t (by decide) (by decide), if_neg (by decide), if_neg (by decide), if_neg (by decide), nI_clamp (by decide)]
  rfl
theorem pD_20 (V : gx_M) : F_Mod_pops (nI 20) V = some (nI 0, V) := by
  unfold F_Mod_pops
  rw [if_neg (by decide), if_neg (by decide), if_neg (by decide), if_neg (by decide), if_neg (by decide), F_Mod_pops_33, if_neg (by decide), if_neg (by decide), if_neg (by decide), if_neg (by decide), if_neg (by decide), if_neg (by decide), if_neg (by decide), if_pos (by decide)]
  rfl
theorem uD_20 (V : gx_M) : F_Mod_pushes (nI 20) V = some (nI 1, V) := by
  unfold F_Mod_pushes
  rw [if_neg (by decide), if_neg (by decide), if_neg (by decide), if_neg (by decide), if_neg (by decide), if_neg (by decide), F_Mod_pushes_35, if_neg (by decide), if_neg (by decide), if_pos (by decide)]
  rfl
theorem kD_20 (V : gx_M) : F_Mod_cost 0 (nI 20) V = some (nI 1, V) := by
  unfold F_Mod_cost
  rw [if_neg (by decide), if_neg (by decide), if_neg (by decide), if_neg (by decide), if_neg (by decide), if_neg (by decide), if_neg (by decide), if_neg (by decide), if_neg (by decide), if_neg (by decide), if_neg (by decide), if_neg (by decide), if_neg (by decide), if_neg (by decide), if_neg (by decide)]
  rfl
theorem nD_21 (a : Int32) (V : gx_M) : F_Mac_needsOf (nI 21) a V = some (nI 0, V) := by
  unfold F_Mac_needsOf
  rw [if_neg (by decide), if_neg (by decide), ib_t (by decide) (by decide), nI_clamp (by decide)]
  rfl
theorem oD_21 (V : gx_M) : F_Mac_onlyPushes (nI 21) V = some ((1 : Int32), V) := by
  unfold F_Mac_onlyPushes
  rw [if_neg (by decide), if_neg (by decide), if_neg (by decide), if_neg (by decide)]
theorem rD_21 (c : Nat) (V : gx_M) : F_Mac_priceOf 1 c (nI 21) V = some (nI 1, V) := by
  unfold F_Mac_priceOf
  rw [ib_t (by decide) (by decide), if_neg (by decide), if_neg (by decide), if_neg (by decide), nI_clamp (by decide)]
  rfl
theorem pD_21 (V : gx_M) : F_Mod_pops (nI 21) V = some (nI 0, V) := by
  unfold F_Mod_pops
  rw [if_neg (by decide), if_neg (by decide), if_neg (by decide), if_neg (by decide), if_neg (by decide), F_Mod_pops_33, if_neg (by decide), if_neg (by decide), if_neg (by decide), if_neg (by decide), if_neg (by decide), if_neg (by decide), if_neg (by decide), if_pos (by decide)]
  rfl
theorem uD_21 (V : gx_M) : F_Mod_pushes (nI 21) V = some (nI 1, V) := by
  unfold F_Mod_pushes
  rw [if_neg (by decide), if_neg (by decide), if_neg (by decide), if_neg (by decide), if_neg (by decide), if_neg (by decide), F_Mod_pushes_35, if_neg (by decide), if_neg (by decide), if_pos (by decide)]
  rfl
theorem kD_21 (V : gx_M) : F_Mod_cost 0 (nI 21) V = some (nI 1, V) := by
  unfold F_Mod_cost
  rw [if_neg (by decide), if_neg (by decide), if_neg (by decide), if_neg (by decide), if_neg (by decide), if_neg (by decide), if_neg (by decide), if_neg (by decide), if_neg (by decide), if_neg (by decide), if_neg (by decide), if_neg (by decide), if_neg (by decide), if_neg (by decide), if_neg (by decide)]
  rfl
theorem nD_22 (a : Int32) (V : gx_M) : F_Mac_needsOf (nI 22) a V = some (nI 4, V) := by
  unfold F_Mac_needsOf
  rw [if_neg (by decide), if_neg (by decide), ib_t (by decide) (by decide), nI_clamp (by decide)]
  rfl
theorem oD_22 (V : gx_M) : F_Mac_onlyPushes (nI 22) V = some ((0 : Int32), V) := by
  unfold F_Mac_onlyPushes
  rw [if_neg (by decide), if_neg (by decide), if_neg (by decide), if_pos (by decide)]
theorem pD_22 (V : gx_M) : F_Mod_pops (nI 22) V = some (nI 4, V) := by
  unfold F_Mod_pops
  rw [if_pos (by decide)]
  rfl
theorem uD_22 (V : gx_M) : F_Mod_pushes (nI 22) V = some (nI 2, V) := by
  unfold F_Mod_pushes
  rw [if_pos (by decide)]
  rfl
theorem nD_23 (a : Int32) (V : gx_M) : F_Mac_needsOf (nI 23) a V = some (nI 3, V) := by
  unfold F_Mac_needsOf
  rw [if_neg (by decide), if_neg (by decide), ib_t (by decide) (by decide), nI_clamp (by decide)]
  rfl
theorem oD_23 (V : gx_M) : F_Mac_onlyPushes (nI 23) V = some ((0 : Int32), V) := by
  unfold F_Mac_onlyPushes
  rw [if_neg (by decide), if_neg (by decide), if_neg (by decide), if_pos (by decide)]
theorem rD_23 (c : Nat) (V : gx_M) : F_Mac_priceOf 1 c (nI 23) V = some (nI 30, V) := by
  unfold F_Mac_priceOf
  rw [ib_t (by decide) (by decide), if_neg (by decide), if_neg (by decide), if_neg (by decide), nI_clamp (by decide)]
  rfl
theorem pD_23 (V : gx_M) : F_Mod_pops (nI 23) V = some (nI 3, V) := by
  unfold F_Mod_pops
  rw [if_neg (by decide), if_pos (by decide)]
  rfl
theorem uD_23 (V : gx_M) : F_Mod_pushes (nI 23) V = some (nI 2, V) := by
  unfold F_Mod_pushes
  rw [if_neg (by decide), if_pos (by decide)]
  rfl
theorem kD_23 (V : gx_M) : F_Mod_cost 0 (nI 23) V = some (nI 30, V) := by
  unfold F_Mod_cost
  rw [if_neg (by decide), if_neg (by decide), if_neg (by decide), if_neg (by decide), if_neg (by decide), if_neg (by decide), if_neg (by decide), if_neg (by decide), if_neg (by decide), if_neg (by decide), if_neg (by decide), if_neg (by decide), if_pos (by decide)]
  rfl
theorem nD_24 (a : Int32) (V : gx_M) : F_Mac_needsOf (nI 24) a V = some (nI 3, V) := by
  unfold F_Mac_needsOf
  rw [if_neg (by decide), if_neg (by decide), ib_t (by decide) (by decide), nI_clamp (by decide)]
  rfl
theorem oD_24 (V : gx_M) : F_Mac_onlyPushes (nI 24) V = some ((0 : Int32), V) := by
  unfold F_Mac_onlyPushes
  rw [if_neg (by decide), if_neg (by decide), if_neg (by decide), if_pos (by decide)]
theorem pD_24 (V : gx_M) : F_Mod_pops (nI 24) V = some (nI 3, V) := by
  unfold F_Mod_pops
  rw [if_neg (by decide), if_neg (by decide), if_pos (by decide)]
  rfl
theorem uD_24 (V : gx_M) : F_Mod_pushes (nI 24) V = some (nI 1, V) := by
  unfold F_Mod_pushes
  rw [if_neg (by decide), if_neg (by decide), if_neg (by decide), if_neg (by decide), if_neg (by decide), if_neg (by decide), F_Mod_pushes_35, if_neg (by decide), if_neg (by decide), if_neg (by decide), F_Mod_pushes_53, if_pos (by decide)]
  rfl
theorem nD_25 (a : Int32) (V : gx_M) : F_Mac_needsOf (nI 25) a V = some (nI 1, V) := by
  unfold F_Mac_needsOf
  rw [if_neg (by decide), if_neg (by decide), ib_t (by decide) (by decide), nI_clamp (by decide)]
  rfl
theorem oD_25 (V : gx_M) : F_Mac_onlyPushes (nI 25) V = some ((0 : Int32), V) := by
  unfold F_Mac_onlyPushes
  rw [if_neg (by decide), if_neg (by decide), if_neg (by decide), if_pos (by decide)]
theorem rD_25 (c : Nat) (V : gx_M) : F_Mac_priceOf 1 c (nI 25) V = some (nI 12, V) := by
  unfold F_Mac_priceOf
  rw [ib_t (by decide) (by decide), if_neg (by decide), if_neg (by decide), if_neg (by decide), nI_clamp (by decide)]
  rfl
theorem pD_25 (V : gx_M) : F_Mod_pops (nI 25) V = some (nI 1, V) := by
  unfold F_Mod_pops
  rw [if_neg (by decide), if_neg (by decide), if_neg (by decide), if_neg (by decide), if_neg (by decide), F_Mod_pops_33, if_neg (by decide), if_neg (by decide), if_neg (by decide), if_neg (by decide), if_neg (by decide), if_neg (by decide), if_neg (by decide), if_neg (by decide)]
  rfl
theorem uD_25 (V : gx_M) : F_Mod_pushes (nI 25) V = some (nI 0, V) := by
  unfold F_Mod_pushes
  rw [if_neg (by decide), if_neg (by decide), if_neg (by decide), if_neg (by decide), if_neg (by decide), if_neg (by decide), F_Mod_pushes_35, if_neg (by decide), if_neg (by decide), if_neg (by decide), F_Mod_pushes_53, if_neg (by decide)]
  rfl
theorem kD_25 (V : gx_M) : F_Mod_cost 0 (nI 25) V = some (nI 12, V) := by
  unfold F_Mod_cost
  rw [if_neg (by decide), if_neg (by decide), if_neg (by decide), if_neg (by decide), if_neg (by decide), if_neg (by decide), if_neg (by decide), if_neg (by decide), if_neg (by decide), if_neg (by decide), if_neg (by decide), if_neg (by decide), if_neg (by decide), if_pos (by decide)]
  rfl
theorem nD_26 (a : Int32) (V : gx_M) : F_Mac_needsOf (nI 26) a V = some (nI 1, V) := by
  unfold F_Mac_needsOf
  rw [if_neg (by decide), if_neg (by decide), ib_t (by decide) (by decide), nI_clamp (by decide)]
  rfl
theorem oD_26 (V : gx_M) : F_Mac_onlyPushes (nI 26) V = some ((0 : Int32), V) := by
  unfold F_Mac_onlyPushes
  rw [if_neg (by decide), if_neg (by decide), if_neg (by decide), if_pos (by decide)]
theorem rD_26 (c : Nat) (V : gx_M) : F_Mac_priceOf 1 c (nI 26) V = some (nI 0, V) := by
  unfold F_Mac_priceOf
  rw [ib_t (by decide) (by decide), if_neg (by decide), if_neg (by decide), if_neg (by decide), nI_clamp (by decide)]
  rfl
theorem pD_26 (V : gx_M) : F_Mod_pops (nI 26) V = some (nI 1, V) := by
  unfold F_Mod_pops
  rw [if_neg (by decide), if_neg (by decide), if_neg (by decide), if_neg (by decide), if_neg (by decide), F_Mod_pops_33, if_neg (by decide), if_neg (by decide), if_neg (by decide), if_neg (by decide), if_neg (by decide), if_neg (by decide), if_neg (by decide), if_neg (by decide)]
  rfl
theorem uD_26 (V : gx_M) : F_Mod_pushes (nI 26) V = some (nI 0, V) := by
  unfold F_Mod_pushes
  rw [if_neg (by decide), if_neg (by decide), if_neg (by decide), if_neg (by decide), if_neg (by decide), if_neg (by decide), F_Mod_pushes_35, if_neg (by decide), if_neg (by decide), if_neg (by decide), F_Mod_pushes_53, if_neg (by decide)]
  rfl
theorem kD_26 (V : gx_M) : F_Mod_cost 0 (nI 26) V = some (nI 0, V) := by
  unfold F_Mod_cost
  rw [if_neg (by decide), if_pos (by decide)]
  rfl
theorem nD_27 (a : Int32) (V : gx_M) : F_Mac_needsOf (nI 27) a V = some (nI 1, V) := by
  unfold F_Mac_needsOf
  rw [if_neg (by decide), if_neg (by decide), ib_t (by decide) (by decide), nI_clamp (by decide)]
  rfl
theorem oD_27 (V : gx_M) : F_Mac_onlyPushes (nI 27) V = some ((0 : Int32), V) := by
  unfold F_Mac_onlyPushes
  rw [if_neg (by decide), if_neg (by decide), if_neg (by decide), if_pos (by decide)]
theorem rD_27 (c : Nat) (V : gx_M) : F_Mac_priceOf 1 c (nI 27) V = some (nI 0, V) := by
  unfold F_Mac_priceOf
  rw [ib_t (by decide) (by decide), if_neg (by decide), if_neg (by decide), if_neg (by decide), nI_clamp (by decide)]
  rfl
theorem pD_27 (V : gx_M) : F_Mod_pops (nI 27) V = some (nI 1, V) := by
  unfold F_Mod_pops
  rw [if_neg (by decide), if_neg (by decide), if_neg (by decide), if_neg (by decide), if_neg (by decide), F_Mod_pops_33, if_neg (by decide), if_neg (by decide), if_neg (by decide), if_neg (by decide), if_neg (by decide), if_neg (by decide), if_neg (by decide), if_neg (by decide)]
  rfl
theorem uD_27 (V : gx_M) : F_Mod_pushes (nI 27) V = some (nI 0, V) := by
  unfold F_Mod_pushes
  rw [if_neg (by decide), if_neg (by decide), if_neg (by decide), if_neg (by decide), if_neg (by decide), if_neg (by decide), F_Mod_pushes_35, if_neg (by decide), if_neg (by decide), if_neg (by decide), F_Mod_pushes_53, if_neg (by decide)]
  rfl
theorem kD_27 (V : gx_M) : F_Mod_cost 0 (nI 27) V = some (nI 0, V) := by
  unfold F_Mod_cost
  rw [if_neg (by decide), if_neg (by decide), if_pos (by decide)]
  rfl
theorem nD_28 (a : Int32) (V : gx_M) : F_Mac_needsOf (nI 28) a V = some (nI 1, V) := by
  unfold F_Mac_needsOf
  rw [if_neg (by decide), if_neg (by decide), ib_t (by decide) (by decide), nI_clamp (by decide)]
  rfl
theorem oD_28 (V : gx_M) : F_Mac_onlyPushes (nI 28) V = some ((0 : Int32), V) := by
  unfold F_Mac_onlyPushes
  rw [if_neg (by decide), if_neg (by decide), if_neg (by decide), if_pos (by decide)]
theorem rD_28 (c : Nat) (V : gx_M) : F_Mac_priceOf 1 c (nI 28) V = some (nI 20, V) := by
  unfold F_Mac_priceOf
  rw [ib_t (by decide) (by decide), if_neg (by decide), if_neg (by decide), if_neg (by decide), nI_clamp (by decide)]
  rfl
theorem pD_28 (V : gx_M) : F_Mod_pops (nI 28) V = some (nI 1, V) := by
  unfold F_Mod_pops
  rw [if_neg (by decide), if_neg (by decide), if_neg (by decide), if_neg (by decide), if_neg (by decide), F_Mod_pops_33, if_neg (by decide), if_neg (by decide), if_neg (by decide), if_neg (by decide), if_neg (by decide), if_neg (by decide), if_neg (by decide), if_neg (by decide)]
  rfl
theorem uD_28 (V : gx_M) : F_Mod_pushes (nI 28) V = some (nI 0, V) := by
  unfold F_Mod_pushes
  rw [if_neg (by decide), if_neg (by decide), if_neg (by decide), if_neg (by decide), if_neg (by decide), if_neg (by decide), F_Mod_pushes_35, if_neg (by decide), if_neg (by decide), if_neg (by decide), F_Mod_pushes_53, if_neg (by decide)]
  rfl
theorem kD_28 (V : gx_M) : F_Mod_cost 0 (nI 28) V = some (nI 20, V) := by
  unfold F_Mod_cost
  rw [if_neg (by decide), if_neg (by decide), if_neg (by decide), if_neg (by decide), if_neg (by decide), if_neg (by decide), if_neg (by decide), if_neg (by decide), if_neg (by decide), if_neg (by decide), if_neg (by decide), if_neg (by decide), if_neg (by decide), if_neg (by decide), if_pos (by decide)]
  rfl
theorem nD_29 (a : Int32) (V : gx_M) : F_Mac_needsOf (nI 29) a V = some (nI 13, V) := by
  unfold F_Mac_needsOf
  rw [if_neg (by decide), if_neg (by decide), ib_t (by decide) (by decide), nI_clamp (by decide)]
  rfl
theorem oD_29 (V : gx_M) : F_Mac_onlyPushes (nI 29) V = some ((0 : Int32), V) := by
  unfold F_Mac_onlyPushes
  rw [if_neg (by decide), if_neg (by decide), if_neg (by decide), if_pos (by decide)]
theorem rD_29 (c : Nat) (V : gx_M) : F_Mac_priceOf 1 c (nI 29) V = some (nI 0, V) := by
  unfold F_Mac_priceOf
  rw [ib_t (by decide) (by decide), if_neg (by decide), if_neg (by decide), if_neg (by decide), nI_clamp (by decide)]
  rfl
theorem pD_29 (V : gx_M) : F_Mod_pops (nI 29) V = some (nI 1, V) := by
  unfold F_Mod_pops
  rw [if_neg (by decide), if_neg (by decide), if_neg (by decide), if_neg (by decide), if_neg (by decide), F_Mod_pops_33, if_neg (by decide), if_neg (by decide), if_neg (by decide), if_neg (by decide), if_neg (by decide), if_neg (by decide), if_neg (by decide), if_neg (by decide)]
  rfl
theorem uD_29 (V : gx_M) : F_Mod_pushes (nI 29) V = some (nI 0, V) := by
  unfold F_Mod_pushes
  rw [if_neg (by decide), if_neg (by decide), if_neg (by decide), if_neg (by decide), if_neg (by decide), if_neg (by decide), F_Mod_pushes_35, if_neg (by decide), if_neg (by decide), if_neg (by decide), F_Mod_pushes_53, if_neg (by decide)]
  rfl
theorem kD_29 (V : gx_M) : F_Mod_cost 0 (nI 29) V = some (nI 1, V) := by
  unfold F_Mod_cost
  rw [if_neg (by decide), if_neg (by decide), if_neg (by decide), if_neg (by decide), if_neg (by decide), if_neg (by decide), if_neg (by decide), if_neg (by decide), if_neg (by decide), if_neg (by decide), if_neg (by decide), if_neg (by decide), if_neg (by decide), if_neg (by decide), if_neg (by decide)]
  rfl
theorem nD_30 (a : Int32) (V : gx_M) : F_Mac_needsOf (nI 30) a V = some (nI 13, V) := by
  unfold F_Mac_needsOf
  rw [if_neg (by decide), if_neg (by decide), ib_t (by decide) (by decide), nI_clamp (by decide)]
  rfl
theorem oD_30 (V : gx_M) : F_Mac_onlyPushes (nI 30) V = some ((0 : Int32), V) := by
  unfold F_Mac_onlyPushes
  rw [if_neg (by decide), if_neg (by decide), if_neg (by decide), if_pos (by decide)]
theorem rD_30 (c : Nat) (V : gx_M) : F_Mac_priceOf 1 c (nI 30) V = some (nI 0, V) := by
  unfold F_Mac_priceOf
  rw [ib_t (by decide) (by decide), if_neg (by decide), if_neg (by decide), if_neg (by decide), nI_clamp (by decide)]
  rfl
theorem pD_30 (V : gx_M) : F_Mod_pops (nI 30) V = some (nI 1, V) := by
  unfold F_Mod_pops
  rw [if_neg (by decide), if_neg (by decide), if_neg (by decide), if_neg (by decide), if_neg (by decide), F_Mod_pops_33, if_neg (by decide), if_neg (by decide), if_neg (by decide), if_neg (by decide), if_neg (by decide), if_neg (by decide), if_neg (by decide), if_neg (by decide)]
  rfl
theorem uD_30 (V : gx_M) : F_Mod_pushes (nI 30) V = some (nI 0, V) := by
  unfold F_Mod_pushes
  rw [if_neg (by decide), if_neg (by decide), if_neg (by decide), if_neg (by decide), if_neg (by decide), if_neg (by decide), F_Mod_pushes_35, if_neg (by decide), if_neg (by decide), if_neg (by decide), F_Mod_pushes_53, if_neg (by decide)]
  rfl
theorem kD_30 (V : gx_M) : F_Mod_cost 0 (nI 30) V = some (nI 1, V) := by
  unfold F_Mod_cost
  rw [if_neg (by decide), if_neg (by decide), if_neg (by decide), if_neg (by decide), if_neg (by decide), if_neg (by decide), if_neg (by decide), if_neg (by decide), if_neg (by decide), if_neg (by decide), if_neg (by decide), if_neg (by decide), if_neg (by decide), if_neg (by decide), if_neg (by decide)]
  rfl
theorem nD_31 (a : Int32) (V : gx_M) : F_Mac_needsOf (nI 31) a V = some (nI 13, V) := by
  unfold F_Mac_needsOf
  rw [if_neg (by decide), if_neg (by decide), ib_t (by decide) (by decide), nI_clamp (by decide)]
  rfl
theorem oD_31 (V : gx_M) : F_Mac_onlyPushes (nI 31) V = some ((0 : Int32), V) := by
  unfold F_Mac_onlyPushes
  rw [if_neg (by decide), if_neg (by decide), if_neg (by decide), if_pos (by decide)]
theorem rD_31 (c : Nat) (V : gx_M) : F_Mac_priceOf 1 c (nI 31) V = some (nI 0, V) := by
  unfold F_Mac_priceOf
  rw [ib_t (by decide) (by decide), if_neg (by decide), if_neg (by decide), if_neg (by decide), nI_clamp (by decide)]
  rfl
theorem pD_31 (V : gx_M) : F_Mod_pops (nI 31) V = some (nI 1, V) := by
  unfold F_Mod_pops
  rw [if_neg (by decide), if_neg (by decide), if_neg (by decide), if_neg (by decide), if_neg (by decide), F_Mod_pops_33, if_neg (by decide), if_neg (by decide), if_neg (by decide), if_neg (by decide), if_neg (by decide), if_neg (by decide), if_neg (by decide), if_neg (by decide)]
  rfl
theorem uD_31 (V : gx_M) : F_Mod_pushes (nI 31) V = some (nI 0, V) := by
  unfold F_Mod_pushes
  rw [if_neg (by decide), if_neg (by decide), if_neg (by decide), if_neg (by decide), if_neg (by decide), if_neg (by decide), F_Mod_pushes_35, if_neg (by decide), if_neg (by decide), if_neg (by decide), F_Mod_pushes_53, if_neg (by decide)]
  rfl
theorem kD_31 (V : gx_M) : F_Mod_cost 0 (nI 31) V = some (nI 1, V) := by
  unfold F_Mod_cost
  rw [if_neg (by decide), if_neg (by decide), if_neg (by decide), if_neg (by decide), if_neg (by decide), if_neg (by decide), if_neg (by decide), if_neg (by decide), if_neg (by decide), if_neg (by decide), if_neg (by decide), if_neg (by decide), if_neg (by decide), if_neg (by decide), if_neg (by decide)]
  rfl
theorem f_in {U : gx_M} {d cd : Nat} {O a : Int32} (hd : d < 8) (hc : cd < 16) (e19 : U 0 19 = nI d) (e7 : U 7 d = nI cd) : F_Mod_fails 0 O a U = (if O = (3 : Int32) then (if a < 0 then some ((1 : Int32), U) else (if a < U 13 d then some ((0 : Int32), U) else some ((1 : Int32), U))) else (if O = (4 : Int32) then (if a < (1 : Int32) then some ((1 : Int32), U) else (if a < U 13 d then some ((0 : Int32), U) else some ((1 : Int32), U))) else (if O = (12 : Int32) then (F_Mod_fails_97 0 (U 1 (36 * cd + 2)) U) else (if O = (13 : Int32) then ((F_Mod_peek 0 (1 : Int32) U).bind fun q11 => (if q11.1 = 0 then (F_Mod_fails_115 0 O (U 1 (36 * cd + 2)) q11.2) else (F_Mod_fails_97 0 (U 1 (36 * cd + 2)) q11.2))) else (F_Mod_fails_115 0 O (U 1 (36 * cd + 2)) U))))) := by
  have i2 : (36 : Int32) * nI cd + 2 = nI (36 * cd + 2) := by rw [m36, show (2 : Int32) = nI 2 from rfl, nI_add]
  unfold F_Mod_fails
  simp only [e19, ib_t hd (show 8 < 2 ^ 31 by decide), nI_clamp (show d < 2 ^ 31 by omega), Nat.zero_add, e7, i2, ib_t (show 36 * cd + 2 < 576 by omega) (show 576 < 2 ^ 31 by decide), nI_clamp (show 36 * cd + 2 < 2 ^ 31 by omega)]
theorem fD_0 {U : gx_M} {d cd : Nat} (a : Int32) (hd : d < 8) (hc : cd < 16) (e19 : U 0 19 = nI d) (e7 : U 7 d = nI cd) : F_Mod_fails 0 (nI 0) a U = some (0, U) := by
  rw [f_in hd hc e19 e7, if_neg (by decide), if_neg (by decide), if_neg (by decide), if_neg (by decide), F_Mod_fails_115, if_neg (by decide), if_neg (by decide), if_neg (by decide), if_neg (by decide), F_Mod_fails_240, if_pos (by decide)]
theorem fD_1 {U : gx_M} {d cd : Nat} (a : Int32) (hd : d < 8) (hc : cd < 16) (e19 : U 0 19 = nI d) (e7 : U 7 d = nI cd) : F_Mod_fails 0 (nI 1) a U = some (0, U) := by
  rw [f_in hd hc e19 e7, if_neg (by decide), if_neg (by decide), if_neg (by decide), if_neg (by decide), F_Mod_fails_115, if_neg (by decide), if_neg (by decide), if_neg (by decide), if_neg (by decide), F_Mod_fails_240, if_pos (by decide)]
theorem fD_2 {U : gx_M} {d cd : Nat} (a : Int32) (hd : d < 8) (hc : cd < 16) (e19 : U 0 19 = nI d) (e7 : U 7 d = nI cd) : F_Mod_fails 0 (nI 2) a U = some (0, U) := by
  rw [f_in hd hc e19 e7, if_neg (by decide), if_neg (by decide), if_neg (by decide), if_neg (by decide), F_Mod_fails_115, if_neg (by decide), if_neg (by decide), if_neg (by decide), if_neg (by decide), F_Mod_fails_240, if_pos (by decide)]
theorem fD_5 {U : gx_M} {d cd : Nat} (a : Int32) (hd : d < 8) (hc : cd < 16) (e19 : U 0 19 = nI d) (e7 : U 7 d = nI cd) : F_Mod_fails 0 (nI 5) a U = some (0, U) := by
  rw [f_in hd hc e19 e7, if_neg (by decide), if_neg (by decide), if_neg (by decide), if_neg (by decide), F_Mod_fails_115, if_neg (by decide), if_neg (by decide), if_neg (by decide), if_neg (by decide), F_Mod_fails_240, if_pos (by decide)]
theorem fD_6 {U : gx_M} {d cd : Nat} (a : Int32) (hd : d < 8) (hc : cd < 16) (e19 : U 0 19 = nI d) (e7 : U 7 d = nI cd) : F_Mod_fails 0 (nI 6) a U = some (0, U) := by
  rw [f_in hd hc e19 e7, if_neg (by decide), if_neg (by decide), if_neg (by decide), if_neg (by decide), F_Mod_fails_115, if_neg (by decide), if_neg (by decide), if_neg (by decide), if_neg (by decide), F_Mod_fails_240, if_pos (by decide)]
theorem fD_7 {U : gx_M} {d cd : Nat} (a : Int32) (hd : d < 8) (hc : cd < 16) (e19 : U 0 19 = nI d) (e7 : U 7 d = nI cd) : F_Mod_fails 0 (nI 7) a U = some (0, U) := by
  rw [f_in hd hc e19 e7, if_neg (by decide), if_neg (by decide), if_neg (by decide), if_neg (by decide), F_Mod_fails_115, if_neg (by decide), if_neg (by decide), if_neg (by decide), if_neg (by decide), F_Mod_fails_240, if_pos (by decide)]
theorem fD_8 {U : gx_M} {d cd : Nat} (a : Int32) (hd : d < 8) (hc : cd < 16) (e19 : U 0 19 = nI d) (e7 : U 7 d = nI cd) : F_Mod_fails 0 (nI 8) a U = some (0, U) := by
  rw [f_in hd hc e19 e7, if_neg (by decide), if_neg (by decide), if_neg (by decide), if_neg (by decide), F_Mod_fails_115, if_neg (by decide), if_neg (by decide), if_neg (by decide), if_neg (by decide), F_Mod_fails_240, if_pos (by decide)]
theorem fD_9 {U : gx_M} {d cd : Nat} (a : Int32) (hd : d < 8) (hc : cd < 16) (e19 : U 0 19 = nI d) (e7 : U 7 d = nI cd) : F_Mod_fails 0 (nI 9) a U = some (0, U) := by
  rw [f_in hd hc e19 e7, if_neg (by decide), if_neg (by decide), if_neg (by decide), if_neg (by decide), F_Mod_fails_115, if_neg (by decide), if_neg (by decide), if_neg (by decide), if_neg (by decide), F_Mod_fails_240, if_pos (by decide)]
theorem fD_10 {U : gx_M} {d cd : Nat} (a : Int32) (hd : d < 8) (hc : cd < 16) (e19 : U 0 19 = nI d) (e7 : U 7 d = nI cd) : F_Mod_fails 0 (nI 10) a U = some (0, U) := by
  rw [f_in hd hc e19 e7, if_neg (by decide), if_neg (by decide), if_neg (by decide), if_neg (by decide), F_Mod_fails_115, if_neg (by decide), if_neg (by decide), if_neg (by decide), if_neg (by decide), F_Mod_fails_240, if_pos (by decide)]
theorem fD_11 {U : gx_M} {d cd : Nat} (a : Int32) (hd : d < 8) (hc : cd < 16) (e19 : U 0 19 = nI d) (e7 : U 7 d = nI cd) : F_Mod_fails 0 (nI 11) a U = some (0, U) := by
  rw [f_in hd hc e19 e7, if_neg (by decide), if_neg (by decide), if_neg (by decide), if_neg (by decide), F_Mod_fails_115, if_neg (by decide), if_neg (by decide), if_neg (by decide), if_neg (by decide), F_Mod_fails_240, if_pos (by decide)]
theorem fD_14 {U : gx_M} {d cd : Nat} (a : Int32) (hd : d < 8) (hc : cd < 16) (e19 : U 0 19 = nI d) (e7 : U 7 d = nI cd) : F_Mod_fails 0 (nI 14) a U = some (0, U) := by
  rw [f_in hd hc e19 e7, if_neg (by decide), if_neg (by decide), if_neg (by decide), if_neg (by decide), F_Mod_fails_115, if_neg (by decide), if_neg (by decide), if_neg (by decide), if_neg (by decide), F_Mod_fails_240, if_pos (by decide)]
theorem fD_16 {U : gx_M} {d cd : Nat} (a : Int32) (hd : d < 8) (hc : cd < 16) (e19 : U 0 19 = nI d) (e7 : U 7 d = nI cd) : F_Mod_fails 0 (nI 16) a U = some (0, U) := by
  rw [f_in hd hc e19 e7, if_neg (by decide), if_neg (by decide), if_neg (by decide), if_neg (by decide), F_Mod_fails_115, if_neg (by decide), if_neg (by decide), if_neg (by decide), if_neg (by decide), F_Mod_fails_240, if_pos (by decide)]
theorem fD_17 {U : gx_M} {d cd : Nat} (a : Int32) (hd : d < 8) (hc : cd < 16) (e19 : U 0 19 = nI d) (e7 : U 7 d = nI cd) : F_Mod_fails 0 (nI 17) a U = some (0, U) := by
  rw [f_in hd hc e19 e7, if_neg (by decide), if_neg (by decide), if_neg (by decide), if_neg (by decide), F_Mod_fails_115, if_neg (by decide), if_neg (by decide), if_neg (by decide), if_neg (by decide), F_Mod_fails_240, if_pos (by decide)]
theorem fD_18 {U : gx_M} {d cd : Nat} (a : Int32) (hd : d < 8) (hc : cd < 16) (e19 : U 0 19 = nI d) (e7 : U 7 d = nI cd) : F_Mod_fails 0 (nI 18) a U = some (0, U) := by
  rw [f_in hd hc e19 e7, if_neg (by decide), if_neg (by decide), if_neg (by decide), if_neg (by decide), F_Mod_fails_115, if_neg (by decide), if_neg (by decide), if_neg (by decide), if_neg (by decide), F_Mod_fails_240, if_pos (by decide)]
theorem fD_19 {U : gx_M} {d cd : Nat} (a : Int32) (hd : d < 8) (hc : cd < 16) (e19 : U 0 19 = nI d) (e7 : U 7 d = nI cd) : F_Mod_fails 0 (nI 19) a U = some (0, U) := by
  rw [f_in hd hc e19 e7, if_neg (by decide), if_neg (by decide), if_neg (by decide), if_neg (by decide), F_Mod_fails_115, if_neg (by decide), if_neg (by decide), if_neg (by decide), if_neg (by decide), F_Mod_fails_240, if_pos (by decide)]
theorem fD_20 {U : gx_M} {d cd : Nat} (a : Int32) (hd : d < 8) (hc : cd < 16) (e19 : U 0 19 = nI d) (e7 : U 7 d = nI cd) : F_Mod_fails 0 (nI 20) a U = some (0, U) := by
  rw [f_in hd hc e19 e7, if_neg (by decide), if_neg (by decide), if_neg (by decide), if_neg (by decide), F_Mod_fails_115, if_neg (by decide), if_neg (by decide), if_neg (by decide), if_neg (by decide), F_Mod_fails_240, if_pos (by decide)]
theorem fD_21 {U : gx_M} {d cd : Nat} (a : Int32) (hd : d < 8) (hc : cd < 16) (e19 : U 0 19 = nI d) (e7 : U 7 d = nI cd) : F_Mod_fails 0 (nI 21) a U = some (0, U) := by
  rw [f_in hd hc e19 e7, if_neg (by decide), if_neg (by decide), if_neg (by decide), if_neg (by decide), F_Mod_fails_115, if_neg (by decide), if_neg (by decide), if_neg (by decide), if_neg (by decide), F_Mod_fails_240, if_pos (by decide)]
theorem fD_23 {U : gx_M} {d cd : Nat} (a : Int32) (hd : d < 8) (hc : cd < 16) (e19 : U 0 19 = nI d) (e7 : U 7 d = nI cd) : F_Mod_fails 0 (nI 23) a U = some (0, U) := by
  rw [f_in hd hc e19 e7, if_neg (by decide), if_neg (by decide), if_neg (by decide), if_neg (by decide), F_Mod_fails_115, if_neg (by decide), if_neg (by decide), if_neg (by decide), if_neg (by decide), F_Mod_fails_240, if_pos (by decide)]
theorem fD_25 {U : gx_M} {d cd : Nat} (a : Int32) (hd : d < 8) (hc : cd < 16) (e19 : U 0 19 = nI d) (e7 : U 7 d = nI cd) : F_Mod_fails 0 (nI 25) a U = some (0, U) := by
  rw [f_in hd hc e19 e7, if_neg (by decide), if_neg (by decide), if_neg (by decide), if_neg (by decide), F_Mod_fails_115, if_neg (by decide), if_neg (by decide), if_neg (by decide), if_neg (by decide), F_Mod_fails_240, if_pos (by decide)]
theorem fD_26 {U : gx_M} {d cd : Nat} (a : Int32) (hd : d < 8) (hc : cd < 16) (e19 : U 0 19 = nI d) (e7 : U 7 d = nI cd) : F_Mod_fails 0 (nI 26) a U = some (0, U) := by
  rw [f_in hd hc e19 e7, if_neg (by decide), if_neg (by decide), if_neg (by decide), if_neg (by decide), F_Mod_fails_115, if_neg (by decide), if_neg (by decide), if_neg (by decide), if_neg (by decide), F_Mod_fails_240, if_pos (by decide)]
theorem fD_27 {U : gx_M} {d cd : Nat} (a : Int32) (hd : d < 8) (hc : cd < 16) (e19 : U 0 19 = nI d) (e7 : U 7 d = nI cd) : F_Mod_fails 0 (nI 27) a U = some (0, U) := by
  rw [f_in hd hc e19 e7, if_neg (by decide), if_neg (by decide), if_neg (by decide), if_neg (by decide), F_Mod_fails_115, if_neg (by decide), if_neg (by decide), if_neg (by decide), if_neg (by decide), F_Mod_fails_240, if_pos (by decide)]
theorem fD_29 {U : gx_M} {d cd : Nat} (a : Int32) (hd : d < 8) (hc : cd < 16) (e19 : U 0 19 = nI d) (e7 : U 7 d = nI cd) : F_Mod_fails 0 (nI 29) a U = some (1, U) := by
  rw [f_in hd hc e19 e7, if_neg (by decide), if_neg (by decide), if_neg (by decide), if_neg (by decide), F_Mod_fails_115, if_neg (by decide), if_neg (by decide), if_neg (by decide), if_neg (by decide), F_Mod_fails_240, if_neg (by decide)]
theorem fD_30 {U : gx_M} {d cd : Nat} (a : Int32) (hd : d < 8) (hc : cd < 16) (e19 : U 0 19 = nI d) (e7 : U 7 d = nI cd) : F_Mod_fails 0 (nI 30) a U = some (1, U) := by
  rw [f_in hd hc e19 e7, if_neg (by decide), if_neg (by decide), if_neg (by decide), if_neg (by decide), F_Mod_fails_115, if_neg (by decide), if_neg (by decide), if_neg (by decide), if_neg (by decide), F_Mod_fails_240, if_neg (by decide)]
theorem fD_31 {U : gx_M} {d cd : Nat} (a : Int32) (hd : d < 8) (hc : cd < 16) (e19 : U 0 19 = nI d) (e7 : U 7 d = nI cd) : F_Mod_fails 0 (nI 31) a U = some (1, U) := by
  rw [f_in hd hc e19 e7, if_neg (by decide), if_neg (by decide), if_neg (by decide), if_neg (by decide), F_Mod_fails_115, if_neg (by decide), if_neg (by decide), if_neg (by decide), if_neg (by decide), F_Mod_fails_240, if_neg (by decide)]
