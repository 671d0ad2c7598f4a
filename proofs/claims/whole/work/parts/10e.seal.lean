theorem sealC {V : gx_M} {mi : Nat} (h0 : ¬ V 0 6 = 0) (em : V 0 8 = nI mi) (hm : mi < 16) : F_Led_seal 0 0 V = some (1, gx_u (gx_u (gx_u (gx_u V 0 6 0) 3 mi (V 3 mi + 50)) 0 11 (V 0 11 + 1)) 0 13 (V 0 7)) := by
  unfold F_Led_seal
  rw [if_neg h0]
  dsimp only [gx_let]
  have k1 : gx_u V 0 6 0 0 8 = nI mi := em
  rw [k1, ib_t hm (by decide), ib_t hm (by decide), nI_clamp (by omega), if_pos rfl]
  rfl
theorem sealM {U : gx_M} {mi : Nat} (h0 : ¬ U 0 4 = 0) (em : U 0 5 = nI mi) (hm : mi < 16) : F_Mod_seal 0 0 U = some (1, gx_u (gx_u (gx_u (gx_u U 0 4 0) 1 (36 * mi) (U 1 (36 * mi) + 50)) 0 8 (U 0 8 + 1)) 0 7 (U 0 6)) := by
  unfold F_Mod_seal
  rw [if_neg h0]
  dsimp only [gx_let]
  have k1 : gx_u U 0 4 0 0 5 = nI mi := em
  rw [k1, m36, ib_t (by omega) (by decide), ib_t (by omega) (by decide), nI_clamp (by omega), if_pos rfl]
  rfl
