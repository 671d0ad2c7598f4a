theorem sealC1 {V : gx_M} {mi : Nat} {x : Int32} (hx : ¬ x = 0) (h0 : ¬ V 0 6 = 0) (em : V 0 8 = nI mi) (hm : mi < 16) : F_Led_seal 0 x V = some (0, cpm 2 85 (gx_u (gx_u (gx_u V 0 6 0) 3 mi (V 3 mi + 50)) 0 12 (V 0 12 + 1))) := by
  have q3 : gx_u V 0 6 0 (0 + 1 + 1 + 1) mi = V 3 mi := rfl
  have q12 : ∀ y, gx_u (gx_u V 0 6 0) (0 + 1 + 1 + 1) mi y 0 12 = V 0 12 := fun _ => rfl
  unfold F_Led_seal
  rw [if_neg h0]
  dsimp only [gx_let]
  have k1 : gx_u V 0 6 0 0 8 = nI mi := em
  rw [k1, ib_t hm (by decide), ib_t hm (by decide), nI_clamp (by omega), if_neg hx, q3, q12, show (0 + 1 + 1 + 1 : Nat) = 3 from rfl, show (0 + 1 + 1 : Nat) = 2 from rfl, show (0 + 85 : Nat) = 85 from rfl]
  generalize gx_u (gx_u (gx_u V 0 6 0) 3 mi (V 3 mi + 50)) 0 12 (V 0 12 + 1) = M
  rw [cpm_eq]
  rfl
