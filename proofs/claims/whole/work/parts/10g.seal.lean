theorem sl_any {f d : Nat} (hd : d = 576) (hf : d < f) {i : Int32} (hi : i = nI 0) (M : gx_M) : F_Mod_seal_67 f 0 i M = some (0, cpv M 1 2 0) := by
  have sl := sl_loop d (by omega) f M hf
  rw [show 576 - d = 0 by omega] at sl
  rw [hi]
  exact sl
