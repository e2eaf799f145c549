def tsZ : TS := (fun _ => 0, fun _ => 0, fun _ => 0, fun _ => 0, fun _ => 0)
theorem mV_z (k : Nat) : (0 : Int64) = mV tsZ k := by
  unfold mV
  repeat' split
  all_goals rfl
theorem tsI_e : ∀ k, k < 103 → mV ((((tsZ.setS 0 5).setS 1 50).setS 2 2).withR (rgt ((((tsZ.setS 0 5).setS 1 50).setS 2 2).s 2) ((((tsZ.setS 0 5).setS 1 50).setS 2 2).s 3 + (((tsZ.setS 0 5).setS 1 50).setS 2 2).s 4))) k = mV tsI k := by
  refine mV_cg (fun k hk => ?_) (fun _ _ => rfl) (fun _ _ => rfl) (fun _ _ => rfl) (fun _ _ => rfl)
  rcases (show k = 0 ∨ k = 1 ∨ k = 2 ∨ k = 3 ∨ k = 4 ∨ k = 5 ∨ k = 6 by omega) with rfl | rfl | rfl | rfl | rfl | rfl | rfl <;> rfl
