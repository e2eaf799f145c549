/-! ===== own base: shares and their bits ===== -/
theorem sh_self0 : ∀ n, n < 41 → ∀ F, F < 41 → Op.cmpValue (FP.dcmp (shA F n) (shA F n)) .l = 0 := by decide +kernel
theorem fdO_0 (F : Nat → Int64 → Int64) (h : Int64) : fdO F h 0 = h := rfl
theorem ddD_y {T : TS} {h : Int64} (e : 0 < T.s 4) : fdO (fun q8 h8 => mx h8 (dfA T q8 0)) h 6 = ddD T h := (if_pos e).symm
theorem ddD_n {T : TS} {h : Int64} (e : T.s 4 ≤ 0) : h = ddD T h := (if_neg (by omega)).symm
