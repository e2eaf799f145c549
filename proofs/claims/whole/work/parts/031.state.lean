/-! ===== a table's state: s: 0 rows of a group, 1 wear limit, 2 power, 3 first, 4 rows, 5 digits printed, 6 rows struck; r registers; w wear; p printed numbers; b blurred digits ===== -/
def TS : Type := (Nat → Nat) × (Nat → Int64) × (Nat → Nat) × (Nat → Int64) × (Nat → Nat)
def TS.s (T : TS) : Nat → Nat := T.1
def TS.r (T : TS) : Nat → Int64 := T.2.1
def TS.w (T : TS) : Nat → Nat := T.2.2.1
def TS.p (T : TS) : Nat → Int64 := T.2.2.2.1
def TS.b (T : TS) : Nat → Nat := T.2.2.2.2
def TS.setS (T : TS) (k x : Nat) : TS := (upN T.s k x, T.r, T.w, T.p, T.b)
def TS.setR (T : TS) (k : Nat) (x : Int64) : TS := (T.s, vp_updL T.r k x, T.w, T.p, T.b)
def TS.setW (T : TS) (k x : Nat) : TS := (T.s, T.r, upN T.w k x, T.p, T.b)
def TS.setP (T : TS) (k : Nat) (x : Int64) : TS := (T.s, T.r, T.w, vp_updL T.p k x, T.b)
def TS.setB (T : TS) (k x : Nat) : TS := (T.s, T.r, T.w, T.p, upN T.b k x)
def TS.withR (T : TS) (r : Nat → Int64) : TS := (T.s, r, T.w, T.p, T.b)
/-- the reference's row of numbers -/
def mV (T : TS) : Nat → Int64 := fun k => if k < 7 then lN (T.s k) else if k < 13 then T.r (k - 7) else if k < 23 then lN (T.w (k - 13)) else if k < 63 then T.p (k - 23) else lN (T.b (k - 63))
theorem mV_s {T : TS} {k : Nat} (h : k < 7) : mV T k = lN (T.s k) := if_pos h
theorem mV_r {T : TS} {j : Nat} (h : j < 6) : mV T (7 + j) = T.r j := by
  unfold mV
  rw [if_neg (by omega), if_pos (by omega), show 7 + j - 7 = j by omega]
theorem mV_w {T : TS} {j : Nat} (h : j < 10) : mV T (13 + j) = lN (T.w j) := by
  unfold mV
  rw [if_neg (by omega), if_neg (by omega), if_pos (by omega), show 13 + j - 13 = j by omega]
theorem mV_p {T : TS} {j : Nat} (h : j < 40) : mV T (23 + j) = T.p j := by
  unfold mV
  rw [if_neg (by omega), if_neg (by omega), if_neg (by omega), if_pos (by omega), show 23 + j - 23 = j by omega]
theorem mV_b {T : TS} {j : Nat} (_ : j < 40) : mV T (63 + j) = lN (T.b j) := by
  unfold mV
  rw [if_neg (by omega), if_neg (by omega), if_neg (by omega), if_neg (by omega), show 63 + j - 63 = j by omega]
theorem mV_setS {T : TS} {k x : Nat} (h : k < 7) : vp_updL (mV T) k (lN x) = mV (T.setS k x) := by
  funext i
  unfold vp_updL mV TS.setS
  show _ = if i < 7 then lN (upN T.s k x i) else if i < 13 then T.r (i - 7) else if i < 23 then lN (T.w (i - 13)) else if i < 63 then T.p (i - 23) else lN (T.b (i - 63))
  by_cases hi : i = k
  · subst hi; rw [if_pos rfl, if_pos h, upN_s]
  · rw [if_neg hi, upN_n hi]
theorem mV_setR {T : TS} {k : Nat} {x : Int64} (h : k < 6) : vp_updL (mV T) (7 + k) x = mV (T.setR k x) := by
  funext i
  unfold vp_updL mV TS.setR
  show _ = if i < 7 then lN (T.s i) else if i < 13 then (if i - 7 = k then x else T.r (i - 7)) else if i < 23 then lN (T.w (i - 13)) else if i < 63 then T.p (i - 23) else lN (T.b (i - 63))
  by_cases hi : i = 7 + k
  · subst hi; rw [if_pos rfl, if_neg (by omega), if_pos (by omega), if_pos (by omega)]
  · rw [if_neg hi]
    by_cases h7 : i < 7
    · rw [if_pos h7, if_pos h7]
    · rw [if_neg h7, if_neg h7]
      by_cases h13 : i < 13
      · rw [if_pos h13, if_pos h13, if_neg (by omega)]
      · rw [if_neg h13, if_neg h13]
theorem mV_setW {T : TS} {k x : Nat} (h : k < 10) : vp_updL (mV T) (13 + k) (lN x) = mV (T.setW k x) := by
  funext i
  unfold vp_updL mV TS.setW
  show _ = if i < 7 then lN (T.s i) else if i < 13 then T.r (i - 7) else if i < 23 then lN (upN T.w k x (i - 13)) else if i < 63 then T.p (i - 23) else lN (T.b (i - 63))
  by_cases hi : i = 13 + k
  · subst hi; rw [if_pos rfl, if_neg (by omega), if_neg (by omega), if_pos (by omega), show 13 + k - 13 = k by omega, upN_s]
  · rw [if_neg hi]
    by_cases h7 : i < 7
    · rw [if_pos h7, if_pos h7]
    · rw [if_neg h7, if_neg h7]
      by_cases h13 : i < 13
      · rw [if_pos h13, if_pos h13]
      · rw [if_neg h13, if_neg h13]
        by_cases h23 : i < 23
        · rw [if_pos h23, if_pos h23, upN_n (by omega)]
        · rw [if_neg h23, if_neg h23]
theorem mV_setP {T : TS} {k : Nat} {x : Int64} (h : k < 40) : vp_updL (mV T) (23 + k) x = mV (T.setP k x) := by
  funext i
  unfold vp_updL mV TS.setP
  show _ = if i < 7 then lN (T.s i) else if i < 13 then T.r (i - 7) else if i < 23 then lN (T.w (i - 13)) else if i < 63 then (if i - 23 = k then x else T.p (i - 23)) else lN (T.b (i - 63))
  by_cases hi : i = 23 + k
  · subst hi; rw [if_pos rfl, if_neg (by omega), if_neg (by omega), if_neg (by omega), if_pos (by omega), if_pos (by omega)]
  · rw [if_neg hi]
    by_cases h7 : i < 7
    · rw [if_pos h7, if_pos h7]
    · rw [if_neg h7, if_neg h7]
      by_cases h13 : i < 13
      · rw [if_pos h13, if_pos h13]
      · rw [if_neg h13, if_neg h13]
        by_cases h23 : i < 23
        · rw [if_pos h23, if_pos h23]
        · rw [if_neg h23, if_neg h23]
          by_cases h63 : i < 63
          · rw [if_pos h63, if_pos h63, if_neg (by omega)]
          · rw [if_neg h63, if_neg h63]
theorem mV_setB {T : TS} {k x : Nat} (_ : k < 40) : vp_updL (mV T) (63 + k) (lN x) = mV (T.setB k x) := by
  funext i
  unfold vp_updL mV TS.setB
  show _ = if i < 7 then lN (T.s i) else if i < 13 then T.r (i - 7) else if i < 23 then lN (T.w (i - 13)) else if i < 63 then T.p (i - 23) else lN (upN T.b k x (i - 63))
  by_cases hi : i = 63 + k
  · subst hi; rw [if_pos rfl, if_neg (by omega), if_neg (by omega), if_neg (by omega), if_neg (by omega), show 63 + k - 63 = k by omega, upN_s]
  · rw [if_neg hi]
    by_cases h7 : i < 7
    · rw [if_pos h7, if_pos h7]
    · rw [if_neg h7, if_neg h7]
      by_cases h13 : i < 13
      · rw [if_pos h13, if_pos h13]
      · rw [if_neg h13, if_neg h13]
        by_cases h23 : i < 23
        · rw [if_pos h23, if_pos h23]
        · rw [if_neg h23, if_neg h23]
          by_cases h63 : i < 63
          · rw [if_pos h63, if_pos h63]
          · rw [if_neg h63, if_neg h63, upN_n (by omega)]
/-- one row is printed -/
noncomputable def stp (T : TS) : TS := (fun k => if k = 4 then T.s 4 + 1 else if k = 5 then T.s 5 + nd (ab (T.r 0)) else T.s k, nxu T.r 5, wad T.w (ab (T.r 0)) (nd (ab (T.r 0))), vp_updL T.p (T.s 4) (T.r 0), upN T.b (T.s 4) (prB (ab (T.r 0)) T.w (T.s 1)))
noncomputable def stN (T : TS) : Nat → TS
  | 0 => T
  | k + 1 => stp (stN T k)
/-- how many digits are blurred in the first k rows that are printed -/
noncomputable def blN (T : TS) : Nat → Nat
  | 0 => 0
  | k + 1 => blN T k + prB (ab ((stN T k).r 0)) (stN T k).w ((stN T k).s 1)
/-- a row's right number; the right numbers behind k rows more -/
def rvT (T : TS) (i : Nat) : Int64 := pwr (lN (T.s 3 + i)) (T.s 2)
theorem stN_s {T : TS} : ∀ {k : Nat}, (stN T k).s 4 = T.s 4 + k ∧ (stN T k).s 3 = T.s 3 ∧ (stN T k).s 2 = T.s 2 ∧ (stN T k).s 1 = T.s 1 ∧ (stN T k).s 0 = T.s 0 ∧ (stN T k).s 6 = T.s 6
  | 0 => ⟨rfl, rfl, rfl, rfl, rfl, rfl⟩
  | k + 1 => by
    obtain ⟨h1, h2, h3, h4, h5, h6⟩ := stN_s (T := T) (k := k)
    refine ⟨?_, h2, h3, h4, h5, h6⟩
    show (stN T k).s 4 + 1 = _
    rw [h1]; rfl
theorem nd_le (a : Nat) : nd a ≤ 20 := by
  unfold nd
  have := ctN_le (fun j => a / 10 ^ (j + 1) ≠ 0) 19
  omega
theorem nd_pos (a : Nat) : 1 ≤ nd a := Nat.le_add_right 1 _
theorem stN_w {T : TS} {d : Nat} : ∀ {k : Nat}, (stN T k).w d ≤ T.w d + 20 * k
  | 0 => Nat.le_refl _
  | k + 1 => by
    have h1 := stN_w (T := T) (d := d) (k := k)
    have h2 := wad_le (stN T k).w (ab ((stN T k).r 0)) (nd (ab ((stN T k).r 0))) d
    have h3 := nd_le (ab ((stN T k).r 0))
    show wad (stN T k).w _ _ d ≤ _
    omega
theorem stN_g {T : TS} : ∀ {k : Nat}, (stN T k).s 5 ≤ T.s 5 + 20 * k
  | 0 => Nat.le_refl _
  | k + 1 => by
    have h1 := stN_g (T := T) (k := k)
    have h3 := nd_le (ab ((stN T k).r 0))
    show (stN T k).s 5 + nd _ ≤ _
    omega
theorem prB_le (a : Nat) (w : Nat → Nat) (L : Nat) : prB a w L ≤ 20 := by
  unfold prB
  have h : ∀ k, blu (wad w a k) L ≤ blu w L + k := by
    intro k
    induction k with
    | zero => exact Nat.le_refl _
    | succ k ih =>
      rw [← wad_s, blu_s (dgt_lt _ _)]
      split <;> omega
  have h1 := h (nd a)
  have h2 := nd_le a
  omega
theorem blN_le (T : TS) : ∀ k, blN T k ≤ 20 * k
  | 0 => Nat.le_refl _
  | k + 1 => by
    have h1 := blN_le T k
    have h2 := prB_le (ab ((stN T k).r 0)) (stN T k).w ((stN T k).s 1)
    show blN T k + _ ≤ _
    omega
/-- bounds of registers, n rows behind numbers of at most 10^11 -/
def bq (q n : Nat) : Nat := match q with
  | 0 => 120
  | 1 => 120 * (n + 1)
  | 2 => 60 * ((n + 1) * (n + 2))
  | 3 => 20 * ((n + 1) * (n + 2) * (n + 3))
  | 4 => 5 * ((n + 1) * (n + 2) * (n + 3) * (n + 4))
  | _ => (n + 1) * (n + 2) * (n + 3) * (n + 4) * (n + 5)
def RB (n : Nat) (r : Nat → Int64) : Prop := ∀ j, j < 6 → 120 * (r j).toInt.natAbs ≤ 100000000000 * bq (5 - j) n
theorem bq_s : ∀ n, n < 80 → ∀ q, q < 5 → bq (q + 1) n + bq q n ≤ bq (q + 1) (n + 1) := by decide +kernel
theorem bq_0 : ∀ n, n < 81 → bq 5 n ≤ bq 5 80 := by decide +kernel
theorem bq_le : ∀ n, n < 81 → ∀ q, q < 6 → bq q n ≤ bq 5 80 := by decide +kernel
theorem bq_1 : ∀ n, n < 81 → ∀ q, q < 6 → 120 ≤ bq q n := by decide +kernel
theorem i64_add {a b : Int64} {M : Nat} (h : a.toInt.natAbs + b.toInt.natAbs ≤ M) (hM : M < 2 ^ 63) : (a + b).toInt = a.toInt + b.toInt := by
  rw [Int64.toInt_add]
  exact Int.bmod_eq_of_le (by omega) (by omega)
theorem RB_ab {n : Nat} {r : Nat → Int64} (h : RB n r) (hn : n ≤ 80) {j : Nat} (hj : j < 6) : ab (r j) < 2 ^ 63 := by
  have h1 := h j hj
  have h2 := bq_le n (by omega) (5 - j) (by omega)
  have h3 : bq 5 80 = 3936182040 + 0 := by decide +kernel
  unfold ab
  omega
theorem RB_nx {n : Nat} {r : Nat → Int64} (h : RB n r) (hn : n < 80) : RB (n + 1) (nxu r 5) := by
  intro j hj
  have h1 := h j hj
  have h0 : bq 5 80 = 3936182040 + 0 := by decide +kernel
  by_cases h5 : j < 5
  · have h2 := h (j + 1) (by omega)
    have h3 := bq_s n hn (5 - (j + 1)) (by omega)
    rw [show 5 - (j + 1) + 1 = 5 - j by omega] at h3
    rw [nxu_lo h5]
    have h4 := bq_le (n + 1) (by omega) (5 - j) (by omega)
    rw [i64_add (M := 9000000000000000000) (by omega) (by decide)]
    omega
  · rw [nxu_hi h5]
    have : j = 5 := by omega
    subst this
    exact h1
theorem RB_st {T : TS} (h : RB (T.s 4) T.r) : ∀ {k : Nat}, T.s 4 + k ≤ 80 → RB (T.s 4 + k) (stN T k).r
  | 0, _ => h
  | k + 1, hk => by
    have h1 := RB_st h (k := k) (by omega)
    exact RB_nx h1 (show T.s 4 + k < 80 by omega)
theorem RB_mono {n m : Nat} {r : Nat → Int64} (h : ∀ j, j < 6 → (r j).toInt.natAbs ≤ 100000000000) (hn : n ≤ 80) : RB n r := by
  intro j hj
  have h1 := h j hj
  have h2 := bq_1 n (by omega) (5 - j) (by omega)
  omega
