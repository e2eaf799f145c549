/-! ===== own base: the reference's queries ===== -/
theorem er_eq {a b : Int64} : a - b = lN 0 ↔ a = b := by
  rw [show lN 0 = 0 from rfl]
  constructor <;> intro h <;> grind
theorem i0_ge {y : Int32} (h : ¬ y < 0) : 0 ≤ y.toInt := by
  rw [Int32.lt_iff_toInt_lt] at h
  have e : (0 : Int32).toInt = 0 := by decide
  omega
noncomputable def ofG (p g : Nat → Int64) (z q w : Nat) : Int64 := match w with
  | 0 => smL (fun k => p (z * q + k)) z
  | 1 => smL (fun k => g (z * q + k)) z
  | 2 => lN (b01 (smL (fun k => p (z * q + k)) z ≠ smL (fun k => g (z * q + k)) z))
  | _ => lN (ctN (fun k => p (z * q + k) ≠ g (z * q + k)) z)
theorem ofG_gr (T : TS) (g : Nat → Int64) (q w : Nat) : ofG T.p g (T.s 0) q w = grB T g q w := by
  unfold ofG grB
  rw [Nat.mul_comm, Nat.add_sub_cancel_left]
  rcases w with _ | _ | _ | _ <;> rfl
theorem gwr_e (p g : Nat → Int64) (z q : Nat) : gwr p g q z ↔ smL (fun k => p (z * q + k)) z ≠ smL (fun k => g (z * q + k)) z := by
  unfold gwr
  rw [show (q + 1) * z - q * z = z by rw [Nat.succ_mul, Nat.add_sub_cancel_left], Nat.mul_comm]
theorem b01_cg {P Q : Prop} (h : P ↔ Q) : b01 P = b01 Q := congrArg b01 (propext h)
theorem ofG_2 (p g : Nat → Int64) (z q : Nat) : ofG p g z q 2 = lN (b01 (gwr p g q z)) := congrArg lN (b01_cg (gwr_e p g z q).symm)
theorem ctN_b {p : Nat → Prop} {n : Nat} : ctN p n + b01 (p n) = ctN p (n + 1) := by
  by_cases h : p n
  · rw [b01_t h, ctN_t h]
  · rw [b01_f h, ctN_f h]; rfl
theorem b01_le (P : Prop) : b01 P ≤ 1 := by
  by_cases h : P
  · rw [b01_t h]; exact Nat.le_refl 1
  · rw [b01_f h]; exact Nat.zero_le _
theorem b01_y {P : Prop} {n : Nat} (h : n = b01 P) (h0 : n ≠ 0) : P := by
  by_cases c : P
  · exact c
  · rw [b01_f c] at h; exact absurd h h0
theorem b01_n {P : Prop} {n : Nat} (h : n = b01 P) (h0 : n = 0) : ¬ P := fun c => by
  rw [b01_t c] at h; omega
theorem b01_bI (P : Prop) : nI (b01 P) = bI P := by
  by_cases h : P
  · rw [b01_t h, bI_t h]; rfl
  · rw [b01_f h, bI_f h]; rfl
theorem gq_le {n z q : Nat} (h : q < n / z) : z * q + z ≤ n := by
  have h1 : (q + 1) * z ≤ n := Nat.le_trans (Nat.mul_le_mul_right z h) (Nat.div_mul_le_self n z)
  rw [Nat.succ_mul, Nat.mul_comm] at h1
  exact h1
/-- whether a row is found, as the reference says it -/
def okR (p g : Nat → Int64) (n z r : Nat) : Prop := p r = g r ∨ (r / z < n / z ∧ gwr p g (r / z) z)
theorem fna_iff {p g : Nat → Int64} {n z : Nat} (hz : 1 ≤ z) : (∀ r, r < n → okR p g n z r) ↔ fnA p g n z := by
  have hdm : n / z * z ≤ n := Nat.div_mul_le_self n z
  constructor
  · intro h
    refine ⟨fun q hq hw => ?_, ?_⟩
    · have h0 : ¬ ctN (fun k => p (q * z + k) ≠ g (q * z + k)) (q * z + z - q * z) = 0 := by omega
      rw [ctN_0] at h0
      have hqz : q * z + z ≤ n := by
        have h1 : (q + 1) * z ≤ n / z * z := Nat.mul_le_mul_right z hq
        rw [Nat.succ_mul] at h1
        omega
      apply Classical.byContradiction
      intro hn
      apply h0
      intro k hk hk2
      rcases h (q * z + k) (by omega) with e | ⟨-, e⟩
      · exact hk2 e
      · rw [show (q * z + k) / z = q by rw [Nat.add_comm, Nat.add_mul_div_right _ _ hz, Nat.div_eq_of_lt (by omega), Nat.zero_add]] at e
        exact hn e
    · rw [ctN_0]
      intro k hk hk2
      rcases h (n / z * z + k) (by omega) with e | ⟨e, -⟩
      · exact hk2 e
      · rw [Nat.add_comm, Nat.add_mul_div_right _ _ hz] at e
        exact absurd e (Nat.not_lt.mpr (Nat.le_add_left _ _))
  · intro ⟨h1, h2⟩ r hr
    rw [ctN_0] at h2
    have hrd := Nat.div_add_mod r z
    have hrm := Nat.mod_lt r hz
    rw [Nat.mul_comm] at hrd
    by_cases c : r / z < n / z
    · by_cases e : p r = g r
      · exact Or.inl e
      · refine Or.inr ⟨c, h1 _ c ?_⟩
        have h0 : ¬ ctN (fun k => p (r / z * z + k) ≠ g (r / z * z + k)) (r / z * z + z - r / z * z) = 0 := by
          rw [ctN_0]
          intro w
          refine w (r % z) (by omega) ?_
          rw [hrd]
          exact e
        omega
    · have hle : n / z * z ≤ r / z * z := Nat.mul_le_mul_right z (Nat.le_of_not_lt c)
      refine Or.inl (Classical.byContradiction fun e => h2 (r - n / z * z) ?_ ?_)
      · omega
      · rw [show n / z * z + (r - n / z * z) = r by omega]
        exact e
theorem fa_0 {P : Nat → Prop} {r n : Nat} (h : n = b01 (∀ k, k < r → P k)) (h0 : n = 0) : 0 = b01 (∀ k, k < r + 1 → P k) := (b01_f (fun z => b01_n h h0 (fun k hk => z k (by omega)))).symm
theorem fa_n {P : Nat → Prop} {r : Nat} (h : ¬ P r) : 0 = b01 (∀ k, k < r + 1 → P k) := (b01_f (fun z => h (z r (by omega)))).symm
theorem fa_y {P : Nat → Prop} {r n : Nat} (h : n = b01 (∀ k, k < r → P k)) (h0 : n ≠ 0) (hP : P r) : 1 = b01 (∀ k, k < r + 1 → P k) := (b01_t (fun k hk => (Nat.lt_or_ge k r).elim (fun z => b01_y h h0 k z) (fun z => by rw [show k = r by omega]; exact hP))).symm
theorem al_0 {A : Prop} {P : Nat → Prop} {r n : Nat} (h : n = b01 (A ∧ ∀ k, k < r → P k)) (h0 : n = 0) : 0 = b01 (A ∧ ∀ k, k < r + 1 → P k) := (b01_f (fun z => b01_n h h0 ⟨z.1, fun k hk => z.2 k (by omega)⟩)).symm
theorem al_n {A : Prop} {P : Nat → Prop} {r : Nat} (h : ¬ P r) : 0 = b01 (A ∧ ∀ k, k < r + 1 → P k) := (b01_f (fun z => h (z.2 r (by omega)))).symm
theorem al_y {A : Prop} {P : Nat → Prop} {r n : Nat} (h : n = b01 (A ∧ ∀ k, k < r → P k)) (h0 : n ≠ 0) (hP : P r) : 1 = b01 (A ∧ ∀ k, k < r + 1 → P k) := (b01_t ⟨(b01_y h h0).1, fun k hk => (Nat.lt_or_ge k r).elim (fun z => (b01_y h h0).2 k z) (fun z => by rw [show k = r by omega]; exact hP)⟩).symm
theorem cnt3 (T : TS) (g : Nat → Int64) (n : Nat) : nI (ctN (fun k => T.p k ≠ g k) (T.s 4)) = cntA T g n 3 := by
  simp only [cntA, Nat.zero_add, Nat.sub_zero]
/-- rows as if printed: the page is left out -/
noncomputable def rwN (T : TS) : Nat → TS
  | 0 => T
  | k + 1 => rw7 (rwN T k)
theorem rwN_e (T : TS) : ∀ k, (rwN T k).s = (stN T k).s ∧ (rwN T k).r = (stN T k).r ∧ (rwN T k).w = (stN T k).w := by
  intro k
  induction k with
  | zero => exact ⟨rfl, rfl, rfl⟩
  | succ k ih =>
    obtain ⟨h1, h2, h3⟩ := ih
    refine ⟨?_, ?_, ?_⟩
    · show (rw7 (rwN T k)).s = (stp (stN T k)).s
      unfold rw7 stp
      show (fun q => if q = 4 then (rwN T k).s 4 + 1 else if q = 5 then (rwN T k).s 5 + nd (ab ((rwN T k).r 0)) else (rwN T k).s q) = _
      rw [h1, h2]; rfl
    · show nxu (rwN T k).r 5 = nxu (stN T k).r 5
      rw [h2]
    · show wad (rwN T k).w (ab ((rwN T k).r 0)) (nd (ab ((rwN T k).r 0))) = wad (stN T k).w (ab ((stN T k).r 0)) (nd (ab ((stN T k).r 0)))
      rw [h2, h3]
theorem rwN_v (T : TS) (k : Nat) : rvT (rwN T k) ((rwN T k).s 4) = rvT T (T.s 4 + k) := by
  obtain ⟨z4, z3, z2, -, -, -⟩ := stN_s (T := T) (k := k)
  unfold rvT
  rw [(rwN_e T k).1, z4, z3, z2]
theorem rwN_b (T : TS) (k : Nat) : prB (ab ((rwN T k).r 0)) (rwN T k).w ((rwN T k).s 1) = prB (ab ((stN T k).r 0)) (stN T k).w ((stN T k).s 1) := by
  rw [(rwN_e T k).1, (rwN_e T k).2.1, (rwN_e T k).2.2]
theorem l2d_40 : ∀ n, n < 41 → FP.l2d (lN n) = FP.i2d (nI n) := by decide +kernel
