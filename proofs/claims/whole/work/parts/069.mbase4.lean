/-! ===== own base: the reference's reader of orders against the states ===== -/
def CMPb (cs : Nat → Nat) (n b : Nat) : Prop := (rnA cs b = 9 ∨ rnA cs b = 2 ∨ rnA cs b = 3) ∧ (b < n → nxt (rnA cs b) (cs b) = nxE (cs b))
def ERb (cs : Nat → Nat) (n b : Nat) : Prop := rnA cs b ≠ 10 ∧ (b < n → rnA cs (b + 1) = 10) ∧ (b = n → ¬ (rnA cs b = 9 ∨ rnA cs b = 2 ∨ rnA cs b = 3))
def NDb (cs : Nat → Nat) (n b : Nat) : Prop := ¬ (48 ≤ cdA cs n b ∧ cdA cs n b ≤ 57)
theorem cdA_in {cs : Nat → Nat} {n b : Nat} (h : b < n) : cdA cs n b = cs b := if_pos h
theorem cdA_out {cs : Nat → Nat} {n b : Nat} (h : ¬ b < n) : cdA cs n b = 0 := if_neg h
theorem dgA_f {cs : Nat → Nat} {n b : Nat} (h : b < n) (h1 : 48 ≤ cs b) (h2 : cs b ≤ 57) : dgA cs n b = cs b - 48 := by
  unfold dgA
  rw [cdA_in h, if_pos ⟨h1, h2⟩]
theorem er_st {cs : Nat → Nat} {n b q : Nat} (hq : rnA cs b = q) (h10 : q ≠ 10) (hc : ¬ (q = 9 ∨ q = 2 ∨ q = 3)) (hn : b < n → nxt q (cs b) = 10) : ERb cs n b := by
  subst hq
  exact ⟨h10, hn, fun _ => hc⟩
theorem s1_n {cs : Nat → Nat} {n b : Nat} (hs : rnA cs b = 1) (h : ¬ (b < n ∧ 49 ≤ cs b ∧ cs b ≤ 57)) : ERb cs n b := er_st hs (by decide) (by decide) (fun hb => by
  show nxW (cs b) = 10
  unfold nxW
  rw [if_neg (by omega), if_neg (by omega), if_neg (by omega)])
theorem s4_n {cs : Nat → Nat} {n b : Nat} (hs : rnA cs b = 4) (h : ¬ (b < n ∧ 48 ≤ cs b ∧ cs b ≤ 53)) : ERb cs n b := er_st hs (by decide) (by decide) (fun hb => by
  show (if 48 ≤ cs b ∧ cs b ≤ 53 then 5 else 10) = 10
  rw [if_neg (by omega)])
theorem s5_n {cs : Nat → Nat} {n b : Nat} (hs : rnA cs b = 5) (h : ¬ (b < n ∧ 48 ≤ cs b ∧ cs b ≤ 57)) : ERb cs n b := er_st hs (by decide) (by decide) (fun hb => by
  show (if 48 ≤ cs b ∧ cs b ≤ 57 then 6 else 10) = 10
  rw [if_neg (by omega)])
theorem s6_n {cs : Nat → Nat} {n b : Nat} (hs : rnA cs b = 6) (h : ¬ (b < n ∧ 43 ≤ cs b ∧ cs b ≤ 43)) (h2 : ¬ (b < n ∧ 45 ≤ cs b ∧ cs b ≤ 45)) : ERb cs n b := er_st hs (by decide) (by decide) (fun hb => by
  show (if cs b = 43 ∨ cs b = 45 then 7 else 10) = 10
  rw [if_neg (by omega)])
theorem s7_n {cs : Nat → Nat} {n b : Nat} (hs : rnA cs b = 7) (h : ¬ (b < n ∧ 49 ≤ cs b ∧ cs b ≤ 57)) : ERb cs n b := er_st hs (by decide) (by decide) (fun hb => by
  show (if 49 ≤ cs b ∧ cs b ≤ 57 then 9 else 10) = 10
  rw [if_neg (by omega)])
theorem s8_n {cs : Nat → Nat} {n b : Nat} (hs : rnA cs b = 8) (h : ¬ (b < n ∧ 48 ≤ cs b ∧ cs b ≤ 57)) : ERb cs n b := er_st hs (by decide) (by decide) (fun hb => by
  show (if 48 ≤ cs b ∧ cs b ≤ 57 then 9 else 10) = 10
  rw [if_neg (by omega)])
theorem s0_n {cs : Nat → Nat} {n b : Nat} (hs : rnA cs b = 0) (h : b < n → cs b ≠ 112 ∧ cs b ≠ 115 ∧ cs b ≠ 99 ∧ cs b ≠ 110) : ERb cs n b := er_st hs (by decide) (by decide) (fun hb => by
  obtain ⟨h1, h2, h3, h4⟩ := h hb
  show nxL (cs b) = 10
  unfold nxL
  rw [if_neg h1, if_neg h2, if_neg h3, if_neg h4])
theorem nx9 {cs : Nat → Nat} {b : Nat} (h : rnA cs b = 9) (n : Nat) : CMPb cs n b := ⟨Or.inl h, fun _ => by rw [h]; rfl⟩
theorem s4_y {cs : Nat → Nat} {b : Nat} (hs : rnA cs b = 4) (h : 48 ≤ cs b ∧ cs b ≤ 53) : rnA cs (b + 1) = 5 := by
  show nxt (rnA cs b) (cs b) = 5
  rw [hs]; exact if_pos h
theorem s5_y {cs : Nat → Nat} {b : Nat} (hs : rnA cs b = 5) (h : 48 ≤ cs b ∧ cs b ≤ 57) : rnA cs (b + 1) = 6 := by
  show nxt (rnA cs b) (cs b) = 6
  rw [hs]; exact if_pos h
theorem s6_y {cs : Nat → Nat} {b : Nat} (hs : rnA cs b = 6) (h : cs b = 43 ∨ cs b = 45) : rnA cs (b + 1) = 7 := by
  show nxt (rnA cs b) (cs b) = 7
  rw [hs]; exact if_pos h
theorem s7_y {cs : Nat → Nat} {b : Nat} (hs : rnA cs b = 7) (h : 49 ≤ cs b ∧ cs b ≤ 57) : rnA cs (b + 1) = 9 := by
  show nxt (rnA cs b) (cs b) = 9
  rw [hs]; exact if_pos h
theorem s8_y {cs : Nat → Nat} {b : Nat} (hs : rnA cs b = 8) (h : 48 ≤ cs b ∧ cs b ≤ 57) : rnA cs (b + 1) = 9 := by
  show nxt (rnA cs b) (cs b) = 9
  rw [hs]; exact if_pos h
theorem s0_y {cs : Nat → Nat} {b c q : Nat} (hs : rnA cs b = 0) (h : cs b = c) (hq : nxL c = q) : rnA cs (b + 1) = q := by
  show nxt (rnA cs b) (cs b) = q
  rw [hs, h]; exact hq
theorem s1_2 {cs : Nat → Nat} {b : Nat} (hs : rnA cs b = 1) (h : 49 ≤ cs b ∧ cs b ≤ 57) (h1 : 48 ≤ cs (b + 1) ∧ cs (b + 1) ≤ 57) (h2 : 10 * (cs b - 48) + cs (b + 1) - 48 ≤ 40) : rnA cs (b + 2) = 9 := by
  show nxt (nxt (rnA cs b) (cs b)) (cs (b + 1)) = 9
  rw [hs]
  show nxt (nxW (cs b)) (cs (b + 1)) = 9
  unfold nxW
  by_cases c1 : 49 ≤ cs b ∧ cs b ≤ 51
  · rw [if_pos c1]; exact if_pos h1
  rw [if_neg c1]
  by_cases c2 : cs b = 52
  · rw [if_pos c2]; exact if_pos (by omega)
  · omega
theorem s1_1 {cs : Nat → Nat} {n b : Nat} (hs : rnA cs b = 1) (h : 49 ≤ cs b ∧ cs b ≤ 57) (h2 : ¬ (b + 1 < n ∧ (48 ≤ cs (b + 1) ∧ cs (b + 1) ≤ 57) ∧ 10 * (cs b - 48) + cs (b + 1) - 48 ≤ 40)) : CMPb cs n (b + 1) := by
  have e : rnA cs (b + 1) = nxW (cs b) := by
    show nxt (rnA cs b) (cs b) = _
    rw [hs]; rfl
  unfold CMPb
  rw [e]
  unfold nxW
  by_cases c1 : 49 ≤ cs b ∧ cs b ≤ 51
  · rw [if_pos c1]
    refine ⟨Or.inr (Or.inl rfl), fun hb => ?_⟩
    exact if_neg (by omega)
  rw [if_neg c1]
  by_cases c2 : cs b = 52
  · rw [if_pos c2]
    refine ⟨Or.inr (Or.inr rfl), fun hb => ?_⟩
    exact if_neg (by omega)
  rw [if_neg c2, if_pos (by omega)]
  exact ⟨Or.inl rfl, fun _ => rfl⟩
theorem nm_2 {cs : Nat → Nat} {n b : Nat} (hb : b + 1 < n) (h : 49 ≤ cs b ∧ cs b ≤ 57) (h1 : 48 ≤ cs (b + 1) ∧ cs (b + 1) ≤ 57) : nmA cs n b = 10 * (cs b - 48) + cs (b + 1) - 48 := by
  unfold nmA
  rw [if_pos (by rw [cdA_in hb]; exact h1), dgA_f (by omega) (by omega) h.2, dgA_f hb h1.1 h1.2]
  omega
theorem nm_1 {cs : Nat → Nat} {n b : Nat} (hb : b < n) (h : 49 ≤ cs b ∧ cs b ≤ 57) (h1 : NDb cs n (b + 1)) : nmA cs n b = cs b - 48 := by
  unfold nmA
  rw [if_neg h1, dgA_f hb (by omega) h.2]
/-- what was told of the order that begins at q -/
def OKd (cs : Nat → Nat) (n q j : Nat) (td : Nat → Int32) : Prop := q < n ∧ td (4 * j) = nI (cs q) ∧
  ((cs q = 112 ∧ td (4 * j + 1) = nI (nmA cs n (q + 1)) ∧ 1 ≤ nmA cs n (q + 1) ∧ nmA cs n (q + 1) ≤ 40) ∨
   (cs q = 115 ∧ td (4 * j + 1) = nI (dgA cs n (q + 1)) ∧ dgA cs n (q + 1) < 6 ∧ td (4 * j + 2) = nI (dgA cs n (q + 2)) ∧ td (4 * j + 3) = (if cdA cs n (q + 3) = 45 then -(nI (dgA cs n (q + 4))) else nI (dgA cs n (q + 4)))) ∨
   cs q = 99 ∨ (cs q = 110 ∧ td (4 * j + 1) = nI (dgA cs n (q + 1))))
theorem OKd.low {cs : Nat → Nat} {n q j : Nat} {td td' : Nat → Int32} (h : OKd cs n q j td) (he : ∀ i, i < 4 * j + 4 → td' i = td i) : OKd cs n q j td' := by
  obtain ⟨h0, h1, h2⟩ := h
  refine ⟨h0, (he _ (by omega)).trans h1, ?_⟩
  rw [he (4 * j + 1) (by omega), he (4 * j + 2) (by omega), he (4 * j + 3) (by omega)]
  exact h2
/-- what was told of the orders so far -/
def TK (cs : Nat → Nat) (n : Nat) (td : Nat → Int32) (m : Nat) (P : Nat → Nat) : Prop := P 0 = 0 ∧ ∀ j, j < m → OKd cs n (P j) j td ∧ P j < P (j + 1) ∧ (∀ q, P j < q → q < P (j + 1) → cdA cs n (q - 1) ≠ 59) ∧ (0 < j → cdA cs n (P j - 1) = 59)
theorem TK_0 (cs : Nat → Nat) (n : Nat) (td : Nat → Int32) : TK cs n td 0 (fun _ => 0) := ⟨rfl, fun _ h => absurd h (Nat.not_lt_zero _)⟩
theorem TK_s {cs : Nat → Nat} {n m b : Nat} {td td' : Nat → Int32} {P : Nat → Nat} (h : TK cs n td m P) (hm : 0 < m → cdA cs n (P m - 1) = 59) (he : ∀ i, i < 4 * m → td' i = td i) (ho : OKd cs n (P m) m td') (hb : P m < b) (hq : ∀ q, P m < q → q < b → cdA cs n (q - 1) ≠ 59) : TK cs n td' (m + 1) (upN P (m + 1) b) := by
  obtain ⟨h0, h1⟩ := h
  refine ⟨?_, fun j hj => ?_⟩
  · rw [upN_n (by omega)]; exact h0
  · rw [upN_n (show j ≠ m + 1 by omega)]
    by_cases e : j = m
    · subst e
      rw [upN_s]
      exact ⟨ho, hb, hq, hm⟩
    · rw [upN_n (show j + 1 ≠ m + 1 by omega)]
      obtain ⟨a1, a2, a3, a4⟩ := h1 j (by omega)
      exact ⟨a1.low (fun i hi => he i (by omega)), a2, a3, a4⟩
theorem er_erI {cs : Nat → Nat} {n b : Nat} (h : ERb cs n b) (hb : b < n) : erI cs n = b := by
  obtain ⟨h1, h2, -⟩ := h
  refine ctN_thr (fun j hj e => h1 ?_) (fun j hj hn e => e ?_) (by omega)
  · exact rnA_10 cs (by omega) e
  · exact rnA_10 cs (by omega) (h2 hb)
theorem er_no {cs : Nat → Nat} {n : Nat} (h : rnA cs n ≠ 10) : erI cs n = n := by
  refine ctN_thr (fun j hj e => h ?_) (fun j hj hn => absurd hn (by omega)) (Nat.le_refl n)
  exact rnA_10 cs (by omega) e
theorem cmp_er {cs : Nat → Nat} {n b : Nat} (h : CMPb cs n b) (hb : b < n) (h59 : cs b ≠ 59) : ERb cs n b := by
  obtain ⟨h1, h2⟩ := h
  refine ⟨by omega, fun _ => ?_, fun e => absurd hb (by omega)⟩
  show nxt (rnA cs b) (cs b) = 10
  rw [h2 hb]
  exact if_neg h59
theorem cmp_59 {cs : Nat → Nat} {n b : Nat} (h : CMPb cs n b) (hb : b < n) (h59 : cs b = 59) : rnA cs (b + 1) = 0 := by
  show nxt (rnA cs b) (cs b) = 0
  rw [h.2 hb]
  exact if_pos h59
theorem er_cmp {cs : Nat → Nat} {n b : Nat} (h : ERb cs n b) (hb : b ≤ n) : ¬ (rnA cs n = 9 ∨ rnA cs n = 2 ∨ rnA cs n = 3) := by
  rcases Nat.lt_or_ge b n with z | z
  · have e := rnA_10 cs (show b + 1 ≤ n by omega) (h.2.1 z)
    omega
  · have e : b = n := by omega
    subst e
    exact h.2.2 rfl
theorem nI_m1n {d : Nat} : nI d * (-1) = -(nI d) := by
  have e : nI d * (-1) = -(nI d * 1) := Int32.mul_neg _ _
  rw [e, Int32.mul_one]
theorem nI_m1p {d : Nat} : nI d * nI 1 = nI d := Int32.mul_one _
theorem obS_g (cs : Nat → Nat) (n : Nat) (T : TS) (g g' : Nat → Int64) : ∀ q, (obS cs n T g q).1 = (obS cs n T g' q).1 ∧ (obS cs n T g q).2.2 = (obS cs n T g' q).2.2 := by
  intro q
  induction q with
  | zero => exact ⟨rfl, rfl⟩
  | succ q ih =>
    obtain ⟨h1, h2⟩ := ih
    have hO : (obS cs n T g q).2.2.2 = (obS cs n T g' q).2.2.2 := by rw [h2]
    by_cases c : (obS cs n T g q).2.2.2 ∧ (q = 0 ∨ cdA cs n (q - 1) = 59)
    · rw [ob_t c, ob_t (g := g') (by unfold obO; rw [← hO]; exact c)]
      unfold obT obC
      exact ⟨by rw [h1], by rw [h1, h2]⟩
    · rw [ob_f c, ob_f (g := g') (by unfold obO; rw [← hO]; exact c)]
      exact ⟨h1, h2⟩
theorem ob_gap {cs : Nat → Nat} {n : Nat} {T : TS} {g : Nat → Int64} {q r : Nat} (h : ∀ i, q < i → i < r → cdA cs n (i - 1) ≠ 59) (hr : q + 1 ≤ r) : obS cs n T g r = obS cs n T g (q + 1) := by
  obtain ⟨k, rfl⟩ := Nat.le.dest hr
  induction k with
  | zero => rfl
  | succ k ih =>
    have z := ih (fun i h1 h2 => h i h1 (by omega)) (by omega)
    rw [← z]
    refine ob_f (fun w => ?_)
    rcases w.2 with e | e
    · exact absurd (show q + 1 + k = 0 from e) (by omega)
    · exact h (q + 1 + k) (by omega) (by omega) e
theorem upd_s {f : Nat → Int32} {k : Nat} {v : Int32} : upd f k v k = v := if_pos rfl
theorem upd_n {f : Nat → Int32} {k i : Nat} {v : Int32} (h : i ≠ k) : upd f k v i = f i := if_neg h
theorem no59 {cs : Nat → Nat} {po b : Nat} (h : ∀ i, po + 1 ≤ i → i < b → cs i ≠ 59) (e : cs po ≠ 59) : ∀ i, po ≤ i → i < b → cs i ≠ 59 := fun i h1 h2 => (Nat.eq_or_lt_of_le h1).elim (fun z => z ▸ e) (fun z => h i z h2)
theorem partCases (cs : Nat → Nat) (po n : Nat) : (¬ po < n) ∨ (po < n ∧ cs po = 112) ∨ (po < n ∧ cs po = 115) ∨ (po < n ∧ cs po = 99) ∨ (po < n ∧ cs po = 110) ∨ (po < n ∧ cs po ≠ 112 ∧ cs po ≠ 115 ∧ cs po ≠ 99 ∧ cs po ≠ 110) := by omega
theorem nd_end {cs : Nat → Nat} {n b : Nat} (h : ¬ b < n) : NDb cs n b := by
  unfold NDb
  rw [cdA_out h]; omega
theorem nd_59 {cs : Nat → Nat} {n b : Nat} (hb : b < n) (h : cs b = 59) : NDb cs n b := by
  unfold NDb
  rw [cdA_in hb, h]; omega
def sgA (cs : Nat → Nat) (n q : Nat) : Int32 := if cdA cs n (q + 3) = 45 then -(nI (dgA cs n (q + 4))) else nI (dgA cs n (q + 4))
theorem neg_i64 : ∀ d, d < 10 → (-(nI d)).toInt64 = -(lN d) := by decide +kernel
theorem pos_i64 : ∀ d, d < 10 → (nI d).toInt64 = lN d := by decide +kernel
theorem neg_b : ∀ d, d < 10 → -9 ≤ (-(nI d)).toInt ∧ (-(nI d)).toInt ≤ 9 := by decide +kernel
theorem pos_b : ∀ d, d < 10 → -9 ≤ (nI d).toInt ∧ (nI d).toInt ≤ 9 := by decide +kernel
theorem dgA_9 (cs : Nat → Nat) (n j : Nat) : dgA cs n j < 10 := by
  unfold dgA
  split <;> omega
theorem csA_sl (cs : Nat → Nat) (n q : Nat) : slA (sgA cs n q) (dgA cs n (q + 2)) = csA cs n q := by
  unfold slA sgA csA
  by_cases c : cdA cs n (q + 3) = 45
  · rw [if_pos c, if_pos c, neg_i64 _ (dgA_9 _ _ _), Int64.neg_mul]
  · rw [if_neg c, if_neg c, pos_i64 _ (dgA_9 _ _ _)]
theorem sgA_b (cs : Nat → Nat) (n q : Nat) : -9 ≤ (sgA cs n q).toInt ∧ (sgA cs n q).toInt ≤ 9 := by
  unfold sgA
  by_cases c : cdA cs n (q + 3) = 45
  · rw [if_pos c]; exact neg_b _ (dgA_9 _ _ _)
  · rw [if_neg c]; exact pos_b _ (dgA_9 _ _ _)
theorem mpA_y {T : TS} {m : Nat} (h : mpA T m = 0) : T.s 4 + m ≤ 40 := by
  unfold mpA at h
  split at h
  · assumption
  · omega
theorem mpA_n {T : TS} {m : Nat} (h : ¬ mpA T m = 0) : ¬ T.s 4 + m ≤ 40 := fun z => h (if_pos z)
theorem prT_y {T : TS} {m : Nat} (h : T.s 4 + m ≤ 40) : prT T m = stN T m := if_pos h
theorem prT_n {T : TS} {m : Nat} (h : ¬ T.s 4 + m ≤ 40) : prT T m = T := if_neg h
theorem msA_0 {T : TS} {j k : Nat} {y : Int32} : msA T j k y = 0 ↔ (-99999999999 ≤ T.r j + slA y k ∧ T.r j + slA y k ≤ lN 99999999999) := by
  unfold msA
  by_cases h : (-99999999999 ≤ T.r j + slA y k ∧ T.r j + slA y k ≤ lN 99999999999)
  · rw [if_pos h]; exact ⟨fun _ => h, fun _ => rfl⟩
  · rw [if_neg h]; exact ⟨fun z => absurd z (by decide), fun z => absurd z h⟩
theorem msA_le {T : TS} {j k : Nat} {y : Int32} : msA T j k y ≤ 3 := by
  unfold msA
  split <;> omega
theorem sl_e {T : TS} {cs : Nat → Nat} {n q : Nat} (h6 : dgA cs n (q + 1) < 6) : msA T (dgA cs n (q + 1)) (dgA cs n (q + 2)) (sgA cs n q) = 0 ↔ slB T cs n q := by
  rw [msA_0, csA_sl]
  exact ⟨fun h => ⟨h6, h⟩, fun h => h.2⟩
theorem slR_y {T : TS} {cs : Nat → Nat} {n q : Nat} (h : slB T cs n q) : T.setR (dgA cs n (q + 1)) (T.r (dgA cs n (q + 1)) + slA (sgA cs n q) (dgA cs n (q + 2))) = T.withR (slR T cs n q) := by
  unfold slR
  rw [if_pos h, csA_sl]
  rfl
theorem slR_n {T : TS} {cs : Nat → Nat} {n q : Nat} (h : ¬ slB T cs n q) : T = T.withR (slR T cs n q) := by
  unfold slR
  rw [if_neg h]
  rfl
theorem ob_ok {B : Nat} {T : TS} {cs : Nat → Nat} {n : Nat} {g : Nat → Int64} (h : OKT B T) : ∀ q, OKT B (obT cs n T g q) := by
  intro q
  induction q with
  | zero => exact h
  | succ q ih =>
    unfold obT
    by_cases c : obO cs n T g q ∧ (q = 0 ∨ cdA cs n (q - 1) = 59)
    · rw [ob_t c]; exact crT_ok ih
    · rw [ob_f c]; exact ih
theorem ob_next {cs : Nat → Nat} {n m j : Nat} {T : TS} {g : Nat → Int64} {td : Nat → Int32} {P : Nat → Nat} (h : TK cs n td m P) (hj : j < m) (hO : obO cs n T g (P j)) : obS cs n T g (P (j + 1)) = (crT (obT cs n T g (P j)) cs n (P j), crG (obT cs n T g (P j)) (obG cs n T g (P j)) cs n (P j), obC cs n T g (P j) + b01 (crB (obT cs n T g (P j)) cs n (P j)), crB (obT cs n T g (P j)) cs n (P j)) := by
  obtain ⟨h0, h1⟩ := h
  obtain ⟨a1, a2, a3, a4⟩ := h1 j hj
  rw [ob_gap a3 a2]
  refine ob_t ⟨hO, ?_⟩
  rcases Nat.eq_zero_or_pos j with z | z
  · subst z; exact Or.inl h0
  · exact Or.inr (a4 z)
theorem ob_end {cs : Nat → Nat} {n m : Nat} {T : TS} {g : Nat → Int64} {td : Nat → Int32} {P : Nat → Nat} (h : TK cs n td m P) (hm : P m = n + 1) : obS cs n T g n = obS cs n T g (P m) := by
  obtain ⟨h0, h1⟩ := h
  have hm0 : m ≠ 0 := fun e => by subst e; omega
  obtain ⟨k, rfl⟩ : ∃ k, m = k + 1 := ⟨m - 1, by omega⟩
  obtain ⟨a1, a2, a3, a4⟩ := h1 k (by omega)
  have hk : P k < n := a1.1
  rw [ob_gap a3 a2, ob_gap (q := P k) (fun i h1 h2 => a3 i h1 (by omega)) hk]
theorem ob_P {cs : Nat → Nat} {n m j : Nat} {td : Nat → Int32} {P : Nat → Nat} (h : TK cs n td m P) (hj : j < m) (hm : P m = n + 1) : P (j + 1) ≤ n + 1 := by
  have hs : ∀ d, j + 1 + d ≤ m → P (j + 1) ≤ P (j + 1 + d) := by
    intro d
    induction d with
    | zero => intro _; exact Nat.le_refl _
    | succ d ih =>
      intro hd
      have z := ih (by omega)
      have w := (h.2 (j + 1 + d) (by omega)).2.1
      have e : j + 1 + (d + 1) = j + 1 + d + 1 := by omega
      rw [e]
      omega
  have z := hs (m - (j + 1)) (by omega)
  rw [show j + 1 + (m - (j + 1)) = m by omega] at z
  omega
theorem ob_stop {cs : Nat → Nat} {n m j : Nat} {T : TS} {g : Nat → Int64} {td : Nat → Int32} {P : Nat → Nat} (h : TK cs n td m P) (hj : j < m) (hm : P m = n + 1) (hO : obO cs n T g (P j)) (hC : obC cs n T g (P j) = j) (hB : ¬ crB (obT cs n T g (P j)) cs n (P j)) : obT cs n T g n = crT (obT cs n T g (P j)) cs n (P j) ∧ obC cs n T g n = j := by
  have e := ob_next h hj hO
  have ha := h.2 j hj
  have hk : P j < n := ha.1.1
  have e1 : obS cs n T g (P j + 1) = obS cs n T g (P (j + 1)) := (ob_gap ha.2.2.1 ha.2.1).symm
  have hno : ¬ obO cs n T g (P j + 1) := by
    unfold obO
    rw [e1, e]; exact hB
  have e2 := ob_stay hno n hk
  constructor
  · unfold obT
    rw [e2, e1, e]; rfl
  · unfold obC
    rw [e2, e1, e]
    show obC cs n T g (P j) + b01 _ = j
    rw [hC, b01_f hB]; rfl
theorem er_no2 {cs : Nat → Nat} {n b : Nat} (h : ERb cs n b) (hb : ¬ b < n) (hb2 : b ≤ n) : erI cs n = n := by
  have e : b = n := by omega
  subst e
  exact er_no h.1
