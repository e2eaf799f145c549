/-! ===== own base: the reference's digits, from the highest ===== -/
theorem ctN_rev (p_ : Nat → Prop) : ∀ m_, ctN (fun i_ => p_ (m_ - i_)) (m_ + 1) = ctN p_ (m_ + 1) := by
  intro m_
  induction m_ with
  | zero => exact ctN_cg (fun k_ hk => by rw [Nat.zero_sub, show k_ = 0 by omega])
  | succ m_ ih =>
    have e1 := ctN_add (fun i_ => p_ (m_ + 1 - i_)) 1 (m_ + 1)
    rw [show 1 + (m_ + 1) = m_ + 1 + 1 by omega] at e1
    rw [e1]
    have e2 : ctN (fun k_ => p_ (m_ + 1 - (1 + k_))) (m_ + 1) = ctN (fun i_ => p_ (m_ - i_)) (m_ + 1) := ctN_cg (fun k_ hk => by rw [show m_ + 1 - (1 + k_) = m_ - k_ by omega])
    rw [e2, ih]
    by_cases h : p_ (m_ + 1)
    · rw [ctN_t (p := p_) h, ctN_t (p := fun i_ => p_ (m_ + 1 - i_)) (n := 0) h]
      show 0 + 1 + _ = _
      omega
    · rw [ctN_f (p := p_) h, ctN_f (p := fun i_ => p_ (m_ + 1 - i_)) (n := 0) h]
      show 0 + _ = _
      omega
noncomputable def wah (w : Nat → Nat) (a u k : Nat) : Nat → Nat := fun d => w d + ctN (fun i => dgt a (u - i) = d) k
theorem wah_0 (w : Nat → Nat) (a u : Nat) : wah w a u 0 = w := rfl
theorem wah_d (w : Nat → Nat) (a u k : Nat) : wah w a u (k + 1) (dgt a (u - k)) = wah w a u k (dgt a (u - k)) + 1 := by
  unfold wah
  rw [ctN_t (p := fun i => dgt a (u - i) = dgt a (u - k)) rfl]
  omega
theorem wah_s (w : Nat → Nat) (a u k : Nat) : upN (wah w a u k) (dgt a (u - k)) (wah w a u k (dgt a (u - k)) + 1) = wah w a u (k + 1) := by
  funext d
  by_cases h : d = dgt a (u - k)
  · rw [h, upN_s, wah_d]
  · rw [upN_n h]
    unfold wah
    rw [ctN_f (p := fun i => dgt a (u - i) = d) (fun z => h z.symm)]
theorem wah_e (w : Nat → Nat) (a u : Nat) : wah w a u (u + 1) = wad w a (u + 1) := by
  funext d
  unfold wah wad
  rw [ctN_rev (fun i => dgt a i = d) u]
theorem wah_le (w : Nat → Nat) (a u k d : Nat) : wah w a u k d ≤ w d + k := Nat.add_le_add_left (ctN_le _ k) _
noncomputable def skA (T : TS) (a u k : Nat) : TS := (fun q => if q = 5 then T.s 5 + k else T.s q, T.r, wah T.w a u k, T.p, T.b)
noncomputable def sk7 (T : TS) (a : Nat) : TS := (fun q => if q = 5 then T.s 5 + nd a else T.s q, T.r, wad T.w a (nd a), T.p, T.b)
theorem skA_0 (T : TS) (a u : Nat) : skA T a u 0 = T := by
  have e : (fun q => if q = 5 then T.s 5 + 0 else T.s q) = T.s := by
    funext q
    by_cases h : q = 5
    · rw [if_pos h, h]; rfl
    · rw [if_neg h]
  unfold skA
  rw [e]
  rfl
theorem skA_s (T : TS) (a u k : Nat) : ((skA T a u k).setW (dgt a (u - k)) ((skA T a u k).w (dgt a (u - k)) + 1)).setS 5 (((skA T a u k).setW (dgt a (u - k)) ((skA T a u k).w (dgt a (u - k)) + 1)).s 5 + 1) = skA T a u (k + 1) := by
  show (upN (fun q => if q = 5 then T.s 5 + k else T.s q) 5 ((if 5 = 5 then T.s 5 + k else T.s 5) + 1), T.r, upN (wah T.w a u k) (dgt a (u - k)) (wah T.w a u k (dgt a (u - k)) + 1), T.p, T.b) = skA T a u (k + 1)
  rw [wah_s]
  have e : upN (fun q => if q = 5 then T.s 5 + k else T.s q) 5 ((if 5 = 5 then T.s 5 + k else T.s 5) + 1) = fun q => if q = 5 then T.s 5 + (k + 1) else T.s q := by
    funext q
    by_cases h : q = 5
    · rw [h, upN_s, if_pos rfl, if_pos rfl]; rfl
    · rw [upN_n h, if_neg h, if_neg h]
  rw [e]
  rfl
theorem skA_e (T : TS) (a u : Nat) (h : nd a = u + 1) : skA T a u (u + 1) = sk7 T a := by
  unfold skA sk7
  rw [wah_e, h]
theorem ab_n7 {x : Int64} (h : ¬ lN 0 ≤ x) (h2 : ab x < 2 ^ 63) : -x = lN (ab x) := by
  have h1 : x ≤ lN 0 := by
    rw [Int64.le_iff_toInt_le] at h ⊢
    omega
  have e := ab_neg h1 h2
  calc -x = -(-(lN (ab x))) := congrArg (fun z => -z) e
    _ = lN (ab x) := Int64.neg_neg
theorem pow_le18 {a u : Nat} (h : a / 10 ^ u ≠ 0) (ha : a < 2 ^ 63) : u ≤ 18 := by
  refine Nat.le_of_not_lt fun z => h (Nat.div_eq_of_lt ?_)
  have : 10 ^ 19 ≤ 10 ^ u := Nat.pow_le_pow_right (by decide) z
  omega
/-- the differences of right numbers, by the ways to choose -/
theorem rd0 (P : Nat → Int64) (i : Nat) : lN 0 + lN 1 * P (i + 0) = dif P 0 i := by
  rw [show lN 0 = 0 from rfl, show lN 1 = 1 from rfl]
  simp only [dif, Nat.add_zero]
  grind
theorem rd1 (P : Nat → Int64) (i : Nat) : lN 0 + -(lN 1) * P (i + 0) + lN 1 * P (i + 1) = dif P 1 i := by
  rw [show lN 0 = 0 from rfl, show lN 1 = 1 from rfl]
  simp only [dif, Nat.add_zero]
  grind
theorem rd2 (P : Nat → Int64) (i : Nat) : lN 0 + lN 1 * P (i + 0) + -(lN 2) * P (i + 1) + lN 1 * P (i + 2) = dif P 2 i := by
  rw [show lN 0 = 0 from rfl, show lN 1 = 1 from rfl, show lN 2 = 2 from rfl]
  simp only [dif, Nat.add_zero, Nat.add_assoc, Nat.reduceAdd]
  grind
theorem rd3 (P : Nat → Int64) (i : Nat) : lN 0 + -(lN 1) * P (i + 0) + lN 3 * P (i + 1) + -(lN 3) * P (i + 2) + lN 1 * P (i + 3) = dif P 3 i := by
  rw [show lN 0 = 0 from rfl, show lN 1 = 1 from rfl, show lN 3 = 3 from rfl]
  simp only [dif, Nat.add_zero, Nat.add_assoc, Nat.reduceAdd]
  grind
theorem rd4 (P : Nat → Int64) (i : Nat) : lN 0 + lN 1 * P (i + 0) + -(lN 4) * P (i + 1) + lN 6 * P (i + 2) + -(lN 4) * P (i + 3) + lN 1 * P (i + 4) = dif P 4 i := by
  rw [show lN 0 = 0 from rfl, show lN 1 = 1 from rfl, show lN 4 = 4 from rfl, show lN 6 = 6 from rfl]
  simp only [dif, Nat.add_zero, Nat.add_assoc, Nat.reduceAdd]
  grind
theorem rd5 (P : Nat → Int64) (i : Nat) : lN 0 + -(lN 1) * P (i + 0) + lN 5 * P (i + 1) + -(lN 10) * P (i + 2) + lN 10 * P (i + 3) + -(lN 5) * P (i + 4) + lN 1 * P (i + 5) = dif P 5 i := by
  rw [show lN 0 = 0 from rfl, show lN 1 = 1 from rfl, show lN 5 = 5 from rfl, show lN 10 = 10 from rfl]
  simp only [dif, Nat.add_zero, Nat.add_assoc, Nat.reduceAdd]
  grind
theorem dif_sh (P : Nat → Int64) (n : Nat) : ∀ j i, dif (fun k => P (n + k)) j i = dif P j (n + i) := by
  intro j
  induction j with
  | zero => intro i; rfl
  | succ j ih =>
    intro i
    show dif (fun k => P (n + k)) j (i + 1) - dif (fun k => P (n + k)) j i = dif P j (n + i + 1) - dif P j (n + i)
    rw [ih, ih]
    rfl
theorem rgt_dif (T : TS) (n j : Nat) : rgt (T.s 2) (T.s 3 + n) j = dif (rvT T) j n := by
  have e := dif_sh (rvT T) n j 0
  rw [Nat.add_zero] at e
  rw [← e]
  unfold rgt prw rvT
  simp only [Nat.add_assoc]
theorem mV_cg {T U : TS} (h1 : ∀ k, k < 7 → T.s k = U.s k) (h2 : ∀ k, k < 6 → T.r k = U.r k) (h3 : ∀ k, k < 10 → T.w k = U.w k) (h4 : ∀ k, k < 40 → T.p k = U.p k) (h5 : ∀ k, k < 40 → T.b k = U.b k) : ∀ k, k < 103 → mV T k = mV U k := by
  intro k hk
  unfold mV
  by_cases a : k < 7
  · rw [if_pos a, if_pos a, h1 k a]
  rw [if_neg a, if_neg a]
  by_cases b : k < 13
  · rw [if_pos b, if_pos b, h2 _ (by omega)]
  rw [if_neg b, if_neg b]
  by_cases c : k < 23
  · rw [if_pos c, if_pos c, h3 _ (by omega)]
  rw [if_neg c, if_neg c]
  by_cases d : k < 63
  · rw [if_pos d, if_pos d, h4 _ (by omega)]
  rw [if_neg d, if_neg d, h5 _ (by omega)]
theorem mV_wR {T : TS} {r r' : Nat → Int64} (h : ∀ k, k < 6 → r k = r' k) : ∀ k, k < 103 → mV (T.withR r) k = mV (T.withR r') k := mV_cg (fun _ _ => rfl) h (fun _ _ => rfl) (fun _ _ => rfl) (fun _ _ => rfl)
theorem i64_lt0 (y : Int32) (n : Nat) (h : n < 2 ^ 31) : y.toInt64 < lN n ↔ y.toInt < (n : Int) := by
  rw [Int64.lt_iff_toInt_lt, Int32.toInt_toInt64, show (lN n).toInt = (n : Int) from pk_lT (by omega)]
theorem i64_gt0 (y : Int32) (n : Nat) (h : n < 2 ^ 31) : lN n < y.toInt64 ↔ (n : Int) < y.toInt := by
  rw [Int64.lt_iff_toInt_lt, Int32.toInt_toInt64, show (lN n).toInt = (n : Int) from pk_lT (by omega)]
theorem in_iff {y : Int32} {lo hi : Nat} (h1 : lo < 2 ^ 31) (h2 : hi < 2 ^ 31) : (¬ y.toInt64 < lN lo ∧ ¬ lN hi < y.toInt64) ↔ ((lo : Int) ≤ y.toInt ∧ y.toInt ≤ (hi : Int)) := by
  rw [i64_lt0 y lo h1, i64_gt0 y hi h2]
  omega
theorem sub1_i : ∀ n, n < 41 → (lN n - lN 1).toInt = (n : Int) - 1 := by decide +kernel
theorem isrow_i {y : Int32} {n : Nat} (hn : n ≤ 40) : (¬ y.toInt64 < lN 0 ∧ ¬ (lN n - lN 1) < y.toInt64) ↔ (0 ≤ y.toInt ∧ y.toInt < (n : Int)) := by
  rw [i64_lt0 y 0 (by decide), Int64.lt_iff_toInt_lt, Int32.toInt_toInt64, sub1_i n (by omega)]
  omega
theorem isrow_n {i n : Nat} (hi : i < 2 ^ 31) (hn : n ≤ 40) : (¬ lN i < lN 0 ∧ ¬ (lN n - lN 1) < lN i) ↔ i < n := by
  rw [Int64.lt_iff_toInt_lt, Int64.lt_iff_toInt_lt, sub1_i n (by omega), show (lN i).toInt = (i : Int) from pk_lT (by omega)]
  show (¬ (i : Int) < 0 ∧ _) ↔ _
  omega
/-- the kept states, in one array of 6 times 103 numbers -/
def PF (f : Nat → Int64) (n : Nat) (Ss : Nat → TS) : Prop := ∀ q, q < n → ∀ k, k < 103 → f (103 * q + k) = mV (Ss q) k
theorem PF_shift {f : Nat → Int64} {Ss : Nat → TS} (h : PF f 6 Ss) : PF (fun i => if i < 515 then f (i + 103) else f i) 5 (fun k => Ss (k + 1)) := by
  intro q hq k hk
  show (if 103 * q + k < 515 then f (103 * q + k + 103) else f (103 * q + k)) = _
  rw [if_pos (by omega), show 103 * q + k + 103 = 103 * (q + 1) + k by omega]
  exact h (q + 1) (by omega) k hk
theorem PF_add {f : Nat → Int64} {Ss : Nat → TS} {n : Nat} {T : TS} (h : PF f n Ss) : PF (fun i => if 103 * n ≤ i ∧ i < 103 * n + 103 then mV T (i - 103 * n) else f i) (n + 1) (fun k => if k = n then T else Ss k) := by
  intro q hq k hk
  by_cases e : q = n
  · subst e
    show (if 103 * q ≤ 103 * q + k ∧ 103 * q + k < 103 * q + 103 then mV T (103 * q + k - 103 * q) else f (103 * q + k)) = mV (if q = q then T else Ss q) k
    rw [if_pos ⟨by omega, by omega⟩, if_pos rfl, show 103 * q + k - 103 * q = k by omega]
  · show (if 103 * n ≤ 103 * q + k ∧ 103 * q + k < 103 * n + 103 then mV T (103 * q + k - 103 * n) else f (103 * q + k)) = mV (if q = n then T else Ss q) k
    rw [if_neg (by omega), if_neg e]
    exact h q (by omega) k hk
theorem PF_lt {f : Nat → Int64} {Ss : Nat → TS} {n : Nat} {T : TS} (h : PF f n Ss) (hn : n < 6) : PF (fun i => if 103 * n ≤ i ∧ i < 103 * n + 103 then mV T (i - 103 * n) else f i) (mn6 n) (svS Ss n T) := by
  have e : svS Ss n T = fun k => if k = n then T else Ss k := by
    funext k; unfold svS; rw [if_pos hn]
  have e2 : mn6 n = n + 1 := if_pos hn
  rw [e, e2]
  exact PF_add h
theorem PF_6 {f : Nat → Int64} {Ss : Nat → TS} {T : TS} (h : PF f 6 Ss) : PF (fun i => if 103 * 5 ≤ i ∧ i < 103 * 5 + 103 then mV T (i - 103 * 5) else (fun i => if i < 515 then f (i + 103) else f i) i) (mn6 6) (svS Ss 6 T) := by
  have h1 := PF_add (T := T) (PF_shift h)
  intro q hq k hk
  have hq' : q < 6 := by
    have : mn6 6 = 6 := rfl
    omega
  rw [h1 q hq' k hk]
  have e : (fun k => if k = 5 then T else Ss (k + 1)) q = svS Ss 6 T q := by
    show (if q = 5 then T else Ss (q + 1)) = (if 6 < 6 then (if q = 6 then T else Ss q) else (if q < 5 then Ss (q + 1) else T))
    rw [if_neg (by decide : ¬ 6 < 6)]
    by_cases e : q = 5
    · rw [if_pos e, if_neg (by omega)]
    · rw [if_neg e, if_pos (by omega)]
  exact congrArg (fun U => mV U k) e
theorem cpU (f : Nat → Int64) (n i : Nat) (x : Int64) (g : Nat → Int64) (hx : x = g i) : vp_updL (fun j => if n ≤ j ∧ j < n + i then g (j - n) else f j) (n + i) x = fun j => if n ≤ j ∧ j < n + (i + 1) then g (j - n) else f j := by
  funext j
  unfold vp_updL
  by_cases e : j = n + i
  · rw [if_pos e, e, if_pos ⟨by omega, by omega⟩, hx]
    exact congrArg g (by omega)
  · rw [if_neg e]
    show (if n ≤ j ∧ j < n + i then g (j - n) else f j) = _
    by_cases c : n ≤ j ∧ j < n + i
    · rw [if_pos c, if_pos ⟨c.1, by omega⟩]
    · rw [if_neg c, if_neg (fun z => c ⟨z.1, by omega⟩)]
theorem cpU0 (f : Nat → Int64) (n : Nat) (g : Nat → Int64) : (fun j => if n ≤ j ∧ j < n + 0 then g (j - n) else f j) = f := by
  funext j
  rw [if_neg (by omega)]
theorem cpS (f : Nat → Int64) (i : Nat) : vp_updL (fun j => if j < i then f (j + 103) else f j) i (f (i + 103)) = fun j => if j < i + 1 then f (j + 103) else f j := by
  funext j
  unfold vp_updL
  by_cases e : j = i
  · rw [if_pos e, e, if_pos (by omega)]
  · rw [if_neg e]
    show (if j < i then f (j + 103) else f j) = _
    by_cases c : j < i
    · rw [if_pos c, if_pos (by omega)]
    · rw [if_neg c, if_neg (by omega)]
theorem cpS0 (f : Nat → Int64) : (fun j => if j < 0 then f (j + 103) else f j) = f := by
  funext j
  rw [if_neg (by omega)]
/-- a row whose number the register 0 tells -/
noncomputable def rw7 (T : TS) : TS := (fun k => if k = 4 then T.s 4 + 1 else if k = 5 then T.s 5 + nd (ab (T.r 0)) else T.s k, nxu T.r 5, wad T.w (ab (T.r 0)) (nd (ab (T.r 0))), T.p, T.b)
theorem rw7_e (T : TS) : ((sk7 T (ab (T.r 0))).withR (nxu (sk7 T (ab (T.r 0))).r 5)).setS 4 (((sk7 T (ab (T.r 0))).withR (nxu (sk7 T (ab (T.r 0))).r 5)).s 4 + 1) = rw7 T := by
  have e : upN (fun q => if q = 5 then T.s 5 + nd (ab (T.r 0)) else T.s q) 4 ((if 4 = 5 then T.s 5 + nd (ab (T.r 0)) else T.s 4) + 1) = fun k => if k = 4 then T.s 4 + 1 else if k = 5 then T.s 5 + nd (ab (T.r 0)) else T.s k := by
    funext k
    by_cases h : k = 4
    · rw [h, upN_s, if_pos rfl]; rfl
    · rw [upN_n h, if_neg h]
  show (upN (fun q => if q = 5 then T.s 5 + nd (ab (T.r 0)) else T.s q) 4 ((if 4 = 5 then T.s 5 + nd (ab (T.r 0)) else T.s 4) + 1), _, _, _, _) = rw7 T
  rw [e]
  rfl
theorem stp_e (T : TS) : (rw7 (T.setP (T.s 4) (T.r 0))).setB (T.s 4) (prB (ab ((T.setP (T.s 4) (T.r 0)).r 0)) (T.setP (T.s 4) (T.r 0)).w ((T.setP (T.s 4) (T.r 0)).s 1)) = stp T := rfl
theorem nxu_wR (T : TS) (k : Nat) : (T.withR (nxu T.r k)).setR k ((T.withR (nxu T.r k)).r k + (T.withR (nxu T.r k)).r (k + 1)) = T.withR (nxu T.r (k + 1)) := by
  show (T.s, vp_updL (nxu T.r k) k (nxu T.r k k + nxu T.r k (k + 1)), T.w, T.p, T.b) = _
  rw [nxu_s]
  rfl
theorem wR_0 (T : TS) : T.withR (nxu T.r 0) = T := by
  rw [nxu_0]; rfl
theorem cR_s (T : TS) (R : Nat → Int64) (k : Nat) : (T.withR (cpu T.r R k)).setR k (R k) = T.withR (cpu T.r R (k + 1)) := by
  show (T.s, vp_updL (cpu T.r R k) k (R k), T.w, T.p, T.b) = _
  rw [cpu_sL]
  rfl
theorem cR_0 (T : TS) (R : Nat → Int64) : T.withR (cpu T.r R 0) = T := by
  rw [cpu_0]; rfl
theorem pow_gt1 {n : Nat} (h : 1 ≤ n) : 1 < 10 ^ n := by
  have : 10 ^ 1 ≤ 10 ^ n := Nat.pow_le_pow_right (by decide) h
  omega
theorem pow_dv {n : Nat} (h : 1 ≤ n) : 10 ^ n / 10 = 10 ^ (n - 1) := by
  obtain ⟨m, rfl⟩ : ∃ m, n = m + 1 := ⟨n - 1, by omega⟩
  rw [Nat.pow_succ, Nat.mul_div_cancel _ (by decide)]
  rfl
theorem cpQ (f : Nat → Int64) (b : Nat) (g : Nat → Int64) (i : Nat) : vp_updL (fun j => if j < i then f (b + j) else g j) i (f (b + i)) = fun j => if j < i + 1 then f (b + j) else g j := by
  funext j
  unfold vp_updL
  by_cases e : j = i
  · rw [if_pos e, e, if_pos (by omega)]
  · rw [if_neg e]
    show (if j < i then f (b + j) else g j) = _
    by_cases c : j < i
    · rw [if_pos c, if_pos (by omega)]
    · rw [if_neg c, if_neg (by omega)]
theorem cpQ0 (f : Nat → Int64) (b : Nat) (g : Nat → Int64) : (fun j => if j < 0 then f (b + j) else g j) = g := by
  funext j
  rw [if_neg (by omega)]
theorem bg7_e (T : TS) (pw fi : Nat) : (((T.setS 2 pw).setS 3 fi).setS 4 0).withR (rgt ((((T.setS 2 pw).setS 3 fi).setS 4 0).s 2) ((((T.setS 2 pw).setS 3 fi).setS 4 0).s 3 + (((T.setS 2 pw).setS 3 fi).setS 4 0).s 4)) = bgT T pw fi := by
  have e : upN (upN (upN T.s 2 pw) 3 fi) 4 0 = fun k => if k = 2 then pw else if k = 3 then fi else if k = 4 then 0 else T.s k := by
    funext k
    by_cases h2 : k = 2
    · rw [h2, upN_n (by decide), upN_n (by decide), upN_s]; rfl
    by_cases h3 : k = 3
    · rw [h3, upN_n (by decide), upN_s]; rfl
    by_cases h4 : k = 4
    · rw [h4, upN_s]; rfl
    rw [upN_n h4, upN_n h3, upN_n h2, if_neg h2, if_neg h3, if_neg h4]
  show (upN (upN (upN T.s 2 pw) 3 fi) 4 0, rgt pw (fi + 0), T.w, T.p, T.b) = bgT T pw fi
  rw [e]
  rfl
def mpA (T : TS) (m : Nat) : Nat := if T.s 4 + m ≤ 40 then 0 else 2
theorem p10_le {n : Nat} (h : 10 ^ n ≤ 1) : n = 0 := by
  rcases Nat.eq_zero_or_pos n with z | z
  · exact z
  · exact absurd (pow_gt1 z) (by omega)
theorem p10_gt {n : Nat} (h : 1 < 10 ^ n) : 1 ≤ n := by
  rcases Nat.eq_zero_or_pos n with z | z
  · subst z; exact absurd h (by decide)
  · exact z
theorem sl7_0 (y : Int32) : y.toInt64 = slA y 0 := (Int64.mul_one _).symm
theorem sl7_s (y : Int32) (i : Nat) : slA y i * lN 10 = slA y (i + 1) := Int64.mul_assoc _ _ _
theorem in9_iff {y : Int32} : (¬ y.toInt64 < -9 ∧ ¬ lN 9 < y.toInt64) ↔ (-9 ≤ y.toInt ∧ y.toInt ≤ 9) := by
  rw [i64_gt0 y 9 (by decide), Int64.lt_iff_toInt_lt, Int32.toInt_toInt64, show (-9 : Int64).toInt = -9 from by decide +kernel]
  omega
noncomputable def msA (T : TS) (j k : Nat) (y : Int32) : Nat := @ite _ (-99999999999 ≤ T.r j + slA y k ∧ T.r j + slA y k ≤ lN 99999999999) (Classical.propDecidable _) 0 3
theorem msA_y {T : TS} {j k : Nat} {y : Int32} (h : ¬ (T.r j + slA y k) < -99999999999 ∧ ¬ lN 99999999999 < T.r j + slA y k) : 0 = msA T j k y := (if_pos ⟨Int64.not_lt.mp h.1, Int64.not_lt.mp h.2⟩).symm
theorem msA_n {T : TS} {j k : Nat} {y : Int32} (h : ¬ (¬ (T.r j + slA y k) < -99999999999 ∧ ¬ lN 99999999999 < T.r j + slA y k)) : 3 = msA T j k y := (if_neg (fun z => h ⟨Int64.not_lt.mpr z.1, Int64.not_lt.mpr z.2⟩)).symm
theorem sk7_e (T : TS) (i x : Nat) : ((sk7 (T.setP i (rvT T i)) (ab (rvT T i))).setB i x).setS 6 (((sk7 (T.setP i (rvT T i)) (ab (rvT T i))).setB i x).s 6 + 1) = (fun k => if k = 6 then T.s 6 + 1 else if k = 5 then T.s 5 + nd (ab (rvT T i)) else T.s k, T.r, wad T.w (ab (rvT T i)) (nd (ab (rvT T i))), vp_updL T.p i (rvT T i), upN T.b i x) := by
  have e : upN (fun q => if q = 5 then T.s 5 + nd (ab (rvT T i)) else T.s q) 6 ((if 6 = 5 then T.s 5 + nd (ab (rvT T i)) else T.s 6) + 1) = fun k => if k = 6 then T.s 6 + 1 else if k = 5 then T.s 5 + nd (ab (rvT T i)) else T.s k := by
    funext k
    by_cases h : k = 6
    · rw [h, upN_s, if_pos rfl]; rfl
    · rw [upN_n h, if_neg h]
  show (upN (fun q => if q = 5 then T.s 5 + nd (ab (rvT T i)) else T.s q) 6 ((if 6 = 5 then T.s 5 + nd (ab (rvT T i)) else T.s 6) + 1), T.r, wad T.w (ab (rvT T i)) (nd (ab (rvT T i))), vp_updL T.p i (rvT T i), upN T.b i x) = _
  rw [e]
