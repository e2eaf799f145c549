/-! ===== plain facts: counts, sums, differences, digits ===== -/
noncomputable def ctN (p : Nat → Prop) : Nat → Nat
  | 0 => 0
  | n + 1 => ctN p n + @ite _ (p n) (Classical.propDecidable _) 1 0
theorem ctN_t {p : Nat → Prop} {n : Nat} (h : p n) : ctN p (n + 1) = ctN p n + 1 := by
  show ctN p n + @ite _ (p n) (Classical.propDecidable _) 1 0 = _
  rw [if_pos h]
theorem ctN_f {p : Nat → Prop} {n : Nat} (h : ¬ p n) : ctN p (n + 1) = ctN p n := by
  show ctN p n + @ite _ (p n) (Classical.propDecidable _) 1 0 = _
  rw [if_neg h]; rfl
theorem ctN_le (p : Nat → Prop) : ∀ n, ctN p n ≤ n
  | 0 => Nat.le_refl 0
  | n + 1 => by
    have ih := ctN_le p n
    by_cases h : p n
    · rw [ctN_t h]; omega
    · rw [ctN_f h]; omega
theorem ctN_cg {p q : Nat → Prop} : ∀ {n : Nat}, (∀ k, k < n → (p k ↔ q k)) → ctN p n = ctN q n
  | 0, _ => rfl
  | n + 1, h => by
    have ih := ctN_cg (n := n) (fun k hk => h k (by omega))
    have hn := h n (by omega)
    by_cases hp : p n
    · rw [ctN_t hp, ctN_t (hn.mp hp), ih]
    · rw [ctN_f hp, ctN_f (fun z => hp (hn.mpr z)), ih]
theorem ctN_0 {p : Nat → Prop} : ∀ {n : Nat}, ctN p n = 0 ↔ ∀ k, k < n → ¬ p k
  | 0 => ⟨fun _ k hk => absurd hk (Nat.not_lt_zero k), fun _ => rfl⟩
  | n + 1 => by
    have ih := ctN_0 (p := p) (n := n)
    by_cases h : p n
    · rw [ctN_t h]
      exact ⟨fun z => by omega, fun z => absurd h (z n (by omega))⟩
    · rw [ctN_f h, ih]
      constructor
      · intro z k hk
        rcases Nat.lt_or_ge k n with q | q
        · exact z k q
        · have : k = n := by omega
          rw [this]; exact h
      · intro z k hk
        exact z k (by omega)
theorem ctN_add (p : Nat → Prop) (m : Nat) : ∀ n, ctN p (m + n) = ctN p m + ctN (fun k => p (m + k)) n
  | 0 => rfl
  | n + 1 => by
    have ih := ctN_add p m n
    have e : m + (n + 1) = (m + n) + 1 := rfl
    by_cases h : p (m + n)
    · rw [e, ctN_t h, ctN_t (p := fun k => p (m + k)) h, ih]; omega
    · rw [e, ctN_f h, ctN_f (p := fun k => p (m + k)) h, ih]
theorem ctN_thr {p : Nat → Prop} {t n : Nat} (h1 : ∀ j, j < t → p j) (h2 : ∀ j, t ≤ j → j < n → ¬ p j) (h : t ≤ n) : ctN p n = t := by
  obtain ⟨d, rfl⟩ : ∃ d, n = t + d := ⟨n - t, by omega⟩
  rw [ctN_add, ctN_0.mpr (fun k hk => h2 (t + k) (by omega) (by omega))]
  have : ∀ m, m ≤ t → ctN p m = m := by
    intro m
    induction m with
    | zero => intro _; rfl
    | succ m ih => intro hm; rw [ctN_t (h1 m (by omega)), ih (by omega)]
  rw [this t (Nat.le_refl t)]; rfl
def smN (f : Nat → Nat) : Nat → Nat
  | 0 => 0
  | n + 1 => smN f n + f n
theorem smN_cg {f g : Nat → Nat} : ∀ {n : Nat}, (∀ k, k < n → f k = g k) → smN f n = smN g n
  | 0, _ => rfl
  | n + 1, h => by
    show smN f n + f n = smN g n + g n
    rw [smN_cg (fun k hk => h k (by omega)), h n (by omega)]
theorem smN_le {f : Nat → Nat} {c : Nat} : ∀ {n : Nat}, (∀ k, k < n → f k ≤ c) → smN f n ≤ n * c
  | 0, _ => by rw [Nat.zero_mul]; exact Nat.le_refl 0
  | n + 1, h => by
    have ih := smN_le (f := f) (c := c) (n := n) (fun k hk => h k (by omega))
    have h1 := h n (by omega)
    show smN f n + f n ≤ (n + 1) * c
    rw [Nat.succ_mul]; omega
def smL (f : Nat → Int64) : Nat → Int64
  | 0 => lN 0
  | n + 1 => smL f n + f n
theorem smL_cg {f g : Nat → Int64} : ∀ {n : Nat}, (∀ k, k < n → f k = g k) → smL f n = smL g n
  | 0, _ => rfl
  | n + 1, h => by
    show smL f n + f n = smL g n + g n
    rw [smL_cg (fun k hk => h k (by omega)), h n (by omega)]
/-- rows of numbers, the first i of them given way to their differences -/
def dfu (f : Nat → Int64) (i : Nat) : Nat → Int64 := fun k => if k < i then f (k + 1) - f k else f k
theorem dfu_0 (f : Nat → Int64) : dfu f 0 = f := by
  funext k
  exact if_neg (Nat.not_lt_zero k)
theorem dfu_lo {f : Nat → Int64} {i k : Nat} (h : k < i) : dfu f i k = f (k + 1) - f k := if_pos h
theorem dfu_hi {f : Nat → Int64} {i k : Nat} (h : ¬ k < i) : dfu f i k = f k := if_neg h
theorem dfu_s (f : Nat → Int64) (i : Nat) : vp_updL (dfu f i) i (dfu f i (i + 1) - dfu f i i) = dfu f (i + 1) := by
  funext k
  unfold vp_updL
  rw [dfu_hi (f := f) (i := i) (k := i + 1) (by omega), dfu_hi (f := f) (i := i) (k := i) (by omega)]
  by_cases h : k = i
  · subst h
    rw [if_pos rfl, dfu_lo (Nat.lt_succ_self k)]
  · rw [if_neg h]
    by_cases h2 : k < i
    · rw [dfu_lo h2, dfu_lo (Nat.lt_succ_of_lt h2)]
    · rw [dfu_hi h2, dfu_hi (by omega)]
/-- the registers behind a row: the first i of them already more by the next one -/
def nxu (r : Nat → Int64) (i : Nat) : Nat → Int64 := fun k => if k < i then r k + r (k + 1) else r k
abbrev nxR (r : Nat → Int64) : Nat → Int64 := nxu r 5
theorem nxu_0 (r : Nat → Int64) : nxu r 0 = r := by
  funext k
  exact if_neg (Nat.not_lt_zero k)
theorem nxu_lo {f : Nat → Int64} {i k : Nat} (h : k < i) : nxu f i k = f k + f (k + 1) := if_pos h
theorem nxu_hi {f : Nat → Int64} {i k : Nat} (h : ¬ k < i) : nxu f i k = f k := if_neg h
theorem nxu_s (f : Nat → Int64) (i : Nat) : vp_updL (nxu f i) i (nxu f i i + nxu f i (i + 1)) = nxu f (i + 1) := by
  funext k
  unfold vp_updL
  rw [nxu_hi (f := f) (i := i) (k := i + 1) (by omega), nxu_hi (f := f) (i := i) (k := i) (by omega)]
  by_cases h : k = i
  · subst h
    rw [if_pos rfl, nxu_lo (Nat.lt_succ_self k)]
  · rw [if_neg h]
    by_cases h2 : k < i
    · rw [nxu_lo h2, nxu_lo (Nat.lt_succ_of_lt h2)]
    · rw [nxu_hi h2, nxu_hi (by omega)]
/-- the first i places of g, the rest of f -/
def cpu {α : Type} (f g : Nat → α) (i : Nat) : Nat → α := fun k => if k < i then g k else f k
theorem cpu_0 {α : Type} (f g : Nat → α) : cpu f g 0 = f := by
  funext k
  exact if_neg (Nat.not_lt_zero k)
theorem cpu_lo {α : Type} {f g : Nat → α} {i k : Nat} (h : k < i) : cpu f g i k = g k := if_pos h
theorem cpu_sL (f g : Nat → Int64) (i : Nat) : vp_updL (cpu f g i) i (g i) = cpu f g (i + 1) := by
  funext k
  unfold vp_updL cpu
  by_cases h : k = i
  · subst h
    rw [if_pos rfl, if_pos (Nat.lt_succ_self k)]
  · rw [if_neg h]
    by_cases h2 : k < i
    · rw [if_pos h2, if_pos (by omega)]
    · rw [if_neg h2, if_neg (by omega)]
theorem cpu_sN (f g : Nat → Nat) (i : Nat) : upd (fun k => nI (cpu f g i k)) i (nI (g i)) = fun k => nI (cpu f g (i + 1) k) := by
  funext k
  show (if k = i then nI (g i) else nI (if k < i then g k else f k)) = nI (if k < i + 1 then g k else f k)
  by_cases h : k = i
  · subst h
    rw [if_pos rfl, if_pos (Nat.lt_succ_self k)]
  · rw [if_neg h]
    by_cases h2 : k < i
    · rw [if_pos h2, if_pos (by omega)]
    · rw [if_neg h2, if_neg (by omega)]
theorem upN_s {w : Nat → Nat} {k x : Nat} : upN w k x k = x := if_pos rfl
theorem upN_n {w : Nat → Nat} {k x j : Nat} (h : j ≠ k) : upN w k x j = w j := if_neg h
/-- digits: how many there are; how often d is among the lowest k; the wear behind them; what is blurred -/
def dgt (a j : Nat) : Nat := a / 10 ^ j % 10
theorem dgt_lt (a j : Nat) : dgt a j < 10 := Nat.mod_lt _ (by decide)
noncomputable def nd (a : Nat) : Nat := 1 + ctN (fun j => a / 10 ^ (j + 1) ≠ 0) 19
theorem nd_of {a i : Nat} (h1 : 1 ≤ i) (h2 : a / 10 ^ i = 0) (h3 : ∀ j, 1 ≤ j → j < i → a / 10 ^ j ≠ 0) (hi : i ≤ 20) : nd a = i := by
  unfold nd
  rw [ctN_thr (t := i - 1) (fun j hj => h3 (j + 1) (by omega) (by omega)) (fun j h4 _ z => z ?_) (by omega)]
  · omega
  · have : a < 10 ^ i := by
      rcases Nat.lt_or_ge a (10 ^ i) with q | q
      · exact q
      · have := Nat.div_pos q (Nat.pow_pos (by decide)); omega
    exact Nat.div_eq_of_lt (Nat.lt_of_lt_of_le this (Nat.pow_le_pow_right (by decide) (by omega)))
noncomputable def wad (w : Nat → Nat) (a k : Nat) : Nat → Nat := fun d => w d + ctN (fun j => dgt a j = d) k
theorem wad_0 (w : Nat → Nat) (a : Nat) : wad w a 0 = w := rfl
theorem wad_s (w : Nat → Nat) (a k : Nat) : upN (wad w a k) (dgt a k) (wad w a k (dgt a k) + 1) = wad w a (k + 1) := by
  funext d
  by_cases h : d = dgt a k
  · subst h
    rw [upN_s]
    show w _ + ctN _ k + 1 = w _ + ctN _ (k + 1)
    rw [ctN_t (p := fun j => dgt a j = dgt a k) rfl]; rfl
  · rw [upN_n h]
    show w _ + ctN _ k = w _ + ctN _ (k + 1)
    rw [ctN_f (p := fun j => dgt a j = d) (fun z => h z.symm)]
theorem wad_le (w : Nat → Nat) (a k d : Nat) : wad w a k d ≤ w d + k := Nat.add_le_add_left (ctN_le _ k) _
theorem wad_ge (w : Nat → Nat) (a k d : Nat) : w d ≤ wad w a k d := Nat.le_add_right _ _
def blu (w : Nat → Nat) (L : Nat) : Nat := smN (fun d => w d - L) 10
theorem smN_up (f : Nat → Nat) (d x : Nat) : ∀ {n : Nat}, d < n → smN (fun k => if k = d then x else f k) n + f d = smN f n + x
  | 0, h => absurd h (Nat.not_lt_zero d)
  | n + 1, h => by
    show smN _ n + (if n = d then x else f n) + f d = smN f n + f n + x
    by_cases hd : n = d
    · subst hd
      rw [if_pos rfl, smN_cg (g := f) (fun k hk => if_neg (by omega))]; omega
    · have ih := smN_up f d x (n := n) (by omega)
      rw [if_neg hd]; omega
theorem blu_s {w : Nat → Nat} {L d : Nat} (hd : d < 10) : blu (upN w d (w d + 1)) L = blu w L + (if L < w d + 1 then 1 else 0) := by
  unfold blu
  have h := smN_up (fun k => w k - L) d (w d + 1 - L) hd
  have e : smN (fun k => upN w d (w d + 1) k - L) 10 = smN (fun k => if k = d then w d + 1 - L else w k - L) 10 := smN_cg (fun k _ => by
    by_cases hk : k = d
    · subst hk; simp only [upN_s, if_true]
    · simp only [upN_n hk, if_neg hk])
  rw [e]
  by_cases hl : L < w d + 1
  · rw [if_pos hl]; omega
  · rw [if_neg hl]; omega
/-- how many digits of a are blurred, printed by types of the wear w -/
noncomputable def prB (a : Nat) (w : Nat → Nat) (L : Nat) : Nat := blu (wad w a (nd a)) L - blu w L
def ab (x : Int64) : Nat := x.toInt.natAbs
theorem lN_neg_toInt {a : Nat} (h : a < 2 ^ 63) : (-(lN a)).toInt = -(a : Int) := by
  have h1 := pk_lT h
  rw [Int64.toInt_neg, h1]
  exact Int.bmod_eq_of_le (by omega) (by omega)
theorem ab_pos {x : Int64} (h : 0 ≤ x) : x = lN (ab x) := by
  apply Int64.toInt_inj.mp
  have h1 : 0 ≤ x.toInt := by rw [Int64.le_iff_toInt_le] at h; exact h
  have h2 := Int64.toInt_lt x
  rw [pk_lT (by unfold ab; omega)]
  unfold ab; omega
theorem ab_neg {x : Int64} (h : x ≤ lN 0) (h2 : ab x < 2 ^ 63) : x = -(lN (ab x)) := by
  apply Int64.toInt_inj.mp
  have h1 : x.toInt ≤ 0 := by rw [Int64.le_iff_toInt_le] at h; exact h
  rw [lN_neg_toInt h2]
  unfold ab; omega
theorem ab_negp {x : Int64} (h : lN 0 < x) : -x = -(lN (ab x)) := by
  rw [← ab_pos (by rw [Int64.le_iff_toInt_le]; rw [Int64.lt_iff_toInt_lt] at h; exact Int.le_of_lt h)]
theorem ng_div {b : Nat} (h : b < 2 ^ 63) : (-(lN b)) / lN 10 = -(lN (b / 10)) := by
  apply Int64.toInt_inj.mp
  rw [Int64.toInt_div_of_ne_right _ _ (by decide), lN_neg_toInt h, lN_neg_toInt (by omega), pk_lT (by decide)]
  rw [Int.neg_tdiv]; congr 1
theorem ng_rem {b : Nat} : -((-(lN b)) - (-(lN (b / 10))) * lN 10) = lN (b % 10) := by
  have h : b = b / 10 * 10 + b % 10 := by omega
  have e : lN b = lN (b / 10) * lN 10 + lN (b % 10) := by rw [lN_mul, lN_add, ← h]
  rw [e]
  grind
theorem ng_ne {b : Nat} (h : b < 2 ^ 63) : -(lN b) ≠ lN 0 ↔ b ≠ 0 := by
  apply not_congr
  rw [← Int64.toInt_inj, lN_neg_toInt h]
  show -(b : Int) = 0 ↔ b = 0
  omega
theorem wad_d (w : Nat → Nat) (a k : Nat) : wad w a (k + 1) (dgt a k) = wad w a k (dgt a k) + 1 := by
  rw [← wad_s, upN_s]
/-- powers, and the differences of a row of numbers -/
def pwr (x : Int64) : Nat → Int64
  | 0 => lN 1
  | k + 1 => pwr x k * x
def dif (P : Nat → Int64) : Nat → Nat → Int64
  | 0, k => P k
  | j + 1, k => dif P j (k + 1) - dif P j k
/-- the numbers right from an argument on, and the registers that are right for it -/
def prw (k g : Nat) : Nat → Int64 := fun i => pwr (lN (g + i)) k
def rgt (k g : Nat) : Nat → Int64 := fun j => dif (prw k g) j 0
/-- the orders as a text, read by states: 10 for an error -/
def nxL (c : Nat) : Nat := if c = 112 then 1 else if c = 115 then 4 else if c = 99 then 9 else if c = 110 then 8 else 10
def nxE (c : Nat) : Nat := if c = 59 then 0 else 10
def nxW (c : Nat) : Nat := if 49 ≤ c ∧ c ≤ 51 then 2 else if c = 52 then 3 else if 53 ≤ c ∧ c ≤ 57 then 9 else 10
def nxt (q c : Nat) : Nat := match q with
  | 0 => nxL c
  | 1 => nxW c
  | 2 => if 48 ≤ c ∧ c ≤ 57 then 9 else nxE c
  | 3 => if c = 48 then 9 else nxE c
  | 4 => if 48 ≤ c ∧ c ≤ 53 then 5 else 10
  | 5 => if 48 ≤ c ∧ c ≤ 57 then 6 else 10
  | 6 => if c = 43 ∨ c = 45 then 7 else 10
  | 7 => if 49 ≤ c ∧ c ≤ 57 then 9 else 10
  | 8 => if 48 ≤ c ∧ c ≤ 57 then 9 else 10
  | 9 => nxE c
  | _ => 10
def stI (q : Nat) : Int32 := if q < 10 then nI q else -1
theorem nxt_le (q c : Nat) : nxt q c ≤ 10 := by
  unfold nxt nxL nxE nxW
  repeat' split
  all_goals omega
def rnA (cs : Nat → Nat) : Nat → Nat
  | 0 => 0
  | i + 1 => nxt (rnA cs i) (cs i)
theorem rnA_le (cs : Nat → Nat) : ∀ i, rnA cs i ≤ 10
  | 0 => Nat.zero_le _
  | i + 1 => nxt_le _ _
theorem rnA_10 (cs : Nat → Nat) {i j : Nat} (h : i ≤ j) (h1 : rnA cs i = 10) : rnA cs j = 10 := by
  obtain ⟨d, rfl⟩ : ∃ d, j = i + d := ⟨j - i, by omega⟩
  induction d with
  | zero => exact h1
  | succ d ih =>
    show nxt (rnA cs (i + d)) _ = 10
    rw [ih (by omega)]; rfl
noncomputable def erI (cs : Nat → Nat) (n : Nat) : Nat := ctN (fun k => rnA cs (k + 1) ≠ 10) n
def cdA (cs : Nat → Nat) (n j : Nat) : Nat := if j < n then cs j else 0
theorem stI_ne {q : Nat} (h : q ≤ 10) : stI q = -1 ↔ q = 10 := by
  unfold stI
  rcases Nat.lt_or_ge q 10 with z | z
  · rw [if_pos z]
    constructor
    · intro e
      exfalso
      have h1 : (nI q).toInt = (-1 : Int32).toInt := by rw [e]
      rw [nI_toInt (by omega)] at h1
      have h2 : (-1 : Int32).toInt = -1 := by decide
      omega
    · intro e; omega
  · rw [if_neg (by omega)]
    exact ⟨fun _ => by omega, fun _ => rfl⟩
