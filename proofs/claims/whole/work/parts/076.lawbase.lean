/-! ===== own base: what the law keeps from call to call ===== -/
/-- a table and its right numbers, after so many calls that B bounds its wear -/
def GT (B : Nat) (T : TS) (g : Nat → Int64) : Prop := OKT B T ∧ (1 ≤ T.s 0 ∧ T.s 0 ≤ 20) ∧ (∀ k, k < 40 → T.b k ≤ 20) ∧ (∀ k, k < T.s 4 → g k = rvT T k)
theorem OKT.mono {B B' : Nat} {T : TS} (h : OKT B T) (hB : B ≤ B') : OKT B' T := by
  obtain ⟨h4, h3, h2, hr, hw, h1, h5⟩ := h
  exact ⟨h4, h3, h2, hr, fun d hd => Nat.le_trans (hw d hd) hB, h1, Nat.le_trans h5 hB⟩
theorem GT.mono {B B' : Nat} {T : TS} {g : Nat → Int64} (h : GT B T g) (hB : B ≤ B') : GT B' T g := ⟨h.1.mono hB, h.2⟩
theorem GT_begin {B : Nat} {T : TS} {g : Nat → Int64} {pw fi : Nat} (h : GT B T g) (hp : pw ≤ 5) (hf : fi ≤ 99) : GT (B + 800) (bgT T pw fi) g := by
  obtain ⟨⟨h4, h3, h2, hr, hw, h1, h5⟩, h0, hb, hg⟩ := h
  refine ⟨⟨Nat.zero_le _, hf, hp, RB_mono (m := 0) (fun j hj => rgt_b _ (by omega) _ (by omega) j hj) (show (0 : Nat) ≤ 80 by decide), fun d hd => ?_, h1, ?_⟩, h0, hb, fun k hk => absurd hk (Nat.not_lt_zero _)⟩
  · have a := hw d hd
    show T.w d + 20 * (40 - 0) ≤ B + 800
    omega
  · show T.s 5 + 20 * (40 - 0) ≤ B + 800
    omega
theorem OKT_st {B : Nat} {T : TS} {k : Nat} (h : OKT B T) (hk : T.s 4 + k ≤ 40) : OKT B (stN T k) := by
  obtain ⟨h4, h3, h2, hr, hw, h1, h5⟩ := h
  obtain ⟨z4, z3, z2, z1, -, -⟩ := stN_s (T := T) (k := k)
  have zr := RB_st hr (k := k) (by omega)
  have zg := stN_g (T := T) (k := k)
  unfold OKT
  rw [z4, z3, z2, z1]
  refine ⟨hk, h3, h2, zr, fun d hd => ?_, h1, by omega⟩
  have a := hw d hd
  have b := stN_w (T := T) (d := d) (k := k)
  omega
theorem stN_bb {T : TS} (h : ∀ k, k < 40 → T.b k ≤ 20) : ∀ n k, k < 40 → (stN T n).b k ≤ 20 := by
  intro n
  induction n with
  | zero => exact h
  | succ n ih =>
    intro k hk
    show upN (stN T n).b ((stN T n).s 4) (prB (ab ((stN T n).r 0)) (stN T n).w ((stN T n).s 1)) k ≤ 20
    by_cases e : k = (stN T n).s 4
    · rw [e, upN_s]; exact prB_le _ _ _
    · rw [upN_n e]; exact ih k hk
theorem rvT_st {T : TS} {n k : Nat} : rvT (stN T n) k = rvT T k := by
  obtain ⟨-, z3, z2, -, -, -⟩ := stN_s (T := T) (k := n)
  unfold rvT
  rw [z3, z2]
theorem grN_v {T : TS} {g : Nat → Int64} (h : ∀ k, k < T.s 4 → g k = rvT T k) : ∀ n k, k < T.s 4 + n → grN T g n k = rvT T k := by
  intro n
  induction n with
  | zero => exact h
  | succ n ih =>
    intro k hk
    obtain ⟨z4, -, -, -, -, -⟩ := stN_s (T := T) (k := n)
    show vp_updL (grN T g n) ((stN T n).s 4) (rvT (stN T n) ((stN T n).s 4)) k = rvT T k
    rw [z4, rvT_st]
    by_cases e : k = T.s 4 + n
    · rw [e]; exact if_pos rfl
    · exact (if_neg e).trans (ih k (by omega))
theorem GT_print {B : Nat} {T : TS} {g : Nat → Int64} {k : Nat} (h : GT B T g) (hk : T.s 4 + k ≤ 40) : GT B (stN T k) (grN T g k) := by
  obtain ⟨hO, h0, hb, hg⟩ := h
  obtain ⟨z4, -, -, -, z0, -⟩ := stN_s (T := T) (k := k)
  refine ⟨OKT_st hO hk, by rw [z0]; exact h0, stN_bb hb k, fun i hi => ?_⟩
  rw [rvT_st]
  rw [z4] at hi
  exact grN_v hg k i hi
theorem GT_slip {B j : Nat} {T : TS} {g : Nat → Int64} {x : Int64} (h : GT B T g) (hx : -99999999999 ≤ x ∧ x ≤ lN 99999999999) : GT B (T.setR j x) g := by
  obtain ⟨⟨h4, h3, h2, hr, hw, h1, h5⟩, h0, hb, hg⟩ := h
  exact ⟨⟨h4, h3, h2, RB_up hr (show T.s 4 ≤ 80 by omega) hx, hw, h1, h5⟩, h0, hb, hg⟩
theorem GT_right {B : Nat} {T : TS} {g : Nat → Int64} (h : GT B T g) : GT B (T.withR (rgt (T.s 2) (T.s 3 + T.s 4))) g := by
  obtain ⟨⟨h4, h3, h2, hr, hw, h1, h5⟩, h0, hb, hg⟩ := h
  exact ⟨⟨h4, h3, h2, RB_mono (m := 0) (fun j hj => rgt_b _ (by omega) _ (by omega) j hj) (show T.s 4 ≤ 80 by omega), hw, h1, h5⟩, h0, hb, hg⟩
theorem GT_renew {B d : Nat} {T : TS} {g : Nat → Int64} (h : GT B T g) : GT B (T.setW d 0) g := by
  obtain ⟨⟨h4, h3, h2, hr, hw, h1, h5⟩, h0, hb, hg⟩ := h
  refine ⟨⟨h4, h3, h2, hr, fun i hi => ?_, h1, h5⟩, h0, hb, hg⟩
  have a := hw i hi
  show upN T.w d 0 i + 20 * (40 - T.s 4) ≤ B
  unfold upN
  split <;> omega
theorem GT_set {B k v : Nat} {T : TS} {g : Nat → Int64} (h : GT B T g) (hk : k < 2) (h1v : 1 ≤ v) (hv : k = 0 → v ≤ 20) (hv2 : v ≤ 999) : GT B (T.setS k v) g := by
  obtain ⟨⟨h4, h3, h2, hr, hw, h1, h5⟩, h0, hb, hg⟩ := h
  have e : ∀ i, i ≠ k → (T.setS k v).s i = T.s i := fun i hi => upN_n hi
  rcases (show k = 0 ∨ k = 1 by omega) with rfl | rfl
  · exact ⟨⟨h4, h3, h2, hr, hw, h1, h5⟩, ⟨h1v, hv rfl⟩, hb, hg⟩
  · exact ⟨⟨h4, h3, h2, hr, hw, (show v < 2 ^ 30 by omega), h5⟩, h0, hb, hg⟩
theorem GT_strike {B i : Nat} {T : TS} {g : Nat → Int64} (h : GT B T g) : GT (B + 20) (skT T g i) g := by
  obtain ⟨⟨h4, h3, h2, hr, hw, h1, h5⟩, h0, hb, hg⟩ := h
  refine ⟨⟨h4, h3, h2, hr, fun d hd => ?_, h1, ?_⟩, h0, fun k hk => ?_, hg⟩
  · have a := hw d hd
    have b := wad_le T.w (ab (g i)) (nd (ab (g i))) d
    have c := nd_le (ab (g i))
    show wad T.w (ab (g i)) (nd (ab (g i))) d + 20 * (40 - T.s 4) ≤ B + 20
    omega
  · have c := nd_le (ab (g i))
    show T.s 5 + nd (ab (g i)) + 20 * (40 - T.s 4) ≤ B + 20
    omega
  · show upN T.b i (prB (ab (g i)) T.w (T.s 1)) k ≤ 20
    by_cases e : k = i
    · rw [e, upN_s]; exact prB_le _ _ _
    · rw [upN_n e]; exact hb k hk
theorem GT_cr {B : Nat} {T : TS} {g : Nat → Int64} {cs : Nat → Nat} {n q : Nat} (h : GT B T g) : GT B (crT T cs n q) (crG T g cs n q) := by
  have hO := crT_ok (cs := cs) (n := n) (q := q) h.1
  rcases crCases (cdA cs n q) with e | e | e | ⟨e1, e2, e3⟩
  · rw [(cr_p (T := T) (g := g) (n := n) e).1, (cr_p (T := T) (g := g) (n := n) e).2.1]
    by_cases hk : T.s 4 + nmA cs n (q + 1) ≤ 40
    · rw [show prT T (nmA cs n (q + 1)) = stN T (nmA cs n (q + 1)) from if_pos hk, show prG T g (nmA cs n (q + 1)) = grN T g (nmA cs n (q + 1)) from if_pos hk]
      exact GT_print h hk
    · rw [show prT T (nmA cs n (q + 1)) = T from if_neg hk, show prG T g (nmA cs n (q + 1)) = g from if_neg hk]
      exact h
  · rw [(cr_s (T := T) (g := g) (n := n) e).1] at hO ⊢
    rw [(cr_s (T := T) (g := g) (n := n) e).2.1]
    exact ⟨hO, h.2⟩
  · rw [(cr_c (T := T) (g := g) (n := n) e).1] at hO ⊢
    rw [(cr_c (T := T) (g := g) (n := n) e).2.1]
    exact ⟨hO, h.2⟩
  · rw [(cr_n (T := T) (g := g) (n := n) e1 e2 e3).1] at hO ⊢
    rw [(cr_n (T := T) (g := g) (n := n) e1 e2 e3).2.1]
    exact ⟨hO, h.2⟩
theorem GT_ob {B : Nat} {T : TS} {g : Nat → Int64} {cs : Nat → Nat} {n : Nat} (h : GT B T g) : ∀ q, GT B (obT cs n T g q) (obG cs n T g q) := by
  intro q
  induction q with
  | zero => exact h
  | succ q ih =>
    unfold obT obG
    by_cases c : obO cs n T g q ∧ (q = 0 ∨ cdA cs n (q - 1) = 59)
    · rw [ob_t c]; exact GT_cr ih
    · rw [ob_f c]; exact ih
theorem GT_I : GT 1000 tsI (fun _ => 0) := by
  refine ⟨⟨by decide, by decide, by decide, RB_mono (m := 0) (fun j hj => rgt_b 2 (by decide) 0 (by decide) j hj) (show (0 : Nat) ≤ 80 by decide), fun d hd => (show 0 + 20 * (40 - 0) ≤ 1000 by decide), by decide, by decide⟩, ⟨by decide, by decide⟩, fun k hk => (show (0 : Nat) ≤ 20 by decide), fun k hk => absurd hk (Nat.not_lt_zero _)⟩
/-- all that is kept -/
def GS (B n : Nat) (Ss : Nat → TS) (Gs : Nat → Nat → Int64) : Prop := n ≤ 6 ∧ ∀ q, q < n → GT B (Ss q) (Gs q)
theorem GS.mono {B B' n : Nat} {Ss : Nat → TS} {Gs : Nat → Nat → Int64} (h : GS B n Ss Gs) (hB : B ≤ B') : GS B' n Ss Gs := ⟨h.1, fun q hq => (h.2 q hq).mono hB⟩
theorem GS_keep {B n : Nat} {Ss : Nat → TS} {Gs : Nat → Nat → Int64} {T : TS} {g : Nat → Int64} (h : GS B n Ss Gs) (hT : GT B T g) : GS B (mn6 n) (svS Ss n T) (svS Gs n g) := by
  obtain ⟨h1, h2⟩ := h
  unfold mn6 svS
  by_cases c : n < 6
  · rw [if_pos c]
    refine ⟨by omega, fun q hq => ?_⟩
    simp only [c, if_true]
    by_cases e : q = n
    · rw [if_pos e, if_pos e]; exact hT
    · rw [if_neg e, if_neg e]; exact h2 q (by omega)
  · rw [if_neg c]
    refine ⟨by omega, fun q hq => ?_⟩
    simp only [c, if_false]
    by_cases e : q < 5
    · rw [if_pos e, if_pos e]; exact h2 (q + 1) (by omega)
    · rw [if_neg e, if_neg e]; exact hT
theorem GS_drop {B n : Nat} {Ss : Nat → TS} {Gs : Nat → Nat → Int64} (h : GS B n Ss Gs) (h1 : 1 ≤ n) : GS B (n - 1) Ss Gs ∧ GT B (Ss (n - 1)) (Gs (n - 1)) := by
  have h2 := h.1
  exact ⟨⟨by omega, fun q hq => h.2 q (by omega)⟩, h.2 _ (by omega)⟩
/-- numbers of the rows of the page alone are looked at -/
theorem rowA_g {T : TS} {g g' : Nat → Int64} {i : Nat} (h : g i = g' i) (w : Nat) : rowA T g i w = rowA T g' i w := by
  unfold rowA
  rcases w with _ | _ | _ | _ | w <;> first | rfl | exact h | exact congrArg (fun z => T.p i - z) h
theorem skT_g {T : TS} {g g' : Nat → Int64} {i : Nat} (h : g i = g' i) : skT T g i = skT T g' i := by
  unfold skT
  rw [h]
theorem grB_g {T : TS} {g g' : Nat → Int64} {q : Nat} (h : ∀ k, k < T.s 0 → g (q * T.s 0 + k) = g' (q * T.s 0 + k)) (w : Nat) : grB T g q w = grB T g' q w := by
  have e : smL (fun k => g (q * T.s 0 + k)) (q * T.s 0 + T.s 0 - q * T.s 0) = smL (fun k => g' (q * T.s 0 + k)) (q * T.s 0 + T.s 0 - q * T.s 0) := smL_cg (fun k hk => h k (by omega))
  have e2 : ctN (fun k => T.p (q * T.s 0 + k) ≠ g (q * T.s 0 + k)) (q * T.s 0 + T.s 0 - q * T.s 0) = ctN (fun k => T.p (q * T.s 0 + k) ≠ g' (q * T.s 0 + k)) (q * T.s 0 + T.s 0 - q * T.s 0) := ctN_cg (fun k hk => by rw [h k (by omega)])
  unfold grB
  rcases w with _ | _ | _ | w <;> first | rfl | exact e | exact congrArg lN e2 | exact congrArg (fun z => lN (b01 (smL (fun k => T.p (q * T.s 0 + k)) (q * T.s 0 + T.s 0 - q * T.s 0) ≠ z))) e
theorem gq_in {n z q k : Nat} (hq : q < n / z) (hk : k < z) : q * z + k < n := by
  have h := gq_le hq
  rw [Nat.mul_comm] at h
  omega
theorem grA_g {T : TS} {g g' : Nat → Int64} (h : ∀ k, k < T.s 4 → g k = g' k) (q w : Nat) : grA T g q w = grA T g' q w := by
  unfold grA
  by_cases c : q < T.s 4 / T.s 0
  · rw [if_pos c, if_pos c]
    exact grB_g (fun k hk => h _ (gq_in c hk)) w
  · rw [if_neg c, if_neg c]
theorem fw_cg {P Q : Nat → Prop} {n : Nat} (h : ∀ k, k < n → (P k ↔ Q k)) : fw P n = fw Q n := ctN_cg (fun k hk => ⟨fun z j hj w => z j hj ((h j (by omega)).mpr w), fun z j hj w => z j hj ((h j (by omega)).mp w)⟩)
theorem fwI_cg {P Q : Nat → Prop} {n : Nat} (h : ∀ k, k < n → (P k ↔ Q k)) : fwI P n = fwI Q n := by
  unfold fwI
  rw [fw_cg h]
theorem ne_cg {T : TS} {g g' : Nat → Int64} (h : ∀ k, k < T.s 4 → g k = g' k) : ∀ k, k < T.s 4 → (T.p k ≠ g k ↔ T.p k ≠ g' k) := fun k hk => by rw [h k hk]
theorem gwr_g {p g g' : Nat → Int64} {q z : Nat} (h : ∀ k, k < z → g (q * z + k) = g' (q * z + k)) : gwr p g q z ↔ gwr p g' q z := by
  have e : smL (fun k => g (q * z + k)) ((q + 1) * z - q * z) = smL (fun k => g' (q * z + k)) ((q + 1) * z - q * z) := smL_cg (fun k hk => h k (by rw [Nat.succ_mul, Nat.add_sub_cancel_left] at hk; exact hk))
  unfold gwr
  rw [e]
theorem cntA_g {T : TS} {g g' : Nat → Int64} (h : ∀ k, k < T.s 4 → g k = g' k) (n w : Nat) : cntA T g n w = cntA T g' n w := by
  have e3 : ctN (fun k => T.p (0 + k) ≠ g (0 + k)) (T.s 4 - 0) = ctN (fun k => T.p (0 + k) ≠ g' (0 + k)) (T.s 4 - 0) := ctN_cg (fun k hk => by rw [h (0 + k) (by omega)])
  have e4 : fwI (fun k => T.p k ≠ g k) (T.s 4) = fwI (fun k => T.p k ≠ g' k) (T.s 4) := fwI_cg (ne_cg h)
  have e6 : ctN (fun q => gwr T.p g q (T.s 0)) (T.s 4 / T.s 0) = ctN (fun q => gwr T.p g' q (T.s 0)) (T.s 4 / T.s 0) := ctN_cg (fun q hq => gwr_g (fun k hk => h _ (gq_in hq hk)))
  unfold cntA
  rcases w with _ | _ | _ | _ | _ | _ | _ | _ | _ | _ | _ | _ | w <;> first | rfl | exact congrArg nI e3 | exact e4 | exact congrArg nI e6
theorem dif_cg {P Q : Nat → Int64} : ∀ {j i : Nat}, (∀ k, k ≤ i + j → P k = Q k) → dif P j i = dif Q j i := by
  intro j
  induction j with
  | zero => intro i h; exact h i (by omega)
  | succ j ih =>
    intro i h
    show dif P j (i + 1) - dif P j i = dif Q j (i + 1) - dif Q j i
    rw [ih (i := i + 1) (fun k hk => h k (by omega)), ih (i := i) (fun k hk => h k (by omega))]
theorem gsE_g {T : TS} {g g' : Nat → Int64} {b k : Nat} (h : ∀ k, k < T.s 4 → g k = g' k) (hk : b + k < T.s 4) : gsE T g b k = gsE T g' b k := by
  unfold gsE
  rw [h _ hk]
theorem gsP_g {T : TS} {g g' : Nat → Int64} {b : Nat} (h : ∀ k, k < T.s 4 → g k = g' k) (j : Nat) : gsP T g b j ↔ gsP T g' b j := by
  have e : ∀ i, i < T.s 4 - b - j → dif (gsE T g b) j i = dif (gsE T g' b) j i := fun i hi => dif_cg (fun k hk => gsE_g h (by omega))
  unfold gsP
  constructor
  · intro ⟨h1, h2, h3⟩
    rw [e 0 (by omega)] at h2
    exact ⟨h1, h2, fun i hi => by rw [← e i hi, ← e 0 (by omega)]; exact h3 i hi⟩
  · intro ⟨h1, h2, h3⟩
    rw [← e 0 (by omega)] at h2
    exact ⟨h1, h2, fun i hi => by rw [e i hi, e 0 (by omega)]; exact h3 i hi⟩
theorem fw_or (P : Nat → Prop) : ∀ n, (∀ k, k < n → ¬ P k) ∨ ∃ i, i < n ∧ P i ∧ ∀ k, k < i → ¬ P k := by
  intro n
  induction n with
  | zero => exact Or.inl (fun k hk => absurd hk (Nat.not_lt_zero _))
  | succ n ih =>
    rcases ih with h | ⟨i, h1, h2, h3⟩
    · by_cases c : P n
      · exact Or.inr ⟨n, by omega, c, h⟩
      · exact Or.inl (fun k hk => (Nat.lt_or_ge k n).elim (fun z => h k z) (fun z => by rw [show k = n by omega]; exact c))
    · exact Or.inr ⟨i, by omega, h2, h3⟩
theorem fw_at {P : Nat → Prop} {n : Nat} (h : fw P n < n) : P (fw P n) := by
  rcases fw_or P n with c | ⟨i, h1, h2, h3⟩
  · rw [fw_n c] at h; omega
  · rw [fw_y h1 h2 h3]; exact h2
theorem gsA_g {T : TS} {g g' : Nat → Int64} (h : ∀ k, k < T.s 4 → g k = g' k) (w : Nat) : gsA T g w = gsA T g' w := by
  have e1 : fw (fun k => T.p k ≠ g k) (T.s 4) = fw (fun k => T.p k ≠ g' k) (T.s 4) := fw_cg (ne_cg h)
  have e2 : ∀ b, fw (gsP T g b) 6 = fw (gsP T g' b) 6 := fun b => fw_cg (fun j _ => gsP_g h j)
  unfold gsA
  rw [e1, e2]
  by_cases c : fw (fun k => T.p k ≠ g' k) (T.s 4) < T.s 4
  · rw [if_pos c, if_pos c]
    by_cases d : fw (gsP T g' (fw (fun k => T.p k ≠ g' k) (T.s 4))) 6 < 6
    · rw [if_pos d, if_pos d]
      rcases w with _ | _ | w
      · rfl
      · show dif _ _ 0 = dif _ _ 0
        have hP : gsP T g' (fw (fun k => T.p k ≠ g' k) (T.s 4)) (fw (gsP T g' (fw (fun k => T.p k ≠ g' k) (T.s 4))) 6) := fw_at d
        have h2 := hP.1
        exact dif_cg (fun k hk => gsE_g h (by omega))
      · rfl
    · rw [if_neg d, if_neg d]
  · rw [if_neg c, if_neg c]
theorem fnA_g {T : TS} {g g' : Nat → Int64} (h : ∀ k, k < T.s 4 → g k = g' k) {z : Nat} (hz : 1 ≤ z) : fnA T.p g (T.s 4) z ↔ fnA T.p g' (T.s 4) z := by
  rw [← fna_iff hz, ← fna_iff hz]
  have e : ∀ r, r < T.s 4 → (okR T.p g (T.s 4) z r ↔ okR T.p g' (T.s 4) z r) := by
    intro r hr
    unfold okR
    rw [h r hr]
    by_cases c : r / z < T.s 4 / z
    · rw [gwr_g (fun k hk => h _ (gq_in c hk))]
    · simp only [c, false_and]
  exact ⟨fun w r hr => (e r hr).mp (w r hr), fun w r hr => (e r hr).mpr (w r hr)⟩
theorem bgF_g {T : TS} {g g' : Nat → Int64} (h : ∀ k, k < T.s 4 → g k = g' k) : ∀ z, bgF T g z = bgF T g' z := by
  intro z
  induction z with
  | zero => rfl
  | succ z ih =>
    by_cases c : fnA T.p g (T.s 4) (z + 1)
    · rw [bgF_t c, bgF_t ((fnA_g h (by omega)).mp c)]
    · rw [bgF_f c, bgF_f (fun w => c ((fnA_g h (by omega)).mpr w)), ih]
theorem shA_g {T : TS} {g g' : Nat → Int64} (h : ∀ k, k < T.s 4 → g k = g' k) : ctN (fun k => T.p k = g k ∧ T.b k = 0) (T.s 4) = ctN (fun k => T.p k = g' k ∧ T.b k = 0) (T.s 4) := ctN_cg (fun k hk => by rw [h k hk])
theorem fdO_cg {F F' : Nat → Int64 → Int64} {h0 : Int64} : ∀ {n : Nat}, (∀ q h, q < n → F q h = F' q h) → fdO F h0 n = fdO F' h0 n := by
  intro n
  induction n with
  | zero => intro _; rfl
  | succ n ih =>
    intro e
    show F n (fdO F h0 n) = F' n (fdO F' h0 n)
    rw [ih (fun q h hq => e q h (by omega)), e n _ (by omega)]
theorem dgV_g {T : TS} {g g' : Nat → Int64} (h : ∀ k, k < T.s 4 → g k = g' k) (n : Nat) (cs : Nat → Nat) (tn : Nat) : dgV T g n cs tn = dgV T g' n cs tn := by
  have f1 : ∀ h0, fdO (fun q8 h8 => mx h8 (cntA T g n q8).toInt64) h0 12 = fdO (fun q8 h8 => mx h8 (cntA T g' n q8).toInt64) h0 12 := fun h0 => fdO_cg (fun q h8 _ => by rw [cntA_g h])
  have f2 : ∀ h0, fdO (fun q7 h7 => fdO (fun q8 h8 => mx h8 (rowA T g q7 q8)) h7 5) h0 (T.s 4) = fdO (fun q7 h7 => fdO (fun q8 h8 => mx h8 (rowA T g' q7 q8)) h7 5) h0 (T.s 4) := fun h0 => fdO_cg (fun q h7 hq => fdO_cg (fun w h8 _ => by rw [rowA_g (h q hq)]))
  have f3 : ∀ h0, fdO (fun q7 h7 => fdO (fun q8 h8 => mx h8 (grA T g q7 q8)) h7 4) h0 (T.s 4 / T.s 0) = fdO (fun q7 h7 => fdO (fun q8 h8 => mx h8 (grA T g' q7 q8)) h7 4) h0 (T.s 4 / T.s 0) := fun h0 => fdO_cg (fun q h7 hq => fdO_cg (fun w h8 _ => by rw [grA_g h]))
  have f4 : ∀ h0, fdO (fun q8 h8 => mx h8 (gsA T g q8)) h0 3 = fdO (fun q8 h8 => mx h8 (gsA T g' q8)) h0 3 := fun h0 => fdO_cg (fun q h8 _ => by rw [gsA_g h])
  have f5 : ∀ h0, fcD T g h0 = fcD T g' h0 := fun h0 => by
    unfold fcD
    rw [f4, bgF_g h, shA_g h]
  unfold dgV
  rw [f1, f2, f3, f5]
theorem upN_b {cs : Nat → Nat} {n ch : Nat} (h : ∀ k, k < 60 → cs k < 2 ^ 30) (hc : ch < 2 ^ 30) : ∀ k, k < 60 → upN cs n ch k < 2 ^ 30 := fun k hk => by
  by_cases e : k = n
  · rw [e, upN_s]; exact hc
  · rw [upN_n e]; exact h k hk
theorem cv_z : (0 : Int32).toInt = 0 := by decide
theorem cv_m9 : (-9 : Int32).toInt = -9 := by decide
theorem cv_1 : (nI 1).toInt = 1 := by decide
theorem cv_2 : (nI 2).toInt = 2 := by decide
theorem cv_3 : (nI 3).toInt = 3 := by decide
theorem cv_4 : (nI 4).toInt = 4 := by decide
theorem cv_5 : (nI 5).toInt = 5 := by decide
theorem cv_6 : (nI 6).toInt = 6 := by decide
theorem cv_9 : (nI 9).toInt = 9 := by decide
theorem cv_10 : (nI 10).toInt = 10 := by decide
theorem cv_12 : (nI 12).toInt = 12 := by decide
theorem cv_20 : (nI 20).toInt = 20 := by decide
theorem cv_33 : (nI 33).toInt = 33 := by decide
theorem cv_40 : (nI 40).toInt = 40 := by decide
theorem cv_99 : (nI 99).toInt = 99 := by decide
theorem cv_126 : (nI 126).toInt = 126 := by decide
theorem cv_999 : (nI 999).toInt = 999 := by decide
