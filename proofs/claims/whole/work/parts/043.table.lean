/-- the first of n places at which P holds; n if there is none -/
noncomputable def fw (P : Nat → Prop) (n : Nat) : Nat := ctN (fun k => ∀ j, j ≤ k → ¬ P j) n
noncomputable def fwI (P : Nat → Prop) (n : Nat) : Int32 := @ite _ (fw P n < n) (Classical.propDecidable _) (nI (fw P n)) (-1)
theorem fw_y {P : Nat → Prop} {i n : Nat} (h : i < n) (hp : P i) (ho : ∀ k, k < i → ¬ P k) : fw P n = i := ctN_thr (fun j hj q hq => ho q (by omega)) (fun j hj _ z => z i hj hp) (by omega)
theorem fw_n {P : Nat → Prop} {n : Nat} (ho : ∀ k, k < n → ¬ P k) : fw P n = n := ctN_thr (fun j hj q hq => ho q (by omega)) (fun j hj h2 => absurd h2 (by omega)) (Nat.le_refl n)
theorem fwI_y {P : Nat → Prop} {i n : Nat} (h : i < n) (hp : P i) (ho : ∀ k, k < i → ¬ P k) : fwI P n = nI i := by
  unfold fwI
  rw [fw_y h hp ho, if_pos h]
theorem fwI_n {P : Nat → Prop} {n : Nat} (ho : ∀ k, k < n → ¬ P k) : fwI P n = -1 := by
  unfold fwI
  rw [fw_n ho, if_neg (Nat.lt_irrefl n)]
def gwr (p g : Nat → Int64) (q z : Nat) : Prop := smL (fun k => p (q * z + k)) ((q + 1) * z - q * z) ≠ smL (fun k => g (q * z + k)) ((q + 1) * z - q * z)
def fnA (p g : Nat → Int64) (n z : Nat) : Prop := (∀ q, q < n / z → 0 < ctN (fun k => p (q * z + k) ≠ g (q * z + k)) (q * z + z - q * z) → gwr p g q z) ∧ ctN (fun k => p (n / z * z + k) ≠ g (n / z * z + k)) (n - n / z * z) = 0
theorem dv_le {n z q : Nat} (hz : 1 ≤ z) (h : q < n / z) : (q + 1) * z ≤ n := (Nat.le_div_iff_mul_le hz).mp h
/-- the right numbers that are kept, k rows more -/
noncomputable def grN (T : TS) (g : Nat → Int64) : Nat → (Nat → Int64)
  | 0 => g
  | k + 1 => vp_updL (grN T g k) ((stN T k).s 4) (rvT (stN T k) ((stN T k).s 4))
/-- a row is struck anew -/
noncomputable def skT (T : TS) (g : Nat → Int64) (i : Nat) : TS := (fun k => if k = 6 then T.s 6 + 1 else if k = 5 then T.s 5 + nd (ab (g i)) else T.s k, T.r, wad T.w (ab (g i)) (nd (ab (g i))), vp_updL T.p i (g i), upN T.b i (prB (ab (g i)) T.w (T.s 1)))
theorem updL_s {f : Nat → Int64} {k : Nat} {x : Int64} : vp_updL f k x k = x := if_pos rfl
theorem updL_n {f : Nat → Int64} {k j : Nat} {x : Int64} (h : j ≠ k) : vp_updL f k x j = f j := if_neg h
set_option maxHeartbeats 4000000 in
set_option maxRecDepth 100000 in
theorem c_X6_isRegister (G : GG) (l : Launch) (x_ : Int32)  : Cr G l yX6_isRegister wsX6_isRegister ({ frames := 0, cells := 0, slots := 0, locals := 0 }) 0 0 [.int x_] [] (ctR (some (.int (bI (¬ x_ < 0 ∧ ¬ nI 6 ≤ x_)))) []) := by
  refine cr_intro (cc := cX6_isRegister) (maxL := 1) (ret := (some .boolean)) (own := RX6) (by decide) rfl rfl (Nat.le_of_ble_eq_true rfl) ?_
  intro p e s m args below meth c A hx hb hr hml hts hown hlocks hnm hNX hP hK hD hA hS ls hl
  obtain ⟨RR, hRR⟩ : ∃ RR, RR = (ctR (some (.int (bI (¬ x_ < 0 ∧ ¬ nI 6 ≤ x_)))) []) := ⟨_, rfl⟩
  rw [← hRR]
  have hl : lv_has ls 1 [(0, .int x_)] := hl
  refine lv_iload_n hx hb dX6_isRegister_0 rfl (lv_at hl 0 rfl) ?_
  refine lv_if_lt (tgt := 14) hx hb dX6_isRegister_1 (by decide) (fun c_1 => ?_) (fun c_1 => ?_)
  · have hv : nI 0 = bI (¬ x_ < 0 ∧ ¬ nI 6 ≤ x_) := bI_0 (fun z => z.1 c_1)
    refine lv_iconst (v := nI 0) hx hb dX6_isRegister_14 (by decide) ?_
    exact cr_zret hx hb hr hlocks hK hP hD hS (by decide +kernel) dX6_isRegister_15 (by rw [hRR]; exact ctR_i (hv) (rfl))
  · refine lv_iload_n hx hb dX6_isRegister_4 rfl (lv_at hl 0 rfl) ?_
    refine lv_bipush (v := nI 6) hx hb dX6_isRegister_5 (by decide) ?_
    refine lv_icmp_ge (tgt := 14) hx hb dX6_isRegister_7 (by decide) (fun c_7 => ?_) (fun c_7 => ?_)
    · have hv : nI 0 = bI (¬ x_ < 0 ∧ ¬ nI 6 ≤ x_) := bI_0 (fun z => z.2 c_7)
      refine lv_iconst (v := nI 0) hx hb dX6_isRegister_14 (by decide) ?_
      exact cr_zret hx hb hr hlocks hK hP hD hS (by decide +kernel) dX6_isRegister_15 (by rw [hRR]; exact ctR_i (hv) (rfl))
    · have hv : nI 1 = bI (¬ x_ < 0 ∧ ¬ nI 6 ≤ x_) := bI_1 ⟨c_1, c_7⟩
      refine lv_iconst (v := nI 1) hx hb dX6_isRegister_10 (by decide) ?_
      refine lv_goto (tgt := 15) hx hb dX6_isRegister_11 (by decide) ?_
      exact cr_zret hx hb hr hlocks hK hP hD hS (by decide +kernel) dX6_isRegister_15 (by rw [hRR]; exact ctR_i (hv) (rfl))
set_option maxHeartbeats 4000000 in
set_option maxRecDepth 100000 in
theorem c_X6_isDigit (G : GG) (l : Launch) (x_ : Int32)  : Cr G l yX6_isDigit wsX6_isDigit ({ frames := 0, cells := 0, slots := 0, locals := 0 }) 0 0 [.int x_] [] (ctR (some (.int (bI (¬ x_ < 0 ∧ ¬ nI 10 ≤ x_)))) []) := by
  refine cr_intro (cc := cX6_isDigit) (maxL := 1) (ret := (some .boolean)) (own := RX6) (by decide) rfl rfl (Nat.le_of_ble_eq_true rfl) ?_
  intro p e s m args below meth c A hx hb hr hml hts hown hlocks hnm hNX hP hK hD hA hS ls hl
  obtain ⟨RR, hRR⟩ : ∃ RR, RR = (ctR (some (.int (bI (¬ x_ < 0 ∧ ¬ nI 10 ≤ x_)))) []) := ⟨_, rfl⟩
  rw [← hRR]
  have hl : lv_has ls 1 [(0, .int x_)] := hl
  refine lv_iload_n hx hb dX6_isDigit_0 rfl (lv_at hl 0 rfl) ?_
  refine lv_if_lt (tgt := 14) hx hb dX6_isDigit_1 (by decide) (fun c_1 => ?_) (fun c_1 => ?_)
  · have hv : nI 0 = bI (¬ x_ < 0 ∧ ¬ nI 10 ≤ x_) := bI_0 (fun z => z.1 c_1)
    refine lv_iconst (v := nI 0) hx hb dX6_isDigit_14 (by decide) ?_
    exact cr_zret hx hb hr hlocks hK hP hD hS (by decide +kernel) dX6_isDigit_15 (by rw [hRR]; exact ctR_i (hv) (rfl))
  · refine lv_iload_n hx hb dX6_isDigit_4 rfl (lv_at hl 0 rfl) ?_
    refine lv_bipush (v := nI 10) hx hb dX6_isDigit_5 (by decide) ?_
    refine lv_icmp_ge (tgt := 14) hx hb dX6_isDigit_7 (by decide) (fun c_7 => ?_) (fun c_7 => ?_)
    · have hv : nI 0 = bI (¬ x_ < 0 ∧ ¬ nI 10 ≤ x_) := bI_0 (fun z => z.2 c_7)
      refine lv_iconst (v := nI 0) hx hb dX6_isDigit_14 (by decide) ?_
      exact cr_zret hx hb hr hlocks hK hP hD hS (by decide +kernel) dX6_isDigit_15 (by rw [hRR]; exact ctR_i (hv) (rfl))
    · have hv : nI 1 = bI (¬ x_ < 0 ∧ ¬ nI 10 ≤ x_) := bI_1 ⟨c_1, c_7⟩
      refine lv_iconst (v := nI 1) hx hb dX6_isDigit_10 (by decide) ?_
      refine lv_goto (tgt := 15) hx hb dX6_isDigit_11 (by decide) ?_
      exact cr_zret hx hb hr hlocks hK hP hD hS (by decide +kernel) dX6_isDigit_15 (by rw [hRR]; exact ctR_i (hv) (rfl))
set_option maxHeartbeats 4000000 in
set_option maxRecDepth 100000 in
theorem c_X6_isSetting (G : GG) (l : Launch) (x_ : Int32)  : Cr G l yX6_isSetting wsX6_isSetting ({ frames := 0, cells := 0, slots := 0, locals := 0 }) 0 0 [.int x_] [] (ctR (some (.int (bI (¬ x_ < 0 ∧ ¬ nI 2 ≤ x_)))) []) := by
  refine cr_intro (cc := cX6_isSetting) (maxL := 1) (ret := (some .boolean)) (own := RX6) (by decide) rfl rfl (Nat.le_of_ble_eq_true rfl) ?_
  intro p e s m args below meth c A hx hb hr hml hts hown hlocks hnm hNX hP hK hD hA hS ls hl
  obtain ⟨RR, hRR⟩ : ∃ RR, RR = (ctR (some (.int (bI (¬ x_ < 0 ∧ ¬ nI 2 ≤ x_)))) []) := ⟨_, rfl⟩
  rw [← hRR]
  have hl : lv_has ls 1 [(0, .int x_)] := hl
  refine lv_iload_n hx hb dX6_isSetting_0 rfl (lv_at hl 0 rfl) ?_
  refine lv_if_lt (tgt := 13) hx hb dX6_isSetting_1 (by decide) (fun c_1 => ?_) (fun c_1 => ?_)
  · have hv : nI 0 = bI (¬ x_ < 0 ∧ ¬ nI 2 ≤ x_) := bI_0 (fun z => z.1 c_1)
    refine lv_iconst (v := nI 0) hx hb dX6_isSetting_13 (by decide) ?_
    exact cr_zret hx hb hr hlocks hK hP hD hS (by decide +kernel) dX6_isSetting_14 (by rw [hRR]; exact ctR_i (hv) (rfl))
  · refine lv_iload_n hx hb dX6_isSetting_4 rfl (lv_at hl 0 rfl) ?_
    refine lv_iconst (v := nI 2) hx hb dX6_isSetting_5 (by decide) ?_
    refine lv_icmp_ge (tgt := 13) hx hb dX6_isSetting_6 (by decide) (fun c_6 => ?_) (fun c_6 => ?_)
    · have hv : nI 0 = bI (¬ x_ < 0 ∧ ¬ nI 2 ≤ x_) := bI_0 (fun z => z.2 c_6)
      refine lv_iconst (v := nI 0) hx hb dX6_isSetting_13 (by decide) ?_
      exact cr_zret hx hb hr hlocks hK hP hD hS (by decide +kernel) dX6_isSetting_14 (by rw [hRR]; exact ctR_i (hv) (rfl))
    · have hv : nI 1 = bI (¬ x_ < 0 ∧ ¬ nI 2 ≤ x_) := bI_1 ⟨c_1, c_6⟩
      refine lv_iconst (v := nI 1) hx hb dX6_isSetting_9 (by decide) ?_
      refine lv_goto (tgt := 14) hx hb dX6_isSetting_10 (by decide) ?_
      exact cr_zret hx hb hr hlocks hK hP hD hS (by decide +kernel) dX6_isSetting_14 (by rw [hRR]; exact ctR_i (hv) (rfl))
set_option maxHeartbeats 4000000 in
set_option maxRecDepth 100000 in
theorem c_X4_hasRow__raw (G : GG) (l : Launch) (a_ : Nat → Nat) (T : TS) (x_ : Int32)  : Cr G l yX4_hasRow wsX4_hasRow ({ frames := 0, cells := 0, slots := 0, locals := 0 }) 0 0 [.ref (a_ 0), .int x_] [(a_ 0, .inr (4, [.int (nI (T.s 2)), .int (nI (T.s 3)), .int (nI (T.s 4)), .int (nI (T.s 0)), .int (nI (T.s 6)), .ref (a_ 1), .ref (a_ 2), .ref (a_ 3), .ref (a_ 4), .ref (a_ 6)]))] (ctR (some (.int (bI (¬ x_ < 0 ∧ ¬ nI (T.s 4) ≤ x_)))) [(a_ 0, .inr (4, [.int (nI (T.s 2)), .int (nI (T.s 3)), .int (nI (T.s 4)), .int (nI (T.s 0)), .int (nI (T.s 6)), .ref (a_ 1), .ref (a_ 2), .ref (a_ 3), .ref (a_ 4), .ref (a_ 6)]))]) := by
  refine cr_intro (cc := cX4_hasRow) (maxL := 2) (ret := (some .boolean)) (own := RX4) (by decide) rfl rfl (Nat.le_of_ble_eq_true rfl) ?_
  intro p e s m args below meth c A hx hb hr hml hts hown hlocks hnm hNX hP hK hD hA hS ls hl
  obtain ⟨RR, hRR⟩ : ∃ RR, RR = (ctR (some (.int (bI (¬ x_ < 0 ∧ ¬ nI (T.s 4) ≤ x_)))) [(a_ 0, .inr (4, [.int (nI (T.s 2)), .int (nI (T.s 3)), .int (nI (T.s 4)), .int (nI (T.s 0)), .int (nI (T.s 6)), .ref (a_ 1), .ref (a_ 2), .ref (a_ 3), .ref (a_ 4), .ref (a_ 6)]))]) := ⟨_, rfl⟩
  rw [← hRR]
  have hl : lv_has ls 2 [(0, .ref (a_ 0)), (1, .int x_)] := hl
  have hin4 : ∀ w ∈ u_ws RX4 TX4 10, w ∈ wsX4_hasRow := fun w h => List.mem_cons_of_mem _ (List.mem_append_right _ h)
  refine lv_iload_n hx hb dX4_hasRow_0 rfl (lv_at hl 1 rfl) ?_
  refine lv_if_lt (tgt := 16) hx hb dX4_hasRow_1 (by decide) (fun c_1 => ?_) (fun c_1 => ?_)
  · have hv : nI 0 = bI (¬ x_ < 0 ∧ ¬ nI (T.s 4) ≤ x_) := bI_0 (fun z => z.1 c_1)
    refine lv_iconst (v := nI 0) hx hb dX4_hasRow_16 (by decide) ?_
    exact cr_zret hx hb hr hlocks hK hP hD hS (by decide +kernel) dX4_hasRow_17 (by rw [hRR]; exact ctR_i (hv) (rfl))
  · refine lv_iload_n hx hb dX4_hasRow_4 rfl (lv_at hl 1 rfl) ?_
    refine lv_aload_n hx hb dX4_hasRow_5 rfl (lv_at hl 0 rfl) ?_
    refine va_get (D := G.1) (ci := 4) (v := .int (nI (T.s 4))) (C := RX4) (T := TX4) (N := 10) hx hb hts hin4 hown hK hP 0 rfl rfl 2 (by decide) (hts (.fieldLink RX4 46 "PowerTables$Table" "rows" "I") (List.mem_of_getElem? (i := 1) rfl)) (fun _ h9 => h9) rfl dX4_hasRow_6 ?_
    refine lv_icmp_ge (tgt := 16) hx hb dX4_hasRow_9 (by decide) (fun c_9 => ?_) (fun c_9 => ?_)
    · have hv : nI 0 = bI (¬ x_ < 0 ∧ ¬ nI (T.s 4) ≤ x_) := bI_0 (fun z => z.2 c_9)
      refine lv_iconst (v := nI 0) hx hb dX4_hasRow_16 (by decide) ?_
      exact cr_zret hx hb hr hlocks hK hP hD hS (by decide +kernel) dX4_hasRow_17 (by rw [hRR]; exact ctR_i (hv) (rfl))
    · have hv : nI 1 = bI (¬ x_ < 0 ∧ ¬ nI (T.s 4) ≤ x_) := bI_1 ⟨c_1, c_9⟩
      refine lv_iconst (v := nI 1) hx hb dX4_hasRow_12 (by decide) ?_
      refine lv_goto (tgt := 17) hx hb dX4_hasRow_13 (by decide) ?_
      exact cr_zret hx hb hr hlocks hK hP hD hS (by decide +kernel) dX4_hasRow_17 (by rw [hRR]; exact ctR_i (hv) (rfl))
set_option maxHeartbeats 4000000 in
set_option maxRecDepth 100000 in
theorem c_X4_hasRow (G : GG) (l : Launch) (a_ : Nat → Nat) (T : TS) (i_ : Nat) (ji : i_ < 2 ^ 30) (jn : T.s 4 ≤ 40) : Cr G l yX4_hasRow wsX4_hasRow ({ frames := 0, cells := 0, slots := 0, locals := 0 }) 0 0 [.ref (a_ 0), .int (nI i_)] [(a_ 0, .inr (4, [.int (nI (T.s 2)), .int (nI (T.s 3)), .int (nI (T.s 4)), .int (nI (T.s 0)), .int (nI (T.s 6)), .ref (a_ 1), .ref (a_ 2), .ref (a_ 3), .ref (a_ 4), .ref (a_ 6)]))] (ctR (some (.int (bI (i_ < T.s 4)))) [(a_ 0, .inr (4, [.int (nI (T.s 2)), .int (nI (T.s 3)), .int (nI (T.s 4)), .int (nI (T.s 0)), .int (nI (T.s 6)), .ref (a_ 1), .ref (a_ 2), .ref (a_ 3), .ref (a_ 4), .ref (a_ 6)]))]) := by
  refine cr_intro (cc := cX4_hasRow) (maxL := 2) (ret := (some .boolean)) (own := RX4) (by decide) rfl rfl (Nat.le_of_ble_eq_true rfl) ?_
  intro p e s m args below meth c A hx hb hr hml hts hown hlocks hnm hNX hP hK hD hA hS ls hl
  obtain ⟨RR, hRR⟩ : ∃ RR, RR = (ctR (some (.int (bI (i_ < T.s 4)))) [(a_ 0, .inr (4, [.int (nI (T.s 2)), .int (nI (T.s 3)), .int (nI (T.s 4)), .int (nI (T.s 0)), .int (nI (T.s 6)), .ref (a_ 1), .ref (a_ 2), .ref (a_ 3), .ref (a_ 4), .ref (a_ 6)]))]) := ⟨_, rfl⟩
  rw [← hRR]
  have hl : lv_has ls 2 [(0, .ref (a_ 0)), (1, .int (nI i_))] := hl
  have hin4 : ∀ w ∈ u_ws RX4 TX4 10, w ∈ wsX4_hasRow := fun w h => List.mem_cons_of_mem _ (List.mem_append_right _ h)
  refine lv_iload_n hx hb dX4_hasRow_0 rfl (lv_at hl 1 rfl) ?_
  refine ks_if_lt (tgt := 16) hx hb dX4_hasRow_1 (by decide) (by omega) ?_
  refine lv_iload_n hx hb dX4_hasRow_4 rfl (lv_at hl 1 rfl) ?_
  refine lv_aload_n hx hb dX4_hasRow_5 rfl (lv_at hl 0 rfl) ?_
  refine va_get (D := G.1) (ci := 4) (v := .int (nI (T.s 4))) (C := RX4) (T := TX4) (N := 10) hx hb hts hin4 hown hK hP 0 rfl rfl 2 (by decide) (hts (.fieldLink RX4 46 "PowerTables$Table" "rows" "I") (List.mem_of_getElem? (i := 1) rfl)) (fun _ h9 => h9) rfl dX4_hasRow_6 ?_
  refine ks_icmp_ge (tgt := 16) hx hb dX4_hasRow_9 (by decide) (by omega) (by omega) (fun c_9 => ?_) (fun c_9 => ?_)
  · have hv : nI 0 = bI (i_ < T.s 4) := bI_0 (by omega)
    refine lv_iconst (v := nI 0) hx hb dX4_hasRow_16 (by decide) ?_
    exact cr_zret hx hb hr hlocks hK hP hD hS (by decide +kernel) dX4_hasRow_17 (by rw [hRR]; exact ctR_i (hv) (rfl))
  · have hv : nI 1 = bI (i_ < T.s 4) := bI_1 (by omega)
    refine lv_iconst (v := nI 1) hx hb dX4_hasRow_12 (by decide) ?_
    refine lv_goto (tgt := 17) hx hb dX4_hasRow_13 (by decide) ?_
    exact cr_zret hx hb hr hlocks hK hP hD hS (by decide +kernel) dX4_hasRow_17 (by rw [hRR]; exact ctR_i (hv) (rfl))
set_option maxHeartbeats 4000000 in
set_option maxRecDepth 100000 in
theorem c_X4_hasRoomFor (G : GG) (l : Launch) (a_ : Nat → Nat) (T : TS) (k_ : Nat) (jk : k_ < 2 ^ 30) (jn : T.s 4 ≤ 40) : Cr G l yX4_hasRoomFor wsX4_hasRoomFor ({ frames := 0, cells := 0, slots := 0, locals := 0 }) 0 0 [.ref (a_ 0), .int (nI k_)] [(a_ 0, .inr (4, [.int (nI (T.s 2)), .int (nI (T.s 3)), .int (nI (T.s 4)), .int (nI (T.s 0)), .int (nI (T.s 6)), .ref (a_ 1), .ref (a_ 2), .ref (a_ 3), .ref (a_ 4), .ref (a_ 6)]))] (ctR (some (.int (bI (T.s 4 + k_ ≤ 40)))) [(a_ 0, .inr (4, [.int (nI (T.s 2)), .int (nI (T.s 3)), .int (nI (T.s 4)), .int (nI (T.s 0)), .int (nI (T.s 6)), .ref (a_ 1), .ref (a_ 2), .ref (a_ 3), .ref (a_ 4), .ref (a_ 6)]))]) := by
  refine cr_intro (cc := cX4_hasRoomFor) (maxL := 2) (ret := (some .boolean)) (own := RX4) (by decide) rfl rfl (Nat.le_of_ble_eq_true rfl) ?_
  intro p e s m args below meth c A hx hb hr hml hts hown hlocks hnm hNX hP hK hD hA hS ls hl
  obtain ⟨RR, hRR⟩ : ∃ RR, RR = (ctR (some (.int (bI (T.s 4 + k_ ≤ 40)))) [(a_ 0, .inr (4, [.int (nI (T.s 2)), .int (nI (T.s 3)), .int (nI (T.s 4)), .int (nI (T.s 0)), .int (nI (T.s 6)), .ref (a_ 1), .ref (a_ 2), .ref (a_ 3), .ref (a_ 4), .ref (a_ 6)]))]) := ⟨_, rfl⟩
  rw [← hRR]
  have hl : lv_has ls 2 [(0, .ref (a_ 0)), (1, .int (nI k_))] := hl
  have hin4 : ∀ w ∈ u_ws RX4 TX4 10, w ∈ wsX4_hasRoomFor := fun w h => List.mem_cons_of_mem _ (List.mem_append_right _ h)
  refine lv_iload_n hx hb dX4_hasRoomFor_0 rfl (lv_at hl 1 rfl) ?_
  refine lv_bipush (v := nI 40) hx hb dX4_hasRoomFor_1 (by decide) ?_
  refine lv_aload_n hx hb dX4_hasRoomFor_3 rfl (lv_at hl 0 rfl) ?_
  refine va_get (D := G.1) (ci := 4) (v := .int (nI (T.s 4))) (C := RX4) (T := TX4) (N := 10) hx hb hts hin4 hown hK hP 0 rfl rfl 2 (by decide) (hts (.fieldLink RX4 46 "PowerTables$Table" "rows" "I") (List.mem_of_getElem? (i := 1) rfl)) (fun _ h9 => h9) rfl dX4_hasRoomFor_4 ?_
  refine ks_isubN hx hb dX4_hasRoomFor_7 (by omega) ?_
  refine ks_icmp_gt (tgt := 15) hx hb dX4_hasRoomFor_8 (by decide) (by omega) (by omega) (fun c_8 => ?_) (fun c_8 => ?_)
  · have hv : nI 0 = bI (T.s 4 + k_ ≤ 40) := bI_0 (by omega)
    refine lv_iconst (v := nI 0) hx hb dX4_hasRoomFor_15 (by decide) ?_
    exact cr_zret hx hb hr hlocks hK hP hD hS (by decide +kernel) dX4_hasRoomFor_16 (by rw [hRR]; exact ctR_i (hv) (rfl))
  · have hv : nI 1 = bI (T.s 4 + k_ ≤ 40) := bI_1 (by omega)
    refine lv_iconst (v := nI 1) hx hb dX4_hasRoomFor_11 (by decide) ?_
    refine lv_goto (tgt := 16) hx hb dX4_hasRoomFor_12 (by decide) ?_
    exact cr_zret hx hb hr hlocks hK hP hD hS (by decide +kernel) dX4_hasRoomFor_16 (by rw [hRR]; exact ctR_i (hv) (rfl))
set_option maxHeartbeats 4000000 in
set_option maxRecDepth 100000 in
theorem c_X4_reckonRight (G : GG) (l : Launch) (a_ : Nat → Nat) (T : TS) (i_ : Nat) (ji : i_ < 2 ^ 29) (jf_ : T.s 3 < 2 ^ 29) (jp : T.s 2 ≤ 5) : Cr G l yX4_reckonRight wsX4_reckonRight ({ frames := 1, cells := 0, slots := 0, locals := 25 }) 0 0 [.ref (a_ 0), .int (nI i_)] [(a_ 0, .inr (4, [.int (nI (T.s 2)), .int (nI (T.s 3)), .int (nI (T.s 4)), .int (nI (T.s 0)), .int (nI (T.s 6)), .ref (a_ 1), .ref (a_ 2), .ref (a_ 3), .ref (a_ 4), .ref (a_ 6)]))] (ctR (some (.long (rvT T i_))) [(a_ 0, .inr (4, [.int (nI (T.s 2)), .int (nI (T.s 3)), .int (nI (T.s 4)), .int (nI (T.s 0)), .int (nI (T.s 6)), .ref (a_ 1), .ref (a_ 2), .ref (a_ 3), .ref (a_ 4), .ref (a_ 6)]))]) := by
  refine cr_intro (cc := cX4_reckonRight) (maxL := 2) (ret := (some .long)) (own := RX4) (by decide) rfl rfl (Nat.le_of_ble_eq_true rfl) ?_
  intro p e s m args below meth c A hx hb hr hml hts hown hlocks hnm hNX hP hK hD hA hS ls hl
  obtain ⟨RR, hRR⟩ : ∃ RR, RR = (ctR (some (.long (rvT T i_))) [(a_ 0, .inr (4, [.int (nI (T.s 2)), .int (nI (T.s 3)), .int (nI (T.s 4)), .int (nI (T.s 0)), .int (nI (T.s 6)), .ref (a_ 1), .ref (a_ 2), .ref (a_ 3), .ref (a_ 4), .ref (a_ 6)]))]) := ⟨_, rfl⟩
  rw [← hRR]
  have hl : lv_has ls 2 [(0, .ref (a_ 0)), (1, .int (nI i_))] := hl
  have hin4 : ∀ w ∈ u_ws RX4 TX4 10, w ∈ wsX4_reckonRight := fun w h => List.mem_cons_of_mem _ (List.mem_append_right _ h)
  refine lv_aload_n hx hb dX4_reckonRight_0 rfl (lv_at hl 0 rfl) ?_
  refine va_get (D := G.1) (ci := 4) (v := .int (nI (T.s 3))) (C := RX4) (T := TX4) (N := 10) hx hb hts hin4 hown hK hP 0 rfl rfl 1 (by decide) (hts (.fieldLink RX4 43 "PowerTables$Table" "first" "I") (List.mem_of_getElem? (i := 1) rfl)) (fun _ h9 => h9) rfl dX4_reckonRight_1 ?_
  refine lv_iload_n hx hb dX4_reckonRight_4 rfl (lv_at hl 1 rfl) ?_
  refine ks_iaddN hx hb dX4_reckonRight_5 ?_
  refine ks_i2lN hx hb dX4_reckonRight_6 (by omega) ?_
  refine lv_aload_n hx hb dX4_reckonRight_7 rfl (lv_at hl 0 rfl) ?_
  refine va_get (D := G.1) (ci := 4) (v := .int (nI (T.s 2))) (C := RX4) (T := TX4) (N := 10) hx hb hts hin4 hown hK hP 0 rfl rfl 0 (by decide) (hts (.fieldLink RX4 40 "PowerTables$Table" "power" "I") (List.mem_of_getElem? (i := 2) rfl)) (fun _ h9 => h9) rfl dX4_reckonRight_8 ?_
  refine cr_S (wr := [(a_ 0, .inr (4, [.int (nI (T.s 2)), .int (nI (T.s 3)), .int (nI (T.s 4)), .int (nI (T.s 0)), .int (nI (T.s 6)), .ref (a_ 1), .ref (a_ 2), .ref (a_ 3), .ref (a_ 4), .ref (a_ 6)]))]) (As := [.long (lN (T.s 3 + i_)), .int (nI (T.s 2))]) (rest := []) ⟨hx, hb, hml, hown, hts⟩ (c_X4_raise G l (lN (T.s 3 + i_)) (T.s 2) (by omega)) (va_cwS 2 hts gX4_reckonRight_X4_raise rfl rfl rfl (by decide +kernel) ⟨Nat.le_of_ble_eq_true rfl, Nat.le_of_ble_eq_true rfl⟩) dX4_reckonRight_11 hK hNX hP hD hS hA hl [] [0] rfl rfl rfl rfl (by decide) rfl (Nat.le_of_ble_eq_true rfl) ⟨Nat.le_of_ble_eq_true rfl, Nat.le_of_ble_eq_true rfl⟩ rfl (fun v' w' Hq lcq hR' hP hD hS => ?_)
  obtain ⟨rfl, rfl⟩ := hR'
  have hP : va_P G.1 vwCl [(a_ 0, .inr (4, [.int (nI (T.s 2)), .int (nI (T.s 3)), .int (nI (T.s 4)), .int (nI (T.s 0)), .int (nI (T.s 6)), .ref (a_ 1), .ref (a_ 2), .ref (a_ 3), .ref (a_ 4), .ref (a_ 6)]))] _ := hP.sub [0] rfl
  have hD : va_D A [(a_ 0, .inr (4, [.int (nI (T.s 2)), .int (nI (T.s 3)), .int (nI (T.s 4)), .int (nI (T.s 0)), .int (nI (T.s 6)), .ref (a_ 1), .ref (a_ 2), .ref (a_ 3), .ref (a_ 4), .ref (a_ 6)]))] := hD.sub [0] rfl rfl
  exact cr_lret hx hb hr hlocks hK hP hD hS dX4_reckonRight_14 (by rw [hRR]; exact ctR_l (rfl) (rfl))
set_option maxHeartbeats 4000000 in
set_option maxRecDepth 100000 in
theorem c_X4_error (G : GG) (l : Launch) (a_ : Nat → Nat) (T : TS) (g_ : Nat → Int64) (i_ : Nat) (ji : i_ < 40) : Cr G l yX4_error wsX4_error ({ frames := 0, cells := 0, slots := 0, locals := 0 }) 0 0 [.ref (a_ 0), .int (nI i_)] [(a_ 0, .inr (4, [.int (nI (T.s 2)), .int (nI (T.s 3)), .int (nI (T.s 4)), .int (nI (T.s 0)), .int (nI (T.s 6)), .ref (a_ 1), .ref (a_ 2), .ref (a_ 3), .ref (a_ 4), .ref (a_ 6)])), (a_ 1, .inl (G.2.2.1, 40, .inr (.inl (T.p)))), (a_ 2, .inl (G.2.2.1, 40, .inr (.inl (g_))))] (ctR (some (.long (T.p i_ - g_ i_))) [(a_ 0, .inr (4, [.int (nI (T.s 2)), .int (nI (T.s 3)), .int (nI (T.s 4)), .int (nI (T.s 0)), .int (nI (T.s 6)), .ref (a_ 1), .ref (a_ 2), .ref (a_ 3), .ref (a_ 4), .ref (a_ 6)])), (a_ 1, .inl (G.2.2.1, 40, .inr (.inl (T.p)))), (a_ 2, .inl (G.2.2.1, 40, .inr (.inl (g_))))]) := by
  refine cr_intro (cc := cX4_error) (maxL := 2) (ret := (some .long)) (own := RX4) (by decide) rfl rfl (Nat.le_of_ble_eq_true rfl) ?_
  intro p e s m args below meth c A hx hb hr hml hts hown hlocks hnm hNX hP hK hD hA hS ls hl
  obtain ⟨RR, hRR⟩ : ∃ RR, RR = (ctR (some (.long (T.p i_ - g_ i_))) [(a_ 0, .inr (4, [.int (nI (T.s 2)), .int (nI (T.s 3)), .int (nI (T.s 4)), .int (nI (T.s 0)), .int (nI (T.s 6)), .ref (a_ 1), .ref (a_ 2), .ref (a_ 3), .ref (a_ 4), .ref (a_ 6)])), (a_ 1, .inl (G.2.2.1, 40, .inr (.inl (T.p)))), (a_ 2, .inl (G.2.2.1, 40, .inr (.inl (g_))))]) := ⟨_, rfl⟩
  rw [← hRR]
  have hl : lv_has ls 2 [(0, .ref (a_ 0)), (1, .int (nI i_))] := hl
  have hin4 : ∀ w ∈ u_ws RX4 TX4 10, w ∈ wsX4_error := fun w h => List.mem_cons_of_mem _ (List.mem_append_right _ h)
  refine lv_aload_n hx hb dX4_error_0 rfl (lv_at hl 0 rfl) ?_
  refine va_get (D := G.1) (ci := 4) (v := .ref (a_ 1)) (C := RX4) (T := TX4) (N := 10) hx hb hts hin4 hown hK hP 0 rfl rfl 5 (by decide) (hts (.fieldLink RX4 15 "PowerTables$Table" "printed" "[J") (List.mem_of_getElem? (i := 1) rfl)) (fun _ h9 => h9) rfl dX4_error_1 ?_
  refine lv_iload_n hx hb dX4_error_4 rfl (lv_at hl 1 rfl) ?_
  refine ks_lald hx hb hK hP 1 rfl (by omega) (by decide) dX4_error_5 ?_
  refine lv_aload_n hx hb dX4_error_6 rfl (lv_at hl 0 rfl) ?_
  refine va_get (D := G.1) (ci := 4) (v := .ref (a_ 2)) (C := RX4) (T := TX4) (N := 10) hx hb hts hin4 hown hK hP 0 rfl rfl 6 (by decide) (hts (.fieldLink RX4 19 "PowerTables$Table" "right" "[J") (List.mem_of_getElem? (i := 2) rfl)) (fun _ h9 => h9) rfl dX4_error_7 ?_
  refine lv_iload_n hx hb dX4_error_10 rfl (lv_at hl 1 rfl) ?_
  refine ks_lald hx hb hK hP 2 rfl (by omega) (by decide) dX4_error_11 ?_
  refine lv_lsub hx hb dX4_error_12 ?_
  exact cr_lret hx hb hr hlocks hK hP hD hS dX4_error_13 (by rw [hRR]; exact ctR_l (rfl) (rfl))
set_option maxHeartbeats 4000000 in
set_option maxRecDepth 100000 in
theorem c_X4_isWrong (G : GG) (l : Launch) (a_ : Nat → Nat) (T : TS) (g_ : Nat → Int64) (i_ : Nat) (ji : i_ < 40) : Cr G l yX4_isWrong wsX4_isWrong ({ frames := 0, cells := 0, slots := 0, locals := 0 }) 0 0 [.ref (a_ 0), .int (nI i_)] [(a_ 0, .inr (4, [.int (nI (T.s 2)), .int (nI (T.s 3)), .int (nI (T.s 4)), .int (nI (T.s 0)), .int (nI (T.s 6)), .ref (a_ 1), .ref (a_ 2), .ref (a_ 3), .ref (a_ 4), .ref (a_ 6)])), (a_ 1, .inl (G.2.2.1, 40, .inr (.inl (T.p)))), (a_ 2, .inl (G.2.2.1, 40, .inr (.inl (g_))))] (ctR (some (.int (bI (T.p i_ ≠ g_ i_)))) [(a_ 0, .inr (4, [.int (nI (T.s 2)), .int (nI (T.s 3)), .int (nI (T.s 4)), .int (nI (T.s 0)), .int (nI (T.s 6)), .ref (a_ 1), .ref (a_ 2), .ref (a_ 3), .ref (a_ 4), .ref (a_ 6)])), (a_ 1, .inl (G.2.2.1, 40, .inr (.inl (T.p)))), (a_ 2, .inl (G.2.2.1, 40, .inr (.inl (g_))))]) := by
  refine cr_intro (cc := cX4_isWrong) (maxL := 2) (ret := (some .boolean)) (own := RX4) (by decide) rfl rfl (Nat.le_of_ble_eq_true rfl) ?_
  intro p e s m args below meth c A hx hb hr hml hts hown hlocks hnm hNX hP hK hD hA hS ls hl
  obtain ⟨RR, hRR⟩ : ∃ RR, RR = (ctR (some (.int (bI (T.p i_ ≠ g_ i_)))) [(a_ 0, .inr (4, [.int (nI (T.s 2)), .int (nI (T.s 3)), .int (nI (T.s 4)), .int (nI (T.s 0)), .int (nI (T.s 6)), .ref (a_ 1), .ref (a_ 2), .ref (a_ 3), .ref (a_ 4), .ref (a_ 6)])), (a_ 1, .inl (G.2.2.1, 40, .inr (.inl (T.p)))), (a_ 2, .inl (G.2.2.1, 40, .inr (.inl (g_))))]) := ⟨_, rfl⟩
  rw [← hRR]
  have hl : lv_has ls 2 [(0, .ref (a_ 0)), (1, .int (nI i_))] := hl
  have hin4 : ∀ w ∈ u_ws RX4 TX4 10, w ∈ wsX4_isWrong := fun w h => List.mem_cons_of_mem _ (List.mem_append_right _ h)
  refine lv_aload_n hx hb dX4_isWrong_0 rfl (lv_at hl 0 rfl) ?_
  refine va_get (D := G.1) (ci := 4) (v := .ref (a_ 1)) (C := RX4) (T := TX4) (N := 10) hx hb hts hin4 hown hK hP 0 rfl rfl 5 (by decide) (hts (.fieldLink RX4 15 "PowerTables$Table" "printed" "[J") (List.mem_of_getElem? (i := 1) rfl)) (fun _ h9 => h9) rfl dX4_isWrong_1 ?_
  refine lv_iload_n hx hb dX4_isWrong_4 rfl (lv_at hl 1 rfl) ?_
  refine ks_lald hx hb hK hP 1 rfl (by omega) (by decide) dX4_isWrong_5 ?_
  refine lv_aload_n hx hb dX4_isWrong_6 rfl (lv_at hl 0 rfl) ?_
  refine va_get (D := G.1) (ci := 4) (v := .ref (a_ 2)) (C := RX4) (T := TX4) (N := 10) hx hb hts hin4 hown hK hP 0 rfl rfl 6 (by decide) (hts (.fieldLink RX4 19 "PowerTables$Table" "right" "[J") (List.mem_of_getElem? (i := 2) rfl)) (fun _ h9 => h9) rfl dX4_isWrong_7 ?_
  refine lv_iload_n hx hb dX4_isWrong_10 rfl (lv_at hl 1 rfl) ?_
  refine ks_lald hx hb hK hP 2 rfl (by omega) (by decide) dX4_isWrong_11 ?_
  refine ks_lc_eq (tgt := 20) hx hb dX4_isWrong_12 dX4_isWrong_13 (by decide) (fun c_12 => ?_) (fun c_12 => ?_)
  · have hv : nI 0 = bI (T.p i_ ≠ g_ i_) := bI_0 (fun z => z c_12)
    refine lv_iconst (v := nI 0) hx hb dX4_isWrong_20 (by decide) ?_
    exact cr_zret hx hb hr hlocks hK hP hD hS (by decide +kernel) dX4_isWrong_21 (by rw [hRR]; exact ctR_i (hv) (rfl))
  · have hv : nI 1 = bI (T.p i_ ≠ g_ i_) := bI_1 c_12
    refine lv_iconst (v := nI 1) hx hb dX4_isWrong_16 (by decide) ?_
    refine lv_goto (tgt := 21) hx hb dX4_isWrong_17 (by decide) ?_
    exact cr_zret hx hb hr hlocks hK hP hD hS (by decide +kernel) dX4_isWrong_21 (by rw [hRR]; exact ctR_i (hv) (rfl))
set_option maxHeartbeats 4000000 in
set_option maxRecDepth 100000 in
theorem c_X4_wholeGroups (G : GG) (l : Launch) (a_ : Nat → Nat) (T : TS) (z_ : Nat) (jz : 1 ≤ z_) (jz2 : z_ < 2 ^ 30) (jn : T.s 4 ≤ 40) : Cr G l yX4_wholeGroups wsX4_wholeGroups ({ frames := 0, cells := 0, slots := 0, locals := 0 }) 0 0 [.ref (a_ 0), .int (nI z_)] [(a_ 0, .inr (4, [.int (nI (T.s 2)), .int (nI (T.s 3)), .int (nI (T.s 4)), .int (nI (T.s 0)), .int (nI (T.s 6)), .ref (a_ 1), .ref (a_ 2), .ref (a_ 3), .ref (a_ 4), .ref (a_ 6)]))] (ctR (some (.int (nI (T.s 4 / z_)))) [(a_ 0, .inr (4, [.int (nI (T.s 2)), .int (nI (T.s 3)), .int (nI (T.s 4)), .int (nI (T.s 0)), .int (nI (T.s 6)), .ref (a_ 1), .ref (a_ 2), .ref (a_ 3), .ref (a_ 4), .ref (a_ 6)]))]) := by
  refine cr_intro (cc := cX4_wholeGroups) (maxL := 2) (ret := (some .int)) (own := RX4) (by decide) rfl rfl (Nat.le_of_ble_eq_true rfl) ?_
  intro p e s m args below meth c A hx hb hr hml hts hown hlocks hnm hNX hP hK hD hA hS ls hl
  obtain ⟨RR, hRR⟩ : ∃ RR, RR = (ctR (some (.int (nI (T.s 4 / z_)))) [(a_ 0, .inr (4, [.int (nI (T.s 2)), .int (nI (T.s 3)), .int (nI (T.s 4)), .int (nI (T.s 0)), .int (nI (T.s 6)), .ref (a_ 1), .ref (a_ 2), .ref (a_ 3), .ref (a_ 4), .ref (a_ 6)]))]) := ⟨_, rfl⟩
  rw [← hRR]
  have hl : lv_has ls 2 [(0, .ref (a_ 0)), (1, .int (nI z_))] := hl
  have hin4 : ∀ w ∈ u_ws RX4 TX4 10, w ∈ wsX4_wholeGroups := fun w h => List.mem_cons_of_mem _ (List.mem_append_right _ h)
  refine lv_iload_n hx hb dX4_wholeGroups_0 rfl (lv_at hl 1 rfl) ?_
  refine lv_iconst (v := nI 1) hx hb dX4_wholeGroups_1 (by decide) ?_
  refine ks_icmp_ge (tgt := 9) hx hb dX4_wholeGroups_2 (by decide) (by omega) (by omega) (fun c_2 => ?_) (fun c_2 => ?_)
  · refine lv_aload_n hx hb dX4_wholeGroups_9 rfl (lv_at hl 0 rfl) ?_
    refine va_get (D := G.1) (ci := 4) (v := .int (nI (T.s 4))) (C := RX4) (T := TX4) (N := 10) hx hb hts hin4 hown hK hP 0 rfl rfl 2 (by decide) (hts (.fieldLink RX4 46 "PowerTables$Table" "rows" "I") (List.mem_of_getElem? (i := 1) rfl)) (fun _ h9 => h9) rfl dX4_wholeGroups_10 ?_
    refine lv_iload_n hx hb dX4_wholeGroups_13 rfl (lv_at hl 1 rfl) ?_
    refine ks_idivN hx hb dX4_wholeGroups_14 (by omega) (by omega) (by omega) ?_
    exact cr_iret hx hb hr hlocks hK hP hD hS dX4_wholeGroups_15 (by rw [hRR]; exact ctR_i (rfl) (rfl))
  · omega
set_option maxHeartbeats 4000000 in
set_option maxRecDepth 100000 in
theorem c_X4_firstWrongRow (G : GG) (l : Launch) (a_ : Nat → Nat) (T : TS) (g_ : Nat → Int64) (jn : T.s 4 ≤ 40) : Cr G l yX4_firstWrongRow wsX4_firstWrongRow ({ frames := 1, cells := 0, slots := 0, locals := 21 }) 0 0 [.ref (a_ 0)] [(a_ 0, .inr (4, [.int (nI (T.s 2)), .int (nI (T.s 3)), .int (nI (T.s 4)), .int (nI (T.s 0)), .int (nI (T.s 6)), .ref (a_ 1), .ref (a_ 2), .ref (a_ 3), .ref (a_ 4), .ref (a_ 6)])), (a_ 1, .inl (G.2.2.1, 40, .inr (.inl (T.p)))), (a_ 2, .inl (G.2.2.1, 40, .inr (.inl (g_))))] (ctR (some (.int (fwI (fun k => T.p k ≠ g_ k) (T.s 4)))) [(a_ 0, .inr (4, [.int (nI (T.s 2)), .int (nI (T.s 3)), .int (nI (T.s 4)), .int (nI (T.s 0)), .int (nI (T.s 6)), .ref (a_ 1), .ref (a_ 2), .ref (a_ 3), .ref (a_ 4), .ref (a_ 6)])), (a_ 1, .inl (G.2.2.1, 40, .inr (.inl (T.p)))), (a_ 2, .inl (G.2.2.1, 40, .inr (.inl (g_))))]) := by
  refine cr_intro (cc := cX4_firstWrongRow) (maxL := 2) (ret := (some .int)) (own := RX4) (by decide) rfl rfl (Nat.le_of_ble_eq_true rfl) ?_
  intro p e s m args below meth c A hx hb hr hml hts hown hlocks hnm hNX hP hK hD hA hS ls hl
  obtain ⟨RR, hRR⟩ : ∃ RR, RR = (ctR (some (.int (fwI (fun k => T.p k ≠ g_ k) (T.s 4)))) [(a_ 0, .inr (4, [.int (nI (T.s 2)), .int (nI (T.s 3)), .int (nI (T.s 4)), .int (nI (T.s 0)), .int (nI (T.s 6)), .ref (a_ 1), .ref (a_ 2), .ref (a_ 3), .ref (a_ 4), .ref (a_ 6)])), (a_ 1, .inl (G.2.2.1, 40, .inr (.inl (T.p)))), (a_ 2, .inl (G.2.2.1, 40, .inr (.inl (g_))))]) := ⟨_, rfl⟩
  rw [← hRR]
  have hl : lv_has ls 2 [(0, .ref (a_ 0))] := hl
  have hin4 : ∀ w ∈ u_ws RX4 TX4 10, w ∈ wsX4_firstWrongRow := fun w h => List.mem_cons_of_mem _ (List.mem_append_right _ h)
  refine lv_iconst (v := nI 0) hx hb dX4_firstWrongRow_0 (by decide) ?_
  refine lv_istore_n (lv' := [(1, .int (nI 0)), (0, .ref (a_ 0))]) hx hb dX4_firstWrongRow_1 rfl hl (by decide) rfl (fun ls hl => ?_)
  have L_2 : ∀ (n_2 : Nat) (i_ : Nat) (_ : 41 - i_ < n_2) (ji : i_ ≤ T.s 4) (jw : ∀ k, k < i_ → ¬ (T.p k ≠ g_ k)) (Hq : Heap) (lcq : List Loc), va_P G.1 vwCl [(a_ 0, .inr (4, [.int (nI (T.s 2)), .int (nI (T.s 3)), .int (nI (T.s 4)), .int (nI (T.s 0)), .int (nI (T.s 6)), .ref (a_ 1), .ref (a_ 2), .ref (a_ 3), .ref (a_ 4), .ref (a_ 6)])), (a_ 1, .inl (G.2.2.1, 40, .inr (.inl (T.p)))), (a_ 2, .inl (G.2.2.1, 40, .inr (.inl (g_))))] Hq → va_D A [(a_ 0, .inr (4, [.int (nI (T.s 2)), .int (nI (T.s 3)), .int (nI (T.s 4)), .int (nI (T.s 0)), .int (nI (T.s 6)), .ref (a_ 1), .ref (a_ 2), .ref (a_ 3), .ref (a_ 4), .ref (a_ 6)])), (a_ 1, .inl (G.2.2.1, 40, .inr (.inl (T.p)))), (a_ 2, .inl (G.2.2.1, 40, .inr (.inl (g_))))] → va_S A s.heap Hq lcq → ∀ ls : Array Slot, lv_has ls 2 [(1, .int (nI i_)), (0, .ref (a_ 0))] → W p l e ({ frames := 1, cells := 0, slots := 0, locals := 21 }) s m args below meth c Hq lcq 0 0 (MQ below (cr_Q G RR A) args s 0 0 A) (F0 m 2 ls []) := by
    intro n_2
    induction n_2 with
    | zero => intro i_ hmu_2; exact absurd hmu_2 (Nat.not_lt_zero _)
    | succ n_2 ih_2 =>
      intro i_ hmu_2 ji jw Hq lcq hP hD hS ls hl
      refine lv_iload_n hx hb dX4_firstWrongRow_2 rfl (lv_at hl 0 rfl) ?_
      refine lv_aload_n hx hb dX4_firstWrongRow_3 rfl (lv_at hl 1 rfl) ?_
      refine va_get (D := G.1) (ci := 4) (v := .int (nI (T.s 4))) (C := RX4) (T := TX4) (N := 10) hx hb hts hin4 hown hK hP 0 rfl rfl 2 (by decide) (hts (.fieldLink RX4 46 "PowerTables$Table" "rows" "I") (List.mem_of_getElem? (i := 1) rfl)) (fun _ h9 => h9) rfl dX4_firstWrongRow_4 ?_
      refine ks_icmp_ge (tgt := 26) hx hb dX4_firstWrongRow_7 (by decide) (by omega) (by omega) (fun c_7 => ?_) (fun c_7 => ?_)
      · refine lv_iconst (v := (-1)) hx hb dX4_firstWrongRow_26 (by decide) ?_
        exact cr_iret hx hb hr hlocks hK hP hD hS dX4_firstWrongRow_27 (by rw [hRR]; exact ctR_i ((fwI_n (fun k hk => jw k (by omega))).symm) (rfl))
      · refine lv_aload_n hx hb dX4_firstWrongRow_10 rfl (lv_at hl 1 rfl) ?_
        refine lv_iload_n hx hb dX4_firstWrongRow_11 rfl (lv_at hl 0 rfl) ?_
        refine cr_V (wr := []) (As := [.int (nI i_)]) (rest := []) ⟨hx, hb, hml, hown, hts⟩ (c_X4_isWrong G l a_ T g_ i_ (by omega)) (cwV 1 hts gX4_firstWrongRow_X4_isWrong rfl rfl rfl (by decide +kernel) ⟨Nat.le_of_ble_eq_true rfl, Nat.le_of_ble_eq_true rfl⟩) dX4_firstWrongRow_12 hK hNX hP hD hS hA hl 0 4 rfl rfl rfl [0, 1, 2] [] rfl rfl rfl rfl (by decide) rfl (Nat.le_of_ble_eq_true rfl) ⟨Nat.le_of_ble_eq_true rfl, Nat.le_of_ble_eq_true rfl⟩ rfl (fun v' w' Hq lcq hR' hP hD hS => ?_)
        obtain ⟨rfl, rfl⟩ := hR'
        have hP : va_P G.1 vwCl [(a_ 0, .inr (4, [.int (nI (T.s 2)), .int (nI (T.s 3)), .int (nI (T.s 4)), .int (nI (T.s 0)), .int (nI (T.s 6)), .ref (a_ 1), .ref (a_ 2), .ref (a_ 3), .ref (a_ 4), .ref (a_ 6)])), (a_ 1, .inl (G.2.2.1, 40, .inr (.inl (T.p)))), (a_ 2, .inl (G.2.2.1, 40, .inr (.inl (g_))))] _ := hP.sub [0, 1, 2] rfl
        have hD : va_D A [(a_ 0, .inr (4, [.int (nI (T.s 2)), .int (nI (T.s 3)), .int (nI (T.s 4)), .int (nI (T.s 0)), .int (nI (T.s 6)), .ref (a_ 1), .ref (a_ 2), .ref (a_ 3), .ref (a_ 4), .ref (a_ 6)])), (a_ 1, .inl (G.2.2.1, 40, .inr (.inl (T.p)))), (a_ 2, .inl (G.2.2.1, 40, .inr (.inl (g_))))] := hD.sub [0, 1, 2] rfl rfl
        refine ks_ifb_eq (tgt := 20) hx hb dX4_firstWrongRow_15 (by decide) (fun c_15 => ?_) (fun c_15 => ?_)
        · refine lv_iinc (v := nI (i_ + 1)) (lv' := [(1, .int (nI (i_ + 1))), (0, .ref (a_ 0))]) hx hb dX4_firstWrongRow_20 hl (k := 0) rfl (ks_inc i_ 1) (by decide) rfl (fun ls hl => ?_)
          refine lv_goto (tgt := 2) hx hb dX4_firstWrongRow_23 (by decide) ?_
          exact ih_2  (i_ + 1) (by omega) (by omega) (fun k hk => (Nat.lt_or_ge k i_).elim (fun z => jw k z) (fun z => by rw [show k = i_ by omega]; exact c_15)) _ _ hP hD hS ls (lv_sub hl [0, 1] rfl)
        · refine lv_iload_n hx hb dX4_firstWrongRow_18 rfl (lv_at hl 0 rfl) ?_
          exact cr_iret hx hb hr hlocks hK hP hD hS dX4_firstWrongRow_19 (by rw [hRR]; exact ctR_i ((fwI_y c_7 c_15 jw).symm) (rfl))
  exact L_2 _ 0 (Nat.lt_succ_self _) (by omega) (fun k hk => absurd hk (Nat.not_lt_zero _)) _ _ hP hD hS ls (lv_sub hl [0, 1] rfl)
set_option maxHeartbeats 4000000 in
set_option maxRecDepth 100000 in
theorem c_X4_wrongRows (G : GG) (l : Launch) (a_ : Nat → Nat) (T : TS) (g_ : Nat → Int64) (fr_ : Nat) (to_ : Nat) (j1 : fr_ ≤ to_) (j2_ : to_ ≤ 40) : Cr G l yX4_wrongRows wsX4_wrongRows ({ frames := 1, cells := 0, slots := 0, locals := 21 }) 0 0 [.ref (a_ 0), .int (nI fr_), .int (nI to_)] [(a_ 0, .inr (4, [.int (nI (T.s 2)), .int (nI (T.s 3)), .int (nI (T.s 4)), .int (nI (T.s 0)), .int (nI (T.s 6)), .ref (a_ 1), .ref (a_ 2), .ref (a_ 3), .ref (a_ 4), .ref (a_ 6)])), (a_ 1, .inl (G.2.2.1, 40, .inr (.inl (T.p)))), (a_ 2, .inl (G.2.2.1, 40, .inr (.inl (g_))))] (ctR (some (.int (nI (ctN (fun k => T.p (fr_ + k) ≠ g_ (fr_ + k)) (to_ - fr_))))) [(a_ 0, .inr (4, [.int (nI (T.s 2)), .int (nI (T.s 3)), .int (nI (T.s 4)), .int (nI (T.s 0)), .int (nI (T.s 6)), .ref (a_ 1), .ref (a_ 2), .ref (a_ 3), .ref (a_ 4), .ref (a_ 6)])), (a_ 1, .inl (G.2.2.1, 40, .inr (.inl (T.p)))), (a_ 2, .inl (G.2.2.1, 40, .inr (.inl (g_))))]) := by
  refine cr_intro (cc := cX4_wrongRows) (maxL := 5) (ret := (some .int)) (own := RX4) (by decide) rfl rfl (Nat.le_of_ble_eq_true rfl) ?_
  intro p e s m args below meth c A hx hb hr hml hts hown hlocks hnm hNX hP hK hD hA hS ls hl
  obtain ⟨RR, hRR⟩ : ∃ RR, RR = (ctR (some (.int (nI (ctN (fun k => T.p (fr_ + k) ≠ g_ (fr_ + k)) (to_ - fr_))))) [(a_ 0, .inr (4, [.int (nI (T.s 2)), .int (nI (T.s 3)), .int (nI (T.s 4)), .int (nI (T.s 0)), .int (nI (T.s 6)), .ref (a_ 1), .ref (a_ 2), .ref (a_ 3), .ref (a_ 4), .ref (a_ 6)])), (a_ 1, .inl (G.2.2.1, 40, .inr (.inl (T.p)))), (a_ 2, .inl (G.2.2.1, 40, .inr (.inl (g_))))]) := ⟨_, rfl⟩
  rw [← hRR]
  have hl : lv_has ls 5 [(0, .ref (a_ 0)), (1, .int (nI fr_)), (2, .int (nI to_))] := hl
  refine lv_iconst (v := nI 0) hx hb dX4_wrongRows_0 (by decide) ?_
  refine lv_istore_n (lv' := [(3, .int (nI 0)), (0, .ref (a_ 0)), (1, .int (nI fr_)), (2, .int (nI to_))]) hx hb dX4_wrongRows_1 rfl hl (by decide) rfl (fun ls hl => ?_)
  refine lv_iload_n hx hb dX4_wrongRows_2 rfl (lv_at hl 2 rfl) ?_
  refine lv_istore (lv' := [(4, .int (nI fr_)), (3, .int (nI 0)), (0, .ref (a_ 0)), (1, .int (nI fr_)), (2, .int (nI to_))]) hx hb dX4_wrongRows_3 hl (by decide) rfl (fun ls hl => ?_)
  have L_5 : ∀ (n_5 : Nat) (i_ : Nat) (_ : 41 - i_ < n_5) (ji : fr_ + i_ ≤ to_) (Hq : Heap) (lcq : List Loc), va_P G.1 vwCl [(a_ 0, .inr (4, [.int (nI (T.s 2)), .int (nI (T.s 3)), .int (nI (T.s 4)), .int (nI (T.s 0)), .int (nI (T.s 6)), .ref (a_ 1), .ref (a_ 2), .ref (a_ 3), .ref (a_ 4), .ref (a_ 6)])), (a_ 1, .inl (G.2.2.1, 40, .inr (.inl (T.p)))), (a_ 2, .inl (G.2.2.1, 40, .inr (.inl (g_))))] Hq → va_D A [(a_ 0, .inr (4, [.int (nI (T.s 2)), .int (nI (T.s 3)), .int (nI (T.s 4)), .int (nI (T.s 0)), .int (nI (T.s 6)), .ref (a_ 1), .ref (a_ 2), .ref (a_ 3), .ref (a_ 4), .ref (a_ 6)])), (a_ 1, .inl (G.2.2.1, 40, .inr (.inl (T.p)))), (a_ 2, .inl (G.2.2.1, 40, .inr (.inl (g_))))] → va_S A s.heap Hq lcq → ∀ ls : Array Slot, lv_has ls 5 [(4, .int (nI (fr_ + i_))), (0, .ref (a_ 0)), (2, .int (nI to_)), (3, .int (nI (ctN (fun k => T.p (fr_ + k) ≠ g_ (fr_ + k)) i_)))] → W p l e ({ frames := 1, cells := 0, slots := 0, locals := 21 }) s m args below meth c Hq lcq 0 0 (MQ below (cr_Q G RR A) args s 0 0 A) (F0 m 5 ls []) := by
    intro n_5
    induction n_5 with
    | zero => intro i_ hmu_5; exact absurd hmu_5 (Nat.not_lt_zero _)
    | succ n_5 ih_5 =>
      intro i_ hmu_5 ji Hq lcq hP hD hS ls hl
      refine lv_iload hx hb dX4_wrongRows_5 (lv_at hl 0 rfl) ?_
      refine lv_iload_n hx hb dX4_wrongRows_7 rfl (lv_at hl 2 rfl) ?_
      refine ks_icmp_ge (tgt := 34) hx hb dX4_wrongRows_8 (by decide) (by omega) (by omega) (fun c_8 => ?_) (fun c_8 => ?_)
      · obtain rfl : i_ = to_ - fr_ := by omega
        refine lv_iload_n hx hb dX4_wrongRows_34 rfl (lv_at hl 3 rfl) ?_
        exact cr_iret hx hb hr hlocks hK hP hD hS dX4_wrongRows_35 (by rw [hRR]; exact ctR_i (rfl) (rfl))
      · refine lv_iload_n hx hb dX4_wrongRows_11 rfl (lv_at hl 3 rfl) ?_
        refine lv_aload_n hx hb dX4_wrongRows_12 rfl (lv_at hl 1 rfl) ?_
        refine lv_iload hx hb dX4_wrongRows_13 (lv_at hl 0 rfl) ?_
        refine cr_V (wr := []) (As := [.int (nI (fr_ + i_))]) (rest := [.int (nI (ctN (fun k => T.p (fr_ + k) ≠ g_ (fr_ + k)) i_))]) ⟨hx, hb, hml, hown, hts⟩ (c_X4_isWrong G l a_ T g_ (fr_ + i_) (by omega)) (cwV 1 hts gX4_wrongRows_X4_isWrong rfl rfl rfl (by decide +kernel) ⟨Nat.le_of_ble_eq_true rfl, Nat.le_of_ble_eq_true rfl⟩) dX4_wrongRows_15 hK hNX hP hD hS hA hl 0 4 rfl rfl rfl [0, 1, 2] [] rfl rfl rfl rfl (by decide) rfl (Nat.le_of_ble_eq_true rfl) ⟨Nat.le_of_ble_eq_true rfl, Nat.le_of_ble_eq_true rfl⟩ rfl (fun v' w' Hq lcq hR' hP hD hS => ?_)
        obtain ⟨rfl, rfl⟩ := hR'
        have hP : va_P G.1 vwCl [(a_ 0, .inr (4, [.int (nI (T.s 2)), .int (nI (T.s 3)), .int (nI (T.s 4)), .int (nI (T.s 0)), .int (nI (T.s 6)), .ref (a_ 1), .ref (a_ 2), .ref (a_ 3), .ref (a_ 4), .ref (a_ 6)])), (a_ 1, .inl (G.2.2.1, 40, .inr (.inl (T.p)))), (a_ 2, .inl (G.2.2.1, 40, .inr (.inl (g_))))] _ := hP.sub [0, 1, 2] rfl
        have hD : va_D A [(a_ 0, .inr (4, [.int (nI (T.s 2)), .int (nI (T.s 3)), .int (nI (T.s 4)), .int (nI (T.s 0)), .int (nI (T.s 6)), .ref (a_ 1), .ref (a_ 2), .ref (a_ 3), .ref (a_ 4), .ref (a_ 6)])), (a_ 1, .inl (G.2.2.1, 40, .inr (.inl (T.p)))), (a_ 2, .inl (G.2.2.1, 40, .inr (.inl (g_))))] := hD.sub [0, 1, 2] rfl rfl
        refine ks_ifb_eq (tgt := 25) hx hb dX4_wrongRows_18 (by decide) (fun c_18 => ?_) (fun c_18 => ?_)
        · refine lv_iconst (v := nI 0) hx hb dX4_wrongRows_25 (by decide) ?_
          refine ks_iaddN hx hb dX4_wrongRows_26 ?_
          refine ks_vI (show nI (ctN (fun k => T.p (fr_ + k) ≠ g_ (fr_ + k)) i_ + 0) = nI (ctN (fun k => T.p (fr_ + k) ≠ g_ (fr_ + k)) (i_ + 1)) from by rw [Nat.add_zero, ctN_f (p := (fun k => T.p (fr_ + k) ≠ g_ (fr_ + k))) c_18]) ?_
          refine lv_istore_n (lv' := [(3, .int (nI (ctN (fun k => T.p (fr_ + k) ≠ g_ (fr_ + k)) (i_ + 1)))), (4, .int (nI (fr_ + i_))), (0, .ref (a_ 0)), (2, .int (nI to_))]) hx hb dX4_wrongRows_27 rfl hl (by decide) rfl (fun ls hl => ?_)
          refine lv_iinc (v := nI (fr_ + i_ + 1)) (lv' := [(4, .int (nI (fr_ + i_ + 1))), (3, .int (nI (ctN (fun k => T.p (fr_ + k) ≠ g_ (fr_ + k)) (i_ + 1)))), (0, .ref (a_ 0)), (2, .int (nI to_))]) hx hb dX4_wrongRows_28 hl (k := 1) rfl (ks_inc (fr_ + i_) 1) (by decide) rfl (fun ls hl => ?_)
          refine lv_goto (tgt := 5) hx hb dX4_wrongRows_31 (by decide) ?_
          exact ih_5  (i_ + 1) (by omega) (by omega) _ _ hP hD hS ls (lv_sub hl [0, 2, 3, 1] rfl)
        · refine lv_iconst (v := nI 1) hx hb dX4_wrongRows_21 (by decide) ?_
          refine lv_goto (tgt := 26) hx hb dX4_wrongRows_22 (by decide) ?_
          refine ks_iaddN hx hb dX4_wrongRows_26 ?_
          refine ks_vI (show nI (ctN (fun k => T.p (fr_ + k) ≠ g_ (fr_ + k)) i_ + 1) = nI (ctN (fun k => T.p (fr_ + k) ≠ g_ (fr_ + k)) (i_ + 1)) from by rw [ctN_t (p := (fun k => T.p (fr_ + k) ≠ g_ (fr_ + k))) c_18]) ?_
          refine lv_istore_n (lv' := [(3, .int (nI (ctN (fun k => T.p (fr_ + k) ≠ g_ (fr_ + k)) (i_ + 1)))), (4, .int (nI (fr_ + i_))), (0, .ref (a_ 0)), (2, .int (nI to_))]) hx hb dX4_wrongRows_27 rfl hl (by decide) rfl (fun ls hl => ?_)
          refine lv_iinc (v := nI (fr_ + i_ + 1)) (lv' := [(4, .int (nI (fr_ + i_ + 1))), (3, .int (nI (ctN (fun k => T.p (fr_ + k) ≠ g_ (fr_ + k)) (i_ + 1)))), (0, .ref (a_ 0)), (2, .int (nI to_))]) hx hb dX4_wrongRows_28 hl (k := 1) rfl (ks_inc (fr_ + i_) 1) (by decide) rfl (fun ls hl => ?_)
          refine lv_goto (tgt := 5) hx hb dX4_wrongRows_31 (by decide) ?_
          exact ih_5  (i_ + 1) (by omega) (by omega) _ _ hP hD hS ls (lv_sub hl [0, 2, 3, 1] rfl)
  exact L_5 _ 0 (Nat.lt_succ_self _) (by omega) _ _ hP hD hS ls (lv_sub hl [0, 2, 4, 1] rfl)
set_option maxHeartbeats 4000000 in
set_option maxRecDepth 100000 in
theorem c_X4_printedSum (G : GG) (l : Launch) (a_ : Nat → Nat) (T : TS) (g_ : Nat → Int64) (fr_ : Nat) (to_ : Nat) (j1 : fr_ ≤ to_) (j2_ : to_ ≤ 40) : Cr G l yX4_printedSum wsX4_printedSum ({ frames := 0, cells := 0, slots := 0, locals := 0 }) 0 0 [.ref (a_ 0), .int (nI fr_), .int (nI to_)] [(a_ 0, .inr (4, [.int (nI (T.s 2)), .int (nI (T.s 3)), .int (nI (T.s 4)), .int (nI (T.s 0)), .int (nI (T.s 6)), .ref (a_ 1), .ref (a_ 2), .ref (a_ 3), .ref (a_ 4), .ref (a_ 6)])), (a_ 1, .inl (G.2.2.1, 40, .inr (.inl (T.p)))), (a_ 2, .inl (G.2.2.1, 40, .inr (.inl (g_))))] (ctR (some (.long (smL (fun k => T.p (fr_ + k)) (to_ - fr_)))) [(a_ 0, .inr (4, [.int (nI (T.s 2)), .int (nI (T.s 3)), .int (nI (T.s 4)), .int (nI (T.s 0)), .int (nI (T.s 6)), .ref (a_ 1), .ref (a_ 2), .ref (a_ 3), .ref (a_ 4), .ref (a_ 6)])), (a_ 1, .inl (G.2.2.1, 40, .inr (.inl (T.p)))), (a_ 2, .inl (G.2.2.1, 40, .inr (.inl (g_))))]) := by
  refine cr_intro (cc := cX4_printedSum) (maxL := 6) (ret := (some .long)) (own := RX4) (by decide) rfl rfl (Nat.le_of_ble_eq_true rfl) ?_
  intro p e s m args below meth c A hx hb hr hml hts hown hlocks hnm hNX hP hK hD hA hS ls hl
  obtain ⟨RR, hRR⟩ : ∃ RR, RR = (ctR (some (.long (smL (fun k => T.p (fr_ + k)) (to_ - fr_)))) [(a_ 0, .inr (4, [.int (nI (T.s 2)), .int (nI (T.s 3)), .int (nI (T.s 4)), .int (nI (T.s 0)), .int (nI (T.s 6)), .ref (a_ 1), .ref (a_ 2), .ref (a_ 3), .ref (a_ 4), .ref (a_ 6)])), (a_ 1, .inl (G.2.2.1, 40, .inr (.inl (T.p)))), (a_ 2, .inl (G.2.2.1, 40, .inr (.inl (g_))))]) := ⟨_, rfl⟩
  rw [← hRR]
  have hl : lv_has ls 6 [(0, .ref (a_ 0)), (1, .int (nI fr_)), (2, .int (nI to_))] := hl
  have hin4 : ∀ w ∈ u_ws RX4 TX4 10, w ∈ wsX4_printedSum := fun w h => List.mem_cons_of_mem _ (List.mem_append_right _ h)
  refine lv_lconst (v := lN 0) hx hb dX4_printedSum_0 rfl ?_
  refine lv_lstore_n (lv' := [(3, .long (lN 0)), (0, .ref (a_ 0)), (1, .int (nI fr_)), (2, .int (nI to_))]) hx hb dX4_printedSum_1 rfl hl (by decide) rfl (fun ls hl => ?_)
  refine lv_iload_n hx hb dX4_printedSum_2 rfl (lv_at hl 2 rfl) ?_
  refine lv_istore (lv' := [(5, .int (nI fr_)), (3, .long (lN 0)), (0, .ref (a_ 0)), (1, .int (nI fr_)), (2, .int (nI to_))]) hx hb dX4_printedSum_3 hl (by decide) rfl (fun ls hl => ?_)
  have L_5 : ∀ (n_5 : Nat) (i_ : Nat) (_ : 41 - i_ < n_5) (ji : fr_ + i_ ≤ to_) (Hq : Heap) (lcq : List Loc), va_P G.1 vwCl [(a_ 0, .inr (4, [.int (nI (T.s 2)), .int (nI (T.s 3)), .int (nI (T.s 4)), .int (nI (T.s 0)), .int (nI (T.s 6)), .ref (a_ 1), .ref (a_ 2), .ref (a_ 3), .ref (a_ 4), .ref (a_ 6)])), (a_ 1, .inl (G.2.2.1, 40, .inr (.inl (T.p)))), (a_ 2, .inl (G.2.2.1, 40, .inr (.inl (g_))))] Hq → va_D A [(a_ 0, .inr (4, [.int (nI (T.s 2)), .int (nI (T.s 3)), .int (nI (T.s 4)), .int (nI (T.s 0)), .int (nI (T.s 6)), .ref (a_ 1), .ref (a_ 2), .ref (a_ 3), .ref (a_ 4), .ref (a_ 6)])), (a_ 1, .inl (G.2.2.1, 40, .inr (.inl (T.p)))), (a_ 2, .inl (G.2.2.1, 40, .inr (.inl (g_))))] → va_S A s.heap Hq lcq → ∀ ls : Array Slot, lv_has ls 6 [(5, .int (nI (fr_ + i_))), (0, .ref (a_ 0)), (2, .int (nI to_)), (3, .long (smL (fun k => T.p (fr_ + k)) i_))] → W p l e ({ frames := 0, cells := 0, slots := 0, locals := 0 }) s m args below meth c Hq lcq 0 0 (MQ below (cr_Q G RR A) args s 0 0 A) (F0 m 5 ls []) := by
    intro n_5
    induction n_5 with
    | zero => intro i_ hmu_5; exact absurd hmu_5 (Nat.not_lt_zero _)
    | succ n_5 ih_5 =>
      intro i_ hmu_5 ji Hq lcq hP hD hS ls hl
      refine lv_iload hx hb dX4_printedSum_5 (lv_at hl 0 rfl) ?_
      refine lv_iload_n hx hb dX4_printedSum_7 rfl (lv_at hl 2 rfl) ?_
      refine ks_icmp_ge (tgt := 27) hx hb dX4_printedSum_8 (by decide) (by omega) (by omega) (fun c_8 => ?_) (fun c_8 => ?_)
      · obtain rfl : i_ = to_ - fr_ := by omega
        refine lv_lload_n hx hb dX4_printedSum_27 rfl (lv_at hl 3 rfl) ?_
        exact cr_lret hx hb hr hlocks hK hP hD hS dX4_printedSum_28 (by rw [hRR]; exact ctR_l (rfl) (rfl))
      · refine lv_lload_n hx hb dX4_printedSum_11 rfl (lv_at hl 3 rfl) ?_
        refine lv_aload_n hx hb dX4_printedSum_12 rfl (lv_at hl 1 rfl) ?_
        refine va_get (D := G.1) (ci := 4) (v := .ref (a_ 1)) (C := RX4) (T := TX4) (N := 10) hx hb hts hin4 hown hK hP 0 rfl rfl 5 (by decide) (hts (.fieldLink RX4 15 "PowerTables$Table" "printed" "[J") (List.mem_of_getElem? (i := 1) rfl)) (fun _ h9 => h9) rfl dX4_printedSum_13 ?_
        refine lv_iload hx hb dX4_printedSum_16 (lv_at hl 0 rfl) ?_
        refine ks_lald hx hb hK hP 1 rfl (by omega) (by decide) dX4_printedSum_18 ?_
        refine lv_ladd hx hb dX4_printedSum_19 ?_
        refine lv_lstore_n (lv' := [(3, .long ((smL (fun k => T.p (fr_ + k)) i_) + (T.p (fr_ + i_)))), (5, .int (nI (fr_ + i_))), (0, .ref (a_ 0)), (2, .int (nI to_))]) hx hb dX4_printedSum_20 rfl hl (by decide) rfl (fun ls hl => ?_)
        refine lv_iinc (v := nI (fr_ + i_ + 1)) (lv' := [(5, .int (nI (fr_ + i_ + 1))), (3, .long ((smL (fun k => T.p (fr_ + k)) i_) + (T.p (fr_ + i_)))), (0, .ref (a_ 0)), (2, .int (nI to_))]) hx hb dX4_printedSum_21 hl (k := 1) rfl (ks_inc (fr_ + i_) 1) (by decide) rfl (fun ls hl => ?_)
        refine lv_goto (tgt := 5) hx hb dX4_printedSum_24 (by decide) ?_
        exact ih_5  (i_ + 1) (by omega) (by omega) _ _ hP hD hS ls (lv_sub hl [0, 2, 3, 1] rfl)
  exact L_5 _ 0 (Nat.lt_succ_self _) (by omega) _ _ hP hD hS ls (lv_sub hl [0, 2, 4, 1] rfl)
set_option maxHeartbeats 4000000 in
set_option maxRecDepth 100000 in
theorem c_X4_rightSum (G : GG) (l : Launch) (a_ : Nat → Nat) (T : TS) (g_ : Nat → Int64) (fr_ : Nat) (to_ : Nat) (j1 : fr_ ≤ to_) (j2_ : to_ ≤ 40) : Cr G l yX4_rightSum wsX4_rightSum ({ frames := 0, cells := 0, slots := 0, locals := 0 }) 0 0 [.ref (a_ 0), .int (nI fr_), .int (nI to_)] [(a_ 0, .inr (4, [.int (nI (T.s 2)), .int (nI (T.s 3)), .int (nI (T.s 4)), .int (nI (T.s 0)), .int (nI (T.s 6)), .ref (a_ 1), .ref (a_ 2), .ref (a_ 3), .ref (a_ 4), .ref (a_ 6)])), (a_ 1, .inl (G.2.2.1, 40, .inr (.inl (T.p)))), (a_ 2, .inl (G.2.2.1, 40, .inr (.inl (g_))))] (ctR (some (.long (smL (fun k => g_ (fr_ + k)) (to_ - fr_)))) [(a_ 0, .inr (4, [.int (nI (T.s 2)), .int (nI (T.s 3)), .int (nI (T.s 4)), .int (nI (T.s 0)), .int (nI (T.s 6)), .ref (a_ 1), .ref (a_ 2), .ref (a_ 3), .ref (a_ 4), .ref (a_ 6)])), (a_ 1, .inl (G.2.2.1, 40, .inr (.inl (T.p)))), (a_ 2, .inl (G.2.2.1, 40, .inr (.inl (g_))))]) := by
  refine cr_intro (cc := cX4_rightSum) (maxL := 6) (ret := (some .long)) (own := RX4) (by decide) rfl rfl (Nat.le_of_ble_eq_true rfl) ?_
  intro p e s m args below meth c A hx hb hr hml hts hown hlocks hnm hNX hP hK hD hA hS ls hl
  obtain ⟨RR, hRR⟩ : ∃ RR, RR = (ctR (some (.long (smL (fun k => g_ (fr_ + k)) (to_ - fr_)))) [(a_ 0, .inr (4, [.int (nI (T.s 2)), .int (nI (T.s 3)), .int (nI (T.s 4)), .int (nI (T.s 0)), .int (nI (T.s 6)), .ref (a_ 1), .ref (a_ 2), .ref (a_ 3), .ref (a_ 4), .ref (a_ 6)])), (a_ 1, .inl (G.2.2.1, 40, .inr (.inl (T.p)))), (a_ 2, .inl (G.2.2.1, 40, .inr (.inl (g_))))]) := ⟨_, rfl⟩
  rw [← hRR]
  have hl : lv_has ls 6 [(0, .ref (a_ 0)), (1, .int (nI fr_)), (2, .int (nI to_))] := hl
  have hin4 : ∀ w ∈ u_ws RX4 TX4 10, w ∈ wsX4_rightSum := fun w h => List.mem_cons_of_mem _ (List.mem_append_right _ h)
  refine lv_lconst (v := lN 0) hx hb dX4_rightSum_0 rfl ?_
  refine lv_lstore_n (lv' := [(3, .long (lN 0)), (0, .ref (a_ 0)), (1, .int (nI fr_)), (2, .int (nI to_))]) hx hb dX4_rightSum_1 rfl hl (by decide) rfl (fun ls hl => ?_)
  refine lv_iload_n hx hb dX4_rightSum_2 rfl (lv_at hl 2 rfl) ?_
  refine lv_istore (lv' := [(5, .int (nI fr_)), (3, .long (lN 0)), (0, .ref (a_ 0)), (1, .int (nI fr_)), (2, .int (nI to_))]) hx hb dX4_rightSum_3 hl (by decide) rfl (fun ls hl => ?_)
  have L_5 : ∀ (n_5 : Nat) (i_ : Nat) (_ : 41 - i_ < n_5) (ji : fr_ + i_ ≤ to_) (Hq : Heap) (lcq : List Loc), va_P G.1 vwCl [(a_ 0, .inr (4, [.int (nI (T.s 2)), .int (nI (T.s 3)), .int (nI (T.s 4)), .int (nI (T.s 0)), .int (nI (T.s 6)), .ref (a_ 1), .ref (a_ 2), .ref (a_ 3), .ref (a_ 4), .ref (a_ 6)])), (a_ 1, .inl (G.2.2.1, 40, .inr (.inl (T.p)))), (a_ 2, .inl (G.2.2.1, 40, .inr (.inl (g_))))] Hq → va_D A [(a_ 0, .inr (4, [.int (nI (T.s 2)), .int (nI (T.s 3)), .int (nI (T.s 4)), .int (nI (T.s 0)), .int (nI (T.s 6)), .ref (a_ 1), .ref (a_ 2), .ref (a_ 3), .ref (a_ 4), .ref (a_ 6)])), (a_ 1, .inl (G.2.2.1, 40, .inr (.inl (T.p)))), (a_ 2, .inl (G.2.2.1, 40, .inr (.inl (g_))))] → va_S A s.heap Hq lcq → ∀ ls : Array Slot, lv_has ls 6 [(5, .int (nI (fr_ + i_))), (0, .ref (a_ 0)), (2, .int (nI to_)), (3, .long (smL (fun k => g_ (fr_ + k)) i_))] → W p l e ({ frames := 0, cells := 0, slots := 0, locals := 0 }) s m args below meth c Hq lcq 0 0 (MQ below (cr_Q G RR A) args s 0 0 A) (F0 m 5 ls []) := by
    intro n_5
    induction n_5 with
    | zero => intro i_ hmu_5; exact absurd hmu_5 (Nat.not_lt_zero _)
    | succ n_5 ih_5 =>
      intro i_ hmu_5 ji Hq lcq hP hD hS ls hl
      refine lv_iload hx hb dX4_rightSum_5 (lv_at hl 0 rfl) ?_
      refine lv_iload_n hx hb dX4_rightSum_7 rfl (lv_at hl 2 rfl) ?_
      refine ks_icmp_ge (tgt := 27) hx hb dX4_rightSum_8 (by decide) (by omega) (by omega) (fun c_8 => ?_) (fun c_8 => ?_)
      · obtain rfl : i_ = to_ - fr_ := by omega
        refine lv_lload_n hx hb dX4_rightSum_27 rfl (lv_at hl 3 rfl) ?_
        exact cr_lret hx hb hr hlocks hK hP hD hS dX4_rightSum_28 (by rw [hRR]; exact ctR_l (rfl) (rfl))
      · refine lv_lload_n hx hb dX4_rightSum_11 rfl (lv_at hl 3 rfl) ?_
        refine lv_aload_n hx hb dX4_rightSum_12 rfl (lv_at hl 1 rfl) ?_
        refine va_get (D := G.1) (ci := 4) (v := .ref (a_ 2)) (C := RX4) (T := TX4) (N := 10) hx hb hts hin4 hown hK hP 0 rfl rfl 6 (by decide) (hts (.fieldLink RX4 19 "PowerTables$Table" "right" "[J") (List.mem_of_getElem? (i := 1) rfl)) (fun _ h9 => h9) rfl dX4_rightSum_13 ?_
        refine lv_iload hx hb dX4_rightSum_16 (lv_at hl 0 rfl) ?_
        refine ks_lald hx hb hK hP 2 rfl (by omega) (by decide) dX4_rightSum_18 ?_
        refine lv_ladd hx hb dX4_rightSum_19 ?_
        refine lv_lstore_n (lv' := [(3, .long ((smL (fun k => g_ (fr_ + k)) i_) + (g_ (fr_ + i_)))), (5, .int (nI (fr_ + i_))), (0, .ref (a_ 0)), (2, .int (nI to_))]) hx hb dX4_rightSum_20 rfl hl (by decide) rfl (fun ls hl => ?_)
        refine lv_iinc (v := nI (fr_ + i_ + 1)) (lv' := [(5, .int (nI (fr_ + i_ + 1))), (3, .long ((smL (fun k => g_ (fr_ + k)) i_) + (g_ (fr_ + i_)))), (0, .ref (a_ 0)), (2, .int (nI to_))]) hx hb dX4_rightSum_21 hl (k := 1) rfl (ks_inc (fr_ + i_) 1) (by decide) rfl (fun ls hl => ?_)
        refine lv_goto (tgt := 5) hx hb dX4_rightSum_24 (by decide) ?_
        exact ih_5  (i_ + 1) (by omega) (by omega) _ _ hP hD hS ls (lv_sub hl [0, 2, 3, 1] rfl)
  exact L_5 _ 0 (Nat.lt_succ_self _) (by omega) _ _ hP hD hS ls (lv_sub hl [0, 2, 4, 1] rfl)
set_option maxHeartbeats 4000000 in
set_option maxRecDepth 100000 in
theorem c_X4_isFoundWrong (G : GG) (l : Launch) (a_ : Nat → Nat) (T : TS) (g_ : Nat → Int64) (fr_ : Nat) (to_ : Nat) (j1 : fr_ ≤ to_) (j2_ : to_ ≤ 40) : Cr G l yX4_isFoundWrong wsX4_isFoundWrong ({ frames := 1, cells := 0, slots := 0, locals := 25 }) 0 0 [.ref (a_ 0), .int (nI fr_), .int (nI to_)] [(a_ 0, .inr (4, [.int (nI (T.s 2)), .int (nI (T.s 3)), .int (nI (T.s 4)), .int (nI (T.s 0)), .int (nI (T.s 6)), .ref (a_ 1), .ref (a_ 2), .ref (a_ 3), .ref (a_ 4), .ref (a_ 6)])), (a_ 1, .inl (G.2.2.1, 40, .inr (.inl (T.p)))), (a_ 2, .inl (G.2.2.1, 40, .inr (.inl (g_))))] (ctR (some (.int (bI (smL (fun k => T.p (fr_ + k)) (to_ - fr_) ≠ smL (fun k => g_ (fr_ + k)) (to_ - fr_))))) [(a_ 0, .inr (4, [.int (nI (T.s 2)), .int (nI (T.s 3)), .int (nI (T.s 4)), .int (nI (T.s 0)), .int (nI (T.s 6)), .ref (a_ 1), .ref (a_ 2), .ref (a_ 3), .ref (a_ 4), .ref (a_ 6)])), (a_ 1, .inl (G.2.2.1, 40, .inr (.inl (T.p)))), (a_ 2, .inl (G.2.2.1, 40, .inr (.inl (g_))))]) := by
  refine cr_intro (cc := cX4_isFoundWrong) (maxL := 3) (ret := (some .boolean)) (own := RX4) (by decide) rfl rfl (Nat.le_of_ble_eq_true rfl) ?_
  intro p e s m args below meth c A hx hb hr hml hts hown hlocks hnm hNX hP hK hD hA hS ls hl
  obtain ⟨RR, hRR⟩ : ∃ RR, RR = (ctR (some (.int (bI (smL (fun k => T.p (fr_ + k)) (to_ - fr_) ≠ smL (fun k => g_ (fr_ + k)) (to_ - fr_))))) [(a_ 0, .inr (4, [.int (nI (T.s 2)), .int (nI (T.s 3)), .int (nI (T.s 4)), .int (nI (T.s 0)), .int (nI (T.s 6)), .ref (a_ 1), .ref (a_ 2), .ref (a_ 3), .ref (a_ 4), .ref (a_ 6)])), (a_ 1, .inl (G.2.2.1, 40, .inr (.inl (T.p)))), (a_ 2, .inl (G.2.2.1, 40, .inr (.inl (g_))))]) := ⟨_, rfl⟩
  rw [← hRR]
  have hl : lv_has ls 3 [(0, .ref (a_ 0)), (1, .int (nI fr_)), (2, .int (nI to_))] := hl
  refine lv_aload_n hx hb dX4_isFoundWrong_0 rfl (lv_at hl 0 rfl) ?_
  refine lv_iload_n hx hb dX4_isFoundWrong_1 rfl (lv_at hl 1 rfl) ?_
  refine lv_iload_n hx hb dX4_isFoundWrong_2 rfl (lv_at hl 2 rfl) ?_
  refine cr_V (wr := []) (As := [.int (nI fr_), .int (nI to_)]) (rest := []) ⟨hx, hb, hml, hown, hts⟩ (c_X4_printedSum G l a_ T g_ fr_ to_ (by omega) (by omega)) (cwV 2 hts gX4_isFoundWrong_X4_printedSum rfl rfl rfl (by decide +kernel) ⟨Nat.le_of_ble_eq_true rfl, Nat.le_of_ble_eq_true rfl⟩) dX4_isFoundWrong_3 hK hNX hP hD hS hA hl 0 4 rfl rfl rfl [0, 1, 2] [] rfl rfl rfl rfl (by decide) rfl (Nat.le_of_ble_eq_true rfl) ⟨Nat.le_of_ble_eq_true rfl, Nat.le_of_ble_eq_true rfl⟩ rfl (fun v' w' Hq lcq hR' hP hD hS => ?_)
  obtain ⟨rfl, rfl⟩ := hR'
  have hP : va_P G.1 vwCl [(a_ 0, .inr (4, [.int (nI (T.s 2)), .int (nI (T.s 3)), .int (nI (T.s 4)), .int (nI (T.s 0)), .int (nI (T.s 6)), .ref (a_ 1), .ref (a_ 2), .ref (a_ 3), .ref (a_ 4), .ref (a_ 6)])), (a_ 1, .inl (G.2.2.1, 40, .inr (.inl (T.p)))), (a_ 2, .inl (G.2.2.1, 40, .inr (.inl (g_))))] _ := hP.sub [0, 1, 2] rfl
  have hD : va_D A [(a_ 0, .inr (4, [.int (nI (T.s 2)), .int (nI (T.s 3)), .int (nI (T.s 4)), .int (nI (T.s 0)), .int (nI (T.s 6)), .ref (a_ 1), .ref (a_ 2), .ref (a_ 3), .ref (a_ 4), .ref (a_ 6)])), (a_ 1, .inl (G.2.2.1, 40, .inr (.inl (T.p)))), (a_ 2, .inl (G.2.2.1, 40, .inr (.inl (g_))))] := hD.sub [0, 1, 2] rfl rfl
  refine lv_aload_n hx hb dX4_isFoundWrong_6 rfl (lv_at hl 0 rfl) ?_
  refine lv_iload_n hx hb dX4_isFoundWrong_7 rfl (lv_at hl 1 rfl) ?_
  refine lv_iload_n hx hb dX4_isFoundWrong_8 rfl (lv_at hl 2 rfl) ?_
  refine cr_V (wr := []) (As := [.int (nI fr_), .int (nI to_)]) (rest := [.long (smL (fun k => T.p (fr_ + k)) (to_ - fr_))]) ⟨hx, hb, hml, hown, hts⟩ (c_X4_rightSum G l a_ T g_ fr_ to_ (by omega) (by omega)) (cwV 2 hts gX4_isFoundWrong_X4_rightSum rfl rfl rfl (by decide +kernel) ⟨Nat.le_of_ble_eq_true rfl, Nat.le_of_ble_eq_true rfl⟩) dX4_isFoundWrong_9 hK hNX hP hD hS hA hl 0 4 rfl rfl rfl [0, 1, 2] [] rfl rfl rfl rfl (by decide) rfl (Nat.le_of_ble_eq_true rfl) ⟨Nat.le_of_ble_eq_true rfl, Nat.le_of_ble_eq_true rfl⟩ rfl (fun v' w' Hq lcq hR' hP hD hS => ?_)
  obtain ⟨rfl, rfl⟩ := hR'
  have hP : va_P G.1 vwCl [(a_ 0, .inr (4, [.int (nI (T.s 2)), .int (nI (T.s 3)), .int (nI (T.s 4)), .int (nI (T.s 0)), .int (nI (T.s 6)), .ref (a_ 1), .ref (a_ 2), .ref (a_ 3), .ref (a_ 4), .ref (a_ 6)])), (a_ 1, .inl (G.2.2.1, 40, .inr (.inl (T.p)))), (a_ 2, .inl (G.2.2.1, 40, .inr (.inl (g_))))] _ := hP.sub [0, 1, 2] rfl
  have hD : va_D A [(a_ 0, .inr (4, [.int (nI (T.s 2)), .int (nI (T.s 3)), .int (nI (T.s 4)), .int (nI (T.s 0)), .int (nI (T.s 6)), .ref (a_ 1), .ref (a_ 2), .ref (a_ 3), .ref (a_ 4), .ref (a_ 6)])), (a_ 1, .inl (G.2.2.1, 40, .inr (.inl (T.p)))), (a_ 2, .inl (G.2.2.1, 40, .inr (.inl (g_))))] := hD.sub [0, 1, 2] rfl rfl
  refine ks_lc_eq (tgt := 20) hx hb dX4_isFoundWrong_12 dX4_isFoundWrong_13 (by decide) (fun c_12 => ?_) (fun c_12 => ?_)
  · have hv : nI 0 = bI (smL (fun k => T.p (fr_ + k)) (to_ - fr_) ≠ smL (fun k => g_ (fr_ + k)) (to_ - fr_)) := bI_0 (fun z => z c_12)
    refine lv_iconst (v := nI 0) hx hb dX4_isFoundWrong_20 (by decide) ?_
    exact cr_zret hx hb hr hlocks hK hP hD hS (by decide +kernel) dX4_isFoundWrong_21 (by rw [hRR]; exact ctR_i (hv) (rfl))
  · have hv : nI 1 = bI (smL (fun k => T.p (fr_ + k)) (to_ - fr_) ≠ smL (fun k => g_ (fr_ + k)) (to_ - fr_)) := bI_1 c_12
    refine lv_iconst (v := nI 1) hx hb dX4_isFoundWrong_16 (by decide) ?_
    refine lv_goto (tgt := 21) hx hb dX4_isFoundWrong_17 (by decide) ?_
    exact cr_zret hx hb hr hlocks hK hP hD hS (by decide +kernel) dX4_isFoundWrong_21 (by rw [hRR]; exact ctR_i (hv) (rfl))
set_option maxHeartbeats 4000000 in
set_option maxRecDepth 100000 in
theorem c_X4_blurredDigits (G : GG) (l : Launch) (a_ : Nat → Nat) (T : TS) (jn : T.s 4 ≤ 40) : Cr G l yX4_blurredDigits wsX4_blurredDigits ({ frames := 0, cells := 0, slots := 0, locals := 0 }) 0 0 [.ref (a_ 0)] [(a_ 0, .inr (4, [.int (nI (T.s 2)), .int (nI (T.s 3)), .int (nI (T.s 4)), .int (nI (T.s 0)), .int (nI (T.s 6)), .ref (a_ 1), .ref (a_ 2), .ref (a_ 3), .ref (a_ 4), .ref (a_ 6)])), (a_ 3, .inl (G.2.1, 40, .inl (fun q9 => nI (T.b q9))))] (ctR (some (.int (nI (smN T.b (T.s 4))))) [(a_ 0, .inr (4, [.int (nI (T.s 2)), .int (nI (T.s 3)), .int (nI (T.s 4)), .int (nI (T.s 0)), .int (nI (T.s 6)), .ref (a_ 1), .ref (a_ 2), .ref (a_ 3), .ref (a_ 4), .ref (a_ 6)])), (a_ 3, .inl (G.2.1, 40, .inl (fun q9 => nI (T.b q9))))]) := by
  refine cr_intro (cc := cX4_blurredDigits) (maxL := 3) (ret := (some .int)) (own := RX4) (by decide) rfl rfl (Nat.le_of_ble_eq_true rfl) ?_
  intro p e s m args below meth c A hx hb hr hml hts hown hlocks hnm hNX hP hK hD hA hS ls hl
  obtain ⟨RR, hRR⟩ : ∃ RR, RR = (ctR (some (.int (nI (smN T.b (T.s 4))))) [(a_ 0, .inr (4, [.int (nI (T.s 2)), .int (nI (T.s 3)), .int (nI (T.s 4)), .int (nI (T.s 0)), .int (nI (T.s 6)), .ref (a_ 1), .ref (a_ 2), .ref (a_ 3), .ref (a_ 4), .ref (a_ 6)])), (a_ 3, .inl (G.2.1, 40, .inl (fun q9 => nI (T.b q9))))]) := ⟨_, rfl⟩
  rw [← hRR]
  have hl : lv_has ls 3 [(0, .ref (a_ 0))] := hl
  have hin4 : ∀ w ∈ u_ws RX4 TX4 10, w ∈ wsX4_blurredDigits := fun w h => List.mem_cons_of_mem _ (List.mem_append_right _ h)
  refine lv_iconst (v := nI 0) hx hb dX4_blurredDigits_0 (by decide) ?_
  refine lv_istore_n (lv' := [(1, .int (nI 0)), (0, .ref (a_ 0))]) hx hb dX4_blurredDigits_1 rfl hl (by decide) rfl (fun ls hl => ?_)
  refine lv_iconst (v := nI 0) hx hb dX4_blurredDigits_2 (by decide) ?_
  refine lv_istore_n (lv' := [(2, .int (nI 0)), (1, .int (nI 0)), (0, .ref (a_ 0))]) hx hb dX4_blurredDigits_3 rfl hl (by decide) rfl (fun ls hl => ?_)
  have L_4 : ∀ (n_4 : Nat) (i_ : Nat) (_ : 41 - i_ < n_4) (ji : i_ ≤ T.s 4) (Hq : Heap) (lcq : List Loc), va_P G.1 vwCl [(a_ 0, .inr (4, [.int (nI (T.s 2)), .int (nI (T.s 3)), .int (nI (T.s 4)), .int (nI (T.s 0)), .int (nI (T.s 6)), .ref (a_ 1), .ref (a_ 2), .ref (a_ 3), .ref (a_ 4), .ref (a_ 6)])), (a_ 3, .inl (G.2.1, 40, .inl (fun q9 => nI (T.b q9))))] Hq → va_D A [(a_ 0, .inr (4, [.int (nI (T.s 2)), .int (nI (T.s 3)), .int (nI (T.s 4)), .int (nI (T.s 0)), .int (nI (T.s 6)), .ref (a_ 1), .ref (a_ 2), .ref (a_ 3), .ref (a_ 4), .ref (a_ 6)])), (a_ 3, .inl (G.2.1, 40, .inl (fun q9 => nI (T.b q9))))] → va_S A s.heap Hq lcq → ∀ ls : Array Slot, lv_has ls 3 [(2, .int (nI i_)), (0, .ref (a_ 0)), (1, .int (nI (smN T.b i_)))] → W p l e ({ frames := 0, cells := 0, slots := 0, locals := 0 }) s m args below meth c Hq lcq 0 0 (MQ below (cr_Q G RR A) args s 0 0 A) (F0 m 4 ls []) := by
    intro n_4
    induction n_4 with
    | zero => intro i_ hmu_4; exact absurd hmu_4 (Nat.not_lt_zero _)
    | succ n_4 ih_4 =>
      intro i_ hmu_4 ji Hq lcq hP hD hS ls hl
      refine lv_iload_n hx hb dX4_blurredDigits_4 rfl (lv_at hl 0 rfl) ?_
      refine lv_aload_n hx hb dX4_blurredDigits_5 rfl (lv_at hl 1 rfl) ?_
      refine va_get (D := G.1) (ci := 4) (v := .int (nI (T.s 4))) (C := RX4) (T := TX4) (N := 10) hx hb hts hin4 hown hK hP 0 rfl rfl 2 (by decide) (hts (.fieldLink RX4 46 "PowerTables$Table" "rows" "I") (List.mem_of_getElem? (i := 1) rfl)) (fun _ h9 => h9) rfl dX4_blurredDigits_6 ?_
      refine ks_icmp_ge (tgt := 27) hx hb dX4_blurredDigits_9 (by decide) (by omega) (by omega) (fun c_9 => ?_) (fun c_9 => ?_)
      · obtain rfl : i_ = T.s 4 := by omega
        refine lv_iload_n hx hb dX4_blurredDigits_27 rfl (lv_at hl 2 rfl) ?_
        exact cr_iret hx hb hr hlocks hK hP hD hS dX4_blurredDigits_28 (by rw [hRR]; exact ctR_i (rfl) (rfl))
      · refine lv_iload_n hx hb dX4_blurredDigits_12 rfl (lv_at hl 2 rfl) ?_
        refine lv_aload_n hx hb dX4_blurredDigits_13 rfl (lv_at hl 1 rfl) ?_
        refine va_get (D := G.1) (ci := 4) (v := .ref (a_ 3)) (C := RX4) (T := TX4) (N := 10) hx hb hts hin4 hown hK hP 0 rfl rfl 7 (by decide) (hts (.fieldLink RX4 22 "PowerTables$Table" "blurred" "[I") (List.mem_of_getElem? (i := 2) rfl)) (fun _ h9 => h9) rfl dX4_blurredDigits_14 ?_
        refine lv_iload_n hx hb dX4_blurredDigits_17 rfl (lv_at hl 0 rfl) ?_
        refine ks_iald hx hb hK hP 1 rfl (by omega) (by decide) dX4_blurredDigits_18 ?_
        refine ks_iaddN hx hb dX4_blurredDigits_19 ?_
        refine lv_istore_n (lv' := [(1, .int (nI (smN T.b i_ + (T.b i_)))), (2, .int (nI i_)), (0, .ref (a_ 0))]) hx hb dX4_blurredDigits_20 rfl hl (by decide) rfl (fun ls hl => ?_)
        refine lv_iinc (v := nI (i_ + 1)) (lv' := [(2, .int (nI (i_ + 1))), (1, .int (nI (smN T.b i_ + (T.b i_)))), (0, .ref (a_ 0))]) hx hb dX4_blurredDigits_21 hl (k := 1) rfl (ks_inc i_ 1) (by decide) rfl (fun ls hl => ?_)
        refine lv_goto (tgt := 4) hx hb dX4_blurredDigits_24 (by decide) ?_
        exact ih_4  (i_ + 1) (by omega) (by omega) _ _ hP hD hS ls (lv_sub hl [0, 2, 1] rfl)
  exact L_4 _ 0 (Nat.lt_succ_self _) (by omega) _ _ hP hD hS ls (lv_sub hl [0, 2, 1] rfl)
set_option maxHeartbeats 4000000 in
set_option maxRecDepth 100000 in
theorem c_X4_faultlessRows (G : GG) (l : Launch) (a_ : Nat → Nat) (T : TS) (g_ : Nat → Int64) (jn : T.s 4 ≤ 40) (jb : ∀ k, k < 40 → T.b k < 2 ^ 30) : Cr G l yX4_faultlessRows wsX4_faultlessRows ({ frames := 1, cells := 0, slots := 0, locals := 21 }) 0 0 [.ref (a_ 0)] [(a_ 0, .inr (4, [.int (nI (T.s 2)), .int (nI (T.s 3)), .int (nI (T.s 4)), .int (nI (T.s 0)), .int (nI (T.s 6)), .ref (a_ 1), .ref (a_ 2), .ref (a_ 3), .ref (a_ 4), .ref (a_ 6)])), (a_ 1, .inl (G.2.2.1, 40, .inr (.inl (T.p)))), (a_ 2, .inl (G.2.2.1, 40, .inr (.inl (g_)))), (a_ 3, .inl (G.2.1, 40, .inl (fun q9 => nI (T.b q9))))] (ctR (some (.int (nI (ctN (fun k => T.p k = g_ k ∧ T.b k = 0) (T.s 4))))) [(a_ 0, .inr (4, [.int (nI (T.s 2)), .int (nI (T.s 3)), .int (nI (T.s 4)), .int (nI (T.s 0)), .int (nI (T.s 6)), .ref (a_ 1), .ref (a_ 2), .ref (a_ 3), .ref (a_ 4), .ref (a_ 6)])), (a_ 1, .inl (G.2.2.1, 40, .inr (.inl (T.p)))), (a_ 2, .inl (G.2.2.1, 40, .inr (.inl (g_)))), (a_ 3, .inl (G.2.1, 40, .inl (fun q9 => nI (T.b q9))))]) := by
  refine cr_intro (cc := cX4_faultlessRows) (maxL := 3) (ret := (some .int)) (own := RX4) (by decide) rfl rfl (Nat.le_of_ble_eq_true rfl) ?_
  intro p e s m args below meth c A hx hb hr hml hts hown hlocks hnm hNX hP hK hD hA hS ls hl
  obtain ⟨RR, hRR⟩ : ∃ RR, RR = (ctR (some (.int (nI (ctN (fun k => T.p k = g_ k ∧ T.b k = 0) (T.s 4))))) [(a_ 0, .inr (4, [.int (nI (T.s 2)), .int (nI (T.s 3)), .int (nI (T.s 4)), .int (nI (T.s 0)), .int (nI (T.s 6)), .ref (a_ 1), .ref (a_ 2), .ref (a_ 3), .ref (a_ 4), .ref (a_ 6)])), (a_ 1, .inl (G.2.2.1, 40, .inr (.inl (T.p)))), (a_ 2, .inl (G.2.2.1, 40, .inr (.inl (g_)))), (a_ 3, .inl (G.2.1, 40, .inl (fun q9 => nI (T.b q9))))]) := ⟨_, rfl⟩
  rw [← hRR]
  have hl : lv_has ls 3 [(0, .ref (a_ 0))] := hl
  have hin4 : ∀ w ∈ u_ws RX4 TX4 10, w ∈ wsX4_faultlessRows := fun w h => List.mem_cons_of_mem _ (List.mem_append_right _ h)
  refine lv_iconst (v := nI 0) hx hb dX4_faultlessRows_0 (by decide) ?_
  refine lv_istore_n (lv' := [(1, .int (nI 0)), (0, .ref (a_ 0))]) hx hb dX4_faultlessRows_1 rfl hl (by decide) rfl (fun ls hl => ?_)
  refine lv_iconst (v := nI 0) hx hb dX4_faultlessRows_2 (by decide) ?_
  refine lv_istore_n (lv' := [(2, .int (nI 0)), (1, .int (nI 0)), (0, .ref (a_ 0))]) hx hb dX4_faultlessRows_3 rfl hl (by decide) rfl (fun ls hl => ?_)
  have L_4 : ∀ (n_4 : Nat) (i_ : Nat) (_ : 41 - i_ < n_4) (ji : i_ ≤ T.s 4) (Hq : Heap) (lcq : List Loc), va_P G.1 vwCl [(a_ 0, .inr (4, [.int (nI (T.s 2)), .int (nI (T.s 3)), .int (nI (T.s 4)), .int (nI (T.s 0)), .int (nI (T.s 6)), .ref (a_ 1), .ref (a_ 2), .ref (a_ 3), .ref (a_ 4), .ref (a_ 6)])), (a_ 1, .inl (G.2.2.1, 40, .inr (.inl (T.p)))), (a_ 2, .inl (G.2.2.1, 40, .inr (.inl (g_)))), (a_ 3, .inl (G.2.1, 40, .inl (fun q9 => nI (T.b q9))))] Hq → va_D A [(a_ 0, .inr (4, [.int (nI (T.s 2)), .int (nI (T.s 3)), .int (nI (T.s 4)), .int (nI (T.s 0)), .int (nI (T.s 6)), .ref (a_ 1), .ref (a_ 2), .ref (a_ 3), .ref (a_ 4), .ref (a_ 6)])), (a_ 1, .inl (G.2.2.1, 40, .inr (.inl (T.p)))), (a_ 2, .inl (G.2.2.1, 40, .inr (.inl (g_)))), (a_ 3, .inl (G.2.1, 40, .inl (fun q9 => nI (T.b q9))))] → va_S A s.heap Hq lcq → ∀ ls : Array Slot, lv_has ls 3 [(2, .int (nI i_)), (0, .ref (a_ 0)), (1, .int (nI (ctN (fun k => T.p k = g_ k ∧ T.b k = 0) i_)))] → W p l e ({ frames := 1, cells := 0, slots := 0, locals := 21 }) s m args below meth c Hq lcq 0 0 (MQ below (cr_Q G RR A) args s 0 0 A) (F0 m 4 ls []) := by
    intro n_4
    induction n_4 with
    | zero => intro i_ hmu_4; exact absurd hmu_4 (Nat.not_lt_zero _)
    | succ n_4 ih_4 =>
      intro i_ hmu_4 ji Hq lcq hP hD hS ls hl
      refine lv_iload_n hx hb dX4_faultlessRows_4 rfl (lv_at hl 0 rfl) ?_
      refine lv_aload_n hx hb dX4_faultlessRows_5 rfl (lv_at hl 1 rfl) ?_
      refine va_get (D := G.1) (ci := 4) (v := .int (nI (T.s 4))) (C := RX4) (T := TX4) (N := 10) hx hb hts hin4 hown hK hP 0 rfl rfl 2 (by decide) (hts (.fieldLink RX4 46 "PowerTables$Table" "rows" "I") (List.mem_of_getElem? (i := 1) rfl)) (fun _ h9 => h9) rfl dX4_faultlessRows_6 ?_
      refine ks_icmp_ge (tgt := 43) hx hb dX4_faultlessRows_9 (by decide) (by omega) (by omega) (fun c_9 => ?_) (fun c_9 => ?_)
      · obtain rfl : i_ = T.s 4 := by omega
        refine lv_iload_n hx hb dX4_faultlessRows_43 rfl (lv_at hl 2 rfl) ?_
        exact cr_iret hx hb hr hlocks hK hP hD hS dX4_faultlessRows_44 (by rw [hRR]; exact ctR_i (rfl) (rfl))
      · refine lv_iload_n hx hb dX4_faultlessRows_12 rfl (lv_at hl 2 rfl) ?_
        refine lv_aload_n hx hb dX4_faultlessRows_13 rfl (lv_at hl 1 rfl) ?_
        refine lv_iload_n hx hb dX4_faultlessRows_14 rfl (lv_at hl 0 rfl) ?_
        refine cr_V (wr := [(a_ 3, .inl (G.2.1, 40, .inl (fun q9 => nI (T.b q9))))]) (As := [.int (nI i_)]) (rest := [.int (nI (ctN (fun k => T.p k = g_ k ∧ T.b k = 0) i_))]) ⟨hx, hb, hml, hown, hts⟩ (c_X4_isWrong G l a_ T g_ i_ (by omega)) (cwV 1 hts gX4_faultlessRows_X4_isWrong rfl rfl rfl (by decide +kernel) ⟨Nat.le_of_ble_eq_true rfl, Nat.le_of_ble_eq_true rfl⟩) dX4_faultlessRows_15 hK hNX hP hD hS hA hl 0 4 rfl rfl rfl [0, 1, 2] [3] rfl rfl rfl rfl (by decide) rfl (Nat.le_of_ble_eq_true rfl) ⟨Nat.le_of_ble_eq_true rfl, Nat.le_of_ble_eq_true rfl⟩ rfl (fun v' w' Hq lcq hR' hP hD hS => ?_)
        obtain ⟨rfl, rfl⟩ := hR'
        have hP : va_P G.1 vwCl [(a_ 0, .inr (4, [.int (nI (T.s 2)), .int (nI (T.s 3)), .int (nI (T.s 4)), .int (nI (T.s 0)), .int (nI (T.s 6)), .ref (a_ 1), .ref (a_ 2), .ref (a_ 3), .ref (a_ 4), .ref (a_ 6)])), (a_ 1, .inl (G.2.2.1, 40, .inr (.inl (T.p)))), (a_ 2, .inl (G.2.2.1, 40, .inr (.inl (g_)))), (a_ 3, .inl (G.2.1, 40, .inl (fun q9 => nI (T.b q9))))] _ := hP.sub [1, 2, 3, 0] rfl
        have hD : va_D A [(a_ 0, .inr (4, [.int (nI (T.s 2)), .int (nI (T.s 3)), .int (nI (T.s 4)), .int (nI (T.s 0)), .int (nI (T.s 6)), .ref (a_ 1), .ref (a_ 2), .ref (a_ 3), .ref (a_ 4), .ref (a_ 6)])), (a_ 1, .inl (G.2.2.1, 40, .inr (.inl (T.p)))), (a_ 2, .inl (G.2.2.1, 40, .inr (.inl (g_)))), (a_ 3, .inl (G.2.1, 40, .inl (fun q9 => nI (T.b q9))))] := hD.sub [1, 2, 3, 0] rfl rfl
        refine ks_ifb_ne (tgt := 34) hx hb dX4_faultlessRows_18 (by decide) (fun c_18 => ?_) (fun c_18 => ?_)
        · have e1_ : ¬ (T.p i_ = g_ i_ ∧ T.b i_ = 0) := fun z => c_18 z.1
          refine lv_iconst (v := nI 0) hx hb dX4_faultlessRows_34 (by decide) ?_
          refine ks_iaddN hx hb dX4_faultlessRows_35 ?_
          refine ks_vI (show nI (ctN (fun k => T.p k = g_ k ∧ T.b k = 0) i_ + 0) = nI (ctN (fun k => T.p k = g_ k ∧ T.b k = 0) (i_ + 1)) from by rw [Nat.add_zero, ctN_f (p := (fun k => T.p k = g_ k ∧ T.b k = 0)) e1_]) ?_
          refine lv_istore_n (lv' := [(1, .int (nI (ctN (fun k => T.p k = g_ k ∧ T.b k = 0) (i_ + 1)))), (2, .int (nI i_)), (0, .ref (a_ 0))]) hx hb dX4_faultlessRows_36 rfl hl (by decide) rfl (fun ls hl => ?_)
          refine lv_iinc (v := nI (i_ + 1)) (lv' := [(2, .int (nI (i_ + 1))), (1, .int (nI (ctN (fun k => T.p k = g_ k ∧ T.b k = 0) (i_ + 1)))), (0, .ref (a_ 0))]) hx hb dX4_faultlessRows_37 hl (k := 1) rfl (ks_inc i_ 1) (by decide) rfl (fun ls hl => ?_)
          refine lv_goto (tgt := 4) hx hb dX4_faultlessRows_40 (by decide) ?_
          exact ih_4  (i_ + 1) (by omega) (by omega) _ _ hP hD hS ls (lv_sub hl [0, 2, 1] rfl)
        · refine lv_aload_n hx hb dX4_faultlessRows_21 rfl (lv_at hl 1 rfl) ?_
          refine va_get (D := G.1) (ci := 4) (v := .ref (a_ 3)) (C := RX4) (T := TX4) (N := 10) hx hb hts hin4 hown hK hP 0 rfl rfl 7 (by decide) (hts (.fieldLink RX4 22 "PowerTables$Table" "blurred" "[I") (List.mem_of_getElem? (i := 2) rfl)) (fun _ h9 => h9) rfl dX4_faultlessRows_22 ?_
          refine lv_iload_n hx hb dX4_faultlessRows_25 rfl (lv_at hl 0 rfl) ?_
          refine ks_iald hx hb hK hP 3 rfl (by omega) (by decide) dX4_faultlessRows_26 ?_
          refine ks_if_ne (tgt := 34) hx hb dX4_faultlessRows_27 (by decide) (Nat.lt_trans (jb i_ (by omega)) (by decide)) (fun c_27 => ?_) (fun c_27 => ?_)
          · have e1_ : ¬ (T.p i_ = g_ i_ ∧ T.b i_ = 0) := fun z => c_27 z.2
            refine lv_iconst (v := nI 0) hx hb dX4_faultlessRows_34 (by decide) ?_
            refine ks_iaddN hx hb dX4_faultlessRows_35 ?_
            refine ks_vI (show nI (ctN (fun k => T.p k = g_ k ∧ T.b k = 0) i_ + 0) = nI (ctN (fun k => T.p k = g_ k ∧ T.b k = 0) (i_ + 1)) from by rw [Nat.add_zero, ctN_f (p := (fun k => T.p k = g_ k ∧ T.b k = 0)) e1_]) ?_
            refine lv_istore_n (lv' := [(1, .int (nI (ctN (fun k => T.p k = g_ k ∧ T.b k = 0) (i_ + 1)))), (2, .int (nI i_)), (0, .ref (a_ 0))]) hx hb dX4_faultlessRows_36 rfl hl (by decide) rfl (fun ls hl => ?_)
            refine lv_iinc (v := nI (i_ + 1)) (lv' := [(2, .int (nI (i_ + 1))), (1, .int (nI (ctN (fun k => T.p k = g_ k ∧ T.b k = 0) (i_ + 1)))), (0, .ref (a_ 0))]) hx hb dX4_faultlessRows_37 hl (k := 1) rfl (ks_inc i_ 1) (by decide) rfl (fun ls hl => ?_)
            refine lv_goto (tgt := 4) hx hb dX4_faultlessRows_40 (by decide) ?_
            exact ih_4  (i_ + 1) (by omega) (by omega) _ _ hP hD hS ls (lv_sub hl [0, 2, 1] rfl)
          · have e1_ : T.p i_ = g_ i_ ∧ T.b i_ = 0 := ⟨Classical.byContradiction c_18, c_27⟩
            refine lv_iconst (v := nI 1) hx hb dX4_faultlessRows_30 (by decide) ?_
            refine lv_goto (tgt := 35) hx hb dX4_faultlessRows_31 (by decide) ?_
            refine ks_iaddN hx hb dX4_faultlessRows_35 ?_
            refine ks_vI (show nI (ctN (fun k => T.p k = g_ k ∧ T.b k = 0) i_ + 1) = nI (ctN (fun k => T.p k = g_ k ∧ T.b k = 0) (i_ + 1)) from by rw [ctN_t (p := (fun k => T.p k = g_ k ∧ T.b k = 0)) e1_]) ?_
            refine lv_istore_n (lv' := [(1, .int (nI (ctN (fun k => T.p k = g_ k ∧ T.b k = 0) (i_ + 1)))), (2, .int (nI i_)), (0, .ref (a_ 0))]) hx hb dX4_faultlessRows_36 rfl hl (by decide) rfl (fun ls hl => ?_)
            refine lv_iinc (v := nI (i_ + 1)) (lv' := [(2, .int (nI (i_ + 1))), (1, .int (nI (ctN (fun k => T.p k = g_ k ∧ T.b k = 0) (i_ + 1)))), (0, .ref (a_ 0))]) hx hb dX4_faultlessRows_37 hl (k := 1) rfl (ks_inc i_ 1) (by decide) rfl (fun ls hl => ?_)
            refine lv_goto (tgt := 4) hx hb dX4_faultlessRows_40 (by decide) ?_
            exact ih_4  (i_ + 1) (by omega) (by omega) _ _ hP hD hS ls (lv_sub hl [0, 2, 1] rfl)
  exact L_4 _ 0 (Nat.lt_succ_self _) (by omega) _ _ hP hD hS ls (lv_sub hl [0, 2, 1] rfl)
set_option maxHeartbeats 4000000 in
set_option maxRecDepth 100000 in
theorem c_X4_groupsFoundWrong (G : GG) (l : Launch) (a_ : Nat → Nat) (T : TS) (g_ : Nat → Int64) (jn : T.s 4 ≤ 40) (jz : 1 ≤ T.s 0) (jz2 : T.s 0 ≤ 20) : Cr G l yX4_groupsFoundWrong wsX4_groupsFoundWrong ({ frames := 2, cells := 0, slots := 0, locals := 47 }) 0 0 [.ref (a_ 0)] [(a_ 0, .inr (4, [.int (nI (T.s 2)), .int (nI (T.s 3)), .int (nI (T.s 4)), .int (nI (T.s 0)), .int (nI (T.s 6)), .ref (a_ 1), .ref (a_ 2), .ref (a_ 3), .ref (a_ 4), .ref (a_ 6)])), (a_ 1, .inl (G.2.2.1, 40, .inr (.inl (T.p)))), (a_ 2, .inl (G.2.2.1, 40, .inr (.inl (g_))))] (ctR (some (.int (nI (ctN (fun q => gwr T.p g_ q (T.s 0)) (T.s 4 / T.s 0))))) [(a_ 0, .inr (4, [.int (nI (T.s 2)), .int (nI (T.s 3)), .int (nI (T.s 4)), .int (nI (T.s 0)), .int (nI (T.s 6)), .ref (a_ 1), .ref (a_ 2), .ref (a_ 3), .ref (a_ 4), .ref (a_ 6)])), (a_ 1, .inl (G.2.2.1, 40, .inr (.inl (T.p)))), (a_ 2, .inl (G.2.2.1, 40, .inr (.inl (g_))))]) := by
  refine cr_intro (cc := cX4_groupsFoundWrong) (maxL := 4) (ret := (some .int)) (own := RX4) (by decide) rfl rfl (Nat.le_of_ble_eq_true rfl) ?_
  intro p e s m args below meth c A hx hb hr hml hts hown hlocks hnm hNX hP hK hD hA hS ls hl
  obtain ⟨RR, hRR⟩ : ∃ RR, RR = (ctR (some (.int (nI (ctN (fun q => gwr T.p g_ q (T.s 0)) (T.s 4 / T.s 0))))) [(a_ 0, .inr (4, [.int (nI (T.s 2)), .int (nI (T.s 3)), .int (nI (T.s 4)), .int (nI (T.s 0)), .int (nI (T.s 6)), .ref (a_ 1), .ref (a_ 2), .ref (a_ 3), .ref (a_ 4), .ref (a_ 6)])), (a_ 1, .inl (G.2.2.1, 40, .inr (.inl (T.p)))), (a_ 2, .inl (G.2.2.1, 40, .inr (.inl (g_))))]) := ⟨_, rfl⟩
  rw [← hRR]
  have hl : lv_has ls 4 [(0, .ref (a_ 0))] := hl
  have hin4 : ∀ w ∈ u_ws RX4 TX4 10, w ∈ wsX4_groupsFoundWrong := fun w h => List.mem_cons_of_mem _ (List.mem_append_right _ h)
  refine lv_iconst (v := nI 0) hx hb dX4_groupsFoundWrong_0 (by decide) ?_
  refine lv_istore_n (lv' := [(1, .int (nI 0)), (0, .ref (a_ 0))]) hx hb dX4_groupsFoundWrong_1 rfl hl (by decide) rfl (fun ls hl => ?_)
  refine lv_aload_n hx hb dX4_groupsFoundWrong_2 rfl (lv_at hl 1 rfl) ?_
  refine lv_aload_n hx hb dX4_groupsFoundWrong_3 rfl (lv_at hl 1 rfl) ?_
  refine va_get (D := G.1) (ci := 4) (v := .int (nI (T.s 0))) (C := RX4) (T := TX4) (N := 10) hx hb hts hin4 hown hK hP 0 rfl rfl 3 (by decide) (hts (.fieldLink RX4 9 "PowerTables$Table" "groupRows" "I") (List.mem_of_getElem? (i := 1) rfl)) (fun _ h9 => h9) rfl dX4_groupsFoundWrong_4 ?_
  refine cr_V (wr := [(a_ 1, .inl (G.2.2.1, 40, .inr (.inl (T.p)))), (a_ 2, .inl (G.2.2.1, 40, .inr (.inl (g_))))]) (As := [.int (nI (T.s 0))]) (rest := []) ⟨hx, hb, hml, hown, hts⟩ (c_X4_wholeGroups G l a_ T (T.s 0) (by omega) (by omega) (by omega)) (cwV 1 hts gX4_groupsFoundWrong_X4_wholeGroups rfl rfl rfl (by decide +kernel) ⟨Nat.le_of_ble_eq_true rfl, Nat.le_of_ble_eq_true rfl⟩) dX4_groupsFoundWrong_7 hK hNX hP hD hS hA hl 0 4 rfl rfl rfl [0] [1, 2] rfl rfl rfl rfl (by decide) rfl (Nat.le_of_ble_eq_true rfl) ⟨Nat.le_of_ble_eq_true rfl, Nat.le_of_ble_eq_true rfl⟩ rfl (fun v' w' Hq lcq hR' hP hD hS => ?_)
  obtain ⟨rfl, rfl⟩ := hR'
  have hP : va_P G.1 vwCl [(a_ 0, .inr (4, [.int (nI (T.s 2)), .int (nI (T.s 3)), .int (nI (T.s 4)), .int (nI (T.s 0)), .int (nI (T.s 6)), .ref (a_ 1), .ref (a_ 2), .ref (a_ 3), .ref (a_ 4), .ref (a_ 6)])), (a_ 1, .inl (G.2.2.1, 40, .inr (.inl (T.p)))), (a_ 2, .inl (G.2.2.1, 40, .inr (.inl (g_))))] _ := hP.sub [2, 0, 1] rfl
  have hD : va_D A [(a_ 0, .inr (4, [.int (nI (T.s 2)), .int (nI (T.s 3)), .int (nI (T.s 4)), .int (nI (T.s 0)), .int (nI (T.s 6)), .ref (a_ 1), .ref (a_ 2), .ref (a_ 3), .ref (a_ 4), .ref (a_ 6)])), (a_ 1, .inl (G.2.2.1, 40, .inr (.inl (T.p)))), (a_ 2, .inl (G.2.2.1, 40, .inr (.inl (g_))))] := hD.sub [2, 0, 1] rfl rfl
  refine lv_istore_n (lv' := [(2, .int (nI (T.s 4 / (T.s 0)))), (1, .int (nI 0)), (0, .ref (a_ 0))]) hx hb dX4_groupsFoundWrong_10 rfl hl (by decide) rfl (fun ls hl => ?_)
  refine lv_iconst (v := nI 0) hx hb dX4_groupsFoundWrong_11 (by decide) ?_
  refine lv_istore_n (lv' := [(3, .int (nI 0)), (2, .int (nI (T.s 4 / (T.s 0)))), (1, .int (nI 0)), (0, .ref (a_ 0))]) hx hb dX4_groupsFoundWrong_12 rfl hl (by decide) rfl (fun ls hl => ?_)
  have L_13 : ∀ (n_13 : Nat) (i_ : Nat) (_ : T.s 4 / T.s 0 + 1 - i_ < n_13) (ji : i_ ≤ T.s 4 / T.s 0) (Hq : Heap) (lcq : List Loc), va_P G.1 vwCl [(a_ 0, .inr (4, [.int (nI (T.s 2)), .int (nI (T.s 3)), .int (nI (T.s 4)), .int (nI (T.s 0)), .int (nI (T.s 6)), .ref (a_ 1), .ref (a_ 2), .ref (a_ 3), .ref (a_ 4), .ref (a_ 6)])), (a_ 1, .inl (G.2.2.1, 40, .inr (.inl (T.p)))), (a_ 2, .inl (G.2.2.1, 40, .inr (.inl (g_))))] Hq → va_D A [(a_ 0, .inr (4, [.int (nI (T.s 2)), .int (nI (T.s 3)), .int (nI (T.s 4)), .int (nI (T.s 0)), .int (nI (T.s 6)), .ref (a_ 1), .ref (a_ 2), .ref (a_ 3), .ref (a_ 4), .ref (a_ 6)])), (a_ 1, .inl (G.2.2.1, 40, .inr (.inl (T.p)))), (a_ 2, .inl (G.2.2.1, 40, .inr (.inl (g_))))] → va_S A s.heap Hq lcq → ∀ ls : Array Slot, lv_has ls 4 [(3, .int (nI i_)), (0, .ref (a_ 0)), (1, .int (nI (ctN (fun q => gwr T.p g_ q (T.s 0)) i_))), (2, .int (nI (T.s 4 / T.s 0)))] → W p l e ({ frames := 2, cells := 0, slots := 0, locals := 47 }) s m args below meth c Hq lcq 0 0 (MQ below (cr_Q G RR A) args s 0 0 A) (F0 m 13 ls []) := by
    intro n_13
    induction n_13 with
    | zero => intro i_ hmu_13; exact absurd hmu_13 (Nat.not_lt_zero _)
    | succ n_13 ih_13 =>
      intro i_ hmu_13 ji Hq lcq hP hD hS ls hl
      have jd : T.s 4 / T.s 0 ≤ 40 := Nat.le_trans (Nat.div_le_self _ _) jn
      refine lv_iload_n hx hb dX4_groupsFoundWrong_13 rfl (lv_at hl 0 rfl) ?_
      refine lv_iload_n hx hb dX4_groupsFoundWrong_14 rfl (lv_at hl 3 rfl) ?_
      refine ks_icmp_ge (tgt := 53) hx hb dX4_groupsFoundWrong_15 (by decide) (by omega) (by omega) (fun c_15 => ?_) (fun c_15 => ?_)
      · obtain rfl : i_ = T.s 4 / T.s 0 := by omega
        refine lv_iload_n hx hb dX4_groupsFoundWrong_53 rfl (lv_at hl 2 rfl) ?_
        exact cr_iret hx hb hr hlocks hK hP hD hS dX4_groupsFoundWrong_54 (by rw [hRR]; exact ctR_i (rfl) (rfl))
      · refine lv_iload_n hx hb dX4_groupsFoundWrong_18 rfl (lv_at hl 2 rfl) ?_
        refine lv_aload_n hx hb dX4_groupsFoundWrong_19 rfl (lv_at hl 1 rfl) ?_
        refine lv_iload_n hx hb dX4_groupsFoundWrong_20 rfl (lv_at hl 0 rfl) ?_
        refine lv_aload_n hx hb dX4_groupsFoundWrong_21 rfl (lv_at hl 1 rfl) ?_
        refine va_get (D := G.1) (ci := 4) (v := .int (nI (T.s 0))) (C := RX4) (T := TX4) (N := 10) hx hb hts hin4 hown hK hP 0 rfl rfl 3 (by decide) (hts (.fieldLink RX4 9 "PowerTables$Table" "groupRows" "I") (List.mem_of_getElem? (i := 1) rfl)) (fun _ h9 => h9) rfl dX4_groupsFoundWrong_22 ?_
        refine ks_imulN hx hb dX4_groupsFoundWrong_25 ?_
        refine lv_iload_n hx hb dX4_groupsFoundWrong_26 rfl (lv_at hl 0 rfl) ?_
        refine lv_iconst (v := nI 1) hx hb dX4_groupsFoundWrong_27 (by decide) ?_
        refine ks_iaddN hx hb dX4_groupsFoundWrong_28 ?_
        refine lv_aload_n hx hb dX4_groupsFoundWrong_29 rfl (lv_at hl 1 rfl) ?_
        refine va_get (D := G.1) (ci := 4) (v := .int (nI (T.s 0))) (C := RX4) (T := TX4) (N := 10) hx hb hts hin4 hown hK hP 0 rfl rfl 3 (by decide) (hts (.fieldLink RX4 9 "PowerTables$Table" "groupRows" "I") (List.mem_of_getElem? (i := 1) rfl)) (fun _ h9 => h9) rfl dX4_groupsFoundWrong_30 ?_
        refine ks_imulN hx hb dX4_groupsFoundWrong_33 ?_
        have jq : (i_ + 1) * T.s 0 ≤ T.s 4 := dv_le jz c_15
        have jq2 : i_ * T.s 0 ≤ (i_ + 1) * T.s 0 := Nat.mul_le_mul_right _ (Nat.le_succ i_)
        refine cr_V (wr := []) (As := [.int (nI (i_ * (T.s 0))), .int (nI ((i_ + 1) * (T.s 0)))]) (rest := [.int (nI (ctN (fun q => gwr T.p g_ q (T.s 0)) i_))]) ⟨hx, hb, hml, hown, hts⟩ (c_X4_isFoundWrong G l a_ T g_ (i_ * (T.s 0)) ((i_ + 1) * (T.s 0)) (by omega) (by omega)) (cwV 2 hts gX4_groupsFoundWrong_X4_isFoundWrong rfl rfl rfl (by decide +kernel) ⟨Nat.le_of_ble_eq_true rfl, Nat.le_of_ble_eq_true rfl⟩) dX4_groupsFoundWrong_34 hK hNX hP hD hS hA hl 0 4 rfl rfl rfl [0, 1, 2] [] rfl rfl rfl rfl (by decide) rfl (Nat.le_of_ble_eq_true rfl) ⟨Nat.le_of_ble_eq_true rfl, Nat.le_of_ble_eq_true rfl⟩ rfl (fun v' w' Hq lcq hR' hP hD hS => ?_)
        obtain ⟨rfl, rfl⟩ := hR'
        have hP : va_P G.1 vwCl [(a_ 0, .inr (4, [.int (nI (T.s 2)), .int (nI (T.s 3)), .int (nI (T.s 4)), .int (nI (T.s 0)), .int (nI (T.s 6)), .ref (a_ 1), .ref (a_ 2), .ref (a_ 3), .ref (a_ 4), .ref (a_ 6)])), (a_ 1, .inl (G.2.2.1, 40, .inr (.inl (T.p)))), (a_ 2, .inl (G.2.2.1, 40, .inr (.inl (g_))))] _ := hP.sub [0, 1, 2] rfl
        have hD : va_D A [(a_ 0, .inr (4, [.int (nI (T.s 2)), .int (nI (T.s 3)), .int (nI (T.s 4)), .int (nI (T.s 0)), .int (nI (T.s 6)), .ref (a_ 1), .ref (a_ 2), .ref (a_ 3), .ref (a_ 4), .ref (a_ 6)])), (a_ 1, .inl (G.2.2.1, 40, .inr (.inl (T.p)))), (a_ 2, .inl (G.2.2.1, 40, .inr (.inl (g_))))] := hD.sub [0, 1, 2] rfl rfl
        refine ks_ifb_eq (tgt := 44) hx hb dX4_groupsFoundWrong_37 (by decide) (fun c_37 => ?_) (fun c_37 => ?_)
        · refine lv_iconst (v := nI 0) hx hb dX4_groupsFoundWrong_44 (by decide) ?_
          refine ks_iaddN hx hb dX4_groupsFoundWrong_45 ?_
          refine ks_vI (show nI (ctN (fun q => gwr T.p g_ q (T.s 0)) i_ + 0) = nI (ctN (fun q => gwr T.p g_ q (T.s 0)) (i_ + 1)) from by rw [Nat.add_zero, ctN_f (p := (fun q => gwr T.p g_ q (T.s 0))) c_37]) ?_
          refine lv_istore_n (lv' := [(1, .int (nI (ctN (fun q => gwr T.p g_ q (T.s 0)) (i_ + 1)))), (3, .int (nI i_)), (0, .ref (a_ 0)), (2, .int (nI (T.s 4 / T.s 0)))]) hx hb dX4_groupsFoundWrong_46 rfl hl (by decide) rfl (fun ls hl => ?_)
          refine lv_iinc (v := nI (i_ + 1)) (lv' := [(3, .int (nI (i_ + 1))), (1, .int (nI (ctN (fun q => gwr T.p g_ q (T.s 0)) (i_ + 1)))), (0, .ref (a_ 0)), (2, .int (nI (T.s 4 / T.s 0)))]) hx hb dX4_groupsFoundWrong_47 hl (k := 1) rfl (ks_inc i_ 1) (by decide) rfl (fun ls hl => ?_)
          refine lv_goto (tgt := 13) hx hb dX4_groupsFoundWrong_50 (by decide) ?_
          exact ih_13  (i_ + 1) (by omega) (by omega) _ _ hP hD hS ls (lv_sub hl [0, 2, 1, 3] rfl)
        · refine lv_iconst (v := nI 1) hx hb dX4_groupsFoundWrong_40 (by decide) ?_
          refine lv_goto (tgt := 45) hx hb dX4_groupsFoundWrong_41 (by decide) ?_
          refine ks_iaddN hx hb dX4_groupsFoundWrong_45 ?_
          refine ks_vI (show nI (ctN (fun q => gwr T.p g_ q (T.s 0)) i_ + 1) = nI (ctN (fun q => gwr T.p g_ q (T.s 0)) (i_ + 1)) from by rw [ctN_t (p := (fun q => gwr T.p g_ q (T.s 0))) c_37]) ?_
          refine lv_istore_n (lv' := [(1, .int (nI (ctN (fun q => gwr T.p g_ q (T.s 0)) (i_ + 1)))), (3, .int (nI i_)), (0, .ref (a_ 0)), (2, .int (nI (T.s 4 / T.s 0)))]) hx hb dX4_groupsFoundWrong_46 rfl hl (by decide) rfl (fun ls hl => ?_)
          refine lv_iinc (v := nI (i_ + 1)) (lv' := [(3, .int (nI (i_ + 1))), (1, .int (nI (ctN (fun q => gwr T.p g_ q (T.s 0)) (i_ + 1)))), (0, .ref (a_ 0)), (2, .int (nI (T.s 4 / T.s 0)))]) hx hb dX4_groupsFoundWrong_47 hl (k := 1) rfl (ks_inc i_ 1) (by decide) rfl (fun ls hl => ?_)
          refine lv_goto (tgt := 13) hx hb dX4_groupsFoundWrong_50 (by decide) ?_
          exact ih_13  (i_ + 1) (by omega) (by omega) _ _ hP hD hS ls (lv_sub hl [0, 2, 1, 3] rfl)
  exact L_13 _ 0 (Nat.lt_succ_self _) (Nat.zero_le _) _ _ hP hD hS ls (lv_sub hl [0, 3, 2, 1] rfl)
set_option maxHeartbeats 4000000 in
set_option maxRecDepth 100000 in
theorem c_X4_findsAllWith (G : GG) (l : Launch) (a_ : Nat → Nat) (T : TS) (g_ : Nat → Int64) (z_ : Nat) (jn : T.s 4 ≤ 40) (jz : 1 ≤ z_) (jz2 : z_ ≤ 20) : Cr G l yX4_findsAllWith wsX4_findsAllWith ({ frames := 2, cells := 0, slots := 0, locals := 47 }) 0 0 [.ref (a_ 0), .int (nI z_)] [(a_ 0, .inr (4, [.int (nI (T.s 2)), .int (nI (T.s 3)), .int (nI (T.s 4)), .int (nI (T.s 0)), .int (nI (T.s 6)), .ref (a_ 1), .ref (a_ 2), .ref (a_ 3), .ref (a_ 4), .ref (a_ 6)])), (a_ 1, .inl (G.2.2.1, 40, .inr (.inl (T.p)))), (a_ 2, .inl (G.2.2.1, 40, .inr (.inl (g_))))] (ctR (some (.int (bI (fnA T.p g_ (T.s 4) z_)))) [(a_ 0, .inr (4, [.int (nI (T.s 2)), .int (nI (T.s 3)), .int (nI (T.s 4)), .int (nI (T.s 0)), .int (nI (T.s 6)), .ref (a_ 1), .ref (a_ 2), .ref (a_ 3), .ref (a_ 4), .ref (a_ 6)])), (a_ 1, .inl (G.2.2.1, 40, .inr (.inl (T.p)))), (a_ 2, .inl (G.2.2.1, 40, .inr (.inl (g_))))]) := by
  refine cr_intro (cc := cX4_findsAllWith) (maxL := 6) (ret := (some .boolean)) (own := RX4) (by decide) rfl rfl (Nat.le_of_ble_eq_true rfl) ?_
  intro p e s m args below meth c A hx hb hr hml hts hown hlocks hnm hNX hP hK hD hA hS ls hl
  obtain ⟨RR, hRR⟩ : ∃ RR, RR = (ctR (some (.int (bI (fnA T.p g_ (T.s 4) z_)))) [(a_ 0, .inr (4, [.int (nI (T.s 2)), .int (nI (T.s 3)), .int (nI (T.s 4)), .int (nI (T.s 0)), .int (nI (T.s 6)), .ref (a_ 1), .ref (a_ 2), .ref (a_ 3), .ref (a_ 4), .ref (a_ 6)])), (a_ 1, .inl (G.2.2.1, 40, .inr (.inl (T.p)))), (a_ 2, .inl (G.2.2.1, 40, .inr (.inl (g_))))]) := ⟨_, rfl⟩
  rw [← hRR]
  have hl : lv_has ls 6 [(0, .ref (a_ 0)), (1, .int (nI z_))] := hl
  have hin4 : ∀ w ∈ u_ws RX4 TX4 10, w ∈ wsX4_findsAllWith := fun w h => List.mem_cons_of_mem _ (List.mem_append_right _ h)
  refine lv_aload_n hx hb dX4_findsAllWith_0 rfl (lv_at hl 0 rfl) ?_
  refine lv_iload_n hx hb dX4_findsAllWith_1 rfl (lv_at hl 1 rfl) ?_
  refine cr_V (wr := [(a_ 1, .inl (G.2.2.1, 40, .inr (.inl (T.p)))), (a_ 2, .inl (G.2.2.1, 40, .inr (.inl (g_))))]) (As := [.int (nI z_)]) (rest := []) ⟨hx, hb, hml, hown, hts⟩ (c_X4_wholeGroups G l a_ T z_ (by omega) (by omega) (by omega)) (cwV 1 hts gX4_findsAllWith_X4_wholeGroups rfl rfl rfl (by decide +kernel) ⟨Nat.le_of_ble_eq_true rfl, Nat.le_of_ble_eq_true rfl⟩) dX4_findsAllWith_2 hK hNX hP hD hS hA hl 0 4 rfl rfl rfl [0] [1, 2] rfl rfl rfl rfl (by decide) rfl (Nat.le_of_ble_eq_true rfl) ⟨Nat.le_of_ble_eq_true rfl, Nat.le_of_ble_eq_true rfl⟩ rfl (fun v' w' Hq lcq hR' hP hD hS => ?_)
  obtain ⟨rfl, rfl⟩ := hR'
  have hP : va_P G.1 vwCl [(a_ 0, .inr (4, [.int (nI (T.s 2)), .int (nI (T.s 3)), .int (nI (T.s 4)), .int (nI (T.s 0)), .int (nI (T.s 6)), .ref (a_ 1), .ref (a_ 2), .ref (a_ 3), .ref (a_ 4), .ref (a_ 6)])), (a_ 1, .inl (G.2.2.1, 40, .inr (.inl (T.p)))), (a_ 2, .inl (G.2.2.1, 40, .inr (.inl (g_))))] _ := hP.sub [2, 0, 1] rfl
  have hD : va_D A [(a_ 0, .inr (4, [.int (nI (T.s 2)), .int (nI (T.s 3)), .int (nI (T.s 4)), .int (nI (T.s 0)), .int (nI (T.s 6)), .ref (a_ 1), .ref (a_ 2), .ref (a_ 3), .ref (a_ 4), .ref (a_ 6)])), (a_ 1, .inl (G.2.2.1, 40, .inr (.inl (T.p)))), (a_ 2, .inl (G.2.2.1, 40, .inr (.inl (g_))))] := hD.sub [2, 0, 1] rfl rfl
  refine lv_istore_n (lv' := [(2, .int (nI (T.s 4 / z_))), (0, .ref (a_ 0)), (1, .int (nI z_))]) hx hb dX4_findsAllWith_5 rfl hl (by decide) rfl (fun ls hl => ?_)
  refine lv_iconst (v := nI 0) hx hb dX4_findsAllWith_6 (by decide) ?_
  refine lv_istore_n (lv' := [(3, .int (nI 0)), (2, .int (nI (T.s 4 / z_))), (0, .ref (a_ 0)), (1, .int (nI z_))]) hx hb dX4_findsAllWith_7 rfl hl (by decide) rfl (fun ls hl => ?_)
  have L_8 : ∀ (n_8 : Nat) (i_ : Nat) (_ : T.s 4 / z_ + 1 - i_ < n_8) (ji : i_ ≤ T.s 4 / z_) (ja : ∀ q, q < i_ → 0 < ctN (fun k => T.p (q * z_ + k) ≠ g_ (q * z_ + k)) (q * z_ + z_ - q * z_) → gwr T.p g_ q z_) (Hq : Heap) (lcq : List Loc), va_P G.1 vwCl [(a_ 0, .inr (4, [.int (nI (T.s 2)), .int (nI (T.s 3)), .int (nI (T.s 4)), .int (nI (T.s 0)), .int (nI (T.s 6)), .ref (a_ 1), .ref (a_ 2), .ref (a_ 3), .ref (a_ 4), .ref (a_ 6)])), (a_ 1, .inl (G.2.2.1, 40, .inr (.inl (T.p)))), (a_ 2, .inl (G.2.2.1, 40, .inr (.inl (g_))))] Hq → va_D A [(a_ 0, .inr (4, [.int (nI (T.s 2)), .int (nI (T.s 3)), .int (nI (T.s 4)), .int (nI (T.s 0)), .int (nI (T.s 6)), .ref (a_ 1), .ref (a_ 2), .ref (a_ 3), .ref (a_ 4), .ref (a_ 6)])), (a_ 1, .inl (G.2.2.1, 40, .inr (.inl (T.p)))), (a_ 2, .inl (G.2.2.1, 40, .inr (.inl (g_))))] → va_S A s.heap Hq lcq → ∀ ls : Array Slot, lv_has ls 6 [(3, .int (nI i_)), (0, .ref (a_ 0)), (1, .int (nI z_)), (2, .int (nI (T.s 4 / z_)))] → W p l e ({ frames := 2, cells := 0, slots := 0, locals := 47 }) s m args below meth c Hq lcq 0 0 (MQ below (cr_Q G RR A) args s 0 0 A) (F0 m 8 ls []) := by
    intro n_8
    induction n_8 with
    | zero => intro i_ hmu_8; exact absurd hmu_8 (Nat.not_lt_zero _)
    | succ n_8 ih_8 =>
      intro i_ hmu_8 ji ja Hq lcq hP hD hS ls hl
      have jd : T.s 4 / z_ ≤ 40 := Nat.le_trans (Nat.div_le_self _ _) jn
      refine lv_iload_n hx hb dX4_findsAllWith_8 rfl (lv_at hl 0 rfl) ?_
      refine lv_iload_n hx hb dX4_findsAllWith_9 rfl (lv_at hl 3 rfl) ?_
      refine ks_icmp_ge (tgt := 54) hx hb dX4_findsAllWith_10 (by decide) (by omega) (by omega) (fun c_10 => ?_) (fun c_10 => ?_)
      · obtain rfl : i_ = T.s 4 / z_ := by omega
        have jq : T.s 4 / z_ * z_ ≤ T.s 4 := Nat.div_mul_le_self _ _
        refine lv_aload_n hx hb dX4_findsAllWith_54 rfl (lv_at hl 1 rfl) ?_
        refine lv_iload_n hx hb dX4_findsAllWith_55 rfl (lv_at hl 3 rfl) ?_
        refine lv_iload_n hx hb dX4_findsAllWith_56 rfl (lv_at hl 2 rfl) ?_
        refine ks_imulN hx hb dX4_findsAllWith_57 ?_
        refine lv_aload_n hx hb dX4_findsAllWith_58 rfl (lv_at hl 1 rfl) ?_
        refine va_get (D := G.1) (ci := 4) (v := .int (nI (T.s 4))) (C := RX4) (T := TX4) (N := 10) hx hb hts hin4 hown hK hP 0 rfl rfl 2 (by decide) (hts (.fieldLink RX4 46 "PowerTables$Table" "rows" "I") (List.mem_of_getElem? (i := 1) rfl)) (fun _ h9 => h9) rfl dX4_findsAllWith_59 ?_
        refine cr_V (wr := []) (As := [.int (nI ((T.s 4 / z_) * z_)), .int (nI (T.s 4))]) (rest := []) ⟨hx, hb, hml, hown, hts⟩ (c_X4_wrongRows G l a_ T g_ ((T.s 4 / z_) * z_) (T.s 4) (by omega) (by omega)) (cwV 2 hts gX4_findsAllWith_X4_wrongRows rfl rfl rfl (by decide +kernel) ⟨Nat.le_of_ble_eq_true rfl, Nat.le_of_ble_eq_true rfl⟩) dX4_findsAllWith_62 hK hNX hP hD hS hA hl 0 4 rfl rfl rfl [0, 1, 2] [] rfl rfl rfl rfl (by decide) rfl (Nat.le_of_ble_eq_true rfl) ⟨Nat.le_of_ble_eq_true rfl, Nat.le_of_ble_eq_true rfl⟩ rfl (fun v' w' Hq lcq hR' hP hD hS => ?_)
        obtain ⟨rfl, rfl⟩ := hR'
        have hP : va_P G.1 vwCl [(a_ 0, .inr (4, [.int (nI (T.s 2)), .int (nI (T.s 3)), .int (nI (T.s 4)), .int (nI (T.s 0)), .int (nI (T.s 6)), .ref (a_ 1), .ref (a_ 2), .ref (a_ 3), .ref (a_ 4), .ref (a_ 6)])), (a_ 1, .inl (G.2.2.1, 40, .inr (.inl (T.p)))), (a_ 2, .inl (G.2.2.1, 40, .inr (.inl (g_))))] _ := hP.sub [0, 1, 2] rfl
        have hD : va_D A [(a_ 0, .inr (4, [.int (nI (T.s 2)), .int (nI (T.s 3)), .int (nI (T.s 4)), .int (nI (T.s 0)), .int (nI (T.s 6)), .ref (a_ 1), .ref (a_ 2), .ref (a_ 3), .ref (a_ 4), .ref (a_ 6)])), (a_ 1, .inl (G.2.2.1, 40, .inr (.inl (T.p)))), (a_ 2, .inl (G.2.2.1, 40, .inr (.inl (g_))))] := hD.sub [0, 1, 2] rfl rfl
        refine ks_if_ne (tgt := 72) hx hb dX4_findsAllWith_65 (by decide) (Nat.lt_of_le_of_lt (ctN_le _ _) (by omega)) (fun c_65 => ?_) (fun c_65 => ?_)
        · have hv : nI 0 = bI (fnA T.p g_ (T.s 4) z_) := bI_0 (fun w => c_65 w.2)
          refine lv_iconst (v := nI 0) hx hb dX4_findsAllWith_72 (by decide) ?_
          exact cr_zret hx hb hr hlocks hK hP hD hS (by decide +kernel) dX4_findsAllWith_73 (by rw [hRR]; exact ctR_i (hv) (rfl))
        · have hv : nI 1 = bI (fnA T.p g_ (T.s 4) z_) := bI_1 ⟨ja, c_65⟩
          refine lv_iconst (v := nI 1) hx hb dX4_findsAllWith_68 (by decide) ?_
          refine lv_goto (tgt := 73) hx hb dX4_findsAllWith_69 (by decide) ?_
          exact cr_zret hx hb hr hlocks hK hP hD hS (by decide +kernel) dX4_findsAllWith_73 (by rw [hRR]; exact ctR_i (hv) (rfl))
      · refine lv_iload_n hx hb dX4_findsAllWith_13 rfl (lv_at hl 0 rfl) ?_
        refine lv_iload_n hx hb dX4_findsAllWith_14 rfl (lv_at hl 2 rfl) ?_
        refine ks_imulN hx hb dX4_findsAllWith_15 ?_
        have jq : (i_ + 1) * z_ ≤ T.s 4 := dv_le jz c_10
        have jq2 : i_ * z_ + z_ = (i_ + 1) * z_ := (Nat.succ_mul i_ z_).symm
        refine lv_istore (lv' := [(4, .int (nI (i_ * z_))), (3, .int (nI i_)), (0, .ref (a_ 0)), (1, .int (nI z_)), (2, .int (nI (T.s 4 / z_)))]) hx hb dX4_findsAllWith_16 hl (by decide) rfl (fun ls hl => ?_)
        refine lv_iload hx hb dX4_findsAllWith_18 (lv_at hl 0 rfl) ?_
        refine lv_iload_n hx hb dX4_findsAllWith_20 rfl (lv_at hl 3 rfl) ?_
        refine ks_iaddN hx hb dX4_findsAllWith_21 ?_
        refine lv_istore (lv' := [(5, .int (nI (i_ * z_ + z_))), (4, .int (nI (i_ * z_))), (3, .int (nI i_)), (0, .ref (a_ 0)), (1, .int (nI z_)), (2, .int (nI (T.s 4 / z_)))]) hx hb dX4_findsAllWith_22 hl (by decide) rfl (fun ls hl => ?_)
        refine lv_aload_n hx hb dX4_findsAllWith_24 rfl (lv_at hl 3 rfl) ?_
        refine lv_iload hx hb dX4_findsAllWith_25 (lv_at hl 1 rfl) ?_
        refine lv_iload hx hb dX4_findsAllWith_27 (lv_at hl 0 rfl) ?_
        refine cr_V (wr := []) (As := [.int (nI (i_ * z_)), .int (nI (i_ * z_ + z_))]) (rest := []) ⟨hx, hb, hml, hown, hts⟩ (c_X4_wrongRows G l a_ T g_ (i_ * z_) (i_ * z_ + z_) (by omega) (by omega)) (cwV 2 hts gX4_findsAllWith_X4_wrongRows rfl rfl rfl (by decide +kernel) ⟨Nat.le_of_ble_eq_true rfl, Nat.le_of_ble_eq_true rfl⟩) dX4_findsAllWith_29 hK hNX hP hD hS hA hl 0 4 rfl rfl rfl [0, 1, 2] [] rfl rfl rfl rfl (by decide) rfl (Nat.le_of_ble_eq_true rfl) ⟨Nat.le_of_ble_eq_true rfl, Nat.le_of_ble_eq_true rfl⟩ rfl (fun v' w' Hq lcq hR' hP hD hS => ?_)
        obtain ⟨rfl, rfl⟩ := hR'
        have hP : va_P G.1 vwCl [(a_ 0, .inr (4, [.int (nI (T.s 2)), .int (nI (T.s 3)), .int (nI (T.s 4)), .int (nI (T.s 0)), .int (nI (T.s 6)), .ref (a_ 1), .ref (a_ 2), .ref (a_ 3), .ref (a_ 4), .ref (a_ 6)])), (a_ 1, .inl (G.2.2.1, 40, .inr (.inl (T.p)))), (a_ 2, .inl (G.2.2.1, 40, .inr (.inl (g_))))] _ := hP.sub [0, 1, 2] rfl
        have hD : va_D A [(a_ 0, .inr (4, [.int (nI (T.s 2)), .int (nI (T.s 3)), .int (nI (T.s 4)), .int (nI (T.s 0)), .int (nI (T.s 6)), .ref (a_ 1), .ref (a_ 2), .ref (a_ 3), .ref (a_ 4), .ref (a_ 6)])), (a_ 1, .inl (G.2.2.1, 40, .inr (.inl (T.p)))), (a_ 2, .inl (G.2.2.1, 40, .inr (.inl (g_))))] := hD.sub [0, 1, 2] rfl rfl
        refine ks_if_le (tgt := 48) hx hb dX4_findsAllWith_32 (by decide) (Nat.lt_of_le_of_lt (ctN_le _ _) (by omega)) (fun c_32 => ?_) (fun c_32 => ?_)
        · have e1_ : 0 < ctN (fun k => T.p (i_ * z_ + k) ≠ g_ (i_ * z_ + k)) (i_ * z_ + z_ - i_ * z_) → gwr T.p g_ i_ z_ := fun w => absurd w (by rw [c_32]; decide)
          refine lv_iinc (v := nI (i_ + 1)) (lv' := [(3, .int (nI (i_ + 1))), (5, .int (nI (i_ * z_ + z_))), (4, .int (nI (i_ * z_))), (0, .ref (a_ 0)), (1, .int (nI z_)), (2, .int (nI (T.s 4 / z_)))]) hx hb dX4_findsAllWith_48 hl (k := 2) rfl (ks_inc i_ 1) (by decide) rfl (fun ls hl => ?_)
          refine lv_goto (tgt := 8) hx hb dX4_findsAllWith_51 (by decide) ?_
          exact ih_8  (i_ + 1) (by omega) (by omega) (fun q hq => (Nat.lt_or_ge q i_).elim (fun w => ja q w) (fun w => by rw [show q = i_ by omega]; exact e1_)) _ _ hP hD hS ls (lv_sub hl [0, 3, 4, 5] rfl)
        · refine lv_aload_n hx hb dX4_findsAllWith_35 rfl (lv_at hl 3 rfl) ?_
          refine lv_iload hx hb dX4_findsAllWith_36 (lv_at hl 1 rfl) ?_
          refine lv_iload hx hb dX4_findsAllWith_38 (lv_at hl 0 rfl) ?_
          refine cr_V (wr := []) (As := [.int (nI (i_ * z_)), .int (nI (i_ * z_ + z_))]) (rest := []) ⟨hx, hb, hml, hown, hts⟩ (c_X4_isFoundWrong G l a_ T g_ (i_ * z_) (i_ * z_ + z_) (by omega) (by omega)) (cwV 2 hts gX4_findsAllWith_X4_isFoundWrong rfl rfl rfl (by decide +kernel) ⟨Nat.le_of_ble_eq_true rfl, Nat.le_of_ble_eq_true rfl⟩) dX4_findsAllWith_40 hK hNX hP hD hS hA hl 0 4 rfl rfl rfl [0, 1, 2] [] rfl rfl rfl rfl (by decide) rfl (Nat.le_of_ble_eq_true rfl) ⟨Nat.le_of_ble_eq_true rfl, Nat.le_of_ble_eq_true rfl⟩ rfl (fun v' w' Hq lcq hR' hP hD hS => ?_)
          obtain ⟨rfl, rfl⟩ := hR'
          have hP : va_P G.1 vwCl [(a_ 0, .inr (4, [.int (nI (T.s 2)), .int (nI (T.s 3)), .int (nI (T.s 4)), .int (nI (T.s 0)), .int (nI (T.s 6)), .ref (a_ 1), .ref (a_ 2), .ref (a_ 3), .ref (a_ 4), .ref (a_ 6)])), (a_ 1, .inl (G.2.2.1, 40, .inr (.inl (T.p)))), (a_ 2, .inl (G.2.2.1, 40, .inr (.inl (g_))))] _ := hP.sub [0, 1, 2] rfl
          have hD : va_D A [(a_ 0, .inr (4, [.int (nI (T.s 2)), .int (nI (T.s 3)), .int (nI (T.s 4)), .int (nI (T.s 0)), .int (nI (T.s 6)), .ref (a_ 1), .ref (a_ 2), .ref (a_ 3), .ref (a_ 4), .ref (a_ 6)])), (a_ 1, .inl (G.2.2.1, 40, .inr (.inl (T.p)))), (a_ 2, .inl (G.2.2.1, 40, .inr (.inl (g_))))] := hD.sub [0, 1, 2] rfl rfl
          refine ks_ifb_ne (tgt := 48) hx hb dX4_findsAllWith_43 (by decide) (fun c_43 => ?_) (fun c_43 => ?_)
          · have e1_ : 0 < ctN (fun k => T.p (i_ * z_ + k) ≠ g_ (i_ * z_ + k)) (i_ * z_ + z_ - i_ * z_) → gwr T.p g_ i_ z_ := fun _ => by unfold gwr; rw [← jq2]; exact c_43
            refine lv_iinc (v := nI (i_ + 1)) (lv' := [(3, .int (nI (i_ + 1))), (5, .int (nI (i_ * z_ + z_))), (4, .int (nI (i_ * z_))), (0, .ref (a_ 0)), (1, .int (nI z_)), (2, .int (nI (T.s 4 / z_)))]) hx hb dX4_findsAllWith_48 hl (k := 2) rfl (ks_inc i_ 1) (by decide) rfl (fun ls hl => ?_)
            refine lv_goto (tgt := 8) hx hb dX4_findsAllWith_51 (by decide) ?_
            exact ih_8  (i_ + 1) (by omega) (by omega) (fun q hq => (Nat.lt_or_ge q i_).elim (fun w => ja q w) (fun w => by rw [show q = i_ by omega]; exact e1_)) _ _ hP hD hS ls (lv_sub hl [0, 3, 4, 5] rfl)
          · have hv : nI 0 = bI (fnA T.p g_ (T.s 4) z_) := bI_0 (fun w => c_43 (by have w1_ := w.1 i_ c_10 c_32; unfold gwr at w1_; rw [← jq2] at w1_; exact w1_))
            refine lv_iconst (v := nI 0) hx hb dX4_findsAllWith_46 (by decide) ?_
            exact cr_zret hx hb hr hlocks hK hP hD hS (by decide +kernel) dX4_findsAllWith_47 (by rw [hRR]; exact ctR_i (hv) (rfl))
  exact L_8 _ 0 (Nat.lt_succ_self _) (Nat.zero_le _) (fun q hq => absurd hq (Nat.not_lt_zero _)) _ _ hP hD hS ls (lv_sub hl [0, 2, 3, 1] rfl)
set_option maxHeartbeats 4000000 in
set_option maxRecDepth 100000 in
theorem c_X4_copyFrom (G : GG) (l : Launch) (a_ : Nat → Nat) (T : TS) (g_ : Nat → Int64) (o : Nat → Nat) (U_ : TS) (f_ : Nat → Int64)  : Cr G l yX4_copyFrom wsX4_copyFrom ({ frames := 1, cells := 0, slots := 0, locals := 22 }) 0 0 [.ref (a_ 0), .ref (o 0)] [(a_ 0, .inr (4, [.int (nI (T.s 2)), .int (nI (T.s 3)), .int (nI (T.s 4)), .int (nI (T.s 0)), .int (nI (T.s 6)), .ref (a_ 1), .ref (a_ 2), .ref (a_ 3), .ref (a_ 4), .ref (a_ 6)])), (a_ 1, .inl (G.2.2.1, 40, .inr (.inl (T.p)))), (a_ 2, .inl (G.2.2.1, 40, .inr (.inl (g_)))), (a_ 3, .inl (G.2.1, 40, .inl (fun q9 => nI (T.b q9)))), (a_ 4, .inr (2, [.ref (a_ 5)])), (a_ 5, .inl (G.2.2.1, 6, .inr (.inl (T.r)))), (a_ 6, .inr (5, [.ref (a_ 7), .int (nI (T.s 1)), .int (nI (T.s 5))])), (a_ 7, .inl (G.2.1, 10, .inl (fun q9 => nI (T.w q9)))), (o 0, .inr (4, [.int (nI (U_.s 2)), .int (nI (U_.s 3)), .int (nI (U_.s 4)), .int (nI (U_.s 0)), .int (nI (U_.s 6)), .ref (o 1), .ref (o 2), .ref (o 3), .ref (o 4), .ref (o 6)])), (o 1, .inl (G.2.2.1, 40, .inr (.inl (U_.p)))), (o 2, .inl (G.2.2.1, 40, .inr (.inl (f_)))), (o 3, .inl (G.2.1, 40, .inl (fun q9 => nI (U_.b q9)))), (o 4, .inr (2, [.ref (o 5)])), (o 5, .inl (G.2.2.1, 6, .inr (.inl (U_.r)))), (o 6, .inr (5, [.ref (o 7), .int (nI (U_.s 1)), .int (nI (U_.s 5))])), (o 7, .inl (G.2.1, 10, .inl (fun q9 => nI (U_.w q9))))] (ctR none [(a_ 0, .inr (4, [.int (nI (U_.s 2)), .int (nI (U_.s 3)), .int (nI (U_.s 4)), .int (nI (U_.s 0)), .int (nI (U_.s 6)), .ref (a_ 1), .ref (a_ 2), .ref (a_ 3), .ref (a_ 4), .ref (a_ 6)])), (a_ 1, .inl (G.2.2.1, 40, .inr (.inl (U_.p)))), (a_ 2, .inl (G.2.2.1, 40, .inr (.inl (f_)))), (a_ 3, .inl (G.2.1, 40, .inl (fun q9 => nI (U_.b q9)))), (a_ 4, .inr (2, [.ref (a_ 5)])), (a_ 5, .inl (G.2.2.1, 6, .inr (.inl (U_.r)))), (a_ 6, .inr (5, [.ref (a_ 7), .int (nI (U_.s 1)), .int (nI (U_.s 5))])), (a_ 7, .inl (G.2.1, 10, .inl (fun q9 => nI (U_.w q9)))), (o 0, .inr (4, [.int (nI (U_.s 2)), .int (nI (U_.s 3)), .int (nI (U_.s 4)), .int (nI (U_.s 0)), .int (nI (U_.s 6)), .ref (o 1), .ref (o 2), .ref (o 3), .ref (o 4), .ref (o 6)])), (o 1, .inl (G.2.2.1, 40, .inr (.inl (U_.p)))), (o 2, .inl (G.2.2.1, 40, .inr (.inl (f_)))), (o 3, .inl (G.2.1, 40, .inl (fun q9 => nI (U_.b q9)))), (o 4, .inr (2, [.ref (o 5)])), (o 5, .inl (G.2.2.1, 6, .inr (.inl (U_.r)))), (o 6, .inr (5, [.ref (o 7), .int (nI (U_.s 1)), .int (nI (U_.s 5))])), (o 7, .inl (G.2.1, 10, .inl (fun q9 => nI (U_.w q9))))]) := by
  refine cr_intro (cc := cX4_copyFrom) (maxL := 3) (ret := none) (own := RX4) (by decide) rfl rfl (Nat.le_of_ble_eq_true rfl) ?_
  intro p e s m args below meth c A hx hb hr hml hts hown hlocks hnm hNX hP hK hD hA hS ls hl
  obtain ⟨RR, hRR⟩ : ∃ RR, RR = (ctR none [(a_ 0, .inr (4, [.int (nI (U_.s 2)), .int (nI (U_.s 3)), .int (nI (U_.s 4)), .int (nI (U_.s 0)), .int (nI (U_.s 6)), .ref (a_ 1), .ref (a_ 2), .ref (a_ 3), .ref (a_ 4), .ref (a_ 6)])), (a_ 1, .inl (G.2.2.1, 40, .inr (.inl (U_.p)))), (a_ 2, .inl (G.2.2.1, 40, .inr (.inl (f_)))), (a_ 3, .inl (G.2.1, 40, .inl (fun q9 => nI (U_.b q9)))), (a_ 4, .inr (2, [.ref (a_ 5)])), (a_ 5, .inl (G.2.2.1, 6, .inr (.inl (U_.r)))), (a_ 6, .inr (5, [.ref (a_ 7), .int (nI (U_.s 1)), .int (nI (U_.s 5))])), (a_ 7, .inl (G.2.1, 10, .inl (fun q9 => nI (U_.w q9)))), (o 0, .inr (4, [.int (nI (U_.s 2)), .int (nI (U_.s 3)), .int (nI (U_.s 4)), .int (nI (U_.s 0)), .int (nI (U_.s 6)), .ref (o 1), .ref (o 2), .ref (o 3), .ref (o 4), .ref (o 6)])), (o 1, .inl (G.2.2.1, 40, .inr (.inl (U_.p)))), (o 2, .inl (G.2.2.1, 40, .inr (.inl (f_)))), (o 3, .inl (G.2.1, 40, .inl (fun q9 => nI (U_.b q9)))), (o 4, .inr (2, [.ref (o 5)])), (o 5, .inl (G.2.2.1, 6, .inr (.inl (U_.r)))), (o 6, .inr (5, [.ref (o 7), .int (nI (U_.s 1)), .int (nI (U_.s 5))])), (o 7, .inl (G.2.1, 10, .inl (fun q9 => nI (U_.w q9))))]) := ⟨_, rfl⟩
  rw [← hRR]
  have hl : lv_has ls 3 [(0, .ref (a_ 0)), (1, .ref (o 0))] := hl
  have hin4 : ∀ w ∈ u_ws RX4 TX4 10, w ∈ wsX4_copyFrom := fun w h => List.mem_cons_of_mem _ (List.mem_append_left _ (List.mem_append_left _ (List.mem_append_right _ h)))
  refine lv_aload_n hx hb dX4_copyFrom_0 rfl (lv_at hl 0 rfl) ?_
  refine lv_aload_n hx hb dX4_copyFrom_1 rfl (lv_at hl 1 rfl) ?_
  refine va_get (D := G.1) (ci := 4) (v := .int (nI (U_.s 2))) (C := RX4) (T := TX4) (N := 10) hx hb hts hin4 hown hK hP 8 rfl rfl 0 (by decide) (hts (.fieldLink RX4 40 "PowerTables$Table" "power" "I") (List.mem_of_getElem? (i := 1) rfl)) (fun _ h9 => h9) rfl dX4_copyFrom_2 ?_
  refine va_put (D := G.1) (ci := 4) (v := .int (nI (U_.s 2))) (ty := .int) (C := RX4) (T := TX4) (N := 10) hx hb hts hin4 tyX4 tyX4_ok nmX4 hown hK hP hD hS 0 rfl rfl 0 (by decide) (hts (.fieldLink RX4 40 "PowerTables$Table" "power" "I") (List.mem_of_getElem? (i := 1) rfl)) (fun _ h9 => h9) rfl (tyX4_ok 0 (by decide)) rfl rfl (Nat.le_of_ble_eq_true rfl) dX4_copyFrom_5 (fun Hq lcq hP hD hS => ?_)
  have hP : va_P G.1 vwCl [(a_ 0, .inr (4, [.int (nI (U_.s 2)), .int (nI (T.s 3)), .int (nI (T.s 4)), .int (nI (T.s 0)), .int (nI (T.s 6)), .ref (a_ 1), .ref (a_ 2), .ref (a_ 3), .ref (a_ 4), .ref (a_ 6)])), (a_ 1, .inl (G.2.2.1, 40, .inr (.inl (T.p)))), (a_ 2, .inl (G.2.2.1, 40, .inr (.inl (g_)))), (a_ 3, .inl (G.2.1, 40, .inl (fun q9 => nI (T.b q9)))), (a_ 4, .inr (2, [.ref (a_ 5)])), (a_ 5, .inl (G.2.2.1, 6, .inr (.inl (T.r)))), (a_ 6, .inr (5, [.ref (a_ 7), .int (nI (T.s 1)), .int (nI (T.s 5))])), (a_ 7, .inl (G.2.1, 10, .inl (fun q9 => nI (T.w q9)))), (o 0, .inr (4, [.int (nI (U_.s 2)), .int (nI (U_.s 3)), .int (nI (U_.s 4)), .int (nI (U_.s 0)), .int (nI (U_.s 6)), .ref (o 1), .ref (o 2), .ref (o 3), .ref (o 4), .ref (o 6)])), (o 1, .inl (G.2.2.1, 40, .inr (.inl (U_.p)))), (o 2, .inl (G.2.2.1, 40, .inr (.inl (f_)))), (o 3, .inl (G.2.1, 40, .inl (fun q9 => nI (U_.b q9)))), (o 4, .inr (2, [.ref (o 5)])), (o 5, .inl (G.2.2.1, 6, .inr (.inl (U_.r)))), (o 6, .inr (5, [.ref (o 7), .int (nI (U_.s 1)), .int (nI (U_.s 5))])), (o 7, .inl (G.2.1, 10, .inl (fun q9 => nI (U_.w q9))))] _ := hP
  have hD : va_D A [(a_ 0, .inr (4, [.int (nI (U_.s 2)), .int (nI (T.s 3)), .int (nI (T.s 4)), .int (nI (T.s 0)), .int (nI (T.s 6)), .ref (a_ 1), .ref (a_ 2), .ref (a_ 3), .ref (a_ 4), .ref (a_ 6)])), (a_ 1, .inl (G.2.2.1, 40, .inr (.inl (T.p)))), (a_ 2, .inl (G.2.2.1, 40, .inr (.inl (g_)))), (a_ 3, .inl (G.2.1, 40, .inl (fun q9 => nI (T.b q9)))), (a_ 4, .inr (2, [.ref (a_ 5)])), (a_ 5, .inl (G.2.2.1, 6, .inr (.inl (T.r)))), (a_ 6, .inr (5, [.ref (a_ 7), .int (nI (T.s 1)), .int (nI (T.s 5))])), (a_ 7, .inl (G.2.1, 10, .inl (fun q9 => nI (T.w q9)))), (o 0, .inr (4, [.int (nI (U_.s 2)), .int (nI (U_.s 3)), .int (nI (U_.s 4)), .int (nI (U_.s 0)), .int (nI (U_.s 6)), .ref (o 1), .ref (o 2), .ref (o 3), .ref (o 4), .ref (o 6)])), (o 1, .inl (G.2.2.1, 40, .inr (.inl (U_.p)))), (o 2, .inl (G.2.2.1, 40, .inr (.inl (f_)))), (o 3, .inl (G.2.1, 40, .inl (fun q9 => nI (U_.b q9)))), (o 4, .inr (2, [.ref (o 5)])), (o 5, .inl (G.2.2.1, 6, .inr (.inl (U_.r)))), (o 6, .inr (5, [.ref (o 7), .int (nI (U_.s 1)), .int (nI (U_.s 5))])), (o 7, .inl (G.2.1, 10, .inl (fun q9 => nI (U_.w q9))))] := hD
  refine lv_aload_n hx hb dX4_copyFrom_8 rfl (lv_at hl 0 rfl) ?_
  refine lv_aload_n hx hb dX4_copyFrom_9 rfl (lv_at hl 1 rfl) ?_
  refine va_get (D := G.1) (ci := 4) (v := .int (nI (U_.s 3))) (C := RX4) (T := TX4) (N := 10) hx hb hts hin4 hown hK hP 8 rfl rfl 1 (by decide) (hts (.fieldLink RX4 43 "PowerTables$Table" "first" "I") (List.mem_of_getElem? (i := 2) rfl)) (fun _ h9 => h9) rfl dX4_copyFrom_10 ?_
  refine va_put (D := G.1) (ci := 4) (v := .int (nI (U_.s 3))) (ty := .int) (C := RX4) (T := TX4) (N := 10) hx hb hts hin4 tyX4 tyX4_ok nmX4 hown hK hP hD hS 0 rfl rfl 1 (by decide) (hts (.fieldLink RX4 43 "PowerTables$Table" "first" "I") (List.mem_of_getElem? (i := 2) rfl)) (fun _ h9 => h9) rfl (tyX4_ok 1 (by decide)) rfl rfl (Nat.le_of_ble_eq_true rfl) dX4_copyFrom_13 (fun Hq lcq hP hD hS => ?_)
  have hP : va_P G.1 vwCl [(a_ 0, .inr (4, [.int (nI (U_.s 2)), .int (nI (U_.s 3)), .int (nI (T.s 4)), .int (nI (T.s 0)), .int (nI (T.s 6)), .ref (a_ 1), .ref (a_ 2), .ref (a_ 3), .ref (a_ 4), .ref (a_ 6)])), (a_ 1, .inl (G.2.2.1, 40, .inr (.inl (T.p)))), (a_ 2, .inl (G.2.2.1, 40, .inr (.inl (g_)))), (a_ 3, .inl (G.2.1, 40, .inl (fun q9 => nI (T.b q9)))), (a_ 4, .inr (2, [.ref (a_ 5)])), (a_ 5, .inl (G.2.2.1, 6, .inr (.inl (T.r)))), (a_ 6, .inr (5, [.ref (a_ 7), .int (nI (T.s 1)), .int (nI (T.s 5))])), (a_ 7, .inl (G.2.1, 10, .inl (fun q9 => nI (T.w q9)))), (o 0, .inr (4, [.int (nI (U_.s 2)), .int (nI (U_.s 3)), .int (nI (U_.s 4)), .int (nI (U_.s 0)), .int (nI (U_.s 6)), .ref (o 1), .ref (o 2), .ref (o 3), .ref (o 4), .ref (o 6)])), (o 1, .inl (G.2.2.1, 40, .inr (.inl (U_.p)))), (o 2, .inl (G.2.2.1, 40, .inr (.inl (f_)))), (o 3, .inl (G.2.1, 40, .inl (fun q9 => nI (U_.b q9)))), (o 4, .inr (2, [.ref (o 5)])), (o 5, .inl (G.2.2.1, 6, .inr (.inl (U_.r)))), (o 6, .inr (5, [.ref (o 7), .int (nI (U_.s 1)), .int (nI (U_.s 5))])), (o 7, .inl (G.2.1, 10, .inl (fun q9 => nI (U_.w q9))))] _ := hP
  have hD : va_D A [(a_ 0, .inr (4, [.int (nI (U_.s 2)), .int (nI (U_.s 3)), .int (nI (T.s 4)), .int (nI (T.s 0)), .int (nI (T.s 6)), .ref (a_ 1), .ref (a_ 2), .ref (a_ 3), .ref (a_ 4), .ref (a_ 6)])), (a_ 1, .inl (G.2.2.1, 40, .inr (.inl (T.p)))), (a_ 2, .inl (G.2.2.1, 40, .inr (.inl (g_)))), (a_ 3, .inl (G.2.1, 40, .inl (fun q9 => nI (T.b q9)))), (a_ 4, .inr (2, [.ref (a_ 5)])), (a_ 5, .inl (G.2.2.1, 6, .inr (.inl (T.r)))), (a_ 6, .inr (5, [.ref (a_ 7), .int (nI (T.s 1)), .int (nI (T.s 5))])), (a_ 7, .inl (G.2.1, 10, .inl (fun q9 => nI (T.w q9)))), (o 0, .inr (4, [.int (nI (U_.s 2)), .int (nI (U_.s 3)), .int (nI (U_.s 4)), .int (nI (U_.s 0)), .int (nI (U_.s 6)), .ref (o 1), .ref (o 2), .ref (o 3), .ref (o 4), .ref (o 6)])), (o 1, .inl (G.2.2.1, 40, .inr (.inl (U_.p)))), (o 2, .inl (G.2.2.1, 40, .inr (.inl (f_)))), (o 3, .inl (G.2.1, 40, .inl (fun q9 => nI (U_.b q9)))), (o 4, .inr (2, [.ref (o 5)])), (o 5, .inl (G.2.2.1, 6, .inr (.inl (U_.r)))), (o 6, .inr (5, [.ref (o 7), .int (nI (U_.s 1)), .int (nI (U_.s 5))])), (o 7, .inl (G.2.1, 10, .inl (fun q9 => nI (U_.w q9))))] := hD
  refine lv_aload_n hx hb dX4_copyFrom_16 rfl (lv_at hl 0 rfl) ?_
  refine lv_aload_n hx hb dX4_copyFrom_17 rfl (lv_at hl 1 rfl) ?_
  refine va_get (D := G.1) (ci := 4) (v := .int (nI (U_.s 4))) (C := RX4) (T := TX4) (N := 10) hx hb hts hin4 hown hK hP 8 rfl rfl 2 (by decide) (hts (.fieldLink RX4 46 "PowerTables$Table" "rows" "I") (List.mem_of_getElem? (i := 3) rfl)) (fun _ h9 => h9) rfl dX4_copyFrom_18 ?_
  refine va_put (D := G.1) (ci := 4) (v := .int (nI (U_.s 4))) (ty := .int) (C := RX4) (T := TX4) (N := 10) hx hb hts hin4 tyX4 tyX4_ok nmX4 hown hK hP hD hS 0 rfl rfl 2 (by decide) (hts (.fieldLink RX4 46 "PowerTables$Table" "rows" "I") (List.mem_of_getElem? (i := 3) rfl)) (fun _ h9 => h9) rfl (tyX4_ok 2 (by decide)) rfl rfl (Nat.le_of_ble_eq_true rfl) dX4_copyFrom_21 (fun Hq lcq hP hD hS => ?_)
  have hP : va_P G.1 vwCl [(a_ 0, .inr (4, [.int (nI (U_.s 2)), .int (nI (U_.s 3)), .int (nI (U_.s 4)), .int (nI (T.s 0)), .int (nI (T.s 6)), .ref (a_ 1), .ref (a_ 2), .ref (a_ 3), .ref (a_ 4), .ref (a_ 6)])), (a_ 1, .inl (G.2.2.1, 40, .inr (.inl (T.p)))), (a_ 2, .inl (G.2.2.1, 40, .inr (.inl (g_)))), (a_ 3, .inl (G.2.1, 40, .inl (fun q9 => nI (T.b q9)))), (a_ 4, .inr (2, [.ref (a_ 5)])), (a_ 5, .inl (G.2.2.1, 6, .inr (.inl (T.r)))), (a_ 6, .inr (5, [.ref (a_ 7), .int (nI (T.s 1)), .int (nI (T.s 5))])), (a_ 7, .inl (G.2.1, 10, .inl (fun q9 => nI (T.w q9)))), (o 0, .inr (4, [.int (nI (U_.s 2)), .int (nI (U_.s 3)), .int (nI (U_.s 4)), .int (nI (U_.s 0)), .int (nI (U_.s 6)), .ref (o 1), .ref (o 2), .ref (o 3), .ref (o 4), .ref (o 6)])), (o 1, .inl (G.2.2.1, 40, .inr (.inl (U_.p)))), (o 2, .inl (G.2.2.1, 40, .inr (.inl (f_)))), (o 3, .inl (G.2.1, 40, .inl (fun q9 => nI (U_.b q9)))), (o 4, .inr (2, [.ref (o 5)])), (o 5, .inl (G.2.2.1, 6, .inr (.inl (U_.r)))), (o 6, .inr (5, [.ref (o 7), .int (nI (U_.s 1)), .int (nI (U_.s 5))])), (o 7, .inl (G.2.1, 10, .inl (fun q9 => nI (U_.w q9))))] _ := hP
  have hD : va_D A [(a_ 0, .inr (4, [.int (nI (U_.s 2)), .int (nI (U_.s 3)), .int (nI (U_.s 4)), .int (nI (T.s 0)), .int (nI (T.s 6)), .ref (a_ 1), .ref (a_ 2), .ref (a_ 3), .ref (a_ 4), .ref (a_ 6)])), (a_ 1, .inl (G.2.2.1, 40, .inr (.inl (T.p)))), (a_ 2, .inl (G.2.2.1, 40, .inr (.inl (g_)))), (a_ 3, .inl (G.2.1, 40, .inl (fun q9 => nI (T.b q9)))), (a_ 4, .inr (2, [.ref (a_ 5)])), (a_ 5, .inl (G.2.2.1, 6, .inr (.inl (T.r)))), (a_ 6, .inr (5, [.ref (a_ 7), .int (nI (T.s 1)), .int (nI (T.s 5))])), (a_ 7, .inl (G.2.1, 10, .inl (fun q9 => nI (T.w q9)))), (o 0, .inr (4, [.int (nI (U_.s 2)), .int (nI (U_.s 3)), .int (nI (U_.s 4)), .int (nI (U_.s 0)), .int (nI (U_.s 6)), .ref (o 1), .ref (o 2), .ref (o 3), .ref (o 4), .ref (o 6)])), (o 1, .inl (G.2.2.1, 40, .inr (.inl (U_.p)))), (o 2, .inl (G.2.2.1, 40, .inr (.inl (f_)))), (o 3, .inl (G.2.1, 40, .inl (fun q9 => nI (U_.b q9)))), (o 4, .inr (2, [.ref (o 5)])), (o 5, .inl (G.2.2.1, 6, .inr (.inl (U_.r)))), (o 6, .inr (5, [.ref (o 7), .int (nI (U_.s 1)), .int (nI (U_.s 5))])), (o 7, .inl (G.2.1, 10, .inl (fun q9 => nI (U_.w q9))))] := hD
  refine lv_aload_n hx hb dX4_copyFrom_24 rfl (lv_at hl 0 rfl) ?_
  refine lv_aload_n hx hb dX4_copyFrom_25 rfl (lv_at hl 1 rfl) ?_
  refine va_get (D := G.1) (ci := 4) (v := .int (nI (U_.s 0))) (C := RX4) (T := TX4) (N := 10) hx hb hts hin4 hown hK hP 8 rfl rfl 3 (by decide) (hts (.fieldLink RX4 9 "PowerTables$Table" "groupRows" "I") (List.mem_of_getElem? (i := 4) rfl)) (fun _ h9 => h9) rfl dX4_copyFrom_26 ?_
  refine va_put (D := G.1) (ci := 4) (v := .int (nI (U_.s 0))) (ty := .int) (C := RX4) (T := TX4) (N := 10) hx hb hts hin4 tyX4 tyX4_ok nmX4 hown hK hP hD hS 0 rfl rfl 3 (by decide) (hts (.fieldLink RX4 9 "PowerTables$Table" "groupRows" "I") (List.mem_of_getElem? (i := 4) rfl)) (fun _ h9 => h9) rfl (tyX4_ok 3 (by decide)) rfl rfl (Nat.le_of_ble_eq_true rfl) dX4_copyFrom_29 (fun Hq lcq hP hD hS => ?_)
  have hP : va_P G.1 vwCl [(a_ 0, .inr (4, [.int (nI (U_.s 2)), .int (nI (U_.s 3)), .int (nI (U_.s 4)), .int (nI (U_.s 0)), .int (nI (T.s 6)), .ref (a_ 1), .ref (a_ 2), .ref (a_ 3), .ref (a_ 4), .ref (a_ 6)])), (a_ 1, .inl (G.2.2.1, 40, .inr (.inl (T.p)))), (a_ 2, .inl (G.2.2.1, 40, .inr (.inl (g_)))), (a_ 3, .inl (G.2.1, 40, .inl (fun q9 => nI (T.b q9)))), (a_ 4, .inr (2, [.ref (a_ 5)])), (a_ 5, .inl (G.2.2.1, 6, .inr (.inl (T.r)))), (a_ 6, .inr (5, [.ref (a_ 7), .int (nI (T.s 1)), .int (nI (T.s 5))])), (a_ 7, .inl (G.2.1, 10, .inl (fun q9 => nI (T.w q9)))), (o 0, .inr (4, [.int (nI (U_.s 2)), .int (nI (U_.s 3)), .int (nI (U_.s 4)), .int (nI (U_.s 0)), .int (nI (U_.s 6)), .ref (o 1), .ref (o 2), .ref (o 3), .ref (o 4), .ref (o 6)])), (o 1, .inl (G.2.2.1, 40, .inr (.inl (U_.p)))), (o 2, .inl (G.2.2.1, 40, .inr (.inl (f_)))), (o 3, .inl (G.2.1, 40, .inl (fun q9 => nI (U_.b q9)))), (o 4, .inr (2, [.ref (o 5)])), (o 5, .inl (G.2.2.1, 6, .inr (.inl (U_.r)))), (o 6, .inr (5, [.ref (o 7), .int (nI (U_.s 1)), .int (nI (U_.s 5))])), (o 7, .inl (G.2.1, 10, .inl (fun q9 => nI (U_.w q9))))] _ := hP
  have hD : va_D A [(a_ 0, .inr (4, [.int (nI (U_.s 2)), .int (nI (U_.s 3)), .int (nI (U_.s 4)), .int (nI (U_.s 0)), .int (nI (T.s 6)), .ref (a_ 1), .ref (a_ 2), .ref (a_ 3), .ref (a_ 4), .ref (a_ 6)])), (a_ 1, .inl (G.2.2.1, 40, .inr (.inl (T.p)))), (a_ 2, .inl (G.2.2.1, 40, .inr (.inl (g_)))), (a_ 3, .inl (G.2.1, 40, .inl (fun q9 => nI (T.b q9)))), (a_ 4, .inr (2, [.ref (a_ 5)])), (a_ 5, .inl (G.2.2.1, 6, .inr (.inl (T.r)))), (a_ 6, .inr (5, [.ref (a_ 7), .int (nI (T.s 1)), .int (nI (T.s 5))])), (a_ 7, .inl (G.2.1, 10, .inl (fun q9 => nI (T.w q9)))), (o 0, .inr (4, [.int (nI (U_.s 2)), .int (nI (U_.s 3)), .int (nI (U_.s 4)), .int (nI (U_.s 0)), .int (nI (U_.s 6)), .ref (o 1), .ref (o 2), .ref (o 3), .ref (o 4), .ref (o 6)])), (o 1, .inl (G.2.2.1, 40, .inr (.inl (U_.p)))), (o 2, .inl (G.2.2.1, 40, .inr (.inl (f_)))), (o 3, .inl (G.2.1, 40, .inl (fun q9 => nI (U_.b q9)))), (o 4, .inr (2, [.ref (o 5)])), (o 5, .inl (G.2.2.1, 6, .inr (.inl (U_.r)))), (o 6, .inr (5, [.ref (o 7), .int (nI (U_.s 1)), .int (nI (U_.s 5))])), (o 7, .inl (G.2.1, 10, .inl (fun q9 => nI (U_.w q9))))] := hD
  refine lv_aload_n hx hb dX4_copyFrom_32 rfl (lv_at hl 0 rfl) ?_
  refine lv_aload_n hx hb dX4_copyFrom_33 rfl (lv_at hl 1 rfl) ?_
  refine va_get (D := G.1) (ci := 4) (v := .int (nI (U_.s 6))) (C := RX4) (T := TX4) (N := 10) hx hb hts hin4 hown hK hP 8 rfl rfl 4 (by decide) (hts (.fieldLink RX4 49 "PowerTables$Table" "rowsStruck" "I") (List.mem_of_getElem? (i := 5) rfl)) (fun _ h9 => h9) rfl dX4_copyFrom_34 ?_
  refine va_put (D := G.1) (ci := 4) (v := .int (nI (U_.s 6))) (ty := .int) (C := RX4) (T := TX4) (N := 10) hx hb hts hin4 tyX4 tyX4_ok nmX4 hown hK hP hD hS 0 rfl rfl 4 (by decide) (hts (.fieldLink RX4 49 "PowerTables$Table" "rowsStruck" "I") (List.mem_of_getElem? (i := 5) rfl)) (fun _ h9 => h9) rfl (tyX4_ok 4 (by decide)) rfl rfl (Nat.le_of_ble_eq_true rfl) dX4_copyFrom_37 (fun Hq lcq hP hD hS => ?_)
  have hP : va_P G.1 vwCl [(a_ 0, .inr (4, [.int (nI (U_.s 2)), .int (nI (U_.s 3)), .int (nI (U_.s 4)), .int (nI (U_.s 0)), .int (nI (U_.s 6)), .ref (a_ 1), .ref (a_ 2), .ref (a_ 3), .ref (a_ 4), .ref (a_ 6)])), (a_ 1, .inl (G.2.2.1, 40, .inr (.inl (T.p)))), (a_ 2, .inl (G.2.2.1, 40, .inr (.inl (g_)))), (a_ 3, .inl (G.2.1, 40, .inl (fun q9 => nI (T.b q9)))), (a_ 4, .inr (2, [.ref (a_ 5)])), (a_ 5, .inl (G.2.2.1, 6, .inr (.inl (T.r)))), (a_ 6, .inr (5, [.ref (a_ 7), .int (nI (T.s 1)), .int (nI (T.s 5))])), (a_ 7, .inl (G.2.1, 10, .inl (fun q9 => nI (T.w q9)))), (o 0, .inr (4, [.int (nI (U_.s 2)), .int (nI (U_.s 3)), .int (nI (U_.s 4)), .int (nI (U_.s 0)), .int (nI (U_.s 6)), .ref (o 1), .ref (o 2), .ref (o 3), .ref (o 4), .ref (o 6)])), (o 1, .inl (G.2.2.1, 40, .inr (.inl (U_.p)))), (o 2, .inl (G.2.2.1, 40, .inr (.inl (f_)))), (o 3, .inl (G.2.1, 40, .inl (fun q9 => nI (U_.b q9)))), (o 4, .inr (2, [.ref (o 5)])), (o 5, .inl (G.2.2.1, 6, .inr (.inl (U_.r)))), (o 6, .inr (5, [.ref (o 7), .int (nI (U_.s 1)), .int (nI (U_.s 5))])), (o 7, .inl (G.2.1, 10, .inl (fun q9 => nI (U_.w q9))))] _ := hP
  have hD : va_D A [(a_ 0, .inr (4, [.int (nI (U_.s 2)), .int (nI (U_.s 3)), .int (nI (U_.s 4)), .int (nI (U_.s 0)), .int (nI (U_.s 6)), .ref (a_ 1), .ref (a_ 2), .ref (a_ 3), .ref (a_ 4), .ref (a_ 6)])), (a_ 1, .inl (G.2.2.1, 40, .inr (.inl (T.p)))), (a_ 2, .inl (G.2.2.1, 40, .inr (.inl (g_)))), (a_ 3, .inl (G.2.1, 40, .inl (fun q9 => nI (T.b q9)))), (a_ 4, .inr (2, [.ref (a_ 5)])), (a_ 5, .inl (G.2.2.1, 6, .inr (.inl (T.r)))), (a_ 6, .inr (5, [.ref (a_ 7), .int (nI (T.s 1)), .int (nI (T.s 5))])), (a_ 7, .inl (G.2.1, 10, .inl (fun q9 => nI (T.w q9)))), (o 0, .inr (4, [.int (nI (U_.s 2)), .int (nI (U_.s 3)), .int (nI (U_.s 4)), .int (nI (U_.s 0)), .int (nI (U_.s 6)), .ref (o 1), .ref (o 2), .ref (o 3), .ref (o 4), .ref (o 6)])), (o 1, .inl (G.2.2.1, 40, .inr (.inl (U_.p)))), (o 2, .inl (G.2.2.1, 40, .inr (.inl (f_)))), (o 3, .inl (G.2.1, 40, .inl (fun q9 => nI (U_.b q9)))), (o 4, .inr (2, [.ref (o 5)])), (o 5, .inl (G.2.2.1, 6, .inr (.inl (U_.r)))), (o 6, .inr (5, [.ref (o 7), .int (nI (U_.s 1)), .int (nI (U_.s 5))])), (o 7, .inl (G.2.1, 10, .inl (fun q9 => nI (U_.w q9))))] := hD
  refine lv_iconst (v := nI 0) hx hb dX4_copyFrom_40 (by decide) ?_
  refine lv_istore_n (lv' := [(2, .int (nI 0)), (0, .ref (a_ 0)), (1, .ref (o 0))]) hx hb dX4_copyFrom_41 rfl hl (by decide) rfl (fun ls hl => ?_)
  have L_42 : ∀ (n_42 : Nat) (i_ : Nat) (_ : 41 - i_ < n_42) (ji : i_ ≤ 40) (Hq : Heap) (lcq : List Loc), va_P G.1 vwCl [(a_ 0, .inr (4, [.int (nI (U_.s 2)), .int (nI (U_.s 3)), .int (nI (U_.s 4)), .int (nI (U_.s 0)), .int (nI (U_.s 6)), .ref (a_ 1), .ref (a_ 2), .ref (a_ 3), .ref (a_ 4), .ref (a_ 6)])), (a_ 1, .inl (G.2.2.1, 40, .inr (.inl (cpu T.p U_.p i_)))), (a_ 2, .inl (G.2.2.1, 40, .inr (.inl (cpu g_ f_ i_)))), (a_ 3, .inl (G.2.1, 40, .inl (fun q9 => nI ((cpu T.b U_.b i_) q9)))), (a_ 4, .inr (2, [.ref (a_ 5)])), (a_ 5, .inl (G.2.2.1, 6, .inr (.inl (T.r)))), (a_ 6, .inr (5, [.ref (a_ 7), .int (nI (T.s 1)), .int (nI (T.s 5))])), (a_ 7, .inl (G.2.1, 10, .inl (fun q9 => nI (T.w q9)))), (o 0, .inr (4, [.int (nI (U_.s 2)), .int (nI (U_.s 3)), .int (nI (U_.s 4)), .int (nI (U_.s 0)), .int (nI (U_.s 6)), .ref (o 1), .ref (o 2), .ref (o 3), .ref (o 4), .ref (o 6)])), (o 1, .inl (G.2.2.1, 40, .inr (.inl (U_.p)))), (o 2, .inl (G.2.2.1, 40, .inr (.inl (f_)))), (o 3, .inl (G.2.1, 40, .inl (fun q9 => nI (U_.b q9)))), (o 4, .inr (2, [.ref (o 5)])), (o 5, .inl (G.2.2.1, 6, .inr (.inl (U_.r)))), (o 6, .inr (5, [.ref (o 7), .int (nI (U_.s 1)), .int (nI (U_.s 5))])), (o 7, .inl (G.2.1, 10, .inl (fun q9 => nI (U_.w q9))))] Hq → va_D A [(a_ 0, .inr (4, [.int (nI (U_.s 2)), .int (nI (U_.s 3)), .int (nI (U_.s 4)), .int (nI (U_.s 0)), .int (nI (U_.s 6)), .ref (a_ 1), .ref (a_ 2), .ref (a_ 3), .ref (a_ 4), .ref (a_ 6)])), (a_ 1, .inl (G.2.2.1, 40, .inr (.inl (cpu T.p U_.p i_)))), (a_ 2, .inl (G.2.2.1, 40, .inr (.inl (cpu g_ f_ i_)))), (a_ 3, .inl (G.2.1, 40, .inl (fun q9 => nI ((cpu T.b U_.b i_) q9)))), (a_ 4, .inr (2, [.ref (a_ 5)])), (a_ 5, .inl (G.2.2.1, 6, .inr (.inl (T.r)))), (a_ 6, .inr (5, [.ref (a_ 7), .int (nI (T.s 1)), .int (nI (T.s 5))])), (a_ 7, .inl (G.2.1, 10, .inl (fun q9 => nI (T.w q9)))), (o 0, .inr (4, [.int (nI (U_.s 2)), .int (nI (U_.s 3)), .int (nI (U_.s 4)), .int (nI (U_.s 0)), .int (nI (U_.s 6)), .ref (o 1), .ref (o 2), .ref (o 3), .ref (o 4), .ref (o 6)])), (o 1, .inl (G.2.2.1, 40, .inr (.inl (U_.p)))), (o 2, .inl (G.2.2.1, 40, .inr (.inl (f_)))), (o 3, .inl (G.2.1, 40, .inl (fun q9 => nI (U_.b q9)))), (o 4, .inr (2, [.ref (o 5)])), (o 5, .inl (G.2.2.1, 6, .inr (.inl (U_.r)))), (o 6, .inr (5, [.ref (o 7), .int (nI (U_.s 1)), .int (nI (U_.s 5))])), (o 7, .inl (G.2.1, 10, .inl (fun q9 => nI (U_.w q9))))] → va_S A s.heap Hq lcq → ∀ ls : Array Slot, lv_has ls 3 [(2, .int (nI i_)), (0, .ref (a_ 0)), (1, .ref (o 0))] → W p l e ({ frames := 1, cells := 0, slots := 0, locals := 22 }) s m args below meth c Hq lcq 0 0 (MQ below (cr_Q G RR A) args s 0 0 A) (F0 m 42 ls []) := by
    intro n_42
    induction n_42 with
    | zero => intro i_ hmu_42; exact absurd hmu_42 (Nat.not_lt_zero _)
    | succ n_42 ih_42 =>
      intro i_ hmu_42 ji Hq lcq hP hD hS ls hl
      refine lv_iload_n hx hb dX4_copyFrom_42 rfl (lv_at hl 0 rfl) ?_
      refine lv_bipush (v := nI 40) hx hb dX4_copyFrom_43 (by decide) ?_
      refine ks_icmp_ge (tgt := 90) hx hb dX4_copyFrom_45 (by decide) (by omega) (by omega) (fun c_45 => ?_) (fun c_45 => ?_)
      · obtain rfl : i_ = 40 := by omega
        have hP := hP.cgJ 1 (g := U_.p) rfl (fun k hk => cpu_lo hk)
        have hD := hD.set (p := 1) (e := .inl (G.2.2.1, 40, .inr <| .inl (U_.p))) rfl
        have hP : va_P G.1 vwCl [(a_ 0, .inr (4, [.int (nI (U_.s 2)), .int (nI (U_.s 3)), .int (nI (U_.s 4)), .int (nI (U_.s 0)), .int (nI (U_.s 6)), .ref (a_ 1), .ref (a_ 2), .ref (a_ 3), .ref (a_ 4), .ref (a_ 6)])), (a_ 1, .inl (G.2.2.1, 40, .inr (.inl (U_.p)))), (a_ 2, .inl (G.2.2.1, 40, .inr (.inl (cpu g_ f_ 40)))), (a_ 3, .inl (G.2.1, 40, .inl (fun q9 => nI ((cpu T.b U_.b 40) q9)))), (a_ 4, .inr (2, [.ref (a_ 5)])), (a_ 5, .inl (G.2.2.1, 6, .inr (.inl (T.r)))), (a_ 6, .inr (5, [.ref (a_ 7), .int (nI (T.s 1)), .int (nI (T.s 5))])), (a_ 7, .inl (G.2.1, 10, .inl (fun q9 => nI (T.w q9)))), (o 0, .inr (4, [.int (nI (U_.s 2)), .int (nI (U_.s 3)), .int (nI (U_.s 4)), .int (nI (U_.s 0)), .int (nI (U_.s 6)), .ref (o 1), .ref (o 2), .ref (o 3), .ref (o 4), .ref (o 6)])), (o 1, .inl (G.2.2.1, 40, .inr (.inl (U_.p)))), (o 2, .inl (G.2.2.1, 40, .inr (.inl (f_)))), (o 3, .inl (G.2.1, 40, .inl (fun q9 => nI (U_.b q9)))), (o 4, .inr (2, [.ref (o 5)])), (o 5, .inl (G.2.2.1, 6, .inr (.inl (U_.r)))), (o 6, .inr (5, [.ref (o 7), .int (nI (U_.s 1)), .int (nI (U_.s 5))])), (o 7, .inl (G.2.1, 10, .inl (fun q9 => nI (U_.w q9))))] _ := hP
        have hD : va_D A [(a_ 0, .inr (4, [.int (nI (U_.s 2)), .int (nI (U_.s 3)), .int (nI (U_.s 4)), .int (nI (U_.s 0)), .int (nI (U_.s 6)), .ref (a_ 1), .ref (a_ 2), .ref (a_ 3), .ref (a_ 4), .ref (a_ 6)])), (a_ 1, .inl (G.2.2.1, 40, .inr (.inl (U_.p)))), (a_ 2, .inl (G.2.2.1, 40, .inr (.inl (cpu g_ f_ 40)))), (a_ 3, .inl (G.2.1, 40, .inl (fun q9 => nI ((cpu T.b U_.b 40) q9)))), (a_ 4, .inr (2, [.ref (a_ 5)])), (a_ 5, .inl (G.2.2.1, 6, .inr (.inl (T.r)))), (a_ 6, .inr (5, [.ref (a_ 7), .int (nI (T.s 1)), .int (nI (T.s 5))])), (a_ 7, .inl (G.2.1, 10, .inl (fun q9 => nI (T.w q9)))), (o 0, .inr (4, [.int (nI (U_.s 2)), .int (nI (U_.s 3)), .int (nI (U_.s 4)), .int (nI (U_.s 0)), .int (nI (U_.s 6)), .ref (o 1), .ref (o 2), .ref (o 3), .ref (o 4), .ref (o 6)])), (o 1, .inl (G.2.2.1, 40, .inr (.inl (U_.p)))), (o 2, .inl (G.2.2.1, 40, .inr (.inl (f_)))), (o 3, .inl (G.2.1, 40, .inl (fun q9 => nI (U_.b q9)))), (o 4, .inr (2, [.ref (o 5)])), (o 5, .inl (G.2.2.1, 6, .inr (.inl (U_.r)))), (o 6, .inr (5, [.ref (o 7), .int (nI (U_.s 1)), .int (nI (U_.s 5))])), (o 7, .inl (G.2.1, 10, .inl (fun q9 => nI (U_.w q9))))] := hD
        have hP := hP.cgJ 2 (g := f_) rfl (fun k hk => cpu_lo hk)
        have hD := hD.set (p := 2) (e := .inl (G.2.2.1, 40, .inr <| .inl (f_))) rfl
        have hP : va_P G.1 vwCl [(a_ 0, .inr (4, [.int (nI (U_.s 2)), .int (nI (U_.s 3)), .int (nI (U_.s 4)), .int (nI (U_.s 0)), .int (nI (U_.s 6)), .ref (a_ 1), .ref (a_ 2), .ref (a_ 3), .ref (a_ 4), .ref (a_ 6)])), (a_ 1, .inl (G.2.2.1, 40, .inr (.inl (U_.p)))), (a_ 2, .inl (G.2.2.1, 40, .inr (.inl (f_)))), (a_ 3, .inl (G.2.1, 40, .inl (fun q9 => nI ((cpu T.b U_.b 40) q9)))), (a_ 4, .inr (2, [.ref (a_ 5)])), (a_ 5, .inl (G.2.2.1, 6, .inr (.inl (T.r)))), (a_ 6, .inr (5, [.ref (a_ 7), .int (nI (T.s 1)), .int (nI (T.s 5))])), (a_ 7, .inl (G.2.1, 10, .inl (fun q9 => nI (T.w q9)))), (o 0, .inr (4, [.int (nI (U_.s 2)), .int (nI (U_.s 3)), .int (nI (U_.s 4)), .int (nI (U_.s 0)), .int (nI (U_.s 6)), .ref (o 1), .ref (o 2), .ref (o 3), .ref (o 4), .ref (o 6)])), (o 1, .inl (G.2.2.1, 40, .inr (.inl (U_.p)))), (o 2, .inl (G.2.2.1, 40, .inr (.inl (f_)))), (o 3, .inl (G.2.1, 40, .inl (fun q9 => nI (U_.b q9)))), (o 4, .inr (2, [.ref (o 5)])), (o 5, .inl (G.2.2.1, 6, .inr (.inl (U_.r)))), (o 6, .inr (5, [.ref (o 7), .int (nI (U_.s 1)), .int (nI (U_.s 5))])), (o 7, .inl (G.2.1, 10, .inl (fun q9 => nI (U_.w q9))))] _ := hP
        have hD : va_D A [(a_ 0, .inr (4, [.int (nI (U_.s 2)), .int (nI (U_.s 3)), .int (nI (U_.s 4)), .int (nI (U_.s 0)), .int (nI (U_.s 6)), .ref (a_ 1), .ref (a_ 2), .ref (a_ 3), .ref (a_ 4), .ref (a_ 6)])), (a_ 1, .inl (G.2.2.1, 40, .inr (.inl (U_.p)))), (a_ 2, .inl (G.2.2.1, 40, .inr (.inl (f_)))), (a_ 3, .inl (G.2.1, 40, .inl (fun q9 => nI ((cpu T.b U_.b 40) q9)))), (a_ 4, .inr (2, [.ref (a_ 5)])), (a_ 5, .inl (G.2.2.1, 6, .inr (.inl (T.r)))), (a_ 6, .inr (5, [.ref (a_ 7), .int (nI (T.s 1)), .int (nI (T.s 5))])), (a_ 7, .inl (G.2.1, 10, .inl (fun q9 => nI (T.w q9)))), (o 0, .inr (4, [.int (nI (U_.s 2)), .int (nI (U_.s 3)), .int (nI (U_.s 4)), .int (nI (U_.s 0)), .int (nI (U_.s 6)), .ref (o 1), .ref (o 2), .ref (o 3), .ref (o 4), .ref (o 6)])), (o 1, .inl (G.2.2.1, 40, .inr (.inl (U_.p)))), (o 2, .inl (G.2.2.1, 40, .inr (.inl (f_)))), (o 3, .inl (G.2.1, 40, .inl (fun q9 => nI (U_.b q9)))), (o 4, .inr (2, [.ref (o 5)])), (o 5, .inl (G.2.2.1, 6, .inr (.inl (U_.r)))), (o 6, .inr (5, [.ref (o 7), .int (nI (U_.s 1)), .int (nI (U_.s 5))])), (o 7, .inl (G.2.1, 10, .inl (fun q9 => nI (U_.w q9))))] := hD
        have hP := hP.cgI 3 (g := fun q9 => nI (U_.b q9)) rfl (fun k hk => congrArg nI (cpu_lo hk))
        have hD := hD.set (p := 3) (e := .inl (G.2.1, 40, .inl (fun q9 => nI (U_.b q9)))) rfl
        have hP : va_P G.1 vwCl [(a_ 0, .inr (4, [.int (nI (U_.s 2)), .int (nI (U_.s 3)), .int (nI (U_.s 4)), .int (nI (U_.s 0)), .int (nI (U_.s 6)), .ref (a_ 1), .ref (a_ 2), .ref (a_ 3), .ref (a_ 4), .ref (a_ 6)])), (a_ 1, .inl (G.2.2.1, 40, .inr (.inl (U_.p)))), (a_ 2, .inl (G.2.2.1, 40, .inr (.inl (f_)))), (a_ 3, .inl (G.2.1, 40, .inl (fun q9 => nI (U_.b q9)))), (a_ 4, .inr (2, [.ref (a_ 5)])), (a_ 5, .inl (G.2.2.1, 6, .inr (.inl (T.r)))), (a_ 6, .inr (5, [.ref (a_ 7), .int (nI (T.s 1)), .int (nI (T.s 5))])), (a_ 7, .inl (G.2.1, 10, .inl (fun q9 => nI (T.w q9)))), (o 0, .inr (4, [.int (nI (U_.s 2)), .int (nI (U_.s 3)), .int (nI (U_.s 4)), .int (nI (U_.s 0)), .int (nI (U_.s 6)), .ref (o 1), .ref (o 2), .ref (o 3), .ref (o 4), .ref (o 6)])), (o 1, .inl (G.2.2.1, 40, .inr (.inl (U_.p)))), (o 2, .inl (G.2.2.1, 40, .inr (.inl (f_)))), (o 3, .inl (G.2.1, 40, .inl (fun q9 => nI (U_.b q9)))), (o 4, .inr (2, [.ref (o 5)])), (o 5, .inl (G.2.2.1, 6, .inr (.inl (U_.r)))), (o 6, .inr (5, [.ref (o 7), .int (nI (U_.s 1)), .int (nI (U_.s 5))])), (o 7, .inl (G.2.1, 10, .inl (fun q9 => nI (U_.w q9))))] _ := hP
        have hD : va_D A [(a_ 0, .inr (4, [.int (nI (U_.s 2)), .int (nI (U_.s 3)), .int (nI (U_.s 4)), .int (nI (U_.s 0)), .int (nI (U_.s 6)), .ref (a_ 1), .ref (a_ 2), .ref (a_ 3), .ref (a_ 4), .ref (a_ 6)])), (a_ 1, .inl (G.2.2.1, 40, .inr (.inl (U_.p)))), (a_ 2, .inl (G.2.2.1, 40, .inr (.inl (f_)))), (a_ 3, .inl (G.2.1, 40, .inl (fun q9 => nI (U_.b q9)))), (a_ 4, .inr (2, [.ref (a_ 5)])), (a_ 5, .inl (G.2.2.1, 6, .inr (.inl (T.r)))), (a_ 6, .inr (5, [.ref (a_ 7), .int (nI (T.s 1)), .int (nI (T.s 5))])), (a_ 7, .inl (G.2.1, 10, .inl (fun q9 => nI (T.w q9)))), (o 0, .inr (4, [.int (nI (U_.s 2)), .int (nI (U_.s 3)), .int (nI (U_.s 4)), .int (nI (U_.s 0)), .int (nI (U_.s 6)), .ref (o 1), .ref (o 2), .ref (o 3), .ref (o 4), .ref (o 6)])), (o 1, .inl (G.2.2.1, 40, .inr (.inl (U_.p)))), (o 2, .inl (G.2.2.1, 40, .inr (.inl (f_)))), (o 3, .inl (G.2.1, 40, .inl (fun q9 => nI (U_.b q9)))), (o 4, .inr (2, [.ref (o 5)])), (o 5, .inl (G.2.2.1, 6, .inr (.inl (U_.r)))), (o 6, .inr (5, [.ref (o 7), .int (nI (U_.s 1)), .int (nI (U_.s 5))])), (o 7, .inl (G.2.1, 10, .inl (fun q9 => nI (U_.w q9))))] := hD
        refine lv_aload_n hx hb dX4_copyFrom_90 rfl (lv_at hl 1 rfl) ?_
        refine va_get (D := G.1) (ci := 4) (v := .ref (a_ 4)) (C := RX4) (T := TX4) (N := 10) hx hb hts hin4 hown hK hP 0 rfl rfl 8 (by decide) (hts (.fieldLink RX4 29 "PowerTables$Table" "registers" "LPowerTables$Registers;") (List.mem_of_getElem? (i := 9) rfl)) (fun _ h9 => h9) rfl dX4_copyFrom_91 ?_
        refine lv_aload_n hx hb dX4_copyFrom_94 rfl (lv_at hl 2 rfl) ?_
        refine va_get (D := G.1) (ci := 4) (v := .ref (o 4)) (C := RX4) (T := TX4) (N := 10) hx hb hts hin4 hown hK hP 8 rfl rfl 8 (by decide) (hts (.fieldLink RX4 29 "PowerTables$Table" "registers" "LPowerTables$Registers;") (List.mem_of_getElem? (i := 9) rfl)) (fun _ h9 => h9) rfl dX4_copyFrom_95 ?_
        refine cr_V (wr := [(a_ 0, .inr (4, [.int (nI (U_.s 2)), .int (nI (U_.s 3)), .int (nI (U_.s 4)), .int (nI (U_.s 0)), .int (nI (U_.s 6)), .ref (a_ 1), .ref (a_ 2), .ref (a_ 3), .ref (a_ 4), .ref (a_ 6)])), (a_ 1, .inl (G.2.2.1, 40, .inr (.inl (U_.p)))), (a_ 2, .inl (G.2.2.1, 40, .inr (.inl (f_)))), (a_ 3, .inl (G.2.1, 40, .inl (fun q9 => nI (U_.b q9)))), (a_ 6, .inr (5, [.ref (a_ 7), .int (nI (T.s 1)), .int (nI (T.s 5))])), (a_ 7, .inl (G.2.1, 10, .inl (fun q9 => nI (T.w q9)))), (o 0, .inr (4, [.int (nI (U_.s 2)), .int (nI (U_.s 3)), .int (nI (U_.s 4)), .int (nI (U_.s 0)), .int (nI (U_.s 6)), .ref (o 1), .ref (o 2), .ref (o 3), .ref (o 4), .ref (o 6)])), (o 1, .inl (G.2.2.1, 40, .inr (.inl (U_.p)))), (o 2, .inl (G.2.2.1, 40, .inr (.inl (f_)))), (o 3, .inl (G.2.1, 40, .inl (fun q9 => nI (U_.b q9)))), (o 6, .inr (5, [.ref (o 7), .int (nI (U_.s 1)), .int (nI (U_.s 5))])), (o 7, .inl (G.2.1, 10, .inl (fun q9 => nI (U_.w q9))))]) (As := [.ref (o 4)]) (rest := []) ⟨hx, hb, hml, hown, hts⟩ (c_X2_copyFrom G l (a_ 4) (a_ 5) T.r (o 4) (o 5) U_.r ) (cwV 1 hts gX4_copyFrom_X2_copyFrom rfl rfl rfl (by decide +kernel) ⟨Nat.le_of_ble_eq_true rfl, Nat.le_of_ble_eq_true rfl⟩) dX4_copyFrom_98 hK hNX hP hD hS hA hl 4 2 rfl rfl rfl [4, 5, 12, 13] [0, 1, 2, 3, 6, 7, 8, 9, 10, 11, 14, 15] rfl rfl rfl rfl (by decide +kernel) rfl (Nat.le_of_ble_eq_true rfl) ⟨Nat.le_of_ble_eq_true rfl, Nat.le_of_ble_eq_true rfl⟩ rfl (fun v' w' Hq lcq hR' hP hD hS => ?_)
        obtain ⟨rfl, rfl⟩ := hR'
        have hP : va_P G.1 vwCl [(a_ 0, .inr (4, [.int (nI (U_.s 2)), .int (nI (U_.s 3)), .int (nI (U_.s 4)), .int (nI (U_.s 0)), .int (nI (U_.s 6)), .ref (a_ 1), .ref (a_ 2), .ref (a_ 3), .ref (a_ 4), .ref (a_ 6)])), (a_ 1, .inl (G.2.2.1, 40, .inr (.inl (U_.p)))), (a_ 2, .inl (G.2.2.1, 40, .inr (.inl (f_)))), (a_ 3, .inl (G.2.1, 40, .inl (fun q9 => nI (U_.b q9)))), (a_ 4, .inr (2, [.ref (a_ 5)])), (a_ 5, .inl (G.2.2.1, 6, .inr (.inl (U_.r)))), (a_ 6, .inr (5, [.ref (a_ 7), .int (nI (T.s 1)), .int (nI (T.s 5))])), (a_ 7, .inl (G.2.1, 10, .inl (fun q9 => nI (T.w q9)))), (o 0, .inr (4, [.int (nI (U_.s 2)), .int (nI (U_.s 3)), .int (nI (U_.s 4)), .int (nI (U_.s 0)), .int (nI (U_.s 6)), .ref (o 1), .ref (o 2), .ref (o 3), .ref (o 4), .ref (o 6)])), (o 1, .inl (G.2.2.1, 40, .inr (.inl (U_.p)))), (o 2, .inl (G.2.2.1, 40, .inr (.inl (f_)))), (o 3, .inl (G.2.1, 40, .inl (fun q9 => nI (U_.b q9)))), (o 4, .inr (2, [.ref (o 5)])), (o 5, .inl (G.2.2.1, 6, .inr (.inl (U_.r)))), (o 6, .inr (5, [.ref (o 7), .int (nI (U_.s 1)), .int (nI (U_.s 5))])), (o 7, .inl (G.2.1, 10, .inl (fun q9 => nI (U_.w q9))))] _ := hP.sub [0, 1, 2, 3, 12, 13, 4, 5, 6, 7, 8, 9, 14, 15, 10, 11] rfl
        have hD : va_D A [(a_ 0, .inr (4, [.int (nI (U_.s 2)), .int (nI (U_.s 3)), .int (nI (U_.s 4)), .int (nI (U_.s 0)), .int (nI (U_.s 6)), .ref (a_ 1), .ref (a_ 2), .ref (a_ 3), .ref (a_ 4), .ref (a_ 6)])), (a_ 1, .inl (G.2.2.1, 40, .inr (.inl (U_.p)))), (a_ 2, .inl (G.2.2.1, 40, .inr (.inl (f_)))), (a_ 3, .inl (G.2.1, 40, .inl (fun q9 => nI (U_.b q9)))), (a_ 4, .inr (2, [.ref (a_ 5)])), (a_ 5, .inl (G.2.2.1, 6, .inr (.inl (U_.r)))), (a_ 6, .inr (5, [.ref (a_ 7), .int (nI (T.s 1)), .int (nI (T.s 5))])), (a_ 7, .inl (G.2.1, 10, .inl (fun q9 => nI (T.w q9)))), (o 0, .inr (4, [.int (nI (U_.s 2)), .int (nI (U_.s 3)), .int (nI (U_.s 4)), .int (nI (U_.s 0)), .int (nI (U_.s 6)), .ref (o 1), .ref (o 2), .ref (o 3), .ref (o 4), .ref (o 6)])), (o 1, .inl (G.2.2.1, 40, .inr (.inl (U_.p)))), (o 2, .inl (G.2.2.1, 40, .inr (.inl (f_)))), (o 3, .inl (G.2.1, 40, .inl (fun q9 => nI (U_.b q9)))), (o 4, .inr (2, [.ref (o 5)])), (o 5, .inl (G.2.2.1, 6, .inr (.inl (U_.r)))), (o 6, .inr (5, [.ref (o 7), .int (nI (U_.s 1)), .int (nI (U_.s 5))])), (o 7, .inl (G.2.1, 10, .inl (fun q9 => nI (U_.w q9))))] := hD.sub [0, 1, 2, 3, 12, 13, 4, 5, 6, 7, 8, 9, 14, 15, 10, 11] rfl rfl
        refine lv_aload_n hx hb dX4_copyFrom_101 rfl (lv_at hl 1 rfl) ?_
        refine va_get (D := G.1) (ci := 4) (v := .ref (a_ 6)) (C := RX4) (T := TX4) (N := 10) hx hb hts hin4 hown hK hP 0 rfl rfl 9 (by decide) (hts (.fieldLink RX4 36 "PowerTables$Table" "types" "LPowerTables$Types;") (List.mem_of_getElem? (i := 10) rfl)) (fun _ h9 => h9) rfl dX4_copyFrom_102 ?_
        refine lv_aload_n hx hb dX4_copyFrom_105 rfl (lv_at hl 2 rfl) ?_
        refine va_get (D := G.1) (ci := 4) (v := .ref (o 6)) (C := RX4) (T := TX4) (N := 10) hx hb hts hin4 hown hK hP 8 rfl rfl 9 (by decide) (hts (.fieldLink RX4 36 "PowerTables$Table" "types" "LPowerTables$Types;") (List.mem_of_getElem? (i := 10) rfl)) (fun _ h9 => h9) rfl dX4_copyFrom_106 ?_
        refine cr_V (wr := [(a_ 0, .inr (4, [.int (nI (U_.s 2)), .int (nI (U_.s 3)), .int (nI (U_.s 4)), .int (nI (U_.s 0)), .int (nI (U_.s 6)), .ref (a_ 1), .ref (a_ 2), .ref (a_ 3), .ref (a_ 4), .ref (a_ 6)])), (a_ 1, .inl (G.2.2.1, 40, .inr (.inl (U_.p)))), (a_ 2, .inl (G.2.2.1, 40, .inr (.inl (f_)))), (a_ 3, .inl (G.2.1, 40, .inl (fun q9 => nI (U_.b q9)))), (a_ 4, .inr (2, [.ref (a_ 5)])), (a_ 5, .inl (G.2.2.1, 6, .inr (.inl (U_.r)))), (o 0, .inr (4, [.int (nI (U_.s 2)), .int (nI (U_.s 3)), .int (nI (U_.s 4)), .int (nI (U_.s 0)), .int (nI (U_.s 6)), .ref (o 1), .ref (o 2), .ref (o 3), .ref (o 4), .ref (o 6)])), (o 1, .inl (G.2.2.1, 40, .inr (.inl (U_.p)))), (o 2, .inl (G.2.2.1, 40, .inr (.inl (f_)))), (o 3, .inl (G.2.1, 40, .inl (fun q9 => nI (U_.b q9)))), (o 4, .inr (2, [.ref (o 5)])), (o 5, .inl (G.2.2.1, 6, .inr (.inl (U_.r))))]) (As := [.ref (o 6)]) (rest := []) ⟨hx, hb, hml, hown, hts⟩ (c_X5_copyFrom G l (a_ 6) (a_ 7) T.w (T.s 1) (T.s 5) (o 6) (o 7) U_.w (U_.s 1) (U_.s 5) ) (cwV 1 hts gX4_copyFrom_X5_copyFrom rfl rfl rfl (by decide +kernel) ⟨Nat.le_of_ble_eq_true rfl, Nat.le_of_ble_eq_true rfl⟩) dX4_copyFrom_109 hK hNX hP hD hS hA hl 6 5 rfl rfl rfl [6, 7, 14, 15] [0, 1, 2, 3, 4, 5, 8, 9, 10, 11, 12, 13] rfl rfl rfl rfl (by decide +kernel) rfl (Nat.le_of_ble_eq_true rfl) ⟨Nat.le_of_ble_eq_true rfl, Nat.le_of_ble_eq_true rfl⟩ rfl (fun v' w' Hq lcq hR' hP hD hS => ?_)
        obtain ⟨rfl, rfl⟩ := hR'
        have hP : va_P G.1 vwCl [(a_ 0, .inr (4, [.int (nI (U_.s 2)), .int (nI (U_.s 3)), .int (nI (U_.s 4)), .int (nI (U_.s 0)), .int (nI (U_.s 6)), .ref (a_ 1), .ref (a_ 2), .ref (a_ 3), .ref (a_ 4), .ref (a_ 6)])), (a_ 1, .inl (G.2.2.1, 40, .inr (.inl (U_.p)))), (a_ 2, .inl (G.2.2.1, 40, .inr (.inl (f_)))), (a_ 3, .inl (G.2.1, 40, .inl (fun q9 => nI (U_.b q9)))), (a_ 4, .inr (2, [.ref (a_ 5)])), (a_ 5, .inl (G.2.2.1, 6, .inr (.inl (U_.r)))), (a_ 6, .inr (5, [.ref (a_ 7), .int (nI (U_.s 1)), .int (nI (U_.s 5))])), (a_ 7, .inl (G.2.1, 10, .inl (fun q9 => nI (U_.w q9)))), (o 0, .inr (4, [.int (nI (U_.s 2)), .int (nI (U_.s 3)), .int (nI (U_.s 4)), .int (nI (U_.s 0)), .int (nI (U_.s 6)), .ref (o 1), .ref (o 2), .ref (o 3), .ref (o 4), .ref (o 6)])), (o 1, .inl (G.2.2.1, 40, .inr (.inl (U_.p)))), (o 2, .inl (G.2.2.1, 40, .inr (.inl (f_)))), (o 3, .inl (G.2.1, 40, .inl (fun q9 => nI (U_.b q9)))), (o 4, .inr (2, [.ref (o 5)])), (o 5, .inl (G.2.2.1, 6, .inr (.inl (U_.r)))), (o 6, .inr (5, [.ref (o 7), .int (nI (U_.s 1)), .int (nI (U_.s 5))])), (o 7, .inl (G.2.1, 10, .inl (fun q9 => nI (U_.w q9))))] _ := hP.sub [0, 1, 2, 3, 4, 5, 12, 13, 6, 7, 8, 9, 10, 11, 14, 15] rfl
        have hD : va_D A [(a_ 0, .inr (4, [.int (nI (U_.s 2)), .int (nI (U_.s 3)), .int (nI (U_.s 4)), .int (nI (U_.s 0)), .int (nI (U_.s 6)), .ref (a_ 1), .ref (a_ 2), .ref (a_ 3), .ref (a_ 4), .ref (a_ 6)])), (a_ 1, .inl (G.2.2.1, 40, .inr (.inl (U_.p)))), (a_ 2, .inl (G.2.2.1, 40, .inr (.inl (f_)))), (a_ 3, .inl (G.2.1, 40, .inl (fun q9 => nI (U_.b q9)))), (a_ 4, .inr (2, [.ref (a_ 5)])), (a_ 5, .inl (G.2.2.1, 6, .inr (.inl (U_.r)))), (a_ 6, .inr (5, [.ref (a_ 7), .int (nI (U_.s 1)), .int (nI (U_.s 5))])), (a_ 7, .inl (G.2.1, 10, .inl (fun q9 => nI (U_.w q9)))), (o 0, .inr (4, [.int (nI (U_.s 2)), .int (nI (U_.s 3)), .int (nI (U_.s 4)), .int (nI (U_.s 0)), .int (nI (U_.s 6)), .ref (o 1), .ref (o 2), .ref (o 3), .ref (o 4), .ref (o 6)])), (o 1, .inl (G.2.2.1, 40, .inr (.inl (U_.p)))), (o 2, .inl (G.2.2.1, 40, .inr (.inl (f_)))), (o 3, .inl (G.2.1, 40, .inl (fun q9 => nI (U_.b q9)))), (o 4, .inr (2, [.ref (o 5)])), (o 5, .inl (G.2.2.1, 6, .inr (.inl (U_.r)))), (o 6, .inr (5, [.ref (o 7), .int (nI (U_.s 1)), .int (nI (U_.s 5))])), (o 7, .inl (G.2.1, 10, .inl (fun q9 => nI (U_.w q9))))] := hD.sub [0, 1, 2, 3, 4, 5, 12, 13, 6, 7, 8, 9, 10, 11, 14, 15] rfl rfl
        exact cr_vret hx hb hr hlocks hK hP hD hS dX4_copyFrom_112 (by rw [hRR]; exact ctR_v (rfl))
      · refine lv_aload_n hx hb dX4_copyFrom_48 rfl (lv_at hl 1 rfl) ?_
        refine va_get (D := G.1) (ci := 4) (v := .ref (a_ 1)) (C := RX4) (T := TX4) (N := 10) hx hb hts hin4 hown hK hP 0 rfl rfl 5 (by decide) (hts (.fieldLink RX4 15 "PowerTables$Table" "printed" "[J") (List.mem_of_getElem? (i := 6) rfl)) (fun _ h9 => h9) rfl dX4_copyFrom_49 ?_
        refine lv_iload_n hx hb dX4_copyFrom_52 rfl (lv_at hl 0 rfl) ?_
        refine lv_aload_n hx hb dX4_copyFrom_53 rfl (lv_at hl 2 rfl) ?_
        refine va_get (D := G.1) (ci := 4) (v := .ref (o 1)) (C := RX4) (T := TX4) (N := 10) hx hb hts hin4 hown hK hP 8 rfl rfl 5 (by decide) (hts (.fieldLink RX4 15 "PowerTables$Table" "printed" "[J") (List.mem_of_getElem? (i := 6) rfl)) (fun _ h9 => h9) rfl dX4_copyFrom_54 ?_
        refine lv_iload_n hx hb dX4_copyFrom_57 rfl (lv_at hl 0 rfl) ?_
        refine ks_lald hx hb hK hP 9 rfl (by omega) (by decide) dX4_copyFrom_58 ?_
        refine ks_last (f' := cpu T.p U_.p (i_ + 1)) hx hb hK hP hD hS 1 rfl (by omega) (by decide) (cpu_sL _ _ _) dX4_copyFrom_59 (fun Hq lcq hP hD hS => ?_)
        have hP : va_P G.1 vwCl [(a_ 0, .inr (4, [.int (nI (U_.s 2)), .int (nI (U_.s 3)), .int (nI (U_.s 4)), .int (nI (U_.s 0)), .int (nI (U_.s 6)), .ref (a_ 1), .ref (a_ 2), .ref (a_ 3), .ref (a_ 4), .ref (a_ 6)])), (a_ 1, .inl (G.2.2.1, 40, .inr (.inl (cpu T.p U_.p (i_ + 1))))), (a_ 2, .inl (G.2.2.1, 40, .inr (.inl (cpu g_ f_ i_)))), (a_ 3, .inl (G.2.1, 40, .inl (fun q9 => nI ((cpu T.b U_.b i_) q9)))), (a_ 4, .inr (2, [.ref (a_ 5)])), (a_ 5, .inl (G.2.2.1, 6, .inr (.inl (T.r)))), (a_ 6, .inr (5, [.ref (a_ 7), .int (nI (T.s 1)), .int (nI (T.s 5))])), (a_ 7, .inl (G.2.1, 10, .inl (fun q9 => nI (T.w q9)))), (o 0, .inr (4, [.int (nI (U_.s 2)), .int (nI (U_.s 3)), .int (nI (U_.s 4)), .int (nI (U_.s 0)), .int (nI (U_.s 6)), .ref (o 1), .ref (o 2), .ref (o 3), .ref (o 4), .ref (o 6)])), (o 1, .inl (G.2.2.1, 40, .inr (.inl (U_.p)))), (o 2, .inl (G.2.2.1, 40, .inr (.inl (f_)))), (o 3, .inl (G.2.1, 40, .inl (fun q9 => nI (U_.b q9)))), (o 4, .inr (2, [.ref (o 5)])), (o 5, .inl (G.2.2.1, 6, .inr (.inl (U_.r)))), (o 6, .inr (5, [.ref (o 7), .int (nI (U_.s 1)), .int (nI (U_.s 5))])), (o 7, .inl (G.2.1, 10, .inl (fun q9 => nI (U_.w q9))))] _ := hP
        have hD : va_D A [(a_ 0, .inr (4, [.int (nI (U_.s 2)), .int (nI (U_.s 3)), .int (nI (U_.s 4)), .int (nI (U_.s 0)), .int (nI (U_.s 6)), .ref (a_ 1), .ref (a_ 2), .ref (a_ 3), .ref (a_ 4), .ref (a_ 6)])), (a_ 1, .inl (G.2.2.1, 40, .inr (.inl (cpu T.p U_.p (i_ + 1))))), (a_ 2, .inl (G.2.2.1, 40, .inr (.inl (cpu g_ f_ i_)))), (a_ 3, .inl (G.2.1, 40, .inl (fun q9 => nI ((cpu T.b U_.b i_) q9)))), (a_ 4, .inr (2, [.ref (a_ 5)])), (a_ 5, .inl (G.2.2.1, 6, .inr (.inl (T.r)))), (a_ 6, .inr (5, [.ref (a_ 7), .int (nI (T.s 1)), .int (nI (T.s 5))])), (a_ 7, .inl (G.2.1, 10, .inl (fun q9 => nI (T.w q9)))), (o 0, .inr (4, [.int (nI (U_.s 2)), .int (nI (U_.s 3)), .int (nI (U_.s 4)), .int (nI (U_.s 0)), .int (nI (U_.s 6)), .ref (o 1), .ref (o 2), .ref (o 3), .ref (o 4), .ref (o 6)])), (o 1, .inl (G.2.2.1, 40, .inr (.inl (U_.p)))), (o 2, .inl (G.2.2.1, 40, .inr (.inl (f_)))), (o 3, .inl (G.2.1, 40, .inl (fun q9 => nI (U_.b q9)))), (o 4, .inr (2, [.ref (o 5)])), (o 5, .inl (G.2.2.1, 6, .inr (.inl (U_.r)))), (o 6, .inr (5, [.ref (o 7), .int (nI (U_.s 1)), .int (nI (U_.s 5))])), (o 7, .inl (G.2.1, 10, .inl (fun q9 => nI (U_.w q9))))] := hD
        refine lv_aload_n hx hb dX4_copyFrom_60 rfl (lv_at hl 1 rfl) ?_
        refine va_get (D := G.1) (ci := 4) (v := .ref (a_ 2)) (C := RX4) (T := TX4) (N := 10) hx hb hts hin4 hown hK hP 0 rfl rfl 6 (by decide) (hts (.fieldLink RX4 19 "PowerTables$Table" "right" "[J") (List.mem_of_getElem? (i := 7) rfl)) (fun _ h9 => h9) rfl dX4_copyFrom_61 ?_
        refine lv_iload_n hx hb dX4_copyFrom_64 rfl (lv_at hl 0 rfl) ?_
        refine lv_aload_n hx hb dX4_copyFrom_65 rfl (lv_at hl 2 rfl) ?_
        refine va_get (D := G.1) (ci := 4) (v := .ref (o 2)) (C := RX4) (T := TX4) (N := 10) hx hb hts hin4 hown hK hP 8 rfl rfl 6 (by decide) (hts (.fieldLink RX4 19 "PowerTables$Table" "right" "[J") (List.mem_of_getElem? (i := 7) rfl)) (fun _ h9 => h9) rfl dX4_copyFrom_66 ?_
        refine lv_iload_n hx hb dX4_copyFrom_69 rfl (lv_at hl 0 rfl) ?_
        refine ks_lald hx hb hK hP 10 rfl (by omega) (by decide) dX4_copyFrom_70 ?_
        refine ks_last (f' := cpu g_ f_ (i_ + 1)) hx hb hK hP hD hS 2 rfl (by omega) (by decide) (cpu_sL _ _ _) dX4_copyFrom_71 (fun Hq lcq hP hD hS => ?_)
        have hP : va_P G.1 vwCl [(a_ 0, .inr (4, [.int (nI (U_.s 2)), .int (nI (U_.s 3)), .int (nI (U_.s 4)), .int (nI (U_.s 0)), .int (nI (U_.s 6)), .ref (a_ 1), .ref (a_ 2), .ref (a_ 3), .ref (a_ 4), .ref (a_ 6)])), (a_ 1, .inl (G.2.2.1, 40, .inr (.inl (cpu T.p U_.p (i_ + 1))))), (a_ 2, .inl (G.2.2.1, 40, .inr (.inl (cpu g_ f_ (i_ + 1))))), (a_ 3, .inl (G.2.1, 40, .inl (fun q9 => nI ((cpu T.b U_.b i_) q9)))), (a_ 4, .inr (2, [.ref (a_ 5)])), (a_ 5, .inl (G.2.2.1, 6, .inr (.inl (T.r)))), (a_ 6, .inr (5, [.ref (a_ 7), .int (nI (T.s 1)), .int (nI (T.s 5))])), (a_ 7, .inl (G.2.1, 10, .inl (fun q9 => nI (T.w q9)))), (o 0, .inr (4, [.int (nI (U_.s 2)), .int (nI (U_.s 3)), .int (nI (U_.s 4)), .int (nI (U_.s 0)), .int (nI (U_.s 6)), .ref (o 1), .ref (o 2), .ref (o 3), .ref (o 4), .ref (o 6)])), (o 1, .inl (G.2.2.1, 40, .inr (.inl (U_.p)))), (o 2, .inl (G.2.2.1, 40, .inr (.inl (f_)))), (o 3, .inl (G.2.1, 40, .inl (fun q9 => nI (U_.b q9)))), (o 4, .inr (2, [.ref (o 5)])), (o 5, .inl (G.2.2.1, 6, .inr (.inl (U_.r)))), (o 6, .inr (5, [.ref (o 7), .int (nI (U_.s 1)), .int (nI (U_.s 5))])), (o 7, .inl (G.2.1, 10, .inl (fun q9 => nI (U_.w q9))))] _ := hP
        have hD : va_D A [(a_ 0, .inr (4, [.int (nI (U_.s 2)), .int (nI (U_.s 3)), .int (nI (U_.s 4)), .int (nI (U_.s 0)), .int (nI (U_.s 6)), .ref (a_ 1), .ref (a_ 2), .ref (a_ 3), .ref (a_ 4), .ref (a_ 6)])), (a_ 1, .inl (G.2.2.1, 40, .inr (.inl (cpu T.p U_.p (i_ + 1))))), (a_ 2, .inl (G.2.2.1, 40, .inr (.inl (cpu g_ f_ (i_ + 1))))), (a_ 3, .inl (G.2.1, 40, .inl (fun q9 => nI ((cpu T.b U_.b i_) q9)))), (a_ 4, .inr (2, [.ref (a_ 5)])), (a_ 5, .inl (G.2.2.1, 6, .inr (.inl (T.r)))), (a_ 6, .inr (5, [.ref (a_ 7), .int (nI (T.s 1)), .int (nI (T.s 5))])), (a_ 7, .inl (G.2.1, 10, .inl (fun q9 => nI (T.w q9)))), (o 0, .inr (4, [.int (nI (U_.s 2)), .int (nI (U_.s 3)), .int (nI (U_.s 4)), .int (nI (U_.s 0)), .int (nI (U_.s 6)), .ref (o 1), .ref (o 2), .ref (o 3), .ref (o 4), .ref (o 6)])), (o 1, .inl (G.2.2.1, 40, .inr (.inl (U_.p)))), (o 2, .inl (G.2.2.1, 40, .inr (.inl (f_)))), (o 3, .inl (G.2.1, 40, .inl (fun q9 => nI (U_.b q9)))), (o 4, .inr (2, [.ref (o 5)])), (o 5, .inl (G.2.2.1, 6, .inr (.inl (U_.r)))), (o 6, .inr (5, [.ref (o 7), .int (nI (U_.s 1)), .int (nI (U_.s 5))])), (o 7, .inl (G.2.1, 10, .inl (fun q9 => nI (U_.w q9))))] := hD
        refine lv_aload_n hx hb dX4_copyFrom_72 rfl (lv_at hl 1 rfl) ?_
        refine va_get (D := G.1) (ci := 4) (v := .ref (a_ 3)) (C := RX4) (T := TX4) (N := 10) hx hb hts hin4 hown hK hP 0 rfl rfl 7 (by decide) (hts (.fieldLink RX4 22 "PowerTables$Table" "blurred" "[I") (List.mem_of_getElem? (i := 8) rfl)) (fun _ h9 => h9) rfl dX4_copyFrom_73 ?_
        refine lv_iload_n hx hb dX4_copyFrom_76 rfl (lv_at hl 0 rfl) ?_
        refine lv_aload_n hx hb dX4_copyFrom_77 rfl (lv_at hl 2 rfl) ?_
        refine va_get (D := G.1) (ci := 4) (v := .ref (o 3)) (C := RX4) (T := TX4) (N := 10) hx hb hts hin4 hown hK hP 8 rfl rfl 7 (by decide) (hts (.fieldLink RX4 22 "PowerTables$Table" "blurred" "[I") (List.mem_of_getElem? (i := 8) rfl)) (fun _ h9 => h9) rfl dX4_copyFrom_78 ?_
        refine lv_iload_n hx hb dX4_copyFrom_81 rfl (lv_at hl 0 rfl) ?_
        refine ks_iald hx hb hK hP 11 rfl (by omega) (by decide) dX4_copyFrom_82 ?_
        refine ks_iast (f' := fun q9 => nI ((cpu T.b U_.b (i_ + 1)) q9)) hx hb hK hP hD hS 3 rfl (by omega) (by decide) (cpu_sN _ _ _) dX4_copyFrom_83 (fun Hq lcq hP hD hS => ?_)
        have hP : va_P G.1 vwCl [(a_ 0, .inr (4, [.int (nI (U_.s 2)), .int (nI (U_.s 3)), .int (nI (U_.s 4)), .int (nI (U_.s 0)), .int (nI (U_.s 6)), .ref (a_ 1), .ref (a_ 2), .ref (a_ 3), .ref (a_ 4), .ref (a_ 6)])), (a_ 1, .inl (G.2.2.1, 40, .inr (.inl (cpu T.p U_.p (i_ + 1))))), (a_ 2, .inl (G.2.2.1, 40, .inr (.inl (cpu g_ f_ (i_ + 1))))), (a_ 3, .inl (G.2.1, 40, .inl (fun q9 => nI ((cpu T.b U_.b (i_ + 1)) q9)))), (a_ 4, .inr (2, [.ref (a_ 5)])), (a_ 5, .inl (G.2.2.1, 6, .inr (.inl (T.r)))), (a_ 6, .inr (5, [.ref (a_ 7), .int (nI (T.s 1)), .int (nI (T.s 5))])), (a_ 7, .inl (G.2.1, 10, .inl (fun q9 => nI (T.w q9)))), (o 0, .inr (4, [.int (nI (U_.s 2)), .int (nI (U_.s 3)), .int (nI (U_.s 4)), .int (nI (U_.s 0)), .int (nI (U_.s 6)), .ref (o 1), .ref (o 2), .ref (o 3), .ref (o 4), .ref (o 6)])), (o 1, .inl (G.2.2.1, 40, .inr (.inl (U_.p)))), (o 2, .inl (G.2.2.1, 40, .inr (.inl (f_)))), (o 3, .inl (G.2.1, 40, .inl (fun q9 => nI (U_.b q9)))), (o 4, .inr (2, [.ref (o 5)])), (o 5, .inl (G.2.2.1, 6, .inr (.inl (U_.r)))), (o 6, .inr (5, [.ref (o 7), .int (nI (U_.s 1)), .int (nI (U_.s 5))])), (o 7, .inl (G.2.1, 10, .inl (fun q9 => nI (U_.w q9))))] _ := hP
        have hD : va_D A [(a_ 0, .inr (4, [.int (nI (U_.s 2)), .int (nI (U_.s 3)), .int (nI (U_.s 4)), .int (nI (U_.s 0)), .int (nI (U_.s 6)), .ref (a_ 1), .ref (a_ 2), .ref (a_ 3), .ref (a_ 4), .ref (a_ 6)])), (a_ 1, .inl (G.2.2.1, 40, .inr (.inl (cpu T.p U_.p (i_ + 1))))), (a_ 2, .inl (G.2.2.1, 40, .inr (.inl (cpu g_ f_ (i_ + 1))))), (a_ 3, .inl (G.2.1, 40, .inl (fun q9 => nI ((cpu T.b U_.b (i_ + 1)) q9)))), (a_ 4, .inr (2, [.ref (a_ 5)])), (a_ 5, .inl (G.2.2.1, 6, .inr (.inl (T.r)))), (a_ 6, .inr (5, [.ref (a_ 7), .int (nI (T.s 1)), .int (nI (T.s 5))])), (a_ 7, .inl (G.2.1, 10, .inl (fun q9 => nI (T.w q9)))), (o 0, .inr (4, [.int (nI (U_.s 2)), .int (nI (U_.s 3)), .int (nI (U_.s 4)), .int (nI (U_.s 0)), .int (nI (U_.s 6)), .ref (o 1), .ref (o 2), .ref (o 3), .ref (o 4), .ref (o 6)])), (o 1, .inl (G.2.2.1, 40, .inr (.inl (U_.p)))), (o 2, .inl (G.2.2.1, 40, .inr (.inl (f_)))), (o 3, .inl (G.2.1, 40, .inl (fun q9 => nI (U_.b q9)))), (o 4, .inr (2, [.ref (o 5)])), (o 5, .inl (G.2.2.1, 6, .inr (.inl (U_.r)))), (o 6, .inr (5, [.ref (o 7), .int (nI (U_.s 1)), .int (nI (U_.s 5))])), (o 7, .inl (G.2.1, 10, .inl (fun q9 => nI (U_.w q9))))] := hD
        refine lv_iinc (v := nI (i_ + 1)) (lv' := [(2, .int (nI (i_ + 1))), (0, .ref (a_ 0)), (1, .ref (o 0))]) hx hb dX4_copyFrom_84 hl (k := 0) rfl (ks_inc i_ 1) (by decide) rfl (fun ls hl => ?_)
        refine lv_goto (tgt := 42) hx hb dX4_copyFrom_87 (by decide) ?_
        exact ih_42  (i_ + 1) (by omega) (by omega) _ _ hP hD hS ls (lv_sub hl [0, 1, 2] rfl)
  rw [← cpu_0 T.p U_.p, ← cpu_0 g_ f_] at hP hD
  rw [show (fun q9 => nI (T.b q9)) = fun q9 => nI (cpu T.b U_.b 0 q9) by rw [cpu_0]] at hP hD
  exact L_42 _ 0 (Nat.lt_succ_self _) (by omega) _ _ hP hD hS ls (lv_sub hl [0, 1, 2] rfl)
