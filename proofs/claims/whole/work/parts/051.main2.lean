noncomputable def b01 (P : Prop) : Nat := @ite _ P (Classical.propDecidable P) 1 0
theorem b01_t {P : Prop} (h : P) : b01 P = 1 := if_pos h
theorem b01_f {P : Prop} (h : ¬ P) : b01 P = 0 := if_neg h
def rowA (T : TS) (g : Nat → Int64) (i w : Nat) : Int64 := match w with
  | 0 => lN (T.s 3 + i)
  | 1 => T.p i
  | 2 => g i
  | 3 => T.p i - g i
  | _ => lN (T.b i)
noncomputable def grB (T : TS) (g : Nat → Int64) (q w : Nat) : Int64 := match w with
  | 0 => smL (fun k => T.p (q * T.s 0 + k)) (q * T.s 0 + T.s 0 - q * T.s 0)
  | 1 => smL (fun k => g (q * T.s 0 + k)) (q * T.s 0 + T.s 0 - q * T.s 0)
  | 2 => lN (b01 (smL (fun k => T.p (q * T.s 0 + k)) (q * T.s 0 + T.s 0 - q * T.s 0) ≠ smL (fun k => g (q * T.s 0 + k)) (q * T.s 0 + T.s 0 - q * T.s 0)))
  | _ => lN (ctN (fun k => T.p (q * T.s 0 + k) ≠ g (q * T.s 0 + k)) (q * T.s 0 + T.s 0 - q * T.s 0))
noncomputable def grA (T : TS) (g : Nat → Int64) (q w : Nat) : Int64 := if q < T.s 4 / T.s 0 then grB T g q w else lN 0
def dfA (T : TS) (j i : Nat) : Int64 := if i + j < T.s 4 then dif T.p j i else lN 0
noncomputable def cntA (T : TS) (g : Nat → Int64) (n w : Nat) : Int32 := match w with
  | 0 => nI (T.s 2)
  | 1 => nI (T.s 3)
  | 2 => nI (T.s 4)
  | 3 => nI (ctN (fun k => T.p (0 + k) ≠ g (0 + k)) (T.s 4 - 0))
  | 4 => fwI (fun k => T.p k ≠ g k) (T.s 4)
  | 5 => nI (T.s 4 / T.s 0)
  | 6 => nI (ctN (fun q => gwr T.p g q (T.s 0)) (T.s 4 / T.s 0))
  | 7 => nI (smN T.b (T.s 4))
  | 8 => nI (ctN (fun k => T.r k ≠ rgt (T.s 2) (T.s 3 + T.s 4) k) 6)
  | 9 => nI (T.s 5)
  | 10 => nI (T.s 6)
  | _ => nI n
set_option maxHeartbeats 4000000 in
set_option maxRecDepth 100000 in
theorem c_X1_isCode (G : GG) (l : Launch) (ch_ : Nat) (jc : ch_ < 2 ^ 30) : Cr G l yX1_isCode wsX1_isCode ({ frames := 0, cells := 0, slots := 0, locals := 0 }) 0 0 [.int (nI ch_)] [] (ctR (some (.int (bI (33 ≤ ch_ ∧ ch_ ≤ 126)))) []) := by
  refine cr_intro (cc := cX1_isCode) (maxL := 1) (ret := (some .boolean)) (own := RX1) (by decide) rfl rfl (Nat.le_of_ble_eq_true rfl) ?_
  intro p e s m args below meth c A hx hb hr hml hts hown hlocks hnm hNX hP hK hD hA hS ls hl
  obtain ⟨RR, hRR⟩ : ∃ RR, RR = (ctR (some (.int (bI (33 ≤ ch_ ∧ ch_ ≤ 126)))) []) := ⟨_, rfl⟩
  rw [← hRR]
  have hl : lv_has ls 1 [(0, .int (nI ch_))] := hl
  refine lv_iload_n hx hb dX1_isCode_0 rfl (lv_at hl 0 rfl) ?_
  refine lv_bipush (v := nI 33) hx hb dX1_isCode_1 (by decide) ?_
  refine ks_icmp_lt (tgt := 16) hx hb dX1_isCode_3 (by decide) (by omega) (by omega) (fun c_3 => ?_) (fun c_3 => ?_)
  · have hv : nI 0 = bI (33 ≤ ch_ ∧ ch_ ≤ 126) := bI_0 (by omega)
    refine lv_iconst (v := nI 0) hx hb dX1_isCode_16 (by decide) ?_
    exact cr_zret hx hb hr hlocks hK hP hD hS (by decide +kernel) dX1_isCode_17 (by rw [hRR]; exact ctR_i (hv) (rfl))
  · refine lv_iload_n hx hb dX1_isCode_6 rfl (lv_at hl 0 rfl) ?_
    refine lv_bipush (v := nI 126) hx hb dX1_isCode_7 (by decide) ?_
    refine ks_icmp_gt (tgt := 16) hx hb dX1_isCode_9 (by decide) (by omega) (by omega) (fun c_9 => ?_) (fun c_9 => ?_)
    · have hv : nI 0 = bI (33 ≤ ch_ ∧ ch_ ≤ 126) := bI_0 (by omega)
      refine lv_iconst (v := nI 0) hx hb dX1_isCode_16 (by decide) ?_
      exact cr_zret hx hb hr hlocks hK hP hD hS (by decide +kernel) dX1_isCode_17 (by rw [hRR]; exact ctR_i (hv) (rfl))
    · have hv : nI 1 = bI (33 ≤ ch_ ∧ ch_ ≤ 126) := bI_1 (by omega)
      refine lv_iconst (v := nI 1) hx hb dX1_isCode_12 (by decide) ?_
      refine lv_goto (tgt := 17) hx hb dX1_isCode_13 (by decide) ?_
      exact cr_zret hx hb hr hlocks hK hP hD hS (by decide +kernel) dX1_isCode_17 (by rw [hRR]; exact ctR_i (hv) (rfl))
set_option maxHeartbeats 4000000 in
set_option maxRecDepth 100000 in
theorem c_X1_isCode__raw (G : GG) (l : Launch) (y_ : Int32)  : Cr G l yX1_isCode wsX1_isCode ({ frames := 0, cells := 0, slots := 0, locals := 0 }) 0 0 [.int y_] [] (ctR (some (.int (bI (¬ y_ < nI 33 ∧ ¬ nI 126 < y_)))) []) := by
  refine cr_intro (cc := cX1_isCode) (maxL := 1) (ret := (some .boolean)) (own := RX1) (by decide) rfl rfl (Nat.le_of_ble_eq_true rfl) ?_
  intro p e s m args below meth c A hx hb hr hml hts hown hlocks hnm hNX hP hK hD hA hS ls hl
  obtain ⟨RR, hRR⟩ : ∃ RR, RR = (ctR (some (.int (bI (¬ y_ < nI 33 ∧ ¬ nI 126 < y_)))) []) := ⟨_, rfl⟩
  rw [← hRR]
  have hl : lv_has ls 1 [(0, .int y_)] := hl
  refine lv_iload_n hx hb dX1_isCode_0 rfl (lv_at hl 0 rfl) ?_
  refine lv_bipush (v := nI 33) hx hb dX1_isCode_1 (by decide) ?_
  refine lv_icmp_lt (tgt := 16) hx hb dX1_isCode_3 (by decide) (fun c_3 => ?_) (fun c_3 => ?_)
  · have hv : nI 0 = bI (¬ y_ < nI 33 ∧ ¬ nI 126 < y_) := bI_0 (fun z => z.1 c_3)
    refine lv_iconst (v := nI 0) hx hb dX1_isCode_16 (by decide) ?_
    exact cr_zret hx hb hr hlocks hK hP hD hS (by decide +kernel) dX1_isCode_17 (by rw [hRR]; exact ctR_i (hv) (rfl))
  · refine lv_iload_n hx hb dX1_isCode_6 rfl (lv_at hl 0 rfl) ?_
    refine lv_bipush (v := nI 126) hx hb dX1_isCode_7 (by decide) ?_
    refine lv_icmp_gt (tgt := 16) hx hb dX1_isCode_9 (by decide) (fun c_9 => ?_) (fun c_9 => ?_)
    · have hv : nI 0 = bI (¬ y_ < nI 33 ∧ ¬ nI 126 < y_) := bI_0 (fun z => z.2 c_9)
      refine lv_iconst (v := nI 0) hx hb dX1_isCode_16 (by decide) ?_
      exact cr_zret hx hb hr hlocks hK hP hD hS (by decide +kernel) dX1_isCode_17 (by rw [hRR]; exact ctR_i (hv) (rfl))
    · have hv : nI 1 = bI (¬ y_ < nI 33 ∧ ¬ nI 126 < y_) := bI_1 ⟨c_3, c_9⟩
      refine lv_iconst (v := nI 1) hx hb dX1_isCode_12 (by decide) ?_
      refine lv_goto (tgt := 17) hx hb dX1_isCode_13 (by decide) ?_
      exact cr_zret hx hb hr hlocks hK hP hD hS (by decide +kernel) dX1_isCode_17 (by rw [hRR]; exact ctR_i (hv) (rfl))
set_option maxHeartbeats 4000000 in
set_option maxRecDepth 100000 in
theorem c_X6_append (G : GG) (l : Launch) (x_ : Nat) (a_ : Nat → Nat) (o : Nat → Nat) (cs : Nat → Nat) (tn_ : Nat) (ch_ : Nat) (jn : tn_ < 60) (j1 : 33 ≤ ch_) (j2_ : ch_ ≤ 126) : Cr G l yX6_append wsX6_append ({ frames := 6, cells := 0, slots := 0, locals := 112 }) 0 0 [.ref x_, .int (nI ch_)] [(x_, .inr (6, [.ref (a_ 0), .ref (o 0), .ref (o 2), .ref (o 4), .ref (o 6), .ref (o 8), .ref (o 10)])), (o 2, .inr (1, [.ref (o 3), .int (nI tn_)])), (o 3, .inl (G.2.1, 60, .inl (fun q9 => nI (cs q9))))] (ctR (some (.int (nI (tn_ + 1)))) [(x_, .inr (6, [.ref (a_ 0), .ref (o 0), .ref (o 2), .ref (o 4), .ref (o 6), .ref (o 8), .ref (o 10)])), (o 2, .inr (1, [.ref (o 3), .int (nI (tn_ + 1))])), (o 3, .inl (G.2.1, 60, .inl (fun q9 => nI ((upN cs tn_ ch_) q9))))]) := by
  refine cr_intro (cc := cX6_append) (maxL := 2) (ret := (some .int)) (own := RX6) (by decide) rfl rfl (Nat.le_of_ble_eq_true rfl) ?_
  intro p e s m args below meth c A hx hb hr hml hts hown hlocks hnm hNX hP hK hD hA hS ls hl
  obtain ⟨RR, hRR⟩ : ∃ RR, RR = (ctR (some (.int (nI (tn_ + 1)))) [(x_, .inr (6, [.ref (a_ 0), .ref (o 0), .ref (o 2), .ref (o 4), .ref (o 6), .ref (o 8), .ref (o 10)])), (o 2, .inr (1, [.ref (o 3), .int (nI (tn_ + 1))])), (o 3, .inl (G.2.1, 60, .inl (fun q9 => nI ((upN cs tn_ ch_) q9))))]) := ⟨_, rfl⟩
  rw [← hRR]
  have hl : lv_has ls 2 [(0, .ref x_), (1, .int (nI ch_))] := hl
  have hin1 : ∀ w ∈ u_ws RX1 TX1 2, w ∈ wsX6_append := fun w h => List.mem_cons_of_mem _ (List.mem_append_left _ (List.mem_append_left _ (List.mem_append_right _ h)))
  have hin6 : ∀ w ∈ u_ws RX6 TX6 7, w ∈ wsX6_append := fun w h => List.mem_cons_of_mem _ (List.mem_append_left _ (List.mem_append_left _ (List.mem_append_left _ (List.mem_append_right _ h))))
  refine lv_iload_n hx hb dX6_append_0 rfl (lv_at hl 1 rfl) ?_
  refine cr_S (wr := [(x_, .inr (6, [.ref (a_ 0), .ref (o 0), .ref (o 2), .ref (o 4), .ref (o 6), .ref (o 8), .ref (o 10)])), (o 2, .inr (1, [.ref (o 3), .int (nI tn_)])), (o 3, .inl (G.2.1, 60, .inl (fun q9 => nI (cs q9))))]) (As := [.int (nI ch_)]) (rest := []) ⟨hx, hb, hml, hown, hts⟩ (c_X1_isCode G l ch_ (by omega)) (va_cwS 1 hts gX6_append_X1_isCode rfl rfl rfl (by decide +kernel) ⟨Nat.le_of_ble_eq_true rfl, Nat.le_of_ble_eq_true rfl⟩) dX6_append_1 hK hNX hP hD hS hA hl [] [0, 1, 2] rfl rfl rfl rfl (by decide) rfl (Nat.le_of_ble_eq_true rfl) ⟨Nat.le_of_ble_eq_true rfl, Nat.le_of_ble_eq_true rfl⟩ rfl (fun v' w' Hq lcq hR' hP hD hS => ?_)
  obtain ⟨rfl, rfl⟩ := hR'
  have hP : va_P G.1 vwCl [(x_, .inr (6, [.ref (a_ 0), .ref (o 0), .ref (o 2), .ref (o 4), .ref (o 6), .ref (o 8), .ref (o 10)])), (o 2, .inr (1, [.ref (o 3), .int (nI tn_)])), (o 3, .inl (G.2.1, 60, .inl (fun q9 => nI (cs q9))))] _ := hP.sub [0, 1, 2] rfl
  have hD : va_D A [(x_, .inr (6, [.ref (a_ 0), .ref (o 0), .ref (o 2), .ref (o 4), .ref (o 6), .ref (o 8), .ref (o 10)])), (o 2, .inr (1, [.ref (o 3), .int (nI tn_)])), (o 3, .inl (G.2.1, 60, .inl (fun q9 => nI (cs q9))))] := hD.sub [0, 1, 2] rfl rfl
  refine ks_ifb_ne (tgt := 17) hx hb dX6_append_4 (by decide) (fun c_4 => ?_) (fun c_4 => ?_)
  · refine lv_aload_n hx hb dX6_append_17 rfl (lv_at hl 0 rfl) ?_
    refine va_get (D := G.1) (ci := 6) (v := .ref (o 2)) (C := RX6) (T := TX6) (N := 7) hx hb hts hin6 hown hK hP 0 rfl rfl 2 (by decide) (hts (.fieldLink RX6 26 "PowerTables" "text" "LPowerTables$OrderText;") (List.mem_of_getElem? (i := 5) rfl)) (fun _ h9 => h9) rfl dX6_append_18 ?_
    refine cr_V (wr := [(x_, .inr (6, [.ref (a_ 0), .ref (o 0), .ref (o 2), .ref (o 4), .ref (o 6), .ref (o 8), .ref (o 10)]))]) (As := []) (rest := []) ⟨hx, hb, hml, hown, hts⟩ (c_X1_isFull G l (o 2) (o 3) cs tn_ (by omega)) (cwV 0 hts gX6_append_X1_isFull rfl rfl rfl (by decide +kernel) ⟨Nat.le_of_ble_eq_true rfl, Nat.le_of_ble_eq_true rfl⟩) dX6_append_21 hK hNX hP hD hS hA hl 1 1 rfl rfl rfl [1, 2] [0] rfl rfl rfl rfl (by decide) rfl (Nat.le_of_ble_eq_true rfl) ⟨Nat.le_of_ble_eq_true rfl, Nat.le_of_ble_eq_true rfl⟩ rfl (fun v' w' Hq lcq hR' hP hD hS => ?_)
    obtain ⟨rfl, rfl⟩ := hR'
    have hP : va_P G.1 vwCl [(x_, .inr (6, [.ref (a_ 0), .ref (o 0), .ref (o 2), .ref (o 4), .ref (o 6), .ref (o 8), .ref (o 10)])), (o 2, .inr (1, [.ref (o 3), .int (nI tn_)])), (o 3, .inl (G.2.1, 60, .inl (fun q9 => nI (cs q9))))] _ := hP.sub [0, 1, 2] rfl
    have hD : va_D A [(x_, .inr (6, [.ref (a_ 0), .ref (o 0), .ref (o 2), .ref (o 4), .ref (o 6), .ref (o 8), .ref (o 10)])), (o 2, .inr (1, [.ref (o 3), .int (nI tn_)])), (o 3, .inl (G.2.1, 60, .inl (fun q9 => nI (cs q9))))] := hD.sub [0, 1, 2] rfl rfl
    refine ks_ifb_eq (tgt := 37) hx hb dX6_append_24 (by decide) (fun c_24 => ?_) (fun c_24 => ?_)
    · refine lv_aload_n hx hb dX6_append_37 rfl (lv_at hl 0 rfl) ?_
      refine va_get (D := G.1) (ci := 6) (v := .ref (o 2)) (C := RX6) (T := TX6) (N := 7) hx hb hts hin6 hown hK hP 0 rfl rfl 2 (by decide) (hts (.fieldLink RX6 26 "PowerTables" "text" "LPowerTables$OrderText;") (List.mem_of_getElem? (i := 5) rfl)) (fun _ h9 => h9) rfl dX6_append_38 ?_
      refine lv_iload_n hx hb dX6_append_41 rfl (lv_at hl 1 rfl) ?_
      refine cr_V (wr := [(x_, .inr (6, [.ref (a_ 0), .ref (o 0), .ref (o 2), .ref (o 4), .ref (o 6), .ref (o 8), .ref (o 10)]))]) (As := [.int (nI ch_)]) (rest := []) ⟨hx, hb, hml, hown, hts⟩ (c_X1_add G l (o 2) (o 3) cs tn_ ch_ (by omega)) (cwV 1 hts gX6_append_X1_add rfl rfl rfl (by decide +kernel) ⟨Nat.le_of_ble_eq_true rfl, Nat.le_of_ble_eq_true rfl⟩) dX6_append_42 hK hNX hP hD hS hA hl 1 1 rfl rfl rfl [1, 2] [0] rfl rfl rfl rfl (by decide) rfl (Nat.le_of_ble_eq_true rfl) ⟨Nat.le_of_ble_eq_true rfl, Nat.le_of_ble_eq_true rfl⟩ rfl (fun v' w' Hq lcq hR' hP hD hS => ?_)
      obtain ⟨rfl, rfl⟩ := hR'
      have hP : va_P G.1 vwCl [(x_, .inr (6, [.ref (a_ 0), .ref (o 0), .ref (o 2), .ref (o 4), .ref (o 6), .ref (o 8), .ref (o 10)])), (o 2, .inr (1, [.ref (o 3), .int (nI (tn_ + 1))])), (o 3, .inl (G.2.1, 60, .inl (fun q9 => nI ((upN cs tn_ ch_) q9))))] _ := hP.sub [0, 1, 2] rfl
      have hD : va_D A [(x_, .inr (6, [.ref (a_ 0), .ref (o 0), .ref (o 2), .ref (o 4), .ref (o 6), .ref (o 8), .ref (o 10)])), (o 2, .inr (1, [.ref (o 3), .int (nI (tn_ + 1))])), (o 3, .inl (G.2.1, 60, .inl (fun q9 => nI ((upN cs tn_ ch_) q9))))] := hD.sub [0, 1, 2] rfl rfl
      refine lv_aload_n hx hb dX6_append_45 rfl (lv_at hl 0 rfl) ?_
      refine va_get (D := G.1) (ci := 6) (v := .ref (o 2)) (C := RX6) (T := TX6) (N := 7) hx hb hts hin6 hown hK hP 0 rfl rfl 2 (by decide) (hts (.fieldLink RX6 26 "PowerTables" "text" "LPowerTables$OrderText;") (List.mem_of_getElem? (i := 5) rfl)) (fun _ h9 => h9) rfl dX6_append_46 ?_
      refine va_getN (D := G.1) (ci := 1) (v := .int (nI (tn_ + 1))) (C := RX1) (T := TX1) (N := 2) hx hb hts hin1 hown hK hP 1 rfl rfl 1 (by decide) (va_Nw.use rfl (hNX.1 (174, "PowerTables$OrderText", "length", "I") (List.mem_of_getElem? (i := 3) rfl))) (fun _ h9 => h9) rfl dX6_append_49 ?_
      exact cr_iret hx hb hr hlocks hK hP hD hS dX6_append_52 (by rw [hRR]; exact ctR_i (rfl) (rfl))
    · omega
  · exact absurd ⟨j1, j2_⟩ c_4
set_option maxHeartbeats 4000000 in
set_option maxRecDepth 100000 in
theorem c_X6_clearBuffer (G : GG) (l : Launch) (x_ : Nat) (a_ : Nat → Nat) (o : Nat → Nat) (cs : Nat → Nat) (tn_ : Nat)  : Cr G l yX6_clearBuffer wsX6_clearBuffer ({ frames := 0, cells := 0, slots := 0, locals := 0 }) 0 0 [.ref x_] [(x_, .inr (6, [.ref (a_ 0), .ref (o 0), .ref (o 2), .ref (o 4), .ref (o 6), .ref (o 8), .ref (o 10)])), (o 2, .inr (1, [.ref (o 3), .int (nI tn_)])), (o 3, .inl (G.2.1, 60, .inl (fun q9 => nI (cs q9))))] (ctR (some (.int (nI tn_))) [(x_, .inr (6, [.ref (a_ 0), .ref (o 0), .ref (o 2), .ref (o 4), .ref (o 6), .ref (o 8), .ref (o 10)])), (o 2, .inr (1, [.ref (o 3), .int (nI 0)])), (o 3, .inl (G.2.1, 60, .inl (fun q9 => nI (cs q9))))]) := by
  refine cr_intro (cc := cX6_clearBuffer) (maxL := 2) (ret := (some .int)) (own := RX6) (by decide) rfl rfl (Nat.le_of_ble_eq_true rfl) ?_
  intro p e s m args below meth c A hx hb hr hml hts hown hlocks hnm hNX hP hK hD hA hS ls hl
  obtain ⟨RR, hRR⟩ : ∃ RR, RR = (ctR (some (.int (nI tn_))) [(x_, .inr (6, [.ref (a_ 0), .ref (o 0), .ref (o 2), .ref (o 4), .ref (o 6), .ref (o 8), .ref (o 10)])), (o 2, .inr (1, [.ref (o 3), .int (nI 0)])), (o 3, .inl (G.2.1, 60, .inl (fun q9 => nI (cs q9))))]) := ⟨_, rfl⟩
  rw [← hRR]
  have hl : lv_has ls 2 [(0, .ref x_)] := hl
  have hin1 : ∀ w ∈ u_ws RX1 TX1 2, w ∈ wsX6_clearBuffer := fun w h => List.mem_cons_of_mem _ (List.mem_append_right _ h)
  have hin6 : ∀ w ∈ u_ws RX6 TX6 7, w ∈ wsX6_clearBuffer := fun w h => List.mem_cons_of_mem _ (List.mem_append_left _ (List.mem_append_right _ h))
  refine lv_aload_n hx hb dX6_clearBuffer_0 rfl (lv_at hl 0 rfl) ?_
  refine va_get (D := G.1) (ci := 6) (v := .ref (o 2)) (C := RX6) (T := TX6) (N := 7) hx hb hts hin6 hown hK hP 0 rfl rfl 2 (by decide) (hts (.fieldLink RX6 26 "PowerTables" "text" "LPowerTables$OrderText;") (List.mem_of_getElem? (i := 1) rfl)) (fun _ h9 => h9) rfl dX6_clearBuffer_1 ?_
  refine va_getN (D := G.1) (ci := 1) (v := .int (nI tn_)) (C := RX1) (T := TX1) (N := 2) hx hb hts hin1 hown hK hP 1 rfl rfl 1 (by decide) (va_Nw.use rfl (hNX.1 (174, "PowerTables$OrderText", "length", "I") (List.mem_of_getElem? (i := 3) rfl))) (fun _ h9 => h9) rfl dX6_clearBuffer_4 ?_
  refine lv_istore_n (lv' := [(1, .int (nI tn_)), (0, .ref x_)]) hx hb dX6_clearBuffer_7 rfl hl (by decide) rfl (fun ls hl => ?_)
  refine lv_aload_n hx hb dX6_clearBuffer_8 rfl (lv_at hl 1 rfl) ?_
  refine va_get (D := G.1) (ci := 6) (v := .ref (o 2)) (C := RX6) (T := TX6) (N := 7) hx hb hts hin6 hown hK hP 0 rfl rfl 2 (by decide) (hts (.fieldLink RX6 26 "PowerTables" "text" "LPowerTables$OrderText;") (List.mem_of_getElem? (i := 1) rfl)) (fun _ h9 => h9) rfl dX6_clearBuffer_9 ?_
  refine lv_iconst (v := nI 0) hx hb dX6_clearBuffer_12 (by decide) ?_
  refine va_putN (D := G.1) (ci := 1) (v := .int (nI 0)) (ty := .int) (C := RX1) (T := TX1) (N := 2) hx hb hts hin1 tyX1 tyX1_ok nmX1 hown hK hP hD hS 1 rfl rfl 1 (by decide) (va_Nw.use rfl (hNX.1 (174, "PowerTables$OrderText", "length", "I") (List.mem_of_getElem? (i := 3) rfl))) (fun _ h9 => h9) rfl (tyX1_ok 1 (by decide)) rfl rfl (Nat.le_of_ble_eq_true rfl) dX6_clearBuffer_13 (fun Hq lcq hP hD hS => ?_)
  have hP : va_P G.1 vwCl [(x_, .inr (6, [.ref (a_ 0), .ref (o 0), .ref (o 2), .ref (o 4), .ref (o 6), .ref (o 8), .ref (o 10)])), (o 2, .inr (1, [.ref (o 3), .int (nI 0)])), (o 3, .inl (G.2.1, 60, .inl (fun q9 => nI (cs q9))))] _ := hP
  have hD : va_D A [(x_, .inr (6, [.ref (a_ 0), .ref (o 0), .ref (o 2), .ref (o 4), .ref (o 6), .ref (o 8), .ref (o 10)])), (o 2, .inr (1, [.ref (o 3), .int (nI 0)])), (o 3, .inl (G.2.1, 60, .inl (fun q9 => nI (cs q9))))] := hD
  refine lv_iload_n hx hb dX6_clearBuffer_16 rfl (lv_at hl 0 rfl) ?_
  exact cr_iret hx hb hr hlocks hK hP hD hS dX6_clearBuffer_17 (by rw [hRR]; exact ctR_i (rfl) (rfl))
set_option maxHeartbeats 4000000 in
set_option maxRecDepth 100000 in
theorem c_X6_firstError (G : GG) (l : Launch) (x_ : Nat) (a_ : Nat → Nat) (o : Nat → Nat) (cs : Nat → Nat) (tn_ : Nat) (jn : tn_ ≤ 60) (jcs : ∀ k, k < 60 → cs k < 2 ^ 30) : Cr G l yX6_firstError wsX6_firstError ({ frames := 4, cells := 0, slots := 0, locals := 85 }) 0 0 [.ref x_] [(x_, .inr (6, [.ref (a_ 0), .ref (o 0), .ref (o 2), .ref (o 4), .ref (o 6), .ref (o 8), .ref (o 10)])), (o 2, .inr (1, [.ref (o 3), .int (nI tn_)])), (o 3, .inl (G.2.1, 60, .inl (fun q9 => nI (cs q9))))] (ctR (some (.int (nI (erI cs tn_)))) [(x_, .inr (6, [.ref (a_ 0), .ref (o 0), .ref (o 2), .ref (o 4), .ref (o 6), .ref (o 8), .ref (o 10)])), (o 2, .inr (1, [.ref (o 3), .int (nI tn_)])), (o 3, .inl (G.2.1, 60, .inl (fun q9 => nI (cs q9))))]) := by
  refine cr_intro (cc := cX6_firstError) (maxL := 1) (ret := (some .int)) (own := RX6) (by decide) rfl rfl (Nat.le_of_ble_eq_true rfl) ?_
  intro p e s m args below meth c A hx hb hr hml hts hown hlocks hnm hNX hP hK hD hA hS ls hl
  obtain ⟨RR, hRR⟩ : ∃ RR, RR = (ctR (some (.int (nI (erI cs tn_)))) [(x_, .inr (6, [.ref (a_ 0), .ref (o 0), .ref (o 2), .ref (o 4), .ref (o 6), .ref (o 8), .ref (o 10)])), (o 2, .inr (1, [.ref (o 3), .int (nI tn_)])), (o 3, .inl (G.2.1, 60, .inl (fun q9 => nI (cs q9))))]) := ⟨_, rfl⟩
  rw [← hRR]
  have hl : lv_has ls 1 [(0, .ref x_)] := hl
  have hin6 : ∀ w ∈ u_ws RX6 TX6 7, w ∈ wsX6_firstError := fun w h => List.mem_cons_of_mem _ (List.mem_append_left _ (List.mem_append_right _ h))
  refine lv_aload_n hx hb dX6_firstError_0 rfl (lv_at hl 0 rfl) ?_
  refine va_get (D := G.1) (ci := 6) (v := .ref (o 2)) (C := RX6) (T := TX6) (N := 7) hx hb hts hin6 hown hK hP 0 rfl rfl 2 (by decide) (hts (.fieldLink RX6 26 "PowerTables" "text" "LPowerTables$OrderText;") (List.mem_of_getElem? (i := 1) rfl)) (fun _ h9 => h9) rfl dX6_firstError_1 ?_
  refine cr_V (wr := [(x_, .inr (6, [.ref (a_ 0), .ref (o 0), .ref (o 2), .ref (o 4), .ref (o 6), .ref (o 8), .ref (o 10)]))]) (As := []) (rest := []) ⟨hx, hb, hml, hown, hts⟩ (c_X1_errorIndex G l (o 2) (o 3) cs tn_ (by omega) (jcs)) (cwV 0 hts gX6_firstError_X1_errorIndex rfl rfl rfl (by decide +kernel) ⟨Nat.le_of_ble_eq_true rfl, Nat.le_of_ble_eq_true rfl⟩) dX6_firstError_4 hK hNX hP hD hS hA hl 1 1 rfl rfl rfl [1, 2] [0] rfl rfl rfl rfl (by decide) rfl (Nat.le_of_ble_eq_true rfl) ⟨Nat.le_of_ble_eq_true rfl, Nat.le_of_ble_eq_true rfl⟩ rfl (fun v' w' Hq lcq hR' hP hD hS => ?_)
  obtain ⟨rfl, rfl⟩ := hR'
  have hP : va_P G.1 vwCl [(x_, .inr (6, [.ref (a_ 0), .ref (o 0), .ref (o 2), .ref (o 4), .ref (o 6), .ref (o 8), .ref (o 10)])), (o 2, .inr (1, [.ref (o 3), .int (nI tn_)])), (o 3, .inl (G.2.1, 60, .inl (fun q9 => nI (cs q9))))] _ := hP.sub [0, 1, 2] rfl
  have hD : va_D A [(x_, .inr (6, [.ref (a_ 0), .ref (o 0), .ref (o 2), .ref (o 4), .ref (o 6), .ref (o 8), .ref (o 10)])), (o 2, .inr (1, [.ref (o 3), .int (nI tn_)])), (o 3, .inl (G.2.1, 60, .inl (fun q9 => nI (cs q9))))] := hD.sub [0, 1, 2] rfl rfl
  exact cr_iret hx hb hr hlocks hK hP hD hS dX6_firstError_7 (by rw [hRR]; exact ctR_i (rfl) (rfl))
set_option maxHeartbeats 4000000 in
set_option maxRecDepth 100000 in
theorem c_X6_undo (G : GG) (l : Launch) (x_ : Nat) (a_ : Nat → Nat) (o : Nat → Nat) (T : TS) (g_ : Nat → Int64) (n_ : Nat) (ad : Nat → Nat → Nat) (Ss : Nat → TS) (Gs : Nat → Nat → Int64) (j1 : 1 ≤ n_) (jn : n_ ≤ 6) : Cr G l yX6_undo wsX6_undo ({ frames := 6, cells := 0, slots := 0, locals := 112 }) 0 0 [.ref x_] ([(x_, .inr (6, [.ref (a_ 0), .ref (o 0), .ref (o 2), .ref (o 4), .ref (o 6), .ref (o 8), .ref (o 10)])), (a_ 0, .inr (4, [.int (nI (T.s 2)), .int (nI (T.s 3)), .int (nI (T.s 4)), .int (nI (T.s 0)), .int (nI (T.s 6)), .ref (a_ 1), .ref (a_ 2), .ref (a_ 3), .ref (a_ 4), .ref (a_ 6)])), (a_ 1, .inl (G.2.2.1, 40, .inr (.inl (T.p)))), (a_ 2, .inl (G.2.2.1, 40, .inr (.inl (g_)))), (a_ 3, .inl (G.2.1, 40, .inl (fun q9 => nI (T.b q9)))), (a_ 4, .inr (2, [.ref (a_ 5)])), (a_ 5, .inl (G.2.2.1, 6, .inr (.inl (T.r)))), (a_ 6, .inr (5, [.ref (a_ 7), .int (nI (T.s 1)), .int (nI (T.s 5))])), (a_ 7, .inl (G.2.1, 10, .inl (fun q9 => nI (T.w q9)))), (o 0, .inr (3, [.ref (o 1), .int (nI n_)])), (o 1, .inl (G.2.2.2, 6, .inr (.inr (.inr (.inr (fun q8 => some (ad q8 0)))))))] ++ svC G ad Ss Gs) (ctR (some (.int (nI (n_ - 1)))) ([(x_, .inr (6, [.ref (a_ 0), .ref (o 0), .ref (o 2), .ref (o 4), .ref (o 6), .ref (o 8), .ref (o 10)])), (a_ 0, .inr (4, [.int (nI ((Ss (n_ - 1)).s 2)), .int (nI ((Ss (n_ - 1)).s 3)), .int (nI ((Ss (n_ - 1)).s 4)), .int (nI ((Ss (n_ - 1)).s 0)), .int (nI ((Ss (n_ - 1)).s 6)), .ref (a_ 1), .ref (a_ 2), .ref (a_ 3), .ref (a_ 4), .ref (a_ 6)])), (a_ 1, .inl (G.2.2.1, 40, .inr (.inl ((Ss (n_ - 1)).p)))), (a_ 2, .inl (G.2.2.1, 40, .inr (.inl (Gs (n_ - 1))))), (a_ 3, .inl (G.2.1, 40, .inl (fun q9 => nI (((Ss (n_ - 1)).b) q9)))), (a_ 4, .inr (2, [.ref (a_ 5)])), (a_ 5, .inl (G.2.2.1, 6, .inr (.inl ((Ss (n_ - 1)).r)))), (a_ 6, .inr (5, [.ref (a_ 7), .int (nI ((Ss (n_ - 1)).s 1)), .int (nI ((Ss (n_ - 1)).s 5))])), (a_ 7, .inl (G.2.1, 10, .inl (fun q9 => nI (((Ss (n_ - 1)).w) q9)))), (o 0, .inr (3, [.ref (o 1), .int (nI (n_ - 1))])), (o 1, .inl (G.2.2.2, 6, .inr (.inr (.inr (.inr (fun q8 => some (ad q8 0)))))))] ++ svC G ad Ss Gs)) := by
  refine cr_intro (cc := cX6_undo) (maxL := 1) (ret := (some .int)) (own := RX6) (by decide) rfl rfl (Nat.le_of_ble_eq_true rfl) ?_
  intro p e s m args below meth c A hx hb hr hml hts hown hlocks hnm hNX hP hK hD hA hS ls hl
  obtain ⟨RR, hRR⟩ : ∃ RR, RR = (ctR (some (.int (nI (n_ - 1)))) ([(x_, .inr (6, [.ref (a_ 0), .ref (o 0), .ref (o 2), .ref (o 4), .ref (o 6), .ref (o 8), .ref (o 10)])), (a_ 0, .inr (4, [.int (nI ((Ss (n_ - 1)).s 2)), .int (nI ((Ss (n_ - 1)).s 3)), .int (nI ((Ss (n_ - 1)).s 4)), .int (nI ((Ss (n_ - 1)).s 0)), .int (nI ((Ss (n_ - 1)).s 6)), .ref (a_ 1), .ref (a_ 2), .ref (a_ 3), .ref (a_ 4), .ref (a_ 6)])), (a_ 1, .inl (G.2.2.1, 40, .inr (.inl ((Ss (n_ - 1)).p)))), (a_ 2, .inl (G.2.2.1, 40, .inr (.inl (Gs (n_ - 1))))), (a_ 3, .inl (G.2.1, 40, .inl (fun q9 => nI (((Ss (n_ - 1)).b) q9)))), (a_ 4, .inr (2, [.ref (a_ 5)])), (a_ 5, .inl (G.2.2.1, 6, .inr (.inl ((Ss (n_ - 1)).r)))), (a_ 6, .inr (5, [.ref (a_ 7), .int (nI ((Ss (n_ - 1)).s 1)), .int (nI ((Ss (n_ - 1)).s 5))])), (a_ 7, .inl (G.2.1, 10, .inl (fun q9 => nI (((Ss (n_ - 1)).w) q9)))), (o 0, .inr (3, [.ref (o 1), .int (nI (n_ - 1))])), (o 1, .inl (G.2.2.2, 6, .inr (.inr (.inr (.inr (fun q8 => some (ad q8 0)))))))] ++ svC G ad Ss Gs)) := ⟨_, rfl⟩
  rw [← hRR]
  have hl : lv_has ls 1 [(0, .ref x_)] := hl
  have hin3 : ∀ w ∈ u_ws RX3 TX3 2, w ∈ wsX6_undo := fun w h => List.mem_cons_of_mem _ (List.mem_append_left _ (List.mem_append_left _ (List.mem_append_left _ (List.mem_append_left _ (List.mem_append_right _ h)))))
  have hin6 : ∀ w ∈ u_ws RX6 TX6 7, w ∈ wsX6_undo := fun w h => List.mem_cons_of_mem _ (List.mem_append_left _ (List.mem_append_left _ (List.mem_append_left _ (List.mem_append_left _ (List.mem_append_left _ (List.mem_append_right _ h))))))
  refine lv_aload_n hx hb dX6_undo_0 rfl (lv_at hl 0 rfl) ?_
  refine va_get (D := G.1) (ci := 6) (v := .ref (o 0)) (C := RX6) (T := TX6) (N := 7) hx hb hts hin6 hown hK hP 0 rfl rfl 1 (by decide) (hts (.fieldLink RX6 19 "PowerTables" "saved" "LPowerTables$SavedTables;") (List.mem_of_getElem? (i := 3) rfl)) (fun _ h9 => h9) rfl dX6_undo_1 ?_
  refine va_getN (D := G.1) (ci := 3) (v := .int (nI n_)) (C := RX3) (T := TX3) (N := 2) hx hb hts hin3 hown hK hP 9 rfl rfl 1 (by decide) (va_Nw.use rfl (hNX.1 (191, "PowerTables$SavedTables", "size", "I") (List.mem_of_getElem? (i := 4) rfl))) (fun _ h9 => h9) rfl dX6_undo_4 ?_
  refine ks_if_ne (tgt := 20) hx hb dX6_undo_7 (by decide) (by omega) (fun c_7 => ?_) (fun c_7 => ?_)
  · refine lv_aload_n hx hb dX6_undo_20 rfl (lv_at hl 0 rfl) ?_
    refine va_get (D := G.1) (ci := 6) (v := .ref (o 0)) (C := RX6) (T := TX6) (N := 7) hx hb hts hin6 hown hK hP 0 rfl rfl 1 (by decide) (hts (.fieldLink RX6 19 "PowerTables" "saved" "LPowerTables$SavedTables;") (List.mem_of_getElem? (i := 3) rfl)) (fun _ h9 => h9) rfl dX6_undo_21 ?_
    refine lv_aload_n hx hb dX6_undo_24 rfl (lv_at hl 0 rfl) ?_
    refine va_get (D := G.1) (ci := 6) (v := .ref (a_ 0)) (C := RX6) (T := TX6) (N := 7) hx hb hts hin6 hown hK hP 0 rfl rfl 0 (by decide) (hts (.fieldLink RX6 10 "PowerTables" "table" "LPowerTables$Table;") (List.mem_of_getElem? (i := 4) rfl)) (fun _ h9 => h9) rfl dX6_undo_25 ?_
    refine cp_V (wr := [(x_, .inr (6, [.ref (a_ 0), .ref (o 0), .ref (o 2), .ref (o 4), .ref (o 6), .ref (o 8), .ref (o 10)]))]) (As := [.ref (a_ 0)]) (rest := []) ⟨hx, hb, hml, hown, hts⟩ (c_X3_giveBack G l (o 0) (o 1) n_ ad Ss Gs a_ T g_ (by omega) (by omega)) (cwV 1 hts gX6_undo_X3_giveBack rfl rfl rfl (by decide +kernel) ⟨Nat.le_of_ble_eq_true rfl, Nat.le_of_ble_eq_true rfl⟩) dX6_undo_28 hK hNX hP hD hS hA hl 9 3 rfl rfl rfl (pm_t2 (wc := [(o 0, .inr (3, [.ref (o 1), .int (nI n_)])), (o 1, .inl (G.2.2.2, 6, .inr (.inr (.inr (.inr (fun q8 => some (ad q8 0))))))), (a_ 0, .inr (4, [.int (nI (T.s 2)), .int (nI (T.s 3)), .int (nI (T.s 4)), .int (nI (T.s 0)), .int (nI (T.s 6)), .ref (a_ 1), .ref (a_ 2), .ref (a_ 3), .ref (a_ 4), .ref (a_ 6)])), (a_ 1, .inl (G.2.2.1, 40, .inr (.inl (T.p)))), (a_ 2, .inl (G.2.2.1, 40, .inr (.inl (g_)))), (a_ 3, .inl (G.2.1, 40, .inl (fun q9 => nI (T.b q9)))), (a_ 4, .inr (2, [.ref (a_ 5)])), (a_ 5, .inl (G.2.2.1, 6, .inr (.inl (T.r)))), (a_ 6, .inr (5, [.ref (a_ 7), .int (nI (T.s 1)), .int (nI (T.s 5))])), (a_ 7, .inl (G.2.1, 10, .inl (fun q9 => nI (T.w q9))))]) (wr := [(x_, .inr (6, [.ref (a_ 0), .ref (o 0), .ref (o 2), .ref (o 4), .ref (o 6), .ref (o 8), .ref (o 10)]))]) (pm_pick [9, 10, 1, 2, 3, 4, 5, 6, 7, 8, 0] 11 rfl (by decide +kernel) rfl)) rfl (Nat.le_of_ble_eq_true rfl) ⟨Nat.le_of_ble_eq_true rfl, Nat.le_of_ble_eq_true rfl⟩ rfl (fun v' w' Hq lcq hR' hP hD hS => ?_)
    obtain ⟨rfl, rfl⟩ := hR'
    have hP : va_P G.1 vwCl ([(x_, .inr (6, [.ref (a_ 0), .ref (o 0), .ref (o 2), .ref (o 4), .ref (o 6), .ref (o 8), .ref (o 10)])), (a_ 0, .inr (4, [.int (nI ((Ss (n_ - 1)).s 2)), .int (nI ((Ss (n_ - 1)).s 3)), .int (nI ((Ss (n_ - 1)).s 4)), .int (nI ((Ss (n_ - 1)).s 0)), .int (nI ((Ss (n_ - 1)).s 6)), .ref (a_ 1), .ref (a_ 2), .ref (a_ 3), .ref (a_ 4), .ref (a_ 6)])), (a_ 1, .inl (G.2.2.1, 40, .inr (.inl ((Ss (n_ - 1)).p)))), (a_ 2, .inl (G.2.2.1, 40, .inr (.inl (Gs (n_ - 1))))), (a_ 3, .inl (G.2.1, 40, .inl (fun q9 => nI (((Ss (n_ - 1)).b) q9)))), (a_ 4, .inr (2, [.ref (a_ 5)])), (a_ 5, .inl (G.2.2.1, 6, .inr (.inl ((Ss (n_ - 1)).r)))), (a_ 6, .inr (5, [.ref (a_ 7), .int (nI ((Ss (n_ - 1)).s 1)), .int (nI ((Ss (n_ - 1)).s 5))])), (a_ 7, .inl (G.2.1, 10, .inl (fun q9 => nI (((Ss (n_ - 1)).w) q9)))), (o 0, .inr (3, [.ref (o 1), .int (nI (n_ - 1))])), (o 1, .inl (G.2.2.2, 6, .inr (.inr (.inr (.inr (fun q8 => some (ad q8 0)))))))] ++ svC G ad Ss Gs) _ := hP.perm (pm_t2 (wc := [(o 0, .inr (3, [.ref (o 1), .int (nI (n_ - 1))])), (o 1, .inl (G.2.2.2, 6, .inr (.inr (.inr (.inr (fun q8 => some (ad q8 0))))))), (a_ 0, .inr (4, [.int (nI ((Ss (n_ - 1)).s 2)), .int (nI ((Ss (n_ - 1)).s 3)), .int (nI ((Ss (n_ - 1)).s 4)), .int (nI ((Ss (n_ - 1)).s 0)), .int (nI ((Ss (n_ - 1)).s 6)), .ref (a_ 1), .ref (a_ 2), .ref (a_ 3), .ref (a_ 4), .ref (a_ 6)])), (a_ 1, .inl (G.2.2.1, 40, .inr (.inl ((Ss (n_ - 1)).p)))), (a_ 2, .inl (G.2.2.1, 40, .inr (.inl (Gs (n_ - 1))))), (a_ 3, .inl (G.2.1, 40, .inl (fun q9 => nI (((Ss (n_ - 1)).b) q9)))), (a_ 4, .inr (2, [.ref (a_ 5)])), (a_ 5, .inl (G.2.2.1, 6, .inr (.inl ((Ss (n_ - 1)).r)))), (a_ 6, .inr (5, [.ref (a_ 7), .int (nI ((Ss (n_ - 1)).s 1)), .int (nI ((Ss (n_ - 1)).s 5))])), (a_ 7, .inl (G.2.1, 10, .inl (fun q9 => nI (((Ss (n_ - 1)).w) q9))))]) (wr := [(x_, .inr (6, [.ref (a_ 0), .ref (o 0), .ref (o 2), .ref (o 4), .ref (o 6), .ref (o 8), .ref (o 10)]))]) (pm_pick [9, 10, 1, 2, 3, 4, 5, 6, 7, 8, 0] 11 rfl (by decide +kernel) rfl)).symm
    have hD : va_D A ([(x_, .inr (6, [.ref (a_ 0), .ref (o 0), .ref (o 2), .ref (o 4), .ref (o 6), .ref (o 8), .ref (o 10)])), (a_ 0, .inr (4, [.int (nI ((Ss (n_ - 1)).s 2)), .int (nI ((Ss (n_ - 1)).s 3)), .int (nI ((Ss (n_ - 1)).s 4)), .int (nI ((Ss (n_ - 1)).s 0)), .int (nI ((Ss (n_ - 1)).s 6)), .ref (a_ 1), .ref (a_ 2), .ref (a_ 3), .ref (a_ 4), .ref (a_ 6)])), (a_ 1, .inl (G.2.2.1, 40, .inr (.inl ((Ss (n_ - 1)).p)))), (a_ 2, .inl (G.2.2.1, 40, .inr (.inl (Gs (n_ - 1))))), (a_ 3, .inl (G.2.1, 40, .inl (fun q9 => nI (((Ss (n_ - 1)).b) q9)))), (a_ 4, .inr (2, [.ref (a_ 5)])), (a_ 5, .inl (G.2.2.1, 6, .inr (.inl ((Ss (n_ - 1)).r)))), (a_ 6, .inr (5, [.ref (a_ 7), .int (nI ((Ss (n_ - 1)).s 1)), .int (nI ((Ss (n_ - 1)).s 5))])), (a_ 7, .inl (G.2.1, 10, .inl (fun q9 => nI (((Ss (n_ - 1)).w) q9)))), (o 0, .inr (3, [.ref (o 1), .int (nI (n_ - 1))])), (o 1, .inl (G.2.2.2, 6, .inr (.inr (.inr (.inr (fun q8 => some (ad q8 0)))))))] ++ svC G ad Ss Gs) := hD.perm (pm_t2 (wc := [(o 0, .inr (3, [.ref (o 1), .int (nI (n_ - 1))])), (o 1, .inl (G.2.2.2, 6, .inr (.inr (.inr (.inr (fun q8 => some (ad q8 0))))))), (a_ 0, .inr (4, [.int (nI ((Ss (n_ - 1)).s 2)), .int (nI ((Ss (n_ - 1)).s 3)), .int (nI ((Ss (n_ - 1)).s 4)), .int (nI ((Ss (n_ - 1)).s 0)), .int (nI ((Ss (n_ - 1)).s 6)), .ref (a_ 1), .ref (a_ 2), .ref (a_ 3), .ref (a_ 4), .ref (a_ 6)])), (a_ 1, .inl (G.2.2.1, 40, .inr (.inl ((Ss (n_ - 1)).p)))), (a_ 2, .inl (G.2.2.1, 40, .inr (.inl (Gs (n_ - 1))))), (a_ 3, .inl (G.2.1, 40, .inl (fun q9 => nI (((Ss (n_ - 1)).b) q9)))), (a_ 4, .inr (2, [.ref (a_ 5)])), (a_ 5, .inl (G.2.2.1, 6, .inr (.inl ((Ss (n_ - 1)).r)))), (a_ 6, .inr (5, [.ref (a_ 7), .int (nI ((Ss (n_ - 1)).s 1)), .int (nI ((Ss (n_ - 1)).s 5))])), (a_ 7, .inl (G.2.1, 10, .inl (fun q9 => nI (((Ss (n_ - 1)).w) q9))))]) (wr := [(x_, .inr (6, [.ref (a_ 0), .ref (o 0), .ref (o 2), .ref (o 4), .ref (o 6), .ref (o 8), .ref (o 10)]))]) (pm_pick [9, 10, 1, 2, 3, 4, 5, 6, 7, 8, 0] 11 rfl (by decide +kernel) rfl)).symm
    refine lv_aload_n hx hb dX6_undo_31 rfl (lv_at hl 0 rfl) ?_
    refine va_get (D := G.1) (ci := 6) (v := .ref (o 0)) (C := RX6) (T := TX6) (N := 7) hx hb hts hin6 hown hK hP 0 rfl rfl 1 (by decide) (hts (.fieldLink RX6 19 "PowerTables" "saved" "LPowerTables$SavedTables;") (List.mem_of_getElem? (i := 3) rfl)) (fun _ h9 => h9) rfl dX6_undo_32 ?_
    refine va_getN (D := G.1) (ci := 3) (v := .int (nI (n_ - 1))) (C := RX3) (T := TX3) (N := 2) hx hb hts hin3 hown hK hP 9 rfl rfl 1 (by decide) (va_Nw.use rfl (hNX.1 (191, "PowerTables$SavedTables", "size", "I") (List.mem_of_getElem? (i := 4) rfl))) (fun _ h9 => h9) rfl dX6_undo_35 ?_
    exact cr_iret hx hb hr hlocks hK hP hD hS dX6_undo_38 (by rw [hRR]; exact ctR_i (rfl) (rfl))
  · omega
set_option maxHeartbeats 4000000 in
set_option maxRecDepth 100000 in
theorem c_X6_row (G : GG) (l : Launch) (x_ : Nat) (a_ : Nat → Nat) (o : Nat → Nat) (T : TS) (g_ : Nat → Int64) (i_ : Nat) (w_ : Nat) (ji : i_ < T.s 4) (jn : T.s 4 ≤ 40) (jw : w_ < 5) (jf_ : T.s 3 ≤ 99) (jb : ∀ k, k < 40 → T.b k ≤ 20) : Cr G l yX6_row wsX6_row ({ frames := 6, cells := 0, slots := 0, locals := 112 }) 0 0 [.ref x_, .int (nI i_), .int (nI w_)] [(x_, .inr (6, [.ref (a_ 0), .ref (o 0), .ref (o 2), .ref (o 4), .ref (o 6), .ref (o 8), .ref (o 10)])), (a_ 0, .inr (4, [.int (nI (T.s 2)), .int (nI (T.s 3)), .int (nI (T.s 4)), .int (nI (T.s 0)), .int (nI (T.s 6)), .ref (a_ 1), .ref (a_ 2), .ref (a_ 3), .ref (a_ 4), .ref (a_ 6)])), (a_ 1, .inl (G.2.2.1, 40, .inr (.inl (T.p)))), (a_ 2, .inl (G.2.2.1, 40, .inr (.inl (g_)))), (a_ 3, .inl (G.2.1, 40, .inl (fun q9 => nI (T.b q9))))] (ctR (some (.long (rowA T g_ i_ w_))) [(x_, .inr (6, [.ref (a_ 0), .ref (o 0), .ref (o 2), .ref (o 4), .ref (o 6), .ref (o 8), .ref (o 10)])), (a_ 0, .inr (4, [.int (nI (T.s 2)), .int (nI (T.s 3)), .int (nI (T.s 4)), .int (nI (T.s 0)), .int (nI (T.s 6)), .ref (a_ 1), .ref (a_ 2), .ref (a_ 3), .ref (a_ 4), .ref (a_ 6)])), (a_ 1, .inl (G.2.2.1, 40, .inr (.inl (T.p)))), (a_ 2, .inl (G.2.2.1, 40, .inr (.inl (g_)))), (a_ 3, .inl (G.2.1, 40, .inl (fun q9 => nI (T.b q9))))]) := by
  refine cr_intro (cc := cX6_row) (maxL := 3) (ret := (some .long)) (own := RX6) (by decide) rfl rfl (Nat.le_of_ble_eq_true rfl) ?_
  intro p e s m args below meth c A hx hb hr hml hts hown hlocks hnm hNX hP hK hD hA hS ls hl
  obtain ⟨RR, hRR⟩ : ∃ RR, RR = (ctR (some (.long (rowA T g_ i_ w_))) [(x_, .inr (6, [.ref (a_ 0), .ref (o 0), .ref (o 2), .ref (o 4), .ref (o 6), .ref (o 8), .ref (o 10)])), (a_ 0, .inr (4, [.int (nI (T.s 2)), .int (nI (T.s 3)), .int (nI (T.s 4)), .int (nI (T.s 0)), .int (nI (T.s 6)), .ref (a_ 1), .ref (a_ 2), .ref (a_ 3), .ref (a_ 4), .ref (a_ 6)])), (a_ 1, .inl (G.2.2.1, 40, .inr (.inl (T.p)))), (a_ 2, .inl (G.2.2.1, 40, .inr (.inl (g_)))), (a_ 3, .inl (G.2.1, 40, .inl (fun q9 => nI (T.b q9))))]) := ⟨_, rfl⟩
  rw [← hRR]
  have hl : lv_has ls 3 [(0, .ref x_), (1, .int (nI i_)), (2, .int (nI w_))] := hl
  have hin4 : ∀ w_ ∈ u_ws RX4 TX4 10, w_ ∈ wsX6_row := fun w_ h => List.mem_cons_of_mem _ (List.mem_append_left _ (List.mem_append_left _ (List.mem_append_right _ h)))
  have hin6 : ∀ w_ ∈ u_ws RX6 TX6 7, w_ ∈ wsX6_row := fun w_ h => List.mem_cons_of_mem _ (List.mem_append_left _ (List.mem_append_left _ (List.mem_append_left _ (List.mem_append_right _ h))))
  rcases (show w_ = 0 ∨ w_ = 1 ∨ w_ = 2 ∨ w_ = 3 ∨ w_ = 4 by omega) with rfl | rfl | rfl | rfl | rfl
  · refine lv_aload_n hx hb dX6_row_0 rfl (lv_at hl 0 rfl) ?_
    refine va_get (D := G.1) (ci := 6) (v := .ref (a_ 0)) (C := RX6) (T := TX6) (N := 7) hx hb hts hin6 hown hK hP 0 rfl rfl 0 (by decide) (hts (.fieldLink RX6 10 "PowerTables" "table" "LPowerTables$Table;") (List.mem_of_getElem? (i := 5) rfl)) (fun _ h9 => h9) rfl dX6_row_1 ?_
    refine lv_iload_n hx hb dX6_row_4 rfl (lv_at hl 1 rfl) ?_
    refine cr_V (wr := [(x_, .inr (6, [.ref (a_ 0), .ref (o 0), .ref (o 2), .ref (o 4), .ref (o 6), .ref (o 8), .ref (o 10)])), (a_ 1, .inl (G.2.2.1, 40, .inr (.inl (T.p)))), (a_ 2, .inl (G.2.2.1, 40, .inr (.inl (g_)))), (a_ 3, .inl (G.2.1, 40, .inl (fun q9 => nI (T.b q9))))]) (As := [.int (nI i_)]) (rest := []) ⟨hx, hb, hml, hown, hts⟩ (c_X4_hasRow G l a_ T i_ (by omega) (by omega)) (cwV 1 hts gX6_row_X4_hasRow rfl rfl rfl (by decide +kernel) ⟨Nat.le_of_ble_eq_true rfl, Nat.le_of_ble_eq_true rfl⟩) dX6_row_5 hK hNX hP hD hS hA hl 1 4 rfl rfl rfl [1] [0, 2, 3, 4] rfl rfl rfl rfl (by decide) rfl (Nat.le_of_ble_eq_true rfl) ⟨Nat.le_of_ble_eq_true rfl, Nat.le_of_ble_eq_true rfl⟩ rfl (fun v' w' Hq lcq hR' hP hD hS => ?_)
    obtain ⟨rfl, rfl⟩ := hR'
    have hP : va_P G.1 vwCl [(x_, .inr (6, [.ref (a_ 0), .ref (o 0), .ref (o 2), .ref (o 4), .ref (o 6), .ref (o 8), .ref (o 10)])), (a_ 0, .inr (4, [.int (nI (T.s 2)), .int (nI (T.s 3)), .int (nI (T.s 4)), .int (nI (T.s 0)), .int (nI (T.s 6)), .ref (a_ 1), .ref (a_ 2), .ref (a_ 3), .ref (a_ 4), .ref (a_ 6)])), (a_ 1, .inl (G.2.2.1, 40, .inr (.inl (T.p)))), (a_ 2, .inl (G.2.2.1, 40, .inr (.inl (g_)))), (a_ 3, .inl (G.2.1, 40, .inl (fun q9 => nI (T.b q9))))] _ := hP.sub [0, 4, 1, 2, 3] rfl
    have hD : va_D A [(x_, .inr (6, [.ref (a_ 0), .ref (o 0), .ref (o 2), .ref (o 4), .ref (o 6), .ref (o 8), .ref (o 10)])), (a_ 0, .inr (4, [.int (nI (T.s 2)), .int (nI (T.s 3)), .int (nI (T.s 4)), .int (nI (T.s 0)), .int (nI (T.s 6)), .ref (a_ 1), .ref (a_ 2), .ref (a_ 3), .ref (a_ 4), .ref (a_ 6)])), (a_ 1, .inl (G.2.2.1, 40, .inr (.inl (T.p)))), (a_ 2, .inl (G.2.2.1, 40, .inr (.inl (g_)))), (a_ 3, .inl (G.2.1, 40, .inl (fun q9 => nI (T.b q9))))] := hD.sub [0, 4, 1, 2, 3] rfl rfl
    refine ks_ifb_ne (tgt := 21) hx hb dX6_row_8 (by decide) (fun c_8 => ?_) (fun c_8 => ?_)
    · refine lv_iload_n hx hb dX6_row_21 rfl (lv_at hl 2 rfl) ?_
      refine ks_if_lt (tgt := 30) hx hb dX6_row_22 (by decide) (by omega) ?_
      refine lv_iload_n hx hb dX6_row_25 rfl (lv_at hl 2 rfl) ?_
      refine lv_iconst (v := nI 5) hx hb dX6_row_26 (by decide) ?_
      refine ks_icmp_lt (tgt := 40) hx hb dX6_row_27 (by decide) (by omega) (by omega) (fun c_27 => ?_) (fun c_27 => ?_)
      · refine lv_iload_n hx hb dX6_row_40 rfl (lv_at hl 2 rfl) ?_
        refine lv_tableIn (off := 31) (tgt := 72) hx hb dX6_row_41 (by decide) (by decide) (by decide +kernel) (by decide) ?_
        refine lv_aload_n hx hb dX6_row_72 rfl (lv_at hl 0 rfl) ?_
        refine va_get (D := G.1) (ci := 6) (v := .ref (a_ 0)) (C := RX6) (T := TX6) (N := 7) hx hb hts hin6 hown hK hP 0 rfl rfl 0 (by decide) (hts (.fieldLink RX6 10 "PowerTables" "table" "LPowerTables$Table;") (List.mem_of_getElem? (i := 5) rfl)) (fun _ h9 => h9) rfl dX6_row_73 ?_
        refine va_getN (D := G.1) (ci := 4) (v := .int (nI (T.s 3))) (C := RX4) (T := TX4) (N := 10) hx hb hts hin4 hown hK hP 1 rfl rfl 1 (by decide) (va_Nw.use rfl (hNX.1 (79, "PowerTables$Table", "first", "I") (List.mem_of_getElem? (i := 15) rfl))) (fun _ h9 => h9) rfl dX6_row_76 ?_
        refine lv_iload_n hx hb dX6_row_79 rfl (lv_at hl 1 rfl) ?_
        refine ks_iaddN hx hb dX6_row_80 ?_
        refine ks_i2lN hx hb dX6_row_81 (by omega) ?_
        exact cr_lret hx hb hr hlocks hK hP hD hS dX6_row_82 (by rw [hRR]; exact ctR_l (rfl) (rfl))
      · omega
    · exact absurd ji c_8
  · refine lv_aload_n hx hb dX6_row_0 rfl (lv_at hl 0 rfl) ?_
    refine va_get (D := G.1) (ci := 6) (v := .ref (a_ 0)) (C := RX6) (T := TX6) (N := 7) hx hb hts hin6 hown hK hP 0 rfl rfl 0 (by decide) (hts (.fieldLink RX6 10 "PowerTables" "table" "LPowerTables$Table;") (List.mem_of_getElem? (i := 5) rfl)) (fun _ h9 => h9) rfl dX6_row_1 ?_
    refine lv_iload_n hx hb dX6_row_4 rfl (lv_at hl 1 rfl) ?_
    refine cr_V (wr := [(x_, .inr (6, [.ref (a_ 0), .ref (o 0), .ref (o 2), .ref (o 4), .ref (o 6), .ref (o 8), .ref (o 10)])), (a_ 1, .inl (G.2.2.1, 40, .inr (.inl (T.p)))), (a_ 2, .inl (G.2.2.1, 40, .inr (.inl (g_)))), (a_ 3, .inl (G.2.1, 40, .inl (fun q9 => nI (T.b q9))))]) (As := [.int (nI i_)]) (rest := []) ⟨hx, hb, hml, hown, hts⟩ (c_X4_hasRow G l a_ T i_ (by omega) (by omega)) (cwV 1 hts gX6_row_X4_hasRow rfl rfl rfl (by decide +kernel) ⟨Nat.le_of_ble_eq_true rfl, Nat.le_of_ble_eq_true rfl⟩) dX6_row_5 hK hNX hP hD hS hA hl 1 4 rfl rfl rfl [1] [0, 2, 3, 4] rfl rfl rfl rfl (by decide) rfl (Nat.le_of_ble_eq_true rfl) ⟨Nat.le_of_ble_eq_true rfl, Nat.le_of_ble_eq_true rfl⟩ rfl (fun v' w' Hq lcq hR' hP hD hS => ?_)
    obtain ⟨rfl, rfl⟩ := hR'
    have hP : va_P G.1 vwCl [(x_, .inr (6, [.ref (a_ 0), .ref (o 0), .ref (o 2), .ref (o 4), .ref (o 6), .ref (o 8), .ref (o 10)])), (a_ 0, .inr (4, [.int (nI (T.s 2)), .int (nI (T.s 3)), .int (nI (T.s 4)), .int (nI (T.s 0)), .int (nI (T.s 6)), .ref (a_ 1), .ref (a_ 2), .ref (a_ 3), .ref (a_ 4), .ref (a_ 6)])), (a_ 1, .inl (G.2.2.1, 40, .inr (.inl (T.p)))), (a_ 2, .inl (G.2.2.1, 40, .inr (.inl (g_)))), (a_ 3, .inl (G.2.1, 40, .inl (fun q9 => nI (T.b q9))))] _ := hP.sub [0, 4, 1, 2, 3] rfl
    have hD : va_D A [(x_, .inr (6, [.ref (a_ 0), .ref (o 0), .ref (o 2), .ref (o 4), .ref (o 6), .ref (o 8), .ref (o 10)])), (a_ 0, .inr (4, [.int (nI (T.s 2)), .int (nI (T.s 3)), .int (nI (T.s 4)), .int (nI (T.s 0)), .int (nI (T.s 6)), .ref (a_ 1), .ref (a_ 2), .ref (a_ 3), .ref (a_ 4), .ref (a_ 6)])), (a_ 1, .inl (G.2.2.1, 40, .inr (.inl (T.p)))), (a_ 2, .inl (G.2.2.1, 40, .inr (.inl (g_)))), (a_ 3, .inl (G.2.1, 40, .inl (fun q9 => nI (T.b q9))))] := hD.sub [0, 4, 1, 2, 3] rfl rfl
    refine ks_ifb_ne (tgt := 21) hx hb dX6_row_8 (by decide) (fun c_8 => ?_) (fun c_8 => ?_)
    · refine lv_iload_n hx hb dX6_row_21 rfl (lv_at hl 2 rfl) ?_
      refine ks_if_lt (tgt := 30) hx hb dX6_row_22 (by decide) (by omega) ?_
      refine lv_iload_n hx hb dX6_row_25 rfl (lv_at hl 2 rfl) ?_
      refine lv_iconst (v := nI 5) hx hb dX6_row_26 (by decide) ?_
      refine ks_icmp_lt (tgt := 40) hx hb dX6_row_27 (by decide) (by omega) (by omega) (fun c_27 => ?_) (fun c_27 => ?_)
      · refine lv_iload_n hx hb dX6_row_40 rfl (lv_at hl 2 rfl) ?_
        refine lv_tableIn (off := 42) (tgt := 83) hx hb dX6_row_41 (by decide) (by decide) (by decide +kernel) (by decide) ?_
        refine lv_aload_n hx hb dX6_row_83 rfl (lv_at hl 0 rfl) ?_
        refine va_get (D := G.1) (ci := 6) (v := .ref (a_ 0)) (C := RX6) (T := TX6) (N := 7) hx hb hts hin6 hown hK hP 0 rfl rfl 0 (by decide) (hts (.fieldLink RX6 10 "PowerTables" "table" "LPowerTables$Table;") (List.mem_of_getElem? (i := 5) rfl)) (fun _ h9 => h9) rfl dX6_row_84 ?_
        refine va_getN (D := G.1) (ci := 4) (v := .ref (a_ 1)) (C := RX4) (T := TX4) (N := 10) hx hb hts hin4 hown hK hP 1 rfl rfl 5 (by decide) (va_Nw.use rfl (hNX.1 (201, "PowerTables$Table", "printed", "[J") (List.mem_of_getElem? (i := 5) rfl))) (fun _ h9 => h9) rfl dX6_row_87 ?_
        refine lv_iload_n hx hb dX6_row_90 rfl (lv_at hl 1 rfl) ?_
        refine ks_lald hx hb hK hP 2 rfl (by omega) (by decide) dX6_row_91 ?_
        exact cr_lret hx hb hr hlocks hK hP hD hS dX6_row_92 (by rw [hRR]; exact ctR_l (rfl) (rfl))
      · omega
    · exact absurd ji c_8
  · refine lv_aload_n hx hb dX6_row_0 rfl (lv_at hl 0 rfl) ?_
    refine va_get (D := G.1) (ci := 6) (v := .ref (a_ 0)) (C := RX6) (T := TX6) (N := 7) hx hb hts hin6 hown hK hP 0 rfl rfl 0 (by decide) (hts (.fieldLink RX6 10 "PowerTables" "table" "LPowerTables$Table;") (List.mem_of_getElem? (i := 5) rfl)) (fun _ h9 => h9) rfl dX6_row_1 ?_
    refine lv_iload_n hx hb dX6_row_4 rfl (lv_at hl 1 rfl) ?_
    refine cr_V (wr := [(x_, .inr (6, [.ref (a_ 0), .ref (o 0), .ref (o 2), .ref (o 4), .ref (o 6), .ref (o 8), .ref (o 10)])), (a_ 1, .inl (G.2.2.1, 40, .inr (.inl (T.p)))), (a_ 2, .inl (G.2.2.1, 40, .inr (.inl (g_)))), (a_ 3, .inl (G.2.1, 40, .inl (fun q9 => nI (T.b q9))))]) (As := [.int (nI i_)]) (rest := []) ⟨hx, hb, hml, hown, hts⟩ (c_X4_hasRow G l a_ T i_ (by omega) (by omega)) (cwV 1 hts gX6_row_X4_hasRow rfl rfl rfl (by decide +kernel) ⟨Nat.le_of_ble_eq_true rfl, Nat.le_of_ble_eq_true rfl⟩) dX6_row_5 hK hNX hP hD hS hA hl 1 4 rfl rfl rfl [1] [0, 2, 3, 4] rfl rfl rfl rfl (by decide) rfl (Nat.le_of_ble_eq_true rfl) ⟨Nat.le_of_ble_eq_true rfl, Nat.le_of_ble_eq_true rfl⟩ rfl (fun v' w' Hq lcq hR' hP hD hS => ?_)
    obtain ⟨rfl, rfl⟩ := hR'
    have hP : va_P G.1 vwCl [(x_, .inr (6, [.ref (a_ 0), .ref (o 0), .ref (o 2), .ref (o 4), .ref (o 6), .ref (o 8), .ref (o 10)])), (a_ 0, .inr (4, [.int (nI (T.s 2)), .int (nI (T.s 3)), .int (nI (T.s 4)), .int (nI (T.s 0)), .int (nI (T.s 6)), .ref (a_ 1), .ref (a_ 2), .ref (a_ 3), .ref (a_ 4), .ref (a_ 6)])), (a_ 1, .inl (G.2.2.1, 40, .inr (.inl (T.p)))), (a_ 2, .inl (G.2.2.1, 40, .inr (.inl (g_)))), (a_ 3, .inl (G.2.1, 40, .inl (fun q9 => nI (T.b q9))))] _ := hP.sub [0, 4, 1, 2, 3] rfl
    have hD : va_D A [(x_, .inr (6, [.ref (a_ 0), .ref (o 0), .ref (o 2), .ref (o 4), .ref (o 6), .ref (o 8), .ref (o 10)])), (a_ 0, .inr (4, [.int (nI (T.s 2)), .int (nI (T.s 3)), .int (nI (T.s 4)), .int (nI (T.s 0)), .int (nI (T.s 6)), .ref (a_ 1), .ref (a_ 2), .ref (a_ 3), .ref (a_ 4), .ref (a_ 6)])), (a_ 1, .inl (G.2.2.1, 40, .inr (.inl (T.p)))), (a_ 2, .inl (G.2.2.1, 40, .inr (.inl (g_)))), (a_ 3, .inl (G.2.1, 40, .inl (fun q9 => nI (T.b q9))))] := hD.sub [0, 4, 1, 2, 3] rfl rfl
    refine ks_ifb_ne (tgt := 21) hx hb dX6_row_8 (by decide) (fun c_8 => ?_) (fun c_8 => ?_)
    · refine lv_iload_n hx hb dX6_row_21 rfl (lv_at hl 2 rfl) ?_
      refine ks_if_lt (tgt := 30) hx hb dX6_row_22 (by decide) (by omega) ?_
      refine lv_iload_n hx hb dX6_row_25 rfl (lv_at hl 2 rfl) ?_
      refine lv_iconst (v := nI 5) hx hb dX6_row_26 (by decide) ?_
      refine ks_icmp_lt (tgt := 40) hx hb dX6_row_27 (by decide) (by omega) (by omega) (fun c_27 => ?_) (fun c_27 => ?_)
      · refine lv_iload_n hx hb dX6_row_40 rfl (lv_at hl 2 rfl) ?_
        refine lv_tableIn (off := 52) (tgt := 93) hx hb dX6_row_41 (by decide) (by decide) (by decide +kernel) (by decide) ?_
        refine lv_aload_n hx hb dX6_row_93 rfl (lv_at hl 0 rfl) ?_
        refine va_get (D := G.1) (ci := 6) (v := .ref (a_ 0)) (C := RX6) (T := TX6) (N := 7) hx hb hts hin6 hown hK hP 0 rfl rfl 0 (by decide) (hts (.fieldLink RX6 10 "PowerTables" "table" "LPowerTables$Table;") (List.mem_of_getElem? (i := 5) rfl)) (fun _ h9 => h9) rfl dX6_row_94 ?_
        refine va_getN (D := G.1) (ci := 4) (v := .ref (a_ 2)) (C := RX4) (T := TX4) (N := 10) hx hb hts hin4 hown hK hP 1 rfl rfl 6 (by decide) (va_Nw.use rfl (hNX.1 (205, "PowerTables$Table", "right", "[J") (List.mem_of_getElem? (i := 6) rfl))) (fun _ h9 => h9) rfl dX6_row_97 ?_
        refine lv_iload_n hx hb dX6_row_100 rfl (lv_at hl 1 rfl) ?_
        refine ks_lald hx hb hK hP 3 rfl (by omega) (by decide) dX6_row_101 ?_
        exact cr_lret hx hb hr hlocks hK hP hD hS dX6_row_102 (by rw [hRR]; exact ctR_l (rfl) (rfl))
      · omega
    · exact absurd ji c_8
  · refine lv_aload_n hx hb dX6_row_0 rfl (lv_at hl 0 rfl) ?_
    refine va_get (D := G.1) (ci := 6) (v := .ref (a_ 0)) (C := RX6) (T := TX6) (N := 7) hx hb hts hin6 hown hK hP 0 rfl rfl 0 (by decide) (hts (.fieldLink RX6 10 "PowerTables" "table" "LPowerTables$Table;") (List.mem_of_getElem? (i := 5) rfl)) (fun _ h9 => h9) rfl dX6_row_1 ?_
    refine lv_iload_n hx hb dX6_row_4 rfl (lv_at hl 1 rfl) ?_
    refine cr_V (wr := [(x_, .inr (6, [.ref (a_ 0), .ref (o 0), .ref (o 2), .ref (o 4), .ref (o 6), .ref (o 8), .ref (o 10)])), (a_ 1, .inl (G.2.2.1, 40, .inr (.inl (T.p)))), (a_ 2, .inl (G.2.2.1, 40, .inr (.inl (g_)))), (a_ 3, .inl (G.2.1, 40, .inl (fun q9 => nI (T.b q9))))]) (As := [.int (nI i_)]) (rest := []) ⟨hx, hb, hml, hown, hts⟩ (c_X4_hasRow G l a_ T i_ (by omega) (by omega)) (cwV 1 hts gX6_row_X4_hasRow rfl rfl rfl (by decide +kernel) ⟨Nat.le_of_ble_eq_true rfl, Nat.le_of_ble_eq_true rfl⟩) dX6_row_5 hK hNX hP hD hS hA hl 1 4 rfl rfl rfl [1] [0, 2, 3, 4] rfl rfl rfl rfl (by decide) rfl (Nat.le_of_ble_eq_true rfl) ⟨Nat.le_of_ble_eq_true rfl, Nat.le_of_ble_eq_true rfl⟩ rfl (fun v' w' Hq lcq hR' hP hD hS => ?_)
    obtain ⟨rfl, rfl⟩ := hR'
    have hP : va_P G.1 vwCl [(x_, .inr (6, [.ref (a_ 0), .ref (o 0), .ref (o 2), .ref (o 4), .ref (o 6), .ref (o 8), .ref (o 10)])), (a_ 0, .inr (4, [.int (nI (T.s 2)), .int (nI (T.s 3)), .int (nI (T.s 4)), .int (nI (T.s 0)), .int (nI (T.s 6)), .ref (a_ 1), .ref (a_ 2), .ref (a_ 3), .ref (a_ 4), .ref (a_ 6)])), (a_ 1, .inl (G.2.2.1, 40, .inr (.inl (T.p)))), (a_ 2, .inl (G.2.2.1, 40, .inr (.inl (g_)))), (a_ 3, .inl (G.2.1, 40, .inl (fun q9 => nI (T.b q9))))] _ := hP.sub [0, 4, 1, 2, 3] rfl
    have hD : va_D A [(x_, .inr (6, [.ref (a_ 0), .ref (o 0), .ref (o 2), .ref (o 4), .ref (o 6), .ref (o 8), .ref (o 10)])), (a_ 0, .inr (4, [.int (nI (T.s 2)), .int (nI (T.s 3)), .int (nI (T.s 4)), .int (nI (T.s 0)), .int (nI (T.s 6)), .ref (a_ 1), .ref (a_ 2), .ref (a_ 3), .ref (a_ 4), .ref (a_ 6)])), (a_ 1, .inl (G.2.2.1, 40, .inr (.inl (T.p)))), (a_ 2, .inl (G.2.2.1, 40, .inr (.inl (g_)))), (a_ 3, .inl (G.2.1, 40, .inl (fun q9 => nI (T.b q9))))] := hD.sub [0, 4, 1, 2, 3] rfl rfl
    refine ks_ifb_ne (tgt := 21) hx hb dX6_row_8 (by decide) (fun c_8 => ?_) (fun c_8 => ?_)
    · refine lv_iload_n hx hb dX6_row_21 rfl (lv_at hl 2 rfl) ?_
      refine ks_if_lt (tgt := 30) hx hb dX6_row_22 (by decide) (by omega) ?_
      refine lv_iload_n hx hb dX6_row_25 rfl (lv_at hl 2 rfl) ?_
      refine lv_iconst (v := nI 5) hx hb dX6_row_26 (by decide) ?_
      refine ks_icmp_lt (tgt := 40) hx hb dX6_row_27 (by decide) (by omega) (by omega) (fun c_27 => ?_) (fun c_27 => ?_)
      · refine lv_iload_n hx hb dX6_row_40 rfl (lv_at hl 2 rfl) ?_
        refine lv_tableIn (off := 62) (tgt := 103) hx hb dX6_row_41 (by decide) (by decide) (by decide +kernel) (by decide) ?_
        refine lv_aload_n hx hb dX6_row_103 rfl (lv_at hl 0 rfl) ?_
        refine va_get (D := G.1) (ci := 6) (v := .ref (a_ 0)) (C := RX6) (T := TX6) (N := 7) hx hb hts hin6 hown hK hP 0 rfl rfl 0 (by decide) (hts (.fieldLink RX6 10 "PowerTables" "table" "LPowerTables$Table;") (List.mem_of_getElem? (i := 5) rfl)) (fun _ h9 => h9) rfl dX6_row_104 ?_
        refine lv_iload_n hx hb dX6_row_107 rfl (lv_at hl 1 rfl) ?_
        refine cr_V (wr := [(x_, .inr (6, [.ref (a_ 0), .ref (o 0), .ref (o 2), .ref (o 4), .ref (o 6), .ref (o 8), .ref (o 10)])), (a_ 3, .inl (G.2.1, 40, .inl (fun q9 => nI (T.b q9))))]) (As := [.int (nI i_)]) (rest := []) ⟨hx, hb, hml, hown, hts⟩ (c_X4_error G l a_ T g_ i_ (by omega)) (cwV 1 hts gX6_row_X4_error rfl rfl rfl (by decide +kernel) ⟨Nat.le_of_ble_eq_true rfl, Nat.le_of_ble_eq_true rfl⟩) dX6_row_108 hK hNX hP hD hS hA hl 1 4 rfl rfl rfl [1, 2, 3] [0, 4] rfl rfl rfl rfl (by decide) rfl (Nat.le_of_ble_eq_true rfl) ⟨Nat.le_of_ble_eq_true rfl, Nat.le_of_ble_eq_true rfl⟩ rfl (fun v' w' Hq lcq hR' hP hD hS => ?_)
        obtain ⟨rfl, rfl⟩ := hR'
        have hP : va_P G.1 vwCl [(x_, .inr (6, [.ref (a_ 0), .ref (o 0), .ref (o 2), .ref (o 4), .ref (o 6), .ref (o 8), .ref (o 10)])), (a_ 0, .inr (4, [.int (nI (T.s 2)), .int (nI (T.s 3)), .int (nI (T.s 4)), .int (nI (T.s 0)), .int (nI (T.s 6)), .ref (a_ 1), .ref (a_ 2), .ref (a_ 3), .ref (a_ 4), .ref (a_ 6)])), (a_ 1, .inl (G.2.2.1, 40, .inr (.inl (T.p)))), (a_ 2, .inl (G.2.2.1, 40, .inr (.inl (g_)))), (a_ 3, .inl (G.2.1, 40, .inl (fun q9 => nI (T.b q9))))] _ := hP.sub [0, 2, 3, 4, 1] rfl
        have hD : va_D A [(x_, .inr (6, [.ref (a_ 0), .ref (o 0), .ref (o 2), .ref (o 4), .ref (o 6), .ref (o 8), .ref (o 10)])), (a_ 0, .inr (4, [.int (nI (T.s 2)), .int (nI (T.s 3)), .int (nI (T.s 4)), .int (nI (T.s 0)), .int (nI (T.s 6)), .ref (a_ 1), .ref (a_ 2), .ref (a_ 3), .ref (a_ 4), .ref (a_ 6)])), (a_ 1, .inl (G.2.2.1, 40, .inr (.inl (T.p)))), (a_ 2, .inl (G.2.2.1, 40, .inr (.inl (g_)))), (a_ 3, .inl (G.2.1, 40, .inl (fun q9 => nI (T.b q9))))] := hD.sub [0, 2, 3, 4, 1] rfl rfl
        exact cr_lret hx hb hr hlocks hK hP hD hS dX6_row_111 (by rw [hRR]; exact ctR_l (rfl) (rfl))
      · omega
    · exact absurd ji c_8
  · refine lv_aload_n hx hb dX6_row_0 rfl (lv_at hl 0 rfl) ?_
    refine va_get (D := G.1) (ci := 6) (v := .ref (a_ 0)) (C := RX6) (T := TX6) (N := 7) hx hb hts hin6 hown hK hP 0 rfl rfl 0 (by decide) (hts (.fieldLink RX6 10 "PowerTables" "table" "LPowerTables$Table;") (List.mem_of_getElem? (i := 5) rfl)) (fun _ h9 => h9) rfl dX6_row_1 ?_
    refine lv_iload_n hx hb dX6_row_4 rfl (lv_at hl 1 rfl) ?_
    refine cr_V (wr := [(x_, .inr (6, [.ref (a_ 0), .ref (o 0), .ref (o 2), .ref (o 4), .ref (o 6), .ref (o 8), .ref (o 10)])), (a_ 1, .inl (G.2.2.1, 40, .inr (.inl (T.p)))), (a_ 2, .inl (G.2.2.1, 40, .inr (.inl (g_)))), (a_ 3, .inl (G.2.1, 40, .inl (fun q9 => nI (T.b q9))))]) (As := [.int (nI i_)]) (rest := []) ⟨hx, hb, hml, hown, hts⟩ (c_X4_hasRow G l a_ T i_ (by omega) (by omega)) (cwV 1 hts gX6_row_X4_hasRow rfl rfl rfl (by decide +kernel) ⟨Nat.le_of_ble_eq_true rfl, Nat.le_of_ble_eq_true rfl⟩) dX6_row_5 hK hNX hP hD hS hA hl 1 4 rfl rfl rfl [1] [0, 2, 3, 4] rfl rfl rfl rfl (by decide) rfl (Nat.le_of_ble_eq_true rfl) ⟨Nat.le_of_ble_eq_true rfl, Nat.le_of_ble_eq_true rfl⟩ rfl (fun v' w' Hq lcq hR' hP hD hS => ?_)
    obtain ⟨rfl, rfl⟩ := hR'
    have hP : va_P G.1 vwCl [(x_, .inr (6, [.ref (a_ 0), .ref (o 0), .ref (o 2), .ref (o 4), .ref (o 6), .ref (o 8), .ref (o 10)])), (a_ 0, .inr (4, [.int (nI (T.s 2)), .int (nI (T.s 3)), .int (nI (T.s 4)), .int (nI (T.s 0)), .int (nI (T.s 6)), .ref (a_ 1), .ref (a_ 2), .ref (a_ 3), .ref (a_ 4), .ref (a_ 6)])), (a_ 1, .inl (G.2.2.1, 40, .inr (.inl (T.p)))), (a_ 2, .inl (G.2.2.1, 40, .inr (.inl (g_)))), (a_ 3, .inl (G.2.1, 40, .inl (fun q9 => nI (T.b q9))))] _ := hP.sub [0, 4, 1, 2, 3] rfl
    have hD : va_D A [(x_, .inr (6, [.ref (a_ 0), .ref (o 0), .ref (o 2), .ref (o 4), .ref (o 6), .ref (o 8), .ref (o 10)])), (a_ 0, .inr (4, [.int (nI (T.s 2)), .int (nI (T.s 3)), .int (nI (T.s 4)), .int (nI (T.s 0)), .int (nI (T.s 6)), .ref (a_ 1), .ref (a_ 2), .ref (a_ 3), .ref (a_ 4), .ref (a_ 6)])), (a_ 1, .inl (G.2.2.1, 40, .inr (.inl (T.p)))), (a_ 2, .inl (G.2.2.1, 40, .inr (.inl (g_)))), (a_ 3, .inl (G.2.1, 40, .inl (fun q9 => nI (T.b q9))))] := hD.sub [0, 4, 1, 2, 3] rfl rfl
    refine ks_ifb_ne (tgt := 21) hx hb dX6_row_8 (by decide) (fun c_8 => ?_) (fun c_8 => ?_)
    · refine lv_iload_n hx hb dX6_row_21 rfl (lv_at hl 2 rfl) ?_
      refine ks_if_lt (tgt := 30) hx hb dX6_row_22 (by decide) (by omega) ?_
      refine lv_iload_n hx hb dX6_row_25 rfl (lv_at hl 2 rfl) ?_
      refine lv_iconst (v := nI 5) hx hb dX6_row_26 (by decide) ?_
      refine ks_icmp_lt (tgt := 40) hx hb dX6_row_27 (by decide) (by omega) (by omega) (fun c_27 => ?_) (fun c_27 => ?_)
      · refine lv_iload_n hx hb dX6_row_40 rfl (lv_at hl 2 rfl) ?_
        refine lv_tableOut (tgt := 112) hx hb dX6_row_41 (by decide) (by decide) ?_
        refine lv_aload_n hx hb dX6_row_112 rfl (lv_at hl 0 rfl) ?_
        refine va_get (D := G.1) (ci := 6) (v := .ref (a_ 0)) (C := RX6) (T := TX6) (N := 7) hx hb hts hin6 hown hK hP 0 rfl rfl 0 (by decide) (hts (.fieldLink RX6 10 "PowerTables" "table" "LPowerTables$Table;") (List.mem_of_getElem? (i := 5) rfl)) (fun _ h9 => h9) rfl dX6_row_113 ?_
        refine va_getN (D := G.1) (ci := 4) (v := .ref (a_ 3)) (C := RX4) (T := TX4) (N := 10) hx hb hts hin4 hown hK hP 1 rfl rfl 7 (by decide) (va_Nw.use rfl (hNX.1 (211, "PowerTables$Table", "blurred", "[I") (List.mem_of_getElem? (i := 7) rfl))) (fun _ h9 => h9) rfl dX6_row_116 ?_
        refine lv_iload_n hx hb dX6_row_119 rfl (lv_at hl 1 rfl) ?_
        refine ks_iald hx hb hK hP 4 rfl (by omega) (by decide) dX6_row_120 ?_
        refine ks_i2lN hx hb dX6_row_121 (Nat.lt_of_le_of_lt (jb i_ (by omega)) (by decide)) ?_
        exact cr_lret hx hb hr hlocks hK hP hD hS dX6_row_122 (by rw [hRR]; exact ctR_l (rfl) (rfl))
      · omega
    · exact absurd ji c_8
set_option maxHeartbeats 4000000 in
set_option maxRecDepth 100000 in
theorem c_X6_register__0 (G : GG) (l : Launch) (x_ : Nat) (a_ : Nat → Nat) (o : Nat → Nat) (T : TS) (j_ : Nat) (jj : j_ < 6) : Cr G l yX6_register wsX6_register ({ frames := 6, cells := 0, slots := 0, locals := 112 }) 0 0 [.ref x_, .int (nI j_), .int (nI 0)] [(x_, .inr (6, [.ref (a_ 0), .ref (o 0), .ref (o 2), .ref (o 4), .ref (o 6), .ref (o 8), .ref (o 10)])), (a_ 0, .inr (4, [.int (nI (T.s 2)), .int (nI (T.s 3)), .int (nI (T.s 4)), .int (nI (T.s 0)), .int (nI (T.s 6)), .ref (a_ 1), .ref (a_ 2), .ref (a_ 3), .ref (a_ 4), .ref (a_ 6)])), (a_ 4, .inr (2, [.ref (a_ 5)])), (a_ 5, .inl (G.2.2.1, 6, .inr (.inl (T.r))))] (ctR (some (.long (T.r j_))) [(x_, .inr (6, [.ref (a_ 0), .ref (o 0), .ref (o 2), .ref (o 4), .ref (o 6), .ref (o 8), .ref (o 10)])), (a_ 0, .inr (4, [.int (nI (T.s 2)), .int (nI (T.s 3)), .int (nI (T.s 4)), .int (nI (T.s 0)), .int (nI (T.s 6)), .ref (a_ 1), .ref (a_ 2), .ref (a_ 3), .ref (a_ 4), .ref (a_ 6)])), (a_ 4, .inr (2, [.ref (a_ 5)])), (a_ 5, .inl (G.2.2.1, 6, .inr (.inl (T.r))))]) := by
  refine cr_intro (cc := cX6_register) (maxL := 3) (ret := (some .long)) (own := RX6) (by decide) rfl rfl (Nat.le_of_ble_eq_true rfl) ?_
  intro p e s m args below meth c A hx hb hr hml hts hown hlocks hnm hNX hP hK hD hA hS ls hl
  obtain ⟨RR, hRR⟩ : ∃ RR, RR = (ctR (some (.long (T.r j_))) [(x_, .inr (6, [.ref (a_ 0), .ref (o 0), .ref (o 2), .ref (o 4), .ref (o 6), .ref (o 8), .ref (o 10)])), (a_ 0, .inr (4, [.int (nI (T.s 2)), .int (nI (T.s 3)), .int (nI (T.s 4)), .int (nI (T.s 0)), .int (nI (T.s 6)), .ref (a_ 1), .ref (a_ 2), .ref (a_ 3), .ref (a_ 4), .ref (a_ 6)])), (a_ 4, .inr (2, [.ref (a_ 5)])), (a_ 5, .inl (G.2.2.1, 6, .inr (.inl (T.r))))]) := ⟨_, rfl⟩
  rw [← hRR]
  have hl : lv_has ls 3 [(0, .ref x_), (1, .int (nI j_)), (2, .int (nI 0))] := hl
  have hin2 : ∀ w ∈ u_ws RX2 TX2 1, w ∈ wsX6_register := fun w h => List.mem_cons_of_mem _ (List.mem_append_left _ (List.mem_append_left _ (List.mem_append_right _ h)))
  have hin4 : ∀ w ∈ u_ws RX4 TX4 10, w ∈ wsX6_register := fun w h => List.mem_cons_of_mem _ (List.mem_append_left _ (List.mem_append_left _ (List.mem_append_left _ (List.mem_append_right _ h))))
  have hin6 : ∀ w ∈ u_ws RX6 TX6 7, w ∈ wsX6_register := fun w h => List.mem_cons_of_mem _ (List.mem_append_left _ (List.mem_append_left _ (List.mem_append_left _ (List.mem_append_left _ (List.mem_append_right _ h)))))
  refine lv_iload_n hx hb dX6_register_0 rfl (lv_at hl 1 rfl) ?_
  refine cr_S (wr := [(x_, .inr (6, [.ref (a_ 0), .ref (o 0), .ref (o 2), .ref (o 4), .ref (o 6), .ref (o 8), .ref (o 10)])), (a_ 0, .inr (4, [.int (nI (T.s 2)), .int (nI (T.s 3)), .int (nI (T.s 4)), .int (nI (T.s 0)), .int (nI (T.s 6)), .ref (a_ 1), .ref (a_ 2), .ref (a_ 3), .ref (a_ 4), .ref (a_ 6)])), (a_ 4, .inr (2, [.ref (a_ 5)])), (a_ 5, .inl (G.2.2.1, 6, .inr (.inl (T.r))))]) (As := [.int (nI j_)]) (rest := []) ⟨hx, hb, hml, hown, hts⟩ (c_X6_isRegister G l (nI j_) ) (va_cwS 1 hts gX6_register_X6_isRegister rfl rfl rfl (by decide +kernel) ⟨Nat.le_of_ble_eq_true rfl, Nat.le_of_ble_eq_true rfl⟩) dX6_register_1 hK hNX hP hD hS hA hl [] [0, 1, 2, 3] rfl rfl rfl rfl (by decide) rfl (Nat.le_of_ble_eq_true rfl) ⟨Nat.le_of_ble_eq_true rfl, Nat.le_of_ble_eq_true rfl⟩ rfl (fun v' w' Hq lcq hR' hP hD hS => ?_)
  obtain ⟨rfl, rfl⟩ := hR'
  have hP : va_P G.1 vwCl [(x_, .inr (6, [.ref (a_ 0), .ref (o 0), .ref (o 2), .ref (o 4), .ref (o 6), .ref (o 8), .ref (o 10)])), (a_ 0, .inr (4, [.int (nI (T.s 2)), .int (nI (T.s 3)), .int (nI (T.s 4)), .int (nI (T.s 0)), .int (nI (T.s 6)), .ref (a_ 1), .ref (a_ 2), .ref (a_ 3), .ref (a_ 4), .ref (a_ 6)])), (a_ 4, .inr (2, [.ref (a_ 5)])), (a_ 5, .inl (G.2.2.1, 6, .inr (.inl (T.r))))] _ := hP.sub [0, 1, 2, 3] rfl
  have hD : va_D A [(x_, .inr (6, [.ref (a_ 0), .ref (o 0), .ref (o 2), .ref (o 4), .ref (o 6), .ref (o 8), .ref (o 10)])), (a_ 0, .inr (4, [.int (nI (T.s 2)), .int (nI (T.s 3)), .int (nI (T.s 4)), .int (nI (T.s 0)), .int (nI (T.s 6)), .ref (a_ 1), .ref (a_ 2), .ref (a_ 3), .ref (a_ 4), .ref (a_ 6)])), (a_ 4, .inr (2, [.ref (a_ 5)])), (a_ 5, .inl (G.2.2.1, 6, .inr (.inl (T.r))))] := hD.sub [0, 1, 2, 3] rfl rfl
  refine ks_ifb_ne (tgt := 17) hx hb dX6_register_4 (by decide) (fun c_4 => ?_) (fun c_4 => ?_)
  · refine lv_iload_n hx hb dX6_register_17 rfl (lv_at hl 2 rfl) ?_
    refine ks_if_ne (tgt := 34) hx hb dX6_register_18 (by decide) (by omega) (fun c_18 => ?_) (fun c_18 => ?_)
    · omega
    · refine lv_aload_n hx hb dX6_register_21 rfl (lv_at hl 0 rfl) ?_
      refine va_get (D := G.1) (ci := 6) (v := .ref (a_ 0)) (C := RX6) (T := TX6) (N := 7) hx hb hts hin6 hown hK hP 0 rfl rfl 0 (by decide) (hts (.fieldLink RX6 10 "PowerTables" "table" "LPowerTables$Table;") (List.mem_of_getElem? (i := 3) rfl)) (fun _ h9 => h9) rfl dX6_register_22 ?_
      refine va_getN (D := G.1) (ci := 4) (v := .ref (a_ 4)) (C := RX4) (T := TX4) (N := 10) hx hb hts hin4 hown hK hP 1 rfl rfl 8 (by decide) (va_Nw.use rfl (hNX.1 (58, "PowerTables$Table", "registers", "LPowerTables$Registers;") (List.mem_of_getElem? (i := 13) rfl))) (fun _ h9 => h9) rfl dX6_register_25 ?_
      refine va_getN (D := G.1) (ci := 2) (v := .ref (a_ 5)) (C := RX2) (T := TX2) (N := 1) hx hb hts hin2 hown hK hP 2 rfl rfl 0 (by decide) (va_Nw.use rfl (hNX.1 (215, "PowerTables$Registers", "numbers", "[J") (List.mem_of_getElem? (i := 8) rfl))) (fun _ h9 => h9) rfl dX6_register_28 ?_
      refine lv_iload_n hx hb dX6_register_31 rfl (lv_at hl 1 rfl) ?_
      refine ks_lald hx hb hK hP 3 rfl (by omega) (by decide) dX6_register_32 ?_
      exact cr_lret hx hb hr hlocks hK hP hD hS dX6_register_33 (by rw [hRR]; exact ctR_l (rfl) (rfl))
  · exact absurd ⟨nI_pos (by omega), nI_ge (by omega) (by decide)⟩ c_4
set_option maxHeartbeats 4000000 in
set_option maxRecDepth 100000 in
theorem c_X6_register__1 (G : GG) (l : Launch) (x_ : Nat) (a_ : Nat → Nat) (o : Nat → Nat) (T : TS) (j_ : Nat) (f_ : Nat → Int64) (dn : Nat) (rr : Nat → Int64) (jj : j_ < 6) (jf_ : T.s 3 ≤ 99) (jp : T.s 2 ≤ 5) (jn4 : T.s 4 ≤ 40) : Cr G l yX6_register wsX6_register ({ frames := 6, cells := 0, slots := 0, locals := 112 }) 0 0 [.ref x_, .int (nI j_), .int (nI 1)] [(x_, .inr (6, [.ref (a_ 0), .ref (o 0), .ref (o 2), .ref (o 4), .ref (o 6), .ref (o 8), .ref (o 10)])), (a_ 0, .inr (4, [.int (nI (T.s 2)), .int (nI (T.s 3)), .int (nI (T.s 4)), .int (nI (T.s 0)), .int (nI (T.s 6)), .ref (a_ 1), .ref (a_ 2), .ref (a_ 3), .ref (a_ 4), .ref (a_ 6)])), (o 4, .inr (0, [.ref (o 5), .int (nI dn)])), (o 5, .inl (G.2.2.1, 40, .inr (.inl (f_)))), (o 6, .inr (2, [.ref (o 7)])), (o 7, .inl (G.2.2.1, 6, .inr (.inl (rr))))] (fun (vv1 : Option Value) (ww1 : va_W) => ∃ (fz : Nat → Int64) (nz : Nat), vv1 = (some (.long (rgt (T.s 2) (T.s 3 + T.s 4) j_))) ∧ ww1 = [(x_, .inr (6, [.ref (a_ 0), .ref (o 0), .ref (o 2), .ref (o 4), .ref (o 6), .ref (o 8), .ref (o 10)])), (a_ 0, .inr (4, [.int (nI (T.s 2)), .int (nI (T.s 3)), .int (nI (T.s 4)), .int (nI (T.s 0)), .int (nI (T.s 6)), .ref (a_ 1), .ref (a_ 2), .ref (a_ 3), .ref (a_ 4), .ref (a_ 6)])), (o 4, .inr (0, [.ref (o 5), .int (nI nz)])), (o 5, .inl (G.2.2.1, 40, .inr (.inl (fz)))), (o 6, .inr (2, [.ref (o 7)])), (o 7, .inl (G.2.2.1, 6, .inr (.inl (rgt (T.s 2) (T.s 3 + T.s 4)))))]) := by
  refine cr_intro (cc := cX6_register) (maxL := 3) (ret := (some .long)) (own := RX6) (by decide) rfl rfl (Nat.le_of_ble_eq_true rfl) ?_
  intro p e s m args below meth c A hx hb hr hml hts hown hlocks hnm hNX hP hK hD hA hS ls hl
  obtain ⟨RR, hRR⟩ : ∃ RR, RR = (fun (vv1 : Option Value) (ww1 : va_W) => ∃ (fz : Nat → Int64) (nz : Nat), vv1 = (some (.long (rgt (T.s 2) (T.s 3 + T.s 4) j_))) ∧ ww1 = [(x_, .inr (6, [.ref (a_ 0), .ref (o 0), .ref (o 2), .ref (o 4), .ref (o 6), .ref (o 8), .ref (o 10)])), (a_ 0, .inr (4, [.int (nI (T.s 2)), .int (nI (T.s 3)), .int (nI (T.s 4)), .int (nI (T.s 0)), .int (nI (T.s 6)), .ref (a_ 1), .ref (a_ 2), .ref (a_ 3), .ref (a_ 4), .ref (a_ 6)])), (o 4, .inr (0, [.ref (o 5), .int (nI nz)])), (o 5, .inl (G.2.2.1, 40, .inr (.inl (fz)))), (o 6, .inr (2, [.ref (o 7)])), (o 7, .inl (G.2.2.1, 6, .inr (.inl (rgt (T.s 2) (T.s 3 + T.s 4)))))]) := ⟨_, rfl⟩
  rw [← hRR]
  have hl : lv_has ls 3 [(0, .ref x_), (1, .int (nI j_)), (2, .int (nI 1))] := hl
  have hin2 : ∀ w ∈ u_ws RX2 TX2 1, w ∈ wsX6_register := fun w h => List.mem_cons_of_mem _ (List.mem_append_left _ (List.mem_append_left _ (List.mem_append_right _ h)))
  have hin6 : ∀ w ∈ u_ws RX6 TX6 7, w ∈ wsX6_register := fun w h => List.mem_cons_of_mem _ (List.mem_append_left _ (List.mem_append_left _ (List.mem_append_left _ (List.mem_append_left _ (List.mem_append_right _ h)))))
  refine lv_iload_n hx hb dX6_register_0 rfl (lv_at hl 1 rfl) ?_
  refine cr_S (wr := [(x_, .inr (6, [.ref (a_ 0), .ref (o 0), .ref (o 2), .ref (o 4), .ref (o 6), .ref (o 8), .ref (o 10)])), (a_ 0, .inr (4, [.int (nI (T.s 2)), .int (nI (T.s 3)), .int (nI (T.s 4)), .int (nI (T.s 0)), .int (nI (T.s 6)), .ref (a_ 1), .ref (a_ 2), .ref (a_ 3), .ref (a_ 4), .ref (a_ 6)])), (o 4, .inr (0, [.ref (o 5), .int (nI dn)])), (o 5, .inl (G.2.2.1, 40, .inr (.inl (f_)))), (o 6, .inr (2, [.ref (o 7)])), (o 7, .inl (G.2.2.1, 6, .inr (.inl (rr))))]) (As := [.int (nI j_)]) (rest := []) ⟨hx, hb, hml, hown, hts⟩ (c_X6_isRegister G l (nI j_) ) (va_cwS 1 hts gX6_register_X6_isRegister rfl rfl rfl (by decide +kernel) ⟨Nat.le_of_ble_eq_true rfl, Nat.le_of_ble_eq_true rfl⟩) dX6_register_1 hK hNX hP hD hS hA hl [] [0, 1, 2, 3, 4, 5] rfl rfl rfl rfl (by decide) rfl (Nat.le_of_ble_eq_true rfl) ⟨Nat.le_of_ble_eq_true rfl, Nat.le_of_ble_eq_true rfl⟩ rfl (fun v' w' Hq lcq hR' hP hD hS => ?_)
  obtain ⟨rfl, rfl⟩ := hR'
  have hP : va_P G.1 vwCl [(x_, .inr (6, [.ref (a_ 0), .ref (o 0), .ref (o 2), .ref (o 4), .ref (o 6), .ref (o 8), .ref (o 10)])), (a_ 0, .inr (4, [.int (nI (T.s 2)), .int (nI (T.s 3)), .int (nI (T.s 4)), .int (nI (T.s 0)), .int (nI (T.s 6)), .ref (a_ 1), .ref (a_ 2), .ref (a_ 3), .ref (a_ 4), .ref (a_ 6)])), (o 4, .inr (0, [.ref (o 5), .int (nI dn)])), (o 5, .inl (G.2.2.1, 40, .inr (.inl (f_)))), (o 6, .inr (2, [.ref (o 7)])), (o 7, .inl (G.2.2.1, 6, .inr (.inl (rr))))] _ := hP.sub [0, 1, 2, 3, 4, 5] rfl
  have hD : va_D A [(x_, .inr (6, [.ref (a_ 0), .ref (o 0), .ref (o 2), .ref (o 4), .ref (o 6), .ref (o 8), .ref (o 10)])), (a_ 0, .inr (4, [.int (nI (T.s 2)), .int (nI (T.s 3)), .int (nI (T.s 4)), .int (nI (T.s 0)), .int (nI (T.s 6)), .ref (a_ 1), .ref (a_ 2), .ref (a_ 3), .ref (a_ 4), .ref (a_ 6)])), (o 4, .inr (0, [.ref (o 5), .int (nI dn)])), (o 5, .inl (G.2.2.1, 40, .inr (.inl (f_)))), (o 6, .inr (2, [.ref (o 7)])), (o 7, .inl (G.2.2.1, 6, .inr (.inl (rr))))] := hD.sub [0, 1, 2, 3, 4, 5] rfl rfl
  refine ks_ifb_ne (tgt := 17) hx hb dX6_register_4 (by decide) (fun c_4 => ?_) (fun c_4 => ?_)
  · refine lv_iload_n hx hb dX6_register_17 rfl (lv_at hl 2 rfl) ?_
    refine ks_if_ne (tgt := 34) hx hb dX6_register_18 (by decide) (by omega) (fun c_18 => ?_) (fun c_18 => ?_)
    · refine lv_aload_n hx hb dX6_register_34 rfl (lv_at hl 0 rfl) ?_
      refine lv_aload_n hx hb dX6_register_35 rfl (lv_at hl 0 rfl) ?_
      refine va_get (D := G.1) (ci := 6) (v := .ref (o 6)) (C := RX6) (T := TX6) (N := 7) hx hb hts hin6 hown hK hP 0 rfl rfl 4 (by decide) (hts (.fieldLink RX6 40 "PowerTables" "rightRegisters" "LPowerTables$Registers;") (List.mem_of_getElem? (i := 4) rfl)) (fun _ h9 => h9) rfl dX6_register_36 ?_
      refine cr_V (wr := []) (As := [.ref (o 6)]) (rest := []) ⟨hx, hb, hml, hown, hts⟩ (c_X6_putRegistersRight G l x_ a_ o (T.s 2) (T.s 3) (T.s 4) (T.s 0) (T.s 6) (o 6) (o 7) rr f_ dn (by omega) (by omega) (by omega)) (cwV 1 hts gX6_register_X6_putRegistersRight rfl rfl rfl (by decide +kernel) ⟨Nat.le_of_ble_eq_true rfl, Nat.le_of_ble_eq_true rfl⟩) dX6_register_39 hK hNX hP hD hS hA hl 0 6 rfl rfl rfl [0, 1, 2, 3, 4, 5] [] rfl rfl rfl rfl (by decide) rfl (Nat.le_of_ble_eq_true rfl) ⟨Nat.le_of_ble_eq_true rfl, Nat.le_of_ble_eq_true rfl⟩ rfl (fun v' w' Hq lcq hR' hP hD hS => ?_)
      obtain ⟨fz_39, nz_39, rfl, rfl⟩ := hR'
      have hP : va_P G.1 vwCl [(x_, .inr (6, [.ref (a_ 0), .ref (o 0), .ref (o 2), .ref (o 4), .ref (o 6), .ref (o 8), .ref (o 10)])), (a_ 0, .inr (4, [.int (nI (T.s 2)), .int (nI (T.s 3)), .int (nI (T.s 4)), .int (nI (T.s 0)), .int (nI (T.s 6)), .ref (a_ 1), .ref (a_ 2), .ref (a_ 3), .ref (a_ 4), .ref (a_ 6)])), (o 4, .inr (0, [.ref (o 5), .int (nI nz_39)])), (o 5, .inl (G.2.2.1, 40, .inr (.inl (fz_39)))), (o 6, .inr (2, [.ref (o 7)])), (o 7, .inl (G.2.2.1, 6, .inr (.inl (rgt (T.s 2) ((T.s 3) + (T.s 4))))))] _ := hP.sub [0, 1, 2, 3, 4, 5] rfl
      have hD : va_D A [(x_, .inr (6, [.ref (a_ 0), .ref (o 0), .ref (o 2), .ref (o 4), .ref (o 6), .ref (o 8), .ref (o 10)])), (a_ 0, .inr (4, [.int (nI (T.s 2)), .int (nI (T.s 3)), .int (nI (T.s 4)), .int (nI (T.s 0)), .int (nI (T.s 6)), .ref (a_ 1), .ref (a_ 2), .ref (a_ 3), .ref (a_ 4), .ref (a_ 6)])), (o 4, .inr (0, [.ref (o 5), .int (nI nz_39)])), (o 5, .inl (G.2.2.1, 40, .inr (.inl (fz_39)))), (o 6, .inr (2, [.ref (o 7)])), (o 7, .inl (G.2.2.1, 6, .inr (.inl (rgt (T.s 2) ((T.s 3) + (T.s 4))))))] := hD.sub [0, 1, 2, 3, 4, 5] rfl rfl
      refine lv_aload_n hx hb dX6_register_42 rfl (lv_at hl 0 rfl) ?_
      refine va_get (D := G.1) (ci := 6) (v := .ref (o 6)) (C := RX6) (T := TX6) (N := 7) hx hb hts hin6 hown hK hP 0 rfl rfl 4 (by decide) (hts (.fieldLink RX6 40 "PowerTables" "rightRegisters" "LPowerTables$Registers;") (List.mem_of_getElem? (i := 4) rfl)) (fun _ h9 => h9) rfl dX6_register_43 ?_
      refine va_getN (D := G.1) (ci := 2) (v := .ref (o 7)) (C := RX2) (T := TX2) (N := 1) hx hb hts hin2 hown hK hP 4 rfl rfl 0 (by decide) (va_Nw.use rfl (hNX.1 (215, "PowerTables$Registers", "numbers", "[J") (List.mem_of_getElem? (i := 8) rfl))) (fun _ h9 => h9) rfl dX6_register_46 ?_
      refine lv_iload_n hx hb dX6_register_49 rfl (lv_at hl 1 rfl) ?_
      refine ks_lald hx hb hK hP 5 rfl (by omega) (by decide) dX6_register_50 ?_
      exact cr_lret hx hb hr hlocks hK hP hD hS dX6_register_51 (by rw [hRR]; exact ⟨_, _, congrArg (fun z => some (Value.long z)) (rfl), rfl⟩)
    · omega
  · exact absurd ⟨nI_pos (by omega), nI_ge (by omega) (by decide)⟩ c_4
set_option maxHeartbeats 4000000 in
set_option maxRecDepth 100000 in
theorem c_X6_group (G : GG) (l : Launch) (x_ : Nat) (a_ : Nat → Nat) (o : Nat → Nat) (T : TS) (g_ : Nat → Int64) (q_ : Nat) (w_ : Nat) (jq : q_ < 2 ^ 31) (jw : w_ < 4) (jn : T.s 4 ≤ 40) (jz : 1 ≤ T.s 0) (jz2 : T.s 0 ≤ 20) : Cr G l yX6_group wsX6_group ({ frames := 6, cells := 0, slots := 0, locals := 112 }) 0 0 [.ref x_, .int (nI q_), .int (nI w_)] [(x_, .inr (6, [.ref (a_ 0), .ref (o 0), .ref (o 2), .ref (o 4), .ref (o 6), .ref (o 8), .ref (o 10)])), (a_ 0, .inr (4, [.int (nI (T.s 2)), .int (nI (T.s 3)), .int (nI (T.s 4)), .int (nI (T.s 0)), .int (nI (T.s 6)), .ref (a_ 1), .ref (a_ 2), .ref (a_ 3), .ref (a_ 4), .ref (a_ 6)])), (a_ 1, .inl (G.2.2.1, 40, .inr (.inl (T.p)))), (a_ 2, .inl (G.2.2.1, 40, .inr (.inl (g_))))] (ctR (some (.long (grA T g_ q_ w_))) [(x_, .inr (6, [.ref (a_ 0), .ref (o 0), .ref (o 2), .ref (o 4), .ref (o 6), .ref (o 8), .ref (o 10)])), (a_ 0, .inr (4, [.int (nI (T.s 2)), .int (nI (T.s 3)), .int (nI (T.s 4)), .int (nI (T.s 0)), .int (nI (T.s 6)), .ref (a_ 1), .ref (a_ 2), .ref (a_ 3), .ref (a_ 4), .ref (a_ 6)])), (a_ 1, .inl (G.2.2.1, 40, .inr (.inl (T.p)))), (a_ 2, .inl (G.2.2.1, 40, .inr (.inl (g_))))]) := by
  refine cr_intro (cc := cX6_group) (maxL := 5) (ret := (some .long)) (own := RX6) (by decide) rfl rfl (Nat.le_of_ble_eq_true rfl) ?_
  intro p e s m args below meth c A hx hb hr hml hts hown hlocks hnm hNX hP hK hD hA hS ls hl
  obtain ⟨RR, hRR⟩ : ∃ RR, RR = (ctR (some (.long (grA T g_ q_ w_))) [(x_, .inr (6, [.ref (a_ 0), .ref (o 0), .ref (o 2), .ref (o 4), .ref (o 6), .ref (o 8), .ref (o 10)])), (a_ 0, .inr (4, [.int (nI (T.s 2)), .int (nI (T.s 3)), .int (nI (T.s 4)), .int (nI (T.s 0)), .int (nI (T.s 6)), .ref (a_ 1), .ref (a_ 2), .ref (a_ 3), .ref (a_ 4), .ref (a_ 6)])), (a_ 1, .inl (G.2.2.1, 40, .inr (.inl (T.p)))), (a_ 2, .inl (G.2.2.1, 40, .inr (.inl (g_))))]) := ⟨_, rfl⟩
  rw [← hRR]
  have hl : lv_has ls 5 [(0, .ref x_), (1, .int (nI q_)), (2, .int (nI w_))] := hl
  have hin4 : ∀ w_ ∈ u_ws RX4 TX4 10, w_ ∈ wsX6_group := fun w_ h => List.mem_cons_of_mem _ (List.mem_append_left _ (List.mem_append_right _ h))
  have hin6 : ∀ w_ ∈ u_ws RX6 TX6 7, w_ ∈ wsX6_group := fun w_ h => List.mem_cons_of_mem _ (List.mem_append_left _ (List.mem_append_left _ (List.mem_append_right _ h)))
  rcases (show w_ = 0 ∨ w_ = 1 ∨ w_ = 2 ∨ w_ = 3 by omega) with rfl | rfl | rfl | rfl
  · refine lv_iload_n hx hb dX6_group_0 rfl (lv_at hl 1 rfl) ?_
    refine ks_if_lt (tgt := 13) hx hb dX6_group_1 (by decide) (by omega) ?_
    refine lv_iload_n hx hb dX6_group_4 rfl (lv_at hl 2 rfl) ?_
    refine ks_if_lt (tgt := 13) hx hb dX6_group_5 (by decide) (by omega) ?_
    refine lv_iload_n hx hb dX6_group_8 rfl (lv_at hl 2 rfl) ?_
    refine lv_iconst (v := nI 4) hx hb dX6_group_9 (by decide) ?_
    refine ks_icmp_lt (tgt := 23) hx hb dX6_group_10 (by decide) (by omega) (by omega) (fun c_10 => ?_) (fun c_10 => ?_)
    · refine lv_iload_n hx hb dX6_group_23 rfl (lv_at hl 1 rfl) ?_
      refine lv_aload_n hx hb dX6_group_24 rfl (lv_at hl 0 rfl) ?_
      refine va_get (D := G.1) (ci := 6) (v := .ref (a_ 0)) (C := RX6) (T := TX6) (N := 7) hx hb hts hin6 hown hK hP 0 rfl rfl 0 (by decide) (hts (.fieldLink RX6 10 "PowerTables" "table" "LPowerTables$Table;") (List.mem_of_getElem? (i := 3) rfl)) (fun _ h9 => h9) rfl dX6_group_25 ?_
      refine lv_aload_n hx hb dX6_group_28 rfl (lv_at hl 0 rfl) ?_
      refine va_get (D := G.1) (ci := 6) (v := .ref (a_ 0)) (C := RX6) (T := TX6) (N := 7) hx hb hts hin6 hown hK hP 0 rfl rfl 0 (by decide) (hts (.fieldLink RX6 10 "PowerTables" "table" "LPowerTables$Table;") (List.mem_of_getElem? (i := 3) rfl)) (fun _ h9 => h9) rfl dX6_group_29 ?_
      refine va_getN (D := G.1) (ci := 4) (v := .int (nI (T.s 0))) (C := RX4) (T := TX4) (N := 10) hx hb hts hin4 hown hK hP 1 rfl rfl 3 (by decide) (va_Nw.use rfl (hNX.1 (154, "PowerTables$Table", "groupRows", "I") (List.mem_of_getElem? (i := 1) rfl))) (fun _ h9 => h9) rfl dX6_group_32 ?_
      refine cr_V (wr := [(x_, .inr (6, [.ref (a_ 0), .ref (o 0), .ref (o 2), .ref (o 4), .ref (o 6), .ref (o 8), .ref (o 10)])), (a_ 1, .inl (G.2.2.1, 40, .inr (.inl (T.p)))), (a_ 2, .inl (G.2.2.1, 40, .inr (.inl (g_))))]) (As := [.int (nI (T.s 0))]) (rest := [.int (nI q_)]) ⟨hx, hb, hml, hown, hts⟩ (c_X4_wholeGroups G l a_ T (T.s 0) (by omega) (by omega) (by omega)) (cwV 1 hts gX6_group_X4_wholeGroups rfl rfl rfl (by decide +kernel) ⟨Nat.le_of_ble_eq_true rfl, Nat.le_of_ble_eq_true rfl⟩) dX6_group_35 hK hNX hP hD hS hA hl 1 4 rfl rfl rfl [1] [0, 2, 3] rfl rfl rfl rfl (by decide) rfl (Nat.le_of_ble_eq_true rfl) ⟨Nat.le_of_ble_eq_true rfl, Nat.le_of_ble_eq_true rfl⟩ rfl (fun v' w' Hq lcq hR' hP hD hS => ?_)
      obtain ⟨rfl, rfl⟩ := hR'
      have hP : va_P G.1 vwCl [(x_, .inr (6, [.ref (a_ 0), .ref (o 0), .ref (o 2), .ref (o 4), .ref (o 6), .ref (o 8), .ref (o 10)])), (a_ 0, .inr (4, [.int (nI (T.s 2)), .int (nI (T.s 3)), .int (nI (T.s 4)), .int (nI (T.s 0)), .int (nI (T.s 6)), .ref (a_ 1), .ref (a_ 2), .ref (a_ 3), .ref (a_ 4), .ref (a_ 6)])), (a_ 1, .inl (G.2.2.1, 40, .inr (.inl (T.p)))), (a_ 2, .inl (G.2.2.1, 40, .inr (.inl (g_))))] _ := hP.sub [0, 3, 1, 2] rfl
      have hD : va_D A [(x_, .inr (6, [.ref (a_ 0), .ref (o 0), .ref (o 2), .ref (o 4), .ref (o 6), .ref (o 8), .ref (o 10)])), (a_ 0, .inr (4, [.int (nI (T.s 2)), .int (nI (T.s 3)), .int (nI (T.s 4)), .int (nI (T.s 0)), .int (nI (T.s 6)), .ref (a_ 1), .ref (a_ 2), .ref (a_ 3), .ref (a_ 4), .ref (a_ 6)])), (a_ 1, .inl (G.2.2.1, 40, .inr (.inl (T.p)))), (a_ 2, .inl (G.2.2.1, 40, .inr (.inl (g_))))] := hD.sub [0, 3, 1, 2] rfl rfl
      refine ks_icmp_lt (tgt := 43) hx hb dX6_group_38 (by decide) (by omega) (Nat.lt_of_le_of_lt (Nat.div_le_self _ _) (by omega)) (fun c_38 => ?_) (fun c_38 => ?_)
      · have jm1 : (q_ + 1) * T.s 0 ≤ T.s 4 := dv_le jz c_38
        have jm2 : q_ * T.s 0 + T.s 0 = (q_ + 1) * T.s 0 := (Nat.succ_mul q_ (T.s 0)).symm
        have jm3 : grA T g_ q_ 0 = grB T g_ q_ 0 := if_pos c_38
        refine lv_iload_n hx hb dX6_group_43 rfl (lv_at hl 1 rfl) ?_
        refine lv_aload_n hx hb dX6_group_44 rfl (lv_at hl 0 rfl) ?_
        refine va_get (D := G.1) (ci := 6) (v := .ref (a_ 0)) (C := RX6) (T := TX6) (N := 7) hx hb hts hin6 hown hK hP 0 rfl rfl 0 (by decide) (hts (.fieldLink RX6 10 "PowerTables" "table" "LPowerTables$Table;") (List.mem_of_getElem? (i := 3) rfl)) (fun _ h9 => h9) rfl dX6_group_45 ?_
        refine va_getN (D := G.1) (ci := 4) (v := .int (nI (T.s 0))) (C := RX4) (T := TX4) (N := 10) hx hb hts hin4 hown hK hP 1 rfl rfl 3 (by decide) (va_Nw.use rfl (hNX.1 (154, "PowerTables$Table", "groupRows", "I") (List.mem_of_getElem? (i := 1) rfl))) (fun _ h9 => h9) rfl dX6_group_48 ?_
        refine ks_imulN hx hb dX6_group_51 ?_
        refine lv_istore_n (lv' := [(3, .int (nI (q_ * (T.s 0)))), (0, .ref x_), (1, .int (nI q_)), (2, .int (nI 0))]) hx hb dX6_group_52 rfl hl (by decide) rfl (fun ls hl => ?_)
        refine lv_iload_n hx hb dX6_group_53 rfl (lv_at hl 0 rfl) ?_
        refine lv_aload_n hx hb dX6_group_54 rfl (lv_at hl 1 rfl) ?_
        refine va_get (D := G.1) (ci := 6) (v := .ref (a_ 0)) (C := RX6) (T := TX6) (N := 7) hx hb hts hin6 hown hK hP 0 rfl rfl 0 (by decide) (hts (.fieldLink RX6 10 "PowerTables" "table" "LPowerTables$Table;") (List.mem_of_getElem? (i := 3) rfl)) (fun _ h9 => h9) rfl dX6_group_55 ?_
        refine va_getN (D := G.1) (ci := 4) (v := .int (nI (T.s 0))) (C := RX4) (T := TX4) (N := 10) hx hb hts hin4 hown hK hP 1 rfl rfl 3 (by decide) (va_Nw.use rfl (hNX.1 (154, "PowerTables$Table", "groupRows", "I") (List.mem_of_getElem? (i := 1) rfl))) (fun _ h9 => h9) rfl dX6_group_58 ?_
        refine ks_iaddN hx hb dX6_group_61 ?_
        refine lv_istore (lv' := [(4, .int (nI (q_ * (T.s 0) + (T.s 0)))), (3, .int (nI (q_ * (T.s 0)))), (0, .ref x_), (1, .int (nI q_)), (2, .int (nI 0))]) hx hb dX6_group_62 hl (by decide) rfl (fun ls hl => ?_)
        refine lv_iload_n hx hb dX6_group_64 rfl (lv_at hl 4 rfl) ?_
        refine lv_tableIn (off := 27) (tgt := 92) hx hb dX6_group_65 (by decide) (by decide) (by decide +kernel) (by decide) ?_
        refine lv_aload_n hx hb dX6_group_92 rfl (lv_at hl 2 rfl) ?_
        refine va_get (D := G.1) (ci := 6) (v := .ref (a_ 0)) (C := RX6) (T := TX6) (N := 7) hx hb hts hin6 hown hK hP 0 rfl rfl 0 (by decide) (hts (.fieldLink RX6 10 "PowerTables" "table" "LPowerTables$Table;") (List.mem_of_getElem? (i := 3) rfl)) (fun _ h9 => h9) rfl dX6_group_93 ?_
        refine lv_iload_n hx hb dX6_group_96 rfl (lv_at hl 1 rfl) ?_
        refine lv_iload hx hb dX6_group_97 (lv_at hl 0 rfl) ?_
        refine cr_V (wr := [(x_, .inr (6, [.ref (a_ 0), .ref (o 0), .ref (o 2), .ref (o 4), .ref (o 6), .ref (o 8), .ref (o 10)]))]) (As := [.int (nI (q_ * (T.s 0))), .int (nI (q_ * (T.s 0) + (T.s 0)))]) (rest := []) ⟨hx, hb, hml, hown, hts⟩ (c_X4_printedSum G l a_ T g_ (q_ * (T.s 0)) (q_ * (T.s 0) + (T.s 0)) (by omega) (by omega)) (cwV 2 hts gX6_group_X4_printedSum rfl rfl rfl (by decide +kernel) ⟨Nat.le_of_ble_eq_true rfl, Nat.le_of_ble_eq_true rfl⟩) dX6_group_99 hK hNX hP hD hS hA hl 1 4 rfl rfl rfl [1, 2, 3] [0] rfl rfl rfl rfl (by decide) rfl (Nat.le_of_ble_eq_true rfl) ⟨Nat.le_of_ble_eq_true rfl, Nat.le_of_ble_eq_true rfl⟩ rfl (fun v' w' Hq lcq hR' hP hD hS => ?_)
        obtain ⟨rfl, rfl⟩ := hR'
        have hP : va_P G.1 vwCl [(x_, .inr (6, [.ref (a_ 0), .ref (o 0), .ref (o 2), .ref (o 4), .ref (o 6), .ref (o 8), .ref (o 10)])), (a_ 0, .inr (4, [.int (nI (T.s 2)), .int (nI (T.s 3)), .int (nI (T.s 4)), .int (nI (T.s 0)), .int (nI (T.s 6)), .ref (a_ 1), .ref (a_ 2), .ref (a_ 3), .ref (a_ 4), .ref (a_ 6)])), (a_ 1, .inl (G.2.2.1, 40, .inr (.inl (T.p)))), (a_ 2, .inl (G.2.2.1, 40, .inr (.inl (g_))))] _ := hP.sub [0, 1, 2, 3] rfl
        have hD : va_D A [(x_, .inr (6, [.ref (a_ 0), .ref (o 0), .ref (o 2), .ref (o 4), .ref (o 6), .ref (o 8), .ref (o 10)])), (a_ 0, .inr (4, [.int (nI (T.s 2)), .int (nI (T.s 3)), .int (nI (T.s 4)), .int (nI (T.s 0)), .int (nI (T.s 6)), .ref (a_ 1), .ref (a_ 2), .ref (a_ 3), .ref (a_ 4), .ref (a_ 6)])), (a_ 1, .inl (G.2.2.1, 40, .inr (.inl (T.p)))), (a_ 2, .inl (G.2.2.1, 40, .inr (.inl (g_))))] := hD.sub [0, 1, 2, 3] rfl rfl
        exact cr_lret hx hb hr hlocks hK hP hD hS dX6_group_102 (by rw [hRR]; exact ctR_l (jm3.symm) (rfl))
      · have hv : lN 0 = grA T g_ q_ 0 := (if_neg (by omega)).symm
        refine lv_lconst (v := lN 0) hx hb dX6_group_41 rfl ?_
        exact cr_lret hx hb hr hlocks hK hP hD hS dX6_group_42 (by rw [hRR]; exact ctR_l (hv) (rfl))
    · omega
  · refine lv_iload_n hx hb dX6_group_0 rfl (lv_at hl 1 rfl) ?_
    refine ks_if_lt (tgt := 13) hx hb dX6_group_1 (by decide) (by omega) ?_
    refine lv_iload_n hx hb dX6_group_4 rfl (lv_at hl 2 rfl) ?_
    refine ks_if_lt (tgt := 13) hx hb dX6_group_5 (by decide) (by omega) ?_
    refine lv_iload_n hx hb dX6_group_8 rfl (lv_at hl 2 rfl) ?_
    refine lv_iconst (v := nI 4) hx hb dX6_group_9 (by decide) ?_
    refine ks_icmp_lt (tgt := 23) hx hb dX6_group_10 (by decide) (by omega) (by omega) (fun c_10 => ?_) (fun c_10 => ?_)
    · refine lv_iload_n hx hb dX6_group_23 rfl (lv_at hl 1 rfl) ?_
      refine lv_aload_n hx hb dX6_group_24 rfl (lv_at hl 0 rfl) ?_
      refine va_get (D := G.1) (ci := 6) (v := .ref (a_ 0)) (C := RX6) (T := TX6) (N := 7) hx hb hts hin6 hown hK hP 0 rfl rfl 0 (by decide) (hts (.fieldLink RX6 10 "PowerTables" "table" "LPowerTables$Table;") (List.mem_of_getElem? (i := 3) rfl)) (fun _ h9 => h9) rfl dX6_group_25 ?_
      refine lv_aload_n hx hb dX6_group_28 rfl (lv_at hl 0 rfl) ?_
      refine va_get (D := G.1) (ci := 6) (v := .ref (a_ 0)) (C := RX6) (T := TX6) (N := 7) hx hb hts hin6 hown hK hP 0 rfl rfl 0 (by decide) (hts (.fieldLink RX6 10 "PowerTables" "table" "LPowerTables$Table;") (List.mem_of_getElem? (i := 3) rfl)) (fun _ h9 => h9) rfl dX6_group_29 ?_
      refine va_getN (D := G.1) (ci := 4) (v := .int (nI (T.s 0))) (C := RX4) (T := TX4) (N := 10) hx hb hts hin4 hown hK hP 1 rfl rfl 3 (by decide) (va_Nw.use rfl (hNX.1 (154, "PowerTables$Table", "groupRows", "I") (List.mem_of_getElem? (i := 1) rfl))) (fun _ h9 => h9) rfl dX6_group_32 ?_
      refine cr_V (wr := [(x_, .inr (6, [.ref (a_ 0), .ref (o 0), .ref (o 2), .ref (o 4), .ref (o 6), .ref (o 8), .ref (o 10)])), (a_ 1, .inl (G.2.2.1, 40, .inr (.inl (T.p)))), (a_ 2, .inl (G.2.2.1, 40, .inr (.inl (g_))))]) (As := [.int (nI (T.s 0))]) (rest := [.int (nI q_)]) ⟨hx, hb, hml, hown, hts⟩ (c_X4_wholeGroups G l a_ T (T.s 0) (by omega) (by omega) (by omega)) (cwV 1 hts gX6_group_X4_wholeGroups rfl rfl rfl (by decide +kernel) ⟨Nat.le_of_ble_eq_true rfl, Nat.le_of_ble_eq_true rfl⟩) dX6_group_35 hK hNX hP hD hS hA hl 1 4 rfl rfl rfl [1] [0, 2, 3] rfl rfl rfl rfl (by decide) rfl (Nat.le_of_ble_eq_true rfl) ⟨Nat.le_of_ble_eq_true rfl, Nat.le_of_ble_eq_true rfl⟩ rfl (fun v' w' Hq lcq hR' hP hD hS => ?_)
      obtain ⟨rfl, rfl⟩ := hR'
      have hP : va_P G.1 vwCl [(x_, .inr (6, [.ref (a_ 0), .ref (o 0), .ref (o 2), .ref (o 4), .ref (o 6), .ref (o 8), .ref (o 10)])), (a_ 0, .inr (4, [.int (nI (T.s 2)), .int (nI (T.s 3)), .int (nI (T.s 4)), .int (nI (T.s 0)), .int (nI (T.s 6)), .ref (a_ 1), .ref (a_ 2), .ref (a_ 3), .ref (a_ 4), .ref (a_ 6)])), (a_ 1, .inl (G.2.2.1, 40, .inr (.inl (T.p)))), (a_ 2, .inl (G.2.2.1, 40, .inr (.inl (g_))))] _ := hP.sub [0, 3, 1, 2] rfl
      have hD : va_D A [(x_, .inr (6, [.ref (a_ 0), .ref (o 0), .ref (o 2), .ref (o 4), .ref (o 6), .ref (o 8), .ref (o 10)])), (a_ 0, .inr (4, [.int (nI (T.s 2)), .int (nI (T.s 3)), .int (nI (T.s 4)), .int (nI (T.s 0)), .int (nI (T.s 6)), .ref (a_ 1), .ref (a_ 2), .ref (a_ 3), .ref (a_ 4), .ref (a_ 6)])), (a_ 1, .inl (G.2.2.1, 40, .inr (.inl (T.p)))), (a_ 2, .inl (G.2.2.1, 40, .inr (.inl (g_))))] := hD.sub [0, 3, 1, 2] rfl rfl
      refine ks_icmp_lt (tgt := 43) hx hb dX6_group_38 (by decide) (by omega) (Nat.lt_of_le_of_lt (Nat.div_le_self _ _) (by omega)) (fun c_38 => ?_) (fun c_38 => ?_)
      · have jm1 : (q_ + 1) * T.s 0 ≤ T.s 4 := dv_le jz c_38
        have jm2 : q_ * T.s 0 + T.s 0 = (q_ + 1) * T.s 0 := (Nat.succ_mul q_ (T.s 0)).symm
        have jm3 : grA T g_ q_ 1 = grB T g_ q_ 1 := if_pos c_38
        refine lv_iload_n hx hb dX6_group_43 rfl (lv_at hl 1 rfl) ?_
        refine lv_aload_n hx hb dX6_group_44 rfl (lv_at hl 0 rfl) ?_
        refine va_get (D := G.1) (ci := 6) (v := .ref (a_ 0)) (C := RX6) (T := TX6) (N := 7) hx hb hts hin6 hown hK hP 0 rfl rfl 0 (by decide) (hts (.fieldLink RX6 10 "PowerTables" "table" "LPowerTables$Table;") (List.mem_of_getElem? (i := 3) rfl)) (fun _ h9 => h9) rfl dX6_group_45 ?_
        refine va_getN (D := G.1) (ci := 4) (v := .int (nI (T.s 0))) (C := RX4) (T := TX4) (N := 10) hx hb hts hin4 hown hK hP 1 rfl rfl 3 (by decide) (va_Nw.use rfl (hNX.1 (154, "PowerTables$Table", "groupRows", "I") (List.mem_of_getElem? (i := 1) rfl))) (fun _ h9 => h9) rfl dX6_group_48 ?_
        refine ks_imulN hx hb dX6_group_51 ?_
        refine lv_istore_n (lv' := [(3, .int (nI (q_ * (T.s 0)))), (0, .ref x_), (1, .int (nI q_)), (2, .int (nI 1))]) hx hb dX6_group_52 rfl hl (by decide) rfl (fun ls hl => ?_)
        refine lv_iload_n hx hb dX6_group_53 rfl (lv_at hl 0 rfl) ?_
        refine lv_aload_n hx hb dX6_group_54 rfl (lv_at hl 1 rfl) ?_
        refine va_get (D := G.1) (ci := 6) (v := .ref (a_ 0)) (C := RX6) (T := TX6) (N := 7) hx hb hts hin6 hown hK hP 0 rfl rfl 0 (by decide) (hts (.fieldLink RX6 10 "PowerTables" "table" "LPowerTables$Table;") (List.mem_of_getElem? (i := 3) rfl)) (fun _ h9 => h9) rfl dX6_group_55 ?_
        refine va_getN (D := G.1) (ci := 4) (v := .int (nI (T.s 0))) (C := RX4) (T := TX4) (N := 10) hx hb hts hin4 hown hK hP 1 rfl rfl 3 (by decide) (va_Nw.use rfl (hNX.1 (154, "PowerTables$Table", "groupRows", "I") (List.mem_of_getElem? (i := 1) rfl))) (fun _ h9 => h9) rfl dX6_group_58 ?_
        refine ks_iaddN hx hb dX6_group_61 ?_
        refine lv_istore (lv' := [(4, .int (nI (q_ * (T.s 0) + (T.s 0)))), (3, .int (nI (q_ * (T.s 0)))), (0, .ref x_), (1, .int (nI q_)), (2, .int (nI 1))]) hx hb dX6_group_62 hl (by decide) rfl (fun ls hl => ?_)
        refine lv_iload_n hx hb dX6_group_64 rfl (lv_at hl 4 rfl) ?_
        refine lv_tableIn (off := 38) (tgt := 103) hx hb dX6_group_65 (by decide) (by decide) (by decide +kernel) (by decide) ?_
        refine lv_aload_n hx hb dX6_group_103 rfl (lv_at hl 2 rfl) ?_
        refine va_get (D := G.1) (ci := 6) (v := .ref (a_ 0)) (C := RX6) (T := TX6) (N := 7) hx hb hts hin6 hown hK hP 0 rfl rfl 0 (by decide) (hts (.fieldLink RX6 10 "PowerTables" "table" "LPowerTables$Table;") (List.mem_of_getElem? (i := 3) rfl)) (fun _ h9 => h9) rfl dX6_group_104 ?_
        refine lv_iload_n hx hb dX6_group_107 rfl (lv_at hl 1 rfl) ?_
        refine lv_iload hx hb dX6_group_108 (lv_at hl 0 rfl) ?_
        refine cr_V (wr := [(x_, .inr (6, [.ref (a_ 0), .ref (o 0), .ref (o 2), .ref (o 4), .ref (o 6), .ref (o 8), .ref (o 10)]))]) (As := [.int (nI (q_ * (T.s 0))), .int (nI (q_ * (T.s 0) + (T.s 0)))]) (rest := []) ⟨hx, hb, hml, hown, hts⟩ (c_X4_rightSum G l a_ T g_ (q_ * (T.s 0)) (q_ * (T.s 0) + (T.s 0)) (by omega) (by omega)) (cwV 2 hts gX6_group_X4_rightSum rfl rfl rfl (by decide +kernel) ⟨Nat.le_of_ble_eq_true rfl, Nat.le_of_ble_eq_true rfl⟩) dX6_group_110 hK hNX hP hD hS hA hl 1 4 rfl rfl rfl [1, 2, 3] [0] rfl rfl rfl rfl (by decide) rfl (Nat.le_of_ble_eq_true rfl) ⟨Nat.le_of_ble_eq_true rfl, Nat.le_of_ble_eq_true rfl⟩ rfl (fun v' w' Hq lcq hR' hP hD hS => ?_)
        obtain ⟨rfl, rfl⟩ := hR'
        have hP : va_P G.1 vwCl [(x_, .inr (6, [.ref (a_ 0), .ref (o 0), .ref (o 2), .ref (o 4), .ref (o 6), .ref (o 8), .ref (o 10)])), (a_ 0, .inr (4, [.int (nI (T.s 2)), .int (nI (T.s 3)), .int (nI (T.s 4)), .int (nI (T.s 0)), .int (nI (T.s 6)), .ref (a_ 1), .ref (a_ 2), .ref (a_ 3), .ref (a_ 4), .ref (a_ 6)])), (a_ 1, .inl (G.2.2.1, 40, .inr (.inl (T.p)))), (a_ 2, .inl (G.2.2.1, 40, .inr (.inl (g_))))] _ := hP.sub [0, 1, 2, 3] rfl
        have hD : va_D A [(x_, .inr (6, [.ref (a_ 0), .ref (o 0), .ref (o 2), .ref (o 4), .ref (o 6), .ref (o 8), .ref (o 10)])), (a_ 0, .inr (4, [.int (nI (T.s 2)), .int (nI (T.s 3)), .int (nI (T.s 4)), .int (nI (T.s 0)), .int (nI (T.s 6)), .ref (a_ 1), .ref (a_ 2), .ref (a_ 3), .ref (a_ 4), .ref (a_ 6)])), (a_ 1, .inl (G.2.2.1, 40, .inr (.inl (T.p)))), (a_ 2, .inl (G.2.2.1, 40, .inr (.inl (g_))))] := hD.sub [0, 1, 2, 3] rfl rfl
        exact cr_lret hx hb hr hlocks hK hP hD hS dX6_group_113 (by rw [hRR]; exact ctR_l (jm3.symm) (rfl))
      · have hv : lN 0 = grA T g_ q_ 1 := (if_neg (by omega)).symm
        refine lv_lconst (v := lN 0) hx hb dX6_group_41 rfl ?_
        exact cr_lret hx hb hr hlocks hK hP hD hS dX6_group_42 (by rw [hRR]; exact ctR_l (hv) (rfl))
    · omega
  · refine lv_iload_n hx hb dX6_group_0 rfl (lv_at hl 1 rfl) ?_
    refine ks_if_lt (tgt := 13) hx hb dX6_group_1 (by decide) (by omega) ?_
    refine lv_iload_n hx hb dX6_group_4 rfl (lv_at hl 2 rfl) ?_
    refine ks_if_lt (tgt := 13) hx hb dX6_group_5 (by decide) (by omega) ?_
    refine lv_iload_n hx hb dX6_group_8 rfl (lv_at hl 2 rfl) ?_
    refine lv_iconst (v := nI 4) hx hb dX6_group_9 (by decide) ?_
    refine ks_icmp_lt (tgt := 23) hx hb dX6_group_10 (by decide) (by omega) (by omega) (fun c_10 => ?_) (fun c_10 => ?_)
    · refine lv_iload_n hx hb dX6_group_23 rfl (lv_at hl 1 rfl) ?_
      refine lv_aload_n hx hb dX6_group_24 rfl (lv_at hl 0 rfl) ?_
      refine va_get (D := G.1) (ci := 6) (v := .ref (a_ 0)) (C := RX6) (T := TX6) (N := 7) hx hb hts hin6 hown hK hP 0 rfl rfl 0 (by decide) (hts (.fieldLink RX6 10 "PowerTables" "table" "LPowerTables$Table;") (List.mem_of_getElem? (i := 3) rfl)) (fun _ h9 => h9) rfl dX6_group_25 ?_
      refine lv_aload_n hx hb dX6_group_28 rfl (lv_at hl 0 rfl) ?_
      refine va_get (D := G.1) (ci := 6) (v := .ref (a_ 0)) (C := RX6) (T := TX6) (N := 7) hx hb hts hin6 hown hK hP 0 rfl rfl 0 (by decide) (hts (.fieldLink RX6 10 "PowerTables" "table" "LPowerTables$Table;") (List.mem_of_getElem? (i := 3) rfl)) (fun _ h9 => h9) rfl dX6_group_29 ?_
      refine va_getN (D := G.1) (ci := 4) (v := .int (nI (T.s 0))) (C := RX4) (T := TX4) (N := 10) hx hb hts hin4 hown hK hP 1 rfl rfl 3 (by decide) (va_Nw.use rfl (hNX.1 (154, "PowerTables$Table", "groupRows", "I") (List.mem_of_getElem? (i := 1) rfl))) (fun _ h9 => h9) rfl dX6_group_32 ?_
      refine cr_V (wr := [(x_, .inr (6, [.ref (a_ 0), .ref (o 0), .ref (o 2), .ref (o 4), .ref (o 6), .ref (o 8), .ref (o 10)])), (a_ 1, .inl (G.2.2.1, 40, .inr (.inl (T.p)))), (a_ 2, .inl (G.2.2.1, 40, .inr (.inl (g_))))]) (As := [.int (nI (T.s 0))]) (rest := [.int (nI q_)]) ⟨hx, hb, hml, hown, hts⟩ (c_X4_wholeGroups G l a_ T (T.s 0) (by omega) (by omega) (by omega)) (cwV 1 hts gX6_group_X4_wholeGroups rfl rfl rfl (by decide +kernel) ⟨Nat.le_of_ble_eq_true rfl, Nat.le_of_ble_eq_true rfl⟩) dX6_group_35 hK hNX hP hD hS hA hl 1 4 rfl rfl rfl [1] [0, 2, 3] rfl rfl rfl rfl (by decide) rfl (Nat.le_of_ble_eq_true rfl) ⟨Nat.le_of_ble_eq_true rfl, Nat.le_of_ble_eq_true rfl⟩ rfl (fun v' w' Hq lcq hR' hP hD hS => ?_)
      obtain ⟨rfl, rfl⟩ := hR'
      have hP : va_P G.1 vwCl [(x_, .inr (6, [.ref (a_ 0), .ref (o 0), .ref (o 2), .ref (o 4), .ref (o 6), .ref (o 8), .ref (o 10)])), (a_ 0, .inr (4, [.int (nI (T.s 2)), .int (nI (T.s 3)), .int (nI (T.s 4)), .int (nI (T.s 0)), .int (nI (T.s 6)), .ref (a_ 1), .ref (a_ 2), .ref (a_ 3), .ref (a_ 4), .ref (a_ 6)])), (a_ 1, .inl (G.2.2.1, 40, .inr (.inl (T.p)))), (a_ 2, .inl (G.2.2.1, 40, .inr (.inl (g_))))] _ := hP.sub [0, 3, 1, 2] rfl
      have hD : va_D A [(x_, .inr (6, [.ref (a_ 0), .ref (o 0), .ref (o 2), .ref (o 4), .ref (o 6), .ref (o 8), .ref (o 10)])), (a_ 0, .inr (4, [.int (nI (T.s 2)), .int (nI (T.s 3)), .int (nI (T.s 4)), .int (nI (T.s 0)), .int (nI (T.s 6)), .ref (a_ 1), .ref (a_ 2), .ref (a_ 3), .ref (a_ 4), .ref (a_ 6)])), (a_ 1, .inl (G.2.2.1, 40, .inr (.inl (T.p)))), (a_ 2, .inl (G.2.2.1, 40, .inr (.inl (g_))))] := hD.sub [0, 3, 1, 2] rfl rfl
      refine ks_icmp_lt (tgt := 43) hx hb dX6_group_38 (by decide) (by omega) (Nat.lt_of_le_of_lt (Nat.div_le_self _ _) (by omega)) (fun c_38 => ?_) (fun c_38 => ?_)
      · have jm1 : (q_ + 1) * T.s 0 ≤ T.s 4 := dv_le jz c_38
        have jm2 : q_ * T.s 0 + T.s 0 = (q_ + 1) * T.s 0 := (Nat.succ_mul q_ (T.s 0)).symm
        have jm3 : grA T g_ q_ 2 = grB T g_ q_ 2 := if_pos c_38
        refine lv_iload_n hx hb dX6_group_43 rfl (lv_at hl 1 rfl) ?_
        refine lv_aload_n hx hb dX6_group_44 rfl (lv_at hl 0 rfl) ?_
        refine va_get (D := G.1) (ci := 6) (v := .ref (a_ 0)) (C := RX6) (T := TX6) (N := 7) hx hb hts hin6 hown hK hP 0 rfl rfl 0 (by decide) (hts (.fieldLink RX6 10 "PowerTables" "table" "LPowerTables$Table;") (List.mem_of_getElem? (i := 3) rfl)) (fun _ h9 => h9) rfl dX6_group_45 ?_
        refine va_getN (D := G.1) (ci := 4) (v := .int (nI (T.s 0))) (C := RX4) (T := TX4) (N := 10) hx hb hts hin4 hown hK hP 1 rfl rfl 3 (by decide) (va_Nw.use rfl (hNX.1 (154, "PowerTables$Table", "groupRows", "I") (List.mem_of_getElem? (i := 1) rfl))) (fun _ h9 => h9) rfl dX6_group_48 ?_
        refine ks_imulN hx hb dX6_group_51 ?_
        refine lv_istore_n (lv' := [(3, .int (nI (q_ * (T.s 0)))), (0, .ref x_), (1, .int (nI q_)), (2, .int (nI 2))]) hx hb dX6_group_52 rfl hl (by decide) rfl (fun ls hl => ?_)
        refine lv_iload_n hx hb dX6_group_53 rfl (lv_at hl 0 rfl) ?_
        refine lv_aload_n hx hb dX6_group_54 rfl (lv_at hl 1 rfl) ?_
        refine va_get (D := G.1) (ci := 6) (v := .ref (a_ 0)) (C := RX6) (T := TX6) (N := 7) hx hb hts hin6 hown hK hP 0 rfl rfl 0 (by decide) (hts (.fieldLink RX6 10 "PowerTables" "table" "LPowerTables$Table;") (List.mem_of_getElem? (i := 3) rfl)) (fun _ h9 => h9) rfl dX6_group_55 ?_
        refine va_getN (D := G.1) (ci := 4) (v := .int (nI (T.s 0))) (C := RX4) (T := TX4) (N := 10) hx hb hts hin4 hown hK hP 1 rfl rfl 3 (by decide) (va_Nw.use rfl (hNX.1 (154, "PowerTables$Table", "groupRows", "I") (List.mem_of_getElem? (i := 1) rfl))) (fun _ h9 => h9) rfl dX6_group_58 ?_
        refine ks_iaddN hx hb dX6_group_61 ?_
        refine lv_istore (lv' := [(4, .int (nI (q_ * (T.s 0) + (T.s 0)))), (3, .int (nI (q_ * (T.s 0)))), (0, .ref x_), (1, .int (nI q_)), (2, .int (nI 2))]) hx hb dX6_group_62 hl (by decide) rfl (fun ls hl => ?_)
        refine lv_iload_n hx hb dX6_group_64 rfl (lv_at hl 4 rfl) ?_
        refine lv_tableIn (off := 49) (tgt := 114) hx hb dX6_group_65 (by decide) (by decide) (by decide +kernel) (by decide) ?_
        refine lv_aload_n hx hb dX6_group_114 rfl (lv_at hl 2 rfl) ?_
        refine va_get (D := G.1) (ci := 6) (v := .ref (a_ 0)) (C := RX6) (T := TX6) (N := 7) hx hb hts hin6 hown hK hP 0 rfl rfl 0 (by decide) (hts (.fieldLink RX6 10 "PowerTables" "table" "LPowerTables$Table;") (List.mem_of_getElem? (i := 3) rfl)) (fun _ h9 => h9) rfl dX6_group_115 ?_
        refine lv_iload_n hx hb dX6_group_118 rfl (lv_at hl 1 rfl) ?_
        refine lv_iload hx hb dX6_group_119 (lv_at hl 0 rfl) ?_
        refine cr_V (wr := [(x_, .inr (6, [.ref (a_ 0), .ref (o 0), .ref (o 2), .ref (o 4), .ref (o 6), .ref (o 8), .ref (o 10)]))]) (As := [.int (nI (q_ * (T.s 0))), .int (nI (q_ * (T.s 0) + (T.s 0)))]) (rest := []) ⟨hx, hb, hml, hown, hts⟩ (c_X4_isFoundWrong G l a_ T g_ (q_ * (T.s 0)) (q_ * (T.s 0) + (T.s 0)) (by omega) (by omega)) (cwV 2 hts gX6_group_X4_isFoundWrong rfl rfl rfl (by decide +kernel) ⟨Nat.le_of_ble_eq_true rfl, Nat.le_of_ble_eq_true rfl⟩) dX6_group_121 hK hNX hP hD hS hA hl 1 4 rfl rfl rfl [1, 2, 3] [0] rfl rfl rfl rfl (by decide) rfl (Nat.le_of_ble_eq_true rfl) ⟨Nat.le_of_ble_eq_true rfl, Nat.le_of_ble_eq_true rfl⟩ rfl (fun v' w' Hq lcq hR' hP hD hS => ?_)
        obtain ⟨rfl, rfl⟩ := hR'
        have hP : va_P G.1 vwCl [(x_, .inr (6, [.ref (a_ 0), .ref (o 0), .ref (o 2), .ref (o 4), .ref (o 6), .ref (o 8), .ref (o 10)])), (a_ 0, .inr (4, [.int (nI (T.s 2)), .int (nI (T.s 3)), .int (nI (T.s 4)), .int (nI (T.s 0)), .int (nI (T.s 6)), .ref (a_ 1), .ref (a_ 2), .ref (a_ 3), .ref (a_ 4), .ref (a_ 6)])), (a_ 1, .inl (G.2.2.1, 40, .inr (.inl (T.p)))), (a_ 2, .inl (G.2.2.1, 40, .inr (.inl (g_))))] _ := hP.sub [0, 1, 2, 3] rfl
        have hD : va_D A [(x_, .inr (6, [.ref (a_ 0), .ref (o 0), .ref (o 2), .ref (o 4), .ref (o 6), .ref (o 8), .ref (o 10)])), (a_ 0, .inr (4, [.int (nI (T.s 2)), .int (nI (T.s 3)), .int (nI (T.s 4)), .int (nI (T.s 0)), .int (nI (T.s 6)), .ref (a_ 1), .ref (a_ 2), .ref (a_ 3), .ref (a_ 4), .ref (a_ 6)])), (a_ 1, .inl (G.2.2.1, 40, .inr (.inl (T.p)))), (a_ 2, .inl (G.2.2.1, 40, .inr (.inl (g_))))] := hD.sub [0, 1, 2, 3] rfl rfl
        refine ks_ifb_eq (tgt := 131) hx hb dX6_group_124 (by decide) (fun c_124 => ?_) (fun c_124 => ?_)
        · have hv : lN 0 = grA T g_ q_ 2 := by rw [jm3]; show _ = lN (b01 _); rw [b01_f c_124]
          refine lv_lconst (v := lN 0) hx hb dX6_group_131 rfl ?_
          exact cr_lret hx hb hr hlocks hK hP hD hS dX6_group_132 (by rw [hRR]; exact ctR_l (hv) (rfl))
        · have hv : lN 1 = grA T g_ q_ 2 := by rw [jm3]; show _ = lN (b01 _); rw [b01_t c_124]
          refine lv_lconst (v := lN 1) hx hb dX6_group_127 rfl ?_
          refine lv_goto (tgt := 132) hx hb dX6_group_128 (by decide) ?_
          exact cr_lret hx hb hr hlocks hK hP hD hS dX6_group_132 (by rw [hRR]; exact ctR_l (hv) (rfl))
      · have hv : lN 0 = grA T g_ q_ 2 := (if_neg (by omega)).symm
        refine lv_lconst (v := lN 0) hx hb dX6_group_41 rfl ?_
        exact cr_lret hx hb hr hlocks hK hP hD hS dX6_group_42 (by rw [hRR]; exact ctR_l (hv) (rfl))
    · omega
  · refine lv_iload_n hx hb dX6_group_0 rfl (lv_at hl 1 rfl) ?_
    refine ks_if_lt (tgt := 13) hx hb dX6_group_1 (by decide) (by omega) ?_
    refine lv_iload_n hx hb dX6_group_4 rfl (lv_at hl 2 rfl) ?_
    refine ks_if_lt (tgt := 13) hx hb dX6_group_5 (by decide) (by omega) ?_
    refine lv_iload_n hx hb dX6_group_8 rfl (lv_at hl 2 rfl) ?_
    refine lv_iconst (v := nI 4) hx hb dX6_group_9 (by decide) ?_
    refine ks_icmp_lt (tgt := 23) hx hb dX6_group_10 (by decide) (by omega) (by omega) (fun c_10 => ?_) (fun c_10 => ?_)
    · refine lv_iload_n hx hb dX6_group_23 rfl (lv_at hl 1 rfl) ?_
      refine lv_aload_n hx hb dX6_group_24 rfl (lv_at hl 0 rfl) ?_
      refine va_get (D := G.1) (ci := 6) (v := .ref (a_ 0)) (C := RX6) (T := TX6) (N := 7) hx hb hts hin6 hown hK hP 0 rfl rfl 0 (by decide) (hts (.fieldLink RX6 10 "PowerTables" "table" "LPowerTables$Table;") (List.mem_of_getElem? (i := 3) rfl)) (fun _ h9 => h9) rfl dX6_group_25 ?_
      refine lv_aload_n hx hb dX6_group_28 rfl (lv_at hl 0 rfl) ?_
      refine va_get (D := G.1) (ci := 6) (v := .ref (a_ 0)) (C := RX6) (T := TX6) (N := 7) hx hb hts hin6 hown hK hP 0 rfl rfl 0 (by decide) (hts (.fieldLink RX6 10 "PowerTables" "table" "LPowerTables$Table;") (List.mem_of_getElem? (i := 3) rfl)) (fun _ h9 => h9) rfl dX6_group_29 ?_
      refine va_getN (D := G.1) (ci := 4) (v := .int (nI (T.s 0))) (C := RX4) (T := TX4) (N := 10) hx hb hts hin4 hown hK hP 1 rfl rfl 3 (by decide) (va_Nw.use rfl (hNX.1 (154, "PowerTables$Table", "groupRows", "I") (List.mem_of_getElem? (i := 1) rfl))) (fun _ h9 => h9) rfl dX6_group_32 ?_
      refine cr_V (wr := [(x_, .inr (6, [.ref (a_ 0), .ref (o 0), .ref (o 2), .ref (o 4), .ref (o 6), .ref (o 8), .ref (o 10)])), (a_ 1, .inl (G.2.2.1, 40, .inr (.inl (T.p)))), (a_ 2, .inl (G.2.2.1, 40, .inr (.inl (g_))))]) (As := [.int (nI (T.s 0))]) (rest := [.int (nI q_)]) ⟨hx, hb, hml, hown, hts⟩ (c_X4_wholeGroups G l a_ T (T.s 0) (by omega) (by omega) (by omega)) (cwV 1 hts gX6_group_X4_wholeGroups rfl rfl rfl (by decide +kernel) ⟨Nat.le_of_ble_eq_true rfl, Nat.le_of_ble_eq_true rfl⟩) dX6_group_35 hK hNX hP hD hS hA hl 1 4 rfl rfl rfl [1] [0, 2, 3] rfl rfl rfl rfl (by decide) rfl (Nat.le_of_ble_eq_true rfl) ⟨Nat.le_of_ble_eq_true rfl, Nat.le_of_ble_eq_true rfl⟩ rfl (fun v' w' Hq lcq hR' hP hD hS => ?_)
      obtain ⟨rfl, rfl⟩ := hR'
      have hP : va_P G.1 vwCl [(x_, .inr (6, [.ref (a_ 0), .ref (o 0), .ref (o 2), .ref (o 4), .ref (o 6), .ref (o 8), .ref (o 10)])), (a_ 0, .inr (4, [.int (nI (T.s 2)), .int (nI (T.s 3)), .int (nI (T.s 4)), .int (nI (T.s 0)), .int (nI (T.s 6)), .ref (a_ 1), .ref (a_ 2), .ref (a_ 3), .ref (a_ 4), .ref (a_ 6)])), (a_ 1, .inl (G.2.2.1, 40, .inr (.inl (T.p)))), (a_ 2, .inl (G.2.2.1, 40, .inr (.inl (g_))))] _ := hP.sub [0, 3, 1, 2] rfl
      have hD : va_D A [(x_, .inr (6, [.ref (a_ 0), .ref (o 0), .ref (o 2), .ref (o 4), .ref (o 6), .ref (o 8), .ref (o 10)])), (a_ 0, .inr (4, [.int (nI (T.s 2)), .int (nI (T.s 3)), .int (nI (T.s 4)), .int (nI (T.s 0)), .int (nI (T.s 6)), .ref (a_ 1), .ref (a_ 2), .ref (a_ 3), .ref (a_ 4), .ref (a_ 6)])), (a_ 1, .inl (G.2.2.1, 40, .inr (.inl (T.p)))), (a_ 2, .inl (G.2.2.1, 40, .inr (.inl (g_))))] := hD.sub [0, 3, 1, 2] rfl rfl
      refine ks_icmp_lt (tgt := 43) hx hb dX6_group_38 (by decide) (by omega) (Nat.lt_of_le_of_lt (Nat.div_le_self _ _) (by omega)) (fun c_38 => ?_) (fun c_38 => ?_)
      · have jm1 : (q_ + 1) * T.s 0 ≤ T.s 4 := dv_le jz c_38
        have jm2 : q_ * T.s 0 + T.s 0 = (q_ + 1) * T.s 0 := (Nat.succ_mul q_ (T.s 0)).symm
        have jm3 : grA T g_ q_ 3 = grB T g_ q_ 3 := if_pos c_38
        refine lv_iload_n hx hb dX6_group_43 rfl (lv_at hl 1 rfl) ?_
        refine lv_aload_n hx hb dX6_group_44 rfl (lv_at hl 0 rfl) ?_
        refine va_get (D := G.1) (ci := 6) (v := .ref (a_ 0)) (C := RX6) (T := TX6) (N := 7) hx hb hts hin6 hown hK hP 0 rfl rfl 0 (by decide) (hts (.fieldLink RX6 10 "PowerTables" "table" "LPowerTables$Table;") (List.mem_of_getElem? (i := 3) rfl)) (fun _ h9 => h9) rfl dX6_group_45 ?_
        refine va_getN (D := G.1) (ci := 4) (v := .int (nI (T.s 0))) (C := RX4) (T := TX4) (N := 10) hx hb hts hin4 hown hK hP 1 rfl rfl 3 (by decide) (va_Nw.use rfl (hNX.1 (154, "PowerTables$Table", "groupRows", "I") (List.mem_of_getElem? (i := 1) rfl))) (fun _ h9 => h9) rfl dX6_group_48 ?_
        refine ks_imulN hx hb dX6_group_51 ?_
        refine lv_istore_n (lv' := [(3, .int (nI (q_ * (T.s 0)))), (0, .ref x_), (1, .int (nI q_)), (2, .int (nI 3))]) hx hb dX6_group_52 rfl hl (by decide) rfl (fun ls hl => ?_)
        refine lv_iload_n hx hb dX6_group_53 rfl (lv_at hl 0 rfl) ?_
        refine lv_aload_n hx hb dX6_group_54 rfl (lv_at hl 1 rfl) ?_
        refine va_get (D := G.1) (ci := 6) (v := .ref (a_ 0)) (C := RX6) (T := TX6) (N := 7) hx hb hts hin6 hown hK hP 0 rfl rfl 0 (by decide) (hts (.fieldLink RX6 10 "PowerTables" "table" "LPowerTables$Table;") (List.mem_of_getElem? (i := 3) rfl)) (fun _ h9 => h9) rfl dX6_group_55 ?_
        refine va_getN (D := G.1) (ci := 4) (v := .int (nI (T.s 0))) (C := RX4) (T := TX4) (N := 10) hx hb hts hin4 hown hK hP 1 rfl rfl 3 (by decide) (va_Nw.use rfl (hNX.1 (154, "PowerTables$Table", "groupRows", "I") (List.mem_of_getElem? (i := 1) rfl))) (fun _ h9 => h9) rfl dX6_group_58 ?_
        refine ks_iaddN hx hb dX6_group_61 ?_
        refine lv_istore (lv' := [(4, .int (nI (q_ * (T.s 0) + (T.s 0)))), (3, .int (nI (q_ * (T.s 0)))), (0, .ref x_), (1, .int (nI q_)), (2, .int (nI 3))]) hx hb dX6_group_62 hl (by decide) rfl (fun ls hl => ?_)
        refine lv_iload_n hx hb dX6_group_64 rfl (lv_at hl 4 rfl) ?_
        refine lv_tableOut (tgt := 133) hx hb dX6_group_65 (by decide) (by decide) ?_
        refine lv_aload_n hx hb dX6_group_133 rfl (lv_at hl 2 rfl) ?_
        refine va_get (D := G.1) (ci := 6) (v := .ref (a_ 0)) (C := RX6) (T := TX6) (N := 7) hx hb hts hin6 hown hK hP 0 rfl rfl 0 (by decide) (hts (.fieldLink RX6 10 "PowerTables" "table" "LPowerTables$Table;") (List.mem_of_getElem? (i := 3) rfl)) (fun _ h9 => h9) rfl dX6_group_134 ?_
        refine lv_iload_n hx hb dX6_group_137 rfl (lv_at hl 1 rfl) ?_
        refine lv_iload hx hb dX6_group_138 (lv_at hl 0 rfl) ?_
        refine cr_V (wr := [(x_, .inr (6, [.ref (a_ 0), .ref (o 0), .ref (o 2), .ref (o 4), .ref (o 6), .ref (o 8), .ref (o 10)]))]) (As := [.int (nI (q_ * (T.s 0))), .int (nI (q_ * (T.s 0) + (T.s 0)))]) (rest := []) ⟨hx, hb, hml, hown, hts⟩ (c_X4_wrongRows G l a_ T g_ (q_ * (T.s 0)) (q_ * (T.s 0) + (T.s 0)) (by omega) (by omega)) (cwV 2 hts gX6_group_X4_wrongRows rfl rfl rfl (by decide +kernel) ⟨Nat.le_of_ble_eq_true rfl, Nat.le_of_ble_eq_true rfl⟩) dX6_group_140 hK hNX hP hD hS hA hl 1 4 rfl rfl rfl [1, 2, 3] [0] rfl rfl rfl rfl (by decide) rfl (Nat.le_of_ble_eq_true rfl) ⟨Nat.le_of_ble_eq_true rfl, Nat.le_of_ble_eq_true rfl⟩ rfl (fun v' w' Hq lcq hR' hP hD hS => ?_)
        obtain ⟨rfl, rfl⟩ := hR'
        have hP : va_P G.1 vwCl [(x_, .inr (6, [.ref (a_ 0), .ref (o 0), .ref (o 2), .ref (o 4), .ref (o 6), .ref (o 8), .ref (o 10)])), (a_ 0, .inr (4, [.int (nI (T.s 2)), .int (nI (T.s 3)), .int (nI (T.s 4)), .int (nI (T.s 0)), .int (nI (T.s 6)), .ref (a_ 1), .ref (a_ 2), .ref (a_ 3), .ref (a_ 4), .ref (a_ 6)])), (a_ 1, .inl (G.2.2.1, 40, .inr (.inl (T.p)))), (a_ 2, .inl (G.2.2.1, 40, .inr (.inl (g_))))] _ := hP.sub [0, 1, 2, 3] rfl
        have hD : va_D A [(x_, .inr (6, [.ref (a_ 0), .ref (o 0), .ref (o 2), .ref (o 4), .ref (o 6), .ref (o 8), .ref (o 10)])), (a_ 0, .inr (4, [.int (nI (T.s 2)), .int (nI (T.s 3)), .int (nI (T.s 4)), .int (nI (T.s 0)), .int (nI (T.s 6)), .ref (a_ 1), .ref (a_ 2), .ref (a_ 3), .ref (a_ 4), .ref (a_ 6)])), (a_ 1, .inl (G.2.2.1, 40, .inr (.inl (T.p)))), (a_ 2, .inl (G.2.2.1, 40, .inr (.inl (g_))))] := hD.sub [0, 1, 2, 3] rfl rfl
        refine ks_i2lN hx hb dX6_group_143 (Nat.lt_of_le_of_lt (ctN_le _ _) (by omega)) ?_
        exact cr_lret hx hb hr hlocks hK hP hD hS dX6_group_144 (by rw [hRR]; exact ctR_l (jm3.symm) (rfl))
      · have hv : lN 0 = grA T g_ q_ 3 := (if_neg (by omega)).symm
        refine lv_lconst (v := lN 0) hx hb dX6_group_41 rfl ?_
        exact cr_lret hx hb hr hlocks hK hP hD hS dX6_group_42 (by rw [hRR]; exact ctR_l (hv) (rfl))
    · omega
set_option maxHeartbeats 4000000 in
set_option maxRecDepth 100000 in
theorem c_X6_difference (G : GG) (l : Launch) (x_ : Nat) (a_ : Nat → Nat) (o : Nat → Nat) (T : TS) (f_ : Nat → Int64) (dn : Nat) (j_ : Nat) (i_ : Nat) (jj : j_ ≤ 5) (ji : i_ < T.s 4) (jn : T.s 4 ≤ 40) : Cr G l yX6_difference wsX6_difference ({ frames := 6, cells := 0, slots := 0, locals := 112 }) 0 0 [.ref x_, .int (nI j_), .int (nI i_)] [(x_, .inr (6, [.ref (a_ 0), .ref (o 0), .ref (o 2), .ref (o 4), .ref (o 6), .ref (o 8), .ref (o 10)])), (a_ 0, .inr (4, [.int (nI (T.s 2)), .int (nI (T.s 3)), .int (nI (T.s 4)), .int (nI (T.s 0)), .int (nI (T.s 6)), .ref (a_ 1), .ref (a_ 2), .ref (a_ 3), .ref (a_ 4), .ref (a_ 6)])), (a_ 1, .inl (G.2.2.1, 40, .inr (.inl (T.p)))), (o 4, .inr (0, [.ref (o 5), .int (nI dn)])), (o 5, .inl (G.2.2.1, 40, .inr (.inl (f_))))] (fun (vv1 : Option Value) (ww1 : va_W) => ∃ (fz : Nat → Int64) (nz : Nat), vv1 = (some (.long (dfA T j_ i_))) ∧ ww1 = [(x_, .inr (6, [.ref (a_ 0), .ref (o 0), .ref (o 2), .ref (o 4), .ref (o 6), .ref (o 8), .ref (o 10)])), (a_ 0, .inr (4, [.int (nI (T.s 2)), .int (nI (T.s 3)), .int (nI (T.s 4)), .int (nI (T.s 0)), .int (nI (T.s 6)), .ref (a_ 1), .ref (a_ 2), .ref (a_ 3), .ref (a_ 4), .ref (a_ 6)])), (a_ 1, .inl (G.2.2.1, 40, .inr (.inl (T.p)))), (o 4, .inr (0, [.ref (o 5), .int (nI nz)])), (o 5, .inl (G.2.2.1, 40, .inr (.inl (fz))))]) := by
  refine cr_intro (cc := cX6_difference) (maxL := 4) (ret := (some .long)) (own := RX6) (by decide) rfl rfl (Nat.le_of_ble_eq_true rfl) ?_
  intro p e s m args below meth c A hx hb hr hml hts hown hlocks hnm hNX hP hK hD hA hS ls hl
  obtain ⟨RR, hRR⟩ : ∃ RR, RR = (fun (vv1 : Option Value) (ww1 : va_W) => ∃ (fz : Nat → Int64) (nz : Nat), vv1 = (some (.long (dfA T j_ i_))) ∧ ww1 = [(x_, .inr (6, [.ref (a_ 0), .ref (o 0), .ref (o 2), .ref (o 4), .ref (o 6), .ref (o 8), .ref (o 10)])), (a_ 0, .inr (4, [.int (nI (T.s 2)), .int (nI (T.s 3)), .int (nI (T.s 4)), .int (nI (T.s 0)), .int (nI (T.s 6)), .ref (a_ 1), .ref (a_ 2), .ref (a_ 3), .ref (a_ 4), .ref (a_ 6)])), (a_ 1, .inl (G.2.2.1, 40, .inr (.inl (T.p)))), (o 4, .inr (0, [.ref (o 5), .int (nI nz)])), (o 5, .inl (G.2.2.1, 40, .inr (.inl (fz))))]) := ⟨_, rfl⟩
  rw [← hRR]
  have hl : lv_has ls 4 [(0, .ref x_), (1, .int (nI j_)), (2, .int (nI i_))] := hl
  have hin4 : ∀ w ∈ u_ws RX4 TX4 10, w ∈ wsX6_difference := fun w h => List.mem_cons_of_mem _ (List.mem_append_left _ (List.mem_append_left _ (List.mem_append_left _ (List.mem_append_right _ h))))
  have hin6 : ∀ w ∈ u_ws RX6 TX6 7, w ∈ wsX6_difference := fun w h => List.mem_cons_of_mem _ (List.mem_append_left _ (List.mem_append_left _ (List.mem_append_left _ (List.mem_append_left _ (List.mem_append_right _ h)))))
  refine lv_iload_n hx hb dX6_difference_0 rfl (lv_at hl 1 rfl) ?_
  refine ks_if_lt (tgt := 10) hx hb dX6_difference_1 (by decide) (by omega) ?_
  refine lv_iload_n hx hb dX6_difference_4 rfl (lv_at hl 1 rfl) ?_
  refine lv_bipush (v := nI 6) hx hb dX6_difference_5 (by decide) ?_
  refine ks_icmp_lt (tgt := 20) hx hb dX6_difference_7 (by decide) (by omega) (by omega) (fun c_7 => ?_) (fun c_7 => ?_)
  · refine lv_aload_n hx hb dX6_difference_20 rfl (lv_at hl 0 rfl) ?_
    refine va_get (D := G.1) (ci := 6) (v := .ref (a_ 0)) (C := RX6) (T := TX6) (N := 7) hx hb hts hin6 hown hK hP 0 rfl rfl 0 (by decide) (hts (.fieldLink RX6 10 "PowerTables" "table" "LPowerTables$Table;") (List.mem_of_getElem? (i := 5) rfl)) (fun _ h9 => h9) rfl dX6_difference_21 ?_
    refine lv_iload_n hx hb dX6_difference_24 rfl (lv_at hl 2 rfl) ?_
    refine cr_V (wr := [(x_, .inr (6, [.ref (a_ 0), .ref (o 0), .ref (o 2), .ref (o 4), .ref (o 6), .ref (o 8), .ref (o 10)])), (a_ 1, .inl (G.2.2.1, 40, .inr (.inl (T.p)))), (o 4, .inr (0, [.ref (o 5), .int (nI dn)])), (o 5, .inl (G.2.2.1, 40, .inr (.inl (f_))))]) (As := [.int (nI i_)]) (rest := []) ⟨hx, hb, hml, hown, hts⟩ (c_X4_hasRow G l a_ T i_ (by omega) (by omega)) (cwV 1 hts gX6_difference_X4_hasRow rfl rfl rfl (by decide +kernel) ⟨Nat.le_of_ble_eq_true rfl, Nat.le_of_ble_eq_true rfl⟩) dX6_difference_25 hK hNX hP hD hS hA hl 1 4 rfl rfl rfl [1] [0, 2, 3, 4] rfl rfl rfl rfl (by decide) rfl (Nat.le_of_ble_eq_true rfl) ⟨Nat.le_of_ble_eq_true rfl, Nat.le_of_ble_eq_true rfl⟩ rfl (fun v' w' Hq lcq hR' hP hD hS => ?_)
    obtain ⟨rfl, rfl⟩ := hR'
    have hP : va_P G.1 vwCl [(x_, .inr (6, [.ref (a_ 0), .ref (o 0), .ref (o 2), .ref (o 4), .ref (o 6), .ref (o 8), .ref (o 10)])), (a_ 0, .inr (4, [.int (nI (T.s 2)), .int (nI (T.s 3)), .int (nI (T.s 4)), .int (nI (T.s 0)), .int (nI (T.s 6)), .ref (a_ 1), .ref (a_ 2), .ref (a_ 3), .ref (a_ 4), .ref (a_ 6)])), (a_ 1, .inl (G.2.2.1, 40, .inr (.inl (T.p)))), (o 4, .inr (0, [.ref (o 5), .int (nI dn)])), (o 5, .inl (G.2.2.1, 40, .inr (.inl (f_))))] _ := hP.sub [0, 4, 1, 2, 3] rfl
    have hD : va_D A [(x_, .inr (6, [.ref (a_ 0), .ref (o 0), .ref (o 2), .ref (o 4), .ref (o 6), .ref (o 8), .ref (o 10)])), (a_ 0, .inr (4, [.int (nI (T.s 2)), .int (nI (T.s 3)), .int (nI (T.s 4)), .int (nI (T.s 0)), .int (nI (T.s 6)), .ref (a_ 1), .ref (a_ 2), .ref (a_ 3), .ref (a_ 4), .ref (a_ 6)])), (a_ 1, .inl (G.2.2.1, 40, .inr (.inl (T.p)))), (o 4, .inr (0, [.ref (o 5), .int (nI dn)])), (o 5, .inl (G.2.2.1, 40, .inr (.inl (f_))))] := hD.sub [0, 4, 1, 2, 3] rfl rfl
    refine ks_ifb_ne (tgt := 41) hx hb dX6_difference_28 (by decide) (fun c_28 => ?_) (fun c_28 => ?_)
    · refine lv_aload_n hx hb dX6_difference_41 rfl (lv_at hl 0 rfl) ?_
      refine va_get (D := G.1) (ci := 6) (v := .ref (a_ 0)) (C := RX6) (T := TX6) (N := 7) hx hb hts hin6 hown hK hP 0 rfl rfl 0 (by decide) (hts (.fieldLink RX6 10 "PowerTables" "table" "LPowerTables$Table;") (List.mem_of_getElem? (i := 5) rfl)) (fun _ h9 => h9) rfl dX6_difference_42 ?_
      refine lv_iload_n hx hb dX6_difference_45 rfl (lv_at hl 2 rfl) ?_
      refine lv_iload_n hx hb dX6_difference_46 rfl (lv_at hl 1 rfl) ?_
      refine ks_iaddN hx hb dX6_difference_47 ?_
      refine cr_V (wr := [(x_, .inr (6, [.ref (a_ 0), .ref (o 0), .ref (o 2), .ref (o 4), .ref (o 6), .ref (o 8), .ref (o 10)])), (a_ 1, .inl (G.2.2.1, 40, .inr (.inl (T.p)))), (o 4, .inr (0, [.ref (o 5), .int (nI dn)])), (o 5, .inl (G.2.2.1, 40, .inr (.inl (f_))))]) (As := [.int (nI (i_ + j_))]) (rest := []) ⟨hx, hb, hml, hown, hts⟩ (c_X4_hasRow G l a_ T (i_ + j_) (by omega) (by omega)) (cwV 1 hts gX6_difference_X4_hasRow rfl rfl rfl (by decide +kernel) ⟨Nat.le_of_ble_eq_true rfl, Nat.le_of_ble_eq_true rfl⟩) dX6_difference_48 hK hNX hP hD hS hA hl 1 4 rfl rfl rfl [1] [0, 2, 3, 4] rfl rfl rfl rfl (by decide) rfl (Nat.le_of_ble_eq_true rfl) ⟨Nat.le_of_ble_eq_true rfl, Nat.le_of_ble_eq_true rfl⟩ rfl (fun v' w' Hq lcq hR' hP hD hS => ?_)
      obtain ⟨rfl, rfl⟩ := hR'
      have hP : va_P G.1 vwCl [(x_, .inr (6, [.ref (a_ 0), .ref (o 0), .ref (o 2), .ref (o 4), .ref (o 6), .ref (o 8), .ref (o 10)])), (a_ 0, .inr (4, [.int (nI (T.s 2)), .int (nI (T.s 3)), .int (nI (T.s 4)), .int (nI (T.s 0)), .int (nI (T.s 6)), .ref (a_ 1), .ref (a_ 2), .ref (a_ 3), .ref (a_ 4), .ref (a_ 6)])), (a_ 1, .inl (G.2.2.1, 40, .inr (.inl (T.p)))), (o 4, .inr (0, [.ref (o 5), .int (nI dn)])), (o 5, .inl (G.2.2.1, 40, .inr (.inl (f_))))] _ := hP.sub [0, 4, 1, 2, 3] rfl
      have hD : va_D A [(x_, .inr (6, [.ref (a_ 0), .ref (o 0), .ref (o 2), .ref (o 4), .ref (o 6), .ref (o 8), .ref (o 10)])), (a_ 0, .inr (4, [.int (nI (T.s 2)), .int (nI (T.s 3)), .int (nI (T.s 4)), .int (nI (T.s 0)), .int (nI (T.s 6)), .ref (a_ 1), .ref (a_ 2), .ref (a_ 3), .ref (a_ 4), .ref (a_ 6)])), (a_ 1, .inl (G.2.2.1, 40, .inr (.inl (T.p)))), (o 4, .inr (0, [.ref (o 5), .int (nI dn)])), (o 5, .inl (G.2.2.1, 40, .inr (.inl (f_))))] := hD.sub [0, 4, 1, 2, 3] rfl rfl
      refine ks_ifb_ne (tgt := 56) hx hb dX6_difference_51 (by decide) (fun c_51 => ?_) (fun c_51 => ?_)
      · refine lv_aload_n hx hb dX6_difference_56 rfl (lv_at hl 0 rfl) ?_
        refine va_get (D := G.1) (ci := 6) (v := .ref (o 4)) (C := RX6) (T := TX6) (N := 7) hx hb hts hin6 hown hK hP 0 rfl rfl 3 (by decide) (hts (.fieldLink RX6 33 "PowerTables" "differences" "LPowerTables$Differences;") (List.mem_of_getElem? (i := 6) rfl)) (fun _ h9 => h9) rfl dX6_difference_57 ?_
        refine cr_V (wr := [(x_, .inr (6, [.ref (a_ 0), .ref (o 0), .ref (o 2), .ref (o 4), .ref (o 6), .ref (o 8), .ref (o 10)])), (a_ 0, .inr (4, [.int (nI (T.s 2)), .int (nI (T.s 3)), .int (nI (T.s 4)), .int (nI (T.s 0)), .int (nI (T.s 6)), .ref (a_ 1), .ref (a_ 2), .ref (a_ 3), .ref (a_ 4), .ref (a_ 6)])), (a_ 1, .inl (G.2.2.1, 40, .inr (.inl (T.p))))]) (As := []) (rest := []) ⟨hx, hb, hml, hown, hts⟩ (c_X0_clear G l (o 4) (o 5) f_ dn ) (cwV 0 hts gX6_difference_X0_clear rfl rfl rfl (by decide +kernel) ⟨Nat.le_of_ble_eq_true rfl, Nat.le_of_ble_eq_true rfl⟩) dX6_difference_60 hK hNX hP hD hS hA hl 3 0 rfl rfl rfl [3, 4] [0, 1, 2] rfl rfl rfl rfl (by decide) rfl (Nat.le_of_ble_eq_true rfl) ⟨Nat.le_of_ble_eq_true rfl, Nat.le_of_ble_eq_true rfl⟩ rfl (fun v' w' Hq lcq hR' hP hD hS => ?_)
        obtain ⟨rfl, rfl⟩ := hR'
        have hP : va_P G.1 vwCl [(x_, .inr (6, [.ref (a_ 0), .ref (o 0), .ref (o 2), .ref (o 4), .ref (o 6), .ref (o 8), .ref (o 10)])), (a_ 0, .inr (4, [.int (nI (T.s 2)), .int (nI (T.s 3)), .int (nI (T.s 4)), .int (nI (T.s 0)), .int (nI (T.s 6)), .ref (a_ 1), .ref (a_ 2), .ref (a_ 3), .ref (a_ 4), .ref (a_ 6)])), (a_ 1, .inl (G.2.2.1, 40, .inr (.inl (T.p)))), (o 4, .inr (0, [.ref (o 5), .int (nI 0)])), (o 5, .inl (G.2.2.1, 40, .inr (.inl (f_))))] _ := hP.sub [0, 1, 2, 3, 4] rfl
        have hD : va_D A [(x_, .inr (6, [.ref (a_ 0), .ref (o 0), .ref (o 2), .ref (o 4), .ref (o 6), .ref (o 8), .ref (o 10)])), (a_ 0, .inr (4, [.int (nI (T.s 2)), .int (nI (T.s 3)), .int (nI (T.s 4)), .int (nI (T.s 0)), .int (nI (T.s 6)), .ref (a_ 1), .ref (a_ 2), .ref (a_ 3), .ref (a_ 4), .ref (a_ 6)])), (a_ 1, .inl (G.2.2.1, 40, .inr (.inl (T.p)))), (o 4, .inr (0, [.ref (o 5), .int (nI 0)])), (o 5, .inl (G.2.2.1, 40, .inr (.inl (f_))))] := hD.sub [0, 1, 2, 3, 4] rfl rfl
        refine lv_iload_n hx hb dX6_difference_63 rfl (lv_at hl 2 rfl) ?_
        refine lv_istore_n (lv' := [(3, .int (nI i_)), (0, .ref x_), (1, .int (nI j_)), (2, .int (nI i_))]) hx hb dX6_difference_64 rfl hl (by decide) rfl (fun ls hl => ?_)
        have L_65 : ∀ (n_65 : Nat) (k_ : Nat) (_ : 8 - k_ < n_65) (jk : k_ ≤ j_ + 1) (Hq : Heap) (lcq : List Loc), va_P G.1 vwCl [(x_, .inr (6, [.ref (a_ 0), .ref (o 0), .ref (o 2), .ref (o 4), .ref (o 6), .ref (o 8), .ref (o 10)])), (a_ 0, .inr (4, [.int (nI (T.s 2)), .int (nI (T.s 3)), .int (nI (T.s 4)), .int (nI (T.s 0)), .int (nI (T.s 6)), .ref (a_ 1), .ref (a_ 2), .ref (a_ 3), .ref (a_ 4), .ref (a_ 6)])), (a_ 1, .inl (G.2.2.1, 40, .inr (.inl (T.p)))), (o 4, .inr (0, [.ref (o 5), .int (nI k_)])), (o 5, .inl (G.2.2.1, 40, .inr (.inl (cpu f_ (fun q_ => T.p (i_ + q_)) k_))))] Hq → va_D A [(x_, .inr (6, [.ref (a_ 0), .ref (o 0), .ref (o 2), .ref (o 4), .ref (o 6), .ref (o 8), .ref (o 10)])), (a_ 0, .inr (4, [.int (nI (T.s 2)), .int (nI (T.s 3)), .int (nI (T.s 4)), .int (nI (T.s 0)), .int (nI (T.s 6)), .ref (a_ 1), .ref (a_ 2), .ref (a_ 3), .ref (a_ 4), .ref (a_ 6)])), (a_ 1, .inl (G.2.2.1, 40, .inr (.inl (T.p)))), (o 4, .inr (0, [.ref (o 5), .int (nI k_)])), (o 5, .inl (G.2.2.1, 40, .inr (.inl (cpu f_ (fun q_ => T.p (i_ + q_)) k_))))] → va_S A s.heap Hq lcq → ∀ ls : Array Slot, lv_has ls 4 [(3, .int (nI (i_ + k_))), (0, .ref x_), (1, .int (nI j_)), (2, .int (nI i_))] → W p l e ({ frames := 6, cells := 0, slots := 0, locals := 112 }) s m args below meth c Hq lcq 0 0 (MQ below (cr_Q G RR A) args s 0 0 A) (F0 m 65 ls []) := by
          intro n_65
          induction n_65 with
          | zero => intro k_ hmu_65; exact absurd hmu_65 (Nat.not_lt_zero _)
          | succ n_65 ih_65 =>
            intro k_ hmu_65 jk Hq lcq hP hD hS ls hl
            refine lv_iload_n hx hb dX6_difference_65 rfl (lv_at hl 0 rfl) ?_
            refine lv_iload_n hx hb dX6_difference_66 rfl (lv_at hl 3 rfl) ?_
            refine lv_iload_n hx hb dX6_difference_67 rfl (lv_at hl 2 rfl) ?_
            refine ks_iaddN hx hb dX6_difference_68 ?_
            refine ks_icmp_gt (tgt := 94) hx hb dX6_difference_69 (by decide) (by omega) (by omega) (fun c_69 => ?_) (fun c_69 => ?_)
            · obtain rfl : k_ = j_ + 1 := by omega
              refine lv_iconst (v := nI 0) hx hb dX6_difference_94 (by decide) ?_
              refine lv_istore_n (lv' := [(3, .int (nI 0)), (0, .ref x_), (1, .int (nI j_)), (2, .int (nI i_))]) hx hb dX6_difference_95 rfl hl (by decide) rfl (fun ls hl => ?_)
              have L_96 : ∀ (n_96 : Nat) (q_ : Nat) (f2_ : Nat → Int64) (n2_ : Nat) (_ : 7 - q_ < n_96) (jq : q_ ≤ j_) (jn2 : n2_ = j_ + 1 - q_) (jf_ : ∀ t, t < n2_ → f2_ t = dif T.p q_ (i_ + t)) (Hq : Heap) (lcq : List Loc), va_P G.1 vwCl [(x_, .inr (6, [.ref (a_ 0), .ref (o 0), .ref (o 2), .ref (o 4), .ref (o 6), .ref (o 8), .ref (o 10)])), (a_ 0, .inr (4, [.int (nI (T.s 2)), .int (nI (T.s 3)), .int (nI (T.s 4)), .int (nI (T.s 0)), .int (nI (T.s 6)), .ref (a_ 1), .ref (a_ 2), .ref (a_ 3), .ref (a_ 4), .ref (a_ 6)])), (a_ 1, .inl (G.2.2.1, 40, .inr (.inl (T.p)))), (o 4, .inr (0, [.ref (o 5), .int (nI n2_)])), (o 5, .inl (G.2.2.1, 40, .inr (.inl (f2_))))] Hq → va_D A [(x_, .inr (6, [.ref (a_ 0), .ref (o 0), .ref (o 2), .ref (o 4), .ref (o 6), .ref (o 8), .ref (o 10)])), (a_ 0, .inr (4, [.int (nI (T.s 2)), .int (nI (T.s 3)), .int (nI (T.s 4)), .int (nI (T.s 0)), .int (nI (T.s 6)), .ref (a_ 1), .ref (a_ 2), .ref (a_ 3), .ref (a_ 4), .ref (a_ 6)])), (a_ 1, .inl (G.2.2.1, 40, .inr (.inl (T.p)))), (o 4, .inr (0, [.ref (o 5), .int (nI n2_)])), (o 5, .inl (G.2.2.1, 40, .inr (.inl (f2_))))] → va_S A s.heap Hq lcq → ∀ ls : Array Slot, lv_has ls 4 [(3, .int (nI q_)), (0, .ref x_), (1, .int (nI j_))] → W p l e ({ frames := 6, cells := 0, slots := 0, locals := 112 }) s m args below meth c Hq lcq 0 0 (MQ below (cr_Q G RR A) args s 0 0 A) (F0 m 96 ls []) := by
                intro n_96
                induction n_96 with
                | zero => intro q_ f2_ n2_ hmu_96; exact absurd hmu_96 (Nat.not_lt_zero _)
                | succ n_96 ih_96 =>
                  intro q_ f2_ n2_ hmu_96 jq jn2 jf_ Hq lcq hP hD hS ls hl
                  refine lv_iload_n hx hb dX6_difference_96 rfl (lv_at hl 0 rfl) ?_
                  refine lv_iload_n hx hb dX6_difference_97 rfl (lv_at hl 2 rfl) ?_
                  refine ks_icmp_ge (tgt := 114) hx hb dX6_difference_98 (by decide) (by omega) (by omega) (fun c_98 => ?_) (fun c_98 => ?_)
                  · refine lv_aload_n hx hb dX6_difference_114 rfl (lv_at hl 1 rfl) ?_
                    refine va_get (D := G.1) (ci := 6) (v := .ref (o 4)) (C := RX6) (T := TX6) (N := 7) hx hb hts hin6 hown hK hP 0 rfl rfl 3 (by decide) (hts (.fieldLink RX6 33 "PowerTables" "differences" "LPowerTables$Differences;") (List.mem_of_getElem? (i := 6) rfl)) (fun _ h9 => h9) rfl dX6_difference_115 ?_
                    refine cr_V (wr := [(x_, .inr (6, [.ref (a_ 0), .ref (o 0), .ref (o 2), .ref (o 4), .ref (o 6), .ref (o 8), .ref (o 10)])), (a_ 0, .inr (4, [.int (nI (T.s 2)), .int (nI (T.s 3)), .int (nI (T.s 4)), .int (nI (T.s 0)), .int (nI (T.s 6)), .ref (a_ 1), .ref (a_ 2), .ref (a_ 3), .ref (a_ 4), .ref (a_ 6)])), (a_ 1, .inl (G.2.2.1, 40, .inr (.inl (T.p))))]) (As := []) (rest := []) ⟨hx, hb, hml, hown, hts⟩ (c_X0_leading G l (o 4) (o 5) f2_ n2_ (by omega) (by omega)) (cwV 0 hts gX6_difference_X0_leading rfl rfl rfl (by decide +kernel) ⟨Nat.le_of_ble_eq_true rfl, Nat.le_of_ble_eq_true rfl⟩) dX6_difference_118 hK hNX hP hD hS hA hl 3 0 rfl rfl rfl [3, 4] [0, 1, 2] rfl rfl rfl rfl (by decide) rfl (Nat.le_of_ble_eq_true rfl) ⟨Nat.le_of_ble_eq_true rfl, Nat.le_of_ble_eq_true rfl⟩ rfl (fun v' w' Hq lcq hR' hP hD hS => ?_)
                    obtain ⟨rfl, rfl⟩ := hR'
                    have hP : va_P G.1 vwCl [(x_, .inr (6, [.ref (a_ 0), .ref (o 0), .ref (o 2), .ref (o 4), .ref (o 6), .ref (o 8), .ref (o 10)])), (a_ 0, .inr (4, [.int (nI (T.s 2)), .int (nI (T.s 3)), .int (nI (T.s 4)), .int (nI (T.s 0)), .int (nI (T.s 6)), .ref (a_ 1), .ref (a_ 2), .ref (a_ 3), .ref (a_ 4), .ref (a_ 6)])), (a_ 1, .inl (G.2.2.1, 40, .inr (.inl (T.p)))), (o 4, .inr (0, [.ref (o 5), .int (nI n2_)])), (o 5, .inl (G.2.2.1, 40, .inr (.inl (f2_))))] _ := hP.sub [0, 1, 2, 3, 4] rfl
                    have hD : va_D A [(x_, .inr (6, [.ref (a_ 0), .ref (o 0), .ref (o 2), .ref (o 4), .ref (o 6), .ref (o 8), .ref (o 10)])), (a_ 0, .inr (4, [.int (nI (T.s 2)), .int (nI (T.s 3)), .int (nI (T.s 4)), .int (nI (T.s 0)), .int (nI (T.s 6)), .ref (a_ 1), .ref (a_ 2), .ref (a_ 3), .ref (a_ 4), .ref (a_ 6)])), (a_ 1, .inl (G.2.2.1, 40, .inr (.inl (T.p)))), (o 4, .inr (0, [.ref (o 5), .int (nI n2_)])), (o 5, .inl (G.2.2.1, 40, .inr (.inl (f2_))))] := hD.sub [0, 1, 2, 3, 4] rfl rfl
                    have hv : f2_ 0 = dfA T j_ i_ := by rw [jf_ 0 (by omega), show q_ = j_ by omega]; exact (if_pos c_51).symm
                    exact cr_lret hx hb hr hlocks hK hP hD hS dX6_difference_121 (by rw [hRR]; exact ⟨_, _, congrArg (fun z => some (Value.long z)) (hv), rfl⟩)
                  · refine lv_aload_n hx hb dX6_difference_101 rfl (lv_at hl 1 rfl) ?_
                    refine va_get (D := G.1) (ci := 6) (v := .ref (o 4)) (C := RX6) (T := TX6) (N := 7) hx hb hts hin6 hown hK hP 0 rfl rfl 3 (by decide) (hts (.fieldLink RX6 33 "PowerTables" "differences" "LPowerTables$Differences;") (List.mem_of_getElem? (i := 6) rfl)) (fun _ h9 => h9) rfl dX6_difference_102 ?_
                    refine cr_V (wr := [(x_, .inr (6, [.ref (a_ 0), .ref (o 0), .ref (o 2), .ref (o 4), .ref (o 6), .ref (o 8), .ref (o 10)])), (a_ 0, .inr (4, [.int (nI (T.s 2)), .int (nI (T.s 3)), .int (nI (T.s 4)), .int (nI (T.s 0)), .int (nI (T.s 6)), .ref (a_ 1), .ref (a_ 2), .ref (a_ 3), .ref (a_ 4), .ref (a_ 6)])), (a_ 1, .inl (G.2.2.1, 40, .inr (.inl (T.p))))]) (As := []) (rest := []) ⟨hx, hb, hml, hown, hts⟩ (c_X0_raiseOrder G l (o 4) (o 5) f2_ n2_ (by omega)) (cwV 0 hts gX6_difference_X0_raiseOrder rfl rfl rfl (by decide +kernel) ⟨Nat.le_of_ble_eq_true rfl, Nat.le_of_ble_eq_true rfl⟩) dX6_difference_105 hK hNX hP hD hS hA hl 3 0 rfl rfl rfl [3, 4] [0, 1, 2] rfl rfl rfl rfl (by decide) rfl (Nat.le_of_ble_eq_true rfl) ⟨Nat.le_of_ble_eq_true rfl, Nat.le_of_ble_eq_true rfl⟩ rfl (fun v' w' Hq lcq hR' hP hD hS => ?_)
                    obtain ⟨rfl, rfl⟩ := hR'
                    have hP : va_P G.1 vwCl [(x_, .inr (6, [.ref (a_ 0), .ref (o 0), .ref (o 2), .ref (o 4), .ref (o 6), .ref (o 8), .ref (o 10)])), (a_ 0, .inr (4, [.int (nI (T.s 2)), .int (nI (T.s 3)), .int (nI (T.s 4)), .int (nI (T.s 0)), .int (nI (T.s 6)), .ref (a_ 1), .ref (a_ 2), .ref (a_ 3), .ref (a_ 4), .ref (a_ 6)])), (a_ 1, .inl (G.2.2.1, 40, .inr (.inl (T.p)))), (o 4, .inr (0, [.ref (o 5), .int (nI (n2_ - 1))])), (o 5, .inl (G.2.2.1, 40, .inr (.inl (dfu f2_ (n2_ - 1)))))] _ := hP.sub [0, 1, 2, 3, 4] rfl
                    have hD : va_D A [(x_, .inr (6, [.ref (a_ 0), .ref (o 0), .ref (o 2), .ref (o 4), .ref (o 6), .ref (o 8), .ref (o 10)])), (a_ 0, .inr (4, [.int (nI (T.s 2)), .int (nI (T.s 3)), .int (nI (T.s 4)), .int (nI (T.s 0)), .int (nI (T.s 6)), .ref (a_ 1), .ref (a_ 2), .ref (a_ 3), .ref (a_ 4), .ref (a_ 6)])), (a_ 1, .inl (G.2.2.1, 40, .inr (.inl (T.p)))), (o 4, .inr (0, [.ref (o 5), .int (nI (n2_ - 1))])), (o 5, .inl (G.2.2.1, 40, .inr (.inl (dfu f2_ (n2_ - 1)))))] := hD.sub [0, 1, 2, 3, 4] rfl rfl
                    refine lv_iinc (v := nI (q_ + 1)) (lv' := [(3, .int (nI (q_ + 1))), (0, .ref x_), (1, .int (nI j_))]) hx hb dX6_difference_108 hl (k := 0) rfl (ks_inc q_ 1) (by decide) rfl (fun ls hl => ?_)
                    refine lv_goto (tgt := 96) hx hb dX6_difference_111 (by decide) ?_
                    exact ih_96  (q_ + 1) (dfu f2_ (n2_ - 1)) (n2_ - 1) (by omega) (by omega) (by omega) (fun t ht => by rw [dfu_lo (by omega), jf_ _ (by omega), jf_ _ (by omega)]; rfl) _ _ hP hD hS ls (lv_sub hl [0, 1, 2] rfl)
              exact L_96 _ 0 (cpu f_ (fun q_ => T.p (i_ + q_)) (j_ + 1)) (j_ + 1) (Nat.lt_succ_self _) (by omega) (by omega) (fun t ht => cpu_lo ht) _ _ hP hD hS ls (lv_sub hl [0, 1, 2] rfl)
            · refine lv_aload_n hx hb dX6_difference_72 rfl (lv_at hl 1 rfl) ?_
              refine va_get (D := G.1) (ci := 6) (v := .ref (o 4)) (C := RX6) (T := TX6) (N := 7) hx hb hts hin6 hown hK hP 0 rfl rfl 3 (by decide) (hts (.fieldLink RX6 33 "PowerTables" "differences" "LPowerTables$Differences;") (List.mem_of_getElem? (i := 6) rfl)) (fun _ h9 => h9) rfl dX6_difference_73 ?_
              refine lv_aload_n hx hb dX6_difference_76 rfl (lv_at hl 1 rfl) ?_
              refine va_get (D := G.1) (ci := 6) (v := .ref (a_ 0)) (C := RX6) (T := TX6) (N := 7) hx hb hts hin6 hown hK hP 0 rfl rfl 0 (by decide) (hts (.fieldLink RX6 10 "PowerTables" "table" "LPowerTables$Table;") (List.mem_of_getElem? (i := 5) rfl)) (fun _ h9 => h9) rfl dX6_difference_77 ?_
              refine va_getN (D := G.1) (ci := 4) (v := .ref (a_ 1)) (C := RX4) (T := TX4) (N := 10) hx hb hts hin4 hown hK hP 1 rfl rfl 5 (by decide) (va_Nw.use rfl (hNX.1 (201, "PowerTables$Table", "printed", "[J") (List.mem_of_getElem? (i := 5) rfl))) (fun _ h9 => h9) rfl dX6_difference_80 ?_
              refine lv_iload_n hx hb dX6_difference_83 rfl (lv_at hl 0 rfl) ?_
              refine ks_lald hx hb hK hP 2 rfl (by omega) (by decide) dX6_difference_84 ?_
              refine cr_V (wr := [(x_, .inr (6, [.ref (a_ 0), .ref (o 0), .ref (o 2), .ref (o 4), .ref (o 6), .ref (o 8), .ref (o 10)])), (a_ 0, .inr (4, [.int (nI (T.s 2)), .int (nI (T.s 3)), .int (nI (T.s 4)), .int (nI (T.s 0)), .int (nI (T.s 6)), .ref (a_ 1), .ref (a_ 2), .ref (a_ 3), .ref (a_ 4), .ref (a_ 6)])), (a_ 1, .inl (G.2.2.1, 40, .inr (.inl (T.p))))]) (As := [.long (T.p (i_ + k_))]) (rest := []) ⟨hx, hb, hml, hown, hts⟩ (c_X0_put G l (o 4) (o 5) (cpu f_ (fun q_ => T.p (i_ + q_)) k_) k_ (T.p (i_ + k_)) (by omega)) (cwV 1 hts gX6_difference_X0_put rfl rfl rfl (by decide +kernel) ⟨Nat.le_of_ble_eq_true rfl, Nat.le_of_ble_eq_true rfl⟩) dX6_difference_85 hK hNX hP hD hS hA hl 3 0 rfl rfl rfl [3, 4] [0, 1, 2] rfl rfl rfl rfl (by decide) rfl (Nat.le_of_ble_eq_true rfl) ⟨Nat.le_of_ble_eq_true rfl, Nat.le_of_ble_eq_true rfl⟩ rfl (fun v' w' Hq lcq hR' hP hD hS => ?_)
              obtain ⟨rfl, rfl⟩ := hR'
              have hP : va_P G.1 vwCl [(x_, .inr (6, [.ref (a_ 0), .ref (o 0), .ref (o 2), .ref (o 4), .ref (o 6), .ref (o 8), .ref (o 10)])), (a_ 0, .inr (4, [.int (nI (T.s 2)), .int (nI (T.s 3)), .int (nI (T.s 4)), .int (nI (T.s 0)), .int (nI (T.s 6)), .ref (a_ 1), .ref (a_ 2), .ref (a_ 3), .ref (a_ 4), .ref (a_ 6)])), (a_ 1, .inl (G.2.2.1, 40, .inr (.inl (T.p)))), (o 4, .inr (0, [.ref (o 5), .int (nI (k_ + 1))])), (o 5, .inl (G.2.2.1, 40, .inr (.inl (vp_updL (cpu f_ (fun q_ => T.p (i_ + q_)) k_) k_ (T.p (i_ + k_))))))] _ := hP.sub [0, 1, 2, 3, 4] rfl
              have hD : va_D A [(x_, .inr (6, [.ref (a_ 0), .ref (o 0), .ref (o 2), .ref (o 4), .ref (o 6), .ref (o 8), .ref (o 10)])), (a_ 0, .inr (4, [.int (nI (T.s 2)), .int (nI (T.s 3)), .int (nI (T.s 4)), .int (nI (T.s 0)), .int (nI (T.s 6)), .ref (a_ 1), .ref (a_ 2), .ref (a_ 3), .ref (a_ 4), .ref (a_ 6)])), (a_ 1, .inl (G.2.2.1, 40, .inr (.inl (T.p)))), (o 4, .inr (0, [.ref (o 5), .int (nI (k_ + 1))])), (o 5, .inl (G.2.2.1, 40, .inr (.inl (vp_updL (cpu f_ (fun q_ => T.p (i_ + q_)) k_) k_ (T.p (i_ + k_))))))] := hD.sub [0, 1, 2, 3, 4] rfl rfl
              have hP := hP.cgJ 4 (g := cpu f_ (fun q_ => T.p (i_ + q_)) (k_ + 1)) rfl (fun q_ _ => congrFun (cpu_sL f_ (fun q_ => T.p (i_ + q_)) k_) q_)
              have hD := hD.set (p := 4) (e := .inl (G.2.2.1, 40, .inr <| .inl (cpu f_ (fun q_ => T.p (i_ + q_)) (k_ + 1)))) rfl
              have hP : va_P G.1 vwCl [(x_, .inr (6, [.ref (a_ 0), .ref (o 0), .ref (o 2), .ref (o 4), .ref (o 6), .ref (o 8), .ref (o 10)])), (a_ 0, .inr (4, [.int (nI (T.s 2)), .int (nI (T.s 3)), .int (nI (T.s 4)), .int (nI (T.s 0)), .int (nI (T.s 6)), .ref (a_ 1), .ref (a_ 2), .ref (a_ 3), .ref (a_ 4), .ref (a_ 6)])), (a_ 1, .inl (G.2.2.1, 40, .inr (.inl (T.p)))), (o 4, .inr (0, [.ref (o 5), .int (nI (k_ + 1))])), (o 5, .inl (G.2.2.1, 40, .inr (.inl (cpu f_ (fun q_ => T.p (i_ + q_)) (k_ + 1)))))] _ := hP
              have hD : va_D A [(x_, .inr (6, [.ref (a_ 0), .ref (o 0), .ref (o 2), .ref (o 4), .ref (o 6), .ref (o 8), .ref (o 10)])), (a_ 0, .inr (4, [.int (nI (T.s 2)), .int (nI (T.s 3)), .int (nI (T.s 4)), .int (nI (T.s 0)), .int (nI (T.s 6)), .ref (a_ 1), .ref (a_ 2), .ref (a_ 3), .ref (a_ 4), .ref (a_ 6)])), (a_ 1, .inl (G.2.2.1, 40, .inr (.inl (T.p)))), (o 4, .inr (0, [.ref (o 5), .int (nI (k_ + 1))])), (o 5, .inl (G.2.2.1, 40, .inr (.inl (cpu f_ (fun q_ => T.p (i_ + q_)) (k_ + 1)))))] := hD
              refine lv_iinc (v := nI (i_ + k_ + 1)) (lv' := [(3, .int (nI (i_ + k_ + 1))), (0, .ref x_), (1, .int (nI j_)), (2, .int (nI i_))]) hx hb dX6_difference_88 hl (k := 0) rfl (ks_inc (i_ + k_) 1) (by decide) rfl (fun ls hl => ?_)
              refine lv_goto (tgt := 65) hx hb dX6_difference_91 (by decide) ?_
              exact ih_65  (k_ + 1) (by omega) (by omega) _ _ hP hD hS ls (lv_sub hl [0, 1, 2, 3] rfl)
        rw [← cpu_0 f_ (fun q_ => T.p (i_ + q_))] at hP hD
        exact L_65 _ 0 (Nat.lt_succ_self _) (by omega) _ _ hP hD hS ls (lv_sub hl [0, 1, 2, 3] rfl)
      · have hv : lN 0 = dfA T j_ i_ := (if_neg c_51).symm
        refine lv_lconst (v := lN 0) hx hb dX6_difference_54 rfl ?_
        exact cr_lret hx hb hr hlocks hK hP hD hS dX6_difference_55 (by rw [hRR]; exact ⟨_, _, congrArg (fun z => some (Value.long z)) (hv), rfl⟩)
    · exact absurd ji c_28
  · omega
set_option maxHeartbeats 4000000 in
set_option maxRecDepth 100000 in
theorem c_X6_wear (G : GG) (l : Launch) (x_ : Nat) (a_ : Nat → Nat) (o : Nat → Nat) (T : TS) (d_ : Nat) (jd : d_ < 10) : Cr G l yX6_wear wsX6_wear ({ frames := 6, cells := 0, slots := 0, locals := 112 }) 0 0 [.ref x_, .int (nI d_)] [(x_, .inr (6, [.ref (a_ 0), .ref (o 0), .ref (o 2), .ref (o 4), .ref (o 6), .ref (o 8), .ref (o 10)])), (a_ 0, .inr (4, [.int (nI (T.s 2)), .int (nI (T.s 3)), .int (nI (T.s 4)), .int (nI (T.s 0)), .int (nI (T.s 6)), .ref (a_ 1), .ref (a_ 2), .ref (a_ 3), .ref (a_ 4), .ref (a_ 6)])), (a_ 6, .inr (5, [.ref (a_ 7), .int (nI (T.s 1)), .int (nI (T.s 5))])), (a_ 7, .inl (G.2.1, 10, .inl (fun q9 => nI (T.w q9))))] (ctR (some (.int (nI (T.w d_)))) [(x_, .inr (6, [.ref (a_ 0), .ref (o 0), .ref (o 2), .ref (o 4), .ref (o 6), .ref (o 8), .ref (o 10)])), (a_ 0, .inr (4, [.int (nI (T.s 2)), .int (nI (T.s 3)), .int (nI (T.s 4)), .int (nI (T.s 0)), .int (nI (T.s 6)), .ref (a_ 1), .ref (a_ 2), .ref (a_ 3), .ref (a_ 4), .ref (a_ 6)])), (a_ 6, .inr (5, [.ref (a_ 7), .int (nI (T.s 1)), .int (nI (T.s 5))])), (a_ 7, .inl (G.2.1, 10, .inl (fun q9 => nI (T.w q9))))]) := by
  refine cr_intro (cc := cX6_wear) (maxL := 2) (ret := (some .int)) (own := RX6) (by decide) rfl rfl (Nat.le_of_ble_eq_true rfl) ?_
  intro p e s m args below meth c A hx hb hr hml hts hown hlocks hnm hNX hP hK hD hA hS ls hl
  obtain ⟨RR, hRR⟩ : ∃ RR, RR = (ctR (some (.int (nI (T.w d_)))) [(x_, .inr (6, [.ref (a_ 0), .ref (o 0), .ref (o 2), .ref (o 4), .ref (o 6), .ref (o 8), .ref (o 10)])), (a_ 0, .inr (4, [.int (nI (T.s 2)), .int (nI (T.s 3)), .int (nI (T.s 4)), .int (nI (T.s 0)), .int (nI (T.s 6)), .ref (a_ 1), .ref (a_ 2), .ref (a_ 3), .ref (a_ 4), .ref (a_ 6)])), (a_ 6, .inr (5, [.ref (a_ 7), .int (nI (T.s 1)), .int (nI (T.s 5))])), (a_ 7, .inl (G.2.1, 10, .inl (fun q9 => nI (T.w q9))))]) := ⟨_, rfl⟩
  rw [← hRR]
  have hl : lv_has ls 2 [(0, .ref x_), (1, .int (nI d_))] := hl
  have hin4 : ∀ w ∈ u_ws RX4 TX4 10, w ∈ wsX6_wear := fun w h => List.mem_cons_of_mem _ (List.mem_append_left _ (List.mem_append_left _ (List.mem_append_right _ h)))
  have hin5 : ∀ w ∈ u_ws RX5 TX5 3, w ∈ wsX6_wear := fun w h => List.mem_cons_of_mem _ (List.mem_append_left _ (List.mem_append_right _ h))
  have hin6 : ∀ w ∈ u_ws RX6 TX6 7, w ∈ wsX6_wear := fun w h => List.mem_cons_of_mem _ (List.mem_append_left _ (List.mem_append_left _ (List.mem_append_left _ (List.mem_append_right _ h))))
  refine lv_iload_n hx hb dX6_wear_0 rfl (lv_at hl 1 rfl) ?_
  refine cr_S (wr := [(x_, .inr (6, [.ref (a_ 0), .ref (o 0), .ref (o 2), .ref (o 4), .ref (o 6), .ref (o 8), .ref (o 10)])), (a_ 0, .inr (4, [.int (nI (T.s 2)), .int (nI (T.s 3)), .int (nI (T.s 4)), .int (nI (T.s 0)), .int (nI (T.s 6)), .ref (a_ 1), .ref (a_ 2), .ref (a_ 3), .ref (a_ 4), .ref (a_ 6)])), (a_ 6, .inr (5, [.ref (a_ 7), .int (nI (T.s 1)), .int (nI (T.s 5))])), (a_ 7, .inl (G.2.1, 10, .inl (fun q9 => nI (T.w q9))))]) (As := [.int (nI d_)]) (rest := []) ⟨hx, hb, hml, hown, hts⟩ (c_X6_isDigit G l (nI d_) ) (va_cwS 1 hts gX6_wear_X6_isDigit rfl rfl rfl (by decide +kernel) ⟨Nat.le_of_ble_eq_true rfl, Nat.le_of_ble_eq_true rfl⟩) dX6_wear_1 hK hNX hP hD hS hA hl [] [0, 1, 2, 3] rfl rfl rfl rfl (by decide) rfl (Nat.le_of_ble_eq_true rfl) ⟨Nat.le_of_ble_eq_true rfl, Nat.le_of_ble_eq_true rfl⟩ rfl (fun v' w' Hq lcq hR' hP hD hS => ?_)
  obtain ⟨rfl, rfl⟩ := hR'
  have hP : va_P G.1 vwCl [(x_, .inr (6, [.ref (a_ 0), .ref (o 0), .ref (o 2), .ref (o 4), .ref (o 6), .ref (o 8), .ref (o 10)])), (a_ 0, .inr (4, [.int (nI (T.s 2)), .int (nI (T.s 3)), .int (nI (T.s 4)), .int (nI (T.s 0)), .int (nI (T.s 6)), .ref (a_ 1), .ref (a_ 2), .ref (a_ 3), .ref (a_ 4), .ref (a_ 6)])), (a_ 6, .inr (5, [.ref (a_ 7), .int (nI (T.s 1)), .int (nI (T.s 5))])), (a_ 7, .inl (G.2.1, 10, .inl (fun q9 => nI (T.w q9))))] _ := hP.sub [0, 1, 2, 3] rfl
  have hD : va_D A [(x_, .inr (6, [.ref (a_ 0), .ref (o 0), .ref (o 2), .ref (o 4), .ref (o 6), .ref (o 8), .ref (o 10)])), (a_ 0, .inr (4, [.int (nI (T.s 2)), .int (nI (T.s 3)), .int (nI (T.s 4)), .int (nI (T.s 0)), .int (nI (T.s 6)), .ref (a_ 1), .ref (a_ 2), .ref (a_ 3), .ref (a_ 4), .ref (a_ 6)])), (a_ 6, .inr (5, [.ref (a_ 7), .int (nI (T.s 1)), .int (nI (T.s 5))])), (a_ 7, .inl (G.2.1, 10, .inl (fun q9 => nI (T.w q9))))] := hD.sub [0, 1, 2, 3] rfl rfl
  refine ks_ifb_ne (tgt := 17) hx hb dX6_wear_4 (by decide) (fun c_4 => ?_) (fun c_4 => ?_)
  · refine lv_aload_n hx hb dX6_wear_17 rfl (lv_at hl 0 rfl) ?_
    refine va_get (D := G.1) (ci := 6) (v := .ref (a_ 0)) (C := RX6) (T := TX6) (N := 7) hx hb hts hin6 hown hK hP 0 rfl rfl 0 (by decide) (hts (.fieldLink RX6 10 "PowerTables" "table" "LPowerTables$Table;") (List.mem_of_getElem? (i := 3) rfl)) (fun _ h9 => h9) rfl dX6_wear_18 ?_
    refine va_getN (D := G.1) (ci := 4) (v := .ref (a_ 6)) (C := RX4) (T := TX4) (N := 10) hx hb hts hin4 hown hK hP 1 rfl rfl 9 (by decide) (va_Nw.use rfl (hNX.1 (138, "PowerTables$Table", "types", "LPowerTables$Types;") (List.mem_of_getElem? (i := 0) rfl))) (fun _ h9 => h9) rfl dX6_wear_21 ?_
    refine va_getN (D := G.1) (ci := 5) (v := .ref (a_ 7)) (C := RX5) (T := TX5) (N := 3) hx hb hts hin5 hown hK hP 2 rfl rfl 0 (by decide) (va_Nw.use rfl (hNX.1 (254, "PowerTables$Types", "wears", "[I") (List.mem_of_getElem? (i := 9) rfl))) (fun _ h9 => h9) rfl dX6_wear_24 ?_
    refine lv_iload_n hx hb dX6_wear_27 rfl (lv_at hl 1 rfl) ?_
    refine ks_iald hx hb hK hP 3 rfl (by omega) (by decide) dX6_wear_28 ?_
    exact cr_iret hx hb hr hlocks hK hP hD hS dX6_wear_29 (by rw [hRR]; exact ctR_i (rfl) (rfl))
  · exact absurd ⟨nI_pos (by omega), nI_ge (by omega) (by decide)⟩ c_4
set_option maxHeartbeats 4000000 in
set_option maxRecDepth 100000 in
theorem c_X6_setting (G : GG) (l : Launch) (x_ : Nat) (a_ : Nat → Nat) (o : Nat → Nat) (T : TS) (k_ : Nat) (jk : k_ ≤ 1) : Cr G l yX6_setting wsX6_setting ({ frames := 6, cells := 0, slots := 0, locals := 112 }) 0 0 [.ref x_, .int (nI k_)] [(x_, .inr (6, [.ref (a_ 0), .ref (o 0), .ref (o 2), .ref (o 4), .ref (o 6), .ref (o 8), .ref (o 10)])), (a_ 0, .inr (4, [.int (nI (T.s 2)), .int (nI (T.s 3)), .int (nI (T.s 4)), .int (nI (T.s 0)), .int (nI (T.s 6)), .ref (a_ 1), .ref (a_ 2), .ref (a_ 3), .ref (a_ 4), .ref (a_ 6)])), (a_ 6, .inr (5, [.ref (a_ 7), .int (nI (T.s 1)), .int (nI (T.s 5))]))] (ctR (some (.int (nI (T.s k_)))) [(x_, .inr (6, [.ref (a_ 0), .ref (o 0), .ref (o 2), .ref (o 4), .ref (o 6), .ref (o 8), .ref (o 10)])), (a_ 0, .inr (4, [.int (nI (T.s 2)), .int (nI (T.s 3)), .int (nI (T.s 4)), .int (nI (T.s 0)), .int (nI (T.s 6)), .ref (a_ 1), .ref (a_ 2), .ref (a_ 3), .ref (a_ 4), .ref (a_ 6)])), (a_ 6, .inr (5, [.ref (a_ 7), .int (nI (T.s 1)), .int (nI (T.s 5))]))]) := by
  refine cr_intro (cc := cX6_setting) (maxL := 2) (ret := (some .int)) (own := RX6) (by decide) rfl rfl (Nat.le_of_ble_eq_true rfl) ?_
  intro p e s m args below meth c A hx hb hr hml hts hown hlocks hnm hNX hP hK hD hA hS ls hl
  obtain ⟨RR, hRR⟩ : ∃ RR, RR = (ctR (some (.int (nI (T.s k_)))) [(x_, .inr (6, [.ref (a_ 0), .ref (o 0), .ref (o 2), .ref (o 4), .ref (o 6), .ref (o 8), .ref (o 10)])), (a_ 0, .inr (4, [.int (nI (T.s 2)), .int (nI (T.s 3)), .int (nI (T.s 4)), .int (nI (T.s 0)), .int (nI (T.s 6)), .ref (a_ 1), .ref (a_ 2), .ref (a_ 3), .ref (a_ 4), .ref (a_ 6)])), (a_ 6, .inr (5, [.ref (a_ 7), .int (nI (T.s 1)), .int (nI (T.s 5))]))]) := ⟨_, rfl⟩
  rw [← hRR]
  have hl : lv_has ls 2 [(0, .ref x_), (1, .int (nI k_))] := hl
  refine lv_iload_n hx hb dX6_setting_0 rfl (lv_at hl 1 rfl) ?_
  refine cr_S (wr := [(x_, .inr (6, [.ref (a_ 0), .ref (o 0), .ref (o 2), .ref (o 4), .ref (o 6), .ref (o 8), .ref (o 10)])), (a_ 0, .inr (4, [.int (nI (T.s 2)), .int (nI (T.s 3)), .int (nI (T.s 4)), .int (nI (T.s 0)), .int (nI (T.s 6)), .ref (a_ 1), .ref (a_ 2), .ref (a_ 3), .ref (a_ 4), .ref (a_ 6)])), (a_ 6, .inr (5, [.ref (a_ 7), .int (nI (T.s 1)), .int (nI (T.s 5))]))]) (As := [.int (nI k_)]) (rest := []) ⟨hx, hb, hml, hown, hts⟩ (c_X6_isSetting G l (nI k_) ) (va_cwS 1 hts gX6_setting_X6_isSetting rfl rfl rfl (by decide +kernel) ⟨Nat.le_of_ble_eq_true rfl, Nat.le_of_ble_eq_true rfl⟩) dX6_setting_1 hK hNX hP hD hS hA hl [] [0, 1, 2] rfl rfl rfl rfl (by decide) rfl (Nat.le_of_ble_eq_true rfl) ⟨Nat.le_of_ble_eq_true rfl, Nat.le_of_ble_eq_true rfl⟩ rfl (fun v' w' Hq lcq hR' hP hD hS => ?_)
  obtain ⟨rfl, rfl⟩ := hR'
  have hP : va_P G.1 vwCl [(x_, .inr (6, [.ref (a_ 0), .ref (o 0), .ref (o 2), .ref (o 4), .ref (o 6), .ref (o 8), .ref (o 10)])), (a_ 0, .inr (4, [.int (nI (T.s 2)), .int (nI (T.s 3)), .int (nI (T.s 4)), .int (nI (T.s 0)), .int (nI (T.s 6)), .ref (a_ 1), .ref (a_ 2), .ref (a_ 3), .ref (a_ 4), .ref (a_ 6)])), (a_ 6, .inr (5, [.ref (a_ 7), .int (nI (T.s 1)), .int (nI (T.s 5))]))] _ := hP.sub [0, 1, 2] rfl
  have hD : va_D A [(x_, .inr (6, [.ref (a_ 0), .ref (o 0), .ref (o 2), .ref (o 4), .ref (o 6), .ref (o 8), .ref (o 10)])), (a_ 0, .inr (4, [.int (nI (T.s 2)), .int (nI (T.s 3)), .int (nI (T.s 4)), .int (nI (T.s 0)), .int (nI (T.s 6)), .ref (a_ 1), .ref (a_ 2), .ref (a_ 3), .ref (a_ 4), .ref (a_ 6)])), (a_ 6, .inr (5, [.ref (a_ 7), .int (nI (T.s 1)), .int (nI (T.s 5))]))] := hD.sub [0, 1, 2] rfl rfl
  refine ks_ifb_ne (tgt := 17) hx hb dX6_setting_4 (by decide) (fun c_4 => ?_) (fun c_4 => ?_)
  · refine lv_aload_n hx hb dX6_setting_17 rfl (lv_at hl 0 rfl) ?_
    refine lv_iload_n hx hb dX6_setting_18 rfl (lv_at hl 1 rfl) ?_
    refine cr_V (wr := []) (As := [.int (nI k_)]) (rest := []) ⟨hx, hb, hml, hown, hts⟩ (c_X6_settingNow G l x_ a_ o T k_ (by omega)) (cwV 1 hts gX6_setting_X6_settingNow rfl rfl rfl (by decide +kernel) ⟨Nat.le_of_ble_eq_true rfl, Nat.le_of_ble_eq_true rfl⟩) dX6_setting_19 hK hNX hP hD hS hA hl 0 6 rfl rfl rfl [0, 1, 2] [] rfl rfl rfl rfl (by decide) rfl (Nat.le_of_ble_eq_true rfl) ⟨Nat.le_of_ble_eq_true rfl, Nat.le_of_ble_eq_true rfl⟩ rfl (fun v' w' Hq lcq hR' hP hD hS => ?_)
    obtain ⟨rfl, rfl⟩ := hR'
    have hP : va_P G.1 vwCl [(x_, .inr (6, [.ref (a_ 0), .ref (o 0), .ref (o 2), .ref (o 4), .ref (o 6), .ref (o 8), .ref (o 10)])), (a_ 0, .inr (4, [.int (nI (T.s 2)), .int (nI (T.s 3)), .int (nI (T.s 4)), .int (nI (T.s 0)), .int (nI (T.s 6)), .ref (a_ 1), .ref (a_ 2), .ref (a_ 3), .ref (a_ 4), .ref (a_ 6)])), (a_ 6, .inr (5, [.ref (a_ 7), .int (nI (T.s 1)), .int (nI (T.s 5))]))] _ := hP.sub [0, 1, 2] rfl
    have hD : va_D A [(x_, .inr (6, [.ref (a_ 0), .ref (o 0), .ref (o 2), .ref (o 4), .ref (o 6), .ref (o 8), .ref (o 10)])), (a_ 0, .inr (4, [.int (nI (T.s 2)), .int (nI (T.s 3)), .int (nI (T.s 4)), .int (nI (T.s 0)), .int (nI (T.s 6)), .ref (a_ 1), .ref (a_ 2), .ref (a_ 3), .ref (a_ 4), .ref (a_ 6)])), (a_ 6, .inr (5, [.ref (a_ 7), .int (nI (T.s 1)), .int (nI (T.s 5))]))] := hD.sub [0, 1, 2] rfl rfl
    exact cr_iret hx hb hr hlocks hK hP hD hS dX6_setting_22 (by rw [hRR]; exact ctR_i (rfl) (rfl))
  · exact absurd ⟨nI_pos (by omega), nI_ge (by omega) (by decide)⟩ c_4
set_option maxHeartbeats 4000000 in
set_option maxRecDepth 100000 in
theorem c_X6_count (G : GG) (l : Launch) (x_ : Nat) (a_ : Nat → Nat) (o : Nat → Nat) (T : TS) (g_ : Nat → Int64) (n_ : Nat) (f_ : Nat → Int64) (dn : Nat) (rr : Nat → Int64) (w_ : Nat) (jw : w_ < 12) (jf_ : T.s 3 ≤ 99) (jp : T.s 2 ≤ 5) (jn4 : T.s 4 ≤ 40) (jz : 1 ≤ T.s 0) (jz2 : T.s 0 ≤ 20) : Cr G l yX6_count wsX6_count ({ frames := 6, cells := 0, slots := 0, locals := 112 }) 0 0 [.ref x_, .int (nI w_)] [(x_, .inr (6, [.ref (a_ 0), .ref (o 0), .ref (o 2), .ref (o 4), .ref (o 6), .ref (o 8), .ref (o 10)])), (a_ 0, .inr (4, [.int (nI (T.s 2)), .int (nI (T.s 3)), .int (nI (T.s 4)), .int (nI (T.s 0)), .int (nI (T.s 6)), .ref (a_ 1), .ref (a_ 2), .ref (a_ 3), .ref (a_ 4), .ref (a_ 6)])), (a_ 1, .inl (G.2.2.1, 40, .inr (.inl (T.p)))), (a_ 2, .inl (G.2.2.1, 40, .inr (.inl (g_)))), (a_ 3, .inl (G.2.1, 40, .inl (fun q9 => nI (T.b q9)))), (a_ 4, .inr (2, [.ref (a_ 5)])), (a_ 5, .inl (G.2.2.1, 6, .inr (.inl (T.r)))), (a_ 6, .inr (5, [.ref (a_ 7), .int (nI (T.s 1)), .int (nI (T.s 5))])), (o 0, .inr (3, [.ref (o 1), .int (nI n_)])), (o 4, .inr (0, [.ref (o 5), .int (nI dn)])), (o 5, .inl (G.2.2.1, 40, .inr (.inl (f_)))), (o 6, .inr (2, [.ref (o 7)])), (o 7, .inl (G.2.2.1, 6, .inr (.inl (rr))))] (fun (vv1 : Option Value) (ww1 : va_W) => ∃ (fz : Nat → Int64) (nz : Nat) (rz : Nat → Int64), vv1 = (some (.int (cntA T g_ n_ w_))) ∧ ww1 = [(x_, .inr (6, [.ref (a_ 0), .ref (o 0), .ref (o 2), .ref (o 4), .ref (o 6), .ref (o 8), .ref (o 10)])), (a_ 0, .inr (4, [.int (nI (T.s 2)), .int (nI (T.s 3)), .int (nI (T.s 4)), .int (nI (T.s 0)), .int (nI (T.s 6)), .ref (a_ 1), .ref (a_ 2), .ref (a_ 3), .ref (a_ 4), .ref (a_ 6)])), (a_ 1, .inl (G.2.2.1, 40, .inr (.inl (T.p)))), (a_ 2, .inl (G.2.2.1, 40, .inr (.inl (g_)))), (a_ 3, .inl (G.2.1, 40, .inl (fun q9 => nI (T.b q9)))), (a_ 4, .inr (2, [.ref (a_ 5)])), (a_ 5, .inl (G.2.2.1, 6, .inr (.inl (T.r)))), (a_ 6, .inr (5, [.ref (a_ 7), .int (nI (T.s 1)), .int (nI (T.s 5))])), (o 0, .inr (3, [.ref (o 1), .int (nI n_)])), (o 4, .inr (0, [.ref (o 5), .int (nI nz)])), (o 5, .inl (G.2.2.1, 40, .inr (.inl (fz)))), (o 6, .inr (2, [.ref (o 7)])), (o 7, .inl (G.2.2.1, 6, .inr (.inl (rz))))]) := by
  refine cr_intro (cc := cX6_count) (maxL := 2) (ret := (some .int)) (own := RX6) (by decide) rfl rfl (Nat.le_of_ble_eq_true rfl) ?_
  intro p e s m args below meth c A hx hb hr hml hts hown hlocks hnm hNX hP hK hD hA hS ls hl
  obtain ⟨RR, hRR⟩ : ∃ RR, RR = (fun (vv1 : Option Value) (ww1 : va_W) => ∃ (fz : Nat → Int64) (nz : Nat) (rz : Nat → Int64), vv1 = (some (.int (cntA T g_ n_ w_))) ∧ ww1 = [(x_, .inr (6, [.ref (a_ 0), .ref (o 0), .ref (o 2), .ref (o 4), .ref (o 6), .ref (o 8), .ref (o 10)])), (a_ 0, .inr (4, [.int (nI (T.s 2)), .int (nI (T.s 3)), .int (nI (T.s 4)), .int (nI (T.s 0)), .int (nI (T.s 6)), .ref (a_ 1), .ref (a_ 2), .ref (a_ 3), .ref (a_ 4), .ref (a_ 6)])), (a_ 1, .inl (G.2.2.1, 40, .inr (.inl (T.p)))), (a_ 2, .inl (G.2.2.1, 40, .inr (.inl (g_)))), (a_ 3, .inl (G.2.1, 40, .inl (fun q9 => nI (T.b q9)))), (a_ 4, .inr (2, [.ref (a_ 5)])), (a_ 5, .inl (G.2.2.1, 6, .inr (.inl (T.r)))), (a_ 6, .inr (5, [.ref (a_ 7), .int (nI (T.s 1)), .int (nI (T.s 5))])), (o 0, .inr (3, [.ref (o 1), .int (nI n_)])), (o 4, .inr (0, [.ref (o 5), .int (nI nz)])), (o 5, .inl (G.2.2.1, 40, .inr (.inl (fz)))), (o 6, .inr (2, [.ref (o 7)])), (o 7, .inl (G.2.2.1, 6, .inr (.inl (rz))))]) := ⟨_, rfl⟩
  rw [← hRR]
  have hl : lv_has ls 2 [(0, .ref x_), (1, .int (nI w_))] := hl
  have hin3 : ∀ w_ ∈ u_ws RX3 TX3 2, w_ ∈ wsX6_count := fun w_ h => List.mem_cons_of_mem _ (List.mem_append_left _ (List.mem_append_left _ (List.mem_append_left _ (List.mem_append_right _ h))))
  have hin4 : ∀ w_ ∈ u_ws RX4 TX4 10, w_ ∈ wsX6_count := fun w_ h => List.mem_cons_of_mem _ (List.mem_append_left _ (List.mem_append_left _ (List.mem_append_left _ (List.mem_append_left _ (List.mem_append_left _ (List.mem_append_right _ h))))))
  have hin5 : ∀ w_ ∈ u_ws RX5 TX5 3, w_ ∈ wsX6_count := fun w_ h => List.mem_cons_of_mem _ (List.mem_append_left _ (List.mem_append_left _ (List.mem_append_left _ (List.mem_append_left _ (List.mem_append_right _ h)))))
  have hin6 : ∀ w_ ∈ u_ws RX6 TX6 7, w_ ∈ wsX6_count := fun w_ h => List.mem_cons_of_mem _ (List.mem_append_left _ (List.mem_append_left _ (List.mem_append_left _ (List.mem_append_left _ (List.mem_append_left _ (List.mem_append_left _ (List.mem_append_right _ h)))))))
  rcases (show w_ = 0 ∨ w_ = 1 ∨ w_ = 2 ∨ w_ = 3 ∨ w_ = 4 ∨ w_ = 5 ∨ w_ = 6 ∨ w_ = 7 ∨ w_ = 8 ∨ w_ = 9 ∨ w_ = 10 ∨ w_ = 11 by omega) with rfl | rfl | rfl | rfl | rfl | rfl | rfl | rfl | rfl | rfl | rfl | rfl
  · refine lv_iload_n hx hb dX6_count_0 rfl (lv_at hl 1 rfl) ?_
    refine ks_if_lt (tgt := 10) hx hb dX6_count_1 (by decide) (by omega) ?_
    refine lv_iload_n hx hb dX6_count_4 rfl (lv_at hl 1 rfl) ?_
    refine lv_bipush (v := nI 12) hx hb dX6_count_5 (by decide) ?_
    refine ks_icmp_lt (tgt := 21) hx hb dX6_count_7 (by decide) (by omega) (by omega) (fun c_7 => ?_) (fun c_7 => ?_)
    · refine lv_iload_n hx hb dX6_count_21 rfl (lv_at hl 1 rfl) ?_
      refine lv_tableIn (off := 58) (tgt := 80) hx hb dX6_count_22 (by decide) (by decide) (by decide +kernel) (by decide) ?_
      refine lv_aload_n hx hb dX6_count_80 rfl (lv_at hl 0 rfl) ?_
      refine va_get (D := G.1) (ci := 6) (v := .ref (a_ 0)) (C := RX6) (T := TX6) (N := 7) hx hb hts hin6 hown hK hP 0 rfl rfl 0 (by decide) (hts (.fieldLink RX6 10 "PowerTables" "table" "LPowerTables$Table;") (List.mem_of_getElem? (i := 3) rfl)) (fun _ h9 => h9) rfl dX6_count_81 ?_
      refine va_getN (D := G.1) (ci := 4) (v := .int (nI (T.s 2))) (C := RX4) (T := TX4) (N := 10) hx hb hts hin4 hown hK hP 1 rfl rfl 0 (by decide) (va_Nw.use rfl (hNX.1 (54, "PowerTables$Table", "power", "I") (List.mem_of_getElem? (i := 12) rfl))) (fun _ h9 => h9) rfl dX6_count_84 ?_
      exact cr_iret hx hb hr hlocks hK hP hD hS dX6_count_87 (by rw [hRR]; exact ⟨_, _, _, congrArg (fun z => some (Value.int z)) (rfl), rfl⟩)
    · omega
  · refine lv_iload_n hx hb dX6_count_0 rfl (lv_at hl 1 rfl) ?_
    refine ks_if_lt (tgt := 10) hx hb dX6_count_1 (by decide) (by omega) ?_
    refine lv_iload_n hx hb dX6_count_4 rfl (lv_at hl 1 rfl) ?_
    refine lv_bipush (v := nI 12) hx hb dX6_count_5 (by decide) ?_
    refine ks_icmp_lt (tgt := 21) hx hb dX6_count_7 (by decide) (by omega) (by omega) (fun c_7 => ?_) (fun c_7 => ?_)
    · refine lv_iload_n hx hb dX6_count_21 rfl (lv_at hl 1 rfl) ?_
      refine lv_tableIn (off := 66) (tgt := 88) hx hb dX6_count_22 (by decide) (by decide) (by decide +kernel) (by decide) ?_
      refine lv_aload_n hx hb dX6_count_88 rfl (lv_at hl 0 rfl) ?_
      refine va_get (D := G.1) (ci := 6) (v := .ref (a_ 0)) (C := RX6) (T := TX6) (N := 7) hx hb hts hin6 hown hK hP 0 rfl rfl 0 (by decide) (hts (.fieldLink RX6 10 "PowerTables" "table" "LPowerTables$Table;") (List.mem_of_getElem? (i := 3) rfl)) (fun _ h9 => h9) rfl dX6_count_89 ?_
      refine va_getN (D := G.1) (ci := 4) (v := .int (nI (T.s 3))) (C := RX4) (T := TX4) (N := 10) hx hb hts hin4 hown hK hP 1 rfl rfl 1 (by decide) (va_Nw.use rfl (hNX.1 (79, "PowerTables$Table", "first", "I") (List.mem_of_getElem? (i := 15) rfl))) (fun _ h9 => h9) rfl dX6_count_92 ?_
      exact cr_iret hx hb hr hlocks hK hP hD hS dX6_count_95 (by rw [hRR]; exact ⟨_, _, _, congrArg (fun z => some (Value.int z)) (rfl), rfl⟩)
    · omega
  · refine lv_iload_n hx hb dX6_count_0 rfl (lv_at hl 1 rfl) ?_
    refine ks_if_lt (tgt := 10) hx hb dX6_count_1 (by decide) (by omega) ?_
    refine lv_iload_n hx hb dX6_count_4 rfl (lv_at hl 1 rfl) ?_
    refine lv_bipush (v := nI 12) hx hb dX6_count_5 (by decide) ?_
    refine ks_icmp_lt (tgt := 21) hx hb dX6_count_7 (by decide) (by omega) (by omega) (fun c_7 => ?_) (fun c_7 => ?_)
    · refine lv_iload_n hx hb dX6_count_21 rfl (lv_at hl 1 rfl) ?_
      refine lv_tableIn (off := 74) (tgt := 96) hx hb dX6_count_22 (by decide) (by decide) (by decide +kernel) (by decide) ?_
      refine lv_aload_n hx hb dX6_count_96 rfl (lv_at hl 0 rfl) ?_
      refine va_get (D := G.1) (ci := 6) (v := .ref (a_ 0)) (C := RX6) (T := TX6) (N := 7) hx hb hts hin6 hown hK hP 0 rfl rfl 0 (by decide) (hts (.fieldLink RX6 10 "PowerTables" "table" "LPowerTables$Table;") (List.mem_of_getElem? (i := 3) rfl)) (fun _ h9 => h9) rfl dX6_count_97 ?_
      refine va_getN (D := G.1) (ci := 4) (v := .int (nI (T.s 4))) (C := RX4) (T := TX4) (N := 10) hx hb hts hin4 hown hK hP 1 rfl rfl 2 (by decide) (va_Nw.use rfl (hNX.1 (76, "PowerTables$Table", "rows", "I") (List.mem_of_getElem? (i := 14) rfl))) (fun _ h9 => h9) rfl dX6_count_100 ?_
      exact cr_iret hx hb hr hlocks hK hP hD hS dX6_count_103 (by rw [hRR]; exact ⟨_, _, _, congrArg (fun z => some (Value.int z)) (rfl), rfl⟩)
    · omega
  · refine lv_iload_n hx hb dX6_count_0 rfl (lv_at hl 1 rfl) ?_
    refine ks_if_lt (tgt := 10) hx hb dX6_count_1 (by decide) (by omega) ?_
    refine lv_iload_n hx hb dX6_count_4 rfl (lv_at hl 1 rfl) ?_
    refine lv_bipush (v := nI 12) hx hb dX6_count_5 (by decide) ?_
    refine ks_icmp_lt (tgt := 21) hx hb dX6_count_7 (by decide) (by omega) (by omega) (fun c_7 => ?_) (fun c_7 => ?_)
    · refine lv_iload_n hx hb dX6_count_21 rfl (lv_at hl 1 rfl) ?_
      refine lv_tableIn (off := 82) (tgt := 104) hx hb dX6_count_22 (by decide) (by decide) (by decide +kernel) (by decide) ?_
      refine lv_aload_n hx hb dX6_count_104 rfl (lv_at hl 0 rfl) ?_
      refine va_get (D := G.1) (ci := 6) (v := .ref (a_ 0)) (C := RX6) (T := TX6) (N := 7) hx hb hts hin6 hown hK hP 0 rfl rfl 0 (by decide) (hts (.fieldLink RX6 10 "PowerTables" "table" "LPowerTables$Table;") (List.mem_of_getElem? (i := 3) rfl)) (fun _ h9 => h9) rfl dX6_count_105 ?_
      refine lv_iconst (v := nI 0) hx hb dX6_count_108 (by decide) ?_
      refine lv_aload_n hx hb dX6_count_109 rfl (lv_at hl 0 rfl) ?_
      refine va_get (D := G.1) (ci := 6) (v := .ref (a_ 0)) (C := RX6) (T := TX6) (N := 7) hx hb hts hin6 hown hK hP 0 rfl rfl 0 (by decide) (hts (.fieldLink RX6 10 "PowerTables" "table" "LPowerTables$Table;") (List.mem_of_getElem? (i := 3) rfl)) (fun _ h9 => h9) rfl dX6_count_110 ?_
      refine va_getN (D := G.1) (ci := 4) (v := .int (nI (T.s 4))) (C := RX4) (T := TX4) (N := 10) hx hb hts hin4 hown hK hP 1 rfl rfl 2 (by decide) (va_Nw.use rfl (hNX.1 (76, "PowerTables$Table", "rows", "I") (List.mem_of_getElem? (i := 14) rfl))) (fun _ h9 => h9) rfl dX6_count_113 ?_
      refine cr_V (wr := [(x_, .inr (6, [.ref (a_ 0), .ref (o 0), .ref (o 2), .ref (o 4), .ref (o 6), .ref (o 8), .ref (o 10)])), (a_ 3, .inl (G.2.1, 40, .inl (fun q9 => nI (T.b q9)))), (a_ 4, .inr (2, [.ref (a_ 5)])), (a_ 5, .inl (G.2.2.1, 6, .inr (.inl (T.r)))), (a_ 6, .inr (5, [.ref (a_ 7), .int (nI (T.s 1)), .int (nI (T.s 5))])), (o 0, .inr (3, [.ref (o 1), .int (nI n_)])), (o 4, .inr (0, [.ref (o 5), .int (nI dn)])), (o 5, .inl (G.2.2.1, 40, .inr (.inl (f_)))), (o 6, .inr (2, [.ref (o 7)])), (o 7, .inl (G.2.2.1, 6, .inr (.inl (rr))))]) (As := [.int (nI 0), .int (nI (T.s 4))]) (rest := []) ⟨hx, hb, hml, hown, hts⟩ (c_X4_wrongRows G l a_ T g_ 0 (T.s 4) (by omega) (by omega)) (cwV 2 hts gX6_count_X4_wrongRows rfl rfl rfl (by decide +kernel) ⟨Nat.le_of_ble_eq_true rfl, Nat.le_of_ble_eq_true rfl⟩) dX6_count_116 hK hNX hP hD hS hA hl 1 4 rfl rfl rfl [1, 2, 3] [0, 4, 5, 6, 7, 8, 9, 10, 11, 12] rfl rfl rfl rfl (by decide +kernel) rfl (Nat.le_of_ble_eq_true rfl) ⟨Nat.le_of_ble_eq_true rfl, Nat.le_of_ble_eq_true rfl⟩ rfl (fun v' w' Hq lcq hR' hP hD hS => ?_)
      obtain ⟨rfl, rfl⟩ := hR'
      have hP : va_P G.1 vwCl [(x_, .inr (6, [.ref (a_ 0), .ref (o 0), .ref (o 2), .ref (o 4), .ref (o 6), .ref (o 8), .ref (o 10)])), (a_ 0, .inr (4, [.int (nI (T.s 2)), .int (nI (T.s 3)), .int (nI (T.s 4)), .int (nI (T.s 0)), .int (nI (T.s 6)), .ref (a_ 1), .ref (a_ 2), .ref (a_ 3), .ref (a_ 4), .ref (a_ 6)])), (a_ 1, .inl (G.2.2.1, 40, .inr (.inl (T.p)))), (a_ 2, .inl (G.2.2.1, 40, .inr (.inl (g_)))), (a_ 3, .inl (G.2.1, 40, .inl (fun q9 => nI (T.b q9)))), (a_ 4, .inr (2, [.ref (a_ 5)])), (a_ 5, .inl (G.2.2.1, 6, .inr (.inl (T.r)))), (a_ 6, .inr (5, [.ref (a_ 7), .int (nI (T.s 1)), .int (nI (T.s 5))])), (o 0, .inr (3, [.ref (o 1), .int (nI n_)])), (o 4, .inr (0, [.ref (o 5), .int (nI dn)])), (o 5, .inl (G.2.2.1, 40, .inr (.inl (f_)))), (o 6, .inr (2, [.ref (o 7)])), (o 7, .inl (G.2.2.1, 6, .inr (.inl (rr))))] _ := hP.sub [0, 10, 11, 12, 1, 2, 3, 4, 5, 6, 7, 8, 9] rfl
      have hD : va_D A [(x_, .inr (6, [.ref (a_ 0), .ref (o 0), .ref (o 2), .ref (o 4), .ref (o 6), .ref (o 8), .ref (o 10)])), (a_ 0, .inr (4, [.int (nI (T.s 2)), .int (nI (T.s 3)), .int (nI (T.s 4)), .int (nI (T.s 0)), .int (nI (T.s 6)), .ref (a_ 1), .ref (a_ 2), .ref (a_ 3), .ref (a_ 4), .ref (a_ 6)])), (a_ 1, .inl (G.2.2.1, 40, .inr (.inl (T.p)))), (a_ 2, .inl (G.2.2.1, 40, .inr (.inl (g_)))), (a_ 3, .inl (G.2.1, 40, .inl (fun q9 => nI (T.b q9)))), (a_ 4, .inr (2, [.ref (a_ 5)])), (a_ 5, .inl (G.2.2.1, 6, .inr (.inl (T.r)))), (a_ 6, .inr (5, [.ref (a_ 7), .int (nI (T.s 1)), .int (nI (T.s 5))])), (o 0, .inr (3, [.ref (o 1), .int (nI n_)])), (o 4, .inr (0, [.ref (o 5), .int (nI dn)])), (o 5, .inl (G.2.2.1, 40, .inr (.inl (f_)))), (o 6, .inr (2, [.ref (o 7)])), (o 7, .inl (G.2.2.1, 6, .inr (.inl (rr))))] := hD.sub [0, 10, 11, 12, 1, 2, 3, 4, 5, 6, 7, 8, 9] rfl rfl
      exact cr_iret hx hb hr hlocks hK hP hD hS dX6_count_119 (by rw [hRR]; exact ⟨_, _, _, congrArg (fun z => some (Value.int z)) (rfl), rfl⟩)
    · omega
  · refine lv_iload_n hx hb dX6_count_0 rfl (lv_at hl 1 rfl) ?_
    refine ks_if_lt (tgt := 10) hx hb dX6_count_1 (by decide) (by omega) ?_
    refine lv_iload_n hx hb dX6_count_4 rfl (lv_at hl 1 rfl) ?_
    refine lv_bipush (v := nI 12) hx hb dX6_count_5 (by decide) ?_
    refine ks_icmp_lt (tgt := 21) hx hb dX6_count_7 (by decide) (by omega) (by omega) (fun c_7 => ?_) (fun c_7 => ?_)
    · refine lv_iload_n hx hb dX6_count_21 rfl (lv_at hl 1 rfl) ?_
      refine lv_tableIn (off := 98) (tgt := 120) hx hb dX6_count_22 (by decide) (by decide) (by decide +kernel) (by decide) ?_
      refine lv_aload_n hx hb dX6_count_120 rfl (lv_at hl 0 rfl) ?_
      refine va_get (D := G.1) (ci := 6) (v := .ref (a_ 0)) (C := RX6) (T := TX6) (N := 7) hx hb hts hin6 hown hK hP 0 rfl rfl 0 (by decide) (hts (.fieldLink RX6 10 "PowerTables" "table" "LPowerTables$Table;") (List.mem_of_getElem? (i := 3) rfl)) (fun _ h9 => h9) rfl dX6_count_121 ?_
      refine cr_V (wr := [(x_, .inr (6, [.ref (a_ 0), .ref (o 0), .ref (o 2), .ref (o 4), .ref (o 6), .ref (o 8), .ref (o 10)])), (a_ 3, .inl (G.2.1, 40, .inl (fun q9 => nI (T.b q9)))), (a_ 4, .inr (2, [.ref (a_ 5)])), (a_ 5, .inl (G.2.2.1, 6, .inr (.inl (T.r)))), (a_ 6, .inr (5, [.ref (a_ 7), .int (nI (T.s 1)), .int (nI (T.s 5))])), (o 0, .inr (3, [.ref (o 1), .int (nI n_)])), (o 4, .inr (0, [.ref (o 5), .int (nI dn)])), (o 5, .inl (G.2.2.1, 40, .inr (.inl (f_)))), (o 6, .inr (2, [.ref (o 7)])), (o 7, .inl (G.2.2.1, 6, .inr (.inl (rr))))]) (As := []) (rest := []) ⟨hx, hb, hml, hown, hts⟩ (c_X4_firstWrongRow G l a_ T g_ (by omega)) (cwV 0 hts gX6_count_X4_firstWrongRow rfl rfl rfl (by decide +kernel) ⟨Nat.le_of_ble_eq_true rfl, Nat.le_of_ble_eq_true rfl⟩) dX6_count_124 hK hNX hP hD hS hA hl 1 4 rfl rfl rfl [1, 2, 3] [0, 4, 5, 6, 7, 8, 9, 10, 11, 12] rfl rfl rfl rfl (by decide +kernel) rfl (Nat.le_of_ble_eq_true rfl) ⟨Nat.le_of_ble_eq_true rfl, Nat.le_of_ble_eq_true rfl⟩ rfl (fun v' w' Hq lcq hR' hP hD hS => ?_)
      obtain ⟨rfl, rfl⟩ := hR'
      have hP : va_P G.1 vwCl [(x_, .inr (6, [.ref (a_ 0), .ref (o 0), .ref (o 2), .ref (o 4), .ref (o 6), .ref (o 8), .ref (o 10)])), (a_ 0, .inr (4, [.int (nI (T.s 2)), .int (nI (T.s 3)), .int (nI (T.s 4)), .int (nI (T.s 0)), .int (nI (T.s 6)), .ref (a_ 1), .ref (a_ 2), .ref (a_ 3), .ref (a_ 4), .ref (a_ 6)])), (a_ 1, .inl (G.2.2.1, 40, .inr (.inl (T.p)))), (a_ 2, .inl (G.2.2.1, 40, .inr (.inl (g_)))), (a_ 3, .inl (G.2.1, 40, .inl (fun q9 => nI (T.b q9)))), (a_ 4, .inr (2, [.ref (a_ 5)])), (a_ 5, .inl (G.2.2.1, 6, .inr (.inl (T.r)))), (a_ 6, .inr (5, [.ref (a_ 7), .int (nI (T.s 1)), .int (nI (T.s 5))])), (o 0, .inr (3, [.ref (o 1), .int (nI n_)])), (o 4, .inr (0, [.ref (o 5), .int (nI dn)])), (o 5, .inl (G.2.2.1, 40, .inr (.inl (f_)))), (o 6, .inr (2, [.ref (o 7)])), (o 7, .inl (G.2.2.1, 6, .inr (.inl (rr))))] _ := hP.sub [0, 10, 11, 12, 1, 2, 3, 4, 5, 6, 7, 8, 9] rfl
      have hD : va_D A [(x_, .inr (6, [.ref (a_ 0), .ref (o 0), .ref (o 2), .ref (o 4), .ref (o 6), .ref (o 8), .ref (o 10)])), (a_ 0, .inr (4, [.int (nI (T.s 2)), .int (nI (T.s 3)), .int (nI (T.s 4)), .int (nI (T.s 0)), .int (nI (T.s 6)), .ref (a_ 1), .ref (a_ 2), .ref (a_ 3), .ref (a_ 4), .ref (a_ 6)])), (a_ 1, .inl (G.2.2.1, 40, .inr (.inl (T.p)))), (a_ 2, .inl (G.2.2.1, 40, .inr (.inl (g_)))), (a_ 3, .inl (G.2.1, 40, .inl (fun q9 => nI (T.b q9)))), (a_ 4, .inr (2, [.ref (a_ 5)])), (a_ 5, .inl (G.2.2.1, 6, .inr (.inl (T.r)))), (a_ 6, .inr (5, [.ref (a_ 7), .int (nI (T.s 1)), .int (nI (T.s 5))])), (o 0, .inr (3, [.ref (o 1), .int (nI n_)])), (o 4, .inr (0, [.ref (o 5), .int (nI dn)])), (o 5, .inl (G.2.2.1, 40, .inr (.inl (f_)))), (o 6, .inr (2, [.ref (o 7)])), (o 7, .inl (G.2.2.1, 6, .inr (.inl (rr))))] := hD.sub [0, 10, 11, 12, 1, 2, 3, 4, 5, 6, 7, 8, 9] rfl rfl
      exact cr_iret hx hb hr hlocks hK hP hD hS dX6_count_127 (by rw [hRR]; exact ⟨_, _, _, congrArg (fun z => some (Value.int z)) (rfl), rfl⟩)
    · omega
  · refine lv_iload_n hx hb dX6_count_0 rfl (lv_at hl 1 rfl) ?_
    refine ks_if_lt (tgt := 10) hx hb dX6_count_1 (by decide) (by omega) ?_
    refine lv_iload_n hx hb dX6_count_4 rfl (lv_at hl 1 rfl) ?_
    refine lv_bipush (v := nI 12) hx hb dX6_count_5 (by decide) ?_
    refine ks_icmp_lt (tgt := 21) hx hb dX6_count_7 (by decide) (by omega) (by omega) (fun c_7 => ?_) (fun c_7 => ?_)
    · refine lv_iload_n hx hb dX6_count_21 rfl (lv_at hl 1 rfl) ?_
      refine lv_tableIn (off := 106) (tgt := 128) hx hb dX6_count_22 (by decide) (by decide) (by decide +kernel) (by decide) ?_
      refine lv_aload_n hx hb dX6_count_128 rfl (lv_at hl 0 rfl) ?_
      refine va_get (D := G.1) (ci := 6) (v := .ref (a_ 0)) (C := RX6) (T := TX6) (N := 7) hx hb hts hin6 hown hK hP 0 rfl rfl 0 (by decide) (hts (.fieldLink RX6 10 "PowerTables" "table" "LPowerTables$Table;") (List.mem_of_getElem? (i := 3) rfl)) (fun _ h9 => h9) rfl dX6_count_129 ?_
      refine lv_aload_n hx hb dX6_count_132 rfl (lv_at hl 0 rfl) ?_
      refine va_get (D := G.1) (ci := 6) (v := .ref (a_ 0)) (C := RX6) (T := TX6) (N := 7) hx hb hts hin6 hown hK hP 0 rfl rfl 0 (by decide) (hts (.fieldLink RX6 10 "PowerTables" "table" "LPowerTables$Table;") (List.mem_of_getElem? (i := 3) rfl)) (fun _ h9 => h9) rfl dX6_count_133 ?_
      refine va_getN (D := G.1) (ci := 4) (v := .int (nI (T.s 0))) (C := RX4) (T := TX4) (N := 10) hx hb hts hin4 hown hK hP 1 rfl rfl 3 (by decide) (va_Nw.use rfl (hNX.1 (154, "PowerTables$Table", "groupRows", "I") (List.mem_of_getElem? (i := 1) rfl))) (fun _ h9 => h9) rfl dX6_count_136 ?_
      refine cr_V (wr := [(x_, .inr (6, [.ref (a_ 0), .ref (o 0), .ref (o 2), .ref (o 4), .ref (o 6), .ref (o 8), .ref (o 10)])), (a_ 1, .inl (G.2.2.1, 40, .inr (.inl (T.p)))), (a_ 2, .inl (G.2.2.1, 40, .inr (.inl (g_)))), (a_ 3, .inl (G.2.1, 40, .inl (fun q9 => nI (T.b q9)))), (a_ 4, .inr (2, [.ref (a_ 5)])), (a_ 5, .inl (G.2.2.1, 6, .inr (.inl (T.r)))), (a_ 6, .inr (5, [.ref (a_ 7), .int (nI (T.s 1)), .int (nI (T.s 5))])), (o 0, .inr (3, [.ref (o 1), .int (nI n_)])), (o 4, .inr (0, [.ref (o 5), .int (nI dn)])), (o 5, .inl (G.2.2.1, 40, .inr (.inl (f_)))), (o 6, .inr (2, [.ref (o 7)])), (o 7, .inl (G.2.2.1, 6, .inr (.inl (rr))))]) (As := [.int (nI (T.s 0))]) (rest := []) ⟨hx, hb, hml, hown, hts⟩ (c_X4_wholeGroups G l a_ T (T.s 0) (by omega) (by omega) (by omega)) (cwV 1 hts gX6_count_X4_wholeGroups rfl rfl rfl (by decide +kernel) ⟨Nat.le_of_ble_eq_true rfl, Nat.le_of_ble_eq_true rfl⟩) dX6_count_139 hK hNX hP hD hS hA hl 1 4 rfl rfl rfl [1] [0, 2, 3, 4, 5, 6, 7, 8, 9, 10, 11, 12] rfl rfl rfl rfl (by decide +kernel) rfl (Nat.le_of_ble_eq_true rfl) ⟨Nat.le_of_ble_eq_true rfl, Nat.le_of_ble_eq_true rfl⟩ rfl (fun v' w' Hq lcq hR' hP hD hS => ?_)
      obtain ⟨rfl, rfl⟩ := hR'
      have hP : va_P G.1 vwCl [(x_, .inr (6, [.ref (a_ 0), .ref (o 0), .ref (o 2), .ref (o 4), .ref (o 6), .ref (o 8), .ref (o 10)])), (a_ 0, .inr (4, [.int (nI (T.s 2)), .int (nI (T.s 3)), .int (nI (T.s 4)), .int (nI (T.s 0)), .int (nI (T.s 6)), .ref (a_ 1), .ref (a_ 2), .ref (a_ 3), .ref (a_ 4), .ref (a_ 6)])), (a_ 1, .inl (G.2.2.1, 40, .inr (.inl (T.p)))), (a_ 2, .inl (G.2.2.1, 40, .inr (.inl (g_)))), (a_ 3, .inl (G.2.1, 40, .inl (fun q9 => nI (T.b q9)))), (a_ 4, .inr (2, [.ref (a_ 5)])), (a_ 5, .inl (G.2.2.1, 6, .inr (.inl (T.r)))), (a_ 6, .inr (5, [.ref (a_ 7), .int (nI (T.s 1)), .int (nI (T.s 5))])), (o 0, .inr (3, [.ref (o 1), .int (nI n_)])), (o 4, .inr (0, [.ref (o 5), .int (nI dn)])), (o 5, .inl (G.2.2.1, 40, .inr (.inl (f_)))), (o 6, .inr (2, [.ref (o 7)])), (o 7, .inl (G.2.2.1, 6, .inr (.inl (rr))))] _ := hP.sub [0, 12, 1, 2, 3, 4, 5, 6, 7, 8, 9, 10, 11] rfl
      have hD : va_D A [(x_, .inr (6, [.ref (a_ 0), .ref (o 0), .ref (o 2), .ref (o 4), .ref (o 6), .ref (o 8), .ref (o 10)])), (a_ 0, .inr (4, [.int (nI (T.s 2)), .int (nI (T.s 3)), .int (nI (T.s 4)), .int (nI (T.s 0)), .int (nI (T.s 6)), .ref (a_ 1), .ref (a_ 2), .ref (a_ 3), .ref (a_ 4), .ref (a_ 6)])), (a_ 1, .inl (G.2.2.1, 40, .inr (.inl (T.p)))), (a_ 2, .inl (G.2.2.1, 40, .inr (.inl (g_)))), (a_ 3, .inl (G.2.1, 40, .inl (fun q9 => nI (T.b q9)))), (a_ 4, .inr (2, [.ref (a_ 5)])), (a_ 5, .inl (G.2.2.1, 6, .inr (.inl (T.r)))), (a_ 6, .inr (5, [.ref (a_ 7), .int (nI (T.s 1)), .int (nI (T.s 5))])), (o 0, .inr (3, [.ref (o 1), .int (nI n_)])), (o 4, .inr (0, [.ref (o 5), .int (nI dn)])), (o 5, .inl (G.2.2.1, 40, .inr (.inl (f_)))), (o 6, .inr (2, [.ref (o 7)])), (o 7, .inl (G.2.2.1, 6, .inr (.inl (rr))))] := hD.sub [0, 12, 1, 2, 3, 4, 5, 6, 7, 8, 9, 10, 11] rfl rfl
      exact cr_iret hx hb hr hlocks hK hP hD hS dX6_count_142 (by rw [hRR]; exact ⟨_, _, _, congrArg (fun z => some (Value.int z)) (rfl), rfl⟩)
    · omega
  · refine lv_iload_n hx hb dX6_count_0 rfl (lv_at hl 1 rfl) ?_
    refine ks_if_lt (tgt := 10) hx hb dX6_count_1 (by decide) (by omega) ?_
    refine lv_iload_n hx hb dX6_count_4 rfl (lv_at hl 1 rfl) ?_
    refine lv_bipush (v := nI 12) hx hb dX6_count_5 (by decide) ?_
    refine ks_icmp_lt (tgt := 21) hx hb dX6_count_7 (by decide) (by omega) (by omega) (fun c_7 => ?_) (fun c_7 => ?_)
    · refine lv_iload_n hx hb dX6_count_21 rfl (lv_at hl 1 rfl) ?_
      refine lv_tableIn (off := 121) (tgt := 143) hx hb dX6_count_22 (by decide) (by decide) (by decide +kernel) (by decide) ?_
      refine lv_aload_n hx hb dX6_count_143 rfl (lv_at hl 0 rfl) ?_
      refine va_get (D := G.1) (ci := 6) (v := .ref (a_ 0)) (C := RX6) (T := TX6) (N := 7) hx hb hts hin6 hown hK hP 0 rfl rfl 0 (by decide) (hts (.fieldLink RX6 10 "PowerTables" "table" "LPowerTables$Table;") (List.mem_of_getElem? (i := 3) rfl)) (fun _ h9 => h9) rfl dX6_count_144 ?_
      refine cr_V (wr := [(x_, .inr (6, [.ref (a_ 0), .ref (o 0), .ref (o 2), .ref (o 4), .ref (o 6), .ref (o 8), .ref (o 10)])), (a_ 3, .inl (G.2.1, 40, .inl (fun q9 => nI (T.b q9)))), (a_ 4, .inr (2, [.ref (a_ 5)])), (a_ 5, .inl (G.2.2.1, 6, .inr (.inl (T.r)))), (a_ 6, .inr (5, [.ref (a_ 7), .int (nI (T.s 1)), .int (nI (T.s 5))])), (o 0, .inr (3, [.ref (o 1), .int (nI n_)])), (o 4, .inr (0, [.ref (o 5), .int (nI dn)])), (o 5, .inl (G.2.2.1, 40, .inr (.inl (f_)))), (o 6, .inr (2, [.ref (o 7)])), (o 7, .inl (G.2.2.1, 6, .inr (.inl (rr))))]) (As := []) (rest := []) ⟨hx, hb, hml, hown, hts⟩ (c_X4_groupsFoundWrong G l a_ T g_ (by omega) (by omega) (by omega)) (cwV 0 hts gX6_count_X4_groupsFoundWrong rfl rfl rfl (by decide +kernel) ⟨Nat.le_of_ble_eq_true rfl, Nat.le_of_ble_eq_true rfl⟩) dX6_count_147 hK hNX hP hD hS hA hl 1 4 rfl rfl rfl [1, 2, 3] [0, 4, 5, 6, 7, 8, 9, 10, 11, 12] rfl rfl rfl rfl (by decide +kernel) rfl (Nat.le_of_ble_eq_true rfl) ⟨Nat.le_of_ble_eq_true rfl, Nat.le_of_ble_eq_true rfl⟩ rfl (fun v' w' Hq lcq hR' hP hD hS => ?_)
      obtain ⟨rfl, rfl⟩ := hR'
      have hP : va_P G.1 vwCl [(x_, .inr (6, [.ref (a_ 0), .ref (o 0), .ref (o 2), .ref (o 4), .ref (o 6), .ref (o 8), .ref (o 10)])), (a_ 0, .inr (4, [.int (nI (T.s 2)), .int (nI (T.s 3)), .int (nI (T.s 4)), .int (nI (T.s 0)), .int (nI (T.s 6)), .ref (a_ 1), .ref (a_ 2), .ref (a_ 3), .ref (a_ 4), .ref (a_ 6)])), (a_ 1, .inl (G.2.2.1, 40, .inr (.inl (T.p)))), (a_ 2, .inl (G.2.2.1, 40, .inr (.inl (g_)))), (a_ 3, .inl (G.2.1, 40, .inl (fun q9 => nI (T.b q9)))), (a_ 4, .inr (2, [.ref (a_ 5)])), (a_ 5, .inl (G.2.2.1, 6, .inr (.inl (T.r)))), (a_ 6, .inr (5, [.ref (a_ 7), .int (nI (T.s 1)), .int (nI (T.s 5))])), (o 0, .inr (3, [.ref (o 1), .int (nI n_)])), (o 4, .inr (0, [.ref (o 5), .int (nI dn)])), (o 5, .inl (G.2.2.1, 40, .inr (.inl (f_)))), (o 6, .inr (2, [.ref (o 7)])), (o 7, .inl (G.2.2.1, 6, .inr (.inl (rr))))] _ := hP.sub [0, 10, 11, 12, 1, 2, 3, 4, 5, 6, 7, 8, 9] rfl
      have hD : va_D A [(x_, .inr (6, [.ref (a_ 0), .ref (o 0), .ref (o 2), .ref (o 4), .ref (o 6), .ref (o 8), .ref (o 10)])), (a_ 0, .inr (4, [.int (nI (T.s 2)), .int (nI (T.s 3)), .int (nI (T.s 4)), .int (nI (T.s 0)), .int (nI (T.s 6)), .ref (a_ 1), .ref (a_ 2), .ref (a_ 3), .ref (a_ 4), .ref (a_ 6)])), (a_ 1, .inl (G.2.2.1, 40, .inr (.inl (T.p)))), (a_ 2, .inl (G.2.2.1, 40, .inr (.inl (g_)))), (a_ 3, .inl (G.2.1, 40, .inl (fun q9 => nI (T.b q9)))), (a_ 4, .inr (2, [.ref (a_ 5)])), (a_ 5, .inl (G.2.2.1, 6, .inr (.inl (T.r)))), (a_ 6, .inr (5, [.ref (a_ 7), .int (nI (T.s 1)), .int (nI (T.s 5))])), (o 0, .inr (3, [.ref (o 1), .int (nI n_)])), (o 4, .inr (0, [.ref (o 5), .int (nI dn)])), (o 5, .inl (G.2.2.1, 40, .inr (.inl (f_)))), (o 6, .inr (2, [.ref (o 7)])), (o 7, .inl (G.2.2.1, 6, .inr (.inl (rr))))] := hD.sub [0, 10, 11, 12, 1, 2, 3, 4, 5, 6, 7, 8, 9] rfl rfl
      exact cr_iret hx hb hr hlocks hK hP hD hS dX6_count_150 (by rw [hRR]; exact ⟨_, _, _, congrArg (fun z => some (Value.int z)) (rfl), rfl⟩)
    · omega
  · refine lv_iload_n hx hb dX6_count_0 rfl (lv_at hl 1 rfl) ?_
    refine ks_if_lt (tgt := 10) hx hb dX6_count_1 (by decide) (by omega) ?_
    refine lv_iload_n hx hb dX6_count_4 rfl (lv_at hl 1 rfl) ?_
    refine lv_bipush (v := nI 12) hx hb dX6_count_5 (by decide) ?_
    refine ks_icmp_lt (tgt := 21) hx hb dX6_count_7 (by decide) (by omega) (by omega) (fun c_7 => ?_) (fun c_7 => ?_)
    · refine lv_iload_n hx hb dX6_count_21 rfl (lv_at hl 1 rfl) ?_
      refine lv_tableIn (off := 129) (tgt := 151) hx hb dX6_count_22 (by decide) (by decide) (by decide +kernel) (by decide) ?_
      refine lv_aload_n hx hb dX6_count_151 rfl (lv_at hl 0 rfl) ?_
      refine va_get (D := G.1) (ci := 6) (v := .ref (a_ 0)) (C := RX6) (T := TX6) (N := 7) hx hb hts hin6 hown hK hP 0 rfl rfl 0 (by decide) (hts (.fieldLink RX6 10 "PowerTables" "table" "LPowerTables$Table;") (List.mem_of_getElem? (i := 3) rfl)) (fun _ h9 => h9) rfl dX6_count_152 ?_
      refine cr_V (wr := [(x_, .inr (6, [.ref (a_ 0), .ref (o 0), .ref (o 2), .ref (o 4), .ref (o 6), .ref (o 8), .ref (o 10)])), (a_ 1, .inl (G.2.2.1, 40, .inr (.inl (T.p)))), (a_ 2, .inl (G.2.2.1, 40, .inr (.inl (g_)))), (a_ 4, .inr (2, [.ref (a_ 5)])), (a_ 5, .inl (G.2.2.1, 6, .inr (.inl (T.r)))), (a_ 6, .inr (5, [.ref (a_ 7), .int (nI (T.s 1)), .int (nI (T.s 5))])), (o 0, .inr (3, [.ref (o 1), .int (nI n_)])), (o 4, .inr (0, [.ref (o 5), .int (nI dn)])), (o 5, .inl (G.2.2.1, 40, .inr (.inl (f_)))), (o 6, .inr (2, [.ref (o 7)])), (o 7, .inl (G.2.2.1, 6, .inr (.inl (rr))))]) (As := []) (rest := []) ⟨hx, hb, hml, hown, hts⟩ (c_X4_blurredDigits G l a_ T (by omega)) (cwV 0 hts gX6_count_X4_blurredDigits rfl rfl rfl (by decide +kernel) ⟨Nat.le_of_ble_eq_true rfl, Nat.le_of_ble_eq_true rfl⟩) dX6_count_155 hK hNX hP hD hS hA hl 1 4 rfl rfl rfl [1, 4] [0, 2, 3, 5, 6, 7, 8, 9, 10, 11, 12] rfl rfl rfl rfl (by decide +kernel) rfl (Nat.le_of_ble_eq_true rfl) ⟨Nat.le_of_ble_eq_true rfl, Nat.le_of_ble_eq_true rfl⟩ rfl (fun v' w' Hq lcq hR' hP hD hS => ?_)
      obtain ⟨rfl, rfl⟩ := hR'
      have hP : va_P G.1 vwCl [(x_, .inr (6, [.ref (a_ 0), .ref (o 0), .ref (o 2), .ref (o 4), .ref (o 6), .ref (o 8), .ref (o 10)])), (a_ 0, .inr (4, [.int (nI (T.s 2)), .int (nI (T.s 3)), .int (nI (T.s 4)), .int (nI (T.s 0)), .int (nI (T.s 6)), .ref (a_ 1), .ref (a_ 2), .ref (a_ 3), .ref (a_ 4), .ref (a_ 6)])), (a_ 1, .inl (G.2.2.1, 40, .inr (.inl (T.p)))), (a_ 2, .inl (G.2.2.1, 40, .inr (.inl (g_)))), (a_ 3, .inl (G.2.1, 40, .inl (fun q9 => nI (T.b q9)))), (a_ 4, .inr (2, [.ref (a_ 5)])), (a_ 5, .inl (G.2.2.1, 6, .inr (.inl (T.r)))), (a_ 6, .inr (5, [.ref (a_ 7), .int (nI (T.s 1)), .int (nI (T.s 5))])), (o 0, .inr (3, [.ref (o 1), .int (nI n_)])), (o 4, .inr (0, [.ref (o 5), .int (nI dn)])), (o 5, .inl (G.2.2.1, 40, .inr (.inl (f_)))), (o 6, .inr (2, [.ref (o 7)])), (o 7, .inl (G.2.2.1, 6, .inr (.inl (rr))))] _ := hP.sub [0, 11, 1, 2, 12, 3, 4, 5, 6, 7, 8, 9, 10] rfl
      have hD : va_D A [(x_, .inr (6, [.ref (a_ 0), .ref (o 0), .ref (o 2), .ref (o 4), .ref (o 6), .ref (o 8), .ref (o 10)])), (a_ 0, .inr (4, [.int (nI (T.s 2)), .int (nI (T.s 3)), .int (nI (T.s 4)), .int (nI (T.s 0)), .int (nI (T.s 6)), .ref (a_ 1), .ref (a_ 2), .ref (a_ 3), .ref (a_ 4), .ref (a_ 6)])), (a_ 1, .inl (G.2.2.1, 40, .inr (.inl (T.p)))), (a_ 2, .inl (G.2.2.1, 40, .inr (.inl (g_)))), (a_ 3, .inl (G.2.1, 40, .inl (fun q9 => nI (T.b q9)))), (a_ 4, .inr (2, [.ref (a_ 5)])), (a_ 5, .inl (G.2.2.1, 6, .inr (.inl (T.r)))), (a_ 6, .inr (5, [.ref (a_ 7), .int (nI (T.s 1)), .int (nI (T.s 5))])), (o 0, .inr (3, [.ref (o 1), .int (nI n_)])), (o 4, .inr (0, [.ref (o 5), .int (nI dn)])), (o 5, .inl (G.2.2.1, 40, .inr (.inl (f_)))), (o 6, .inr (2, [.ref (o 7)])), (o 7, .inl (G.2.2.1, 6, .inr (.inl (rr))))] := hD.sub [0, 11, 1, 2, 12, 3, 4, 5, 6, 7, 8, 9, 10] rfl rfl
      exact cr_iret hx hb hr hlocks hK hP hD hS dX6_count_158 (by rw [hRR]; exact ⟨_, _, _, congrArg (fun z => some (Value.int z)) (rfl), rfl⟩)
    · omega
  · refine lv_iload_n hx hb dX6_count_0 rfl (lv_at hl 1 rfl) ?_
    refine ks_if_lt (tgt := 10) hx hb dX6_count_1 (by decide) (by omega) ?_
    refine lv_iload_n hx hb dX6_count_4 rfl (lv_at hl 1 rfl) ?_
    refine lv_bipush (v := nI 12) hx hb dX6_count_5 (by decide) ?_
    refine ks_icmp_lt (tgt := 21) hx hb dX6_count_7 (by decide) (by omega) (by omega) (fun c_7 => ?_) (fun c_7 => ?_)
    · refine lv_iload_n hx hb dX6_count_21 rfl (lv_at hl 1 rfl) ?_
      refine lv_tableIn (off := 137) (tgt := 159) hx hb dX6_count_22 (by decide) (by decide) (by decide +kernel) (by decide) ?_
      refine lv_aload_n hx hb dX6_count_159 rfl (lv_at hl 0 rfl) ?_
      refine cr_V (wr := [(a_ 1, .inl (G.2.2.1, 40, .inr (.inl (T.p)))), (a_ 2, .inl (G.2.2.1, 40, .inr (.inl (g_)))), (a_ 3, .inl (G.2.1, 40, .inl (fun q9 => nI (T.b q9)))), (a_ 6, .inr (5, [.ref (a_ 7), .int (nI (T.s 1)), .int (nI (T.s 5))])), (o 0, .inr (3, [.ref (o 1), .int (nI n_)]))]) (As := []) (rest := []) ⟨hx, hb, hml, hown, hts⟩ (c_X6_wrongRegisters G l x_ a_ o T f_ dn rr (by omega) (by omega) (by omega)) (cwV 0 hts gX6_count_X6_wrongRegisters rfl rfl rfl (by decide +kernel) ⟨Nat.le_of_ble_eq_true rfl, Nat.le_of_ble_eq_true rfl⟩) dX6_count_160 hK hNX hP hD hS hA hl 0 6 rfl rfl rfl [0, 1, 5, 6, 9, 10, 11, 12] [2, 3, 4, 7, 8] rfl rfl rfl rfl (by decide +kernel) rfl (Nat.le_of_ble_eq_true rfl) ⟨Nat.le_of_ble_eq_true rfl, Nat.le_of_ble_eq_true rfl⟩ rfl (fun v' w' Hq lcq hR' hP hD hS => ?_)
      obtain ⟨fz_160, nz_160, rfl, rfl⟩ := hR'
      have hP : va_P G.1 vwCl [(x_, .inr (6, [.ref (a_ 0), .ref (o 0), .ref (o 2), .ref (o 4), .ref (o 6), .ref (o 8), .ref (o 10)])), (a_ 0, .inr (4, [.int (nI (T.s 2)), .int (nI (T.s 3)), .int (nI (T.s 4)), .int (nI (T.s 0)), .int (nI (T.s 6)), .ref (a_ 1), .ref (a_ 2), .ref (a_ 3), .ref (a_ 4), .ref (a_ 6)])), (a_ 1, .inl (G.2.2.1, 40, .inr (.inl (T.p)))), (a_ 2, .inl (G.2.2.1, 40, .inr (.inl (g_)))), (a_ 3, .inl (G.2.1, 40, .inl (fun q9 => nI (T.b q9)))), (a_ 4, .inr (2, [.ref (a_ 5)])), (a_ 5, .inl (G.2.2.1, 6, .inr (.inl (T.r)))), (a_ 6, .inr (5, [.ref (a_ 7), .int (nI (T.s 1)), .int (nI (T.s 5))])), (o 0, .inr (3, [.ref (o 1), .int (nI n_)])), (o 4, .inr (0, [.ref (o 5), .int (nI nz_160)])), (o 5, .inl (G.2.2.1, 40, .inr (.inl (fz_160)))), (o 6, .inr (2, [.ref (o 7)])), (o 7, .inl (G.2.2.1, 6, .inr (.inl (rgt (T.s 2) (T.s 3 + T.s 4)))))] _ := hP.sub [5, 6, 0, 1, 2, 7, 8, 3, 4, 9, 10, 11, 12] rfl
      have hD : va_D A [(x_, .inr (6, [.ref (a_ 0), .ref (o 0), .ref (o 2), .ref (o 4), .ref (o 6), .ref (o 8), .ref (o 10)])), (a_ 0, .inr (4, [.int (nI (T.s 2)), .int (nI (T.s 3)), .int (nI (T.s 4)), .int (nI (T.s 0)), .int (nI (T.s 6)), .ref (a_ 1), .ref (a_ 2), .ref (a_ 3), .ref (a_ 4), .ref (a_ 6)])), (a_ 1, .inl (G.2.2.1, 40, .inr (.inl (T.p)))), (a_ 2, .inl (G.2.2.1, 40, .inr (.inl (g_)))), (a_ 3, .inl (G.2.1, 40, .inl (fun q9 => nI (T.b q9)))), (a_ 4, .inr (2, [.ref (a_ 5)])), (a_ 5, .inl (G.2.2.1, 6, .inr (.inl (T.r)))), (a_ 6, .inr (5, [.ref (a_ 7), .int (nI (T.s 1)), .int (nI (T.s 5))])), (o 0, .inr (3, [.ref (o 1), .int (nI n_)])), (o 4, .inr (0, [.ref (o 5), .int (nI nz_160)])), (o 5, .inl (G.2.2.1, 40, .inr (.inl (fz_160)))), (o 6, .inr (2, [.ref (o 7)])), (o 7, .inl (G.2.2.1, 6, .inr (.inl (rgt (T.s 2) (T.s 3 + T.s 4)))))] := hD.sub [5, 6, 0, 1, 2, 7, 8, 3, 4, 9, 10, 11, 12] rfl rfl
      exact cr_iret hx hb hr hlocks hK hP hD hS dX6_count_163 (by rw [hRR]; exact ⟨_, _, _, congrArg (fun z => some (Value.int z)) (rfl), rfl⟩)
    · omega
  · refine lv_iload_n hx hb dX6_count_0 rfl (lv_at hl 1 rfl) ?_
    refine ks_if_lt (tgt := 10) hx hb dX6_count_1 (by decide) (by omega) ?_
    refine lv_iload_n hx hb dX6_count_4 rfl (lv_at hl 1 rfl) ?_
    refine lv_bipush (v := nI 12) hx hb dX6_count_5 (by decide) ?_
    refine ks_icmp_lt (tgt := 21) hx hb dX6_count_7 (by decide) (by omega) (by omega) (fun c_7 => ?_) (fun c_7 => ?_)
    · refine lv_iload_n hx hb dX6_count_21 rfl (lv_at hl 1 rfl) ?_
      refine lv_tableIn (off := 142) (tgt := 164) hx hb dX6_count_22 (by decide) (by decide) (by decide +kernel) (by decide) ?_
      refine lv_aload_n hx hb dX6_count_164 rfl (lv_at hl 0 rfl) ?_
      refine va_get (D := G.1) (ci := 6) (v := .ref (a_ 0)) (C := RX6) (T := TX6) (N := 7) hx hb hts hin6 hown hK hP 0 rfl rfl 0 (by decide) (hts (.fieldLink RX6 10 "PowerTables" "table" "LPowerTables$Table;") (List.mem_of_getElem? (i := 3) rfl)) (fun _ h9 => h9) rfl dX6_count_165 ?_
      refine va_getN (D := G.1) (ci := 4) (v := .ref (a_ 6)) (C := RX4) (T := TX4) (N := 10) hx hb hts hin4 hown hK hP 1 rfl rfl 9 (by decide) (va_Nw.use rfl (hNX.1 (138, "PowerTables$Table", "types", "LPowerTables$Types;") (List.mem_of_getElem? (i := 0) rfl))) (fun _ h9 => h9) rfl dX6_count_168 ?_
      refine va_getN (D := G.1) (ci := 5) (v := .int (nI (T.s 5))) (C := RX5) (T := TX5) (N := 3) hx hb hts hin5 hown hK hP 7 rfl rfl 2 (by decide) (va_Nw.use rfl (hNX.1 (268, "PowerTables$Types", "digitsPrinted", "I") (List.mem_of_getElem? (i := 10) rfl))) (fun _ h9 => h9) rfl dX6_count_171 ?_
      exact cr_iret hx hb hr hlocks hK hP hD hS dX6_count_174 (by rw [hRR]; exact ⟨_, _, _, congrArg (fun z => some (Value.int z)) (rfl), rfl⟩)
    · omega
  · refine lv_iload_n hx hb dX6_count_0 rfl (lv_at hl 1 rfl) ?_
    refine ks_if_lt (tgt := 10) hx hb dX6_count_1 (by decide) (by omega) ?_
    refine lv_iload_n hx hb dX6_count_4 rfl (lv_at hl 1 rfl) ?_
    refine lv_bipush (v := nI 12) hx hb dX6_count_5 (by decide) ?_
    refine ks_icmp_lt (tgt := 21) hx hb dX6_count_7 (by decide) (by omega) (by omega) (fun c_7 => ?_) (fun c_7 => ?_)
    · refine lv_iload_n hx hb dX6_count_21 rfl (lv_at hl 1 rfl) ?_
      refine lv_tableIn (off := 153) (tgt := 175) hx hb dX6_count_22 (by decide) (by decide) (by decide +kernel) (by decide) ?_
      refine lv_aload_n hx hb dX6_count_175 rfl (lv_at hl 0 rfl) ?_
      refine va_get (D := G.1) (ci := 6) (v := .ref (a_ 0)) (C := RX6) (T := TX6) (N := 7) hx hb hts hin6 hown hK hP 0 rfl rfl 0 (by decide) (hts (.fieldLink RX6 10 "PowerTables" "table" "LPowerTables$Table;") (List.mem_of_getElem? (i := 3) rfl)) (fun _ h9 => h9) rfl dX6_count_176 ?_
      refine va_getN (D := G.1) (ci := 4) (v := .int (nI (T.s 6))) (C := RX4) (T := TX4) (N := 10) hx hb hts hin4 hown hK hP 1 rfl rfl 4 (by decide) (va_Nw.use rfl (hNX.1 (271, "PowerTables$Table", "rowsStruck", "I") (List.mem_of_getElem? (i := 11) rfl))) (fun _ h9 => h9) rfl dX6_count_179 ?_
      exact cr_iret hx hb hr hlocks hK hP hD hS dX6_count_182 (by rw [hRR]; exact ⟨_, _, _, congrArg (fun z => some (Value.int z)) (rfl), rfl⟩)
    · omega
  · refine lv_iload_n hx hb dX6_count_0 rfl (lv_at hl 1 rfl) ?_
    refine ks_if_lt (tgt := 10) hx hb dX6_count_1 (by decide) (by omega) ?_
    refine lv_iload_n hx hb dX6_count_4 rfl (lv_at hl 1 rfl) ?_
    refine lv_bipush (v := nI 12) hx hb dX6_count_5 (by decide) ?_
    refine ks_icmp_lt (tgt := 21) hx hb dX6_count_7 (by decide) (by omega) (by omega) (fun c_7 => ?_) (fun c_7 => ?_)
    · refine lv_iload_n hx hb dX6_count_21 rfl (lv_at hl 1 rfl) ?_
      refine lv_tableOut (tgt := 183) hx hb dX6_count_22 (by decide) (by decide) ?_
      refine lv_aload_n hx hb dX6_count_183 rfl (lv_at hl 0 rfl) ?_
      refine va_get (D := G.1) (ci := 6) (v := .ref (o 0)) (C := RX6) (T := TX6) (N := 7) hx hb hts hin6 hown hK hP 0 rfl rfl 1 (by decide) (hts (.fieldLink RX6 19 "PowerTables" "saved" "LPowerTables$SavedTables;") (List.mem_of_getElem? (i := 4) rfl)) (fun _ h9 => h9) rfl dX6_count_184 ?_
      refine va_getN (D := G.1) (ci := 3) (v := .int (nI n_)) (C := RX3) (T := TX3) (N := 2) hx hb hts hin3 hown hK hP 8 rfl rfl 1 (by decide) (va_Nw.use rfl (hNX.1 (191, "PowerTables$SavedTables", "size", "I") (List.mem_of_getElem? (i := 4) rfl))) (fun _ h9 => h9) rfl dX6_count_187 ?_
      exact cr_iret hx hb hr hlocks hK hP hD hS dX6_count_190 (by rw [hRR]; exact ⟨_, _, _, congrArg (fun z => some (Value.int z)) (rfl), rfl⟩)
    · omega
