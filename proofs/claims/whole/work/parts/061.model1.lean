set_option maxHeartbeats 4000000 in
set_option maxRecDepth 100000 in
theorem c_X7_in (G : GG) (l : Launch) (v_ : Int64) (lo_ : Int64) (hi_ : Int64)  : Cr G l yX7_in wsX7_in ({ frames := 0, cells := 0, slots := 0, locals := 0 }) 0 0 [.long v_, .long lo_, .long hi_] [] (ctR (some (.int (bI (¬ v_ < lo_ ∧ ¬ hi_ < v_)))) []) := by
  refine cr_intro (cc := cX7_in) (maxL := 6) (ret := (some .boolean)) (own := RX7) (by decide) rfl rfl (Nat.le_of_ble_eq_true rfl) ?_
  intro p e s m args below meth c A hx hb hr hml hts hown hlocks hnm hNX hP hK hD hA hS ls hl
  obtain ⟨RR, hRR⟩ : ∃ RR, RR = (ctR (some (.int (bI (¬ v_ < lo_ ∧ ¬ hi_ < v_)))) []) := ⟨_, rfl⟩
  rw [← hRR]
  have hl : lv_has ls 6 [(0, .long v_), (2, .long lo_), (4, .long hi_)] := hl
  refine lv_lload_n hx hb dX7_in_0 rfl (lv_at hl 0 rfl) ?_
  refine lv_lload_n hx hb dX7_in_1 rfl (lv_at hl 1 rfl) ?_
  refine ks_lc_lt (tgt := 17) hx hb dX7_in_2 dX7_in_3 (by decide) (fun c_2 => ?_) (fun c_2 => ?_)
  · have hv : nI 0 = bI (¬ v_ < lo_ ∧ ¬ hi_ < v_) := bI_0 (fun z => z.1 c_2)
    refine lv_iconst (v := nI 0) hx hb dX7_in_17 (by decide) ?_
    exact cr_zret hx hb hr hlocks hK hP hD hS (by decide +kernel) dX7_in_18 (by rw [hRR]; exact ctR_i (hv) (rfl))
  · refine lv_lload_n hx hb dX7_in_6 rfl (lv_at hl 0 rfl) ?_
    refine lv_lload hx hb dX7_in_7 (lv_at hl 2 rfl) ?_
    refine ks_lc_gt (tgt := 17) hx hb dX7_in_9 dX7_in_10 (by decide) (fun c_9 => ?_) (fun c_9 => ?_)
    · have hv : nI 0 = bI (¬ v_ < lo_ ∧ ¬ hi_ < v_) := bI_0 (fun z => z.2 c_9)
      refine lv_iconst (v := nI 0) hx hb dX7_in_17 (by decide) ?_
      exact cr_zret hx hb hr hlocks hK hP hD hS (by decide +kernel) dX7_in_18 (by rw [hRR]; exact ctR_i (hv) (rfl))
    · have hv : nI 1 = bI (¬ v_ < lo_ ∧ ¬ hi_ < v_) := bI_1 ⟨Int64.not_lt.mpr c_2, Int64.not_lt.mpr c_9⟩
      refine lv_iconst (v := nI 1) hx hb dX7_in_13 (by decide) ?_
      refine lv_goto (tgt := 18) hx hb dX7_in_14 (by decide) ?_
      exact cr_zret hx hb hr hlocks hK hP hD hS (by decide +kernel) dX7_in_18 (by rw [hRR]; exact ctR_i (hv) (rfl))
set_option maxHeartbeats 4000000 in
set_option maxRecDepth 100000 in
theorem c_X7_in__n (G : GG) (l : Launch) (v_ : Nat) (lo_ : Nat) (hi_ : Nat) (jv : v_ < 2 ^ 62) (jlo : lo_ < 2 ^ 62) (jhi : hi_ < 2 ^ 62) : Cr G l yX7_in wsX7_in ({ frames := 0, cells := 0, slots := 0, locals := 0 }) 0 0 [.long (lN v_), .long (lN lo_), .long (lN hi_)] [] (ctR (some (.int (bI (lo_ ≤ v_ ∧ v_ ≤ hi_)))) []) := by
  refine cr_intro (cc := cX7_in) (maxL := 6) (ret := (some .boolean)) (own := RX7) (by decide) rfl rfl (Nat.le_of_ble_eq_true rfl) ?_
  intro p e s m args below meth c A hx hb hr hml hts hown hlocks hnm hNX hP hK hD hA hS ls hl
  obtain ⟨RR, hRR⟩ : ∃ RR, RR = (ctR (some (.int (bI (lo_ ≤ v_ ∧ v_ ≤ hi_)))) []) := ⟨_, rfl⟩
  rw [← hRR]
  have hl : lv_has ls 6 [(0, .long (lN v_)), (2, .long (lN lo_)), (4, .long (lN hi_))] := hl
  refine lv_lload_n hx hb dX7_in_0 rfl (lv_at hl 0 rfl) ?_
  refine lv_lload_n hx hb dX7_in_1 rfl (lv_at hl 1 rfl) ?_
  refine ks_lcN_lt (tgt := 17) hx hb dX7_in_2 dX7_in_3 (by decide) (by omega) (by omega) (fun c_2 => ?_) (fun c_2 => ?_)
  · have hv : nI 0 = bI (lo_ ≤ v_ ∧ v_ ≤ hi_) := bI_0 (by omega)
    refine lv_iconst (v := nI 0) hx hb dX7_in_17 (by decide) ?_
    exact cr_zret hx hb hr hlocks hK hP hD hS (by decide +kernel) dX7_in_18 (by rw [hRR]; exact ctR_i (hv) (rfl))
  · refine lv_lload_n hx hb dX7_in_6 rfl (lv_at hl 0 rfl) ?_
    refine lv_lload hx hb dX7_in_7 (lv_at hl 2 rfl) ?_
    refine ks_lcN_gt (tgt := 17) hx hb dX7_in_9 dX7_in_10 (by decide) (by omega) (by omega) (fun c_9 => ?_) (fun c_9 => ?_)
    · have hv : nI 0 = bI (lo_ ≤ v_ ∧ v_ ≤ hi_) := bI_0 (by omega)
      refine lv_iconst (v := nI 0) hx hb dX7_in_17 (by decide) ?_
      exact cr_zret hx hb hr hlocks hK hP hD hS (by decide +kernel) dX7_in_18 (by rw [hRR]; exact ctR_i (hv) (rfl))
    · have hv : nI 1 = bI (lo_ ≤ v_ ∧ v_ ≤ hi_) := bI_1 (by omega)
      refine lv_iconst (v := nI 1) hx hb dX7_in_13 (by decide) ?_
      refine lv_goto (tgt := 18) hx hb dX7_in_14 (by decide) ?_
      exact cr_zret hx hb hr hlocks hK hP hD hS (by decide +kernel) dX7_in_18 (by rw [hRR]; exact ctR_i (hv) (rfl))
set_option maxHeartbeats 4000000 in
set_option maxRecDepth 100000 in
theorem c_X7_in__i (G : GG) (l : Launch) (v_ : Int32) (lo_ : Nat) (hi_ : Nat) (jlo : lo_ < 2 ^ 31) (jhi : hi_ < 2 ^ 31) : Cr G l yX7_in wsX7_in ({ frames := 0, cells := 0, slots := 0, locals := 0 }) 0 0 [.long v_.toInt64, .long (lN lo_), .long (lN hi_)] [] (ctR (some (.int (bI ((lo_ : Int) ≤ v_.toInt ∧ v_.toInt ≤ (hi_ : Int))))) []) := by
  refine cr_intro (cc := cX7_in) (maxL := 6) (ret := (some .boolean)) (own := RX7) (by decide) rfl rfl (Nat.le_of_ble_eq_true rfl) ?_
  intro p e s m args below meth c A hx hb hr hml hts hown hlocks hnm hNX hP hK hD hA hS ls hl
  obtain ⟨RR, hRR⟩ : ∃ RR, RR = (ctR (some (.int (bI ((lo_ : Int) ≤ v_.toInt ∧ v_.toInt ≤ (hi_ : Int))))) []) := ⟨_, rfl⟩
  rw [← hRR]
  have hl : lv_has ls 6 [(0, .long v_.toInt64), (2, .long (lN lo_)), (4, .long (lN hi_))] := hl
  refine lv_lload_n hx hb dX7_in_0 rfl (lv_at hl 0 rfl) ?_
  refine lv_lload_n hx hb dX7_in_1 rfl (lv_at hl 1 rfl) ?_
  refine ks_lc_lt (tgt := 17) hx hb dX7_in_2 dX7_in_3 (by decide) (fun c_2 => ?_) (fun c_2 => ?_)
  · have hv : nI 0 = bI ((lo_ : Int) ≤ v_.toInt ∧ v_.toInt ≤ (hi_ : Int)) := bI_0 (fun z => ((in_iff jlo jhi).mpr z).1 c_2)
    refine lv_iconst (v := nI 0) hx hb dX7_in_17 (by decide) ?_
    exact cr_zret hx hb hr hlocks hK hP hD hS (by decide +kernel) dX7_in_18 (by rw [hRR]; exact ctR_i (hv) (rfl))
  · refine lv_lload_n hx hb dX7_in_6 rfl (lv_at hl 0 rfl) ?_
    refine lv_lload hx hb dX7_in_7 (lv_at hl 2 rfl) ?_
    refine ks_lc_gt (tgt := 17) hx hb dX7_in_9 dX7_in_10 (by decide) (fun c_9 => ?_) (fun c_9 => ?_)
    · have hv : nI 0 = bI ((lo_ : Int) ≤ v_.toInt ∧ v_.toInt ≤ (hi_ : Int)) := bI_0 (fun z => ((in_iff jlo jhi).mpr z).2 c_9)
      refine lv_iconst (v := nI 0) hx hb dX7_in_17 (by decide) ?_
      exact cr_zret hx hb hr hlocks hK hP hD hS (by decide +kernel) dX7_in_18 (by rw [hRR]; exact ctR_i (hv) (rfl))
    · have hv : nI 1 = bI ((lo_ : Int) ≤ v_.toInt ∧ v_.toInt ≤ (hi_ : Int)) := bI_1 ((in_iff jlo jhi).mp ⟨Int64.not_lt.mpr c_2, Int64.not_lt.mpr c_9⟩)
      refine lv_iconst (v := nI 1) hx hb dX7_in_13 (by decide) ?_
      refine lv_goto (tgt := 18) hx hb dX7_in_14 (by decide) ?_
      exact cr_zret hx hb hr hlocks hK hP hD hS (by decide +kernel) dX7_in_18 (by rw [hRR]; exact ctR_i (hv) (rfl))
set_option maxHeartbeats 4000000 in
set_option maxRecDepth 100000 in
theorem c_X7_fails (G : GG) (l : Launch) (y_ : Nat) (ca : Nat → Nat) (ke : Nat) (ty_ : Nat) (th : Nat) (po : Nat) (fl_ : Prop) (tl : Nat) (k_ : Nat)  : Cr G l yX7_fails wsX7_fails ({ frames := 0, cells := 0, slots := 0, locals := 0 }) 0 0 [.ref y_, .int (nI k_)] [(y_, .inr (7, [.ref (ca 0), .ref (ca 1), .ref (ca 2), .int (nI ke), .ref (ca 3), .int (nI ty_), .int (nI th), .int (nI po), .int (bI fl_), .ref (ca 4), .int (nI tl), .ref (ca 5)]))] (ctR (some (.int (nI 0))) [(y_, .inr (7, [.ref (ca 0), .ref (ca 1), .ref (ca 2), .int (nI ke), .ref (ca 3), .int (nI ty_), .int (nI k_), .int (nI po), .int (bI fl_), .ref (ca 4), .int (nI tl), .ref (ca 5)]))]) := by
  refine cr_intro (cc := cX7_fails) (maxL := 2) (ret := (some .int)) (own := RX7) (by decide) rfl rfl (Nat.le_of_ble_eq_true rfl) ?_
  intro p e s m args below meth c A hx hb hr hml hts hown hlocks hnm hNX hP hK hD hA hS ls hl
  obtain ⟨RR, hRR⟩ : ∃ RR, RR = (ctR (some (.int (nI 0))) [(y_, .inr (7, [.ref (ca 0), .ref (ca 1), .ref (ca 2), .int (nI ke), .ref (ca 3), .int (nI ty_), .int (nI k_), .int (nI po), .int (bI fl_), .ref (ca 4), .int (nI tl), .ref (ca 5)]))]) := ⟨_, rfl⟩
  rw [← hRR]
  have hl : lv_has ls 2 [(0, .ref y_), (1, .int (nI k_))] := hl
  have hin7 : ∀ w ∈ u_ws RX7 TX7 12, w ∈ wsX7_fails := fun w h => List.mem_cons_of_mem _ (List.mem_append_right _ h)
  refine lv_aload_n hx hb dX7_fails_0 rfl (lv_at hl 0 rfl) ?_
  refine lv_iload_n hx hb dX7_fails_1 rfl (lv_at hl 1 rfl) ?_
  refine va_put (D := G.1) (ci := 7) (v := .int (nI k_)) (ty := .int) (C := RX7) (T := TX7) (N := 12) hx hb hts hin7 tyX7 tyX7_ok nmX7 hown hK hP hD hS 0 rfl rfl 6 (by decide) (hts (.fieldLink RX7 39 "PowerTablesModel" "thrown" "I") (List.mem_of_getElem? (i := 1) rfl)) (fun _ h9 => h9) rfl (tyX7_ok 6 (by decide)) rfl rfl (Nat.le_of_ble_eq_true rfl) dX7_fails_2 (fun Hq lcq hP hD hS => ?_)
  have hP : va_P G.1 vwCl [(y_, .inr (7, [.ref (ca 0), .ref (ca 1), .ref (ca 2), .int (nI ke), .ref (ca 3), .int (nI ty_), .int (nI k_), .int (nI po), .int (bI fl_), .ref (ca 4), .int (nI tl), .ref (ca 5)]))] _ := hP
  have hD : va_D A [(y_, .inr (7, [.ref (ca 0), .ref (ca 1), .ref (ca 2), .int (nI ke), .ref (ca 3), .int (nI ty_), .int (nI k_), .int (nI po), .int (bI fl_), .ref (ca 4), .int (nI tl), .ref (ca 5)]))] := hD
  refine lv_iconst (v := nI 0) hx hb dX7_fails_5 (by decide) ?_
  exact cr_iret hx hb hr hlocks hK hP hD hS dX7_fails_6 (by rw [hRR]; exact ctR_i (rfl) (rfl))
set_option maxHeartbeats 4000000 in
set_option maxRecDepth 100000 in
theorem c_X7_thrown (G : GG) (l : Launch) (y_ : Nat) (ca : Nat → Nat) (ke : Nat) (ty_ : Nat) (th : Nat) (po : Nat) (fl_ : Prop) (tl : Nat)  : Cr G l yX7_thrown wsX7_thrown ({ frames := 0, cells := 0, slots := 0, locals := 0 }) 0 0 [.ref y_] [(y_, .inr (7, [.ref (ca 0), .ref (ca 1), .ref (ca 2), .int (nI ke), .ref (ca 3), .int (nI ty_), .int (nI th), .int (nI po), .int (bI fl_), .ref (ca 4), .int (nI tl), .ref (ca 5)]))] (ctR (some (.int (nI th))) [(y_, .inr (7, [.ref (ca 0), .ref (ca 1), .ref (ca 2), .int (nI ke), .ref (ca 3), .int (nI ty_), .int (nI th), .int (nI po), .int (bI fl_), .ref (ca 4), .int (nI tl), .ref (ca 5)]))]) := by
  refine cr_intro (cc := cX7_thrown) (maxL := 1) (ret := (some .int)) (own := RX7) (by decide) rfl rfl (Nat.le_of_ble_eq_true rfl) ?_
  intro p e s m args below meth c A hx hb hr hml hts hown hlocks hnm hNX hP hK hD hA hS ls hl
  obtain ⟨RR, hRR⟩ : ∃ RR, RR = (ctR (some (.int (nI th))) [(y_, .inr (7, [.ref (ca 0), .ref (ca 1), .ref (ca 2), .int (nI ke), .ref (ca 3), .int (nI ty_), .int (nI th), .int (nI po), .int (bI fl_), .ref (ca 4), .int (nI tl), .ref (ca 5)]))]) := ⟨_, rfl⟩
  rw [← hRR]
  have hl : lv_has ls 1 [(0, .ref y_)] := hl
  have hin7 : ∀ w ∈ u_ws RX7 TX7 12, w ∈ wsX7_thrown := fun w h => List.mem_cons_of_mem _ (List.mem_append_right _ h)
  refine lv_aload_n hx hb dX7_thrown_0 rfl (lv_at hl 0 rfl) ?_
  refine va_get (D := G.1) (ci := 7) (v := .int (nI th)) (C := RX7) (T := TX7) (N := 12) hx hb hts hin7 hown hK hP 0 rfl rfl 6 (by decide) (hts (.fieldLink RX7 39 "PowerTablesModel" "thrown" "I") (List.mem_of_getElem? (i := 1) rfl)) (fun _ h9 => h9) rfl dX7_thrown_1 ?_
  exact cr_iret hx hb hr hlocks hK hP hD hS dX7_thrown_4 (by rw [hRR]; exact ctR_i (rfl) (rfl))
set_option maxHeartbeats 4000000 in
set_option maxRecDepth 100000 in
theorem c_X7_isRow (G : GG) (l : Launch) (y_ : Nat) (ca : Nat → Nat) (ke : Nat) (ty_ : Nat) (th : Nat) (po : Nat) (fl_ : Prop) (tl : Nat) (T : TS) (v_ : Int32) (jn4 : T.s 4 ≤ 40) : Cr G l yX7_isRow wsX7_isRow ({ frames := 1, cells := 0, slots := 0, locals := 25 }) 0 0 [.ref y_, .int v_] [(y_, .inr (7, [.ref (ca 0), .ref (ca 1), .ref (ca 2), .int (nI ke), .ref (ca 3), .int (nI ty_), .int (nI th), .int (nI po), .int (bI fl_), .ref (ca 4), .int (nI tl), .ref (ca 5)])), (ca 0, .inl (G.2.2.1, 103, .inr (.inl (mV T))))] (ctR (some (.int (bI (0 ≤ v_.toInt ∧ v_.toInt < (T.s 4 : Int))))) [(y_, .inr (7, [.ref (ca 0), .ref (ca 1), .ref (ca 2), .int (nI ke), .ref (ca 3), .int (nI ty_), .int (nI th), .int (nI po), .int (bI fl_), .ref (ca 4), .int (nI tl), .ref (ca 5)])), (ca 0, .inl (G.2.2.1, 103, .inr (.inl (mV T))))]) := by
  refine cr_intro (cc := cX7_isRow) (maxL := 2) (ret := (some .boolean)) (own := RX7) (by decide) rfl rfl (Nat.le_of_ble_eq_true rfl) ?_
  intro p e s m args below meth c A hx hb hr hml hts hown hlocks hnm hNX hP hK hD hA hS ls hl
  obtain ⟨RR, hRR⟩ : ∃ RR, RR = (ctR (some (.int (bI (0 ≤ v_.toInt ∧ v_.toInt < (T.s 4 : Int))))) [(y_, .inr (7, [.ref (ca 0), .ref (ca 1), .ref (ca 2), .int (nI ke), .ref (ca 3), .int (nI ty_), .int (nI th), .int (nI po), .int (bI fl_), .ref (ca 4), .int (nI tl), .ref (ca 5)])), (ca 0, .inl (G.2.2.1, 103, .inr (.inl (mV T))))]) := ⟨_, rfl⟩
  rw [← hRR]
  have hl : lv_has ls 2 [(0, .ref y_), (1, .int v_)] := hl
  have hin7 : ∀ w ∈ u_ws RX7 TX7 12, w ∈ wsX7_isRow := fun w h => List.mem_cons_of_mem _ (List.mem_append_right _ h)
  refine lv_iload_n hx hb dX7_isRow_0 rfl (lv_at hl 1 rfl) ?_
  refine lv_i2l hx hb dX7_isRow_1 rfl ?_
  refine lv_lconst (v := lN 0) hx hb dX7_isRow_2 rfl ?_
  refine lv_aload_n hx hb dX7_isRow_3 rfl (lv_at hl 0 rfl) ?_
  refine va_get (D := G.1) (ci := 7) (v := .ref (ca 0)) (C := RX7) (T := TX7) (N := 12) hx hb hts hin7 hown hK hP 0 rfl rfl 0 (by decide) (hts (.fieldLink RX7 7 "PowerTablesModel" "now" "[J") (List.mem_of_getElem? (i := 1) rfl)) (fun _ h9 => h9) rfl dX7_isRow_4 ?_
  refine lv_iconst (v := nI 4) hx hb dX7_isRow_7 (by decide) ?_
  refine ks_lald hx hb hK hP 1 rfl (by omega) (by decide) dX7_isRow_8 ?_
  refine ks_vL (show mV T 4 = lN (T.s 4) from rfl) ?_
  refine lv_lconst (v := lN 1) hx hb dX7_isRow_9 rfl ?_
  refine lv_lsub hx hb dX7_isRow_10 ?_
  refine cr_S (wr := [(y_, .inr (7, [.ref (ca 0), .ref (ca 1), .ref (ca 2), .int (nI ke), .ref (ca 3), .int (nI ty_), .int (nI th), .int (nI po), .int (bI fl_), .ref (ca 4), .int (nI tl), .ref (ca 5)])), (ca 0, .inl (G.2.2.1, 103, .inr (.inl (mV T))))]) (As := [.long v_.toInt64, .long (lN 0), .long ((lN (T.s 4)) - (lN 1))]) (rest := []) ⟨hx, hb, hml, hown, hts⟩ (c_X7_in G l v_.toInt64 (lN 0) ((lN (T.s 4)) - (lN 1)) ) (va_cwS 3 hts gX7_isRow_X7_in rfl rfl rfl (by decide +kernel) ⟨Nat.le_of_ble_eq_true rfl, Nat.le_of_ble_eq_true rfl⟩) dX7_isRow_11 hK hNX hP hD hS hA hl [] [0, 1] rfl rfl rfl rfl (by decide) rfl (Nat.le_of_ble_eq_true rfl) ⟨Nat.le_of_ble_eq_true rfl, Nat.le_of_ble_eq_true rfl⟩ rfl (fun v' w' Hq lcq hR' hP hD hS => ?_)
  obtain ⟨rfl, rfl⟩ := hR'
  have hP : va_P G.1 vwCl [(y_, .inr (7, [.ref (ca 0), .ref (ca 1), .ref (ca 2), .int (nI ke), .ref (ca 3), .int (nI ty_), .int (nI th), .int (nI po), .int (bI fl_), .ref (ca 4), .int (nI tl), .ref (ca 5)])), (ca 0, .inl (G.2.2.1, 103, .inr (.inl (mV T))))] _ := hP.sub [0, 1] rfl
  have hD : va_D A [(y_, .inr (7, [.ref (ca 0), .ref (ca 1), .ref (ca 2), .int (nI ke), .ref (ca 3), .int (nI ty_), .int (nI th), .int (nI po), .int (bI fl_), .ref (ca 4), .int (nI tl), .ref (ca 5)])), (ca 0, .inl (G.2.2.1, 103, .inr (.inl (mV T))))] := hD.sub [0, 1] (by decide +kernel) rfl
  refine ks_vI (show bI (¬ v_.toInt64 < (lN 0) ∧ ¬ ((lN (T.s 4)) - (lN 1)) < v_.toInt64) = bI (0 ≤ v_.toInt ∧ v_.toInt < (T.s 4 : Int)) from bI_eq (isrow_i jn4)) ?_
  exact cr_zret hx hb hr hlocks hK hP hD hS bI_nar dX7_isRow_14 (by rw [hRR]; exact ctR_i (rfl) (rfl))
set_option maxHeartbeats 4000000 in
set_option maxRecDepth 100000 in
theorem c_X7_isRow__n (G : GG) (l : Launch) (y_ : Nat) (ca : Nat → Nat) (ke : Nat) (ty_ : Nat) (th : Nat) (po : Nat) (fl_ : Prop) (tl : Nat) (T : TS) (i_ : Nat) (jn4 : T.s 4 ≤ 40) (ji : i_ < 2 ^ 31) : Cr G l yX7_isRow wsX7_isRow ({ frames := 1, cells := 0, slots := 0, locals := 25 }) 0 0 [.ref y_, .int (nI i_)] [(y_, .inr (7, [.ref (ca 0), .ref (ca 1), .ref (ca 2), .int (nI ke), .ref (ca 3), .int (nI ty_), .int (nI th), .int (nI po), .int (bI fl_), .ref (ca 4), .int (nI tl), .ref (ca 5)])), (ca 0, .inl (G.2.2.1, 103, .inr (.inl (mV T))))] (ctR (some (.int (bI (i_ < T.s 4)))) [(y_, .inr (7, [.ref (ca 0), .ref (ca 1), .ref (ca 2), .int (nI ke), .ref (ca 3), .int (nI ty_), .int (nI th), .int (nI po), .int (bI fl_), .ref (ca 4), .int (nI tl), .ref (ca 5)])), (ca 0, .inl (G.2.2.1, 103, .inr (.inl (mV T))))]) := by
  refine cr_intro (cc := cX7_isRow) (maxL := 2) (ret := (some .boolean)) (own := RX7) (by decide) rfl rfl (Nat.le_of_ble_eq_true rfl) ?_
  intro p e s m args below meth c A hx hb hr hml hts hown hlocks hnm hNX hP hK hD hA hS ls hl
  obtain ⟨RR, hRR⟩ : ∃ RR, RR = (ctR (some (.int (bI (i_ < T.s 4)))) [(y_, .inr (7, [.ref (ca 0), .ref (ca 1), .ref (ca 2), .int (nI ke), .ref (ca 3), .int (nI ty_), .int (nI th), .int (nI po), .int (bI fl_), .ref (ca 4), .int (nI tl), .ref (ca 5)])), (ca 0, .inl (G.2.2.1, 103, .inr (.inl (mV T))))]) := ⟨_, rfl⟩
  rw [← hRR]
  have hl : lv_has ls 2 [(0, .ref y_), (1, .int (nI i_))] := hl
  have hin7 : ∀ w ∈ u_ws RX7 TX7 12, w ∈ wsX7_isRow := fun w h => List.mem_cons_of_mem _ (List.mem_append_right _ h)
  refine lv_iload_n hx hb dX7_isRow_0 rfl (lv_at hl 1 rfl) ?_
  refine ks_i2lN hx hb dX7_isRow_1 (by omega) ?_
  refine lv_lconst (v := lN 0) hx hb dX7_isRow_2 rfl ?_
  refine lv_aload_n hx hb dX7_isRow_3 rfl (lv_at hl 0 rfl) ?_
  refine va_get (D := G.1) (ci := 7) (v := .ref (ca 0)) (C := RX7) (T := TX7) (N := 12) hx hb hts hin7 hown hK hP 0 rfl rfl 0 (by decide) (hts (.fieldLink RX7 7 "PowerTablesModel" "now" "[J") (List.mem_of_getElem? (i := 1) rfl)) (fun _ h9 => h9) rfl dX7_isRow_4 ?_
  refine lv_iconst (v := nI 4) hx hb dX7_isRow_7 (by decide) ?_
  refine ks_lald hx hb hK hP 1 rfl (by omega) (by decide) dX7_isRow_8 ?_
  refine ks_vL (show mV T 4 = lN (T.s 4) from rfl) ?_
  refine lv_lconst (v := lN 1) hx hb dX7_isRow_9 rfl ?_
  refine lv_lsub hx hb dX7_isRow_10 ?_
  refine cr_S (wr := [(y_, .inr (7, [.ref (ca 0), .ref (ca 1), .ref (ca 2), .int (nI ke), .ref (ca 3), .int (nI ty_), .int (nI th), .int (nI po), .int (bI fl_), .ref (ca 4), .int (nI tl), .ref (ca 5)])), (ca 0, .inl (G.2.2.1, 103, .inr (.inl (mV T))))]) (As := [.long (lN i_), .long (lN 0), .long ((lN (T.s 4)) - (lN 1))]) (rest := []) ⟨hx, hb, hml, hown, hts⟩ (c_X7_in G l (lN i_) (lN 0) ((lN (T.s 4)) - (lN 1)) ) (va_cwS 3 hts gX7_isRow_X7_in rfl rfl rfl (by decide +kernel) ⟨Nat.le_of_ble_eq_true rfl, Nat.le_of_ble_eq_true rfl⟩) dX7_isRow_11 hK hNX hP hD hS hA hl [] [0, 1] rfl rfl rfl rfl (by decide) rfl (Nat.le_of_ble_eq_true rfl) ⟨Nat.le_of_ble_eq_true rfl, Nat.le_of_ble_eq_true rfl⟩ rfl (fun v' w' Hq lcq hR' hP hD hS => ?_)
  obtain ⟨rfl, rfl⟩ := hR'
  have hP : va_P G.1 vwCl [(y_, .inr (7, [.ref (ca 0), .ref (ca 1), .ref (ca 2), .int (nI ke), .ref (ca 3), .int (nI ty_), .int (nI th), .int (nI po), .int (bI fl_), .ref (ca 4), .int (nI tl), .ref (ca 5)])), (ca 0, .inl (G.2.2.1, 103, .inr (.inl (mV T))))] _ := hP.sub [0, 1] rfl
  have hD : va_D A [(y_, .inr (7, [.ref (ca 0), .ref (ca 1), .ref (ca 2), .int (nI ke), .ref (ca 3), .int (nI ty_), .int (nI th), .int (nI po), .int (bI fl_), .ref (ca 4), .int (nI tl), .ref (ca 5)])), (ca 0, .inl (G.2.2.1, 103, .inr (.inl (mV T))))] := hD.sub [0, 1] (by decide +kernel) rfl
  refine ks_vI (show bI (¬ (lN i_) < (lN 0) ∧ ¬ ((lN (T.s 4)) - (lN 1)) < (lN i_)) = bI (i_ < T.s 4) from bI_eq (isrow_n ji jn4)) ?_
  exact cr_zret hx hb hr hlocks hK hP hD hS bI_nar dX7_isRow_14 (by rw [hRR]; exact ctR_i (rfl) (rfl))
set_option maxHeartbeats 4000000 in
set_option maxRecDepth 100000 in
theorem c_X7_right (G : GG) (l : Launch) (h_ : Nat) (T : TS) (i_ : Nat) (ji : i_ < 2 ^ 29) (jf_ : T.s 3 ≤ 99) (jp : T.s 2 ≤ 5) : Cr G l yX7_right wsX7_right ({ frames := 0, cells := 0, slots := 0, locals := 0 }) 0 0 [.ref h_, .int (nI i_)] [(h_, .inl (G.2.2.1, 103, .inr (.inl (mV T))))] (ctR (some (.long (rvT T i_))) [(h_, .inl (G.2.2.1, 103, .inr (.inl (mV T))))]) := by
  refine cr_intro (cc := cX7_right) (maxL := 7) (ret := (some .long)) (own := RX7) (by decide) rfl rfl (Nat.le_of_ble_eq_true rfl) ?_
  intro p e s m args below meth c A hx hb hr hml hts hown hlocks hnm hNX hP hK hD hA hS ls hl
  obtain ⟨RR, hRR⟩ : ∃ RR, RR = (ctR (some (.long (rvT T i_))) [(h_, .inl (G.2.2.1, 103, .inr (.inl (mV T))))]) := ⟨_, rfl⟩
  rw [← hRR]
  have hl : lv_has ls 7 [(0, .ref h_), (1, .int (nI i_))] := hl
  refine lv_aload_n hx hb dX7_right_0 rfl (lv_at hl 0 rfl) ?_
  refine lv_iconst (v := nI 3) hx hb dX7_right_1 (by decide) ?_
  refine ks_lald hx hb hK hP 0 rfl (by omega) (by decide) dX7_right_2 ?_
  refine ks_vL (show mV T 3 = lN (T.s 3) from rfl) ?_
  refine lv_iload_n hx hb dX7_right_3 rfl (lv_at hl 1 rfl) ?_
  refine ks_i2lN hx hb dX7_right_4 (by omega) ?_
  refine ks_laddN hx hb dX7_right_5 ?_
  refine lv_lstore_n (lv' := [(2, .long (lN (T.s 3 + i_))), (0, .ref h_), (1, .int (nI i_))]) hx hb dX7_right_6 rfl hl (by decide) rfl (fun ls hl => ?_)
  refine lv_lconst (v := lN 1) hx hb dX7_right_7 rfl ?_
  refine lv_lstore (lv' := [(4, .long (lN 1)), (2, .long (lN (T.s 3 + i_))), (0, .ref h_), (1, .int (nI i_))]) hx hb dX7_right_8 hl (by decide) rfl (fun ls hl => ?_)
  refine lv_iconst (v := nI 0) hx hb dX7_right_10 (by decide) ?_
  refine lv_istore (lv' := [(6, .int (nI 0)), (4, .long (lN 1)), (2, .long (lN (T.s 3 + i_))), (0, .ref h_), (1, .int (nI i_))]) hx hb dX7_right_11 hl (by decide) rfl (fun ls hl => ?_)
  have L_13 : ∀ (n_13 : Nat) (k_ : Nat) (_ : 6 - k_ < n_13) (jk : k_ ≤ T.s 2) (Hq : Heap) (lcq : List Loc), va_P G.1 vwCl [(h_, .inl (G.2.2.1, 103, .inr (.inl (mV T))))] Hq → va_D A [(h_, .inl (G.2.2.1, 103, .inr (.inl (mV T))))] → va_S A s.heap Hq lcq → ∀ ls : Array Slot, lv_has ls 7 [(6, .int (nI k_)), (0, .ref h_), (2, .long (lN (T.s 3 + i_))), (4, .long (pwr (lN (T.s 3 + i_)) k_))] → W p l e ({ frames := 0, cells := 0, slots := 0, locals := 0 }) s m args below meth c Hq lcq 0 0 (MQ below (cr_Q G RR A) args s 0 0 A) (F0 m 13 ls []) := by
    intro n_13
    induction n_13 with
    | zero => intro k_ hmu_13; exact absurd hmu_13 (Nat.not_lt_zero _)
    | succ n_13 ih_13 =>
      intro k_ hmu_13 jk Hq lcq hP hD hS ls hl
      refine lv_iload hx hb dX7_right_13 (lv_at hl 0 rfl) ?_
      refine ks_i2lN hx hb dX7_right_15 (by omega) ?_
      refine lv_aload_n hx hb dX7_right_16 rfl (lv_at hl 1 rfl) ?_
      refine lv_iconst (v := nI 2) hx hb dX7_right_17 (by decide) ?_
      refine ks_lald hx hb hK hP 0 rfl (by omega) (by decide) dX7_right_18 ?_
      refine ks_vL (show mV T 2 = lN (T.s 2) from rfl) ?_
      refine ks_lcN_ge (tgt := 35) hx hb dX7_right_19 dX7_right_20 (by decide) (by omega) (by omega) (fun c_19 => ?_) (fun c_19 => ?_)
      · obtain rfl : k_ = T.s 2 := by omega
        refine lv_lload hx hb dX7_right_35 (lv_at hl 3 rfl) ?_
        exact cr_lret hx hb hr hlocks hK hP hD hS dX7_right_37 (by rw [hRR]; exact ctR_l (rfl) (rfl))
      · refine lv_lload hx hb dX7_right_23 (lv_at hl 3 rfl) ?_
        refine lv_lload_n hx hb dX7_right_25 rfl (lv_at hl 2 rfl) ?_
        refine lv_lmul hx hb dX7_right_26 ?_
        refine lv_lstore (lv' := [(4, .long ((pwr (lN (T.s 3 + i_)) k_) * (lN (T.s 3 + i_)))), (6, .int (nI k_)), (0, .ref h_), (2, .long (lN (T.s 3 + i_)))]) hx hb dX7_right_27 hl (by decide) rfl (fun ls hl => ?_)
        refine lv_iinc (v := nI (k_ + 1)) (lv' := [(6, .int (nI (k_ + 1))), (4, .long ((pwr (lN (T.s 3 + i_)) k_) * (lN (T.s 3 + i_)))), (0, .ref h_), (2, .long (lN (T.s 3 + i_)))]) hx hb dX7_right_29 hl (k := 1) rfl (ks_inc k_ 1) (by decide) rfl (fun ls hl => ?_)
        refine lv_goto (tgt := 13) hx hb dX7_right_32 (by decide) ?_
        exact ih_13  (k_ + 1) (by omega) (by omega) _ _ hP hD hS ls (lv_sub hl [0, 2, 3, 1] rfl)
  exact L_13 _ 0 (Nat.lt_succ_self _) (by omega) _ _ hP hD hS ls (lv_sub hl [0, 3, 2, 1] rfl)
set_option maxHeartbeats 4000000 in
set_option maxRecDepth 100000 in
theorem c_X7_rightDifference (G : GG) (l : Launch) (h_ : Nat) (T : TS) (j_ : Nat) (i_ : Nat) (jj : j_ < 6) (ji : i_ < 2 ^ 28) (jf_ : T.s 3 ≤ 99) (jp : T.s 2 ≤ 5) : Cr G l yX7_rightDifference wsX7_rightDifference ({ frames := 1, cells := 0, slots := 0, locals := 26 }) 0 0 [.ref h_, .int (nI j_), .int (nI i_)] [(h_, .inl (G.2.2.1, 103, .inr (.inl (mV T))))] (ctR (some (.long (dif (rvT T) j_ i_))) [(h_, .inl (G.2.2.1, 103, .inr (.inl (mV T))))]) := by
  refine cr_intro (cc := cX7_rightDifference) (maxL := 8) (ret := (some .long)) (own := RX7) (by decide) rfl rfl (Nat.le_of_ble_eq_true rfl) ?_
  intro p e s m args below meth c A hx hb hr hml hts hown hlocks hnm hNX hP hK hD hA hS ls hl
  obtain ⟨RR, hRR⟩ : ∃ RR, RR = (ctR (some (.long (dif (rvT T) j_ i_))) [(h_, .inl (G.2.2.1, 103, .inr (.inl (mV T))))]) := ⟨_, rfl⟩
  rw [← hRR]
  have hl : lv_has ls 8 [(0, .ref h_), (1, .int (nI j_)), (2, .int (nI i_))] := hl
  rcases (show j_ = 0 ∨ j_ = 1 ∨ j_ = 2 ∨ j_ = 3 ∨ j_ = 4 ∨ j_ = 5 by omega) with rfl | rfl | rfl | rfl | rfl | rfl
  · refine lv_lconst (v := lN 0) hx hb dX7_rightDifference_0 rfl ?_
    refine lv_lstore_n (lv' := [(3, .long (lN 0)), (0, .ref h_), (1, .int (nI 0)), (2, .int (nI i_))]) hx hb dX7_rightDifference_1 rfl hl (by decide) rfl (fun ls hl => ?_)
    refine lv_lconst (v := lN 1) hx hb dX7_rightDifference_2 rfl ?_
    refine lv_lstore (lv' := [(5, .long (lN 1)), (3, .long (lN 0)), (0, .ref h_), (1, .int (nI 0)), (2, .int (nI i_))]) hx hb dX7_rightDifference_3 hl (by decide) rfl (fun ls hl => ?_)
    refine lv_iconst (v := nI 0) hx hb dX7_rightDifference_5 (by decide) ?_
    refine lv_istore (lv' := [(7, .int (nI 0)), (5, .long (lN 1)), (3, .long (lN 0)), (0, .ref h_), (1, .int (nI 0)), (2, .int (nI i_))]) hx hb dX7_rightDifference_6 hl (by decide) rfl (fun ls hl => ?_)
    refine lv_iload hx hb dX7_rightDifference_8 (lv_at hl 0 rfl) ?_
    refine lv_iload_n hx hb dX7_rightDifference_10 rfl (lv_at hl 4 rfl) ?_
    refine ks_icmp_gt (tgt := 65) hx hb dX7_rightDifference_11 (by decide) (by omega) (by omega) (fun c_11 => ?_) (fun c_11 => ?_)
    · omega
    · refine lv_lload_n hx hb dX7_rightDifference_14 rfl (lv_at hl 2 rfl) ?_
      refine lv_iload_n hx hb dX7_rightDifference_15 rfl (lv_at hl 4 rfl) ?_
      refine lv_iload hx hb dX7_rightDifference_16 (lv_at hl 0 rfl) ?_
      refine ks_isubN hx hb dX7_rightDifference_18 (by omega) ?_
      refine lv_iconst (v := nI 2) hx hb dX7_rightDifference_19 (by decide) ?_
      refine ks_iremN hx hb dX7_rightDifference_20 (by omega) (by omega) (by omega) ?_
      refine ks_if_ne (tgt := 29) hx hb dX7_rightDifference_21 (by decide) (by omega) (fun c_21 => ?_) (fun c_21 => ?_)
      · omega
      · refine lv_lload hx hb dX7_rightDifference_24 (lv_at hl 1 rfl) ?_
        refine lv_goto (tgt := 32) hx hb dX7_rightDifference_26 (by decide) ?_
        refine lv_aload_n hx hb dX7_rightDifference_32 rfl (lv_at hl 3 rfl) ?_
        refine lv_iload_n hx hb dX7_rightDifference_33 rfl (lv_at hl 5 rfl) ?_
        refine lv_iload hx hb dX7_rightDifference_34 (lv_at hl 0 rfl) ?_
        refine ks_iaddN hx hb dX7_rightDifference_36 ?_
        refine cr_S (wr := []) (As := [.ref h_, .int (nI (i_ + 0))]) (rest := [.long (lN 1), .long (lN 0)]) ⟨hx, hb, hml, hown, hts⟩ (c_X7_right G l h_ T (i_ + 0) (by omega) (by omega) (by omega)) (va_cwS 2 hts gX7_rightDifference_X7_right rfl rfl rfl (by decide +kernel) ⟨Nat.le_of_ble_eq_true rfl, Nat.le_of_ble_eq_true rfl⟩) dX7_rightDifference_37 hK hNX hP hD hS hA hl [0] [] rfl rfl rfl rfl (by decide) rfl (Nat.le_of_ble_eq_true rfl) ⟨Nat.le_of_ble_eq_true rfl, Nat.le_of_ble_eq_true rfl⟩ rfl (fun v' w' Hq lcq hR' hP hD hS => ?_)
        obtain ⟨rfl, rfl⟩ := hR'
        have hP : va_P G.1 vwCl [(h_, .inl (G.2.2.1, 103, .inr (.inl (mV T))))] _ := hP.sub [0] rfl
        have hD : va_D A [(h_, .inl (G.2.2.1, 103, .inr (.inl (mV T))))] := hD.sub [0] (by decide +kernel) rfl
        refine lv_lmul hx hb dX7_rightDifference_40 ?_
        refine lv_ladd hx hb dX7_rightDifference_41 ?_
        refine lv_lstore_n (lv' := [(3, .long ((lN 0) + ((lN 1) * (rvT T (i_ + 0))))), (7, .int (nI 0)), (5, .long (lN 1)), (0, .ref h_), (1, .int (nI 0)), (2, .int (nI i_))]) hx hb dX7_rightDifference_42 rfl hl (by decide) rfl (fun ls hl => ?_)
        refine lv_lload hx hb dX7_rightDifference_43 (lv_at hl 2 rfl) ?_
        refine lv_iload_n hx hb dX7_rightDifference_45 rfl (lv_at hl 4 rfl) ?_
        refine lv_iload hx hb dX7_rightDifference_46 (lv_at hl 1 rfl) ?_
        refine ks_isubN hx hb dX7_rightDifference_48 (by omega) ?_
        refine ks_i2lN hx hb dX7_rightDifference_49 (by omega) ?_
        refine ks_lmulN hx hb dX7_rightDifference_50 ?_
        refine lv_iload hx hb dX7_rightDifference_51 (lv_at hl 1 rfl) ?_
        refine lv_iconst (v := nI 1) hx hb dX7_rightDifference_53 (by decide) ?_
        refine ks_iaddN hx hb dX7_rightDifference_54 ?_
        refine ks_i2lN hx hb dX7_rightDifference_55 (by omega) ?_
        refine ks_ldivN hx hb dX7_rightDifference_56 (by omega) (by omega) (by omega) ?_
        refine lv_lstore (lv' := [(5, .long (lN 0)), (3, .long ((lN 0) + ((lN 1) * (rvT T (i_ + 0))))), (7, .int (nI 0)), (0, .ref h_), (1, .int (nI 0)), (2, .int (nI i_))]) hx hb dX7_rightDifference_57 hl (by decide) rfl (fun ls hl => ?_)
        refine lv_iinc (v := nI 1) (lv' := [(7, .int (nI 1)), (5, .long (lN 0)), (3, .long ((lN 0) + ((lN 1) * (rvT T (i_ + 0))))), (0, .ref h_), (1, .int (nI 0)), (2, .int (nI i_))]) hx hb dX7_rightDifference_59 hl (k := 2) rfl (ks_inc 0 1) (by decide) rfl (fun ls hl => ?_)
        refine lv_goto (tgt := 8) hx hb dX7_rightDifference_62 (by decide) ?_
        refine lv_iload hx hb dX7_rightDifference_8 (lv_at hl 0 rfl) ?_
        refine lv_iload_n hx hb dX7_rightDifference_10 rfl (lv_at hl 4 rfl) ?_
        refine ks_icmp_gt (tgt := 65) hx hb dX7_rightDifference_11 (by decide) (by omega) (by omega) (fun c_11 => ?_) (fun c_11 => ?_)
        · refine lv_lload_n hx hb dX7_rightDifference_65 rfl (lv_at hl 2 rfl) ?_
          exact cr_lret hx hb hr hlocks hK hP hD hS dX7_rightDifference_66 (by rw [hRR]; exact ctR_l (rd0 (rvT T) i_) (rfl))
        · omega
  · refine lv_lconst (v := lN 0) hx hb dX7_rightDifference_0 rfl ?_
    refine lv_lstore_n (lv' := [(3, .long (lN 0)), (0, .ref h_), (1, .int (nI 1)), (2, .int (nI i_))]) hx hb dX7_rightDifference_1 rfl hl (by decide) rfl (fun ls hl => ?_)
    refine lv_lconst (v := lN 1) hx hb dX7_rightDifference_2 rfl ?_
    refine lv_lstore (lv' := [(5, .long (lN 1)), (3, .long (lN 0)), (0, .ref h_), (1, .int (nI 1)), (2, .int (nI i_))]) hx hb dX7_rightDifference_3 hl (by decide) rfl (fun ls hl => ?_)
    refine lv_iconst (v := nI 0) hx hb dX7_rightDifference_5 (by decide) ?_
    refine lv_istore (lv' := [(7, .int (nI 0)), (5, .long (lN 1)), (3, .long (lN 0)), (0, .ref h_), (1, .int (nI 1)), (2, .int (nI i_))]) hx hb dX7_rightDifference_6 hl (by decide) rfl (fun ls hl => ?_)
    refine lv_iload hx hb dX7_rightDifference_8 (lv_at hl 0 rfl) ?_
    refine lv_iload_n hx hb dX7_rightDifference_10 rfl (lv_at hl 4 rfl) ?_
    refine ks_icmp_gt (tgt := 65) hx hb dX7_rightDifference_11 (by decide) (by omega) (by omega) (fun c_11 => ?_) (fun c_11 => ?_)
    · omega
    · refine lv_lload_n hx hb dX7_rightDifference_14 rfl (lv_at hl 2 rfl) ?_
      refine lv_iload_n hx hb dX7_rightDifference_15 rfl (lv_at hl 4 rfl) ?_
      refine lv_iload hx hb dX7_rightDifference_16 (lv_at hl 0 rfl) ?_
      refine ks_isubN hx hb dX7_rightDifference_18 (by omega) ?_
      refine lv_iconst (v := nI 2) hx hb dX7_rightDifference_19 (by decide) ?_
      refine ks_iremN hx hb dX7_rightDifference_20 (by omega) (by omega) (by omega) ?_
      refine ks_if_ne (tgt := 29) hx hb dX7_rightDifference_21 (by decide) (by omega) (fun c_21 => ?_) (fun c_21 => ?_)
      · refine lv_lload hx hb dX7_rightDifference_29 (lv_at hl 1 rfl) ?_
        refine lv_lneg hx hb dX7_rightDifference_31 ?_
        refine lv_aload_n hx hb dX7_rightDifference_32 rfl (lv_at hl 3 rfl) ?_
        refine lv_iload_n hx hb dX7_rightDifference_33 rfl (lv_at hl 5 rfl) ?_
        refine lv_iload hx hb dX7_rightDifference_34 (lv_at hl 0 rfl) ?_
        refine ks_iaddN hx hb dX7_rightDifference_36 ?_
        refine cr_S (wr := []) (As := [.ref h_, .int (nI (i_ + 0))]) (rest := [.long (-(lN 1)), .long (lN 0)]) ⟨hx, hb, hml, hown, hts⟩ (c_X7_right G l h_ T (i_ + 0) (by omega) (by omega) (by omega)) (va_cwS 2 hts gX7_rightDifference_X7_right rfl rfl rfl (by decide +kernel) ⟨Nat.le_of_ble_eq_true rfl, Nat.le_of_ble_eq_true rfl⟩) dX7_rightDifference_37 hK hNX hP hD hS hA hl [0] [] rfl rfl rfl rfl (by decide) rfl (Nat.le_of_ble_eq_true rfl) ⟨Nat.le_of_ble_eq_true rfl, Nat.le_of_ble_eq_true rfl⟩ rfl (fun v' w' Hq lcq hR' hP hD hS => ?_)
        obtain ⟨rfl, rfl⟩ := hR'
        have hP : va_P G.1 vwCl [(h_, .inl (G.2.2.1, 103, .inr (.inl (mV T))))] _ := hP.sub [0] rfl
        have hD : va_D A [(h_, .inl (G.2.2.1, 103, .inr (.inl (mV T))))] := hD.sub [0] (by decide +kernel) rfl
        refine lv_lmul hx hb dX7_rightDifference_40 ?_
        refine lv_ladd hx hb dX7_rightDifference_41 ?_
        refine lv_lstore_n (lv' := [(3, .long ((lN 0) + ((-(lN 1)) * (rvT T (i_ + 0))))), (7, .int (nI 0)), (5, .long (lN 1)), (0, .ref h_), (1, .int (nI 1)), (2, .int (nI i_))]) hx hb dX7_rightDifference_42 rfl hl (by decide) rfl (fun ls hl => ?_)
        refine lv_lload hx hb dX7_rightDifference_43 (lv_at hl 2 rfl) ?_
        refine lv_iload_n hx hb dX7_rightDifference_45 rfl (lv_at hl 4 rfl) ?_
        refine lv_iload hx hb dX7_rightDifference_46 (lv_at hl 1 rfl) ?_
        refine ks_isubN hx hb dX7_rightDifference_48 (by omega) ?_
        refine ks_i2lN hx hb dX7_rightDifference_49 (by omega) ?_
        refine ks_lmulN hx hb dX7_rightDifference_50 ?_
        refine lv_iload hx hb dX7_rightDifference_51 (lv_at hl 1 rfl) ?_
        refine lv_iconst (v := nI 1) hx hb dX7_rightDifference_53 (by decide) ?_
        refine ks_iaddN hx hb dX7_rightDifference_54 ?_
        refine ks_i2lN hx hb dX7_rightDifference_55 (by omega) ?_
        refine ks_ldivN hx hb dX7_rightDifference_56 (by omega) (by omega) (by omega) ?_
        refine lv_lstore (lv' := [(5, .long (lN 1)), (3, .long ((lN 0) + ((-(lN 1)) * (rvT T (i_ + 0))))), (7, .int (nI 0)), (0, .ref h_), (1, .int (nI 1)), (2, .int (nI i_))]) hx hb dX7_rightDifference_57 hl (by decide) rfl (fun ls hl => ?_)
        refine lv_iinc (v := nI 1) (lv' := [(7, .int (nI 1)), (5, .long (lN 1)), (3, .long ((lN 0) + ((-(lN 1)) * (rvT T (i_ + 0))))), (0, .ref h_), (1, .int (nI 1)), (2, .int (nI i_))]) hx hb dX7_rightDifference_59 hl (k := 2) rfl (ks_inc 0 1) (by decide) rfl (fun ls hl => ?_)
        refine lv_goto (tgt := 8) hx hb dX7_rightDifference_62 (by decide) ?_
        refine lv_iload hx hb dX7_rightDifference_8 (lv_at hl 0 rfl) ?_
        refine lv_iload_n hx hb dX7_rightDifference_10 rfl (lv_at hl 4 rfl) ?_
        refine ks_icmp_gt (tgt := 65) hx hb dX7_rightDifference_11 (by decide) (by omega) (by omega) (fun c_11 => ?_) (fun c_11 => ?_)
        · omega
        · refine lv_lload_n hx hb dX7_rightDifference_14 rfl (lv_at hl 2 rfl) ?_
          refine lv_iload_n hx hb dX7_rightDifference_15 rfl (lv_at hl 4 rfl) ?_
          refine lv_iload hx hb dX7_rightDifference_16 (lv_at hl 0 rfl) ?_
          refine ks_isubN hx hb dX7_rightDifference_18 (by omega) ?_
          refine lv_iconst (v := nI 2) hx hb dX7_rightDifference_19 (by decide) ?_
          refine ks_iremN hx hb dX7_rightDifference_20 (by omega) (by omega) (by omega) ?_
          refine ks_if_ne (tgt := 29) hx hb dX7_rightDifference_21 (by decide) (by omega) (fun c_21 => ?_) (fun c_21 => ?_)
          · omega
          · refine lv_lload hx hb dX7_rightDifference_24 (lv_at hl 1 rfl) ?_
            refine lv_goto (tgt := 32) hx hb dX7_rightDifference_26 (by decide) ?_
            refine lv_aload_n hx hb dX7_rightDifference_32 rfl (lv_at hl 3 rfl) ?_
            refine lv_iload_n hx hb dX7_rightDifference_33 rfl (lv_at hl 5 rfl) ?_
            refine lv_iload hx hb dX7_rightDifference_34 (lv_at hl 0 rfl) ?_
            refine ks_iaddN hx hb dX7_rightDifference_36 ?_
            refine cr_S (wr := []) (As := [.ref h_, .int (nI (i_ + 1))]) (rest := [.long (lN 1), .long ((lN 0) + ((-(lN 1)) * (rvT T (i_ + 0))))]) ⟨hx, hb, hml, hown, hts⟩ (c_X7_right G l h_ T (i_ + 1) (by omega) (by omega) (by omega)) (va_cwS 2 hts gX7_rightDifference_X7_right rfl rfl rfl (by decide +kernel) ⟨Nat.le_of_ble_eq_true rfl, Nat.le_of_ble_eq_true rfl⟩) dX7_rightDifference_37 hK hNX hP hD hS hA hl [0] [] rfl rfl rfl rfl (by decide) rfl (Nat.le_of_ble_eq_true rfl) ⟨Nat.le_of_ble_eq_true rfl, Nat.le_of_ble_eq_true rfl⟩ rfl (fun v' w' Hq lcq hR' hP hD hS => ?_)
            obtain ⟨rfl, rfl⟩ := hR'
            have hP : va_P G.1 vwCl [(h_, .inl (G.2.2.1, 103, .inr (.inl (mV T))))] _ := hP.sub [0] rfl
            have hD : va_D A [(h_, .inl (G.2.2.1, 103, .inr (.inl (mV T))))] := hD.sub [0] (by decide +kernel) rfl
            refine lv_lmul hx hb dX7_rightDifference_40 ?_
            refine lv_ladd hx hb dX7_rightDifference_41 ?_
            refine lv_lstore_n (lv' := [(3, .long (((lN 0) + ((-(lN 1)) * (rvT T (i_ + 0)))) + ((lN 1) * (rvT T (i_ + 1))))), (7, .int (nI 1)), (5, .long (lN 1)), (0, .ref h_), (1, .int (nI 1)), (2, .int (nI i_))]) hx hb dX7_rightDifference_42 rfl hl (by decide) rfl (fun ls hl => ?_)
            refine lv_lload hx hb dX7_rightDifference_43 (lv_at hl 2 rfl) ?_
            refine lv_iload_n hx hb dX7_rightDifference_45 rfl (lv_at hl 4 rfl) ?_
            refine lv_iload hx hb dX7_rightDifference_46 (lv_at hl 1 rfl) ?_
            refine ks_isubN hx hb dX7_rightDifference_48 (by omega) ?_
            refine ks_i2lN hx hb dX7_rightDifference_49 (by omega) ?_
            refine ks_lmulN hx hb dX7_rightDifference_50 ?_
            refine lv_iload hx hb dX7_rightDifference_51 (lv_at hl 1 rfl) ?_
            refine lv_iconst (v := nI 1) hx hb dX7_rightDifference_53 (by decide) ?_
            refine ks_iaddN hx hb dX7_rightDifference_54 ?_
            refine ks_i2lN hx hb dX7_rightDifference_55 (by omega) ?_
            refine ks_ldivN hx hb dX7_rightDifference_56 (by omega) (by omega) (by omega) ?_
            refine lv_lstore (lv' := [(5, .long (lN 0)), (3, .long (((lN 0) + ((-(lN 1)) * (rvT T (i_ + 0)))) + ((lN 1) * (rvT T (i_ + 1))))), (7, .int (nI 1)), (0, .ref h_), (1, .int (nI 1)), (2, .int (nI i_))]) hx hb dX7_rightDifference_57 hl (by decide) rfl (fun ls hl => ?_)
            refine lv_iinc (v := nI 2) (lv' := [(7, .int (nI 2)), (5, .long (lN 0)), (3, .long (((lN 0) + ((-(lN 1)) * (rvT T (i_ + 0)))) + ((lN 1) * (rvT T (i_ + 1))))), (0, .ref h_), (1, .int (nI 1)), (2, .int (nI i_))]) hx hb dX7_rightDifference_59 hl (k := 2) rfl (ks_inc 1 1) (by decide) rfl (fun ls hl => ?_)
            refine lv_goto (tgt := 8) hx hb dX7_rightDifference_62 (by decide) ?_
            refine lv_iload hx hb dX7_rightDifference_8 (lv_at hl 0 rfl) ?_
            refine lv_iload_n hx hb dX7_rightDifference_10 rfl (lv_at hl 4 rfl) ?_
            refine ks_icmp_gt (tgt := 65) hx hb dX7_rightDifference_11 (by decide) (by omega) (by omega) (fun c_11 => ?_) (fun c_11 => ?_)
            · refine lv_lload_n hx hb dX7_rightDifference_65 rfl (lv_at hl 2 rfl) ?_
              exact cr_lret hx hb hr hlocks hK hP hD hS dX7_rightDifference_66 (by rw [hRR]; exact ctR_l (rd1 (rvT T) i_) (rfl))
            · omega
      · omega
  · refine lv_lconst (v := lN 0) hx hb dX7_rightDifference_0 rfl ?_
    refine lv_lstore_n (lv' := [(3, .long (lN 0)), (0, .ref h_), (1, .int (nI 2)), (2, .int (nI i_))]) hx hb dX7_rightDifference_1 rfl hl (by decide) rfl (fun ls hl => ?_)
    refine lv_lconst (v := lN 1) hx hb dX7_rightDifference_2 rfl ?_
    refine lv_lstore (lv' := [(5, .long (lN 1)), (3, .long (lN 0)), (0, .ref h_), (1, .int (nI 2)), (2, .int (nI i_))]) hx hb dX7_rightDifference_3 hl (by decide) rfl (fun ls hl => ?_)
    refine lv_iconst (v := nI 0) hx hb dX7_rightDifference_5 (by decide) ?_
    refine lv_istore (lv' := [(7, .int (nI 0)), (5, .long (lN 1)), (3, .long (lN 0)), (0, .ref h_), (1, .int (nI 2)), (2, .int (nI i_))]) hx hb dX7_rightDifference_6 hl (by decide) rfl (fun ls hl => ?_)
    refine lv_iload hx hb dX7_rightDifference_8 (lv_at hl 0 rfl) ?_
    refine lv_iload_n hx hb dX7_rightDifference_10 rfl (lv_at hl 4 rfl) ?_
    refine ks_icmp_gt (tgt := 65) hx hb dX7_rightDifference_11 (by decide) (by omega) (by omega) (fun c_11 => ?_) (fun c_11 => ?_)
    · omega
    · refine lv_lload_n hx hb dX7_rightDifference_14 rfl (lv_at hl 2 rfl) ?_
      refine lv_iload_n hx hb dX7_rightDifference_15 rfl (lv_at hl 4 rfl) ?_
      refine lv_iload hx hb dX7_rightDifference_16 (lv_at hl 0 rfl) ?_
      refine ks_isubN hx hb dX7_rightDifference_18 (by omega) ?_
      refine lv_iconst (v := nI 2) hx hb dX7_rightDifference_19 (by decide) ?_
      refine ks_iremN hx hb dX7_rightDifference_20 (by omega) (by omega) (by omega) ?_
      refine ks_if_ne (tgt := 29) hx hb dX7_rightDifference_21 (by decide) (by omega) (fun c_21 => ?_) (fun c_21 => ?_)
      · omega
      · refine lv_lload hx hb dX7_rightDifference_24 (lv_at hl 1 rfl) ?_
        refine lv_goto (tgt := 32) hx hb dX7_rightDifference_26 (by decide) ?_
        refine lv_aload_n hx hb dX7_rightDifference_32 rfl (lv_at hl 3 rfl) ?_
        refine lv_iload_n hx hb dX7_rightDifference_33 rfl (lv_at hl 5 rfl) ?_
        refine lv_iload hx hb dX7_rightDifference_34 (lv_at hl 0 rfl) ?_
        refine ks_iaddN hx hb dX7_rightDifference_36 ?_
        refine cr_S (wr := []) (As := [.ref h_, .int (nI (i_ + 0))]) (rest := [.long (lN 1), .long (lN 0)]) ⟨hx, hb, hml, hown, hts⟩ (c_X7_right G l h_ T (i_ + 0) (by omega) (by omega) (by omega)) (va_cwS 2 hts gX7_rightDifference_X7_right rfl rfl rfl (by decide +kernel) ⟨Nat.le_of_ble_eq_true rfl, Nat.le_of_ble_eq_true rfl⟩) dX7_rightDifference_37 hK hNX hP hD hS hA hl [0] [] rfl rfl rfl rfl (by decide) rfl (Nat.le_of_ble_eq_true rfl) ⟨Nat.le_of_ble_eq_true rfl, Nat.le_of_ble_eq_true rfl⟩ rfl (fun v' w' Hq lcq hR' hP hD hS => ?_)
        obtain ⟨rfl, rfl⟩ := hR'
        have hP : va_P G.1 vwCl [(h_, .inl (G.2.2.1, 103, .inr (.inl (mV T))))] _ := hP.sub [0] rfl
        have hD : va_D A [(h_, .inl (G.2.2.1, 103, .inr (.inl (mV T))))] := hD.sub [0] (by decide +kernel) rfl
        refine lv_lmul hx hb dX7_rightDifference_40 ?_
        refine lv_ladd hx hb dX7_rightDifference_41 ?_
        refine lv_lstore_n (lv' := [(3, .long ((lN 0) + ((lN 1) * (rvT T (i_ + 0))))), (7, .int (nI 0)), (5, .long (lN 1)), (0, .ref h_), (1, .int (nI 2)), (2, .int (nI i_))]) hx hb dX7_rightDifference_42 rfl hl (by decide) rfl (fun ls hl => ?_)
        refine lv_lload hx hb dX7_rightDifference_43 (lv_at hl 2 rfl) ?_
        refine lv_iload_n hx hb dX7_rightDifference_45 rfl (lv_at hl 4 rfl) ?_
        refine lv_iload hx hb dX7_rightDifference_46 (lv_at hl 1 rfl) ?_
        refine ks_isubN hx hb dX7_rightDifference_48 (by omega) ?_
        refine ks_i2lN hx hb dX7_rightDifference_49 (by omega) ?_
        refine ks_lmulN hx hb dX7_rightDifference_50 ?_
        refine lv_iload hx hb dX7_rightDifference_51 (lv_at hl 1 rfl) ?_
        refine lv_iconst (v := nI 1) hx hb dX7_rightDifference_53 (by decide) ?_
        refine ks_iaddN hx hb dX7_rightDifference_54 ?_
        refine ks_i2lN hx hb dX7_rightDifference_55 (by omega) ?_
        refine ks_ldivN hx hb dX7_rightDifference_56 (by omega) (by omega) (by omega) ?_
        refine lv_lstore (lv' := [(5, .long (lN 2)), (3, .long ((lN 0) + ((lN 1) * (rvT T (i_ + 0))))), (7, .int (nI 0)), (0, .ref h_), (1, .int (nI 2)), (2, .int (nI i_))]) hx hb dX7_rightDifference_57 hl (by decide) rfl (fun ls hl => ?_)
        refine lv_iinc (v := nI 1) (lv' := [(7, .int (nI 1)), (5, .long (lN 2)), (3, .long ((lN 0) + ((lN 1) * (rvT T (i_ + 0))))), (0, .ref h_), (1, .int (nI 2)), (2, .int (nI i_))]) hx hb dX7_rightDifference_59 hl (k := 2) rfl (ks_inc 0 1) (by decide) rfl (fun ls hl => ?_)
        refine lv_goto (tgt := 8) hx hb dX7_rightDifference_62 (by decide) ?_
        refine lv_iload hx hb dX7_rightDifference_8 (lv_at hl 0 rfl) ?_
        refine lv_iload_n hx hb dX7_rightDifference_10 rfl (lv_at hl 4 rfl) ?_
        refine ks_icmp_gt (tgt := 65) hx hb dX7_rightDifference_11 (by decide) (by omega) (by omega) (fun c_11 => ?_) (fun c_11 => ?_)
        · omega
        · refine lv_lload_n hx hb dX7_rightDifference_14 rfl (lv_at hl 2 rfl) ?_
          refine lv_iload_n hx hb dX7_rightDifference_15 rfl (lv_at hl 4 rfl) ?_
          refine lv_iload hx hb dX7_rightDifference_16 (lv_at hl 0 rfl) ?_
          refine ks_isubN hx hb dX7_rightDifference_18 (by omega) ?_
          refine lv_iconst (v := nI 2) hx hb dX7_rightDifference_19 (by decide) ?_
          refine ks_iremN hx hb dX7_rightDifference_20 (by omega) (by omega) (by omega) ?_
          refine ks_if_ne (tgt := 29) hx hb dX7_rightDifference_21 (by decide) (by omega) (fun c_21 => ?_) (fun c_21 => ?_)
          · refine lv_lload hx hb dX7_rightDifference_29 (lv_at hl 1 rfl) ?_
            refine lv_lneg hx hb dX7_rightDifference_31 ?_
            refine lv_aload_n hx hb dX7_rightDifference_32 rfl (lv_at hl 3 rfl) ?_
            refine lv_iload_n hx hb dX7_rightDifference_33 rfl (lv_at hl 5 rfl) ?_
            refine lv_iload hx hb dX7_rightDifference_34 (lv_at hl 0 rfl) ?_
            refine ks_iaddN hx hb dX7_rightDifference_36 ?_
            refine cr_S (wr := []) (As := [.ref h_, .int (nI (i_ + 1))]) (rest := [.long (-(lN 2)), .long ((lN 0) + ((lN 1) * (rvT T (i_ + 0))))]) ⟨hx, hb, hml, hown, hts⟩ (c_X7_right G l h_ T (i_ + 1) (by omega) (by omega) (by omega)) (va_cwS 2 hts gX7_rightDifference_X7_right rfl rfl rfl (by decide +kernel) ⟨Nat.le_of_ble_eq_true rfl, Nat.le_of_ble_eq_true rfl⟩) dX7_rightDifference_37 hK hNX hP hD hS hA hl [0] [] rfl rfl rfl rfl (by decide) rfl (Nat.le_of_ble_eq_true rfl) ⟨Nat.le_of_ble_eq_true rfl, Nat.le_of_ble_eq_true rfl⟩ rfl (fun v' w' Hq lcq hR' hP hD hS => ?_)
            obtain ⟨rfl, rfl⟩ := hR'
            have hP : va_P G.1 vwCl [(h_, .inl (G.2.2.1, 103, .inr (.inl (mV T))))] _ := hP.sub [0] rfl
            have hD : va_D A [(h_, .inl (G.2.2.1, 103, .inr (.inl (mV T))))] := hD.sub [0] (by decide +kernel) rfl
            refine lv_lmul hx hb dX7_rightDifference_40 ?_
            refine lv_ladd hx hb dX7_rightDifference_41 ?_
            refine lv_lstore_n (lv' := [(3, .long (((lN 0) + ((lN 1) * (rvT T (i_ + 0)))) + ((-(lN 2)) * (rvT T (i_ + 1))))), (7, .int (nI 1)), (5, .long (lN 2)), (0, .ref h_), (1, .int (nI 2)), (2, .int (nI i_))]) hx hb dX7_rightDifference_42 rfl hl (by decide) rfl (fun ls hl => ?_)
            refine lv_lload hx hb dX7_rightDifference_43 (lv_at hl 2 rfl) ?_
            refine lv_iload_n hx hb dX7_rightDifference_45 rfl (lv_at hl 4 rfl) ?_
            refine lv_iload hx hb dX7_rightDifference_46 (lv_at hl 1 rfl) ?_
            refine ks_isubN hx hb dX7_rightDifference_48 (by omega) ?_
            refine ks_i2lN hx hb dX7_rightDifference_49 (by omega) ?_
            refine ks_lmulN hx hb dX7_rightDifference_50 ?_
            refine lv_iload hx hb dX7_rightDifference_51 (lv_at hl 1 rfl) ?_
            refine lv_iconst (v := nI 1) hx hb dX7_rightDifference_53 (by decide) ?_
            refine ks_iaddN hx hb dX7_rightDifference_54 ?_
            refine ks_i2lN hx hb dX7_rightDifference_55 (by omega) ?_
            refine ks_ldivN hx hb dX7_rightDifference_56 (by omega) (by omega) (by omega) ?_
            refine lv_lstore (lv' := [(5, .long (lN 1)), (3, .long (((lN 0) + ((lN 1) * (rvT T (i_ + 0)))) + ((-(lN 2)) * (rvT T (i_ + 1))))), (7, .int (nI 1)), (0, .ref h_), (1, .int (nI 2)), (2, .int (nI i_))]) hx hb dX7_rightDifference_57 hl (by decide) rfl (fun ls hl => ?_)
            refine lv_iinc (v := nI 2) (lv' := [(7, .int (nI 2)), (5, .long (lN 1)), (3, .long (((lN 0) + ((lN 1) * (rvT T (i_ + 0)))) + ((-(lN 2)) * (rvT T (i_ + 1))))), (0, .ref h_), (1, .int (nI 2)), (2, .int (nI i_))]) hx hb dX7_rightDifference_59 hl (k := 2) rfl (ks_inc 1 1) (by decide) rfl (fun ls hl => ?_)
            refine lv_goto (tgt := 8) hx hb dX7_rightDifference_62 (by decide) ?_
            refine lv_iload hx hb dX7_rightDifference_8 (lv_at hl 0 rfl) ?_
            refine lv_iload_n hx hb dX7_rightDifference_10 rfl (lv_at hl 4 rfl) ?_
            refine ks_icmp_gt (tgt := 65) hx hb dX7_rightDifference_11 (by decide) (by omega) (by omega) (fun c_11 => ?_) (fun c_11 => ?_)
            · omega
            · refine lv_lload_n hx hb dX7_rightDifference_14 rfl (lv_at hl 2 rfl) ?_
              refine lv_iload_n hx hb dX7_rightDifference_15 rfl (lv_at hl 4 rfl) ?_
              refine lv_iload hx hb dX7_rightDifference_16 (lv_at hl 0 rfl) ?_
              refine ks_isubN hx hb dX7_rightDifference_18 (by omega) ?_
              refine lv_iconst (v := nI 2) hx hb dX7_rightDifference_19 (by decide) ?_
              refine ks_iremN hx hb dX7_rightDifference_20 (by omega) (by omega) (by omega) ?_
              refine ks_if_ne (tgt := 29) hx hb dX7_rightDifference_21 (by decide) (by omega) (fun c_21 => ?_) (fun c_21 => ?_)
              · omega
              · refine lv_lload hx hb dX7_rightDifference_24 (lv_at hl 1 rfl) ?_
                refine lv_goto (tgt := 32) hx hb dX7_rightDifference_26 (by decide) ?_
                refine lv_aload_n hx hb dX7_rightDifference_32 rfl (lv_at hl 3 rfl) ?_
                refine lv_iload_n hx hb dX7_rightDifference_33 rfl (lv_at hl 5 rfl) ?_
                refine lv_iload hx hb dX7_rightDifference_34 (lv_at hl 0 rfl) ?_
                refine ks_iaddN hx hb dX7_rightDifference_36 ?_
                refine cr_S (wr := []) (As := [.ref h_, .int (nI (i_ + 2))]) (rest := [.long (lN 1), .long (((lN 0) + ((lN 1) * (rvT T (i_ + 0)))) + ((-(lN 2)) * (rvT T (i_ + 1))))]) ⟨hx, hb, hml, hown, hts⟩ (c_X7_right G l h_ T (i_ + 2) (by omega) (by omega) (by omega)) (va_cwS 2 hts gX7_rightDifference_X7_right rfl rfl rfl (by decide +kernel) ⟨Nat.le_of_ble_eq_true rfl, Nat.le_of_ble_eq_true rfl⟩) dX7_rightDifference_37 hK hNX hP hD hS hA hl [0] [] rfl rfl rfl rfl (by decide) rfl (Nat.le_of_ble_eq_true rfl) ⟨Nat.le_of_ble_eq_true rfl, Nat.le_of_ble_eq_true rfl⟩ rfl (fun v' w' Hq lcq hR' hP hD hS => ?_)
                obtain ⟨rfl, rfl⟩ := hR'
                have hP : va_P G.1 vwCl [(h_, .inl (G.2.2.1, 103, .inr (.inl (mV T))))] _ := hP.sub [0] rfl
                have hD : va_D A [(h_, .inl (G.2.2.1, 103, .inr (.inl (mV T))))] := hD.sub [0] (by decide +kernel) rfl
                refine lv_lmul hx hb dX7_rightDifference_40 ?_
                refine lv_ladd hx hb dX7_rightDifference_41 ?_
                refine lv_lstore_n (lv' := [(3, .long ((((lN 0) + ((lN 1) * (rvT T (i_ + 0)))) + ((-(lN 2)) * (rvT T (i_ + 1)))) + ((lN 1) * (rvT T (i_ + 2))))), (7, .int (nI 2)), (5, .long (lN 1)), (0, .ref h_), (1, .int (nI 2)), (2, .int (nI i_))]) hx hb dX7_rightDifference_42 rfl hl (by decide) rfl (fun ls hl => ?_)
                refine lv_lload hx hb dX7_rightDifference_43 (lv_at hl 2 rfl) ?_
                refine lv_iload_n hx hb dX7_rightDifference_45 rfl (lv_at hl 4 rfl) ?_
                refine lv_iload hx hb dX7_rightDifference_46 (lv_at hl 1 rfl) ?_
                refine ks_isubN hx hb dX7_rightDifference_48 (by omega) ?_
                refine ks_i2lN hx hb dX7_rightDifference_49 (by omega) ?_
                refine ks_lmulN hx hb dX7_rightDifference_50 ?_
                refine lv_iload hx hb dX7_rightDifference_51 (lv_at hl 1 rfl) ?_
                refine lv_iconst (v := nI 1) hx hb dX7_rightDifference_53 (by decide) ?_
                refine ks_iaddN hx hb dX7_rightDifference_54 ?_
                refine ks_i2lN hx hb dX7_rightDifference_55 (by omega) ?_
                refine ks_ldivN hx hb dX7_rightDifference_56 (by omega) (by omega) (by omega) ?_
                refine lv_lstore (lv' := [(5, .long (lN 0)), (3, .long ((((lN 0) + ((lN 1) * (rvT T (i_ + 0)))) + ((-(lN 2)) * (rvT T (i_ + 1)))) + ((lN 1) * (rvT T (i_ + 2))))), (7, .int (nI 2)), (0, .ref h_), (1, .int (nI 2)), (2, .int (nI i_))]) hx hb dX7_rightDifference_57 hl (by decide) rfl (fun ls hl => ?_)
                refine lv_iinc (v := nI 3) (lv' := [(7, .int (nI 3)), (5, .long (lN 0)), (3, .long ((((lN 0) + ((lN 1) * (rvT T (i_ + 0)))) + ((-(lN 2)) * (rvT T (i_ + 1)))) + ((lN 1) * (rvT T (i_ + 2))))), (0, .ref h_), (1, .int (nI 2)), (2, .int (nI i_))]) hx hb dX7_rightDifference_59 hl (k := 2) rfl (ks_inc 2 1) (by decide) rfl (fun ls hl => ?_)
                refine lv_goto (tgt := 8) hx hb dX7_rightDifference_62 (by decide) ?_
                refine lv_iload hx hb dX7_rightDifference_8 (lv_at hl 0 rfl) ?_
                refine lv_iload_n hx hb dX7_rightDifference_10 rfl (lv_at hl 4 rfl) ?_
                refine ks_icmp_gt (tgt := 65) hx hb dX7_rightDifference_11 (by decide) (by omega) (by omega) (fun c_11 => ?_) (fun c_11 => ?_)
                · refine lv_lload_n hx hb dX7_rightDifference_65 rfl (lv_at hl 2 rfl) ?_
                  exact cr_lret hx hb hr hlocks hK hP hD hS dX7_rightDifference_66 (by rw [hRR]; exact ctR_l (rd2 (rvT T) i_) (rfl))
                · omega
          · omega
  · refine lv_lconst (v := lN 0) hx hb dX7_rightDifference_0 rfl ?_
    refine lv_lstore_n (lv' := [(3, .long (lN 0)), (0, .ref h_), (1, .int (nI 3)), (2, .int (nI i_))]) hx hb dX7_rightDifference_1 rfl hl (by decide) rfl (fun ls hl => ?_)
    refine lv_lconst (v := lN 1) hx hb dX7_rightDifference_2 rfl ?_
    refine lv_lstore (lv' := [(5, .long (lN 1)), (3, .long (lN 0)), (0, .ref h_), (1, .int (nI 3)), (2, .int (nI i_))]) hx hb dX7_rightDifference_3 hl (by decide) rfl (fun ls hl => ?_)
    refine lv_iconst (v := nI 0) hx hb dX7_rightDifference_5 (by decide) ?_
    refine lv_istore (lv' := [(7, .int (nI 0)), (5, .long (lN 1)), (3, .long (lN 0)), (0, .ref h_), (1, .int (nI 3)), (2, .int (nI i_))]) hx hb dX7_rightDifference_6 hl (by decide) rfl (fun ls hl => ?_)
    refine lv_iload hx hb dX7_rightDifference_8 (lv_at hl 0 rfl) ?_
    refine lv_iload_n hx hb dX7_rightDifference_10 rfl (lv_at hl 4 rfl) ?_
    refine ks_icmp_gt (tgt := 65) hx hb dX7_rightDifference_11 (by decide) (by omega) (by omega) (fun c_11 => ?_) (fun c_11 => ?_)
    · omega
    · refine lv_lload_n hx hb dX7_rightDifference_14 rfl (lv_at hl 2 rfl) ?_
      refine lv_iload_n hx hb dX7_rightDifference_15 rfl (lv_at hl 4 rfl) ?_
      refine lv_iload hx hb dX7_rightDifference_16 (lv_at hl 0 rfl) ?_
      refine ks_isubN hx hb dX7_rightDifference_18 (by omega) ?_
      refine lv_iconst (v := nI 2) hx hb dX7_rightDifference_19 (by decide) ?_
      refine ks_iremN hx hb dX7_rightDifference_20 (by omega) (by omega) (by omega) ?_
      refine ks_if_ne (tgt := 29) hx hb dX7_rightDifference_21 (by decide) (by omega) (fun c_21 => ?_) (fun c_21 => ?_)
      · refine lv_lload hx hb dX7_rightDifference_29 (lv_at hl 1 rfl) ?_
        refine lv_lneg hx hb dX7_rightDifference_31 ?_
        refine lv_aload_n hx hb dX7_rightDifference_32 rfl (lv_at hl 3 rfl) ?_
        refine lv_iload_n hx hb dX7_rightDifference_33 rfl (lv_at hl 5 rfl) ?_
        refine lv_iload hx hb dX7_rightDifference_34 (lv_at hl 0 rfl) ?_
        refine ks_iaddN hx hb dX7_rightDifference_36 ?_
        refine cr_S (wr := []) (As := [.ref h_, .int (nI (i_ + 0))]) (rest := [.long (-(lN 1)), .long (lN 0)]) ⟨hx, hb, hml, hown, hts⟩ (c_X7_right G l h_ T (i_ + 0) (by omega) (by omega) (by omega)) (va_cwS 2 hts gX7_rightDifference_X7_right rfl rfl rfl (by decide +kernel) ⟨Nat.le_of_ble_eq_true rfl, Nat.le_of_ble_eq_true rfl⟩) dX7_rightDifference_37 hK hNX hP hD hS hA hl [0] [] rfl rfl rfl rfl (by decide) rfl (Nat.le_of_ble_eq_true rfl) ⟨Nat.le_of_ble_eq_true rfl, Nat.le_of_ble_eq_true rfl⟩ rfl (fun v' w' Hq lcq hR' hP hD hS => ?_)
        obtain ⟨rfl, rfl⟩ := hR'
        have hP : va_P G.1 vwCl [(h_, .inl (G.2.2.1, 103, .inr (.inl (mV T))))] _ := hP.sub [0] rfl
        have hD : va_D A [(h_, .inl (G.2.2.1, 103, .inr (.inl (mV T))))] := hD.sub [0] (by decide +kernel) rfl
        refine lv_lmul hx hb dX7_rightDifference_40 ?_
        refine lv_ladd hx hb dX7_rightDifference_41 ?_
        refine lv_lstore_n (lv' := [(3, .long ((lN 0) + ((-(lN 1)) * (rvT T (i_ + 0))))), (7, .int (nI 0)), (5, .long (lN 1)), (0, .ref h_), (1, .int (nI 3)), (2, .int (nI i_))]) hx hb dX7_rightDifference_42 rfl hl (by decide) rfl (fun ls hl => ?_)
        refine lv_lload hx hb dX7_rightDifference_43 (lv_at hl 2 rfl) ?_
        refine lv_iload_n hx hb dX7_rightDifference_45 rfl (lv_at hl 4 rfl) ?_
        refine lv_iload hx hb dX7_rightDifference_46 (lv_at hl 1 rfl) ?_
        refine ks_isubN hx hb dX7_rightDifference_48 (by omega) ?_
        refine ks_i2lN hx hb dX7_rightDifference_49 (by omega) ?_
        refine ks_lmulN hx hb dX7_rightDifference_50 ?_
        refine lv_iload hx hb dX7_rightDifference_51 (lv_at hl 1 rfl) ?_
        refine lv_iconst (v := nI 1) hx hb dX7_rightDifference_53 (by decide) ?_
        refine ks_iaddN hx hb dX7_rightDifference_54 ?_
        refine ks_i2lN hx hb dX7_rightDifference_55 (by omega) ?_
        refine ks_ldivN hx hb dX7_rightDifference_56 (by omega) (by omega) (by omega) ?_
        refine lv_lstore (lv' := [(5, .long (lN 3)), (3, .long ((lN 0) + ((-(lN 1)) * (rvT T (i_ + 0))))), (7, .int (nI 0)), (0, .ref h_), (1, .int (nI 3)), (2, .int (nI i_))]) hx hb dX7_rightDifference_57 hl (by decide) rfl (fun ls hl => ?_)
        refine lv_iinc (v := nI 1) (lv' := [(7, .int (nI 1)), (5, .long (lN 3)), (3, .long ((lN 0) + ((-(lN 1)) * (rvT T (i_ + 0))))), (0, .ref h_), (1, .int (nI 3)), (2, .int (nI i_))]) hx hb dX7_rightDifference_59 hl (k := 2) rfl (ks_inc 0 1) (by decide) rfl (fun ls hl => ?_)
        refine lv_goto (tgt := 8) hx hb dX7_rightDifference_62 (by decide) ?_
        refine lv_iload hx hb dX7_rightDifference_8 (lv_at hl 0 rfl) ?_
        refine lv_iload_n hx hb dX7_rightDifference_10 rfl (lv_at hl 4 rfl) ?_
        refine ks_icmp_gt (tgt := 65) hx hb dX7_rightDifference_11 (by decide) (by omega) (by omega) (fun c_11 => ?_) (fun c_11 => ?_)
        · omega
        · refine lv_lload_n hx hb dX7_rightDifference_14 rfl (lv_at hl 2 rfl) ?_
          refine lv_iload_n hx hb dX7_rightDifference_15 rfl (lv_at hl 4 rfl) ?_
          refine lv_iload hx hb dX7_rightDifference_16 (lv_at hl 0 rfl) ?_
          refine ks_isubN hx hb dX7_rightDifference_18 (by omega) ?_
          refine lv_iconst (v := nI 2) hx hb dX7_rightDifference_19 (by decide) ?_
          refine ks_iremN hx hb dX7_rightDifference_20 (by omega) (by omega) (by omega) ?_
          refine ks_if_ne (tgt := 29) hx hb dX7_rightDifference_21 (by decide) (by omega) (fun c_21 => ?_) (fun c_21 => ?_)
          · omega
          · refine lv_lload hx hb dX7_rightDifference_24 (lv_at hl 1 rfl) ?_
            refine lv_goto (tgt := 32) hx hb dX7_rightDifference_26 (by decide) ?_
            refine lv_aload_n hx hb dX7_rightDifference_32 rfl (lv_at hl 3 rfl) ?_
            refine lv_iload_n hx hb dX7_rightDifference_33 rfl (lv_at hl 5 rfl) ?_
            refine lv_iload hx hb dX7_rightDifference_34 (lv_at hl 0 rfl) ?_
            refine ks_iaddN hx hb dX7_rightDifference_36 ?_
            refine cr_S (wr := []) (As := [.ref h_, .int (nI (i_ + 1))]) (rest := [.long (lN 3), .long ((lN 0) + ((-(lN 1)) * (rvT T (i_ + 0))))]) ⟨hx, hb, hml, hown, hts⟩ (c_X7_right G l h_ T (i_ + 1) (by omega) (by omega) (by omega)) (va_cwS 2 hts gX7_rightDifference_X7_right rfl rfl rfl (by decide +kernel) ⟨Nat.le_of_ble_eq_true rfl, Nat.le_of_ble_eq_true rfl⟩) dX7_rightDifference_37 hK hNX hP hD hS hA hl [0] [] rfl rfl rfl rfl (by decide) rfl (Nat.le_of_ble_eq_true rfl) ⟨Nat.le_of_ble_eq_true rfl, Nat.le_of_ble_eq_true rfl⟩ rfl (fun v' w' Hq lcq hR' hP hD hS => ?_)
            obtain ⟨rfl, rfl⟩ := hR'
            have hP : va_P G.1 vwCl [(h_, .inl (G.2.2.1, 103, .inr (.inl (mV T))))] _ := hP.sub [0] rfl
            have hD : va_D A [(h_, .inl (G.2.2.1, 103, .inr (.inl (mV T))))] := hD.sub [0] (by decide +kernel) rfl
            refine lv_lmul hx hb dX7_rightDifference_40 ?_
            refine lv_ladd hx hb dX7_rightDifference_41 ?_
            refine lv_lstore_n (lv' := [(3, .long (((lN 0) + ((-(lN 1)) * (rvT T (i_ + 0)))) + ((lN 3) * (rvT T (i_ + 1))))), (7, .int (nI 1)), (5, .long (lN 3)), (0, .ref h_), (1, .int (nI 3)), (2, .int (nI i_))]) hx hb dX7_rightDifference_42 rfl hl (by decide) rfl (fun ls hl => ?_)
            refine lv_lload hx hb dX7_rightDifference_43 (lv_at hl 2 rfl) ?_
            refine lv_iload_n hx hb dX7_rightDifference_45 rfl (lv_at hl 4 rfl) ?_
            refine lv_iload hx hb dX7_rightDifference_46 (lv_at hl 1 rfl) ?_
            refine ks_isubN hx hb dX7_rightDifference_48 (by omega) ?_
            refine ks_i2lN hx hb dX7_rightDifference_49 (by omega) ?_
            refine ks_lmulN hx hb dX7_rightDifference_50 ?_
            refine lv_iload hx hb dX7_rightDifference_51 (lv_at hl 1 rfl) ?_
            refine lv_iconst (v := nI 1) hx hb dX7_rightDifference_53 (by decide) ?_
            refine ks_iaddN hx hb dX7_rightDifference_54 ?_
            refine ks_i2lN hx hb dX7_rightDifference_55 (by omega) ?_
            refine ks_ldivN hx hb dX7_rightDifference_56 (by omega) (by omega) (by omega) ?_
            refine lv_lstore (lv' := [(5, .long (lN 3)), (3, .long (((lN 0) + ((-(lN 1)) * (rvT T (i_ + 0)))) + ((lN 3) * (rvT T (i_ + 1))))), (7, .int (nI 1)), (0, .ref h_), (1, .int (nI 3)), (2, .int (nI i_))]) hx hb dX7_rightDifference_57 hl (by decide) rfl (fun ls hl => ?_)
            refine lv_iinc (v := nI 2) (lv' := [(7, .int (nI 2)), (5, .long (lN 3)), (3, .long (((lN 0) + ((-(lN 1)) * (rvT T (i_ + 0)))) + ((lN 3) * (rvT T (i_ + 1))))), (0, .ref h_), (1, .int (nI 3)), (2, .int (nI i_))]) hx hb dX7_rightDifference_59 hl (k := 2) rfl (ks_inc 1 1) (by decide) rfl (fun ls hl => ?_)
            refine lv_goto (tgt := 8) hx hb dX7_rightDifference_62 (by decide) ?_
            refine lv_iload hx hb dX7_rightDifference_8 (lv_at hl 0 rfl) ?_
            refine lv_iload_n hx hb dX7_rightDifference_10 rfl (lv_at hl 4 rfl) ?_
            refine ks_icmp_gt (tgt := 65) hx hb dX7_rightDifference_11 (by decide) (by omega) (by omega) (fun c_11 => ?_) (fun c_11 => ?_)
            · omega
            · refine lv_lload_n hx hb dX7_rightDifference_14 rfl (lv_at hl 2 rfl) ?_
              refine lv_iload_n hx hb dX7_rightDifference_15 rfl (lv_at hl 4 rfl) ?_
              refine lv_iload hx hb dX7_rightDifference_16 (lv_at hl 0 rfl) ?_
              refine ks_isubN hx hb dX7_rightDifference_18 (by omega) ?_
              refine lv_iconst (v := nI 2) hx hb dX7_rightDifference_19 (by decide) ?_
              refine ks_iremN hx hb dX7_rightDifference_20 (by omega) (by omega) (by omega) ?_
              refine ks_if_ne (tgt := 29) hx hb dX7_rightDifference_21 (by decide) (by omega) (fun c_21 => ?_) (fun c_21 => ?_)
              · refine lv_lload hx hb dX7_rightDifference_29 (lv_at hl 1 rfl) ?_
                refine lv_lneg hx hb dX7_rightDifference_31 ?_
                refine lv_aload_n hx hb dX7_rightDifference_32 rfl (lv_at hl 3 rfl) ?_
                refine lv_iload_n hx hb dX7_rightDifference_33 rfl (lv_at hl 5 rfl) ?_
                refine lv_iload hx hb dX7_rightDifference_34 (lv_at hl 0 rfl) ?_
                refine ks_iaddN hx hb dX7_rightDifference_36 ?_
                refine cr_S (wr := []) (As := [.ref h_, .int (nI (i_ + 2))]) (rest := [.long (-(lN 3)), .long (((lN 0) + ((-(lN 1)) * (rvT T (i_ + 0)))) + ((lN 3) * (rvT T (i_ + 1))))]) ⟨hx, hb, hml, hown, hts⟩ (c_X7_right G l h_ T (i_ + 2) (by omega) (by omega) (by omega)) (va_cwS 2 hts gX7_rightDifference_X7_right rfl rfl rfl (by decide +kernel) ⟨Nat.le_of_ble_eq_true rfl, Nat.le_of_ble_eq_true rfl⟩) dX7_rightDifference_37 hK hNX hP hD hS hA hl [0] [] rfl rfl rfl rfl (by decide) rfl (Nat.le_of_ble_eq_true rfl) ⟨Nat.le_of_ble_eq_true rfl, Nat.le_of_ble_eq_true rfl⟩ rfl (fun v' w' Hq lcq hR' hP hD hS => ?_)
                obtain ⟨rfl, rfl⟩ := hR'
                have hP : va_P G.1 vwCl [(h_, .inl (G.2.2.1, 103, .inr (.inl (mV T))))] _ := hP.sub [0] rfl
                have hD : va_D A [(h_, .inl (G.2.2.1, 103, .inr (.inl (mV T))))] := hD.sub [0] (by decide +kernel) rfl
                refine lv_lmul hx hb dX7_rightDifference_40 ?_
                refine lv_ladd hx hb dX7_rightDifference_41 ?_
                refine lv_lstore_n (lv' := [(3, .long ((((lN 0) + ((-(lN 1)) * (rvT T (i_ + 0)))) + ((lN 3) * (rvT T (i_ + 1)))) + ((-(lN 3)) * (rvT T (i_ + 2))))), (7, .int (nI 2)), (5, .long (lN 3)), (0, .ref h_), (1, .int (nI 3)), (2, .int (nI i_))]) hx hb dX7_rightDifference_42 rfl hl (by decide) rfl (fun ls hl => ?_)
                refine lv_lload hx hb dX7_rightDifference_43 (lv_at hl 2 rfl) ?_
                refine lv_iload_n hx hb dX7_rightDifference_45 rfl (lv_at hl 4 rfl) ?_
                refine lv_iload hx hb dX7_rightDifference_46 (lv_at hl 1 rfl) ?_
                refine ks_isubN hx hb dX7_rightDifference_48 (by omega) ?_
                refine ks_i2lN hx hb dX7_rightDifference_49 (by omega) ?_
                refine ks_lmulN hx hb dX7_rightDifference_50 ?_
                refine lv_iload hx hb dX7_rightDifference_51 (lv_at hl 1 rfl) ?_
                refine lv_iconst (v := nI 1) hx hb dX7_rightDifference_53 (by decide) ?_
                refine ks_iaddN hx hb dX7_rightDifference_54 ?_
                refine ks_i2lN hx hb dX7_rightDifference_55 (by omega) ?_
                refine ks_ldivN hx hb dX7_rightDifference_56 (by omega) (by omega) (by omega) ?_
                refine lv_lstore (lv' := [(5, .long (lN 1)), (3, .long ((((lN 0) + ((-(lN 1)) * (rvT T (i_ + 0)))) + ((lN 3) * (rvT T (i_ + 1)))) + ((-(lN 3)) * (rvT T (i_ + 2))))), (7, .int (nI 2)), (0, .ref h_), (1, .int (nI 3)), (2, .int (nI i_))]) hx hb dX7_rightDifference_57 hl (by decide) rfl (fun ls hl => ?_)
                refine lv_iinc (v := nI 3) (lv' := [(7, .int (nI 3)), (5, .long (lN 1)), (3, .long ((((lN 0) + ((-(lN 1)) * (rvT T (i_ + 0)))) + ((lN 3) * (rvT T (i_ + 1)))) + ((-(lN 3)) * (rvT T (i_ + 2))))), (0, .ref h_), (1, .int (nI 3)), (2, .int (nI i_))]) hx hb dX7_rightDifference_59 hl (k := 2) rfl (ks_inc 2 1) (by decide) rfl (fun ls hl => ?_)
                refine lv_goto (tgt := 8) hx hb dX7_rightDifference_62 (by decide) ?_
                refine lv_iload hx hb dX7_rightDifference_8 (lv_at hl 0 rfl) ?_
                refine lv_iload_n hx hb dX7_rightDifference_10 rfl (lv_at hl 4 rfl) ?_
                refine ks_icmp_gt (tgt := 65) hx hb dX7_rightDifference_11 (by decide) (by omega) (by omega) (fun c_11 => ?_) (fun c_11 => ?_)
                · omega
                · refine lv_lload_n hx hb dX7_rightDifference_14 rfl (lv_at hl 2 rfl) ?_
                  refine lv_iload_n hx hb dX7_rightDifference_15 rfl (lv_at hl 4 rfl) ?_
                  refine lv_iload hx hb dX7_rightDifference_16 (lv_at hl 0 rfl) ?_
                  refine ks_isubN hx hb dX7_rightDifference_18 (by omega) ?_
                  refine lv_iconst (v := nI 2) hx hb dX7_rightDifference_19 (by decide) ?_
                  refine ks_iremN hx hb dX7_rightDifference_20 (by omega) (by omega) (by omega) ?_
                  refine ks_if_ne (tgt := 29) hx hb dX7_rightDifference_21 (by decide) (by omega) (fun c_21 => ?_) (fun c_21 => ?_)
                  · omega
                  · refine lv_lload hx hb dX7_rightDifference_24 (lv_at hl 1 rfl) ?_
                    refine lv_goto (tgt := 32) hx hb dX7_rightDifference_26 (by decide) ?_
                    refine lv_aload_n hx hb dX7_rightDifference_32 rfl (lv_at hl 3 rfl) ?_
                    refine lv_iload_n hx hb dX7_rightDifference_33 rfl (lv_at hl 5 rfl) ?_
                    refine lv_iload hx hb dX7_rightDifference_34 (lv_at hl 0 rfl) ?_
                    refine ks_iaddN hx hb dX7_rightDifference_36 ?_
                    refine cr_S (wr := []) (As := [.ref h_, .int (nI (i_ + 3))]) (rest := [.long (lN 1), .long ((((lN 0) + ((-(lN 1)) * (rvT T (i_ + 0)))) + ((lN 3) * (rvT T (i_ + 1)))) + ((-(lN 3)) * (rvT T (i_ + 2))))]) ⟨hx, hb, hml, hown, hts⟩ (c_X7_right G l h_ T (i_ + 3) (by omega) (by omega) (by omega)) (va_cwS 2 hts gX7_rightDifference_X7_right rfl rfl rfl (by decide +kernel) ⟨Nat.le_of_ble_eq_true rfl, Nat.le_of_ble_eq_true rfl⟩) dX7_rightDifference_37 hK hNX hP hD hS hA hl [0] [] rfl rfl rfl rfl (by decide) rfl (Nat.le_of_ble_eq_true rfl) ⟨Nat.le_of_ble_eq_true rfl, Nat.le_of_ble_eq_true rfl⟩ rfl (fun v' w' Hq lcq hR' hP hD hS => ?_)
                    obtain ⟨rfl, rfl⟩ := hR'
                    have hP : va_P G.1 vwCl [(h_, .inl (G.2.2.1, 103, .inr (.inl (mV T))))] _ := hP.sub [0] rfl
                    have hD : va_D A [(h_, .inl (G.2.2.1, 103, .inr (.inl (mV T))))] := hD.sub [0] (by decide +kernel) rfl
                    refine lv_lmul hx hb dX7_rightDifference_40 ?_
                    refine lv_ladd hx hb dX7_rightDifference_41 ?_
                    refine lv_lstore_n (lv' := [(3, .long (((((lN 0) + ((-(lN 1)) * (rvT T (i_ + 0)))) + ((lN 3) * (rvT T (i_ + 1)))) + ((-(lN 3)) * (rvT T (i_ + 2)))) + ((lN 1) * (rvT T (i_ + 3))))), (7, .int (nI 3)), (5, .long (lN 1)), (0, .ref h_), (1, .int (nI 3)), (2, .int (nI i_))]) hx hb dX7_rightDifference_42 rfl hl (by decide) rfl (fun ls hl => ?_)
                    refine lv_lload hx hb dX7_rightDifference_43 (lv_at hl 2 rfl) ?_
                    refine lv_iload_n hx hb dX7_rightDifference_45 rfl (lv_at hl 4 rfl) ?_
                    refine lv_iload hx hb dX7_rightDifference_46 (lv_at hl 1 rfl) ?_
                    refine ks_isubN hx hb dX7_rightDifference_48 (by omega) ?_
                    refine ks_i2lN hx hb dX7_rightDifference_49 (by omega) ?_
                    refine ks_lmulN hx hb dX7_rightDifference_50 ?_
                    refine lv_iload hx hb dX7_rightDifference_51 (lv_at hl 1 rfl) ?_
                    refine lv_iconst (v := nI 1) hx hb dX7_rightDifference_53 (by decide) ?_
                    refine ks_iaddN hx hb dX7_rightDifference_54 ?_
                    refine ks_i2lN hx hb dX7_rightDifference_55 (by omega) ?_
                    refine ks_ldivN hx hb dX7_rightDifference_56 (by omega) (by omega) (by omega) ?_
                    refine lv_lstore (lv' := [(5, .long (lN 0)), (3, .long (((((lN 0) + ((-(lN 1)) * (rvT T (i_ + 0)))) + ((lN 3) * (rvT T (i_ + 1)))) + ((-(lN 3)) * (rvT T (i_ + 2)))) + ((lN 1) * (rvT T (i_ + 3))))), (7, .int (nI 3)), (0, .ref h_), (1, .int (nI 3)), (2, .int (nI i_))]) hx hb dX7_rightDifference_57 hl (by decide) rfl (fun ls hl => ?_)
                    refine lv_iinc (v := nI 4) (lv' := [(7, .int (nI 4)), (5, .long (lN 0)), (3, .long (((((lN 0) + ((-(lN 1)) * (rvT T (i_ + 0)))) + ((lN 3) * (rvT T (i_ + 1)))) + ((-(lN 3)) * (rvT T (i_ + 2)))) + ((lN 1) * (rvT T (i_ + 3))))), (0, .ref h_), (1, .int (nI 3)), (2, .int (nI i_))]) hx hb dX7_rightDifference_59 hl (k := 2) rfl (ks_inc 3 1) (by decide) rfl (fun ls hl => ?_)
                    refine lv_goto (tgt := 8) hx hb dX7_rightDifference_62 (by decide) ?_
                    refine lv_iload hx hb dX7_rightDifference_8 (lv_at hl 0 rfl) ?_
                    refine lv_iload_n hx hb dX7_rightDifference_10 rfl (lv_at hl 4 rfl) ?_
                    refine ks_icmp_gt (tgt := 65) hx hb dX7_rightDifference_11 (by decide) (by omega) (by omega) (fun c_11 => ?_) (fun c_11 => ?_)
                    · refine lv_lload_n hx hb dX7_rightDifference_65 rfl (lv_at hl 2 rfl) ?_
                      exact cr_lret hx hb hr hlocks hK hP hD hS dX7_rightDifference_66 (by rw [hRR]; exact ctR_l (rd3 (rvT T) i_) (rfl))
                    · omega
              · omega
      · omega
  · refine lv_lconst (v := lN 0) hx hb dX7_rightDifference_0 rfl ?_
    refine lv_lstore_n (lv' := [(3, .long (lN 0)), (0, .ref h_), (1, .int (nI 4)), (2, .int (nI i_))]) hx hb dX7_rightDifference_1 rfl hl (by decide) rfl (fun ls hl => ?_)
    refine lv_lconst (v := lN 1) hx hb dX7_rightDifference_2 rfl ?_
    refine lv_lstore (lv' := [(5, .long (lN 1)), (3, .long (lN 0)), (0, .ref h_), (1, .int (nI 4)), (2, .int (nI i_))]) hx hb dX7_rightDifference_3 hl (by decide) rfl (fun ls hl => ?_)
    refine lv_iconst (v := nI 0) hx hb dX7_rightDifference_5 (by decide) ?_
    refine lv_istore (lv' := [(7, .int (nI 0)), (5, .long (lN 1)), (3, .long (lN 0)), (0, .ref h_), (1, .int (nI 4)), (2, .int (nI i_))]) hx hb dX7_rightDifference_6 hl (by decide) rfl (fun ls hl => ?_)
    refine lv_iload hx hb dX7_rightDifference_8 (lv_at hl 0 rfl) ?_
    refine lv_iload_n hx hb dX7_rightDifference_10 rfl (lv_at hl 4 rfl) ?_
    refine ks_icmp_gt (tgt := 65) hx hb dX7_rightDifference_11 (by decide) (by omega) (by omega) (fun c_11 => ?_) (fun c_11 => ?_)
    · omega
    · refine lv_lload_n hx hb dX7_rightDifference_14 rfl (lv_at hl 2 rfl) ?_
      refine lv_iload_n hx hb dX7_rightDifference_15 rfl (lv_at hl 4 rfl) ?_
      refine lv_iload hx hb dX7_rightDifference_16 (lv_at hl 0 rfl) ?_
      refine ks_isubN hx hb dX7_rightDifference_18 (by omega) ?_
      refine lv_iconst (v := nI 2) hx hb dX7_rightDifference_19 (by decide) ?_
      refine ks_iremN hx hb dX7_rightDifference_20 (by omega) (by omega) (by omega) ?_
      refine ks_if_ne (tgt := 29) hx hb dX7_rightDifference_21 (by decide) (by omega) (fun c_21 => ?_) (fun c_21 => ?_)
      · omega
      · refine lv_lload hx hb dX7_rightDifference_24 (lv_at hl 1 rfl) ?_
        refine lv_goto (tgt := 32) hx hb dX7_rightDifference_26 (by decide) ?_
        refine lv_aload_n hx hb dX7_rightDifference_32 rfl (lv_at hl 3 rfl) ?_
        refine lv_iload_n hx hb dX7_rightDifference_33 rfl (lv_at hl 5 rfl) ?_
        refine lv_iload hx hb dX7_rightDifference_34 (lv_at hl 0 rfl) ?_
        refine ks_iaddN hx hb dX7_rightDifference_36 ?_
        refine cr_S (wr := []) (As := [.ref h_, .int (nI (i_ + 0))]) (rest := [.long (lN 1), .long (lN 0)]) ⟨hx, hb, hml, hown, hts⟩ (c_X7_right G l h_ T (i_ + 0) (by omega) (by omega) (by omega)) (va_cwS 2 hts gX7_rightDifference_X7_right rfl rfl rfl (by decide +kernel) ⟨Nat.le_of_ble_eq_true rfl, Nat.le_of_ble_eq_true rfl⟩) dX7_rightDifference_37 hK hNX hP hD hS hA hl [0] [] rfl rfl rfl rfl (by decide) rfl (Nat.le_of_ble_eq_true rfl) ⟨Nat.le_of_ble_eq_true rfl, Nat.le_of_ble_eq_true rfl⟩ rfl (fun v' w' Hq lcq hR' hP hD hS => ?_)
        obtain ⟨rfl, rfl⟩ := hR'
        have hP : va_P G.1 vwCl [(h_, .inl (G.2.2.1, 103, .inr (.inl (mV T))))] _ := hP.sub [0] rfl
        have hD : va_D A [(h_, .inl (G.2.2.1, 103, .inr (.inl (mV T))))] := hD.sub [0] (by decide +kernel) rfl
        refine lv_lmul hx hb dX7_rightDifference_40 ?_
        refine lv_ladd hx hb dX7_rightDifference_41 ?_
        refine lv_lstore_n (lv' := [(3, .long ((lN 0) + ((lN 1) * (rvT T (i_ + 0))))), (7, .int (nI 0)), (5, .long (lN 1)), (0, .ref h_), (1, .int (nI 4)), (2, .int (nI i_))]) hx hb dX7_rightDifference_42 rfl hl (by decide) rfl (fun ls hl => ?_)
        refine lv_lload hx hb dX7_rightDifference_43 (lv_at hl 2 rfl) ?_
        refine lv_iload_n hx hb dX7_rightDifference_45 rfl (lv_at hl 4 rfl) ?_
        refine lv_iload hx hb dX7_rightDifference_46 (lv_at hl 1 rfl) ?_
        refine ks_isubN hx hb dX7_rightDifference_48 (by omega) ?_
        refine ks_i2lN hx hb dX7_rightDifference_49 (by omega) ?_
        refine ks_lmulN hx hb dX7_rightDifference_50 ?_
        refine lv_iload hx hb dX7_rightDifference_51 (lv_at hl 1 rfl) ?_
        refine lv_iconst (v := nI 1) hx hb dX7_rightDifference_53 (by decide) ?_
        refine ks_iaddN hx hb dX7_rightDifference_54 ?_
        refine ks_i2lN hx hb dX7_rightDifference_55 (by omega) ?_
        refine ks_ldivN hx hb dX7_rightDifference_56 (by omega) (by omega) (by omega) ?_
        refine lv_lstore (lv' := [(5, .long (lN 4)), (3, .long ((lN 0) + ((lN 1) * (rvT T (i_ + 0))))), (7, .int (nI 0)), (0, .ref h_), (1, .int (nI 4)), (2, .int (nI i_))]) hx hb dX7_rightDifference_57 hl (by decide) rfl (fun ls hl => ?_)
        refine lv_iinc (v := nI 1) (lv' := [(7, .int (nI 1)), (5, .long (lN 4)), (3, .long ((lN 0) + ((lN 1) * (rvT T (i_ + 0))))), (0, .ref h_), (1, .int (nI 4)), (2, .int (nI i_))]) hx hb dX7_rightDifference_59 hl (k := 2) rfl (ks_inc 0 1) (by decide) rfl (fun ls hl => ?_)
        refine lv_goto (tgt := 8) hx hb dX7_rightDifference_62 (by decide) ?_
        refine lv_iload hx hb dX7_rightDifference_8 (lv_at hl 0 rfl) ?_
        refine lv_iload_n hx hb dX7_rightDifference_10 rfl (lv_at hl 4 rfl) ?_
        refine ks_icmp_gt (tgt := 65) hx hb dX7_rightDifference_11 (by decide) (by omega) (by omega) (fun c_11 => ?_) (fun c_11 => ?_)
        · omega
        · refine lv_lload_n hx hb dX7_rightDifference_14 rfl (lv_at hl 2 rfl) ?_
          refine lv_iload_n hx hb dX7_rightDifference_15 rfl (lv_at hl 4 rfl) ?_
          refine lv_iload hx hb dX7_rightDifference_16 (lv_at hl 0 rfl) ?_
          refine ks_isubN hx hb dX7_rightDifference_18 (by omega) ?_
          refine lv_iconst (v := nI 2) hx hb dX7_rightDifference_19 (by decide) ?_
          refine ks_iremN hx hb dX7_rightDifference_20 (by omega) (by omega) (by omega) ?_
          refine ks_if_ne (tgt := 29) hx hb dX7_rightDifference_21 (by decide) (by omega) (fun c_21 => ?_) (fun c_21 => ?_)
          · refine lv_lload hx hb dX7_rightDifference_29 (lv_at hl 1 rfl) ?_
            refine lv_lneg hx hb dX7_rightDifference_31 ?_
            refine lv_aload_n hx hb dX7_rightDifference_32 rfl (lv_at hl 3 rfl) ?_
            refine lv_iload_n hx hb dX7_rightDifference_33 rfl (lv_at hl 5 rfl) ?_
            refine lv_iload hx hb dX7_rightDifference_34 (lv_at hl 0 rfl) ?_
            refine ks_iaddN hx hb dX7_rightDifference_36 ?_
            refine cr_S (wr := []) (As := [.ref h_, .int (nI (i_ + 1))]) (rest := [.long (-(lN 4)), .long ((lN 0) + ((lN 1) * (rvT T (i_ + 0))))]) ⟨hx, hb, hml, hown, hts⟩ (c_X7_right G l h_ T (i_ + 1) (by omega) (by omega) (by omega)) (va_cwS 2 hts gX7_rightDifference_X7_right rfl rfl rfl (by decide +kernel) ⟨Nat.le_of_ble_eq_true rfl, Nat.le_of_ble_eq_true rfl⟩) dX7_rightDifference_37 hK hNX hP hD hS hA hl [0] [] rfl rfl rfl rfl (by decide) rfl (Nat.le_of_ble_eq_true rfl) ⟨Nat.le_of_ble_eq_true rfl, Nat.le_of_ble_eq_true rfl⟩ rfl (fun v' w' Hq lcq hR' hP hD hS => ?_)
            obtain ⟨rfl, rfl⟩ := hR'
            have hP : va_P G.1 vwCl [(h_, .inl (G.2.2.1, 103, .inr (.inl (mV T))))] _ := hP.sub [0] rfl
            have hD : va_D A [(h_, .inl (G.2.2.1, 103, .inr (.inl (mV T))))] := hD.sub [0] (by decide +kernel) rfl
            refine lv_lmul hx hb dX7_rightDifference_40 ?_
            refine lv_ladd hx hb dX7_rightDifference_41 ?_
            refine lv_lstore_n (lv' := [(3, .long (((lN 0) + ((lN 1) * (rvT T (i_ + 0)))) + ((-(lN 4)) * (rvT T (i_ + 1))))), (7, .int (nI 1)), (5, .long (lN 4)), (0, .ref h_), (1, .int (nI 4)), (2, .int (nI i_))]) hx hb dX7_rightDifference_42 rfl hl (by decide) rfl (fun ls hl => ?_)
            refine lv_lload hx hb dX7_rightDifference_43 (lv_at hl 2 rfl) ?_
            refine lv_iload_n hx hb dX7_rightDifference_45 rfl (lv_at hl 4 rfl) ?_
            refine lv_iload hx hb dX7_rightDifference_46 (lv_at hl 1 rfl) ?_
            refine ks_isubN hx hb dX7_rightDifference_48 (by omega) ?_
            refine ks_i2lN hx hb dX7_rightDifference_49 (by omega) ?_
            refine ks_lmulN hx hb dX7_rightDifference_50 ?_
            refine lv_iload hx hb dX7_rightDifference_51 (lv_at hl 1 rfl) ?_
            refine lv_iconst (v := nI 1) hx hb dX7_rightDifference_53 (by decide) ?_
            refine ks_iaddN hx hb dX7_rightDifference_54 ?_
            refine ks_i2lN hx hb dX7_rightDifference_55 (by omega) ?_
            refine ks_ldivN hx hb dX7_rightDifference_56 (by omega) (by omega) (by omega) ?_
            refine lv_lstore (lv' := [(5, .long (lN 6)), (3, .long (((lN 0) + ((lN 1) * (rvT T (i_ + 0)))) + ((-(lN 4)) * (rvT T (i_ + 1))))), (7, .int (nI 1)), (0, .ref h_), (1, .int (nI 4)), (2, .int (nI i_))]) hx hb dX7_rightDifference_57 hl (by decide) rfl (fun ls hl => ?_)
            refine lv_iinc (v := nI 2) (lv' := [(7, .int (nI 2)), (5, .long (lN 6)), (3, .long (((lN 0) + ((lN 1) * (rvT T (i_ + 0)))) + ((-(lN 4)) * (rvT T (i_ + 1))))), (0, .ref h_), (1, .int (nI 4)), (2, .int (nI i_))]) hx hb dX7_rightDifference_59 hl (k := 2) rfl (ks_inc 1 1) (by decide) rfl (fun ls hl => ?_)
            refine lv_goto (tgt := 8) hx hb dX7_rightDifference_62 (by decide) ?_
            refine lv_iload hx hb dX7_rightDifference_8 (lv_at hl 0 rfl) ?_
            refine lv_iload_n hx hb dX7_rightDifference_10 rfl (lv_at hl 4 rfl) ?_
            refine ks_icmp_gt (tgt := 65) hx hb dX7_rightDifference_11 (by decide) (by omega) (by omega) (fun c_11 => ?_) (fun c_11 => ?_)
            · omega
            · refine lv_lload_n hx hb dX7_rightDifference_14 rfl (lv_at hl 2 rfl) ?_
              refine lv_iload_n hx hb dX7_rightDifference_15 rfl (lv_at hl 4 rfl) ?_
              refine lv_iload hx hb dX7_rightDifference_16 (lv_at hl 0 rfl) ?_
              refine ks_isubN hx hb dX7_rightDifference_18 (by omega) ?_
              refine lv_iconst (v := nI 2) hx hb dX7_rightDifference_19 (by decide) ?_
              refine ks_iremN hx hb dX7_rightDifference_20 (by omega) (by omega) (by omega) ?_
              refine ks_if_ne (tgt := 29) hx hb dX7_rightDifference_21 (by decide) (by omega) (fun c_21 => ?_) (fun c_21 => ?_)
              · omega
              · refine lv_lload hx hb dX7_rightDifference_24 (lv_at hl 1 rfl) ?_
                refine lv_goto (tgt := 32) hx hb dX7_rightDifference_26 (by decide) ?_
                refine lv_aload_n hx hb dX7_rightDifference_32 rfl (lv_at hl 3 rfl) ?_
                refine lv_iload_n hx hb dX7_rightDifference_33 rfl (lv_at hl 5 rfl) ?_
                refine lv_iload hx hb dX7_rightDifference_34 (lv_at hl 0 rfl) ?_
                refine ks_iaddN hx hb dX7_rightDifference_36 ?_
                refine cr_S (wr := []) (As := [.ref h_, .int (nI (i_ + 2))]) (rest := [.long (lN 6), .long (((lN 0) + ((lN 1) * (rvT T (i_ + 0)))) + ((-(lN 4)) * (rvT T (i_ + 1))))]) ⟨hx, hb, hml, hown, hts⟩ (c_X7_right G l h_ T (i_ + 2) (by omega) (by omega) (by omega)) (va_cwS 2 hts gX7_rightDifference_X7_right rfl rfl rfl (by decide +kernel) ⟨Nat.le_of_ble_eq_true rfl, Nat.le_of_ble_eq_true rfl⟩) dX7_rightDifference_37 hK hNX hP hD hS hA hl [0] [] rfl rfl rfl rfl (by decide) rfl (Nat.le_of_ble_eq_true rfl) ⟨Nat.le_of_ble_eq_true rfl, Nat.le_of_ble_eq_true rfl⟩ rfl (fun v' w' Hq lcq hR' hP hD hS => ?_)
                obtain ⟨rfl, rfl⟩ := hR'
                have hP : va_P G.1 vwCl [(h_, .inl (G.2.2.1, 103, .inr (.inl (mV T))))] _ := hP.sub [0] rfl
                have hD : va_D A [(h_, .inl (G.2.2.1, 103, .inr (.inl (mV T))))] := hD.sub [0] (by decide +kernel) rfl
                refine lv_lmul hx hb dX7_rightDifference_40 ?_
                refine lv_ladd hx hb dX7_rightDifference_41 ?_
                refine lv_lstore_n (lv' := [(3, .long ((((lN 0) + ((lN 1) * (rvT T (i_ + 0)))) + ((-(lN 4)) * (rvT T (i_ + 1)))) + ((lN 6) * (rvT T (i_ + 2))))), (7, .int (nI 2)), (5, .long (lN 6)), (0, .ref h_), (1, .int (nI 4)), (2, .int (nI i_))]) hx hb dX7_rightDifference_42 rfl hl (by decide) rfl (fun ls hl => ?_)
                refine lv_lload hx hb dX7_rightDifference_43 (lv_at hl 2 rfl) ?_
                refine lv_iload_n hx hb dX7_rightDifference_45 rfl (lv_at hl 4 rfl) ?_
                refine lv_iload hx hb dX7_rightDifference_46 (lv_at hl 1 rfl) ?_
                refine ks_isubN hx hb dX7_rightDifference_48 (by omega) ?_
                refine ks_i2lN hx hb dX7_rightDifference_49 (by omega) ?_
                refine ks_lmulN hx hb dX7_rightDifference_50 ?_
                refine lv_iload hx hb dX7_rightDifference_51 (lv_at hl 1 rfl) ?_
                refine lv_iconst (v := nI 1) hx hb dX7_rightDifference_53 (by decide) ?_
                refine ks_iaddN hx hb dX7_rightDifference_54 ?_
                refine ks_i2lN hx hb dX7_rightDifference_55 (by omega) ?_
                refine ks_ldivN hx hb dX7_rightDifference_56 (by omega) (by omega) (by omega) ?_
                refine lv_lstore (lv' := [(5, .long (lN 4)), (3, .long ((((lN 0) + ((lN 1) * (rvT T (i_ + 0)))) + ((-(lN 4)) * (rvT T (i_ + 1)))) + ((lN 6) * (rvT T (i_ + 2))))), (7, .int (nI 2)), (0, .ref h_), (1, .int (nI 4)), (2, .int (nI i_))]) hx hb dX7_rightDifference_57 hl (by decide) rfl (fun ls hl => ?_)
                refine lv_iinc (v := nI 3) (lv' := [(7, .int (nI 3)), (5, .long (lN 4)), (3, .long ((((lN 0) + ((lN 1) * (rvT T (i_ + 0)))) + ((-(lN 4)) * (rvT T (i_ + 1)))) + ((lN 6) * (rvT T (i_ + 2))))), (0, .ref h_), (1, .int (nI 4)), (2, .int (nI i_))]) hx hb dX7_rightDifference_59 hl (k := 2) rfl (ks_inc 2 1) (by decide) rfl (fun ls hl => ?_)
                refine lv_goto (tgt := 8) hx hb dX7_rightDifference_62 (by decide) ?_
                refine lv_iload hx hb dX7_rightDifference_8 (lv_at hl 0 rfl) ?_
                refine lv_iload_n hx hb dX7_rightDifference_10 rfl (lv_at hl 4 rfl) ?_
                refine ks_icmp_gt (tgt := 65) hx hb dX7_rightDifference_11 (by decide) (by omega) (by omega) (fun c_11 => ?_) (fun c_11 => ?_)
                · omega
                · refine lv_lload_n hx hb dX7_rightDifference_14 rfl (lv_at hl 2 rfl) ?_
                  refine lv_iload_n hx hb dX7_rightDifference_15 rfl (lv_at hl 4 rfl) ?_
                  refine lv_iload hx hb dX7_rightDifference_16 (lv_at hl 0 rfl) ?_
                  refine ks_isubN hx hb dX7_rightDifference_18 (by omega) ?_
                  refine lv_iconst (v := nI 2) hx hb dX7_rightDifference_19 (by decide) ?_
                  refine ks_iremN hx hb dX7_rightDifference_20 (by omega) (by omega) (by omega) ?_
                  refine ks_if_ne (tgt := 29) hx hb dX7_rightDifference_21 (by decide) (by omega) (fun c_21 => ?_) (fun c_21 => ?_)
                  · refine lv_lload hx hb dX7_rightDifference_29 (lv_at hl 1 rfl) ?_
                    refine lv_lneg hx hb dX7_rightDifference_31 ?_
                    refine lv_aload_n hx hb dX7_rightDifference_32 rfl (lv_at hl 3 rfl) ?_
                    refine lv_iload_n hx hb dX7_rightDifference_33 rfl (lv_at hl 5 rfl) ?_
                    refine lv_iload hx hb dX7_rightDifference_34 (lv_at hl 0 rfl) ?_
                    refine ks_iaddN hx hb dX7_rightDifference_36 ?_
                    refine cr_S (wr := []) (As := [.ref h_, .int (nI (i_ + 3))]) (rest := [.long (-(lN 4)), .long ((((lN 0) + ((lN 1) * (rvT T (i_ + 0)))) + ((-(lN 4)) * (rvT T (i_ + 1)))) + ((lN 6) * (rvT T (i_ + 2))))]) ⟨hx, hb, hml, hown, hts⟩ (c_X7_right G l h_ T (i_ + 3) (by omega) (by omega) (by omega)) (va_cwS 2 hts gX7_rightDifference_X7_right rfl rfl rfl (by decide +kernel) ⟨Nat.le_of_ble_eq_true rfl, Nat.le_of_ble_eq_true rfl⟩) dX7_rightDifference_37 hK hNX hP hD hS hA hl [0] [] rfl rfl rfl rfl (by decide) rfl (Nat.le_of_ble_eq_true rfl) ⟨Nat.le_of_ble_eq_true rfl, Nat.le_of_ble_eq_true rfl⟩ rfl (fun v' w' Hq lcq hR' hP hD hS => ?_)
                    obtain ⟨rfl, rfl⟩ := hR'
                    have hP : va_P G.1 vwCl [(h_, .inl (G.2.2.1, 103, .inr (.inl (mV T))))] _ := hP.sub [0] rfl
                    have hD : va_D A [(h_, .inl (G.2.2.1, 103, .inr (.inl (mV T))))] := hD.sub [0] (by decide +kernel) rfl
                    refine lv_lmul hx hb dX7_rightDifference_40 ?_
                    refine lv_ladd hx hb dX7_rightDifference_41 ?_
                    refine lv_lstore_n (lv' := [(3, .long (((((lN 0) + ((lN 1) * (rvT T (i_ + 0)))) + ((-(lN 4)) * (rvT T (i_ + 1)))) + ((lN 6) * (rvT T (i_ + 2)))) + ((-(lN 4)) * (rvT T (i_ + 3))))), (7, .int (nI 3)), (5, .long (lN 4)), (0, .ref h_), (1, .int (nI 4)), (2, .int (nI i_))]) hx hb dX7_rightDifference_42 rfl hl (by decide) rfl (fun ls hl => ?_)
                    refine lv_lload hx hb dX7_rightDifference_43 (lv_at hl 2 rfl) ?_
                    refine lv_iload_n hx hb dX7_rightDifference_45 rfl (lv_at hl 4 rfl) ?_
                    refine lv_iload hx hb dX7_rightDifference_46 (lv_at hl 1 rfl) ?_
                    refine ks_isubN hx hb dX7_rightDifference_48 (by omega) ?_
                    refine ks_i2lN hx hb dX7_rightDifference_49 (by omega) ?_
                    refine ks_lmulN hx hb dX7_rightDifference_50 ?_
                    refine lv_iload hx hb dX7_rightDifference_51 (lv_at hl 1 rfl) ?_
                    refine lv_iconst (v := nI 1) hx hb dX7_rightDifference_53 (by decide) ?_
                    refine ks_iaddN hx hb dX7_rightDifference_54 ?_
                    refine ks_i2lN hx hb dX7_rightDifference_55 (by omega) ?_
                    refine ks_ldivN hx hb dX7_rightDifference_56 (by omega) (by omega) (by omega) ?_
                    refine lv_lstore (lv' := [(5, .long (lN 1)), (3, .long (((((lN 0) + ((lN 1) * (rvT T (i_ + 0)))) + ((-(lN 4)) * (rvT T (i_ + 1)))) + ((lN 6) * (rvT T (i_ + 2)))) + ((-(lN 4)) * (rvT T (i_ + 3))))), (7, .int (nI 3)), (0, .ref h_), (1, .int (nI 4)), (2, .int (nI i_))]) hx hb dX7_rightDifference_57 hl (by decide) rfl (fun ls hl => ?_)
                    refine lv_iinc (v := nI 4) (lv' := [(7, .int (nI 4)), (5, .long (lN 1)), (3, .long (((((lN 0) + ((lN 1) * (rvT T (i_ + 0)))) + ((-(lN 4)) * (rvT T (i_ + 1)))) + ((lN 6) * (rvT T (i_ + 2)))) + ((-(lN 4)) * (rvT T (i_ + 3))))), (0, .ref h_), (1, .int (nI 4)), (2, .int (nI i_))]) hx hb dX7_rightDifference_59 hl (k := 2) rfl (ks_inc 3 1) (by decide) rfl (fun ls hl => ?_)
                    refine lv_goto (tgt := 8) hx hb dX7_rightDifference_62 (by decide) ?_
                    refine lv_iload hx hb dX7_rightDifference_8 (lv_at hl 0 rfl) ?_
                    refine lv_iload_n hx hb dX7_rightDifference_10 rfl (lv_at hl 4 rfl) ?_
                    refine ks_icmp_gt (tgt := 65) hx hb dX7_rightDifference_11 (by decide) (by omega) (by omega) (fun c_11 => ?_) (fun c_11 => ?_)
                    · omega
                    · refine lv_lload_n hx hb dX7_rightDifference_14 rfl (lv_at hl 2 rfl) ?_
                      refine lv_iload_n hx hb dX7_rightDifference_15 rfl (lv_at hl 4 rfl) ?_
                      refine lv_iload hx hb dX7_rightDifference_16 (lv_at hl 0 rfl) ?_
                      refine ks_isubN hx hb dX7_rightDifference_18 (by omega) ?_
                      refine lv_iconst (v := nI 2) hx hb dX7_rightDifference_19 (by decide) ?_
                      refine ks_iremN hx hb dX7_rightDifference_20 (by omega) (by omega) (by omega) ?_
                      refine ks_if_ne (tgt := 29) hx hb dX7_rightDifference_21 (by decide) (by omega) (fun c_21 => ?_) (fun c_21 => ?_)
                      · omega
                      · refine lv_lload hx hb dX7_rightDifference_24 (lv_at hl 1 rfl) ?_
                        refine lv_goto (tgt := 32) hx hb dX7_rightDifference_26 (by decide) ?_
                        refine lv_aload_n hx hb dX7_rightDifference_32 rfl (lv_at hl 3 rfl) ?_
                        refine lv_iload_n hx hb dX7_rightDifference_33 rfl (lv_at hl 5 rfl) ?_
                        refine lv_iload hx hb dX7_rightDifference_34 (lv_at hl 0 rfl) ?_
                        refine ks_iaddN hx hb dX7_rightDifference_36 ?_
                        refine cr_S (wr := []) (As := [.ref h_, .int (nI (i_ + 4))]) (rest := [.long (lN 1), .long (((((lN 0) + ((lN 1) * (rvT T (i_ + 0)))) + ((-(lN 4)) * (rvT T (i_ + 1)))) + ((lN 6) * (rvT T (i_ + 2)))) + ((-(lN 4)) * (rvT T (i_ + 3))))]) ⟨hx, hb, hml, hown, hts⟩ (c_X7_right G l h_ T (i_ + 4) (by omega) (by omega) (by omega)) (va_cwS 2 hts gX7_rightDifference_X7_right rfl rfl rfl (by decide +kernel) ⟨Nat.le_of_ble_eq_true rfl, Nat.le_of_ble_eq_true rfl⟩) dX7_rightDifference_37 hK hNX hP hD hS hA hl [0] [] rfl rfl rfl rfl (by decide) rfl (Nat.le_of_ble_eq_true rfl) ⟨Nat.le_of_ble_eq_true rfl, Nat.le_of_ble_eq_true rfl⟩ rfl (fun v' w' Hq lcq hR' hP hD hS => ?_)
                        obtain ⟨rfl, rfl⟩ := hR'
                        have hP : va_P G.1 vwCl [(h_, .inl (G.2.2.1, 103, .inr (.inl (mV T))))] _ := hP.sub [0] rfl
                        have hD : va_D A [(h_, .inl (G.2.2.1, 103, .inr (.inl (mV T))))] := hD.sub [0] (by decide +kernel) rfl
                        refine lv_lmul hx hb dX7_rightDifference_40 ?_
                        refine lv_ladd hx hb dX7_rightDifference_41 ?_
                        refine lv_lstore_n (lv' := [(3, .long ((((((lN 0) + ((lN 1) * (rvT T (i_ + 0)))) + ((-(lN 4)) * (rvT T (i_ + 1)))) + ((lN 6) * (rvT T (i_ + 2)))) + ((-(lN 4)) * (rvT T (i_ + 3)))) + ((lN 1) * (rvT T (i_ + 4))))), (7, .int (nI 4)), (5, .long (lN 1)), (0, .ref h_), (1, .int (nI 4)), (2, .int (nI i_))]) hx hb dX7_rightDifference_42 rfl hl (by decide) rfl (fun ls hl => ?_)
                        refine lv_lload hx hb dX7_rightDifference_43 (lv_at hl 2 rfl) ?_
                        refine lv_iload_n hx hb dX7_rightDifference_45 rfl (lv_at hl 4 rfl) ?_
                        refine lv_iload hx hb dX7_rightDifference_46 (lv_at hl 1 rfl) ?_
                        refine ks_isubN hx hb dX7_rightDifference_48 (by omega) ?_
                        refine ks_i2lN hx hb dX7_rightDifference_49 (by omega) ?_
                        refine ks_lmulN hx hb dX7_rightDifference_50 ?_
                        refine lv_iload hx hb dX7_rightDifference_51 (lv_at hl 1 rfl) ?_
                        refine lv_iconst (v := nI 1) hx hb dX7_rightDifference_53 (by decide) ?_
                        refine ks_iaddN hx hb dX7_rightDifference_54 ?_
                        refine ks_i2lN hx hb dX7_rightDifference_55 (by omega) ?_
                        refine ks_ldivN hx hb dX7_rightDifference_56 (by omega) (by omega) (by omega) ?_
                        refine lv_lstore (lv' := [(5, .long (lN 0)), (3, .long ((((((lN 0) + ((lN 1) * (rvT T (i_ + 0)))) + ((-(lN 4)) * (rvT T (i_ + 1)))) + ((lN 6) * (rvT T (i_ + 2)))) + ((-(lN 4)) * (rvT T (i_ + 3)))) + ((lN 1) * (rvT T (i_ + 4))))), (7, .int (nI 4)), (0, .ref h_), (1, .int (nI 4)), (2, .int (nI i_))]) hx hb dX7_rightDifference_57 hl (by decide) rfl (fun ls hl => ?_)
                        refine lv_iinc (v := nI 5) (lv' := [(7, .int (nI 5)), (5, .long (lN 0)), (3, .long ((((((lN 0) + ((lN 1) * (rvT T (i_ + 0)))) + ((-(lN 4)) * (rvT T (i_ + 1)))) + ((lN 6) * (rvT T (i_ + 2)))) + ((-(lN 4)) * (rvT T (i_ + 3)))) + ((lN 1) * (rvT T (i_ + 4))))), (0, .ref h_), (1, .int (nI 4)), (2, .int (nI i_))]) hx hb dX7_rightDifference_59 hl (k := 2) rfl (ks_inc 4 1) (by decide) rfl (fun ls hl => ?_)
                        refine lv_goto (tgt := 8) hx hb dX7_rightDifference_62 (by decide) ?_
                        refine lv_iload hx hb dX7_rightDifference_8 (lv_at hl 0 rfl) ?_
                        refine lv_iload_n hx hb dX7_rightDifference_10 rfl (lv_at hl 4 rfl) ?_
                        refine ks_icmp_gt (tgt := 65) hx hb dX7_rightDifference_11 (by decide) (by omega) (by omega) (fun c_11 => ?_) (fun c_11 => ?_)
                        · refine lv_lload_n hx hb dX7_rightDifference_65 rfl (lv_at hl 2 rfl) ?_
                          exact cr_lret hx hb hr hlocks hK hP hD hS dX7_rightDifference_66 (by rw [hRR]; exact ctR_l (rd4 (rvT T) i_) (rfl))
                        · omega
                  · omega
          · omega
  · refine lv_lconst (v := lN 0) hx hb dX7_rightDifference_0 rfl ?_
    refine lv_lstore_n (lv' := [(3, .long (lN 0)), (0, .ref h_), (1, .int (nI 5)), (2, .int (nI i_))]) hx hb dX7_rightDifference_1 rfl hl (by decide) rfl (fun ls hl => ?_)
    refine lv_lconst (v := lN 1) hx hb dX7_rightDifference_2 rfl ?_
    refine lv_lstore (lv' := [(5, .long (lN 1)), (3, .long (lN 0)), (0, .ref h_), (1, .int (nI 5)), (2, .int (nI i_))]) hx hb dX7_rightDifference_3 hl (by decide) rfl (fun ls hl => ?_)
    refine lv_iconst (v := nI 0) hx hb dX7_rightDifference_5 (by decide) ?_
    refine lv_istore (lv' := [(7, .int (nI 0)), (5, .long (lN 1)), (3, .long (lN 0)), (0, .ref h_), (1, .int (nI 5)), (2, .int (nI i_))]) hx hb dX7_rightDifference_6 hl (by decide) rfl (fun ls hl => ?_)
    refine lv_iload hx hb dX7_rightDifference_8 (lv_at hl 0 rfl) ?_
    refine lv_iload_n hx hb dX7_rightDifference_10 rfl (lv_at hl 4 rfl) ?_
    refine ks_icmp_gt (tgt := 65) hx hb dX7_rightDifference_11 (by decide) (by omega) (by omega) (fun c_11 => ?_) (fun c_11 => ?_)
    · omega
    · refine lv_lload_n hx hb dX7_rightDifference_14 rfl (lv_at hl 2 rfl) ?_
      refine lv_iload_n hx hb dX7_rightDifference_15 rfl (lv_at hl 4 rfl) ?_
      refine lv_iload hx hb dX7_rightDifference_16 (lv_at hl 0 rfl) ?_
      refine ks_isubN hx hb dX7_rightDifference_18 (by omega) ?_
      refine lv_iconst (v := nI 2) hx hb dX7_rightDifference_19 (by decide) ?_
      refine ks_iremN hx hb dX7_rightDifference_20 (by omega) (by omega) (by omega) ?_
      refine ks_if_ne (tgt := 29) hx hb dX7_rightDifference_21 (by decide) (by omega) (fun c_21 => ?_) (fun c_21 => ?_)
      · refine lv_lload hx hb dX7_rightDifference_29 (lv_at hl 1 rfl) ?_
        refine lv_lneg hx hb dX7_rightDifference_31 ?_
        refine lv_aload_n hx hb dX7_rightDifference_32 rfl (lv_at hl 3 rfl) ?_
        refine lv_iload_n hx hb dX7_rightDifference_33 rfl (lv_at hl 5 rfl) ?_
        refine lv_iload hx hb dX7_rightDifference_34 (lv_at hl 0 rfl) ?_
        refine ks_iaddN hx hb dX7_rightDifference_36 ?_
        refine cr_S (wr := []) (As := [.ref h_, .int (nI (i_ + 0))]) (rest := [.long (-(lN 1)), .long (lN 0)]) ⟨hx, hb, hml, hown, hts⟩ (c_X7_right G l h_ T (i_ + 0) (by omega) (by omega) (by omega)) (va_cwS 2 hts gX7_rightDifference_X7_right rfl rfl rfl (by decide +kernel) ⟨Nat.le_of_ble_eq_true rfl, Nat.le_of_ble_eq_true rfl⟩) dX7_rightDifference_37 hK hNX hP hD hS hA hl [0] [] rfl rfl rfl rfl (by decide) rfl (Nat.le_of_ble_eq_true rfl) ⟨Nat.le_of_ble_eq_true rfl, Nat.le_of_ble_eq_true rfl⟩ rfl (fun v' w' Hq lcq hR' hP hD hS => ?_)
        obtain ⟨rfl, rfl⟩ := hR'
        have hP : va_P G.1 vwCl [(h_, .inl (G.2.2.1, 103, .inr (.inl (mV T))))] _ := hP.sub [0] rfl
        have hD : va_D A [(h_, .inl (G.2.2.1, 103, .inr (.inl (mV T))))] := hD.sub [0] (by decide +kernel) rfl
        refine lv_lmul hx hb dX7_rightDifference_40 ?_
        refine lv_ladd hx hb dX7_rightDifference_41 ?_
        refine lv_lstore_n (lv' := [(3, .long ((lN 0) + ((-(lN 1)) * (rvT T (i_ + 0))))), (7, .int (nI 0)), (5, .long (lN 1)), (0, .ref h_), (1, .int (nI 5)), (2, .int (nI i_))]) hx hb dX7_rightDifference_42 rfl hl (by decide) rfl (fun ls hl => ?_)
        refine lv_lload hx hb dX7_rightDifference_43 (lv_at hl 2 rfl) ?_
        refine lv_iload_n hx hb dX7_rightDifference_45 rfl (lv_at hl 4 rfl) ?_
        refine lv_iload hx hb dX7_rightDifference_46 (lv_at hl 1 rfl) ?_
        refine ks_isubN hx hb dX7_rightDifference_48 (by omega) ?_
        refine ks_i2lN hx hb dX7_rightDifference_49 (by omega) ?_
        refine ks_lmulN hx hb dX7_rightDifference_50 ?_
        refine lv_iload hx hb dX7_rightDifference_51 (lv_at hl 1 rfl) ?_
        refine lv_iconst (v := nI 1) hx hb dX7_rightDifference_53 (by decide) ?_
        refine ks_iaddN hx hb dX7_rightDifference_54 ?_
        refine ks_i2lN hx hb dX7_rightDifference_55 (by omega) ?_
        refine ks_ldivN hx hb dX7_rightDifference_56 (by omega) (by omega) (by omega) ?_
        refine lv_lstore (lv' := [(5, .long (lN 5)), (3, .long ((lN 0) + ((-(lN 1)) * (rvT T (i_ + 0))))), (7, .int (nI 0)), (0, .ref h_), (1, .int (nI 5)), (2, .int (nI i_))]) hx hb dX7_rightDifference_57 hl (by decide) rfl (fun ls hl => ?_)
        refine lv_iinc (v := nI 1) (lv' := [(7, .int (nI 1)), (5, .long (lN 5)), (3, .long ((lN 0) + ((-(lN 1)) * (rvT T (i_ + 0))))), (0, .ref h_), (1, .int (nI 5)), (2, .int (nI i_))]) hx hb dX7_rightDifference_59 hl (k := 2) rfl (ks_inc 0 1) (by decide) rfl (fun ls hl => ?_)
        refine lv_goto (tgt := 8) hx hb dX7_rightDifference_62 (by decide) ?_
        refine lv_iload hx hb dX7_rightDifference_8 (lv_at hl 0 rfl) ?_
        refine lv_iload_n hx hb dX7_rightDifference_10 rfl (lv_at hl 4 rfl) ?_
        refine ks_icmp_gt (tgt := 65) hx hb dX7_rightDifference_11 (by decide) (by omega) (by omega) (fun c_11 => ?_) (fun c_11 => ?_)
        · omega
        · refine lv_lload_n hx hb dX7_rightDifference_14 rfl (lv_at hl 2 rfl) ?_
          refine lv_iload_n hx hb dX7_rightDifference_15 rfl (lv_at hl 4 rfl) ?_
          refine lv_iload hx hb dX7_rightDifference_16 (lv_at hl 0 rfl) ?_
          refine ks_isubN hx hb dX7_rightDifference_18 (by omega) ?_
          refine lv_iconst (v := nI 2) hx hb dX7_rightDifference_19 (by decide) ?_
          refine ks_iremN hx hb dX7_rightDifference_20 (by omega) (by omega) (by omega) ?_
          refine ks_if_ne (tgt := 29) hx hb dX7_rightDifference_21 (by decide) (by omega) (fun c_21 => ?_) (fun c_21 => ?_)
          · omega
          · refine lv_lload hx hb dX7_rightDifference_24 (lv_at hl 1 rfl) ?_
            refine lv_goto (tgt := 32) hx hb dX7_rightDifference_26 (by decide) ?_
            refine lv_aload_n hx hb dX7_rightDifference_32 rfl (lv_at hl 3 rfl) ?_
            refine lv_iload_n hx hb dX7_rightDifference_33 rfl (lv_at hl 5 rfl) ?_
            refine lv_iload hx hb dX7_rightDifference_34 (lv_at hl 0 rfl) ?_
            refine ks_iaddN hx hb dX7_rightDifference_36 ?_
            refine cr_S (wr := []) (As := [.ref h_, .int (nI (i_ + 1))]) (rest := [.long (lN 5), .long ((lN 0) + ((-(lN 1)) * (rvT T (i_ + 0))))]) ⟨hx, hb, hml, hown, hts⟩ (c_X7_right G l h_ T (i_ + 1) (by omega) (by omega) (by omega)) (va_cwS 2 hts gX7_rightDifference_X7_right rfl rfl rfl (by decide +kernel) ⟨Nat.le_of_ble_eq_true rfl, Nat.le_of_ble_eq_true rfl⟩) dX7_rightDifference_37 hK hNX hP hD hS hA hl [0] [] rfl rfl rfl rfl (by decide) rfl (Nat.le_of_ble_eq_true rfl) ⟨Nat.le_of_ble_eq_true rfl, Nat.le_of_ble_eq_true rfl⟩ rfl (fun v' w' Hq lcq hR' hP hD hS => ?_)
            obtain ⟨rfl, rfl⟩ := hR'
            have hP : va_P G.1 vwCl [(h_, .inl (G.2.2.1, 103, .inr (.inl (mV T))))] _ := hP.sub [0] rfl
            have hD : va_D A [(h_, .inl (G.2.2.1, 103, .inr (.inl (mV T))))] := hD.sub [0] (by decide +kernel) rfl
            refine lv_lmul hx hb dX7_rightDifference_40 ?_
            refine lv_ladd hx hb dX7_rightDifference_41 ?_
            refine lv_lstore_n (lv' := [(3, .long (((lN 0) + ((-(lN 1)) * (rvT T (i_ + 0)))) + ((lN 5) * (rvT T (i_ + 1))))), (7, .int (nI 1)), (5, .long (lN 5)), (0, .ref h_), (1, .int (nI 5)), (2, .int (nI i_))]) hx hb dX7_rightDifference_42 rfl hl (by decide) rfl (fun ls hl => ?_)
            refine lv_lload hx hb dX7_rightDifference_43 (lv_at hl 2 rfl) ?_
            refine lv_iload_n hx hb dX7_rightDifference_45 rfl (lv_at hl 4 rfl) ?_
            refine lv_iload hx hb dX7_rightDifference_46 (lv_at hl 1 rfl) ?_
            refine ks_isubN hx hb dX7_rightDifference_48 (by omega) ?_
            refine ks_i2lN hx hb dX7_rightDifference_49 (by omega) ?_
            refine ks_lmulN hx hb dX7_rightDifference_50 ?_
            refine lv_iload hx hb dX7_rightDifference_51 (lv_at hl 1 rfl) ?_
            refine lv_iconst (v := nI 1) hx hb dX7_rightDifference_53 (by decide) ?_
            refine ks_iaddN hx hb dX7_rightDifference_54 ?_
            refine ks_i2lN hx hb dX7_rightDifference_55 (by omega) ?_
            refine ks_ldivN hx hb dX7_rightDifference_56 (by omega) (by omega) (by omega) ?_
            refine lv_lstore (lv' := [(5, .long (lN 10)), (3, .long (((lN 0) + ((-(lN 1)) * (rvT T (i_ + 0)))) + ((lN 5) * (rvT T (i_ + 1))))), (7, .int (nI 1)), (0, .ref h_), (1, .int (nI 5)), (2, .int (nI i_))]) hx hb dX7_rightDifference_57 hl (by decide) rfl (fun ls hl => ?_)
            refine lv_iinc (v := nI 2) (lv' := [(7, .int (nI 2)), (5, .long (lN 10)), (3, .long (((lN 0) + ((-(lN 1)) * (rvT T (i_ + 0)))) + ((lN 5) * (rvT T (i_ + 1))))), (0, .ref h_), (1, .int (nI 5)), (2, .int (nI i_))]) hx hb dX7_rightDifference_59 hl (k := 2) rfl (ks_inc 1 1) (by decide) rfl (fun ls hl => ?_)
            refine lv_goto (tgt := 8) hx hb dX7_rightDifference_62 (by decide) ?_
            refine lv_iload hx hb dX7_rightDifference_8 (lv_at hl 0 rfl) ?_
            refine lv_iload_n hx hb dX7_rightDifference_10 rfl (lv_at hl 4 rfl) ?_
            refine ks_icmp_gt (tgt := 65) hx hb dX7_rightDifference_11 (by decide) (by omega) (by omega) (fun c_11 => ?_) (fun c_11 => ?_)
            · omega
            · refine lv_lload_n hx hb dX7_rightDifference_14 rfl (lv_at hl 2 rfl) ?_
              refine lv_iload_n hx hb dX7_rightDifference_15 rfl (lv_at hl 4 rfl) ?_
              refine lv_iload hx hb dX7_rightDifference_16 (lv_at hl 0 rfl) ?_
              refine ks_isubN hx hb dX7_rightDifference_18 (by omega) ?_
              refine lv_iconst (v := nI 2) hx hb dX7_rightDifference_19 (by decide) ?_
              refine ks_iremN hx hb dX7_rightDifference_20 (by omega) (by omega) (by omega) ?_
              refine ks_if_ne (tgt := 29) hx hb dX7_rightDifference_21 (by decide) (by omega) (fun c_21 => ?_) (fun c_21 => ?_)
              · refine lv_lload hx hb dX7_rightDifference_29 (lv_at hl 1 rfl) ?_
                refine lv_lneg hx hb dX7_rightDifference_31 ?_
                refine lv_aload_n hx hb dX7_rightDifference_32 rfl (lv_at hl 3 rfl) ?_
                refine lv_iload_n hx hb dX7_rightDifference_33 rfl (lv_at hl 5 rfl) ?_
                refine lv_iload hx hb dX7_rightDifference_34 (lv_at hl 0 rfl) ?_
                refine ks_iaddN hx hb dX7_rightDifference_36 ?_
                refine cr_S (wr := []) (As := [.ref h_, .int (nI (i_ + 2))]) (rest := [.long (-(lN 10)), .long (((lN 0) + ((-(lN 1)) * (rvT T (i_ + 0)))) + ((lN 5) * (rvT T (i_ + 1))))]) ⟨hx, hb, hml, hown, hts⟩ (c_X7_right G l h_ T (i_ + 2) (by omega) (by omega) (by omega)) (va_cwS 2 hts gX7_rightDifference_X7_right rfl rfl rfl (by decide +kernel) ⟨Nat.le_of_ble_eq_true rfl, Nat.le_of_ble_eq_true rfl⟩) dX7_rightDifference_37 hK hNX hP hD hS hA hl [0] [] rfl rfl rfl rfl (by decide) rfl (Nat.le_of_ble_eq_true rfl) ⟨Nat.le_of_ble_eq_true rfl, Nat.le_of_ble_eq_true rfl⟩ rfl (fun v' w' Hq lcq hR' hP hD hS => ?_)
                obtain ⟨rfl, rfl⟩ := hR'
                have hP : va_P G.1 vwCl [(h_, .inl (G.2.2.1, 103, .inr (.inl (mV T))))] _ := hP.sub [0] rfl
                have hD : va_D A [(h_, .inl (G.2.2.1, 103, .inr (.inl (mV T))))] := hD.sub [0] (by decide +kernel) rfl
                refine lv_lmul hx hb dX7_rightDifference_40 ?_
                refine lv_ladd hx hb dX7_rightDifference_41 ?_
                refine lv_lstore_n (lv' := [(3, .long ((((lN 0) + ((-(lN 1)) * (rvT T (i_ + 0)))) + ((lN 5) * (rvT T (i_ + 1)))) + ((-(lN 10)) * (rvT T (i_ + 2))))), (7, .int (nI 2)), (5, .long (lN 10)), (0, .ref h_), (1, .int (nI 5)), (2, .int (nI i_))]) hx hb dX7_rightDifference_42 rfl hl (by decide) rfl (fun ls hl => ?_)
                refine lv_lload hx hb dX7_rightDifference_43 (lv_at hl 2 rfl) ?_
                refine lv_iload_n hx hb dX7_rightDifference_45 rfl (lv_at hl 4 rfl) ?_
                refine lv_iload hx hb dX7_rightDifference_46 (lv_at hl 1 rfl) ?_
                refine ks_isubN hx hb dX7_rightDifference_48 (by omega) ?_
                refine ks_i2lN hx hb dX7_rightDifference_49 (by omega) ?_
                refine ks_lmulN hx hb dX7_rightDifference_50 ?_
                refine lv_iload hx hb dX7_rightDifference_51 (lv_at hl 1 rfl) ?_
                refine lv_iconst (v := nI 1) hx hb dX7_rightDifference_53 (by decide) ?_
                refine ks_iaddN hx hb dX7_rightDifference_54 ?_
                refine ks_i2lN hx hb dX7_rightDifference_55 (by omega) ?_
                refine ks_ldivN hx hb dX7_rightDifference_56 (by omega) (by omega) (by omega) ?_
                refine lv_lstore (lv' := [(5, .long (lN 10)), (3, .long ((((lN 0) + ((-(lN 1)) * (rvT T (i_ + 0)))) + ((lN 5) * (rvT T (i_ + 1)))) + ((-(lN 10)) * (rvT T (i_ + 2))))), (7, .int (nI 2)), (0, .ref h_), (1, .int (nI 5)), (2, .int (nI i_))]) hx hb dX7_rightDifference_57 hl (by decide) rfl (fun ls hl => ?_)
                refine lv_iinc (v := nI 3) (lv' := [(7, .int (nI 3)), (5, .long (lN 10)), (3, .long ((((lN 0) + ((-(lN 1)) * (rvT T (i_ + 0)))) + ((lN 5) * (rvT T (i_ + 1)))) + ((-(lN 10)) * (rvT T (i_ + 2))))), (0, .ref h_), (1, .int (nI 5)), (2, .int (nI i_))]) hx hb dX7_rightDifference_59 hl (k := 2) rfl (ks_inc 2 1) (by decide) rfl (fun ls hl => ?_)
                refine lv_goto (tgt := 8) hx hb dX7_rightDifference_62 (by decide) ?_
                refine lv_iload hx hb dX7_rightDifference_8 (lv_at hl 0 rfl) ?_
                refine lv_iload_n hx hb dX7_rightDifference_10 rfl (lv_at hl 4 rfl) ?_
                refine ks_icmp_gt (tgt := 65) hx hb dX7_rightDifference_11 (by decide) (by omega) (by omega) (fun c_11 => ?_) (fun c_11 => ?_)
                · omega
                · refine lv_lload_n hx hb dX7_rightDifference_14 rfl (lv_at hl 2 rfl) ?_
                  refine lv_iload_n hx hb dX7_rightDifference_15 rfl (lv_at hl 4 rfl) ?_
                  refine lv_iload hx hb dX7_rightDifference_16 (lv_at hl 0 rfl) ?_
                  refine ks_isubN hx hb dX7_rightDifference_18 (by omega) ?_
                  refine lv_iconst (v := nI 2) hx hb dX7_rightDifference_19 (by decide) ?_
                  refine ks_iremN hx hb dX7_rightDifference_20 (by omega) (by omega) (by omega) ?_
                  refine ks_if_ne (tgt := 29) hx hb dX7_rightDifference_21 (by decide) (by omega) (fun c_21 => ?_) (fun c_21 => ?_)
                  · omega
                  · refine lv_lload hx hb dX7_rightDifference_24 (lv_at hl 1 rfl) ?_
                    refine lv_goto (tgt := 32) hx hb dX7_rightDifference_26 (by decide) ?_
                    refine lv_aload_n hx hb dX7_rightDifference_32 rfl (lv_at hl 3 rfl) ?_
                    refine lv_iload_n hx hb dX7_rightDifference_33 rfl (lv_at hl 5 rfl) ?_
                    refine lv_iload hx hb dX7_rightDifference_34 (lv_at hl 0 rfl) ?_
                    refine ks_iaddN hx hb dX7_rightDifference_36 ?_
                    refine cr_S (wr := []) (As := [.ref h_, .int (nI (i_ + 3))]) (rest := [.long (lN 10), .long ((((lN 0) + ((-(lN 1)) * (rvT T (i_ + 0)))) + ((lN 5) * (rvT T (i_ + 1)))) + ((-(lN 10)) * (rvT T (i_ + 2))))]) ⟨hx, hb, hml, hown, hts⟩ (c_X7_right G l h_ T (i_ + 3) (by omega) (by omega) (by omega)) (va_cwS 2 hts gX7_rightDifference_X7_right rfl rfl rfl (by decide +kernel) ⟨Nat.le_of_ble_eq_true rfl, Nat.le_of_ble_eq_true rfl⟩) dX7_rightDifference_37 hK hNX hP hD hS hA hl [0] [] rfl rfl rfl rfl (by decide) rfl (Nat.le_of_ble_eq_true rfl) ⟨Nat.le_of_ble_eq_true rfl, Nat.le_of_ble_eq_true rfl⟩ rfl (fun v' w' Hq lcq hR' hP hD hS => ?_)
                    obtain ⟨rfl, rfl⟩ := hR'
                    have hP : va_P G.1 vwCl [(h_, .inl (G.2.2.1, 103, .inr (.inl (mV T))))] _ := hP.sub [0] rfl
                    have hD : va_D A [(h_, .inl (G.2.2.1, 103, .inr (.inl (mV T))))] := hD.sub [0] (by decide +kernel) rfl
                    refine lv_lmul hx hb dX7_rightDifference_40 ?_
                    refine lv_ladd hx hb dX7_rightDifference_41 ?_
                    refine lv_lstore_n (lv' := [(3, .long (((((lN 0) + ((-(lN 1)) * (rvT T (i_ + 0)))) + ((lN 5) * (rvT T (i_ + 1)))) + ((-(lN 10)) * (rvT T (i_ + 2)))) + ((lN 10) * (rvT T (i_ + 3))))), (7, .int (nI 3)), (5, .long (lN 10)), (0, .ref h_), (1, .int (nI 5)), (2, .int (nI i_))]) hx hb dX7_rightDifference_42 rfl hl (by decide) rfl (fun ls hl => ?_)
                    refine lv_lload hx hb dX7_rightDifference_43 (lv_at hl 2 rfl) ?_
                    refine lv_iload_n hx hb dX7_rightDifference_45 rfl (lv_at hl 4 rfl) ?_
                    refine lv_iload hx hb dX7_rightDifference_46 (lv_at hl 1 rfl) ?_
                    refine ks_isubN hx hb dX7_rightDifference_48 (by omega) ?_
                    refine ks_i2lN hx hb dX7_rightDifference_49 (by omega) ?_
                    refine ks_lmulN hx hb dX7_rightDifference_50 ?_
                    refine lv_iload hx hb dX7_rightDifference_51 (lv_at hl 1 rfl) ?_
                    refine lv_iconst (v := nI 1) hx hb dX7_rightDifference_53 (by decide) ?_
                    refine ks_iaddN hx hb dX7_rightDifference_54 ?_
                    refine ks_i2lN hx hb dX7_rightDifference_55 (by omega) ?_
                    refine ks_ldivN hx hb dX7_rightDifference_56 (by omega) (by omega) (by omega) ?_
                    refine lv_lstore (lv' := [(5, .long (lN 5)), (3, .long (((((lN 0) + ((-(lN 1)) * (rvT T (i_ + 0)))) + ((lN 5) * (rvT T (i_ + 1)))) + ((-(lN 10)) * (rvT T (i_ + 2)))) + ((lN 10) * (rvT T (i_ + 3))))), (7, .int (nI 3)), (0, .ref h_), (1, .int (nI 5)), (2, .int (nI i_))]) hx hb dX7_rightDifference_57 hl (by decide) rfl (fun ls hl => ?_)
                    refine lv_iinc (v := nI 4) (lv' := [(7, .int (nI 4)), (5, .long (lN 5)), (3, .long (((((lN 0) + ((-(lN 1)) * (rvT T (i_ + 0)))) + ((lN 5) * (rvT T (i_ + 1)))) + ((-(lN 10)) * (rvT T (i_ + 2)))) + ((lN 10) * (rvT T (i_ + 3))))), (0, .ref h_), (1, .int (nI 5)), (2, .int (nI i_))]) hx hb dX7_rightDifference_59 hl (k := 2) rfl (ks_inc 3 1) (by decide) rfl (fun ls hl => ?_)
                    refine lv_goto (tgt := 8) hx hb dX7_rightDifference_62 (by decide) ?_
                    refine lv_iload hx hb dX7_rightDifference_8 (lv_at hl 0 rfl) ?_
                    refine lv_iload_n hx hb dX7_rightDifference_10 rfl (lv_at hl 4 rfl) ?_
                    refine ks_icmp_gt (tgt := 65) hx hb dX7_rightDifference_11 (by decide) (by omega) (by omega) (fun c_11 => ?_) (fun c_11 => ?_)
                    · omega
                    · refine lv_lload_n hx hb dX7_rightDifference_14 rfl (lv_at hl 2 rfl) ?_
                      refine lv_iload_n hx hb dX7_rightDifference_15 rfl (lv_at hl 4 rfl) ?_
                      refine lv_iload hx hb dX7_rightDifference_16 (lv_at hl 0 rfl) ?_
                      refine ks_isubN hx hb dX7_rightDifference_18 (by omega) ?_
                      refine lv_iconst (v := nI 2) hx hb dX7_rightDifference_19 (by decide) ?_
                      refine ks_iremN hx hb dX7_rightDifference_20 (by omega) (by omega) (by omega) ?_
                      refine ks_if_ne (tgt := 29) hx hb dX7_rightDifference_21 (by decide) (by omega) (fun c_21 => ?_) (fun c_21 => ?_)
                      · refine lv_lload hx hb dX7_rightDifference_29 (lv_at hl 1 rfl) ?_
                        refine lv_lneg hx hb dX7_rightDifference_31 ?_
                        refine lv_aload_n hx hb dX7_rightDifference_32 rfl (lv_at hl 3 rfl) ?_
                        refine lv_iload_n hx hb dX7_rightDifference_33 rfl (lv_at hl 5 rfl) ?_
                        refine lv_iload hx hb dX7_rightDifference_34 (lv_at hl 0 rfl) ?_
                        refine ks_iaddN hx hb dX7_rightDifference_36 ?_
                        refine cr_S (wr := []) (As := [.ref h_, .int (nI (i_ + 4))]) (rest := [.long (-(lN 5)), .long (((((lN 0) + ((-(lN 1)) * (rvT T (i_ + 0)))) + ((lN 5) * (rvT T (i_ + 1)))) + ((-(lN 10)) * (rvT T (i_ + 2)))) + ((lN 10) * (rvT T (i_ + 3))))]) ⟨hx, hb, hml, hown, hts⟩ (c_X7_right G l h_ T (i_ + 4) (by omega) (by omega) (by omega)) (va_cwS 2 hts gX7_rightDifference_X7_right rfl rfl rfl (by decide +kernel) ⟨Nat.le_of_ble_eq_true rfl, Nat.le_of_ble_eq_true rfl⟩) dX7_rightDifference_37 hK hNX hP hD hS hA hl [0] [] rfl rfl rfl rfl (by decide) rfl (Nat.le_of_ble_eq_true rfl) ⟨Nat.le_of_ble_eq_true rfl, Nat.le_of_ble_eq_true rfl⟩ rfl (fun v' w' Hq lcq hR' hP hD hS => ?_)
                        obtain ⟨rfl, rfl⟩ := hR'
                        have hP : va_P G.1 vwCl [(h_, .inl (G.2.2.1, 103, .inr (.inl (mV T))))] _ := hP.sub [0] rfl
                        have hD : va_D A [(h_, .inl (G.2.2.1, 103, .inr (.inl (mV T))))] := hD.sub [0] (by decide +kernel) rfl
                        refine lv_lmul hx hb dX7_rightDifference_40 ?_
                        refine lv_ladd hx hb dX7_rightDifference_41 ?_
                        refine lv_lstore_n (lv' := [(3, .long ((((((lN 0) + ((-(lN 1)) * (rvT T (i_ + 0)))) + ((lN 5) * (rvT T (i_ + 1)))) + ((-(lN 10)) * (rvT T (i_ + 2)))) + ((lN 10) * (rvT T (i_ + 3)))) + ((-(lN 5)) * (rvT T (i_ + 4))))), (7, .int (nI 4)), (5, .long (lN 5)), (0, .ref h_), (1, .int (nI 5)), (2, .int (nI i_))]) hx hb dX7_rightDifference_42 rfl hl (by decide) rfl (fun ls hl => ?_)
                        refine lv_lload hx hb dX7_rightDifference_43 (lv_at hl 2 rfl) ?_
                        refine lv_iload_n hx hb dX7_rightDifference_45 rfl (lv_at hl 4 rfl) ?_
                        refine lv_iload hx hb dX7_rightDifference_46 (lv_at hl 1 rfl) ?_
                        refine ks_isubN hx hb dX7_rightDifference_48 (by omega) ?_
                        refine ks_i2lN hx hb dX7_rightDifference_49 (by omega) ?_
                        refine ks_lmulN hx hb dX7_rightDifference_50 ?_
                        refine lv_iload hx hb dX7_rightDifference_51 (lv_at hl 1 rfl) ?_
                        refine lv_iconst (v := nI 1) hx hb dX7_rightDifference_53 (by decide) ?_
                        refine ks_iaddN hx hb dX7_rightDifference_54 ?_
                        refine ks_i2lN hx hb dX7_rightDifference_55 (by omega) ?_
                        refine ks_ldivN hx hb dX7_rightDifference_56 (by omega) (by omega) (by omega) ?_
                        refine lv_lstore (lv' := [(5, .long (lN 1)), (3, .long ((((((lN 0) + ((-(lN 1)) * (rvT T (i_ + 0)))) + ((lN 5) * (rvT T (i_ + 1)))) + ((-(lN 10)) * (rvT T (i_ + 2)))) + ((lN 10) * (rvT T (i_ + 3)))) + ((-(lN 5)) * (rvT T (i_ + 4))))), (7, .int (nI 4)), (0, .ref h_), (1, .int (nI 5)), (2, .int (nI i_))]) hx hb dX7_rightDifference_57 hl (by decide) rfl (fun ls hl => ?_)
                        refine lv_iinc (v := nI 5) (lv' := [(7, .int (nI 5)), (5, .long (lN 1)), (3, .long ((((((lN 0) + ((-(lN 1)) * (rvT T (i_ + 0)))) + ((lN 5) * (rvT T (i_ + 1)))) + ((-(lN 10)) * (rvT T (i_ + 2)))) + ((lN 10) * (rvT T (i_ + 3)))) + ((-(lN 5)) * (rvT T (i_ + 4))))), (0, .ref h_), (1, .int (nI 5)), (2, .int (nI i_))]) hx hb dX7_rightDifference_59 hl (k := 2) rfl (ks_inc 4 1) (by decide) rfl (fun ls hl => ?_)
                        refine lv_goto (tgt := 8) hx hb dX7_rightDifference_62 (by decide) ?_
                        refine lv_iload hx hb dX7_rightDifference_8 (lv_at hl 0 rfl) ?_
                        refine lv_iload_n hx hb dX7_rightDifference_10 rfl (lv_at hl 4 rfl) ?_
                        refine ks_icmp_gt (tgt := 65) hx hb dX7_rightDifference_11 (by decide) (by omega) (by omega) (fun c_11 => ?_) (fun c_11 => ?_)
                        · omega
                        · refine lv_lload_n hx hb dX7_rightDifference_14 rfl (lv_at hl 2 rfl) ?_
                          refine lv_iload_n hx hb dX7_rightDifference_15 rfl (lv_at hl 4 rfl) ?_
                          refine lv_iload hx hb dX7_rightDifference_16 (lv_at hl 0 rfl) ?_
                          refine ks_isubN hx hb dX7_rightDifference_18 (by omega) ?_
                          refine lv_iconst (v := nI 2) hx hb dX7_rightDifference_19 (by decide) ?_
                          refine ks_iremN hx hb dX7_rightDifference_20 (by omega) (by omega) (by omega) ?_
                          refine ks_if_ne (tgt := 29) hx hb dX7_rightDifference_21 (by decide) (by omega) (fun c_21 => ?_) (fun c_21 => ?_)
                          · omega
                          · refine lv_lload hx hb dX7_rightDifference_24 (lv_at hl 1 rfl) ?_
                            refine lv_goto (tgt := 32) hx hb dX7_rightDifference_26 (by decide) ?_
                            refine lv_aload_n hx hb dX7_rightDifference_32 rfl (lv_at hl 3 rfl) ?_
                            refine lv_iload_n hx hb dX7_rightDifference_33 rfl (lv_at hl 5 rfl) ?_
                            refine lv_iload hx hb dX7_rightDifference_34 (lv_at hl 0 rfl) ?_
                            refine ks_iaddN hx hb dX7_rightDifference_36 ?_
                            refine cr_S (wr := []) (As := [.ref h_, .int (nI (i_ + 5))]) (rest := [.long (lN 1), .long ((((((lN 0) + ((-(lN 1)) * (rvT T (i_ + 0)))) + ((lN 5) * (rvT T (i_ + 1)))) + ((-(lN 10)) * (rvT T (i_ + 2)))) + ((lN 10) * (rvT T (i_ + 3)))) + ((-(lN 5)) * (rvT T (i_ + 4))))]) ⟨hx, hb, hml, hown, hts⟩ (c_X7_right G l h_ T (i_ + 5) (by omega) (by omega) (by omega)) (va_cwS 2 hts gX7_rightDifference_X7_right rfl rfl rfl (by decide +kernel) ⟨Nat.le_of_ble_eq_true rfl, Nat.le_of_ble_eq_true rfl⟩) dX7_rightDifference_37 hK hNX hP hD hS hA hl [0] [] rfl rfl rfl rfl (by decide) rfl (Nat.le_of_ble_eq_true rfl) ⟨Nat.le_of_ble_eq_true rfl, Nat.le_of_ble_eq_true rfl⟩ rfl (fun v' w' Hq lcq hR' hP hD hS => ?_)
                            obtain ⟨rfl, rfl⟩ := hR'
                            have hP : va_P G.1 vwCl [(h_, .inl (G.2.2.1, 103, .inr (.inl (mV T))))] _ := hP.sub [0] rfl
                            have hD : va_D A [(h_, .inl (G.2.2.1, 103, .inr (.inl (mV T))))] := hD.sub [0] (by decide +kernel) rfl
                            refine lv_lmul hx hb dX7_rightDifference_40 ?_
                            refine lv_ladd hx hb dX7_rightDifference_41 ?_
                            refine lv_lstore_n (lv' := [(3, .long (((((((lN 0) + ((-(lN 1)) * (rvT T (i_ + 0)))) + ((lN 5) * (rvT T (i_ + 1)))) + ((-(lN 10)) * (rvT T (i_ + 2)))) + ((lN 10) * (rvT T (i_ + 3)))) + ((-(lN 5)) * (rvT T (i_ + 4)))) + ((lN 1) * (rvT T (i_ + 5))))), (7, .int (nI 5)), (5, .long (lN 1)), (0, .ref h_), (1, .int (nI 5)), (2, .int (nI i_))]) hx hb dX7_rightDifference_42 rfl hl (by decide) rfl (fun ls hl => ?_)
                            refine lv_lload hx hb dX7_rightDifference_43 (lv_at hl 2 rfl) ?_
                            refine lv_iload_n hx hb dX7_rightDifference_45 rfl (lv_at hl 4 rfl) ?_
                            refine lv_iload hx hb dX7_rightDifference_46 (lv_at hl 1 rfl) ?_
                            refine ks_isubN hx hb dX7_rightDifference_48 (by omega) ?_
                            refine ks_i2lN hx hb dX7_rightDifference_49 (by omega) ?_
                            refine ks_lmulN hx hb dX7_rightDifference_50 ?_
                            refine lv_iload hx hb dX7_rightDifference_51 (lv_at hl 1 rfl) ?_
                            refine lv_iconst (v := nI 1) hx hb dX7_rightDifference_53 (by decide) ?_
                            refine ks_iaddN hx hb dX7_rightDifference_54 ?_
                            refine ks_i2lN hx hb dX7_rightDifference_55 (by omega) ?_
                            refine ks_ldivN hx hb dX7_rightDifference_56 (by omega) (by omega) (by omega) ?_
                            refine lv_lstore (lv' := [(5, .long (lN 0)), (3, .long (((((((lN 0) + ((-(lN 1)) * (rvT T (i_ + 0)))) + ((lN 5) * (rvT T (i_ + 1)))) + ((-(lN 10)) * (rvT T (i_ + 2)))) + ((lN 10) * (rvT T (i_ + 3)))) + ((-(lN 5)) * (rvT T (i_ + 4)))) + ((lN 1) * (rvT T (i_ + 5))))), (7, .int (nI 5)), (0, .ref h_), (1, .int (nI 5)), (2, .int (nI i_))]) hx hb dX7_rightDifference_57 hl (by decide) rfl (fun ls hl => ?_)
                            refine lv_iinc (v := nI 6) (lv' := [(7, .int (nI 6)), (5, .long (lN 0)), (3, .long (((((((lN 0) + ((-(lN 1)) * (rvT T (i_ + 0)))) + ((lN 5) * (rvT T (i_ + 1)))) + ((-(lN 10)) * (rvT T (i_ + 2)))) + ((lN 10) * (rvT T (i_ + 3)))) + ((-(lN 5)) * (rvT T (i_ + 4)))) + ((lN 1) * (rvT T (i_ + 5))))), (0, .ref h_), (1, .int (nI 5)), (2, .int (nI i_))]) hx hb dX7_rightDifference_59 hl (k := 2) rfl (ks_inc 5 1) (by decide) rfl (fun ls hl => ?_)
                            refine lv_goto (tgt := 8) hx hb dX7_rightDifference_62 (by decide) ?_
                            refine lv_iload hx hb dX7_rightDifference_8 (lv_at hl 0 rfl) ?_
                            refine lv_iload_n hx hb dX7_rightDifference_10 rfl (lv_at hl 4 rfl) ?_
                            refine ks_icmp_gt (tgt := 65) hx hb dX7_rightDifference_11 (by decide) (by omega) (by omega) (fun c_11 => ?_) (fun c_11 => ?_)
                            · refine lv_lload_n hx hb dX7_rightDifference_65 rfl (lv_at hl 2 rfl) ?_
                              exact cr_lret hx hb hr hlocks hK hP hD hS dX7_rightDifference_66 (by rw [hRR]; exact ctR_l (rd5 (rvT T) i_) (rfl))
                            · omega
                      · omega
              · omega
      · omega
set_option maxHeartbeats 4000000 in
set_option maxRecDepth 100000 in
theorem c_X7_wrong (G : GG) (l : Launch) (h_ : Nat) (T : TS) (jn4 : T.s 4 ≤ 40) (jf_ : T.s 3 ≤ 99) (jp : T.s 2 ≤ 5) : Cr G l yX7_wrong wsX7_wrong ({ frames := 2, cells := 0, slots := 0, locals := 53 }) 0 0 [.ref h_] [(h_, .inl (G.2.2.1, 103, .inr (.inl (mV T))))] (ctR (some (.int (nI (ctN (fun k_ => T.r k_ ≠ rgt (T.s 2) (T.s 3 + T.s 4) k_) 6)))) [(h_, .inl (G.2.2.1, 103, .inr (.inl (mV T))))]) := by
  refine cr_intro (cc := cX7_wrong) (maxL := 3) (ret := (some .int)) (own := RX7) (by decide) rfl rfl (Nat.le_of_ble_eq_true rfl) ?_
  intro p e s m args below meth c A hx hb hr hml hts hown hlocks hnm hNX hP hK hD hA hS ls hl
  obtain ⟨RR, hRR⟩ : ∃ RR, RR = (ctR (some (.int (nI (ctN (fun k_ => T.r k_ ≠ rgt (T.s 2) (T.s 3 + T.s 4) k_) 6)))) [(h_, .inl (G.2.2.1, 103, .inr (.inl (mV T))))]) := ⟨_, rfl⟩
  rw [← hRR]
  have hl : lv_has ls 3 [(0, .ref h_)] := hl
  refine lv_iconst (v := nI 0) hx hb dX7_wrong_0 (by decide) ?_
  refine lv_istore_n (lv' := [(1, .int (nI 0)), (0, .ref h_)]) hx hb dX7_wrong_1 rfl hl (by decide) rfl (fun ls hl => ?_)
  refine lv_iconst (v := nI 0) hx hb dX7_wrong_2 (by decide) ?_
  refine lv_istore_n (lv' := [(2, .int (nI 0)), (1, .int (nI 0)), (0, .ref h_)]) hx hb dX7_wrong_3 rfl hl (by decide) rfl (fun ls hl => ?_)
  have L_4 : ∀ (n_4 : Nat) (k_ : Nat) (_ : 7 - k_ < n_4) (jk : k_ ≤ 6) (Hq : Heap) (lcq : List Loc), va_P G.1 vwCl [(h_, .inl (G.2.2.1, 103, .inr (.inl (mV T))))] Hq → va_D A [(h_, .inl (G.2.2.1, 103, .inr (.inl (mV T))))] → va_S A s.heap Hq lcq → ∀ ls : Array Slot, lv_has ls 3 [(2, .int (nI k_)), (0, .ref h_), (1, .int (nI (ctN (fun k_ => T.r k_ ≠ rgt (T.s 2) (T.s 3 + T.s 4) k_) k_)))] → W p l e ({ frames := 2, cells := 0, slots := 0, locals := 53 }) s m args below meth c Hq lcq 0 0 (MQ below (cr_Q G RR A) args s 0 0 A) (F0 m 4 ls []) := by
    intro n_4
    induction n_4 with
    | zero => intro k_ hmu_4; exact absurd hmu_4 (Nat.not_lt_zero _)
    | succ n_4 ih_4 =>
      intro k_ hmu_4 jk Hq lcq hP hD hS ls hl
      refine lv_iload_n hx hb dX7_wrong_4 rfl (lv_at hl 0 rfl) ?_
      refine lv_bipush (v := nI 6) hx hb dX7_wrong_5 (by decide) ?_
      refine ks_icmp_ge (tgt := 43) hx hb dX7_wrong_7 (by decide) (by omega) (by omega) (fun c_7 => ?_) (fun c_7 => ?_)
      · obtain rfl : k_ = 6 := by omega
        refine lv_iload_n hx hb dX7_wrong_43 rfl (lv_at hl 2 rfl) ?_
        exact cr_iret hx hb hr hlocks hK hP hD hS dX7_wrong_44 (by rw [hRR]; exact ctR_i (rfl) (rfl))
      · refine lv_iload_n hx hb dX7_wrong_10 rfl (lv_at hl 2 rfl) ?_
        refine lv_aload_n hx hb dX7_wrong_11 rfl (lv_at hl 1 rfl) ?_
        refine lv_bipush (v := nI 7) hx hb dX7_wrong_12 (by decide) ?_
        refine lv_iload_n hx hb dX7_wrong_14 rfl (lv_at hl 0 rfl) ?_
        refine ks_iaddN hx hb dX7_wrong_15 ?_
        refine ks_lald hx hb hK hP 0 rfl (by omega) (by decide) dX7_wrong_16 ?_
        refine ks_vL (show mV T (7 + k_) = T.r k_ from mV_r (j := k_) (by omega)) ?_
        refine lv_aload_n hx hb dX7_wrong_17 rfl (lv_at hl 1 rfl) ?_
        refine lv_iload_n hx hb dX7_wrong_18 rfl (lv_at hl 0 rfl) ?_
        refine lv_aload_n hx hb dX7_wrong_19 rfl (lv_at hl 1 rfl) ?_
        refine lv_iconst (v := nI 4) hx hb dX7_wrong_20 (by decide) ?_
        refine ks_lald hx hb hK hP 0 rfl (by omega) (by decide) dX7_wrong_21 ?_
        refine ks_vL (show mV T 4 = lN (T.s 4) from rfl) ?_
        refine ks_l2iN hx hb dX7_wrong_22 ?_
        refine cr_S (wr := []) (As := [.ref h_, .int (nI k_), .int (nI (T.s 4))]) (rest := [.long (T.r k_), .int (nI (ctN (fun k_ => T.r k_ ≠ rgt (T.s 2) (T.s 3 + T.s 4) k_) k_))]) ⟨hx, hb, hml, hown, hts⟩ (c_X7_rightDifference G l h_ T k_ (T.s 4) (by omega) (by omega) (by omega) (by omega)) (va_cwS 3 hts gX7_wrong_X7_rightDifference rfl rfl rfl (by decide +kernel) ⟨Nat.le_of_ble_eq_true rfl, Nat.le_of_ble_eq_true rfl⟩) dX7_wrong_23 hK hNX hP hD hS hA hl [0] [] rfl rfl rfl rfl (by decide) rfl (Nat.le_of_ble_eq_true rfl) ⟨Nat.le_of_ble_eq_true rfl, Nat.le_of_ble_eq_true rfl⟩ rfl (fun v' w' Hq lcq hR' hP hD hS => ?_)
        obtain ⟨rfl, rfl⟩ := hR'
        have hP : va_P G.1 vwCl [(h_, .inl (G.2.2.1, 103, .inr (.inl (mV T))))] _ := hP.sub [0] rfl
        have hD : va_D A [(h_, .inl (G.2.2.1, 103, .inr (.inl (mV T))))] := hD.sub [0] (by decide +kernel) rfl
        refine ks_lc_ne (tgt := 34) hx hb dX7_wrong_26 dX7_wrong_27 (by decide) (fun c_26 => ?_) (fun c_26 => ?_)
        · refine lv_iconst (v := nI 1) hx hb dX7_wrong_34 (by decide) ?_
          refine ks_iaddN hx hb dX7_wrong_35 ?_
          refine ks_vI (show nI (ctN (fun k_ => T.r k_ ≠ rgt (T.s 2) (T.s 3 + T.s 4) k_) k_ + 1) = nI (ctN (fun k_ => T.r k_ ≠ rgt (T.s 2) (T.s 3 + T.s 4) k_) (k_ + 1)) from by rw [ctN_t (p := (fun k_ => T.r k_ ≠ rgt (T.s 2) (T.s 3 + T.s 4) k_)) (show T.r k_ ≠ rgt (T.s 2) (T.s 3 + T.s 4) k_ by rw [rgt_dif]; exact c_26)]) ?_
          refine lv_istore_n (lv' := [(1, .int (nI (ctN (fun k_ => T.r k_ ≠ rgt (T.s 2) (T.s 3 + T.s 4) k_) (k_ + 1)))), (2, .int (nI k_)), (0, .ref h_)]) hx hb dX7_wrong_36 rfl hl (by decide) rfl (fun ls hl => ?_)
          refine lv_iinc (v := nI (k_ + 1)) (lv' := [(2, .int (nI (k_ + 1))), (1, .int (nI (ctN (fun k_ => T.r k_ ≠ rgt (T.s 2) (T.s 3 + T.s 4) k_) (k_ + 1)))), (0, .ref h_)]) hx hb dX7_wrong_37 hl (k := 1) rfl (ks_inc k_ 1) (by decide) rfl (fun ls hl => ?_)
          refine lv_goto (tgt := 4) hx hb dX7_wrong_40 (by decide) ?_
          exact ih_4  (k_ + 1) (by omega) (by omega) _ _ hP hD hS ls (lv_sub hl [0, 2, 1] rfl)
        · refine lv_iconst (v := nI 0) hx hb dX7_wrong_30 (by decide) ?_
          refine lv_goto (tgt := 35) hx hb dX7_wrong_31 (by decide) ?_
          refine ks_iaddN hx hb dX7_wrong_35 ?_
          refine ks_vI (show nI (ctN (fun k_ => T.r k_ ≠ rgt (T.s 2) (T.s 3 + T.s 4) k_) k_ + 0) = nI (ctN (fun k_ => T.r k_ ≠ rgt (T.s 2) (T.s 3 + T.s 4) k_) (k_ + 1)) from by rw [Nat.add_zero, ctN_f (p := (fun k_ => T.r k_ ≠ rgt (T.s 2) (T.s 3 + T.s 4) k_)) (show ¬ T.r k_ ≠ rgt (T.s 2) (T.s 3 + T.s 4) k_ by rw [rgt_dif]; exact fun z => z c_26)]) ?_
          refine lv_istore_n (lv' := [(1, .int (nI (ctN (fun k_ => T.r k_ ≠ rgt (T.s 2) (T.s 3 + T.s 4) k_) (k_ + 1)))), (2, .int (nI k_)), (0, .ref h_)]) hx hb dX7_wrong_36 rfl hl (by decide) rfl (fun ls hl => ?_)
          refine lv_iinc (v := nI (k_ + 1)) (lv' := [(2, .int (nI (k_ + 1))), (1, .int (nI (ctN (fun k_ => T.r k_ ≠ rgt (T.s 2) (T.s 3 + T.s 4) k_) (k_ + 1)))), (0, .ref h_)]) hx hb dX7_wrong_37 hl (k := 1) rfl (ks_inc k_ 1) (by decide) rfl (fun ls hl => ?_)
          refine lv_goto (tgt := 4) hx hb dX7_wrong_40 (by decide) ?_
          exact ih_4  (k_ + 1) (by omega) (by omega) _ _ hP hD hS ls (lv_sub hl [0, 2, 1] rfl)
  exact L_4 _ 0 (Nat.lt_succ_self _) (by omega) _ _ hP hD hS ls (lv_sub hl [0, 2, 1] rfl)
set_option maxHeartbeats 4000000 in
set_option maxRecDepth 100000 in
theorem c_X7_corrects (G : GG) (l : Launch) (h_ : Nat) (T : TS) (jn4 : T.s 4 ≤ 40) (jf_ : T.s 3 ≤ 99) (jp : T.s 2 ≤ 5) : Cr G l yX7_corrects wsX7_corrects ({ frames := 3, cells := 0, slots := 0, locals := 75 }) 0 0 [.ref h_] [(h_, .inl (G.2.2.1, 103, .inr (.inl (mV T))))] (ctR (some (.int (nI (ctN (fun k_ => T.r k_ ≠ rgt (T.s 2) (T.s 3 + T.s 4) k_) 6)))) [(h_, .inl (G.2.2.1, 103, .inr (.inl (mV (T.withR (rgt (T.s 2) (T.s 3 + T.s 4)))))))]) := by
  refine cr_intro (cc := cX7_corrects) (maxL := 3) (ret := (some .int)) (own := RX7) (by decide) rfl rfl (Nat.le_of_ble_eq_true rfl) ?_
  intro p e s m args below meth c A hx hb hr hml hts hown hlocks hnm hNX hP hK hD hA hS ls hl
  obtain ⟨RR, hRR⟩ : ∃ RR, RR = (ctR (some (.int (nI (ctN (fun k_ => T.r k_ ≠ rgt (T.s 2) (T.s 3 + T.s 4) k_) 6)))) [(h_, .inl (G.2.2.1, 103, .inr (.inl (mV (T.withR (rgt (T.s 2) (T.s 3 + T.s 4)))))))]) := ⟨_, rfl⟩
  rw [← hRR]
  have hl : lv_has ls 3 [(0, .ref h_)] := hl
  refine lv_aload_n hx hb dX7_corrects_0 rfl (lv_at hl 0 rfl) ?_
  refine cr_S (wr := []) (As := [.ref h_]) (rest := []) ⟨hx, hb, hml, hown, hts⟩ (c_X7_wrong G l h_ T (by omega) (by omega) (by omega)) (va_cwS 1 hts gX7_corrects_X7_wrong rfl rfl rfl (by decide +kernel) ⟨Nat.le_of_ble_eq_true rfl, Nat.le_of_ble_eq_true rfl⟩) dX7_corrects_1 hK hNX hP hD hS hA hl [0] [] rfl rfl rfl rfl (by decide) rfl (Nat.le_of_ble_eq_true rfl) ⟨Nat.le_of_ble_eq_true rfl, Nat.le_of_ble_eq_true rfl⟩ rfl (fun v' w' Hq lcq hR' hP hD hS => ?_)
  obtain ⟨rfl, rfl⟩ := hR'
  have hP : va_P G.1 vwCl [(h_, .inl (G.2.2.1, 103, .inr (.inl (mV T))))] _ := hP.sub [0] rfl
  have hD : va_D A [(h_, .inl (G.2.2.1, 103, .inr (.inl (mV T))))] := hD.sub [0] (by decide +kernel) rfl
  refine lv_istore_n (lv' := [(1, .int (nI (ctN (fun k_ => T.r k_ ≠ rgt (T.s 2) (T.s 3 + T.s 4) k_) 6))), (0, .ref h_)]) hx hb dX7_corrects_4 rfl hl (by decide) rfl (fun ls hl => ?_)
  refine lv_iconst (v := nI 0) hx hb dX7_corrects_5 (by decide) ?_
  refine lv_istore_n (lv' := [(2, .int (nI 0)), (1, .int (nI (ctN (fun k_ => T.r k_ ≠ rgt (T.s 2) (T.s 3 + T.s 4) k_) 6))), (0, .ref h_)]) hx hb dX7_corrects_6 rfl hl (by decide) rfl (fun ls hl => ?_)
  have L_7 : ∀ (n_7 : Nat) (k_ : Nat) (_ : 7 - k_ < n_7) (jk : k_ ≤ 6) (Hq : Heap) (lcq : List Loc), va_P G.1 vwCl [(h_, .inl (G.2.2.1, 103, .inr (.inl (mV (T.withR (cpu T.r (rgt (T.s 2) (T.s 3 + T.s 4)) k_))))))] Hq → va_D A [(h_, .inl (G.2.2.1, 103, .inr (.inl (mV (T.withR (cpu T.r (rgt (T.s 2) (T.s 3 + T.s 4)) k_))))))] → va_S A s.heap Hq lcq → ∀ ls : Array Slot, lv_has ls 3 [(2, .int (nI k_)), (0, .ref h_), (1, .int (nI (ctN (fun k_ => T.r k_ ≠ rgt (T.s 2) (T.s 3 + T.s 4) k_) 6)))] → W p l e ({ frames := 3, cells := 0, slots := 0, locals := 75 }) s m args below meth c Hq lcq 0 0 (MQ below (cr_Q G RR A) args s 0 0 A) (F0 m 7 ls []) := by
    intro n_7
    induction n_7 with
    | zero => intro k_ hmu_7; exact absurd hmu_7 (Nat.not_lt_zero _)
    | succ n_7 ih_7 =>
      intro k_ hmu_7 jk Hq lcq hP hD hS ls hl
      refine lv_iload_n hx hb dX7_corrects_7 rfl (lv_at hl 0 rfl) ?_
      refine lv_bipush (v := nI 6) hx hb dX7_corrects_8 (by decide) ?_
      refine ks_icmp_ge (tgt := 34) hx hb dX7_corrects_10 (by decide) (by omega) (by omega) (fun c_10 => ?_) (fun c_10 => ?_)
      · have hP := hP.cgJ 0 (g := mV (T.withR (rgt (T.s 2) (T.s 3 + T.s 4)))) rfl (mV_wR (fun q9 h9 => cpu_lo (by omega)))
        have hD := hD.set (p := 0) (e := .inl (G.2.2.1, 103, .inr <| .inl (mV (T.withR (rgt (T.s 2) (T.s 3 + T.s 4)))))) rfl
        have hP : va_P G.1 vwCl [(h_, .inl (G.2.2.1, 103, .inr (.inl (mV (T.withR (rgt (T.s 2) (T.s 3 + T.s 4)))))))] _ := hP
        have hD : va_D A [(h_, .inl (G.2.2.1, 103, .inr (.inl (mV (T.withR (rgt (T.s 2) (T.s 3 + T.s 4)))))))] := hD
        refine lv_iload_n hx hb dX7_corrects_34 rfl (lv_at hl 2 rfl) ?_
        exact cr_iret hx hb hr hlocks hK hP hD hS dX7_corrects_35 (by rw [hRR]; exact ctR_i (rfl) (rfl))
      · refine lv_aload_n hx hb dX7_corrects_13 rfl (lv_at hl 1 rfl) ?_
        refine lv_bipush (v := nI 7) hx hb dX7_corrects_14 (by decide) ?_
        refine lv_iload_n hx hb dX7_corrects_16 rfl (lv_at hl 0 rfl) ?_
        refine ks_iaddN hx hb dX7_corrects_17 ?_
        refine lv_aload_n hx hb dX7_corrects_18 rfl (lv_at hl 1 rfl) ?_
        refine lv_iload_n hx hb dX7_corrects_19 rfl (lv_at hl 0 rfl) ?_
        refine lv_aload_n hx hb dX7_corrects_20 rfl (lv_at hl 1 rfl) ?_
        refine lv_iconst (v := nI 4) hx hb dX7_corrects_21 (by decide) ?_
        refine ks_lald hx hb hK hP 0 rfl (by omega) (by decide) dX7_corrects_22 ?_
        refine ks_vL (show mV (T.withR (cpu T.r (rgt (T.s 2) (T.s 3 + T.s 4)) k_)) 4 = lN ((T.withR (cpu T.r (rgt (T.s 2) (T.s 3 + T.s 4)) k_)).s 4) from rfl) ?_
        refine ks_l2iN hx hb dX7_corrects_23 ?_
        refine cr_S (wr := []) (As := [.ref h_, .int (nI k_), .int (nI ((T.withR (cpu T.r (rgt (T.s 2) (T.s 3 + T.s 4)) k_)).s 4))]) (rest := [.int (nI (7 + k_)), .ref h_]) ⟨hx, hb, hml, hown, hts⟩ (c_X7_rightDifference G l h_ (T.withR (cpu T.r (rgt (T.s 2) (T.s 3 + T.s 4)) k_)) k_ ((T.withR (cpu T.r (rgt (T.s 2) (T.s 3 + T.s 4)) k_)).s 4) (by omega) (show T.s 4 < 2 ^ 28 by omega) (jf_) (jp)) (va_cwS 3 hts gX7_corrects_X7_rightDifference rfl rfl rfl (by decide +kernel) ⟨Nat.le_of_ble_eq_true rfl, Nat.le_of_ble_eq_true rfl⟩) dX7_corrects_24 hK hNX hP hD hS hA hl [0] [] rfl rfl rfl rfl (by decide) rfl (Nat.le_of_ble_eq_true rfl) ⟨Nat.le_of_ble_eq_true rfl, Nat.le_of_ble_eq_true rfl⟩ rfl (fun v' w' Hq lcq hR' hP hD hS => ?_)
        obtain ⟨rfl, rfl⟩ := hR'
        have hP : va_P G.1 vwCl [(h_, .inl (G.2.2.1, 103, .inr (.inl (mV (T.withR (cpu T.r (rgt (T.s 2) (T.s 3 + T.s 4)) k_))))))] _ := hP.sub [0] rfl
        have hD : va_D A [(h_, .inl (G.2.2.1, 103, .inr (.inl (mV (T.withR (cpu T.r (rgt (T.s 2) (T.s 3 + T.s 4)) k_))))))] := hD.sub [0] (by decide +kernel) rfl
        refine ks_vL (show dif (rvT (T.withR (cpu T.r (rgt (T.s 2) (T.s 3 + T.s 4)) k_))) k_ ((T.withR (cpu T.r (rgt (T.s 2) (T.s 3 + T.s 4)) k_)).s 4) = rgt (T.s 2) (T.s 3 + T.s 4) k_ from (rgt_dif T (T.s 4) k_).symm) ?_
        refine ks_last (f' := mV (T.withR (cpu T.r (rgt (T.s 2) (T.s 3 + T.s 4)) (k_ + 1)))) hx hb hK hP hD hS 0 rfl (by omega) (by decide) (by rw [← cR_s, mV_setR (by omega)]) dX7_corrects_27 (fun Hq lcq hP hD hS => ?_)
        have hP : va_P G.1 vwCl [(h_, .inl (G.2.2.1, 103, .inr (.inl (mV (T.withR (cpu T.r (rgt (T.s 2) (T.s 3 + T.s 4)) (k_ + 1)))))))] _ := hP
        have hD : va_D A [(h_, .inl (G.2.2.1, 103, .inr (.inl (mV (T.withR (cpu T.r (rgt (T.s 2) (T.s 3 + T.s 4)) (k_ + 1)))))))] := hD
        refine lv_iinc (v := nI (k_ + 1)) (lv' := [(2, .int (nI (k_ + 1))), (0, .ref h_), (1, .int (nI (ctN (fun k_ => T.r k_ ≠ rgt (T.s 2) (T.s 3 + T.s 4) k_) 6)))]) hx hb dX7_corrects_28 hl (k := 0) rfl (ks_inc k_ 1) (by decide) rfl (fun ls hl => ?_)
        refine lv_goto (tgt := 7) hx hb dX7_corrects_31 (by decide) ?_
        exact ih_7  (k_ + 1) (by omega) (by omega) _ _ hP hD hS ls (lv_sub hl [0, 1, 2] rfl)
  rw [← cR_0 T (rgt (T.s 2) (T.s 3 + T.s 4))] at hP hD
  exact L_7 _ 0 (Nat.lt_succ_self _) (by omega) _ _ hP hD hS ls (lv_sub hl [0, 2, 1] rfl)
set_option maxHeartbeats 4000000 in
set_option maxRecDepth 100000 in
theorem c_X7_strikes (G : GG) (l : Launch) (h_ : Nat) (T : TS) (x_ : Int64) (jx : ab x_ < 2 ^ 63) (jw : ∀ d, d < 10 → T.w d < 2 ^ 30) (jl : T.s 1 < 2 ^ 30) (jd : T.s 5 < 2 ^ 30) : Cr G l yX7_strikes wsX7_strikes ({ frames := 0, cells := 0, slots := 0, locals := 0 }) 0 0 [.ref h_, .long x_] [(h_, .inl (G.2.2.1, 103, .inr (.inl (mV T))))] (ctR (some (.int (nI (prB (ab x_) T.w (T.s 1))))) [(h_, .inl (G.2.2.1, 103, .inr (.inl (mV (sk7 T (ab x_))))))]) := by
  refine cr_intro (cc := cX7_strikes) (maxL := 10) (ret := (some .int)) (own := RX7) (by decide) rfl rfl (Nat.le_of_ble_eq_true rfl) ?_
  intro p e s m args below meth c A hx hb hr hml hts hown hlocks hnm hNX hP hK hD hA hS ls hl
  obtain ⟨RR, hRR⟩ : ∃ RR, RR = (ctR (some (.int (nI (prB (ab x_) T.w (T.s 1))))) [(h_, .inl (G.2.2.1, 103, .inr (.inl (mV (sk7 T (ab x_))))))]) := ⟨_, rfl⟩
  rw [← hRR]
  have hl : lv_has ls 10 [(0, .ref h_), (1, .long x_)] := hl
  refine lv_lload_n hx hb dX7_strikes_0 rfl (lv_at hl 1 rfl) ?_
  refine lv_lconst (v := lN 0) hx hb dX7_strikes_1 rfl ?_
  refine ks_lc_ge (tgt := 11) hx hb dX7_strikes_2 dX7_strikes_3 (by decide) (fun c_2 => ?_) (fun c_2 => ?_)
  · refine lv_lload_n hx hb dX7_strikes_11 rfl (lv_at hl 1 rfl) ?_
    refine ks_vL (show x_ = lN (ab x_) from ab_pos c_2) ?_
    refine lv_lstore_n (lv' := [(3, .long (lN (ab x_))), (0, .ref h_), (1, .long x_)]) hx hb dX7_strikes_12 rfl hl (by decide) rfl (fun ls hl => ?_)
    refine lv_iconst (v := nI 0) hx hb dX7_strikes_13 (by decide) ?_
    refine lv_istore (lv' := [(5, .int (nI 0)), (3, .long (lN (ab x_))), (0, .ref h_), (1, .long x_)]) hx hb dX7_strikes_14 hl (by decide) rfl (fun ls hl => ?_)
    refine lv_iconst (v := nI 1) hx hb dX7_strikes_16 (by decide) ?_
    refine lv_istore (lv' := [(6, .int (nI 1)), (5, .int (nI 0)), (3, .long (lN (ab x_))), (0, .ref h_), (1, .long x_)]) hx hb dX7_strikes_17 hl (by decide) rfl (fun ls hl => ?_)
    refine lv_lconst (v := lN 1) hx hb dX7_strikes_19 rfl ?_
    refine lv_lstore (lv' := [(7, .long (lN 1)), (6, .int (nI 1)), (5, .int (nI 0)), (3, .long (lN (ab x_))), (0, .ref h_), (1, .long x_)]) hx hb dX7_strikes_20 hl (by decide) rfl (fun ls hl => ?_)
    have L_22 : ∀ (n_22 : Nat) (u_ : Nat) (_ : 20 - u_ < n_22) (ju : u_ ≤ 18) (jz : ∀ j, 1 ≤ j → j < u_ + 1 → ab x_ / 10 ^ j ≠ 0) (Hq : Heap) (lcq : List Loc), va_P G.1 vwCl [(h_, .inl (G.2.2.1, 103, .inr (.inl (mV T))))] Hq → va_D A [(h_, .inl (G.2.2.1, 103, .inr (.inl (mV T))))] → va_S A s.heap Hq lcq → ∀ ls : Array Slot, lv_has ls 10 [(0, .ref h_), (1, .long x_), (3, .long (lN (ab x_))), (5, .int (nI 0)), (6, .int (nI 1)), (7, .long (lN (10 ^ u_)))] → W p l e ({ frames := 0, cells := 0, slots := 0, locals := 0 }) s m args below meth c Hq lcq 0 0 (MQ below (cr_Q G RR A) args s 0 0 A) (F0 m 22 ls []) := by
      intro n_22
      induction n_22 with
      | zero => intro u_ hmu_22; exact absurd hmu_22 (Nat.not_lt_zero _)
      | succ n_22 ih_22 =>
        intro u_ hmu_22 ju jz Hq lcq hP hD hS ls hl
        refine lv_lload_n hx hb dX7_strikes_22 rfl (lv_at hl 2 rfl) ?_
        have hu1 : 10 ^ u_ ≤ 10 ^ 18 := Nat.pow_le_pow_right (by decide) ju
        have hu0 : 0 < 10 ^ u_ := Nat.pow_pos (by decide)
        refine lv_lload hx hb dX7_strikes_23 (lv_at hl 5 rfl) ?_
        refine ks_ldivN hx hb dX7_strikes_25 (by omega) (by omega) (by omega) ?_
        refine lv_ldc2 hx hb hown (hts (.constantLong RX7 65 (10)) (List.mem_of_getElem? (i := 1) rfl)) dX7_strikes_26 ?_
        refine ks_vL (show (10 : Int64) = lN 10 from rfl) ?_
        refine ks_lcN_lt (tgt := 44) hx hb dX7_strikes_29 dX7_strikes_30 (by decide) (Nat.lt_of_le_of_lt (Nat.div_le_self _ _) jx) (by omega) (fun c_29 => ?_) (fun c_29 => ?_)
        · have hnd : nd (ab x_) = u_ + 1 := nd_of (by omega) (by rw [Nat.pow_succ, ← Nat.div_div_eq_div_mul]; exact Nat.div_eq_of_lt c_29) jz (by omega)
          have L_44 : ∀ (n_44 : Nat) (k_ : Nat) (mo : Nat) (un : Nat) (bl : Nat) (_ : 30 - k_ < n_44) (jm : (k_ ≤ u_ ∧ mo = 1 ∧ un = 10 ^ (u_ - k_)) ∨ (k_ = u_ + 1 ∧ mo = 0)) (jbl : blu (wah T.w (ab x_) u_ k_) (T.s 1) = blu T.w (T.s 1) + bl) (jbb : bl ≤ k_) (Hq : Heap) (lcq : List Loc), va_P G.1 vwCl [(h_, .inl (G.2.2.1, 103, .inr (.inl (mV (skA T (ab x_) u_ k_)))))] Hq → va_D A [(h_, .inl (G.2.2.1, 103, .inr (.inl (mV (skA T (ab x_) u_ k_)))))] → va_S A s.heap Hq lcq → ∀ ls : Array Slot, lv_has ls 10 [(0, .ref h_), (1, .long x_), (3, .long (lN (ab x_))), (5, .int (nI bl)), (6, .int (nI mo)), (7, .long (lN un))] → W p l e ({ frames := 0, cells := 0, slots := 0, locals := 0 }) s m args below meth c Hq lcq 0 0 (MQ below (cr_Q G RR A) args s 0 0 A) (F0 m 44 ls []) := by
            intro n_44
            induction n_44 with
            | zero => intro k_ mo un bl hmu_44; exact absurd hmu_44 (Nat.not_lt_zero _)
            | succ n_44 ih_44 =>
              intro k_ mo un bl hmu_44 jm jbl jbb Hq lcq hP hD hS ls hl
              refine lv_iload hx hb dX7_strikes_44 (lv_at hl 4 rfl) ?_
              refine ks_if_eq (tgt := 127) hx hb dX7_strikes_46 (by decide) (by omega) (fun c_46 => ?_) (fun c_46 => ?_)
              · obtain ⟨jk2, jk3⟩ : k_ = u_ + 1 ∧ mo = 0 := by omega
                subst jk2
                subst jk3
                have hbl : bl = prB (ab x_) T.w (T.s 1) := by unfold prB; rw [hnd, ← wah_e, jbl]; omega
                have hP := hP.cgJ 0 (g := mV (sk7 T (ab x_))) rfl (fun q9 h9 => by rw [skA_e T (ab x_) u_ hnd])
                have hD := hD.set (p := 0) (e := .inl (G.2.2.1, 103, .inr <| .inl (mV (sk7 T (ab x_))))) rfl
                have hP : va_P G.1 vwCl [(h_, .inl (G.2.2.1, 103, .inr (.inl (mV (sk7 T (ab x_))))))] _ := hP
                have hD : va_D A [(h_, .inl (G.2.2.1, 103, .inr (.inl (mV (sk7 T (ab x_))))))] := hD
                refine lv_iload hx hb dX7_strikes_127 (lv_at hl 3 rfl) ?_
                exact cr_iret hx hb hr hlocks hK hP hD hS dX7_strikes_129 (by rw [hRR]; exact ctR_i (congrArg nI hbl) (rfl))
              · have jm2 : k_ ≤ u_ ∧ mo = 1 ∧ un = 10 ^ (u_ - k_) := by omega
                obtain ⟨jk, rfl, rfl⟩ := jm2
                have ju2 : 10 ^ (u_ - k_) ≤ 10 ^ 18 := Nat.pow_le_pow_right (by decide) (by omega)
                have ju3 : 0 < 10 ^ (u_ - k_) := Nat.pow_pos (by decide)
                have jdt : dgt (ab x_) (u_ - k_) < 10 := dgt_lt _ _
                have jwh : wah T.w (ab x_) u_ k_ (dgt (ab x_) (u_ - k_)) ≤ T.w (dgt (ab x_) (u_ - k_)) + k_ := wah_le _ _ _ _ _
                have jwd := jw (dgt (ab x_) (u_ - k_)) jdt
                refine lv_lload_n hx hb dX7_strikes_49 rfl (lv_at hl 2 rfl) ?_
                refine lv_lload hx hb dX7_strikes_50 (lv_at hl 5 rfl) ?_
                refine ks_ldivN hx hb dX7_strikes_52 (by omega) (by omega) (by omega) ?_
                refine lv_ldc2 hx hb hown (hts (.constantLong RX7 65 (10)) (List.mem_of_getElem? (i := 1) rfl)) dX7_strikes_53 ?_
                refine ks_vL (show (10 : Int64) = lN 10 from rfl) ?_
                refine ks_lremN hx hb dX7_strikes_56 (Nat.lt_of_le_of_lt (Nat.div_le_self _ _) jx) (by omega) (by omega) ?_
                refine ks_l2iN hx hb dX7_strikes_57 ?_
                refine ks_vI (show nI (((ab x_) / (10 ^ (u_ - k_))) % 10) = nI (dgt (ab x_) (u_ - k_)) from rfl) ?_
                refine lv_istore (lv' := [(9, .int (nI (dgt (ab x_) (u_ - k_)))), (0, .ref h_), (1, .long x_), (3, .long (lN (ab x_))), (5, .int (nI bl)), (6, .int (nI 1)), (7, .long (lN (10 ^ (u_ - k_))))]) hx hb dX7_strikes_58 hl (by decide) rfl (fun ls hl => ?_)
                refine lv_aload_n hx hb dX7_strikes_60 rfl (lv_at hl 1 rfl) ?_
                refine lv_bipush (v := nI 13) hx hb dX7_strikes_61 (by decide) ?_
                refine lv_iload hx hb dX7_strikes_63 (lv_at hl 0 rfl) ?_
                refine ks_iaddN hx hb dX7_strikes_65 ?_
                refine lv_dup2_11 hx hb dX7_strikes_66 rfl rfl ?_
                refine ks_lald hx hb hK hP 0 rfl (by omega) (by decide) dX7_strikes_67 ?_
                refine ks_vL (show mV (skA T (ab x_) u_ k_) (13 + (dgt (ab x_) (u_ - k_))) = lN ((skA T (ab x_) u_ k_).w (dgt (ab x_) (u_ - k_))) from mV_w (j := (dgt (ab x_) (u_ - k_))) (jdt)) ?_
                refine lv_lconst (v := lN 1) hx hb dX7_strikes_68 rfl ?_
                refine ks_laddN hx hb dX7_strikes_69 ?_
                refine ks_last (f' := mV ((skA T (ab x_) u_ k_).setW (dgt (ab x_) (u_ - k_)) (((skA T (ab x_) u_ k_).w (dgt (ab x_) (u_ - k_))) + 1))) hx hb hK hP hD hS 0 rfl (by omega) (by decide) (mV_setW (jdt)) dX7_strikes_70 (fun Hq lcq hP hD hS => ?_)
                have hP : va_P G.1 vwCl [(h_, .inl (G.2.2.1, 103, .inr (.inl (mV ((skA T (ab x_) u_ k_).setW (dgt (ab x_) (u_ - k_)) (((skA T (ab x_) u_ k_).w (dgt (ab x_) (u_ - k_))) + 1))))))] _ := hP
                have hD : va_D A [(h_, .inl (G.2.2.1, 103, .inr (.inl (mV ((skA T (ab x_) u_ k_).setW (dgt (ab x_) (u_ - k_)) (((skA T (ab x_) u_ k_).w (dgt (ab x_) (u_ - k_))) + 1))))))] := hD
                refine lv_aload_n hx hb dX7_strikes_71 rfl (lv_at hl 1 rfl) ?_
                refine lv_iconst (v := nI 5) hx hb dX7_strikes_72 (by decide) ?_
                refine lv_dup2_11 hx hb dX7_strikes_73 rfl rfl ?_
                refine ks_lald hx hb hK hP 0 rfl (by omega) (by decide) dX7_strikes_74 ?_
                refine ks_vL (show mV ((skA T (ab x_) u_ k_).setW (dgt (ab x_) (u_ - k_)) (((skA T (ab x_) u_ k_).w (dgt (ab x_) (u_ - k_))) + 1)) 5 = lN (((skA T (ab x_) u_ k_).setW (dgt (ab x_) (u_ - k_)) (((skA T (ab x_) u_ k_).w (dgt (ab x_) (u_ - k_))) + 1)).s 5) from rfl) ?_
                refine lv_lconst (v := lN 1) hx hb dX7_strikes_75 rfl ?_
                refine ks_laddN hx hb dX7_strikes_76 ?_
                refine ks_last (f' := mV (((skA T (ab x_) u_ k_).setW (dgt (ab x_) (u_ - k_)) (((skA T (ab x_) u_ k_).w (dgt (ab x_) (u_ - k_))) + 1)).setS 5 ((((skA T (ab x_) u_ k_).setW (dgt (ab x_) (u_ - k_)) (((skA T (ab x_) u_ k_).w (dgt (ab x_) (u_ - k_))) + 1)).s 5) + 1))) hx hb hK hP hD hS 0 rfl (by omega) (by decide) (mV_setS (by decide)) dX7_strikes_77 (fun Hq lcq hP hD hS => ?_)
                have hP : va_P G.1 vwCl [(h_, .inl (G.2.2.1, 103, .inr (.inl (mV (((skA T (ab x_) u_ k_).setW (dgt (ab x_) (u_ - k_)) (((skA T (ab x_) u_ k_).w (dgt (ab x_) (u_ - k_))) + 1)).setS 5 ((((skA T (ab x_) u_ k_).setW (dgt (ab x_) (u_ - k_)) (((skA T (ab x_) u_ k_).w (dgt (ab x_) (u_ - k_))) + 1)).s 5) + 1))))))] _ := hP
                have hD : va_D A [(h_, .inl (G.2.2.1, 103, .inr (.inl (mV (((skA T (ab x_) u_ k_).setW (dgt (ab x_) (u_ - k_)) (((skA T (ab x_) u_ k_).w (dgt (ab x_) (u_ - k_))) + 1)).setS 5 ((((skA T (ab x_) u_ k_).setW (dgt (ab x_) (u_ - k_)) (((skA T (ab x_) u_ k_).w (dgt (ab x_) (u_ - k_))) + 1)).s 5) + 1))))))] := hD
                have hP := hP.cgJ 0 (g := mV (skA T (ab x_) u_ (k_ + 1))) rfl (fun q9 h9 => by rw [skA_s])
                have hD := hD.set (p := 0) (e := .inl (G.2.2.1, 103, .inr <| .inl (mV (skA T (ab x_) u_ (k_ + 1))))) rfl
                have hP : va_P G.1 vwCl [(h_, .inl (G.2.2.1, 103, .inr (.inl (mV (skA T (ab x_) u_ (k_ + 1))))))] _ := hP
                have hD : va_D A [(h_, .inl (G.2.2.1, 103, .inr (.inl (mV (skA T (ab x_) u_ (k_ + 1))))))] := hD
                refine lv_iload hx hb dX7_strikes_78 (lv_at hl 4 rfl) ?_
                refine lv_aload_n hx hb dX7_strikes_80 rfl (lv_at hl 1 rfl) ?_
                refine lv_bipush (v := nI 13) hx hb dX7_strikes_81 (by decide) ?_
                refine lv_iload hx hb dX7_strikes_83 (lv_at hl 0 rfl) ?_
                refine ks_iaddN hx hb dX7_strikes_85 ?_
                refine ks_lald hx hb hK hP 0 rfl (by omega) (by decide) dX7_strikes_86 ?_
                refine ks_vL (show mV (skA T (ab x_) u_ (k_ + 1)) (13 + (dgt (ab x_) (u_ - k_))) = lN ((skA T (ab x_) u_ (k_ + 1)).w (dgt (ab x_) (u_ - k_))) from mV_w (j := (dgt (ab x_) (u_ - k_))) (jdt)) ?_
                refine lv_aload_n hx hb dX7_strikes_87 rfl (lv_at hl 1 rfl) ?_
                refine lv_iconst (v := nI 1) hx hb dX7_strikes_88 (by decide) ?_
                refine ks_lald hx hb hK hP 0 rfl (by omega) (by decide) dX7_strikes_89 ?_
                refine ks_vL (show mV (skA T (ab x_) u_ (k_ + 1)) 1 = lN ((skA T (ab x_) u_ (k_ + 1)).s 1) from rfl) ?_
                refine ks_lcN_le (tgt := 98) hx hb dX7_strikes_90 dX7_strikes_91 (by decide) (show wah T.w (ab x_) u_ (k_ + 1) (dgt (ab x_) (u_ - k_)) < 2 ^ 63 from Nat.lt_of_le_of_lt (wah_le T.w (ab x_) u_ (k_ + 1) (dgt (ab x_) (u_ - k_))) (by omega)) (show T.s 1 < 2 ^ 63 by omega) (fun c_90 => ?_) (fun c_90 => ?_)
                · have jb2 : blu (wah T.w (ab x_) u_ (k_ + 1)) (T.s 1) = blu T.w (T.s 1) + (bl + 0) := by have z_ : wah T.w (ab x_) u_ (k_ + 1) (dgt (ab x_) (u_ - k_)) ≤ T.s 1 := c_90; rw [wah_d] at z_; rw [← wah_s, blu_s jdt, jbl, if_neg (by omega)]; omega
                  refine lv_iconst (v := nI 0) hx hb dX7_strikes_98 (by decide) ?_
                  refine ks_iaddN hx hb dX7_strikes_99 ?_
                  refine lv_istore (lv' := [(5, .int (nI (bl + 0))), (9, .int (nI (dgt (ab x_) (u_ - k_)))), (0, .ref h_), (1, .long x_), (3, .long (lN (ab x_))), (6, .int (nI 1)), (7, .long (lN (10 ^ (u_ - k_))))]) hx hb dX7_strikes_100 hl (by decide) rfl (fun ls hl => ?_)
                  refine lv_lload hx hb dX7_strikes_102 (lv_at hl 6 rfl) ?_
                  refine lv_lconst (v := lN 1) hx hb dX7_strikes_104 rfl ?_
                  refine ks_lcN_le (tgt := 113) hx hb dX7_strikes_105 dX7_strikes_106 (by decide) (by omega) (by omega) (fun c_105 => ?_) (fun c_105 => ?_)
                  · have jm3 : (k_ + 1 ≤ u_ ∧ (0 : Nat) = 1 ∧ 10 ^ (u_ - k_) / 10 = 10 ^ (u_ - (k_ + 1))) ∨ (k_ + 1 = u_ + 1 ∧ (0 : Nat) = 0) := Or.inr ⟨by have z_ := p10_le c_105; omega, rfl⟩
                    refine lv_iconst (v := nI 0) hx hb dX7_strikes_113 (by decide) ?_
                    refine lv_istore (lv' := [(6, .int (nI 0)), (5, .int (nI (bl + 0))), (9, .int (nI (dgt (ab x_) (u_ - k_)))), (0, .ref h_), (1, .long x_), (3, .long (lN (ab x_))), (7, .long (lN (10 ^ (u_ - k_))))]) hx hb dX7_strikes_114 hl (by decide) rfl (fun ls hl => ?_)
                    refine lv_lload hx hb dX7_strikes_116 (lv_at hl 6 rfl) ?_
                    refine lv_ldc2 hx hb hown (hts (.constantLong RX7 65 (10)) (List.mem_of_getElem? (i := 1) rfl)) dX7_strikes_118 ?_
                    refine ks_vL (show (10 : Int64) = lN 10 from rfl) ?_
                    refine ks_ldivN hx hb dX7_strikes_121 (by omega) (by omega) (by omega) ?_
                    refine lv_lstore (lv' := [(7, .long (lN ((10 ^ (u_ - k_)) / 10))), (6, .int (nI 0)), (5, .int (nI (bl + 0))), (9, .int (nI (dgt (ab x_) (u_ - k_)))), (0, .ref h_), (1, .long x_), (3, .long (lN (ab x_)))]) hx hb dX7_strikes_122 hl (by decide) rfl (fun ls hl => ?_)
                    refine lv_goto (tgt := 44) hx hb dX7_strikes_124 (by decide) ?_
                    exact ih_44  (k_ + 1) 0 ((10 ^ (u_ - k_)) / 10) (bl + 0) (by omega) (jm3) (jb2) (by omega) _ _ hP hD hS ls (lv_sub hl [4, 5, 6, 2, 1, 0] rfl)
                  · have jk3 : k_ + 1 ≤ u_ := by have z_ := p10_gt c_105; omega
                    have jm3 : (k_ + 1 ≤ u_ ∧ (1 : Nat) = 1 ∧ 10 ^ (u_ - k_) / 10 = 10 ^ (u_ - (k_ + 1))) ∨ (k_ + 1 = u_ + 1 ∧ (1 : Nat) = 0) := Or.inl ⟨jk3, rfl, by rw [pow_dv (by omega), Nat.sub_sub]⟩
                    refine lv_iconst (v := nI 1) hx hb dX7_strikes_109 (by decide) ?_
                    refine lv_goto (tgt := 114) hx hb dX7_strikes_110 (by decide) ?_
                    refine lv_istore (lv' := [(6, .int (nI 1)), (5, .int (nI (bl + 0))), (9, .int (nI (dgt (ab x_) (u_ - k_)))), (0, .ref h_), (1, .long x_), (3, .long (lN (ab x_))), (7, .long (lN (10 ^ (u_ - k_))))]) hx hb dX7_strikes_114 hl (by decide) rfl (fun ls hl => ?_)
                    refine lv_lload hx hb dX7_strikes_116 (lv_at hl 6 rfl) ?_
                    refine lv_ldc2 hx hb hown (hts (.constantLong RX7 65 (10)) (List.mem_of_getElem? (i := 1) rfl)) dX7_strikes_118 ?_
                    refine ks_vL (show (10 : Int64) = lN 10 from rfl) ?_
                    refine ks_ldivN hx hb dX7_strikes_121 (by omega) (by omega) (by omega) ?_
                    refine lv_lstore (lv' := [(7, .long (lN ((10 ^ (u_ - k_)) / 10))), (6, .int (nI 1)), (5, .int (nI (bl + 0))), (9, .int (nI (dgt (ab x_) (u_ - k_)))), (0, .ref h_), (1, .long x_), (3, .long (lN (ab x_)))]) hx hb dX7_strikes_122 hl (by decide) rfl (fun ls hl => ?_)
                    refine lv_goto (tgt := 44) hx hb dX7_strikes_124 (by decide) ?_
                    exact ih_44  (k_ + 1) 1 ((10 ^ (u_ - k_)) / 10) (bl + 0) (by omega) (jm3) (jb2) (by omega) _ _ hP hD hS ls (lv_sub hl [4, 5, 6, 2, 1, 0] rfl)
                · have jb2 : blu (wah T.w (ab x_) u_ (k_ + 1)) (T.s 1) = blu T.w (T.s 1) + (bl + 1) := by have z_ : T.s 1 < wah T.w (ab x_) u_ (k_ + 1) (dgt (ab x_) (u_ - k_)) := c_90; rw [wah_d] at z_; rw [← wah_s, blu_s jdt, jbl, if_pos (by omega)]; omega
                  refine lv_iconst (v := nI 1) hx hb dX7_strikes_94 (by decide) ?_
                  refine lv_goto (tgt := 99) hx hb dX7_strikes_95 (by decide) ?_
                  refine ks_iaddN hx hb dX7_strikes_99 ?_
                  refine lv_istore (lv' := [(5, .int (nI (bl + 1))), (9, .int (nI (dgt (ab x_) (u_ - k_)))), (0, .ref h_), (1, .long x_), (3, .long (lN (ab x_))), (6, .int (nI 1)), (7, .long (lN (10 ^ (u_ - k_))))]) hx hb dX7_strikes_100 hl (by decide) rfl (fun ls hl => ?_)
                  refine lv_lload hx hb dX7_strikes_102 (lv_at hl 6 rfl) ?_
                  refine lv_lconst (v := lN 1) hx hb dX7_strikes_104 rfl ?_
                  refine ks_lcN_le (tgt := 113) hx hb dX7_strikes_105 dX7_strikes_106 (by decide) (by omega) (by omega) (fun c_105 => ?_) (fun c_105 => ?_)
                  · have jm3 : (k_ + 1 ≤ u_ ∧ (0 : Nat) = 1 ∧ 10 ^ (u_ - k_) / 10 = 10 ^ (u_ - (k_ + 1))) ∨ (k_ + 1 = u_ + 1 ∧ (0 : Nat) = 0) := Or.inr ⟨by have z_ := p10_le c_105; omega, rfl⟩
                    refine lv_iconst (v := nI 0) hx hb dX7_strikes_113 (by decide) ?_
                    refine lv_istore (lv' := [(6, .int (nI 0)), (5, .int (nI (bl + 1))), (9, .int (nI (dgt (ab x_) (u_ - k_)))), (0, .ref h_), (1, .long x_), (3, .long (lN (ab x_))), (7, .long (lN (10 ^ (u_ - k_))))]) hx hb dX7_strikes_114 hl (by decide) rfl (fun ls hl => ?_)
                    refine lv_lload hx hb dX7_strikes_116 (lv_at hl 6 rfl) ?_
                    refine lv_ldc2 hx hb hown (hts (.constantLong RX7 65 (10)) (List.mem_of_getElem? (i := 1) rfl)) dX7_strikes_118 ?_
                    refine ks_vL (show (10 : Int64) = lN 10 from rfl) ?_
                    refine ks_ldivN hx hb dX7_strikes_121 (by omega) (by omega) (by omega) ?_
                    refine lv_lstore (lv' := [(7, .long (lN ((10 ^ (u_ - k_)) / 10))), (6, .int (nI 0)), (5, .int (nI (bl + 1))), (9, .int (nI (dgt (ab x_) (u_ - k_)))), (0, .ref h_), (1, .long x_), (3, .long (lN (ab x_)))]) hx hb dX7_strikes_122 hl (by decide) rfl (fun ls hl => ?_)
                    refine lv_goto (tgt := 44) hx hb dX7_strikes_124 (by decide) ?_
                    exact ih_44  (k_ + 1) 0 ((10 ^ (u_ - k_)) / 10) (bl + 1) (by omega) (jm3) (jb2) (by omega) _ _ hP hD hS ls (lv_sub hl [4, 5, 6, 2, 1, 0] rfl)
                  · have jk3 : k_ + 1 ≤ u_ := by have z_ := p10_gt c_105; omega
                    have jm3 : (k_ + 1 ≤ u_ ∧ (1 : Nat) = 1 ∧ 10 ^ (u_ - k_) / 10 = 10 ^ (u_ - (k_ + 1))) ∨ (k_ + 1 = u_ + 1 ∧ (1 : Nat) = 0) := Or.inl ⟨jk3, rfl, by rw [pow_dv (by omega), Nat.sub_sub]⟩
                    refine lv_iconst (v := nI 1) hx hb dX7_strikes_109 (by decide) ?_
                    refine lv_goto (tgt := 114) hx hb dX7_strikes_110 (by decide) ?_
                    refine lv_istore (lv' := [(6, .int (nI 1)), (5, .int (nI (bl + 1))), (9, .int (nI (dgt (ab x_) (u_ - k_)))), (0, .ref h_), (1, .long x_), (3, .long (lN (ab x_))), (7, .long (lN (10 ^ (u_ - k_))))]) hx hb dX7_strikes_114 hl (by decide) rfl (fun ls hl => ?_)
                    refine lv_lload hx hb dX7_strikes_116 (lv_at hl 6 rfl) ?_
                    refine lv_ldc2 hx hb hown (hts (.constantLong RX7 65 (10)) (List.mem_of_getElem? (i := 1) rfl)) dX7_strikes_118 ?_
                    refine ks_vL (show (10 : Int64) = lN 10 from rfl) ?_
                    refine ks_ldivN hx hb dX7_strikes_121 (by omega) (by omega) (by omega) ?_
                    refine lv_lstore (lv' := [(7, .long (lN ((10 ^ (u_ - k_)) / 10))), (6, .int (nI 1)), (5, .int (nI (bl + 1))), (9, .int (nI (dgt (ab x_) (u_ - k_)))), (0, .ref h_), (1, .long x_), (3, .long (lN (ab x_)))]) hx hb dX7_strikes_122 hl (by decide) rfl (fun ls hl => ?_)
                    refine lv_goto (tgt := 44) hx hb dX7_strikes_124 (by decide) ?_
                    exact ih_44  (k_ + 1) 1 ((10 ^ (u_ - k_)) / 10) (bl + 1) (by omega) (jm3) (jb2) (by omega) _ _ hP hD hS ls (lv_sub hl [4, 5, 6, 2, 1, 0] rfl)
          rw [← skA_0 T (ab x_) u_] at hP hD
          exact L_44 _ 0 1 (10 ^ u_) 0 (Nat.lt_succ_self _) (Or.inl ⟨Nat.zero_le _, rfl, rfl⟩) (rfl) (by omega) _ _ hP hD hS ls (lv_sub hl [0, 1, 2, 3, 4, 5] rfl)
        · have jz1 : ab x_ / 10 ^ (u_ + 1) ≠ 0 := by rw [Nat.pow_succ, ← Nat.div_div_eq_div_mul]; exact fun z_ => absurd (Nat.div_eq_zero_iff.mp z_) (by omega)
          have ju4 : u_ + 1 ≤ 18 := pow_le18 jz1 jx
          have jz2 : ∀ j, 1 ≤ j → j < u_ + 1 + 1 → ab x_ / 10 ^ j ≠ 0 := fun j h1 h2 => (Nat.lt_or_ge j (u_ + 1)).elim (fun z_ => jz j h1 z_) (fun z_ => by rw [show j = u_ + 1 by omega]; exact jz1)
          refine lv_lload hx hb dX7_strikes_33 (lv_at hl 5 rfl) ?_
          refine lv_ldc2 hx hb hown (hts (.constantLong RX7 65 (10)) (List.mem_of_getElem? (i := 1) rfl)) dX7_strikes_35 ?_
          refine ks_vL (show (10 : Int64) = lN 10 from rfl) ?_
          refine ks_lmulN hx hb dX7_strikes_38 ?_
          refine lv_lstore (lv' := [(7, .long (lN ((10 ^ u_) * 10))), (0, .ref h_), (1, .long x_), (3, .long (lN (ab x_))), (5, .int (nI 0)), (6, .int (nI 1))]) hx hb dX7_strikes_39 hl (by decide) rfl (fun ls hl => ?_)
          refine lv_goto (tgt := 22) hx hb dX7_strikes_41 (by decide) ?_
          exact ih_22  (u_ + 1) (by omega) (ju4) (jz2) _ _ hP hD hS ls (lv_sub hl [1, 2, 3, 4, 5, 0] rfl)
    exact L_22 _ 0 (Nat.lt_succ_self _) (by omega) (fun j h1 h2 => absurd h1 (by omega)) _ _ hP hD hS ls (lv_sub hl [4, 5, 3, 2, 1, 0] rfl)
  · refine lv_lload_n hx hb dX7_strikes_6 rfl (lv_at hl 1 rfl) ?_
    refine lv_lneg hx hb dX7_strikes_7 ?_
    refine lv_goto (tgt := 12) hx hb dX7_strikes_8 (by decide) ?_
    refine ks_vL (show -x_ = lN (ab x_) from ab_n7 (Int64.not_le.mpr c_2) jx) ?_
    refine lv_lstore_n (lv' := [(3, .long (lN (ab x_))), (0, .ref h_), (1, .long x_)]) hx hb dX7_strikes_12 rfl hl (by decide) rfl (fun ls hl => ?_)
    refine lv_iconst (v := nI 0) hx hb dX7_strikes_13 (by decide) ?_
    refine lv_istore (lv' := [(5, .int (nI 0)), (3, .long (lN (ab x_))), (0, .ref h_), (1, .long x_)]) hx hb dX7_strikes_14 hl (by decide) rfl (fun ls hl => ?_)
    refine lv_iconst (v := nI 1) hx hb dX7_strikes_16 (by decide) ?_
    refine lv_istore (lv' := [(6, .int (nI 1)), (5, .int (nI 0)), (3, .long (lN (ab x_))), (0, .ref h_), (1, .long x_)]) hx hb dX7_strikes_17 hl (by decide) rfl (fun ls hl => ?_)
    refine lv_lconst (v := lN 1) hx hb dX7_strikes_19 rfl ?_
    refine lv_lstore (lv' := [(7, .long (lN 1)), (6, .int (nI 1)), (5, .int (nI 0)), (3, .long (lN (ab x_))), (0, .ref h_), (1, .long x_)]) hx hb dX7_strikes_20 hl (by decide) rfl (fun ls hl => ?_)
    have L_22 : ∀ (n_22 : Nat) (u_ : Nat) (_ : 20 - u_ < n_22) (ju : u_ ≤ 18) (jz : ∀ j, 1 ≤ j → j < u_ + 1 → ab x_ / 10 ^ j ≠ 0) (Hq : Heap) (lcq : List Loc), va_P G.1 vwCl [(h_, .inl (G.2.2.1, 103, .inr (.inl (mV T))))] Hq → va_D A [(h_, .inl (G.2.2.1, 103, .inr (.inl (mV T))))] → va_S A s.heap Hq lcq → ∀ ls : Array Slot, lv_has ls 10 [(0, .ref h_), (1, .long x_), (3, .long (lN (ab x_))), (5, .int (nI 0)), (6, .int (nI 1)), (7, .long (lN (10 ^ u_)))] → W p l e ({ frames := 0, cells := 0, slots := 0, locals := 0 }) s m args below meth c Hq lcq 0 0 (MQ below (cr_Q G RR A) args s 0 0 A) (F0 m 22 ls []) := by
      intro n_22
      induction n_22 with
      | zero => intro u_ hmu_22; exact absurd hmu_22 (Nat.not_lt_zero _)
      | succ n_22 ih_22 =>
        intro u_ hmu_22 ju jz Hq lcq hP hD hS ls hl
        refine lv_lload_n hx hb dX7_strikes_22 rfl (lv_at hl 2 rfl) ?_
        have hu1 : 10 ^ u_ ≤ 10 ^ 18 := Nat.pow_le_pow_right (by decide) ju
        have hu0 : 0 < 10 ^ u_ := Nat.pow_pos (by decide)
        refine lv_lload hx hb dX7_strikes_23 (lv_at hl 5 rfl) ?_
        refine ks_ldivN hx hb dX7_strikes_25 (by omega) (by omega) (by omega) ?_
        refine lv_ldc2 hx hb hown (hts (.constantLong RX7 65 (10)) (List.mem_of_getElem? (i := 1) rfl)) dX7_strikes_26 ?_
        refine ks_vL (show (10 : Int64) = lN 10 from rfl) ?_
        refine ks_lcN_lt (tgt := 44) hx hb dX7_strikes_29 dX7_strikes_30 (by decide) (Nat.lt_of_le_of_lt (Nat.div_le_self _ _) jx) (by omega) (fun c_29 => ?_) (fun c_29 => ?_)
        · have hnd : nd (ab x_) = u_ + 1 := nd_of (by omega) (by rw [Nat.pow_succ, ← Nat.div_div_eq_div_mul]; exact Nat.div_eq_of_lt c_29) jz (by omega)
          have L_44 : ∀ (n_44 : Nat) (k_ : Nat) (mo : Nat) (un : Nat) (bl : Nat) (_ : 30 - k_ < n_44) (jm : (k_ ≤ u_ ∧ mo = 1 ∧ un = 10 ^ (u_ - k_)) ∨ (k_ = u_ + 1 ∧ mo = 0)) (jbl : blu (wah T.w (ab x_) u_ k_) (T.s 1) = blu T.w (T.s 1) + bl) (jbb : bl ≤ k_) (Hq : Heap) (lcq : List Loc), va_P G.1 vwCl [(h_, .inl (G.2.2.1, 103, .inr (.inl (mV (skA T (ab x_) u_ k_)))))] Hq → va_D A [(h_, .inl (G.2.2.1, 103, .inr (.inl (mV (skA T (ab x_) u_ k_)))))] → va_S A s.heap Hq lcq → ∀ ls : Array Slot, lv_has ls 10 [(0, .ref h_), (1, .long x_), (3, .long (lN (ab x_))), (5, .int (nI bl)), (6, .int (nI mo)), (7, .long (lN un))] → W p l e ({ frames := 0, cells := 0, slots := 0, locals := 0 }) s m args below meth c Hq lcq 0 0 (MQ below (cr_Q G RR A) args s 0 0 A) (F0 m 44 ls []) := by
            intro n_44
            induction n_44 with
            | zero => intro k_ mo un bl hmu_44; exact absurd hmu_44 (Nat.not_lt_zero _)
            | succ n_44 ih_44 =>
              intro k_ mo un bl hmu_44 jm jbl jbb Hq lcq hP hD hS ls hl
              refine lv_iload hx hb dX7_strikes_44 (lv_at hl 4 rfl) ?_
              refine ks_if_eq (tgt := 127) hx hb dX7_strikes_46 (by decide) (by omega) (fun c_46 => ?_) (fun c_46 => ?_)
              · obtain ⟨jk2, jk3⟩ : k_ = u_ + 1 ∧ mo = 0 := by omega
                subst jk2
                subst jk3
                have hbl : bl = prB (ab x_) T.w (T.s 1) := by unfold prB; rw [hnd, ← wah_e, jbl]; omega
                have hP := hP.cgJ 0 (g := mV (sk7 T (ab x_))) rfl (fun q9 h9 => by rw [skA_e T (ab x_) u_ hnd])
                have hD := hD.set (p := 0) (e := .inl (G.2.2.1, 103, .inr <| .inl (mV (sk7 T (ab x_))))) rfl
                have hP : va_P G.1 vwCl [(h_, .inl (G.2.2.1, 103, .inr (.inl (mV (sk7 T (ab x_))))))] _ := hP
                have hD : va_D A [(h_, .inl (G.2.2.1, 103, .inr (.inl (mV (sk7 T (ab x_))))))] := hD
                refine lv_iload hx hb dX7_strikes_127 (lv_at hl 3 rfl) ?_
                exact cr_iret hx hb hr hlocks hK hP hD hS dX7_strikes_129 (by rw [hRR]; exact ctR_i (congrArg nI hbl) (rfl))
              · have jm2 : k_ ≤ u_ ∧ mo = 1 ∧ un = 10 ^ (u_ - k_) := by omega
                obtain ⟨jk, rfl, rfl⟩ := jm2
                have ju2 : 10 ^ (u_ - k_) ≤ 10 ^ 18 := Nat.pow_le_pow_right (by decide) (by omega)
                have ju3 : 0 < 10 ^ (u_ - k_) := Nat.pow_pos (by decide)
                have jdt : dgt (ab x_) (u_ - k_) < 10 := dgt_lt _ _
                have jwh : wah T.w (ab x_) u_ k_ (dgt (ab x_) (u_ - k_)) ≤ T.w (dgt (ab x_) (u_ - k_)) + k_ := wah_le _ _ _ _ _
                have jwd := jw (dgt (ab x_) (u_ - k_)) jdt
                refine lv_lload_n hx hb dX7_strikes_49 rfl (lv_at hl 2 rfl) ?_
                refine lv_lload hx hb dX7_strikes_50 (lv_at hl 5 rfl) ?_
                refine ks_ldivN hx hb dX7_strikes_52 (by omega) (by omega) (by omega) ?_
                refine lv_ldc2 hx hb hown (hts (.constantLong RX7 65 (10)) (List.mem_of_getElem? (i := 1) rfl)) dX7_strikes_53 ?_
                refine ks_vL (show (10 : Int64) = lN 10 from rfl) ?_
                refine ks_lremN hx hb dX7_strikes_56 (Nat.lt_of_le_of_lt (Nat.div_le_self _ _) jx) (by omega) (by omega) ?_
                refine ks_l2iN hx hb dX7_strikes_57 ?_
                refine ks_vI (show nI (((ab x_) / (10 ^ (u_ - k_))) % 10) = nI (dgt (ab x_) (u_ - k_)) from rfl) ?_
                refine lv_istore (lv' := [(9, .int (nI (dgt (ab x_) (u_ - k_)))), (0, .ref h_), (1, .long x_), (3, .long (lN (ab x_))), (5, .int (nI bl)), (6, .int (nI 1)), (7, .long (lN (10 ^ (u_ - k_))))]) hx hb dX7_strikes_58 hl (by decide) rfl (fun ls hl => ?_)
                refine lv_aload_n hx hb dX7_strikes_60 rfl (lv_at hl 1 rfl) ?_
                refine lv_bipush (v := nI 13) hx hb dX7_strikes_61 (by decide) ?_
                refine lv_iload hx hb dX7_strikes_63 (lv_at hl 0 rfl) ?_
                refine ks_iaddN hx hb dX7_strikes_65 ?_
                refine lv_dup2_11 hx hb dX7_strikes_66 rfl rfl ?_
                refine ks_lald hx hb hK hP 0 rfl (by omega) (by decide) dX7_strikes_67 ?_
                refine ks_vL (show mV (skA T (ab x_) u_ k_) (13 + (dgt (ab x_) (u_ - k_))) = lN ((skA T (ab x_) u_ k_).w (dgt (ab x_) (u_ - k_))) from mV_w (j := (dgt (ab x_) (u_ - k_))) (jdt)) ?_
                refine lv_lconst (v := lN 1) hx hb dX7_strikes_68 rfl ?_
                refine ks_laddN hx hb dX7_strikes_69 ?_
                refine ks_last (f' := mV ((skA T (ab x_) u_ k_).setW (dgt (ab x_) (u_ - k_)) (((skA T (ab x_) u_ k_).w (dgt (ab x_) (u_ - k_))) + 1))) hx hb hK hP hD hS 0 rfl (by omega) (by decide) (mV_setW (jdt)) dX7_strikes_70 (fun Hq lcq hP hD hS => ?_)
                have hP : va_P G.1 vwCl [(h_, .inl (G.2.2.1, 103, .inr (.inl (mV ((skA T (ab x_) u_ k_).setW (dgt (ab x_) (u_ - k_)) (((skA T (ab x_) u_ k_).w (dgt (ab x_) (u_ - k_))) + 1))))))] _ := hP
                have hD : va_D A [(h_, .inl (G.2.2.1, 103, .inr (.inl (mV ((skA T (ab x_) u_ k_).setW (dgt (ab x_) (u_ - k_)) (((skA T (ab x_) u_ k_).w (dgt (ab x_) (u_ - k_))) + 1))))))] := hD
                refine lv_aload_n hx hb dX7_strikes_71 rfl (lv_at hl 1 rfl) ?_
                refine lv_iconst (v := nI 5) hx hb dX7_strikes_72 (by decide) ?_
                refine lv_dup2_11 hx hb dX7_strikes_73 rfl rfl ?_
                refine ks_lald hx hb hK hP 0 rfl (by omega) (by decide) dX7_strikes_74 ?_
                refine ks_vL (show mV ((skA T (ab x_) u_ k_).setW (dgt (ab x_) (u_ - k_)) (((skA T (ab x_) u_ k_).w (dgt (ab x_) (u_ - k_))) + 1)) 5 = lN (((skA T (ab x_) u_ k_).setW (dgt (ab x_) (u_ - k_)) (((skA T (ab x_) u_ k_).w (dgt (ab x_) (u_ - k_))) + 1)).s 5) from rfl) ?_
                refine lv_lconst (v := lN 1) hx hb dX7_strikes_75 rfl ?_
                refine ks_laddN hx hb dX7_strikes_76 ?_
                refine ks_last (f' := mV (((skA T (ab x_) u_ k_).setW (dgt (ab x_) (u_ - k_)) (((skA T (ab x_) u_ k_).w (dgt (ab x_) (u_ - k_))) + 1)).setS 5 ((((skA T (ab x_) u_ k_).setW (dgt (ab x_) (u_ - k_)) (((skA T (ab x_) u_ k_).w (dgt (ab x_) (u_ - k_))) + 1)).s 5) + 1))) hx hb hK hP hD hS 0 rfl (by omega) (by decide) (mV_setS (by decide)) dX7_strikes_77 (fun Hq lcq hP hD hS => ?_)
                have hP : va_P G.1 vwCl [(h_, .inl (G.2.2.1, 103, .inr (.inl (mV (((skA T (ab x_) u_ k_).setW (dgt (ab x_) (u_ - k_)) (((skA T (ab x_) u_ k_).w (dgt (ab x_) (u_ - k_))) + 1)).setS 5 ((((skA T (ab x_) u_ k_).setW (dgt (ab x_) (u_ - k_)) (((skA T (ab x_) u_ k_).w (dgt (ab x_) (u_ - k_))) + 1)).s 5) + 1))))))] _ := hP
                have hD : va_D A [(h_, .inl (G.2.2.1, 103, .inr (.inl (mV (((skA T (ab x_) u_ k_).setW (dgt (ab x_) (u_ - k_)) (((skA T (ab x_) u_ k_).w (dgt (ab x_) (u_ - k_))) + 1)).setS 5 ((((skA T (ab x_) u_ k_).setW (dgt (ab x_) (u_ - k_)) (((skA T (ab x_) u_ k_).w (dgt (ab x_) (u_ - k_))) + 1)).s 5) + 1))))))] := hD
                have hP := hP.cgJ 0 (g := mV (skA T (ab x_) u_ (k_ + 1))) rfl (fun q9 h9 => by rw [skA_s])
                have hD := hD.set (p := 0) (e := .inl (G.2.2.1, 103, .inr <| .inl (mV (skA T (ab x_) u_ (k_ + 1))))) rfl
                have hP : va_P G.1 vwCl [(h_, .inl (G.2.2.1, 103, .inr (.inl (mV (skA T (ab x_) u_ (k_ + 1))))))] _ := hP
                have hD : va_D A [(h_, .inl (G.2.2.1, 103, .inr (.inl (mV (skA T (ab x_) u_ (k_ + 1))))))] := hD
                refine lv_iload hx hb dX7_strikes_78 (lv_at hl 4 rfl) ?_
                refine lv_aload_n hx hb dX7_strikes_80 rfl (lv_at hl 1 rfl) ?_
                refine lv_bipush (v := nI 13) hx hb dX7_strikes_81 (by decide) ?_
                refine lv_iload hx hb dX7_strikes_83 (lv_at hl 0 rfl) ?_
                refine ks_iaddN hx hb dX7_strikes_85 ?_
                refine ks_lald hx hb hK hP 0 rfl (by omega) (by decide) dX7_strikes_86 ?_
                refine ks_vL (show mV (skA T (ab x_) u_ (k_ + 1)) (13 + (dgt (ab x_) (u_ - k_))) = lN ((skA T (ab x_) u_ (k_ + 1)).w (dgt (ab x_) (u_ - k_))) from mV_w (j := (dgt (ab x_) (u_ - k_))) (jdt)) ?_
                refine lv_aload_n hx hb dX7_strikes_87 rfl (lv_at hl 1 rfl) ?_
                refine lv_iconst (v := nI 1) hx hb dX7_strikes_88 (by decide) ?_
                refine ks_lald hx hb hK hP 0 rfl (by omega) (by decide) dX7_strikes_89 ?_
                refine ks_vL (show mV (skA T (ab x_) u_ (k_ + 1)) 1 = lN ((skA T (ab x_) u_ (k_ + 1)).s 1) from rfl) ?_
                refine ks_lcN_le (tgt := 98) hx hb dX7_strikes_90 dX7_strikes_91 (by decide) (show wah T.w (ab x_) u_ (k_ + 1) (dgt (ab x_) (u_ - k_)) < 2 ^ 63 from Nat.lt_of_le_of_lt (wah_le T.w (ab x_) u_ (k_ + 1) (dgt (ab x_) (u_ - k_))) (by omega)) (show T.s 1 < 2 ^ 63 by omega) (fun c_90 => ?_) (fun c_90 => ?_)
                · have jb2 : blu (wah T.w (ab x_) u_ (k_ + 1)) (T.s 1) = blu T.w (T.s 1) + (bl + 0) := by have z_ : wah T.w (ab x_) u_ (k_ + 1) (dgt (ab x_) (u_ - k_)) ≤ T.s 1 := c_90; rw [wah_d] at z_; rw [← wah_s, blu_s jdt, jbl, if_neg (by omega)]; omega
                  refine lv_iconst (v := nI 0) hx hb dX7_strikes_98 (by decide) ?_
                  refine ks_iaddN hx hb dX7_strikes_99 ?_
                  refine lv_istore (lv' := [(5, .int (nI (bl + 0))), (9, .int (nI (dgt (ab x_) (u_ - k_)))), (0, .ref h_), (1, .long x_), (3, .long (lN (ab x_))), (6, .int (nI 1)), (7, .long (lN (10 ^ (u_ - k_))))]) hx hb dX7_strikes_100 hl (by decide) rfl (fun ls hl => ?_)
                  refine lv_lload hx hb dX7_strikes_102 (lv_at hl 6 rfl) ?_
                  refine lv_lconst (v := lN 1) hx hb dX7_strikes_104 rfl ?_
                  refine ks_lcN_le (tgt := 113) hx hb dX7_strikes_105 dX7_strikes_106 (by decide) (by omega) (by omega) (fun c_105 => ?_) (fun c_105 => ?_)
                  · have jm3 : (k_ + 1 ≤ u_ ∧ (0 : Nat) = 1 ∧ 10 ^ (u_ - k_) / 10 = 10 ^ (u_ - (k_ + 1))) ∨ (k_ + 1 = u_ + 1 ∧ (0 : Nat) = 0) := Or.inr ⟨by have z_ := p10_le c_105; omega, rfl⟩
                    refine lv_iconst (v := nI 0) hx hb dX7_strikes_113 (by decide) ?_
                    refine lv_istore (lv' := [(6, .int (nI 0)), (5, .int (nI (bl + 0))), (9, .int (nI (dgt (ab x_) (u_ - k_)))), (0, .ref h_), (1, .long x_), (3, .long (lN (ab x_))), (7, .long (lN (10 ^ (u_ - k_))))]) hx hb dX7_strikes_114 hl (by decide) rfl (fun ls hl => ?_)
                    refine lv_lload hx hb dX7_strikes_116 (lv_at hl 6 rfl) ?_
                    refine lv_ldc2 hx hb hown (hts (.constantLong RX7 65 (10)) (List.mem_of_getElem? (i := 1) rfl)) dX7_strikes_118 ?_
                    refine ks_vL (show (10 : Int64) = lN 10 from rfl) ?_
                    refine ks_ldivN hx hb dX7_strikes_121 (by omega) (by omega) (by omega) ?_
                    refine lv_lstore (lv' := [(7, .long (lN ((10 ^ (u_ - k_)) / 10))), (6, .int (nI 0)), (5, .int (nI (bl + 0))), (9, .int (nI (dgt (ab x_) (u_ - k_)))), (0, .ref h_), (1, .long x_), (3, .long (lN (ab x_)))]) hx hb dX7_strikes_122 hl (by decide) rfl (fun ls hl => ?_)
                    refine lv_goto (tgt := 44) hx hb dX7_strikes_124 (by decide) ?_
                    exact ih_44  (k_ + 1) 0 ((10 ^ (u_ - k_)) / 10) (bl + 0) (by omega) (jm3) (jb2) (by omega) _ _ hP hD hS ls (lv_sub hl [4, 5, 6, 2, 1, 0] rfl)
                  · have jk3 : k_ + 1 ≤ u_ := by have z_ := p10_gt c_105; omega
                    have jm3 : (k_ + 1 ≤ u_ ∧ (1 : Nat) = 1 ∧ 10 ^ (u_ - k_) / 10 = 10 ^ (u_ - (k_ + 1))) ∨ (k_ + 1 = u_ + 1 ∧ (1 : Nat) = 0) := Or.inl ⟨jk3, rfl, by rw [pow_dv (by omega), Nat.sub_sub]⟩
                    refine lv_iconst (v := nI 1) hx hb dX7_strikes_109 (by decide) ?_
                    refine lv_goto (tgt := 114) hx hb dX7_strikes_110 (by decide) ?_
                    refine lv_istore (lv' := [(6, .int (nI 1)), (5, .int (nI (bl + 0))), (9, .int (nI (dgt (ab x_) (u_ - k_)))), (0, .ref h_), (1, .long x_), (3, .long (lN (ab x_))), (7, .long (lN (10 ^ (u_ - k_))))]) hx hb dX7_strikes_114 hl (by decide) rfl (fun ls hl => ?_)
                    refine lv_lload hx hb dX7_strikes_116 (lv_at hl 6 rfl) ?_
                    refine lv_ldc2 hx hb hown (hts (.constantLong RX7 65 (10)) (List.mem_of_getElem? (i := 1) rfl)) dX7_strikes_118 ?_
                    refine ks_vL (show (10 : Int64) = lN 10 from rfl) ?_
                    refine ks_ldivN hx hb dX7_strikes_121 (by omega) (by omega) (by omega) ?_
                    refine lv_lstore (lv' := [(7, .long (lN ((10 ^ (u_ - k_)) / 10))), (6, .int (nI 1)), (5, .int (nI (bl + 0))), (9, .int (nI (dgt (ab x_) (u_ - k_)))), (0, .ref h_), (1, .long x_), (3, .long (lN (ab x_)))]) hx hb dX7_strikes_122 hl (by decide) rfl (fun ls hl => ?_)
                    refine lv_goto (tgt := 44) hx hb dX7_strikes_124 (by decide) ?_
                    exact ih_44  (k_ + 1) 1 ((10 ^ (u_ - k_)) / 10) (bl + 0) (by omega) (jm3) (jb2) (by omega) _ _ hP hD hS ls (lv_sub hl [4, 5, 6, 2, 1, 0] rfl)
                · have jb2 : blu (wah T.w (ab x_) u_ (k_ + 1)) (T.s 1) = blu T.w (T.s 1) + (bl + 1) := by have z_ : T.s 1 < wah T.w (ab x_) u_ (k_ + 1) (dgt (ab x_) (u_ - k_)) := c_90; rw [wah_d] at z_; rw [← wah_s, blu_s jdt, jbl, if_pos (by omega)]; omega
                  refine lv_iconst (v := nI 1) hx hb dX7_strikes_94 (by decide) ?_
                  refine lv_goto (tgt := 99) hx hb dX7_strikes_95 (by decide) ?_
                  refine ks_iaddN hx hb dX7_strikes_99 ?_
                  refine lv_istore (lv' := [(5, .int (nI (bl + 1))), (9, .int (nI (dgt (ab x_) (u_ - k_)))), (0, .ref h_), (1, .long x_), (3, .long (lN (ab x_))), (6, .int (nI 1)), (7, .long (lN (10 ^ (u_ - k_))))]) hx hb dX7_strikes_100 hl (by decide) rfl (fun ls hl => ?_)
                  refine lv_lload hx hb dX7_strikes_102 (lv_at hl 6 rfl) ?_
                  refine lv_lconst (v := lN 1) hx hb dX7_strikes_104 rfl ?_
                  refine ks_lcN_le (tgt := 113) hx hb dX7_strikes_105 dX7_strikes_106 (by decide) (by omega) (by omega) (fun c_105 => ?_) (fun c_105 => ?_)
                  · have jm3 : (k_ + 1 ≤ u_ ∧ (0 : Nat) = 1 ∧ 10 ^ (u_ - k_) / 10 = 10 ^ (u_ - (k_ + 1))) ∨ (k_ + 1 = u_ + 1 ∧ (0 : Nat) = 0) := Or.inr ⟨by have z_ := p10_le c_105; omega, rfl⟩
                    refine lv_iconst (v := nI 0) hx hb dX7_strikes_113 (by decide) ?_
                    refine lv_istore (lv' := [(6, .int (nI 0)), (5, .int (nI (bl + 1))), (9, .int (nI (dgt (ab x_) (u_ - k_)))), (0, .ref h_), (1, .long x_), (3, .long (lN (ab x_))), (7, .long (lN (10 ^ (u_ - k_))))]) hx hb dX7_strikes_114 hl (by decide) rfl (fun ls hl => ?_)
                    refine lv_lload hx hb dX7_strikes_116 (lv_at hl 6 rfl) ?_
                    refine lv_ldc2 hx hb hown (hts (.constantLong RX7 65 (10)) (List.mem_of_getElem? (i := 1) rfl)) dX7_strikes_118 ?_
                    refine ks_vL (show (10 : Int64) = lN 10 from rfl) ?_
                    refine ks_ldivN hx hb dX7_strikes_121 (by omega) (by omega) (by omega) ?_
                    refine lv_lstore (lv' := [(7, .long (lN ((10 ^ (u_ - k_)) / 10))), (6, .int (nI 0)), (5, .int (nI (bl + 1))), (9, .int (nI (dgt (ab x_) (u_ - k_)))), (0, .ref h_), (1, .long x_), (3, .long (lN (ab x_)))]) hx hb dX7_strikes_122 hl (by decide) rfl (fun ls hl => ?_)
                    refine lv_goto (tgt := 44) hx hb dX7_strikes_124 (by decide) ?_
                    exact ih_44  (k_ + 1) 0 ((10 ^ (u_ - k_)) / 10) (bl + 1) (by omega) (jm3) (jb2) (by omega) _ _ hP hD hS ls (lv_sub hl [4, 5, 6, 2, 1, 0] rfl)
                  · have jk3 : k_ + 1 ≤ u_ := by have z_ := p10_gt c_105; omega
                    have jm3 : (k_ + 1 ≤ u_ ∧ (1 : Nat) = 1 ∧ 10 ^ (u_ - k_) / 10 = 10 ^ (u_ - (k_ + 1))) ∨ (k_ + 1 = u_ + 1 ∧ (1 : Nat) = 0) := Or.inl ⟨jk3, rfl, by rw [pow_dv (by omega), Nat.sub_sub]⟩
                    refine lv_iconst (v := nI 1) hx hb dX7_strikes_109 (by decide) ?_
                    refine lv_goto (tgt := 114) hx hb dX7_strikes_110 (by decide) ?_
                    refine lv_istore (lv' := [(6, .int (nI 1)), (5, .int (nI (bl + 1))), (9, .int (nI (dgt (ab x_) (u_ - k_)))), (0, .ref h_), (1, .long x_), (3, .long (lN (ab x_))), (7, .long (lN (10 ^ (u_ - k_))))]) hx hb dX7_strikes_114 hl (by decide) rfl (fun ls hl => ?_)
                    refine lv_lload hx hb dX7_strikes_116 (lv_at hl 6 rfl) ?_
                    refine lv_ldc2 hx hb hown (hts (.constantLong RX7 65 (10)) (List.mem_of_getElem? (i := 1) rfl)) dX7_strikes_118 ?_
                    refine ks_vL (show (10 : Int64) = lN 10 from rfl) ?_
                    refine ks_ldivN hx hb dX7_strikes_121 (by omega) (by omega) (by omega) ?_
                    refine lv_lstore (lv' := [(7, .long (lN ((10 ^ (u_ - k_)) / 10))), (6, .int (nI 1)), (5, .int (nI (bl + 1))), (9, .int (nI (dgt (ab x_) (u_ - k_)))), (0, .ref h_), (1, .long x_), (3, .long (lN (ab x_)))]) hx hb dX7_strikes_122 hl (by decide) rfl (fun ls hl => ?_)
                    refine lv_goto (tgt := 44) hx hb dX7_strikes_124 (by decide) ?_
                    exact ih_44  (k_ + 1) 1 ((10 ^ (u_ - k_)) / 10) (bl + 1) (by omega) (jm3) (jb2) (by omega) _ _ hP hD hS ls (lv_sub hl [4, 5, 6, 2, 1, 0] rfl)
          rw [← skA_0 T (ab x_) u_] at hP hD
          exact L_44 _ 0 1 (10 ^ u_) 0 (Nat.lt_succ_self _) (Or.inl ⟨Nat.zero_le _, rfl, rfl⟩) (rfl) (by omega) _ _ hP hD hS ls (lv_sub hl [0, 1, 2, 3, 4, 5] rfl)
        · have jz1 : ab x_ / 10 ^ (u_ + 1) ≠ 0 := by rw [Nat.pow_succ, ← Nat.div_div_eq_div_mul]; exact fun z_ => absurd (Nat.div_eq_zero_iff.mp z_) (by omega)
          have ju4 : u_ + 1 ≤ 18 := pow_le18 jz1 jx
          have jz2 : ∀ j, 1 ≤ j → j < u_ + 1 + 1 → ab x_ / 10 ^ j ≠ 0 := fun j h1 h2 => (Nat.lt_or_ge j (u_ + 1)).elim (fun z_ => jz j h1 z_) (fun z_ => by rw [show j = u_ + 1 by omega]; exact jz1)
          refine lv_lload hx hb dX7_strikes_33 (lv_at hl 5 rfl) ?_
          refine lv_ldc2 hx hb hown (hts (.constantLong RX7 65 (10)) (List.mem_of_getElem? (i := 1) rfl)) dX7_strikes_35 ?_
          refine ks_vL (show (10 : Int64) = lN 10 from rfl) ?_
          refine ks_lmulN hx hb dX7_strikes_38 ?_
          refine lv_lstore (lv' := [(7, .long (lN ((10 ^ u_) * 10))), (0, .ref h_), (1, .long x_), (3, .long (lN (ab x_))), (5, .int (nI 0)), (6, .int (nI 1))]) hx hb dX7_strikes_39 hl (by decide) rfl (fun ls hl => ?_)
          refine lv_goto (tgt := 22) hx hb dX7_strikes_41 (by decide) ?_
          exact ih_22  (u_ + 1) (by omega) (ju4) (jz2) _ _ hP hD hS ls (lv_sub hl [1, 2, 3, 4, 5, 0] rfl)
    exact L_22 _ 0 (Nat.lt_succ_self _) (by omega) (fun j h1 h2 => absurd h1 (by omega)) _ _ hP hD hS ls (lv_sub hl [4, 5, 3, 2, 1, 0] rfl)
set_option maxHeartbeats 4000000 in
set_option maxRecDepth 100000 in
theorem c_X7_rows (G : GG) (l : Launch) (h_ : Nat) (T : TS) (jx : ab (T.r 0) < 2 ^ 63) (jw : ∀ d, d < 10 → T.w d < 2 ^ 30) (jl : T.s 1 < 2 ^ 30) (jd : T.s 5 < 2 ^ 30) : Cr G l yX7_rows wsX7_rows ({ frames := 1, cells := 0, slots := 0, locals := 29 }) 0 0 [.ref h_] [(h_, .inl (G.2.2.1, 103, .inr (.inl (mV T))))] (ctR (some (.int (nI (prB (ab (T.r 0)) T.w (T.s 1))))) [(h_, .inl (G.2.2.1, 103, .inr (.inl (mV (rw7 T)))))]) := by
  refine cr_intro (cc := cX7_rows) (maxL := 3) (ret := (some .int)) (own := RX7) (by decide) rfl rfl (Nat.le_of_ble_eq_true rfl) ?_
  intro p e s m args below meth c A hx hb hr hml hts hown hlocks hnm hNX hP hK hD hA hS ls hl
  obtain ⟨RR, hRR⟩ : ∃ RR, RR = (ctR (some (.int (nI (prB (ab (T.r 0)) T.w (T.s 1))))) [(h_, .inl (G.2.2.1, 103, .inr (.inl (mV (rw7 T)))))]) := ⟨_, rfl⟩
  rw [← hRR]
  have hl : lv_has ls 3 [(0, .ref h_)] := hl
  refine lv_aload_n hx hb dX7_rows_0 rfl (lv_at hl 0 rfl) ?_
  refine lv_aload_n hx hb dX7_rows_1 rfl (lv_at hl 0 rfl) ?_
  refine lv_bipush (v := nI 7) hx hb dX7_rows_2 (by decide) ?_
  refine ks_lald hx hb hK hP 0 rfl (by omega) (by decide) dX7_rows_4 ?_
  refine ks_vL (show mV T 7 = T.r 0 from mV_r (j := 0) (by omega)) ?_
  refine cr_S (wr := []) (As := [.ref h_, .long (T.r 0)]) (rest := []) ⟨hx, hb, hml, hown, hts⟩ (c_X7_strikes G l h_ T (T.r 0) (by omega) (jw) (by omega) (by omega)) (va_cwS 2 hts gX7_rows_X7_strikes rfl rfl rfl (by decide +kernel) ⟨Nat.le_of_ble_eq_true rfl, Nat.le_of_ble_eq_true rfl⟩) dX7_rows_5 hK hNX hP hD hS hA hl [0] [] rfl rfl rfl rfl (by decide) rfl (Nat.le_of_ble_eq_true rfl) ⟨Nat.le_of_ble_eq_true rfl, Nat.le_of_ble_eq_true rfl⟩ rfl (fun v' w' Hq lcq hR' hP hD hS => ?_)
  obtain ⟨rfl, rfl⟩ := hR'
  have hP : va_P G.1 vwCl [(h_, .inl (G.2.2.1, 103, .inr (.inl (mV (sk7 T (ab (T.r 0)))))))] _ := hP.sub [0] rfl
  have hD : va_D A [(h_, .inl (G.2.2.1, 103, .inr (.inl (mV (sk7 T (ab (T.r 0)))))))] := hD.sub [0] (by decide +kernel) rfl
  refine lv_istore_n (lv' := [(1, .int (nI (prB (ab (T.r 0)) T.w (T.s 1)))), (0, .ref h_)]) hx hb dX7_rows_8 rfl hl (by decide) rfl (fun ls hl => ?_)
  refine lv_iconst (v := nI 0) hx hb dX7_rows_9 (by decide) ?_
  refine lv_istore_n (lv' := [(2, .int (nI 0)), (1, .int (nI (prB (ab (T.r 0)) T.w (T.s 1)))), (0, .ref h_)]) hx hb dX7_rows_10 rfl hl (by decide) rfl (fun ls hl => ?_)
  have L_11 : ∀ (n_11 : Nat) (k_ : Nat) (_ : 7 - k_ < n_11) (jk : k_ ≤ 5) (Hq : Heap) (lcq : List Loc), va_P G.1 vwCl [(h_, .inl (G.2.2.1, 103, .inr (.inl (mV ((sk7 T (ab (T.r 0))).withR (nxu (sk7 T (ab (T.r 0))).r k_))))))] Hq → va_D A [(h_, .inl (G.2.2.1, 103, .inr (.inl (mV ((sk7 T (ab (T.r 0))).withR (nxu (sk7 T (ab (T.r 0))).r k_))))))] → va_S A s.heap Hq lcq → ∀ ls : Array Slot, lv_has ls 3 [(2, .int (nI k_)), (0, .ref h_), (1, .int (nI (prB (ab (T.r 0)) T.w (T.s 1))))] → W p l e ({ frames := 1, cells := 0, slots := 0, locals := 29 }) s m args below meth c Hq lcq 0 0 (MQ below (cr_Q G RR A) args s 0 0 A) (F0 m 11 ls []) := by
    intro n_11
    induction n_11 with
    | zero => intro k_ hmu_11; exact absurd hmu_11 (Nat.not_lt_zero _)
    | succ n_11 ih_11 =>
      intro k_ hmu_11 jk Hq lcq hP hD hS ls hl
      refine lv_iload_n hx hb dX7_rows_11 rfl (lv_at hl 0 rfl) ?_
      refine lv_iconst (v := nI 5) hx hb dX7_rows_12 (by decide) ?_
      refine ks_icmp_ge (tgt := 39) hx hb dX7_rows_13 (by decide) (by omega) (by omega) (fun c_13 => ?_) (fun c_13 => ?_)
      · obtain rfl : k_ = 5 := by omega
        refine lv_aload_n hx hb dX7_rows_39 rfl (lv_at hl 1 rfl) ?_
        refine lv_iconst (v := nI 4) hx hb dX7_rows_40 (by decide) ?_
        refine lv_dup2_11 hx hb dX7_rows_41 rfl rfl ?_
        refine ks_lald hx hb hK hP 0 rfl (by omega) (by decide) dX7_rows_42 ?_
        refine ks_vL (show mV ((sk7 T (ab (T.r 0))).withR (nxu (sk7 T (ab (T.r 0))).r 5)) 4 = lN (((sk7 T (ab (T.r 0))).withR (nxu (sk7 T (ab (T.r 0))).r 5)).s 4) from rfl) ?_
        refine lv_lconst (v := lN 1) hx hb dX7_rows_43 rfl ?_
        refine ks_laddN hx hb dX7_rows_44 ?_
        refine ks_last (f' := mV (((sk7 T (ab (T.r 0))).withR (nxu (sk7 T (ab (T.r 0))).r 5)).setS 4 (((sk7 T (ab (T.r 0))).withR (nxu (sk7 T (ab (T.r 0))).r 5)).s 4 + 1))) hx hb hK hP hD hS 0 rfl (by omega) (by decide) (mV_setS (by decide)) dX7_rows_45 (fun Hq lcq hP hD hS => ?_)
        have hP : va_P G.1 vwCl [(h_, .inl (G.2.2.1, 103, .inr (.inl (mV (((sk7 T (ab (T.r 0))).withR (nxu (sk7 T (ab (T.r 0))).r 5)).setS 4 (((sk7 T (ab (T.r 0))).withR (nxu (sk7 T (ab (T.r 0))).r 5)).s 4 + 1))))))] _ := hP
        have hD : va_D A [(h_, .inl (G.2.2.1, 103, .inr (.inl (mV (((sk7 T (ab (T.r 0))).withR (nxu (sk7 T (ab (T.r 0))).r 5)).setS 4 (((sk7 T (ab (T.r 0))).withR (nxu (sk7 T (ab (T.r 0))).r 5)).s 4 + 1))))))] := hD
        have hP := hP.cgJ 0 (g := mV (rw7 T)) rfl (fun q9 h9 => by rw [rw7_e])
        have hD := hD.set (p := 0) (e := .inl (G.2.2.1, 103, .inr <| .inl (mV (rw7 T)))) rfl
        have hP : va_P G.1 vwCl [(h_, .inl (G.2.2.1, 103, .inr (.inl (mV (rw7 T)))))] _ := hP
        have hD : va_D A [(h_, .inl (G.2.2.1, 103, .inr (.inl (mV (rw7 T)))))] := hD
        refine lv_iload_n hx hb dX7_rows_46 rfl (lv_at hl 2 rfl) ?_
        exact cr_iret hx hb hr hlocks hK hP hD hS dX7_rows_47 (by rw [hRR]; exact ctR_i (rfl) (rfl))
      · refine lv_aload_n hx hb dX7_rows_16 rfl (lv_at hl 1 rfl) ?_
        refine lv_bipush (v := nI 7) hx hb dX7_rows_17 (by decide) ?_
        refine lv_iload_n hx hb dX7_rows_19 rfl (lv_at hl 0 rfl) ?_
        refine ks_iaddN hx hb dX7_rows_20 ?_
        refine lv_dup2_11 hx hb dX7_rows_21 rfl rfl ?_
        refine ks_lald hx hb hK hP 0 rfl (by omega) (by decide) dX7_rows_22 ?_
        refine ks_vL (show mV ((sk7 T (ab (T.r 0))).withR (nxu (sk7 T (ab (T.r 0))).r k_)) (7 + k_) = ((sk7 T (ab (T.r 0))).withR (nxu (sk7 T (ab (T.r 0))).r k_)).r k_ from mV_r (j := k_) (by omega)) ?_
        refine lv_aload_n hx hb dX7_rows_23 rfl (lv_at hl 1 rfl) ?_
        refine lv_bipush (v := nI 7) hx hb dX7_rows_24 (by decide) ?_
        refine lv_iload_n hx hb dX7_rows_26 rfl (lv_at hl 0 rfl) ?_
        refine ks_iaddN hx hb dX7_rows_27 ?_
        refine lv_iconst (v := nI 1) hx hb dX7_rows_28 (by decide) ?_
        refine ks_iaddN hx hb dX7_rows_29 ?_
        refine ks_lald hx hb hK hP 0 rfl (by omega) (by decide) dX7_rows_30 ?_
        refine ks_vL (show mV ((sk7 T (ab (T.r 0))).withR (nxu (sk7 T (ab (T.r 0))).r k_)) (7 + k_ + 1) = ((sk7 T (ab (T.r 0))).withR (nxu (sk7 T (ab (T.r 0))).r k_)).r (k_ + 1) from mV_r (j := k_ + 1) (by omega)) ?_
        refine lv_ladd hx hb dX7_rows_31 ?_
        refine ks_last (f' := mV ((sk7 T (ab (T.r 0))).withR (nxu (sk7 T (ab (T.r 0))).r (k_ + 1)))) hx hb hK hP hD hS 0 rfl (by omega) (by decide) (by rw [← nxu_wR, mV_setR (by omega)]) dX7_rows_32 (fun Hq lcq hP hD hS => ?_)
        have hP : va_P G.1 vwCl [(h_, .inl (G.2.2.1, 103, .inr (.inl (mV ((sk7 T (ab (T.r 0))).withR (nxu (sk7 T (ab (T.r 0))).r (k_ + 1)))))))] _ := hP
        have hD : va_D A [(h_, .inl (G.2.2.1, 103, .inr (.inl (mV ((sk7 T (ab (T.r 0))).withR (nxu (sk7 T (ab (T.r 0))).r (k_ + 1)))))))] := hD
        refine lv_iinc (v := nI (k_ + 1)) (lv' := [(2, .int (nI (k_ + 1))), (0, .ref h_), (1, .int (nI (prB (ab (T.r 0)) T.w (T.s 1))))]) hx hb dX7_rows_33 hl (k := 0) rfl (ks_inc k_ 1) (by decide) rfl (fun ls hl => ?_)
        refine lv_goto (tgt := 11) hx hb dX7_rows_36 (by decide) ?_
        exact ih_11  (k_ + 1) (by omega) (by omega) _ _ hP hD hS ls (lv_sub hl [0, 1, 2] rfl)
  rw [← wR_0 (sk7 T (ab (T.r 0)))] at hP hD
  exact L_11 _ 0 (Nat.lt_succ_self _) (by omega) _ _ hP hD hS ls (lv_sub hl [0, 2, 1] rfl)
