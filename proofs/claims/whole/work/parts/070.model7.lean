set_option maxHeartbeats 4000000 in
set_option maxRecDepth 100000 in
theorem c_X7_isAt (G : GG) (l : Launch) (y_ : Nat) (ca : Nat → Nat) (ke : Nat) (ty_ : Nat) (th : Nat) (po : Nat) (fl_ : Prop) (tl : Nat) (cs : Nat → Nat) (lo_ : Nat) (hi_ : Nat) (jty : ty_ ≤ 60) (jcs : ∀ k, k < 60 → cs k < 2 ^ 30) (jpo : po ≤ ty_) (jlo : lo_ < 2 ^ 30) (jhi : hi_ < 2 ^ 30) : Cr G l yX7_isAt wsX7_isAt ({ frames := 1, cells := 0, slots := 0, locals := 25 }) 0 0 [.ref y_, .int (nI lo_), .int (nI hi_)] [(y_, .inr (7, [.ref (ca 0), .ref (ca 1), .ref (ca 2), .int (nI ke), .ref (ca 3), .int (nI ty_), .int (nI th), .int (nI po), .int (bI fl_), .ref (ca 4), .int (nI tl), .ref (ca 5)])), (ca 3, .inl (G.2.1, 60, .inl (fun q9 => nI (cs q9))))] (ctR (some (.int (bI (po < ty_ ∧ lo_ ≤ cs po ∧ cs po ≤ hi_)))) [(y_, .inr (7, [.ref (ca 0), .ref (ca 1), .ref (ca 2), .int (nI ke), .ref (ca 3), .int (nI ty_), .int (nI th), .int (nI po), .int (bI fl_), .ref (ca 4), .int (nI tl), .ref (ca 5)])), (ca 3, .inl (G.2.1, 60, .inl (fun q9 => nI (cs q9))))]) := by
  refine cr_intro (cc := cX7_isAt) (maxL := 3) (ret := (some .boolean)) (own := RX7) (by decide) rfl rfl (Nat.le_of_ble_eq_true rfl) ?_
  intro p e s m args below meth c A hx hb hr hml hts hown hlocks hnm hNX hP hK hD hA hS ls hl
  obtain ⟨RR, hRR⟩ : ∃ RR, RR = (ctR (some (.int (bI (po < ty_ ∧ lo_ ≤ cs po ∧ cs po ≤ hi_)))) [(y_, .inr (7, [.ref (ca 0), .ref (ca 1), .ref (ca 2), .int (nI ke), .ref (ca 3), .int (nI ty_), .int (nI th), .int (nI po), .int (bI fl_), .ref (ca 4), .int (nI tl), .ref (ca 5)])), (ca 3, .inl (G.2.1, 60, .inl (fun q9 => nI (cs q9))))]) := ⟨_, rfl⟩
  rw [← hRR]
  have hl : lv_has ls 3 [(0, .ref y_), (1, .int (nI lo_)), (2, .int (nI hi_))] := hl
  have hin7 : ∀ w ∈ u_ws RX7 TX7 12, w ∈ wsX7_isAt := fun w h => List.mem_cons_of_mem _ (List.mem_append_right _ h)
  refine lv_aload_n hx hb dX7_isAt_0 rfl (lv_at hl 0 rfl) ?_
  refine va_get (D := G.1) (ci := 7) (v := .int (nI po)) (C := RX7) (T := TX7) (N := 12) hx hb hts hin7 hown hK hP 0 rfl rfl 7 (by decide) (hts (.fieldLink RX7 122 "PowerTablesModel" "at" "I") (List.mem_of_getElem? (i := 1) rfl)) (fun _ h9 => h9) rfl dX7_isAt_1 ?_
  refine lv_aload_n hx hb dX7_isAt_4 rfl (lv_at hl 0 rfl) ?_
  refine va_get (D := G.1) (ci := 7) (v := .int (nI ty_)) (C := RX7) (T := TX7) (N := 12) hx hb hts hin7 hown hK hP 0 rfl rfl 5 (by decide) (hts (.fieldLink RX7 119 "PowerTablesModel" "typed" "I") (List.mem_of_getElem? (i := 2) rfl)) (fun _ h9 => h9) rfl dX7_isAt_5 ?_
  refine ks_icmp_ge (tgt := 35) hx hb dX7_isAt_8 (by decide) (by omega) (by omega) (fun c_8 => ?_) (fun c_8 => ?_)
  · have hv : nI 0 = bI (po < ty_ ∧ lo_ ≤ cs po ∧ cs po ≤ hi_) := bI_0 (fun z => absurd z.1 (by omega))
    refine lv_iconst (v := nI 0) hx hb dX7_isAt_35 (by decide) ?_
    exact cr_zret hx hb hr hlocks hK hP hD hS (by decide +kernel) dX7_isAt_36 (by rw [hRR]; exact ctR_i (hv) (rfl))
  · have jc9 := jcs po (by omega)
    refine lv_aload_n hx hb dX7_isAt_11 rfl (lv_at hl 0 rfl) ?_
    refine va_get (D := G.1) (ci := 7) (v := .ref (ca 3)) (C := RX7) (T := TX7) (N := 12) hx hb hts hin7 hown hK hP 0 rfl rfl 4 (by decide) (hts (.fieldLink RX7 19 "PowerTablesModel" "text" "[I") (List.mem_of_getElem? (i := 3) rfl)) (fun _ h9 => h9) rfl dX7_isAt_12 ?_
    refine lv_aload_n hx hb dX7_isAt_15 rfl (lv_at hl 0 rfl) ?_
    refine va_get (D := G.1) (ci := 7) (v := .int (nI po)) (C := RX7) (T := TX7) (N := 12) hx hb hts hin7 hown hK hP 0 rfl rfl 7 (by decide) (hts (.fieldLink RX7 122 "PowerTablesModel" "at" "I") (List.mem_of_getElem? (i := 1) rfl)) (fun _ h9 => h9) rfl dX7_isAt_16 ?_
    refine ks_iald hx hb hK hP 1 rfl (by omega) (by decide) dX7_isAt_19 ?_
    refine ks_i2lN hx hb dX7_isAt_20 (by omega) ?_
    refine lv_iload_n hx hb dX7_isAt_21 rfl (lv_at hl 1 rfl) ?_
    refine ks_i2lN hx hb dX7_isAt_22 (by omega) ?_
    refine lv_iload_n hx hb dX7_isAt_23 rfl (lv_at hl 2 rfl) ?_
    refine ks_i2lN hx hb dX7_isAt_24 (by omega) ?_
    refine cr_S (wr := [(y_, .inr (7, [.ref (ca 0), .ref (ca 1), .ref (ca 2), .int (nI ke), .ref (ca 3), .int (nI ty_), .int (nI th), .int (nI po), .int (bI fl_), .ref (ca 4), .int (nI tl), .ref (ca 5)])), (ca 3, .inl (G.2.1, 60, .inl (fun q9 => nI (cs q9))))]) (As := [.long (lN (cs po)), .long (lN lo_), .long (lN hi_)]) (rest := []) ⟨hx, hb, hml, hown, hts⟩ (c_X7_in__n G l (cs po) lo_ hi_ (by omega) (by omega) (by omega)) (va_cwS 3 hts gX7_isAt_X7_in rfl rfl rfl (by decide +kernel) ⟨Nat.le_of_ble_eq_true rfl, Nat.le_of_ble_eq_true rfl⟩) dX7_isAt_25 hK hNX hP hD hS hA hl [] [0, 1] rfl rfl rfl rfl (by decide) rfl (Nat.le_of_ble_eq_true rfl) ⟨Nat.le_of_ble_eq_true rfl, Nat.le_of_ble_eq_true rfl⟩ rfl (fun v' w' Hq lcq hR' hP hD hS => ?_)
    obtain ⟨rfl, rfl⟩ := hR'
    have hP : va_P G.1 vwCl [(y_, .inr (7, [.ref (ca 0), .ref (ca 1), .ref (ca 2), .int (nI ke), .ref (ca 3), .int (nI ty_), .int (nI th), .int (nI po), .int (bI fl_), .ref (ca 4), .int (nI tl), .ref (ca 5)])), (ca 3, .inl (G.2.1, 60, .inl (fun q9 => nI (cs q9))))] _ := hP.sub [0, 1] rfl
    have hD : va_D A [(y_, .inr (7, [.ref (ca 0), .ref (ca 1), .ref (ca 2), .int (nI ke), .ref (ca 3), .int (nI ty_), .int (nI th), .int (nI po), .int (bI fl_), .ref (ca 4), .int (nI tl), .ref (ca 5)])), (ca 3, .inl (G.2.1, 60, .inl (fun q9 => nI (cs q9))))] := hD.sub [0, 1] (by decide +kernel) rfl
    refine ks_ifb_eq (tgt := 35) hx hb dX7_isAt_28 (by decide) (fun c_28 => ?_) (fun c_28 => ?_)
    · have hv : nI 0 = bI (po < ty_ ∧ lo_ ≤ cs po ∧ cs po ≤ hi_) := bI_0 (fun z => c_28 z.2)
      refine lv_iconst (v := nI 0) hx hb dX7_isAt_35 (by decide) ?_
      exact cr_zret hx hb hr hlocks hK hP hD hS (by decide +kernel) dX7_isAt_36 (by rw [hRR]; exact ctR_i (hv) (rfl))
    · have hv : nI 1 = bI (po < ty_ ∧ lo_ ≤ cs po ∧ cs po ≤ hi_) := bI_1 ⟨c_8, c_28⟩
      refine lv_iconst (v := nI 1) hx hb dX7_isAt_31 (by decide) ?_
      refine lv_goto (tgt := 36) hx hb dX7_isAt_32 (by decide) ?_
      exact cr_zret hx hb hr hlocks hK hP hD hS (by decide +kernel) dX7_isAt_36 (by rw [hRR]; exact ctR_i (hv) (rfl))
set_option maxHeartbeats 4000000 in
set_option maxRecDepth 100000 in
theorem c_X7_stops (G : GG) (l : Launch) (y_ : Nat) (ca : Nat → Nat) (ke : Nat) (ty_ : Nat) (th : Nat) (po : Nat) (fl_ : Prop) (tl : Nat) (jty : ty_ ≤ 60) (jpo : po ≤ ty_) : Cr G l yX7_stops wsX7_stops ({ frames := 0, cells := 0, slots := 0, locals := 0 }) 0 0 [.ref y_] [(y_, .inr (7, [.ref (ca 0), .ref (ca 1), .ref (ca 2), .int (nI ke), .ref (ca 3), .int (nI ty_), .int (nI th), .int (nI po), .int (bI fl_), .ref (ca 4), .int (nI tl), .ref (ca 5)]))] (ctR (some (.int (nI 0))) [(y_, .inr (7, [.ref (ca 0), .ref (ca 1), .ref (ca 2), .int (nI ke), .ref (ca 3), .int (nI ty_), .int (nI th), .int (nI po), .int (bI (po < ty_)), .ref (ca 4), .int (nI tl), .ref (ca 5)]))]) := by
  refine cr_intro (cc := cX7_stops) (maxL := 1) (ret := (some .boolean)) (own := RX7) (by decide) rfl rfl (Nat.le_of_ble_eq_true rfl) ?_
  intro p e s m args below meth c A hx hb hr hml hts hown hlocks hnm hNX hP hK hD hA hS ls hl
  obtain ⟨RR, hRR⟩ : ∃ RR, RR = (ctR (some (.int (nI 0))) [(y_, .inr (7, [.ref (ca 0), .ref (ca 1), .ref (ca 2), .int (nI ke), .ref (ca 3), .int (nI ty_), .int (nI th), .int (nI po), .int (bI (po < ty_)), .ref (ca 4), .int (nI tl), .ref (ca 5)]))]) := ⟨_, rfl⟩
  rw [← hRR]
  have hl : lv_has ls 1 [(0, .ref y_)] := hl
  have hin7 : ∀ w ∈ u_ws RX7 TX7 12, w ∈ wsX7_stops := fun w h => List.mem_cons_of_mem _ (List.mem_append_right _ h)
  refine lv_aload_n hx hb dX7_stops_0 rfl (lv_at hl 0 rfl) ?_
  refine lv_aload_n hx hb dX7_stops_1 rfl (lv_at hl 0 rfl) ?_
  refine va_get (D := G.1) (ci := 7) (v := .int (nI po)) (C := RX7) (T := TX7) (N := 12) hx hb hts hin7 hown hK hP 0 rfl rfl 7 (by decide) (hts (.fieldLink RX7 122 "PowerTablesModel" "at" "I") (List.mem_of_getElem? (i := 1) rfl)) (fun _ h9 => h9) rfl dX7_stops_2 ?_
  refine lv_aload_n hx hb dX7_stops_5 rfl (lv_at hl 0 rfl) ?_
  refine va_get (D := G.1) (ci := 7) (v := .int (nI ty_)) (C := RX7) (T := TX7) (N := 12) hx hb hts hin7 hown hK hP 0 rfl rfl 5 (by decide) (hts (.fieldLink RX7 119 "PowerTablesModel" "typed" "I") (List.mem_of_getElem? (i := 2) rfl)) (fun _ h9 => h9) rfl dX7_stops_6 ?_
  refine ks_icmp_ge (tgt := 16) hx hb dX7_stops_9 (by decide) (by omega) (by omega) (fun c_9 => ?_) (fun c_9 => ?_)
  · refine lv_iconst (v := nI 0) hx hb dX7_stops_16 (by decide) ?_
    refine ks_vI (show nI 0 = bI (po < ty_) from bI_0 (Nat.not_lt.mpr c_9)) ?_
    refine va_put (D := G.1) (ci := 7) (v := .int (bI (po < ty_))) (ty := .boolean) (C := RX7) (T := TX7) (N := 12) hx hb hts hin7 tyX7 tyX7_ok nmX7 hown hK hP hD hS 0 rfl rfl 8 (by decide) (hts (.fieldLink RX7 125 "PowerTablesModel" "isFault" "Z") (List.mem_of_getElem? (i := 3) rfl)) (fun _ h9 => h9) rfl (tyX7_ok 8 (by decide)) bI_nar bI_fit (Nat.le_of_ble_eq_true rfl) dX7_stops_17 (fun Hq lcq hP hD hS => ?_)
    have hP : va_P G.1 vwCl [(y_, .inr (7, [.ref (ca 0), .ref (ca 1), .ref (ca 2), .int (nI ke), .ref (ca 3), .int (nI ty_), .int (nI th), .int (nI po), .int (bI (po < ty_)), .ref (ca 4), .int (nI tl), .ref (ca 5)]))] _ := hP
    have hD : va_D A [(y_, .inr (7, [.ref (ca 0), .ref (ca 1), .ref (ca 2), .int (nI ke), .ref (ca 3), .int (nI ty_), .int (nI th), .int (nI po), .int (bI (po < ty_)), .ref (ca 4), .int (nI tl), .ref (ca 5)]))] := hD
    refine lv_iconst (v := nI 0) hx hb dX7_stops_20 (by decide) ?_
    exact cr_zret hx hb hr hlocks hK hP hD hS (by decide +kernel) dX7_stops_21 (by rw [hRR]; exact ctR_i (rfl) (rfl))
  · refine lv_iconst (v := nI 1) hx hb dX7_stops_12 (by decide) ?_
    refine lv_goto (tgt := 17) hx hb dX7_stops_13 (by decide) ?_
    refine ks_vI (show nI 1 = bI (po < ty_) from bI_1 c_9) ?_
    refine va_put (D := G.1) (ci := 7) (v := .int (bI (po < ty_))) (ty := .boolean) (C := RX7) (T := TX7) (N := 12) hx hb hts hin7 tyX7 tyX7_ok nmX7 hown hK hP hD hS 0 rfl rfl 8 (by decide) (hts (.fieldLink RX7 125 "PowerTablesModel" "isFault" "Z") (List.mem_of_getElem? (i := 3) rfl)) (fun _ h9 => h9) rfl (tyX7_ok 8 (by decide)) bI_nar bI_fit (Nat.le_of_ble_eq_true rfl) dX7_stops_17 (fun Hq lcq hP hD hS => ?_)
    have hP : va_P G.1 vwCl [(y_, .inr (7, [.ref (ca 0), .ref (ca 1), .ref (ca 2), .int (nI ke), .ref (ca 3), .int (nI ty_), .int (nI th), .int (nI po), .int (bI (po < ty_)), .ref (ca 4), .int (nI tl), .ref (ca 5)]))] _ := hP
    have hD : va_D A [(y_, .inr (7, [.ref (ca 0), .ref (ca 1), .ref (ca 2), .int (nI ke), .ref (ca 3), .int (nI ty_), .int (nI th), .int (nI po), .int (bI (po < ty_)), .ref (ca 4), .int (nI tl), .ref (ca 5)]))] := hD
    refine lv_iconst (v := nI 0) hx hb dX7_stops_20 (by decide) ?_
    exact cr_zret hx hb hr hlocks hK hP hD hS (by decide +kernel) dX7_stops_21 (by rw [hRR]; exact ctR_i (rfl) (rfl))
set_option maxHeartbeats 4000000 in
set_option maxRecDepth 100000 in
theorem c_X7_isFigure (G : GG) (l : Launch) (y_ : Nat) (ca : Nat → Nat) (ke : Nat) (ty_ : Nat) (th : Nat) (po : Nat) (fl_ : Prop) (tl : Nat) (cs : Nat → Nat) (td : Nat → Int32) (k_ : Nat) (lo_ : Nat) (hi_ : Nat) (jty : ty_ ≤ 60) (jcs : ∀ k_, k_ < 60 → cs k_ < 2 ^ 30) (jtl : tl ≤ 30) (jpo : po ≤ ty_) (jk : k_ < 4) (jlo : 48 ≤ lo_) (jlo2 : lo_ < 2 ^ 30) (jhi : hi_ < 2 ^ 30) : Cr G l yX7_isFigure wsX7_isFigure ({ frames := 2, cells := 0, slots := 0, locals := 47 }) 0 0 [.ref y_, .int (nI k_), .int (nI lo_), .int (nI hi_)] [(y_, .inr (7, [.ref (ca 0), .ref (ca 1), .ref (ca 2), .int (nI ke), .ref (ca 3), .int (nI ty_), .int (nI th), .int (nI po), .int (bI fl_), .ref (ca 4), .int (nI tl), .ref (ca 5)])), (ca 3, .inl (G.2.1, 60, .inl (fun q9 => nI (cs q9)))), (ca 4, .inl (G.2.1, 124, .inl (td)))] (fun (vv1 : Option Value) (ww1 : va_W) => ∃ (po9 : Nat) (td9 : Nat → Int32) (fl9 : Prop), vv1 = (some (.int (bI (po < ty_ ∧ lo_ ≤ cs po ∧ cs po ≤ hi_)))) ∧ ww1 = [(y_, .inr (7, [.ref (ca 0), .ref (ca 1), .ref (ca 2), .int (nI ke), .ref (ca 3), .int (nI ty_), .int (nI th), .int (nI po9), .int (bI fl9), .ref (ca 4), .int (nI tl), .ref (ca 5)])), (ca 3, .inl (G.2.1, 60, .inl (fun q9 => nI (cs q9)))), (ca 4, .inl (G.2.1, 124, .inl (td9)))] ∧ (((po < ty_ ∧ lo_ ≤ cs po ∧ cs po ≤ hi_) → po9 = po + 1 ∧ td9 = upd td (4 * tl + k_) (nI (cs po - 48)) ∧ (fl9 ↔ fl_)) ∧ (¬ (po < ty_ ∧ lo_ ≤ cs po ∧ cs po ≤ hi_) → po9 = po ∧ td9 = td ∧ (fl9 ↔ po < ty_)))) := by
  refine cr_intro (cc := cX7_isFigure) (maxL := 4) (ret := (some .boolean)) (own := RX7) (by decide) rfl rfl (Nat.le_of_ble_eq_true rfl) ?_
  intro p e s m args below meth c A hx hb hr hml hts hown hlocks hnm hNX hP hK hD hA hS ls hl
  obtain ⟨RR, hRR⟩ : ∃ RR, RR = (fun (vv1 : Option Value) (ww1 : va_W) => ∃ (po9 : Nat) (td9 : Nat → Int32) (fl9 : Prop), vv1 = (some (.int (bI (po < ty_ ∧ lo_ ≤ cs po ∧ cs po ≤ hi_)))) ∧ ww1 = [(y_, .inr (7, [.ref (ca 0), .ref (ca 1), .ref (ca 2), .int (nI ke), .ref (ca 3), .int (nI ty_), .int (nI th), .int (nI po9), .int (bI fl9), .ref (ca 4), .int (nI tl), .ref (ca 5)])), (ca 3, .inl (G.2.1, 60, .inl (fun q9 => nI (cs q9)))), (ca 4, .inl (G.2.1, 124, .inl (td9)))] ∧ (((po < ty_ ∧ lo_ ≤ cs po ∧ cs po ≤ hi_) → po9 = po + 1 ∧ td9 = upd td (4 * tl + k_) (nI (cs po - 48)) ∧ (fl9 ↔ fl_)) ∧ (¬ (po < ty_ ∧ lo_ ≤ cs po ∧ cs po ≤ hi_) → po9 = po ∧ td9 = td ∧ (fl9 ↔ po < ty_)))) := ⟨_, rfl⟩
  rw [← hRR]
  have hl : lv_has ls 4 [(0, .ref y_), (1, .int (nI k_)), (2, .int (nI lo_)), (3, .int (nI hi_))] := hl
  have hin7 : ∀ w ∈ u_ws RX7 TX7 12, w ∈ wsX7_isFigure := fun w h => List.mem_cons_of_mem _ (List.mem_append_right _ h)
  refine lv_aload_n hx hb dX7_isFigure_0 rfl (lv_at hl 0 rfl) ?_
  refine lv_iload_n hx hb dX7_isFigure_1 rfl (lv_at hl 2 rfl) ?_
  refine lv_iload_n hx hb dX7_isFigure_2 rfl (lv_at hl 3 rfl) ?_
  refine cr_V (wr := [(ca 4, .inl (G.2.1, 124, .inl (td)))]) (As := [.int (nI lo_), .int (nI hi_)]) (rest := []) ⟨hx, hb, hml, hown, hts⟩ (c_X7_isAt G l y_ ca ke ty_ th po fl_ tl cs lo_ hi_ (by omega) (jcs) (by omega) (by omega) (by omega)) (cwV 2 hts gX7_isFigure_X7_isAt rfl rfl rfl (by decide +kernel) ⟨Nat.le_of_ble_eq_true rfl, Nat.le_of_ble_eq_true rfl⟩) dX7_isFigure_3 hK hNX hP hD hS hA hl 0 7 rfl rfl rfl [0, 1] [2] rfl rfl rfl rfl (by decide) rfl (Nat.le_of_ble_eq_true rfl) ⟨Nat.le_of_ble_eq_true rfl, Nat.le_of_ble_eq_true rfl⟩ rfl (fun v' w' Hq lcq hR' hP hD hS => ?_)
  obtain ⟨rfl, rfl⟩ := hR'
  have hP : va_P G.1 vwCl [(y_, .inr (7, [.ref (ca 0), .ref (ca 1), .ref (ca 2), .int (nI ke), .ref (ca 3), .int (nI ty_), .int (nI th), .int (nI po), .int (bI fl_), .ref (ca 4), .int (nI tl), .ref (ca 5)])), (ca 3, .inl (G.2.1, 60, .inl (fun q9 => nI (cs q9)))), (ca 4, .inl (G.2.1, 124, .inl (td)))] _ := hP.sub [1, 2, 0] rfl
  have hD : va_D A [(y_, .inr (7, [.ref (ca 0), .ref (ca 1), .ref (ca 2), .int (nI ke), .ref (ca 3), .int (nI ty_), .int (nI th), .int (nI po), .int (bI fl_), .ref (ca 4), .int (nI tl), .ref (ca 5)])), (ca 3, .inl (G.2.1, 60, .inl (fun q9 => nI (cs q9)))), (ca 4, .inl (G.2.1, 124, .inl (td)))] := hD.sub [1, 2, 0] (by decide +kernel) rfl
  refine ks_ifb_ne (tgt := 14) hx hb dX7_isFigure_6 (by decide) (fun c_6 => ?_) (fun c_6 => ?_)
  · refine lv_aload_n hx hb dX7_isFigure_14 rfl (lv_at hl 0 rfl) ?_
    refine va_get (D := G.1) (ci := 7) (v := .ref (ca 4)) (C := RX7) (T := TX7) (N := 12) hx hb hts hin7 hown hK hP 0 rfl rfl 9 (by decide) (hts (.fieldLink RX7 23 "PowerTablesModel" "told" "[I") (List.mem_of_getElem? (i := 1) rfl)) (fun _ h9 => h9) rfl dX7_isFigure_15 ?_
    refine lv_iconst (v := nI 4) hx hb dX7_isFigure_18 (by decide) ?_
    refine lv_aload_n hx hb dX7_isFigure_19 rfl (lv_at hl 0 rfl) ?_
    refine va_get (D := G.1) (ci := 7) (v := .int (nI tl)) (C := RX7) (T := TX7) (N := 12) hx hb hts hin7 hown hK hP 0 rfl rfl 10 (by decide) (hts (.fieldLink RX7 137 "PowerTablesModel" "tolds" "I") (List.mem_of_getElem? (i := 2) rfl)) (fun _ h9 => h9) rfl dX7_isFigure_20 ?_
    refine ks_imulN hx hb dX7_isFigure_23 ?_
    refine lv_iload_n hx hb dX7_isFigure_24 rfl (lv_at hl 1 rfl) ?_
    refine ks_iaddN hx hb dX7_isFigure_25 ?_
    refine lv_aload_n hx hb dX7_isFigure_26 rfl (lv_at hl 0 rfl) ?_
    refine va_get (D := G.1) (ci := 7) (v := .ref (ca 3)) (C := RX7) (T := TX7) (N := 12) hx hb hts hin7 hown hK hP 0 rfl rfl 4 (by decide) (hts (.fieldLink RX7 19 "PowerTablesModel" "text" "[I") (List.mem_of_getElem? (i := 3) rfl)) (fun _ h9 => h9) rfl dX7_isFigure_27 ?_
    refine lv_aload_n hx hb dX7_isFigure_30 rfl (lv_at hl 0 rfl) ?_
    refine va_get (D := G.1) (ci := 7) (v := .int (nI po)) (C := RX7) (T := TX7) (N := 12) hx hb hts hin7 hown hK hP 0 rfl rfl 7 (by decide) (hts (.fieldLink RX7 122 "PowerTablesModel" "at" "I") (List.mem_of_getElem? (i := 4) rfl)) (fun _ h9 => h9) rfl dX7_isFigure_31 ?_
    refine ks_iald hx hb hK hP 1 rfl (by omega) (by decide) dX7_isFigure_34 ?_
    refine lv_bipush (v := nI 48) hx hb dX7_isFigure_35 (by decide) ?_
    refine ks_isubN hx hb dX7_isFigure_37 (by omega) ?_
    refine ks_iast (f' := upd td (4 * tl + k_) (nI ((cs po) - 48))) hx hb hK hP hD hS 2 rfl (by omega) (by decide) (rfl) dX7_isFigure_38 (fun Hq lcq hP hD hS => ?_)
    have hP : va_P G.1 vwCl [(y_, .inr (7, [.ref (ca 0), .ref (ca 1), .ref (ca 2), .int (nI ke), .ref (ca 3), .int (nI ty_), .int (nI th), .int (nI po), .int (bI fl_), .ref (ca 4), .int (nI tl), .ref (ca 5)])), (ca 3, .inl (G.2.1, 60, .inl (fun q9 => nI (cs q9)))), (ca 4, .inl (G.2.1, 124, .inl (upd td (4 * tl + k_) (nI ((cs po) - 48)))))] _ := hP
    have hD : va_D A [(y_, .inr (7, [.ref (ca 0), .ref (ca 1), .ref (ca 2), .int (nI ke), .ref (ca 3), .int (nI ty_), .int (nI th), .int (nI po), .int (bI fl_), .ref (ca 4), .int (nI tl), .ref (ca 5)])), (ca 3, .inl (G.2.1, 60, .inl (fun q9 => nI (cs q9)))), (ca 4, .inl (G.2.1, 124, .inl (upd td (4 * tl + k_) (nI ((cs po) - 48)))))] := hD
    refine lv_aload_n hx hb dX7_isFigure_39 rfl (lv_at hl 0 rfl) ?_
    refine lv_dup hx hb dX7_isFigure_40 rfl ?_
    refine va_get (D := G.1) (ci := 7) (v := .int (nI po)) (C := RX7) (T := TX7) (N := 12) hx hb hts hin7 hown hK hP 0 rfl rfl 7 (by decide) (hts (.fieldLink RX7 122 "PowerTablesModel" "at" "I") (List.mem_of_getElem? (i := 4) rfl)) (fun _ h9 => h9) rfl dX7_isFigure_41 ?_
    refine lv_iconst (v := nI 1) hx hb dX7_isFigure_44 (by decide) ?_
    refine ks_iaddN hx hb dX7_isFigure_45 ?_
    refine va_put (D := G.1) (ci := 7) (v := .int (nI (po + 1))) (ty := .int) (C := RX7) (T := TX7) (N := 12) hx hb hts hin7 tyX7 tyX7_ok nmX7 hown hK hP hD hS 0 rfl rfl 7 (by decide) (hts (.fieldLink RX7 122 "PowerTablesModel" "at" "I") (List.mem_of_getElem? (i := 4) rfl)) (fun _ h9 => h9) rfl (tyX7_ok 7 (by decide)) rfl rfl (Nat.le_of_ble_eq_true rfl) dX7_isFigure_46 (fun Hq lcq hP hD hS => ?_)
    have hP : va_P G.1 vwCl [(y_, .inr (7, [.ref (ca 0), .ref (ca 1), .ref (ca 2), .int (nI ke), .ref (ca 3), .int (nI ty_), .int (nI th), .int (nI (po + 1)), .int (bI fl_), .ref (ca 4), .int (nI tl), .ref (ca 5)])), (ca 3, .inl (G.2.1, 60, .inl (fun q9 => nI (cs q9)))), (ca 4, .inl (G.2.1, 124, .inl (upd td (4 * tl + k_) (nI ((cs po) - 48)))))] _ := hP
    have hD : va_D A [(y_, .inr (7, [.ref (ca 0), .ref (ca 1), .ref (ca 2), .int (nI ke), .ref (ca 3), .int (nI ty_), .int (nI th), .int (nI (po + 1)), .int (bI fl_), .ref (ca 4), .int (nI tl), .ref (ca 5)])), (ca 3, .inl (G.2.1, 60, .inl (fun q9 => nI (cs q9)))), (ca 4, .inl (G.2.1, 124, .inl (upd td (4 * tl + k_) (nI ((cs po) - 48)))))] := hD
    refine lv_iconst (v := nI 1) hx hb dX7_isFigure_49 (by decide) ?_
    exact cr_zret hx hb hr hlocks hK hP hD hS (by decide +kernel) dX7_isFigure_50 (by rw [hRR]; exact ⟨(po + 1), (upd td (4 * tl + k_) (nI (cs po - 48))), fl_, congrArg (fun z => some (Value.int z)) (bI_1 c_6), rfl, ⟨fun _ => ⟨rfl, rfl, Iff.rfl⟩, fun h => absurd c_6 h⟩⟩)
  · refine lv_aload_n hx hb dX7_isFigure_9 rfl (lv_at hl 0 rfl) ?_
    refine cr_V (wr := [(ca 3, .inl (G.2.1, 60, .inl (fun q9 => nI (cs q9)))), (ca 4, .inl (G.2.1, 124, .inl (td)))]) (As := []) (rest := []) ⟨hx, hb, hml, hown, hts⟩ (c_X7_stops G l y_ ca ke ty_ th po fl_ tl (by omega) (by omega)) (cwV 0 hts gX7_isFigure_X7_stops rfl rfl rfl (by decide +kernel) ⟨Nat.le_of_ble_eq_true rfl, Nat.le_of_ble_eq_true rfl⟩) dX7_isFigure_10 hK hNX hP hD hS hA hl 0 7 rfl rfl rfl [0] [1, 2] rfl rfl rfl rfl (by decide) rfl (Nat.le_of_ble_eq_true rfl) ⟨Nat.le_of_ble_eq_true rfl, Nat.le_of_ble_eq_true rfl⟩ rfl (fun v' w' Hq lcq hR' hP hD hS => ?_)
    obtain ⟨rfl, rfl⟩ := hR'
    have hP : va_P G.1 vwCl [(y_, .inr (7, [.ref (ca 0), .ref (ca 1), .ref (ca 2), .int (nI ke), .ref (ca 3), .int (nI ty_), .int (nI th), .int (nI po), .int (bI (po < ty_)), .ref (ca 4), .int (nI tl), .ref (ca 5)])), (ca 3, .inl (G.2.1, 60, .inl (fun q9 => nI (cs q9)))), (ca 4, .inl (G.2.1, 124, .inl (td)))] _ := hP.sub [2, 0, 1] rfl
    have hD : va_D A [(y_, .inr (7, [.ref (ca 0), .ref (ca 1), .ref (ca 2), .int (nI ke), .ref (ca 3), .int (nI ty_), .int (nI th), .int (nI po), .int (bI (po < ty_)), .ref (ca 4), .int (nI tl), .ref (ca 5)])), (ca 3, .inl (G.2.1, 60, .inl (fun q9 => nI (cs q9)))), (ca 4, .inl (G.2.1, 124, .inl (td)))] := hD.sub [2, 0, 1] (by decide +kernel) rfl
    exact cr_zret hx hb hr hlocks hK hP hD hS (by decide +kernel) dX7_isFigure_13 (by rw [hRR]; exact ⟨po, td, (po < ty_), congrArg (fun z => some (Value.int z)) (bI_0 c_6), rfl, ⟨fun h => absurd h c_6, fun _ => ⟨rfl, rfl, Iff.rfl⟩⟩⟩)
set_option maxHeartbeats 4000000 in
set_option maxRecDepth 100000 in
theorem c_X7_isRows (G : GG) (l : Launch) (y_ : Nat) (ca : Nat → Nat) (ke : Nat) (ty_ : Nat) (th : Nat) (po : Nat) (fl_ : Prop) (tl : Nat) (cs : Nat → Nat) (td : Nat → Int32) (jty : ty_ ≤ 60) (jcs : ∀ k, k < 60 → cs k < 2 ^ 30) (jtl : tl ≤ 30) (jpo : po ≤ ty_) (js : rnA cs po = 1) : Cr G l yX7_isRows wsX7_isRows ({ frames := 3, cells := 0, slots := 0, locals := 70 }) 0 0 [.ref y_] [(y_, .inr (7, [.ref (ca 0), .ref (ca 1), .ref (ca 2), .int (nI ke), .ref (ca 3), .int (nI ty_), .int (nI th), .int (nI po), .int (bI fl_), .ref (ca 4), .int (nI tl), .ref (ca 5)])), (ca 3, .inl (G.2.1, 60, .inl (fun q9 => nI (cs q9)))), (ca 4, .inl (G.2.1, 124, .inl (td)))] (fun (vv1 : Option Value) (ww1 : va_W) => ∃ (ok9 : Prop) (b9 : Nat) (td9 : Nat → Int32) (fl9 : Prop), vv1 = (some (.int (bI ok9))) ∧ ww1 = [(y_, .inr (7, [.ref (ca 0), .ref (ca 1), .ref (ca 2), .int (nI ke), .ref (ca 3), .int (nI ty_), .int (nI th), .int (nI b9), .int (bI fl9), .ref (ca 4), .int (nI tl), .ref (ca 5)])), (ca 3, .inl (G.2.1, 60, .inl (fun q9 => nI (cs q9)))), (ca 4, .inl (G.2.1, 124, .inl (td9)))] ∧ ((ok9 → CMPb cs ty_ b9 ∧ po < b9 ∧ b9 ≤ ty_ ∧ (∀ i, po ≤ i → i < b9 → cs i ≠ 59) ∧ (NDb cs ty_ b9 → td9 (4 * tl + 1) = nI (nmA cs ty_ po) ∧ 1 ≤ nmA cs ty_ po ∧ nmA cs ty_ po ≤ 40) ∧ (∀ i, i ≠ 4 * tl + 1 → td9 i = td i)) ∧ (¬ ok9 → ERb cs ty_ b9 ∧ (fl9 ↔ b9 < ty_) ∧ b9 ≤ ty_))) := by
  refine cr_intro (cc := cX7_isRows) (maxL := 2) (ret := (some .boolean)) (own := RX7) (by decide) rfl rfl (Nat.le_of_ble_eq_true rfl) ?_
  intro p e s m args below meth c A hx hb hr hml hts hown hlocks hnm hNX hP hK hD hA hS ls hl
  obtain ⟨RR, hRR⟩ : ∃ RR, RR = (fun (vv1 : Option Value) (ww1 : va_W) => ∃ (ok9 : Prop) (b9 : Nat) (td9 : Nat → Int32) (fl9 : Prop), vv1 = (some (.int (bI ok9))) ∧ ww1 = [(y_, .inr (7, [.ref (ca 0), .ref (ca 1), .ref (ca 2), .int (nI ke), .ref (ca 3), .int (nI ty_), .int (nI th), .int (nI b9), .int (bI fl9), .ref (ca 4), .int (nI tl), .ref (ca 5)])), (ca 3, .inl (G.2.1, 60, .inl (fun q9 => nI (cs q9)))), (ca 4, .inl (G.2.1, 124, .inl (td9)))] ∧ ((ok9 → CMPb cs ty_ b9 ∧ po < b9 ∧ b9 ≤ ty_ ∧ (∀ i, po ≤ i → i < b9 → cs i ≠ 59) ∧ (NDb cs ty_ b9 → td9 (4 * tl + 1) = nI (nmA cs ty_ po) ∧ 1 ≤ nmA cs ty_ po ∧ nmA cs ty_ po ≤ 40) ∧ (∀ i, i ≠ 4 * tl + 1 → td9 i = td i)) ∧ (¬ ok9 → ERb cs ty_ b9 ∧ (fl9 ↔ b9 < ty_) ∧ b9 ≤ ty_))) := ⟨_, rfl⟩
  rw [← hRR]
  have hl : lv_has ls 2 [(0, .ref y_)] := hl
  have hin7 : ∀ w ∈ u_ws RX7 TX7 12, w ∈ wsX7_isRows := fun w h => List.mem_cons_of_mem _ (List.mem_append_right _ h)
  refine lv_aload_n hx hb dX7_isRows_0 rfl (lv_at hl 0 rfl) ?_
  refine lv_iconst (v := nI 1) hx hb dX7_isRows_1 (by decide) ?_
  refine lv_bipush (v := nI 49) hx hb dX7_isRows_2 (by decide) ?_
  refine lv_bipush (v := nI 57) hx hb dX7_isRows_4 (by decide) ?_
  refine cr_V (wr := []) (As := [.int (nI 1), .int (nI 49), .int (nI 57)]) (rest := []) ⟨hx, hb, hml, hown, hts⟩ (c_X7_isFigure G l y_ ca ke ty_ th po fl_ tl cs td 1 49 57 (by omega) (jcs) (by omega) (by omega) (by omega) (by omega) (by omega) (by omega)) (cwV 3 hts gX7_isRows_X7_isFigure rfl rfl rfl (by decide +kernel) ⟨Nat.le_of_ble_eq_true rfl, Nat.le_of_ble_eq_true rfl⟩) dX7_isRows_6 hK hNX hP hD hS hA hl 0 7 rfl rfl rfl [0, 1, 2] [] rfl rfl rfl rfl (by decide) rfl (Nat.le_of_ble_eq_true rfl) ⟨Nat.le_of_ble_eq_true rfl, Nat.le_of_ble_eq_true rfl⟩ rfl (fun v' w' Hq lcq hR' hP hD hS => ?_)
  obtain ⟨po9_6, td9_6, fl9_6, rfl, rfl, jq_6⟩ := hR'
  have hP : va_P G.1 vwCl [(y_, .inr (7, [.ref (ca 0), .ref (ca 1), .ref (ca 2), .int (nI ke), .ref (ca 3), .int (nI ty_), .int (nI th), .int (nI po9_6), .int (bI fl9_6), .ref (ca 4), .int (nI tl), .ref (ca 5)])), (ca 3, .inl (G.2.1, 60, .inl (fun q9 => nI (cs q9)))), (ca 4, .inl (G.2.1, 124, .inl (td9_6)))] _ := hP.sub [0, 1, 2] rfl
  have hD : va_D A [(y_, .inr (7, [.ref (ca 0), .ref (ca 1), .ref (ca 2), .int (nI ke), .ref (ca 3), .int (nI ty_), .int (nI th), .int (nI po9_6), .int (bI fl9_6), .ref (ca 4), .int (nI tl), .ref (ca 5)])), (ca 3, .inl (G.2.1, 60, .inl (fun q9 => nI (cs q9)))), (ca 4, .inl (G.2.1, 124, .inl (td9_6)))] := hD.sub [0, 1, 2] (by decide +kernel) rfl
  refine ks_ifb_ne (tgt := 14) hx hb dX7_isRows_9 (by decide) (fun c_9 => ?_) (fun c_9 => ?_)
  · obtain ⟨rfl, rfl, -⟩ := jq_6.1 c_9
    obtain ⟨jf1, jf2, jf3⟩ := c_9
    refine lv_aload_n hx hb dX7_isRows_14 rfl (lv_at hl 0 rfl) ?_
    refine va_get (D := G.1) (ci := 7) (v := .ref (ca 4)) (C := RX7) (T := TX7) (N := 12) hx hb hts hin7 hown hK hP 0 rfl rfl 9 (by decide) (hts (.fieldLink RX7 23 "PowerTablesModel" "told" "[I") (List.mem_of_getElem? (i := 1) rfl)) (fun _ h9 => h9) rfl dX7_isRows_15 ?_
    refine lv_iconst (v := nI 4) hx hb dX7_isRows_18 (by decide) ?_
    refine lv_aload_n hx hb dX7_isRows_19 rfl (lv_at hl 0 rfl) ?_
    refine va_get (D := G.1) (ci := 7) (v := .int (nI tl)) (C := RX7) (T := TX7) (N := 12) hx hb hts hin7 hown hK hP 0 rfl rfl 10 (by decide) (hts (.fieldLink RX7 137 "PowerTablesModel" "tolds" "I") (List.mem_of_getElem? (i := 2) rfl)) (fun _ h9 => h9) rfl dX7_isRows_20 ?_
    refine ks_imulN hx hb dX7_isRows_23 ?_
    refine lv_iconst (v := nI 1) hx hb dX7_isRows_24 (by decide) ?_
    refine ks_iaddN hx hb dX7_isRows_25 ?_
    refine ks_iald hx hb hK hP 2 rfl (by omega) (by decide) dX7_isRows_26 ?_
    refine ks_vI (show (upd td (4 * tl + 1) (nI (cs po - 48))) (4 * tl + 1) = nI (cs po - 48) from upd_s) ?_
    refine lv_istore_n (lv' := [(1, .int (nI (cs po - 48))), (0, .ref y_)]) hx hb dX7_isRows_27 rfl hl (by decide) rfl (fun ls hl => ?_)
    refine lv_aload_n hx hb dX7_isRows_28 rfl (lv_at hl 1 rfl) ?_
    refine lv_bipush (v := nI 48) hx hb dX7_isRows_29 (by decide) ?_
    refine lv_bipush (v := nI 57) hx hb dX7_isRows_31 (by decide) ?_
    refine cr_V (wr := [(ca 4, .inl (G.2.1, 124, .inl (upd td (4 * tl + 1) (nI (cs po - 48)))))]) (As := [.int (nI 48), .int (nI 57)]) (rest := []) ⟨hx, hb, hml, hown, hts⟩ (c_X7_isAt G l y_ ca ke ty_ th (po + 1) fl9_6 tl cs 48 57 (by omega) (jcs) (by omega) (by omega) (by omega)) (cwV 2 hts gX7_isRows_X7_isAt rfl rfl rfl (by decide +kernel) ⟨Nat.le_of_ble_eq_true rfl, Nat.le_of_ble_eq_true rfl⟩) dX7_isRows_33 hK hNX hP hD hS hA hl 0 7 rfl rfl rfl [0, 1] [2] rfl rfl rfl rfl (by decide) rfl (Nat.le_of_ble_eq_true rfl) ⟨Nat.le_of_ble_eq_true rfl, Nat.le_of_ble_eq_true rfl⟩ rfl (fun v' w' Hq lcq hR' hP hD hS => ?_)
    obtain ⟨rfl, rfl⟩ := hR'
    have hP : va_P G.1 vwCl [(y_, .inr (7, [.ref (ca 0), .ref (ca 1), .ref (ca 2), .int (nI ke), .ref (ca 3), .int (nI ty_), .int (nI th), .int (nI (po + 1)), .int (bI fl9_6), .ref (ca 4), .int (nI tl), .ref (ca 5)])), (ca 3, .inl (G.2.1, 60, .inl (fun q9 => nI (cs q9)))), (ca 4, .inl (G.2.1, 124, .inl (upd td (4 * tl + 1) (nI (cs po - 48)))))] _ := hP.sub [1, 2, 0] rfl
    have hD : va_D A [(y_, .inr (7, [.ref (ca 0), .ref (ca 1), .ref (ca 2), .int (nI ke), .ref (ca 3), .int (nI ty_), .int (nI th), .int (nI (po + 1)), .int (bI fl9_6), .ref (ca 4), .int (nI tl), .ref (ca 5)])), (ca 3, .inl (G.2.1, 60, .inl (fun q9 => nI (cs q9)))), (ca 4, .inl (G.2.1, 124, .inl (upd td (4 * tl + 1) (nI (cs po - 48)))))] := hD.sub [1, 2, 0] (by decide +kernel) rfl
    refine ks_ifb_eq (tgt := 101) hx hb dX7_isRows_36 (by decide) (fun c_36 => ?_) (fun c_36 => ?_)
    · have jn2 : ¬ (po + 1 < ty_ ∧ (48 ≤ cs (po + 1) ∧ cs (po + 1) ≤ 57) ∧ 10 * (cs po - 48) + cs (po + 1) - 48 ≤ 40) := fun z => c_36 ⟨z.1, z.2.1⟩
      refine lv_iconst (v := nI 1) hx hb dX7_isRows_101 (by decide) ?_
      exact cr_zret hx hb hr hlocks hK hP hD hS (by decide +kernel) dX7_isRows_102 (by rw [hRR]; exact ⟨True, _, _, _, congrArg (fun z => some (Value.int z)) (bI_1 trivial), rfl, ⟨fun _ => ⟨s1_1 js ⟨jf2, jf3⟩ jn2, by omega, by omega, fun i h1 h2 => by rw [show i = po by omega]; omega, fun hN => by rw [nm_1 jf1 ⟨jf2, jf3⟩ hN]; exact ⟨upd_s, by omega, by omega⟩, fun i hi => upd_n hi⟩, fun h => absurd trivial h⟩⟩)
    · have jc8 := jcs (po + 1) (by omega)
      refine lv_bipush (v := nI 10) hx hb dX7_isRows_39 (by decide) ?_
      refine lv_iload_n hx hb dX7_isRows_41 rfl (lv_at hl 0 rfl) ?_
      refine ks_imulN hx hb dX7_isRows_42 ?_
      refine lv_aload_n hx hb dX7_isRows_43 rfl (lv_at hl 1 rfl) ?_
      refine va_get (D := G.1) (ci := 7) (v := .ref (ca 3)) (C := RX7) (T := TX7) (N := 12) hx hb hts hin7 hown hK hP 0 rfl rfl 4 (by decide) (hts (.fieldLink RX7 19 "PowerTablesModel" "text" "[I") (List.mem_of_getElem? (i := 3) rfl)) (fun _ h9 => h9) rfl dX7_isRows_44 ?_
      refine lv_aload_n hx hb dX7_isRows_47 rfl (lv_at hl 1 rfl) ?_
      refine va_get (D := G.1) (ci := 7) (v := .int (nI (po + 1))) (C := RX7) (T := TX7) (N := 12) hx hb hts hin7 hown hK hP 0 rfl rfl 7 (by decide) (hts (.fieldLink RX7 122 "PowerTablesModel" "at" "I") (List.mem_of_getElem? (i := 4) rfl)) (fun _ h9 => h9) rfl dX7_isRows_48 ?_
      refine ks_iald hx hb hK hP 1 rfl (by omega) (by decide) dX7_isRows_51 ?_
      refine ks_iaddN hx hb dX7_isRows_52 ?_
      refine lv_bipush (v := nI 48) hx hb dX7_isRows_53 (by decide) ?_
      refine ks_isubN hx hb dX7_isRows_55 (by omega) ?_
      refine lv_bipush (v := nI 40) hx hb dX7_isRows_56 (by decide) ?_
      refine ks_icmp_gt (tgt := 101) hx hb dX7_isRows_58 (by decide) (by omega) (by omega) (fun c_58 => ?_) (fun c_58 => ?_)
      · have jn2 : ¬ (po + 1 < ty_ ∧ (48 ≤ cs (po + 1) ∧ cs (po + 1) ≤ 57) ∧ 10 * (cs po - 48) + cs (po + 1) - 48 ≤ 40) := fun z => by omega
        refine lv_iconst (v := nI 1) hx hb dX7_isRows_101 (by decide) ?_
        exact cr_zret hx hb hr hlocks hK hP hD hS (by decide +kernel) dX7_isRows_102 (by rw [hRR]; exact ⟨True, _, _, _, congrArg (fun z => some (Value.int z)) (bI_1 trivial), rfl, ⟨fun _ => ⟨s1_1 js ⟨jf2, jf3⟩ jn2, by omega, by omega, fun i h1 h2 => by rw [show i = po by omega]; omega, fun hN => by rw [nm_1 jf1 ⟨jf2, jf3⟩ hN]; exact ⟨upd_s, by omega, by omega⟩, fun i hi => upd_n hi⟩, fun h => absurd trivial h⟩⟩)
      · refine lv_aload_n hx hb dX7_isRows_61 rfl (lv_at hl 1 rfl) ?_
        refine va_get (D := G.1) (ci := 7) (v := .ref (ca 4)) (C := RX7) (T := TX7) (N := 12) hx hb hts hin7 hown hK hP 0 rfl rfl 9 (by decide) (hts (.fieldLink RX7 23 "PowerTablesModel" "told" "[I") (List.mem_of_getElem? (i := 1) rfl)) (fun _ h9 => h9) rfl dX7_isRows_62 ?_
        refine lv_iconst (v := nI 4) hx hb dX7_isRows_65 (by decide) ?_
        refine lv_aload_n hx hb dX7_isRows_66 rfl (lv_at hl 1 rfl) ?_
        refine va_get (D := G.1) (ci := 7) (v := .int (nI tl)) (C := RX7) (T := TX7) (N := 12) hx hb hts hin7 hown hK hP 0 rfl rfl 10 (by decide) (hts (.fieldLink RX7 137 "PowerTablesModel" "tolds" "I") (List.mem_of_getElem? (i := 2) rfl)) (fun _ h9 => h9) rfl dX7_isRows_67 ?_
        refine ks_imulN hx hb dX7_isRows_70 ?_
        refine lv_iconst (v := nI 1) hx hb dX7_isRows_71 (by decide) ?_
        refine ks_iaddN hx hb dX7_isRows_72 ?_
        refine lv_bipush (v := nI 10) hx hb dX7_isRows_73 (by decide) ?_
        refine lv_iload_n hx hb dX7_isRows_75 rfl (lv_at hl 0 rfl) ?_
        refine ks_imulN hx hb dX7_isRows_76 ?_
        refine lv_aload_n hx hb dX7_isRows_77 rfl (lv_at hl 1 rfl) ?_
        refine va_get (D := G.1) (ci := 7) (v := .ref (ca 3)) (C := RX7) (T := TX7) (N := 12) hx hb hts hin7 hown hK hP 0 rfl rfl 4 (by decide) (hts (.fieldLink RX7 19 "PowerTablesModel" "text" "[I") (List.mem_of_getElem? (i := 3) rfl)) (fun _ h9 => h9) rfl dX7_isRows_78 ?_
        refine lv_aload_n hx hb dX7_isRows_81 rfl (lv_at hl 1 rfl) ?_
        refine va_get (D := G.1) (ci := 7) (v := .int (nI (po + 1))) (C := RX7) (T := TX7) (N := 12) hx hb hts hin7 hown hK hP 0 rfl rfl 7 (by decide) (hts (.fieldLink RX7 122 "PowerTablesModel" "at" "I") (List.mem_of_getElem? (i := 4) rfl)) (fun _ h9 => h9) rfl dX7_isRows_82 ?_
        refine ks_iald hx hb hK hP 1 rfl (by omega) (by decide) dX7_isRows_85 ?_
        refine ks_iaddN hx hb dX7_isRows_86 ?_
        refine lv_bipush (v := nI 48) hx hb dX7_isRows_87 (by decide) ?_
        refine ks_isubN hx hb dX7_isRows_89 (by omega) ?_
        refine ks_iast (f' := upd (upd td (4 * tl + 1) (nI (cs po - 48))) (4 * tl + 1) (nI (((10 * (cs po - 48)) + (cs (po + 1))) - 48))) hx hb hK hP hD hS 2 rfl (by omega) (by decide) (rfl) dX7_isRows_90 (fun Hq lcq hP hD hS => ?_)
        have hP : va_P G.1 vwCl [(y_, .inr (7, [.ref (ca 0), .ref (ca 1), .ref (ca 2), .int (nI ke), .ref (ca 3), .int (nI ty_), .int (nI th), .int (nI (po + 1)), .int (bI fl9_6), .ref (ca 4), .int (nI tl), .ref (ca 5)])), (ca 3, .inl (G.2.1, 60, .inl (fun q9 => nI (cs q9)))), (ca 4, .inl (G.2.1, 124, .inl (upd (upd td (4 * tl + 1) (nI (cs po - 48))) (4 * tl + 1) (nI (((10 * (cs po - 48)) + (cs (po + 1))) - 48)))))] _ := hP
        have hD : va_D A [(y_, .inr (7, [.ref (ca 0), .ref (ca 1), .ref (ca 2), .int (nI ke), .ref (ca 3), .int (nI ty_), .int (nI th), .int (nI (po + 1)), .int (bI fl9_6), .ref (ca 4), .int (nI tl), .ref (ca 5)])), (ca 3, .inl (G.2.1, 60, .inl (fun q9 => nI (cs q9)))), (ca 4, .inl (G.2.1, 124, .inl (upd (upd td (4 * tl + 1) (nI (cs po - 48))) (4 * tl + 1) (nI (((10 * (cs po - 48)) + (cs (po + 1))) - 48)))))] := hD
        refine lv_aload_n hx hb dX7_isRows_91 rfl (lv_at hl 1 rfl) ?_
        refine lv_dup hx hb dX7_isRows_92 rfl ?_
        refine va_get (D := G.1) (ci := 7) (v := .int (nI (po + 1))) (C := RX7) (T := TX7) (N := 12) hx hb hts hin7 hown hK hP 0 rfl rfl 7 (by decide) (hts (.fieldLink RX7 122 "PowerTablesModel" "at" "I") (List.mem_of_getElem? (i := 4) rfl)) (fun _ h9 => h9) rfl dX7_isRows_93 ?_
        refine lv_iconst (v := nI 1) hx hb dX7_isRows_96 (by decide) ?_
        refine ks_iaddN hx hb dX7_isRows_97 ?_
        refine va_put (D := G.1) (ci := 7) (v := .int (nI (po + 1 + 1))) (ty := .int) (C := RX7) (T := TX7) (N := 12) hx hb hts hin7 tyX7 tyX7_ok nmX7 hown hK hP hD hS 0 rfl rfl 7 (by decide) (hts (.fieldLink RX7 122 "PowerTablesModel" "at" "I") (List.mem_of_getElem? (i := 4) rfl)) (fun _ h9 => h9) rfl (tyX7_ok 7 (by decide)) rfl rfl (Nat.le_of_ble_eq_true rfl) dX7_isRows_98 (fun Hq lcq hP hD hS => ?_)
        have hP : va_P G.1 vwCl [(y_, .inr (7, [.ref (ca 0), .ref (ca 1), .ref (ca 2), .int (nI ke), .ref (ca 3), .int (nI ty_), .int (nI th), .int (nI (po + 1 + 1)), .int (bI fl9_6), .ref (ca 4), .int (nI tl), .ref (ca 5)])), (ca 3, .inl (G.2.1, 60, .inl (fun q9 => nI (cs q9)))), (ca 4, .inl (G.2.1, 124, .inl (upd (upd td (4 * tl + 1) (nI (cs po - 48))) (4 * tl + 1) (nI (((10 * (cs po - 48)) + (cs (po + 1))) - 48)))))] _ := hP
        have hD : va_D A [(y_, .inr (7, [.ref (ca 0), .ref (ca 1), .ref (ca 2), .int (nI ke), .ref (ca 3), .int (nI ty_), .int (nI th), .int (nI (po + 1 + 1)), .int (bI fl9_6), .ref (ca 4), .int (nI tl), .ref (ca 5)])), (ca 3, .inl (G.2.1, 60, .inl (fun q9 => nI (cs q9)))), (ca 4, .inl (G.2.1, 124, .inl (upd (upd td (4 * tl + 1) (nI (cs po - 48))) (4 * tl + 1) (nI (((10 * (cs po - 48)) + (cs (po + 1))) - 48)))))] := hD
        refine lv_iconst (v := nI 1) hx hb dX7_isRows_101 (by decide) ?_
        exact cr_zret hx hb hr hlocks hK hP hD hS (by decide +kernel) dX7_isRows_102 (by rw [hRR]; exact ⟨True, _, _, _, congrArg (fun z => some (Value.int z)) (bI_1 trivial), rfl, ⟨fun _ => ⟨nx9 (s1_2 js ⟨jf2, jf3⟩ c_36.2 c_58) ty_, by omega, by omega, fun i h1 h2 => (show i = po ∨ i = po + 1 by omega).elim (fun e => by rw [e]; omega) (fun e => by rw [e]; omega), fun _ => by rw [nm_2 c_36.1 ⟨jf2, jf3⟩ c_36.2]; exact ⟨upd_s, by omega, by omega⟩, fun i hi => (upd_n hi).trans (upd_n hi)⟩, fun h => absurd trivial h⟩⟩)
  · obtain ⟨ez1, ez2, jfl⟩ := jq_6.2 c_9
    rw [ez1, ez2] at hP hD
    refine lv_iconst (v := nI 0) hx hb dX7_isRows_12 (by decide) ?_
    exact cr_zret hx hb hr hlocks hK hP hD hS (by decide +kernel) dX7_isRows_13 (by rw [hRR]; exact ⟨False, po, td, fl9_6, congrArg (fun z => some (Value.int z)) (bI_0 (fun z => z)), rfl, ⟨fun h => h.elim, fun _ => ⟨s1_n js c_9, jfl, jpo⟩⟩⟩)
set_option maxHeartbeats 4000000 in
set_option maxRecDepth 100000 in
theorem c_X7_isSlip (G : GG) (l : Launch) (y_ : Nat) (ca : Nat → Nat) (ke : Nat) (ty_ : Nat) (th : Nat) (po : Nat) (fl_ : Prop) (tl : Nat) (cs : Nat → Nat) (td : Nat → Int32) (jty : ty_ ≤ 60) (jcs : ∀ k, k < 60 → cs k < 2 ^ 30) (jtl : tl ≤ 30) (jpo : po ≤ ty_) (js : rnA cs po = 4) : Cr G l yX7_isSlip wsX7_isSlip ({ frames := 3, cells := 0, slots := 0, locals := 70 }) 0 0 [.ref y_] [(y_, .inr (7, [.ref (ca 0), .ref (ca 1), .ref (ca 2), .int (nI ke), .ref (ca 3), .int (nI ty_), .int (nI th), .int (nI po), .int (bI fl_), .ref (ca 4), .int (nI tl), .ref (ca 5)])), (ca 3, .inl (G.2.1, 60, .inl (fun q9 => nI (cs q9)))), (ca 4, .inl (G.2.1, 124, .inl (td)))] (fun (vv1 : Option Value) (ww1 : va_W) => ∃ (ok9 : Prop) (b9 : Nat) (td9 : Nat → Int32) (fl9 : Prop), vv1 = (some (.int (bI ok9))) ∧ ww1 = [(y_, .inr (7, [.ref (ca 0), .ref (ca 1), .ref (ca 2), .int (nI ke), .ref (ca 3), .int (nI ty_), .int (nI th), .int (nI b9), .int (bI fl9), .ref (ca 4), .int (nI tl), .ref (ca 5)])), (ca 3, .inl (G.2.1, 60, .inl (fun q9 => nI (cs q9)))), (ca 4, .inl (G.2.1, 124, .inl (td9)))] ∧ ((ok9 → CMPb cs ty_ b9 ∧ b9 = po + 4 ∧ b9 ≤ ty_ ∧ (∀ i, po ≤ i → i < b9 → cs i ≠ 59) ∧ td9 (4 * tl + 1) = nI (dgA cs ty_ po) ∧ dgA cs ty_ po < 6 ∧ td9 (4 * tl + 2) = nI (dgA cs ty_ (po + 1)) ∧ td9 (4 * tl + 3) = (if cdA cs ty_ (po + 2) = 45 then -(nI (dgA cs ty_ (po + 3))) else nI (dgA cs ty_ (po + 3))) ∧ (∀ i, i < 4 * tl + 1 → td9 i = td i)) ∧ (¬ ok9 → ERb cs ty_ b9 ∧ (fl9 ↔ b9 < ty_) ∧ b9 ≤ ty_))) := by
  refine cr_intro (cc := cX7_isSlip) (maxL := 2) (ret := (some .boolean)) (own := RX7) (by decide) rfl rfl (Nat.le_of_ble_eq_true rfl) ?_
  intro p e s m args below meth c A hx hb hr hml hts hown hlocks hnm hNX hP hK hD hA hS ls hl
  obtain ⟨RR, hRR⟩ : ∃ RR, RR = (fun (vv1 : Option Value) (ww1 : va_W) => ∃ (ok9 : Prop) (b9 : Nat) (td9 : Nat → Int32) (fl9 : Prop), vv1 = (some (.int (bI ok9))) ∧ ww1 = [(y_, .inr (7, [.ref (ca 0), .ref (ca 1), .ref (ca 2), .int (nI ke), .ref (ca 3), .int (nI ty_), .int (nI th), .int (nI b9), .int (bI fl9), .ref (ca 4), .int (nI tl), .ref (ca 5)])), (ca 3, .inl (G.2.1, 60, .inl (fun q9 => nI (cs q9)))), (ca 4, .inl (G.2.1, 124, .inl (td9)))] ∧ ((ok9 → CMPb cs ty_ b9 ∧ b9 = po + 4 ∧ b9 ≤ ty_ ∧ (∀ i, po ≤ i → i < b9 → cs i ≠ 59) ∧ td9 (4 * tl + 1) = nI (dgA cs ty_ po) ∧ dgA cs ty_ po < 6 ∧ td9 (4 * tl + 2) = nI (dgA cs ty_ (po + 1)) ∧ td9 (4 * tl + 3) = (if cdA cs ty_ (po + 2) = 45 then -(nI (dgA cs ty_ (po + 3))) else nI (dgA cs ty_ (po + 3))) ∧ (∀ i, i < 4 * tl + 1 → td9 i = td i)) ∧ (¬ ok9 → ERb cs ty_ b9 ∧ (fl9 ↔ b9 < ty_) ∧ b9 ≤ ty_))) := ⟨_, rfl⟩
  rw [← hRR]
  have hl : lv_has ls 2 [(0, .ref y_)] := hl
  have hin7 : ∀ w ∈ u_ws RX7 TX7 12, w ∈ wsX7_isSlip := fun w h => List.mem_cons_of_mem _ (List.mem_append_right _ h)
  refine lv_aload_n hx hb dX7_isSlip_0 rfl (lv_at hl 0 rfl) ?_
  refine lv_iconst (v := nI 1) hx hb dX7_isSlip_1 (by decide) ?_
  refine lv_bipush (v := nI 48) hx hb dX7_isSlip_2 (by decide) ?_
  refine lv_bipush (v := nI 53) hx hb dX7_isSlip_4 (by decide) ?_
  refine cr_V (wr := []) (As := [.int (nI 1), .int (nI 48), .int (nI 53)]) (rest := []) ⟨hx, hb, hml, hown, hts⟩ (c_X7_isFigure G l y_ ca ke ty_ th po fl_ tl cs td 1 48 53 (by omega) (jcs) (by omega) (by omega) (by omega) (by omega) (by omega) (by omega)) (cwV 3 hts gX7_isSlip_X7_isFigure rfl rfl rfl (by decide +kernel) ⟨Nat.le_of_ble_eq_true rfl, Nat.le_of_ble_eq_true rfl⟩) dX7_isSlip_6 hK hNX hP hD hS hA hl 0 7 rfl rfl rfl [0, 1, 2] [] rfl rfl rfl rfl (by decide) rfl (Nat.le_of_ble_eq_true rfl) ⟨Nat.le_of_ble_eq_true rfl, Nat.le_of_ble_eq_true rfl⟩ rfl (fun v' w' Hq lcq hR' hP hD hS => ?_)
  obtain ⟨po9_6, td9_6, fl9_6, rfl, rfl, jq_6⟩ := hR'
  have hP : va_P G.1 vwCl [(y_, .inr (7, [.ref (ca 0), .ref (ca 1), .ref (ca 2), .int (nI ke), .ref (ca 3), .int (nI ty_), .int (nI th), .int (nI po9_6), .int (bI fl9_6), .ref (ca 4), .int (nI tl), .ref (ca 5)])), (ca 3, .inl (G.2.1, 60, .inl (fun q9 => nI (cs q9)))), (ca 4, .inl (G.2.1, 124, .inl (td9_6)))] _ := hP.sub [0, 1, 2] rfl
  have hD : va_D A [(y_, .inr (7, [.ref (ca 0), .ref (ca 1), .ref (ca 2), .int (nI ke), .ref (ca 3), .int (nI ty_), .int (nI th), .int (nI po9_6), .int (bI fl9_6), .ref (ca 4), .int (nI tl), .ref (ca 5)])), (ca 3, .inl (G.2.1, 60, .inl (fun q9 => nI (cs q9)))), (ca 4, .inl (G.2.1, 124, .inl (td9_6)))] := hD.sub [0, 1, 2] (by decide +kernel) rfl
  refine ks_ifb_eq (tgt := 24) hx hb dX7_isSlip_9 (by decide) (fun c_9 => ?_) (fun c_9 => ?_)
  · obtain ⟨ez1, ez2, jfl⟩ := jq_6.2 c_9
    rw [ez1, ez2] at hP hD
    refine lv_iconst (v := nI 0) hx hb dX7_isSlip_24 (by decide) ?_
    exact cr_zret hx hb hr hlocks hK hP hD hS (by decide +kernel) dX7_isSlip_25 (by rw [hRR]; exact ⟨False, _, _, _, congrArg (fun z => some (Value.int z)) (bI_0 (fun z => z)), rfl, ⟨fun h => h.elim, fun _ => ⟨s4_n js c_9, jfl, jpo⟩⟩⟩)
  · obtain ⟨rfl, rfl, -⟩ := jq_6.1 c_9
    have js5 := s4_y js ⟨c_9.2.1, c_9.2.2⟩
    refine lv_aload_n hx hb dX7_isSlip_12 rfl (lv_at hl 0 rfl) ?_
    refine lv_iconst (v := nI 2) hx hb dX7_isSlip_13 (by decide) ?_
    refine lv_bipush (v := nI 48) hx hb dX7_isSlip_14 (by decide) ?_
    refine lv_bipush (v := nI 57) hx hb dX7_isSlip_16 (by decide) ?_
    refine cr_V (wr := []) (As := [.int (nI 2), .int (nI 48), .int (nI 57)]) (rest := []) ⟨hx, hb, hml, hown, hts⟩ (c_X7_isFigure G l y_ ca ke ty_ th (po + 1) fl9_6 tl cs (upd td (4 * tl + 1) (nI (cs po - 48))) 2 48 57 (by omega) (jcs) (by omega) (by omega) (by omega) (by omega) (by omega) (by omega)) (cwV 3 hts gX7_isSlip_X7_isFigure rfl rfl rfl (by decide +kernel) ⟨Nat.le_of_ble_eq_true rfl, Nat.le_of_ble_eq_true rfl⟩) dX7_isSlip_18 hK hNX hP hD hS hA hl 0 7 rfl rfl rfl [0, 1, 2] [] rfl rfl rfl rfl (by decide) rfl (Nat.le_of_ble_eq_true rfl) ⟨Nat.le_of_ble_eq_true rfl, Nat.le_of_ble_eq_true rfl⟩ rfl (fun v' w' Hq lcq hR' hP hD hS => ?_)
    obtain ⟨po9_18, td9_18, fl9_18, rfl, rfl, jq_18⟩ := hR'
    have hP : va_P G.1 vwCl [(y_, .inr (7, [.ref (ca 0), .ref (ca 1), .ref (ca 2), .int (nI ke), .ref (ca 3), .int (nI ty_), .int (nI th), .int (nI po9_18), .int (bI fl9_18), .ref (ca 4), .int (nI tl), .ref (ca 5)])), (ca 3, .inl (G.2.1, 60, .inl (fun q9 => nI (cs q9)))), (ca 4, .inl (G.2.1, 124, .inl (td9_18)))] _ := hP.sub [0, 1, 2] rfl
    have hD : va_D A [(y_, .inr (7, [.ref (ca 0), .ref (ca 1), .ref (ca 2), .int (nI ke), .ref (ca 3), .int (nI ty_), .int (nI th), .int (nI po9_18), .int (bI fl9_18), .ref (ca 4), .int (nI tl), .ref (ca 5)])), (ca 3, .inl (G.2.1, 60, .inl (fun q9 => nI (cs q9)))), (ca 4, .inl (G.2.1, 124, .inl (td9_18)))] := hD.sub [0, 1, 2] (by decide +kernel) rfl
    refine ks_ifb_ne (tgt := 26) hx hb dX7_isSlip_21 (by decide) (fun c_21 => ?_) (fun c_21 => ?_)
    · obtain ⟨rfl, rfl, -⟩ := jq_18.1 c_21
      have js6 := s5_y js5 ⟨c_21.2.1, c_21.2.2⟩
      refine lv_aload_n hx hb dX7_isSlip_26 rfl (lv_at hl 0 rfl) ?_
      refine lv_bipush (v := nI 43) hx hb dX7_isSlip_27 (by decide) ?_
      refine lv_bipush (v := nI 43) hx hb dX7_isSlip_29 (by decide) ?_
      refine cr_V (wr := [(ca 4, .inl (G.2.1, 124, .inl (upd (upd td (4 * tl + 1) (nI (cs po - 48))) (4 * tl + 2) (nI (cs (po + 1) - 48)))))]) (As := [.int (nI 43), .int (nI 43)]) (rest := []) ⟨hx, hb, hml, hown, hts⟩ (c_X7_isAt G l y_ ca ke ty_ th (po + 1 + 1) fl9_18 tl cs 43 43 (by omega) (jcs) (by omega) (by omega) (by omega)) (cwV 2 hts gX7_isSlip_X7_isAt rfl rfl rfl (by decide +kernel) ⟨Nat.le_of_ble_eq_true rfl, Nat.le_of_ble_eq_true rfl⟩) dX7_isSlip_31 hK hNX hP hD hS hA hl 0 7 rfl rfl rfl [0, 1] [2] rfl rfl rfl rfl (by decide) rfl (Nat.le_of_ble_eq_true rfl) ⟨Nat.le_of_ble_eq_true rfl, Nat.le_of_ble_eq_true rfl⟩ rfl (fun v' w' Hq lcq hR' hP hD hS => ?_)
      obtain ⟨rfl, rfl⟩ := hR'
      have hP : va_P G.1 vwCl [(y_, .inr (7, [.ref (ca 0), .ref (ca 1), .ref (ca 2), .int (nI ke), .ref (ca 3), .int (nI ty_), .int (nI th), .int (nI (po + 1 + 1)), .int (bI fl9_18), .ref (ca 4), .int (nI tl), .ref (ca 5)])), (ca 3, .inl (G.2.1, 60, .inl (fun q9 => nI (cs q9)))), (ca 4, .inl (G.2.1, 124, .inl (upd (upd td (4 * tl + 1) (nI (cs po - 48))) (4 * tl + 2) (nI (cs (po + 1) - 48)))))] _ := hP.sub [1, 2, 0] rfl
      have hD : va_D A [(y_, .inr (7, [.ref (ca 0), .ref (ca 1), .ref (ca 2), .int (nI ke), .ref (ca 3), .int (nI ty_), .int (nI th), .int (nI (po + 1 + 1)), .int (bI fl9_18), .ref (ca 4), .int (nI tl), .ref (ca 5)])), (ca 3, .inl (G.2.1, 60, .inl (fun q9 => nI (cs q9)))), (ca 4, .inl (G.2.1, 124, .inl (upd (upd td (4 * tl + 1) (nI (cs po - 48))) (4 * tl + 2) (nI (cs (po + 1) - 48)))))] := hD.sub [1, 2, 0] (by decide +kernel) rfl
      refine ks_ifb_ne (tgt := 53) hx hb dX7_isSlip_34 (by decide) (fun c_34 => ?_) (fun c_34 => ?_)
      · have z2 : cs (po + 2) = 43 := Nat.le_antisymm c_34.2.2 c_34.2.1
        have js7 : rnA cs (po + 1 + 1 + 1) = 7 := s6_y js6 (Or.inl z2)
        have jd2 := jcs (po + 2) (by omega)
        refine lv_aload_n hx hb dX7_isSlip_53 rfl (lv_at hl 0 rfl) ?_
        refine va_get (D := G.1) (ci := 7) (v := .ref (ca 3)) (C := RX7) (T := TX7) (N := 12) hx hb hts hin7 hown hK hP 0 rfl rfl 4 (by decide) (hts (.fieldLink RX7 19 "PowerTablesModel" "text" "[I") (List.mem_of_getElem? (i := 1) rfl)) (fun _ h9 => h9) rfl dX7_isSlip_54 ?_
        refine lv_aload_n hx hb dX7_isSlip_57 rfl (lv_at hl 0 rfl) ?_
        refine va_get (D := G.1) (ci := 7) (v := .int (nI (po + 1 + 1))) (C := RX7) (T := TX7) (N := 12) hx hb hts hin7 hown hK hP 0 rfl rfl 7 (by decide) (hts (.fieldLink RX7 122 "PowerTablesModel" "at" "I") (List.mem_of_getElem? (i := 2) rfl)) (fun _ h9 => h9) rfl dX7_isSlip_58 ?_
        refine ks_iald hx hb hK hP 1 rfl (by omega) (by decide) dX7_isSlip_61 ?_
        refine lv_bipush (v := nI 45) hx hb dX7_isSlip_62 (by decide) ?_
        refine ks_icmp_ne (tgt := 71) hx hb dX7_isSlip_64 (by decide) (by omega) (by omega) (fun c_64 => ?_) (fun c_64 => ?_)
        · refine lv_iconst (v := nI 1) hx hb dX7_isSlip_71 (by decide) ?_
          refine lv_istore_n (lv' := [(1, .int (nI 1)), (0, .ref y_)]) hx hb dX7_isSlip_72 rfl hl (by decide) rfl (fun ls hl => ?_)
          refine lv_aload_n hx hb dX7_isSlip_73 rfl (lv_at hl 1 rfl) ?_
          refine lv_dup hx hb dX7_isSlip_74 rfl ?_
          refine va_get (D := G.1) (ci := 7) (v := .int (nI (po + 1 + 1))) (C := RX7) (T := TX7) (N := 12) hx hb hts hin7 hown hK hP 0 rfl rfl 7 (by decide) (hts (.fieldLink RX7 122 "PowerTablesModel" "at" "I") (List.mem_of_getElem? (i := 2) rfl)) (fun _ h9 => h9) rfl dX7_isSlip_75 ?_
          refine lv_iconst (v := nI 1) hx hb dX7_isSlip_78 (by decide) ?_
          refine ks_iaddN hx hb dX7_isSlip_79 ?_
          refine va_put (D := G.1) (ci := 7) (v := .int (nI (po + 1 + 1 + 1))) (ty := .int) (C := RX7) (T := TX7) (N := 12) hx hb hts hin7 tyX7 tyX7_ok nmX7 hown hK hP hD hS 0 rfl rfl 7 (by decide) (hts (.fieldLink RX7 122 "PowerTablesModel" "at" "I") (List.mem_of_getElem? (i := 2) rfl)) (fun _ h9 => h9) rfl (tyX7_ok 7 (by decide)) rfl rfl (Nat.le_of_ble_eq_true rfl) dX7_isSlip_80 (fun Hq lcq hP hD hS => ?_)
          have hP : va_P G.1 vwCl [(y_, .inr (7, [.ref (ca 0), .ref (ca 1), .ref (ca 2), .int (nI ke), .ref (ca 3), .int (nI ty_), .int (nI th), .int (nI (po + 1 + 1 + 1)), .int (bI fl9_18), .ref (ca 4), .int (nI tl), .ref (ca 5)])), (ca 3, .inl (G.2.1, 60, .inl (fun q9 => nI (cs q9)))), (ca 4, .inl (G.2.1, 124, .inl (upd (upd td (4 * tl + 1) (nI (cs po - 48))) (4 * tl + 2) (nI (cs (po + 1) - 48)))))] _ := hP
          have hD : va_D A [(y_, .inr (7, [.ref (ca 0), .ref (ca 1), .ref (ca 2), .int (nI ke), .ref (ca 3), .int (nI ty_), .int (nI th), .int (nI (po + 1 + 1 + 1)), .int (bI fl9_18), .ref (ca 4), .int (nI tl), .ref (ca 5)])), (ca 3, .inl (G.2.1, 60, .inl (fun q9 => nI (cs q9)))), (ca 4, .inl (G.2.1, 124, .inl (upd (upd td (4 * tl + 1) (nI (cs po - 48))) (4 * tl + 2) (nI (cs (po + 1) - 48)))))] := hD
          refine lv_aload_n hx hb dX7_isSlip_83 rfl (lv_at hl 1 rfl) ?_
          refine lv_iconst (v := nI 3) hx hb dX7_isSlip_84 (by decide) ?_
          refine lv_bipush (v := nI 49) hx hb dX7_isSlip_85 (by decide) ?_
          refine lv_bipush (v := nI 57) hx hb dX7_isSlip_87 (by decide) ?_
          refine cr_V (wr := []) (As := [.int (nI 3), .int (nI 49), .int (nI 57)]) (rest := []) ⟨hx, hb, hml, hown, hts⟩ (c_X7_isFigure G l y_ ca ke ty_ th (po + 1 + 1 + 1) fl9_18 tl cs (upd (upd td (4 * tl + 1) (nI (cs po - 48))) (4 * tl + 2) (nI (cs (po + 1) - 48))) 3 49 57 (by omega) (jcs) (by omega) (by omega) (by omega) (by omega) (by omega) (by omega)) (cwV 3 hts gX7_isSlip_X7_isFigure rfl rfl rfl (by decide +kernel) ⟨Nat.le_of_ble_eq_true rfl, Nat.le_of_ble_eq_true rfl⟩) dX7_isSlip_89 hK hNX hP hD hS hA hl 0 7 rfl rfl rfl [0, 1, 2] [] rfl rfl rfl rfl (by decide) rfl (Nat.le_of_ble_eq_true rfl) ⟨Nat.le_of_ble_eq_true rfl, Nat.le_of_ble_eq_true rfl⟩ rfl (fun v' w' Hq lcq hR' hP hD hS => ?_)
          obtain ⟨po9_89, td9_89, fl9_89, rfl, rfl, jq_89⟩ := hR'
          have hP : va_P G.1 vwCl [(y_, .inr (7, [.ref (ca 0), .ref (ca 1), .ref (ca 2), .int (nI ke), .ref (ca 3), .int (nI ty_), .int (nI th), .int (nI po9_89), .int (bI fl9_89), .ref (ca 4), .int (nI tl), .ref (ca 5)])), (ca 3, .inl (G.2.1, 60, .inl (fun q9 => nI (cs q9)))), (ca 4, .inl (G.2.1, 124, .inl (td9_89)))] _ := hP.sub [0, 1, 2] rfl
          have hD : va_D A [(y_, .inr (7, [.ref (ca 0), .ref (ca 1), .ref (ca 2), .int (nI ke), .ref (ca 3), .int (nI ty_), .int (nI th), .int (nI po9_89), .int (bI fl9_89), .ref (ca 4), .int (nI tl), .ref (ca 5)])), (ca 3, .inl (G.2.1, 60, .inl (fun q9 => nI (cs q9)))), (ca 4, .inl (G.2.1, 124, .inl (td9_89)))] := hD.sub [0, 1, 2] (by decide +kernel) rfl
          refine ks_ifb_ne (tgt := 97) hx hb dX7_isSlip_92 (by decide) (fun c_92 => ?_) (fun c_92 => ?_)
          · obtain ⟨rfl, rfl, -⟩ := jq_89.1 c_92
            have jd4 := jcs (po + 3) (by omega)
            have z3 : 49 ≤ cs (po + 3) ∧ cs (po + 3) ≤ 57 := ⟨c_92.2.1, c_92.2.2⟩
            refine lv_aload_n hx hb dX7_isSlip_97 rfl (lv_at hl 1 rfl) ?_
            refine va_get (D := G.1) (ci := 7) (v := .ref (ca 4)) (C := RX7) (T := TX7) (N := 12) hx hb hts hin7 hown hK hP 0 rfl rfl 9 (by decide) (hts (.fieldLink RX7 23 "PowerTablesModel" "told" "[I") (List.mem_of_getElem? (i := 3) rfl)) (fun _ h9 => h9) rfl dX7_isSlip_98 ?_
            refine lv_iconst (v := nI 4) hx hb dX7_isSlip_101 (by decide) ?_
            refine lv_aload_n hx hb dX7_isSlip_102 rfl (lv_at hl 1 rfl) ?_
            refine va_get (D := G.1) (ci := 7) (v := .int (nI tl)) (C := RX7) (T := TX7) (N := 12) hx hb hts hin7 hown hK hP 0 rfl rfl 10 (by decide) (hts (.fieldLink RX7 137 "PowerTablesModel" "tolds" "I") (List.mem_of_getElem? (i := 4) rfl)) (fun _ h9 => h9) rfl dX7_isSlip_103 ?_
            refine ks_imulN hx hb dX7_isSlip_106 ?_
            refine lv_iconst (v := nI 3) hx hb dX7_isSlip_107 (by decide) ?_
            refine ks_iaddN hx hb dX7_isSlip_108 ?_
            refine lv_dup2_11 hx hb dX7_isSlip_109 rfl rfl ?_
            refine ks_iald hx hb hK hP 2 rfl (by omega) (by decide) dX7_isSlip_110 ?_
            refine lv_iload_n hx hb dX7_isSlip_111 rfl (lv_at hl 0 rfl) ?_
            refine lv_imul hx hb dX7_isSlip_112 ?_
            refine ks_iast (f' := upd (upd (upd (upd td (4 * tl + 1) (nI (cs po - 48))) (4 * tl + 2) (nI (cs (po + 1) - 48))) (4 * tl + 3) (nI (cs (po + 1 + 1 + 1) - 48))) (4 * tl + 3) (((upd (upd (upd td (4 * tl + 1) (nI (cs po - 48))) (4 * tl + 2) (nI (cs (po + 1) - 48))) (4 * tl + 3) (nI (cs (po + 1 + 1 + 1) - 48))) (4 * tl + 3)) * (nI 1))) hx hb hK hP hD hS 2 rfl (by omega) (by decide) (rfl) dX7_isSlip_113 (fun Hq lcq hP hD hS => ?_)
            have hP : va_P G.1 vwCl [(y_, .inr (7, [.ref (ca 0), .ref (ca 1), .ref (ca 2), .int (nI ke), .ref (ca 3), .int (nI ty_), .int (nI th), .int (nI (po + 1 + 1 + 1 + 1)), .int (bI fl9_89), .ref (ca 4), .int (nI tl), .ref (ca 5)])), (ca 3, .inl (G.2.1, 60, .inl (fun q9 => nI (cs q9)))), (ca 4, .inl (G.2.1, 124, .inl (upd (upd (upd (upd td (4 * tl + 1) (nI (cs po - 48))) (4 * tl + 2) (nI (cs (po + 1) - 48))) (4 * tl + 3) (nI (cs (po + 1 + 1 + 1) - 48))) (4 * tl + 3) (((upd (upd (upd td (4 * tl + 1) (nI (cs po - 48))) (4 * tl + 2) (nI (cs (po + 1) - 48))) (4 * tl + 3) (nI (cs (po + 1 + 1 + 1) - 48))) (4 * tl + 3)) * (nI 1)))))] _ := hP
            have hD : va_D A [(y_, .inr (7, [.ref (ca 0), .ref (ca 1), .ref (ca 2), .int (nI ke), .ref (ca 3), .int (nI ty_), .int (nI th), .int (nI (po + 1 + 1 + 1 + 1)), .int (bI fl9_89), .ref (ca 4), .int (nI tl), .ref (ca 5)])), (ca 3, .inl (G.2.1, 60, .inl (fun q9 => nI (cs q9)))), (ca 4, .inl (G.2.1, 124, .inl (upd (upd (upd (upd td (4 * tl + 1) (nI (cs po - 48))) (4 * tl + 2) (nI (cs (po + 1) - 48))) (4 * tl + 3) (nI (cs (po + 1 + 1 + 1) - 48))) (4 * tl + 3) (((upd (upd (upd td (4 * tl + 1) (nI (cs po - 48))) (4 * tl + 2) (nI (cs (po + 1) - 48))) (4 * tl + 3) (nI (cs (po + 1 + 1 + 1) - 48))) (4 * tl + 3)) * (nI 1)))))] := hD
            refine lv_iconst (v := nI 1) hx hb dX7_isSlip_114 (by decide) ?_
            exact cr_zret hx hb hr hlocks hK hP hD hS (by decide +kernel) dX7_isSlip_115 (by rw [hRR]; exact ⟨True, _, _, _, congrArg (fun z => some (Value.int z)) (bI_1 trivial), rfl, ⟨fun _ => ⟨nx9 (s7_y js7 ⟨c_92.2.1, c_92.2.2⟩) ty_, rfl, by omega, fun i h1 h2 => by rcases (show i = po ∨ i = po + 1 ∨ i = po + 2 ∨ i = po + 3 by omega) with rfl | rfl | rfl | rfl <;> omega, by rw [dgA_f c_9.1 c_9.2.1 (by omega)]; exact (upd_n (by omega)).trans ((upd_n (by omega)).trans ((upd_n (by omega)).trans upd_s)), by rw [dgA_f c_9.1 c_9.2.1 (by omega)]; omega, by rw [dgA_f c_21.1 c_21.2.1 (by omega)]; exact (upd_n (by omega)).trans ((upd_n (by omega)).trans upd_s), by rw [cdA_in (show po + 2 < ty_ by omega), if_neg (show ¬ cs (po + 2) = 45 by omega), dgA_f (show po + 3 < ty_ by omega) (by omega) (by omega)]; exact upd_s.trans ((congrArg (fun z => z * nI 1) upd_s).trans nI_m1p), fun i hi => (upd_n (by omega)).trans ((upd_n (by omega)).trans ((upd_n (by omega)).trans (upd_n (by omega))))⟩, fun h => absurd trivial h⟩⟩)
          · obtain ⟨rfl, -, jfl⟩ := jq_89.2 c_92
            refine lv_iconst (v := nI 0) hx hb dX7_isSlip_95 (by decide) ?_
            exact cr_zret hx hb hr hlocks hK hP hD hS (by decide +kernel) dX7_isSlip_96 (by rw [hRR]; exact ⟨False, _, _, _, congrArg (fun z => some (Value.int z)) (bI_0 (fun z => z)), rfl, ⟨fun h => h.elim, fun _ => ⟨s7_n js7 c_92, jfl, by omega⟩⟩⟩)
        · omega
      · refine lv_aload_n hx hb dX7_isSlip_37 rfl (lv_at hl 0 rfl) ?_
        refine lv_bipush (v := nI 45) hx hb dX7_isSlip_38 (by decide) ?_
        refine lv_bipush (v := nI 45) hx hb dX7_isSlip_40 (by decide) ?_
        refine cr_V (wr := [(ca 4, .inl (G.2.1, 124, .inl (upd (upd td (4 * tl + 1) (nI (cs po - 48))) (4 * tl + 2) (nI (cs (po + 1) - 48)))))]) (As := [.int (nI 45), .int (nI 45)]) (rest := []) ⟨hx, hb, hml, hown, hts⟩ (c_X7_isAt G l y_ ca ke ty_ th (po + 1 + 1) fl9_18 tl cs 45 45 (by omega) (jcs) (by omega) (by omega) (by omega)) (cwV 2 hts gX7_isSlip_X7_isAt rfl rfl rfl (by decide +kernel) ⟨Nat.le_of_ble_eq_true rfl, Nat.le_of_ble_eq_true rfl⟩) dX7_isSlip_42 hK hNX hP hD hS hA hl 0 7 rfl rfl rfl [0, 1] [2] rfl rfl rfl rfl (by decide) rfl (Nat.le_of_ble_eq_true rfl) ⟨Nat.le_of_ble_eq_true rfl, Nat.le_of_ble_eq_true rfl⟩ rfl (fun v' w' Hq lcq hR' hP hD hS => ?_)
        obtain ⟨rfl, rfl⟩ := hR'
        have hP : va_P G.1 vwCl [(y_, .inr (7, [.ref (ca 0), .ref (ca 1), .ref (ca 2), .int (nI ke), .ref (ca 3), .int (nI ty_), .int (nI th), .int (nI (po + 1 + 1)), .int (bI fl9_18), .ref (ca 4), .int (nI tl), .ref (ca 5)])), (ca 3, .inl (G.2.1, 60, .inl (fun q9 => nI (cs q9)))), (ca 4, .inl (G.2.1, 124, .inl (upd (upd td (4 * tl + 1) (nI (cs po - 48))) (4 * tl + 2) (nI (cs (po + 1) - 48)))))] _ := hP.sub [1, 2, 0] rfl
        have hD : va_D A [(y_, .inr (7, [.ref (ca 0), .ref (ca 1), .ref (ca 2), .int (nI ke), .ref (ca 3), .int (nI ty_), .int (nI th), .int (nI (po + 1 + 1)), .int (bI fl9_18), .ref (ca 4), .int (nI tl), .ref (ca 5)])), (ca 3, .inl (G.2.1, 60, .inl (fun q9 => nI (cs q9)))), (ca 4, .inl (G.2.1, 124, .inl (upd (upd td (4 * tl + 1) (nI (cs po - 48))) (4 * tl + 2) (nI (cs (po + 1) - 48)))))] := hD.sub [1, 2, 0] (by decide +kernel) rfl
        refine ks_ifb_ne (tgt := 53) hx hb dX7_isSlip_45 (by decide) (fun c_45 => ?_) (fun c_45 => ?_)
        · have z2 : cs (po + 2) = 45 := Nat.le_antisymm c_45.2.2 c_45.2.1
          have js7 : rnA cs (po + 1 + 1 + 1) = 7 := s6_y js6 (Or.inr z2)
          have jd2 := jcs (po + 2) (by omega)
          refine lv_aload_n hx hb dX7_isSlip_53 rfl (lv_at hl 0 rfl) ?_
          refine va_get (D := G.1) (ci := 7) (v := .ref (ca 3)) (C := RX7) (T := TX7) (N := 12) hx hb hts hin7 hown hK hP 0 rfl rfl 4 (by decide) (hts (.fieldLink RX7 19 "PowerTablesModel" "text" "[I") (List.mem_of_getElem? (i := 1) rfl)) (fun _ h9 => h9) rfl dX7_isSlip_54 ?_
          refine lv_aload_n hx hb dX7_isSlip_57 rfl (lv_at hl 0 rfl) ?_
          refine va_get (D := G.1) (ci := 7) (v := .int (nI (po + 1 + 1))) (C := RX7) (T := TX7) (N := 12) hx hb hts hin7 hown hK hP 0 rfl rfl 7 (by decide) (hts (.fieldLink RX7 122 "PowerTablesModel" "at" "I") (List.mem_of_getElem? (i := 2) rfl)) (fun _ h9 => h9) rfl dX7_isSlip_58 ?_
          refine ks_iald hx hb hK hP 1 rfl (by omega) (by decide) dX7_isSlip_61 ?_
          refine lv_bipush (v := nI 45) hx hb dX7_isSlip_62 (by decide) ?_
          refine ks_icmp_ne (tgt := 71) hx hb dX7_isSlip_64 (by decide) (by omega) (by omega) (fun c_64 => ?_) (fun c_64 => ?_)
          · omega
          · refine lv_iconst (v := (-1)) hx hb dX7_isSlip_67 (by decide) ?_
            refine lv_goto (tgt := 72) hx hb dX7_isSlip_68 (by decide) ?_
            refine lv_istore_n (lv' := [(1, .int (-1)), (0, .ref y_)]) hx hb dX7_isSlip_72 rfl hl (by decide) rfl (fun ls hl => ?_)
            refine lv_aload_n hx hb dX7_isSlip_73 rfl (lv_at hl 1 rfl) ?_
            refine lv_dup hx hb dX7_isSlip_74 rfl ?_
            refine va_get (D := G.1) (ci := 7) (v := .int (nI (po + 1 + 1))) (C := RX7) (T := TX7) (N := 12) hx hb hts hin7 hown hK hP 0 rfl rfl 7 (by decide) (hts (.fieldLink RX7 122 "PowerTablesModel" "at" "I") (List.mem_of_getElem? (i := 2) rfl)) (fun _ h9 => h9) rfl dX7_isSlip_75 ?_
            refine lv_iconst (v := nI 1) hx hb dX7_isSlip_78 (by decide) ?_
            refine ks_iaddN hx hb dX7_isSlip_79 ?_
            refine va_put (D := G.1) (ci := 7) (v := .int (nI (po + 1 + 1 + 1))) (ty := .int) (C := RX7) (T := TX7) (N := 12) hx hb hts hin7 tyX7 tyX7_ok nmX7 hown hK hP hD hS 0 rfl rfl 7 (by decide) (hts (.fieldLink RX7 122 "PowerTablesModel" "at" "I") (List.mem_of_getElem? (i := 2) rfl)) (fun _ h9 => h9) rfl (tyX7_ok 7 (by decide)) rfl rfl (Nat.le_of_ble_eq_true rfl) dX7_isSlip_80 (fun Hq lcq hP hD hS => ?_)
            have hP : va_P G.1 vwCl [(y_, .inr (7, [.ref (ca 0), .ref (ca 1), .ref (ca 2), .int (nI ke), .ref (ca 3), .int (nI ty_), .int (nI th), .int (nI (po + 1 + 1 + 1)), .int (bI fl9_18), .ref (ca 4), .int (nI tl), .ref (ca 5)])), (ca 3, .inl (G.2.1, 60, .inl (fun q9 => nI (cs q9)))), (ca 4, .inl (G.2.1, 124, .inl (upd (upd td (4 * tl + 1) (nI (cs po - 48))) (4 * tl + 2) (nI (cs (po + 1) - 48)))))] _ := hP
            have hD : va_D A [(y_, .inr (7, [.ref (ca 0), .ref (ca 1), .ref (ca 2), .int (nI ke), .ref (ca 3), .int (nI ty_), .int (nI th), .int (nI (po + 1 + 1 + 1)), .int (bI fl9_18), .ref (ca 4), .int (nI tl), .ref (ca 5)])), (ca 3, .inl (G.2.1, 60, .inl (fun q9 => nI (cs q9)))), (ca 4, .inl (G.2.1, 124, .inl (upd (upd td (4 * tl + 1) (nI (cs po - 48))) (4 * tl + 2) (nI (cs (po + 1) - 48)))))] := hD
            refine lv_aload_n hx hb dX7_isSlip_83 rfl (lv_at hl 1 rfl) ?_
            refine lv_iconst (v := nI 3) hx hb dX7_isSlip_84 (by decide) ?_
            refine lv_bipush (v := nI 49) hx hb dX7_isSlip_85 (by decide) ?_
            refine lv_bipush (v := nI 57) hx hb dX7_isSlip_87 (by decide) ?_
            refine cr_V (wr := []) (As := [.int (nI 3), .int (nI 49), .int (nI 57)]) (rest := []) ⟨hx, hb, hml, hown, hts⟩ (c_X7_isFigure G l y_ ca ke ty_ th (po + 1 + 1 + 1) fl9_18 tl cs (upd (upd td (4 * tl + 1) (nI (cs po - 48))) (4 * tl + 2) (nI (cs (po + 1) - 48))) 3 49 57 (by omega) (jcs) (by omega) (by omega) (by omega) (by omega) (by omega) (by omega)) (cwV 3 hts gX7_isSlip_X7_isFigure rfl rfl rfl (by decide +kernel) ⟨Nat.le_of_ble_eq_true rfl, Nat.le_of_ble_eq_true rfl⟩) dX7_isSlip_89 hK hNX hP hD hS hA hl 0 7 rfl rfl rfl [0, 1, 2] [] rfl rfl rfl rfl (by decide) rfl (Nat.le_of_ble_eq_true rfl) ⟨Nat.le_of_ble_eq_true rfl, Nat.le_of_ble_eq_true rfl⟩ rfl (fun v' w' Hq lcq hR' hP hD hS => ?_)
            obtain ⟨po9_89, td9_89, fl9_89, rfl, rfl, jq_89⟩ := hR'
            have hP : va_P G.1 vwCl [(y_, .inr (7, [.ref (ca 0), .ref (ca 1), .ref (ca 2), .int (nI ke), .ref (ca 3), .int (nI ty_), .int (nI th), .int (nI po9_89), .int (bI fl9_89), .ref (ca 4), .int (nI tl), .ref (ca 5)])), (ca 3, .inl (G.2.1, 60, .inl (fun q9 => nI (cs q9)))), (ca 4, .inl (G.2.1, 124, .inl (td9_89)))] _ := hP.sub [0, 1, 2] rfl
            have hD : va_D A [(y_, .inr (7, [.ref (ca 0), .ref (ca 1), .ref (ca 2), .int (nI ke), .ref (ca 3), .int (nI ty_), .int (nI th), .int (nI po9_89), .int (bI fl9_89), .ref (ca 4), .int (nI tl), .ref (ca 5)])), (ca 3, .inl (G.2.1, 60, .inl (fun q9 => nI (cs q9)))), (ca 4, .inl (G.2.1, 124, .inl (td9_89)))] := hD.sub [0, 1, 2] (by decide +kernel) rfl
            refine ks_ifb_ne (tgt := 97) hx hb dX7_isSlip_92 (by decide) (fun c_92 => ?_) (fun c_92 => ?_)
            · obtain ⟨rfl, rfl, -⟩ := jq_89.1 c_92
              have jd4 := jcs (po + 3) (by omega)
              have z3 : 49 ≤ cs (po + 3) ∧ cs (po + 3) ≤ 57 := ⟨c_92.2.1, c_92.2.2⟩
              refine lv_aload_n hx hb dX7_isSlip_97 rfl (lv_at hl 1 rfl) ?_
              refine va_get (D := G.1) (ci := 7) (v := .ref (ca 4)) (C := RX7) (T := TX7) (N := 12) hx hb hts hin7 hown hK hP 0 rfl rfl 9 (by decide) (hts (.fieldLink RX7 23 "PowerTablesModel" "told" "[I") (List.mem_of_getElem? (i := 3) rfl)) (fun _ h9 => h9) rfl dX7_isSlip_98 ?_
              refine lv_iconst (v := nI 4) hx hb dX7_isSlip_101 (by decide) ?_
              refine lv_aload_n hx hb dX7_isSlip_102 rfl (lv_at hl 1 rfl) ?_
              refine va_get (D := G.1) (ci := 7) (v := .int (nI tl)) (C := RX7) (T := TX7) (N := 12) hx hb hts hin7 hown hK hP 0 rfl rfl 10 (by decide) (hts (.fieldLink RX7 137 "PowerTablesModel" "tolds" "I") (List.mem_of_getElem? (i := 4) rfl)) (fun _ h9 => h9) rfl dX7_isSlip_103 ?_
              refine ks_imulN hx hb dX7_isSlip_106 ?_
              refine lv_iconst (v := nI 3) hx hb dX7_isSlip_107 (by decide) ?_
              refine ks_iaddN hx hb dX7_isSlip_108 ?_
              refine lv_dup2_11 hx hb dX7_isSlip_109 rfl rfl ?_
              refine ks_iald hx hb hK hP 2 rfl (by omega) (by decide) dX7_isSlip_110 ?_
              refine lv_iload_n hx hb dX7_isSlip_111 rfl (lv_at hl 0 rfl) ?_
              refine lv_imul hx hb dX7_isSlip_112 ?_
              refine ks_iast (f' := upd (upd (upd (upd td (4 * tl + 1) (nI (cs po - 48))) (4 * tl + 2) (nI (cs (po + 1) - 48))) (4 * tl + 3) (nI (cs (po + 1 + 1 + 1) - 48))) (4 * tl + 3) (((upd (upd (upd td (4 * tl + 1) (nI (cs po - 48))) (4 * tl + 2) (nI (cs (po + 1) - 48))) (4 * tl + 3) (nI (cs (po + 1 + 1 + 1) - 48))) (4 * tl + 3)) * (-1))) hx hb hK hP hD hS 2 rfl (by omega) (by decide) (rfl) dX7_isSlip_113 (fun Hq lcq hP hD hS => ?_)
              have hP : va_P G.1 vwCl [(y_, .inr (7, [.ref (ca 0), .ref (ca 1), .ref (ca 2), .int (nI ke), .ref (ca 3), .int (nI ty_), .int (nI th), .int (nI (po + 1 + 1 + 1 + 1)), .int (bI fl9_89), .ref (ca 4), .int (nI tl), .ref (ca 5)])), (ca 3, .inl (G.2.1, 60, .inl (fun q9 => nI (cs q9)))), (ca 4, .inl (G.2.1, 124, .inl (upd (upd (upd (upd td (4 * tl + 1) (nI (cs po - 48))) (4 * tl + 2) (nI (cs (po + 1) - 48))) (4 * tl + 3) (nI (cs (po + 1 + 1 + 1) - 48))) (4 * tl + 3) (((upd (upd (upd td (4 * tl + 1) (nI (cs po - 48))) (4 * tl + 2) (nI (cs (po + 1) - 48))) (4 * tl + 3) (nI (cs (po + 1 + 1 + 1) - 48))) (4 * tl + 3)) * (-1)))))] _ := hP
              have hD : va_D A [(y_, .inr (7, [.ref (ca 0), .ref (ca 1), .ref (ca 2), .int (nI ke), .ref (ca 3), .int (nI ty_), .int (nI th), .int (nI (po + 1 + 1 + 1 + 1)), .int (bI fl9_89), .ref (ca 4), .int (nI tl), .ref (ca 5)])), (ca 3, .inl (G.2.1, 60, .inl (fun q9 => nI (cs q9)))), (ca 4, .inl (G.2.1, 124, .inl (upd (upd (upd (upd td (4 * tl + 1) (nI (cs po - 48))) (4 * tl + 2) (nI (cs (po + 1) - 48))) (4 * tl + 3) (nI (cs (po + 1 + 1 + 1) - 48))) (4 * tl + 3) (((upd (upd (upd td (4 * tl + 1) (nI (cs po - 48))) (4 * tl + 2) (nI (cs (po + 1) - 48))) (4 * tl + 3) (nI (cs (po + 1 + 1 + 1) - 48))) (4 * tl + 3)) * (-1)))))] := hD
              refine lv_iconst (v := nI 1) hx hb dX7_isSlip_114 (by decide) ?_
              exact cr_zret hx hb hr hlocks hK hP hD hS (by decide +kernel) dX7_isSlip_115 (by rw [hRR]; exact ⟨True, _, _, _, congrArg (fun z => some (Value.int z)) (bI_1 trivial), rfl, ⟨fun _ => ⟨nx9 (s7_y js7 ⟨c_92.2.1, c_92.2.2⟩) ty_, rfl, by omega, fun i h1 h2 => by rcases (show i = po ∨ i = po + 1 ∨ i = po + 2 ∨ i = po + 3 by omega) with rfl | rfl | rfl | rfl <;> omega, by rw [dgA_f c_9.1 c_9.2.1 (by omega)]; exact (upd_n (by omega)).trans ((upd_n (by omega)).trans ((upd_n (by omega)).trans upd_s)), by rw [dgA_f c_9.1 c_9.2.1 (by omega)]; omega, by rw [dgA_f c_21.1 c_21.2.1 (by omega)]; exact (upd_n (by omega)).trans ((upd_n (by omega)).trans upd_s), by rw [cdA_in (show po + 2 < ty_ by omega), if_pos (show cs (po + 2) = 45 by omega), dgA_f (show po + 3 < ty_ by omega) (by omega) (by omega)]; exact upd_s.trans ((congrArg (fun z => z * (-1)) upd_s).trans nI_m1n), fun i hi => (upd_n (by omega)).trans ((upd_n (by omega)).trans ((upd_n (by omega)).trans (upd_n (by omega))))⟩, fun h => absurd trivial h⟩⟩)
            · obtain ⟨rfl, -, jfl⟩ := jq_89.2 c_92
              refine lv_iconst (v := nI 0) hx hb dX7_isSlip_95 (by decide) ?_
              exact cr_zret hx hb hr hlocks hK hP hD hS (by decide +kernel) dX7_isSlip_96 (by rw [hRR]; exact ⟨False, _, _, _, congrArg (fun z => some (Value.int z)) (bI_0 (fun z => z)), rfl, ⟨fun h => h.elim, fun _ => ⟨s7_n js7 c_92, jfl, by omega⟩⟩⟩)
        · refine lv_aload_n hx hb dX7_isSlip_48 rfl (lv_at hl 0 rfl) ?_
          refine cr_V (wr := [(ca 3, .inl (G.2.1, 60, .inl (fun q9 => nI (cs q9)))), (ca 4, .inl (G.2.1, 124, .inl (upd (upd td (4 * tl + 1) (nI (cs po - 48))) (4 * tl + 2) (nI (cs (po + 1) - 48)))))]) (As := []) (rest := []) ⟨hx, hb, hml, hown, hts⟩ (c_X7_stops G l y_ ca ke ty_ th (po + 1 + 1) fl9_18 tl (by omega) (by omega)) (cwV 0 hts gX7_isSlip_X7_stops rfl rfl rfl (by decide +kernel) ⟨Nat.le_of_ble_eq_true rfl, Nat.le_of_ble_eq_true rfl⟩) dX7_isSlip_49 hK hNX hP hD hS hA hl 0 7 rfl rfl rfl [0] [1, 2] rfl rfl rfl rfl (by decide) rfl (Nat.le_of_ble_eq_true rfl) ⟨Nat.le_of_ble_eq_true rfl, Nat.le_of_ble_eq_true rfl⟩ rfl (fun v' w' Hq lcq hR' hP hD hS => ?_)
          obtain ⟨rfl, rfl⟩ := hR'
          have hP : va_P G.1 vwCl [(y_, .inr (7, [.ref (ca 0), .ref (ca 1), .ref (ca 2), .int (nI ke), .ref (ca 3), .int (nI ty_), .int (nI th), .int (nI (po + 1 + 1)), .int (bI ((po + 1 + 1) < ty_)), .ref (ca 4), .int (nI tl), .ref (ca 5)])), (ca 3, .inl (G.2.1, 60, .inl (fun q9 => nI (cs q9)))), (ca 4, .inl (G.2.1, 124, .inl (upd (upd td (4 * tl + 1) (nI (cs po - 48))) (4 * tl + 2) (nI (cs (po + 1) - 48)))))] _ := hP.sub [2, 0, 1] rfl
          have hD : va_D A [(y_, .inr (7, [.ref (ca 0), .ref (ca 1), .ref (ca 2), .int (nI ke), .ref (ca 3), .int (nI ty_), .int (nI th), .int (nI (po + 1 + 1)), .int (bI ((po + 1 + 1) < ty_)), .ref (ca 4), .int (nI tl), .ref (ca 5)])), (ca 3, .inl (G.2.1, 60, .inl (fun q9 => nI (cs q9)))), (ca 4, .inl (G.2.1, 124, .inl (upd (upd td (4 * tl + 1) (nI (cs po - 48))) (4 * tl + 2) (nI (cs (po + 1) - 48)))))] := hD.sub [2, 0, 1] (by decide +kernel) rfl
          exact cr_zret hx hb hr hlocks hK hP hD hS (by decide +kernel) dX7_isSlip_52 (by rw [hRR]; exact ⟨False, _, _, _, congrArg (fun z => some (Value.int z)) (bI_0 (fun z => z)), rfl, ⟨fun h => h.elim, fun _ => ⟨s6_n js6 c_34 c_45, Iff.rfl, by omega⟩⟩⟩)
    · obtain ⟨rfl, -, jfl⟩ := jq_18.2 c_21
      refine lv_iconst (v := nI 0) hx hb dX7_isSlip_24 (by decide) ?_
      exact cr_zret hx hb hr hlocks hK hP hD hS (by decide +kernel) dX7_isSlip_25 (by rw [hRR]; exact ⟨False, _, _, _, congrArg (fun z => some (Value.int z)) (bI_0 (fun z => z)), rfl, ⟨fun h => h.elim, fun _ => ⟨s5_n js5 c_21, jfl, by omega⟩⟩⟩)
set_option maxHeartbeats 4000000 in
set_option maxRecDepth 100000 in
theorem c_X7_isPart (G : GG) (l : Launch) (y_ : Nat) (ca : Nat → Nat) (ke : Nat) (ty_ : Nat) (th : Nat) (po : Nat) (fl_ : Prop) (tl : Nat) (cs : Nat → Nat) (td : Nat → Int32) (jty : ty_ ≤ 60) (jcs : ∀ k, k < 60 → cs k < 2 ^ 30) (jtl : tl ≤ 30) (jpo : po ≤ ty_) (js : rnA cs po = 0) : Cr G l yX7_isPart wsX7_isPart ({ frames := 4, cells := 0, slots := 0, locals := 91 }) 0 0 [.ref y_] [(y_, .inr (7, [.ref (ca 0), .ref (ca 1), .ref (ca 2), .int (nI ke), .ref (ca 3), .int (nI ty_), .int (nI th), .int (nI po), .int (bI fl_), .ref (ca 4), .int (nI tl), .ref (ca 5)])), (ca 3, .inl (G.2.1, 60, .inl (fun q9 => nI (cs q9)))), (ca 4, .inl (G.2.1, 124, .inl (td)))] (fun (vv1 : Option Value) (ww1 : va_W) => ∃ (ok9 : Prop) (b9 : Nat) (td9 : Nat → Int32) (fl9 : Prop), vv1 = (some (.int (bI ok9))) ∧ ww1 = [(y_, .inr (7, [.ref (ca 0), .ref (ca 1), .ref (ca 2), .int (nI ke), .ref (ca 3), .int (nI ty_), .int (nI th), .int (nI b9), .int (bI fl9), .ref (ca 4), .int (nI tl), .ref (ca 5)])), (ca 3, .inl (G.2.1, 60, .inl (fun q9 => nI (cs q9)))), (ca 4, .inl (G.2.1, 124, .inl (td9)))] ∧ ((ok9 → CMPb cs ty_ b9 ∧ po < b9 ∧ b9 ≤ ty_ ∧ (∀ i, po ≤ i → i < b9 → cs i ≠ 59) ∧ (NDb cs ty_ b9 → OKd cs ty_ po tl td9) ∧ (∀ i, i < 4 * tl → td9 i = td i)) ∧ (¬ ok9 → ERb cs ty_ b9 ∧ (fl9 ↔ b9 < ty_) ∧ b9 ≤ ty_))) := by
  refine cr_intro (cc := cX7_isPart) (maxL := 2) (ret := (some .boolean)) (own := RX7) (by decide) rfl rfl (Nat.le_of_ble_eq_true rfl) ?_
  intro p e s m args below meth c A hx hb hr hml hts hown hlocks hnm hNX hP hK hD hA hS ls hl
  obtain ⟨RR, hRR⟩ : ∃ RR, RR = (fun (vv1 : Option Value) (ww1 : va_W) => ∃ (ok9 : Prop) (b9 : Nat) (td9 : Nat → Int32) (fl9 : Prop), vv1 = (some (.int (bI ok9))) ∧ ww1 = [(y_, .inr (7, [.ref (ca 0), .ref (ca 1), .ref (ca 2), .int (nI ke), .ref (ca 3), .int (nI ty_), .int (nI th), .int (nI b9), .int (bI fl9), .ref (ca 4), .int (nI tl), .ref (ca 5)])), (ca 3, .inl (G.2.1, 60, .inl (fun q9 => nI (cs q9)))), (ca 4, .inl (G.2.1, 124, .inl (td9)))] ∧ ((ok9 → CMPb cs ty_ b9 ∧ po < b9 ∧ b9 ≤ ty_ ∧ (∀ i, po ≤ i → i < b9 → cs i ≠ 59) ∧ (NDb cs ty_ b9 → OKd cs ty_ po tl td9) ∧ (∀ i, i < 4 * tl → td9 i = td i)) ∧ (¬ ok9 → ERb cs ty_ b9 ∧ (fl9 ↔ b9 < ty_) ∧ b9 ≤ ty_))) := ⟨_, rfl⟩
  rw [← hRR]
  have hl : lv_has ls 2 [(0, .ref y_)] := hl
  have hin7 : ∀ w ∈ u_ws RX7 TX7 12, w ∈ wsX7_isPart := fun w h => List.mem_cons_of_mem _ (List.mem_append_right _ h)
  rcases partCases cs po ty_ with h0 | ⟨h0, e⟩ | ⟨h0, e⟩ | ⟨h0, e⟩ | ⟨h0, e⟩ | ⟨h0, e⟩
  · refine lv_aload_n hx hb dX7_isPart_0 rfl (lv_at hl 0 rfl) ?_
    refine va_get (D := G.1) (ci := 7) (v := .int (nI po)) (C := RX7) (T := TX7) (N := 12) hx hb hts hin7 hown hK hP 0 rfl rfl 7 (by decide) (hts (.fieldLink RX7 122 "PowerTablesModel" "at" "I") (List.mem_of_getElem? (i := 1) rfl)) (fun _ h9 => h9) rfl dX7_isPart_1 ?_
    refine lv_aload_n hx hb dX7_isPart_4 rfl (lv_at hl 0 rfl) ?_
    refine va_get (D := G.1) (ci := 7) (v := .int (nI ty_)) (C := RX7) (T := TX7) (N := 12) hx hb hts hin7 hown hK hP 0 rfl rfl 5 (by decide) (hts (.fieldLink RX7 119 "PowerTablesModel" "typed" "I") (List.mem_of_getElem? (i := 2) rfl)) (fun _ h9 => h9) rfl dX7_isPart_5 ?_
    refine ks_icmp_ge (tgt := 23) hx hb dX7_isPart_8 (by decide) (by omega) (by omega) (fun c_8 => ?_) (fun c_8 => ?_)
    · refine lv_iconst (v := nI 0) hx hb dX7_isPart_23 (by decide) ?_
      refine lv_istore_n (lv' := [(1, .int (nI 0)), (0, .ref y_)]) hx hb dX7_isPart_24 rfl hl (by decide) rfl (fun ls hl => ?_)
      refine lv_aload_n hx hb dX7_isPart_25 rfl (lv_at hl 1 rfl) ?_
      refine va_get (D := G.1) (ci := 7) (v := .ref (ca 4)) (C := RX7) (T := TX7) (N := 12) hx hb hts hin7 hown hK hP 0 rfl rfl 9 (by decide) (hts (.fieldLink RX7 23 "PowerTablesModel" "told" "[I") (List.mem_of_getElem? (i := 4) rfl)) (fun _ h9 => h9) rfl dX7_isPart_26 ?_
      refine lv_iconst (v := nI 4) hx hb dX7_isPart_29 (by decide) ?_
      refine lv_aload_n hx hb dX7_isPart_30 rfl (lv_at hl 1 rfl) ?_
      refine va_get (D := G.1) (ci := 7) (v := .int (nI tl)) (C := RX7) (T := TX7) (N := 12) hx hb hts hin7 hown hK hP 0 rfl rfl 10 (by decide) (hts (.fieldLink RX7 137 "PowerTablesModel" "tolds" "I") (List.mem_of_getElem? (i := 5) rfl)) (fun _ h9 => h9) rfl dX7_isPart_31 ?_
      refine ks_imulN hx hb dX7_isPart_34 ?_
      refine lv_iload_n hx hb dX7_isPart_35 rfl (lv_at hl 0 rfl) ?_
      refine ks_iast (f' := upd td (4 * tl) (nI 0)) hx hb hK hP hD hS 2 rfl (by omega) (by decide) (rfl) dX7_isPart_36 (fun Hq lcq hP hD hS => ?_)
      have hP : va_P G.1 vwCl [(y_, .inr (7, [.ref (ca 0), .ref (ca 1), .ref (ca 2), .int (nI ke), .ref (ca 3), .int (nI ty_), .int (nI th), .int (nI po), .int (bI fl_), .ref (ca 4), .int (nI tl), .ref (ca 5)])), (ca 3, .inl (G.2.1, 60, .inl (fun q9 => nI (cs q9)))), (ca 4, .inl (G.2.1, 124, .inl (upd td (4 * tl) (nI 0))))] _ := hP
      have hD : va_D A [(y_, .inr (7, [.ref (ca 0), .ref (ca 1), .ref (ca 2), .int (nI ke), .ref (ca 3), .int (nI ty_), .int (nI th), .int (nI po), .int (bI fl_), .ref (ca 4), .int (nI tl), .ref (ca 5)])), (ca 3, .inl (G.2.1, 60, .inl (fun q9 => nI (cs q9)))), (ca 4, .inl (G.2.1, 124, .inl (upd td (4 * tl) (nI 0))))] := hD
      refine lv_iload_n hx hb dX7_isPart_37 rfl (lv_at hl 0 rfl) ?_
      refine lv_lookup (off := 104) (tgt := 142) hx hb dX7_isPart_38 (by decide) (by decide +kernel) (by decide) ?_
      refine lv_aload_n hx hb dX7_isPart_142 rfl (lv_at hl 1 rfl) ?_
      refine cr_V (wr := [(ca 3, .inl (G.2.1, 60, .inl (fun q9 => nI (cs q9)))), (ca 4, .inl (G.2.1, 124, .inl (upd td (4 * tl) (nI 0))))]) (As := []) (rest := []) ⟨hx, hb, hml, hown, hts⟩ (c_X7_stops G l y_ ca ke ty_ th po fl_ tl (by omega) (by omega)) (cwV 0 hts gX7_isPart_X7_stops rfl rfl rfl (by decide +kernel) ⟨Nat.le_of_ble_eq_true rfl, Nat.le_of_ble_eq_true rfl⟩) dX7_isPart_143 hK hNX hP hD hS hA hl 0 7 rfl rfl rfl [0] [1, 2] rfl rfl rfl rfl (by decide) rfl (Nat.le_of_ble_eq_true rfl) ⟨Nat.le_of_ble_eq_true rfl, Nat.le_of_ble_eq_true rfl⟩ rfl (fun v' w' Hq lcq hR' hP hD hS => ?_)
      obtain ⟨rfl, rfl⟩ := hR'
      have hP : va_P G.1 vwCl [(y_, .inr (7, [.ref (ca 0), .ref (ca 1), .ref (ca 2), .int (nI ke), .ref (ca 3), .int (nI ty_), .int (nI th), .int (nI po), .int (bI (po < ty_)), .ref (ca 4), .int (nI tl), .ref (ca 5)])), (ca 3, .inl (G.2.1, 60, .inl (fun q9 => nI (cs q9)))), (ca 4, .inl (G.2.1, 124, .inl (upd td (4 * tl) (nI 0))))] _ := hP.sub [2, 0, 1] rfl
      have hD : va_D A [(y_, .inr (7, [.ref (ca 0), .ref (ca 1), .ref (ca 2), .int (nI ke), .ref (ca 3), .int (nI ty_), .int (nI th), .int (nI po), .int (bI (po < ty_)), .ref (ca 4), .int (nI tl), .ref (ca 5)])), (ca 3, .inl (G.2.1, 60, .inl (fun q9 => nI (cs q9)))), (ca 4, .inl (G.2.1, 124, .inl (upd td (4 * tl) (nI 0))))] := hD.sub [2, 0, 1] (by decide +kernel) rfl
      exact cr_zret hx hb hr hlocks hK hP hD hS (by decide +kernel) dX7_isPart_146 (by rw [hRR]; exact ⟨False, _, _, _, congrArg (fun z => some (Value.int z)) (bI_0 (fun z => z)), rfl, ⟨fun h => h.elim, fun _ => ⟨s0_n js (fun z => absurd z h0), Iff.rfl, jpo⟩⟩⟩)
    · omega
  · refine lv_aload_n hx hb dX7_isPart_0 rfl (lv_at hl 0 rfl) ?_
    refine va_get (D := G.1) (ci := 7) (v := .int (nI po)) (C := RX7) (T := TX7) (N := 12) hx hb hts hin7 hown hK hP 0 rfl rfl 7 (by decide) (hts (.fieldLink RX7 122 "PowerTablesModel" "at" "I") (List.mem_of_getElem? (i := 1) rfl)) (fun _ h9 => h9) rfl dX7_isPart_1 ?_
    refine lv_aload_n hx hb dX7_isPart_4 rfl (lv_at hl 0 rfl) ?_
    refine va_get (D := G.1) (ci := 7) (v := .int (nI ty_)) (C := RX7) (T := TX7) (N := 12) hx hb hts hin7 hown hK hP 0 rfl rfl 5 (by decide) (hts (.fieldLink RX7 119 "PowerTablesModel" "typed" "I") (List.mem_of_getElem? (i := 2) rfl)) (fun _ h9 => h9) rfl dX7_isPart_5 ?_
    refine ks_icmp_ge (tgt := 23) hx hb dX7_isPart_8 (by decide) (by omega) (by omega) (fun c_8 => ?_) (fun c_8 => ?_)
    · omega
    · refine lv_aload_n hx hb dX7_isPart_11 rfl (lv_at hl 0 rfl) ?_
      refine va_get (D := G.1) (ci := 7) (v := .ref (ca 3)) (C := RX7) (T := TX7) (N := 12) hx hb hts hin7 hown hK hP 0 rfl rfl 4 (by decide) (hts (.fieldLink RX7 19 "PowerTablesModel" "text" "[I") (List.mem_of_getElem? (i := 3) rfl)) (fun _ h9 => h9) rfl dX7_isPart_12 ?_
      refine lv_aload_n hx hb dX7_isPart_15 rfl (lv_at hl 0 rfl) ?_
      refine va_get (D := G.1) (ci := 7) (v := .int (nI po)) (C := RX7) (T := TX7) (N := 12) hx hb hts hin7 hown hK hP 0 rfl rfl 7 (by decide) (hts (.fieldLink RX7 122 "PowerTablesModel" "at" "I") (List.mem_of_getElem? (i := 1) rfl)) (fun _ h9 => h9) rfl dX7_isPart_16 ?_
      refine ks_iald hx hb hK hP 1 rfl (by omega) (by decide) dX7_isPart_19 ?_
      have jc9 := jcs po (by omega)
      refine lv_goto (tgt := 24) hx hb dX7_isPart_20 (by decide) ?_
      refine lv_istore_n (lv' := [(1, .int (nI (cs po))), (0, .ref y_)]) hx hb dX7_isPart_24 rfl hl (by decide) rfl (fun ls hl => ?_)
      refine lv_aload_n hx hb dX7_isPart_25 rfl (lv_at hl 1 rfl) ?_
      refine va_get (D := G.1) (ci := 7) (v := .ref (ca 4)) (C := RX7) (T := TX7) (N := 12) hx hb hts hin7 hown hK hP 0 rfl rfl 9 (by decide) (hts (.fieldLink RX7 23 "PowerTablesModel" "told" "[I") (List.mem_of_getElem? (i := 4) rfl)) (fun _ h9 => h9) rfl dX7_isPart_26 ?_
      refine lv_iconst (v := nI 4) hx hb dX7_isPart_29 (by decide) ?_
      refine lv_aload_n hx hb dX7_isPart_30 rfl (lv_at hl 1 rfl) ?_
      refine va_get (D := G.1) (ci := 7) (v := .int (nI tl)) (C := RX7) (T := TX7) (N := 12) hx hb hts hin7 hown hK hP 0 rfl rfl 10 (by decide) (hts (.fieldLink RX7 137 "PowerTablesModel" "tolds" "I") (List.mem_of_getElem? (i := 5) rfl)) (fun _ h9 => h9) rfl dX7_isPart_31 ?_
      refine ks_imulN hx hb dX7_isPart_34 ?_
      refine lv_iload_n hx hb dX7_isPart_35 rfl (lv_at hl 0 rfl) ?_
      refine ks_iast (f' := upd td (4 * tl) (nI (cs po))) hx hb hK hP hD hS 2 rfl (by omega) (by decide) (rfl) dX7_isPart_36 (fun Hq lcq hP hD hS => ?_)
      have hP : va_P G.1 vwCl [(y_, .inr (7, [.ref (ca 0), .ref (ca 1), .ref (ca 2), .int (nI ke), .ref (ca 3), .int (nI ty_), .int (nI th), .int (nI po), .int (bI fl_), .ref (ca 4), .int (nI tl), .ref (ca 5)])), (ca 3, .inl (G.2.1, 60, .inl (fun q9 => nI (cs q9)))), (ca 4, .inl (G.2.1, 124, .inl (upd td (4 * tl) (nI (cs po)))))] _ := hP
      have hD : va_D A [(y_, .inr (7, [.ref (ca 0), .ref (ca 1), .ref (ca 2), .int (nI ke), .ref (ca 3), .int (nI ty_), .int (nI th), .int (nI po), .int (bI fl_), .ref (ca 4), .int (nI tl), .ref (ca 5)])), (ca 3, .inl (G.2.1, 60, .inl (fun q9 => nI (cs q9)))), (ca 4, .inl (G.2.1, 124, .inl (upd td (4 * tl) (nI (cs po)))))] := hD
      refine lv_iload_n hx hb dX7_isPart_37 rfl (lv_at hl 0 rfl) ?_
      refine ks_vI (show nI (cs po) = nI 112 from congrArg nI e) ?_
      refine lv_lookup (off := 42) (tgt := 80) hx hb dX7_isPart_38 (by decide) (by decide +kernel) (by decide) ?_
      refine lv_aload_n hx hb dX7_isPart_80 rfl (lv_at hl 1 rfl) ?_
      refine lv_dup hx hb dX7_isPart_81 rfl ?_
      refine va_get (D := G.1) (ci := 7) (v := .int (nI po)) (C := RX7) (T := TX7) (N := 12) hx hb hts hin7 hown hK hP 0 rfl rfl 7 (by decide) (hts (.fieldLink RX7 122 "PowerTablesModel" "at" "I") (List.mem_of_getElem? (i := 1) rfl)) (fun _ h9 => h9) rfl dX7_isPart_82 ?_
      refine lv_iconst (v := nI 1) hx hb dX7_isPart_85 (by decide) ?_
      refine ks_iaddN hx hb dX7_isPart_86 ?_
      refine va_put (D := G.1) (ci := 7) (v := .int (nI (po + 1))) (ty := .int) (C := RX7) (T := TX7) (N := 12) hx hb hts hin7 tyX7 tyX7_ok nmX7 hown hK hP hD hS 0 rfl rfl 7 (by decide) (hts (.fieldLink RX7 122 "PowerTablesModel" "at" "I") (List.mem_of_getElem? (i := 1) rfl)) (fun _ h9 => h9) rfl (tyX7_ok 7 (by decide)) rfl rfl (Nat.le_of_ble_eq_true rfl) dX7_isPart_87 (fun Hq lcq hP hD hS => ?_)
      have hP : va_P G.1 vwCl [(y_, .inr (7, [.ref (ca 0), .ref (ca 1), .ref (ca 2), .int (nI ke), .ref (ca 3), .int (nI ty_), .int (nI th), .int (nI (po + 1)), .int (bI fl_), .ref (ca 4), .int (nI tl), .ref (ca 5)])), (ca 3, .inl (G.2.1, 60, .inl (fun q9 => nI (cs q9)))), (ca 4, .inl (G.2.1, 124, .inl (upd td (4 * tl) (nI (cs po)))))] _ := hP
      have hD : va_D A [(y_, .inr (7, [.ref (ca 0), .ref (ca 1), .ref (ca 2), .int (nI ke), .ref (ca 3), .int (nI ty_), .int (nI th), .int (nI (po + 1)), .int (bI fl_), .ref (ca 4), .int (nI tl), .ref (ca 5)])), (ca 3, .inl (G.2.1, 60, .inl (fun q9 => nI (cs q9)))), (ca 4, .inl (G.2.1, 124, .inl (upd td (4 * tl) (nI (cs po)))))] := hD
      refine lv_aload_n hx hb dX7_isPart_90 rfl (lv_at hl 1 rfl) ?_
      refine cr_V (wr := []) (As := []) (rest := []) ⟨hx, hb, hml, hown, hts⟩ (c_X7_isRows G l y_ ca ke ty_ th (po + 1) fl_ tl cs (upd td (4 * tl) (nI (cs po))) (by omega) (jcs) (by omega) (by omega) (s0_y js e rfl)) (cwV 0 hts gX7_isPart_X7_isRows rfl rfl rfl (by decide +kernel) ⟨Nat.le_of_ble_eq_true rfl, Nat.le_of_ble_eq_true rfl⟩) dX7_isPart_91 hK hNX hP hD hS hA hl 0 7 rfl rfl rfl [0, 1, 2] [] rfl rfl rfl rfl (by decide) rfl (Nat.le_of_ble_eq_true rfl) ⟨Nat.le_of_ble_eq_true rfl, Nat.le_of_ble_eq_true rfl⟩ rfl (fun v' w' Hq lcq hR' hP hD hS => ?_)
      obtain ⟨ok9_91, b9_91, td9_91, fl9_91, rfl, rfl, jq_91⟩ := hR'
      have hP : va_P G.1 vwCl [(y_, .inr (7, [.ref (ca 0), .ref (ca 1), .ref (ca 2), .int (nI ke), .ref (ca 3), .int (nI ty_), .int (nI th), .int (nI b9_91), .int (bI fl9_91), .ref (ca 4), .int (nI tl), .ref (ca 5)])), (ca 3, .inl (G.2.1, 60, .inl (fun q9 => nI (cs q9)))), (ca 4, .inl (G.2.1, 124, .inl (td9_91)))] _ := hP.sub [0, 1, 2] rfl
      have hD : va_D A [(y_, .inr (7, [.ref (ca 0), .ref (ca 1), .ref (ca 2), .int (nI ke), .ref (ca 3), .int (nI ty_), .int (nI th), .int (nI b9_91), .int (bI fl9_91), .ref (ca 4), .int (nI tl), .ref (ca 5)])), (ca 3, .inl (G.2.1, 60, .inl (fun q9 => nI (cs q9)))), (ca 4, .inl (G.2.1, 124, .inl (td9_91)))] := hD.sub [0, 1, 2] (by decide +kernel) rfl
      exact cr_zret hx hb hr hlocks hK hP hD hS bI_nar dX7_isPart_94 (by rw [hRR]; exact ⟨_, _, _, _, congrArg (fun z => some (Value.int z)) (rfl), rfl, ⟨fun h => by obtain ⟨a1, a2, a3, a4, a5, a6⟩ := jq_91.1 h; exact ⟨a1, by omega, a3, no59 a4 (by omega), fun hN => ⟨h0, (a6 _ (by omega)).trans upd_s, Or.inl ⟨e, a5 hN⟩⟩, fun i hi => (a6 i (by omega)).trans (upd_n (by omega))⟩, jq_91.2⟩⟩)
  · refine lv_aload_n hx hb dX7_isPart_0 rfl (lv_at hl 0 rfl) ?_
    refine va_get (D := G.1) (ci := 7) (v := .int (nI po)) (C := RX7) (T := TX7) (N := 12) hx hb hts hin7 hown hK hP 0 rfl rfl 7 (by decide) (hts (.fieldLink RX7 122 "PowerTablesModel" "at" "I") (List.mem_of_getElem? (i := 1) rfl)) (fun _ h9 => h9) rfl dX7_isPart_1 ?_
    refine lv_aload_n hx hb dX7_isPart_4 rfl (lv_at hl 0 rfl) ?_
    refine va_get (D := G.1) (ci := 7) (v := .int (nI ty_)) (C := RX7) (T := TX7) (N := 12) hx hb hts hin7 hown hK hP 0 rfl rfl 5 (by decide) (hts (.fieldLink RX7 119 "PowerTablesModel" "typed" "I") (List.mem_of_getElem? (i := 2) rfl)) (fun _ h9 => h9) rfl dX7_isPart_5 ?_
    refine ks_icmp_ge (tgt := 23) hx hb dX7_isPart_8 (by decide) (by omega) (by omega) (fun c_8 => ?_) (fun c_8 => ?_)
    · omega
    · refine lv_aload_n hx hb dX7_isPart_11 rfl (lv_at hl 0 rfl) ?_
      refine va_get (D := G.1) (ci := 7) (v := .ref (ca 3)) (C := RX7) (T := TX7) (N := 12) hx hb hts hin7 hown hK hP 0 rfl rfl 4 (by decide) (hts (.fieldLink RX7 19 "PowerTablesModel" "text" "[I") (List.mem_of_getElem? (i := 3) rfl)) (fun _ h9 => h9) rfl dX7_isPart_12 ?_
      refine lv_aload_n hx hb dX7_isPart_15 rfl (lv_at hl 0 rfl) ?_
      refine va_get (D := G.1) (ci := 7) (v := .int (nI po)) (C := RX7) (T := TX7) (N := 12) hx hb hts hin7 hown hK hP 0 rfl rfl 7 (by decide) (hts (.fieldLink RX7 122 "PowerTablesModel" "at" "I") (List.mem_of_getElem? (i := 1) rfl)) (fun _ h9 => h9) rfl dX7_isPart_16 ?_
      refine ks_iald hx hb hK hP 1 rfl (by omega) (by decide) dX7_isPart_19 ?_
      have jc9 := jcs po (by omega)
      refine lv_goto (tgt := 24) hx hb dX7_isPart_20 (by decide) ?_
      refine lv_istore_n (lv' := [(1, .int (nI (cs po))), (0, .ref y_)]) hx hb dX7_isPart_24 rfl hl (by decide) rfl (fun ls hl => ?_)
      refine lv_aload_n hx hb dX7_isPart_25 rfl (lv_at hl 1 rfl) ?_
      refine va_get (D := G.1) (ci := 7) (v := .ref (ca 4)) (C := RX7) (T := TX7) (N := 12) hx hb hts hin7 hown hK hP 0 rfl rfl 9 (by decide) (hts (.fieldLink RX7 23 "PowerTablesModel" "told" "[I") (List.mem_of_getElem? (i := 4) rfl)) (fun _ h9 => h9) rfl dX7_isPart_26 ?_
      refine lv_iconst (v := nI 4) hx hb dX7_isPart_29 (by decide) ?_
      refine lv_aload_n hx hb dX7_isPart_30 rfl (lv_at hl 1 rfl) ?_
      refine va_get (D := G.1) (ci := 7) (v := .int (nI tl)) (C := RX7) (T := TX7) (N := 12) hx hb hts hin7 hown hK hP 0 rfl rfl 10 (by decide) (hts (.fieldLink RX7 137 "PowerTablesModel" "tolds" "I") (List.mem_of_getElem? (i := 5) rfl)) (fun _ h9 => h9) rfl dX7_isPart_31 ?_
      refine ks_imulN hx hb dX7_isPart_34 ?_
      refine lv_iload_n hx hb dX7_isPart_35 rfl (lv_at hl 0 rfl) ?_
      refine ks_iast (f' := upd td (4 * tl) (nI (cs po))) hx hb hK hP hD hS 2 rfl (by omega) (by decide) (rfl) dX7_isPart_36 (fun Hq lcq hP hD hS => ?_)
      have hP : va_P G.1 vwCl [(y_, .inr (7, [.ref (ca 0), .ref (ca 1), .ref (ca 2), .int (nI ke), .ref (ca 3), .int (nI ty_), .int (nI th), .int (nI po), .int (bI fl_), .ref (ca 4), .int (nI tl), .ref (ca 5)])), (ca 3, .inl (G.2.1, 60, .inl (fun q9 => nI (cs q9)))), (ca 4, .inl (G.2.1, 124, .inl (upd td (4 * tl) (nI (cs po)))))] _ := hP
      have hD : va_D A [(y_, .inr (7, [.ref (ca 0), .ref (ca 1), .ref (ca 2), .int (nI ke), .ref (ca 3), .int (nI ty_), .int (nI th), .int (nI po), .int (bI fl_), .ref (ca 4), .int (nI tl), .ref (ca 5)])), (ca 3, .inl (G.2.1, 60, .inl (fun q9 => nI (cs q9)))), (ca 4, .inl (G.2.1, 124, .inl (upd td (4 * tl) (nI (cs po)))))] := hD
      refine lv_iload_n hx hb dX7_isPart_37 rfl (lv_at hl 0 rfl) ?_
      refine ks_vI (show nI (cs po) = nI 115 from congrArg nI e) ?_
      refine lv_lookup (off := 57) (tgt := 95) hx hb dX7_isPart_38 (by decide) (by decide +kernel) (by decide) ?_
      refine lv_aload_n hx hb dX7_isPart_95 rfl (lv_at hl 1 rfl) ?_
      refine lv_dup hx hb dX7_isPart_96 rfl ?_
      refine va_get (D := G.1) (ci := 7) (v := .int (nI po)) (C := RX7) (T := TX7) (N := 12) hx hb hts hin7 hown hK hP 0 rfl rfl 7 (by decide) (hts (.fieldLink RX7 122 "PowerTablesModel" "at" "I") (List.mem_of_getElem? (i := 1) rfl)) (fun _ h9 => h9) rfl dX7_isPart_97 ?_
      refine lv_iconst (v := nI 1) hx hb dX7_isPart_100 (by decide) ?_
      refine ks_iaddN hx hb dX7_isPart_101 ?_
      refine va_put (D := G.1) (ci := 7) (v := .int (nI (po + 1))) (ty := .int) (C := RX7) (T := TX7) (N := 12) hx hb hts hin7 tyX7 tyX7_ok nmX7 hown hK hP hD hS 0 rfl rfl 7 (by decide) (hts (.fieldLink RX7 122 "PowerTablesModel" "at" "I") (List.mem_of_getElem? (i := 1) rfl)) (fun _ h9 => h9) rfl (tyX7_ok 7 (by decide)) rfl rfl (Nat.le_of_ble_eq_true rfl) dX7_isPart_102 (fun Hq lcq hP hD hS => ?_)
      have hP : va_P G.1 vwCl [(y_, .inr (7, [.ref (ca 0), .ref (ca 1), .ref (ca 2), .int (nI ke), .ref (ca 3), .int (nI ty_), .int (nI th), .int (nI (po + 1)), .int (bI fl_), .ref (ca 4), .int (nI tl), .ref (ca 5)])), (ca 3, .inl (G.2.1, 60, .inl (fun q9 => nI (cs q9)))), (ca 4, .inl (G.2.1, 124, .inl (upd td (4 * tl) (nI (cs po)))))] _ := hP
      have hD : va_D A [(y_, .inr (7, [.ref (ca 0), .ref (ca 1), .ref (ca 2), .int (nI ke), .ref (ca 3), .int (nI ty_), .int (nI th), .int (nI (po + 1)), .int (bI fl_), .ref (ca 4), .int (nI tl), .ref (ca 5)])), (ca 3, .inl (G.2.1, 60, .inl (fun q9 => nI (cs q9)))), (ca 4, .inl (G.2.1, 124, .inl (upd td (4 * tl) (nI (cs po)))))] := hD
      refine lv_aload_n hx hb dX7_isPart_105 rfl (lv_at hl 1 rfl) ?_
      refine cr_V (wr := []) (As := []) (rest := []) ⟨hx, hb, hml, hown, hts⟩ (c_X7_isSlip G l y_ ca ke ty_ th (po + 1) fl_ tl cs (upd td (4 * tl) (nI (cs po))) (by omega) (jcs) (by omega) (by omega) (s0_y js e rfl)) (cwV 0 hts gX7_isPart_X7_isSlip rfl rfl rfl (by decide +kernel) ⟨Nat.le_of_ble_eq_true rfl, Nat.le_of_ble_eq_true rfl⟩) dX7_isPart_106 hK hNX hP hD hS hA hl 0 7 rfl rfl rfl [0, 1, 2] [] rfl rfl rfl rfl (by decide) rfl (Nat.le_of_ble_eq_true rfl) ⟨Nat.le_of_ble_eq_true rfl, Nat.le_of_ble_eq_true rfl⟩ rfl (fun v' w' Hq lcq hR' hP hD hS => ?_)
      obtain ⟨ok9_106, b9_106, td9_106, fl9_106, rfl, rfl, jq_106⟩ := hR'
      have hP : va_P G.1 vwCl [(y_, .inr (7, [.ref (ca 0), .ref (ca 1), .ref (ca 2), .int (nI ke), .ref (ca 3), .int (nI ty_), .int (nI th), .int (nI b9_106), .int (bI fl9_106), .ref (ca 4), .int (nI tl), .ref (ca 5)])), (ca 3, .inl (G.2.1, 60, .inl (fun q9 => nI (cs q9)))), (ca 4, .inl (G.2.1, 124, .inl (td9_106)))] _ := hP.sub [0, 1, 2] rfl
      have hD : va_D A [(y_, .inr (7, [.ref (ca 0), .ref (ca 1), .ref (ca 2), .int (nI ke), .ref (ca 3), .int (nI ty_), .int (nI th), .int (nI b9_106), .int (bI fl9_106), .ref (ca 4), .int (nI tl), .ref (ca 5)])), (ca 3, .inl (G.2.1, 60, .inl (fun q9 => nI (cs q9)))), (ca 4, .inl (G.2.1, 124, .inl (td9_106)))] := hD.sub [0, 1, 2] (by decide +kernel) rfl
      exact cr_zret hx hb hr hlocks hK hP hD hS bI_nar dX7_isPart_109 (by rw [hRR]; exact ⟨_, _, _, _, congrArg (fun z => some (Value.int z)) (rfl), rfl, ⟨fun h => by obtain ⟨a1, a2, a3, a4, a5, a6, a7, a8, a9⟩ := jq_106.1 h; exact ⟨a1, by omega, a3, no59 a4 (by omega), fun hN => ⟨h0, (a9 _ (by omega)).trans upd_s, Or.inr (Or.inl ⟨e, a5, a6, a7, a8⟩)⟩, fun i hi => (a9 i (by omega)).trans (upd_n (by omega))⟩, jq_106.2⟩⟩)
  · refine lv_aload_n hx hb dX7_isPart_0 rfl (lv_at hl 0 rfl) ?_
    refine va_get (D := G.1) (ci := 7) (v := .int (nI po)) (C := RX7) (T := TX7) (N := 12) hx hb hts hin7 hown hK hP 0 rfl rfl 7 (by decide) (hts (.fieldLink RX7 122 "PowerTablesModel" "at" "I") (List.mem_of_getElem? (i := 1) rfl)) (fun _ h9 => h9) rfl dX7_isPart_1 ?_
    refine lv_aload_n hx hb dX7_isPart_4 rfl (lv_at hl 0 rfl) ?_
    refine va_get (D := G.1) (ci := 7) (v := .int (nI ty_)) (C := RX7) (T := TX7) (N := 12) hx hb hts hin7 hown hK hP 0 rfl rfl 5 (by decide) (hts (.fieldLink RX7 119 "PowerTablesModel" "typed" "I") (List.mem_of_getElem? (i := 2) rfl)) (fun _ h9 => h9) rfl dX7_isPart_5 ?_
    refine ks_icmp_ge (tgt := 23) hx hb dX7_isPart_8 (by decide) (by omega) (by omega) (fun c_8 => ?_) (fun c_8 => ?_)
    · omega
    · refine lv_aload_n hx hb dX7_isPart_11 rfl (lv_at hl 0 rfl) ?_
      refine va_get (D := G.1) (ci := 7) (v := .ref (ca 3)) (C := RX7) (T := TX7) (N := 12) hx hb hts hin7 hown hK hP 0 rfl rfl 4 (by decide) (hts (.fieldLink RX7 19 "PowerTablesModel" "text" "[I") (List.mem_of_getElem? (i := 3) rfl)) (fun _ h9 => h9) rfl dX7_isPart_12 ?_
      refine lv_aload_n hx hb dX7_isPart_15 rfl (lv_at hl 0 rfl) ?_
      refine va_get (D := G.1) (ci := 7) (v := .int (nI po)) (C := RX7) (T := TX7) (N := 12) hx hb hts hin7 hown hK hP 0 rfl rfl 7 (by decide) (hts (.fieldLink RX7 122 "PowerTablesModel" "at" "I") (List.mem_of_getElem? (i := 1) rfl)) (fun _ h9 => h9) rfl dX7_isPart_16 ?_
      refine ks_iald hx hb hK hP 1 rfl (by omega) (by decide) dX7_isPart_19 ?_
      have jc9 := jcs po (by omega)
      refine lv_goto (tgt := 24) hx hb dX7_isPart_20 (by decide) ?_
      refine lv_istore_n (lv' := [(1, .int (nI (cs po))), (0, .ref y_)]) hx hb dX7_isPart_24 rfl hl (by decide) rfl (fun ls hl => ?_)
      refine lv_aload_n hx hb dX7_isPart_25 rfl (lv_at hl 1 rfl) ?_
      refine va_get (D := G.1) (ci := 7) (v := .ref (ca 4)) (C := RX7) (T := TX7) (N := 12) hx hb hts hin7 hown hK hP 0 rfl rfl 9 (by decide) (hts (.fieldLink RX7 23 "PowerTablesModel" "told" "[I") (List.mem_of_getElem? (i := 4) rfl)) (fun _ h9 => h9) rfl dX7_isPart_26 ?_
      refine lv_iconst (v := nI 4) hx hb dX7_isPart_29 (by decide) ?_
      refine lv_aload_n hx hb dX7_isPart_30 rfl (lv_at hl 1 rfl) ?_
      refine va_get (D := G.1) (ci := 7) (v := .int (nI tl)) (C := RX7) (T := TX7) (N := 12) hx hb hts hin7 hown hK hP 0 rfl rfl 10 (by decide) (hts (.fieldLink RX7 137 "PowerTablesModel" "tolds" "I") (List.mem_of_getElem? (i := 5) rfl)) (fun _ h9 => h9) rfl dX7_isPart_31 ?_
      refine ks_imulN hx hb dX7_isPart_34 ?_
      refine lv_iload_n hx hb dX7_isPart_35 rfl (lv_at hl 0 rfl) ?_
      refine ks_iast (f' := upd td (4 * tl) (nI (cs po))) hx hb hK hP hD hS 2 rfl (by omega) (by decide) (rfl) dX7_isPart_36 (fun Hq lcq hP hD hS => ?_)
      have hP : va_P G.1 vwCl [(y_, .inr (7, [.ref (ca 0), .ref (ca 1), .ref (ca 2), .int (nI ke), .ref (ca 3), .int (nI ty_), .int (nI th), .int (nI po), .int (bI fl_), .ref (ca 4), .int (nI tl), .ref (ca 5)])), (ca 3, .inl (G.2.1, 60, .inl (fun q9 => nI (cs q9)))), (ca 4, .inl (G.2.1, 124, .inl (upd td (4 * tl) (nI (cs po)))))] _ := hP
      have hD : va_D A [(y_, .inr (7, [.ref (ca 0), .ref (ca 1), .ref (ca 2), .int (nI ke), .ref (ca 3), .int (nI ty_), .int (nI th), .int (nI po), .int (bI fl_), .ref (ca 4), .int (nI tl), .ref (ca 5)])), (ca 3, .inl (G.2.1, 60, .inl (fun q9 => nI (cs q9)))), (ca 4, .inl (G.2.1, 124, .inl (upd td (4 * tl) (nI (cs po)))))] := hD
      refine lv_iload_n hx hb dX7_isPart_37 rfl (lv_at hl 0 rfl) ?_
      refine ks_vI (show nI (cs po) = nI 99 from congrArg nI e) ?_
      refine lv_lookup (off := 72) (tgt := 110) hx hb dX7_isPart_38 (by decide) (by decide +kernel) (by decide) ?_
      refine lv_aload_n hx hb dX7_isPart_110 rfl (lv_at hl 1 rfl) ?_
      refine lv_dup hx hb dX7_isPart_111 rfl ?_
      refine va_get (D := G.1) (ci := 7) (v := .int (nI po)) (C := RX7) (T := TX7) (N := 12) hx hb hts hin7 hown hK hP 0 rfl rfl 7 (by decide) (hts (.fieldLink RX7 122 "PowerTablesModel" "at" "I") (List.mem_of_getElem? (i := 1) rfl)) (fun _ h9 => h9) rfl dX7_isPart_112 ?_
      refine lv_iconst (v := nI 1) hx hb dX7_isPart_115 (by decide) ?_
      refine ks_iaddN hx hb dX7_isPart_116 ?_
      refine va_put (D := G.1) (ci := 7) (v := .int (nI (po + 1))) (ty := .int) (C := RX7) (T := TX7) (N := 12) hx hb hts hin7 tyX7 tyX7_ok nmX7 hown hK hP hD hS 0 rfl rfl 7 (by decide) (hts (.fieldLink RX7 122 "PowerTablesModel" "at" "I") (List.mem_of_getElem? (i := 1) rfl)) (fun _ h9 => h9) rfl (tyX7_ok 7 (by decide)) rfl rfl (Nat.le_of_ble_eq_true rfl) dX7_isPart_117 (fun Hq lcq hP hD hS => ?_)
      have hP : va_P G.1 vwCl [(y_, .inr (7, [.ref (ca 0), .ref (ca 1), .ref (ca 2), .int (nI ke), .ref (ca 3), .int (nI ty_), .int (nI th), .int (nI (po + 1)), .int (bI fl_), .ref (ca 4), .int (nI tl), .ref (ca 5)])), (ca 3, .inl (G.2.1, 60, .inl (fun q9 => nI (cs q9)))), (ca 4, .inl (G.2.1, 124, .inl (upd td (4 * tl) (nI (cs po)))))] _ := hP
      have hD : va_D A [(y_, .inr (7, [.ref (ca 0), .ref (ca 1), .ref (ca 2), .int (nI ke), .ref (ca 3), .int (nI ty_), .int (nI th), .int (nI (po + 1)), .int (bI fl_), .ref (ca 4), .int (nI tl), .ref (ca 5)])), (ca 3, .inl (G.2.1, 60, .inl (fun q9 => nI (cs q9)))), (ca 4, .inl (G.2.1, 124, .inl (upd td (4 * tl) (nI (cs po)))))] := hD
      refine lv_iconst (v := nI 1) hx hb dX7_isPart_120 (by decide) ?_
      exact cr_zret hx hb hr hlocks hK hP hD hS (by decide +kernel) dX7_isPart_121 (by rw [hRR]; exact ⟨True, _, _, _, congrArg (fun z => some (Value.int z)) (bI_1 trivial), rfl, ⟨fun _ => ⟨nx9 (s0_y js e rfl) ty_, by omega, by omega, fun i h1 h2 => by rw [show i = po by omega]; omega, fun _ => ⟨h0, upd_s, Or.inr (Or.inr (Or.inl e))⟩, fun i hi => upd_n (by omega)⟩, fun h => absurd trivial h⟩⟩)
  · refine lv_aload_n hx hb dX7_isPart_0 rfl (lv_at hl 0 rfl) ?_
    refine va_get (D := G.1) (ci := 7) (v := .int (nI po)) (C := RX7) (T := TX7) (N := 12) hx hb hts hin7 hown hK hP 0 rfl rfl 7 (by decide) (hts (.fieldLink RX7 122 "PowerTablesModel" "at" "I") (List.mem_of_getElem? (i := 1) rfl)) (fun _ h9 => h9) rfl dX7_isPart_1 ?_
    refine lv_aload_n hx hb dX7_isPart_4 rfl (lv_at hl 0 rfl) ?_
    refine va_get (D := G.1) (ci := 7) (v := .int (nI ty_)) (C := RX7) (T := TX7) (N := 12) hx hb hts hin7 hown hK hP 0 rfl rfl 5 (by decide) (hts (.fieldLink RX7 119 "PowerTablesModel" "typed" "I") (List.mem_of_getElem? (i := 2) rfl)) (fun _ h9 => h9) rfl dX7_isPart_5 ?_
    refine ks_icmp_ge (tgt := 23) hx hb dX7_isPart_8 (by decide) (by omega) (by omega) (fun c_8 => ?_) (fun c_8 => ?_)
    · omega
    · refine lv_aload_n hx hb dX7_isPart_11 rfl (lv_at hl 0 rfl) ?_
      refine va_get (D := G.1) (ci := 7) (v := .ref (ca 3)) (C := RX7) (T := TX7) (N := 12) hx hb hts hin7 hown hK hP 0 rfl rfl 4 (by decide) (hts (.fieldLink RX7 19 "PowerTablesModel" "text" "[I") (List.mem_of_getElem? (i := 3) rfl)) (fun _ h9 => h9) rfl dX7_isPart_12 ?_
      refine lv_aload_n hx hb dX7_isPart_15 rfl (lv_at hl 0 rfl) ?_
      refine va_get (D := G.1) (ci := 7) (v := .int (nI po)) (C := RX7) (T := TX7) (N := 12) hx hb hts hin7 hown hK hP 0 rfl rfl 7 (by decide) (hts (.fieldLink RX7 122 "PowerTablesModel" "at" "I") (List.mem_of_getElem? (i := 1) rfl)) (fun _ h9 => h9) rfl dX7_isPart_16 ?_
      refine ks_iald hx hb hK hP 1 rfl (by omega) (by decide) dX7_isPart_19 ?_
      have jc9 := jcs po (by omega)
      refine lv_goto (tgt := 24) hx hb dX7_isPart_20 (by decide) ?_
      refine lv_istore_n (lv' := [(1, .int (nI (cs po))), (0, .ref y_)]) hx hb dX7_isPart_24 rfl hl (by decide) rfl (fun ls hl => ?_)
      refine lv_aload_n hx hb dX7_isPart_25 rfl (lv_at hl 1 rfl) ?_
      refine va_get (D := G.1) (ci := 7) (v := .ref (ca 4)) (C := RX7) (T := TX7) (N := 12) hx hb hts hin7 hown hK hP 0 rfl rfl 9 (by decide) (hts (.fieldLink RX7 23 "PowerTablesModel" "told" "[I") (List.mem_of_getElem? (i := 4) rfl)) (fun _ h9 => h9) rfl dX7_isPart_26 ?_
      refine lv_iconst (v := nI 4) hx hb dX7_isPart_29 (by decide) ?_
      refine lv_aload_n hx hb dX7_isPart_30 rfl (lv_at hl 1 rfl) ?_
      refine va_get (D := G.1) (ci := 7) (v := .int (nI tl)) (C := RX7) (T := TX7) (N := 12) hx hb hts hin7 hown hK hP 0 rfl rfl 10 (by decide) (hts (.fieldLink RX7 137 "PowerTablesModel" "tolds" "I") (List.mem_of_getElem? (i := 5) rfl)) (fun _ h9 => h9) rfl dX7_isPart_31 ?_
      refine ks_imulN hx hb dX7_isPart_34 ?_
      refine lv_iload_n hx hb dX7_isPart_35 rfl (lv_at hl 0 rfl) ?_
      refine ks_iast (f' := upd td (4 * tl) (nI (cs po))) hx hb hK hP hD hS 2 rfl (by omega) (by decide) (rfl) dX7_isPart_36 (fun Hq lcq hP hD hS => ?_)
      have hP : va_P G.1 vwCl [(y_, .inr (7, [.ref (ca 0), .ref (ca 1), .ref (ca 2), .int (nI ke), .ref (ca 3), .int (nI ty_), .int (nI th), .int (nI po), .int (bI fl_), .ref (ca 4), .int (nI tl), .ref (ca 5)])), (ca 3, .inl (G.2.1, 60, .inl (fun q9 => nI (cs q9)))), (ca 4, .inl (G.2.1, 124, .inl (upd td (4 * tl) (nI (cs po)))))] _ := hP
      have hD : va_D A [(y_, .inr (7, [.ref (ca 0), .ref (ca 1), .ref (ca 2), .int (nI ke), .ref (ca 3), .int (nI ty_), .int (nI th), .int (nI po), .int (bI fl_), .ref (ca 4), .int (nI tl), .ref (ca 5)])), (ca 3, .inl (G.2.1, 60, .inl (fun q9 => nI (cs q9)))), (ca 4, .inl (G.2.1, 124, .inl (upd td (4 * tl) (nI (cs po)))))] := hD
      refine lv_iload_n hx hb dX7_isPart_37 rfl (lv_at hl 0 rfl) ?_
      refine ks_vI (show nI (cs po) = nI 110 from congrArg nI e) ?_
      refine lv_lookup (off := 84) (tgt := 122) hx hb dX7_isPart_38 (by decide) (by decide +kernel) (by decide) ?_
      refine lv_aload_n hx hb dX7_isPart_122 rfl (lv_at hl 1 rfl) ?_
      refine lv_dup hx hb dX7_isPart_123 rfl ?_
      refine va_get (D := G.1) (ci := 7) (v := .int (nI po)) (C := RX7) (T := TX7) (N := 12) hx hb hts hin7 hown hK hP 0 rfl rfl 7 (by decide) (hts (.fieldLink RX7 122 "PowerTablesModel" "at" "I") (List.mem_of_getElem? (i := 1) rfl)) (fun _ h9 => h9) rfl dX7_isPart_124 ?_
      refine lv_iconst (v := nI 1) hx hb dX7_isPart_127 (by decide) ?_
      refine ks_iaddN hx hb dX7_isPart_128 ?_
      refine va_put (D := G.1) (ci := 7) (v := .int (nI (po + 1))) (ty := .int) (C := RX7) (T := TX7) (N := 12) hx hb hts hin7 tyX7 tyX7_ok nmX7 hown hK hP hD hS 0 rfl rfl 7 (by decide) (hts (.fieldLink RX7 122 "PowerTablesModel" "at" "I") (List.mem_of_getElem? (i := 1) rfl)) (fun _ h9 => h9) rfl (tyX7_ok 7 (by decide)) rfl rfl (Nat.le_of_ble_eq_true rfl) dX7_isPart_129 (fun Hq lcq hP hD hS => ?_)
      have hP : va_P G.1 vwCl [(y_, .inr (7, [.ref (ca 0), .ref (ca 1), .ref (ca 2), .int (nI ke), .ref (ca 3), .int (nI ty_), .int (nI th), .int (nI (po + 1)), .int (bI fl_), .ref (ca 4), .int (nI tl), .ref (ca 5)])), (ca 3, .inl (G.2.1, 60, .inl (fun q9 => nI (cs q9)))), (ca 4, .inl (G.2.1, 124, .inl (upd td (4 * tl) (nI (cs po)))))] _ := hP
      have hD : va_D A [(y_, .inr (7, [.ref (ca 0), .ref (ca 1), .ref (ca 2), .int (nI ke), .ref (ca 3), .int (nI ty_), .int (nI th), .int (nI (po + 1)), .int (bI fl_), .ref (ca 4), .int (nI tl), .ref (ca 5)])), (ca 3, .inl (G.2.1, 60, .inl (fun q9 => nI (cs q9)))), (ca 4, .inl (G.2.1, 124, .inl (upd td (4 * tl) (nI (cs po)))))] := hD
      refine lv_aload_n hx hb dX7_isPart_132 rfl (lv_at hl 1 rfl) ?_
      refine lv_iconst (v := nI 1) hx hb dX7_isPart_133 (by decide) ?_
      refine lv_bipush (v := nI 48) hx hb dX7_isPart_134 (by decide) ?_
      refine lv_bipush (v := nI 57) hx hb dX7_isPart_136 (by decide) ?_
      refine cr_V (wr := []) (As := [.int (nI 1), .int (nI 48), .int (nI 57)]) (rest := []) ⟨hx, hb, hml, hown, hts⟩ (c_X7_isFigure G l y_ ca ke ty_ th (po + 1) fl_ tl cs (upd td (4 * tl) (nI (cs po))) 1 48 57 (by omega) (jcs) (by omega) (by omega) (by omega) (by omega) (by omega) (by omega)) (cwV 3 hts gX7_isPart_X7_isFigure rfl rfl rfl (by decide +kernel) ⟨Nat.le_of_ble_eq_true rfl, Nat.le_of_ble_eq_true rfl⟩) dX7_isPart_138 hK hNX hP hD hS hA hl 0 7 rfl rfl rfl [0, 1, 2] [] rfl rfl rfl rfl (by decide) rfl (Nat.le_of_ble_eq_true rfl) ⟨Nat.le_of_ble_eq_true rfl, Nat.le_of_ble_eq_true rfl⟩ rfl (fun v' w' Hq lcq hR' hP hD hS => ?_)
      obtain ⟨po9_138, td9_138, fl9_138, rfl, rfl, jq_138⟩ := hR'
      have hP : va_P G.1 vwCl [(y_, .inr (7, [.ref (ca 0), .ref (ca 1), .ref (ca 2), .int (nI ke), .ref (ca 3), .int (nI ty_), .int (nI th), .int (nI po9_138), .int (bI fl9_138), .ref (ca 4), .int (nI tl), .ref (ca 5)])), (ca 3, .inl (G.2.1, 60, .inl (fun q9 => nI (cs q9)))), (ca 4, .inl (G.2.1, 124, .inl (td9_138)))] _ := hP.sub [0, 1, 2] rfl
      have hD : va_D A [(y_, .inr (7, [.ref (ca 0), .ref (ca 1), .ref (ca 2), .int (nI ke), .ref (ca 3), .int (nI ty_), .int (nI th), .int (nI po9_138), .int (bI fl9_138), .ref (ca 4), .int (nI tl), .ref (ca 5)])), (ca 3, .inl (G.2.1, 60, .inl (fun q9 => nI (cs q9)))), (ca 4, .inl (G.2.1, 124, .inl (td9_138)))] := hD.sub [0, 1, 2] (by decide +kernel) rfl
      exact cr_zret hx hb hr hlocks hK hP hD hS bI_nar dX7_isPart_141 (by rw [hRR]; exact ⟨_, _, _, _, congrArg (fun z => some (Value.int z)) (rfl), rfl, ⟨fun h => by obtain ⟨w1, w2, -⟩ := jq_138.1 h; subst w1; subst w2; exact ⟨nx9 (s8_y (s0_y js e rfl) ⟨h.2.1, h.2.2⟩) ty_, by omega, by omega, fun i h1 h2 => (show i = po ∨ i = po + 1 by omega).elim (fun e9 => by rw [e9]; omega) (fun e9 => by rw [e9]; omega), fun _ => ⟨h0, (upd_n (by omega)).trans upd_s, Or.inr (Or.inr (Or.inr ⟨e, upd_s.trans (congrArg nI (dgA_f h.1 h.2.1 h.2.2).symm)⟩))⟩, fun i hi => (upd_n (by omega)).trans (upd_n (by omega))⟩, fun h => by obtain ⟨w1, w2, w3⟩ := jq_138.2 h; subst w1; exact ⟨s8_n (s0_y js e rfl) h, w3, by omega⟩⟩⟩)
  · refine lv_aload_n hx hb dX7_isPart_0 rfl (lv_at hl 0 rfl) ?_
    refine va_get (D := G.1) (ci := 7) (v := .int (nI po)) (C := RX7) (T := TX7) (N := 12) hx hb hts hin7 hown hK hP 0 rfl rfl 7 (by decide) (hts (.fieldLink RX7 122 "PowerTablesModel" "at" "I") (List.mem_of_getElem? (i := 1) rfl)) (fun _ h9 => h9) rfl dX7_isPart_1 ?_
    refine lv_aload_n hx hb dX7_isPart_4 rfl (lv_at hl 0 rfl) ?_
    refine va_get (D := G.1) (ci := 7) (v := .int (nI ty_)) (C := RX7) (T := TX7) (N := 12) hx hb hts hin7 hown hK hP 0 rfl rfl 5 (by decide) (hts (.fieldLink RX7 119 "PowerTablesModel" "typed" "I") (List.mem_of_getElem? (i := 2) rfl)) (fun _ h9 => h9) rfl dX7_isPart_5 ?_
    refine ks_icmp_ge (tgt := 23) hx hb dX7_isPart_8 (by decide) (by omega) (by omega) (fun c_8 => ?_) (fun c_8 => ?_)
    · omega
    · refine lv_aload_n hx hb dX7_isPart_11 rfl (lv_at hl 0 rfl) ?_
      refine va_get (D := G.1) (ci := 7) (v := .ref (ca 3)) (C := RX7) (T := TX7) (N := 12) hx hb hts hin7 hown hK hP 0 rfl rfl 4 (by decide) (hts (.fieldLink RX7 19 "PowerTablesModel" "text" "[I") (List.mem_of_getElem? (i := 3) rfl)) (fun _ h9 => h9) rfl dX7_isPart_12 ?_
      refine lv_aload_n hx hb dX7_isPart_15 rfl (lv_at hl 0 rfl) ?_
      refine va_get (D := G.1) (ci := 7) (v := .int (nI po)) (C := RX7) (T := TX7) (N := 12) hx hb hts hin7 hown hK hP 0 rfl rfl 7 (by decide) (hts (.fieldLink RX7 122 "PowerTablesModel" "at" "I") (List.mem_of_getElem? (i := 1) rfl)) (fun _ h9 => h9) rfl dX7_isPart_16 ?_
      refine ks_iald hx hb hK hP 1 rfl (by omega) (by decide) dX7_isPart_19 ?_
      have jc9 := jcs po (by omega)
      refine lv_goto (tgt := 24) hx hb dX7_isPart_20 (by decide) ?_
      refine lv_istore_n (lv' := [(1, .int (nI (cs po))), (0, .ref y_)]) hx hb dX7_isPart_24 rfl hl (by decide) rfl (fun ls hl => ?_)
      refine lv_aload_n hx hb dX7_isPart_25 rfl (lv_at hl 1 rfl) ?_
      refine va_get (D := G.1) (ci := 7) (v := .ref (ca 4)) (C := RX7) (T := TX7) (N := 12) hx hb hts hin7 hown hK hP 0 rfl rfl 9 (by decide) (hts (.fieldLink RX7 23 "PowerTablesModel" "told" "[I") (List.mem_of_getElem? (i := 4) rfl)) (fun _ h9 => h9) rfl dX7_isPart_26 ?_
      refine lv_iconst (v := nI 4) hx hb dX7_isPart_29 (by decide) ?_
      refine lv_aload_n hx hb dX7_isPart_30 rfl (lv_at hl 1 rfl) ?_
      refine va_get (D := G.1) (ci := 7) (v := .int (nI tl)) (C := RX7) (T := TX7) (N := 12) hx hb hts hin7 hown hK hP 0 rfl rfl 10 (by decide) (hts (.fieldLink RX7 137 "PowerTablesModel" "tolds" "I") (List.mem_of_getElem? (i := 5) rfl)) (fun _ h9 => h9) rfl dX7_isPart_31 ?_
      refine ks_imulN hx hb dX7_isPart_34 ?_
      refine lv_iload_n hx hb dX7_isPart_35 rfl (lv_at hl 0 rfl) ?_
      refine ks_iast (f' := upd td (4 * tl) (nI (cs po))) hx hb hK hP hD hS 2 rfl (by omega) (by decide) (rfl) dX7_isPart_36 (fun Hq lcq hP hD hS => ?_)
      have hP : va_P G.1 vwCl [(y_, .inr (7, [.ref (ca 0), .ref (ca 1), .ref (ca 2), .int (nI ke), .ref (ca 3), .int (nI ty_), .int (nI th), .int (nI po), .int (bI fl_), .ref (ca 4), .int (nI tl), .ref (ca 5)])), (ca 3, .inl (G.2.1, 60, .inl (fun q9 => nI (cs q9)))), (ca 4, .inl (G.2.1, 124, .inl (upd td (4 * tl) (nI (cs po)))))] _ := hP
      have hD : va_D A [(y_, .inr (7, [.ref (ca 0), .ref (ca 1), .ref (ca 2), .int (nI ke), .ref (ca 3), .int (nI ty_), .int (nI th), .int (nI po), .int (bI fl_), .ref (ca 4), .int (nI tl), .ref (ca 5)])), (ca 3, .inl (G.2.1, 60, .inl (fun q9 => nI (cs q9)))), (ca 4, .inl (G.2.1, 124, .inl (upd td (4 * tl) (nI (cs po)))))] := hD
      refine lv_iload_n hx hb dX7_isPart_37 rfl (lv_at hl 0 rfl) ?_
      refine lv_lookup (off := 104) (tgt := 142) hx hb dX7_isPart_38 (by decide) (lsw4 (by omega) e.2.2.1 e.2.2.2 e.1 e.2.1) (by decide) ?_
      refine lv_aload_n hx hb dX7_isPart_142 rfl (lv_at hl 1 rfl) ?_
      refine cr_V (wr := [(ca 3, .inl (G.2.1, 60, .inl (fun q9 => nI (cs q9)))), (ca 4, .inl (G.2.1, 124, .inl (upd td (4 * tl) (nI (cs po)))))]) (As := []) (rest := []) ⟨hx, hb, hml, hown, hts⟩ (c_X7_stops G l y_ ca ke ty_ th po fl_ tl (by omega) (by omega)) (cwV 0 hts gX7_isPart_X7_stops rfl rfl rfl (by decide +kernel) ⟨Nat.le_of_ble_eq_true rfl, Nat.le_of_ble_eq_true rfl⟩) dX7_isPart_143 hK hNX hP hD hS hA hl 0 7 rfl rfl rfl [0] [1, 2] rfl rfl rfl rfl (by decide) rfl (Nat.le_of_ble_eq_true rfl) ⟨Nat.le_of_ble_eq_true rfl, Nat.le_of_ble_eq_true rfl⟩ rfl (fun v' w' Hq lcq hR' hP hD hS => ?_)
      obtain ⟨rfl, rfl⟩ := hR'
      have hP : va_P G.1 vwCl [(y_, .inr (7, [.ref (ca 0), .ref (ca 1), .ref (ca 2), .int (nI ke), .ref (ca 3), .int (nI ty_), .int (nI th), .int (nI po), .int (bI (po < ty_)), .ref (ca 4), .int (nI tl), .ref (ca 5)])), (ca 3, .inl (G.2.1, 60, .inl (fun q9 => nI (cs q9)))), (ca 4, .inl (G.2.1, 124, .inl (upd td (4 * tl) (nI (cs po)))))] _ := hP.sub [2, 0, 1] rfl
      have hD : va_D A [(y_, .inr (7, [.ref (ca 0), .ref (ca 1), .ref (ca 2), .int (nI ke), .ref (ca 3), .int (nI ty_), .int (nI th), .int (nI po), .int (bI (po < ty_)), .ref (ca 4), .int (nI tl), .ref (ca 5)])), (ca 3, .inl (G.2.1, 60, .inl (fun q9 => nI (cs q9)))), (ca 4, .inl (G.2.1, 124, .inl (upd td (4 * tl) (nI (cs po)))))] := hD.sub [2, 0, 1] (by decide +kernel) rfl
      exact cr_zret hx hb hr hlocks hK hP hD hS (by decide +kernel) dX7_isPart_146 (by rw [hRR]; exact ⟨False, _, _, _, congrArg (fun z => some (Value.int z)) (bI_0 (fun z => z)), rfl, ⟨fun h => h.elim, fun _ => ⟨s0_n js (fun _ => e), Iff.rfl, jpo⟩⟩⟩)
