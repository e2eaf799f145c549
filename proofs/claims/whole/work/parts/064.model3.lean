set_option maxHeartbeats 4000000 in
set_option maxRecDepth 100000 in
theorem c_X7_error (G : GG) (l : Launch) (y_ : Nat) (ca : Nat → Nat) (ke : Nat) (ty_ : Nat) (th : Nat) (po : Nat) (fl_ : Prop) (tl : Nat) (T : TS) (i_ : Nat) (ji : i_ < 40) (jf_ : T.s 3 ≤ 99) (jp : T.s 2 ≤ 5) : Cr G l yX7_error wsX7_error ({ frames := 1, cells := 0, slots := 0, locals := 26 }) 0 0 [.ref y_, .int (nI i_)] [(y_, .inr (7, [.ref (ca 0), .ref (ca 1), .ref (ca 2), .int (nI ke), .ref (ca 3), .int (nI ty_), .int (nI th), .int (nI po), .int (bI fl_), .ref (ca 4), .int (nI tl), .ref (ca 5)])), (ca 0, .inl (G.2.2.1, 103, .inr (.inl (mV T))))] (ctR (some (.long (T.p i_ - rvT T i_))) [(y_, .inr (7, [.ref (ca 0), .ref (ca 1), .ref (ca 2), .int (nI ke), .ref (ca 3), .int (nI ty_), .int (nI th), .int (nI po), .int (bI fl_), .ref (ca 4), .int (nI tl), .ref (ca 5)])), (ca 0, .inl (G.2.2.1, 103, .inr (.inl (mV T))))]) := by
  refine cr_intro (cc := cX7_error) (maxL := 2) (ret := (some .long)) (own := RX7) (by decide) rfl rfl (Nat.le_of_ble_eq_true rfl) ?_
  intro p e s m args below meth c A hx hb hr hml hts hown hlocks hnm hNX hP hK hD hA hS ls hl
  obtain ⟨RR, hRR⟩ : ∃ RR, RR = (ctR (some (.long (T.p i_ - rvT T i_))) [(y_, .inr (7, [.ref (ca 0), .ref (ca 1), .ref (ca 2), .int (nI ke), .ref (ca 3), .int (nI ty_), .int (nI th), .int (nI po), .int (bI fl_), .ref (ca 4), .int (nI tl), .ref (ca 5)])), (ca 0, .inl (G.2.2.1, 103, .inr (.inl (mV T))))]) := ⟨_, rfl⟩
  rw [← hRR]
  have hl : lv_has ls 2 [(0, .ref y_), (1, .int (nI i_))] := hl
  have hin7 : ∀ w ∈ u_ws RX7 TX7 12, w ∈ wsX7_error := fun w h => List.mem_cons_of_mem _ (List.mem_append_right _ h)
  refine lv_aload_n hx hb dX7_error_0 rfl (lv_at hl 0 rfl) ?_
  refine va_get (D := G.1) (ci := 7) (v := .ref (ca 0)) (C := RX7) (T := TX7) (N := 12) hx hb hts hin7 hown hK hP 0 rfl rfl 0 (by decide) (hts (.fieldLink RX7 7 "PowerTablesModel" "now" "[J") (List.mem_of_getElem? (i := 1) rfl)) (fun _ h9 => h9) rfl dX7_error_1 ?_
  refine lv_bipush (v := nI 23) hx hb dX7_error_4 (by decide) ?_
  refine lv_iload_n hx hb dX7_error_6 rfl (lv_at hl 1 rfl) ?_
  refine ks_iaddN hx hb dX7_error_7 ?_
  refine ks_lald hx hb hK hP 1 rfl (by omega) (by decide) dX7_error_8 ?_
  refine ks_vL (show mV T (23 + i_) = T.p i_ from mV_p (j := i_) (by omega)) ?_
  refine lv_aload_n hx hb dX7_error_9 rfl (lv_at hl 0 rfl) ?_
  refine va_get (D := G.1) (ci := 7) (v := .ref (ca 0)) (C := RX7) (T := TX7) (N := 12) hx hb hts hin7 hown hK hP 0 rfl rfl 0 (by decide) (hts (.fieldLink RX7 7 "PowerTablesModel" "now" "[J") (List.mem_of_getElem? (i := 1) rfl)) (fun _ h9 => h9) rfl dX7_error_10 ?_
  refine lv_iload_n hx hb dX7_error_13 rfl (lv_at hl 1 rfl) ?_
  refine cr_S (wr := [(y_, .inr (7, [.ref (ca 0), .ref (ca 1), .ref (ca 2), .int (nI ke), .ref (ca 3), .int (nI ty_), .int (nI th), .int (nI po), .int (bI fl_), .ref (ca 4), .int (nI tl), .ref (ca 5)]))]) (As := [.ref (ca 0), .int (nI i_)]) (rest := [.long (T.p i_)]) ⟨hx, hb, hml, hown, hts⟩ (c_X7_right G l (ca 0) T i_ (by omega) (jf_) (jp)) (va_cwS 2 hts gX7_error_X7_right rfl rfl rfl (by decide +kernel) ⟨Nat.le_of_ble_eq_true rfl, Nat.le_of_ble_eq_true rfl⟩) dX7_error_14 hK hNX hP hD hS hA hl [1] [0] rfl rfl rfl rfl (by decide) rfl (Nat.le_of_ble_eq_true rfl) ⟨Nat.le_of_ble_eq_true rfl, Nat.le_of_ble_eq_true rfl⟩ rfl (fun v' w' Hq lcq hR' hP hD hS => ?_)
  obtain ⟨rfl, rfl⟩ := hR'
  have hP : va_P G.1 vwCl [(y_, .inr (7, [.ref (ca 0), .ref (ca 1), .ref (ca 2), .int (nI ke), .ref (ca 3), .int (nI ty_), .int (nI th), .int (nI po), .int (bI fl_), .ref (ca 4), .int (nI tl), .ref (ca 5)])), (ca 0, .inl (G.2.2.1, 103, .inr (.inl (mV T))))] _ := hP.sub [0, 1] rfl
  have hD : va_D A [(y_, .inr (7, [.ref (ca 0), .ref (ca 1), .ref (ca 2), .int (nI ke), .ref (ca 3), .int (nI ty_), .int (nI th), .int (nI po), .int (bI fl_), .ref (ca 4), .int (nI tl), .ref (ca 5)])), (ca 0, .inl (G.2.2.1, 103, .inr (.inl (mV T))))] := hD.sub [0, 1] (by decide +kernel) rfl
  refine lv_lsub hx hb dX7_error_17 ?_
  exact cr_lret hx hb hr hlocks hK hP hD hS dX7_error_18 (by rw [hRR]; exact ctR_l (rfl) (rfl))
set_option maxHeartbeats 4000000 in
set_option maxRecDepth 100000 in
theorem c_X7_ofRow (G : GG) (l : Launch) (y_ : Nat) (ca : Nat → Nat) (ke : Nat) (ty_ : Nat) (th : Nat) (po : Nat) (fl_ : Prop) (tl : Nat) (T : TS) (i_ : Nat) (w_ : Nat) (ji : i_ < 40) (jw : w_ < 5) (jf_ : T.s 3 ≤ 99) (jp : T.s 2 ≤ 5) : Cr G l yX7_ofRow wsX7_ofRow ({ frames := 2, cells := 0, slots := 0, locals := 47 }) 0 0 [.ref y_, .int (nI i_), .int (nI w_)] [(y_, .inr (7, [.ref (ca 0), .ref (ca 1), .ref (ca 2), .int (nI ke), .ref (ca 3), .int (nI ty_), .int (nI th), .int (nI po), .int (bI fl_), .ref (ca 4), .int (nI tl), .ref (ca 5)])), (ca 0, .inl (G.2.2.1, 103, .inr (.inl (mV T))))] (ctR (some (.long (rowA T (rvT T) i_ w_))) [(y_, .inr (7, [.ref (ca 0), .ref (ca 1), .ref (ca 2), .int (nI ke), .ref (ca 3), .int (nI ty_), .int (nI th), .int (nI po), .int (bI fl_), .ref (ca 4), .int (nI tl), .ref (ca 5)])), (ca 0, .inl (G.2.2.1, 103, .inr (.inl (mV T))))]) := by
  refine cr_intro (cc := cX7_ofRow) (maxL := 3) (ret := (some .long)) (own := RX7) (by decide) rfl rfl (Nat.le_of_ble_eq_true rfl) ?_
  intro p e s m args below meth c A hx hb hr hml hts hown hlocks hnm hNX hP hK hD hA hS ls hl
  obtain ⟨RR, hRR⟩ : ∃ RR, RR = (ctR (some (.long (rowA T (rvT T) i_ w_))) [(y_, .inr (7, [.ref (ca 0), .ref (ca 1), .ref (ca 2), .int (nI ke), .ref (ca 3), .int (nI ty_), .int (nI th), .int (nI po), .int (bI fl_), .ref (ca 4), .int (nI tl), .ref (ca 5)])), (ca 0, .inl (G.2.2.1, 103, .inr (.inl (mV T))))]) := ⟨_, rfl⟩
  rw [← hRR]
  have hl : lv_has ls 3 [(0, .ref y_), (1, .int (nI i_)), (2, .int (nI w_))] := hl
  have hin7 : ∀ w_ ∈ u_ws RX7 TX7 12, w_ ∈ wsX7_ofRow := fun w_ h => List.mem_cons_of_mem _ (List.mem_append_right _ h)
  rcases (show w_ = 0 ∨ w_ = 1 ∨ w_ = 2 ∨ w_ = 3 ∨ w_ = 4 by omega) with rfl | rfl | rfl | rfl | rfl
  · refine lv_iload_n hx hb dX7_ofRow_0 rfl (lv_at hl 2 rfl) ?_
    refine lv_tableIn (off := 31) (tgt := 32) hx hb dX7_ofRow_1 (by decide) (by decide) (by decide +kernel) (by decide) ?_
    refine lv_aload_n hx hb dX7_ofRow_32 rfl (lv_at hl 0 rfl) ?_
    refine va_get (D := G.1) (ci := 7) (v := .ref (ca 0)) (C := RX7) (T := TX7) (N := 12) hx hb hts hin7 hown hK hP 0 rfl rfl 0 (by decide) (hts (.fieldLink RX7 7 "PowerTablesModel" "now" "[J") (List.mem_of_getElem? (i := 1) rfl)) (fun _ h9 => h9) rfl dX7_ofRow_33 ?_
    refine lv_iconst (v := nI 3) hx hb dX7_ofRow_36 (by decide) ?_
    refine ks_lald hx hb hK hP 1 rfl (by omega) (by decide) dX7_ofRow_37 ?_
    refine ks_vL (show mV T 3 = lN (T.s 3) from rfl) ?_
    refine lv_iload_n hx hb dX7_ofRow_38 rfl (lv_at hl 1 rfl) ?_
    refine ks_i2lN hx hb dX7_ofRow_39 (by omega) ?_
    refine ks_laddN hx hb dX7_ofRow_40 ?_
    exact cr_lret hx hb hr hlocks hK hP hD hS dX7_ofRow_41 (by rw [hRR]; exact ctR_l (rfl) (rfl))
  · refine lv_iload_n hx hb dX7_ofRow_0 rfl (lv_at hl 2 rfl) ?_
    refine lv_tableIn (off := 41) (tgt := 42) hx hb dX7_ofRow_1 (by decide) (by decide) (by decide +kernel) (by decide) ?_
    refine lv_aload_n hx hb dX7_ofRow_42 rfl (lv_at hl 0 rfl) ?_
    refine va_get (D := G.1) (ci := 7) (v := .ref (ca 0)) (C := RX7) (T := TX7) (N := 12) hx hb hts hin7 hown hK hP 0 rfl rfl 0 (by decide) (hts (.fieldLink RX7 7 "PowerTablesModel" "now" "[J") (List.mem_of_getElem? (i := 1) rfl)) (fun _ h9 => h9) rfl dX7_ofRow_43 ?_
    refine lv_bipush (v := nI 23) hx hb dX7_ofRow_46 (by decide) ?_
    refine lv_iload_n hx hb dX7_ofRow_48 rfl (lv_at hl 1 rfl) ?_
    refine ks_iaddN hx hb dX7_ofRow_49 ?_
    refine ks_lald hx hb hK hP 1 rfl (by omega) (by decide) dX7_ofRow_50 ?_
    refine ks_vL (show mV T (23 + i_) = T.p i_ from mV_p (j := i_) (by omega)) ?_
    exact cr_lret hx hb hr hlocks hK hP hD hS dX7_ofRow_51 (by rw [hRR]; exact ctR_l (rfl) (rfl))
  · refine lv_iload_n hx hb dX7_ofRow_0 rfl (lv_at hl 2 rfl) ?_
    refine lv_tableIn (off := 51) (tgt := 52) hx hb dX7_ofRow_1 (by decide) (by decide) (by decide +kernel) (by decide) ?_
    refine lv_aload_n hx hb dX7_ofRow_52 rfl (lv_at hl 0 rfl) ?_
    refine va_get (D := G.1) (ci := 7) (v := .ref (ca 0)) (C := RX7) (T := TX7) (N := 12) hx hb hts hin7 hown hK hP 0 rfl rfl 0 (by decide) (hts (.fieldLink RX7 7 "PowerTablesModel" "now" "[J") (List.mem_of_getElem? (i := 1) rfl)) (fun _ h9 => h9) rfl dX7_ofRow_53 ?_
    refine lv_iload_n hx hb dX7_ofRow_56 rfl (lv_at hl 1 rfl) ?_
    refine cr_S (wr := [(y_, .inr (7, [.ref (ca 0), .ref (ca 1), .ref (ca 2), .int (nI ke), .ref (ca 3), .int (nI ty_), .int (nI th), .int (nI po), .int (bI fl_), .ref (ca 4), .int (nI tl), .ref (ca 5)]))]) (As := [.ref (ca 0), .int (nI i_)]) (rest := []) ⟨hx, hb, hml, hown, hts⟩ (c_X7_right G l (ca 0) T i_ (by omega) (by omega) (by omega)) (va_cwS 2 hts gX7_ofRow_X7_right rfl rfl rfl (by decide +kernel) ⟨Nat.le_of_ble_eq_true rfl, Nat.le_of_ble_eq_true rfl⟩) dX7_ofRow_57 hK hNX hP hD hS hA hl [1] [0] rfl rfl rfl rfl (by decide) rfl (Nat.le_of_ble_eq_true rfl) ⟨Nat.le_of_ble_eq_true rfl, Nat.le_of_ble_eq_true rfl⟩ rfl (fun v' w' Hq lcq hR' hP hD hS => ?_)
    obtain ⟨rfl, rfl⟩ := hR'
    have hP : va_P G.1 vwCl [(y_, .inr (7, [.ref (ca 0), .ref (ca 1), .ref (ca 2), .int (nI ke), .ref (ca 3), .int (nI ty_), .int (nI th), .int (nI po), .int (bI fl_), .ref (ca 4), .int (nI tl), .ref (ca 5)])), (ca 0, .inl (G.2.2.1, 103, .inr (.inl (mV T))))] _ := hP.sub [0, 1] rfl
    have hD : va_D A [(y_, .inr (7, [.ref (ca 0), .ref (ca 1), .ref (ca 2), .int (nI ke), .ref (ca 3), .int (nI ty_), .int (nI th), .int (nI po), .int (bI fl_), .ref (ca 4), .int (nI tl), .ref (ca 5)])), (ca 0, .inl (G.2.2.1, 103, .inr (.inl (mV T))))] := hD.sub [0, 1] (by decide +kernel) rfl
    exact cr_lret hx hb hr hlocks hK hP hD hS dX7_ofRow_60 (by rw [hRR]; exact ctR_l (rfl) (rfl))
  · refine lv_iload_n hx hb dX7_ofRow_0 rfl (lv_at hl 2 rfl) ?_
    refine lv_tableIn (off := 60) (tgt := 61) hx hb dX7_ofRow_1 (by decide) (by decide) (by decide +kernel) (by decide) ?_
    refine lv_aload_n hx hb dX7_ofRow_61 rfl (lv_at hl 0 rfl) ?_
    refine lv_iload_n hx hb dX7_ofRow_62 rfl (lv_at hl 1 rfl) ?_
    refine cr_V (wr := []) (As := [.int (nI i_)]) (rest := []) ⟨hx, hb, hml, hown, hts⟩ (c_X7_error G l y_ ca ke ty_ th po fl_ tl T i_ (by omega) (by omega) (by omega)) (cwV 1 hts gX7_ofRow_X7_error rfl rfl rfl (by decide +kernel) ⟨Nat.le_of_ble_eq_true rfl, Nat.le_of_ble_eq_true rfl⟩) dX7_ofRow_63 hK hNX hP hD hS hA hl 0 7 rfl rfl rfl [0, 1] [] rfl rfl rfl rfl (by decide) rfl (Nat.le_of_ble_eq_true rfl) ⟨Nat.le_of_ble_eq_true rfl, Nat.le_of_ble_eq_true rfl⟩ rfl (fun v' w' Hq lcq hR' hP hD hS => ?_)
    obtain ⟨rfl, rfl⟩ := hR'
    have hP : va_P G.1 vwCl [(y_, .inr (7, [.ref (ca 0), .ref (ca 1), .ref (ca 2), .int (nI ke), .ref (ca 3), .int (nI ty_), .int (nI th), .int (nI po), .int (bI fl_), .ref (ca 4), .int (nI tl), .ref (ca 5)])), (ca 0, .inl (G.2.2.1, 103, .inr (.inl (mV T))))] _ := hP.sub [0, 1] rfl
    have hD : va_D A [(y_, .inr (7, [.ref (ca 0), .ref (ca 1), .ref (ca 2), .int (nI ke), .ref (ca 3), .int (nI ty_), .int (nI th), .int (nI po), .int (bI fl_), .ref (ca 4), .int (nI tl), .ref (ca 5)])), (ca 0, .inl (G.2.2.1, 103, .inr (.inl (mV T))))] := hD.sub [0, 1] (by decide +kernel) rfl
    exact cr_lret hx hb hr hlocks hK hP hD hS dX7_ofRow_66 (by rw [hRR]; exact ctR_l (rfl) (rfl))
  · refine lv_iload_n hx hb dX7_ofRow_0 rfl (lv_at hl 2 rfl) ?_
    refine lv_tableOut (tgt := 67) hx hb dX7_ofRow_1 (by decide) (by decide) ?_
    refine lv_aload_n hx hb dX7_ofRow_67 rfl (lv_at hl 0 rfl) ?_
    refine va_get (D := G.1) (ci := 7) (v := .ref (ca 0)) (C := RX7) (T := TX7) (N := 12) hx hb hts hin7 hown hK hP 0 rfl rfl 0 (by decide) (hts (.fieldLink RX7 7 "PowerTablesModel" "now" "[J") (List.mem_of_getElem? (i := 1) rfl)) (fun _ h9 => h9) rfl dX7_ofRow_68 ?_
    refine lv_bipush (v := nI 63) hx hb dX7_ofRow_71 (by decide) ?_
    refine lv_iload_n hx hb dX7_ofRow_73 rfl (lv_at hl 1 rfl) ?_
    refine ks_iaddN hx hb dX7_ofRow_74 ?_
    refine ks_lald hx hb hK hP 1 rfl (by omega) (by decide) dX7_ofRow_75 ?_
    refine ks_vL (show mV T (63 + i_) = lN (T.b i_) from mV_b (j := i_) (by omega)) ?_
    exact cr_lret hx hb hr hlocks hK hP hD hS dX7_ofRow_76 (by rw [hRR]; exact ctR_l (rfl) (rfl))
set_option maxHeartbeats 4000000 in
set_option maxRecDepth 100000 in
theorem c_X7_row (G : GG) (l : Launch) (y_ : Nat) (ca : Nat → Nat) (ke : Nat) (ty_ : Nat) (th : Nat) (po : Nat) (fl_ : Prop) (tl : Nat) (T : TS) (i_ : Nat) (w_ : Nat) (jn4 : T.s 4 ≤ 40) (ji : i_ < T.s 4) (jw : w_ < 5) (jf_ : T.s 3 ≤ 99) (jp : T.s 2 ≤ 5) : Cr G l yX7_row wsX7_row ({ frames := 3, cells := 0, slots := 0, locals := 69 }) 0 0 [.ref y_, .int (nI i_), .int (nI w_)] [(y_, .inr (7, [.ref (ca 0), .ref (ca 1), .ref (ca 2), .int (nI ke), .ref (ca 3), .int (nI ty_), .int (nI th), .int (nI po), .int (bI fl_), .ref (ca 4), .int (nI tl), .ref (ca 5)])), (ca 0, .inl (G.2.2.1, 103, .inr (.inl (mV T))))] (ctR (some (.long (rowA T (rvT T) i_ w_))) [(y_, .inr (7, [.ref (ca 0), .ref (ca 1), .ref (ca 2), .int (nI ke), .ref (ca 3), .int (nI ty_), .int (nI 0), .int (nI po), .int (bI fl_), .ref (ca 4), .int (nI tl), .ref (ca 5)])), (ca 0, .inl (G.2.2.1, 103, .inr (.inl (mV T))))]) := by
  refine cr_intro (cc := cX7_row) (maxL := 3) (ret := (some .long)) (own := RX7) (by decide) rfl rfl (Nat.le_of_ble_eq_true rfl) ?_
  intro p e s m args below meth c A hx hb hr hml hts hown hlocks hnm hNX hP hK hD hA hS ls hl
  obtain ⟨RR, hRR⟩ : ∃ RR, RR = (ctR (some (.long (rowA T (rvT T) i_ w_))) [(y_, .inr (7, [.ref (ca 0), .ref (ca 1), .ref (ca 2), .int (nI ke), .ref (ca 3), .int (nI ty_), .int (nI 0), .int (nI po), .int (bI fl_), .ref (ca 4), .int (nI tl), .ref (ca 5)])), (ca 0, .inl (G.2.2.1, 103, .inr (.inl (mV T))))]) := ⟨_, rfl⟩
  rw [← hRR]
  have hl : lv_has ls 3 [(0, .ref y_), (1, .int (nI i_)), (2, .int (nI w_))] := hl
  have hin7 : ∀ w_ ∈ u_ws RX7 TX7 12, w_ ∈ wsX7_row := fun w_ h => List.mem_cons_of_mem _ (List.mem_append_right _ h)
  refine lv_aload_n hx hb dX7_row_0 rfl (lv_at hl 0 rfl) ?_
  refine lv_iconst (v := nI 0) hx hb dX7_row_1 (by decide) ?_
  refine va_put (D := G.1) (ci := 7) (v := .int (nI 0)) (ty := .int) (C := RX7) (T := TX7) (N := 12) hx hb hts hin7 tyX7 tyX7_ok nmX7 hown hK hP hD hS 0 rfl rfl 6 (by decide) (hts (.fieldLink RX7 39 "PowerTablesModel" "thrown" "I") (List.mem_of_getElem? (i := 1) rfl)) (fun _ h9 => h9) rfl (tyX7_ok 6 (by decide)) rfl rfl (Nat.le_of_ble_eq_true rfl) dX7_row_2 (fun Hq lcq hP hD hS => ?_)
  have hP : va_P G.1 vwCl [(y_, .inr (7, [.ref (ca 0), .ref (ca 1), .ref (ca 2), .int (nI ke), .ref (ca 3), .int (nI ty_), .int (nI 0), .int (nI po), .int (bI fl_), .ref (ca 4), .int (nI tl), .ref (ca 5)])), (ca 0, .inl (G.2.2.1, 103, .inr (.inl (mV T))))] _ := hP
  have hD : va_D A [(y_, .inr (7, [.ref (ca 0), .ref (ca 1), .ref (ca 2), .int (nI ke), .ref (ca 3), .int (nI ty_), .int (nI 0), .int (nI po), .int (bI fl_), .ref (ca 4), .int (nI tl), .ref (ca 5)])), (ca 0, .inl (G.2.2.1, 103, .inr (.inl (mV T))))] := hD
  refine lv_aload_n hx hb dX7_row_5 rfl (lv_at hl 0 rfl) ?_
  refine lv_iload_n hx hb dX7_row_6 rfl (lv_at hl 1 rfl) ?_
  refine cr_V (wr := []) (As := [.int (nI i_)]) (rest := []) ⟨hx, hb, hml, hown, hts⟩ (c_X7_isRow__n G l y_ ca ke ty_ 0 po fl_ tl T i_ (by omega) (by omega)) (cwV 1 hts gX7_row_X7_isRow rfl rfl rfl (by decide +kernel) ⟨Nat.le_of_ble_eq_true rfl, Nat.le_of_ble_eq_true rfl⟩) dX7_row_7 hK hNX hP hD hS hA hl 0 7 rfl rfl rfl [0, 1] [] rfl rfl rfl rfl (by decide) rfl (Nat.le_of_ble_eq_true rfl) ⟨Nat.le_of_ble_eq_true rfl, Nat.le_of_ble_eq_true rfl⟩ rfl (fun v' w' Hq lcq hR' hP hD hS => ?_)
  obtain ⟨rfl, rfl⟩ := hR'
  have hP : va_P G.1 vwCl [(y_, .inr (7, [.ref (ca 0), .ref (ca 1), .ref (ca 2), .int (nI ke), .ref (ca 3), .int (nI ty_), .int (nI 0), .int (nI po), .int (bI fl_), .ref (ca 4), .int (nI tl), .ref (ca 5)])), (ca 0, .inl (G.2.2.1, 103, .inr (.inl (mV T))))] _ := hP.sub [0, 1] rfl
  have hD : va_D A [(y_, .inr (7, [.ref (ca 0), .ref (ca 1), .ref (ca 2), .int (nI ke), .ref (ca 3), .int (nI ty_), .int (nI 0), .int (nI po), .int (bI fl_), .ref (ca 4), .int (nI tl), .ref (ca 5)])), (ca 0, .inl (G.2.2.1, 103, .inr (.inl (mV T))))] := hD.sub [0, 1] (by decide +kernel) rfl
  refine ks_ifb_ne (tgt := 20) hx hb dX7_row_10 (by decide) (fun c_10 => ?_) (fun c_10 => ?_)
  · refine lv_iload_n hx hb dX7_row_20 rfl (lv_at hl 2 rfl) ?_
    refine ks_i2lN hx hb dX7_row_21 (by omega) ?_
    refine lv_lconst (v := lN 0) hx hb dX7_row_22 rfl ?_
    refine lv_ldc2 hx hb hown (hts (.constantLong RX7 163 (4)) (List.mem_of_getElem? (i := 2) rfl)) dX7_row_23 ?_
    refine ks_vL (show (4 : Int64) = lN 4 from rfl) ?_
    refine cr_S (wr := [(y_, .inr (7, [.ref (ca 0), .ref (ca 1), .ref (ca 2), .int (nI ke), .ref (ca 3), .int (nI ty_), .int (nI 0), .int (nI po), .int (bI fl_), .ref (ca 4), .int (nI tl), .ref (ca 5)])), (ca 0, .inl (G.2.2.1, 103, .inr (.inl (mV T))))]) (As := [.long (lN w_), .long (lN 0), .long (lN 4)]) (rest := []) ⟨hx, hb, hml, hown, hts⟩ (c_X7_in__n G l w_ 0 4 (by omega) (by omega) (by omega)) (va_cwS 3 hts gX7_row_X7_in rfl rfl rfl (by decide +kernel) ⟨Nat.le_of_ble_eq_true rfl, Nat.le_of_ble_eq_true rfl⟩) dX7_row_26 hK hNX hP hD hS hA hl [] [0, 1] rfl rfl rfl rfl (by decide) rfl (Nat.le_of_ble_eq_true rfl) ⟨Nat.le_of_ble_eq_true rfl, Nat.le_of_ble_eq_true rfl⟩ rfl (fun v' w' Hq lcq hR' hP hD hS => ?_)
    obtain ⟨rfl, rfl⟩ := hR'
    have hP : va_P G.1 vwCl [(y_, .inr (7, [.ref (ca 0), .ref (ca 1), .ref (ca 2), .int (nI ke), .ref (ca 3), .int (nI ty_), .int (nI 0), .int (nI po), .int (bI fl_), .ref (ca 4), .int (nI tl), .ref (ca 5)])), (ca 0, .inl (G.2.2.1, 103, .inr (.inl (mV T))))] _ := hP.sub [0, 1] rfl
    have hD : va_D A [(y_, .inr (7, [.ref (ca 0), .ref (ca 1), .ref (ca 2), .int (nI ke), .ref (ca 3), .int (nI ty_), .int (nI 0), .int (nI po), .int (bI fl_), .ref (ca 4), .int (nI tl), .ref (ca 5)])), (ca 0, .inl (G.2.2.1, 103, .inr (.inl (mV T))))] := hD.sub [0, 1] (by decide +kernel) rfl
    refine ks_ifb_eq (tgt := 41) hx hb dX7_row_29 (by decide) (fun c_29 => ?_) (fun c_29 => ?_)
    · exact absurd ⟨Nat.zero_le _, by omega⟩ c_29
    · refine lv_aload_n hx hb dX7_row_32 rfl (lv_at hl 0 rfl) ?_
      refine lv_iload_n hx hb dX7_row_33 rfl (lv_at hl 1 rfl) ?_
      refine lv_iload_n hx hb dX7_row_34 rfl (lv_at hl 2 rfl) ?_
      refine cr_V (wr := []) (As := [.int (nI i_), .int (nI w_)]) (rest := []) ⟨hx, hb, hml, hown, hts⟩ (c_X7_ofRow G l y_ ca ke ty_ 0 po fl_ tl T i_ w_ (by omega) (by omega) (by omega) (by omega)) (cwV 2 hts gX7_row_X7_ofRow rfl rfl rfl (by decide +kernel) ⟨Nat.le_of_ble_eq_true rfl, Nat.le_of_ble_eq_true rfl⟩) dX7_row_35 hK hNX hP hD hS hA hl 0 7 rfl rfl rfl [0, 1] [] rfl rfl rfl rfl (by decide) rfl (Nat.le_of_ble_eq_true rfl) ⟨Nat.le_of_ble_eq_true rfl, Nat.le_of_ble_eq_true rfl⟩ rfl (fun v' w' Hq lcq hR' hP hD hS => ?_)
      obtain ⟨rfl, rfl⟩ := hR'
      have hP : va_P G.1 vwCl [(y_, .inr (7, [.ref (ca 0), .ref (ca 1), .ref (ca 2), .int (nI ke), .ref (ca 3), .int (nI ty_), .int (nI 0), .int (nI po), .int (bI fl_), .ref (ca 4), .int (nI tl), .ref (ca 5)])), (ca 0, .inl (G.2.2.1, 103, .inr (.inl (mV T))))] _ := hP.sub [0, 1] rfl
      have hD : va_D A [(y_, .inr (7, [.ref (ca 0), .ref (ca 1), .ref (ca 2), .int (nI ke), .ref (ca 3), .int (nI ty_), .int (nI 0), .int (nI po), .int (bI fl_), .ref (ca 4), .int (nI tl), .ref (ca 5)])), (ca 0, .inl (G.2.2.1, 103, .inr (.inl (mV T))))] := hD.sub [0, 1] (by decide +kernel) rfl
      refine lv_goto (tgt := 47) hx hb dX7_row_38 (by decide) ?_
      exact cr_lret hx hb hr hlocks hK hP hD hS dX7_row_47 (by rw [hRR]; exact ctR_l (rfl) (rfl))
  · exact absurd ji c_10
set_option maxHeartbeats 4000000 in
set_option maxRecDepth 100000 in
theorem c_X7_row__b1 (G : GG) (l : Launch) (y_ : Nat) (ca : Nat → Nat) (ke : Nat) (ty_ : Nat) (th : Nat) (po : Nat) (fl_ : Prop) (tl : Nat) (T : TS) (v_ : Int32) (u_ : Int32) (jn4 : T.s 4 ≤ 40) (h8 : ¬ (0 ≤ v_.toInt ∧ v_.toInt < (T.s 4 : Int))) : Cr G l yX7_row wsX7_row ({ frames := 3, cells := 0, slots := 0, locals := 69 }) 0 0 [.ref y_, .int v_, .int u_] [(y_, .inr (7, [.ref (ca 0), .ref (ca 1), .ref (ca 2), .int (nI ke), .ref (ca 3), .int (nI ty_), .int (nI th), .int (nI po), .int (bI fl_), .ref (ca 4), .int (nI tl), .ref (ca 5)])), (ca 0, .inl (G.2.2.1, 103, .inr (.inl (mV T))))] (ctR (some (.long (lN 0))) [(y_, .inr (7, [.ref (ca 0), .ref (ca 1), .ref (ca 2), .int (nI ke), .ref (ca 3), .int (nI ty_), .int (nI 1), .int (nI po), .int (bI fl_), .ref (ca 4), .int (nI tl), .ref (ca 5)])), (ca 0, .inl (G.2.2.1, 103, .inr (.inl (mV T))))]) := by
  refine cr_intro (cc := cX7_row) (maxL := 3) (ret := (some .long)) (own := RX7) (by decide) rfl rfl (Nat.le_of_ble_eq_true rfl) ?_
  intro p e s m args below meth c A hx hb hr hml hts hown hlocks hnm hNX hP hK hD hA hS ls hl
  obtain ⟨RR, hRR⟩ : ∃ RR, RR = (ctR (some (.long (lN 0))) [(y_, .inr (7, [.ref (ca 0), .ref (ca 1), .ref (ca 2), .int (nI ke), .ref (ca 3), .int (nI ty_), .int (nI 1), .int (nI po), .int (bI fl_), .ref (ca 4), .int (nI tl), .ref (ca 5)])), (ca 0, .inl (G.2.2.1, 103, .inr (.inl (mV T))))]) := ⟨_, rfl⟩
  rw [← hRR]
  have hl : lv_has ls 3 [(0, .ref y_), (1, .int v_), (2, .int u_)] := hl
  have hin7 : ∀ w ∈ u_ws RX7 TX7 12, w ∈ wsX7_row := fun w h => List.mem_cons_of_mem _ (List.mem_append_right _ h)
  refine lv_aload_n hx hb dX7_row_0 rfl (lv_at hl 0 rfl) ?_
  refine lv_iconst (v := nI 0) hx hb dX7_row_1 (by decide) ?_
  refine va_put (D := G.1) (ci := 7) (v := .int (nI 0)) (ty := .int) (C := RX7) (T := TX7) (N := 12) hx hb hts hin7 tyX7 tyX7_ok nmX7 hown hK hP hD hS 0 rfl rfl 6 (by decide) (hts (.fieldLink RX7 39 "PowerTablesModel" "thrown" "I") (List.mem_of_getElem? (i := 1) rfl)) (fun _ h9 => h9) rfl (tyX7_ok 6 (by decide)) rfl rfl (Nat.le_of_ble_eq_true rfl) dX7_row_2 (fun Hq lcq hP hD hS => ?_)
  have hP : va_P G.1 vwCl [(y_, .inr (7, [.ref (ca 0), .ref (ca 1), .ref (ca 2), .int (nI ke), .ref (ca 3), .int (nI ty_), .int (nI 0), .int (nI po), .int (bI fl_), .ref (ca 4), .int (nI tl), .ref (ca 5)])), (ca 0, .inl (G.2.2.1, 103, .inr (.inl (mV T))))] _ := hP
  have hD : va_D A [(y_, .inr (7, [.ref (ca 0), .ref (ca 1), .ref (ca 2), .int (nI ke), .ref (ca 3), .int (nI ty_), .int (nI 0), .int (nI po), .int (bI fl_), .ref (ca 4), .int (nI tl), .ref (ca 5)])), (ca 0, .inl (G.2.2.1, 103, .inr (.inl (mV T))))] := hD
  refine lv_aload_n hx hb dX7_row_5 rfl (lv_at hl 0 rfl) ?_
  refine lv_iload_n hx hb dX7_row_6 rfl (lv_at hl 1 rfl) ?_
  refine cr_V (wr := []) (As := [.int v_]) (rest := []) ⟨hx, hb, hml, hown, hts⟩ (c_X7_isRow G l y_ ca ke ty_ 0 po fl_ tl T v_ (by omega)) (cwV 1 hts gX7_row_X7_isRow rfl rfl rfl (by decide +kernel) ⟨Nat.le_of_ble_eq_true rfl, Nat.le_of_ble_eq_true rfl⟩) dX7_row_7 hK hNX hP hD hS hA hl 0 7 rfl rfl rfl [0, 1] [] rfl rfl rfl rfl (by decide) rfl (Nat.le_of_ble_eq_true rfl) ⟨Nat.le_of_ble_eq_true rfl, Nat.le_of_ble_eq_true rfl⟩ rfl (fun v' w' Hq lcq hR' hP hD hS => ?_)
  obtain ⟨rfl, rfl⟩ := hR'
  have hP : va_P G.1 vwCl [(y_, .inr (7, [.ref (ca 0), .ref (ca 1), .ref (ca 2), .int (nI ke), .ref (ca 3), .int (nI ty_), .int (nI 0), .int (nI po), .int (bI fl_), .ref (ca 4), .int (nI tl), .ref (ca 5)])), (ca 0, .inl (G.2.2.1, 103, .inr (.inl (mV T))))] _ := hP.sub [0, 1] rfl
  have hD : va_D A [(y_, .inr (7, [.ref (ca 0), .ref (ca 1), .ref (ca 2), .int (nI ke), .ref (ca 3), .int (nI ty_), .int (nI 0), .int (nI po), .int (bI fl_), .ref (ca 4), .int (nI tl), .ref (ca 5)])), (ca 0, .inl (G.2.2.1, 103, .inr (.inl (mV T))))] := hD.sub [0, 1] (by decide +kernel) rfl
  refine ks_ifb_ne (tgt := 20) hx hb dX7_row_10 (by decide) (fun c_10 => ?_) (fun c_10 => ?_)
  · exact absurd c_10 h8
  · refine lv_aload_n hx hb dX7_row_13 rfl (lv_at hl 0 rfl) ?_
    refine lv_iconst (v := nI 1) hx hb dX7_row_14 (by decide) ?_
    refine cr_V (wr := [(ca 0, .inl (G.2.2.1, 103, .inr (.inl (mV T))))]) (As := [.int (nI 1)]) (rest := []) ⟨hx, hb, hml, hown, hts⟩ (c_X7_fails G l y_ ca ke ty_ 0 po fl_ tl 1 ) (cwV 1 hts gX7_row_X7_fails rfl rfl rfl (by decide +kernel) ⟨Nat.le_of_ble_eq_true rfl, Nat.le_of_ble_eq_true rfl⟩) dX7_row_15 hK hNX hP hD hS hA hl 0 7 rfl rfl rfl [0] [1] rfl rfl rfl rfl (by decide) rfl (Nat.le_of_ble_eq_true rfl) ⟨Nat.le_of_ble_eq_true rfl, Nat.le_of_ble_eq_true rfl⟩ rfl (fun v' w' Hq lcq hR' hP hD hS => ?_)
    obtain ⟨rfl, rfl⟩ := hR'
    have hP : va_P G.1 vwCl [(y_, .inr (7, [.ref (ca 0), .ref (ca 1), .ref (ca 2), .int (nI ke), .ref (ca 3), .int (nI ty_), .int (nI 1), .int (nI po), .int (bI fl_), .ref (ca 4), .int (nI tl), .ref (ca 5)])), (ca 0, .inl (G.2.2.1, 103, .inr (.inl (mV T))))] _ := hP.sub [1, 0] rfl
    have hD : va_D A [(y_, .inr (7, [.ref (ca 0), .ref (ca 1), .ref (ca 2), .int (nI ke), .ref (ca 3), .int (nI ty_), .int (nI 1), .int (nI po), .int (bI fl_), .ref (ca 4), .int (nI tl), .ref (ca 5)])), (ca 0, .inl (G.2.2.1, 103, .inr (.inl (mV T))))] := hD.sub [1, 0] (by decide +kernel) rfl
    refine ks_i2lN hx hb dX7_row_18 (by omega) ?_
    exact cr_lret hx hb hr hlocks hK hP hD hS dX7_row_19 (by rw [hRR]; exact ctR_l (rfl) (rfl))
set_option maxHeartbeats 4000000 in
set_option maxRecDepth 100000 in
theorem c_X7_row__b2 (G : GG) (l : Launch) (y_ : Nat) (ca : Nat → Nat) (ke : Nat) (ty_ : Nat) (th : Nat) (po : Nat) (fl_ : Prop) (tl : Nat) (T : TS) (v_ : Int32) (u_ : Int32) (jn4 : T.s 4 ≤ 40) (j1 : 0 ≤ v_.toInt ∧ v_.toInt < (T.s 4 : Int)) (h8 : ¬ (0 ≤ u_.toInt ∧ u_.toInt ≤ 4)) : Cr G l yX7_row wsX7_row ({ frames := 3, cells := 0, slots := 0, locals := 69 }) 0 0 [.ref y_, .int v_, .int u_] [(y_, .inr (7, [.ref (ca 0), .ref (ca 1), .ref (ca 2), .int (nI ke), .ref (ca 3), .int (nI ty_), .int (nI th), .int (nI po), .int (bI fl_), .ref (ca 4), .int (nI tl), .ref (ca 5)])), (ca 0, .inl (G.2.2.1, 103, .inr (.inl (mV T))))] (ctR (some (.long (lN 0))) [(y_, .inr (7, [.ref (ca 0), .ref (ca 1), .ref (ca 2), .int (nI ke), .ref (ca 3), .int (nI ty_), .int (nI 2), .int (nI po), .int (bI fl_), .ref (ca 4), .int (nI tl), .ref (ca 5)])), (ca 0, .inl (G.2.2.1, 103, .inr (.inl (mV T))))]) := by
  refine cr_intro (cc := cX7_row) (maxL := 3) (ret := (some .long)) (own := RX7) (by decide) rfl rfl (Nat.le_of_ble_eq_true rfl) ?_
  intro p e s m args below meth c A hx hb hr hml hts hown hlocks hnm hNX hP hK hD hA hS ls hl
  obtain ⟨RR, hRR⟩ : ∃ RR, RR = (ctR (some (.long (lN 0))) [(y_, .inr (7, [.ref (ca 0), .ref (ca 1), .ref (ca 2), .int (nI ke), .ref (ca 3), .int (nI ty_), .int (nI 2), .int (nI po), .int (bI fl_), .ref (ca 4), .int (nI tl), .ref (ca 5)])), (ca 0, .inl (G.2.2.1, 103, .inr (.inl (mV T))))]) := ⟨_, rfl⟩
  rw [← hRR]
  have hl : lv_has ls 3 [(0, .ref y_), (1, .int v_), (2, .int u_)] := hl
  have hin7 : ∀ w ∈ u_ws RX7 TX7 12, w ∈ wsX7_row := fun w h => List.mem_cons_of_mem _ (List.mem_append_right _ h)
  refine lv_aload_n hx hb dX7_row_0 rfl (lv_at hl 0 rfl) ?_
  refine lv_iconst (v := nI 0) hx hb dX7_row_1 (by decide) ?_
  refine va_put (D := G.1) (ci := 7) (v := .int (nI 0)) (ty := .int) (C := RX7) (T := TX7) (N := 12) hx hb hts hin7 tyX7 tyX7_ok nmX7 hown hK hP hD hS 0 rfl rfl 6 (by decide) (hts (.fieldLink RX7 39 "PowerTablesModel" "thrown" "I") (List.mem_of_getElem? (i := 1) rfl)) (fun _ h9 => h9) rfl (tyX7_ok 6 (by decide)) rfl rfl (Nat.le_of_ble_eq_true rfl) dX7_row_2 (fun Hq lcq hP hD hS => ?_)
  have hP : va_P G.1 vwCl [(y_, .inr (7, [.ref (ca 0), .ref (ca 1), .ref (ca 2), .int (nI ke), .ref (ca 3), .int (nI ty_), .int (nI 0), .int (nI po), .int (bI fl_), .ref (ca 4), .int (nI tl), .ref (ca 5)])), (ca 0, .inl (G.2.2.1, 103, .inr (.inl (mV T))))] _ := hP
  have hD : va_D A [(y_, .inr (7, [.ref (ca 0), .ref (ca 1), .ref (ca 2), .int (nI ke), .ref (ca 3), .int (nI ty_), .int (nI 0), .int (nI po), .int (bI fl_), .ref (ca 4), .int (nI tl), .ref (ca 5)])), (ca 0, .inl (G.2.2.1, 103, .inr (.inl (mV T))))] := hD
  refine lv_aload_n hx hb dX7_row_5 rfl (lv_at hl 0 rfl) ?_
  refine lv_iload_n hx hb dX7_row_6 rfl (lv_at hl 1 rfl) ?_
  refine cr_V (wr := []) (As := [.int v_]) (rest := []) ⟨hx, hb, hml, hown, hts⟩ (c_X7_isRow G l y_ ca ke ty_ 0 po fl_ tl T v_ (by omega)) (cwV 1 hts gX7_row_X7_isRow rfl rfl rfl (by decide +kernel) ⟨Nat.le_of_ble_eq_true rfl, Nat.le_of_ble_eq_true rfl⟩) dX7_row_7 hK hNX hP hD hS hA hl 0 7 rfl rfl rfl [0, 1] [] rfl rfl rfl rfl (by decide) rfl (Nat.le_of_ble_eq_true rfl) ⟨Nat.le_of_ble_eq_true rfl, Nat.le_of_ble_eq_true rfl⟩ rfl (fun v' w' Hq lcq hR' hP hD hS => ?_)
  obtain ⟨rfl, rfl⟩ := hR'
  have hP : va_P G.1 vwCl [(y_, .inr (7, [.ref (ca 0), .ref (ca 1), .ref (ca 2), .int (nI ke), .ref (ca 3), .int (nI ty_), .int (nI 0), .int (nI po), .int (bI fl_), .ref (ca 4), .int (nI tl), .ref (ca 5)])), (ca 0, .inl (G.2.2.1, 103, .inr (.inl (mV T))))] _ := hP.sub [0, 1] rfl
  have hD : va_D A [(y_, .inr (7, [.ref (ca 0), .ref (ca 1), .ref (ca 2), .int (nI ke), .ref (ca 3), .int (nI ty_), .int (nI 0), .int (nI po), .int (bI fl_), .ref (ca 4), .int (nI tl), .ref (ca 5)])), (ca 0, .inl (G.2.2.1, 103, .inr (.inl (mV T))))] := hD.sub [0, 1] (by decide +kernel) rfl
  refine ks_ifb_ne (tgt := 20) hx hb dX7_row_10 (by decide) (fun c_10 => ?_) (fun c_10 => ?_)
  · refine lv_iload_n hx hb dX7_row_20 rfl (lv_at hl 2 rfl) ?_
    refine lv_i2l hx hb dX7_row_21 rfl ?_
    refine lv_lconst (v := lN 0) hx hb dX7_row_22 rfl ?_
    refine lv_ldc2 hx hb hown (hts (.constantLong RX7 163 (4)) (List.mem_of_getElem? (i := 2) rfl)) dX7_row_23 ?_
    refine ks_vL (show (4 : Int64) = lN 4 from rfl) ?_
    refine cr_S (wr := [(y_, .inr (7, [.ref (ca 0), .ref (ca 1), .ref (ca 2), .int (nI ke), .ref (ca 3), .int (nI ty_), .int (nI 0), .int (nI po), .int (bI fl_), .ref (ca 4), .int (nI tl), .ref (ca 5)])), (ca 0, .inl (G.2.2.1, 103, .inr (.inl (mV T))))]) (As := [.long u_.toInt64, .long (lN 0), .long (lN 4)]) (rest := []) ⟨hx, hb, hml, hown, hts⟩ (c_X7_in__i G l u_ 0 4 (by omega) (by omega)) (va_cwS 3 hts gX7_row_X7_in rfl rfl rfl (by decide +kernel) ⟨Nat.le_of_ble_eq_true rfl, Nat.le_of_ble_eq_true rfl⟩) dX7_row_26 hK hNX hP hD hS hA hl [] [0, 1] rfl rfl rfl rfl (by decide) rfl (Nat.le_of_ble_eq_true rfl) ⟨Nat.le_of_ble_eq_true rfl, Nat.le_of_ble_eq_true rfl⟩ rfl (fun v' w' Hq lcq hR' hP hD hS => ?_)
    obtain ⟨rfl, rfl⟩ := hR'
    have hP : va_P G.1 vwCl [(y_, .inr (7, [.ref (ca 0), .ref (ca 1), .ref (ca 2), .int (nI ke), .ref (ca 3), .int (nI ty_), .int (nI 0), .int (nI po), .int (bI fl_), .ref (ca 4), .int (nI tl), .ref (ca 5)])), (ca 0, .inl (G.2.2.1, 103, .inr (.inl (mV T))))] _ := hP.sub [0, 1] rfl
    have hD : va_D A [(y_, .inr (7, [.ref (ca 0), .ref (ca 1), .ref (ca 2), .int (nI ke), .ref (ca 3), .int (nI ty_), .int (nI 0), .int (nI po), .int (bI fl_), .ref (ca 4), .int (nI tl), .ref (ca 5)])), (ca 0, .inl (G.2.2.1, 103, .inr (.inl (mV T))))] := hD.sub [0, 1] (by decide +kernel) rfl
    refine ks_ifb_eq (tgt := 41) hx hb dX7_row_29 (by decide) (fun c_29 => ?_) (fun c_29 => ?_)
    · refine lv_aload_n hx hb dX7_row_41 rfl (lv_at hl 0 rfl) ?_
      refine lv_iconst (v := nI 2) hx hb dX7_row_42 (by decide) ?_
      refine cr_V (wr := [(ca 0, .inl (G.2.2.1, 103, .inr (.inl (mV T))))]) (As := [.int (nI 2)]) (rest := []) ⟨hx, hb, hml, hown, hts⟩ (c_X7_fails G l y_ ca ke ty_ 0 po fl_ tl 2 ) (cwV 1 hts gX7_row_X7_fails rfl rfl rfl (by decide +kernel) ⟨Nat.le_of_ble_eq_true rfl, Nat.le_of_ble_eq_true rfl⟩) dX7_row_43 hK hNX hP hD hS hA hl 0 7 rfl rfl rfl [0] [1] rfl rfl rfl rfl (by decide) rfl (Nat.le_of_ble_eq_true rfl) ⟨Nat.le_of_ble_eq_true rfl, Nat.le_of_ble_eq_true rfl⟩ rfl (fun v' w' Hq lcq hR' hP hD hS => ?_)
      obtain ⟨rfl, rfl⟩ := hR'
      have hP : va_P G.1 vwCl [(y_, .inr (7, [.ref (ca 0), .ref (ca 1), .ref (ca 2), .int (nI ke), .ref (ca 3), .int (nI ty_), .int (nI 2), .int (nI po), .int (bI fl_), .ref (ca 4), .int (nI tl), .ref (ca 5)])), (ca 0, .inl (G.2.2.1, 103, .inr (.inl (mV T))))] _ := hP.sub [1, 0] rfl
      have hD : va_D A [(y_, .inr (7, [.ref (ca 0), .ref (ca 1), .ref (ca 2), .int (nI ke), .ref (ca 3), .int (nI ty_), .int (nI 2), .int (nI po), .int (bI fl_), .ref (ca 4), .int (nI tl), .ref (ca 5)])), (ca 0, .inl (G.2.2.1, 103, .inr (.inl (mV T))))] := hD.sub [1, 0] (by decide +kernel) rfl
      refine ks_i2lN hx hb dX7_row_46 (by omega) ?_
      exact cr_lret hx hb hr hlocks hK hP hD hS dX7_row_47 (by rw [hRR]; exact ctR_l (rfl) (rfl))
    · exact absurd c_29 h8
  · exact absurd j1 c_10
set_option maxHeartbeats 4000000 in
set_option maxRecDepth 100000 in
theorem c_X7_register__0 (G : GG) (l : Launch) (y_ : Nat) (ca : Nat → Nat) (ke : Nat) (ty_ : Nat) (th : Nat) (po : Nat) (fl_ : Prop) (tl : Nat) (T : TS) (j_ : Nat) (jj : j_ < 6) : Cr G l yX7_register wsX7_register ({ frames := 2, cells := 0, slots := 0, locals := 53 }) 0 0 [.ref y_, .int (nI j_), .int (nI 0)] [(y_, .inr (7, [.ref (ca 0), .ref (ca 1), .ref (ca 2), .int (nI ke), .ref (ca 3), .int (nI ty_), .int (nI th), .int (nI po), .int (bI fl_), .ref (ca 4), .int (nI tl), .ref (ca 5)])), (ca 0, .inl (G.2.2.1, 103, .inr (.inl (mV T))))] (ctR (some (.long (T.r j_))) [(y_, .inr (7, [.ref (ca 0), .ref (ca 1), .ref (ca 2), .int (nI ke), .ref (ca 3), .int (nI ty_), .int (nI 0), .int (nI po), .int (bI fl_), .ref (ca 4), .int (nI tl), .ref (ca 5)])), (ca 0, .inl (G.2.2.1, 103, .inr (.inl (mV T))))]) := by
  refine cr_intro (cc := cX7_register) (maxL := 3) (ret := (some .long)) (own := RX7) (by decide) rfl rfl (Nat.le_of_ble_eq_true rfl) ?_
  intro p e s m args below meth c A hx hb hr hml hts hown hlocks hnm hNX hP hK hD hA hS ls hl
  obtain ⟨RR, hRR⟩ : ∃ RR, RR = (ctR (some (.long (T.r j_))) [(y_, .inr (7, [.ref (ca 0), .ref (ca 1), .ref (ca 2), .int (nI ke), .ref (ca 3), .int (nI ty_), .int (nI 0), .int (nI po), .int (bI fl_), .ref (ca 4), .int (nI tl), .ref (ca 5)])), (ca 0, .inl (G.2.2.1, 103, .inr (.inl (mV T))))]) := ⟨_, rfl⟩
  rw [← hRR]
  have hl : lv_has ls 3 [(0, .ref y_), (1, .int (nI j_)), (2, .int (nI 0))] := hl
  have hin7 : ∀ w ∈ u_ws RX7 TX7 12, w ∈ wsX7_register := fun w h => List.mem_cons_of_mem _ (List.mem_append_right _ h)
  refine lv_aload_n hx hb dX7_register_0 rfl (lv_at hl 0 rfl) ?_
  refine lv_iconst (v := nI 0) hx hb dX7_register_1 (by decide) ?_
  refine va_put (D := G.1) (ci := 7) (v := .int (nI 0)) (ty := .int) (C := RX7) (T := TX7) (N := 12) hx hb hts hin7 tyX7 tyX7_ok nmX7 hown hK hP hD hS 0 rfl rfl 6 (by decide) (hts (.fieldLink RX7 39 "PowerTablesModel" "thrown" "I") (List.mem_of_getElem? (i := 1) rfl)) (fun _ h9 => h9) rfl (tyX7_ok 6 (by decide)) rfl rfl (Nat.le_of_ble_eq_true rfl) dX7_register_2 (fun Hq lcq hP hD hS => ?_)
  have hP : va_P G.1 vwCl [(y_, .inr (7, [.ref (ca 0), .ref (ca 1), .ref (ca 2), .int (nI ke), .ref (ca 3), .int (nI ty_), .int (nI 0), .int (nI po), .int (bI fl_), .ref (ca 4), .int (nI tl), .ref (ca 5)])), (ca 0, .inl (G.2.2.1, 103, .inr (.inl (mV T))))] _ := hP
  have hD : va_D A [(y_, .inr (7, [.ref (ca 0), .ref (ca 1), .ref (ca 2), .int (nI ke), .ref (ca 3), .int (nI ty_), .int (nI 0), .int (nI po), .int (bI fl_), .ref (ca 4), .int (nI tl), .ref (ca 5)])), (ca 0, .inl (G.2.2.1, 103, .inr (.inl (mV T))))] := hD
  refine lv_iload_n hx hb dX7_register_5 rfl (lv_at hl 1 rfl) ?_
  refine ks_i2lN hx hb dX7_register_6 (by omega) ?_
  refine lv_lconst (v := lN 0) hx hb dX7_register_7 rfl ?_
  refine lv_ldc2 hx hb hown (hts (.constantLong RX7 29 (5)) (List.mem_of_getElem? (i := 2) rfl)) dX7_register_8 ?_
  refine ks_vL (show (5 : Int64) = lN 5 from rfl) ?_
  refine cr_S (wr := [(y_, .inr (7, [.ref (ca 0), .ref (ca 1), .ref (ca 2), .int (nI ke), .ref (ca 3), .int (nI ty_), .int (nI 0), .int (nI po), .int (bI fl_), .ref (ca 4), .int (nI tl), .ref (ca 5)])), (ca 0, .inl (G.2.2.1, 103, .inr (.inl (mV T))))]) (As := [.long (lN j_), .long (lN 0), .long (lN 5)]) (rest := []) ⟨hx, hb, hml, hown, hts⟩ (c_X7_in__n G l j_ 0 5 (by omega) (by omega) (by omega)) (va_cwS 3 hts gX7_register_X7_in rfl rfl rfl (by decide +kernel) ⟨Nat.le_of_ble_eq_true rfl, Nat.le_of_ble_eq_true rfl⟩) dX7_register_11 hK hNX hP hD hS hA hl [] [0, 1] rfl rfl rfl rfl (by decide) rfl (Nat.le_of_ble_eq_true rfl) ⟨Nat.le_of_ble_eq_true rfl, Nat.le_of_ble_eq_true rfl⟩ rfl (fun v' w' Hq lcq hR' hP hD hS => ?_)
  obtain ⟨rfl, rfl⟩ := hR'
  have hP : va_P G.1 vwCl [(y_, .inr (7, [.ref (ca 0), .ref (ca 1), .ref (ca 2), .int (nI ke), .ref (ca 3), .int (nI ty_), .int (nI 0), .int (nI po), .int (bI fl_), .ref (ca 4), .int (nI tl), .ref (ca 5)])), (ca 0, .inl (G.2.2.1, 103, .inr (.inl (mV T))))] _ := hP.sub [0, 1] rfl
  have hD : va_D A [(y_, .inr (7, [.ref (ca 0), .ref (ca 1), .ref (ca 2), .int (nI ke), .ref (ca 3), .int (nI ty_), .int (nI 0), .int (nI po), .int (bI fl_), .ref (ca 4), .int (nI tl), .ref (ca 5)])), (ca 0, .inl (G.2.2.1, 103, .inr (.inl (mV T))))] := hD.sub [0, 1] (by decide +kernel) rfl
  refine ks_ifb_ne (tgt := 24) hx hb dX7_register_14 (by decide) (fun c_14 => ?_) (fun c_14 => ?_)
  · refine lv_iload_n hx hb dX7_register_24 rfl (lv_at hl 2 rfl) ?_
    refine ks_if_eq (tgt := 46) hx hb dX7_register_25 (by decide) (by omega) (fun c_25 => ?_) (fun c_25 => ?_)
    · refine lv_aload_n hx hb dX7_register_46 rfl (lv_at hl 0 rfl) ?_
      refine va_get (D := G.1) (ci := 7) (v := .ref (ca 0)) (C := RX7) (T := TX7) (N := 12) hx hb hts hin7 hown hK hP 0 rfl rfl 0 (by decide) (hts (.fieldLink RX7 7 "PowerTablesModel" "now" "[J") (List.mem_of_getElem? (i := 3) rfl)) (fun _ h9 => h9) rfl dX7_register_47 ?_
      refine lv_bipush (v := nI 7) hx hb dX7_register_50 (by decide) ?_
      refine lv_iload_n hx hb dX7_register_52 rfl (lv_at hl 1 rfl) ?_
      refine ks_iaddN hx hb dX7_register_53 ?_
      refine ks_lald hx hb hK hP 1 rfl (by omega) (by decide) dX7_register_54 ?_
      refine ks_vL (show mV T (7 + j_) = T.r j_ from mV_r (j := j_) (by omega)) ?_
      exact cr_lret hx hb hr hlocks hK hP hD hS dX7_register_55 (by rw [hRR]; exact ctR_l (rfl) (rfl))
    · omega
  · exact absurd ⟨Nat.zero_le _, by omega⟩ c_14
set_option maxHeartbeats 4000000 in
set_option maxRecDepth 100000 in
theorem c_X7_register__1 (G : GG) (l : Launch) (y_ : Nat) (ca : Nat → Nat) (ke : Nat) (ty_ : Nat) (th : Nat) (po : Nat) (fl_ : Prop) (tl : Nat) (T : TS) (j_ : Nat) (jj : j_ < 6) (jn4 : T.s 4 ≤ 40) (jf_ : T.s 3 ≤ 99) (jp : T.s 2 ≤ 5) : Cr G l yX7_register wsX7_register ({ frames := 2, cells := 0, slots := 0, locals := 53 }) 0 0 [.ref y_, .int (nI j_), .int (nI 1)] [(y_, .inr (7, [.ref (ca 0), .ref (ca 1), .ref (ca 2), .int (nI ke), .ref (ca 3), .int (nI ty_), .int (nI th), .int (nI po), .int (bI fl_), .ref (ca 4), .int (nI tl), .ref (ca 5)])), (ca 0, .inl (G.2.2.1, 103, .inr (.inl (mV T))))] (ctR (some (.long (rgt (T.s 2) (T.s 3 + T.s 4) j_))) [(y_, .inr (7, [.ref (ca 0), .ref (ca 1), .ref (ca 2), .int (nI ke), .ref (ca 3), .int (nI ty_), .int (nI 0), .int (nI po), .int (bI fl_), .ref (ca 4), .int (nI tl), .ref (ca 5)])), (ca 0, .inl (G.2.2.1, 103, .inr (.inl (mV T))))]) := by
  refine cr_intro (cc := cX7_register) (maxL := 3) (ret := (some .long)) (own := RX7) (by decide) rfl rfl (Nat.le_of_ble_eq_true rfl) ?_
  intro p e s m args below meth c A hx hb hr hml hts hown hlocks hnm hNX hP hK hD hA hS ls hl
  obtain ⟨RR, hRR⟩ : ∃ RR, RR = (ctR (some (.long (rgt (T.s 2) (T.s 3 + T.s 4) j_))) [(y_, .inr (7, [.ref (ca 0), .ref (ca 1), .ref (ca 2), .int (nI ke), .ref (ca 3), .int (nI ty_), .int (nI 0), .int (nI po), .int (bI fl_), .ref (ca 4), .int (nI tl), .ref (ca 5)])), (ca 0, .inl (G.2.2.1, 103, .inr (.inl (mV T))))]) := ⟨_, rfl⟩
  rw [← hRR]
  have hl : lv_has ls 3 [(0, .ref y_), (1, .int (nI j_)), (2, .int (nI 1))] := hl
  have hin7 : ∀ w ∈ u_ws RX7 TX7 12, w ∈ wsX7_register := fun w h => List.mem_cons_of_mem _ (List.mem_append_right _ h)
  refine lv_aload_n hx hb dX7_register_0 rfl (lv_at hl 0 rfl) ?_
  refine lv_iconst (v := nI 0) hx hb dX7_register_1 (by decide) ?_
  refine va_put (D := G.1) (ci := 7) (v := .int (nI 0)) (ty := .int) (C := RX7) (T := TX7) (N := 12) hx hb hts hin7 tyX7 tyX7_ok nmX7 hown hK hP hD hS 0 rfl rfl 6 (by decide) (hts (.fieldLink RX7 39 "PowerTablesModel" "thrown" "I") (List.mem_of_getElem? (i := 1) rfl)) (fun _ h9 => h9) rfl (tyX7_ok 6 (by decide)) rfl rfl (Nat.le_of_ble_eq_true rfl) dX7_register_2 (fun Hq lcq hP hD hS => ?_)
  have hP : va_P G.1 vwCl [(y_, .inr (7, [.ref (ca 0), .ref (ca 1), .ref (ca 2), .int (nI ke), .ref (ca 3), .int (nI ty_), .int (nI 0), .int (nI po), .int (bI fl_), .ref (ca 4), .int (nI tl), .ref (ca 5)])), (ca 0, .inl (G.2.2.1, 103, .inr (.inl (mV T))))] _ := hP
  have hD : va_D A [(y_, .inr (7, [.ref (ca 0), .ref (ca 1), .ref (ca 2), .int (nI ke), .ref (ca 3), .int (nI ty_), .int (nI 0), .int (nI po), .int (bI fl_), .ref (ca 4), .int (nI tl), .ref (ca 5)])), (ca 0, .inl (G.2.2.1, 103, .inr (.inl (mV T))))] := hD
  refine lv_iload_n hx hb dX7_register_5 rfl (lv_at hl 1 rfl) ?_
  refine ks_i2lN hx hb dX7_register_6 (by omega) ?_
  refine lv_lconst (v := lN 0) hx hb dX7_register_7 rfl ?_
  refine lv_ldc2 hx hb hown (hts (.constantLong RX7 29 (5)) (List.mem_of_getElem? (i := 2) rfl)) dX7_register_8 ?_
  refine ks_vL (show (5 : Int64) = lN 5 from rfl) ?_
  refine cr_S (wr := [(y_, .inr (7, [.ref (ca 0), .ref (ca 1), .ref (ca 2), .int (nI ke), .ref (ca 3), .int (nI ty_), .int (nI 0), .int (nI po), .int (bI fl_), .ref (ca 4), .int (nI tl), .ref (ca 5)])), (ca 0, .inl (G.2.2.1, 103, .inr (.inl (mV T))))]) (As := [.long (lN j_), .long (lN 0), .long (lN 5)]) (rest := []) ⟨hx, hb, hml, hown, hts⟩ (c_X7_in__n G l j_ 0 5 (by omega) (by omega) (by omega)) (va_cwS 3 hts gX7_register_X7_in rfl rfl rfl (by decide +kernel) ⟨Nat.le_of_ble_eq_true rfl, Nat.le_of_ble_eq_true rfl⟩) dX7_register_11 hK hNX hP hD hS hA hl [] [0, 1] rfl rfl rfl rfl (by decide) rfl (Nat.le_of_ble_eq_true rfl) ⟨Nat.le_of_ble_eq_true rfl, Nat.le_of_ble_eq_true rfl⟩ rfl (fun v' w' Hq lcq hR' hP hD hS => ?_)
  obtain ⟨rfl, rfl⟩ := hR'
  have hP : va_P G.1 vwCl [(y_, .inr (7, [.ref (ca 0), .ref (ca 1), .ref (ca 2), .int (nI ke), .ref (ca 3), .int (nI ty_), .int (nI 0), .int (nI po), .int (bI fl_), .ref (ca 4), .int (nI tl), .ref (ca 5)])), (ca 0, .inl (G.2.2.1, 103, .inr (.inl (mV T))))] _ := hP.sub [0, 1] rfl
  have hD : va_D A [(y_, .inr (7, [.ref (ca 0), .ref (ca 1), .ref (ca 2), .int (nI ke), .ref (ca 3), .int (nI ty_), .int (nI 0), .int (nI po), .int (bI fl_), .ref (ca 4), .int (nI tl), .ref (ca 5)])), (ca 0, .inl (G.2.2.1, 103, .inr (.inl (mV T))))] := hD.sub [0, 1] (by decide +kernel) rfl
  refine ks_ifb_ne (tgt := 24) hx hb dX7_register_14 (by decide) (fun c_14 => ?_) (fun c_14 => ?_)
  · refine lv_iload_n hx hb dX7_register_24 rfl (lv_at hl 2 rfl) ?_
    refine ks_if_eq (tgt := 46) hx hb dX7_register_25 (by decide) (by omega) (fun c_25 => ?_) (fun c_25 => ?_)
    · omega
    · refine lv_aload_n hx hb dX7_register_28 rfl (lv_at hl 0 rfl) ?_
      refine va_get (D := G.1) (ci := 7) (v := .ref (ca 0)) (C := RX7) (T := TX7) (N := 12) hx hb hts hin7 hown hK hP 0 rfl rfl 0 (by decide) (hts (.fieldLink RX7 7 "PowerTablesModel" "now" "[J") (List.mem_of_getElem? (i := 3) rfl)) (fun _ h9 => h9) rfl dX7_register_29 ?_
      refine lv_iload_n hx hb dX7_register_32 rfl (lv_at hl 1 rfl) ?_
      refine lv_aload_n hx hb dX7_register_33 rfl (lv_at hl 0 rfl) ?_
      refine va_get (D := G.1) (ci := 7) (v := .ref (ca 0)) (C := RX7) (T := TX7) (N := 12) hx hb hts hin7 hown hK hP 0 rfl rfl 0 (by decide) (hts (.fieldLink RX7 7 "PowerTablesModel" "now" "[J") (List.mem_of_getElem? (i := 3) rfl)) (fun _ h9 => h9) rfl dX7_register_34 ?_
      refine lv_iconst (v := nI 4) hx hb dX7_register_37 (by decide) ?_
      refine ks_lald hx hb hK hP 1 rfl (by omega) (by decide) dX7_register_38 ?_
      refine ks_vL (show mV T 4 = lN (T.s 4) from rfl) ?_
      refine ks_l2iN hx hb dX7_register_39 ?_
      refine cr_S (wr := [(y_, .inr (7, [.ref (ca 0), .ref (ca 1), .ref (ca 2), .int (nI ke), .ref (ca 3), .int (nI ty_), .int (nI 0), .int (nI po), .int (bI fl_), .ref (ca 4), .int (nI tl), .ref (ca 5)]))]) (As := [.ref (ca 0), .int (nI j_), .int (nI (T.s 4))]) (rest := []) ⟨hx, hb, hml, hown, hts⟩ (c_X7_rightDifference G l (ca 0) T j_ (T.s 4) (by omega) (by omega) (by omega) (by omega)) (va_cwS 3 hts gX7_register_X7_rightDifference rfl rfl rfl (by decide +kernel) ⟨Nat.le_of_ble_eq_true rfl, Nat.le_of_ble_eq_true rfl⟩) dX7_register_40 hK hNX hP hD hS hA hl [1] [0] rfl rfl rfl rfl (by decide) rfl (Nat.le_of_ble_eq_true rfl) ⟨Nat.le_of_ble_eq_true rfl, Nat.le_of_ble_eq_true rfl⟩ rfl (fun v' w' Hq lcq hR' hP hD hS => ?_)
      obtain ⟨rfl, rfl⟩ := hR'
      have hP : va_P G.1 vwCl [(y_, .inr (7, [.ref (ca 0), .ref (ca 1), .ref (ca 2), .int (nI ke), .ref (ca 3), .int (nI ty_), .int (nI 0), .int (nI po), .int (bI fl_), .ref (ca 4), .int (nI tl), .ref (ca 5)])), (ca 0, .inl (G.2.2.1, 103, .inr (.inl (mV T))))] _ := hP.sub [0, 1] rfl
      have hD : va_D A [(y_, .inr (7, [.ref (ca 0), .ref (ca 1), .ref (ca 2), .int (nI ke), .ref (ca 3), .int (nI ty_), .int (nI 0), .int (nI po), .int (bI fl_), .ref (ca 4), .int (nI tl), .ref (ca 5)])), (ca 0, .inl (G.2.2.1, 103, .inr (.inl (mV T))))] := hD.sub [0, 1] (by decide +kernel) rfl
      refine lv_goto (tgt := 55) hx hb dX7_register_43 (by decide) ?_
      exact cr_lret hx hb hr hlocks hK hP hD hS dX7_register_55 (by rw [hRR]; exact ctR_l ((rgt_dif T (T.s 4) j_).symm) (rfl))
  · exact absurd ⟨Nat.zero_le _, by omega⟩ c_14
set_option maxHeartbeats 4000000 in
set_option maxRecDepth 100000 in
theorem c_X7_register__b1 (G : GG) (l : Launch) (y_ : Nat) (ca : Nat → Nat) (ke : Nat) (ty_ : Nat) (th : Nat) (po : Nat) (fl_ : Prop) (tl : Nat) (v_ : Int32) (u_ : Int32) (h8 : ¬ (0 ≤ v_.toInt ∧ v_.toInt ≤ 5)) : Cr G l yX7_register wsX7_register ({ frames := 2, cells := 0, slots := 0, locals := 53 }) 0 0 [.ref y_, .int v_, .int u_] [(y_, .inr (7, [.ref (ca 0), .ref (ca 1), .ref (ca 2), .int (nI ke), .ref (ca 3), .int (nI ty_), .int (nI th), .int (nI po), .int (bI fl_), .ref (ca 4), .int (nI tl), .ref (ca 5)]))] (ctR (some (.long (lN 0))) [(y_, .inr (7, [.ref (ca 0), .ref (ca 1), .ref (ca 2), .int (nI ke), .ref (ca 3), .int (nI ty_), .int (nI 1), .int (nI po), .int (bI fl_), .ref (ca 4), .int (nI tl), .ref (ca 5)]))]) := by
  refine cr_intro (cc := cX7_register) (maxL := 3) (ret := (some .long)) (own := RX7) (by decide) rfl rfl (Nat.le_of_ble_eq_true rfl) ?_
  intro p e s m args below meth c A hx hb hr hml hts hown hlocks hnm hNX hP hK hD hA hS ls hl
  obtain ⟨RR, hRR⟩ : ∃ RR, RR = (ctR (some (.long (lN 0))) [(y_, .inr (7, [.ref (ca 0), .ref (ca 1), .ref (ca 2), .int (nI ke), .ref (ca 3), .int (nI ty_), .int (nI 1), .int (nI po), .int (bI fl_), .ref (ca 4), .int (nI tl), .ref (ca 5)]))]) := ⟨_, rfl⟩
  rw [← hRR]
  have hl : lv_has ls 3 [(0, .ref y_), (1, .int v_), (2, .int u_)] := hl
  have hin7 : ∀ w ∈ u_ws RX7 TX7 12, w ∈ wsX7_register := fun w h => List.mem_cons_of_mem _ (List.mem_append_right _ h)
  refine lv_aload_n hx hb dX7_register_0 rfl (lv_at hl 0 rfl) ?_
  refine lv_iconst (v := nI 0) hx hb dX7_register_1 (by decide) ?_
  refine va_put (D := G.1) (ci := 7) (v := .int (nI 0)) (ty := .int) (C := RX7) (T := TX7) (N := 12) hx hb hts hin7 tyX7 tyX7_ok nmX7 hown hK hP hD hS 0 rfl rfl 6 (by decide) (hts (.fieldLink RX7 39 "PowerTablesModel" "thrown" "I") (List.mem_of_getElem? (i := 1) rfl)) (fun _ h9 => h9) rfl (tyX7_ok 6 (by decide)) rfl rfl (Nat.le_of_ble_eq_true rfl) dX7_register_2 (fun Hq lcq hP hD hS => ?_)
  have hP : va_P G.1 vwCl [(y_, .inr (7, [.ref (ca 0), .ref (ca 1), .ref (ca 2), .int (nI ke), .ref (ca 3), .int (nI ty_), .int (nI 0), .int (nI po), .int (bI fl_), .ref (ca 4), .int (nI tl), .ref (ca 5)]))] _ := hP
  have hD : va_D A [(y_, .inr (7, [.ref (ca 0), .ref (ca 1), .ref (ca 2), .int (nI ke), .ref (ca 3), .int (nI ty_), .int (nI 0), .int (nI po), .int (bI fl_), .ref (ca 4), .int (nI tl), .ref (ca 5)]))] := hD
  refine lv_iload_n hx hb dX7_register_5 rfl (lv_at hl 1 rfl) ?_
  refine lv_i2l hx hb dX7_register_6 rfl ?_
  refine lv_lconst (v := lN 0) hx hb dX7_register_7 rfl ?_
  refine lv_ldc2 hx hb hown (hts (.constantLong RX7 29 (5)) (List.mem_of_getElem? (i := 2) rfl)) dX7_register_8 ?_
  refine ks_vL (show (5 : Int64) = lN 5 from rfl) ?_
  refine cr_S (wr := [(y_, .inr (7, [.ref (ca 0), .ref (ca 1), .ref (ca 2), .int (nI ke), .ref (ca 3), .int (nI ty_), .int (nI 0), .int (nI po), .int (bI fl_), .ref (ca 4), .int (nI tl), .ref (ca 5)]))]) (As := [.long v_.toInt64, .long (lN 0), .long (lN 5)]) (rest := []) ⟨hx, hb, hml, hown, hts⟩ (c_X7_in__i G l v_ 0 5 (by omega) (by omega)) (va_cwS 3 hts gX7_register_X7_in rfl rfl rfl (by decide +kernel) ⟨Nat.le_of_ble_eq_true rfl, Nat.le_of_ble_eq_true rfl⟩) dX7_register_11 hK hNX hP hD hS hA hl [] [0] rfl rfl rfl rfl (by decide) rfl (Nat.le_of_ble_eq_true rfl) ⟨Nat.le_of_ble_eq_true rfl, Nat.le_of_ble_eq_true rfl⟩ rfl (fun v' w' Hq lcq hR' hP hD hS => ?_)
  obtain ⟨rfl, rfl⟩ := hR'
  have hP : va_P G.1 vwCl [(y_, .inr (7, [.ref (ca 0), .ref (ca 1), .ref (ca 2), .int (nI ke), .ref (ca 3), .int (nI ty_), .int (nI 0), .int (nI po), .int (bI fl_), .ref (ca 4), .int (nI tl), .ref (ca 5)]))] _ := hP.sub [0] rfl
  have hD : va_D A [(y_, .inr (7, [.ref (ca 0), .ref (ca 1), .ref (ca 2), .int (nI ke), .ref (ca 3), .int (nI ty_), .int (nI 0), .int (nI po), .int (bI fl_), .ref (ca 4), .int (nI tl), .ref (ca 5)]))] := hD.sub [0] (by decide +kernel) rfl
  refine ks_ifb_ne (tgt := 24) hx hb dX7_register_14 (by decide) (fun c_14 => ?_) (fun c_14 => ?_)
  · exact absurd c_14 h8
  · refine lv_aload_n hx hb dX7_register_17 rfl (lv_at hl 0 rfl) ?_
    refine lv_iconst (v := nI 1) hx hb dX7_register_18 (by decide) ?_
    refine cr_V (wr := []) (As := [.int (nI 1)]) (rest := []) ⟨hx, hb, hml, hown, hts⟩ (c_X7_fails G l y_ ca ke ty_ 0 po fl_ tl 1 ) (cwV 1 hts gX7_register_X7_fails rfl rfl rfl (by decide +kernel) ⟨Nat.le_of_ble_eq_true rfl, Nat.le_of_ble_eq_true rfl⟩) dX7_register_19 hK hNX hP hD hS hA hl 0 7 rfl rfl rfl [0] [] rfl rfl rfl rfl (by decide) rfl (Nat.le_of_ble_eq_true rfl) ⟨Nat.le_of_ble_eq_true rfl, Nat.le_of_ble_eq_true rfl⟩ rfl (fun v' w' Hq lcq hR' hP hD hS => ?_)
    obtain ⟨rfl, rfl⟩ := hR'
    have hP : va_P G.1 vwCl [(y_, .inr (7, [.ref (ca 0), .ref (ca 1), .ref (ca 2), .int (nI ke), .ref (ca 3), .int (nI ty_), .int (nI 1), .int (nI po), .int (bI fl_), .ref (ca 4), .int (nI tl), .ref (ca 5)]))] _ := hP.sub [0] rfl
    have hD : va_D A [(y_, .inr (7, [.ref (ca 0), .ref (ca 1), .ref (ca 2), .int (nI ke), .ref (ca 3), .int (nI ty_), .int (nI 1), .int (nI po), .int (bI fl_), .ref (ca 4), .int (nI tl), .ref (ca 5)]))] := hD.sub [0] (by decide +kernel) rfl
    refine ks_i2lN hx hb dX7_register_22 (by omega) ?_
    exact cr_lret hx hb hr hlocks hK hP hD hS dX7_register_23 (by rw [hRR]; exact ctR_l (rfl) (rfl))
set_option maxHeartbeats 4000000 in
set_option maxRecDepth 100000 in
theorem c_X7_ofGroup (G : GG) (l : Launch) (y_ : Nat) (ca : Nat → Nat) (ke : Nat) (ty_ : Nat) (th : Nat) (po : Nat) (fl_ : Prop) (tl : Nat) (T : TS) (z_ : Nat) (q_ : Nat) (w_ : Nat) (jzq : z_ * q_ + z_ ≤ 40) (jw : w_ < 4) (jf_ : T.s 3 ≤ 99) (jp : T.s 2 ≤ 5) : Cr G l yX7_ofGroup wsX7_ofGroup ({ frames := 2, cells := 0, slots := 0, locals := 47 }) 0 0 [.ref y_, .int (nI z_), .int (nI q_), .int (nI w_)] [(y_, .inr (7, [.ref (ca 0), .ref (ca 1), .ref (ca 2), .int (nI ke), .ref (ca 3), .int (nI ty_), .int (nI th), .int (nI po), .int (bI fl_), .ref (ca 4), .int (nI tl), .ref (ca 5)])), (ca 0, .inl (G.2.2.1, 103, .inr (.inl (mV T))))] (ctR (some (.long (ofG T.p (rvT T) z_ q_ w_))) [(y_, .inr (7, [.ref (ca 0), .ref (ca 1), .ref (ca 2), .int (nI ke), .ref (ca 3), .int (nI ty_), .int (nI th), .int (nI po), .int (bI fl_), .ref (ca 4), .int (nI tl), .ref (ca 5)])), (ca 0, .inl (G.2.2.1, 103, .inr (.inl (mV T))))]) := by
  refine cr_intro (cc := cX7_ofGroup) (maxL := 10) (ret := (some .long)) (own := RX7) (by decide) rfl rfl (Nat.le_of_ble_eq_true rfl) ?_
  intro p e s m args below meth c A hx hb hr hml hts hown hlocks hnm hNX hP hK hD hA hS ls hl
  obtain ⟨RR, hRR⟩ : ∃ RR, RR = (ctR (some (.long (ofG T.p (rvT T) z_ q_ w_))) [(y_, .inr (7, [.ref (ca 0), .ref (ca 1), .ref (ca 2), .int (nI ke), .ref (ca 3), .int (nI ty_), .int (nI th), .int (nI po), .int (bI fl_), .ref (ca 4), .int (nI tl), .ref (ca 5)])), (ca 0, .inl (G.2.2.1, 103, .inr (.inl (mV T))))]) := ⟨_, rfl⟩
  rw [← hRR]
  have hl : lv_has ls 10 [(0, .ref y_), (1, .int (nI z_)), (2, .int (nI q_)), (3, .int (nI w_))] := hl
  have hin7 : ∀ w_ ∈ u_ws RX7 TX7 12, w_ ∈ wsX7_ofGroup := fun w_ h => List.mem_cons_of_mem _ (List.mem_append_right _ h)
  refine lv_lconst (v := lN 0) hx hb dX7_ofGroup_0 rfl ?_
  refine lv_lstore (lv' := [(4, .long (lN 0)), (0, .ref y_), (1, .int (nI z_)), (2, .int (nI q_)), (3, .int (nI w_))]) hx hb dX7_ofGroup_1 hl (by decide) rfl (fun ls hl => ?_)
  refine lv_lconst (v := lN 0) hx hb dX7_ofGroup_3 rfl ?_
  refine lv_lstore (lv' := [(6, .long (lN 0)), (4, .long (lN 0)), (0, .ref y_), (1, .int (nI z_)), (2, .int (nI q_)), (3, .int (nI w_))]) hx hb dX7_ofGroup_4 hl (by decide) rfl (fun ls hl => ?_)
  refine lv_iconst (v := nI 0) hx hb dX7_ofGroup_6 (by decide) ?_
  refine lv_istore (lv' := [(8, .int (nI 0)), (6, .long (lN 0)), (4, .long (lN 0)), (0, .ref y_), (1, .int (nI z_)), (2, .int (nI q_)), (3, .int (nI w_))]) hx hb dX7_ofGroup_7 hl (by decide) rfl (fun ls hl => ?_)
  refine lv_iload_n hx hb dX7_ofGroup_9 rfl (lv_at hl 4 rfl) ?_
  refine lv_iload_n hx hb dX7_ofGroup_10 rfl (lv_at hl 5 rfl) ?_
  refine ks_imulN hx hb dX7_ofGroup_11 ?_
  refine lv_istore (lv' := [(9, .int (nI (z_ * q_))), (8, .int (nI 0)), (6, .long (lN 0)), (4, .long (lN 0)), (0, .ref y_), (1, .int (nI z_)), (2, .int (nI q_)), (3, .int (nI w_))]) hx hb dX7_ofGroup_12 hl (by decide) rfl (fun ls hl => ?_)
  have L_14 : ∀ (n_14 : Nat) (i_ : Nat) (_ : 41 - i_ < n_14) (ji : i_ ≤ z_) (Hq : Heap) (lcq : List Loc), va_P G.1 vwCl [(y_, .inr (7, [.ref (ca 0), .ref (ca 1), .ref (ca 2), .int (nI ke), .ref (ca 3), .int (nI ty_), .int (nI th), .int (nI po), .int (bI fl_), .ref (ca 4), .int (nI tl), .ref (ca 5)])), (ca 0, .inl (G.2.2.1, 103, .inr (.inl (mV T))))] Hq → va_D A [(y_, .inr (7, [.ref (ca 0), .ref (ca 1), .ref (ca 2), .int (nI ke), .ref (ca 3), .int (nI ty_), .int (nI th), .int (nI po), .int (bI fl_), .ref (ca 4), .int (nI tl), .ref (ca 5)])), (ca 0, .inl (G.2.2.1, 103, .inr (.inl (mV T))))] → va_S A s.heap Hq lcq → ∀ ls : Array Slot, lv_has ls 10 [(9, .int (nI (z_ * q_ + i_))), (0, .ref y_), (1, .int (nI z_)), (2, .int (nI q_)), (3, .int (nI w_)), (4, .long (smL (fun k => T.p (z_ * q_ + k)) i_)), (6, .long (smL (fun k => rvT T (z_ * q_ + k)) i_)), (8, .int (nI (ctN (fun k => T.p (z_ * q_ + k) ≠ (rvT T) (z_ * q_ + k)) i_)))] → W p l e ({ frames := 2, cells := 0, slots := 0, locals := 47 }) s m args below meth c Hq lcq 0 0 (MQ below (cr_Q G RR A) args s 0 0 A) (F0 m 14 ls []) := by
    intro n_14
    induction n_14 with
    | zero => intro i_ hmu_14; exact absurd hmu_14 (Nat.not_lt_zero _)
    | succ n_14 ih_14 =>
      intro i_ hmu_14 ji Hq lcq hP hD hS ls hl
      refine lv_iload hx hb dX7_ofGroup_14 (lv_at hl 0 rfl) ?_
      refine lv_iload_n hx hb dX7_ofGroup_16 rfl (lv_at hl 2 rfl) ?_
      refine lv_iload_n hx hb dX7_ofGroup_17 rfl (lv_at hl 3 rfl) ?_
      refine ks_imulN hx hb dX7_ofGroup_18 ?_
      refine lv_iload_n hx hb dX7_ofGroup_19 rfl (lv_at hl 2 rfl) ?_
      refine ks_iaddN hx hb dX7_ofGroup_20 ?_
      refine ks_icmp_ge (tgt := 80) hx hb dX7_ofGroup_21 (by decide) (by omega) (by omega) (fun c_21 => ?_) (fun c_21 => ?_)
      · obtain rfl : z_ = i_ := by omega
        rcases (show w_ = 0 ∨ w_ = 1 ∨ w_ = 2 ∨ w_ = 3 by omega) with rfl | rfl | rfl | rfl
        · refine lv_iload_n hx hb dX7_ofGroup_80 rfl (lv_at hl 4 rfl) ?_
          refine ks_if_ne (tgt := 89) hx hb dX7_ofGroup_81 (by decide) (by omega) (fun c_81 => ?_) (fun c_81 => ?_)
          · omega
          · refine lv_lload hx hb dX7_ofGroup_84 (lv_at hl 5 rfl) ?_
            refine lv_goto (tgt := 123) hx hb dX7_ofGroup_86 (by decide) ?_
            exact cr_lret hx hb hr hlocks hK hP hD hS dX7_ofGroup_123 (by rw [hRR]; exact ctR_l (rfl) (rfl))
        · refine lv_iload_n hx hb dX7_ofGroup_80 rfl (lv_at hl 4 rfl) ?_
          refine ks_if_ne (tgt := 89) hx hb dX7_ofGroup_81 (by decide) (by omega) (fun c_81 => ?_) (fun c_81 => ?_)
          · refine lv_iload_n hx hb dX7_ofGroup_89 rfl (lv_at hl 4 rfl) ?_
            refine lv_iconst (v := nI 1) hx hb dX7_ofGroup_90 (by decide) ?_
            refine ks_icmp_ne (tgt := 99) hx hb dX7_ofGroup_91 (by decide) (by omega) (by omega) (fun c_91 => ?_) (fun c_91 => ?_)
            · omega
            · refine lv_lload hx hb dX7_ofGroup_94 (lv_at hl 6 rfl) ?_
              refine lv_goto (tgt := 123) hx hb dX7_ofGroup_96 (by decide) ?_
              exact cr_lret hx hb hr hlocks hK hP hD hS dX7_ofGroup_123 (by rw [hRR]; exact ctR_l (rfl) (rfl))
          · omega
        · refine lv_iload_n hx hb dX7_ofGroup_80 rfl (lv_at hl 4 rfl) ?_
          refine ks_if_ne (tgt := 89) hx hb dX7_ofGroup_81 (by decide) (by omega) (fun c_81 => ?_) (fun c_81 => ?_)
          · refine lv_iload_n hx hb dX7_ofGroup_89 rfl (lv_at hl 4 rfl) ?_
            refine lv_iconst (v := nI 1) hx hb dX7_ofGroup_90 (by decide) ?_
            refine ks_icmp_ne (tgt := 99) hx hb dX7_ofGroup_91 (by decide) (by omega) (by omega) (fun c_91 => ?_) (fun c_91 => ?_)
            · refine lv_iload_n hx hb dX7_ofGroup_99 rfl (lv_at hl 4 rfl) ?_
              refine lv_iconst (v := nI 2) hx hb dX7_ofGroup_100 (by decide) ?_
              refine ks_icmp_ne (tgt := 120) hx hb dX7_ofGroup_101 (by decide) (by omega) (by omega) (fun c_101 => ?_) (fun c_101 => ?_)
              · omega
              · refine lv_lload hx hb dX7_ofGroup_104 (lv_at hl 5 rfl) ?_
                refine lv_lload hx hb dX7_ofGroup_106 (lv_at hl 6 rfl) ?_
                refine ks_lc_ne (tgt := 116) hx hb dX7_ofGroup_108 dX7_ofGroup_109 (by decide) (fun c_108 => ?_) (fun c_108 => ?_)
                · have e1_ : lN 1 = ofG T.p (rvT T) z_ q_ 2 := congrArg lN (b01_t c_108).symm
                  refine lv_lconst (v := lN 1) hx hb dX7_ofGroup_116 rfl ?_
                  refine lv_goto (tgt := 123) hx hb dX7_ofGroup_117 (by decide) ?_
                  exact cr_lret hx hb hr hlocks hK hP hD hS dX7_ofGroup_123 (by rw [hRR]; exact ctR_l (e1_) (rfl))
                · have e1_ : lN 0 = ofG T.p (rvT T) z_ q_ 2 := congrArg lN (b01_f (fun w9 => w9 c_108)).symm
                  refine lv_lconst (v := lN 0) hx hb dX7_ofGroup_112 rfl ?_
                  refine lv_goto (tgt := 123) hx hb dX7_ofGroup_113 (by decide) ?_
                  exact cr_lret hx hb hr hlocks hK hP hD hS dX7_ofGroup_123 (by rw [hRR]; exact ctR_l (e1_) (rfl))
            · omega
          · omega
        · refine lv_iload_n hx hb dX7_ofGroup_80 rfl (lv_at hl 4 rfl) ?_
          refine ks_if_ne (tgt := 89) hx hb dX7_ofGroup_81 (by decide) (by omega) (fun c_81 => ?_) (fun c_81 => ?_)
          · refine lv_iload_n hx hb dX7_ofGroup_89 rfl (lv_at hl 4 rfl) ?_
            refine lv_iconst (v := nI 1) hx hb dX7_ofGroup_90 (by decide) ?_
            refine ks_icmp_ne (tgt := 99) hx hb dX7_ofGroup_91 (by decide) (by omega) (by omega) (fun c_91 => ?_) (fun c_91 => ?_)
            · refine lv_iload_n hx hb dX7_ofGroup_99 rfl (lv_at hl 4 rfl) ?_
              refine lv_iconst (v := nI 2) hx hb dX7_ofGroup_100 (by decide) ?_
              refine ks_icmp_ne (tgt := 120) hx hb dX7_ofGroup_101 (by decide) (by omega) (by omega) (fun c_101 => ?_) (fun c_101 => ?_)
              · refine lv_iload hx hb dX7_ofGroup_120 (lv_at hl 7 rfl) ?_
                refine ks_i2lN hx hb dX7_ofGroup_122 (Nat.lt_of_le_of_lt (ctN_le _ z_) (by omega)) ?_
                exact cr_lret hx hb hr hlocks hK hP hD hS dX7_ofGroup_123 (by rw [hRR]; exact ctR_l (rfl) (rfl))
              · omega
            · omega
          · omega
      · refine lv_lload hx hb dX7_ofGroup_24 (lv_at hl 5 rfl) ?_
        refine lv_aload_n hx hb dX7_ofGroup_26 rfl (lv_at hl 1 rfl) ?_
        refine va_get (D := G.1) (ci := 7) (v := .ref (ca 0)) (C := RX7) (T := TX7) (N := 12) hx hb hts hin7 hown hK hP 0 rfl rfl 0 (by decide) (hts (.fieldLink RX7 7 "PowerTablesModel" "now" "[J") (List.mem_of_getElem? (i := 1) rfl)) (fun _ h9 => h9) rfl dX7_ofGroup_27 ?_
        refine lv_bipush (v := nI 23) hx hb dX7_ofGroup_30 (by decide) ?_
        refine lv_iload hx hb dX7_ofGroup_32 (lv_at hl 0 rfl) ?_
        refine ks_iaddN hx hb dX7_ofGroup_34 ?_
        refine ks_lald hx hb hK hP 1 rfl (by omega) (by decide) dX7_ofGroup_35 ?_
        refine ks_vL (show mV T (23 + (z_ * q_ + i_)) = T.p (z_ * q_ + i_) from mV_p (j := (z_ * q_ + i_)) (by omega)) ?_
        refine lv_ladd hx hb dX7_ofGroup_36 ?_
        refine lv_lstore (lv' := [(4, .long ((smL (fun k => T.p (z_ * q_ + k)) i_) + (T.p (z_ * q_ + i_)))), (9, .int (nI (z_ * q_ + i_))), (0, .ref y_), (1, .int (nI z_)), (2, .int (nI q_)), (3, .int (nI w_)), (6, .long (smL (fun k => rvT T (z_ * q_ + k)) i_)), (8, .int (nI (ctN (fun k => T.p (z_ * q_ + k) ≠ (rvT T) (z_ * q_ + k)) i_)))]) hx hb dX7_ofGroup_37 hl (by decide) rfl (fun ls hl => ?_)
        refine lv_lload hx hb dX7_ofGroup_39 (lv_at hl 6 rfl) ?_
        refine lv_aload_n hx hb dX7_ofGroup_41 rfl (lv_at hl 2 rfl) ?_
        refine va_get (D := G.1) (ci := 7) (v := .ref (ca 0)) (C := RX7) (T := TX7) (N := 12) hx hb hts hin7 hown hK hP 0 rfl rfl 0 (by decide) (hts (.fieldLink RX7 7 "PowerTablesModel" "now" "[J") (List.mem_of_getElem? (i := 1) rfl)) (fun _ h9 => h9) rfl dX7_ofGroup_42 ?_
        refine lv_iload hx hb dX7_ofGroup_45 (lv_at hl 1 rfl) ?_
        refine cr_S (wr := [(y_, .inr (7, [.ref (ca 0), .ref (ca 1), .ref (ca 2), .int (nI ke), .ref (ca 3), .int (nI ty_), .int (nI th), .int (nI po), .int (bI fl_), .ref (ca 4), .int (nI tl), .ref (ca 5)]))]) (As := [.ref (ca 0), .int (nI (z_ * q_ + i_))]) (rest := [.long (smL (fun k => rvT T (z_ * q_ + k)) i_)]) ⟨hx, hb, hml, hown, hts⟩ (c_X7_right G l (ca 0) T (z_ * q_ + i_) (by omega) (by omega) (by omega)) (va_cwS 2 hts gX7_ofGroup_X7_right rfl rfl rfl (by decide +kernel) ⟨Nat.le_of_ble_eq_true rfl, Nat.le_of_ble_eq_true rfl⟩) dX7_ofGroup_47 hK hNX hP hD hS hA hl [1] [0] rfl rfl rfl rfl (by decide) rfl (Nat.le_of_ble_eq_true rfl) ⟨Nat.le_of_ble_eq_true rfl, Nat.le_of_ble_eq_true rfl⟩ rfl (fun v' w' Hq lcq hR' hP hD hS => ?_)
        obtain ⟨rfl, rfl⟩ := hR'
        have hP : va_P G.1 vwCl [(y_, .inr (7, [.ref (ca 0), .ref (ca 1), .ref (ca 2), .int (nI ke), .ref (ca 3), .int (nI ty_), .int (nI th), .int (nI po), .int (bI fl_), .ref (ca 4), .int (nI tl), .ref (ca 5)])), (ca 0, .inl (G.2.2.1, 103, .inr (.inl (mV T))))] _ := hP.sub [0, 1] rfl
        have hD : va_D A [(y_, .inr (7, [.ref (ca 0), .ref (ca 1), .ref (ca 2), .int (nI ke), .ref (ca 3), .int (nI ty_), .int (nI th), .int (nI po), .int (bI fl_), .ref (ca 4), .int (nI tl), .ref (ca 5)])), (ca 0, .inl (G.2.2.1, 103, .inr (.inl (mV T))))] := hD.sub [0, 1] (by decide +kernel) rfl
        refine lv_ladd hx hb dX7_ofGroup_50 ?_
        refine lv_lstore (lv' := [(6, .long ((smL (fun k => rvT T (z_ * q_ + k)) i_) + (rvT T (z_ * q_ + i_)))), (4, .long ((smL (fun k => T.p (z_ * q_ + k)) i_) + (T.p (z_ * q_ + i_)))), (9, .int (nI (z_ * q_ + i_))), (0, .ref y_), (1, .int (nI z_)), (2, .int (nI q_)), (3, .int (nI w_)), (8, .int (nI (ctN (fun k => T.p (z_ * q_ + k) ≠ (rvT T) (z_ * q_ + k)) i_)))]) hx hb dX7_ofGroup_51 hl (by decide) rfl (fun ls hl => ?_)
        refine lv_iload hx hb dX7_ofGroup_53 (lv_at hl 7 rfl) ?_
        refine lv_aload_n hx hb dX7_ofGroup_55 rfl (lv_at hl 3 rfl) ?_
        refine lv_iload hx hb dX7_ofGroup_56 (lv_at hl 2 rfl) ?_
        refine cr_V (wr := []) (As := [.int (nI (z_ * q_ + i_))]) (rest := [.int (nI (ctN (fun k => T.p (z_ * q_ + k) ≠ (rvT T) (z_ * q_ + k)) i_))]) ⟨hx, hb, hml, hown, hts⟩ (c_X7_error G l y_ ca ke ty_ th po fl_ tl T (z_ * q_ + i_) (by omega) (by omega) (by omega)) (cwV 1 hts gX7_ofGroup_X7_error rfl rfl rfl (by decide +kernel) ⟨Nat.le_of_ble_eq_true rfl, Nat.le_of_ble_eq_true rfl⟩) dX7_ofGroup_58 hK hNX hP hD hS hA hl 0 7 rfl rfl rfl [0, 1] [] rfl rfl rfl rfl (by decide) rfl (Nat.le_of_ble_eq_true rfl) ⟨Nat.le_of_ble_eq_true rfl, Nat.le_of_ble_eq_true rfl⟩ rfl (fun v' w' Hq lcq hR' hP hD hS => ?_)
        obtain ⟨rfl, rfl⟩ := hR'
        have hP : va_P G.1 vwCl [(y_, .inr (7, [.ref (ca 0), .ref (ca 1), .ref (ca 2), .int (nI ke), .ref (ca 3), .int (nI ty_), .int (nI th), .int (nI po), .int (bI fl_), .ref (ca 4), .int (nI tl), .ref (ca 5)])), (ca 0, .inl (G.2.2.1, 103, .inr (.inl (mV T))))] _ := hP.sub [0, 1] rfl
        have hD : va_D A [(y_, .inr (7, [.ref (ca 0), .ref (ca 1), .ref (ca 2), .int (nI ke), .ref (ca 3), .int (nI ty_), .int (nI th), .int (nI po), .int (bI fl_), .ref (ca 4), .int (nI tl), .ref (ca 5)])), (ca 0, .inl (G.2.2.1, 103, .inr (.inl (mV T))))] := hD.sub [0, 1] (by decide +kernel) rfl
        refine lv_lconst (v := lN 0) hx hb dX7_ofGroup_61 rfl ?_
        refine ks_lc_ne (tgt := 70) hx hb dX7_ofGroup_62 dX7_ofGroup_63 (by decide) (fun c_62 => ?_) (fun c_62 => ?_)
        · refine lv_iconst (v := nI 1) hx hb dX7_ofGroup_70 (by decide) ?_
          refine ks_iaddN hx hb dX7_ofGroup_71 ?_
          refine ks_vI (show nI (ctN (fun k => T.p (z_ * q_ + k) ≠ (rvT T) (z_ * q_ + k)) i_ + 1) = nI (ctN (fun k => T.p (z_ * q_ + k) ≠ (rvT T) (z_ * q_ + k)) (i_ + 1)) from by rw [ctN_t (p := (fun k => T.p (z_ * q_ + k) ≠ (rvT T) (z_ * q_ + k))) (show T.p (z_ * q_ + i_) ≠ rvT T (z_ * q_ + i_) from fun e => c_62 (er_eq.mpr e))]) ?_
          refine lv_istore (lv' := [(8, .int (nI (ctN (fun k => T.p (z_ * q_ + k) ≠ (rvT T) (z_ * q_ + k)) (i_ + 1)))), (6, .long ((smL (fun k => rvT T (z_ * q_ + k)) i_) + (rvT T (z_ * q_ + i_)))), (4, .long ((smL (fun k => T.p (z_ * q_ + k)) i_) + (T.p (z_ * q_ + i_)))), (9, .int (nI (z_ * q_ + i_))), (0, .ref y_), (1, .int (nI z_)), (2, .int (nI q_)), (3, .int (nI w_))]) hx hb dX7_ofGroup_72 hl (by decide) rfl (fun ls hl => ?_)
          refine lv_iinc (v := nI (z_ * q_ + i_ + 1)) (lv' := [(9, .int (nI (z_ * q_ + i_ + 1))), (8, .int (nI (ctN (fun k => T.p (z_ * q_ + k) ≠ (rvT T) (z_ * q_ + k)) (i_ + 1)))), (6, .long ((smL (fun k => rvT T (z_ * q_ + k)) i_) + (rvT T (z_ * q_ + i_)))), (4, .long ((smL (fun k => T.p (z_ * q_ + k)) i_) + (T.p (z_ * q_ + i_)))), (0, .ref y_), (1, .int (nI z_)), (2, .int (nI q_)), (3, .int (nI w_))]) hx hb dX7_ofGroup_74 hl (k := 3) rfl (ks_inc (z_ * q_ + i_) 1) (by decide) rfl (fun ls hl => ?_)
          refine lv_goto (tgt := 14) hx hb dX7_ofGroup_77 (by decide) ?_
          exact ih_14  (i_ + 1) (by omega) (by omega) _ _ hP hD hS ls (lv_sub hl [0, 4, 5, 6, 7, 3, 2, 1] rfl)
        · refine lv_iconst (v := nI 0) hx hb dX7_ofGroup_66 (by decide) ?_
          refine lv_goto (tgt := 71) hx hb dX7_ofGroup_67 (by decide) ?_
          refine ks_iaddN hx hb dX7_ofGroup_71 ?_
          refine ks_vI (show nI (ctN (fun k => T.p (z_ * q_ + k) ≠ (rvT T) (z_ * q_ + k)) i_ + 0) = nI (ctN (fun k => T.p (z_ * q_ + k) ≠ (rvT T) (z_ * q_ + k)) (i_ + 1)) from by rw [Nat.add_zero, ctN_f (p := (fun k => T.p (z_ * q_ + k) ≠ (rvT T) (z_ * q_ + k))) (show ¬ T.p (z_ * q_ + i_) ≠ rvT T (z_ * q_ + i_) from fun e => e (er_eq.mp c_62))]) ?_
          refine lv_istore (lv' := [(8, .int (nI (ctN (fun k => T.p (z_ * q_ + k) ≠ (rvT T) (z_ * q_ + k)) (i_ + 1)))), (6, .long ((smL (fun k => rvT T (z_ * q_ + k)) i_) + (rvT T (z_ * q_ + i_)))), (4, .long ((smL (fun k => T.p (z_ * q_ + k)) i_) + (T.p (z_ * q_ + i_)))), (9, .int (nI (z_ * q_ + i_))), (0, .ref y_), (1, .int (nI z_)), (2, .int (nI q_)), (3, .int (nI w_))]) hx hb dX7_ofGroup_72 hl (by decide) rfl (fun ls hl => ?_)
          refine lv_iinc (v := nI (z_ * q_ + i_ + 1)) (lv' := [(9, .int (nI (z_ * q_ + i_ + 1))), (8, .int (nI (ctN (fun k => T.p (z_ * q_ + k) ≠ (rvT T) (z_ * q_ + k)) (i_ + 1)))), (6, .long ((smL (fun k => rvT T (z_ * q_ + k)) i_) + (rvT T (z_ * q_ + i_)))), (4, .long ((smL (fun k => T.p (z_ * q_ + k)) i_) + (T.p (z_ * q_ + i_)))), (0, .ref y_), (1, .int (nI z_)), (2, .int (nI q_)), (3, .int (nI w_))]) hx hb dX7_ofGroup_74 hl (k := 3) rfl (ks_inc (z_ * q_ + i_) 1) (by decide) rfl (fun ls hl => ?_)
          refine lv_goto (tgt := 14) hx hb dX7_ofGroup_77 (by decide) ?_
          exact ih_14  (i_ + 1) (by omega) (by omega) _ _ hP hD hS ls (lv_sub hl [0, 4, 5, 6, 7, 3, 2, 1] rfl)
  exact L_14 _ 0 (Nat.lt_succ_self _) (by omega) _ _ hP hD hS ls (lv_sub hl [0, 4, 5, 6, 7, 3, 2, 1] rfl)
set_option maxHeartbeats 4000000 in
set_option maxRecDepth 100000 in
theorem c_X7_groups (G : GG) (l : Launch) (y_ : Nat) (ca : Nat → Nat) (ke : Nat) (ty_ : Nat) (th : Nat) (po : Nat) (fl_ : Prop) (tl : Nat) (T : TS) (z_ : Nat) (jn4 : T.s 4 ≤ 40) (jz : 1 ≤ z_) (jz2 : z_ ≤ 20) : Cr G l yX7_groups wsX7_groups ({ frames := 0, cells := 0, slots := 0, locals := 0 }) 0 0 [.ref y_, .int (nI z_)] [(y_, .inr (7, [.ref (ca 0), .ref (ca 1), .ref (ca 2), .int (nI ke), .ref (ca 3), .int (nI ty_), .int (nI th), .int (nI po), .int (bI fl_), .ref (ca 4), .int (nI tl), .ref (ca 5)])), (ca 0, .inl (G.2.2.1, 103, .inr (.inl (mV T))))] (ctR (some (.int (nI (T.s 4 / z_)))) [(y_, .inr (7, [.ref (ca 0), .ref (ca 1), .ref (ca 2), .int (nI ke), .ref (ca 3), .int (nI ty_), .int (nI th), .int (nI po), .int (bI fl_), .ref (ca 4), .int (nI tl), .ref (ca 5)])), (ca 0, .inl (G.2.2.1, 103, .inr (.inl (mV T))))]) := by
  refine cr_intro (cc := cX7_groups) (maxL := 2) (ret := (some .int)) (own := RX7) (by decide) rfl rfl (Nat.le_of_ble_eq_true rfl) ?_
  intro p e s m args below meth c A hx hb hr hml hts hown hlocks hnm hNX hP hK hD hA hS ls hl
  obtain ⟨RR, hRR⟩ : ∃ RR, RR = (ctR (some (.int (nI (T.s 4 / z_)))) [(y_, .inr (7, [.ref (ca 0), .ref (ca 1), .ref (ca 2), .int (nI ke), .ref (ca 3), .int (nI ty_), .int (nI th), .int (nI po), .int (bI fl_), .ref (ca 4), .int (nI tl), .ref (ca 5)])), (ca 0, .inl (G.2.2.1, 103, .inr (.inl (mV T))))]) := ⟨_, rfl⟩
  rw [← hRR]
  have hl : lv_has ls 2 [(0, .ref y_), (1, .int (nI z_))] := hl
  have hin7 : ∀ w ∈ u_ws RX7 TX7 12, w ∈ wsX7_groups := fun w h => List.mem_cons_of_mem _ (List.mem_append_right _ h)
  refine lv_aload_n hx hb dX7_groups_0 rfl (lv_at hl 0 rfl) ?_
  refine va_get (D := G.1) (ci := 7) (v := .ref (ca 0)) (C := RX7) (T := TX7) (N := 12) hx hb hts hin7 hown hK hP 0 rfl rfl 0 (by decide) (hts (.fieldLink RX7 7 "PowerTablesModel" "now" "[J") (List.mem_of_getElem? (i := 1) rfl)) (fun _ h9 => h9) rfl dX7_groups_1 ?_
  refine lv_iconst (v := nI 4) hx hb dX7_groups_4 (by decide) ?_
  refine ks_lald hx hb hK hP 1 rfl (by omega) (by decide) dX7_groups_5 ?_
  refine ks_vL (show mV T 4 = lN (T.s 4) from rfl) ?_
  refine ks_l2iN hx hb dX7_groups_6 ?_
  refine lv_iload_n hx hb dX7_groups_7 rfl (lv_at hl 1 rfl) ?_
  refine ks_idivN hx hb dX7_groups_8 (by omega) (by omega) (by omega) ?_
  exact cr_iret hx hb hr hlocks hK hP hD hS dX7_groups_9 (by rw [hRR]; exact ctR_i (rfl) (rfl))
set_option maxHeartbeats 4000000 in
set_option maxRecDepth 100000 in
theorem c_X7_group (G : GG) (l : Launch) (y_ : Nat) (ca : Nat → Nat) (ke : Nat) (ty_ : Nat) (th : Nat) (po : Nat) (fl_ : Prop) (tl : Nat) (T : TS) (q_ : Nat) (w_ : Nat) (jq : q_ < 2 ^ 31) (jw : w_ < 4) (jn4 : T.s 4 ≤ 40) (jz : 1 ≤ T.s 0) (jz2 : T.s 0 ≤ 20) (jf_ : T.s 3 ≤ 99) (jp : T.s 2 ≤ 5) : Cr G l yX7_group wsX7_group ({ frames := 3, cells := 0, slots := 0, locals := 76 }) 0 0 [.ref y_, .int (nI q_), .int (nI w_)] [(y_, .inr (7, [.ref (ca 0), .ref (ca 1), .ref (ca 2), .int (nI ke), .ref (ca 3), .int (nI ty_), .int (nI th), .int (nI po), .int (bI fl_), .ref (ca 4), .int (nI tl), .ref (ca 5)])), (ca 0, .inl (G.2.2.1, 103, .inr (.inl (mV T))))] (ctR (some (.long (grA T (rvT T) q_ w_))) [(y_, .inr (7, [.ref (ca 0), .ref (ca 1), .ref (ca 2), .int (nI ke), .ref (ca 3), .int (nI ty_), .int (nI 0), .int (nI po), .int (bI fl_), .ref (ca 4), .int (nI tl), .ref (ca 5)])), (ca 0, .inl (G.2.2.1, 103, .inr (.inl (mV T))))]) := by
  refine cr_intro (cc := cX7_group) (maxL := 3) (ret := (some .long)) (own := RX7) (by decide) rfl rfl (Nat.le_of_ble_eq_true rfl) ?_
  intro p e s m args below meth c A hx hb hr hml hts hown hlocks hnm hNX hP hK hD hA hS ls hl
  obtain ⟨RR, hRR⟩ : ∃ RR, RR = (ctR (some (.long (grA T (rvT T) q_ w_))) [(y_, .inr (7, [.ref (ca 0), .ref (ca 1), .ref (ca 2), .int (nI ke), .ref (ca 3), .int (nI ty_), .int (nI 0), .int (nI po), .int (bI fl_), .ref (ca 4), .int (nI tl), .ref (ca 5)])), (ca 0, .inl (G.2.2.1, 103, .inr (.inl (mV T))))]) := ⟨_, rfl⟩
  rw [← hRR]
  have hl : lv_has ls 3 [(0, .ref y_), (1, .int (nI q_)), (2, .int (nI w_))] := hl
  have hin7 : ∀ w_ ∈ u_ws RX7 TX7 12, w_ ∈ wsX7_group := fun w_ h => List.mem_cons_of_mem _ (List.mem_append_right _ h)
  refine lv_aload_n hx hb dX7_group_0 rfl (lv_at hl 0 rfl) ?_
  refine lv_iconst (v := nI 0) hx hb dX7_group_1 (by decide) ?_
  refine va_put (D := G.1) (ci := 7) (v := .int (nI 0)) (ty := .int) (C := RX7) (T := TX7) (N := 12) hx hb hts hin7 tyX7 tyX7_ok nmX7 hown hK hP hD hS 0 rfl rfl 6 (by decide) (hts (.fieldLink RX7 39 "PowerTablesModel" "thrown" "I") (List.mem_of_getElem? (i := 1) rfl)) (fun _ h9 => h9) rfl (tyX7_ok 6 (by decide)) rfl rfl (Nat.le_of_ble_eq_true rfl) dX7_group_2 (fun Hq lcq hP hD hS => ?_)
  have hP : va_P G.1 vwCl [(y_, .inr (7, [.ref (ca 0), .ref (ca 1), .ref (ca 2), .int (nI ke), .ref (ca 3), .int (nI ty_), .int (nI 0), .int (nI po), .int (bI fl_), .ref (ca 4), .int (nI tl), .ref (ca 5)])), (ca 0, .inl (G.2.2.1, 103, .inr (.inl (mV T))))] _ := hP
  have hD : va_D A [(y_, .inr (7, [.ref (ca 0), .ref (ca 1), .ref (ca 2), .int (nI ke), .ref (ca 3), .int (nI ty_), .int (nI 0), .int (nI po), .int (bI fl_), .ref (ca 4), .int (nI tl), .ref (ca 5)])), (ca 0, .inl (G.2.2.1, 103, .inr (.inl (mV T))))] := hD
  refine lv_iload_n hx hb dX7_group_5 rfl (lv_at hl 1 rfl) ?_
  refine ks_if_lt (tgt := 21) hx hb dX7_group_6 (by decide) (by omega) ?_
  refine lv_iload_n hx hb dX7_group_9 rfl (lv_at hl 2 rfl) ?_
  refine ks_i2lN hx hb dX7_group_10 (by omega) ?_
  refine lv_lconst (v := lN 0) hx hb dX7_group_11 rfl ?_
  refine lv_ldc2 hx hb hown (hts (.constantLong RX7 168 (3)) (List.mem_of_getElem? (i := 2) rfl)) dX7_group_12 ?_
  refine ks_vL (show (3 : Int64) = lN 3 from rfl) ?_
  refine cr_S (wr := [(y_, .inr (7, [.ref (ca 0), .ref (ca 1), .ref (ca 2), .int (nI ke), .ref (ca 3), .int (nI ty_), .int (nI 0), .int (nI po), .int (bI fl_), .ref (ca 4), .int (nI tl), .ref (ca 5)])), (ca 0, .inl (G.2.2.1, 103, .inr (.inl (mV T))))]) (As := [.long (lN w_), .long (lN 0), .long (lN 3)]) (rest := []) ⟨hx, hb, hml, hown, hts⟩ (c_X7_in__n G l w_ 0 3 (by omega) (by omega) (by omega)) (va_cwS 3 hts gX7_group_X7_in rfl rfl rfl (by decide +kernel) ⟨Nat.le_of_ble_eq_true rfl, Nat.le_of_ble_eq_true rfl⟩) dX7_group_15 hK hNX hP hD hS hA hl [] [0, 1] rfl rfl rfl rfl (by decide) rfl (Nat.le_of_ble_eq_true rfl) ⟨Nat.le_of_ble_eq_true rfl, Nat.le_of_ble_eq_true rfl⟩ rfl (fun v' w' Hq lcq hR' hP hD hS => ?_)
  obtain ⟨rfl, rfl⟩ := hR'
  have hP : va_P G.1 vwCl [(y_, .inr (7, [.ref (ca 0), .ref (ca 1), .ref (ca 2), .int (nI ke), .ref (ca 3), .int (nI ty_), .int (nI 0), .int (nI po), .int (bI fl_), .ref (ca 4), .int (nI tl), .ref (ca 5)])), (ca 0, .inl (G.2.2.1, 103, .inr (.inl (mV T))))] _ := hP.sub [0, 1] rfl
  have hD : va_D A [(y_, .inr (7, [.ref (ca 0), .ref (ca 1), .ref (ca 2), .int (nI ke), .ref (ca 3), .int (nI ty_), .int (nI 0), .int (nI po), .int (bI fl_), .ref (ca 4), .int (nI tl), .ref (ca 5)])), (ca 0, .inl (G.2.2.1, 103, .inr (.inl (mV T))))] := hD.sub [0, 1] (by decide +kernel) rfl
  refine ks_ifb_ne (tgt := 28) hx hb dX7_group_18 (by decide) (fun c_18 => ?_) (fun c_18 => ?_)
  · refine lv_iload_n hx hb dX7_group_28 rfl (lv_at hl 1 rfl) ?_
    refine lv_aload_n hx hb dX7_group_29 rfl (lv_at hl 0 rfl) ?_
    refine lv_aload_n hx hb dX7_group_30 rfl (lv_at hl 0 rfl) ?_
    refine va_get (D := G.1) (ci := 7) (v := .ref (ca 0)) (C := RX7) (T := TX7) (N := 12) hx hb hts hin7 hown hK hP 0 rfl rfl 0 (by decide) (hts (.fieldLink RX7 7 "PowerTablesModel" "now" "[J") (List.mem_of_getElem? (i := 3) rfl)) (fun _ h9 => h9) rfl dX7_group_31 ?_
    refine lv_iconst (v := nI 0) hx hb dX7_group_34 (by decide) ?_
    refine ks_lald hx hb hK hP 1 rfl (by omega) (by decide) dX7_group_35 ?_
    refine ks_vL (show mV T 0 = lN (T.s 0) from rfl) ?_
    refine ks_l2iN hx hb dX7_group_36 ?_
    refine cr_V (wr := []) (As := [.int (nI (T.s 0))]) (rest := [.int (nI q_)]) ⟨hx, hb, hml, hown, hts⟩ (c_X7_groups G l y_ ca ke ty_ 0 po fl_ tl T (T.s 0) (by omega) (by omega) (by omega)) (cwV 1 hts gX7_group_X7_groups rfl rfl rfl (by decide +kernel) ⟨Nat.le_of_ble_eq_true rfl, Nat.le_of_ble_eq_true rfl⟩) dX7_group_37 hK hNX hP hD hS hA hl 0 7 rfl rfl rfl [0, 1] [] rfl rfl rfl rfl (by decide) rfl (Nat.le_of_ble_eq_true rfl) ⟨Nat.le_of_ble_eq_true rfl, Nat.le_of_ble_eq_true rfl⟩ rfl (fun v' w' Hq lcq hR' hP hD hS => ?_)
    obtain ⟨rfl, rfl⟩ := hR'
    have hP : va_P G.1 vwCl [(y_, .inr (7, [.ref (ca 0), .ref (ca 1), .ref (ca 2), .int (nI ke), .ref (ca 3), .int (nI ty_), .int (nI 0), .int (nI po), .int (bI fl_), .ref (ca 4), .int (nI tl), .ref (ca 5)])), (ca 0, .inl (G.2.2.1, 103, .inr (.inl (mV T))))] _ := hP.sub [0, 1] rfl
    have hD : va_D A [(y_, .inr (7, [.ref (ca 0), .ref (ca 1), .ref (ca 2), .int (nI ke), .ref (ca 3), .int (nI ty_), .int (nI 0), .int (nI po), .int (bI fl_), .ref (ca 4), .int (nI tl), .ref (ca 5)])), (ca 0, .inl (G.2.2.1, 103, .inr (.inl (mV T))))] := hD.sub [0, 1] (by decide +kernel) rfl
    refine ks_icmp_ge (tgt := 59) hx hb dX7_group_40 (by decide) (by omega) (Nat.lt_of_le_of_lt (Nat.div_le_self _ _) (by omega)) (fun c_40 => ?_) (fun c_40 => ?_)
    · have e1_ : lN 0 = grA T (rvT T) q_ w_ := (if_neg (Nat.not_lt.mpr c_40)).symm
      refine lv_lconst (v := lN 0) hx hb dX7_group_59 rfl ?_
      exact cr_lret hx hb hr hlocks hK hP hD hS dX7_group_60 (by rw [hRR]; exact ctR_l (e1_) (rfl))
    · have jq9 := gq_le c_40
      have e1_ : ofG T.p (rvT T) (T.s 0) q_ w_ = grA T (rvT T) q_ w_ := (ofG_gr T (rvT T) q_ w_).trans (if_pos c_40).symm
      refine lv_aload_n hx hb dX7_group_43 rfl (lv_at hl 0 rfl) ?_
      refine lv_aload_n hx hb dX7_group_44 rfl (lv_at hl 0 rfl) ?_
      refine va_get (D := G.1) (ci := 7) (v := .ref (ca 0)) (C := RX7) (T := TX7) (N := 12) hx hb hts hin7 hown hK hP 0 rfl rfl 0 (by decide) (hts (.fieldLink RX7 7 "PowerTablesModel" "now" "[J") (List.mem_of_getElem? (i := 3) rfl)) (fun _ h9 => h9) rfl dX7_group_45 ?_
      refine lv_iconst (v := nI 0) hx hb dX7_group_48 (by decide) ?_
      refine ks_lald hx hb hK hP 1 rfl (by omega) (by decide) dX7_group_49 ?_
      refine ks_vL (show mV T 0 = lN (T.s 0) from rfl) ?_
      refine ks_l2iN hx hb dX7_group_50 ?_
      refine lv_iload_n hx hb dX7_group_51 rfl (lv_at hl 1 rfl) ?_
      refine lv_iload_n hx hb dX7_group_52 rfl (lv_at hl 2 rfl) ?_
      refine cr_V (wr := []) (As := [.int (nI (T.s 0)), .int (nI q_), .int (nI w_)]) (rest := []) ⟨hx, hb, hml, hown, hts⟩ (c_X7_ofGroup G l y_ ca ke ty_ 0 po fl_ tl T (T.s 0) q_ w_ (by omega) (by omega) (by omega) (by omega)) (cwV 3 hts gX7_group_X7_ofGroup rfl rfl rfl (by decide +kernel) ⟨Nat.le_of_ble_eq_true rfl, Nat.le_of_ble_eq_true rfl⟩) dX7_group_53 hK hNX hP hD hS hA hl 0 7 rfl rfl rfl [0, 1] [] rfl rfl rfl rfl (by decide) rfl (Nat.le_of_ble_eq_true rfl) ⟨Nat.le_of_ble_eq_true rfl, Nat.le_of_ble_eq_true rfl⟩ rfl (fun v' w' Hq lcq hR' hP hD hS => ?_)
      obtain ⟨rfl, rfl⟩ := hR'
      have hP : va_P G.1 vwCl [(y_, .inr (7, [.ref (ca 0), .ref (ca 1), .ref (ca 2), .int (nI ke), .ref (ca 3), .int (nI ty_), .int (nI 0), .int (nI po), .int (bI fl_), .ref (ca 4), .int (nI tl), .ref (ca 5)])), (ca 0, .inl (G.2.2.1, 103, .inr (.inl (mV T))))] _ := hP.sub [0, 1] rfl
      have hD : va_D A [(y_, .inr (7, [.ref (ca 0), .ref (ca 1), .ref (ca 2), .int (nI ke), .ref (ca 3), .int (nI ty_), .int (nI 0), .int (nI po), .int (bI fl_), .ref (ca 4), .int (nI tl), .ref (ca 5)])), (ca 0, .inl (G.2.2.1, 103, .inr (.inl (mV T))))] := hD.sub [0, 1] (by decide +kernel) rfl
      refine lv_goto (tgt := 60) hx hb dX7_group_56 (by decide) ?_
      exact cr_lret hx hb hr hlocks hK hP hD hS dX7_group_60 (by rw [hRR]; exact ctR_l (e1_) (rfl))
  · exact absurd ⟨Nat.zero_le _, by omega⟩ c_18
set_option maxHeartbeats 4000000 in
set_option maxRecDepth 100000 in
theorem c_X7_group__b1 (G : GG) (l : Launch) (y_ : Nat) (ca : Nat → Nat) (ke : Nat) (ty_ : Nat) (th : Nat) (po : Nat) (fl_ : Prop) (tl : Nat) (v_ : Int32) (u_ : Int32) (h8 : ¬ (0 ≤ v_.toInt ∧ (0 ≤ u_.toInt ∧ u_.toInt ≤ 3))) : Cr G l yX7_group wsX7_group ({ frames := 3, cells := 0, slots := 0, locals := 76 }) 0 0 [.ref y_, .int v_, .int u_] [(y_, .inr (7, [.ref (ca 0), .ref (ca 1), .ref (ca 2), .int (nI ke), .ref (ca 3), .int (nI ty_), .int (nI th), .int (nI po), .int (bI fl_), .ref (ca 4), .int (nI tl), .ref (ca 5)]))] (ctR (some (.long (lN 0))) [(y_, .inr (7, [.ref (ca 0), .ref (ca 1), .ref (ca 2), .int (nI ke), .ref (ca 3), .int (nI ty_), .int (nI 1), .int (nI po), .int (bI fl_), .ref (ca 4), .int (nI tl), .ref (ca 5)]))]) := by
  refine cr_intro (cc := cX7_group) (maxL := 3) (ret := (some .long)) (own := RX7) (by decide) rfl rfl (Nat.le_of_ble_eq_true rfl) ?_
  intro p e s m args below meth c A hx hb hr hml hts hown hlocks hnm hNX hP hK hD hA hS ls hl
  obtain ⟨RR, hRR⟩ : ∃ RR, RR = (ctR (some (.long (lN 0))) [(y_, .inr (7, [.ref (ca 0), .ref (ca 1), .ref (ca 2), .int (nI ke), .ref (ca 3), .int (nI ty_), .int (nI 1), .int (nI po), .int (bI fl_), .ref (ca 4), .int (nI tl), .ref (ca 5)]))]) := ⟨_, rfl⟩
  rw [← hRR]
  have hl : lv_has ls 3 [(0, .ref y_), (1, .int v_), (2, .int u_)] := hl
  have hin7 : ∀ w ∈ u_ws RX7 TX7 12, w ∈ wsX7_group := fun w h => List.mem_cons_of_mem _ (List.mem_append_right _ h)
  refine lv_aload_n hx hb dX7_group_0 rfl (lv_at hl 0 rfl) ?_
  refine lv_iconst (v := nI 0) hx hb dX7_group_1 (by decide) ?_
  refine va_put (D := G.1) (ci := 7) (v := .int (nI 0)) (ty := .int) (C := RX7) (T := TX7) (N := 12) hx hb hts hin7 tyX7 tyX7_ok nmX7 hown hK hP hD hS 0 rfl rfl 6 (by decide) (hts (.fieldLink RX7 39 "PowerTablesModel" "thrown" "I") (List.mem_of_getElem? (i := 1) rfl)) (fun _ h9 => h9) rfl (tyX7_ok 6 (by decide)) rfl rfl (Nat.le_of_ble_eq_true rfl) dX7_group_2 (fun Hq lcq hP hD hS => ?_)
  have hP : va_P G.1 vwCl [(y_, .inr (7, [.ref (ca 0), .ref (ca 1), .ref (ca 2), .int (nI ke), .ref (ca 3), .int (nI ty_), .int (nI 0), .int (nI po), .int (bI fl_), .ref (ca 4), .int (nI tl), .ref (ca 5)]))] _ := hP
  have hD : va_D A [(y_, .inr (7, [.ref (ca 0), .ref (ca 1), .ref (ca 2), .int (nI ke), .ref (ca 3), .int (nI ty_), .int (nI 0), .int (nI po), .int (bI fl_), .ref (ca 4), .int (nI tl), .ref (ca 5)]))] := hD
  refine lv_iload_n hx hb dX7_group_5 rfl (lv_at hl 1 rfl) ?_
  refine lv_if_lt (tgt := 21) hx hb dX7_group_6 (by decide) (fun c_6 => ?_) (fun c_6 => ?_)
  · refine lv_aload_n hx hb dX7_group_21 rfl (lv_at hl 0 rfl) ?_
    refine lv_iconst (v := nI 1) hx hb dX7_group_22 (by decide) ?_
    refine cr_V (wr := []) (As := [.int (nI 1)]) (rest := []) ⟨hx, hb, hml, hown, hts⟩ (c_X7_fails G l y_ ca ke ty_ 0 po fl_ tl 1 ) (cwV 1 hts gX7_group_X7_fails rfl rfl rfl (by decide +kernel) ⟨Nat.le_of_ble_eq_true rfl, Nat.le_of_ble_eq_true rfl⟩) dX7_group_23 hK hNX hP hD hS hA hl 0 7 rfl rfl rfl [0] [] rfl rfl rfl rfl (by decide) rfl (Nat.le_of_ble_eq_true rfl) ⟨Nat.le_of_ble_eq_true rfl, Nat.le_of_ble_eq_true rfl⟩ rfl (fun v' w' Hq lcq hR' hP hD hS => ?_)
    obtain ⟨rfl, rfl⟩ := hR'
    have hP : va_P G.1 vwCl [(y_, .inr (7, [.ref (ca 0), .ref (ca 1), .ref (ca 2), .int (nI ke), .ref (ca 3), .int (nI ty_), .int (nI 1), .int (nI po), .int (bI fl_), .ref (ca 4), .int (nI tl), .ref (ca 5)]))] _ := hP.sub [0] rfl
    have hD : va_D A [(y_, .inr (7, [.ref (ca 0), .ref (ca 1), .ref (ca 2), .int (nI ke), .ref (ca 3), .int (nI ty_), .int (nI 1), .int (nI po), .int (bI fl_), .ref (ca 4), .int (nI tl), .ref (ca 5)]))] := hD.sub [0] (by decide +kernel) rfl
    refine ks_i2lN hx hb dX7_group_26 (by omega) ?_
    exact cr_lret hx hb hr hlocks hK hP hD hS dX7_group_27 (by rw [hRR]; exact ctR_l (rfl) (rfl))
  · refine lv_iload_n hx hb dX7_group_9 rfl (lv_at hl 2 rfl) ?_
    refine lv_i2l hx hb dX7_group_10 rfl ?_
    refine lv_lconst (v := lN 0) hx hb dX7_group_11 rfl ?_
    refine lv_ldc2 hx hb hown (hts (.constantLong RX7 168 (3)) (List.mem_of_getElem? (i := 2) rfl)) dX7_group_12 ?_
    refine ks_vL (show (3 : Int64) = lN 3 from rfl) ?_
    refine cr_S (wr := [(y_, .inr (7, [.ref (ca 0), .ref (ca 1), .ref (ca 2), .int (nI ke), .ref (ca 3), .int (nI ty_), .int (nI 0), .int (nI po), .int (bI fl_), .ref (ca 4), .int (nI tl), .ref (ca 5)]))]) (As := [.long u_.toInt64, .long (lN 0), .long (lN 3)]) (rest := []) ⟨hx, hb, hml, hown, hts⟩ (c_X7_in__i G l u_ 0 3 (by omega) (by omega)) (va_cwS 3 hts gX7_group_X7_in rfl rfl rfl (by decide +kernel) ⟨Nat.le_of_ble_eq_true rfl, Nat.le_of_ble_eq_true rfl⟩) dX7_group_15 hK hNX hP hD hS hA hl [] [0] rfl rfl rfl rfl (by decide) rfl (Nat.le_of_ble_eq_true rfl) ⟨Nat.le_of_ble_eq_true rfl, Nat.le_of_ble_eq_true rfl⟩ rfl (fun v' w' Hq lcq hR' hP hD hS => ?_)
    obtain ⟨rfl, rfl⟩ := hR'
    have hP : va_P G.1 vwCl [(y_, .inr (7, [.ref (ca 0), .ref (ca 1), .ref (ca 2), .int (nI ke), .ref (ca 3), .int (nI ty_), .int (nI 0), .int (nI po), .int (bI fl_), .ref (ca 4), .int (nI tl), .ref (ca 5)]))] _ := hP.sub [0] rfl
    have hD : va_D A [(y_, .inr (7, [.ref (ca 0), .ref (ca 1), .ref (ca 2), .int (nI ke), .ref (ca 3), .int (nI ty_), .int (nI 0), .int (nI po), .int (bI fl_), .ref (ca 4), .int (nI tl), .ref (ca 5)]))] := hD.sub [0] (by decide +kernel) rfl
    refine ks_ifb_ne (tgt := 28) hx hb dX7_group_18 (by decide) (fun c_18 => ?_) (fun c_18 => ?_)
    · exact absurd ⟨i0_ge c_6, c_18⟩ h8
    · refine lv_aload_n hx hb dX7_group_21 rfl (lv_at hl 0 rfl) ?_
      refine lv_iconst (v := nI 1) hx hb dX7_group_22 (by decide) ?_
      refine cr_V (wr := []) (As := [.int (nI 1)]) (rest := []) ⟨hx, hb, hml, hown, hts⟩ (c_X7_fails G l y_ ca ke ty_ 0 po fl_ tl 1 ) (cwV 1 hts gX7_group_X7_fails rfl rfl rfl (by decide +kernel) ⟨Nat.le_of_ble_eq_true rfl, Nat.le_of_ble_eq_true rfl⟩) dX7_group_23 hK hNX hP hD hS hA hl 0 7 rfl rfl rfl [0] [] rfl rfl rfl rfl (by decide) rfl (Nat.le_of_ble_eq_true rfl) ⟨Nat.le_of_ble_eq_true rfl, Nat.le_of_ble_eq_true rfl⟩ rfl (fun v' w' Hq lcq hR' hP hD hS => ?_)
      obtain ⟨rfl, rfl⟩ := hR'
      have hP : va_P G.1 vwCl [(y_, .inr (7, [.ref (ca 0), .ref (ca 1), .ref (ca 2), .int (nI ke), .ref (ca 3), .int (nI ty_), .int (nI 1), .int (nI po), .int (bI fl_), .ref (ca 4), .int (nI tl), .ref (ca 5)]))] _ := hP.sub [0] rfl
      have hD : va_D A [(y_, .inr (7, [.ref (ca 0), .ref (ca 1), .ref (ca 2), .int (nI ke), .ref (ca 3), .int (nI ty_), .int (nI 1), .int (nI po), .int (bI fl_), .ref (ca 4), .int (nI tl), .ref (ca 5)]))] := hD.sub [0] (by decide +kernel) rfl
      refine ks_i2lN hx hb dX7_group_26 (by omega) ?_
      exact cr_lret hx hb hr hlocks hK hP hD hS dX7_group_27 (by rw [hRR]; exact ctR_l (rfl) (rfl))
set_option maxHeartbeats 4000000 in
set_option maxRecDepth 100000 in
theorem c_X7_differenceAt (G : GG) (l : Launch) (y_ : Nat) (ca : Nat → Nat) (ke : Nat) (ty_ : Nat) (th : Nat) (po : Nat) (fl_ : Prop) (tl : Nat) (T : TS) (j_ : Nat) (i_ : Nat) (jj : j_ < 6) (ji : i_ < T.s 4) (jn4 : T.s 4 ≤ 40) : Cr G l yX7_differenceAt wsX7_differenceAt ({ frames := 0, cells := 0, slots := 0, locals := 0 }) 0 0 [.ref y_, .int (nI j_), .int (nI i_)] [(y_, .inr (7, [.ref (ca 0), .ref (ca 1), .ref (ca 2), .int (nI ke), .ref (ca 3), .int (nI ty_), .int (nI th), .int (nI po), .int (bI fl_), .ref (ca 4), .int (nI tl), .ref (ca 5)])), (ca 0, .inl (G.2.2.1, 103, .inr (.inl (mV T))))] (ctR (some (.long (dfA T j_ i_))) [(y_, .inr (7, [.ref (ca 0), .ref (ca 1), .ref (ca 2), .int (nI ke), .ref (ca 3), .int (nI ty_), .int (nI th), .int (nI po), .int (bI fl_), .ref (ca 4), .int (nI tl), .ref (ca 5)])), (ca 0, .inl (G.2.2.1, 103, .inr (.inl (mV T))))]) := by
  refine cr_intro (cc := cX7_differenceAt) (maxL := 8) (ret := (some .long)) (own := RX7) (by decide) rfl rfl (Nat.le_of_ble_eq_true rfl) ?_
  intro p e s m args below meth c A hx hb hr hml hts hown hlocks hnm hNX hP hK hD hA hS ls hl
  obtain ⟨RR, hRR⟩ : ∃ RR, RR = (ctR (some (.long (dfA T j_ i_))) [(y_, .inr (7, [.ref (ca 0), .ref (ca 1), .ref (ca 2), .int (nI ke), .ref (ca 3), .int (nI ty_), .int (nI th), .int (nI po), .int (bI fl_), .ref (ca 4), .int (nI tl), .ref (ca 5)])), (ca 0, .inl (G.2.2.1, 103, .inr (.inl (mV T))))]) := ⟨_, rfl⟩
  rw [← hRR]
  have hl : lv_has ls 8 [(0, .ref y_), (1, .int (nI j_)), (2, .int (nI i_))] := hl
  have hin7 : ∀ w ∈ u_ws RX7 TX7 12, w ∈ wsX7_differenceAt := fun w h => List.mem_cons_of_mem _ (List.mem_append_right _ h)
  rcases (show j_ = 0 ∨ j_ = 1 ∨ j_ = 2 ∨ j_ = 3 ∨ j_ = 4 ∨ j_ = 5 by omega) with rfl | rfl | rfl | rfl | rfl | rfl
  · refine lv_iload_n hx hb dX7_differenceAt_0 rfl (lv_at hl 2 rfl) ?_
    refine lv_iload_n hx hb dX7_differenceAt_1 rfl (lv_at hl 1 rfl) ?_
    refine ks_iaddN hx hb dX7_differenceAt_2 ?_
    refine ks_i2lN hx hb dX7_differenceAt_3 (by omega) ?_
    refine lv_aload_n hx hb dX7_differenceAt_4 rfl (lv_at hl 0 rfl) ?_
    refine va_get (D := G.1) (ci := 7) (v := .ref (ca 0)) (C := RX7) (T := TX7) (N := 12) hx hb hts hin7 hown hK hP 0 rfl rfl 0 (by decide) (hts (.fieldLink RX7 7 "PowerTablesModel" "now" "[J") (List.mem_of_getElem? (i := 1) rfl)) (fun _ h9 => h9) rfl dX7_differenceAt_5 ?_
    refine lv_iconst (v := nI 4) hx hb dX7_differenceAt_8 (by decide) ?_
    refine ks_lald hx hb hK hP 1 rfl (by omega) (by decide) dX7_differenceAt_9 ?_
    refine ks_vL (show mV T 4 = lN (T.s 4) from rfl) ?_
    refine ks_lcN_lt (tgt := 16) hx hb dX7_differenceAt_10 dX7_differenceAt_11 (by decide) (by omega) (by omega) (fun c_10 => ?_) (fun c_10 => ?_)
    · refine lv_lconst (v := lN 0) hx hb dX7_differenceAt_16 rfl ?_
      refine lv_lstore_n (lv' := [(3, .long (lN 0)), (0, .ref y_), (1, .int (nI 0)), (2, .int (nI i_))]) hx hb dX7_differenceAt_17 rfl hl (by decide) rfl (fun ls hl => ?_)
      refine lv_lconst (v := lN 1) hx hb dX7_differenceAt_18 rfl ?_
      refine lv_lstore (lv' := [(5, .long (lN 1)), (3, .long (lN 0)), (0, .ref y_), (1, .int (nI 0)), (2, .int (nI i_))]) hx hb dX7_differenceAt_19 hl (by decide) rfl (fun ls hl => ?_)
      refine lv_iconst (v := nI 0) hx hb dX7_differenceAt_21 (by decide) ?_
      refine lv_istore (lv' := [(7, .int (nI 0)), (5, .long (lN 1)), (3, .long (lN 0)), (0, .ref y_), (1, .int (nI 0)), (2, .int (nI i_))]) hx hb dX7_differenceAt_22 hl (by decide) rfl (fun ls hl => ?_)
      refine lv_iload hx hb dX7_differenceAt_24 (lv_at hl 0 rfl) ?_
      refine lv_iload_n hx hb dX7_differenceAt_26 rfl (lv_at hl 4 rfl) ?_
      refine ks_icmp_gt (tgt := 85) hx hb dX7_differenceAt_27 (by decide) (by omega) (by omega) (fun c_27 => ?_) (fun c_27 => ?_)
      · omega
      · refine lv_lload_n hx hb dX7_differenceAt_30 rfl (lv_at hl 2 rfl) ?_
        refine lv_iload_n hx hb dX7_differenceAt_31 rfl (lv_at hl 4 rfl) ?_
        refine lv_iload hx hb dX7_differenceAt_32 (lv_at hl 0 rfl) ?_
        refine ks_isubN hx hb dX7_differenceAt_34 (by omega) ?_
        refine lv_iconst (v := nI 2) hx hb dX7_differenceAt_35 (by decide) ?_
        refine ks_iremN hx hb dX7_differenceAt_36 (by omega) (by omega) (by omega) ?_
        refine ks_if_ne (tgt := 45) hx hb dX7_differenceAt_37 (by decide) (by omega) (fun c_37 => ?_) (fun c_37 => ?_)
        · omega
        · refine lv_lload hx hb dX7_differenceAt_40 (lv_at hl 1 rfl) ?_
          refine lv_goto (tgt := 48) hx hb dX7_differenceAt_42 (by decide) ?_
          refine lv_aload_n hx hb dX7_differenceAt_48 rfl (lv_at hl 3 rfl) ?_
          refine va_get (D := G.1) (ci := 7) (v := .ref (ca 0)) (C := RX7) (T := TX7) (N := 12) hx hb hts hin7 hown hK hP 0 rfl rfl 0 (by decide) (hts (.fieldLink RX7 7 "PowerTablesModel" "now" "[J") (List.mem_of_getElem? (i := 1) rfl)) (fun _ h9 => h9) rfl dX7_differenceAt_49 ?_
          refine lv_bipush (v := nI 23) hx hb dX7_differenceAt_52 (by decide) ?_
          refine lv_iload_n hx hb dX7_differenceAt_54 rfl (lv_at hl 5 rfl) ?_
          refine ks_iaddN hx hb dX7_differenceAt_55 ?_
          refine lv_iload hx hb dX7_differenceAt_56 (lv_at hl 0 rfl) ?_
          refine ks_iaddN hx hb dX7_differenceAt_58 ?_
          refine ks_lald hx hb hK hP 1 rfl (by omega) (by decide) dX7_differenceAt_59 ?_
          refine ks_vL (show mV T (23 + i_ + 0) = T.p (i_ + 0) from mV_p (j := i_ + 0) (by omega)) ?_
          refine lv_lmul hx hb dX7_differenceAt_60 ?_
          refine lv_ladd hx hb dX7_differenceAt_61 ?_
          refine lv_lstore_n (lv' := [(3, .long ((lN 0) + ((lN 1) * (T.p (i_ + 0))))), (7, .int (nI 0)), (5, .long (lN 1)), (0, .ref y_), (1, .int (nI 0)), (2, .int (nI i_))]) hx hb dX7_differenceAt_62 rfl hl (by decide) rfl (fun ls hl => ?_)
          refine lv_lload hx hb dX7_differenceAt_63 (lv_at hl 2 rfl) ?_
          refine lv_iload_n hx hb dX7_differenceAt_65 rfl (lv_at hl 4 rfl) ?_
          refine lv_iload hx hb dX7_differenceAt_66 (lv_at hl 1 rfl) ?_
          refine ks_isubN hx hb dX7_differenceAt_68 (by omega) ?_
          refine ks_i2lN hx hb dX7_differenceAt_69 (by omega) ?_
          refine ks_lmulN hx hb dX7_differenceAt_70 ?_
          refine lv_iload hx hb dX7_differenceAt_71 (lv_at hl 1 rfl) ?_
          refine lv_iconst (v := nI 1) hx hb dX7_differenceAt_73 (by decide) ?_
          refine ks_iaddN hx hb dX7_differenceAt_74 ?_
          refine ks_i2lN hx hb dX7_differenceAt_75 (by omega) ?_
          refine ks_ldivN hx hb dX7_differenceAt_76 (by omega) (by omega) (by omega) ?_
          refine lv_lstore (lv' := [(5, .long (lN 0)), (3, .long ((lN 0) + ((lN 1) * (T.p (i_ + 0))))), (7, .int (nI 0)), (0, .ref y_), (1, .int (nI 0)), (2, .int (nI i_))]) hx hb dX7_differenceAt_77 hl (by decide) rfl (fun ls hl => ?_)
          refine lv_iinc (v := nI 1) (lv' := [(7, .int (nI 1)), (5, .long (lN 0)), (3, .long ((lN 0) + ((lN 1) * (T.p (i_ + 0))))), (0, .ref y_), (1, .int (nI 0)), (2, .int (nI i_))]) hx hb dX7_differenceAt_79 hl (k := 2) rfl (ks_inc 0 1) (by decide) rfl (fun ls hl => ?_)
          refine lv_goto (tgt := 24) hx hb dX7_differenceAt_82 (by decide) ?_
          refine lv_iload hx hb dX7_differenceAt_24 (lv_at hl 0 rfl) ?_
          refine lv_iload_n hx hb dX7_differenceAt_26 rfl (lv_at hl 4 rfl) ?_
          refine ks_icmp_gt (tgt := 85) hx hb dX7_differenceAt_27 (by decide) (by omega) (by omega) (fun c_27 => ?_) (fun c_27 => ?_)
          · refine lv_lload_n hx hb dX7_differenceAt_85 rfl (lv_at hl 2 rfl) ?_
            exact cr_lret hx hb hr hlocks hK hP hD hS dX7_differenceAt_86 (by rw [hRR]; exact ctR_l ((rd0 T.p i_).trans (if_pos c_10).symm) (rfl))
          · omega
    · refine lv_lconst (v := lN 0) hx hb dX7_differenceAt_14 rfl ?_
      exact cr_lret hx hb hr hlocks hK hP hD hS dX7_differenceAt_15 (by rw [hRR]; exact ctR_l ((if_neg (by omega)).symm) (rfl))
  · refine lv_iload_n hx hb dX7_differenceAt_0 rfl (lv_at hl 2 rfl) ?_
    refine lv_iload_n hx hb dX7_differenceAt_1 rfl (lv_at hl 1 rfl) ?_
    refine ks_iaddN hx hb dX7_differenceAt_2 ?_
    refine ks_i2lN hx hb dX7_differenceAt_3 (by omega) ?_
    refine lv_aload_n hx hb dX7_differenceAt_4 rfl (lv_at hl 0 rfl) ?_
    refine va_get (D := G.1) (ci := 7) (v := .ref (ca 0)) (C := RX7) (T := TX7) (N := 12) hx hb hts hin7 hown hK hP 0 rfl rfl 0 (by decide) (hts (.fieldLink RX7 7 "PowerTablesModel" "now" "[J") (List.mem_of_getElem? (i := 1) rfl)) (fun _ h9 => h9) rfl dX7_differenceAt_5 ?_
    refine lv_iconst (v := nI 4) hx hb dX7_differenceAt_8 (by decide) ?_
    refine ks_lald hx hb hK hP 1 rfl (by omega) (by decide) dX7_differenceAt_9 ?_
    refine ks_vL (show mV T 4 = lN (T.s 4) from rfl) ?_
    refine ks_lcN_lt (tgt := 16) hx hb dX7_differenceAt_10 dX7_differenceAt_11 (by decide) (by omega) (by omega) (fun c_10 => ?_) (fun c_10 => ?_)
    · refine lv_lconst (v := lN 0) hx hb dX7_differenceAt_16 rfl ?_
      refine lv_lstore_n (lv' := [(3, .long (lN 0)), (0, .ref y_), (1, .int (nI 1)), (2, .int (nI i_))]) hx hb dX7_differenceAt_17 rfl hl (by decide) rfl (fun ls hl => ?_)
      refine lv_lconst (v := lN 1) hx hb dX7_differenceAt_18 rfl ?_
      refine lv_lstore (lv' := [(5, .long (lN 1)), (3, .long (lN 0)), (0, .ref y_), (1, .int (nI 1)), (2, .int (nI i_))]) hx hb dX7_differenceAt_19 hl (by decide) rfl (fun ls hl => ?_)
      refine lv_iconst (v := nI 0) hx hb dX7_differenceAt_21 (by decide) ?_
      refine lv_istore (lv' := [(7, .int (nI 0)), (5, .long (lN 1)), (3, .long (lN 0)), (0, .ref y_), (1, .int (nI 1)), (2, .int (nI i_))]) hx hb dX7_differenceAt_22 hl (by decide) rfl (fun ls hl => ?_)
      refine lv_iload hx hb dX7_differenceAt_24 (lv_at hl 0 rfl) ?_
      refine lv_iload_n hx hb dX7_differenceAt_26 rfl (lv_at hl 4 rfl) ?_
      refine ks_icmp_gt (tgt := 85) hx hb dX7_differenceAt_27 (by decide) (by omega) (by omega) (fun c_27 => ?_) (fun c_27 => ?_)
      · omega
      · refine lv_lload_n hx hb dX7_differenceAt_30 rfl (lv_at hl 2 rfl) ?_
        refine lv_iload_n hx hb dX7_differenceAt_31 rfl (lv_at hl 4 rfl) ?_
        refine lv_iload hx hb dX7_differenceAt_32 (lv_at hl 0 rfl) ?_
        refine ks_isubN hx hb dX7_differenceAt_34 (by omega) ?_
        refine lv_iconst (v := nI 2) hx hb dX7_differenceAt_35 (by decide) ?_
        refine ks_iremN hx hb dX7_differenceAt_36 (by omega) (by omega) (by omega) ?_
        refine ks_if_ne (tgt := 45) hx hb dX7_differenceAt_37 (by decide) (by omega) (fun c_37 => ?_) (fun c_37 => ?_)
        · refine lv_lload hx hb dX7_differenceAt_45 (lv_at hl 1 rfl) ?_
          refine lv_lneg hx hb dX7_differenceAt_47 ?_
          refine lv_aload_n hx hb dX7_differenceAt_48 rfl (lv_at hl 3 rfl) ?_
          refine va_get (D := G.1) (ci := 7) (v := .ref (ca 0)) (C := RX7) (T := TX7) (N := 12) hx hb hts hin7 hown hK hP 0 rfl rfl 0 (by decide) (hts (.fieldLink RX7 7 "PowerTablesModel" "now" "[J") (List.mem_of_getElem? (i := 1) rfl)) (fun _ h9 => h9) rfl dX7_differenceAt_49 ?_
          refine lv_bipush (v := nI 23) hx hb dX7_differenceAt_52 (by decide) ?_
          refine lv_iload_n hx hb dX7_differenceAt_54 rfl (lv_at hl 5 rfl) ?_
          refine ks_iaddN hx hb dX7_differenceAt_55 ?_
          refine lv_iload hx hb dX7_differenceAt_56 (lv_at hl 0 rfl) ?_
          refine ks_iaddN hx hb dX7_differenceAt_58 ?_
          refine ks_lald hx hb hK hP 1 rfl (by omega) (by decide) dX7_differenceAt_59 ?_
          refine ks_vL (show mV T (23 + i_ + 0) = T.p (i_ + 0) from mV_p (j := i_ + 0) (by omega)) ?_
          refine lv_lmul hx hb dX7_differenceAt_60 ?_
          refine lv_ladd hx hb dX7_differenceAt_61 ?_
          refine lv_lstore_n (lv' := [(3, .long ((lN 0) + ((-(lN 1)) * (T.p (i_ + 0))))), (7, .int (nI 0)), (5, .long (lN 1)), (0, .ref y_), (1, .int (nI 1)), (2, .int (nI i_))]) hx hb dX7_differenceAt_62 rfl hl (by decide) rfl (fun ls hl => ?_)
          refine lv_lload hx hb dX7_differenceAt_63 (lv_at hl 2 rfl) ?_
          refine lv_iload_n hx hb dX7_differenceAt_65 rfl (lv_at hl 4 rfl) ?_
          refine lv_iload hx hb dX7_differenceAt_66 (lv_at hl 1 rfl) ?_
          refine ks_isubN hx hb dX7_differenceAt_68 (by omega) ?_
          refine ks_i2lN hx hb dX7_differenceAt_69 (by omega) ?_
          refine ks_lmulN hx hb dX7_differenceAt_70 ?_
          refine lv_iload hx hb dX7_differenceAt_71 (lv_at hl 1 rfl) ?_
          refine lv_iconst (v := nI 1) hx hb dX7_differenceAt_73 (by decide) ?_
          refine ks_iaddN hx hb dX7_differenceAt_74 ?_
          refine ks_i2lN hx hb dX7_differenceAt_75 (by omega) ?_
          refine ks_ldivN hx hb dX7_differenceAt_76 (by omega) (by omega) (by omega) ?_
          refine lv_lstore (lv' := [(5, .long (lN 1)), (3, .long ((lN 0) + ((-(lN 1)) * (T.p (i_ + 0))))), (7, .int (nI 0)), (0, .ref y_), (1, .int (nI 1)), (2, .int (nI i_))]) hx hb dX7_differenceAt_77 hl (by decide) rfl (fun ls hl => ?_)
          refine lv_iinc (v := nI 1) (lv' := [(7, .int (nI 1)), (5, .long (lN 1)), (3, .long ((lN 0) + ((-(lN 1)) * (T.p (i_ + 0))))), (0, .ref y_), (1, .int (nI 1)), (2, .int (nI i_))]) hx hb dX7_differenceAt_79 hl (k := 2) rfl (ks_inc 0 1) (by decide) rfl (fun ls hl => ?_)
          refine lv_goto (tgt := 24) hx hb dX7_differenceAt_82 (by decide) ?_
          refine lv_iload hx hb dX7_differenceAt_24 (lv_at hl 0 rfl) ?_
          refine lv_iload_n hx hb dX7_differenceAt_26 rfl (lv_at hl 4 rfl) ?_
          refine ks_icmp_gt (tgt := 85) hx hb dX7_differenceAt_27 (by decide) (by omega) (by omega) (fun c_27 => ?_) (fun c_27 => ?_)
          · omega
          · refine lv_lload_n hx hb dX7_differenceAt_30 rfl (lv_at hl 2 rfl) ?_
            refine lv_iload_n hx hb dX7_differenceAt_31 rfl (lv_at hl 4 rfl) ?_
            refine lv_iload hx hb dX7_differenceAt_32 (lv_at hl 0 rfl) ?_
            refine ks_isubN hx hb dX7_differenceAt_34 (by omega) ?_
            refine lv_iconst (v := nI 2) hx hb dX7_differenceAt_35 (by decide) ?_
            refine ks_iremN hx hb dX7_differenceAt_36 (by omega) (by omega) (by omega) ?_
            refine ks_if_ne (tgt := 45) hx hb dX7_differenceAt_37 (by decide) (by omega) (fun c_37 => ?_) (fun c_37 => ?_)
            · omega
            · refine lv_lload hx hb dX7_differenceAt_40 (lv_at hl 1 rfl) ?_
              refine lv_goto (tgt := 48) hx hb dX7_differenceAt_42 (by decide) ?_
              refine lv_aload_n hx hb dX7_differenceAt_48 rfl (lv_at hl 3 rfl) ?_
              refine va_get (D := G.1) (ci := 7) (v := .ref (ca 0)) (C := RX7) (T := TX7) (N := 12) hx hb hts hin7 hown hK hP 0 rfl rfl 0 (by decide) (hts (.fieldLink RX7 7 "PowerTablesModel" "now" "[J") (List.mem_of_getElem? (i := 1) rfl)) (fun _ h9 => h9) rfl dX7_differenceAt_49 ?_
              refine lv_bipush (v := nI 23) hx hb dX7_differenceAt_52 (by decide) ?_
              refine lv_iload_n hx hb dX7_differenceAt_54 rfl (lv_at hl 5 rfl) ?_
              refine ks_iaddN hx hb dX7_differenceAt_55 ?_
              refine lv_iload hx hb dX7_differenceAt_56 (lv_at hl 0 rfl) ?_
              refine ks_iaddN hx hb dX7_differenceAt_58 ?_
              refine ks_lald hx hb hK hP 1 rfl (by omega) (by decide) dX7_differenceAt_59 ?_
              refine ks_vL (show mV T (23 + i_ + 1) = T.p (i_ + 1) from mV_p (j := i_ + 1) (by omega)) ?_
              refine lv_lmul hx hb dX7_differenceAt_60 ?_
              refine lv_ladd hx hb dX7_differenceAt_61 ?_
              refine lv_lstore_n (lv' := [(3, .long (((lN 0) + ((-(lN 1)) * (T.p (i_ + 0)))) + ((lN 1) * (T.p (i_ + 1))))), (7, .int (nI 1)), (5, .long (lN 1)), (0, .ref y_), (1, .int (nI 1)), (2, .int (nI i_))]) hx hb dX7_differenceAt_62 rfl hl (by decide) rfl (fun ls hl => ?_)
              refine lv_lload hx hb dX7_differenceAt_63 (lv_at hl 2 rfl) ?_
              refine lv_iload_n hx hb dX7_differenceAt_65 rfl (lv_at hl 4 rfl) ?_
              refine lv_iload hx hb dX7_differenceAt_66 (lv_at hl 1 rfl) ?_
              refine ks_isubN hx hb dX7_differenceAt_68 (by omega) ?_
              refine ks_i2lN hx hb dX7_differenceAt_69 (by omega) ?_
              refine ks_lmulN hx hb dX7_differenceAt_70 ?_
              refine lv_iload hx hb dX7_differenceAt_71 (lv_at hl 1 rfl) ?_
              refine lv_iconst (v := nI 1) hx hb dX7_differenceAt_73 (by decide) ?_
              refine ks_iaddN hx hb dX7_differenceAt_74 ?_
              refine ks_i2lN hx hb dX7_differenceAt_75 (by omega) ?_
              refine ks_ldivN hx hb dX7_differenceAt_76 (by omega) (by omega) (by omega) ?_
              refine lv_lstore (lv' := [(5, .long (lN 0)), (3, .long (((lN 0) + ((-(lN 1)) * (T.p (i_ + 0)))) + ((lN 1) * (T.p (i_ + 1))))), (7, .int (nI 1)), (0, .ref y_), (1, .int (nI 1)), (2, .int (nI i_))]) hx hb dX7_differenceAt_77 hl (by decide) rfl (fun ls hl => ?_)
              refine lv_iinc (v := nI 2) (lv' := [(7, .int (nI 2)), (5, .long (lN 0)), (3, .long (((lN 0) + ((-(lN 1)) * (T.p (i_ + 0)))) + ((lN 1) * (T.p (i_ + 1))))), (0, .ref y_), (1, .int (nI 1)), (2, .int (nI i_))]) hx hb dX7_differenceAt_79 hl (k := 2) rfl (ks_inc 1 1) (by decide) rfl (fun ls hl => ?_)
              refine lv_goto (tgt := 24) hx hb dX7_differenceAt_82 (by decide) ?_
              refine lv_iload hx hb dX7_differenceAt_24 (lv_at hl 0 rfl) ?_
              refine lv_iload_n hx hb dX7_differenceAt_26 rfl (lv_at hl 4 rfl) ?_
              refine ks_icmp_gt (tgt := 85) hx hb dX7_differenceAt_27 (by decide) (by omega) (by omega) (fun c_27 => ?_) (fun c_27 => ?_)
              · refine lv_lload_n hx hb dX7_differenceAt_85 rfl (lv_at hl 2 rfl) ?_
                exact cr_lret hx hb hr hlocks hK hP hD hS dX7_differenceAt_86 (by rw [hRR]; exact ctR_l ((rd1 T.p i_).trans (if_pos c_10).symm) (rfl))
              · omega
        · omega
    · refine lv_lconst (v := lN 0) hx hb dX7_differenceAt_14 rfl ?_
      exact cr_lret hx hb hr hlocks hK hP hD hS dX7_differenceAt_15 (by rw [hRR]; exact ctR_l ((if_neg (by omega)).symm) (rfl))
  · refine lv_iload_n hx hb dX7_differenceAt_0 rfl (lv_at hl 2 rfl) ?_
    refine lv_iload_n hx hb dX7_differenceAt_1 rfl (lv_at hl 1 rfl) ?_
    refine ks_iaddN hx hb dX7_differenceAt_2 ?_
    refine ks_i2lN hx hb dX7_differenceAt_3 (by omega) ?_
    refine lv_aload_n hx hb dX7_differenceAt_4 rfl (lv_at hl 0 rfl) ?_
    refine va_get (D := G.1) (ci := 7) (v := .ref (ca 0)) (C := RX7) (T := TX7) (N := 12) hx hb hts hin7 hown hK hP 0 rfl rfl 0 (by decide) (hts (.fieldLink RX7 7 "PowerTablesModel" "now" "[J") (List.mem_of_getElem? (i := 1) rfl)) (fun _ h9 => h9) rfl dX7_differenceAt_5 ?_
    refine lv_iconst (v := nI 4) hx hb dX7_differenceAt_8 (by decide) ?_
    refine ks_lald hx hb hK hP 1 rfl (by omega) (by decide) dX7_differenceAt_9 ?_
    refine ks_vL (show mV T 4 = lN (T.s 4) from rfl) ?_
    refine ks_lcN_lt (tgt := 16) hx hb dX7_differenceAt_10 dX7_differenceAt_11 (by decide) (by omega) (by omega) (fun c_10 => ?_) (fun c_10 => ?_)
    · refine lv_lconst (v := lN 0) hx hb dX7_differenceAt_16 rfl ?_
      refine lv_lstore_n (lv' := [(3, .long (lN 0)), (0, .ref y_), (1, .int (nI 2)), (2, .int (nI i_))]) hx hb dX7_differenceAt_17 rfl hl (by decide) rfl (fun ls hl => ?_)
      refine lv_lconst (v := lN 1) hx hb dX7_differenceAt_18 rfl ?_
      refine lv_lstore (lv' := [(5, .long (lN 1)), (3, .long (lN 0)), (0, .ref y_), (1, .int (nI 2)), (2, .int (nI i_))]) hx hb dX7_differenceAt_19 hl (by decide) rfl (fun ls hl => ?_)
      refine lv_iconst (v := nI 0) hx hb dX7_differenceAt_21 (by decide) ?_
      refine lv_istore (lv' := [(7, .int (nI 0)), (5, .long (lN 1)), (3, .long (lN 0)), (0, .ref y_), (1, .int (nI 2)), (2, .int (nI i_))]) hx hb dX7_differenceAt_22 hl (by decide) rfl (fun ls hl => ?_)
      refine lv_iload hx hb dX7_differenceAt_24 (lv_at hl 0 rfl) ?_
      refine lv_iload_n hx hb dX7_differenceAt_26 rfl (lv_at hl 4 rfl) ?_
      refine ks_icmp_gt (tgt := 85) hx hb dX7_differenceAt_27 (by decide) (by omega) (by omega) (fun c_27 => ?_) (fun c_27 => ?_)
      · omega
      · refine lv_lload_n hx hb dX7_differenceAt_30 rfl (lv_at hl 2 rfl) ?_
        refine lv_iload_n hx hb dX7_differenceAt_31 rfl (lv_at hl 4 rfl) ?_
        refine lv_iload hx hb dX7_differenceAt_32 (lv_at hl 0 rfl) ?_
        refine ks_isubN hx hb dX7_differenceAt_34 (by omega) ?_
        refine lv_iconst (v := nI 2) hx hb dX7_differenceAt_35 (by decide) ?_
        refine ks_iremN hx hb dX7_differenceAt_36 (by omega) (by omega) (by omega) ?_
        refine ks_if_ne (tgt := 45) hx hb dX7_differenceAt_37 (by decide) (by omega) (fun c_37 => ?_) (fun c_37 => ?_)
        · omega
        · refine lv_lload hx hb dX7_differenceAt_40 (lv_at hl 1 rfl) ?_
          refine lv_goto (tgt := 48) hx hb dX7_differenceAt_42 (by decide) ?_
          refine lv_aload_n hx hb dX7_differenceAt_48 rfl (lv_at hl 3 rfl) ?_
          refine va_get (D := G.1) (ci := 7) (v := .ref (ca 0)) (C := RX7) (T := TX7) (N := 12) hx hb hts hin7 hown hK hP 0 rfl rfl 0 (by decide) (hts (.fieldLink RX7 7 "PowerTablesModel" "now" "[J") (List.mem_of_getElem? (i := 1) rfl)) (fun _ h9 => h9) rfl dX7_differenceAt_49 ?_
          refine lv_bipush (v := nI 23) hx hb dX7_differenceAt_52 (by decide) ?_
          refine lv_iload_n hx hb dX7_differenceAt_54 rfl (lv_at hl 5 rfl) ?_
          refine ks_iaddN hx hb dX7_differenceAt_55 ?_
          refine lv_iload hx hb dX7_differenceAt_56 (lv_at hl 0 rfl) ?_
          refine ks_iaddN hx hb dX7_differenceAt_58 ?_
          refine ks_lald hx hb hK hP 1 rfl (by omega) (by decide) dX7_differenceAt_59 ?_
          refine ks_vL (show mV T (23 + i_ + 0) = T.p (i_ + 0) from mV_p (j := i_ + 0) (by omega)) ?_
          refine lv_lmul hx hb dX7_differenceAt_60 ?_
          refine lv_ladd hx hb dX7_differenceAt_61 ?_
          refine lv_lstore_n (lv' := [(3, .long ((lN 0) + ((lN 1) * (T.p (i_ + 0))))), (7, .int (nI 0)), (5, .long (lN 1)), (0, .ref y_), (1, .int (nI 2)), (2, .int (nI i_))]) hx hb dX7_differenceAt_62 rfl hl (by decide) rfl (fun ls hl => ?_)
          refine lv_lload hx hb dX7_differenceAt_63 (lv_at hl 2 rfl) ?_
          refine lv_iload_n hx hb dX7_differenceAt_65 rfl (lv_at hl 4 rfl) ?_
          refine lv_iload hx hb dX7_differenceAt_66 (lv_at hl 1 rfl) ?_
          refine ks_isubN hx hb dX7_differenceAt_68 (by omega) ?_
          refine ks_i2lN hx hb dX7_differenceAt_69 (by omega) ?_
          refine ks_lmulN hx hb dX7_differenceAt_70 ?_
          refine lv_iload hx hb dX7_differenceAt_71 (lv_at hl 1 rfl) ?_
          refine lv_iconst (v := nI 1) hx hb dX7_differenceAt_73 (by decide) ?_
          refine ks_iaddN hx hb dX7_differenceAt_74 ?_
          refine ks_i2lN hx hb dX7_differenceAt_75 (by omega) ?_
          refine ks_ldivN hx hb dX7_differenceAt_76 (by omega) (by omega) (by omega) ?_
          refine lv_lstore (lv' := [(5, .long (lN 2)), (3, .long ((lN 0) + ((lN 1) * (T.p (i_ + 0))))), (7, .int (nI 0)), (0, .ref y_), (1, .int (nI 2)), (2, .int (nI i_))]) hx hb dX7_differenceAt_77 hl (by decide) rfl (fun ls hl => ?_)
          refine lv_iinc (v := nI 1) (lv' := [(7, .int (nI 1)), (5, .long (lN 2)), (3, .long ((lN 0) + ((lN 1) * (T.p (i_ + 0))))), (0, .ref y_), (1, .int (nI 2)), (2, .int (nI i_))]) hx hb dX7_differenceAt_79 hl (k := 2) rfl (ks_inc 0 1) (by decide) rfl (fun ls hl => ?_)
          refine lv_goto (tgt := 24) hx hb dX7_differenceAt_82 (by decide) ?_
          refine lv_iload hx hb dX7_differenceAt_24 (lv_at hl 0 rfl) ?_
          refine lv_iload_n hx hb dX7_differenceAt_26 rfl (lv_at hl 4 rfl) ?_
          refine ks_icmp_gt (tgt := 85) hx hb dX7_differenceAt_27 (by decide) (by omega) (by omega) (fun c_27 => ?_) (fun c_27 => ?_)
          · omega
          · refine lv_lload_n hx hb dX7_differenceAt_30 rfl (lv_at hl 2 rfl) ?_
            refine lv_iload_n hx hb dX7_differenceAt_31 rfl (lv_at hl 4 rfl) ?_
            refine lv_iload hx hb dX7_differenceAt_32 (lv_at hl 0 rfl) ?_
            refine ks_isubN hx hb dX7_differenceAt_34 (by omega) ?_
            refine lv_iconst (v := nI 2) hx hb dX7_differenceAt_35 (by decide) ?_
            refine ks_iremN hx hb dX7_differenceAt_36 (by omega) (by omega) (by omega) ?_
            refine ks_if_ne (tgt := 45) hx hb dX7_differenceAt_37 (by decide) (by omega) (fun c_37 => ?_) (fun c_37 => ?_)
            · refine lv_lload hx hb dX7_differenceAt_45 (lv_at hl 1 rfl) ?_
              refine lv_lneg hx hb dX7_differenceAt_47 ?_
              refine lv_aload_n hx hb dX7_differenceAt_48 rfl (lv_at hl 3 rfl) ?_
              refine va_get (D := G.1) (ci := 7) (v := .ref (ca 0)) (C := RX7) (T := TX7) (N := 12) hx hb hts hin7 hown hK hP 0 rfl rfl 0 (by decide) (hts (.fieldLink RX7 7 "PowerTablesModel" "now" "[J") (List.mem_of_getElem? (i := 1) rfl)) (fun _ h9 => h9) rfl dX7_differenceAt_49 ?_
              refine lv_bipush (v := nI 23) hx hb dX7_differenceAt_52 (by decide) ?_
              refine lv_iload_n hx hb dX7_differenceAt_54 rfl (lv_at hl 5 rfl) ?_
              refine ks_iaddN hx hb dX7_differenceAt_55 ?_
              refine lv_iload hx hb dX7_differenceAt_56 (lv_at hl 0 rfl) ?_
              refine ks_iaddN hx hb dX7_differenceAt_58 ?_
              refine ks_lald hx hb hK hP 1 rfl (by omega) (by decide) dX7_differenceAt_59 ?_
              refine ks_vL (show mV T (23 + i_ + 1) = T.p (i_ + 1) from mV_p (j := i_ + 1) (by omega)) ?_
              refine lv_lmul hx hb dX7_differenceAt_60 ?_
              refine lv_ladd hx hb dX7_differenceAt_61 ?_
              refine lv_lstore_n (lv' := [(3, .long (((lN 0) + ((lN 1) * (T.p (i_ + 0)))) + ((-(lN 2)) * (T.p (i_ + 1))))), (7, .int (nI 1)), (5, .long (lN 2)), (0, .ref y_), (1, .int (nI 2)), (2, .int (nI i_))]) hx hb dX7_differenceAt_62 rfl hl (by decide) rfl (fun ls hl => ?_)
              refine lv_lload hx hb dX7_differenceAt_63 (lv_at hl 2 rfl) ?_
              refine lv_iload_n hx hb dX7_differenceAt_65 rfl (lv_at hl 4 rfl) ?_
              refine lv_iload hx hb dX7_differenceAt_66 (lv_at hl 1 rfl) ?_
              refine ks_isubN hx hb dX7_differenceAt_68 (by omega) ?_
              refine ks_i2lN hx hb dX7_differenceAt_69 (by omega) ?_
              refine ks_lmulN hx hb dX7_differenceAt_70 ?_
              refine lv_iload hx hb dX7_differenceAt_71 (lv_at hl 1 rfl) ?_
              refine lv_iconst (v := nI 1) hx hb dX7_differenceAt_73 (by decide) ?_
              refine ks_iaddN hx hb dX7_differenceAt_74 ?_
              refine ks_i2lN hx hb dX7_differenceAt_75 (by omega) ?_
              refine ks_ldivN hx hb dX7_differenceAt_76 (by omega) (by omega) (by omega) ?_
              refine lv_lstore (lv' := [(5, .long (lN 1)), (3, .long (((lN 0) + ((lN 1) * (T.p (i_ + 0)))) + ((-(lN 2)) * (T.p (i_ + 1))))), (7, .int (nI 1)), (0, .ref y_), (1, .int (nI 2)), (2, .int (nI i_))]) hx hb dX7_differenceAt_77 hl (by decide) rfl (fun ls hl => ?_)
              refine lv_iinc (v := nI 2) (lv' := [(7, .int (nI 2)), (5, .long (lN 1)), (3, .long (((lN 0) + ((lN 1) * (T.p (i_ + 0)))) + ((-(lN 2)) * (T.p (i_ + 1))))), (0, .ref y_), (1, .int (nI 2)), (2, .int (nI i_))]) hx hb dX7_differenceAt_79 hl (k := 2) rfl (ks_inc 1 1) (by decide) rfl (fun ls hl => ?_)
              refine lv_goto (tgt := 24) hx hb dX7_differenceAt_82 (by decide) ?_
              refine lv_iload hx hb dX7_differenceAt_24 (lv_at hl 0 rfl) ?_
              refine lv_iload_n hx hb dX7_differenceAt_26 rfl (lv_at hl 4 rfl) ?_
              refine ks_icmp_gt (tgt := 85) hx hb dX7_differenceAt_27 (by decide) (by omega) (by omega) (fun c_27 => ?_) (fun c_27 => ?_)
              · omega
              · refine lv_lload_n hx hb dX7_differenceAt_30 rfl (lv_at hl 2 rfl) ?_
                refine lv_iload_n hx hb dX7_differenceAt_31 rfl (lv_at hl 4 rfl) ?_
                refine lv_iload hx hb dX7_differenceAt_32 (lv_at hl 0 rfl) ?_
                refine ks_isubN hx hb dX7_differenceAt_34 (by omega) ?_
                refine lv_iconst (v := nI 2) hx hb dX7_differenceAt_35 (by decide) ?_
                refine ks_iremN hx hb dX7_differenceAt_36 (by omega) (by omega) (by omega) ?_
                refine ks_if_ne (tgt := 45) hx hb dX7_differenceAt_37 (by decide) (by omega) (fun c_37 => ?_) (fun c_37 => ?_)
                · omega
                · refine lv_lload hx hb dX7_differenceAt_40 (lv_at hl 1 rfl) ?_
                  refine lv_goto (tgt := 48) hx hb dX7_differenceAt_42 (by decide) ?_
                  refine lv_aload_n hx hb dX7_differenceAt_48 rfl (lv_at hl 3 rfl) ?_
                  refine va_get (D := G.1) (ci := 7) (v := .ref (ca 0)) (C := RX7) (T := TX7) (N := 12) hx hb hts hin7 hown hK hP 0 rfl rfl 0 (by decide) (hts (.fieldLink RX7 7 "PowerTablesModel" "now" "[J") (List.mem_of_getElem? (i := 1) rfl)) (fun _ h9 => h9) rfl dX7_differenceAt_49 ?_
                  refine lv_bipush (v := nI 23) hx hb dX7_differenceAt_52 (by decide) ?_
                  refine lv_iload_n hx hb dX7_differenceAt_54 rfl (lv_at hl 5 rfl) ?_
                  refine ks_iaddN hx hb dX7_differenceAt_55 ?_
                  refine lv_iload hx hb dX7_differenceAt_56 (lv_at hl 0 rfl) ?_
                  refine ks_iaddN hx hb dX7_differenceAt_58 ?_
                  refine ks_lald hx hb hK hP 1 rfl (by omega) (by decide) dX7_differenceAt_59 ?_
                  refine ks_vL (show mV T (23 + i_ + 2) = T.p (i_ + 2) from mV_p (j := i_ + 2) (by omega)) ?_
                  refine lv_lmul hx hb dX7_differenceAt_60 ?_
                  refine lv_ladd hx hb dX7_differenceAt_61 ?_
                  refine lv_lstore_n (lv' := [(3, .long ((((lN 0) + ((lN 1) * (T.p (i_ + 0)))) + ((-(lN 2)) * (T.p (i_ + 1)))) + ((lN 1) * (T.p (i_ + 2))))), (7, .int (nI 2)), (5, .long (lN 1)), (0, .ref y_), (1, .int (nI 2)), (2, .int (nI i_))]) hx hb dX7_differenceAt_62 rfl hl (by decide) rfl (fun ls hl => ?_)
                  refine lv_lload hx hb dX7_differenceAt_63 (lv_at hl 2 rfl) ?_
                  refine lv_iload_n hx hb dX7_differenceAt_65 rfl (lv_at hl 4 rfl) ?_
                  refine lv_iload hx hb dX7_differenceAt_66 (lv_at hl 1 rfl) ?_
                  refine ks_isubN hx hb dX7_differenceAt_68 (by omega) ?_
                  refine ks_i2lN hx hb dX7_differenceAt_69 (by omega) ?_
                  refine ks_lmulN hx hb dX7_differenceAt_70 ?_
                  refine lv_iload hx hb dX7_differenceAt_71 (lv_at hl 1 rfl) ?_
                  refine lv_iconst (v := nI 1) hx hb dX7_differenceAt_73 (by decide) ?_
                  refine ks_iaddN hx hb dX7_differenceAt_74 ?_
                  refine ks_i2lN hx hb dX7_differenceAt_75 (by omega) ?_
                  refine ks_ldivN hx hb dX7_differenceAt_76 (by omega) (by omega) (by omega) ?_
                  refine lv_lstore (lv' := [(5, .long (lN 0)), (3, .long ((((lN 0) + ((lN 1) * (T.p (i_ + 0)))) + ((-(lN 2)) * (T.p (i_ + 1)))) + ((lN 1) * (T.p (i_ + 2))))), (7, .int (nI 2)), (0, .ref y_), (1, .int (nI 2)), (2, .int (nI i_))]) hx hb dX7_differenceAt_77 hl (by decide) rfl (fun ls hl => ?_)
                  refine lv_iinc (v := nI 3) (lv' := [(7, .int (nI 3)), (5, .long (lN 0)), (3, .long ((((lN 0) + ((lN 1) * (T.p (i_ + 0)))) + ((-(lN 2)) * (T.p (i_ + 1)))) + ((lN 1) * (T.p (i_ + 2))))), (0, .ref y_), (1, .int (nI 2)), (2, .int (nI i_))]) hx hb dX7_differenceAt_79 hl (k := 2) rfl (ks_inc 2 1) (by decide) rfl (fun ls hl => ?_)
                  refine lv_goto (tgt := 24) hx hb dX7_differenceAt_82 (by decide) ?_
                  refine lv_iload hx hb dX7_differenceAt_24 (lv_at hl 0 rfl) ?_
                  refine lv_iload_n hx hb dX7_differenceAt_26 rfl (lv_at hl 4 rfl) ?_
                  refine ks_icmp_gt (tgt := 85) hx hb dX7_differenceAt_27 (by decide) (by omega) (by omega) (fun c_27 => ?_) (fun c_27 => ?_)
                  · refine lv_lload_n hx hb dX7_differenceAt_85 rfl (lv_at hl 2 rfl) ?_
                    exact cr_lret hx hb hr hlocks hK hP hD hS dX7_differenceAt_86 (by rw [hRR]; exact ctR_l ((rd2 T.p i_).trans (if_pos c_10).symm) (rfl))
                  · omega
            · omega
    · refine lv_lconst (v := lN 0) hx hb dX7_differenceAt_14 rfl ?_
      exact cr_lret hx hb hr hlocks hK hP hD hS dX7_differenceAt_15 (by rw [hRR]; exact ctR_l ((if_neg (by omega)).symm) (rfl))
  · refine lv_iload_n hx hb dX7_differenceAt_0 rfl (lv_at hl 2 rfl) ?_
    refine lv_iload_n hx hb dX7_differenceAt_1 rfl (lv_at hl 1 rfl) ?_
    refine ks_iaddN hx hb dX7_differenceAt_2 ?_
    refine ks_i2lN hx hb dX7_differenceAt_3 (by omega) ?_
    refine lv_aload_n hx hb dX7_differenceAt_4 rfl (lv_at hl 0 rfl) ?_
    refine va_get (D := G.1) (ci := 7) (v := .ref (ca 0)) (C := RX7) (T := TX7) (N := 12) hx hb hts hin7 hown hK hP 0 rfl rfl 0 (by decide) (hts (.fieldLink RX7 7 "PowerTablesModel" "now" "[J") (List.mem_of_getElem? (i := 1) rfl)) (fun _ h9 => h9) rfl dX7_differenceAt_5 ?_
    refine lv_iconst (v := nI 4) hx hb dX7_differenceAt_8 (by decide) ?_
    refine ks_lald hx hb hK hP 1 rfl (by omega) (by decide) dX7_differenceAt_9 ?_
    refine ks_vL (show mV T 4 = lN (T.s 4) from rfl) ?_
    refine ks_lcN_lt (tgt := 16) hx hb dX7_differenceAt_10 dX7_differenceAt_11 (by decide) (by omega) (by omega) (fun c_10 => ?_) (fun c_10 => ?_)
    · refine lv_lconst (v := lN 0) hx hb dX7_differenceAt_16 rfl ?_
      refine lv_lstore_n (lv' := [(3, .long (lN 0)), (0, .ref y_), (1, .int (nI 3)), (2, .int (nI i_))]) hx hb dX7_differenceAt_17 rfl hl (by decide) rfl (fun ls hl => ?_)
      refine lv_lconst (v := lN 1) hx hb dX7_differenceAt_18 rfl ?_
      refine lv_lstore (lv' := [(5, .long (lN 1)), (3, .long (lN 0)), (0, .ref y_), (1, .int (nI 3)), (2, .int (nI i_))]) hx hb dX7_differenceAt_19 hl (by decide) rfl (fun ls hl => ?_)
      refine lv_iconst (v := nI 0) hx hb dX7_differenceAt_21 (by decide) ?_
      refine lv_istore (lv' := [(7, .int (nI 0)), (5, .long (lN 1)), (3, .long (lN 0)), (0, .ref y_), (1, .int (nI 3)), (2, .int (nI i_))]) hx hb dX7_differenceAt_22 hl (by decide) rfl (fun ls hl => ?_)
      refine lv_iload hx hb dX7_differenceAt_24 (lv_at hl 0 rfl) ?_
      refine lv_iload_n hx hb dX7_differenceAt_26 rfl (lv_at hl 4 rfl) ?_
      refine ks_icmp_gt (tgt := 85) hx hb dX7_differenceAt_27 (by decide) (by omega) (by omega) (fun c_27 => ?_) (fun c_27 => ?_)
      · omega
      · refine lv_lload_n hx hb dX7_differenceAt_30 rfl (lv_at hl 2 rfl) ?_
        refine lv_iload_n hx hb dX7_differenceAt_31 rfl (lv_at hl 4 rfl) ?_
        refine lv_iload hx hb dX7_differenceAt_32 (lv_at hl 0 rfl) ?_
        refine ks_isubN hx hb dX7_differenceAt_34 (by omega) ?_
        refine lv_iconst (v := nI 2) hx hb dX7_differenceAt_35 (by decide) ?_
        refine ks_iremN hx hb dX7_differenceAt_36 (by omega) (by omega) (by omega) ?_
        refine ks_if_ne (tgt := 45) hx hb dX7_differenceAt_37 (by decide) (by omega) (fun c_37 => ?_) (fun c_37 => ?_)
        · refine lv_lload hx hb dX7_differenceAt_45 (lv_at hl 1 rfl) ?_
          refine lv_lneg hx hb dX7_differenceAt_47 ?_
          refine lv_aload_n hx hb dX7_differenceAt_48 rfl (lv_at hl 3 rfl) ?_
          refine va_get (D := G.1) (ci := 7) (v := .ref (ca 0)) (C := RX7) (T := TX7) (N := 12) hx hb hts hin7 hown hK hP 0 rfl rfl 0 (by decide) (hts (.fieldLink RX7 7 "PowerTablesModel" "now" "[J") (List.mem_of_getElem? (i := 1) rfl)) (fun _ h9 => h9) rfl dX7_differenceAt_49 ?_
          refine lv_bipush (v := nI 23) hx hb dX7_differenceAt_52 (by decide) ?_
          refine lv_iload_n hx hb dX7_differenceAt_54 rfl (lv_at hl 5 rfl) ?_
          refine ks_iaddN hx hb dX7_differenceAt_55 ?_
          refine lv_iload hx hb dX7_differenceAt_56 (lv_at hl 0 rfl) ?_
          refine ks_iaddN hx hb dX7_differenceAt_58 ?_
          refine ks_lald hx hb hK hP 1 rfl (by omega) (by decide) dX7_differenceAt_59 ?_
          refine ks_vL (show mV T (23 + i_ + 0) = T.p (i_ + 0) from mV_p (j := i_ + 0) (by omega)) ?_
          refine lv_lmul hx hb dX7_differenceAt_60 ?_
          refine lv_ladd hx hb dX7_differenceAt_61 ?_
          refine lv_lstore_n (lv' := [(3, .long ((lN 0) + ((-(lN 1)) * (T.p (i_ + 0))))), (7, .int (nI 0)), (5, .long (lN 1)), (0, .ref y_), (1, .int (nI 3)), (2, .int (nI i_))]) hx hb dX7_differenceAt_62 rfl hl (by decide) rfl (fun ls hl => ?_)
          refine lv_lload hx hb dX7_differenceAt_63 (lv_at hl 2 rfl) ?_
          refine lv_iload_n hx hb dX7_differenceAt_65 rfl (lv_at hl 4 rfl) ?_
          refine lv_iload hx hb dX7_differenceAt_66 (lv_at hl 1 rfl) ?_
          refine ks_isubN hx hb dX7_differenceAt_68 (by omega) ?_
          refine ks_i2lN hx hb dX7_differenceAt_69 (by omega) ?_
          refine ks_lmulN hx hb dX7_differenceAt_70 ?_
          refine lv_iload hx hb dX7_differenceAt_71 (lv_at hl 1 rfl) ?_
          refine lv_iconst (v := nI 1) hx hb dX7_differenceAt_73 (by decide) ?_
          refine ks_iaddN hx hb dX7_differenceAt_74 ?_
          refine ks_i2lN hx hb dX7_differenceAt_75 (by omega) ?_
          refine ks_ldivN hx hb dX7_differenceAt_76 (by omega) (by omega) (by omega) ?_
          refine lv_lstore (lv' := [(5, .long (lN 3)), (3, .long ((lN 0) + ((-(lN 1)) * (T.p (i_ + 0))))), (7, .int (nI 0)), (0, .ref y_), (1, .int (nI 3)), (2, .int (nI i_))]) hx hb dX7_differenceAt_77 hl (by decide) rfl (fun ls hl => ?_)
          refine lv_iinc (v := nI 1) (lv' := [(7, .int (nI 1)), (5, .long (lN 3)), (3, .long ((lN 0) + ((-(lN 1)) * (T.p (i_ + 0))))), (0, .ref y_), (1, .int (nI 3)), (2, .int (nI i_))]) hx hb dX7_differenceAt_79 hl (k := 2) rfl (ks_inc 0 1) (by decide) rfl (fun ls hl => ?_)
          refine lv_goto (tgt := 24) hx hb dX7_differenceAt_82 (by decide) ?_
          refine lv_iload hx hb dX7_differenceAt_24 (lv_at hl 0 rfl) ?_
          refine lv_iload_n hx hb dX7_differenceAt_26 rfl (lv_at hl 4 rfl) ?_
          refine ks_icmp_gt (tgt := 85) hx hb dX7_differenceAt_27 (by decide) (by omega) (by omega) (fun c_27 => ?_) (fun c_27 => ?_)
          · omega
          · refine lv_lload_n hx hb dX7_differenceAt_30 rfl (lv_at hl 2 rfl) ?_
            refine lv_iload_n hx hb dX7_differenceAt_31 rfl (lv_at hl 4 rfl) ?_
            refine lv_iload hx hb dX7_differenceAt_32 (lv_at hl 0 rfl) ?_
            refine ks_isubN hx hb dX7_differenceAt_34 (by omega) ?_
            refine lv_iconst (v := nI 2) hx hb dX7_differenceAt_35 (by decide) ?_
            refine ks_iremN hx hb dX7_differenceAt_36 (by omega) (by omega) (by omega) ?_
            refine ks_if_ne (tgt := 45) hx hb dX7_differenceAt_37 (by decide) (by omega) (fun c_37 => ?_) (fun c_37 => ?_)
            · omega
            · refine lv_lload hx hb dX7_differenceAt_40 (lv_at hl 1 rfl) ?_
              refine lv_goto (tgt := 48) hx hb dX7_differenceAt_42 (by decide) ?_
              refine lv_aload_n hx hb dX7_differenceAt_48 rfl (lv_at hl 3 rfl) ?_
              refine va_get (D := G.1) (ci := 7) (v := .ref (ca 0)) (C := RX7) (T := TX7) (N := 12) hx hb hts hin7 hown hK hP 0 rfl rfl 0 (by decide) (hts (.fieldLink RX7 7 "PowerTablesModel" "now" "[J") (List.mem_of_getElem? (i := 1) rfl)) (fun _ h9 => h9) rfl dX7_differenceAt_49 ?_
              refine lv_bipush (v := nI 23) hx hb dX7_differenceAt_52 (by decide) ?_
              refine lv_iload_n hx hb dX7_differenceAt_54 rfl (lv_at hl 5 rfl) ?_
              refine ks_iaddN hx hb dX7_differenceAt_55 ?_
              refine lv_iload hx hb dX7_differenceAt_56 (lv_at hl 0 rfl) ?_
              refine ks_iaddN hx hb dX7_differenceAt_58 ?_
              refine ks_lald hx hb hK hP 1 rfl (by omega) (by decide) dX7_differenceAt_59 ?_
              refine ks_vL (show mV T (23 + i_ + 1) = T.p (i_ + 1) from mV_p (j := i_ + 1) (by omega)) ?_
              refine lv_lmul hx hb dX7_differenceAt_60 ?_
              refine lv_ladd hx hb dX7_differenceAt_61 ?_
              refine lv_lstore_n (lv' := [(3, .long (((lN 0) + ((-(lN 1)) * (T.p (i_ + 0)))) + ((lN 3) * (T.p (i_ + 1))))), (7, .int (nI 1)), (5, .long (lN 3)), (0, .ref y_), (1, .int (nI 3)), (2, .int (nI i_))]) hx hb dX7_differenceAt_62 rfl hl (by decide) rfl (fun ls hl => ?_)
              refine lv_lload hx hb dX7_differenceAt_63 (lv_at hl 2 rfl) ?_
              refine lv_iload_n hx hb dX7_differenceAt_65 rfl (lv_at hl 4 rfl) ?_
              refine lv_iload hx hb dX7_differenceAt_66 (lv_at hl 1 rfl) ?_
              refine ks_isubN hx hb dX7_differenceAt_68 (by omega) ?_
              refine ks_i2lN hx hb dX7_differenceAt_69 (by omega) ?_
              refine ks_lmulN hx hb dX7_differenceAt_70 ?_
              refine lv_iload hx hb dX7_differenceAt_71 (lv_at hl 1 rfl) ?_
              refine lv_iconst (v := nI 1) hx hb dX7_differenceAt_73 (by decide) ?_
              refine ks_iaddN hx hb dX7_differenceAt_74 ?_
              refine ks_i2lN hx hb dX7_differenceAt_75 (by omega) ?_
              refine ks_ldivN hx hb dX7_differenceAt_76 (by omega) (by omega) (by omega) ?_
              refine lv_lstore (lv' := [(5, .long (lN 3)), (3, .long (((lN 0) + ((-(lN 1)) * (T.p (i_ + 0)))) + ((lN 3) * (T.p (i_ + 1))))), (7, .int (nI 1)), (0, .ref y_), (1, .int (nI 3)), (2, .int (nI i_))]) hx hb dX7_differenceAt_77 hl (by decide) rfl (fun ls hl => ?_)
              refine lv_iinc (v := nI 2) (lv' := [(7, .int (nI 2)), (5, .long (lN 3)), (3, .long (((lN 0) + ((-(lN 1)) * (T.p (i_ + 0)))) + ((lN 3) * (T.p (i_ + 1))))), (0, .ref y_), (1, .int (nI 3)), (2, .int (nI i_))]) hx hb dX7_differenceAt_79 hl (k := 2) rfl (ks_inc 1 1) (by decide) rfl (fun ls hl => ?_)
              refine lv_goto (tgt := 24) hx hb dX7_differenceAt_82 (by decide) ?_
              refine lv_iload hx hb dX7_differenceAt_24 (lv_at hl 0 rfl) ?_
              refine lv_iload_n hx hb dX7_differenceAt_26 rfl (lv_at hl 4 rfl) ?_
              refine ks_icmp_gt (tgt := 85) hx hb dX7_differenceAt_27 (by decide) (by omega) (by omega) (fun c_27 => ?_) (fun c_27 => ?_)
              · omega
              · refine lv_lload_n hx hb dX7_differenceAt_30 rfl (lv_at hl 2 rfl) ?_
                refine lv_iload_n hx hb dX7_differenceAt_31 rfl (lv_at hl 4 rfl) ?_
                refine lv_iload hx hb dX7_differenceAt_32 (lv_at hl 0 rfl) ?_
                refine ks_isubN hx hb dX7_differenceAt_34 (by omega) ?_
                refine lv_iconst (v := nI 2) hx hb dX7_differenceAt_35 (by decide) ?_
                refine ks_iremN hx hb dX7_differenceAt_36 (by omega) (by omega) (by omega) ?_
                refine ks_if_ne (tgt := 45) hx hb dX7_differenceAt_37 (by decide) (by omega) (fun c_37 => ?_) (fun c_37 => ?_)
                · refine lv_lload hx hb dX7_differenceAt_45 (lv_at hl 1 rfl) ?_
                  refine lv_lneg hx hb dX7_differenceAt_47 ?_
                  refine lv_aload_n hx hb dX7_differenceAt_48 rfl (lv_at hl 3 rfl) ?_
                  refine va_get (D := G.1) (ci := 7) (v := .ref (ca 0)) (C := RX7) (T := TX7) (N := 12) hx hb hts hin7 hown hK hP 0 rfl rfl 0 (by decide) (hts (.fieldLink RX7 7 "PowerTablesModel" "now" "[J") (List.mem_of_getElem? (i := 1) rfl)) (fun _ h9 => h9) rfl dX7_differenceAt_49 ?_
                  refine lv_bipush (v := nI 23) hx hb dX7_differenceAt_52 (by decide) ?_
                  refine lv_iload_n hx hb dX7_differenceAt_54 rfl (lv_at hl 5 rfl) ?_
                  refine ks_iaddN hx hb dX7_differenceAt_55 ?_
                  refine lv_iload hx hb dX7_differenceAt_56 (lv_at hl 0 rfl) ?_
                  refine ks_iaddN hx hb dX7_differenceAt_58 ?_
                  refine ks_lald hx hb hK hP 1 rfl (by omega) (by decide) dX7_differenceAt_59 ?_
                  refine ks_vL (show mV T (23 + i_ + 2) = T.p (i_ + 2) from mV_p (j := i_ + 2) (by omega)) ?_
                  refine lv_lmul hx hb dX7_differenceAt_60 ?_
                  refine lv_ladd hx hb dX7_differenceAt_61 ?_
                  refine lv_lstore_n (lv' := [(3, .long ((((lN 0) + ((-(lN 1)) * (T.p (i_ + 0)))) + ((lN 3) * (T.p (i_ + 1)))) + ((-(lN 3)) * (T.p (i_ + 2))))), (7, .int (nI 2)), (5, .long (lN 3)), (0, .ref y_), (1, .int (nI 3)), (2, .int (nI i_))]) hx hb dX7_differenceAt_62 rfl hl (by decide) rfl (fun ls hl => ?_)
                  refine lv_lload hx hb dX7_differenceAt_63 (lv_at hl 2 rfl) ?_
                  refine lv_iload_n hx hb dX7_differenceAt_65 rfl (lv_at hl 4 rfl) ?_
                  refine lv_iload hx hb dX7_differenceAt_66 (lv_at hl 1 rfl) ?_
                  refine ks_isubN hx hb dX7_differenceAt_68 (by omega) ?_
                  refine ks_i2lN hx hb dX7_differenceAt_69 (by omega) ?_
                  refine ks_lmulN hx hb dX7_differenceAt_70 ?_
                  refine lv_iload hx hb dX7_differenceAt_71 (lv_at hl 1 rfl) ?_
                  refine lv_iconst (v := nI 1) hx hb dX7_differenceAt_73 (by decide) ?_
                  refine ks_iaddN hx hb dX7_differenceAt_74 ?_
                  refine ks_i2lN hx hb dX7_differenceAt_75 (by omega) ?_
                  refine ks_ldivN hx hb dX7_differenceAt_76 (by omega) (by omega) (by omega) ?_
                  refine lv_lstore (lv' := [(5, .long (lN 1)), (3, .long ((((lN 0) + ((-(lN 1)) * (T.p (i_ + 0)))) + ((lN 3) * (T.p (i_ + 1)))) + ((-(lN 3)) * (T.p (i_ + 2))))), (7, .int (nI 2)), (0, .ref y_), (1, .int (nI 3)), (2, .int (nI i_))]) hx hb dX7_differenceAt_77 hl (by decide) rfl (fun ls hl => ?_)
                  refine lv_iinc (v := nI 3) (lv' := [(7, .int (nI 3)), (5, .long (lN 1)), (3, .long ((((lN 0) + ((-(lN 1)) * (T.p (i_ + 0)))) + ((lN 3) * (T.p (i_ + 1)))) + ((-(lN 3)) * (T.p (i_ + 2))))), (0, .ref y_), (1, .int (nI 3)), (2, .int (nI i_))]) hx hb dX7_differenceAt_79 hl (k := 2) rfl (ks_inc 2 1) (by decide) rfl (fun ls hl => ?_)
                  refine lv_goto (tgt := 24) hx hb dX7_differenceAt_82 (by decide) ?_
                  refine lv_iload hx hb dX7_differenceAt_24 (lv_at hl 0 rfl) ?_
                  refine lv_iload_n hx hb dX7_differenceAt_26 rfl (lv_at hl 4 rfl) ?_
                  refine ks_icmp_gt (tgt := 85) hx hb dX7_differenceAt_27 (by decide) (by omega) (by omega) (fun c_27 => ?_) (fun c_27 => ?_)
                  · omega
                  · refine lv_lload_n hx hb dX7_differenceAt_30 rfl (lv_at hl 2 rfl) ?_
                    refine lv_iload_n hx hb dX7_differenceAt_31 rfl (lv_at hl 4 rfl) ?_
                    refine lv_iload hx hb dX7_differenceAt_32 (lv_at hl 0 rfl) ?_
                    refine ks_isubN hx hb dX7_differenceAt_34 (by omega) ?_
                    refine lv_iconst (v := nI 2) hx hb dX7_differenceAt_35 (by decide) ?_
                    refine ks_iremN hx hb dX7_differenceAt_36 (by omega) (by omega) (by omega) ?_
                    refine ks_if_ne (tgt := 45) hx hb dX7_differenceAt_37 (by decide) (by omega) (fun c_37 => ?_) (fun c_37 => ?_)
                    · omega
                    · refine lv_lload hx hb dX7_differenceAt_40 (lv_at hl 1 rfl) ?_
                      refine lv_goto (tgt := 48) hx hb dX7_differenceAt_42 (by decide) ?_
                      refine lv_aload_n hx hb dX7_differenceAt_48 rfl (lv_at hl 3 rfl) ?_
                      refine va_get (D := G.1) (ci := 7) (v := .ref (ca 0)) (C := RX7) (T := TX7) (N := 12) hx hb hts hin7 hown hK hP 0 rfl rfl 0 (by decide) (hts (.fieldLink RX7 7 "PowerTablesModel" "now" "[J") (List.mem_of_getElem? (i := 1) rfl)) (fun _ h9 => h9) rfl dX7_differenceAt_49 ?_
                      refine lv_bipush (v := nI 23) hx hb dX7_differenceAt_52 (by decide) ?_
                      refine lv_iload_n hx hb dX7_differenceAt_54 rfl (lv_at hl 5 rfl) ?_
                      refine ks_iaddN hx hb dX7_differenceAt_55 ?_
                      refine lv_iload hx hb dX7_differenceAt_56 (lv_at hl 0 rfl) ?_
                      refine ks_iaddN hx hb dX7_differenceAt_58 ?_
                      refine ks_lald hx hb hK hP 1 rfl (by omega) (by decide) dX7_differenceAt_59 ?_
                      refine ks_vL (show mV T (23 + i_ + 3) = T.p (i_ + 3) from mV_p (j := i_ + 3) (by omega)) ?_
                      refine lv_lmul hx hb dX7_differenceAt_60 ?_
                      refine lv_ladd hx hb dX7_differenceAt_61 ?_
                      refine lv_lstore_n (lv' := [(3, .long (((((lN 0) + ((-(lN 1)) * (T.p (i_ + 0)))) + ((lN 3) * (T.p (i_ + 1)))) + ((-(lN 3)) * (T.p (i_ + 2)))) + ((lN 1) * (T.p (i_ + 3))))), (7, .int (nI 3)), (5, .long (lN 1)), (0, .ref y_), (1, .int (nI 3)), (2, .int (nI i_))]) hx hb dX7_differenceAt_62 rfl hl (by decide) rfl (fun ls hl => ?_)
                      refine lv_lload hx hb dX7_differenceAt_63 (lv_at hl 2 rfl) ?_
                      refine lv_iload_n hx hb dX7_differenceAt_65 rfl (lv_at hl 4 rfl) ?_
                      refine lv_iload hx hb dX7_differenceAt_66 (lv_at hl 1 rfl) ?_
                      refine ks_isubN hx hb dX7_differenceAt_68 (by omega) ?_
                      refine ks_i2lN hx hb dX7_differenceAt_69 (by omega) ?_
                      refine ks_lmulN hx hb dX7_differenceAt_70 ?_
                      refine lv_iload hx hb dX7_differenceAt_71 (lv_at hl 1 rfl) ?_
                      refine lv_iconst (v := nI 1) hx hb dX7_differenceAt_73 (by decide) ?_
                      refine ks_iaddN hx hb dX7_differenceAt_74 ?_
                      refine ks_i2lN hx hb dX7_differenceAt_75 (by omega) ?_
                      refine ks_ldivN hx hb dX7_differenceAt_76 (by omega) (by omega) (by omega) ?_
                      refine lv_lstore (lv' := [(5, .long (lN 0)), (3, .long (((((lN 0) + ((-(lN 1)) * (T.p (i_ + 0)))) + ((lN 3) * (T.p (i_ + 1)))) + ((-(lN 3)) * (T.p (i_ + 2)))) + ((lN 1) * (T.p (i_ + 3))))), (7, .int (nI 3)), (0, .ref y_), (1, .int (nI 3)), (2, .int (nI i_))]) hx hb dX7_differenceAt_77 hl (by decide) rfl (fun ls hl => ?_)
                      refine lv_iinc (v := nI 4) (lv' := [(7, .int (nI 4)), (5, .long (lN 0)), (3, .long (((((lN 0) + ((-(lN 1)) * (T.p (i_ + 0)))) + ((lN 3) * (T.p (i_ + 1)))) + ((-(lN 3)) * (T.p (i_ + 2)))) + ((lN 1) * (T.p (i_ + 3))))), (0, .ref y_), (1, .int (nI 3)), (2, .int (nI i_))]) hx hb dX7_differenceAt_79 hl (k := 2) rfl (ks_inc 3 1) (by decide) rfl (fun ls hl => ?_)
                      refine lv_goto (tgt := 24) hx hb dX7_differenceAt_82 (by decide) ?_
                      refine lv_iload hx hb dX7_differenceAt_24 (lv_at hl 0 rfl) ?_
                      refine lv_iload_n hx hb dX7_differenceAt_26 rfl (lv_at hl 4 rfl) ?_
                      refine ks_icmp_gt (tgt := 85) hx hb dX7_differenceAt_27 (by decide) (by omega) (by omega) (fun c_27 => ?_) (fun c_27 => ?_)
                      · refine lv_lload_n hx hb dX7_differenceAt_85 rfl (lv_at hl 2 rfl) ?_
                        exact cr_lret hx hb hr hlocks hK hP hD hS dX7_differenceAt_86 (by rw [hRR]; exact ctR_l ((rd3 T.p i_).trans (if_pos c_10).symm) (rfl))
                      · omega
                · omega
        · omega
    · refine lv_lconst (v := lN 0) hx hb dX7_differenceAt_14 rfl ?_
      exact cr_lret hx hb hr hlocks hK hP hD hS dX7_differenceAt_15 (by rw [hRR]; exact ctR_l ((if_neg (by omega)).symm) (rfl))
  · refine lv_iload_n hx hb dX7_differenceAt_0 rfl (lv_at hl 2 rfl) ?_
    refine lv_iload_n hx hb dX7_differenceAt_1 rfl (lv_at hl 1 rfl) ?_
    refine ks_iaddN hx hb dX7_differenceAt_2 ?_
    refine ks_i2lN hx hb dX7_differenceAt_3 (by omega) ?_
    refine lv_aload_n hx hb dX7_differenceAt_4 rfl (lv_at hl 0 rfl) ?_
    refine va_get (D := G.1) (ci := 7) (v := .ref (ca 0)) (C := RX7) (T := TX7) (N := 12) hx hb hts hin7 hown hK hP 0 rfl rfl 0 (by decide) (hts (.fieldLink RX7 7 "PowerTablesModel" "now" "[J") (List.mem_of_getElem? (i := 1) rfl)) (fun _ h9 => h9) rfl dX7_differenceAt_5 ?_
    refine lv_iconst (v := nI 4) hx hb dX7_differenceAt_8 (by decide) ?_
    refine ks_lald hx hb hK hP 1 rfl (by omega) (by decide) dX7_differenceAt_9 ?_
    refine ks_vL (show mV T 4 = lN (T.s 4) from rfl) ?_
    refine ks_lcN_lt (tgt := 16) hx hb dX7_differenceAt_10 dX7_differenceAt_11 (by decide) (by omega) (by omega) (fun c_10 => ?_) (fun c_10 => ?_)
    · refine lv_lconst (v := lN 0) hx hb dX7_differenceAt_16 rfl ?_
      refine lv_lstore_n (lv' := [(3, .long (lN 0)), (0, .ref y_), (1, .int (nI 4)), (2, .int (nI i_))]) hx hb dX7_differenceAt_17 rfl hl (by decide) rfl (fun ls hl => ?_)
      refine lv_lconst (v := lN 1) hx hb dX7_differenceAt_18 rfl ?_
      refine lv_lstore (lv' := [(5, .long (lN 1)), (3, .long (lN 0)), (0, .ref y_), (1, .int (nI 4)), (2, .int (nI i_))]) hx hb dX7_differenceAt_19 hl (by decide) rfl (fun ls hl => ?_)
      refine lv_iconst (v := nI 0) hx hb dX7_differenceAt_21 (by decide) ?_
      refine lv_istore (lv' := [(7, .int (nI 0)), (5, .long (lN 1)), (3, .long (lN 0)), (0, .ref y_), (1, .int (nI 4)), (2, .int (nI i_))]) hx hb dX7_differenceAt_22 hl (by decide) rfl (fun ls hl => ?_)
      refine lv_iload hx hb dX7_differenceAt_24 (lv_at hl 0 rfl) ?_
      refine lv_iload_n hx hb dX7_differenceAt_26 rfl (lv_at hl 4 rfl) ?_
      refine ks_icmp_gt (tgt := 85) hx hb dX7_differenceAt_27 (by decide) (by omega) (by omega) (fun c_27 => ?_) (fun c_27 => ?_)
      · omega
      · refine lv_lload_n hx hb dX7_differenceAt_30 rfl (lv_at hl 2 rfl) ?_
        refine lv_iload_n hx hb dX7_differenceAt_31 rfl (lv_at hl 4 rfl) ?_
        refine lv_iload hx hb dX7_differenceAt_32 (lv_at hl 0 rfl) ?_
        refine ks_isubN hx hb dX7_differenceAt_34 (by omega) ?_
        refine lv_iconst (v := nI 2) hx hb dX7_differenceAt_35 (by decide) ?_
        refine ks_iremN hx hb dX7_differenceAt_36 (by omega) (by omega) (by omega) ?_
        refine ks_if_ne (tgt := 45) hx hb dX7_differenceAt_37 (by decide) (by omega) (fun c_37 => ?_) (fun c_37 => ?_)
        · omega
        · refine lv_lload hx hb dX7_differenceAt_40 (lv_at hl 1 rfl) ?_
          refine lv_goto (tgt := 48) hx hb dX7_differenceAt_42 (by decide) ?_
          refine lv_aload_n hx hb dX7_differenceAt_48 rfl (lv_at hl 3 rfl) ?_
          refine va_get (D := G.1) (ci := 7) (v := .ref (ca 0)) (C := RX7) (T := TX7) (N := 12) hx hb hts hin7 hown hK hP 0 rfl rfl 0 (by decide) (hts (.fieldLink RX7 7 "PowerTablesModel" "now" "[J") (List.mem_of_getElem? (i := 1) rfl)) (fun _ h9 => h9) rfl dX7_differenceAt_49 ?_
          refine lv_bipush (v := nI 23) hx hb dX7_differenceAt_52 (by decide) ?_
          refine lv_iload_n hx hb dX7_differenceAt_54 rfl (lv_at hl 5 rfl) ?_
          refine ks_iaddN hx hb dX7_differenceAt_55 ?_
          refine lv_iload hx hb dX7_differenceAt_56 (lv_at hl 0 rfl) ?_
          refine ks_iaddN hx hb dX7_differenceAt_58 ?_
          refine ks_lald hx hb hK hP 1 rfl (by omega) (by decide) dX7_differenceAt_59 ?_
          refine ks_vL (show mV T (23 + i_ + 0) = T.p (i_ + 0) from mV_p (j := i_ + 0) (by omega)) ?_
          refine lv_lmul hx hb dX7_differenceAt_60 ?_
          refine lv_ladd hx hb dX7_differenceAt_61 ?_
          refine lv_lstore_n (lv' := [(3, .long ((lN 0) + ((lN 1) * (T.p (i_ + 0))))), (7, .int (nI 0)), (5, .long (lN 1)), (0, .ref y_), (1, .int (nI 4)), (2, .int (nI i_))]) hx hb dX7_differenceAt_62 rfl hl (by decide) rfl (fun ls hl => ?_)
          refine lv_lload hx hb dX7_differenceAt_63 (lv_at hl 2 rfl) ?_
          refine lv_iload_n hx hb dX7_differenceAt_65 rfl (lv_at hl 4 rfl) ?_
          refine lv_iload hx hb dX7_differenceAt_66 (lv_at hl 1 rfl) ?_
          refine ks_isubN hx hb dX7_differenceAt_68 (by omega) ?_
          refine ks_i2lN hx hb dX7_differenceAt_69 (by omega) ?_
          refine ks_lmulN hx hb dX7_differenceAt_70 ?_
          refine lv_iload hx hb dX7_differenceAt_71 (lv_at hl 1 rfl) ?_
          refine lv_iconst (v := nI 1) hx hb dX7_differenceAt_73 (by decide) ?_
          refine ks_iaddN hx hb dX7_differenceAt_74 ?_
          refine ks_i2lN hx hb dX7_differenceAt_75 (by omega) ?_
          refine ks_ldivN hx hb dX7_differenceAt_76 (by omega) (by omega) (by omega) ?_
          refine lv_lstore (lv' := [(5, .long (lN 4)), (3, .long ((lN 0) + ((lN 1) * (T.p (i_ + 0))))), (7, .int (nI 0)), (0, .ref y_), (1, .int (nI 4)), (2, .int (nI i_))]) hx hb dX7_differenceAt_77 hl (by decide) rfl (fun ls hl => ?_)
          refine lv_iinc (v := nI 1) (lv' := [(7, .int (nI 1)), (5, .long (lN 4)), (3, .long ((lN 0) + ((lN 1) * (T.p (i_ + 0))))), (0, .ref y_), (1, .int (nI 4)), (2, .int (nI i_))]) hx hb dX7_differenceAt_79 hl (k := 2) rfl (ks_inc 0 1) (by decide) rfl (fun ls hl => ?_)
          refine lv_goto (tgt := 24) hx hb dX7_differenceAt_82 (by decide) ?_
          refine lv_iload hx hb dX7_differenceAt_24 (lv_at hl 0 rfl) ?_
          refine lv_iload_n hx hb dX7_differenceAt_26 rfl (lv_at hl 4 rfl) ?_
          refine ks_icmp_gt (tgt := 85) hx hb dX7_differenceAt_27 (by decide) (by omega) (by omega) (fun c_27 => ?_) (fun c_27 => ?_)
          · omega
          · refine lv_lload_n hx hb dX7_differenceAt_30 rfl (lv_at hl 2 rfl) ?_
            refine lv_iload_n hx hb dX7_differenceAt_31 rfl (lv_at hl 4 rfl) ?_
            refine lv_iload hx hb dX7_differenceAt_32 (lv_at hl 0 rfl) ?_
            refine ks_isubN hx hb dX7_differenceAt_34 (by omega) ?_
            refine lv_iconst (v := nI 2) hx hb dX7_differenceAt_35 (by decide) ?_
            refine ks_iremN hx hb dX7_differenceAt_36 (by omega) (by omega) (by omega) ?_
            refine ks_if_ne (tgt := 45) hx hb dX7_differenceAt_37 (by decide) (by omega) (fun c_37 => ?_) (fun c_37 => ?_)
            · refine lv_lload hx hb dX7_differenceAt_45 (lv_at hl 1 rfl) ?_
              refine lv_lneg hx hb dX7_differenceAt_47 ?_
              refine lv_aload_n hx hb dX7_differenceAt_48 rfl (lv_at hl 3 rfl) ?_
              refine va_get (D := G.1) (ci := 7) (v := .ref (ca 0)) (C := RX7) (T := TX7) (N := 12) hx hb hts hin7 hown hK hP 0 rfl rfl 0 (by decide) (hts (.fieldLink RX7 7 "PowerTablesModel" "now" "[J") (List.mem_of_getElem? (i := 1) rfl)) (fun _ h9 => h9) rfl dX7_differenceAt_49 ?_
              refine lv_bipush (v := nI 23) hx hb dX7_differenceAt_52 (by decide) ?_
              refine lv_iload_n hx hb dX7_differenceAt_54 rfl (lv_at hl 5 rfl) ?_
              refine ks_iaddN hx hb dX7_differenceAt_55 ?_
              refine lv_iload hx hb dX7_differenceAt_56 (lv_at hl 0 rfl) ?_
              refine ks_iaddN hx hb dX7_differenceAt_58 ?_
              refine ks_lald hx hb hK hP 1 rfl (by omega) (by decide) dX7_differenceAt_59 ?_
              refine ks_vL (show mV T (23 + i_ + 1) = T.p (i_ + 1) from mV_p (j := i_ + 1) (by omega)) ?_
              refine lv_lmul hx hb dX7_differenceAt_60 ?_
              refine lv_ladd hx hb dX7_differenceAt_61 ?_
              refine lv_lstore_n (lv' := [(3, .long (((lN 0) + ((lN 1) * (T.p (i_ + 0)))) + ((-(lN 4)) * (T.p (i_ + 1))))), (7, .int (nI 1)), (5, .long (lN 4)), (0, .ref y_), (1, .int (nI 4)), (2, .int (nI i_))]) hx hb dX7_differenceAt_62 rfl hl (by decide) rfl (fun ls hl => ?_)
              refine lv_lload hx hb dX7_differenceAt_63 (lv_at hl 2 rfl) ?_
              refine lv_iload_n hx hb dX7_differenceAt_65 rfl (lv_at hl 4 rfl) ?_
              refine lv_iload hx hb dX7_differenceAt_66 (lv_at hl 1 rfl) ?_
              refine ks_isubN hx hb dX7_differenceAt_68 (by omega) ?_
              refine ks_i2lN hx hb dX7_differenceAt_69 (by omega) ?_
              refine ks_lmulN hx hb dX7_differenceAt_70 ?_
              refine lv_iload hx hb dX7_differenceAt_71 (lv_at hl 1 rfl) ?_
              refine lv_iconst (v := nI 1) hx hb dX7_differenceAt_73 (by decide) ?_
              refine ks_iaddN hx hb dX7_differenceAt_74 ?_
              refine ks_i2lN hx hb dX7_differenceAt_75 (by omega) ?_
              refine ks_ldivN hx hb dX7_differenceAt_76 (by omega) (by omega) (by omega) ?_
              refine lv_lstore (lv' := [(5, .long (lN 6)), (3, .long (((lN 0) + ((lN 1) * (T.p (i_ + 0)))) + ((-(lN 4)) * (T.p (i_ + 1))))), (7, .int (nI 1)), (0, .ref y_), (1, .int (nI 4)), (2, .int (nI i_))]) hx hb dX7_differenceAt_77 hl (by decide) rfl (fun ls hl => ?_)
              refine lv_iinc (v := nI 2) (lv' := [(7, .int (nI 2)), (5, .long (lN 6)), (3, .long (((lN 0) + ((lN 1) * (T.p (i_ + 0)))) + ((-(lN 4)) * (T.p (i_ + 1))))), (0, .ref y_), (1, .int (nI 4)), (2, .int (nI i_))]) hx hb dX7_differenceAt_79 hl (k := 2) rfl (ks_inc 1 1) (by decide) rfl (fun ls hl => ?_)
              refine lv_goto (tgt := 24) hx hb dX7_differenceAt_82 (by decide) ?_
              refine lv_iload hx hb dX7_differenceAt_24 (lv_at hl 0 rfl) ?_
              refine lv_iload_n hx hb dX7_differenceAt_26 rfl (lv_at hl 4 rfl) ?_
              refine ks_icmp_gt (tgt := 85) hx hb dX7_differenceAt_27 (by decide) (by omega) (by omega) (fun c_27 => ?_) (fun c_27 => ?_)
              · omega
              · refine lv_lload_n hx hb dX7_differenceAt_30 rfl (lv_at hl 2 rfl) ?_
                refine lv_iload_n hx hb dX7_differenceAt_31 rfl (lv_at hl 4 rfl) ?_
                refine lv_iload hx hb dX7_differenceAt_32 (lv_at hl 0 rfl) ?_
                refine ks_isubN hx hb dX7_differenceAt_34 (by omega) ?_
                refine lv_iconst (v := nI 2) hx hb dX7_differenceAt_35 (by decide) ?_
                refine ks_iremN hx hb dX7_differenceAt_36 (by omega) (by omega) (by omega) ?_
                refine ks_if_ne (tgt := 45) hx hb dX7_differenceAt_37 (by decide) (by omega) (fun c_37 => ?_) (fun c_37 => ?_)
                · omega
                · refine lv_lload hx hb dX7_differenceAt_40 (lv_at hl 1 rfl) ?_
                  refine lv_goto (tgt := 48) hx hb dX7_differenceAt_42 (by decide) ?_
                  refine lv_aload_n hx hb dX7_differenceAt_48 rfl (lv_at hl 3 rfl) ?_
                  refine va_get (D := G.1) (ci := 7) (v := .ref (ca 0)) (C := RX7) (T := TX7) (N := 12) hx hb hts hin7 hown hK hP 0 rfl rfl 0 (by decide) (hts (.fieldLink RX7 7 "PowerTablesModel" "now" "[J") (List.mem_of_getElem? (i := 1) rfl)) (fun _ h9 => h9) rfl dX7_differenceAt_49 ?_
                  refine lv_bipush (v := nI 23) hx hb dX7_differenceAt_52 (by decide) ?_
                  refine lv_iload_n hx hb dX7_differenceAt_54 rfl (lv_at hl 5 rfl) ?_
                  refine ks_iaddN hx hb dX7_differenceAt_55 ?_
                  refine lv_iload hx hb dX7_differenceAt_56 (lv_at hl 0 rfl) ?_
                  refine ks_iaddN hx hb dX7_differenceAt_58 ?_
                  refine ks_lald hx hb hK hP 1 rfl (by omega) (by decide) dX7_differenceAt_59 ?_
                  refine ks_vL (show mV T (23 + i_ + 2) = T.p (i_ + 2) from mV_p (j := i_ + 2) (by omega)) ?_
                  refine lv_lmul hx hb dX7_differenceAt_60 ?_
                  refine lv_ladd hx hb dX7_differenceAt_61 ?_
                  refine lv_lstore_n (lv' := [(3, .long ((((lN 0) + ((lN 1) * (T.p (i_ + 0)))) + ((-(lN 4)) * (T.p (i_ + 1)))) + ((lN 6) * (T.p (i_ + 2))))), (7, .int (nI 2)), (5, .long (lN 6)), (0, .ref y_), (1, .int (nI 4)), (2, .int (nI i_))]) hx hb dX7_differenceAt_62 rfl hl (by decide) rfl (fun ls hl => ?_)
                  refine lv_lload hx hb dX7_differenceAt_63 (lv_at hl 2 rfl) ?_
                  refine lv_iload_n hx hb dX7_differenceAt_65 rfl (lv_at hl 4 rfl) ?_
                  refine lv_iload hx hb dX7_differenceAt_66 (lv_at hl 1 rfl) ?_
                  refine ks_isubN hx hb dX7_differenceAt_68 (by omega) ?_
                  refine ks_i2lN hx hb dX7_differenceAt_69 (by omega) ?_
                  refine ks_lmulN hx hb dX7_differenceAt_70 ?_
                  refine lv_iload hx hb dX7_differenceAt_71 (lv_at hl 1 rfl) ?_
                  refine lv_iconst (v := nI 1) hx hb dX7_differenceAt_73 (by decide) ?_
                  refine ks_iaddN hx hb dX7_differenceAt_74 ?_
                  refine ks_i2lN hx hb dX7_differenceAt_75 (by omega) ?_
                  refine ks_ldivN hx hb dX7_differenceAt_76 (by omega) (by omega) (by omega) ?_
                  refine lv_lstore (lv' := [(5, .long (lN 4)), (3, .long ((((lN 0) + ((lN 1) * (T.p (i_ + 0)))) + ((-(lN 4)) * (T.p (i_ + 1)))) + ((lN 6) * (T.p (i_ + 2))))), (7, .int (nI 2)), (0, .ref y_), (1, .int (nI 4)), (2, .int (nI i_))]) hx hb dX7_differenceAt_77 hl (by decide) rfl (fun ls hl => ?_)
                  refine lv_iinc (v := nI 3) (lv' := [(7, .int (nI 3)), (5, .long (lN 4)), (3, .long ((((lN 0) + ((lN 1) * (T.p (i_ + 0)))) + ((-(lN 4)) * (T.p (i_ + 1)))) + ((lN 6) * (T.p (i_ + 2))))), (0, .ref y_), (1, .int (nI 4)), (2, .int (nI i_))]) hx hb dX7_differenceAt_79 hl (k := 2) rfl (ks_inc 2 1) (by decide) rfl (fun ls hl => ?_)
                  refine lv_goto (tgt := 24) hx hb dX7_differenceAt_82 (by decide) ?_
                  refine lv_iload hx hb dX7_differenceAt_24 (lv_at hl 0 rfl) ?_
                  refine lv_iload_n hx hb dX7_differenceAt_26 rfl (lv_at hl 4 rfl) ?_
                  refine ks_icmp_gt (tgt := 85) hx hb dX7_differenceAt_27 (by decide) (by omega) (by omega) (fun c_27 => ?_) (fun c_27 => ?_)
                  · omega
                  · refine lv_lload_n hx hb dX7_differenceAt_30 rfl (lv_at hl 2 rfl) ?_
                    refine lv_iload_n hx hb dX7_differenceAt_31 rfl (lv_at hl 4 rfl) ?_
                    refine lv_iload hx hb dX7_differenceAt_32 (lv_at hl 0 rfl) ?_
                    refine ks_isubN hx hb dX7_differenceAt_34 (by omega) ?_
                    refine lv_iconst (v := nI 2) hx hb dX7_differenceAt_35 (by decide) ?_
                    refine ks_iremN hx hb dX7_differenceAt_36 (by omega) (by omega) (by omega) ?_
                    refine ks_if_ne (tgt := 45) hx hb dX7_differenceAt_37 (by decide) (by omega) (fun c_37 => ?_) (fun c_37 => ?_)
                    · refine lv_lload hx hb dX7_differenceAt_45 (lv_at hl 1 rfl) ?_
                      refine lv_lneg hx hb dX7_differenceAt_47 ?_
                      refine lv_aload_n hx hb dX7_differenceAt_48 rfl (lv_at hl 3 rfl) ?_
                      refine va_get (D := G.1) (ci := 7) (v := .ref (ca 0)) (C := RX7) (T := TX7) (N := 12) hx hb hts hin7 hown hK hP 0 rfl rfl 0 (by decide) (hts (.fieldLink RX7 7 "PowerTablesModel" "now" "[J") (List.mem_of_getElem? (i := 1) rfl)) (fun _ h9 => h9) rfl dX7_differenceAt_49 ?_
                      refine lv_bipush (v := nI 23) hx hb dX7_differenceAt_52 (by decide) ?_
                      refine lv_iload_n hx hb dX7_differenceAt_54 rfl (lv_at hl 5 rfl) ?_
                      refine ks_iaddN hx hb dX7_differenceAt_55 ?_
                      refine lv_iload hx hb dX7_differenceAt_56 (lv_at hl 0 rfl) ?_
                      refine ks_iaddN hx hb dX7_differenceAt_58 ?_
                      refine ks_lald hx hb hK hP 1 rfl (by omega) (by decide) dX7_differenceAt_59 ?_
                      refine ks_vL (show mV T (23 + i_ + 3) = T.p (i_ + 3) from mV_p (j := i_ + 3) (by omega)) ?_
                      refine lv_lmul hx hb dX7_differenceAt_60 ?_
                      refine lv_ladd hx hb dX7_differenceAt_61 ?_
                      refine lv_lstore_n (lv' := [(3, .long (((((lN 0) + ((lN 1) * (T.p (i_ + 0)))) + ((-(lN 4)) * (T.p (i_ + 1)))) + ((lN 6) * (T.p (i_ + 2)))) + ((-(lN 4)) * (T.p (i_ + 3))))), (7, .int (nI 3)), (5, .long (lN 4)), (0, .ref y_), (1, .int (nI 4)), (2, .int (nI i_))]) hx hb dX7_differenceAt_62 rfl hl (by decide) rfl (fun ls hl => ?_)
                      refine lv_lload hx hb dX7_differenceAt_63 (lv_at hl 2 rfl) ?_
                      refine lv_iload_n hx hb dX7_differenceAt_65 rfl (lv_at hl 4 rfl) ?_
                      refine lv_iload hx hb dX7_differenceAt_66 (lv_at hl 1 rfl) ?_
                      refine ks_isubN hx hb dX7_differenceAt_68 (by omega) ?_
                      refine ks_i2lN hx hb dX7_differenceAt_69 (by omega) ?_
                      refine ks_lmulN hx hb dX7_differenceAt_70 ?_
                      refine lv_iload hx hb dX7_differenceAt_71 (lv_at hl 1 rfl) ?_
                      refine lv_iconst (v := nI 1) hx hb dX7_differenceAt_73 (by decide) ?_
                      refine ks_iaddN hx hb dX7_differenceAt_74 ?_
                      refine ks_i2lN hx hb dX7_differenceAt_75 (by omega) ?_
                      refine ks_ldivN hx hb dX7_differenceAt_76 (by omega) (by omega) (by omega) ?_
                      refine lv_lstore (lv' := [(5, .long (lN 1)), (3, .long (((((lN 0) + ((lN 1) * (T.p (i_ + 0)))) + ((-(lN 4)) * (T.p (i_ + 1)))) + ((lN 6) * (T.p (i_ + 2)))) + ((-(lN 4)) * (T.p (i_ + 3))))), (7, .int (nI 3)), (0, .ref y_), (1, .int (nI 4)), (2, .int (nI i_))]) hx hb dX7_differenceAt_77 hl (by decide) rfl (fun ls hl => ?_)
                      refine lv_iinc (v := nI 4) (lv' := [(7, .int (nI 4)), (5, .long (lN 1)), (3, .long (((((lN 0) + ((lN 1) * (T.p (i_ + 0)))) + ((-(lN 4)) * (T.p (i_ + 1)))) + ((lN 6) * (T.p (i_ + 2)))) + ((-(lN 4)) * (T.p (i_ + 3))))), (0, .ref y_), (1, .int (nI 4)), (2, .int (nI i_))]) hx hb dX7_differenceAt_79 hl (k := 2) rfl (ks_inc 3 1) (by decide) rfl (fun ls hl => ?_)
                      refine lv_goto (tgt := 24) hx hb dX7_differenceAt_82 (by decide) ?_
                      refine lv_iload hx hb dX7_differenceAt_24 (lv_at hl 0 rfl) ?_
                      refine lv_iload_n hx hb dX7_differenceAt_26 rfl (lv_at hl 4 rfl) ?_
                      refine ks_icmp_gt (tgt := 85) hx hb dX7_differenceAt_27 (by decide) (by omega) (by omega) (fun c_27 => ?_) (fun c_27 => ?_)
                      · omega
                      · refine lv_lload_n hx hb dX7_differenceAt_30 rfl (lv_at hl 2 rfl) ?_
                        refine lv_iload_n hx hb dX7_differenceAt_31 rfl (lv_at hl 4 rfl) ?_
                        refine lv_iload hx hb dX7_differenceAt_32 (lv_at hl 0 rfl) ?_
                        refine ks_isubN hx hb dX7_differenceAt_34 (by omega) ?_
                        refine lv_iconst (v := nI 2) hx hb dX7_differenceAt_35 (by decide) ?_
                        refine ks_iremN hx hb dX7_differenceAt_36 (by omega) (by omega) (by omega) ?_
                        refine ks_if_ne (tgt := 45) hx hb dX7_differenceAt_37 (by decide) (by omega) (fun c_37 => ?_) (fun c_37 => ?_)
                        · omega
                        · refine lv_lload hx hb dX7_differenceAt_40 (lv_at hl 1 rfl) ?_
                          refine lv_goto (tgt := 48) hx hb dX7_differenceAt_42 (by decide) ?_
                          refine lv_aload_n hx hb dX7_differenceAt_48 rfl (lv_at hl 3 rfl) ?_
                          refine va_get (D := G.1) (ci := 7) (v := .ref (ca 0)) (C := RX7) (T := TX7) (N := 12) hx hb hts hin7 hown hK hP 0 rfl rfl 0 (by decide) (hts (.fieldLink RX7 7 "PowerTablesModel" "now" "[J") (List.mem_of_getElem? (i := 1) rfl)) (fun _ h9 => h9) rfl dX7_differenceAt_49 ?_
                          refine lv_bipush (v := nI 23) hx hb dX7_differenceAt_52 (by decide) ?_
                          refine lv_iload_n hx hb dX7_differenceAt_54 rfl (lv_at hl 5 rfl) ?_
                          refine ks_iaddN hx hb dX7_differenceAt_55 ?_
                          refine lv_iload hx hb dX7_differenceAt_56 (lv_at hl 0 rfl) ?_
                          refine ks_iaddN hx hb dX7_differenceAt_58 ?_
                          refine ks_lald hx hb hK hP 1 rfl (by omega) (by decide) dX7_differenceAt_59 ?_
                          refine ks_vL (show mV T (23 + i_ + 4) = T.p (i_ + 4) from mV_p (j := i_ + 4) (by omega)) ?_
                          refine lv_lmul hx hb dX7_differenceAt_60 ?_
                          refine lv_ladd hx hb dX7_differenceAt_61 ?_
                          refine lv_lstore_n (lv' := [(3, .long ((((((lN 0) + ((lN 1) * (T.p (i_ + 0)))) + ((-(lN 4)) * (T.p (i_ + 1)))) + ((lN 6) * (T.p (i_ + 2)))) + ((-(lN 4)) * (T.p (i_ + 3)))) + ((lN 1) * (T.p (i_ + 4))))), (7, .int (nI 4)), (5, .long (lN 1)), (0, .ref y_), (1, .int (nI 4)), (2, .int (nI i_))]) hx hb dX7_differenceAt_62 rfl hl (by decide) rfl (fun ls hl => ?_)
                          refine lv_lload hx hb dX7_differenceAt_63 (lv_at hl 2 rfl) ?_
                          refine lv_iload_n hx hb dX7_differenceAt_65 rfl (lv_at hl 4 rfl) ?_
                          refine lv_iload hx hb dX7_differenceAt_66 (lv_at hl 1 rfl) ?_
                          refine ks_isubN hx hb dX7_differenceAt_68 (by omega) ?_
                          refine ks_i2lN hx hb dX7_differenceAt_69 (by omega) ?_
                          refine ks_lmulN hx hb dX7_differenceAt_70 ?_
                          refine lv_iload hx hb dX7_differenceAt_71 (lv_at hl 1 rfl) ?_
                          refine lv_iconst (v := nI 1) hx hb dX7_differenceAt_73 (by decide) ?_
                          refine ks_iaddN hx hb dX7_differenceAt_74 ?_
                          refine ks_i2lN hx hb dX7_differenceAt_75 (by omega) ?_
                          refine ks_ldivN hx hb dX7_differenceAt_76 (by omega) (by omega) (by omega) ?_
                          refine lv_lstore (lv' := [(5, .long (lN 0)), (3, .long ((((((lN 0) + ((lN 1) * (T.p (i_ + 0)))) + ((-(lN 4)) * (T.p (i_ + 1)))) + ((lN 6) * (T.p (i_ + 2)))) + ((-(lN 4)) * (T.p (i_ + 3)))) + ((lN 1) * (T.p (i_ + 4))))), (7, .int (nI 4)), (0, .ref y_), (1, .int (nI 4)), (2, .int (nI i_))]) hx hb dX7_differenceAt_77 hl (by decide) rfl (fun ls hl => ?_)
                          refine lv_iinc (v := nI 5) (lv' := [(7, .int (nI 5)), (5, .long (lN 0)), (3, .long ((((((lN 0) + ((lN 1) * (T.p (i_ + 0)))) + ((-(lN 4)) * (T.p (i_ + 1)))) + ((lN 6) * (T.p (i_ + 2)))) + ((-(lN 4)) * (T.p (i_ + 3)))) + ((lN 1) * (T.p (i_ + 4))))), (0, .ref y_), (1, .int (nI 4)), (2, .int (nI i_))]) hx hb dX7_differenceAt_79 hl (k := 2) rfl (ks_inc 4 1) (by decide) rfl (fun ls hl => ?_)
                          refine lv_goto (tgt := 24) hx hb dX7_differenceAt_82 (by decide) ?_
                          refine lv_iload hx hb dX7_differenceAt_24 (lv_at hl 0 rfl) ?_
                          refine lv_iload_n hx hb dX7_differenceAt_26 rfl (lv_at hl 4 rfl) ?_
                          refine ks_icmp_gt (tgt := 85) hx hb dX7_differenceAt_27 (by decide) (by omega) (by omega) (fun c_27 => ?_) (fun c_27 => ?_)
                          · refine lv_lload_n hx hb dX7_differenceAt_85 rfl (lv_at hl 2 rfl) ?_
                            exact cr_lret hx hb hr hlocks hK hP hD hS dX7_differenceAt_86 (by rw [hRR]; exact ctR_l ((rd4 T.p i_).trans (if_pos c_10).symm) (rfl))
                          · omega
                    · omega
            · omega
    · refine lv_lconst (v := lN 0) hx hb dX7_differenceAt_14 rfl ?_
      exact cr_lret hx hb hr hlocks hK hP hD hS dX7_differenceAt_15 (by rw [hRR]; exact ctR_l ((if_neg (by omega)).symm) (rfl))
  · refine lv_iload_n hx hb dX7_differenceAt_0 rfl (lv_at hl 2 rfl) ?_
    refine lv_iload_n hx hb dX7_differenceAt_1 rfl (lv_at hl 1 rfl) ?_
    refine ks_iaddN hx hb dX7_differenceAt_2 ?_
    refine ks_i2lN hx hb dX7_differenceAt_3 (by omega) ?_
    refine lv_aload_n hx hb dX7_differenceAt_4 rfl (lv_at hl 0 rfl) ?_
    refine va_get (D := G.1) (ci := 7) (v := .ref (ca 0)) (C := RX7) (T := TX7) (N := 12) hx hb hts hin7 hown hK hP 0 rfl rfl 0 (by decide) (hts (.fieldLink RX7 7 "PowerTablesModel" "now" "[J") (List.mem_of_getElem? (i := 1) rfl)) (fun _ h9 => h9) rfl dX7_differenceAt_5 ?_
    refine lv_iconst (v := nI 4) hx hb dX7_differenceAt_8 (by decide) ?_
    refine ks_lald hx hb hK hP 1 rfl (by omega) (by decide) dX7_differenceAt_9 ?_
    refine ks_vL (show mV T 4 = lN (T.s 4) from rfl) ?_
    refine ks_lcN_lt (tgt := 16) hx hb dX7_differenceAt_10 dX7_differenceAt_11 (by decide) (by omega) (by omega) (fun c_10 => ?_) (fun c_10 => ?_)
    · refine lv_lconst (v := lN 0) hx hb dX7_differenceAt_16 rfl ?_
      refine lv_lstore_n (lv' := [(3, .long (lN 0)), (0, .ref y_), (1, .int (nI 5)), (2, .int (nI i_))]) hx hb dX7_differenceAt_17 rfl hl (by decide) rfl (fun ls hl => ?_)
      refine lv_lconst (v := lN 1) hx hb dX7_differenceAt_18 rfl ?_
      refine lv_lstore (lv' := [(5, .long (lN 1)), (3, .long (lN 0)), (0, .ref y_), (1, .int (nI 5)), (2, .int (nI i_))]) hx hb dX7_differenceAt_19 hl (by decide) rfl (fun ls hl => ?_)
      refine lv_iconst (v := nI 0) hx hb dX7_differenceAt_21 (by decide) ?_
      refine lv_istore (lv' := [(7, .int (nI 0)), (5, .long (lN 1)), (3, .long (lN 0)), (0, .ref y_), (1, .int (nI 5)), (2, .int (nI i_))]) hx hb dX7_differenceAt_22 hl (by decide) rfl (fun ls hl => ?_)
      refine lv_iload hx hb dX7_differenceAt_24 (lv_at hl 0 rfl) ?_
      refine lv_iload_n hx hb dX7_differenceAt_26 rfl (lv_at hl 4 rfl) ?_
      refine ks_icmp_gt (tgt := 85) hx hb dX7_differenceAt_27 (by decide) (by omega) (by omega) (fun c_27 => ?_) (fun c_27 => ?_)
      · omega
      · refine lv_lload_n hx hb dX7_differenceAt_30 rfl (lv_at hl 2 rfl) ?_
        refine lv_iload_n hx hb dX7_differenceAt_31 rfl (lv_at hl 4 rfl) ?_
        refine lv_iload hx hb dX7_differenceAt_32 (lv_at hl 0 rfl) ?_
        refine ks_isubN hx hb dX7_differenceAt_34 (by omega) ?_
        refine lv_iconst (v := nI 2) hx hb dX7_differenceAt_35 (by decide) ?_
        refine ks_iremN hx hb dX7_differenceAt_36 (by omega) (by omega) (by omega) ?_
        refine ks_if_ne (tgt := 45) hx hb dX7_differenceAt_37 (by decide) (by omega) (fun c_37 => ?_) (fun c_37 => ?_)
        · refine lv_lload hx hb dX7_differenceAt_45 (lv_at hl 1 rfl) ?_
          refine lv_lneg hx hb dX7_differenceAt_47 ?_
          refine lv_aload_n hx hb dX7_differenceAt_48 rfl (lv_at hl 3 rfl) ?_
          refine va_get (D := G.1) (ci := 7) (v := .ref (ca 0)) (C := RX7) (T := TX7) (N := 12) hx hb hts hin7 hown hK hP 0 rfl rfl 0 (by decide) (hts (.fieldLink RX7 7 "PowerTablesModel" "now" "[J") (List.mem_of_getElem? (i := 1) rfl)) (fun _ h9 => h9) rfl dX7_differenceAt_49 ?_
          refine lv_bipush (v := nI 23) hx hb dX7_differenceAt_52 (by decide) ?_
          refine lv_iload_n hx hb dX7_differenceAt_54 rfl (lv_at hl 5 rfl) ?_
          refine ks_iaddN hx hb dX7_differenceAt_55 ?_
          refine lv_iload hx hb dX7_differenceAt_56 (lv_at hl 0 rfl) ?_
          refine ks_iaddN hx hb dX7_differenceAt_58 ?_
          refine ks_lald hx hb hK hP 1 rfl (by omega) (by decide) dX7_differenceAt_59 ?_
          refine ks_vL (show mV T (23 + i_ + 0) = T.p (i_ + 0) from mV_p (j := i_ + 0) (by omega)) ?_
          refine lv_lmul hx hb dX7_differenceAt_60 ?_
          refine lv_ladd hx hb dX7_differenceAt_61 ?_
          refine lv_lstore_n (lv' := [(3, .long ((lN 0) + ((-(lN 1)) * (T.p (i_ + 0))))), (7, .int (nI 0)), (5, .long (lN 1)), (0, .ref y_), (1, .int (nI 5)), (2, .int (nI i_))]) hx hb dX7_differenceAt_62 rfl hl (by decide) rfl (fun ls hl => ?_)
          refine lv_lload hx hb dX7_differenceAt_63 (lv_at hl 2 rfl) ?_
          refine lv_iload_n hx hb dX7_differenceAt_65 rfl (lv_at hl 4 rfl) ?_
          refine lv_iload hx hb dX7_differenceAt_66 (lv_at hl 1 rfl) ?_
          refine ks_isubN hx hb dX7_differenceAt_68 (by omega) ?_
          refine ks_i2lN hx hb dX7_differenceAt_69 (by omega) ?_
          refine ks_lmulN hx hb dX7_differenceAt_70 ?_
          refine lv_iload hx hb dX7_differenceAt_71 (lv_at hl 1 rfl) ?_
          refine lv_iconst (v := nI 1) hx hb dX7_differenceAt_73 (by decide) ?_
          refine ks_iaddN hx hb dX7_differenceAt_74 ?_
          refine ks_i2lN hx hb dX7_differenceAt_75 (by omega) ?_
          refine ks_ldivN hx hb dX7_differenceAt_76 (by omega) (by omega) (by omega) ?_
          refine lv_lstore (lv' := [(5, .long (lN 5)), (3, .long ((lN 0) + ((-(lN 1)) * (T.p (i_ + 0))))), (7, .int (nI 0)), (0, .ref y_), (1, .int (nI 5)), (2, .int (nI i_))]) hx hb dX7_differenceAt_77 hl (by decide) rfl (fun ls hl => ?_)
          refine lv_iinc (v := nI 1) (lv' := [(7, .int (nI 1)), (5, .long (lN 5)), (3, .long ((lN 0) + ((-(lN 1)) * (T.p (i_ + 0))))), (0, .ref y_), (1, .int (nI 5)), (2, .int (nI i_))]) hx hb dX7_differenceAt_79 hl (k := 2) rfl (ks_inc 0 1) (by decide) rfl (fun ls hl => ?_)
          refine lv_goto (tgt := 24) hx hb dX7_differenceAt_82 (by decide) ?_
          refine lv_iload hx hb dX7_differenceAt_24 (lv_at hl 0 rfl) ?_
          refine lv_iload_n hx hb dX7_differenceAt_26 rfl (lv_at hl 4 rfl) ?_
          refine ks_icmp_gt (tgt := 85) hx hb dX7_differenceAt_27 (by decide) (by omega) (by omega) (fun c_27 => ?_) (fun c_27 => ?_)
          · omega
          · refine lv_lload_n hx hb dX7_differenceAt_30 rfl (lv_at hl 2 rfl) ?_
            refine lv_iload_n hx hb dX7_differenceAt_31 rfl (lv_at hl 4 rfl) ?_
            refine lv_iload hx hb dX7_differenceAt_32 (lv_at hl 0 rfl) ?_
            refine ks_isubN hx hb dX7_differenceAt_34 (by omega) ?_
            refine lv_iconst (v := nI 2) hx hb dX7_differenceAt_35 (by decide) ?_
            refine ks_iremN hx hb dX7_differenceAt_36 (by omega) (by omega) (by omega) ?_
            refine ks_if_ne (tgt := 45) hx hb dX7_differenceAt_37 (by decide) (by omega) (fun c_37 => ?_) (fun c_37 => ?_)
            · omega
            · refine lv_lload hx hb dX7_differenceAt_40 (lv_at hl 1 rfl) ?_
              refine lv_goto (tgt := 48) hx hb dX7_differenceAt_42 (by decide) ?_
              refine lv_aload_n hx hb dX7_differenceAt_48 rfl (lv_at hl 3 rfl) ?_
              refine va_get (D := G.1) (ci := 7) (v := .ref (ca 0)) (C := RX7) (T := TX7) (N := 12) hx hb hts hin7 hown hK hP 0 rfl rfl 0 (by decide) (hts (.fieldLink RX7 7 "PowerTablesModel" "now" "[J") (List.mem_of_getElem? (i := 1) rfl)) (fun _ h9 => h9) rfl dX7_differenceAt_49 ?_
              refine lv_bipush (v := nI 23) hx hb dX7_differenceAt_52 (by decide) ?_
              refine lv_iload_n hx hb dX7_differenceAt_54 rfl (lv_at hl 5 rfl) ?_
              refine ks_iaddN hx hb dX7_differenceAt_55 ?_
              refine lv_iload hx hb dX7_differenceAt_56 (lv_at hl 0 rfl) ?_
              refine ks_iaddN hx hb dX7_differenceAt_58 ?_
              refine ks_lald hx hb hK hP 1 rfl (by omega) (by decide) dX7_differenceAt_59 ?_
              refine ks_vL (show mV T (23 + i_ + 1) = T.p (i_ + 1) from mV_p (j := i_ + 1) (by omega)) ?_
              refine lv_lmul hx hb dX7_differenceAt_60 ?_
              refine lv_ladd hx hb dX7_differenceAt_61 ?_
              refine lv_lstore_n (lv' := [(3, .long (((lN 0) + ((-(lN 1)) * (T.p (i_ + 0)))) + ((lN 5) * (T.p (i_ + 1))))), (7, .int (nI 1)), (5, .long (lN 5)), (0, .ref y_), (1, .int (nI 5)), (2, .int (nI i_))]) hx hb dX7_differenceAt_62 rfl hl (by decide) rfl (fun ls hl => ?_)
              refine lv_lload hx hb dX7_differenceAt_63 (lv_at hl 2 rfl) ?_
              refine lv_iload_n hx hb dX7_differenceAt_65 rfl (lv_at hl 4 rfl) ?_
              refine lv_iload hx hb dX7_differenceAt_66 (lv_at hl 1 rfl) ?_
              refine ks_isubN hx hb dX7_differenceAt_68 (by omega) ?_
              refine ks_i2lN hx hb dX7_differenceAt_69 (by omega) ?_
              refine ks_lmulN hx hb dX7_differenceAt_70 ?_
              refine lv_iload hx hb dX7_differenceAt_71 (lv_at hl 1 rfl) ?_
              refine lv_iconst (v := nI 1) hx hb dX7_differenceAt_73 (by decide) ?_
              refine ks_iaddN hx hb dX7_differenceAt_74 ?_
              refine ks_i2lN hx hb dX7_differenceAt_75 (by omega) ?_
              refine ks_ldivN hx hb dX7_differenceAt_76 (by omega) (by omega) (by omega) ?_
              refine lv_lstore (lv' := [(5, .long (lN 10)), (3, .long (((lN 0) + ((-(lN 1)) * (T.p (i_ + 0)))) + ((lN 5) * (T.p (i_ + 1))))), (7, .int (nI 1)), (0, .ref y_), (1, .int (nI 5)), (2, .int (nI i_))]) hx hb dX7_differenceAt_77 hl (by decide) rfl (fun ls hl => ?_)
              refine lv_iinc (v := nI 2) (lv' := [(7, .int (nI 2)), (5, .long (lN 10)), (3, .long (((lN 0) + ((-(lN 1)) * (T.p (i_ + 0)))) + ((lN 5) * (T.p (i_ + 1))))), (0, .ref y_), (1, .int (nI 5)), (2, .int (nI i_))]) hx hb dX7_differenceAt_79 hl (k := 2) rfl (ks_inc 1 1) (by decide) rfl (fun ls hl => ?_)
              refine lv_goto (tgt := 24) hx hb dX7_differenceAt_82 (by decide) ?_
              refine lv_iload hx hb dX7_differenceAt_24 (lv_at hl 0 rfl) ?_
              refine lv_iload_n hx hb dX7_differenceAt_26 rfl (lv_at hl 4 rfl) ?_
              refine ks_icmp_gt (tgt := 85) hx hb dX7_differenceAt_27 (by decide) (by omega) (by omega) (fun c_27 => ?_) (fun c_27 => ?_)
              · omega
              · refine lv_lload_n hx hb dX7_differenceAt_30 rfl (lv_at hl 2 rfl) ?_
                refine lv_iload_n hx hb dX7_differenceAt_31 rfl (lv_at hl 4 rfl) ?_
                refine lv_iload hx hb dX7_differenceAt_32 (lv_at hl 0 rfl) ?_
                refine ks_isubN hx hb dX7_differenceAt_34 (by omega) ?_
                refine lv_iconst (v := nI 2) hx hb dX7_differenceAt_35 (by decide) ?_
                refine ks_iremN hx hb dX7_differenceAt_36 (by omega) (by omega) (by omega) ?_
                refine ks_if_ne (tgt := 45) hx hb dX7_differenceAt_37 (by decide) (by omega) (fun c_37 => ?_) (fun c_37 => ?_)
                · refine lv_lload hx hb dX7_differenceAt_45 (lv_at hl 1 rfl) ?_
                  refine lv_lneg hx hb dX7_differenceAt_47 ?_
                  refine lv_aload_n hx hb dX7_differenceAt_48 rfl (lv_at hl 3 rfl) ?_
                  refine va_get (D := G.1) (ci := 7) (v := .ref (ca 0)) (C := RX7) (T := TX7) (N := 12) hx hb hts hin7 hown hK hP 0 rfl rfl 0 (by decide) (hts (.fieldLink RX7 7 "PowerTablesModel" "now" "[J") (List.mem_of_getElem? (i := 1) rfl)) (fun _ h9 => h9) rfl dX7_differenceAt_49 ?_
                  refine lv_bipush (v := nI 23) hx hb dX7_differenceAt_52 (by decide) ?_
                  refine lv_iload_n hx hb dX7_differenceAt_54 rfl (lv_at hl 5 rfl) ?_
                  refine ks_iaddN hx hb dX7_differenceAt_55 ?_
                  refine lv_iload hx hb dX7_differenceAt_56 (lv_at hl 0 rfl) ?_
                  refine ks_iaddN hx hb dX7_differenceAt_58 ?_
                  refine ks_lald hx hb hK hP 1 rfl (by omega) (by decide) dX7_differenceAt_59 ?_
                  refine ks_vL (show mV T (23 + i_ + 2) = T.p (i_ + 2) from mV_p (j := i_ + 2) (by omega)) ?_
                  refine lv_lmul hx hb dX7_differenceAt_60 ?_
                  refine lv_ladd hx hb dX7_differenceAt_61 ?_
                  refine lv_lstore_n (lv' := [(3, .long ((((lN 0) + ((-(lN 1)) * (T.p (i_ + 0)))) + ((lN 5) * (T.p (i_ + 1)))) + ((-(lN 10)) * (T.p (i_ + 2))))), (7, .int (nI 2)), (5, .long (lN 10)), (0, .ref y_), (1, .int (nI 5)), (2, .int (nI i_))]) hx hb dX7_differenceAt_62 rfl hl (by decide) rfl (fun ls hl => ?_)
                  refine lv_lload hx hb dX7_differenceAt_63 (lv_at hl 2 rfl) ?_
                  refine lv_iload_n hx hb dX7_differenceAt_65 rfl (lv_at hl 4 rfl) ?_
                  refine lv_iload hx hb dX7_differenceAt_66 (lv_at hl 1 rfl) ?_
                  refine ks_isubN hx hb dX7_differenceAt_68 (by omega) ?_
                  refine ks_i2lN hx hb dX7_differenceAt_69 (by omega) ?_
                  refine ks_lmulN hx hb dX7_differenceAt_70 ?_
                  refine lv_iload hx hb dX7_differenceAt_71 (lv_at hl 1 rfl) ?_
                  refine lv_iconst (v := nI 1) hx hb dX7_differenceAt_73 (by decide) ?_
                  refine ks_iaddN hx hb dX7_differenceAt_74 ?_
                  refine ks_i2lN hx hb dX7_differenceAt_75 (by omega) ?_
                  refine ks_ldivN hx hb dX7_differenceAt_76 (by omega) (by omega) (by omega) ?_
                  refine lv_lstore (lv' := [(5, .long (lN 10)), (3, .long ((((lN 0) + ((-(lN 1)) * (T.p (i_ + 0)))) + ((lN 5) * (T.p (i_ + 1)))) + ((-(lN 10)) * (T.p (i_ + 2))))), (7, .int (nI 2)), (0, .ref y_), (1, .int (nI 5)), (2, .int (nI i_))]) hx hb dX7_differenceAt_77 hl (by decide) rfl (fun ls hl => ?_)
                  refine lv_iinc (v := nI 3) (lv' := [(7, .int (nI 3)), (5, .long (lN 10)), (3, .long ((((lN 0) + ((-(lN 1)) * (T.p (i_ + 0)))) + ((lN 5) * (T.p (i_ + 1)))) + ((-(lN 10)) * (T.p (i_ + 2))))), (0, .ref y_), (1, .int (nI 5)), (2, .int (nI i_))]) hx hb dX7_differenceAt_79 hl (k := 2) rfl (ks_inc 2 1) (by decide) rfl (fun ls hl => ?_)
                  refine lv_goto (tgt := 24) hx hb dX7_differenceAt_82 (by decide) ?_
                  refine lv_iload hx hb dX7_differenceAt_24 (lv_at hl 0 rfl) ?_
                  refine lv_iload_n hx hb dX7_differenceAt_26 rfl (lv_at hl 4 rfl) ?_
                  refine ks_icmp_gt (tgt := 85) hx hb dX7_differenceAt_27 (by decide) (by omega) (by omega) (fun c_27 => ?_) (fun c_27 => ?_)
                  · omega
                  · refine lv_lload_n hx hb dX7_differenceAt_30 rfl (lv_at hl 2 rfl) ?_
                    refine lv_iload_n hx hb dX7_differenceAt_31 rfl (lv_at hl 4 rfl) ?_
                    refine lv_iload hx hb dX7_differenceAt_32 (lv_at hl 0 rfl) ?_
                    refine ks_isubN hx hb dX7_differenceAt_34 (by omega) ?_
                    refine lv_iconst (v := nI 2) hx hb dX7_differenceAt_35 (by decide) ?_
                    refine ks_iremN hx hb dX7_differenceAt_36 (by omega) (by omega) (by omega) ?_
                    refine ks_if_ne (tgt := 45) hx hb dX7_differenceAt_37 (by decide) (by omega) (fun c_37 => ?_) (fun c_37 => ?_)
                    · omega
                    · refine lv_lload hx hb dX7_differenceAt_40 (lv_at hl 1 rfl) ?_
                      refine lv_goto (tgt := 48) hx hb dX7_differenceAt_42 (by decide) ?_
                      refine lv_aload_n hx hb dX7_differenceAt_48 rfl (lv_at hl 3 rfl) ?_
                      refine va_get (D := G.1) (ci := 7) (v := .ref (ca 0)) (C := RX7) (T := TX7) (N := 12) hx hb hts hin7 hown hK hP 0 rfl rfl 0 (by decide) (hts (.fieldLink RX7 7 "PowerTablesModel" "now" "[J") (List.mem_of_getElem? (i := 1) rfl)) (fun _ h9 => h9) rfl dX7_differenceAt_49 ?_
                      refine lv_bipush (v := nI 23) hx hb dX7_differenceAt_52 (by decide) ?_
                      refine lv_iload_n hx hb dX7_differenceAt_54 rfl (lv_at hl 5 rfl) ?_
                      refine ks_iaddN hx hb dX7_differenceAt_55 ?_
                      refine lv_iload hx hb dX7_differenceAt_56 (lv_at hl 0 rfl) ?_
                      refine ks_iaddN hx hb dX7_differenceAt_58 ?_
                      refine ks_lald hx hb hK hP 1 rfl (by omega) (by decide) dX7_differenceAt_59 ?_
                      refine ks_vL (show mV T (23 + i_ + 3) = T.p (i_ + 3) from mV_p (j := i_ + 3) (by omega)) ?_
                      refine lv_lmul hx hb dX7_differenceAt_60 ?_
                      refine lv_ladd hx hb dX7_differenceAt_61 ?_
                      refine lv_lstore_n (lv' := [(3, .long (((((lN 0) + ((-(lN 1)) * (T.p (i_ + 0)))) + ((lN 5) * (T.p (i_ + 1)))) + ((-(lN 10)) * (T.p (i_ + 2)))) + ((lN 10) * (T.p (i_ + 3))))), (7, .int (nI 3)), (5, .long (lN 10)), (0, .ref y_), (1, .int (nI 5)), (2, .int (nI i_))]) hx hb dX7_differenceAt_62 rfl hl (by decide) rfl (fun ls hl => ?_)
                      refine lv_lload hx hb dX7_differenceAt_63 (lv_at hl 2 rfl) ?_
                      refine lv_iload_n hx hb dX7_differenceAt_65 rfl (lv_at hl 4 rfl) ?_
                      refine lv_iload hx hb dX7_differenceAt_66 (lv_at hl 1 rfl) ?_
                      refine ks_isubN hx hb dX7_differenceAt_68 (by omega) ?_
                      refine ks_i2lN hx hb dX7_differenceAt_69 (by omega) ?_
                      refine ks_lmulN hx hb dX7_differenceAt_70 ?_
                      refine lv_iload hx hb dX7_differenceAt_71 (lv_at hl 1 rfl) ?_
                      refine lv_iconst (v := nI 1) hx hb dX7_differenceAt_73 (by decide) ?_
                      refine ks_iaddN hx hb dX7_differenceAt_74 ?_
                      refine ks_i2lN hx hb dX7_differenceAt_75 (by omega) ?_
                      refine ks_ldivN hx hb dX7_differenceAt_76 (by omega) (by omega) (by omega) ?_
                      refine lv_lstore (lv' := [(5, .long (lN 5)), (3, .long (((((lN 0) + ((-(lN 1)) * (T.p (i_ + 0)))) + ((lN 5) * (T.p (i_ + 1)))) + ((-(lN 10)) * (T.p (i_ + 2)))) + ((lN 10) * (T.p (i_ + 3))))), (7, .int (nI 3)), (0, .ref y_), (1, .int (nI 5)), (2, .int (nI i_))]) hx hb dX7_differenceAt_77 hl (by decide) rfl (fun ls hl => ?_)
                      refine lv_iinc (v := nI 4) (lv' := [(7, .int (nI 4)), (5, .long (lN 5)), (3, .long (((((lN 0) + ((-(lN 1)) * (T.p (i_ + 0)))) + ((lN 5) * (T.p (i_ + 1)))) + ((-(lN 10)) * (T.p (i_ + 2)))) + ((lN 10) * (T.p (i_ + 3))))), (0, .ref y_), (1, .int (nI 5)), (2, .int (nI i_))]) hx hb dX7_differenceAt_79 hl (k := 2) rfl (ks_inc 3 1) (by decide) rfl (fun ls hl => ?_)
                      refine lv_goto (tgt := 24) hx hb dX7_differenceAt_82 (by decide) ?_
                      refine lv_iload hx hb dX7_differenceAt_24 (lv_at hl 0 rfl) ?_
                      refine lv_iload_n hx hb dX7_differenceAt_26 rfl (lv_at hl 4 rfl) ?_
                      refine ks_icmp_gt (tgt := 85) hx hb dX7_differenceAt_27 (by decide) (by omega) (by omega) (fun c_27 => ?_) (fun c_27 => ?_)
                      · omega
                      · refine lv_lload_n hx hb dX7_differenceAt_30 rfl (lv_at hl 2 rfl) ?_
                        refine lv_iload_n hx hb dX7_differenceAt_31 rfl (lv_at hl 4 rfl) ?_
                        refine lv_iload hx hb dX7_differenceAt_32 (lv_at hl 0 rfl) ?_
                        refine ks_isubN hx hb dX7_differenceAt_34 (by omega) ?_
                        refine lv_iconst (v := nI 2) hx hb dX7_differenceAt_35 (by decide) ?_
                        refine ks_iremN hx hb dX7_differenceAt_36 (by omega) (by omega) (by omega) ?_
                        refine ks_if_ne (tgt := 45) hx hb dX7_differenceAt_37 (by decide) (by omega) (fun c_37 => ?_) (fun c_37 => ?_)
                        · refine lv_lload hx hb dX7_differenceAt_45 (lv_at hl 1 rfl) ?_
                          refine lv_lneg hx hb dX7_differenceAt_47 ?_
                          refine lv_aload_n hx hb dX7_differenceAt_48 rfl (lv_at hl 3 rfl) ?_
                          refine va_get (D := G.1) (ci := 7) (v := .ref (ca 0)) (C := RX7) (T := TX7) (N := 12) hx hb hts hin7 hown hK hP 0 rfl rfl 0 (by decide) (hts (.fieldLink RX7 7 "PowerTablesModel" "now" "[J") (List.mem_of_getElem? (i := 1) rfl)) (fun _ h9 => h9) rfl dX7_differenceAt_49 ?_
                          refine lv_bipush (v := nI 23) hx hb dX7_differenceAt_52 (by decide) ?_
                          refine lv_iload_n hx hb dX7_differenceAt_54 rfl (lv_at hl 5 rfl) ?_
                          refine ks_iaddN hx hb dX7_differenceAt_55 ?_
                          refine lv_iload hx hb dX7_differenceAt_56 (lv_at hl 0 rfl) ?_
                          refine ks_iaddN hx hb dX7_differenceAt_58 ?_
                          refine ks_lald hx hb hK hP 1 rfl (by omega) (by decide) dX7_differenceAt_59 ?_
                          refine ks_vL (show mV T (23 + i_ + 4) = T.p (i_ + 4) from mV_p (j := i_ + 4) (by omega)) ?_
                          refine lv_lmul hx hb dX7_differenceAt_60 ?_
                          refine lv_ladd hx hb dX7_differenceAt_61 ?_
                          refine lv_lstore_n (lv' := [(3, .long ((((((lN 0) + ((-(lN 1)) * (T.p (i_ + 0)))) + ((lN 5) * (T.p (i_ + 1)))) + ((-(lN 10)) * (T.p (i_ + 2)))) + ((lN 10) * (T.p (i_ + 3)))) + ((-(lN 5)) * (T.p (i_ + 4))))), (7, .int (nI 4)), (5, .long (lN 5)), (0, .ref y_), (1, .int (nI 5)), (2, .int (nI i_))]) hx hb dX7_differenceAt_62 rfl hl (by decide) rfl (fun ls hl => ?_)
                          refine lv_lload hx hb dX7_differenceAt_63 (lv_at hl 2 rfl) ?_
                          refine lv_iload_n hx hb dX7_differenceAt_65 rfl (lv_at hl 4 rfl) ?_
                          refine lv_iload hx hb dX7_differenceAt_66 (lv_at hl 1 rfl) ?_
                          refine ks_isubN hx hb dX7_differenceAt_68 (by omega) ?_
                          refine ks_i2lN hx hb dX7_differenceAt_69 (by omega) ?_
                          refine ks_lmulN hx hb dX7_differenceAt_70 ?_
                          refine lv_iload hx hb dX7_differenceAt_71 (lv_at hl 1 rfl) ?_
                          refine lv_iconst (v := nI 1) hx hb dX7_differenceAt_73 (by decide) ?_
                          refine ks_iaddN hx hb dX7_differenceAt_74 ?_
                          refine ks_i2lN hx hb dX7_differenceAt_75 (by omega) ?_
                          refine ks_ldivN hx hb dX7_differenceAt_76 (by omega) (by omega) (by omega) ?_
                          refine lv_lstore (lv' := [(5, .long (lN 1)), (3, .long ((((((lN 0) + ((-(lN 1)) * (T.p (i_ + 0)))) + ((lN 5) * (T.p (i_ + 1)))) + ((-(lN 10)) * (T.p (i_ + 2)))) + ((lN 10) * (T.p (i_ + 3)))) + ((-(lN 5)) * (T.p (i_ + 4))))), (7, .int (nI 4)), (0, .ref y_), (1, .int (nI 5)), (2, .int (nI i_))]) hx hb dX7_differenceAt_77 hl (by decide) rfl (fun ls hl => ?_)
                          refine lv_iinc (v := nI 5) (lv' := [(7, .int (nI 5)), (5, .long (lN 1)), (3, .long ((((((lN 0) + ((-(lN 1)) * (T.p (i_ + 0)))) + ((lN 5) * (T.p (i_ + 1)))) + ((-(lN 10)) * (T.p (i_ + 2)))) + ((lN 10) * (T.p (i_ + 3)))) + ((-(lN 5)) * (T.p (i_ + 4))))), (0, .ref y_), (1, .int (nI 5)), (2, .int (nI i_))]) hx hb dX7_differenceAt_79 hl (k := 2) rfl (ks_inc 4 1) (by decide) rfl (fun ls hl => ?_)
                          refine lv_goto (tgt := 24) hx hb dX7_differenceAt_82 (by decide) ?_
                          refine lv_iload hx hb dX7_differenceAt_24 (lv_at hl 0 rfl) ?_
                          refine lv_iload_n hx hb dX7_differenceAt_26 rfl (lv_at hl 4 rfl) ?_
                          refine ks_icmp_gt (tgt := 85) hx hb dX7_differenceAt_27 (by decide) (by omega) (by omega) (fun c_27 => ?_) (fun c_27 => ?_)
                          · omega
                          · refine lv_lload_n hx hb dX7_differenceAt_30 rfl (lv_at hl 2 rfl) ?_
                            refine lv_iload_n hx hb dX7_differenceAt_31 rfl (lv_at hl 4 rfl) ?_
                            refine lv_iload hx hb dX7_differenceAt_32 (lv_at hl 0 rfl) ?_
                            refine ks_isubN hx hb dX7_differenceAt_34 (by omega) ?_
                            refine lv_iconst (v := nI 2) hx hb dX7_differenceAt_35 (by decide) ?_
                            refine ks_iremN hx hb dX7_differenceAt_36 (by omega) (by omega) (by omega) ?_
                            refine ks_if_ne (tgt := 45) hx hb dX7_differenceAt_37 (by decide) (by omega) (fun c_37 => ?_) (fun c_37 => ?_)
                            · omega
                            · refine lv_lload hx hb dX7_differenceAt_40 (lv_at hl 1 rfl) ?_
                              refine lv_goto (tgt := 48) hx hb dX7_differenceAt_42 (by decide) ?_
                              refine lv_aload_n hx hb dX7_differenceAt_48 rfl (lv_at hl 3 rfl) ?_
                              refine va_get (D := G.1) (ci := 7) (v := .ref (ca 0)) (C := RX7) (T := TX7) (N := 12) hx hb hts hin7 hown hK hP 0 rfl rfl 0 (by decide) (hts (.fieldLink RX7 7 "PowerTablesModel" "now" "[J") (List.mem_of_getElem? (i := 1) rfl)) (fun _ h9 => h9) rfl dX7_differenceAt_49 ?_
                              refine lv_bipush (v := nI 23) hx hb dX7_differenceAt_52 (by decide) ?_
                              refine lv_iload_n hx hb dX7_differenceAt_54 rfl (lv_at hl 5 rfl) ?_
                              refine ks_iaddN hx hb dX7_differenceAt_55 ?_
                              refine lv_iload hx hb dX7_differenceAt_56 (lv_at hl 0 rfl) ?_
                              refine ks_iaddN hx hb dX7_differenceAt_58 ?_
                              refine ks_lald hx hb hK hP 1 rfl (by omega) (by decide) dX7_differenceAt_59 ?_
                              refine ks_vL (show mV T (23 + i_ + 5) = T.p (i_ + 5) from mV_p (j := i_ + 5) (by omega)) ?_
                              refine lv_lmul hx hb dX7_differenceAt_60 ?_
                              refine lv_ladd hx hb dX7_differenceAt_61 ?_
                              refine lv_lstore_n (lv' := [(3, .long (((((((lN 0) + ((-(lN 1)) * (T.p (i_ + 0)))) + ((lN 5) * (T.p (i_ + 1)))) + ((-(lN 10)) * (T.p (i_ + 2)))) + ((lN 10) * (T.p (i_ + 3)))) + ((-(lN 5)) * (T.p (i_ + 4)))) + ((lN 1) * (T.p (i_ + 5))))), (7, .int (nI 5)), (5, .long (lN 1)), (0, .ref y_), (1, .int (nI 5)), (2, .int (nI i_))]) hx hb dX7_differenceAt_62 rfl hl (by decide) rfl (fun ls hl => ?_)
                              refine lv_lload hx hb dX7_differenceAt_63 (lv_at hl 2 rfl) ?_
                              refine lv_iload_n hx hb dX7_differenceAt_65 rfl (lv_at hl 4 rfl) ?_
                              refine lv_iload hx hb dX7_differenceAt_66 (lv_at hl 1 rfl) ?_
                              refine ks_isubN hx hb dX7_differenceAt_68 (by omega) ?_
                              refine ks_i2lN hx hb dX7_differenceAt_69 (by omega) ?_
                              refine ks_lmulN hx hb dX7_differenceAt_70 ?_
                              refine lv_iload hx hb dX7_differenceAt_71 (lv_at hl 1 rfl) ?_
                              refine lv_iconst (v := nI 1) hx hb dX7_differenceAt_73 (by decide) ?_
                              refine ks_iaddN hx hb dX7_differenceAt_74 ?_
                              refine ks_i2lN hx hb dX7_differenceAt_75 (by omega) ?_
                              refine ks_ldivN hx hb dX7_differenceAt_76 (by omega) (by omega) (by omega) ?_
                              refine lv_lstore (lv' := [(5, .long (lN 0)), (3, .long (((((((lN 0) + ((-(lN 1)) * (T.p (i_ + 0)))) + ((lN 5) * (T.p (i_ + 1)))) + ((-(lN 10)) * (T.p (i_ + 2)))) + ((lN 10) * (T.p (i_ + 3)))) + ((-(lN 5)) * (T.p (i_ + 4)))) + ((lN 1) * (T.p (i_ + 5))))), (7, .int (nI 5)), (0, .ref y_), (1, .int (nI 5)), (2, .int (nI i_))]) hx hb dX7_differenceAt_77 hl (by decide) rfl (fun ls hl => ?_)
                              refine lv_iinc (v := nI 6) (lv' := [(7, .int (nI 6)), (5, .long (lN 0)), (3, .long (((((((lN 0) + ((-(lN 1)) * (T.p (i_ + 0)))) + ((lN 5) * (T.p (i_ + 1)))) + ((-(lN 10)) * (T.p (i_ + 2)))) + ((lN 10) * (T.p (i_ + 3)))) + ((-(lN 5)) * (T.p (i_ + 4)))) + ((lN 1) * (T.p (i_ + 5))))), (0, .ref y_), (1, .int (nI 5)), (2, .int (nI i_))]) hx hb dX7_differenceAt_79 hl (k := 2) rfl (ks_inc 5 1) (by decide) rfl (fun ls hl => ?_)
                              refine lv_goto (tgt := 24) hx hb dX7_differenceAt_82 (by decide) ?_
                              refine lv_iload hx hb dX7_differenceAt_24 (lv_at hl 0 rfl) ?_
                              refine lv_iload_n hx hb dX7_differenceAt_26 rfl (lv_at hl 4 rfl) ?_
                              refine ks_icmp_gt (tgt := 85) hx hb dX7_differenceAt_27 (by decide) (by omega) (by omega) (fun c_27 => ?_) (fun c_27 => ?_)
                              · refine lv_lload_n hx hb dX7_differenceAt_85 rfl (lv_at hl 2 rfl) ?_
                                exact cr_lret hx hb hr hlocks hK hP hD hS dX7_differenceAt_86 (by rw [hRR]; exact ctR_l ((rd5 T.p i_).trans (if_pos c_10).symm) (rfl))
                              · omega
                        · omega
                · omega
        · omega
    · refine lv_lconst (v := lN 0) hx hb dX7_differenceAt_14 rfl ?_
      exact cr_lret hx hb hr hlocks hK hP hD hS dX7_differenceAt_15 (by rw [hRR]; exact ctR_l ((if_neg (by omega)).symm) (rfl))
set_option maxHeartbeats 4000000 in
set_option maxRecDepth 100000 in
theorem c_X7_difference (G : GG) (l : Launch) (y_ : Nat) (ca : Nat → Nat) (ke : Nat) (ty_ : Nat) (th : Nat) (po : Nat) (fl_ : Prop) (tl : Nat) (T : TS) (j_ : Nat) (i_ : Nat) (jj : j_ < 6) (ji : i_ < T.s 4) (jn4 : T.s 4 ≤ 40) : Cr G l yX7_difference wsX7_difference ({ frames := 2, cells := 0, slots := 0, locals := 46 }) 0 0 [.ref y_, .int (nI j_), .int (nI i_)] [(y_, .inr (7, [.ref (ca 0), .ref (ca 1), .ref (ca 2), .int (nI ke), .ref (ca 3), .int (nI ty_), .int (nI th), .int (nI po), .int (bI fl_), .ref (ca 4), .int (nI tl), .ref (ca 5)])), (ca 0, .inl (G.2.2.1, 103, .inr (.inl (mV T))))] (ctR (some (.long (dfA T j_ i_))) [(y_, .inr (7, [.ref (ca 0), .ref (ca 1), .ref (ca 2), .int (nI ke), .ref (ca 3), .int (nI ty_), .int (nI 0), .int (nI po), .int (bI fl_), .ref (ca 4), .int (nI tl), .ref (ca 5)])), (ca 0, .inl (G.2.2.1, 103, .inr (.inl (mV T))))]) := by
  refine cr_intro (cc := cX7_difference) (maxL := 3) (ret := (some .long)) (own := RX7) (by decide) rfl rfl (Nat.le_of_ble_eq_true rfl) ?_
  intro p e s m args below meth c A hx hb hr hml hts hown hlocks hnm hNX hP hK hD hA hS ls hl
  obtain ⟨RR, hRR⟩ : ∃ RR, RR = (ctR (some (.long (dfA T j_ i_))) [(y_, .inr (7, [.ref (ca 0), .ref (ca 1), .ref (ca 2), .int (nI ke), .ref (ca 3), .int (nI ty_), .int (nI 0), .int (nI po), .int (bI fl_), .ref (ca 4), .int (nI tl), .ref (ca 5)])), (ca 0, .inl (G.2.2.1, 103, .inr (.inl (mV T))))]) := ⟨_, rfl⟩
  rw [← hRR]
  have hl : lv_has ls 3 [(0, .ref y_), (1, .int (nI j_)), (2, .int (nI i_))] := hl
  have hin7 : ∀ w ∈ u_ws RX7 TX7 12, w ∈ wsX7_difference := fun w h => List.mem_cons_of_mem _ (List.mem_append_right _ h)
  refine lv_aload_n hx hb dX7_difference_0 rfl (lv_at hl 0 rfl) ?_
  refine lv_iconst (v := nI 0) hx hb dX7_difference_1 (by decide) ?_
  refine va_put (D := G.1) (ci := 7) (v := .int (nI 0)) (ty := .int) (C := RX7) (T := TX7) (N := 12) hx hb hts hin7 tyX7 tyX7_ok nmX7 hown hK hP hD hS 0 rfl rfl 6 (by decide) (hts (.fieldLink RX7 39 "PowerTablesModel" "thrown" "I") (List.mem_of_getElem? (i := 1) rfl)) (fun _ h9 => h9) rfl (tyX7_ok 6 (by decide)) rfl rfl (Nat.le_of_ble_eq_true rfl) dX7_difference_2 (fun Hq lcq hP hD hS => ?_)
  have hP : va_P G.1 vwCl [(y_, .inr (7, [.ref (ca 0), .ref (ca 1), .ref (ca 2), .int (nI ke), .ref (ca 3), .int (nI ty_), .int (nI 0), .int (nI po), .int (bI fl_), .ref (ca 4), .int (nI tl), .ref (ca 5)])), (ca 0, .inl (G.2.2.1, 103, .inr (.inl (mV T))))] _ := hP
  have hD : va_D A [(y_, .inr (7, [.ref (ca 0), .ref (ca 1), .ref (ca 2), .int (nI ke), .ref (ca 3), .int (nI ty_), .int (nI 0), .int (nI po), .int (bI fl_), .ref (ca 4), .int (nI tl), .ref (ca 5)])), (ca 0, .inl (G.2.2.1, 103, .inr (.inl (mV T))))] := hD
  refine lv_iload_n hx hb dX7_difference_5 rfl (lv_at hl 1 rfl) ?_
  refine ks_i2lN hx hb dX7_difference_6 (by omega) ?_
  refine lv_lconst (v := lN 0) hx hb dX7_difference_7 rfl ?_
  refine lv_ldc2 hx hb hown (hts (.constantLong RX7 29 (5)) (List.mem_of_getElem? (i := 2) rfl)) dX7_difference_8 ?_
  refine ks_vL (show (5 : Int64) = lN 5 from rfl) ?_
  refine cr_S (wr := [(y_, .inr (7, [.ref (ca 0), .ref (ca 1), .ref (ca 2), .int (nI ke), .ref (ca 3), .int (nI ty_), .int (nI 0), .int (nI po), .int (bI fl_), .ref (ca 4), .int (nI tl), .ref (ca 5)])), (ca 0, .inl (G.2.2.1, 103, .inr (.inl (mV T))))]) (As := [.long (lN j_), .long (lN 0), .long (lN 5)]) (rest := []) ⟨hx, hb, hml, hown, hts⟩ (c_X7_in__n G l j_ 0 5 (by omega) (by omega) (by omega)) (va_cwS 3 hts gX7_difference_X7_in rfl rfl rfl (by decide +kernel) ⟨Nat.le_of_ble_eq_true rfl, Nat.le_of_ble_eq_true rfl⟩) dX7_difference_11 hK hNX hP hD hS hA hl [] [0, 1] rfl rfl rfl rfl (by decide) rfl (Nat.le_of_ble_eq_true rfl) ⟨Nat.le_of_ble_eq_true rfl, Nat.le_of_ble_eq_true rfl⟩ rfl (fun v' w' Hq lcq hR' hP hD hS => ?_)
  obtain ⟨rfl, rfl⟩ := hR'
  have hP : va_P G.1 vwCl [(y_, .inr (7, [.ref (ca 0), .ref (ca 1), .ref (ca 2), .int (nI ke), .ref (ca 3), .int (nI ty_), .int (nI 0), .int (nI po), .int (bI fl_), .ref (ca 4), .int (nI tl), .ref (ca 5)])), (ca 0, .inl (G.2.2.1, 103, .inr (.inl (mV T))))] _ := hP.sub [0, 1] rfl
  have hD : va_D A [(y_, .inr (7, [.ref (ca 0), .ref (ca 1), .ref (ca 2), .int (nI ke), .ref (ca 3), .int (nI ty_), .int (nI 0), .int (nI po), .int (bI fl_), .ref (ca 4), .int (nI tl), .ref (ca 5)])), (ca 0, .inl (G.2.2.1, 103, .inr (.inl (mV T))))] := hD.sub [0, 1] (by decide +kernel) rfl
  refine ks_ifb_ne (tgt := 24) hx hb dX7_difference_14 (by decide) (fun c_14 => ?_) (fun c_14 => ?_)
  · refine lv_aload_n hx hb dX7_difference_24 rfl (lv_at hl 0 rfl) ?_
    refine lv_iload_n hx hb dX7_difference_25 rfl (lv_at hl 2 rfl) ?_
    refine cr_V (wr := []) (As := [.int (nI i_)]) (rest := []) ⟨hx, hb, hml, hown, hts⟩ (c_X7_isRow__n G l y_ ca ke ty_ 0 po fl_ tl T i_ (by omega) (by omega)) (cwV 1 hts gX7_difference_X7_isRow rfl rfl rfl (by decide +kernel) ⟨Nat.le_of_ble_eq_true rfl, Nat.le_of_ble_eq_true rfl⟩) dX7_difference_26 hK hNX hP hD hS hA hl 0 7 rfl rfl rfl [0, 1] [] rfl rfl rfl rfl (by decide) rfl (Nat.le_of_ble_eq_true rfl) ⟨Nat.le_of_ble_eq_true rfl, Nat.le_of_ble_eq_true rfl⟩ rfl (fun v' w' Hq lcq hR' hP hD hS => ?_)
    obtain ⟨rfl, rfl⟩ := hR'
    have hP : va_P G.1 vwCl [(y_, .inr (7, [.ref (ca 0), .ref (ca 1), .ref (ca 2), .int (nI ke), .ref (ca 3), .int (nI ty_), .int (nI 0), .int (nI po), .int (bI fl_), .ref (ca 4), .int (nI tl), .ref (ca 5)])), (ca 0, .inl (G.2.2.1, 103, .inr (.inl (mV T))))] _ := hP.sub [0, 1] rfl
    have hD : va_D A [(y_, .inr (7, [.ref (ca 0), .ref (ca 1), .ref (ca 2), .int (nI ke), .ref (ca 3), .int (nI ty_), .int (nI 0), .int (nI po), .int (bI fl_), .ref (ca 4), .int (nI tl), .ref (ca 5)])), (ca 0, .inl (G.2.2.1, 103, .inr (.inl (mV T))))] := hD.sub [0, 1] (by decide +kernel) rfl
    refine ks_ifb_eq (tgt := 41) hx hb dX7_difference_29 (by decide) (fun c_29 => ?_) (fun c_29 => ?_)
    · exact absurd ji c_29
    · refine lv_aload_n hx hb dX7_difference_32 rfl (lv_at hl 0 rfl) ?_
      refine lv_iload_n hx hb dX7_difference_33 rfl (lv_at hl 1 rfl) ?_
      refine lv_iload_n hx hb dX7_difference_34 rfl (lv_at hl 2 rfl) ?_
      refine cr_V (wr := []) (As := [.int (nI j_), .int (nI i_)]) (rest := []) ⟨hx, hb, hml, hown, hts⟩ (c_X7_differenceAt G l y_ ca ke ty_ 0 po fl_ tl T j_ i_ (by omega) (by omega) (by omega)) (cwV 2 hts gX7_difference_X7_differenceAt rfl rfl rfl (by decide +kernel) ⟨Nat.le_of_ble_eq_true rfl, Nat.le_of_ble_eq_true rfl⟩) dX7_difference_35 hK hNX hP hD hS hA hl 0 7 rfl rfl rfl [0, 1] [] rfl rfl rfl rfl (by decide) rfl (Nat.le_of_ble_eq_true rfl) ⟨Nat.le_of_ble_eq_true rfl, Nat.le_of_ble_eq_true rfl⟩ rfl (fun v' w' Hq lcq hR' hP hD hS => ?_)
      obtain ⟨rfl, rfl⟩ := hR'
      have hP : va_P G.1 vwCl [(y_, .inr (7, [.ref (ca 0), .ref (ca 1), .ref (ca 2), .int (nI ke), .ref (ca 3), .int (nI ty_), .int (nI 0), .int (nI po), .int (bI fl_), .ref (ca 4), .int (nI tl), .ref (ca 5)])), (ca 0, .inl (G.2.2.1, 103, .inr (.inl (mV T))))] _ := hP.sub [0, 1] rfl
      have hD : va_D A [(y_, .inr (7, [.ref (ca 0), .ref (ca 1), .ref (ca 2), .int (nI ke), .ref (ca 3), .int (nI ty_), .int (nI 0), .int (nI po), .int (bI fl_), .ref (ca 4), .int (nI tl), .ref (ca 5)])), (ca 0, .inl (G.2.2.1, 103, .inr (.inl (mV T))))] := hD.sub [0, 1] (by decide +kernel) rfl
      refine lv_goto (tgt := 47) hx hb dX7_difference_38 (by decide) ?_
      exact cr_lret hx hb hr hlocks hK hP hD hS dX7_difference_47 (by rw [hRR]; exact ctR_l (rfl) (rfl))
  · exact absurd ⟨Nat.zero_le _, by omega⟩ c_14
set_option maxHeartbeats 4000000 in
set_option maxRecDepth 100000 in
theorem c_X7_difference__b1 (G : GG) (l : Launch) (y_ : Nat) (ca : Nat → Nat) (ke : Nat) (ty_ : Nat) (th : Nat) (po : Nat) (fl_ : Prop) (tl : Nat) (T : TS) (v_ : Int32) (u_ : Int32) (h8 : ¬ (0 ≤ v_.toInt ∧ v_.toInt ≤ 5)) : Cr G l yX7_difference wsX7_difference ({ frames := 2, cells := 0, slots := 0, locals := 46 }) 0 0 [.ref y_, .int v_, .int u_] [(y_, .inr (7, [.ref (ca 0), .ref (ca 1), .ref (ca 2), .int (nI ke), .ref (ca 3), .int (nI ty_), .int (nI th), .int (nI po), .int (bI fl_), .ref (ca 4), .int (nI tl), .ref (ca 5)])), (ca 0, .inl (G.2.2.1, 103, .inr (.inl (mV T))))] (ctR (some (.long (lN 0))) [(y_, .inr (7, [.ref (ca 0), .ref (ca 1), .ref (ca 2), .int (nI ke), .ref (ca 3), .int (nI ty_), .int (nI 1), .int (nI po), .int (bI fl_), .ref (ca 4), .int (nI tl), .ref (ca 5)])), (ca 0, .inl (G.2.2.1, 103, .inr (.inl (mV T))))]) := by
  refine cr_intro (cc := cX7_difference) (maxL := 3) (ret := (some .long)) (own := RX7) (by decide) rfl rfl (Nat.le_of_ble_eq_true rfl) ?_
  intro p e s m args below meth c A hx hb hr hml hts hown hlocks hnm hNX hP hK hD hA hS ls hl
  obtain ⟨RR, hRR⟩ : ∃ RR, RR = (ctR (some (.long (lN 0))) [(y_, .inr (7, [.ref (ca 0), .ref (ca 1), .ref (ca 2), .int (nI ke), .ref (ca 3), .int (nI ty_), .int (nI 1), .int (nI po), .int (bI fl_), .ref (ca 4), .int (nI tl), .ref (ca 5)])), (ca 0, .inl (G.2.2.1, 103, .inr (.inl (mV T))))]) := ⟨_, rfl⟩
  rw [← hRR]
  have hl : lv_has ls 3 [(0, .ref y_), (1, .int v_), (2, .int u_)] := hl
  have hin7 : ∀ w ∈ u_ws RX7 TX7 12, w ∈ wsX7_difference := fun w h => List.mem_cons_of_mem _ (List.mem_append_right _ h)
  refine lv_aload_n hx hb dX7_difference_0 rfl (lv_at hl 0 rfl) ?_
  refine lv_iconst (v := nI 0) hx hb dX7_difference_1 (by decide) ?_
  refine va_put (D := G.1) (ci := 7) (v := .int (nI 0)) (ty := .int) (C := RX7) (T := TX7) (N := 12) hx hb hts hin7 tyX7 tyX7_ok nmX7 hown hK hP hD hS 0 rfl rfl 6 (by decide) (hts (.fieldLink RX7 39 "PowerTablesModel" "thrown" "I") (List.mem_of_getElem? (i := 1) rfl)) (fun _ h9 => h9) rfl (tyX7_ok 6 (by decide)) rfl rfl (Nat.le_of_ble_eq_true rfl) dX7_difference_2 (fun Hq lcq hP hD hS => ?_)
  have hP : va_P G.1 vwCl [(y_, .inr (7, [.ref (ca 0), .ref (ca 1), .ref (ca 2), .int (nI ke), .ref (ca 3), .int (nI ty_), .int (nI 0), .int (nI po), .int (bI fl_), .ref (ca 4), .int (nI tl), .ref (ca 5)])), (ca 0, .inl (G.2.2.1, 103, .inr (.inl (mV T))))] _ := hP
  have hD : va_D A [(y_, .inr (7, [.ref (ca 0), .ref (ca 1), .ref (ca 2), .int (nI ke), .ref (ca 3), .int (nI ty_), .int (nI 0), .int (nI po), .int (bI fl_), .ref (ca 4), .int (nI tl), .ref (ca 5)])), (ca 0, .inl (G.2.2.1, 103, .inr (.inl (mV T))))] := hD
  refine lv_iload_n hx hb dX7_difference_5 rfl (lv_at hl 1 rfl) ?_
  refine lv_i2l hx hb dX7_difference_6 rfl ?_
  refine lv_lconst (v := lN 0) hx hb dX7_difference_7 rfl ?_
  refine lv_ldc2 hx hb hown (hts (.constantLong RX7 29 (5)) (List.mem_of_getElem? (i := 2) rfl)) dX7_difference_8 ?_
  refine ks_vL (show (5 : Int64) = lN 5 from rfl) ?_
  refine cr_S (wr := [(y_, .inr (7, [.ref (ca 0), .ref (ca 1), .ref (ca 2), .int (nI ke), .ref (ca 3), .int (nI ty_), .int (nI 0), .int (nI po), .int (bI fl_), .ref (ca 4), .int (nI tl), .ref (ca 5)])), (ca 0, .inl (G.2.2.1, 103, .inr (.inl (mV T))))]) (As := [.long v_.toInt64, .long (lN 0), .long (lN 5)]) (rest := []) ⟨hx, hb, hml, hown, hts⟩ (c_X7_in__i G l v_ 0 5 (by omega) (by omega)) (va_cwS 3 hts gX7_difference_X7_in rfl rfl rfl (by decide +kernel) ⟨Nat.le_of_ble_eq_true rfl, Nat.le_of_ble_eq_true rfl⟩) dX7_difference_11 hK hNX hP hD hS hA hl [] [0, 1] rfl rfl rfl rfl (by decide) rfl (Nat.le_of_ble_eq_true rfl) ⟨Nat.le_of_ble_eq_true rfl, Nat.le_of_ble_eq_true rfl⟩ rfl (fun v' w' Hq lcq hR' hP hD hS => ?_)
  obtain ⟨rfl, rfl⟩ := hR'
  have hP : va_P G.1 vwCl [(y_, .inr (7, [.ref (ca 0), .ref (ca 1), .ref (ca 2), .int (nI ke), .ref (ca 3), .int (nI ty_), .int (nI 0), .int (nI po), .int (bI fl_), .ref (ca 4), .int (nI tl), .ref (ca 5)])), (ca 0, .inl (G.2.2.1, 103, .inr (.inl (mV T))))] _ := hP.sub [0, 1] rfl
  have hD : va_D A [(y_, .inr (7, [.ref (ca 0), .ref (ca 1), .ref (ca 2), .int (nI ke), .ref (ca 3), .int (nI ty_), .int (nI 0), .int (nI po), .int (bI fl_), .ref (ca 4), .int (nI tl), .ref (ca 5)])), (ca 0, .inl (G.2.2.1, 103, .inr (.inl (mV T))))] := hD.sub [0, 1] (by decide +kernel) rfl
  refine ks_ifb_ne (tgt := 24) hx hb dX7_difference_14 (by decide) (fun c_14 => ?_) (fun c_14 => ?_)
  · exact absurd c_14 h8
  · refine lv_aload_n hx hb dX7_difference_17 rfl (lv_at hl 0 rfl) ?_
    refine lv_iconst (v := nI 1) hx hb dX7_difference_18 (by decide) ?_
    refine cr_V (wr := [(ca 0, .inl (G.2.2.1, 103, .inr (.inl (mV T))))]) (As := [.int (nI 1)]) (rest := []) ⟨hx, hb, hml, hown, hts⟩ (c_X7_fails G l y_ ca ke ty_ 0 po fl_ tl 1 ) (cwV 1 hts gX7_difference_X7_fails rfl rfl rfl (by decide +kernel) ⟨Nat.le_of_ble_eq_true rfl, Nat.le_of_ble_eq_true rfl⟩) dX7_difference_19 hK hNX hP hD hS hA hl 0 7 rfl rfl rfl [0] [1] rfl rfl rfl rfl (by decide) rfl (Nat.le_of_ble_eq_true rfl) ⟨Nat.le_of_ble_eq_true rfl, Nat.le_of_ble_eq_true rfl⟩ rfl (fun v' w' Hq lcq hR' hP hD hS => ?_)
    obtain ⟨rfl, rfl⟩ := hR'
    have hP : va_P G.1 vwCl [(y_, .inr (7, [.ref (ca 0), .ref (ca 1), .ref (ca 2), .int (nI ke), .ref (ca 3), .int (nI ty_), .int (nI 1), .int (nI po), .int (bI fl_), .ref (ca 4), .int (nI tl), .ref (ca 5)])), (ca 0, .inl (G.2.2.1, 103, .inr (.inl (mV T))))] _ := hP.sub [1, 0] rfl
    have hD : va_D A [(y_, .inr (7, [.ref (ca 0), .ref (ca 1), .ref (ca 2), .int (nI ke), .ref (ca 3), .int (nI ty_), .int (nI 1), .int (nI po), .int (bI fl_), .ref (ca 4), .int (nI tl), .ref (ca 5)])), (ca 0, .inl (G.2.2.1, 103, .inr (.inl (mV T))))] := hD.sub [1, 0] (by decide +kernel) rfl
    refine ks_i2lN hx hb dX7_difference_22 (by omega) ?_
    exact cr_lret hx hb hr hlocks hK hP hD hS dX7_difference_23 (by rw [hRR]; exact ctR_l (rfl) (rfl))
set_option maxHeartbeats 4000000 in
set_option maxRecDepth 100000 in
theorem c_X7_difference__b2 (G : GG) (l : Launch) (y_ : Nat) (ca : Nat → Nat) (ke : Nat) (ty_ : Nat) (th : Nat) (po : Nat) (fl_ : Prop) (tl : Nat) (T : TS) (u_ : Int32) (v_ : Int32) (jn4 : T.s 4 ≤ 40) (j1 : 0 ≤ u_.toInt ∧ u_.toInt ≤ 5) (h8 : ¬ (0 ≤ v_.toInt ∧ v_.toInt < (T.s 4 : Int))) : Cr G l yX7_difference wsX7_difference ({ frames := 2, cells := 0, slots := 0, locals := 46 }) 0 0 [.ref y_, .int u_, .int v_] [(y_, .inr (7, [.ref (ca 0), .ref (ca 1), .ref (ca 2), .int (nI ke), .ref (ca 3), .int (nI ty_), .int (nI th), .int (nI po), .int (bI fl_), .ref (ca 4), .int (nI tl), .ref (ca 5)])), (ca 0, .inl (G.2.2.1, 103, .inr (.inl (mV T))))] (ctR (some (.long (lN 0))) [(y_, .inr (7, [.ref (ca 0), .ref (ca 1), .ref (ca 2), .int (nI ke), .ref (ca 3), .int (nI ty_), .int (nI 2), .int (nI po), .int (bI fl_), .ref (ca 4), .int (nI tl), .ref (ca 5)])), (ca 0, .inl (G.2.2.1, 103, .inr (.inl (mV T))))]) := by
  refine cr_intro (cc := cX7_difference) (maxL := 3) (ret := (some .long)) (own := RX7) (by decide) rfl rfl (Nat.le_of_ble_eq_true rfl) ?_
  intro p e s m args below meth c A hx hb hr hml hts hown hlocks hnm hNX hP hK hD hA hS ls hl
  obtain ⟨RR, hRR⟩ : ∃ RR, RR = (ctR (some (.long (lN 0))) [(y_, .inr (7, [.ref (ca 0), .ref (ca 1), .ref (ca 2), .int (nI ke), .ref (ca 3), .int (nI ty_), .int (nI 2), .int (nI po), .int (bI fl_), .ref (ca 4), .int (nI tl), .ref (ca 5)])), (ca 0, .inl (G.2.2.1, 103, .inr (.inl (mV T))))]) := ⟨_, rfl⟩
  rw [← hRR]
  have hl : lv_has ls 3 [(0, .ref y_), (1, .int u_), (2, .int v_)] := hl
  have hin7 : ∀ w ∈ u_ws RX7 TX7 12, w ∈ wsX7_difference := fun w h => List.mem_cons_of_mem _ (List.mem_append_right _ h)
  refine lv_aload_n hx hb dX7_difference_0 rfl (lv_at hl 0 rfl) ?_
  refine lv_iconst (v := nI 0) hx hb dX7_difference_1 (by decide) ?_
  refine va_put (D := G.1) (ci := 7) (v := .int (nI 0)) (ty := .int) (C := RX7) (T := TX7) (N := 12) hx hb hts hin7 tyX7 tyX7_ok nmX7 hown hK hP hD hS 0 rfl rfl 6 (by decide) (hts (.fieldLink RX7 39 "PowerTablesModel" "thrown" "I") (List.mem_of_getElem? (i := 1) rfl)) (fun _ h9 => h9) rfl (tyX7_ok 6 (by decide)) rfl rfl (Nat.le_of_ble_eq_true rfl) dX7_difference_2 (fun Hq lcq hP hD hS => ?_)
  have hP : va_P G.1 vwCl [(y_, .inr (7, [.ref (ca 0), .ref (ca 1), .ref (ca 2), .int (nI ke), .ref (ca 3), .int (nI ty_), .int (nI 0), .int (nI po), .int (bI fl_), .ref (ca 4), .int (nI tl), .ref (ca 5)])), (ca 0, .inl (G.2.2.1, 103, .inr (.inl (mV T))))] _ := hP
  have hD : va_D A [(y_, .inr (7, [.ref (ca 0), .ref (ca 1), .ref (ca 2), .int (nI ke), .ref (ca 3), .int (nI ty_), .int (nI 0), .int (nI po), .int (bI fl_), .ref (ca 4), .int (nI tl), .ref (ca 5)])), (ca 0, .inl (G.2.2.1, 103, .inr (.inl (mV T))))] := hD
  refine lv_iload_n hx hb dX7_difference_5 rfl (lv_at hl 1 rfl) ?_
  refine lv_i2l hx hb dX7_difference_6 rfl ?_
  refine lv_lconst (v := lN 0) hx hb dX7_difference_7 rfl ?_
  refine lv_ldc2 hx hb hown (hts (.constantLong RX7 29 (5)) (List.mem_of_getElem? (i := 2) rfl)) dX7_difference_8 ?_
  refine ks_vL (show (5 : Int64) = lN 5 from rfl) ?_
  refine cr_S (wr := [(y_, .inr (7, [.ref (ca 0), .ref (ca 1), .ref (ca 2), .int (nI ke), .ref (ca 3), .int (nI ty_), .int (nI 0), .int (nI po), .int (bI fl_), .ref (ca 4), .int (nI tl), .ref (ca 5)])), (ca 0, .inl (G.2.2.1, 103, .inr (.inl (mV T))))]) (As := [.long u_.toInt64, .long (lN 0), .long (lN 5)]) (rest := []) ⟨hx, hb, hml, hown, hts⟩ (c_X7_in__i G l u_ 0 5 (by omega) (by omega)) (va_cwS 3 hts gX7_difference_X7_in rfl rfl rfl (by decide +kernel) ⟨Nat.le_of_ble_eq_true rfl, Nat.le_of_ble_eq_true rfl⟩) dX7_difference_11 hK hNX hP hD hS hA hl [] [0, 1] rfl rfl rfl rfl (by decide) rfl (Nat.le_of_ble_eq_true rfl) ⟨Nat.le_of_ble_eq_true rfl, Nat.le_of_ble_eq_true rfl⟩ rfl (fun v' w' Hq lcq hR' hP hD hS => ?_)
  obtain ⟨rfl, rfl⟩ := hR'
  have hP : va_P G.1 vwCl [(y_, .inr (7, [.ref (ca 0), .ref (ca 1), .ref (ca 2), .int (nI ke), .ref (ca 3), .int (nI ty_), .int (nI 0), .int (nI po), .int (bI fl_), .ref (ca 4), .int (nI tl), .ref (ca 5)])), (ca 0, .inl (G.2.2.1, 103, .inr (.inl (mV T))))] _ := hP.sub [0, 1] rfl
  have hD : va_D A [(y_, .inr (7, [.ref (ca 0), .ref (ca 1), .ref (ca 2), .int (nI ke), .ref (ca 3), .int (nI ty_), .int (nI 0), .int (nI po), .int (bI fl_), .ref (ca 4), .int (nI tl), .ref (ca 5)])), (ca 0, .inl (G.2.2.1, 103, .inr (.inl (mV T))))] := hD.sub [0, 1] (by decide +kernel) rfl
  refine ks_ifb_ne (tgt := 24) hx hb dX7_difference_14 (by decide) (fun c_14 => ?_) (fun c_14 => ?_)
  · refine lv_aload_n hx hb dX7_difference_24 rfl (lv_at hl 0 rfl) ?_
    refine lv_iload_n hx hb dX7_difference_25 rfl (lv_at hl 2 rfl) ?_
    refine cr_V (wr := []) (As := [.int v_]) (rest := []) ⟨hx, hb, hml, hown, hts⟩ (c_X7_isRow G l y_ ca ke ty_ 0 po fl_ tl T v_ (by omega)) (cwV 1 hts gX7_difference_X7_isRow rfl rfl rfl (by decide +kernel) ⟨Nat.le_of_ble_eq_true rfl, Nat.le_of_ble_eq_true rfl⟩) dX7_difference_26 hK hNX hP hD hS hA hl 0 7 rfl rfl rfl [0, 1] [] rfl rfl rfl rfl (by decide) rfl (Nat.le_of_ble_eq_true rfl) ⟨Nat.le_of_ble_eq_true rfl, Nat.le_of_ble_eq_true rfl⟩ rfl (fun v' w' Hq lcq hR' hP hD hS => ?_)
    obtain ⟨rfl, rfl⟩ := hR'
    have hP : va_P G.1 vwCl [(y_, .inr (7, [.ref (ca 0), .ref (ca 1), .ref (ca 2), .int (nI ke), .ref (ca 3), .int (nI ty_), .int (nI 0), .int (nI po), .int (bI fl_), .ref (ca 4), .int (nI tl), .ref (ca 5)])), (ca 0, .inl (G.2.2.1, 103, .inr (.inl (mV T))))] _ := hP.sub [0, 1] rfl
    have hD : va_D A [(y_, .inr (7, [.ref (ca 0), .ref (ca 1), .ref (ca 2), .int (nI ke), .ref (ca 3), .int (nI ty_), .int (nI 0), .int (nI po), .int (bI fl_), .ref (ca 4), .int (nI tl), .ref (ca 5)])), (ca 0, .inl (G.2.2.1, 103, .inr (.inl (mV T))))] := hD.sub [0, 1] (by decide +kernel) rfl
    refine ks_ifb_eq (tgt := 41) hx hb dX7_difference_29 (by decide) (fun c_29 => ?_) (fun c_29 => ?_)
    · refine lv_aload_n hx hb dX7_difference_41 rfl (lv_at hl 0 rfl) ?_
      refine lv_iconst (v := nI 2) hx hb dX7_difference_42 (by decide) ?_
      refine cr_V (wr := [(ca 0, .inl (G.2.2.1, 103, .inr (.inl (mV T))))]) (As := [.int (nI 2)]) (rest := []) ⟨hx, hb, hml, hown, hts⟩ (c_X7_fails G l y_ ca ke ty_ 0 po fl_ tl 2 ) (cwV 1 hts gX7_difference_X7_fails rfl rfl rfl (by decide +kernel) ⟨Nat.le_of_ble_eq_true rfl, Nat.le_of_ble_eq_true rfl⟩) dX7_difference_43 hK hNX hP hD hS hA hl 0 7 rfl rfl rfl [0] [1] rfl rfl rfl rfl (by decide) rfl (Nat.le_of_ble_eq_true rfl) ⟨Nat.le_of_ble_eq_true rfl, Nat.le_of_ble_eq_true rfl⟩ rfl (fun v' w' Hq lcq hR' hP hD hS => ?_)
      obtain ⟨rfl, rfl⟩ := hR'
      have hP : va_P G.1 vwCl [(y_, .inr (7, [.ref (ca 0), .ref (ca 1), .ref (ca 2), .int (nI ke), .ref (ca 3), .int (nI ty_), .int (nI 2), .int (nI po), .int (bI fl_), .ref (ca 4), .int (nI tl), .ref (ca 5)])), (ca 0, .inl (G.2.2.1, 103, .inr (.inl (mV T))))] _ := hP.sub [1, 0] rfl
      have hD : va_D A [(y_, .inr (7, [.ref (ca 0), .ref (ca 1), .ref (ca 2), .int (nI ke), .ref (ca 3), .int (nI ty_), .int (nI 2), .int (nI po), .int (bI fl_), .ref (ca 4), .int (nI tl), .ref (ca 5)])), (ca 0, .inl (G.2.2.1, 103, .inr (.inl (mV T))))] := hD.sub [1, 0] (by decide +kernel) rfl
      refine ks_i2lN hx hb dX7_difference_46 (by omega) ?_
      exact cr_lret hx hb hr hlocks hK hP hD hS dX7_difference_47 (by rw [hRR]; exact ctR_l (rfl) (rfl))
    · exact absurd c_29 h8
  · exact absurd j1 c_14
set_option maxHeartbeats 4000000 in
set_option maxRecDepth 100000 in
theorem c_X7_wear (G : GG) (l : Launch) (y_ : Nat) (ca : Nat → Nat) (ke : Nat) (ty_ : Nat) (th : Nat) (po : Nat) (fl_ : Prop) (tl : Nat) (T : TS) (d_ : Nat) (jd : d_ < 10) : Cr G l yX7_wear wsX7_wear ({ frames := 1, cells := 0, slots := 0, locals := 25 }) 0 0 [.ref y_, .int (nI d_)] [(y_, .inr (7, [.ref (ca 0), .ref (ca 1), .ref (ca 2), .int (nI ke), .ref (ca 3), .int (nI ty_), .int (nI th), .int (nI po), .int (bI fl_), .ref (ca 4), .int (nI tl), .ref (ca 5)])), (ca 0, .inl (G.2.2.1, 103, .inr (.inl (mV T))))] (ctR (some (.int (nI (T.w d_)))) [(y_, .inr (7, [.ref (ca 0), .ref (ca 1), .ref (ca 2), .int (nI ke), .ref (ca 3), .int (nI ty_), .int (nI 0), .int (nI po), .int (bI fl_), .ref (ca 4), .int (nI tl), .ref (ca 5)])), (ca 0, .inl (G.2.2.1, 103, .inr (.inl (mV T))))]) := by
  refine cr_intro (cc := cX7_wear) (maxL := 2) (ret := (some .int)) (own := RX7) (by decide) rfl rfl (Nat.le_of_ble_eq_true rfl) ?_
  intro p e s m args below meth c A hx hb hr hml hts hown hlocks hnm hNX hP hK hD hA hS ls hl
  obtain ⟨RR, hRR⟩ : ∃ RR, RR = (ctR (some (.int (nI (T.w d_)))) [(y_, .inr (7, [.ref (ca 0), .ref (ca 1), .ref (ca 2), .int (nI ke), .ref (ca 3), .int (nI ty_), .int (nI 0), .int (nI po), .int (bI fl_), .ref (ca 4), .int (nI tl), .ref (ca 5)])), (ca 0, .inl (G.2.2.1, 103, .inr (.inl (mV T))))]) := ⟨_, rfl⟩
  rw [← hRR]
  have hl : lv_has ls 2 [(0, .ref y_), (1, .int (nI d_))] := hl
  have hin7 : ∀ w ∈ u_ws RX7 TX7 12, w ∈ wsX7_wear := fun w h => List.mem_cons_of_mem _ (List.mem_append_right _ h)
  refine lv_aload_n hx hb dX7_wear_0 rfl (lv_at hl 0 rfl) ?_
  refine lv_iconst (v := nI 0) hx hb dX7_wear_1 (by decide) ?_
  refine va_put (D := G.1) (ci := 7) (v := .int (nI 0)) (ty := .int) (C := RX7) (T := TX7) (N := 12) hx hb hts hin7 tyX7 tyX7_ok nmX7 hown hK hP hD hS 0 rfl rfl 6 (by decide) (hts (.fieldLink RX7 39 "PowerTablesModel" "thrown" "I") (List.mem_of_getElem? (i := 1) rfl)) (fun _ h9 => h9) rfl (tyX7_ok 6 (by decide)) rfl rfl (Nat.le_of_ble_eq_true rfl) dX7_wear_2 (fun Hq lcq hP hD hS => ?_)
  have hP : va_P G.1 vwCl [(y_, .inr (7, [.ref (ca 0), .ref (ca 1), .ref (ca 2), .int (nI ke), .ref (ca 3), .int (nI ty_), .int (nI 0), .int (nI po), .int (bI fl_), .ref (ca 4), .int (nI tl), .ref (ca 5)])), (ca 0, .inl (G.2.2.1, 103, .inr (.inl (mV T))))] _ := hP
  have hD : va_D A [(y_, .inr (7, [.ref (ca 0), .ref (ca 1), .ref (ca 2), .int (nI ke), .ref (ca 3), .int (nI ty_), .int (nI 0), .int (nI po), .int (bI fl_), .ref (ca 4), .int (nI tl), .ref (ca 5)])), (ca 0, .inl (G.2.2.1, 103, .inr (.inl (mV T))))] := hD
  refine lv_iload_n hx hb dX7_wear_5 rfl (lv_at hl 1 rfl) ?_
  refine ks_i2lN hx hb dX7_wear_6 (by omega) ?_
  refine lv_lconst (v := lN 0) hx hb dX7_wear_7 rfl ?_
  refine lv_ldc2 hx hb hown (hts (.constantLong RX7 87 (9)) (List.mem_of_getElem? (i := 2) rfl)) dX7_wear_8 ?_
  refine ks_vL (show (9 : Int64) = lN 9 from rfl) ?_
  refine cr_S (wr := [(y_, .inr (7, [.ref (ca 0), .ref (ca 1), .ref (ca 2), .int (nI ke), .ref (ca 3), .int (nI ty_), .int (nI 0), .int (nI po), .int (bI fl_), .ref (ca 4), .int (nI tl), .ref (ca 5)])), (ca 0, .inl (G.2.2.1, 103, .inr (.inl (mV T))))]) (As := [.long (lN d_), .long (lN 0), .long (lN 9)]) (rest := []) ⟨hx, hb, hml, hown, hts⟩ (c_X7_in__n G l d_ 0 9 (by omega) (by omega) (by omega)) (va_cwS 3 hts gX7_wear_X7_in rfl rfl rfl (by decide +kernel) ⟨Nat.le_of_ble_eq_true rfl, Nat.le_of_ble_eq_true rfl⟩) dX7_wear_11 hK hNX hP hD hS hA hl [] [0, 1] rfl rfl rfl rfl (by decide) rfl (Nat.le_of_ble_eq_true rfl) ⟨Nat.le_of_ble_eq_true rfl, Nat.le_of_ble_eq_true rfl⟩ rfl (fun v' w' Hq lcq hR' hP hD hS => ?_)
  obtain ⟨rfl, rfl⟩ := hR'
  have hP : va_P G.1 vwCl [(y_, .inr (7, [.ref (ca 0), .ref (ca 1), .ref (ca 2), .int (nI ke), .ref (ca 3), .int (nI ty_), .int (nI 0), .int (nI po), .int (bI fl_), .ref (ca 4), .int (nI tl), .ref (ca 5)])), (ca 0, .inl (G.2.2.1, 103, .inr (.inl (mV T))))] _ := hP.sub [0, 1] rfl
  have hD : va_D A [(y_, .inr (7, [.ref (ca 0), .ref (ca 1), .ref (ca 2), .int (nI ke), .ref (ca 3), .int (nI ty_), .int (nI 0), .int (nI po), .int (bI fl_), .ref (ca 4), .int (nI tl), .ref (ca 5)])), (ca 0, .inl (G.2.2.1, 103, .inr (.inl (mV T))))] := hD.sub [0, 1] (by decide +kernel) rfl
  refine ks_ifb_eq (tgt := 30) hx hb dX7_wear_14 (by decide) (fun c_14 => ?_) (fun c_14 => ?_)
  · exact absurd ⟨Nat.zero_le _, by omega⟩ c_14
  · refine lv_aload_n hx hb dX7_wear_17 rfl (lv_at hl 0 rfl) ?_
    refine va_get (D := G.1) (ci := 7) (v := .ref (ca 0)) (C := RX7) (T := TX7) (N := 12) hx hb hts hin7 hown hK hP 0 rfl rfl 0 (by decide) (hts (.fieldLink RX7 7 "PowerTablesModel" "now" "[J") (List.mem_of_getElem? (i := 3) rfl)) (fun _ h9 => h9) rfl dX7_wear_18 ?_
    refine lv_bipush (v := nI 13) hx hb dX7_wear_21 (by decide) ?_
    refine lv_iload_n hx hb dX7_wear_23 rfl (lv_at hl 1 rfl) ?_
    refine ks_iaddN hx hb dX7_wear_24 ?_
    refine ks_lald hx hb hK hP 1 rfl (by omega) (by decide) dX7_wear_25 ?_
    refine ks_vL (show mV T (13 + d_) = lN (T.w d_) from mV_w (j := d_) (by omega)) ?_
    refine ks_l2iN hx hb dX7_wear_26 ?_
    refine lv_goto (tgt := 35) hx hb dX7_wear_27 (by decide) ?_
    exact cr_iret hx hb hr hlocks hK hP hD hS dX7_wear_35 (by rw [hRR]; exact ctR_i (rfl) (rfl))
set_option maxHeartbeats 4000000 in
set_option maxRecDepth 100000 in
theorem c_X7_wear__b1 (G : GG) (l : Launch) (y_ : Nat) (ca : Nat → Nat) (ke : Nat) (ty_ : Nat) (th : Nat) (po : Nat) (fl_ : Prop) (tl : Nat) (v_ : Int32) (h8 : ¬ (0 ≤ v_.toInt ∧ v_.toInt ≤ 9)) : Cr G l yX7_wear wsX7_wear ({ frames := 1, cells := 0, slots := 0, locals := 25 }) 0 0 [.ref y_, .int v_] [(y_, .inr (7, [.ref (ca 0), .ref (ca 1), .ref (ca 2), .int (nI ke), .ref (ca 3), .int (nI ty_), .int (nI th), .int (nI po), .int (bI fl_), .ref (ca 4), .int (nI tl), .ref (ca 5)]))] (ctR (some (.int (nI 0))) [(y_, .inr (7, [.ref (ca 0), .ref (ca 1), .ref (ca 2), .int (nI ke), .ref (ca 3), .int (nI ty_), .int (nI 1), .int (nI po), .int (bI fl_), .ref (ca 4), .int (nI tl), .ref (ca 5)]))]) := by
  refine cr_intro (cc := cX7_wear) (maxL := 2) (ret := (some .int)) (own := RX7) (by decide) rfl rfl (Nat.le_of_ble_eq_true rfl) ?_
  intro p e s m args below meth c A hx hb hr hml hts hown hlocks hnm hNX hP hK hD hA hS ls hl
  obtain ⟨RR, hRR⟩ : ∃ RR, RR = (ctR (some (.int (nI 0))) [(y_, .inr (7, [.ref (ca 0), .ref (ca 1), .ref (ca 2), .int (nI ke), .ref (ca 3), .int (nI ty_), .int (nI 1), .int (nI po), .int (bI fl_), .ref (ca 4), .int (nI tl), .ref (ca 5)]))]) := ⟨_, rfl⟩
  rw [← hRR]
  have hl : lv_has ls 2 [(0, .ref y_), (1, .int v_)] := hl
  have hin7 : ∀ w ∈ u_ws RX7 TX7 12, w ∈ wsX7_wear := fun w h => List.mem_cons_of_mem _ (List.mem_append_right _ h)
  refine lv_aload_n hx hb dX7_wear_0 rfl (lv_at hl 0 rfl) ?_
  refine lv_iconst (v := nI 0) hx hb dX7_wear_1 (by decide) ?_
  refine va_put (D := G.1) (ci := 7) (v := .int (nI 0)) (ty := .int) (C := RX7) (T := TX7) (N := 12) hx hb hts hin7 tyX7 tyX7_ok nmX7 hown hK hP hD hS 0 rfl rfl 6 (by decide) (hts (.fieldLink RX7 39 "PowerTablesModel" "thrown" "I") (List.mem_of_getElem? (i := 1) rfl)) (fun _ h9 => h9) rfl (tyX7_ok 6 (by decide)) rfl rfl (Nat.le_of_ble_eq_true rfl) dX7_wear_2 (fun Hq lcq hP hD hS => ?_)
  have hP : va_P G.1 vwCl [(y_, .inr (7, [.ref (ca 0), .ref (ca 1), .ref (ca 2), .int (nI ke), .ref (ca 3), .int (nI ty_), .int (nI 0), .int (nI po), .int (bI fl_), .ref (ca 4), .int (nI tl), .ref (ca 5)]))] _ := hP
  have hD : va_D A [(y_, .inr (7, [.ref (ca 0), .ref (ca 1), .ref (ca 2), .int (nI ke), .ref (ca 3), .int (nI ty_), .int (nI 0), .int (nI po), .int (bI fl_), .ref (ca 4), .int (nI tl), .ref (ca 5)]))] := hD
  refine lv_iload_n hx hb dX7_wear_5 rfl (lv_at hl 1 rfl) ?_
  refine lv_i2l hx hb dX7_wear_6 rfl ?_
  refine lv_lconst (v := lN 0) hx hb dX7_wear_7 rfl ?_
  refine lv_ldc2 hx hb hown (hts (.constantLong RX7 87 (9)) (List.mem_of_getElem? (i := 2) rfl)) dX7_wear_8 ?_
  refine ks_vL (show (9 : Int64) = lN 9 from rfl) ?_
  refine cr_S (wr := [(y_, .inr (7, [.ref (ca 0), .ref (ca 1), .ref (ca 2), .int (nI ke), .ref (ca 3), .int (nI ty_), .int (nI 0), .int (nI po), .int (bI fl_), .ref (ca 4), .int (nI tl), .ref (ca 5)]))]) (As := [.long v_.toInt64, .long (lN 0), .long (lN 9)]) (rest := []) ⟨hx, hb, hml, hown, hts⟩ (c_X7_in__i G l v_ 0 9 (by omega) (by omega)) (va_cwS 3 hts gX7_wear_X7_in rfl rfl rfl (by decide +kernel) ⟨Nat.le_of_ble_eq_true rfl, Nat.le_of_ble_eq_true rfl⟩) dX7_wear_11 hK hNX hP hD hS hA hl [] [0] rfl rfl rfl rfl (by decide) rfl (Nat.le_of_ble_eq_true rfl) ⟨Nat.le_of_ble_eq_true rfl, Nat.le_of_ble_eq_true rfl⟩ rfl (fun v' w' Hq lcq hR' hP hD hS => ?_)
  obtain ⟨rfl, rfl⟩ := hR'
  have hP : va_P G.1 vwCl [(y_, .inr (7, [.ref (ca 0), .ref (ca 1), .ref (ca 2), .int (nI ke), .ref (ca 3), .int (nI ty_), .int (nI 0), .int (nI po), .int (bI fl_), .ref (ca 4), .int (nI tl), .ref (ca 5)]))] _ := hP.sub [0] rfl
  have hD : va_D A [(y_, .inr (7, [.ref (ca 0), .ref (ca 1), .ref (ca 2), .int (nI ke), .ref (ca 3), .int (nI ty_), .int (nI 0), .int (nI po), .int (bI fl_), .ref (ca 4), .int (nI tl), .ref (ca 5)]))] := hD.sub [0] (by decide +kernel) rfl
  refine ks_ifb_eq (tgt := 30) hx hb dX7_wear_14 (by decide) (fun c_14 => ?_) (fun c_14 => ?_)
  · refine lv_aload_n hx hb dX7_wear_30 rfl (lv_at hl 0 rfl) ?_
    refine lv_iconst (v := nI 1) hx hb dX7_wear_31 (by decide) ?_
    refine cr_V (wr := []) (As := [.int (nI 1)]) (rest := []) ⟨hx, hb, hml, hown, hts⟩ (c_X7_fails G l y_ ca ke ty_ 0 po fl_ tl 1 ) (cwV 1 hts gX7_wear_X7_fails rfl rfl rfl (by decide +kernel) ⟨Nat.le_of_ble_eq_true rfl, Nat.le_of_ble_eq_true rfl⟩) dX7_wear_32 hK hNX hP hD hS hA hl 0 7 rfl rfl rfl [0] [] rfl rfl rfl rfl (by decide) rfl (Nat.le_of_ble_eq_true rfl) ⟨Nat.le_of_ble_eq_true rfl, Nat.le_of_ble_eq_true rfl⟩ rfl (fun v' w' Hq lcq hR' hP hD hS => ?_)
    obtain ⟨rfl, rfl⟩ := hR'
    have hP : va_P G.1 vwCl [(y_, .inr (7, [.ref (ca 0), .ref (ca 1), .ref (ca 2), .int (nI ke), .ref (ca 3), .int (nI ty_), .int (nI 1), .int (nI po), .int (bI fl_), .ref (ca 4), .int (nI tl), .ref (ca 5)]))] _ := hP.sub [0] rfl
    have hD : va_D A [(y_, .inr (7, [.ref (ca 0), .ref (ca 1), .ref (ca 2), .int (nI ke), .ref (ca 3), .int (nI ty_), .int (nI 1), .int (nI po), .int (bI fl_), .ref (ca 4), .int (nI tl), .ref (ca 5)]))] := hD.sub [0] (by decide +kernel) rfl
    exact cr_iret hx hb hr hlocks hK hP hD hS dX7_wear_35 (by rw [hRR]; exact ctR_i (rfl) (rfl))
  · exact absurd c_14 h8
set_option maxHeartbeats 4000000 in
set_option maxRecDepth 100000 in
theorem c_X7_firstWrong (G : GG) (l : Launch) (y_ : Nat) (ca : Nat → Nat) (ke : Nat) (ty_ : Nat) (th : Nat) (po : Nat) (fl_ : Prop) (tl : Nat) (T : TS) (jn4 : T.s 4 ≤ 40) (jf_ : T.s 3 ≤ 99) (jp : T.s 2 ≤ 5) : Cr G l yX7_firstWrong wsX7_firstWrong ({ frames := 2, cells := 0, slots := 0, locals := 47 }) 0 0 [.ref y_] [(y_, .inr (7, [.ref (ca 0), .ref (ca 1), .ref (ca 2), .int (nI ke), .ref (ca 3), .int (nI ty_), .int (nI th), .int (nI po), .int (bI fl_), .ref (ca 4), .int (nI tl), .ref (ca 5)])), (ca 0, .inl (G.2.2.1, 103, .inr (.inl (mV T))))] (ctR (some (.int (fwI (fun k => T.p k ≠ (rvT T) k) (T.s 4)))) [(y_, .inr (7, [.ref (ca 0), .ref (ca 1), .ref (ca 2), .int (nI ke), .ref (ca 3), .int (nI ty_), .int (nI th), .int (nI po), .int (bI fl_), .ref (ca 4), .int (nI tl), .ref (ca 5)])), (ca 0, .inl (G.2.2.1, 103, .inr (.inl (mV T))))]) := by
  refine cr_intro (cc := cX7_firstWrong) (maxL := 2) (ret := (some .int)) (own := RX7) (by decide) rfl rfl (Nat.le_of_ble_eq_true rfl) ?_
  intro p e s m args below meth c A hx hb hr hml hts hown hlocks hnm hNX hP hK hD hA hS ls hl
  obtain ⟨RR, hRR⟩ : ∃ RR, RR = (ctR (some (.int (fwI (fun k => T.p k ≠ (rvT T) k) (T.s 4)))) [(y_, .inr (7, [.ref (ca 0), .ref (ca 1), .ref (ca 2), .int (nI ke), .ref (ca 3), .int (nI ty_), .int (nI th), .int (nI po), .int (bI fl_), .ref (ca 4), .int (nI tl), .ref (ca 5)])), (ca 0, .inl (G.2.2.1, 103, .inr (.inl (mV T))))]) := ⟨_, rfl⟩
  rw [← hRR]
  have hl : lv_has ls 2 [(0, .ref y_)] := hl
  have hin7 : ∀ w ∈ u_ws RX7 TX7 12, w ∈ wsX7_firstWrong := fun w h => List.mem_cons_of_mem _ (List.mem_append_right _ h)
  refine lv_iconst (v := nI 0) hx hb dX7_firstWrong_0 (by decide) ?_
  refine lv_istore_n (lv' := [(1, .int (nI 0)), (0, .ref y_)]) hx hb dX7_firstWrong_1 rfl hl (by decide) rfl (fun ls hl => ?_)
  have L_2 : ∀ (n_2 : Nat) (i_ : Nat) (_ : 41 - i_ < n_2) (ji : i_ ≤ T.s 4) (jw : ∀ k, k < i_ → ¬ (T.p k ≠ (rvT T) k)) (Hq : Heap) (lcq : List Loc), va_P G.1 vwCl [(y_, .inr (7, [.ref (ca 0), .ref (ca 1), .ref (ca 2), .int (nI ke), .ref (ca 3), .int (nI ty_), .int (nI th), .int (nI po), .int (bI fl_), .ref (ca 4), .int (nI tl), .ref (ca 5)])), (ca 0, .inl (G.2.2.1, 103, .inr (.inl (mV T))))] Hq → va_D A [(y_, .inr (7, [.ref (ca 0), .ref (ca 1), .ref (ca 2), .int (nI ke), .ref (ca 3), .int (nI ty_), .int (nI th), .int (nI po), .int (bI fl_), .ref (ca 4), .int (nI tl), .ref (ca 5)])), (ca 0, .inl (G.2.2.1, 103, .inr (.inl (mV T))))] → va_S A s.heap Hq lcq → ∀ ls : Array Slot, lv_has ls 2 [(1, .int (nI i_)), (0, .ref y_)] → W p l e ({ frames := 2, cells := 0, slots := 0, locals := 47 }) s m args below meth c Hq lcq 0 0 (MQ below (cr_Q G RR A) args s 0 0 A) (F0 m 2 ls []) := by
    intro n_2
    induction n_2 with
    | zero => intro i_ hmu_2; exact absurd hmu_2 (Nat.not_lt_zero _)
    | succ n_2 ih_2 =>
      intro i_ hmu_2 ji jw Hq lcq hP hD hS ls hl
      refine lv_iload_n hx hb dX7_firstWrong_2 rfl (lv_at hl 0 rfl) ?_
      refine ks_i2lN hx hb dX7_firstWrong_3 (by omega) ?_
      refine lv_aload_n hx hb dX7_firstWrong_4 rfl (lv_at hl 1 rfl) ?_
      refine va_get (D := G.1) (ci := 7) (v := .ref (ca 0)) (C := RX7) (T := TX7) (N := 12) hx hb hts hin7 hown hK hP 0 rfl rfl 0 (by decide) (hts (.fieldLink RX7 7 "PowerTablesModel" "now" "[J") (List.mem_of_getElem? (i := 1) rfl)) (fun _ h9 => h9) rfl dX7_firstWrong_5 ?_
      refine lv_iconst (v := nI 4) hx hb dX7_firstWrong_8 (by decide) ?_
      refine ks_lald hx hb hK hP 1 rfl (by omega) (by decide) dX7_firstWrong_9 ?_
      refine ks_vL (show mV T 4 = lN (T.s 4) from rfl) ?_
      refine ks_lcN_ge (tgt := 32) hx hb dX7_firstWrong_10 dX7_firstWrong_11 (by decide) (by omega) (by omega) (fun c_10 => ?_) (fun c_10 => ?_)
      · refine lv_iconst (v := (-1)) hx hb dX7_firstWrong_32 (by decide) ?_
        exact cr_iret hx hb hr hlocks hK hP hD hS dX7_firstWrong_33 (by rw [hRR]; exact ctR_i ((fwI_n (fun k hk => jw k (by omega))).symm) (rfl))
      · refine lv_aload_n hx hb dX7_firstWrong_14 rfl (lv_at hl 1 rfl) ?_
        refine lv_iload_n hx hb dX7_firstWrong_15 rfl (lv_at hl 0 rfl) ?_
        refine cr_V (wr := []) (As := [.int (nI i_)]) (rest := []) ⟨hx, hb, hml, hown, hts⟩ (c_X7_error G l y_ ca ke ty_ th po fl_ tl T i_ (by omega) (by omega) (by omega)) (cwV 1 hts gX7_firstWrong_X7_error rfl rfl rfl (by decide +kernel) ⟨Nat.le_of_ble_eq_true rfl, Nat.le_of_ble_eq_true rfl⟩) dX7_firstWrong_16 hK hNX hP hD hS hA hl 0 7 rfl rfl rfl [0, 1] [] rfl rfl rfl rfl (by decide) rfl (Nat.le_of_ble_eq_true rfl) ⟨Nat.le_of_ble_eq_true rfl, Nat.le_of_ble_eq_true rfl⟩ rfl (fun v' w' Hq lcq hR' hP hD hS => ?_)
        obtain ⟨rfl, rfl⟩ := hR'
        have hP : va_P G.1 vwCl [(y_, .inr (7, [.ref (ca 0), .ref (ca 1), .ref (ca 2), .int (nI ke), .ref (ca 3), .int (nI ty_), .int (nI th), .int (nI po), .int (bI fl_), .ref (ca 4), .int (nI tl), .ref (ca 5)])), (ca 0, .inl (G.2.2.1, 103, .inr (.inl (mV T))))] _ := hP.sub [0, 1] rfl
        have hD : va_D A [(y_, .inr (7, [.ref (ca 0), .ref (ca 1), .ref (ca 2), .int (nI ke), .ref (ca 3), .int (nI ty_), .int (nI th), .int (nI po), .int (bI fl_), .ref (ca 4), .int (nI tl), .ref (ca 5)])), (ca 0, .inl (G.2.2.1, 103, .inr (.inl (mV T))))] := hD.sub [0, 1] (by decide +kernel) rfl
        refine lv_lconst (v := lN 0) hx hb dX7_firstWrong_19 rfl ?_
        refine ks_lc_eq (tgt := 26) hx hb dX7_firstWrong_20 dX7_firstWrong_21 (by decide) (fun c_20 => ?_) (fun c_20 => ?_)
        · refine lv_iinc (v := nI (i_ + 1)) (lv' := [(1, .int (nI (i_ + 1))), (0, .ref y_)]) hx hb dX7_firstWrong_26 hl (k := 0) rfl (ks_inc i_ 1) (by decide) rfl (fun ls hl => ?_)
          refine lv_goto (tgt := 2) hx hb dX7_firstWrong_29 (by decide) ?_
          exact ih_2  (i_ + 1) (by omega) (by omega) (fun k hk => (Nat.lt_or_ge k i_).elim (fun z => jw k z) (fun z => by rw [show k = i_ by omega]; exact fun w9 => w9 (er_eq.mp c_20))) _ _ hP hD hS ls (lv_sub hl [0, 1] rfl)
        · refine lv_iload_n hx hb dX7_firstWrong_24 rfl (lv_at hl 0 rfl) ?_
          exact cr_iret hx hb hr hlocks hK hP hD hS dX7_firstWrong_25 (by rw [hRR]; exact ctR_i ((fwI_y c_10 (show T.p i_ ≠ rvT T i_ from fun e => c_20 (er_eq.mpr e)) jw).symm) (rfl))
  exact L_2 _ 0 (Nat.lt_succ_self _) (by omega) (fun k hk => absurd hk (Nat.not_lt_zero _)) _ _ hP hD hS ls (lv_sub hl [0, 1] rfl)
set_option maxHeartbeats 4000000 in
set_option maxRecDepth 100000 in
theorem c_X7_overRows__3 (G : GG) (l : Launch) (y_ : Nat) (ca : Nat → Nat) (ke : Nat) (ty_ : Nat) (th : Nat) (po : Nat) (fl_ : Prop) (tl : Nat) (T : TS) (jn4 : T.s 4 ≤ 40) (jf_ : T.s 3 ≤ 99) (jp : T.s 2 ≤ 5) : Cr G l yX7_overRows wsX7_overRows ({ frames := 2, cells := 0, slots := 0, locals := 47 }) 0 0 [.ref y_, .int (nI 3)] [(y_, .inr (7, [.ref (ca 0), .ref (ca 1), .ref (ca 2), .int (nI ke), .ref (ca 3), .int (nI ty_), .int (nI th), .int (nI po), .int (bI fl_), .ref (ca 4), .int (nI tl), .ref (ca 5)])), (ca 0, .inl (G.2.2.1, 103, .inr (.inl (mV T))))] (ctR (some (.int (nI (ctN (fun k => T.p k ≠ (rvT T) k) (T.s 4))))) [(y_, .inr (7, [.ref (ca 0), .ref (ca 1), .ref (ca 2), .int (nI ke), .ref (ca 3), .int (nI ty_), .int (nI th), .int (nI po), .int (bI fl_), .ref (ca 4), .int (nI tl), .ref (ca 5)])), (ca 0, .inl (G.2.2.1, 103, .inr (.inl (mV T))))]) := by
  refine cr_intro (cc := cX7_overRows) (maxL := 4) (ret := (some .int)) (own := RX7) (by decide) rfl rfl (Nat.le_of_ble_eq_true rfl) ?_
  intro p e s m args below meth c A hx hb hr hml hts hown hlocks hnm hNX hP hK hD hA hS ls hl
  obtain ⟨RR, hRR⟩ : ∃ RR, RR = (ctR (some (.int (nI (ctN (fun k => T.p k ≠ (rvT T) k) (T.s 4))))) [(y_, .inr (7, [.ref (ca 0), .ref (ca 1), .ref (ca 2), .int (nI ke), .ref (ca 3), .int (nI ty_), .int (nI th), .int (nI po), .int (bI fl_), .ref (ca 4), .int (nI tl), .ref (ca 5)])), (ca 0, .inl (G.2.2.1, 103, .inr (.inl (mV T))))]) := ⟨_, rfl⟩
  rw [← hRR]
  have hl : lv_has ls 4 [(0, .ref y_), (1, .int (nI 3))] := hl
  have hin7 : ∀ w ∈ u_ws RX7 TX7 12, w ∈ wsX7_overRows := fun w h => List.mem_cons_of_mem _ (List.mem_append_right _ h)
  refine lv_iconst (v := nI 0) hx hb dX7_overRows_0 (by decide) ?_
  refine lv_istore_n (lv' := [(2, .int (nI 0)), (0, .ref y_), (1, .int (nI 3))]) hx hb dX7_overRows_1 rfl hl (by decide) rfl (fun ls hl => ?_)
  refine lv_iconst (v := nI 0) hx hb dX7_overRows_2 (by decide) ?_
  refine lv_istore_n (lv' := [(3, .int (nI 0)), (2, .int (nI 0)), (0, .ref y_), (1, .int (nI 3))]) hx hb dX7_overRows_3 rfl hl (by decide) rfl (fun ls hl => ?_)
  have L_4 : ∀ (n_4 : Nat) (i_ : Nat) (_ : 41 - i_ < n_4) (ji : i_ ≤ T.s 4) (Hq : Heap) (lcq : List Loc), va_P G.1 vwCl [(y_, .inr (7, [.ref (ca 0), .ref (ca 1), .ref (ca 2), .int (nI ke), .ref (ca 3), .int (nI ty_), .int (nI th), .int (nI po), .int (bI fl_), .ref (ca 4), .int (nI tl), .ref (ca 5)])), (ca 0, .inl (G.2.2.1, 103, .inr (.inl (mV T))))] Hq → va_D A [(y_, .inr (7, [.ref (ca 0), .ref (ca 1), .ref (ca 2), .int (nI ke), .ref (ca 3), .int (nI ty_), .int (nI th), .int (nI po), .int (bI fl_), .ref (ca 4), .int (nI tl), .ref (ca 5)])), (ca 0, .inl (G.2.2.1, 103, .inr (.inl (mV T))))] → va_S A s.heap Hq lcq → ∀ ls : Array Slot, lv_has ls 4 [(3, .int (nI i_)), (0, .ref y_), (1, .int (nI 3)), (2, .int (nI (ctN (fun k => T.p k ≠ (rvT T) k) i_)))] → W p l e ({ frames := 2, cells := 0, slots := 0, locals := 47 }) s m args below meth c Hq lcq 0 0 (MQ below (cr_Q G RR A) args s 0 0 A) (F0 m 4 ls []) := by
    intro n_4
    induction n_4 with
    | zero => intro i_ hmu_4; exact absurd hmu_4 (Nat.not_lt_zero _)
    | succ n_4 ih_4 =>
      intro i_ hmu_4 ji Hq lcq hP hD hS ls hl
      refine lv_iload_n hx hb dX7_overRows_4 rfl (lv_at hl 0 rfl) ?_
      refine ks_i2lN hx hb dX7_overRows_5 (by omega) ?_
      refine lv_aload_n hx hb dX7_overRows_6 rfl (lv_at hl 1 rfl) ?_
      refine va_get (D := G.1) (ci := 7) (v := .ref (ca 0)) (C := RX7) (T := TX7) (N := 12) hx hb hts hin7 hown hK hP 0 rfl rfl 0 (by decide) (hts (.fieldLink RX7 7 "PowerTablesModel" "now" "[J") (List.mem_of_getElem? (i := 1) rfl)) (fun _ h9 => h9) rfl dX7_overRows_7 ?_
      refine lv_iconst (v := nI 4) hx hb dX7_overRows_10 (by decide) ?_
      refine ks_lald hx hb hK hP 1 rfl (by omega) (by decide) dX7_overRows_11 ?_
      refine ks_vL (show mV T 4 = lN (T.s 4) from rfl) ?_
      refine ks_lcN_ge (tgt := 58) hx hb dX7_overRows_12 dX7_overRows_13 (by decide) (by omega) (by omega) (fun c_12 => ?_) (fun c_12 => ?_)
      · obtain rfl : i_ = T.s 4 := by omega
        refine lv_iload_n hx hb dX7_overRows_58 rfl (lv_at hl 3 rfl) ?_
        exact cr_iret hx hb hr hlocks hK hP hD hS dX7_overRows_59 (by rw [hRR]; exact ctR_i (rfl) (rfl))
      · refine lv_iload_n hx hb dX7_overRows_16 rfl (lv_at hl 3 rfl) ?_
        refine lv_iload_n hx hb dX7_overRows_17 rfl (lv_at hl 2 rfl) ?_
        refine lv_iconst (v := nI 3) hx hb dX7_overRows_18 (by decide) ?_
        refine ks_icmp_ne (tgt := 40) hx hb dX7_overRows_19 (by decide) (by omega) (by omega) (fun c_19 => ?_) (fun c_19 => ?_)
        · omega
        · refine lv_aload_n hx hb dX7_overRows_22 rfl (lv_at hl 1 rfl) ?_
          refine lv_iload_n hx hb dX7_overRows_23 rfl (lv_at hl 0 rfl) ?_
          refine cr_V (wr := []) (As := [.int (nI i_)]) (rest := [.int (nI (ctN (fun k => T.p k ≠ (rvT T) k) i_))]) ⟨hx, hb, hml, hown, hts⟩ (c_X7_error G l y_ ca ke ty_ th po fl_ tl T i_ (by omega) (by omega) (by omega)) (cwV 1 hts gX7_overRows_X7_error rfl rfl rfl (by decide +kernel) ⟨Nat.le_of_ble_eq_true rfl, Nat.le_of_ble_eq_true rfl⟩) dX7_overRows_24 hK hNX hP hD hS hA hl 0 7 rfl rfl rfl [0, 1] [] rfl rfl rfl rfl (by decide) rfl (Nat.le_of_ble_eq_true rfl) ⟨Nat.le_of_ble_eq_true rfl, Nat.le_of_ble_eq_true rfl⟩ rfl (fun v' w' Hq lcq hR' hP hD hS => ?_)
          obtain ⟨rfl, rfl⟩ := hR'
          have hP : va_P G.1 vwCl [(y_, .inr (7, [.ref (ca 0), .ref (ca 1), .ref (ca 2), .int (nI ke), .ref (ca 3), .int (nI ty_), .int (nI th), .int (nI po), .int (bI fl_), .ref (ca 4), .int (nI tl), .ref (ca 5)])), (ca 0, .inl (G.2.2.1, 103, .inr (.inl (mV T))))] _ := hP.sub [0, 1] rfl
          have hD : va_D A [(y_, .inr (7, [.ref (ca 0), .ref (ca 1), .ref (ca 2), .int (nI ke), .ref (ca 3), .int (nI ty_), .int (nI th), .int (nI po), .int (bI fl_), .ref (ca 4), .int (nI tl), .ref (ca 5)])), (ca 0, .inl (G.2.2.1, 103, .inr (.inl (mV T))))] := hD.sub [0, 1] (by decide +kernel) rfl
          refine lv_lconst (v := lN 0) hx hb dX7_overRows_27 rfl ?_
          refine ks_lc_ne (tgt := 36) hx hb dX7_overRows_28 dX7_overRows_29 (by decide) (fun c_28 => ?_) (fun c_28 => ?_)
          · refine lv_iconst (v := nI 1) hx hb dX7_overRows_36 (by decide) ?_
            refine lv_goto (tgt := 50) hx hb dX7_overRows_37 (by decide) ?_
            refine ks_iaddN hx hb dX7_overRows_50 ?_
            refine ks_vI (show nI (ctN (fun k => T.p k ≠ (rvT T) k) i_ + 1) = nI (ctN (fun k => T.p k ≠ (rvT T) k) (i_ + 1)) from by rw [ctN_t (p := (fun k => T.p k ≠ (rvT T) k)) (show T.p i_ ≠ rvT T i_ from fun e => c_28 (er_eq.mpr e))]) ?_
            refine lv_istore_n (lv' := [(2, .int (nI (ctN (fun k => T.p k ≠ (rvT T) k) (i_ + 1)))), (3, .int (nI i_)), (0, .ref y_), (1, .int (nI 3))]) hx hb dX7_overRows_51 rfl hl (by decide) rfl (fun ls hl => ?_)
            refine lv_iinc (v := nI (i_ + 1)) (lv' := [(3, .int (nI (i_ + 1))), (2, .int (nI (ctN (fun k => T.p k ≠ (rvT T) k) (i_ + 1)))), (0, .ref y_), (1, .int (nI 3))]) hx hb dX7_overRows_52 hl (k := 1) rfl (ks_inc i_ 1) (by decide) rfl (fun ls hl => ?_)
            refine lv_goto (tgt := 4) hx hb dX7_overRows_55 (by decide) ?_
            exact ih_4  (i_ + 1) (by omega) (by omega) _ _ hP hD hS ls (lv_sub hl [0, 2, 3, 1] rfl)
          · refine lv_iconst (v := nI 0) hx hb dX7_overRows_32 (by decide) ?_
            refine lv_goto (tgt := 50) hx hb dX7_overRows_33 (by decide) ?_
            refine ks_iaddN hx hb dX7_overRows_50 ?_
            refine ks_vI (show nI (ctN (fun k => T.p k ≠ (rvT T) k) i_ + 0) = nI (ctN (fun k => T.p k ≠ (rvT T) k) (i_ + 1)) from by rw [Nat.add_zero, ctN_f (p := (fun k => T.p k ≠ (rvT T) k)) (show ¬ T.p i_ ≠ rvT T i_ from fun e => e (er_eq.mp c_28))]) ?_
            refine lv_istore_n (lv' := [(2, .int (nI (ctN (fun k => T.p k ≠ (rvT T) k) (i_ + 1)))), (3, .int (nI i_)), (0, .ref y_), (1, .int (nI 3))]) hx hb dX7_overRows_51 rfl hl (by decide) rfl (fun ls hl => ?_)
            refine lv_iinc (v := nI (i_ + 1)) (lv' := [(3, .int (nI (i_ + 1))), (2, .int (nI (ctN (fun k => T.p k ≠ (rvT T) k) (i_ + 1)))), (0, .ref y_), (1, .int (nI 3))]) hx hb dX7_overRows_52 hl (k := 1) rfl (ks_inc i_ 1) (by decide) rfl (fun ls hl => ?_)
            refine lv_goto (tgt := 4) hx hb dX7_overRows_55 (by decide) ?_
            exact ih_4  (i_ + 1) (by omega) (by omega) _ _ hP hD hS ls (lv_sub hl [0, 2, 3, 1] rfl)
  exact L_4 _ 0 (Nat.lt_succ_self _) (by omega) _ _ hP hD hS ls (lv_sub hl [0, 2, 3, 1] rfl)
set_option maxHeartbeats 4000000 in
set_option maxRecDepth 100000 in
theorem c_X7_overRows__7 (G : GG) (l : Launch) (y_ : Nat) (ca : Nat → Nat) (ke : Nat) (ty_ : Nat) (th : Nat) (po : Nat) (fl_ : Prop) (tl : Nat) (T : TS) (jn4 : T.s 4 ≤ 40) : Cr G l yX7_overRows wsX7_overRows ({ frames := 2, cells := 0, slots := 0, locals := 47 }) 0 0 [.ref y_, .int (nI 7)] [(y_, .inr (7, [.ref (ca 0), .ref (ca 1), .ref (ca 2), .int (nI ke), .ref (ca 3), .int (nI ty_), .int (nI th), .int (nI po), .int (bI fl_), .ref (ca 4), .int (nI tl), .ref (ca 5)])), (ca 0, .inl (G.2.2.1, 103, .inr (.inl (mV T))))] (ctR (some (.int (nI (smN T.b (T.s 4))))) [(y_, .inr (7, [.ref (ca 0), .ref (ca 1), .ref (ca 2), .int (nI ke), .ref (ca 3), .int (nI ty_), .int (nI th), .int (nI po), .int (bI fl_), .ref (ca 4), .int (nI tl), .ref (ca 5)])), (ca 0, .inl (G.2.2.1, 103, .inr (.inl (mV T))))]) := by
  refine cr_intro (cc := cX7_overRows) (maxL := 4) (ret := (some .int)) (own := RX7) (by decide) rfl rfl (Nat.le_of_ble_eq_true rfl) ?_
  intro p e s m args below meth c A hx hb hr hml hts hown hlocks hnm hNX hP hK hD hA hS ls hl
  obtain ⟨RR, hRR⟩ : ∃ RR, RR = (ctR (some (.int (nI (smN T.b (T.s 4))))) [(y_, .inr (7, [.ref (ca 0), .ref (ca 1), .ref (ca 2), .int (nI ke), .ref (ca 3), .int (nI ty_), .int (nI th), .int (nI po), .int (bI fl_), .ref (ca 4), .int (nI tl), .ref (ca 5)])), (ca 0, .inl (G.2.2.1, 103, .inr (.inl (mV T))))]) := ⟨_, rfl⟩
  rw [← hRR]
  have hl : lv_has ls 4 [(0, .ref y_), (1, .int (nI 7))] := hl
  have hin7 : ∀ w ∈ u_ws RX7 TX7 12, w ∈ wsX7_overRows := fun w h => List.mem_cons_of_mem _ (List.mem_append_right _ h)
  refine lv_iconst (v := nI 0) hx hb dX7_overRows_0 (by decide) ?_
  refine lv_istore_n (lv' := [(2, .int (nI 0)), (0, .ref y_), (1, .int (nI 7))]) hx hb dX7_overRows_1 rfl hl (by decide) rfl (fun ls hl => ?_)
  refine lv_iconst (v := nI 0) hx hb dX7_overRows_2 (by decide) ?_
  refine lv_istore_n (lv' := [(3, .int (nI 0)), (2, .int (nI 0)), (0, .ref y_), (1, .int (nI 7))]) hx hb dX7_overRows_3 rfl hl (by decide) rfl (fun ls hl => ?_)
  have L_4 : ∀ (n_4 : Nat) (i_ : Nat) (_ : 41 - i_ < n_4) (ji : i_ ≤ T.s 4) (Hq : Heap) (lcq : List Loc), va_P G.1 vwCl [(y_, .inr (7, [.ref (ca 0), .ref (ca 1), .ref (ca 2), .int (nI ke), .ref (ca 3), .int (nI ty_), .int (nI th), .int (nI po), .int (bI fl_), .ref (ca 4), .int (nI tl), .ref (ca 5)])), (ca 0, .inl (G.2.2.1, 103, .inr (.inl (mV T))))] Hq → va_D A [(y_, .inr (7, [.ref (ca 0), .ref (ca 1), .ref (ca 2), .int (nI ke), .ref (ca 3), .int (nI ty_), .int (nI th), .int (nI po), .int (bI fl_), .ref (ca 4), .int (nI tl), .ref (ca 5)])), (ca 0, .inl (G.2.2.1, 103, .inr (.inl (mV T))))] → va_S A s.heap Hq lcq → ∀ ls : Array Slot, lv_has ls 4 [(3, .int (nI i_)), (0, .ref y_), (1, .int (nI 7)), (2, .int (nI (smN T.b i_)))] → W p l e ({ frames := 2, cells := 0, slots := 0, locals := 47 }) s m args below meth c Hq lcq 0 0 (MQ below (cr_Q G RR A) args s 0 0 A) (F0 m 4 ls []) := by
    intro n_4
    induction n_4 with
    | zero => intro i_ hmu_4; exact absurd hmu_4 (Nat.not_lt_zero _)
    | succ n_4 ih_4 =>
      intro i_ hmu_4 ji Hq lcq hP hD hS ls hl
      refine lv_iload_n hx hb dX7_overRows_4 rfl (lv_at hl 0 rfl) ?_
      refine ks_i2lN hx hb dX7_overRows_5 (by omega) ?_
      refine lv_aload_n hx hb dX7_overRows_6 rfl (lv_at hl 1 rfl) ?_
      refine va_get (D := G.1) (ci := 7) (v := .ref (ca 0)) (C := RX7) (T := TX7) (N := 12) hx hb hts hin7 hown hK hP 0 rfl rfl 0 (by decide) (hts (.fieldLink RX7 7 "PowerTablesModel" "now" "[J") (List.mem_of_getElem? (i := 1) rfl)) (fun _ h9 => h9) rfl dX7_overRows_7 ?_
      refine lv_iconst (v := nI 4) hx hb dX7_overRows_10 (by decide) ?_
      refine ks_lald hx hb hK hP 1 rfl (by omega) (by decide) dX7_overRows_11 ?_
      refine ks_vL (show mV T 4 = lN (T.s 4) from rfl) ?_
      refine ks_lcN_ge (tgt := 58) hx hb dX7_overRows_12 dX7_overRows_13 (by decide) (by omega) (by omega) (fun c_12 => ?_) (fun c_12 => ?_)
      · obtain rfl : i_ = T.s 4 := by omega
        refine lv_iload_n hx hb dX7_overRows_58 rfl (lv_at hl 3 rfl) ?_
        exact cr_iret hx hb hr hlocks hK hP hD hS dX7_overRows_59 (by rw [hRR]; exact ctR_i (rfl) (rfl))
      · refine lv_iload_n hx hb dX7_overRows_16 rfl (lv_at hl 3 rfl) ?_
        refine lv_iload_n hx hb dX7_overRows_17 rfl (lv_at hl 2 rfl) ?_
        refine lv_iconst (v := nI 3) hx hb dX7_overRows_18 (by decide) ?_
        refine ks_icmp_ne (tgt := 40) hx hb dX7_overRows_19 (by decide) (by omega) (by omega) (fun c_19 => ?_) (fun c_19 => ?_)
        · refine lv_aload_n hx hb dX7_overRows_40 rfl (lv_at hl 1 rfl) ?_
          refine va_get (D := G.1) (ci := 7) (v := .ref (ca 0)) (C := RX7) (T := TX7) (N := 12) hx hb hts hin7 hown hK hP 0 rfl rfl 0 (by decide) (hts (.fieldLink RX7 7 "PowerTablesModel" "now" "[J") (List.mem_of_getElem? (i := 1) rfl)) (fun _ h9 => h9) rfl dX7_overRows_41 ?_
          refine lv_bipush (v := nI 63) hx hb dX7_overRows_44 (by decide) ?_
          refine lv_iload_n hx hb dX7_overRows_46 rfl (lv_at hl 0 rfl) ?_
          refine ks_iaddN hx hb dX7_overRows_47 ?_
          refine ks_lald hx hb hK hP 1 rfl (by omega) (by decide) dX7_overRows_48 ?_
          refine ks_vL (show mV T (63 + i_) = lN (T.b i_) from mV_b (j := i_) (by omega)) ?_
          refine ks_l2iN hx hb dX7_overRows_49 ?_
          refine ks_iaddN hx hb dX7_overRows_50 ?_
          refine lv_istore_n (lv' := [(2, .int (nI (smN T.b i_ + (T.b i_)))), (3, .int (nI i_)), (0, .ref y_), (1, .int (nI 7))]) hx hb dX7_overRows_51 rfl hl (by decide) rfl (fun ls hl => ?_)
          refine lv_iinc (v := nI (i_ + 1)) (lv' := [(3, .int (nI (i_ + 1))), (2, .int (nI (smN T.b i_ + (T.b i_)))), (0, .ref y_), (1, .int (nI 7))]) hx hb dX7_overRows_52 hl (k := 1) rfl (ks_inc i_ 1) (by decide) rfl (fun ls hl => ?_)
          refine lv_goto (tgt := 4) hx hb dX7_overRows_55 (by decide) ?_
          exact ih_4  (i_ + 1) (by omega) (by omega) _ _ hP hD hS ls (lv_sub hl [0, 2, 3, 1] rfl)
        · omega
  exact L_4 _ 0 (Nat.lt_succ_self _) (by omega) _ _ hP hD hS ls (lv_sub hl [0, 2, 3, 1] rfl)
set_option maxHeartbeats 4000000 in
set_option maxRecDepth 100000 in
theorem c_X7_foundWrong (G : GG) (l : Launch) (y_ : Nat) (ca : Nat → Nat) (ke : Nat) (ty_ : Nat) (th : Nat) (po : Nat) (fl_ : Prop) (tl : Nat) (T : TS) (jn4 : T.s 4 ≤ 40) (jz : 1 ≤ T.s 0) (jz2 : T.s 0 ≤ 20) (jf_ : T.s 3 ≤ 99) (jp : T.s 2 ≤ 5) : Cr G l yX7_foundWrong wsX7_foundWrong ({ frames := 3, cells := 0, slots := 0, locals := 76 }) 0 0 [.ref y_] [(y_, .inr (7, [.ref (ca 0), .ref (ca 1), .ref (ca 2), .int (nI ke), .ref (ca 3), .int (nI ty_), .int (nI th), .int (nI po), .int (bI fl_), .ref (ca 4), .int (nI tl), .ref (ca 5)])), (ca 0, .inl (G.2.2.1, 103, .inr (.inl (mV T))))] (ctR (some (.int (nI (ctN (fun q8 => gwr T.p (rvT T) q8 (T.s 0)) (T.s 4 / T.s 0))))) [(y_, .inr (7, [.ref (ca 0), .ref (ca 1), .ref (ca 2), .int (nI ke), .ref (ca 3), .int (nI ty_), .int (nI th), .int (nI po), .int (bI fl_), .ref (ca 4), .int (nI tl), .ref (ca 5)])), (ca 0, .inl (G.2.2.1, 103, .inr (.inl (mV T))))]) := by
  refine cr_intro (cc := cX7_foundWrong) (maxL := 3) (ret := (some .int)) (own := RX7) (by decide) rfl rfl (Nat.le_of_ble_eq_true rfl) ?_
  intro p e s m args below meth c A hx hb hr hml hts hown hlocks hnm hNX hP hK hD hA hS ls hl
  obtain ⟨RR, hRR⟩ : ∃ RR, RR = (ctR (some (.int (nI (ctN (fun q8 => gwr T.p (rvT T) q8 (T.s 0)) (T.s 4 / T.s 0))))) [(y_, .inr (7, [.ref (ca 0), .ref (ca 1), .ref (ca 2), .int (nI ke), .ref (ca 3), .int (nI ty_), .int (nI th), .int (nI po), .int (bI fl_), .ref (ca 4), .int (nI tl), .ref (ca 5)])), (ca 0, .inl (G.2.2.1, 103, .inr (.inl (mV T))))]) := ⟨_, rfl⟩
  rw [← hRR]
  have hl : lv_has ls 3 [(0, .ref y_)] := hl
  have hin7 : ∀ w ∈ u_ws RX7 TX7 12, w ∈ wsX7_foundWrong := fun w h => List.mem_cons_of_mem _ (List.mem_append_right _ h)
  have jdv : T.s 4 / T.s 0 ≤ T.s 4 := Nat.div_le_self _ _
  refine lv_iconst (v := nI 0) hx hb dX7_foundWrong_0 (by decide) ?_
  refine lv_istore_n (lv' := [(1, .int (nI 0)), (0, .ref y_)]) hx hb dX7_foundWrong_1 rfl hl (by decide) rfl (fun ls hl => ?_)
  refine lv_iconst (v := nI 0) hx hb dX7_foundWrong_2 (by decide) ?_
  refine lv_istore_n (lv' := [(2, .int (nI 0)), (1, .int (nI 0)), (0, .ref y_)]) hx hb dX7_foundWrong_3 rfl hl (by decide) rfl (fun ls hl => ?_)
  have L_4 : ∀ (n_4 : Nat) (q_ : Nat) (_ : 41 - q_ < n_4) (jq : q_ ≤ T.s 4 / T.s 0) (Hq : Heap) (lcq : List Loc), va_P G.1 vwCl [(y_, .inr (7, [.ref (ca 0), .ref (ca 1), .ref (ca 2), .int (nI ke), .ref (ca 3), .int (nI ty_), .int (nI th), .int (nI po), .int (bI fl_), .ref (ca 4), .int (nI tl), .ref (ca 5)])), (ca 0, .inl (G.2.2.1, 103, .inr (.inl (mV T))))] Hq → va_D A [(y_, .inr (7, [.ref (ca 0), .ref (ca 1), .ref (ca 2), .int (nI ke), .ref (ca 3), .int (nI ty_), .int (nI th), .int (nI po), .int (bI fl_), .ref (ca 4), .int (nI tl), .ref (ca 5)])), (ca 0, .inl (G.2.2.1, 103, .inr (.inl (mV T))))] → va_S A s.heap Hq lcq → ∀ ls : Array Slot, lv_has ls 3 [(2, .int (nI q_)), (0, .ref y_), (1, .int (nI (ctN (fun q8 => gwr T.p (rvT T) q8 (T.s 0)) q_)))] → W p l e ({ frames := 3, cells := 0, slots := 0, locals := 76 }) s m args below meth c Hq lcq 0 0 (MQ below (cr_Q G RR A) args s 0 0 A) (F0 m 4 ls []) := by
    intro n_4
    induction n_4 with
    | zero => intro q_ hmu_4; exact absurd hmu_4 (Nat.not_lt_zero _)
    | succ n_4 ih_4 =>
      intro q_ hmu_4 jq Hq lcq hP hD hS ls hl
      refine lv_iload_n hx hb dX7_foundWrong_4 rfl (lv_at hl 0 rfl) ?_
      refine lv_aload_n hx hb dX7_foundWrong_5 rfl (lv_at hl 1 rfl) ?_
      refine lv_aload_n hx hb dX7_foundWrong_6 rfl (lv_at hl 1 rfl) ?_
      refine va_get (D := G.1) (ci := 7) (v := .ref (ca 0)) (C := RX7) (T := TX7) (N := 12) hx hb hts hin7 hown hK hP 0 rfl rfl 0 (by decide) (hts (.fieldLink RX7 7 "PowerTablesModel" "now" "[J") (List.mem_of_getElem? (i := 1) rfl)) (fun _ h9 => h9) rfl dX7_foundWrong_7 ?_
      refine lv_iconst (v := nI 0) hx hb dX7_foundWrong_10 (by decide) ?_
      refine ks_lald hx hb hK hP 1 rfl (by omega) (by decide) dX7_foundWrong_11 ?_
      refine ks_vL (show mV T 0 = lN (T.s 0) from rfl) ?_
      refine ks_l2iN hx hb dX7_foundWrong_12 ?_
      refine cr_V (wr := []) (As := [.int (nI (T.s 0))]) (rest := [.int (nI q_)]) ⟨hx, hb, hml, hown, hts⟩ (c_X7_groups G l y_ ca ke ty_ th po fl_ tl T (T.s 0) (by omega) (by omega) (by omega)) (cwV 1 hts gX7_foundWrong_X7_groups rfl rfl rfl (by decide +kernel) ⟨Nat.le_of_ble_eq_true rfl, Nat.le_of_ble_eq_true rfl⟩) dX7_foundWrong_13 hK hNX hP hD hS hA hl 0 7 rfl rfl rfl [0, 1] [] rfl rfl rfl rfl (by decide) rfl (Nat.le_of_ble_eq_true rfl) ⟨Nat.le_of_ble_eq_true rfl, Nat.le_of_ble_eq_true rfl⟩ rfl (fun v' w' Hq lcq hR' hP hD hS => ?_)
      obtain ⟨rfl, rfl⟩ := hR'
      have hP : va_P G.1 vwCl [(y_, .inr (7, [.ref (ca 0), .ref (ca 1), .ref (ca 2), .int (nI ke), .ref (ca 3), .int (nI ty_), .int (nI th), .int (nI po), .int (bI fl_), .ref (ca 4), .int (nI tl), .ref (ca 5)])), (ca 0, .inl (G.2.2.1, 103, .inr (.inl (mV T))))] _ := hP.sub [0, 1] rfl
      have hD : va_D A [(y_, .inr (7, [.ref (ca 0), .ref (ca 1), .ref (ca 2), .int (nI ke), .ref (ca 3), .int (nI ty_), .int (nI th), .int (nI po), .int (bI fl_), .ref (ca 4), .int (nI tl), .ref (ca 5)])), (ca 0, .inl (G.2.2.1, 103, .inr (.inl (mV T))))] := hD.sub [0, 1] (by decide +kernel) rfl
      refine ks_icmp_ge (tgt := 42) hx hb dX7_foundWrong_16 (by decide) (by omega) (by omega) (fun c_16 => ?_) (fun c_16 => ?_)
      · obtain rfl : q_ = T.s 4 / T.s 0 := by omega
        refine lv_iload_n hx hb dX7_foundWrong_42 rfl (lv_at hl 2 rfl) ?_
        exact cr_iret hx hb hr hlocks hK hP hD hS dX7_foundWrong_43 (by rw [hRR]; exact ctR_i (rfl) (rfl))
      · have jq9 := gq_le c_16
        refine lv_iload_n hx hb dX7_foundWrong_19 rfl (lv_at hl 2 rfl) ?_
        refine lv_aload_n hx hb dX7_foundWrong_20 rfl (lv_at hl 1 rfl) ?_
        refine lv_aload_n hx hb dX7_foundWrong_21 rfl (lv_at hl 1 rfl) ?_
        refine va_get (D := G.1) (ci := 7) (v := .ref (ca 0)) (C := RX7) (T := TX7) (N := 12) hx hb hts hin7 hown hK hP 0 rfl rfl 0 (by decide) (hts (.fieldLink RX7 7 "PowerTablesModel" "now" "[J") (List.mem_of_getElem? (i := 1) rfl)) (fun _ h9 => h9) rfl dX7_foundWrong_22 ?_
        refine lv_iconst (v := nI 0) hx hb dX7_foundWrong_25 (by decide) ?_
        refine ks_lald hx hb hK hP 1 rfl (by omega) (by decide) dX7_foundWrong_26 ?_
        refine ks_vL (show mV T 0 = lN (T.s 0) from rfl) ?_
        refine ks_l2iN hx hb dX7_foundWrong_27 ?_
        refine lv_iload_n hx hb dX7_foundWrong_28 rfl (lv_at hl 0 rfl) ?_
        refine lv_iconst (v := nI 2) hx hb dX7_foundWrong_29 (by decide) ?_
        refine cr_V (wr := []) (As := [.int (nI (T.s 0)), .int (nI q_), .int (nI 2)]) (rest := [.int (nI (ctN (fun q8 => gwr T.p (rvT T) q8 (T.s 0)) q_))]) ⟨hx, hb, hml, hown, hts⟩ (c_X7_ofGroup G l y_ ca ke ty_ th po fl_ tl T (T.s 0) q_ 2 (by omega) (by omega) (by omega) (by omega)) (cwV 3 hts gX7_foundWrong_X7_ofGroup rfl rfl rfl (by decide +kernel) ⟨Nat.le_of_ble_eq_true rfl, Nat.le_of_ble_eq_true rfl⟩) dX7_foundWrong_30 hK hNX hP hD hS hA hl 0 7 rfl rfl rfl [0, 1] [] rfl rfl rfl rfl (by decide) rfl (Nat.le_of_ble_eq_true rfl) ⟨Nat.le_of_ble_eq_true rfl, Nat.le_of_ble_eq_true rfl⟩ rfl (fun v' w' Hq lcq hR' hP hD hS => ?_)
        obtain ⟨rfl, rfl⟩ := hR'
        have hP : va_P G.1 vwCl [(y_, .inr (7, [.ref (ca 0), .ref (ca 1), .ref (ca 2), .int (nI ke), .ref (ca 3), .int (nI ty_), .int (nI th), .int (nI po), .int (bI fl_), .ref (ca 4), .int (nI tl), .ref (ca 5)])), (ca 0, .inl (G.2.2.1, 103, .inr (.inl (mV T))))] _ := hP.sub [0, 1] rfl
        have hD : va_D A [(y_, .inr (7, [.ref (ca 0), .ref (ca 1), .ref (ca 2), .int (nI ke), .ref (ca 3), .int (nI ty_), .int (nI th), .int (nI po), .int (bI fl_), .ref (ca 4), .int (nI tl), .ref (ca 5)])), (ca 0, .inl (G.2.2.1, 103, .inr (.inl (mV T))))] := hD.sub [0, 1] (by decide +kernel) rfl
        refine ks_vL (show ofG T.p (rvT T) (T.s 0) q_ 2 = lN (b01 (gwr T.p (rvT T) q_ (T.s 0))) from ofG_2 _ _ _ _) ?_
        refine ks_l2iN hx hb dX7_foundWrong_33 ?_
        refine ks_iaddN hx hb dX7_foundWrong_34 ?_
        refine ks_vI (show nI (ctN (fun q8 => gwr T.p (rvT T) q8 (T.s 0)) q_ + (b01 (gwr T.p (rvT T) q_ (T.s 0)))) = nI (ctN (fun q8 => gwr T.p (rvT T) q8 (T.s 0)) (q_ + 1)) from congrArg nI (ctN_b (p := (fun q8 => gwr T.p (rvT T) q8 (T.s 0))))) ?_
        refine lv_istore_n (lv' := [(1, .int (nI (ctN (fun q8 => gwr T.p (rvT T) q8 (T.s 0)) (q_ + 1)))), (2, .int (nI q_)), (0, .ref y_)]) hx hb dX7_foundWrong_35 rfl hl (by decide) rfl (fun ls hl => ?_)
        refine lv_iinc (v := nI (q_ + 1)) (lv' := [(2, .int (nI (q_ + 1))), (1, .int (nI (ctN (fun q8 => gwr T.p (rvT T) q8 (T.s 0)) (q_ + 1)))), (0, .ref y_)]) hx hb dX7_foundWrong_36 hl (k := 1) rfl (ks_inc q_ 1) (by decide) rfl (fun ls hl => ?_)
        refine lv_goto (tgt := 4) hx hb dX7_foundWrong_39 (by decide) ?_
        exact ih_4  (q_ + 1) (by omega) (by omega) _ _ hP hD hS ls (lv_sub hl [0, 2, 1] rfl)
  exact L_4 _ 0 (Nat.lt_succ_self _) (Nat.zero_le _) _ _ hP hD hS ls (lv_sub hl [0, 2, 1] rfl)
set_option maxHeartbeats 4000000 in
set_option maxRecDepth 100000 in
theorem c_X7_counted (G : GG) (l : Launch) (y_ : Nat) (ca : Nat → Nat) (ke : Nat) (ty_ : Nat) (th : Nat) (po : Nat) (fl_ : Prop) (tl : Nat) (T : TS) (w_ : Nat) (jw : w_ < 12) (jn4 : T.s 4 ≤ 40) (jz : 1 ≤ T.s 0) (jz2 : T.s 0 ≤ 20) (jf_ : T.s 3 ≤ 99) (jp : T.s 2 ≤ 5) : Cr G l yX7_counted wsX7_counted ({ frames := 4, cells := 0, slots := 0, locals := 98 }) 0 0 [.ref y_, .int (nI w_)] [(y_, .inr (7, [.ref (ca 0), .ref (ca 1), .ref (ca 2), .int (nI ke), .ref (ca 3), .int (nI ty_), .int (nI th), .int (nI po), .int (bI fl_), .ref (ca 4), .int (nI tl), .ref (ca 5)])), (ca 0, .inl (G.2.2.1, 103, .inr (.inl (mV T))))] (ctR (some (.int (cntA T (rvT T) ke w_))) [(y_, .inr (7, [.ref (ca 0), .ref (ca 1), .ref (ca 2), .int (nI ke), .ref (ca 3), .int (nI ty_), .int (nI th), .int (nI po), .int (bI fl_), .ref (ca 4), .int (nI tl), .ref (ca 5)])), (ca 0, .inl (G.2.2.1, 103, .inr (.inl (mV T))))]) := by
  refine cr_intro (cc := cX7_counted) (maxL := 2) (ret := (some .int)) (own := RX7) (by decide) rfl rfl (Nat.le_of_ble_eq_true rfl) ?_
  intro p e s m args below meth c A hx hb hr hml hts hown hlocks hnm hNX hP hK hD hA hS ls hl
  obtain ⟨RR, hRR⟩ : ∃ RR, RR = (ctR (some (.int (cntA T (rvT T) ke w_))) [(y_, .inr (7, [.ref (ca 0), .ref (ca 1), .ref (ca 2), .int (nI ke), .ref (ca 3), .int (nI ty_), .int (nI th), .int (nI po), .int (bI fl_), .ref (ca 4), .int (nI tl), .ref (ca 5)])), (ca 0, .inl (G.2.2.1, 103, .inr (.inl (mV T))))]) := ⟨_, rfl⟩
  rw [← hRR]
  have hl : lv_has ls 2 [(0, .ref y_), (1, .int (nI w_))] := hl
  have hin7 : ∀ w_ ∈ u_ws RX7 TX7 12, w_ ∈ wsX7_counted := fun w_ h => List.mem_cons_of_mem _ (List.mem_append_right _ h)
  rcases (show w_ = 0 ∨ w_ = 1 ∨ w_ = 2 ∨ w_ = 3 ∨ w_ = 4 ∨ w_ = 5 ∨ w_ = 6 ∨ w_ = 7 ∨ w_ = 8 ∨ w_ = 9 ∨ w_ = 10 ∨ w_ = 11 by omega) with rfl | rfl | rfl | rfl | rfl | rfl | rfl | rfl | rfl | rfl | rfl | rfl
  · refine lv_iload_n hx hb dX7_counted_0 rfl (lv_at hl 1 rfl) ?_
    refine lv_iconst (v := nI 3) hx hb dX7_counted_1 (by decide) ?_
    refine ks_icmp_lt (tgt := 17) hx hb dX7_counted_2 (by decide) (by omega) (by omega) (fun c_2 => ?_) (fun c_2 => ?_)
    · refine lv_aload_n hx hb dX7_counted_17 rfl (lv_at hl 0 rfl) ?_
      refine va_get (D := G.1) (ci := 7) (v := .ref (ca 0)) (C := RX7) (T := TX7) (N := 12) hx hb hts hin7 hown hK hP 0 rfl rfl 0 (by decide) (hts (.fieldLink RX7 7 "PowerTablesModel" "now" "[J") (List.mem_of_getElem? (i := 1) rfl)) (fun _ h9 => h9) rfl dX7_counted_18 ?_
      refine lv_iload_n hx hb dX7_counted_21 rfl (lv_at hl 1 rfl) ?_
      refine lv_iconst (v := nI 3) hx hb dX7_counted_22 (by decide) ?_
      refine ks_icmp_ge (tgt := 32) hx hb dX7_counted_23 (by decide) (by omega) (by omega) (fun c_23 => ?_) (fun c_23 => ?_)
      · omega
      · refine lv_iconst (v := nI 2) hx hb dX7_counted_26 (by decide) ?_
        refine lv_iload_n hx hb dX7_counted_27 rfl (lv_at hl 1 rfl) ?_
        refine ks_iaddN hx hb dX7_counted_28 ?_
        refine lv_goto (tgt := 38) hx hb dX7_counted_29 (by decide) ?_
        refine ks_lald hx hb hK hP 1 rfl (by omega) (by decide) dX7_counted_38 ?_
        refine ks_vL (show mV T 2 = lN (T.s 2) from rfl) ?_
        refine ks_l2iN hx hb dX7_counted_39 ?_
        exact cr_iret hx hb hr hlocks hK hP hD hS dX7_counted_40 (by rw [hRR]; exact ctR_i (rfl) (rfl))
    · omega
  · refine lv_iload_n hx hb dX7_counted_0 rfl (lv_at hl 1 rfl) ?_
    refine lv_iconst (v := nI 3) hx hb dX7_counted_1 (by decide) ?_
    refine ks_icmp_lt (tgt := 17) hx hb dX7_counted_2 (by decide) (by omega) (by omega) (fun c_2 => ?_) (fun c_2 => ?_)
    · refine lv_aload_n hx hb dX7_counted_17 rfl (lv_at hl 0 rfl) ?_
      refine va_get (D := G.1) (ci := 7) (v := .ref (ca 0)) (C := RX7) (T := TX7) (N := 12) hx hb hts hin7 hown hK hP 0 rfl rfl 0 (by decide) (hts (.fieldLink RX7 7 "PowerTablesModel" "now" "[J") (List.mem_of_getElem? (i := 1) rfl)) (fun _ h9 => h9) rfl dX7_counted_18 ?_
      refine lv_iload_n hx hb dX7_counted_21 rfl (lv_at hl 1 rfl) ?_
      refine lv_iconst (v := nI 3) hx hb dX7_counted_22 (by decide) ?_
      refine ks_icmp_ge (tgt := 32) hx hb dX7_counted_23 (by decide) (by omega) (by omega) (fun c_23 => ?_) (fun c_23 => ?_)
      · omega
      · refine lv_iconst (v := nI 2) hx hb dX7_counted_26 (by decide) ?_
        refine lv_iload_n hx hb dX7_counted_27 rfl (lv_at hl 1 rfl) ?_
        refine ks_iaddN hx hb dX7_counted_28 ?_
        refine lv_goto (tgt := 38) hx hb dX7_counted_29 (by decide) ?_
        refine ks_lald hx hb hK hP 1 rfl (by omega) (by decide) dX7_counted_38 ?_
        refine ks_vL (show mV T 3 = lN (T.s 3) from rfl) ?_
        refine ks_l2iN hx hb dX7_counted_39 ?_
        exact cr_iret hx hb hr hlocks hK hP hD hS dX7_counted_40 (by rw [hRR]; exact ctR_i (rfl) (rfl))
    · omega
  · refine lv_iload_n hx hb dX7_counted_0 rfl (lv_at hl 1 rfl) ?_
    refine lv_iconst (v := nI 3) hx hb dX7_counted_1 (by decide) ?_
    refine ks_icmp_lt (tgt := 17) hx hb dX7_counted_2 (by decide) (by omega) (by omega) (fun c_2 => ?_) (fun c_2 => ?_)
    · refine lv_aload_n hx hb dX7_counted_17 rfl (lv_at hl 0 rfl) ?_
      refine va_get (D := G.1) (ci := 7) (v := .ref (ca 0)) (C := RX7) (T := TX7) (N := 12) hx hb hts hin7 hown hK hP 0 rfl rfl 0 (by decide) (hts (.fieldLink RX7 7 "PowerTablesModel" "now" "[J") (List.mem_of_getElem? (i := 1) rfl)) (fun _ h9 => h9) rfl dX7_counted_18 ?_
      refine lv_iload_n hx hb dX7_counted_21 rfl (lv_at hl 1 rfl) ?_
      refine lv_iconst (v := nI 3) hx hb dX7_counted_22 (by decide) ?_
      refine ks_icmp_ge (tgt := 32) hx hb dX7_counted_23 (by decide) (by omega) (by omega) (fun c_23 => ?_) (fun c_23 => ?_)
      · omega
      · refine lv_iconst (v := nI 2) hx hb dX7_counted_26 (by decide) ?_
        refine lv_iload_n hx hb dX7_counted_27 rfl (lv_at hl 1 rfl) ?_
        refine ks_iaddN hx hb dX7_counted_28 ?_
        refine lv_goto (tgt := 38) hx hb dX7_counted_29 (by decide) ?_
        refine ks_lald hx hb hK hP 1 rfl (by omega) (by decide) dX7_counted_38 ?_
        refine ks_vL (show mV T 4 = lN (T.s 4) from rfl) ?_
        refine ks_l2iN hx hb dX7_counted_39 ?_
        exact cr_iret hx hb hr hlocks hK hP hD hS dX7_counted_40 (by rw [hRR]; exact ctR_i (rfl) (rfl))
    · omega
  · refine lv_iload_n hx hb dX7_counted_0 rfl (lv_at hl 1 rfl) ?_
    refine lv_iconst (v := nI 3) hx hb dX7_counted_1 (by decide) ?_
    refine ks_icmp_lt (tgt := 17) hx hb dX7_counted_2 (by decide) (by omega) (by omega) (fun c_2 => ?_) (fun c_2 => ?_)
    · omega
    · refine lv_iload_n hx hb dX7_counted_5 rfl (lv_at hl 1 rfl) ?_
      refine lv_bipush (v := nI 9) hx hb dX7_counted_6 (by decide) ?_
      refine ks_icmp_eq (tgt := 17) hx hb dX7_counted_8 (by decide) (by omega) (by omega) (fun c_8 => ?_) (fun c_8 => ?_)
      · omega
      · refine lv_iload_n hx hb dX7_counted_11 rfl (lv_at hl 1 rfl) ?_
        refine lv_bipush (v := nI 10) hx hb dX7_counted_12 (by decide) ?_
        refine ks_icmp_ne (tgt := 41) hx hb dX7_counted_14 (by decide) (by omega) (by omega) (fun c_14 => ?_) (fun c_14 => ?_)
        · refine lv_iload_n hx hb dX7_counted_41 rfl (lv_at hl 1 rfl) ?_
          refine lv_iconst (v := nI 3) hx hb dX7_counted_42 (by decide) ?_
          refine ks_icmp_eq (tgt := 52) hx hb dX7_counted_43 (by decide) (by omega) (by omega) (fun c_43 => ?_) (fun c_43 => ?_)
          · refine lv_aload_n hx hb dX7_counted_52 rfl (lv_at hl 0 rfl) ?_
            refine lv_iload_n hx hb dX7_counted_53 rfl (lv_at hl 1 rfl) ?_
            refine cr_V (wr := []) (As := [.int (nI 3)]) (rest := []) ⟨hx, hb, hml, hown, hts⟩ (c_X7_overRows__3 G l y_ ca ke ty_ th po fl_ tl T (by omega) (by omega) (by omega)) (cwV 1 hts gX7_counted_X7_overRows rfl rfl rfl (by decide +kernel) ⟨Nat.le_of_ble_eq_true rfl, Nat.le_of_ble_eq_true rfl⟩) dX7_counted_54 hK hNX hP hD hS hA hl 0 7 rfl rfl rfl [0, 1] [] rfl rfl rfl rfl (by decide) rfl (Nat.le_of_ble_eq_true rfl) ⟨Nat.le_of_ble_eq_true rfl, Nat.le_of_ble_eq_true rfl⟩ rfl (fun v' w' Hq lcq hR' hP hD hS => ?_)
            obtain ⟨rfl, rfl⟩ := hR'
            have hP : va_P G.1 vwCl [(y_, .inr (7, [.ref (ca 0), .ref (ca 1), .ref (ca 2), .int (nI ke), .ref (ca 3), .int (nI ty_), .int (nI th), .int (nI po), .int (bI fl_), .ref (ca 4), .int (nI tl), .ref (ca 5)])), (ca 0, .inl (G.2.2.1, 103, .inr (.inl (mV T))))] _ := hP.sub [0, 1] rfl
            have hD : va_D A [(y_, .inr (7, [.ref (ca 0), .ref (ca 1), .ref (ca 2), .int (nI ke), .ref (ca 3), .int (nI ty_), .int (nI th), .int (nI po), .int (bI fl_), .ref (ca 4), .int (nI tl), .ref (ca 5)])), (ca 0, .inl (G.2.2.1, 103, .inr (.inl (mV T))))] := hD.sub [0, 1] (by decide +kernel) rfl
            exact cr_iret hx hb hr hlocks hK hP hD hS dX7_counted_57 (by rw [hRR]; exact ctR_i (cnt3 T (rvT T) ke) (rfl))
          · omega
        · omega
  · refine lv_iload_n hx hb dX7_counted_0 rfl (lv_at hl 1 rfl) ?_
    refine lv_iconst (v := nI 3) hx hb dX7_counted_1 (by decide) ?_
    refine ks_icmp_lt (tgt := 17) hx hb dX7_counted_2 (by decide) (by omega) (by omega) (fun c_2 => ?_) (fun c_2 => ?_)
    · omega
    · refine lv_iload_n hx hb dX7_counted_5 rfl (lv_at hl 1 rfl) ?_
      refine lv_bipush (v := nI 9) hx hb dX7_counted_6 (by decide) ?_
      refine ks_icmp_eq (tgt := 17) hx hb dX7_counted_8 (by decide) (by omega) (by omega) (fun c_8 => ?_) (fun c_8 => ?_)
      · omega
      · refine lv_iload_n hx hb dX7_counted_11 rfl (lv_at hl 1 rfl) ?_
        refine lv_bipush (v := nI 10) hx hb dX7_counted_12 (by decide) ?_
        refine ks_icmp_ne (tgt := 41) hx hb dX7_counted_14 (by decide) (by omega) (by omega) (fun c_14 => ?_) (fun c_14 => ?_)
        · refine lv_iload_n hx hb dX7_counted_41 rfl (lv_at hl 1 rfl) ?_
          refine lv_iconst (v := nI 3) hx hb dX7_counted_42 (by decide) ?_
          refine ks_icmp_eq (tgt := 52) hx hb dX7_counted_43 (by decide) (by omega) (by omega) (fun c_43 => ?_) (fun c_43 => ?_)
          · omega
          · refine lv_iload_n hx hb dX7_counted_46 rfl (lv_at hl 1 rfl) ?_
            refine lv_bipush (v := nI 7) hx hb dX7_counted_47 (by decide) ?_
            refine ks_icmp_ne (tgt := 58) hx hb dX7_counted_49 (by decide) (by omega) (by omega) (fun c_49 => ?_) (fun c_49 => ?_)
            · refine lv_iload_n hx hb dX7_counted_58 rfl (lv_at hl 1 rfl) ?_
              refine lv_iconst (v := nI 4) hx hb dX7_counted_59 (by decide) ?_
              refine ks_icmp_eq (tgt := 69) hx hb dX7_counted_60 (by decide) (by omega) (by omega) (fun c_60 => ?_) (fun c_60 => ?_)
              · refine lv_iload_n hx hb dX7_counted_69 rfl (lv_at hl 1 rfl) ?_
                refine lv_iconst (v := nI 4) hx hb dX7_counted_70 (by decide) ?_
                refine ks_icmp_ne (tgt := 81) hx hb dX7_counted_71 (by decide) (by omega) (by omega) (fun c_71 => ?_) (fun c_71 => ?_)
                · omega
                · refine lv_aload_n hx hb dX7_counted_74 rfl (lv_at hl 0 rfl) ?_
                  refine cr_V (wr := []) (As := []) (rest := []) ⟨hx, hb, hml, hown, hts⟩ (c_X7_firstWrong G l y_ ca ke ty_ th po fl_ tl T (by omega) (by omega) (by omega)) (cwV 0 hts gX7_counted_X7_firstWrong rfl rfl rfl (by decide +kernel) ⟨Nat.le_of_ble_eq_true rfl, Nat.le_of_ble_eq_true rfl⟩) dX7_counted_75 hK hNX hP hD hS hA hl 0 7 rfl rfl rfl [0, 1] [] rfl rfl rfl rfl (by decide) rfl (Nat.le_of_ble_eq_true rfl) ⟨Nat.le_of_ble_eq_true rfl, Nat.le_of_ble_eq_true rfl⟩ rfl (fun v' w' Hq lcq hR' hP hD hS => ?_)
                  obtain ⟨rfl, rfl⟩ := hR'
                  have hP : va_P G.1 vwCl [(y_, .inr (7, [.ref (ca 0), .ref (ca 1), .ref (ca 2), .int (nI ke), .ref (ca 3), .int (nI ty_), .int (nI th), .int (nI po), .int (bI fl_), .ref (ca 4), .int (nI tl), .ref (ca 5)])), (ca 0, .inl (G.2.2.1, 103, .inr (.inl (mV T))))] _ := hP.sub [0, 1] rfl
                  have hD : va_D A [(y_, .inr (7, [.ref (ca 0), .ref (ca 1), .ref (ca 2), .int (nI ke), .ref (ca 3), .int (nI ty_), .int (nI th), .int (nI po), .int (bI fl_), .ref (ca 4), .int (nI tl), .ref (ca 5)])), (ca 0, .inl (G.2.2.1, 103, .inr (.inl (mV T))))] := hD.sub [0, 1] (by decide +kernel) rfl
                  refine lv_goto (tgt := 88) hx hb dX7_counted_78 (by decide) ?_
                  exact cr_iret hx hb hr hlocks hK hP hD hS dX7_counted_88 (by rw [hRR]; exact ctR_i (rfl) (rfl))
              · omega
            · omega
        · omega
  · refine lv_iload_n hx hb dX7_counted_0 rfl (lv_at hl 1 rfl) ?_
    refine lv_iconst (v := nI 3) hx hb dX7_counted_1 (by decide) ?_
    refine ks_icmp_lt (tgt := 17) hx hb dX7_counted_2 (by decide) (by omega) (by omega) (fun c_2 => ?_) (fun c_2 => ?_)
    · omega
    · refine lv_iload_n hx hb dX7_counted_5 rfl (lv_at hl 1 rfl) ?_
      refine lv_bipush (v := nI 9) hx hb dX7_counted_6 (by decide) ?_
      refine ks_icmp_eq (tgt := 17) hx hb dX7_counted_8 (by decide) (by omega) (by omega) (fun c_8 => ?_) (fun c_8 => ?_)
      · omega
      · refine lv_iload_n hx hb dX7_counted_11 rfl (lv_at hl 1 rfl) ?_
        refine lv_bipush (v := nI 10) hx hb dX7_counted_12 (by decide) ?_
        refine ks_icmp_ne (tgt := 41) hx hb dX7_counted_14 (by decide) (by omega) (by omega) (fun c_14 => ?_) (fun c_14 => ?_)
        · refine lv_iload_n hx hb dX7_counted_41 rfl (lv_at hl 1 rfl) ?_
          refine lv_iconst (v := nI 3) hx hb dX7_counted_42 (by decide) ?_
          refine ks_icmp_eq (tgt := 52) hx hb dX7_counted_43 (by decide) (by omega) (by omega) (fun c_43 => ?_) (fun c_43 => ?_)
          · omega
          · refine lv_iload_n hx hb dX7_counted_46 rfl (lv_at hl 1 rfl) ?_
            refine lv_bipush (v := nI 7) hx hb dX7_counted_47 (by decide) ?_
            refine ks_icmp_ne (tgt := 58) hx hb dX7_counted_49 (by decide) (by omega) (by omega) (fun c_49 => ?_) (fun c_49 => ?_)
            · refine lv_iload_n hx hb dX7_counted_58 rfl (lv_at hl 1 rfl) ?_
              refine lv_iconst (v := nI 4) hx hb dX7_counted_59 (by decide) ?_
              refine ks_icmp_eq (tgt := 69) hx hb dX7_counted_60 (by decide) (by omega) (by omega) (fun c_60 => ?_) (fun c_60 => ?_)
              · omega
              · refine lv_iload_n hx hb dX7_counted_63 rfl (lv_at hl 1 rfl) ?_
                refine lv_bipush (v := nI 8) hx hb dX7_counted_64 (by decide) ?_
                refine ks_icmp_ne (tgt := 89) hx hb dX7_counted_66 (by decide) (by omega) (by omega) (fun c_66 => ?_) (fun c_66 => ?_)
                · refine lv_iload_n hx hb dX7_counted_89 rfl (lv_at hl 1 rfl) ?_
                  refine lv_iconst (v := nI 5) hx hb dX7_counted_90 (by decide) ?_
                  refine ks_icmp_ne (tgt := 108) hx hb dX7_counted_91 (by decide) (by omega) (by omega) (fun c_91 => ?_) (fun c_91 => ?_)
                  · omega
                  · refine lv_aload_n hx hb dX7_counted_94 rfl (lv_at hl 0 rfl) ?_
                    refine lv_aload_n hx hb dX7_counted_95 rfl (lv_at hl 0 rfl) ?_
                    refine va_get (D := G.1) (ci := 7) (v := .ref (ca 0)) (C := RX7) (T := TX7) (N := 12) hx hb hts hin7 hown hK hP 0 rfl rfl 0 (by decide) (hts (.fieldLink RX7 7 "PowerTablesModel" "now" "[J") (List.mem_of_getElem? (i := 1) rfl)) (fun _ h9 => h9) rfl dX7_counted_96 ?_
                    refine lv_iconst (v := nI 0) hx hb dX7_counted_99 (by decide) ?_
                    refine ks_lald hx hb hK hP 1 rfl (by omega) (by decide) dX7_counted_100 ?_
                    refine ks_vL (show mV T 0 = lN (T.s 0) from rfl) ?_
                    refine ks_l2iN hx hb dX7_counted_101 ?_
                    refine cr_V (wr := []) (As := [.int (nI (T.s 0))]) (rest := []) ⟨hx, hb, hml, hown, hts⟩ (c_X7_groups G l y_ ca ke ty_ th po fl_ tl T (T.s 0) (by omega) (by omega) (by omega)) (cwV 1 hts gX7_counted_X7_groups rfl rfl rfl (by decide +kernel) ⟨Nat.le_of_ble_eq_true rfl, Nat.le_of_ble_eq_true rfl⟩) dX7_counted_102 hK hNX hP hD hS hA hl 0 7 rfl rfl rfl [0, 1] [] rfl rfl rfl rfl (by decide) rfl (Nat.le_of_ble_eq_true rfl) ⟨Nat.le_of_ble_eq_true rfl, Nat.le_of_ble_eq_true rfl⟩ rfl (fun v' w' Hq lcq hR' hP hD hS => ?_)
                    obtain ⟨rfl, rfl⟩ := hR'
                    have hP : va_P G.1 vwCl [(y_, .inr (7, [.ref (ca 0), .ref (ca 1), .ref (ca 2), .int (nI ke), .ref (ca 3), .int (nI ty_), .int (nI th), .int (nI po), .int (bI fl_), .ref (ca 4), .int (nI tl), .ref (ca 5)])), (ca 0, .inl (G.2.2.1, 103, .inr (.inl (mV T))))] _ := hP.sub [0, 1] rfl
                    have hD : va_D A [(y_, .inr (7, [.ref (ca 0), .ref (ca 1), .ref (ca 2), .int (nI ke), .ref (ca 3), .int (nI ty_), .int (nI th), .int (nI po), .int (bI fl_), .ref (ca 4), .int (nI tl), .ref (ca 5)])), (ca 0, .inl (G.2.2.1, 103, .inr (.inl (mV T))))] := hD.sub [0, 1] (by decide +kernel) rfl
                    refine lv_goto (tgt := 125) hx hb dX7_counted_105 (by decide) ?_
                    exact cr_iret hx hb hr hlocks hK hP hD hS dX7_counted_125 (by rw [hRR]; exact ctR_i (rfl) (rfl))
                · omega
            · omega
        · omega
  · refine lv_iload_n hx hb dX7_counted_0 rfl (lv_at hl 1 rfl) ?_
    refine lv_iconst (v := nI 3) hx hb dX7_counted_1 (by decide) ?_
    refine ks_icmp_lt (tgt := 17) hx hb dX7_counted_2 (by decide) (by omega) (by omega) (fun c_2 => ?_) (fun c_2 => ?_)
    · omega
    · refine lv_iload_n hx hb dX7_counted_5 rfl (lv_at hl 1 rfl) ?_
      refine lv_bipush (v := nI 9) hx hb dX7_counted_6 (by decide) ?_
      refine ks_icmp_eq (tgt := 17) hx hb dX7_counted_8 (by decide) (by omega) (by omega) (fun c_8 => ?_) (fun c_8 => ?_)
      · omega
      · refine lv_iload_n hx hb dX7_counted_11 rfl (lv_at hl 1 rfl) ?_
        refine lv_bipush (v := nI 10) hx hb dX7_counted_12 (by decide) ?_
        refine ks_icmp_ne (tgt := 41) hx hb dX7_counted_14 (by decide) (by omega) (by omega) (fun c_14 => ?_) (fun c_14 => ?_)
        · refine lv_iload_n hx hb dX7_counted_41 rfl (lv_at hl 1 rfl) ?_
          refine lv_iconst (v := nI 3) hx hb dX7_counted_42 (by decide) ?_
          refine ks_icmp_eq (tgt := 52) hx hb dX7_counted_43 (by decide) (by omega) (by omega) (fun c_43 => ?_) (fun c_43 => ?_)
          · omega
          · refine lv_iload_n hx hb dX7_counted_46 rfl (lv_at hl 1 rfl) ?_
            refine lv_bipush (v := nI 7) hx hb dX7_counted_47 (by decide) ?_
            refine ks_icmp_ne (tgt := 58) hx hb dX7_counted_49 (by decide) (by omega) (by omega) (fun c_49 => ?_) (fun c_49 => ?_)
            · refine lv_iload_n hx hb dX7_counted_58 rfl (lv_at hl 1 rfl) ?_
              refine lv_iconst (v := nI 4) hx hb dX7_counted_59 (by decide) ?_
              refine ks_icmp_eq (tgt := 69) hx hb dX7_counted_60 (by decide) (by omega) (by omega) (fun c_60 => ?_) (fun c_60 => ?_)
              · omega
              · refine lv_iload_n hx hb dX7_counted_63 rfl (lv_at hl 1 rfl) ?_
                refine lv_bipush (v := nI 8) hx hb dX7_counted_64 (by decide) ?_
                refine ks_icmp_ne (tgt := 89) hx hb dX7_counted_66 (by decide) (by omega) (by omega) (fun c_66 => ?_) (fun c_66 => ?_)
                · refine lv_iload_n hx hb dX7_counted_89 rfl (lv_at hl 1 rfl) ?_
                  refine lv_iconst (v := nI 5) hx hb dX7_counted_90 (by decide) ?_
                  refine ks_icmp_ne (tgt := 108) hx hb dX7_counted_91 (by decide) (by omega) (by omega) (fun c_91 => ?_) (fun c_91 => ?_)
                  · refine lv_iload_n hx hb dX7_counted_108 rfl (lv_at hl 1 rfl) ?_
                    refine lv_bipush (v := nI 6) hx hb dX7_counted_109 (by decide) ?_
                    refine ks_icmp_ne (tgt := 121) hx hb dX7_counted_111 (by decide) (by omega) (by omega) (fun c_111 => ?_) (fun c_111 => ?_)
                    · omega
                    · refine lv_aload_n hx hb dX7_counted_114 rfl (lv_at hl 0 rfl) ?_
                      refine cr_V (wr := []) (As := []) (rest := []) ⟨hx, hb, hml, hown, hts⟩ (c_X7_foundWrong G l y_ ca ke ty_ th po fl_ tl T (by omega) (by omega) (by omega) (by omega) (by omega)) (cwV 0 hts gX7_counted_X7_foundWrong rfl rfl rfl (by decide +kernel) ⟨Nat.le_of_ble_eq_true rfl, Nat.le_of_ble_eq_true rfl⟩) dX7_counted_115 hK hNX hP hD hS hA hl 0 7 rfl rfl rfl [0, 1] [] rfl rfl rfl rfl (by decide) rfl (Nat.le_of_ble_eq_true rfl) ⟨Nat.le_of_ble_eq_true rfl, Nat.le_of_ble_eq_true rfl⟩ rfl (fun v' w' Hq lcq hR' hP hD hS => ?_)
                      obtain ⟨rfl, rfl⟩ := hR'
                      have hP : va_P G.1 vwCl [(y_, .inr (7, [.ref (ca 0), .ref (ca 1), .ref (ca 2), .int (nI ke), .ref (ca 3), .int (nI ty_), .int (nI th), .int (nI po), .int (bI fl_), .ref (ca 4), .int (nI tl), .ref (ca 5)])), (ca 0, .inl (G.2.2.1, 103, .inr (.inl (mV T))))] _ := hP.sub [0, 1] rfl
                      have hD : va_D A [(y_, .inr (7, [.ref (ca 0), .ref (ca 1), .ref (ca 2), .int (nI ke), .ref (ca 3), .int (nI ty_), .int (nI th), .int (nI po), .int (bI fl_), .ref (ca 4), .int (nI tl), .ref (ca 5)])), (ca 0, .inl (G.2.2.1, 103, .inr (.inl (mV T))))] := hD.sub [0, 1] (by decide +kernel) rfl
                      refine lv_goto (tgt := 125) hx hb dX7_counted_118 (by decide) ?_
                      exact cr_iret hx hb hr hlocks hK hP hD hS dX7_counted_125 (by rw [hRR]; exact ctR_i (rfl) (rfl))
                  · omega
                · omega
            · omega
        · omega
  · refine lv_iload_n hx hb dX7_counted_0 rfl (lv_at hl 1 rfl) ?_
    refine lv_iconst (v := nI 3) hx hb dX7_counted_1 (by decide) ?_
    refine ks_icmp_lt (tgt := 17) hx hb dX7_counted_2 (by decide) (by omega) (by omega) (fun c_2 => ?_) (fun c_2 => ?_)
    · omega
    · refine lv_iload_n hx hb dX7_counted_5 rfl (lv_at hl 1 rfl) ?_
      refine lv_bipush (v := nI 9) hx hb dX7_counted_6 (by decide) ?_
      refine ks_icmp_eq (tgt := 17) hx hb dX7_counted_8 (by decide) (by omega) (by omega) (fun c_8 => ?_) (fun c_8 => ?_)
      · omega
      · refine lv_iload_n hx hb dX7_counted_11 rfl (lv_at hl 1 rfl) ?_
        refine lv_bipush (v := nI 10) hx hb dX7_counted_12 (by decide) ?_
        refine ks_icmp_ne (tgt := 41) hx hb dX7_counted_14 (by decide) (by omega) (by omega) (fun c_14 => ?_) (fun c_14 => ?_)
        · refine lv_iload_n hx hb dX7_counted_41 rfl (lv_at hl 1 rfl) ?_
          refine lv_iconst (v := nI 3) hx hb dX7_counted_42 (by decide) ?_
          refine ks_icmp_eq (tgt := 52) hx hb dX7_counted_43 (by decide) (by omega) (by omega) (fun c_43 => ?_) (fun c_43 => ?_)
          · omega
          · refine lv_iload_n hx hb dX7_counted_46 rfl (lv_at hl 1 rfl) ?_
            refine lv_bipush (v := nI 7) hx hb dX7_counted_47 (by decide) ?_
            refine ks_icmp_ne (tgt := 58) hx hb dX7_counted_49 (by decide) (by omega) (by omega) (fun c_49 => ?_) (fun c_49 => ?_)
            · omega
            · refine lv_aload_n hx hb dX7_counted_52 rfl (lv_at hl 0 rfl) ?_
              refine lv_iload_n hx hb dX7_counted_53 rfl (lv_at hl 1 rfl) ?_
              refine cr_V (wr := []) (As := [.int (nI 7)]) (rest := []) ⟨hx, hb, hml, hown, hts⟩ (c_X7_overRows__7 G l y_ ca ke ty_ th po fl_ tl T (by omega)) (cwV 1 hts gX7_counted_X7_overRows rfl rfl rfl (by decide +kernel) ⟨Nat.le_of_ble_eq_true rfl, Nat.le_of_ble_eq_true rfl⟩) dX7_counted_54 hK hNX hP hD hS hA hl 0 7 rfl rfl rfl [0, 1] [] rfl rfl rfl rfl (by decide) rfl (Nat.le_of_ble_eq_true rfl) ⟨Nat.le_of_ble_eq_true rfl, Nat.le_of_ble_eq_true rfl⟩ rfl (fun v' w' Hq lcq hR' hP hD hS => ?_)
              obtain ⟨rfl, rfl⟩ := hR'
              have hP : va_P G.1 vwCl [(y_, .inr (7, [.ref (ca 0), .ref (ca 1), .ref (ca 2), .int (nI ke), .ref (ca 3), .int (nI ty_), .int (nI th), .int (nI po), .int (bI fl_), .ref (ca 4), .int (nI tl), .ref (ca 5)])), (ca 0, .inl (G.2.2.1, 103, .inr (.inl (mV T))))] _ := hP.sub [0, 1] rfl
              have hD : va_D A [(y_, .inr (7, [.ref (ca 0), .ref (ca 1), .ref (ca 2), .int (nI ke), .ref (ca 3), .int (nI ty_), .int (nI th), .int (nI po), .int (bI fl_), .ref (ca 4), .int (nI tl), .ref (ca 5)])), (ca 0, .inl (G.2.2.1, 103, .inr (.inl (mV T))))] := hD.sub [0, 1] (by decide +kernel) rfl
              exact cr_iret hx hb hr hlocks hK hP hD hS dX7_counted_57 (by rw [hRR]; exact ctR_i (rfl) (rfl))
        · omega
  · refine lv_iload_n hx hb dX7_counted_0 rfl (lv_at hl 1 rfl) ?_
    refine lv_iconst (v := nI 3) hx hb dX7_counted_1 (by decide) ?_
    refine ks_icmp_lt (tgt := 17) hx hb dX7_counted_2 (by decide) (by omega) (by omega) (fun c_2 => ?_) (fun c_2 => ?_)
    · omega
    · refine lv_iload_n hx hb dX7_counted_5 rfl (lv_at hl 1 rfl) ?_
      refine lv_bipush (v := nI 9) hx hb dX7_counted_6 (by decide) ?_
      refine ks_icmp_eq (tgt := 17) hx hb dX7_counted_8 (by decide) (by omega) (by omega) (fun c_8 => ?_) (fun c_8 => ?_)
      · omega
      · refine lv_iload_n hx hb dX7_counted_11 rfl (lv_at hl 1 rfl) ?_
        refine lv_bipush (v := nI 10) hx hb dX7_counted_12 (by decide) ?_
        refine ks_icmp_ne (tgt := 41) hx hb dX7_counted_14 (by decide) (by omega) (by omega) (fun c_14 => ?_) (fun c_14 => ?_)
        · refine lv_iload_n hx hb dX7_counted_41 rfl (lv_at hl 1 rfl) ?_
          refine lv_iconst (v := nI 3) hx hb dX7_counted_42 (by decide) ?_
          refine ks_icmp_eq (tgt := 52) hx hb dX7_counted_43 (by decide) (by omega) (by omega) (fun c_43 => ?_) (fun c_43 => ?_)
          · omega
          · refine lv_iload_n hx hb dX7_counted_46 rfl (lv_at hl 1 rfl) ?_
            refine lv_bipush (v := nI 7) hx hb dX7_counted_47 (by decide) ?_
            refine ks_icmp_ne (tgt := 58) hx hb dX7_counted_49 (by decide) (by omega) (by omega) (fun c_49 => ?_) (fun c_49 => ?_)
            · refine lv_iload_n hx hb dX7_counted_58 rfl (lv_at hl 1 rfl) ?_
              refine lv_iconst (v := nI 4) hx hb dX7_counted_59 (by decide) ?_
              refine ks_icmp_eq (tgt := 69) hx hb dX7_counted_60 (by decide) (by omega) (by omega) (fun c_60 => ?_) (fun c_60 => ?_)
              · omega
              · refine lv_iload_n hx hb dX7_counted_63 rfl (lv_at hl 1 rfl) ?_
                refine lv_bipush (v := nI 8) hx hb dX7_counted_64 (by decide) ?_
                refine ks_icmp_ne (tgt := 89) hx hb dX7_counted_66 (by decide) (by omega) (by omega) (fun c_66 => ?_) (fun c_66 => ?_)
                · omega
                · refine lv_iload_n hx hb dX7_counted_69 rfl (lv_at hl 1 rfl) ?_
                  refine lv_iconst (v := nI 4) hx hb dX7_counted_70 (by decide) ?_
                  refine ks_icmp_ne (tgt := 81) hx hb dX7_counted_71 (by decide) (by omega) (by omega) (fun c_71 => ?_) (fun c_71 => ?_)
                  · refine lv_aload_n hx hb dX7_counted_81 rfl (lv_at hl 0 rfl) ?_
                    refine va_get (D := G.1) (ci := 7) (v := .ref (ca 0)) (C := RX7) (T := TX7) (N := 12) hx hb hts hin7 hown hK hP 0 rfl rfl 0 (by decide) (hts (.fieldLink RX7 7 "PowerTablesModel" "now" "[J") (List.mem_of_getElem? (i := 1) rfl)) (fun _ h9 => h9) rfl dX7_counted_82 ?_
                    refine cr_S (wr := [(y_, .inr (7, [.ref (ca 0), .ref (ca 1), .ref (ca 2), .int (nI ke), .ref (ca 3), .int (nI ty_), .int (nI th), .int (nI po), .int (bI fl_), .ref (ca 4), .int (nI tl), .ref (ca 5)]))]) (As := [.ref (ca 0)]) (rest := []) ⟨hx, hb, hml, hown, hts⟩ (c_X7_wrong G l (ca 0) T (by omega) (by omega) (by omega)) (va_cwS 1 hts gX7_counted_X7_wrong rfl rfl rfl (by decide +kernel) ⟨Nat.le_of_ble_eq_true rfl, Nat.le_of_ble_eq_true rfl⟩) dX7_counted_85 hK hNX hP hD hS hA hl [1] [0] rfl rfl rfl rfl (by decide) rfl (Nat.le_of_ble_eq_true rfl) ⟨Nat.le_of_ble_eq_true rfl, Nat.le_of_ble_eq_true rfl⟩ rfl (fun v' w' Hq lcq hR' hP hD hS => ?_)
                    obtain ⟨rfl, rfl⟩ := hR'
                    have hP : va_P G.1 vwCl [(y_, .inr (7, [.ref (ca 0), .ref (ca 1), .ref (ca 2), .int (nI ke), .ref (ca 3), .int (nI ty_), .int (nI th), .int (nI po), .int (bI fl_), .ref (ca 4), .int (nI tl), .ref (ca 5)])), (ca 0, .inl (G.2.2.1, 103, .inr (.inl (mV T))))] _ := hP.sub [0, 1] rfl
                    have hD : va_D A [(y_, .inr (7, [.ref (ca 0), .ref (ca 1), .ref (ca 2), .int (nI ke), .ref (ca 3), .int (nI ty_), .int (nI th), .int (nI po), .int (bI fl_), .ref (ca 4), .int (nI tl), .ref (ca 5)])), (ca 0, .inl (G.2.2.1, 103, .inr (.inl (mV T))))] := hD.sub [0, 1] (by decide +kernel) rfl
                    exact cr_iret hx hb hr hlocks hK hP hD hS dX7_counted_88 (by rw [hRR]; exact ctR_i (rfl) (rfl))
                  · omega
            · omega
        · omega
  · refine lv_iload_n hx hb dX7_counted_0 rfl (lv_at hl 1 rfl) ?_
    refine lv_iconst (v := nI 3) hx hb dX7_counted_1 (by decide) ?_
    refine ks_icmp_lt (tgt := 17) hx hb dX7_counted_2 (by decide) (by omega) (by omega) (fun c_2 => ?_) (fun c_2 => ?_)
    · omega
    · refine lv_iload_n hx hb dX7_counted_5 rfl (lv_at hl 1 rfl) ?_
      refine lv_bipush (v := nI 9) hx hb dX7_counted_6 (by decide) ?_
      refine ks_icmp_eq (tgt := 17) hx hb dX7_counted_8 (by decide) (by omega) (by omega) (fun c_8 => ?_) (fun c_8 => ?_)
      · refine lv_aload_n hx hb dX7_counted_17 rfl (lv_at hl 0 rfl) ?_
        refine va_get (D := G.1) (ci := 7) (v := .ref (ca 0)) (C := RX7) (T := TX7) (N := 12) hx hb hts hin7 hown hK hP 0 rfl rfl 0 (by decide) (hts (.fieldLink RX7 7 "PowerTablesModel" "now" "[J") (List.mem_of_getElem? (i := 1) rfl)) (fun _ h9 => h9) rfl dX7_counted_18 ?_
        refine lv_iload_n hx hb dX7_counted_21 rfl (lv_at hl 1 rfl) ?_
        refine lv_iconst (v := nI 3) hx hb dX7_counted_22 (by decide) ?_
        refine ks_icmp_ge (tgt := 32) hx hb dX7_counted_23 (by decide) (by omega) (by omega) (fun c_23 => ?_) (fun c_23 => ?_)
        · refine lv_iconst (v := nI 5) hx hb dX7_counted_32 (by decide) ?_
          refine lv_iload_n hx hb dX7_counted_33 rfl (lv_at hl 1 rfl) ?_
          refine ks_iaddN hx hb dX7_counted_34 ?_
          refine lv_bipush (v := nI 9) hx hb dX7_counted_35 (by decide) ?_
          refine ks_isubN hx hb dX7_counted_37 (by omega) ?_
          refine ks_lald hx hb hK hP 1 rfl (by omega) (by decide) dX7_counted_38 ?_
          refine ks_vL (show mV T 5 = lN (T.s 5) from rfl) ?_
          refine ks_l2iN hx hb dX7_counted_39 ?_
          exact cr_iret hx hb hr hlocks hK hP hD hS dX7_counted_40 (by rw [hRR]; exact ctR_i (rfl) (rfl))
        · omega
      · omega
  · refine lv_iload_n hx hb dX7_counted_0 rfl (lv_at hl 1 rfl) ?_
    refine lv_iconst (v := nI 3) hx hb dX7_counted_1 (by decide) ?_
    refine ks_icmp_lt (tgt := 17) hx hb dX7_counted_2 (by decide) (by omega) (by omega) (fun c_2 => ?_) (fun c_2 => ?_)
    · omega
    · refine lv_iload_n hx hb dX7_counted_5 rfl (lv_at hl 1 rfl) ?_
      refine lv_bipush (v := nI 9) hx hb dX7_counted_6 (by decide) ?_
      refine ks_icmp_eq (tgt := 17) hx hb dX7_counted_8 (by decide) (by omega) (by omega) (fun c_8 => ?_) (fun c_8 => ?_)
      · omega
      · refine lv_iload_n hx hb dX7_counted_11 rfl (lv_at hl 1 rfl) ?_
        refine lv_bipush (v := nI 10) hx hb dX7_counted_12 (by decide) ?_
        refine ks_icmp_ne (tgt := 41) hx hb dX7_counted_14 (by decide) (by omega) (by omega) (fun c_14 => ?_) (fun c_14 => ?_)
        · omega
        · refine lv_aload_n hx hb dX7_counted_17 rfl (lv_at hl 0 rfl) ?_
          refine va_get (D := G.1) (ci := 7) (v := .ref (ca 0)) (C := RX7) (T := TX7) (N := 12) hx hb hts hin7 hown hK hP 0 rfl rfl 0 (by decide) (hts (.fieldLink RX7 7 "PowerTablesModel" "now" "[J") (List.mem_of_getElem? (i := 1) rfl)) (fun _ h9 => h9) rfl dX7_counted_18 ?_
          refine lv_iload_n hx hb dX7_counted_21 rfl (lv_at hl 1 rfl) ?_
          refine lv_iconst (v := nI 3) hx hb dX7_counted_22 (by decide) ?_
          refine ks_icmp_ge (tgt := 32) hx hb dX7_counted_23 (by decide) (by omega) (by omega) (fun c_23 => ?_) (fun c_23 => ?_)
          · refine lv_iconst (v := nI 5) hx hb dX7_counted_32 (by decide) ?_
            refine lv_iload_n hx hb dX7_counted_33 rfl (lv_at hl 1 rfl) ?_
            refine ks_iaddN hx hb dX7_counted_34 ?_
            refine lv_bipush (v := nI 9) hx hb dX7_counted_35 (by decide) ?_
            refine ks_isubN hx hb dX7_counted_37 (by omega) ?_
            refine ks_lald hx hb hK hP 1 rfl (by omega) (by decide) dX7_counted_38 ?_
            refine ks_vL (show mV T 6 = lN (T.s 6) from rfl) ?_
            refine ks_l2iN hx hb dX7_counted_39 ?_
            exact cr_iret hx hb hr hlocks hK hP hD hS dX7_counted_40 (by rw [hRR]; exact ctR_i (rfl) (rfl))
          · omega
  · refine lv_iload_n hx hb dX7_counted_0 rfl (lv_at hl 1 rfl) ?_
    refine lv_iconst (v := nI 3) hx hb dX7_counted_1 (by decide) ?_
    refine ks_icmp_lt (tgt := 17) hx hb dX7_counted_2 (by decide) (by omega) (by omega) (fun c_2 => ?_) (fun c_2 => ?_)
    · omega
    · refine lv_iload_n hx hb dX7_counted_5 rfl (lv_at hl 1 rfl) ?_
      refine lv_bipush (v := nI 9) hx hb dX7_counted_6 (by decide) ?_
      refine ks_icmp_eq (tgt := 17) hx hb dX7_counted_8 (by decide) (by omega) (by omega) (fun c_8 => ?_) (fun c_8 => ?_)
      · omega
      · refine lv_iload_n hx hb dX7_counted_11 rfl (lv_at hl 1 rfl) ?_
        refine lv_bipush (v := nI 10) hx hb dX7_counted_12 (by decide) ?_
        refine ks_icmp_ne (tgt := 41) hx hb dX7_counted_14 (by decide) (by omega) (by omega) (fun c_14 => ?_) (fun c_14 => ?_)
        · refine lv_iload_n hx hb dX7_counted_41 rfl (lv_at hl 1 rfl) ?_
          refine lv_iconst (v := nI 3) hx hb dX7_counted_42 (by decide) ?_
          refine ks_icmp_eq (tgt := 52) hx hb dX7_counted_43 (by decide) (by omega) (by omega) (fun c_43 => ?_) (fun c_43 => ?_)
          · omega
          · refine lv_iload_n hx hb dX7_counted_46 rfl (lv_at hl 1 rfl) ?_
            refine lv_bipush (v := nI 7) hx hb dX7_counted_47 (by decide) ?_
            refine ks_icmp_ne (tgt := 58) hx hb dX7_counted_49 (by decide) (by omega) (by omega) (fun c_49 => ?_) (fun c_49 => ?_)
            · refine lv_iload_n hx hb dX7_counted_58 rfl (lv_at hl 1 rfl) ?_
              refine lv_iconst (v := nI 4) hx hb dX7_counted_59 (by decide) ?_
              refine ks_icmp_eq (tgt := 69) hx hb dX7_counted_60 (by decide) (by omega) (by omega) (fun c_60 => ?_) (fun c_60 => ?_)
              · omega
              · refine lv_iload_n hx hb dX7_counted_63 rfl (lv_at hl 1 rfl) ?_
                refine lv_bipush (v := nI 8) hx hb dX7_counted_64 (by decide) ?_
                refine ks_icmp_ne (tgt := 89) hx hb dX7_counted_66 (by decide) (by omega) (by omega) (fun c_66 => ?_) (fun c_66 => ?_)
                · refine lv_iload_n hx hb dX7_counted_89 rfl (lv_at hl 1 rfl) ?_
                  refine lv_iconst (v := nI 5) hx hb dX7_counted_90 (by decide) ?_
                  refine ks_icmp_ne (tgt := 108) hx hb dX7_counted_91 (by decide) (by omega) (by omega) (fun c_91 => ?_) (fun c_91 => ?_)
                  · refine lv_iload_n hx hb dX7_counted_108 rfl (lv_at hl 1 rfl) ?_
                    refine lv_bipush (v := nI 6) hx hb dX7_counted_109 (by decide) ?_
                    refine ks_icmp_ne (tgt := 121) hx hb dX7_counted_111 (by decide) (by omega) (by omega) (fun c_111 => ?_) (fun c_111 => ?_)
                    · refine lv_aload_n hx hb dX7_counted_121 rfl (lv_at hl 0 rfl) ?_
                      refine va_get (D := G.1) (ci := 7) (v := .int (nI ke)) (C := RX7) (T := TX7) (N := 12) hx hb hts hin7 hown hK hP 0 rfl rfl 3 (by decide) (hts (.fieldLink RX7 47 "PowerTablesModel" "kept" "I") (List.mem_of_getElem? (i := 2) rfl)) (fun _ h9 => h9) rfl dX7_counted_122 ?_
                      exact cr_iret hx hb hr hlocks hK hP hD hS dX7_counted_125 (by rw [hRR]; exact ctR_i (rfl) (rfl))
                    · omega
                  · omega
                · omega
            · omega
        · omega
set_option maxHeartbeats 4000000 in
set_option maxRecDepth 100000 in
theorem c_X7_count (G : GG) (l : Launch) (y_ : Nat) (ca : Nat → Nat) (ke : Nat) (ty_ : Nat) (th : Nat) (po : Nat) (fl_ : Prop) (tl : Nat) (T : TS) (w_ : Nat) (jw : w_ < 12) (jn4 : T.s 4 ≤ 40) (jz : 1 ≤ T.s 0) (jz2 : T.s 0 ≤ 20) (jf_ : T.s 3 ≤ 99) (jp : T.s 2 ≤ 5) : Cr G l yX7_count wsX7_count ({ frames := 5, cells := 0, slots := 0, locals := 119 }) 0 0 [.ref y_, .int (nI w_)] [(y_, .inr (7, [.ref (ca 0), .ref (ca 1), .ref (ca 2), .int (nI ke), .ref (ca 3), .int (nI ty_), .int (nI th), .int (nI po), .int (bI fl_), .ref (ca 4), .int (nI tl), .ref (ca 5)])), (ca 0, .inl (G.2.2.1, 103, .inr (.inl (mV T))))] (ctR (some (.int (cntA T (rvT T) ke w_))) [(y_, .inr (7, [.ref (ca 0), .ref (ca 1), .ref (ca 2), .int (nI ke), .ref (ca 3), .int (nI ty_), .int (nI 0), .int (nI po), .int (bI fl_), .ref (ca 4), .int (nI tl), .ref (ca 5)])), (ca 0, .inl (G.2.2.1, 103, .inr (.inl (mV T))))]) := by
  refine cr_intro (cc := cX7_count) (maxL := 2) (ret := (some .int)) (own := RX7) (by decide) rfl rfl (Nat.le_of_ble_eq_true rfl) ?_
  intro p e s m args below meth c A hx hb hr hml hts hown hlocks hnm hNX hP hK hD hA hS ls hl
  obtain ⟨RR, hRR⟩ : ∃ RR, RR = (ctR (some (.int (cntA T (rvT T) ke w_))) [(y_, .inr (7, [.ref (ca 0), .ref (ca 1), .ref (ca 2), .int (nI ke), .ref (ca 3), .int (nI ty_), .int (nI 0), .int (nI po), .int (bI fl_), .ref (ca 4), .int (nI tl), .ref (ca 5)])), (ca 0, .inl (G.2.2.1, 103, .inr (.inl (mV T))))]) := ⟨_, rfl⟩
  rw [← hRR]
  have hl : lv_has ls 2 [(0, .ref y_), (1, .int (nI w_))] := hl
  have hin7 : ∀ w_ ∈ u_ws RX7 TX7 12, w_ ∈ wsX7_count := fun w_ h => List.mem_cons_of_mem _ (List.mem_append_right _ h)
  refine lv_aload_n hx hb dX7_count_0 rfl (lv_at hl 0 rfl) ?_
  refine lv_iconst (v := nI 0) hx hb dX7_count_1 (by decide) ?_
  refine va_put (D := G.1) (ci := 7) (v := .int (nI 0)) (ty := .int) (C := RX7) (T := TX7) (N := 12) hx hb hts hin7 tyX7 tyX7_ok nmX7 hown hK hP hD hS 0 rfl rfl 6 (by decide) (hts (.fieldLink RX7 39 "PowerTablesModel" "thrown" "I") (List.mem_of_getElem? (i := 1) rfl)) (fun _ h9 => h9) rfl (tyX7_ok 6 (by decide)) rfl rfl (Nat.le_of_ble_eq_true rfl) dX7_count_2 (fun Hq lcq hP hD hS => ?_)
  have hP : va_P G.1 vwCl [(y_, .inr (7, [.ref (ca 0), .ref (ca 1), .ref (ca 2), .int (nI ke), .ref (ca 3), .int (nI ty_), .int (nI 0), .int (nI po), .int (bI fl_), .ref (ca 4), .int (nI tl), .ref (ca 5)])), (ca 0, .inl (G.2.2.1, 103, .inr (.inl (mV T))))] _ := hP
  have hD : va_D A [(y_, .inr (7, [.ref (ca 0), .ref (ca 1), .ref (ca 2), .int (nI ke), .ref (ca 3), .int (nI ty_), .int (nI 0), .int (nI po), .int (bI fl_), .ref (ca 4), .int (nI tl), .ref (ca 5)])), (ca 0, .inl (G.2.2.1, 103, .inr (.inl (mV T))))] := hD
  refine lv_iload_n hx hb dX7_count_5 rfl (lv_at hl 1 rfl) ?_
  refine ks_i2lN hx hb dX7_count_6 (by omega) ?_
  refine lv_lconst (v := lN 0) hx hb dX7_count_7 rfl ?_
  refine lv_ldc2 hx hb hown (hts (.constantLong RX7 190 (11)) (List.mem_of_getElem? (i := 2) rfl)) dX7_count_8 ?_
  refine ks_vL (show (11 : Int64) = lN 11 from rfl) ?_
  refine cr_S (wr := [(y_, .inr (7, [.ref (ca 0), .ref (ca 1), .ref (ca 2), .int (nI ke), .ref (ca 3), .int (nI ty_), .int (nI 0), .int (nI po), .int (bI fl_), .ref (ca 4), .int (nI tl), .ref (ca 5)])), (ca 0, .inl (G.2.2.1, 103, .inr (.inl (mV T))))]) (As := [.long (lN w_), .long (lN 0), .long (lN 11)]) (rest := []) ⟨hx, hb, hml, hown, hts⟩ (c_X7_in__n G l w_ 0 11 (by omega) (by omega) (by omega)) (va_cwS 3 hts gX7_count_X7_in rfl rfl rfl (by decide +kernel) ⟨Nat.le_of_ble_eq_true rfl, Nat.le_of_ble_eq_true rfl⟩) dX7_count_11 hK hNX hP hD hS hA hl [] [0, 1] rfl rfl rfl rfl (by decide) rfl (Nat.le_of_ble_eq_true rfl) ⟨Nat.le_of_ble_eq_true rfl, Nat.le_of_ble_eq_true rfl⟩ rfl (fun v' w' Hq lcq hR' hP hD hS => ?_)
  obtain ⟨rfl, rfl⟩ := hR'
  have hP : va_P G.1 vwCl [(y_, .inr (7, [.ref (ca 0), .ref (ca 1), .ref (ca 2), .int (nI ke), .ref (ca 3), .int (nI ty_), .int (nI 0), .int (nI po), .int (bI fl_), .ref (ca 4), .int (nI tl), .ref (ca 5)])), (ca 0, .inl (G.2.2.1, 103, .inr (.inl (mV T))))] _ := hP.sub [0, 1] rfl
  have hD : va_D A [(y_, .inr (7, [.ref (ca 0), .ref (ca 1), .ref (ca 2), .int (nI ke), .ref (ca 3), .int (nI ty_), .int (nI 0), .int (nI po), .int (bI fl_), .ref (ca 4), .int (nI tl), .ref (ca 5)])), (ca 0, .inl (G.2.2.1, 103, .inr (.inl (mV T))))] := hD.sub [0, 1] (by decide +kernel) rfl
  refine ks_ifb_eq (tgt := 25) hx hb dX7_count_14 (by decide) (fun c_14 => ?_) (fun c_14 => ?_)
  · exact absurd ⟨Nat.zero_le _, by omega⟩ c_14
  · refine lv_aload_n hx hb dX7_count_17 rfl (lv_at hl 0 rfl) ?_
    refine lv_iload_n hx hb dX7_count_18 rfl (lv_at hl 1 rfl) ?_
    refine cr_V (wr := []) (As := [.int (nI w_)]) (rest := []) ⟨hx, hb, hml, hown, hts⟩ (c_X7_counted G l y_ ca ke ty_ 0 po fl_ tl T w_ (by omega) (by omega) (by omega) (by omega) (by omega) (by omega)) (cwV 1 hts gX7_count_X7_counted rfl rfl rfl (by decide +kernel) ⟨Nat.le_of_ble_eq_true rfl, Nat.le_of_ble_eq_true rfl⟩) dX7_count_19 hK hNX hP hD hS hA hl 0 7 rfl rfl rfl [0, 1] [] rfl rfl rfl rfl (by decide) rfl (Nat.le_of_ble_eq_true rfl) ⟨Nat.le_of_ble_eq_true rfl, Nat.le_of_ble_eq_true rfl⟩ rfl (fun v' w' Hq lcq hR' hP hD hS => ?_)
    obtain ⟨rfl, rfl⟩ := hR'
    have hP : va_P G.1 vwCl [(y_, .inr (7, [.ref (ca 0), .ref (ca 1), .ref (ca 2), .int (nI ke), .ref (ca 3), .int (nI ty_), .int (nI 0), .int (nI po), .int (bI fl_), .ref (ca 4), .int (nI tl), .ref (ca 5)])), (ca 0, .inl (G.2.2.1, 103, .inr (.inl (mV T))))] _ := hP.sub [0, 1] rfl
    have hD : va_D A [(y_, .inr (7, [.ref (ca 0), .ref (ca 1), .ref (ca 2), .int (nI ke), .ref (ca 3), .int (nI ty_), .int (nI 0), .int (nI po), .int (bI fl_), .ref (ca 4), .int (nI tl), .ref (ca 5)])), (ca 0, .inl (G.2.2.1, 103, .inr (.inl (mV T))))] := hD.sub [0, 1] (by decide +kernel) rfl
    refine lv_goto (tgt := 30) hx hb dX7_count_22 (by decide) ?_
    exact cr_iret hx hb hr hlocks hK hP hD hS dX7_count_30 (by rw [hRR]; exact ctR_i (rfl) (rfl))
set_option maxHeartbeats 4000000 in
set_option maxRecDepth 100000 in
theorem c_X7_count__b1 (G : GG) (l : Launch) (y_ : Nat) (ca : Nat → Nat) (ke : Nat) (ty_ : Nat) (th : Nat) (po : Nat) (fl_ : Prop) (tl : Nat) (v_ : Int32) (h8 : ¬ (0 ≤ v_.toInt ∧ v_.toInt ≤ 11)) : Cr G l yX7_count wsX7_count ({ frames := 5, cells := 0, slots := 0, locals := 119 }) 0 0 [.ref y_, .int v_] [(y_, .inr (7, [.ref (ca 0), .ref (ca 1), .ref (ca 2), .int (nI ke), .ref (ca 3), .int (nI ty_), .int (nI th), .int (nI po), .int (bI fl_), .ref (ca 4), .int (nI tl), .ref (ca 5)]))] (ctR (some (.int (nI 0))) [(y_, .inr (7, [.ref (ca 0), .ref (ca 1), .ref (ca 2), .int (nI ke), .ref (ca 3), .int (nI ty_), .int (nI 1), .int (nI po), .int (bI fl_), .ref (ca 4), .int (nI tl), .ref (ca 5)]))]) := by
  refine cr_intro (cc := cX7_count) (maxL := 2) (ret := (some .int)) (own := RX7) (by decide) rfl rfl (Nat.le_of_ble_eq_true rfl) ?_
  intro p e s m args below meth c A hx hb hr hml hts hown hlocks hnm hNX hP hK hD hA hS ls hl
  obtain ⟨RR, hRR⟩ : ∃ RR, RR = (ctR (some (.int (nI 0))) [(y_, .inr (7, [.ref (ca 0), .ref (ca 1), .ref (ca 2), .int (nI ke), .ref (ca 3), .int (nI ty_), .int (nI 1), .int (nI po), .int (bI fl_), .ref (ca 4), .int (nI tl), .ref (ca 5)]))]) := ⟨_, rfl⟩
  rw [← hRR]
  have hl : lv_has ls 2 [(0, .ref y_), (1, .int v_)] := hl
  have hin7 : ∀ w ∈ u_ws RX7 TX7 12, w ∈ wsX7_count := fun w h => List.mem_cons_of_mem _ (List.mem_append_right _ h)
  refine lv_aload_n hx hb dX7_count_0 rfl (lv_at hl 0 rfl) ?_
  refine lv_iconst (v := nI 0) hx hb dX7_count_1 (by decide) ?_
  refine va_put (D := G.1) (ci := 7) (v := .int (nI 0)) (ty := .int) (C := RX7) (T := TX7) (N := 12) hx hb hts hin7 tyX7 tyX7_ok nmX7 hown hK hP hD hS 0 rfl rfl 6 (by decide) (hts (.fieldLink RX7 39 "PowerTablesModel" "thrown" "I") (List.mem_of_getElem? (i := 1) rfl)) (fun _ h9 => h9) rfl (tyX7_ok 6 (by decide)) rfl rfl (Nat.le_of_ble_eq_true rfl) dX7_count_2 (fun Hq lcq hP hD hS => ?_)
  have hP : va_P G.1 vwCl [(y_, .inr (7, [.ref (ca 0), .ref (ca 1), .ref (ca 2), .int (nI ke), .ref (ca 3), .int (nI ty_), .int (nI 0), .int (nI po), .int (bI fl_), .ref (ca 4), .int (nI tl), .ref (ca 5)]))] _ := hP
  have hD : va_D A [(y_, .inr (7, [.ref (ca 0), .ref (ca 1), .ref (ca 2), .int (nI ke), .ref (ca 3), .int (nI ty_), .int (nI 0), .int (nI po), .int (bI fl_), .ref (ca 4), .int (nI tl), .ref (ca 5)]))] := hD
  refine lv_iload_n hx hb dX7_count_5 rfl (lv_at hl 1 rfl) ?_
  refine lv_i2l hx hb dX7_count_6 rfl ?_
  refine lv_lconst (v := lN 0) hx hb dX7_count_7 rfl ?_
  refine lv_ldc2 hx hb hown (hts (.constantLong RX7 190 (11)) (List.mem_of_getElem? (i := 2) rfl)) dX7_count_8 ?_
  refine ks_vL (show (11 : Int64) = lN 11 from rfl) ?_
  refine cr_S (wr := [(y_, .inr (7, [.ref (ca 0), .ref (ca 1), .ref (ca 2), .int (nI ke), .ref (ca 3), .int (nI ty_), .int (nI 0), .int (nI po), .int (bI fl_), .ref (ca 4), .int (nI tl), .ref (ca 5)]))]) (As := [.long v_.toInt64, .long (lN 0), .long (lN 11)]) (rest := []) ⟨hx, hb, hml, hown, hts⟩ (c_X7_in__i G l v_ 0 11 (by omega) (by omega)) (va_cwS 3 hts gX7_count_X7_in rfl rfl rfl (by decide +kernel) ⟨Nat.le_of_ble_eq_true rfl, Nat.le_of_ble_eq_true rfl⟩) dX7_count_11 hK hNX hP hD hS hA hl [] [0] rfl rfl rfl rfl (by decide) rfl (Nat.le_of_ble_eq_true rfl) ⟨Nat.le_of_ble_eq_true rfl, Nat.le_of_ble_eq_true rfl⟩ rfl (fun v' w' Hq lcq hR' hP hD hS => ?_)
  obtain ⟨rfl, rfl⟩ := hR'
  have hP : va_P G.1 vwCl [(y_, .inr (7, [.ref (ca 0), .ref (ca 1), .ref (ca 2), .int (nI ke), .ref (ca 3), .int (nI ty_), .int (nI 0), .int (nI po), .int (bI fl_), .ref (ca 4), .int (nI tl), .ref (ca 5)]))] _ := hP.sub [0] rfl
  have hD : va_D A [(y_, .inr (7, [.ref (ca 0), .ref (ca 1), .ref (ca 2), .int (nI ke), .ref (ca 3), .int (nI ty_), .int (nI 0), .int (nI po), .int (bI fl_), .ref (ca 4), .int (nI tl), .ref (ca 5)]))] := hD.sub [0] (by decide +kernel) rfl
  refine ks_ifb_eq (tgt := 25) hx hb dX7_count_14 (by decide) (fun c_14 => ?_) (fun c_14 => ?_)
  · refine lv_aload_n hx hb dX7_count_25 rfl (lv_at hl 0 rfl) ?_
    refine lv_iconst (v := nI 1) hx hb dX7_count_26 (by decide) ?_
    refine cr_V (wr := []) (As := [.int (nI 1)]) (rest := []) ⟨hx, hb, hml, hown, hts⟩ (c_X7_fails G l y_ ca ke ty_ 0 po fl_ tl 1 ) (cwV 1 hts gX7_count_X7_fails rfl rfl rfl (by decide +kernel) ⟨Nat.le_of_ble_eq_true rfl, Nat.le_of_ble_eq_true rfl⟩) dX7_count_27 hK hNX hP hD hS hA hl 0 7 rfl rfl rfl [0] [] rfl rfl rfl rfl (by decide) rfl (Nat.le_of_ble_eq_true rfl) ⟨Nat.le_of_ble_eq_true rfl, Nat.le_of_ble_eq_true rfl⟩ rfl (fun v' w' Hq lcq hR' hP hD hS => ?_)
    obtain ⟨rfl, rfl⟩ := hR'
    have hP : va_P G.1 vwCl [(y_, .inr (7, [.ref (ca 0), .ref (ca 1), .ref (ca 2), .int (nI ke), .ref (ca 3), .int (nI ty_), .int (nI 1), .int (nI po), .int (bI fl_), .ref (ca 4), .int (nI tl), .ref (ca 5)]))] _ := hP.sub [0] rfl
    have hD : va_D A [(y_, .inr (7, [.ref (ca 0), .ref (ca 1), .ref (ca 2), .int (nI ke), .ref (ca 3), .int (nI ty_), .int (nI 1), .int (nI po), .int (bI fl_), .ref (ca 4), .int (nI tl), .ref (ca 5)]))] := hD.sub [0] (by decide +kernel) rfl
    exact cr_iret hx hb hr hlocks hK hP hD hS dX7_count_30 (by rw [hRR]; exact ctR_i (rfl) (rfl))
  · exact absurd c_14 h8
set_option maxHeartbeats 4000000 in
set_option maxRecDepth 100000 in
theorem c_X7_setting (G : GG) (l : Launch) (y_ : Nat) (ca : Nat → Nat) (ke : Nat) (ty_ : Nat) (th : Nat) (po : Nat) (fl_ : Prop) (tl : Nat) (T : TS) (k_ : Nat) (jk : k_ < 2) : Cr G l yX7_setting wsX7_setting ({ frames := 1, cells := 0, slots := 0, locals := 25 }) 0 0 [.ref y_, .int (nI k_)] [(y_, .inr (7, [.ref (ca 0), .ref (ca 1), .ref (ca 2), .int (nI ke), .ref (ca 3), .int (nI ty_), .int (nI th), .int (nI po), .int (bI fl_), .ref (ca 4), .int (nI tl), .ref (ca 5)])), (ca 0, .inl (G.2.2.1, 103, .inr (.inl (mV T))))] (ctR (some (.int (nI (T.s k_)))) [(y_, .inr (7, [.ref (ca 0), .ref (ca 1), .ref (ca 2), .int (nI ke), .ref (ca 3), .int (nI ty_), .int (nI 0), .int (nI po), .int (bI fl_), .ref (ca 4), .int (nI tl), .ref (ca 5)])), (ca 0, .inl (G.2.2.1, 103, .inr (.inl (mV T))))]) := by
  refine cr_intro (cc := cX7_setting) (maxL := 2) (ret := (some .int)) (own := RX7) (by decide) rfl rfl (Nat.le_of_ble_eq_true rfl) ?_
  intro p e s m args below meth c A hx hb hr hml hts hown hlocks hnm hNX hP hK hD hA hS ls hl
  obtain ⟨RR, hRR⟩ : ∃ RR, RR = (ctR (some (.int (nI (T.s k_)))) [(y_, .inr (7, [.ref (ca 0), .ref (ca 1), .ref (ca 2), .int (nI ke), .ref (ca 3), .int (nI ty_), .int (nI 0), .int (nI po), .int (bI fl_), .ref (ca 4), .int (nI tl), .ref (ca 5)])), (ca 0, .inl (G.2.2.1, 103, .inr (.inl (mV T))))]) := ⟨_, rfl⟩
  rw [← hRR]
  have hl : lv_has ls 2 [(0, .ref y_), (1, .int (nI k_))] := hl
  have hin7 : ∀ w ∈ u_ws RX7 TX7 12, w ∈ wsX7_setting := fun w h => List.mem_cons_of_mem _ (List.mem_append_right _ h)
  refine lv_aload_n hx hb dX7_setting_0 rfl (lv_at hl 0 rfl) ?_
  refine lv_iconst (v := nI 0) hx hb dX7_setting_1 (by decide) ?_
  refine va_put (D := G.1) (ci := 7) (v := .int (nI 0)) (ty := .int) (C := RX7) (T := TX7) (N := 12) hx hb hts hin7 tyX7 tyX7_ok nmX7 hown hK hP hD hS 0 rfl rfl 6 (by decide) (hts (.fieldLink RX7 39 "PowerTablesModel" "thrown" "I") (List.mem_of_getElem? (i := 1) rfl)) (fun _ h9 => h9) rfl (tyX7_ok 6 (by decide)) rfl rfl (Nat.le_of_ble_eq_true rfl) dX7_setting_2 (fun Hq lcq hP hD hS => ?_)
  have hP : va_P G.1 vwCl [(y_, .inr (7, [.ref (ca 0), .ref (ca 1), .ref (ca 2), .int (nI ke), .ref (ca 3), .int (nI ty_), .int (nI 0), .int (nI po), .int (bI fl_), .ref (ca 4), .int (nI tl), .ref (ca 5)])), (ca 0, .inl (G.2.2.1, 103, .inr (.inl (mV T))))] _ := hP
  have hD : va_D A [(y_, .inr (7, [.ref (ca 0), .ref (ca 1), .ref (ca 2), .int (nI ke), .ref (ca 3), .int (nI ty_), .int (nI 0), .int (nI po), .int (bI fl_), .ref (ca 4), .int (nI tl), .ref (ca 5)])), (ca 0, .inl (G.2.2.1, 103, .inr (.inl (mV T))))] := hD
  refine lv_iload_n hx hb dX7_setting_5 rfl (lv_at hl 1 rfl) ?_
  refine ks_i2lN hx hb dX7_setting_6 (by omega) ?_
  refine lv_lconst (v := lN 0) hx hb dX7_setting_7 rfl ?_
  refine lv_lconst (v := lN 1) hx hb dX7_setting_8 rfl ?_
  refine cr_S (wr := [(y_, .inr (7, [.ref (ca 0), .ref (ca 1), .ref (ca 2), .int (nI ke), .ref (ca 3), .int (nI ty_), .int (nI 0), .int (nI po), .int (bI fl_), .ref (ca 4), .int (nI tl), .ref (ca 5)])), (ca 0, .inl (G.2.2.1, 103, .inr (.inl (mV T))))]) (As := [.long (lN k_), .long (lN 0), .long (lN 1)]) (rest := []) ⟨hx, hb, hml, hown, hts⟩ (c_X7_in__n G l k_ 0 1 (by omega) (by omega) (by omega)) (va_cwS 3 hts gX7_setting_X7_in rfl rfl rfl (by decide +kernel) ⟨Nat.le_of_ble_eq_true rfl, Nat.le_of_ble_eq_true rfl⟩) dX7_setting_9 hK hNX hP hD hS hA hl [] [0, 1] rfl rfl rfl rfl (by decide) rfl (Nat.le_of_ble_eq_true rfl) ⟨Nat.le_of_ble_eq_true rfl, Nat.le_of_ble_eq_true rfl⟩ rfl (fun v' w' Hq lcq hR' hP hD hS => ?_)
  obtain ⟨rfl, rfl⟩ := hR'
  have hP : va_P G.1 vwCl [(y_, .inr (7, [.ref (ca 0), .ref (ca 1), .ref (ca 2), .int (nI ke), .ref (ca 3), .int (nI ty_), .int (nI 0), .int (nI po), .int (bI fl_), .ref (ca 4), .int (nI tl), .ref (ca 5)])), (ca 0, .inl (G.2.2.1, 103, .inr (.inl (mV T))))] _ := hP.sub [0, 1] rfl
  have hD : va_D A [(y_, .inr (7, [.ref (ca 0), .ref (ca 1), .ref (ca 2), .int (nI ke), .ref (ca 3), .int (nI ty_), .int (nI 0), .int (nI po), .int (bI fl_), .ref (ca 4), .int (nI tl), .ref (ca 5)])), (ca 0, .inl (G.2.2.1, 103, .inr (.inl (mV T))))] := hD.sub [0, 1] (by decide +kernel) rfl
  refine ks_ifb_eq (tgt := 25) hx hb dX7_setting_12 (by decide) (fun c_12 => ?_) (fun c_12 => ?_)
  · exact absurd ⟨Nat.zero_le _, by omega⟩ c_12
  · refine lv_aload_n hx hb dX7_setting_15 rfl (lv_at hl 0 rfl) ?_
    refine va_get (D := G.1) (ci := 7) (v := .ref (ca 0)) (C := RX7) (T := TX7) (N := 12) hx hb hts hin7 hown hK hP 0 rfl rfl 0 (by decide) (hts (.fieldLink RX7 7 "PowerTablesModel" "now" "[J") (List.mem_of_getElem? (i := 2) rfl)) (fun _ h9 => h9) rfl dX7_setting_16 ?_
    refine lv_iload_n hx hb dX7_setting_19 rfl (lv_at hl 1 rfl) ?_
    refine ks_lald hx hb hK hP 1 rfl (by omega) (by decide) dX7_setting_20 ?_
    refine ks_vL (show mV T k_ = lN (T.s k_) from mV_s (by omega)) ?_
    refine ks_l2iN hx hb dX7_setting_21 ?_
    refine lv_goto (tgt := 30) hx hb dX7_setting_22 (by decide) ?_
    exact cr_iret hx hb hr hlocks hK hP hD hS dX7_setting_30 (by rw [hRR]; exact ctR_i (rfl) (rfl))
set_option maxHeartbeats 4000000 in
set_option maxRecDepth 100000 in
theorem c_X7_setting__b1 (G : GG) (l : Launch) (y_ : Nat) (ca : Nat → Nat) (ke : Nat) (ty_ : Nat) (th : Nat) (po : Nat) (fl_ : Prop) (tl : Nat) (v_ : Int32) (h8 : ¬ (0 ≤ v_.toInt ∧ v_.toInt ≤ 1)) : Cr G l yX7_setting wsX7_setting ({ frames := 1, cells := 0, slots := 0, locals := 25 }) 0 0 [.ref y_, .int v_] [(y_, .inr (7, [.ref (ca 0), .ref (ca 1), .ref (ca 2), .int (nI ke), .ref (ca 3), .int (nI ty_), .int (nI th), .int (nI po), .int (bI fl_), .ref (ca 4), .int (nI tl), .ref (ca 5)]))] (ctR (some (.int (nI 0))) [(y_, .inr (7, [.ref (ca 0), .ref (ca 1), .ref (ca 2), .int (nI ke), .ref (ca 3), .int (nI ty_), .int (nI 1), .int (nI po), .int (bI fl_), .ref (ca 4), .int (nI tl), .ref (ca 5)]))]) := by
  refine cr_intro (cc := cX7_setting) (maxL := 2) (ret := (some .int)) (own := RX7) (by decide) rfl rfl (Nat.le_of_ble_eq_true rfl) ?_
  intro p e s m args below meth c A hx hb hr hml hts hown hlocks hnm hNX hP hK hD hA hS ls hl
  obtain ⟨RR, hRR⟩ : ∃ RR, RR = (ctR (some (.int (nI 0))) [(y_, .inr (7, [.ref (ca 0), .ref (ca 1), .ref (ca 2), .int (nI ke), .ref (ca 3), .int (nI ty_), .int (nI 1), .int (nI po), .int (bI fl_), .ref (ca 4), .int (nI tl), .ref (ca 5)]))]) := ⟨_, rfl⟩
  rw [← hRR]
  have hl : lv_has ls 2 [(0, .ref y_), (1, .int v_)] := hl
  have hin7 : ∀ w ∈ u_ws RX7 TX7 12, w ∈ wsX7_setting := fun w h => List.mem_cons_of_mem _ (List.mem_append_right _ h)
  refine lv_aload_n hx hb dX7_setting_0 rfl (lv_at hl 0 rfl) ?_
  refine lv_iconst (v := nI 0) hx hb dX7_setting_1 (by decide) ?_
  refine va_put (D := G.1) (ci := 7) (v := .int (nI 0)) (ty := .int) (C := RX7) (T := TX7) (N := 12) hx hb hts hin7 tyX7 tyX7_ok nmX7 hown hK hP hD hS 0 rfl rfl 6 (by decide) (hts (.fieldLink RX7 39 "PowerTablesModel" "thrown" "I") (List.mem_of_getElem? (i := 1) rfl)) (fun _ h9 => h9) rfl (tyX7_ok 6 (by decide)) rfl rfl (Nat.le_of_ble_eq_true rfl) dX7_setting_2 (fun Hq lcq hP hD hS => ?_)
  have hP : va_P G.1 vwCl [(y_, .inr (7, [.ref (ca 0), .ref (ca 1), .ref (ca 2), .int (nI ke), .ref (ca 3), .int (nI ty_), .int (nI 0), .int (nI po), .int (bI fl_), .ref (ca 4), .int (nI tl), .ref (ca 5)]))] _ := hP
  have hD : va_D A [(y_, .inr (7, [.ref (ca 0), .ref (ca 1), .ref (ca 2), .int (nI ke), .ref (ca 3), .int (nI ty_), .int (nI 0), .int (nI po), .int (bI fl_), .ref (ca 4), .int (nI tl), .ref (ca 5)]))] := hD
  refine lv_iload_n hx hb dX7_setting_5 rfl (lv_at hl 1 rfl) ?_
  refine lv_i2l hx hb dX7_setting_6 rfl ?_
  refine lv_lconst (v := lN 0) hx hb dX7_setting_7 rfl ?_
  refine lv_lconst (v := lN 1) hx hb dX7_setting_8 rfl ?_
  refine cr_S (wr := [(y_, .inr (7, [.ref (ca 0), .ref (ca 1), .ref (ca 2), .int (nI ke), .ref (ca 3), .int (nI ty_), .int (nI 0), .int (nI po), .int (bI fl_), .ref (ca 4), .int (nI tl), .ref (ca 5)]))]) (As := [.long v_.toInt64, .long (lN 0), .long (lN 1)]) (rest := []) ⟨hx, hb, hml, hown, hts⟩ (c_X7_in__i G l v_ 0 1 (by omega) (by omega)) (va_cwS 3 hts gX7_setting_X7_in rfl rfl rfl (by decide +kernel) ⟨Nat.le_of_ble_eq_true rfl, Nat.le_of_ble_eq_true rfl⟩) dX7_setting_9 hK hNX hP hD hS hA hl [] [0] rfl rfl rfl rfl (by decide) rfl (Nat.le_of_ble_eq_true rfl) ⟨Nat.le_of_ble_eq_true rfl, Nat.le_of_ble_eq_true rfl⟩ rfl (fun v' w' Hq lcq hR' hP hD hS => ?_)
  obtain ⟨rfl, rfl⟩ := hR'
  have hP : va_P G.1 vwCl [(y_, .inr (7, [.ref (ca 0), .ref (ca 1), .ref (ca 2), .int (nI ke), .ref (ca 3), .int (nI ty_), .int (nI 0), .int (nI po), .int (bI fl_), .ref (ca 4), .int (nI tl), .ref (ca 5)]))] _ := hP.sub [0] rfl
  have hD : va_D A [(y_, .inr (7, [.ref (ca 0), .ref (ca 1), .ref (ca 2), .int (nI ke), .ref (ca 3), .int (nI ty_), .int (nI 0), .int (nI po), .int (bI fl_), .ref (ca 4), .int (nI tl), .ref (ca 5)]))] := hD.sub [0] (by decide +kernel) rfl
  refine ks_ifb_eq (tgt := 25) hx hb dX7_setting_12 (by decide) (fun c_12 => ?_) (fun c_12 => ?_)
  · refine lv_aload_n hx hb dX7_setting_25 rfl (lv_at hl 0 rfl) ?_
    refine lv_iconst (v := nI 1) hx hb dX7_setting_26 (by decide) ?_
    refine cr_V (wr := []) (As := [.int (nI 1)]) (rest := []) ⟨hx, hb, hml, hown, hts⟩ (c_X7_fails G l y_ ca ke ty_ 0 po fl_ tl 1 ) (cwV 1 hts gX7_setting_X7_fails rfl rfl rfl (by decide +kernel) ⟨Nat.le_of_ble_eq_true rfl, Nat.le_of_ble_eq_true rfl⟩) dX7_setting_27 hK hNX hP hD hS hA hl 0 7 rfl rfl rfl [0] [] rfl rfl rfl rfl (by decide) rfl (Nat.le_of_ble_eq_true rfl) ⟨Nat.le_of_ble_eq_true rfl, Nat.le_of_ble_eq_true rfl⟩ rfl (fun v' w' Hq lcq hR' hP hD hS => ?_)
    obtain ⟨rfl, rfl⟩ := hR'
    have hP : va_P G.1 vwCl [(y_, .inr (7, [.ref (ca 0), .ref (ca 1), .ref (ca 2), .int (nI ke), .ref (ca 3), .int (nI ty_), .int (nI 1), .int (nI po), .int (bI fl_), .ref (ca 4), .int (nI tl), .ref (ca 5)]))] _ := hP.sub [0] rfl
    have hD : va_D A [(y_, .inr (7, [.ref (ca 0), .ref (ca 1), .ref (ca 2), .int (nI ke), .ref (ca 3), .int (nI ty_), .int (nI 1), .int (nI po), .int (bI fl_), .ref (ca 4), .int (nI tl), .ref (ca 5)]))] := hD.sub [0] (by decide +kernel) rfl
    exact cr_iret hx hb hr hlocks hK hP hD hS dX7_setting_30 (by rw [hRR]; exact ctR_i (rfl) (rfl))
  · exact absurd c_12 h8
