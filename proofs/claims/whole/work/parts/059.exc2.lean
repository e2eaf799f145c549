set_option maxHeartbeats 4000000 in
set_option maxRecDepth 100000 in
theorem c_X6_begin__t1 (G : GG) (l : Launch) (hls : l.stackTraces = false) (x_ : Nat) (pw : Int32) (fi : Int32) (h8 : pw < 0 ∨ nI 5 < pw ∨ fi < 0 ∨ ¬ fi ≤ nI 99) : Cx G l yX6_begin wsX6_begin ({ frames := 6, cells := 1, slots := 6, locals := 112 }) [.ref x_, .int pw, .int fi] [] E_iae := by
  refine cx_intro (cc := cX6_begin) (maxL := 4) (ret := (some .int)) (own := RX6) (by decide) rfl rfl (Nat.le_of_ble_eq_true rfl) ?_
  intro p e s m args below meth c A hx hb hr hml hts hown hlocks hT hSX hXF hNX hP hK hD hA hS ls hl
  have hl : lv_has ls 4 [(0, .ref x_), (1, .int pw), (2, .int fi)] := hl
  have hi9_69 : ∀ w ∈ (vx_atS RX6 69 "java/lang/IllegalArgumentException" cx_names).filter goodWord, w ∈ wsX6_begin := by decide +kernel
  have hn9_69 : ∀ w ∈ (vx_atS RX6 69 "java/lang/IllegalArgumentException" cx_names).filter (fun w => !goodWord w), w ∈ Cond.castable "java/lang/IllegalArgumentException" "java/lang/IllegalArgumentException" :: dcL.map Cond.declares := by decide +kernel
  have hg9_69 : ∀ w ∈ Cond.classLink RX6 65 "java/lang/IllegalArgumentException" :: Cond.initialized "java/lang/IllegalArgumentException" :: vx_atS RX6 69 "java/lang/IllegalArgumentException" cx_names, vx_ot w = true := by decide +kernel
  refine lv_iload_n hx hb dX6_begin_0 rfl (lv_at hl 1 rfl) ?_
  refine lv_if_lt (tgt := 19) hx hb dX6_begin_1 (by decide) (fun c_1 => ?_) (fun c_1 => ?_)
  · exact cx_throw hx hb hls hts hown hK hP hD hS hSX hXF hT hlocks hml hl (List.mem_of_getElem? (l := strL) (i := 0) rfl) (List.mem_of_getElem? (l := excL) (i := 0) rfl) (hts (.classLink RX6 65 "java/lang/IllegalArgumentException") (List.mem_of_getElem? (i := 1) rfl)) (hts (.initialized "java/lang/IllegalArgumentException") (List.mem_of_getElem? (i := 2) rfl)) (by decide +kernel) hi9_69 hn9_69 hg9_69 dX6_begin_19 dX6_begin_22 dX6_begin_23 dX6_begin_25 dX6_begin_28 (Nat.le_of_ble_eq_true rfl) (Nat.le_of_ble_eq_true rfl) (Nat.le_of_ble_eq_true rfl) (Nat.le_of_ble_eq_true rfl) (Nat.le_of_ble_eq_true rfl) (Nat.le_of_ble_eq_true rfl)
  · refine lv_iload_n hx hb dX6_begin_4 rfl (lv_at hl 1 rfl) ?_
    refine lv_iconst (v := nI 5) hx hb dX6_begin_5 (by decide) ?_
    refine lv_icmp_gt (tgt := 19) hx hb dX6_begin_6 (by decide) (fun c_6 => ?_) (fun c_6 => ?_)
    · exact cx_throw hx hb hls hts hown hK hP hD hS hSX hXF hT hlocks hml hl (List.mem_of_getElem? (l := strL) (i := 0) rfl) (List.mem_of_getElem? (l := excL) (i := 0) rfl) (hts (.classLink RX6 65 "java/lang/IllegalArgumentException") (List.mem_of_getElem? (i := 1) rfl)) (hts (.initialized "java/lang/IllegalArgumentException") (List.mem_of_getElem? (i := 2) rfl)) (by decide +kernel) hi9_69 hn9_69 hg9_69 dX6_begin_19 dX6_begin_22 dX6_begin_23 dX6_begin_25 dX6_begin_28 (Nat.le_of_ble_eq_true rfl) (Nat.le_of_ble_eq_true rfl) (Nat.le_of_ble_eq_true rfl) (Nat.le_of_ble_eq_true rfl) (Nat.le_of_ble_eq_true rfl) (Nat.le_of_ble_eq_true rfl)
    · refine lv_iload_n hx hb dX6_begin_9 rfl (lv_at hl 2 rfl) ?_
      refine lv_if_lt (tgt := 19) hx hb dX6_begin_10 (by decide) (fun c_10 => ?_) (fun c_10 => ?_)
      · exact cx_throw hx hb hls hts hown hK hP hD hS hSX hXF hT hlocks hml hl (List.mem_of_getElem? (l := strL) (i := 0) rfl) (List.mem_of_getElem? (l := excL) (i := 0) rfl) (hts (.classLink RX6 65 "java/lang/IllegalArgumentException") (List.mem_of_getElem? (i := 1) rfl)) (hts (.initialized "java/lang/IllegalArgumentException") (List.mem_of_getElem? (i := 2) rfl)) (by decide +kernel) hi9_69 hn9_69 hg9_69 dX6_begin_19 dX6_begin_22 dX6_begin_23 dX6_begin_25 dX6_begin_28 (Nat.le_of_ble_eq_true rfl) (Nat.le_of_ble_eq_true rfl) (Nat.le_of_ble_eq_true rfl) (Nat.le_of_ble_eq_true rfl) (Nat.le_of_ble_eq_true rfl) (Nat.le_of_ble_eq_true rfl)
      · refine lv_iload_n hx hb dX6_begin_13 rfl (lv_at hl 2 rfl) ?_
        refine lv_bipush (v := nI 99) hx hb dX6_begin_14 (by decide) ?_
        refine lv_icmp_le (tgt := 29) hx hb dX6_begin_16 (by decide) (fun c_16 => ?_) (fun c_16 => ?_)
        · exact (h8.elim c_1 (fun z0 => (z0.elim c_6 (fun z1 => (z1.elim c_10 (fun z2 => ((fun z9 => z9 c_16) z2))))))).elim
        · exact cx_throw hx hb hls hts hown hK hP hD hS hSX hXF hT hlocks hml hl (List.mem_of_getElem? (l := strL) (i := 0) rfl) (List.mem_of_getElem? (l := excL) (i := 0) rfl) (hts (.classLink RX6 65 "java/lang/IllegalArgumentException") (List.mem_of_getElem? (i := 1) rfl)) (hts (.initialized "java/lang/IllegalArgumentException") (List.mem_of_getElem? (i := 2) rfl)) (by decide +kernel) hi9_69 hn9_69 hg9_69 dX6_begin_19 dX6_begin_22 dX6_begin_23 dX6_begin_25 dX6_begin_28 (Nat.le_of_ble_eq_true rfl) (Nat.le_of_ble_eq_true rfl) (Nat.le_of_ble_eq_true rfl) (Nat.le_of_ble_eq_true rfl) (Nat.le_of_ble_eq_true rfl) (Nat.le_of_ble_eq_true rfl)
set_option maxHeartbeats 4000000 in
set_option maxRecDepth 100000 in
theorem c_X6_print__t1 (G : GG) (l : Launch) (hls : l.stackTraces = false) (x_ : Nat) (k_ : Int32) (h8 : k_ < nI 1 ∨ ¬ k_ ≤ nI 40) : Cx G l yX6_print wsX6_print ({ frames := 6, cells := 1, slots := 6, locals := 112 }) [.ref x_, .int k_] [] E_iae := by
  refine cx_intro (cc := cX6_print) (maxL := 2) (ret := (some .int)) (own := RX6) (by decide) rfl rfl (Nat.le_of_ble_eq_true rfl) ?_
  intro p e s m args below meth c A hx hb hr hml hts hown hlocks hT hSX hXF hNX hP hK hD hA hS ls hl
  have hl : lv_has ls 2 [(0, .ref x_), (1, .int k_)] := hl
  have hi9_69 : ∀ w ∈ (vx_atS RX6 69 "java/lang/IllegalArgumentException" cx_names).filter goodWord, w ∈ wsX6_print := by decide +kernel
  have hn9_69 : ∀ w ∈ (vx_atS RX6 69 "java/lang/IllegalArgumentException" cx_names).filter (fun w => !goodWord w), w ∈ Cond.castable "java/lang/IllegalArgumentException" "java/lang/IllegalArgumentException" :: dcL.map Cond.declares := by decide +kernel
  have hg9_69 : ∀ w ∈ Cond.classLink RX6 65 "java/lang/IllegalArgumentException" :: Cond.initialized "java/lang/IllegalArgumentException" :: vx_atS RX6 69 "java/lang/IllegalArgumentException" cx_names, vx_ot w = true := by decide +kernel
  refine lv_iload_n hx hb dX6_print_0 rfl (lv_at hl 1 rfl) ?_
  refine lv_iconst (v := nI 1) hx hb dX6_print_1 (by decide) ?_
  refine lv_icmp_lt (tgt := 11) hx hb dX6_print_2 (by decide) (fun c_2 => ?_) (fun c_2 => ?_)
  · exact cx_throw hx hb hls hts hown hK hP hD hS hSX hXF hT hlocks hml hl (List.mem_of_getElem? (l := strL) (i := 1) rfl) (List.mem_of_getElem? (l := excL) (i := 0) rfl) (hts (.classLink RX6 65 "java/lang/IllegalArgumentException") (List.mem_of_getElem? (i := 1) rfl)) (hts (.initialized "java/lang/IllegalArgumentException") (List.mem_of_getElem? (i := 2) rfl)) (by decide +kernel) hi9_69 hn9_69 hg9_69 dX6_print_11 dX6_print_14 dX6_print_15 dX6_print_17 dX6_print_20 (Nat.le_of_ble_eq_true rfl) (Nat.le_of_ble_eq_true rfl) (Nat.le_of_ble_eq_true rfl) (Nat.le_of_ble_eq_true rfl) (Nat.le_of_ble_eq_true rfl) (Nat.le_of_ble_eq_true rfl)
  · refine lv_iload_n hx hb dX6_print_5 rfl (lv_at hl 1 rfl) ?_
    refine lv_bipush (v := nI 40) hx hb dX6_print_6 (by decide) ?_
    refine lv_icmp_le (tgt := 21) hx hb dX6_print_8 (by decide) (fun c_8 => ?_) (fun c_8 => ?_)
    · exact (h8.elim c_2 (fun z0 => ((fun z9 => z9 c_8) z0))).elim
    · exact cx_throw hx hb hls hts hown hK hP hD hS hSX hXF hT hlocks hml hl (List.mem_of_getElem? (l := strL) (i := 1) rfl) (List.mem_of_getElem? (l := excL) (i := 0) rfl) (hts (.classLink RX6 65 "java/lang/IllegalArgumentException") (List.mem_of_getElem? (i := 1) rfl)) (hts (.initialized "java/lang/IllegalArgumentException") (List.mem_of_getElem? (i := 2) rfl)) (by decide +kernel) hi9_69 hn9_69 hg9_69 dX6_print_11 dX6_print_14 dX6_print_15 dX6_print_17 dX6_print_20 (Nat.le_of_ble_eq_true rfl) (Nat.le_of_ble_eq_true rfl) (Nat.le_of_ble_eq_true rfl) (Nat.le_of_ble_eq_true rfl) (Nat.le_of_ble_eq_true rfl) (Nat.le_of_ble_eq_true rfl)
set_option maxHeartbeats 4000000 in
set_option maxRecDepth 100000 in
theorem c_X6_print__t2 (G : GG) (l : Launch) (hls : l.stackTraces = false) (x_ : Nat) (a_ : Nat → Nat) (o : Nat → Nat) (T : TS) (k_ : Nat) (j1 : 1 ≤ k_) (j2_ : k_ ≤ 40) (jn : T.s 4 ≤ 40) (h8 : 40 < T.s 4 + k_) : Cx G l yX6_print wsX6_print ({ frames := 6, cells := 1, slots := 6, locals := 112 }) [.ref x_, .int (nI k_)] [(x_, .inr (6, [.ref (a_ 0), .ref (o 0), .ref (o 2), .ref (o 4), .ref (o 6), .ref (o 8), .ref (o 10)])), (a_ 0, .inr (4, [.int (nI (T.s 2)), .int (nI (T.s 3)), .int (nI (T.s 4)), .int (nI (T.s 0)), .int (nI (T.s 6)), .ref (a_ 1), .ref (a_ 2), .ref (a_ 3), .ref (a_ 4), .ref (a_ 6)]))] E_ise := by
  refine cx_intro (cc := cX6_print) (maxL := 2) (ret := (some .int)) (own := RX6) (by decide) rfl rfl (Nat.le_of_ble_eq_true rfl) ?_
  intro p e s m args below meth c A hx hb hr hml hts hown hlocks hT hSX hXF hNX hP hK hD hA hS ls hl
  have hl : lv_has ls 2 [(0, .ref x_), (1, .int (nI k_))] := hl
  have hin6 : ∀ w ∈ u_ws RX6 TX6 7, w ∈ wsX6_print := fun w h => List.mem_cons_of_mem _ (List.mem_append_left _ (List.mem_append_left _ (List.mem_append_left _ (List.mem_append_left _ (List.mem_append_left _ (List.mem_append_left _ (List.mem_append_right _ h)))))))
  have hi9_92 : ∀ w ∈ (vx_atS RX6 92 "java/lang/IllegalStateException" cx_names).filter goodWord, w ∈ wsX6_print := by decide +kernel
  have hn9_92 : ∀ w ∈ (vx_atS RX6 92 "java/lang/IllegalStateException" cx_names).filter (fun w => !goodWord w), w ∈ Cond.castable "java/lang/IllegalStateException" "java/lang/IllegalStateException" :: dcL.map Cond.declares := by decide +kernel
  have hg9_92 : ∀ w ∈ Cond.classLink RX6 88 "java/lang/IllegalStateException" :: Cond.initialized "java/lang/IllegalStateException" :: vx_atS RX6 92 "java/lang/IllegalStateException" cx_names, vx_ot w = true := by decide +kernel
  refine lv_iload_n hx hb dX6_print_0 rfl (lv_at hl 1 rfl) ?_
  refine lv_iconst (v := nI 1) hx hb dX6_print_1 (by decide) ?_
  refine ks_icmp_lt (tgt := 11) hx hb dX6_print_2 (by decide) (by omega) (by omega) (fun c_2 => ?_) (fun c_2 => ?_)
  · omega
  · refine lv_iload_n hx hb dX6_print_5 rfl (lv_at hl 1 rfl) ?_
    refine lv_bipush (v := nI 40) hx hb dX6_print_6 (by decide) ?_
    refine ks_icmp_le (tgt := 21) hx hb dX6_print_8 (by decide) (by omega) (by omega) (fun c_8 => ?_) (fun c_8 => ?_)
    · refine lv_aload_n hx hb dX6_print_21 rfl (lv_at hl 0 rfl) ?_
      refine va_get (D := G.1) (ci := 6) (v := .ref (a_ 0)) (C := RX6) (T := TX6) (N := 7) hx hb hts hin6 hown hK hP 0 rfl rfl 0 (by decide) (hts (.fieldLink RX6 10 "PowerTables" "table" "LPowerTables$Table;") (List.mem_of_getElem? (i := 5) rfl)) (fun _ h9 => h9) rfl dX6_print_22 ?_
      refine lv_iload_n hx hb dX6_print_25 rfl (lv_at hl 1 rfl) ?_
      refine cr_V (wr := [(x_, .inr (6, [.ref (a_ 0), .ref (o 0), .ref (o 2), .ref (o 4), .ref (o 6), .ref (o 8), .ref (o 10)]))]) (As := [.int (nI k_)]) (rest := []) ⟨hx, hb, hml, hown, hts⟩ (c_X4_hasRoomFor G l a_ T k_ (by omega) (by omega)) (cwV 1 hts gX6_print_X4_hasRoomFor rfl rfl rfl (by decide +kernel) ⟨Nat.le_of_ble_eq_true rfl, Nat.le_of_ble_eq_true rfl⟩) dX6_print_26 hK hNX hP hD hS hA hl 1 4 rfl rfl rfl [1] [0] rfl rfl rfl rfl (by decide) rfl (Nat.le_of_ble_eq_true rfl) ⟨Nat.le_of_ble_eq_true rfl, Nat.le_of_ble_eq_true rfl⟩ rfl (fun v' w' Hq lcq hR' hP hD hS => ?_)
      obtain ⟨rfl, rfl⟩ := hR'
      have hP : va_P G.1 vwCl [(x_, .inr (6, [.ref (a_ 0), .ref (o 0), .ref (o 2), .ref (o 4), .ref (o 6), .ref (o 8), .ref (o 10)])), (a_ 0, .inr (4, [.int (nI (T.s 2)), .int (nI (T.s 3)), .int (nI (T.s 4)), .int (nI (T.s 0)), .int (nI (T.s 6)), .ref (a_ 1), .ref (a_ 2), .ref (a_ 3), .ref (a_ 4), .ref (a_ 6)]))] _ := hP.sub [0, 1] rfl
      have hD : va_D A [(x_, .inr (6, [.ref (a_ 0), .ref (o 0), .ref (o 2), .ref (o 4), .ref (o 6), .ref (o 8), .ref (o 10)])), (a_ 0, .inr (4, [.int (nI (T.s 2)), .int (nI (T.s 3)), .int (nI (T.s 4)), .int (nI (T.s 0)), .int (nI (T.s 6)), .ref (a_ 1), .ref (a_ 2), .ref (a_ 3), .ref (a_ 4), .ref (a_ 6)]))] := hD.sub [0, 1] (by decide +kernel) rfl
      refine ks_ifb_ne (tgt := 42) hx hb dX6_print_29 (by decide) (fun c_29 => ?_) (fun c_29 => ?_)
      · exact absurd c_29 (by omega)
      · exact cx_throw hx hb hls hts hown hK hP hD hS hSX hXF hT hlocks hml hl (List.mem_of_getElem? (l := strL) (i := 2) rfl) (List.mem_of_getElem? (l := excL) (i := 1) rfl) (hts (.classLink RX6 88 "java/lang/IllegalStateException") (List.mem_of_getElem? (i := 3) rfl)) (hts (.initialized "java/lang/IllegalStateException") (List.mem_of_getElem? (i := 4) rfl)) (by decide +kernel) hi9_92 hn9_92 hg9_92 dX6_print_32 dX6_print_35 dX6_print_36 dX6_print_38 dX6_print_41 (Nat.le_of_ble_eq_true rfl) (Nat.le_of_ble_eq_true rfl) (Nat.le_of_ble_eq_true rfl) (Nat.le_of_ble_eq_true rfl) (Nat.le_of_ble_eq_true rfl) (Nat.le_of_ble_eq_true rfl)
    · omega
set_option maxHeartbeats 4000000 in
set_option maxRecDepth 100000 in
theorem c_X6_append__t1 (G : GG) (l : Launch) (hls : l.stackTraces = false) (x_ : Nat) (y_ : Int32) (h8 : ¬ (¬ y_ < nI 33 ∧ ¬ nI 126 < y_)) : Cx G l yX6_append wsX6_append ({ frames := 6, cells := 1, slots := 6, locals := 112 }) [.ref x_, .int y_] [] E_iae := by
  refine cx_intro (cc := cX6_append) (maxL := 2) (ret := (some .int)) (own := RX6) (by decide) rfl rfl (Nat.le_of_ble_eq_true rfl) ?_
  intro p e s m args below meth c A hx hb hr hml hts hown hlocks hT hSX hXF hNX hP hK hD hA hS ls hl
  have hl : lv_has ls 2 [(0, .ref x_), (1, .int y_)] := hl
  have hi9_69 : ∀ w ∈ (vx_atS RX6 69 "java/lang/IllegalArgumentException" cx_names).filter goodWord, w ∈ wsX6_append := by decide +kernel
  have hn9_69 : ∀ w ∈ (vx_atS RX6 69 "java/lang/IllegalArgumentException" cx_names).filter (fun w => !goodWord w), w ∈ Cond.castable "java/lang/IllegalArgumentException" "java/lang/IllegalArgumentException" :: dcL.map Cond.declares := by decide +kernel
  have hg9_69 : ∀ w ∈ Cond.classLink RX6 65 "java/lang/IllegalArgumentException" :: Cond.initialized "java/lang/IllegalArgumentException" :: vx_atS RX6 69 "java/lang/IllegalArgumentException" cx_names, vx_ot w = true := by decide +kernel
  refine lv_iload_n hx hb dX6_append_0 rfl (lv_at hl 1 rfl) ?_
  refine cr_S (wr := []) (As := [.int y_]) (rest := []) ⟨hx, hb, hml, hown, hts⟩ (c_X1_isCode__raw G l y_ ) (va_cwS 1 hts gX6_append_X1_isCode rfl rfl rfl (by decide +kernel) ⟨Nat.le_of_ble_eq_true rfl, Nat.le_of_ble_eq_true rfl⟩) dX6_append_1 hK hNX hP hD hS hA hl [] [] rfl rfl rfl rfl (by decide) rfl (Nat.le_of_ble_eq_true rfl) ⟨Nat.le_of_ble_eq_true rfl, Nat.le_of_ble_eq_true rfl⟩ rfl (fun v' w' Hq lcq hR' hP hD hS => ?_)
  obtain ⟨rfl, rfl⟩ := hR'
  have hP : va_P G.1 vwCl [] _ := hP.sub [] rfl
  have hD : va_D A [] := hD.sub [] (by decide +kernel) rfl
  refine ks_ifb_ne (tgt := 17) hx hb dX6_append_4 (by decide) (fun c_4 => ?_) (fun c_4 => ?_)
  · exact absurd c_4 h8
  · exact cx_throw hx hb hls hts hown hK hP hD hS hSX hXF hT hlocks hml hl (List.mem_of_getElem? (l := strL) (i := 10) rfl) (List.mem_of_getElem? (l := excL) (i := 0) rfl) (hts (.classLink RX6 65 "java/lang/IllegalArgumentException") (List.mem_of_getElem? (i := 1) rfl)) (hts (.initialized "java/lang/IllegalArgumentException") (List.mem_of_getElem? (i := 2) rfl)) (by decide +kernel) hi9_69 hn9_69 hg9_69 dX6_append_7 dX6_append_10 dX6_append_11 dX6_append_13 dX6_append_16 (Nat.le_of_ble_eq_true rfl) (Nat.le_of_ble_eq_true rfl) (Nat.le_of_ble_eq_true rfl) (Nat.le_of_ble_eq_true rfl) (Nat.le_of_ble_eq_true rfl) (Nat.le_of_ble_eq_true rfl)
set_option maxHeartbeats 4000000 in
set_option maxRecDepth 100000 in
theorem c_X6_append__t2 (G : GG) (l : Launch) (hls : l.stackTraces = false) (x_ : Nat) (a_ : Nat → Nat) (o : Nat → Nat) (cs : Nat → Nat) (tn_ : Nat) (ch_ : Nat) (j1 : 33 ≤ ch_) (j2_ : ch_ ≤ 126) (jn : tn_ ≤ 60) (h8 : 60 ≤ tn_) : Cx G l yX6_append wsX6_append ({ frames := 6, cells := 1, slots := 6, locals := 112 }) [.ref x_, .int (nI ch_)] [(x_, .inr (6, [.ref (a_ 0), .ref (o 0), .ref (o 2), .ref (o 4), .ref (o 6), .ref (o 8), .ref (o 10)])), (o 2, .inr (1, [.ref (o 3), .int (nI tn_)])), (o 3, .inl (G.2.1, 60, .inl (fun q9 => nI (cs q9))))] E_ise := by
  refine cx_intro (cc := cX6_append) (maxL := 2) (ret := (some .int)) (own := RX6) (by decide) rfl rfl (Nat.le_of_ble_eq_true rfl) ?_
  intro p e s m args below meth c A hx hb hr hml hts hown hlocks hT hSX hXF hNX hP hK hD hA hS ls hl
  have hl : lv_has ls 2 [(0, .ref x_), (1, .int (nI ch_))] := hl
  have hin6 : ∀ w ∈ u_ws RX6 TX6 7, w ∈ wsX6_append := fun w h => List.mem_cons_of_mem _ (List.mem_append_left _ (List.mem_append_left _ (List.mem_append_left _ (List.mem_append_right _ h))))
  have hi9_92 : ∀ w ∈ (vx_atS RX6 92 "java/lang/IllegalStateException" cx_names).filter goodWord, w ∈ wsX6_append := by decide +kernel
  have hn9_92 : ∀ w ∈ (vx_atS RX6 92 "java/lang/IllegalStateException" cx_names).filter (fun w => !goodWord w), w ∈ Cond.castable "java/lang/IllegalStateException" "java/lang/IllegalStateException" :: dcL.map Cond.declares := by decide +kernel
  have hg9_92 : ∀ w ∈ Cond.classLink RX6 88 "java/lang/IllegalStateException" :: Cond.initialized "java/lang/IllegalStateException" :: vx_atS RX6 92 "java/lang/IllegalStateException" cx_names, vx_ot w = true := by decide +kernel
  refine lv_iload_n hx hb dX6_append_0 rfl (lv_at hl 1 rfl) ?_
  refine cr_S (wr := [(x_, .inr (6, [.ref (a_ 0), .ref (o 0), .ref (o 2), .ref (o 4), .ref (o 6), .ref (o 8), .ref (o 10)])), (o 2, .inr (1, [.ref (o 3), .int (nI tn_)])), (o 3, .inl (G.2.1, 60, .inl (fun q9 => nI (cs q9))))]) (As := [.int (nI ch_)]) (rest := []) ⟨hx, hb, hml, hown, hts⟩ (c_X1_isCode G l ch_ (by omega)) (va_cwS 1 hts gX6_append_X1_isCode rfl rfl rfl (by decide +kernel) ⟨Nat.le_of_ble_eq_true rfl, Nat.le_of_ble_eq_true rfl⟩) dX6_append_1 hK hNX hP hD hS hA hl [] [0, 1, 2] rfl rfl rfl rfl (by decide) rfl (Nat.le_of_ble_eq_true rfl) ⟨Nat.le_of_ble_eq_true rfl, Nat.le_of_ble_eq_true rfl⟩ rfl (fun v' w' Hq lcq hR' hP hD hS => ?_)
  obtain ⟨rfl, rfl⟩ := hR'
  have hP : va_P G.1 vwCl [(x_, .inr (6, [.ref (a_ 0), .ref (o 0), .ref (o 2), .ref (o 4), .ref (o 6), .ref (o 8), .ref (o 10)])), (o 2, .inr (1, [.ref (o 3), .int (nI tn_)])), (o 3, .inl (G.2.1, 60, .inl (fun q9 => nI (cs q9))))] _ := hP.sub [0, 1, 2] rfl
  have hD : va_D A [(x_, .inr (6, [.ref (a_ 0), .ref (o 0), .ref (o 2), .ref (o 4), .ref (o 6), .ref (o 8), .ref (o 10)])), (o 2, .inr (1, [.ref (o 3), .int (nI tn_)])), (o 3, .inl (G.2.1, 60, .inl (fun q9 => nI (cs q9))))] := hD.sub [0, 1, 2] (by decide +kernel) rfl
  refine ks_ifb_ne (tgt := 17) hx hb dX6_append_4 (by decide) (fun c_4 => ?_) (fun c_4 => ?_)
  · refine lv_aload_n hx hb dX6_append_17 rfl (lv_at hl 0 rfl) ?_
    refine va_get (D := G.1) (ci := 6) (v := .ref (o 2)) (C := RX6) (T := TX6) (N := 7) hx hb hts hin6 hown hK hP 0 rfl rfl 2 (by decide) (hts (.fieldLink RX6 26 "PowerTables" "text" "LPowerTables$OrderText;") (List.mem_of_getElem? (i := 5) rfl)) (fun _ h9 => h9) rfl dX6_append_18 ?_
    refine cr_V (wr := [(x_, .inr (6, [.ref (a_ 0), .ref (o 0), .ref (o 2), .ref (o 4), .ref (o 6), .ref (o 8), .ref (o 10)]))]) (As := []) (rest := []) ⟨hx, hb, hml, hown, hts⟩ (c_X1_isFull G l (o 2) (o 3) cs tn_ (by omega)) (cwV 0 hts gX6_append_X1_isFull rfl rfl rfl (by decide +kernel) ⟨Nat.le_of_ble_eq_true rfl, Nat.le_of_ble_eq_true rfl⟩) dX6_append_21 hK hNX hP hD hS hA hl 1 1 rfl rfl rfl [1, 2] [0] rfl rfl rfl rfl (by decide) rfl (Nat.le_of_ble_eq_true rfl) ⟨Nat.le_of_ble_eq_true rfl, Nat.le_of_ble_eq_true rfl⟩ rfl (fun v' w' Hq lcq hR' hP hD hS => ?_)
    obtain ⟨rfl, rfl⟩ := hR'
    have hP : va_P G.1 vwCl [(x_, .inr (6, [.ref (a_ 0), .ref (o 0), .ref (o 2), .ref (o 4), .ref (o 6), .ref (o 8), .ref (o 10)])), (o 2, .inr (1, [.ref (o 3), .int (nI tn_)])), (o 3, .inl (G.2.1, 60, .inl (fun q9 => nI (cs q9))))] _ := hP.sub [0, 1, 2] rfl
    have hD : va_D A [(x_, .inr (6, [.ref (a_ 0), .ref (o 0), .ref (o 2), .ref (o 4), .ref (o 6), .ref (o 8), .ref (o 10)])), (o 2, .inr (1, [.ref (o 3), .int (nI tn_)])), (o 3, .inl (G.2.1, 60, .inl (fun q9 => nI (cs q9))))] := hD.sub [0, 1, 2] (by decide +kernel) rfl
    refine ks_ifb_eq (tgt := 37) hx hb dX6_append_24 (by decide) (fun c_24 => ?_) (fun c_24 => ?_)
    · omega
    · exact cx_throw hx hb hls hts hown hK hP hD hS hSX hXF hT hlocks hml hl (List.mem_of_getElem? (l := strL) (i := 11) rfl) (List.mem_of_getElem? (l := excL) (i := 1) rfl) (hts (.classLink RX6 88 "java/lang/IllegalStateException") (List.mem_of_getElem? (i := 3) rfl)) (hts (.initialized "java/lang/IllegalStateException") (List.mem_of_getElem? (i := 4) rfl)) (by decide +kernel) hi9_92 hn9_92 hg9_92 dX6_append_27 dX6_append_30 dX6_append_31 dX6_append_33 dX6_append_36 (Nat.le_of_ble_eq_true rfl) (Nat.le_of_ble_eq_true rfl) (Nat.le_of_ble_eq_true rfl) (Nat.le_of_ble_eq_true rfl) (Nat.le_of_ble_eq_true rfl) (Nat.le_of_ble_eq_true rfl)
  · exact absurd ⟨j1, j2_⟩ c_4
set_option maxHeartbeats 4000000 in
set_option maxRecDepth 100000 in
theorem c_X6_count__t1 (G : GG) (l : Launch) (hls : l.stackTraces = false) (x_ : Nat) (k_ : Int32) (h8 : k_ < 0 ∨ ¬ k_ < nI 12) : Cx G l yX6_count wsX6_count ({ frames := 6, cells := 1, slots := 6, locals := 112 }) [.ref x_, .int k_] [] E_iae := by
  refine cx_intro (cc := cX6_count) (maxL := 2) (ret := (some .int)) (own := RX6) (by decide) rfl rfl (Nat.le_of_ble_eq_true rfl) ?_
  intro p e s m args below meth c A hx hb hr hml hts hown hlocks hT hSX hXF hNX hP hK hD hA hS ls hl
  have hl : lv_has ls 2 [(0, .ref x_), (1, .int k_)] := hl
  have hi9_69 : ∀ w ∈ (vx_atS RX6 69 "java/lang/IllegalArgumentException" cx_names).filter goodWord, w ∈ wsX6_count := by decide +kernel
  have hn9_69 : ∀ w ∈ (vx_atS RX6 69 "java/lang/IllegalArgumentException" cx_names).filter (fun w => !goodWord w), w ∈ Cond.castable "java/lang/IllegalArgumentException" "java/lang/IllegalArgumentException" :: dcL.map Cond.declares := by decide +kernel
  have hg9_69 : ∀ w ∈ Cond.classLink RX6 65 "java/lang/IllegalArgumentException" :: Cond.initialized "java/lang/IllegalArgumentException" :: vx_atS RX6 69 "java/lang/IllegalArgumentException" cx_names, vx_ot w = true := by decide +kernel
  refine lv_iload_n hx hb dX6_count_0 rfl (lv_at hl 1 rfl) ?_
  refine lv_if_lt (tgt := 10) hx hb dX6_count_1 (by decide) (fun c_1 => ?_) (fun c_1 => ?_)
  · exact cx_throwW hx hb hls hts hown hK hP hD hS hSX hXF hT hlocks hml hl (List.mem_of_getElem? (l := strL) (i := 17) rfl) (List.mem_of_getElem? (l := excL) (i := 0) rfl) (hts (.classLink RX6 65 "java/lang/IllegalArgumentException") (List.mem_of_getElem? (i := 1) rfl)) (hts (.initialized "java/lang/IllegalArgumentException") (List.mem_of_getElem? (i := 2) rfl)) (by decide +kernel) hi9_69 hn9_69 hg9_69 dX6_count_10 dX6_count_13 dX6_count_14 dX6_count_17 dX6_count_20 (Nat.le_of_ble_eq_true rfl) (Nat.le_of_ble_eq_true rfl) (Nat.le_of_ble_eq_true rfl) (Nat.le_of_ble_eq_true rfl) (Nat.le_of_ble_eq_true rfl) (Nat.le_of_ble_eq_true rfl)
  · refine lv_iload_n hx hb dX6_count_4 rfl (lv_at hl 1 rfl) ?_
    refine lv_bipush (v := nI 12) hx hb dX6_count_5 (by decide) ?_
    refine lv_icmp_lt (tgt := 21) hx hb dX6_count_7 (by decide) (fun c_7 => ?_) (fun c_7 => ?_)
    · exact (h8.elim c_1 (fun z0 => ((fun z9 => z9 c_7) z0))).elim
    · exact cx_throwW hx hb hls hts hown hK hP hD hS hSX hXF hT hlocks hml hl (List.mem_of_getElem? (l := strL) (i := 17) rfl) (List.mem_of_getElem? (l := excL) (i := 0) rfl) (hts (.classLink RX6 65 "java/lang/IllegalArgumentException") (List.mem_of_getElem? (i := 1) rfl)) (hts (.initialized "java/lang/IllegalArgumentException") (List.mem_of_getElem? (i := 2) rfl)) (by decide +kernel) hi9_69 hn9_69 hg9_69 dX6_count_10 dX6_count_13 dX6_count_14 dX6_count_17 dX6_count_20 (Nat.le_of_ble_eq_true rfl) (Nat.le_of_ble_eq_true rfl) (Nat.le_of_ble_eq_true rfl) (Nat.le_of_ble_eq_true rfl) (Nat.le_of_ble_eq_true rfl) (Nat.le_of_ble_eq_true rfl)
set_option maxHeartbeats 4000000 in
set_option maxRecDepth 100000 in
theorem c_X6_difference__t1 (G : GG) (l : Launch) (hls : l.stackTraces = false) (x_ : Nat) (k_ : Int32) (y_ : Int32) (h8 : k_ < 0 ∨ ¬ k_ < nI 6) : Cx G l yX6_difference wsX6_difference ({ frames := 6, cells := 1, slots := 6, locals := 112 }) [.ref x_, .int k_, .int y_] [] E_iae := by
  refine cx_intro (cc := cX6_difference) (maxL := 4) (ret := (some .long)) (own := RX6) (by decide) rfl rfl (Nat.le_of_ble_eq_true rfl) ?_
  intro p e s m args below meth c A hx hb hr hml hts hown hlocks hT hSX hXF hNX hP hK hD hA hS ls hl
  have hl : lv_has ls 4 [(0, .ref x_), (1, .int k_), (2, .int y_)] := hl
  have hi9_69 : ∀ w ∈ (vx_atS RX6 69 "java/lang/IllegalArgumentException" cx_names).filter goodWord, w ∈ wsX6_difference := by decide +kernel
  have hn9_69 : ∀ w ∈ (vx_atS RX6 69 "java/lang/IllegalArgumentException" cx_names).filter (fun w => !goodWord w), w ∈ Cond.castable "java/lang/IllegalArgumentException" "java/lang/IllegalArgumentException" :: dcL.map Cond.declares := by decide +kernel
  have hg9_69 : ∀ w ∈ Cond.classLink RX6 65 "java/lang/IllegalArgumentException" :: Cond.initialized "java/lang/IllegalArgumentException" :: vx_atS RX6 69 "java/lang/IllegalArgumentException" cx_names, vx_ot w = true := by decide +kernel
  refine lv_iload_n hx hb dX6_difference_0 rfl (lv_at hl 1 rfl) ?_
  refine lv_if_lt (tgt := 10) hx hb dX6_difference_1 (by decide) (fun c_1 => ?_) (fun c_1 => ?_)
  · exact cx_throw hx hb hls hts hown hK hP hD hS hSX hXF hT hlocks hml hl (List.mem_of_getElem? (l := strL) (i := 16) rfl) (List.mem_of_getElem? (l := excL) (i := 0) rfl) (hts (.classLink RX6 65 "java/lang/IllegalArgumentException") (List.mem_of_getElem? (i := 1) rfl)) (hts (.initialized "java/lang/IllegalArgumentException") (List.mem_of_getElem? (i := 2) rfl)) (by decide +kernel) hi9_69 hn9_69 hg9_69 dX6_difference_10 dX6_difference_13 dX6_difference_14 dX6_difference_16 dX6_difference_19 (Nat.le_of_ble_eq_true rfl) (Nat.le_of_ble_eq_true rfl) (Nat.le_of_ble_eq_true rfl) (Nat.le_of_ble_eq_true rfl) (Nat.le_of_ble_eq_true rfl) (Nat.le_of_ble_eq_true rfl)
  · refine lv_iload_n hx hb dX6_difference_4 rfl (lv_at hl 1 rfl) ?_
    refine lv_bipush (v := nI 6) hx hb dX6_difference_5 (by decide) ?_
    refine lv_icmp_lt (tgt := 20) hx hb dX6_difference_7 (by decide) (fun c_7 => ?_) (fun c_7 => ?_)
    · exact (h8.elim c_1 (fun z0 => ((fun z9 => z9 c_7) z0))).elim
    · exact cx_throw hx hb hls hts hown hK hP hD hS hSX hXF hT hlocks hml hl (List.mem_of_getElem? (l := strL) (i := 16) rfl) (List.mem_of_getElem? (l := excL) (i := 0) rfl) (hts (.classLink RX6 65 "java/lang/IllegalArgumentException") (List.mem_of_getElem? (i := 1) rfl)) (hts (.initialized "java/lang/IllegalArgumentException") (List.mem_of_getElem? (i := 2) rfl)) (by decide +kernel) hi9_69 hn9_69 hg9_69 dX6_difference_10 dX6_difference_13 dX6_difference_14 dX6_difference_16 dX6_difference_19 (Nat.le_of_ble_eq_true rfl) (Nat.le_of_ble_eq_true rfl) (Nat.le_of_ble_eq_true rfl) (Nat.le_of_ble_eq_true rfl) (Nat.le_of_ble_eq_true rfl) (Nat.le_of_ble_eq_true rfl)
set_option maxHeartbeats 4000000 in
set_option maxRecDepth 100000 in
theorem c_X6_difference__t2 (G : GG) (l : Launch) (hls : l.stackTraces = false) (x_ : Nat) (a_ : Nat → Nat) (o : Nat → Nat) (T : TS) (k_ : Int32) (y_ : Int32) (j1 : ¬ k_ < 0) (j2_ : k_ < nI 6) (h8 : ¬ (¬ y_ < 0 ∧ ¬ nI (T.s 4) ≤ y_)) : Cx G l yX6_difference wsX6_difference ({ frames := 6, cells := 1, slots := 6, locals := 112 }) [.ref x_, .int k_, .int y_] [(x_, .inr (6, [.ref (a_ 0), .ref (o 0), .ref (o 2), .ref (o 4), .ref (o 6), .ref (o 8), .ref (o 10)])), (a_ 0, .inr (4, [.int (nI (T.s 2)), .int (nI (T.s 3)), .int (nI (T.s 4)), .int (nI (T.s 0)), .int (nI (T.s 6)), .ref (a_ 1), .ref (a_ 2), .ref (a_ 3), .ref (a_ 4), .ref (a_ 6)]))] E_ioo := by
  refine cx_intro (cc := cX6_difference) (maxL := 4) (ret := (some .long)) (own := RX6) (by decide) rfl rfl (Nat.le_of_ble_eq_true rfl) ?_
  intro p e s m args below meth c A hx hb hr hml hts hown hlocks hT hSX hXF hNX hP hK hD hA hS ls hl
  have hl : lv_has ls 4 [(0, .ref x_), (1, .int k_), (2, .int y_)] := hl
  have hin6 : ∀ w ∈ u_ws RX6 TX6 7, w ∈ wsX6_difference := fun w h => List.mem_cons_of_mem _ (List.mem_append_left _ (List.mem_append_left _ (List.mem_append_left _ (List.mem_append_left _ (List.mem_append_right _ h)))))
  have hi9_104 : ∀ w ∈ (vx_atS RX6 104 "java/lang/IndexOutOfBoundsException" cx_names).filter goodWord, w ∈ wsX6_difference := by decide +kernel
  have hn9_104 : ∀ w ∈ (vx_atS RX6 104 "java/lang/IndexOutOfBoundsException" cx_names).filter (fun w => !goodWord w), w ∈ Cond.castable "java/lang/IndexOutOfBoundsException" "java/lang/IndexOutOfBoundsException" :: dcL.map Cond.declares := by decide +kernel
  have hg9_104 : ∀ w ∈ Cond.classLink RX6 100 "java/lang/IndexOutOfBoundsException" :: Cond.initialized "java/lang/IndexOutOfBoundsException" :: vx_atS RX6 104 "java/lang/IndexOutOfBoundsException" cx_names, vx_ot w = true := by decide +kernel
  refine lv_iload_n hx hb dX6_difference_0 rfl (lv_at hl 1 rfl) ?_
  refine lv_if_lt (tgt := 10) hx hb dX6_difference_1 (by decide) (fun c_1 => ?_) (fun c_1 => ?_)
  · exact absurd c_1 j1
  · refine lv_iload_n hx hb dX6_difference_4 rfl (lv_at hl 1 rfl) ?_
    refine lv_bipush (v := nI 6) hx hb dX6_difference_5 (by decide) ?_
    refine lv_icmp_lt (tgt := 20) hx hb dX6_difference_7 (by decide) (fun c_7 => ?_) (fun c_7 => ?_)
    · refine lv_aload_n hx hb dX6_difference_20 rfl (lv_at hl 0 rfl) ?_
      refine va_get (D := G.1) (ci := 6) (v := .ref (a_ 0)) (C := RX6) (T := TX6) (N := 7) hx hb hts hin6 hown hK hP 0 rfl rfl 0 (by decide) (hts (.fieldLink RX6 10 "PowerTables" "table" "LPowerTables$Table;") (List.mem_of_getElem? (i := 5) rfl)) (fun _ h9 => h9) rfl dX6_difference_21 ?_
      refine lv_iload_n hx hb dX6_difference_24 rfl (lv_at hl 2 rfl) ?_
      refine cr_V (wr := [(x_, .inr (6, [.ref (a_ 0), .ref (o 0), .ref (o 2), .ref (o 4), .ref (o 6), .ref (o 8), .ref (o 10)]))]) (As := [.int y_]) (rest := []) ⟨hx, hb, hml, hown, hts⟩ (c_X4_hasRow__raw G l a_ T y_ ) (cwV 1 hts gX6_difference_X4_hasRow rfl rfl rfl (by decide +kernel) ⟨Nat.le_of_ble_eq_true rfl, Nat.le_of_ble_eq_true rfl⟩) dX6_difference_25 hK hNX hP hD hS hA hl 1 4 rfl rfl rfl [1] [0] rfl rfl rfl rfl (by decide) rfl (Nat.le_of_ble_eq_true rfl) ⟨Nat.le_of_ble_eq_true rfl, Nat.le_of_ble_eq_true rfl⟩ rfl (fun v' w' Hq lcq hR' hP hD hS => ?_)
      obtain ⟨rfl, rfl⟩ := hR'
      have hP : va_P G.1 vwCl [(x_, .inr (6, [.ref (a_ 0), .ref (o 0), .ref (o 2), .ref (o 4), .ref (o 6), .ref (o 8), .ref (o 10)])), (a_ 0, .inr (4, [.int (nI (T.s 2)), .int (nI (T.s 3)), .int (nI (T.s 4)), .int (nI (T.s 0)), .int (nI (T.s 6)), .ref (a_ 1), .ref (a_ 2), .ref (a_ 3), .ref (a_ 4), .ref (a_ 6)]))] _ := hP.sub [0, 1] rfl
      have hD : va_D A [(x_, .inr (6, [.ref (a_ 0), .ref (o 0), .ref (o 2), .ref (o 4), .ref (o 6), .ref (o 8), .ref (o 10)])), (a_ 0, .inr (4, [.int (nI (T.s 2)), .int (nI (T.s 3)), .int (nI (T.s 4)), .int (nI (T.s 0)), .int (nI (T.s 6)), .ref (a_ 1), .ref (a_ 2), .ref (a_ 3), .ref (a_ 4), .ref (a_ 6)]))] := hD.sub [0, 1] (by decide +kernel) rfl
      refine ks_ifb_ne (tgt := 41) hx hb dX6_difference_28 (by decide) (fun c_28 => ?_) (fun c_28 => ?_)
      · exact absurd c_28 h8
      · exact cx_throw hx hb hls hts hown hK hP hD hS hSX hXF hT hlocks hml hl (List.mem_of_getElem? (l := strL) (i := 6) rfl) (List.mem_of_getElem? (l := excL) (i := 2) rfl) (hts (.classLink RX6 100 "java/lang/IndexOutOfBoundsException") (List.mem_of_getElem? (i := 3) rfl)) (hts (.initialized "java/lang/IndexOutOfBoundsException") (List.mem_of_getElem? (i := 4) rfl)) (by decide +kernel) hi9_104 hn9_104 hg9_104 dX6_difference_31 dX6_difference_34 dX6_difference_35 dX6_difference_37 dX6_difference_40 (Nat.le_of_ble_eq_true rfl) (Nat.le_of_ble_eq_true rfl) (Nat.le_of_ble_eq_true rfl) (Nat.le_of_ble_eq_true rfl) (Nat.le_of_ble_eq_true rfl) (Nat.le_of_ble_eq_true rfl)
    · exact absurd j2_ c_7
set_option maxHeartbeats 4000000 in
set_option maxRecDepth 100000 in
theorem c_X6_group__t1 (G : GG) (l : Launch) (hls : l.stackTraces = false) (x_ : Nat) (u_ : Int32) (y_ : Int32) (h8 : u_ < 0 ∨ y_ < 0 ∨ ¬ y_ < nI 4) : Cx G l yX6_group wsX6_group ({ frames := 6, cells := 1, slots := 6, locals := 112 }) [.ref x_, .int u_, .int y_] [] E_iae := by
  refine cx_intro (cc := cX6_group) (maxL := 5) (ret := (some .long)) (own := RX6) (by decide) rfl rfl (Nat.le_of_ble_eq_true rfl) ?_
  intro p e s m args below meth c A hx hb hr hml hts hown hlocks hT hSX hXF hNX hP hK hD hA hS ls hl
  have hl : lv_has ls 5 [(0, .ref x_), (1, .int u_), (2, .int y_)] := hl
  have hi9_69 : ∀ w ∈ (vx_atS RX6 69 "java/lang/IllegalArgumentException" cx_names).filter goodWord, w ∈ wsX6_group := by decide +kernel
  have hn9_69 : ∀ w ∈ (vx_atS RX6 69 "java/lang/IllegalArgumentException" cx_names).filter (fun w => !goodWord w), w ∈ Cond.castable "java/lang/IllegalArgumentException" "java/lang/IllegalArgumentException" :: dcL.map Cond.declares := by decide +kernel
  have hg9_69 : ∀ w ∈ Cond.classLink RX6 65 "java/lang/IllegalArgumentException" :: Cond.initialized "java/lang/IllegalArgumentException" :: vx_atS RX6 69 "java/lang/IllegalArgumentException" cx_names, vx_ot w = true := by decide +kernel
  refine lv_iload_n hx hb dX6_group_0 rfl (lv_at hl 1 rfl) ?_
  refine lv_if_lt (tgt := 13) hx hb dX6_group_1 (by decide) (fun c_1 => ?_) (fun c_1 => ?_)
  · exact cx_throw hx hb hls hts hown hK hP hD hS hSX hXF hT hlocks hml hl (List.mem_of_getElem? (l := strL) (i := 15) rfl) (List.mem_of_getElem? (l := excL) (i := 0) rfl) (hts (.classLink RX6 65 "java/lang/IllegalArgumentException") (List.mem_of_getElem? (i := 1) rfl)) (hts (.initialized "java/lang/IllegalArgumentException") (List.mem_of_getElem? (i := 2) rfl)) (by decide +kernel) hi9_69 hn9_69 hg9_69 dX6_group_13 dX6_group_16 dX6_group_17 dX6_group_19 dX6_group_22 (Nat.le_of_ble_eq_true rfl) (Nat.le_of_ble_eq_true rfl) (Nat.le_of_ble_eq_true rfl) (Nat.le_of_ble_eq_true rfl) (Nat.le_of_ble_eq_true rfl) (Nat.le_of_ble_eq_true rfl)
  · refine lv_iload_n hx hb dX6_group_4 rfl (lv_at hl 2 rfl) ?_
    refine lv_if_lt (tgt := 13) hx hb dX6_group_5 (by decide) (fun c_5 => ?_) (fun c_5 => ?_)
    · exact cx_throw hx hb hls hts hown hK hP hD hS hSX hXF hT hlocks hml hl (List.mem_of_getElem? (l := strL) (i := 15) rfl) (List.mem_of_getElem? (l := excL) (i := 0) rfl) (hts (.classLink RX6 65 "java/lang/IllegalArgumentException") (List.mem_of_getElem? (i := 1) rfl)) (hts (.initialized "java/lang/IllegalArgumentException") (List.mem_of_getElem? (i := 2) rfl)) (by decide +kernel) hi9_69 hn9_69 hg9_69 dX6_group_13 dX6_group_16 dX6_group_17 dX6_group_19 dX6_group_22 (Nat.le_of_ble_eq_true rfl) (Nat.le_of_ble_eq_true rfl) (Nat.le_of_ble_eq_true rfl) (Nat.le_of_ble_eq_true rfl) (Nat.le_of_ble_eq_true rfl) (Nat.le_of_ble_eq_true rfl)
    · refine lv_iload_n hx hb dX6_group_8 rfl (lv_at hl 2 rfl) ?_
      refine lv_iconst (v := nI 4) hx hb dX6_group_9 (by decide) ?_
      refine lv_icmp_lt (tgt := 23) hx hb dX6_group_10 (by decide) (fun c_10 => ?_) (fun c_10 => ?_)
      · exact (h8.elim c_1 (fun z0 => (z0.elim c_5 (fun z1 => ((fun z9 => z9 c_10) z1))))).elim
      · exact cx_throw hx hb hls hts hown hK hP hD hS hSX hXF hT hlocks hml hl (List.mem_of_getElem? (l := strL) (i := 15) rfl) (List.mem_of_getElem? (l := excL) (i := 0) rfl) (hts (.classLink RX6 65 "java/lang/IllegalArgumentException") (List.mem_of_getElem? (i := 1) rfl)) (hts (.initialized "java/lang/IllegalArgumentException") (List.mem_of_getElem? (i := 2) rfl)) (by decide +kernel) hi9_69 hn9_69 hg9_69 dX6_group_13 dX6_group_16 dX6_group_17 dX6_group_19 dX6_group_22 (Nat.le_of_ble_eq_true rfl) (Nat.le_of_ble_eq_true rfl) (Nat.le_of_ble_eq_true rfl) (Nat.le_of_ble_eq_true rfl) (Nat.le_of_ble_eq_true rfl) (Nat.le_of_ble_eq_true rfl)
set_option maxHeartbeats 4000000 in
set_option maxRecDepth 100000 in
theorem c_X6_guess__t1 (G : GG) (l : Launch) (hls : l.stackTraces = false) (x_ : Nat) (k_ : Int32) (h8 : k_ < 0 ∨ ¬ k_ < nI 3) : Cx G l yX6_guess wsX6_guess ({ frames := 6, cells := 1, slots := 6, locals := 112 }) [.ref x_, .int k_] [] E_iae := by
  refine cx_intro (cc := cX6_guess) (maxL := 4) (ret := (some .long)) (own := RX6) (by decide) rfl rfl (Nat.le_of_ble_eq_true rfl) ?_
  intro p e s m args below meth c A hx hb hr hml hts hown hlocks hT hSX hXF hNX hP hK hD hA hS ls hl
  have hl : lv_has ls 4 [(0, .ref x_), (1, .int k_)] := hl
  have hi9_69 : ∀ w ∈ (vx_atS RX6 69 "java/lang/IllegalArgumentException" cx_names).filter goodWord, w ∈ wsX6_guess := by decide +kernel
  have hn9_69 : ∀ w ∈ (vx_atS RX6 69 "java/lang/IllegalArgumentException" cx_names).filter (fun w => !goodWord w), w ∈ Cond.castable "java/lang/IllegalArgumentException" "java/lang/IllegalArgumentException" :: dcL.map Cond.declares := by decide +kernel
  have hg9_69 : ∀ w ∈ Cond.classLink RX6 65 "java/lang/IllegalArgumentException" :: Cond.initialized "java/lang/IllegalArgumentException" :: vx_atS RX6 69 "java/lang/IllegalArgumentException" cx_names, vx_ot w = true := by decide +kernel
  refine lv_iload_n hx hb dX6_guess_0 rfl (lv_at hl 1 rfl) ?_
  refine lv_if_lt (tgt := 9) hx hb dX6_guess_1 (by decide) (fun c_1 => ?_) (fun c_1 => ?_)
  · exact cx_throwW hx hb hls hts hown hK hP hD hS hSX hXF hT hlocks hml hl (List.mem_of_getElem? (l := strL) (i := 18) rfl) (List.mem_of_getElem? (l := excL) (i := 0) rfl) (hts (.classLink RX6 65 "java/lang/IllegalArgumentException") (List.mem_of_getElem? (i := 1) rfl)) (hts (.initialized "java/lang/IllegalArgumentException") (List.mem_of_getElem? (i := 2) rfl)) (by decide +kernel) hi9_69 hn9_69 hg9_69 dX6_guess_9 dX6_guess_12 dX6_guess_13 dX6_guess_16 dX6_guess_19 (Nat.le_of_ble_eq_true rfl) (Nat.le_of_ble_eq_true rfl) (Nat.le_of_ble_eq_true rfl) (Nat.le_of_ble_eq_true rfl) (Nat.le_of_ble_eq_true rfl) (Nat.le_of_ble_eq_true rfl)
  · refine lv_iload_n hx hb dX6_guess_4 rfl (lv_at hl 1 rfl) ?_
    refine lv_iconst (v := nI 3) hx hb dX6_guess_5 (by decide) ?_
    refine lv_icmp_lt (tgt := 20) hx hb dX6_guess_6 (by decide) (fun c_6 => ?_) (fun c_6 => ?_)
    · exact (h8.elim c_1 (fun z0 => ((fun z9 => z9 c_6) z0))).elim
    · exact cx_throwW hx hb hls hts hown hK hP hD hS hSX hXF hT hlocks hml hl (List.mem_of_getElem? (l := strL) (i := 18) rfl) (List.mem_of_getElem? (l := excL) (i := 0) rfl) (hts (.classLink RX6 65 "java/lang/IllegalArgumentException") (List.mem_of_getElem? (i := 1) rfl)) (hts (.initialized "java/lang/IllegalArgumentException") (List.mem_of_getElem? (i := 2) rfl)) (by decide +kernel) hi9_69 hn9_69 hg9_69 dX6_guess_9 dX6_guess_12 dX6_guess_13 dX6_guess_16 dX6_guess_19 (Nat.le_of_ble_eq_true rfl) (Nat.le_of_ble_eq_true rfl) (Nat.le_of_ble_eq_true rfl) (Nat.le_of_ble_eq_true rfl) (Nat.le_of_ble_eq_true rfl) (Nat.le_of_ble_eq_true rfl)
set_option maxHeartbeats 4000000 in
set_option maxRecDepth 100000 in
theorem c_X6_ifPrinted__t1 (G : GG) (l : Launch) (hls : l.stackTraces = false) (x_ : Nat) (k_ : Int32) (y_ : Int32) (h8 : k_ < nI 1 ∨ nI 40 < k_ ∨ y_ < 0 ∨ ¬ y_ < nI 3) : Cx G l yX6_ifPrinted wsX6_ifPrinted ({ frames := 6, cells := 1, slots := 6, locals := 112 }) [.ref x_, .int k_, .int y_] [] E_iae := by
  refine cx_intro (cc := cX6_ifPrinted) (maxL := 8) (ret := (some .long)) (own := RX6) (by decide) rfl rfl (Nat.le_of_ble_eq_true rfl) ?_
  intro p e s m args below meth c A hx hb hr hml hts hown hlocks hT hSX hXF hNX hP hK hD hA hS ls hl
  have hl : lv_has ls 8 [(0, .ref x_), (1, .int k_), (2, .int y_)] := hl
  have hi9_69 : ∀ w ∈ (vx_atS RX6 69 "java/lang/IllegalArgumentException" cx_names).filter goodWord, w ∈ wsX6_ifPrinted := by decide +kernel
  have hn9_69 : ∀ w ∈ (vx_atS RX6 69 "java/lang/IllegalArgumentException" cx_names).filter (fun w => !goodWord w), w ∈ Cond.castable "java/lang/IllegalArgumentException" "java/lang/IllegalArgumentException" :: dcL.map Cond.declares := by decide +kernel
  have hg9_69 : ∀ w ∈ Cond.classLink RX6 65 "java/lang/IllegalArgumentException" :: Cond.initialized "java/lang/IllegalArgumentException" :: vx_atS RX6 69 "java/lang/IllegalArgumentException" cx_names, vx_ot w = true := by decide +kernel
  refine lv_iload_n hx hb dX6_ifPrinted_0 rfl (lv_at hl 1 rfl) ?_
  refine lv_iconst (v := nI 1) hx hb dX6_ifPrinted_1 (by decide) ?_
  refine lv_icmp_lt (tgt := 20) hx hb dX6_ifPrinted_2 (by decide) (fun c_2 => ?_) (fun c_2 => ?_)
  · exact cx_throwW hx hb hls hts hown hK hP hD hS hSX hXF hT hlocks hml hl (List.mem_of_getElem? (l := strL) (i := 19) rfl) (List.mem_of_getElem? (l := excL) (i := 0) rfl) (hts (.classLink RX6 65 "java/lang/IllegalArgumentException") (List.mem_of_getElem? (i := 1) rfl)) (hts (.initialized "java/lang/IllegalArgumentException") (List.mem_of_getElem? (i := 2) rfl)) (by decide +kernel) hi9_69 hn9_69 hg9_69 dX6_ifPrinted_20 dX6_ifPrinted_23 dX6_ifPrinted_24 dX6_ifPrinted_27 dX6_ifPrinted_30 (Nat.le_of_ble_eq_true rfl) (Nat.le_of_ble_eq_true rfl) (Nat.le_of_ble_eq_true rfl) (Nat.le_of_ble_eq_true rfl) (Nat.le_of_ble_eq_true rfl) (Nat.le_of_ble_eq_true rfl)
  · refine lv_iload_n hx hb dX6_ifPrinted_5 rfl (lv_at hl 1 rfl) ?_
    refine lv_bipush (v := nI 40) hx hb dX6_ifPrinted_6 (by decide) ?_
    refine lv_icmp_gt (tgt := 20) hx hb dX6_ifPrinted_8 (by decide) (fun c_8 => ?_) (fun c_8 => ?_)
    · exact cx_throwW hx hb hls hts hown hK hP hD hS hSX hXF hT hlocks hml hl (List.mem_of_getElem? (l := strL) (i := 19) rfl) (List.mem_of_getElem? (l := excL) (i := 0) rfl) (hts (.classLink RX6 65 "java/lang/IllegalArgumentException") (List.mem_of_getElem? (i := 1) rfl)) (hts (.initialized "java/lang/IllegalArgumentException") (List.mem_of_getElem? (i := 2) rfl)) (by decide +kernel) hi9_69 hn9_69 hg9_69 dX6_ifPrinted_20 dX6_ifPrinted_23 dX6_ifPrinted_24 dX6_ifPrinted_27 dX6_ifPrinted_30 (Nat.le_of_ble_eq_true rfl) (Nat.le_of_ble_eq_true rfl) (Nat.le_of_ble_eq_true rfl) (Nat.le_of_ble_eq_true rfl) (Nat.le_of_ble_eq_true rfl) (Nat.le_of_ble_eq_true rfl)
    · refine lv_iload_n hx hb dX6_ifPrinted_11 rfl (lv_at hl 2 rfl) ?_
      refine lv_if_lt (tgt := 20) hx hb dX6_ifPrinted_12 (by decide) (fun c_12 => ?_) (fun c_12 => ?_)
      · exact cx_throwW hx hb hls hts hown hK hP hD hS hSX hXF hT hlocks hml hl (List.mem_of_getElem? (l := strL) (i := 19) rfl) (List.mem_of_getElem? (l := excL) (i := 0) rfl) (hts (.classLink RX6 65 "java/lang/IllegalArgumentException") (List.mem_of_getElem? (i := 1) rfl)) (hts (.initialized "java/lang/IllegalArgumentException") (List.mem_of_getElem? (i := 2) rfl)) (by decide +kernel) hi9_69 hn9_69 hg9_69 dX6_ifPrinted_20 dX6_ifPrinted_23 dX6_ifPrinted_24 dX6_ifPrinted_27 dX6_ifPrinted_30 (Nat.le_of_ble_eq_true rfl) (Nat.le_of_ble_eq_true rfl) (Nat.le_of_ble_eq_true rfl) (Nat.le_of_ble_eq_true rfl) (Nat.le_of_ble_eq_true rfl) (Nat.le_of_ble_eq_true rfl)
      · refine lv_iload_n hx hb dX6_ifPrinted_15 rfl (lv_at hl 2 rfl) ?_
        refine lv_iconst (v := nI 3) hx hb dX6_ifPrinted_16 (by decide) ?_
        refine lv_icmp_lt (tgt := 31) hx hb dX6_ifPrinted_17 (by decide) (fun c_17 => ?_) (fun c_17 => ?_)
        · exact (h8.elim c_2 (fun z0 => (z0.elim c_8 (fun z1 => (z1.elim c_12 (fun z2 => ((fun z9 => z9 c_17) z2))))))).elim
        · exact cx_throwW hx hb hls hts hown hK hP hD hS hSX hXF hT hlocks hml hl (List.mem_of_getElem? (l := strL) (i := 19) rfl) (List.mem_of_getElem? (l := excL) (i := 0) rfl) (hts (.classLink RX6 65 "java/lang/IllegalArgumentException") (List.mem_of_getElem? (i := 1) rfl)) (hts (.initialized "java/lang/IllegalArgumentException") (List.mem_of_getElem? (i := 2) rfl)) (by decide +kernel) hi9_69 hn9_69 hg9_69 dX6_ifPrinted_20 dX6_ifPrinted_23 dX6_ifPrinted_24 dX6_ifPrinted_27 dX6_ifPrinted_30 (Nat.le_of_ble_eq_true rfl) (Nat.le_of_ble_eq_true rfl) (Nat.le_of_ble_eq_true rfl) (Nat.le_of_ble_eq_true rfl) (Nat.le_of_ble_eq_true rfl) (Nat.le_of_ble_eq_true rfl)
set_option maxHeartbeats 4000000 in
set_option maxRecDepth 100000 in
theorem c_X6_obey__t1 (G : GG) (l : Launch) (hls : l.stackTraces = false) (x_ : Nat) (a_ : Nat → Nat) (o : Nat → Nat) (cs : Nat → Nat) (tn_ : Nat) (jtn : tn_ ≤ 60) (jcs : ∀ k, k < 60 → cs k < 2 ^ 30) (h8 : ¬ (rnA cs tn_ = 9 ∨ rnA cs tn_ = 2 ∨ rnA cs tn_ = 3)) : Cx G l yX6_obey wsX6_obey ({ frames := 6, cells := 1, slots := 6, locals := 112 }) [.ref x_] [(x_, .inr (6, [.ref (a_ 0), .ref (o 0), .ref (o 2), .ref (o 4), .ref (o 6), .ref (o 8), .ref (o 10)])), (o 2, .inr (1, [.ref (o 3), .int (nI tn_)])), (o 3, .inl (G.2.1, 60, .inl (fun q9 => nI (cs q9))))] E_iae := by
  refine cx_intro (cc := cX6_obey) (maxL := 4) (ret := (some .int)) (own := RX6) (by decide) rfl rfl (Nat.le_of_ble_eq_true rfl) ?_
  intro p e s m args below meth c A hx hb hr hml hts hown hlocks hT hSX hXF hNX hP hK hD hA hS ls hl
  have hl : lv_has ls 4 [(0, .ref x_)] := hl
  have hin6 : ∀ w ∈ u_ws RX6 TX6 7, w ∈ wsX6_obey := fun w h => List.mem_cons_of_mem _ (List.mem_append_left _ (List.mem_append_left _ (List.mem_append_left _ (List.mem_append_left _ (List.mem_append_left _ (List.mem_append_left _ (List.mem_append_left _ (List.mem_append_right _ h))))))))
  have hi9_69 : ∀ w ∈ (vx_atS RX6 69 "java/lang/IllegalArgumentException" cx_names).filter goodWord, w ∈ wsX6_obey := by decide +kernel
  have hn9_69 : ∀ w ∈ (vx_atS RX6 69 "java/lang/IllegalArgumentException" cx_names).filter (fun w => !goodWord w), w ∈ Cond.castable "java/lang/IllegalArgumentException" "java/lang/IllegalArgumentException" :: dcL.map Cond.declares := by decide +kernel
  have hg9_69 : ∀ w ∈ Cond.classLink RX6 65 "java/lang/IllegalArgumentException" :: Cond.initialized "java/lang/IllegalArgumentException" :: vx_atS RX6 69 "java/lang/IllegalArgumentException" cx_names, vx_ot w = true := by decide +kernel
  refine lv_aload_n hx hb dX6_obey_0 rfl (lv_at hl 0 rfl) ?_
  refine va_get (D := G.1) (ci := 6) (v := .ref (o 2)) (C := RX6) (T := TX6) (N := 7) hx hb hts hin6 hown hK hP 0 rfl rfl 2 (by decide) (hts (.fieldLink RX6 26 "PowerTables" "text" "LPowerTables$OrderText;") (List.mem_of_getElem? (i := 3) rfl)) (fun _ h9 => h9) rfl dX6_obey_1 ?_
  refine cr_V (wr := [(x_, .inr (6, [.ref (a_ 0), .ref (o 0), .ref (o 2), .ref (o 4), .ref (o 6), .ref (o 8), .ref (o 10)]))]) (As := []) (rest := []) ⟨hx, hb, hml, hown, hts⟩ (c_X1_isComplete G l (o 2) (o 3) cs tn_ (by omega) (jcs)) (cwV 0 hts gX6_obey_X1_isComplete rfl rfl rfl (by decide +kernel) ⟨Nat.le_of_ble_eq_true rfl, Nat.le_of_ble_eq_true rfl⟩) dX6_obey_4 hK hNX hP hD hS hA hl 1 1 rfl rfl rfl [1, 2] [0] rfl rfl rfl rfl (by decide) rfl (Nat.le_of_ble_eq_true rfl) ⟨Nat.le_of_ble_eq_true rfl, Nat.le_of_ble_eq_true rfl⟩ rfl (fun v' w' Hq lcq hR' hP hD hS => ?_)
  obtain ⟨rfl, rfl⟩ := hR'
  have hP : va_P G.1 vwCl [(x_, .inr (6, [.ref (a_ 0), .ref (o 0), .ref (o 2), .ref (o 4), .ref (o 6), .ref (o 8), .ref (o 10)])), (o 2, .inr (1, [.ref (o 3), .int (nI tn_)])), (o 3, .inl (G.2.1, 60, .inl (fun q9 => nI (cs q9))))] _ := hP.sub [0, 1, 2] rfl
  have hD : va_D A [(x_, .inr (6, [.ref (a_ 0), .ref (o 0), .ref (o 2), .ref (o 4), .ref (o 6), .ref (o 8), .ref (o 10)])), (o 2, .inr (1, [.ref (o 3), .int (nI tn_)])), (o 3, .inl (G.2.1, 60, .inl (fun q9 => nI (cs q9))))] := hD.sub [0, 1, 2] (by decide +kernel) rfl
  refine ks_ifb_ne (tgt := 20) hx hb dX6_obey_7 (by decide) (fun c_7 => ?_) (fun c_7 => ?_)
  · exact absurd c_7 h8
  · exact cx_throw hx hb hls hts hown hK hP hD hS hSX hXF hT hlocks hml hl (List.mem_of_getElem? (l := strL) (i := 12) rfl) (List.mem_of_getElem? (l := excL) (i := 0) rfl) (hts (.classLink RX6 65 "java/lang/IllegalArgumentException") (List.mem_of_getElem? (i := 1) rfl)) (hts (.initialized "java/lang/IllegalArgumentException") (List.mem_of_getElem? (i := 2) rfl)) (by decide +kernel) hi9_69 hn9_69 hg9_69 dX6_obey_10 dX6_obey_13 dX6_obey_14 dX6_obey_16 dX6_obey_19 (Nat.le_of_ble_eq_true rfl) (Nat.le_of_ble_eq_true rfl) (Nat.le_of_ble_eq_true rfl) (Nat.le_of_ble_eq_true rfl) (Nat.le_of_ble_eq_true rfl) (Nat.le_of_ble_eq_true rfl)
set_option maxHeartbeats 4000000 in
set_option maxRecDepth 100000 in
theorem c_X6_register__t1 (G : GG) (l : Launch) (hls : l.stackTraces = false) (x_ : Nat) (k_ : Int32) (y_ : Int32) (h8 : ¬ (¬ k_ < 0 ∧ ¬ nI 6 ≤ k_)) : Cx G l yX6_register wsX6_register ({ frames := 6, cells := 1, slots := 6, locals := 112 }) [.ref x_, .int k_, .int y_] [] E_ioo := by
  refine cx_intro (cc := cX6_register) (maxL := 3) (ret := (some .long)) (own := RX6) (by decide) rfl rfl (Nat.le_of_ble_eq_true rfl) ?_
  intro p e s m args below meth c A hx hb hr hml hts hown hlocks hT hSX hXF hNX hP hK hD hA hS ls hl
  have hl : lv_has ls 3 [(0, .ref x_), (1, .int k_), (2, .int y_)] := hl
  have hi9_104 : ∀ w ∈ (vx_atS RX6 104 "java/lang/IndexOutOfBoundsException" cx_names).filter goodWord, w ∈ wsX6_register := by decide +kernel
  have hn9_104 : ∀ w ∈ (vx_atS RX6 104 "java/lang/IndexOutOfBoundsException" cx_names).filter (fun w => !goodWord w), w ∈ Cond.castable "java/lang/IndexOutOfBoundsException" "java/lang/IndexOutOfBoundsException" :: dcL.map Cond.declares := by decide +kernel
  have hg9_104 : ∀ w ∈ Cond.classLink RX6 100 "java/lang/IndexOutOfBoundsException" :: Cond.initialized "java/lang/IndexOutOfBoundsException" :: vx_atS RX6 104 "java/lang/IndexOutOfBoundsException" cx_names, vx_ot w = true := by decide +kernel
  refine lv_iload_n hx hb dX6_register_0 rfl (lv_at hl 1 rfl) ?_
  refine cr_S (wr := []) (As := [.int k_]) (rest := []) ⟨hx, hb, hml, hown, hts⟩ (c_X6_isRegister G l k_ ) (va_cwS 1 hts gX6_register_X6_isRegister rfl rfl rfl (by decide +kernel) ⟨Nat.le_of_ble_eq_true rfl, Nat.le_of_ble_eq_true rfl⟩) dX6_register_1 hK hNX hP hD hS hA hl [] [] rfl rfl rfl rfl (by decide) rfl (Nat.le_of_ble_eq_true rfl) ⟨Nat.le_of_ble_eq_true rfl, Nat.le_of_ble_eq_true rfl⟩ rfl (fun v' w' Hq lcq hR' hP hD hS => ?_)
  obtain ⟨rfl, rfl⟩ := hR'
  have hP : va_P G.1 vwCl [] _ := hP.sub [] rfl
  have hD : va_D A [] := hD.sub [] (by decide +kernel) rfl
  refine ks_ifb_ne (tgt := 17) hx hb dX6_register_4 (by decide) (fun c_4 => ?_) (fun c_4 => ?_)
  · exact absurd c_4 h8
  · exact cx_throw hx hb hls hts hown hK hP hD hS hSX hXF hT hlocks hml hl (List.mem_of_getElem? (l := strL) (i := 3) rfl) (List.mem_of_getElem? (l := excL) (i := 2) rfl) (hts (.classLink RX6 100 "java/lang/IndexOutOfBoundsException") (List.mem_of_getElem? (i := 1) rfl)) (hts (.initialized "java/lang/IndexOutOfBoundsException") (List.mem_of_getElem? (i := 2) rfl)) (by decide +kernel) hi9_104 hn9_104 hg9_104 dX6_register_7 dX6_register_10 dX6_register_11 dX6_register_13 dX6_register_16 (Nat.le_of_ble_eq_true rfl) (Nat.le_of_ble_eq_true rfl) (Nat.le_of_ble_eq_true rfl) (Nat.le_of_ble_eq_true rfl) (Nat.le_of_ble_eq_true rfl) (Nat.le_of_ble_eq_true rfl)
set_option maxHeartbeats 4000000 in
set_option maxRecDepth 100000 in
theorem c_X6_renew__t1 (G : GG) (l : Launch) (hls : l.stackTraces = false) (x_ : Nat) (k_ : Int32) (h8 : ¬ (¬ k_ < 0 ∧ ¬ nI 10 ≤ k_)) : Cx G l yX6_renew wsX6_renew ({ frames := 6, cells := 1, slots := 6, locals := 112 }) [.ref x_, .int k_] [] E_ioo := by
  refine cx_intro (cc := cX6_renew) (maxL := 2) (ret := (some .int)) (own := RX6) (by decide) rfl rfl (Nat.le_of_ble_eq_true rfl) ?_
  intro p e s m args below meth c A hx hb hr hml hts hown hlocks hT hSX hXF hNX hP hK hD hA hS ls hl
  have hl : lv_has ls 2 [(0, .ref x_), (1, .int k_)] := hl
  have hi9_104 : ∀ w ∈ (vx_atS RX6 104 "java/lang/IndexOutOfBoundsException" cx_names).filter goodWord, w ∈ wsX6_renew := by decide +kernel
  have hn9_104 : ∀ w ∈ (vx_atS RX6 104 "java/lang/IndexOutOfBoundsException" cx_names).filter (fun w => !goodWord w), w ∈ Cond.castable "java/lang/IndexOutOfBoundsException" "java/lang/IndexOutOfBoundsException" :: dcL.map Cond.declares := by decide +kernel
  have hg9_104 : ∀ w ∈ Cond.classLink RX6 100 "java/lang/IndexOutOfBoundsException" :: Cond.initialized "java/lang/IndexOutOfBoundsException" :: vx_atS RX6 104 "java/lang/IndexOutOfBoundsException" cx_names, vx_ot w = true := by decide +kernel
  refine lv_iload_n hx hb dX6_renew_0 rfl (lv_at hl 1 rfl) ?_
  refine cr_S (wr := []) (As := [.int k_]) (rest := []) ⟨hx, hb, hml, hown, hts⟩ (c_X6_isDigit G l k_ ) (va_cwS 1 hts gX6_renew_X6_isDigit rfl rfl rfl (by decide +kernel) ⟨Nat.le_of_ble_eq_true rfl, Nat.le_of_ble_eq_true rfl⟩) dX6_renew_1 hK hNX hP hD hS hA hl [] [] rfl rfl rfl rfl (by decide) rfl (Nat.le_of_ble_eq_true rfl) ⟨Nat.le_of_ble_eq_true rfl, Nat.le_of_ble_eq_true rfl⟩ rfl (fun v' w' Hq lcq hR' hP hD hS => ?_)
  obtain ⟨rfl, rfl⟩ := hR'
  have hP : va_P G.1 vwCl [] _ := hP.sub [] rfl
  have hD : va_D A [] := hD.sub [] (by decide +kernel) rfl
  refine ks_ifb_ne (tgt := 17) hx hb dX6_renew_4 (by decide) (fun c_4 => ?_) (fun c_4 => ?_)
  · exact absurd c_4 h8
  · exact cx_throw hx hb hls hts hown hK hP hD hS hSX hXF hT hlocks hml hl (List.mem_of_getElem? (l := strL) (i := 7) rfl) (List.mem_of_getElem? (l := excL) (i := 2) rfl) (hts (.classLink RX6 100 "java/lang/IndexOutOfBoundsException") (List.mem_of_getElem? (i := 1) rfl)) (hts (.initialized "java/lang/IndexOutOfBoundsException") (List.mem_of_getElem? (i := 2) rfl)) (by decide +kernel) hi9_104 hn9_104 hg9_104 dX6_renew_7 dX6_renew_10 dX6_renew_11 dX6_renew_13 dX6_renew_16 (Nat.le_of_ble_eq_true rfl) (Nat.le_of_ble_eq_true rfl) (Nat.le_of_ble_eq_true rfl) (Nat.le_of_ble_eq_true rfl) (Nat.le_of_ble_eq_true rfl) (Nat.le_of_ble_eq_true rfl)
set_option maxHeartbeats 4000000 in
set_option maxRecDepth 100000 in
theorem c_X6_wear__t1 (G : GG) (l : Launch) (hls : l.stackTraces = false) (x_ : Nat) (k_ : Int32) (h8 : ¬ (¬ k_ < 0 ∧ ¬ nI 10 ≤ k_)) : Cx G l yX6_wear wsX6_wear ({ frames := 6, cells := 1, slots := 6, locals := 112 }) [.ref x_, .int k_] [] E_ioo := by
  refine cx_intro (cc := cX6_wear) (maxL := 2) (ret := (some .int)) (own := RX6) (by decide) rfl rfl (Nat.le_of_ble_eq_true rfl) ?_
  intro p e s m args below meth c A hx hb hr hml hts hown hlocks hT hSX hXF hNX hP hK hD hA hS ls hl
  have hl : lv_has ls 2 [(0, .ref x_), (1, .int k_)] := hl
  have hi9_104 : ∀ w ∈ (vx_atS RX6 104 "java/lang/IndexOutOfBoundsException" cx_names).filter goodWord, w ∈ wsX6_wear := by decide +kernel
  have hn9_104 : ∀ w ∈ (vx_atS RX6 104 "java/lang/IndexOutOfBoundsException" cx_names).filter (fun w => !goodWord w), w ∈ Cond.castable "java/lang/IndexOutOfBoundsException" "java/lang/IndexOutOfBoundsException" :: dcL.map Cond.declares := by decide +kernel
  have hg9_104 : ∀ w ∈ Cond.classLink RX6 100 "java/lang/IndexOutOfBoundsException" :: Cond.initialized "java/lang/IndexOutOfBoundsException" :: vx_atS RX6 104 "java/lang/IndexOutOfBoundsException" cx_names, vx_ot w = true := by decide +kernel
  refine lv_iload_n hx hb dX6_wear_0 rfl (lv_at hl 1 rfl) ?_
  refine cr_S (wr := []) (As := [.int k_]) (rest := []) ⟨hx, hb, hml, hown, hts⟩ (c_X6_isDigit G l k_ ) (va_cwS 1 hts gX6_wear_X6_isDigit rfl rfl rfl (by decide +kernel) ⟨Nat.le_of_ble_eq_true rfl, Nat.le_of_ble_eq_true rfl⟩) dX6_wear_1 hK hNX hP hD hS hA hl [] [] rfl rfl rfl rfl (by decide) rfl (Nat.le_of_ble_eq_true rfl) ⟨Nat.le_of_ble_eq_true rfl, Nat.le_of_ble_eq_true rfl⟩ rfl (fun v' w' Hq lcq hR' hP hD hS => ?_)
  obtain ⟨rfl, rfl⟩ := hR'
  have hP : va_P G.1 vwCl [] _ := hP.sub [] rfl
  have hD : va_D A [] := hD.sub [] (by decide +kernel) rfl
  refine ks_ifb_ne (tgt := 17) hx hb dX6_wear_4 (by decide) (fun c_4 => ?_) (fun c_4 => ?_)
  · exact absurd c_4 h8
  · exact cx_throw hx hb hls hts hown hK hP hD hS hSX hXF hT hlocks hml hl (List.mem_of_getElem? (l := strL) (i := 7) rfl) (List.mem_of_getElem? (l := excL) (i := 2) rfl) (hts (.classLink RX6 100 "java/lang/IndexOutOfBoundsException") (List.mem_of_getElem? (i := 1) rfl)) (hts (.initialized "java/lang/IndexOutOfBoundsException") (List.mem_of_getElem? (i := 2) rfl)) (by decide +kernel) hi9_104 hn9_104 hg9_104 dX6_wear_7 dX6_wear_10 dX6_wear_11 dX6_wear_13 dX6_wear_16 (Nat.le_of_ble_eq_true rfl) (Nat.le_of_ble_eq_true rfl) (Nat.le_of_ble_eq_true rfl) (Nat.le_of_ble_eq_true rfl) (Nat.le_of_ble_eq_true rfl) (Nat.le_of_ble_eq_true rfl)
set_option maxHeartbeats 4000000 in
set_option maxRecDepth 100000 in
theorem c_X6_row__t1 (G : GG) (l : Launch) (hls : l.stackTraces = false) (x_ : Nat) (a_ : Nat → Nat) (o : Nat → Nat) (T : TS) (y_ : Int32) (k_ : Int32) (h8 : ¬ (¬ y_ < 0 ∧ ¬ nI (T.s 4) ≤ y_)) : Cx G l yX6_row wsX6_row ({ frames := 6, cells := 1, slots := 6, locals := 112 }) [.ref x_, .int y_, .int k_] [(x_, .inr (6, [.ref (a_ 0), .ref (o 0), .ref (o 2), .ref (o 4), .ref (o 6), .ref (o 8), .ref (o 10)])), (a_ 0, .inr (4, [.int (nI (T.s 2)), .int (nI (T.s 3)), .int (nI (T.s 4)), .int (nI (T.s 0)), .int (nI (T.s 6)), .ref (a_ 1), .ref (a_ 2), .ref (a_ 3), .ref (a_ 4), .ref (a_ 6)]))] E_ioo := by
  refine cx_intro (cc := cX6_row) (maxL := 3) (ret := (some .long)) (own := RX6) (by decide) rfl rfl (Nat.le_of_ble_eq_true rfl) ?_
  intro p e s m args below meth c A hx hb hr hml hts hown hlocks hT hSX hXF hNX hP hK hD hA hS ls hl
  have hl : lv_has ls 3 [(0, .ref x_), (1, .int y_), (2, .int k_)] := hl
  have hin6 : ∀ w ∈ u_ws RX6 TX6 7, w ∈ wsX6_row := fun w h => List.mem_cons_of_mem _ (List.mem_append_left _ (List.mem_append_left _ (List.mem_append_left _ (List.mem_append_right _ h))))
  have hi9_104 : ∀ w ∈ (vx_atS RX6 104 "java/lang/IndexOutOfBoundsException" cx_names).filter goodWord, w ∈ wsX6_row := by decide +kernel
  have hn9_104 : ∀ w ∈ (vx_atS RX6 104 "java/lang/IndexOutOfBoundsException" cx_names).filter (fun w => !goodWord w), w ∈ Cond.castable "java/lang/IndexOutOfBoundsException" "java/lang/IndexOutOfBoundsException" :: dcL.map Cond.declares := by decide +kernel
  have hg9_104 : ∀ w ∈ Cond.classLink RX6 100 "java/lang/IndexOutOfBoundsException" :: Cond.initialized "java/lang/IndexOutOfBoundsException" :: vx_atS RX6 104 "java/lang/IndexOutOfBoundsException" cx_names, vx_ot w = true := by decide +kernel
  refine lv_aload_n hx hb dX6_row_0 rfl (lv_at hl 0 rfl) ?_
  refine va_get (D := G.1) (ci := 6) (v := .ref (a_ 0)) (C := RX6) (T := TX6) (N := 7) hx hb hts hin6 hown hK hP 0 rfl rfl 0 (by decide) (hts (.fieldLink RX6 10 "PowerTables" "table" "LPowerTables$Table;") (List.mem_of_getElem? (i := 5) rfl)) (fun _ h9 => h9) rfl dX6_row_1 ?_
  refine lv_iload_n hx hb dX6_row_4 rfl (lv_at hl 1 rfl) ?_
  refine cr_V (wr := [(x_, .inr (6, [.ref (a_ 0), .ref (o 0), .ref (o 2), .ref (o 4), .ref (o 6), .ref (o 8), .ref (o 10)]))]) (As := [.int y_]) (rest := []) ⟨hx, hb, hml, hown, hts⟩ (c_X4_hasRow__raw G l a_ T y_ ) (cwV 1 hts gX6_row_X4_hasRow rfl rfl rfl (by decide +kernel) ⟨Nat.le_of_ble_eq_true rfl, Nat.le_of_ble_eq_true rfl⟩) dX6_row_5 hK hNX hP hD hS hA hl 1 4 rfl rfl rfl [1] [0] rfl rfl rfl rfl (by decide) rfl (Nat.le_of_ble_eq_true rfl) ⟨Nat.le_of_ble_eq_true rfl, Nat.le_of_ble_eq_true rfl⟩ rfl (fun v' w' Hq lcq hR' hP hD hS => ?_)
  obtain ⟨rfl, rfl⟩ := hR'
  have hP : va_P G.1 vwCl [(x_, .inr (6, [.ref (a_ 0), .ref (o 0), .ref (o 2), .ref (o 4), .ref (o 6), .ref (o 8), .ref (o 10)])), (a_ 0, .inr (4, [.int (nI (T.s 2)), .int (nI (T.s 3)), .int (nI (T.s 4)), .int (nI (T.s 0)), .int (nI (T.s 6)), .ref (a_ 1), .ref (a_ 2), .ref (a_ 3), .ref (a_ 4), .ref (a_ 6)]))] _ := hP.sub [0, 1] rfl
  have hD : va_D A [(x_, .inr (6, [.ref (a_ 0), .ref (o 0), .ref (o 2), .ref (o 4), .ref (o 6), .ref (o 8), .ref (o 10)])), (a_ 0, .inr (4, [.int (nI (T.s 2)), .int (nI (T.s 3)), .int (nI (T.s 4)), .int (nI (T.s 0)), .int (nI (T.s 6)), .ref (a_ 1), .ref (a_ 2), .ref (a_ 3), .ref (a_ 4), .ref (a_ 6)]))] := hD.sub [0, 1] (by decide +kernel) rfl
  refine ks_ifb_ne (tgt := 21) hx hb dX6_row_8 (by decide) (fun c_8 => ?_) (fun c_8 => ?_)
  · exact absurd c_8 h8
  · exact cx_throw hx hb hls hts hown hK hP hD hS hSX hXF hT hlocks hml hl (List.mem_of_getElem? (l := strL) (i := 6) rfl) (List.mem_of_getElem? (l := excL) (i := 2) rfl) (hts (.classLink RX6 100 "java/lang/IndexOutOfBoundsException") (List.mem_of_getElem? (i := 1) rfl)) (hts (.initialized "java/lang/IndexOutOfBoundsException") (List.mem_of_getElem? (i := 2) rfl)) (by decide +kernel) hi9_104 hn9_104 hg9_104 dX6_row_11 dX6_row_14 dX6_row_15 dX6_row_17 dX6_row_20 (Nat.le_of_ble_eq_true rfl) (Nat.le_of_ble_eq_true rfl) (Nat.le_of_ble_eq_true rfl) (Nat.le_of_ble_eq_true rfl) (Nat.le_of_ble_eq_true rfl) (Nat.le_of_ble_eq_true rfl)
set_option maxHeartbeats 4000000 in
set_option maxRecDepth 100000 in
theorem c_X6_row__t2 (G : GG) (l : Launch) (hls : l.stackTraces = false) (x_ : Nat) (a_ : Nat → Nat) (o : Nat → Nat) (T : TS) (y_ : Int32) (k_ : Int32) (j1 : ¬ y_ < 0 ∧ ¬ nI (T.s 4) ≤ y_) (h8 : k_ < 0 ∨ ¬ k_ < nI 5) : Cx G l yX6_row wsX6_row ({ frames := 6, cells := 1, slots := 6, locals := 112 }) [.ref x_, .int y_, .int k_] [(x_, .inr (6, [.ref (a_ 0), .ref (o 0), .ref (o 2), .ref (o 4), .ref (o 6), .ref (o 8), .ref (o 10)])), (a_ 0, .inr (4, [.int (nI (T.s 2)), .int (nI (T.s 3)), .int (nI (T.s 4)), .int (nI (T.s 0)), .int (nI (T.s 6)), .ref (a_ 1), .ref (a_ 2), .ref (a_ 3), .ref (a_ 4), .ref (a_ 6)]))] E_iae := by
  refine cx_intro (cc := cX6_row) (maxL := 3) (ret := (some .long)) (own := RX6) (by decide) rfl rfl (Nat.le_of_ble_eq_true rfl) ?_
  intro p e s m args below meth c A hx hb hr hml hts hown hlocks hT hSX hXF hNX hP hK hD hA hS ls hl
  have hl : lv_has ls 3 [(0, .ref x_), (1, .int y_), (2, .int k_)] := hl
  have hin6 : ∀ w ∈ u_ws RX6 TX6 7, w ∈ wsX6_row := fun w h => List.mem_cons_of_mem _ (List.mem_append_left _ (List.mem_append_left _ (List.mem_append_left _ (List.mem_append_right _ h))))
  have hi9_69 : ∀ w ∈ (vx_atS RX6 69 "java/lang/IllegalArgumentException" cx_names).filter goodWord, w ∈ wsX6_row := by decide +kernel
  have hn9_69 : ∀ w ∈ (vx_atS RX6 69 "java/lang/IllegalArgumentException" cx_names).filter (fun w => !goodWord w), w ∈ Cond.castable "java/lang/IllegalArgumentException" "java/lang/IllegalArgumentException" :: dcL.map Cond.declares := by decide +kernel
  have hg9_69 : ∀ w ∈ Cond.classLink RX6 65 "java/lang/IllegalArgumentException" :: Cond.initialized "java/lang/IllegalArgumentException" :: vx_atS RX6 69 "java/lang/IllegalArgumentException" cx_names, vx_ot w = true := by decide +kernel
  refine lv_aload_n hx hb dX6_row_0 rfl (lv_at hl 0 rfl) ?_
  refine va_get (D := G.1) (ci := 6) (v := .ref (a_ 0)) (C := RX6) (T := TX6) (N := 7) hx hb hts hin6 hown hK hP 0 rfl rfl 0 (by decide) (hts (.fieldLink RX6 10 "PowerTables" "table" "LPowerTables$Table;") (List.mem_of_getElem? (i := 5) rfl)) (fun _ h9 => h9) rfl dX6_row_1 ?_
  refine lv_iload_n hx hb dX6_row_4 rfl (lv_at hl 1 rfl) ?_
  refine cr_V (wr := [(x_, .inr (6, [.ref (a_ 0), .ref (o 0), .ref (o 2), .ref (o 4), .ref (o 6), .ref (o 8), .ref (o 10)]))]) (As := [.int y_]) (rest := []) ⟨hx, hb, hml, hown, hts⟩ (c_X4_hasRow__raw G l a_ T y_ ) (cwV 1 hts gX6_row_X4_hasRow rfl rfl rfl (by decide +kernel) ⟨Nat.le_of_ble_eq_true rfl, Nat.le_of_ble_eq_true rfl⟩) dX6_row_5 hK hNX hP hD hS hA hl 1 4 rfl rfl rfl [1] [0] rfl rfl rfl rfl (by decide) rfl (Nat.le_of_ble_eq_true rfl) ⟨Nat.le_of_ble_eq_true rfl, Nat.le_of_ble_eq_true rfl⟩ rfl (fun v' w' Hq lcq hR' hP hD hS => ?_)
  obtain ⟨rfl, rfl⟩ := hR'
  have hP : va_P G.1 vwCl [(x_, .inr (6, [.ref (a_ 0), .ref (o 0), .ref (o 2), .ref (o 4), .ref (o 6), .ref (o 8), .ref (o 10)])), (a_ 0, .inr (4, [.int (nI (T.s 2)), .int (nI (T.s 3)), .int (nI (T.s 4)), .int (nI (T.s 0)), .int (nI (T.s 6)), .ref (a_ 1), .ref (a_ 2), .ref (a_ 3), .ref (a_ 4), .ref (a_ 6)]))] _ := hP.sub [0, 1] rfl
  have hD : va_D A [(x_, .inr (6, [.ref (a_ 0), .ref (o 0), .ref (o 2), .ref (o 4), .ref (o 6), .ref (o 8), .ref (o 10)])), (a_ 0, .inr (4, [.int (nI (T.s 2)), .int (nI (T.s 3)), .int (nI (T.s 4)), .int (nI (T.s 0)), .int (nI (T.s 6)), .ref (a_ 1), .ref (a_ 2), .ref (a_ 3), .ref (a_ 4), .ref (a_ 6)]))] := hD.sub [0, 1] (by decide +kernel) rfl
  refine ks_ifb_ne (tgt := 21) hx hb dX6_row_8 (by decide) (fun c_8 => ?_) (fun c_8 => ?_)
  · refine lv_iload_n hx hb dX6_row_21 rfl (lv_at hl 2 rfl) ?_
    refine lv_if_lt (tgt := 30) hx hb dX6_row_22 (by decide) (fun c_22 => ?_) (fun c_22 => ?_)
    · exact cx_throw hx hb hls hts hown hK hP hD hS hSX hXF hT hlocks hml hl (List.mem_of_getElem? (l := strL) (i := 14) rfl) (List.mem_of_getElem? (l := excL) (i := 0) rfl) (hts (.classLink RX6 65 "java/lang/IllegalArgumentException") (List.mem_of_getElem? (i := 3) rfl)) (hts (.initialized "java/lang/IllegalArgumentException") (List.mem_of_getElem? (i := 4) rfl)) (by decide +kernel) hi9_69 hn9_69 hg9_69 dX6_row_30 dX6_row_33 dX6_row_34 dX6_row_36 dX6_row_39 (Nat.le_of_ble_eq_true rfl) (Nat.le_of_ble_eq_true rfl) (Nat.le_of_ble_eq_true rfl) (Nat.le_of_ble_eq_true rfl) (Nat.le_of_ble_eq_true rfl) (Nat.le_of_ble_eq_true rfl)
    · refine lv_iload_n hx hb dX6_row_25 rfl (lv_at hl 2 rfl) ?_
      refine lv_iconst (v := nI 5) hx hb dX6_row_26 (by decide) ?_
      refine lv_icmp_lt (tgt := 40) hx hb dX6_row_27 (by decide) (fun c_27 => ?_) (fun c_27 => ?_)
      · exact (h8.elim c_22 (fun z0 => ((fun z9 => z9 c_27) z0))).elim
      · exact cx_throw hx hb hls hts hown hK hP hD hS hSX hXF hT hlocks hml hl (List.mem_of_getElem? (l := strL) (i := 14) rfl) (List.mem_of_getElem? (l := excL) (i := 0) rfl) (hts (.classLink RX6 65 "java/lang/IllegalArgumentException") (List.mem_of_getElem? (i := 3) rfl)) (hts (.initialized "java/lang/IllegalArgumentException") (List.mem_of_getElem? (i := 4) rfl)) (by decide +kernel) hi9_69 hn9_69 hg9_69 dX6_row_30 dX6_row_33 dX6_row_34 dX6_row_36 dX6_row_39 (Nat.le_of_ble_eq_true rfl) (Nat.le_of_ble_eq_true rfl) (Nat.le_of_ble_eq_true rfl) (Nat.le_of_ble_eq_true rfl) (Nat.le_of_ble_eq_true rfl) (Nat.le_of_ble_eq_true rfl)
  · exact absurd j1 c_8
set_option maxHeartbeats 4000000 in
set_option maxRecDepth 100000 in
theorem c_X6_set__t1 (G : GG) (l : Launch) (hls : l.stackTraces = false) (x_ : Nat) (k_ : Int32) (y_ : Int32) (h8 : ¬ (¬ k_ < 0 ∧ ¬ nI 2 ≤ k_)) : Cx G l yX6_set wsX6_set ({ frames := 6, cells := 1, slots := 6, locals := 112 }) [.ref x_, .int k_, .int y_] [] E_ioo := by
  refine cx_intro (cc := cX6_set) (maxL := 5) (ret := (some .int)) (own := RX6) (by decide) rfl rfl (Nat.le_of_ble_eq_true rfl) ?_
  intro p e s m args below meth c A hx hb hr hml hts hown hlocks hT hSX hXF hNX hP hK hD hA hS ls hl
  have hl : lv_has ls 5 [(0, .ref x_), (1, .int k_), (2, .int y_)] := hl
  have hi9_104 : ∀ w ∈ (vx_atS RX6 104 "java/lang/IndexOutOfBoundsException" cx_names).filter goodWord, w ∈ wsX6_set := by decide +kernel
  have hn9_104 : ∀ w ∈ (vx_atS RX6 104 "java/lang/IndexOutOfBoundsException" cx_names).filter (fun w => !goodWord w), w ∈ Cond.castable "java/lang/IndexOutOfBoundsException" "java/lang/IndexOutOfBoundsException" :: dcL.map Cond.declares := by decide +kernel
  have hg9_104 : ∀ w ∈ Cond.classLink RX6 100 "java/lang/IndexOutOfBoundsException" :: Cond.initialized "java/lang/IndexOutOfBoundsException" :: vx_atS RX6 104 "java/lang/IndexOutOfBoundsException" cx_names, vx_ot w = true := by decide +kernel
  refine lv_iload_n hx hb dX6_set_0 rfl (lv_at hl 1 rfl) ?_
  refine cr_S (wr := []) (As := [.int k_]) (rest := []) ⟨hx, hb, hml, hown, hts⟩ (c_X6_isSetting G l k_ ) (va_cwS 1 hts gX6_set_X6_isSetting rfl rfl rfl (by decide +kernel) ⟨Nat.le_of_ble_eq_true rfl, Nat.le_of_ble_eq_true rfl⟩) dX6_set_1 hK hNX hP hD hS hA hl [] [] rfl rfl rfl rfl (by decide) rfl (Nat.le_of_ble_eq_true rfl) ⟨Nat.le_of_ble_eq_true rfl, Nat.le_of_ble_eq_true rfl⟩ rfl (fun v' w' Hq lcq hR' hP hD hS => ?_)
  obtain ⟨rfl, rfl⟩ := hR'
  have hP : va_P G.1 vwCl [] _ := hP.sub [] rfl
  have hD : va_D A [] := hD.sub [] (by decide +kernel) rfl
  refine ks_ifb_ne (tgt := 17) hx hb dX6_set_4 (by decide) (fun c_4 => ?_) (fun c_4 => ?_)
  · exact absurd c_4 h8
  · exact cx_throw hx hb hls hts hown hK hP hD hS hSX hXF hT hlocks hml hl (List.mem_of_getElem? (l := strL) (i := 8) rfl) (List.mem_of_getElem? (l := excL) (i := 2) rfl) (hts (.classLink RX6 100 "java/lang/IndexOutOfBoundsException") (List.mem_of_getElem? (i := 1) rfl)) (hts (.initialized "java/lang/IndexOutOfBoundsException") (List.mem_of_getElem? (i := 2) rfl)) (by decide +kernel) hi9_104 hn9_104 hg9_104 dX6_set_7 dX6_set_10 dX6_set_11 dX6_set_13 dX6_set_16 (Nat.le_of_ble_eq_true rfl) (Nat.le_of_ble_eq_true rfl) (Nat.le_of_ble_eq_true rfl) (Nat.le_of_ble_eq_true rfl) (Nat.le_of_ble_eq_true rfl) (Nat.le_of_ble_eq_true rfl)
set_option maxHeartbeats 4000000 in
set_option maxRecDepth 100000 in
theorem c_X6_set__t2 (G : GG) (l : Launch) (hls : l.stackTraces = false) (x_ : Nat) (y_ : Int32) (h8 : y_ < nI 1 ∨ ¬ y_ ≤ nI 20) : Cx G l yX6_set wsX6_set ({ frames := 6, cells := 1, slots := 6, locals := 112 }) [.ref x_, .int (nI 0), .int y_] [] E_iae := by
  refine cx_intro (cc := cX6_set) (maxL := 5) (ret := (some .int)) (own := RX6) (by decide) rfl rfl (Nat.le_of_ble_eq_true rfl) ?_
  intro p e s m args below meth c A hx hb hr hml hts hown hlocks hT hSX hXF hNX hP hK hD hA hS ls hl
  have hl : lv_has ls 5 [(0, .ref x_), (1, .int (nI 0)), (2, .int y_)] := hl
  have hi9_69 : ∀ w ∈ (vx_atS RX6 69 "java/lang/IllegalArgumentException" cx_names).filter goodWord, w ∈ wsX6_set := by decide +kernel
  have hn9_69 : ∀ w ∈ (vx_atS RX6 69 "java/lang/IllegalArgumentException" cx_names).filter (fun w => !goodWord w), w ∈ Cond.castable "java/lang/IllegalArgumentException" "java/lang/IllegalArgumentException" :: dcL.map Cond.declares := by decide +kernel
  have hg9_69 : ∀ w ∈ Cond.classLink RX6 65 "java/lang/IllegalArgumentException" :: Cond.initialized "java/lang/IllegalArgumentException" :: vx_atS RX6 69 "java/lang/IllegalArgumentException" cx_names, vx_ot w = true := by decide +kernel
  refine lv_iload_n hx hb dX6_set_0 rfl (lv_at hl 1 rfl) ?_
  refine cr_S (wr := []) (As := [.int (nI 0)]) (rest := []) ⟨hx, hb, hml, hown, hts⟩ (c_X6_isSetting G l (nI 0) ) (va_cwS 1 hts gX6_set_X6_isSetting rfl rfl rfl (by decide +kernel) ⟨Nat.le_of_ble_eq_true rfl, Nat.le_of_ble_eq_true rfl⟩) dX6_set_1 hK hNX hP hD hS hA hl [] [] rfl rfl rfl rfl (by decide) rfl (Nat.le_of_ble_eq_true rfl) ⟨Nat.le_of_ble_eq_true rfl, Nat.le_of_ble_eq_true rfl⟩ rfl (fun v' w' Hq lcq hR' hP hD hS => ?_)
  obtain ⟨rfl, rfl⟩ := hR'
  have hP : va_P G.1 vwCl [] _ := hP.sub [] rfl
  have hD : va_D A [] := hD.sub [] (by decide +kernel) rfl
  refine ks_ifb_ne (tgt := 17) hx hb dX6_set_4 (by decide) (fun c_4 => ?_) (fun c_4 => ?_)
  · refine lv_iload_n hx hb dX6_set_17 rfl (lv_at hl 1 rfl) ?_
    refine ks_if_ne (tgt := 26) hx hb dX6_set_18 (by decide) (by omega) (fun c_18 => ?_) (fun c_18 => ?_)
    · omega
    · refine lv_bipush (v := nI 20) hx hb dX6_set_21 (by decide) ?_
      refine lv_goto (tgt := 29) hx hb dX6_set_23 (by decide) ?_
      refine lv_istore_n (lv' := [(3, .int (nI 20)), (0, .ref x_), (1, .int (nI 0)), (2, .int y_)]) hx hb dX6_set_29 rfl hl (by decide) rfl (fun ls hl => ?_)
      refine lv_iload_n hx hb dX6_set_30 rfl (lv_at hl 3 rfl) ?_
      refine lv_iconst (v := nI 1) hx hb dX6_set_31 (by decide) ?_
      refine lv_icmp_lt (tgt := 40) hx hb dX6_set_32 (by decide) (fun c_32 => ?_) (fun c_32 => ?_)
      · exact cx_throw hx hb hls hts hown hK hP hD hS hSX hXF hT hlocks hml hl (List.mem_of_getElem? (l := strL) (i := 9) rfl) (List.mem_of_getElem? (l := excL) (i := 0) rfl) (hts (.classLink RX6 65 "java/lang/IllegalArgumentException") (List.mem_of_getElem? (i := 3) rfl)) (hts (.initialized "java/lang/IllegalArgumentException") (List.mem_of_getElem? (i := 4) rfl)) (by decide +kernel) hi9_69 hn9_69 hg9_69 dX6_set_40 dX6_set_43 dX6_set_44 dX6_set_46 dX6_set_49 (Nat.le_of_ble_eq_true rfl) (Nat.le_of_ble_eq_true rfl) (Nat.le_of_ble_eq_true rfl) (Nat.le_of_ble_eq_true rfl) (Nat.le_of_ble_eq_true rfl) (Nat.le_of_ble_eq_true rfl)
      · refine lv_iload_n hx hb dX6_set_35 rfl (lv_at hl 3 rfl) ?_
        refine lv_iload_n hx hb dX6_set_36 rfl (lv_at hl 0 rfl) ?_
        refine lv_icmp_le (tgt := 50) hx hb dX6_set_37 (by decide) (fun c_37 => ?_) (fun c_37 => ?_)
        · exact (h8.elim c_32 (fun z0 => ((fun z9 => z9 c_37) z0))).elim
        · exact cx_throw hx hb hls hts hown hK hP hD hS hSX hXF hT hlocks hml hl (List.mem_of_getElem? (l := strL) (i := 9) rfl) (List.mem_of_getElem? (l := excL) (i := 0) rfl) (hts (.classLink RX6 65 "java/lang/IllegalArgumentException") (List.mem_of_getElem? (i := 3) rfl)) (hts (.initialized "java/lang/IllegalArgumentException") (List.mem_of_getElem? (i := 4) rfl)) (by decide +kernel) hi9_69 hn9_69 hg9_69 dX6_set_40 dX6_set_43 dX6_set_44 dX6_set_46 dX6_set_49 (Nat.le_of_ble_eq_true rfl) (Nat.le_of_ble_eq_true rfl) (Nat.le_of_ble_eq_true rfl) (Nat.le_of_ble_eq_true rfl) (Nat.le_of_ble_eq_true rfl) (Nat.le_of_ble_eq_true rfl)
  · exact absurd ⟨by decide +kernel, by decide +kernel⟩ c_4
set_option maxHeartbeats 4000000 in
set_option maxRecDepth 100000 in
theorem c_X6_set__t3 (G : GG) (l : Launch) (hls : l.stackTraces = false) (x_ : Nat) (y_ : Int32) (h8 : y_ < nI 1 ∨ ¬ y_ ≤ nI 999) : Cx G l yX6_set wsX6_set ({ frames := 6, cells := 1, slots := 6, locals := 112 }) [.ref x_, .int (nI 1), .int y_] [] E_iae := by
  refine cx_intro (cc := cX6_set) (maxL := 5) (ret := (some .int)) (own := RX6) (by decide) rfl rfl (Nat.le_of_ble_eq_true rfl) ?_
  intro p e s m args below meth c A hx hb hr hml hts hown hlocks hT hSX hXF hNX hP hK hD hA hS ls hl
  have hl : lv_has ls 5 [(0, .ref x_), (1, .int (nI 1)), (2, .int y_)] := hl
  have hi9_69 : ∀ w ∈ (vx_atS RX6 69 "java/lang/IllegalArgumentException" cx_names).filter goodWord, w ∈ wsX6_set := by decide +kernel
  have hn9_69 : ∀ w ∈ (vx_atS RX6 69 "java/lang/IllegalArgumentException" cx_names).filter (fun w => !goodWord w), w ∈ Cond.castable "java/lang/IllegalArgumentException" "java/lang/IllegalArgumentException" :: dcL.map Cond.declares := by decide +kernel
  have hg9_69 : ∀ w ∈ Cond.classLink RX6 65 "java/lang/IllegalArgumentException" :: Cond.initialized "java/lang/IllegalArgumentException" :: vx_atS RX6 69 "java/lang/IllegalArgumentException" cx_names, vx_ot w = true := by decide +kernel
  refine lv_iload_n hx hb dX6_set_0 rfl (lv_at hl 1 rfl) ?_
  refine cr_S (wr := []) (As := [.int (nI 1)]) (rest := []) ⟨hx, hb, hml, hown, hts⟩ (c_X6_isSetting G l (nI 1) ) (va_cwS 1 hts gX6_set_X6_isSetting rfl rfl rfl (by decide +kernel) ⟨Nat.le_of_ble_eq_true rfl, Nat.le_of_ble_eq_true rfl⟩) dX6_set_1 hK hNX hP hD hS hA hl [] [] rfl rfl rfl rfl (by decide) rfl (Nat.le_of_ble_eq_true rfl) ⟨Nat.le_of_ble_eq_true rfl, Nat.le_of_ble_eq_true rfl⟩ rfl (fun v' w' Hq lcq hR' hP hD hS => ?_)
  obtain ⟨rfl, rfl⟩ := hR'
  have hP : va_P G.1 vwCl [] _ := hP.sub [] rfl
  have hD : va_D A [] := hD.sub [] (by decide +kernel) rfl
  refine ks_ifb_ne (tgt := 17) hx hb dX6_set_4 (by decide) (fun c_4 => ?_) (fun c_4 => ?_)
  · refine lv_iload_n hx hb dX6_set_17 rfl (lv_at hl 1 rfl) ?_
    refine ks_if_ne (tgt := 26) hx hb dX6_set_18 (by decide) (by omega) (fun c_18 => ?_) (fun c_18 => ?_)
    · refine lv_sipush (v := nI 999) hx hb dX6_set_26 (by decide) ?_
      refine lv_istore_n (lv' := [(3, .int (nI 999)), (0, .ref x_), (1, .int (nI 1)), (2, .int y_)]) hx hb dX6_set_29 rfl hl (by decide) rfl (fun ls hl => ?_)
      refine lv_iload_n hx hb dX6_set_30 rfl (lv_at hl 3 rfl) ?_
      refine lv_iconst (v := nI 1) hx hb dX6_set_31 (by decide) ?_
      refine lv_icmp_lt (tgt := 40) hx hb dX6_set_32 (by decide) (fun c_32 => ?_) (fun c_32 => ?_)
      · exact cx_throw hx hb hls hts hown hK hP hD hS hSX hXF hT hlocks hml hl (List.mem_of_getElem? (l := strL) (i := 9) rfl) (List.mem_of_getElem? (l := excL) (i := 0) rfl) (hts (.classLink RX6 65 "java/lang/IllegalArgumentException") (List.mem_of_getElem? (i := 3) rfl)) (hts (.initialized "java/lang/IllegalArgumentException") (List.mem_of_getElem? (i := 4) rfl)) (by decide +kernel) hi9_69 hn9_69 hg9_69 dX6_set_40 dX6_set_43 dX6_set_44 dX6_set_46 dX6_set_49 (Nat.le_of_ble_eq_true rfl) (Nat.le_of_ble_eq_true rfl) (Nat.le_of_ble_eq_true rfl) (Nat.le_of_ble_eq_true rfl) (Nat.le_of_ble_eq_true rfl) (Nat.le_of_ble_eq_true rfl)
      · refine lv_iload_n hx hb dX6_set_35 rfl (lv_at hl 3 rfl) ?_
        refine lv_iload_n hx hb dX6_set_36 rfl (lv_at hl 0 rfl) ?_
        refine lv_icmp_le (tgt := 50) hx hb dX6_set_37 (by decide) (fun c_37 => ?_) (fun c_37 => ?_)
        · exact (h8.elim c_32 (fun z0 => ((fun z9 => z9 c_37) z0))).elim
        · exact cx_throw hx hb hls hts hown hK hP hD hS hSX hXF hT hlocks hml hl (List.mem_of_getElem? (l := strL) (i := 9) rfl) (List.mem_of_getElem? (l := excL) (i := 0) rfl) (hts (.classLink RX6 65 "java/lang/IllegalArgumentException") (List.mem_of_getElem? (i := 3) rfl)) (hts (.initialized "java/lang/IllegalArgumentException") (List.mem_of_getElem? (i := 4) rfl)) (by decide +kernel) hi9_69 hn9_69 hg9_69 dX6_set_40 dX6_set_43 dX6_set_44 dX6_set_46 dX6_set_49 (Nat.le_of_ble_eq_true rfl) (Nat.le_of_ble_eq_true rfl) (Nat.le_of_ble_eq_true rfl) (Nat.le_of_ble_eq_true rfl) (Nat.le_of_ble_eq_true rfl) (Nat.le_of_ble_eq_true rfl)
    · omega
  · exact absurd ⟨by decide +kernel, by decide +kernel⟩ c_4
set_option maxHeartbeats 4000000 in
set_option maxRecDepth 100000 in
theorem c_X6_setting__t1 (G : GG) (l : Launch) (hls : l.stackTraces = false) (x_ : Nat) (k_ : Int32) (h8 : ¬ (¬ k_ < 0 ∧ ¬ nI 2 ≤ k_)) : Cx G l yX6_setting wsX6_setting ({ frames := 6, cells := 1, slots := 6, locals := 112 }) [.ref x_, .int k_] [] E_ioo := by
  refine cx_intro (cc := cX6_setting) (maxL := 2) (ret := (some .int)) (own := RX6) (by decide) rfl rfl (Nat.le_of_ble_eq_true rfl) ?_
  intro p e s m args below meth c A hx hb hr hml hts hown hlocks hT hSX hXF hNX hP hK hD hA hS ls hl
  have hl : lv_has ls 2 [(0, .ref x_), (1, .int k_)] := hl
  have hi9_104 : ∀ w ∈ (vx_atS RX6 104 "java/lang/IndexOutOfBoundsException" cx_names).filter goodWord, w ∈ wsX6_setting := by decide +kernel
  have hn9_104 : ∀ w ∈ (vx_atS RX6 104 "java/lang/IndexOutOfBoundsException" cx_names).filter (fun w => !goodWord w), w ∈ Cond.castable "java/lang/IndexOutOfBoundsException" "java/lang/IndexOutOfBoundsException" :: dcL.map Cond.declares := by decide +kernel
  have hg9_104 : ∀ w ∈ Cond.classLink RX6 100 "java/lang/IndexOutOfBoundsException" :: Cond.initialized "java/lang/IndexOutOfBoundsException" :: vx_atS RX6 104 "java/lang/IndexOutOfBoundsException" cx_names, vx_ot w = true := by decide +kernel
  refine lv_iload_n hx hb dX6_setting_0 rfl (lv_at hl 1 rfl) ?_
  refine cr_S (wr := []) (As := [.int k_]) (rest := []) ⟨hx, hb, hml, hown, hts⟩ (c_X6_isSetting G l k_ ) (va_cwS 1 hts gX6_setting_X6_isSetting rfl rfl rfl (by decide +kernel) ⟨Nat.le_of_ble_eq_true rfl, Nat.le_of_ble_eq_true rfl⟩) dX6_setting_1 hK hNX hP hD hS hA hl [] [] rfl rfl rfl rfl (by decide) rfl (Nat.le_of_ble_eq_true rfl) ⟨Nat.le_of_ble_eq_true rfl, Nat.le_of_ble_eq_true rfl⟩ rfl (fun v' w' Hq lcq hR' hP hD hS => ?_)
  obtain ⟨rfl, rfl⟩ := hR'
  have hP : va_P G.1 vwCl [] _ := hP.sub [] rfl
  have hD : va_D A [] := hD.sub [] (by decide +kernel) rfl
  refine ks_ifb_ne (tgt := 17) hx hb dX6_setting_4 (by decide) (fun c_4 => ?_) (fun c_4 => ?_)
  · exact absurd c_4 h8
  · exact cx_throw hx hb hls hts hown hK hP hD hS hSX hXF hT hlocks hml hl (List.mem_of_getElem? (l := strL) (i := 8) rfl) (List.mem_of_getElem? (l := excL) (i := 2) rfl) (hts (.classLink RX6 100 "java/lang/IndexOutOfBoundsException") (List.mem_of_getElem? (i := 1) rfl)) (hts (.initialized "java/lang/IndexOutOfBoundsException") (List.mem_of_getElem? (i := 2) rfl)) (by decide +kernel) hi9_104 hn9_104 hg9_104 dX6_setting_7 dX6_setting_10 dX6_setting_11 dX6_setting_13 dX6_setting_16 (Nat.le_of_ble_eq_true rfl) (Nat.le_of_ble_eq_true rfl) (Nat.le_of_ble_eq_true rfl) (Nat.le_of_ble_eq_true rfl) (Nat.le_of_ble_eq_true rfl) (Nat.le_of_ble_eq_true rfl)
set_option maxHeartbeats 4000000 in
set_option maxRecDepth 100000 in
theorem c_X6_slip__t1 (G : GG) (l : Launch) (hls : l.stackTraces = false) (x_ : Nat) (k_ : Int32) (u_ : Int32) (y_ : Int32) (h8 : ¬ (¬ k_ < 0 ∧ ¬ nI 6 ≤ k_)) : Cx G l yX6_slip wsX6_slip ({ frames := 6, cells := 1, slots := 6, locals := 112 }) [.ref x_, .int k_, .int u_, .int y_] [] E_ioo := by
  refine cx_intro (cc := cX6_slip) (maxL := 6) (ret := (some .long)) (own := RX6) (by decide) rfl rfl (Nat.le_of_ble_eq_true rfl) ?_
  intro p e s m args below meth c A hx hb hr hml hts hown hlocks hT hSX hXF hNX hP hK hD hA hS ls hl
  have hl : lv_has ls 6 [(0, .ref x_), (1, .int k_), (2, .int u_), (3, .int y_)] := hl
  have hi9_104 : ∀ w ∈ (vx_atS RX6 104 "java/lang/IndexOutOfBoundsException" cx_names).filter goodWord, w ∈ wsX6_slip := by decide +kernel
  have hn9_104 : ∀ w ∈ (vx_atS RX6 104 "java/lang/IndexOutOfBoundsException" cx_names).filter (fun w => !goodWord w), w ∈ Cond.castable "java/lang/IndexOutOfBoundsException" "java/lang/IndexOutOfBoundsException" :: dcL.map Cond.declares := by decide +kernel
  have hg9_104 : ∀ w ∈ Cond.classLink RX6 100 "java/lang/IndexOutOfBoundsException" :: Cond.initialized "java/lang/IndexOutOfBoundsException" :: vx_atS RX6 104 "java/lang/IndexOutOfBoundsException" cx_names, vx_ot w = true := by decide +kernel
  refine lv_iload_n hx hb dX6_slip_0 rfl (lv_at hl 1 rfl) ?_
  refine cr_S (wr := []) (As := [.int k_]) (rest := []) ⟨hx, hb, hml, hown, hts⟩ (c_X6_isRegister G l k_ ) (va_cwS 1 hts gX6_slip_X6_isRegister rfl rfl rfl (by decide +kernel) ⟨Nat.le_of_ble_eq_true rfl, Nat.le_of_ble_eq_true rfl⟩) dX6_slip_1 hK hNX hP hD hS hA hl [] [] rfl rfl rfl rfl (by decide) rfl (Nat.le_of_ble_eq_true rfl) ⟨Nat.le_of_ble_eq_true rfl, Nat.le_of_ble_eq_true rfl⟩ rfl (fun v' w' Hq lcq hR' hP hD hS => ?_)
  obtain ⟨rfl, rfl⟩ := hR'
  have hP : va_P G.1 vwCl [] _ := hP.sub [] rfl
  have hD : va_D A [] := hD.sub [] (by decide +kernel) rfl
  refine ks_ifb_ne (tgt := 17) hx hb dX6_slip_4 (by decide) (fun c_4 => ?_) (fun c_4 => ?_)
  · exact absurd c_4 h8
  · exact cx_throw hx hb hls hts hown hK hP hD hS hSX hXF hT hlocks hml hl (List.mem_of_getElem? (l := strL) (i := 3) rfl) (List.mem_of_getElem? (l := excL) (i := 2) rfl) (hts (.classLink RX6 100 "java/lang/IndexOutOfBoundsException") (List.mem_of_getElem? (i := 1) rfl)) (hts (.initialized "java/lang/IndexOutOfBoundsException") (List.mem_of_getElem? (i := 2) rfl)) (by decide +kernel) hi9_104 hn9_104 hg9_104 dX6_slip_7 dX6_slip_10 dX6_slip_11 dX6_slip_13 dX6_slip_16 (Nat.le_of_ble_eq_true rfl) (Nat.le_of_ble_eq_true rfl) (Nat.le_of_ble_eq_true rfl) (Nat.le_of_ble_eq_true rfl) (Nat.le_of_ble_eq_true rfl) (Nat.le_of_ble_eq_true rfl)
set_option maxHeartbeats 4000000 in
set_option maxRecDepth 100000 in
theorem c_X6_slip__t2 (G : GG) (l : Launch) (hls : l.stackTraces = false) (x_ : Nat) (k_ : Int32) (u_ : Int32) (y_ : Int32) (j1 : ¬ k_ < 0 ∧ ¬ nI 6 ≤ k_) (h8 : u_ < 0 ∨ nI 10 ≤ u_ ∨ y_ < -9 ∨ ¬ y_ ≤ nI 9) : Cx G l yX6_slip wsX6_slip ({ frames := 6, cells := 1, slots := 6, locals := 112 }) [.ref x_, .int k_, .int u_, .int y_] [] E_iae := by
  refine cx_intro (cc := cX6_slip) (maxL := 6) (ret := (some .long)) (own := RX6) (by decide) rfl rfl (Nat.le_of_ble_eq_true rfl) ?_
  intro p e s m args below meth c A hx hb hr hml hts hown hlocks hT hSX hXF hNX hP hK hD hA hS ls hl
  have hl : lv_has ls 6 [(0, .ref x_), (1, .int k_), (2, .int u_), (3, .int y_)] := hl
  have hi9_69 : ∀ w ∈ (vx_atS RX6 69 "java/lang/IllegalArgumentException" cx_names).filter goodWord, w ∈ wsX6_slip := by decide +kernel
  have hn9_69 : ∀ w ∈ (vx_atS RX6 69 "java/lang/IllegalArgumentException" cx_names).filter (fun w => !goodWord w), w ∈ Cond.castable "java/lang/IllegalArgumentException" "java/lang/IllegalArgumentException" :: dcL.map Cond.declares := by decide +kernel
  have hg9_69 : ∀ w ∈ Cond.classLink RX6 65 "java/lang/IllegalArgumentException" :: Cond.initialized "java/lang/IllegalArgumentException" :: vx_atS RX6 69 "java/lang/IllegalArgumentException" cx_names, vx_ot w = true := by decide +kernel
  refine lv_iload_n hx hb dX6_slip_0 rfl (lv_at hl 1 rfl) ?_
  refine cr_S (wr := []) (As := [.int k_]) (rest := []) ⟨hx, hb, hml, hown, hts⟩ (c_X6_isRegister G l k_ ) (va_cwS 1 hts gX6_slip_X6_isRegister rfl rfl rfl (by decide +kernel) ⟨Nat.le_of_ble_eq_true rfl, Nat.le_of_ble_eq_true rfl⟩) dX6_slip_1 hK hNX hP hD hS hA hl [] [] rfl rfl rfl rfl (by decide) rfl (Nat.le_of_ble_eq_true rfl) ⟨Nat.le_of_ble_eq_true rfl, Nat.le_of_ble_eq_true rfl⟩ rfl (fun v' w' Hq lcq hR' hP hD hS => ?_)
  obtain ⟨rfl, rfl⟩ := hR'
  have hP : va_P G.1 vwCl [] _ := hP.sub [] rfl
  have hD : va_D A [] := hD.sub [] (by decide +kernel) rfl
  refine ks_ifb_ne (tgt := 17) hx hb dX6_slip_4 (by decide) (fun c_4 => ?_) (fun c_4 => ?_)
  · refine lv_iload_n hx hb dX6_slip_17 rfl (lv_at hl 2 rfl) ?_
    refine lv_if_lt (tgt := 39) hx hb dX6_slip_18 (by decide) (fun c_18 => ?_) (fun c_18 => ?_)
    · exact cx_throw hx hb hls hts hown hK hP hD hS hSX hXF hT hlocks hml hl (List.mem_of_getElem? (l := strL) (i := 4) rfl) (List.mem_of_getElem? (l := excL) (i := 0) rfl) (hts (.classLink RX6 65 "java/lang/IllegalArgumentException") (List.mem_of_getElem? (i := 3) rfl)) (hts (.initialized "java/lang/IllegalArgumentException") (List.mem_of_getElem? (i := 4) rfl)) (by decide +kernel) hi9_69 hn9_69 hg9_69 dX6_slip_39 dX6_slip_42 dX6_slip_43 dX6_slip_45 dX6_slip_48 (Nat.le_of_ble_eq_true rfl) (Nat.le_of_ble_eq_true rfl) (Nat.le_of_ble_eq_true rfl) (Nat.le_of_ble_eq_true rfl) (Nat.le_of_ble_eq_true rfl) (Nat.le_of_ble_eq_true rfl)
    · refine lv_iload_n hx hb dX6_slip_21 rfl (lv_at hl 2 rfl) ?_
      refine lv_bipush (v := nI 10) hx hb dX6_slip_22 (by decide) ?_
      refine lv_icmp_ge (tgt := 39) hx hb dX6_slip_24 (by decide) (fun c_24 => ?_) (fun c_24 => ?_)
      · exact cx_throw hx hb hls hts hown hK hP hD hS hSX hXF hT hlocks hml hl (List.mem_of_getElem? (l := strL) (i := 4) rfl) (List.mem_of_getElem? (l := excL) (i := 0) rfl) (hts (.classLink RX6 65 "java/lang/IllegalArgumentException") (List.mem_of_getElem? (i := 3) rfl)) (hts (.initialized "java/lang/IllegalArgumentException") (List.mem_of_getElem? (i := 4) rfl)) (by decide +kernel) hi9_69 hn9_69 hg9_69 dX6_slip_39 dX6_slip_42 dX6_slip_43 dX6_slip_45 dX6_slip_48 (Nat.le_of_ble_eq_true rfl) (Nat.le_of_ble_eq_true rfl) (Nat.le_of_ble_eq_true rfl) (Nat.le_of_ble_eq_true rfl) (Nat.le_of_ble_eq_true rfl) (Nat.le_of_ble_eq_true rfl)
      · refine lv_iload_n hx hb dX6_slip_27 rfl (lv_at hl 3 rfl) ?_
        refine lv_bipush (v := (-9)) hx hb dX6_slip_28 (by decide) ?_
        refine lv_icmp_lt (tgt := 39) hx hb dX6_slip_30 (by decide) (fun c_30 => ?_) (fun c_30 => ?_)
        · exact cx_throw hx hb hls hts hown hK hP hD hS hSX hXF hT hlocks hml hl (List.mem_of_getElem? (l := strL) (i := 4) rfl) (List.mem_of_getElem? (l := excL) (i := 0) rfl) (hts (.classLink RX6 65 "java/lang/IllegalArgumentException") (List.mem_of_getElem? (i := 3) rfl)) (hts (.initialized "java/lang/IllegalArgumentException") (List.mem_of_getElem? (i := 4) rfl)) (by decide +kernel) hi9_69 hn9_69 hg9_69 dX6_slip_39 dX6_slip_42 dX6_slip_43 dX6_slip_45 dX6_slip_48 (Nat.le_of_ble_eq_true rfl) (Nat.le_of_ble_eq_true rfl) (Nat.le_of_ble_eq_true rfl) (Nat.le_of_ble_eq_true rfl) (Nat.le_of_ble_eq_true rfl) (Nat.le_of_ble_eq_true rfl)
        · refine lv_iload_n hx hb dX6_slip_33 rfl (lv_at hl 3 rfl) ?_
          refine lv_bipush (v := nI 9) hx hb dX6_slip_34 (by decide) ?_
          refine lv_icmp_le (tgt := 49) hx hb dX6_slip_36 (by decide) (fun c_36 => ?_) (fun c_36 => ?_)
          · exact (h8.elim c_18 (fun z0 => (z0.elim c_24 (fun z1 => (z1.elim c_30 (fun z2 => ((fun z9 => z9 c_36) z2))))))).elim
          · exact cx_throw hx hb hls hts hown hK hP hD hS hSX hXF hT hlocks hml hl (List.mem_of_getElem? (l := strL) (i := 4) rfl) (List.mem_of_getElem? (l := excL) (i := 0) rfl) (hts (.classLink RX6 65 "java/lang/IllegalArgumentException") (List.mem_of_getElem? (i := 3) rfl)) (hts (.initialized "java/lang/IllegalArgumentException") (List.mem_of_getElem? (i := 4) rfl)) (by decide +kernel) hi9_69 hn9_69 hg9_69 dX6_slip_39 dX6_slip_42 dX6_slip_43 dX6_slip_45 dX6_slip_48 (Nat.le_of_ble_eq_true rfl) (Nat.le_of_ble_eq_true rfl) (Nat.le_of_ble_eq_true rfl) (Nat.le_of_ble_eq_true rfl) (Nat.le_of_ble_eq_true rfl) (Nat.le_of_ble_eq_true rfl)
  · exact absurd j1 c_4
set_option maxHeartbeats 4000000 in
set_option maxRecDepth 100000 in
theorem c_X6_slip__t3 (G : GG) (l : Launch) (hls : l.stackTraces = false) (x_ : Nat) (a_ : Nat → Nat) (o : Nat → Nat) (T : TS) (j_ : Nat) (k_ : Nat) (y_ : Int32) (jj : j_ < 6) (jk : k_ < 10) (jy1 : ¬ y_ < -9) (jy2 : y_ ≤ nI 9) (h8 : ¬ (-99999999999 ≤ T.r j_ + slA y_ k_ ∧ T.r j_ + slA y_ k_ ≤ lN 99999999999)) : Cx G l yX6_slip wsX6_slip ({ frames := 6, cells := 1, slots := 6, locals := 112 }) [.ref x_, .int (nI j_), .int (nI k_), .int y_] [(x_, .inr (6, [.ref (a_ 0), .ref (o 0), .ref (o 2), .ref (o 4), .ref (o 6), .ref (o 8), .ref (o 10)])), (a_ 0, .inr (4, [.int (nI (T.s 2)), .int (nI (T.s 3)), .int (nI (T.s 4)), .int (nI (T.s 0)), .int (nI (T.s 6)), .ref (a_ 1), .ref (a_ 2), .ref (a_ 3), .ref (a_ 4), .ref (a_ 6)])), (a_ 4, .inr (2, [.ref (a_ 5)])), (a_ 5, .inl (G.2.2.1, 6, .inr (.inl (T.r))))] E_ise := by
  refine cx_intro (cc := cX6_slip) (maxL := 6) (ret := (some .long)) (own := RX6) (by decide) rfl rfl (Nat.le_of_ble_eq_true rfl) ?_
  intro p e s m args below meth c A hx hb hr hml hts hown hlocks hT hSX hXF hNX hP hK hD hA hS ls hl
  have hl : lv_has ls 6 [(0, .ref x_), (1, .int (nI j_)), (2, .int (nI k_)), (3, .int y_)] := hl
  have hin4 : ∀ w ∈ u_ws RX4 TX4 10, w ∈ wsX6_slip := fun w h => List.mem_cons_of_mem _ (List.mem_append_left _ (List.mem_append_left _ (List.mem_append_left _ (List.mem_append_left _ (List.mem_append_left _ (List.mem_append_left _ (List.mem_append_right _ h)))))))
  have hin6 : ∀ w ∈ u_ws RX6 TX6 7, w ∈ wsX6_slip := fun w h => List.mem_cons_of_mem _ (List.mem_append_left _ (List.mem_append_left _ (List.mem_append_left _ (List.mem_append_left _ (List.mem_append_left _ (List.mem_append_left _ (List.mem_append_left _ (List.mem_append_right _ h))))))))
  have hi9_92 : ∀ w ∈ (vx_atS RX6 92 "java/lang/IllegalStateException" cx_names).filter goodWord, w ∈ wsX6_slip := by decide +kernel
  have hn9_92 : ∀ w ∈ (vx_atS RX6 92 "java/lang/IllegalStateException" cx_names).filter (fun w => !goodWord w), w ∈ Cond.castable "java/lang/IllegalStateException" "java/lang/IllegalStateException" :: dcL.map Cond.declares := by decide +kernel
  have hg9_92 : ∀ w ∈ Cond.classLink RX6 88 "java/lang/IllegalStateException" :: Cond.initialized "java/lang/IllegalStateException" :: vx_atS RX6 92 "java/lang/IllegalStateException" cx_names, vx_ot w = true := by decide +kernel
  refine lv_iload_n hx hb dX6_slip_0 rfl (lv_at hl 1 rfl) ?_
  refine cr_S (wr := [(x_, .inr (6, [.ref (a_ 0), .ref (o 0), .ref (o 2), .ref (o 4), .ref (o 6), .ref (o 8), .ref (o 10)])), (a_ 0, .inr (4, [.int (nI (T.s 2)), .int (nI (T.s 3)), .int (nI (T.s 4)), .int (nI (T.s 0)), .int (nI (T.s 6)), .ref (a_ 1), .ref (a_ 2), .ref (a_ 3), .ref (a_ 4), .ref (a_ 6)])), (a_ 4, .inr (2, [.ref (a_ 5)])), (a_ 5, .inl (G.2.2.1, 6, .inr (.inl (T.r))))]) (As := [.int (nI j_)]) (rest := []) ⟨hx, hb, hml, hown, hts⟩ (c_X6_isRegister G l (nI j_) ) (va_cwS 1 hts gX6_slip_X6_isRegister rfl rfl rfl (by decide +kernel) ⟨Nat.le_of_ble_eq_true rfl, Nat.le_of_ble_eq_true rfl⟩) dX6_slip_1 hK hNX hP hD hS hA hl [] [0, 1, 2, 3] rfl rfl rfl rfl (by decide) rfl (Nat.le_of_ble_eq_true rfl) ⟨Nat.le_of_ble_eq_true rfl, Nat.le_of_ble_eq_true rfl⟩ rfl (fun v' w' Hq lcq hR' hP hD hS => ?_)
  obtain ⟨rfl, rfl⟩ := hR'
  have hP : va_P G.1 vwCl [(x_, .inr (6, [.ref (a_ 0), .ref (o 0), .ref (o 2), .ref (o 4), .ref (o 6), .ref (o 8), .ref (o 10)])), (a_ 0, .inr (4, [.int (nI (T.s 2)), .int (nI (T.s 3)), .int (nI (T.s 4)), .int (nI (T.s 0)), .int (nI (T.s 6)), .ref (a_ 1), .ref (a_ 2), .ref (a_ 3), .ref (a_ 4), .ref (a_ 6)])), (a_ 4, .inr (2, [.ref (a_ 5)])), (a_ 5, .inl (G.2.2.1, 6, .inr (.inl (T.r))))] _ := hP.sub [0, 1, 2, 3] rfl
  have hD : va_D A [(x_, .inr (6, [.ref (a_ 0), .ref (o 0), .ref (o 2), .ref (o 4), .ref (o 6), .ref (o 8), .ref (o 10)])), (a_ 0, .inr (4, [.int (nI (T.s 2)), .int (nI (T.s 3)), .int (nI (T.s 4)), .int (nI (T.s 0)), .int (nI (T.s 6)), .ref (a_ 1), .ref (a_ 2), .ref (a_ 3), .ref (a_ 4), .ref (a_ 6)])), (a_ 4, .inr (2, [.ref (a_ 5)])), (a_ 5, .inl (G.2.2.1, 6, .inr (.inl (T.r))))] := hD.sub [0, 1, 2, 3] (by decide +kernel) rfl
  refine ks_ifb_ne (tgt := 17) hx hb dX6_slip_4 (by decide) (fun c_4 => ?_) (fun c_4 => ?_)
  · refine lv_iload_n hx hb dX6_slip_17 rfl (lv_at hl 2 rfl) ?_
    refine ks_if_lt (tgt := 39) hx hb dX6_slip_18 (by decide) (by omega) ?_
    refine lv_iload_n hx hb dX6_slip_21 rfl (lv_at hl 2 rfl) ?_
    refine lv_bipush (v := nI 10) hx hb dX6_slip_22 (by decide) ?_
    refine ks_icmp_ge (tgt := 39) hx hb dX6_slip_24 (by decide) (by omega) (by omega) (fun c_24 => ?_) (fun c_24 => ?_)
    · omega
    · refine lv_iload_n hx hb dX6_slip_27 rfl (lv_at hl 3 rfl) ?_
      refine lv_bipush (v := (-9)) hx hb dX6_slip_28 (by decide) ?_
      refine lv_icmp_lt (tgt := 39) hx hb dX6_slip_30 (by decide) (fun c_30 => ?_) (fun c_30 => ?_)
      · exact absurd c_30 jy1
      · refine lv_iload_n hx hb dX6_slip_33 rfl (lv_at hl 3 rfl) ?_
        refine lv_bipush (v := nI 9) hx hb dX6_slip_34 (by decide) ?_
        refine lv_icmp_le (tgt := 49) hx hb dX6_slip_36 (by decide) (fun c_36 => ?_) (fun c_36 => ?_)
        · refine lv_iload_n hx hb dX6_slip_49 rfl (lv_at hl 3 rfl) ?_
          refine lv_i2l hx hb dX6_slip_50 rfl ?_
          refine lv_iload_n hx hb dX6_slip_51 rfl (lv_at hl 2 rfl) ?_
          refine cr_S (wr := [(x_, .inr (6, [.ref (a_ 0), .ref (o 0), .ref (o 2), .ref (o 4), .ref (o 6), .ref (o 8), .ref (o 10)])), (a_ 0, .inr (4, [.int (nI (T.s 2)), .int (nI (T.s 3)), .int (nI (T.s 4)), .int (nI (T.s 0)), .int (nI (T.s 6)), .ref (a_ 1), .ref (a_ 2), .ref (a_ 3), .ref (a_ 4), .ref (a_ 6)])), (a_ 4, .inr (2, [.ref (a_ 5)])), (a_ 5, .inl (G.2.2.1, 6, .inr (.inl (T.r))))]) (As := [.int (nI k_)]) (rest := [.long y_.toInt64]) ⟨hx, hb, hml, hown, hts⟩ (c_X6_tenToThe G l k_ (by omega)) (va_cwS 1 hts gX6_slip_X6_tenToThe rfl rfl rfl (by decide +kernel) ⟨Nat.le_of_ble_eq_true rfl, Nat.le_of_ble_eq_true rfl⟩) dX6_slip_52 hK hNX hP hD hS hA hl [] [0, 1, 2, 3] rfl rfl rfl rfl (by decide) rfl (Nat.le_of_ble_eq_true rfl) ⟨Nat.le_of_ble_eq_true rfl, Nat.le_of_ble_eq_true rfl⟩ rfl (fun v' w' Hq lcq hR' hP hD hS => ?_)
          obtain ⟨rfl, rfl⟩ := hR'
          have hP : va_P G.1 vwCl [(x_, .inr (6, [.ref (a_ 0), .ref (o 0), .ref (o 2), .ref (o 4), .ref (o 6), .ref (o 8), .ref (o 10)])), (a_ 0, .inr (4, [.int (nI (T.s 2)), .int (nI (T.s 3)), .int (nI (T.s 4)), .int (nI (T.s 0)), .int (nI (T.s 6)), .ref (a_ 1), .ref (a_ 2), .ref (a_ 3), .ref (a_ 4), .ref (a_ 6)])), (a_ 4, .inr (2, [.ref (a_ 5)])), (a_ 5, .inl (G.2.2.1, 6, .inr (.inl (T.r))))] _ := hP.sub [0, 1, 2, 3] rfl
          have hD : va_D A [(x_, .inr (6, [.ref (a_ 0), .ref (o 0), .ref (o 2), .ref (o 4), .ref (o 6), .ref (o 8), .ref (o 10)])), (a_ 0, .inr (4, [.int (nI (T.s 2)), .int (nI (T.s 3)), .int (nI (T.s 4)), .int (nI (T.s 0)), .int (nI (T.s 6)), .ref (a_ 1), .ref (a_ 2), .ref (a_ 3), .ref (a_ 4), .ref (a_ 6)])), (a_ 4, .inr (2, [.ref (a_ 5)])), (a_ 5, .inl (G.2.2.1, 6, .inr (.inl (T.r))))] := hD.sub [0, 1, 2, 3] (by decide +kernel) rfl
          refine lv_lmul hx hb dX6_slip_55 ?_
          refine ks_vL (show y_.toInt64 * (pwr (lN 10) k_) = slA y_ k_ from rfl) ?_
          refine lv_lstore (lv' := [(4, .long (slA y_ k_)), (0, .ref x_), (1, .int (nI j_)), (2, .int (nI k_)), (3, .int y_)]) hx hb dX6_slip_56 hl (by decide) rfl (fun ls hl => ?_)
          refine lv_aload_n hx hb dX6_slip_58 rfl (lv_at hl 1 rfl) ?_
          refine va_get (D := G.1) (ci := 6) (v := .ref (a_ 0)) (C := RX6) (T := TX6) (N := 7) hx hb hts hin6 hown hK hP 0 rfl rfl 0 (by decide) (hts (.fieldLink RX6 10 "PowerTables" "table" "LPowerTables$Table;") (List.mem_of_getElem? (i := 7) rfl)) (fun _ h9 => h9) rfl dX6_slip_59 ?_
          refine va_getN (D := G.1) (ci := 4) (v := .ref (a_ 4)) (C := RX4) (T := TX4) (N := 10) hx hb hts hin4 hown hK hP 1 rfl rfl 8 (by decide) (va_Nw.use rfl (hNX.1 (58, "PowerTables$Table", "registers", "LPowerTables$Registers;") (List.mem_of_getElem? (i := 13) rfl))) (fun _ h9 => h9) rfl dX6_slip_62 ?_
          refine lv_iload_n hx hb dX6_slip_65 rfl (lv_at hl 2 rfl) ?_
          refine lv_lload hx hb dX6_slip_66 (lv_at hl 0 rfl) ?_
          refine cr_V (wr := [(x_, .inr (6, [.ref (a_ 0), .ref (o 0), .ref (o 2), .ref (o 4), .ref (o 6), .ref (o 8), .ref (o 10)])), (a_ 0, .inr (4, [.int (nI (T.s 2)), .int (nI (T.s 3)), .int (nI (T.s 4)), .int (nI (T.s 0)), .int (nI (T.s 6)), .ref (a_ 1), .ref (a_ 2), .ref (a_ 3), .ref (a_ 4), .ref (a_ 6)]))]) (As := [.int (nI j_), .long (slA y_ k_)]) (rest := []) ⟨hx, hb, hml, hown, hts⟩ (c_X2_canTake G l (a_ 4) (a_ 5) T.r j_ (slA y_ k_) (by omega)) (cwV 2 hts gX6_slip_X2_canTake rfl rfl rfl (by decide +kernel) ⟨Nat.le_of_ble_eq_true rfl, Nat.le_of_ble_eq_true rfl⟩) dX6_slip_68 hK hNX hP hD hS hA hl 2 2 rfl rfl rfl [2, 3] [0, 1] rfl rfl rfl rfl (by decide) rfl (Nat.le_of_ble_eq_true rfl) ⟨Nat.le_of_ble_eq_true rfl, Nat.le_of_ble_eq_true rfl⟩ rfl (fun v' w' Hq lcq hR' hP hD hS => ?_)
          obtain ⟨rfl, rfl⟩ := hR'
          have hP : va_P G.1 vwCl [(x_, .inr (6, [.ref (a_ 0), .ref (o 0), .ref (o 2), .ref (o 4), .ref (o 6), .ref (o 8), .ref (o 10)])), (a_ 0, .inr (4, [.int (nI (T.s 2)), .int (nI (T.s 3)), .int (nI (T.s 4)), .int (nI (T.s 0)), .int (nI (T.s 6)), .ref (a_ 1), .ref (a_ 2), .ref (a_ 3), .ref (a_ 4), .ref (a_ 6)])), (a_ 4, .inr (2, [.ref (a_ 5)])), (a_ 5, .inl (G.2.2.1, 6, .inr (.inl (T.r))))] _ := hP.sub [0, 1, 2, 3] rfl
          have hD : va_D A [(x_, .inr (6, [.ref (a_ 0), .ref (o 0), .ref (o 2), .ref (o 4), .ref (o 6), .ref (o 8), .ref (o 10)])), (a_ 0, .inr (4, [.int (nI (T.s 2)), .int (nI (T.s 3)), .int (nI (T.s 4)), .int (nI (T.s 0)), .int (nI (T.s 6)), .ref (a_ 1), .ref (a_ 2), .ref (a_ 3), .ref (a_ 4), .ref (a_ 6)])), (a_ 4, .inr (2, [.ref (a_ 5)])), (a_ 5, .inl (G.2.2.1, 6, .inr (.inl (T.r))))] := hD.sub [0, 1, 2, 3] (by decide +kernel) rfl
          refine ks_ifb_ne (tgt := 84) hx hb dX6_slip_71 (by decide) (fun c_71 => ?_) (fun c_71 => ?_)
          · exact absurd c_71 h8
          · exact cx_throw hx hb hls hts hown hK hP hD hS hSX hXF hT hlocks hml hl (List.mem_of_getElem? (l := strL) (i := 5) rfl) (List.mem_of_getElem? (l := excL) (i := 1) rfl) (hts (.classLink RX6 88 "java/lang/IllegalStateException") (List.mem_of_getElem? (i := 5) rfl)) (hts (.initialized "java/lang/IllegalStateException") (List.mem_of_getElem? (i := 6) rfl)) (by decide +kernel) hi9_92 hn9_92 hg9_92 dX6_slip_74 dX6_slip_77 dX6_slip_78 dX6_slip_80 dX6_slip_83 (Nat.le_of_ble_eq_true rfl) (Nat.le_of_ble_eq_true rfl) (Nat.le_of_ble_eq_true rfl) (Nat.le_of_ble_eq_true rfl) (Nat.le_of_ble_eq_true rfl) (Nat.le_of_ble_eq_true rfl)
        · exact absurd jy2 c_36
  · exact absurd ⟨nI_pos (by omega), nI_ge (by omega) (by decide)⟩ c_4
set_option maxHeartbeats 4000000 in
set_option maxRecDepth 100000 in
theorem c_X6_strike__t1 (G : GG) (l : Launch) (hls : l.stackTraces = false) (x_ : Nat) (a_ : Nat → Nat) (o : Nat → Nat) (T : TS) (y_ : Int32) (h8 : ¬ (¬ y_ < 0 ∧ ¬ nI (T.s 4) ≤ y_)) : Cx G l yX6_strike wsX6_strike ({ frames := 6, cells := 1, slots := 6, locals := 112 }) [.ref x_, .int y_] [(x_, .inr (6, [.ref (a_ 0), .ref (o 0), .ref (o 2), .ref (o 4), .ref (o 6), .ref (o 8), .ref (o 10)])), (a_ 0, .inr (4, [.int (nI (T.s 2)), .int (nI (T.s 3)), .int (nI (T.s 4)), .int (nI (T.s 0)), .int (nI (T.s 6)), .ref (a_ 1), .ref (a_ 2), .ref (a_ 3), .ref (a_ 4), .ref (a_ 6)]))] E_ioo := by
  refine cx_intro (cc := cX6_strike) (maxL := 2) (ret := (some .int)) (own := RX6) (by decide) rfl rfl (Nat.le_of_ble_eq_true rfl) ?_
  intro p e s m args below meth c A hx hb hr hml hts hown hlocks hT hSX hXF hNX hP hK hD hA hS ls hl
  have hl : lv_has ls 2 [(0, .ref x_), (1, .int y_)] := hl
  have hin6 : ∀ w ∈ u_ws RX6 TX6 7, w ∈ wsX6_strike := fun w h => List.mem_cons_of_mem _ (List.mem_append_left _ (List.mem_append_left _ (List.mem_append_left _ (List.mem_append_left _ (List.mem_append_left _ (List.mem_append_right _ h))))))
  have hi9_104 : ∀ w ∈ (vx_atS RX6 104 "java/lang/IndexOutOfBoundsException" cx_names).filter goodWord, w ∈ wsX6_strike := by decide +kernel
  have hn9_104 : ∀ w ∈ (vx_atS RX6 104 "java/lang/IndexOutOfBoundsException" cx_names).filter (fun w => !goodWord w), w ∈ Cond.castable "java/lang/IndexOutOfBoundsException" "java/lang/IndexOutOfBoundsException" :: dcL.map Cond.declares := by decide +kernel
  have hg9_104 : ∀ w ∈ Cond.classLink RX6 100 "java/lang/IndexOutOfBoundsException" :: Cond.initialized "java/lang/IndexOutOfBoundsException" :: vx_atS RX6 104 "java/lang/IndexOutOfBoundsException" cx_names, vx_ot w = true := by decide +kernel
  refine lv_aload_n hx hb dX6_strike_0 rfl (lv_at hl 0 rfl) ?_
  refine va_get (D := G.1) (ci := 6) (v := .ref (a_ 0)) (C := RX6) (T := TX6) (N := 7) hx hb hts hin6 hown hK hP 0 rfl rfl 0 (by decide) (hts (.fieldLink RX6 10 "PowerTables" "table" "LPowerTables$Table;") (List.mem_of_getElem? (i := 3) rfl)) (fun _ h9 => h9) rfl dX6_strike_1 ?_
  refine lv_iload_n hx hb dX6_strike_4 rfl (lv_at hl 1 rfl) ?_
  refine cr_V (wr := [(x_, .inr (6, [.ref (a_ 0), .ref (o 0), .ref (o 2), .ref (o 4), .ref (o 6), .ref (o 8), .ref (o 10)]))]) (As := [.int y_]) (rest := []) ⟨hx, hb, hml, hown, hts⟩ (c_X4_hasRow__raw G l a_ T y_ ) (cwV 1 hts gX6_strike_X4_hasRow rfl rfl rfl (by decide +kernel) ⟨Nat.le_of_ble_eq_true rfl, Nat.le_of_ble_eq_true rfl⟩) dX6_strike_5 hK hNX hP hD hS hA hl 1 4 rfl rfl rfl [1] [0] rfl rfl rfl rfl (by decide) rfl (Nat.le_of_ble_eq_true rfl) ⟨Nat.le_of_ble_eq_true rfl, Nat.le_of_ble_eq_true rfl⟩ rfl (fun v' w' Hq lcq hR' hP hD hS => ?_)
  obtain ⟨rfl, rfl⟩ := hR'
  have hP : va_P G.1 vwCl [(x_, .inr (6, [.ref (a_ 0), .ref (o 0), .ref (o 2), .ref (o 4), .ref (o 6), .ref (o 8), .ref (o 10)])), (a_ 0, .inr (4, [.int (nI (T.s 2)), .int (nI (T.s 3)), .int (nI (T.s 4)), .int (nI (T.s 0)), .int (nI (T.s 6)), .ref (a_ 1), .ref (a_ 2), .ref (a_ 3), .ref (a_ 4), .ref (a_ 6)]))] _ := hP.sub [0, 1] rfl
  have hD : va_D A [(x_, .inr (6, [.ref (a_ 0), .ref (o 0), .ref (o 2), .ref (o 4), .ref (o 6), .ref (o 8), .ref (o 10)])), (a_ 0, .inr (4, [.int (nI (T.s 2)), .int (nI (T.s 3)), .int (nI (T.s 4)), .int (nI (T.s 0)), .int (nI (T.s 6)), .ref (a_ 1), .ref (a_ 2), .ref (a_ 3), .ref (a_ 4), .ref (a_ 6)]))] := hD.sub [0, 1] (by decide +kernel) rfl
  refine ks_ifb_ne (tgt := 21) hx hb dX6_strike_8 (by decide) (fun c_8 => ?_) (fun c_8 => ?_)
  · exact absurd c_8 h8
  · exact cx_throw hx hb hls hts hown hK hP hD hS hSX hXF hT hlocks hml hl (List.mem_of_getElem? (l := strL) (i := 6) rfl) (List.mem_of_getElem? (l := excL) (i := 2) rfl) (hts (.classLink RX6 100 "java/lang/IndexOutOfBoundsException") (List.mem_of_getElem? (i := 1) rfl)) (hts (.initialized "java/lang/IndexOutOfBoundsException") (List.mem_of_getElem? (i := 2) rfl)) (by decide +kernel) hi9_104 hn9_104 hg9_104 dX6_strike_11 dX6_strike_14 dX6_strike_15 dX6_strike_17 dX6_strike_20 (Nat.le_of_ble_eq_true rfl) (Nat.le_of_ble_eq_true rfl) (Nat.le_of_ble_eq_true rfl) (Nat.le_of_ble_eq_true rfl) (Nat.le_of_ble_eq_true rfl) (Nat.le_of_ble_eq_true rfl)
set_option maxHeartbeats 4000000 in
set_option maxRecDepth 100000 in
theorem c_X6_undo__t1 (G : GG) (l : Launch) (hls : l.stackTraces = false) (x_ : Nat) (a_ : Nat → Nat) (o : Nat → Nat)  : Cx G l yX6_undo wsX6_undo ({ frames := 6, cells := 1, slots := 6, locals := 112 }) [.ref x_] [(x_, .inr (6, [.ref (a_ 0), .ref (o 0), .ref (o 2), .ref (o 4), .ref (o 6), .ref (o 8), .ref (o 10)])), (o 0, .inr (3, [.ref (o 1), .int (nI 0)]))] E_ise := by
  refine cx_intro (cc := cX6_undo) (maxL := 1) (ret := (some .int)) (own := RX6) (by decide) rfl rfl (Nat.le_of_ble_eq_true rfl) ?_
  intro p e s m args below meth c A hx hb hr hml hts hown hlocks hT hSX hXF hNX hP hK hD hA hS ls hl
  have hl : lv_has ls 1 [(0, .ref x_)] := hl
  have hin3 : ∀ w ∈ u_ws RX3 TX3 2, w ∈ wsX6_undo := fun w h => List.mem_cons_of_mem _ (List.mem_append_left _ (List.mem_append_left _ (List.mem_append_left _ (List.mem_append_left _ (List.mem_append_right _ h)))))
  have hin6 : ∀ w ∈ u_ws RX6 TX6 7, w ∈ wsX6_undo := fun w h => List.mem_cons_of_mem _ (List.mem_append_left _ (List.mem_append_left _ (List.mem_append_left _ (List.mem_append_left _ (List.mem_append_left _ (List.mem_append_right _ h))))))
  have hi9_92 : ∀ w ∈ (vx_atS RX6 92 "java/lang/IllegalStateException" cx_names).filter goodWord, w ∈ wsX6_undo := by decide +kernel
  have hn9_92 : ∀ w ∈ (vx_atS RX6 92 "java/lang/IllegalStateException" cx_names).filter (fun w => !goodWord w), w ∈ Cond.castable "java/lang/IllegalStateException" "java/lang/IllegalStateException" :: dcL.map Cond.declares := by decide +kernel
  have hg9_92 : ∀ w ∈ Cond.classLink RX6 88 "java/lang/IllegalStateException" :: Cond.initialized "java/lang/IllegalStateException" :: vx_atS RX6 92 "java/lang/IllegalStateException" cx_names, vx_ot w = true := by decide +kernel
  refine lv_aload_n hx hb dX6_undo_0 rfl (lv_at hl 0 rfl) ?_
  refine va_get (D := G.1) (ci := 6) (v := .ref (o 0)) (C := RX6) (T := TX6) (N := 7) hx hb hts hin6 hown hK hP 0 rfl rfl 1 (by decide) (hts (.fieldLink RX6 19 "PowerTables" "saved" "LPowerTables$SavedTables;") (List.mem_of_getElem? (i := 3) rfl)) (fun _ h9 => h9) rfl dX6_undo_1 ?_
  refine va_getN (D := G.1) (ci := 3) (v := .int (nI 0)) (C := RX3) (T := TX3) (N := 2) hx hb hts hin3 hown hK hP 1 rfl rfl 1 (by decide) (va_Nw.use rfl (hNX.1 (191, "PowerTables$SavedTables", "size", "I") (List.mem_of_getElem? (i := 4) rfl))) (fun _ h9 => h9) rfl dX6_undo_4 ?_
  refine ks_if_ne (tgt := 20) hx hb dX6_undo_7 (by decide) (by omega) (fun c_7 => ?_) (fun c_7 => ?_)
  · omega
  · exact cx_throw hx hb hls hts hown hK hP hD hS hSX hXF hT hlocks hml hl (List.mem_of_getElem? (l := strL) (i := 13) rfl) (List.mem_of_getElem? (l := excL) (i := 1) rfl) (hts (.classLink RX6 88 "java/lang/IllegalStateException") (List.mem_of_getElem? (i := 1) rfl)) (hts (.initialized "java/lang/IllegalStateException") (List.mem_of_getElem? (i := 2) rfl)) (by decide +kernel) hi9_92 hn9_92 hg9_92 dX6_undo_10 dX6_undo_13 dX6_undo_14 dX6_undo_16 dX6_undo_19 (Nat.le_of_ble_eq_true rfl) (Nat.le_of_ble_eq_true rfl) (Nat.le_of_ble_eq_true rfl) (Nat.le_of_ble_eq_true rfl) (Nat.le_of_ble_eq_true rfl) (Nat.le_of_ble_eq_true rfl)
