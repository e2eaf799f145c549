set_option maxHeartbeats 4000000 in
set_option maxRecDepth 100000 in
theorem c_X7_share (G : GG) (l : Launch) (y_ : Nat) (ca : Nat → Nat) (ke : Nat) (ty_ : Nat) (th : Nat) (po : Nat) (fl_ : Prop) (tl : Nat) (T : TS) (jn4 : T.s 4 ≤ 40) (jf_ : T.s 3 ≤ 99) (jp : T.s 2 ≤ 5) (jb : ∀ k, k < 40 → T.b k ≤ 20) : Cr G l yX7_share wsX7_share ({ frames := 2, cells := 0, slots := 0, locals := 47 }) 0 0 [.ref y_] [(y_, .inr (7, [.ref (ca 0), .ref (ca 1), .ref (ca 2), .int (nI ke), .ref (ca 3), .int (nI ty_), .int (nI th), .int (nI po), .int (bI fl_), .ref (ca 4), .int (nI tl), .ref (ca 5)])), (ca 0, .inl (G.2.2.1, 103, .inr (.inl (mV T))))] (ctR (some (.double (shA (ctN (fun k => T.p k = (rvT T) k ∧ T.b k = 0) (T.s 4)) (T.s 4)))) [(y_, .inr (7, [.ref (ca 0), .ref (ca 1), .ref (ca 2), .int (nI ke), .ref (ca 3), .int (nI ty_), .int (nI th), .int (nI po), .int (bI fl_), .ref (ca 4), .int (nI tl), .ref (ca 5)])), (ca 0, .inl (G.2.2.1, 103, .inr (.inl (mV T))))]) := by
  refine cr_intro (cc := cX7_share) (maxL := 3) (ret := (some .double)) (own := RX7) (by decide) rfl rfl (Nat.le_of_ble_eq_true rfl) ?_
  intro p e s m args below meth c A hx hb hr hml hts hown hlocks hnm hNX hP hK hD hA hS ls hl
  obtain ⟨RR, hRR⟩ : ∃ RR, RR = (ctR (some (.double (shA (ctN (fun k => T.p k = (rvT T) k ∧ T.b k = 0) (T.s 4)) (T.s 4)))) [(y_, .inr (7, [.ref (ca 0), .ref (ca 1), .ref (ca 2), .int (nI ke), .ref (ca 3), .int (nI ty_), .int (nI th), .int (nI po), .int (bI fl_), .ref (ca 4), .int (nI tl), .ref (ca 5)])), (ca 0, .inl (G.2.2.1, 103, .inr (.inl (mV T))))]) := ⟨_, rfl⟩
  rw [← hRR]
  have hl : lv_has ls 3 [(0, .ref y_)] := hl
  have hin7 : ∀ w ∈ u_ws RX7 TX7 12, w ∈ wsX7_share := fun w h => List.mem_cons_of_mem _ (List.mem_append_right _ h)
  refine lv_iconst (v := nI 0) hx hb dX7_share_0 (by decide) ?_
  refine lv_istore_n (lv' := [(1, .int (nI 0)), (0, .ref y_)]) hx hb dX7_share_1 rfl hl (by decide) rfl (fun ls hl => ?_)
  refine lv_iconst (v := nI 0) hx hb dX7_share_2 (by decide) ?_
  refine lv_istore_n (lv' := [(2, .int (nI 0)), (1, .int (nI 0)), (0, .ref y_)]) hx hb dX7_share_3 rfl hl (by decide) rfl (fun ls hl => ?_)
  have L_4 : ∀ (n_4 : Nat) (i_ : Nat) (_ : 41 - i_ < n_4) (ji : i_ ≤ T.s 4) (Hq : Heap) (lcq : List Loc), va_P G.1 vwCl [(y_, .inr (7, [.ref (ca 0), .ref (ca 1), .ref (ca 2), .int (nI ke), .ref (ca 3), .int (nI ty_), .int (nI th), .int (nI po), .int (bI fl_), .ref (ca 4), .int (nI tl), .ref (ca 5)])), (ca 0, .inl (G.2.2.1, 103, .inr (.inl (mV T))))] Hq → va_D A [(y_, .inr (7, [.ref (ca 0), .ref (ca 1), .ref (ca 2), .int (nI ke), .ref (ca 3), .int (nI ty_), .int (nI th), .int (nI po), .int (bI fl_), .ref (ca 4), .int (nI tl), .ref (ca 5)])), (ca 0, .inl (G.2.2.1, 103, .inr (.inl (mV T))))] → va_S A s.heap Hq lcq → ∀ ls : Array Slot, lv_has ls 3 [(2, .int (nI i_)), (0, .ref y_), (1, .int (nI (ctN (fun k => T.p k = (rvT T) k ∧ T.b k = 0) i_)))] → W p l e ({ frames := 2, cells := 0, slots := 0, locals := 47 }) s m args below meth c Hq lcq 0 0 (MQ below (cr_Q G RR A) args s 0 0 A) (F0 m 4 ls []) := by
    intro n_4
    induction n_4 with
    | zero => intro i_ hmu_4; exact absurd hmu_4 (Nat.not_lt_zero _)
    | succ n_4 ih_4 =>
      intro i_ hmu_4 ji Hq lcq hP hD hS ls hl
      refine lv_iload_n hx hb dX7_share_4 rfl (lv_at hl 0 rfl) ?_
      refine ks_i2lN hx hb dX7_share_5 (by omega) ?_
      refine lv_aload_n hx hb dX7_share_6 rfl (lv_at hl 1 rfl) ?_
      refine va_get (D := G.1) (ci := 7) (v := .ref (ca 0)) (C := RX7) (T := TX7) (N := 12) hx hb hts hin7 hown hK hP 0 rfl rfl 0 (by decide) (hts (.fieldLink RX7 7 "PowerTablesModel" "now" "[J") (List.mem_of_getElem? (i := 1) rfl)) (fun _ h9 => h9) rfl dX7_share_7 ?_
      refine lv_iconst (v := nI 4) hx hb dX7_share_10 (by decide) ?_
      refine ks_lald hx hb hK hP 1 rfl (by omega) (by decide) dX7_share_11 ?_
      refine ks_vL (show mV T 4 = lN (T.s 4) from rfl) ?_
      refine ks_lcN_ge (tgt := 54) hx hb dX7_share_12 dX7_share_13 (by decide) (by omega) (by omega) (fun c_12 => ?_) (fun c_12 => ?_)
      · obtain rfl : i_ = T.s 4 := by omega
        refine lv_aload_n hx hb dX7_share_54 rfl (lv_at hl 1 rfl) ?_
        refine va_get (D := G.1) (ci := 7) (v := .ref (ca 0)) (C := RX7) (T := TX7) (N := 12) hx hb hts hin7 hown hK hP 0 rfl rfl 0 (by decide) (hts (.fieldLink RX7 7 "PowerTablesModel" "now" "[J") (List.mem_of_getElem? (i := 1) rfl)) (fun _ h9 => h9) rfl dX7_share_55 ?_
        refine lv_iconst (v := nI 4) hx hb dX7_share_58 (by decide) ?_
        refine ks_lald hx hb hK hP 1 rfl (by omega) (by decide) dX7_share_59 ?_
        refine ks_vL (show mV T 4 = lN (T.s 4) from rfl) ?_
        refine lv_lconst (v := lN 0) hx hb dX7_share_60 rfl ?_
        refine ks_lcN_ne (tgt := 69) hx hb dX7_share_61 dX7_share_62 (by decide) (by omega) (by omega) (fun c_61 => ?_) (fun c_61 => ?_)
        · have e1_ : FP.ddiv (FP.i2d (nI (ctN (fun k => T.p k = (rvT T) k ∧ T.b k = 0) (T.s 4)))) (FP.i2d (nI (T.s 4))) = shA (ctN (fun k => T.p k = (rvT T) k ∧ T.b k = 0) (T.s 4)) (T.s 4) := (if_neg c_61).symm
          refine lv_iload_n hx hb dX7_share_69 rfl (lv_at hl 2 rfl) ?_
          refine lv_i2d hx hb dX7_share_70 ?_
          refine lv_aload_n hx hb dX7_share_71 rfl (lv_at hl 1 rfl) ?_
          refine va_get (D := G.1) (ci := 7) (v := .ref (ca 0)) (C := RX7) (T := TX7) (N := 12) hx hb hts hin7 hown hK hP 0 rfl rfl 0 (by decide) (hts (.fieldLink RX7 7 "PowerTablesModel" "now" "[J") (List.mem_of_getElem? (i := 1) rfl)) (fun _ h9 => h9) rfl dX7_share_72 ?_
          refine lv_iconst (v := nI 4) hx hb dX7_share_75 (by decide) ?_
          refine ks_lald hx hb hK hP 1 rfl (by omega) (by decide) dX7_share_76 ?_
          refine ks_vL (show mV T 4 = lN (T.s 4) from rfl) ?_
          refine lv_l2d hx hb dX7_share_77 ?_
          refine ks_vD (show FP.l2d (lN (T.s 4)) = FP.i2d (nI (T.s 4)) from l2d_40 _ (by omega)) ?_
          refine lv_ddiv hx hb dX7_share_78 (sh_nan _ (by omega) _ (Nat.lt_of_le_of_lt (ctN_le _ _) (by omega)) c_61) ?_
          exact cr_dret hx hb hr hlocks hK hP hD hS dX7_share_79 (by rw [hRR]; exact ctR_d (e1_) (rfl))
        · have e1_ : FP.dconst1 = shA (ctN (fun k => T.p k = (rvT T) k ∧ T.b k = 0) (T.s 4)) (T.s 4) := (if_pos c_61).symm
          refine lv_dconst1 hx hb dX7_share_65 ?_
          refine lv_goto (tgt := 79) hx hb dX7_share_66 (by decide) ?_
          exact cr_dret hx hb hr hlocks hK hP hD hS dX7_share_79 (by rw [hRR]; exact ctR_d (e1_) (rfl))
      · refine lv_iload_n hx hb dX7_share_16 rfl (lv_at hl 2 rfl) ?_
        refine lv_aload_n hx hb dX7_share_17 rfl (lv_at hl 1 rfl) ?_
        refine lv_iload_n hx hb dX7_share_18 rfl (lv_at hl 0 rfl) ?_
        refine cr_V (wr := []) (As := [.int (nI i_)]) (rest := [.int (nI (ctN (fun k => T.p k = (rvT T) k ∧ T.b k = 0) i_))]) ⟨hx, hb, hml, hown, hts⟩ (c_X7_error G l y_ ca ke ty_ th po fl_ tl T i_ (by omega) (by omega) (by omega)) (cwV 1 hts gX7_share_X7_error rfl rfl rfl (by decide +kernel) ⟨Nat.le_of_ble_eq_true rfl, Nat.le_of_ble_eq_true rfl⟩) dX7_share_19 hK hNX hP hD hS hA hl 0 7 rfl rfl rfl [0, 1] [] rfl rfl rfl rfl (by decide) rfl (Nat.le_of_ble_eq_true rfl) ⟨Nat.le_of_ble_eq_true rfl, Nat.le_of_ble_eq_true rfl⟩ rfl (fun v' w' Hq lcq hR' hP hD hS => ?_)
        obtain ⟨rfl, rfl⟩ := hR'
        have hP : va_P G.1 vwCl [(y_, .inr (7, [.ref (ca 0), .ref (ca 1), .ref (ca 2), .int (nI ke), .ref (ca 3), .int (nI ty_), .int (nI th), .int (nI po), .int (bI fl_), .ref (ca 4), .int (nI tl), .ref (ca 5)])), (ca 0, .inl (G.2.2.1, 103, .inr (.inl (mV T))))] _ := hP.sub [0, 1] rfl
        have hD : va_D A [(y_, .inr (7, [.ref (ca 0), .ref (ca 1), .ref (ca 2), .int (nI ke), .ref (ca 3), .int (nI ty_), .int (nI th), .int (nI po), .int (bI fl_), .ref (ca 4), .int (nI tl), .ref (ca 5)])), (ca 0, .inl (G.2.2.1, 103, .inr (.inl (mV T))))] := hD.sub [0, 1] (by decide +kernel) rfl
        refine lv_lconst (v := lN 0) hx hb dX7_share_22 rfl ?_
        refine ks_lc_ne (tgt := 45) hx hb dX7_share_23 dX7_share_24 (by decide) (fun c_23 => ?_) (fun c_23 => ?_)
        · have e2_ : ¬ (T.p i_ = rvT T i_ ∧ T.b i_ = 0) := fun w9 => c_23 (er_eq.mpr w9.1)
          refine lv_iconst (v := nI 0) hx hb dX7_share_45 (by decide) ?_
          refine ks_iaddN hx hb dX7_share_46 ?_
          refine ks_vI (show nI (ctN (fun k => T.p k = (rvT T) k ∧ T.b k = 0) i_ + 0) = nI (ctN (fun k => T.p k = (rvT T) k ∧ T.b k = 0) (i_ + 1)) from by rw [Nat.add_zero, ctN_f (p := (fun k => T.p k = (rvT T) k ∧ T.b k = 0)) (fun w9 => e2_ w9)]) ?_
          refine lv_istore_n (lv' := [(1, .int (nI (ctN (fun k => T.p k = (rvT T) k ∧ T.b k = 0) (i_ + 1)))), (2, .int (nI i_)), (0, .ref y_)]) hx hb dX7_share_47 rfl hl (by decide) rfl (fun ls hl => ?_)
          refine lv_iinc (v := nI (i_ + 1)) (lv' := [(2, .int (nI (i_ + 1))), (1, .int (nI (ctN (fun k => T.p k = (rvT T) k ∧ T.b k = 0) (i_ + 1)))), (0, .ref y_)]) hx hb dX7_share_48 hl (k := 1) rfl (ks_inc i_ 1) (by decide) rfl (fun ls hl => ?_)
          refine lv_goto (tgt := 4) hx hb dX7_share_51 (by decide) ?_
          exact ih_4  (i_ + 1) (by omega) (by omega) _ _ hP hD hS ls (lv_sub hl [0, 2, 1] rfl)
        · have jb9 := jb i_ (by omega)
          refine lv_aload_n hx hb dX7_share_27 rfl (lv_at hl 1 rfl) ?_
          refine va_get (D := G.1) (ci := 7) (v := .ref (ca 0)) (C := RX7) (T := TX7) (N := 12) hx hb hts hin7 hown hK hP 0 rfl rfl 0 (by decide) (hts (.fieldLink RX7 7 "PowerTablesModel" "now" "[J") (List.mem_of_getElem? (i := 1) rfl)) (fun _ h9 => h9) rfl dX7_share_28 ?_
          refine lv_bipush (v := nI 63) hx hb dX7_share_31 (by decide) ?_
          refine lv_iload_n hx hb dX7_share_33 rfl (lv_at hl 0 rfl) ?_
          refine ks_iaddN hx hb dX7_share_34 ?_
          refine ks_lald hx hb hK hP 1 rfl (by omega) (by decide) dX7_share_35 ?_
          refine ks_vL (show mV T (63 + i_) = lN (T.b i_) from mV_b (j := i_) (by omega)) ?_
          refine lv_lconst (v := lN 0) hx hb dX7_share_36 rfl ?_
          refine ks_lcN_ne (tgt := 45) hx hb dX7_share_37 dX7_share_38 (by decide) (by omega) (by omega) (fun c_37 => ?_) (fun c_37 => ?_)
          · have e2_ : ¬ (T.p i_ = rvT T i_ ∧ T.b i_ = 0) := fun w9 => c_37 w9.2
            refine lv_iconst (v := nI 0) hx hb dX7_share_45 (by decide) ?_
            refine ks_iaddN hx hb dX7_share_46 ?_
            refine ks_vI (show nI (ctN (fun k => T.p k = (rvT T) k ∧ T.b k = 0) i_ + 0) = nI (ctN (fun k => T.p k = (rvT T) k ∧ T.b k = 0) (i_ + 1)) from by rw [Nat.add_zero, ctN_f (p := (fun k => T.p k = (rvT T) k ∧ T.b k = 0)) (fun w9 => e2_ w9)]) ?_
            refine lv_istore_n (lv' := [(1, .int (nI (ctN (fun k => T.p k = (rvT T) k ∧ T.b k = 0) (i_ + 1)))), (2, .int (nI i_)), (0, .ref y_)]) hx hb dX7_share_47 rfl hl (by decide) rfl (fun ls hl => ?_)
            refine lv_iinc (v := nI (i_ + 1)) (lv' := [(2, .int (nI (i_ + 1))), (1, .int (nI (ctN (fun k => T.p k = (rvT T) k ∧ T.b k = 0) (i_ + 1)))), (0, .ref y_)]) hx hb dX7_share_48 hl (k := 1) rfl (ks_inc i_ 1) (by decide) rfl (fun ls hl => ?_)
            refine lv_goto (tgt := 4) hx hb dX7_share_51 (by decide) ?_
            exact ih_4  (i_ + 1) (by omega) (by omega) _ _ hP hD hS ls (lv_sub hl [0, 2, 1] rfl)
          · refine lv_iconst (v := nI 1) hx hb dX7_share_41 (by decide) ?_
            refine lv_goto (tgt := 46) hx hb dX7_share_42 (by decide) ?_
            refine ks_iaddN hx hb dX7_share_46 ?_
            refine ks_vI (show nI (ctN (fun k => T.p k = (rvT T) k ∧ T.b k = 0) i_ + 1) = nI (ctN (fun k => T.p k = (rvT T) k ∧ T.b k = 0) (i_ + 1)) from by rw [ctN_t (p := (fun k => T.p k = (rvT T) k ∧ T.b k = 0)) ⟨er_eq.mp c_23, c_37⟩]) ?_
            refine lv_istore_n (lv' := [(1, .int (nI (ctN (fun k => T.p k = (rvT T) k ∧ T.b k = 0) (i_ + 1)))), (2, .int (nI i_)), (0, .ref y_)]) hx hb dX7_share_47 rfl hl (by decide) rfl (fun ls hl => ?_)
            refine lv_iinc (v := nI (i_ + 1)) (lv' := [(2, .int (nI (i_ + 1))), (1, .int (nI (ctN (fun k => T.p k = (rvT T) k ∧ T.b k = 0) (i_ + 1)))), (0, .ref y_)]) hx hb dX7_share_48 hl (k := 1) rfl (ks_inc i_ 1) (by decide) rfl (fun ls hl => ?_)
            refine lv_goto (tgt := 4) hx hb dX7_share_51 (by decide) ?_
            exact ih_4  (i_ + 1) (by omega) (by omega) _ _ hP hD hS ls (lv_sub hl [0, 2, 1] rfl)
  exact L_4 _ 0 (Nat.lt_succ_self _) (by omega) _ _ hP hD hS ls (lv_sub hl [0, 2, 1] rfl)
set_option maxHeartbeats 4000000 in
set_option maxRecDepth 100000 in
theorem c_X7_rightness (G : GG) (l : Launch) (y_ : Nat) (ca : Nat → Nat) (ke : Nat) (ty_ : Nat) (th : Nat) (po : Nat) (fl_ : Prop) (tl : Nat) (T : TS) (jn4 : T.s 4 ≤ 40) (jf_ : T.s 3 ≤ 99) (jp : T.s 2 ≤ 5) (jb : ∀ k, k < 40 → T.b k ≤ 20) : Cr G l yX7_rightness wsX7_rightness ({ frames := 3, cells := 0, slots := 0, locals := 69 }) 0 0 [.ref y_] [(y_, .inr (7, [.ref (ca 0), .ref (ca 1), .ref (ca 2), .int (nI ke), .ref (ca 3), .int (nI ty_), .int (nI th), .int (nI po), .int (bI fl_), .ref (ca 4), .int (nI tl), .ref (ca 5)])), (ca 0, .inl (G.2.2.1, 103, .inr (.inl (mV T))))] (ctR (some (.double (shA (ctN (fun k => T.p k = (rvT T) k ∧ T.b k = 0) (T.s 4)) (T.s 4)))) [(y_, .inr (7, [.ref (ca 0), .ref (ca 1), .ref (ca 2), .int (nI ke), .ref (ca 3), .int (nI ty_), .int (nI 0), .int (nI po), .int (bI fl_), .ref (ca 4), .int (nI tl), .ref (ca 5)])), (ca 0, .inl (G.2.2.1, 103, .inr (.inl (mV T))))]) := by
  refine cr_intro (cc := cX7_rightness) (maxL := 1) (ret := (some .double)) (own := RX7) (by decide) rfl rfl (Nat.le_of_ble_eq_true rfl) ?_
  intro p e s m args below meth c A hx hb hr hml hts hown hlocks hnm hNX hP hK hD hA hS ls hl
  obtain ⟨RR, hRR⟩ : ∃ RR, RR = (ctR (some (.double (shA (ctN (fun k => T.p k = (rvT T) k ∧ T.b k = 0) (T.s 4)) (T.s 4)))) [(y_, .inr (7, [.ref (ca 0), .ref (ca 1), .ref (ca 2), .int (nI ke), .ref (ca 3), .int (nI ty_), .int (nI 0), .int (nI po), .int (bI fl_), .ref (ca 4), .int (nI tl), .ref (ca 5)])), (ca 0, .inl (G.2.2.1, 103, .inr (.inl (mV T))))]) := ⟨_, rfl⟩
  rw [← hRR]
  have hl : lv_has ls 1 [(0, .ref y_)] := hl
  have hin7 : ∀ w ∈ u_ws RX7 TX7 12, w ∈ wsX7_rightness := fun w h => List.mem_cons_of_mem _ (List.mem_append_right _ h)
  refine lv_aload_n hx hb dX7_rightness_0 rfl (lv_at hl 0 rfl) ?_
  refine lv_iconst (v := nI 0) hx hb dX7_rightness_1 (by decide) ?_
  refine va_put (D := G.1) (ci := 7) (v := .int (nI 0)) (ty := .int) (C := RX7) (T := TX7) (N := 12) hx hb hts hin7 tyX7 tyX7_ok nmX7 hown hK hP hD hS 0 rfl rfl 6 (by decide) (hts (.fieldLink RX7 39 "PowerTablesModel" "thrown" "I") (List.mem_of_getElem? (i := 1) rfl)) (fun _ h9 => h9) rfl (tyX7_ok 6 (by decide)) rfl rfl (Nat.le_of_ble_eq_true rfl) dX7_rightness_2 (fun Hq lcq hP hD hS => ?_)
  have hP : va_P G.1 vwCl [(y_, .inr (7, [.ref (ca 0), .ref (ca 1), .ref (ca 2), .int (nI ke), .ref (ca 3), .int (nI ty_), .int (nI 0), .int (nI po), .int (bI fl_), .ref (ca 4), .int (nI tl), .ref (ca 5)])), (ca 0, .inl (G.2.2.1, 103, .inr (.inl (mV T))))] _ := hP
  have hD : va_D A [(y_, .inr (7, [.ref (ca 0), .ref (ca 1), .ref (ca 2), .int (nI ke), .ref (ca 3), .int (nI ty_), .int (nI 0), .int (nI po), .int (bI fl_), .ref (ca 4), .int (nI tl), .ref (ca 5)])), (ca 0, .inl (G.2.2.1, 103, .inr (.inl (mV T))))] := hD
  refine lv_aload_n hx hb dX7_rightness_5 rfl (lv_at hl 0 rfl) ?_
  refine cr_V (wr := []) (As := []) (rest := []) ⟨hx, hb, hml, hown, hts⟩ (c_X7_share G l y_ ca ke ty_ 0 po fl_ tl T (by omega) (by omega) (by omega) (jb)) (cwV 0 hts gX7_rightness_X7_share rfl rfl rfl (by decide +kernel) ⟨Nat.le_of_ble_eq_true rfl, Nat.le_of_ble_eq_true rfl⟩) dX7_rightness_6 hK hNX hP hD hS hA hl 0 7 rfl rfl rfl [0, 1] [] rfl rfl rfl rfl (by decide) rfl (Nat.le_of_ble_eq_true rfl) ⟨Nat.le_of_ble_eq_true rfl, Nat.le_of_ble_eq_true rfl⟩ rfl (fun v' w' Hq lcq hR' hP hD hS => ?_)
  obtain ⟨rfl, rfl⟩ := hR'
  have hP : va_P G.1 vwCl [(y_, .inr (7, [.ref (ca 0), .ref (ca 1), .ref (ca 2), .int (nI ke), .ref (ca 3), .int (nI ty_), .int (nI 0), .int (nI po), .int (bI fl_), .ref (ca 4), .int (nI tl), .ref (ca 5)])), (ca 0, .inl (G.2.2.1, 103, .inr (.inl (mV T))))] _ := hP.sub [0, 1] rfl
  have hD : va_D A [(y_, .inr (7, [.ref (ca 0), .ref (ca 1), .ref (ca 2), .int (nI ke), .ref (ca 3), .int (nI ty_), .int (nI 0), .int (nI po), .int (bI fl_), .ref (ca 4), .int (nI tl), .ref (ca 5)])), (ca 0, .inl (G.2.2.1, 103, .inr (.inl (mV T))))] := hD.sub [0, 1] (by decide +kernel) rfl
  exact cr_dret hx hb hr hlocks hK hP hD hS dX7_rightness_9 (by rw [hRR]; exact ctR_d (rfl) (rfl))
set_option maxHeartbeats 4000000 in
set_option maxRecDepth 100000 in
theorem c_Jxe99ae_isNaN_b9ae7 (G : GG) (l : Launch) (d_ : UInt64) (j0 : Op.cmpValue (FP.dcmp d_ d_) .l = 0) : Cr G l yJxe99ae_isNaN_b9ae7 wsJxe99ae_isNaN_b9ae7 ({ frames := 0, cells := 0, slots := 0, locals := 0 }) 0 0 [.double d_] [] (ctR (some (.int (nI 0))) []) := by
  refine cr_intro (cc := cJxe99ae_isNaN_b9ae7) (maxL := 2) (ret := (some .boolean)) (own := RJxe99ae) (by decide) rfl rfl (Nat.le_of_ble_eq_true rfl) ?_
  intro p e s m args below meth c A hx hb hr hml hts hown hlocks hnm hNX hP hK hD hA hS ls hl
  obtain ⟨RR, hRR⟩ : ∃ RR, RR = (ctR (some (.int (nI 0))) []) := ⟨_, rfl⟩
  rw [← hRR]
  have hl : lv_has ls 2 [(0, .double d_)] := hl
  refine lv_dload_n hx hb dJxe99ae_isNaN_b9ae7_0 rfl (lv_at hl 0 rfl) ?_
  refine lv_dload_n hx hb dJxe99ae_isNaN_b9ae7_1 rfl (lv_at hl 0 rfl) ?_
  refine lv_dcmp hx hb dJxe99ae_isNaN_b9ae7_2 ?_
  refine lv_if_eq (tgt := 10) hx hb dJxe99ae_isNaN_b9ae7_3 (by decide) (fun c_3 => ?_) (fun c_3 => ?_)
  · refine lv_iconst (v := nI 0) hx hb dJxe99ae_isNaN_b9ae7_10 (by decide) ?_
    exact cr_zret hx hb hr hlocks hK hP hD hS (by decide +kernel) dJxe99ae_isNaN_b9ae7_11 (by rw [hRR]; exact ctR_i (rfl) (rfl))
  · exact absurd j0 c_3
set_option maxHeartbeats 4000000 in
set_option maxRecDepth 100000 in
theorem c_Jxe99ae_doubleToLongBits_ccdee (G : GG) (l : Launch) (d_ : UInt64) (j0 : Op.cmpValue (FP.dcmp d_ d_) .l = 0) : Cr G l yJxe99ae_doubleToLongBits_ccdee wsJxe99ae_doubleToLongBits_ccdee ({ frames := 1, cells := 0, slots := 0, locals := 21 }) 0 0 [.double d_] [] (ctR (some (.long d_.toInt64)) []) := by
  refine cr_intro (cc := cJxe99ae_doubleToLongBits_ccdee) (maxL := 2) (ret := (some .long)) (own := RJxe99ae) (by decide) rfl rfl (Nat.le_of_ble_eq_true rfl) ?_
  intro p e s m args below meth c A hx hb hr hml hts hown hlocks hnm hNX hP hK hD hA hS ls hl
  obtain ⟨RR, hRR⟩ : ∃ RR, RR = (ctR (some (.long d_.toInt64)) []) := ⟨_, rfl⟩
  rw [← hRR]
  have hl : lv_has ls 2 [(0, .double d_)] := hl
  refine lv_dload_n hx hb dJxe99ae_doubleToLongBits_ccdee_0 rfl (lv_at hl 0 rfl) ?_
  refine cr_S (wr := []) (As := [.double d_]) (rest := []) ⟨hx, hb, hml, hown, hts⟩ (c_Jxe99ae_isNaN_b9ae7 G l d_ (j0)) (va_cwS 1 hts gJxe99ae_doubleToLongBits_ccdee_Jxe99ae_isNaN_b9ae7 rfl rfl rfl (by decide +kernel) ⟨Nat.le_of_ble_eq_true rfl, Nat.le_of_ble_eq_true rfl⟩) dJxe99ae_doubleToLongBits_ccdee_1 hK hNX hP hD hS hA hl [] [] rfl rfl rfl rfl (by decide) rfl (Nat.le_of_ble_eq_true rfl) ⟨Nat.le_of_ble_eq_true rfl, Nat.le_of_ble_eq_true rfl⟩ rfl (fun v' w' Hq lcq hR' hP hD hS => ?_)
  obtain ⟨rfl, rfl⟩ := hR'
  have hP : va_P G.1 vwCl [] _ := hP.sub [] rfl
  have hD : va_D A [] := hD.sub [] (by decide +kernel) rfl
  refine ks_if_ne (tgt := 12) hx hb dJxe99ae_doubleToLongBits_ccdee_4 (by decide) (by omega) (fun c_4 => ?_) (fun c_4 => ?_)
  · omega
  · refine lv_dload_n hx hb dJxe99ae_doubleToLongBits_ccdee_7 rfl (lv_at hl 0 rfl) ?_
    refine vn_d2l hx hb (hml.trans hl.1.symm) hown (hts (.methodLink RJxe99ae 134 ⟨"java/lang/Double", "doubleToRawLongBits", "(D)J"⟩) (List.mem_of_getElem? (i := 1) rfl)) (hts (.native ⟨"java/lang/Double", "doubleToRawLongBits", "(D)J"⟩) (List.mem_of_getElem? (i := 2) rfl)) (hts (.static ⟨"java/lang/Double", "doubleToRawLongBits", "(D)J"⟩) (List.mem_of_getElem? (i := 3) rfl)) (hts (.initialized "java/lang/Double") (List.mem_of_getElem? (i := 4) rfl)) (Nat.le_of_ble_eq_true rfl) (Nat.le_of_ble_eq_true rfl) dJxe99ae_doubleToLongBits_ccdee_8 ?_
    exact cr_lret hx hb hr hlocks hK hP hD hS dJxe99ae_doubleToLongBits_ccdee_11 (by rw [hRR]; exact ctR_l (rfl) (rfl))
