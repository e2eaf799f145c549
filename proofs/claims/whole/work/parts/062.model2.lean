set_option maxHeartbeats 4000000 in
set_option maxRecDepth 100000 in
theorem c_X7_saves (G : GG) (l : Launch) (y_ : Nat) (ca : Nat → Nat) (ke : Nat) (ty_ : Nat) (th : Nat) (po : Nat) (fl_ : Prop) (tl : Nat) (T : TS) (f_ : Nat → Int64) (Ss : Nat → TS) (jk6 : ke ≤ 6) (jpf : PF f_ ke Ss) : Cr G l yX7_saves wsX7_saves ({ frames := 0, cells := 0, slots := 0, locals := 0 }) 0 0 [.ref y_] [(y_, .inr (7, [.ref (ca 0), .ref (ca 1), .ref (ca 2), .int (nI ke), .ref (ca 3), .int (nI ty_), .int (nI th), .int (nI po), .int (bI fl_), .ref (ca 4), .int (nI tl), .ref (ca 5)])), (ca 0, .inl (G.2.2.1, 103, .inr (.inl (mV T)))), (ca 2, .inl (G.2.2.1, 618, .inr (.inl (f_))))] (fun (vv1 : Option Value) (ww1 : va_W) => ∃ (f9_ : Nat → Int64), vv1 = none ∧ ww1 = [(y_, .inr (7, [.ref (ca 0), .ref (ca 1), .ref (ca 2), .int (nI (mn6 ke)), .ref (ca 3), .int (nI ty_), .int (nI th), .int (nI po), .int (bI fl_), .ref (ca 4), .int (nI tl), .ref (ca 5)])), (ca 0, .inl (G.2.2.1, 103, .inr (.inl (mV T)))), (ca 2, .inl (G.2.2.1, 618, .inr (.inl (f9_))))] ∧ (PF f9_ (mn6 ke) (svS Ss ke T))) := by
  refine cr_intro (cc := cX7_saves) (maxL := 2) (ret := none) (own := RX7) (by decide) rfl rfl (Nat.le_of_ble_eq_true rfl) ?_
  intro p e s m args below meth c A hx hb hr hml hts hown hlocks hnm hNX hP hK hD hA hS ls hl
  obtain ⟨RR, hRR⟩ : ∃ RR, RR = (fun (vv1 : Option Value) (ww1 : va_W) => ∃ (f9_ : Nat → Int64), vv1 = none ∧ ww1 = [(y_, .inr (7, [.ref (ca 0), .ref (ca 1), .ref (ca 2), .int (nI (mn6 ke)), .ref (ca 3), .int (nI ty_), .int (nI th), .int (nI po), .int (bI fl_), .ref (ca 4), .int (nI tl), .ref (ca 5)])), (ca 0, .inl (G.2.2.1, 103, .inr (.inl (mV T)))), (ca 2, .inl (G.2.2.1, 618, .inr (.inl (f9_))))] ∧ (PF f9_ (mn6 ke) (svS Ss ke T))) := ⟨_, rfl⟩
  rw [← hRR]
  have hl : lv_has ls 2 [(0, .ref y_)] := hl
  have hin7 : ∀ w ∈ u_ws RX7 TX7 12, w ∈ wsX7_saves := fun w h => List.mem_cons_of_mem _ (List.mem_append_right _ h)
  refine lv_aload_n hx hb dX7_saves_0 rfl (lv_at hl 0 rfl) ?_
  refine va_get (D := G.1) (ci := 7) (v := .int (nI ke)) (C := RX7) (T := TX7) (N := 12) hx hb hts hin7 hown hK hP 0 rfl rfl 3 (by decide) (hts (.fieldLink RX7 47 "PowerTablesModel" "kept" "I") (List.mem_of_getElem? (i := 1) rfl)) (fun _ h9 => h9) rfl dX7_saves_1 ?_
  refine lv_bipush (v := nI 6) hx hb dX7_saves_4 (by decide) ?_
  refine ks_icmp_ne (tgt := 49) hx hb dX7_saves_6 (by decide) (by omega) (by omega) (fun c_6 => ?_) (fun c_6 => ?_)
  · have hP := hP.cgJ 2 (g := fun j8 => if 103 * ke ≤ j8 ∧ j8 < 103 * ke + 0 then mV T (j8 - 103 * ke) else f_ j8) rfl (fun q9 h9 => (congrFun (cpU0 (f_) (103 * ke) (mV T)) q9).symm)
    have hD := hD.set (p := 2) (e := .inl (G.2.2.1, 618, .inr <| .inl (fun j8 => if 103 * ke ≤ j8 ∧ j8 < 103 * ke + 0 then mV T (j8 - 103 * ke) else f_ j8))) rfl
    have hP : va_P G.1 vwCl [(y_, .inr (7, [.ref (ca 0), .ref (ca 1), .ref (ca 2), .int (nI ke), .ref (ca 3), .int (nI ty_), .int (nI th), .int (nI po), .int (bI fl_), .ref (ca 4), .int (nI tl), .ref (ca 5)])), (ca 0, .inl (G.2.2.1, 103, .inr (.inl (mV T)))), (ca 2, .inl (G.2.2.1, 618, .inr (.inl (fun j8 => if 103 * ke ≤ j8 ∧ j8 < 103 * ke + 0 then mV T (j8 - 103 * ke) else f_ j8))))] _ := hP
    have hD : va_D A [(y_, .inr (7, [.ref (ca 0), .ref (ca 1), .ref (ca 2), .int (nI ke), .ref (ca 3), .int (nI ty_), .int (nI th), .int (nI po), .int (bI fl_), .ref (ca 4), .int (nI tl), .ref (ca 5)])), (ca 0, .inl (G.2.2.1, 103, .inr (.inl (mV T)))), (ca 2, .inl (G.2.2.1, 618, .inr (.inl (fun j8 => if 103 * ke ≤ j8 ∧ j8 < 103 * ke + 0 then mV T (j8 - 103 * ke) else f_ j8))))] := hD
    refine lv_iconst (v := nI 0) hx hb dX7_saves_49 (by decide) ?_
    refine lv_istore_n (lv' := [(1, .int (nI 0)), (0, .ref y_)]) hx hb dX7_saves_50 rfl hl (by decide) rfl (fun ls hl => ?_)
    have L_51 : ∀ (n_51 : Nat) (i_ : Nat) (n_ : Nat) (f0_ : Nat → Int64) (_ : 110 - i_ < n_51) (ji : i_ ≤ 103) (jn5 : n_ ≤ 5) (jn6 : n_ + 1 = mn6 ke) (jfin : PF (fun j8 => if 103 * n_ ≤ j8 ∧ j8 < 103 * n_ + 103 then mV T (j8 - 103 * n_) else f0_ j8) (mn6 ke) (svS Ss ke T)) (Hq : Heap) (lcq : List Loc), va_P G.1 vwCl [(y_, .inr (7, [.ref (ca 0), .ref (ca 1), .ref (ca 2), .int (nI n_), .ref (ca 3), .int (nI ty_), .int (nI th), .int (nI po), .int (bI fl_), .ref (ca 4), .int (nI tl), .ref (ca 5)])), (ca 0, .inl (G.2.2.1, 103, .inr (.inl (mV T)))), (ca 2, .inl (G.2.2.1, 618, .inr (.inl (fun j8 => if 103 * n_ ≤ j8 ∧ j8 < 103 * n_ + i_ then mV T (j8 - 103 * n_) else f0_ j8))))] Hq → va_D A [(y_, .inr (7, [.ref (ca 0), .ref (ca 1), .ref (ca 2), .int (nI n_), .ref (ca 3), .int (nI ty_), .int (nI th), .int (nI po), .int (bI fl_), .ref (ca 4), .int (nI tl), .ref (ca 5)])), (ca 0, .inl (G.2.2.1, 103, .inr (.inl (mV T)))), (ca 2, .inl (G.2.2.1, 618, .inr (.inl (fun j8 => if 103 * n_ ≤ j8 ∧ j8 < 103 * n_ + i_ then mV T (j8 - 103 * n_) else f0_ j8))))] → va_S A s.heap Hq lcq → ∀ ls : Array Slot, lv_has ls 2 [(1, .int (nI i_)), (0, .ref y_)] → W p l e ({ frames := 0, cells := 0, slots := 0, locals := 0 }) s m args below meth c Hq lcq 0 0 (MQ below (cr_Q G RR A) args s 0 0 A) (F0 m 51 ls []) := by
      intro n_51
      induction n_51 with
      | zero => intro i_ n_ f0_ hmu_51; exact absurd hmu_51 (Nat.not_lt_zero _)
      | succ n_51 ih_51 =>
        intro i_ n_ f0_ hmu_51 ji jn5 jn6 jfin Hq lcq hP hD hS ls hl
        refine lv_iload_n hx hb dX7_saves_51 rfl (lv_at hl 0 rfl) ?_
        refine lv_bipush (v := nI 103) hx hb dX7_saves_52 (by decide) ?_
        refine ks_icmp_ge (tgt := 83) hx hb dX7_saves_54 (by decide) (by omega) (by omega) (fun c_54 => ?_) (fun c_54 => ?_)
        · obtain rfl : i_ = 103 := by omega
          refine lv_aload_n hx hb dX7_saves_83 rfl (lv_at hl 1 rfl) ?_
          refine lv_dup hx hb dX7_saves_84 rfl ?_
          refine va_get (D := G.1) (ci := 7) (v := .int (nI n_)) (C := RX7) (T := TX7) (N := 12) hx hb hts hin7 hown hK hP 0 rfl rfl 3 (by decide) (hts (.fieldLink RX7 47 "PowerTablesModel" "kept" "I") (List.mem_of_getElem? (i := 1) rfl)) (fun _ h9 => h9) rfl dX7_saves_85 ?_
          refine lv_iconst (v := nI 1) hx hb dX7_saves_88 (by decide) ?_
          refine ks_iaddN hx hb dX7_saves_89 ?_
          refine ks_vI (show nI (n_ + 1) = nI (mn6 ke) from congrArg nI jn6) ?_
          refine va_put (D := G.1) (ci := 7) (v := .int (nI (mn6 ke))) (ty := .int) (C := RX7) (T := TX7) (N := 12) hx hb hts hin7 tyX7 tyX7_ok nmX7 hown hK hP hD hS 0 rfl rfl 3 (by decide) (hts (.fieldLink RX7 47 "PowerTablesModel" "kept" "I") (List.mem_of_getElem? (i := 1) rfl)) (fun _ h9 => h9) rfl (tyX7_ok 3 (by decide)) rfl rfl (Nat.le_of_ble_eq_true rfl) dX7_saves_90 (fun Hq lcq hP hD hS => ?_)
          have hP : va_P G.1 vwCl [(y_, .inr (7, [.ref (ca 0), .ref (ca 1), .ref (ca 2), .int (nI (mn6 ke)), .ref (ca 3), .int (nI ty_), .int (nI th), .int (nI po), .int (bI fl_), .ref (ca 4), .int (nI tl), .ref (ca 5)])), (ca 0, .inl (G.2.2.1, 103, .inr (.inl (mV T)))), (ca 2, .inl (G.2.2.1, 618, .inr (.inl (fun j8 => if 103 * n_ ≤ j8 ∧ j8 < 103 * n_ + 103 then mV T (j8 - 103 * n_) else f0_ j8))))] _ := hP
          have hD : va_D A [(y_, .inr (7, [.ref (ca 0), .ref (ca 1), .ref (ca 2), .int (nI (mn6 ke)), .ref (ca 3), .int (nI ty_), .int (nI th), .int (nI po), .int (bI fl_), .ref (ca 4), .int (nI tl), .ref (ca 5)])), (ca 0, .inl (G.2.2.1, 103, .inr (.inl (mV T)))), (ca 2, .inl (G.2.2.1, 618, .inr (.inl (fun j8 => if 103 * n_ ≤ j8 ∧ j8 < 103 * n_ + 103 then mV T (j8 - 103 * n_) else f0_ j8))))] := hD
          exact cr_vret hx hb hr hlocks hK hP hD hS dX7_saves_93 (by rw [hRR]; exact ⟨fun j8 => if 103 * n_ ≤ j8 ∧ j8 < 103 * n_ + 103 then mV T (j8 - 103 * n_) else f0_ j8, rfl, rfl, jfin⟩)
        · refine lv_aload_n hx hb dX7_saves_57 rfl (lv_at hl 1 rfl) ?_
          refine va_get (D := G.1) (ci := 7) (v := .ref (ca 2)) (C := RX7) (T := TX7) (N := 12) hx hb hts hin7 hown hK hP 0 rfl rfl 2 (by decide) (hts (.fieldLink RX7 16 "PowerTablesModel" "past" "[J") (List.mem_of_getElem? (i := 2) rfl)) (fun _ h9 => h9) rfl dX7_saves_58 ?_
          refine lv_bipush (v := nI 103) hx hb dX7_saves_61 (by decide) ?_
          refine lv_aload_n hx hb dX7_saves_63 rfl (lv_at hl 1 rfl) ?_
          refine va_get (D := G.1) (ci := 7) (v := .int (nI n_)) (C := RX7) (T := TX7) (N := 12) hx hb hts hin7 hown hK hP 0 rfl rfl 3 (by decide) (hts (.fieldLink RX7 47 "PowerTablesModel" "kept" "I") (List.mem_of_getElem? (i := 1) rfl)) (fun _ h9 => h9) rfl dX7_saves_64 ?_
          refine ks_imulN hx hb dX7_saves_67 ?_
          refine lv_iload_n hx hb dX7_saves_68 rfl (lv_at hl 0 rfl) ?_
          refine ks_iaddN hx hb dX7_saves_69 ?_
          refine lv_aload_n hx hb dX7_saves_70 rfl (lv_at hl 1 rfl) ?_
          refine va_get (D := G.1) (ci := 7) (v := .ref (ca 0)) (C := RX7) (T := TX7) (N := 12) hx hb hts hin7 hown hK hP 0 rfl rfl 0 (by decide) (hts (.fieldLink RX7 7 "PowerTablesModel" "now" "[J") (List.mem_of_getElem? (i := 3) rfl)) (fun _ h9 => h9) rfl dX7_saves_71 ?_
          refine lv_iload_n hx hb dX7_saves_74 rfl (lv_at hl 0 rfl) ?_
          refine ks_lald hx hb hK hP 1 rfl (by omega) (by decide) dX7_saves_75 ?_
          refine ks_vL (show mV T i_ = mV T i_ from rfl) ?_
          refine ks_last (f' := fun j8 => if 103 * n_ ≤ j8 ∧ j8 < 103 * n_ + (i_ + 1) then mV T (j8 - 103 * n_) else f0_ j8) hx hb hK hP hD hS 2 rfl (by omega) (by decide) (cpU f0_ (103 * n_) i_ (mV T i_) (mV T) rfl) dX7_saves_76 (fun Hq lcq hP hD hS => ?_)
          have hP : va_P G.1 vwCl [(y_, .inr (7, [.ref (ca 0), .ref (ca 1), .ref (ca 2), .int (nI n_), .ref (ca 3), .int (nI ty_), .int (nI th), .int (nI po), .int (bI fl_), .ref (ca 4), .int (nI tl), .ref (ca 5)])), (ca 0, .inl (G.2.2.1, 103, .inr (.inl (mV T)))), (ca 2, .inl (G.2.2.1, 618, .inr (.inl (fun j8 => if 103 * n_ ≤ j8 ∧ j8 < 103 * n_ + (i_ + 1) then mV T (j8 - 103 * n_) else f0_ j8))))] _ := hP
          have hD : va_D A [(y_, .inr (7, [.ref (ca 0), .ref (ca 1), .ref (ca 2), .int (nI n_), .ref (ca 3), .int (nI ty_), .int (nI th), .int (nI po), .int (bI fl_), .ref (ca 4), .int (nI tl), .ref (ca 5)])), (ca 0, .inl (G.2.2.1, 103, .inr (.inl (mV T)))), (ca 2, .inl (G.2.2.1, 618, .inr (.inl (fun j8 => if 103 * n_ ≤ j8 ∧ j8 < 103 * n_ + (i_ + 1) then mV T (j8 - 103 * n_) else f0_ j8))))] := hD
          refine lv_iinc (v := nI (i_ + 1)) (lv' := [(1, .int (nI (i_ + 1))), (0, .ref y_)]) hx hb dX7_saves_77 hl (k := 0) rfl (ks_inc i_ 1) (by decide) rfl (fun ls hl => ?_)
          refine lv_goto (tgt := 51) hx hb dX7_saves_80 (by decide) ?_
          exact ih_51  (i_ + 1) n_ f0_ (by omega) (by omega) (jn5) (jn6) (jfin) _ _ hP hD hS ls (lv_sub hl [0, 1] rfl)
    exact L_51 _ 0 ke f_ (Nat.lt_succ_self _) (by omega) (by omega) (by first | exact (if_pos (by omega)).symm | (obtain rfl : ke = 6 := (by omega); rfl)) (by first | exact PF_lt jpf (by omega) | (obtain rfl : ke = 6 := (by omega); exact PF_6 jpf)) _ _ hP hD hS ls (lv_sub hl [0, 1] rfl)
  · refine lv_iconst (v := nI 0) hx hb dX7_saves_9 (by decide) ?_
    refine lv_istore_n (lv' := [(1, .int (nI 0)), (0, .ref y_)]) hx hb dX7_saves_10 rfl hl (by decide) rfl (fun ls hl => ?_)
    have L_11 : ∀ (n_11 : Nat) (i_ : Nat) (_ : 520 - i_ < n_11) (ji : i_ ≤ 515) (Hq : Heap) (lcq : List Loc), va_P G.1 vwCl [(y_, .inr (7, [.ref (ca 0), .ref (ca 1), .ref (ca 2), .int (nI ke), .ref (ca 3), .int (nI ty_), .int (nI th), .int (nI po), .int (bI fl_), .ref (ca 4), .int (nI tl), .ref (ca 5)])), (ca 0, .inl (G.2.2.1, 103, .inr (.inl (mV T)))), (ca 2, .inl (G.2.2.1, 618, .inr (.inl (fun j8 => if j8 < i_ then f_ (j8 + 103) else f_ j8))))] Hq → va_D A [(y_, .inr (7, [.ref (ca 0), .ref (ca 1), .ref (ca 2), .int (nI ke), .ref (ca 3), .int (nI ty_), .int (nI th), .int (nI po), .int (bI fl_), .ref (ca 4), .int (nI tl), .ref (ca 5)])), (ca 0, .inl (G.2.2.1, 103, .inr (.inl (mV T)))), (ca 2, .inl (G.2.2.1, 618, .inr (.inl (fun j8 => if j8 < i_ then f_ (j8 + 103) else f_ j8))))] → va_S A s.heap Hq lcq → ∀ ls : Array Slot, lv_has ls 2 [(1, .int (nI i_)), (0, .ref y_)] → W p l e ({ frames := 0, cells := 0, slots := 0, locals := 0 }) s m args below meth c Hq lcq 0 0 (MQ below (cr_Q G RR A) args s 0 0 A) (F0 m 11 ls []) := by
      intro n_11
      induction n_11 with
      | zero => intro i_ hmu_11; exact absurd hmu_11 (Nat.not_lt_zero _)
      | succ n_11 ih_11 =>
        intro i_ hmu_11 ji Hq lcq hP hD hS ls hl
        refine lv_iload_n hx hb dX7_saves_11 rfl (lv_at hl 0 rfl) ?_
        refine lv_sipush (v := nI 515) hx hb dX7_saves_12 (by decide) ?_
        refine ks_icmp_ge (tgt := 39) hx hb dX7_saves_15 (by decide) (by omega) (by omega) (fun c_15 => ?_) (fun c_15 => ?_)
        · obtain rfl : i_ = 515 := by omega
          refine lv_aload_n hx hb dX7_saves_39 rfl (lv_at hl 1 rfl) ?_
          refine lv_dup hx hb dX7_saves_40 rfl ?_
          refine va_get (D := G.1) (ci := 7) (v := .int (nI ke)) (C := RX7) (T := TX7) (N := 12) hx hb hts hin7 hown hK hP 0 rfl rfl 3 (by decide) (hts (.fieldLink RX7 47 "PowerTablesModel" "kept" "I") (List.mem_of_getElem? (i := 1) rfl)) (fun _ h9 => h9) rfl dX7_saves_41 ?_
          refine lv_iconst (v := nI 1) hx hb dX7_saves_44 (by decide) ?_
          refine ks_isubN hx hb dX7_saves_45 (by omega) ?_
          refine va_put (D := G.1) (ci := 7) (v := .int (nI (ke - 1))) (ty := .int) (C := RX7) (T := TX7) (N := 12) hx hb hts hin7 tyX7 tyX7_ok nmX7 hown hK hP hD hS 0 rfl rfl 3 (by decide) (hts (.fieldLink RX7 47 "PowerTablesModel" "kept" "I") (List.mem_of_getElem? (i := 1) rfl)) (fun _ h9 => h9) rfl (tyX7_ok 3 (by decide)) rfl rfl (Nat.le_of_ble_eq_true rfl) dX7_saves_46 (fun Hq lcq hP hD hS => ?_)
          have hP : va_P G.1 vwCl [(y_, .inr (7, [.ref (ca 0), .ref (ca 1), .ref (ca 2), .int (nI (ke - 1)), .ref (ca 3), .int (nI ty_), .int (nI th), .int (nI po), .int (bI fl_), .ref (ca 4), .int (nI tl), .ref (ca 5)])), (ca 0, .inl (G.2.2.1, 103, .inr (.inl (mV T)))), (ca 2, .inl (G.2.2.1, 618, .inr (.inl (fun j8 => if j8 < 515 then f_ (j8 + 103) else f_ j8))))] _ := hP
          have hD : va_D A [(y_, .inr (7, [.ref (ca 0), .ref (ca 1), .ref (ca 2), .int (nI (ke - 1)), .ref (ca 3), .int (nI ty_), .int (nI th), .int (nI po), .int (bI fl_), .ref (ca 4), .int (nI tl), .ref (ca 5)])), (ca 0, .inl (G.2.2.1, 103, .inr (.inl (mV T)))), (ca 2, .inl (G.2.2.1, 618, .inr (.inl (fun j8 => if j8 < 515 then f_ (j8 + 103) else f_ j8))))] := hD
          have hP := hP.cgJ 2 (g := fun j8 => if 103 * (ke - 1) ≤ j8 ∧ j8 < 103 * (ke - 1) + 0 then mV T (j8 - 103 * (ke - 1)) else (fun j8 => if j8 < 515 then f_ (j8 + 103) else f_ j8) j8) rfl (fun q9 h9 => (congrFun (cpU0 (fun j8 => if j8 < 515 then f_ (j8 + 103) else f_ j8) (103 * (ke - 1)) (mV T)) q9).symm)
          have hD := hD.set (p := 2) (e := .inl (G.2.2.1, 618, .inr <| .inl (fun j8 => if 103 * (ke - 1) ≤ j8 ∧ j8 < 103 * (ke - 1) + 0 then mV T (j8 - 103 * (ke - 1)) else (fun j8 => if j8 < 515 then f_ (j8 + 103) else f_ j8) j8))) rfl
          have hP : va_P G.1 vwCl [(y_, .inr (7, [.ref (ca 0), .ref (ca 1), .ref (ca 2), .int (nI (ke - 1)), .ref (ca 3), .int (nI ty_), .int (nI th), .int (nI po), .int (bI fl_), .ref (ca 4), .int (nI tl), .ref (ca 5)])), (ca 0, .inl (G.2.2.1, 103, .inr (.inl (mV T)))), (ca 2, .inl (G.2.2.1, 618, .inr (.inl (fun j8 => if 103 * (ke - 1) ≤ j8 ∧ j8 < 103 * (ke - 1) + 0 then mV T (j8 - 103 * (ke - 1)) else (fun j8 => if j8 < 515 then f_ (j8 + 103) else f_ j8) j8))))] _ := hP
          have hD : va_D A [(y_, .inr (7, [.ref (ca 0), .ref (ca 1), .ref (ca 2), .int (nI (ke - 1)), .ref (ca 3), .int (nI ty_), .int (nI th), .int (nI po), .int (bI fl_), .ref (ca 4), .int (nI tl), .ref (ca 5)])), (ca 0, .inl (G.2.2.1, 103, .inr (.inl (mV T)))), (ca 2, .inl (G.2.2.1, 618, .inr (.inl (fun j8 => if 103 * (ke - 1) ≤ j8 ∧ j8 < 103 * (ke - 1) + 0 then mV T (j8 - 103 * (ke - 1)) else (fun j8 => if j8 < 515 then f_ (j8 + 103) else f_ j8) j8))))] := hD
          refine lv_iconst (v := nI 0) hx hb dX7_saves_49 (by decide) ?_
          refine lv_istore_n (lv' := [(1, .int (nI 0)), (0, .ref y_)]) hx hb dX7_saves_50 rfl hl (by decide) rfl (fun ls hl => ?_)
          have L_51 : ∀ (n_51 : Nat) (i_ : Nat) (n_ : Nat) (f0_ : Nat → Int64) (_ : 110 - i_ < n_51) (ji : i_ ≤ 103) (jn5 : n_ ≤ 5) (jn6 : n_ + 1 = mn6 ke) (jfin : PF (fun j8 => if 103 * n_ ≤ j8 ∧ j8 < 103 * n_ + 103 then mV T (j8 - 103 * n_) else f0_ j8) (mn6 ke) (svS Ss ke T)) (Hq : Heap) (lcq : List Loc), va_P G.1 vwCl [(y_, .inr (7, [.ref (ca 0), .ref (ca 1), .ref (ca 2), .int (nI n_), .ref (ca 3), .int (nI ty_), .int (nI th), .int (nI po), .int (bI fl_), .ref (ca 4), .int (nI tl), .ref (ca 5)])), (ca 0, .inl (G.2.2.1, 103, .inr (.inl (mV T)))), (ca 2, .inl (G.2.2.1, 618, .inr (.inl (fun j8 => if 103 * n_ ≤ j8 ∧ j8 < 103 * n_ + i_ then mV T (j8 - 103 * n_) else f0_ j8))))] Hq → va_D A [(y_, .inr (7, [.ref (ca 0), .ref (ca 1), .ref (ca 2), .int (nI n_), .ref (ca 3), .int (nI ty_), .int (nI th), .int (nI po), .int (bI fl_), .ref (ca 4), .int (nI tl), .ref (ca 5)])), (ca 0, .inl (G.2.2.1, 103, .inr (.inl (mV T)))), (ca 2, .inl (G.2.2.1, 618, .inr (.inl (fun j8 => if 103 * n_ ≤ j8 ∧ j8 < 103 * n_ + i_ then mV T (j8 - 103 * n_) else f0_ j8))))] → va_S A s.heap Hq lcq → ∀ ls : Array Slot, lv_has ls 2 [(1, .int (nI i_)), (0, .ref y_)] → W p l e ({ frames := 0, cells := 0, slots := 0, locals := 0 }) s m args below meth c Hq lcq 0 0 (MQ below (cr_Q G RR A) args s 0 0 A) (F0 m 51 ls []) := by
            intro n_51
            induction n_51 with
            | zero => intro i_ n_ f0_ hmu_51; exact absurd hmu_51 (Nat.not_lt_zero _)
            | succ n_51 ih_51 =>
              intro i_ n_ f0_ hmu_51 ji jn5 jn6 jfin Hq lcq hP hD hS ls hl
              refine lv_iload_n hx hb dX7_saves_51 rfl (lv_at hl 0 rfl) ?_
              refine lv_bipush (v := nI 103) hx hb dX7_saves_52 (by decide) ?_
              refine ks_icmp_ge (tgt := 83) hx hb dX7_saves_54 (by decide) (by omega) (by omega) (fun c_54 => ?_) (fun c_54 => ?_)
              · obtain rfl : i_ = 103 := by omega
                refine lv_aload_n hx hb dX7_saves_83 rfl (lv_at hl 1 rfl) ?_
                refine lv_dup hx hb dX7_saves_84 rfl ?_
                refine va_get (D := G.1) (ci := 7) (v := .int (nI n_)) (C := RX7) (T := TX7) (N := 12) hx hb hts hin7 hown hK hP 0 rfl rfl 3 (by decide) (hts (.fieldLink RX7 47 "PowerTablesModel" "kept" "I") (List.mem_of_getElem? (i := 1) rfl)) (fun _ h9 => h9) rfl dX7_saves_85 ?_
                refine lv_iconst (v := nI 1) hx hb dX7_saves_88 (by decide) ?_
                refine ks_iaddN hx hb dX7_saves_89 ?_
                refine ks_vI (show nI (n_ + 1) = nI (mn6 ke) from congrArg nI jn6) ?_
                refine va_put (D := G.1) (ci := 7) (v := .int (nI (mn6 ke))) (ty := .int) (C := RX7) (T := TX7) (N := 12) hx hb hts hin7 tyX7 tyX7_ok nmX7 hown hK hP hD hS 0 rfl rfl 3 (by decide) (hts (.fieldLink RX7 47 "PowerTablesModel" "kept" "I") (List.mem_of_getElem? (i := 1) rfl)) (fun _ h9 => h9) rfl (tyX7_ok 3 (by decide)) rfl rfl (Nat.le_of_ble_eq_true rfl) dX7_saves_90 (fun Hq lcq hP hD hS => ?_)
                have hP : va_P G.1 vwCl [(y_, .inr (7, [.ref (ca 0), .ref (ca 1), .ref (ca 2), .int (nI (mn6 ke)), .ref (ca 3), .int (nI ty_), .int (nI th), .int (nI po), .int (bI fl_), .ref (ca 4), .int (nI tl), .ref (ca 5)])), (ca 0, .inl (G.2.2.1, 103, .inr (.inl (mV T)))), (ca 2, .inl (G.2.2.1, 618, .inr (.inl (fun j8 => if 103 * n_ ≤ j8 ∧ j8 < 103 * n_ + 103 then mV T (j8 - 103 * n_) else f0_ j8))))] _ := hP
                have hD : va_D A [(y_, .inr (7, [.ref (ca 0), .ref (ca 1), .ref (ca 2), .int (nI (mn6 ke)), .ref (ca 3), .int (nI ty_), .int (nI th), .int (nI po), .int (bI fl_), .ref (ca 4), .int (nI tl), .ref (ca 5)])), (ca 0, .inl (G.2.2.1, 103, .inr (.inl (mV T)))), (ca 2, .inl (G.2.2.1, 618, .inr (.inl (fun j8 => if 103 * n_ ≤ j8 ∧ j8 < 103 * n_ + 103 then mV T (j8 - 103 * n_) else f0_ j8))))] := hD
                exact cr_vret hx hb hr hlocks hK hP hD hS dX7_saves_93 (by rw [hRR]; exact ⟨fun j8 => if 103 * n_ ≤ j8 ∧ j8 < 103 * n_ + 103 then mV T (j8 - 103 * n_) else f0_ j8, rfl, rfl, jfin⟩)
              · refine lv_aload_n hx hb dX7_saves_57 rfl (lv_at hl 1 rfl) ?_
                refine va_get (D := G.1) (ci := 7) (v := .ref (ca 2)) (C := RX7) (T := TX7) (N := 12) hx hb hts hin7 hown hK hP 0 rfl rfl 2 (by decide) (hts (.fieldLink RX7 16 "PowerTablesModel" "past" "[J") (List.mem_of_getElem? (i := 2) rfl)) (fun _ h9 => h9) rfl dX7_saves_58 ?_
                refine lv_bipush (v := nI 103) hx hb dX7_saves_61 (by decide) ?_
                refine lv_aload_n hx hb dX7_saves_63 rfl (lv_at hl 1 rfl) ?_
                refine va_get (D := G.1) (ci := 7) (v := .int (nI n_)) (C := RX7) (T := TX7) (N := 12) hx hb hts hin7 hown hK hP 0 rfl rfl 3 (by decide) (hts (.fieldLink RX7 47 "PowerTablesModel" "kept" "I") (List.mem_of_getElem? (i := 1) rfl)) (fun _ h9 => h9) rfl dX7_saves_64 ?_
                refine ks_imulN hx hb dX7_saves_67 ?_
                refine lv_iload_n hx hb dX7_saves_68 rfl (lv_at hl 0 rfl) ?_
                refine ks_iaddN hx hb dX7_saves_69 ?_
                refine lv_aload_n hx hb dX7_saves_70 rfl (lv_at hl 1 rfl) ?_
                refine va_get (D := G.1) (ci := 7) (v := .ref (ca 0)) (C := RX7) (T := TX7) (N := 12) hx hb hts hin7 hown hK hP 0 rfl rfl 0 (by decide) (hts (.fieldLink RX7 7 "PowerTablesModel" "now" "[J") (List.mem_of_getElem? (i := 3) rfl)) (fun _ h9 => h9) rfl dX7_saves_71 ?_
                refine lv_iload_n hx hb dX7_saves_74 rfl (lv_at hl 0 rfl) ?_
                refine ks_lald hx hb hK hP 1 rfl (by omega) (by decide) dX7_saves_75 ?_
                refine ks_vL (show mV T i_ = mV T i_ from rfl) ?_
                refine ks_last (f' := fun j8 => if 103 * n_ ≤ j8 ∧ j8 < 103 * n_ + (i_ + 1) then mV T (j8 - 103 * n_) else f0_ j8) hx hb hK hP hD hS 2 rfl (by omega) (by decide) (cpU f0_ (103 * n_) i_ (mV T i_) (mV T) rfl) dX7_saves_76 (fun Hq lcq hP hD hS => ?_)
                have hP : va_P G.1 vwCl [(y_, .inr (7, [.ref (ca 0), .ref (ca 1), .ref (ca 2), .int (nI n_), .ref (ca 3), .int (nI ty_), .int (nI th), .int (nI po), .int (bI fl_), .ref (ca 4), .int (nI tl), .ref (ca 5)])), (ca 0, .inl (G.2.2.1, 103, .inr (.inl (mV T)))), (ca 2, .inl (G.2.2.1, 618, .inr (.inl (fun j8 => if 103 * n_ ≤ j8 ∧ j8 < 103 * n_ + (i_ + 1) then mV T (j8 - 103 * n_) else f0_ j8))))] _ := hP
                have hD : va_D A [(y_, .inr (7, [.ref (ca 0), .ref (ca 1), .ref (ca 2), .int (nI n_), .ref (ca 3), .int (nI ty_), .int (nI th), .int (nI po), .int (bI fl_), .ref (ca 4), .int (nI tl), .ref (ca 5)])), (ca 0, .inl (G.2.2.1, 103, .inr (.inl (mV T)))), (ca 2, .inl (G.2.2.1, 618, .inr (.inl (fun j8 => if 103 * n_ ≤ j8 ∧ j8 < 103 * n_ + (i_ + 1) then mV T (j8 - 103 * n_) else f0_ j8))))] := hD
                refine lv_iinc (v := nI (i_ + 1)) (lv' := [(1, .int (nI (i_ + 1))), (0, .ref y_)]) hx hb dX7_saves_77 hl (k := 0) rfl (ks_inc i_ 1) (by decide) rfl (fun ls hl => ?_)
                refine lv_goto (tgt := 51) hx hb dX7_saves_80 (by decide) ?_
                exact ih_51  (i_ + 1) n_ f0_ (by omega) (by omega) (jn5) (jn6) (jfin) _ _ hP hD hS ls (lv_sub hl [0, 1] rfl)
          exact L_51 _ 0 (ke - 1) (fun j8 => if j8 < 515 then f_ (j8 + 103) else f_ j8) (Nat.lt_succ_self _) (by omega) (by omega) (by first | exact (if_pos (by omega)).symm | (obtain rfl : ke = 6 := (by omega); rfl)) (by first | exact PF_lt jpf (by omega) | (obtain rfl : ke = 6 := (by omega); exact PF_6 jpf)) _ _ hP hD hS ls (lv_sub hl [0, 1] rfl)
        · refine lv_aload_n hx hb dX7_saves_18 rfl (lv_at hl 1 rfl) ?_
          refine va_get (D := G.1) (ci := 7) (v := .ref (ca 2)) (C := RX7) (T := TX7) (N := 12) hx hb hts hin7 hown hK hP 0 rfl rfl 2 (by decide) (hts (.fieldLink RX7 16 "PowerTablesModel" "past" "[J") (List.mem_of_getElem? (i := 2) rfl)) (fun _ h9 => h9) rfl dX7_saves_19 ?_
          refine lv_iload_n hx hb dX7_saves_22 rfl (lv_at hl 0 rfl) ?_
          refine lv_aload_n hx hb dX7_saves_23 rfl (lv_at hl 1 rfl) ?_
          refine va_get (D := G.1) (ci := 7) (v := .ref (ca 2)) (C := RX7) (T := TX7) (N := 12) hx hb hts hin7 hown hK hP 0 rfl rfl 2 (by decide) (hts (.fieldLink RX7 16 "PowerTablesModel" "past" "[J") (List.mem_of_getElem? (i := 2) rfl)) (fun _ h9 => h9) rfl dX7_saves_24 ?_
          refine lv_iload_n hx hb dX7_saves_27 rfl (lv_at hl 0 rfl) ?_
          refine lv_bipush (v := nI 103) hx hb dX7_saves_28 (by decide) ?_
          refine ks_iaddN hx hb dX7_saves_30 ?_
          refine ks_lald hx hb hK hP 2 rfl (by omega) (by decide) dX7_saves_31 ?_
          refine ks_vL (show (fun j8 => if j8 < i_ then f_ (j8 + 103) else f_ j8) (i_ + 103) = f_ (i_ + 103) from if_neg (by omega)) ?_
          refine ks_last (f' := fun j8 => if j8 < i_ + 1 then f_ (j8 + 103) else f_ j8) hx hb hK hP hD hS 2 rfl (by omega) (by decide) (cpS f_ i_) dX7_saves_32 (fun Hq lcq hP hD hS => ?_)
          have hP : va_P G.1 vwCl [(y_, .inr (7, [.ref (ca 0), .ref (ca 1), .ref (ca 2), .int (nI ke), .ref (ca 3), .int (nI ty_), .int (nI th), .int (nI po), .int (bI fl_), .ref (ca 4), .int (nI tl), .ref (ca 5)])), (ca 0, .inl (G.2.2.1, 103, .inr (.inl (mV T)))), (ca 2, .inl (G.2.2.1, 618, .inr (.inl (fun j8 => if j8 < i_ + 1 then f_ (j8 + 103) else f_ j8))))] _ := hP
          have hD : va_D A [(y_, .inr (7, [.ref (ca 0), .ref (ca 1), .ref (ca 2), .int (nI ke), .ref (ca 3), .int (nI ty_), .int (nI th), .int (nI po), .int (bI fl_), .ref (ca 4), .int (nI tl), .ref (ca 5)])), (ca 0, .inl (G.2.2.1, 103, .inr (.inl (mV T)))), (ca 2, .inl (G.2.2.1, 618, .inr (.inl (fun j8 => if j8 < i_ + 1 then f_ (j8 + 103) else f_ j8))))] := hD
          refine lv_iinc (v := nI (i_ + 1)) (lv' := [(1, .int (nI (i_ + 1))), (0, .ref y_)]) hx hb dX7_saves_33 hl (k := 0) rfl (ks_inc i_ 1) (by decide) rfl (fun ls hl => ?_)
          refine lv_goto (tgt := 11) hx hb dX7_saves_36 (by decide) ?_
          exact ih_11  (i_ + 1) (by omega) (by omega) _ _ hP hD hS ls (lv_sub hl [0, 1] rfl)
    rw [← cpS0 f_] at hP hD
    exact L_11 _ 0 (Nat.lt_succ_self _) (by omega) _ _ hP hD hS ls (lv_sub hl [0, 1] rfl)
set_option maxHeartbeats 4000000 in
set_option maxRecDepth 100000 in
theorem c_X7_undo (G : GG) (l : Launch) (y_ : Nat) (ca : Nat → Nat) (ke : Nat) (ty_ : Nat) (th : Nat) (po : Nat) (fl_ : Prop) (tl : Nat) (T : TS) (f_ : Nat → Int64) (Ss : Nat → TS) (jk6 : ke ≤ 6) (jpf : PF f_ ke Ss) (j1 : 1 ≤ ke) : Cr G l yX7_undo wsX7_undo ({ frames := 1, cells := 0, slots := 0, locals := 21 }) 0 0 [.ref y_] [(y_, .inr (7, [.ref (ca 0), .ref (ca 1), .ref (ca 2), .int (nI ke), .ref (ca 3), .int (nI ty_), .int (nI th), .int (nI po), .int (bI fl_), .ref (ca 4), .int (nI tl), .ref (ca 5)])), (ca 0, .inl (G.2.2.1, 103, .inr (.inl (mV T)))), (ca 2, .inl (G.2.2.1, 618, .inr (.inl (f_))))] (ctR (some (.int (nI (ke - 1)))) [(y_, .inr (7, [.ref (ca 0), .ref (ca 1), .ref (ca 2), .int (nI (ke - 1)), .ref (ca 3), .int (nI ty_), .int (nI 0), .int (nI po), .int (bI fl_), .ref (ca 4), .int (nI tl), .ref (ca 5)])), (ca 0, .inl (G.2.2.1, 103, .inr (.inl (mV (Ss (ke - 1)))))), (ca 2, .inl (G.2.2.1, 618, .inr (.inl (f_))))]) := by
  refine cr_intro (cc := cX7_undo) (maxL := 2) (ret := (some .int)) (own := RX7) (by decide) rfl rfl (Nat.le_of_ble_eq_true rfl) ?_
  intro p e s m args below meth c A hx hb hr hml hts hown hlocks hnm hNX hP hK hD hA hS ls hl
  obtain ⟨RR, hRR⟩ : ∃ RR, RR = (ctR (some (.int (nI (ke - 1)))) [(y_, .inr (7, [.ref (ca 0), .ref (ca 1), .ref (ca 2), .int (nI (ke - 1)), .ref (ca 3), .int (nI ty_), .int (nI 0), .int (nI po), .int (bI fl_), .ref (ca 4), .int (nI tl), .ref (ca 5)])), (ca 0, .inl (G.2.2.1, 103, .inr (.inl (mV (Ss (ke - 1)))))), (ca 2, .inl (G.2.2.1, 618, .inr (.inl (f_))))]) := ⟨_, rfl⟩
  rw [← hRR]
  have hl : lv_has ls 2 [(0, .ref y_)] := hl
  have hin7 : ∀ w ∈ u_ws RX7 TX7 12, w ∈ wsX7_undo := fun w h => List.mem_cons_of_mem _ (List.mem_append_right _ h)
  refine lv_aload_n hx hb dX7_undo_0 rfl (lv_at hl 0 rfl) ?_
  refine lv_iconst (v := nI 0) hx hb dX7_undo_1 (by decide) ?_
  refine va_put (D := G.1) (ci := 7) (v := .int (nI 0)) (ty := .int) (C := RX7) (T := TX7) (N := 12) hx hb hts hin7 tyX7 tyX7_ok nmX7 hown hK hP hD hS 0 rfl rfl 6 (by decide) (hts (.fieldLink RX7 39 "PowerTablesModel" "thrown" "I") (List.mem_of_getElem? (i := 1) rfl)) (fun _ h9 => h9) rfl (tyX7_ok 6 (by decide)) rfl rfl (Nat.le_of_ble_eq_true rfl) dX7_undo_2 (fun Hq lcq hP hD hS => ?_)
  have hP : va_P G.1 vwCl [(y_, .inr (7, [.ref (ca 0), .ref (ca 1), .ref (ca 2), .int (nI ke), .ref (ca 3), .int (nI ty_), .int (nI 0), .int (nI po), .int (bI fl_), .ref (ca 4), .int (nI tl), .ref (ca 5)])), (ca 0, .inl (G.2.2.1, 103, .inr (.inl (mV T)))), (ca 2, .inl (G.2.2.1, 618, .inr (.inl (f_))))] _ := hP
  have hD : va_D A [(y_, .inr (7, [.ref (ca 0), .ref (ca 1), .ref (ca 2), .int (nI ke), .ref (ca 3), .int (nI ty_), .int (nI 0), .int (nI po), .int (bI fl_), .ref (ca 4), .int (nI tl), .ref (ca 5)])), (ca 0, .inl (G.2.2.1, 103, .inr (.inl (mV T)))), (ca 2, .inl (G.2.2.1, 618, .inr (.inl (f_))))] := hD
  refine lv_aload_n hx hb dX7_undo_5 rfl (lv_at hl 0 rfl) ?_
  refine va_get (D := G.1) (ci := 7) (v := .int (nI ke)) (C := RX7) (T := TX7) (N := 12) hx hb hts hin7 hown hK hP 0 rfl rfl 3 (by decide) (hts (.fieldLink RX7 47 "PowerTablesModel" "kept" "I") (List.mem_of_getElem? (i := 2) rfl)) (fun _ h9 => h9) rfl dX7_undo_6 ?_
  refine ks_if_ne (tgt := 18) hx hb dX7_undo_9 (by decide) (by omega) (fun c_9 => ?_) (fun c_9 => ?_)
  · refine lv_aload_n hx hb dX7_undo_18 rfl (lv_at hl 0 rfl) ?_
    refine lv_dup hx hb dX7_undo_19 rfl ?_
    refine va_get (D := G.1) (ci := 7) (v := .int (nI ke)) (C := RX7) (T := TX7) (N := 12) hx hb hts hin7 hown hK hP 0 rfl rfl 3 (by decide) (hts (.fieldLink RX7 47 "PowerTablesModel" "kept" "I") (List.mem_of_getElem? (i := 2) rfl)) (fun _ h9 => h9) rfl dX7_undo_20 ?_
    refine lv_iconst (v := nI 1) hx hb dX7_undo_23 (by decide) ?_
    refine ks_isubN hx hb dX7_undo_24 (by omega) ?_
    refine va_put (D := G.1) (ci := 7) (v := .int (nI (ke - 1))) (ty := .int) (C := RX7) (T := TX7) (N := 12) hx hb hts hin7 tyX7 tyX7_ok nmX7 hown hK hP hD hS 0 rfl rfl 3 (by decide) (hts (.fieldLink RX7 47 "PowerTablesModel" "kept" "I") (List.mem_of_getElem? (i := 2) rfl)) (fun _ h9 => h9) rfl (tyX7_ok 3 (by decide)) rfl rfl (Nat.le_of_ble_eq_true rfl) dX7_undo_25 (fun Hq lcq hP hD hS => ?_)
    have hP : va_P G.1 vwCl [(y_, .inr (7, [.ref (ca 0), .ref (ca 1), .ref (ca 2), .int (nI (ke - 1)), .ref (ca 3), .int (nI ty_), .int (nI 0), .int (nI po), .int (bI fl_), .ref (ca 4), .int (nI tl), .ref (ca 5)])), (ca 0, .inl (G.2.2.1, 103, .inr (.inl (mV T)))), (ca 2, .inl (G.2.2.1, 618, .inr (.inl (f_))))] _ := hP
    have hD : va_D A [(y_, .inr (7, [.ref (ca 0), .ref (ca 1), .ref (ca 2), .int (nI (ke - 1)), .ref (ca 3), .int (nI ty_), .int (nI 0), .int (nI po), .int (bI fl_), .ref (ca 4), .int (nI tl), .ref (ca 5)])), (ca 0, .inl (G.2.2.1, 103, .inr (.inl (mV T)))), (ca 2, .inl (G.2.2.1, 618, .inr (.inl (f_))))] := hD
    have hP := hP.cgJ 1 (g := fun j8 => if j8 < 0 then f_ (103 * (ke - 1) + j8) else mV T j8) rfl (fun q9 h9 => (congrFun (cpQ0 f_ (103 * (ke - 1)) (mV T)) q9).symm)
    have hD := hD.set (p := 1) (e := .inl (G.2.2.1, 103, .inr <| .inl (fun j8 => if j8 < 0 then f_ (103 * (ke - 1) + j8) else mV T j8))) rfl
    have hP : va_P G.1 vwCl [(y_, .inr (7, [.ref (ca 0), .ref (ca 1), .ref (ca 2), .int (nI (ke - 1)), .ref (ca 3), .int (nI ty_), .int (nI 0), .int (nI po), .int (bI fl_), .ref (ca 4), .int (nI tl), .ref (ca 5)])), (ca 0, .inl (G.2.2.1, 103, .inr (.inl (fun j8 => if j8 < 0 then f_ (103 * (ke - 1) + j8) else mV T j8)))), (ca 2, .inl (G.2.2.1, 618, .inr (.inl (f_))))] _ := hP
    have hD : va_D A [(y_, .inr (7, [.ref (ca 0), .ref (ca 1), .ref (ca 2), .int (nI (ke - 1)), .ref (ca 3), .int (nI ty_), .int (nI 0), .int (nI po), .int (bI fl_), .ref (ca 4), .int (nI tl), .ref (ca 5)])), (ca 0, .inl (G.2.2.1, 103, .inr (.inl (fun j8 => if j8 < 0 then f_ (103 * (ke - 1) + j8) else mV T j8)))), (ca 2, .inl (G.2.2.1, 618, .inr (.inl (f_))))] := hD
    refine lv_iconst (v := nI 0) hx hb dX7_undo_28 (by decide) ?_
    refine lv_istore_n (lv' := [(1, .int (nI 0)), (0, .ref y_)]) hx hb dX7_undo_29 rfl hl (by decide) rfl (fun ls hl => ?_)
    have L_30 : ∀ (n_30 : Nat) (i_ : Nat) (_ : 110 - i_ < n_30) (ji : i_ ≤ 103) (Hq : Heap) (lcq : List Loc), va_P G.1 vwCl [(y_, .inr (7, [.ref (ca 0), .ref (ca 1), .ref (ca 2), .int (nI (ke - 1)), .ref (ca 3), .int (nI ty_), .int (nI 0), .int (nI po), .int (bI fl_), .ref (ca 4), .int (nI tl), .ref (ca 5)])), (ca 0, .inl (G.2.2.1, 103, .inr (.inl (fun j8 => if j8 < i_ then f_ (103 * (ke - 1) + j8) else mV T j8)))), (ca 2, .inl (G.2.2.1, 618, .inr (.inl (f_))))] Hq → va_D A [(y_, .inr (7, [.ref (ca 0), .ref (ca 1), .ref (ca 2), .int (nI (ke - 1)), .ref (ca 3), .int (nI ty_), .int (nI 0), .int (nI po), .int (bI fl_), .ref (ca 4), .int (nI tl), .ref (ca 5)])), (ca 0, .inl (G.2.2.1, 103, .inr (.inl (fun j8 => if j8 < i_ then f_ (103 * (ke - 1) + j8) else mV T j8)))), (ca 2, .inl (G.2.2.1, 618, .inr (.inl (f_))))] → va_S A s.heap Hq lcq → ∀ ls : Array Slot, lv_has ls 2 [(1, .int (nI i_)), (0, .ref y_)] → W p l e ({ frames := 1, cells := 0, slots := 0, locals := 21 }) s m args below meth c Hq lcq 0 0 (MQ below (cr_Q G RR A) args s 0 0 A) (F0 m 30 ls []) := by
      intro n_30
      induction n_30 with
      | zero => intro i_ hmu_30; exact absurd hmu_30 (Nat.not_lt_zero _)
      | succ n_30 ih_30 =>
        intro i_ hmu_30 ji Hq lcq hP hD hS ls hl
        refine lv_iload_n hx hb dX7_undo_30 rfl (lv_at hl 0 rfl) ?_
        refine lv_bipush (v := nI 103) hx hb dX7_undo_31 (by decide) ?_
        refine ks_icmp_ge (tgt := 62) hx hb dX7_undo_33 (by decide) (by omega) (by omega) (fun c_33 => ?_) (fun c_33 => ?_)
        · obtain rfl : i_ = 103 := by omega
          have hP := hP.cgJ 1 (g := mV (Ss (ke - 1))) rfl (fun q9 h9 => (if_pos h9).trans (jpf (ke - 1) (by omega) q9 h9))
          have hD := hD.set (p := 1) (e := .inl (G.2.2.1, 103, .inr <| .inl (mV (Ss (ke - 1))))) rfl
          have hP : va_P G.1 vwCl [(y_, .inr (7, [.ref (ca 0), .ref (ca 1), .ref (ca 2), .int (nI (ke - 1)), .ref (ca 3), .int (nI ty_), .int (nI 0), .int (nI po), .int (bI fl_), .ref (ca 4), .int (nI tl), .ref (ca 5)])), (ca 0, .inl (G.2.2.1, 103, .inr (.inl (mV (Ss (ke - 1)))))), (ca 2, .inl (G.2.2.1, 618, .inr (.inl (f_))))] _ := hP
          have hD : va_D A [(y_, .inr (7, [.ref (ca 0), .ref (ca 1), .ref (ca 2), .int (nI (ke - 1)), .ref (ca 3), .int (nI ty_), .int (nI 0), .int (nI po), .int (bI fl_), .ref (ca 4), .int (nI tl), .ref (ca 5)])), (ca 0, .inl (G.2.2.1, 103, .inr (.inl (mV (Ss (ke - 1)))))), (ca 2, .inl (G.2.2.1, 618, .inr (.inl (f_))))] := hD
          refine lv_aload_n hx hb dX7_undo_62 rfl (lv_at hl 1 rfl) ?_
          refine va_get (D := G.1) (ci := 7) (v := .int (nI (ke - 1))) (C := RX7) (T := TX7) (N := 12) hx hb hts hin7 hown hK hP 0 rfl rfl 3 (by decide) (hts (.fieldLink RX7 47 "PowerTablesModel" "kept" "I") (List.mem_of_getElem? (i := 2) rfl)) (fun _ h9 => h9) rfl dX7_undo_63 ?_
          exact cr_iret hx hb hr hlocks hK hP hD hS dX7_undo_66 (by rw [hRR]; exact ctR_i (rfl) (rfl))
        · refine lv_aload_n hx hb dX7_undo_36 rfl (lv_at hl 1 rfl) ?_
          refine va_get (D := G.1) (ci := 7) (v := .ref (ca 0)) (C := RX7) (T := TX7) (N := 12) hx hb hts hin7 hown hK hP 0 rfl rfl 0 (by decide) (hts (.fieldLink RX7 7 "PowerTablesModel" "now" "[J") (List.mem_of_getElem? (i := 3) rfl)) (fun _ h9 => h9) rfl dX7_undo_37 ?_
          refine lv_iload_n hx hb dX7_undo_40 rfl (lv_at hl 0 rfl) ?_
          refine lv_aload_n hx hb dX7_undo_41 rfl (lv_at hl 1 rfl) ?_
          refine va_get (D := G.1) (ci := 7) (v := .ref (ca 2)) (C := RX7) (T := TX7) (N := 12) hx hb hts hin7 hown hK hP 0 rfl rfl 2 (by decide) (hts (.fieldLink RX7 16 "PowerTablesModel" "past" "[J") (List.mem_of_getElem? (i := 4) rfl)) (fun _ h9 => h9) rfl dX7_undo_42 ?_
          refine lv_bipush (v := nI 103) hx hb dX7_undo_45 (by decide) ?_
          refine lv_aload_n hx hb dX7_undo_47 rfl (lv_at hl 1 rfl) ?_
          refine va_get (D := G.1) (ci := 7) (v := .int (nI (ke - 1))) (C := RX7) (T := TX7) (N := 12) hx hb hts hin7 hown hK hP 0 rfl rfl 3 (by decide) (hts (.fieldLink RX7 47 "PowerTablesModel" "kept" "I") (List.mem_of_getElem? (i := 2) rfl)) (fun _ h9 => h9) rfl dX7_undo_48 ?_
          refine ks_imulN hx hb dX7_undo_51 ?_
          refine lv_iload_n hx hb dX7_undo_52 rfl (lv_at hl 0 rfl) ?_
          refine ks_iaddN hx hb dX7_undo_53 ?_
          refine ks_lald hx hb hK hP 2 rfl (by omega) (by decide) dX7_undo_54 ?_
          refine ks_last (f' := fun j8 => if j8 < (i_ + 1) then f_ (103 * (ke - 1) + j8) else mV T j8) hx hb hK hP hD hS 1 rfl (by omega) (by decide) (cpQ f_ (103 * (ke - 1)) (mV T) i_) dX7_undo_55 (fun Hq lcq hP hD hS => ?_)
          have hP : va_P G.1 vwCl [(y_, .inr (7, [.ref (ca 0), .ref (ca 1), .ref (ca 2), .int (nI (ke - 1)), .ref (ca 3), .int (nI ty_), .int (nI 0), .int (nI po), .int (bI fl_), .ref (ca 4), .int (nI tl), .ref (ca 5)])), (ca 0, .inl (G.2.2.1, 103, .inr (.inl (fun j8 => if j8 < (i_ + 1) then f_ (103 * (ke - 1) + j8) else mV T j8)))), (ca 2, .inl (G.2.2.1, 618, .inr (.inl (f_))))] _ := hP
          have hD : va_D A [(y_, .inr (7, [.ref (ca 0), .ref (ca 1), .ref (ca 2), .int (nI (ke - 1)), .ref (ca 3), .int (nI ty_), .int (nI 0), .int (nI po), .int (bI fl_), .ref (ca 4), .int (nI tl), .ref (ca 5)])), (ca 0, .inl (G.2.2.1, 103, .inr (.inl (fun j8 => if j8 < (i_ + 1) then f_ (103 * (ke - 1) + j8) else mV T j8)))), (ca 2, .inl (G.2.2.1, 618, .inr (.inl (f_))))] := hD
          refine lv_iinc (v := nI (i_ + 1)) (lv' := [(1, .int (nI (i_ + 1))), (0, .ref y_)]) hx hb dX7_undo_56 hl (k := 0) rfl (ks_inc i_ 1) (by decide) rfl (fun ls hl => ?_)
          refine lv_goto (tgt := 30) hx hb dX7_undo_59 (by decide) ?_
          exact ih_30  (i_ + 1) (by omega) (by omega) _ _ hP hD hS ls (lv_sub hl [0, 1] rfl)
    exact L_30 _ 0 (Nat.lt_succ_self _) (by omega) _ _ hP hD hS ls (lv_sub hl [0, 1] rfl)
  · omega
set_option maxHeartbeats 4000000 in
set_option maxRecDepth 100000 in
theorem c_X7_undo__b1 (G : GG) (l : Launch) (y_ : Nat) (ca : Nat → Nat) (ke : Nat) (ty_ : Nat) (th : Nat) (po : Nat) (fl_ : Prop) (tl : Nat)  : Cr G l yX7_undo wsX7_undo ({ frames := 1, cells := 0, slots := 0, locals := 21 }) 0 0 [.ref y_] [(y_, .inr (7, [.ref (ca 0), .ref (ca 1), .ref (ca 2), .int (nI 0), .ref (ca 3), .int (nI ty_), .int (nI th), .int (nI po), .int (bI fl_), .ref (ca 4), .int (nI tl), .ref (ca 5)]))] (ctR (some (.int (nI 0))) [(y_, .inr (7, [.ref (ca 0), .ref (ca 1), .ref (ca 2), .int (nI 0), .ref (ca 3), .int (nI ty_), .int (nI 1), .int (nI po), .int (bI fl_), .ref (ca 4), .int (nI tl), .ref (ca 5)]))]) := by
  refine cr_intro (cc := cX7_undo) (maxL := 2) (ret := (some .int)) (own := RX7) (by decide) rfl rfl (Nat.le_of_ble_eq_true rfl) ?_
  intro p e s m args below meth c A hx hb hr hml hts hown hlocks hnm hNX hP hK hD hA hS ls hl
  obtain ⟨RR, hRR⟩ : ∃ RR, RR = (ctR (some (.int (nI 0))) [(y_, .inr (7, [.ref (ca 0), .ref (ca 1), .ref (ca 2), .int (nI 0), .ref (ca 3), .int (nI ty_), .int (nI 1), .int (nI po), .int (bI fl_), .ref (ca 4), .int (nI tl), .ref (ca 5)]))]) := ⟨_, rfl⟩
  rw [← hRR]
  have hl : lv_has ls 2 [(0, .ref y_)] := hl
  have hin7 : ∀ w ∈ u_ws RX7 TX7 12, w ∈ wsX7_undo := fun w h => List.mem_cons_of_mem _ (List.mem_append_right _ h)
  refine lv_aload_n hx hb dX7_undo_0 rfl (lv_at hl 0 rfl) ?_
  refine lv_iconst (v := nI 0) hx hb dX7_undo_1 (by decide) ?_
  refine va_put (D := G.1) (ci := 7) (v := .int (nI 0)) (ty := .int) (C := RX7) (T := TX7) (N := 12) hx hb hts hin7 tyX7 tyX7_ok nmX7 hown hK hP hD hS 0 rfl rfl 6 (by decide) (hts (.fieldLink RX7 39 "PowerTablesModel" "thrown" "I") (List.mem_of_getElem? (i := 1) rfl)) (fun _ h9 => h9) rfl (tyX7_ok 6 (by decide)) rfl rfl (Nat.le_of_ble_eq_true rfl) dX7_undo_2 (fun Hq lcq hP hD hS => ?_)
  have hP : va_P G.1 vwCl [(y_, .inr (7, [.ref (ca 0), .ref (ca 1), .ref (ca 2), .int (nI 0), .ref (ca 3), .int (nI ty_), .int (nI 0), .int (nI po), .int (bI fl_), .ref (ca 4), .int (nI tl), .ref (ca 5)]))] _ := hP
  have hD : va_D A [(y_, .inr (7, [.ref (ca 0), .ref (ca 1), .ref (ca 2), .int (nI 0), .ref (ca 3), .int (nI ty_), .int (nI 0), .int (nI po), .int (bI fl_), .ref (ca 4), .int (nI tl), .ref (ca 5)]))] := hD
  refine lv_aload_n hx hb dX7_undo_5 rfl (lv_at hl 0 rfl) ?_
  refine va_get (D := G.1) (ci := 7) (v := .int (nI 0)) (C := RX7) (T := TX7) (N := 12) hx hb hts hin7 hown hK hP 0 rfl rfl 3 (by decide) (hts (.fieldLink RX7 47 "PowerTablesModel" "kept" "I") (List.mem_of_getElem? (i := 2) rfl)) (fun _ h9 => h9) rfl dX7_undo_6 ?_
  refine ks_if_ne (tgt := 18) hx hb dX7_undo_9 (by decide) (by omega) (fun c_9 => ?_) (fun c_9 => ?_)
  · omega
  · refine lv_aload_n hx hb dX7_undo_12 rfl (lv_at hl 0 rfl) ?_
    refine lv_iconst (v := nI 1) hx hb dX7_undo_13 (by decide) ?_
    refine cr_V (wr := []) (As := [.int (nI 1)]) (rest := []) ⟨hx, hb, hml, hown, hts⟩ (c_X7_fails G l y_ ca 0 ty_ 0 po fl_ tl 1 ) (cwV 1 hts gX7_undo_X7_fails rfl rfl rfl (by decide +kernel) ⟨Nat.le_of_ble_eq_true rfl, Nat.le_of_ble_eq_true rfl⟩) dX7_undo_14 hK hNX hP hD hS hA hl 0 7 rfl rfl rfl [0] [] rfl rfl rfl rfl (by decide) rfl (Nat.le_of_ble_eq_true rfl) ⟨Nat.le_of_ble_eq_true rfl, Nat.le_of_ble_eq_true rfl⟩ rfl (fun v' w' Hq lcq hR' hP hD hS => ?_)
    obtain ⟨rfl, rfl⟩ := hR'
    have hP : va_P G.1 vwCl [(y_, .inr (7, [.ref (ca 0), .ref (ca 1), .ref (ca 2), .int (nI 0), .ref (ca 3), .int (nI ty_), .int (nI 1), .int (nI po), .int (bI fl_), .ref (ca 4), .int (nI tl), .ref (ca 5)]))] _ := hP.sub [0] rfl
    have hD : va_D A [(y_, .inr (7, [.ref (ca 0), .ref (ca 1), .ref (ca 2), .int (nI 0), .ref (ca 3), .int (nI ty_), .int (nI 1), .int (nI po), .int (bI fl_), .ref (ca 4), .int (nI tl), .ref (ca 5)]))] := hD.sub [0] (by decide +kernel) rfl
    exact cr_iret hx hb hr hlocks hK hP hD hS dX7_undo_17 (by rw [hRR]; exact ctR_i (rfl) (rfl))
set_option maxHeartbeats 4000000 in
set_option maxRecDepth 100000 in
theorem c_X7_mayPrint (G : GG) (l : Launch) (y_ : Nat) (ca : Nat → Nat) (ke : Nat) (ty_ : Nat) (th : Nat) (po : Nat) (fl_ : Prop) (tl : Nat) (T : TS) (m9_ : Nat) (jn4 : T.s 4 ≤ 40) (j1 : 1 ≤ m9_) (j2_ : m9_ ≤ 40) : Cr G l yX7_mayPrint wsX7_mayPrint ({ frames := 1, cells := 0, slots := 0, locals := 25 }) 0 0 [.ref y_, .int (nI m9_)] [(y_, .inr (7, [.ref (ca 0), .ref (ca 1), .ref (ca 2), .int (nI ke), .ref (ca 3), .int (nI ty_), .int (nI th), .int (nI po), .int (bI fl_), .ref (ca 4), .int (nI tl), .ref (ca 5)])), (ca 0, .inl (G.2.2.1, 103, .inr (.inl (mV T))))] (ctR (some (.int (nI (mpA T m9_)))) [(y_, .inr (7, [.ref (ca 0), .ref (ca 1), .ref (ca 2), .int (nI ke), .ref (ca 3), .int (nI ty_), .int (nI th), .int (nI po), .int (bI fl_), .ref (ca 4), .int (nI tl), .ref (ca 5)])), (ca 0, .inl (G.2.2.1, 103, .inr (.inl (mV T))))]) := by
  refine cr_intro (cc := cX7_mayPrint) (maxL := 2) (ret := (some .int)) (own := RX7) (by decide) rfl rfl (Nat.le_of_ble_eq_true rfl) ?_
  intro p e s m args below meth c A hx hb hr hml hts hown hlocks hnm hNX hP hK hD hA hS ls hl
  obtain ⟨RR, hRR⟩ : ∃ RR, RR = (ctR (some (.int (nI (mpA T m9_)))) [(y_, .inr (7, [.ref (ca 0), .ref (ca 1), .ref (ca 2), .int (nI ke), .ref (ca 3), .int (nI ty_), .int (nI th), .int (nI po), .int (bI fl_), .ref (ca 4), .int (nI tl), .ref (ca 5)])), (ca 0, .inl (G.2.2.1, 103, .inr (.inl (mV T))))]) := ⟨_, rfl⟩
  rw [← hRR]
  have hl : lv_has ls 2 [(0, .ref y_), (1, .int (nI m9_))] := hl
  have hin7 : ∀ w ∈ u_ws RX7 TX7 12, w ∈ wsX7_mayPrint := fun w h => List.mem_cons_of_mem _ (List.mem_append_right _ h)
  refine lv_iload_n hx hb dX7_mayPrint_0 rfl (lv_at hl 1 rfl) ?_
  refine ks_i2lN hx hb dX7_mayPrint_1 (by omega) ?_
  refine lv_lconst (v := lN 1) hx hb dX7_mayPrint_2 rfl ?_
  refine lv_ldc2 hx hb hown (hts (.constantLong RX7 79 (40)) (List.mem_of_getElem? (i := 1) rfl)) dX7_mayPrint_3 ?_
  refine ks_vL (show (40 : Int64) = lN 40 from rfl) ?_
  refine cr_S (wr := [(y_, .inr (7, [.ref (ca 0), .ref (ca 1), .ref (ca 2), .int (nI ke), .ref (ca 3), .int (nI ty_), .int (nI th), .int (nI po), .int (bI fl_), .ref (ca 4), .int (nI tl), .ref (ca 5)])), (ca 0, .inl (G.2.2.1, 103, .inr (.inl (mV T))))]) (As := [.long (lN m9_), .long (lN 1), .long (lN 40)]) (rest := []) ⟨hx, hb, hml, hown, hts⟩ (c_X7_in__n G l m9_ 1 40 (by omega) (by omega) (by omega)) (va_cwS 3 hts gX7_mayPrint_X7_in rfl rfl rfl (by decide +kernel) ⟨Nat.le_of_ble_eq_true rfl, Nat.le_of_ble_eq_true rfl⟩) dX7_mayPrint_6 hK hNX hP hD hS hA hl [] [0, 1] rfl rfl rfl rfl (by decide) rfl (Nat.le_of_ble_eq_true rfl) ⟨Nat.le_of_ble_eq_true rfl, Nat.le_of_ble_eq_true rfl⟩ rfl (fun v' w' Hq lcq hR' hP hD hS => ?_)
  obtain ⟨rfl, rfl⟩ := hR'
  have hP : va_P G.1 vwCl [(y_, .inr (7, [.ref (ca 0), .ref (ca 1), .ref (ca 2), .int (nI ke), .ref (ca 3), .int (nI ty_), .int (nI th), .int (nI po), .int (bI fl_), .ref (ca 4), .int (nI tl), .ref (ca 5)])), (ca 0, .inl (G.2.2.1, 103, .inr (.inl (mV T))))] _ := hP.sub [0, 1] rfl
  have hD : va_D A [(y_, .inr (7, [.ref (ca 0), .ref (ca 1), .ref (ca 2), .int (nI ke), .ref (ca 3), .int (nI ty_), .int (nI th), .int (nI po), .int (bI fl_), .ref (ca 4), .int (nI tl), .ref (ca 5)])), (ca 0, .inl (G.2.2.1, 103, .inr (.inl (mV T))))] := hD.sub [0, 1] (by decide +kernel) rfl
  refine ks_ifb_ne (tgt := 16) hx hb dX7_mayPrint_9 (by decide) (fun c_9 => ?_) (fun c_9 => ?_)
  · refine lv_aload_n hx hb dX7_mayPrint_16 rfl (lv_at hl 0 rfl) ?_
    refine va_get (D := G.1) (ci := 7) (v := .ref (ca 0)) (C := RX7) (T := TX7) (N := 12) hx hb hts hin7 hown hK hP 0 rfl rfl 0 (by decide) (hts (.fieldLink RX7 7 "PowerTablesModel" "now" "[J") (List.mem_of_getElem? (i := 2) rfl)) (fun _ h9 => h9) rfl dX7_mayPrint_17 ?_
    refine lv_iconst (v := nI 4) hx hb dX7_mayPrint_20 (by decide) ?_
    refine ks_lald hx hb hK hP 1 rfl (by omega) (by decide) dX7_mayPrint_21 ?_
    refine ks_vL (show mV T 4 = lN (T.s 4) from rfl) ?_
    refine lv_iload_n hx hb dX7_mayPrint_22 rfl (lv_at hl 1 rfl) ?_
    refine ks_i2lN hx hb dX7_mayPrint_23 (by omega) ?_
    refine ks_laddN hx hb dX7_mayPrint_24 ?_
    refine lv_ldc2 hx hb hown (hts (.constantLong RX7 79 (40)) (List.mem_of_getElem? (i := 1) rfl)) dX7_mayPrint_25 ?_
    refine ks_vL (show (40 : Int64) = lN 40 from rfl) ?_
    refine ks_lcN_le (tgt := 36) hx hb dX7_mayPrint_28 dX7_mayPrint_29 (by decide) (by omega) (by omega) (fun c_28 => ?_) (fun c_28 => ?_)
    · have hv : 0 = mpA T m9_ := (if_pos c_28).symm
      refine lv_iconst (v := nI 0) hx hb dX7_mayPrint_36 (by decide) ?_
      exact cr_iret hx hb hr hlocks hK hP hD hS dX7_mayPrint_37 (by rw [hRR]; exact ctR_i (congrArg nI hv) (rfl))
    · have hv : 2 = mpA T m9_ := (if_neg (by omega)).symm
      refine lv_iconst (v := nI 2) hx hb dX7_mayPrint_32 (by decide) ?_
      refine lv_goto (tgt := 37) hx hb dX7_mayPrint_33 (by decide) ?_
      exact cr_iret hx hb hr hlocks hK hP hD hS dX7_mayPrint_37 (by rw [hRR]; exact ctR_i (congrArg nI hv) (rfl))
  · exact absurd ⟨j1, j2_⟩ c_9
set_option maxHeartbeats 4000000 in
set_option maxRecDepth 100000 in
theorem c_X7_mayPrint__b1 (G : GG) (l : Launch) (y_ : Nat) (ca : Nat → Nat) (ke : Nat) (ty_ : Nat) (th : Nat) (po : Nat) (fl_ : Prop) (tl : Nat) (T : TS) (v_ : Int32) (h8 : ¬ (1 ≤ v_.toInt ∧ v_.toInt ≤ 40)) : Cr G l yX7_mayPrint wsX7_mayPrint ({ frames := 1, cells := 0, slots := 0, locals := 25 }) 0 0 [.ref y_, .int v_] [(y_, .inr (7, [.ref (ca 0), .ref (ca 1), .ref (ca 2), .int (nI ke), .ref (ca 3), .int (nI ty_), .int (nI th), .int (nI po), .int (bI fl_), .ref (ca 4), .int (nI tl), .ref (ca 5)])), (ca 0, .inl (G.2.2.1, 103, .inr (.inl (mV T))))] (ctR (some (.int (nI 1))) [(y_, .inr (7, [.ref (ca 0), .ref (ca 1), .ref (ca 2), .int (nI ke), .ref (ca 3), .int (nI ty_), .int (nI th), .int (nI po), .int (bI fl_), .ref (ca 4), .int (nI tl), .ref (ca 5)])), (ca 0, .inl (G.2.2.1, 103, .inr (.inl (mV T))))]) := by
  refine cr_intro (cc := cX7_mayPrint) (maxL := 2) (ret := (some .int)) (own := RX7) (by decide) rfl rfl (Nat.le_of_ble_eq_true rfl) ?_
  intro p e s m args below meth c A hx hb hr hml hts hown hlocks hnm hNX hP hK hD hA hS ls hl
  obtain ⟨RR, hRR⟩ : ∃ RR, RR = (ctR (some (.int (nI 1))) [(y_, .inr (7, [.ref (ca 0), .ref (ca 1), .ref (ca 2), .int (nI ke), .ref (ca 3), .int (nI ty_), .int (nI th), .int (nI po), .int (bI fl_), .ref (ca 4), .int (nI tl), .ref (ca 5)])), (ca 0, .inl (G.2.2.1, 103, .inr (.inl (mV T))))]) := ⟨_, rfl⟩
  rw [← hRR]
  have hl : lv_has ls 2 [(0, .ref y_), (1, .int v_)] := hl
  refine lv_iload_n hx hb dX7_mayPrint_0 rfl (lv_at hl 1 rfl) ?_
  refine lv_i2l hx hb dX7_mayPrint_1 rfl ?_
  refine lv_lconst (v := lN 1) hx hb dX7_mayPrint_2 rfl ?_
  refine lv_ldc2 hx hb hown (hts (.constantLong RX7 79 (40)) (List.mem_of_getElem? (i := 1) rfl)) dX7_mayPrint_3 ?_
  refine ks_vL (show (40 : Int64) = lN 40 from rfl) ?_
  refine cr_S (wr := [(y_, .inr (7, [.ref (ca 0), .ref (ca 1), .ref (ca 2), .int (nI ke), .ref (ca 3), .int (nI ty_), .int (nI th), .int (nI po), .int (bI fl_), .ref (ca 4), .int (nI tl), .ref (ca 5)])), (ca 0, .inl (G.2.2.1, 103, .inr (.inl (mV T))))]) (As := [.long v_.toInt64, .long (lN 1), .long (lN 40)]) (rest := []) ⟨hx, hb, hml, hown, hts⟩ (c_X7_in__i G l v_ 1 40 (by omega) (by omega)) (va_cwS 3 hts gX7_mayPrint_X7_in rfl rfl rfl (by decide +kernel) ⟨Nat.le_of_ble_eq_true rfl, Nat.le_of_ble_eq_true rfl⟩) dX7_mayPrint_6 hK hNX hP hD hS hA hl [] [0, 1] rfl rfl rfl rfl (by decide) rfl (Nat.le_of_ble_eq_true rfl) ⟨Nat.le_of_ble_eq_true rfl, Nat.le_of_ble_eq_true rfl⟩ rfl (fun v' w' Hq lcq hR' hP hD hS => ?_)
  obtain ⟨rfl, rfl⟩ := hR'
  have hP : va_P G.1 vwCl [(y_, .inr (7, [.ref (ca 0), .ref (ca 1), .ref (ca 2), .int (nI ke), .ref (ca 3), .int (nI ty_), .int (nI th), .int (nI po), .int (bI fl_), .ref (ca 4), .int (nI tl), .ref (ca 5)])), (ca 0, .inl (G.2.2.1, 103, .inr (.inl (mV T))))] _ := hP.sub [0, 1] rfl
  have hD : va_D A [(y_, .inr (7, [.ref (ca 0), .ref (ca 1), .ref (ca 2), .int (nI ke), .ref (ca 3), .int (nI ty_), .int (nI th), .int (nI po), .int (bI fl_), .ref (ca 4), .int (nI tl), .ref (ca 5)])), (ca 0, .inl (G.2.2.1, 103, .inr (.inl (mV T))))] := hD.sub [0, 1] (by decide +kernel) rfl
  refine ks_ifb_ne (tgt := 16) hx hb dX7_mayPrint_9 (by decide) (fun c_9 => ?_) (fun c_9 => ?_)
  · exact absurd c_9 h8
  · refine lv_iconst (v := nI 1) hx hb dX7_mayPrint_12 (by decide) ?_
    refine lv_goto (tgt := 37) hx hb dX7_mayPrint_13 (by decide) ?_
    exact cr_iret hx hb hr hlocks hK hP hD hS dX7_mayPrint_37 (by rw [hRR]; exact ctR_i (rfl) (rfl))
set_option maxHeartbeats 4000000 in
set_option maxRecDepth 100000 in
theorem c_X7_prints (G : GG) (l : Launch) (y_ : Nat) (ca : Nat → Nat) (ke : Nat) (ty_ : Nat) (th : Nat) (po : Nat) (fl_ : Prop) (tl : Nat) (T : TS) (m9_ : Nat) (jn : T.s 4 + m9_ ≤ 40) (jf_ : T.s 3 ≤ 99) (jp : T.s 2 ≤ 5) (jr : RB (T.s 4) T.r) (jw : ∀ d, d < 10 → T.w d + 800 < 2 ^ 30) (jl : T.s 1 < 2 ^ 30) (jd : T.s 5 + 800 < 2 ^ 30) : Cr G l yX7_prints wsX7_prints ({ frames := 2, cells := 0, slots := 0, locals := 51 }) 0 0 [.ref y_, .int (nI m9_)] [(y_, .inr (7, [.ref (ca 0), .ref (ca 1), .ref (ca 2), .int (nI ke), .ref (ca 3), .int (nI ty_), .int (nI th), .int (nI po), .int (bI fl_), .ref (ca 4), .int (nI tl), .ref (ca 5)])), (ca 0, .inl (G.2.2.1, 103, .inr (.inl (mV T))))] (ctR (some (.int (nI (blN T m9_)))) [(y_, .inr (7, [.ref (ca 0), .ref (ca 1), .ref (ca 2), .int (nI ke), .ref (ca 3), .int (nI ty_), .int (nI th), .int (nI po), .int (bI fl_), .ref (ca 4), .int (nI tl), .ref (ca 5)])), (ca 0, .inl (G.2.2.1, 103, .inr (.inl (mV (stN T m9_)))))]) := by
  refine cr_intro (cc := cX7_prints) (maxL := 5) (ret := (some .int)) (own := RX7) (by decide) rfl rfl (Nat.le_of_ble_eq_true rfl) ?_
  intro p e s m args below meth c A hx hb hr hml hts hown hlocks hnm hNX hP hK hD hA hS ls hl
  obtain ⟨RR, hRR⟩ : ∃ RR, RR = (ctR (some (.int (nI (blN T m9_)))) [(y_, .inr (7, [.ref (ca 0), .ref (ca 1), .ref (ca 2), .int (nI ke), .ref (ca 3), .int (nI ty_), .int (nI th), .int (nI po), .int (bI fl_), .ref (ca 4), .int (nI tl), .ref (ca 5)])), (ca 0, .inl (G.2.2.1, 103, .inr (.inl (mV (stN T m9_)))))]) := ⟨_, rfl⟩
  rw [← hRR]
  have hl : lv_has ls 5 [(0, .ref y_), (1, .int (nI m9_))] := hl
  have hin7 : ∀ w ∈ u_ws RX7 TX7 12, w ∈ wsX7_prints := fun w h => List.mem_cons_of_mem _ (List.mem_append_right _ h)
  refine lv_iconst (v := nI 0) hx hb dX7_prints_0 (by decide) ?_
  refine lv_istore_n (lv' := [(2, .int (nI 0)), (0, .ref y_), (1, .int (nI m9_))]) hx hb dX7_prints_1 rfl hl (by decide) rfl (fun ls hl => ?_)
  refine lv_iconst (v := nI 0) hx hb dX7_prints_2 (by decide) ?_
  refine lv_istore_n (lv' := [(3, .int (nI 0)), (2, .int (nI 0)), (0, .ref y_), (1, .int (nI m9_))]) hx hb dX7_prints_3 rfl hl (by decide) rfl (fun ls hl => ?_)
  have L_4 : ∀ (n_4 : Nat) (i_ : Nat) (_ : 41 - i_ < n_4) (ji : i_ ≤ m9_) (Hq : Heap) (lcq : List Loc), va_P G.1 vwCl [(y_, .inr (7, [.ref (ca 0), .ref (ca 1), .ref (ca 2), .int (nI ke), .ref (ca 3), .int (nI ty_), .int (nI th), .int (nI po), .int (bI fl_), .ref (ca 4), .int (nI tl), .ref (ca 5)])), (ca 0, .inl (G.2.2.1, 103, .inr (.inl (mV (stN T i_)))))] Hq → va_D A [(y_, .inr (7, [.ref (ca 0), .ref (ca 1), .ref (ca 2), .int (nI ke), .ref (ca 3), .int (nI ty_), .int (nI th), .int (nI po), .int (bI fl_), .ref (ca 4), .int (nI tl), .ref (ca 5)])), (ca 0, .inl (G.2.2.1, 103, .inr (.inl (mV (stN T i_)))))] → va_S A s.heap Hq lcq → ∀ ls : Array Slot, lv_has ls 5 [(3, .int (nI i_)), (0, .ref y_), (1, .int (nI m9_)), (2, .int (nI (blN T i_)))] → W p l e ({ frames := 2, cells := 0, slots := 0, locals := 51 }) s m args below meth c Hq lcq 0 0 (MQ below (cr_Q G RR A) args s 0 0 A) (F0 m 4 ls []) := by
    intro n_4
    induction n_4 with
    | zero => intro i_ hmu_4; exact absurd hmu_4 (Nat.not_lt_zero _)
    | succ n_4 ih_4 =>
      intro i_ hmu_4 ji Hq lcq hP hD hS ls hl
      obtain ⟨z4, z3, z2, z1, -, -⟩ := stN_s (T := T) (k := i_)
      have zr := RB_st jr (k := i_) (by omega)
      refine lv_iload_n hx hb dX7_prints_4 rfl (lv_at hl 0 rfl) ?_
      refine lv_iload_n hx hb dX7_prints_5 rfl (lv_at hl 2 rfl) ?_
      refine ks_icmp_ge (tgt := 73) hx hb dX7_prints_6 (by decide) (by omega) (by omega) (fun c_6 => ?_) (fun c_6 => ?_)
      · obtain rfl : m9_ = i_ := by omega
        refine lv_iload_n hx hb dX7_prints_73 rfl (lv_at hl 3 rfl) ?_
        exact cr_iret hx hb hr hlocks hK hP hD hS dX7_prints_74 (by rw [hRR]; exact ctR_i (rfl) (rfl))
      · refine lv_aload_n hx hb dX7_prints_9 rfl (lv_at hl 1 rfl) ?_
        refine va_get (D := G.1) (ci := 7) (v := .ref (ca 0)) (C := RX7) (T := TX7) (N := 12) hx hb hts hin7 hown hK hP 0 rfl rfl 0 (by decide) (hts (.fieldLink RX7 7 "PowerTablesModel" "now" "[J") (List.mem_of_getElem? (i := 1) rfl)) (fun _ h9 => h9) rfl dX7_prints_10 ?_
        refine lv_iconst (v := nI 4) hx hb dX7_prints_13 (by decide) ?_
        refine ks_lald hx hb hK hP 1 rfl (by omega) (by decide) dX7_prints_14 ?_
        refine ks_vL (show mV (stN T i_) 4 = lN ((stN T i_).s 4) from rfl) ?_
        refine ks_l2iN hx hb dX7_prints_15 ?_
        refine lv_istore (lv' := [(4, .int (nI ((stN T i_).s 4))), (3, .int (nI i_)), (0, .ref y_), (1, .int (nI m9_)), (2, .int (nI (blN T i_)))]) hx hb dX7_prints_16 hl (by decide) rfl (fun ls hl => ?_)
        refine lv_aload_n hx hb dX7_prints_18 rfl (lv_at hl 2 rfl) ?_
        refine va_get (D := G.1) (ci := 7) (v := .ref (ca 0)) (C := RX7) (T := TX7) (N := 12) hx hb hts hin7 hown hK hP 0 rfl rfl 0 (by decide) (hts (.fieldLink RX7 7 "PowerTablesModel" "now" "[J") (List.mem_of_getElem? (i := 1) rfl)) (fun _ h9 => h9) rfl dX7_prints_19 ?_
        refine lv_bipush (v := nI 23) hx hb dX7_prints_22 (by decide) ?_
        refine lv_iload hx hb dX7_prints_24 (lv_at hl 0 rfl) ?_
        refine ks_iaddN hx hb dX7_prints_26 ?_
        refine lv_aload_n hx hb dX7_prints_27 rfl (lv_at hl 2 rfl) ?_
        refine va_get (D := G.1) (ci := 7) (v := .ref (ca 0)) (C := RX7) (T := TX7) (N := 12) hx hb hts hin7 hown hK hP 0 rfl rfl 0 (by decide) (hts (.fieldLink RX7 7 "PowerTablesModel" "now" "[J") (List.mem_of_getElem? (i := 1) rfl)) (fun _ h9 => h9) rfl dX7_prints_28 ?_
        refine lv_bipush (v := nI 7) hx hb dX7_prints_31 (by decide) ?_
        refine ks_lald hx hb hK hP 1 rfl (by omega) (by decide) dX7_prints_33 ?_
        refine ks_vL (show mV (stN T i_) 7 = (stN T i_).r 0 from mV_r (j := 0) (by omega)) ?_
        refine ks_last (f' := mV ((stN T i_).setP ((stN T i_).s 4) ((stN T i_).r 0))) hx hb hK hP hD hS 1 rfl (by omega) (by decide) (mV_setP (by omega)) dX7_prints_34 (fun Hq lcq hP hD hS => ?_)
        have hP : va_P G.1 vwCl [(y_, .inr (7, [.ref (ca 0), .ref (ca 1), .ref (ca 2), .int (nI ke), .ref (ca 3), .int (nI ty_), .int (nI th), .int (nI po), .int (bI fl_), .ref (ca 4), .int (nI tl), .ref (ca 5)])), (ca 0, .inl (G.2.2.1, 103, .inr (.inl (mV ((stN T i_).setP ((stN T i_).s 4) ((stN T i_).r 0))))))] _ := hP
        have hD : va_D A [(y_, .inr (7, [.ref (ca 0), .ref (ca 1), .ref (ca 2), .int (nI ke), .ref (ca 3), .int (nI ty_), .int (nI th), .int (nI po), .int (bI fl_), .ref (ca 4), .int (nI tl), .ref (ca 5)])), (ca 0, .inl (G.2.2.1, 103, .inr (.inl (mV ((stN T i_).setP ((stN T i_).s 4) ((stN T i_).r 0))))))] := hD
        refine lv_aload_n hx hb dX7_prints_35 rfl (lv_at hl 2 rfl) ?_
        refine va_get (D := G.1) (ci := 7) (v := .ref (ca 0)) (C := RX7) (T := TX7) (N := 12) hx hb hts hin7 hown hK hP 0 rfl rfl 0 (by decide) (hts (.fieldLink RX7 7 "PowerTablesModel" "now" "[J") (List.mem_of_getElem? (i := 1) rfl)) (fun _ h9 => h9) rfl dX7_prints_36 ?_
        refine lv_bipush (v := nI 63) hx hb dX7_prints_39 (by decide) ?_
        refine lv_iload hx hb dX7_prints_41 (lv_at hl 0 rfl) ?_
        refine ks_iaddN hx hb dX7_prints_43 ?_
        refine lv_aload_n hx hb dX7_prints_44 rfl (lv_at hl 2 rfl) ?_
        refine va_get (D := G.1) (ci := 7) (v := .ref (ca 0)) (C := RX7) (T := TX7) (N := 12) hx hb hts hin7 hown hK hP 0 rfl rfl 0 (by decide) (hts (.fieldLink RX7 7 "PowerTablesModel" "now" "[J") (List.mem_of_getElem? (i := 1) rfl)) (fun _ h9 => h9) rfl dX7_prints_45 ?_
        refine cr_S (wr := [(y_, .inr (7, [.ref (ca 0), .ref (ca 1), .ref (ca 2), .int (nI ke), .ref (ca 3), .int (nI ty_), .int (nI th), .int (nI po), .int (bI fl_), .ref (ca 4), .int (nI tl), .ref (ca 5)]))]) (As := [.ref (ca 0)]) (rest := [.int (nI (63 + ((stN T i_).s 4))), .ref (ca 0)]) ⟨hx, hb, hml, hown, hts⟩ (c_X7_rows G l (ca 0) ((stN T i_).setP ((stN T i_).s 4) ((stN T i_).r 0)) (RB_ab zr (by omega) (by decide)) (fun d hd => Nat.lt_of_le_of_lt stN_w (by have := jw d hd; omega)) (show (stN T i_).s 1 < 2 ^ 30 by omega) (show (stN T i_).s 5 < 2 ^ 30 from Nat.lt_of_le_of_lt stN_g (by omega))) (va_cwS 1 hts gX7_prints_X7_rows rfl rfl rfl (by decide +kernel) ⟨Nat.le_of_ble_eq_true rfl, Nat.le_of_ble_eq_true rfl⟩) dX7_prints_48 hK hNX hP hD hS hA hl [1] [0] rfl rfl rfl rfl (by decide) rfl (Nat.le_of_ble_eq_true rfl) ⟨Nat.le_of_ble_eq_true rfl, Nat.le_of_ble_eq_true rfl⟩ rfl (fun v' w' Hq lcq hR' hP hD hS => ?_)
        obtain ⟨rfl, rfl⟩ := hR'
        have hP : va_P G.1 vwCl [(y_, .inr (7, [.ref (ca 0), .ref (ca 1), .ref (ca 2), .int (nI ke), .ref (ca 3), .int (nI ty_), .int (nI th), .int (nI po), .int (bI fl_), .ref (ca 4), .int (nI tl), .ref (ca 5)])), (ca 0, .inl (G.2.2.1, 103, .inr (.inl (mV (rw7 ((stN T i_).setP ((stN T i_).s 4) ((stN T i_).r 0)))))))] _ := hP.sub [0, 1] rfl
        have hD : va_D A [(y_, .inr (7, [.ref (ca 0), .ref (ca 1), .ref (ca 2), .int (nI ke), .ref (ca 3), .int (nI ty_), .int (nI th), .int (nI po), .int (bI fl_), .ref (ca 4), .int (nI tl), .ref (ca 5)])), (ca 0, .inl (G.2.2.1, 103, .inr (.inl (mV (rw7 ((stN T i_).setP ((stN T i_).s 4) ((stN T i_).r 0)))))))] := hD.sub [0, 1] (by decide +kernel) rfl
        refine ks_i2lN hx hb dX7_prints_51 (Nat.lt_of_le_of_lt (prB_le _ _ _) (by decide)) ?_
        refine ks_last (f' := mV ((rw7 ((stN T i_).setP ((stN T i_).s 4) ((stN T i_).r 0))).setB ((stN T i_).s 4) (prB (ab (((stN T i_).setP ((stN T i_).s 4) ((stN T i_).r 0)).r 0)) ((stN T i_).setP ((stN T i_).s 4) ((stN T i_).r 0)).w (((stN T i_).setP ((stN T i_).s 4) ((stN T i_).r 0)).s 1)))) hx hb hK hP hD hS 1 rfl (by omega) (by decide) (mV_setB (by omega)) dX7_prints_52 (fun Hq lcq hP hD hS => ?_)
        have hP : va_P G.1 vwCl [(y_, .inr (7, [.ref (ca 0), .ref (ca 1), .ref (ca 2), .int (nI ke), .ref (ca 3), .int (nI ty_), .int (nI th), .int (nI po), .int (bI fl_), .ref (ca 4), .int (nI tl), .ref (ca 5)])), (ca 0, .inl (G.2.2.1, 103, .inr (.inl (mV ((rw7 ((stN T i_).setP ((stN T i_).s 4) ((stN T i_).r 0))).setB ((stN T i_).s 4) (prB (ab (((stN T i_).setP ((stN T i_).s 4) ((stN T i_).r 0)).r 0)) ((stN T i_).setP ((stN T i_).s 4) ((stN T i_).r 0)).w (((stN T i_).setP ((stN T i_).s 4) ((stN T i_).r 0)).s 1)))))))] _ := hP
        have hD : va_D A [(y_, .inr (7, [.ref (ca 0), .ref (ca 1), .ref (ca 2), .int (nI ke), .ref (ca 3), .int (nI ty_), .int (nI th), .int (nI po), .int (bI fl_), .ref (ca 4), .int (nI tl), .ref (ca 5)])), (ca 0, .inl (G.2.2.1, 103, .inr (.inl (mV ((rw7 ((stN T i_).setP ((stN T i_).s 4) ((stN T i_).r 0))).setB ((stN T i_).s 4) (prB (ab (((stN T i_).setP ((stN T i_).s 4) ((stN T i_).r 0)).r 0)) ((stN T i_).setP ((stN T i_).s 4) ((stN T i_).r 0)).w (((stN T i_).setP ((stN T i_).s 4) ((stN T i_).r 0)).s 1)))))))] := hD
        have hP := hP.cgJ 1 (g := mV (stN T (i_ + 1))) rfl (fun q9 h9 => rfl)
        have hD := hD.set (p := 1) (e := .inl (G.2.2.1, 103, .inr <| .inl (mV (stN T (i_ + 1))))) rfl
        have hP : va_P G.1 vwCl [(y_, .inr (7, [.ref (ca 0), .ref (ca 1), .ref (ca 2), .int (nI ke), .ref (ca 3), .int (nI ty_), .int (nI th), .int (nI po), .int (bI fl_), .ref (ca 4), .int (nI tl), .ref (ca 5)])), (ca 0, .inl (G.2.2.1, 103, .inr (.inl (mV (stN T (i_ + 1))))))] _ := hP
        have hD : va_D A [(y_, .inr (7, [.ref (ca 0), .ref (ca 1), .ref (ca 2), .int (nI ke), .ref (ca 3), .int (nI ty_), .int (nI th), .int (nI po), .int (bI fl_), .ref (ca 4), .int (nI tl), .ref (ca 5)])), (ca 0, .inl (G.2.2.1, 103, .inr (.inl (mV (stN T (i_ + 1))))))] := hD
        refine lv_iload_n hx hb dX7_prints_53 rfl (lv_at hl 4 rfl) ?_
        refine lv_aload_n hx hb dX7_prints_54 rfl (lv_at hl 2 rfl) ?_
        refine va_get (D := G.1) (ci := 7) (v := .ref (ca 0)) (C := RX7) (T := TX7) (N := 12) hx hb hts hin7 hown hK hP 0 rfl rfl 0 (by decide) (hts (.fieldLink RX7 7 "PowerTablesModel" "now" "[J") (List.mem_of_getElem? (i := 1) rfl)) (fun _ h9 => h9) rfl dX7_prints_55 ?_
        refine lv_bipush (v := nI 63) hx hb dX7_prints_58 (by decide) ?_
        refine lv_iload hx hb dX7_prints_60 (lv_at hl 0 rfl) ?_
        refine ks_iaddN hx hb dX7_prints_62 ?_
        refine ks_lald hx hb hK hP 1 rfl (by omega) (by decide) dX7_prints_63 ?_
        refine ks_vL (show mV (stN T (i_ + 1)) (63 + ((stN T i_).s 4)) = lN ((stN T (i_ + 1)).b ((stN T i_).s 4)) from mV_b (j := ((stN T i_).s 4)) (by omega)) ?_
        refine ks_l2iN hx hb dX7_prints_64 ?_
        refine ks_vI (show nI ((stN T (i_ + 1)).b ((stN T i_).s 4)) = nI (prB (ab ((stN T i_).r 0)) (stN T i_).w ((stN T i_).s 1)) from by show nI (upN _ _ _ _) = _; rw [upN_s]) ?_
        refine ks_iaddN hx hb dX7_prints_65 ?_
        refine lv_istore_n (lv' := [(2, .int (nI (blN T i_ + (prB (ab ((stN T i_).r 0)) (stN T i_).w ((stN T i_).s 1))))), (4, .int (nI ((stN T i_).s 4))), (3, .int (nI i_)), (0, .ref y_), (1, .int (nI m9_))]) hx hb dX7_prints_66 rfl hl (by decide) rfl (fun ls hl => ?_)
        refine lv_iinc (v := nI (i_ + 1)) (lv' := [(3, .int (nI (i_ + 1))), (2, .int (nI (blN T i_ + (prB (ab ((stN T i_).r 0)) (stN T i_).w ((stN T i_).s 1))))), (4, .int (nI ((stN T i_).s 4))), (0, .ref y_), (1, .int (nI m9_))]) hx hb dX7_prints_67 hl (k := 2) rfl (ks_inc i_ 1) (by decide) rfl (fun ls hl => ?_)
        refine lv_goto (tgt := 4) hx hb dX7_prints_70 (by decide) ?_
        exact ih_4  (i_ + 1) (by omega) (by omega) _ _ hP hD hS ls (lv_sub hl [0, 3, 4, 1] rfl)
  exact L_4 _ 0 (Nat.lt_succ_self _) (by omega) _ _ hP hD hS ls (lv_sub hl [0, 2, 3, 1] rfl)
set_option maxHeartbeats 4000000 in
set_option maxRecDepth 100000 in
theorem c_X7_begin (G : GG) (l : Launch) (y_ : Nat) (ca : Nat → Nat) (ke : Nat) (ty_ : Nat) (th : Nat) (po : Nat) (fl_ : Prop) (tl : Nat) (T : TS) (f_ : Nat → Int64) (Ss : Nat → TS) (pw : Nat) (fi : Nat) (jk6 : ke ≤ 6) (jpf : PF f_ ke Ss) (jn4 : T.s 4 ≤ 40) (jp : pw ≤ 5) (jf_ : fi ≤ 99) : Cr G l yX7_begin wsX7_begin ({ frames := 4, cells := 0, slots := 0, locals := 97 }) 0 0 [.ref y_, .int (nI pw), .int (nI fi)] [(y_, .inr (7, [.ref (ca 0), .ref (ca 1), .ref (ca 2), .int (nI ke), .ref (ca 3), .int (nI ty_), .int (nI th), .int (nI po), .int (bI fl_), .ref (ca 4), .int (nI tl), .ref (ca 5)])), (ca 0, .inl (G.2.2.1, 103, .inr (.inl (mV T)))), (ca 2, .inl (G.2.2.1, 618, .inr (.inl (f_))))] (fun (vv1 : Option Value) (ww1 : va_W) => ∃ (f9_ : Nat → Int64), vv1 = (some (.int (nI (T.s 4)))) ∧ ww1 = [(y_, .inr (7, [.ref (ca 0), .ref (ca 1), .ref (ca 2), .int (nI (mn6 ke)), .ref (ca 3), .int (nI ty_), .int (nI 0), .int (nI po), .int (bI fl_), .ref (ca 4), .int (nI tl), .ref (ca 5)])), (ca 0, .inl (G.2.2.1, 103, .inr (.inl (mV (bgT T pw fi))))), (ca 2, .inl (G.2.2.1, 618, .inr (.inl (f9_))))] ∧ (PF f9_ (mn6 ke) (svS Ss ke T))) := by
  refine cr_intro (cc := cX7_begin) (maxL := 4) (ret := (some .int)) (own := RX7) (by decide) rfl rfl (Nat.le_of_ble_eq_true rfl) ?_
  intro p e s m args below meth c A hx hb hr hml hts hown hlocks hnm hNX hP hK hD hA hS ls hl
  obtain ⟨RR, hRR⟩ : ∃ RR, RR = (fun (vv1 : Option Value) (ww1 : va_W) => ∃ (f9_ : Nat → Int64), vv1 = (some (.int (nI (T.s 4)))) ∧ ww1 = [(y_, .inr (7, [.ref (ca 0), .ref (ca 1), .ref (ca 2), .int (nI (mn6 ke)), .ref (ca 3), .int (nI ty_), .int (nI 0), .int (nI po), .int (bI fl_), .ref (ca 4), .int (nI tl), .ref (ca 5)])), (ca 0, .inl (G.2.2.1, 103, .inr (.inl (mV (bgT T pw fi))))), (ca 2, .inl (G.2.2.1, 618, .inr (.inl (f9_))))] ∧ (PF f9_ (mn6 ke) (svS Ss ke T))) := ⟨_, rfl⟩
  rw [← hRR]
  have hl : lv_has ls 4 [(0, .ref y_), (1, .int (nI pw)), (2, .int (nI fi))] := hl
  have hin7 : ∀ w ∈ u_ws RX7 TX7 12, w ∈ wsX7_begin := fun w h => List.mem_cons_of_mem _ (List.mem_append_right _ h)
  refine lv_aload_n hx hb dX7_begin_0 rfl (lv_at hl 0 rfl) ?_
  refine lv_iconst (v := nI 0) hx hb dX7_begin_1 (by decide) ?_
  refine va_put (D := G.1) (ci := 7) (v := .int (nI 0)) (ty := .int) (C := RX7) (T := TX7) (N := 12) hx hb hts hin7 tyX7 tyX7_ok nmX7 hown hK hP hD hS 0 rfl rfl 6 (by decide) (hts (.fieldLink RX7 39 "PowerTablesModel" "thrown" "I") (List.mem_of_getElem? (i := 1) rfl)) (fun _ h9 => h9) rfl (tyX7_ok 6 (by decide)) rfl rfl (Nat.le_of_ble_eq_true rfl) dX7_begin_2 (fun Hq lcq hP hD hS => ?_)
  have hP : va_P G.1 vwCl [(y_, .inr (7, [.ref (ca 0), .ref (ca 1), .ref (ca 2), .int (nI ke), .ref (ca 3), .int (nI ty_), .int (nI 0), .int (nI po), .int (bI fl_), .ref (ca 4), .int (nI tl), .ref (ca 5)])), (ca 0, .inl (G.2.2.1, 103, .inr (.inl (mV T)))), (ca 2, .inl (G.2.2.1, 618, .inr (.inl (f_))))] _ := hP
  have hD : va_D A [(y_, .inr (7, [.ref (ca 0), .ref (ca 1), .ref (ca 2), .int (nI ke), .ref (ca 3), .int (nI ty_), .int (nI 0), .int (nI po), .int (bI fl_), .ref (ca 4), .int (nI tl), .ref (ca 5)])), (ca 0, .inl (G.2.2.1, 103, .inr (.inl (mV T)))), (ca 2, .inl (G.2.2.1, 618, .inr (.inl (f_))))] := hD
  refine lv_iload_n hx hb dX7_begin_5 rfl (lv_at hl 1 rfl) ?_
  refine ks_i2lN hx hb dX7_begin_6 (by omega) ?_
  refine lv_lconst (v := lN 0) hx hb dX7_begin_7 rfl ?_
  refine lv_ldc2 hx hb hown (hts (.constantLong RX7 29 (5)) (List.mem_of_getElem? (i := 2) rfl)) dX7_begin_8 ?_
  refine ks_vL (show (5 : Int64) = lN 5 from rfl) ?_
  refine cr_S (wr := [(y_, .inr (7, [.ref (ca 0), .ref (ca 1), .ref (ca 2), .int (nI ke), .ref (ca 3), .int (nI ty_), .int (nI 0), .int (nI po), .int (bI fl_), .ref (ca 4), .int (nI tl), .ref (ca 5)])), (ca 0, .inl (G.2.2.1, 103, .inr (.inl (mV T)))), (ca 2, .inl (G.2.2.1, 618, .inr (.inl (f_))))]) (As := [.long (lN pw), .long (lN 0), .long (lN 5)]) (rest := []) ⟨hx, hb, hml, hown, hts⟩ (c_X7_in__n G l pw 0 5 (by omega) (by omega) (by omega)) (va_cwS 3 hts gX7_begin_X7_in rfl rfl rfl (by decide +kernel) ⟨Nat.le_of_ble_eq_true rfl, Nat.le_of_ble_eq_true rfl⟩) dX7_begin_11 hK hNX hP hD hS hA hl [] [0, 1, 2] rfl rfl rfl rfl (by decide) rfl (Nat.le_of_ble_eq_true rfl) ⟨Nat.le_of_ble_eq_true rfl, Nat.le_of_ble_eq_true rfl⟩ rfl (fun v' w' Hq lcq hR' hP hD hS => ?_)
  obtain ⟨rfl, rfl⟩ := hR'
  have hP : va_P G.1 vwCl [(y_, .inr (7, [.ref (ca 0), .ref (ca 1), .ref (ca 2), .int (nI ke), .ref (ca 3), .int (nI ty_), .int (nI 0), .int (nI po), .int (bI fl_), .ref (ca 4), .int (nI tl), .ref (ca 5)])), (ca 0, .inl (G.2.2.1, 103, .inr (.inl (mV T)))), (ca 2, .inl (G.2.2.1, 618, .inr (.inl (f_))))] _ := hP.sub [0, 1, 2] rfl
  have hD : va_D A [(y_, .inr (7, [.ref (ca 0), .ref (ca 1), .ref (ca 2), .int (nI ke), .ref (ca 3), .int (nI ty_), .int (nI 0), .int (nI po), .int (bI fl_), .ref (ca 4), .int (nI tl), .ref (ca 5)])), (ca 0, .inl (G.2.2.1, 103, .inr (.inl (mV T)))), (ca 2, .inl (G.2.2.1, 618, .inr (.inl (f_))))] := hD.sub [0, 1, 2] (by decide +kernel) rfl
  refine ks_ifb_eq (tgt := 29) hx hb dX7_begin_14 (by decide) (fun c_14 => ?_) (fun c_14 => ?_)
  · exact absurd ⟨Nat.zero_le _, jp⟩ c_14
  · refine lv_iload_n hx hb dX7_begin_17 rfl (lv_at hl 2 rfl) ?_
    refine ks_i2lN hx hb dX7_begin_18 (by omega) ?_
    refine lv_lconst (v := lN 0) hx hb dX7_begin_19 rfl ?_
    refine lv_ldc2 hx hb hown (hts (.constantLong RX7 74 (99)) (List.mem_of_getElem? (i := 3) rfl)) dX7_begin_20 ?_
    refine ks_vL (show (99 : Int64) = lN 99 from rfl) ?_
    refine cr_S (wr := [(y_, .inr (7, [.ref (ca 0), .ref (ca 1), .ref (ca 2), .int (nI ke), .ref (ca 3), .int (nI ty_), .int (nI 0), .int (nI po), .int (bI fl_), .ref (ca 4), .int (nI tl), .ref (ca 5)])), (ca 0, .inl (G.2.2.1, 103, .inr (.inl (mV T)))), (ca 2, .inl (G.2.2.1, 618, .inr (.inl (f_))))]) (As := [.long (lN fi), .long (lN 0), .long (lN 99)]) (rest := []) ⟨hx, hb, hml, hown, hts⟩ (c_X7_in__n G l fi 0 99 (by omega) (by omega) (by omega)) (va_cwS 3 hts gX7_begin_X7_in rfl rfl rfl (by decide +kernel) ⟨Nat.le_of_ble_eq_true rfl, Nat.le_of_ble_eq_true rfl⟩) dX7_begin_23 hK hNX hP hD hS hA hl [] [0, 1, 2] rfl rfl rfl rfl (by decide) rfl (Nat.le_of_ble_eq_true rfl) ⟨Nat.le_of_ble_eq_true rfl, Nat.le_of_ble_eq_true rfl⟩ rfl (fun v' w' Hq lcq hR' hP hD hS => ?_)
    obtain ⟨rfl, rfl⟩ := hR'
    have hP : va_P G.1 vwCl [(y_, .inr (7, [.ref (ca 0), .ref (ca 1), .ref (ca 2), .int (nI ke), .ref (ca 3), .int (nI ty_), .int (nI 0), .int (nI po), .int (bI fl_), .ref (ca 4), .int (nI tl), .ref (ca 5)])), (ca 0, .inl (G.2.2.1, 103, .inr (.inl (mV T)))), (ca 2, .inl (G.2.2.1, 618, .inr (.inl (f_))))] _ := hP.sub [0, 1, 2] rfl
    have hD : va_D A [(y_, .inr (7, [.ref (ca 0), .ref (ca 1), .ref (ca 2), .int (nI ke), .ref (ca 3), .int (nI ty_), .int (nI 0), .int (nI po), .int (bI fl_), .ref (ca 4), .int (nI tl), .ref (ca 5)])), (ca 0, .inl (G.2.2.1, 103, .inr (.inl (mV T)))), (ca 2, .inl (G.2.2.1, 618, .inr (.inl (f_))))] := hD.sub [0, 1, 2] (by decide +kernel) rfl
    refine ks_ifb_ne (tgt := 35) hx hb dX7_begin_26 (by decide) (fun c_26 => ?_) (fun c_26 => ?_)
    · refine lv_aload_n hx hb dX7_begin_35 rfl (lv_at hl 0 rfl) ?_
      refine cr_V (wr := []) (As := []) (rest := []) ⟨hx, hb, hml, hown, hts⟩ (c_X7_saves G l y_ ca ke ty_ 0 po fl_ tl T f_ Ss (by omega) (jpf)) (cwV 0 hts gX7_begin_X7_saves rfl rfl rfl (by decide +kernel) ⟨Nat.le_of_ble_eq_true rfl, Nat.le_of_ble_eq_true rfl⟩) dX7_begin_36 hK hNX hP hD hS hA hl 0 7 rfl rfl rfl [0, 1, 2] [] rfl rfl rfl rfl (by decide) rfl (Nat.le_of_ble_eq_true rfl) ⟨Nat.le_of_ble_eq_true rfl, Nat.le_of_ble_eq_true rfl⟩ rfl (fun v' w' Hq lcq hR' hP hD hS => ?_)
      obtain ⟨f9_36, rfl, rfl, jq_36⟩ := hR'
      have hP : va_P G.1 vwCl [(y_, .inr (7, [.ref (ca 0), .ref (ca 1), .ref (ca 2), .int (nI (mn6 ke)), .ref (ca 3), .int (nI ty_), .int (nI 0), .int (nI po), .int (bI fl_), .ref (ca 4), .int (nI tl), .ref (ca 5)])), (ca 0, .inl (G.2.2.1, 103, .inr (.inl (mV T)))), (ca 2, .inl (G.2.2.1, 618, .inr (.inl (f9_36))))] _ := hP.sub [0, 1, 2] rfl
      have hD : va_D A [(y_, .inr (7, [.ref (ca 0), .ref (ca 1), .ref (ca 2), .int (nI (mn6 ke)), .ref (ca 3), .int (nI ty_), .int (nI 0), .int (nI po), .int (bI fl_), .ref (ca 4), .int (nI tl), .ref (ca 5)])), (ca 0, .inl (G.2.2.1, 103, .inr (.inl (mV T)))), (ca 2, .inl (G.2.2.1, 618, .inr (.inl (f9_36))))] := hD.sub [0, 1, 2] (by decide +kernel) rfl
      refine lv_aload_n hx hb dX7_begin_39 rfl (lv_at hl 0 rfl) ?_
      refine va_get (D := G.1) (ci := 7) (v := .ref (ca 0)) (C := RX7) (T := TX7) (N := 12) hx hb hts hin7 hown hK hP 0 rfl rfl 0 (by decide) (hts (.fieldLink RX7 7 "PowerTablesModel" "now" "[J") (List.mem_of_getElem? (i := 4) rfl)) (fun _ h9 => h9) rfl dX7_begin_40 ?_
      refine lv_iconst (v := nI 4) hx hb dX7_begin_43 (by decide) ?_
      refine ks_lald hx hb hK hP 1 rfl (by omega) (by decide) dX7_begin_44 ?_
      refine ks_vL (show mV T 4 = lN (T.s 4) from rfl) ?_
      refine ks_l2iN hx hb dX7_begin_45 ?_
      refine lv_istore_n (lv' := [(3, .int (nI (T.s 4))), (0, .ref y_), (1, .int (nI pw)), (2, .int (nI fi))]) hx hb dX7_begin_46 rfl hl (by decide) rfl (fun ls hl => ?_)
      refine lv_aload_n hx hb dX7_begin_47 rfl (lv_at hl 1 rfl) ?_
      refine va_get (D := G.1) (ci := 7) (v := .ref (ca 0)) (C := RX7) (T := TX7) (N := 12) hx hb hts hin7 hown hK hP 0 rfl rfl 0 (by decide) (hts (.fieldLink RX7 7 "PowerTablesModel" "now" "[J") (List.mem_of_getElem? (i := 4) rfl)) (fun _ h9 => h9) rfl dX7_begin_48 ?_
      refine lv_iconst (v := nI 2) hx hb dX7_begin_51 (by decide) ?_
      refine lv_iload_n hx hb dX7_begin_52 rfl (lv_at hl 2 rfl) ?_
      refine ks_i2lN hx hb dX7_begin_53 (by omega) ?_
      refine ks_last (f' := mV (T.setS 2 pw)) hx hb hK hP hD hS 1 rfl (by omega) (by decide) (mV_setS (by decide)) dX7_begin_54 (fun Hq lcq hP hD hS => ?_)
      have hP : va_P G.1 vwCl [(y_, .inr (7, [.ref (ca 0), .ref (ca 1), .ref (ca 2), .int (nI (mn6 ke)), .ref (ca 3), .int (nI ty_), .int (nI 0), .int (nI po), .int (bI fl_), .ref (ca 4), .int (nI tl), .ref (ca 5)])), (ca 0, .inl (G.2.2.1, 103, .inr (.inl (mV (T.setS 2 pw))))), (ca 2, .inl (G.2.2.1, 618, .inr (.inl (f9_36))))] _ := hP
      have hD : va_D A [(y_, .inr (7, [.ref (ca 0), .ref (ca 1), .ref (ca 2), .int (nI (mn6 ke)), .ref (ca 3), .int (nI ty_), .int (nI 0), .int (nI po), .int (bI fl_), .ref (ca 4), .int (nI tl), .ref (ca 5)])), (ca 0, .inl (G.2.2.1, 103, .inr (.inl (mV (T.setS 2 pw))))), (ca 2, .inl (G.2.2.1, 618, .inr (.inl (f9_36))))] := hD
      refine lv_aload_n hx hb dX7_begin_55 rfl (lv_at hl 1 rfl) ?_
      refine va_get (D := G.1) (ci := 7) (v := .ref (ca 0)) (C := RX7) (T := TX7) (N := 12) hx hb hts hin7 hown hK hP 0 rfl rfl 0 (by decide) (hts (.fieldLink RX7 7 "PowerTablesModel" "now" "[J") (List.mem_of_getElem? (i := 4) rfl)) (fun _ h9 => h9) rfl dX7_begin_56 ?_
      refine lv_iconst (v := nI 3) hx hb dX7_begin_59 (by decide) ?_
      refine lv_iload_n hx hb dX7_begin_60 rfl (lv_at hl 3 rfl) ?_
      refine ks_i2lN hx hb dX7_begin_61 (by omega) ?_
      refine ks_last (f' := mV ((T.setS 2 pw).setS 3 fi)) hx hb hK hP hD hS 1 rfl (by omega) (by decide) (mV_setS (by decide)) dX7_begin_62 (fun Hq lcq hP hD hS => ?_)
      have hP : va_P G.1 vwCl [(y_, .inr (7, [.ref (ca 0), .ref (ca 1), .ref (ca 2), .int (nI (mn6 ke)), .ref (ca 3), .int (nI ty_), .int (nI 0), .int (nI po), .int (bI fl_), .ref (ca 4), .int (nI tl), .ref (ca 5)])), (ca 0, .inl (G.2.2.1, 103, .inr (.inl (mV ((T.setS 2 pw).setS 3 fi))))), (ca 2, .inl (G.2.2.1, 618, .inr (.inl (f9_36))))] _ := hP
      have hD : va_D A [(y_, .inr (7, [.ref (ca 0), .ref (ca 1), .ref (ca 2), .int (nI (mn6 ke)), .ref (ca 3), .int (nI ty_), .int (nI 0), .int (nI po), .int (bI fl_), .ref (ca 4), .int (nI tl), .ref (ca 5)])), (ca 0, .inl (G.2.2.1, 103, .inr (.inl (mV ((T.setS 2 pw).setS 3 fi))))), (ca 2, .inl (G.2.2.1, 618, .inr (.inl (f9_36))))] := hD
      refine lv_aload_n hx hb dX7_begin_63 rfl (lv_at hl 1 rfl) ?_
      refine va_get (D := G.1) (ci := 7) (v := .ref (ca 0)) (C := RX7) (T := TX7) (N := 12) hx hb hts hin7 hown hK hP 0 rfl rfl 0 (by decide) (hts (.fieldLink RX7 7 "PowerTablesModel" "now" "[J") (List.mem_of_getElem? (i := 4) rfl)) (fun _ h9 => h9) rfl dX7_begin_64 ?_
      refine lv_iconst (v := nI 4) hx hb dX7_begin_67 (by decide) ?_
      refine lv_lconst (v := lN 0) hx hb dX7_begin_68 rfl ?_
      refine ks_last (f' := mV (((T.setS 2 pw).setS 3 fi).setS 4 0)) hx hb hK hP hD hS 1 rfl (by omega) (by decide) (mV_setS (by decide)) dX7_begin_69 (fun Hq lcq hP hD hS => ?_)
      have hP : va_P G.1 vwCl [(y_, .inr (7, [.ref (ca 0), .ref (ca 1), .ref (ca 2), .int (nI (mn6 ke)), .ref (ca 3), .int (nI ty_), .int (nI 0), .int (nI po), .int (bI fl_), .ref (ca 4), .int (nI tl), .ref (ca 5)])), (ca 0, .inl (G.2.2.1, 103, .inr (.inl (mV (((T.setS 2 pw).setS 3 fi).setS 4 0))))), (ca 2, .inl (G.2.2.1, 618, .inr (.inl (f9_36))))] _ := hP
      have hD : va_D A [(y_, .inr (7, [.ref (ca 0), .ref (ca 1), .ref (ca 2), .int (nI (mn6 ke)), .ref (ca 3), .int (nI ty_), .int (nI 0), .int (nI po), .int (bI fl_), .ref (ca 4), .int (nI tl), .ref (ca 5)])), (ca 0, .inl (G.2.2.1, 103, .inr (.inl (mV (((T.setS 2 pw).setS 3 fi).setS 4 0))))), (ca 2, .inl (G.2.2.1, 618, .inr (.inl (f9_36))))] := hD
      refine lv_aload_n hx hb dX7_begin_70 rfl (lv_at hl 1 rfl) ?_
      refine va_get (D := G.1) (ci := 7) (v := .ref (ca 0)) (C := RX7) (T := TX7) (N := 12) hx hb hts hin7 hown hK hP 0 rfl rfl 0 (by decide) (hts (.fieldLink RX7 7 "PowerTablesModel" "now" "[J") (List.mem_of_getElem? (i := 4) rfl)) (fun _ h9 => h9) rfl dX7_begin_71 ?_
      refine cr_S (wr := [(y_, .inr (7, [.ref (ca 0), .ref (ca 1), .ref (ca 2), .int (nI (mn6 ke)), .ref (ca 3), .int (nI ty_), .int (nI 0), .int (nI po), .int (bI fl_), .ref (ca 4), .int (nI tl), .ref (ca 5)])), (ca 2, .inl (G.2.2.1, 618, .inr (.inl (f9_36))))]) (As := [.ref (ca 0)]) (rest := []) ⟨hx, hb, hml, hown, hts⟩ (c_X7_corrects G l (ca 0) (((T.setS 2 pw).setS 3 fi).setS 4 0) (show (0 : Nat) ≤ 40 by omega) (jf_) (jp)) (va_cwS 1 hts gX7_begin_X7_corrects rfl rfl rfl (by decide +kernel) ⟨Nat.le_of_ble_eq_true rfl, Nat.le_of_ble_eq_true rfl⟩) dX7_begin_74 hK hNX hP hD hS hA hl [1] [0, 2] rfl rfl rfl rfl (by decide) rfl (Nat.le_of_ble_eq_true rfl) ⟨Nat.le_of_ble_eq_true rfl, Nat.le_of_ble_eq_true rfl⟩ rfl (fun v' w' Hq lcq hR' hP hD hS => ?_)
      obtain ⟨rfl, rfl⟩ := hR'
      have hP : va_P G.1 vwCl [(y_, .inr (7, [.ref (ca 0), .ref (ca 1), .ref (ca 2), .int (nI (mn6 ke)), .ref (ca 3), .int (nI ty_), .int (nI 0), .int (nI po), .int (bI fl_), .ref (ca 4), .int (nI tl), .ref (ca 5)])), (ca 0, .inl (G.2.2.1, 103, .inr (.inl (mV ((((T.setS 2 pw).setS 3 fi).setS 4 0).withR (rgt ((((T.setS 2 pw).setS 3 fi).setS 4 0).s 2) ((((T.setS 2 pw).setS 3 fi).setS 4 0).s 3 + (((T.setS 2 pw).setS 3 fi).setS 4 0).s 4))))))), (ca 2, .inl (G.2.2.1, 618, .inr (.inl (f9_36))))] _ := hP.sub [0, 2, 1] rfl
      have hD : va_D A [(y_, .inr (7, [.ref (ca 0), .ref (ca 1), .ref (ca 2), .int (nI (mn6 ke)), .ref (ca 3), .int (nI ty_), .int (nI 0), .int (nI po), .int (bI fl_), .ref (ca 4), .int (nI tl), .ref (ca 5)])), (ca 0, .inl (G.2.2.1, 103, .inr (.inl (mV ((((T.setS 2 pw).setS 3 fi).setS 4 0).withR (rgt ((((T.setS 2 pw).setS 3 fi).setS 4 0).s 2) ((((T.setS 2 pw).setS 3 fi).setS 4 0).s 3 + (((T.setS 2 pw).setS 3 fi).setS 4 0).s 4))))))), (ca 2, .inl (G.2.2.1, 618, .inr (.inl (f9_36))))] := hD.sub [0, 2, 1] (by decide +kernel) rfl
      have hP := hP.cgJ 1 (g := mV (bgT T pw fi)) rfl (fun q9 h9 => by rw [bg7_e])
      have hD := hD.set (p := 1) (e := .inl (G.2.2.1, 103, .inr <| .inl (mV (bgT T pw fi)))) rfl
      have hP : va_P G.1 vwCl [(y_, .inr (7, [.ref (ca 0), .ref (ca 1), .ref (ca 2), .int (nI (mn6 ke)), .ref (ca 3), .int (nI ty_), .int (nI 0), .int (nI po), .int (bI fl_), .ref (ca 4), .int (nI tl), .ref (ca 5)])), (ca 0, .inl (G.2.2.1, 103, .inr (.inl (mV (bgT T pw fi))))), (ca 2, .inl (G.2.2.1, 618, .inr (.inl (f9_36))))] _ := hP
      have hD : va_D A [(y_, .inr (7, [.ref (ca 0), .ref (ca 1), .ref (ca 2), .int (nI (mn6 ke)), .ref (ca 3), .int (nI ty_), .int (nI 0), .int (nI po), .int (bI fl_), .ref (ca 4), .int (nI tl), .ref (ca 5)])), (ca 0, .inl (G.2.2.1, 103, .inr (.inl (mV (bgT T pw fi))))), (ca 2, .inl (G.2.2.1, 618, .inr (.inl (f9_36))))] := hD
      refine lv_pop hx hb dX7_begin_77 rfl ?_
      refine lv_iload_n hx hb dX7_begin_78 rfl (lv_at hl 0 rfl) ?_
      exact cr_iret hx hb hr hlocks hK hP hD hS dX7_begin_79 (by rw [hRR]; exact ⟨f9_36, congrArg (fun z => some (Value.int z)) (rfl), rfl, jq_36⟩)
    · exact absurd ⟨Nat.zero_le _, jf_⟩ c_26
set_option maxHeartbeats 4000000 in
set_option maxRecDepth 100000 in
theorem c_X7_begin__b1 (G : GG) (l : Launch) (y_ : Nat) (ca : Nat → Nat) (ke : Nat) (ty_ : Nat) (th : Nat) (po : Nat) (fl_ : Prop) (tl : Nat) (T : TS) (v_ : Int32) (u_ : Int32) (h8 : ¬ ((0 ≤ v_.toInt ∧ v_.toInt ≤ 5) ∧ (0 ≤ u_.toInt ∧ u_.toInt ≤ 99))) : Cr G l yX7_begin wsX7_begin ({ frames := 4, cells := 0, slots := 0, locals := 97 }) 0 0 [.ref y_, .int v_, .int u_] [(y_, .inr (7, [.ref (ca 0), .ref (ca 1), .ref (ca 2), .int (nI ke), .ref (ca 3), .int (nI ty_), .int (nI th), .int (nI po), .int (bI fl_), .ref (ca 4), .int (nI tl), .ref (ca 5)]))] (ctR (some (.int (nI 0))) [(y_, .inr (7, [.ref (ca 0), .ref (ca 1), .ref (ca 2), .int (nI ke), .ref (ca 3), .int (nI ty_), .int (nI 1), .int (nI po), .int (bI fl_), .ref (ca 4), .int (nI tl), .ref (ca 5)]))]) := by
  refine cr_intro (cc := cX7_begin) (maxL := 4) (ret := (some .int)) (own := RX7) (by decide) rfl rfl (Nat.le_of_ble_eq_true rfl) ?_
  intro p e s m args below meth c A hx hb hr hml hts hown hlocks hnm hNX hP hK hD hA hS ls hl
  obtain ⟨RR, hRR⟩ : ∃ RR, RR = (ctR (some (.int (nI 0))) [(y_, .inr (7, [.ref (ca 0), .ref (ca 1), .ref (ca 2), .int (nI ke), .ref (ca 3), .int (nI ty_), .int (nI 1), .int (nI po), .int (bI fl_), .ref (ca 4), .int (nI tl), .ref (ca 5)]))]) := ⟨_, rfl⟩
  rw [← hRR]
  have hl : lv_has ls 4 [(0, .ref y_), (1, .int v_), (2, .int u_)] := hl
  have hin7 : ∀ w ∈ u_ws RX7 TX7 12, w ∈ wsX7_begin := fun w h => List.mem_cons_of_mem _ (List.mem_append_right _ h)
  refine lv_aload_n hx hb dX7_begin_0 rfl (lv_at hl 0 rfl) ?_
  refine lv_iconst (v := nI 0) hx hb dX7_begin_1 (by decide) ?_
  refine va_put (D := G.1) (ci := 7) (v := .int (nI 0)) (ty := .int) (C := RX7) (T := TX7) (N := 12) hx hb hts hin7 tyX7 tyX7_ok nmX7 hown hK hP hD hS 0 rfl rfl 6 (by decide) (hts (.fieldLink RX7 39 "PowerTablesModel" "thrown" "I") (List.mem_of_getElem? (i := 1) rfl)) (fun _ h9 => h9) rfl (tyX7_ok 6 (by decide)) rfl rfl (Nat.le_of_ble_eq_true rfl) dX7_begin_2 (fun Hq lcq hP hD hS => ?_)
  have hP : va_P G.1 vwCl [(y_, .inr (7, [.ref (ca 0), .ref (ca 1), .ref (ca 2), .int (nI ke), .ref (ca 3), .int (nI ty_), .int (nI 0), .int (nI po), .int (bI fl_), .ref (ca 4), .int (nI tl), .ref (ca 5)]))] _ := hP
  have hD : va_D A [(y_, .inr (7, [.ref (ca 0), .ref (ca 1), .ref (ca 2), .int (nI ke), .ref (ca 3), .int (nI ty_), .int (nI 0), .int (nI po), .int (bI fl_), .ref (ca 4), .int (nI tl), .ref (ca 5)]))] := hD
  refine lv_iload_n hx hb dX7_begin_5 rfl (lv_at hl 1 rfl) ?_
  refine lv_i2l hx hb dX7_begin_6 rfl ?_
  refine lv_lconst (v := lN 0) hx hb dX7_begin_7 rfl ?_
  refine lv_ldc2 hx hb hown (hts (.constantLong RX7 29 (5)) (List.mem_of_getElem? (i := 2) rfl)) dX7_begin_8 ?_
  refine ks_vL (show (5 : Int64) = lN 5 from rfl) ?_
  refine cr_S (wr := [(y_, .inr (7, [.ref (ca 0), .ref (ca 1), .ref (ca 2), .int (nI ke), .ref (ca 3), .int (nI ty_), .int (nI 0), .int (nI po), .int (bI fl_), .ref (ca 4), .int (nI tl), .ref (ca 5)]))]) (As := [.long v_.toInt64, .long (lN 0), .long (lN 5)]) (rest := []) ⟨hx, hb, hml, hown, hts⟩ (c_X7_in__i G l v_ 0 5 (by omega) (by omega)) (va_cwS 3 hts gX7_begin_X7_in rfl rfl rfl (by decide +kernel) ⟨Nat.le_of_ble_eq_true rfl, Nat.le_of_ble_eq_true rfl⟩) dX7_begin_11 hK hNX hP hD hS hA hl [] [0] rfl rfl rfl rfl (by decide) rfl (Nat.le_of_ble_eq_true rfl) ⟨Nat.le_of_ble_eq_true rfl, Nat.le_of_ble_eq_true rfl⟩ rfl (fun v' w' Hq lcq hR' hP hD hS => ?_)
  obtain ⟨rfl, rfl⟩ := hR'
  have hP : va_P G.1 vwCl [(y_, .inr (7, [.ref (ca 0), .ref (ca 1), .ref (ca 2), .int (nI ke), .ref (ca 3), .int (nI ty_), .int (nI 0), .int (nI po), .int (bI fl_), .ref (ca 4), .int (nI tl), .ref (ca 5)]))] _ := hP.sub [0] rfl
  have hD : va_D A [(y_, .inr (7, [.ref (ca 0), .ref (ca 1), .ref (ca 2), .int (nI ke), .ref (ca 3), .int (nI ty_), .int (nI 0), .int (nI po), .int (bI fl_), .ref (ca 4), .int (nI tl), .ref (ca 5)]))] := hD.sub [0] (by decide +kernel) rfl
  refine ks_ifb_eq (tgt := 29) hx hb dX7_begin_14 (by decide) (fun c_14 => ?_) (fun c_14 => ?_)
  · refine lv_aload_n hx hb dX7_begin_29 rfl (lv_at hl 0 rfl) ?_
    refine lv_iconst (v := nI 1) hx hb dX7_begin_30 (by decide) ?_
    refine cr_V (wr := []) (As := [.int (nI 1)]) (rest := []) ⟨hx, hb, hml, hown, hts⟩ (c_X7_fails G l y_ ca ke ty_ 0 po fl_ tl 1 ) (cwV 1 hts gX7_begin_X7_fails rfl rfl rfl (by decide +kernel) ⟨Nat.le_of_ble_eq_true rfl, Nat.le_of_ble_eq_true rfl⟩) dX7_begin_31 hK hNX hP hD hS hA hl 0 7 rfl rfl rfl [0] [] rfl rfl rfl rfl (by decide) rfl (Nat.le_of_ble_eq_true rfl) ⟨Nat.le_of_ble_eq_true rfl, Nat.le_of_ble_eq_true rfl⟩ rfl (fun v' w' Hq lcq hR' hP hD hS => ?_)
    obtain ⟨rfl, rfl⟩ := hR'
    have hP : va_P G.1 vwCl [(y_, .inr (7, [.ref (ca 0), .ref (ca 1), .ref (ca 2), .int (nI ke), .ref (ca 3), .int (nI ty_), .int (nI 1), .int (nI po), .int (bI fl_), .ref (ca 4), .int (nI tl), .ref (ca 5)]))] _ := hP.sub [0] rfl
    have hD : va_D A [(y_, .inr (7, [.ref (ca 0), .ref (ca 1), .ref (ca 2), .int (nI ke), .ref (ca 3), .int (nI ty_), .int (nI 1), .int (nI po), .int (bI fl_), .ref (ca 4), .int (nI tl), .ref (ca 5)]))] := hD.sub [0] (by decide +kernel) rfl
    exact cr_iret hx hb hr hlocks hK hP hD hS dX7_begin_34 (by rw [hRR]; exact ctR_i (rfl) (rfl))
  · refine lv_iload_n hx hb dX7_begin_17 rfl (lv_at hl 2 rfl) ?_
    refine lv_i2l hx hb dX7_begin_18 rfl ?_
    refine lv_lconst (v := lN 0) hx hb dX7_begin_19 rfl ?_
    refine lv_ldc2 hx hb hown (hts (.constantLong RX7 74 (99)) (List.mem_of_getElem? (i := 3) rfl)) dX7_begin_20 ?_
    refine ks_vL (show (99 : Int64) = lN 99 from rfl) ?_
    refine cr_S (wr := [(y_, .inr (7, [.ref (ca 0), .ref (ca 1), .ref (ca 2), .int (nI ke), .ref (ca 3), .int (nI ty_), .int (nI 0), .int (nI po), .int (bI fl_), .ref (ca 4), .int (nI tl), .ref (ca 5)]))]) (As := [.long u_.toInt64, .long (lN 0), .long (lN 99)]) (rest := []) ⟨hx, hb, hml, hown, hts⟩ (c_X7_in__i G l u_ 0 99 (by omega) (by omega)) (va_cwS 3 hts gX7_begin_X7_in rfl rfl rfl (by decide +kernel) ⟨Nat.le_of_ble_eq_true rfl, Nat.le_of_ble_eq_true rfl⟩) dX7_begin_23 hK hNX hP hD hS hA hl [] [0] rfl rfl rfl rfl (by decide) rfl (Nat.le_of_ble_eq_true rfl) ⟨Nat.le_of_ble_eq_true rfl, Nat.le_of_ble_eq_true rfl⟩ rfl (fun v' w' Hq lcq hR' hP hD hS => ?_)
    obtain ⟨rfl, rfl⟩ := hR'
    have hP : va_P G.1 vwCl [(y_, .inr (7, [.ref (ca 0), .ref (ca 1), .ref (ca 2), .int (nI ke), .ref (ca 3), .int (nI ty_), .int (nI 0), .int (nI po), .int (bI fl_), .ref (ca 4), .int (nI tl), .ref (ca 5)]))] _ := hP.sub [0] rfl
    have hD : va_D A [(y_, .inr (7, [.ref (ca 0), .ref (ca 1), .ref (ca 2), .int (nI ke), .ref (ca 3), .int (nI ty_), .int (nI 0), .int (nI po), .int (bI fl_), .ref (ca 4), .int (nI tl), .ref (ca 5)]))] := hD.sub [0] (by decide +kernel) rfl
    refine ks_ifb_ne (tgt := 35) hx hb dX7_begin_26 (by decide) (fun c_26 => ?_) (fun c_26 => ?_)
    · exact absurd ⟨c_14, c_26⟩ h8
    · refine lv_aload_n hx hb dX7_begin_29 rfl (lv_at hl 0 rfl) ?_
      refine lv_iconst (v := nI 1) hx hb dX7_begin_30 (by decide) ?_
      refine cr_V (wr := []) (As := [.int (nI 1)]) (rest := []) ⟨hx, hb, hml, hown, hts⟩ (c_X7_fails G l y_ ca ke ty_ 0 po fl_ tl 1 ) (cwV 1 hts gX7_begin_X7_fails rfl rfl rfl (by decide +kernel) ⟨Nat.le_of_ble_eq_true rfl, Nat.le_of_ble_eq_true rfl⟩) dX7_begin_31 hK hNX hP hD hS hA hl 0 7 rfl rfl rfl [0] [] rfl rfl rfl rfl (by decide) rfl (Nat.le_of_ble_eq_true rfl) ⟨Nat.le_of_ble_eq_true rfl, Nat.le_of_ble_eq_true rfl⟩ rfl (fun v' w' Hq lcq hR' hP hD hS => ?_)
      obtain ⟨rfl, rfl⟩ := hR'
      have hP : va_P G.1 vwCl [(y_, .inr (7, [.ref (ca 0), .ref (ca 1), .ref (ca 2), .int (nI ke), .ref (ca 3), .int (nI ty_), .int (nI 1), .int (nI po), .int (bI fl_), .ref (ca 4), .int (nI tl), .ref (ca 5)]))] _ := hP.sub [0] rfl
      have hD : va_D A [(y_, .inr (7, [.ref (ca 0), .ref (ca 1), .ref (ca 2), .int (nI ke), .ref (ca 3), .int (nI ty_), .int (nI 1), .int (nI po), .int (bI fl_), .ref (ca 4), .int (nI tl), .ref (ca 5)]))] := hD.sub [0] (by decide +kernel) rfl
      exact cr_iret hx hb hr hlocks hK hP hD hS dX7_begin_34 (by rw [hRR]; exact ctR_i (rfl) (rfl))
set_option maxHeartbeats 4000000 in
set_option maxRecDepth 100000 in
theorem c_X7_print (G : GG) (l : Launch) (y_ : Nat) (ca : Nat → Nat) (ke : Nat) (ty_ : Nat) (th : Nat) (po : Nat) (fl_ : Prop) (tl : Nat) (T : TS) (f_ : Nat → Int64) (Ss : Nat → TS) (m9_ : Nat) (jk6 : ke ≤ 6) (jpf : PF f_ ke Ss) (j1 : 1 ≤ m9_) (j2_ : m9_ ≤ 40) (jn : T.s 4 + m9_ ≤ 40) (jf_ : T.s 3 ≤ 99) (jp : T.s 2 ≤ 5) (jr : RB (T.s 4) T.r) (jw : ∀ d, d < 10 → T.w d + 800 < 2 ^ 30) (jl : T.s 1 < 2 ^ 30) (jd : T.s 5 + 800 < 2 ^ 30) : Cr G l yX7_print wsX7_print ({ frames := 3, cells := 0, slots := 0, locals := 75 }) 0 0 [.ref y_, .int (nI m9_)] [(y_, .inr (7, [.ref (ca 0), .ref (ca 1), .ref (ca 2), .int (nI ke), .ref (ca 3), .int (nI ty_), .int (nI th), .int (nI po), .int (bI fl_), .ref (ca 4), .int (nI tl), .ref (ca 5)])), (ca 0, .inl (G.2.2.1, 103, .inr (.inl (mV T)))), (ca 2, .inl (G.2.2.1, 618, .inr (.inl (f_))))] (fun (vv1 : Option Value) (ww1 : va_W) => ∃ (f9_ : Nat → Int64), vv1 = (some (.int (nI (blN T m9_)))) ∧ ww1 = [(y_, .inr (7, [.ref (ca 0), .ref (ca 1), .ref (ca 2), .int (nI (mn6 ke)), .ref (ca 3), .int (nI ty_), .int (nI 0), .int (nI po), .int (bI fl_), .ref (ca 4), .int (nI tl), .ref (ca 5)])), (ca 0, .inl (G.2.2.1, 103, .inr (.inl (mV (stN T m9_))))), (ca 2, .inl (G.2.2.1, 618, .inr (.inl (f9_))))] ∧ (PF f9_ (mn6 ke) (svS Ss ke T))) := by
  refine cr_intro (cc := cX7_print) (maxL := 2) (ret := (some .int)) (own := RX7) (by decide) rfl rfl (Nat.le_of_ble_eq_true rfl) ?_
  intro p e s m args below meth c A hx hb hr hml hts hown hlocks hnm hNX hP hK hD hA hS ls hl
  obtain ⟨RR, hRR⟩ : ∃ RR, RR = (fun (vv1 : Option Value) (ww1 : va_W) => ∃ (f9_ : Nat → Int64), vv1 = (some (.int (nI (blN T m9_)))) ∧ ww1 = [(y_, .inr (7, [.ref (ca 0), .ref (ca 1), .ref (ca 2), .int (nI (mn6 ke)), .ref (ca 3), .int (nI ty_), .int (nI 0), .int (nI po), .int (bI fl_), .ref (ca 4), .int (nI tl), .ref (ca 5)])), (ca 0, .inl (G.2.2.1, 103, .inr (.inl (mV (stN T m9_))))), (ca 2, .inl (G.2.2.1, 618, .inr (.inl (f9_))))] ∧ (PF f9_ (mn6 ke) (svS Ss ke T))) := ⟨_, rfl⟩
  rw [← hRR]
  have hl : lv_has ls 2 [(0, .ref y_), (1, .int (nI m9_))] := hl
  have hin7 : ∀ w ∈ u_ws RX7 TX7 12, w ∈ wsX7_print := fun w h => List.mem_cons_of_mem _ (List.mem_append_right _ h)
  refine lv_aload_n hx hb dX7_print_0 rfl (lv_at hl 0 rfl) ?_
  refine lv_aload_n hx hb dX7_print_1 rfl (lv_at hl 0 rfl) ?_
  refine lv_iload_n hx hb dX7_print_2 rfl (lv_at hl 1 rfl) ?_
  refine cr_V (wr := [(ca 2, .inl (G.2.2.1, 618, .inr (.inl (f_))))]) (As := [.int (nI m9_)]) (rest := [.ref y_]) ⟨hx, hb, hml, hown, hts⟩ (c_X7_mayPrint G l y_ ca ke ty_ th po fl_ tl T m9_ (by omega) (by omega) (by omega)) (cwV 1 hts gX7_print_X7_mayPrint rfl rfl rfl (by decide +kernel) ⟨Nat.le_of_ble_eq_true rfl, Nat.le_of_ble_eq_true rfl⟩) dX7_print_3 hK hNX hP hD hS hA hl 0 7 rfl rfl rfl [0, 1] [2] rfl rfl rfl rfl (by decide) rfl (Nat.le_of_ble_eq_true rfl) ⟨Nat.le_of_ble_eq_true rfl, Nat.le_of_ble_eq_true rfl⟩ rfl (fun v' w' Hq lcq hR' hP hD hS => ?_)
  obtain ⟨rfl, rfl⟩ := hR'
  have hP : va_P G.1 vwCl [(y_, .inr (7, [.ref (ca 0), .ref (ca 1), .ref (ca 2), .int (nI ke), .ref (ca 3), .int (nI ty_), .int (nI th), .int (nI po), .int (bI fl_), .ref (ca 4), .int (nI tl), .ref (ca 5)])), (ca 0, .inl (G.2.2.1, 103, .inr (.inl (mV T)))), (ca 2, .inl (G.2.2.1, 618, .inr (.inl (f_))))] _ := hP.sub [1, 2, 0] rfl
  have hD : va_D A [(y_, .inr (7, [.ref (ca 0), .ref (ca 1), .ref (ca 2), .int (nI ke), .ref (ca 3), .int (nI ty_), .int (nI th), .int (nI po), .int (bI fl_), .ref (ca 4), .int (nI tl), .ref (ca 5)])), (ca 0, .inl (G.2.2.1, 103, .inr (.inl (mV T)))), (ca 2, .inl (G.2.2.1, 618, .inr (.inl (f_))))] := hD.sub [1, 2, 0] (by decide +kernel) rfl
  refine ks_vI (show nI (mpA T m9_) = nI 0 from congrArg nI (if_pos jn)) ?_
  refine va_put (D := G.1) (ci := 7) (v := .int (nI 0)) (ty := .int) (C := RX7) (T := TX7) (N := 12) hx hb hts hin7 tyX7 tyX7_ok nmX7 hown hK hP hD hS 0 rfl rfl 6 (by decide) (hts (.fieldLink RX7 39 "PowerTablesModel" "thrown" "I") (List.mem_of_getElem? (i := 1) rfl)) (fun _ h9 => h9) rfl (tyX7_ok 6 (by decide)) rfl rfl (Nat.le_of_ble_eq_true rfl) dX7_print_6 (fun Hq lcq hP hD hS => ?_)
  have hP : va_P G.1 vwCl [(y_, .inr (7, [.ref (ca 0), .ref (ca 1), .ref (ca 2), .int (nI ke), .ref (ca 3), .int (nI ty_), .int (nI 0), .int (nI po), .int (bI fl_), .ref (ca 4), .int (nI tl), .ref (ca 5)])), (ca 0, .inl (G.2.2.1, 103, .inr (.inl (mV T)))), (ca 2, .inl (G.2.2.1, 618, .inr (.inl (f_))))] _ := hP
  have hD : va_D A [(y_, .inr (7, [.ref (ca 0), .ref (ca 1), .ref (ca 2), .int (nI ke), .ref (ca 3), .int (nI ty_), .int (nI 0), .int (nI po), .int (bI fl_), .ref (ca 4), .int (nI tl), .ref (ca 5)])), (ca 0, .inl (G.2.2.1, 103, .inr (.inl (mV T)))), (ca 2, .inl (G.2.2.1, 618, .inr (.inl (f_))))] := hD
  refine lv_aload_n hx hb dX7_print_9 rfl (lv_at hl 0 rfl) ?_
  refine va_get (D := G.1) (ci := 7) (v := .int (nI 0)) (C := RX7) (T := TX7) (N := 12) hx hb hts hin7 hown hK hP 0 rfl rfl 6 (by decide) (hts (.fieldLink RX7 39 "PowerTablesModel" "thrown" "I") (List.mem_of_getElem? (i := 1) rfl)) (fun _ h9 => h9) rfl dX7_print_10 ?_
  refine ks_if_eq (tgt := 18) hx hb dX7_print_13 (by decide) (by omega) (fun c_13 => ?_) (fun c_13 => ?_)
  · refine lv_aload_n hx hb dX7_print_18 rfl (lv_at hl 0 rfl) ?_
    refine cr_V (wr := []) (As := []) (rest := []) ⟨hx, hb, hml, hown, hts⟩ (c_X7_saves G l y_ ca ke ty_ 0 po fl_ tl T f_ Ss (by omega) (jpf)) (cwV 0 hts gX7_print_X7_saves rfl rfl rfl (by decide +kernel) ⟨Nat.le_of_ble_eq_true rfl, Nat.le_of_ble_eq_true rfl⟩) dX7_print_19 hK hNX hP hD hS hA hl 0 7 rfl rfl rfl [0, 1, 2] [] rfl rfl rfl rfl (by decide) rfl (Nat.le_of_ble_eq_true rfl) ⟨Nat.le_of_ble_eq_true rfl, Nat.le_of_ble_eq_true rfl⟩ rfl (fun v' w' Hq lcq hR' hP hD hS => ?_)
    obtain ⟨f9_19, rfl, rfl, jq_19⟩ := hR'
    have hP : va_P G.1 vwCl [(y_, .inr (7, [.ref (ca 0), .ref (ca 1), .ref (ca 2), .int (nI (mn6 ke)), .ref (ca 3), .int (nI ty_), .int (nI 0), .int (nI po), .int (bI fl_), .ref (ca 4), .int (nI tl), .ref (ca 5)])), (ca 0, .inl (G.2.2.1, 103, .inr (.inl (mV T)))), (ca 2, .inl (G.2.2.1, 618, .inr (.inl (f9_19))))] _ := hP.sub [0, 1, 2] rfl
    have hD : va_D A [(y_, .inr (7, [.ref (ca 0), .ref (ca 1), .ref (ca 2), .int (nI (mn6 ke)), .ref (ca 3), .int (nI ty_), .int (nI 0), .int (nI po), .int (bI fl_), .ref (ca 4), .int (nI tl), .ref (ca 5)])), (ca 0, .inl (G.2.2.1, 103, .inr (.inl (mV T)))), (ca 2, .inl (G.2.2.1, 618, .inr (.inl (f9_19))))] := hD.sub [0, 1, 2] (by decide +kernel) rfl
    refine lv_aload_n hx hb dX7_print_22 rfl (lv_at hl 0 rfl) ?_
    refine lv_iload_n hx hb dX7_print_23 rfl (lv_at hl 1 rfl) ?_
    refine cr_V (wr := [(ca 2, .inl (G.2.2.1, 618, .inr (.inl (f9_19))))]) (As := [.int (nI m9_)]) (rest := []) ⟨hx, hb, hml, hown, hts⟩ (c_X7_prints G l y_ ca (mn6 ke) ty_ 0 po fl_ tl T m9_ (by omega) (by omega) (by omega) (jr) (jw) (by omega) (by omega)) (cwV 1 hts gX7_print_X7_prints rfl rfl rfl (by decide +kernel) ⟨Nat.le_of_ble_eq_true rfl, Nat.le_of_ble_eq_true rfl⟩) dX7_print_24 hK hNX hP hD hS hA hl 0 7 rfl rfl rfl [0, 1] [2] rfl rfl rfl rfl (by decide) rfl (Nat.le_of_ble_eq_true rfl) ⟨Nat.le_of_ble_eq_true rfl, Nat.le_of_ble_eq_true rfl⟩ rfl (fun v' w' Hq lcq hR' hP hD hS => ?_)
    obtain ⟨rfl, rfl⟩ := hR'
    have hP : va_P G.1 vwCl [(y_, .inr (7, [.ref (ca 0), .ref (ca 1), .ref (ca 2), .int (nI (mn6 ke)), .ref (ca 3), .int (nI ty_), .int (nI 0), .int (nI po), .int (bI fl_), .ref (ca 4), .int (nI tl), .ref (ca 5)])), (ca 0, .inl (G.2.2.1, 103, .inr (.inl (mV (stN T m9_))))), (ca 2, .inl (G.2.2.1, 618, .inr (.inl (f9_19))))] _ := hP.sub [1, 2, 0] rfl
    have hD : va_D A [(y_, .inr (7, [.ref (ca 0), .ref (ca 1), .ref (ca 2), .int (nI (mn6 ke)), .ref (ca 3), .int (nI ty_), .int (nI 0), .int (nI po), .int (bI fl_), .ref (ca 4), .int (nI tl), .ref (ca 5)])), (ca 0, .inl (G.2.2.1, 103, .inr (.inl (mV (stN T m9_))))), (ca 2, .inl (G.2.2.1, 618, .inr (.inl (f9_19))))] := hD.sub [1, 2, 0] (by decide +kernel) rfl
    exact cr_iret hx hb hr hlocks hK hP hD hS dX7_print_27 (by rw [hRR]; exact ⟨f9_19, congrArg (fun z => some (Value.int z)) (rfl), rfl, jq_19⟩)
  · omega
set_option maxHeartbeats 4000000 in
set_option maxRecDepth 100000 in
theorem c_X7_print__b2 (G : GG) (l : Launch) (y_ : Nat) (ca : Nat → Nat) (ke : Nat) (ty_ : Nat) (th : Nat) (po : Nat) (fl_ : Prop) (tl : Nat) (T : TS) (m9_ : Nat) (jn4 : T.s 4 ≤ 40) (j1 : 1 ≤ m9_) (j2_ : m9_ ≤ 40) (h8 : 40 < T.s 4 + m9_) : Cr G l yX7_print wsX7_print ({ frames := 3, cells := 0, slots := 0, locals := 75 }) 0 0 [.ref y_, .int (nI m9_)] [(y_, .inr (7, [.ref (ca 0), .ref (ca 1), .ref (ca 2), .int (nI ke), .ref (ca 3), .int (nI ty_), .int (nI th), .int (nI po), .int (bI fl_), .ref (ca 4), .int (nI tl), .ref (ca 5)])), (ca 0, .inl (G.2.2.1, 103, .inr (.inl (mV T))))] (ctR (some (.int (nI 0))) [(y_, .inr (7, [.ref (ca 0), .ref (ca 1), .ref (ca 2), .int (nI ke), .ref (ca 3), .int (nI ty_), .int (nI 2), .int (nI po), .int (bI fl_), .ref (ca 4), .int (nI tl), .ref (ca 5)])), (ca 0, .inl (G.2.2.1, 103, .inr (.inl (mV T))))]) := by
  refine cr_intro (cc := cX7_print) (maxL := 2) (ret := (some .int)) (own := RX7) (by decide) rfl rfl (Nat.le_of_ble_eq_true rfl) ?_
  intro p e s m args below meth c A hx hb hr hml hts hown hlocks hnm hNX hP hK hD hA hS ls hl
  obtain ⟨RR, hRR⟩ : ∃ RR, RR = (ctR (some (.int (nI 0))) [(y_, .inr (7, [.ref (ca 0), .ref (ca 1), .ref (ca 2), .int (nI ke), .ref (ca 3), .int (nI ty_), .int (nI 2), .int (nI po), .int (bI fl_), .ref (ca 4), .int (nI tl), .ref (ca 5)])), (ca 0, .inl (G.2.2.1, 103, .inr (.inl (mV T))))]) := ⟨_, rfl⟩
  rw [← hRR]
  have hl : lv_has ls 2 [(0, .ref y_), (1, .int (nI m9_))] := hl
  have hin7 : ∀ w ∈ u_ws RX7 TX7 12, w ∈ wsX7_print := fun w h => List.mem_cons_of_mem _ (List.mem_append_right _ h)
  refine lv_aload_n hx hb dX7_print_0 rfl (lv_at hl 0 rfl) ?_
  refine lv_aload_n hx hb dX7_print_1 rfl (lv_at hl 0 rfl) ?_
  refine lv_iload_n hx hb dX7_print_2 rfl (lv_at hl 1 rfl) ?_
  refine cr_V (wr := []) (As := [.int (nI m9_)]) (rest := [.ref y_]) ⟨hx, hb, hml, hown, hts⟩ (c_X7_mayPrint G l y_ ca ke ty_ th po fl_ tl T m9_ (by omega) (by omega) (by omega)) (cwV 1 hts gX7_print_X7_mayPrint rfl rfl rfl (by decide +kernel) ⟨Nat.le_of_ble_eq_true rfl, Nat.le_of_ble_eq_true rfl⟩) dX7_print_3 hK hNX hP hD hS hA hl 0 7 rfl rfl rfl [0, 1] [] rfl rfl rfl rfl (by decide) rfl (Nat.le_of_ble_eq_true rfl) ⟨Nat.le_of_ble_eq_true rfl, Nat.le_of_ble_eq_true rfl⟩ rfl (fun v' w' Hq lcq hR' hP hD hS => ?_)
  obtain ⟨rfl, rfl⟩ := hR'
  have hP : va_P G.1 vwCl [(y_, .inr (7, [.ref (ca 0), .ref (ca 1), .ref (ca 2), .int (nI ke), .ref (ca 3), .int (nI ty_), .int (nI th), .int (nI po), .int (bI fl_), .ref (ca 4), .int (nI tl), .ref (ca 5)])), (ca 0, .inl (G.2.2.1, 103, .inr (.inl (mV T))))] _ := hP.sub [0, 1] rfl
  have hD : va_D A [(y_, .inr (7, [.ref (ca 0), .ref (ca 1), .ref (ca 2), .int (nI ke), .ref (ca 3), .int (nI ty_), .int (nI th), .int (nI po), .int (bI fl_), .ref (ca 4), .int (nI tl), .ref (ca 5)])), (ca 0, .inl (G.2.2.1, 103, .inr (.inl (mV T))))] := hD.sub [0, 1] (by decide +kernel) rfl
  refine ks_vI (show nI (mpA T m9_) = nI 2 from congrArg nI (if_neg (by omega))) ?_
  refine va_put (D := G.1) (ci := 7) (v := .int (nI 2)) (ty := .int) (C := RX7) (T := TX7) (N := 12) hx hb hts hin7 tyX7 tyX7_ok nmX7 hown hK hP hD hS 0 rfl rfl 6 (by decide) (hts (.fieldLink RX7 39 "PowerTablesModel" "thrown" "I") (List.mem_of_getElem? (i := 1) rfl)) (fun _ h9 => h9) rfl (tyX7_ok 6 (by decide)) rfl rfl (Nat.le_of_ble_eq_true rfl) dX7_print_6 (fun Hq lcq hP hD hS => ?_)
  have hP : va_P G.1 vwCl [(y_, .inr (7, [.ref (ca 0), .ref (ca 1), .ref (ca 2), .int (nI ke), .ref (ca 3), .int (nI ty_), .int (nI 2), .int (nI po), .int (bI fl_), .ref (ca 4), .int (nI tl), .ref (ca 5)])), (ca 0, .inl (G.2.2.1, 103, .inr (.inl (mV T))))] _ := hP
  have hD : va_D A [(y_, .inr (7, [.ref (ca 0), .ref (ca 1), .ref (ca 2), .int (nI ke), .ref (ca 3), .int (nI ty_), .int (nI 2), .int (nI po), .int (bI fl_), .ref (ca 4), .int (nI tl), .ref (ca 5)])), (ca 0, .inl (G.2.2.1, 103, .inr (.inl (mV T))))] := hD
  refine lv_aload_n hx hb dX7_print_9 rfl (lv_at hl 0 rfl) ?_
  refine va_get (D := G.1) (ci := 7) (v := .int (nI 2)) (C := RX7) (T := TX7) (N := 12) hx hb hts hin7 hown hK hP 0 rfl rfl 6 (by decide) (hts (.fieldLink RX7 39 "PowerTablesModel" "thrown" "I") (List.mem_of_getElem? (i := 1) rfl)) (fun _ h9 => h9) rfl dX7_print_10 ?_
  refine ks_if_eq (tgt := 18) hx hb dX7_print_13 (by decide) (by omega) (fun c_13 => ?_) (fun c_13 => ?_)
  · omega
  · refine lv_iconst (v := nI 0) hx hb dX7_print_16 (by decide) ?_
    exact cr_iret hx hb hr hlocks hK hP hD hS dX7_print_17 (by rw [hRR]; exact ctR_i (rfl) (rfl))
set_option maxHeartbeats 4000000 in
set_option maxRecDepth 100000 in
theorem c_X7_print__b1 (G : GG) (l : Launch) (y_ : Nat) (ca : Nat → Nat) (ke : Nat) (ty_ : Nat) (th : Nat) (po : Nat) (fl_ : Prop) (tl : Nat) (T : TS) (v_ : Int32) (h8 : ¬ (1 ≤ v_.toInt ∧ v_.toInt ≤ 40)) : Cr G l yX7_print wsX7_print ({ frames := 3, cells := 0, slots := 0, locals := 75 }) 0 0 [.ref y_, .int v_] [(y_, .inr (7, [.ref (ca 0), .ref (ca 1), .ref (ca 2), .int (nI ke), .ref (ca 3), .int (nI ty_), .int (nI th), .int (nI po), .int (bI fl_), .ref (ca 4), .int (nI tl), .ref (ca 5)])), (ca 0, .inl (G.2.2.1, 103, .inr (.inl (mV T))))] (ctR (some (.int (nI 0))) [(y_, .inr (7, [.ref (ca 0), .ref (ca 1), .ref (ca 2), .int (nI ke), .ref (ca 3), .int (nI ty_), .int (nI 1), .int (nI po), .int (bI fl_), .ref (ca 4), .int (nI tl), .ref (ca 5)])), (ca 0, .inl (G.2.2.1, 103, .inr (.inl (mV T))))]) := by
  refine cr_intro (cc := cX7_print) (maxL := 2) (ret := (some .int)) (own := RX7) (by decide) rfl rfl (Nat.le_of_ble_eq_true rfl) ?_
  intro p e s m args below meth c A hx hb hr hml hts hown hlocks hnm hNX hP hK hD hA hS ls hl
  obtain ⟨RR, hRR⟩ : ∃ RR, RR = (ctR (some (.int (nI 0))) [(y_, .inr (7, [.ref (ca 0), .ref (ca 1), .ref (ca 2), .int (nI ke), .ref (ca 3), .int (nI ty_), .int (nI 1), .int (nI po), .int (bI fl_), .ref (ca 4), .int (nI tl), .ref (ca 5)])), (ca 0, .inl (G.2.2.1, 103, .inr (.inl (mV T))))]) := ⟨_, rfl⟩
  rw [← hRR]
  have hl : lv_has ls 2 [(0, .ref y_), (1, .int v_)] := hl
  have hin7 : ∀ w ∈ u_ws RX7 TX7 12, w ∈ wsX7_print := fun w h => List.mem_cons_of_mem _ (List.mem_append_right _ h)
  refine lv_aload_n hx hb dX7_print_0 rfl (lv_at hl 0 rfl) ?_
  refine lv_aload_n hx hb dX7_print_1 rfl (lv_at hl 0 rfl) ?_
  refine lv_iload_n hx hb dX7_print_2 rfl (lv_at hl 1 rfl) ?_
  refine cr_V (wr := []) (As := [.int v_]) (rest := [.ref y_]) ⟨hx, hb, hml, hown, hts⟩ (c_X7_mayPrint__b1 G l y_ ca ke ty_ th po fl_ tl T v_ (h8)) (cwV 1 hts gX7_print_X7_mayPrint rfl rfl rfl (by decide +kernel) ⟨Nat.le_of_ble_eq_true rfl, Nat.le_of_ble_eq_true rfl⟩) dX7_print_3 hK hNX hP hD hS hA hl 0 7 rfl rfl rfl [0, 1] [] rfl rfl rfl rfl (by decide) rfl (Nat.le_of_ble_eq_true rfl) ⟨Nat.le_of_ble_eq_true rfl, Nat.le_of_ble_eq_true rfl⟩ rfl (fun v' w' Hq lcq hR' hP hD hS => ?_)
  obtain ⟨rfl, rfl⟩ := hR'
  have hP : va_P G.1 vwCl [(y_, .inr (7, [.ref (ca 0), .ref (ca 1), .ref (ca 2), .int (nI ke), .ref (ca 3), .int (nI ty_), .int (nI th), .int (nI po), .int (bI fl_), .ref (ca 4), .int (nI tl), .ref (ca 5)])), (ca 0, .inl (G.2.2.1, 103, .inr (.inl (mV T))))] _ := hP.sub [0, 1] rfl
  have hD : va_D A [(y_, .inr (7, [.ref (ca 0), .ref (ca 1), .ref (ca 2), .int (nI ke), .ref (ca 3), .int (nI ty_), .int (nI th), .int (nI po), .int (bI fl_), .ref (ca 4), .int (nI tl), .ref (ca 5)])), (ca 0, .inl (G.2.2.1, 103, .inr (.inl (mV T))))] := hD.sub [0, 1] (by decide +kernel) rfl
  refine va_put (D := G.1) (ci := 7) (v := .int (nI 1)) (ty := .int) (C := RX7) (T := TX7) (N := 12) hx hb hts hin7 tyX7 tyX7_ok nmX7 hown hK hP hD hS 0 rfl rfl 6 (by decide) (hts (.fieldLink RX7 39 "PowerTablesModel" "thrown" "I") (List.mem_of_getElem? (i := 1) rfl)) (fun _ h9 => h9) rfl (tyX7_ok 6 (by decide)) rfl rfl (Nat.le_of_ble_eq_true rfl) dX7_print_6 (fun Hq lcq hP hD hS => ?_)
  have hP : va_P G.1 vwCl [(y_, .inr (7, [.ref (ca 0), .ref (ca 1), .ref (ca 2), .int (nI ke), .ref (ca 3), .int (nI ty_), .int (nI 1), .int (nI po), .int (bI fl_), .ref (ca 4), .int (nI tl), .ref (ca 5)])), (ca 0, .inl (G.2.2.1, 103, .inr (.inl (mV T))))] _ := hP
  have hD : va_D A [(y_, .inr (7, [.ref (ca 0), .ref (ca 1), .ref (ca 2), .int (nI ke), .ref (ca 3), .int (nI ty_), .int (nI 1), .int (nI po), .int (bI fl_), .ref (ca 4), .int (nI tl), .ref (ca 5)])), (ca 0, .inl (G.2.2.1, 103, .inr (.inl (mV T))))] := hD
  refine lv_aload_n hx hb dX7_print_9 rfl (lv_at hl 0 rfl) ?_
  refine va_get (D := G.1) (ci := 7) (v := .int (nI 1)) (C := RX7) (T := TX7) (N := 12) hx hb hts hin7 hown hK hP 0 rfl rfl 6 (by decide) (hts (.fieldLink RX7 39 "PowerTablesModel" "thrown" "I") (List.mem_of_getElem? (i := 1) rfl)) (fun _ h9 => h9) rfl dX7_print_10 ?_
  refine ks_if_eq (tgt := 18) hx hb dX7_print_13 (by decide) (by omega) (fun c_13 => ?_) (fun c_13 => ?_)
  · omega
  · refine lv_iconst (v := nI 0) hx hb dX7_print_16 (by decide) ?_
    exact cr_iret hx hb hr hlocks hK hP hD hS dX7_print_17 (by rw [hRR]; exact ctR_i (rfl) (rfl))
set_option maxHeartbeats 4000000 in
set_option maxRecDepth 100000 in
theorem c_X7_slipped (G : GG) (l : Launch) (v_ : Int32) (k_ : Nat) (jk : k_ < 10) : Cr G l yX7_slipped wsX7_slipped ({ frames := 0, cells := 0, slots := 0, locals := 0 }) 0 0 [.int (nI k_), .int v_] [] (ctR (some (.long (slA v_ k_))) []) := by
  refine cr_intro (cc := cX7_slipped) (maxL := 5) (ret := (some .long)) (own := RX7) (by decide) rfl rfl (Nat.le_of_ble_eq_true rfl) ?_
  intro p e s m args below meth c A hx hb hr hml hts hown hlocks hnm hNX hP hK hD hA hS ls hl
  obtain ⟨RR, hRR⟩ : ∃ RR, RR = (ctR (some (.long (slA v_ k_))) []) := ⟨_, rfl⟩
  rw [← hRR]
  have hl : lv_has ls 5 [(0, .int (nI k_)), (1, .int v_)] := hl
  refine lv_iload_n hx hb dX7_slipped_0 rfl (lv_at hl 1 rfl) ?_
  refine lv_i2l hx hb dX7_slipped_1 rfl ?_
  refine ks_vL (show v_.toInt64 = slA v_ 0 from sl7_0 v_) ?_
  refine lv_lstore_n (lv' := [(2, .long (slA v_ 0)), (0, .int (nI k_)), (1, .int v_)]) hx hb dX7_slipped_2 rfl hl (by decide) rfl (fun ls hl => ?_)
  refine lv_iconst (v := nI 0) hx hb dX7_slipped_3 (by decide) ?_
  refine lv_istore (lv' := [(4, .int (nI 0)), (2, .long (slA v_ 0)), (0, .int (nI k_)), (1, .int v_)]) hx hb dX7_slipped_4 hl (by decide) rfl (fun ls hl => ?_)
  have L_6 : ∀ (n_6 : Nat) (i_ : Nat) (_ : k_ + 1 - i_ < n_6) (ji : i_ ≤ k_) (Hq : Heap) (lcq : List Loc), va_P G.1 vwCl [] Hq → va_D A [] → va_S A s.heap Hq lcq → ∀ ls : Array Slot, lv_has ls 5 [(4, .int (nI i_)), (0, .int (nI k_)), (2, .long (slA v_ i_))] → W p l e ({ frames := 0, cells := 0, slots := 0, locals := 0 }) s m args below meth c Hq lcq 0 0 (MQ below (cr_Q G RR A) args s 0 0 A) (F0 m 6 ls []) := by
    intro n_6
    induction n_6 with
    | zero => intro i_ hmu_6; exact absurd hmu_6 (Nat.not_lt_zero _)
    | succ n_6 ih_6 =>
      intro i_ hmu_6 ji Hq lcq hP hD hS ls hl
      refine lv_iload hx hb dX7_slipped_6 (lv_at hl 0 rfl) ?_
      refine lv_iload_n hx hb dX7_slipped_8 rfl (lv_at hl 1 rfl) ?_
      refine ks_icmp_ge (tgt := 24) hx hb dX7_slipped_9 (by decide) (by omega) (by omega) (fun c_9 => ?_) (fun c_9 => ?_)
      · obtain rfl : k_ = i_ := by omega
        refine lv_lload_n hx hb dX7_slipped_24 rfl (lv_at hl 2 rfl) ?_
        exact cr_lret hx hb hr hlocks hK hP hD hS dX7_slipped_25 (by rw [hRR]; exact ctR_l (rfl) (rfl))
      · refine lv_lload_n hx hb dX7_slipped_12 rfl (lv_at hl 2 rfl) ?_
        refine lv_ldc2 hx hb hown (hts (.constantLong RX7 65 (10)) (List.mem_of_getElem? (i := 1) rfl)) dX7_slipped_13 ?_
        refine ks_vL (show (10 : Int64) = lN 10 from rfl) ?_
        refine lv_lmul hx hb dX7_slipped_16 ?_
        refine ks_vL (show (slA v_ i_) * (lN 10) = slA v_ (i_ + 1) from sl7_s v_ i_) ?_
        refine lv_lstore_n (lv' := [(2, .long (slA v_ (i_ + 1))), (4, .int (nI i_)), (0, .int (nI k_))]) hx hb dX7_slipped_17 rfl hl (by decide) rfl (fun ls hl => ?_)
        refine lv_iinc (v := nI (i_ + 1)) (lv' := [(4, .int (nI (i_ + 1))), (2, .long (slA v_ (i_ + 1))), (0, .int (nI k_))]) hx hb dX7_slipped_18 hl (k := 1) rfl (ks_inc i_ 1) (by decide) rfl (fun ls hl => ?_)
        refine lv_goto (tgt := 6) hx hb dX7_slipped_21 (by decide) ?_
        exact ih_6  (i_ + 1) (by omega) (by omega) _ _ hP hD hS ls (lv_sub hl [0, 2, 1] rfl)
  exact L_6 _ 0 (Nat.lt_succ_self _) (by omega) _ _ hP hD hS ls (lv_sub hl [0, 2, 1] rfl)
set_option maxHeartbeats 4000000 in
set_option maxRecDepth 100000 in
theorem c_X7_maySlip (G : GG) (l : Launch) (y_ : Nat) (ca : Nat → Nat) (ke : Nat) (ty_ : Nat) (th : Nat) (po : Nat) (fl_ : Prop) (tl : Nat) (T : TS) (j_ : Nat) (k_ : Nat) (v_ : Int32) (jj : j_ < 6) (jk : k_ < 10) (jy : -9 ≤ v_.toInt ∧ v_.toInt ≤ 9) : Cr G l yX7_maySlip wsX7_maySlip ({ frames := 1, cells := 0, slots := 0, locals := 25 }) 0 0 [.ref y_, .int (nI j_), .int (nI k_), .int v_] [(y_, .inr (7, [.ref (ca 0), .ref (ca 1), .ref (ca 2), .int (nI ke), .ref (ca 3), .int (nI ty_), .int (nI th), .int (nI po), .int (bI fl_), .ref (ca 4), .int (nI tl), .ref (ca 5)])), (ca 0, .inl (G.2.2.1, 103, .inr (.inl (mV T))))] (ctR (some (.int (nI (msA T j_ k_ v_)))) [(y_, .inr (7, [.ref (ca 0), .ref (ca 1), .ref (ca 2), .int (nI ke), .ref (ca 3), .int (nI ty_), .int (nI th), .int (nI po), .int (bI fl_), .ref (ca 4), .int (nI tl), .ref (ca 5)])), (ca 0, .inl (G.2.2.1, 103, .inr (.inl (mV T))))]) := by
  refine cr_intro (cc := cX7_maySlip) (maxL := 4) (ret := (some .int)) (own := RX7) (by decide) rfl rfl (Nat.le_of_ble_eq_true rfl) ?_
  intro p e s m args below meth c A hx hb hr hml hts hown hlocks hnm hNX hP hK hD hA hS ls hl
  obtain ⟨RR, hRR⟩ : ∃ RR, RR = (ctR (some (.int (nI (msA T j_ k_ v_)))) [(y_, .inr (7, [.ref (ca 0), .ref (ca 1), .ref (ca 2), .int (nI ke), .ref (ca 3), .int (nI ty_), .int (nI th), .int (nI po), .int (bI fl_), .ref (ca 4), .int (nI tl), .ref (ca 5)])), (ca 0, .inl (G.2.2.1, 103, .inr (.inl (mV T))))]) := ⟨_, rfl⟩
  rw [← hRR]
  have hl : lv_has ls 4 [(0, .ref y_), (1, .int (nI j_)), (2, .int (nI k_)), (3, .int v_)] := hl
  have hin7 : ∀ w ∈ u_ws RX7 TX7 12, w ∈ wsX7_maySlip := fun w h => List.mem_cons_of_mem _ (List.mem_append_right _ h)
  refine lv_iload_n hx hb dX7_maySlip_0 rfl (lv_at hl 1 rfl) ?_
  refine ks_i2lN hx hb dX7_maySlip_1 (by omega) ?_
  refine lv_lconst (v := lN 0) hx hb dX7_maySlip_2 rfl ?_
  refine lv_ldc2 hx hb hown (hts (.constantLong RX7 29 (5)) (List.mem_of_getElem? (i := 1) rfl)) dX7_maySlip_3 ?_
  refine ks_vL (show (5 : Int64) = lN 5 from rfl) ?_
  refine cr_S (wr := [(y_, .inr (7, [.ref (ca 0), .ref (ca 1), .ref (ca 2), .int (nI ke), .ref (ca 3), .int (nI ty_), .int (nI th), .int (nI po), .int (bI fl_), .ref (ca 4), .int (nI tl), .ref (ca 5)])), (ca 0, .inl (G.2.2.1, 103, .inr (.inl (mV T))))]) (As := [.long (lN j_), .long (lN 0), .long (lN 5)]) (rest := []) ⟨hx, hb, hml, hown, hts⟩ (c_X7_in__n G l j_ 0 5 (by omega) (by omega) (by omega)) (va_cwS 3 hts gX7_maySlip_X7_in rfl rfl rfl (by decide +kernel) ⟨Nat.le_of_ble_eq_true rfl, Nat.le_of_ble_eq_true rfl⟩) dX7_maySlip_6 hK hNX hP hD hS hA hl [] [0, 1] rfl rfl rfl rfl (by decide) rfl (Nat.le_of_ble_eq_true rfl) ⟨Nat.le_of_ble_eq_true rfl, Nat.le_of_ble_eq_true rfl⟩ rfl (fun v' w' Hq lcq hR' hP hD hS => ?_)
  obtain ⟨rfl, rfl⟩ := hR'
  have hP : va_P G.1 vwCl [(y_, .inr (7, [.ref (ca 0), .ref (ca 1), .ref (ca 2), .int (nI ke), .ref (ca 3), .int (nI ty_), .int (nI th), .int (nI po), .int (bI fl_), .ref (ca 4), .int (nI tl), .ref (ca 5)])), (ca 0, .inl (G.2.2.1, 103, .inr (.inl (mV T))))] _ := hP.sub [0, 1] rfl
  have hD : va_D A [(y_, .inr (7, [.ref (ca 0), .ref (ca 1), .ref (ca 2), .int (nI ke), .ref (ca 3), .int (nI ty_), .int (nI th), .int (nI po), .int (bI fl_), .ref (ca 4), .int (nI tl), .ref (ca 5)])), (ca 0, .inl (G.2.2.1, 103, .inr (.inl (mV T))))] := hD.sub [0, 1] (by decide +kernel) rfl
  refine ks_ifb_ne (tgt := 14) hx hb dX7_maySlip_9 (by decide) (fun c_9 => ?_) (fun c_9 => ?_)
  · refine lv_iload_n hx hb dX7_maySlip_14 rfl (lv_at hl 2 rfl) ?_
    refine ks_i2lN hx hb dX7_maySlip_15 (by omega) ?_
    refine lv_lconst (v := lN 0) hx hb dX7_maySlip_16 rfl ?_
    refine lv_ldc2 hx hb hown (hts (.constantLong RX7 87 (9)) (List.mem_of_getElem? (i := 2) rfl)) dX7_maySlip_17 ?_
    refine ks_vL (show (9 : Int64) = lN 9 from rfl) ?_
    refine cr_S (wr := [(y_, .inr (7, [.ref (ca 0), .ref (ca 1), .ref (ca 2), .int (nI ke), .ref (ca 3), .int (nI ty_), .int (nI th), .int (nI po), .int (bI fl_), .ref (ca 4), .int (nI tl), .ref (ca 5)])), (ca 0, .inl (G.2.2.1, 103, .inr (.inl (mV T))))]) (As := [.long (lN k_), .long (lN 0), .long (lN 9)]) (rest := []) ⟨hx, hb, hml, hown, hts⟩ (c_X7_in__n G l k_ 0 9 (by omega) (by omega) (by omega)) (va_cwS 3 hts gX7_maySlip_X7_in rfl rfl rfl (by decide +kernel) ⟨Nat.le_of_ble_eq_true rfl, Nat.le_of_ble_eq_true rfl⟩) dX7_maySlip_20 hK hNX hP hD hS hA hl [] [0, 1] rfl rfl rfl rfl (by decide) rfl (Nat.le_of_ble_eq_true rfl) ⟨Nat.le_of_ble_eq_true rfl, Nat.le_of_ble_eq_true rfl⟩ rfl (fun v' w' Hq lcq hR' hP hD hS => ?_)
    obtain ⟨rfl, rfl⟩ := hR'
    have hP : va_P G.1 vwCl [(y_, .inr (7, [.ref (ca 0), .ref (ca 1), .ref (ca 2), .int (nI ke), .ref (ca 3), .int (nI ty_), .int (nI th), .int (nI po), .int (bI fl_), .ref (ca 4), .int (nI tl), .ref (ca 5)])), (ca 0, .inl (G.2.2.1, 103, .inr (.inl (mV T))))] _ := hP.sub [0, 1] rfl
    have hD : va_D A [(y_, .inr (7, [.ref (ca 0), .ref (ca 1), .ref (ca 2), .int (nI ke), .ref (ca 3), .int (nI ty_), .int (nI th), .int (nI po), .int (bI fl_), .ref (ca 4), .int (nI tl), .ref (ca 5)])), (ca 0, .inl (G.2.2.1, 103, .inr (.inl (mV T))))] := hD.sub [0, 1] (by decide +kernel) rfl
    refine ks_ifb_eq (tgt := 40) hx hb dX7_maySlip_23 (by decide) (fun c_23 => ?_) (fun c_23 => ?_)
    · exact absurd ⟨Nat.zero_le _, by omega⟩ c_23
    · refine lv_iload_n hx hb dX7_maySlip_26 rfl (lv_at hl 3 rfl) ?_
      refine lv_i2l hx hb dX7_maySlip_27 rfl ?_
      refine lv_ldc2 hx hb hown (hts (.constantLong RX7 89 (-9)) (List.mem_of_getElem? (i := 3) rfl)) dX7_maySlip_28 ?_
      refine lv_ldc2 hx hb hown (hts (.constantLong RX7 87 (9)) (List.mem_of_getElem? (i := 2) rfl)) dX7_maySlip_31 ?_
      refine ks_vL (show (9 : Int64) = lN 9 from rfl) ?_
      refine cr_S (wr := [(y_, .inr (7, [.ref (ca 0), .ref (ca 1), .ref (ca 2), .int (nI ke), .ref (ca 3), .int (nI ty_), .int (nI th), .int (nI po), .int (bI fl_), .ref (ca 4), .int (nI tl), .ref (ca 5)])), (ca 0, .inl (G.2.2.1, 103, .inr (.inl (mV T))))]) (As := [.long v_.toInt64, .long (-9), .long (lN 9)]) (rest := []) ⟨hx, hb, hml, hown, hts⟩ (c_X7_in G l v_.toInt64 (-9) (lN 9) ) (va_cwS 3 hts gX7_maySlip_X7_in rfl rfl rfl (by decide +kernel) ⟨Nat.le_of_ble_eq_true rfl, Nat.le_of_ble_eq_true rfl⟩) dX7_maySlip_34 hK hNX hP hD hS hA hl [] [0, 1] rfl rfl rfl rfl (by decide) rfl (Nat.le_of_ble_eq_true rfl) ⟨Nat.le_of_ble_eq_true rfl, Nat.le_of_ble_eq_true rfl⟩ rfl (fun v' w' Hq lcq hR' hP hD hS => ?_)
      obtain ⟨rfl, rfl⟩ := hR'
      have hP : va_P G.1 vwCl [(y_, .inr (7, [.ref (ca 0), .ref (ca 1), .ref (ca 2), .int (nI ke), .ref (ca 3), .int (nI ty_), .int (nI th), .int (nI po), .int (bI fl_), .ref (ca 4), .int (nI tl), .ref (ca 5)])), (ca 0, .inl (G.2.2.1, 103, .inr (.inl (mV T))))] _ := hP.sub [0, 1] rfl
      have hD : va_D A [(y_, .inr (7, [.ref (ca 0), .ref (ca 1), .ref (ca 2), .int (nI ke), .ref (ca 3), .int (nI ty_), .int (nI th), .int (nI po), .int (bI fl_), .ref (ca 4), .int (nI tl), .ref (ca 5)])), (ca 0, .inl (G.2.2.1, 103, .inr (.inl (mV T))))] := hD.sub [0, 1] (by decide +kernel) rfl
      refine ks_ifb_ne (tgt := 42) hx hb dX7_maySlip_37 (by decide) (fun c_37 => ?_) (fun c_37 => ?_)
      · refine lv_aload_n hx hb dX7_maySlip_42 rfl (lv_at hl 0 rfl) ?_
        refine va_get (D := G.1) (ci := 7) (v := .ref (ca 0)) (C := RX7) (T := TX7) (N := 12) hx hb hts hin7 hown hK hP 0 rfl rfl 0 (by decide) (hts (.fieldLink RX7 7 "PowerTablesModel" "now" "[J") (List.mem_of_getElem? (i := 4) rfl)) (fun _ h9 => h9) rfl dX7_maySlip_43 ?_
        refine lv_bipush (v := nI 7) hx hb dX7_maySlip_46 (by decide) ?_
        refine lv_iload_n hx hb dX7_maySlip_48 rfl (lv_at hl 1 rfl) ?_
        refine ks_iaddN hx hb dX7_maySlip_49 ?_
        refine ks_lald hx hb hK hP 1 rfl (by omega) (by decide) dX7_maySlip_50 ?_
        refine ks_vL (show mV T (7 + j_) = T.r j_ from mV_r (j := j_) (by omega)) ?_
        refine lv_iload_n hx hb dX7_maySlip_51 rfl (lv_at hl 2 rfl) ?_
        refine lv_iload_n hx hb dX7_maySlip_52 rfl (lv_at hl 3 rfl) ?_
        refine cr_S (wr := [(y_, .inr (7, [.ref (ca 0), .ref (ca 1), .ref (ca 2), .int (nI ke), .ref (ca 3), .int (nI ty_), .int (nI th), .int (nI po), .int (bI fl_), .ref (ca 4), .int (nI tl), .ref (ca 5)])), (ca 0, .inl (G.2.2.1, 103, .inr (.inl (mV T))))]) (As := [.int (nI k_), .int v_]) (rest := [.long (T.r j_)]) ⟨hx, hb, hml, hown, hts⟩ (c_X7_slipped G l v_ k_ (by omega)) (va_cwS 2 hts gX7_maySlip_X7_slipped rfl rfl rfl (by decide +kernel) ⟨Nat.le_of_ble_eq_true rfl, Nat.le_of_ble_eq_true rfl⟩) dX7_maySlip_53 hK hNX hP hD hS hA hl [] [0, 1] rfl rfl rfl rfl (by decide) rfl (Nat.le_of_ble_eq_true rfl) ⟨Nat.le_of_ble_eq_true rfl, Nat.le_of_ble_eq_true rfl⟩ rfl (fun v' w' Hq lcq hR' hP hD hS => ?_)
        obtain ⟨rfl, rfl⟩ := hR'
        have hP : va_P G.1 vwCl [(y_, .inr (7, [.ref (ca 0), .ref (ca 1), .ref (ca 2), .int (nI ke), .ref (ca 3), .int (nI ty_), .int (nI th), .int (nI po), .int (bI fl_), .ref (ca 4), .int (nI tl), .ref (ca 5)])), (ca 0, .inl (G.2.2.1, 103, .inr (.inl (mV T))))] _ := hP.sub [0, 1] rfl
        have hD : va_D A [(y_, .inr (7, [.ref (ca 0), .ref (ca 1), .ref (ca 2), .int (nI ke), .ref (ca 3), .int (nI ty_), .int (nI th), .int (nI po), .int (bI fl_), .ref (ca 4), .int (nI tl), .ref (ca 5)])), (ca 0, .inl (G.2.2.1, 103, .inr (.inl (mV T))))] := hD.sub [0, 1] (by decide +kernel) rfl
        refine lv_ladd hx hb dX7_maySlip_56 ?_
        refine lv_ldc2 hx hb hown (hts (.constantLong RX7 95 (-99999999999)) (List.mem_of_getElem? (i := 5) rfl)) dX7_maySlip_57 ?_
        refine lv_ldc2 hx hb hown (hts (.constantLong RX7 97 (99999999999)) (List.mem_of_getElem? (i := 6) rfl)) dX7_maySlip_60 ?_
        refine ks_vL (show (99999999999 : Int64) = lN 99999999999 from rfl) ?_
        refine cr_S (wr := [(y_, .inr (7, [.ref (ca 0), .ref (ca 1), .ref (ca 2), .int (nI ke), .ref (ca 3), .int (nI ty_), .int (nI th), .int (nI po), .int (bI fl_), .ref (ca 4), .int (nI tl), .ref (ca 5)])), (ca 0, .inl (G.2.2.1, 103, .inr (.inl (mV T))))]) (As := [.long ((T.r j_) + (slA v_ k_)), .long (-99999999999), .long (lN 99999999999)]) (rest := []) ⟨hx, hb, hml, hown, hts⟩ (c_X7_in G l ((T.r j_) + (slA v_ k_)) (-99999999999) (lN 99999999999) ) (va_cwS 3 hts gX7_maySlip_X7_in rfl rfl rfl (by decide +kernel) ⟨Nat.le_of_ble_eq_true rfl, Nat.le_of_ble_eq_true rfl⟩) dX7_maySlip_63 hK hNX hP hD hS hA hl [] [0, 1] rfl rfl rfl rfl (by decide) rfl (Nat.le_of_ble_eq_true rfl) ⟨Nat.le_of_ble_eq_true rfl, Nat.le_of_ble_eq_true rfl⟩ rfl (fun v' w' Hq lcq hR' hP hD hS => ?_)
        obtain ⟨rfl, rfl⟩ := hR'
        have hP : va_P G.1 vwCl [(y_, .inr (7, [.ref (ca 0), .ref (ca 1), .ref (ca 2), .int (nI ke), .ref (ca 3), .int (nI ty_), .int (nI th), .int (nI po), .int (bI fl_), .ref (ca 4), .int (nI tl), .ref (ca 5)])), (ca 0, .inl (G.2.2.1, 103, .inr (.inl (mV T))))] _ := hP.sub [0, 1] rfl
        have hD : va_D A [(y_, .inr (7, [.ref (ca 0), .ref (ca 1), .ref (ca 2), .int (nI ke), .ref (ca 3), .int (nI ty_), .int (nI th), .int (nI po), .int (bI fl_), .ref (ca 4), .int (nI tl), .ref (ca 5)])), (ca 0, .inl (G.2.2.1, 103, .inr (.inl (mV T))))] := hD.sub [0, 1] (by decide +kernel) rfl
        refine ks_ifb_eq (tgt := 73) hx hb dX7_maySlip_66 (by decide) (fun c_66 => ?_) (fun c_66 => ?_)
        · have hv : 3 = msA T j_ k_ v_ := msA_n c_66
          refine lv_iconst (v := nI 3) hx hb dX7_maySlip_73 (by decide) ?_
          exact cr_iret hx hb hr hlocks hK hP hD hS dX7_maySlip_74 (by rw [hRR]; exact ctR_i (congrArg nI hv) (rfl))
        · have hv : 0 = msA T j_ k_ v_ := msA_y c_66
          refine lv_iconst (v := nI 0) hx hb dX7_maySlip_69 (by decide) ?_
          refine lv_goto (tgt := 74) hx hb dX7_maySlip_70 (by decide) ?_
          exact cr_iret hx hb hr hlocks hK hP hD hS dX7_maySlip_74 (by rw [hRR]; exact ctR_i (congrArg nI hv) (rfl))
      · exact absurd (in9_iff.mpr jy) c_37
  · exact absurd ⟨Nat.zero_le _, by omega⟩ c_9
set_option maxHeartbeats 4000000 in
set_option maxRecDepth 100000 in
theorem c_X7_maySlip__b1 (G : GG) (l : Launch) (y_ : Nat) (ca : Nat → Nat) (ke : Nat) (ty_ : Nat) (th : Nat) (po : Nat) (fl_ : Prop) (tl : Nat) (T : TS) (w_ : Int32) (u_ : Int32) (v_ : Int32) (h8 : ¬ (0 ≤ w_.toInt ∧ w_.toInt ≤ 5)) : Cr G l yX7_maySlip wsX7_maySlip ({ frames := 1, cells := 0, slots := 0, locals := 25 }) 0 0 [.ref y_, .int w_, .int u_, .int v_] [(y_, .inr (7, [.ref (ca 0), .ref (ca 1), .ref (ca 2), .int (nI ke), .ref (ca 3), .int (nI ty_), .int (nI th), .int (nI po), .int (bI fl_), .ref (ca 4), .int (nI tl), .ref (ca 5)])), (ca 0, .inl (G.2.2.1, 103, .inr (.inl (mV T))))] (ctR (some (.int (nI 1))) [(y_, .inr (7, [.ref (ca 0), .ref (ca 1), .ref (ca 2), .int (nI ke), .ref (ca 3), .int (nI ty_), .int (nI th), .int (nI po), .int (bI fl_), .ref (ca 4), .int (nI tl), .ref (ca 5)])), (ca 0, .inl (G.2.2.1, 103, .inr (.inl (mV T))))]) := by
  refine cr_intro (cc := cX7_maySlip) (maxL := 4) (ret := (some .int)) (own := RX7) (by decide) rfl rfl (Nat.le_of_ble_eq_true rfl) ?_
  intro p e s m args below meth c A hx hb hr hml hts hown hlocks hnm hNX hP hK hD hA hS ls hl
  obtain ⟨RR, hRR⟩ : ∃ RR, RR = (ctR (some (.int (nI 1))) [(y_, .inr (7, [.ref (ca 0), .ref (ca 1), .ref (ca 2), .int (nI ke), .ref (ca 3), .int (nI ty_), .int (nI th), .int (nI po), .int (bI fl_), .ref (ca 4), .int (nI tl), .ref (ca 5)])), (ca 0, .inl (G.2.2.1, 103, .inr (.inl (mV T))))]) := ⟨_, rfl⟩
  rw [← hRR]
  have hl : lv_has ls 4 [(0, .ref y_), (1, .int w_), (2, .int u_), (3, .int v_)] := hl
  refine lv_iload_n hx hb dX7_maySlip_0 rfl (lv_at hl 1 rfl) ?_
  refine lv_i2l hx hb dX7_maySlip_1 rfl ?_
  refine lv_lconst (v := lN 0) hx hb dX7_maySlip_2 rfl ?_
  refine lv_ldc2 hx hb hown (hts (.constantLong RX7 29 (5)) (List.mem_of_getElem? (i := 1) rfl)) dX7_maySlip_3 ?_
  refine ks_vL (show (5 : Int64) = lN 5 from rfl) ?_
  refine cr_S (wr := [(y_, .inr (7, [.ref (ca 0), .ref (ca 1), .ref (ca 2), .int (nI ke), .ref (ca 3), .int (nI ty_), .int (nI th), .int (nI po), .int (bI fl_), .ref (ca 4), .int (nI tl), .ref (ca 5)])), (ca 0, .inl (G.2.2.1, 103, .inr (.inl (mV T))))]) (As := [.long w_.toInt64, .long (lN 0), .long (lN 5)]) (rest := []) ⟨hx, hb, hml, hown, hts⟩ (c_X7_in__i G l w_ 0 5 (by omega) (by omega)) (va_cwS 3 hts gX7_maySlip_X7_in rfl rfl rfl (by decide +kernel) ⟨Nat.le_of_ble_eq_true rfl, Nat.le_of_ble_eq_true rfl⟩) dX7_maySlip_6 hK hNX hP hD hS hA hl [] [0, 1] rfl rfl rfl rfl (by decide) rfl (Nat.le_of_ble_eq_true rfl) ⟨Nat.le_of_ble_eq_true rfl, Nat.le_of_ble_eq_true rfl⟩ rfl (fun v' w' Hq lcq hR' hP hD hS => ?_)
  obtain ⟨rfl, rfl⟩ := hR'
  have hP : va_P G.1 vwCl [(y_, .inr (7, [.ref (ca 0), .ref (ca 1), .ref (ca 2), .int (nI ke), .ref (ca 3), .int (nI ty_), .int (nI th), .int (nI po), .int (bI fl_), .ref (ca 4), .int (nI tl), .ref (ca 5)])), (ca 0, .inl (G.2.2.1, 103, .inr (.inl (mV T))))] _ := hP.sub [0, 1] rfl
  have hD : va_D A [(y_, .inr (7, [.ref (ca 0), .ref (ca 1), .ref (ca 2), .int (nI ke), .ref (ca 3), .int (nI ty_), .int (nI th), .int (nI po), .int (bI fl_), .ref (ca 4), .int (nI tl), .ref (ca 5)])), (ca 0, .inl (G.2.2.1, 103, .inr (.inl (mV T))))] := hD.sub [0, 1] (by decide +kernel) rfl
  refine ks_ifb_ne (tgt := 14) hx hb dX7_maySlip_9 (by decide) (fun c_9 => ?_) (fun c_9 => ?_)
  · exact absurd c_9 h8
  · refine lv_iconst (v := nI 1) hx hb dX7_maySlip_12 (by decide) ?_
    exact cr_iret hx hb hr hlocks hK hP hD hS dX7_maySlip_13 (by rw [hRR]; exact ctR_i (rfl) (rfl))
set_option maxHeartbeats 4000000 in
set_option maxRecDepth 100000 in
theorem c_X7_maySlip__b2 (G : GG) (l : Launch) (y_ : Nat) (ca : Nat → Nat) (ke : Nat) (ty_ : Nat) (th : Nat) (po : Nat) (fl_ : Prop) (tl : Nat) (T : TS) (w_ : Int32) (u_ : Int32) (v_ : Int32) (j1 : 0 ≤ w_.toInt ∧ w_.toInt ≤ 5) (h8 : ¬ ((0 ≤ u_.toInt ∧ u_.toInt ≤ 9) ∧ (-9 ≤ v_.toInt ∧ v_.toInt ≤ 9))) : Cr G l yX7_maySlip wsX7_maySlip ({ frames := 1, cells := 0, slots := 0, locals := 25 }) 0 0 [.ref y_, .int w_, .int u_, .int v_] [(y_, .inr (7, [.ref (ca 0), .ref (ca 1), .ref (ca 2), .int (nI ke), .ref (ca 3), .int (nI ty_), .int (nI th), .int (nI po), .int (bI fl_), .ref (ca 4), .int (nI tl), .ref (ca 5)])), (ca 0, .inl (G.2.2.1, 103, .inr (.inl (mV T))))] (ctR (some (.int (nI 2))) [(y_, .inr (7, [.ref (ca 0), .ref (ca 1), .ref (ca 2), .int (nI ke), .ref (ca 3), .int (nI ty_), .int (nI th), .int (nI po), .int (bI fl_), .ref (ca 4), .int (nI tl), .ref (ca 5)])), (ca 0, .inl (G.2.2.1, 103, .inr (.inl (mV T))))]) := by
  refine cr_intro (cc := cX7_maySlip) (maxL := 4) (ret := (some .int)) (own := RX7) (by decide) rfl rfl (Nat.le_of_ble_eq_true rfl) ?_
  intro p e s m args below meth c A hx hb hr hml hts hown hlocks hnm hNX hP hK hD hA hS ls hl
  obtain ⟨RR, hRR⟩ : ∃ RR, RR = (ctR (some (.int (nI 2))) [(y_, .inr (7, [.ref (ca 0), .ref (ca 1), .ref (ca 2), .int (nI ke), .ref (ca 3), .int (nI ty_), .int (nI th), .int (nI po), .int (bI fl_), .ref (ca 4), .int (nI tl), .ref (ca 5)])), (ca 0, .inl (G.2.2.1, 103, .inr (.inl (mV T))))]) := ⟨_, rfl⟩
  rw [← hRR]
  have hl : lv_has ls 4 [(0, .ref y_), (1, .int w_), (2, .int u_), (3, .int v_)] := hl
  refine lv_iload_n hx hb dX7_maySlip_0 rfl (lv_at hl 1 rfl) ?_
  refine lv_i2l hx hb dX7_maySlip_1 rfl ?_
  refine lv_lconst (v := lN 0) hx hb dX7_maySlip_2 rfl ?_
  refine lv_ldc2 hx hb hown (hts (.constantLong RX7 29 (5)) (List.mem_of_getElem? (i := 1) rfl)) dX7_maySlip_3 ?_
  refine ks_vL (show (5 : Int64) = lN 5 from rfl) ?_
  refine cr_S (wr := [(y_, .inr (7, [.ref (ca 0), .ref (ca 1), .ref (ca 2), .int (nI ke), .ref (ca 3), .int (nI ty_), .int (nI th), .int (nI po), .int (bI fl_), .ref (ca 4), .int (nI tl), .ref (ca 5)])), (ca 0, .inl (G.2.2.1, 103, .inr (.inl (mV T))))]) (As := [.long w_.toInt64, .long (lN 0), .long (lN 5)]) (rest := []) ⟨hx, hb, hml, hown, hts⟩ (c_X7_in__i G l w_ 0 5 (by omega) (by omega)) (va_cwS 3 hts gX7_maySlip_X7_in rfl rfl rfl (by decide +kernel) ⟨Nat.le_of_ble_eq_true rfl, Nat.le_of_ble_eq_true rfl⟩) dX7_maySlip_6 hK hNX hP hD hS hA hl [] [0, 1] rfl rfl rfl rfl (by decide) rfl (Nat.le_of_ble_eq_true rfl) ⟨Nat.le_of_ble_eq_true rfl, Nat.le_of_ble_eq_true rfl⟩ rfl (fun v' w' Hq lcq hR' hP hD hS => ?_)
  obtain ⟨rfl, rfl⟩ := hR'
  have hP : va_P G.1 vwCl [(y_, .inr (7, [.ref (ca 0), .ref (ca 1), .ref (ca 2), .int (nI ke), .ref (ca 3), .int (nI ty_), .int (nI th), .int (nI po), .int (bI fl_), .ref (ca 4), .int (nI tl), .ref (ca 5)])), (ca 0, .inl (G.2.2.1, 103, .inr (.inl (mV T))))] _ := hP.sub [0, 1] rfl
  have hD : va_D A [(y_, .inr (7, [.ref (ca 0), .ref (ca 1), .ref (ca 2), .int (nI ke), .ref (ca 3), .int (nI ty_), .int (nI th), .int (nI po), .int (bI fl_), .ref (ca 4), .int (nI tl), .ref (ca 5)])), (ca 0, .inl (G.2.2.1, 103, .inr (.inl (mV T))))] := hD.sub [0, 1] (by decide +kernel) rfl
  refine ks_ifb_ne (tgt := 14) hx hb dX7_maySlip_9 (by decide) (fun c_9 => ?_) (fun c_9 => ?_)
  · refine lv_iload_n hx hb dX7_maySlip_14 rfl (lv_at hl 2 rfl) ?_
    refine lv_i2l hx hb dX7_maySlip_15 rfl ?_
    refine lv_lconst (v := lN 0) hx hb dX7_maySlip_16 rfl ?_
    refine lv_ldc2 hx hb hown (hts (.constantLong RX7 87 (9)) (List.mem_of_getElem? (i := 2) rfl)) dX7_maySlip_17 ?_
    refine ks_vL (show (9 : Int64) = lN 9 from rfl) ?_
    refine cr_S (wr := [(y_, .inr (7, [.ref (ca 0), .ref (ca 1), .ref (ca 2), .int (nI ke), .ref (ca 3), .int (nI ty_), .int (nI th), .int (nI po), .int (bI fl_), .ref (ca 4), .int (nI tl), .ref (ca 5)])), (ca 0, .inl (G.2.2.1, 103, .inr (.inl (mV T))))]) (As := [.long u_.toInt64, .long (lN 0), .long (lN 9)]) (rest := []) ⟨hx, hb, hml, hown, hts⟩ (c_X7_in__i G l u_ 0 9 (by omega) (by omega)) (va_cwS 3 hts gX7_maySlip_X7_in rfl rfl rfl (by decide +kernel) ⟨Nat.le_of_ble_eq_true rfl, Nat.le_of_ble_eq_true rfl⟩) dX7_maySlip_20 hK hNX hP hD hS hA hl [] [0, 1] rfl rfl rfl rfl (by decide) rfl (Nat.le_of_ble_eq_true rfl) ⟨Nat.le_of_ble_eq_true rfl, Nat.le_of_ble_eq_true rfl⟩ rfl (fun v' w' Hq lcq hR' hP hD hS => ?_)
    obtain ⟨rfl, rfl⟩ := hR'
    have hP : va_P G.1 vwCl [(y_, .inr (7, [.ref (ca 0), .ref (ca 1), .ref (ca 2), .int (nI ke), .ref (ca 3), .int (nI ty_), .int (nI th), .int (nI po), .int (bI fl_), .ref (ca 4), .int (nI tl), .ref (ca 5)])), (ca 0, .inl (G.2.2.1, 103, .inr (.inl (mV T))))] _ := hP.sub [0, 1] rfl
    have hD : va_D A [(y_, .inr (7, [.ref (ca 0), .ref (ca 1), .ref (ca 2), .int (nI ke), .ref (ca 3), .int (nI ty_), .int (nI th), .int (nI po), .int (bI fl_), .ref (ca 4), .int (nI tl), .ref (ca 5)])), (ca 0, .inl (G.2.2.1, 103, .inr (.inl (mV T))))] := hD.sub [0, 1] (by decide +kernel) rfl
    refine ks_ifb_eq (tgt := 40) hx hb dX7_maySlip_23 (by decide) (fun c_23 => ?_) (fun c_23 => ?_)
    · refine lv_iconst (v := nI 2) hx hb dX7_maySlip_40 (by decide) ?_
      exact cr_iret hx hb hr hlocks hK hP hD hS dX7_maySlip_41 (by rw [hRR]; exact ctR_i (rfl) (rfl))
    · refine lv_iload_n hx hb dX7_maySlip_26 rfl (lv_at hl 3 rfl) ?_
      refine lv_i2l hx hb dX7_maySlip_27 rfl ?_
      refine lv_ldc2 hx hb hown (hts (.constantLong RX7 89 (-9)) (List.mem_of_getElem? (i := 3) rfl)) dX7_maySlip_28 ?_
      refine lv_ldc2 hx hb hown (hts (.constantLong RX7 87 (9)) (List.mem_of_getElem? (i := 2) rfl)) dX7_maySlip_31 ?_
      refine ks_vL (show (9 : Int64) = lN 9 from rfl) ?_
      refine cr_S (wr := [(y_, .inr (7, [.ref (ca 0), .ref (ca 1), .ref (ca 2), .int (nI ke), .ref (ca 3), .int (nI ty_), .int (nI th), .int (nI po), .int (bI fl_), .ref (ca 4), .int (nI tl), .ref (ca 5)])), (ca 0, .inl (G.2.2.1, 103, .inr (.inl (mV T))))]) (As := [.long v_.toInt64, .long (-9), .long (lN 9)]) (rest := []) ⟨hx, hb, hml, hown, hts⟩ (c_X7_in G l v_.toInt64 (-9) (lN 9) ) (va_cwS 3 hts gX7_maySlip_X7_in rfl rfl rfl (by decide +kernel) ⟨Nat.le_of_ble_eq_true rfl, Nat.le_of_ble_eq_true rfl⟩) dX7_maySlip_34 hK hNX hP hD hS hA hl [] [0, 1] rfl rfl rfl rfl (by decide) rfl (Nat.le_of_ble_eq_true rfl) ⟨Nat.le_of_ble_eq_true rfl, Nat.le_of_ble_eq_true rfl⟩ rfl (fun v' w' Hq lcq hR' hP hD hS => ?_)
      obtain ⟨rfl, rfl⟩ := hR'
      have hP : va_P G.1 vwCl [(y_, .inr (7, [.ref (ca 0), .ref (ca 1), .ref (ca 2), .int (nI ke), .ref (ca 3), .int (nI ty_), .int (nI th), .int (nI po), .int (bI fl_), .ref (ca 4), .int (nI tl), .ref (ca 5)])), (ca 0, .inl (G.2.2.1, 103, .inr (.inl (mV T))))] _ := hP.sub [0, 1] rfl
      have hD : va_D A [(y_, .inr (7, [.ref (ca 0), .ref (ca 1), .ref (ca 2), .int (nI ke), .ref (ca 3), .int (nI ty_), .int (nI th), .int (nI po), .int (bI fl_), .ref (ca 4), .int (nI tl), .ref (ca 5)])), (ca 0, .inl (G.2.2.1, 103, .inr (.inl (mV T))))] := hD.sub [0, 1] (by decide +kernel) rfl
      refine ks_ifb_ne (tgt := 42) hx hb dX7_maySlip_37 (by decide) (fun c_37 => ?_) (fun c_37 => ?_)
      · exact absurd ⟨c_23, in9_iff.mp c_37⟩ h8
      · refine lv_iconst (v := nI 2) hx hb dX7_maySlip_40 (by decide) ?_
        exact cr_iret hx hb hr hlocks hK hP hD hS dX7_maySlip_41 (by rw [hRR]; exact ctR_i (rfl) (rfl))
  · exact absurd j1 c_9
set_option maxHeartbeats 4000000 in
set_option maxRecDepth 100000 in
theorem c_X7_slip (G : GG) (l : Launch) (y_ : Nat) (ca : Nat → Nat) (ke : Nat) (ty_ : Nat) (th : Nat) (po : Nat) (fl_ : Prop) (tl : Nat) (T : TS) (f_ : Nat → Int64) (Ss : Nat → TS) (j_ : Nat) (k_ : Nat) (v_ : Int32) (jk6 : ke ≤ 6) (jpf : PF f_ ke Ss) (jj : j_ < 6) (jk : k_ < 10) (jy : -9 ≤ v_.toInt ∧ v_.toInt ≤ 9) (jm : -99999999999 ≤ T.r j_ + slA v_ k_ ∧ T.r j_ + slA v_ k_ ≤ lN 99999999999) : Cr G l yX7_slip wsX7_slip ({ frames := 2, cells := 0, slots := 0, locals := 48 }) 0 0 [.ref y_, .int (nI j_), .int (nI k_), .int v_] [(y_, .inr (7, [.ref (ca 0), .ref (ca 1), .ref (ca 2), .int (nI ke), .ref (ca 3), .int (nI ty_), .int (nI th), .int (nI po), .int (bI fl_), .ref (ca 4), .int (nI tl), .ref (ca 5)])), (ca 0, .inl (G.2.2.1, 103, .inr (.inl (mV T)))), (ca 2, .inl (G.2.2.1, 618, .inr (.inl (f_))))] (fun (vv1 : Option Value) (ww1 : va_W) => ∃ (f9_ : Nat → Int64), vv1 = (some (.long (slA v_ k_))) ∧ ww1 = [(y_, .inr (7, [.ref (ca 0), .ref (ca 1), .ref (ca 2), .int (nI (mn6 ke)), .ref (ca 3), .int (nI ty_), .int (nI 0), .int (nI po), .int (bI fl_), .ref (ca 4), .int (nI tl), .ref (ca 5)])), (ca 0, .inl (G.2.2.1, 103, .inr (.inl (mV (T.setR j_ (T.r j_ + slA v_ k_)))))), (ca 2, .inl (G.2.2.1, 618, .inr (.inl (f9_))))] ∧ (PF f9_ (mn6 ke) (svS Ss ke T))) := by
  refine cr_intro (cc := cX7_slip) (maxL := 4) (ret := (some .long)) (own := RX7) (by decide) rfl rfl (Nat.le_of_ble_eq_true rfl) ?_
  intro p e s m args below meth c A hx hb hr hml hts hown hlocks hnm hNX hP hK hD hA hS ls hl
  obtain ⟨RR, hRR⟩ : ∃ RR, RR = (fun (vv1 : Option Value) (ww1 : va_W) => ∃ (f9_ : Nat → Int64), vv1 = (some (.long (slA v_ k_))) ∧ ww1 = [(y_, .inr (7, [.ref (ca 0), .ref (ca 1), .ref (ca 2), .int (nI (mn6 ke)), .ref (ca 3), .int (nI ty_), .int (nI 0), .int (nI po), .int (bI fl_), .ref (ca 4), .int (nI tl), .ref (ca 5)])), (ca 0, .inl (G.2.2.1, 103, .inr (.inl (mV (T.setR j_ (T.r j_ + slA v_ k_)))))), (ca 2, .inl (G.2.2.1, 618, .inr (.inl (f9_))))] ∧ (PF f9_ (mn6 ke) (svS Ss ke T))) := ⟨_, rfl⟩
  rw [← hRR]
  have hl : lv_has ls 4 [(0, .ref y_), (1, .int (nI j_)), (2, .int (nI k_)), (3, .int v_)] := hl
  have hin7 : ∀ w ∈ u_ws RX7 TX7 12, w ∈ wsX7_slip := fun w h => List.mem_cons_of_mem _ (List.mem_append_right _ h)
  refine lv_aload_n hx hb dX7_slip_0 rfl (lv_at hl 0 rfl) ?_
  refine lv_aload_n hx hb dX7_slip_1 rfl (lv_at hl 0 rfl) ?_
  refine lv_iload_n hx hb dX7_slip_2 rfl (lv_at hl 1 rfl) ?_
  refine lv_iload_n hx hb dX7_slip_3 rfl (lv_at hl 2 rfl) ?_
  refine lv_iload_n hx hb dX7_slip_4 rfl (lv_at hl 3 rfl) ?_
  refine cr_V (wr := [(ca 2, .inl (G.2.2.1, 618, .inr (.inl (f_))))]) (As := [.int (nI j_), .int (nI k_), .int v_]) (rest := [.ref y_]) ⟨hx, hb, hml, hown, hts⟩ (c_X7_maySlip G l y_ ca ke ty_ th po fl_ tl T j_ k_ v_ (by omega) (by omega) (jy)) (cwV 3 hts gX7_slip_X7_maySlip rfl rfl rfl (by decide +kernel) ⟨Nat.le_of_ble_eq_true rfl, Nat.le_of_ble_eq_true rfl⟩) dX7_slip_5 hK hNX hP hD hS hA hl 0 7 rfl rfl rfl [0, 1] [2] rfl rfl rfl rfl (by decide) rfl (Nat.le_of_ble_eq_true rfl) ⟨Nat.le_of_ble_eq_true rfl, Nat.le_of_ble_eq_true rfl⟩ rfl (fun v' w' Hq lcq hR' hP hD hS => ?_)
  obtain ⟨rfl, rfl⟩ := hR'
  have hP : va_P G.1 vwCl [(y_, .inr (7, [.ref (ca 0), .ref (ca 1), .ref (ca 2), .int (nI ke), .ref (ca 3), .int (nI ty_), .int (nI th), .int (nI po), .int (bI fl_), .ref (ca 4), .int (nI tl), .ref (ca 5)])), (ca 0, .inl (G.2.2.1, 103, .inr (.inl (mV T)))), (ca 2, .inl (G.2.2.1, 618, .inr (.inl (f_))))] _ := hP.sub [1, 2, 0] rfl
  have hD : va_D A [(y_, .inr (7, [.ref (ca 0), .ref (ca 1), .ref (ca 2), .int (nI ke), .ref (ca 3), .int (nI ty_), .int (nI th), .int (nI po), .int (bI fl_), .ref (ca 4), .int (nI tl), .ref (ca 5)])), (ca 0, .inl (G.2.2.1, 103, .inr (.inl (mV T)))), (ca 2, .inl (G.2.2.1, 618, .inr (.inl (f_))))] := hD.sub [1, 2, 0] (by decide +kernel) rfl
  refine ks_vI (show nI (msA T j_ k_ v_) = nI 0 from congrArg nI (if_pos jm)) ?_
  refine va_put (D := G.1) (ci := 7) (v := .int (nI 0)) (ty := .int) (C := RX7) (T := TX7) (N := 12) hx hb hts hin7 tyX7 tyX7_ok nmX7 hown hK hP hD hS 0 rfl rfl 6 (by decide) (hts (.fieldLink RX7 39 "PowerTablesModel" "thrown" "I") (List.mem_of_getElem? (i := 1) rfl)) (fun _ h9 => h9) rfl (tyX7_ok 6 (by decide)) rfl rfl (Nat.le_of_ble_eq_true rfl) dX7_slip_8 (fun Hq lcq hP hD hS => ?_)
  have hP : va_P G.1 vwCl [(y_, .inr (7, [.ref (ca 0), .ref (ca 1), .ref (ca 2), .int (nI ke), .ref (ca 3), .int (nI ty_), .int (nI 0), .int (nI po), .int (bI fl_), .ref (ca 4), .int (nI tl), .ref (ca 5)])), (ca 0, .inl (G.2.2.1, 103, .inr (.inl (mV T)))), (ca 2, .inl (G.2.2.1, 618, .inr (.inl (f_))))] _ := hP
  have hD : va_D A [(y_, .inr (7, [.ref (ca 0), .ref (ca 1), .ref (ca 2), .int (nI ke), .ref (ca 3), .int (nI ty_), .int (nI 0), .int (nI po), .int (bI fl_), .ref (ca 4), .int (nI tl), .ref (ca 5)])), (ca 0, .inl (G.2.2.1, 103, .inr (.inl (mV T)))), (ca 2, .inl (G.2.2.1, 618, .inr (.inl (f_))))] := hD
  refine lv_aload_n hx hb dX7_slip_11 rfl (lv_at hl 0 rfl) ?_
  refine va_get (D := G.1) (ci := 7) (v := .int (nI 0)) (C := RX7) (T := TX7) (N := 12) hx hb hts hin7 hown hK hP 0 rfl rfl 6 (by decide) (hts (.fieldLink RX7 39 "PowerTablesModel" "thrown" "I") (List.mem_of_getElem? (i := 1) rfl)) (fun _ h9 => h9) rfl dX7_slip_12 ?_
  refine ks_if_eq (tgt := 20) hx hb dX7_slip_15 (by decide) (by omega) (fun c_15 => ?_) (fun c_15 => ?_)
  · refine lv_aload_n hx hb dX7_slip_20 rfl (lv_at hl 0 rfl) ?_
    refine cr_V (wr := []) (As := []) (rest := []) ⟨hx, hb, hml, hown, hts⟩ (c_X7_saves G l y_ ca ke ty_ 0 po fl_ tl T f_ Ss (by omega) (jpf)) (cwV 0 hts gX7_slip_X7_saves rfl rfl rfl (by decide +kernel) ⟨Nat.le_of_ble_eq_true rfl, Nat.le_of_ble_eq_true rfl⟩) dX7_slip_21 hK hNX hP hD hS hA hl 0 7 rfl rfl rfl [0, 1, 2] [] rfl rfl rfl rfl (by decide) rfl (Nat.le_of_ble_eq_true rfl) ⟨Nat.le_of_ble_eq_true rfl, Nat.le_of_ble_eq_true rfl⟩ rfl (fun v' w' Hq lcq hR' hP hD hS => ?_)
    obtain ⟨f9_21, rfl, rfl, jq_21⟩ := hR'
    have hP : va_P G.1 vwCl [(y_, .inr (7, [.ref (ca 0), .ref (ca 1), .ref (ca 2), .int (nI (mn6 ke)), .ref (ca 3), .int (nI ty_), .int (nI 0), .int (nI po), .int (bI fl_), .ref (ca 4), .int (nI tl), .ref (ca 5)])), (ca 0, .inl (G.2.2.1, 103, .inr (.inl (mV T)))), (ca 2, .inl (G.2.2.1, 618, .inr (.inl (f9_21))))] _ := hP.sub [0, 1, 2] rfl
    have hD : va_D A [(y_, .inr (7, [.ref (ca 0), .ref (ca 1), .ref (ca 2), .int (nI (mn6 ke)), .ref (ca 3), .int (nI ty_), .int (nI 0), .int (nI po), .int (bI fl_), .ref (ca 4), .int (nI tl), .ref (ca 5)])), (ca 0, .inl (G.2.2.1, 103, .inr (.inl (mV T)))), (ca 2, .inl (G.2.2.1, 618, .inr (.inl (f9_21))))] := hD.sub [0, 1, 2] (by decide +kernel) rfl
    refine lv_aload_n hx hb dX7_slip_24 rfl (lv_at hl 0 rfl) ?_
    refine va_get (D := G.1) (ci := 7) (v := .ref (ca 0)) (C := RX7) (T := TX7) (N := 12) hx hb hts hin7 hown hK hP 0 rfl rfl 0 (by decide) (hts (.fieldLink RX7 7 "PowerTablesModel" "now" "[J") (List.mem_of_getElem? (i := 2) rfl)) (fun _ h9 => h9) rfl dX7_slip_25 ?_
    refine lv_bipush (v := nI 7) hx hb dX7_slip_28 (by decide) ?_
    refine lv_iload_n hx hb dX7_slip_30 rfl (lv_at hl 1 rfl) ?_
    refine ks_iaddN hx hb dX7_slip_31 ?_
    refine lv_dup2_11 hx hb dX7_slip_32 rfl rfl ?_
    refine ks_lald hx hb hK hP 1 rfl (by omega) (by decide) dX7_slip_33 ?_
    refine ks_vL (show mV T (7 + j_) = T.r j_ from mV_r (j := j_) (by omega)) ?_
    refine lv_iload_n hx hb dX7_slip_34 rfl (lv_at hl 2 rfl) ?_
    refine lv_iload_n hx hb dX7_slip_35 rfl (lv_at hl 3 rfl) ?_
    refine cr_S (wr := [(y_, .inr (7, [.ref (ca 0), .ref (ca 1), .ref (ca 2), .int (nI (mn6 ke)), .ref (ca 3), .int (nI ty_), .int (nI 0), .int (nI po), .int (bI fl_), .ref (ca 4), .int (nI tl), .ref (ca 5)])), (ca 0, .inl (G.2.2.1, 103, .inr (.inl (mV T)))), (ca 2, .inl (G.2.2.1, 618, .inr (.inl (f9_21))))]) (As := [.int (nI k_), .int v_]) (rest := [.long (T.r j_), .int (nI (7 + j_)), .ref (ca 0)]) ⟨hx, hb, hml, hown, hts⟩ (c_X7_slipped G l v_ k_ (by omega)) (va_cwS 2 hts gX7_slip_X7_slipped rfl rfl rfl (by decide +kernel) ⟨Nat.le_of_ble_eq_true rfl, Nat.le_of_ble_eq_true rfl⟩) dX7_slip_36 hK hNX hP hD hS hA hl [] [0, 1, 2] rfl rfl rfl rfl (by decide) rfl (Nat.le_of_ble_eq_true rfl) ⟨Nat.le_of_ble_eq_true rfl, Nat.le_of_ble_eq_true rfl⟩ rfl (fun v' w' Hq lcq hR' hP hD hS => ?_)
    obtain ⟨rfl, rfl⟩ := hR'
    have hP : va_P G.1 vwCl [(y_, .inr (7, [.ref (ca 0), .ref (ca 1), .ref (ca 2), .int (nI (mn6 ke)), .ref (ca 3), .int (nI ty_), .int (nI 0), .int (nI po), .int (bI fl_), .ref (ca 4), .int (nI tl), .ref (ca 5)])), (ca 0, .inl (G.2.2.1, 103, .inr (.inl (mV T)))), (ca 2, .inl (G.2.2.1, 618, .inr (.inl (f9_21))))] _ := hP.sub [0, 1, 2] rfl
    have hD : va_D A [(y_, .inr (7, [.ref (ca 0), .ref (ca 1), .ref (ca 2), .int (nI (mn6 ke)), .ref (ca 3), .int (nI ty_), .int (nI 0), .int (nI po), .int (bI fl_), .ref (ca 4), .int (nI tl), .ref (ca 5)])), (ca 0, .inl (G.2.2.1, 103, .inr (.inl (mV T)))), (ca 2, .inl (G.2.2.1, 618, .inr (.inl (f9_21))))] := hD.sub [0, 1, 2] (by decide +kernel) rfl
    refine lv_ladd hx hb dX7_slip_39 ?_
    refine ks_last (f' := mV (T.setR j_ ((T.r j_) + (slA v_ k_)))) hx hb hK hP hD hS 1 rfl (by omega) (by decide) (mV_setR (by omega)) dX7_slip_40 (fun Hq lcq hP hD hS => ?_)
    have hP : va_P G.1 vwCl [(y_, .inr (7, [.ref (ca 0), .ref (ca 1), .ref (ca 2), .int (nI (mn6 ke)), .ref (ca 3), .int (nI ty_), .int (nI 0), .int (nI po), .int (bI fl_), .ref (ca 4), .int (nI tl), .ref (ca 5)])), (ca 0, .inl (G.2.2.1, 103, .inr (.inl (mV (T.setR j_ ((T.r j_) + (slA v_ k_))))))), (ca 2, .inl (G.2.2.1, 618, .inr (.inl (f9_21))))] _ := hP
    have hD : va_D A [(y_, .inr (7, [.ref (ca 0), .ref (ca 1), .ref (ca 2), .int (nI (mn6 ke)), .ref (ca 3), .int (nI ty_), .int (nI 0), .int (nI po), .int (bI fl_), .ref (ca 4), .int (nI tl), .ref (ca 5)])), (ca 0, .inl (G.2.2.1, 103, .inr (.inl (mV (T.setR j_ ((T.r j_) + (slA v_ k_))))))), (ca 2, .inl (G.2.2.1, 618, .inr (.inl (f9_21))))] := hD
    refine lv_iload_n hx hb dX7_slip_41 rfl (lv_at hl 2 rfl) ?_
    refine lv_iload_n hx hb dX7_slip_42 rfl (lv_at hl 3 rfl) ?_
    refine cr_S (wr := [(y_, .inr (7, [.ref (ca 0), .ref (ca 1), .ref (ca 2), .int (nI (mn6 ke)), .ref (ca 3), .int (nI ty_), .int (nI 0), .int (nI po), .int (bI fl_), .ref (ca 4), .int (nI tl), .ref (ca 5)])), (ca 0, .inl (G.2.2.1, 103, .inr (.inl (mV (T.setR j_ ((T.r j_) + (slA v_ k_))))))), (ca 2, .inl (G.2.2.1, 618, .inr (.inl (f9_21))))]) (As := [.int (nI k_), .int v_]) (rest := []) ⟨hx, hb, hml, hown, hts⟩ (c_X7_slipped G l v_ k_ (by omega)) (va_cwS 2 hts gX7_slip_X7_slipped rfl rfl rfl (by decide +kernel) ⟨Nat.le_of_ble_eq_true rfl, Nat.le_of_ble_eq_true rfl⟩) dX7_slip_43 hK hNX hP hD hS hA hl [] [0, 1, 2] rfl rfl rfl rfl (by decide) rfl (Nat.le_of_ble_eq_true rfl) ⟨Nat.le_of_ble_eq_true rfl, Nat.le_of_ble_eq_true rfl⟩ rfl (fun v' w' Hq lcq hR' hP hD hS => ?_)
    obtain ⟨rfl, rfl⟩ := hR'
    have hP : va_P G.1 vwCl [(y_, .inr (7, [.ref (ca 0), .ref (ca 1), .ref (ca 2), .int (nI (mn6 ke)), .ref (ca 3), .int (nI ty_), .int (nI 0), .int (nI po), .int (bI fl_), .ref (ca 4), .int (nI tl), .ref (ca 5)])), (ca 0, .inl (G.2.2.1, 103, .inr (.inl (mV (T.setR j_ ((T.r j_) + (slA v_ k_))))))), (ca 2, .inl (G.2.2.1, 618, .inr (.inl (f9_21))))] _ := hP.sub [0, 1, 2] rfl
    have hD : va_D A [(y_, .inr (7, [.ref (ca 0), .ref (ca 1), .ref (ca 2), .int (nI (mn6 ke)), .ref (ca 3), .int (nI ty_), .int (nI 0), .int (nI po), .int (bI fl_), .ref (ca 4), .int (nI tl), .ref (ca 5)])), (ca 0, .inl (G.2.2.1, 103, .inr (.inl (mV (T.setR j_ ((T.r j_) + (slA v_ k_))))))), (ca 2, .inl (G.2.2.1, 618, .inr (.inl (f9_21))))] := hD.sub [0, 1, 2] (by decide +kernel) rfl
    exact cr_lret hx hb hr hlocks hK hP hD hS dX7_slip_46 (by rw [hRR]; exact ⟨f9_21, congrArg (fun z => some (Value.long z)) (rfl), rfl, jq_21⟩)
  · omega
set_option maxHeartbeats 4000000 in
set_option maxRecDepth 100000 in
theorem c_X7_slip__b1 (G : GG) (l : Launch) (y_ : Nat) (ca : Nat → Nat) (ke : Nat) (ty_ : Nat) (th : Nat) (po : Nat) (fl_ : Prop) (tl : Nat) (T : TS) (w_ : Int32) (u_ : Int32) (v_ : Int32) (h8 : ¬ (0 ≤ w_.toInt ∧ w_.toInt ≤ 5)) : Cr G l yX7_slip wsX7_slip ({ frames := 2, cells := 0, slots := 0, locals := 48 }) 0 0 [.ref y_, .int w_, .int u_, .int v_] [(y_, .inr (7, [.ref (ca 0), .ref (ca 1), .ref (ca 2), .int (nI ke), .ref (ca 3), .int (nI ty_), .int (nI th), .int (nI po), .int (bI fl_), .ref (ca 4), .int (nI tl), .ref (ca 5)])), (ca 0, .inl (G.2.2.1, 103, .inr (.inl (mV T))))] (ctR (some (.long (lN 0))) [(y_, .inr (7, [.ref (ca 0), .ref (ca 1), .ref (ca 2), .int (nI ke), .ref (ca 3), .int (nI ty_), .int (nI 1), .int (nI po), .int (bI fl_), .ref (ca 4), .int (nI tl), .ref (ca 5)])), (ca 0, .inl (G.2.2.1, 103, .inr (.inl (mV T))))]) := by
  refine cr_intro (cc := cX7_slip) (maxL := 4) (ret := (some .long)) (own := RX7) (by decide) rfl rfl (Nat.le_of_ble_eq_true rfl) ?_
  intro p e s m args below meth c A hx hb hr hml hts hown hlocks hnm hNX hP hK hD hA hS ls hl
  obtain ⟨RR, hRR⟩ : ∃ RR, RR = (ctR (some (.long (lN 0))) [(y_, .inr (7, [.ref (ca 0), .ref (ca 1), .ref (ca 2), .int (nI ke), .ref (ca 3), .int (nI ty_), .int (nI 1), .int (nI po), .int (bI fl_), .ref (ca 4), .int (nI tl), .ref (ca 5)])), (ca 0, .inl (G.2.2.1, 103, .inr (.inl (mV T))))]) := ⟨_, rfl⟩
  rw [← hRR]
  have hl : lv_has ls 4 [(0, .ref y_), (1, .int w_), (2, .int u_), (3, .int v_)] := hl
  have hin7 : ∀ w_ ∈ u_ws RX7 TX7 12, w_ ∈ wsX7_slip := fun w_ h => List.mem_cons_of_mem _ (List.mem_append_right _ h)
  refine lv_aload_n hx hb dX7_slip_0 rfl (lv_at hl 0 rfl) ?_
  refine lv_aload_n hx hb dX7_slip_1 rfl (lv_at hl 0 rfl) ?_
  refine lv_iload_n hx hb dX7_slip_2 rfl (lv_at hl 1 rfl) ?_
  refine lv_iload_n hx hb dX7_slip_3 rfl (lv_at hl 2 rfl) ?_
  refine lv_iload_n hx hb dX7_slip_4 rfl (lv_at hl 3 rfl) ?_
  refine cr_V (wr := []) (As := [.int w_, .int u_, .int v_]) (rest := [.ref y_]) ⟨hx, hb, hml, hown, hts⟩ (c_X7_maySlip__b1 G l y_ ca ke ty_ th po fl_ tl T w_ u_ v_ (h8)) (cwV 3 hts gX7_slip_X7_maySlip rfl rfl rfl (by decide +kernel) ⟨Nat.le_of_ble_eq_true rfl, Nat.le_of_ble_eq_true rfl⟩) dX7_slip_5 hK hNX hP hD hS hA hl 0 7 rfl rfl rfl [0, 1] [] rfl rfl rfl rfl (by decide) rfl (Nat.le_of_ble_eq_true rfl) ⟨Nat.le_of_ble_eq_true rfl, Nat.le_of_ble_eq_true rfl⟩ rfl (fun v' w' Hq lcq hR' hP hD hS => ?_)
  obtain ⟨rfl, rfl⟩ := hR'
  have hP : va_P G.1 vwCl [(y_, .inr (7, [.ref (ca 0), .ref (ca 1), .ref (ca 2), .int (nI ke), .ref (ca 3), .int (nI ty_), .int (nI th), .int (nI po), .int (bI fl_), .ref (ca 4), .int (nI tl), .ref (ca 5)])), (ca 0, .inl (G.2.2.1, 103, .inr (.inl (mV T))))] _ := hP.sub [0, 1] rfl
  have hD : va_D A [(y_, .inr (7, [.ref (ca 0), .ref (ca 1), .ref (ca 2), .int (nI ke), .ref (ca 3), .int (nI ty_), .int (nI th), .int (nI po), .int (bI fl_), .ref (ca 4), .int (nI tl), .ref (ca 5)])), (ca 0, .inl (G.2.2.1, 103, .inr (.inl (mV T))))] := hD.sub [0, 1] (by decide +kernel) rfl
  refine va_put (D := G.1) (ci := 7) (v := .int (nI 1)) (ty := .int) (C := RX7) (T := TX7) (N := 12) hx hb hts hin7 tyX7 tyX7_ok nmX7 hown hK hP hD hS 0 rfl rfl 6 (by decide) (hts (.fieldLink RX7 39 "PowerTablesModel" "thrown" "I") (List.mem_of_getElem? (i := 1) rfl)) (fun _ h9 => h9) rfl (tyX7_ok 6 (by decide)) rfl rfl (Nat.le_of_ble_eq_true rfl) dX7_slip_8 (fun Hq lcq hP hD hS => ?_)
  have hP : va_P G.1 vwCl [(y_, .inr (7, [.ref (ca 0), .ref (ca 1), .ref (ca 2), .int (nI ke), .ref (ca 3), .int (nI ty_), .int (nI 1), .int (nI po), .int (bI fl_), .ref (ca 4), .int (nI tl), .ref (ca 5)])), (ca 0, .inl (G.2.2.1, 103, .inr (.inl (mV T))))] _ := hP
  have hD : va_D A [(y_, .inr (7, [.ref (ca 0), .ref (ca 1), .ref (ca 2), .int (nI ke), .ref (ca 3), .int (nI ty_), .int (nI 1), .int (nI po), .int (bI fl_), .ref (ca 4), .int (nI tl), .ref (ca 5)])), (ca 0, .inl (G.2.2.1, 103, .inr (.inl (mV T))))] := hD
  refine lv_aload_n hx hb dX7_slip_11 rfl (lv_at hl 0 rfl) ?_
  refine va_get (D := G.1) (ci := 7) (v := .int (nI 1)) (C := RX7) (T := TX7) (N := 12) hx hb hts hin7 hown hK hP 0 rfl rfl 6 (by decide) (hts (.fieldLink RX7 39 "PowerTablesModel" "thrown" "I") (List.mem_of_getElem? (i := 1) rfl)) (fun _ h9 => h9) rfl dX7_slip_12 ?_
  refine ks_if_eq (tgt := 20) hx hb dX7_slip_15 (by decide) (by omega) (fun c_15 => ?_) (fun c_15 => ?_)
  · omega
  · refine lv_lconst (v := lN 0) hx hb dX7_slip_18 rfl ?_
    exact cr_lret hx hb hr hlocks hK hP hD hS dX7_slip_19 (by rw [hRR]; exact ctR_l (rfl) (rfl))
set_option maxHeartbeats 4000000 in
set_option maxRecDepth 100000 in
theorem c_X7_slip__b2 (G : GG) (l : Launch) (y_ : Nat) (ca : Nat → Nat) (ke : Nat) (ty_ : Nat) (th : Nat) (po : Nat) (fl_ : Prop) (tl : Nat) (T : TS) (w_ : Int32) (u_ : Int32) (v_ : Int32) (j1 : 0 ≤ w_.toInt ∧ w_.toInt ≤ 5) (h8 : ¬ ((0 ≤ u_.toInt ∧ u_.toInt ≤ 9) ∧ (-9 ≤ v_.toInt ∧ v_.toInt ≤ 9))) : Cr G l yX7_slip wsX7_slip ({ frames := 2, cells := 0, slots := 0, locals := 48 }) 0 0 [.ref y_, .int w_, .int u_, .int v_] [(y_, .inr (7, [.ref (ca 0), .ref (ca 1), .ref (ca 2), .int (nI ke), .ref (ca 3), .int (nI ty_), .int (nI th), .int (nI po), .int (bI fl_), .ref (ca 4), .int (nI tl), .ref (ca 5)])), (ca 0, .inl (G.2.2.1, 103, .inr (.inl (mV T))))] (ctR (some (.long (lN 0))) [(y_, .inr (7, [.ref (ca 0), .ref (ca 1), .ref (ca 2), .int (nI ke), .ref (ca 3), .int (nI ty_), .int (nI 2), .int (nI po), .int (bI fl_), .ref (ca 4), .int (nI tl), .ref (ca 5)])), (ca 0, .inl (G.2.2.1, 103, .inr (.inl (mV T))))]) := by
  refine cr_intro (cc := cX7_slip) (maxL := 4) (ret := (some .long)) (own := RX7) (by decide) rfl rfl (Nat.le_of_ble_eq_true rfl) ?_
  intro p e s m args below meth c A hx hb hr hml hts hown hlocks hnm hNX hP hK hD hA hS ls hl
  obtain ⟨RR, hRR⟩ : ∃ RR, RR = (ctR (some (.long (lN 0))) [(y_, .inr (7, [.ref (ca 0), .ref (ca 1), .ref (ca 2), .int (nI ke), .ref (ca 3), .int (nI ty_), .int (nI 2), .int (nI po), .int (bI fl_), .ref (ca 4), .int (nI tl), .ref (ca 5)])), (ca 0, .inl (G.2.2.1, 103, .inr (.inl (mV T))))]) := ⟨_, rfl⟩
  rw [← hRR]
  have hl : lv_has ls 4 [(0, .ref y_), (1, .int w_), (2, .int u_), (3, .int v_)] := hl
  have hin7 : ∀ w_ ∈ u_ws RX7 TX7 12, w_ ∈ wsX7_slip := fun w_ h => List.mem_cons_of_mem _ (List.mem_append_right _ h)
  refine lv_aload_n hx hb dX7_slip_0 rfl (lv_at hl 0 rfl) ?_
  refine lv_aload_n hx hb dX7_slip_1 rfl (lv_at hl 0 rfl) ?_
  refine lv_iload_n hx hb dX7_slip_2 rfl (lv_at hl 1 rfl) ?_
  refine lv_iload_n hx hb dX7_slip_3 rfl (lv_at hl 2 rfl) ?_
  refine lv_iload_n hx hb dX7_slip_4 rfl (lv_at hl 3 rfl) ?_
  refine cr_V (wr := []) (As := [.int w_, .int u_, .int v_]) (rest := [.ref y_]) ⟨hx, hb, hml, hown, hts⟩ (c_X7_maySlip__b2 G l y_ ca ke ty_ th po fl_ tl T w_ u_ v_ (j1) (h8)) (cwV 3 hts gX7_slip_X7_maySlip rfl rfl rfl (by decide +kernel) ⟨Nat.le_of_ble_eq_true rfl, Nat.le_of_ble_eq_true rfl⟩) dX7_slip_5 hK hNX hP hD hS hA hl 0 7 rfl rfl rfl [0, 1] [] rfl rfl rfl rfl (by decide) rfl (Nat.le_of_ble_eq_true rfl) ⟨Nat.le_of_ble_eq_true rfl, Nat.le_of_ble_eq_true rfl⟩ rfl (fun v' w' Hq lcq hR' hP hD hS => ?_)
  obtain ⟨rfl, rfl⟩ := hR'
  have hP : va_P G.1 vwCl [(y_, .inr (7, [.ref (ca 0), .ref (ca 1), .ref (ca 2), .int (nI ke), .ref (ca 3), .int (nI ty_), .int (nI th), .int (nI po), .int (bI fl_), .ref (ca 4), .int (nI tl), .ref (ca 5)])), (ca 0, .inl (G.2.2.1, 103, .inr (.inl (mV T))))] _ := hP.sub [0, 1] rfl
  have hD : va_D A [(y_, .inr (7, [.ref (ca 0), .ref (ca 1), .ref (ca 2), .int (nI ke), .ref (ca 3), .int (nI ty_), .int (nI th), .int (nI po), .int (bI fl_), .ref (ca 4), .int (nI tl), .ref (ca 5)])), (ca 0, .inl (G.2.2.1, 103, .inr (.inl (mV T))))] := hD.sub [0, 1] (by decide +kernel) rfl
  refine va_put (D := G.1) (ci := 7) (v := .int (nI 2)) (ty := .int) (C := RX7) (T := TX7) (N := 12) hx hb hts hin7 tyX7 tyX7_ok nmX7 hown hK hP hD hS 0 rfl rfl 6 (by decide) (hts (.fieldLink RX7 39 "PowerTablesModel" "thrown" "I") (List.mem_of_getElem? (i := 1) rfl)) (fun _ h9 => h9) rfl (tyX7_ok 6 (by decide)) rfl rfl (Nat.le_of_ble_eq_true rfl) dX7_slip_8 (fun Hq lcq hP hD hS => ?_)
  have hP : va_P G.1 vwCl [(y_, .inr (7, [.ref (ca 0), .ref (ca 1), .ref (ca 2), .int (nI ke), .ref (ca 3), .int (nI ty_), .int (nI 2), .int (nI po), .int (bI fl_), .ref (ca 4), .int (nI tl), .ref (ca 5)])), (ca 0, .inl (G.2.2.1, 103, .inr (.inl (mV T))))] _ := hP
  have hD : va_D A [(y_, .inr (7, [.ref (ca 0), .ref (ca 1), .ref (ca 2), .int (nI ke), .ref (ca 3), .int (nI ty_), .int (nI 2), .int (nI po), .int (bI fl_), .ref (ca 4), .int (nI tl), .ref (ca 5)])), (ca 0, .inl (G.2.2.1, 103, .inr (.inl (mV T))))] := hD
  refine lv_aload_n hx hb dX7_slip_11 rfl (lv_at hl 0 rfl) ?_
  refine va_get (D := G.1) (ci := 7) (v := .int (nI 2)) (C := RX7) (T := TX7) (N := 12) hx hb hts hin7 hown hK hP 0 rfl rfl 6 (by decide) (hts (.fieldLink RX7 39 "PowerTablesModel" "thrown" "I") (List.mem_of_getElem? (i := 1) rfl)) (fun _ h9 => h9) rfl dX7_slip_12 ?_
  refine ks_if_eq (tgt := 20) hx hb dX7_slip_15 (by decide) (by omega) (fun c_15 => ?_) (fun c_15 => ?_)
  · omega
  · refine lv_lconst (v := lN 0) hx hb dX7_slip_18 rfl ?_
    exact cr_lret hx hb hr hlocks hK hP hD hS dX7_slip_19 (by rw [hRR]; exact ctR_l (rfl) (rfl))
set_option maxHeartbeats 4000000 in
set_option maxRecDepth 100000 in
theorem c_X7_slip__b3 (G : GG) (l : Launch) (y_ : Nat) (ca : Nat → Nat) (ke : Nat) (ty_ : Nat) (th : Nat) (po : Nat) (fl_ : Prop) (tl : Nat) (T : TS) (j_ : Nat) (k_ : Nat) (v_ : Int32) (jj : j_ < 6) (jk : k_ < 10) (jy : -9 ≤ v_.toInt ∧ v_.toInt ≤ 9) (h8 : ¬ (-99999999999 ≤ T.r j_ + slA v_ k_ ∧ T.r j_ + slA v_ k_ ≤ lN 99999999999)) : Cr G l yX7_slip wsX7_slip ({ frames := 2, cells := 0, slots := 0, locals := 48 }) 0 0 [.ref y_, .int (nI j_), .int (nI k_), .int v_] [(y_, .inr (7, [.ref (ca 0), .ref (ca 1), .ref (ca 2), .int (nI ke), .ref (ca 3), .int (nI ty_), .int (nI th), .int (nI po), .int (bI fl_), .ref (ca 4), .int (nI tl), .ref (ca 5)])), (ca 0, .inl (G.2.2.1, 103, .inr (.inl (mV T))))] (ctR (some (.long (lN 0))) [(y_, .inr (7, [.ref (ca 0), .ref (ca 1), .ref (ca 2), .int (nI ke), .ref (ca 3), .int (nI ty_), .int (nI 3), .int (nI po), .int (bI fl_), .ref (ca 4), .int (nI tl), .ref (ca 5)])), (ca 0, .inl (G.2.2.1, 103, .inr (.inl (mV T))))]) := by
  refine cr_intro (cc := cX7_slip) (maxL := 4) (ret := (some .long)) (own := RX7) (by decide) rfl rfl (Nat.le_of_ble_eq_true rfl) ?_
  intro p e s m args below meth c A hx hb hr hml hts hown hlocks hnm hNX hP hK hD hA hS ls hl
  obtain ⟨RR, hRR⟩ : ∃ RR, RR = (ctR (some (.long (lN 0))) [(y_, .inr (7, [.ref (ca 0), .ref (ca 1), .ref (ca 2), .int (nI ke), .ref (ca 3), .int (nI ty_), .int (nI 3), .int (nI po), .int (bI fl_), .ref (ca 4), .int (nI tl), .ref (ca 5)])), (ca 0, .inl (G.2.2.1, 103, .inr (.inl (mV T))))]) := ⟨_, rfl⟩
  rw [← hRR]
  have hl : lv_has ls 4 [(0, .ref y_), (1, .int (nI j_)), (2, .int (nI k_)), (3, .int v_)] := hl
  have hin7 : ∀ w ∈ u_ws RX7 TX7 12, w ∈ wsX7_slip := fun w h => List.mem_cons_of_mem _ (List.mem_append_right _ h)
  refine lv_aload_n hx hb dX7_slip_0 rfl (lv_at hl 0 rfl) ?_
  refine lv_aload_n hx hb dX7_slip_1 rfl (lv_at hl 0 rfl) ?_
  refine lv_iload_n hx hb dX7_slip_2 rfl (lv_at hl 1 rfl) ?_
  refine lv_iload_n hx hb dX7_slip_3 rfl (lv_at hl 2 rfl) ?_
  refine lv_iload_n hx hb dX7_slip_4 rfl (lv_at hl 3 rfl) ?_
  refine cr_V (wr := []) (As := [.int (nI j_), .int (nI k_), .int v_]) (rest := [.ref y_]) ⟨hx, hb, hml, hown, hts⟩ (c_X7_maySlip G l y_ ca ke ty_ th po fl_ tl T j_ k_ v_ (by omega) (by omega) (jy)) (cwV 3 hts gX7_slip_X7_maySlip rfl rfl rfl (by decide +kernel) ⟨Nat.le_of_ble_eq_true rfl, Nat.le_of_ble_eq_true rfl⟩) dX7_slip_5 hK hNX hP hD hS hA hl 0 7 rfl rfl rfl [0, 1] [] rfl rfl rfl rfl (by decide) rfl (Nat.le_of_ble_eq_true rfl) ⟨Nat.le_of_ble_eq_true rfl, Nat.le_of_ble_eq_true rfl⟩ rfl (fun v' w' Hq lcq hR' hP hD hS => ?_)
  obtain ⟨rfl, rfl⟩ := hR'
  have hP : va_P G.1 vwCl [(y_, .inr (7, [.ref (ca 0), .ref (ca 1), .ref (ca 2), .int (nI ke), .ref (ca 3), .int (nI ty_), .int (nI th), .int (nI po), .int (bI fl_), .ref (ca 4), .int (nI tl), .ref (ca 5)])), (ca 0, .inl (G.2.2.1, 103, .inr (.inl (mV T))))] _ := hP.sub [0, 1] rfl
  have hD : va_D A [(y_, .inr (7, [.ref (ca 0), .ref (ca 1), .ref (ca 2), .int (nI ke), .ref (ca 3), .int (nI ty_), .int (nI th), .int (nI po), .int (bI fl_), .ref (ca 4), .int (nI tl), .ref (ca 5)])), (ca 0, .inl (G.2.2.1, 103, .inr (.inl (mV T))))] := hD.sub [0, 1] (by decide +kernel) rfl
  refine ks_vI (show nI (msA T j_ k_ v_) = nI 3 from congrArg nI (if_neg h8)) ?_
  refine va_put (D := G.1) (ci := 7) (v := .int (nI 3)) (ty := .int) (C := RX7) (T := TX7) (N := 12) hx hb hts hin7 tyX7 tyX7_ok nmX7 hown hK hP hD hS 0 rfl rfl 6 (by decide) (hts (.fieldLink RX7 39 "PowerTablesModel" "thrown" "I") (List.mem_of_getElem? (i := 1) rfl)) (fun _ h9 => h9) rfl (tyX7_ok 6 (by decide)) rfl rfl (Nat.le_of_ble_eq_true rfl) dX7_slip_8 (fun Hq lcq hP hD hS => ?_)
  have hP : va_P G.1 vwCl [(y_, .inr (7, [.ref (ca 0), .ref (ca 1), .ref (ca 2), .int (nI ke), .ref (ca 3), .int (nI ty_), .int (nI 3), .int (nI po), .int (bI fl_), .ref (ca 4), .int (nI tl), .ref (ca 5)])), (ca 0, .inl (G.2.2.1, 103, .inr (.inl (mV T))))] _ := hP
  have hD : va_D A [(y_, .inr (7, [.ref (ca 0), .ref (ca 1), .ref (ca 2), .int (nI ke), .ref (ca 3), .int (nI ty_), .int (nI 3), .int (nI po), .int (bI fl_), .ref (ca 4), .int (nI tl), .ref (ca 5)])), (ca 0, .inl (G.2.2.1, 103, .inr (.inl (mV T))))] := hD
  refine lv_aload_n hx hb dX7_slip_11 rfl (lv_at hl 0 rfl) ?_
  refine va_get (D := G.1) (ci := 7) (v := .int (nI 3)) (C := RX7) (T := TX7) (N := 12) hx hb hts hin7 hown hK hP 0 rfl rfl 6 (by decide) (hts (.fieldLink RX7 39 "PowerTablesModel" "thrown" "I") (List.mem_of_getElem? (i := 1) rfl)) (fun _ h9 => h9) rfl dX7_slip_12 ?_
  refine ks_if_eq (tgt := 20) hx hb dX7_slip_15 (by decide) (by omega) (fun c_15 => ?_) (fun c_15 => ?_)
  · omega
  · refine lv_lconst (v := lN 0) hx hb dX7_slip_18 rfl ?_
    exact cr_lret hx hb hr hlocks hK hP hD hS dX7_slip_19 (by rw [hRR]; exact ctR_l (rfl) (rfl))
set_option maxHeartbeats 4000000 in
set_option maxRecDepth 100000 in
theorem c_X7_correct (G : GG) (l : Launch) (y_ : Nat) (ca : Nat → Nat) (ke : Nat) (ty_ : Nat) (th : Nat) (po : Nat) (fl_ : Prop) (tl : Nat) (T : TS) (f_ : Nat → Int64) (Ss : Nat → TS) (jk6 : ke ≤ 6) (jpf : PF f_ ke Ss) (jn4 : T.s 4 ≤ 40) (jf_ : T.s 3 ≤ 99) (jp : T.s 2 ≤ 5) : Cr G l yX7_correct wsX7_correct ({ frames := 4, cells := 0, slots := 0, locals := 97 }) 0 0 [.ref y_] [(y_, .inr (7, [.ref (ca 0), .ref (ca 1), .ref (ca 2), .int (nI ke), .ref (ca 3), .int (nI ty_), .int (nI th), .int (nI po), .int (bI fl_), .ref (ca 4), .int (nI tl), .ref (ca 5)])), (ca 0, .inl (G.2.2.1, 103, .inr (.inl (mV T)))), (ca 2, .inl (G.2.2.1, 618, .inr (.inl (f_))))] (fun (vv1 : Option Value) (ww1 : va_W) => ∃ (f9_ : Nat → Int64), vv1 = (some (.int (nI (ctN (fun k => T.r k ≠ rgt (T.s 2) (T.s 3 + T.s 4) k) 6)))) ∧ ww1 = [(y_, .inr (7, [.ref (ca 0), .ref (ca 1), .ref (ca 2), .int (nI (mn6 ke)), .ref (ca 3), .int (nI ty_), .int (nI 0), .int (nI po), .int (bI fl_), .ref (ca 4), .int (nI tl), .ref (ca 5)])), (ca 0, .inl (G.2.2.1, 103, .inr (.inl (mV (T.withR (rgt (T.s 2) (T.s 3 + T.s 4))))))), (ca 2, .inl (G.2.2.1, 618, .inr (.inl (f9_))))] ∧ (PF f9_ (mn6 ke) (svS Ss ke T))) := by
  refine cr_intro (cc := cX7_correct) (maxL := 1) (ret := (some .int)) (own := RX7) (by decide) rfl rfl (Nat.le_of_ble_eq_true rfl) ?_
  intro p e s m args below meth c A hx hb hr hml hts hown hlocks hnm hNX hP hK hD hA hS ls hl
  obtain ⟨RR, hRR⟩ : ∃ RR, RR = (fun (vv1 : Option Value) (ww1 : va_W) => ∃ (f9_ : Nat → Int64), vv1 = (some (.int (nI (ctN (fun k => T.r k ≠ rgt (T.s 2) (T.s 3 + T.s 4) k) 6)))) ∧ ww1 = [(y_, .inr (7, [.ref (ca 0), .ref (ca 1), .ref (ca 2), .int (nI (mn6 ke)), .ref (ca 3), .int (nI ty_), .int (nI 0), .int (nI po), .int (bI fl_), .ref (ca 4), .int (nI tl), .ref (ca 5)])), (ca 0, .inl (G.2.2.1, 103, .inr (.inl (mV (T.withR (rgt (T.s 2) (T.s 3 + T.s 4))))))), (ca 2, .inl (G.2.2.1, 618, .inr (.inl (f9_))))] ∧ (PF f9_ (mn6 ke) (svS Ss ke T))) := ⟨_, rfl⟩
  rw [← hRR]
  have hl : lv_has ls 1 [(0, .ref y_)] := hl
  have hin7 : ∀ w ∈ u_ws RX7 TX7 12, w ∈ wsX7_correct := fun w h => List.mem_cons_of_mem _ (List.mem_append_right _ h)
  refine lv_aload_n hx hb dX7_correct_0 rfl (lv_at hl 0 rfl) ?_
  refine lv_iconst (v := nI 0) hx hb dX7_correct_1 (by decide) ?_
  refine va_put (D := G.1) (ci := 7) (v := .int (nI 0)) (ty := .int) (C := RX7) (T := TX7) (N := 12) hx hb hts hin7 tyX7 tyX7_ok nmX7 hown hK hP hD hS 0 rfl rfl 6 (by decide) (hts (.fieldLink RX7 39 "PowerTablesModel" "thrown" "I") (List.mem_of_getElem? (i := 1) rfl)) (fun _ h9 => h9) rfl (tyX7_ok 6 (by decide)) rfl rfl (Nat.le_of_ble_eq_true rfl) dX7_correct_2 (fun Hq lcq hP hD hS => ?_)
  have hP : va_P G.1 vwCl [(y_, .inr (7, [.ref (ca 0), .ref (ca 1), .ref (ca 2), .int (nI ke), .ref (ca 3), .int (nI ty_), .int (nI 0), .int (nI po), .int (bI fl_), .ref (ca 4), .int (nI tl), .ref (ca 5)])), (ca 0, .inl (G.2.2.1, 103, .inr (.inl (mV T)))), (ca 2, .inl (G.2.2.1, 618, .inr (.inl (f_))))] _ := hP
  have hD : va_D A [(y_, .inr (7, [.ref (ca 0), .ref (ca 1), .ref (ca 2), .int (nI ke), .ref (ca 3), .int (nI ty_), .int (nI 0), .int (nI po), .int (bI fl_), .ref (ca 4), .int (nI tl), .ref (ca 5)])), (ca 0, .inl (G.2.2.1, 103, .inr (.inl (mV T)))), (ca 2, .inl (G.2.2.1, 618, .inr (.inl (f_))))] := hD
  refine lv_aload_n hx hb dX7_correct_5 rfl (lv_at hl 0 rfl) ?_
  refine cr_V (wr := []) (As := []) (rest := []) ⟨hx, hb, hml, hown, hts⟩ (c_X7_saves G l y_ ca ke ty_ 0 po fl_ tl T f_ Ss (by omega) (jpf)) (cwV 0 hts gX7_correct_X7_saves rfl rfl rfl (by decide +kernel) ⟨Nat.le_of_ble_eq_true rfl, Nat.le_of_ble_eq_true rfl⟩) dX7_correct_6 hK hNX hP hD hS hA hl 0 7 rfl rfl rfl [0, 1, 2] [] rfl rfl rfl rfl (by decide) rfl (Nat.le_of_ble_eq_true rfl) ⟨Nat.le_of_ble_eq_true rfl, Nat.le_of_ble_eq_true rfl⟩ rfl (fun v' w' Hq lcq hR' hP hD hS => ?_)
  obtain ⟨f9_6, rfl, rfl, jq_6⟩ := hR'
  have hP : va_P G.1 vwCl [(y_, .inr (7, [.ref (ca 0), .ref (ca 1), .ref (ca 2), .int (nI (mn6 ke)), .ref (ca 3), .int (nI ty_), .int (nI 0), .int (nI po), .int (bI fl_), .ref (ca 4), .int (nI tl), .ref (ca 5)])), (ca 0, .inl (G.2.2.1, 103, .inr (.inl (mV T)))), (ca 2, .inl (G.2.2.1, 618, .inr (.inl (f9_6))))] _ := hP.sub [0, 1, 2] rfl
  have hD : va_D A [(y_, .inr (7, [.ref (ca 0), .ref (ca 1), .ref (ca 2), .int (nI (mn6 ke)), .ref (ca 3), .int (nI ty_), .int (nI 0), .int (nI po), .int (bI fl_), .ref (ca 4), .int (nI tl), .ref (ca 5)])), (ca 0, .inl (G.2.2.1, 103, .inr (.inl (mV T)))), (ca 2, .inl (G.2.2.1, 618, .inr (.inl (f9_6))))] := hD.sub [0, 1, 2] (by decide +kernel) rfl
  refine lv_aload_n hx hb dX7_correct_9 rfl (lv_at hl 0 rfl) ?_
  refine va_get (D := G.1) (ci := 7) (v := .ref (ca 0)) (C := RX7) (T := TX7) (N := 12) hx hb hts hin7 hown hK hP 0 rfl rfl 0 (by decide) (hts (.fieldLink RX7 7 "PowerTablesModel" "now" "[J") (List.mem_of_getElem? (i := 2) rfl)) (fun _ h9 => h9) rfl dX7_correct_10 ?_
  refine cr_S (wr := [(y_, .inr (7, [.ref (ca 0), .ref (ca 1), .ref (ca 2), .int (nI (mn6 ke)), .ref (ca 3), .int (nI ty_), .int (nI 0), .int (nI po), .int (bI fl_), .ref (ca 4), .int (nI tl), .ref (ca 5)])), (ca 2, .inl (G.2.2.1, 618, .inr (.inl (f9_6))))]) (As := [.ref (ca 0)]) (rest := []) ⟨hx, hb, hml, hown, hts⟩ (c_X7_corrects G l (ca 0) T (by omega) (by omega) (by omega)) (va_cwS 1 hts gX7_correct_X7_corrects rfl rfl rfl (by decide +kernel) ⟨Nat.le_of_ble_eq_true rfl, Nat.le_of_ble_eq_true rfl⟩) dX7_correct_13 hK hNX hP hD hS hA hl [1] [0, 2] rfl rfl rfl rfl (by decide) rfl (Nat.le_of_ble_eq_true rfl) ⟨Nat.le_of_ble_eq_true rfl, Nat.le_of_ble_eq_true rfl⟩ rfl (fun v' w' Hq lcq hR' hP hD hS => ?_)
  obtain ⟨rfl, rfl⟩ := hR'
  have hP : va_P G.1 vwCl [(y_, .inr (7, [.ref (ca 0), .ref (ca 1), .ref (ca 2), .int (nI (mn6 ke)), .ref (ca 3), .int (nI ty_), .int (nI 0), .int (nI po), .int (bI fl_), .ref (ca 4), .int (nI tl), .ref (ca 5)])), (ca 0, .inl (G.2.2.1, 103, .inr (.inl (mV (T.withR (rgt (T.s 2) (T.s 3 + T.s 4))))))), (ca 2, .inl (G.2.2.1, 618, .inr (.inl (f9_6))))] _ := hP.sub [0, 2, 1] rfl
  have hD : va_D A [(y_, .inr (7, [.ref (ca 0), .ref (ca 1), .ref (ca 2), .int (nI (mn6 ke)), .ref (ca 3), .int (nI ty_), .int (nI 0), .int (nI po), .int (bI fl_), .ref (ca 4), .int (nI tl), .ref (ca 5)])), (ca 0, .inl (G.2.2.1, 103, .inr (.inl (mV (T.withR (rgt (T.s 2) (T.s 3 + T.s 4))))))), (ca 2, .inl (G.2.2.1, 618, .inr (.inl (f9_6))))] := hD.sub [0, 2, 1] (by decide +kernel) rfl
  exact cr_iret hx hb hr hlocks hK hP hD hS dX7_correct_16 (by rw [hRR]; exact ⟨f9_6, congrArg (fun z => some (Value.int z)) (rfl), rfl, jq_6⟩)
set_option maxHeartbeats 4000000 in
set_option maxRecDepth 100000 in
theorem c_X7_strike (G : GG) (l : Launch) (y_ : Nat) (ca : Nat → Nat) (ke : Nat) (ty_ : Nat) (th : Nat) (po : Nat) (fl_ : Prop) (tl : Nat) (T : TS) (f_ : Nat → Int64) (Ss : Nat → TS) (i_ : Nat) (jk6 : ke ≤ 6) (jpf : PF f_ ke Ss) (jn4 : T.s 4 ≤ 40) (jf_ : T.s 3 ≤ 99) (jp : T.s 2 ≤ 5) (ji : i_ < T.s 4) (jx : ab (rvT T i_) < 2 ^ 63) (jw : ∀ d, d < 10 → T.w d < 2 ^ 30) (jl : T.s 1 < 2 ^ 30) (jd : T.s 5 < 2 ^ 30) : Cr G l yX7_strike wsX7_strike ({ frames := 2, cells := 0, slots := 0, locals := 46 }) 0 0 [.ref y_, .int (nI i_)] [(y_, .inr (7, [.ref (ca 0), .ref (ca 1), .ref (ca 2), .int (nI ke), .ref (ca 3), .int (nI ty_), .int (nI th), .int (nI po), .int (bI fl_), .ref (ca 4), .int (nI tl), .ref (ca 5)])), (ca 0, .inl (G.2.2.1, 103, .inr (.inl (mV T)))), (ca 2, .inl (G.2.2.1, 618, .inr (.inl (f_))))] (fun (vv1 : Option Value) (ww1 : va_W) => ∃ (f9_ : Nat → Int64), vv1 = (some (.int (nI (prB (ab (rvT T i_)) T.w (T.s 1))))) ∧ ww1 = [(y_, .inr (7, [.ref (ca 0), .ref (ca 1), .ref (ca 2), .int (nI (mn6 ke)), .ref (ca 3), .int (nI ty_), .int (nI 0), .int (nI po), .int (bI fl_), .ref (ca 4), .int (nI tl), .ref (ca 5)])), (ca 0, .inl (G.2.2.1, 103, .inr (.inl (mV (skT T (rvT T) i_))))), (ca 2, .inl (G.2.2.1, 618, .inr (.inl (f9_))))] ∧ (PF f9_ (mn6 ke) (svS Ss ke T))) := by
  refine cr_intro (cc := cX7_strike) (maxL := 2) (ret := (some .int)) (own := RX7) (by decide) rfl rfl (Nat.le_of_ble_eq_true rfl) ?_
  intro p e s m args below meth c A hx hb hr hml hts hown hlocks hnm hNX hP hK hD hA hS ls hl
  obtain ⟨RR, hRR⟩ : ∃ RR, RR = (fun (vv1 : Option Value) (ww1 : va_W) => ∃ (f9_ : Nat → Int64), vv1 = (some (.int (nI (prB (ab (rvT T i_)) T.w (T.s 1))))) ∧ ww1 = [(y_, .inr (7, [.ref (ca 0), .ref (ca 1), .ref (ca 2), .int (nI (mn6 ke)), .ref (ca 3), .int (nI ty_), .int (nI 0), .int (nI po), .int (bI fl_), .ref (ca 4), .int (nI tl), .ref (ca 5)])), (ca 0, .inl (G.2.2.1, 103, .inr (.inl (mV (skT T (rvT T) i_))))), (ca 2, .inl (G.2.2.1, 618, .inr (.inl (f9_))))] ∧ (PF f9_ (mn6 ke) (svS Ss ke T))) := ⟨_, rfl⟩
  rw [← hRR]
  have hl : lv_has ls 2 [(0, .ref y_), (1, .int (nI i_))] := hl
  have hin7 : ∀ w ∈ u_ws RX7 TX7 12, w ∈ wsX7_strike := fun w h => List.mem_cons_of_mem _ (List.mem_append_right _ h)
  refine lv_aload_n hx hb dX7_strike_0 rfl (lv_at hl 0 rfl) ?_
  refine lv_iconst (v := nI 0) hx hb dX7_strike_1 (by decide) ?_
  refine va_put (D := G.1) (ci := 7) (v := .int (nI 0)) (ty := .int) (C := RX7) (T := TX7) (N := 12) hx hb hts hin7 tyX7 tyX7_ok nmX7 hown hK hP hD hS 0 rfl rfl 6 (by decide) (hts (.fieldLink RX7 39 "PowerTablesModel" "thrown" "I") (List.mem_of_getElem? (i := 1) rfl)) (fun _ h9 => h9) rfl (tyX7_ok 6 (by decide)) rfl rfl (Nat.le_of_ble_eq_true rfl) dX7_strike_2 (fun Hq lcq hP hD hS => ?_)
  have hP : va_P G.1 vwCl [(y_, .inr (7, [.ref (ca 0), .ref (ca 1), .ref (ca 2), .int (nI ke), .ref (ca 3), .int (nI ty_), .int (nI 0), .int (nI po), .int (bI fl_), .ref (ca 4), .int (nI tl), .ref (ca 5)])), (ca 0, .inl (G.2.2.1, 103, .inr (.inl (mV T)))), (ca 2, .inl (G.2.2.1, 618, .inr (.inl (f_))))] _ := hP
  have hD : va_D A [(y_, .inr (7, [.ref (ca 0), .ref (ca 1), .ref (ca 2), .int (nI ke), .ref (ca 3), .int (nI ty_), .int (nI 0), .int (nI po), .int (bI fl_), .ref (ca 4), .int (nI tl), .ref (ca 5)])), (ca 0, .inl (G.2.2.1, 103, .inr (.inl (mV T)))), (ca 2, .inl (G.2.2.1, 618, .inr (.inl (f_))))] := hD
  refine lv_aload_n hx hb dX7_strike_5 rfl (lv_at hl 0 rfl) ?_
  refine lv_iload_n hx hb dX7_strike_6 rfl (lv_at hl 1 rfl) ?_
  refine cr_V (wr := [(ca 2, .inl (G.2.2.1, 618, .inr (.inl (f_))))]) (As := [.int (nI i_)]) (rest := []) ⟨hx, hb, hml, hown, hts⟩ (c_X7_isRow__n G l y_ ca ke ty_ 0 po fl_ tl T i_ (by omega) (by omega)) (cwV 1 hts gX7_strike_X7_isRow rfl rfl rfl (by decide +kernel) ⟨Nat.le_of_ble_eq_true rfl, Nat.le_of_ble_eq_true rfl⟩) dX7_strike_7 hK hNX hP hD hS hA hl 0 7 rfl rfl rfl [0, 1] [2] rfl rfl rfl rfl (by decide) rfl (Nat.le_of_ble_eq_true rfl) ⟨Nat.le_of_ble_eq_true rfl, Nat.le_of_ble_eq_true rfl⟩ rfl (fun v' w' Hq lcq hR' hP hD hS => ?_)
  obtain ⟨rfl, rfl⟩ := hR'
  have hP : va_P G.1 vwCl [(y_, .inr (7, [.ref (ca 0), .ref (ca 1), .ref (ca 2), .int (nI ke), .ref (ca 3), .int (nI ty_), .int (nI 0), .int (nI po), .int (bI fl_), .ref (ca 4), .int (nI tl), .ref (ca 5)])), (ca 0, .inl (G.2.2.1, 103, .inr (.inl (mV T)))), (ca 2, .inl (G.2.2.1, 618, .inr (.inl (f_))))] _ := hP.sub [1, 2, 0] rfl
  have hD : va_D A [(y_, .inr (7, [.ref (ca 0), .ref (ca 1), .ref (ca 2), .int (nI ke), .ref (ca 3), .int (nI ty_), .int (nI 0), .int (nI po), .int (bI fl_), .ref (ca 4), .int (nI tl), .ref (ca 5)])), (ca 0, .inl (G.2.2.1, 103, .inr (.inl (mV T)))), (ca 2, .inl (G.2.2.1, 618, .inr (.inl (f_))))] := hD.sub [1, 2, 0] (by decide +kernel) rfl
  refine ks_ifb_ne (tgt := 19) hx hb dX7_strike_10 (by decide) (fun c_10 => ?_) (fun c_10 => ?_)
  · refine lv_aload_n hx hb dX7_strike_19 rfl (lv_at hl 0 rfl) ?_
    refine cr_V (wr := []) (As := []) (rest := []) ⟨hx, hb, hml, hown, hts⟩ (c_X7_saves G l y_ ca ke ty_ 0 po fl_ tl T f_ Ss (by omega) (jpf)) (cwV 0 hts gX7_strike_X7_saves rfl rfl rfl (by decide +kernel) ⟨Nat.le_of_ble_eq_true rfl, Nat.le_of_ble_eq_true rfl⟩) dX7_strike_20 hK hNX hP hD hS hA hl 0 7 rfl rfl rfl [0, 1, 2] [] rfl rfl rfl rfl (by decide) rfl (Nat.le_of_ble_eq_true rfl) ⟨Nat.le_of_ble_eq_true rfl, Nat.le_of_ble_eq_true rfl⟩ rfl (fun v' w' Hq lcq hR' hP hD hS => ?_)
    obtain ⟨f9_20, rfl, rfl, jq_20⟩ := hR'
    have hP : va_P G.1 vwCl [(y_, .inr (7, [.ref (ca 0), .ref (ca 1), .ref (ca 2), .int (nI (mn6 ke)), .ref (ca 3), .int (nI ty_), .int (nI 0), .int (nI po), .int (bI fl_), .ref (ca 4), .int (nI tl), .ref (ca 5)])), (ca 0, .inl (G.2.2.1, 103, .inr (.inl (mV T)))), (ca 2, .inl (G.2.2.1, 618, .inr (.inl (f9_20))))] _ := hP.sub [0, 1, 2] rfl
    have hD : va_D A [(y_, .inr (7, [.ref (ca 0), .ref (ca 1), .ref (ca 2), .int (nI (mn6 ke)), .ref (ca 3), .int (nI ty_), .int (nI 0), .int (nI po), .int (bI fl_), .ref (ca 4), .int (nI tl), .ref (ca 5)])), (ca 0, .inl (G.2.2.1, 103, .inr (.inl (mV T)))), (ca 2, .inl (G.2.2.1, 618, .inr (.inl (f9_20))))] := hD.sub [0, 1, 2] (by decide +kernel) rfl
    refine lv_aload_n hx hb dX7_strike_23 rfl (lv_at hl 0 rfl) ?_
    refine va_get (D := G.1) (ci := 7) (v := .ref (ca 0)) (C := RX7) (T := TX7) (N := 12) hx hb hts hin7 hown hK hP 0 rfl rfl 0 (by decide) (hts (.fieldLink RX7 7 "PowerTablesModel" "now" "[J") (List.mem_of_getElem? (i := 2) rfl)) (fun _ h9 => h9) rfl dX7_strike_24 ?_
    refine lv_bipush (v := nI 23) hx hb dX7_strike_27 (by decide) ?_
    refine lv_iload_n hx hb dX7_strike_29 rfl (lv_at hl 1 rfl) ?_
    refine ks_iaddN hx hb dX7_strike_30 ?_
    refine lv_aload_n hx hb dX7_strike_31 rfl (lv_at hl 0 rfl) ?_
    refine va_get (D := G.1) (ci := 7) (v := .ref (ca 0)) (C := RX7) (T := TX7) (N := 12) hx hb hts hin7 hown hK hP 0 rfl rfl 0 (by decide) (hts (.fieldLink RX7 7 "PowerTablesModel" "now" "[J") (List.mem_of_getElem? (i := 2) rfl)) (fun _ h9 => h9) rfl dX7_strike_32 ?_
    refine lv_iload_n hx hb dX7_strike_35 rfl (lv_at hl 1 rfl) ?_
    refine cr_S (wr := [(y_, .inr (7, [.ref (ca 0), .ref (ca 1), .ref (ca 2), .int (nI (mn6 ke)), .ref (ca 3), .int (nI ty_), .int (nI 0), .int (nI po), .int (bI fl_), .ref (ca 4), .int (nI tl), .ref (ca 5)])), (ca 2, .inl (G.2.2.1, 618, .inr (.inl (f9_20))))]) (As := [.ref (ca 0), .int (nI i_)]) (rest := [.int (nI (23 + i_)), .ref (ca 0)]) ⟨hx, hb, hml, hown, hts⟩ (c_X7_right G l (ca 0) T i_ (by omega) (by omega) (by omega)) (va_cwS 2 hts gX7_strike_X7_right rfl rfl rfl (by decide +kernel) ⟨Nat.le_of_ble_eq_true rfl, Nat.le_of_ble_eq_true rfl⟩) dX7_strike_36 hK hNX hP hD hS hA hl [1] [0, 2] rfl rfl rfl rfl (by decide) rfl (Nat.le_of_ble_eq_true rfl) ⟨Nat.le_of_ble_eq_true rfl, Nat.le_of_ble_eq_true rfl⟩ rfl (fun v' w' Hq lcq hR' hP hD hS => ?_)
    obtain ⟨rfl, rfl⟩ := hR'
    have hP : va_P G.1 vwCl [(y_, .inr (7, [.ref (ca 0), .ref (ca 1), .ref (ca 2), .int (nI (mn6 ke)), .ref (ca 3), .int (nI ty_), .int (nI 0), .int (nI po), .int (bI fl_), .ref (ca 4), .int (nI tl), .ref (ca 5)])), (ca 0, .inl (G.2.2.1, 103, .inr (.inl (mV T)))), (ca 2, .inl (G.2.2.1, 618, .inr (.inl (f9_20))))] _ := hP.sub [0, 2, 1] rfl
    have hD : va_D A [(y_, .inr (7, [.ref (ca 0), .ref (ca 1), .ref (ca 2), .int (nI (mn6 ke)), .ref (ca 3), .int (nI ty_), .int (nI 0), .int (nI po), .int (bI fl_), .ref (ca 4), .int (nI tl), .ref (ca 5)])), (ca 0, .inl (G.2.2.1, 103, .inr (.inl (mV T)))), (ca 2, .inl (G.2.2.1, 618, .inr (.inl (f9_20))))] := hD.sub [0, 2, 1] (by decide +kernel) rfl
    refine ks_last (f' := mV (T.setP i_ (rvT T i_))) hx hb hK hP hD hS 1 rfl (by omega) (by decide) (mV_setP (by omega)) dX7_strike_39 (fun Hq lcq hP hD hS => ?_)
    have hP : va_P G.1 vwCl [(y_, .inr (7, [.ref (ca 0), .ref (ca 1), .ref (ca 2), .int (nI (mn6 ke)), .ref (ca 3), .int (nI ty_), .int (nI 0), .int (nI po), .int (bI fl_), .ref (ca 4), .int (nI tl), .ref (ca 5)])), (ca 0, .inl (G.2.2.1, 103, .inr (.inl (mV (T.setP i_ (rvT T i_)))))), (ca 2, .inl (G.2.2.1, 618, .inr (.inl (f9_20))))] _ := hP
    have hD : va_D A [(y_, .inr (7, [.ref (ca 0), .ref (ca 1), .ref (ca 2), .int (nI (mn6 ke)), .ref (ca 3), .int (nI ty_), .int (nI 0), .int (nI po), .int (bI fl_), .ref (ca 4), .int (nI tl), .ref (ca 5)])), (ca 0, .inl (G.2.2.1, 103, .inr (.inl (mV (T.setP i_ (rvT T i_)))))), (ca 2, .inl (G.2.2.1, 618, .inr (.inl (f9_20))))] := hD
    refine lv_aload_n hx hb dX7_strike_40 rfl (lv_at hl 0 rfl) ?_
    refine va_get (D := G.1) (ci := 7) (v := .ref (ca 0)) (C := RX7) (T := TX7) (N := 12) hx hb hts hin7 hown hK hP 0 rfl rfl 0 (by decide) (hts (.fieldLink RX7 7 "PowerTablesModel" "now" "[J") (List.mem_of_getElem? (i := 2) rfl)) (fun _ h9 => h9) rfl dX7_strike_41 ?_
    refine lv_bipush (v := nI 63) hx hb dX7_strike_44 (by decide) ?_
    refine lv_iload_n hx hb dX7_strike_46 rfl (lv_at hl 1 rfl) ?_
    refine ks_iaddN hx hb dX7_strike_47 ?_
    refine lv_aload_n hx hb dX7_strike_48 rfl (lv_at hl 0 rfl) ?_
    refine va_get (D := G.1) (ci := 7) (v := .ref (ca 0)) (C := RX7) (T := TX7) (N := 12) hx hb hts hin7 hown hK hP 0 rfl rfl 0 (by decide) (hts (.fieldLink RX7 7 "PowerTablesModel" "now" "[J") (List.mem_of_getElem? (i := 2) rfl)) (fun _ h9 => h9) rfl dX7_strike_49 ?_
    refine lv_aload_n hx hb dX7_strike_52 rfl (lv_at hl 0 rfl) ?_
    refine va_get (D := G.1) (ci := 7) (v := .ref (ca 0)) (C := RX7) (T := TX7) (N := 12) hx hb hts hin7 hown hK hP 0 rfl rfl 0 (by decide) (hts (.fieldLink RX7 7 "PowerTablesModel" "now" "[J") (List.mem_of_getElem? (i := 2) rfl)) (fun _ h9 => h9) rfl dX7_strike_53 ?_
    refine lv_bipush (v := nI 23) hx hb dX7_strike_56 (by decide) ?_
    refine lv_iload_n hx hb dX7_strike_58 rfl (lv_at hl 1 rfl) ?_
    refine ks_iaddN hx hb dX7_strike_59 ?_
    refine ks_lald hx hb hK hP 1 rfl (by omega) (by decide) dX7_strike_60 ?_
    refine ks_vL (show mV (T.setP i_ (rvT T i_)) (23 + i_) = (T.setP i_ (rvT T i_)).p i_ from mV_p (j := i_) (by omega)) ?_
    refine ks_vL (show (T.setP i_ (rvT T i_)).p i_ = rvT T i_ from updL_s) ?_
    refine cr_S (wr := [(y_, .inr (7, [.ref (ca 0), .ref (ca 1), .ref (ca 2), .int (nI (mn6 ke)), .ref (ca 3), .int (nI ty_), .int (nI 0), .int (nI po), .int (bI fl_), .ref (ca 4), .int (nI tl), .ref (ca 5)])), (ca 2, .inl (G.2.2.1, 618, .inr (.inl (f9_20))))]) (As := [.ref (ca 0), .long (rvT T i_)]) (rest := [.int (nI (63 + i_)), .ref (ca 0)]) ⟨hx, hb, hml, hown, hts⟩ (c_X7_strikes G l (ca 0) (T.setP i_ (rvT T i_)) (rvT T i_) (by omega) (jw) (jl) (jd)) (va_cwS 2 hts gX7_strike_X7_strikes rfl rfl rfl (by decide +kernel) ⟨Nat.le_of_ble_eq_true rfl, Nat.le_of_ble_eq_true rfl⟩) dX7_strike_61 hK hNX hP hD hS hA hl [1] [0, 2] rfl rfl rfl rfl (by decide) rfl (Nat.le_of_ble_eq_true rfl) ⟨Nat.le_of_ble_eq_true rfl, Nat.le_of_ble_eq_true rfl⟩ rfl (fun v' w' Hq lcq hR' hP hD hS => ?_)
    obtain ⟨rfl, rfl⟩ := hR'
    have hP : va_P G.1 vwCl [(y_, .inr (7, [.ref (ca 0), .ref (ca 1), .ref (ca 2), .int (nI (mn6 ke)), .ref (ca 3), .int (nI ty_), .int (nI 0), .int (nI po), .int (bI fl_), .ref (ca 4), .int (nI tl), .ref (ca 5)])), (ca 0, .inl (G.2.2.1, 103, .inr (.inl (mV (sk7 (T.setP i_ (rvT T i_)) (ab (rvT T i_))))))), (ca 2, .inl (G.2.2.1, 618, .inr (.inl (f9_20))))] _ := hP.sub [0, 2, 1] rfl
    have hD : va_D A [(y_, .inr (7, [.ref (ca 0), .ref (ca 1), .ref (ca 2), .int (nI (mn6 ke)), .ref (ca 3), .int (nI ty_), .int (nI 0), .int (nI po), .int (bI fl_), .ref (ca 4), .int (nI tl), .ref (ca 5)])), (ca 0, .inl (G.2.2.1, 103, .inr (.inl (mV (sk7 (T.setP i_ (rvT T i_)) (ab (rvT T i_))))))), (ca 2, .inl (G.2.2.1, 618, .inr (.inl (f9_20))))] := hD.sub [0, 2, 1] (by decide +kernel) rfl
    refine ks_i2lN hx hb dX7_strike_64 (Nat.lt_of_le_of_lt (prB_le _ _ _) (by decide)) ?_
    refine ks_last (f' := mV ((sk7 (T.setP i_ (rvT T i_)) (ab (rvT T i_))).setB i_ (prB (ab (rvT T i_)) (T.setP i_ (rvT T i_)).w ((T.setP i_ (rvT T i_)).s 1)))) hx hb hK hP hD hS 1 rfl (by omega) (by decide) (mV_setB (by omega)) dX7_strike_65 (fun Hq lcq hP hD hS => ?_)
    have hP : va_P G.1 vwCl [(y_, .inr (7, [.ref (ca 0), .ref (ca 1), .ref (ca 2), .int (nI (mn6 ke)), .ref (ca 3), .int (nI ty_), .int (nI 0), .int (nI po), .int (bI fl_), .ref (ca 4), .int (nI tl), .ref (ca 5)])), (ca 0, .inl (G.2.2.1, 103, .inr (.inl (mV ((sk7 (T.setP i_ (rvT T i_)) (ab (rvT T i_))).setB i_ (prB (ab (rvT T i_)) (T.setP i_ (rvT T i_)).w ((T.setP i_ (rvT T i_)).s 1))))))), (ca 2, .inl (G.2.2.1, 618, .inr (.inl (f9_20))))] _ := hP
    have hD : va_D A [(y_, .inr (7, [.ref (ca 0), .ref (ca 1), .ref (ca 2), .int (nI (mn6 ke)), .ref (ca 3), .int (nI ty_), .int (nI 0), .int (nI po), .int (bI fl_), .ref (ca 4), .int (nI tl), .ref (ca 5)])), (ca 0, .inl (G.2.2.1, 103, .inr (.inl (mV ((sk7 (T.setP i_ (rvT T i_)) (ab (rvT T i_))).setB i_ (prB (ab (rvT T i_)) (T.setP i_ (rvT T i_)).w ((T.setP i_ (rvT T i_)).s 1))))))), (ca 2, .inl (G.2.2.1, 618, .inr (.inl (f9_20))))] := hD
    refine lv_aload_n hx hb dX7_strike_66 rfl (lv_at hl 0 rfl) ?_
    refine va_get (D := G.1) (ci := 7) (v := .ref (ca 0)) (C := RX7) (T := TX7) (N := 12) hx hb hts hin7 hown hK hP 0 rfl rfl 0 (by decide) (hts (.fieldLink RX7 7 "PowerTablesModel" "now" "[J") (List.mem_of_getElem? (i := 2) rfl)) (fun _ h9 => h9) rfl dX7_strike_67 ?_
    refine lv_bipush (v := nI 6) hx hb dX7_strike_70 (by decide) ?_
    refine lv_dup2_11 hx hb dX7_strike_72 rfl rfl ?_
    refine ks_lald hx hb hK hP 1 rfl (by omega) (by decide) dX7_strike_73 ?_
    refine ks_vL (show mV ((sk7 (T.setP i_ (rvT T i_)) (ab (rvT T i_))).setB i_ (prB (ab (rvT T i_)) (T.setP i_ (rvT T i_)).w ((T.setP i_ (rvT T i_)).s 1))) 6 = lN (((sk7 (T.setP i_ (rvT T i_)) (ab (rvT T i_))).setB i_ (prB (ab (rvT T i_)) (T.setP i_ (rvT T i_)).w ((T.setP i_ (rvT T i_)).s 1))).s 6) from rfl) ?_
    refine lv_lconst (v := lN 1) hx hb dX7_strike_74 rfl ?_
    refine ks_laddN hx hb dX7_strike_75 ?_
    refine ks_last (f' := mV (((sk7 (T.setP i_ (rvT T i_)) (ab (rvT T i_))).setB i_ (prB (ab (rvT T i_)) (T.setP i_ (rvT T i_)).w ((T.setP i_ (rvT T i_)).s 1))).setS 6 (((sk7 (T.setP i_ (rvT T i_)) (ab (rvT T i_))).setB i_ (prB (ab (rvT T i_)) (T.setP i_ (rvT T i_)).w ((T.setP i_ (rvT T i_)).s 1))).s 6 + 1))) hx hb hK hP hD hS 1 rfl (by omega) (by decide) (mV_setS (by decide)) dX7_strike_76 (fun Hq lcq hP hD hS => ?_)
    have hP : va_P G.1 vwCl [(y_, .inr (7, [.ref (ca 0), .ref (ca 1), .ref (ca 2), .int (nI (mn6 ke)), .ref (ca 3), .int (nI ty_), .int (nI 0), .int (nI po), .int (bI fl_), .ref (ca 4), .int (nI tl), .ref (ca 5)])), (ca 0, .inl (G.2.2.1, 103, .inr (.inl (mV (((sk7 (T.setP i_ (rvT T i_)) (ab (rvT T i_))).setB i_ (prB (ab (rvT T i_)) (T.setP i_ (rvT T i_)).w ((T.setP i_ (rvT T i_)).s 1))).setS 6 (((sk7 (T.setP i_ (rvT T i_)) (ab (rvT T i_))).setB i_ (prB (ab (rvT T i_)) (T.setP i_ (rvT T i_)).w ((T.setP i_ (rvT T i_)).s 1))).s 6 + 1)))))), (ca 2, .inl (G.2.2.1, 618, .inr (.inl (f9_20))))] _ := hP
    have hD : va_D A [(y_, .inr (7, [.ref (ca 0), .ref (ca 1), .ref (ca 2), .int (nI (mn6 ke)), .ref (ca 3), .int (nI ty_), .int (nI 0), .int (nI po), .int (bI fl_), .ref (ca 4), .int (nI tl), .ref (ca 5)])), (ca 0, .inl (G.2.2.1, 103, .inr (.inl (mV (((sk7 (T.setP i_ (rvT T i_)) (ab (rvT T i_))).setB i_ (prB (ab (rvT T i_)) (T.setP i_ (rvT T i_)).w ((T.setP i_ (rvT T i_)).s 1))).setS 6 (((sk7 (T.setP i_ (rvT T i_)) (ab (rvT T i_))).setB i_ (prB (ab (rvT T i_)) (T.setP i_ (rvT T i_)).w ((T.setP i_ (rvT T i_)).s 1))).s 6 + 1)))))), (ca 2, .inl (G.2.2.1, 618, .inr (.inl (f9_20))))] := hD
    have hP := hP.cgJ 1 (g := mV (skT T (rvT T) i_)) rfl (fun q9 h9 => by rw [sk7_e]; rfl)
    have hD := hD.set (p := 1) (e := .inl (G.2.2.1, 103, .inr <| .inl (mV (skT T (rvT T) i_)))) rfl
    have hP : va_P G.1 vwCl [(y_, .inr (7, [.ref (ca 0), .ref (ca 1), .ref (ca 2), .int (nI (mn6 ke)), .ref (ca 3), .int (nI ty_), .int (nI 0), .int (nI po), .int (bI fl_), .ref (ca 4), .int (nI tl), .ref (ca 5)])), (ca 0, .inl (G.2.2.1, 103, .inr (.inl (mV (skT T (rvT T) i_))))), (ca 2, .inl (G.2.2.1, 618, .inr (.inl (f9_20))))] _ := hP
    have hD : va_D A [(y_, .inr (7, [.ref (ca 0), .ref (ca 1), .ref (ca 2), .int (nI (mn6 ke)), .ref (ca 3), .int (nI ty_), .int (nI 0), .int (nI po), .int (bI fl_), .ref (ca 4), .int (nI tl), .ref (ca 5)])), (ca 0, .inl (G.2.2.1, 103, .inr (.inl (mV (skT T (rvT T) i_))))), (ca 2, .inl (G.2.2.1, 618, .inr (.inl (f9_20))))] := hD
    refine lv_aload_n hx hb dX7_strike_77 rfl (lv_at hl 0 rfl) ?_
    refine va_get (D := G.1) (ci := 7) (v := .ref (ca 0)) (C := RX7) (T := TX7) (N := 12) hx hb hts hin7 hown hK hP 0 rfl rfl 0 (by decide) (hts (.fieldLink RX7 7 "PowerTablesModel" "now" "[J") (List.mem_of_getElem? (i := 2) rfl)) (fun _ h9 => h9) rfl dX7_strike_78 ?_
    refine lv_bipush (v := nI 63) hx hb dX7_strike_81 (by decide) ?_
    refine lv_iload_n hx hb dX7_strike_83 rfl (lv_at hl 1 rfl) ?_
    refine ks_iaddN hx hb dX7_strike_84 ?_
    refine ks_lald hx hb hK hP 1 rfl (by omega) (by decide) dX7_strike_85 ?_
    refine ks_vL (show mV (skT T (rvT T) i_) (63 + i_) = lN ((skT T (rvT T) i_).b i_) from mV_b (j := i_) (by omega)) ?_
    refine ks_l2iN hx hb dX7_strike_86 ?_
    refine ks_vI (show nI ((skT T (rvT T) i_).b i_) = nI (prB (ab (rvT T i_)) T.w (T.s 1)) from by show nI (upN _ _ _ _) = _; rw [upN_s]) ?_
    exact cr_iret hx hb hr hlocks hK hP hD hS dX7_strike_87 (by rw [hRR]; exact ⟨f9_20, congrArg (fun z => some (Value.int z)) (rfl), rfl, jq_20⟩)
  · exact absurd ji c_10
set_option maxHeartbeats 4000000 in
set_option maxRecDepth 100000 in
theorem c_X7_strike__b1 (G : GG) (l : Launch) (y_ : Nat) (ca : Nat → Nat) (ke : Nat) (ty_ : Nat) (th : Nat) (po : Nat) (fl_ : Prop) (tl : Nat) (T : TS) (v_ : Int32) (jn4 : T.s 4 ≤ 40) (h8 : ¬ (0 ≤ v_.toInt ∧ v_.toInt < (T.s 4 : Int))) : Cr G l yX7_strike wsX7_strike ({ frames := 2, cells := 0, slots := 0, locals := 46 }) 0 0 [.ref y_, .int v_] [(y_, .inr (7, [.ref (ca 0), .ref (ca 1), .ref (ca 2), .int (nI ke), .ref (ca 3), .int (nI ty_), .int (nI th), .int (nI po), .int (bI fl_), .ref (ca 4), .int (nI tl), .ref (ca 5)])), (ca 0, .inl (G.2.2.1, 103, .inr (.inl (mV T))))] (ctR (some (.int (nI 0))) [(y_, .inr (7, [.ref (ca 0), .ref (ca 1), .ref (ca 2), .int (nI ke), .ref (ca 3), .int (nI ty_), .int (nI 1), .int (nI po), .int (bI fl_), .ref (ca 4), .int (nI tl), .ref (ca 5)])), (ca 0, .inl (G.2.2.1, 103, .inr (.inl (mV T))))]) := by
  refine cr_intro (cc := cX7_strike) (maxL := 2) (ret := (some .int)) (own := RX7) (by decide) rfl rfl (Nat.le_of_ble_eq_true rfl) ?_
  intro p e s m args below meth c A hx hb hr hml hts hown hlocks hnm hNX hP hK hD hA hS ls hl
  obtain ⟨RR, hRR⟩ : ∃ RR, RR = (ctR (some (.int (nI 0))) [(y_, .inr (7, [.ref (ca 0), .ref (ca 1), .ref (ca 2), .int (nI ke), .ref (ca 3), .int (nI ty_), .int (nI 1), .int (nI po), .int (bI fl_), .ref (ca 4), .int (nI tl), .ref (ca 5)])), (ca 0, .inl (G.2.2.1, 103, .inr (.inl (mV T))))]) := ⟨_, rfl⟩
  rw [← hRR]
  have hl : lv_has ls 2 [(0, .ref y_), (1, .int v_)] := hl
  have hin7 : ∀ w ∈ u_ws RX7 TX7 12, w ∈ wsX7_strike := fun w h => List.mem_cons_of_mem _ (List.mem_append_right _ h)
  refine lv_aload_n hx hb dX7_strike_0 rfl (lv_at hl 0 rfl) ?_
  refine lv_iconst (v := nI 0) hx hb dX7_strike_1 (by decide) ?_
  refine va_put (D := G.1) (ci := 7) (v := .int (nI 0)) (ty := .int) (C := RX7) (T := TX7) (N := 12) hx hb hts hin7 tyX7 tyX7_ok nmX7 hown hK hP hD hS 0 rfl rfl 6 (by decide) (hts (.fieldLink RX7 39 "PowerTablesModel" "thrown" "I") (List.mem_of_getElem? (i := 1) rfl)) (fun _ h9 => h9) rfl (tyX7_ok 6 (by decide)) rfl rfl (Nat.le_of_ble_eq_true rfl) dX7_strike_2 (fun Hq lcq hP hD hS => ?_)
  have hP : va_P G.1 vwCl [(y_, .inr (7, [.ref (ca 0), .ref (ca 1), .ref (ca 2), .int (nI ke), .ref (ca 3), .int (nI ty_), .int (nI 0), .int (nI po), .int (bI fl_), .ref (ca 4), .int (nI tl), .ref (ca 5)])), (ca 0, .inl (G.2.2.1, 103, .inr (.inl (mV T))))] _ := hP
  have hD : va_D A [(y_, .inr (7, [.ref (ca 0), .ref (ca 1), .ref (ca 2), .int (nI ke), .ref (ca 3), .int (nI ty_), .int (nI 0), .int (nI po), .int (bI fl_), .ref (ca 4), .int (nI tl), .ref (ca 5)])), (ca 0, .inl (G.2.2.1, 103, .inr (.inl (mV T))))] := hD
  refine lv_aload_n hx hb dX7_strike_5 rfl (lv_at hl 0 rfl) ?_
  refine lv_iload_n hx hb dX7_strike_6 rfl (lv_at hl 1 rfl) ?_
  refine cr_V (wr := []) (As := [.int v_]) (rest := []) ⟨hx, hb, hml, hown, hts⟩ (c_X7_isRow G l y_ ca ke ty_ 0 po fl_ tl T v_ (by omega)) (cwV 1 hts gX7_strike_X7_isRow rfl rfl rfl (by decide +kernel) ⟨Nat.le_of_ble_eq_true rfl, Nat.le_of_ble_eq_true rfl⟩) dX7_strike_7 hK hNX hP hD hS hA hl 0 7 rfl rfl rfl [0, 1] [] rfl rfl rfl rfl (by decide) rfl (Nat.le_of_ble_eq_true rfl) ⟨Nat.le_of_ble_eq_true rfl, Nat.le_of_ble_eq_true rfl⟩ rfl (fun v' w' Hq lcq hR' hP hD hS => ?_)
  obtain ⟨rfl, rfl⟩ := hR'
  have hP : va_P G.1 vwCl [(y_, .inr (7, [.ref (ca 0), .ref (ca 1), .ref (ca 2), .int (nI ke), .ref (ca 3), .int (nI ty_), .int (nI 0), .int (nI po), .int (bI fl_), .ref (ca 4), .int (nI tl), .ref (ca 5)])), (ca 0, .inl (G.2.2.1, 103, .inr (.inl (mV T))))] _ := hP.sub [0, 1] rfl
  have hD : va_D A [(y_, .inr (7, [.ref (ca 0), .ref (ca 1), .ref (ca 2), .int (nI ke), .ref (ca 3), .int (nI ty_), .int (nI 0), .int (nI po), .int (bI fl_), .ref (ca 4), .int (nI tl), .ref (ca 5)])), (ca 0, .inl (G.2.2.1, 103, .inr (.inl (mV T))))] := hD.sub [0, 1] (by decide +kernel) rfl
  refine ks_ifb_ne (tgt := 19) hx hb dX7_strike_10 (by decide) (fun c_10 => ?_) (fun c_10 => ?_)
  · exact absurd c_10 h8
  · refine lv_aload_n hx hb dX7_strike_13 rfl (lv_at hl 0 rfl) ?_
    refine lv_iconst (v := nI 1) hx hb dX7_strike_14 (by decide) ?_
    refine cr_V (wr := [(ca 0, .inl (G.2.2.1, 103, .inr (.inl (mV T))))]) (As := [.int (nI 1)]) (rest := []) ⟨hx, hb, hml, hown, hts⟩ (c_X7_fails G l y_ ca ke ty_ 0 po fl_ tl 1 ) (cwV 1 hts gX7_strike_X7_fails rfl rfl rfl (by decide +kernel) ⟨Nat.le_of_ble_eq_true rfl, Nat.le_of_ble_eq_true rfl⟩) dX7_strike_15 hK hNX hP hD hS hA hl 0 7 rfl rfl rfl [0] [1] rfl rfl rfl rfl (by decide) rfl (Nat.le_of_ble_eq_true rfl) ⟨Nat.le_of_ble_eq_true rfl, Nat.le_of_ble_eq_true rfl⟩ rfl (fun v' w' Hq lcq hR' hP hD hS => ?_)
    obtain ⟨rfl, rfl⟩ := hR'
    have hP : va_P G.1 vwCl [(y_, .inr (7, [.ref (ca 0), .ref (ca 1), .ref (ca 2), .int (nI ke), .ref (ca 3), .int (nI ty_), .int (nI 1), .int (nI po), .int (bI fl_), .ref (ca 4), .int (nI tl), .ref (ca 5)])), (ca 0, .inl (G.2.2.1, 103, .inr (.inl (mV T))))] _ := hP.sub [1, 0] rfl
    have hD : va_D A [(y_, .inr (7, [.ref (ca 0), .ref (ca 1), .ref (ca 2), .int (nI ke), .ref (ca 3), .int (nI ty_), .int (nI 1), .int (nI po), .int (bI fl_), .ref (ca 4), .int (nI tl), .ref (ca 5)])), (ca 0, .inl (G.2.2.1, 103, .inr (.inl (mV T))))] := hD.sub [1, 0] (by decide +kernel) rfl
    exact cr_iret hx hb hr hlocks hK hP hD hS dX7_strike_18 (by rw [hRR]; exact ctR_i (rfl) (rfl))
set_option maxHeartbeats 4000000 in
set_option maxRecDepth 100000 in
theorem c_X7_changes (G : GG) (l : Launch) (y_ : Nat) (ca : Nat → Nat) (ke : Nat) (ty_ : Nat) (th : Nat) (po : Nat) (fl_ : Prop) (tl : Nat) (T : TS) (d_ : Nat) (v_ : Nat) (jd : d_ < 10) (jv : v_ < 2 ^ 30) : Cr G l yX7_changes wsX7_changes ({ frames := 0, cells := 0, slots := 0, locals := 0 }) 0 0 [.ref y_, .int (nI (13 + d_)), .int (nI v_)] [(y_, .inr (7, [.ref (ca 0), .ref (ca 1), .ref (ca 2), .int (nI ke), .ref (ca 3), .int (nI ty_), .int (nI th), .int (nI po), .int (bI fl_), .ref (ca 4), .int (nI tl), .ref (ca 5)])), (ca 0, .inl (G.2.2.1, 103, .inr (.inl (mV T))))] (ctR (some (.int (nI (T.w d_)))) [(y_, .inr (7, [.ref (ca 0), .ref (ca 1), .ref (ca 2), .int (nI ke), .ref (ca 3), .int (nI ty_), .int (nI th), .int (nI po), .int (bI fl_), .ref (ca 4), .int (nI tl), .ref (ca 5)])), (ca 0, .inl (G.2.2.1, 103, .inr (.inl (mV (T.setW d_ v_)))))]) := by
  refine cr_intro (cc := cX7_changes) (maxL := 4) (ret := (some .int)) (own := RX7) (by decide) rfl rfl (Nat.le_of_ble_eq_true rfl) ?_
  intro p e s m args below meth c A hx hb hr hml hts hown hlocks hnm hNX hP hK hD hA hS ls hl
  obtain ⟨RR, hRR⟩ : ∃ RR, RR = (ctR (some (.int (nI (T.w d_)))) [(y_, .inr (7, [.ref (ca 0), .ref (ca 1), .ref (ca 2), .int (nI ke), .ref (ca 3), .int (nI ty_), .int (nI th), .int (nI po), .int (bI fl_), .ref (ca 4), .int (nI tl), .ref (ca 5)])), (ca 0, .inl (G.2.2.1, 103, .inr (.inl (mV (T.setW d_ v_)))))]) := ⟨_, rfl⟩
  rw [← hRR]
  have hl : lv_has ls 4 [(0, .ref y_), (1, .int (nI (13 + d_))), (2, .int (nI v_))] := hl
  have hin7 : ∀ w ∈ u_ws RX7 TX7 12, w ∈ wsX7_changes := fun w h => List.mem_cons_of_mem _ (List.mem_append_right _ h)
  refine lv_aload_n hx hb dX7_changes_0 rfl (lv_at hl 0 rfl) ?_
  refine va_get (D := G.1) (ci := 7) (v := .ref (ca 0)) (C := RX7) (T := TX7) (N := 12) hx hb hts hin7 hown hK hP 0 rfl rfl 0 (by decide) (hts (.fieldLink RX7 7 "PowerTablesModel" "now" "[J") (List.mem_of_getElem? (i := 1) rfl)) (fun _ h9 => h9) rfl dX7_changes_1 ?_
  refine lv_iload_n hx hb dX7_changes_4 rfl (lv_at hl 1 rfl) ?_
  refine ks_lald hx hb hK hP 1 rfl (by omega) (by decide) dX7_changes_5 ?_
  refine ks_vL (show mV T (13 + d_) = lN (T.w d_) from mV_w (j := d_) (by omega)) ?_
  refine ks_l2iN hx hb dX7_changes_6 ?_
  refine lv_istore_n (lv' := [(3, .int (nI (T.w d_))), (0, .ref y_), (1, .int (nI (13 + d_))), (2, .int (nI v_))]) hx hb dX7_changes_7 rfl hl (by decide) rfl (fun ls hl => ?_)
  refine lv_aload_n hx hb dX7_changes_8 rfl (lv_at hl 1 rfl) ?_
  refine va_get (D := G.1) (ci := 7) (v := .ref (ca 0)) (C := RX7) (T := TX7) (N := 12) hx hb hts hin7 hown hK hP 0 rfl rfl 0 (by decide) (hts (.fieldLink RX7 7 "PowerTablesModel" "now" "[J") (List.mem_of_getElem? (i := 1) rfl)) (fun _ h9 => h9) rfl dX7_changes_9 ?_
  refine lv_iload_n hx hb dX7_changes_12 rfl (lv_at hl 2 rfl) ?_
  refine lv_iload_n hx hb dX7_changes_13 rfl (lv_at hl 3 rfl) ?_
  refine ks_i2lN hx hb dX7_changes_14 (by omega) ?_
  refine ks_last (f' := mV (T.setW d_ v_)) hx hb hK hP hD hS 1 rfl (by omega) (by decide) (mV_setW (by omega)) dX7_changes_15 (fun Hq lcq hP hD hS => ?_)
  have hP : va_P G.1 vwCl [(y_, .inr (7, [.ref (ca 0), .ref (ca 1), .ref (ca 2), .int (nI ke), .ref (ca 3), .int (nI ty_), .int (nI th), .int (nI po), .int (bI fl_), .ref (ca 4), .int (nI tl), .ref (ca 5)])), (ca 0, .inl (G.2.2.1, 103, .inr (.inl (mV (T.setW d_ v_)))))] _ := hP
  have hD : va_D A [(y_, .inr (7, [.ref (ca 0), .ref (ca 1), .ref (ca 2), .int (nI ke), .ref (ca 3), .int (nI ty_), .int (nI th), .int (nI po), .int (bI fl_), .ref (ca 4), .int (nI tl), .ref (ca 5)])), (ca 0, .inl (G.2.2.1, 103, .inr (.inl (mV (T.setW d_ v_)))))] := hD
  refine lv_iload_n hx hb dX7_changes_16 rfl (lv_at hl 0 rfl) ?_
  exact cr_iret hx hb hr hlocks hK hP hD hS dX7_changes_17 (by rw [hRR]; exact ctR_i (rfl) (rfl))
set_option maxHeartbeats 4000000 in
set_option maxRecDepth 100000 in
theorem c_X7_changes__s (G : GG) (l : Launch) (y_ : Nat) (ca : Nat → Nat) (ke : Nat) (ty_ : Nat) (th : Nat) (po : Nat) (fl_ : Prop) (tl : Nat) (T : TS) (k_ : Nat) (v_ : Nat) (jk : k_ < 7) (jv : v_ < 2 ^ 30) : Cr G l yX7_changes wsX7_changes ({ frames := 0, cells := 0, slots := 0, locals := 0 }) 0 0 [.ref y_, .int (nI k_), .int (nI v_)] [(y_, .inr (7, [.ref (ca 0), .ref (ca 1), .ref (ca 2), .int (nI ke), .ref (ca 3), .int (nI ty_), .int (nI th), .int (nI po), .int (bI fl_), .ref (ca 4), .int (nI tl), .ref (ca 5)])), (ca 0, .inl (G.2.2.1, 103, .inr (.inl (mV T))))] (ctR (some (.int (nI (T.s k_)))) [(y_, .inr (7, [.ref (ca 0), .ref (ca 1), .ref (ca 2), .int (nI ke), .ref (ca 3), .int (nI ty_), .int (nI th), .int (nI po), .int (bI fl_), .ref (ca 4), .int (nI tl), .ref (ca 5)])), (ca 0, .inl (G.2.2.1, 103, .inr (.inl (mV (T.setS k_ v_)))))]) := by
  refine cr_intro (cc := cX7_changes) (maxL := 4) (ret := (some .int)) (own := RX7) (by decide) rfl rfl (Nat.le_of_ble_eq_true rfl) ?_
  intro p e s m args below meth c A hx hb hr hml hts hown hlocks hnm hNX hP hK hD hA hS ls hl
  obtain ⟨RR, hRR⟩ : ∃ RR, RR = (ctR (some (.int (nI (T.s k_)))) [(y_, .inr (7, [.ref (ca 0), .ref (ca 1), .ref (ca 2), .int (nI ke), .ref (ca 3), .int (nI ty_), .int (nI th), .int (nI po), .int (bI fl_), .ref (ca 4), .int (nI tl), .ref (ca 5)])), (ca 0, .inl (G.2.2.1, 103, .inr (.inl (mV (T.setS k_ v_)))))]) := ⟨_, rfl⟩
  rw [← hRR]
  have hl : lv_has ls 4 [(0, .ref y_), (1, .int (nI k_)), (2, .int (nI v_))] := hl
  have hin7 : ∀ w ∈ u_ws RX7 TX7 12, w ∈ wsX7_changes := fun w h => List.mem_cons_of_mem _ (List.mem_append_right _ h)
  refine lv_aload_n hx hb dX7_changes_0 rfl (lv_at hl 0 rfl) ?_
  refine va_get (D := G.1) (ci := 7) (v := .ref (ca 0)) (C := RX7) (T := TX7) (N := 12) hx hb hts hin7 hown hK hP 0 rfl rfl 0 (by decide) (hts (.fieldLink RX7 7 "PowerTablesModel" "now" "[J") (List.mem_of_getElem? (i := 1) rfl)) (fun _ h9 => h9) rfl dX7_changes_1 ?_
  refine lv_iload_n hx hb dX7_changes_4 rfl (lv_at hl 1 rfl) ?_
  refine ks_lald hx hb hK hP 1 rfl (by omega) (by decide) dX7_changes_5 ?_
  refine ks_vL (show mV T k_ = lN (T.s k_) from mV_s jk) ?_
  refine ks_l2iN hx hb dX7_changes_6 ?_
  refine lv_istore_n (lv' := [(3, .int (nI (T.s k_))), (0, .ref y_), (1, .int (nI k_)), (2, .int (nI v_))]) hx hb dX7_changes_7 rfl hl (by decide) rfl (fun ls hl => ?_)
  refine lv_aload_n hx hb dX7_changes_8 rfl (lv_at hl 1 rfl) ?_
  refine va_get (D := G.1) (ci := 7) (v := .ref (ca 0)) (C := RX7) (T := TX7) (N := 12) hx hb hts hin7 hown hK hP 0 rfl rfl 0 (by decide) (hts (.fieldLink RX7 7 "PowerTablesModel" "now" "[J") (List.mem_of_getElem? (i := 1) rfl)) (fun _ h9 => h9) rfl dX7_changes_9 ?_
  refine lv_iload_n hx hb dX7_changes_12 rfl (lv_at hl 2 rfl) ?_
  refine lv_iload_n hx hb dX7_changes_13 rfl (lv_at hl 3 rfl) ?_
  refine ks_i2lN hx hb dX7_changes_14 (by omega) ?_
  refine ks_last (f' := mV (T.setS k_ v_)) hx hb hK hP hD hS 1 rfl (by omega) (by decide) (mV_setS jk) dX7_changes_15 (fun Hq lcq hP hD hS => ?_)
  have hP : va_P G.1 vwCl [(y_, .inr (7, [.ref (ca 0), .ref (ca 1), .ref (ca 2), .int (nI ke), .ref (ca 3), .int (nI ty_), .int (nI th), .int (nI po), .int (bI fl_), .ref (ca 4), .int (nI tl), .ref (ca 5)])), (ca 0, .inl (G.2.2.1, 103, .inr (.inl (mV (T.setS k_ v_)))))] _ := hP
  have hD : va_D A [(y_, .inr (7, [.ref (ca 0), .ref (ca 1), .ref (ca 2), .int (nI ke), .ref (ca 3), .int (nI ty_), .int (nI th), .int (nI po), .int (bI fl_), .ref (ca 4), .int (nI tl), .ref (ca 5)])), (ca 0, .inl (G.2.2.1, 103, .inr (.inl (mV (T.setS k_ v_)))))] := hD
  refine lv_iload_n hx hb dX7_changes_16 rfl (lv_at hl 0 rfl) ?_
  exact cr_iret hx hb hr hlocks hK hP hD hS dX7_changes_17 (by rw [hRR]; exact ctR_i (rfl) (rfl))
set_option maxHeartbeats 4000000 in
set_option maxRecDepth 100000 in
theorem c_X7_renew (G : GG) (l : Launch) (y_ : Nat) (ca : Nat → Nat) (ke : Nat) (ty_ : Nat) (th : Nat) (po : Nat) (fl_ : Prop) (tl : Nat) (T : TS) (f_ : Nat → Int64) (Ss : Nat → TS) (d_ : Nat) (jk6 : ke ≤ 6) (jpf : PF f_ ke Ss) (jd : d_ < 10) : Cr G l yX7_renew wsX7_renew ({ frames := 1, cells := 0, slots := 0, locals := 25 }) 0 0 [.ref y_, .int (nI d_)] [(y_, .inr (7, [.ref (ca 0), .ref (ca 1), .ref (ca 2), .int (nI ke), .ref (ca 3), .int (nI ty_), .int (nI th), .int (nI po), .int (bI fl_), .ref (ca 4), .int (nI tl), .ref (ca 5)])), (ca 0, .inl (G.2.2.1, 103, .inr (.inl (mV T)))), (ca 2, .inl (G.2.2.1, 618, .inr (.inl (f_))))] (fun (vv1 : Option Value) (ww1 : va_W) => ∃ (f9_ : Nat → Int64), vv1 = (some (.int (nI (T.w d_)))) ∧ ww1 = [(y_, .inr (7, [.ref (ca 0), .ref (ca 1), .ref (ca 2), .int (nI (mn6 ke)), .ref (ca 3), .int (nI ty_), .int (nI 0), .int (nI po), .int (bI fl_), .ref (ca 4), .int (nI tl), .ref (ca 5)])), (ca 0, .inl (G.2.2.1, 103, .inr (.inl (mV (T.setW d_ 0))))), (ca 2, .inl (G.2.2.1, 618, .inr (.inl (f9_))))] ∧ (PF f9_ (mn6 ke) (svS Ss ke T))) := by
  refine cr_intro (cc := cX7_renew) (maxL := 2) (ret := (some .int)) (own := RX7) (by decide) rfl rfl (Nat.le_of_ble_eq_true rfl) ?_
  intro p e s m args below meth c A hx hb hr hml hts hown hlocks hnm hNX hP hK hD hA hS ls hl
  obtain ⟨RR, hRR⟩ : ∃ RR, RR = (fun (vv1 : Option Value) (ww1 : va_W) => ∃ (f9_ : Nat → Int64), vv1 = (some (.int (nI (T.w d_)))) ∧ ww1 = [(y_, .inr (7, [.ref (ca 0), .ref (ca 1), .ref (ca 2), .int (nI (mn6 ke)), .ref (ca 3), .int (nI ty_), .int (nI 0), .int (nI po), .int (bI fl_), .ref (ca 4), .int (nI tl), .ref (ca 5)])), (ca 0, .inl (G.2.2.1, 103, .inr (.inl (mV (T.setW d_ 0))))), (ca 2, .inl (G.2.2.1, 618, .inr (.inl (f9_))))] ∧ (PF f9_ (mn6 ke) (svS Ss ke T))) := ⟨_, rfl⟩
  rw [← hRR]
  have hl : lv_has ls 2 [(0, .ref y_), (1, .int (nI d_))] := hl
  have hin7 : ∀ w ∈ u_ws RX7 TX7 12, w ∈ wsX7_renew := fun w h => List.mem_cons_of_mem _ (List.mem_append_right _ h)
  refine lv_aload_n hx hb dX7_renew_0 rfl (lv_at hl 0 rfl) ?_
  refine lv_iconst (v := nI 0) hx hb dX7_renew_1 (by decide) ?_
  refine va_put (D := G.1) (ci := 7) (v := .int (nI 0)) (ty := .int) (C := RX7) (T := TX7) (N := 12) hx hb hts hin7 tyX7 tyX7_ok nmX7 hown hK hP hD hS 0 rfl rfl 6 (by decide) (hts (.fieldLink RX7 39 "PowerTablesModel" "thrown" "I") (List.mem_of_getElem? (i := 1) rfl)) (fun _ h9 => h9) rfl (tyX7_ok 6 (by decide)) rfl rfl (Nat.le_of_ble_eq_true rfl) dX7_renew_2 (fun Hq lcq hP hD hS => ?_)
  have hP : va_P G.1 vwCl [(y_, .inr (7, [.ref (ca 0), .ref (ca 1), .ref (ca 2), .int (nI ke), .ref (ca 3), .int (nI ty_), .int (nI 0), .int (nI po), .int (bI fl_), .ref (ca 4), .int (nI tl), .ref (ca 5)])), (ca 0, .inl (G.2.2.1, 103, .inr (.inl (mV T)))), (ca 2, .inl (G.2.2.1, 618, .inr (.inl (f_))))] _ := hP
  have hD : va_D A [(y_, .inr (7, [.ref (ca 0), .ref (ca 1), .ref (ca 2), .int (nI ke), .ref (ca 3), .int (nI ty_), .int (nI 0), .int (nI po), .int (bI fl_), .ref (ca 4), .int (nI tl), .ref (ca 5)])), (ca 0, .inl (G.2.2.1, 103, .inr (.inl (mV T)))), (ca 2, .inl (G.2.2.1, 618, .inr (.inl (f_))))] := hD
  refine lv_iload_n hx hb dX7_renew_5 rfl (lv_at hl 1 rfl) ?_
  refine ks_i2lN hx hb dX7_renew_6 (by omega) ?_
  refine lv_lconst (v := lN 0) hx hb dX7_renew_7 rfl ?_
  refine lv_ldc2 hx hb hown (hts (.constantLong RX7 87 (9)) (List.mem_of_getElem? (i := 2) rfl)) dX7_renew_8 ?_
  refine ks_vL (show (9 : Int64) = lN 9 from rfl) ?_
  refine cr_S (wr := [(y_, .inr (7, [.ref (ca 0), .ref (ca 1), .ref (ca 2), .int (nI ke), .ref (ca 3), .int (nI ty_), .int (nI 0), .int (nI po), .int (bI fl_), .ref (ca 4), .int (nI tl), .ref (ca 5)])), (ca 0, .inl (G.2.2.1, 103, .inr (.inl (mV T)))), (ca 2, .inl (G.2.2.1, 618, .inr (.inl (f_))))]) (As := [.long (lN d_), .long (lN 0), .long (lN 9)]) (rest := []) ⟨hx, hb, hml, hown, hts⟩ (c_X7_in__n G l d_ 0 9 (by omega) (by omega) (by omega)) (va_cwS 3 hts gX7_renew_X7_in rfl rfl rfl (by decide +kernel) ⟨Nat.le_of_ble_eq_true rfl, Nat.le_of_ble_eq_true rfl⟩) dX7_renew_11 hK hNX hP hD hS hA hl [] [0, 1, 2] rfl rfl rfl rfl (by decide) rfl (Nat.le_of_ble_eq_true rfl) ⟨Nat.le_of_ble_eq_true rfl, Nat.le_of_ble_eq_true rfl⟩ rfl (fun v' w' Hq lcq hR' hP hD hS => ?_)
  obtain ⟨rfl, rfl⟩ := hR'
  have hP : va_P G.1 vwCl [(y_, .inr (7, [.ref (ca 0), .ref (ca 1), .ref (ca 2), .int (nI ke), .ref (ca 3), .int (nI ty_), .int (nI 0), .int (nI po), .int (bI fl_), .ref (ca 4), .int (nI tl), .ref (ca 5)])), (ca 0, .inl (G.2.2.1, 103, .inr (.inl (mV T)))), (ca 2, .inl (G.2.2.1, 618, .inr (.inl (f_))))] _ := hP.sub [0, 1, 2] rfl
  have hD : va_D A [(y_, .inr (7, [.ref (ca 0), .ref (ca 1), .ref (ca 2), .int (nI ke), .ref (ca 3), .int (nI ty_), .int (nI 0), .int (nI po), .int (bI fl_), .ref (ca 4), .int (nI tl), .ref (ca 5)])), (ca 0, .inl (G.2.2.1, 103, .inr (.inl (mV T)))), (ca 2, .inl (G.2.2.1, 618, .inr (.inl (f_))))] := hD.sub [0, 1, 2] (by decide +kernel) rfl
  refine ks_ifb_ne (tgt := 23) hx hb dX7_renew_14 (by decide) (fun c_14 => ?_) (fun c_14 => ?_)
  · refine lv_aload_n hx hb dX7_renew_23 rfl (lv_at hl 0 rfl) ?_
    refine cr_V (wr := []) (As := []) (rest := []) ⟨hx, hb, hml, hown, hts⟩ (c_X7_saves G l y_ ca ke ty_ 0 po fl_ tl T f_ Ss (by omega) (jpf)) (cwV 0 hts gX7_renew_X7_saves rfl rfl rfl (by decide +kernel) ⟨Nat.le_of_ble_eq_true rfl, Nat.le_of_ble_eq_true rfl⟩) dX7_renew_24 hK hNX hP hD hS hA hl 0 7 rfl rfl rfl [0, 1, 2] [] rfl rfl rfl rfl (by decide) rfl (Nat.le_of_ble_eq_true rfl) ⟨Nat.le_of_ble_eq_true rfl, Nat.le_of_ble_eq_true rfl⟩ rfl (fun v' w' Hq lcq hR' hP hD hS => ?_)
    obtain ⟨f9_24, rfl, rfl, jq_24⟩ := hR'
    have hP : va_P G.1 vwCl [(y_, .inr (7, [.ref (ca 0), .ref (ca 1), .ref (ca 2), .int (nI (mn6 ke)), .ref (ca 3), .int (nI ty_), .int (nI 0), .int (nI po), .int (bI fl_), .ref (ca 4), .int (nI tl), .ref (ca 5)])), (ca 0, .inl (G.2.2.1, 103, .inr (.inl (mV T)))), (ca 2, .inl (G.2.2.1, 618, .inr (.inl (f9_24))))] _ := hP.sub [0, 1, 2] rfl
    have hD : va_D A [(y_, .inr (7, [.ref (ca 0), .ref (ca 1), .ref (ca 2), .int (nI (mn6 ke)), .ref (ca 3), .int (nI ty_), .int (nI 0), .int (nI po), .int (bI fl_), .ref (ca 4), .int (nI tl), .ref (ca 5)])), (ca 0, .inl (G.2.2.1, 103, .inr (.inl (mV T)))), (ca 2, .inl (G.2.2.1, 618, .inr (.inl (f9_24))))] := hD.sub [0, 1, 2] (by decide +kernel) rfl
    refine lv_aload_n hx hb dX7_renew_27 rfl (lv_at hl 0 rfl) ?_
    refine lv_bipush (v := nI 13) hx hb dX7_renew_28 (by decide) ?_
    refine lv_iload_n hx hb dX7_renew_30 rfl (lv_at hl 1 rfl) ?_
    refine ks_iaddN hx hb dX7_renew_31 ?_
    refine lv_iconst (v := nI 0) hx hb dX7_renew_32 (by decide) ?_
    refine cr_V (wr := [(ca 2, .inl (G.2.2.1, 618, .inr (.inl (f9_24))))]) (As := [.int (nI (13 + d_)), .int (nI 0)]) (rest := []) ⟨hx, hb, hml, hown, hts⟩ (c_X7_changes G l y_ ca (mn6 ke) ty_ 0 po fl_ tl T d_ 0 (by omega) (by omega)) (cwV 2 hts gX7_renew_X7_changes rfl rfl rfl (by decide +kernel) ⟨Nat.le_of_ble_eq_true rfl, Nat.le_of_ble_eq_true rfl⟩) dX7_renew_33 hK hNX hP hD hS hA hl 0 7 rfl rfl rfl [0, 1] [2] rfl rfl rfl rfl (by decide) rfl (Nat.le_of_ble_eq_true rfl) ⟨Nat.le_of_ble_eq_true rfl, Nat.le_of_ble_eq_true rfl⟩ rfl (fun v' w' Hq lcq hR' hP hD hS => ?_)
    obtain ⟨rfl, rfl⟩ := hR'
    have hP : va_P G.1 vwCl [(y_, .inr (7, [.ref (ca 0), .ref (ca 1), .ref (ca 2), .int (nI (mn6 ke)), .ref (ca 3), .int (nI ty_), .int (nI 0), .int (nI po), .int (bI fl_), .ref (ca 4), .int (nI tl), .ref (ca 5)])), (ca 0, .inl (G.2.2.1, 103, .inr (.inl (mV (T.setW d_ 0))))), (ca 2, .inl (G.2.2.1, 618, .inr (.inl (f9_24))))] _ := hP.sub [1, 2, 0] rfl
    have hD : va_D A [(y_, .inr (7, [.ref (ca 0), .ref (ca 1), .ref (ca 2), .int (nI (mn6 ke)), .ref (ca 3), .int (nI ty_), .int (nI 0), .int (nI po), .int (bI fl_), .ref (ca 4), .int (nI tl), .ref (ca 5)])), (ca 0, .inl (G.2.2.1, 103, .inr (.inl (mV (T.setW d_ 0))))), (ca 2, .inl (G.2.2.1, 618, .inr (.inl (f9_24))))] := hD.sub [1, 2, 0] (by decide +kernel) rfl
    exact cr_iret hx hb hr hlocks hK hP hD hS dX7_renew_36 (by rw [hRR]; exact ⟨f9_24, congrArg (fun z => some (Value.int z)) (rfl), rfl, jq_24⟩)
  · exact absurd ⟨Nat.zero_le _, by omega⟩ c_14
set_option maxHeartbeats 4000000 in
set_option maxRecDepth 100000 in
theorem c_X7_renew__b1 (G : GG) (l : Launch) (y_ : Nat) (ca : Nat → Nat) (ke : Nat) (ty_ : Nat) (th : Nat) (po : Nat) (fl_ : Prop) (tl : Nat) (T : TS) (v_ : Int32) (h8 : ¬ (0 ≤ v_.toInt ∧ v_.toInt ≤ 9)) : Cr G l yX7_renew wsX7_renew ({ frames := 1, cells := 0, slots := 0, locals := 25 }) 0 0 [.ref y_, .int v_] [(y_, .inr (7, [.ref (ca 0), .ref (ca 1), .ref (ca 2), .int (nI ke), .ref (ca 3), .int (nI ty_), .int (nI th), .int (nI po), .int (bI fl_), .ref (ca 4), .int (nI tl), .ref (ca 5)]))] (ctR (some (.int (nI 0))) [(y_, .inr (7, [.ref (ca 0), .ref (ca 1), .ref (ca 2), .int (nI ke), .ref (ca 3), .int (nI ty_), .int (nI 1), .int (nI po), .int (bI fl_), .ref (ca 4), .int (nI tl), .ref (ca 5)]))]) := by
  refine cr_intro (cc := cX7_renew) (maxL := 2) (ret := (some .int)) (own := RX7) (by decide) rfl rfl (Nat.le_of_ble_eq_true rfl) ?_
  intro p e s m args below meth c A hx hb hr hml hts hown hlocks hnm hNX hP hK hD hA hS ls hl
  obtain ⟨RR, hRR⟩ : ∃ RR, RR = (ctR (some (.int (nI 0))) [(y_, .inr (7, [.ref (ca 0), .ref (ca 1), .ref (ca 2), .int (nI ke), .ref (ca 3), .int (nI ty_), .int (nI 1), .int (nI po), .int (bI fl_), .ref (ca 4), .int (nI tl), .ref (ca 5)]))]) := ⟨_, rfl⟩
  rw [← hRR]
  have hl : lv_has ls 2 [(0, .ref y_), (1, .int v_)] := hl
  have hin7 : ∀ w ∈ u_ws RX7 TX7 12, w ∈ wsX7_renew := fun w h => List.mem_cons_of_mem _ (List.mem_append_right _ h)
  refine lv_aload_n hx hb dX7_renew_0 rfl (lv_at hl 0 rfl) ?_
  refine lv_iconst (v := nI 0) hx hb dX7_renew_1 (by decide) ?_
  refine va_put (D := G.1) (ci := 7) (v := .int (nI 0)) (ty := .int) (C := RX7) (T := TX7) (N := 12) hx hb hts hin7 tyX7 tyX7_ok nmX7 hown hK hP hD hS 0 rfl rfl 6 (by decide) (hts (.fieldLink RX7 39 "PowerTablesModel" "thrown" "I") (List.mem_of_getElem? (i := 1) rfl)) (fun _ h9 => h9) rfl (tyX7_ok 6 (by decide)) rfl rfl (Nat.le_of_ble_eq_true rfl) dX7_renew_2 (fun Hq lcq hP hD hS => ?_)
  have hP : va_P G.1 vwCl [(y_, .inr (7, [.ref (ca 0), .ref (ca 1), .ref (ca 2), .int (nI ke), .ref (ca 3), .int (nI ty_), .int (nI 0), .int (nI po), .int (bI fl_), .ref (ca 4), .int (nI tl), .ref (ca 5)]))] _ := hP
  have hD : va_D A [(y_, .inr (7, [.ref (ca 0), .ref (ca 1), .ref (ca 2), .int (nI ke), .ref (ca 3), .int (nI ty_), .int (nI 0), .int (nI po), .int (bI fl_), .ref (ca 4), .int (nI tl), .ref (ca 5)]))] := hD
  refine lv_iload_n hx hb dX7_renew_5 rfl (lv_at hl 1 rfl) ?_
  refine lv_i2l hx hb dX7_renew_6 rfl ?_
  refine lv_lconst (v := lN 0) hx hb dX7_renew_7 rfl ?_
  refine lv_ldc2 hx hb hown (hts (.constantLong RX7 87 (9)) (List.mem_of_getElem? (i := 2) rfl)) dX7_renew_8 ?_
  refine ks_vL (show (9 : Int64) = lN 9 from rfl) ?_
  refine cr_S (wr := [(y_, .inr (7, [.ref (ca 0), .ref (ca 1), .ref (ca 2), .int (nI ke), .ref (ca 3), .int (nI ty_), .int (nI 0), .int (nI po), .int (bI fl_), .ref (ca 4), .int (nI tl), .ref (ca 5)]))]) (As := [.long v_.toInt64, .long (lN 0), .long (lN 9)]) (rest := []) ⟨hx, hb, hml, hown, hts⟩ (c_X7_in__i G l v_ 0 9 (by omega) (by omega)) (va_cwS 3 hts gX7_renew_X7_in rfl rfl rfl (by decide +kernel) ⟨Nat.le_of_ble_eq_true rfl, Nat.le_of_ble_eq_true rfl⟩) dX7_renew_11 hK hNX hP hD hS hA hl [] [0] rfl rfl rfl rfl (by decide) rfl (Nat.le_of_ble_eq_true rfl) ⟨Nat.le_of_ble_eq_true rfl, Nat.le_of_ble_eq_true rfl⟩ rfl (fun v' w' Hq lcq hR' hP hD hS => ?_)
  obtain ⟨rfl, rfl⟩ := hR'
  have hP : va_P G.1 vwCl [(y_, .inr (7, [.ref (ca 0), .ref (ca 1), .ref (ca 2), .int (nI ke), .ref (ca 3), .int (nI ty_), .int (nI 0), .int (nI po), .int (bI fl_), .ref (ca 4), .int (nI tl), .ref (ca 5)]))] _ := hP.sub [0] rfl
  have hD : va_D A [(y_, .inr (7, [.ref (ca 0), .ref (ca 1), .ref (ca 2), .int (nI ke), .ref (ca 3), .int (nI ty_), .int (nI 0), .int (nI po), .int (bI fl_), .ref (ca 4), .int (nI tl), .ref (ca 5)]))] := hD.sub [0] (by decide +kernel) rfl
  refine ks_ifb_ne (tgt := 23) hx hb dX7_renew_14 (by decide) (fun c_14 => ?_) (fun c_14 => ?_)
  · exact absurd c_14 h8
  · refine lv_aload_n hx hb dX7_renew_17 rfl (lv_at hl 0 rfl) ?_
    refine lv_iconst (v := nI 1) hx hb dX7_renew_18 (by decide) ?_
    refine cr_V (wr := []) (As := [.int (nI 1)]) (rest := []) ⟨hx, hb, hml, hown, hts⟩ (c_X7_fails G l y_ ca ke ty_ 0 po fl_ tl 1 ) (cwV 1 hts gX7_renew_X7_fails rfl rfl rfl (by decide +kernel) ⟨Nat.le_of_ble_eq_true rfl, Nat.le_of_ble_eq_true rfl⟩) dX7_renew_19 hK hNX hP hD hS hA hl 0 7 rfl rfl rfl [0] [] rfl rfl rfl rfl (by decide) rfl (Nat.le_of_ble_eq_true rfl) ⟨Nat.le_of_ble_eq_true rfl, Nat.le_of_ble_eq_true rfl⟩ rfl (fun v' w' Hq lcq hR' hP hD hS => ?_)
    obtain ⟨rfl, rfl⟩ := hR'
    have hP : va_P G.1 vwCl [(y_, .inr (7, [.ref (ca 0), .ref (ca 1), .ref (ca 2), .int (nI ke), .ref (ca 3), .int (nI ty_), .int (nI 1), .int (nI po), .int (bI fl_), .ref (ca 4), .int (nI tl), .ref (ca 5)]))] _ := hP.sub [0] rfl
    have hD : va_D A [(y_, .inr (7, [.ref (ca 0), .ref (ca 1), .ref (ca 2), .int (nI ke), .ref (ca 3), .int (nI ty_), .int (nI 1), .int (nI po), .int (bI fl_), .ref (ca 4), .int (nI tl), .ref (ca 5)]))] := hD.sub [0] (by decide +kernel) rfl
    exact cr_iret hx hb hr hlocks hK hP hD hS dX7_renew_22 (by rw [hRR]; exact ctR_i (rfl) (rfl))
set_option maxHeartbeats 4000000 in
set_option maxRecDepth 100000 in
theorem c_X7_set (G : GG) (l : Launch) (y_ : Nat) (ca : Nat → Nat) (ke : Nat) (ty_ : Nat) (th : Nat) (po : Nat) (fl_ : Prop) (tl : Nat) (T : TS) (f_ : Nat → Int64) (Ss : Nat → TS) (k_ : Nat) (v_ : Nat) (jk6 : ke ≤ 6) (jpf : PF f_ ke Ss) (jk : k_ < 2) (jv : 1 ≤ v_) (jv2 : k_ = 0 → v_ ≤ 20) (jv3 : v_ ≤ 999) : Cr G l yX7_set wsX7_set ({ frames := 1, cells := 0, slots := 0, locals := 25 }) 0 0 [.ref y_, .int (nI k_), .int (nI v_)] [(y_, .inr (7, [.ref (ca 0), .ref (ca 1), .ref (ca 2), .int (nI ke), .ref (ca 3), .int (nI ty_), .int (nI th), .int (nI po), .int (bI fl_), .ref (ca 4), .int (nI tl), .ref (ca 5)])), (ca 0, .inl (G.2.2.1, 103, .inr (.inl (mV T)))), (ca 2, .inl (G.2.2.1, 618, .inr (.inl (f_))))] (fun (vv1 : Option Value) (ww1 : va_W) => ∃ (f9_ : Nat → Int64), vv1 = (some (.int (nI (T.s k_)))) ∧ ww1 = [(y_, .inr (7, [.ref (ca 0), .ref (ca 1), .ref (ca 2), .int (nI (mn6 ke)), .ref (ca 3), .int (nI ty_), .int (nI 0), .int (nI po), .int (bI fl_), .ref (ca 4), .int (nI tl), .ref (ca 5)])), (ca 0, .inl (G.2.2.1, 103, .inr (.inl (mV (T.setS k_ v_))))), (ca 2, .inl (G.2.2.1, 618, .inr (.inl (f9_))))] ∧ (PF f9_ (mn6 ke) (svS Ss ke T))) := by
  refine cr_intro (cc := cX7_set) (maxL := 3) (ret := (some .int)) (own := RX7) (by decide) rfl rfl (Nat.le_of_ble_eq_true rfl) ?_
  intro p e s m args below meth c A hx hb hr hml hts hown hlocks hnm hNX hP hK hD hA hS ls hl
  obtain ⟨RR, hRR⟩ : ∃ RR, RR = (fun (vv1 : Option Value) (ww1 : va_W) => ∃ (f9_ : Nat → Int64), vv1 = (some (.int (nI (T.s k_)))) ∧ ww1 = [(y_, .inr (7, [.ref (ca 0), .ref (ca 1), .ref (ca 2), .int (nI (mn6 ke)), .ref (ca 3), .int (nI ty_), .int (nI 0), .int (nI po), .int (bI fl_), .ref (ca 4), .int (nI tl), .ref (ca 5)])), (ca 0, .inl (G.2.2.1, 103, .inr (.inl (mV (T.setS k_ v_))))), (ca 2, .inl (G.2.2.1, 618, .inr (.inl (f9_))))] ∧ (PF f9_ (mn6 ke) (svS Ss ke T))) := ⟨_, rfl⟩
  rw [← hRR]
  have hl : lv_has ls 3 [(0, .ref y_), (1, .int (nI k_)), (2, .int (nI v_))] := hl
  have hin7 : ∀ w ∈ u_ws RX7 TX7 12, w ∈ wsX7_set := fun w h => List.mem_cons_of_mem _ (List.mem_append_right _ h)
  refine lv_aload_n hx hb dX7_set_0 rfl (lv_at hl 0 rfl) ?_
  refine lv_iconst (v := nI 0) hx hb dX7_set_1 (by decide) ?_
  refine va_put (D := G.1) (ci := 7) (v := .int (nI 0)) (ty := .int) (C := RX7) (T := TX7) (N := 12) hx hb hts hin7 tyX7 tyX7_ok nmX7 hown hK hP hD hS 0 rfl rfl 6 (by decide) (hts (.fieldLink RX7 39 "PowerTablesModel" "thrown" "I") (List.mem_of_getElem? (i := 1) rfl)) (fun _ h9 => h9) rfl (tyX7_ok 6 (by decide)) rfl rfl (Nat.le_of_ble_eq_true rfl) dX7_set_2 (fun Hq lcq hP hD hS => ?_)
  have hP : va_P G.1 vwCl [(y_, .inr (7, [.ref (ca 0), .ref (ca 1), .ref (ca 2), .int (nI ke), .ref (ca 3), .int (nI ty_), .int (nI 0), .int (nI po), .int (bI fl_), .ref (ca 4), .int (nI tl), .ref (ca 5)])), (ca 0, .inl (G.2.2.1, 103, .inr (.inl (mV T)))), (ca 2, .inl (G.2.2.1, 618, .inr (.inl (f_))))] _ := hP
  have hD : va_D A [(y_, .inr (7, [.ref (ca 0), .ref (ca 1), .ref (ca 2), .int (nI ke), .ref (ca 3), .int (nI ty_), .int (nI 0), .int (nI po), .int (bI fl_), .ref (ca 4), .int (nI tl), .ref (ca 5)])), (ca 0, .inl (G.2.2.1, 103, .inr (.inl (mV T)))), (ca 2, .inl (G.2.2.1, 618, .inr (.inl (f_))))] := hD
  refine lv_iload_n hx hb dX7_set_5 rfl (lv_at hl 1 rfl) ?_
  refine ks_i2lN hx hb dX7_set_6 (by omega) ?_
  refine lv_lconst (v := lN 0) hx hb dX7_set_7 rfl ?_
  refine lv_lconst (v := lN 1) hx hb dX7_set_8 rfl ?_
  refine cr_S (wr := [(y_, .inr (7, [.ref (ca 0), .ref (ca 1), .ref (ca 2), .int (nI ke), .ref (ca 3), .int (nI ty_), .int (nI 0), .int (nI po), .int (bI fl_), .ref (ca 4), .int (nI tl), .ref (ca 5)])), (ca 0, .inl (G.2.2.1, 103, .inr (.inl (mV T)))), (ca 2, .inl (G.2.2.1, 618, .inr (.inl (f_))))]) (As := [.long (lN k_), .long (lN 0), .long (lN 1)]) (rest := []) ⟨hx, hb, hml, hown, hts⟩ (c_X7_in__n G l k_ 0 1 (by omega) (by omega) (by omega)) (va_cwS 3 hts gX7_set_X7_in rfl rfl rfl (by decide +kernel) ⟨Nat.le_of_ble_eq_true rfl, Nat.le_of_ble_eq_true rfl⟩) dX7_set_9 hK hNX hP hD hS hA hl [] [0, 1, 2] rfl rfl rfl rfl (by decide) rfl (Nat.le_of_ble_eq_true rfl) ⟨Nat.le_of_ble_eq_true rfl, Nat.le_of_ble_eq_true rfl⟩ rfl (fun v' w' Hq lcq hR' hP hD hS => ?_)
  obtain ⟨rfl, rfl⟩ := hR'
  have hP : va_P G.1 vwCl [(y_, .inr (7, [.ref (ca 0), .ref (ca 1), .ref (ca 2), .int (nI ke), .ref (ca 3), .int (nI ty_), .int (nI 0), .int (nI po), .int (bI fl_), .ref (ca 4), .int (nI tl), .ref (ca 5)])), (ca 0, .inl (G.2.2.1, 103, .inr (.inl (mV T)))), (ca 2, .inl (G.2.2.1, 618, .inr (.inl (f_))))] _ := hP.sub [0, 1, 2] rfl
  have hD : va_D A [(y_, .inr (7, [.ref (ca 0), .ref (ca 1), .ref (ca 2), .int (nI ke), .ref (ca 3), .int (nI ty_), .int (nI 0), .int (nI po), .int (bI fl_), .ref (ca 4), .int (nI tl), .ref (ca 5)])), (ca 0, .inl (G.2.2.1, 103, .inr (.inl (mV T)))), (ca 2, .inl (G.2.2.1, 618, .inr (.inl (f_))))] := hD.sub [0, 1, 2] (by decide +kernel) rfl
  refine ks_ifb_ne (tgt := 21) hx hb dX7_set_12 (by decide) (fun c_12 => ?_) (fun c_12 => ?_)
  · refine lv_iload_n hx hb dX7_set_21 rfl (lv_at hl 2 rfl) ?_
    refine ks_i2lN hx hb dX7_set_22 (by omega) ?_
    refine lv_lconst (v := lN 1) hx hb dX7_set_23 rfl ?_
    refine lv_iload_n hx hb dX7_set_24 rfl (lv_at hl 1 rfl) ?_
    refine ks_if_ne (tgt := 34) hx hb dX7_set_25 (by decide) (by omega) (fun c_25 => ?_) (fun c_25 => ?_)
    · refine lv_ldc2 hx hb hown (hts (.constantLong RX7 113 (999)) (List.mem_of_getElem? (i := 3) rfl)) dX7_set_34 ?_
      refine ks_vL (show (999 : Int64) = lN 999 from rfl) ?_
      refine cr_S (wr := [(y_, .inr (7, [.ref (ca 0), .ref (ca 1), .ref (ca 2), .int (nI ke), .ref (ca 3), .int (nI ty_), .int (nI 0), .int (nI po), .int (bI fl_), .ref (ca 4), .int (nI tl), .ref (ca 5)])), (ca 0, .inl (G.2.2.1, 103, .inr (.inl (mV T)))), (ca 2, .inl (G.2.2.1, 618, .inr (.inl (f_))))]) (As := [.long (lN v_), .long (lN 1), .long (lN 999)]) (rest := []) ⟨hx, hb, hml, hown, hts⟩ (c_X7_in__n G l v_ 1 999 (by omega) (by omega) (by omega)) (va_cwS 3 hts gX7_set_X7_in rfl rfl rfl (by decide +kernel) ⟨Nat.le_of_ble_eq_true rfl, Nat.le_of_ble_eq_true rfl⟩) dX7_set_37 hK hNX hP hD hS hA hl [] [0, 1, 2] rfl rfl rfl rfl (by decide) rfl (Nat.le_of_ble_eq_true rfl) ⟨Nat.le_of_ble_eq_true rfl, Nat.le_of_ble_eq_true rfl⟩ rfl (fun v' w' Hq lcq hR' hP hD hS => ?_)
      obtain ⟨rfl, rfl⟩ := hR'
      have hP : va_P G.1 vwCl [(y_, .inr (7, [.ref (ca 0), .ref (ca 1), .ref (ca 2), .int (nI ke), .ref (ca 3), .int (nI ty_), .int (nI 0), .int (nI po), .int (bI fl_), .ref (ca 4), .int (nI tl), .ref (ca 5)])), (ca 0, .inl (G.2.2.1, 103, .inr (.inl (mV T)))), (ca 2, .inl (G.2.2.1, 618, .inr (.inl (f_))))] _ := hP.sub [0, 1, 2] rfl
      have hD : va_D A [(y_, .inr (7, [.ref (ca 0), .ref (ca 1), .ref (ca 2), .int (nI ke), .ref (ca 3), .int (nI ty_), .int (nI 0), .int (nI po), .int (bI fl_), .ref (ca 4), .int (nI tl), .ref (ca 5)])), (ca 0, .inl (G.2.2.1, 103, .inr (.inl (mV T)))), (ca 2, .inl (G.2.2.1, 618, .inr (.inl (f_))))] := hD.sub [0, 1, 2] (by decide +kernel) rfl
      refine ks_ifb_ne (tgt := 49) hx hb dX7_set_40 (by decide) (fun c_40 => ?_) (fun c_40 => ?_)
      · refine lv_aload_n hx hb dX7_set_49 rfl (lv_at hl 0 rfl) ?_
        refine cr_V (wr := []) (As := []) (rest := []) ⟨hx, hb, hml, hown, hts⟩ (c_X7_saves G l y_ ca ke ty_ 0 po fl_ tl T f_ Ss (by omega) (jpf)) (cwV 0 hts gX7_set_X7_saves rfl rfl rfl (by decide +kernel) ⟨Nat.le_of_ble_eq_true rfl, Nat.le_of_ble_eq_true rfl⟩) dX7_set_50 hK hNX hP hD hS hA hl 0 7 rfl rfl rfl [0, 1, 2] [] rfl rfl rfl rfl (by decide) rfl (Nat.le_of_ble_eq_true rfl) ⟨Nat.le_of_ble_eq_true rfl, Nat.le_of_ble_eq_true rfl⟩ rfl (fun v' w' Hq lcq hR' hP hD hS => ?_)
        obtain ⟨f9_50, rfl, rfl, jq_50⟩ := hR'
        have hP : va_P G.1 vwCl [(y_, .inr (7, [.ref (ca 0), .ref (ca 1), .ref (ca 2), .int (nI (mn6 ke)), .ref (ca 3), .int (nI ty_), .int (nI 0), .int (nI po), .int (bI fl_), .ref (ca 4), .int (nI tl), .ref (ca 5)])), (ca 0, .inl (G.2.2.1, 103, .inr (.inl (mV T)))), (ca 2, .inl (G.2.2.1, 618, .inr (.inl (f9_50))))] _ := hP.sub [0, 1, 2] rfl
        have hD : va_D A [(y_, .inr (7, [.ref (ca 0), .ref (ca 1), .ref (ca 2), .int (nI (mn6 ke)), .ref (ca 3), .int (nI ty_), .int (nI 0), .int (nI po), .int (bI fl_), .ref (ca 4), .int (nI tl), .ref (ca 5)])), (ca 0, .inl (G.2.2.1, 103, .inr (.inl (mV T)))), (ca 2, .inl (G.2.2.1, 618, .inr (.inl (f9_50))))] := hD.sub [0, 1, 2] (by decide +kernel) rfl
        refine lv_aload_n hx hb dX7_set_53 rfl (lv_at hl 0 rfl) ?_
        refine lv_iload_n hx hb dX7_set_54 rfl (lv_at hl 1 rfl) ?_
        refine lv_iload_n hx hb dX7_set_55 rfl (lv_at hl 2 rfl) ?_
        refine cr_V (wr := [(ca 2, .inl (G.2.2.1, 618, .inr (.inl (f9_50))))]) (As := [.int (nI k_), .int (nI v_)]) (rest := []) ⟨hx, hb, hml, hown, hts⟩ (c_X7_changes__s G l y_ ca (mn6 ke) ty_ 0 po fl_ tl T k_ v_ (by omega) (by omega)) (cwV 2 hts gX7_set_X7_changes rfl rfl rfl (by decide +kernel) ⟨Nat.le_of_ble_eq_true rfl, Nat.le_of_ble_eq_true rfl⟩) dX7_set_56 hK hNX hP hD hS hA hl 0 7 rfl rfl rfl [0, 1] [2] rfl rfl rfl rfl (by decide) rfl (Nat.le_of_ble_eq_true rfl) ⟨Nat.le_of_ble_eq_true rfl, Nat.le_of_ble_eq_true rfl⟩ rfl (fun v' w' Hq lcq hR' hP hD hS => ?_)
        obtain ⟨rfl, rfl⟩ := hR'
        have hP : va_P G.1 vwCl [(y_, .inr (7, [.ref (ca 0), .ref (ca 1), .ref (ca 2), .int (nI (mn6 ke)), .ref (ca 3), .int (nI ty_), .int (nI 0), .int (nI po), .int (bI fl_), .ref (ca 4), .int (nI tl), .ref (ca 5)])), (ca 0, .inl (G.2.2.1, 103, .inr (.inl (mV (T.setS k_ v_))))), (ca 2, .inl (G.2.2.1, 618, .inr (.inl (f9_50))))] _ := hP.sub [1, 2, 0] rfl
        have hD : va_D A [(y_, .inr (7, [.ref (ca 0), .ref (ca 1), .ref (ca 2), .int (nI (mn6 ke)), .ref (ca 3), .int (nI ty_), .int (nI 0), .int (nI po), .int (bI fl_), .ref (ca 4), .int (nI tl), .ref (ca 5)])), (ca 0, .inl (G.2.2.1, 103, .inr (.inl (mV (T.setS k_ v_))))), (ca 2, .inl (G.2.2.1, 618, .inr (.inl (f9_50))))] := hD.sub [1, 2, 0] (by decide +kernel) rfl
        exact cr_iret hx hb hr hlocks hK hP hD hS dX7_set_59 (by rw [hRR]; exact ⟨f9_50, congrArg (fun z => some (Value.int z)) (rfl), rfl, jq_50⟩)
      · exact absurd ⟨jv, by omega⟩ c_40
    · refine lv_ldc2 hx hb hown (hts (.constantLong RX7 111 (20)) (List.mem_of_getElem? (i := 2) rfl)) dX7_set_28 ?_
      refine ks_vL (show (20 : Int64) = lN 20 from rfl) ?_
      refine lv_goto (tgt := 37) hx hb dX7_set_31 (by decide) ?_
      refine cr_S (wr := [(y_, .inr (7, [.ref (ca 0), .ref (ca 1), .ref (ca 2), .int (nI ke), .ref (ca 3), .int (nI ty_), .int (nI 0), .int (nI po), .int (bI fl_), .ref (ca 4), .int (nI tl), .ref (ca 5)])), (ca 0, .inl (G.2.2.1, 103, .inr (.inl (mV T)))), (ca 2, .inl (G.2.2.1, 618, .inr (.inl (f_))))]) (As := [.long (lN v_), .long (lN 1), .long (lN 20)]) (rest := []) ⟨hx, hb, hml, hown, hts⟩ (c_X7_in__n G l v_ 1 20 (by omega) (by omega) (by omega)) (va_cwS 3 hts gX7_set_X7_in rfl rfl rfl (by decide +kernel) ⟨Nat.le_of_ble_eq_true rfl, Nat.le_of_ble_eq_true rfl⟩) dX7_set_37 hK hNX hP hD hS hA hl [] [0, 1, 2] rfl rfl rfl rfl (by decide) rfl (Nat.le_of_ble_eq_true rfl) ⟨Nat.le_of_ble_eq_true rfl, Nat.le_of_ble_eq_true rfl⟩ rfl (fun v' w' Hq lcq hR' hP hD hS => ?_)
      obtain ⟨rfl, rfl⟩ := hR'
      have hP : va_P G.1 vwCl [(y_, .inr (7, [.ref (ca 0), .ref (ca 1), .ref (ca 2), .int (nI ke), .ref (ca 3), .int (nI ty_), .int (nI 0), .int (nI po), .int (bI fl_), .ref (ca 4), .int (nI tl), .ref (ca 5)])), (ca 0, .inl (G.2.2.1, 103, .inr (.inl (mV T)))), (ca 2, .inl (G.2.2.1, 618, .inr (.inl (f_))))] _ := hP.sub [0, 1, 2] rfl
      have hD : va_D A [(y_, .inr (7, [.ref (ca 0), .ref (ca 1), .ref (ca 2), .int (nI ke), .ref (ca 3), .int (nI ty_), .int (nI 0), .int (nI po), .int (bI fl_), .ref (ca 4), .int (nI tl), .ref (ca 5)])), (ca 0, .inl (G.2.2.1, 103, .inr (.inl (mV T)))), (ca 2, .inl (G.2.2.1, 618, .inr (.inl (f_))))] := hD.sub [0, 1, 2] (by decide +kernel) rfl
      refine ks_ifb_ne (tgt := 49) hx hb dX7_set_40 (by decide) (fun c_40 => ?_) (fun c_40 => ?_)
      · refine lv_aload_n hx hb dX7_set_49 rfl (lv_at hl 0 rfl) ?_
        refine cr_V (wr := []) (As := []) (rest := []) ⟨hx, hb, hml, hown, hts⟩ (c_X7_saves G l y_ ca ke ty_ 0 po fl_ tl T f_ Ss (by omega) (jpf)) (cwV 0 hts gX7_set_X7_saves rfl rfl rfl (by decide +kernel) ⟨Nat.le_of_ble_eq_true rfl, Nat.le_of_ble_eq_true rfl⟩) dX7_set_50 hK hNX hP hD hS hA hl 0 7 rfl rfl rfl [0, 1, 2] [] rfl rfl rfl rfl (by decide) rfl (Nat.le_of_ble_eq_true rfl) ⟨Nat.le_of_ble_eq_true rfl, Nat.le_of_ble_eq_true rfl⟩ rfl (fun v' w' Hq lcq hR' hP hD hS => ?_)
        obtain ⟨f9_50, rfl, rfl, jq_50⟩ := hR'
        have hP : va_P G.1 vwCl [(y_, .inr (7, [.ref (ca 0), .ref (ca 1), .ref (ca 2), .int (nI (mn6 ke)), .ref (ca 3), .int (nI ty_), .int (nI 0), .int (nI po), .int (bI fl_), .ref (ca 4), .int (nI tl), .ref (ca 5)])), (ca 0, .inl (G.2.2.1, 103, .inr (.inl (mV T)))), (ca 2, .inl (G.2.2.1, 618, .inr (.inl (f9_50))))] _ := hP.sub [0, 1, 2] rfl
        have hD : va_D A [(y_, .inr (7, [.ref (ca 0), .ref (ca 1), .ref (ca 2), .int (nI (mn6 ke)), .ref (ca 3), .int (nI ty_), .int (nI 0), .int (nI po), .int (bI fl_), .ref (ca 4), .int (nI tl), .ref (ca 5)])), (ca 0, .inl (G.2.2.1, 103, .inr (.inl (mV T)))), (ca 2, .inl (G.2.2.1, 618, .inr (.inl (f9_50))))] := hD.sub [0, 1, 2] (by decide +kernel) rfl
        refine lv_aload_n hx hb dX7_set_53 rfl (lv_at hl 0 rfl) ?_
        refine lv_iload_n hx hb dX7_set_54 rfl (lv_at hl 1 rfl) ?_
        refine lv_iload_n hx hb dX7_set_55 rfl (lv_at hl 2 rfl) ?_
        refine cr_V (wr := [(ca 2, .inl (G.2.2.1, 618, .inr (.inl (f9_50))))]) (As := [.int (nI k_), .int (nI v_)]) (rest := []) ⟨hx, hb, hml, hown, hts⟩ (c_X7_changes__s G l y_ ca (mn6 ke) ty_ 0 po fl_ tl T k_ v_ (by omega) (by omega)) (cwV 2 hts gX7_set_X7_changes rfl rfl rfl (by decide +kernel) ⟨Nat.le_of_ble_eq_true rfl, Nat.le_of_ble_eq_true rfl⟩) dX7_set_56 hK hNX hP hD hS hA hl 0 7 rfl rfl rfl [0, 1] [2] rfl rfl rfl rfl (by decide) rfl (Nat.le_of_ble_eq_true rfl) ⟨Nat.le_of_ble_eq_true rfl, Nat.le_of_ble_eq_true rfl⟩ rfl (fun v' w' Hq lcq hR' hP hD hS => ?_)
        obtain ⟨rfl, rfl⟩ := hR'
        have hP : va_P G.1 vwCl [(y_, .inr (7, [.ref (ca 0), .ref (ca 1), .ref (ca 2), .int (nI (mn6 ke)), .ref (ca 3), .int (nI ty_), .int (nI 0), .int (nI po), .int (bI fl_), .ref (ca 4), .int (nI tl), .ref (ca 5)])), (ca 0, .inl (G.2.2.1, 103, .inr (.inl (mV (T.setS k_ v_))))), (ca 2, .inl (G.2.2.1, 618, .inr (.inl (f9_50))))] _ := hP.sub [1, 2, 0] rfl
        have hD : va_D A [(y_, .inr (7, [.ref (ca 0), .ref (ca 1), .ref (ca 2), .int (nI (mn6 ke)), .ref (ca 3), .int (nI ty_), .int (nI 0), .int (nI po), .int (bI fl_), .ref (ca 4), .int (nI tl), .ref (ca 5)])), (ca 0, .inl (G.2.2.1, 103, .inr (.inl (mV (T.setS k_ v_))))), (ca 2, .inl (G.2.2.1, 618, .inr (.inl (f9_50))))] := hD.sub [1, 2, 0] (by decide +kernel) rfl
        exact cr_iret hx hb hr hlocks hK hP hD hS dX7_set_59 (by rw [hRR]; exact ⟨f9_50, congrArg (fun z => some (Value.int z)) (rfl), rfl, jq_50⟩)
      · exact absurd ⟨jv, by omega⟩ c_40
  · exact absurd ⟨Nat.zero_le _, by omega⟩ c_12
set_option maxHeartbeats 4000000 in
set_option maxRecDepth 100000 in
theorem c_X7_set__b1 (G : GG) (l : Launch) (y_ : Nat) (ca : Nat → Nat) (ke : Nat) (ty_ : Nat) (th : Nat) (po : Nat) (fl_ : Prop) (tl : Nat) (w_ : Int32) (v_ : Int32) (h8 : ¬ (0 ≤ w_.toInt ∧ w_.toInt ≤ 1)) : Cr G l yX7_set wsX7_set ({ frames := 1, cells := 0, slots := 0, locals := 25 }) 0 0 [.ref y_, .int w_, .int v_] [(y_, .inr (7, [.ref (ca 0), .ref (ca 1), .ref (ca 2), .int (nI ke), .ref (ca 3), .int (nI ty_), .int (nI th), .int (nI po), .int (bI fl_), .ref (ca 4), .int (nI tl), .ref (ca 5)]))] (ctR (some (.int (nI 0))) [(y_, .inr (7, [.ref (ca 0), .ref (ca 1), .ref (ca 2), .int (nI ke), .ref (ca 3), .int (nI ty_), .int (nI 1), .int (nI po), .int (bI fl_), .ref (ca 4), .int (nI tl), .ref (ca 5)]))]) := by
  refine cr_intro (cc := cX7_set) (maxL := 3) (ret := (some .int)) (own := RX7) (by decide) rfl rfl (Nat.le_of_ble_eq_true rfl) ?_
  intro p e s m args below meth c A hx hb hr hml hts hown hlocks hnm hNX hP hK hD hA hS ls hl
  obtain ⟨RR, hRR⟩ : ∃ RR, RR = (ctR (some (.int (nI 0))) [(y_, .inr (7, [.ref (ca 0), .ref (ca 1), .ref (ca 2), .int (nI ke), .ref (ca 3), .int (nI ty_), .int (nI 1), .int (nI po), .int (bI fl_), .ref (ca 4), .int (nI tl), .ref (ca 5)]))]) := ⟨_, rfl⟩
  rw [← hRR]
  have hl : lv_has ls 3 [(0, .ref y_), (1, .int w_), (2, .int v_)] := hl
  have hin7 : ∀ w_ ∈ u_ws RX7 TX7 12, w_ ∈ wsX7_set := fun w_ h => List.mem_cons_of_mem _ (List.mem_append_right _ h)
  refine lv_aload_n hx hb dX7_set_0 rfl (lv_at hl 0 rfl) ?_
  refine lv_iconst (v := nI 0) hx hb dX7_set_1 (by decide) ?_
  refine va_put (D := G.1) (ci := 7) (v := .int (nI 0)) (ty := .int) (C := RX7) (T := TX7) (N := 12) hx hb hts hin7 tyX7 tyX7_ok nmX7 hown hK hP hD hS 0 rfl rfl 6 (by decide) (hts (.fieldLink RX7 39 "PowerTablesModel" "thrown" "I") (List.mem_of_getElem? (i := 1) rfl)) (fun _ h9 => h9) rfl (tyX7_ok 6 (by decide)) rfl rfl (Nat.le_of_ble_eq_true rfl) dX7_set_2 (fun Hq lcq hP hD hS => ?_)
  have hP : va_P G.1 vwCl [(y_, .inr (7, [.ref (ca 0), .ref (ca 1), .ref (ca 2), .int (nI ke), .ref (ca 3), .int (nI ty_), .int (nI 0), .int (nI po), .int (bI fl_), .ref (ca 4), .int (nI tl), .ref (ca 5)]))] _ := hP
  have hD : va_D A [(y_, .inr (7, [.ref (ca 0), .ref (ca 1), .ref (ca 2), .int (nI ke), .ref (ca 3), .int (nI ty_), .int (nI 0), .int (nI po), .int (bI fl_), .ref (ca 4), .int (nI tl), .ref (ca 5)]))] := hD
  refine lv_iload_n hx hb dX7_set_5 rfl (lv_at hl 1 rfl) ?_
  refine lv_i2l hx hb dX7_set_6 rfl ?_
  refine lv_lconst (v := lN 0) hx hb dX7_set_7 rfl ?_
  refine lv_lconst (v := lN 1) hx hb dX7_set_8 rfl ?_
  refine cr_S (wr := [(y_, .inr (7, [.ref (ca 0), .ref (ca 1), .ref (ca 2), .int (nI ke), .ref (ca 3), .int (nI ty_), .int (nI 0), .int (nI po), .int (bI fl_), .ref (ca 4), .int (nI tl), .ref (ca 5)]))]) (As := [.long w_.toInt64, .long (lN 0), .long (lN 1)]) (rest := []) ⟨hx, hb, hml, hown, hts⟩ (c_X7_in__i G l w_ 0 1 (by omega) (by omega)) (va_cwS 3 hts gX7_set_X7_in rfl rfl rfl (by decide +kernel) ⟨Nat.le_of_ble_eq_true rfl, Nat.le_of_ble_eq_true rfl⟩) dX7_set_9 hK hNX hP hD hS hA hl [] [0] rfl rfl rfl rfl (by decide) rfl (Nat.le_of_ble_eq_true rfl) ⟨Nat.le_of_ble_eq_true rfl, Nat.le_of_ble_eq_true rfl⟩ rfl (fun v' w' Hq lcq hR' hP hD hS => ?_)
  obtain ⟨rfl, rfl⟩ := hR'
  have hP : va_P G.1 vwCl [(y_, .inr (7, [.ref (ca 0), .ref (ca 1), .ref (ca 2), .int (nI ke), .ref (ca 3), .int (nI ty_), .int (nI 0), .int (nI po), .int (bI fl_), .ref (ca 4), .int (nI tl), .ref (ca 5)]))] _ := hP.sub [0] rfl
  have hD : va_D A [(y_, .inr (7, [.ref (ca 0), .ref (ca 1), .ref (ca 2), .int (nI ke), .ref (ca 3), .int (nI ty_), .int (nI 0), .int (nI po), .int (bI fl_), .ref (ca 4), .int (nI tl), .ref (ca 5)]))] := hD.sub [0] (by decide +kernel) rfl
  refine ks_ifb_ne (tgt := 21) hx hb dX7_set_12 (by decide) (fun c_12 => ?_) (fun c_12 => ?_)
  · exact absurd c_12 h8
  · refine lv_aload_n hx hb dX7_set_15 rfl (lv_at hl 0 rfl) ?_
    refine lv_iconst (v := nI 1) hx hb dX7_set_16 (by decide) ?_
    refine cr_V (wr := []) (As := [.int (nI 1)]) (rest := []) ⟨hx, hb, hml, hown, hts⟩ (c_X7_fails G l y_ ca ke ty_ 0 po fl_ tl 1 ) (cwV 1 hts gX7_set_X7_fails rfl rfl rfl (by decide +kernel) ⟨Nat.le_of_ble_eq_true rfl, Nat.le_of_ble_eq_true rfl⟩) dX7_set_17 hK hNX hP hD hS hA hl 0 7 rfl rfl rfl [0] [] rfl rfl rfl rfl (by decide) rfl (Nat.le_of_ble_eq_true rfl) ⟨Nat.le_of_ble_eq_true rfl, Nat.le_of_ble_eq_true rfl⟩ rfl (fun v' w' Hq lcq hR' hP hD hS => ?_)
    obtain ⟨rfl, rfl⟩ := hR'
    have hP : va_P G.1 vwCl [(y_, .inr (7, [.ref (ca 0), .ref (ca 1), .ref (ca 2), .int (nI ke), .ref (ca 3), .int (nI ty_), .int (nI 1), .int (nI po), .int (bI fl_), .ref (ca 4), .int (nI tl), .ref (ca 5)]))] _ := hP.sub [0] rfl
    have hD : va_D A [(y_, .inr (7, [.ref (ca 0), .ref (ca 1), .ref (ca 2), .int (nI ke), .ref (ca 3), .int (nI ty_), .int (nI 1), .int (nI po), .int (bI fl_), .ref (ca 4), .int (nI tl), .ref (ca 5)]))] := hD.sub [0] (by decide +kernel) rfl
    exact cr_iret hx hb hr hlocks hK hP hD hS dX7_set_20 (by rw [hRR]; exact ctR_i (rfl) (rfl))
set_option maxHeartbeats 4000000 in
set_option maxRecDepth 100000 in
theorem c_X7_set__b2 (G : GG) (l : Launch) (y_ : Nat) (ca : Nat → Nat) (ke : Nat) (ty_ : Nat) (th : Nat) (po : Nat) (fl_ : Prop) (tl : Nat) (v_ : Int32) (h8 : ¬ (1 ≤ v_.toInt ∧ v_.toInt ≤ 20)) : Cr G l yX7_set wsX7_set ({ frames := 1, cells := 0, slots := 0, locals := 25 }) 0 0 [.ref y_, .int (nI 0), .int v_] [(y_, .inr (7, [.ref (ca 0), .ref (ca 1), .ref (ca 2), .int (nI ke), .ref (ca 3), .int (nI ty_), .int (nI th), .int (nI po), .int (bI fl_), .ref (ca 4), .int (nI tl), .ref (ca 5)]))] (ctR (some (.int (nI 0))) [(y_, .inr (7, [.ref (ca 0), .ref (ca 1), .ref (ca 2), .int (nI ke), .ref (ca 3), .int (nI ty_), .int (nI 2), .int (nI po), .int (bI fl_), .ref (ca 4), .int (nI tl), .ref (ca 5)]))]) := by
  refine cr_intro (cc := cX7_set) (maxL := 3) (ret := (some .int)) (own := RX7) (by decide) rfl rfl (Nat.le_of_ble_eq_true rfl) ?_
  intro p e s m args below meth c A hx hb hr hml hts hown hlocks hnm hNX hP hK hD hA hS ls hl
  obtain ⟨RR, hRR⟩ : ∃ RR, RR = (ctR (some (.int (nI 0))) [(y_, .inr (7, [.ref (ca 0), .ref (ca 1), .ref (ca 2), .int (nI ke), .ref (ca 3), .int (nI ty_), .int (nI 2), .int (nI po), .int (bI fl_), .ref (ca 4), .int (nI tl), .ref (ca 5)]))]) := ⟨_, rfl⟩
  rw [← hRR]
  have hl : lv_has ls 3 [(0, .ref y_), (1, .int (nI 0)), (2, .int v_)] := hl
  have hin7 : ∀ w ∈ u_ws RX7 TX7 12, w ∈ wsX7_set := fun w h => List.mem_cons_of_mem _ (List.mem_append_right _ h)
  refine lv_aload_n hx hb dX7_set_0 rfl (lv_at hl 0 rfl) ?_
  refine lv_iconst (v := nI 0) hx hb dX7_set_1 (by decide) ?_
  refine va_put (D := G.1) (ci := 7) (v := .int (nI 0)) (ty := .int) (C := RX7) (T := TX7) (N := 12) hx hb hts hin7 tyX7 tyX7_ok nmX7 hown hK hP hD hS 0 rfl rfl 6 (by decide) (hts (.fieldLink RX7 39 "PowerTablesModel" "thrown" "I") (List.mem_of_getElem? (i := 1) rfl)) (fun _ h9 => h9) rfl (tyX7_ok 6 (by decide)) rfl rfl (Nat.le_of_ble_eq_true rfl) dX7_set_2 (fun Hq lcq hP hD hS => ?_)
  have hP : va_P G.1 vwCl [(y_, .inr (7, [.ref (ca 0), .ref (ca 1), .ref (ca 2), .int (nI ke), .ref (ca 3), .int (nI ty_), .int (nI 0), .int (nI po), .int (bI fl_), .ref (ca 4), .int (nI tl), .ref (ca 5)]))] _ := hP
  have hD : va_D A [(y_, .inr (7, [.ref (ca 0), .ref (ca 1), .ref (ca 2), .int (nI ke), .ref (ca 3), .int (nI ty_), .int (nI 0), .int (nI po), .int (bI fl_), .ref (ca 4), .int (nI tl), .ref (ca 5)]))] := hD
  refine lv_iload_n hx hb dX7_set_5 rfl (lv_at hl 1 rfl) ?_
  refine ks_i2lN hx hb dX7_set_6 (by omega) ?_
  refine lv_lconst (v := lN 0) hx hb dX7_set_7 rfl ?_
  refine lv_lconst (v := lN 1) hx hb dX7_set_8 rfl ?_
  refine cr_S (wr := [(y_, .inr (7, [.ref (ca 0), .ref (ca 1), .ref (ca 2), .int (nI ke), .ref (ca 3), .int (nI ty_), .int (nI 0), .int (nI po), .int (bI fl_), .ref (ca 4), .int (nI tl), .ref (ca 5)]))]) (As := [.long (lN 0), .long (lN 0), .long (lN 1)]) (rest := []) ⟨hx, hb, hml, hown, hts⟩ (c_X7_in__n G l 0 0 1 (by omega) (by omega) (by omega)) (va_cwS 3 hts gX7_set_X7_in rfl rfl rfl (by decide +kernel) ⟨Nat.le_of_ble_eq_true rfl, Nat.le_of_ble_eq_true rfl⟩) dX7_set_9 hK hNX hP hD hS hA hl [] [0] rfl rfl rfl rfl (by decide) rfl (Nat.le_of_ble_eq_true rfl) ⟨Nat.le_of_ble_eq_true rfl, Nat.le_of_ble_eq_true rfl⟩ rfl (fun v' w' Hq lcq hR' hP hD hS => ?_)
  obtain ⟨rfl, rfl⟩ := hR'
  have hP : va_P G.1 vwCl [(y_, .inr (7, [.ref (ca 0), .ref (ca 1), .ref (ca 2), .int (nI ke), .ref (ca 3), .int (nI ty_), .int (nI 0), .int (nI po), .int (bI fl_), .ref (ca 4), .int (nI tl), .ref (ca 5)]))] _ := hP.sub [0] rfl
  have hD : va_D A [(y_, .inr (7, [.ref (ca 0), .ref (ca 1), .ref (ca 2), .int (nI ke), .ref (ca 3), .int (nI ty_), .int (nI 0), .int (nI po), .int (bI fl_), .ref (ca 4), .int (nI tl), .ref (ca 5)]))] := hD.sub [0] (by decide +kernel) rfl
  refine ks_ifb_ne (tgt := 21) hx hb dX7_set_12 (by decide) (fun c_12 => ?_) (fun c_12 => ?_)
  · refine lv_iload_n hx hb dX7_set_21 rfl (lv_at hl 2 rfl) ?_
    refine lv_i2l hx hb dX7_set_22 rfl ?_
    refine lv_lconst (v := lN 1) hx hb dX7_set_23 rfl ?_
    refine lv_iload_n hx hb dX7_set_24 rfl (lv_at hl 1 rfl) ?_
    refine ks_if_ne (tgt := 34) hx hb dX7_set_25 (by decide) (by omega) (fun c_25 => ?_) (fun c_25 => ?_)
    · omega
    · refine lv_ldc2 hx hb hown (hts (.constantLong RX7 111 (20)) (List.mem_of_getElem? (i := 2) rfl)) dX7_set_28 ?_
      refine ks_vL (show (20 : Int64) = lN 20 from rfl) ?_
      refine lv_goto (tgt := 37) hx hb dX7_set_31 (by decide) ?_
      refine cr_S (wr := [(y_, .inr (7, [.ref (ca 0), .ref (ca 1), .ref (ca 2), .int (nI ke), .ref (ca 3), .int (nI ty_), .int (nI 0), .int (nI po), .int (bI fl_), .ref (ca 4), .int (nI tl), .ref (ca 5)]))]) (As := [.long v_.toInt64, .long (lN 1), .long (lN 20)]) (rest := []) ⟨hx, hb, hml, hown, hts⟩ (c_X7_in__i G l v_ 1 20 (by omega) (by omega)) (va_cwS 3 hts gX7_set_X7_in rfl rfl rfl (by decide +kernel) ⟨Nat.le_of_ble_eq_true rfl, Nat.le_of_ble_eq_true rfl⟩) dX7_set_37 hK hNX hP hD hS hA hl [] [0] rfl rfl rfl rfl (by decide) rfl (Nat.le_of_ble_eq_true rfl) ⟨Nat.le_of_ble_eq_true rfl, Nat.le_of_ble_eq_true rfl⟩ rfl (fun v' w' Hq lcq hR' hP hD hS => ?_)
      obtain ⟨rfl, rfl⟩ := hR'
      have hP : va_P G.1 vwCl [(y_, .inr (7, [.ref (ca 0), .ref (ca 1), .ref (ca 2), .int (nI ke), .ref (ca 3), .int (nI ty_), .int (nI 0), .int (nI po), .int (bI fl_), .ref (ca 4), .int (nI tl), .ref (ca 5)]))] _ := hP.sub [0] rfl
      have hD : va_D A [(y_, .inr (7, [.ref (ca 0), .ref (ca 1), .ref (ca 2), .int (nI ke), .ref (ca 3), .int (nI ty_), .int (nI 0), .int (nI po), .int (bI fl_), .ref (ca 4), .int (nI tl), .ref (ca 5)]))] := hD.sub [0] (by decide +kernel) rfl
      refine ks_ifb_ne (tgt := 49) hx hb dX7_set_40 (by decide) (fun c_40 => ?_) (fun c_40 => ?_)
      · exact absurd c_40 h8
      · refine lv_aload_n hx hb dX7_set_43 rfl (lv_at hl 0 rfl) ?_
        refine lv_iconst (v := nI 2) hx hb dX7_set_44 (by decide) ?_
        refine cr_V (wr := []) (As := [.int (nI 2)]) (rest := []) ⟨hx, hb, hml, hown, hts⟩ (c_X7_fails G l y_ ca ke ty_ 0 po fl_ tl 2 ) (cwV 1 hts gX7_set_X7_fails rfl rfl rfl (by decide +kernel) ⟨Nat.le_of_ble_eq_true rfl, Nat.le_of_ble_eq_true rfl⟩) dX7_set_45 hK hNX hP hD hS hA hl 0 7 rfl rfl rfl [0] [] rfl rfl rfl rfl (by decide) rfl (Nat.le_of_ble_eq_true rfl) ⟨Nat.le_of_ble_eq_true rfl, Nat.le_of_ble_eq_true rfl⟩ rfl (fun v' w' Hq lcq hR' hP hD hS => ?_)
        obtain ⟨rfl, rfl⟩ := hR'
        have hP : va_P G.1 vwCl [(y_, .inr (7, [.ref (ca 0), .ref (ca 1), .ref (ca 2), .int (nI ke), .ref (ca 3), .int (nI ty_), .int (nI 2), .int (nI po), .int (bI fl_), .ref (ca 4), .int (nI tl), .ref (ca 5)]))] _ := hP.sub [0] rfl
        have hD : va_D A [(y_, .inr (7, [.ref (ca 0), .ref (ca 1), .ref (ca 2), .int (nI ke), .ref (ca 3), .int (nI ty_), .int (nI 2), .int (nI po), .int (bI fl_), .ref (ca 4), .int (nI tl), .ref (ca 5)]))] := hD.sub [0] (by decide +kernel) rfl
        exact cr_iret hx hb hr hlocks hK hP hD hS dX7_set_48 (by rw [hRR]; exact ctR_i (rfl) (rfl))
  · exact absurd ⟨by omega, by omega⟩ c_12
set_option maxHeartbeats 4000000 in
set_option maxRecDepth 100000 in
theorem c_X7_set__b3 (G : GG) (l : Launch) (y_ : Nat) (ca : Nat → Nat) (ke : Nat) (ty_ : Nat) (th : Nat) (po : Nat) (fl_ : Prop) (tl : Nat) (v_ : Int32) (h8 : ¬ (1 ≤ v_.toInt ∧ v_.toInt ≤ 999)) : Cr G l yX7_set wsX7_set ({ frames := 1, cells := 0, slots := 0, locals := 25 }) 0 0 [.ref y_, .int (nI 1), .int v_] [(y_, .inr (7, [.ref (ca 0), .ref (ca 1), .ref (ca 2), .int (nI ke), .ref (ca 3), .int (nI ty_), .int (nI th), .int (nI po), .int (bI fl_), .ref (ca 4), .int (nI tl), .ref (ca 5)]))] (ctR (some (.int (nI 0))) [(y_, .inr (7, [.ref (ca 0), .ref (ca 1), .ref (ca 2), .int (nI ke), .ref (ca 3), .int (nI ty_), .int (nI 2), .int (nI po), .int (bI fl_), .ref (ca 4), .int (nI tl), .ref (ca 5)]))]) := by
  refine cr_intro (cc := cX7_set) (maxL := 3) (ret := (some .int)) (own := RX7) (by decide) rfl rfl (Nat.le_of_ble_eq_true rfl) ?_
  intro p e s m args below meth c A hx hb hr hml hts hown hlocks hnm hNX hP hK hD hA hS ls hl
  obtain ⟨RR, hRR⟩ : ∃ RR, RR = (ctR (some (.int (nI 0))) [(y_, .inr (7, [.ref (ca 0), .ref (ca 1), .ref (ca 2), .int (nI ke), .ref (ca 3), .int (nI ty_), .int (nI 2), .int (nI po), .int (bI fl_), .ref (ca 4), .int (nI tl), .ref (ca 5)]))]) := ⟨_, rfl⟩
  rw [← hRR]
  have hl : lv_has ls 3 [(0, .ref y_), (1, .int (nI 1)), (2, .int v_)] := hl
  have hin7 : ∀ w ∈ u_ws RX7 TX7 12, w ∈ wsX7_set := fun w h => List.mem_cons_of_mem _ (List.mem_append_right _ h)
  refine lv_aload_n hx hb dX7_set_0 rfl (lv_at hl 0 rfl) ?_
  refine lv_iconst (v := nI 0) hx hb dX7_set_1 (by decide) ?_
  refine va_put (D := G.1) (ci := 7) (v := .int (nI 0)) (ty := .int) (C := RX7) (T := TX7) (N := 12) hx hb hts hin7 tyX7 tyX7_ok nmX7 hown hK hP hD hS 0 rfl rfl 6 (by decide) (hts (.fieldLink RX7 39 "PowerTablesModel" "thrown" "I") (List.mem_of_getElem? (i := 1) rfl)) (fun _ h9 => h9) rfl (tyX7_ok 6 (by decide)) rfl rfl (Nat.le_of_ble_eq_true rfl) dX7_set_2 (fun Hq lcq hP hD hS => ?_)
  have hP : va_P G.1 vwCl [(y_, .inr (7, [.ref (ca 0), .ref (ca 1), .ref (ca 2), .int (nI ke), .ref (ca 3), .int (nI ty_), .int (nI 0), .int (nI po), .int (bI fl_), .ref (ca 4), .int (nI tl), .ref (ca 5)]))] _ := hP
  have hD : va_D A [(y_, .inr (7, [.ref (ca 0), .ref (ca 1), .ref (ca 2), .int (nI ke), .ref (ca 3), .int (nI ty_), .int (nI 0), .int (nI po), .int (bI fl_), .ref (ca 4), .int (nI tl), .ref (ca 5)]))] := hD
  refine lv_iload_n hx hb dX7_set_5 rfl (lv_at hl 1 rfl) ?_
  refine ks_i2lN hx hb dX7_set_6 (by omega) ?_
  refine lv_lconst (v := lN 0) hx hb dX7_set_7 rfl ?_
  refine lv_lconst (v := lN 1) hx hb dX7_set_8 rfl ?_
  refine cr_S (wr := [(y_, .inr (7, [.ref (ca 0), .ref (ca 1), .ref (ca 2), .int (nI ke), .ref (ca 3), .int (nI ty_), .int (nI 0), .int (nI po), .int (bI fl_), .ref (ca 4), .int (nI tl), .ref (ca 5)]))]) (As := [.long (lN 1), .long (lN 0), .long (lN 1)]) (rest := []) ⟨hx, hb, hml, hown, hts⟩ (c_X7_in__n G l 1 0 1 (by omega) (by omega) (by omega)) (va_cwS 3 hts gX7_set_X7_in rfl rfl rfl (by decide +kernel) ⟨Nat.le_of_ble_eq_true rfl, Nat.le_of_ble_eq_true rfl⟩) dX7_set_9 hK hNX hP hD hS hA hl [] [0] rfl rfl rfl rfl (by decide) rfl (Nat.le_of_ble_eq_true rfl) ⟨Nat.le_of_ble_eq_true rfl, Nat.le_of_ble_eq_true rfl⟩ rfl (fun v' w' Hq lcq hR' hP hD hS => ?_)
  obtain ⟨rfl, rfl⟩ := hR'
  have hP : va_P G.1 vwCl [(y_, .inr (7, [.ref (ca 0), .ref (ca 1), .ref (ca 2), .int (nI ke), .ref (ca 3), .int (nI ty_), .int (nI 0), .int (nI po), .int (bI fl_), .ref (ca 4), .int (nI tl), .ref (ca 5)]))] _ := hP.sub [0] rfl
  have hD : va_D A [(y_, .inr (7, [.ref (ca 0), .ref (ca 1), .ref (ca 2), .int (nI ke), .ref (ca 3), .int (nI ty_), .int (nI 0), .int (nI po), .int (bI fl_), .ref (ca 4), .int (nI tl), .ref (ca 5)]))] := hD.sub [0] (by decide +kernel) rfl
  refine ks_ifb_ne (tgt := 21) hx hb dX7_set_12 (by decide) (fun c_12 => ?_) (fun c_12 => ?_)
  · refine lv_iload_n hx hb dX7_set_21 rfl (lv_at hl 2 rfl) ?_
    refine lv_i2l hx hb dX7_set_22 rfl ?_
    refine lv_lconst (v := lN 1) hx hb dX7_set_23 rfl ?_
    refine lv_iload_n hx hb dX7_set_24 rfl (lv_at hl 1 rfl) ?_
    refine ks_if_ne (tgt := 34) hx hb dX7_set_25 (by decide) (by omega) (fun c_25 => ?_) (fun c_25 => ?_)
    · refine lv_ldc2 hx hb hown (hts (.constantLong RX7 113 (999)) (List.mem_of_getElem? (i := 3) rfl)) dX7_set_34 ?_
      refine ks_vL (show (999 : Int64) = lN 999 from rfl) ?_
      refine cr_S (wr := [(y_, .inr (7, [.ref (ca 0), .ref (ca 1), .ref (ca 2), .int (nI ke), .ref (ca 3), .int (nI ty_), .int (nI 0), .int (nI po), .int (bI fl_), .ref (ca 4), .int (nI tl), .ref (ca 5)]))]) (As := [.long v_.toInt64, .long (lN 1), .long (lN 999)]) (rest := []) ⟨hx, hb, hml, hown, hts⟩ (c_X7_in__i G l v_ 1 999 (by omega) (by omega)) (va_cwS 3 hts gX7_set_X7_in rfl rfl rfl (by decide +kernel) ⟨Nat.le_of_ble_eq_true rfl, Nat.le_of_ble_eq_true rfl⟩) dX7_set_37 hK hNX hP hD hS hA hl [] [0] rfl rfl rfl rfl (by decide) rfl (Nat.le_of_ble_eq_true rfl) ⟨Nat.le_of_ble_eq_true rfl, Nat.le_of_ble_eq_true rfl⟩ rfl (fun v' w' Hq lcq hR' hP hD hS => ?_)
      obtain ⟨rfl, rfl⟩ := hR'
      have hP : va_P G.1 vwCl [(y_, .inr (7, [.ref (ca 0), .ref (ca 1), .ref (ca 2), .int (nI ke), .ref (ca 3), .int (nI ty_), .int (nI 0), .int (nI po), .int (bI fl_), .ref (ca 4), .int (nI tl), .ref (ca 5)]))] _ := hP.sub [0] rfl
      have hD : va_D A [(y_, .inr (7, [.ref (ca 0), .ref (ca 1), .ref (ca 2), .int (nI ke), .ref (ca 3), .int (nI ty_), .int (nI 0), .int (nI po), .int (bI fl_), .ref (ca 4), .int (nI tl), .ref (ca 5)]))] := hD.sub [0] (by decide +kernel) rfl
      refine ks_ifb_ne (tgt := 49) hx hb dX7_set_40 (by decide) (fun c_40 => ?_) (fun c_40 => ?_)
      · exact absurd c_40 h8
      · refine lv_aload_n hx hb dX7_set_43 rfl (lv_at hl 0 rfl) ?_
        refine lv_iconst (v := nI 2) hx hb dX7_set_44 (by decide) ?_
        refine cr_V (wr := []) (As := [.int (nI 2)]) (rest := []) ⟨hx, hb, hml, hown, hts⟩ (c_X7_fails G l y_ ca ke ty_ 0 po fl_ tl 2 ) (cwV 1 hts gX7_set_X7_fails rfl rfl rfl (by decide +kernel) ⟨Nat.le_of_ble_eq_true rfl, Nat.le_of_ble_eq_true rfl⟩) dX7_set_45 hK hNX hP hD hS hA hl 0 7 rfl rfl rfl [0] [] rfl rfl rfl rfl (by decide) rfl (Nat.le_of_ble_eq_true rfl) ⟨Nat.le_of_ble_eq_true rfl, Nat.le_of_ble_eq_true rfl⟩ rfl (fun v' w' Hq lcq hR' hP hD hS => ?_)
        obtain ⟨rfl, rfl⟩ := hR'
        have hP : va_P G.1 vwCl [(y_, .inr (7, [.ref (ca 0), .ref (ca 1), .ref (ca 2), .int (nI ke), .ref (ca 3), .int (nI ty_), .int (nI 2), .int (nI po), .int (bI fl_), .ref (ca 4), .int (nI tl), .ref (ca 5)]))] _ := hP.sub [0] rfl
        have hD : va_D A [(y_, .inr (7, [.ref (ca 0), .ref (ca 1), .ref (ca 2), .int (nI ke), .ref (ca 3), .int (nI ty_), .int (nI 2), .int (nI po), .int (bI fl_), .ref (ca 4), .int (nI tl), .ref (ca 5)]))] := hD.sub [0] (by decide +kernel) rfl
        exact cr_iret hx hb hr hlocks hK hP hD hS dX7_set_48 (by rw [hRR]; exact ctR_i (rfl) (rfl))
    · omega
  · exact absurd ⟨by omega, by omega⟩ c_12
set_option maxHeartbeats 4000000 in
set_option maxRecDepth 100000 in
theorem c_X7_append (G : GG) (l : Launch) (y_ : Nat) (ca : Nat → Nat) (ke : Nat) (ty_ : Nat) (th : Nat) (po : Nat) (fl_ : Prop) (tl : Nat) (cs : Nat → Nat) (ch_ : Nat) (jn : ty_ < 60) (j1 : 33 ≤ ch_) (j2_ : ch_ ≤ 126) : Cr G l yX7_append wsX7_append ({ frames := 1, cells := 0, slots := 0, locals := 25 }) 0 0 [.ref y_, .int (nI ch_)] [(y_, .inr (7, [.ref (ca 0), .ref (ca 1), .ref (ca 2), .int (nI ke), .ref (ca 3), .int (nI ty_), .int (nI th), .int (nI po), .int (bI fl_), .ref (ca 4), .int (nI tl), .ref (ca 5)])), (ca 3, .inl (G.2.1, 60, .inl (fun q9 => nI (cs q9))))] (ctR (some (.int (nI (ty_ + 1)))) [(y_, .inr (7, [.ref (ca 0), .ref (ca 1), .ref (ca 2), .int (nI ke), .ref (ca 3), .int (nI (ty_ + 1)), .int (nI 0), .int (nI po), .int (bI fl_), .ref (ca 4), .int (nI tl), .ref (ca 5)])), (ca 3, .inl (G.2.1, 60, .inl (fun q9 => nI ((upN cs ty_ ch_) q9))))]) := by
  refine cr_intro (cc := cX7_append) (maxL := 2) (ret := (some .int)) (own := RX7) (by decide) rfl rfl (Nat.le_of_ble_eq_true rfl) ?_
  intro p e s m args below meth c A hx hb hr hml hts hown hlocks hnm hNX hP hK hD hA hS ls hl
  obtain ⟨RR, hRR⟩ : ∃ RR, RR = (ctR (some (.int (nI (ty_ + 1)))) [(y_, .inr (7, [.ref (ca 0), .ref (ca 1), .ref (ca 2), .int (nI ke), .ref (ca 3), .int (nI (ty_ + 1)), .int (nI 0), .int (nI po), .int (bI fl_), .ref (ca 4), .int (nI tl), .ref (ca 5)])), (ca 3, .inl (G.2.1, 60, .inl (fun q9 => nI ((upN cs ty_ ch_) q9))))]) := ⟨_, rfl⟩
  rw [← hRR]
  have hl : lv_has ls 2 [(0, .ref y_), (1, .int (nI ch_))] := hl
  have hin7 : ∀ w ∈ u_ws RX7 TX7 12, w ∈ wsX7_append := fun w h => List.mem_cons_of_mem _ (List.mem_append_right _ h)
  refine lv_aload_n hx hb dX7_append_0 rfl (lv_at hl 0 rfl) ?_
  refine lv_iconst (v := nI 0) hx hb dX7_append_1 (by decide) ?_
  refine va_put (D := G.1) (ci := 7) (v := .int (nI 0)) (ty := .int) (C := RX7) (T := TX7) (N := 12) hx hb hts hin7 tyX7 tyX7_ok nmX7 hown hK hP hD hS 0 rfl rfl 6 (by decide) (hts (.fieldLink RX7 39 "PowerTablesModel" "thrown" "I") (List.mem_of_getElem? (i := 1) rfl)) (fun _ h9 => h9) rfl (tyX7_ok 6 (by decide)) rfl rfl (Nat.le_of_ble_eq_true rfl) dX7_append_2 (fun Hq lcq hP hD hS => ?_)
  have hP : va_P G.1 vwCl [(y_, .inr (7, [.ref (ca 0), .ref (ca 1), .ref (ca 2), .int (nI ke), .ref (ca 3), .int (nI ty_), .int (nI 0), .int (nI po), .int (bI fl_), .ref (ca 4), .int (nI tl), .ref (ca 5)])), (ca 3, .inl (G.2.1, 60, .inl (fun q9 => nI (cs q9))))] _ := hP
  have hD : va_D A [(y_, .inr (7, [.ref (ca 0), .ref (ca 1), .ref (ca 2), .int (nI ke), .ref (ca 3), .int (nI ty_), .int (nI 0), .int (nI po), .int (bI fl_), .ref (ca 4), .int (nI tl), .ref (ca 5)])), (ca 3, .inl (G.2.1, 60, .inl (fun q9 => nI (cs q9))))] := hD
  refine lv_iload_n hx hb dX7_append_5 rfl (lv_at hl 1 rfl) ?_
  refine ks_i2lN hx hb dX7_append_6 (by omega) ?_
  refine lv_ldc2 hx hb hown (hts (.constantLong RX7 115 (33)) (List.mem_of_getElem? (i := 2) rfl)) dX7_append_7 ?_
  refine ks_vL (show (33 : Int64) = lN 33 from rfl) ?_
  refine lv_ldc2 hx hb hown (hts (.constantLong RX7 117 (126)) (List.mem_of_getElem? (i := 3) rfl)) dX7_append_10 ?_
  refine ks_vL (show (126 : Int64) = lN 126 from rfl) ?_
  refine cr_S (wr := [(y_, .inr (7, [.ref (ca 0), .ref (ca 1), .ref (ca 2), .int (nI ke), .ref (ca 3), .int (nI ty_), .int (nI 0), .int (nI po), .int (bI fl_), .ref (ca 4), .int (nI tl), .ref (ca 5)])), (ca 3, .inl (G.2.1, 60, .inl (fun q9 => nI (cs q9))))]) (As := [.long (lN ch_), .long (lN 33), .long (lN 126)]) (rest := []) ⟨hx, hb, hml, hown, hts⟩ (c_X7_in__n G l ch_ 33 126 (by omega) (by omega) (by omega)) (va_cwS 3 hts gX7_append_X7_in rfl rfl rfl (by decide +kernel) ⟨Nat.le_of_ble_eq_true rfl, Nat.le_of_ble_eq_true rfl⟩) dX7_append_13 hK hNX hP hD hS hA hl [] [0, 1] rfl rfl rfl rfl (by decide) rfl (Nat.le_of_ble_eq_true rfl) ⟨Nat.le_of_ble_eq_true rfl, Nat.le_of_ble_eq_true rfl⟩ rfl (fun v' w' Hq lcq hR' hP hD hS => ?_)
  obtain ⟨rfl, rfl⟩ := hR'
  have hP : va_P G.1 vwCl [(y_, .inr (7, [.ref (ca 0), .ref (ca 1), .ref (ca 2), .int (nI ke), .ref (ca 3), .int (nI ty_), .int (nI 0), .int (nI po), .int (bI fl_), .ref (ca 4), .int (nI tl), .ref (ca 5)])), (ca 3, .inl (G.2.1, 60, .inl (fun q9 => nI (cs q9))))] _ := hP.sub [0, 1] rfl
  have hD : va_D A [(y_, .inr (7, [.ref (ca 0), .ref (ca 1), .ref (ca 2), .int (nI ke), .ref (ca 3), .int (nI ty_), .int (nI 0), .int (nI po), .int (bI fl_), .ref (ca 4), .int (nI tl), .ref (ca 5)])), (ca 3, .inl (G.2.1, 60, .inl (fun q9 => nI (cs q9))))] := hD.sub [0, 1] (by decide +kernel) rfl
  refine ks_ifb_ne (tgt := 25) hx hb dX7_append_16 (by decide) (fun c_16 => ?_) (fun c_16 => ?_)
  · refine lv_aload_n hx hb dX7_append_25 rfl (lv_at hl 0 rfl) ?_
    refine va_get (D := G.1) (ci := 7) (v := .int (nI ty_)) (C := RX7) (T := TX7) (N := 12) hx hb hts hin7 hown hK hP 0 rfl rfl 5 (by decide) (hts (.fieldLink RX7 119 "PowerTablesModel" "typed" "I") (List.mem_of_getElem? (i := 4) rfl)) (fun _ h9 => h9) rfl dX7_append_26 ?_
    refine lv_bipush (v := nI 60) hx hb dX7_append_29 (by decide) ?_
    refine ks_icmp_ne (tgt := 40) hx hb dX7_append_31 (by decide) (by omega) (by omega) (fun c_31 => ?_) (fun c_31 => ?_)
    · refine lv_aload_n hx hb dX7_append_40 rfl (lv_at hl 0 rfl) ?_
      refine va_get (D := G.1) (ci := 7) (v := .ref (ca 3)) (C := RX7) (T := TX7) (N := 12) hx hb hts hin7 hown hK hP 0 rfl rfl 4 (by decide) (hts (.fieldLink RX7 19 "PowerTablesModel" "text" "[I") (List.mem_of_getElem? (i := 5) rfl)) (fun _ h9 => h9) rfl dX7_append_41 ?_
      refine lv_aload_n hx hb dX7_append_44 rfl (lv_at hl 0 rfl) ?_
      refine va_get (D := G.1) (ci := 7) (v := .int (nI ty_)) (C := RX7) (T := TX7) (N := 12) hx hb hts hin7 hown hK hP 0 rfl rfl 5 (by decide) (hts (.fieldLink RX7 119 "PowerTablesModel" "typed" "I") (List.mem_of_getElem? (i := 4) rfl)) (fun _ h9 => h9) rfl dX7_append_45 ?_
      refine lv_iload_n hx hb dX7_append_48 rfl (lv_at hl 1 rfl) ?_
      refine ks_iast (f' := fun q9 => nI ((upN cs ty_ ch_) q9)) hx hb hK hP hD hS 1 rfl (by omega) (by decide) (upN_upd _ _ _) dX7_append_49 (fun Hq lcq hP hD hS => ?_)
      have hP : va_P G.1 vwCl [(y_, .inr (7, [.ref (ca 0), .ref (ca 1), .ref (ca 2), .int (nI ke), .ref (ca 3), .int (nI ty_), .int (nI 0), .int (nI po), .int (bI fl_), .ref (ca 4), .int (nI tl), .ref (ca 5)])), (ca 3, .inl (G.2.1, 60, .inl (fun q9 => nI ((upN cs ty_ ch_) q9))))] _ := hP
      have hD : va_D A [(y_, .inr (7, [.ref (ca 0), .ref (ca 1), .ref (ca 2), .int (nI ke), .ref (ca 3), .int (nI ty_), .int (nI 0), .int (nI po), .int (bI fl_), .ref (ca 4), .int (nI tl), .ref (ca 5)])), (ca 3, .inl (G.2.1, 60, .inl (fun q9 => nI ((upN cs ty_ ch_) q9))))] := hD
      refine lv_aload_n hx hb dX7_append_50 rfl (lv_at hl 0 rfl) ?_
      refine lv_dup hx hb dX7_append_51 rfl ?_
      refine va_get (D := G.1) (ci := 7) (v := .int (nI ty_)) (C := RX7) (T := TX7) (N := 12) hx hb hts hin7 hown hK hP 0 rfl rfl 5 (by decide) (hts (.fieldLink RX7 119 "PowerTablesModel" "typed" "I") (List.mem_of_getElem? (i := 4) rfl)) (fun _ h9 => h9) rfl dX7_append_52 ?_
      refine lv_iconst (v := nI 1) hx hb dX7_append_55 (by decide) ?_
      refine ks_iaddN hx hb dX7_append_56 ?_
      refine va_put (D := G.1) (ci := 7) (v := .int (nI (ty_ + 1))) (ty := .int) (C := RX7) (T := TX7) (N := 12) hx hb hts hin7 tyX7 tyX7_ok nmX7 hown hK hP hD hS 0 rfl rfl 5 (by decide) (hts (.fieldLink RX7 119 "PowerTablesModel" "typed" "I") (List.mem_of_getElem? (i := 4) rfl)) (fun _ h9 => h9) rfl (tyX7_ok 5 (by decide)) rfl rfl (Nat.le_of_ble_eq_true rfl) dX7_append_57 (fun Hq lcq hP hD hS => ?_)
      have hP : va_P G.1 vwCl [(y_, .inr (7, [.ref (ca 0), .ref (ca 1), .ref (ca 2), .int (nI ke), .ref (ca 3), .int (nI (ty_ + 1)), .int (nI 0), .int (nI po), .int (bI fl_), .ref (ca 4), .int (nI tl), .ref (ca 5)])), (ca 3, .inl (G.2.1, 60, .inl (fun q9 => nI ((upN cs ty_ ch_) q9))))] _ := hP
      have hD : va_D A [(y_, .inr (7, [.ref (ca 0), .ref (ca 1), .ref (ca 2), .int (nI ke), .ref (ca 3), .int (nI (ty_ + 1)), .int (nI 0), .int (nI po), .int (bI fl_), .ref (ca 4), .int (nI tl), .ref (ca 5)])), (ca 3, .inl (G.2.1, 60, .inl (fun q9 => nI ((upN cs ty_ ch_) q9))))] := hD
      refine lv_aload_n hx hb dX7_append_60 rfl (lv_at hl 0 rfl) ?_
      refine va_get (D := G.1) (ci := 7) (v := .int (nI (ty_ + 1))) (C := RX7) (T := TX7) (N := 12) hx hb hts hin7 hown hK hP 0 rfl rfl 5 (by decide) (hts (.fieldLink RX7 119 "PowerTablesModel" "typed" "I") (List.mem_of_getElem? (i := 4) rfl)) (fun _ h9 => h9) rfl dX7_append_61 ?_
      exact cr_iret hx hb hr hlocks hK hP hD hS dX7_append_64 (by rw [hRR]; exact ctR_i (rfl) (rfl))
    · omega
  · exact absurd ⟨j1, j2_⟩ c_16
set_option maxHeartbeats 4000000 in
set_option maxRecDepth 100000 in
theorem c_X7_append__b1 (G : GG) (l : Launch) (y_ : Nat) (ca : Nat → Nat) (ke : Nat) (ty_ : Nat) (th : Nat) (po : Nat) (fl_ : Prop) (tl : Nat) (v_ : Int32) (h8 : ¬ (33 ≤ v_.toInt ∧ v_.toInt ≤ 126)) : Cr G l yX7_append wsX7_append ({ frames := 1, cells := 0, slots := 0, locals := 25 }) 0 0 [.ref y_, .int v_] [(y_, .inr (7, [.ref (ca 0), .ref (ca 1), .ref (ca 2), .int (nI ke), .ref (ca 3), .int (nI ty_), .int (nI th), .int (nI po), .int (bI fl_), .ref (ca 4), .int (nI tl), .ref (ca 5)]))] (ctR (some (.int (nI 0))) [(y_, .inr (7, [.ref (ca 0), .ref (ca 1), .ref (ca 2), .int (nI ke), .ref (ca 3), .int (nI ty_), .int (nI 1), .int (nI po), .int (bI fl_), .ref (ca 4), .int (nI tl), .ref (ca 5)]))]) := by
  refine cr_intro (cc := cX7_append) (maxL := 2) (ret := (some .int)) (own := RX7) (by decide) rfl rfl (Nat.le_of_ble_eq_true rfl) ?_
  intro p e s m args below meth c A hx hb hr hml hts hown hlocks hnm hNX hP hK hD hA hS ls hl
  obtain ⟨RR, hRR⟩ : ∃ RR, RR = (ctR (some (.int (nI 0))) [(y_, .inr (7, [.ref (ca 0), .ref (ca 1), .ref (ca 2), .int (nI ke), .ref (ca 3), .int (nI ty_), .int (nI 1), .int (nI po), .int (bI fl_), .ref (ca 4), .int (nI tl), .ref (ca 5)]))]) := ⟨_, rfl⟩
  rw [← hRR]
  have hl : lv_has ls 2 [(0, .ref y_), (1, .int v_)] := hl
  have hin7 : ∀ w ∈ u_ws RX7 TX7 12, w ∈ wsX7_append := fun w h => List.mem_cons_of_mem _ (List.mem_append_right _ h)
  refine lv_aload_n hx hb dX7_append_0 rfl (lv_at hl 0 rfl) ?_
  refine lv_iconst (v := nI 0) hx hb dX7_append_1 (by decide) ?_
  refine va_put (D := G.1) (ci := 7) (v := .int (nI 0)) (ty := .int) (C := RX7) (T := TX7) (N := 12) hx hb hts hin7 tyX7 tyX7_ok nmX7 hown hK hP hD hS 0 rfl rfl 6 (by decide) (hts (.fieldLink RX7 39 "PowerTablesModel" "thrown" "I") (List.mem_of_getElem? (i := 1) rfl)) (fun _ h9 => h9) rfl (tyX7_ok 6 (by decide)) rfl rfl (Nat.le_of_ble_eq_true rfl) dX7_append_2 (fun Hq lcq hP hD hS => ?_)
  have hP : va_P G.1 vwCl [(y_, .inr (7, [.ref (ca 0), .ref (ca 1), .ref (ca 2), .int (nI ke), .ref (ca 3), .int (nI ty_), .int (nI 0), .int (nI po), .int (bI fl_), .ref (ca 4), .int (nI tl), .ref (ca 5)]))] _ := hP
  have hD : va_D A [(y_, .inr (7, [.ref (ca 0), .ref (ca 1), .ref (ca 2), .int (nI ke), .ref (ca 3), .int (nI ty_), .int (nI 0), .int (nI po), .int (bI fl_), .ref (ca 4), .int (nI tl), .ref (ca 5)]))] := hD
  refine lv_iload_n hx hb dX7_append_5 rfl (lv_at hl 1 rfl) ?_
  refine lv_i2l hx hb dX7_append_6 rfl ?_
  refine lv_ldc2 hx hb hown (hts (.constantLong RX7 115 (33)) (List.mem_of_getElem? (i := 2) rfl)) dX7_append_7 ?_
  refine ks_vL (show (33 : Int64) = lN 33 from rfl) ?_
  refine lv_ldc2 hx hb hown (hts (.constantLong RX7 117 (126)) (List.mem_of_getElem? (i := 3) rfl)) dX7_append_10 ?_
  refine ks_vL (show (126 : Int64) = lN 126 from rfl) ?_
  refine cr_S (wr := [(y_, .inr (7, [.ref (ca 0), .ref (ca 1), .ref (ca 2), .int (nI ke), .ref (ca 3), .int (nI ty_), .int (nI 0), .int (nI po), .int (bI fl_), .ref (ca 4), .int (nI tl), .ref (ca 5)]))]) (As := [.long v_.toInt64, .long (lN 33), .long (lN 126)]) (rest := []) ⟨hx, hb, hml, hown, hts⟩ (c_X7_in__i G l v_ 33 126 (by omega) (by omega)) (va_cwS 3 hts gX7_append_X7_in rfl rfl rfl (by decide +kernel) ⟨Nat.le_of_ble_eq_true rfl, Nat.le_of_ble_eq_true rfl⟩) dX7_append_13 hK hNX hP hD hS hA hl [] [0] rfl rfl rfl rfl (by decide) rfl (Nat.le_of_ble_eq_true rfl) ⟨Nat.le_of_ble_eq_true rfl, Nat.le_of_ble_eq_true rfl⟩ rfl (fun v' w' Hq lcq hR' hP hD hS => ?_)
  obtain ⟨rfl, rfl⟩ := hR'
  have hP : va_P G.1 vwCl [(y_, .inr (7, [.ref (ca 0), .ref (ca 1), .ref (ca 2), .int (nI ke), .ref (ca 3), .int (nI ty_), .int (nI 0), .int (nI po), .int (bI fl_), .ref (ca 4), .int (nI tl), .ref (ca 5)]))] _ := hP.sub [0] rfl
  have hD : va_D A [(y_, .inr (7, [.ref (ca 0), .ref (ca 1), .ref (ca 2), .int (nI ke), .ref (ca 3), .int (nI ty_), .int (nI 0), .int (nI po), .int (bI fl_), .ref (ca 4), .int (nI tl), .ref (ca 5)]))] := hD.sub [0] (by decide +kernel) rfl
  refine ks_ifb_ne (tgt := 25) hx hb dX7_append_16 (by decide) (fun c_16 => ?_) (fun c_16 => ?_)
  · exact absurd c_16 h8
  · refine lv_aload_n hx hb dX7_append_19 rfl (lv_at hl 0 rfl) ?_
    refine lv_iconst (v := nI 1) hx hb dX7_append_20 (by decide) ?_
    refine cr_V (wr := []) (As := [.int (nI 1)]) (rest := []) ⟨hx, hb, hml, hown, hts⟩ (c_X7_fails G l y_ ca ke ty_ 0 po fl_ tl 1 ) (cwV 1 hts gX7_append_X7_fails rfl rfl rfl (by decide +kernel) ⟨Nat.le_of_ble_eq_true rfl, Nat.le_of_ble_eq_true rfl⟩) dX7_append_21 hK hNX hP hD hS hA hl 0 7 rfl rfl rfl [0] [] rfl rfl rfl rfl (by decide) rfl (Nat.le_of_ble_eq_true rfl) ⟨Nat.le_of_ble_eq_true rfl, Nat.le_of_ble_eq_true rfl⟩ rfl (fun v' w' Hq lcq hR' hP hD hS => ?_)
    obtain ⟨rfl, rfl⟩ := hR'
    have hP : va_P G.1 vwCl [(y_, .inr (7, [.ref (ca 0), .ref (ca 1), .ref (ca 2), .int (nI ke), .ref (ca 3), .int (nI ty_), .int (nI 1), .int (nI po), .int (bI fl_), .ref (ca 4), .int (nI tl), .ref (ca 5)]))] _ := hP.sub [0] rfl
    have hD : va_D A [(y_, .inr (7, [.ref (ca 0), .ref (ca 1), .ref (ca 2), .int (nI ke), .ref (ca 3), .int (nI ty_), .int (nI 1), .int (nI po), .int (bI fl_), .ref (ca 4), .int (nI tl), .ref (ca 5)]))] := hD.sub [0] (by decide +kernel) rfl
    exact cr_iret hx hb hr hlocks hK hP hD hS dX7_append_24 (by rw [hRR]; exact ctR_i (rfl) (rfl))
set_option maxHeartbeats 4000000 in
set_option maxRecDepth 100000 in
theorem c_X7_append__b2 (G : GG) (l : Launch) (y_ : Nat) (ca : Nat → Nat) (ke : Nat) (ty_ : Nat) (th : Nat) (po : Nat) (fl_ : Prop) (tl : Nat) (ch_ : Nat) (j1 : 33 ≤ ch_) (j2_ : ch_ ≤ 126) : Cr G l yX7_append wsX7_append ({ frames := 1, cells := 0, slots := 0, locals := 25 }) 0 0 [.ref y_, .int (nI ch_)] [(y_, .inr (7, [.ref (ca 0), .ref (ca 1), .ref (ca 2), .int (nI ke), .ref (ca 3), .int (nI 60), .int (nI th), .int (nI po), .int (bI fl_), .ref (ca 4), .int (nI tl), .ref (ca 5)]))] (ctR (some (.int (nI 0))) [(y_, .inr (7, [.ref (ca 0), .ref (ca 1), .ref (ca 2), .int (nI ke), .ref (ca 3), .int (nI 60), .int (nI 2), .int (nI po), .int (bI fl_), .ref (ca 4), .int (nI tl), .ref (ca 5)]))]) := by
  refine cr_intro (cc := cX7_append) (maxL := 2) (ret := (some .int)) (own := RX7) (by decide) rfl rfl (Nat.le_of_ble_eq_true rfl) ?_
  intro p e s m args below meth c A hx hb hr hml hts hown hlocks hnm hNX hP hK hD hA hS ls hl
  obtain ⟨RR, hRR⟩ : ∃ RR, RR = (ctR (some (.int (nI 0))) [(y_, .inr (7, [.ref (ca 0), .ref (ca 1), .ref (ca 2), .int (nI ke), .ref (ca 3), .int (nI 60), .int (nI 2), .int (nI po), .int (bI fl_), .ref (ca 4), .int (nI tl), .ref (ca 5)]))]) := ⟨_, rfl⟩
  rw [← hRR]
  have hl : lv_has ls 2 [(0, .ref y_), (1, .int (nI ch_))] := hl
  have hin7 : ∀ w ∈ u_ws RX7 TX7 12, w ∈ wsX7_append := fun w h => List.mem_cons_of_mem _ (List.mem_append_right _ h)
  refine lv_aload_n hx hb dX7_append_0 rfl (lv_at hl 0 rfl) ?_
  refine lv_iconst (v := nI 0) hx hb dX7_append_1 (by decide) ?_
  refine va_put (D := G.1) (ci := 7) (v := .int (nI 0)) (ty := .int) (C := RX7) (T := TX7) (N := 12) hx hb hts hin7 tyX7 tyX7_ok nmX7 hown hK hP hD hS 0 rfl rfl 6 (by decide) (hts (.fieldLink RX7 39 "PowerTablesModel" "thrown" "I") (List.mem_of_getElem? (i := 1) rfl)) (fun _ h9 => h9) rfl (tyX7_ok 6 (by decide)) rfl rfl (Nat.le_of_ble_eq_true rfl) dX7_append_2 (fun Hq lcq hP hD hS => ?_)
  have hP : va_P G.1 vwCl [(y_, .inr (7, [.ref (ca 0), .ref (ca 1), .ref (ca 2), .int (nI ke), .ref (ca 3), .int (nI 60), .int (nI 0), .int (nI po), .int (bI fl_), .ref (ca 4), .int (nI tl), .ref (ca 5)]))] _ := hP
  have hD : va_D A [(y_, .inr (7, [.ref (ca 0), .ref (ca 1), .ref (ca 2), .int (nI ke), .ref (ca 3), .int (nI 60), .int (nI 0), .int (nI po), .int (bI fl_), .ref (ca 4), .int (nI tl), .ref (ca 5)]))] := hD
  refine lv_iload_n hx hb dX7_append_5 rfl (lv_at hl 1 rfl) ?_
  refine ks_i2lN hx hb dX7_append_6 (by omega) ?_
  refine lv_ldc2 hx hb hown (hts (.constantLong RX7 115 (33)) (List.mem_of_getElem? (i := 2) rfl)) dX7_append_7 ?_
  refine ks_vL (show (33 : Int64) = lN 33 from rfl) ?_
  refine lv_ldc2 hx hb hown (hts (.constantLong RX7 117 (126)) (List.mem_of_getElem? (i := 3) rfl)) dX7_append_10 ?_
  refine ks_vL (show (126 : Int64) = lN 126 from rfl) ?_
  refine cr_S (wr := [(y_, .inr (7, [.ref (ca 0), .ref (ca 1), .ref (ca 2), .int (nI ke), .ref (ca 3), .int (nI 60), .int (nI 0), .int (nI po), .int (bI fl_), .ref (ca 4), .int (nI tl), .ref (ca 5)]))]) (As := [.long (lN ch_), .long (lN 33), .long (lN 126)]) (rest := []) ⟨hx, hb, hml, hown, hts⟩ (c_X7_in__n G l ch_ 33 126 (by omega) (by omega) (by omega)) (va_cwS 3 hts gX7_append_X7_in rfl rfl rfl (by decide +kernel) ⟨Nat.le_of_ble_eq_true rfl, Nat.le_of_ble_eq_true rfl⟩) dX7_append_13 hK hNX hP hD hS hA hl [] [0] rfl rfl rfl rfl (by decide) rfl (Nat.le_of_ble_eq_true rfl) ⟨Nat.le_of_ble_eq_true rfl, Nat.le_of_ble_eq_true rfl⟩ rfl (fun v' w' Hq lcq hR' hP hD hS => ?_)
  obtain ⟨rfl, rfl⟩ := hR'
  have hP : va_P G.1 vwCl [(y_, .inr (7, [.ref (ca 0), .ref (ca 1), .ref (ca 2), .int (nI ke), .ref (ca 3), .int (nI 60), .int (nI 0), .int (nI po), .int (bI fl_), .ref (ca 4), .int (nI tl), .ref (ca 5)]))] _ := hP.sub [0] rfl
  have hD : va_D A [(y_, .inr (7, [.ref (ca 0), .ref (ca 1), .ref (ca 2), .int (nI ke), .ref (ca 3), .int (nI 60), .int (nI 0), .int (nI po), .int (bI fl_), .ref (ca 4), .int (nI tl), .ref (ca 5)]))] := hD.sub [0] (by decide +kernel) rfl
  refine ks_ifb_ne (tgt := 25) hx hb dX7_append_16 (by decide) (fun c_16 => ?_) (fun c_16 => ?_)
  · refine lv_aload_n hx hb dX7_append_25 rfl (lv_at hl 0 rfl) ?_
    refine va_get (D := G.1) (ci := 7) (v := .int (nI 60)) (C := RX7) (T := TX7) (N := 12) hx hb hts hin7 hown hK hP 0 rfl rfl 5 (by decide) (hts (.fieldLink RX7 119 "PowerTablesModel" "typed" "I") (List.mem_of_getElem? (i := 4) rfl)) (fun _ h9 => h9) rfl dX7_append_26 ?_
    refine lv_bipush (v := nI 60) hx hb dX7_append_29 (by decide) ?_
    refine ks_icmp_ne (tgt := 40) hx hb dX7_append_31 (by decide) (by omega) (by omega) (fun c_31 => ?_) (fun c_31 => ?_)
    · omega
    · refine lv_aload_n hx hb dX7_append_34 rfl (lv_at hl 0 rfl) ?_
      refine lv_iconst (v := nI 2) hx hb dX7_append_35 (by decide) ?_
      refine cr_V (wr := []) (As := [.int (nI 2)]) (rest := []) ⟨hx, hb, hml, hown, hts⟩ (c_X7_fails G l y_ ca ke 60 0 po fl_ tl 2 ) (cwV 1 hts gX7_append_X7_fails rfl rfl rfl (by decide +kernel) ⟨Nat.le_of_ble_eq_true rfl, Nat.le_of_ble_eq_true rfl⟩) dX7_append_36 hK hNX hP hD hS hA hl 0 7 rfl rfl rfl [0] [] rfl rfl rfl rfl (by decide) rfl (Nat.le_of_ble_eq_true rfl) ⟨Nat.le_of_ble_eq_true rfl, Nat.le_of_ble_eq_true rfl⟩ rfl (fun v' w' Hq lcq hR' hP hD hS => ?_)
      obtain ⟨rfl, rfl⟩ := hR'
      have hP : va_P G.1 vwCl [(y_, .inr (7, [.ref (ca 0), .ref (ca 1), .ref (ca 2), .int (nI ke), .ref (ca 3), .int (nI 60), .int (nI 2), .int (nI po), .int (bI fl_), .ref (ca 4), .int (nI tl), .ref (ca 5)]))] _ := hP.sub [0] rfl
      have hD : va_D A [(y_, .inr (7, [.ref (ca 0), .ref (ca 1), .ref (ca 2), .int (nI ke), .ref (ca 3), .int (nI 60), .int (nI 2), .int (nI po), .int (bI fl_), .ref (ca 4), .int (nI tl), .ref (ca 5)]))] := hD.sub [0] (by decide +kernel) rfl
      exact cr_iret hx hb hr hlocks hK hP hD hS dX7_append_39 (by rw [hRR]; exact ctR_i (rfl) (rfl))
  · exact absurd ⟨j1, j2_⟩ c_16
set_option maxHeartbeats 4000000 in
set_option maxRecDepth 100000 in
theorem c_X7_clearBuffer (G : GG) (l : Launch) (y_ : Nat) (ca : Nat → Nat) (ke : Nat) (ty_ : Nat) (th : Nat) (po : Nat) (fl_ : Prop) (tl : Nat)  : Cr G l yX7_clearBuffer wsX7_clearBuffer ({ frames := 0, cells := 0, slots := 0, locals := 0 }) 0 0 [.ref y_] [(y_, .inr (7, [.ref (ca 0), .ref (ca 1), .ref (ca 2), .int (nI ke), .ref (ca 3), .int (nI ty_), .int (nI th), .int (nI po), .int (bI fl_), .ref (ca 4), .int (nI tl), .ref (ca 5)]))] (ctR (some (.int (nI ty_))) [(y_, .inr (7, [.ref (ca 0), .ref (ca 1), .ref (ca 2), .int (nI ke), .ref (ca 3), .int (nI 0), .int (nI 0), .int (nI po), .int (bI fl_), .ref (ca 4), .int (nI tl), .ref (ca 5)]))]) := by
  refine cr_intro (cc := cX7_clearBuffer) (maxL := 2) (ret := (some .int)) (own := RX7) (by decide) rfl rfl (Nat.le_of_ble_eq_true rfl) ?_
  intro p e s m args below meth c A hx hb hr hml hts hown hlocks hnm hNX hP hK hD hA hS ls hl
  obtain ⟨RR, hRR⟩ : ∃ RR, RR = (ctR (some (.int (nI ty_))) [(y_, .inr (7, [.ref (ca 0), .ref (ca 1), .ref (ca 2), .int (nI ke), .ref (ca 3), .int (nI 0), .int (nI 0), .int (nI po), .int (bI fl_), .ref (ca 4), .int (nI tl), .ref (ca 5)]))]) := ⟨_, rfl⟩
  rw [← hRR]
  have hl : lv_has ls 2 [(0, .ref y_)] := hl
  have hin7 : ∀ w ∈ u_ws RX7 TX7 12, w ∈ wsX7_clearBuffer := fun w h => List.mem_cons_of_mem _ (List.mem_append_right _ h)
  refine lv_aload_n hx hb dX7_clearBuffer_0 rfl (lv_at hl 0 rfl) ?_
  refine lv_iconst (v := nI 0) hx hb dX7_clearBuffer_1 (by decide) ?_
  refine va_put (D := G.1) (ci := 7) (v := .int (nI 0)) (ty := .int) (C := RX7) (T := TX7) (N := 12) hx hb hts hin7 tyX7 tyX7_ok nmX7 hown hK hP hD hS 0 rfl rfl 6 (by decide) (hts (.fieldLink RX7 39 "PowerTablesModel" "thrown" "I") (List.mem_of_getElem? (i := 1) rfl)) (fun _ h9 => h9) rfl (tyX7_ok 6 (by decide)) rfl rfl (Nat.le_of_ble_eq_true rfl) dX7_clearBuffer_2 (fun Hq lcq hP hD hS => ?_)
  have hP : va_P G.1 vwCl [(y_, .inr (7, [.ref (ca 0), .ref (ca 1), .ref (ca 2), .int (nI ke), .ref (ca 3), .int (nI ty_), .int (nI 0), .int (nI po), .int (bI fl_), .ref (ca 4), .int (nI tl), .ref (ca 5)]))] _ := hP
  have hD : va_D A [(y_, .inr (7, [.ref (ca 0), .ref (ca 1), .ref (ca 2), .int (nI ke), .ref (ca 3), .int (nI ty_), .int (nI 0), .int (nI po), .int (bI fl_), .ref (ca 4), .int (nI tl), .ref (ca 5)]))] := hD
  refine lv_aload_n hx hb dX7_clearBuffer_5 rfl (lv_at hl 0 rfl) ?_
  refine va_get (D := G.1) (ci := 7) (v := .int (nI ty_)) (C := RX7) (T := TX7) (N := 12) hx hb hts hin7 hown hK hP 0 rfl rfl 5 (by decide) (hts (.fieldLink RX7 119 "PowerTablesModel" "typed" "I") (List.mem_of_getElem? (i := 2) rfl)) (fun _ h9 => h9) rfl dX7_clearBuffer_6 ?_
  refine lv_istore_n (lv' := [(1, .int (nI ty_)), (0, .ref y_)]) hx hb dX7_clearBuffer_9 rfl hl (by decide) rfl (fun ls hl => ?_)
  refine lv_aload_n hx hb dX7_clearBuffer_10 rfl (lv_at hl 1 rfl) ?_
  refine lv_iconst (v := nI 0) hx hb dX7_clearBuffer_11 (by decide) ?_
  refine va_put (D := G.1) (ci := 7) (v := .int (nI 0)) (ty := .int) (C := RX7) (T := TX7) (N := 12) hx hb hts hin7 tyX7 tyX7_ok nmX7 hown hK hP hD hS 0 rfl rfl 5 (by decide) (hts (.fieldLink RX7 119 "PowerTablesModel" "typed" "I") (List.mem_of_getElem? (i := 2) rfl)) (fun _ h9 => h9) rfl (tyX7_ok 5 (by decide)) rfl rfl (Nat.le_of_ble_eq_true rfl) dX7_clearBuffer_12 (fun Hq lcq hP hD hS => ?_)
  have hP : va_P G.1 vwCl [(y_, .inr (7, [.ref (ca 0), .ref (ca 1), .ref (ca 2), .int (nI ke), .ref (ca 3), .int (nI 0), .int (nI 0), .int (nI po), .int (bI fl_), .ref (ca 4), .int (nI tl), .ref (ca 5)]))] _ := hP
  have hD : va_D A [(y_, .inr (7, [.ref (ca 0), .ref (ca 1), .ref (ca 2), .int (nI ke), .ref (ca 3), .int (nI 0), .int (nI 0), .int (nI po), .int (bI fl_), .ref (ca 4), .int (nI tl), .ref (ca 5)]))] := hD
  refine lv_iload_n hx hb dX7_clearBuffer_15 rfl (lv_at hl 0 rfl) ?_
  exact cr_iret hx hb hr hlocks hK hP hD hS dX7_clearBuffer_16 (by rw [hRR]; exact ctR_i (rfl) (rfl))
