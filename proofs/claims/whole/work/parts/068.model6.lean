set_option maxHeartbeats 4000000 in
set_option maxRecDepth 100000 in
theorem c_X7_digest (G : GG) (l : Launch) (y_ : Nat) (ca : Nat → Nat) (ke : Nat) (ty_ : Nat) (th : Nat) (po : Nat) (fl_ : Prop) (tl : Nat) (T : TS) (cs : Nat → Nat) (er : Nat → Int64) (f1_ : Nat → Int64) (jr : RB (T.s 4) T.r) (jw : ∀ d, d < 10 → T.w d + 800 < 2 ^ 30) (jl : T.s 1 < 2 ^ 30) (jd : T.s 5 + 800 < 2 ^ 30) (jn4 : T.s 4 ≤ 40) (jf_ : T.s 3 ≤ 99) (jp : T.s 2 ≤ 5) (jz : 1 ≤ T.s 0) (jz2 : T.s 0 ≤ 20) (jb : ∀ k, k < 40 → T.b k ≤ 20) (jty : ty_ ≤ 60) (jcs : ∀ k, k < 60 → cs k < 2 ^ 30) : Cr G l yX7_digest wsX7_digest ({ frames := 5, cells := 0, slots := 0, locals := 120 }) 0 0 [.ref y_] [(y_, .inr (7, [.ref (ca 0), .ref (ca 1), .ref (ca 2), .int (nI ke), .ref (ca 3), .int (nI ty_), .int (nI th), .int (nI po), .int (bI fl_), .ref (ca 4), .int (nI tl), .ref (ca 5)])), (ca 0, .inl (G.2.2.1, 103, .inr (.inl (mV T)))), (ca 3, .inl (G.2.1, 60, .inl (fun q9 => nI (cs q9)))), (ca 5, .inl (G.2.2.1, 40, .inr (.inl (er)))), (ca 1, .inl (G.2.2.1, 103, .inr (.inl (f1_))))] (fun (vv1 : Option Value) (ww1 : va_W) => ∃ (e9_ : Nat → Int64) (f2_ : Nat → Int64), vv1 = (some (.long (dgV T (rvT T) ke cs ty_))) ∧ ww1 = [(y_, .inr (7, [.ref (ca 0), .ref (ca 1), .ref (ca 2), .int (nI ke), .ref (ca 3), .int (nI ty_), .int (nI 0), .int (nI po), .int (bI fl_), .ref (ca 4), .int (nI tl), .ref (ca 5)])), (ca 0, .inl (G.2.2.1, 103, .inr (.inl (mV T)))), (ca 3, .inl (G.2.1, 60, .inl (fun q9 => nI (cs q9)))), (ca 5, .inl (G.2.2.1, 40, .inr (.inl (e9_)))), (ca 1, .inl (G.2.2.1, 103, .inr (.inl (f2_))))]) := by
  refine cr_intro (cc := cX7_digest) (maxL := 5) (ret := (some .long)) (own := RX7) (by decide) rfl rfl (Nat.le_of_ble_eq_true rfl) ?_
  intro p e s m args below meth c A hx hb hr hml hts hown hlocks hnm hNX hP hK hD hA hS ls hl
  obtain ⟨RR, hRR⟩ : ∃ RR, RR = (fun (vv1 : Option Value) (ww1 : va_W) => ∃ (e9_ : Nat → Int64) (f2_ : Nat → Int64), vv1 = (some (.long (dgV T (rvT T) ke cs ty_))) ∧ ww1 = [(y_, .inr (7, [.ref (ca 0), .ref (ca 1), .ref (ca 2), .int (nI ke), .ref (ca 3), .int (nI ty_), .int (nI 0), .int (nI po), .int (bI fl_), .ref (ca 4), .int (nI tl), .ref (ca 5)])), (ca 0, .inl (G.2.2.1, 103, .inr (.inl (mV T)))), (ca 3, .inl (G.2.1, 60, .inl (fun q9 => nI (cs q9)))), (ca 5, .inl (G.2.2.1, 40, .inr (.inl (e9_)))), (ca 1, .inl (G.2.2.1, 103, .inr (.inl (f2_))))]) := ⟨_, rfl⟩
  rw [← hRR]
  have hl : lv_has ls 5 [(0, .ref y_)] := hl
  have hin7 : ∀ w_ ∈ u_ws RX7 TX7 12, w_ ∈ wsX7_digest := fun w_ h => List.mem_cons_of_mem _ (List.mem_append_right _ h)
  have jdv : T.s 4 / T.s 0 ≤ T.s 4 := Nat.div_le_self _ _
  refine lv_aload_n hx hb dX7_digest_0 rfl (lv_at hl 0 rfl) ?_
  refine lv_iconst (v := nI 0) hx hb dX7_digest_1 (by decide) ?_
  refine va_put (D := G.1) (ci := 7) (v := .int (nI 0)) (ty := .int) (C := RX7) (T := TX7) (N := 12) hx hb hts hin7 tyX7 tyX7_ok nmX7 hown hK hP hD hS 0 rfl rfl 6 (by decide) (hts (.fieldLink RX7 39 "PowerTablesModel" "thrown" "I") (List.mem_of_getElem? (i := 1) rfl)) (fun _ h9 => h9) rfl (tyX7_ok 6 (by decide)) rfl rfl (Nat.le_of_ble_eq_true rfl) dX7_digest_2 (fun Hq lcq hP hD hS => ?_)
  have hP : va_P G.1 vwCl [(y_, .inr (7, [.ref (ca 0), .ref (ca 1), .ref (ca 2), .int (nI ke), .ref (ca 3), .int (nI ty_), .int (nI 0), .int (nI po), .int (bI fl_), .ref (ca 4), .int (nI tl), .ref (ca 5)])), (ca 0, .inl (G.2.2.1, 103, .inr (.inl (mV T)))), (ca 3, .inl (G.2.1, 60, .inl (fun q9 => nI (cs q9)))), (ca 5, .inl (G.2.2.1, 40, .inr (.inl (er)))), (ca 1, .inl (G.2.2.1, 103, .inr (.inl (f1_))))] _ := hP
  have hD : va_D A [(y_, .inr (7, [.ref (ca 0), .ref (ca 1), .ref (ca 2), .int (nI ke), .ref (ca 3), .int (nI ty_), .int (nI 0), .int (nI po), .int (bI fl_), .ref (ca 4), .int (nI tl), .ref (ca 5)])), (ca 0, .inl (G.2.2.1, 103, .inr (.inl (mV T)))), (ca 3, .inl (G.2.1, 60, .inl (fun q9 => nI (cs q9)))), (ca 5, .inl (G.2.2.1, 40, .inr (.inl (er)))), (ca 1, .inl (G.2.2.1, 103, .inr (.inl (f1_))))] := hD
  refine lv_ldc2 hx hb hown (hts (.constantLong RX7 219 (2957)) (List.mem_of_getElem? (i := 2) rfl)) dX7_digest_5 ?_
  refine ks_vL (show (2957 : Int64) = lN 2957 from rfl) ?_
  refine lv_lstore_n (lv' := [(1, .long (lN 2957)), (0, .ref y_)]) hx hb dX7_digest_8 rfl hl (by decide) rfl (fun ls hl => ?_)
  refine lv_iconst (v := nI 0) hx hb dX7_digest_9 (by decide) ?_
  refine lv_istore_n (lv' := [(3, .int (nI 0)), (1, .long (lN 2957)), (0, .ref y_)]) hx hb dX7_digest_10 rfl hl (by decide) rfl (fun ls hl => ?_)
  have L_11 : ∀ (n_11 : Nat) (i_ : Nat) (_ : 70 - i_ < n_11) (ji : i_ ≤ 12) (Hq : Heap) (lcq : List Loc), va_P G.1 vwCl [(y_, .inr (7, [.ref (ca 0), .ref (ca 1), .ref (ca 2), .int (nI ke), .ref (ca 3), .int (nI ty_), .int (nI 0), .int (nI po), .int (bI fl_), .ref (ca 4), .int (nI tl), .ref (ca 5)])), (ca 0, .inl (G.2.2.1, 103, .inr (.inl (mV T)))), (ca 3, .inl (G.2.1, 60, .inl (fun q9 => nI (cs q9)))), (ca 5, .inl (G.2.2.1, 40, .inr (.inl (er)))), (ca 1, .inl (G.2.2.1, 103, .inr (.inl (f1_))))] Hq → va_D A [(y_, .inr (7, [.ref (ca 0), .ref (ca 1), .ref (ca 2), .int (nI ke), .ref (ca 3), .int (nI ty_), .int (nI 0), .int (nI po), .int (bI fl_), .ref (ca 4), .int (nI tl), .ref (ca 5)])), (ca 0, .inl (G.2.2.1, 103, .inr (.inl (mV T)))), (ca 3, .inl (G.2.1, 60, .inl (fun q9 => nI (cs q9)))), (ca 5, .inl (G.2.2.1, 40, .inr (.inl (er)))), (ca 1, .inl (G.2.2.1, 103, .inr (.inl (f1_))))] → va_S A s.heap Hq lcq → ∀ ls : Array Slot, lv_has ls 5 [(3, .int (nI i_)), (0, .ref y_), (1, .long (fdO (fun q8 h8 => mx h8 (cntA T (rvT T) ke q8).toInt64) (lN 2957) i_))] → W p l e ({ frames := 5, cells := 0, slots := 0, locals := 120 }) s m args below meth c Hq lcq 0 0 (MQ below (cr_Q G RR A) args s 0 0 A) (F0 m 11 ls []) := by
    intro n_11
    induction n_11 with
    | zero => intro i_ hmu_11; exact absurd hmu_11 (Nat.not_lt_zero _)
    | succ n_11 ih_11 =>
      intro i_ hmu_11 ji Hq lcq hP hD hS ls hl
      refine lv_iload_n hx hb dX7_digest_11 rfl (lv_at hl 0 rfl) ?_
      refine lv_bipush (v := nI 12) hx hb dX7_digest_12 (by decide) ?_
      refine ks_icmp_ge (tgt := 36) hx hb dX7_digest_14 (by decide) (by omega) (by omega) (fun c_14 => ?_) (fun c_14 => ?_)
      · obtain rfl : i_ = 12 := by omega
        generalize eh1 : fdO (fun q8 h8 => mx h8 (cntA T (rvT T) ke q8).toInt64) (lN 2957) 12 = h1 at hl
        refine lv_ldc2 hx hb hown (hts (.constantLong RX7 221 (31)) (List.mem_of_getElem? (i := 3) rfl)) dX7_digest_36 ?_
        refine ks_vL (show (31 : Int64) = lN 31 from rfl) ?_
        refine lv_ldc2 hx hb hown (hts (.constantLong RX7 221 (31)) (List.mem_of_getElem? (i := 3) rfl)) dX7_digest_39 ?_
        refine ks_vL (show (31 : Int64) = lN 31 from rfl) ?_
        refine lv_lload_n hx hb dX7_digest_42 rfl (lv_at hl 2 rfl) ?_
        refine lv_lmul hx hb dX7_digest_43 ?_
        refine lv_aload_n hx hb dX7_digest_44 rfl (lv_at hl 1 rfl) ?_
        refine va_get (D := G.1) (ci := 7) (v := .ref (ca 0)) (C := RX7) (T := TX7) (N := 12) hx hb hts hin7 hown hK hP 0 rfl rfl 0 (by decide) (hts (.fieldLink RX7 7 "PowerTablesModel" "now" "[J") (List.mem_of_getElem? (i := 4) rfl)) (fun _ h9 => h9) rfl dX7_digest_45 ?_
        refine lv_iconst (v := nI 0) hx hb dX7_digest_48 (by decide) ?_
        refine ks_lald hx hb hK hP 1 rfl (by omega) (by decide) dX7_digest_49 ?_
        refine ks_vL (show mV T 0 = lN (T.s 0) from rfl) ?_
        refine lv_ladd hx hb dX7_digest_50 ?_
        refine lv_lmul hx hb dX7_digest_51 ?_
        refine lv_aload_n hx hb dX7_digest_52 rfl (lv_at hl 1 rfl) ?_
        refine va_get (D := G.1) (ci := 7) (v := .ref (ca 0)) (C := RX7) (T := TX7) (N := 12) hx hb hts hin7 hown hK hP 0 rfl rfl 0 (by decide) (hts (.fieldLink RX7 7 "PowerTablesModel" "now" "[J") (List.mem_of_getElem? (i := 4) rfl)) (fun _ h9 => h9) rfl dX7_digest_53 ?_
        refine lv_iconst (v := nI 1) hx hb dX7_digest_56 (by decide) ?_
        refine ks_lald hx hb hK hP 1 rfl (by omega) (by decide) dX7_digest_57 ?_
        refine ks_vL (show mV T 1 = lN (T.s 1) from rfl) ?_
        refine lv_ladd hx hb dX7_digest_58 ?_
        refine lv_lstore_n (lv' := [(1, .long (((lN 31) * (((lN 31) * h1) + (lN (T.s 0)))) + (lN (T.s 1)))), (3, .int (nI 12)), (0, .ref y_)]) hx hb dX7_digest_59 rfl hl (by decide) rfl (fun ls hl => ?_)
        generalize eh2 : ((lN 31) * (((lN 31) * h1) + (lN (T.s 0)))) + (lN (T.s 1)) = h2 at hl
        refine lv_iconst (v := nI 0) hx hb dX7_digest_60 (by decide) ?_
        refine lv_istore_n (lv' := [(3, .int (nI 0)), (1, .long h2), (0, .ref y_)]) hx hb dX7_digest_61 rfl hl (by decide) rfl (fun ls hl => ?_)
        have L_62 : ∀ (n_62 : Nat) (i_ : Nat) (_ : 70 - i_ < n_62) (ji : i_ ≤ 6) (Hq : Heap) (lcq : List Loc), va_P G.1 vwCl [(y_, .inr (7, [.ref (ca 0), .ref (ca 1), .ref (ca 2), .int (nI ke), .ref (ca 3), .int (nI ty_), .int (nI 0), .int (nI po), .int (bI fl_), .ref (ca 4), .int (nI tl), .ref (ca 5)])), (ca 0, .inl (G.2.2.1, 103, .inr (.inl (mV T)))), (ca 3, .inl (G.2.1, 60, .inl (fun q9 => nI (cs q9)))), (ca 5, .inl (G.2.2.1, 40, .inr (.inl (er)))), (ca 1, .inl (G.2.2.1, 103, .inr (.inl (f1_))))] Hq → va_D A [(y_, .inr (7, [.ref (ca 0), .ref (ca 1), .ref (ca 2), .int (nI ke), .ref (ca 3), .int (nI ty_), .int (nI 0), .int (nI po), .int (bI fl_), .ref (ca 4), .int (nI tl), .ref (ca 5)])), (ca 0, .inl (G.2.2.1, 103, .inr (.inl (mV T)))), (ca 3, .inl (G.2.1, 60, .inl (fun q9 => nI (cs q9)))), (ca 5, .inl (G.2.2.1, 40, .inr (.inl (er)))), (ca 1, .inl (G.2.2.1, 103, .inr (.inl (f1_))))] → va_S A s.heap Hq lcq → ∀ ls : Array Slot, lv_has ls 5 [(3, .int (nI i_)), (0, .ref y_), (1, .long (fdO (fun q8 h8 => mx (mx h8 (T.r q8)) (rgt (T.s 2) (T.s 3 + T.s 4) q8)) h2 i_))] → W p l e ({ frames := 5, cells := 0, slots := 0, locals := 120 }) s m args below meth c Hq lcq 0 0 (MQ below (cr_Q G RR A) args s 0 0 A) (F0 m 62 ls []) := by
          intro n_62
          induction n_62 with
          | zero => intro i_ hmu_62; exact absurd hmu_62 (Nat.not_lt_zero _)
          | succ n_62 ih_62 =>
            intro i_ hmu_62 ji Hq lcq hP hD hS ls hl
            refine lv_iload_n hx hb dX7_digest_62 rfl (lv_at hl 0 rfl) ?_
            refine lv_bipush (v := nI 6) hx hb dX7_digest_63 (by decide) ?_
            refine ks_icmp_ge (tgt := 110) hx hb dX7_digest_65 (by decide) (by omega) (by omega) (fun c_65 => ?_) (fun c_65 => ?_)
            · obtain rfl : i_ = 6 := by omega
              generalize eh3 : fdO (fun q8 h8 => mx (mx h8 (T.r q8)) (rgt (T.s 2) (T.s 3 + T.s 4) q8)) h2 6 = h3 at hl
              refine lv_iconst (v := nI 0) hx hb dX7_digest_110 (by decide) ?_
              refine lv_istore_n (lv' := [(3, .int (nI 0)), (0, .ref y_), (1, .long h3)]) hx hb dX7_digest_111 rfl hl (by decide) rfl (fun ls hl => ?_)
              have L_112 : ∀ (n_112 : Nat) (i_ : Nat) (_ : 70 - i_ < n_112) (ji : i_ ≤ T.s 4) (Hq : Heap) (lcq : List Loc), va_P G.1 vwCl [(y_, .inr (7, [.ref (ca 0), .ref (ca 1), .ref (ca 2), .int (nI ke), .ref (ca 3), .int (nI ty_), .int (nI 0), .int (nI po), .int (bI fl_), .ref (ca 4), .int (nI tl), .ref (ca 5)])), (ca 0, .inl (G.2.2.1, 103, .inr (.inl (mV T)))), (ca 3, .inl (G.2.1, 60, .inl (fun q9 => nI (cs q9)))), (ca 5, .inl (G.2.2.1, 40, .inr (.inl (er)))), (ca 1, .inl (G.2.2.1, 103, .inr (.inl (f1_))))] Hq → va_D A [(y_, .inr (7, [.ref (ca 0), .ref (ca 1), .ref (ca 2), .int (nI ke), .ref (ca 3), .int (nI ty_), .int (nI 0), .int (nI po), .int (bI fl_), .ref (ca 4), .int (nI tl), .ref (ca 5)])), (ca 0, .inl (G.2.2.1, 103, .inr (.inl (mV T)))), (ca 3, .inl (G.2.1, 60, .inl (fun q9 => nI (cs q9)))), (ca 5, .inl (G.2.2.1, 40, .inr (.inl (er)))), (ca 1, .inl (G.2.2.1, 103, .inr (.inl (f1_))))] → va_S A s.heap Hq lcq → ∀ ls : Array Slot, lv_has ls 5 [(3, .int (nI i_)), (0, .ref y_), (1, .long (fdO (fun q7 h7 => fdO (fun q8 h8 => mx h8 (rowA T (rvT T) q7 q8)) h7 5) h3 i_))] → W p l e ({ frames := 5, cells := 0, slots := 0, locals := 120 }) s m args below meth c Hq lcq 0 0 (MQ below (cr_Q G RR A) args s 0 0 A) (F0 m 112 ls []) := by
                intro n_112
                induction n_112 with
                | zero => intro i_ hmu_112; exact absurd hmu_112 (Nat.not_lt_zero _)
                | succ n_112 ih_112 =>
                  intro i_ hmu_112 ji Hq lcq hP hD hS ls hl
                  refine lv_iload_n hx hb dX7_digest_112 rfl (lv_at hl 0 rfl) ?_
                  refine ks_i2lN hx hb dX7_digest_113 (by omega) ?_
                  refine lv_aload_n hx hb dX7_digest_114 rfl (lv_at hl 1 rfl) ?_
                  refine va_get (D := G.1) (ci := 7) (v := .ref (ca 0)) (C := RX7) (T := TX7) (N := 12) hx hb hts hin7 hown hK hP 0 rfl rfl 0 (by decide) (hts (.fieldLink RX7 7 "PowerTablesModel" "now" "[J") (List.mem_of_getElem? (i := 4) rfl)) (fun _ h9 => h9) rfl dX7_digest_115 ?_
                  refine lv_iconst (v := nI 4) hx hb dX7_digest_118 (by decide) ?_
                  refine ks_lald hx hb hK hP 1 rfl (by omega) (by decide) dX7_digest_119 ?_
                  refine ks_vL (show mV T 4 = lN (T.s 4) from rfl) ?_
                  refine ks_lcN_ge (tgt := 159) hx hb dX7_digest_120 dX7_digest_121 (by decide) (by omega) (by omega) (fun c_120 => ?_) (fun c_120 => ?_)
                  · obtain rfl : i_ = T.s 4 := by omega
                    generalize eh4 : fdO (fun q7 h7 => fdO (fun q8 h8 => mx h8 (rowA T (rvT T) q7 q8)) h7 5) h3 (T.s 4) = h4 at hl
                    refine lv_iconst (v := nI 0) hx hb dX7_digest_159 (by decide) ?_
                    refine lv_istore_n (lv' := [(3, .int (nI 0)), (0, .ref y_), (1, .long h4)]) hx hb dX7_digest_160 rfl hl (by decide) rfl (fun ls hl => ?_)
                    have L_161 : ∀ (n_161 : Nat) (i_ : Nat) (_ : 70 - i_ < n_161) (ji : i_ ≤ T.s 4 / T.s 0) (Hq : Heap) (lcq : List Loc), va_P G.1 vwCl [(y_, .inr (7, [.ref (ca 0), .ref (ca 1), .ref (ca 2), .int (nI ke), .ref (ca 3), .int (nI ty_), .int (nI 0), .int (nI po), .int (bI fl_), .ref (ca 4), .int (nI tl), .ref (ca 5)])), (ca 0, .inl (G.2.2.1, 103, .inr (.inl (mV T)))), (ca 3, .inl (G.2.1, 60, .inl (fun q9 => nI (cs q9)))), (ca 5, .inl (G.2.2.1, 40, .inr (.inl (er)))), (ca 1, .inl (G.2.2.1, 103, .inr (.inl (f1_))))] Hq → va_D A [(y_, .inr (7, [.ref (ca 0), .ref (ca 1), .ref (ca 2), .int (nI ke), .ref (ca 3), .int (nI ty_), .int (nI 0), .int (nI po), .int (bI fl_), .ref (ca 4), .int (nI tl), .ref (ca 5)])), (ca 0, .inl (G.2.2.1, 103, .inr (.inl (mV T)))), (ca 3, .inl (G.2.1, 60, .inl (fun q9 => nI (cs q9)))), (ca 5, .inl (G.2.2.1, 40, .inr (.inl (er)))), (ca 1, .inl (G.2.2.1, 103, .inr (.inl (f1_))))] → va_S A s.heap Hq lcq → ∀ ls : Array Slot, lv_has ls 5 [(3, .int (nI i_)), (0, .ref y_), (1, .long (fdO (fun q7 h7 => fdO (fun q8 h8 => mx h8 (grA T (rvT T) q7 q8)) h7 4) h4 i_))] → W p l e ({ frames := 5, cells := 0, slots := 0, locals := 120 }) s m args below meth c Hq lcq 0 0 (MQ below (cr_Q G RR A) args s 0 0 A) (F0 m 161 ls []) := by
                      intro n_161
                      induction n_161 with
                      | zero => intro i_ hmu_161; exact absurd hmu_161 (Nat.not_lt_zero _)
                      | succ n_161 ih_161 =>
                        intro i_ hmu_161 ji Hq lcq hP hD hS ls hl
                        refine lv_iload_n hx hb dX7_digest_161 rfl (lv_at hl 0 rfl) ?_
                        refine lv_aload_n hx hb dX7_digest_162 rfl (lv_at hl 1 rfl) ?_
                        refine lv_aload_n hx hb dX7_digest_163 rfl (lv_at hl 1 rfl) ?_
                        refine va_get (D := G.1) (ci := 7) (v := .ref (ca 0)) (C := RX7) (T := TX7) (N := 12) hx hb hts hin7 hown hK hP 0 rfl rfl 0 (by decide) (hts (.fieldLink RX7 7 "PowerTablesModel" "now" "[J") (List.mem_of_getElem? (i := 4) rfl)) (fun _ h9 => h9) rfl dX7_digest_164 ?_
                        refine lv_iconst (v := nI 0) hx hb dX7_digest_167 (by decide) ?_
                        refine ks_lald hx hb hK hP 1 rfl (by omega) (by decide) dX7_digest_168 ?_
                        refine ks_vL (show mV T 0 = lN (T.s 0) from rfl) ?_
                        refine ks_l2iN hx hb dX7_digest_169 ?_
                        refine cr_V (wr := [(ca 3, .inl (G.2.1, 60, .inl (fun q9 => nI (cs q9)))), (ca 5, .inl (G.2.2.1, 40, .inr (.inl (er)))), (ca 1, .inl (G.2.2.1, 103, .inr (.inl (f1_))))]) (As := [.int (nI (T.s 0))]) (rest := [.int (nI i_)]) ⟨hx, hb, hml, hown, hts⟩ (c_X7_groups G l y_ ca ke ty_ 0 po fl_ tl T (T.s 0) (by omega) (by omega) (by omega)) (cwV 1 hts gX7_digest_X7_groups rfl rfl rfl (by decide +kernel) ⟨Nat.le_of_ble_eq_true rfl, Nat.le_of_ble_eq_true rfl⟩) dX7_digest_170 hK hNX hP hD hS hA hl 0 7 rfl rfl rfl [0, 1] [2, 3, 4] rfl rfl rfl rfl (by decide) rfl (Nat.le_of_ble_eq_true rfl) ⟨Nat.le_of_ble_eq_true rfl, Nat.le_of_ble_eq_true rfl⟩ rfl (fun v' w' Hq lcq hR' hP hD hS => ?_)
                        obtain ⟨rfl, rfl⟩ := hR'
                        have hP : va_P G.1 vwCl [(y_, .inr (7, [.ref (ca 0), .ref (ca 1), .ref (ca 2), .int (nI ke), .ref (ca 3), .int (nI ty_), .int (nI 0), .int (nI po), .int (bI fl_), .ref (ca 4), .int (nI tl), .ref (ca 5)])), (ca 0, .inl (G.2.2.1, 103, .inr (.inl (mV T)))), (ca 3, .inl (G.2.1, 60, .inl (fun q9 => nI (cs q9)))), (ca 5, .inl (G.2.2.1, 40, .inr (.inl (er)))), (ca 1, .inl (G.2.2.1, 103, .inr (.inl (f1_))))] _ := hP.sub [3, 4, 0, 1, 2] rfl
                        have hD : va_D A [(y_, .inr (7, [.ref (ca 0), .ref (ca 1), .ref (ca 2), .int (nI ke), .ref (ca 3), .int (nI ty_), .int (nI 0), .int (nI po), .int (bI fl_), .ref (ca 4), .int (nI tl), .ref (ca 5)])), (ca 0, .inl (G.2.2.1, 103, .inr (.inl (mV T)))), (ca 3, .inl (G.2.1, 60, .inl (fun q9 => nI (cs q9)))), (ca 5, .inl (G.2.2.1, 40, .inr (.inl (er)))), (ca 1, .inl (G.2.2.1, 103, .inr (.inl (f1_))))] := hD.sub [3, 4, 0, 1, 2] (by decide +kernel) rfl
                        refine ks_icmp_ge (tgt := 218) hx hb dX7_digest_173 (by decide) (by omega) (by omega) (fun c_173 => ?_) (fun c_173 => ?_)
                        · obtain rfl : i_ = T.s 4 / T.s 0 := by omega
                          generalize eh5 : fdO (fun q7 h7 => fdO (fun q8 h8 => mx h8 (grA T (rvT T) q7 q8)) h7 4) h4 (T.s 4 / T.s 0) = h5 at hl
                          refine lv_iconst (v := nI 0) hx hb dX7_digest_218 (by decide) ?_
                          refine lv_istore_n (lv' := [(3, .int (nI 0)), (0, .ref y_), (1, .long h5)]) hx hb dX7_digest_219 rfl hl (by decide) rfl (fun ls hl => ?_)
                          have L_220 : ∀ (n_220 : Nat) (i_ : Nat) (_ : 70 - i_ < n_220) (ji : i_ ≤ 6) (jz9 : i_ = 0 ∨ 0 < T.s 4) (Hq : Heap) (lcq : List Loc), va_P G.1 vwCl [(y_, .inr (7, [.ref (ca 0), .ref (ca 1), .ref (ca 2), .int (nI ke), .ref (ca 3), .int (nI ty_), .int (nI 0), .int (nI po), .int (bI fl_), .ref (ca 4), .int (nI tl), .ref (ca 5)])), (ca 0, .inl (G.2.2.1, 103, .inr (.inl (mV T)))), (ca 3, .inl (G.2.1, 60, .inl (fun q9 => nI (cs q9)))), (ca 5, .inl (G.2.2.1, 40, .inr (.inl (er)))), (ca 1, .inl (G.2.2.1, 103, .inr (.inl (f1_))))] Hq → va_D A [(y_, .inr (7, [.ref (ca 0), .ref (ca 1), .ref (ca 2), .int (nI ke), .ref (ca 3), .int (nI ty_), .int (nI 0), .int (nI po), .int (bI fl_), .ref (ca 4), .int (nI tl), .ref (ca 5)])), (ca 0, .inl (G.2.2.1, 103, .inr (.inl (mV T)))), (ca 3, .inl (G.2.1, 60, .inl (fun q9 => nI (cs q9)))), (ca 5, .inl (G.2.2.1, 40, .inr (.inl (er)))), (ca 1, .inl (G.2.2.1, 103, .inr (.inl (f1_))))] → va_S A s.heap Hq lcq → ∀ ls : Array Slot, lv_has ls 5 [(3, .int (nI i_)), (0, .ref y_), (1, .long (fdO (fun q8 h8 => mx h8 (dfA T q8 0)) h5 i_))] → W p l e ({ frames := 5, cells := 0, slots := 0, locals := 120 }) s m args below meth c Hq lcq 0 0 (MQ below (cr_Q G RR A) args s 0 0 A) (F0 m 220 ls []) := by
                            intro n_220
                            induction n_220 with
                            | zero => intro i_ hmu_220; exact absurd hmu_220 (Nat.not_lt_zero _)
                            | succ n_220 ih_220 =>
                              intro i_ hmu_220 ji jz9 Hq lcq hP hD hS ls hl
                              refine lv_iload_n hx hb dX7_digest_220 rfl (lv_at hl 0 rfl) ?_
                              refine lv_bipush (v := nI 6) hx hb dX7_digest_221 (by decide) ?_
                              refine ks_icmp_ge (tgt := 256) hx hb dX7_digest_223 (by decide) (by omega) (by omega) (fun c_223 => ?_) (fun c_223 => ?_)
                              · obtain rfl : i_ = 6 := by omega
                                have ehd : fdO (fun q8 h8 => mx h8 (dfA T q8 0)) h5 6 = ddD T h5 := ddD_y (by omega)
                                rw [ehd] at hl
                                generalize eh6 : ddD T h5 = h6 at hl
                                refine lv_iconst (v := nI 0) hx hb dX7_digest_256 (by decide) ?_
                                refine lv_istore_n (lv' := [(3, .int (nI 0)), (0, .ref y_), (1, .long h6)]) hx hb dX7_digest_257 rfl hl (by decide) rfl (fun ls hl => ?_)
                                have L_258 : ∀ (n_258 : Nat) (i_ : Nat) (_ : 70 - i_ < n_258) (ji : i_ ≤ 10) (Hq : Heap) (lcq : List Loc), va_P G.1 vwCl [(y_, .inr (7, [.ref (ca 0), .ref (ca 1), .ref (ca 2), .int (nI ke), .ref (ca 3), .int (nI ty_), .int (nI 0), .int (nI po), .int (bI fl_), .ref (ca 4), .int (nI tl), .ref (ca 5)])), (ca 0, .inl (G.2.2.1, 103, .inr (.inl (mV T)))), (ca 3, .inl (G.2.1, 60, .inl (fun q9 => nI (cs q9)))), (ca 5, .inl (G.2.2.1, 40, .inr (.inl (er)))), (ca 1, .inl (G.2.2.1, 103, .inr (.inl (f1_))))] Hq → va_D A [(y_, .inr (7, [.ref (ca 0), .ref (ca 1), .ref (ca 2), .int (nI ke), .ref (ca 3), .int (nI ty_), .int (nI 0), .int (nI po), .int (bI fl_), .ref (ca 4), .int (nI tl), .ref (ca 5)])), (ca 0, .inl (G.2.2.1, 103, .inr (.inl (mV T)))), (ca 3, .inl (G.2.1, 60, .inl (fun q9 => nI (cs q9)))), (ca 5, .inl (G.2.2.1, 40, .inr (.inl (er)))), (ca 1, .inl (G.2.2.1, 103, .inr (.inl (f1_))))] → va_S A s.heap Hq lcq → ∀ ls : Array Slot, lv_has ls 5 [(3, .int (nI i_)), (0, .ref y_), (1, .long (fdO (fun q8 h8 => mx h8 (lN (T.w q8))) h6 i_))] → W p l e ({ frames := 5, cells := 0, slots := 0, locals := 120 }) s m args below meth c Hq lcq 0 0 (MQ below (cr_Q G RR A) args s 0 0 A) (F0 m 258 ls []) := by
                                  intro n_258
                                  induction n_258 with
                                  | zero => intro i_ hmu_258; exact absurd hmu_258 (Nat.not_lt_zero _)
                                  | succ n_258 ih_258 =>
                                    intro i_ hmu_258 ji Hq lcq hP hD hS ls hl
                                    refine lv_iload_n hx hb dX7_digest_258 rfl (lv_at hl 0 rfl) ?_
                                    refine lv_bipush (v := nI 10) hx hb dX7_digest_259 (by decide) ?_
                                    refine ks_icmp_ge (tgt := 286) hx hb dX7_digest_261 (by decide) (by omega) (by omega) (fun c_261 => ?_) (fun c_261 => ?_)
                                    · obtain rfl : i_ = 10 := by omega
                                      generalize eh7 : fdO (fun q8 h8 => mx h8 (lN (T.w q8))) h6 10 = h7 at hl
                                      refine lv_iconst (v := nI 0) hx hb dX7_digest_286 (by decide) ?_
                                      refine lv_istore_n (lv' := [(3, .int (nI 0)), (0, .ref y_), (1, .long h7)]) hx hb dX7_digest_287 rfl hl (by decide) rfl (fun ls hl => ?_)
                                      have L_288 : ∀ (n_288 : Nat) (i_ : Nat) (e2_ : Nat → Int64) (_ : 70 - i_ < n_288) (ji : i_ ≤ 3) (Hq : Heap) (lcq : List Loc), va_P G.1 vwCl [(y_, .inr (7, [.ref (ca 0), .ref (ca 1), .ref (ca 2), .int (nI ke), .ref (ca 3), .int (nI ty_), .int (nI 0), .int (nI po), .int (bI fl_), .ref (ca 4), .int (nI tl), .ref (ca 5)])), (ca 0, .inl (G.2.2.1, 103, .inr (.inl (mV T)))), (ca 3, .inl (G.2.1, 60, .inl (fun q9 => nI (cs q9)))), (ca 5, .inl (G.2.2.1, 40, .inr (.inl (e2_)))), (ca 1, .inl (G.2.2.1, 103, .inr (.inl (f1_))))] Hq → va_D A [(y_, .inr (7, [.ref (ca 0), .ref (ca 1), .ref (ca 2), .int (nI ke), .ref (ca 3), .int (nI ty_), .int (nI 0), .int (nI po), .int (bI fl_), .ref (ca 4), .int (nI tl), .ref (ca 5)])), (ca 0, .inl (G.2.2.1, 103, .inr (.inl (mV T)))), (ca 3, .inl (G.2.1, 60, .inl (fun q9 => nI (cs q9)))), (ca 5, .inl (G.2.2.1, 40, .inr (.inl (e2_)))), (ca 1, .inl (G.2.2.1, 103, .inr (.inl (f1_))))] → va_S A s.heap Hq lcq → ∀ ls : Array Slot, lv_has ls 5 [(3, .int (nI i_)), (0, .ref y_), (1, .long (fdO (fun q8 h8 => mx h8 (gsA T (rvT T) q8)) h7 i_))] → W p l e ({ frames := 5, cells := 0, slots := 0, locals := 120 }) s m args below meth c Hq lcq 0 0 (MQ below (cr_Q G RR A) args s 0 0 A) (F0 m 288 ls []) := by
                                        intro n_288
                                        induction n_288 with
                                        | zero => intro i_ e2_ hmu_288; exact absurd hmu_288 (Nat.not_lt_zero _)
                                        | succ n_288 ih_288 =>
                                          intro i_ e2_ hmu_288 ji Hq lcq hP hD hS ls hl
                                          refine lv_iload_n hx hb dX7_digest_288 rfl (lv_at hl 0 rfl) ?_
                                          refine lv_iconst (v := nI 3) hx hb dX7_digest_289 (by decide) ?_
                                          refine ks_icmp_ge (tgt := 311) hx hb dX7_digest_290 (by decide) (by omega) (by omega) (fun c_290 => ?_) (fun c_290 => ?_)
                                          · obtain rfl : i_ = 3 := by omega
                                            generalize eh8 : fdO (fun q8 h8 => mx h8 (gsA T (rvT T) q8)) h7 3 = h8 at hl
                                            obtain ⟨e3, ee3⟩ : ∃ e3, e3 = e2_ := ⟨_, rfl⟩
                                            rw [← ee3] at hP hD
                                            refine lv_iconst (v := nI 0) hx hb dX7_digest_311 (by decide) ?_
                                            refine lv_istore_n (lv' := [(3, .int (nI 0)), (0, .ref y_), (1, .long h8)]) hx hb dX7_digest_312 rfl hl (by decide) rfl (fun ls hl => ?_)
                                            have L_313 : ∀ (n_313 : Nat) (i_ : Nat) (f3_ : Nat → Int64) (_ : 70 - i_ < n_313) (ji : i_ ≤ 3) (Hq : Heap) (lcq : List Loc), va_P G.1 vwCl [(y_, .inr (7, [.ref (ca 0), .ref (ca 1), .ref (ca 2), .int (nI ke), .ref (ca 3), .int (nI ty_), .int (nI 0), .int (nI po), .int (bI fl_), .ref (ca 4), .int (nI tl), .ref (ca 5)])), (ca 0, .inl (G.2.2.1, 103, .inr (.inl (mV T)))), (ca 3, .inl (G.2.1, 60, .inl (fun q9 => nI (cs q9)))), (ca 5, .inl (G.2.2.1, 40, .inr (.inl (e3)))), (ca 1, .inl (G.2.2.1, 103, .inr (.inl (f3_))))] Hq → va_D A [(y_, .inr (7, [.ref (ca 0), .ref (ca 1), .ref (ca 2), .int (nI ke), .ref (ca 3), .int (nI ty_), .int (nI 0), .int (nI po), .int (bI fl_), .ref (ca 4), .int (nI tl), .ref (ca 5)])), (ca 0, .inl (G.2.2.1, 103, .inr (.inl (mV T)))), (ca 3, .inl (G.2.1, 60, .inl (fun q9 => nI (cs q9)))), (ca 5, .inl (G.2.2.1, 40, .inr (.inl (e3)))), (ca 1, .inl (G.2.2.1, 103, .inr (.inl (f3_))))] → va_S A s.heap Hq lcq → ∀ ls : Array Slot, lv_has ls 5 [(3, .int (nI i_)), (0, .ref y_), (1, .long (fdO (fun q8 h8 => mx h8 (ipA T 3 q8)) h8 i_))] → W p l e ({ frames := 5, cells := 0, slots := 0, locals := 120 }) s m args below meth c Hq lcq 0 0 (MQ below (cr_Q G RR A) args s 0 0 A) (F0 m 313 ls []) := by
                                              intro n_313
                                              induction n_313 with
                                              | zero => intro i_ f3_ hmu_313; exact absurd hmu_313 (Nat.not_lt_zero _)
                                              | succ n_313 ih_313 =>
                                                intro i_ f3_ hmu_313 ji Hq lcq hP hD hS ls hl
                                                refine lv_iload_n hx hb dX7_digest_313 rfl (lv_at hl 0 rfl) ?_
                                                refine lv_iconst (v := nI 3) hx hb dX7_digest_314 (by decide) ?_
                                                refine ks_icmp_ge (tgt := 337) hx hb dX7_digest_315 (by decide) (by omega) (by omega) (fun c_315 => ?_) (fun c_315 => ?_)
                                                · obtain rfl : i_ = 3 := by omega
                                                  generalize eh9 : fdO (fun q8 h8 => mx h8 (ipA T 3 q8)) h8 3 = h9 at hl
                                                  obtain ⟨f4, ef4⟩ : ∃ f4, f4 = f3_ := ⟨_, rfl⟩
                                                  rw [← ef4] at hP hD
                                                  refine lv_ldc2 hx hb hown (hts (.constantLong RX7 221 (31)) (List.mem_of_getElem? (i := 3) rfl)) dX7_digest_337 ?_
                                                  refine ks_vL (show (31 : Int64) = lN 31 from rfl) ?_
                                                  refine lv_ldc2 hx hb hown (hts (.constantLong RX7 221 (31)) (List.mem_of_getElem? (i := 3) rfl)) dX7_digest_340 ?_
                                                  refine ks_vL (show (31 : Int64) = lN 31 from rfl) ?_
                                                  refine lv_lload_n hx hb dX7_digest_343 rfl (lv_at hl 2 rfl) ?_
                                                  refine lv_lmul hx hb dX7_digest_344 ?_
                                                  refine lv_aload_n hx hb dX7_digest_345 rfl (lv_at hl 1 rfl) ?_
                                                  refine cr_V (wr := [(ca 3, .inl (G.2.1, 60, .inl (fun q9 => nI (cs q9)))), (ca 5, .inl (G.2.2.1, 40, .inr (.inl (e3)))), (ca 1, .inl (G.2.2.1, 103, .inr (.inl (f4))))]) (As := []) (rest := [.long ((lN 31) * h9), .long (lN 31)]) ⟨hx, hb, hml, hown, hts⟩ (c_X7_largest G l y_ ca ke ty_ 0 po fl_ tl T (by omega) (by omega) (by omega)) (cwV 0 hts gX7_digest_X7_largest rfl rfl rfl (by decide +kernel) ⟨Nat.le_of_ble_eq_true rfl, Nat.le_of_ble_eq_true rfl⟩) dX7_digest_346 hK hNX hP hD hS hA hl 0 7 rfl rfl rfl [0, 1] [2, 3, 4] rfl rfl rfl rfl (by decide) rfl (Nat.le_of_ble_eq_true rfl) ⟨Nat.le_of_ble_eq_true rfl, Nat.le_of_ble_eq_true rfl⟩ rfl (fun v' w' Hq lcq hR' hP hD hS => ?_)
                                                  obtain ⟨rfl, rfl⟩ := hR'
                                                  have hP : va_P G.1 vwCl [(y_, .inr (7, [.ref (ca 0), .ref (ca 1), .ref (ca 2), .int (nI ke), .ref (ca 3), .int (nI ty_), .int (nI 0), .int (nI po), .int (bI fl_), .ref (ca 4), .int (nI tl), .ref (ca 5)])), (ca 0, .inl (G.2.2.1, 103, .inr (.inl (mV T)))), (ca 3, .inl (G.2.1, 60, .inl (fun q9 => nI (cs q9)))), (ca 5, .inl (G.2.2.1, 40, .inr (.inl (e3)))), (ca 1, .inl (G.2.2.1, 103, .inr (.inl (f4))))] _ := hP.sub [3, 4, 0, 1, 2] rfl
                                                  have hD : va_D A [(y_, .inr (7, [.ref (ca 0), .ref (ca 1), .ref (ca 2), .int (nI ke), .ref (ca 3), .int (nI ty_), .int (nI 0), .int (nI po), .int (bI fl_), .ref (ca 4), .int (nI tl), .ref (ca 5)])), (ca 0, .inl (G.2.2.1, 103, .inr (.inl (mV T)))), (ca 3, .inl (G.2.1, 60, .inl (fun q9 => nI (cs q9)))), (ca 5, .inl (G.2.2.1, 40, .inr (.inl (e3)))), (ca 1, .inl (G.2.2.1, 103, .inr (.inl (f4))))] := hD.sub [3, 4, 0, 1, 2] (by decide +kernel) rfl
                                                  refine ks_i2lN hx hb dX7_digest_349 (Nat.lt_of_le_of_lt (bgF_le T _ 20) (by decide)) ?_
                                                  refine lv_ladd hx hb dX7_digest_350 ?_
                                                  refine lv_lmul hx hb dX7_digest_351 ?_
                                                  refine lv_aload_n hx hb dX7_digest_352 rfl (lv_at hl 1 rfl) ?_
                                                  refine cr_V (wr := [(ca 3, .inl (G.2.1, 60, .inl (fun q9 => nI (cs q9)))), (ca 5, .inl (G.2.2.1, 40, .inr (.inl (e3)))), (ca 1, .inl (G.2.2.1, 103, .inr (.inl (f4))))]) (As := []) (rest := [.long ((lN 31) * (((lN 31) * h9) + (lN (bgF T (rvT T) 20))))]) ⟨hx, hb, hml, hown, hts⟩ (c_X7_worn G l y_ ca ke ty_ 0 po fl_ tl T (fun d hd => by have := jw d hd; omega)) (cwV 0 hts gX7_digest_X7_worn rfl rfl rfl (by decide +kernel) ⟨Nat.le_of_ble_eq_true rfl, Nat.le_of_ble_eq_true rfl⟩) dX7_digest_353 hK hNX hP hD hS hA hl 0 7 rfl rfl rfl [0, 1] [2, 3, 4] rfl rfl rfl rfl (by decide) rfl (Nat.le_of_ble_eq_true rfl) ⟨Nat.le_of_ble_eq_true rfl, Nat.le_of_ble_eq_true rfl⟩ rfl (fun v' w' Hq lcq hR' hP hD hS => ?_)
                                                  obtain ⟨rfl, rfl⟩ := hR'
                                                  have hP : va_P G.1 vwCl [(y_, .inr (7, [.ref (ca 0), .ref (ca 1), .ref (ca 2), .int (nI ke), .ref (ca 3), .int (nI ty_), .int (nI 0), .int (nI po), .int (bI fl_), .ref (ca 4), .int (nI tl), .ref (ca 5)])), (ca 0, .inl (G.2.2.1, 103, .inr (.inl (mV T)))), (ca 3, .inl (G.2.1, 60, .inl (fun q9 => nI (cs q9)))), (ca 5, .inl (G.2.2.1, 40, .inr (.inl (e3)))), (ca 1, .inl (G.2.2.1, 103, .inr (.inl (f4))))] _ := hP.sub [3, 4, 0, 1, 2] rfl
                                                  have hD : va_D A [(y_, .inr (7, [.ref (ca 0), .ref (ca 1), .ref (ca 2), .int (nI ke), .ref (ca 3), .int (nI ty_), .int (nI 0), .int (nI po), .int (bI fl_), .ref (ca 4), .int (nI tl), .ref (ca 5)])), (ca 0, .inl (G.2.2.1, 103, .inr (.inl (mV T)))), (ca 3, .inl (G.2.1, 60, .inl (fun q9 => nI (cs q9)))), (ca 5, .inl (G.2.2.1, 40, .inr (.inl (e3)))), (ca 1, .inl (G.2.2.1, 103, .inr (.inl (f4))))] := hD.sub [3, 4, 0, 1, 2] (by decide +kernel) rfl
                                                  refine ks_i2lN hx hb dX7_digest_356 (Nat.lt_of_le_of_lt (mwF_le T.w 9) (by decide)) ?_
                                                  refine lv_ladd hx hb dX7_digest_357 ?_
                                                  refine lv_lstore_n (lv' := [(1, .long (((lN 31) * (((lN 31) * h9) + (lN (bgF T (rvT T) 20)))) + (lN (mwF T.w 9)))), (3, .int (nI 3)), (0, .ref y_)]) hx hb dX7_digest_358 rfl hl (by decide) rfl (fun ls hl => ?_)
                                                  refine lv_ldc2 hx hb hown (hts (.constantLong RX7 221 (31)) (List.mem_of_getElem? (i := 3) rfl)) dX7_digest_359 ?_
                                                  refine ks_vL (show (31 : Int64) = lN 31 from rfl) ?_
                                                  refine lv_ldc2 hx hb hown (hts (.constantLong RX7 221 (31)) (List.mem_of_getElem? (i := 3) rfl)) dX7_digest_362 ?_
                                                  refine ks_vL (show (31 : Int64) = lN 31 from rfl) ?_
                                                  refine lv_lload_n hx hb dX7_digest_365 rfl (lv_at hl 0 rfl) ?_
                                                  refine lv_lmul hx hb dX7_digest_366 ?_
                                                  refine lv_aload_n hx hb dX7_digest_367 rfl (lv_at hl 2 rfl) ?_
                                                  refine cr_V (wr := [(ca 3, .inl (G.2.1, 60, .inl (fun q9 => nI (cs q9)))), (ca 5, .inl (G.2.2.1, 40, .inr (.inl (e3)))), (ca 1, .inl (G.2.2.1, 103, .inr (.inl (f4))))]) (As := []) (rest := [.long ((lN 31) * (((lN 31) * (((lN 31) * h9) + (lN (bgF T (rvT T) 20)))) + (lN (mwF T.w 9)))), .long (lN 31)]) ⟨hx, hb, hml, hown, hts⟩ (c_X7_share G l y_ ca ke ty_ 0 po fl_ tl T (by omega) (by omega) (by omega) (jb)) (cwV 0 hts gX7_digest_X7_share rfl rfl rfl (by decide +kernel) ⟨Nat.le_of_ble_eq_true rfl, Nat.le_of_ble_eq_true rfl⟩) dX7_digest_368 hK hNX hP hD hS hA hl 0 7 rfl rfl rfl [0, 1] [2, 3, 4] rfl rfl rfl rfl (by decide) rfl (Nat.le_of_ble_eq_true rfl) ⟨Nat.le_of_ble_eq_true rfl, Nat.le_of_ble_eq_true rfl⟩ rfl (fun v' w' Hq lcq hR' hP hD hS => ?_)
                                                  obtain ⟨rfl, rfl⟩ := hR'
                                                  have hP : va_P G.1 vwCl [(y_, .inr (7, [.ref (ca 0), .ref (ca 1), .ref (ca 2), .int (nI ke), .ref (ca 3), .int (nI ty_), .int (nI 0), .int (nI po), .int (bI fl_), .ref (ca 4), .int (nI tl), .ref (ca 5)])), (ca 0, .inl (G.2.2.1, 103, .inr (.inl (mV T)))), (ca 3, .inl (G.2.1, 60, .inl (fun q9 => nI (cs q9)))), (ca 5, .inl (G.2.2.1, 40, .inr (.inl (e3)))), (ca 1, .inl (G.2.2.1, 103, .inr (.inl (f4))))] _ := hP.sub [3, 4, 0, 1, 2] rfl
                                                  have hD : va_D A [(y_, .inr (7, [.ref (ca 0), .ref (ca 1), .ref (ca 2), .int (nI ke), .ref (ca 3), .int (nI ty_), .int (nI 0), .int (nI po), .int (bI fl_), .ref (ca 4), .int (nI tl), .ref (ca 5)])), (ca 0, .inl (G.2.2.1, 103, .inr (.inl (mV T)))), (ca 3, .inl (G.2.1, 60, .inl (fun q9 => nI (cs q9)))), (ca 5, .inl (G.2.2.1, 40, .inr (.inl (e3)))), (ca 1, .inl (G.2.2.1, 103, .inr (.inl (f4))))] := hD.sub [3, 4, 0, 1, 2] (by decide +kernel) rfl
                                                  refine cr_S (wr := [(y_, .inr (7, [.ref (ca 0), .ref (ca 1), .ref (ca 2), .int (nI ke), .ref (ca 3), .int (nI ty_), .int (nI 0), .int (nI po), .int (bI fl_), .ref (ca 4), .int (nI tl), .ref (ca 5)])), (ca 0, .inl (G.2.2.1, 103, .inr (.inl (mV T)))), (ca 3, .inl (G.2.1, 60, .inl (fun q9 => nI (cs q9)))), (ca 5, .inl (G.2.2.1, 40, .inr (.inl (e3)))), (ca 1, .inl (G.2.2.1, 103, .inr (.inl (f4))))]) (As := [.double (shA (ctN (fun k => T.p k = (rvT T) k ∧ T.b k = 0) (T.s 4)) (T.s 4))]) (rest := [.long ((lN 31) * (((lN 31) * (((lN 31) * h9) + (lN (bgF T (rvT T) 20)))) + (lN (mwF T.w 9)))), .long (lN 31)]) ⟨hx, hb, hml, hown, hts⟩ (c_Jxe99ae_doubleToLongBits_ccdee G l (shA (ctN (fun k => T.p k = (rvT T) k ∧ T.b k = 0) (T.s 4)) (T.s 4)) (sh_self0 _ (by omega) _ (Nat.lt_of_le_of_lt (ctN_le _ _) (by omega)))) (va_cwS 1 hts gX7_digest_Jxe99ae_doubleToLongBits_ccdee rfl rfl rfl (by decide +kernel) ⟨Nat.le_of_ble_eq_true rfl, Nat.le_of_ble_eq_true rfl⟩) dX7_digest_371 hK hNX hP hD hS hA hl [] [0, 1, 2, 3, 4] rfl rfl rfl rfl (by decide) rfl (Nat.le_of_ble_eq_true rfl) ⟨Nat.le_of_ble_eq_true rfl, Nat.le_of_ble_eq_true rfl⟩ rfl (fun v' w' Hq lcq hR' hP hD hS => ?_)
                                                  obtain ⟨rfl, rfl⟩ := hR'
                                                  have hP : va_P G.1 vwCl [(y_, .inr (7, [.ref (ca 0), .ref (ca 1), .ref (ca 2), .int (nI ke), .ref (ca 3), .int (nI ty_), .int (nI 0), .int (nI po), .int (bI fl_), .ref (ca 4), .int (nI tl), .ref (ca 5)])), (ca 0, .inl (G.2.2.1, 103, .inr (.inl (mV T)))), (ca 3, .inl (G.2.1, 60, .inl (fun q9 => nI (cs q9)))), (ca 5, .inl (G.2.2.1, 40, .inr (.inl (e3)))), (ca 1, .inl (G.2.2.1, 103, .inr (.inl (f4))))] _ := hP.sub [0, 1, 2, 3, 4] rfl
                                                  have hD : va_D A [(y_, .inr (7, [.ref (ca 0), .ref (ca 1), .ref (ca 2), .int (nI ke), .ref (ca 3), .int (nI ty_), .int (nI 0), .int (nI po), .int (bI fl_), .ref (ca 4), .int (nI tl), .ref (ca 5)])), (ca 0, .inl (G.2.2.1, 103, .inr (.inl (mV T)))), (ca 3, .inl (G.2.1, 60, .inl (fun q9 => nI (cs q9)))), (ca 5, .inl (G.2.2.1, 40, .inr (.inl (e3)))), (ca 1, .inl (G.2.2.1, 103, .inr (.inl (f4))))] := hD.sub [0, 1, 2, 3, 4] (by decide +kernel) rfl
                                                  refine lv_ladd hx hb dX7_digest_374 ?_
                                                  refine lv_lmul hx hb dX7_digest_375 ?_
                                                  refine lv_aload_n hx hb dX7_digest_376 rfl (lv_at hl 2 rfl) ?_
                                                  refine va_get (D := G.1) (ci := 7) (v := .int (nI ty_)) (C := RX7) (T := TX7) (N := 12) hx hb hts hin7 hown hK hP 0 rfl rfl 5 (by decide) (hts (.fieldLink RX7 119 "PowerTablesModel" "typed" "I") (List.mem_of_getElem? (i := 5) rfl)) (fun _ h9 => h9) rfl dX7_digest_377 ?_
                                                  refine ks_i2lN hx hb dX7_digest_380 (by omega) ?_
                                                  refine lv_ladd hx hb dX7_digest_381 ?_
                                                  refine lv_lstore_n (lv' := [(1, .long (((lN 31) * (((lN 31) * (((lN 31) * (((lN 31) * h9) + (lN (bgF T (rvT T) 20)))) + (lN (mwF T.w 9)))) + ((shA (ctN (fun k => T.p k = (rvT T) k ∧ T.b k = 0) (T.s 4)) (T.s 4)).toInt64))) + (lN ty_))), (3, .int (nI 3)), (0, .ref y_)]) hx hb dX7_digest_382 rfl hl (by decide) rfl (fun ls hl => ?_)
                                                  generalize eh10 : ((lN 31) * (((lN 31) * (((lN 31) * (((lN 31) * h9) + (lN (bgF T (rvT T) 20)))) + (lN (mwF T.w 9)))) + ((shA (ctN (fun k => T.p k = (rvT T) k ∧ T.b k = 0) (T.s 4)) (T.s 4)).toInt64))) + (lN ty_) = h10 at hl
                                                  refine lv_iconst (v := nI 0) hx hb dX7_digest_383 (by decide) ?_
                                                  refine lv_istore_n (lv' := [(3, .int (nI 0)), (1, .long h10), (0, .ref y_)]) hx hb dX7_digest_384 rfl hl (by decide) rfl (fun ls hl => ?_)
                                                  have L_385 : ∀ (n_385 : Nat) (i_ : Nat) (_ : 70 - i_ < n_385) (ji : i_ ≤ ty_) (Hq : Heap) (lcq : List Loc), va_P G.1 vwCl [(y_, .inr (7, [.ref (ca 0), .ref (ca 1), .ref (ca 2), .int (nI ke), .ref (ca 3), .int (nI ty_), .int (nI 0), .int (nI po), .int (bI fl_), .ref (ca 4), .int (nI tl), .ref (ca 5)])), (ca 0, .inl (G.2.2.1, 103, .inr (.inl (mV T)))), (ca 3, .inl (G.2.1, 60, .inl (fun q9 => nI (cs q9)))), (ca 5, .inl (G.2.2.1, 40, .inr (.inl (e3)))), (ca 1, .inl (G.2.2.1, 103, .inr (.inl (f4))))] Hq → va_D A [(y_, .inr (7, [.ref (ca 0), .ref (ca 1), .ref (ca 2), .int (nI ke), .ref (ca 3), .int (nI ty_), .int (nI 0), .int (nI po), .int (bI fl_), .ref (ca 4), .int (nI tl), .ref (ca 5)])), (ca 0, .inl (G.2.2.1, 103, .inr (.inl (mV T)))), (ca 3, .inl (G.2.1, 60, .inl (fun q9 => nI (cs q9)))), (ca 5, .inl (G.2.2.1, 40, .inr (.inl (e3)))), (ca 1, .inl (G.2.2.1, 103, .inr (.inl (f4))))] → va_S A s.heap Hq lcq → ∀ ls : Array Slot, lv_has ls 5 [(3, .int (nI i_)), (0, .ref y_), (1, .long (fdO (fun q8 h8 => mx h8 (lN (cdA cs ty_ q8))) h10 i_))] → W p l e ({ frames := 5, cells := 0, slots := 0, locals := 120 }) s m args below meth c Hq lcq 0 0 (MQ below (cr_Q G RR A) args s 0 0 A) (F0 m 385 ls []) := by
                                                    intro n_385
                                                    induction n_385 with
                                                    | zero => intro i_ hmu_385; exact absurd hmu_385 (Nat.not_lt_zero _)
                                                    | succ n_385 ih_385 =>
                                                      intro i_ hmu_385 ji Hq lcq hP hD hS ls hl
                                                      refine lv_iload_n hx hb dX7_digest_385 rfl (lv_at hl 0 rfl) ?_
                                                      refine lv_aload_n hx hb dX7_digest_386 rfl (lv_at hl 1 rfl) ?_
                                                      refine va_get (D := G.1) (ci := 7) (v := .int (nI ty_)) (C := RX7) (T := TX7) (N := 12) hx hb hts hin7 hown hK hP 0 rfl rfl 5 (by decide) (hts (.fieldLink RX7 119 "PowerTablesModel" "typed" "I") (List.mem_of_getElem? (i := 5) rfl)) (fun _ h9 => h9) rfl dX7_digest_387 ?_
                                                      refine ks_icmp_ge (tgt := 413) hx hb dX7_digest_390 (by decide) (by omega) (by omega) (fun c_390 => ?_) (fun c_390 => ?_)
                                                      · obtain rfl : ty_ = i_ := by omega
                                                        generalize eh11 : fdO (fun q8 h8 => mx h8 (lN (cdA cs ty_ q8))) h10 ty_ = h11 at hl
                                                        refine lv_lload_n hx hb dX7_digest_413 rfl (lv_at hl 2 rfl) ?_
                                                        exact cr_lret hx hb hr hlocks hK hP hD hS dX7_digest_414 (by rw [hRR]; exact ⟨e3, f4, congrArg (fun z => some (Value.long z)) (by subst eh11; rw [← eh10]; rw [← eh9]; rw [← eh8]; rw [← eh7]; rw [← eh6]; rw [← eh5]; rw [← eh4]; rw [← eh3]; rw [← eh2]; rw [← eh1]; rfl), rfl⟩)
                                                      · have jc9 := jcs i_ (by omega)
                                                        refine lv_ldc2 hx hb hown (hts (.constantLong RX7 221 (31)) (List.mem_of_getElem? (i := 3) rfl)) dX7_digest_393 ?_
                                                        refine ks_vL (show (31 : Int64) = lN 31 from rfl) ?_
                                                        refine lv_lload_n hx hb dX7_digest_396 rfl (lv_at hl 2 rfl) ?_
                                                        refine lv_lmul hx hb dX7_digest_397 ?_
                                                        refine lv_aload_n hx hb dX7_digest_398 rfl (lv_at hl 1 rfl) ?_
                                                        refine va_get (D := G.1) (ci := 7) (v := .ref (ca 3)) (C := RX7) (T := TX7) (N := 12) hx hb hts hin7 hown hK hP 0 rfl rfl 4 (by decide) (hts (.fieldLink RX7 19 "PowerTablesModel" "text" "[I") (List.mem_of_getElem? (i := 6) rfl)) (fun _ h9 => h9) rfl dX7_digest_399 ?_
                                                        refine lv_iload_n hx hb dX7_digest_402 rfl (lv_at hl 0 rfl) ?_
                                                        refine ks_iald hx hb hK hP 2 rfl (by omega) (by decide) dX7_digest_403 ?_
                                                        refine ks_i2lN hx hb dX7_digest_404 (by omega) ?_
                                                        refine ks_vL (show lN (cs i_) = lN (cdA cs ty_ i_) from congrArg lN (if_pos c_390).symm) ?_
                                                        refine lv_ladd hx hb dX7_digest_405 ?_
                                                        refine lv_lstore_n (lv' := [(1, .long (((lN 31) * (fdO (fun q8 h8 => mx h8 (lN (cdA cs ty_ q8))) h10 i_)) + (lN (cdA cs ty_ i_)))), (3, .int (nI i_)), (0, .ref y_)]) hx hb dX7_digest_406 rfl hl (by decide) rfl (fun ls hl => ?_)
                                                        refine lv_iinc (v := nI (i_ + 1)) (lv' := [(3, .int (nI (i_ + 1))), (1, .long (((lN 31) * (fdO (fun q8 h8 => mx h8 (lN (cdA cs ty_ q8))) h10 i_)) + (lN (cdA cs ty_ i_)))), (0, .ref y_)]) hx hb dX7_digest_407 hl (k := 1) rfl (ks_inc i_ 1) (by decide) rfl (fun ls hl => ?_)
                                                        refine lv_goto (tgt := 385) hx hb dX7_digest_410 (by decide) ?_
                                                        exact ih_385  (i_ + 1) (by omega) (by omega) _ _ hP hD hS ls (lv_sub hl [0, 2, 1] rfl)
                                                  exact L_385 _ 0 (Nat.lt_succ_self _) (by omega) _ _ hP hD hS ls (lv_sub hl [0, 2, 1] rfl)
                                                · refine lv_ldc2 hx hb hown (hts (.constantLong RX7 221 (31)) (List.mem_of_getElem? (i := 3) rfl)) dX7_digest_318 ?_
                                                  refine ks_vL (show (31 : Int64) = lN 31 from rfl) ?_
                                                  refine lv_lload_n hx hb dX7_digest_321 rfl (lv_at hl 2 rfl) ?_
                                                  refine lv_lmul hx hb dX7_digest_322 ?_
                                                  refine lv_aload_n hx hb dX7_digest_323 rfl (lv_at hl 1 rfl) ?_
                                                  refine lv_iconst (v := nI 3) hx hb dX7_digest_324 (by decide) ?_
                                                  refine lv_iload_n hx hb dX7_digest_325 rfl (lv_at hl 0 rfl) ?_
                                                  refine cr_V (wr := [(ca 3, .inl (G.2.1, 60, .inl (fun q9 => nI (cs q9)))), (ca 5, .inl (G.2.2.1, 40, .inr (.inl (e3))))]) (As := [.int (nI 3), .int (nI i_)]) (rest := [.long ((lN 31) * (fdO (fun q8 h8 => mx h8 (ipA T 3 q8)) h8 i_))]) ⟨hx, hb, hml, hown, hts⟩ (c_X7_byPrinting G l y_ ca ke ty_ 0 po fl_ tl T f3_ 3 i_ (by omega) (by omega) (by omega) (jr) (jw) (by omega) (by omega) (by omega) (by omega) (by omega)) (cwV 2 hts gX7_digest_X7_byPrinting rfl rfl rfl (by decide +kernel) ⟨Nat.le_of_ble_eq_true rfl, Nat.le_of_ble_eq_true rfl⟩) dX7_digest_326 hK hNX hP hD hS hA hl 0 7 rfl rfl rfl [0, 1, 4] [2, 3] rfl rfl rfl rfl (by decide) rfl (Nat.le_of_ble_eq_true rfl) ⟨Nat.le_of_ble_eq_true rfl, Nat.le_of_ble_eq_true rfl⟩ rfl (fun v' w' Hq lcq hR' hP hD hS => ?_)
                                                  obtain ⟨f2_326, rfl, rfl⟩ := hR'
                                                  have hP : va_P G.1 vwCl [(y_, .inr (7, [.ref (ca 0), .ref (ca 1), .ref (ca 2), .int (nI ke), .ref (ca 3), .int (nI ty_), .int (nI 0), .int (nI po), .int (bI fl_), .ref (ca 4), .int (nI tl), .ref (ca 5)])), (ca 0, .inl (G.2.2.1, 103, .inr (.inl (mV T)))), (ca 3, .inl (G.2.1, 60, .inl (fun q9 => nI (cs q9)))), (ca 5, .inl (G.2.2.1, 40, .inr (.inl (e3)))), (ca 1, .inl (G.2.2.1, 103, .inr (.inl (f2_326))))] _ := hP.sub [2, 3, 0, 1, 4] rfl
                                                  have hD : va_D A [(y_, .inr (7, [.ref (ca 0), .ref (ca 1), .ref (ca 2), .int (nI ke), .ref (ca 3), .int (nI ty_), .int (nI 0), .int (nI po), .int (bI fl_), .ref (ca 4), .int (nI tl), .ref (ca 5)])), (ca 0, .inl (G.2.2.1, 103, .inr (.inl (mV T)))), (ca 3, .inl (G.2.1, 60, .inl (fun q9 => nI (cs q9)))), (ca 5, .inl (G.2.2.1, 40, .inr (.inl (e3)))), (ca 1, .inl (G.2.2.1, 103, .inr (.inl (f2_326))))] := hD.sub [2, 3, 0, 1, 4] (by decide +kernel) rfl
                                                  refine lv_ladd hx hb dX7_digest_329 ?_
                                                  refine lv_lstore_n (lv' := [(1, .long (((lN 31) * (fdO (fun q8 h8 => mx h8 (ipA T 3 q8)) h8 i_)) + (ipA T 3 i_))), (3, .int (nI i_)), (0, .ref y_)]) hx hb dX7_digest_330 rfl hl (by decide) rfl (fun ls hl => ?_)
                                                  refine lv_iinc (v := nI (i_ + 1)) (lv' := [(3, .int (nI (i_ + 1))), (1, .long (((lN 31) * (fdO (fun q8 h8 => mx h8 (ipA T 3 q8)) h8 i_)) + (ipA T 3 i_))), (0, .ref y_)]) hx hb dX7_digest_331 hl (k := 1) rfl (ks_inc i_ 1) (by decide) rfl (fun ls hl => ?_)
                                                  refine lv_goto (tgt := 313) hx hb dX7_digest_334 (by decide) ?_
                                                  exact ih_313  (i_ + 1) f2_326 (by omega) (by omega) _ _ hP hD hS ls (lv_sub hl [0, 2, 1] rfl)
                                            exact L_313 _ 0 f1_ (Nat.lt_succ_self _) (by omega) _ _ hP hD hS ls (lv_sub hl [0, 1, 2] rfl)
                                          · refine lv_ldc2 hx hb hown (hts (.constantLong RX7 221 (31)) (List.mem_of_getElem? (i := 3) rfl)) dX7_digest_293 ?_
                                            refine ks_vL (show (31 : Int64) = lN 31 from rfl) ?_
                                            refine lv_lload_n hx hb dX7_digest_296 rfl (lv_at hl 2 rfl) ?_
                                            refine lv_lmul hx hb dX7_digest_297 ?_
                                            refine lv_aload_n hx hb dX7_digest_298 rfl (lv_at hl 1 rfl) ?_
                                            refine lv_iload_n hx hb dX7_digest_299 rfl (lv_at hl 0 rfl) ?_
                                            refine cr_V (wr := [(ca 3, .inl (G.2.1, 60, .inl (fun q9 => nI (cs q9)))), (ca 1, .inl (G.2.2.1, 103, .inr (.inl (f1_))))]) (As := [.int (nI i_)]) (rest := [.long ((lN 31) * (fdO (fun q8 h8 => mx h8 (gsA T (rvT T) q8)) h7 i_))]) ⟨hx, hb, hml, hown, hts⟩ (c_X7_guessed G l y_ ca ke ty_ 0 po fl_ tl T e2_ i_ (by omega) (by omega) (by omega) (by omega)) (cwV 1 hts gX7_digest_X7_guessed rfl rfl rfl (by decide +kernel) ⟨Nat.le_of_ble_eq_true rfl, Nat.le_of_ble_eq_true rfl⟩) dX7_digest_300 hK hNX hP hD hS hA hl 0 7 rfl rfl rfl [0, 1, 3] [2, 4] rfl rfl rfl rfl (by decide) rfl (Nat.le_of_ble_eq_true rfl) ⟨Nat.le_of_ble_eq_true rfl, Nat.le_of_ble_eq_true rfl⟩ rfl (fun v' w' Hq lcq hR' hP hD hS => ?_)
                                            obtain ⟨e9_300, rfl, rfl⟩ := hR'
                                            have hP : va_P G.1 vwCl [(y_, .inr (7, [.ref (ca 0), .ref (ca 1), .ref (ca 2), .int (nI ke), .ref (ca 3), .int (nI ty_), .int (nI 0), .int (nI po), .int (bI fl_), .ref (ca 4), .int (nI tl), .ref (ca 5)])), (ca 0, .inl (G.2.2.1, 103, .inr (.inl (mV T)))), (ca 3, .inl (G.2.1, 60, .inl (fun q9 => nI (cs q9)))), (ca 5, .inl (G.2.2.1, 40, .inr (.inl (e9_300)))), (ca 1, .inl (G.2.2.1, 103, .inr (.inl (f1_))))] _ := hP.sub [2, 3, 0, 4, 1] rfl
                                            have hD : va_D A [(y_, .inr (7, [.ref (ca 0), .ref (ca 1), .ref (ca 2), .int (nI ke), .ref (ca 3), .int (nI ty_), .int (nI 0), .int (nI po), .int (bI fl_), .ref (ca 4), .int (nI tl), .ref (ca 5)])), (ca 0, .inl (G.2.2.1, 103, .inr (.inl (mV T)))), (ca 3, .inl (G.2.1, 60, .inl (fun q9 => nI (cs q9)))), (ca 5, .inl (G.2.2.1, 40, .inr (.inl (e9_300)))), (ca 1, .inl (G.2.2.1, 103, .inr (.inl (f1_))))] := hD.sub [2, 3, 0, 4, 1] (by decide +kernel) rfl
                                            refine lv_ladd hx hb dX7_digest_303 ?_
                                            refine lv_lstore_n (lv' := [(1, .long (((lN 31) * (fdO (fun q8 h8 => mx h8 (gsA T (rvT T) q8)) h7 i_)) + (gsA T (rvT T) i_))), (3, .int (nI i_)), (0, .ref y_)]) hx hb dX7_digest_304 rfl hl (by decide) rfl (fun ls hl => ?_)
                                            refine lv_iinc (v := nI (i_ + 1)) (lv' := [(3, .int (nI (i_ + 1))), (1, .long (((lN 31) * (fdO (fun q8 h8 => mx h8 (gsA T (rvT T) q8)) h7 i_)) + (gsA T (rvT T) i_))), (0, .ref y_)]) hx hb dX7_digest_305 hl (k := 1) rfl (ks_inc i_ 1) (by decide) rfl (fun ls hl => ?_)
                                            refine lv_goto (tgt := 288) hx hb dX7_digest_308 (by decide) ?_
                                            exact ih_288  (i_ + 1) e9_300 (by omega) (by omega) _ _ hP hD hS ls (lv_sub hl [0, 2, 1] rfl)
                                      exact L_288 _ 0 er (Nat.lt_succ_self _) (by omega) _ _ hP hD hS ls (lv_sub hl [0, 1, 2] rfl)
                                    · refine lv_ldc2 hx hb hown (hts (.constantLong RX7 221 (31)) (List.mem_of_getElem? (i := 3) rfl)) dX7_digest_264 ?_
                                      refine ks_vL (show (31 : Int64) = lN 31 from rfl) ?_
                                      refine lv_lload_n hx hb dX7_digest_267 rfl (lv_at hl 2 rfl) ?_
                                      refine lv_lmul hx hb dX7_digest_268 ?_
                                      refine lv_aload_n hx hb dX7_digest_269 rfl (lv_at hl 1 rfl) ?_
                                      refine va_get (D := G.1) (ci := 7) (v := .ref (ca 0)) (C := RX7) (T := TX7) (N := 12) hx hb hts hin7 hown hK hP 0 rfl rfl 0 (by decide) (hts (.fieldLink RX7 7 "PowerTablesModel" "now" "[J") (List.mem_of_getElem? (i := 4) rfl)) (fun _ h9 => h9) rfl dX7_digest_270 ?_
                                      refine lv_bipush (v := nI 13) hx hb dX7_digest_273 (by decide) ?_
                                      refine lv_iload_n hx hb dX7_digest_275 rfl (lv_at hl 0 rfl) ?_
                                      refine ks_iaddN hx hb dX7_digest_276 ?_
                                      refine ks_lald hx hb hK hP 1 rfl (by omega) (by decide) dX7_digest_277 ?_
                                      refine ks_vL (show mV T (13 + i_) = lN (T.w i_) from mV_w (j := i_) (by omega)) ?_
                                      refine lv_ladd hx hb dX7_digest_278 ?_
                                      refine lv_lstore_n (lv' := [(1, .long (((lN 31) * (fdO (fun q8 h8 => mx h8 (lN (T.w q8))) h6 i_)) + (lN (T.w i_)))), (3, .int (nI i_)), (0, .ref y_)]) hx hb dX7_digest_279 rfl hl (by decide) rfl (fun ls hl => ?_)
                                      refine lv_iinc (v := nI (i_ + 1)) (lv' := [(3, .int (nI (i_ + 1))), (1, .long (((lN 31) * (fdO (fun q8 h8 => mx h8 (lN (T.w q8))) h6 i_)) + (lN (T.w i_)))), (0, .ref y_)]) hx hb dX7_digest_280 hl (k := 1) rfl (ks_inc i_ 1) (by decide) rfl (fun ls hl => ?_)
                                      refine lv_goto (tgt := 258) hx hb dX7_digest_283 (by decide) ?_
                                      exact ih_258  (i_ + 1) (by omega) (by omega) _ _ hP hD hS ls (lv_sub hl [0, 2, 1] rfl)
                                exact L_258 _ 0 (Nat.lt_succ_self _) (by omega) _ _ hP hD hS ls (lv_sub hl [0, 1, 2] rfl)
                              · refine lv_aload_n hx hb dX7_digest_226 rfl (lv_at hl 1 rfl) ?_
                                refine va_get (D := G.1) (ci := 7) (v := .ref (ca 0)) (C := RX7) (T := TX7) (N := 12) hx hb hts hin7 hown hK hP 0 rfl rfl 0 (by decide) (hts (.fieldLink RX7 7 "PowerTablesModel" "now" "[J") (List.mem_of_getElem? (i := 4) rfl)) (fun _ h9 => h9) rfl dX7_digest_227 ?_
                                refine lv_iconst (v := nI 4) hx hb dX7_digest_230 (by decide) ?_
                                refine ks_lald hx hb hK hP 1 rfl (by omega) (by decide) dX7_digest_231 ?_
                                refine ks_vL (show mV T 4 = lN (T.s 4) from rfl) ?_
                                refine lv_lconst (v := lN 0) hx hb dX7_digest_232 rfl ?_
                                refine ks_lcN_le (tgt := 256) hx hb dX7_digest_233 dX7_digest_234 (by decide) (by omega) (by omega) (fun c_233 => ?_) (fun c_233 => ?_)
                                · obtain rfl : i_ = 0 := by omega
                                  have ehd : fdO (fun q8 h8 => mx h8 (dfA T q8 0)) h5 0 = ddD T h5 := ddD_n c_233
                                  rw [ehd] at hl
                                  generalize eh6 : ddD T h5 = h6 at hl
                                  refine lv_iconst (v := nI 0) hx hb dX7_digest_256 (by decide) ?_
                                  refine lv_istore_n (lv' := [(3, .int (nI 0)), (0, .ref y_), (1, .long h6)]) hx hb dX7_digest_257 rfl hl (by decide) rfl (fun ls hl => ?_)
                                  have L_258 : ∀ (n_258 : Nat) (i_ : Nat) (_ : 70 - i_ < n_258) (ji : i_ ≤ 10) (Hq : Heap) (lcq : List Loc), va_P G.1 vwCl [(y_, .inr (7, [.ref (ca 0), .ref (ca 1), .ref (ca 2), .int (nI ke), .ref (ca 3), .int (nI ty_), .int (nI 0), .int (nI po), .int (bI fl_), .ref (ca 4), .int (nI tl), .ref (ca 5)])), (ca 0, .inl (G.2.2.1, 103, .inr (.inl (mV T)))), (ca 3, .inl (G.2.1, 60, .inl (fun q9 => nI (cs q9)))), (ca 5, .inl (G.2.2.1, 40, .inr (.inl (er)))), (ca 1, .inl (G.2.2.1, 103, .inr (.inl (f1_))))] Hq → va_D A [(y_, .inr (7, [.ref (ca 0), .ref (ca 1), .ref (ca 2), .int (nI ke), .ref (ca 3), .int (nI ty_), .int (nI 0), .int (nI po), .int (bI fl_), .ref (ca 4), .int (nI tl), .ref (ca 5)])), (ca 0, .inl (G.2.2.1, 103, .inr (.inl (mV T)))), (ca 3, .inl (G.2.1, 60, .inl (fun q9 => nI (cs q9)))), (ca 5, .inl (G.2.2.1, 40, .inr (.inl (er)))), (ca 1, .inl (G.2.2.1, 103, .inr (.inl (f1_))))] → va_S A s.heap Hq lcq → ∀ ls : Array Slot, lv_has ls 5 [(3, .int (nI i_)), (0, .ref y_), (1, .long (fdO (fun q8 h8 => mx h8 (lN (T.w q8))) h6 i_))] → W p l e ({ frames := 5, cells := 0, slots := 0, locals := 120 }) s m args below meth c Hq lcq 0 0 (MQ below (cr_Q G RR A) args s 0 0 A) (F0 m 258 ls []) := by
                                    intro n_258
                                    induction n_258 with
                                    | zero => intro i_ hmu_258; exact absurd hmu_258 (Nat.not_lt_zero _)
                                    | succ n_258 ih_258 =>
                                      intro i_ hmu_258 ji Hq lcq hP hD hS ls hl
                                      refine lv_iload_n hx hb dX7_digest_258 rfl (lv_at hl 0 rfl) ?_
                                      refine lv_bipush (v := nI 10) hx hb dX7_digest_259 (by decide) ?_
                                      refine ks_icmp_ge (tgt := 286) hx hb dX7_digest_261 (by decide) (by omega) (by omega) (fun c_261 => ?_) (fun c_261 => ?_)
                                      · obtain rfl : i_ = 10 := by omega
                                        generalize eh7 : fdO (fun q8 h8 => mx h8 (lN (T.w q8))) h6 10 = h7 at hl
                                        refine lv_iconst (v := nI 0) hx hb dX7_digest_286 (by decide) ?_
                                        refine lv_istore_n (lv' := [(3, .int (nI 0)), (0, .ref y_), (1, .long h7)]) hx hb dX7_digest_287 rfl hl (by decide) rfl (fun ls hl => ?_)
                                        have L_288 : ∀ (n_288 : Nat) (i_ : Nat) (e2_ : Nat → Int64) (_ : 70 - i_ < n_288) (ji : i_ ≤ 3) (Hq : Heap) (lcq : List Loc), va_P G.1 vwCl [(y_, .inr (7, [.ref (ca 0), .ref (ca 1), .ref (ca 2), .int (nI ke), .ref (ca 3), .int (nI ty_), .int (nI 0), .int (nI po), .int (bI fl_), .ref (ca 4), .int (nI tl), .ref (ca 5)])), (ca 0, .inl (G.2.2.1, 103, .inr (.inl (mV T)))), (ca 3, .inl (G.2.1, 60, .inl (fun q9 => nI (cs q9)))), (ca 5, .inl (G.2.2.1, 40, .inr (.inl (e2_)))), (ca 1, .inl (G.2.2.1, 103, .inr (.inl (f1_))))] Hq → va_D A [(y_, .inr (7, [.ref (ca 0), .ref (ca 1), .ref (ca 2), .int (nI ke), .ref (ca 3), .int (nI ty_), .int (nI 0), .int (nI po), .int (bI fl_), .ref (ca 4), .int (nI tl), .ref (ca 5)])), (ca 0, .inl (G.2.2.1, 103, .inr (.inl (mV T)))), (ca 3, .inl (G.2.1, 60, .inl (fun q9 => nI (cs q9)))), (ca 5, .inl (G.2.2.1, 40, .inr (.inl (e2_)))), (ca 1, .inl (G.2.2.1, 103, .inr (.inl (f1_))))] → va_S A s.heap Hq lcq → ∀ ls : Array Slot, lv_has ls 5 [(3, .int (nI i_)), (0, .ref y_), (1, .long (fdO (fun q8 h8 => mx h8 (gsA T (rvT T) q8)) h7 i_))] → W p l e ({ frames := 5, cells := 0, slots := 0, locals := 120 }) s m args below meth c Hq lcq 0 0 (MQ below (cr_Q G RR A) args s 0 0 A) (F0 m 288 ls []) := by
                                          intro n_288
                                          induction n_288 with
                                          | zero => intro i_ e2_ hmu_288; exact absurd hmu_288 (Nat.not_lt_zero _)
                                          | succ n_288 ih_288 =>
                                            intro i_ e2_ hmu_288 ji Hq lcq hP hD hS ls hl
                                            refine lv_iload_n hx hb dX7_digest_288 rfl (lv_at hl 0 rfl) ?_
                                            refine lv_iconst (v := nI 3) hx hb dX7_digest_289 (by decide) ?_
                                            refine ks_icmp_ge (tgt := 311) hx hb dX7_digest_290 (by decide) (by omega) (by omega) (fun c_290 => ?_) (fun c_290 => ?_)
                                            · obtain rfl : i_ = 3 := by omega
                                              generalize eh8 : fdO (fun q8 h8 => mx h8 (gsA T (rvT T) q8)) h7 3 = h8 at hl
                                              obtain ⟨e3, ee3⟩ : ∃ e3, e3 = e2_ := ⟨_, rfl⟩
                                              rw [← ee3] at hP hD
                                              refine lv_iconst (v := nI 0) hx hb dX7_digest_311 (by decide) ?_
                                              refine lv_istore_n (lv' := [(3, .int (nI 0)), (0, .ref y_), (1, .long h8)]) hx hb dX7_digest_312 rfl hl (by decide) rfl (fun ls hl => ?_)
                                              have L_313 : ∀ (n_313 : Nat) (i_ : Nat) (f3_ : Nat → Int64) (_ : 70 - i_ < n_313) (ji : i_ ≤ 3) (Hq : Heap) (lcq : List Loc), va_P G.1 vwCl [(y_, .inr (7, [.ref (ca 0), .ref (ca 1), .ref (ca 2), .int (nI ke), .ref (ca 3), .int (nI ty_), .int (nI 0), .int (nI po), .int (bI fl_), .ref (ca 4), .int (nI tl), .ref (ca 5)])), (ca 0, .inl (G.2.2.1, 103, .inr (.inl (mV T)))), (ca 3, .inl (G.2.1, 60, .inl (fun q9 => nI (cs q9)))), (ca 5, .inl (G.2.2.1, 40, .inr (.inl (e3)))), (ca 1, .inl (G.2.2.1, 103, .inr (.inl (f3_))))] Hq → va_D A [(y_, .inr (7, [.ref (ca 0), .ref (ca 1), .ref (ca 2), .int (nI ke), .ref (ca 3), .int (nI ty_), .int (nI 0), .int (nI po), .int (bI fl_), .ref (ca 4), .int (nI tl), .ref (ca 5)])), (ca 0, .inl (G.2.2.1, 103, .inr (.inl (mV T)))), (ca 3, .inl (G.2.1, 60, .inl (fun q9 => nI (cs q9)))), (ca 5, .inl (G.2.2.1, 40, .inr (.inl (e3)))), (ca 1, .inl (G.2.2.1, 103, .inr (.inl (f3_))))] → va_S A s.heap Hq lcq → ∀ ls : Array Slot, lv_has ls 5 [(3, .int (nI i_)), (0, .ref y_), (1, .long (fdO (fun q8 h8 => mx h8 (ipA T 3 q8)) h8 i_))] → W p l e ({ frames := 5, cells := 0, slots := 0, locals := 120 }) s m args below meth c Hq lcq 0 0 (MQ below (cr_Q G RR A) args s 0 0 A) (F0 m 313 ls []) := by
                                                intro n_313
                                                induction n_313 with
                                                | zero => intro i_ f3_ hmu_313; exact absurd hmu_313 (Nat.not_lt_zero _)
                                                | succ n_313 ih_313 =>
                                                  intro i_ f3_ hmu_313 ji Hq lcq hP hD hS ls hl
                                                  refine lv_iload_n hx hb dX7_digest_313 rfl (lv_at hl 0 rfl) ?_
                                                  refine lv_iconst (v := nI 3) hx hb dX7_digest_314 (by decide) ?_
                                                  refine ks_icmp_ge (tgt := 337) hx hb dX7_digest_315 (by decide) (by omega) (by omega) (fun c_315 => ?_) (fun c_315 => ?_)
                                                  · obtain rfl : i_ = 3 := by omega
                                                    generalize eh9 : fdO (fun q8 h8 => mx h8 (ipA T 3 q8)) h8 3 = h9 at hl
                                                    obtain ⟨f4, ef4⟩ : ∃ f4, f4 = f3_ := ⟨_, rfl⟩
                                                    rw [← ef4] at hP hD
                                                    refine lv_ldc2 hx hb hown (hts (.constantLong RX7 221 (31)) (List.mem_of_getElem? (i := 3) rfl)) dX7_digest_337 ?_
                                                    refine ks_vL (show (31 : Int64) = lN 31 from rfl) ?_
                                                    refine lv_ldc2 hx hb hown (hts (.constantLong RX7 221 (31)) (List.mem_of_getElem? (i := 3) rfl)) dX7_digest_340 ?_
                                                    refine ks_vL (show (31 : Int64) = lN 31 from rfl) ?_
                                                    refine lv_lload_n hx hb dX7_digest_343 rfl (lv_at hl 2 rfl) ?_
                                                    refine lv_lmul hx hb dX7_digest_344 ?_
                                                    refine lv_aload_n hx hb dX7_digest_345 rfl (lv_at hl 1 rfl) ?_
                                                    refine cr_V (wr := [(ca 3, .inl (G.2.1, 60, .inl (fun q9 => nI (cs q9)))), (ca 5, .inl (G.2.2.1, 40, .inr (.inl (e3)))), (ca 1, .inl (G.2.2.1, 103, .inr (.inl (f4))))]) (As := []) (rest := [.long ((lN 31) * h9), .long (lN 31)]) ⟨hx, hb, hml, hown, hts⟩ (c_X7_largest G l y_ ca ke ty_ 0 po fl_ tl T (by omega) (by omega) (by omega)) (cwV 0 hts gX7_digest_X7_largest rfl rfl rfl (by decide +kernel) ⟨Nat.le_of_ble_eq_true rfl, Nat.le_of_ble_eq_true rfl⟩) dX7_digest_346 hK hNX hP hD hS hA hl 0 7 rfl rfl rfl [0, 1] [2, 3, 4] rfl rfl rfl rfl (by decide) rfl (Nat.le_of_ble_eq_true rfl) ⟨Nat.le_of_ble_eq_true rfl, Nat.le_of_ble_eq_true rfl⟩ rfl (fun v' w' Hq lcq hR' hP hD hS => ?_)
                                                    obtain ⟨rfl, rfl⟩ := hR'
                                                    have hP : va_P G.1 vwCl [(y_, .inr (7, [.ref (ca 0), .ref (ca 1), .ref (ca 2), .int (nI ke), .ref (ca 3), .int (nI ty_), .int (nI 0), .int (nI po), .int (bI fl_), .ref (ca 4), .int (nI tl), .ref (ca 5)])), (ca 0, .inl (G.2.2.1, 103, .inr (.inl (mV T)))), (ca 3, .inl (G.2.1, 60, .inl (fun q9 => nI (cs q9)))), (ca 5, .inl (G.2.2.1, 40, .inr (.inl (e3)))), (ca 1, .inl (G.2.2.1, 103, .inr (.inl (f4))))] _ := hP.sub [3, 4, 0, 1, 2] rfl
                                                    have hD : va_D A [(y_, .inr (7, [.ref (ca 0), .ref (ca 1), .ref (ca 2), .int (nI ke), .ref (ca 3), .int (nI ty_), .int (nI 0), .int (nI po), .int (bI fl_), .ref (ca 4), .int (nI tl), .ref (ca 5)])), (ca 0, .inl (G.2.2.1, 103, .inr (.inl (mV T)))), (ca 3, .inl (G.2.1, 60, .inl (fun q9 => nI (cs q9)))), (ca 5, .inl (G.2.2.1, 40, .inr (.inl (e3)))), (ca 1, .inl (G.2.2.1, 103, .inr (.inl (f4))))] := hD.sub [3, 4, 0, 1, 2] (by decide +kernel) rfl
                                                    refine ks_i2lN hx hb dX7_digest_349 (Nat.lt_of_le_of_lt (bgF_le T _ 20) (by decide)) ?_
                                                    refine lv_ladd hx hb dX7_digest_350 ?_
                                                    refine lv_lmul hx hb dX7_digest_351 ?_
                                                    refine lv_aload_n hx hb dX7_digest_352 rfl (lv_at hl 1 rfl) ?_
                                                    refine cr_V (wr := [(ca 3, .inl (G.2.1, 60, .inl (fun q9 => nI (cs q9)))), (ca 5, .inl (G.2.2.1, 40, .inr (.inl (e3)))), (ca 1, .inl (G.2.2.1, 103, .inr (.inl (f4))))]) (As := []) (rest := [.long ((lN 31) * (((lN 31) * h9) + (lN (bgF T (rvT T) 20))))]) ⟨hx, hb, hml, hown, hts⟩ (c_X7_worn G l y_ ca ke ty_ 0 po fl_ tl T (fun d hd => by have := jw d hd; omega)) (cwV 0 hts gX7_digest_X7_worn rfl rfl rfl (by decide +kernel) ⟨Nat.le_of_ble_eq_true rfl, Nat.le_of_ble_eq_true rfl⟩) dX7_digest_353 hK hNX hP hD hS hA hl 0 7 rfl rfl rfl [0, 1] [2, 3, 4] rfl rfl rfl rfl (by decide) rfl (Nat.le_of_ble_eq_true rfl) ⟨Nat.le_of_ble_eq_true rfl, Nat.le_of_ble_eq_true rfl⟩ rfl (fun v' w' Hq lcq hR' hP hD hS => ?_)
                                                    obtain ⟨rfl, rfl⟩ := hR'
                                                    have hP : va_P G.1 vwCl [(y_, .inr (7, [.ref (ca 0), .ref (ca 1), .ref (ca 2), .int (nI ke), .ref (ca 3), .int (nI ty_), .int (nI 0), .int (nI po), .int (bI fl_), .ref (ca 4), .int (nI tl), .ref (ca 5)])), (ca 0, .inl (G.2.2.1, 103, .inr (.inl (mV T)))), (ca 3, .inl (G.2.1, 60, .inl (fun q9 => nI (cs q9)))), (ca 5, .inl (G.2.2.1, 40, .inr (.inl (e3)))), (ca 1, .inl (G.2.2.1, 103, .inr (.inl (f4))))] _ := hP.sub [3, 4, 0, 1, 2] rfl
                                                    have hD : va_D A [(y_, .inr (7, [.ref (ca 0), .ref (ca 1), .ref (ca 2), .int (nI ke), .ref (ca 3), .int (nI ty_), .int (nI 0), .int (nI po), .int (bI fl_), .ref (ca 4), .int (nI tl), .ref (ca 5)])), (ca 0, .inl (G.2.2.1, 103, .inr (.inl (mV T)))), (ca 3, .inl (G.2.1, 60, .inl (fun q9 => nI (cs q9)))), (ca 5, .inl (G.2.2.1, 40, .inr (.inl (e3)))), (ca 1, .inl (G.2.2.1, 103, .inr (.inl (f4))))] := hD.sub [3, 4, 0, 1, 2] (by decide +kernel) rfl
                                                    refine ks_i2lN hx hb dX7_digest_356 (Nat.lt_of_le_of_lt (mwF_le T.w 9) (by decide)) ?_
                                                    refine lv_ladd hx hb dX7_digest_357 ?_
                                                    refine lv_lstore_n (lv' := [(1, .long (((lN 31) * (((lN 31) * h9) + (lN (bgF T (rvT T) 20)))) + (lN (mwF T.w 9)))), (3, .int (nI 3)), (0, .ref y_)]) hx hb dX7_digest_358 rfl hl (by decide) rfl (fun ls hl => ?_)
                                                    refine lv_ldc2 hx hb hown (hts (.constantLong RX7 221 (31)) (List.mem_of_getElem? (i := 3) rfl)) dX7_digest_359 ?_
                                                    refine ks_vL (show (31 : Int64) = lN 31 from rfl) ?_
                                                    refine lv_ldc2 hx hb hown (hts (.constantLong RX7 221 (31)) (List.mem_of_getElem? (i := 3) rfl)) dX7_digest_362 ?_
                                                    refine ks_vL (show (31 : Int64) = lN 31 from rfl) ?_
                                                    refine lv_lload_n hx hb dX7_digest_365 rfl (lv_at hl 0 rfl) ?_
                                                    refine lv_lmul hx hb dX7_digest_366 ?_
                                                    refine lv_aload_n hx hb dX7_digest_367 rfl (lv_at hl 2 rfl) ?_
                                                    refine cr_V (wr := [(ca 3, .inl (G.2.1, 60, .inl (fun q9 => nI (cs q9)))), (ca 5, .inl (G.2.2.1, 40, .inr (.inl (e3)))), (ca 1, .inl (G.2.2.1, 103, .inr (.inl (f4))))]) (As := []) (rest := [.long ((lN 31) * (((lN 31) * (((lN 31) * h9) + (lN (bgF T (rvT T) 20)))) + (lN (mwF T.w 9)))), .long (lN 31)]) ⟨hx, hb, hml, hown, hts⟩ (c_X7_share G l y_ ca ke ty_ 0 po fl_ tl T (by omega) (by omega) (by omega) (jb)) (cwV 0 hts gX7_digest_X7_share rfl rfl rfl (by decide +kernel) ⟨Nat.le_of_ble_eq_true rfl, Nat.le_of_ble_eq_true rfl⟩) dX7_digest_368 hK hNX hP hD hS hA hl 0 7 rfl rfl rfl [0, 1] [2, 3, 4] rfl rfl rfl rfl (by decide) rfl (Nat.le_of_ble_eq_true rfl) ⟨Nat.le_of_ble_eq_true rfl, Nat.le_of_ble_eq_true rfl⟩ rfl (fun v' w' Hq lcq hR' hP hD hS => ?_)
                                                    obtain ⟨rfl, rfl⟩ := hR'
                                                    have hP : va_P G.1 vwCl [(y_, .inr (7, [.ref (ca 0), .ref (ca 1), .ref (ca 2), .int (nI ke), .ref (ca 3), .int (nI ty_), .int (nI 0), .int (nI po), .int (bI fl_), .ref (ca 4), .int (nI tl), .ref (ca 5)])), (ca 0, .inl (G.2.2.1, 103, .inr (.inl (mV T)))), (ca 3, .inl (G.2.1, 60, .inl (fun q9 => nI (cs q9)))), (ca 5, .inl (G.2.2.1, 40, .inr (.inl (e3)))), (ca 1, .inl (G.2.2.1, 103, .inr (.inl (f4))))] _ := hP.sub [3, 4, 0, 1, 2] rfl
                                                    have hD : va_D A [(y_, .inr (7, [.ref (ca 0), .ref (ca 1), .ref (ca 2), .int (nI ke), .ref (ca 3), .int (nI ty_), .int (nI 0), .int (nI po), .int (bI fl_), .ref (ca 4), .int (nI tl), .ref (ca 5)])), (ca 0, .inl (G.2.2.1, 103, .inr (.inl (mV T)))), (ca 3, .inl (G.2.1, 60, .inl (fun q9 => nI (cs q9)))), (ca 5, .inl (G.2.2.1, 40, .inr (.inl (e3)))), (ca 1, .inl (G.2.2.1, 103, .inr (.inl (f4))))] := hD.sub [3, 4, 0, 1, 2] (by decide +kernel) rfl
                                                    refine cr_S (wr := [(y_, .inr (7, [.ref (ca 0), .ref (ca 1), .ref (ca 2), .int (nI ke), .ref (ca 3), .int (nI ty_), .int (nI 0), .int (nI po), .int (bI fl_), .ref (ca 4), .int (nI tl), .ref (ca 5)])), (ca 0, .inl (G.2.2.1, 103, .inr (.inl (mV T)))), (ca 3, .inl (G.2.1, 60, .inl (fun q9 => nI (cs q9)))), (ca 5, .inl (G.2.2.1, 40, .inr (.inl (e3)))), (ca 1, .inl (G.2.2.1, 103, .inr (.inl (f4))))]) (As := [.double (shA (ctN (fun k => T.p k = (rvT T) k ∧ T.b k = 0) (T.s 4)) (T.s 4))]) (rest := [.long ((lN 31) * (((lN 31) * (((lN 31) * h9) + (lN (bgF T (rvT T) 20)))) + (lN (mwF T.w 9)))), .long (lN 31)]) ⟨hx, hb, hml, hown, hts⟩ (c_Jxe99ae_doubleToLongBits_ccdee G l (shA (ctN (fun k => T.p k = (rvT T) k ∧ T.b k = 0) (T.s 4)) (T.s 4)) (sh_self0 _ (by omega) _ (Nat.lt_of_le_of_lt (ctN_le _ _) (by omega)))) (va_cwS 1 hts gX7_digest_Jxe99ae_doubleToLongBits_ccdee rfl rfl rfl (by decide +kernel) ⟨Nat.le_of_ble_eq_true rfl, Nat.le_of_ble_eq_true rfl⟩) dX7_digest_371 hK hNX hP hD hS hA hl [] [0, 1, 2, 3, 4] rfl rfl rfl rfl (by decide) rfl (Nat.le_of_ble_eq_true rfl) ⟨Nat.le_of_ble_eq_true rfl, Nat.le_of_ble_eq_true rfl⟩ rfl (fun v' w' Hq lcq hR' hP hD hS => ?_)
                                                    obtain ⟨rfl, rfl⟩ := hR'
                                                    have hP : va_P G.1 vwCl [(y_, .inr (7, [.ref (ca 0), .ref (ca 1), .ref (ca 2), .int (nI ke), .ref (ca 3), .int (nI ty_), .int (nI 0), .int (nI po), .int (bI fl_), .ref (ca 4), .int (nI tl), .ref (ca 5)])), (ca 0, .inl (G.2.2.1, 103, .inr (.inl (mV T)))), (ca 3, .inl (G.2.1, 60, .inl (fun q9 => nI (cs q9)))), (ca 5, .inl (G.2.2.1, 40, .inr (.inl (e3)))), (ca 1, .inl (G.2.2.1, 103, .inr (.inl (f4))))] _ := hP.sub [0, 1, 2, 3, 4] rfl
                                                    have hD : va_D A [(y_, .inr (7, [.ref (ca 0), .ref (ca 1), .ref (ca 2), .int (nI ke), .ref (ca 3), .int (nI ty_), .int (nI 0), .int (nI po), .int (bI fl_), .ref (ca 4), .int (nI tl), .ref (ca 5)])), (ca 0, .inl (G.2.2.1, 103, .inr (.inl (mV T)))), (ca 3, .inl (G.2.1, 60, .inl (fun q9 => nI (cs q9)))), (ca 5, .inl (G.2.2.1, 40, .inr (.inl (e3)))), (ca 1, .inl (G.2.2.1, 103, .inr (.inl (f4))))] := hD.sub [0, 1, 2, 3, 4] (by decide +kernel) rfl
                                                    refine lv_ladd hx hb dX7_digest_374 ?_
                                                    refine lv_lmul hx hb dX7_digest_375 ?_
                                                    refine lv_aload_n hx hb dX7_digest_376 rfl (lv_at hl 2 rfl) ?_
                                                    refine va_get (D := G.1) (ci := 7) (v := .int (nI ty_)) (C := RX7) (T := TX7) (N := 12) hx hb hts hin7 hown hK hP 0 rfl rfl 5 (by decide) (hts (.fieldLink RX7 119 "PowerTablesModel" "typed" "I") (List.mem_of_getElem? (i := 5) rfl)) (fun _ h9 => h9) rfl dX7_digest_377 ?_
                                                    refine ks_i2lN hx hb dX7_digest_380 (by omega) ?_
                                                    refine lv_ladd hx hb dX7_digest_381 ?_
                                                    refine lv_lstore_n (lv' := [(1, .long (((lN 31) * (((lN 31) * (((lN 31) * (((lN 31) * h9) + (lN (bgF T (rvT T) 20)))) + (lN (mwF T.w 9)))) + ((shA (ctN (fun k => T.p k = (rvT T) k ∧ T.b k = 0) (T.s 4)) (T.s 4)).toInt64))) + (lN ty_))), (3, .int (nI 3)), (0, .ref y_)]) hx hb dX7_digest_382 rfl hl (by decide) rfl (fun ls hl => ?_)
                                                    generalize eh10 : ((lN 31) * (((lN 31) * (((lN 31) * (((lN 31) * h9) + (lN (bgF T (rvT T) 20)))) + (lN (mwF T.w 9)))) + ((shA (ctN (fun k => T.p k = (rvT T) k ∧ T.b k = 0) (T.s 4)) (T.s 4)).toInt64))) + (lN ty_) = h10 at hl
                                                    refine lv_iconst (v := nI 0) hx hb dX7_digest_383 (by decide) ?_
                                                    refine lv_istore_n (lv' := [(3, .int (nI 0)), (1, .long h10), (0, .ref y_)]) hx hb dX7_digest_384 rfl hl (by decide) rfl (fun ls hl => ?_)
                                                    have L_385 : ∀ (n_385 : Nat) (i_ : Nat) (_ : 70 - i_ < n_385) (ji : i_ ≤ ty_) (Hq : Heap) (lcq : List Loc), va_P G.1 vwCl [(y_, .inr (7, [.ref (ca 0), .ref (ca 1), .ref (ca 2), .int (nI ke), .ref (ca 3), .int (nI ty_), .int (nI 0), .int (nI po), .int (bI fl_), .ref (ca 4), .int (nI tl), .ref (ca 5)])), (ca 0, .inl (G.2.2.1, 103, .inr (.inl (mV T)))), (ca 3, .inl (G.2.1, 60, .inl (fun q9 => nI (cs q9)))), (ca 5, .inl (G.2.2.1, 40, .inr (.inl (e3)))), (ca 1, .inl (G.2.2.1, 103, .inr (.inl (f4))))] Hq → va_D A [(y_, .inr (7, [.ref (ca 0), .ref (ca 1), .ref (ca 2), .int (nI ke), .ref (ca 3), .int (nI ty_), .int (nI 0), .int (nI po), .int (bI fl_), .ref (ca 4), .int (nI tl), .ref (ca 5)])), (ca 0, .inl (G.2.2.1, 103, .inr (.inl (mV T)))), (ca 3, .inl (G.2.1, 60, .inl (fun q9 => nI (cs q9)))), (ca 5, .inl (G.2.2.1, 40, .inr (.inl (e3)))), (ca 1, .inl (G.2.2.1, 103, .inr (.inl (f4))))] → va_S A s.heap Hq lcq → ∀ ls : Array Slot, lv_has ls 5 [(3, .int (nI i_)), (0, .ref y_), (1, .long (fdO (fun q8 h8 => mx h8 (lN (cdA cs ty_ q8))) h10 i_))] → W p l e ({ frames := 5, cells := 0, slots := 0, locals := 120 }) s m args below meth c Hq lcq 0 0 (MQ below (cr_Q G RR A) args s 0 0 A) (F0 m 385 ls []) := by
                                                      intro n_385
                                                      induction n_385 with
                                                      | zero => intro i_ hmu_385; exact absurd hmu_385 (Nat.not_lt_zero _)
                                                      | succ n_385 ih_385 =>
                                                        intro i_ hmu_385 ji Hq lcq hP hD hS ls hl
                                                        refine lv_iload_n hx hb dX7_digest_385 rfl (lv_at hl 0 rfl) ?_
                                                        refine lv_aload_n hx hb dX7_digest_386 rfl (lv_at hl 1 rfl) ?_
                                                        refine va_get (D := G.1) (ci := 7) (v := .int (nI ty_)) (C := RX7) (T := TX7) (N := 12) hx hb hts hin7 hown hK hP 0 rfl rfl 5 (by decide) (hts (.fieldLink RX7 119 "PowerTablesModel" "typed" "I") (List.mem_of_getElem? (i := 5) rfl)) (fun _ h9 => h9) rfl dX7_digest_387 ?_
                                                        refine ks_icmp_ge (tgt := 413) hx hb dX7_digest_390 (by decide) (by omega) (by omega) (fun c_390 => ?_) (fun c_390 => ?_)
                                                        · obtain rfl : ty_ = i_ := by omega
                                                          generalize eh11 : fdO (fun q8 h8 => mx h8 (lN (cdA cs ty_ q8))) h10 ty_ = h11 at hl
                                                          refine lv_lload_n hx hb dX7_digest_413 rfl (lv_at hl 2 rfl) ?_
                                                          exact cr_lret hx hb hr hlocks hK hP hD hS dX7_digest_414 (by rw [hRR]; exact ⟨e3, f4, congrArg (fun z => some (Value.long z)) (by subst eh11; rw [← eh10]; rw [← eh9]; rw [← eh8]; rw [← eh7]; rw [← eh6]; rw [← eh5]; rw [← eh4]; rw [← eh3]; rw [← eh2]; rw [← eh1]; rfl), rfl⟩)
                                                        · have jc9 := jcs i_ (by omega)
                                                          refine lv_ldc2 hx hb hown (hts (.constantLong RX7 221 (31)) (List.mem_of_getElem? (i := 3) rfl)) dX7_digest_393 ?_
                                                          refine ks_vL (show (31 : Int64) = lN 31 from rfl) ?_
                                                          refine lv_lload_n hx hb dX7_digest_396 rfl (lv_at hl 2 rfl) ?_
                                                          refine lv_lmul hx hb dX7_digest_397 ?_
                                                          refine lv_aload_n hx hb dX7_digest_398 rfl (lv_at hl 1 rfl) ?_
                                                          refine va_get (D := G.1) (ci := 7) (v := .ref (ca 3)) (C := RX7) (T := TX7) (N := 12) hx hb hts hin7 hown hK hP 0 rfl rfl 4 (by decide) (hts (.fieldLink RX7 19 "PowerTablesModel" "text" "[I") (List.mem_of_getElem? (i := 6) rfl)) (fun _ h9 => h9) rfl dX7_digest_399 ?_
                                                          refine lv_iload_n hx hb dX7_digest_402 rfl (lv_at hl 0 rfl) ?_
                                                          refine ks_iald hx hb hK hP 2 rfl (by omega) (by decide) dX7_digest_403 ?_
                                                          refine ks_i2lN hx hb dX7_digest_404 (by omega) ?_
                                                          refine ks_vL (show lN (cs i_) = lN (cdA cs ty_ i_) from congrArg lN (if_pos c_390).symm) ?_
                                                          refine lv_ladd hx hb dX7_digest_405 ?_
                                                          refine lv_lstore_n (lv' := [(1, .long (((lN 31) * (fdO (fun q8 h8 => mx h8 (lN (cdA cs ty_ q8))) h10 i_)) + (lN (cdA cs ty_ i_)))), (3, .int (nI i_)), (0, .ref y_)]) hx hb dX7_digest_406 rfl hl (by decide) rfl (fun ls hl => ?_)
                                                          refine lv_iinc (v := nI (i_ + 1)) (lv' := [(3, .int (nI (i_ + 1))), (1, .long (((lN 31) * (fdO (fun q8 h8 => mx h8 (lN (cdA cs ty_ q8))) h10 i_)) + (lN (cdA cs ty_ i_)))), (0, .ref y_)]) hx hb dX7_digest_407 hl (k := 1) rfl (ks_inc i_ 1) (by decide) rfl (fun ls hl => ?_)
                                                          refine lv_goto (tgt := 385) hx hb dX7_digest_410 (by decide) ?_
                                                          exact ih_385  (i_ + 1) (by omega) (by omega) _ _ hP hD hS ls (lv_sub hl [0, 2, 1] rfl)
                                                    exact L_385 _ 0 (Nat.lt_succ_self _) (by omega) _ _ hP hD hS ls (lv_sub hl [0, 2, 1] rfl)
                                                  · refine lv_ldc2 hx hb hown (hts (.constantLong RX7 221 (31)) (List.mem_of_getElem? (i := 3) rfl)) dX7_digest_318 ?_
                                                    refine ks_vL (show (31 : Int64) = lN 31 from rfl) ?_
                                                    refine lv_lload_n hx hb dX7_digest_321 rfl (lv_at hl 2 rfl) ?_
                                                    refine lv_lmul hx hb dX7_digest_322 ?_
                                                    refine lv_aload_n hx hb dX7_digest_323 rfl (lv_at hl 1 rfl) ?_
                                                    refine lv_iconst (v := nI 3) hx hb dX7_digest_324 (by decide) ?_
                                                    refine lv_iload_n hx hb dX7_digest_325 rfl (lv_at hl 0 rfl) ?_
                                                    refine cr_V (wr := [(ca 3, .inl (G.2.1, 60, .inl (fun q9 => nI (cs q9)))), (ca 5, .inl (G.2.2.1, 40, .inr (.inl (e3))))]) (As := [.int (nI 3), .int (nI i_)]) (rest := [.long ((lN 31) * (fdO (fun q8 h8 => mx h8 (ipA T 3 q8)) h8 i_))]) ⟨hx, hb, hml, hown, hts⟩ (c_X7_byPrinting G l y_ ca ke ty_ 0 po fl_ tl T f3_ 3 i_ (by omega) (by omega) (by omega) (jr) (jw) (by omega) (by omega) (by omega) (by omega) (by omega)) (cwV 2 hts gX7_digest_X7_byPrinting rfl rfl rfl (by decide +kernel) ⟨Nat.le_of_ble_eq_true rfl, Nat.le_of_ble_eq_true rfl⟩) dX7_digest_326 hK hNX hP hD hS hA hl 0 7 rfl rfl rfl [0, 1, 4] [2, 3] rfl rfl rfl rfl (by decide) rfl (Nat.le_of_ble_eq_true rfl) ⟨Nat.le_of_ble_eq_true rfl, Nat.le_of_ble_eq_true rfl⟩ rfl (fun v' w' Hq lcq hR' hP hD hS => ?_)
                                                    obtain ⟨f2_326, rfl, rfl⟩ := hR'
                                                    have hP : va_P G.1 vwCl [(y_, .inr (7, [.ref (ca 0), .ref (ca 1), .ref (ca 2), .int (nI ke), .ref (ca 3), .int (nI ty_), .int (nI 0), .int (nI po), .int (bI fl_), .ref (ca 4), .int (nI tl), .ref (ca 5)])), (ca 0, .inl (G.2.2.1, 103, .inr (.inl (mV T)))), (ca 3, .inl (G.2.1, 60, .inl (fun q9 => nI (cs q9)))), (ca 5, .inl (G.2.2.1, 40, .inr (.inl (e3)))), (ca 1, .inl (G.2.2.1, 103, .inr (.inl (f2_326))))] _ := hP.sub [2, 3, 0, 1, 4] rfl
                                                    have hD : va_D A [(y_, .inr (7, [.ref (ca 0), .ref (ca 1), .ref (ca 2), .int (nI ke), .ref (ca 3), .int (nI ty_), .int (nI 0), .int (nI po), .int (bI fl_), .ref (ca 4), .int (nI tl), .ref (ca 5)])), (ca 0, .inl (G.2.2.1, 103, .inr (.inl (mV T)))), (ca 3, .inl (G.2.1, 60, .inl (fun q9 => nI (cs q9)))), (ca 5, .inl (G.2.2.1, 40, .inr (.inl (e3)))), (ca 1, .inl (G.2.2.1, 103, .inr (.inl (f2_326))))] := hD.sub [2, 3, 0, 1, 4] (by decide +kernel) rfl
                                                    refine lv_ladd hx hb dX7_digest_329 ?_
                                                    refine lv_lstore_n (lv' := [(1, .long (((lN 31) * (fdO (fun q8 h8 => mx h8 (ipA T 3 q8)) h8 i_)) + (ipA T 3 i_))), (3, .int (nI i_)), (0, .ref y_)]) hx hb dX7_digest_330 rfl hl (by decide) rfl (fun ls hl => ?_)
                                                    refine lv_iinc (v := nI (i_ + 1)) (lv' := [(3, .int (nI (i_ + 1))), (1, .long (((lN 31) * (fdO (fun q8 h8 => mx h8 (ipA T 3 q8)) h8 i_)) + (ipA T 3 i_))), (0, .ref y_)]) hx hb dX7_digest_331 hl (k := 1) rfl (ks_inc i_ 1) (by decide) rfl (fun ls hl => ?_)
                                                    refine lv_goto (tgt := 313) hx hb dX7_digest_334 (by decide) ?_
                                                    exact ih_313  (i_ + 1) f2_326 (by omega) (by omega) _ _ hP hD hS ls (lv_sub hl [0, 2, 1] rfl)
                                              exact L_313 _ 0 f1_ (Nat.lt_succ_self _) (by omega) _ _ hP hD hS ls (lv_sub hl [0, 1, 2] rfl)
                                            · refine lv_ldc2 hx hb hown (hts (.constantLong RX7 221 (31)) (List.mem_of_getElem? (i := 3) rfl)) dX7_digest_293 ?_
                                              refine ks_vL (show (31 : Int64) = lN 31 from rfl) ?_
                                              refine lv_lload_n hx hb dX7_digest_296 rfl (lv_at hl 2 rfl) ?_
                                              refine lv_lmul hx hb dX7_digest_297 ?_
                                              refine lv_aload_n hx hb dX7_digest_298 rfl (lv_at hl 1 rfl) ?_
                                              refine lv_iload_n hx hb dX7_digest_299 rfl (lv_at hl 0 rfl) ?_
                                              refine cr_V (wr := [(ca 3, .inl (G.2.1, 60, .inl (fun q9 => nI (cs q9)))), (ca 1, .inl (G.2.2.1, 103, .inr (.inl (f1_))))]) (As := [.int (nI i_)]) (rest := [.long ((lN 31) * (fdO (fun q8 h8 => mx h8 (gsA T (rvT T) q8)) h7 i_))]) ⟨hx, hb, hml, hown, hts⟩ (c_X7_guessed G l y_ ca ke ty_ 0 po fl_ tl T e2_ i_ (by omega) (by omega) (by omega) (by omega)) (cwV 1 hts gX7_digest_X7_guessed rfl rfl rfl (by decide +kernel) ⟨Nat.le_of_ble_eq_true rfl, Nat.le_of_ble_eq_true rfl⟩) dX7_digest_300 hK hNX hP hD hS hA hl 0 7 rfl rfl rfl [0, 1, 3] [2, 4] rfl rfl rfl rfl (by decide) rfl (Nat.le_of_ble_eq_true rfl) ⟨Nat.le_of_ble_eq_true rfl, Nat.le_of_ble_eq_true rfl⟩ rfl (fun v' w' Hq lcq hR' hP hD hS => ?_)
                                              obtain ⟨e9_300, rfl, rfl⟩ := hR'
                                              have hP : va_P G.1 vwCl [(y_, .inr (7, [.ref (ca 0), .ref (ca 1), .ref (ca 2), .int (nI ke), .ref (ca 3), .int (nI ty_), .int (nI 0), .int (nI po), .int (bI fl_), .ref (ca 4), .int (nI tl), .ref (ca 5)])), (ca 0, .inl (G.2.2.1, 103, .inr (.inl (mV T)))), (ca 3, .inl (G.2.1, 60, .inl (fun q9 => nI (cs q9)))), (ca 5, .inl (G.2.2.1, 40, .inr (.inl (e9_300)))), (ca 1, .inl (G.2.2.1, 103, .inr (.inl (f1_))))] _ := hP.sub [2, 3, 0, 4, 1] rfl
                                              have hD : va_D A [(y_, .inr (7, [.ref (ca 0), .ref (ca 1), .ref (ca 2), .int (nI ke), .ref (ca 3), .int (nI ty_), .int (nI 0), .int (nI po), .int (bI fl_), .ref (ca 4), .int (nI tl), .ref (ca 5)])), (ca 0, .inl (G.2.2.1, 103, .inr (.inl (mV T)))), (ca 3, .inl (G.2.1, 60, .inl (fun q9 => nI (cs q9)))), (ca 5, .inl (G.2.2.1, 40, .inr (.inl (e9_300)))), (ca 1, .inl (G.2.2.1, 103, .inr (.inl (f1_))))] := hD.sub [2, 3, 0, 4, 1] (by decide +kernel) rfl
                                              refine lv_ladd hx hb dX7_digest_303 ?_
                                              refine lv_lstore_n (lv' := [(1, .long (((lN 31) * (fdO (fun q8 h8 => mx h8 (gsA T (rvT T) q8)) h7 i_)) + (gsA T (rvT T) i_))), (3, .int (nI i_)), (0, .ref y_)]) hx hb dX7_digest_304 rfl hl (by decide) rfl (fun ls hl => ?_)
                                              refine lv_iinc (v := nI (i_ + 1)) (lv' := [(3, .int (nI (i_ + 1))), (1, .long (((lN 31) * (fdO (fun q8 h8 => mx h8 (gsA T (rvT T) q8)) h7 i_)) + (gsA T (rvT T) i_))), (0, .ref y_)]) hx hb dX7_digest_305 hl (k := 1) rfl (ks_inc i_ 1) (by decide) rfl (fun ls hl => ?_)
                                              refine lv_goto (tgt := 288) hx hb dX7_digest_308 (by decide) ?_
                                              exact ih_288  (i_ + 1) e9_300 (by omega) (by omega) _ _ hP hD hS ls (lv_sub hl [0, 2, 1] rfl)
                                        exact L_288 _ 0 er (Nat.lt_succ_self _) (by omega) _ _ hP hD hS ls (lv_sub hl [0, 1, 2] rfl)
                                      · refine lv_ldc2 hx hb hown (hts (.constantLong RX7 221 (31)) (List.mem_of_getElem? (i := 3) rfl)) dX7_digest_264 ?_
                                        refine ks_vL (show (31 : Int64) = lN 31 from rfl) ?_
                                        refine lv_lload_n hx hb dX7_digest_267 rfl (lv_at hl 2 rfl) ?_
                                        refine lv_lmul hx hb dX7_digest_268 ?_
                                        refine lv_aload_n hx hb dX7_digest_269 rfl (lv_at hl 1 rfl) ?_
                                        refine va_get (D := G.1) (ci := 7) (v := .ref (ca 0)) (C := RX7) (T := TX7) (N := 12) hx hb hts hin7 hown hK hP 0 rfl rfl 0 (by decide) (hts (.fieldLink RX7 7 "PowerTablesModel" "now" "[J") (List.mem_of_getElem? (i := 4) rfl)) (fun _ h9 => h9) rfl dX7_digest_270 ?_
                                        refine lv_bipush (v := nI 13) hx hb dX7_digest_273 (by decide) ?_
                                        refine lv_iload_n hx hb dX7_digest_275 rfl (lv_at hl 0 rfl) ?_
                                        refine ks_iaddN hx hb dX7_digest_276 ?_
                                        refine ks_lald hx hb hK hP 1 rfl (by omega) (by decide) dX7_digest_277 ?_
                                        refine ks_vL (show mV T (13 + i_) = lN (T.w i_) from mV_w (j := i_) (by omega)) ?_
                                        refine lv_ladd hx hb dX7_digest_278 ?_
                                        refine lv_lstore_n (lv' := [(1, .long (((lN 31) * (fdO (fun q8 h8 => mx h8 (lN (T.w q8))) h6 i_)) + (lN (T.w i_)))), (3, .int (nI i_)), (0, .ref y_)]) hx hb dX7_digest_279 rfl hl (by decide) rfl (fun ls hl => ?_)
                                        refine lv_iinc (v := nI (i_ + 1)) (lv' := [(3, .int (nI (i_ + 1))), (1, .long (((lN 31) * (fdO (fun q8 h8 => mx h8 (lN (T.w q8))) h6 i_)) + (lN (T.w i_)))), (0, .ref y_)]) hx hb dX7_digest_280 hl (k := 1) rfl (ks_inc i_ 1) (by decide) rfl (fun ls hl => ?_)
                                        refine lv_goto (tgt := 258) hx hb dX7_digest_283 (by decide) ?_
                                        exact ih_258  (i_ + 1) (by omega) (by omega) _ _ hP hD hS ls (lv_sub hl [0, 2, 1] rfl)
                                  exact L_258 _ 0 (Nat.lt_succ_self _) (by omega) _ _ hP hD hS ls (lv_sub hl [0, 1, 2] rfl)
                                · refine lv_ldc2 hx hb hown (hts (.constantLong RX7 221 (31)) (List.mem_of_getElem? (i := 3) rfl)) dX7_digest_237 ?_
                                  refine ks_vL (show (31 : Int64) = lN 31 from rfl) ?_
                                  refine lv_lload_n hx hb dX7_digest_240 rfl (lv_at hl 2 rfl) ?_
                                  refine lv_lmul hx hb dX7_digest_241 ?_
                                  refine lv_aload_n hx hb dX7_digest_242 rfl (lv_at hl 1 rfl) ?_
                                  refine lv_iload_n hx hb dX7_digest_243 rfl (lv_at hl 0 rfl) ?_
                                  refine lv_iconst (v := nI 0) hx hb dX7_digest_244 (by decide) ?_
                                  refine cr_V (wr := [(ca 3, .inl (G.2.1, 60, .inl (fun q9 => nI (cs q9)))), (ca 5, .inl (G.2.2.1, 40, .inr (.inl (er)))), (ca 1, .inl (G.2.2.1, 103, .inr (.inl (f1_))))]) (As := [.int (nI i_), .int (nI 0)]) (rest := [.long ((lN 31) * (fdO (fun q8 h8 => mx h8 (dfA T q8 0)) h5 i_))]) ⟨hx, hb, hml, hown, hts⟩ (c_X7_differenceAt G l y_ ca ke ty_ 0 po fl_ tl T i_ 0 (by omega) (by omega) (by omega)) (cwV 2 hts gX7_digest_X7_differenceAt rfl rfl rfl (by decide +kernel) ⟨Nat.le_of_ble_eq_true rfl, Nat.le_of_ble_eq_true rfl⟩) dX7_digest_245 hK hNX hP hD hS hA hl 0 7 rfl rfl rfl [0, 1] [2, 3, 4] rfl rfl rfl rfl (by decide) rfl (Nat.le_of_ble_eq_true rfl) ⟨Nat.le_of_ble_eq_true rfl, Nat.le_of_ble_eq_true rfl⟩ rfl (fun v' w' Hq lcq hR' hP hD hS => ?_)
                                  obtain ⟨rfl, rfl⟩ := hR'
                                  have hP : va_P G.1 vwCl [(y_, .inr (7, [.ref (ca 0), .ref (ca 1), .ref (ca 2), .int (nI ke), .ref (ca 3), .int (nI ty_), .int (nI 0), .int (nI po), .int (bI fl_), .ref (ca 4), .int (nI tl), .ref (ca 5)])), (ca 0, .inl (G.2.2.1, 103, .inr (.inl (mV T)))), (ca 3, .inl (G.2.1, 60, .inl (fun q9 => nI (cs q9)))), (ca 5, .inl (G.2.2.1, 40, .inr (.inl (er)))), (ca 1, .inl (G.2.2.1, 103, .inr (.inl (f1_))))] _ := hP.sub [3, 4, 0, 1, 2] rfl
                                  have hD : va_D A [(y_, .inr (7, [.ref (ca 0), .ref (ca 1), .ref (ca 2), .int (nI ke), .ref (ca 3), .int (nI ty_), .int (nI 0), .int (nI po), .int (bI fl_), .ref (ca 4), .int (nI tl), .ref (ca 5)])), (ca 0, .inl (G.2.2.1, 103, .inr (.inl (mV T)))), (ca 3, .inl (G.2.1, 60, .inl (fun q9 => nI (cs q9)))), (ca 5, .inl (G.2.2.1, 40, .inr (.inl (er)))), (ca 1, .inl (G.2.2.1, 103, .inr (.inl (f1_))))] := hD.sub [3, 4, 0, 1, 2] (by decide +kernel) rfl
                                  refine lv_ladd hx hb dX7_digest_248 ?_
                                  refine lv_lstore_n (lv' := [(1, .long (((lN 31) * (fdO (fun q8 h8 => mx h8 (dfA T q8 0)) h5 i_)) + (dfA T i_ 0))), (3, .int (nI i_)), (0, .ref y_)]) hx hb dX7_digest_249 rfl hl (by decide) rfl (fun ls hl => ?_)
                                  refine lv_iinc (v := nI (i_ + 1)) (lv' := [(3, .int (nI (i_ + 1))), (1, .long (((lN 31) * (fdO (fun q8 h8 => mx h8 (dfA T q8 0)) h5 i_)) + (dfA T i_ 0))), (0, .ref y_)]) hx hb dX7_digest_250 hl (k := 1) rfl (ks_inc i_ 1) (by decide) rfl (fun ls hl => ?_)
                                  refine lv_goto (tgt := 220) hx hb dX7_digest_253 (by decide) ?_
                                  exact ih_220  (i_ + 1) (by omega) (by omega) (by omega) _ _ hP hD hS ls (lv_sub hl [0, 2, 1] rfl)
                          exact L_220 _ 0 (Nat.lt_succ_self _) (by omega) (by omega) _ _ hP hD hS ls (lv_sub hl [0, 1, 2] rfl)
                        · have jq9 := gq_le c_173
                          refine lv_iconst (v := nI 0) hx hb dX7_digest_176 (by decide) ?_
                          refine lv_istore (lv' := [(4, .int (nI 0)), (3, .int (nI i_)), (0, .ref y_), (1, .long (fdO (fun q7 h7 => fdO (fun q8 h8 => mx h8 (grA T (rvT T) q7 q8)) h7 4) h4 i_))]) hx hb dX7_digest_177 hl (by decide) rfl (fun ls hl => ?_)
                          have L_179 : ∀ (n_179 : Nat) (w_ : Nat) (_ : 6 - w_ < n_179) (jw5 : w_ ≤ 4) (Hq : Heap) (lcq : List Loc), va_P G.1 vwCl [(y_, .inr (7, [.ref (ca 0), .ref (ca 1), .ref (ca 2), .int (nI ke), .ref (ca 3), .int (nI ty_), .int (nI 0), .int (nI po), .int (bI fl_), .ref (ca 4), .int (nI tl), .ref (ca 5)])), (ca 0, .inl (G.2.2.1, 103, .inr (.inl (mV T)))), (ca 3, .inl (G.2.1, 60, .inl (fun q9 => nI (cs q9)))), (ca 5, .inl (G.2.2.1, 40, .inr (.inl (er)))), (ca 1, .inl (G.2.2.1, 103, .inr (.inl (f1_))))] Hq → va_D A [(y_, .inr (7, [.ref (ca 0), .ref (ca 1), .ref (ca 2), .int (nI ke), .ref (ca 3), .int (nI ty_), .int (nI 0), .int (nI po), .int (bI fl_), .ref (ca 4), .int (nI tl), .ref (ca 5)])), (ca 0, .inl (G.2.2.1, 103, .inr (.inl (mV T)))), (ca 3, .inl (G.2.1, 60, .inl (fun q9 => nI (cs q9)))), (ca 5, .inl (G.2.2.1, 40, .inr (.inl (er)))), (ca 1, .inl (G.2.2.1, 103, .inr (.inl (f1_))))] → va_S A s.heap Hq lcq → ∀ ls : Array Slot, lv_has ls 5 [(4, .int (nI w_)), (3, .int (nI i_)), (0, .ref y_), (1, .long (fdO (fun q8 h8 => mx h8 (grA T (rvT T) i_ q8)) (fdO (fun q7 h7 => fdO (fun q8 h8 => mx h8 (grA T (rvT T) q7 q8)) h7 4) h4 i_) w_))] → W p l e ({ frames := 5, cells := 0, slots := 0, locals := 120 }) s m args below meth c Hq lcq 0 0 (MQ below (cr_Q G RR A) args s 0 0 A) (F0 m 179 ls []) := by
                            intro n_179
                            induction n_179 with
                            | zero => intro w_ hmu_179; exact absurd hmu_179 (Nat.not_lt_zero _)
                            | succ n_179 ih_179 =>
                              intro w_ hmu_179 jw5 Hq lcq hP hD hS ls hl
                              refine lv_iload hx hb dX7_digest_179 (lv_at hl 0 rfl) ?_
                              refine lv_iconst (v := nI 4) hx hb dX7_digest_181 (by decide) ?_
                              refine ks_icmp_ge (tgt := 212) hx hb dX7_digest_182 (by decide) (by omega) (by omega) (fun c_182 => ?_) (fun c_182 => ?_)
                              · obtain rfl : w_ = 4 := by omega
                                refine lv_iinc (v := nI (i_ + 1)) (lv' := [(3, .int (nI (i_ + 1))), (4, .int (nI 4)), (0, .ref y_), (1, .long (fdO (fun q8 h8 => mx h8 (grA T (rvT T) i_ q8)) (fdO (fun q7 h7 => fdO (fun q8 h8 => mx h8 (grA T (rvT T) q7 q8)) h7 4) h4 i_) 4))]) hx hb dX7_digest_212 hl (k := 1) rfl (ks_inc i_ 1) (by decide) rfl (fun ls hl => ?_)
                                refine lv_goto (tgt := 161) hx hb dX7_digest_215 (by decide) ?_
                                exact ih_161  (i_ + 1) (by omega) (by omega) _ _ hP hD hS ls (lv_sub hl [0, 2, 3] rfl)
                              · refine lv_ldc2 hx hb hown (hts (.constantLong RX7 221 (31)) (List.mem_of_getElem? (i := 3) rfl)) dX7_digest_185 ?_
                                refine ks_vL (show (31 : Int64) = lN 31 from rfl) ?_
                                refine lv_lload_n hx hb dX7_digest_188 rfl (lv_at hl 3 rfl) ?_
                                refine lv_lmul hx hb dX7_digest_189 ?_
                                refine lv_aload_n hx hb dX7_digest_190 rfl (lv_at hl 2 rfl) ?_
                                refine lv_aload_n hx hb dX7_digest_191 rfl (lv_at hl 2 rfl) ?_
                                refine va_get (D := G.1) (ci := 7) (v := .ref (ca 0)) (C := RX7) (T := TX7) (N := 12) hx hb hts hin7 hown hK hP 0 rfl rfl 0 (by decide) (hts (.fieldLink RX7 7 "PowerTablesModel" "now" "[J") (List.mem_of_getElem? (i := 4) rfl)) (fun _ h9 => h9) rfl dX7_digest_192 ?_
                                refine lv_iconst (v := nI 0) hx hb dX7_digest_195 (by decide) ?_
                                refine ks_lald hx hb hK hP 1 rfl (by omega) (by decide) dX7_digest_196 ?_
                                refine ks_vL (show mV T 0 = lN (T.s 0) from rfl) ?_
                                refine ks_l2iN hx hb dX7_digest_197 ?_
                                refine lv_iload_n hx hb dX7_digest_198 rfl (lv_at hl 1 rfl) ?_
                                refine lv_iload hx hb dX7_digest_199 (lv_at hl 0 rfl) ?_
                                refine cr_V (wr := [(ca 3, .inl (G.2.1, 60, .inl (fun q9 => nI (cs q9)))), (ca 5, .inl (G.2.2.1, 40, .inr (.inl (er)))), (ca 1, .inl (G.2.2.1, 103, .inr (.inl (f1_))))]) (As := [.int (nI (T.s 0)), .int (nI i_), .int (nI w_)]) (rest := [.long ((lN 31) * (fdO (fun q8 h8 => mx h8 (grA T (rvT T) i_ q8)) (fdO (fun q7 h7 => fdO (fun q8 h8 => mx h8 (grA T (rvT T) q7 q8)) h7 4) h4 i_) w_))]) ⟨hx, hb, hml, hown, hts⟩ (c_X7_ofGroup G l y_ ca ke ty_ 0 po fl_ tl T (T.s 0) i_ w_ (by omega) (by omega) (by omega) (by omega)) (cwV 3 hts gX7_digest_X7_ofGroup rfl rfl rfl (by decide +kernel) ⟨Nat.le_of_ble_eq_true rfl, Nat.le_of_ble_eq_true rfl⟩) dX7_digest_201 hK hNX hP hD hS hA hl 0 7 rfl rfl rfl [0, 1] [2, 3, 4] rfl rfl rfl rfl (by decide) rfl (Nat.le_of_ble_eq_true rfl) ⟨Nat.le_of_ble_eq_true rfl, Nat.le_of_ble_eq_true rfl⟩ rfl (fun v' w' Hq lcq hR' hP hD hS => ?_)
                                obtain ⟨rfl, rfl⟩ := hR'
                                have hP : va_P G.1 vwCl [(y_, .inr (7, [.ref (ca 0), .ref (ca 1), .ref (ca 2), .int (nI ke), .ref (ca 3), .int (nI ty_), .int (nI 0), .int (nI po), .int (bI fl_), .ref (ca 4), .int (nI tl), .ref (ca 5)])), (ca 0, .inl (G.2.2.1, 103, .inr (.inl (mV T)))), (ca 3, .inl (G.2.1, 60, .inl (fun q9 => nI (cs q9)))), (ca 5, .inl (G.2.2.1, 40, .inr (.inl (er)))), (ca 1, .inl (G.2.2.1, 103, .inr (.inl (f1_))))] _ := hP.sub [3, 4, 0, 1, 2] rfl
                                have hD : va_D A [(y_, .inr (7, [.ref (ca 0), .ref (ca 1), .ref (ca 2), .int (nI ke), .ref (ca 3), .int (nI ty_), .int (nI 0), .int (nI po), .int (bI fl_), .ref (ca 4), .int (nI tl), .ref (ca 5)])), (ca 0, .inl (G.2.2.1, 103, .inr (.inl (mV T)))), (ca 3, .inl (G.2.1, 60, .inl (fun q9 => nI (cs q9)))), (ca 5, .inl (G.2.2.1, 40, .inr (.inl (er)))), (ca 1, .inl (G.2.2.1, 103, .inr (.inl (f1_))))] := hD.sub [3, 4, 0, 1, 2] (by decide +kernel) rfl
                                refine ks_vL (show ofG T.p (rvT T) (T.s 0) i_ w_ = grA T (rvT T) i_ w_ from (ofG_gr T (rvT T) i_ w_).trans (if_pos c_173).symm) ?_
                                refine lv_ladd hx hb dX7_digest_204 ?_
                                refine lv_lstore_n (lv' := [(1, .long (((lN 31) * (fdO (fun q8 h8 => mx h8 (grA T (rvT T) i_ q8)) (fdO (fun q7 h7 => fdO (fun q8 h8 => mx h8 (grA T (rvT T) q7 q8)) h7 4) h4 i_) w_)) + (grA T (rvT T) i_ w_))), (4, .int (nI w_)), (3, .int (nI i_)), (0, .ref y_)]) hx hb dX7_digest_205 rfl hl (by decide) rfl (fun ls hl => ?_)
                                refine lv_iinc (v := nI (w_ + 1)) (lv' := [(4, .int (nI (w_ + 1))), (1, .long (((lN 31) * (fdO (fun q8 h8 => mx h8 (grA T (rvT T) i_ q8)) (fdO (fun q7 h7 => fdO (fun q8 h8 => mx h8 (grA T (rvT T) q7 q8)) h7 4) h4 i_) w_)) + (grA T (rvT T) i_ w_))), (3, .int (nI i_)), (0, .ref y_)]) hx hb dX7_digest_206 hl (k := 1) rfl (ks_inc w_ 1) (by decide) rfl (fun ls hl => ?_)
                                refine lv_goto (tgt := 179) hx hb dX7_digest_209 (by decide) ?_
                                exact ih_179  (w_ + 1) (by omega) (by omega) _ _ hP hD hS ls (lv_sub hl [0, 2, 3, 1] rfl)
                          exact L_179 _ 0 (Nat.lt_succ_self _) (by omega) _ _ hP hD hS ls (lv_sub hl [0, 1, 2, 3] rfl)
                    exact L_161 _ 0 (Nat.lt_succ_self _) (Nat.zero_le _) _ _ hP hD hS ls (lv_sub hl [0, 1, 2] rfl)
                  · refine lv_iconst (v := nI 0) hx hb dX7_digest_124 (by decide) ?_
                    refine lv_istore (lv' := [(4, .int (nI 0)), (3, .int (nI i_)), (0, .ref y_), (1, .long (fdO (fun q7 h7 => fdO (fun q8 h8 => mx h8 (rowA T (rvT T) q7 q8)) h7 5) h3 i_))]) hx hb dX7_digest_125 hl (by decide) rfl (fun ls hl => ?_)
                    have L_127 : ∀ (n_127 : Nat) (w_ : Nat) (_ : 6 - w_ < n_127) (jw5 : w_ ≤ 5) (Hq : Heap) (lcq : List Loc), va_P G.1 vwCl [(y_, .inr (7, [.ref (ca 0), .ref (ca 1), .ref (ca 2), .int (nI ke), .ref (ca 3), .int (nI ty_), .int (nI 0), .int (nI po), .int (bI fl_), .ref (ca 4), .int (nI tl), .ref (ca 5)])), (ca 0, .inl (G.2.2.1, 103, .inr (.inl (mV T)))), (ca 3, .inl (G.2.1, 60, .inl (fun q9 => nI (cs q9)))), (ca 5, .inl (G.2.2.1, 40, .inr (.inl (er)))), (ca 1, .inl (G.2.2.1, 103, .inr (.inl (f1_))))] Hq → va_D A [(y_, .inr (7, [.ref (ca 0), .ref (ca 1), .ref (ca 2), .int (nI ke), .ref (ca 3), .int (nI ty_), .int (nI 0), .int (nI po), .int (bI fl_), .ref (ca 4), .int (nI tl), .ref (ca 5)])), (ca 0, .inl (G.2.2.1, 103, .inr (.inl (mV T)))), (ca 3, .inl (G.2.1, 60, .inl (fun q9 => nI (cs q9)))), (ca 5, .inl (G.2.2.1, 40, .inr (.inl (er)))), (ca 1, .inl (G.2.2.1, 103, .inr (.inl (f1_))))] → va_S A s.heap Hq lcq → ∀ ls : Array Slot, lv_has ls 5 [(4, .int (nI w_)), (3, .int (nI i_)), (0, .ref y_), (1, .long (fdO (fun q8 h8 => mx h8 (rowA T (rvT T) i_ q8)) (fdO (fun q7 h7 => fdO (fun q8 h8 => mx h8 (rowA T (rvT T) q7 q8)) h7 5) h3 i_) w_))] → W p l e ({ frames := 5, cells := 0, slots := 0, locals := 120 }) s m args below meth c Hq lcq 0 0 (MQ below (cr_Q G RR A) args s 0 0 A) (F0 m 127 ls []) := by
                      intro n_127
                      induction n_127 with
                      | zero => intro w_ hmu_127; exact absurd hmu_127 (Nat.not_lt_zero _)
                      | succ n_127 ih_127 =>
                        intro w_ hmu_127 jw5 Hq lcq hP hD hS ls hl
                        refine lv_iload hx hb dX7_digest_127 (lv_at hl 0 rfl) ?_
                        refine lv_iconst (v := nI 5) hx hb dX7_digest_129 (by decide) ?_
                        refine ks_icmp_ge (tgt := 153) hx hb dX7_digest_130 (by decide) (by omega) (by omega) (fun c_130 => ?_) (fun c_130 => ?_)
                        · obtain rfl : w_ = 5 := by omega
                          refine lv_iinc (v := nI (i_ + 1)) (lv' := [(3, .int (nI (i_ + 1))), (4, .int (nI 5)), (0, .ref y_), (1, .long (fdO (fun q8 h8 => mx h8 (rowA T (rvT T) i_ q8)) (fdO (fun q7 h7 => fdO (fun q8 h8 => mx h8 (rowA T (rvT T) q7 q8)) h7 5) h3 i_) 5))]) hx hb dX7_digest_153 hl (k := 1) rfl (ks_inc i_ 1) (by decide) rfl (fun ls hl => ?_)
                          refine lv_goto (tgt := 112) hx hb dX7_digest_156 (by decide) ?_
                          exact ih_112  (i_ + 1) (by omega) (by omega) _ _ hP hD hS ls (lv_sub hl [0, 2, 3] rfl)
                        · refine lv_ldc2 hx hb hown (hts (.constantLong RX7 221 (31)) (List.mem_of_getElem? (i := 3) rfl)) dX7_digest_133 ?_
                          refine ks_vL (show (31 : Int64) = lN 31 from rfl) ?_
                          refine lv_lload_n hx hb dX7_digest_136 rfl (lv_at hl 3 rfl) ?_
                          refine lv_lmul hx hb dX7_digest_137 ?_
                          refine lv_aload_n hx hb dX7_digest_138 rfl (lv_at hl 2 rfl) ?_
                          refine lv_iload_n hx hb dX7_digest_139 rfl (lv_at hl 1 rfl) ?_
                          refine lv_iload hx hb dX7_digest_140 (lv_at hl 0 rfl) ?_
                          refine cr_V (wr := [(ca 3, .inl (G.2.1, 60, .inl (fun q9 => nI (cs q9)))), (ca 5, .inl (G.2.2.1, 40, .inr (.inl (er)))), (ca 1, .inl (G.2.2.1, 103, .inr (.inl (f1_))))]) (As := [.int (nI i_), .int (nI w_)]) (rest := [.long ((lN 31) * (fdO (fun q8 h8 => mx h8 (rowA T (rvT T) i_ q8)) (fdO (fun q7 h7 => fdO (fun q8 h8 => mx h8 (rowA T (rvT T) q7 q8)) h7 5) h3 i_) w_))]) ⟨hx, hb, hml, hown, hts⟩ (c_X7_ofRow G l y_ ca ke ty_ 0 po fl_ tl T i_ w_ (by omega) (by omega) (by omega) (by omega)) (cwV 2 hts gX7_digest_X7_ofRow rfl rfl rfl (by decide +kernel) ⟨Nat.le_of_ble_eq_true rfl, Nat.le_of_ble_eq_true rfl⟩) dX7_digest_142 hK hNX hP hD hS hA hl 0 7 rfl rfl rfl [0, 1] [2, 3, 4] rfl rfl rfl rfl (by decide) rfl (Nat.le_of_ble_eq_true rfl) ⟨Nat.le_of_ble_eq_true rfl, Nat.le_of_ble_eq_true rfl⟩ rfl (fun v' w' Hq lcq hR' hP hD hS => ?_)
                          obtain ⟨rfl, rfl⟩ := hR'
                          have hP : va_P G.1 vwCl [(y_, .inr (7, [.ref (ca 0), .ref (ca 1), .ref (ca 2), .int (nI ke), .ref (ca 3), .int (nI ty_), .int (nI 0), .int (nI po), .int (bI fl_), .ref (ca 4), .int (nI tl), .ref (ca 5)])), (ca 0, .inl (G.2.2.1, 103, .inr (.inl (mV T)))), (ca 3, .inl (G.2.1, 60, .inl (fun q9 => nI (cs q9)))), (ca 5, .inl (G.2.2.1, 40, .inr (.inl (er)))), (ca 1, .inl (G.2.2.1, 103, .inr (.inl (f1_))))] _ := hP.sub [3, 4, 0, 1, 2] rfl
                          have hD : va_D A [(y_, .inr (7, [.ref (ca 0), .ref (ca 1), .ref (ca 2), .int (nI ke), .ref (ca 3), .int (nI ty_), .int (nI 0), .int (nI po), .int (bI fl_), .ref (ca 4), .int (nI tl), .ref (ca 5)])), (ca 0, .inl (G.2.2.1, 103, .inr (.inl (mV T)))), (ca 3, .inl (G.2.1, 60, .inl (fun q9 => nI (cs q9)))), (ca 5, .inl (G.2.2.1, 40, .inr (.inl (er)))), (ca 1, .inl (G.2.2.1, 103, .inr (.inl (f1_))))] := hD.sub [3, 4, 0, 1, 2] (by decide +kernel) rfl
                          refine lv_ladd hx hb dX7_digest_145 ?_
                          refine lv_lstore_n (lv' := [(1, .long (((lN 31) * (fdO (fun q8 h8 => mx h8 (rowA T (rvT T) i_ q8)) (fdO (fun q7 h7 => fdO (fun q8 h8 => mx h8 (rowA T (rvT T) q7 q8)) h7 5) h3 i_) w_)) + (rowA T (rvT T) i_ w_))), (4, .int (nI w_)), (3, .int (nI i_)), (0, .ref y_)]) hx hb dX7_digest_146 rfl hl (by decide) rfl (fun ls hl => ?_)
                          refine lv_iinc (v := nI (w_ + 1)) (lv' := [(4, .int (nI (w_ + 1))), (1, .long (((lN 31) * (fdO (fun q8 h8 => mx h8 (rowA T (rvT T) i_ q8)) (fdO (fun q7 h7 => fdO (fun q8 h8 => mx h8 (rowA T (rvT T) q7 q8)) h7 5) h3 i_) w_)) + (rowA T (rvT T) i_ w_))), (3, .int (nI i_)), (0, .ref y_)]) hx hb dX7_digest_147 hl (k := 1) rfl (ks_inc w_ 1) (by decide) rfl (fun ls hl => ?_)
                          refine lv_goto (tgt := 127) hx hb dX7_digest_150 (by decide) ?_
                          exact ih_127  (w_ + 1) (by omega) (by omega) _ _ hP hD hS ls (lv_sub hl [0, 2, 3, 1] rfl)
                    exact L_127 _ 0 (Nat.lt_succ_self _) (by omega) _ _ hP hD hS ls (lv_sub hl [0, 1, 2, 3] rfl)
              exact L_112 _ 0 (Nat.lt_succ_self _) (by omega) _ _ hP hD hS ls (lv_sub hl [0, 1, 2] rfl)
            · refine lv_ldc2 hx hb hown (hts (.constantLong RX7 221 (31)) (List.mem_of_getElem? (i := 3) rfl)) dX7_digest_68 ?_
              refine ks_vL (show (31 : Int64) = lN 31 from rfl) ?_
              refine lv_ldc2 hx hb hown (hts (.constantLong RX7 221 (31)) (List.mem_of_getElem? (i := 3) rfl)) dX7_digest_71 ?_
              refine ks_vL (show (31 : Int64) = lN 31 from rfl) ?_
              refine lv_lload_n hx hb dX7_digest_74 rfl (lv_at hl 2 rfl) ?_
              refine lv_lmul hx hb dX7_digest_75 ?_
              refine lv_aload_n hx hb dX7_digest_76 rfl (lv_at hl 1 rfl) ?_
              refine va_get (D := G.1) (ci := 7) (v := .ref (ca 0)) (C := RX7) (T := TX7) (N := 12) hx hb hts hin7 hown hK hP 0 rfl rfl 0 (by decide) (hts (.fieldLink RX7 7 "PowerTablesModel" "now" "[J") (List.mem_of_getElem? (i := 4) rfl)) (fun _ h9 => h9) rfl dX7_digest_77 ?_
              refine lv_bipush (v := nI 7) hx hb dX7_digest_80 (by decide) ?_
              refine lv_iload_n hx hb dX7_digest_82 rfl (lv_at hl 0 rfl) ?_
              refine ks_iaddN hx hb dX7_digest_83 ?_
              refine ks_lald hx hb hK hP 1 rfl (by omega) (by decide) dX7_digest_84 ?_
              refine ks_vL (show mV T (7 + i_) = T.r i_ from mV_r (j := i_) (by omega)) ?_
              refine lv_ladd hx hb dX7_digest_85 ?_
              refine lv_lmul hx hb dX7_digest_86 ?_
              refine lv_aload_n hx hb dX7_digest_87 rfl (lv_at hl 1 rfl) ?_
              refine va_get (D := G.1) (ci := 7) (v := .ref (ca 0)) (C := RX7) (T := TX7) (N := 12) hx hb hts hin7 hown hK hP 0 rfl rfl 0 (by decide) (hts (.fieldLink RX7 7 "PowerTablesModel" "now" "[J") (List.mem_of_getElem? (i := 4) rfl)) (fun _ h9 => h9) rfl dX7_digest_88 ?_
              refine lv_iload_n hx hb dX7_digest_91 rfl (lv_at hl 0 rfl) ?_
              refine lv_aload_n hx hb dX7_digest_92 rfl (lv_at hl 1 rfl) ?_
              refine va_get (D := G.1) (ci := 7) (v := .ref (ca 0)) (C := RX7) (T := TX7) (N := 12) hx hb hts hin7 hown hK hP 0 rfl rfl 0 (by decide) (hts (.fieldLink RX7 7 "PowerTablesModel" "now" "[J") (List.mem_of_getElem? (i := 4) rfl)) (fun _ h9 => h9) rfl dX7_digest_93 ?_
              refine lv_iconst (v := nI 4) hx hb dX7_digest_96 (by decide) ?_
              refine ks_lald hx hb hK hP 1 rfl (by omega) (by decide) dX7_digest_97 ?_
              refine ks_vL (show mV T 4 = lN (T.s 4) from rfl) ?_
              refine ks_l2iN hx hb dX7_digest_98 ?_
              refine cr_S (wr := [(y_, .inr (7, [.ref (ca 0), .ref (ca 1), .ref (ca 2), .int (nI ke), .ref (ca 3), .int (nI ty_), .int (nI 0), .int (nI po), .int (bI fl_), .ref (ca 4), .int (nI tl), .ref (ca 5)])), (ca 3, .inl (G.2.1, 60, .inl (fun q9 => nI (cs q9)))), (ca 5, .inl (G.2.2.1, 40, .inr (.inl (er)))), (ca 1, .inl (G.2.2.1, 103, .inr (.inl (f1_))))]) (As := [.ref (ca 0), .int (nI i_), .int (nI (T.s 4))]) (rest := [.long ((lN 31) * (((lN 31) * (fdO (fun q8 h8 => mx (mx h8 (T.r q8)) (rgt (T.s 2) (T.s 3 + T.s 4) q8)) h2 i_)) + (T.r i_)))]) ⟨hx, hb, hml, hown, hts⟩ (c_X7_rightDifference G l (ca 0) T i_ (T.s 4) (by omega) (by omega) (by omega) (by omega)) (va_cwS 3 hts gX7_digest_X7_rightDifference rfl rfl rfl (by decide +kernel) ⟨Nat.le_of_ble_eq_true rfl, Nat.le_of_ble_eq_true rfl⟩) dX7_digest_99 hK hNX hP hD hS hA hl [1] [0, 2, 3, 4] rfl rfl rfl rfl (by decide) rfl (Nat.le_of_ble_eq_true rfl) ⟨Nat.le_of_ble_eq_true rfl, Nat.le_of_ble_eq_true rfl⟩ rfl (fun v' w' Hq lcq hR' hP hD hS => ?_)
              obtain ⟨rfl, rfl⟩ := hR'
              have hP : va_P G.1 vwCl [(y_, .inr (7, [.ref (ca 0), .ref (ca 1), .ref (ca 2), .int (nI ke), .ref (ca 3), .int (nI ty_), .int (nI 0), .int (nI po), .int (bI fl_), .ref (ca 4), .int (nI tl), .ref (ca 5)])), (ca 0, .inl (G.2.2.1, 103, .inr (.inl (mV T)))), (ca 3, .inl (G.2.1, 60, .inl (fun q9 => nI (cs q9)))), (ca 5, .inl (G.2.2.1, 40, .inr (.inl (er)))), (ca 1, .inl (G.2.2.1, 103, .inr (.inl (f1_))))] _ := hP.sub [0, 4, 1, 2, 3] rfl
              have hD : va_D A [(y_, .inr (7, [.ref (ca 0), .ref (ca 1), .ref (ca 2), .int (nI ke), .ref (ca 3), .int (nI ty_), .int (nI 0), .int (nI po), .int (bI fl_), .ref (ca 4), .int (nI tl), .ref (ca 5)])), (ca 0, .inl (G.2.2.1, 103, .inr (.inl (mV T)))), (ca 3, .inl (G.2.1, 60, .inl (fun q9 => nI (cs q9)))), (ca 5, .inl (G.2.2.1, 40, .inr (.inl (er)))), (ca 1, .inl (G.2.2.1, 103, .inr (.inl (f1_))))] := hD.sub [0, 4, 1, 2, 3] (by decide +kernel) rfl
              refine ks_vL (show dif (rvT T) i_ (T.s 4) = rgt (T.s 2) (T.s 3 + T.s 4) i_ from (rgt_dif T (T.s 4) i_).symm) ?_
              refine lv_ladd hx hb dX7_digest_102 ?_
              refine lv_lstore_n (lv' := [(1, .long (((lN 31) * (((lN 31) * (fdO (fun q8 h8 => mx (mx h8 (T.r q8)) (rgt (T.s 2) (T.s 3 + T.s 4) q8)) h2 i_)) + (T.r i_))) + (rgt (T.s 2) (T.s 3 + T.s 4) i_))), (3, .int (nI i_)), (0, .ref y_)]) hx hb dX7_digest_103 rfl hl (by decide) rfl (fun ls hl => ?_)
              refine lv_iinc (v := nI (i_ + 1)) (lv' := [(3, .int (nI (i_ + 1))), (1, .long (((lN 31) * (((lN 31) * (fdO (fun q8 h8 => mx (mx h8 (T.r q8)) (rgt (T.s 2) (T.s 3 + T.s 4) q8)) h2 i_)) + (T.r i_))) + (rgt (T.s 2) (T.s 3 + T.s 4) i_))), (0, .ref y_)]) hx hb dX7_digest_104 hl (k := 1) rfl (ks_inc i_ 1) (by decide) rfl (fun ls hl => ?_)
              refine lv_goto (tgt := 62) hx hb dX7_digest_107 (by decide) ?_
              exact ih_62  (i_ + 1) (by omega) (by omega) _ _ hP hD hS ls (lv_sub hl [0, 2, 1] rfl)
        exact L_62 _ 0 (Nat.lt_succ_self _) (by omega) _ _ hP hD hS ls (lv_sub hl [0, 2, 1] rfl)
      · refine lv_ldc2 hx hb hown (hts (.constantLong RX7 221 (31)) (List.mem_of_getElem? (i := 3) rfl)) dX7_digest_17 ?_
        refine ks_vL (show (31 : Int64) = lN 31 from rfl) ?_
        refine lv_lload_n hx hb dX7_digest_20 rfl (lv_at hl 2 rfl) ?_
        refine lv_lmul hx hb dX7_digest_21 ?_
        refine lv_aload_n hx hb dX7_digest_22 rfl (lv_at hl 1 rfl) ?_
        refine lv_iload_n hx hb dX7_digest_23 rfl (lv_at hl 0 rfl) ?_
        refine cr_V (wr := [(ca 3, .inl (G.2.1, 60, .inl (fun q9 => nI (cs q9)))), (ca 5, .inl (G.2.2.1, 40, .inr (.inl (er)))), (ca 1, .inl (G.2.2.1, 103, .inr (.inl (f1_))))]) (As := [.int (nI i_)]) (rest := [.long ((lN 31) * (fdO (fun q8 h8 => mx h8 (cntA T (rvT T) ke q8).toInt64) (lN 2957) i_))]) ⟨hx, hb, hml, hown, hts⟩ (c_X7_counted G l y_ ca ke ty_ 0 po fl_ tl T i_ (by omega) (by omega) (by omega) (by omega) (by omega) (by omega)) (cwV 1 hts gX7_digest_X7_counted rfl rfl rfl (by decide +kernel) ⟨Nat.le_of_ble_eq_true rfl, Nat.le_of_ble_eq_true rfl⟩) dX7_digest_24 hK hNX hP hD hS hA hl 0 7 rfl rfl rfl [0, 1] [2, 3, 4] rfl rfl rfl rfl (by decide) rfl (Nat.le_of_ble_eq_true rfl) ⟨Nat.le_of_ble_eq_true rfl, Nat.le_of_ble_eq_true rfl⟩ rfl (fun v' w' Hq lcq hR' hP hD hS => ?_)
        obtain ⟨rfl, rfl⟩ := hR'
        have hP : va_P G.1 vwCl [(y_, .inr (7, [.ref (ca 0), .ref (ca 1), .ref (ca 2), .int (nI ke), .ref (ca 3), .int (nI ty_), .int (nI 0), .int (nI po), .int (bI fl_), .ref (ca 4), .int (nI tl), .ref (ca 5)])), (ca 0, .inl (G.2.2.1, 103, .inr (.inl (mV T)))), (ca 3, .inl (G.2.1, 60, .inl (fun q9 => nI (cs q9)))), (ca 5, .inl (G.2.2.1, 40, .inr (.inl (er)))), (ca 1, .inl (G.2.2.1, 103, .inr (.inl (f1_))))] _ := hP.sub [3, 4, 0, 1, 2] rfl
        have hD : va_D A [(y_, .inr (7, [.ref (ca 0), .ref (ca 1), .ref (ca 2), .int (nI ke), .ref (ca 3), .int (nI ty_), .int (nI 0), .int (nI po), .int (bI fl_), .ref (ca 4), .int (nI tl), .ref (ca 5)])), (ca 0, .inl (G.2.2.1, 103, .inr (.inl (mV T)))), (ca 3, .inl (G.2.1, 60, .inl (fun q9 => nI (cs q9)))), (ca 5, .inl (G.2.2.1, 40, .inr (.inl (er)))), (ca 1, .inl (G.2.2.1, 103, .inr (.inl (f1_))))] := hD.sub [3, 4, 0, 1, 2] (by decide +kernel) rfl
        refine lv_i2l hx hb dX7_digest_27 rfl ?_
        refine lv_ladd hx hb dX7_digest_28 ?_
        refine lv_lstore_n (lv' := [(1, .long (((lN 31) * (fdO (fun q8 h8 => mx h8 (cntA T (rvT T) ke q8).toInt64) (lN 2957) i_)) + ((cntA T (rvT T) ke i_).toInt64))), (3, .int (nI i_)), (0, .ref y_)]) hx hb dX7_digest_29 rfl hl (by decide) rfl (fun ls hl => ?_)
        refine lv_iinc (v := nI (i_ + 1)) (lv' := [(3, .int (nI (i_ + 1))), (1, .long (((lN 31) * (fdO (fun q8 h8 => mx h8 (cntA T (rvT T) ke q8).toInt64) (lN 2957) i_)) + ((cntA T (rvT T) ke i_).toInt64))), (0, .ref y_)]) hx hb dX7_digest_30 hl (k := 1) rfl (ks_inc i_ 1) (by decide) rfl (fun ls hl => ?_)
        refine lv_goto (tgt := 11) hx hb dX7_digest_33 (by decide) ?_
        exact ih_11  (i_ + 1) (by omega) (by omega) _ _ hP hD hS ls (lv_sub hl [0, 2, 1] rfl)
  exact L_11 _ 0 (Nat.lt_succ_self _) (by omega) _ _ hP hD hS ls (lv_sub hl [0, 2, 1] rfl)
