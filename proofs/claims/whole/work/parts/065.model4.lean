set_option maxHeartbeats 4000000 in
set_option maxRecDepth 100000 in
theorem c_X7_guessedBy (G : GG) (l : Launch) (y_ : Nat) (ca : Nat → Nat) (ke : Nat) (ty_ : Nat) (th : Nat) (po : Nat) (fl_ : Prop) (tl : Nat) (T : TS) (er : Nat → Int64) (b_ : Nat) (jb : b_ < T.s 4) (jn4 : T.s 4 ≤ 40) (jf_ : T.s 3 ≤ 99) (jp : T.s 2 ≤ 5) : Cr G l yX7_guessedBy wsX7_guessedBy ({ frames := 2, cells := 0, slots := 0, locals := 47 }) 0 0 [.ref y_, .int (nI b_)] [(y_, .inr (7, [.ref (ca 0), .ref (ca 1), .ref (ca 2), .int (nI ke), .ref (ca 3), .int (nI ty_), .int (nI th), .int (nI po), .int (bI fl_), .ref (ca 4), .int (nI tl), .ref (ca 5)])), (ca 0, .inl (G.2.2.1, 103, .inr (.inl (mV T)))), (ca 5, .inl (G.2.2.1, 40, .inr (.inl (er))))] (fun (vv1 : Option Value) (ww1 : va_W) => ∃ (e9_ : Nat → Int64), vv1 = (some (.int (fwI (gsP T (rvT T) b_) 6))) ∧ ww1 = [(y_, .inr (7, [.ref (ca 0), .ref (ca 1), .ref (ca 2), .int (nI ke), .ref (ca 3), .int (nI ty_), .int (nI th), .int (nI po), .int (bI fl_), .ref (ca 4), .int (nI tl), .ref (ca 5)])), (ca 0, .inl (G.2.2.1, 103, .inr (.inl (mV T)))), (ca 5, .inl (G.2.2.1, 40, .inr (.inl (e9_))))] ∧ (fw (gsP T (rvT T) b_) 6 < 6 → e9_ 0 = dif (gsE T (rvT T) b_) (fw (gsP T (rvT T) b_) 6) 0)) := by
  refine cr_intro (cc := cX7_guessedBy) (maxL := 6) (ret := (some .int)) (own := RX7) (by decide) rfl rfl (Nat.le_of_ble_eq_true rfl) ?_
  intro p e s m args below meth c A hx hb hr hml hts hown hlocks hnm hNX hP hK hD hA hS ls hl
  obtain ⟨RR, hRR⟩ : ∃ RR, RR = (fun (vv1 : Option Value) (ww1 : va_W) => ∃ (e9_ : Nat → Int64), vv1 = (some (.int (fwI (gsP T (rvT T) b_) 6))) ∧ ww1 = [(y_, .inr (7, [.ref (ca 0), .ref (ca 1), .ref (ca 2), .int (nI ke), .ref (ca 3), .int (nI ty_), .int (nI th), .int (nI po), .int (bI fl_), .ref (ca 4), .int (nI tl), .ref (ca 5)])), (ca 0, .inl (G.2.2.1, 103, .inr (.inl (mV T)))), (ca 5, .inl (G.2.2.1, 40, .inr (.inl (e9_))))] ∧ (fw (gsP T (rvT T) b_) 6 < 6 → e9_ 0 = dif (gsE T (rvT T) b_) (fw (gsP T (rvT T) b_) 6) 0)) := ⟨_, rfl⟩
  rw [← hRR]
  have hl : lv_has ls 6 [(0, .ref y_), (1, .int (nI b_))] := hl
  have hin7 : ∀ w ∈ u_ws RX7 TX7 12, w ∈ wsX7_guessedBy := fun w h => List.mem_cons_of_mem _ (List.mem_append_right _ h)
  refine lv_aload_n hx hb dX7_guessedBy_0 rfl (lv_at hl 0 rfl) ?_
  refine va_get (D := G.1) (ci := 7) (v := .ref (ca 0)) (C := RX7) (T := TX7) (N := 12) hx hb hts hin7 hown hK hP 0 rfl rfl 0 (by decide) (hts (.fieldLink RX7 7 "PowerTablesModel" "now" "[J") (List.mem_of_getElem? (i := 1) rfl)) (fun _ h9 => h9) rfl dX7_guessedBy_1 ?_
  refine lv_iconst (v := nI 4) hx hb dX7_guessedBy_4 (by decide) ?_
  refine ks_lald hx hb hK hP 1 rfl (by omega) (by decide) dX7_guessedBy_5 ?_
  refine ks_vL (show mV T 4 = lN (T.s 4) from rfl) ?_
  refine ks_l2iN hx hb dX7_guessedBy_6 ?_
  refine lv_iload_n hx hb dX7_guessedBy_7 rfl (lv_at hl 1 rfl) ?_
  refine ks_isubN hx hb dX7_guessedBy_8 (by omega) ?_
  refine lv_istore_n (lv' := [(2, .int (nI ((T.s 4) - b_))), (0, .ref y_), (1, .int (nI b_))]) hx hb dX7_guessedBy_9 rfl hl (by decide) rfl (fun ls hl => ?_)
  refine lv_iconst (v := nI 0) hx hb dX7_guessedBy_10 (by decide) ?_
  refine lv_istore_n (lv' := [(3, .int (nI 0)), (2, .int (nI ((T.s 4) - b_))), (0, .ref y_), (1, .int (nI b_))]) hx hb dX7_guessedBy_11 rfl hl (by decide) rfl (fun ls hl => ?_)
  have L_12 : ∀ (n_12 : Nat) (k_ : Nat) (_ : 41 - k_ < n_12) (jk : k_ ≤ T.s 4 - b_) (Hq : Heap) (lcq : List Loc), va_P G.1 vwCl [(y_, .inr (7, [.ref (ca 0), .ref (ca 1), .ref (ca 2), .int (nI ke), .ref (ca 3), .int (nI ty_), .int (nI th), .int (nI po), .int (bI fl_), .ref (ca 4), .int (nI tl), .ref (ca 5)])), (ca 0, .inl (G.2.2.1, 103, .inr (.inl (mV T)))), (ca 5, .inl (G.2.2.1, 40, .inr (.inl (cpu er (gsE T (rvT T) b_) k_))))] Hq → va_D A [(y_, .inr (7, [.ref (ca 0), .ref (ca 1), .ref (ca 2), .int (nI ke), .ref (ca 3), .int (nI ty_), .int (nI th), .int (nI po), .int (bI fl_), .ref (ca 4), .int (nI tl), .ref (ca 5)])), (ca 0, .inl (G.2.2.1, 103, .inr (.inl (mV T)))), (ca 5, .inl (G.2.2.1, 40, .inr (.inl (cpu er (gsE T (rvT T) b_) k_))))] → va_S A s.heap Hq lcq → ∀ ls : Array Slot, lv_has ls 6 [(3, .int (nI k_)), (0, .ref y_), (1, .int (nI b_)), (2, .int (nI (T.s 4 - b_)))] → W p l e ({ frames := 2, cells := 0, slots := 0, locals := 47 }) s m args below meth c Hq lcq 0 0 (MQ below (cr_Q G RR A) args s 0 0 A) (F0 m 12 ls []) := by
    intro n_12
    induction n_12 with
    | zero => intro k_ hmu_12; exact absurd hmu_12 (Nat.not_lt_zero _)
    | succ n_12 ih_12 =>
      intro k_ hmu_12 jk Hq lcq hP hD hS ls hl
      refine lv_iload_n hx hb dX7_guessedBy_12 rfl (lv_at hl 0 rfl) ?_
      refine lv_iload_n hx hb dX7_guessedBy_13 rfl (lv_at hl 3 rfl) ?_
      refine ks_icmp_ge (tgt := 36) hx hb dX7_guessedBy_14 (by decide) (by omega) (by omega) (fun c_14 => ?_) (fun c_14 => ?_)
      · obtain rfl : k_ = T.s 4 - b_ := by omega
        refine lv_iconst (v := nI 0) hx hb dX7_guessedBy_36 (by decide) ?_
        refine lv_istore_n (lv' := [(3, .int (nI 0)), (0, .ref y_), (1, .int (nI b_)), (2, .int (nI (T.s 4 - b_)))]) hx hb dX7_guessedBy_37 rfl hl (by decide) rfl (fun ls hl => ?_)
        have L_38 : ∀ (n_38 : Nat) (j_ : Nat) (e2_ : Nat → Int64) (n2_ : Nat) (_ : 7 - j_ < n_38) (jj : j_ ≤ 6) (jn2 : n2_ = T.s 4 - b_ - j_) (jf_ : ∀ t, t < n2_ → e2_ t = dif (gsE T (rvT T) b_) j_ t) (jo : ∀ i_, i_ < j_ → ¬ gsP T (rvT T) b_ i_) (Hq : Heap) (lcq : List Loc), va_P G.1 vwCl [(y_, .inr (7, [.ref (ca 0), .ref (ca 1), .ref (ca 2), .int (nI ke), .ref (ca 3), .int (nI ty_), .int (nI th), .int (nI po), .int (bI fl_), .ref (ca 4), .int (nI tl), .ref (ca 5)])), (ca 0, .inl (G.2.2.1, 103, .inr (.inl (mV T)))), (ca 5, .inl (G.2.2.1, 40, .inr (.inl (e2_))))] Hq → va_D A [(y_, .inr (7, [.ref (ca 0), .ref (ca 1), .ref (ca 2), .int (nI ke), .ref (ca 3), .int (nI ty_), .int (nI th), .int (nI po), .int (bI fl_), .ref (ca 4), .int (nI tl), .ref (ca 5)])), (ca 0, .inl (G.2.2.1, 103, .inr (.inl (mV T)))), (ca 5, .inl (G.2.2.1, 40, .inr (.inl (e2_))))] → va_S A s.heap Hq lcq → ∀ ls : Array Slot, lv_has ls 6 [(3, .int (nI j_)), (0, .ref y_), (1, .int (nI b_)), (2, .int (nI n2_))] → W p l e ({ frames := 2, cells := 0, slots := 0, locals := 47 }) s m args below meth c Hq lcq 0 0 (MQ below (cr_Q G RR A) args s 0 0 A) (F0 m 38 ls []) := by
          intro n_38
          induction n_38 with
          | zero => intro j_ e2_ n2_ hmu_38; exact absurd hmu_38 (Nat.not_lt_zero _)
          | succ n_38 ih_38 =>
            intro j_ e2_ n2_ hmu_38 jj jn2 jf_ jo Hq lcq hP hD hS ls hl
            refine lv_iload_n hx hb dX7_guessedBy_38 rfl (lv_at hl 0 rfl) ?_
            refine lv_bipush (v := nI 6) hx hb dX7_guessedBy_39 (by decide) ?_
            refine ks_icmp_ge (tgt := 166) hx hb dX7_guessedBy_41 (by decide) (by omega) (by omega) (fun c_41 => ?_) (fun c_41 => ?_)
            · have ea : ∀ k_, k_ < 6 → ¬ gsP T (rvT T) b_ k_ := fun k_ hk => jo k_ (by omega)
              refine lv_iconst (v := (-1)) hx hb dX7_guessedBy_166 (by decide) ?_
              exact cr_iret hx hb hr hlocks hK hP hD hS dX7_guessedBy_167 (by rw [hRR]; exact ⟨e2_, congrArg (fun z => some (Value.int z)) ((fwI_n ea).symm), rfl, fun hi => absurd hi (by rw [fw_n ea]; omega)⟩)
            · refine lv_iload_n hx hb dX7_guessedBy_44 rfl (lv_at hl 3 rfl) ?_
              refine lv_iconst (v := nI 2) hx hb dX7_guessedBy_45 (by decide) ?_
              refine ks_icmp_lt (tgt := 166) hx hb dX7_guessedBy_46 (by decide) (by omega) (by omega) (fun c_46 => ?_) (fun c_46 => ?_)
              · have ea : ∀ k_, k_ < 6 → ¬ gsP T (rvT T) b_ k_ := fun k_ hk => (Nat.lt_or_ge k_ j_).elim (fun z => jo k_ z) (fun z w => by have w1_ := w.1; omega)
                refine lv_iconst (v := (-1)) hx hb dX7_guessedBy_166 (by decide) ?_
                exact cr_iret hx hb hr hlocks hK hP hD hS dX7_guessedBy_167 (by rw [hRR]; exact ⟨e2_, congrArg (fun z => some (Value.int z)) ((fwI_n ea).symm), rfl, fun hi => absurd hi (by rw [fw_n ea]; omega)⟩)
              · refine lv_aload_n hx hb dX7_guessedBy_49 rfl (lv_at hl 1 rfl) ?_
                refine va_get (D := G.1) (ci := 7) (v := .ref (ca 5)) (C := RX7) (T := TX7) (N := 12) hx hb hts hin7 hown hK hP 0 rfl rfl 11 (by decide) (hts (.fieldLink RX7 26 "PowerTablesModel" "errors" "[J") (List.mem_of_getElem? (i := 2) rfl)) (fun _ h9 => h9) rfl dX7_guessedBy_50 ?_
                refine lv_iconst (v := nI 0) hx hb dX7_guessedBy_53 (by decide) ?_
                refine ks_lald hx hb hK hP 2 rfl (by omega) (by decide) dX7_guessedBy_54 ?_
                refine lv_lconst (v := lN 0) hx hb dX7_guessedBy_55 rfl ?_
                refine ks_lc_eq (tgt := 64) hx hb dX7_guessedBy_56 dX7_guessedBy_57 (by decide) (fun c_56 => ?_) (fun c_56 => ?_)
                · have e8 : 0 = b01 (e2_ 0 ≠ lN 0 ∧ ∀ i_, i_ < 1 → e2_ i_ = e2_ 0) := (b01_f (fun z => z.1 c_56)).symm
                  refine lv_iconst (v := nI 0) hx hb dX7_guessedBy_64 (by decide) ?_
                  refine lv_istore (lv' := [(4, .int (nI 0)), (3, .int (nI j_)), (0, .ref y_), (1, .int (nI b_)), (2, .int (nI n2_))]) hx hb dX7_guessedBy_65 hl (by decide) rfl (fun ls hl => ?_)
                  refine lv_iconst (v := nI 1) hx hb dX7_guessedBy_67 (by decide) ?_
                  refine lv_istore (lv' := [(5, .int (nI 1)), (4, .int (nI 0)), (3, .int (nI j_)), (0, .ref y_), (1, .int (nI b_)), (2, .int (nI n2_))]) hx hb dX7_guessedBy_68 hl (by decide) rfl (fun ls hl => ?_)
                  have L_70 : ∀ (n_70 : Nat) (k_ : Nat) (al_ : Nat) (_ : 41 - k_ < n_70) (jk1 : 1 ≤ k_) (jkn : k_ ≤ n2_) (jal : al_ = b01 (e2_ 0 ≠ lN 0 ∧ ∀ i_, i_ < k_ → e2_ i_ = e2_ 0)) (Hq : Heap) (lcq : List Loc), va_P G.1 vwCl [(y_, .inr (7, [.ref (ca 0), .ref (ca 1), .ref (ca 2), .int (nI ke), .ref (ca 3), .int (nI ty_), .int (nI th), .int (nI po), .int (bI fl_), .ref (ca 4), .int (nI tl), .ref (ca 5)])), (ca 0, .inl (G.2.2.1, 103, .inr (.inl (mV T)))), (ca 5, .inl (G.2.2.1, 40, .inr (.inl (e2_))))] Hq → va_D A [(y_, .inr (7, [.ref (ca 0), .ref (ca 1), .ref (ca 2), .int (nI ke), .ref (ca 3), .int (nI ty_), .int (nI th), .int (nI po), .int (bI fl_), .ref (ca 4), .int (nI tl), .ref (ca 5)])), (ca 0, .inl (G.2.2.1, 103, .inr (.inl (mV T)))), (ca 5, .inl (G.2.2.1, 40, .inr (.inl (e2_))))] → va_S A s.heap Hq lcq → ∀ ls : Array Slot, lv_has ls 6 [(5, .int (nI k_)), (4, .int (nI al_)), (0, .ref y_), (1, .int (nI b_)), (2, .int (nI n2_)), (3, .int (nI j_))] → W p l e ({ frames := 2, cells := 0, slots := 0, locals := 47 }) s m args below meth c Hq lcq 0 0 (MQ below (cr_Q G RR A) args s 0 0 A) (F0 m 70 ls []) := by
                    intro n_70
                    induction n_70 with
                    | zero => intro k_ al_ hmu_70; exact absurd hmu_70 (Nat.not_lt_zero _)
                    | succ n_70 ih_70 =>
                      intro k_ al_ hmu_70 jk1 jkn jal Hq lcq hP hD hS ls hl
                      refine lv_iload hx hb dX7_guessedBy_70 (lv_at hl 0 rfl) ?_
                      refine lv_iload_n hx hb dX7_guessedBy_72 rfl (lv_at hl 4 rfl) ?_
                      refine ks_icmp_ge (tgt := 111) hx hb dX7_guessedBy_73 (by decide) (by omega) (by omega) (fun c_73 => ?_) (fun c_73 => ?_)
                      · obtain rfl : n2_ = k_ := by omega
                        refine lv_iload hx hb dX7_guessedBy_111 (lv_at hl 1 rfl) ?_
                        refine ks_if_eq (tgt := 118) hx hb dX7_guessedBy_113 (by decide) (by have z9 := b01_le (e2_ 0 ≠ lN 0 ∧ ∀ i_, i_ < n2_ → e2_ i_ = e2_ 0); omega) (fun c_113 => ?_) (fun c_113 => ?_)
                        · have e1_ : ¬ gsP T (rvT T) b_ j_ := fun z => b01_n jal c_113 ((gs_one jn2 jf_).mpr z).2
                          refine lv_iinc (v := nI (n2_ - 1)) (lv' := [(2, .int (nI (n2_ - 1))), (5, .int (nI n2_)), (4, .int (nI al_)), (0, .ref y_), (1, .int (nI b_)), (3, .int (nI j_))]) hx hb dX7_guessedBy_118 hl (k := 4) rfl (ks_dec (by omega)) (by decide) rfl (fun ls hl => ?_)
                          refine lv_iconst (v := nI 0) hx hb dX7_guessedBy_121 (by decide) ?_
                          refine lv_istore (lv' := [(5, .int (nI 0)), (2, .int (nI (n2_ - 1))), (4, .int (nI al_)), (0, .ref y_), (1, .int (nI b_)), (3, .int (nI j_))]) hx hb dX7_guessedBy_122 hl (by decide) rfl (fun ls hl => ?_)
                          have L_124 : ∀ (n_124 : Nat) (i_ : Nat) (_ : 41 - i_ < n_124) (ji : i_ ≤ n2_ - 1) (Hq : Heap) (lcq : List Loc), va_P G.1 vwCl [(y_, .inr (7, [.ref (ca 0), .ref (ca 1), .ref (ca 2), .int (nI ke), .ref (ca 3), .int (nI ty_), .int (nI th), .int (nI po), .int (bI fl_), .ref (ca 4), .int (nI tl), .ref (ca 5)])), (ca 0, .inl (G.2.2.1, 103, .inr (.inl (mV T)))), (ca 5, .inl (G.2.2.1, 40, .inr (.inl (dfu e2_ i_))))] Hq → va_D A [(y_, .inr (7, [.ref (ca 0), .ref (ca 1), .ref (ca 2), .int (nI ke), .ref (ca 3), .int (nI ty_), .int (nI th), .int (nI po), .int (bI fl_), .ref (ca 4), .int (nI tl), .ref (ca 5)])), (ca 0, .inl (G.2.2.1, 103, .inr (.inl (mV T)))), (ca 5, .inl (G.2.2.1, 40, .inr (.inl (dfu e2_ i_))))] → va_S A s.heap Hq lcq → ∀ ls : Array Slot, lv_has ls 6 [(5, .int (nI i_)), (0, .ref y_), (1, .int (nI b_)), (2, .int (nI (n2_ - 1))), (3, .int (nI j_))] → W p l e ({ frames := 2, cells := 0, slots := 0, locals := 47 }) s m args below meth c Hq lcq 0 0 (MQ below (cr_Q G RR A) args s 0 0 A) (F0 m 124 ls []) := by
                            intro n_124
                            induction n_124 with
                            | zero => intro i_ hmu_124; exact absurd hmu_124 (Nat.not_lt_zero _)
                            | succ n_124 ih_124 =>
                              intro i_ hmu_124 ji Hq lcq hP hD hS ls hl
                              refine lv_iload hx hb dX7_guessedBy_124 (lv_at hl 0 rfl) ?_
                              refine lv_iload_n hx hb dX7_guessedBy_126 rfl (lv_at hl 3 rfl) ?_
                              refine ks_icmp_ge (tgt := 160) hx hb dX7_guessedBy_127 (by decide) (by omega) (by omega) (fun c_127 => ?_) (fun c_127 => ?_)
                              · refine lv_iinc (v := nI (j_ + 1)) (lv' := [(3, .int (nI (j_ + 1))), (5, .int (nI i_)), (0, .ref y_), (1, .int (nI b_)), (2, .int (nI (n2_ - 1)))]) hx hb dX7_guessedBy_160 hl (k := 4) rfl (ks_inc j_ 1) (by decide) rfl (fun ls hl => ?_)
                                refine lv_goto (tgt := 38) hx hb dX7_guessedBy_163 (by decide) ?_
                                exact ih_38  (j_ + 1) (dfu e2_ i_) (n2_ - 1) (by omega) (by omega) (by omega) (fun t ht => by rw [dfu_lo (by omega), jf_ _ (by omega), jf_ _ (by omega)]; rfl) (fun i_ hi => (Nat.lt_or_ge i_ j_).elim (fun z => jo i_ z) (fun z => by rw [show i_ = j_ by omega]; exact e1_)) _ _ hP hD hS ls (lv_sub hl [0, 2, 3, 4] rfl)
                              · refine lv_aload_n hx hb dX7_guessedBy_130 rfl (lv_at hl 1 rfl) ?_
                                refine va_get (D := G.1) (ci := 7) (v := .ref (ca 5)) (C := RX7) (T := TX7) (N := 12) hx hb hts hin7 hown hK hP 0 rfl rfl 11 (by decide) (hts (.fieldLink RX7 26 "PowerTablesModel" "errors" "[J") (List.mem_of_getElem? (i := 2) rfl)) (fun _ h9 => h9) rfl dX7_guessedBy_131 ?_
                                refine lv_iload hx hb dX7_guessedBy_134 (lv_at hl 0 rfl) ?_
                                refine lv_aload_n hx hb dX7_guessedBy_136 rfl (lv_at hl 1 rfl) ?_
                                refine va_get (D := G.1) (ci := 7) (v := .ref (ca 5)) (C := RX7) (T := TX7) (N := 12) hx hb hts hin7 hown hK hP 0 rfl rfl 11 (by decide) (hts (.fieldLink RX7 26 "PowerTablesModel" "errors" "[J") (List.mem_of_getElem? (i := 2) rfl)) (fun _ h9 => h9) rfl dX7_guessedBy_137 ?_
                                refine lv_iload hx hb dX7_guessedBy_140 (lv_at hl 0 rfl) ?_
                                refine lv_iconst (v := nI 1) hx hb dX7_guessedBy_142 (by decide) ?_
                                refine ks_iaddN hx hb dX7_guessedBy_143 ?_
                                refine ks_lald hx hb hK hP 2 rfl (by omega) (by decide) dX7_guessedBy_144 ?_
                                refine lv_aload_n hx hb dX7_guessedBy_145 rfl (lv_at hl 1 rfl) ?_
                                refine va_get (D := G.1) (ci := 7) (v := .ref (ca 5)) (C := RX7) (T := TX7) (N := 12) hx hb hts hin7 hown hK hP 0 rfl rfl 11 (by decide) (hts (.fieldLink RX7 26 "PowerTablesModel" "errors" "[J") (List.mem_of_getElem? (i := 2) rfl)) (fun _ h9 => h9) rfl dX7_guessedBy_146 ?_
                                refine lv_iload hx hb dX7_guessedBy_149 (lv_at hl 0 rfl) ?_
                                refine ks_lald hx hb hK hP 2 rfl (by omega) (by decide) dX7_guessedBy_151 ?_
                                refine lv_lsub hx hb dX7_guessedBy_152 ?_
                                refine ks_last (f' := dfu e2_ (i_ + 1)) hx hb hK hP hD hS 2 rfl (by omega) (by decide) (dfu_s e2_ i_) dX7_guessedBy_153 (fun Hq lcq hP hD hS => ?_)
                                have hP : va_P G.1 vwCl [(y_, .inr (7, [.ref (ca 0), .ref (ca 1), .ref (ca 2), .int (nI ke), .ref (ca 3), .int (nI ty_), .int (nI th), .int (nI po), .int (bI fl_), .ref (ca 4), .int (nI tl), .ref (ca 5)])), (ca 0, .inl (G.2.2.1, 103, .inr (.inl (mV T)))), (ca 5, .inl (G.2.2.1, 40, .inr (.inl (dfu e2_ (i_ + 1)))))] _ := hP
                                have hD : va_D A [(y_, .inr (7, [.ref (ca 0), .ref (ca 1), .ref (ca 2), .int (nI ke), .ref (ca 3), .int (nI ty_), .int (nI th), .int (nI po), .int (bI fl_), .ref (ca 4), .int (nI tl), .ref (ca 5)])), (ca 0, .inl (G.2.2.1, 103, .inr (.inl (mV T)))), (ca 5, .inl (G.2.2.1, 40, .inr (.inl (dfu e2_ (i_ + 1)))))] := hD
                                refine lv_iinc (v := nI (i_ + 1)) (lv' := [(5, .int (nI (i_ + 1))), (0, .ref y_), (1, .int (nI b_)), (2, .int (nI (n2_ - 1))), (3, .int (nI j_))]) hx hb dX7_guessedBy_154 hl (k := 0) rfl (ks_inc i_ 1) (by decide) rfl (fun ls hl => ?_)
                                refine lv_goto (tgt := 124) hx hb dX7_guessedBy_157 (by decide) ?_
                                exact ih_124  (i_ + 1) (by omega) (by omega) _ _ hP hD hS ls (lv_sub hl [0, 1, 2, 3, 4] rfl)
                          rw [← dfu_0 e2_] at hP hD
                          exact L_124 _ 0 (Nat.lt_succ_self _) (by omega) _ _ hP hD hS ls (lv_sub hl [0, 3, 4, 1, 5] rfl)
                        · have e1_ : gsP T (rvT T) b_ j_ := (gs_one jn2 jf_).mp ⟨by omega, b01_y jal (by omega)⟩
                          refine lv_iload_n hx hb dX7_guessedBy_116 rfl (lv_at hl 5 rfl) ?_
                          exact cr_iret hx hb hr hlocks hK hP hD hS dX7_guessedBy_117 (by rw [hRR]; exact ⟨e2_, congrArg (fun z => some (Value.int z)) ((fwI_y c_41 e1_ jo).symm), rfl, fun _ => by rw [fw_y c_41 e1_ jo]; exact jf_ 0 (by omega)⟩)
                      · refine lv_iload hx hb dX7_guessedBy_76 (lv_at hl 1 rfl) ?_
                        refine ks_if_eq (tgt := 102) hx hb dX7_guessedBy_78 (by decide) (by have z9 := b01_le (e2_ 0 ≠ lN 0 ∧ ∀ i_, i_ < k_ → e2_ i_ = e2_ 0); omega) (fun c_78 => ?_) (fun c_78 => ?_)
                        · have e7_ : 0 = b01 (e2_ 0 ≠ lN 0 ∧ ∀ i_, i_ < (k_ + 1) → e2_ i_ = e2_ 0) := al_0 jal c_78
                          refine lv_iconst (v := nI 0) hx hb dX7_guessedBy_102 (by decide) ?_
                          refine lv_istore (lv' := [(4, .int (nI 0)), (5, .int (nI k_)), (0, .ref y_), (1, .int (nI b_)), (2, .int (nI n2_)), (3, .int (nI j_))]) hx hb dX7_guessedBy_103 hl (by decide) rfl (fun ls hl => ?_)
                          refine lv_iinc (v := nI (k_ + 1)) (lv' := [(5, .int (nI (k_ + 1))), (4, .int (nI 0)), (0, .ref y_), (1, .int (nI b_)), (2, .int (nI n2_)), (3, .int (nI j_))]) hx hb dX7_guessedBy_105 hl (k := 1) rfl (ks_inc k_ 1) (by decide) rfl (fun ls hl => ?_)
                          refine lv_goto (tgt := 70) hx hb dX7_guessedBy_108 (by decide) ?_
                          exact ih_70  (k_ + 1) 0 (by omega) (by omega) (by omega) (e7_) _ _ hP hD hS ls (lv_sub hl [0, 1, 2, 3, 4, 5] rfl)
                        · refine lv_aload_n hx hb dX7_guessedBy_81 rfl (lv_at hl 2 rfl) ?_
                          refine va_get (D := G.1) (ci := 7) (v := .ref (ca 5)) (C := RX7) (T := TX7) (N := 12) hx hb hts hin7 hown hK hP 0 rfl rfl 11 (by decide) (hts (.fieldLink RX7 26 "PowerTablesModel" "errors" "[J") (List.mem_of_getElem? (i := 2) rfl)) (fun _ h9 => h9) rfl dX7_guessedBy_82 ?_
                          refine lv_iload hx hb dX7_guessedBy_85 (lv_at hl 0 rfl) ?_
                          refine ks_lald hx hb hK hP 2 rfl (by omega) (by decide) dX7_guessedBy_87 ?_
                          refine lv_aload_n hx hb dX7_guessedBy_88 rfl (lv_at hl 2 rfl) ?_
                          refine va_get (D := G.1) (ci := 7) (v := .ref (ca 5)) (C := RX7) (T := TX7) (N := 12) hx hb hts hin7 hown hK hP 0 rfl rfl 11 (by decide) (hts (.fieldLink RX7 26 "PowerTablesModel" "errors" "[J") (List.mem_of_getElem? (i := 2) rfl)) (fun _ h9 => h9) rfl dX7_guessedBy_89 ?_
                          refine lv_iconst (v := nI 0) hx hb dX7_guessedBy_92 (by decide) ?_
                          refine ks_lald hx hb hK hP 2 rfl (by omega) (by decide) dX7_guessedBy_93 ?_
                          refine ks_lc_ne (tgt := 102) hx hb dX7_guessedBy_94 dX7_guessedBy_95 (by decide) (fun c_94 => ?_) (fun c_94 => ?_)
                          · have e7_ : 0 = b01 (e2_ 0 ≠ lN 0 ∧ ∀ i_, i_ < (k_ + 1) → e2_ i_ = e2_ 0) := al_n c_94
                            refine lv_iconst (v := nI 0) hx hb dX7_guessedBy_102 (by decide) ?_
                            refine lv_istore (lv' := [(4, .int (nI 0)), (5, .int (nI k_)), (0, .ref y_), (1, .int (nI b_)), (2, .int (nI n2_)), (3, .int (nI j_))]) hx hb dX7_guessedBy_103 hl (by decide) rfl (fun ls hl => ?_)
                            refine lv_iinc (v := nI (k_ + 1)) (lv' := [(5, .int (nI (k_ + 1))), (4, .int (nI 0)), (0, .ref y_), (1, .int (nI b_)), (2, .int (nI n2_)), (3, .int (nI j_))]) hx hb dX7_guessedBy_105 hl (k := 1) rfl (ks_inc k_ 1) (by decide) rfl (fun ls hl => ?_)
                            refine lv_goto (tgt := 70) hx hb dX7_guessedBy_108 (by decide) ?_
                            exact ih_70  (k_ + 1) 0 (by omega) (by omega) (by omega) (e7_) _ _ hP hD hS ls (lv_sub hl [0, 1, 2, 3, 4, 5] rfl)
                          · have e7_ : 1 = b01 (e2_ 0 ≠ lN 0 ∧ ∀ i_, i_ < (k_ + 1) → e2_ i_ = e2_ 0) := al_y jal (by omega) c_94
                            refine lv_iconst (v := nI 1) hx hb dX7_guessedBy_98 (by decide) ?_
                            refine lv_goto (tgt := 103) hx hb dX7_guessedBy_99 (by decide) ?_
                            refine lv_istore (lv' := [(4, .int (nI 1)), (5, .int (nI k_)), (0, .ref y_), (1, .int (nI b_)), (2, .int (nI n2_)), (3, .int (nI j_))]) hx hb dX7_guessedBy_103 hl (by decide) rfl (fun ls hl => ?_)
                            refine lv_iinc (v := nI (k_ + 1)) (lv' := [(5, .int (nI (k_ + 1))), (4, .int (nI 1)), (0, .ref y_), (1, .int (nI b_)), (2, .int (nI n2_)), (3, .int (nI j_))]) hx hb dX7_guessedBy_105 hl (k := 1) rfl (ks_inc k_ 1) (by decide) rfl (fun ls hl => ?_)
                            refine lv_goto (tgt := 70) hx hb dX7_guessedBy_108 (by decide) ?_
                            exact ih_70  (k_ + 1) 1 (by omega) (by omega) (by omega) (e7_) _ _ hP hD hS ls (lv_sub hl [0, 1, 2, 3, 4, 5] rfl)
                  exact L_70 _ 1 0 (Nat.lt_succ_self _) (by omega) (by omega) (e8) _ _ hP hD hS ls (lv_sub hl [0, 1, 3, 4, 5, 2] rfl)
                · have e8 : 1 = b01 (e2_ 0 ≠ lN 0 ∧ ∀ i_, i_ < 1 → e2_ i_ = e2_ 0) := (b01_t ⟨c_56, fun i_ hi => by rw [show i_ = 0 by omega]⟩).symm
                  refine lv_iconst (v := nI 1) hx hb dX7_guessedBy_60 (by decide) ?_
                  refine lv_goto (tgt := 65) hx hb dX7_guessedBy_61 (by decide) ?_
                  refine lv_istore (lv' := [(4, .int (nI 1)), (3, .int (nI j_)), (0, .ref y_), (1, .int (nI b_)), (2, .int (nI n2_))]) hx hb dX7_guessedBy_65 hl (by decide) rfl (fun ls hl => ?_)
                  refine lv_iconst (v := nI 1) hx hb dX7_guessedBy_67 (by decide) ?_
                  refine lv_istore (lv' := [(5, .int (nI 1)), (4, .int (nI 1)), (3, .int (nI j_)), (0, .ref y_), (1, .int (nI b_)), (2, .int (nI n2_))]) hx hb dX7_guessedBy_68 hl (by decide) rfl (fun ls hl => ?_)
                  have L_70 : ∀ (n_70 : Nat) (k_ : Nat) (al_ : Nat) (_ : 41 - k_ < n_70) (jk1 : 1 ≤ k_) (jkn : k_ ≤ n2_) (jal : al_ = b01 (e2_ 0 ≠ lN 0 ∧ ∀ i_, i_ < k_ → e2_ i_ = e2_ 0)) (Hq : Heap) (lcq : List Loc), va_P G.1 vwCl [(y_, .inr (7, [.ref (ca 0), .ref (ca 1), .ref (ca 2), .int (nI ke), .ref (ca 3), .int (nI ty_), .int (nI th), .int (nI po), .int (bI fl_), .ref (ca 4), .int (nI tl), .ref (ca 5)])), (ca 0, .inl (G.2.2.1, 103, .inr (.inl (mV T)))), (ca 5, .inl (G.2.2.1, 40, .inr (.inl (e2_))))] Hq → va_D A [(y_, .inr (7, [.ref (ca 0), .ref (ca 1), .ref (ca 2), .int (nI ke), .ref (ca 3), .int (nI ty_), .int (nI th), .int (nI po), .int (bI fl_), .ref (ca 4), .int (nI tl), .ref (ca 5)])), (ca 0, .inl (G.2.2.1, 103, .inr (.inl (mV T)))), (ca 5, .inl (G.2.2.1, 40, .inr (.inl (e2_))))] → va_S A s.heap Hq lcq → ∀ ls : Array Slot, lv_has ls 6 [(5, .int (nI k_)), (4, .int (nI al_)), (0, .ref y_), (1, .int (nI b_)), (2, .int (nI n2_)), (3, .int (nI j_))] → W p l e ({ frames := 2, cells := 0, slots := 0, locals := 47 }) s m args below meth c Hq lcq 0 0 (MQ below (cr_Q G RR A) args s 0 0 A) (F0 m 70 ls []) := by
                    intro n_70
                    induction n_70 with
                    | zero => intro k_ al_ hmu_70; exact absurd hmu_70 (Nat.not_lt_zero _)
                    | succ n_70 ih_70 =>
                      intro k_ al_ hmu_70 jk1 jkn jal Hq lcq hP hD hS ls hl
                      refine lv_iload hx hb dX7_guessedBy_70 (lv_at hl 0 rfl) ?_
                      refine lv_iload_n hx hb dX7_guessedBy_72 rfl (lv_at hl 4 rfl) ?_
                      refine ks_icmp_ge (tgt := 111) hx hb dX7_guessedBy_73 (by decide) (by omega) (by omega) (fun c_73 => ?_) (fun c_73 => ?_)
                      · obtain rfl : n2_ = k_ := by omega
                        refine lv_iload hx hb dX7_guessedBy_111 (lv_at hl 1 rfl) ?_
                        refine ks_if_eq (tgt := 118) hx hb dX7_guessedBy_113 (by decide) (by have z9 := b01_le (e2_ 0 ≠ lN 0 ∧ ∀ i_, i_ < n2_ → e2_ i_ = e2_ 0); omega) (fun c_113 => ?_) (fun c_113 => ?_)
                        · have e1_ : ¬ gsP T (rvT T) b_ j_ := fun z => b01_n jal c_113 ((gs_one jn2 jf_).mpr z).2
                          refine lv_iinc (v := nI (n2_ - 1)) (lv' := [(2, .int (nI (n2_ - 1))), (5, .int (nI n2_)), (4, .int (nI al_)), (0, .ref y_), (1, .int (nI b_)), (3, .int (nI j_))]) hx hb dX7_guessedBy_118 hl (k := 4) rfl (ks_dec (by omega)) (by decide) rfl (fun ls hl => ?_)
                          refine lv_iconst (v := nI 0) hx hb dX7_guessedBy_121 (by decide) ?_
                          refine lv_istore (lv' := [(5, .int (nI 0)), (2, .int (nI (n2_ - 1))), (4, .int (nI al_)), (0, .ref y_), (1, .int (nI b_)), (3, .int (nI j_))]) hx hb dX7_guessedBy_122 hl (by decide) rfl (fun ls hl => ?_)
                          have L_124 : ∀ (n_124 : Nat) (i_ : Nat) (_ : 41 - i_ < n_124) (ji : i_ ≤ n2_ - 1) (Hq : Heap) (lcq : List Loc), va_P G.1 vwCl [(y_, .inr (7, [.ref (ca 0), .ref (ca 1), .ref (ca 2), .int (nI ke), .ref (ca 3), .int (nI ty_), .int (nI th), .int (nI po), .int (bI fl_), .ref (ca 4), .int (nI tl), .ref (ca 5)])), (ca 0, .inl (G.2.2.1, 103, .inr (.inl (mV T)))), (ca 5, .inl (G.2.2.1, 40, .inr (.inl (dfu e2_ i_))))] Hq → va_D A [(y_, .inr (7, [.ref (ca 0), .ref (ca 1), .ref (ca 2), .int (nI ke), .ref (ca 3), .int (nI ty_), .int (nI th), .int (nI po), .int (bI fl_), .ref (ca 4), .int (nI tl), .ref (ca 5)])), (ca 0, .inl (G.2.2.1, 103, .inr (.inl (mV T)))), (ca 5, .inl (G.2.2.1, 40, .inr (.inl (dfu e2_ i_))))] → va_S A s.heap Hq lcq → ∀ ls : Array Slot, lv_has ls 6 [(5, .int (nI i_)), (0, .ref y_), (1, .int (nI b_)), (2, .int (nI (n2_ - 1))), (3, .int (nI j_))] → W p l e ({ frames := 2, cells := 0, slots := 0, locals := 47 }) s m args below meth c Hq lcq 0 0 (MQ below (cr_Q G RR A) args s 0 0 A) (F0 m 124 ls []) := by
                            intro n_124
                            induction n_124 with
                            | zero => intro i_ hmu_124; exact absurd hmu_124 (Nat.not_lt_zero _)
                            | succ n_124 ih_124 =>
                              intro i_ hmu_124 ji Hq lcq hP hD hS ls hl
                              refine lv_iload hx hb dX7_guessedBy_124 (lv_at hl 0 rfl) ?_
                              refine lv_iload_n hx hb dX7_guessedBy_126 rfl (lv_at hl 3 rfl) ?_
                              refine ks_icmp_ge (tgt := 160) hx hb dX7_guessedBy_127 (by decide) (by omega) (by omega) (fun c_127 => ?_) (fun c_127 => ?_)
                              · refine lv_iinc (v := nI (j_ + 1)) (lv' := [(3, .int (nI (j_ + 1))), (5, .int (nI i_)), (0, .ref y_), (1, .int (nI b_)), (2, .int (nI (n2_ - 1)))]) hx hb dX7_guessedBy_160 hl (k := 4) rfl (ks_inc j_ 1) (by decide) rfl (fun ls hl => ?_)
                                refine lv_goto (tgt := 38) hx hb dX7_guessedBy_163 (by decide) ?_
                                exact ih_38  (j_ + 1) (dfu e2_ i_) (n2_ - 1) (by omega) (by omega) (by omega) (fun t ht => by rw [dfu_lo (by omega), jf_ _ (by omega), jf_ _ (by omega)]; rfl) (fun i_ hi => (Nat.lt_or_ge i_ j_).elim (fun z => jo i_ z) (fun z => by rw [show i_ = j_ by omega]; exact e1_)) _ _ hP hD hS ls (lv_sub hl [0, 2, 3, 4] rfl)
                              · refine lv_aload_n hx hb dX7_guessedBy_130 rfl (lv_at hl 1 rfl) ?_
                                refine va_get (D := G.1) (ci := 7) (v := .ref (ca 5)) (C := RX7) (T := TX7) (N := 12) hx hb hts hin7 hown hK hP 0 rfl rfl 11 (by decide) (hts (.fieldLink RX7 26 "PowerTablesModel" "errors" "[J") (List.mem_of_getElem? (i := 2) rfl)) (fun _ h9 => h9) rfl dX7_guessedBy_131 ?_
                                refine lv_iload hx hb dX7_guessedBy_134 (lv_at hl 0 rfl) ?_
                                refine lv_aload_n hx hb dX7_guessedBy_136 rfl (lv_at hl 1 rfl) ?_
                                refine va_get (D := G.1) (ci := 7) (v := .ref (ca 5)) (C := RX7) (T := TX7) (N := 12) hx hb hts hin7 hown hK hP 0 rfl rfl 11 (by decide) (hts (.fieldLink RX7 26 "PowerTablesModel" "errors" "[J") (List.mem_of_getElem? (i := 2) rfl)) (fun _ h9 => h9) rfl dX7_guessedBy_137 ?_
                                refine lv_iload hx hb dX7_guessedBy_140 (lv_at hl 0 rfl) ?_
                                refine lv_iconst (v := nI 1) hx hb dX7_guessedBy_142 (by decide) ?_
                                refine ks_iaddN hx hb dX7_guessedBy_143 ?_
                                refine ks_lald hx hb hK hP 2 rfl (by omega) (by decide) dX7_guessedBy_144 ?_
                                refine lv_aload_n hx hb dX7_guessedBy_145 rfl (lv_at hl 1 rfl) ?_
                                refine va_get (D := G.1) (ci := 7) (v := .ref (ca 5)) (C := RX7) (T := TX7) (N := 12) hx hb hts hin7 hown hK hP 0 rfl rfl 11 (by decide) (hts (.fieldLink RX7 26 "PowerTablesModel" "errors" "[J") (List.mem_of_getElem? (i := 2) rfl)) (fun _ h9 => h9) rfl dX7_guessedBy_146 ?_
                                refine lv_iload hx hb dX7_guessedBy_149 (lv_at hl 0 rfl) ?_
                                refine ks_lald hx hb hK hP 2 rfl (by omega) (by decide) dX7_guessedBy_151 ?_
                                refine lv_lsub hx hb dX7_guessedBy_152 ?_
                                refine ks_last (f' := dfu e2_ (i_ + 1)) hx hb hK hP hD hS 2 rfl (by omega) (by decide) (dfu_s e2_ i_) dX7_guessedBy_153 (fun Hq lcq hP hD hS => ?_)
                                have hP : va_P G.1 vwCl [(y_, .inr (7, [.ref (ca 0), .ref (ca 1), .ref (ca 2), .int (nI ke), .ref (ca 3), .int (nI ty_), .int (nI th), .int (nI po), .int (bI fl_), .ref (ca 4), .int (nI tl), .ref (ca 5)])), (ca 0, .inl (G.2.2.1, 103, .inr (.inl (mV T)))), (ca 5, .inl (G.2.2.1, 40, .inr (.inl (dfu e2_ (i_ + 1)))))] _ := hP
                                have hD : va_D A [(y_, .inr (7, [.ref (ca 0), .ref (ca 1), .ref (ca 2), .int (nI ke), .ref (ca 3), .int (nI ty_), .int (nI th), .int (nI po), .int (bI fl_), .ref (ca 4), .int (nI tl), .ref (ca 5)])), (ca 0, .inl (G.2.2.1, 103, .inr (.inl (mV T)))), (ca 5, .inl (G.2.2.1, 40, .inr (.inl (dfu e2_ (i_ + 1)))))] := hD
                                refine lv_iinc (v := nI (i_ + 1)) (lv' := [(5, .int (nI (i_ + 1))), (0, .ref y_), (1, .int (nI b_)), (2, .int (nI (n2_ - 1))), (3, .int (nI j_))]) hx hb dX7_guessedBy_154 hl (k := 0) rfl (ks_inc i_ 1) (by decide) rfl (fun ls hl => ?_)
                                refine lv_goto (tgt := 124) hx hb dX7_guessedBy_157 (by decide) ?_
                                exact ih_124  (i_ + 1) (by omega) (by omega) _ _ hP hD hS ls (lv_sub hl [0, 1, 2, 3, 4] rfl)
                          rw [← dfu_0 e2_] at hP hD
                          exact L_124 _ 0 (Nat.lt_succ_self _) (by omega) _ _ hP hD hS ls (lv_sub hl [0, 3, 4, 1, 5] rfl)
                        · have e1_ : gsP T (rvT T) b_ j_ := (gs_one jn2 jf_).mp ⟨by omega, b01_y jal (by omega)⟩
                          refine lv_iload_n hx hb dX7_guessedBy_116 rfl (lv_at hl 5 rfl) ?_
                          exact cr_iret hx hb hr hlocks hK hP hD hS dX7_guessedBy_117 (by rw [hRR]; exact ⟨e2_, congrArg (fun z => some (Value.int z)) ((fwI_y c_41 e1_ jo).symm), rfl, fun _ => by rw [fw_y c_41 e1_ jo]; exact jf_ 0 (by omega)⟩)
                      · refine lv_iload hx hb dX7_guessedBy_76 (lv_at hl 1 rfl) ?_
                        refine ks_if_eq (tgt := 102) hx hb dX7_guessedBy_78 (by decide) (by have z9 := b01_le (e2_ 0 ≠ lN 0 ∧ ∀ i_, i_ < k_ → e2_ i_ = e2_ 0); omega) (fun c_78 => ?_) (fun c_78 => ?_)
                        · have e7_ : 0 = b01 (e2_ 0 ≠ lN 0 ∧ ∀ i_, i_ < (k_ + 1) → e2_ i_ = e2_ 0) := al_0 jal c_78
                          refine lv_iconst (v := nI 0) hx hb dX7_guessedBy_102 (by decide) ?_
                          refine lv_istore (lv' := [(4, .int (nI 0)), (5, .int (nI k_)), (0, .ref y_), (1, .int (nI b_)), (2, .int (nI n2_)), (3, .int (nI j_))]) hx hb dX7_guessedBy_103 hl (by decide) rfl (fun ls hl => ?_)
                          refine lv_iinc (v := nI (k_ + 1)) (lv' := [(5, .int (nI (k_ + 1))), (4, .int (nI 0)), (0, .ref y_), (1, .int (nI b_)), (2, .int (nI n2_)), (3, .int (nI j_))]) hx hb dX7_guessedBy_105 hl (k := 1) rfl (ks_inc k_ 1) (by decide) rfl (fun ls hl => ?_)
                          refine lv_goto (tgt := 70) hx hb dX7_guessedBy_108 (by decide) ?_
                          exact ih_70  (k_ + 1) 0 (by omega) (by omega) (by omega) (e7_) _ _ hP hD hS ls (lv_sub hl [0, 1, 2, 3, 4, 5] rfl)
                        · refine lv_aload_n hx hb dX7_guessedBy_81 rfl (lv_at hl 2 rfl) ?_
                          refine va_get (D := G.1) (ci := 7) (v := .ref (ca 5)) (C := RX7) (T := TX7) (N := 12) hx hb hts hin7 hown hK hP 0 rfl rfl 11 (by decide) (hts (.fieldLink RX7 26 "PowerTablesModel" "errors" "[J") (List.mem_of_getElem? (i := 2) rfl)) (fun _ h9 => h9) rfl dX7_guessedBy_82 ?_
                          refine lv_iload hx hb dX7_guessedBy_85 (lv_at hl 0 rfl) ?_
                          refine ks_lald hx hb hK hP 2 rfl (by omega) (by decide) dX7_guessedBy_87 ?_
                          refine lv_aload_n hx hb dX7_guessedBy_88 rfl (lv_at hl 2 rfl) ?_
                          refine va_get (D := G.1) (ci := 7) (v := .ref (ca 5)) (C := RX7) (T := TX7) (N := 12) hx hb hts hin7 hown hK hP 0 rfl rfl 11 (by decide) (hts (.fieldLink RX7 26 "PowerTablesModel" "errors" "[J") (List.mem_of_getElem? (i := 2) rfl)) (fun _ h9 => h9) rfl dX7_guessedBy_89 ?_
                          refine lv_iconst (v := nI 0) hx hb dX7_guessedBy_92 (by decide) ?_
                          refine ks_lald hx hb hK hP 2 rfl (by omega) (by decide) dX7_guessedBy_93 ?_
                          refine ks_lc_ne (tgt := 102) hx hb dX7_guessedBy_94 dX7_guessedBy_95 (by decide) (fun c_94 => ?_) (fun c_94 => ?_)
                          · have e7_ : 0 = b01 (e2_ 0 ≠ lN 0 ∧ ∀ i_, i_ < (k_ + 1) → e2_ i_ = e2_ 0) := al_n c_94
                            refine lv_iconst (v := nI 0) hx hb dX7_guessedBy_102 (by decide) ?_
                            refine lv_istore (lv' := [(4, .int (nI 0)), (5, .int (nI k_)), (0, .ref y_), (1, .int (nI b_)), (2, .int (nI n2_)), (3, .int (nI j_))]) hx hb dX7_guessedBy_103 hl (by decide) rfl (fun ls hl => ?_)
                            refine lv_iinc (v := nI (k_ + 1)) (lv' := [(5, .int (nI (k_ + 1))), (4, .int (nI 0)), (0, .ref y_), (1, .int (nI b_)), (2, .int (nI n2_)), (3, .int (nI j_))]) hx hb dX7_guessedBy_105 hl (k := 1) rfl (ks_inc k_ 1) (by decide) rfl (fun ls hl => ?_)
                            refine lv_goto (tgt := 70) hx hb dX7_guessedBy_108 (by decide) ?_
                            exact ih_70  (k_ + 1) 0 (by omega) (by omega) (by omega) (e7_) _ _ hP hD hS ls (lv_sub hl [0, 1, 2, 3, 4, 5] rfl)
                          · have e7_ : 1 = b01 (e2_ 0 ≠ lN 0 ∧ ∀ i_, i_ < (k_ + 1) → e2_ i_ = e2_ 0) := al_y jal (by omega) c_94
                            refine lv_iconst (v := nI 1) hx hb dX7_guessedBy_98 (by decide) ?_
                            refine lv_goto (tgt := 103) hx hb dX7_guessedBy_99 (by decide) ?_
                            refine lv_istore (lv' := [(4, .int (nI 1)), (5, .int (nI k_)), (0, .ref y_), (1, .int (nI b_)), (2, .int (nI n2_)), (3, .int (nI j_))]) hx hb dX7_guessedBy_103 hl (by decide) rfl (fun ls hl => ?_)
                            refine lv_iinc (v := nI (k_ + 1)) (lv' := [(5, .int (nI (k_ + 1))), (4, .int (nI 1)), (0, .ref y_), (1, .int (nI b_)), (2, .int (nI n2_)), (3, .int (nI j_))]) hx hb dX7_guessedBy_105 hl (k := 1) rfl (ks_inc k_ 1) (by decide) rfl (fun ls hl => ?_)
                            refine lv_goto (tgt := 70) hx hb dX7_guessedBy_108 (by decide) ?_
                            exact ih_70  (k_ + 1) 1 (by omega) (by omega) (by omega) (e7_) _ _ hP hD hS ls (lv_sub hl [0, 1, 2, 3, 4, 5] rfl)
                  exact L_70 _ 1 1 (Nat.lt_succ_self _) (by omega) (by omega) (e8) _ _ hP hD hS ls (lv_sub hl [0, 1, 3, 4, 5, 2] rfl)
        exact L_38 _ 0 (cpu er (gsE T (rvT T) b_) (T.s 4 - b_)) (T.s 4 - b_) (Nat.lt_succ_self _) (by omega) (by omega) (fun t ht => cpu_lo ht) (fun i_ hi => absurd hi (Nat.not_lt_zero _)) _ _ hP hD hS ls (lv_sub hl [0, 1, 2, 3] rfl)
      · refine lv_aload_n hx hb dX7_guessedBy_17 rfl (lv_at hl 1 rfl) ?_
        refine va_get (D := G.1) (ci := 7) (v := .ref (ca 5)) (C := RX7) (T := TX7) (N := 12) hx hb hts hin7 hown hK hP 0 rfl rfl 11 (by decide) (hts (.fieldLink RX7 26 "PowerTablesModel" "errors" "[J") (List.mem_of_getElem? (i := 2) rfl)) (fun _ h9 => h9) rfl dX7_guessedBy_18 ?_
        refine lv_iload_n hx hb dX7_guessedBy_21 rfl (lv_at hl 0 rfl) ?_
        refine lv_aload_n hx hb dX7_guessedBy_22 rfl (lv_at hl 1 rfl) ?_
        refine lv_iload_n hx hb dX7_guessedBy_23 rfl (lv_at hl 2 rfl) ?_
        refine lv_iload_n hx hb dX7_guessedBy_24 rfl (lv_at hl 0 rfl) ?_
        refine ks_iaddN hx hb dX7_guessedBy_25 ?_
        refine cr_V (wr := [(ca 5, .inl (G.2.2.1, 40, .inr (.inl (cpu er (gsE T (rvT T) b_) k_))))]) (As := [.int (nI (b_ + k_))]) (rest := [.int (nI k_), .ref (ca 5)]) ⟨hx, hb, hml, hown, hts⟩ (c_X7_error G l y_ ca ke ty_ th po fl_ tl T (b_ + k_) (by omega) (by omega) (by omega)) (cwV 1 hts gX7_guessedBy_X7_error rfl rfl rfl (by decide +kernel) ⟨Nat.le_of_ble_eq_true rfl, Nat.le_of_ble_eq_true rfl⟩) dX7_guessedBy_26 hK hNX hP hD hS hA hl 0 7 rfl rfl rfl [0, 1] [2] rfl rfl rfl rfl (by decide) rfl (Nat.le_of_ble_eq_true rfl) ⟨Nat.le_of_ble_eq_true rfl, Nat.le_of_ble_eq_true rfl⟩ rfl (fun v' w' Hq lcq hR' hP hD hS => ?_)
        obtain ⟨rfl, rfl⟩ := hR'
        have hP : va_P G.1 vwCl [(y_, .inr (7, [.ref (ca 0), .ref (ca 1), .ref (ca 2), .int (nI ke), .ref (ca 3), .int (nI ty_), .int (nI th), .int (nI po), .int (bI fl_), .ref (ca 4), .int (nI tl), .ref (ca 5)])), (ca 0, .inl (G.2.2.1, 103, .inr (.inl (mV T)))), (ca 5, .inl (G.2.2.1, 40, .inr (.inl (cpu er (gsE T (rvT T) b_) k_))))] _ := hP.sub [1, 2, 0] rfl
        have hD : va_D A [(y_, .inr (7, [.ref (ca 0), .ref (ca 1), .ref (ca 2), .int (nI ke), .ref (ca 3), .int (nI ty_), .int (nI th), .int (nI po), .int (bI fl_), .ref (ca 4), .int (nI tl), .ref (ca 5)])), (ca 0, .inl (G.2.2.1, 103, .inr (.inl (mV T)))), (ca 5, .inl (G.2.2.1, 40, .inr (.inl (cpu er (gsE T (rvT T) b_) k_))))] := hD.sub [1, 2, 0] (by decide +kernel) rfl
        refine ks_last (f' := cpu er (gsE T (rvT T) b_) (k_ + 1)) hx hb hK hP hD hS 2 rfl (by omega) (by decide) (cpu_sL er (gsE T (rvT T) b_) k_) dX7_guessedBy_29 (fun Hq lcq hP hD hS => ?_)
        have hP : va_P G.1 vwCl [(y_, .inr (7, [.ref (ca 0), .ref (ca 1), .ref (ca 2), .int (nI ke), .ref (ca 3), .int (nI ty_), .int (nI th), .int (nI po), .int (bI fl_), .ref (ca 4), .int (nI tl), .ref (ca 5)])), (ca 0, .inl (G.2.2.1, 103, .inr (.inl (mV T)))), (ca 5, .inl (G.2.2.1, 40, .inr (.inl (cpu er (gsE T (rvT T) b_) (k_ + 1)))))] _ := hP
        have hD : va_D A [(y_, .inr (7, [.ref (ca 0), .ref (ca 1), .ref (ca 2), .int (nI ke), .ref (ca 3), .int (nI ty_), .int (nI th), .int (nI po), .int (bI fl_), .ref (ca 4), .int (nI tl), .ref (ca 5)])), (ca 0, .inl (G.2.2.1, 103, .inr (.inl (mV T)))), (ca 5, .inl (G.2.2.1, 40, .inr (.inl (cpu er (gsE T (rvT T) b_) (k_ + 1)))))] := hD
        refine lv_iinc (v := nI (k_ + 1)) (lv' := [(3, .int (nI (k_ + 1))), (0, .ref y_), (1, .int (nI b_)), (2, .int (nI (T.s 4 - b_)))]) hx hb dX7_guessedBy_30 hl (k := 0) rfl (ks_inc k_ 1) (by decide) rfl (fun ls hl => ?_)
        refine lv_goto (tgt := 12) hx hb dX7_guessedBy_33 (by decide) ?_
        exact ih_12  (k_ + 1) (by omega) (by omega) _ _ hP hD hS ls (lv_sub hl [0, 1, 2, 3] rfl)
  rw [← cpu_0 er (gsE T (rvT T) b_)] at hP hD
  exact L_12 _ 0 (Nat.lt_succ_self _) (by omega) _ _ hP hD hS ls (lv_sub hl [0, 2, 3, 1] rfl)
set_option maxHeartbeats 4000000 in
set_option maxRecDepth 100000 in
theorem c_X7_guessed (G : GG) (l : Launch) (y_ : Nat) (ca : Nat → Nat) (ke : Nat) (ty_ : Nat) (th : Nat) (po : Nat) (fl_ : Prop) (tl : Nat) (T : TS) (er : Nat → Int64) (w_ : Nat) (jw : w_ < 3) (jn4 : T.s 4 ≤ 40) (jf_ : T.s 3 ≤ 99) (jp : T.s 2 ≤ 5) : Cr G l yX7_guessed wsX7_guessed ({ frames := 3, cells := 0, slots := 0, locals := 72 }) 0 0 [.ref y_, .int (nI w_)] [(y_, .inr (7, [.ref (ca 0), .ref (ca 1), .ref (ca 2), .int (nI ke), .ref (ca 3), .int (nI ty_), .int (nI th), .int (nI po), .int (bI fl_), .ref (ca 4), .int (nI tl), .ref (ca 5)])), (ca 0, .inl (G.2.2.1, 103, .inr (.inl (mV T)))), (ca 5, .inl (G.2.2.1, 40, .inr (.inl (er))))] (fun (vv1 : Option Value) (ww1 : va_W) => ∃ (e9_ : Nat → Int64), vv1 = (some (.long (gsA T (rvT T) w_))) ∧ ww1 = [(y_, .inr (7, [.ref (ca 0), .ref (ca 1), .ref (ca 2), .int (nI ke), .ref (ca 3), .int (nI ty_), .int (nI th), .int (nI po), .int (bI fl_), .ref (ca 4), .int (nI tl), .ref (ca 5)])), (ca 0, .inl (G.2.2.1, 103, .inr (.inl (mV T)))), (ca 5, .inl (G.2.2.1, 40, .inr (.inl (e9_))))]) := by
  refine cr_intro (cc := cX7_guessed) (maxL := 4) (ret := (some .long)) (own := RX7) (by decide) rfl rfl (Nat.le_of_ble_eq_true rfl) ?_
  intro p e s m args below meth c A hx hb hr hml hts hown hlocks hnm hNX hP hK hD hA hS ls hl
  obtain ⟨RR, hRR⟩ : ∃ RR, RR = (fun (vv1 : Option Value) (ww1 : va_W) => ∃ (e9_ : Nat → Int64), vv1 = (some (.long (gsA T (rvT T) w_))) ∧ ww1 = [(y_, .inr (7, [.ref (ca 0), .ref (ca 1), .ref (ca 2), .int (nI ke), .ref (ca 3), .int (nI ty_), .int (nI th), .int (nI po), .int (bI fl_), .ref (ca 4), .int (nI tl), .ref (ca 5)])), (ca 0, .inl (G.2.2.1, 103, .inr (.inl (mV T)))), (ca 5, .inl (G.2.2.1, 40, .inr (.inl (e9_))))]) := ⟨_, rfl⟩
  rw [← hRR]
  have hl : lv_has ls 4 [(0, .ref y_), (1, .int (nI w_))] := hl
  have hin7 : ∀ w_ ∈ u_ws RX7 TX7 12, w_ ∈ wsX7_guessed := fun w_ h => List.mem_cons_of_mem _ (List.mem_append_right _ h)
  rcases (show w_ = 0 ∨ w_ = 1 ∨ w_ = 2 by omega) with rfl | rfl | rfl <;> rcases gs_cases T (rvT T) with jc | ⟨jc, jd⟩ | ⟨jc, jd⟩
  · refine lv_aload_n hx hb dX7_guessed_0 rfl (lv_at hl 0 rfl) ?_
    refine cr_V (wr := [(ca 5, .inl (G.2.2.1, 40, .inr (.inl (er))))]) (As := []) (rest := []) ⟨hx, hb, hml, hown, hts⟩ (c_X7_firstWrong G l y_ ca ke ty_ th po fl_ tl T (by omega) (by omega) (by omega)) (cwV 0 hts gX7_guessed_X7_firstWrong rfl rfl rfl (by decide +kernel) ⟨Nat.le_of_ble_eq_true rfl, Nat.le_of_ble_eq_true rfl⟩) dX7_guessed_1 hK hNX hP hD hS hA hl 0 7 rfl rfl rfl [0, 1] [2] rfl rfl rfl rfl (by decide) rfl (Nat.le_of_ble_eq_true rfl) ⟨Nat.le_of_ble_eq_true rfl, Nat.le_of_ble_eq_true rfl⟩ rfl (fun v' w' Hq lcq hR' hP hD hS => ?_)
    obtain ⟨rfl, rfl⟩ := hR'
    have hP : va_P G.1 vwCl [(y_, .inr (7, [.ref (ca 0), .ref (ca 1), .ref (ca 2), .int (nI ke), .ref (ca 3), .int (nI ty_), .int (nI th), .int (nI po), .int (bI fl_), .ref (ca 4), .int (nI tl), .ref (ca 5)])), (ca 0, .inl (G.2.2.1, 103, .inr (.inl (mV T)))), (ca 5, .inl (G.2.2.1, 40, .inr (.inl (er))))] _ := hP.sub [1, 2, 0] rfl
    have hD : va_D A [(y_, .inr (7, [.ref (ca 0), .ref (ca 1), .ref (ca 2), .int (nI ke), .ref (ca 3), .int (nI ty_), .int (nI th), .int (nI po), .int (bI fl_), .ref (ca 4), .int (nI tl), .ref (ca 5)])), (ca 0, .inl (G.2.2.1, 103, .inr (.inl (mV T)))), (ca 5, .inl (G.2.2.1, 40, .inr (.inl (er))))] := hD.sub [1, 2, 0] (by decide +kernel) rfl
    refine ks_vI (show fwI (fun k => T.p k ≠ (rvT T) k) (T.s 4) = (-1) from if_neg jc) ?_
    refine lv_istore_n (lv' := [(2, .int (-1)), (0, .ref y_), (1, .int (nI 0))]) hx hb dX7_guessed_4 rfl hl (by decide) rfl (fun ls hl => ?_)
    refine lv_iload_n hx hb dX7_guessed_5 rfl (lv_at hl 0 rfl) ?_
    refine lv_iconst (v := (-1)) hx hb dX7_guessed_6 (by decide) ?_
    refine lv_icmp_ne (tgt := 14) hx hb dX7_guessed_7 (by decide) (fun c_7 => ?_) (fun c_7 => ?_)
    · exact absurd rfl c_7
    · refine lv_iconst (v := (-1)) hx hb dX7_guessed_10 (by decide) ?_
      refine lv_goto (tgt := 19) hx hb dX7_guessed_11 (by decide) ?_
      refine lv_istore_n (lv' := [(3, .int (-1)), (2, .int (-1)), (0, .ref y_), (1, .int (nI 0))]) hx hb dX7_guessed_19 rfl hl (by decide) rfl (fun ls hl => ?_)
      refine lv_iload_n hx hb dX7_guessed_20 rfl (lv_at hl 0 rfl) ?_
      refine lv_iconst (v := (-1)) hx hb dX7_guessed_21 (by decide) ?_
      refine lv_icmp_ne (tgt := 38) hx hb dX7_guessed_22 (by decide) (fun c_22 => ?_) (fun c_22 => ?_)
      · exact absurd rfl c_22
      · refine lv_iload_n hx hb dX7_guessed_25 rfl (lv_at hl 3 rfl) ?_
        refine lv_iconst (v := nI 1) hx hb dX7_guessed_26 (by decide) ?_
        refine ks_icmp_ne (tgt := 34) hx hb dX7_guessed_27 (by decide) (by omega) (by omega) (fun c_27 => ?_) (fun c_27 => ?_)
        · refine lv_ldc2 hx hb hown (hts (.constantLong RX7 198 (-1)) (List.mem_of_getElem? (i := 1) rfl)) dX7_guessed_34 ?_
          exact cr_lret hx hb hr hlocks hK hP hD hS dX7_guessed_37 (by rw [hRR]; exact ⟨er, congrArg (fun z => some (Value.long z)) ((gsA_no0 jc).symm), rfl⟩)
        · omega
  · refine lv_aload_n hx hb dX7_guessed_0 rfl (lv_at hl 0 rfl) ?_
    refine cr_V (wr := [(ca 5, .inl (G.2.2.1, 40, .inr (.inl (er))))]) (As := []) (rest := []) ⟨hx, hb, hml, hown, hts⟩ (c_X7_firstWrong G l y_ ca ke ty_ th po fl_ tl T (by omega) (by omega) (by omega)) (cwV 0 hts gX7_guessed_X7_firstWrong rfl rfl rfl (by decide +kernel) ⟨Nat.le_of_ble_eq_true rfl, Nat.le_of_ble_eq_true rfl⟩) dX7_guessed_1 hK hNX hP hD hS hA hl 0 7 rfl rfl rfl [0, 1] [2] rfl rfl rfl rfl (by decide) rfl (Nat.le_of_ble_eq_true rfl) ⟨Nat.le_of_ble_eq_true rfl, Nat.le_of_ble_eq_true rfl⟩ rfl (fun v' w' Hq lcq hR' hP hD hS => ?_)
    obtain ⟨rfl, rfl⟩ := hR'
    have hP : va_P G.1 vwCl [(y_, .inr (7, [.ref (ca 0), .ref (ca 1), .ref (ca 2), .int (nI ke), .ref (ca 3), .int (nI ty_), .int (nI th), .int (nI po), .int (bI fl_), .ref (ca 4), .int (nI tl), .ref (ca 5)])), (ca 0, .inl (G.2.2.1, 103, .inr (.inl (mV T)))), (ca 5, .inl (G.2.2.1, 40, .inr (.inl (er))))] _ := hP.sub [1, 2, 0] rfl
    have hD : va_D A [(y_, .inr (7, [.ref (ca 0), .ref (ca 1), .ref (ca 2), .int (nI ke), .ref (ca 3), .int (nI ty_), .int (nI th), .int (nI po), .int (bI fl_), .ref (ca 4), .int (nI tl), .ref (ca 5)])), (ca 0, .inl (G.2.2.1, 103, .inr (.inl (mV T)))), (ca 5, .inl (G.2.2.1, 40, .inr (.inl (er))))] := hD.sub [1, 2, 0] (by decide +kernel) rfl
    refine ks_vI (show fwI (fun k => T.p k ≠ (rvT T) k) (T.s 4) = nI (fw (fun k => T.p k ≠ (rvT T) k) (T.s 4)) from if_pos jc) ?_
    refine lv_istore_n (lv' := [(2, .int (nI (fw (fun k => T.p k ≠ (rvT T) k) (T.s 4)))), (0, .ref y_), (1, .int (nI 0))]) hx hb dX7_guessed_4 rfl hl (by decide) rfl (fun ls hl => ?_)
    refine lv_iload_n hx hb dX7_guessed_5 rfl (lv_at hl 0 rfl) ?_
    refine lv_iconst (v := (-1)) hx hb dX7_guessed_6 (by decide) ?_
    refine lv_icmp_ne (tgt := 14) hx hb dX7_guessed_7 (by decide) (fun c_7 => ?_) (fun c_7 => ?_)
    · refine lv_aload_n hx hb dX7_guessed_14 rfl (lv_at hl 1 rfl) ?_
      refine lv_iload_n hx hb dX7_guessed_15 rfl (lv_at hl 0 rfl) ?_
      refine cr_V (wr := []) (As := [.int (nI (fw (fun k => T.p k ≠ (rvT T) k) (T.s 4)))]) (rest := []) ⟨hx, hb, hml, hown, hts⟩ (c_X7_guessedBy G l y_ ca ke ty_ th po fl_ tl T er (fw (fun k => T.p k ≠ (rvT T) k) (T.s 4)) (by omega) (by omega) (by omega) (by omega)) (cwV 1 hts gX7_guessed_X7_guessedBy rfl rfl rfl (by decide +kernel) ⟨Nat.le_of_ble_eq_true rfl, Nat.le_of_ble_eq_true rfl⟩) dX7_guessed_16 hK hNX hP hD hS hA hl 0 7 rfl rfl rfl [0, 1, 2] [] rfl rfl rfl rfl (by decide) rfl (Nat.le_of_ble_eq_true rfl) ⟨Nat.le_of_ble_eq_true rfl, Nat.le_of_ble_eq_true rfl⟩ rfl (fun v' w' Hq lcq hR' hP hD hS => ?_)
      obtain ⟨e9_16, rfl, rfl, jq_16⟩ := hR'
      have hP : va_P G.1 vwCl [(y_, .inr (7, [.ref (ca 0), .ref (ca 1), .ref (ca 2), .int (nI ke), .ref (ca 3), .int (nI ty_), .int (nI th), .int (nI po), .int (bI fl_), .ref (ca 4), .int (nI tl), .ref (ca 5)])), (ca 0, .inl (G.2.2.1, 103, .inr (.inl (mV T)))), (ca 5, .inl (G.2.2.1, 40, .inr (.inl (e9_16))))] _ := hP.sub [0, 1, 2] rfl
      have hD : va_D A [(y_, .inr (7, [.ref (ca 0), .ref (ca 1), .ref (ca 2), .int (nI ke), .ref (ca 3), .int (nI ty_), .int (nI th), .int (nI po), .int (bI fl_), .ref (ca 4), .int (nI tl), .ref (ca 5)])), (ca 0, .inl (G.2.2.1, 103, .inr (.inl (mV T)))), (ca 5, .inl (G.2.2.1, 40, .inr (.inl (e9_16))))] := hD.sub [0, 1, 2] (by decide +kernel) rfl
      refine ks_vI (show fwI (gsP T (rvT T) (fw (fun k => T.p k ≠ (rvT T) k) (T.s 4))) 6 = (-1) from if_neg jd) ?_
      refine lv_istore_n (lv' := [(3, .int (-1)), (2, .int (nI (fw (fun k => T.p k ≠ (rvT T) k) (T.s 4)))), (0, .ref y_), (1, .int (nI 0))]) hx hb dX7_guessed_19 rfl hl (by decide) rfl (fun ls hl => ?_)
      refine lv_iload_n hx hb dX7_guessed_20 rfl (lv_at hl 0 rfl) ?_
      refine lv_iconst (v := (-1)) hx hb dX7_guessed_21 (by decide) ?_
      refine lv_icmp_ne (tgt := 38) hx hb dX7_guessed_22 (by decide) (fun c_22 => ?_) (fun c_22 => ?_)
      · exact absurd rfl c_22
      · refine lv_iload_n hx hb dX7_guessed_25 rfl (lv_at hl 3 rfl) ?_
        refine lv_iconst (v := nI 1) hx hb dX7_guessed_26 (by decide) ?_
        refine ks_icmp_ne (tgt := 34) hx hb dX7_guessed_27 (by decide) (by omega) (by omega) (fun c_27 => ?_) (fun c_27 => ?_)
        · refine lv_ldc2 hx hb hown (hts (.constantLong RX7 198 (-1)) (List.mem_of_getElem? (i := 1) rfl)) dX7_guessed_34 ?_
          exact cr_lret hx hb hr hlocks hK hP hD hS dX7_guessed_37 (by rw [hRR]; exact ⟨e9_16, congrArg (fun z => some (Value.long z)) ((gsA_none0 jc jd).symm), rfl⟩)
        · omega
    · exact absurd c_7 (nI_m1 (by omega))
  · refine lv_aload_n hx hb dX7_guessed_0 rfl (lv_at hl 0 rfl) ?_
    refine cr_V (wr := [(ca 5, .inl (G.2.2.1, 40, .inr (.inl (er))))]) (As := []) (rest := []) ⟨hx, hb, hml, hown, hts⟩ (c_X7_firstWrong G l y_ ca ke ty_ th po fl_ tl T (by omega) (by omega) (by omega)) (cwV 0 hts gX7_guessed_X7_firstWrong rfl rfl rfl (by decide +kernel) ⟨Nat.le_of_ble_eq_true rfl, Nat.le_of_ble_eq_true rfl⟩) dX7_guessed_1 hK hNX hP hD hS hA hl 0 7 rfl rfl rfl [0, 1] [2] rfl rfl rfl rfl (by decide) rfl (Nat.le_of_ble_eq_true rfl) ⟨Nat.le_of_ble_eq_true rfl, Nat.le_of_ble_eq_true rfl⟩ rfl (fun v' w' Hq lcq hR' hP hD hS => ?_)
    obtain ⟨rfl, rfl⟩ := hR'
    have hP : va_P G.1 vwCl [(y_, .inr (7, [.ref (ca 0), .ref (ca 1), .ref (ca 2), .int (nI ke), .ref (ca 3), .int (nI ty_), .int (nI th), .int (nI po), .int (bI fl_), .ref (ca 4), .int (nI tl), .ref (ca 5)])), (ca 0, .inl (G.2.2.1, 103, .inr (.inl (mV T)))), (ca 5, .inl (G.2.2.1, 40, .inr (.inl (er))))] _ := hP.sub [1, 2, 0] rfl
    have hD : va_D A [(y_, .inr (7, [.ref (ca 0), .ref (ca 1), .ref (ca 2), .int (nI ke), .ref (ca 3), .int (nI ty_), .int (nI th), .int (nI po), .int (bI fl_), .ref (ca 4), .int (nI tl), .ref (ca 5)])), (ca 0, .inl (G.2.2.1, 103, .inr (.inl (mV T)))), (ca 5, .inl (G.2.2.1, 40, .inr (.inl (er))))] := hD.sub [1, 2, 0] (by decide +kernel) rfl
    refine ks_vI (show fwI (fun k => T.p k ≠ (rvT T) k) (T.s 4) = nI (fw (fun k => T.p k ≠ (rvT T) k) (T.s 4)) from if_pos jc) ?_
    refine lv_istore_n (lv' := [(2, .int (nI (fw (fun k => T.p k ≠ (rvT T) k) (T.s 4)))), (0, .ref y_), (1, .int (nI 0))]) hx hb dX7_guessed_4 rfl hl (by decide) rfl (fun ls hl => ?_)
    refine lv_iload_n hx hb dX7_guessed_5 rfl (lv_at hl 0 rfl) ?_
    refine lv_iconst (v := (-1)) hx hb dX7_guessed_6 (by decide) ?_
    refine lv_icmp_ne (tgt := 14) hx hb dX7_guessed_7 (by decide) (fun c_7 => ?_) (fun c_7 => ?_)
    · refine lv_aload_n hx hb dX7_guessed_14 rfl (lv_at hl 1 rfl) ?_
      refine lv_iload_n hx hb dX7_guessed_15 rfl (lv_at hl 0 rfl) ?_
      refine cr_V (wr := []) (As := [.int (nI (fw (fun k => T.p k ≠ (rvT T) k) (T.s 4)))]) (rest := []) ⟨hx, hb, hml, hown, hts⟩ (c_X7_guessedBy G l y_ ca ke ty_ th po fl_ tl T er (fw (fun k => T.p k ≠ (rvT T) k) (T.s 4)) (by omega) (by omega) (by omega) (by omega)) (cwV 1 hts gX7_guessed_X7_guessedBy rfl rfl rfl (by decide +kernel) ⟨Nat.le_of_ble_eq_true rfl, Nat.le_of_ble_eq_true rfl⟩) dX7_guessed_16 hK hNX hP hD hS hA hl 0 7 rfl rfl rfl [0, 1, 2] [] rfl rfl rfl rfl (by decide) rfl (Nat.le_of_ble_eq_true rfl) ⟨Nat.le_of_ble_eq_true rfl, Nat.le_of_ble_eq_true rfl⟩ rfl (fun v' w' Hq lcq hR' hP hD hS => ?_)
      obtain ⟨e9_16, rfl, rfl, jq_16⟩ := hR'
      have hP : va_P G.1 vwCl [(y_, .inr (7, [.ref (ca 0), .ref (ca 1), .ref (ca 2), .int (nI ke), .ref (ca 3), .int (nI ty_), .int (nI th), .int (nI po), .int (bI fl_), .ref (ca 4), .int (nI tl), .ref (ca 5)])), (ca 0, .inl (G.2.2.1, 103, .inr (.inl (mV T)))), (ca 5, .inl (G.2.2.1, 40, .inr (.inl (e9_16))))] _ := hP.sub [0, 1, 2] rfl
      have hD : va_D A [(y_, .inr (7, [.ref (ca 0), .ref (ca 1), .ref (ca 2), .int (nI ke), .ref (ca 3), .int (nI ty_), .int (nI th), .int (nI po), .int (bI fl_), .ref (ca 4), .int (nI tl), .ref (ca 5)])), (ca 0, .inl (G.2.2.1, 103, .inr (.inl (mV T)))), (ca 5, .inl (G.2.2.1, 40, .inr (.inl (e9_16))))] := hD.sub [0, 1, 2] (by decide +kernel) rfl
      refine ks_vI (show fwI (gsP T (rvT T) (fw (fun k => T.p k ≠ (rvT T) k) (T.s 4))) 6 = nI (fw (gsP T (rvT T) (fw (fun k => T.p k ≠ (rvT T) k) (T.s 4))) 6) from if_pos jd) ?_
      refine lv_istore_n (lv' := [(3, .int (nI (fw (gsP T (rvT T) (fw (fun k => T.p k ≠ (rvT T) k) (T.s 4))) 6))), (2, .int (nI (fw (fun k => T.p k ≠ (rvT T) k) (T.s 4)))), (0, .ref y_), (1, .int (nI 0))]) hx hb dX7_guessed_19 rfl hl (by decide) rfl (fun ls hl => ?_)
      refine lv_iload_n hx hb dX7_guessed_20 rfl (lv_at hl 0 rfl) ?_
      refine lv_iconst (v := (-1)) hx hb dX7_guessed_21 (by decide) ?_
      refine lv_icmp_ne (tgt := 38) hx hb dX7_guessed_22 (by decide) (fun c_22 => ?_) (fun c_22 => ?_)
      · refine lv_iload_n hx hb dX7_guessed_38 rfl (lv_at hl 3 rfl) ?_
        refine ks_if_ne (tgt := 47) hx hb dX7_guessed_39 (by decide) (by omega) (fun c_39 => ?_) (fun c_39 => ?_)
        · omega
        · refine lv_iload_n hx hb dX7_guessed_42 rfl (lv_at hl 0 rfl) ?_
          refine ks_i2lN hx hb dX7_guessed_43 (by omega) ?_
          refine lv_goto (tgt := 65) hx hb dX7_guessed_44 (by decide) ?_
          exact cr_lret hx hb hr hlocks hK hP hD hS dX7_guessed_65 (by rw [hRR]; exact ⟨e9_16, congrArg (fun z => some (Value.long z)) ((gsA_found0 jc jd).symm), rfl⟩)
      · exact absurd c_22 (nI_m1 (by omega))
    · exact absurd c_7 (nI_m1 (by omega))
  · refine lv_aload_n hx hb dX7_guessed_0 rfl (lv_at hl 0 rfl) ?_
    refine cr_V (wr := [(ca 5, .inl (G.2.2.1, 40, .inr (.inl (er))))]) (As := []) (rest := []) ⟨hx, hb, hml, hown, hts⟩ (c_X7_firstWrong G l y_ ca ke ty_ th po fl_ tl T (by omega) (by omega) (by omega)) (cwV 0 hts gX7_guessed_X7_firstWrong rfl rfl rfl (by decide +kernel) ⟨Nat.le_of_ble_eq_true rfl, Nat.le_of_ble_eq_true rfl⟩) dX7_guessed_1 hK hNX hP hD hS hA hl 0 7 rfl rfl rfl [0, 1] [2] rfl rfl rfl rfl (by decide) rfl (Nat.le_of_ble_eq_true rfl) ⟨Nat.le_of_ble_eq_true rfl, Nat.le_of_ble_eq_true rfl⟩ rfl (fun v' w' Hq lcq hR' hP hD hS => ?_)
    obtain ⟨rfl, rfl⟩ := hR'
    have hP : va_P G.1 vwCl [(y_, .inr (7, [.ref (ca 0), .ref (ca 1), .ref (ca 2), .int (nI ke), .ref (ca 3), .int (nI ty_), .int (nI th), .int (nI po), .int (bI fl_), .ref (ca 4), .int (nI tl), .ref (ca 5)])), (ca 0, .inl (G.2.2.1, 103, .inr (.inl (mV T)))), (ca 5, .inl (G.2.2.1, 40, .inr (.inl (er))))] _ := hP.sub [1, 2, 0] rfl
    have hD : va_D A [(y_, .inr (7, [.ref (ca 0), .ref (ca 1), .ref (ca 2), .int (nI ke), .ref (ca 3), .int (nI ty_), .int (nI th), .int (nI po), .int (bI fl_), .ref (ca 4), .int (nI tl), .ref (ca 5)])), (ca 0, .inl (G.2.2.1, 103, .inr (.inl (mV T)))), (ca 5, .inl (G.2.2.1, 40, .inr (.inl (er))))] := hD.sub [1, 2, 0] (by decide +kernel) rfl
    refine ks_vI (show fwI (fun k => T.p k ≠ (rvT T) k) (T.s 4) = (-1) from if_neg jc) ?_
    refine lv_istore_n (lv' := [(2, .int (-1)), (0, .ref y_), (1, .int (nI 1))]) hx hb dX7_guessed_4 rfl hl (by decide) rfl (fun ls hl => ?_)
    refine lv_iload_n hx hb dX7_guessed_5 rfl (lv_at hl 0 rfl) ?_
    refine lv_iconst (v := (-1)) hx hb dX7_guessed_6 (by decide) ?_
    refine lv_icmp_ne (tgt := 14) hx hb dX7_guessed_7 (by decide) (fun c_7 => ?_) (fun c_7 => ?_)
    · exact absurd rfl c_7
    · refine lv_iconst (v := (-1)) hx hb dX7_guessed_10 (by decide) ?_
      refine lv_goto (tgt := 19) hx hb dX7_guessed_11 (by decide) ?_
      refine lv_istore_n (lv' := [(3, .int (-1)), (2, .int (-1)), (0, .ref y_), (1, .int (nI 1))]) hx hb dX7_guessed_19 rfl hl (by decide) rfl (fun ls hl => ?_)
      refine lv_iload_n hx hb dX7_guessed_20 rfl (lv_at hl 0 rfl) ?_
      refine lv_iconst (v := (-1)) hx hb dX7_guessed_21 (by decide) ?_
      refine lv_icmp_ne (tgt := 38) hx hb dX7_guessed_22 (by decide) (fun c_22 => ?_) (fun c_22 => ?_)
      · exact absurd rfl c_22
      · refine lv_iload_n hx hb dX7_guessed_25 rfl (lv_at hl 3 rfl) ?_
        refine lv_iconst (v := nI 1) hx hb dX7_guessed_26 (by decide) ?_
        refine ks_icmp_ne (tgt := 34) hx hb dX7_guessed_27 (by decide) (by omega) (by omega) (fun c_27 => ?_) (fun c_27 => ?_)
        · omega
        · refine lv_lconst (v := lN 0) hx hb dX7_guessed_30 rfl ?_
          refine lv_goto (tgt := 37) hx hb dX7_guessed_31 (by decide) ?_
          exact cr_lret hx hb hr hlocks hK hP hD hS dX7_guessed_37 (by rw [hRR]; exact ⟨er, congrArg (fun z => some (Value.long z)) ((gsA_no1 jc).symm), rfl⟩)
  · refine lv_aload_n hx hb dX7_guessed_0 rfl (lv_at hl 0 rfl) ?_
    refine cr_V (wr := [(ca 5, .inl (G.2.2.1, 40, .inr (.inl (er))))]) (As := []) (rest := []) ⟨hx, hb, hml, hown, hts⟩ (c_X7_firstWrong G l y_ ca ke ty_ th po fl_ tl T (by omega) (by omega) (by omega)) (cwV 0 hts gX7_guessed_X7_firstWrong rfl rfl rfl (by decide +kernel) ⟨Nat.le_of_ble_eq_true rfl, Nat.le_of_ble_eq_true rfl⟩) dX7_guessed_1 hK hNX hP hD hS hA hl 0 7 rfl rfl rfl [0, 1] [2] rfl rfl rfl rfl (by decide) rfl (Nat.le_of_ble_eq_true rfl) ⟨Nat.le_of_ble_eq_true rfl, Nat.le_of_ble_eq_true rfl⟩ rfl (fun v' w' Hq lcq hR' hP hD hS => ?_)
    obtain ⟨rfl, rfl⟩ := hR'
    have hP : va_P G.1 vwCl [(y_, .inr (7, [.ref (ca 0), .ref (ca 1), .ref (ca 2), .int (nI ke), .ref (ca 3), .int (nI ty_), .int (nI th), .int (nI po), .int (bI fl_), .ref (ca 4), .int (nI tl), .ref (ca 5)])), (ca 0, .inl (G.2.2.1, 103, .inr (.inl (mV T)))), (ca 5, .inl (G.2.2.1, 40, .inr (.inl (er))))] _ := hP.sub [1, 2, 0] rfl
    have hD : va_D A [(y_, .inr (7, [.ref (ca 0), .ref (ca 1), .ref (ca 2), .int (nI ke), .ref (ca 3), .int (nI ty_), .int (nI th), .int (nI po), .int (bI fl_), .ref (ca 4), .int (nI tl), .ref (ca 5)])), (ca 0, .inl (G.2.2.1, 103, .inr (.inl (mV T)))), (ca 5, .inl (G.2.2.1, 40, .inr (.inl (er))))] := hD.sub [1, 2, 0] (by decide +kernel) rfl
    refine ks_vI (show fwI (fun k => T.p k ≠ (rvT T) k) (T.s 4) = nI (fw (fun k => T.p k ≠ (rvT T) k) (T.s 4)) from if_pos jc) ?_
    refine lv_istore_n (lv' := [(2, .int (nI (fw (fun k => T.p k ≠ (rvT T) k) (T.s 4)))), (0, .ref y_), (1, .int (nI 1))]) hx hb dX7_guessed_4 rfl hl (by decide) rfl (fun ls hl => ?_)
    refine lv_iload_n hx hb dX7_guessed_5 rfl (lv_at hl 0 rfl) ?_
    refine lv_iconst (v := (-1)) hx hb dX7_guessed_6 (by decide) ?_
    refine lv_icmp_ne (tgt := 14) hx hb dX7_guessed_7 (by decide) (fun c_7 => ?_) (fun c_7 => ?_)
    · refine lv_aload_n hx hb dX7_guessed_14 rfl (lv_at hl 1 rfl) ?_
      refine lv_iload_n hx hb dX7_guessed_15 rfl (lv_at hl 0 rfl) ?_
      refine cr_V (wr := []) (As := [.int (nI (fw (fun k => T.p k ≠ (rvT T) k) (T.s 4)))]) (rest := []) ⟨hx, hb, hml, hown, hts⟩ (c_X7_guessedBy G l y_ ca ke ty_ th po fl_ tl T er (fw (fun k => T.p k ≠ (rvT T) k) (T.s 4)) (by omega) (by omega) (by omega) (by omega)) (cwV 1 hts gX7_guessed_X7_guessedBy rfl rfl rfl (by decide +kernel) ⟨Nat.le_of_ble_eq_true rfl, Nat.le_of_ble_eq_true rfl⟩) dX7_guessed_16 hK hNX hP hD hS hA hl 0 7 rfl rfl rfl [0, 1, 2] [] rfl rfl rfl rfl (by decide) rfl (Nat.le_of_ble_eq_true rfl) ⟨Nat.le_of_ble_eq_true rfl, Nat.le_of_ble_eq_true rfl⟩ rfl (fun v' w' Hq lcq hR' hP hD hS => ?_)
      obtain ⟨e9_16, rfl, rfl, jq_16⟩ := hR'
      have hP : va_P G.1 vwCl [(y_, .inr (7, [.ref (ca 0), .ref (ca 1), .ref (ca 2), .int (nI ke), .ref (ca 3), .int (nI ty_), .int (nI th), .int (nI po), .int (bI fl_), .ref (ca 4), .int (nI tl), .ref (ca 5)])), (ca 0, .inl (G.2.2.1, 103, .inr (.inl (mV T)))), (ca 5, .inl (G.2.2.1, 40, .inr (.inl (e9_16))))] _ := hP.sub [0, 1, 2] rfl
      have hD : va_D A [(y_, .inr (7, [.ref (ca 0), .ref (ca 1), .ref (ca 2), .int (nI ke), .ref (ca 3), .int (nI ty_), .int (nI th), .int (nI po), .int (bI fl_), .ref (ca 4), .int (nI tl), .ref (ca 5)])), (ca 0, .inl (G.2.2.1, 103, .inr (.inl (mV T)))), (ca 5, .inl (G.2.2.1, 40, .inr (.inl (e9_16))))] := hD.sub [0, 1, 2] (by decide +kernel) rfl
      refine ks_vI (show fwI (gsP T (rvT T) (fw (fun k => T.p k ≠ (rvT T) k) (T.s 4))) 6 = (-1) from if_neg jd) ?_
      refine lv_istore_n (lv' := [(3, .int (-1)), (2, .int (nI (fw (fun k => T.p k ≠ (rvT T) k) (T.s 4)))), (0, .ref y_), (1, .int (nI 1))]) hx hb dX7_guessed_19 rfl hl (by decide) rfl (fun ls hl => ?_)
      refine lv_iload_n hx hb dX7_guessed_20 rfl (lv_at hl 0 rfl) ?_
      refine lv_iconst (v := (-1)) hx hb dX7_guessed_21 (by decide) ?_
      refine lv_icmp_ne (tgt := 38) hx hb dX7_guessed_22 (by decide) (fun c_22 => ?_) (fun c_22 => ?_)
      · exact absurd rfl c_22
      · refine lv_iload_n hx hb dX7_guessed_25 rfl (lv_at hl 3 rfl) ?_
        refine lv_iconst (v := nI 1) hx hb dX7_guessed_26 (by decide) ?_
        refine ks_icmp_ne (tgt := 34) hx hb dX7_guessed_27 (by decide) (by omega) (by omega) (fun c_27 => ?_) (fun c_27 => ?_)
        · omega
        · refine lv_lconst (v := lN 0) hx hb dX7_guessed_30 rfl ?_
          refine lv_goto (tgt := 37) hx hb dX7_guessed_31 (by decide) ?_
          exact cr_lret hx hb hr hlocks hK hP hD hS dX7_guessed_37 (by rw [hRR]; exact ⟨e9_16, congrArg (fun z => some (Value.long z)) ((gsA_none1 jc jd).symm), rfl⟩)
    · exact absurd c_7 (nI_m1 (by omega))
  · refine lv_aload_n hx hb dX7_guessed_0 rfl (lv_at hl 0 rfl) ?_
    refine cr_V (wr := [(ca 5, .inl (G.2.2.1, 40, .inr (.inl (er))))]) (As := []) (rest := []) ⟨hx, hb, hml, hown, hts⟩ (c_X7_firstWrong G l y_ ca ke ty_ th po fl_ tl T (by omega) (by omega) (by omega)) (cwV 0 hts gX7_guessed_X7_firstWrong rfl rfl rfl (by decide +kernel) ⟨Nat.le_of_ble_eq_true rfl, Nat.le_of_ble_eq_true rfl⟩) dX7_guessed_1 hK hNX hP hD hS hA hl 0 7 rfl rfl rfl [0, 1] [2] rfl rfl rfl rfl (by decide) rfl (Nat.le_of_ble_eq_true rfl) ⟨Nat.le_of_ble_eq_true rfl, Nat.le_of_ble_eq_true rfl⟩ rfl (fun v' w' Hq lcq hR' hP hD hS => ?_)
    obtain ⟨rfl, rfl⟩ := hR'
    have hP : va_P G.1 vwCl [(y_, .inr (7, [.ref (ca 0), .ref (ca 1), .ref (ca 2), .int (nI ke), .ref (ca 3), .int (nI ty_), .int (nI th), .int (nI po), .int (bI fl_), .ref (ca 4), .int (nI tl), .ref (ca 5)])), (ca 0, .inl (G.2.2.1, 103, .inr (.inl (mV T)))), (ca 5, .inl (G.2.2.1, 40, .inr (.inl (er))))] _ := hP.sub [1, 2, 0] rfl
    have hD : va_D A [(y_, .inr (7, [.ref (ca 0), .ref (ca 1), .ref (ca 2), .int (nI ke), .ref (ca 3), .int (nI ty_), .int (nI th), .int (nI po), .int (bI fl_), .ref (ca 4), .int (nI tl), .ref (ca 5)])), (ca 0, .inl (G.2.2.1, 103, .inr (.inl (mV T)))), (ca 5, .inl (G.2.2.1, 40, .inr (.inl (er))))] := hD.sub [1, 2, 0] (by decide +kernel) rfl
    refine ks_vI (show fwI (fun k => T.p k ≠ (rvT T) k) (T.s 4) = nI (fw (fun k => T.p k ≠ (rvT T) k) (T.s 4)) from if_pos jc) ?_
    refine lv_istore_n (lv' := [(2, .int (nI (fw (fun k => T.p k ≠ (rvT T) k) (T.s 4)))), (0, .ref y_), (1, .int (nI 1))]) hx hb dX7_guessed_4 rfl hl (by decide) rfl (fun ls hl => ?_)
    refine lv_iload_n hx hb dX7_guessed_5 rfl (lv_at hl 0 rfl) ?_
    refine lv_iconst (v := (-1)) hx hb dX7_guessed_6 (by decide) ?_
    refine lv_icmp_ne (tgt := 14) hx hb dX7_guessed_7 (by decide) (fun c_7 => ?_) (fun c_7 => ?_)
    · refine lv_aload_n hx hb dX7_guessed_14 rfl (lv_at hl 1 rfl) ?_
      refine lv_iload_n hx hb dX7_guessed_15 rfl (lv_at hl 0 rfl) ?_
      refine cr_V (wr := []) (As := [.int (nI (fw (fun k => T.p k ≠ (rvT T) k) (T.s 4)))]) (rest := []) ⟨hx, hb, hml, hown, hts⟩ (c_X7_guessedBy G l y_ ca ke ty_ th po fl_ tl T er (fw (fun k => T.p k ≠ (rvT T) k) (T.s 4)) (by omega) (by omega) (by omega) (by omega)) (cwV 1 hts gX7_guessed_X7_guessedBy rfl rfl rfl (by decide +kernel) ⟨Nat.le_of_ble_eq_true rfl, Nat.le_of_ble_eq_true rfl⟩) dX7_guessed_16 hK hNX hP hD hS hA hl 0 7 rfl rfl rfl [0, 1, 2] [] rfl rfl rfl rfl (by decide) rfl (Nat.le_of_ble_eq_true rfl) ⟨Nat.le_of_ble_eq_true rfl, Nat.le_of_ble_eq_true rfl⟩ rfl (fun v' w' Hq lcq hR' hP hD hS => ?_)
      obtain ⟨e9_16, rfl, rfl, jq_16⟩ := hR'
      have hP : va_P G.1 vwCl [(y_, .inr (7, [.ref (ca 0), .ref (ca 1), .ref (ca 2), .int (nI ke), .ref (ca 3), .int (nI ty_), .int (nI th), .int (nI po), .int (bI fl_), .ref (ca 4), .int (nI tl), .ref (ca 5)])), (ca 0, .inl (G.2.2.1, 103, .inr (.inl (mV T)))), (ca 5, .inl (G.2.2.1, 40, .inr (.inl (e9_16))))] _ := hP.sub [0, 1, 2] rfl
      have hD : va_D A [(y_, .inr (7, [.ref (ca 0), .ref (ca 1), .ref (ca 2), .int (nI ke), .ref (ca 3), .int (nI ty_), .int (nI th), .int (nI po), .int (bI fl_), .ref (ca 4), .int (nI tl), .ref (ca 5)])), (ca 0, .inl (G.2.2.1, 103, .inr (.inl (mV T)))), (ca 5, .inl (G.2.2.1, 40, .inr (.inl (e9_16))))] := hD.sub [0, 1, 2] (by decide +kernel) rfl
      refine ks_vI (show fwI (gsP T (rvT T) (fw (fun k => T.p k ≠ (rvT T) k) (T.s 4))) 6 = nI (fw (gsP T (rvT T) (fw (fun k => T.p k ≠ (rvT T) k) (T.s 4))) 6) from if_pos jd) ?_
      refine lv_istore_n (lv' := [(3, .int (nI (fw (gsP T (rvT T) (fw (fun k => T.p k ≠ (rvT T) k) (T.s 4))) 6))), (2, .int (nI (fw (fun k => T.p k ≠ (rvT T) k) (T.s 4)))), (0, .ref y_), (1, .int (nI 1))]) hx hb dX7_guessed_19 rfl hl (by decide) rfl (fun ls hl => ?_)
      refine lv_iload_n hx hb dX7_guessed_20 rfl (lv_at hl 0 rfl) ?_
      refine lv_iconst (v := (-1)) hx hb dX7_guessed_21 (by decide) ?_
      refine lv_icmp_ne (tgt := 38) hx hb dX7_guessed_22 (by decide) (fun c_22 => ?_) (fun c_22 => ?_)
      · refine lv_iload_n hx hb dX7_guessed_38 rfl (lv_at hl 3 rfl) ?_
        refine ks_if_ne (tgt := 47) hx hb dX7_guessed_39 (by decide) (by omega) (fun c_39 => ?_) (fun c_39 => ?_)
        · refine lv_iload_n hx hb dX7_guessed_47 rfl (lv_at hl 3 rfl) ?_
          refine lv_iconst (v := nI 1) hx hb dX7_guessed_48 (by decide) ?_
          refine ks_icmp_ne (tgt := 61) hx hb dX7_guessed_49 (by decide) (by omega) (by omega) (fun c_49 => ?_) (fun c_49 => ?_)
          · omega
          · refine lv_aload_n hx hb dX7_guessed_52 rfl (lv_at hl 2 rfl) ?_
            refine va_get (D := G.1) (ci := 7) (v := .ref (ca 5)) (C := RX7) (T := TX7) (N := 12) hx hb hts hin7 hown hK hP 0 rfl rfl 11 (by decide) (hts (.fieldLink RX7 26 "PowerTablesModel" "errors" "[J") (List.mem_of_getElem? (i := 2) rfl)) (fun _ h9 => h9) rfl dX7_guessed_53 ?_
            refine lv_iconst (v := nI 0) hx hb dX7_guessed_56 (by decide) ?_
            refine ks_lald hx hb hK hP 2 rfl (by omega) (by decide) dX7_guessed_57 ?_
            refine lv_goto (tgt := 65) hx hb dX7_guessed_58 (by decide) ?_
            exact cr_lret hx hb hr hlocks hK hP hD hS dX7_guessed_65 (by rw [hRR]; exact ⟨e9_16, congrArg (fun z => some (Value.long z)) ((jq_16 jd).trans (gsA_found1 jc jd).symm), rfl⟩)
        · omega
      · exact absurd c_22 (nI_m1 (by omega))
    · exact absurd c_7 (nI_m1 (by omega))
  · refine lv_aload_n hx hb dX7_guessed_0 rfl (lv_at hl 0 rfl) ?_
    refine cr_V (wr := [(ca 5, .inl (G.2.2.1, 40, .inr (.inl (er))))]) (As := []) (rest := []) ⟨hx, hb, hml, hown, hts⟩ (c_X7_firstWrong G l y_ ca ke ty_ th po fl_ tl T (by omega) (by omega) (by omega)) (cwV 0 hts gX7_guessed_X7_firstWrong rfl rfl rfl (by decide +kernel) ⟨Nat.le_of_ble_eq_true rfl, Nat.le_of_ble_eq_true rfl⟩) dX7_guessed_1 hK hNX hP hD hS hA hl 0 7 rfl rfl rfl [0, 1] [2] rfl rfl rfl rfl (by decide) rfl (Nat.le_of_ble_eq_true rfl) ⟨Nat.le_of_ble_eq_true rfl, Nat.le_of_ble_eq_true rfl⟩ rfl (fun v' w' Hq lcq hR' hP hD hS => ?_)
    obtain ⟨rfl, rfl⟩ := hR'
    have hP : va_P G.1 vwCl [(y_, .inr (7, [.ref (ca 0), .ref (ca 1), .ref (ca 2), .int (nI ke), .ref (ca 3), .int (nI ty_), .int (nI th), .int (nI po), .int (bI fl_), .ref (ca 4), .int (nI tl), .ref (ca 5)])), (ca 0, .inl (G.2.2.1, 103, .inr (.inl (mV T)))), (ca 5, .inl (G.2.2.1, 40, .inr (.inl (er))))] _ := hP.sub [1, 2, 0] rfl
    have hD : va_D A [(y_, .inr (7, [.ref (ca 0), .ref (ca 1), .ref (ca 2), .int (nI ke), .ref (ca 3), .int (nI ty_), .int (nI th), .int (nI po), .int (bI fl_), .ref (ca 4), .int (nI tl), .ref (ca 5)])), (ca 0, .inl (G.2.2.1, 103, .inr (.inl (mV T)))), (ca 5, .inl (G.2.2.1, 40, .inr (.inl (er))))] := hD.sub [1, 2, 0] (by decide +kernel) rfl
    refine ks_vI (show fwI (fun k => T.p k ≠ (rvT T) k) (T.s 4) = (-1) from if_neg jc) ?_
    refine lv_istore_n (lv' := [(2, .int (-1)), (0, .ref y_), (1, .int (nI 2))]) hx hb dX7_guessed_4 rfl hl (by decide) rfl (fun ls hl => ?_)
    refine lv_iload_n hx hb dX7_guessed_5 rfl (lv_at hl 0 rfl) ?_
    refine lv_iconst (v := (-1)) hx hb dX7_guessed_6 (by decide) ?_
    refine lv_icmp_ne (tgt := 14) hx hb dX7_guessed_7 (by decide) (fun c_7 => ?_) (fun c_7 => ?_)
    · exact absurd rfl c_7
    · refine lv_iconst (v := (-1)) hx hb dX7_guessed_10 (by decide) ?_
      refine lv_goto (tgt := 19) hx hb dX7_guessed_11 (by decide) ?_
      refine lv_istore_n (lv' := [(3, .int (-1)), (2, .int (-1)), (0, .ref y_), (1, .int (nI 2))]) hx hb dX7_guessed_19 rfl hl (by decide) rfl (fun ls hl => ?_)
      refine lv_iload_n hx hb dX7_guessed_20 rfl (lv_at hl 0 rfl) ?_
      refine lv_iconst (v := (-1)) hx hb dX7_guessed_21 (by decide) ?_
      refine lv_icmp_ne (tgt := 38) hx hb dX7_guessed_22 (by decide) (fun c_22 => ?_) (fun c_22 => ?_)
      · exact absurd rfl c_22
      · refine lv_iload_n hx hb dX7_guessed_25 rfl (lv_at hl 3 rfl) ?_
        refine lv_iconst (v := nI 1) hx hb dX7_guessed_26 (by decide) ?_
        refine ks_icmp_ne (tgt := 34) hx hb dX7_guessed_27 (by decide) (by omega) (by omega) (fun c_27 => ?_) (fun c_27 => ?_)
        · refine lv_ldc2 hx hb hown (hts (.constantLong RX7 198 (-1)) (List.mem_of_getElem? (i := 1) rfl)) dX7_guessed_34 ?_
          exact cr_lret hx hb hr hlocks hK hP hD hS dX7_guessed_37 (by rw [hRR]; exact ⟨er, congrArg (fun z => some (Value.long z)) ((gsA_no2 jc).symm), rfl⟩)
        · omega
  · refine lv_aload_n hx hb dX7_guessed_0 rfl (lv_at hl 0 rfl) ?_
    refine cr_V (wr := [(ca 5, .inl (G.2.2.1, 40, .inr (.inl (er))))]) (As := []) (rest := []) ⟨hx, hb, hml, hown, hts⟩ (c_X7_firstWrong G l y_ ca ke ty_ th po fl_ tl T (by omega) (by omega) (by omega)) (cwV 0 hts gX7_guessed_X7_firstWrong rfl rfl rfl (by decide +kernel) ⟨Nat.le_of_ble_eq_true rfl, Nat.le_of_ble_eq_true rfl⟩) dX7_guessed_1 hK hNX hP hD hS hA hl 0 7 rfl rfl rfl [0, 1] [2] rfl rfl rfl rfl (by decide) rfl (Nat.le_of_ble_eq_true rfl) ⟨Nat.le_of_ble_eq_true rfl, Nat.le_of_ble_eq_true rfl⟩ rfl (fun v' w' Hq lcq hR' hP hD hS => ?_)
    obtain ⟨rfl, rfl⟩ := hR'
    have hP : va_P G.1 vwCl [(y_, .inr (7, [.ref (ca 0), .ref (ca 1), .ref (ca 2), .int (nI ke), .ref (ca 3), .int (nI ty_), .int (nI th), .int (nI po), .int (bI fl_), .ref (ca 4), .int (nI tl), .ref (ca 5)])), (ca 0, .inl (G.2.2.1, 103, .inr (.inl (mV T)))), (ca 5, .inl (G.2.2.1, 40, .inr (.inl (er))))] _ := hP.sub [1, 2, 0] rfl
    have hD : va_D A [(y_, .inr (7, [.ref (ca 0), .ref (ca 1), .ref (ca 2), .int (nI ke), .ref (ca 3), .int (nI ty_), .int (nI th), .int (nI po), .int (bI fl_), .ref (ca 4), .int (nI tl), .ref (ca 5)])), (ca 0, .inl (G.2.2.1, 103, .inr (.inl (mV T)))), (ca 5, .inl (G.2.2.1, 40, .inr (.inl (er))))] := hD.sub [1, 2, 0] (by decide +kernel) rfl
    refine ks_vI (show fwI (fun k => T.p k ≠ (rvT T) k) (T.s 4) = nI (fw (fun k => T.p k ≠ (rvT T) k) (T.s 4)) from if_pos jc) ?_
    refine lv_istore_n (lv' := [(2, .int (nI (fw (fun k => T.p k ≠ (rvT T) k) (T.s 4)))), (0, .ref y_), (1, .int (nI 2))]) hx hb dX7_guessed_4 rfl hl (by decide) rfl (fun ls hl => ?_)
    refine lv_iload_n hx hb dX7_guessed_5 rfl (lv_at hl 0 rfl) ?_
    refine lv_iconst (v := (-1)) hx hb dX7_guessed_6 (by decide) ?_
    refine lv_icmp_ne (tgt := 14) hx hb dX7_guessed_7 (by decide) (fun c_7 => ?_) (fun c_7 => ?_)
    · refine lv_aload_n hx hb dX7_guessed_14 rfl (lv_at hl 1 rfl) ?_
      refine lv_iload_n hx hb dX7_guessed_15 rfl (lv_at hl 0 rfl) ?_
      refine cr_V (wr := []) (As := [.int (nI (fw (fun k => T.p k ≠ (rvT T) k) (T.s 4)))]) (rest := []) ⟨hx, hb, hml, hown, hts⟩ (c_X7_guessedBy G l y_ ca ke ty_ th po fl_ tl T er (fw (fun k => T.p k ≠ (rvT T) k) (T.s 4)) (by omega) (by omega) (by omega) (by omega)) (cwV 1 hts gX7_guessed_X7_guessedBy rfl rfl rfl (by decide +kernel) ⟨Nat.le_of_ble_eq_true rfl, Nat.le_of_ble_eq_true rfl⟩) dX7_guessed_16 hK hNX hP hD hS hA hl 0 7 rfl rfl rfl [0, 1, 2] [] rfl rfl rfl rfl (by decide) rfl (Nat.le_of_ble_eq_true rfl) ⟨Nat.le_of_ble_eq_true rfl, Nat.le_of_ble_eq_true rfl⟩ rfl (fun v' w' Hq lcq hR' hP hD hS => ?_)
      obtain ⟨e9_16, rfl, rfl, jq_16⟩ := hR'
      have hP : va_P G.1 vwCl [(y_, .inr (7, [.ref (ca 0), .ref (ca 1), .ref (ca 2), .int (nI ke), .ref (ca 3), .int (nI ty_), .int (nI th), .int (nI po), .int (bI fl_), .ref (ca 4), .int (nI tl), .ref (ca 5)])), (ca 0, .inl (G.2.2.1, 103, .inr (.inl (mV T)))), (ca 5, .inl (G.2.2.1, 40, .inr (.inl (e9_16))))] _ := hP.sub [0, 1, 2] rfl
      have hD : va_D A [(y_, .inr (7, [.ref (ca 0), .ref (ca 1), .ref (ca 2), .int (nI ke), .ref (ca 3), .int (nI ty_), .int (nI th), .int (nI po), .int (bI fl_), .ref (ca 4), .int (nI tl), .ref (ca 5)])), (ca 0, .inl (G.2.2.1, 103, .inr (.inl (mV T)))), (ca 5, .inl (G.2.2.1, 40, .inr (.inl (e9_16))))] := hD.sub [0, 1, 2] (by decide +kernel) rfl
      refine ks_vI (show fwI (gsP T (rvT T) (fw (fun k => T.p k ≠ (rvT T) k) (T.s 4))) 6 = (-1) from if_neg jd) ?_
      refine lv_istore_n (lv' := [(3, .int (-1)), (2, .int (nI (fw (fun k => T.p k ≠ (rvT T) k) (T.s 4)))), (0, .ref y_), (1, .int (nI 2))]) hx hb dX7_guessed_19 rfl hl (by decide) rfl (fun ls hl => ?_)
      refine lv_iload_n hx hb dX7_guessed_20 rfl (lv_at hl 0 rfl) ?_
      refine lv_iconst (v := (-1)) hx hb dX7_guessed_21 (by decide) ?_
      refine lv_icmp_ne (tgt := 38) hx hb dX7_guessed_22 (by decide) (fun c_22 => ?_) (fun c_22 => ?_)
      · exact absurd rfl c_22
      · refine lv_iload_n hx hb dX7_guessed_25 rfl (lv_at hl 3 rfl) ?_
        refine lv_iconst (v := nI 1) hx hb dX7_guessed_26 (by decide) ?_
        refine ks_icmp_ne (tgt := 34) hx hb dX7_guessed_27 (by decide) (by omega) (by omega) (fun c_27 => ?_) (fun c_27 => ?_)
        · refine lv_ldc2 hx hb hown (hts (.constantLong RX7 198 (-1)) (List.mem_of_getElem? (i := 1) rfl)) dX7_guessed_34 ?_
          exact cr_lret hx hb hr hlocks hK hP hD hS dX7_guessed_37 (by rw [hRR]; exact ⟨e9_16, congrArg (fun z => some (Value.long z)) ((gsA_none2 jc jd).symm), rfl⟩)
        · omega
    · exact absurd c_7 (nI_m1 (by omega))
  · refine lv_aload_n hx hb dX7_guessed_0 rfl (lv_at hl 0 rfl) ?_
    refine cr_V (wr := [(ca 5, .inl (G.2.2.1, 40, .inr (.inl (er))))]) (As := []) (rest := []) ⟨hx, hb, hml, hown, hts⟩ (c_X7_firstWrong G l y_ ca ke ty_ th po fl_ tl T (by omega) (by omega) (by omega)) (cwV 0 hts gX7_guessed_X7_firstWrong rfl rfl rfl (by decide +kernel) ⟨Nat.le_of_ble_eq_true rfl, Nat.le_of_ble_eq_true rfl⟩) dX7_guessed_1 hK hNX hP hD hS hA hl 0 7 rfl rfl rfl [0, 1] [2] rfl rfl rfl rfl (by decide) rfl (Nat.le_of_ble_eq_true rfl) ⟨Nat.le_of_ble_eq_true rfl, Nat.le_of_ble_eq_true rfl⟩ rfl (fun v' w' Hq lcq hR' hP hD hS => ?_)
    obtain ⟨rfl, rfl⟩ := hR'
    have hP : va_P G.1 vwCl [(y_, .inr (7, [.ref (ca 0), .ref (ca 1), .ref (ca 2), .int (nI ke), .ref (ca 3), .int (nI ty_), .int (nI th), .int (nI po), .int (bI fl_), .ref (ca 4), .int (nI tl), .ref (ca 5)])), (ca 0, .inl (G.2.2.1, 103, .inr (.inl (mV T)))), (ca 5, .inl (G.2.2.1, 40, .inr (.inl (er))))] _ := hP.sub [1, 2, 0] rfl
    have hD : va_D A [(y_, .inr (7, [.ref (ca 0), .ref (ca 1), .ref (ca 2), .int (nI ke), .ref (ca 3), .int (nI ty_), .int (nI th), .int (nI po), .int (bI fl_), .ref (ca 4), .int (nI tl), .ref (ca 5)])), (ca 0, .inl (G.2.2.1, 103, .inr (.inl (mV T)))), (ca 5, .inl (G.2.2.1, 40, .inr (.inl (er))))] := hD.sub [1, 2, 0] (by decide +kernel) rfl
    refine ks_vI (show fwI (fun k => T.p k ≠ (rvT T) k) (T.s 4) = nI (fw (fun k => T.p k ≠ (rvT T) k) (T.s 4)) from if_pos jc) ?_
    refine lv_istore_n (lv' := [(2, .int (nI (fw (fun k => T.p k ≠ (rvT T) k) (T.s 4)))), (0, .ref y_), (1, .int (nI 2))]) hx hb dX7_guessed_4 rfl hl (by decide) rfl (fun ls hl => ?_)
    refine lv_iload_n hx hb dX7_guessed_5 rfl (lv_at hl 0 rfl) ?_
    refine lv_iconst (v := (-1)) hx hb dX7_guessed_6 (by decide) ?_
    refine lv_icmp_ne (tgt := 14) hx hb dX7_guessed_7 (by decide) (fun c_7 => ?_) (fun c_7 => ?_)
    · refine lv_aload_n hx hb dX7_guessed_14 rfl (lv_at hl 1 rfl) ?_
      refine lv_iload_n hx hb dX7_guessed_15 rfl (lv_at hl 0 rfl) ?_
      refine cr_V (wr := []) (As := [.int (nI (fw (fun k => T.p k ≠ (rvT T) k) (T.s 4)))]) (rest := []) ⟨hx, hb, hml, hown, hts⟩ (c_X7_guessedBy G l y_ ca ke ty_ th po fl_ tl T er (fw (fun k => T.p k ≠ (rvT T) k) (T.s 4)) (by omega) (by omega) (by omega) (by omega)) (cwV 1 hts gX7_guessed_X7_guessedBy rfl rfl rfl (by decide +kernel) ⟨Nat.le_of_ble_eq_true rfl, Nat.le_of_ble_eq_true rfl⟩) dX7_guessed_16 hK hNX hP hD hS hA hl 0 7 rfl rfl rfl [0, 1, 2] [] rfl rfl rfl rfl (by decide) rfl (Nat.le_of_ble_eq_true rfl) ⟨Nat.le_of_ble_eq_true rfl, Nat.le_of_ble_eq_true rfl⟩ rfl (fun v' w' Hq lcq hR' hP hD hS => ?_)
      obtain ⟨e9_16, rfl, rfl, jq_16⟩ := hR'
      have hP : va_P G.1 vwCl [(y_, .inr (7, [.ref (ca 0), .ref (ca 1), .ref (ca 2), .int (nI ke), .ref (ca 3), .int (nI ty_), .int (nI th), .int (nI po), .int (bI fl_), .ref (ca 4), .int (nI tl), .ref (ca 5)])), (ca 0, .inl (G.2.2.1, 103, .inr (.inl (mV T)))), (ca 5, .inl (G.2.2.1, 40, .inr (.inl (e9_16))))] _ := hP.sub [0, 1, 2] rfl
      have hD : va_D A [(y_, .inr (7, [.ref (ca 0), .ref (ca 1), .ref (ca 2), .int (nI ke), .ref (ca 3), .int (nI ty_), .int (nI th), .int (nI po), .int (bI fl_), .ref (ca 4), .int (nI tl), .ref (ca 5)])), (ca 0, .inl (G.2.2.1, 103, .inr (.inl (mV T)))), (ca 5, .inl (G.2.2.1, 40, .inr (.inl (e9_16))))] := hD.sub [0, 1, 2] (by decide +kernel) rfl
      refine ks_vI (show fwI (gsP T (rvT T) (fw (fun k => T.p k ≠ (rvT T) k) (T.s 4))) 6 = nI (fw (gsP T (rvT T) (fw (fun k => T.p k ≠ (rvT T) k) (T.s 4))) 6) from if_pos jd) ?_
      refine lv_istore_n (lv' := [(3, .int (nI (fw (gsP T (rvT T) (fw (fun k => T.p k ≠ (rvT T) k) (T.s 4))) 6))), (2, .int (nI (fw (fun k => T.p k ≠ (rvT T) k) (T.s 4)))), (0, .ref y_), (1, .int (nI 2))]) hx hb dX7_guessed_19 rfl hl (by decide) rfl (fun ls hl => ?_)
      refine lv_iload_n hx hb dX7_guessed_20 rfl (lv_at hl 0 rfl) ?_
      refine lv_iconst (v := (-1)) hx hb dX7_guessed_21 (by decide) ?_
      refine lv_icmp_ne (tgt := 38) hx hb dX7_guessed_22 (by decide) (fun c_22 => ?_) (fun c_22 => ?_)
      · refine lv_iload_n hx hb dX7_guessed_38 rfl (lv_at hl 3 rfl) ?_
        refine ks_if_ne (tgt := 47) hx hb dX7_guessed_39 (by decide) (by omega) (fun c_39 => ?_) (fun c_39 => ?_)
        · refine lv_iload_n hx hb dX7_guessed_47 rfl (lv_at hl 3 rfl) ?_
          refine lv_iconst (v := nI 1) hx hb dX7_guessed_48 (by decide) ?_
          refine ks_icmp_ne (tgt := 61) hx hb dX7_guessed_49 (by decide) (by omega) (by omega) (fun c_49 => ?_) (fun c_49 => ?_)
          · refine lv_iload_n hx hb dX7_guessed_61 rfl (lv_at hl 1 rfl) ?_
            refine lv_iload_n hx hb dX7_guessed_62 rfl (lv_at hl 0 rfl) ?_
            refine lv_isub hx hb dX7_guessed_63 ?_
            refine lv_i2l hx hb dX7_guessed_64 rfl ?_
            exact cr_lret hx hb hr hlocks hK hP hD hS dX7_guessed_65 (by rw [hRR]; exact ⟨e9_16, congrArg (fun z => some (Value.long z)) ((gsA_found2 jc jd).symm), rfl⟩)
          · omega
        · omega
      · exact absurd c_22 (nI_m1 (by omega))
    · exact absurd c_7 (nI_m1 (by omega))
set_option maxHeartbeats 4000000 in
set_option maxRecDepth 100000 in
theorem c_X7_guess (G : GG) (l : Launch) (y_ : Nat) (ca : Nat → Nat) (ke : Nat) (ty_ : Nat) (th : Nat) (po : Nat) (fl_ : Prop) (tl : Nat) (T : TS) (er : Nat → Int64) (w_ : Nat) (jw : w_ < 3) (jn4 : T.s 4 ≤ 40) (jf_ : T.s 3 ≤ 99) (jp : T.s 2 ≤ 5) : Cr G l yX7_guess wsX7_guess ({ frames := 4, cells := 0, slots := 0, locals := 95 }) 0 0 [.ref y_, .int (nI w_)] [(y_, .inr (7, [.ref (ca 0), .ref (ca 1), .ref (ca 2), .int (nI ke), .ref (ca 3), .int (nI ty_), .int (nI th), .int (nI po), .int (bI fl_), .ref (ca 4), .int (nI tl), .ref (ca 5)])), (ca 0, .inl (G.2.2.1, 103, .inr (.inl (mV T)))), (ca 5, .inl (G.2.2.1, 40, .inr (.inl (er))))] (fun (vv1 : Option Value) (ww1 : va_W) => ∃ (e9_ : Nat → Int64), vv1 = (some (.long (gsA T (rvT T) w_))) ∧ ww1 = [(y_, .inr (7, [.ref (ca 0), .ref (ca 1), .ref (ca 2), .int (nI ke), .ref (ca 3), .int (nI ty_), .int (nI 0), .int (nI po), .int (bI fl_), .ref (ca 4), .int (nI tl), .ref (ca 5)])), (ca 0, .inl (G.2.2.1, 103, .inr (.inl (mV T)))), (ca 5, .inl (G.2.2.1, 40, .inr (.inl (e9_))))]) := by
  refine cr_intro (cc := cX7_guess) (maxL := 2) (ret := (some .long)) (own := RX7) (by decide) rfl rfl (Nat.le_of_ble_eq_true rfl) ?_
  intro p e s m args below meth c A hx hb hr hml hts hown hlocks hnm hNX hP hK hD hA hS ls hl
  obtain ⟨RR, hRR⟩ : ∃ RR, RR = (fun (vv1 : Option Value) (ww1 : va_W) => ∃ (e9_ : Nat → Int64), vv1 = (some (.long (gsA T (rvT T) w_))) ∧ ww1 = [(y_, .inr (7, [.ref (ca 0), .ref (ca 1), .ref (ca 2), .int (nI ke), .ref (ca 3), .int (nI ty_), .int (nI 0), .int (nI po), .int (bI fl_), .ref (ca 4), .int (nI tl), .ref (ca 5)])), (ca 0, .inl (G.2.2.1, 103, .inr (.inl (mV T)))), (ca 5, .inl (G.2.2.1, 40, .inr (.inl (e9_))))]) := ⟨_, rfl⟩
  rw [← hRR]
  have hl : lv_has ls 2 [(0, .ref y_), (1, .int (nI w_))] := hl
  have hin7 : ∀ w_ ∈ u_ws RX7 TX7 12, w_ ∈ wsX7_guess := fun w_ h => List.mem_cons_of_mem _ (List.mem_append_right _ h)
  refine lv_aload_n hx hb dX7_guess_0 rfl (lv_at hl 0 rfl) ?_
  refine lv_iconst (v := nI 0) hx hb dX7_guess_1 (by decide) ?_
  refine va_put (D := G.1) (ci := 7) (v := .int (nI 0)) (ty := .int) (C := RX7) (T := TX7) (N := 12) hx hb hts hin7 tyX7 tyX7_ok nmX7 hown hK hP hD hS 0 rfl rfl 6 (by decide) (hts (.fieldLink RX7 39 "PowerTablesModel" "thrown" "I") (List.mem_of_getElem? (i := 1) rfl)) (fun _ h9 => h9) rfl (tyX7_ok 6 (by decide)) rfl rfl (Nat.le_of_ble_eq_true rfl) dX7_guess_2 (fun Hq lcq hP hD hS => ?_)
  have hP : va_P G.1 vwCl [(y_, .inr (7, [.ref (ca 0), .ref (ca 1), .ref (ca 2), .int (nI ke), .ref (ca 3), .int (nI ty_), .int (nI 0), .int (nI po), .int (bI fl_), .ref (ca 4), .int (nI tl), .ref (ca 5)])), (ca 0, .inl (G.2.2.1, 103, .inr (.inl (mV T)))), (ca 5, .inl (G.2.2.1, 40, .inr (.inl (er))))] _ := hP
  have hD : va_D A [(y_, .inr (7, [.ref (ca 0), .ref (ca 1), .ref (ca 2), .int (nI ke), .ref (ca 3), .int (nI ty_), .int (nI 0), .int (nI po), .int (bI fl_), .ref (ca 4), .int (nI tl), .ref (ca 5)])), (ca 0, .inl (G.2.2.1, 103, .inr (.inl (mV T)))), (ca 5, .inl (G.2.2.1, 40, .inr (.inl (er))))] := hD
  refine lv_iload_n hx hb dX7_guess_5 rfl (lv_at hl 1 rfl) ?_
  refine ks_i2lN hx hb dX7_guess_6 (by omega) ?_
  refine lv_lconst (v := lN 0) hx hb dX7_guess_7 rfl ?_
  refine lv_ldc2 hx hb hown (hts (.constantLong RX7 33 (2)) (List.mem_of_getElem? (i := 2) rfl)) dX7_guess_8 ?_
  refine ks_vL (show (2 : Int64) = lN 2 from rfl) ?_
  refine cr_S (wr := [(y_, .inr (7, [.ref (ca 0), .ref (ca 1), .ref (ca 2), .int (nI ke), .ref (ca 3), .int (nI ty_), .int (nI 0), .int (nI po), .int (bI fl_), .ref (ca 4), .int (nI tl), .ref (ca 5)])), (ca 0, .inl (G.2.2.1, 103, .inr (.inl (mV T)))), (ca 5, .inl (G.2.2.1, 40, .inr (.inl (er))))]) (As := [.long (lN w_), .long (lN 0), .long (lN 2)]) (rest := []) ⟨hx, hb, hml, hown, hts⟩ (c_X7_in__n G l w_ 0 2 (by omega) (by omega) (by omega)) (va_cwS 3 hts gX7_guess_X7_in rfl rfl rfl (by decide +kernel) ⟨Nat.le_of_ble_eq_true rfl, Nat.le_of_ble_eq_true rfl⟩) dX7_guess_11 hK hNX hP hD hS hA hl [] [0, 1, 2] rfl rfl rfl rfl (by decide) rfl (Nat.le_of_ble_eq_true rfl) ⟨Nat.le_of_ble_eq_true rfl, Nat.le_of_ble_eq_true rfl⟩ rfl (fun v' w' Hq lcq hR' hP hD hS => ?_)
  obtain ⟨rfl, rfl⟩ := hR'
  have hP : va_P G.1 vwCl [(y_, .inr (7, [.ref (ca 0), .ref (ca 1), .ref (ca 2), .int (nI ke), .ref (ca 3), .int (nI ty_), .int (nI 0), .int (nI po), .int (bI fl_), .ref (ca 4), .int (nI tl), .ref (ca 5)])), (ca 0, .inl (G.2.2.1, 103, .inr (.inl (mV T)))), (ca 5, .inl (G.2.2.1, 40, .inr (.inl (er))))] _ := hP.sub [0, 1, 2] rfl
  have hD : va_D A [(y_, .inr (7, [.ref (ca 0), .ref (ca 1), .ref (ca 2), .int (nI ke), .ref (ca 3), .int (nI ty_), .int (nI 0), .int (nI po), .int (bI fl_), .ref (ca 4), .int (nI tl), .ref (ca 5)])), (ca 0, .inl (G.2.2.1, 103, .inr (.inl (mV T)))), (ca 5, .inl (G.2.2.1, 40, .inr (.inl (er))))] := hD.sub [0, 1, 2] (by decide +kernel) rfl
  refine ks_ifb_eq (tgt := 25) hx hb dX7_guess_14 (by decide) (fun c_14 => ?_) (fun c_14 => ?_)
  · exact absurd ⟨Nat.zero_le _, by omega⟩ c_14
  · refine lv_aload_n hx hb dX7_guess_17 rfl (lv_at hl 0 rfl) ?_
    refine lv_iload_n hx hb dX7_guess_18 rfl (lv_at hl 1 rfl) ?_
    refine cr_V (wr := []) (As := [.int (nI w_)]) (rest := []) ⟨hx, hb, hml, hown, hts⟩ (c_X7_guessed G l y_ ca ke ty_ 0 po fl_ tl T er w_ (by omega) (by omega) (by omega) (by omega)) (cwV 1 hts gX7_guess_X7_guessed rfl rfl rfl (by decide +kernel) ⟨Nat.le_of_ble_eq_true rfl, Nat.le_of_ble_eq_true rfl⟩) dX7_guess_19 hK hNX hP hD hS hA hl 0 7 rfl rfl rfl [0, 1, 2] [] rfl rfl rfl rfl (by decide) rfl (Nat.le_of_ble_eq_true rfl) ⟨Nat.le_of_ble_eq_true rfl, Nat.le_of_ble_eq_true rfl⟩ rfl (fun v' w' Hq lcq hR' hP hD hS => ?_)
    obtain ⟨e9_19, rfl, rfl⟩ := hR'
    have hP : va_P G.1 vwCl [(y_, .inr (7, [.ref (ca 0), .ref (ca 1), .ref (ca 2), .int (nI ke), .ref (ca 3), .int (nI ty_), .int (nI 0), .int (nI po), .int (bI fl_), .ref (ca 4), .int (nI tl), .ref (ca 5)])), (ca 0, .inl (G.2.2.1, 103, .inr (.inl (mV T)))), (ca 5, .inl (G.2.2.1, 40, .inr (.inl (e9_19))))] _ := hP.sub [0, 1, 2] rfl
    have hD : va_D A [(y_, .inr (7, [.ref (ca 0), .ref (ca 1), .ref (ca 2), .int (nI ke), .ref (ca 3), .int (nI ty_), .int (nI 0), .int (nI po), .int (bI fl_), .ref (ca 4), .int (nI tl), .ref (ca 5)])), (ca 0, .inl (G.2.2.1, 103, .inr (.inl (mV T)))), (ca 5, .inl (G.2.2.1, 40, .inr (.inl (e9_19))))] := hD.sub [0, 1, 2] (by decide +kernel) rfl
    refine lv_goto (tgt := 31) hx hb dX7_guess_22 (by decide) ?_
    exact cr_lret hx hb hr hlocks hK hP hD hS dX7_guess_31 (by rw [hRR]; exact ⟨e9_19, congrArg (fun z => some (Value.long z)) (rfl), rfl⟩)
set_option maxHeartbeats 4000000 in
set_option maxRecDepth 100000 in
theorem c_X7_guess__b1 (G : GG) (l : Launch) (y_ : Nat) (ca : Nat → Nat) (ke : Nat) (ty_ : Nat) (th : Nat) (po : Nat) (fl_ : Prop) (tl : Nat) (v_ : Int32) (h8 : ¬ (0 ≤ v_.toInt ∧ v_.toInt ≤ 2)) : Cr G l yX7_guess wsX7_guess ({ frames := 4, cells := 0, slots := 0, locals := 95 }) 0 0 [.ref y_, .int v_] [(y_, .inr (7, [.ref (ca 0), .ref (ca 1), .ref (ca 2), .int (nI ke), .ref (ca 3), .int (nI ty_), .int (nI th), .int (nI po), .int (bI fl_), .ref (ca 4), .int (nI tl), .ref (ca 5)]))] (ctR (some (.long (lN 0))) [(y_, .inr (7, [.ref (ca 0), .ref (ca 1), .ref (ca 2), .int (nI ke), .ref (ca 3), .int (nI ty_), .int (nI 1), .int (nI po), .int (bI fl_), .ref (ca 4), .int (nI tl), .ref (ca 5)]))]) := by
  refine cr_intro (cc := cX7_guess) (maxL := 2) (ret := (some .long)) (own := RX7) (by decide) rfl rfl (Nat.le_of_ble_eq_true rfl) ?_
  intro p e s m args below meth c A hx hb hr hml hts hown hlocks hnm hNX hP hK hD hA hS ls hl
  obtain ⟨RR, hRR⟩ : ∃ RR, RR = (ctR (some (.long (lN 0))) [(y_, .inr (7, [.ref (ca 0), .ref (ca 1), .ref (ca 2), .int (nI ke), .ref (ca 3), .int (nI ty_), .int (nI 1), .int (nI po), .int (bI fl_), .ref (ca 4), .int (nI tl), .ref (ca 5)]))]) := ⟨_, rfl⟩
  rw [← hRR]
  have hl : lv_has ls 2 [(0, .ref y_), (1, .int v_)] := hl
  have hin7 : ∀ w ∈ u_ws RX7 TX7 12, w ∈ wsX7_guess := fun w h => List.mem_cons_of_mem _ (List.mem_append_right _ h)
  refine lv_aload_n hx hb dX7_guess_0 rfl (lv_at hl 0 rfl) ?_
  refine lv_iconst (v := nI 0) hx hb dX7_guess_1 (by decide) ?_
  refine va_put (D := G.1) (ci := 7) (v := .int (nI 0)) (ty := .int) (C := RX7) (T := TX7) (N := 12) hx hb hts hin7 tyX7 tyX7_ok nmX7 hown hK hP hD hS 0 rfl rfl 6 (by decide) (hts (.fieldLink RX7 39 "PowerTablesModel" "thrown" "I") (List.mem_of_getElem? (i := 1) rfl)) (fun _ h9 => h9) rfl (tyX7_ok 6 (by decide)) rfl rfl (Nat.le_of_ble_eq_true rfl) dX7_guess_2 (fun Hq lcq hP hD hS => ?_)
  have hP : va_P G.1 vwCl [(y_, .inr (7, [.ref (ca 0), .ref (ca 1), .ref (ca 2), .int (nI ke), .ref (ca 3), .int (nI ty_), .int (nI 0), .int (nI po), .int (bI fl_), .ref (ca 4), .int (nI tl), .ref (ca 5)]))] _ := hP
  have hD : va_D A [(y_, .inr (7, [.ref (ca 0), .ref (ca 1), .ref (ca 2), .int (nI ke), .ref (ca 3), .int (nI ty_), .int (nI 0), .int (nI po), .int (bI fl_), .ref (ca 4), .int (nI tl), .ref (ca 5)]))] := hD
  refine lv_iload_n hx hb dX7_guess_5 rfl (lv_at hl 1 rfl) ?_
  refine lv_i2l hx hb dX7_guess_6 rfl ?_
  refine lv_lconst (v := lN 0) hx hb dX7_guess_7 rfl ?_
  refine lv_ldc2 hx hb hown (hts (.constantLong RX7 33 (2)) (List.mem_of_getElem? (i := 2) rfl)) dX7_guess_8 ?_
  refine ks_vL (show (2 : Int64) = lN 2 from rfl) ?_
  refine cr_S (wr := [(y_, .inr (7, [.ref (ca 0), .ref (ca 1), .ref (ca 2), .int (nI ke), .ref (ca 3), .int (nI ty_), .int (nI 0), .int (nI po), .int (bI fl_), .ref (ca 4), .int (nI tl), .ref (ca 5)]))]) (As := [.long v_.toInt64, .long (lN 0), .long (lN 2)]) (rest := []) ⟨hx, hb, hml, hown, hts⟩ (c_X7_in__i G l v_ 0 2 (by omega) (by omega)) (va_cwS 3 hts gX7_guess_X7_in rfl rfl rfl (by decide +kernel) ⟨Nat.le_of_ble_eq_true rfl, Nat.le_of_ble_eq_true rfl⟩) dX7_guess_11 hK hNX hP hD hS hA hl [] [0] rfl rfl rfl rfl (by decide) rfl (Nat.le_of_ble_eq_true rfl) ⟨Nat.le_of_ble_eq_true rfl, Nat.le_of_ble_eq_true rfl⟩ rfl (fun v' w' Hq lcq hR' hP hD hS => ?_)
  obtain ⟨rfl, rfl⟩ := hR'
  have hP : va_P G.1 vwCl [(y_, .inr (7, [.ref (ca 0), .ref (ca 1), .ref (ca 2), .int (nI ke), .ref (ca 3), .int (nI ty_), .int (nI 0), .int (nI po), .int (bI fl_), .ref (ca 4), .int (nI tl), .ref (ca 5)]))] _ := hP.sub [0] rfl
  have hD : va_D A [(y_, .inr (7, [.ref (ca 0), .ref (ca 1), .ref (ca 2), .int (nI ke), .ref (ca 3), .int (nI ty_), .int (nI 0), .int (nI po), .int (bI fl_), .ref (ca 4), .int (nI tl), .ref (ca 5)]))] := hD.sub [0] (by decide +kernel) rfl
  refine ks_ifb_eq (tgt := 25) hx hb dX7_guess_14 (by decide) (fun c_14 => ?_) (fun c_14 => ?_)
  · refine lv_aload_n hx hb dX7_guess_25 rfl (lv_at hl 0 rfl) ?_
    refine lv_iconst (v := nI 1) hx hb dX7_guess_26 (by decide) ?_
    refine cr_V (wr := []) (As := [.int (nI 1)]) (rest := []) ⟨hx, hb, hml, hown, hts⟩ (c_X7_fails G l y_ ca ke ty_ 0 po fl_ tl 1 ) (cwV 1 hts gX7_guess_X7_fails rfl rfl rfl (by decide +kernel) ⟨Nat.le_of_ble_eq_true rfl, Nat.le_of_ble_eq_true rfl⟩) dX7_guess_27 hK hNX hP hD hS hA hl 0 7 rfl rfl rfl [0] [] rfl rfl rfl rfl (by decide) rfl (Nat.le_of_ble_eq_true rfl) ⟨Nat.le_of_ble_eq_true rfl, Nat.le_of_ble_eq_true rfl⟩ rfl (fun v' w' Hq lcq hR' hP hD hS => ?_)
    obtain ⟨rfl, rfl⟩ := hR'
    have hP : va_P G.1 vwCl [(y_, .inr (7, [.ref (ca 0), .ref (ca 1), .ref (ca 2), .int (nI ke), .ref (ca 3), .int (nI ty_), .int (nI 1), .int (nI po), .int (bI fl_), .ref (ca 4), .int (nI tl), .ref (ca 5)]))] _ := hP.sub [0] rfl
    have hD : va_D A [(y_, .inr (7, [.ref (ca 0), .ref (ca 1), .ref (ca 2), .int (nI ke), .ref (ca 3), .int (nI ty_), .int (nI 1), .int (nI po), .int (bI fl_), .ref (ca 4), .int (nI tl), .ref (ca 5)]))] := hD.sub [0] (by decide +kernel) rfl
    refine ks_i2lN hx hb dX7_guess_30 (by omega) ?_
    exact cr_lret hx hb hr hlocks hK hP hD hS dX7_guess_31 (by rw [hRR]; exact ctR_l (rfl) (rfl))
  · exact absurd c_14 h8
set_option maxHeartbeats 4000000 in
set_option maxRecDepth 100000 in
theorem c_X7_byPrinting (G : GG) (l : Launch) (y_ : Nat) (ca : Nat → Nat) (ke : Nat) (ty_ : Nat) (th : Nat) (po : Nat) (fl_ : Prop) (tl : Nat) (T : TS) (f1_ : Nat → Int64) (k_ : Nat) (w_ : Nat) (j1 : 1 ≤ k_) (j2_ : k_ ≤ 40) (jw3 : w_ < 3) (jr : RB (T.s 4) T.r) (jw : ∀ d, d < 10 → T.w d + 800 < 2 ^ 30) (jl : T.s 1 < 2 ^ 30) (jd : T.s 5 + 800 < 2 ^ 30) (jn4 : T.s 4 ≤ 40) (jf_ : T.s 3 ≤ 99) (jp : T.s 2 ≤ 5) : Cr G l yX7_byPrinting wsX7_byPrinting ({ frames := 2, cells := 0, slots := 0, locals := 51 }) 0 0 [.ref y_, .int (nI k_), .int (nI w_)] [(y_, .inr (7, [.ref (ca 0), .ref (ca 1), .ref (ca 2), .int (nI ke), .ref (ca 3), .int (nI ty_), .int (nI th), .int (nI po), .int (bI fl_), .ref (ca 4), .int (nI tl), .ref (ca 5)])), (ca 0, .inl (G.2.2.1, 103, .inr (.inl (mV T)))), (ca 1, .inl (G.2.2.1, 103, .inr (.inl (f1_))))] (fun (vv1 : Option Value) (ww1 : va_W) => ∃ (f2_ : Nat → Int64), vv1 = (some (.long (ipA T k_ w_))) ∧ ww1 = [(y_, .inr (7, [.ref (ca 0), .ref (ca 1), .ref (ca 2), .int (nI ke), .ref (ca 3), .int (nI ty_), .int (nI th), .int (nI po), .int (bI fl_), .ref (ca 4), .int (nI tl), .ref (ca 5)])), (ca 0, .inl (G.2.2.1, 103, .inr (.inl (mV T)))), (ca 1, .inl (G.2.2.1, 103, .inr (.inl (f2_))))]) := by
  refine cr_intro (cc := cX7_byPrinting) (maxL := 8) (ret := (some .long)) (own := RX7) (by decide) rfl rfl (Nat.le_of_ble_eq_true rfl) ?_
  intro p e s m args below meth c A hx hb hr hml hts hown hlocks hnm hNX hP hK hD hA hS ls hl
  obtain ⟨RR, hRR⟩ : ∃ RR, RR = (fun (vv1 : Option Value) (ww1 : va_W) => ∃ (f2_ : Nat → Int64), vv1 = (some (.long (ipA T k_ w_))) ∧ ww1 = [(y_, .inr (7, [.ref (ca 0), .ref (ca 1), .ref (ca 2), .int (nI ke), .ref (ca 3), .int (nI ty_), .int (nI th), .int (nI po), .int (bI fl_), .ref (ca 4), .int (nI tl), .ref (ca 5)])), (ca 0, .inl (G.2.2.1, 103, .inr (.inl (mV T)))), (ca 1, .inl (G.2.2.1, 103, .inr (.inl (f2_))))]) := ⟨_, rfl⟩
  rw [← hRR]
  have hl : lv_has ls 8 [(0, .ref y_), (1, .int (nI k_)), (2, .int (nI w_))] := hl
  have hin7 : ∀ w_ ∈ u_ws RX7 TX7 12, w_ ∈ wsX7_byPrinting := fun w_ h => List.mem_cons_of_mem _ (List.mem_append_right _ h)
  refine lv_iconst (v := nI 0) hx hb dX7_byPrinting_0 (by decide) ?_
  refine lv_istore_n (lv' := [(3, .int (nI 0)), (0, .ref y_), (1, .int (nI k_)), (2, .int (nI w_))]) hx hb dX7_byPrinting_1 rfl hl (by decide) rfl (fun ls hl => ?_)
  have L_2 : ∀ (n_2 : Nat) (i_ : Nat) (_ : 110 - i_ < n_2) (ji : i_ ≤ 103) (Hq : Heap) (lcq : List Loc), va_P G.1 vwCl [(y_, .inr (7, [.ref (ca 0), .ref (ca 1), .ref (ca 2), .int (nI ke), .ref (ca 3), .int (nI ty_), .int (nI th), .int (nI po), .int (bI fl_), .ref (ca 4), .int (nI tl), .ref (ca 5)])), (ca 0, .inl (G.2.2.1, 103, .inr (.inl (mV T)))), (ca 1, .inl (G.2.2.1, 103, .inr (.inl (cpu f1_ (mV T) i_))))] Hq → va_D A [(y_, .inr (7, [.ref (ca 0), .ref (ca 1), .ref (ca 2), .int (nI ke), .ref (ca 3), .int (nI ty_), .int (nI th), .int (nI po), .int (bI fl_), .ref (ca 4), .int (nI tl), .ref (ca 5)])), (ca 0, .inl (G.2.2.1, 103, .inr (.inl (mV T)))), (ca 1, .inl (G.2.2.1, 103, .inr (.inl (cpu f1_ (mV T) i_))))] → va_S A s.heap Hq lcq → ∀ ls : Array Slot, lv_has ls 8 [(3, .int (nI i_)), (0, .ref y_), (1, .int (nI k_)), (2, .int (nI w_))] → W p l e ({ frames := 2, cells := 0, slots := 0, locals := 51 }) s m args below meth c Hq lcq 0 0 (MQ below (cr_Q G RR A) args s 0 0 A) (F0 m 2 ls []) := by
    intro n_2
    induction n_2 with
    | zero => intro i_ hmu_2; exact absurd hmu_2 (Nat.not_lt_zero _)
    | succ n_2 ih_2 =>
      intro i_ hmu_2 ji Hq lcq hP hD hS ls hl
      refine lv_iload_n hx hb dX7_byPrinting_2 rfl (lv_at hl 0 rfl) ?_
      refine lv_bipush (v := nI 103) hx hb dX7_byPrinting_3 (by decide) ?_
      refine ks_icmp_ge (tgt := 26) hx hb dX7_byPrinting_5 (by decide) (by omega) (by omega) (fun c_5 => ?_) (fun c_5 => ?_)
      · obtain rfl : i_ = 103 := by omega
        have hP := hP.cgJ 2 (g := mV (rwN T 0)) rfl (fun q9 h9 => cpu_lo h9)
        have hD := hD.set (p := 2) (e := .inl (G.2.2.1, 103, .inr <| .inl (mV (rwN T 0)))) rfl
        have hP : va_P G.1 vwCl [(y_, .inr (7, [.ref (ca 0), .ref (ca 1), .ref (ca 2), .int (nI ke), .ref (ca 3), .int (nI ty_), .int (nI th), .int (nI po), .int (bI fl_), .ref (ca 4), .int (nI tl), .ref (ca 5)])), (ca 0, .inl (G.2.2.1, 103, .inr (.inl (mV T)))), (ca 1, .inl (G.2.2.1, 103, .inr (.inl (mV (rwN T 0)))))] _ := hP
        have hD : va_D A [(y_, .inr (7, [.ref (ca 0), .ref (ca 1), .ref (ca 2), .int (nI ke), .ref (ca 3), .int (nI ty_), .int (nI th), .int (nI po), .int (bI fl_), .ref (ca 4), .int (nI tl), .ref (ca 5)])), (ca 0, .inl (G.2.2.1, 103, .inr (.inl (mV T)))), (ca 1, .inl (G.2.2.1, 103, .inr (.inl (mV (rwN T 0)))))] := hD
        refine lv_lconst (v := lN 0) hx hb dX7_byPrinting_26 rfl ?_
        refine lv_lstore_n (lv' := [(3, .long (lN 0)), (0, .ref y_), (1, .int (nI k_)), (2, .int (nI w_))]) hx hb dX7_byPrinting_27 rfl hl (by decide) rfl (fun ls hl => ?_)
        refine lv_iconst (v := nI 0) hx hb dX7_byPrinting_28 (by decide) ?_
        refine lv_istore (lv' := [(5, .int (nI 0)), (3, .long (lN 0)), (0, .ref y_), (1, .int (nI k_)), (2, .int (nI w_))]) hx hb dX7_byPrinting_29 hl (by decide) rfl (fun ls hl => ?_)
        refine lv_iconst (v := nI 0) hx hb dX7_byPrinting_31 (by decide) ?_
        refine lv_istore (lv' := [(6, .int (nI 0)), (5, .int (nI 0)), (3, .long (lN 0)), (0, .ref y_), (1, .int (nI k_)), (2, .int (nI w_))]) hx hb dX7_byPrinting_32 hl (by decide) rfl (fun ls hl => ?_)
        refine lv_iconst (v := nI 0) hx hb dX7_byPrinting_34 (by decide) ?_
        refine lv_istore (lv' := [(7, .int (nI 0)), (6, .int (nI 0)), (5, .int (nI 0)), (3, .long (lN 0)), (0, .ref y_), (1, .int (nI k_)), (2, .int (nI w_))]) hx hb dX7_byPrinting_35 hl (by decide) rfl (fun ls hl => ?_)
        have L_37 : ∀ (n_37 : Nat) (i_ : Nat) (nu : Int64) (_ : 41 - i_ < n_37) (ji : i_ ≤ k_) (jnu : 0 < i_ → nu = (stN T (i_ - 1)).r 0) (Hq : Heap) (lcq : List Loc), va_P G.1 vwCl [(y_, .inr (7, [.ref (ca 0), .ref (ca 1), .ref (ca 2), .int (nI ke), .ref (ca 3), .int (nI ty_), .int (nI th), .int (nI po), .int (bI fl_), .ref (ca 4), .int (nI tl), .ref (ca 5)])), (ca 0, .inl (G.2.2.1, 103, .inr (.inl (mV T)))), (ca 1, .inl (G.2.2.1, 103, .inr (.inl (mV (rwN T i_)))))] Hq → va_D A [(y_, .inr (7, [.ref (ca 0), .ref (ca 1), .ref (ca 2), .int (nI ke), .ref (ca 3), .int (nI ty_), .int (nI th), .int (nI po), .int (bI fl_), .ref (ca 4), .int (nI tl), .ref (ca 5)])), (ca 0, .inl (G.2.2.1, 103, .inr (.inl (mV T)))), (ca 1, .inl (G.2.2.1, 103, .inr (.inl (mV (rwN T i_)))))] → va_S A s.heap Hq lcq → ∀ ls : Array Slot, lv_has ls 8 [(7, .int (nI i_)), (0, .ref y_), (1, .int (nI k_)), (2, .int (nI w_)), (3, .long nu), (5, .int (nI (blN T i_))), (6, .int (nI (ctN (fun q8 => (stN T q8).r 0 ≠ rvT T (T.s 4 + q8)) i_)))] → W p l e ({ frames := 2, cells := 0, slots := 0, locals := 51 }) s m args below meth c Hq lcq 0 0 (MQ below (cr_Q G RR A) args s 0 0 A) (F0 m 37 ls []) := by
          intro n_37
          induction n_37 with
          | zero => intro i_ nu hmu_37; exact absurd hmu_37 (Nat.not_lt_zero _)
          | succ n_37 ih_37 =>
            intro i_ nu hmu_37 ji jnu Hq lcq hP hD hS ls hl
            obtain ⟨z4, z3, z2, z1, -, -⟩ := stN_s (T := T) (k := i_)
            have zr := RB_st jr (k := i_) (by omega)
            have zx : (rwN T i_).r 0 = (stN T i_).r 0 := congrFun (rwN_e T i_).2.1 0
            have zs : (rwN T i_).s = (stN T i_).s := (rwN_e T i_).1
            have zw : (rwN T i_).w = (stN T i_).w := (rwN_e T i_).2.2
            have zv := rwN_v T i_
            have zb := rwN_b T i_
            have y4 := congrFun zs 4
            have y3 := congrFun zs 3
            have y2 := congrFun zs 2
            have y1 := congrFun zs 1
            have y5 := congrFun zs 5
            refine lv_iload hx hb dX7_byPrinting_37 (lv_at hl 0 rfl) ?_
            refine lv_iload_n hx hb dX7_byPrinting_39 rfl (lv_at hl 2 rfl) ?_
            refine ks_icmp_ge (tgt := 98) hx hb dX7_byPrinting_40 (by decide) (by omega) (by omega) (fun c_40 => ?_) (fun c_40 => ?_)
            · obtain rfl : k_ = i_ := by omega
              rcases (show w_ = 0 ∨ w_ = 1 ∨ w_ = 2 by omega) with rfl | rfl | rfl
              · refine lv_iload_n hx hb dX7_byPrinting_98 rfl (lv_at hl 3 rfl) ?_
                refine ks_if_ne (tgt := 106) hx hb dX7_byPrinting_99 (by decide) (by omega) (fun c_99 => ?_) (fun c_99 => ?_)
                · omega
                · refine lv_lload_n hx hb dX7_byPrinting_102 rfl (lv_at hl 4 rfl) ?_
                  refine lv_goto (tgt := 120) hx hb dX7_byPrinting_103 (by decide) ?_
                  exact cr_lret hx hb hr hlocks hK hP hD hS dX7_byPrinting_120 (by rw [hRR]; exact ⟨mV (rwN T k_), congrArg (fun z => some (Value.long z)) (jnu (by omega)), rfl⟩)
              · refine lv_iload_n hx hb dX7_byPrinting_98 rfl (lv_at hl 3 rfl) ?_
                refine ks_if_ne (tgt := 106) hx hb dX7_byPrinting_99 (by decide) (by omega) (fun c_99 => ?_) (fun c_99 => ?_)
                · refine lv_iload_n hx hb dX7_byPrinting_106 rfl (lv_at hl 3 rfl) ?_
                  refine lv_iconst (v := nI 1) hx hb dX7_byPrinting_107 (by decide) ?_
                  refine ks_icmp_ne (tgt := 117) hx hb dX7_byPrinting_108 (by decide) (by omega) (by omega) (fun c_108 => ?_) (fun c_108 => ?_)
                  · omega
                  · refine lv_iload hx hb dX7_byPrinting_111 (lv_at hl 5 rfl) ?_
                    refine ks_i2lN hx hb dX7_byPrinting_113 (Nat.lt_of_le_of_lt (blN_le T k_) (by omega)) ?_
                    refine lv_goto (tgt := 120) hx hb dX7_byPrinting_114 (by decide) ?_
                    exact cr_lret hx hb hr hlocks hK hP hD hS dX7_byPrinting_120 (by rw [hRR]; exact ⟨mV (rwN T k_), congrArg (fun z => some (Value.long z)) (rfl), rfl⟩)
                · omega
              · refine lv_iload_n hx hb dX7_byPrinting_98 rfl (lv_at hl 3 rfl) ?_
                refine ks_if_ne (tgt := 106) hx hb dX7_byPrinting_99 (by decide) (by omega) (fun c_99 => ?_) (fun c_99 => ?_)
                · refine lv_iload_n hx hb dX7_byPrinting_106 rfl (lv_at hl 3 rfl) ?_
                  refine lv_iconst (v := nI 1) hx hb dX7_byPrinting_107 (by decide) ?_
                  refine ks_icmp_ne (tgt := 117) hx hb dX7_byPrinting_108 (by decide) (by omega) (by omega) (fun c_108 => ?_) (fun c_108 => ?_)
                  · refine lv_iload hx hb dX7_byPrinting_117 (lv_at hl 6 rfl) ?_
                    refine ks_i2lN hx hb dX7_byPrinting_119 (Nat.lt_of_le_of_lt (ctN_le _ k_) (by omega)) ?_
                    exact cr_lret hx hb hr hlocks hK hP hD hS dX7_byPrinting_120 (by rw [hRR]; exact ⟨mV (rwN T k_), congrArg (fun z => some (Value.long z)) (rfl), rfl⟩)
                  · omega
                · omega
            · refine lv_aload_n hx hb dX7_byPrinting_43 rfl (lv_at hl 1 rfl) ?_
              refine va_get (D := G.1) (ci := 7) (v := .ref (ca 1)) (C := RX7) (T := TX7) (N := 12) hx hb hts hin7 hown hK hP 0 rfl rfl 1 (by decide) (hts (.fieldLink RX7 13 "PowerTablesModel" "then" "[J") (List.mem_of_getElem? (i := 1) rfl)) (fun _ h9 => h9) rfl dX7_byPrinting_44 ?_
              refine lv_bipush (v := nI 7) hx hb dX7_byPrinting_47 (by decide) ?_
              refine ks_lald hx hb hK hP 2 rfl (by omega) (by decide) dX7_byPrinting_49 ?_
              refine ks_vL (show mV (rwN T i_) 7 = (rwN T i_).r 0 from mV_r (j := 0) (by omega)) ?_
              refine lv_lstore_n (lv' := [(3, .long ((rwN T i_).r 0)), (7, .int (nI i_)), (0, .ref y_), (1, .int (nI k_)), (2, .int (nI w_)), (5, .int (nI (blN T i_))), (6, .int (nI (ctN (fun q8 => (stN T q8).r 0 ≠ rvT T (T.s 4 + q8)) i_)))]) hx hb dX7_byPrinting_50 rfl hl (by decide) rfl (fun ls hl => ?_)
              refine lv_iload hx hb dX7_byPrinting_51 (lv_at hl 6 rfl) ?_
              refine lv_lload_n hx hb dX7_byPrinting_53 rfl (lv_at hl 0 rfl) ?_
              refine lv_aload_n hx hb dX7_byPrinting_54 rfl (lv_at hl 2 rfl) ?_
              refine va_get (D := G.1) (ci := 7) (v := .ref (ca 1)) (C := RX7) (T := TX7) (N := 12) hx hb hts hin7 hown hK hP 0 rfl rfl 1 (by decide) (hts (.fieldLink RX7 13 "PowerTablesModel" "then" "[J") (List.mem_of_getElem? (i := 1) rfl)) (fun _ h9 => h9) rfl dX7_byPrinting_55 ?_
              refine lv_aload_n hx hb dX7_byPrinting_58 rfl (lv_at hl 2 rfl) ?_
              refine va_get (D := G.1) (ci := 7) (v := .ref (ca 1)) (C := RX7) (T := TX7) (N := 12) hx hb hts hin7 hown hK hP 0 rfl rfl 1 (by decide) (hts (.fieldLink RX7 13 "PowerTablesModel" "then" "[J") (List.mem_of_getElem? (i := 1) rfl)) (fun _ h9 => h9) rfl dX7_byPrinting_59 ?_
              refine lv_iconst (v := nI 4) hx hb dX7_byPrinting_62 (by decide) ?_
              refine ks_lald hx hb hK hP 2 rfl (by omega) (by decide) dX7_byPrinting_63 ?_
              refine ks_vL (show mV (rwN T i_) 4 = lN ((rwN T i_).s 4) from rfl) ?_
              refine ks_l2iN hx hb dX7_byPrinting_64 ?_
              refine cr_S (wr := [(y_, .inr (7, [.ref (ca 0), .ref (ca 1), .ref (ca 2), .int (nI ke), .ref (ca 3), .int (nI ty_), .int (nI th), .int (nI po), .int (bI fl_), .ref (ca 4), .int (nI tl), .ref (ca 5)])), (ca 0, .inl (G.2.2.1, 103, .inr (.inl (mV T))))]) (As := [.ref (ca 1), .int (nI ((rwN T i_).s 4))]) (rest := [.long ((rwN T i_).r 0), .int (nI (ctN (fun q8 => (stN T q8).r 0 ≠ rvT T (T.s 4 + q8)) i_))]) ⟨hx, hb, hml, hown, hts⟩ (c_X7_right G l (ca 1) (rwN T i_) ((rwN T i_).s 4) (by omega) (by omega) (by omega)) (va_cwS 2 hts gX7_byPrinting_X7_right rfl rfl rfl (by decide +kernel) ⟨Nat.le_of_ble_eq_true rfl, Nat.le_of_ble_eq_true rfl⟩) dX7_byPrinting_65 hK hNX hP hD hS hA hl [2] [0, 1] rfl rfl rfl rfl (by decide) rfl (Nat.le_of_ble_eq_true rfl) ⟨Nat.le_of_ble_eq_true rfl, Nat.le_of_ble_eq_true rfl⟩ rfl (fun v' w' Hq lcq hR' hP hD hS => ?_)
              obtain ⟨rfl, rfl⟩ := hR'
              have hP : va_P G.1 vwCl [(y_, .inr (7, [.ref (ca 0), .ref (ca 1), .ref (ca 2), .int (nI ke), .ref (ca 3), .int (nI ty_), .int (nI th), .int (nI po), .int (bI fl_), .ref (ca 4), .int (nI tl), .ref (ca 5)])), (ca 0, .inl (G.2.2.1, 103, .inr (.inl (mV T)))), (ca 1, .inl (G.2.2.1, 103, .inr (.inl (mV (rwN T i_)))))] _ := hP.sub [0, 1, 2] rfl
              have hD : va_D A [(y_, .inr (7, [.ref (ca 0), .ref (ca 1), .ref (ca 2), .int (nI ke), .ref (ca 3), .int (nI ty_), .int (nI th), .int (nI po), .int (bI fl_), .ref (ca 4), .int (nI tl), .ref (ca 5)])), (ca 0, .inl (G.2.2.1, 103, .inr (.inl (mV T)))), (ca 1, .inl (G.2.2.1, 103, .inr (.inl (mV (rwN T i_)))))] := hD.sub [0, 1, 2] (by decide +kernel) rfl
              refine ks_lc_ne (tgt := 76) hx hb dX7_byPrinting_68 dX7_byPrinting_69 (by decide) (fun c_68 => ?_) (fun c_68 => ?_)
              · refine lv_iconst (v := nI 1) hx hb dX7_byPrinting_76 (by decide) ?_
                refine ks_iaddN hx hb dX7_byPrinting_77 ?_
                refine ks_vI (show nI (ctN (fun q8 => (stN T q8).r 0 ≠ rvT T (T.s 4 + q8)) i_ + 1) = nI (ctN (fun q8 => (stN T q8).r 0 ≠ rvT T (T.s 4 + q8)) (i_ + 1)) from by rw [ctN_t (p := (fun q8 => (stN T q8).r 0 ≠ rvT T (T.s 4 + q8))) (show (stN T i_).r 0 ≠ rvT T (T.s 4 + i_) from zx ▸ zv ▸ c_68)]) ?_
                refine lv_istore (lv' := [(6, .int (nI (ctN (fun q8 => (stN T q8).r 0 ≠ rvT T (T.s 4 + q8)) (i_ + 1)))), (3, .long ((rwN T i_).r 0)), (7, .int (nI i_)), (0, .ref y_), (1, .int (nI k_)), (2, .int (nI w_)), (5, .int (nI (blN T i_)))]) hx hb dX7_byPrinting_78 hl (by decide) rfl (fun ls hl => ?_)
                refine lv_iload hx hb dX7_byPrinting_80 (lv_at hl 6 rfl) ?_
                refine lv_aload_n hx hb dX7_byPrinting_82 rfl (lv_at hl 3 rfl) ?_
                refine va_get (D := G.1) (ci := 7) (v := .ref (ca 1)) (C := RX7) (T := TX7) (N := 12) hx hb hts hin7 hown hK hP 0 rfl rfl 1 (by decide) (hts (.fieldLink RX7 13 "PowerTablesModel" "then" "[J") (List.mem_of_getElem? (i := 1) rfl)) (fun _ h9 => h9) rfl dX7_byPrinting_83 ?_
                refine cr_S (wr := [(y_, .inr (7, [.ref (ca 0), .ref (ca 1), .ref (ca 2), .int (nI ke), .ref (ca 3), .int (nI ty_), .int (nI th), .int (nI po), .int (bI fl_), .ref (ca 4), .int (nI tl), .ref (ca 5)])), (ca 0, .inl (G.2.2.1, 103, .inr (.inl (mV T))))]) (As := [.ref (ca 1)]) (rest := [.int (nI (blN T i_))]) ⟨hx, hb, hml, hown, hts⟩ (c_X7_rows G l (ca 1) (rwN T i_) (by rw [zx]; exact RB_ab zr (by omega) (by decide)) (fun d hd => by rw [zw]; exact Nat.lt_of_le_of_lt stN_w (by have := jw d hd; omega)) (by omega) (by rw [y5]; exact Nat.lt_of_le_of_lt stN_g (by omega))) (va_cwS 1 hts gX7_byPrinting_X7_rows rfl rfl rfl (by decide +kernel) ⟨Nat.le_of_ble_eq_true rfl, Nat.le_of_ble_eq_true rfl⟩) dX7_byPrinting_86 hK hNX hP hD hS hA hl [2] [0, 1] rfl rfl rfl rfl (by decide) rfl (Nat.le_of_ble_eq_true rfl) ⟨Nat.le_of_ble_eq_true rfl, Nat.le_of_ble_eq_true rfl⟩ rfl (fun v' w' Hq lcq hR' hP hD hS => ?_)
                obtain ⟨rfl, rfl⟩ := hR'
                have hP : va_P G.1 vwCl [(y_, .inr (7, [.ref (ca 0), .ref (ca 1), .ref (ca 2), .int (nI ke), .ref (ca 3), .int (nI ty_), .int (nI th), .int (nI po), .int (bI fl_), .ref (ca 4), .int (nI tl), .ref (ca 5)])), (ca 0, .inl (G.2.2.1, 103, .inr (.inl (mV T)))), (ca 1, .inl (G.2.2.1, 103, .inr (.inl (mV (rw7 (rwN T i_))))))] _ := hP.sub [0, 1, 2] rfl
                have hD : va_D A [(y_, .inr (7, [.ref (ca 0), .ref (ca 1), .ref (ca 2), .int (nI ke), .ref (ca 3), .int (nI ty_), .int (nI th), .int (nI po), .int (bI fl_), .ref (ca 4), .int (nI tl), .ref (ca 5)])), (ca 0, .inl (G.2.2.1, 103, .inr (.inl (mV T)))), (ca 1, .inl (G.2.2.1, 103, .inr (.inl (mV (rw7 (rwN T i_))))))] := hD.sub [0, 1, 2] (by decide +kernel) rfl
                refine ks_vI (show nI (prB (ab ((rwN T i_).r 0)) (rwN T i_).w ((rwN T i_).s 1)) = nI (prB (ab ((stN T i_).r 0)) (stN T i_).w ((stN T i_).s 1)) from congrArg nI zb) ?_
                refine ks_iaddN hx hb dX7_byPrinting_89 ?_
                refine lv_istore (lv' := [(5, .int (nI (blN T i_ + (prB (ab ((stN T i_).r 0)) (stN T i_).w ((stN T i_).s 1))))), (6, .int (nI (ctN (fun q8 => (stN T q8).r 0 ≠ rvT T (T.s 4 + q8)) (i_ + 1)))), (3, .long ((rwN T i_).r 0)), (7, .int (nI i_)), (0, .ref y_), (1, .int (nI k_)), (2, .int (nI w_))]) hx hb dX7_byPrinting_90 hl (by decide) rfl (fun ls hl => ?_)
                refine lv_iinc (v := nI (i_ + 1)) (lv' := [(7, .int (nI (i_ + 1))), (5, .int (nI (blN T i_ + (prB (ab ((stN T i_).r 0)) (stN T i_).w ((stN T i_).s 1))))), (6, .int (nI (ctN (fun q8 => (stN T q8).r 0 ≠ rvT T (T.s 4 + q8)) (i_ + 1)))), (3, .long ((rwN T i_).r 0)), (0, .ref y_), (1, .int (nI k_)), (2, .int (nI w_))]) hx hb dX7_byPrinting_92 hl (k := 3) rfl (ks_inc i_ 1) (by decide) rfl (fun ls hl => ?_)
                refine lv_goto (tgt := 37) hx hb dX7_byPrinting_95 (by decide) ?_
                exact ih_37  (i_ + 1) ((rwN T i_).r 0) (by omega) (by omega) (fun _ => zx) _ _ hP hD hS ls (lv_sub hl [0, 4, 5, 6, 3, 1, 2] rfl)
              · refine lv_iconst (v := nI 0) hx hb dX7_byPrinting_72 (by decide) ?_
                refine lv_goto (tgt := 77) hx hb dX7_byPrinting_73 (by decide) ?_
                refine ks_iaddN hx hb dX7_byPrinting_77 ?_
                refine ks_vI (show nI (ctN (fun q8 => (stN T q8).r 0 ≠ rvT T (T.s 4 + q8)) i_ + 0) = nI (ctN (fun q8 => (stN T q8).r 0 ≠ rvT T (T.s 4 + q8)) (i_ + 1)) from by rw [Nat.add_zero, ctN_f (p := (fun q8 => (stN T q8).r 0 ≠ rvT T (T.s 4 + q8))) (show ¬ (stN T i_).r 0 ≠ rvT T (T.s 4 + i_) from fun e => e (zx ▸ zv ▸ c_68))]) ?_
                refine lv_istore (lv' := [(6, .int (nI (ctN (fun q8 => (stN T q8).r 0 ≠ rvT T (T.s 4 + q8)) (i_ + 1)))), (3, .long ((rwN T i_).r 0)), (7, .int (nI i_)), (0, .ref y_), (1, .int (nI k_)), (2, .int (nI w_)), (5, .int (nI (blN T i_)))]) hx hb dX7_byPrinting_78 hl (by decide) rfl (fun ls hl => ?_)
                refine lv_iload hx hb dX7_byPrinting_80 (lv_at hl 6 rfl) ?_
                refine lv_aload_n hx hb dX7_byPrinting_82 rfl (lv_at hl 3 rfl) ?_
                refine va_get (D := G.1) (ci := 7) (v := .ref (ca 1)) (C := RX7) (T := TX7) (N := 12) hx hb hts hin7 hown hK hP 0 rfl rfl 1 (by decide) (hts (.fieldLink RX7 13 "PowerTablesModel" "then" "[J") (List.mem_of_getElem? (i := 1) rfl)) (fun _ h9 => h9) rfl dX7_byPrinting_83 ?_
                refine cr_S (wr := [(y_, .inr (7, [.ref (ca 0), .ref (ca 1), .ref (ca 2), .int (nI ke), .ref (ca 3), .int (nI ty_), .int (nI th), .int (nI po), .int (bI fl_), .ref (ca 4), .int (nI tl), .ref (ca 5)])), (ca 0, .inl (G.2.2.1, 103, .inr (.inl (mV T))))]) (As := [.ref (ca 1)]) (rest := [.int (nI (blN T i_))]) ⟨hx, hb, hml, hown, hts⟩ (c_X7_rows G l (ca 1) (rwN T i_) (by rw [zx]; exact RB_ab zr (by omega) (by decide)) (fun d hd => by rw [zw]; exact Nat.lt_of_le_of_lt stN_w (by have := jw d hd; omega)) (by omega) (by rw [y5]; exact Nat.lt_of_le_of_lt stN_g (by omega))) (va_cwS 1 hts gX7_byPrinting_X7_rows rfl rfl rfl (by decide +kernel) ⟨Nat.le_of_ble_eq_true rfl, Nat.le_of_ble_eq_true rfl⟩) dX7_byPrinting_86 hK hNX hP hD hS hA hl [2] [0, 1] rfl rfl rfl rfl (by decide) rfl (Nat.le_of_ble_eq_true rfl) ⟨Nat.le_of_ble_eq_true rfl, Nat.le_of_ble_eq_true rfl⟩ rfl (fun v' w' Hq lcq hR' hP hD hS => ?_)
                obtain ⟨rfl, rfl⟩ := hR'
                have hP : va_P G.1 vwCl [(y_, .inr (7, [.ref (ca 0), .ref (ca 1), .ref (ca 2), .int (nI ke), .ref (ca 3), .int (nI ty_), .int (nI th), .int (nI po), .int (bI fl_), .ref (ca 4), .int (nI tl), .ref (ca 5)])), (ca 0, .inl (G.2.2.1, 103, .inr (.inl (mV T)))), (ca 1, .inl (G.2.2.1, 103, .inr (.inl (mV (rw7 (rwN T i_))))))] _ := hP.sub [0, 1, 2] rfl
                have hD : va_D A [(y_, .inr (7, [.ref (ca 0), .ref (ca 1), .ref (ca 2), .int (nI ke), .ref (ca 3), .int (nI ty_), .int (nI th), .int (nI po), .int (bI fl_), .ref (ca 4), .int (nI tl), .ref (ca 5)])), (ca 0, .inl (G.2.2.1, 103, .inr (.inl (mV T)))), (ca 1, .inl (G.2.2.1, 103, .inr (.inl (mV (rw7 (rwN T i_))))))] := hD.sub [0, 1, 2] (by decide +kernel) rfl
                refine ks_vI (show nI (prB (ab ((rwN T i_).r 0)) (rwN T i_).w ((rwN T i_).s 1)) = nI (prB (ab ((stN T i_).r 0)) (stN T i_).w ((stN T i_).s 1)) from congrArg nI zb) ?_
                refine ks_iaddN hx hb dX7_byPrinting_89 ?_
                refine lv_istore (lv' := [(5, .int (nI (blN T i_ + (prB (ab ((stN T i_).r 0)) (stN T i_).w ((stN T i_).s 1))))), (6, .int (nI (ctN (fun q8 => (stN T q8).r 0 ≠ rvT T (T.s 4 + q8)) (i_ + 1)))), (3, .long ((rwN T i_).r 0)), (7, .int (nI i_)), (0, .ref y_), (1, .int (nI k_)), (2, .int (nI w_))]) hx hb dX7_byPrinting_90 hl (by decide) rfl (fun ls hl => ?_)
                refine lv_iinc (v := nI (i_ + 1)) (lv' := [(7, .int (nI (i_ + 1))), (5, .int (nI (blN T i_ + (prB (ab ((stN T i_).r 0)) (stN T i_).w ((stN T i_).s 1))))), (6, .int (nI (ctN (fun q8 => (stN T q8).r 0 ≠ rvT T (T.s 4 + q8)) (i_ + 1)))), (3, .long ((rwN T i_).r 0)), (0, .ref y_), (1, .int (nI k_)), (2, .int (nI w_))]) hx hb dX7_byPrinting_92 hl (k := 3) rfl (ks_inc i_ 1) (by decide) rfl (fun ls hl => ?_)
                refine lv_goto (tgt := 37) hx hb dX7_byPrinting_95 (by decide) ?_
                exact ih_37  (i_ + 1) ((rwN T i_).r 0) (by omega) (by omega) (fun _ => zx) _ _ hP hD hS ls (lv_sub hl [0, 4, 5, 6, 3, 1, 2] rfl)
        exact L_37 _ 0 (lN 0) (Nat.lt_succ_self _) (by omega) (fun z => absurd z (Nat.lt_irrefl 0)) _ _ hP hD hS ls (lv_sub hl [0, 4, 5, 6, 3, 2, 1] rfl)
      · refine lv_aload_n hx hb dX7_byPrinting_8 rfl (lv_at hl 1 rfl) ?_
        refine va_get (D := G.1) (ci := 7) (v := .ref (ca 1)) (C := RX7) (T := TX7) (N := 12) hx hb hts hin7 hown hK hP 0 rfl rfl 1 (by decide) (hts (.fieldLink RX7 13 "PowerTablesModel" "then" "[J") (List.mem_of_getElem? (i := 1) rfl)) (fun _ h9 => h9) rfl dX7_byPrinting_9 ?_
        refine lv_iload_n hx hb dX7_byPrinting_12 rfl (lv_at hl 0 rfl) ?_
        refine lv_aload_n hx hb dX7_byPrinting_13 rfl (lv_at hl 1 rfl) ?_
        refine va_get (D := G.1) (ci := 7) (v := .ref (ca 0)) (C := RX7) (T := TX7) (N := 12) hx hb hts hin7 hown hK hP 0 rfl rfl 0 (by decide) (hts (.fieldLink RX7 7 "PowerTablesModel" "now" "[J") (List.mem_of_getElem? (i := 2) rfl)) (fun _ h9 => h9) rfl dX7_byPrinting_14 ?_
        refine lv_iload_n hx hb dX7_byPrinting_17 rfl (lv_at hl 0 rfl) ?_
        refine ks_lald hx hb hK hP 1 rfl (by omega) (by decide) dX7_byPrinting_18 ?_
        refine ks_vL (show mV T i_ = mV T i_ from rfl) ?_
        refine ks_last (f' := cpu f1_ (mV T) (i_ + 1)) hx hb hK hP hD hS 2 rfl (by omega) (by decide) (cpu_sL f1_ (mV T) i_) dX7_byPrinting_19 (fun Hq lcq hP hD hS => ?_)
        have hP : va_P G.1 vwCl [(y_, .inr (7, [.ref (ca 0), .ref (ca 1), .ref (ca 2), .int (nI ke), .ref (ca 3), .int (nI ty_), .int (nI th), .int (nI po), .int (bI fl_), .ref (ca 4), .int (nI tl), .ref (ca 5)])), (ca 0, .inl (G.2.2.1, 103, .inr (.inl (mV T)))), (ca 1, .inl (G.2.2.1, 103, .inr (.inl (cpu f1_ (mV T) (i_ + 1)))))] _ := hP
        have hD : va_D A [(y_, .inr (7, [.ref (ca 0), .ref (ca 1), .ref (ca 2), .int (nI ke), .ref (ca 3), .int (nI ty_), .int (nI th), .int (nI po), .int (bI fl_), .ref (ca 4), .int (nI tl), .ref (ca 5)])), (ca 0, .inl (G.2.2.1, 103, .inr (.inl (mV T)))), (ca 1, .inl (G.2.2.1, 103, .inr (.inl (cpu f1_ (mV T) (i_ + 1)))))] := hD
        refine lv_iinc (v := nI (i_ + 1)) (lv' := [(3, .int (nI (i_ + 1))), (0, .ref y_), (1, .int (nI k_)), (2, .int (nI w_))]) hx hb dX7_byPrinting_20 hl (k := 0) rfl (ks_inc i_ 1) (by decide) rfl (fun ls hl => ?_)
        refine lv_goto (tgt := 2) hx hb dX7_byPrinting_23 (by decide) ?_
        exact ih_2  (i_ + 1) (by omega) (by omega) _ _ hP hD hS ls (lv_sub hl [0, 1, 2, 3] rfl)
  rw [← cpu_0 f1_ (mV T)] at hP hD
  exact L_2 _ 0 (Nat.lt_succ_self _) (by omega) _ _ hP hD hS ls (lv_sub hl [0, 1, 2, 3] rfl)
set_option maxHeartbeats 4000000 in
set_option maxRecDepth 100000 in
theorem c_X7_ifPrinted (G : GG) (l : Launch) (y_ : Nat) (ca : Nat → Nat) (ke : Nat) (ty_ : Nat) (th : Nat) (po : Nat) (fl_ : Prop) (tl : Nat) (T : TS) (f1_ : Nat → Int64) (k_ : Nat) (w_ : Nat) (j1 : 1 ≤ k_) (j2_ : k_ ≤ 40) (jw3 : w_ < 3) (jr : RB (T.s 4) T.r) (jw : ∀ d, d < 10 → T.w d + 800 < 2 ^ 30) (jl : T.s 1 < 2 ^ 30) (jd : T.s 5 + 800 < 2 ^ 30) (jn4 : T.s 4 ≤ 40) (jf_ : T.s 3 ≤ 99) (jp : T.s 2 ≤ 5) : Cr G l yX7_ifPrinted wsX7_ifPrinted ({ frames := 3, cells := 0, slots := 0, locals := 78 }) 0 0 [.ref y_, .int (nI k_), .int (nI w_)] [(y_, .inr (7, [.ref (ca 0), .ref (ca 1), .ref (ca 2), .int (nI ke), .ref (ca 3), .int (nI ty_), .int (nI th), .int (nI po), .int (bI fl_), .ref (ca 4), .int (nI tl), .ref (ca 5)])), (ca 0, .inl (G.2.2.1, 103, .inr (.inl (mV T)))), (ca 1, .inl (G.2.2.1, 103, .inr (.inl (f1_))))] (fun (vv1 : Option Value) (ww1 : va_W) => ∃ (f2_ : Nat → Int64), vv1 = (some (.long (ipA T k_ w_))) ∧ ww1 = [(y_, .inr (7, [.ref (ca 0), .ref (ca 1), .ref (ca 2), .int (nI ke), .ref (ca 3), .int (nI ty_), .int (nI 0), .int (nI po), .int (bI fl_), .ref (ca 4), .int (nI tl), .ref (ca 5)])), (ca 0, .inl (G.2.2.1, 103, .inr (.inl (mV T)))), (ca 1, .inl (G.2.2.1, 103, .inr (.inl (f2_))))]) := by
  refine cr_intro (cc := cX7_ifPrinted) (maxL := 3) (ret := (some .long)) (own := RX7) (by decide) rfl rfl (Nat.le_of_ble_eq_true rfl) ?_
  intro p e s m args below meth c A hx hb hr hml hts hown hlocks hnm hNX hP hK hD hA hS ls hl
  obtain ⟨RR, hRR⟩ : ∃ RR, RR = (fun (vv1 : Option Value) (ww1 : va_W) => ∃ (f2_ : Nat → Int64), vv1 = (some (.long (ipA T k_ w_))) ∧ ww1 = [(y_, .inr (7, [.ref (ca 0), .ref (ca 1), .ref (ca 2), .int (nI ke), .ref (ca 3), .int (nI ty_), .int (nI 0), .int (nI po), .int (bI fl_), .ref (ca 4), .int (nI tl), .ref (ca 5)])), (ca 0, .inl (G.2.2.1, 103, .inr (.inl (mV T)))), (ca 1, .inl (G.2.2.1, 103, .inr (.inl (f2_))))]) := ⟨_, rfl⟩
  rw [← hRR]
  have hl : lv_has ls 3 [(0, .ref y_), (1, .int (nI k_)), (2, .int (nI w_))] := hl
  have hin7 : ∀ w_ ∈ u_ws RX7 TX7 12, w_ ∈ wsX7_ifPrinted := fun w_ h => List.mem_cons_of_mem _ (List.mem_append_right _ h)
  refine lv_aload_n hx hb dX7_ifPrinted_0 rfl (lv_at hl 0 rfl) ?_
  refine lv_iconst (v := nI 0) hx hb dX7_ifPrinted_1 (by decide) ?_
  refine va_put (D := G.1) (ci := 7) (v := .int (nI 0)) (ty := .int) (C := RX7) (T := TX7) (N := 12) hx hb hts hin7 tyX7 tyX7_ok nmX7 hown hK hP hD hS 0 rfl rfl 6 (by decide) (hts (.fieldLink RX7 39 "PowerTablesModel" "thrown" "I") (List.mem_of_getElem? (i := 1) rfl)) (fun _ h9 => h9) rfl (tyX7_ok 6 (by decide)) rfl rfl (Nat.le_of_ble_eq_true rfl) dX7_ifPrinted_2 (fun Hq lcq hP hD hS => ?_)
  have hP : va_P G.1 vwCl [(y_, .inr (7, [.ref (ca 0), .ref (ca 1), .ref (ca 2), .int (nI ke), .ref (ca 3), .int (nI ty_), .int (nI 0), .int (nI po), .int (bI fl_), .ref (ca 4), .int (nI tl), .ref (ca 5)])), (ca 0, .inl (G.2.2.1, 103, .inr (.inl (mV T)))), (ca 1, .inl (G.2.2.1, 103, .inr (.inl (f1_))))] _ := hP
  have hD : va_D A [(y_, .inr (7, [.ref (ca 0), .ref (ca 1), .ref (ca 2), .int (nI ke), .ref (ca 3), .int (nI ty_), .int (nI 0), .int (nI po), .int (bI fl_), .ref (ca 4), .int (nI tl), .ref (ca 5)])), (ca 0, .inl (G.2.2.1, 103, .inr (.inl (mV T)))), (ca 1, .inl (G.2.2.1, 103, .inr (.inl (f1_))))] := hD
  refine lv_iload_n hx hb dX7_ifPrinted_5 rfl (lv_at hl 1 rfl) ?_
  refine ks_i2lN hx hb dX7_ifPrinted_6 (by omega) ?_
  refine lv_lconst (v := lN 1) hx hb dX7_ifPrinted_7 rfl ?_
  refine lv_ldc2 hx hb hown (hts (.constantLong RX7 79 (40)) (List.mem_of_getElem? (i := 2) rfl)) dX7_ifPrinted_8 ?_
  refine ks_vL (show (40 : Int64) = lN 40 from rfl) ?_
  refine cr_S (wr := [(y_, .inr (7, [.ref (ca 0), .ref (ca 1), .ref (ca 2), .int (nI ke), .ref (ca 3), .int (nI ty_), .int (nI 0), .int (nI po), .int (bI fl_), .ref (ca 4), .int (nI tl), .ref (ca 5)])), (ca 0, .inl (G.2.2.1, 103, .inr (.inl (mV T)))), (ca 1, .inl (G.2.2.1, 103, .inr (.inl (f1_))))]) (As := [.long (lN k_), .long (lN 1), .long (lN 40)]) (rest := []) ⟨hx, hb, hml, hown, hts⟩ (c_X7_in__n G l k_ 1 40 (by omega) (by omega) (by omega)) (va_cwS 3 hts gX7_ifPrinted_X7_in rfl rfl rfl (by decide +kernel) ⟨Nat.le_of_ble_eq_true rfl, Nat.le_of_ble_eq_true rfl⟩) dX7_ifPrinted_11 hK hNX hP hD hS hA hl [] [0, 1, 2] rfl rfl rfl rfl (by decide) rfl (Nat.le_of_ble_eq_true rfl) ⟨Nat.le_of_ble_eq_true rfl, Nat.le_of_ble_eq_true rfl⟩ rfl (fun v' w' Hq lcq hR' hP hD hS => ?_)
  obtain ⟨rfl, rfl⟩ := hR'
  have hP : va_P G.1 vwCl [(y_, .inr (7, [.ref (ca 0), .ref (ca 1), .ref (ca 2), .int (nI ke), .ref (ca 3), .int (nI ty_), .int (nI 0), .int (nI po), .int (bI fl_), .ref (ca 4), .int (nI tl), .ref (ca 5)])), (ca 0, .inl (G.2.2.1, 103, .inr (.inl (mV T)))), (ca 1, .inl (G.2.2.1, 103, .inr (.inl (f1_))))] _ := hP.sub [0, 1, 2] rfl
  have hD : va_D A [(y_, .inr (7, [.ref (ca 0), .ref (ca 1), .ref (ca 2), .int (nI ke), .ref (ca 3), .int (nI ty_), .int (nI 0), .int (nI po), .int (bI fl_), .ref (ca 4), .int (nI tl), .ref (ca 5)])), (ca 0, .inl (G.2.2.1, 103, .inr (.inl (mV T)))), (ca 1, .inl (G.2.2.1, 103, .inr (.inl (f1_))))] := hD.sub [0, 1, 2] (by decide +kernel) rfl
  refine ks_ifb_eq (tgt := 38) hx hb dX7_ifPrinted_14 (by decide) (fun c_14 => ?_) (fun c_14 => ?_)
  · exact absurd ⟨j1, j2_⟩ c_14
  · refine lv_iload_n hx hb dX7_ifPrinted_17 rfl (lv_at hl 2 rfl) ?_
    refine ks_i2lN hx hb dX7_ifPrinted_18 (by omega) ?_
    refine lv_lconst (v := lN 0) hx hb dX7_ifPrinted_19 rfl ?_
    refine lv_ldc2 hx hb hown (hts (.constantLong RX7 33 (2)) (List.mem_of_getElem? (i := 3) rfl)) dX7_ifPrinted_20 ?_
    refine ks_vL (show (2 : Int64) = lN 2 from rfl) ?_
    refine cr_S (wr := [(y_, .inr (7, [.ref (ca 0), .ref (ca 1), .ref (ca 2), .int (nI ke), .ref (ca 3), .int (nI ty_), .int (nI 0), .int (nI po), .int (bI fl_), .ref (ca 4), .int (nI tl), .ref (ca 5)])), (ca 0, .inl (G.2.2.1, 103, .inr (.inl (mV T)))), (ca 1, .inl (G.2.2.1, 103, .inr (.inl (f1_))))]) (As := [.long (lN w_), .long (lN 0), .long (lN 2)]) (rest := []) ⟨hx, hb, hml, hown, hts⟩ (c_X7_in__n G l w_ 0 2 (by omega) (by omega) (by omega)) (va_cwS 3 hts gX7_ifPrinted_X7_in rfl rfl rfl (by decide +kernel) ⟨Nat.le_of_ble_eq_true rfl, Nat.le_of_ble_eq_true rfl⟩) dX7_ifPrinted_23 hK hNX hP hD hS hA hl [] [0, 1, 2] rfl rfl rfl rfl (by decide) rfl (Nat.le_of_ble_eq_true rfl) ⟨Nat.le_of_ble_eq_true rfl, Nat.le_of_ble_eq_true rfl⟩ rfl (fun v' w' Hq lcq hR' hP hD hS => ?_)
    obtain ⟨rfl, rfl⟩ := hR'
    have hP : va_P G.1 vwCl [(y_, .inr (7, [.ref (ca 0), .ref (ca 1), .ref (ca 2), .int (nI ke), .ref (ca 3), .int (nI ty_), .int (nI 0), .int (nI po), .int (bI fl_), .ref (ca 4), .int (nI tl), .ref (ca 5)])), (ca 0, .inl (G.2.2.1, 103, .inr (.inl (mV T)))), (ca 1, .inl (G.2.2.1, 103, .inr (.inl (f1_))))] _ := hP.sub [0, 1, 2] rfl
    have hD : va_D A [(y_, .inr (7, [.ref (ca 0), .ref (ca 1), .ref (ca 2), .int (nI ke), .ref (ca 3), .int (nI ty_), .int (nI 0), .int (nI po), .int (bI fl_), .ref (ca 4), .int (nI tl), .ref (ca 5)])), (ca 0, .inl (G.2.2.1, 103, .inr (.inl (mV T)))), (ca 1, .inl (G.2.2.1, 103, .inr (.inl (f1_))))] := hD.sub [0, 1, 2] (by decide +kernel) rfl
    refine ks_ifb_eq (tgt := 38) hx hb dX7_ifPrinted_26 (by decide) (fun c_26 => ?_) (fun c_26 => ?_)
    · exact absurd ⟨Nat.zero_le _, by omega⟩ c_26
    · refine lv_aload_n hx hb dX7_ifPrinted_29 rfl (lv_at hl 0 rfl) ?_
      refine lv_iload_n hx hb dX7_ifPrinted_30 rfl (lv_at hl 1 rfl) ?_
      refine lv_iload_n hx hb dX7_ifPrinted_31 rfl (lv_at hl 2 rfl) ?_
      refine cr_V (wr := []) (As := [.int (nI k_), .int (nI w_)]) (rest := []) ⟨hx, hb, hml, hown, hts⟩ (c_X7_byPrinting G l y_ ca ke ty_ 0 po fl_ tl T f1_ k_ w_ (by omega) (by omega) (by omega) (jr) (jw) (by omega) (by omega) (by omega) (by omega) (by omega)) (cwV 2 hts gX7_ifPrinted_X7_byPrinting rfl rfl rfl (by decide +kernel) ⟨Nat.le_of_ble_eq_true rfl, Nat.le_of_ble_eq_true rfl⟩) dX7_ifPrinted_32 hK hNX hP hD hS hA hl 0 7 rfl rfl rfl [0, 1, 2] [] rfl rfl rfl rfl (by decide) rfl (Nat.le_of_ble_eq_true rfl) ⟨Nat.le_of_ble_eq_true rfl, Nat.le_of_ble_eq_true rfl⟩ rfl (fun v' w' Hq lcq hR' hP hD hS => ?_)
      obtain ⟨f2_32, rfl, rfl⟩ := hR'
      have hP : va_P G.1 vwCl [(y_, .inr (7, [.ref (ca 0), .ref (ca 1), .ref (ca 2), .int (nI ke), .ref (ca 3), .int (nI ty_), .int (nI 0), .int (nI po), .int (bI fl_), .ref (ca 4), .int (nI tl), .ref (ca 5)])), (ca 0, .inl (G.2.2.1, 103, .inr (.inl (mV T)))), (ca 1, .inl (G.2.2.1, 103, .inr (.inl (f2_32))))] _ := hP.sub [0, 1, 2] rfl
      have hD : va_D A [(y_, .inr (7, [.ref (ca 0), .ref (ca 1), .ref (ca 2), .int (nI ke), .ref (ca 3), .int (nI ty_), .int (nI 0), .int (nI po), .int (bI fl_), .ref (ca 4), .int (nI tl), .ref (ca 5)])), (ca 0, .inl (G.2.2.1, 103, .inr (.inl (mV T)))), (ca 1, .inl (G.2.2.1, 103, .inr (.inl (f2_32))))] := hD.sub [0, 1, 2] (by decide +kernel) rfl
      refine lv_goto (tgt := 44) hx hb dX7_ifPrinted_35 (by decide) ?_
      exact cr_lret hx hb hr hlocks hK hP hD hS dX7_ifPrinted_44 (by rw [hRR]; exact ⟨f2_32, congrArg (fun z => some (Value.long z)) (rfl), rfl⟩)
set_option maxHeartbeats 4000000 in
set_option maxRecDepth 100000 in
theorem c_X7_ifPrinted__b1 (G : GG) (l : Launch) (y_ : Nat) (ca : Nat → Nat) (ke : Nat) (ty_ : Nat) (th : Nat) (po : Nat) (fl_ : Prop) (tl : Nat) (T : TS) (v_ : Int32) (u_ : Int32) (h8 : ¬ ((1 ≤ v_.toInt ∧ v_.toInt ≤ 40) ∧ (0 ≤ u_.toInt ∧ u_.toInt ≤ 2))) : Cr G l yX7_ifPrinted wsX7_ifPrinted ({ frames := 3, cells := 0, slots := 0, locals := 78 }) 0 0 [.ref y_, .int v_, .int u_] [(y_, .inr (7, [.ref (ca 0), .ref (ca 1), .ref (ca 2), .int (nI ke), .ref (ca 3), .int (nI ty_), .int (nI th), .int (nI po), .int (bI fl_), .ref (ca 4), .int (nI tl), .ref (ca 5)]))] (ctR (some (.long (lN 0))) [(y_, .inr (7, [.ref (ca 0), .ref (ca 1), .ref (ca 2), .int (nI ke), .ref (ca 3), .int (nI ty_), .int (nI 1), .int (nI po), .int (bI fl_), .ref (ca 4), .int (nI tl), .ref (ca 5)]))]) := by
  refine cr_intro (cc := cX7_ifPrinted) (maxL := 3) (ret := (some .long)) (own := RX7) (by decide) rfl rfl (Nat.le_of_ble_eq_true rfl) ?_
  intro p e s m args below meth c A hx hb hr hml hts hown hlocks hnm hNX hP hK hD hA hS ls hl
  obtain ⟨RR, hRR⟩ : ∃ RR, RR = (ctR (some (.long (lN 0))) [(y_, .inr (7, [.ref (ca 0), .ref (ca 1), .ref (ca 2), .int (nI ke), .ref (ca 3), .int (nI ty_), .int (nI 1), .int (nI po), .int (bI fl_), .ref (ca 4), .int (nI tl), .ref (ca 5)]))]) := ⟨_, rfl⟩
  rw [← hRR]
  have hl : lv_has ls 3 [(0, .ref y_), (1, .int v_), (2, .int u_)] := hl
  have hin7 : ∀ w ∈ u_ws RX7 TX7 12, w ∈ wsX7_ifPrinted := fun w h => List.mem_cons_of_mem _ (List.mem_append_right _ h)
  refine lv_aload_n hx hb dX7_ifPrinted_0 rfl (lv_at hl 0 rfl) ?_
  refine lv_iconst (v := nI 0) hx hb dX7_ifPrinted_1 (by decide) ?_
  refine va_put (D := G.1) (ci := 7) (v := .int (nI 0)) (ty := .int) (C := RX7) (T := TX7) (N := 12) hx hb hts hin7 tyX7 tyX7_ok nmX7 hown hK hP hD hS 0 rfl rfl 6 (by decide) (hts (.fieldLink RX7 39 "PowerTablesModel" "thrown" "I") (List.mem_of_getElem? (i := 1) rfl)) (fun _ h9 => h9) rfl (tyX7_ok 6 (by decide)) rfl rfl (Nat.le_of_ble_eq_true rfl) dX7_ifPrinted_2 (fun Hq lcq hP hD hS => ?_)
  have hP : va_P G.1 vwCl [(y_, .inr (7, [.ref (ca 0), .ref (ca 1), .ref (ca 2), .int (nI ke), .ref (ca 3), .int (nI ty_), .int (nI 0), .int (nI po), .int (bI fl_), .ref (ca 4), .int (nI tl), .ref (ca 5)]))] _ := hP
  have hD : va_D A [(y_, .inr (7, [.ref (ca 0), .ref (ca 1), .ref (ca 2), .int (nI ke), .ref (ca 3), .int (nI ty_), .int (nI 0), .int (nI po), .int (bI fl_), .ref (ca 4), .int (nI tl), .ref (ca 5)]))] := hD
  refine lv_iload_n hx hb dX7_ifPrinted_5 rfl (lv_at hl 1 rfl) ?_
  refine lv_i2l hx hb dX7_ifPrinted_6 rfl ?_
  refine lv_lconst (v := lN 1) hx hb dX7_ifPrinted_7 rfl ?_
  refine lv_ldc2 hx hb hown (hts (.constantLong RX7 79 (40)) (List.mem_of_getElem? (i := 2) rfl)) dX7_ifPrinted_8 ?_
  refine ks_vL (show (40 : Int64) = lN 40 from rfl) ?_
  refine cr_S (wr := [(y_, .inr (7, [.ref (ca 0), .ref (ca 1), .ref (ca 2), .int (nI ke), .ref (ca 3), .int (nI ty_), .int (nI 0), .int (nI po), .int (bI fl_), .ref (ca 4), .int (nI tl), .ref (ca 5)]))]) (As := [.long v_.toInt64, .long (lN 1), .long (lN 40)]) (rest := []) ⟨hx, hb, hml, hown, hts⟩ (c_X7_in__i G l v_ 1 40 (by omega) (by omega)) (va_cwS 3 hts gX7_ifPrinted_X7_in rfl rfl rfl (by decide +kernel) ⟨Nat.le_of_ble_eq_true rfl, Nat.le_of_ble_eq_true rfl⟩) dX7_ifPrinted_11 hK hNX hP hD hS hA hl [] [0] rfl rfl rfl rfl (by decide) rfl (Nat.le_of_ble_eq_true rfl) ⟨Nat.le_of_ble_eq_true rfl, Nat.le_of_ble_eq_true rfl⟩ rfl (fun v' w' Hq lcq hR' hP hD hS => ?_)
  obtain ⟨rfl, rfl⟩ := hR'
  have hP : va_P G.1 vwCl [(y_, .inr (7, [.ref (ca 0), .ref (ca 1), .ref (ca 2), .int (nI ke), .ref (ca 3), .int (nI ty_), .int (nI 0), .int (nI po), .int (bI fl_), .ref (ca 4), .int (nI tl), .ref (ca 5)]))] _ := hP.sub [0] rfl
  have hD : va_D A [(y_, .inr (7, [.ref (ca 0), .ref (ca 1), .ref (ca 2), .int (nI ke), .ref (ca 3), .int (nI ty_), .int (nI 0), .int (nI po), .int (bI fl_), .ref (ca 4), .int (nI tl), .ref (ca 5)]))] := hD.sub [0] (by decide +kernel) rfl
  refine ks_ifb_eq (tgt := 38) hx hb dX7_ifPrinted_14 (by decide) (fun c_14 => ?_) (fun c_14 => ?_)
  · refine lv_aload_n hx hb dX7_ifPrinted_38 rfl (lv_at hl 0 rfl) ?_
    refine lv_iconst (v := nI 1) hx hb dX7_ifPrinted_39 (by decide) ?_
    refine cr_V (wr := []) (As := [.int (nI 1)]) (rest := []) ⟨hx, hb, hml, hown, hts⟩ (c_X7_fails G l y_ ca ke ty_ 0 po fl_ tl 1 ) (cwV 1 hts gX7_ifPrinted_X7_fails rfl rfl rfl (by decide +kernel) ⟨Nat.le_of_ble_eq_true rfl, Nat.le_of_ble_eq_true rfl⟩) dX7_ifPrinted_40 hK hNX hP hD hS hA hl 0 7 rfl rfl rfl [0] [] rfl rfl rfl rfl (by decide) rfl (Nat.le_of_ble_eq_true rfl) ⟨Nat.le_of_ble_eq_true rfl, Nat.le_of_ble_eq_true rfl⟩ rfl (fun v' w' Hq lcq hR' hP hD hS => ?_)
    obtain ⟨rfl, rfl⟩ := hR'
    have hP : va_P G.1 vwCl [(y_, .inr (7, [.ref (ca 0), .ref (ca 1), .ref (ca 2), .int (nI ke), .ref (ca 3), .int (nI ty_), .int (nI 1), .int (nI po), .int (bI fl_), .ref (ca 4), .int (nI tl), .ref (ca 5)]))] _ := hP.sub [0] rfl
    have hD : va_D A [(y_, .inr (7, [.ref (ca 0), .ref (ca 1), .ref (ca 2), .int (nI ke), .ref (ca 3), .int (nI ty_), .int (nI 1), .int (nI po), .int (bI fl_), .ref (ca 4), .int (nI tl), .ref (ca 5)]))] := hD.sub [0] (by decide +kernel) rfl
    refine ks_i2lN hx hb dX7_ifPrinted_43 (by omega) ?_
    exact cr_lret hx hb hr hlocks hK hP hD hS dX7_ifPrinted_44 (by rw [hRR]; exact ctR_l (rfl) (rfl))
  · refine lv_iload_n hx hb dX7_ifPrinted_17 rfl (lv_at hl 2 rfl) ?_
    refine lv_i2l hx hb dX7_ifPrinted_18 rfl ?_
    refine lv_lconst (v := lN 0) hx hb dX7_ifPrinted_19 rfl ?_
    refine lv_ldc2 hx hb hown (hts (.constantLong RX7 33 (2)) (List.mem_of_getElem? (i := 3) rfl)) dX7_ifPrinted_20 ?_
    refine ks_vL (show (2 : Int64) = lN 2 from rfl) ?_
    refine cr_S (wr := [(y_, .inr (7, [.ref (ca 0), .ref (ca 1), .ref (ca 2), .int (nI ke), .ref (ca 3), .int (nI ty_), .int (nI 0), .int (nI po), .int (bI fl_), .ref (ca 4), .int (nI tl), .ref (ca 5)]))]) (As := [.long u_.toInt64, .long (lN 0), .long (lN 2)]) (rest := []) ⟨hx, hb, hml, hown, hts⟩ (c_X7_in__i G l u_ 0 2 (by omega) (by omega)) (va_cwS 3 hts gX7_ifPrinted_X7_in rfl rfl rfl (by decide +kernel) ⟨Nat.le_of_ble_eq_true rfl, Nat.le_of_ble_eq_true rfl⟩) dX7_ifPrinted_23 hK hNX hP hD hS hA hl [] [0] rfl rfl rfl rfl (by decide) rfl (Nat.le_of_ble_eq_true rfl) ⟨Nat.le_of_ble_eq_true rfl, Nat.le_of_ble_eq_true rfl⟩ rfl (fun v' w' Hq lcq hR' hP hD hS => ?_)
    obtain ⟨rfl, rfl⟩ := hR'
    have hP : va_P G.1 vwCl [(y_, .inr (7, [.ref (ca 0), .ref (ca 1), .ref (ca 2), .int (nI ke), .ref (ca 3), .int (nI ty_), .int (nI 0), .int (nI po), .int (bI fl_), .ref (ca 4), .int (nI tl), .ref (ca 5)]))] _ := hP.sub [0] rfl
    have hD : va_D A [(y_, .inr (7, [.ref (ca 0), .ref (ca 1), .ref (ca 2), .int (nI ke), .ref (ca 3), .int (nI ty_), .int (nI 0), .int (nI po), .int (bI fl_), .ref (ca 4), .int (nI tl), .ref (ca 5)]))] := hD.sub [0] (by decide +kernel) rfl
    refine ks_ifb_eq (tgt := 38) hx hb dX7_ifPrinted_26 (by decide) (fun c_26 => ?_) (fun c_26 => ?_)
    · refine lv_aload_n hx hb dX7_ifPrinted_38 rfl (lv_at hl 0 rfl) ?_
      refine lv_iconst (v := nI 1) hx hb dX7_ifPrinted_39 (by decide) ?_
      refine cr_V (wr := []) (As := [.int (nI 1)]) (rest := []) ⟨hx, hb, hml, hown, hts⟩ (c_X7_fails G l y_ ca ke ty_ 0 po fl_ tl 1 ) (cwV 1 hts gX7_ifPrinted_X7_fails rfl rfl rfl (by decide +kernel) ⟨Nat.le_of_ble_eq_true rfl, Nat.le_of_ble_eq_true rfl⟩) dX7_ifPrinted_40 hK hNX hP hD hS hA hl 0 7 rfl rfl rfl [0] [] rfl rfl rfl rfl (by decide) rfl (Nat.le_of_ble_eq_true rfl) ⟨Nat.le_of_ble_eq_true rfl, Nat.le_of_ble_eq_true rfl⟩ rfl (fun v' w' Hq lcq hR' hP hD hS => ?_)
      obtain ⟨rfl, rfl⟩ := hR'
      have hP : va_P G.1 vwCl [(y_, .inr (7, [.ref (ca 0), .ref (ca 1), .ref (ca 2), .int (nI ke), .ref (ca 3), .int (nI ty_), .int (nI 1), .int (nI po), .int (bI fl_), .ref (ca 4), .int (nI tl), .ref (ca 5)]))] _ := hP.sub [0] rfl
      have hD : va_D A [(y_, .inr (7, [.ref (ca 0), .ref (ca 1), .ref (ca 2), .int (nI ke), .ref (ca 3), .int (nI ty_), .int (nI 1), .int (nI po), .int (bI fl_), .ref (ca 4), .int (nI tl), .ref (ca 5)]))] := hD.sub [0] (by decide +kernel) rfl
      refine ks_i2lN hx hb dX7_ifPrinted_43 (by omega) ?_
      exact cr_lret hx hb hr hlocks hK hP hD hS dX7_ifPrinted_44 (by rw [hRR]; exact ctR_l (rfl) (rfl))
    · exact absurd ⟨c_14, c_26⟩ h8
set_option maxHeartbeats 4000000 in
set_option maxRecDepth 100000 in
theorem c_X7_findsAll (G : GG) (l : Launch) (y_ : Nat) (ca : Nat → Nat) (ke : Nat) (ty_ : Nat) (th : Nat) (po : Nat) (fl_ : Prop) (tl : Nat) (T : TS) (z_ : Nat) (jz : 1 ≤ z_) (jz2 : z_ ≤ 20) (jn4 : T.s 4 ≤ 40) (jf_ : T.s 3 ≤ 99) (jp : T.s 2 ≤ 5) : Cr G l yX7_findsAll wsX7_findsAll ({ frames := 3, cells := 0, slots := 0, locals := 76 }) 0 0 [.ref y_, .int (nI z_)] [(y_, .inr (7, [.ref (ca 0), .ref (ca 1), .ref (ca 2), .int (nI ke), .ref (ca 3), .int (nI ty_), .int (nI th), .int (nI po), .int (bI fl_), .ref (ca 4), .int (nI tl), .ref (ca 5)])), (ca 0, .inl (G.2.2.1, 103, .inr (.inl (mV T))))] (ctR (some (.int (bI (fnA T.p (rvT T) (T.s 4) z_)))) [(y_, .inr (7, [.ref (ca 0), .ref (ca 1), .ref (ca 2), .int (nI ke), .ref (ca 3), .int (nI ty_), .int (nI th), .int (nI po), .int (bI fl_), .ref (ca 4), .int (nI tl), .ref (ca 5)])), (ca 0, .inl (G.2.2.1, 103, .inr (.inl (mV T))))]) := by
  refine cr_intro (cc := cX7_findsAll) (maxL := 4) (ret := (some .boolean)) (own := RX7) (by decide) rfl rfl (Nat.le_of_ble_eq_true rfl) ?_
  intro p e s m args below meth c A hx hb hr hml hts hown hlocks hnm hNX hP hK hD hA hS ls hl
  obtain ⟨RR, hRR⟩ : ∃ RR, RR = (ctR (some (.int (bI (fnA T.p (rvT T) (T.s 4) z_)))) [(y_, .inr (7, [.ref (ca 0), .ref (ca 1), .ref (ca 2), .int (nI ke), .ref (ca 3), .int (nI ty_), .int (nI th), .int (nI po), .int (bI fl_), .ref (ca 4), .int (nI tl), .ref (ca 5)])), (ca 0, .inl (G.2.2.1, 103, .inr (.inl (mV T))))]) := ⟨_, rfl⟩
  rw [← hRR]
  have hl : lv_has ls 4 [(0, .ref y_), (1, .int (nI z_))] := hl
  have hin7 : ∀ w ∈ u_ws RX7 TX7 12, w ∈ wsX7_findsAll := fun w h => List.mem_cons_of_mem _ (List.mem_append_right _ h)
  refine lv_iconst (v := nI 1) hx hb dX7_findsAll_0 (by decide) ?_
  refine lv_istore_n (lv' := [(2, .int (nI 1)), (0, .ref y_), (1, .int (nI z_))]) hx hb dX7_findsAll_1 rfl hl (by decide) rfl (fun ls hl => ?_)
  refine lv_iconst (v := nI 0) hx hb dX7_findsAll_2 (by decide) ?_
  refine lv_istore_n (lv' := [(3, .int (nI 0)), (2, .int (nI 1)), (0, .ref y_), (1, .int (nI z_))]) hx hb dX7_findsAll_3 rfl hl (by decide) rfl (fun ls hl => ?_)
  have L_4 : ∀ (n_4 : Nat) (r_ : Nat) (is9 : Nat) (_ : 41 - r_ < n_4) (jr : r_ ≤ T.s 4) (jis : is9 = b01 (∀ k, k < r_ → okR T.p (rvT T) (T.s 4) z_ k)) (Hq : Heap) (lcq : List Loc), va_P G.1 vwCl [(y_, .inr (7, [.ref (ca 0), .ref (ca 1), .ref (ca 2), .int (nI ke), .ref (ca 3), .int (nI ty_), .int (nI th), .int (nI po), .int (bI fl_), .ref (ca 4), .int (nI tl), .ref (ca 5)])), (ca 0, .inl (G.2.2.1, 103, .inr (.inl (mV T))))] Hq → va_D A [(y_, .inr (7, [.ref (ca 0), .ref (ca 1), .ref (ca 2), .int (nI ke), .ref (ca 3), .int (nI ty_), .int (nI th), .int (nI po), .int (bI fl_), .ref (ca 4), .int (nI tl), .ref (ca 5)])), (ca 0, .inl (G.2.2.1, 103, .inr (.inl (mV T))))] → va_S A s.heap Hq lcq → ∀ ls : Array Slot, lv_has ls 4 [(3, .int (nI r_)), (0, .ref y_), (1, .int (nI z_)), (2, .int (nI is9))] → W p l e ({ frames := 3, cells := 0, slots := 0, locals := 76 }) s m args below meth c Hq lcq 0 0 (MQ below (cr_Q G RR A) args s 0 0 A) (F0 m 4 ls []) := by
    intro n_4
    induction n_4 with
    | zero => intro r_ is9 hmu_4; exact absurd hmu_4 (Nat.not_lt_zero _)
    | succ n_4 ih_4 =>
      intro r_ is9 hmu_4 jr jis Hq lcq hP hD hS ls hl
      refine lv_iload_n hx hb dX7_findsAll_4 rfl (lv_at hl 0 rfl) ?_
      refine ks_i2lN hx hb dX7_findsAll_5 (by omega) ?_
      refine lv_aload_n hx hb dX7_findsAll_6 rfl (lv_at hl 1 rfl) ?_
      refine va_get (D := G.1) (ci := 7) (v := .ref (ca 0)) (C := RX7) (T := TX7) (N := 12) hx hb hts hin7 hown hK hP 0 rfl rfl 0 (by decide) (hts (.fieldLink RX7 7 "PowerTablesModel" "now" "[J") (List.mem_of_getElem? (i := 1) rfl)) (fun _ h9 => h9) rfl dX7_findsAll_7 ?_
      refine lv_iconst (v := nI 4) hx hb dX7_findsAll_10 (by decide) ?_
      refine ks_lald hx hb hK hP 1 rfl (by omega) (by decide) dX7_findsAll_11 ?_
      refine ks_vL (show mV T 4 = lN (T.s 4) from rfl) ?_
      refine ks_lcN_ge (tgt := 67) hx hb dX7_findsAll_12 dX7_findsAll_13 (by decide) (by omega) (by omega) (fun c_12 => ?_) (fun c_12 => ?_)
      · obtain rfl : r_ = T.s 4 := by omega
        refine lv_iload_n hx hb dX7_findsAll_67 rfl (lv_at hl 3 rfl) ?_
        refine ks_vI (show nI is9 = bI (fnA T.p (rvT T) (T.s 4) z_) from by rw [jis, b01_bI]; exact bI_eq (fna_iff jz)) ?_
        exact cr_zret hx hb hr hlocks hK hP hD hS bI_nar dX7_findsAll_68 (by rw [hRR]; exact ctR_i (rfl) (rfl))
      · refine lv_iload_n hx hb dX7_findsAll_16 rfl (lv_at hl 3 rfl) ?_
        refine ks_if_eq (tgt := 59) hx hb dX7_findsAll_17 (by decide) (by have z9 := b01_le (∀ k, k < r_ → okR T.p (rvT T) (T.s 4) z_ k); omega) (fun c_17 => ?_) (fun c_17 => ?_)
        · have e1_ : 0 = b01 (∀ k, k < (r_ + 1) → okR T.p (rvT T) (T.s 4) z_ k) := fa_0 jis c_17
          refine lv_iconst (v := nI 0) hx hb dX7_findsAll_59 (by decide) ?_
          refine lv_istore_n (lv' := [(2, .int (nI 0)), (3, .int (nI r_)), (0, .ref y_), (1, .int (nI z_))]) hx hb dX7_findsAll_60 rfl hl (by decide) rfl (fun ls hl => ?_)
          refine lv_iinc (v := nI (r_ + 1)) (lv' := [(3, .int (nI (r_ + 1))), (2, .int (nI 0)), (0, .ref y_), (1, .int (nI z_))]) hx hb dX7_findsAll_61 hl (k := 1) rfl (ks_inc r_ 1) (by decide) rfl (fun ls hl => ?_)
          refine lv_goto (tgt := 4) hx hb dX7_findsAll_64 (by decide) ?_
          exact ih_4  (r_ + 1) 0 (by omega) (by omega) (e1_) _ _ hP hD hS ls (lv_sub hl [0, 2, 3, 1] rfl)
        · have jdv : r_ / z_ ≤ r_ := Nat.div_le_self _ _
          have jdw : T.s 4 / z_ ≤ T.s 4 := Nat.div_le_self _ _
          refine lv_aload_n hx hb dX7_findsAll_20 rfl (lv_at hl 1 rfl) ?_
          refine lv_iload_n hx hb dX7_findsAll_21 rfl (lv_at hl 0 rfl) ?_
          refine cr_V (wr := []) (As := [.int (nI r_)]) (rest := []) ⟨hx, hb, hml, hown, hts⟩ (c_X7_error G l y_ ca ke ty_ th po fl_ tl T r_ (by omega) (by omega) (by omega)) (cwV 1 hts gX7_findsAll_X7_error rfl rfl rfl (by decide +kernel) ⟨Nat.le_of_ble_eq_true rfl, Nat.le_of_ble_eq_true rfl⟩) dX7_findsAll_22 hK hNX hP hD hS hA hl 0 7 rfl rfl rfl [0, 1] [] rfl rfl rfl rfl (by decide) rfl (Nat.le_of_ble_eq_true rfl) ⟨Nat.le_of_ble_eq_true rfl, Nat.le_of_ble_eq_true rfl⟩ rfl (fun v' w' Hq lcq hR' hP hD hS => ?_)
          obtain ⟨rfl, rfl⟩ := hR'
          have hP : va_P G.1 vwCl [(y_, .inr (7, [.ref (ca 0), .ref (ca 1), .ref (ca 2), .int (nI ke), .ref (ca 3), .int (nI ty_), .int (nI th), .int (nI po), .int (bI fl_), .ref (ca 4), .int (nI tl), .ref (ca 5)])), (ca 0, .inl (G.2.2.1, 103, .inr (.inl (mV T))))] _ := hP.sub [0, 1] rfl
          have hD : va_D A [(y_, .inr (7, [.ref (ca 0), .ref (ca 1), .ref (ca 2), .int (nI ke), .ref (ca 3), .int (nI ty_), .int (nI th), .int (nI po), .int (bI fl_), .ref (ca 4), .int (nI tl), .ref (ca 5)])), (ca 0, .inl (G.2.2.1, 103, .inr (.inl (mV T))))] := hD.sub [0, 1] (by decide +kernel) rfl
          refine lv_lconst (v := lN 0) hx hb dX7_findsAll_25 rfl ?_
          refine ks_lc_eq (tgt := 55) hx hb dX7_findsAll_26 dX7_findsAll_27 (by decide) (fun c_26 => ?_) (fun c_26 => ?_)
          · have e1_ : 1 = b01 (∀ k, k < (r_ + 1) → okR T.p (rvT T) (T.s 4) z_ k) := fa_y jis c_17 (Or.inl (er_eq.mp c_26))
            refine lv_iconst (v := nI 1) hx hb dX7_findsAll_55 (by decide) ?_
            refine lv_goto (tgt := 60) hx hb dX7_findsAll_56 (by decide) ?_
            refine lv_istore_n (lv' := [(2, .int (nI 1)), (3, .int (nI r_)), (0, .ref y_), (1, .int (nI z_))]) hx hb dX7_findsAll_60 rfl hl (by decide) rfl (fun ls hl => ?_)
            refine lv_iinc (v := nI (r_ + 1)) (lv' := [(3, .int (nI (r_ + 1))), (2, .int (nI 1)), (0, .ref y_), (1, .int (nI z_))]) hx hb dX7_findsAll_61 hl (k := 1) rfl (ks_inc r_ 1) (by decide) rfl (fun ls hl => ?_)
            refine lv_goto (tgt := 4) hx hb dX7_findsAll_64 (by decide) ?_
            exact ih_4  (r_ + 1) 1 (by omega) (by omega) (e1_) _ _ hP hD hS ls (lv_sub hl [0, 2, 3, 1] rfl)
          · refine lv_iload_n hx hb dX7_findsAll_30 rfl (lv_at hl 0 rfl) ?_
            refine lv_iload_n hx hb dX7_findsAll_31 rfl (lv_at hl 2 rfl) ?_
            refine ks_idivN hx hb dX7_findsAll_32 (by omega) (by omega) (by omega) ?_
            refine lv_aload_n hx hb dX7_findsAll_33 rfl (lv_at hl 1 rfl) ?_
            refine lv_iload_n hx hb dX7_findsAll_34 rfl (lv_at hl 2 rfl) ?_
            refine cr_V (wr := []) (As := [.int (nI z_)]) (rest := [.int (nI (r_ / z_))]) ⟨hx, hb, hml, hown, hts⟩ (c_X7_groups G l y_ ca ke ty_ th po fl_ tl T z_ (by omega) (by omega) (by omega)) (cwV 1 hts gX7_findsAll_X7_groups rfl rfl rfl (by decide +kernel) ⟨Nat.le_of_ble_eq_true rfl, Nat.le_of_ble_eq_true rfl⟩) dX7_findsAll_35 hK hNX hP hD hS hA hl 0 7 rfl rfl rfl [0, 1] [] rfl rfl rfl rfl (by decide) rfl (Nat.le_of_ble_eq_true rfl) ⟨Nat.le_of_ble_eq_true rfl, Nat.le_of_ble_eq_true rfl⟩ rfl (fun v' w' Hq lcq hR' hP hD hS => ?_)
            obtain ⟨rfl, rfl⟩ := hR'
            have hP : va_P G.1 vwCl [(y_, .inr (7, [.ref (ca 0), .ref (ca 1), .ref (ca 2), .int (nI ke), .ref (ca 3), .int (nI ty_), .int (nI th), .int (nI po), .int (bI fl_), .ref (ca 4), .int (nI tl), .ref (ca 5)])), (ca 0, .inl (G.2.2.1, 103, .inr (.inl (mV T))))] _ := hP.sub [0, 1] rfl
            have hD : va_D A [(y_, .inr (7, [.ref (ca 0), .ref (ca 1), .ref (ca 2), .int (nI ke), .ref (ca 3), .int (nI ty_), .int (nI th), .int (nI po), .int (bI fl_), .ref (ca 4), .int (nI tl), .ref (ca 5)])), (ca 0, .inl (G.2.2.1, 103, .inr (.inl (mV T))))] := hD.sub [0, 1] (by decide +kernel) rfl
            refine ks_icmp_ge (tgt := 59) hx hb dX7_findsAll_38 (by decide) (by omega) (by omega) (fun c_38 => ?_) (fun c_38 => ?_)
            · have e1_ : 0 = b01 (∀ k, k < (r_ + 1) → okR T.p (rvT T) (T.s 4) z_ k) := fa_n (fun w9 => w9.elim (fun e => c_26 (er_eq.mpr e)) (fun e => absurd e.1 (Nat.not_lt.mpr c_38)))
              refine lv_iconst (v := nI 0) hx hb dX7_findsAll_59 (by decide) ?_
              refine lv_istore_n (lv' := [(2, .int (nI 0)), (3, .int (nI r_)), (0, .ref y_), (1, .int (nI z_))]) hx hb dX7_findsAll_60 rfl hl (by decide) rfl (fun ls hl => ?_)
              refine lv_iinc (v := nI (r_ + 1)) (lv' := [(3, .int (nI (r_ + 1))), (2, .int (nI 0)), (0, .ref y_), (1, .int (nI z_))]) hx hb dX7_findsAll_61 hl (k := 1) rfl (ks_inc r_ 1) (by decide) rfl (fun ls hl => ?_)
              refine lv_goto (tgt := 4) hx hb dX7_findsAll_64 (by decide) ?_
              exact ih_4  (r_ + 1) 0 (by omega) (by omega) (e1_) _ _ hP hD hS ls (lv_sub hl [0, 2, 3, 1] rfl)
            · have jq9 := gq_le c_38
              refine lv_aload_n hx hb dX7_findsAll_41 rfl (lv_at hl 1 rfl) ?_
              refine lv_iload_n hx hb dX7_findsAll_42 rfl (lv_at hl 2 rfl) ?_
              refine lv_iload_n hx hb dX7_findsAll_43 rfl (lv_at hl 0 rfl) ?_
              refine lv_iload_n hx hb dX7_findsAll_44 rfl (lv_at hl 2 rfl) ?_
              refine ks_idivN hx hb dX7_findsAll_45 (by omega) (by omega) (by omega) ?_
              refine lv_iconst (v := nI 2) hx hb dX7_findsAll_46 (by decide) ?_
              refine cr_V (wr := []) (As := [.int (nI z_), .int (nI (r_ / z_)), .int (nI 2)]) (rest := []) ⟨hx, hb, hml, hown, hts⟩ (c_X7_ofGroup G l y_ ca ke ty_ th po fl_ tl T z_ (r_ / z_) 2 (by omega) (by omega) (by omega) (by omega)) (cwV 3 hts gX7_findsAll_X7_ofGroup rfl rfl rfl (by decide +kernel) ⟨Nat.le_of_ble_eq_true rfl, Nat.le_of_ble_eq_true rfl⟩) dX7_findsAll_47 hK hNX hP hD hS hA hl 0 7 rfl rfl rfl [0, 1] [] rfl rfl rfl rfl (by decide) rfl (Nat.le_of_ble_eq_true rfl) ⟨Nat.le_of_ble_eq_true rfl, Nat.le_of_ble_eq_true rfl⟩ rfl (fun v' w' Hq lcq hR' hP hD hS => ?_)
              obtain ⟨rfl, rfl⟩ := hR'
              have hP : va_P G.1 vwCl [(y_, .inr (7, [.ref (ca 0), .ref (ca 1), .ref (ca 2), .int (nI ke), .ref (ca 3), .int (nI ty_), .int (nI th), .int (nI po), .int (bI fl_), .ref (ca 4), .int (nI tl), .ref (ca 5)])), (ca 0, .inl (G.2.2.1, 103, .inr (.inl (mV T))))] _ := hP.sub [0, 1] rfl
              have hD : va_D A [(y_, .inr (7, [.ref (ca 0), .ref (ca 1), .ref (ca 2), .int (nI ke), .ref (ca 3), .int (nI ty_), .int (nI th), .int (nI po), .int (bI fl_), .ref (ca 4), .int (nI tl), .ref (ca 5)])), (ca 0, .inl (G.2.2.1, 103, .inr (.inl (mV T))))] := hD.sub [0, 1] (by decide +kernel) rfl
              refine ks_vL (show ofG T.p (rvT T) z_ (r_ / z_) 2 = lN (b01 (gwr T.p (rvT T) (r_ / z_) z_)) from ofG_2 _ _ _ _) ?_
              refine lv_lconst (v := lN 1) hx hb dX7_findsAll_50 rfl ?_
              refine ks_lcN_ne (tgt := 59) hx hb dX7_findsAll_51 dX7_findsAll_52 (by decide) (Nat.lt_of_le_of_lt (b01_le _) (by decide)) (by omega) (fun c_51 => ?_) (fun c_51 => ?_)
              · have e1_ : 0 = b01 (∀ k, k < (r_ + 1) → okR T.p (rvT T) (T.s 4) z_ k) := fa_n (fun w9 => w9.elim (fun e => c_26 (er_eq.mpr e)) (fun e => c_51 (b01_t e.2)))
                refine lv_iconst (v := nI 0) hx hb dX7_findsAll_59 (by decide) ?_
                refine lv_istore_n (lv' := [(2, .int (nI 0)), (3, .int (nI r_)), (0, .ref y_), (1, .int (nI z_))]) hx hb dX7_findsAll_60 rfl hl (by decide) rfl (fun ls hl => ?_)
                refine lv_iinc (v := nI (r_ + 1)) (lv' := [(3, .int (nI (r_ + 1))), (2, .int (nI 0)), (0, .ref y_), (1, .int (nI z_))]) hx hb dX7_findsAll_61 hl (k := 1) rfl (ks_inc r_ 1) (by decide) rfl (fun ls hl => ?_)
                refine lv_goto (tgt := 4) hx hb dX7_findsAll_64 (by decide) ?_
                exact ih_4  (r_ + 1) 0 (by omega) (by omega) (e1_) _ _ hP hD hS ls (lv_sub hl [0, 2, 3, 1] rfl)
              · have e1_ : 1 = b01 (∀ k, k < (r_ + 1) → okR T.p (rvT T) (T.s 4) z_ k) := fa_y jis c_17 (Or.inr ⟨c_38, b01_y c_51.symm (by decide)⟩)
                refine lv_iconst (v := nI 1) hx hb dX7_findsAll_55 (by decide) ?_
                refine lv_goto (tgt := 60) hx hb dX7_findsAll_56 (by decide) ?_
                refine lv_istore_n (lv' := [(2, .int (nI 1)), (3, .int (nI r_)), (0, .ref y_), (1, .int (nI z_))]) hx hb dX7_findsAll_60 rfl hl (by decide) rfl (fun ls hl => ?_)
                refine lv_iinc (v := nI (r_ + 1)) (lv' := [(3, .int (nI (r_ + 1))), (2, .int (nI 1)), (0, .ref y_), (1, .int (nI z_))]) hx hb dX7_findsAll_61 hl (k := 1) rfl (ks_inc r_ 1) (by decide) rfl (fun ls hl => ?_)
                refine lv_goto (tgt := 4) hx hb dX7_findsAll_64 (by decide) ?_
                exact ih_4  (r_ + 1) 1 (by omega) (by omega) (e1_) _ _ hP hD hS ls (lv_sub hl [0, 2, 3, 1] rfl)
  exact L_4 _ 0 1 (Nat.lt_succ_self _) (by omega) ((b01_t (fun k hk => absurd hk (Nat.not_lt_zero _))).symm) _ _ hP hD hS ls (lv_sub hl [0, 2, 3, 1] rfl)
set_option maxHeartbeats 4000000 in
set_option maxRecDepth 100000 in
theorem c_X7_largest (G : GG) (l : Launch) (y_ : Nat) (ca : Nat → Nat) (ke : Nat) (ty_ : Nat) (th : Nat) (po : Nat) (fl_ : Prop) (tl : Nat) (T : TS) (jn4 : T.s 4 ≤ 40) (jf_ : T.s 3 ≤ 99) (jp : T.s 2 ≤ 5) : Cr G l yX7_largest wsX7_largest ({ frames := 4, cells := 0, slots := 0, locals := 99 }) 0 0 [.ref y_] [(y_, .inr (7, [.ref (ca 0), .ref (ca 1), .ref (ca 2), .int (nI ke), .ref (ca 3), .int (nI ty_), .int (nI th), .int (nI po), .int (bI fl_), .ref (ca 4), .int (nI tl), .ref (ca 5)])), (ca 0, .inl (G.2.2.1, 103, .inr (.inl (mV T))))] (ctR (some (.int (nI (bgF T (rvT T) 20)))) [(y_, .inr (7, [.ref (ca 0), .ref (ca 1), .ref (ca 2), .int (nI ke), .ref (ca 3), .int (nI ty_), .int (nI th), .int (nI po), .int (bI fl_), .ref (ca 4), .int (nI tl), .ref (ca 5)])), (ca 0, .inl (G.2.2.1, 103, .inr (.inl (mV T))))]) := by
  refine cr_intro (cc := cX7_largest) (maxL := 2) (ret := (some .int)) (own := RX7) (by decide) rfl rfl (Nat.le_of_ble_eq_true rfl) ?_
  intro p e s m args below meth c A hx hb hr hml hts hown hlocks hnm hNX hP hK hD hA hS ls hl
  obtain ⟨RR, hRR⟩ : ∃ RR, RR = (ctR (some (.int (nI (bgF T (rvT T) 20)))) [(y_, .inr (7, [.ref (ca 0), .ref (ca 1), .ref (ca 2), .int (nI ke), .ref (ca 3), .int (nI ty_), .int (nI th), .int (nI po), .int (bI fl_), .ref (ca 4), .int (nI tl), .ref (ca 5)])), (ca 0, .inl (G.2.2.1, 103, .inr (.inl (mV T))))]) := ⟨_, rfl⟩
  rw [← hRR]
  have hl : lv_has ls 2 [(0, .ref y_)] := hl
  refine lv_bipush (v := nI 20) hx hb dX7_largest_0 (by decide) ?_
  refine lv_istore_n (lv' := [(1, .int (nI 20)), (0, .ref y_)]) hx hb dX7_largest_2 rfl hl (by decide) rfl (fun ls hl => ?_)
  have L_3 : ∀ (n_3 : Nat) (i_ : Nat) (_ : i_ < n_3) (ji : i_ ≤ 20) (jb : bgF T (rvT T) 20 = bgF T (rvT T) i_) (Hq : Heap) (lcq : List Loc), va_P G.1 vwCl [(y_, .inr (7, [.ref (ca 0), .ref (ca 1), .ref (ca 2), .int (nI ke), .ref (ca 3), .int (nI ty_), .int (nI th), .int (nI po), .int (bI fl_), .ref (ca 4), .int (nI tl), .ref (ca 5)])), (ca 0, .inl (G.2.2.1, 103, .inr (.inl (mV T))))] Hq → va_D A [(y_, .inr (7, [.ref (ca 0), .ref (ca 1), .ref (ca 2), .int (nI ke), .ref (ca 3), .int (nI ty_), .int (nI th), .int (nI po), .int (bI fl_), .ref (ca 4), .int (nI tl), .ref (ca 5)])), (ca 0, .inl (G.2.2.1, 103, .inr (.inl (mV T))))] → va_S A s.heap Hq lcq → ∀ ls : Array Slot, lv_has ls 2 [(1, .int (nI i_)), (0, .ref y_)] → W p l e ({ frames := 4, cells := 0, slots := 0, locals := 99 }) s m args below meth c Hq lcq 0 0 (MQ below (cr_Q G RR A) args s 0 0 A) (F0 m 3 ls []) := by
    intro n_3
    induction n_3 with
    | zero => intro i_ hmu_3; exact absurd hmu_3 (Nat.not_lt_zero _)
    | succ n_3 ih_3 =>
      intro i_ hmu_3 ji jb Hq lcq hP hD hS ls hl
      refine lv_iload_n hx hb dX7_largest_3 rfl (lv_at hl 0 rfl) ?_
      refine ks_if_le (tgt := 21) hx hb dX7_largest_4 (by decide) (by omega) (fun c_4 => ?_) (fun c_4 => ?_)
      · have e1_ : nI i_ = nI (bgF T (rvT T) 20) := congrArg nI (by rw [jb, show i_ = 0 by omega]; rfl)
        refine lv_iload_n hx hb dX7_largest_21 rfl (lv_at hl 0 rfl) ?_
        exact cr_iret hx hb hr hlocks hK hP hD hS dX7_largest_22 (by rw [hRR]; exact ctR_i (e1_) (rfl))
      · refine lv_aload_n hx hb dX7_largest_7 rfl (lv_at hl 1 rfl) ?_
        refine lv_iload_n hx hb dX7_largest_8 rfl (lv_at hl 0 rfl) ?_
        refine cr_V (wr := []) (As := [.int (nI i_)]) (rest := []) ⟨hx, hb, hml, hown, hts⟩ (c_X7_findsAll G l y_ ca ke ty_ th po fl_ tl T i_ (by omega) (by omega) (by omega) (by omega) (by omega)) (cwV 1 hts gX7_largest_X7_findsAll rfl rfl rfl (by decide +kernel) ⟨Nat.le_of_ble_eq_true rfl, Nat.le_of_ble_eq_true rfl⟩) dX7_largest_9 hK hNX hP hD hS hA hl 0 7 rfl rfl rfl [0, 1] [] rfl rfl rfl rfl (by decide) rfl (Nat.le_of_ble_eq_true rfl) ⟨Nat.le_of_ble_eq_true rfl, Nat.le_of_ble_eq_true rfl⟩ rfl (fun v' w' Hq lcq hR' hP hD hS => ?_)
        obtain ⟨rfl, rfl⟩ := hR'
        have hP : va_P G.1 vwCl [(y_, .inr (7, [.ref (ca 0), .ref (ca 1), .ref (ca 2), .int (nI ke), .ref (ca 3), .int (nI ty_), .int (nI th), .int (nI po), .int (bI fl_), .ref (ca 4), .int (nI tl), .ref (ca 5)])), (ca 0, .inl (G.2.2.1, 103, .inr (.inl (mV T))))] _ := hP.sub [0, 1] rfl
        have hD : va_D A [(y_, .inr (7, [.ref (ca 0), .ref (ca 1), .ref (ca 2), .int (nI ke), .ref (ca 3), .int (nI ty_), .int (nI th), .int (nI po), .int (bI fl_), .ref (ca 4), .int (nI tl), .ref (ca 5)])), (ca 0, .inl (G.2.2.1, 103, .inr (.inl (mV T))))] := hD.sub [0, 1] (by decide +kernel) rfl
        refine ks_ifb_ne (tgt := 21) hx hb dX7_largest_12 (by decide) (fun c_12 => ?_) (fun c_12 => ?_)
        · have e1_ : nI i_ = nI (bgF T (rvT T) 20) := by rw [jb]; exact congrArg nI (bgF_t2 (by omega) c_12).symm
          refine lv_iload_n hx hb dX7_largest_21 rfl (lv_at hl 0 rfl) ?_
          exact cr_iret hx hb hr hlocks hK hP hD hS dX7_largest_22 (by rw [hRR]; exact ctR_i (e1_) (rfl))
        · refine lv_iinc (v := nI (i_ - 1)) (lv' := [(1, .int (nI (i_ - 1))), (0, .ref y_)]) hx hb dX7_largest_15 hl (k := 0) rfl (ks_dec (by omega)) (by decide) rfl (fun ls hl => ?_)
          refine lv_goto (tgt := 3) hx hb dX7_largest_18 (by decide) ?_
          exact ih_3  (i_ - 1) (by omega) (by omega) (jb.trans (bgF_f2 (by omega) c_12)) _ _ hP hD hS ls (lv_sub hl [0, 1] rfl)
  exact L_3 _ 20 (Nat.lt_succ_self _) (by omega) (rfl) _ _ hP hD hS ls (lv_sub hl [0, 1] rfl)
set_option maxHeartbeats 4000000 in
set_option maxRecDepth 100000 in
theorem c_X7_bestGroup (G : GG) (l : Launch) (y_ : Nat) (ca : Nat → Nat) (ke : Nat) (ty_ : Nat) (th : Nat) (po : Nat) (fl_ : Prop) (tl : Nat) (T : TS) (jn4 : T.s 4 ≤ 40) (jf_ : T.s 3 ≤ 99) (jp : T.s 2 ≤ 5) : Cr G l yX7_bestGroup wsX7_bestGroup ({ frames := 5, cells := 0, slots := 0, locals := 120 }) 0 0 [.ref y_] [(y_, .inr (7, [.ref (ca 0), .ref (ca 1), .ref (ca 2), .int (nI ke), .ref (ca 3), .int (nI ty_), .int (nI th), .int (nI po), .int (bI fl_), .ref (ca 4), .int (nI tl), .ref (ca 5)])), (ca 0, .inl (G.2.2.1, 103, .inr (.inl (mV T))))] (ctR (some (.int (nI (bgF T (rvT T) 20)))) [(y_, .inr (7, [.ref (ca 0), .ref (ca 1), .ref (ca 2), .int (nI ke), .ref (ca 3), .int (nI ty_), .int (nI 0), .int (nI po), .int (bI fl_), .ref (ca 4), .int (nI tl), .ref (ca 5)])), (ca 0, .inl (G.2.2.1, 103, .inr (.inl (mV T))))]) := by
  refine cr_intro (cc := cX7_bestGroup) (maxL := 1) (ret := (some .int)) (own := RX7) (by decide) rfl rfl (Nat.le_of_ble_eq_true rfl) ?_
  intro p e s m args below meth c A hx hb hr hml hts hown hlocks hnm hNX hP hK hD hA hS ls hl
  obtain ⟨RR, hRR⟩ : ∃ RR, RR = (ctR (some (.int (nI (bgF T (rvT T) 20)))) [(y_, .inr (7, [.ref (ca 0), .ref (ca 1), .ref (ca 2), .int (nI ke), .ref (ca 3), .int (nI ty_), .int (nI 0), .int (nI po), .int (bI fl_), .ref (ca 4), .int (nI tl), .ref (ca 5)])), (ca 0, .inl (G.2.2.1, 103, .inr (.inl (mV T))))]) := ⟨_, rfl⟩
  rw [← hRR]
  have hl : lv_has ls 1 [(0, .ref y_)] := hl
  have hin7 : ∀ w ∈ u_ws RX7 TX7 12, w ∈ wsX7_bestGroup := fun w h => List.mem_cons_of_mem _ (List.mem_append_right _ h)
  refine lv_aload_n hx hb dX7_bestGroup_0 rfl (lv_at hl 0 rfl) ?_
  refine lv_iconst (v := nI 0) hx hb dX7_bestGroup_1 (by decide) ?_
  refine va_put (D := G.1) (ci := 7) (v := .int (nI 0)) (ty := .int) (C := RX7) (T := TX7) (N := 12) hx hb hts hin7 tyX7 tyX7_ok nmX7 hown hK hP hD hS 0 rfl rfl 6 (by decide) (hts (.fieldLink RX7 39 "PowerTablesModel" "thrown" "I") (List.mem_of_getElem? (i := 1) rfl)) (fun _ h9 => h9) rfl (tyX7_ok 6 (by decide)) rfl rfl (Nat.le_of_ble_eq_true rfl) dX7_bestGroup_2 (fun Hq lcq hP hD hS => ?_)
  have hP : va_P G.1 vwCl [(y_, .inr (7, [.ref (ca 0), .ref (ca 1), .ref (ca 2), .int (nI ke), .ref (ca 3), .int (nI ty_), .int (nI 0), .int (nI po), .int (bI fl_), .ref (ca 4), .int (nI tl), .ref (ca 5)])), (ca 0, .inl (G.2.2.1, 103, .inr (.inl (mV T))))] _ := hP
  have hD : va_D A [(y_, .inr (7, [.ref (ca 0), .ref (ca 1), .ref (ca 2), .int (nI ke), .ref (ca 3), .int (nI ty_), .int (nI 0), .int (nI po), .int (bI fl_), .ref (ca 4), .int (nI tl), .ref (ca 5)])), (ca 0, .inl (G.2.2.1, 103, .inr (.inl (mV T))))] := hD
  refine lv_aload_n hx hb dX7_bestGroup_5 rfl (lv_at hl 0 rfl) ?_
  refine cr_V (wr := []) (As := []) (rest := []) ⟨hx, hb, hml, hown, hts⟩ (c_X7_largest G l y_ ca ke ty_ 0 po fl_ tl T (by omega) (by omega) (by omega)) (cwV 0 hts gX7_bestGroup_X7_largest rfl rfl rfl (by decide +kernel) ⟨Nat.le_of_ble_eq_true rfl, Nat.le_of_ble_eq_true rfl⟩) dX7_bestGroup_6 hK hNX hP hD hS hA hl 0 7 rfl rfl rfl [0, 1] [] rfl rfl rfl rfl (by decide) rfl (Nat.le_of_ble_eq_true rfl) ⟨Nat.le_of_ble_eq_true rfl, Nat.le_of_ble_eq_true rfl⟩ rfl (fun v' w' Hq lcq hR' hP hD hS => ?_)
  obtain ⟨rfl, rfl⟩ := hR'
  have hP : va_P G.1 vwCl [(y_, .inr (7, [.ref (ca 0), .ref (ca 1), .ref (ca 2), .int (nI ke), .ref (ca 3), .int (nI ty_), .int (nI 0), .int (nI po), .int (bI fl_), .ref (ca 4), .int (nI tl), .ref (ca 5)])), (ca 0, .inl (G.2.2.1, 103, .inr (.inl (mV T))))] _ := hP.sub [0, 1] rfl
  have hD : va_D A [(y_, .inr (7, [.ref (ca 0), .ref (ca 1), .ref (ca 2), .int (nI ke), .ref (ca 3), .int (nI ty_), .int (nI 0), .int (nI po), .int (bI fl_), .ref (ca 4), .int (nI tl), .ref (ca 5)])), (ca 0, .inl (G.2.2.1, 103, .inr (.inl (mV T))))] := hD.sub [0, 1] (by decide +kernel) rfl
  exact cr_iret hx hb hr hlocks hK hP hD hS dX7_bestGroup_9 (by rw [hRR]; exact ctR_i (rfl) (rfl))
set_option maxHeartbeats 4000000 in
set_option maxRecDepth 100000 in
theorem c_X7_worn (G : GG) (l : Launch) (y_ : Nat) (ca : Nat → Nat) (ke : Nat) (ty_ : Nat) (th : Nat) (po : Nat) (fl_ : Prop) (tl : Nat) (T : TS) (jw : ∀ d, d < 10 → T.w d < 2 ^ 30) : Cr G l yX7_worn wsX7_worn ({ frames := 0, cells := 0, slots := 0, locals := 0 }) 0 0 [.ref y_] [(y_, .inr (7, [.ref (ca 0), .ref (ca 1), .ref (ca 2), .int (nI ke), .ref (ca 3), .int (nI ty_), .int (nI th), .int (nI po), .int (bI fl_), .ref (ca 4), .int (nI tl), .ref (ca 5)])), (ca 0, .inl (G.2.2.1, 103, .inr (.inl (mV T))))] (ctR (some (.int (nI (mwF T.w 9)))) [(y_, .inr (7, [.ref (ca 0), .ref (ca 1), .ref (ca 2), .int (nI ke), .ref (ca 3), .int (nI ty_), .int (nI th), .int (nI po), .int (bI fl_), .ref (ca 4), .int (nI tl), .ref (ca 5)])), (ca 0, .inl (G.2.2.1, 103, .inr (.inl (mV T))))]) := by
  refine cr_intro (cc := cX7_worn) (maxL := 3) (ret := (some .int)) (own := RX7) (by decide) rfl rfl (Nat.le_of_ble_eq_true rfl) ?_
  intro p e s m args below meth c A hx hb hr hml hts hown hlocks hnm hNX hP hK hD hA hS ls hl
  obtain ⟨RR, hRR⟩ : ∃ RR, RR = (ctR (some (.int (nI (mwF T.w 9)))) [(y_, .inr (7, [.ref (ca 0), .ref (ca 1), .ref (ca 2), .int (nI ke), .ref (ca 3), .int (nI ty_), .int (nI th), .int (nI po), .int (bI fl_), .ref (ca 4), .int (nI tl), .ref (ca 5)])), (ca 0, .inl (G.2.2.1, 103, .inr (.inl (mV T))))]) := ⟨_, rfl⟩
  rw [← hRR]
  have hl : lv_has ls 3 [(0, .ref y_)] := hl
  have hin7 : ∀ w ∈ u_ws RX7 TX7 12, w ∈ wsX7_worn := fun w h => List.mem_cons_of_mem _ (List.mem_append_right _ h)
  refine lv_iconst (v := nI 0) hx hb dX7_worn_0 (by decide) ?_
  refine lv_istore_n (lv' := [(1, .int (nI 0)), (0, .ref y_)]) hx hb dX7_worn_1 rfl hl (by decide) rfl (fun ls hl => ?_)
  refine lv_iconst (v := nI 1) hx hb dX7_worn_2 (by decide) ?_
  refine lv_istore_n (lv' := [(2, .int (nI 1)), (1, .int (nI 0)), (0, .ref y_)]) hx hb dX7_worn_3 rfl hl (by decide) rfl (fun ls hl => ?_)
  have L_4 : ∀ (n_4 : Nat) (i_ : Nat) (mo : Nat) (_ : 10 - i_ < n_4) (ji : i_ ≤ 9) (jm : mo = mwF T.w i_) (jm2 : mo ≤ i_) (Hq : Heap) (lcq : List Loc), va_P G.1 vwCl [(y_, .inr (7, [.ref (ca 0), .ref (ca 1), .ref (ca 2), .int (nI ke), .ref (ca 3), .int (nI ty_), .int (nI th), .int (nI po), .int (bI fl_), .ref (ca 4), .int (nI tl), .ref (ca 5)])), (ca 0, .inl (G.2.2.1, 103, .inr (.inl (mV T))))] Hq → va_D A [(y_, .inr (7, [.ref (ca 0), .ref (ca 1), .ref (ca 2), .int (nI ke), .ref (ca 3), .int (nI ty_), .int (nI th), .int (nI po), .int (bI fl_), .ref (ca 4), .int (nI tl), .ref (ca 5)])), (ca 0, .inl (G.2.2.1, 103, .inr (.inl (mV T))))] → va_S A s.heap Hq lcq → ∀ ls : Array Slot, lv_has ls 3 [(2, .int (nI (i_ + 1))), (0, .ref y_), (1, .int (nI mo))] → W p l e ({ frames := 0, cells := 0, slots := 0, locals := 0 }) s m args below meth c Hq lcq 0 0 (MQ below (cr_Q G RR A) args s 0 0 A) (F0 m 4 ls []) := by
    intro n_4
    induction n_4 with
    | zero => intro i_ mo hmu_4; exact absurd hmu_4 (Nat.not_lt_zero _)
    | succ n_4 ih_4 =>
      intro i_ mo hmu_4 ji jm jm2 Hq lcq hP hD hS ls hl
      refine lv_iload_n hx hb dX7_worn_4 rfl (lv_at hl 0 rfl) ?_
      refine lv_bipush (v := nI 10) hx hb dX7_worn_5 (by decide) ?_
      refine ks_icmp_ge (tgt := 44) hx hb dX7_worn_7 (by decide) (by omega) (by omega) (fun c_7 => ?_) (fun c_7 => ?_)
      · obtain rfl : i_ = 9 := by omega
        refine lv_iload_n hx hb dX7_worn_44 rfl (lv_at hl 2 rfl) ?_
        exact cr_iret hx hb hr hlocks hK hP hD hS dX7_worn_45 (by rw [hRR]; exact ctR_i (by rw [jm]) (rfl))
      · refine lv_aload_n hx hb dX7_worn_10 rfl (lv_at hl 1 rfl) ?_
        refine va_get (D := G.1) (ci := 7) (v := .ref (ca 0)) (C := RX7) (T := TX7) (N := 12) hx hb hts hin7 hown hK hP 0 rfl rfl 0 (by decide) (hts (.fieldLink RX7 7 "PowerTablesModel" "now" "[J") (List.mem_of_getElem? (i := 1) rfl)) (fun _ h9 => h9) rfl dX7_worn_11 ?_
        refine lv_bipush (v := nI 13) hx hb dX7_worn_14 (by decide) ?_
        refine lv_iload_n hx hb dX7_worn_16 rfl (lv_at hl 0 rfl) ?_
        refine ks_iaddN hx hb dX7_worn_17 ?_
        refine ks_lald hx hb hK hP 1 rfl (by omega) (by decide) dX7_worn_18 ?_
        refine ks_vL (show mV T (13 + (i_ + 1)) = lN (T.w (i_ + 1)) from mV_w (j := (i_ + 1)) (by omega)) ?_
        refine lv_aload_n hx hb dX7_worn_19 rfl (lv_at hl 1 rfl) ?_
        refine va_get (D := G.1) (ci := 7) (v := .ref (ca 0)) (C := RX7) (T := TX7) (N := 12) hx hb hts hin7 hown hK hP 0 rfl rfl 0 (by decide) (hts (.fieldLink RX7 7 "PowerTablesModel" "now" "[J") (List.mem_of_getElem? (i := 1) rfl)) (fun _ h9 => h9) rfl dX7_worn_20 ?_
        refine lv_bipush (v := nI 13) hx hb dX7_worn_23 (by decide) ?_
        refine lv_iload_n hx hb dX7_worn_25 rfl (lv_at hl 2 rfl) ?_
        refine ks_iaddN hx hb dX7_worn_26 ?_
        refine ks_lald hx hb hK hP 1 rfl (by omega) (by decide) dX7_worn_27 ?_
        refine ks_vL (show mV T (13 + mo) = lN (T.w mo) from mV_w (j := mo) (by omega)) ?_
        refine ks_lcN_le (tgt := 36) hx hb dX7_worn_28 dX7_worn_29 (by decide) (Nat.lt_trans (jw _ (by omega)) (by decide)) (Nat.lt_trans (jw _ (by omega)) (by decide)) (fun c_28 => ?_) (fun c_28 => ?_)
        · have e1_ : mo = mwF T.w (i_ + 1) := by rw [jm] at c_28 ⊢; exact (if_neg (by omega)).symm
          refine lv_iload_n hx hb dX7_worn_36 rfl (lv_at hl 2 rfl) ?_
          refine lv_istore_n (lv' := [(1, .int (nI mo)), (2, .int (nI (i_ + 1))), (0, .ref y_)]) hx hb dX7_worn_37 rfl hl (by decide) rfl (fun ls hl => ?_)
          refine lv_iinc (v := nI (i_ + 1 + 1)) (lv' := [(2, .int (nI (i_ + 1 + 1))), (1, .int (nI mo)), (0, .ref y_)]) hx hb dX7_worn_38 hl (k := 1) rfl (ks_inc (i_ + 1) 1) (by decide) rfl (fun ls hl => ?_)
          refine lv_goto (tgt := 4) hx hb dX7_worn_41 (by decide) ?_
          exact ih_4  (i_ + 1) mo (by omega) (by omega) (e1_) (by omega) _ _ hP hD hS ls (lv_sub hl [0, 2, 1] rfl)
        · have e1_ : i_ + 1 = mwF T.w (i_ + 1) := by rw [jm] at c_28; exact (if_pos c_28).symm
          refine lv_iload_n hx hb dX7_worn_32 rfl (lv_at hl 0 rfl) ?_
          refine lv_goto (tgt := 37) hx hb dX7_worn_33 (by decide) ?_
          refine lv_istore_n (lv' := [(1, .int (nI (i_ + 1))), (2, .int (nI (i_ + 1))), (0, .ref y_)]) hx hb dX7_worn_37 rfl hl (by decide) rfl (fun ls hl => ?_)
          refine lv_iinc (v := nI (i_ + 1 + 1)) (lv' := [(2, .int (nI (i_ + 1 + 1))), (1, .int (nI (i_ + 1))), (0, .ref y_)]) hx hb dX7_worn_38 hl (k := 1) rfl (ks_inc (i_ + 1) 1) (by decide) rfl (fun ls hl => ?_)
          refine lv_goto (tgt := 4) hx hb dX7_worn_41 (by decide) ?_
          exact ih_4  (i_ + 1) (i_ + 1) (by omega) (by omega) (e1_) (by omega) _ _ hP hD hS ls (lv_sub hl [0, 2, 1] rfl)
  exact L_4 _ 0 0 (Nat.lt_succ_self _) (by omega) (rfl) (by omega) _ _ hP hD hS ls (lv_sub hl [0, 2, 1] rfl)
set_option maxHeartbeats 4000000 in
set_option maxRecDepth 100000 in
theorem c_X7_mostWorn (G : GG) (l : Launch) (y_ : Nat) (ca : Nat → Nat) (ke : Nat) (ty_ : Nat) (th : Nat) (po : Nat) (fl_ : Prop) (tl : Nat) (T : TS) (jw : ∀ d, d < 10 → T.w d < 2 ^ 30) : Cr G l yX7_mostWorn wsX7_mostWorn ({ frames := 1, cells := 0, slots := 0, locals := 22 }) 0 0 [.ref y_] [(y_, .inr (7, [.ref (ca 0), .ref (ca 1), .ref (ca 2), .int (nI ke), .ref (ca 3), .int (nI ty_), .int (nI th), .int (nI po), .int (bI fl_), .ref (ca 4), .int (nI tl), .ref (ca 5)])), (ca 0, .inl (G.2.2.1, 103, .inr (.inl (mV T))))] (ctR (some (.int (nI (mwF T.w 9)))) [(y_, .inr (7, [.ref (ca 0), .ref (ca 1), .ref (ca 2), .int (nI ke), .ref (ca 3), .int (nI ty_), .int (nI 0), .int (nI po), .int (bI fl_), .ref (ca 4), .int (nI tl), .ref (ca 5)])), (ca 0, .inl (G.2.2.1, 103, .inr (.inl (mV T))))]) := by
  refine cr_intro (cc := cX7_mostWorn) (maxL := 1) (ret := (some .int)) (own := RX7) (by decide) rfl rfl (Nat.le_of_ble_eq_true rfl) ?_
  intro p e s m args below meth c A hx hb hr hml hts hown hlocks hnm hNX hP hK hD hA hS ls hl
  obtain ⟨RR, hRR⟩ : ∃ RR, RR = (ctR (some (.int (nI (mwF T.w 9)))) [(y_, .inr (7, [.ref (ca 0), .ref (ca 1), .ref (ca 2), .int (nI ke), .ref (ca 3), .int (nI ty_), .int (nI 0), .int (nI po), .int (bI fl_), .ref (ca 4), .int (nI tl), .ref (ca 5)])), (ca 0, .inl (G.2.2.1, 103, .inr (.inl (mV T))))]) := ⟨_, rfl⟩
  rw [← hRR]
  have hl : lv_has ls 1 [(0, .ref y_)] := hl
  have hin7 : ∀ w ∈ u_ws RX7 TX7 12, w ∈ wsX7_mostWorn := fun w h => List.mem_cons_of_mem _ (List.mem_append_right _ h)
  refine lv_aload_n hx hb dX7_mostWorn_0 rfl (lv_at hl 0 rfl) ?_
  refine lv_iconst (v := nI 0) hx hb dX7_mostWorn_1 (by decide) ?_
  refine va_put (D := G.1) (ci := 7) (v := .int (nI 0)) (ty := .int) (C := RX7) (T := TX7) (N := 12) hx hb hts hin7 tyX7 tyX7_ok nmX7 hown hK hP hD hS 0 rfl rfl 6 (by decide) (hts (.fieldLink RX7 39 "PowerTablesModel" "thrown" "I") (List.mem_of_getElem? (i := 1) rfl)) (fun _ h9 => h9) rfl (tyX7_ok 6 (by decide)) rfl rfl (Nat.le_of_ble_eq_true rfl) dX7_mostWorn_2 (fun Hq lcq hP hD hS => ?_)
  have hP : va_P G.1 vwCl [(y_, .inr (7, [.ref (ca 0), .ref (ca 1), .ref (ca 2), .int (nI ke), .ref (ca 3), .int (nI ty_), .int (nI 0), .int (nI po), .int (bI fl_), .ref (ca 4), .int (nI tl), .ref (ca 5)])), (ca 0, .inl (G.2.2.1, 103, .inr (.inl (mV T))))] _ := hP
  have hD : va_D A [(y_, .inr (7, [.ref (ca 0), .ref (ca 1), .ref (ca 2), .int (nI ke), .ref (ca 3), .int (nI ty_), .int (nI 0), .int (nI po), .int (bI fl_), .ref (ca 4), .int (nI tl), .ref (ca 5)])), (ca 0, .inl (G.2.2.1, 103, .inr (.inl (mV T))))] := hD
  refine lv_aload_n hx hb dX7_mostWorn_5 rfl (lv_at hl 0 rfl) ?_
  refine cr_V (wr := []) (As := []) (rest := []) ⟨hx, hb, hml, hown, hts⟩ (c_X7_worn G l y_ ca ke ty_ 0 po fl_ tl T (jw)) (cwV 0 hts gX7_mostWorn_X7_worn rfl rfl rfl (by decide +kernel) ⟨Nat.le_of_ble_eq_true rfl, Nat.le_of_ble_eq_true rfl⟩) dX7_mostWorn_6 hK hNX hP hD hS hA hl 0 7 rfl rfl rfl [0, 1] [] rfl rfl rfl rfl (by decide) rfl (Nat.le_of_ble_eq_true rfl) ⟨Nat.le_of_ble_eq_true rfl, Nat.le_of_ble_eq_true rfl⟩ rfl (fun v' w' Hq lcq hR' hP hD hS => ?_)
  obtain ⟨rfl, rfl⟩ := hR'
  have hP : va_P G.1 vwCl [(y_, .inr (7, [.ref (ca 0), .ref (ca 1), .ref (ca 2), .int (nI ke), .ref (ca 3), .int (nI ty_), .int (nI 0), .int (nI po), .int (bI fl_), .ref (ca 4), .int (nI tl), .ref (ca 5)])), (ca 0, .inl (G.2.2.1, 103, .inr (.inl (mV T))))] _ := hP.sub [0, 1] rfl
  have hD : va_D A [(y_, .inr (7, [.ref (ca 0), .ref (ca 1), .ref (ca 2), .int (nI ke), .ref (ca 3), .int (nI ty_), .int (nI 0), .int (nI po), .int (bI fl_), .ref (ca 4), .int (nI tl), .ref (ca 5)])), (ca 0, .inl (G.2.2.1, 103, .inr (.inl (mV T))))] := hD.sub [0, 1] (by decide +kernel) rfl
  exact cr_iret hx hb hr hlocks hK hP hD hS dX7_mostWorn_9 (by rw [hRR]; exact ctR_i (rfl) (rfl))
