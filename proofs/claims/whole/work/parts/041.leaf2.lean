set_option maxHeartbeats 4000000 in
set_option maxRecDepth 100000 in
theorem c_X4_raise (G : GG) (l : Launch) (x_ : Int64) (k_ : Nat) (hk : k_ < 2 ^ 30) : Cr G l yX4_raise wsX4_raise ({ frames := 0, cells := 0, slots := 0, locals := 0 }) 0 0 [.long x_, .int (nI k_)] [] (ctR (some (.long (pwr x_ k_))) []) := by
  refine cr_intro (cc := cX4_raise) (maxL := 6) (ret := (some .long)) (own := RX4) (by decide) rfl rfl (Nat.le_of_ble_eq_true rfl) ?_
  intro p e s m args below meth c A hx hb hr hml hts hown hlocks hnm hNX hP hK hD hA hS ls hl
  obtain ⟨RR, hRR⟩ : ∃ RR, RR = (ctR (some (.long (pwr x_ k_))) []) := ⟨_, rfl⟩
  rw [← hRR]
  have hl : lv_has ls 6 [(0, .long x_), (2, .int (nI k_))] := hl
  refine lv_lconst (v := lN 1) hx hb dX4_raise_0 rfl ?_
  refine lv_lstore_n (lv' := [(3, .long (lN 1)), (0, .long x_), (2, .int (nI k_))]) hx hb dX4_raise_1 rfl hl (by decide) rfl (fun ls hl => ?_)
  refine lv_iconst (v := nI 0) hx hb dX4_raise_2 (by decide) ?_
  refine lv_istore (lv' := [(5, .int (nI 0)), (3, .long (lN 1)), (0, .long x_), (2, .int (nI k_))]) hx hb dX4_raise_3 hl (by decide) rfl (fun ls hl => ?_)
  have L_5 : ∀ (n_5 : Nat) (i_ : Nat) (_ : k_ + 1 - i_ < n_5) (hi_ : i_ ≤ k_) (Hq : Heap) (lcq : List Loc), va_P G.1 vwCl [] Hq → va_D A [] → va_S A s.heap Hq lcq → ∀ ls : Array Slot, lv_has ls 6 [(0, .long x_), (2, .int (nI k_)), (5, .int (nI i_)), (3, .long (pwr x_ i_))] → W p l e ({ frames := 0, cells := 0, slots := 0, locals := 0 }) s m args below meth c Hq lcq 0 0 (MQ below (cr_Q G RR A) args s 0 0 A) (F0 m 5 ls []) := by
    intro n_5
    induction n_5 with
    | zero => intro i_ hmu_5; exact absurd hmu_5 (Nat.not_lt_zero _)
    | succ n_5 ih_5 =>
      intro i_ hmu_5 hi_ Hq lcq hP hD hS ls hl
      refine lv_iload hx hb dX4_raise_5 (lv_at hl 2 rfl) ?_
      refine lv_iload_n hx hb dX4_raise_7 rfl (lv_at hl 1 rfl) ?_
      refine ks_icmp_ge (tgt := 21) hx hb dX4_raise_8 (by decide) (by omega) (by omega) (fun c_8 => ?_) (fun c_8 => ?_)
      · obtain rfl : k_ = i_ := by omega
        refine lv_lload_n hx hb dX4_raise_21 rfl (lv_at hl 3 rfl) ?_
        exact cr_lret hx hb hr hlocks hK hP hD hS dX4_raise_22 (by rw [hRR]; exact ctR_l (rfl) (rfl))
      · refine lv_lload_n hx hb dX4_raise_11 rfl (lv_at hl 3 rfl) ?_
        refine lv_lload_n hx hb dX4_raise_12 rfl (lv_at hl 0 rfl) ?_
        refine lv_lmul hx hb dX4_raise_13 ?_
        refine lv_lstore_n (lv' := [(3, .long ((pwr x_ i_) * x_)), (0, .long x_), (2, .int (nI k_)), (5, .int (nI i_))]) hx hb dX4_raise_14 rfl hl (by decide) rfl (fun ls hl => ?_)
        refine lv_iinc (v := nI (i_ + 1)) (lv' := [(5, .int (nI (i_ + 1))), (3, .long ((pwr x_ i_) * x_)), (0, .long x_), (2, .int (nI k_))]) hx hb dX4_raise_15 hl (k := 3) rfl (ks_inc i_ 1) (by decide) rfl (fun ls hl => ?_)
        refine lv_goto (tgt := 5) hx hb dX4_raise_18 (by decide) ?_
        exact ih_5  (i_ + 1) (by omega) (by omega) _ _ hP hD hS ls (lv_sub hl [2, 3, 0, 1] rfl)
  exact L_5 _ 0 (Nat.lt_succ_self _) (by omega) _ _ hP hD hS ls (lv_sub hl [2, 3, 0, 1] rfl)
set_option maxHeartbeats 4000000 in
set_option maxRecDepth 100000 in
theorem c_X5_printDigits (G : GG) (l : Launch) (h0 : Nat) (h1 : Nat) (w_ : Nat → Nat) (wl : Nat) (dg : Nat) (x_ : Int64) (jx : ab x_ < 2 ^ 63) (jw : ∀ d, d < 10 → w_ d < 2 ^ 30) (jl : wl < 2 ^ 30) (jdg : dg < 2 ^ 30) : Cr G l yX5_printDigits wsX5_printDigits ({ frames := 0, cells := 0, slots := 0, locals := 0 }) 0 0 [.ref h0, .long x_] [(h0, .inr (5, [.ref h1, .int (nI wl), .int (nI dg)])), (h1, .inl (G.2.1, 10, .inl (fun q9 => nI (w_ q9))))] (ctR (some (.int (nI (prB (ab x_) w_ wl)))) [(h0, .inr (5, [.ref h1, .int (nI wl), .int (nI (dg + nd (ab x_)))])), (h1, .inl (G.2.1, 10, .inl (fun q9 => nI ((wad w_ (ab x_) (nd (ab x_))) q9))))]) := by
  refine cr_intro (cc := cX5_printDigits) (maxL := 8) (ret := (some .int)) (own := RX5) (by decide) rfl rfl (Nat.le_of_ble_eq_true rfl) ?_
  intro p e s m args below meth c A hx hb hr hml hts hown hlocks hnm hNX hP hK hD hA hS ls hl
  obtain ⟨RR, hRR⟩ : ∃ RR, RR = (ctR (some (.int (nI (prB (ab x_) w_ wl)))) [(h0, .inr (5, [.ref h1, .int (nI wl), .int (nI (dg + nd (ab x_)))])), (h1, .inl (G.2.1, 10, .inl (fun q9 => nI ((wad w_ (ab x_) (nd (ab x_))) q9))))]) := ⟨_, rfl⟩
  rw [← hRR]
  have hl : lv_has ls 8 [(0, .ref h0), (1, .long x_)] := hl
  have hin5 : ∀ w_ ∈ u_ws RX5 TX5 3, w_ ∈ wsX5_printDigits := fun w_ h => List.mem_cons_of_mem _ (List.mem_append_right _ h)
  refine lv_iconst (v := nI 0) hx hb dX5_printDigits_0 (by decide) ?_
  refine lv_istore_n (lv' := [(3, .int (nI 0)), (0, .ref h0), (1, .long x_)]) hx hb dX5_printDigits_1 rfl hl (by decide) rfl (fun ls hl => ?_)
  refine lv_lload_n hx hb dX5_printDigits_2 rfl (lv_at hl 2 rfl) ?_
  refine lv_lconst (v := lN 0) hx hb dX5_printDigits_3 rfl ?_
  refine ks_lc_le (tgt := 13) hx hb dX5_printDigits_4 dX5_printDigits_5 (by decide) (fun c_4 => ?_) (fun c_4 => ?_)
  · refine lv_lload_n hx hb dX5_printDigits_13 rfl (lv_at hl 2 rfl) ?_
    refine ks_vL (show x_ = -(lN (ab x_)) from ab_neg c_4 jx) ?_
    refine lv_lstore (lv' := [(4, .long (-(lN (ab x_)))), (3, .int (nI 0)), (0, .ref h0), (1, .long x_)]) hx hb dX5_printDigits_14 hl (by decide) rfl (fun ls hl => ?_)
    refine lv_iconst (v := nI 0) hx hb dX5_printDigits_16 (by decide) ?_
    refine lv_istore (lv' := [(6, .int (nI 0)), (4, .long (-(lN (ab x_)))), (3, .int (nI 0)), (0, .ref h0), (1, .long x_)]) hx hb dX5_printDigits_17 hl (by decide) rfl (fun ls hl => ?_)
    have L_19 : ∀ (n_19 : Nat) (i_ : Nat) (b_ : Nat) (bl : Nat) (_ : 20 - i_ < n_19) (jb : b_ = ab x_ / 10 ^ i_) (ji : i_ ≤ 19) (jz : ∀ j, 1 ≤ j → j < i_ → ab x_ / 10 ^ j ≠ 0) (jbl : blu (wad w_ (ab x_) i_) wl = blu w_ wl + bl) (jbb : bl ≤ i_) (Hq : Heap) (lcq : List Loc), va_P G.1 vwCl [(h0, .inr (5, [.ref h1, .int (nI wl), .int (nI (dg + i_))])), (h1, .inl (G.2.1, 10, .inl (fun q9 => nI ((wad w_ (ab x_) i_) q9))))] Hq → va_D A [(h0, .inr (5, [.ref h1, .int (nI wl), .int (nI (dg + i_))])), (h1, .inl (G.2.1, 10, .inl (fun q9 => nI ((wad w_ (ab x_) i_) q9))))] → va_S A s.heap Hq lcq → ∀ ls : Array Slot, lv_has ls 8 [(0, .ref h0), (1, .long x_), (3, .int (nI bl)), (4, .long (-(lN b_))), (6, .int (nI i_))] → W p l e ({ frames := 0, cells := 0, slots := 0, locals := 0 }) s m args below meth c Hq lcq 0 0 (MQ below (cr_Q G RR A) args s 0 0 A) (F0 m 19 ls []) := by
      intro n_19
      induction n_19 with
      | zero => intro i_ b_ bl hmu_19; exact absurd hmu_19 (Nat.not_lt_zero _)
      | succ n_19 ih_19 =>
        intro i_ b_ bl hmu_19 jb ji jz jbl jbb Hq lcq hP hD hS ls hl
        have hb63 : b_ < 2 ^ 63 := by rw [jb]; exact Nat.lt_of_le_of_lt (Nat.div_le_self _ _) jx
        have hd_ : b_ % 10 = dgt (ab x_) i_ := by rw [jb]; rfl
        refine lv_iload hx hb dX5_printDigits_19 (lv_at hl 4 rfl) ?_
        refine lv_bipush (v := nI 19) hx hb dX5_printDigits_21 (by decide) ?_
        refine ks_icmp_ge (tgt := 105) hx hb dX5_printDigits_23 (by decide) (by omega) (by omega) (fun c_23 => ?_) (fun c_23 => ?_)
        · have hnd : nd (ab x_) = i_ := nd_of (by omega) (by rw [show i_ = 19 by omega]; exact Nat.div_eq_of_lt (Nat.lt_trans jx (by decide))) jz (by omega)
          refine lv_iload_n hx hb dX5_printDigits_105 rfl (lv_at hl 2 rfl) ?_
          exact cr_iret hx hb hr hlocks hK hP hD hS dX5_printDigits_106 (by rw [hRR]; exact ctR_i (by rw [show prB (ab x_) w_ wl = bl by unfold prB; rw [hnd]; omega]) (by rw [hnd]))
        · refine lv_iload hx hb dX5_printDigits_26 (lv_at hl 4 rfl) ?_
          refine ks_if_eq (tgt := 38) hx hb dX5_printDigits_28 (by decide) (by omega) (fun c_28 => ?_) (fun c_28 => ?_)
          · have jz1 : ∀ j, 1 ≤ j → j < i_ + 1 → ab x_ / 10 ^ j ≠ 0 := fun j h1 h2 => absurd h1 (by omega)
            refine lv_lload hx hb dX5_printDigits_38 (lv_at hl 3 rfl) ?_
            refine lv_ldc2 hx hb hown (hts (.constantLong RX5 22 (10)) (List.mem_of_getElem? (i := 1) rfl)) dX5_printDigits_40 ?_
            refine ks_vL (show (10 : Int64) = lN 10 from rfl) ?_
            refine lv_lrem hx hb dX5_printDigits_43 (by decide) ?_
            refine lv_lneg hx hb dX5_printDigits_44 ?_
            refine ks_vL (show -((-(lN b_)) - (-(lN b_)) / (lN 10) * (lN 10)) = lN (b_ % 10) from by rw [ng_div hb63]; exact ng_rem) ?_
            refine ks_l2iN hx hb dX5_printDigits_45 ?_
            refine lv_istore (lv' := [(7, .int (nI (b_ % 10))), (0, .ref h0), (1, .long x_), (3, .int (nI bl)), (4, .long (-(lN b_))), (6, .int (nI i_))]) hx hb dX5_printDigits_46 hl (by decide) rfl (fun ls hl => ?_)
            refine lv_aload_n hx hb dX5_printDigits_48 rfl (lv_at hl 1 rfl) ?_
            refine va_get (D := G.1) (ci := 5) (v := .ref h1) (C := RX5) (T := TX5) (N := 3) hx hb hts hin5 hown hK hP 0 rfl rfl 0 (by decide) (hts (.fieldLink RX5 9 "PowerTables$Types" "wears" "[I") (List.mem_of_getElem? (i := 2) rfl)) (fun _ h9 => h9) rfl dX5_printDigits_49 ?_
            refine lv_iload hx hb dX5_printDigits_52 (lv_at hl 0 rfl) ?_
            refine lv_dup2_11 hx hb dX5_printDigits_54 rfl rfl ?_
            refine ks_iald hx hb hK hP 1 rfl (by omega) (by decide) dX5_printDigits_55 ?_
            refine lv_iconst (v := nI 1) hx hb dX5_printDigits_56 (by decide) ?_
            refine ks_iaddN hx hb dX5_printDigits_57 ?_
            refine ks_iast (f' := fun q9 => nI ((wad w_ (ab x_) (i_ + 1)) q9)) hx hb hK hP hD hS 1 rfl (by omega) (by decide) (by rw [upN_upd, hd_, wad_s]) dX5_printDigits_58 (fun Hq lcq hP hD hS => ?_)
            have hP : va_P G.1 vwCl [(h0, .inr (5, [.ref h1, .int (nI wl), .int (nI (dg + i_))])), (h1, .inl (G.2.1, 10, .inl (fun q9 => nI ((wad w_ (ab x_) (i_ + 1)) q9))))] _ := hP
            have hD : va_D A [(h0, .inr (5, [.ref h1, .int (nI wl), .int (nI (dg + i_))])), (h1, .inl (G.2.1, 10, .inl (fun q9 => nI ((wad w_ (ab x_) (i_ + 1)) q9))))] := hD
            refine lv_aload_n hx hb dX5_printDigits_59 rfl (lv_at hl 1 rfl) ?_
            refine lv_dup hx hb dX5_printDigits_60 rfl ?_
            refine va_get (D := G.1) (ci := 5) (v := .int (nI (dg + i_))) (C := RX5) (T := TX5) (N := 3) hx hb hts hin5 hown hK hP 0 rfl rfl 2 (by decide) (hts (.fieldLink RX5 19 "PowerTables$Types" "digitsPrinted" "I") (List.mem_of_getElem? (i := 3) rfl)) (fun _ h9 => h9) rfl dX5_printDigits_61 ?_
            refine lv_iconst (v := nI 1) hx hb dX5_printDigits_64 (by decide) ?_
            refine ks_iaddN hx hb dX5_printDigits_65 ?_
            refine va_put (D := G.1) (ci := 5) (v := .int (nI (dg + i_ + 1))) (ty := .int) (C := RX5) (T := TX5) (N := 3) hx hb hts hin5 tyX5 tyX5_ok nmX5 hown hK hP hD hS 0 rfl rfl 2 (by decide) (hts (.fieldLink RX5 19 "PowerTables$Types" "digitsPrinted" "I") (List.mem_of_getElem? (i := 3) rfl)) (fun _ h9 => h9) rfl (tyX5_ok 2 (by decide)) rfl rfl (Nat.le_of_ble_eq_true rfl) dX5_printDigits_66 (fun Hq lcq hP hD hS => ?_)
            have hP : va_P G.1 vwCl [(h0, .inr (5, [.ref h1, .int (nI wl), .int (nI (dg + i_ + 1))])), (h1, .inl (G.2.1, 10, .inl (fun q9 => nI ((wad w_ (ab x_) (i_ + 1)) q9))))] _ := hP
            have hD : va_D A [(h0, .inr (5, [.ref h1, .int (nI wl), .int (nI (dg + i_ + 1))])), (h1, .inl (G.2.1, 10, .inl (fun q9 => nI ((wad w_ (ab x_) (i_ + 1)) q9))))] := hD
            refine lv_iload_n hx hb dX5_printDigits_69 rfl (lv_at hl 3 rfl) ?_
            refine lv_aload_n hx hb dX5_printDigits_70 rfl (lv_at hl 1 rfl) ?_
            refine va_get (D := G.1) (ci := 5) (v := .ref h1) (C := RX5) (T := TX5) (N := 3) hx hb hts hin5 hown hK hP 0 rfl rfl 0 (by decide) (hts (.fieldLink RX5 9 "PowerTables$Types" "wears" "[I") (List.mem_of_getElem? (i := 2) rfl)) (fun _ h9 => h9) rfl dX5_printDigits_71 ?_
            refine lv_iload hx hb dX5_printDigits_74 (lv_at hl 0 rfl) ?_
            refine ks_iald hx hb hK hP 1 rfl (by omega) (by decide) dX5_printDigits_76 ?_
            refine lv_aload_n hx hb dX5_printDigits_77 rfl (lv_at hl 1 rfl) ?_
            refine va_get (D := G.1) (ci := 5) (v := .int (nI wl)) (C := RX5) (T := TX5) (N := 3) hx hb hts hin5 hown hK hP 0 rfl rfl 1 (by decide) (hts (.fieldLink RX5 15 "PowerTables$Types" "wearLimit" "I") (List.mem_of_getElem? (i := 4) rfl)) (fun _ h9 => h9) rfl dX5_printDigits_78 ?_
            refine ks_icmp_le (tgt := 88) hx hb dX5_printDigits_81 (by decide) (Nat.lt_of_le_of_lt (wad_le _ _ _ _) (by have := jw (b_ % 10) (by omega); omega)) (by omega) (fun c_81 => ?_) (fun c_81 => ?_)
            · have hq : blu (wad w_ (ab x_) (i_ + 1)) wl = blu w_ wl + (bl + 0) := by rw [hd_, wad_d] at c_81; rw [← wad_s, blu_s (dgt_lt _ _), jbl, if_neg (by omega)]; rfl
              refine lv_iconst (v := nI 0) hx hb dX5_printDigits_88 (by decide) ?_
              refine ks_iaddN hx hb dX5_printDigits_89 ?_
              refine lv_istore_n (lv' := [(3, .int (nI (bl + 0))), (7, .int (nI (b_ % 10))), (0, .ref h0), (1, .long x_), (4, .long (-(lN b_))), (6, .int (nI i_))]) hx hb dX5_printDigits_90 rfl hl (by decide) rfl (fun ls hl => ?_)
              refine lv_lload hx hb dX5_printDigits_91 (lv_at hl 4 rfl) ?_
              refine lv_ldc2 hx hb hown (hts (.constantLong RX5 22 (10)) (List.mem_of_getElem? (i := 1) rfl)) dX5_printDigits_93 ?_
              refine ks_vL (show (10 : Int64) = lN 10 from rfl) ?_
              refine lv_ldiv hx hb dX5_printDigits_96 (by decide) ?_
              refine ks_vL (show (-(lN b_)) / (lN 10) = -(lN (b_ / 10)) from ng_div hb63) ?_
              refine lv_lstore (lv' := [(4, .long (-(lN (b_ / 10)))), (3, .int (nI (bl + 0))), (7, .int (nI (b_ % 10))), (0, .ref h0), (1, .long x_), (6, .int (nI i_))]) hx hb dX5_printDigits_97 hl (by decide) rfl (fun ls hl => ?_)
              refine lv_iinc (v := nI (i_ + 1)) (lv' := [(6, .int (nI (i_ + 1))), (4, .long (-(lN (b_ / 10)))), (3, .int (nI (bl + 0))), (7, .int (nI (b_ % 10))), (0, .ref h0), (1, .long x_)]) hx hb dX5_printDigits_99 hl (k := 5) rfl (ks_inc i_ 1) (by decide) rfl (fun ls hl => ?_)
              refine lv_goto (tgt := 19) hx hb dX5_printDigits_102 (by decide) ?_
              exact ih_19  (i_ + 1) (b_ / 10) (bl + 0) (by omega) (by rw [jb, Nat.div_div_eq_div_mul, ← Nat.pow_succ]) (by omega) (jz1) (hq) (by omega) _ _ hP hD hS ls (lv_sub hl [4, 5, 2, 1, 0] rfl)
            · have hq : blu (wad w_ (ab x_) (i_ + 1)) wl = blu w_ wl + (bl + 1) := by rw [hd_, wad_d] at c_81; rw [← wad_s, blu_s (dgt_lt _ _), jbl, if_pos (by omega)]; omega
              refine lv_iconst (v := nI 1) hx hb dX5_printDigits_84 (by decide) ?_
              refine lv_goto (tgt := 89) hx hb dX5_printDigits_85 (by decide) ?_
              refine ks_iaddN hx hb dX5_printDigits_89 ?_
              refine lv_istore_n (lv' := [(3, .int (nI (bl + 1))), (7, .int (nI (b_ % 10))), (0, .ref h0), (1, .long x_), (4, .long (-(lN b_))), (6, .int (nI i_))]) hx hb dX5_printDigits_90 rfl hl (by decide) rfl (fun ls hl => ?_)
              refine lv_lload hx hb dX5_printDigits_91 (lv_at hl 4 rfl) ?_
              refine lv_ldc2 hx hb hown (hts (.constantLong RX5 22 (10)) (List.mem_of_getElem? (i := 1) rfl)) dX5_printDigits_93 ?_
              refine ks_vL (show (10 : Int64) = lN 10 from rfl) ?_
              refine lv_ldiv hx hb dX5_printDigits_96 (by decide) ?_
              refine ks_vL (show (-(lN b_)) / (lN 10) = -(lN (b_ / 10)) from ng_div hb63) ?_
              refine lv_lstore (lv' := [(4, .long (-(lN (b_ / 10)))), (3, .int (nI (bl + 1))), (7, .int (nI (b_ % 10))), (0, .ref h0), (1, .long x_), (6, .int (nI i_))]) hx hb dX5_printDigits_97 hl (by decide) rfl (fun ls hl => ?_)
              refine lv_iinc (v := nI (i_ + 1)) (lv' := [(6, .int (nI (i_ + 1))), (4, .long (-(lN (b_ / 10)))), (3, .int (nI (bl + 1))), (7, .int (nI (b_ % 10))), (0, .ref h0), (1, .long x_)]) hx hb dX5_printDigits_99 hl (k := 5) rfl (ks_inc i_ 1) (by decide) rfl (fun ls hl => ?_)
              refine lv_goto (tgt := 19) hx hb dX5_printDigits_102 (by decide) ?_
              exact ih_19  (i_ + 1) (b_ / 10) (bl + 1) (by omega) (by rw [jb, Nat.div_div_eq_div_mul, ← Nat.pow_succ]) (by omega) (jz1) (hq) (by omega) _ _ hP hD hS ls (lv_sub hl [4, 5, 2, 1, 0] rfl)
          · refine lv_lload hx hb dX5_printDigits_31 (lv_at hl 3 rfl) ?_
            refine lv_lconst (v := lN 0) hx hb dX5_printDigits_33 rfl ?_
            refine ks_lc_eq (tgt := 105) hx hb dX5_printDigits_34 dX5_printDigits_35 (by decide) (fun c_34 => ?_) (fun c_34 => ?_)
            · have hb0 : b_ = 0 := Classical.byContradiction (fun z => ((ng_ne hb63).mpr z) c_34)
              have hnd : nd (ab x_) = i_ := nd_of (by omega) (by rw [← jb]; exact hb0) jz (by omega)
              refine lv_iload_n hx hb dX5_printDigits_105 rfl (lv_at hl 2 rfl) ?_
              exact cr_iret hx hb hr hlocks hK hP hD hS dX5_printDigits_106 (by rw [hRR]; exact ctR_i (by rw [show prB (ab x_) w_ wl = bl by unfold prB; rw [hnd]; omega]) (by rw [hnd]))
            · have jz1 : ∀ j, 1 ≤ j → j < i_ + 1 → ab x_ / 10 ^ j ≠ 0 := fun j h1 h2 => (Nat.lt_or_ge j i_).elim (fun q => jz j h1 q) (fun q => by rw [show j = i_ by omega, ← jb]; exact (ng_ne hb63).mp c_34)
              refine lv_lload hx hb dX5_printDigits_38 (lv_at hl 3 rfl) ?_
              refine lv_ldc2 hx hb hown (hts (.constantLong RX5 22 (10)) (List.mem_of_getElem? (i := 1) rfl)) dX5_printDigits_40 ?_
              refine ks_vL (show (10 : Int64) = lN 10 from rfl) ?_
              refine lv_lrem hx hb dX5_printDigits_43 (by decide) ?_
              refine lv_lneg hx hb dX5_printDigits_44 ?_
              refine ks_vL (show -((-(lN b_)) - (-(lN b_)) / (lN 10) * (lN 10)) = lN (b_ % 10) from by rw [ng_div hb63]; exact ng_rem) ?_
              refine ks_l2iN hx hb dX5_printDigits_45 ?_
              refine lv_istore (lv' := [(7, .int (nI (b_ % 10))), (0, .ref h0), (1, .long x_), (3, .int (nI bl)), (4, .long (-(lN b_))), (6, .int (nI i_))]) hx hb dX5_printDigits_46 hl (by decide) rfl (fun ls hl => ?_)
              refine lv_aload_n hx hb dX5_printDigits_48 rfl (lv_at hl 1 rfl) ?_
              refine va_get (D := G.1) (ci := 5) (v := .ref h1) (C := RX5) (T := TX5) (N := 3) hx hb hts hin5 hown hK hP 0 rfl rfl 0 (by decide) (hts (.fieldLink RX5 9 "PowerTables$Types" "wears" "[I") (List.mem_of_getElem? (i := 2) rfl)) (fun _ h9 => h9) rfl dX5_printDigits_49 ?_
              refine lv_iload hx hb dX5_printDigits_52 (lv_at hl 0 rfl) ?_
              refine lv_dup2_11 hx hb dX5_printDigits_54 rfl rfl ?_
              refine ks_iald hx hb hK hP 1 rfl (by omega) (by decide) dX5_printDigits_55 ?_
              refine lv_iconst (v := nI 1) hx hb dX5_printDigits_56 (by decide) ?_
              refine ks_iaddN hx hb dX5_printDigits_57 ?_
              refine ks_iast (f' := fun q9 => nI ((wad w_ (ab x_) (i_ + 1)) q9)) hx hb hK hP hD hS 1 rfl (by omega) (by decide) (by rw [upN_upd, hd_, wad_s]) dX5_printDigits_58 (fun Hq lcq hP hD hS => ?_)
              have hP : va_P G.1 vwCl [(h0, .inr (5, [.ref h1, .int (nI wl), .int (nI (dg + i_))])), (h1, .inl (G.2.1, 10, .inl (fun q9 => nI ((wad w_ (ab x_) (i_ + 1)) q9))))] _ := hP
              have hD : va_D A [(h0, .inr (5, [.ref h1, .int (nI wl), .int (nI (dg + i_))])), (h1, .inl (G.2.1, 10, .inl (fun q9 => nI ((wad w_ (ab x_) (i_ + 1)) q9))))] := hD
              refine lv_aload_n hx hb dX5_printDigits_59 rfl (lv_at hl 1 rfl) ?_
              refine lv_dup hx hb dX5_printDigits_60 rfl ?_
              refine va_get (D := G.1) (ci := 5) (v := .int (nI (dg + i_))) (C := RX5) (T := TX5) (N := 3) hx hb hts hin5 hown hK hP 0 rfl rfl 2 (by decide) (hts (.fieldLink RX5 19 "PowerTables$Types" "digitsPrinted" "I") (List.mem_of_getElem? (i := 3) rfl)) (fun _ h9 => h9) rfl dX5_printDigits_61 ?_
              refine lv_iconst (v := nI 1) hx hb dX5_printDigits_64 (by decide) ?_
              refine ks_iaddN hx hb dX5_printDigits_65 ?_
              refine va_put (D := G.1) (ci := 5) (v := .int (nI (dg + i_ + 1))) (ty := .int) (C := RX5) (T := TX5) (N := 3) hx hb hts hin5 tyX5 tyX5_ok nmX5 hown hK hP hD hS 0 rfl rfl 2 (by decide) (hts (.fieldLink RX5 19 "PowerTables$Types" "digitsPrinted" "I") (List.mem_of_getElem? (i := 3) rfl)) (fun _ h9 => h9) rfl (tyX5_ok 2 (by decide)) rfl rfl (Nat.le_of_ble_eq_true rfl) dX5_printDigits_66 (fun Hq lcq hP hD hS => ?_)
              have hP : va_P G.1 vwCl [(h0, .inr (5, [.ref h1, .int (nI wl), .int (nI (dg + i_ + 1))])), (h1, .inl (G.2.1, 10, .inl (fun q9 => nI ((wad w_ (ab x_) (i_ + 1)) q9))))] _ := hP
              have hD : va_D A [(h0, .inr (5, [.ref h1, .int (nI wl), .int (nI (dg + i_ + 1))])), (h1, .inl (G.2.1, 10, .inl (fun q9 => nI ((wad w_ (ab x_) (i_ + 1)) q9))))] := hD
              refine lv_iload_n hx hb dX5_printDigits_69 rfl (lv_at hl 3 rfl) ?_
              refine lv_aload_n hx hb dX5_printDigits_70 rfl (lv_at hl 1 rfl) ?_
              refine va_get (D := G.1) (ci := 5) (v := .ref h1) (C := RX5) (T := TX5) (N := 3) hx hb hts hin5 hown hK hP 0 rfl rfl 0 (by decide) (hts (.fieldLink RX5 9 "PowerTables$Types" "wears" "[I") (List.mem_of_getElem? (i := 2) rfl)) (fun _ h9 => h9) rfl dX5_printDigits_71 ?_
              refine lv_iload hx hb dX5_printDigits_74 (lv_at hl 0 rfl) ?_
              refine ks_iald hx hb hK hP 1 rfl (by omega) (by decide) dX5_printDigits_76 ?_
              refine lv_aload_n hx hb dX5_printDigits_77 rfl (lv_at hl 1 rfl) ?_
              refine va_get (D := G.1) (ci := 5) (v := .int (nI wl)) (C := RX5) (T := TX5) (N := 3) hx hb hts hin5 hown hK hP 0 rfl rfl 1 (by decide) (hts (.fieldLink RX5 15 "PowerTables$Types" "wearLimit" "I") (List.mem_of_getElem? (i := 4) rfl)) (fun _ h9 => h9) rfl dX5_printDigits_78 ?_
              refine ks_icmp_le (tgt := 88) hx hb dX5_printDigits_81 (by decide) (Nat.lt_of_le_of_lt (wad_le _ _ _ _) (by have := jw (b_ % 10) (by omega); omega)) (by omega) (fun c_81 => ?_) (fun c_81 => ?_)
              · have hq : blu (wad w_ (ab x_) (i_ + 1)) wl = blu w_ wl + (bl + 0) := by rw [hd_, wad_d] at c_81; rw [← wad_s, blu_s (dgt_lt _ _), jbl, if_neg (by omega)]; rfl
                refine lv_iconst (v := nI 0) hx hb dX5_printDigits_88 (by decide) ?_
                refine ks_iaddN hx hb dX5_printDigits_89 ?_
                refine lv_istore_n (lv' := [(3, .int (nI (bl + 0))), (7, .int (nI (b_ % 10))), (0, .ref h0), (1, .long x_), (4, .long (-(lN b_))), (6, .int (nI i_))]) hx hb dX5_printDigits_90 rfl hl (by decide) rfl (fun ls hl => ?_)
                refine lv_lload hx hb dX5_printDigits_91 (lv_at hl 4 rfl) ?_
                refine lv_ldc2 hx hb hown (hts (.constantLong RX5 22 (10)) (List.mem_of_getElem? (i := 1) rfl)) dX5_printDigits_93 ?_
                refine ks_vL (show (10 : Int64) = lN 10 from rfl) ?_
                refine lv_ldiv hx hb dX5_printDigits_96 (by decide) ?_
                refine ks_vL (show (-(lN b_)) / (lN 10) = -(lN (b_ / 10)) from ng_div hb63) ?_
                refine lv_lstore (lv' := [(4, .long (-(lN (b_ / 10)))), (3, .int (nI (bl + 0))), (7, .int (nI (b_ % 10))), (0, .ref h0), (1, .long x_), (6, .int (nI i_))]) hx hb dX5_printDigits_97 hl (by decide) rfl (fun ls hl => ?_)
                refine lv_iinc (v := nI (i_ + 1)) (lv' := [(6, .int (nI (i_ + 1))), (4, .long (-(lN (b_ / 10)))), (3, .int (nI (bl + 0))), (7, .int (nI (b_ % 10))), (0, .ref h0), (1, .long x_)]) hx hb dX5_printDigits_99 hl (k := 5) rfl (ks_inc i_ 1) (by decide) rfl (fun ls hl => ?_)
                refine lv_goto (tgt := 19) hx hb dX5_printDigits_102 (by decide) ?_
                exact ih_19  (i_ + 1) (b_ / 10) (bl + 0) (by omega) (by rw [jb, Nat.div_div_eq_div_mul, ← Nat.pow_succ]) (by omega) (jz1) (hq) (by omega) _ _ hP hD hS ls (lv_sub hl [4, 5, 2, 1, 0] rfl)
              · have hq : blu (wad w_ (ab x_) (i_ + 1)) wl = blu w_ wl + (bl + 1) := by rw [hd_, wad_d] at c_81; rw [← wad_s, blu_s (dgt_lt _ _), jbl, if_pos (by omega)]; omega
                refine lv_iconst (v := nI 1) hx hb dX5_printDigits_84 (by decide) ?_
                refine lv_goto (tgt := 89) hx hb dX5_printDigits_85 (by decide) ?_
                refine ks_iaddN hx hb dX5_printDigits_89 ?_
                refine lv_istore_n (lv' := [(3, .int (nI (bl + 1))), (7, .int (nI (b_ % 10))), (0, .ref h0), (1, .long x_), (4, .long (-(lN b_))), (6, .int (nI i_))]) hx hb dX5_printDigits_90 rfl hl (by decide) rfl (fun ls hl => ?_)
                refine lv_lload hx hb dX5_printDigits_91 (lv_at hl 4 rfl) ?_
                refine lv_ldc2 hx hb hown (hts (.constantLong RX5 22 (10)) (List.mem_of_getElem? (i := 1) rfl)) dX5_printDigits_93 ?_
                refine ks_vL (show (10 : Int64) = lN 10 from rfl) ?_
                refine lv_ldiv hx hb dX5_printDigits_96 (by decide) ?_
                refine ks_vL (show (-(lN b_)) / (lN 10) = -(lN (b_ / 10)) from ng_div hb63) ?_
                refine lv_lstore (lv' := [(4, .long (-(lN (b_ / 10)))), (3, .int (nI (bl + 1))), (7, .int (nI (b_ % 10))), (0, .ref h0), (1, .long x_), (6, .int (nI i_))]) hx hb dX5_printDigits_97 hl (by decide) rfl (fun ls hl => ?_)
                refine lv_iinc (v := nI (i_ + 1)) (lv' := [(6, .int (nI (i_ + 1))), (4, .long (-(lN (b_ / 10)))), (3, .int (nI (bl + 1))), (7, .int (nI (b_ % 10))), (0, .ref h0), (1, .long x_)]) hx hb dX5_printDigits_99 hl (k := 5) rfl (ks_inc i_ 1) (by decide) rfl (fun ls hl => ?_)
                refine lv_goto (tgt := 19) hx hb dX5_printDigits_102 (by decide) ?_
                exact ih_19  (i_ + 1) (b_ / 10) (bl + 1) (by omega) (by rw [jb, Nat.div_div_eq_div_mul, ← Nat.pow_succ]) (by omega) (jz1) (hq) (by omega) _ _ hP hD hS ls (lv_sub hl [4, 5, 2, 1, 0] rfl)
    exact L_19 _ 0 (ab x_) 0 (Nat.lt_succ_self _) ((Nat.div_one _).symm) (by omega) (fun j h1 h2 => absurd h2 (Nat.not_lt_zero _)) (rfl) (by omega) _ _ hP hD hS ls (lv_sub hl [3, 4, 2, 1, 0] rfl)
  · refine lv_lload_n hx hb dX5_printDigits_8 rfl (lv_at hl 2 rfl) ?_
    refine lv_lneg hx hb dX5_printDigits_9 ?_
    refine lv_goto (tgt := 14) hx hb dX5_printDigits_10 (by decide) ?_
    refine ks_vL (show -x_ = -(lN (ab x_)) from ab_negp c_4) ?_
    refine lv_lstore (lv' := [(4, .long (-(lN (ab x_)))), (3, .int (nI 0)), (0, .ref h0), (1, .long x_)]) hx hb dX5_printDigits_14 hl (by decide) rfl (fun ls hl => ?_)
    refine lv_iconst (v := nI 0) hx hb dX5_printDigits_16 (by decide) ?_
    refine lv_istore (lv' := [(6, .int (nI 0)), (4, .long (-(lN (ab x_)))), (3, .int (nI 0)), (0, .ref h0), (1, .long x_)]) hx hb dX5_printDigits_17 hl (by decide) rfl (fun ls hl => ?_)
    have L_19 : ∀ (n_19 : Nat) (i_ : Nat) (b_ : Nat) (bl : Nat) (_ : 20 - i_ < n_19) (jb : b_ = ab x_ / 10 ^ i_) (ji : i_ ≤ 19) (jz : ∀ j, 1 ≤ j → j < i_ → ab x_ / 10 ^ j ≠ 0) (jbl : blu (wad w_ (ab x_) i_) wl = blu w_ wl + bl) (jbb : bl ≤ i_) (Hq : Heap) (lcq : List Loc), va_P G.1 vwCl [(h0, .inr (5, [.ref h1, .int (nI wl), .int (nI (dg + i_))])), (h1, .inl (G.2.1, 10, .inl (fun q9 => nI ((wad w_ (ab x_) i_) q9))))] Hq → va_D A [(h0, .inr (5, [.ref h1, .int (nI wl), .int (nI (dg + i_))])), (h1, .inl (G.2.1, 10, .inl (fun q9 => nI ((wad w_ (ab x_) i_) q9))))] → va_S A s.heap Hq lcq → ∀ ls : Array Slot, lv_has ls 8 [(0, .ref h0), (1, .long x_), (3, .int (nI bl)), (4, .long (-(lN b_))), (6, .int (nI i_))] → W p l e ({ frames := 0, cells := 0, slots := 0, locals := 0 }) s m args below meth c Hq lcq 0 0 (MQ below (cr_Q G RR A) args s 0 0 A) (F0 m 19 ls []) := by
      intro n_19
      induction n_19 with
      | zero => intro i_ b_ bl hmu_19; exact absurd hmu_19 (Nat.not_lt_zero _)
      | succ n_19 ih_19 =>
        intro i_ b_ bl hmu_19 jb ji jz jbl jbb Hq lcq hP hD hS ls hl
        have hb63 : b_ < 2 ^ 63 := by rw [jb]; exact Nat.lt_of_le_of_lt (Nat.div_le_self _ _) jx
        have hd_ : b_ % 10 = dgt (ab x_) i_ := by rw [jb]; rfl
        refine lv_iload hx hb dX5_printDigits_19 (lv_at hl 4 rfl) ?_
        refine lv_bipush (v := nI 19) hx hb dX5_printDigits_21 (by decide) ?_
        refine ks_icmp_ge (tgt := 105) hx hb dX5_printDigits_23 (by decide) (by omega) (by omega) (fun c_23 => ?_) (fun c_23 => ?_)
        · have hnd : nd (ab x_) = i_ := nd_of (by omega) (by rw [show i_ = 19 by omega]; exact Nat.div_eq_of_lt (Nat.lt_trans jx (by decide))) jz (by omega)
          refine lv_iload_n hx hb dX5_printDigits_105 rfl (lv_at hl 2 rfl) ?_
          exact cr_iret hx hb hr hlocks hK hP hD hS dX5_printDigits_106 (by rw [hRR]; exact ctR_i (by rw [show prB (ab x_) w_ wl = bl by unfold prB; rw [hnd]; omega]) (by rw [hnd]))
        · refine lv_iload hx hb dX5_printDigits_26 (lv_at hl 4 rfl) ?_
          refine ks_if_eq (tgt := 38) hx hb dX5_printDigits_28 (by decide) (by omega) (fun c_28 => ?_) (fun c_28 => ?_)
          · have jz1 : ∀ j, 1 ≤ j → j < i_ + 1 → ab x_ / 10 ^ j ≠ 0 := fun j h1 h2 => absurd h1 (by omega)
            refine lv_lload hx hb dX5_printDigits_38 (lv_at hl 3 rfl) ?_
            refine lv_ldc2 hx hb hown (hts (.constantLong RX5 22 (10)) (List.mem_of_getElem? (i := 1) rfl)) dX5_printDigits_40 ?_
            refine ks_vL (show (10 : Int64) = lN 10 from rfl) ?_
            refine lv_lrem hx hb dX5_printDigits_43 (by decide) ?_
            refine lv_lneg hx hb dX5_printDigits_44 ?_
            refine ks_vL (show -((-(lN b_)) - (-(lN b_)) / (lN 10) * (lN 10)) = lN (b_ % 10) from by rw [ng_div hb63]; exact ng_rem) ?_
            refine ks_l2iN hx hb dX5_printDigits_45 ?_
            refine lv_istore (lv' := [(7, .int (nI (b_ % 10))), (0, .ref h0), (1, .long x_), (3, .int (nI bl)), (4, .long (-(lN b_))), (6, .int (nI i_))]) hx hb dX5_printDigits_46 hl (by decide) rfl (fun ls hl => ?_)
            refine lv_aload_n hx hb dX5_printDigits_48 rfl (lv_at hl 1 rfl) ?_
            refine va_get (D := G.1) (ci := 5) (v := .ref h1) (C := RX5) (T := TX5) (N := 3) hx hb hts hin5 hown hK hP 0 rfl rfl 0 (by decide) (hts (.fieldLink RX5 9 "PowerTables$Types" "wears" "[I") (List.mem_of_getElem? (i := 2) rfl)) (fun _ h9 => h9) rfl dX5_printDigits_49 ?_
            refine lv_iload hx hb dX5_printDigits_52 (lv_at hl 0 rfl) ?_
            refine lv_dup2_11 hx hb dX5_printDigits_54 rfl rfl ?_
            refine ks_iald hx hb hK hP 1 rfl (by omega) (by decide) dX5_printDigits_55 ?_
            refine lv_iconst (v := nI 1) hx hb dX5_printDigits_56 (by decide) ?_
            refine ks_iaddN hx hb dX5_printDigits_57 ?_
            refine ks_iast (f' := fun q9 => nI ((wad w_ (ab x_) (i_ + 1)) q9)) hx hb hK hP hD hS 1 rfl (by omega) (by decide) (by rw [upN_upd, hd_, wad_s]) dX5_printDigits_58 (fun Hq lcq hP hD hS => ?_)
            have hP : va_P G.1 vwCl [(h0, .inr (5, [.ref h1, .int (nI wl), .int (nI (dg + i_))])), (h1, .inl (G.2.1, 10, .inl (fun q9 => nI ((wad w_ (ab x_) (i_ + 1)) q9))))] _ := hP
            have hD : va_D A [(h0, .inr (5, [.ref h1, .int (nI wl), .int (nI (dg + i_))])), (h1, .inl (G.2.1, 10, .inl (fun q9 => nI ((wad w_ (ab x_) (i_ + 1)) q9))))] := hD
            refine lv_aload_n hx hb dX5_printDigits_59 rfl (lv_at hl 1 rfl) ?_
            refine lv_dup hx hb dX5_printDigits_60 rfl ?_
            refine va_get (D := G.1) (ci := 5) (v := .int (nI (dg + i_))) (C := RX5) (T := TX5) (N := 3) hx hb hts hin5 hown hK hP 0 rfl rfl 2 (by decide) (hts (.fieldLink RX5 19 "PowerTables$Types" "digitsPrinted" "I") (List.mem_of_getElem? (i := 3) rfl)) (fun _ h9 => h9) rfl dX5_printDigits_61 ?_
            refine lv_iconst (v := nI 1) hx hb dX5_printDigits_64 (by decide) ?_
            refine ks_iaddN hx hb dX5_printDigits_65 ?_
            refine va_put (D := G.1) (ci := 5) (v := .int (nI (dg + i_ + 1))) (ty := .int) (C := RX5) (T := TX5) (N := 3) hx hb hts hin5 tyX5 tyX5_ok nmX5 hown hK hP hD hS 0 rfl rfl 2 (by decide) (hts (.fieldLink RX5 19 "PowerTables$Types" "digitsPrinted" "I") (List.mem_of_getElem? (i := 3) rfl)) (fun _ h9 => h9) rfl (tyX5_ok 2 (by decide)) rfl rfl (Nat.le_of_ble_eq_true rfl) dX5_printDigits_66 (fun Hq lcq hP hD hS => ?_)
            have hP : va_P G.1 vwCl [(h0, .inr (5, [.ref h1, .int (nI wl), .int (nI (dg + i_ + 1))])), (h1, .inl (G.2.1, 10, .inl (fun q9 => nI ((wad w_ (ab x_) (i_ + 1)) q9))))] _ := hP
            have hD : va_D A [(h0, .inr (5, [.ref h1, .int (nI wl), .int (nI (dg + i_ + 1))])), (h1, .inl (G.2.1, 10, .inl (fun q9 => nI ((wad w_ (ab x_) (i_ + 1)) q9))))] := hD
            refine lv_iload_n hx hb dX5_printDigits_69 rfl (lv_at hl 3 rfl) ?_
            refine lv_aload_n hx hb dX5_printDigits_70 rfl (lv_at hl 1 rfl) ?_
            refine va_get (D := G.1) (ci := 5) (v := .ref h1) (C := RX5) (T := TX5) (N := 3) hx hb hts hin5 hown hK hP 0 rfl rfl 0 (by decide) (hts (.fieldLink RX5 9 "PowerTables$Types" "wears" "[I") (List.mem_of_getElem? (i := 2) rfl)) (fun _ h9 => h9) rfl dX5_printDigits_71 ?_
            refine lv_iload hx hb dX5_printDigits_74 (lv_at hl 0 rfl) ?_
            refine ks_iald hx hb hK hP 1 rfl (by omega) (by decide) dX5_printDigits_76 ?_
            refine lv_aload_n hx hb dX5_printDigits_77 rfl (lv_at hl 1 rfl) ?_
            refine va_get (D := G.1) (ci := 5) (v := .int (nI wl)) (C := RX5) (T := TX5) (N := 3) hx hb hts hin5 hown hK hP 0 rfl rfl 1 (by decide) (hts (.fieldLink RX5 15 "PowerTables$Types" "wearLimit" "I") (List.mem_of_getElem? (i := 4) rfl)) (fun _ h9 => h9) rfl dX5_printDigits_78 ?_
            refine ks_icmp_le (tgt := 88) hx hb dX5_printDigits_81 (by decide) (Nat.lt_of_le_of_lt (wad_le _ _ _ _) (by have := jw (b_ % 10) (by omega); omega)) (by omega) (fun c_81 => ?_) (fun c_81 => ?_)
            · have hq : blu (wad w_ (ab x_) (i_ + 1)) wl = blu w_ wl + (bl + 0) := by rw [hd_, wad_d] at c_81; rw [← wad_s, blu_s (dgt_lt _ _), jbl, if_neg (by omega)]; rfl
              refine lv_iconst (v := nI 0) hx hb dX5_printDigits_88 (by decide) ?_
              refine ks_iaddN hx hb dX5_printDigits_89 ?_
              refine lv_istore_n (lv' := [(3, .int (nI (bl + 0))), (7, .int (nI (b_ % 10))), (0, .ref h0), (1, .long x_), (4, .long (-(lN b_))), (6, .int (nI i_))]) hx hb dX5_printDigits_90 rfl hl (by decide) rfl (fun ls hl => ?_)
              refine lv_lload hx hb dX5_printDigits_91 (lv_at hl 4 rfl) ?_
              refine lv_ldc2 hx hb hown (hts (.constantLong RX5 22 (10)) (List.mem_of_getElem? (i := 1) rfl)) dX5_printDigits_93 ?_
              refine ks_vL (show (10 : Int64) = lN 10 from rfl) ?_
              refine lv_ldiv hx hb dX5_printDigits_96 (by decide) ?_
              refine ks_vL (show (-(lN b_)) / (lN 10) = -(lN (b_ / 10)) from ng_div hb63) ?_
              refine lv_lstore (lv' := [(4, .long (-(lN (b_ / 10)))), (3, .int (nI (bl + 0))), (7, .int (nI (b_ % 10))), (0, .ref h0), (1, .long x_), (6, .int (nI i_))]) hx hb dX5_printDigits_97 hl (by decide) rfl (fun ls hl => ?_)
              refine lv_iinc (v := nI (i_ + 1)) (lv' := [(6, .int (nI (i_ + 1))), (4, .long (-(lN (b_ / 10)))), (3, .int (nI (bl + 0))), (7, .int (nI (b_ % 10))), (0, .ref h0), (1, .long x_)]) hx hb dX5_printDigits_99 hl (k := 5) rfl (ks_inc i_ 1) (by decide) rfl (fun ls hl => ?_)
              refine lv_goto (tgt := 19) hx hb dX5_printDigits_102 (by decide) ?_
              exact ih_19  (i_ + 1) (b_ / 10) (bl + 0) (by omega) (by rw [jb, Nat.div_div_eq_div_mul, ← Nat.pow_succ]) (by omega) (jz1) (hq) (by omega) _ _ hP hD hS ls (lv_sub hl [4, 5, 2, 1, 0] rfl)
            · have hq : blu (wad w_ (ab x_) (i_ + 1)) wl = blu w_ wl + (bl + 1) := by rw [hd_, wad_d] at c_81; rw [← wad_s, blu_s (dgt_lt _ _), jbl, if_pos (by omega)]; omega
              refine lv_iconst (v := nI 1) hx hb dX5_printDigits_84 (by decide) ?_
              refine lv_goto (tgt := 89) hx hb dX5_printDigits_85 (by decide) ?_
              refine ks_iaddN hx hb dX5_printDigits_89 ?_
              refine lv_istore_n (lv' := [(3, .int (nI (bl + 1))), (7, .int (nI (b_ % 10))), (0, .ref h0), (1, .long x_), (4, .long (-(lN b_))), (6, .int (nI i_))]) hx hb dX5_printDigits_90 rfl hl (by decide) rfl (fun ls hl => ?_)
              refine lv_lload hx hb dX5_printDigits_91 (lv_at hl 4 rfl) ?_
              refine lv_ldc2 hx hb hown (hts (.constantLong RX5 22 (10)) (List.mem_of_getElem? (i := 1) rfl)) dX5_printDigits_93 ?_
              refine ks_vL (show (10 : Int64) = lN 10 from rfl) ?_
              refine lv_ldiv hx hb dX5_printDigits_96 (by decide) ?_
              refine ks_vL (show (-(lN b_)) / (lN 10) = -(lN (b_ / 10)) from ng_div hb63) ?_
              refine lv_lstore (lv' := [(4, .long (-(lN (b_ / 10)))), (3, .int (nI (bl + 1))), (7, .int (nI (b_ % 10))), (0, .ref h0), (1, .long x_), (6, .int (nI i_))]) hx hb dX5_printDigits_97 hl (by decide) rfl (fun ls hl => ?_)
              refine lv_iinc (v := nI (i_ + 1)) (lv' := [(6, .int (nI (i_ + 1))), (4, .long (-(lN (b_ / 10)))), (3, .int (nI (bl + 1))), (7, .int (nI (b_ % 10))), (0, .ref h0), (1, .long x_)]) hx hb dX5_printDigits_99 hl (k := 5) rfl (ks_inc i_ 1) (by decide) rfl (fun ls hl => ?_)
              refine lv_goto (tgt := 19) hx hb dX5_printDigits_102 (by decide) ?_
              exact ih_19  (i_ + 1) (b_ / 10) (bl + 1) (by omega) (by rw [jb, Nat.div_div_eq_div_mul, ← Nat.pow_succ]) (by omega) (jz1) (hq) (by omega) _ _ hP hD hS ls (lv_sub hl [4, 5, 2, 1, 0] rfl)
          · refine lv_lload hx hb dX5_printDigits_31 (lv_at hl 3 rfl) ?_
            refine lv_lconst (v := lN 0) hx hb dX5_printDigits_33 rfl ?_
            refine ks_lc_eq (tgt := 105) hx hb dX5_printDigits_34 dX5_printDigits_35 (by decide) (fun c_34 => ?_) (fun c_34 => ?_)
            · have hb0 : b_ = 0 := Classical.byContradiction (fun z => ((ng_ne hb63).mpr z) c_34)
              have hnd : nd (ab x_) = i_ := nd_of (by omega) (by rw [← jb]; exact hb0) jz (by omega)
              refine lv_iload_n hx hb dX5_printDigits_105 rfl (lv_at hl 2 rfl) ?_
              exact cr_iret hx hb hr hlocks hK hP hD hS dX5_printDigits_106 (by rw [hRR]; exact ctR_i (by rw [show prB (ab x_) w_ wl = bl by unfold prB; rw [hnd]; omega]) (by rw [hnd]))
            · have jz1 : ∀ j, 1 ≤ j → j < i_ + 1 → ab x_ / 10 ^ j ≠ 0 := fun j h1 h2 => (Nat.lt_or_ge j i_).elim (fun q => jz j h1 q) (fun q => by rw [show j = i_ by omega, ← jb]; exact (ng_ne hb63).mp c_34)
              refine lv_lload hx hb dX5_printDigits_38 (lv_at hl 3 rfl) ?_
              refine lv_ldc2 hx hb hown (hts (.constantLong RX5 22 (10)) (List.mem_of_getElem? (i := 1) rfl)) dX5_printDigits_40 ?_
              refine ks_vL (show (10 : Int64) = lN 10 from rfl) ?_
              refine lv_lrem hx hb dX5_printDigits_43 (by decide) ?_
              refine lv_lneg hx hb dX5_printDigits_44 ?_
              refine ks_vL (show -((-(lN b_)) - (-(lN b_)) / (lN 10) * (lN 10)) = lN (b_ % 10) from by rw [ng_div hb63]; exact ng_rem) ?_
              refine ks_l2iN hx hb dX5_printDigits_45 ?_
              refine lv_istore (lv' := [(7, .int (nI (b_ % 10))), (0, .ref h0), (1, .long x_), (3, .int (nI bl)), (4, .long (-(lN b_))), (6, .int (nI i_))]) hx hb dX5_printDigits_46 hl (by decide) rfl (fun ls hl => ?_)
              refine lv_aload_n hx hb dX5_printDigits_48 rfl (lv_at hl 1 rfl) ?_
              refine va_get (D := G.1) (ci := 5) (v := .ref h1) (C := RX5) (T := TX5) (N := 3) hx hb hts hin5 hown hK hP 0 rfl rfl 0 (by decide) (hts (.fieldLink RX5 9 "PowerTables$Types" "wears" "[I") (List.mem_of_getElem? (i := 2) rfl)) (fun _ h9 => h9) rfl dX5_printDigits_49 ?_
              refine lv_iload hx hb dX5_printDigits_52 (lv_at hl 0 rfl) ?_
              refine lv_dup2_11 hx hb dX5_printDigits_54 rfl rfl ?_
              refine ks_iald hx hb hK hP 1 rfl (by omega) (by decide) dX5_printDigits_55 ?_
              refine lv_iconst (v := nI 1) hx hb dX5_printDigits_56 (by decide) ?_
              refine ks_iaddN hx hb dX5_printDigits_57 ?_
              refine ks_iast (f' := fun q9 => nI ((wad w_ (ab x_) (i_ + 1)) q9)) hx hb hK hP hD hS 1 rfl (by omega) (by decide) (by rw [upN_upd, hd_, wad_s]) dX5_printDigits_58 (fun Hq lcq hP hD hS => ?_)
              have hP : va_P G.1 vwCl [(h0, .inr (5, [.ref h1, .int (nI wl), .int (nI (dg + i_))])), (h1, .inl (G.2.1, 10, .inl (fun q9 => nI ((wad w_ (ab x_) (i_ + 1)) q9))))] _ := hP
              have hD : va_D A [(h0, .inr (5, [.ref h1, .int (nI wl), .int (nI (dg + i_))])), (h1, .inl (G.2.1, 10, .inl (fun q9 => nI ((wad w_ (ab x_) (i_ + 1)) q9))))] := hD
              refine lv_aload_n hx hb dX5_printDigits_59 rfl (lv_at hl 1 rfl) ?_
              refine lv_dup hx hb dX5_printDigits_60 rfl ?_
              refine va_get (D := G.1) (ci := 5) (v := .int (nI (dg + i_))) (C := RX5) (T := TX5) (N := 3) hx hb hts hin5 hown hK hP 0 rfl rfl 2 (by decide) (hts (.fieldLink RX5 19 "PowerTables$Types" "digitsPrinted" "I") (List.mem_of_getElem? (i := 3) rfl)) (fun _ h9 => h9) rfl dX5_printDigits_61 ?_
              refine lv_iconst (v := nI 1) hx hb dX5_printDigits_64 (by decide) ?_
              refine ks_iaddN hx hb dX5_printDigits_65 ?_
              refine va_put (D := G.1) (ci := 5) (v := .int (nI (dg + i_ + 1))) (ty := .int) (C := RX5) (T := TX5) (N := 3) hx hb hts hin5 tyX5 tyX5_ok nmX5 hown hK hP hD hS 0 rfl rfl 2 (by decide) (hts (.fieldLink RX5 19 "PowerTables$Types" "digitsPrinted" "I") (List.mem_of_getElem? (i := 3) rfl)) (fun _ h9 => h9) rfl (tyX5_ok 2 (by decide)) rfl rfl (Nat.le_of_ble_eq_true rfl) dX5_printDigits_66 (fun Hq lcq hP hD hS => ?_)
              have hP : va_P G.1 vwCl [(h0, .inr (5, [.ref h1, .int (nI wl), .int (nI (dg + i_ + 1))])), (h1, .inl (G.2.1, 10, .inl (fun q9 => nI ((wad w_ (ab x_) (i_ + 1)) q9))))] _ := hP
              have hD : va_D A [(h0, .inr (5, [.ref h1, .int (nI wl), .int (nI (dg + i_ + 1))])), (h1, .inl (G.2.1, 10, .inl (fun q9 => nI ((wad w_ (ab x_) (i_ + 1)) q9))))] := hD
              refine lv_iload_n hx hb dX5_printDigits_69 rfl (lv_at hl 3 rfl) ?_
              refine lv_aload_n hx hb dX5_printDigits_70 rfl (lv_at hl 1 rfl) ?_
              refine va_get (D := G.1) (ci := 5) (v := .ref h1) (C := RX5) (T := TX5) (N := 3) hx hb hts hin5 hown hK hP 0 rfl rfl 0 (by decide) (hts (.fieldLink RX5 9 "PowerTables$Types" "wears" "[I") (List.mem_of_getElem? (i := 2) rfl)) (fun _ h9 => h9) rfl dX5_printDigits_71 ?_
              refine lv_iload hx hb dX5_printDigits_74 (lv_at hl 0 rfl) ?_
              refine ks_iald hx hb hK hP 1 rfl (by omega) (by decide) dX5_printDigits_76 ?_
              refine lv_aload_n hx hb dX5_printDigits_77 rfl (lv_at hl 1 rfl) ?_
              refine va_get (D := G.1) (ci := 5) (v := .int (nI wl)) (C := RX5) (T := TX5) (N := 3) hx hb hts hin5 hown hK hP 0 rfl rfl 1 (by decide) (hts (.fieldLink RX5 15 "PowerTables$Types" "wearLimit" "I") (List.mem_of_getElem? (i := 4) rfl)) (fun _ h9 => h9) rfl dX5_printDigits_78 ?_
              refine ks_icmp_le (tgt := 88) hx hb dX5_printDigits_81 (by decide) (Nat.lt_of_le_of_lt (wad_le _ _ _ _) (by have := jw (b_ % 10) (by omega); omega)) (by omega) (fun c_81 => ?_) (fun c_81 => ?_)
              · have hq : blu (wad w_ (ab x_) (i_ + 1)) wl = blu w_ wl + (bl + 0) := by rw [hd_, wad_d] at c_81; rw [← wad_s, blu_s (dgt_lt _ _), jbl, if_neg (by omega)]; rfl
                refine lv_iconst (v := nI 0) hx hb dX5_printDigits_88 (by decide) ?_
                refine ks_iaddN hx hb dX5_printDigits_89 ?_
                refine lv_istore_n (lv' := [(3, .int (nI (bl + 0))), (7, .int (nI (b_ % 10))), (0, .ref h0), (1, .long x_), (4, .long (-(lN b_))), (6, .int (nI i_))]) hx hb dX5_printDigits_90 rfl hl (by decide) rfl (fun ls hl => ?_)
                refine lv_lload hx hb dX5_printDigits_91 (lv_at hl 4 rfl) ?_
                refine lv_ldc2 hx hb hown (hts (.constantLong RX5 22 (10)) (List.mem_of_getElem? (i := 1) rfl)) dX5_printDigits_93 ?_
                refine ks_vL (show (10 : Int64) = lN 10 from rfl) ?_
                refine lv_ldiv hx hb dX5_printDigits_96 (by decide) ?_
                refine ks_vL (show (-(lN b_)) / (lN 10) = -(lN (b_ / 10)) from ng_div hb63) ?_
                refine lv_lstore (lv' := [(4, .long (-(lN (b_ / 10)))), (3, .int (nI (bl + 0))), (7, .int (nI (b_ % 10))), (0, .ref h0), (1, .long x_), (6, .int (nI i_))]) hx hb dX5_printDigits_97 hl (by decide) rfl (fun ls hl => ?_)
                refine lv_iinc (v := nI (i_ + 1)) (lv' := [(6, .int (nI (i_ + 1))), (4, .long (-(lN (b_ / 10)))), (3, .int (nI (bl + 0))), (7, .int (nI (b_ % 10))), (0, .ref h0), (1, .long x_)]) hx hb dX5_printDigits_99 hl (k := 5) rfl (ks_inc i_ 1) (by decide) rfl (fun ls hl => ?_)
                refine lv_goto (tgt := 19) hx hb dX5_printDigits_102 (by decide) ?_
                exact ih_19  (i_ + 1) (b_ / 10) (bl + 0) (by omega) (by rw [jb, Nat.div_div_eq_div_mul, ← Nat.pow_succ]) (by omega) (jz1) (hq) (by omega) _ _ hP hD hS ls (lv_sub hl [4, 5, 2, 1, 0] rfl)
              · have hq : blu (wad w_ (ab x_) (i_ + 1)) wl = blu w_ wl + (bl + 1) := by rw [hd_, wad_d] at c_81; rw [← wad_s, blu_s (dgt_lt _ _), jbl, if_pos (by omega)]; omega
                refine lv_iconst (v := nI 1) hx hb dX5_printDigits_84 (by decide) ?_
                refine lv_goto (tgt := 89) hx hb dX5_printDigits_85 (by decide) ?_
                refine ks_iaddN hx hb dX5_printDigits_89 ?_
                refine lv_istore_n (lv' := [(3, .int (nI (bl + 1))), (7, .int (nI (b_ % 10))), (0, .ref h0), (1, .long x_), (4, .long (-(lN b_))), (6, .int (nI i_))]) hx hb dX5_printDigits_90 rfl hl (by decide) rfl (fun ls hl => ?_)
                refine lv_lload hx hb dX5_printDigits_91 (lv_at hl 4 rfl) ?_
                refine lv_ldc2 hx hb hown (hts (.constantLong RX5 22 (10)) (List.mem_of_getElem? (i := 1) rfl)) dX5_printDigits_93 ?_
                refine ks_vL (show (10 : Int64) = lN 10 from rfl) ?_
                refine lv_ldiv hx hb dX5_printDigits_96 (by decide) ?_
                refine ks_vL (show (-(lN b_)) / (lN 10) = -(lN (b_ / 10)) from ng_div hb63) ?_
                refine lv_lstore (lv' := [(4, .long (-(lN (b_ / 10)))), (3, .int (nI (bl + 1))), (7, .int (nI (b_ % 10))), (0, .ref h0), (1, .long x_), (6, .int (nI i_))]) hx hb dX5_printDigits_97 hl (by decide) rfl (fun ls hl => ?_)
                refine lv_iinc (v := nI (i_ + 1)) (lv' := [(6, .int (nI (i_ + 1))), (4, .long (-(lN (b_ / 10)))), (3, .int (nI (bl + 1))), (7, .int (nI (b_ % 10))), (0, .ref h0), (1, .long x_)]) hx hb dX5_printDigits_99 hl (k := 5) rfl (ks_inc i_ 1) (by decide) rfl (fun ls hl => ?_)
                refine lv_goto (tgt := 19) hx hb dX5_printDigits_102 (by decide) ?_
                exact ih_19  (i_ + 1) (b_ / 10) (bl + 1) (by omega) (by rw [jb, Nat.div_div_eq_div_mul, ← Nat.pow_succ]) (by omega) (jz1) (hq) (by omega) _ _ hP hD hS ls (lv_sub hl [4, 5, 2, 1, 0] rfl)
    exact L_19 _ 0 (ab x_) 0 (Nat.lt_succ_self _) ((Nat.div_one _).symm) (by omega) (fun j h1 h2 => absurd h2 (Nat.not_lt_zero _)) (rfl) (by omega) _ _ hP hD hS ls (lv_sub hl [3, 4, 2, 1, 0] rfl)
set_option maxHeartbeats 4000000 in
set_option maxRecDepth 100000 in
theorem c_X2_putRight (G : GG) (l : Launch) (h0 : Nat) (h1 : Nat) (r_ : Nat → Int64) (k_ : Nat) (g_ : Nat) (w0_ : Nat) (w1_ : Nat) (f_ : Nat → Int64) (n_ : Nat) (hk : k_ ≤ 5) (hg : g_ < 2 ^ 30) : Cr G l yX2_putRight wsX2_putRight ({ frames := 1, cells := 0, slots := 0, locals := 25 }) 0 0 [.ref h0, .int (nI k_), .int (nI g_), .ref w0_] [(h0, .inr (2, [.ref h1])), (h1, .inl (G.2.2.1, 6, .inr (.inl (r_)))), (w0_, .inr (0, [.ref w1_, .int (nI n_)])), (w1_, .inl (G.2.2.1, 40, .inr (.inl (f_))))] (fun (vv1 : Option Value) (ww1 : va_W) => ∃ (fz : Nat → Int64) (nz : Nat), vv1 = none ∧ ww1 = [(h0, .inr (2, [.ref h1])), (h1, .inl (G.2.2.1, 6, .inr (.inl (rgt k_ g_)))), (w0_, .inr (0, [.ref w1_, .int (nI nz)])), (w1_, .inl (G.2.2.1, 40, .inr (.inl (fz))))]) := by
  refine cr_intro (cc := cX2_putRight) (maxL := 5) (ret := none) (own := RX2) (by decide) rfl rfl (Nat.le_of_ble_eq_true rfl) ?_
  intro p e s m args below meth c A hx hb hr hml hts hown hlocks hnm hNX hP hK hD hA hS ls hl
  obtain ⟨RR, hRR⟩ : ∃ RR, RR = (fun (vv1 : Option Value) (ww1 : va_W) => ∃ (fz : Nat → Int64) (nz : Nat), vv1 = none ∧ ww1 = [(h0, .inr (2, [.ref h1])), (h1, .inl (G.2.2.1, 6, .inr (.inl (rgt k_ g_)))), (w0_, .inr (0, [.ref w1_, .int (nI nz)])), (w1_, .inl (G.2.2.1, 40, .inr (.inl (fz))))]) := ⟨_, rfl⟩
  rw [← hRR]
  have hl : lv_has ls 5 [(0, .ref h0), (1, .int (nI k_)), (2, .int (nI g_)), (3, .ref w0_)] := hl
  have hin2 : ∀ w ∈ u_ws RX2 TX2 1, w ∈ wsX2_putRight := fun w h => List.mem_cons_of_mem _ (List.mem_append_left _ (List.mem_append_right _ h))
  refine lv_aload_n hx hb dX2_putRight_0 rfl (lv_at hl 3 rfl) ?_
  refine cr_V (wr := [(h0, .inr (2, [.ref h1])), (h1, .inl (G.2.2.1, 6, .inr (.inl (r_))))]) (As := []) (rest := []) ⟨hx, hb, hml, hown, hts⟩ (c_X0_clear G l w0_ w1_ f_ n_ ) (cwV 0 hts gX2_putRight_X0_clear rfl rfl rfl (by decide +kernel) ⟨Nat.le_of_ble_eq_true rfl, Nat.le_of_ble_eq_true rfl⟩) dX2_putRight_1 hK hNX hP hD hS hA hl 2 0 rfl rfl rfl [2, 3] [0, 1] rfl rfl rfl rfl (by decide) rfl (Nat.le_of_ble_eq_true rfl) ⟨Nat.le_of_ble_eq_true rfl, Nat.le_of_ble_eq_true rfl⟩ rfl (fun v' w' Hq lcq hR' hP hD hS => ?_)
  obtain ⟨rfl, rfl⟩ := hR'
  have hP : va_P G.1 vwCl [(h0, .inr (2, [.ref h1])), (h1, .inl (G.2.2.1, 6, .inr (.inl (r_)))), (w0_, .inr (0, [.ref w1_, .int (nI 0)])), (w1_, .inl (G.2.2.1, 40, .inr (.inl (f_))))] _ := hP.sub [0, 1, 2, 3] rfl
  have hD : va_D A [(h0, .inr (2, [.ref h1])), (h1, .inl (G.2.2.1, 6, .inr (.inl (r_)))), (w0_, .inr (0, [.ref w1_, .int (nI 0)])), (w1_, .inl (G.2.2.1, 40, .inr (.inl (f_))))] := hD.sub [0, 1, 2, 3] rfl rfl
  refine lv_iconst (v := nI 0) hx hb dX2_putRight_4 (by decide) ?_
  refine lv_istore (lv' := [(4, .int (nI 0)), (0, .ref h0), (1, .int (nI k_)), (2, .int (nI g_)), (3, .ref w0_)]) hx hb dX2_putRight_5 hl (by decide) rfl (fun ls hl => ?_)
  have L_7 : ∀ (n_7 : Nat) (i_ : Nat) (_ : 7 - i_ < n_7) (hi_ : i_ ≤ 6) (Hq : Heap) (lcq : List Loc), va_P G.1 vwCl [(h0, .inr (2, [.ref h1])), (h1, .inl (G.2.2.1, 6, .inr (.inl (r_)))), (w0_, .inr (0, [.ref w1_, .int (nI i_)])), (w1_, .inl (G.2.2.1, 40, .inr (.inl (cpu f_ (prw k_ g_) i_))))] Hq → va_D A [(h0, .inr (2, [.ref h1])), (h1, .inl (G.2.2.1, 6, .inr (.inl (r_)))), (w0_, .inr (0, [.ref w1_, .int (nI i_)])), (w1_, .inl (G.2.2.1, 40, .inr (.inl (cpu f_ (prw k_ g_) i_))))] → va_S A s.heap Hq lcq → ∀ ls : Array Slot, lv_has ls 5 [(0, .ref h0), (1, .int (nI k_)), (2, .int (nI g_)), (3, .ref w0_), (4, .int (nI i_))] → W p l e ({ frames := 1, cells := 0, slots := 0, locals := 25 }) s m args below meth c Hq lcq 0 0 (MQ below (cr_Q G RR A) args s 0 0 A) (F0 m 7 ls []) := by
    intro n_7
    induction n_7 with
    | zero => intro i_ hmu_7; exact absurd hmu_7 (Nat.not_lt_zero _)
    | succ n_7 ih_7 =>
      intro i_ hmu_7 hi_ Hq lcq hP hD hS ls hl
      refine lv_iload hx hb dX2_putRight_7 (lv_at hl 4 rfl) ?_
      refine lv_bipush (v := nI 6) hx hb dX2_putRight_9 (by decide) ?_
      refine ks_icmp_ge (tgt := 33) hx hb dX2_putRight_11 (by decide) (by omega) (by omega) (fun c_11 => ?_) (fun c_11 => ?_)
      · obtain rfl : i_ = 6 := by omega
        refine lv_iconst (v := nI 0) hx hb dX2_putRight_33 (by decide) ?_
        refine lv_istore (lv' := [(4, .int (nI 0)), (0, .ref h0), (1, .int (nI k_)), (2, .int (nI g_)), (3, .ref w0_)]) hx hb dX2_putRight_34 hl (by decide) rfl (fun ls hl => ?_)
        have L_36 : ∀ (n_36 : Nat) (j_ : Nat) (f2_ : Nat → Int64) (n2_ : Nat) (_ : 7 - j_ < n_36) (hj : j_ ≤ 6) (hn2 : n2_ = 6 - j_) (hf : ∀ q, q < n2_ → f2_ q = dif (prw k_ g_) j_ q) (Hq : Heap) (lcq : List Loc), va_P G.1 vwCl [(h0, .inr (2, [.ref h1])), (h1, .inl (G.2.2.1, 6, .inr (.inl (cpu r_ (rgt k_ g_) j_)))), (w0_, .inr (0, [.ref w1_, .int (nI n2_)])), (w1_, .inl (G.2.2.1, 40, .inr (.inl (f2_))))] Hq → va_D A [(h0, .inr (2, [.ref h1])), (h1, .inl (G.2.2.1, 6, .inr (.inl (cpu r_ (rgt k_ g_) j_)))), (w0_, .inr (0, [.ref w1_, .int (nI n2_)])), (w1_, .inl (G.2.2.1, 40, .inr (.inl (f2_))))] → va_S A s.heap Hq lcq → ∀ ls : Array Slot, lv_has ls 5 [(0, .ref h0), (3, .ref w0_), (4, .int (nI j_))] → W p l e ({ frames := 1, cells := 0, slots := 0, locals := 25 }) s m args below meth c Hq lcq 0 0 (MQ below (cr_Q G RR A) args s 0 0 A) (F0 m 36 ls []) := by
          intro n_36
          induction n_36 with
          | zero => intro j_ f2_ n2_ hmu_36; exact absurd hmu_36 (Nat.not_lt_zero _)
          | succ n_36 ih_36 =>
            intro j_ f2_ n2_ hmu_36 hj hn2 hf Hq lcq hP hD hS ls hl
            refine lv_iload hx hb dX2_putRight_36 (lv_at hl 2 rfl) ?_
            refine lv_bipush (v := nI 6) hx hb dX2_putRight_38 (by decide) ?_
            refine ks_icmp_ge (tgt := 64) hx hb dX2_putRight_40 (by decide) (by omega) (by omega) (fun c_40 => ?_) (fun c_40 => ?_)
            · obtain rfl : j_ = 6 := by omega
              have hP := hP.cgJ 1 (g := rgt k_ g_) rfl (fun k_ hk => cpu_lo hk)
              have hD := hD.set (p := 1) (e := .inl (G.2.2.1, 6, .inr <| .inl (rgt k_ g_))) rfl
              have hP : va_P G.1 vwCl [(h0, .inr (2, [.ref h1])), (h1, .inl (G.2.2.1, 6, .inr (.inl (rgt k_ g_)))), (w0_, .inr (0, [.ref w1_, .int (nI n2_)])), (w1_, .inl (G.2.2.1, 40, .inr (.inl (f2_))))] _ := hP
              have hD : va_D A [(h0, .inr (2, [.ref h1])), (h1, .inl (G.2.2.1, 6, .inr (.inl (rgt k_ g_)))), (w0_, .inr (0, [.ref w1_, .int (nI n2_)])), (w1_, .inl (G.2.2.1, 40, .inr (.inl (f2_))))] := hD
              exact cr_vret hx hb hr hlocks hK hP hD hS dX2_putRight_64 (by rw [hRR]; exact ⟨_, _, rfl, rfl⟩)
            · refine lv_aload_n hx hb dX2_putRight_43 rfl (lv_at hl 0 rfl) ?_
              refine va_get (D := G.1) (ci := 2) (v := .ref h1) (C := RX2) (T := TX2) (N := 1) hx hb hts hin2 hown hK hP 0 rfl rfl 0 (by decide) (hts (.fieldLink RX2 9 "PowerTables$Registers" "numbers" "[J") (List.mem_of_getElem? (i := 1) rfl)) (fun _ h9 => h9) rfl dX2_putRight_44 ?_
              refine lv_iload hx hb dX2_putRight_47 (lv_at hl 2 rfl) ?_
              refine lv_aload_n hx hb dX2_putRight_49 rfl (lv_at hl 1 rfl) ?_
              refine cr_V (wr := [(h0, .inr (2, [.ref h1])), (h1, .inl (G.2.2.1, 6, .inr (.inl (cpu r_ (rgt k_ g_) j_))))]) (As := []) (rest := [.int (nI j_), .ref h1]) ⟨hx, hb, hml, hown, hts⟩ (c_X0_leading G l w0_ w1_ f2_ n2_ (by omega) (by omega)) (cwV 0 hts gX2_putRight_X0_leading rfl rfl rfl (by decide +kernel) ⟨Nat.le_of_ble_eq_true rfl, Nat.le_of_ble_eq_true rfl⟩) dX2_putRight_50 hK hNX hP hD hS hA hl 2 0 rfl rfl rfl [2, 3] [0, 1] rfl rfl rfl rfl (by decide) rfl (Nat.le_of_ble_eq_true rfl) ⟨Nat.le_of_ble_eq_true rfl, Nat.le_of_ble_eq_true rfl⟩ rfl (fun v' w' Hq lcq hR' hP hD hS => ?_)
              obtain ⟨rfl, rfl⟩ := hR'
              have hP : va_P G.1 vwCl [(h0, .inr (2, [.ref h1])), (h1, .inl (G.2.2.1, 6, .inr (.inl (cpu r_ (rgt k_ g_) j_)))), (w0_, .inr (0, [.ref w1_, .int (nI n2_)])), (w1_, .inl (G.2.2.1, 40, .inr (.inl (f2_))))] _ := hP.sub [0, 1, 2, 3] rfl
              have hD : va_D A [(h0, .inr (2, [.ref h1])), (h1, .inl (G.2.2.1, 6, .inr (.inl (cpu r_ (rgt k_ g_) j_)))), (w0_, .inr (0, [.ref w1_, .int (nI n2_)])), (w1_, .inl (G.2.2.1, 40, .inr (.inl (f2_))))] := hD.sub [0, 1, 2, 3] rfl rfl
              refine ks_last (f' := cpu r_ (rgt k_ g_) (j_ + 1)) hx hb hK hP hD hS 1 rfl (by omega) (by decide) (by rw [hf 0 (by omega)]; exact cpu_sL _ _ _) dX2_putRight_53 (fun Hq lcq hP hD hS => ?_)
              have hP : va_P G.1 vwCl [(h0, .inr (2, [.ref h1])), (h1, .inl (G.2.2.1, 6, .inr (.inl (cpu r_ (rgt k_ g_) (j_ + 1))))), (w0_, .inr (0, [.ref w1_, .int (nI n2_)])), (w1_, .inl (G.2.2.1, 40, .inr (.inl (f2_))))] _ := hP
              have hD : va_D A [(h0, .inr (2, [.ref h1])), (h1, .inl (G.2.2.1, 6, .inr (.inl (cpu r_ (rgt k_ g_) (j_ + 1))))), (w0_, .inr (0, [.ref w1_, .int (nI n2_)])), (w1_, .inl (G.2.2.1, 40, .inr (.inl (f2_))))] := hD
              refine lv_aload_n hx hb dX2_putRight_54 rfl (lv_at hl 1 rfl) ?_
              refine cr_V (wr := [(h0, .inr (2, [.ref h1])), (h1, .inl (G.2.2.1, 6, .inr (.inl (cpu r_ (rgt k_ g_) (j_ + 1)))))]) (As := []) (rest := []) ⟨hx, hb, hml, hown, hts⟩ (c_X0_raiseOrder G l w0_ w1_ f2_ n2_ (by omega)) (cwV 0 hts gX2_putRight_X0_raiseOrder rfl rfl rfl (by decide +kernel) ⟨Nat.le_of_ble_eq_true rfl, Nat.le_of_ble_eq_true rfl⟩) dX2_putRight_55 hK hNX hP hD hS hA hl 2 0 rfl rfl rfl [2, 3] [0, 1] rfl rfl rfl rfl (by decide) rfl (Nat.le_of_ble_eq_true rfl) ⟨Nat.le_of_ble_eq_true rfl, Nat.le_of_ble_eq_true rfl⟩ rfl (fun v' w' Hq lcq hR' hP hD hS => ?_)
              obtain ⟨rfl, rfl⟩ := hR'
              have hP : va_P G.1 vwCl [(h0, .inr (2, [.ref h1])), (h1, .inl (G.2.2.1, 6, .inr (.inl (cpu r_ (rgt k_ g_) (j_ + 1))))), (w0_, .inr (0, [.ref w1_, .int (nI (n2_ - 1))])), (w1_, .inl (G.2.2.1, 40, .inr (.inl (dfu f2_ (n2_ - 1)))))] _ := hP.sub [0, 1, 2, 3] rfl
              have hD : va_D A [(h0, .inr (2, [.ref h1])), (h1, .inl (G.2.2.1, 6, .inr (.inl (cpu r_ (rgt k_ g_) (j_ + 1))))), (w0_, .inr (0, [.ref w1_, .int (nI (n2_ - 1))])), (w1_, .inl (G.2.2.1, 40, .inr (.inl (dfu f2_ (n2_ - 1)))))] := hD.sub [0, 1, 2, 3] rfl rfl
              refine lv_iinc (v := nI (j_ + 1)) (lv' := [(4, .int (nI (j_ + 1))), (0, .ref h0), (3, .ref w0_)]) hx hb dX2_putRight_58 hl (k := 2) rfl (ks_inc j_ 1) (by decide) rfl (fun ls hl => ?_)
              refine lv_goto (tgt := 36) hx hb dX2_putRight_61 (by decide) ?_
              exact ih_36  (j_ + 1) (dfu f2_ (n2_ - 1)) (n2_ - 1) (by omega) (by omega) (by omega) (fun q hq => by rw [dfu_lo (by omega), hf _ (by omega), hf _ (by omega)]; rfl) _ _ hP hD hS ls (lv_sub hl [1, 2, 0] rfl)
        rw [← cpu_0 r_ (rgt k_ g_)] at hP hD
        exact L_36 _ 0 (cpu f_ (prw k_ g_) 6) 6 (Nat.lt_succ_self _) (by omega) (by omega) (fun q hq => cpu_lo hq) _ _ hP hD hS ls (lv_sub hl [1, 4, 0] rfl)
      · refine lv_aload_n hx hb dX2_putRight_14 rfl (lv_at hl 3 rfl) ?_
        refine lv_iload_n hx hb dX2_putRight_15 rfl (lv_at hl 2 rfl) ?_
        refine lv_iload hx hb dX2_putRight_16 (lv_at hl 4 rfl) ?_
        refine ks_iaddN hx hb dX2_putRight_18 ?_
        refine ks_i2lN hx hb dX2_putRight_19 (by omega) ?_
        refine lv_iload_n hx hb dX2_putRight_20 rfl (lv_at hl 1 rfl) ?_
        refine cr_S (wr := [(h0, .inr (2, [.ref h1])), (h1, .inl (G.2.2.1, 6, .inr (.inl (r_)))), (w0_, .inr (0, [.ref w1_, .int (nI i_)])), (w1_, .inl (G.2.2.1, 40, .inr (.inl (cpu f_ (prw k_ g_) i_))))]) (As := [.long (lN (g_ + i_)), .int (nI k_)]) (rest := [.ref w0_]) ⟨hx, hb, hml, hown, hts⟩ (c_X4_raise G l (lN (g_ + i_)) k_ (by omega)) (va_cwS 2 hts gX2_putRight_X4_raise rfl rfl rfl (by decide +kernel) ⟨Nat.le_of_ble_eq_true rfl, Nat.le_of_ble_eq_true rfl⟩) dX2_putRight_21 hK hNX hP hD hS hA hl [] [0, 1, 2, 3] rfl rfl rfl rfl (by decide) rfl (Nat.le_of_ble_eq_true rfl) ⟨Nat.le_of_ble_eq_true rfl, Nat.le_of_ble_eq_true rfl⟩ rfl (fun v' w' Hq lcq hR' hP hD hS => ?_)
        obtain ⟨rfl, rfl⟩ := hR'
        have hP : va_P G.1 vwCl [(h0, .inr (2, [.ref h1])), (h1, .inl (G.2.2.1, 6, .inr (.inl (r_)))), (w0_, .inr (0, [.ref w1_, .int (nI i_)])), (w1_, .inl (G.2.2.1, 40, .inr (.inl (cpu f_ (prw k_ g_) i_))))] _ := hP.sub [0, 1, 2, 3] rfl
        have hD : va_D A [(h0, .inr (2, [.ref h1])), (h1, .inl (G.2.2.1, 6, .inr (.inl (r_)))), (w0_, .inr (0, [.ref w1_, .int (nI i_)])), (w1_, .inl (G.2.2.1, 40, .inr (.inl (cpu f_ (prw k_ g_) i_))))] := hD.sub [0, 1, 2, 3] rfl rfl
        refine cr_V (wr := [(h0, .inr (2, [.ref h1])), (h1, .inl (G.2.2.1, 6, .inr (.inl (r_))))]) (As := [.long (pwr (lN (g_ + i_)) k_)]) (rest := []) ⟨hx, hb, hml, hown, hts⟩ (c_X0_put G l w0_ w1_ (cpu f_ (prw k_ g_) i_) i_ (pwr (lN (g_ + i_)) k_) (by omega)) (cwV 1 hts gX2_putRight_X0_put rfl rfl rfl (by decide +kernel) ⟨Nat.le_of_ble_eq_true rfl, Nat.le_of_ble_eq_true rfl⟩) dX2_putRight_24 hK hNX hP hD hS hA hl 2 0 rfl rfl rfl [2, 3] [0, 1] rfl rfl rfl rfl (by decide) rfl (Nat.le_of_ble_eq_true rfl) ⟨Nat.le_of_ble_eq_true rfl, Nat.le_of_ble_eq_true rfl⟩ rfl (fun v' w' Hq lcq hR' hP hD hS => ?_)
        obtain ⟨rfl, rfl⟩ := hR'
        have hP : va_P G.1 vwCl [(h0, .inr (2, [.ref h1])), (h1, .inl (G.2.2.1, 6, .inr (.inl (r_)))), (w0_, .inr (0, [.ref w1_, .int (nI (i_ + 1))])), (w1_, .inl (G.2.2.1, 40, .inr (.inl (vp_updL (cpu f_ (prw k_ g_) i_) i_ (pwr (lN (g_ + i_)) k_)))))] _ := hP.sub [0, 1, 2, 3] rfl
        have hD : va_D A [(h0, .inr (2, [.ref h1])), (h1, .inl (G.2.2.1, 6, .inr (.inl (r_)))), (w0_, .inr (0, [.ref w1_, .int (nI (i_ + 1))])), (w1_, .inl (G.2.2.1, 40, .inr (.inl (vp_updL (cpu f_ (prw k_ g_) i_) i_ (pwr (lN (g_ + i_)) k_)))))] := hD.sub [0, 1, 2, 3] rfl rfl
        have hP := hP.cgJ 3 (g := cpu f_ (prw k_ g_) (i_ + 1)) rfl (fun q _ => congrFun (cpu_sL f_ (prw k_ g_) i_) q)
        have hD := hD.set (p := 3) (e := .inl (G.2.2.1, 40, .inr <| .inl (cpu f_ (prw k_ g_) (i_ + 1)))) rfl
        have hP : va_P G.1 vwCl [(h0, .inr (2, [.ref h1])), (h1, .inl (G.2.2.1, 6, .inr (.inl (r_)))), (w0_, .inr (0, [.ref w1_, .int (nI (i_ + 1))])), (w1_, .inl (G.2.2.1, 40, .inr (.inl (cpu f_ (prw k_ g_) (i_ + 1)))))] _ := hP
        have hD : va_D A [(h0, .inr (2, [.ref h1])), (h1, .inl (G.2.2.1, 6, .inr (.inl (r_)))), (w0_, .inr (0, [.ref w1_, .int (nI (i_ + 1))])), (w1_, .inl (G.2.2.1, 40, .inr (.inl (cpu f_ (prw k_ g_) (i_ + 1)))))] := hD
        refine lv_iinc (v := nI (i_ + 1)) (lv' := [(4, .int (nI (i_ + 1))), (0, .ref h0), (1, .int (nI k_)), (2, .int (nI g_)), (3, .ref w0_)]) hx hb dX2_putRight_27 hl (k := 4) rfl (ks_inc i_ 1) (by decide) rfl (fun ls hl => ?_)
        refine lv_goto (tgt := 7) hx hb dX2_putRight_30 (by decide) ?_
        exact ih_7  (i_ + 1) (by omega) (by omega) _ _ hP hD hS ls (lv_sub hl [1, 2, 3, 4, 0] rfl)
  rw [← cpu_0 f_ (prw k_ g_)] at hP hD
  exact L_7 _ 0 (Nat.lt_succ_self _) (by omega) _ _ hP hD hS ls (lv_sub hl [1, 2, 3, 4, 0] rfl)
