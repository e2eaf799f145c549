set_option maxHeartbeats 4000000 in
set_option maxRecDepth 100000 in
theorem c_X7_isText (G : GG) (l : Launch) (y_ : Nat) (ca : Nat → Nat) (ke : Nat) (ty_ : Nat) (th : Nat) (po : Nat) (fl_ : Prop) (tl : Nat) (cs : Nat → Nat) (td : Nat → Int32) (jty : ty_ ≤ 60) (jcs : ∀ k, k < 60 → cs k < 2 ^ 30) : Cr G l yX7_isText wsX7_isText ({ frames := 5, cells := 0, slots := 0, locals := 112 }) 0 0 [.ref y_] [(y_, .inr (7, [.ref (ca 0), .ref (ca 1), .ref (ca 2), .int (nI ke), .ref (ca 3), .int (nI ty_), .int (nI th), .int (nI po), .int (bI fl_), .ref (ca 4), .int (nI tl), .ref (ca 5)])), (ca 3, .inl (G.2.1, 60, .inl (fun q9 => nI (cs q9)))), (ca 4, .inl (G.2.1, 124, .inl (td)))] (fun (vv1 : Option Value) (ww1 : va_W) => ∃ (p9_ : Nat) (m9_ : Nat) (t9 : Nat → Int32) (fl9 : Prop) (P9 : Nat → Nat), vv1 = (some (.int (bI (rnA cs ty_ = 9 ∨ rnA cs ty_ = 2 ∨ rnA cs ty_ = 3)))) ∧ ww1 = [(y_, .inr (7, [.ref (ca 0), .ref (ca 1), .ref (ca 2), .int (nI ke), .ref (ca 3), .int (nI ty_), .int (nI th), .int (nI p9_), .int (bI fl9), .ref (ca 4), .int (nI m9_), .ref (ca 5)])), (ca 3, .inl (G.2.1, 60, .inl (fun q9 => nI (cs q9)))), (ca 4, .inl (G.2.1, 124, .inl (t9)))] ∧ (((rnA cs ty_ = 9 ∨ rnA cs ty_ = 2 ∨ rnA cs ty_ = 3) → TK cs ty_ t9 m9_ P9 ∧ P9 m9_ = ty_ + 1 ∧ m9_ ≤ 31) ∧ (¬ (rnA cs ty_ = 9 ∨ rnA cs ty_ = 2 ∨ rnA cs ty_ = 3) → (fl9 → p9_ = erI cs ty_) ∧ (¬ fl9 → erI cs ty_ = ty_)))) := by
  refine cr_intro (cc := cX7_isText) (maxL := 2) (ret := (some .boolean)) (own := RX7) (by decide) rfl rfl (Nat.le_of_ble_eq_true rfl) ?_
  intro p e s m args below meth c A hx hb hr hml hts hown hlocks hnm hNX hP hK hD hA hS ls hl
  obtain ⟨RR, hRR⟩ : ∃ RR, RR = (fun (vv1 : Option Value) (ww1 : va_W) => ∃ (p9_ : Nat) (m9_ : Nat) (t9 : Nat → Int32) (fl9 : Prop) (P9 : Nat → Nat), vv1 = (some (.int (bI (rnA cs ty_ = 9 ∨ rnA cs ty_ = 2 ∨ rnA cs ty_ = 3)))) ∧ ww1 = [(y_, .inr (7, [.ref (ca 0), .ref (ca 1), .ref (ca 2), .int (nI ke), .ref (ca 3), .int (nI ty_), .int (nI th), .int (nI p9_), .int (bI fl9), .ref (ca 4), .int (nI m9_), .ref (ca 5)])), (ca 3, .inl (G.2.1, 60, .inl (fun q9 => nI (cs q9)))), (ca 4, .inl (G.2.1, 124, .inl (t9)))] ∧ (((rnA cs ty_ = 9 ∨ rnA cs ty_ = 2 ∨ rnA cs ty_ = 3) → TK cs ty_ t9 m9_ P9 ∧ P9 m9_ = ty_ + 1 ∧ m9_ ≤ 31) ∧ (¬ (rnA cs ty_ = 9 ∨ rnA cs ty_ = 2 ∨ rnA cs ty_ = 3) → (fl9 → p9_ = erI cs ty_) ∧ (¬ fl9 → erI cs ty_ = ty_)))) := ⟨_, rfl⟩
  rw [← hRR]
  have hl : lv_has ls 2 [(0, .ref y_)] := hl
  have hin7 : ∀ w ∈ u_ws RX7 TX7 12, w ∈ wsX7_isText := fun w h => List.mem_cons_of_mem _ (List.mem_append_right _ h)
  refine lv_aload_n hx hb dX7_isText_0 rfl (lv_at hl 0 rfl) ?_
  refine lv_iconst (v := nI 0) hx hb dX7_isText_1 (by decide) ?_
  refine va_put (D := G.1) (ci := 7) (v := .int (nI 0)) (ty := .int) (C := RX7) (T := TX7) (N := 12) hx hb hts hin7 tyX7 tyX7_ok nmX7 hown hK hP hD hS 0 rfl rfl 7 (by decide) (hts (.fieldLink RX7 122 "PowerTablesModel" "at" "I") (List.mem_of_getElem? (i := 1) rfl)) (fun _ h9 => h9) rfl (tyX7_ok 7 (by decide)) rfl rfl (Nat.le_of_ble_eq_true rfl) dX7_isText_2 (fun Hq lcq hP hD hS => ?_)
  have hP : va_P G.1 vwCl [(y_, .inr (7, [.ref (ca 0), .ref (ca 1), .ref (ca 2), .int (nI ke), .ref (ca 3), .int (nI ty_), .int (nI th), .int (nI 0), .int (bI fl_), .ref (ca 4), .int (nI tl), .ref (ca 5)])), (ca 3, .inl (G.2.1, 60, .inl (fun q9 => nI (cs q9)))), (ca 4, .inl (G.2.1, 124, .inl (td)))] _ := hP
  have hD : va_D A [(y_, .inr (7, [.ref (ca 0), .ref (ca 1), .ref (ca 2), .int (nI ke), .ref (ca 3), .int (nI ty_), .int (nI th), .int (nI 0), .int (bI fl_), .ref (ca 4), .int (nI tl), .ref (ca 5)])), (ca 3, .inl (G.2.1, 60, .inl (fun q9 => nI (cs q9)))), (ca 4, .inl (G.2.1, 124, .inl (td)))] := hD
  refine lv_aload_n hx hb dX7_isText_5 rfl (lv_at hl 0 rfl) ?_
  refine lv_iconst (v := nI 0) hx hb dX7_isText_6 (by decide) ?_
  refine va_put (D := G.1) (ci := 7) (v := .int (nI 0)) (ty := .int) (C := RX7) (T := TX7) (N := 12) hx hb hts hin7 tyX7 tyX7_ok nmX7 hown hK hP hD hS 0 rfl rfl 10 (by decide) (hts (.fieldLink RX7 137 "PowerTablesModel" "tolds" "I") (List.mem_of_getElem? (i := 2) rfl)) (fun _ h9 => h9) rfl (tyX7_ok 10 (by decide)) rfl rfl (Nat.le_of_ble_eq_true rfl) dX7_isText_7 (fun Hq lcq hP hD hS => ?_)
  have hP : va_P G.1 vwCl [(y_, .inr (7, [.ref (ca 0), .ref (ca 1), .ref (ca 2), .int (nI ke), .ref (ca 3), .int (nI ty_), .int (nI th), .int (nI 0), .int (bI fl_), .ref (ca 4), .int (nI 0), .ref (ca 5)])), (ca 3, .inl (G.2.1, 60, .inl (fun q9 => nI (cs q9)))), (ca 4, .inl (G.2.1, 124, .inl (td)))] _ := hP
  have hD : va_D A [(y_, .inr (7, [.ref (ca 0), .ref (ca 1), .ref (ca 2), .int (nI ke), .ref (ca 3), .int (nI ty_), .int (nI th), .int (nI 0), .int (bI fl_), .ref (ca 4), .int (nI 0), .ref (ca 5)])), (ca 3, .inl (G.2.1, 60, .inl (fun q9 => nI (cs q9)))), (ca 4, .inl (G.2.1, 124, .inl (td)))] := hD
  refine lv_aload_n hx hb dX7_isText_10 rfl (lv_at hl 0 rfl) ?_
  refine lv_iconst (v := nI 0) hx hb dX7_isText_11 (by decide) ?_
  refine ks_vI (show nI 0 = bI False from bI_0 (fun z => z)) ?_
  refine va_put (D := G.1) (ci := 7) (v := .int (bI False)) (ty := .boolean) (C := RX7) (T := TX7) (N := 12) hx hb hts hin7 tyX7 tyX7_ok nmX7 hown hK hP hD hS 0 rfl rfl 8 (by decide) (hts (.fieldLink RX7 125 "PowerTablesModel" "isFault" "Z") (List.mem_of_getElem? (i := 3) rfl)) (fun _ h9 => h9) rfl (tyX7_ok 8 (by decide)) bI_nar bI_fit (Nat.le_of_ble_eq_true rfl) dX7_isText_12 (fun Hq lcq hP hD hS => ?_)
  have hP : va_P G.1 vwCl [(y_, .inr (7, [.ref (ca 0), .ref (ca 1), .ref (ca 2), .int (nI ke), .ref (ca 3), .int (nI ty_), .int (nI th), .int (nI 0), .int (bI False), .ref (ca 4), .int (nI 0), .ref (ca 5)])), (ca 3, .inl (G.2.1, 60, .inl (fun q9 => nI (cs q9)))), (ca 4, .inl (G.2.1, 124, .inl (td)))] _ := hP
  have hD : va_D A [(y_, .inr (7, [.ref (ca 0), .ref (ca 1), .ref (ca 2), .int (nI ke), .ref (ca 3), .int (nI ty_), .int (nI th), .int (nI 0), .int (bI False), .ref (ca 4), .int (nI 0), .ref (ca 5)])), (ca 3, .inl (G.2.1, 60, .inl (fun q9 => nI (cs q9)))), (ca 4, .inl (G.2.1, 124, .inl (td)))] := hD
  refine lv_iconst (v := nI 1) hx hb dX7_isText_15 (by decide) ?_
  refine ks_vI (show nI 1 = bI True from bI_1 trivial) ?_
  refine lv_istore_n (lv' := [(1, .int (bI True)), (0, .ref y_)]) hx hb dX7_isText_16 rfl hl (by decide) rfl (fun ls hl => ?_)
  have L_17 : ∀ (n_17 : Nat) (mo : Prop) (m8_ : Nat) (p8_ : Nat) (t8 : Nat → Int32) (f8_ : Prop) (P8 : Nat → Nat) (_ : 62 - p8_ + b01 mo < n_17) (jp8 : p8_ ≤ ty_) (jA : mo → rnA cs p8_ = 0 ∧ TK cs ty_ t8 m8_ P8 ∧ P8 m8_ = p8_ ∧ (0 < m8_ → cdA cs ty_ (p8_ - 1) = 59) ∧ 2 * m8_ ≤ p8_) (jB : ¬ mo → CMPb cs ty_ p8_ ∧ ¬ (p8_ < ty_ ∧ cs p8_ = 59) ∧ (p8_ = ty_ → TK cs ty_ t8 m8_ P8 ∧ P8 m8_ = ty_ + 1) ∧ m8_ ≤ 31) (Hq : Heap) (lcq : List Loc), va_P G.1 vwCl [(y_, .inr (7, [.ref (ca 0), .ref (ca 1), .ref (ca 2), .int (nI ke), .ref (ca 3), .int (nI ty_), .int (nI th), .int (nI p8_), .int (bI f8_), .ref (ca 4), .int (nI m8_), .ref (ca 5)])), (ca 3, .inl (G.2.1, 60, .inl (fun q9 => nI (cs q9)))), (ca 4, .inl (G.2.1, 124, .inl (t8)))] Hq → va_D A [(y_, .inr (7, [.ref (ca 0), .ref (ca 1), .ref (ca 2), .int (nI ke), .ref (ca 3), .int (nI ty_), .int (nI th), .int (nI p8_), .int (bI f8_), .ref (ca 4), .int (nI m8_), .ref (ca 5)])), (ca 3, .inl (G.2.1, 60, .inl (fun q9 => nI (cs q9)))), (ca 4, .inl (G.2.1, 124, .inl (t8)))] → va_S A s.heap Hq lcq → ∀ ls : Array Slot, lv_has ls 2 [(1, .int (bI mo)), (0, .ref y_)] → W p l e ({ frames := 5, cells := 0, slots := 0, locals := 112 }) s m args below meth c Hq lcq 0 0 (MQ below (cr_Q G RR A) args s 0 0 A) (F0 m 17 ls []) := by
    intro n_17
    induction n_17 with
    | zero => intro mo m8_ p8_ t8 f8_ P8 hmu_17; exact absurd hmu_17 (Nat.not_lt_zero _)
    | succ n_17 ih_17 =>
      intro mo m8_ p8_ t8 f8_ P8 hmu_17 jp8 jA jB Hq lcq hP hD hS ls hl
      refine lv_iload_n hx hb dX7_isText_17 rfl (lv_at hl 0 rfl) ?_
      refine ks_ifb_eq (tgt := 70) hx hb dX7_isText_18 (by decide) (fun c_18 => ?_) (fun c_18 => ?_)
      · obtain ⟨u1_, u2_, u3, u4_⟩ := jB c_18
        refine lv_aload_n hx hb dX7_isText_70 rfl (lv_at hl 1 rfl) ?_
        refine lv_aload_n hx hb dX7_isText_71 rfl (lv_at hl 1 rfl) ?_
        refine va_get (D := G.1) (ci := 7) (v := .int (nI p8_)) (C := RX7) (T := TX7) (N := 12) hx hb hts hin7 hown hK hP 0 rfl rfl 7 (by decide) (hts (.fieldLink RX7 122 "PowerTablesModel" "at" "I") (List.mem_of_getElem? (i := 1) rfl)) (fun _ h9 => h9) rfl dX7_isText_72 ?_
        refine lv_aload_n hx hb dX7_isText_75 rfl (lv_at hl 1 rfl) ?_
        refine va_get (D := G.1) (ci := 7) (v := .int (nI ty_)) (C := RX7) (T := TX7) (N := 12) hx hb hts hin7 hown hK hP 0 rfl rfl 5 (by decide) (hts (.fieldLink RX7 119 "PowerTablesModel" "typed" "I") (List.mem_of_getElem? (i := 4) rfl)) (fun _ h9 => h9) rfl dX7_isText_76 ?_
        refine ks_icmp_ge (tgt := 86) hx hb dX7_isText_79 (by decide) (by omega) (by omega) (fun c_79 => ?_) (fun c_79 => ?_)
        · refine lv_iconst (v := nI 0) hx hb dX7_isText_86 (by decide) ?_
          refine ks_vI (show nI 0 = bI (p8_ < ty_) from bI_0 (Nat.not_lt.mpr c_79)) ?_
          refine va_put (D := G.1) (ci := 7) (v := .int (bI (p8_ < ty_))) (ty := .boolean) (C := RX7) (T := TX7) (N := 12) hx hb hts hin7 tyX7 tyX7_ok nmX7 hown hK hP hD hS 0 rfl rfl 8 (by decide) (hts (.fieldLink RX7 125 "PowerTablesModel" "isFault" "Z") (List.mem_of_getElem? (i := 3) rfl)) (fun _ h9 => h9) rfl (tyX7_ok 8 (by decide)) bI_nar bI_fit (Nat.le_of_ble_eq_true rfl) dX7_isText_87 (fun Hq lcq hP hD hS => ?_)
          have hP : va_P G.1 vwCl [(y_, .inr (7, [.ref (ca 0), .ref (ca 1), .ref (ca 2), .int (nI ke), .ref (ca 3), .int (nI ty_), .int (nI th), .int (nI p8_), .int (bI (p8_ < ty_)), .ref (ca 4), .int (nI m8_), .ref (ca 5)])), (ca 3, .inl (G.2.1, 60, .inl (fun q9 => nI (cs q9)))), (ca 4, .inl (G.2.1, 124, .inl (t8)))] _ := hP
          have hD : va_D A [(y_, .inr (7, [.ref (ca 0), .ref (ca 1), .ref (ca 2), .int (nI ke), .ref (ca 3), .int (nI ty_), .int (nI th), .int (nI p8_), .int (bI (p8_ < ty_)), .ref (ca 4), .int (nI m8_), .ref (ca 5)])), (ca 3, .inl (G.2.1, 60, .inl (fun q9 => nI (cs q9)))), (ca 4, .inl (G.2.1, 124, .inl (t8)))] := hD
          refine lv_aload_n hx hb dX7_isText_90 rfl (lv_at hl 1 rfl) ?_
          refine va_get (D := G.1) (ci := 7) (v := .int (nI p8_)) (C := RX7) (T := TX7) (N := 12) hx hb hts hin7 hown hK hP 0 rfl rfl 7 (by decide) (hts (.fieldLink RX7 122 "PowerTablesModel" "at" "I") (List.mem_of_getElem? (i := 1) rfl)) (fun _ h9 => h9) rfl dX7_isText_91 ?_
          refine lv_aload_n hx hb dX7_isText_94 rfl (lv_at hl 1 rfl) ?_
          refine va_get (D := G.1) (ci := 7) (v := .int (nI ty_)) (C := RX7) (T := TX7) (N := 12) hx hb hts hin7 hown hK hP 0 rfl rfl 5 (by decide) (hts (.fieldLink RX7 119 "PowerTablesModel" "typed" "I") (List.mem_of_getElem? (i := 4) rfl)) (fun _ h9 => h9) rfl dX7_isText_95 ?_
          refine ks_icmp_ne (tgt := 105) hx hb dX7_isText_98 (by decide) (by omega) (by omega) (fun c_98 => ?_) (fun c_98 => ?_)
          · have zlt : p8_ < ty_ := by omega
            have zer := cmp_er u1_ zlt (fun z => u2_ ⟨zlt, z⟩)
            have hv : nI 0 = bI (rnA cs ty_ = 9 ∨ rnA cs ty_ = 2 ∨ rnA cs ty_ = 3) := bI_0 (er_cmp zer jp8)
            have hp : ((rnA cs ty_ = 9 ∨ rnA cs ty_ = 2 ∨ rnA cs ty_ = 3) → TK cs ty_ t8 m8_ P8 ∧ P8 m8_ = ty_ + 1 ∧ m8_ ≤ 31) ∧ (¬ (rnA cs ty_ = 9 ∨ rnA cs ty_ = 2 ∨ rnA cs ty_ = 3) → ((p8_ < ty_) → p8_ = erI cs ty_) ∧ (¬ (p8_ < ty_) → erI cs ty_ = ty_)) := ⟨fun h => absurd h (er_cmp zer jp8), fun _ => ⟨fun _ => (er_erI zer zlt).symm, fun h => absurd zlt h⟩⟩
            refine lv_iconst (v := nI 0) hx hb dX7_isText_105 (by decide) ?_
            exact cr_zret hx hb hr hlocks hK hP hD hS (by decide +kernel) dX7_isText_106 (by rw [hRR]; exact ⟨_, _, _, _, P8, congrArg (fun z => some (Value.int z)) (hv), rfl, hp⟩)
          · have hv : nI 1 = bI (rnA cs ty_ = 9 ∨ rnA cs ty_ = 2 ∨ rnA cs ty_ = 3) := bI_1 (c_98 ▸ u1_.1)
            have hp : ((rnA cs ty_ = 9 ∨ rnA cs ty_ = 2 ∨ rnA cs ty_ = 3) → TK cs ty_ t8 m8_ P8 ∧ P8 m8_ = ty_ + 1 ∧ m8_ ≤ 31) ∧ (¬ (rnA cs ty_ = 9 ∨ rnA cs ty_ = 2 ∨ rnA cs ty_ = 3) → ((p8_ < ty_) → p8_ = erI cs ty_) ∧ (¬ (p8_ < ty_) → erI cs ty_ = ty_)) := ⟨fun _ => ⟨(u3 c_98).1, (u3 c_98).2, u4_⟩, fun h => absurd (c_98 ▸ u1_.1) h⟩
            refine lv_iconst (v := nI 1) hx hb dX7_isText_101 (by decide) ?_
            refine lv_goto (tgt := 106) hx hb dX7_isText_102 (by decide) ?_
            exact cr_zret hx hb hr hlocks hK hP hD hS (by decide +kernel) dX7_isText_106 (by rw [hRR]; exact ⟨_, _, _, _, P8, congrArg (fun z => some (Value.int z)) (hv), rfl, hp⟩)
        · refine lv_iconst (v := nI 1) hx hb dX7_isText_82 (by decide) ?_
          refine lv_goto (tgt := 87) hx hb dX7_isText_83 (by decide) ?_
          refine ks_vI (show nI 1 = bI (p8_ < ty_) from bI_1 c_79) ?_
          refine va_put (D := G.1) (ci := 7) (v := .int (bI (p8_ < ty_))) (ty := .boolean) (C := RX7) (T := TX7) (N := 12) hx hb hts hin7 tyX7 tyX7_ok nmX7 hown hK hP hD hS 0 rfl rfl 8 (by decide) (hts (.fieldLink RX7 125 "PowerTablesModel" "isFault" "Z") (List.mem_of_getElem? (i := 3) rfl)) (fun _ h9 => h9) rfl (tyX7_ok 8 (by decide)) bI_nar bI_fit (Nat.le_of_ble_eq_true rfl) dX7_isText_87 (fun Hq lcq hP hD hS => ?_)
          have hP : va_P G.1 vwCl [(y_, .inr (7, [.ref (ca 0), .ref (ca 1), .ref (ca 2), .int (nI ke), .ref (ca 3), .int (nI ty_), .int (nI th), .int (nI p8_), .int (bI (p8_ < ty_)), .ref (ca 4), .int (nI m8_), .ref (ca 5)])), (ca 3, .inl (G.2.1, 60, .inl (fun q9 => nI (cs q9)))), (ca 4, .inl (G.2.1, 124, .inl (t8)))] _ := hP
          have hD : va_D A [(y_, .inr (7, [.ref (ca 0), .ref (ca 1), .ref (ca 2), .int (nI ke), .ref (ca 3), .int (nI ty_), .int (nI th), .int (nI p8_), .int (bI (p8_ < ty_)), .ref (ca 4), .int (nI m8_), .ref (ca 5)])), (ca 3, .inl (G.2.1, 60, .inl (fun q9 => nI (cs q9)))), (ca 4, .inl (G.2.1, 124, .inl (t8)))] := hD
          refine lv_aload_n hx hb dX7_isText_90 rfl (lv_at hl 1 rfl) ?_
          refine va_get (D := G.1) (ci := 7) (v := .int (nI p8_)) (C := RX7) (T := TX7) (N := 12) hx hb hts hin7 hown hK hP 0 rfl rfl 7 (by decide) (hts (.fieldLink RX7 122 "PowerTablesModel" "at" "I") (List.mem_of_getElem? (i := 1) rfl)) (fun _ h9 => h9) rfl dX7_isText_91 ?_
          refine lv_aload_n hx hb dX7_isText_94 rfl (lv_at hl 1 rfl) ?_
          refine va_get (D := G.1) (ci := 7) (v := .int (nI ty_)) (C := RX7) (T := TX7) (N := 12) hx hb hts hin7 hown hK hP 0 rfl rfl 5 (by decide) (hts (.fieldLink RX7 119 "PowerTablesModel" "typed" "I") (List.mem_of_getElem? (i := 4) rfl)) (fun _ h9 => h9) rfl dX7_isText_95 ?_
          refine ks_icmp_ne (tgt := 105) hx hb dX7_isText_98 (by decide) (by omega) (by omega) (fun c_98 => ?_) (fun c_98 => ?_)
          · have zlt : p8_ < ty_ := by omega
            have zer := cmp_er u1_ zlt (fun z => u2_ ⟨zlt, z⟩)
            have hv : nI 0 = bI (rnA cs ty_ = 9 ∨ rnA cs ty_ = 2 ∨ rnA cs ty_ = 3) := bI_0 (er_cmp zer jp8)
            have hp : ((rnA cs ty_ = 9 ∨ rnA cs ty_ = 2 ∨ rnA cs ty_ = 3) → TK cs ty_ t8 m8_ P8 ∧ P8 m8_ = ty_ + 1 ∧ m8_ ≤ 31) ∧ (¬ (rnA cs ty_ = 9 ∨ rnA cs ty_ = 2 ∨ rnA cs ty_ = 3) → ((p8_ < ty_) → p8_ = erI cs ty_) ∧ (¬ (p8_ < ty_) → erI cs ty_ = ty_)) := ⟨fun h => absurd h (er_cmp zer jp8), fun _ => ⟨fun _ => (er_erI zer zlt).symm, fun h => absurd zlt h⟩⟩
            refine lv_iconst (v := nI 0) hx hb dX7_isText_105 (by decide) ?_
            exact cr_zret hx hb hr hlocks hK hP hD hS (by decide +kernel) dX7_isText_106 (by rw [hRR]; exact ⟨_, _, _, _, P8, congrArg (fun z => some (Value.int z)) (hv), rfl, hp⟩)
          · have hv : nI 1 = bI (rnA cs ty_ = 9 ∨ rnA cs ty_ = 2 ∨ rnA cs ty_ = 3) := bI_1 (c_98 ▸ u1_.1)
            have hp : ((rnA cs ty_ = 9 ∨ rnA cs ty_ = 2 ∨ rnA cs ty_ = 3) → TK cs ty_ t8 m8_ P8 ∧ P8 m8_ = ty_ + 1 ∧ m8_ ≤ 31) ∧ (¬ (rnA cs ty_ = 9 ∨ rnA cs ty_ = 2 ∨ rnA cs ty_ = 3) → ((p8_ < ty_) → p8_ = erI cs ty_) ∧ (¬ (p8_ < ty_) → erI cs ty_ = ty_)) := ⟨fun _ => ⟨(u3 c_98).1, (u3 c_98).2, u4_⟩, fun h => absurd (c_98 ▸ u1_.1) h⟩
            refine lv_iconst (v := nI 1) hx hb dX7_isText_101 (by decide) ?_
            refine lv_goto (tgt := 106) hx hb dX7_isText_102 (by decide) ?_
            exact cr_zret hx hb hr hlocks hK hP hD hS (by decide +kernel) dX7_isText_106 (by rw [hRR]; exact ⟨_, _, _, _, P8, congrArg (fun z => some (Value.int z)) (hv), rfl, hp⟩)
      · obtain ⟨k1_, k2_, k3_, k4_, k5_⟩ := jA c_18
        refine lv_aload_n hx hb dX7_isText_21 rfl (lv_at hl 1 rfl) ?_
        refine cr_V (wr := []) (As := []) (rest := []) ⟨hx, hb, hml, hown, hts⟩ (c_X7_isPart G l y_ ca ke ty_ th p8_ f8_ m8_ cs t8 (by omega) (jcs) (by omega) (by omega) (k1_)) (cwV 0 hts gX7_isText_X7_isPart rfl rfl rfl (by decide +kernel) ⟨Nat.le_of_ble_eq_true rfl, Nat.le_of_ble_eq_true rfl⟩) dX7_isText_22 hK hNX hP hD hS hA hl 0 7 rfl rfl rfl [0, 1, 2] [] rfl rfl rfl rfl (by decide) rfl (Nat.le_of_ble_eq_true rfl) ⟨Nat.le_of_ble_eq_true rfl, Nat.le_of_ble_eq_true rfl⟩ rfl (fun v' w' Hq lcq hR' hP hD hS => ?_)
        obtain ⟨ok9_22, b9_22, td9_22, fl9_22, rfl, rfl, jq_22⟩ := hR'
        have hP : va_P G.1 vwCl [(y_, .inr (7, [.ref (ca 0), .ref (ca 1), .ref (ca 2), .int (nI ke), .ref (ca 3), .int (nI ty_), .int (nI th), .int (nI b9_22), .int (bI fl9_22), .ref (ca 4), .int (nI m8_), .ref (ca 5)])), (ca 3, .inl (G.2.1, 60, .inl (fun q9 => nI (cs q9)))), (ca 4, .inl (G.2.1, 124, .inl (td9_22)))] _ := hP.sub [0, 1, 2] rfl
        have hD : va_D A [(y_, .inr (7, [.ref (ca 0), .ref (ca 1), .ref (ca 2), .int (nI ke), .ref (ca 3), .int (nI ty_), .int (nI th), .int (nI b9_22), .int (bI fl9_22), .ref (ca 4), .int (nI m8_), .ref (ca 5)])), (ca 3, .inl (G.2.1, 60, .inl (fun q9 => nI (cs q9)))), (ca 4, .inl (G.2.1, 124, .inl (td9_22)))] := hD.sub [0, 1, 2] (by decide +kernel) rfl
        refine ks_ifb_ne (tgt := 30) hx hb dX7_isText_25 (by decide) (fun c_25 => ?_) (fun c_25 => ?_)
        · obtain ⟨v1_, v2, v3, v4_, v5, v6⟩ := jq_22.1 c_25
          refine lv_aload_n hx hb dX7_isText_30 rfl (lv_at hl 1 rfl) ?_
          refine lv_dup hx hb dX7_isText_31 rfl ?_
          refine va_get (D := G.1) (ci := 7) (v := .int (nI m8_)) (C := RX7) (T := TX7) (N := 12) hx hb hts hin7 hown hK hP 0 rfl rfl 10 (by decide) (hts (.fieldLink RX7 137 "PowerTablesModel" "tolds" "I") (List.mem_of_getElem? (i := 2) rfl)) (fun _ h9 => h9) rfl dX7_isText_32 ?_
          refine lv_iconst (v := nI 1) hx hb dX7_isText_35 (by decide) ?_
          refine ks_iaddN hx hb dX7_isText_36 ?_
          refine va_put (D := G.1) (ci := 7) (v := .int (nI (m8_ + 1))) (ty := .int) (C := RX7) (T := TX7) (N := 12) hx hb hts hin7 tyX7 tyX7_ok nmX7 hown hK hP hD hS 0 rfl rfl 10 (by decide) (hts (.fieldLink RX7 137 "PowerTablesModel" "tolds" "I") (List.mem_of_getElem? (i := 2) rfl)) (fun _ h9 => h9) rfl (tyX7_ok 10 (by decide)) rfl rfl (Nat.le_of_ble_eq_true rfl) dX7_isText_37 (fun Hq lcq hP hD hS => ?_)
          have hP : va_P G.1 vwCl [(y_, .inr (7, [.ref (ca 0), .ref (ca 1), .ref (ca 2), .int (nI ke), .ref (ca 3), .int (nI ty_), .int (nI th), .int (nI b9_22), .int (bI fl9_22), .ref (ca 4), .int (nI (m8_ + 1)), .ref (ca 5)])), (ca 3, .inl (G.2.1, 60, .inl (fun q9 => nI (cs q9)))), (ca 4, .inl (G.2.1, 124, .inl (td9_22)))] _ := hP
          have hD : va_D A [(y_, .inr (7, [.ref (ca 0), .ref (ca 1), .ref (ca 2), .int (nI ke), .ref (ca 3), .int (nI ty_), .int (nI th), .int (nI b9_22), .int (bI fl9_22), .ref (ca 4), .int (nI (m8_ + 1)), .ref (ca 5)])), (ca 3, .inl (G.2.1, 60, .inl (fun q9 => nI (cs q9)))), (ca 4, .inl (G.2.1, 124, .inl (td9_22)))] := hD
          refine lv_aload_n hx hb dX7_isText_40 rfl (lv_at hl 1 rfl) ?_
          refine lv_bipush (v := nI 59) hx hb dX7_isText_41 (by decide) ?_
          refine lv_bipush (v := nI 59) hx hb dX7_isText_43 (by decide) ?_
          refine cr_V (wr := [(ca 4, .inl (G.2.1, 124, .inl (td9_22)))]) (As := [.int (nI 59), .int (nI 59)]) (rest := []) ⟨hx, hb, hml, hown, hts⟩ (c_X7_isAt G l y_ ca ke ty_ th b9_22 fl9_22 (m8_ + 1) cs 59 59 (by omega) (jcs) (by omega) (by omega) (by omega)) (cwV 2 hts gX7_isText_X7_isAt rfl rfl rfl (by decide +kernel) ⟨Nat.le_of_ble_eq_true rfl, Nat.le_of_ble_eq_true rfl⟩) dX7_isText_45 hK hNX hP hD hS hA hl 0 7 rfl rfl rfl [0, 1] [2] rfl rfl rfl rfl (by decide) rfl (Nat.le_of_ble_eq_true rfl) ⟨Nat.le_of_ble_eq_true rfl, Nat.le_of_ble_eq_true rfl⟩ rfl (fun v' w' Hq lcq hR' hP hD hS => ?_)
          obtain ⟨rfl, rfl⟩ := hR'
          have hP : va_P G.1 vwCl [(y_, .inr (7, [.ref (ca 0), .ref (ca 1), .ref (ca 2), .int (nI ke), .ref (ca 3), .int (nI ty_), .int (nI th), .int (nI b9_22), .int (bI fl9_22), .ref (ca 4), .int (nI (m8_ + 1)), .ref (ca 5)])), (ca 3, .inl (G.2.1, 60, .inl (fun q9 => nI (cs q9)))), (ca 4, .inl (G.2.1, 124, .inl (td9_22)))] _ := hP.sub [1, 2, 0] rfl
          have hD : va_D A [(y_, .inr (7, [.ref (ca 0), .ref (ca 1), .ref (ca 2), .int (nI ke), .ref (ca 3), .int (nI ty_), .int (nI th), .int (nI b9_22), .int (bI fl9_22), .ref (ca 4), .int (nI (m8_ + 1)), .ref (ca 5)])), (ca 3, .inl (G.2.1, 60, .inl (fun q9 => nI (cs q9)))), (ca 4, .inl (G.2.1, 124, .inl (td9_22)))] := hD.sub [1, 2, 0] (by decide +kernel) rfl
          refine lv_istore_n (lv' := [(1, .int (bI (b9_22 < ty_ ∧ 59 ≤ cs b9_22 ∧ cs b9_22 ≤ 59))), (0, .ref y_)]) hx hb dX7_isText_48 rfl hl (by decide) rfl (fun ls hl => ?_)
          refine lv_aload_n hx hb dX7_isText_49 rfl (lv_at hl 1 rfl) ?_
          refine lv_dup hx hb dX7_isText_50 rfl ?_
          refine va_get (D := G.1) (ci := 7) (v := .int (nI b9_22)) (C := RX7) (T := TX7) (N := 12) hx hb hts hin7 hown hK hP 0 rfl rfl 7 (by decide) (hts (.fieldLink RX7 122 "PowerTablesModel" "at" "I") (List.mem_of_getElem? (i := 1) rfl)) (fun _ h9 => h9) rfl dX7_isText_51 ?_
          refine lv_iload_n hx hb dX7_isText_54 rfl (lv_at hl 0 rfl) ?_
          refine ks_ifb_eq (tgt := 62) hx hb dX7_isText_55 (by decide) (fun c_55 => ?_) (fun c_55 => ?_)
          · have jT8 : NDb cs ty_ b9_22 → TK cs ty_ td9_22 (m8_ + 1) (upN P8 (m8_ + 1) (b9_22 + 1)) := fun hN => TK_s k2_ (by rw [k3_]; exact k4_) v6 (by rw [k3_]; exact v5 hN) (by omega) (by rw [k3_]; exact fun q h1 h2 => by rw [cdA_in (show q - 1 < ty_ by omega)]; exact v4_ (q - 1) (by omega) (by omega))
            have jA2 : (b9_22 < ty_ ∧ 59 ≤ cs b9_22 ∧ cs b9_22 ≤ 59) → rnA cs (b9_22 + 0) = 0 ∧ TK cs ty_ td9_22 (m8_ + 1) (upN P8 (m8_ + 1) (b9_22 + 1)) ∧ (upN P8 (m8_ + 1) (b9_22 + 1)) (m8_ + 1) = (b9_22 + 0) ∧ (0 < (m8_ + 1) → cdA cs ty_ ((b9_22 + 0) - 1) = 59) ∧ 2 * (m8_ + 1) ≤ (b9_22 + 0) := fun h => absurd h c_55
            have jB2 : ¬ (b9_22 < ty_ ∧ 59 ≤ cs b9_22 ∧ cs b9_22 ≤ 59) → CMPb cs ty_ (b9_22 + 0) ∧ ¬ ((b9_22 + 0) < ty_ ∧ cs (b9_22 + 0) = 59) ∧ ((b9_22 + 0) = ty_ → TK cs ty_ td9_22 (m8_ + 1) (upN P8 (m8_ + 1) (b9_22 + 1)) ∧ (upN P8 (m8_ + 1) (b9_22 + 1)) (m8_ + 1) = ty_ + 1) ∧ (m8_ + 1) ≤ 31 := fun _ => ⟨v1_, fun z => c_55 ⟨z.1, Nat.le_of_eq (Eq.symm z.2), Nat.le_of_eq z.2⟩, fun e => ⟨jT8 (nd_end (by omega)), upN_s.trans (by omega)⟩, by omega⟩
            refine lv_iconst (v := nI 0) hx hb dX7_isText_62 (by decide) ?_
            refine ks_iaddN hx hb dX7_isText_63 ?_
            refine va_put (D := G.1) (ci := 7) (v := .int (nI (b9_22 + 0))) (ty := .int) (C := RX7) (T := TX7) (N := 12) hx hb hts hin7 tyX7 tyX7_ok nmX7 hown hK hP hD hS 0 rfl rfl 7 (by decide) (hts (.fieldLink RX7 122 "PowerTablesModel" "at" "I") (List.mem_of_getElem? (i := 1) rfl)) (fun _ h9 => h9) rfl (tyX7_ok 7 (by decide)) rfl rfl (Nat.le_of_ble_eq_true rfl) dX7_isText_64 (fun Hq lcq hP hD hS => ?_)
            have hP : va_P G.1 vwCl [(y_, .inr (7, [.ref (ca 0), .ref (ca 1), .ref (ca 2), .int (nI ke), .ref (ca 3), .int (nI ty_), .int (nI th), .int (nI (b9_22 + 0)), .int (bI fl9_22), .ref (ca 4), .int (nI (m8_ + 1)), .ref (ca 5)])), (ca 3, .inl (G.2.1, 60, .inl (fun q9 => nI (cs q9)))), (ca 4, .inl (G.2.1, 124, .inl (td9_22)))] _ := hP
            have hD : va_D A [(y_, .inr (7, [.ref (ca 0), .ref (ca 1), .ref (ca 2), .int (nI ke), .ref (ca 3), .int (nI ty_), .int (nI th), .int (nI (b9_22 + 0)), .int (bI fl9_22), .ref (ca 4), .int (nI (m8_ + 1)), .ref (ca 5)])), (ca 3, .inl (G.2.1, 60, .inl (fun q9 => nI (cs q9)))), (ca 4, .inl (G.2.1, 124, .inl (td9_22)))] := hD
            refine lv_goto (tgt := 17) hx hb dX7_isText_67 (by decide) ?_
            exact ih_17  (b9_22 < ty_ ∧ 59 ≤ cs b9_22 ∧ cs b9_22 ≤ 59) (m8_ + 1) (b9_22 + 0) td9_22 fl9_22 (upN P8 (m8_ + 1) (b9_22 + 1)) (by have z7 := b01_le (b9_22 < ty_ ∧ 59 ≤ cs b9_22 ∧ cs b9_22 ≤ 59); have z8 := b01_t c_18; omega) (by omega) (jA2) (jB2) _ _ hP hD hS ls (lv_sub hl [0, 1] rfl)
          · have jT8 : NDb cs ty_ b9_22 → TK cs ty_ td9_22 (m8_ + 1) (upN P8 (m8_ + 1) (b9_22 + 1)) := fun hN => TK_s k2_ (by rw [k3_]; exact k4_) v6 (by rw [k3_]; exact v5 hN) (by omega) (by rw [k3_]; exact fun q h1 h2 => by rw [cdA_in (show q - 1 < ty_ by omega)]; exact v4_ (q - 1) (by omega) (by omega))
            have z59_ : cs b9_22 = 59 := Nat.le_antisymm c_55.2.2 c_55.2.1
            have jA2 : (b9_22 < ty_ ∧ 59 ≤ cs b9_22 ∧ cs b9_22 ≤ 59) → rnA cs (b9_22 + 1) = 0 ∧ TK cs ty_ td9_22 (m8_ + 1) (upN P8 (m8_ + 1) (b9_22 + 1)) ∧ (upN P8 (m8_ + 1) (b9_22 + 1)) (m8_ + 1) = (b9_22 + 1) ∧ (0 < (m8_ + 1) → cdA cs ty_ ((b9_22 + 1) - 1) = 59) ∧ 2 * (m8_ + 1) ≤ (b9_22 + 1) := fun _ => ⟨cmp_59 v1_ c_55.1 z59_, jT8 (nd_59 c_55.1 z59_), upN_s, fun _ => by rw [Nat.add_sub_cancel, cdA_in c_55.1]; exact z59_, by omega⟩
            have jB2 : ¬ (b9_22 < ty_ ∧ 59 ≤ cs b9_22 ∧ cs b9_22 ≤ 59) → CMPb cs ty_ (b9_22 + 1) ∧ ¬ ((b9_22 + 1) < ty_ ∧ cs (b9_22 + 1) = 59) ∧ ((b9_22 + 1) = ty_ → TK cs ty_ td9_22 (m8_ + 1) (upN P8 (m8_ + 1) (b9_22 + 1)) ∧ (upN P8 (m8_ + 1) (b9_22 + 1)) (m8_ + 1) = ty_ + 1) ∧ (m8_ + 1) ≤ 31 := fun h => absurd c_55 h
            refine lv_iconst (v := nI 1) hx hb dX7_isText_58 (by decide) ?_
            refine lv_goto (tgt := 63) hx hb dX7_isText_59 (by decide) ?_
            refine ks_iaddN hx hb dX7_isText_63 ?_
            refine va_put (D := G.1) (ci := 7) (v := .int (nI (b9_22 + 1))) (ty := .int) (C := RX7) (T := TX7) (N := 12) hx hb hts hin7 tyX7 tyX7_ok nmX7 hown hK hP hD hS 0 rfl rfl 7 (by decide) (hts (.fieldLink RX7 122 "PowerTablesModel" "at" "I") (List.mem_of_getElem? (i := 1) rfl)) (fun _ h9 => h9) rfl (tyX7_ok 7 (by decide)) rfl rfl (Nat.le_of_ble_eq_true rfl) dX7_isText_64 (fun Hq lcq hP hD hS => ?_)
            have hP : va_P G.1 vwCl [(y_, .inr (7, [.ref (ca 0), .ref (ca 1), .ref (ca 2), .int (nI ke), .ref (ca 3), .int (nI ty_), .int (nI th), .int (nI (b9_22 + 1)), .int (bI fl9_22), .ref (ca 4), .int (nI (m8_ + 1)), .ref (ca 5)])), (ca 3, .inl (G.2.1, 60, .inl (fun q9 => nI (cs q9)))), (ca 4, .inl (G.2.1, 124, .inl (td9_22)))] _ := hP
            have hD : va_D A [(y_, .inr (7, [.ref (ca 0), .ref (ca 1), .ref (ca 2), .int (nI ke), .ref (ca 3), .int (nI ty_), .int (nI th), .int (nI (b9_22 + 1)), .int (bI fl9_22), .ref (ca 4), .int (nI (m8_ + 1)), .ref (ca 5)])), (ca 3, .inl (G.2.1, 60, .inl (fun q9 => nI (cs q9)))), (ca 4, .inl (G.2.1, 124, .inl (td9_22)))] := hD
            refine lv_goto (tgt := 17) hx hb dX7_isText_67 (by decide) ?_
            exact ih_17  (b9_22 < ty_ ∧ 59 ≤ cs b9_22 ∧ cs b9_22 ≤ 59) (m8_ + 1) (b9_22 + 1) td9_22 fl9_22 (upN P8 (m8_ + 1) (b9_22 + 1)) (by have z7 := b01_le (b9_22 < ty_ ∧ 59 ≤ cs b9_22 ∧ cs b9_22 ≤ 59); have z8 := b01_t c_18; omega) (by omega) (jA2) (jB2) _ _ hP hD hS ls (lv_sub hl [0, 1] rfl)
        · obtain ⟨w1_, w2_, w3_⟩ := jq_22.2 c_25
          refine lv_iconst (v := nI 0) hx hb dX7_isText_28 (by decide) ?_
          exact cr_zret hx hb hr hlocks hK hP hD hS (by decide +kernel) dX7_isText_29 (by rw [hRR]; exact ⟨_, _, _, _, P8, congrArg (fun z => some (Value.int z)) (bI_0 (er_cmp w1_ w3_)), rfl, ⟨fun h => absurd h (er_cmp w1_ w3_), fun _ => ⟨fun hf => (er_erI w1_ (w2_.mp hf)).symm, fun hf => er_no2 w1_ (fun z => hf (w2_.mpr z)) w3_⟩⟩⟩)
  exact L_17 _ True 0 0 td False (fun _ => 0) (Nat.lt_succ_self _) (Nat.zero_le _) (fun _ => ⟨rfl, TK_0 _ _ _, rfl, fun h => absurd h (Nat.lt_irrefl 0), Nat.le_refl _⟩) (fun h => absurd trivial h) _ _ hP hD hS ls (lv_sub hl [0, 1] rfl)
set_option maxHeartbeats 4000000 in
set_option maxRecDepth 100000 in
theorem c_X7_firstError (G : GG) (l : Launch) (y_ : Nat) (ca : Nat → Nat) (ke : Nat) (ty_ : Nat) (th : Nat) (po : Nat) (fl_ : Prop) (tl : Nat) (cs : Nat → Nat) (td : Nat → Int32) (jty : ty_ ≤ 60) (jcs : ∀ k, k < 60 → cs k < 2 ^ 30) : Cr G l yX7_firstError wsX7_firstError ({ frames := 6, cells := 0, slots := 0, locals := 133 }) 0 0 [.ref y_] [(y_, .inr (7, [.ref (ca 0), .ref (ca 1), .ref (ca 2), .int (nI ke), .ref (ca 3), .int (nI ty_), .int (nI th), .int (nI po), .int (bI fl_), .ref (ca 4), .int (nI tl), .ref (ca 5)])), (ca 3, .inl (G.2.1, 60, .inl (fun q9 => nI (cs q9)))), (ca 4, .inl (G.2.1, 124, .inl (td)))] (fun (vv1 : Option Value) (ww1 : va_W) => ∃ (p9_ : Nat) (m9_ : Nat) (t9 : Nat → Int32) (fl9 : Prop), vv1 = (some (.int (nI (erI cs ty_)))) ∧ ww1 = [(y_, .inr (7, [.ref (ca 0), .ref (ca 1), .ref (ca 2), .int (nI ke), .ref (ca 3), .int (nI ty_), .int (nI 0), .int (nI p9_), .int (bI fl9), .ref (ca 4), .int (nI m9_), .ref (ca 5)])), (ca 3, .inl (G.2.1, 60, .inl (fun q9 => nI (cs q9)))), (ca 4, .inl (G.2.1, 124, .inl (t9)))]) := by
  refine cr_intro (cc := cX7_firstError) (maxL := 2) (ret := (some .int)) (own := RX7) (by decide) rfl rfl (Nat.le_of_ble_eq_true rfl) ?_
  intro p e s m args below meth c A hx hb hr hml hts hown hlocks hnm hNX hP hK hD hA hS ls hl
  obtain ⟨RR, hRR⟩ : ∃ RR, RR = (fun (vv1 : Option Value) (ww1 : va_W) => ∃ (p9_ : Nat) (m9_ : Nat) (t9 : Nat → Int32) (fl9 : Prop), vv1 = (some (.int (nI (erI cs ty_)))) ∧ ww1 = [(y_, .inr (7, [.ref (ca 0), .ref (ca 1), .ref (ca 2), .int (nI ke), .ref (ca 3), .int (nI ty_), .int (nI 0), .int (nI p9_), .int (bI fl9), .ref (ca 4), .int (nI m9_), .ref (ca 5)])), (ca 3, .inl (G.2.1, 60, .inl (fun q9 => nI (cs q9)))), (ca 4, .inl (G.2.1, 124, .inl (t9)))]) := ⟨_, rfl⟩
  rw [← hRR]
  have hl : lv_has ls 2 [(0, .ref y_)] := hl
  have hin7 : ∀ w ∈ u_ws RX7 TX7 12, w ∈ wsX7_firstError := fun w h => List.mem_cons_of_mem _ (List.mem_append_right _ h)
  refine lv_aload_n hx hb dX7_firstError_0 rfl (lv_at hl 0 rfl) ?_
  refine lv_iconst (v := nI 0) hx hb dX7_firstError_1 (by decide) ?_
  refine va_put (D := G.1) (ci := 7) (v := .int (nI 0)) (ty := .int) (C := RX7) (T := TX7) (N := 12) hx hb hts hin7 tyX7 tyX7_ok nmX7 hown hK hP hD hS 0 rfl rfl 6 (by decide) (hts (.fieldLink RX7 39 "PowerTablesModel" "thrown" "I") (List.mem_of_getElem? (i := 1) rfl)) (fun _ h9 => h9) rfl (tyX7_ok 6 (by decide)) rfl rfl (Nat.le_of_ble_eq_true rfl) dX7_firstError_2 (fun Hq lcq hP hD hS => ?_)
  have hP : va_P G.1 vwCl [(y_, .inr (7, [.ref (ca 0), .ref (ca 1), .ref (ca 2), .int (nI ke), .ref (ca 3), .int (nI ty_), .int (nI 0), .int (nI po), .int (bI fl_), .ref (ca 4), .int (nI tl), .ref (ca 5)])), (ca 3, .inl (G.2.1, 60, .inl (fun q9 => nI (cs q9)))), (ca 4, .inl (G.2.1, 124, .inl (td)))] _ := hP
  have hD : va_D A [(y_, .inr (7, [.ref (ca 0), .ref (ca 1), .ref (ca 2), .int (nI ke), .ref (ca 3), .int (nI ty_), .int (nI 0), .int (nI po), .int (bI fl_), .ref (ca 4), .int (nI tl), .ref (ca 5)])), (ca 3, .inl (G.2.1, 60, .inl (fun q9 => nI (cs q9)))), (ca 4, .inl (G.2.1, 124, .inl (td)))] := hD
  refine lv_aload_n hx hb dX7_firstError_5 rfl (lv_at hl 0 rfl) ?_
  refine cr_V (wr := []) (As := []) (rest := []) ⟨hx, hb, hml, hown, hts⟩ (c_X7_isText G l y_ ca ke ty_ 0 po fl_ tl cs td (by omega) (jcs)) (cwV 0 hts gX7_firstError_X7_isText rfl rfl rfl (by decide +kernel) ⟨Nat.le_of_ble_eq_true rfl, Nat.le_of_ble_eq_true rfl⟩) dX7_firstError_6 hK hNX hP hD hS hA hl 0 7 rfl rfl rfl [0, 1, 2] [] rfl rfl rfl rfl (by decide) rfl (Nat.le_of_ble_eq_true rfl) ⟨Nat.le_of_ble_eq_true rfl, Nat.le_of_ble_eq_true rfl⟩ rfl (fun v' w' Hq lcq hR' hP hD hS => ?_)
  obtain ⟨p9_6, m9_6, t9_6, fl9_6, P9_6, rfl, rfl, jq_6⟩ := hR'
  have hP : va_P G.1 vwCl [(y_, .inr (7, [.ref (ca 0), .ref (ca 1), .ref (ca 2), .int (nI ke), .ref (ca 3), .int (nI ty_), .int (nI 0), .int (nI p9_6), .int (bI fl9_6), .ref (ca 4), .int (nI m9_6), .ref (ca 5)])), (ca 3, .inl (G.2.1, 60, .inl (fun q9 => nI (cs q9)))), (ca 4, .inl (G.2.1, 124, .inl (t9_6)))] _ := hP.sub [0, 1, 2] rfl
  have hD : va_D A [(y_, .inr (7, [.ref (ca 0), .ref (ca 1), .ref (ca 2), .int (nI ke), .ref (ca 3), .int (nI ty_), .int (nI 0), .int (nI p9_6), .int (bI fl9_6), .ref (ca 4), .int (nI m9_6), .ref (ca 5)])), (ca 3, .inl (G.2.1, 60, .inl (fun q9 => nI (cs q9)))), (ca 4, .inl (G.2.1, 124, .inl (t9_6)))] := hD.sub [0, 1, 2] (by decide +kernel) rfl
  refine lv_istore_n (lv' := [(1, .int (bI (rnA cs ty_ = 9 ∨ rnA cs ty_ = 2 ∨ rnA cs ty_ = 3))), (0, .ref y_)]) hx hb dX7_firstError_9 rfl hl (by decide) rfl (fun ls hl => ?_)
  refine lv_iload_n hx hb dX7_firstError_10 rfl (lv_at hl 0 rfl) ?_
  refine ks_ifb_ne (tgt := 28) hx hb dX7_firstError_11 (by decide) (fun c_11 => ?_) (fun c_11 => ?_)
  · have e1_ : nI ty_ = nI (erI cs ty_) := congrArg nI (er_no (by omega)).symm
    refine lv_aload_n hx hb dX7_firstError_28 rfl (lv_at hl 1 rfl) ?_
    refine va_get (D := G.1) (ci := 7) (v := .int (nI ty_)) (C := RX7) (T := TX7) (N := 12) hx hb hts hin7 hown hK hP 0 rfl rfl 5 (by decide) (hts (.fieldLink RX7 119 "PowerTablesModel" "typed" "I") (List.mem_of_getElem? (i := 4) rfl)) (fun _ h9 => h9) rfl dX7_firstError_29 ?_
    exact cr_iret hx hb hr hlocks hK hP hD hS dX7_firstError_32 (by rw [hRR]; exact ⟨_, _, _, _, congrArg (fun z => some (Value.int z)) (e1_), rfl⟩)
  · refine lv_aload_n hx hb dX7_firstError_14 rfl (lv_at hl 1 rfl) ?_
    refine va_get (D := G.1) (ci := 7) (v := .int (bI fl9_6)) (C := RX7) (T := TX7) (N := 12) hx hb hts hin7 hown hK hP 0 rfl rfl 8 (by decide) (hts (.fieldLink RX7 125 "PowerTablesModel" "isFault" "Z") (List.mem_of_getElem? (i := 2) rfl)) (fun _ h9 => h9) rfl dX7_firstError_15 ?_
    refine ks_ifb_eq (tgt := 28) hx hb dX7_firstError_18 (by decide) (fun c_18 => ?_) (fun c_18 => ?_)
    · have e1_ : nI ty_ = nI (erI cs ty_) := congrArg nI ((jq_6.2 c_11).2 c_18).symm
      refine lv_aload_n hx hb dX7_firstError_28 rfl (lv_at hl 1 rfl) ?_
      refine va_get (D := G.1) (ci := 7) (v := .int (nI ty_)) (C := RX7) (T := TX7) (N := 12) hx hb hts hin7 hown hK hP 0 rfl rfl 5 (by decide) (hts (.fieldLink RX7 119 "PowerTablesModel" "typed" "I") (List.mem_of_getElem? (i := 4) rfl)) (fun _ h9 => h9) rfl dX7_firstError_29 ?_
      exact cr_iret hx hb hr hlocks hK hP hD hS dX7_firstError_32 (by rw [hRR]; exact ⟨_, _, _, _, congrArg (fun z => some (Value.int z)) (e1_), rfl⟩)
    · have e1_ : nI p9_6 = nI (erI cs ty_) := congrArg nI ((jq_6.2 c_11).1 c_18)
      refine lv_aload_n hx hb dX7_firstError_21 rfl (lv_at hl 1 rfl) ?_
      refine va_get (D := G.1) (ci := 7) (v := .int (nI p9_6)) (C := RX7) (T := TX7) (N := 12) hx hb hts hin7 hown hK hP 0 rfl rfl 7 (by decide) (hts (.fieldLink RX7 122 "PowerTablesModel" "at" "I") (List.mem_of_getElem? (i := 3) rfl)) (fun _ h9 => h9) rfl dX7_firstError_22 ?_
      refine lv_goto (tgt := 32) hx hb dX7_firstError_25 (by decide) ?_
      exact cr_iret hx hb hr hlocks hK hP hD hS dX7_firstError_32 (by rw [hRR]; exact ⟨_, _, _, _, congrArg (fun z => some (Value.int z)) (e1_), rfl⟩)
set_option maxHeartbeats 4000000 in
set_option maxRecDepth 100000 in
theorem c_X7_does (G : GG) (l : Launch) (y_ : Nat) (ca : Nat → Nat) (ke : Nat) (ty_ : Nat) (th : Nat) (po : Nat) (fl_ : Prop) (tl : Nat) (T : TS) (td : Nat → Int32) (cs : Nat → Nat) (tn_ : Nat) (q_ : Nat) (j_ : Nat) (B_ : Nat) (jo : OKd cs tn_ q_ j_ td) (jj : j_ ≤ 30) (jok : OKT B_ T) (jB : B_ + 800 < 2 ^ 30) : Cr G l yX7_does wsX7_does ({ frames := 4, cells := 0, slots := 0, locals := 97 }) 0 0 [.ref y_, .int (nI j_)] [(y_, .inr (7, [.ref (ca 0), .ref (ca 1), .ref (ca 2), .int (nI ke), .ref (ca 3), .int (nI ty_), .int (nI th), .int (nI po), .int (bI fl_), .ref (ca 4), .int (nI tl), .ref (ca 5)])), (ca 0, .inl (G.2.2.1, 103, .inr (.inl (mV T)))), (ca 4, .inl (G.2.1, 124, .inl (td)))] (ctR (some (.int (bI (crB T cs tn_ q_)))) [(y_, .inr (7, [.ref (ca 0), .ref (ca 1), .ref (ca 2), .int (nI ke), .ref (ca 3), .int (nI ty_), .int (nI th), .int (nI po), .int (bI fl_), .ref (ca 4), .int (nI tl), .ref (ca 5)])), (ca 0, .inl (G.2.2.1, 103, .inr (.inl (mV (crT T cs tn_ q_))))), (ca 4, .inl (G.2.1, 124, .inl (td)))]) := by
  refine cr_intro (cc := cX7_does) (maxL := 5) (ret := (some .boolean)) (own := RX7) (by decide) rfl rfl (Nat.le_of_ble_eq_true rfl) ?_
  intro p e s m args below meth c A hx hb hr hml hts hown hlocks hnm hNX hP hK hD hA hS ls hl
  obtain ⟨RR, hRR⟩ : ∃ RR, RR = (ctR (some (.int (bI (crB T cs tn_ q_)))) [(y_, .inr (7, [.ref (ca 0), .ref (ca 1), .ref (ca 2), .int (nI ke), .ref (ca 3), .int (nI ty_), .int (nI th), .int (nI po), .int (bI fl_), .ref (ca 4), .int (nI tl), .ref (ca 5)])), (ca 0, .inl (G.2.2.1, 103, .inr (.inl (mV (crT T cs tn_ q_))))), (ca 4, .inl (G.2.1, 124, .inl (td)))]) := ⟨_, rfl⟩
  rw [← hRR]
  have hl : lv_has ls 5 [(0, .ref y_), (1, .int (nI j_))] := hl
  have hin7 : ∀ w ∈ u_ws RX7 TX7 12, w ∈ wsX7_does := fun w h => List.mem_cons_of_mem _ (List.mem_append_right _ h)
  obtain ⟨o1, o2, o3_, o4_, o5_, o6, o7⟩ := jok
  obtain ⟨jq0, jt0, jd⟩ := jo
  have jd9 := dgA_9 cs tn_ (q_ + 1)
  rcases jd with ⟨e, d1, d2, d3⟩ | ⟨e, d1, d2, d3, d4⟩ | e | ⟨e, d1⟩
  · refine lv_aload_n hx hb dX7_does_0 rfl (lv_at hl 0 rfl) ?_
    refine va_get (D := G.1) (ci := 7) (v := .ref (ca 4)) (C := RX7) (T := TX7) (N := 12) hx hb hts hin7 hown hK hP 0 rfl rfl 9 (by decide) (hts (.fieldLink RX7 23 "PowerTablesModel" "told" "[I") (List.mem_of_getElem? (i := 1) rfl)) (fun _ h9 => h9) rfl dX7_does_1 ?_
    refine lv_iconst (v := nI 4) hx hb dX7_does_4 (by decide) ?_
    refine lv_iload_n hx hb dX7_does_5 rfl (lv_at hl 1 rfl) ?_
    refine ks_imulN hx hb dX7_does_6 ?_
    refine lv_iconst (v := nI 1) hx hb dX7_does_7 (by decide) ?_
    refine ks_iaddN hx hb dX7_does_8 ?_
    refine ks_iald hx hb hK hP 2 rfl (by omega) (by decide) dX7_does_9 ?_
    refine ks_vI (show td (4 * j_ + 1) = nI (nmA cs tn_ (q_ + 1)) from d1) ?_
    refine lv_istore_n (lv' := [(2, .int (nI (nmA cs tn_ (q_ + 1)))), (0, .ref y_), (1, .int (nI j_))]) hx hb dX7_does_10 rfl hl (by decide) rfl (fun ls hl => ?_)
    refine lv_aload_n hx hb dX7_does_11 rfl (lv_at hl 1 rfl) ?_
    refine va_get (D := G.1) (ci := 7) (v := .ref (ca 4)) (C := RX7) (T := TX7) (N := 12) hx hb hts hin7 hown hK hP 0 rfl rfl 9 (by decide) (hts (.fieldLink RX7 23 "PowerTablesModel" "told" "[I") (List.mem_of_getElem? (i := 1) rfl)) (fun _ h9 => h9) rfl dX7_does_12 ?_
    refine lv_iconst (v := nI 4) hx hb dX7_does_15 (by decide) ?_
    refine lv_iload_n hx hb dX7_does_16 rfl (lv_at hl 2 rfl) ?_
    refine ks_imulN hx hb dX7_does_17 ?_
    refine lv_iconst (v := nI 2) hx hb dX7_does_18 (by decide) ?_
    refine ks_iaddN hx hb dX7_does_19 ?_
    refine ks_iald hx hb hK hP 2 rfl (by omega) (by decide) dX7_does_20 ?_
    refine lv_istore_n (lv' := [(3, .int (td (4 * j_ + 2))), (2, .int (nI (nmA cs tn_ (q_ + 1)))), (0, .ref y_), (1, .int (nI j_))]) hx hb dX7_does_21 rfl hl (by decide) rfl (fun ls hl => ?_)
    refine lv_aload_n hx hb dX7_does_22 rfl (lv_at hl 2 rfl) ?_
    refine va_get (D := G.1) (ci := 7) (v := .ref (ca 4)) (C := RX7) (T := TX7) (N := 12) hx hb hts hin7 hown hK hP 0 rfl rfl 9 (by decide) (hts (.fieldLink RX7 23 "PowerTablesModel" "told" "[I") (List.mem_of_getElem? (i := 1) rfl)) (fun _ h9 => h9) rfl dX7_does_23 ?_
    refine lv_iconst (v := nI 4) hx hb dX7_does_26 (by decide) ?_
    refine lv_iload_n hx hb dX7_does_27 rfl (lv_at hl 3 rfl) ?_
    refine ks_imulN hx hb dX7_does_28 ?_
    refine lv_iconst (v := nI 3) hx hb dX7_does_29 (by decide) ?_
    refine ks_iaddN hx hb dX7_does_30 ?_
    refine ks_iald hx hb hK hP 2 rfl (by omega) (by decide) dX7_does_31 ?_
    refine lv_istore (lv' := [(4, .int (td (4 * j_ + 3))), (3, .int (td (4 * j_ + 2))), (2, .int (nI (nmA cs tn_ (q_ + 1)))), (0, .ref y_), (1, .int (nI j_))]) hx hb dX7_does_32 hl (by decide) rfl (fun ls hl => ?_)
    refine lv_aload_n hx hb dX7_does_34 rfl (lv_at hl 3 rfl) ?_
    refine va_get (D := G.1) (ci := 7) (v := .ref (ca 4)) (C := RX7) (T := TX7) (N := 12) hx hb hts hin7 hown hK hP 0 rfl rfl 9 (by decide) (hts (.fieldLink RX7 23 "PowerTablesModel" "told" "[I") (List.mem_of_getElem? (i := 1) rfl)) (fun _ h9 => h9) rfl dX7_does_35 ?_
    refine lv_iconst (v := nI 4) hx hb dX7_does_38 (by decide) ?_
    refine lv_iload_n hx hb dX7_does_39 rfl (lv_at hl 4 rfl) ?_
    refine ks_imulN hx hb dX7_does_40 ?_
    refine ks_iald hx hb hK hP 2 rfl (by omega) (by decide) dX7_does_41 ?_
    have ec := (cdA_in jq0).trans e
    refine ks_vI (show td (4 * j_) = nI 112 from jt0.trans (congrArg nI e)) ?_
    refine lv_lookup (off := 34) (tgt := 76) hx hb dX7_does_42 (by decide) (by decide +kernel) (by decide) ?_
    refine lv_aload_n hx hb dX7_does_76 rfl (lv_at hl 3 rfl) ?_
    refine lv_iload_n hx hb dX7_does_77 rfl (lv_at hl 2 rfl) ?_
    refine cr_V (wr := [(ca 4, .inl (G.2.1, 124, .inl (td)))]) (As := [.int (nI (nmA cs tn_ (q_ + 1)))]) (rest := []) ⟨hx, hb, hml, hown, hts⟩ (c_X7_mayPrint G l y_ ca ke ty_ th po fl_ tl T (nmA cs tn_ (q_ + 1)) (by omega) (by omega) (by omega)) (cwV 1 hts gX7_does_X7_mayPrint rfl rfl rfl (by decide +kernel) ⟨Nat.le_of_ble_eq_true rfl, Nat.le_of_ble_eq_true rfl⟩) dX7_does_78 hK hNX hP hD hS hA hl 0 7 rfl rfl rfl [0, 1] [2] rfl rfl rfl rfl (by decide) rfl (Nat.le_of_ble_eq_true rfl) ⟨Nat.le_of_ble_eq_true rfl, Nat.le_of_ble_eq_true rfl⟩ rfl (fun v' w' Hq lcq hR' hP hD hS => ?_)
    obtain ⟨rfl, rfl⟩ := hR'
    have hP : va_P G.1 vwCl [(y_, .inr (7, [.ref (ca 0), .ref (ca 1), .ref (ca 2), .int (nI ke), .ref (ca 3), .int (nI ty_), .int (nI th), .int (nI po), .int (bI fl_), .ref (ca 4), .int (nI tl), .ref (ca 5)])), (ca 0, .inl (G.2.2.1, 103, .inr (.inl (mV T)))), (ca 4, .inl (G.2.1, 124, .inl (td)))] _ := hP.sub [1, 2, 0] rfl
    have hD : va_D A [(y_, .inr (7, [.ref (ca 0), .ref (ca 1), .ref (ca 2), .int (nI ke), .ref (ca 3), .int (nI ty_), .int (nI th), .int (nI po), .int (bI fl_), .ref (ca 4), .int (nI tl), .ref (ca 5)])), (ca 0, .inl (G.2.2.1, 103, .inr (.inl (mV T)))), (ca 4, .inl (G.2.1, 124, .inl (td)))] := hD.sub [1, 2, 0] (by decide +kernel) rfl
    refine ks_if_eq (tgt := 86) hx hb dX7_does_81 (by decide) (show mpA T (nmA cs tn_ (q_ + 1)) < 2 ^ 31 by unfold mpA; split <;> omega) (fun c_81 => ?_) (fun c_81 => ?_)
    · have jle := mpA_y c_81
      refine lv_aload_n hx hb dX7_does_86 rfl (lv_at hl 3 rfl) ?_
      refine lv_iload_n hx hb dX7_does_87 rfl (lv_at hl 2 rfl) ?_
      refine cr_V (wr := [(ca 4, .inl (G.2.1, 124, .inl (td)))]) (As := [.int (nI (nmA cs tn_ (q_ + 1)))]) (rest := []) ⟨hx, hb, hml, hown, hts⟩ (c_X7_prints G l y_ ca ke ty_ th po fl_ tl T (nmA cs tn_ (q_ + 1)) (jle) (o2) (o3_) (o4_) (fun d hd => by have := o5_ d hd; omega) (o6) (by omega)) (cwV 1 hts gX7_does_X7_prints rfl rfl rfl (by decide +kernel) ⟨Nat.le_of_ble_eq_true rfl, Nat.le_of_ble_eq_true rfl⟩) dX7_does_88 hK hNX hP hD hS hA hl 0 7 rfl rfl rfl [0, 1] [2] rfl rfl rfl rfl (by decide) rfl (Nat.le_of_ble_eq_true rfl) ⟨Nat.le_of_ble_eq_true rfl, Nat.le_of_ble_eq_true rfl⟩ rfl (fun v' w' Hq lcq hR' hP hD hS => ?_)
      obtain ⟨rfl, rfl⟩ := hR'
      have hP : va_P G.1 vwCl [(y_, .inr (7, [.ref (ca 0), .ref (ca 1), .ref (ca 2), .int (nI ke), .ref (ca 3), .int (nI ty_), .int (nI th), .int (nI po), .int (bI fl_), .ref (ca 4), .int (nI tl), .ref (ca 5)])), (ca 0, .inl (G.2.2.1, 103, .inr (.inl (mV (stN T (nmA cs tn_ (q_ + 1))))))), (ca 4, .inl (G.2.1, 124, .inl (td)))] _ := hP.sub [1, 2, 0] rfl
      have hD : va_D A [(y_, .inr (7, [.ref (ca 0), .ref (ca 1), .ref (ca 2), .int (nI ke), .ref (ca 3), .int (nI ty_), .int (nI th), .int (nI po), .int (bI fl_), .ref (ca 4), .int (nI tl), .ref (ca 5)])), (ca 0, .inl (G.2.2.1, 103, .inr (.inl (mV (stN T (nmA cs tn_ (q_ + 1))))))), (ca 4, .inl (G.2.1, 124, .inl (td)))] := hD.sub [1, 2, 0] (by decide +kernel) rfl
      have hP := hP.cgJ 1 (g := mV (crT T cs tn_ q_)) rfl (fun q9 h9 => by rw [(cr_p (g := fun _ => 0) ec).1, prT_y jle])
      have hD := hD.set (p := 1) (e := .inl (G.2.2.1, 103, .inr <| .inl (mV (crT T cs tn_ q_)))) rfl
      have hP : va_P G.1 vwCl [(y_, .inr (7, [.ref (ca 0), .ref (ca 1), .ref (ca 2), .int (nI ke), .ref (ca 3), .int (nI ty_), .int (nI th), .int (nI po), .int (bI fl_), .ref (ca 4), .int (nI tl), .ref (ca 5)])), (ca 0, .inl (G.2.2.1, 103, .inr (.inl (mV (crT T cs tn_ q_))))), (ca 4, .inl (G.2.1, 124, .inl (td)))] _ := hP
      have hD : va_D A [(y_, .inr (7, [.ref (ca 0), .ref (ca 1), .ref (ca 2), .int (nI ke), .ref (ca 3), .int (nI ty_), .int (nI th), .int (nI po), .int (bI fl_), .ref (ca 4), .int (nI tl), .ref (ca 5)])), (ca 0, .inl (G.2.2.1, 103, .inr (.inl (mV (crT T cs tn_ q_))))), (ca 4, .inl (G.2.1, 124, .inl (td)))] := hD
      refine lv_pop hx hb dX7_does_91 rfl ?_
      refine lv_iconst (v := nI 1) hx hb dX7_does_92 (by decide) ?_
      exact cr_zret hx hb hr hlocks hK hP hD hS (by decide +kernel) dX7_does_93 (by rw [hRR]; exact ctR_i (bI_1 ((cr_p (g := fun _ => 0) ec).2.2.mpr jle)) (rfl))
    · have jnl := mpA_n c_81
      have hP := hP.cgJ 1 (g := mV (crT T cs tn_ q_)) rfl (fun q9 h9 => by rw [(cr_p (g := fun _ => 0) ec).1, prT_n jnl])
      have hD := hD.set (p := 1) (e := .inl (G.2.2.1, 103, .inr <| .inl (mV (crT T cs tn_ q_)))) rfl
      have hP : va_P G.1 vwCl [(y_, .inr (7, [.ref (ca 0), .ref (ca 1), .ref (ca 2), .int (nI ke), .ref (ca 3), .int (nI ty_), .int (nI th), .int (nI po), .int (bI fl_), .ref (ca 4), .int (nI tl), .ref (ca 5)])), (ca 0, .inl (G.2.2.1, 103, .inr (.inl (mV (crT T cs tn_ q_))))), (ca 4, .inl (G.2.1, 124, .inl (td)))] _ := hP
      have hD : va_D A [(y_, .inr (7, [.ref (ca 0), .ref (ca 1), .ref (ca 2), .int (nI ke), .ref (ca 3), .int (nI ty_), .int (nI th), .int (nI po), .int (bI fl_), .ref (ca 4), .int (nI tl), .ref (ca 5)])), (ca 0, .inl (G.2.2.1, 103, .inr (.inl (mV (crT T cs tn_ q_))))), (ca 4, .inl (G.2.1, 124, .inl (td)))] := hD
      refine lv_iconst (v := nI 0) hx hb dX7_does_84 (by decide) ?_
      exact cr_zret hx hb hr hlocks hK hP hD hS (by decide +kernel) dX7_does_85 (by rw [hRR]; exact ctR_i (bI_0 (fun z => jnl ((cr_p (g := fun _ => 0) ec).2.2.mp z))) (rfl))
  · refine lv_aload_n hx hb dX7_does_0 rfl (lv_at hl 0 rfl) ?_
    refine va_get (D := G.1) (ci := 7) (v := .ref (ca 4)) (C := RX7) (T := TX7) (N := 12) hx hb hts hin7 hown hK hP 0 rfl rfl 9 (by decide) (hts (.fieldLink RX7 23 "PowerTablesModel" "told" "[I") (List.mem_of_getElem? (i := 1) rfl)) (fun _ h9 => h9) rfl dX7_does_1 ?_
    refine lv_iconst (v := nI 4) hx hb dX7_does_4 (by decide) ?_
    refine lv_iload_n hx hb dX7_does_5 rfl (lv_at hl 1 rfl) ?_
    refine ks_imulN hx hb dX7_does_6 ?_
    refine lv_iconst (v := nI 1) hx hb dX7_does_7 (by decide) ?_
    refine ks_iaddN hx hb dX7_does_8 ?_
    refine ks_iald hx hb hK hP 2 rfl (by omega) (by decide) dX7_does_9 ?_
    refine ks_vI (show td (4 * j_ + 1) = nI (dgA cs tn_ (q_ + 1)) from d1) ?_
    refine lv_istore_n (lv' := [(2, .int (nI (dgA cs tn_ (q_ + 1)))), (0, .ref y_), (1, .int (nI j_))]) hx hb dX7_does_10 rfl hl (by decide) rfl (fun ls hl => ?_)
    refine lv_aload_n hx hb dX7_does_11 rfl (lv_at hl 1 rfl) ?_
    refine va_get (D := G.1) (ci := 7) (v := .ref (ca 4)) (C := RX7) (T := TX7) (N := 12) hx hb hts hin7 hown hK hP 0 rfl rfl 9 (by decide) (hts (.fieldLink RX7 23 "PowerTablesModel" "told" "[I") (List.mem_of_getElem? (i := 1) rfl)) (fun _ h9 => h9) rfl dX7_does_12 ?_
    refine lv_iconst (v := nI 4) hx hb dX7_does_15 (by decide) ?_
    refine lv_iload_n hx hb dX7_does_16 rfl (lv_at hl 2 rfl) ?_
    refine ks_imulN hx hb dX7_does_17 ?_
    refine lv_iconst (v := nI 2) hx hb dX7_does_18 (by decide) ?_
    refine ks_iaddN hx hb dX7_does_19 ?_
    refine ks_iald hx hb hK hP 2 rfl (by omega) (by decide) dX7_does_20 ?_
    refine ks_vI (show td (4 * j_ + 2) = nI (dgA cs tn_ (q_ + 2)) from d3) ?_
    refine lv_istore_n (lv' := [(3, .int (nI (dgA cs tn_ (q_ + 2)))), (2, .int (nI (dgA cs tn_ (q_ + 1)))), (0, .ref y_), (1, .int (nI j_))]) hx hb dX7_does_21 rfl hl (by decide) rfl (fun ls hl => ?_)
    refine lv_aload_n hx hb dX7_does_22 rfl (lv_at hl 2 rfl) ?_
    refine va_get (D := G.1) (ci := 7) (v := .ref (ca 4)) (C := RX7) (T := TX7) (N := 12) hx hb hts hin7 hown hK hP 0 rfl rfl 9 (by decide) (hts (.fieldLink RX7 23 "PowerTablesModel" "told" "[I") (List.mem_of_getElem? (i := 1) rfl)) (fun _ h9 => h9) rfl dX7_does_23 ?_
    refine lv_iconst (v := nI 4) hx hb dX7_does_26 (by decide) ?_
    refine lv_iload_n hx hb dX7_does_27 rfl (lv_at hl 3 rfl) ?_
    refine ks_imulN hx hb dX7_does_28 ?_
    refine lv_iconst (v := nI 3) hx hb dX7_does_29 (by decide) ?_
    refine ks_iaddN hx hb dX7_does_30 ?_
    refine ks_iald hx hb hK hP 2 rfl (by omega) (by decide) dX7_does_31 ?_
    refine ks_vI (show td (4 * j_ + 3) = sgA cs tn_ q_ from d4) ?_
    refine lv_istore (lv' := [(4, .int (sgA cs tn_ q_)), (3, .int (nI (dgA cs tn_ (q_ + 2)))), (2, .int (nI (dgA cs tn_ (q_ + 1)))), (0, .ref y_), (1, .int (nI j_))]) hx hb dX7_does_32 hl (by decide) rfl (fun ls hl => ?_)
    refine lv_aload_n hx hb dX7_does_34 rfl (lv_at hl 3 rfl) ?_
    refine va_get (D := G.1) (ci := 7) (v := .ref (ca 4)) (C := RX7) (T := TX7) (N := 12) hx hb hts hin7 hown hK hP 0 rfl rfl 9 (by decide) (hts (.fieldLink RX7 23 "PowerTablesModel" "told" "[I") (List.mem_of_getElem? (i := 1) rfl)) (fun _ h9 => h9) rfl dX7_does_35 ?_
    refine lv_iconst (v := nI 4) hx hb dX7_does_38 (by decide) ?_
    refine lv_iload_n hx hb dX7_does_39 rfl (lv_at hl 4 rfl) ?_
    refine ks_imulN hx hb dX7_does_40 ?_
    refine ks_iald hx hb hK hP 2 rfl (by omega) (by decide) dX7_does_41 ?_
    have ec := (cdA_in jq0).trans e
    refine ks_vI (show td (4 * j_) = nI 115 from jt0.trans (congrArg nI e)) ?_
    refine lv_lookup (off := 52) (tgt := 94) hx hb dX7_does_42 (by decide) (by decide +kernel) (by decide) ?_
    refine lv_aload_n hx hb dX7_does_94 rfl (lv_at hl 3 rfl) ?_
    refine lv_iload_n hx hb dX7_does_95 rfl (lv_at hl 2 rfl) ?_
    refine lv_iload_n hx hb dX7_does_96 rfl (lv_at hl 1 rfl) ?_
    refine lv_iload hx hb dX7_does_97 (lv_at hl 0 rfl) ?_
    refine cr_V (wr := [(ca 4, .inl (G.2.1, 124, .inl (td)))]) (As := [.int (nI (dgA cs tn_ (q_ + 1))), .int (nI (dgA cs tn_ (q_ + 2))), .int (sgA cs tn_ q_)]) (rest := []) ⟨hx, hb, hml, hown, hts⟩ (c_X7_maySlip G l y_ ca ke ty_ th po fl_ tl T (dgA cs tn_ (q_ + 1)) (dgA cs tn_ (q_ + 2)) (sgA cs tn_ q_) (by omega) (dgA_9 _ _ _) (sgA_b _ _ _)) (cwV 3 hts gX7_does_X7_maySlip rfl rfl rfl (by decide +kernel) ⟨Nat.le_of_ble_eq_true rfl, Nat.le_of_ble_eq_true rfl⟩) dX7_does_99 hK hNX hP hD hS hA hl 0 7 rfl rfl rfl [0, 1] [2] rfl rfl rfl rfl (by decide) rfl (Nat.le_of_ble_eq_true rfl) ⟨Nat.le_of_ble_eq_true rfl, Nat.le_of_ble_eq_true rfl⟩ rfl (fun v' w' Hq lcq hR' hP hD hS => ?_)
    obtain ⟨rfl, rfl⟩ := hR'
    have hP : va_P G.1 vwCl [(y_, .inr (7, [.ref (ca 0), .ref (ca 1), .ref (ca 2), .int (nI ke), .ref (ca 3), .int (nI ty_), .int (nI th), .int (nI po), .int (bI fl_), .ref (ca 4), .int (nI tl), .ref (ca 5)])), (ca 0, .inl (G.2.2.1, 103, .inr (.inl (mV T)))), (ca 4, .inl (G.2.1, 124, .inl (td)))] _ := hP.sub [1, 2, 0] rfl
    have hD : va_D A [(y_, .inr (7, [.ref (ca 0), .ref (ca 1), .ref (ca 2), .int (nI ke), .ref (ca 3), .int (nI ty_), .int (nI th), .int (nI po), .int (bI fl_), .ref (ca 4), .int (nI tl), .ref (ca 5)])), (ca 0, .inl (G.2.2.1, 103, .inr (.inl (mV T)))), (ca 4, .inl (G.2.1, 124, .inl (td)))] := hD.sub [1, 2, 0] (by decide +kernel) rfl
    refine ks_if_eq (tgt := 107) hx hb dX7_does_102 (by decide) (Nat.lt_of_le_of_lt msA_le (by decide)) (fun c_102 => ?_) (fun c_102 => ?_)
    · have jle := (sl_e d2).mp c_102
      refine lv_aload_n hx hb dX7_does_107 rfl (lv_at hl 3 rfl) ?_
      refine va_get (D := G.1) (ci := 7) (v := .ref (ca 0)) (C := RX7) (T := TX7) (N := 12) hx hb hts hin7 hown hK hP 0 rfl rfl 0 (by decide) (hts (.fieldLink RX7 7 "PowerTablesModel" "now" "[J") (List.mem_of_getElem? (i := 2) rfl)) (fun _ h9 => h9) rfl dX7_does_108 ?_
      refine lv_bipush (v := nI 7) hx hb dX7_does_111 (by decide) ?_
      refine lv_iload_n hx hb dX7_does_113 rfl (lv_at hl 2 rfl) ?_
      refine ks_iaddN hx hb dX7_does_114 ?_
      refine lv_dup2_11 hx hb dX7_does_115 rfl rfl ?_
      refine ks_lald hx hb hK hP 1 rfl (by omega) (by decide) dX7_does_116 ?_
      refine ks_vL (show mV T (7 + (dgA cs tn_ (q_ + 1))) = T.r (dgA cs tn_ (q_ + 1)) from mV_r (j := (dgA cs tn_ (q_ + 1))) (by omega)) ?_
      refine lv_iload_n hx hb dX7_does_117 rfl (lv_at hl 1 rfl) ?_
      refine lv_iload hx hb dX7_does_118 (lv_at hl 0 rfl) ?_
      refine cr_S (wr := [(y_, .inr (7, [.ref (ca 0), .ref (ca 1), .ref (ca 2), .int (nI ke), .ref (ca 3), .int (nI ty_), .int (nI th), .int (nI po), .int (bI fl_), .ref (ca 4), .int (nI tl), .ref (ca 5)])), (ca 0, .inl (G.2.2.1, 103, .inr (.inl (mV T)))), (ca 4, .inl (G.2.1, 124, .inl (td)))]) (As := [.int (nI (dgA cs tn_ (q_ + 2))), .int (sgA cs tn_ q_)]) (rest := [.long (T.r (dgA cs tn_ (q_ + 1))), .int (nI (7 + (dgA cs tn_ (q_ + 1)))), .ref (ca 0)]) ⟨hx, hb, hml, hown, hts⟩ (c_X7_slipped G l (sgA cs tn_ q_) (dgA cs tn_ (q_ + 2)) (dgA_9 _ _ _)) (va_cwS 2 hts gX7_does_X7_slipped rfl rfl rfl (by decide +kernel) ⟨Nat.le_of_ble_eq_true rfl, Nat.le_of_ble_eq_true rfl⟩) dX7_does_120 hK hNX hP hD hS hA hl [] [0, 1, 2] rfl rfl rfl rfl (by decide) rfl (Nat.le_of_ble_eq_true rfl) ⟨Nat.le_of_ble_eq_true rfl, Nat.le_of_ble_eq_true rfl⟩ rfl (fun v' w' Hq lcq hR' hP hD hS => ?_)
      obtain ⟨rfl, rfl⟩ := hR'
      have hP : va_P G.1 vwCl [(y_, .inr (7, [.ref (ca 0), .ref (ca 1), .ref (ca 2), .int (nI ke), .ref (ca 3), .int (nI ty_), .int (nI th), .int (nI po), .int (bI fl_), .ref (ca 4), .int (nI tl), .ref (ca 5)])), (ca 0, .inl (G.2.2.1, 103, .inr (.inl (mV T)))), (ca 4, .inl (G.2.1, 124, .inl (td)))] _ := hP.sub [0, 1, 2] rfl
      have hD : va_D A [(y_, .inr (7, [.ref (ca 0), .ref (ca 1), .ref (ca 2), .int (nI ke), .ref (ca 3), .int (nI ty_), .int (nI th), .int (nI po), .int (bI fl_), .ref (ca 4), .int (nI tl), .ref (ca 5)])), (ca 0, .inl (G.2.2.1, 103, .inr (.inl (mV T)))), (ca 4, .inl (G.2.1, 124, .inl (td)))] := hD.sub [0, 1, 2] (by decide +kernel) rfl
      refine lv_ladd hx hb dX7_does_123 ?_
      refine ks_last (f' := mV (T.setR (dgA cs tn_ (q_ + 1)) ((T.r (dgA cs tn_ (q_ + 1))) + (slA (sgA cs tn_ q_) (dgA cs tn_ (q_ + 2)))))) hx hb hK hP hD hS 1 rfl (by omega) (by decide) (mV_setR (by omega)) dX7_does_124 (fun Hq lcq hP hD hS => ?_)
      have hP : va_P G.1 vwCl [(y_, .inr (7, [.ref (ca 0), .ref (ca 1), .ref (ca 2), .int (nI ke), .ref (ca 3), .int (nI ty_), .int (nI th), .int (nI po), .int (bI fl_), .ref (ca 4), .int (nI tl), .ref (ca 5)])), (ca 0, .inl (G.2.2.1, 103, .inr (.inl (mV (T.setR (dgA cs tn_ (q_ + 1)) ((T.r (dgA cs tn_ (q_ + 1))) + (slA (sgA cs tn_ q_) (dgA cs tn_ (q_ + 2))))))))), (ca 4, .inl (G.2.1, 124, .inl (td)))] _ := hP
      have hD : va_D A [(y_, .inr (7, [.ref (ca 0), .ref (ca 1), .ref (ca 2), .int (nI ke), .ref (ca 3), .int (nI ty_), .int (nI th), .int (nI po), .int (bI fl_), .ref (ca 4), .int (nI tl), .ref (ca 5)])), (ca 0, .inl (G.2.2.1, 103, .inr (.inl (mV (T.setR (dgA cs tn_ (q_ + 1)) ((T.r (dgA cs tn_ (q_ + 1))) + (slA (sgA cs tn_ q_) (dgA cs tn_ (q_ + 2))))))))), (ca 4, .inl (G.2.1, 124, .inl (td)))] := hD
      have hP := hP.cgJ 1 (g := mV (crT T cs tn_ q_)) rfl (fun q9 h9 => by rw [(cr_s (g := fun _ => 0) ec).1, ← slR_y jle])
      have hD := hD.set (p := 1) (e := .inl (G.2.2.1, 103, .inr <| .inl (mV (crT T cs tn_ q_)))) rfl
      have hP : va_P G.1 vwCl [(y_, .inr (7, [.ref (ca 0), .ref (ca 1), .ref (ca 2), .int (nI ke), .ref (ca 3), .int (nI ty_), .int (nI th), .int (nI po), .int (bI fl_), .ref (ca 4), .int (nI tl), .ref (ca 5)])), (ca 0, .inl (G.2.2.1, 103, .inr (.inl (mV (crT T cs tn_ q_))))), (ca 4, .inl (G.2.1, 124, .inl (td)))] _ := hP
      have hD : va_D A [(y_, .inr (7, [.ref (ca 0), .ref (ca 1), .ref (ca 2), .int (nI ke), .ref (ca 3), .int (nI ty_), .int (nI th), .int (nI po), .int (bI fl_), .ref (ca 4), .int (nI tl), .ref (ca 5)])), (ca 0, .inl (G.2.2.1, 103, .inr (.inl (mV (crT T cs tn_ q_))))), (ca 4, .inl (G.2.1, 124, .inl (td)))] := hD
      refine lv_iconst (v := nI 1) hx hb dX7_does_125 (by decide) ?_
      exact cr_zret hx hb hr hlocks hK hP hD hS (by decide +kernel) dX7_does_126 (by rw [hRR]; exact ctR_i (bI_1 ((cr_s (g := fun _ => 0) ec).2.2.mpr jle)) (rfl))
    · have jnl : ¬ slB T cs tn_ q_ := fun z => c_102 ((sl_e d2).mpr z)
      have hP := hP.cgJ 1 (g := mV (crT T cs tn_ q_)) rfl (fun q9 h9 => by rw [(cr_s (g := fun _ => 0) ec).1, ← slR_n jnl])
      have hD := hD.set (p := 1) (e := .inl (G.2.2.1, 103, .inr <| .inl (mV (crT T cs tn_ q_)))) rfl
      have hP : va_P G.1 vwCl [(y_, .inr (7, [.ref (ca 0), .ref (ca 1), .ref (ca 2), .int (nI ke), .ref (ca 3), .int (nI ty_), .int (nI th), .int (nI po), .int (bI fl_), .ref (ca 4), .int (nI tl), .ref (ca 5)])), (ca 0, .inl (G.2.2.1, 103, .inr (.inl (mV (crT T cs tn_ q_))))), (ca 4, .inl (G.2.1, 124, .inl (td)))] _ := hP
      have hD : va_D A [(y_, .inr (7, [.ref (ca 0), .ref (ca 1), .ref (ca 2), .int (nI ke), .ref (ca 3), .int (nI ty_), .int (nI th), .int (nI po), .int (bI fl_), .ref (ca 4), .int (nI tl), .ref (ca 5)])), (ca 0, .inl (G.2.2.1, 103, .inr (.inl (mV (crT T cs tn_ q_))))), (ca 4, .inl (G.2.1, 124, .inl (td)))] := hD
      refine lv_iconst (v := nI 0) hx hb dX7_does_105 (by decide) ?_
      exact cr_zret hx hb hr hlocks hK hP hD hS (by decide +kernel) dX7_does_106 (by rw [hRR]; exact ctR_i (bI_0 (fun z => jnl ((cr_s (g := fun _ => 0) ec).2.2.mp z))) (rfl))
  · refine lv_aload_n hx hb dX7_does_0 rfl (lv_at hl 0 rfl) ?_
    refine va_get (D := G.1) (ci := 7) (v := .ref (ca 4)) (C := RX7) (T := TX7) (N := 12) hx hb hts hin7 hown hK hP 0 rfl rfl 9 (by decide) (hts (.fieldLink RX7 23 "PowerTablesModel" "told" "[I") (List.mem_of_getElem? (i := 1) rfl)) (fun _ h9 => h9) rfl dX7_does_1 ?_
    refine lv_iconst (v := nI 4) hx hb dX7_does_4 (by decide) ?_
    refine lv_iload_n hx hb dX7_does_5 rfl (lv_at hl 1 rfl) ?_
    refine ks_imulN hx hb dX7_does_6 ?_
    refine lv_iconst (v := nI 1) hx hb dX7_does_7 (by decide) ?_
    refine ks_iaddN hx hb dX7_does_8 ?_
    refine ks_iald hx hb hK hP 2 rfl (by omega) (by decide) dX7_does_9 ?_
    refine lv_istore_n (lv' := [(2, .int (td (4 * j_ + 1))), (0, .ref y_), (1, .int (nI j_))]) hx hb dX7_does_10 rfl hl (by decide) rfl (fun ls hl => ?_)
    refine lv_aload_n hx hb dX7_does_11 rfl (lv_at hl 1 rfl) ?_
    refine va_get (D := G.1) (ci := 7) (v := .ref (ca 4)) (C := RX7) (T := TX7) (N := 12) hx hb hts hin7 hown hK hP 0 rfl rfl 9 (by decide) (hts (.fieldLink RX7 23 "PowerTablesModel" "told" "[I") (List.mem_of_getElem? (i := 1) rfl)) (fun _ h9 => h9) rfl dX7_does_12 ?_
    refine lv_iconst (v := nI 4) hx hb dX7_does_15 (by decide) ?_
    refine lv_iload_n hx hb dX7_does_16 rfl (lv_at hl 2 rfl) ?_
    refine ks_imulN hx hb dX7_does_17 ?_
    refine lv_iconst (v := nI 2) hx hb dX7_does_18 (by decide) ?_
    refine ks_iaddN hx hb dX7_does_19 ?_
    refine ks_iald hx hb hK hP 2 rfl (by omega) (by decide) dX7_does_20 ?_
    refine lv_istore_n (lv' := [(3, .int (td (4 * j_ + 2))), (2, .int (td (4 * j_ + 1))), (0, .ref y_), (1, .int (nI j_))]) hx hb dX7_does_21 rfl hl (by decide) rfl (fun ls hl => ?_)
    refine lv_aload_n hx hb dX7_does_22 rfl (lv_at hl 2 rfl) ?_
    refine va_get (D := G.1) (ci := 7) (v := .ref (ca 4)) (C := RX7) (T := TX7) (N := 12) hx hb hts hin7 hown hK hP 0 rfl rfl 9 (by decide) (hts (.fieldLink RX7 23 "PowerTablesModel" "told" "[I") (List.mem_of_getElem? (i := 1) rfl)) (fun _ h9 => h9) rfl dX7_does_23 ?_
    refine lv_iconst (v := nI 4) hx hb dX7_does_26 (by decide) ?_
    refine lv_iload_n hx hb dX7_does_27 rfl (lv_at hl 3 rfl) ?_
    refine ks_imulN hx hb dX7_does_28 ?_
    refine lv_iconst (v := nI 3) hx hb dX7_does_29 (by decide) ?_
    refine ks_iaddN hx hb dX7_does_30 ?_
    refine ks_iald hx hb hK hP 2 rfl (by omega) (by decide) dX7_does_31 ?_
    refine lv_istore (lv' := [(4, .int (td (4 * j_ + 3))), (3, .int (td (4 * j_ + 2))), (2, .int (td (4 * j_ + 1))), (0, .ref y_), (1, .int (nI j_))]) hx hb dX7_does_32 hl (by decide) rfl (fun ls hl => ?_)
    refine lv_aload_n hx hb dX7_does_34 rfl (lv_at hl 3 rfl) ?_
    refine va_get (D := G.1) (ci := 7) (v := .ref (ca 4)) (C := RX7) (T := TX7) (N := 12) hx hb hts hin7 hown hK hP 0 rfl rfl 9 (by decide) (hts (.fieldLink RX7 23 "PowerTablesModel" "told" "[I") (List.mem_of_getElem? (i := 1) rfl)) (fun _ h9 => h9) rfl dX7_does_35 ?_
    refine lv_iconst (v := nI 4) hx hb dX7_does_38 (by decide) ?_
    refine lv_iload_n hx hb dX7_does_39 rfl (lv_at hl 4 rfl) ?_
    refine ks_imulN hx hb dX7_does_40 ?_
    refine ks_iald hx hb hK hP 2 rfl (by omega) (by decide) dX7_does_41 ?_
    have ec := (cdA_in jq0).trans e
    refine ks_vI (show td (4 * j_) = nI 99 from jt0.trans (congrArg nI e)) ?_
    refine lv_lookup (off := 85) (tgt := 127) hx hb dX7_does_42 (by decide) (by decide +kernel) (by decide) ?_
    refine lv_aload_n hx hb dX7_does_127 rfl (lv_at hl 3 rfl) ?_
    refine va_get (D := G.1) (ci := 7) (v := .ref (ca 0)) (C := RX7) (T := TX7) (N := 12) hx hb hts hin7 hown hK hP 0 rfl rfl 0 (by decide) (hts (.fieldLink RX7 7 "PowerTablesModel" "now" "[J") (List.mem_of_getElem? (i := 2) rfl)) (fun _ h9 => h9) rfl dX7_does_128 ?_
    refine cr_S (wr := [(y_, .inr (7, [.ref (ca 0), .ref (ca 1), .ref (ca 2), .int (nI ke), .ref (ca 3), .int (nI ty_), .int (nI th), .int (nI po), .int (bI fl_), .ref (ca 4), .int (nI tl), .ref (ca 5)])), (ca 4, .inl (G.2.1, 124, .inl (td)))]) (As := [.ref (ca 0)]) (rest := []) ⟨hx, hb, hml, hown, hts⟩ (c_X7_corrects G l (ca 0) T (by omega) (by omega) (by omega)) (va_cwS 1 hts gX7_does_X7_corrects rfl rfl rfl (by decide +kernel) ⟨Nat.le_of_ble_eq_true rfl, Nat.le_of_ble_eq_true rfl⟩) dX7_does_131 hK hNX hP hD hS hA hl [1] [0, 2] rfl rfl rfl rfl (by decide) rfl (Nat.le_of_ble_eq_true rfl) ⟨Nat.le_of_ble_eq_true rfl, Nat.le_of_ble_eq_true rfl⟩ rfl (fun v' w' Hq lcq hR' hP hD hS => ?_)
    obtain ⟨rfl, rfl⟩ := hR'
    have hP : va_P G.1 vwCl [(y_, .inr (7, [.ref (ca 0), .ref (ca 1), .ref (ca 2), .int (nI ke), .ref (ca 3), .int (nI ty_), .int (nI th), .int (nI po), .int (bI fl_), .ref (ca 4), .int (nI tl), .ref (ca 5)])), (ca 0, .inl (G.2.2.1, 103, .inr (.inl (mV (T.withR (rgt (T.s 2) (T.s 3 + T.s 4))))))), (ca 4, .inl (G.2.1, 124, .inl (td)))] _ := hP.sub [0, 2, 1] rfl
    have hD : va_D A [(y_, .inr (7, [.ref (ca 0), .ref (ca 1), .ref (ca 2), .int (nI ke), .ref (ca 3), .int (nI ty_), .int (nI th), .int (nI po), .int (bI fl_), .ref (ca 4), .int (nI tl), .ref (ca 5)])), (ca 0, .inl (G.2.2.1, 103, .inr (.inl (mV (T.withR (rgt (T.s 2) (T.s 3 + T.s 4))))))), (ca 4, .inl (G.2.1, 124, .inl (td)))] := hD.sub [0, 2, 1] (by decide +kernel) rfl
    have hP := hP.cgJ 1 (g := mV (crT T cs tn_ q_)) rfl (fun q9 h9 => by rw [(cr_c (g := fun _ => 0) ec).1])
    have hD := hD.set (p := 1) (e := .inl (G.2.2.1, 103, .inr <| .inl (mV (crT T cs tn_ q_)))) rfl
    have hP : va_P G.1 vwCl [(y_, .inr (7, [.ref (ca 0), .ref (ca 1), .ref (ca 2), .int (nI ke), .ref (ca 3), .int (nI ty_), .int (nI th), .int (nI po), .int (bI fl_), .ref (ca 4), .int (nI tl), .ref (ca 5)])), (ca 0, .inl (G.2.2.1, 103, .inr (.inl (mV (crT T cs tn_ q_))))), (ca 4, .inl (G.2.1, 124, .inl (td)))] _ := hP
    have hD : va_D A [(y_, .inr (7, [.ref (ca 0), .ref (ca 1), .ref (ca 2), .int (nI ke), .ref (ca 3), .int (nI ty_), .int (nI th), .int (nI po), .int (bI fl_), .ref (ca 4), .int (nI tl), .ref (ca 5)])), (ca 0, .inl (G.2.2.1, 103, .inr (.inl (mV (crT T cs tn_ q_))))), (ca 4, .inl (G.2.1, 124, .inl (td)))] := hD
    refine lv_pop hx hb dX7_does_134 rfl ?_
    refine lv_iconst (v := nI 1) hx hb dX7_does_135 (by decide) ?_
    exact cr_zret hx hb hr hlocks hK hP hD hS (by decide +kernel) dX7_does_136 (by rw [hRR]; exact ctR_i (bI_1 ((cr_c (g := fun _ => 0) ec).2.2.mpr trivial)) (rfl))
  · refine lv_aload_n hx hb dX7_does_0 rfl (lv_at hl 0 rfl) ?_
    refine va_get (D := G.1) (ci := 7) (v := .ref (ca 4)) (C := RX7) (T := TX7) (N := 12) hx hb hts hin7 hown hK hP 0 rfl rfl 9 (by decide) (hts (.fieldLink RX7 23 "PowerTablesModel" "told" "[I") (List.mem_of_getElem? (i := 1) rfl)) (fun _ h9 => h9) rfl dX7_does_1 ?_
    refine lv_iconst (v := nI 4) hx hb dX7_does_4 (by decide) ?_
    refine lv_iload_n hx hb dX7_does_5 rfl (lv_at hl 1 rfl) ?_
    refine ks_imulN hx hb dX7_does_6 ?_
    refine lv_iconst (v := nI 1) hx hb dX7_does_7 (by decide) ?_
    refine ks_iaddN hx hb dX7_does_8 ?_
    refine ks_iald hx hb hK hP 2 rfl (by omega) (by decide) dX7_does_9 ?_
    refine ks_vI (show td (4 * j_ + 1) = nI (dgA cs tn_ (q_ + 1)) from d1) ?_
    refine lv_istore_n (lv' := [(2, .int (nI (dgA cs tn_ (q_ + 1)))), (0, .ref y_), (1, .int (nI j_))]) hx hb dX7_does_10 rfl hl (by decide) rfl (fun ls hl => ?_)
    refine lv_aload_n hx hb dX7_does_11 rfl (lv_at hl 1 rfl) ?_
    refine va_get (D := G.1) (ci := 7) (v := .ref (ca 4)) (C := RX7) (T := TX7) (N := 12) hx hb hts hin7 hown hK hP 0 rfl rfl 9 (by decide) (hts (.fieldLink RX7 23 "PowerTablesModel" "told" "[I") (List.mem_of_getElem? (i := 1) rfl)) (fun _ h9 => h9) rfl dX7_does_12 ?_
    refine lv_iconst (v := nI 4) hx hb dX7_does_15 (by decide) ?_
    refine lv_iload_n hx hb dX7_does_16 rfl (lv_at hl 2 rfl) ?_
    refine ks_imulN hx hb dX7_does_17 ?_
    refine lv_iconst (v := nI 2) hx hb dX7_does_18 (by decide) ?_
    refine ks_iaddN hx hb dX7_does_19 ?_
    refine ks_iald hx hb hK hP 2 rfl (by omega) (by decide) dX7_does_20 ?_
    refine lv_istore_n (lv' := [(3, .int (td (4 * j_ + 2))), (2, .int (nI (dgA cs tn_ (q_ + 1)))), (0, .ref y_), (1, .int (nI j_))]) hx hb dX7_does_21 rfl hl (by decide) rfl (fun ls hl => ?_)
    refine lv_aload_n hx hb dX7_does_22 rfl (lv_at hl 2 rfl) ?_
    refine va_get (D := G.1) (ci := 7) (v := .ref (ca 4)) (C := RX7) (T := TX7) (N := 12) hx hb hts hin7 hown hK hP 0 rfl rfl 9 (by decide) (hts (.fieldLink RX7 23 "PowerTablesModel" "told" "[I") (List.mem_of_getElem? (i := 1) rfl)) (fun _ h9 => h9) rfl dX7_does_23 ?_
    refine lv_iconst (v := nI 4) hx hb dX7_does_26 (by decide) ?_
    refine lv_iload_n hx hb dX7_does_27 rfl (lv_at hl 3 rfl) ?_
    refine ks_imulN hx hb dX7_does_28 ?_
    refine lv_iconst (v := nI 3) hx hb dX7_does_29 (by decide) ?_
    refine ks_iaddN hx hb dX7_does_30 ?_
    refine ks_iald hx hb hK hP 2 rfl (by omega) (by decide) dX7_does_31 ?_
    refine lv_istore (lv' := [(4, .int (td (4 * j_ + 3))), (3, .int (td (4 * j_ + 2))), (2, .int (nI (dgA cs tn_ (q_ + 1)))), (0, .ref y_), (1, .int (nI j_))]) hx hb dX7_does_32 hl (by decide) rfl (fun ls hl => ?_)
    refine lv_aload_n hx hb dX7_does_34 rfl (lv_at hl 3 rfl) ?_
    refine va_get (D := G.1) (ci := 7) (v := .ref (ca 4)) (C := RX7) (T := TX7) (N := 12) hx hb hts hin7 hown hK hP 0 rfl rfl 9 (by decide) (hts (.fieldLink RX7 23 "PowerTablesModel" "told" "[I") (List.mem_of_getElem? (i := 1) rfl)) (fun _ h9 => h9) rfl dX7_does_35 ?_
    refine lv_iconst (v := nI 4) hx hb dX7_does_38 (by decide) ?_
    refine lv_iload_n hx hb dX7_does_39 rfl (lv_at hl 4 rfl) ?_
    refine ks_imulN hx hb dX7_does_40 ?_
    refine ks_iald hx hb hK hP 2 rfl (by omega) (by decide) dX7_does_41 ?_
    have ec := (cdA_in jq0).trans e
    refine ks_vI (show td (4 * j_) = nI 110 from jt0.trans (congrArg nI e)) ?_
    refine lv_lookup (off := 95) (tgt := 137) hx hb dX7_does_42 (by decide) (by decide +kernel) (by decide) ?_
    refine lv_aload_n hx hb dX7_does_137 rfl (lv_at hl 3 rfl) ?_
    refine va_get (D := G.1) (ci := 7) (v := .ref (ca 0)) (C := RX7) (T := TX7) (N := 12) hx hb hts hin7 hown hK hP 0 rfl rfl 0 (by decide) (hts (.fieldLink RX7 7 "PowerTablesModel" "now" "[J") (List.mem_of_getElem? (i := 2) rfl)) (fun _ h9 => h9) rfl dX7_does_138 ?_
    refine lv_bipush (v := nI 13) hx hb dX7_does_141 (by decide) ?_
    refine lv_iload_n hx hb dX7_does_143 rfl (lv_at hl 2 rfl) ?_
    refine ks_iaddN hx hb dX7_does_144 ?_
    refine lv_lconst (v := lN 0) hx hb dX7_does_145 rfl ?_
    refine ks_last (f' := mV (T.setW (dgA cs tn_ (q_ + 1)) 0)) hx hb hK hP hD hS 1 rfl (by omega) (by decide) (mV_setW (by omega)) dX7_does_146 (fun Hq lcq hP hD hS => ?_)
    have hP : va_P G.1 vwCl [(y_, .inr (7, [.ref (ca 0), .ref (ca 1), .ref (ca 2), .int (nI ke), .ref (ca 3), .int (nI ty_), .int (nI th), .int (nI po), .int (bI fl_), .ref (ca 4), .int (nI tl), .ref (ca 5)])), (ca 0, .inl (G.2.2.1, 103, .inr (.inl (mV (T.setW (dgA cs tn_ (q_ + 1)) 0))))), (ca 4, .inl (G.2.1, 124, .inl (td)))] _ := hP
    have hD : va_D A [(y_, .inr (7, [.ref (ca 0), .ref (ca 1), .ref (ca 2), .int (nI ke), .ref (ca 3), .int (nI ty_), .int (nI th), .int (nI po), .int (bI fl_), .ref (ca 4), .int (nI tl), .ref (ca 5)])), (ca 0, .inl (G.2.2.1, 103, .inr (.inl (mV (T.setW (dgA cs tn_ (q_ + 1)) 0))))), (ca 4, .inl (G.2.1, 124, .inl (td)))] := hD
    have hP := hP.cgJ 1 (g := mV (crT T cs tn_ q_)) rfl (fun q9 h9 => by rw [(cr_n (g := fun _ => 0) (by omega) (by omega) (by omega)).1])
    have hD := hD.set (p := 1) (e := .inl (G.2.2.1, 103, .inr <| .inl (mV (crT T cs tn_ q_)))) rfl
    have hP : va_P G.1 vwCl [(y_, .inr (7, [.ref (ca 0), .ref (ca 1), .ref (ca 2), .int (nI ke), .ref (ca 3), .int (nI ty_), .int (nI th), .int (nI po), .int (bI fl_), .ref (ca 4), .int (nI tl), .ref (ca 5)])), (ca 0, .inl (G.2.2.1, 103, .inr (.inl (mV (crT T cs tn_ q_))))), (ca 4, .inl (G.2.1, 124, .inl (td)))] _ := hP
    have hD : va_D A [(y_, .inr (7, [.ref (ca 0), .ref (ca 1), .ref (ca 2), .int (nI ke), .ref (ca 3), .int (nI ty_), .int (nI th), .int (nI po), .int (bI fl_), .ref (ca 4), .int (nI tl), .ref (ca 5)])), (ca 0, .inl (G.2.2.1, 103, .inr (.inl (mV (crT T cs tn_ q_))))), (ca 4, .inl (G.2.1, 124, .inl (td)))] := hD
    refine lv_iconst (v := nI 1) hx hb dX7_does_147 (by decide) ?_
    exact cr_zret hx hb hr hlocks hK hP hD hS (by decide +kernel) dX7_does_148 (by rw [hRR]; exact ctR_i (bI_1 ((cr_n (g := fun _ => 0) (by omega) (by omega) (by omega)).2.2.mpr trivial)) (rfl))
set_option maxHeartbeats 4000000 in
set_option maxRecDepth 100000 in
theorem c_X7_obey (G : GG) (l : Launch) (y_ : Nat) (ca : Nat → Nat) (ke : Nat) (ty_ : Nat) (th : Nat) (po : Nat) (fl_ : Prop) (tl : Nat) (T : TS) (f_ : Nat → Int64) (Ss : Nat → TS) (cs : Nat → Nat) (td : Nat → Int32) (g_ : Nat → Int64) (B_ : Nat) (jk6 : ke ≤ 6) (jpf : PF f_ ke Ss) (jty : ty_ ≤ 60) (jcs : ∀ k, k < 60 → cs k < 2 ^ 30) (jc : rnA cs ty_ = 9 ∨ rnA cs ty_ = 2 ∨ rnA cs ty_ = 3) (jok : OKT B_ T) (jB : B_ + 800 < 2 ^ 30) : Cr G l yX7_obey wsX7_obey ({ frames := 6, cells := 0, slots := 0, locals := 133 }) 0 0 [.ref y_] [(y_, .inr (7, [.ref (ca 0), .ref (ca 1), .ref (ca 2), .int (nI ke), .ref (ca 3), .int (nI ty_), .int (nI th), .int (nI po), .int (bI fl_), .ref (ca 4), .int (nI tl), .ref (ca 5)])), (ca 0, .inl (G.2.2.1, 103, .inr (.inl (mV T)))), (ca 2, .inl (G.2.2.1, 618, .inr (.inl (f_)))), (ca 3, .inl (G.2.1, 60, .inl (fun q9 => nI (cs q9)))), (ca 4, .inl (G.2.1, 124, .inl (td)))] (fun (vv1 : Option Value) (ww1 : va_W) => ∃ (p9_ : Nat) (m9_ : Nat) (t9 : Nat → Int32) (fl9 : Prop) (f9_ : Nat → Int64), vv1 = (some (.int (nI (obC cs ty_ T g_ ty_)))) ∧ ww1 = [(y_, .inr (7, [.ref (ca 0), .ref (ca 1), .ref (ca 2), .int (nI (mn6 ke)), .ref (ca 3), .int (nI 0), .int (nI 0), .int (nI p9_), .int (bI fl9), .ref (ca 4), .int (nI m9_), .ref (ca 5)])), (ca 0, .inl (G.2.2.1, 103, .inr (.inl (mV (obT cs ty_ T g_ ty_))))), (ca 2, .inl (G.2.2.1, 618, .inr (.inl (f9_)))), (ca 3, .inl (G.2.1, 60, .inl (fun q9 => nI (cs q9)))), (ca 4, .inl (G.2.1, 124, .inl (t9)))] ∧ (PF f9_ (mn6 ke) (svS Ss ke T))) := by
  refine cr_intro (cc := cX7_obey) (maxL := 2) (ret := (some .int)) (own := RX7) (by decide) rfl rfl (Nat.le_of_ble_eq_true rfl) ?_
  intro p e s m args below meth c A hx hb hr hml hts hown hlocks hnm hNX hP hK hD hA hS ls hl
  obtain ⟨RR, hRR⟩ : ∃ RR, RR = (fun (vv1 : Option Value) (ww1 : va_W) => ∃ (p9_ : Nat) (m9_ : Nat) (t9 : Nat → Int32) (fl9 : Prop) (f9_ : Nat → Int64), vv1 = (some (.int (nI (obC cs ty_ T g_ ty_)))) ∧ ww1 = [(y_, .inr (7, [.ref (ca 0), .ref (ca 1), .ref (ca 2), .int (nI (mn6 ke)), .ref (ca 3), .int (nI 0), .int (nI 0), .int (nI p9_), .int (bI fl9), .ref (ca 4), .int (nI m9_), .ref (ca 5)])), (ca 0, .inl (G.2.2.1, 103, .inr (.inl (mV (obT cs ty_ T g_ ty_))))), (ca 2, .inl (G.2.2.1, 618, .inr (.inl (f9_)))), (ca 3, .inl (G.2.1, 60, .inl (fun q9 => nI (cs q9)))), (ca 4, .inl (G.2.1, 124, .inl (t9)))] ∧ (PF f9_ (mn6 ke) (svS Ss ke T))) := ⟨_, rfl⟩
  rw [← hRR]
  have hl : lv_has ls 2 [(0, .ref y_)] := hl
  have hin7 : ∀ w ∈ u_ws RX7 TX7 12, w ∈ wsX7_obey := fun w h => List.mem_cons_of_mem _ (List.mem_append_right _ h)
  refine lv_aload_n hx hb dX7_obey_0 rfl (lv_at hl 0 rfl) ?_
  refine lv_iconst (v := nI 0) hx hb dX7_obey_1 (by decide) ?_
  refine va_put (D := G.1) (ci := 7) (v := .int (nI 0)) (ty := .int) (C := RX7) (T := TX7) (N := 12) hx hb hts hin7 tyX7 tyX7_ok nmX7 hown hK hP hD hS 0 rfl rfl 6 (by decide) (hts (.fieldLink RX7 39 "PowerTablesModel" "thrown" "I") (List.mem_of_getElem? (i := 1) rfl)) (fun _ h9 => h9) rfl (tyX7_ok 6 (by decide)) rfl rfl (Nat.le_of_ble_eq_true rfl) dX7_obey_2 (fun Hq lcq hP hD hS => ?_)
  have hP : va_P G.1 vwCl [(y_, .inr (7, [.ref (ca 0), .ref (ca 1), .ref (ca 2), .int (nI ke), .ref (ca 3), .int (nI ty_), .int (nI 0), .int (nI po), .int (bI fl_), .ref (ca 4), .int (nI tl), .ref (ca 5)])), (ca 0, .inl (G.2.2.1, 103, .inr (.inl (mV T)))), (ca 2, .inl (G.2.2.1, 618, .inr (.inl (f_)))), (ca 3, .inl (G.2.1, 60, .inl (fun q9 => nI (cs q9)))), (ca 4, .inl (G.2.1, 124, .inl (td)))] _ := hP
  have hD : va_D A [(y_, .inr (7, [.ref (ca 0), .ref (ca 1), .ref (ca 2), .int (nI ke), .ref (ca 3), .int (nI ty_), .int (nI 0), .int (nI po), .int (bI fl_), .ref (ca 4), .int (nI tl), .ref (ca 5)])), (ca 0, .inl (G.2.2.1, 103, .inr (.inl (mV T)))), (ca 2, .inl (G.2.2.1, 618, .inr (.inl (f_)))), (ca 3, .inl (G.2.1, 60, .inl (fun q9 => nI (cs q9)))), (ca 4, .inl (G.2.1, 124, .inl (td)))] := hD
  refine lv_aload_n hx hb dX7_obey_5 rfl (lv_at hl 0 rfl) ?_
  refine cr_V (wr := [(ca 0, .inl (G.2.2.1, 103, .inr (.inl (mV T)))), (ca 2, .inl (G.2.2.1, 618, .inr (.inl (f_))))]) (As := []) (rest := []) ⟨hx, hb, hml, hown, hts⟩ (c_X7_isText G l y_ ca ke ty_ 0 po fl_ tl cs td (by omega) (jcs)) (cwV 0 hts gX7_obey_X7_isText rfl rfl rfl (by decide +kernel) ⟨Nat.le_of_ble_eq_true rfl, Nat.le_of_ble_eq_true rfl⟩) dX7_obey_6 hK hNX hP hD hS hA hl 0 7 rfl rfl rfl [0, 3, 4] [1, 2] rfl rfl rfl rfl (by decide) rfl (Nat.le_of_ble_eq_true rfl) ⟨Nat.le_of_ble_eq_true rfl, Nat.le_of_ble_eq_true rfl⟩ rfl (fun v' w' Hq lcq hR' hP hD hS => ?_)
  obtain ⟨p9_6, m9_6, t9_6, fl9_6, P9_6, rfl, rfl, jq_6⟩ := hR'
  have hP : va_P G.1 vwCl [(y_, .inr (7, [.ref (ca 0), .ref (ca 1), .ref (ca 2), .int (nI ke), .ref (ca 3), .int (nI ty_), .int (nI 0), .int (nI p9_6), .int (bI fl9_6), .ref (ca 4), .int (nI m9_6), .ref (ca 5)])), (ca 0, .inl (G.2.2.1, 103, .inr (.inl (mV T)))), (ca 2, .inl (G.2.2.1, 618, .inr (.inl (f_)))), (ca 3, .inl (G.2.1, 60, .inl (fun q9 => nI (cs q9)))), (ca 4, .inl (G.2.1, 124, .inl (t9_6)))] _ := hP.sub [2, 0, 1, 3, 4] rfl
  have hD : va_D A [(y_, .inr (7, [.ref (ca 0), .ref (ca 1), .ref (ca 2), .int (nI ke), .ref (ca 3), .int (nI ty_), .int (nI 0), .int (nI p9_6), .int (bI fl9_6), .ref (ca 4), .int (nI m9_6), .ref (ca 5)])), (ca 0, .inl (G.2.2.1, 103, .inr (.inl (mV T)))), (ca 2, .inl (G.2.2.1, 618, .inr (.inl (f_)))), (ca 3, .inl (G.2.1, 60, .inl (fun q9 => nI (cs q9)))), (ca 4, .inl (G.2.1, 124, .inl (t9_6)))] := hD.sub [2, 0, 1, 3, 4] (by decide +kernel) rfl
  refine ks_ifb_ne (tgt := 18) hx hb dX7_obey_9 (by decide) (fun c_9 => ?_) (fun c_9 => ?_)
  · obtain ⟨k1_, k2_, k3_⟩ := jq_6.1 jc
    have k0_ := k1_.1
    refine lv_aload_n hx hb dX7_obey_18 rfl (lv_at hl 0 rfl) ?_
    refine cr_V (wr := [(ca 3, .inl (G.2.1, 60, .inl (fun q9 => nI (cs q9)))), (ca 4, .inl (G.2.1, 124, .inl (t9_6)))]) (As := []) (rest := []) ⟨hx, hb, hml, hown, hts⟩ (c_X7_saves G l y_ ca ke ty_ 0 p9_6 fl9_6 m9_6 T f_ Ss (by omega) (jpf)) (cwV 0 hts gX7_obey_X7_saves rfl rfl rfl (by decide +kernel) ⟨Nat.le_of_ble_eq_true rfl, Nat.le_of_ble_eq_true rfl⟩) dX7_obey_19 hK hNX hP hD hS hA hl 0 7 rfl rfl rfl [0, 1, 2] [3, 4] rfl rfl rfl rfl (by decide) rfl (Nat.le_of_ble_eq_true rfl) ⟨Nat.le_of_ble_eq_true rfl, Nat.le_of_ble_eq_true rfl⟩ rfl (fun v' w' Hq lcq hR' hP hD hS => ?_)
    obtain ⟨f9_19, rfl, rfl, jq_19⟩ := hR'
    have hP : va_P G.1 vwCl [(y_, .inr (7, [.ref (ca 0), .ref (ca 1), .ref (ca 2), .int (nI (mn6 ke)), .ref (ca 3), .int (nI ty_), .int (nI 0), .int (nI p9_6), .int (bI fl9_6), .ref (ca 4), .int (nI m9_6), .ref (ca 5)])), (ca 0, .inl (G.2.2.1, 103, .inr (.inl (mV T)))), (ca 2, .inl (G.2.2.1, 618, .inr (.inl (f9_19)))), (ca 3, .inl (G.2.1, 60, .inl (fun q9 => nI (cs q9)))), (ca 4, .inl (G.2.1, 124, .inl (t9_6)))] _ := hP.sub [2, 3, 4, 0, 1] rfl
    have hD : va_D A [(y_, .inr (7, [.ref (ca 0), .ref (ca 1), .ref (ca 2), .int (nI (mn6 ke)), .ref (ca 3), .int (nI ty_), .int (nI 0), .int (nI p9_6), .int (bI fl9_6), .ref (ca 4), .int (nI m9_6), .ref (ca 5)])), (ca 0, .inl (G.2.2.1, 103, .inr (.inl (mV T)))), (ca 2, .inl (G.2.2.1, 618, .inr (.inl (f9_19)))), (ca 3, .inl (G.2.1, 60, .inl (fun q9 => nI (cs q9)))), (ca 4, .inl (G.2.1, 124, .inl (t9_6)))] := hD.sub [2, 3, 4, 0, 1] (by decide +kernel) rfl
    refine lv_aload_n hx hb dX7_obey_22 rfl (lv_at hl 0 rfl) ?_
    refine lv_iconst (v := nI 0) hx hb dX7_obey_23 (by decide) ?_
    refine va_put (D := G.1) (ci := 7) (v := .int (nI 0)) (ty := .int) (C := RX7) (T := TX7) (N := 12) hx hb hts hin7 tyX7 tyX7_ok nmX7 hown hK hP hD hS 0 rfl rfl 5 (by decide) (hts (.fieldLink RX7 119 "PowerTablesModel" "typed" "I") (List.mem_of_getElem? (i := 2) rfl)) (fun _ h9 => h9) rfl (tyX7_ok 5 (by decide)) rfl rfl (Nat.le_of_ble_eq_true rfl) dX7_obey_24 (fun Hq lcq hP hD hS => ?_)
    have hP : va_P G.1 vwCl [(y_, .inr (7, [.ref (ca 0), .ref (ca 1), .ref (ca 2), .int (nI (mn6 ke)), .ref (ca 3), .int (nI 0), .int (nI 0), .int (nI p9_6), .int (bI fl9_6), .ref (ca 4), .int (nI m9_6), .ref (ca 5)])), (ca 0, .inl (G.2.2.1, 103, .inr (.inl (mV T)))), (ca 2, .inl (G.2.2.1, 618, .inr (.inl (f9_19)))), (ca 3, .inl (G.2.1, 60, .inl (fun q9 => nI (cs q9)))), (ca 4, .inl (G.2.1, 124, .inl (t9_6)))] _ := hP
    have hD : va_D A [(y_, .inr (7, [.ref (ca 0), .ref (ca 1), .ref (ca 2), .int (nI (mn6 ke)), .ref (ca 3), .int (nI 0), .int (nI 0), .int (nI p9_6), .int (bI fl9_6), .ref (ca 4), .int (nI m9_6), .ref (ca 5)])), (ca 0, .inl (G.2.2.1, 103, .inr (.inl (mV T)))), (ca 2, .inl (G.2.2.1, 618, .inr (.inl (f9_19)))), (ca 3, .inl (G.2.1, 60, .inl (fun q9 => nI (cs q9)))), (ca 4, .inl (G.2.1, 124, .inl (t9_6)))] := hD
    have hP := hP.cgJ 1 (g := mV (obT cs ty_ T g_ (P9_6 0))) rfl (fun q9 h9 => by rw [k0_]; rfl)
    have hD := hD.set (p := 1) (e := .inl (G.2.2.1, 103, .inr <| .inl (mV (obT cs ty_ T g_ (P9_6 0))))) rfl
    have hP : va_P G.1 vwCl [(y_, .inr (7, [.ref (ca 0), .ref (ca 1), .ref (ca 2), .int (nI (mn6 ke)), .ref (ca 3), .int (nI 0), .int (nI 0), .int (nI p9_6), .int (bI fl9_6), .ref (ca 4), .int (nI m9_6), .ref (ca 5)])), (ca 0, .inl (G.2.2.1, 103, .inr (.inl (mV (obT cs ty_ T g_ (P9_6 0)))))), (ca 2, .inl (G.2.2.1, 618, .inr (.inl (f9_19)))), (ca 3, .inl (G.2.1, 60, .inl (fun q9 => nI (cs q9)))), (ca 4, .inl (G.2.1, 124, .inl (t9_6)))] _ := hP
    have hD : va_D A [(y_, .inr (7, [.ref (ca 0), .ref (ca 1), .ref (ca 2), .int (nI (mn6 ke)), .ref (ca 3), .int (nI 0), .int (nI 0), .int (nI p9_6), .int (bI fl9_6), .ref (ca 4), .int (nI m9_6), .ref (ca 5)])), (ca 0, .inl (G.2.2.1, 103, .inr (.inl (mV (obT cs ty_ T g_ (P9_6 0)))))), (ca 2, .inl (G.2.2.1, 618, .inr (.inl (f9_19)))), (ca 3, .inl (G.2.1, 60, .inl (fun q9 => nI (cs q9)))), (ca 4, .inl (G.2.1, 124, .inl (t9_6)))] := hD
    refine lv_iconst (v := nI 0) hx hb dX7_obey_27 (by decide) ?_
    refine lv_istore_n (lv' := [(1, .int (nI 0)), (0, .ref y_)]) hx hb dX7_obey_28 rfl hl (by decide) rfl (fun ls hl => ?_)
    have L_29 : ∀ (n_29 : Nat) (j_ : Nat) (_ : 33 - j_ < n_29) (jj : j_ ≤ m9_6) (jO : obO cs ty_ T g_ (P9_6 j_)) (jC : obC cs ty_ T g_ (P9_6 j_) = j_) (Hq : Heap) (lcq : List Loc), va_P G.1 vwCl [(y_, .inr (7, [.ref (ca 0), .ref (ca 1), .ref (ca 2), .int (nI (mn6 ke)), .ref (ca 3), .int (nI 0), .int (nI 0), .int (nI p9_6), .int (bI fl9_6), .ref (ca 4), .int (nI m9_6), .ref (ca 5)])), (ca 0, .inl (G.2.2.1, 103, .inr (.inl (mV (obT cs ty_ T g_ (P9_6 j_)))))), (ca 2, .inl (G.2.2.1, 618, .inr (.inl (f9_19)))), (ca 3, .inl (G.2.1, 60, .inl (fun q9 => nI (cs q9)))), (ca 4, .inl (G.2.1, 124, .inl (t9_6)))] Hq → va_D A [(y_, .inr (7, [.ref (ca 0), .ref (ca 1), .ref (ca 2), .int (nI (mn6 ke)), .ref (ca 3), .int (nI 0), .int (nI 0), .int (nI p9_6), .int (bI fl9_6), .ref (ca 4), .int (nI m9_6), .ref (ca 5)])), (ca 0, .inl (G.2.2.1, 103, .inr (.inl (mV (obT cs ty_ T g_ (P9_6 j_)))))), (ca 2, .inl (G.2.2.1, 618, .inr (.inl (f9_19)))), (ca 3, .inl (G.2.1, 60, .inl (fun q9 => nI (cs q9)))), (ca 4, .inl (G.2.1, 124, .inl (t9_6)))] → va_S A s.heap Hq lcq → ∀ ls : Array Slot, lv_has ls 2 [(1, .int (nI j_)), (0, .ref y_)] → W p l e ({ frames := 6, cells := 0, slots := 0, locals := 133 }) s m args below meth c Hq lcq 0 0 (MQ below (cr_Q G RR A) args s 0 0 A) (F0 m 29 ls []) := by
      intro n_29
      induction n_29 with
      | zero => intro j_ hmu_29; exact absurd hmu_29 (Nat.not_lt_zero _)
      | succ n_29 ih_29 =>
        intro j_ hmu_29 jj jO jC Hq lcq hP hD hS ls hl
        refine lv_iload_n hx hb dX7_obey_29 rfl (lv_at hl 0 rfl) ?_
        refine lv_aload_n hx hb dX7_obey_30 rfl (lv_at hl 1 rfl) ?_
        refine va_get (D := G.1) (ci := 7) (v := .int (nI m9_6)) (C := RX7) (T := TX7) (N := 12) hx hb hts hin7 hown hK hP 0 rfl rfl 10 (by decide) (hts (.fieldLink RX7 137 "PowerTablesModel" "tolds" "I") (List.mem_of_getElem? (i := 3) rfl)) (fun _ h9 => h9) rfl dX7_obey_31 ?_
        refine ks_icmp_ge (tgt := 51) hx hb dX7_obey_34 (by decide) (by omega) (by omega) (fun c_34 => ?_) (fun c_34 => ?_)
        · obtain rfl : m9_6 = j_ := by omega
          have ze := ob_end (T := T) (g := g_) k1_ k2_
          have hP := hP.cgJ 1 (g := mV (obT cs ty_ T g_ ty_)) rfl (fun q9 h9 => by unfold obT; rw [ze])
          have hD := hD.set (p := 1) (e := .inl (G.2.2.1, 103, .inr <| .inl (mV (obT cs ty_ T g_ ty_)))) rfl
          have hP : va_P G.1 vwCl [(y_, .inr (7, [.ref (ca 0), .ref (ca 1), .ref (ca 2), .int (nI (mn6 ke)), .ref (ca 3), .int (nI 0), .int (nI 0), .int (nI p9_6), .int (bI fl9_6), .ref (ca 4), .int (nI m9_6), .ref (ca 5)])), (ca 0, .inl (G.2.2.1, 103, .inr (.inl (mV (obT cs ty_ T g_ ty_))))), (ca 2, .inl (G.2.2.1, 618, .inr (.inl (f9_19)))), (ca 3, .inl (G.2.1, 60, .inl (fun q9 => nI (cs q9)))), (ca 4, .inl (G.2.1, 124, .inl (t9_6)))] _ := hP
          have hD : va_D A [(y_, .inr (7, [.ref (ca 0), .ref (ca 1), .ref (ca 2), .int (nI (mn6 ke)), .ref (ca 3), .int (nI 0), .int (nI 0), .int (nI p9_6), .int (bI fl9_6), .ref (ca 4), .int (nI m9_6), .ref (ca 5)])), (ca 0, .inl (G.2.2.1, 103, .inr (.inl (mV (obT cs ty_ T g_ ty_))))), (ca 2, .inl (G.2.2.1, 618, .inr (.inl (f9_19)))), (ca 3, .inl (G.2.1, 60, .inl (fun q9 => nI (cs q9)))), (ca 4, .inl (G.2.1, 124, .inl (t9_6)))] := hD
          refine lv_iload_n hx hb dX7_obey_51 rfl (lv_at hl 0 rfl) ?_
          exact cr_iret hx hb hr hlocks hK hP hD hS dX7_obey_52 (by rw [hRR]; exact ⟨_, _, _, _, f9_19, congrArg (fun z => some (Value.int z)) (congrArg nI (by unfold obC at jC ⊢; rw [ze, jC])), rfl, jq_19⟩)
        · refine lv_aload_n hx hb dX7_obey_37 rfl (lv_at hl 1 rfl) ?_
          refine lv_iload_n hx hb dX7_obey_38 rfl (lv_at hl 0 rfl) ?_
          refine cr_V (wr := [(ca 2, .inl (G.2.2.1, 618, .inr (.inl (f9_19)))), (ca 3, .inl (G.2.1, 60, .inl (fun q9 => nI (cs q9))))]) (As := [.int (nI j_)]) (rest := []) ⟨hx, hb, hml, hown, hts⟩ (c_X7_does G l y_ ca (mn6 ke) 0 0 p9_6 fl9_6 m9_6 (obT cs ty_ T g_ (P9_6 j_)) t9_6 cs ty_ (P9_6 j_) j_ B_ ((k1_.2 j_ c_34).1) (by omega) (ob_ok jok _) (jB)) (cwV 1 hts gX7_obey_X7_does rfl rfl rfl (by decide +kernel) ⟨Nat.le_of_ble_eq_true rfl, Nat.le_of_ble_eq_true rfl⟩) dX7_obey_39 hK hNX hP hD hS hA hl 0 7 rfl rfl rfl [0, 1, 4] [2, 3] rfl rfl rfl rfl (by decide) rfl (Nat.le_of_ble_eq_true rfl) ⟨Nat.le_of_ble_eq_true rfl, Nat.le_of_ble_eq_true rfl⟩ rfl (fun v' w' Hq lcq hR' hP hD hS => ?_)
          obtain ⟨rfl, rfl⟩ := hR'
          have hP : va_P G.1 vwCl [(y_, .inr (7, [.ref (ca 0), .ref (ca 1), .ref (ca 2), .int (nI (mn6 ke)), .ref (ca 3), .int (nI 0), .int (nI 0), .int (nI p9_6), .int (bI fl9_6), .ref (ca 4), .int (nI m9_6), .ref (ca 5)])), (ca 0, .inl (G.2.2.1, 103, .inr (.inl (mV (crT (obT cs ty_ T g_ (P9_6 j_)) cs ty_ (P9_6 j_)))))), (ca 2, .inl (G.2.2.1, 618, .inr (.inl (f9_19)))), (ca 3, .inl (G.2.1, 60, .inl (fun q9 => nI (cs q9)))), (ca 4, .inl (G.2.1, 124, .inl (t9_6)))] _ := hP.sub [2, 3, 0, 1, 4] rfl
          have hD : va_D A [(y_, .inr (7, [.ref (ca 0), .ref (ca 1), .ref (ca 2), .int (nI (mn6 ke)), .ref (ca 3), .int (nI 0), .int (nI 0), .int (nI p9_6), .int (bI fl9_6), .ref (ca 4), .int (nI m9_6), .ref (ca 5)])), (ca 0, .inl (G.2.2.1, 103, .inr (.inl (mV (crT (obT cs ty_ T g_ (P9_6 j_)) cs ty_ (P9_6 j_)))))), (ca 2, .inl (G.2.2.1, 618, .inr (.inl (f9_19)))), (ca 3, .inl (G.2.1, 60, .inl (fun q9 => nI (cs q9)))), (ca 4, .inl (G.2.1, 124, .inl (t9_6)))] := hD.sub [2, 3, 0, 1, 4] (by decide +kernel) rfl
          refine ks_ifb_eq (tgt := 51) hx hb dX7_obey_42 (by decide) (fun c_42 => ?_) (fun c_42 => ?_)
          · have zs := ob_stop k1_ c_34 k2_ jO jC c_42
            have hP := hP.cgJ 1 (g := mV (obT cs ty_ T g_ ty_)) rfl (fun q9 h9 => by rw [zs.1])
            have hD := hD.set (p := 1) (e := .inl (G.2.2.1, 103, .inr <| .inl (mV (obT cs ty_ T g_ ty_)))) rfl
            have hP : va_P G.1 vwCl [(y_, .inr (7, [.ref (ca 0), .ref (ca 1), .ref (ca 2), .int (nI (mn6 ke)), .ref (ca 3), .int (nI 0), .int (nI 0), .int (nI p9_6), .int (bI fl9_6), .ref (ca 4), .int (nI m9_6), .ref (ca 5)])), (ca 0, .inl (G.2.2.1, 103, .inr (.inl (mV (obT cs ty_ T g_ ty_))))), (ca 2, .inl (G.2.2.1, 618, .inr (.inl (f9_19)))), (ca 3, .inl (G.2.1, 60, .inl (fun q9 => nI (cs q9)))), (ca 4, .inl (G.2.1, 124, .inl (t9_6)))] _ := hP
            have hD : va_D A [(y_, .inr (7, [.ref (ca 0), .ref (ca 1), .ref (ca 2), .int (nI (mn6 ke)), .ref (ca 3), .int (nI 0), .int (nI 0), .int (nI p9_6), .int (bI fl9_6), .ref (ca 4), .int (nI m9_6), .ref (ca 5)])), (ca 0, .inl (G.2.2.1, 103, .inr (.inl (mV (obT cs ty_ T g_ ty_))))), (ca 2, .inl (G.2.2.1, 618, .inr (.inl (f9_19)))), (ca 3, .inl (G.2.1, 60, .inl (fun q9 => nI (cs q9)))), (ca 4, .inl (G.2.1, 124, .inl (t9_6)))] := hD
            refine lv_iload_n hx hb dX7_obey_51 rfl (lv_at hl 0 rfl) ?_
            exact cr_iret hx hb hr hlocks hK hP hD hS dX7_obey_52 (by rw [hRR]; exact ⟨_, _, _, _, f9_19, congrArg (fun z => some (Value.int z)) (congrArg nI zs.2.symm), rfl, jq_19⟩)
          · have zn := ob_next k1_ c_34 jO
            have jO2 : obO cs ty_ T g_ (P9_6 (j_ + 1)) := by unfold obO; rw [zn]; exact c_42
            have jC2 : obC cs ty_ T g_ (P9_6 (j_ + 1)) = j_ + 1 := by unfold obC; rw [zn]; show obC cs ty_ T g_ (P9_6 j_) + b01 _ = j_ + 1; rw [jC, b01_t c_42]
            have hP := hP.cgJ 1 (g := mV (obT cs ty_ T g_ (P9_6 (j_ + 1)))) rfl (fun q9 h9 => by unfold obT; rw [zn]; rfl)
            have hD := hD.set (p := 1) (e := .inl (G.2.2.1, 103, .inr <| .inl (mV (obT cs ty_ T g_ (P9_6 (j_ + 1)))))) rfl
            have hP : va_P G.1 vwCl [(y_, .inr (7, [.ref (ca 0), .ref (ca 1), .ref (ca 2), .int (nI (mn6 ke)), .ref (ca 3), .int (nI 0), .int (nI 0), .int (nI p9_6), .int (bI fl9_6), .ref (ca 4), .int (nI m9_6), .ref (ca 5)])), (ca 0, .inl (G.2.2.1, 103, .inr (.inl (mV (obT cs ty_ T g_ (P9_6 (j_ + 1))))))), (ca 2, .inl (G.2.2.1, 618, .inr (.inl (f9_19)))), (ca 3, .inl (G.2.1, 60, .inl (fun q9 => nI (cs q9)))), (ca 4, .inl (G.2.1, 124, .inl (t9_6)))] _ := hP
            have hD : va_D A [(y_, .inr (7, [.ref (ca 0), .ref (ca 1), .ref (ca 2), .int (nI (mn6 ke)), .ref (ca 3), .int (nI 0), .int (nI 0), .int (nI p9_6), .int (bI fl9_6), .ref (ca 4), .int (nI m9_6), .ref (ca 5)])), (ca 0, .inl (G.2.2.1, 103, .inr (.inl (mV (obT cs ty_ T g_ (P9_6 (j_ + 1))))))), (ca 2, .inl (G.2.2.1, 618, .inr (.inl (f9_19)))), (ca 3, .inl (G.2.1, 60, .inl (fun q9 => nI (cs q9)))), (ca 4, .inl (G.2.1, 124, .inl (t9_6)))] := hD
            refine lv_iinc (v := nI (j_ + 1)) (lv' := [(1, .int (nI (j_ + 1))), (0, .ref y_)]) hx hb dX7_obey_45 hl (k := 0) rfl (ks_inc j_ 1) (by decide) rfl (fun ls hl => ?_)
            refine lv_goto (tgt := 29) hx hb dX7_obey_48 (by decide) ?_
            exact ih_29  (j_ + 1) (by omega) (by omega) (jO2) (jC2) _ _ hP hD hS ls (lv_sub hl [0, 1] rfl)
    exact L_29 _ 0 (Nat.lt_succ_self _) (by omega) (by rw [k0_]; trivial) (by rw [k0_]; rfl) _ _ hP hD hS ls (lv_sub hl [0, 1] rfl)
  · exact absurd jc c_9
set_option maxHeartbeats 4000000 in
set_option maxRecDepth 100000 in
theorem c_X7_obey__b1 (G : GG) (l : Launch) (y_ : Nat) (ca : Nat → Nat) (ke : Nat) (ty_ : Nat) (th : Nat) (po : Nat) (fl_ : Prop) (tl : Nat) (cs : Nat → Nat) (td : Nat → Int32) (jty : ty_ ≤ 60) (jcs : ∀ k, k < 60 → cs k < 2 ^ 30) (h8 : ¬ (rnA cs ty_ = 9 ∨ rnA cs ty_ = 2 ∨ rnA cs ty_ = 3)) : Cr G l yX7_obey wsX7_obey ({ frames := 6, cells := 0, slots := 0, locals := 133 }) 0 0 [.ref y_] [(y_, .inr (7, [.ref (ca 0), .ref (ca 1), .ref (ca 2), .int (nI ke), .ref (ca 3), .int (nI ty_), .int (nI th), .int (nI po), .int (bI fl_), .ref (ca 4), .int (nI tl), .ref (ca 5)])), (ca 3, .inl (G.2.1, 60, .inl (fun q9 => nI (cs q9)))), (ca 4, .inl (G.2.1, 124, .inl (td)))] (fun (vv1 : Option Value) (ww1 : va_W) => ∃ (p9_ : Nat) (m9_ : Nat) (t9 : Nat → Int32) (fl9 : Prop), vv1 = (some (.int (nI 0))) ∧ ww1 = [(y_, .inr (7, [.ref (ca 0), .ref (ca 1), .ref (ca 2), .int (nI ke), .ref (ca 3), .int (nI ty_), .int (nI 1), .int (nI p9_), .int (bI fl9), .ref (ca 4), .int (nI m9_), .ref (ca 5)])), (ca 3, .inl (G.2.1, 60, .inl (fun q9 => nI (cs q9)))), (ca 4, .inl (G.2.1, 124, .inl (t9)))]) := by
  refine cr_intro (cc := cX7_obey) (maxL := 2) (ret := (some .int)) (own := RX7) (by decide) rfl rfl (Nat.le_of_ble_eq_true rfl) ?_
  intro p e s m args below meth c A hx hb hr hml hts hown hlocks hnm hNX hP hK hD hA hS ls hl
  obtain ⟨RR, hRR⟩ : ∃ RR, RR = (fun (vv1 : Option Value) (ww1 : va_W) => ∃ (p9_ : Nat) (m9_ : Nat) (t9 : Nat → Int32) (fl9 : Prop), vv1 = (some (.int (nI 0))) ∧ ww1 = [(y_, .inr (7, [.ref (ca 0), .ref (ca 1), .ref (ca 2), .int (nI ke), .ref (ca 3), .int (nI ty_), .int (nI 1), .int (nI p9_), .int (bI fl9), .ref (ca 4), .int (nI m9_), .ref (ca 5)])), (ca 3, .inl (G.2.1, 60, .inl (fun q9 => nI (cs q9)))), (ca 4, .inl (G.2.1, 124, .inl (t9)))]) := ⟨_, rfl⟩
  rw [← hRR]
  have hl : lv_has ls 2 [(0, .ref y_)] := hl
  have hin7 : ∀ w ∈ u_ws RX7 TX7 12, w ∈ wsX7_obey := fun w h => List.mem_cons_of_mem _ (List.mem_append_right _ h)
  refine lv_aload_n hx hb dX7_obey_0 rfl (lv_at hl 0 rfl) ?_
  refine lv_iconst (v := nI 0) hx hb dX7_obey_1 (by decide) ?_
  refine va_put (D := G.1) (ci := 7) (v := .int (nI 0)) (ty := .int) (C := RX7) (T := TX7) (N := 12) hx hb hts hin7 tyX7 tyX7_ok nmX7 hown hK hP hD hS 0 rfl rfl 6 (by decide) (hts (.fieldLink RX7 39 "PowerTablesModel" "thrown" "I") (List.mem_of_getElem? (i := 1) rfl)) (fun _ h9 => h9) rfl (tyX7_ok 6 (by decide)) rfl rfl (Nat.le_of_ble_eq_true rfl) dX7_obey_2 (fun Hq lcq hP hD hS => ?_)
  have hP : va_P G.1 vwCl [(y_, .inr (7, [.ref (ca 0), .ref (ca 1), .ref (ca 2), .int (nI ke), .ref (ca 3), .int (nI ty_), .int (nI 0), .int (nI po), .int (bI fl_), .ref (ca 4), .int (nI tl), .ref (ca 5)])), (ca 3, .inl (G.2.1, 60, .inl (fun q9 => nI (cs q9)))), (ca 4, .inl (G.2.1, 124, .inl (td)))] _ := hP
  have hD : va_D A [(y_, .inr (7, [.ref (ca 0), .ref (ca 1), .ref (ca 2), .int (nI ke), .ref (ca 3), .int (nI ty_), .int (nI 0), .int (nI po), .int (bI fl_), .ref (ca 4), .int (nI tl), .ref (ca 5)])), (ca 3, .inl (G.2.1, 60, .inl (fun q9 => nI (cs q9)))), (ca 4, .inl (G.2.1, 124, .inl (td)))] := hD
  refine lv_aload_n hx hb dX7_obey_5 rfl (lv_at hl 0 rfl) ?_
  refine cr_V (wr := []) (As := []) (rest := []) ⟨hx, hb, hml, hown, hts⟩ (c_X7_isText G l y_ ca ke ty_ 0 po fl_ tl cs td (by omega) (jcs)) (cwV 0 hts gX7_obey_X7_isText rfl rfl rfl (by decide +kernel) ⟨Nat.le_of_ble_eq_true rfl, Nat.le_of_ble_eq_true rfl⟩) dX7_obey_6 hK hNX hP hD hS hA hl 0 7 rfl rfl rfl [0, 1, 2] [] rfl rfl rfl rfl (by decide) rfl (Nat.le_of_ble_eq_true rfl) ⟨Nat.le_of_ble_eq_true rfl, Nat.le_of_ble_eq_true rfl⟩ rfl (fun v' w' Hq lcq hR' hP hD hS => ?_)
  obtain ⟨p9_6, m9_6, t9_6, fl9_6, P9_6, rfl, rfl, jq_6⟩ := hR'
  have hP : va_P G.1 vwCl [(y_, .inr (7, [.ref (ca 0), .ref (ca 1), .ref (ca 2), .int (nI ke), .ref (ca 3), .int (nI ty_), .int (nI 0), .int (nI p9_6), .int (bI fl9_6), .ref (ca 4), .int (nI m9_6), .ref (ca 5)])), (ca 3, .inl (G.2.1, 60, .inl (fun q9 => nI (cs q9)))), (ca 4, .inl (G.2.1, 124, .inl (t9_6)))] _ := hP.sub [0, 1, 2] rfl
  have hD : va_D A [(y_, .inr (7, [.ref (ca 0), .ref (ca 1), .ref (ca 2), .int (nI ke), .ref (ca 3), .int (nI ty_), .int (nI 0), .int (nI p9_6), .int (bI fl9_6), .ref (ca 4), .int (nI m9_6), .ref (ca 5)])), (ca 3, .inl (G.2.1, 60, .inl (fun q9 => nI (cs q9)))), (ca 4, .inl (G.2.1, 124, .inl (t9_6)))] := hD.sub [0, 1, 2] (by decide +kernel) rfl
  refine ks_ifb_ne (tgt := 18) hx hb dX7_obey_9 (by decide) (fun c_9 => ?_) (fun c_9 => ?_)
  · exact absurd c_9 h8
  · refine lv_aload_n hx hb dX7_obey_12 rfl (lv_at hl 0 rfl) ?_
    refine lv_iconst (v := nI 1) hx hb dX7_obey_13 (by decide) ?_
    refine cr_V (wr := [(ca 3, .inl (G.2.1, 60, .inl (fun q9 => nI (cs q9)))), (ca 4, .inl (G.2.1, 124, .inl (t9_6)))]) (As := [.int (nI 1)]) (rest := []) ⟨hx, hb, hml, hown, hts⟩ (c_X7_fails G l y_ ca ke ty_ 0 p9_6 fl9_6 m9_6 1 ) (cwV 1 hts gX7_obey_X7_fails rfl rfl rfl (by decide +kernel) ⟨Nat.le_of_ble_eq_true rfl, Nat.le_of_ble_eq_true rfl⟩) dX7_obey_14 hK hNX hP hD hS hA hl 0 7 rfl rfl rfl [0] [1, 2] rfl rfl rfl rfl (by decide) rfl (Nat.le_of_ble_eq_true rfl) ⟨Nat.le_of_ble_eq_true rfl, Nat.le_of_ble_eq_true rfl⟩ rfl (fun v' w' Hq lcq hR' hP hD hS => ?_)
    obtain ⟨rfl, rfl⟩ := hR'
    have hP : va_P G.1 vwCl [(y_, .inr (7, [.ref (ca 0), .ref (ca 1), .ref (ca 2), .int (nI ke), .ref (ca 3), .int (nI ty_), .int (nI 1), .int (nI p9_6), .int (bI fl9_6), .ref (ca 4), .int (nI m9_6), .ref (ca 5)])), (ca 3, .inl (G.2.1, 60, .inl (fun q9 => nI (cs q9)))), (ca 4, .inl (G.2.1, 124, .inl (t9_6)))] _ := hP.sub [2, 0, 1] rfl
    have hD : va_D A [(y_, .inr (7, [.ref (ca 0), .ref (ca 1), .ref (ca 2), .int (nI ke), .ref (ca 3), .int (nI ty_), .int (nI 1), .int (nI p9_6), .int (bI fl9_6), .ref (ca 4), .int (nI m9_6), .ref (ca 5)])), (ca 3, .inl (G.2.1, 60, .inl (fun q9 => nI (cs q9)))), (ca 4, .inl (G.2.1, 124, .inl (t9_6)))] := hD.sub [2, 0, 1] (by decide +kernel) rfl
    exact cr_iret hx hb hr hlocks hK hP hD hS dX7_obey_17 (by rw [hRR]; exact ⟨_, _, _, _, congrArg (fun z => some (Value.int z)) (rfl), rfl⟩)
