set_option maxHeartbeats 4000000 in
set_option maxRecDepth 100000 in
theorem c_X0_clear (G : GG) (l : Launch) (h0 : Nat) (h1 : Nat) (f_ : Nat → Int64) (n_ : Nat)  : Cr G l yX0_clear wsX0_clear ({ frames := 0, cells := 0, slots := 0, locals := 0 }) 0 0 [.ref h0] [(h0, .inr (0, [.ref h1, .int (nI n_)])), (h1, .inl (G.2.2.1, 40, .inr (.inl (f_))))] (ctR none [(h0, .inr (0, [.ref h1, .int (nI 0)])), (h1, .inl (G.2.2.1, 40, .inr (.inl (f_))))]) := by
  refine cr_intro (cc := cX0_clear) (maxL := 1) (ret := none) (own := RX0) (by decide) rfl rfl (Nat.le_of_ble_eq_true rfl) ?_
  intro p e s m args below meth c A hx hb hr hml hts hown hlocks hnm hNX hP hK hD hA hS ls hl
  obtain ⟨RR, hRR⟩ : ∃ RR, RR = (ctR none [(h0, .inr (0, [.ref h1, .int (nI 0)])), (h1, .inl (G.2.2.1, 40, .inr (.inl (f_))))]) := ⟨_, rfl⟩
  rw [← hRR]
  have hl : lv_has ls 1 [(0, .ref h0)] := hl
  have hin0 : ∀ w ∈ u_ws RX0 TX0 2, w ∈ wsX0_clear := fun w h => List.mem_cons_of_mem _ (List.mem_append_right _ h)
  refine lv_aload_n hx hb dX0_clear_0 rfl (lv_at hl 0 rfl) ?_
  refine lv_iconst (v := nI 0) hx hb dX0_clear_1 (by decide) ?_
  refine va_put (D := G.1) (ci := 0) (v := .int (nI 0)) (ty := .int) (C := RX0) (T := TX0) (N := 2) hx hb hts hin0 tyX0 tyX0_ok nmX0 hown hK hP hD hS 0 rfl rfl 1 (by decide) (hts (.fieldLink RX0 15 "PowerTables$Differences" "size" "I") (List.mem_of_getElem? (i := 1) rfl)) (fun _ h9 => h9) rfl (tyX0_ok 1 (by decide)) rfl rfl (Nat.le_of_ble_eq_true rfl) dX0_clear_2 (fun Hq lcq hP hD hS => ?_)
  have hP : va_P G.1 vwCl [(h0, .inr (0, [.ref h1, .int (nI 0)])), (h1, .inl (G.2.2.1, 40, .inr (.inl (f_))))] _ := hP
  have hD : va_D A [(h0, .inr (0, [.ref h1, .int (nI 0)])), (h1, .inl (G.2.2.1, 40, .inr (.inl (f_))))] := hD
  exact cr_vret hx hb hr hlocks hK hP hD hS dX0_clear_5 (by rw [hRR]; exact ctR_v (rfl))
set_option maxHeartbeats 4000000 in
set_option maxRecDepth 100000 in
theorem c_X0_put (G : GG) (l : Launch) (h0 : Nat) (h1 : Nat) (f_ : Nat → Int64) (n_ : Nat) (x_ : Int64) (hn : n_ < 40) : Cr G l yX0_put wsX0_put ({ frames := 0, cells := 0, slots := 0, locals := 0 }) 0 0 [.ref h0, .long x_] [(h0, .inr (0, [.ref h1, .int (nI n_)])), (h1, .inl (G.2.2.1, 40, .inr (.inl (f_))))] (ctR none [(h0, .inr (0, [.ref h1, .int (nI (n_ + 1))])), (h1, .inl (G.2.2.1, 40, .inr (.inl (vp_updL f_ n_ x_))))]) := by
  refine cr_intro (cc := cX0_put) (maxL := 3) (ret := none) (own := RX0) (by decide) rfl rfl (Nat.le_of_ble_eq_true rfl) ?_
  intro p e s m args below meth c A hx hb hr hml hts hown hlocks hnm hNX hP hK hD hA hS ls hl
  obtain ⟨RR, hRR⟩ : ∃ RR, RR = (ctR none [(h0, .inr (0, [.ref h1, .int (nI (n_ + 1))])), (h1, .inl (G.2.2.1, 40, .inr (.inl (vp_updL f_ n_ x_))))]) := ⟨_, rfl⟩
  rw [← hRR]
  have hl : lv_has ls 3 [(0, .ref h0), (1, .long x_)] := hl
  have hin0 : ∀ w ∈ u_ws RX0 TX0 2, w ∈ wsX0_put := fun w h => List.mem_cons_of_mem _ (List.mem_append_right _ h)
  refine lv_aload_n hx hb dX0_put_0 rfl (lv_at hl 0 rfl) ?_
  refine va_get (D := G.1) (ci := 0) (v := .int (nI n_)) (C := RX0) (T := TX0) (N := 2) hx hb hts hin0 hown hK hP 0 rfl rfl 1 (by decide) (hts (.fieldLink RX0 15 "PowerTables$Differences" "size" "I") (List.mem_of_getElem? (i := 1) rfl)) (fun _ h9 => h9) rfl dX0_put_1 ?_
  refine lv_aload_n hx hb dX0_put_4 rfl (lv_at hl 0 rfl) ?_
  refine va_get (D := G.1) (ci := 0) (v := .ref h1) (C := RX0) (T := TX0) (N := 2) hx hb hts hin0 hown hK hP 0 rfl rfl 0 (by decide) (hts (.fieldLink RX0 9 "PowerTables$Differences" "values" "[J") (List.mem_of_getElem? (i := 2) rfl)) (fun _ h9 => h9) rfl dX0_put_5 ?_
  refine va_alen (v := nI 40) hx hb hK hP 1 1 rfl rfl rfl dX0_put_8 ?_
  refine ks_icmp_ge (tgt := 32) hx hb dX0_put_9 (by decide) (by omega) (by omega) (fun c_9 => ?_) (fun c_9 => ?_)
  · omega
  · refine lv_aload_n hx hb dX0_put_12 rfl (lv_at hl 0 rfl) ?_
    refine va_get (D := G.1) (ci := 0) (v := .ref h1) (C := RX0) (T := TX0) (N := 2) hx hb hts hin0 hown hK hP 0 rfl rfl 0 (by decide) (hts (.fieldLink RX0 9 "PowerTables$Differences" "values" "[J") (List.mem_of_getElem? (i := 2) rfl)) (fun _ h9 => h9) rfl dX0_put_13 ?_
    refine lv_aload_n hx hb dX0_put_16 rfl (lv_at hl 0 rfl) ?_
    refine va_get (D := G.1) (ci := 0) (v := .int (nI n_)) (C := RX0) (T := TX0) (N := 2) hx hb hts hin0 hown hK hP 0 rfl rfl 1 (by decide) (hts (.fieldLink RX0 15 "PowerTables$Differences" "size" "I") (List.mem_of_getElem? (i := 1) rfl)) (fun _ h9 => h9) rfl dX0_put_17 ?_
    refine lv_lload_n hx hb dX0_put_20 rfl (lv_at hl 1 rfl) ?_
    refine ks_last (f' := vp_updL f_ n_ x_) hx hb hK hP hD hS 1 rfl (by omega) (by decide) (rfl) dX0_put_21 (fun Hq lcq hP hD hS => ?_)
    have hP : va_P G.1 vwCl [(h0, .inr (0, [.ref h1, .int (nI n_)])), (h1, .inl (G.2.2.1, 40, .inr (.inl (vp_updL f_ n_ x_))))] _ := hP
    have hD : va_D A [(h0, .inr (0, [.ref h1, .int (nI n_)])), (h1, .inl (G.2.2.1, 40, .inr (.inl (vp_updL f_ n_ x_))))] := hD
    refine lv_aload_n hx hb dX0_put_22 rfl (lv_at hl 0 rfl) ?_
    refine lv_dup hx hb dX0_put_23 rfl ?_
    refine va_get (D := G.1) (ci := 0) (v := .int (nI n_)) (C := RX0) (T := TX0) (N := 2) hx hb hts hin0 hown hK hP 0 rfl rfl 1 (by decide) (hts (.fieldLink RX0 15 "PowerTables$Differences" "size" "I") (List.mem_of_getElem? (i := 1) rfl)) (fun _ h9 => h9) rfl dX0_put_24 ?_
    refine lv_iconst (v := nI 1) hx hb dX0_put_27 (by decide) ?_
    refine ks_iaddN hx hb dX0_put_28 ?_
    refine va_put (D := G.1) (ci := 0) (v := .int (nI (n_ + 1))) (ty := .int) (C := RX0) (T := TX0) (N := 2) hx hb hts hin0 tyX0 tyX0_ok nmX0 hown hK hP hD hS 0 rfl rfl 1 (by decide) (hts (.fieldLink RX0 15 "PowerTables$Differences" "size" "I") (List.mem_of_getElem? (i := 1) rfl)) (fun _ h9 => h9) rfl (tyX0_ok 1 (by decide)) rfl rfl (Nat.le_of_ble_eq_true rfl) dX0_put_29 (fun Hq lcq hP hD hS => ?_)
    have hP : va_P G.1 vwCl [(h0, .inr (0, [.ref h1, .int (nI (n_ + 1))])), (h1, .inl (G.2.2.1, 40, .inr (.inl (vp_updL f_ n_ x_))))] _ := hP
    have hD : va_D A [(h0, .inr (0, [.ref h1, .int (nI (n_ + 1))])), (h1, .inl (G.2.2.1, 40, .inr (.inl (vp_updL f_ n_ x_))))] := hD
    exact cr_vret hx hb hr hlocks hK hP hD hS dX0_put_32 (by rw [hRR]; exact ctR_v (rfl))
set_option maxHeartbeats 4000000 in
set_option maxRecDepth 100000 in
theorem c_X0_raiseOrder (G : GG) (l : Launch) (h0 : Nat) (h1 : Nat) (f_ : Nat → Int64) (n_ : Nat) (hn : n_ ≤ 40) : Cr G l yX0_raiseOrder wsX0_raiseOrder ({ frames := 0, cells := 0, slots := 0, locals := 0 }) 0 0 [.ref h0] [(h0, .inr (0, [.ref h1, .int (nI n_)])), (h1, .inl (G.2.2.1, 40, .inr (.inl (f_))))] (ctR none [(h0, .inr (0, [.ref h1, .int (nI (n_ - 1))])), (h1, .inl (G.2.2.1, 40, .inr (.inl (dfu f_ (n_ - 1)))))]) := by
  refine cr_intro (cc := cX0_raiseOrder) (maxL := 2) (ret := none) (own := RX0) (by decide) rfl rfl (Nat.le_of_ble_eq_true rfl) ?_
  intro p e s m args below meth c A hx hb hr hml hts hown hlocks hnm hNX hP hK hD hA hS ls hl
  obtain ⟨RR, hRR⟩ : ∃ RR, RR = (ctR none [(h0, .inr (0, [.ref h1, .int (nI (n_ - 1))])), (h1, .inl (G.2.2.1, 40, .inr (.inl (dfu f_ (n_ - 1)))))]) := ⟨_, rfl⟩
  rw [← hRR]
  have hl : lv_has ls 2 [(0, .ref h0)] := hl
  have hin0 : ∀ w ∈ u_ws RX0 TX0 2, w ∈ wsX0_raiseOrder := fun w h => List.mem_cons_of_mem _ (List.mem_append_right _ h)
  refine lv_iconst (v := nI 0) hx hb dX0_raiseOrder_0 (by decide) ?_
  refine lv_istore_n (lv' := [(1, .int (nI 0)), (0, .ref h0)]) hx hb dX0_raiseOrder_1 rfl hl (by decide) rfl (fun ls hl => ?_)
  have L_2 : ∀ (n_2 : Nat) (i_ : Nat) (_ : 40 - i_ < n_2) (hi_ : i_ ≤ n_ - 1) (Hq : Heap) (lcq : List Loc), va_P G.1 vwCl [(h0, .inr (0, [.ref h1, .int (nI n_)])), (h1, .inl (G.2.2.1, 40, .inr (.inl (dfu f_ i_))))] Hq → va_D A [(h0, .inr (0, [.ref h1, .int (nI n_)])), (h1, .inl (G.2.2.1, 40, .inr (.inl (dfu f_ i_))))] → va_S A s.heap Hq lcq → ∀ ls : Array Slot, lv_has ls 2 [(0, .ref h0), (1, .int (nI i_))] → W p l e ({ frames := 0, cells := 0, slots := 0, locals := 0 }) s m args below meth c Hq lcq 0 0 (MQ below (cr_Q G RR A) args s 0 0 A) (F0 m 2 ls []) := by
    intro n_2
    induction n_2 with
    | zero => intro i_ hmu_2; exact absurd hmu_2 (Nat.not_lt_zero _)
    | succ n_2 ih_2 =>
      intro i_ hmu_2 hi_ Hq lcq hP hD hS ls hl
      refine lv_iload_n hx hb dX0_raiseOrder_2 rfl (lv_at hl 1 rfl) ?_
      refine lv_iconst (v := nI 1) hx hb dX0_raiseOrder_3 (by decide) ?_
      refine ks_iaddN hx hb dX0_raiseOrder_4 ?_
      refine lv_aload_n hx hb dX0_raiseOrder_5 rfl (lv_at hl 0 rfl) ?_
      refine va_get (D := G.1) (ci := 0) (v := .int (nI n_)) (C := RX0) (T := TX0) (N := 2) hx hb hts hin0 hown hK hP 0 rfl rfl 1 (by decide) (hts (.fieldLink RX0 15 "PowerTables$Differences" "size" "I") (List.mem_of_getElem? (i := 1) rfl)) (fun _ h9 => h9) rfl dX0_raiseOrder_6 ?_
      refine ks_icmp_ge (tgt := 39) hx hb dX0_raiseOrder_9 (by decide) (by omega) (by omega) (fun c_9 => ?_) (fun c_9 => ?_)
      · have e : i_ = n_ - 1 := by omega
        refine lv_aload_n hx hb dX0_raiseOrder_39 rfl (lv_at hl 0 rfl) ?_
        refine va_get (D := G.1) (ci := 0) (v := .int (nI n_)) (C := RX0) (T := TX0) (N := 2) hx hb hts hin0 hown hK hP 0 rfl rfl 1 (by decide) (hts (.fieldLink RX0 15 "PowerTables$Differences" "size" "I") (List.mem_of_getElem? (i := 1) rfl)) (fun _ h9 => h9) rfl dX0_raiseOrder_40 ?_
        refine ks_if_le (tgt := 56) hx hb dX0_raiseOrder_43 (by decide) (by omega) (fun c_43 => ?_) (fun c_43 => ?_)
        · have e0_ : n_ - 1 = n_ := by omega
          exact cr_vret hx hb hr hlocks hK hP hD hS dX0_raiseOrder_56 (by rw [hRR]; exact ctR_v (by rw [e, e0_]))
        · have e0_ : n_ - 1 = n_ - 1 := rfl
          refine lv_aload_n hx hb dX0_raiseOrder_46 rfl (lv_at hl 0 rfl) ?_
          refine lv_dup hx hb dX0_raiseOrder_47 rfl ?_
          refine va_get (D := G.1) (ci := 0) (v := .int (nI n_)) (C := RX0) (T := TX0) (N := 2) hx hb hts hin0 hown hK hP 0 rfl rfl 1 (by decide) (hts (.fieldLink RX0 15 "PowerTables$Differences" "size" "I") (List.mem_of_getElem? (i := 1) rfl)) (fun _ h9 => h9) rfl dX0_raiseOrder_48 ?_
          refine lv_iconst (v := nI 1) hx hb dX0_raiseOrder_51 (by decide) ?_
          refine ks_isubN hx hb dX0_raiseOrder_52 (by omega) ?_
          refine va_put (D := G.1) (ci := 0) (v := .int (nI (n_ - 1))) (ty := .int) (C := RX0) (T := TX0) (N := 2) hx hb hts hin0 tyX0 tyX0_ok nmX0 hown hK hP hD hS 0 rfl rfl 1 (by decide) (hts (.fieldLink RX0 15 "PowerTables$Differences" "size" "I") (List.mem_of_getElem? (i := 1) rfl)) (fun _ h9 => h9) rfl (tyX0_ok 1 (by decide)) rfl rfl (Nat.le_of_ble_eq_true rfl) dX0_raiseOrder_53 (fun Hq lcq hP hD hS => ?_)
          have hP : va_P G.1 vwCl [(h0, .inr (0, [.ref h1, .int (nI (n_ - 1))])), (h1, .inl (G.2.2.1, 40, .inr (.inl (dfu f_ i_))))] _ := hP
          have hD : va_D A [(h0, .inr (0, [.ref h1, .int (nI (n_ - 1))])), (h1, .inl (G.2.2.1, 40, .inr (.inl (dfu f_ i_))))] := hD
          exact cr_vret hx hb hr hlocks hK hP hD hS dX0_raiseOrder_56 (by rw [hRR]; exact ctR_v (by rw [e, e0_]))
      · refine lv_aload_n hx hb dX0_raiseOrder_12 rfl (lv_at hl 0 rfl) ?_
        refine va_get (D := G.1) (ci := 0) (v := .ref h1) (C := RX0) (T := TX0) (N := 2) hx hb hts hin0 hown hK hP 0 rfl rfl 0 (by decide) (hts (.fieldLink RX0 9 "PowerTables$Differences" "values" "[J") (List.mem_of_getElem? (i := 2) rfl)) (fun _ h9 => h9) rfl dX0_raiseOrder_13 ?_
        refine lv_iload_n hx hb dX0_raiseOrder_16 rfl (lv_at hl 1 rfl) ?_
        refine lv_aload_n hx hb dX0_raiseOrder_17 rfl (lv_at hl 0 rfl) ?_
        refine va_get (D := G.1) (ci := 0) (v := .ref h1) (C := RX0) (T := TX0) (N := 2) hx hb hts hin0 hown hK hP 0 rfl rfl 0 (by decide) (hts (.fieldLink RX0 9 "PowerTables$Differences" "values" "[J") (List.mem_of_getElem? (i := 2) rfl)) (fun _ h9 => h9) rfl dX0_raiseOrder_18 ?_
        refine lv_iload_n hx hb dX0_raiseOrder_21 rfl (lv_at hl 1 rfl) ?_
        refine lv_iconst (v := nI 1) hx hb dX0_raiseOrder_22 (by decide) ?_
        refine ks_iaddN hx hb dX0_raiseOrder_23 ?_
        refine ks_lald hx hb hK hP 1 rfl (by omega) (by decide) dX0_raiseOrder_24 ?_
        refine lv_aload_n hx hb dX0_raiseOrder_25 rfl (lv_at hl 0 rfl) ?_
        refine va_get (D := G.1) (ci := 0) (v := .ref h1) (C := RX0) (T := TX0) (N := 2) hx hb hts hin0 hown hK hP 0 rfl rfl 0 (by decide) (hts (.fieldLink RX0 9 "PowerTables$Differences" "values" "[J") (List.mem_of_getElem? (i := 2) rfl)) (fun _ h9 => h9) rfl dX0_raiseOrder_26 ?_
        refine lv_iload_n hx hb dX0_raiseOrder_29 rfl (lv_at hl 1 rfl) ?_
        refine ks_lald hx hb hK hP 1 rfl (by omega) (by decide) dX0_raiseOrder_30 ?_
        refine lv_lsub hx hb dX0_raiseOrder_31 ?_
        refine ks_last (f' := dfu f_ (i_ + 1)) hx hb hK hP hD hS 1 rfl (by omega) (by decide) (dfu_s f_ i_) dX0_raiseOrder_32 (fun Hq lcq hP hD hS => ?_)
        have hP : va_P G.1 vwCl [(h0, .inr (0, [.ref h1, .int (nI n_)])), (h1, .inl (G.2.2.1, 40, .inr (.inl (dfu f_ (i_ + 1)))))] _ := hP
        have hD : va_D A [(h0, .inr (0, [.ref h1, .int (nI n_)])), (h1, .inl (G.2.2.1, 40, .inr (.inl (dfu f_ (i_ + 1)))))] := hD
        refine lv_iinc (v := nI (i_ + 1)) (lv' := [(1, .int (nI (i_ + 1))), (0, .ref h0)]) hx hb dX0_raiseOrder_33 hl (k := 1) rfl (ks_inc i_ 1) (by decide) rfl (fun ls hl => ?_)
        refine lv_goto (tgt := 2) hx hb dX0_raiseOrder_36 (by decide) ?_
        exact ih_2  (i_ + 1) (by omega) (by omega) _ _ hP hD hS ls (lv_sub hl [1, 0] rfl)
  rw [← dfu_0 f_] at hP hD
  exact L_2 _ 0 (Nat.lt_succ_self _) (by omega) _ _ hP hD hS ls (lv_sub hl [1, 0] rfl)
set_option maxHeartbeats 4000000 in
set_option maxRecDepth 100000 in
theorem c_X0_leading (G : GG) (l : Launch) (h0 : Nat) (h1 : Nat) (f_ : Nat → Int64) (n_ : Nat) (hn : 0 < n_) (hn2 : n_ ≤ 40) : Cr G l yX0_leading wsX0_leading ({ frames := 0, cells := 0, slots := 0, locals := 0 }) 0 0 [.ref h0] [(h0, .inr (0, [.ref h1, .int (nI n_)])), (h1, .inl (G.2.2.1, 40, .inr (.inl (f_))))] (ctR (some (.long (f_ 0))) [(h0, .inr (0, [.ref h1, .int (nI n_)])), (h1, .inl (G.2.2.1, 40, .inr (.inl (f_))))]) := by
  refine cr_intro (cc := cX0_leading) (maxL := 1) (ret := (some .long)) (own := RX0) (by decide) rfl rfl (Nat.le_of_ble_eq_true rfl) ?_
  intro p e s m args below meth c A hx hb hr hml hts hown hlocks hnm hNX hP hK hD hA hS ls hl
  obtain ⟨RR, hRR⟩ : ∃ RR, RR = (ctR (some (.long (f_ 0))) [(h0, .inr (0, [.ref h1, .int (nI n_)])), (h1, .inl (G.2.2.1, 40, .inr (.inl (f_))))]) := ⟨_, rfl⟩
  rw [← hRR]
  have hl : lv_has ls 1 [(0, .ref h0)] := hl
  have hin0 : ∀ w ∈ u_ws RX0 TX0 2, w ∈ wsX0_leading := fun w h => List.mem_cons_of_mem _ (List.mem_append_right _ h)
  refine lv_aload_n hx hb dX0_leading_0 rfl (lv_at hl 0 rfl) ?_
  refine va_get (D := G.1) (ci := 0) (v := .int (nI n_)) (C := RX0) (T := TX0) (N := 2) hx hb hts hin0 hown hK hP 0 rfl rfl 1 (by decide) (hts (.fieldLink RX0 15 "PowerTables$Differences" "size" "I") (List.mem_of_getElem? (i := 1) rfl)) (fun _ h9 => h9) rfl dX0_leading_1 ?_
  refine ks_if_le (tgt := 16) hx hb dX0_leading_4 (by decide) (by omega) (fun c_4 => ?_) (fun c_4 => ?_)
  · omega
  · refine lv_aload_n hx hb dX0_leading_7 rfl (lv_at hl 0 rfl) ?_
    refine va_get (D := G.1) (ci := 0) (v := .ref h1) (C := RX0) (T := TX0) (N := 2) hx hb hts hin0 hown hK hP 0 rfl rfl 0 (by decide) (hts (.fieldLink RX0 9 "PowerTables$Differences" "values" "[J") (List.mem_of_getElem? (i := 2) rfl)) (fun _ h9 => h9) rfl dX0_leading_8 ?_
    refine lv_iconst (v := nI 0) hx hb dX0_leading_11 (by decide) ?_
    refine ks_lald hx hb hK hP 1 rfl (by omega) (by decide) dX0_leading_12 ?_
    refine lv_goto (tgt := 17) hx hb dX0_leading_13 (by decide) ?_
    exact cr_lret hx hb hr hlocks hK hP hD hS dX0_leading_17 (by rw [hRR]; exact ctR_l (rfl) (rfl))
set_option maxHeartbeats 4000000 in
set_option maxRecDepth 100000 in
theorem c_X0_areOneNumber (G : GG) (l : Launch) (h0 : Nat) (h1 : Nat) (f_ : Nat → Int64) (n_ : Nat) (hn : n_ ≤ 40) : Cr G l yX0_areOneNumber wsX0_areOneNumber ({ frames := 0, cells := 0, slots := 0, locals := 0 }) 0 0 [.ref h0] [(h0, .inr (0, [.ref h1, .int (nI n_)])), (h1, .inl (G.2.2.1, 40, .inr (.inl (f_))))] (ctR (some (.int (bI (2 ≤ n_ ∧ f_ 0 ≠ lN 0 ∧ ∀ i_, i_ < n_ → f_ i_ = f_ 0)))) [(h0, .inr (0, [.ref h1, .int (nI n_)])), (h1, .inl (G.2.2.1, 40, .inr (.inl (f_))))]) := by
  refine cr_intro (cc := cX0_areOneNumber) (maxL := 2) (ret := (some .boolean)) (own := RX0) (by decide) rfl rfl (Nat.le_of_ble_eq_true rfl) ?_
  intro p e s m args below meth c A hx hb hr hml hts hown hlocks hnm hNX hP hK hD hA hS ls hl
  obtain ⟨RR, hRR⟩ : ∃ RR, RR = (ctR (some (.int (bI (2 ≤ n_ ∧ f_ 0 ≠ lN 0 ∧ ∀ i_, i_ < n_ → f_ i_ = f_ 0)))) [(h0, .inr (0, [.ref h1, .int (nI n_)])), (h1, .inl (G.2.2.1, 40, .inr (.inl (f_))))]) := ⟨_, rfl⟩
  rw [← hRR]
  have hl : lv_has ls 2 [(0, .ref h0)] := hl
  have hin0 : ∀ w ∈ u_ws RX0 TX0 2, w ∈ wsX0_areOneNumber := fun w h => List.mem_cons_of_mem _ (List.mem_append_right _ h)
  refine lv_iconst (v := nI 1) hx hb dX0_areOneNumber_0 (by decide) ?_
  refine lv_istore_n (lv' := [(1, .int (nI 1)), (0, .ref h0)]) hx hb dX0_areOneNumber_1 rfl hl (by decide) rfl (fun ls hl => ?_)
  have L_2 : ∀ (n_2 : Nat) (i_ : Nat) (_ : 41 - i_ < n_2) (hi_ : 1 ≤ i_) (hi2 : i_ ≤ 41) (ha_ : ∀ k, k < i_ → f_ k = f_ 0) (Hq : Heap) (lcq : List Loc), va_P G.1 vwCl [(h0, .inr (0, [.ref h1, .int (nI n_)])), (h1, .inl (G.2.2.1, 40, .inr (.inl (f_))))] Hq → va_D A [(h0, .inr (0, [.ref h1, .int (nI n_)])), (h1, .inl (G.2.2.1, 40, .inr (.inl (f_))))] → va_S A s.heap Hq lcq → ∀ ls : Array Slot, lv_has ls 2 [(0, .ref h0), (1, .int (nI i_))] → W p l e ({ frames := 0, cells := 0, slots := 0, locals := 0 }) s m args below meth c Hq lcq 0 0 (MQ below (cr_Q G RR A) args s 0 0 A) (F0 m 2 ls []) := by
    intro n_2
    induction n_2 with
    | zero => intro i_ hmu_2; exact absurd hmu_2 (Nat.not_lt_zero _)
    | succ n_2 ih_2 =>
      intro i_ hmu_2 hi_ hi2 ha_ Hq lcq hP hD hS ls hl
      refine lv_iload_n hx hb dX0_areOneNumber_2 rfl (lv_at hl 1 rfl) ?_
      refine lv_aload_n hx hb dX0_areOneNumber_3 rfl (lv_at hl 0 rfl) ?_
      refine va_get (D := G.1) (ci := 0) (v := .int (nI n_)) (C := RX0) (T := TX0) (N := 2) hx hb hts hin0 hown hK hP 0 rfl rfl 1 (by decide) (hts (.fieldLink RX0 15 "PowerTables$Differences" "size" "I") (List.mem_of_getElem? (i := 1) rfl)) (fun _ h9 => h9) rfl dX0_areOneNumber_4 ?_
      refine ks_icmp_ge (tgt := 34) hx hb dX0_areOneNumber_7 (by decide) (by omega) (by omega) (fun c_7 => ?_) (fun c_7 => ?_)
      · refine lv_aload_n hx hb dX0_areOneNumber_34 rfl (lv_at hl 0 rfl) ?_
        refine va_get (D := G.1) (ci := 0) (v := .int (nI n_)) (C := RX0) (T := TX0) (N := 2) hx hb hts hin0 hown hK hP 0 rfl rfl 1 (by decide) (hts (.fieldLink RX0 15 "PowerTables$Differences" "size" "I") (List.mem_of_getElem? (i := 1) rfl)) (fun _ h9 => h9) rfl dX0_areOneNumber_35 ?_
        refine lv_iconst (v := nI 2) hx hb dX0_areOneNumber_38 (by decide) ?_
        refine ks_icmp_lt (tgt := 57) hx hb dX0_areOneNumber_39 (by decide) (by omega) (by omega) (fun c_39 => ?_) (fun c_39 => ?_)
        · have hv : nI 0 = bI (2 ≤ n_ ∧ f_ 0 ≠ lN 0 ∧ ∀ i_, i_ < n_ → f_ i_ = f_ 0) := bI_0 (fun z => by omega)
          refine lv_iconst (v := nI 0) hx hb dX0_areOneNumber_57 (by decide) ?_
          exact cr_zret hx hb hr hlocks hK hP hD hS (by decide +kernel) dX0_areOneNumber_58 (by rw [hRR]; exact ctR_i (hv) (rfl))
        · refine lv_aload_n hx hb dX0_areOneNumber_42 rfl (lv_at hl 0 rfl) ?_
          refine va_get (D := G.1) (ci := 0) (v := .ref h1) (C := RX0) (T := TX0) (N := 2) hx hb hts hin0 hown hK hP 0 rfl rfl 0 (by decide) (hts (.fieldLink RX0 9 "PowerTables$Differences" "values" "[J") (List.mem_of_getElem? (i := 2) rfl)) (fun _ h9 => h9) rfl dX0_areOneNumber_43 ?_
          refine lv_iconst (v := nI 0) hx hb dX0_areOneNumber_46 (by decide) ?_
          refine ks_lald hx hb hK hP 1 rfl (by omega) (by decide) dX0_areOneNumber_47 ?_
          refine lv_lconst (v := lN 0) hx hb dX0_areOneNumber_48 rfl ?_
          refine ks_lc_eq (tgt := 57) hx hb dX0_areOneNumber_49 dX0_areOneNumber_50 (by decide) (fun c_49 => ?_) (fun c_49 => ?_)
          · have hv : nI 0 = bI (2 ≤ n_ ∧ f_ 0 ≠ lN 0 ∧ ∀ i_, i_ < n_ → f_ i_ = f_ 0) := bI_0 (fun z => z.2.1 c_49)
            refine lv_iconst (v := nI 0) hx hb dX0_areOneNumber_57 (by decide) ?_
            exact cr_zret hx hb hr hlocks hK hP hD hS (by decide +kernel) dX0_areOneNumber_58 (by rw [hRR]; exact ctR_i (hv) (rfl))
          · have hv : nI 1 = bI (2 ≤ n_ ∧ f_ 0 ≠ lN 0 ∧ ∀ i_, i_ < n_ → f_ i_ = f_ 0) := bI_1 ⟨c_39, c_49, fun k hk => ha_ k (by omega)⟩
            refine lv_iconst (v := nI 1) hx hb dX0_areOneNumber_53 (by decide) ?_
            refine lv_goto (tgt := 58) hx hb dX0_areOneNumber_54 (by decide) ?_
            exact cr_zret hx hb hr hlocks hK hP hD hS (by decide +kernel) dX0_areOneNumber_58 (by rw [hRR]; exact ctR_i (hv) (rfl))
      · refine lv_aload_n hx hb dX0_areOneNumber_10 rfl (lv_at hl 0 rfl) ?_
        refine va_get (D := G.1) (ci := 0) (v := .ref h1) (C := RX0) (T := TX0) (N := 2) hx hb hts hin0 hown hK hP 0 rfl rfl 0 (by decide) (hts (.fieldLink RX0 9 "PowerTables$Differences" "values" "[J") (List.mem_of_getElem? (i := 2) rfl)) (fun _ h9 => h9) rfl dX0_areOneNumber_11 ?_
        refine lv_iload_n hx hb dX0_areOneNumber_14 rfl (lv_at hl 1 rfl) ?_
        refine ks_lald hx hb hK hP 1 rfl (by omega) (by decide) dX0_areOneNumber_15 ?_
        refine lv_aload_n hx hb dX0_areOneNumber_16 rfl (lv_at hl 0 rfl) ?_
        refine va_get (D := G.1) (ci := 0) (v := .ref h1) (C := RX0) (T := TX0) (N := 2) hx hb hts hin0 hown hK hP 0 rfl rfl 0 (by decide) (hts (.fieldLink RX0 9 "PowerTables$Differences" "values" "[J") (List.mem_of_getElem? (i := 2) rfl)) (fun _ h9 => h9) rfl dX0_areOneNumber_17 ?_
        refine lv_iconst (v := nI 0) hx hb dX0_areOneNumber_20 (by decide) ?_
        refine ks_lald hx hb hK hP 1 rfl (by omega) (by decide) dX0_areOneNumber_21 ?_
        refine ks_lc_eq (tgt := 28) hx hb dX0_areOneNumber_22 dX0_areOneNumber_23 (by decide) (fun c_22 => ?_) (fun c_22 => ?_)
        · refine lv_iinc (v := nI (i_ + 1)) (lv' := [(1, .int (nI (i_ + 1))), (0, .ref h0)]) hx hb dX0_areOneNumber_28 hl (k := 1) rfl (ks_inc i_ 1) (by decide) rfl (fun ls hl => ?_)
          refine lv_goto (tgt := 2) hx hb dX0_areOneNumber_31 (by decide) ?_
          exact ih_2  (i_ + 1) (by omega) (by omega) (by omega) (fun k hk => (Nat.lt_or_ge k i_).elim (fun q => ha_ k q) (fun q => by rw [show k = i_ by omega]; exact c_22)) _ _ hP hD hS ls (lv_sub hl [1, 0] rfl)
        · refine lv_iconst (v := nI 0) hx hb dX0_areOneNumber_26 (by decide) ?_
          exact cr_zret hx hb hr hlocks hK hP hD hS (by decide +kernel) dX0_areOneNumber_27 (by rw [hRR]; exact ctR_i (bI_0 (fun z => c_22 (z.2.2 i_ (by omega)))) (rfl))
  exact L_2 _ 1 (Nat.lt_succ_self _) (by omega) (by omega) (fun k hk => by rw [show k = 0 by omega]) _ _ hP hD hS ls (lv_sub hl [1, 0] rfl)
set_option maxHeartbeats 4000000 in
set_option maxRecDepth 100000 in
theorem c_X2_nextNumber (G : GG) (l : Launch) (h0 : Nat) (h1 : Nat) (r_ : Nat → Int64)  : Cr G l yX2_nextNumber wsX2_nextNumber ({ frames := 0, cells := 0, slots := 0, locals := 0 }) 0 0 [.ref h0] [(h0, .inr (2, [.ref h1])), (h1, .inl (G.2.2.1, 6, .inr (.inl (r_))))] (ctR (some (.long (r_ 0))) [(h0, .inr (2, [.ref h1])), (h1, .inl (G.2.2.1, 6, .inr (.inl (nxu r_ 5))))]) := by
  refine cr_intro (cc := cX2_nextNumber) (maxL := 4) (ret := (some .long)) (own := RX2) (by decide) rfl rfl (Nat.le_of_ble_eq_true rfl) ?_
  intro p e s m args below meth c A hx hb hr hml hts hown hlocks hnm hNX hP hK hD hA hS ls hl
  obtain ⟨RR, hRR⟩ : ∃ RR, RR = (ctR (some (.long (r_ 0))) [(h0, .inr (2, [.ref h1])), (h1, .inl (G.2.2.1, 6, .inr (.inl (nxu r_ 5))))]) := ⟨_, rfl⟩
  rw [← hRR]
  have hl : lv_has ls 4 [(0, .ref h0)] := hl
  have hin2 : ∀ w ∈ u_ws RX2 TX2 1, w ∈ wsX2_nextNumber := fun w h => List.mem_cons_of_mem _ (List.mem_append_right _ h)
  refine lv_aload_n hx hb dX2_nextNumber_0 rfl (lv_at hl 0 rfl) ?_
  refine va_get (D := G.1) (ci := 2) (v := .ref h1) (C := RX2) (T := TX2) (N := 1) hx hb hts hin2 hown hK hP 0 rfl rfl 0 (by decide) (hts (.fieldLink RX2 9 "PowerTables$Registers" "numbers" "[J") (List.mem_of_getElem? (i := 1) rfl)) (fun _ h9 => h9) rfl dX2_nextNumber_1 ?_
  refine lv_iconst (v := nI 0) hx hb dX2_nextNumber_4 (by decide) ?_
  refine ks_lald hx hb hK hP 1 rfl (by omega) (by decide) dX2_nextNumber_5 ?_
  refine lv_lstore_n (lv' := [(1, .long (r_ 0)), (0, .ref h0)]) hx hb dX2_nextNumber_6 rfl hl (by decide) rfl (fun ls hl => ?_)
  refine lv_iconst (v := nI 0) hx hb dX2_nextNumber_7 (by decide) ?_
  refine lv_istore_n (lv' := [(3, .int (nI 0)), (1, .long (r_ 0)), (0, .ref h0)]) hx hb dX2_nextNumber_8 rfl hl (by decide) rfl (fun ls hl => ?_)
  have L_9 : ∀ (n_9 : Nat) (i_ : Nat) (_ : 6 - i_ < n_9) (hi_ : i_ ≤ 5) (Hq : Heap) (lcq : List Loc), va_P G.1 vwCl [(h0, .inr (2, [.ref h1])), (h1, .inl (G.2.2.1, 6, .inr (.inl (nxu r_ i_))))] Hq → va_D A [(h0, .inr (2, [.ref h1])), (h1, .inl (G.2.2.1, 6, .inr (.inl (nxu r_ i_))))] → va_S A s.heap Hq lcq → ∀ ls : Array Slot, lv_has ls 4 [(0, .ref h0), (1, .long (r_ 0)), (3, .int (nI i_))] → W p l e ({ frames := 0, cells := 0, slots := 0, locals := 0 }) s m args below meth c Hq lcq 0 0 (MQ below (cr_Q G RR A) args s 0 0 A) (F0 m 9 ls []) := by
    intro n_9
    induction n_9 with
    | zero => intro i_ hmu_9; exact absurd hmu_9 (Nat.not_lt_zero _)
    | succ n_9 ih_9 =>
      intro i_ hmu_9 hi_ Hq lcq hP hD hS ls hl
      refine lv_iload_n hx hb dX2_nextNumber_9 rfl (lv_at hl 2 rfl) ?_
      refine lv_iconst (v := nI 1) hx hb dX2_nextNumber_10 (by decide) ?_
      refine ks_iaddN hx hb dX2_nextNumber_11 ?_
      refine lv_bipush (v := nI 6) hx hb dX2_nextNumber_12 (by decide) ?_
      refine ks_icmp_ge (tgt := 40) hx hb dX2_nextNumber_14 (by decide) (by omega) (by omega) (fun c_14 => ?_) (fun c_14 => ?_)
      · obtain rfl : i_ = 5 := by omega
        refine lv_lload_n hx hb dX2_nextNumber_40 rfl (lv_at hl 1 rfl) ?_
        exact cr_lret hx hb hr hlocks hK hP hD hS dX2_nextNumber_41 (by rw [hRR]; exact ctR_l (rfl) (rfl))
      · refine lv_aload_n hx hb dX2_nextNumber_17 rfl (lv_at hl 0 rfl) ?_
        refine va_get (D := G.1) (ci := 2) (v := .ref h1) (C := RX2) (T := TX2) (N := 1) hx hb hts hin2 hown hK hP 0 rfl rfl 0 (by decide) (hts (.fieldLink RX2 9 "PowerTables$Registers" "numbers" "[J") (List.mem_of_getElem? (i := 1) rfl)) (fun _ h9 => h9) rfl dX2_nextNumber_18 ?_
        refine lv_iload_n hx hb dX2_nextNumber_21 rfl (lv_at hl 2 rfl) ?_
        refine lv_dup2_11 hx hb dX2_nextNumber_22 rfl rfl ?_
        refine ks_lald hx hb hK hP 1 rfl (by omega) (by decide) dX2_nextNumber_23 ?_
        refine lv_aload_n hx hb dX2_nextNumber_24 rfl (lv_at hl 0 rfl) ?_
        refine va_get (D := G.1) (ci := 2) (v := .ref h1) (C := RX2) (T := TX2) (N := 1) hx hb hts hin2 hown hK hP 0 rfl rfl 0 (by decide) (hts (.fieldLink RX2 9 "PowerTables$Registers" "numbers" "[J") (List.mem_of_getElem? (i := 1) rfl)) (fun _ h9 => h9) rfl dX2_nextNumber_25 ?_
        refine lv_iload_n hx hb dX2_nextNumber_28 rfl (lv_at hl 2 rfl) ?_
        refine lv_iconst (v := nI 1) hx hb dX2_nextNumber_29 (by decide) ?_
        refine ks_iaddN hx hb dX2_nextNumber_30 ?_
        refine ks_lald hx hb hK hP 1 rfl (by omega) (by decide) dX2_nextNumber_31 ?_
        refine lv_ladd hx hb dX2_nextNumber_32 ?_
        refine ks_last (f' := nxu r_ (i_ + 1)) hx hb hK hP hD hS 1 rfl (by omega) (by decide) (nxu_s r_ i_) dX2_nextNumber_33 (fun Hq lcq hP hD hS => ?_)
        have hP : va_P G.1 vwCl [(h0, .inr (2, [.ref h1])), (h1, .inl (G.2.2.1, 6, .inr (.inl (nxu r_ (i_ + 1)))))] _ := hP
        have hD : va_D A [(h0, .inr (2, [.ref h1])), (h1, .inl (G.2.2.1, 6, .inr (.inl (nxu r_ (i_ + 1)))))] := hD
        refine lv_iinc (v := nI (i_ + 1)) (lv' := [(3, .int (nI (i_ + 1))), (0, .ref h0), (1, .long (r_ 0))]) hx hb dX2_nextNumber_34 hl (k := 2) rfl (ks_inc i_ 1) (by decide) rfl (fun ls hl => ?_)
        refine lv_goto (tgt := 9) hx hb dX2_nextNumber_37 (by decide) ?_
        exact ih_9  (i_ + 1) (by omega) (by omega) _ _ hP hD hS ls (lv_sub hl [1, 2, 0] rfl)
  rw [← nxu_0 r_] at hP hD
  exact L_9 _ 0 (Nat.lt_succ_self _) (by omega) _ _ hP hD hS ls (lv_sub hl [2, 1, 0] rfl)
set_option maxHeartbeats 4000000 in
set_option maxRecDepth 100000 in
theorem c_X2_copyFrom (G : GG) (l : Launch) (h0 : Nat) (h1 : Nat) (r_ : Nat → Int64) (o0_ : Nat) (o1 : Nat) (r2 : Nat → Int64)  : Cr G l yX2_copyFrom wsX2_copyFrom ({ frames := 0, cells := 0, slots := 0, locals := 0 }) 0 0 [.ref h0, .ref o0_] [(h0, .inr (2, [.ref h1])), (h1, .inl (G.2.2.1, 6, .inr (.inl (r_)))), (o0_, .inr (2, [.ref o1])), (o1, .inl (G.2.2.1, 6, .inr (.inl (r2))))] (ctR none [(h0, .inr (2, [.ref h1])), (h1, .inl (G.2.2.1, 6, .inr (.inl (r2)))), (o0_, .inr (2, [.ref o1])), (o1, .inl (G.2.2.1, 6, .inr (.inl (r2))))]) := by
  refine cr_intro (cc := cX2_copyFrom) (maxL := 3) (ret := none) (own := RX2) (by decide) rfl rfl (Nat.le_of_ble_eq_true rfl) ?_
  intro p e s m args below meth c A hx hb hr hml hts hown hlocks hnm hNX hP hK hD hA hS ls hl
  obtain ⟨RR, hRR⟩ : ∃ RR, RR = (ctR none [(h0, .inr (2, [.ref h1])), (h1, .inl (G.2.2.1, 6, .inr (.inl (r2)))), (o0_, .inr (2, [.ref o1])), (o1, .inl (G.2.2.1, 6, .inr (.inl (r2))))]) := ⟨_, rfl⟩
  rw [← hRR]
  have hl : lv_has ls 3 [(0, .ref h0), (1, .ref o0_)] := hl
  have hin2 : ∀ w ∈ u_ws RX2 TX2 1, w ∈ wsX2_copyFrom := fun w h => List.mem_cons_of_mem _ (List.mem_append_right _ h)
  refine lv_iconst (v := nI 0) hx hb dX2_copyFrom_0 (by decide) ?_
  refine lv_istore_n (lv' := [(2, .int (nI 0)), (0, .ref h0), (1, .ref o0_)]) hx hb dX2_copyFrom_1 rfl hl (by decide) rfl (fun ls hl => ?_)
  have L_2 : ∀ (n_2 : Nat) (i_ : Nat) (_ : 7 - i_ < n_2) (hi_ : i_ ≤ 6) (Hq : Heap) (lcq : List Loc), va_P G.1 vwCl [(h0, .inr (2, [.ref h1])), (h1, .inl (G.2.2.1, 6, .inr (.inl (cpu r_ r2 i_)))), (o0_, .inr (2, [.ref o1])), (o1, .inl (G.2.2.1, 6, .inr (.inl (r2))))] Hq → va_D A [(h0, .inr (2, [.ref h1])), (h1, .inl (G.2.2.1, 6, .inr (.inl (cpu r_ r2 i_)))), (o0_, .inr (2, [.ref o1])), (o1, .inl (G.2.2.1, 6, .inr (.inl (r2))))] → va_S A s.heap Hq lcq → ∀ ls : Array Slot, lv_has ls 3 [(0, .ref h0), (1, .ref o0_), (2, .int (nI i_))] → W p l e ({ frames := 0, cells := 0, slots := 0, locals := 0 }) s m args below meth c Hq lcq 0 0 (MQ below (cr_Q G RR A) args s 0 0 A) (F0 m 2 ls []) := by
    intro n_2
    induction n_2 with
    | zero => intro i_ hmu_2; exact absurd hmu_2 (Nat.not_lt_zero _)
    | succ n_2 ih_2 =>
      intro i_ hmu_2 hi_ Hq lcq hP hD hS ls hl
      refine lv_iload_n hx hb dX2_copyFrom_2 rfl (lv_at hl 2 rfl) ?_
      refine lv_bipush (v := nI 6) hx hb dX2_copyFrom_3 (by decide) ?_
      refine ks_icmp_ge (tgt := 26) hx hb dX2_copyFrom_5 (by decide) (by omega) (by omega) (fun c_5 => ?_) (fun c_5 => ?_)
      · obtain rfl : i_ = 6 := by omega
        have hP := hP.cgJ 1 (g := r2) rfl (fun k hk => cpu_lo hk)
        have hD := hD.set (p := 1) (e := .inl (G.2.2.1, 6, .inr <| .inl (r2))) rfl
        have hP : va_P G.1 vwCl [(h0, .inr (2, [.ref h1])), (h1, .inl (G.2.2.1, 6, .inr (.inl (r2)))), (o0_, .inr (2, [.ref o1])), (o1, .inl (G.2.2.1, 6, .inr (.inl (r2))))] _ := hP
        have hD : va_D A [(h0, .inr (2, [.ref h1])), (h1, .inl (G.2.2.1, 6, .inr (.inl (r2)))), (o0_, .inr (2, [.ref o1])), (o1, .inl (G.2.2.1, 6, .inr (.inl (r2))))] := hD
        exact cr_vret hx hb hr hlocks hK hP hD hS dX2_copyFrom_26 (by rw [hRR]; exact ctR_v (rfl))
      · refine lv_aload_n hx hb dX2_copyFrom_8 rfl (lv_at hl 0 rfl) ?_
        refine va_get (D := G.1) (ci := 2) (v := .ref h1) (C := RX2) (T := TX2) (N := 1) hx hb hts hin2 hown hK hP 0 rfl rfl 0 (by decide) (hts (.fieldLink RX2 9 "PowerTables$Registers" "numbers" "[J") (List.mem_of_getElem? (i := 1) rfl)) (fun _ h9 => h9) rfl dX2_copyFrom_9 ?_
        refine lv_iload_n hx hb dX2_copyFrom_12 rfl (lv_at hl 2 rfl) ?_
        refine lv_aload_n hx hb dX2_copyFrom_13 rfl (lv_at hl 1 rfl) ?_
        refine va_get (D := G.1) (ci := 2) (v := .ref o1) (C := RX2) (T := TX2) (N := 1) hx hb hts hin2 hown hK hP 2 rfl rfl 0 (by decide) (hts (.fieldLink RX2 9 "PowerTables$Registers" "numbers" "[J") (List.mem_of_getElem? (i := 1) rfl)) (fun _ h9 => h9) rfl dX2_copyFrom_14 ?_
        refine lv_iload_n hx hb dX2_copyFrom_17 rfl (lv_at hl 2 rfl) ?_
        refine ks_lald hx hb hK hP 3 rfl (by omega) (by decide) dX2_copyFrom_18 ?_
        refine ks_last (f' := cpu r_ r2 (i_ + 1)) hx hb hK hP hD hS 1 rfl (by omega) (by decide) (cpu_sL r_ r2 i_) dX2_copyFrom_19 (fun Hq lcq hP hD hS => ?_)
        have hP : va_P G.1 vwCl [(h0, .inr (2, [.ref h1])), (h1, .inl (G.2.2.1, 6, .inr (.inl (cpu r_ r2 (i_ + 1))))), (o0_, .inr (2, [.ref o1])), (o1, .inl (G.2.2.1, 6, .inr (.inl (r2))))] _ := hP
        have hD : va_D A [(h0, .inr (2, [.ref h1])), (h1, .inl (G.2.2.1, 6, .inr (.inl (cpu r_ r2 (i_ + 1))))), (o0_, .inr (2, [.ref o1])), (o1, .inl (G.2.2.1, 6, .inr (.inl (r2))))] := hD
        refine lv_iinc (v := nI (i_ + 1)) (lv' := [(2, .int (nI (i_ + 1))), (0, .ref h0), (1, .ref o0_)]) hx hb dX2_copyFrom_20 hl (k := 2) rfl (ks_inc i_ 1) (by decide) rfl (fun ls hl => ?_)
        refine lv_goto (tgt := 2) hx hb dX2_copyFrom_23 (by decide) ?_
        exact ih_2  (i_ + 1) (by omega) (by omega) _ _ hP hD hS ls (lv_sub hl [1, 2, 0] rfl)
  rw [← cpu_0 r_ r2] at hP hD
  exact L_2 _ 0 (Nat.lt_succ_self _) (by omega) _ _ hP hD hS ls (lv_sub hl [1, 2, 0] rfl)
set_option maxHeartbeats 4000000 in
set_option maxRecDepth 100000 in
theorem c_X2_canTake (G : GG) (l : Launch) (h0 : Nat) (h1 : Nat) (r_ : Nat → Int64) (j_ : Nat) (x_ : Int64) (hj : j_ < 6) : Cr G l yX2_canTake wsX2_canTake ({ frames := 0, cells := 0, slots := 0, locals := 0 }) 0 0 [.ref h0, .int (nI j_), .long x_] [(h0, .inr (2, [.ref h1])), (h1, .inl (G.2.2.1, 6, .inr (.inl (r_))))] (ctR (some (.int (bI (-99999999999 ≤ r_ j_ + x_ ∧ r_ j_ + x_ ≤ lN 99999999999)))) [(h0, .inr (2, [.ref h1])), (h1, .inl (G.2.2.1, 6, .inr (.inl (r_))))]) := by
  refine cr_intro (cc := cX2_canTake) (maxL := 6) (ret := (some .boolean)) (own := RX2) (by decide) rfl rfl (Nat.le_of_ble_eq_true rfl) ?_
  intro p e s m args below meth c A hx hb hr hml hts hown hlocks hnm hNX hP hK hD hA hS ls hl
  obtain ⟨RR, hRR⟩ : ∃ RR, RR = (ctR (some (.int (bI (-99999999999 ≤ r_ j_ + x_ ∧ r_ j_ + x_ ≤ lN 99999999999)))) [(h0, .inr (2, [.ref h1])), (h1, .inl (G.2.2.1, 6, .inr (.inl (r_))))]) := ⟨_, rfl⟩
  rw [← hRR]
  have hl : lv_has ls 6 [(0, .ref h0), (1, .int (nI j_)), (2, .long x_)] := hl
  have hin2 : ∀ w ∈ u_ws RX2 TX2 1, w ∈ wsX2_canTake := fun w h => List.mem_cons_of_mem _ (List.mem_append_right _ h)
  refine lv_aload_n hx hb dX2_canTake_0 rfl (lv_at hl 0 rfl) ?_
  refine va_get (D := G.1) (ci := 2) (v := .ref h1) (C := RX2) (T := TX2) (N := 1) hx hb hts hin2 hown hK hP 0 rfl rfl 0 (by decide) (hts (.fieldLink RX2 9 "PowerTables$Registers" "numbers" "[J") (List.mem_of_getElem? (i := 1) rfl)) (fun _ h9 => h9) rfl dX2_canTake_1 ?_
  refine lv_iload_n hx hb dX2_canTake_4 rfl (lv_at hl 1 rfl) ?_
  refine ks_lald hx hb hK hP 1 rfl (by omega) (by decide) dX2_canTake_5 ?_
  refine lv_lload_n hx hb dX2_canTake_6 rfl (lv_at hl 2 rfl) ?_
  refine lv_ladd hx hb dX2_canTake_7 ?_
  refine lv_lstore (lv' := [(4, .long ((r_ j_) + x_)), (0, .ref h0), (1, .int (nI j_)), (2, .long x_)]) hx hb dX2_canTake_8 hl (by decide) rfl (fun ls hl => ?_)
  refine lv_lload hx hb dX2_canTake_10 (lv_at hl 0 rfl) ?_
  refine lv_ldc2 hx hb hown (hts (.constantLong RX2 37 (-99999999999)) (List.mem_of_getElem? (i := 2) rfl)) dX2_canTake_12 ?_
  refine ks_lc_lt (tgt := 32) hx hb dX2_canTake_15 dX2_canTake_16 (by decide) (fun c_15 => ?_) (fun c_15 => ?_)
  · have hv : nI 0 = bI (-99999999999 ≤ r_ j_ + x_ ∧ r_ j_ + x_ ≤ lN 99999999999) := bI_0 (fun z => lg_lt_le c_15 z.1)
    refine lv_iconst (v := nI 0) hx hb dX2_canTake_32 (by decide) ?_
    exact cr_zret hx hb hr hlocks hK hP hD hS (by decide +kernel) dX2_canTake_33 (by rw [hRR]; exact ctR_i (hv) (rfl))
  · refine lv_lload hx hb dX2_canTake_19 (lv_at hl 0 rfl) ?_
    refine lv_ldc2 hx hb hown (hts (.constantLong RX2 39 (99999999999)) (List.mem_of_getElem? (i := 3) rfl)) dX2_canTake_21 ?_
    refine ks_vL (show (99999999999 : Int64) = lN 99999999999 from rfl) ?_
    refine ks_lc_gt (tgt := 32) hx hb dX2_canTake_24 dX2_canTake_25 (by decide) (fun c_24 => ?_) (fun c_24 => ?_)
    · have hv : nI 0 = bI (-99999999999 ≤ r_ j_ + x_ ∧ r_ j_ + x_ ≤ lN 99999999999) := bI_0 (fun z => lg_lt_le c_24 z.2)
      refine lv_iconst (v := nI 0) hx hb dX2_canTake_32 (by decide) ?_
      exact cr_zret hx hb hr hlocks hK hP hD hS (by decide +kernel) dX2_canTake_33 (by rw [hRR]; exact ctR_i (hv) (rfl))
    · have hv : nI 1 = bI (-99999999999 ≤ r_ j_ + x_ ∧ r_ j_ + x_ ≤ lN 99999999999) := bI_1 ⟨c_15, c_24⟩
      refine lv_iconst (v := nI 1) hx hb dX2_canTake_28 (by decide) ?_
      refine lv_goto (tgt := 33) hx hb dX2_canTake_29 (by decide) ?_
      exact cr_zret hx hb hr hlocks hK hP hD hS (by decide +kernel) dX2_canTake_33 (by rw [hRR]; exact ctR_i (hv) (rfl))
set_option maxHeartbeats 4000000 in
set_option maxRecDepth 100000 in
theorem c_X2_add (G : GG) (l : Launch) (h0 : Nat) (h1 : Nat) (r_ : Nat → Int64) (j_ : Nat) (x_ : Int64) (hj : j_ < 6) : Cr G l yX2_add wsX2_add ({ frames := 0, cells := 0, slots := 0, locals := 0 }) 0 0 [.ref h0, .int (nI j_), .long x_] [(h0, .inr (2, [.ref h1])), (h1, .inl (G.2.2.1, 6, .inr (.inl (r_))))] (ctR none [(h0, .inr (2, [.ref h1])), (h1, .inl (G.2.2.1, 6, .inr (.inl (vp_updL r_ j_ (r_ j_ + x_)))))]) := by
  refine cr_intro (cc := cX2_add) (maxL := 4) (ret := none) (own := RX2) (by decide) rfl rfl (Nat.le_of_ble_eq_true rfl) ?_
  intro p e s m args below meth c A hx hb hr hml hts hown hlocks hnm hNX hP hK hD hA hS ls hl
  obtain ⟨RR, hRR⟩ : ∃ RR, RR = (ctR none [(h0, .inr (2, [.ref h1])), (h1, .inl (G.2.2.1, 6, .inr (.inl (vp_updL r_ j_ (r_ j_ + x_)))))]) := ⟨_, rfl⟩
  rw [← hRR]
  have hl : lv_has ls 4 [(0, .ref h0), (1, .int (nI j_)), (2, .long x_)] := hl
  have hin2 : ∀ w ∈ u_ws RX2 TX2 1, w ∈ wsX2_add := fun w h => List.mem_cons_of_mem _ (List.mem_append_right _ h)
  refine lv_aload_n hx hb dX2_add_0 rfl (lv_at hl 0 rfl) ?_
  refine va_get (D := G.1) (ci := 2) (v := .ref h1) (C := RX2) (T := TX2) (N := 1) hx hb hts hin2 hown hK hP 0 rfl rfl 0 (by decide) (hts (.fieldLink RX2 9 "PowerTables$Registers" "numbers" "[J") (List.mem_of_getElem? (i := 1) rfl)) (fun _ h9 => h9) rfl dX2_add_1 ?_
  refine lv_iload_n hx hb dX2_add_4 rfl (lv_at hl 1 rfl) ?_
  refine lv_dup2_11 hx hb dX2_add_5 rfl rfl ?_
  refine ks_lald hx hb hK hP 1 rfl (by omega) (by decide) dX2_add_6 ?_
  refine lv_lload_n hx hb dX2_add_7 rfl (lv_at hl 2 rfl) ?_
  refine lv_ladd hx hb dX2_add_8 ?_
  refine ks_last (f' := vp_updL r_ j_ ((r_ j_) + x_)) hx hb hK hP hD hS 1 rfl (by omega) (by decide) (rfl) dX2_add_9 (fun Hq lcq hP hD hS => ?_)
  have hP : va_P G.1 vwCl [(h0, .inr (2, [.ref h1])), (h1, .inl (G.2.2.1, 6, .inr (.inl (vp_updL r_ j_ ((r_ j_) + x_)))))] _ := hP
  have hD : va_D A [(h0, .inr (2, [.ref h1])), (h1, .inl (G.2.2.1, 6, .inr (.inl (vp_updL r_ j_ ((r_ j_) + x_)))))] := hD
  exact cr_vret hx hb hr hlocks hK hP hD hS dX2_add_10 (by rw [hRR]; exact ctR_v (rfl))
set_option maxHeartbeats 4000000 in
set_option maxRecDepth 100000 in
theorem c_X2_countUnlike (G : GG) (l : Launch) (h0 : Nat) (h1 : Nat) (r_ : Nat → Int64) (o0_ : Nat) (o1 : Nat) (r2 : Nat → Int64)  : Cr G l yX2_countUnlike wsX2_countUnlike ({ frames := 0, cells := 0, slots := 0, locals := 0 }) 0 0 [.ref h0, .ref o0_] [(h0, .inr (2, [.ref h1])), (h1, .inl (G.2.2.1, 6, .inr (.inl (r_)))), (o0_, .inr (2, [.ref o1])), (o1, .inl (G.2.2.1, 6, .inr (.inl (r2))))] (ctR (some (.int (nI (ctN (fun k => r_ k ≠ r2 k) 6)))) [(h0, .inr (2, [.ref h1])), (h1, .inl (G.2.2.1, 6, .inr (.inl (r_)))), (o0_, .inr (2, [.ref o1])), (o1, .inl (G.2.2.1, 6, .inr (.inl (r2))))]) := by
  refine cr_intro (cc := cX2_countUnlike) (maxL := 4) (ret := (some .int)) (own := RX2) (by decide) rfl rfl (Nat.le_of_ble_eq_true rfl) ?_
  intro p e s m args below meth c A hx hb hr hml hts hown hlocks hnm hNX hP hK hD hA hS ls hl
  obtain ⟨RR, hRR⟩ : ∃ RR, RR = (ctR (some (.int (nI (ctN (fun k => r_ k ≠ r2 k) 6)))) [(h0, .inr (2, [.ref h1])), (h1, .inl (G.2.2.1, 6, .inr (.inl (r_)))), (o0_, .inr (2, [.ref o1])), (o1, .inl (G.2.2.1, 6, .inr (.inl (r2))))]) := ⟨_, rfl⟩
  rw [← hRR]
  have hl : lv_has ls 4 [(0, .ref h0), (1, .ref o0_)] := hl
  have hin2 : ∀ w ∈ u_ws RX2 TX2 1, w ∈ wsX2_countUnlike := fun w h => List.mem_cons_of_mem _ (List.mem_append_right _ h)
  refine lv_iconst (v := nI 0) hx hb dX2_countUnlike_0 (by decide) ?_
  refine lv_istore_n (lv' := [(2, .int (nI 0)), (0, .ref h0), (1, .ref o0_)]) hx hb dX2_countUnlike_1 rfl hl (by decide) rfl (fun ls hl => ?_)
  refine lv_iconst (v := nI 0) hx hb dX2_countUnlike_2 (by decide) ?_
  refine lv_istore_n (lv' := [(3, .int (nI 0)), (2, .int (nI 0)), (0, .ref h0), (1, .ref o0_)]) hx hb dX2_countUnlike_3 rfl hl (by decide) rfl (fun ls hl => ?_)
  have L_4 : ∀ (n_4 : Nat) (i_ : Nat) (_ : 7 - i_ < n_4) (hi_ : i_ ≤ 6) (Hq : Heap) (lcq : List Loc), va_P G.1 vwCl [(h0, .inr (2, [.ref h1])), (h1, .inl (G.2.2.1, 6, .inr (.inl (r_)))), (o0_, .inr (2, [.ref o1])), (o1, .inl (G.2.2.1, 6, .inr (.inl (r2))))] Hq → va_D A [(h0, .inr (2, [.ref h1])), (h1, .inl (G.2.2.1, 6, .inr (.inl (r_)))), (o0_, .inr (2, [.ref o1])), (o1, .inl (G.2.2.1, 6, .inr (.inl (r2))))] → va_S A s.heap Hq lcq → ∀ ls : Array Slot, lv_has ls 4 [(3, .int (nI i_)), (0, .ref h0), (1, .ref o0_), (2, .int (nI (ctN (fun k => r_ k ≠ r2 k) i_)))] → W p l e ({ frames := 0, cells := 0, slots := 0, locals := 0 }) s m args below meth c Hq lcq 0 0 (MQ below (cr_Q G RR A) args s 0 0 A) (F0 m 4 ls []) := by
    intro n_4
    induction n_4 with
    | zero => intro i_ hmu_4; exact absurd hmu_4 (Nat.not_lt_zero _)
    | succ n_4 ih_4 =>
      intro i_ hmu_4 hi_ Hq lcq hP hD hS ls hl
      refine lv_iload_n hx hb dX2_countUnlike_4 rfl (lv_at hl 0 rfl) ?_
      refine lv_bipush (v := nI 6) hx hb dX2_countUnlike_5 (by decide) ?_
      refine ks_icmp_ge (tgt := 40) hx hb dX2_countUnlike_7 (by decide) (by omega) (by omega) (fun c_7 => ?_) (fun c_7 => ?_)
      · obtain rfl : i_ = 6 := by omega
        refine lv_iload_n hx hb dX2_countUnlike_40 rfl (lv_at hl 3 rfl) ?_
        exact cr_iret hx hb hr hlocks hK hP hD hS dX2_countUnlike_41 (by rw [hRR]; exact ctR_i (rfl) (rfl))
      · refine lv_iload_n hx hb dX2_countUnlike_10 rfl (lv_at hl 3 rfl) ?_
        refine lv_aload_n hx hb dX2_countUnlike_11 rfl (lv_at hl 1 rfl) ?_
        refine va_get (D := G.1) (ci := 2) (v := .ref h1) (C := RX2) (T := TX2) (N := 1) hx hb hts hin2 hown hK hP 0 rfl rfl 0 (by decide) (hts (.fieldLink RX2 9 "PowerTables$Registers" "numbers" "[J") (List.mem_of_getElem? (i := 1) rfl)) (fun _ h9 => h9) rfl dX2_countUnlike_12 ?_
        refine lv_iload_n hx hb dX2_countUnlike_15 rfl (lv_at hl 0 rfl) ?_
        refine ks_lald hx hb hK hP 1 rfl (by omega) (by decide) dX2_countUnlike_16 ?_
        refine lv_aload_n hx hb dX2_countUnlike_17 rfl (lv_at hl 2 rfl) ?_
        refine va_get (D := G.1) (ci := 2) (v := .ref o1) (C := RX2) (T := TX2) (N := 1) hx hb hts hin2 hown hK hP 2 rfl rfl 0 (by decide) (hts (.fieldLink RX2 9 "PowerTables$Registers" "numbers" "[J") (List.mem_of_getElem? (i := 1) rfl)) (fun _ h9 => h9) rfl dX2_countUnlike_18 ?_
        refine lv_iload_n hx hb dX2_countUnlike_21 rfl (lv_at hl 0 rfl) ?_
        refine ks_lald hx hb hK hP 3 rfl (by omega) (by decide) dX2_countUnlike_22 ?_
        refine ks_lc_eq (tgt := 31) hx hb dX2_countUnlike_23 dX2_countUnlike_24 (by decide) (fun c_23 => ?_) (fun c_23 => ?_)
        · refine lv_iconst (v := nI 0) hx hb dX2_countUnlike_31 (by decide) ?_
          refine ks_iaddN hx hb dX2_countUnlike_32 ?_
          refine ks_vI (show nI (ctN (fun k => r_ k ≠ r2 k) i_ + 0) = nI (ctN (fun k => r_ k ≠ r2 k) (i_ + 1)) from by rw [Nat.add_zero, ctN_f (p := (fun k => r_ k ≠ r2 k)) (fun z => z c_23)]) ?_
          refine lv_istore_n (lv' := [(2, .int (nI (ctN (fun k => r_ k ≠ r2 k) (i_ + 1)))), (3, .int (nI i_)), (0, .ref h0), (1, .ref o0_)]) hx hb dX2_countUnlike_33 rfl hl (by decide) rfl (fun ls hl => ?_)
          refine lv_iinc (v := nI (i_ + 1)) (lv' := [(3, .int (nI (i_ + 1))), (2, .int (nI (ctN (fun k => r_ k ≠ r2 k) (i_ + 1)))), (0, .ref h0), (1, .ref o0_)]) hx hb dX2_countUnlike_34 hl (k := 1) rfl (ks_inc i_ 1) (by decide) rfl (fun ls hl => ?_)
          refine lv_goto (tgt := 4) hx hb dX2_countUnlike_37 (by decide) ?_
          exact ih_4  (i_ + 1) (by omega) (by omega) _ _ hP hD hS ls (lv_sub hl [0, 2, 3, 1] rfl)
        · refine lv_iconst (v := nI 1) hx hb dX2_countUnlike_27 (by decide) ?_
          refine lv_goto (tgt := 32) hx hb dX2_countUnlike_28 (by decide) ?_
          refine ks_iaddN hx hb dX2_countUnlike_32 ?_
          refine ks_vI (show nI (ctN (fun k => r_ k ≠ r2 k) i_ + 1) = nI (ctN (fun k => r_ k ≠ r2 k) (i_ + 1)) from by rw [ctN_t (p := (fun k => r_ k ≠ r2 k)) c_23]) ?_
          refine lv_istore_n (lv' := [(2, .int (nI (ctN (fun k => r_ k ≠ r2 k) (i_ + 1)))), (3, .int (nI i_)), (0, .ref h0), (1, .ref o0_)]) hx hb dX2_countUnlike_33 rfl hl (by decide) rfl (fun ls hl => ?_)
          refine lv_iinc (v := nI (i_ + 1)) (lv' := [(3, .int (nI (i_ + 1))), (2, .int (nI (ctN (fun k => r_ k ≠ r2 k) (i_ + 1)))), (0, .ref h0), (1, .ref o0_)]) hx hb dX2_countUnlike_34 hl (k := 1) rfl (ks_inc i_ 1) (by decide) rfl (fun ls hl => ?_)
          refine lv_goto (tgt := 4) hx hb dX2_countUnlike_37 (by decide) ?_
          exact ih_4  (i_ + 1) (by omega) (by omega) _ _ hP hD hS ls (lv_sub hl [0, 2, 3, 1] rfl)
  exact L_4 _ 0 (Nat.lt_succ_self _) (by omega) _ _ hP hD hS ls (lv_sub hl [0, 2, 3, 1] rfl)
set_option maxHeartbeats 4000000 in
set_option maxRecDepth 100000 in
theorem c_X5_makeNew (G : GG) (l : Launch) (h0 : Nat) (h1 : Nat) (w_ : Nat → Nat) (wl : Nat) (dg : Nat) (d_ : Nat) (hd_ : d_ < 10) : Cr G l yX5_makeNew wsX5_makeNew ({ frames := 0, cells := 0, slots := 0, locals := 0 }) 0 0 [.ref h0, .int (nI d_)] [(h0, .inr (5, [.ref h1, .int (nI wl), .int (nI dg)])), (h1, .inl (G.2.1, 10, .inl (fun q9 => nI (w_ q9))))] (ctR (some (.int (nI (w_ d_)))) [(h0, .inr (5, [.ref h1, .int (nI wl), .int (nI dg)])), (h1, .inl (G.2.1, 10, .inl (fun q9 => nI ((upN w_ d_ 0) q9))))]) := by
  refine cr_intro (cc := cX5_makeNew) (maxL := 3) (ret := (some .int)) (own := RX5) (by decide) rfl rfl (Nat.le_of_ble_eq_true rfl) ?_
  intro p e s m args below meth c A hx hb hr hml hts hown hlocks hnm hNX hP hK hD hA hS ls hl
  obtain ⟨RR, hRR⟩ : ∃ RR, RR = (ctR (some (.int (nI (w_ d_)))) [(h0, .inr (5, [.ref h1, .int (nI wl), .int (nI dg)])), (h1, .inl (G.2.1, 10, .inl (fun q9 => nI ((upN w_ d_ 0) q9))))]) := ⟨_, rfl⟩
  rw [← hRR]
  have hl : lv_has ls 3 [(0, .ref h0), (1, .int (nI d_))] := hl
  have hin5 : ∀ w_ ∈ u_ws RX5 TX5 3, w_ ∈ wsX5_makeNew := fun w_ h => List.mem_cons_of_mem _ (List.mem_append_right _ h)
  refine lv_aload_n hx hb dX5_makeNew_0 rfl (lv_at hl 0 rfl) ?_
  refine va_get (D := G.1) (ci := 5) (v := .ref h1) (C := RX5) (T := TX5) (N := 3) hx hb hts hin5 hown hK hP 0 rfl rfl 0 (by decide) (hts (.fieldLink RX5 9 "PowerTables$Types" "wears" "[I") (List.mem_of_getElem? (i := 1) rfl)) (fun _ h9 => h9) rfl dX5_makeNew_1 ?_
  refine lv_iload_n hx hb dX5_makeNew_4 rfl (lv_at hl 1 rfl) ?_
  refine ks_iald hx hb hK hP 1 rfl (by omega) (by decide) dX5_makeNew_5 ?_
  refine lv_istore_n (lv' := [(2, .int (nI (w_ d_))), (0, .ref h0), (1, .int (nI d_))]) hx hb dX5_makeNew_6 rfl hl (by decide) rfl (fun ls hl => ?_)
  refine lv_aload_n hx hb dX5_makeNew_7 rfl (lv_at hl 1 rfl) ?_
  refine va_get (D := G.1) (ci := 5) (v := .ref h1) (C := RX5) (T := TX5) (N := 3) hx hb hts hin5 hown hK hP 0 rfl rfl 0 (by decide) (hts (.fieldLink RX5 9 "PowerTables$Types" "wears" "[I") (List.mem_of_getElem? (i := 1) rfl)) (fun _ h9 => h9) rfl dX5_makeNew_8 ?_
  refine lv_iload_n hx hb dX5_makeNew_11 rfl (lv_at hl 2 rfl) ?_
  refine lv_iconst (v := nI 0) hx hb dX5_makeNew_12 (by decide) ?_
  refine ks_iast (f' := fun q9 => nI ((upN w_ d_ 0) q9)) hx hb hK hP hD hS 1 rfl (by omega) (by decide) (upN_upd _ _ _) dX5_makeNew_13 (fun Hq lcq hP hD hS => ?_)
  have hP : va_P G.1 vwCl [(h0, .inr (5, [.ref h1, .int (nI wl), .int (nI dg)])), (h1, .inl (G.2.1, 10, .inl (fun q9 => nI ((upN w_ d_ 0) q9))))] _ := hP
  have hD : va_D A [(h0, .inr (5, [.ref h1, .int (nI wl), .int (nI dg)])), (h1, .inl (G.2.1, 10, .inl (fun q9 => nI ((upN w_ d_ 0) q9))))] := hD
  refine lv_iload_n hx hb dX5_makeNew_14 rfl (lv_at hl 0 rfl) ?_
  exact cr_iret hx hb hr hlocks hK hP hD hS dX5_makeNew_15 (by rw [hRR]; exact ctR_i (rfl) (rfl))
set_option maxHeartbeats 4000000 in
set_option maxRecDepth 100000 in
theorem c_X5_copyFrom (G : GG) (l : Launch) (h0 : Nat) (h1 : Nat) (w_ : Nat → Nat) (wl : Nat) (dg : Nat) (o0_ : Nat) (o1 : Nat) (w2_ : Nat → Nat) (wl2 : Nat) (dg2 : Nat)  : Cr G l yX5_copyFrom wsX5_copyFrom ({ frames := 0, cells := 0, slots := 0, locals := 0 }) 0 0 [.ref h0, .ref o0_] [(h0, .inr (5, [.ref h1, .int (nI wl), .int (nI dg)])), (h1, .inl (G.2.1, 10, .inl (fun q9 => nI (w_ q9)))), (o0_, .inr (5, [.ref o1, .int (nI wl2), .int (nI dg2)])), (o1, .inl (G.2.1, 10, .inl (fun q9 => nI (w2_ q9))))] (ctR none [(h0, .inr (5, [.ref h1, .int (nI wl2), .int (nI dg2)])), (h1, .inl (G.2.1, 10, .inl (fun q9 => nI (w2_ q9)))), (o0_, .inr (5, [.ref o1, .int (nI wl2), .int (nI dg2)])), (o1, .inl (G.2.1, 10, .inl (fun q9 => nI (w2_ q9))))]) := by
  refine cr_intro (cc := cX5_copyFrom) (maxL := 3) (ret := none) (own := RX5) (by decide) rfl rfl (Nat.le_of_ble_eq_true rfl) ?_
  intro p e s m args below meth c A hx hb hr hml hts hown hlocks hnm hNX hP hK hD hA hS ls hl
  obtain ⟨RR, hRR⟩ : ∃ RR, RR = (ctR none [(h0, .inr (5, [.ref h1, .int (nI wl2), .int (nI dg2)])), (h1, .inl (G.2.1, 10, .inl (fun q9 => nI (w2_ q9)))), (o0_, .inr (5, [.ref o1, .int (nI wl2), .int (nI dg2)])), (o1, .inl (G.2.1, 10, .inl (fun q9 => nI (w2_ q9))))]) := ⟨_, rfl⟩
  rw [← hRR]
  have hl : lv_has ls 3 [(0, .ref h0), (1, .ref o0_)] := hl
  have hin5 : ∀ w_ ∈ u_ws RX5 TX5 3, w_ ∈ wsX5_copyFrom := fun w_ h => List.mem_cons_of_mem _ (List.mem_append_right _ h)
  refine lv_iconst (v := nI 0) hx hb dX5_copyFrom_0 (by decide) ?_
  refine lv_istore_n (lv' := [(2, .int (nI 0)), (0, .ref h0), (1, .ref o0_)]) hx hb dX5_copyFrom_1 rfl hl (by decide) rfl (fun ls hl => ?_)
  have L_2 : ∀ (n_2 : Nat) (i_ : Nat) (_ : 11 - i_ < n_2) (hi_ : i_ ≤ 10) (Hq : Heap) (lcq : List Loc), va_P G.1 vwCl [(h0, .inr (5, [.ref h1, .int (nI wl), .int (nI dg)])), (h1, .inl (G.2.1, 10, .inl (fun q9 => nI ((cpu w_ w2_ i_) q9)))), (o0_, .inr (5, [.ref o1, .int (nI wl2), .int (nI dg2)])), (o1, .inl (G.2.1, 10, .inl (fun q9 => nI (w2_ q9))))] Hq → va_D A [(h0, .inr (5, [.ref h1, .int (nI wl), .int (nI dg)])), (h1, .inl (G.2.1, 10, .inl (fun q9 => nI ((cpu w_ w2_ i_) q9)))), (o0_, .inr (5, [.ref o1, .int (nI wl2), .int (nI dg2)])), (o1, .inl (G.2.1, 10, .inl (fun q9 => nI (w2_ q9))))] → va_S A s.heap Hq lcq → ∀ ls : Array Slot, lv_has ls 3 [(0, .ref h0), (1, .ref o0_), (2, .int (nI i_))] → W p l e ({ frames := 0, cells := 0, slots := 0, locals := 0 }) s m args below meth c Hq lcq 0 0 (MQ below (cr_Q G RR A) args s 0 0 A) (F0 m 2 ls []) := by
    intro n_2
    induction n_2 with
    | zero => intro i_ hmu_2; exact absurd hmu_2 (Nat.not_lt_zero _)
    | succ n_2 ih_2 =>
      intro i_ hmu_2 hi_ Hq lcq hP hD hS ls hl
      refine lv_iload_n hx hb dX5_copyFrom_2 rfl (lv_at hl 2 rfl) ?_
      refine lv_bipush (v := nI 10) hx hb dX5_copyFrom_3 (by decide) ?_
      refine ks_icmp_ge (tgt := 26) hx hb dX5_copyFrom_5 (by decide) (by omega) (by omega) (fun c_5 => ?_) (fun c_5 => ?_)
      · obtain rfl : i_ = 10 := by omega
        have hP := hP.cgI 1 (g := fun q9 => nI (w2_ q9)) rfl (fun k hk => congrArg nI (cpu_lo hk))
        have hD := hD.set (p := 1) (e := .inl (G.2.1, 10, .inl (fun q9 => nI (w2_ q9)))) rfl
        have hP : va_P G.1 vwCl [(h0, .inr (5, [.ref h1, .int (nI wl), .int (nI dg)])), (h1, .inl (G.2.1, 10, .inl (fun q9 => nI (w2_ q9)))), (o0_, .inr (5, [.ref o1, .int (nI wl2), .int (nI dg2)])), (o1, .inl (G.2.1, 10, .inl (fun q9 => nI (w2_ q9))))] _ := hP
        have hD : va_D A [(h0, .inr (5, [.ref h1, .int (nI wl), .int (nI dg)])), (h1, .inl (G.2.1, 10, .inl (fun q9 => nI (w2_ q9)))), (o0_, .inr (5, [.ref o1, .int (nI wl2), .int (nI dg2)])), (o1, .inl (G.2.1, 10, .inl (fun q9 => nI (w2_ q9))))] := hD
        refine lv_aload_n hx hb dX5_copyFrom_26 rfl (lv_at hl 0 rfl) ?_
        refine lv_aload_n hx hb dX5_copyFrom_27 rfl (lv_at hl 1 rfl) ?_
        refine va_get (D := G.1) (ci := 5) (v := .int (nI wl2)) (C := RX5) (T := TX5) (N := 3) hx hb hts hin5 hown hK hP 2 rfl rfl 1 (by decide) (hts (.fieldLink RX5 15 "PowerTables$Types" "wearLimit" "I") (List.mem_of_getElem? (i := 2) rfl)) (fun _ h9 => h9) rfl dX5_copyFrom_28 ?_
        refine va_put (D := G.1) (ci := 5) (v := .int (nI wl2)) (ty := .int) (C := RX5) (T := TX5) (N := 3) hx hb hts hin5 tyX5 tyX5_ok nmX5 hown hK hP hD hS 0 rfl rfl 1 (by decide) (hts (.fieldLink RX5 15 "PowerTables$Types" "wearLimit" "I") (List.mem_of_getElem? (i := 2) rfl)) (fun _ h9 => h9) rfl (tyX5_ok 1 (by decide)) rfl rfl (Nat.le_of_ble_eq_true rfl) dX5_copyFrom_31 (fun Hq lcq hP hD hS => ?_)
        have hP : va_P G.1 vwCl [(h0, .inr (5, [.ref h1, .int (nI wl2), .int (nI dg)])), (h1, .inl (G.2.1, 10, .inl (fun q9 => nI (w2_ q9)))), (o0_, .inr (5, [.ref o1, .int (nI wl2), .int (nI dg2)])), (o1, .inl (G.2.1, 10, .inl (fun q9 => nI (w2_ q9))))] _ := hP
        have hD : va_D A [(h0, .inr (5, [.ref h1, .int (nI wl2), .int (nI dg)])), (h1, .inl (G.2.1, 10, .inl (fun q9 => nI (w2_ q9)))), (o0_, .inr (5, [.ref o1, .int (nI wl2), .int (nI dg2)])), (o1, .inl (G.2.1, 10, .inl (fun q9 => nI (w2_ q9))))] := hD
        refine lv_aload_n hx hb dX5_copyFrom_34 rfl (lv_at hl 0 rfl) ?_
        refine lv_aload_n hx hb dX5_copyFrom_35 rfl (lv_at hl 1 rfl) ?_
        refine va_get (D := G.1) (ci := 5) (v := .int (nI dg2)) (C := RX5) (T := TX5) (N := 3) hx hb hts hin5 hown hK hP 2 rfl rfl 2 (by decide) (hts (.fieldLink RX5 19 "PowerTables$Types" "digitsPrinted" "I") (List.mem_of_getElem? (i := 3) rfl)) (fun _ h9 => h9) rfl dX5_copyFrom_36 ?_
        refine va_put (D := G.1) (ci := 5) (v := .int (nI dg2)) (ty := .int) (C := RX5) (T := TX5) (N := 3) hx hb hts hin5 tyX5 tyX5_ok nmX5 hown hK hP hD hS 0 rfl rfl 2 (by decide) (hts (.fieldLink RX5 19 "PowerTables$Types" "digitsPrinted" "I") (List.mem_of_getElem? (i := 3) rfl)) (fun _ h9 => h9) rfl (tyX5_ok 2 (by decide)) rfl rfl (Nat.le_of_ble_eq_true rfl) dX5_copyFrom_39 (fun Hq lcq hP hD hS => ?_)
        have hP : va_P G.1 vwCl [(h0, .inr (5, [.ref h1, .int (nI wl2), .int (nI dg2)])), (h1, .inl (G.2.1, 10, .inl (fun q9 => nI (w2_ q9)))), (o0_, .inr (5, [.ref o1, .int (nI wl2), .int (nI dg2)])), (o1, .inl (G.2.1, 10, .inl (fun q9 => nI (w2_ q9))))] _ := hP
        have hD : va_D A [(h0, .inr (5, [.ref h1, .int (nI wl2), .int (nI dg2)])), (h1, .inl (G.2.1, 10, .inl (fun q9 => nI (w2_ q9)))), (o0_, .inr (5, [.ref o1, .int (nI wl2), .int (nI dg2)])), (o1, .inl (G.2.1, 10, .inl (fun q9 => nI (w2_ q9))))] := hD
        exact cr_vret hx hb hr hlocks hK hP hD hS dX5_copyFrom_42 (by rw [hRR]; exact ctR_v (rfl))
      · refine lv_aload_n hx hb dX5_copyFrom_8 rfl (lv_at hl 0 rfl) ?_
        refine va_get (D := G.1) (ci := 5) (v := .ref h1) (C := RX5) (T := TX5) (N := 3) hx hb hts hin5 hown hK hP 0 rfl rfl 0 (by decide) (hts (.fieldLink RX5 9 "PowerTables$Types" "wears" "[I") (List.mem_of_getElem? (i := 1) rfl)) (fun _ h9 => h9) rfl dX5_copyFrom_9 ?_
        refine lv_iload_n hx hb dX5_copyFrom_12 rfl (lv_at hl 2 rfl) ?_
        refine lv_aload_n hx hb dX5_copyFrom_13 rfl (lv_at hl 1 rfl) ?_
        refine va_get (D := G.1) (ci := 5) (v := .ref o1) (C := RX5) (T := TX5) (N := 3) hx hb hts hin5 hown hK hP 2 rfl rfl 0 (by decide) (hts (.fieldLink RX5 9 "PowerTables$Types" "wears" "[I") (List.mem_of_getElem? (i := 1) rfl)) (fun _ h9 => h9) rfl dX5_copyFrom_14 ?_
        refine lv_iload_n hx hb dX5_copyFrom_17 rfl (lv_at hl 2 rfl) ?_
        refine ks_iald hx hb hK hP 3 rfl (by omega) (by decide) dX5_copyFrom_18 ?_
        refine ks_iast (f' := fun q9 => nI ((cpu w_ w2_ (i_ + 1)) q9)) hx hb hK hP hD hS 1 rfl (by omega) (by decide) (cpu_sN w_ w2_ i_) dX5_copyFrom_19 (fun Hq lcq hP hD hS => ?_)
        have hP : va_P G.1 vwCl [(h0, .inr (5, [.ref h1, .int (nI wl), .int (nI dg)])), (h1, .inl (G.2.1, 10, .inl (fun q9 => nI ((cpu w_ w2_ (i_ + 1)) q9)))), (o0_, .inr (5, [.ref o1, .int (nI wl2), .int (nI dg2)])), (o1, .inl (G.2.1, 10, .inl (fun q9 => nI (w2_ q9))))] _ := hP
        have hD : va_D A [(h0, .inr (5, [.ref h1, .int (nI wl), .int (nI dg)])), (h1, .inl (G.2.1, 10, .inl (fun q9 => nI ((cpu w_ w2_ (i_ + 1)) q9)))), (o0_, .inr (5, [.ref o1, .int (nI wl2), .int (nI dg2)])), (o1, .inl (G.2.1, 10, .inl (fun q9 => nI (w2_ q9))))] := hD
        refine lv_iinc (v := nI (i_ + 1)) (lv' := [(2, .int (nI (i_ + 1))), (0, .ref h0), (1, .ref o0_)]) hx hb dX5_copyFrom_20 hl (k := 2) rfl (ks_inc i_ 1) (by decide) rfl (fun ls hl => ?_)
        refine lv_goto (tgt := 2) hx hb dX5_copyFrom_23 (by decide) ?_
        exact ih_2  (i_ + 1) (by omega) (by omega) _ _ hP hD hS ls (lv_sub hl [1, 2, 0] rfl)
  rw [← cpu_0 w_ w2_] at hP hD
  exact L_2 _ 0 (Nat.lt_succ_self _) (by omega) _ _ hP hD hS ls (lv_sub hl [1, 2, 0] rfl)
