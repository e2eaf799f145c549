theorem lsw4 {ch : Nat} (h : ch < 2 ^ 31) (h1 : ch ≠ 99) (h2 : ch ≠ 110) (h3 : ch ≠ 112) (h4 : ch ≠ 115) {a b c d e : Int} : Op.lookupswitch.offset [(99, a), (110, b), (112, c), (115, d)] e (nI ch).toInt = e := by
  rw [nI_toInt h]
  rw [Op.lookupswitch.offset_cons, if_neg (by omega), Op.lookupswitch.offset_cons, if_neg (by omega), Op.lookupswitch.offset_cons, if_neg (by omega), Op.lookupswitch.offset_cons, if_neg (by omega), Op.lookupswitch.offset_nil]
theorem stI_eq {q k : Nat} (h : q ≤ 10) (hk : k < 10) : stI q = nI k ↔ q = k := by
  unfold stI
  rcases Nat.lt_or_ge q 10 with z | z
  · rw [if_pos z]
    exact nI_eq (by omega) (by omega)
  · rw [if_neg (by omega)]
    constructor
    · intro w
      exfalso
      have h1 : (nI k).toInt = (-1 : Int32).toInt := by rw [w]
      rw [nI_toInt (by omega)] at h1
      have h2 : (-1 : Int32).toInt = -1 := by decide
      omega
    · intro w; omega
def dgA (cs : Nat → Nat) (n j : Nat) : Nat := if 48 ≤ cdA cs n j ∧ cdA cs n j ≤ 57 then cdA cs n j - 48 else 0
def nmA (cs : Nat → Nat) (n j : Nat) : Nat := if 48 ≤ cdA cs n (j + 1) ∧ cdA cs n (j + 1) ≤ 57 then 10 * dgA cs n j + dgA cs n (j + 1) else dgA cs n j
set_option maxHeartbeats 4000000 in
set_option maxRecDepth 100000 in
theorem c_X1_isBetween (G : GG) (l : Launch) (ch_ : Nat) (lo_ : Nat) (hi_ : Nat) (j1 : ch_ < 2 ^ 30) (j2_ : lo_ < 2 ^ 30) (j3_ : hi_ < 2 ^ 30) : Cr G l yX1_isBetween wsX1_isBetween ({ frames := 0, cells := 0, slots := 0, locals := 0 }) 0 0 [.int (nI ch_), .int (nI lo_), .int (nI hi_)] [] (ctR (some (.int (bI (lo_ ≤ ch_ ∧ ch_ ≤ hi_)))) []) := by
  refine cr_intro (cc := cX1_isBetween) (maxL := 3) (ret := (some .boolean)) (own := RX1) (by decide) rfl rfl (Nat.le_of_ble_eq_true rfl) ?_
  intro p e s m args below meth c A hx hb hr hml hts hown hlocks hnm hNX hP hK hD hA hS ls hl
  obtain ⟨RR, hRR⟩ : ∃ RR, RR = (ctR (some (.int (bI (lo_ ≤ ch_ ∧ ch_ ≤ hi_)))) []) := ⟨_, rfl⟩
  rw [← hRR]
  have hl : lv_has ls 3 [(0, .int (nI ch_)), (1, .int (nI lo_)), (2, .int (nI hi_))] := hl
  refine lv_iload_n hx hb dX1_isBetween_0 rfl (lv_at hl 0 rfl) ?_
  refine lv_iload_n hx hb dX1_isBetween_1 rfl (lv_at hl 1 rfl) ?_
  refine ks_icmp_lt (tgt := 14) hx hb dX1_isBetween_2 (by decide) (by omega) (by omega) (fun c_2 => ?_) (fun c_2 => ?_)
  · have hv : nI 0 = bI (lo_ ≤ ch_ ∧ ch_ ≤ hi_) := bI_0 (by omega)
    refine lv_iconst (v := nI 0) hx hb dX1_isBetween_14 (by decide) ?_
    exact cr_zret hx hb hr hlocks hK hP hD hS (by decide +kernel) dX1_isBetween_15 (by rw [hRR]; exact ctR_i (hv) (rfl))
  · refine lv_iload_n hx hb dX1_isBetween_5 rfl (lv_at hl 0 rfl) ?_
    refine lv_iload_n hx hb dX1_isBetween_6 rfl (lv_at hl 2 rfl) ?_
    refine ks_icmp_gt (tgt := 14) hx hb dX1_isBetween_7 (by decide) (by omega) (by omega) (fun c_7 => ?_) (fun c_7 => ?_)
    · have hv : nI 0 = bI (lo_ ≤ ch_ ∧ ch_ ≤ hi_) := bI_0 (by omega)
      refine lv_iconst (v := nI 0) hx hb dX1_isBetween_14 (by decide) ?_
      exact cr_zret hx hb hr hlocks hK hP hD hS (by decide +kernel) dX1_isBetween_15 (by rw [hRR]; exact ctR_i (hv) (rfl))
    · have hv : nI 1 = bI (lo_ ≤ ch_ ∧ ch_ ≤ hi_) := bI_1 (by omega)
      refine lv_iconst (v := nI 1) hx hb dX1_isBetween_10 (by decide) ?_
      refine lv_goto (tgt := 15) hx hb dX1_isBetween_11 (by decide) ?_
      exact cr_zret hx hb hr hlocks hK hP hD hS (by decide +kernel) dX1_isBetween_15 (by rw [hRR]; exact ctR_i (hv) (rfl))
set_option maxHeartbeats 4000000 in
set_option maxRecDepth 100000 in
theorem c_X1_nextBehindLetter (G : GG) (l : Launch) (ch_ : Nat) (jc : ch_ < 2 ^ 30) : Cr G l yX1_nextBehindLetter wsX1_nextBehindLetter ({ frames := 0, cells := 0, slots := 0, locals := 0 }) 0 0 [.int (nI ch_)] [] (ctR (some (.int (stI (nxL ch_)))) []) := by
  refine cr_intro (cc := cX1_nextBehindLetter) (maxL := 1) (ret := (some .int)) (own := RX1) (by decide) rfl rfl (Nat.le_of_ble_eq_true rfl) ?_
  intro p e s m args below meth c A hx hb hr hml hts hown hlocks hnm hNX hP hK hD hA hS ls hl
  obtain ⟨RR, hRR⟩ : ∃ RR, RR = (ctR (some (.int (stI (nxL ch_)))) []) := ⟨_, rfl⟩
  rw [← hRR]
  have hl : lv_has ls 1 [(0, .int (nI ch_))] := hl
  refine lv_iload_n hx hb dX1_nextBehindLetter_0 rfl (lv_at hl 0 rfl) ?_
  rcases (show ch_ = 99 ∨ ch_ = 110 ∨ ch_ = 112 ∨ ch_ = 115 ∨ (ch_ ≠ 99 ∧ ch_ ≠ 110 ∧ ch_ ≠ 112 ∧ ch_ ≠ 115) by omega) with rfl | rfl | rfl | rfl | jn
  · refine lv_lookup (off := 47) (tgt := 48) hx hb dX1_nextBehindLetter_1 (by decide) (by decide +kernel) (by decide) ?_
    refine lv_bipush (v := nI 9) hx hb dX1_nextBehindLetter_48 (by decide) ?_
    exact cr_iret hx hb hr hlocks hK hP hD hS dX1_nextBehindLetter_50 (by rw [hRR]; exact ctR_i (rfl) (rfl))
  · refine lv_lookup (off := 50) (tgt := 51) hx hb dX1_nextBehindLetter_1 (by decide) (by decide +kernel) (by decide) ?_
    refine lv_bipush (v := nI 8) hx hb dX1_nextBehindLetter_51 (by decide) ?_
    exact cr_iret hx hb hr hlocks hK hP hD hS dX1_nextBehindLetter_53 (by rw [hRR]; exact ctR_i (rfl) (rfl))
  · refine lv_lookup (off := 43) (tgt := 44) hx hb dX1_nextBehindLetter_1 (by decide) (by decide +kernel) (by decide) ?_
    refine lv_iconst (v := nI 1) hx hb dX1_nextBehindLetter_44 (by decide) ?_
    exact cr_iret hx hb hr hlocks hK hP hD hS dX1_nextBehindLetter_45 (by rw [hRR]; exact ctR_i (rfl) (rfl))
  · refine lv_lookup (off := 45) (tgt := 46) hx hb dX1_nextBehindLetter_1 (by decide) (by decide +kernel) (by decide) ?_
    refine lv_iconst (v := nI 4) hx hb dX1_nextBehindLetter_46 (by decide) ?_
    exact cr_iret hx hb hr hlocks hK hP hD hS dX1_nextBehindLetter_47 (by rw [hRR]; exact ctR_i (rfl) (rfl))
  · refine lv_lookup (off := 53) (tgt := 54) hx hb dX1_nextBehindLetter_1 (by decide) (lsw4 (by omega) jn.1 jn.2.1 jn.2.2.1 jn.2.2.2) (by decide) ?_
    refine lv_iconst (v := (-1)) hx hb dX1_nextBehindLetter_54 (by decide) ?_
    exact cr_iret hx hb hr hlocks hK hP hD hS dX1_nextBehindLetter_55 (by rw [hRR]; exact ctR_i (by rw [show nxL ch_ = 10 by simp only [nxL]; (repeat' split) <;> omega]; rfl) (rfl))
set_option maxHeartbeats 4000000 in
set_option maxRecDepth 100000 in
theorem c_X1_nextBehindEnd (G : GG) (l : Launch) (ch_ : Nat) (jc : ch_ < 2 ^ 30) : Cr G l yX1_nextBehindEnd wsX1_nextBehindEnd ({ frames := 0, cells := 0, slots := 0, locals := 0 }) 0 0 [.int (nI ch_)] [] (ctR (some (.int (stI (nxE ch_)))) []) := by
  refine cr_intro (cc := cX1_nextBehindEnd) (maxL := 1) (ret := (some .int)) (own := RX1) (by decide) rfl rfl (Nat.le_of_ble_eq_true rfl) ?_
  intro p e s m args below meth c A hx hb hr hml hts hown hlocks hnm hNX hP hK hD hA hS ls hl
  obtain ⟨RR, hRR⟩ : ∃ RR, RR = (ctR (some (.int (stI (nxE ch_)))) []) := ⟨_, rfl⟩
  rw [← hRR]
  have hl : lv_has ls 1 [(0, .int (nI ch_))] := hl
  refine lv_iload_n hx hb dX1_nextBehindEnd_0 rfl (lv_at hl 0 rfl) ?_
  refine lv_bipush (v := nI 59) hx hb dX1_nextBehindEnd_1 (by decide) ?_
  refine ks_icmp_ne (tgt := 10) hx hb dX1_nextBehindEnd_3 (by decide) (by omega) (by omega) (fun c_3 => ?_) (fun c_3 => ?_)
  · have hv : (-1 : Int32) = stI (nxE ch_) := by rw [show nxE ch_ = 10 from if_neg c_3]; rfl
    refine lv_iconst (v := (-1)) hx hb dX1_nextBehindEnd_10 (by decide) ?_
    exact cr_iret hx hb hr hlocks hK hP hD hS dX1_nextBehindEnd_11 (by rw [hRR]; exact ctR_i (hv) (rfl))
  · have hv : nI 0 = stI (nxE ch_) := by rw [show nxE ch_ = 0 from if_pos c_3]; rfl
    refine lv_iconst (v := nI 0) hx hb dX1_nextBehindEnd_6 (by decide) ?_
    refine lv_goto (tgt := 11) hx hb dX1_nextBehindEnd_7 (by decide) ?_
    exact cr_iret hx hb hr hlocks hK hP hD hS dX1_nextBehindEnd_11 (by rw [hRR]; exact ctR_i (hv) (rfl))
set_option maxHeartbeats 4000000 in
set_option maxRecDepth 100000 in
theorem c_X1_nextBehindRows (G : GG) (l : Launch) (ch_ : Nat) (jc : ch_ < 2 ^ 30) : Cr G l yX1_nextBehindRows wsX1_nextBehindRows ({ frames := 1, cells := 0, slots := 0, locals := 22 }) 0 0 [.int (nI ch_)] [] (ctR (some (.int (stI (nxW ch_)))) []) := by
  refine cr_intro (cc := cX1_nextBehindRows) (maxL := 1) (ret := (some .int)) (own := RX1) (by decide) rfl rfl (Nat.le_of_ble_eq_true rfl) ?_
  intro p e s m args below meth c A hx hb hr hml hts hown hlocks hnm hNX hP hK hD hA hS ls hl
  obtain ⟨RR, hRR⟩ : ∃ RR, RR = (ctR (some (.int (stI (nxW ch_)))) []) := ⟨_, rfl⟩
  rw [← hRR]
  have hl : lv_has ls 1 [(0, .int (nI ch_))] := hl
  refine lv_iload_n hx hb dX1_nextBehindRows_0 rfl (lv_at hl 0 rfl) ?_
  refine lv_bipush (v := nI 49) hx hb dX1_nextBehindRows_1 (by decide) ?_
  refine lv_bipush (v := nI 51) hx hb dX1_nextBehindRows_3 (by decide) ?_
  refine cr_S (wr := []) (As := [.int (nI ch_), .int (nI 49), .int (nI 51)]) (rest := []) ⟨hx, hb, hml, hown, hts⟩ (c_X1_isBetween G l ch_ 49 51 (by omega) (by omega) (by omega)) (va_cwS 3 hts gX1_nextBehindRows_X1_isBetween rfl rfl rfl (by decide +kernel) ⟨Nat.le_of_ble_eq_true rfl, Nat.le_of_ble_eq_true rfl⟩) dX1_nextBehindRows_5 hK hNX hP hD hS hA hl [] [] rfl rfl rfl rfl (by decide) rfl (Nat.le_of_ble_eq_true rfl) ⟨Nat.le_of_ble_eq_true rfl, Nat.le_of_ble_eq_true rfl⟩ rfl (fun v' w' Hq lcq hR' hP hD hS => ?_)
  obtain ⟨rfl, rfl⟩ := hR'
  have hP : va_P G.1 vwCl [] _ := hP.sub [] rfl
  have hD : va_D A [] := hD.sub [] rfl rfl
  refine ks_ifb_eq (tgt := 13) hx hb dX1_nextBehindRows_8 (by decide) (fun c_8 => ?_) (fun c_8 => ?_)
  · refine lv_iload_n hx hb dX1_nextBehindRows_13 rfl (lv_at hl 0 rfl) ?_
    refine lv_bipush (v := nI 52) hx hb dX1_nextBehindRows_14 (by decide) ?_
    refine ks_icmp_ne (tgt := 21) hx hb dX1_nextBehindRows_16 (by decide) (by omega) (by omega) (fun c_16 => ?_) (fun c_16 => ?_)
    · refine lv_iload_n hx hb dX1_nextBehindRows_21 rfl (lv_at hl 0 rfl) ?_
      refine lv_bipush (v := nI 53) hx hb dX1_nextBehindRows_22 (by decide) ?_
      refine lv_bipush (v := nI 57) hx hb dX1_nextBehindRows_24 (by decide) ?_
      refine cr_S (wr := []) (As := [.int (nI ch_), .int (nI 53), .int (nI 57)]) (rest := []) ⟨hx, hb, hml, hown, hts⟩ (c_X1_isBetween G l ch_ 53 57 (by omega) (by omega) (by omega)) (va_cwS 3 hts gX1_nextBehindRows_X1_isBetween rfl rfl rfl (by decide +kernel) ⟨Nat.le_of_ble_eq_true rfl, Nat.le_of_ble_eq_true rfl⟩) dX1_nextBehindRows_26 hK hNX hP hD hS hA hl [] [] rfl rfl rfl rfl (by decide) rfl (Nat.le_of_ble_eq_true rfl) ⟨Nat.le_of_ble_eq_true rfl, Nat.le_of_ble_eq_true rfl⟩ rfl (fun v' w' Hq lcq hR' hP hD hS => ?_)
      obtain ⟨rfl, rfl⟩ := hR'
      have hP : va_P G.1 vwCl [] _ := hP.sub [] rfl
      have hD : va_D A [] := hD.sub [] rfl rfl
      refine ks_ifb_eq (tgt := 37) hx hb dX1_nextBehindRows_29 (by decide) (fun c_29 => ?_) (fun c_29 => ?_)
      · have hv : (-1 : Int32) = stI (nxW ch_) := by rw [show nxW ch_ = 10 by unfold nxW; rw [if_neg c_8, if_neg c_16, if_neg c_29]]; rfl
        refine lv_iconst (v := (-1)) hx hb dX1_nextBehindRows_37 (by decide) ?_
        exact cr_iret hx hb hr hlocks hK hP hD hS dX1_nextBehindRows_38 (by rw [hRR]; exact ctR_i (hv) (rfl))
      · have hv : nI 9 = stI (nxW ch_) := by rw [show nxW ch_ = 9 by unfold nxW; rw [if_neg c_8, if_neg c_16, if_pos c_29]]; rfl
        refine lv_bipush (v := nI 9) hx hb dX1_nextBehindRows_32 (by decide) ?_
        refine lv_goto (tgt := 38) hx hb dX1_nextBehindRows_34 (by decide) ?_
        exact cr_iret hx hb hr hlocks hK hP hD hS dX1_nextBehindRows_38 (by rw [hRR]; exact ctR_i (hv) (rfl))
    · refine lv_iconst (v := nI 3) hx hb dX1_nextBehindRows_19 (by decide) ?_
      exact cr_iret hx hb hr hlocks hK hP hD hS dX1_nextBehindRows_20 (by rw [hRR]; exact ctR_i (by rw [show nxW ch_ = 3 by unfold nxW; rw [if_neg c_8, if_pos c_16]]; rfl) (rfl))
  · refine lv_iconst (v := nI 2) hx hb dX1_nextBehindRows_11 (by decide) ?_
    exact cr_iret hx hb hr hlocks hK hP hD hS dX1_nextBehindRows_12 (by rw [hRR]; exact ctR_i (by rw [show nxW ch_ = 2 by unfold nxW; simp only [c_8, and_self, if_true]]; rfl) (rfl))
set_option maxHeartbeats 4000000 in
set_option maxRecDepth 100000 in
theorem c_X1_nextBehind (G : GG) (l : Launch) (q_ : Nat) (ch_ : Nat) (jq : q_ ≤ 10) (jc : ch_ < 2 ^ 30) : Cr G l yX1_nextBehind wsX1_nextBehind ({ frames := 2, cells := 0, slots := 0, locals := 42 }) 0 0 [.int (stI q_), .int (nI ch_)] [] (ctR (some (.int (stI (nxt q_ ch_)))) []) := by
  refine cr_intro (cc := cX1_nextBehind) (maxL := 2) (ret := (some .int)) (own := RX1) (by decide) rfl rfl (Nat.le_of_ble_eq_true rfl) ?_
  intro p e s m args below meth c A hx hb hr hml hts hown hlocks hnm hNX hP hK hD hA hS ls hl
  obtain ⟨RR, hRR⟩ : ∃ RR, RR = (ctR (some (.int (stI (nxt q_ ch_)))) []) := ⟨_, rfl⟩
  rw [← hRR]
  have hl : lv_has ls 2 [(0, .int (stI q_)), (1, .int (nI ch_))] := hl
  refine lv_iload_n hx hb dX1_nextBehind_0 rfl (lv_at hl 0 rfl) ?_
  rcases (show q_ = 0 ∨ q_ = 1 ∨ q_ = 2 ∨ q_ = 3 ∨ q_ = 4 ∨ q_ = 5 ∨ q_ = 6 ∨ q_ = 7 ∨ q_ = 8 ∨ q_ = 9 ∨ q_ = 10 by omega) with rfl | rfl | rfl | rfl | rfl | rfl | rfl | rfl | rfl | rfl | rfl
  · refine ks_vI (show stI 0 = nI 0 from rfl) ?_
    refine lv_tableIn (off := 55) (tgt := 56) hx hb dX1_nextBehind_1 (by decide) (by decide) (by decide +kernel) (by decide) ?_
    refine lv_iload_n hx hb dX1_nextBehind_56 rfl (lv_at hl 1 rfl) ?_
    refine cr_S (wr := []) (As := [.int (nI ch_)]) (rest := []) ⟨hx, hb, hml, hown, hts⟩ (c_X1_nextBehindLetter G l ch_ (by omega)) (va_cwS 1 hts gX1_nextBehind_X1_nextBehindLetter rfl rfl rfl (by decide +kernel) ⟨Nat.le_of_ble_eq_true rfl, Nat.le_of_ble_eq_true rfl⟩) dX1_nextBehind_57 hK hNX hP hD hS hA hl [] [] rfl rfl rfl rfl (by decide) rfl (Nat.le_of_ble_eq_true rfl) ⟨Nat.le_of_ble_eq_true rfl, Nat.le_of_ble_eq_true rfl⟩ rfl (fun v' w' Hq lcq hR' hP hD hS => ?_)
    obtain ⟨rfl, rfl⟩ := hR'
    have hP : va_P G.1 vwCl [] _ := hP.sub [] rfl
    have hD : va_D A [] := hD.sub [] rfl rfl
    exact cr_iret hx hb hr hlocks hK hP hD hS dX1_nextBehind_60 (by rw [hRR]; exact ctR_i (rfl) (rfl))
  · refine ks_vI (show stI 1 = nI 1 from rfl) ?_
    refine lv_tableIn (off := 60) (tgt := 61) hx hb dX1_nextBehind_1 (by decide) (by decide) (by decide +kernel) (by decide) ?_
    refine lv_iload_n hx hb dX1_nextBehind_61 rfl (lv_at hl 1 rfl) ?_
    refine cr_S (wr := []) (As := [.int (nI ch_)]) (rest := []) ⟨hx, hb, hml, hown, hts⟩ (c_X1_nextBehindRows G l ch_ (by omega)) (va_cwS 1 hts gX1_nextBehind_X1_nextBehindRows rfl rfl rfl (by decide +kernel) ⟨Nat.le_of_ble_eq_true rfl, Nat.le_of_ble_eq_true rfl⟩) dX1_nextBehind_62 hK hNX hP hD hS hA hl [] [] rfl rfl rfl rfl (by decide) rfl (Nat.le_of_ble_eq_true rfl) ⟨Nat.le_of_ble_eq_true rfl, Nat.le_of_ble_eq_true rfl⟩ rfl (fun v' w' Hq lcq hR' hP hD hS => ?_)
    obtain ⟨rfl, rfl⟩ := hR'
    have hP : va_P G.1 vwCl [] _ := hP.sub [] rfl
    have hD : va_D A [] := hD.sub [] rfl rfl
    exact cr_iret hx hb hr hlocks hK hP hD hS dX1_nextBehind_65 (by rw [hRR]; exact ctR_i (rfl) (rfl))
  · refine ks_vI (show stI 2 = nI 2 from rfl) ?_
    refine lv_tableIn (off := 65) (tgt := 66) hx hb dX1_nextBehind_1 (by decide) (by decide) (by decide +kernel) (by decide) ?_
    refine lv_iload_n hx hb dX1_nextBehind_66 rfl (lv_at hl 1 rfl) ?_
    refine lv_bipush (v := nI 48) hx hb dX1_nextBehind_67 (by decide) ?_
    refine lv_bipush (v := nI 57) hx hb dX1_nextBehind_69 (by decide) ?_
    refine cr_S (wr := []) (As := [.int (nI ch_), .int (nI 48), .int (nI 57)]) (rest := []) ⟨hx, hb, hml, hown, hts⟩ (c_X1_isBetween G l ch_ 48 57 (by omega) (by omega) (by omega)) (va_cwS 3 hts gX1_nextBehind_X1_isBetween rfl rfl rfl (by decide +kernel) ⟨Nat.le_of_ble_eq_true rfl, Nat.le_of_ble_eq_true rfl⟩) dX1_nextBehind_71 hK hNX hP hD hS hA hl [] [] rfl rfl rfl rfl (by decide) rfl (Nat.le_of_ble_eq_true rfl) ⟨Nat.le_of_ble_eq_true rfl, Nat.le_of_ble_eq_true rfl⟩ rfl (fun v' w' Hq lcq hR' hP hD hS => ?_)
    obtain ⟨rfl, rfl⟩ := hR'
    have hP : va_P G.1 vwCl [] _ := hP.sub [] rfl
    have hD : va_D A [] := hD.sub [] rfl rfl
    refine ks_ifb_eq (tgt := 82) hx hb dX1_nextBehind_74 (by decide) (fun c_74 => ?_) (fun c_74 => ?_)
    · have hv : stI (nxE ch_) = stI (nxt 2 ch_) := congrArg stI (if_neg c_74).symm
      refine lv_iload_n hx hb dX1_nextBehind_82 rfl (lv_at hl 1 rfl) ?_
      refine cr_S (wr := []) (As := [.int (nI ch_)]) (rest := []) ⟨hx, hb, hml, hown, hts⟩ (c_X1_nextBehindEnd G l ch_ (by omega)) (va_cwS 1 hts gX1_nextBehind_X1_nextBehindEnd rfl rfl rfl (by decide +kernel) ⟨Nat.le_of_ble_eq_true rfl, Nat.le_of_ble_eq_true rfl⟩) dX1_nextBehind_83 hK hNX hP hD hS hA hl [] [] rfl rfl rfl rfl (by decide) rfl (Nat.le_of_ble_eq_true rfl) ⟨Nat.le_of_ble_eq_true rfl, Nat.le_of_ble_eq_true rfl⟩ rfl (fun v' w' Hq lcq hR' hP hD hS => ?_)
      obtain ⟨rfl, rfl⟩ := hR'
      have hP : va_P G.1 vwCl [] _ := hP.sub [] rfl
      have hD : va_D A [] := hD.sub [] rfl rfl
      exact cr_iret hx hb hr hlocks hK hP hD hS dX1_nextBehind_86 (by rw [hRR]; exact ctR_i (hv) (rfl))
    · have hv : nI 9 = stI (nxt 2 ch_) := by rw [show nxt 2 ch_ = 9 from if_pos c_74]; rfl
      refine lv_bipush (v := nI 9) hx hb dX1_nextBehind_77 (by decide) ?_
      refine lv_goto (tgt := 86) hx hb dX1_nextBehind_79 (by decide) ?_
      exact cr_iret hx hb hr hlocks hK hP hD hS dX1_nextBehind_86 (by rw [hRR]; exact ctR_i (hv) (rfl))
  · refine ks_vI (show stI 3 = nI 3 from rfl) ?_
    refine lv_tableIn (off := 86) (tgt := 87) hx hb dX1_nextBehind_1 (by decide) (by decide) (by decide +kernel) (by decide) ?_
    refine lv_iload_n hx hb dX1_nextBehind_87 rfl (lv_at hl 1 rfl) ?_
    refine lv_bipush (v := nI 48) hx hb dX1_nextBehind_88 (by decide) ?_
    refine ks_icmp_ne (tgt := 98) hx hb dX1_nextBehind_90 (by decide) (by omega) (by omega) (fun c_90 => ?_) (fun c_90 => ?_)
    · have hv : stI (nxE ch_) = stI (nxt 3 ch_) := congrArg stI (if_neg c_90).symm
      refine lv_iload_n hx hb dX1_nextBehind_98 rfl (lv_at hl 1 rfl) ?_
      refine cr_S (wr := []) (As := [.int (nI ch_)]) (rest := []) ⟨hx, hb, hml, hown, hts⟩ (c_X1_nextBehindEnd G l ch_ (by omega)) (va_cwS 1 hts gX1_nextBehind_X1_nextBehindEnd rfl rfl rfl (by decide +kernel) ⟨Nat.le_of_ble_eq_true rfl, Nat.le_of_ble_eq_true rfl⟩) dX1_nextBehind_99 hK hNX hP hD hS hA hl [] [] rfl rfl rfl rfl (by decide) rfl (Nat.le_of_ble_eq_true rfl) ⟨Nat.le_of_ble_eq_true rfl, Nat.le_of_ble_eq_true rfl⟩ rfl (fun v' w' Hq lcq hR' hP hD hS => ?_)
      obtain ⟨rfl, rfl⟩ := hR'
      have hP : va_P G.1 vwCl [] _ := hP.sub [] rfl
      have hD : va_D A [] := hD.sub [] rfl rfl
      exact cr_iret hx hb hr hlocks hK hP hD hS dX1_nextBehind_102 (by rw [hRR]; exact ctR_i (hv) (rfl))
    · have hv : nI 9 = stI (nxt 3 ch_) := by rw [show nxt 3 ch_ = 9 from if_pos c_90]; rfl
      refine lv_bipush (v := nI 9) hx hb dX1_nextBehind_93 (by decide) ?_
      refine lv_goto (tgt := 102) hx hb dX1_nextBehind_95 (by decide) ?_
      exact cr_iret hx hb hr hlocks hK hP hD hS dX1_nextBehind_102 (by rw [hRR]; exact ctR_i (hv) (rfl))
  · refine ks_vI (show stI 4 = nI 4 from rfl) ?_
    refine lv_tableIn (off := 102) (tgt := 103) hx hb dX1_nextBehind_1 (by decide) (by decide) (by decide +kernel) (by decide) ?_
    refine lv_iload_n hx hb dX1_nextBehind_103 rfl (lv_at hl 1 rfl) ?_
    refine lv_bipush (v := nI 48) hx hb dX1_nextBehind_104 (by decide) ?_
    refine lv_bipush (v := nI 53) hx hb dX1_nextBehind_106 (by decide) ?_
    refine cr_S (wr := []) (As := [.int (nI ch_), .int (nI 48), .int (nI 53)]) (rest := []) ⟨hx, hb, hml, hown, hts⟩ (c_X1_isBetween G l ch_ 48 53 (by omega) (by omega) (by omega)) (va_cwS 3 hts gX1_nextBehind_X1_isBetween rfl rfl rfl (by decide +kernel) ⟨Nat.le_of_ble_eq_true rfl, Nat.le_of_ble_eq_true rfl⟩) dX1_nextBehind_108 hK hNX hP hD hS hA hl [] [] rfl rfl rfl rfl (by decide) rfl (Nat.le_of_ble_eq_true rfl) ⟨Nat.le_of_ble_eq_true rfl, Nat.le_of_ble_eq_true rfl⟩ rfl (fun v' w' Hq lcq hR' hP hD hS => ?_)
    obtain ⟨rfl, rfl⟩ := hR'
    have hP : va_P G.1 vwCl [] _ := hP.sub [] rfl
    have hD : va_D A [] := hD.sub [] rfl rfl
    refine ks_ifb_eq (tgt := 118) hx hb dX1_nextBehind_111 (by decide) (fun c_111 => ?_) (fun c_111 => ?_)
    · have hv : (-1 : Int32) = stI (nxt 4 ch_) := by rw [show nxt 4 ch_ = 10 from if_neg c_111]; rfl
      refine lv_iconst (v := (-1)) hx hb dX1_nextBehind_118 (by decide) ?_
      exact cr_iret hx hb hr hlocks hK hP hD hS dX1_nextBehind_119 (by rw [hRR]; exact ctR_i (hv) (rfl))
    · have hv : nI 5 = stI (nxt 4 ch_) := by rw [show nxt 4 ch_ = 5 from if_pos c_111]; rfl
      refine lv_iconst (v := nI 5) hx hb dX1_nextBehind_114 (by decide) ?_
      refine lv_goto (tgt := 119) hx hb dX1_nextBehind_115 (by decide) ?_
      exact cr_iret hx hb hr hlocks hK hP hD hS dX1_nextBehind_119 (by rw [hRR]; exact ctR_i (hv) (rfl))
  · refine ks_vI (show stI 5 = nI 5 from rfl) ?_
    refine lv_tableIn (off := 119) (tgt := 120) hx hb dX1_nextBehind_1 (by decide) (by decide) (by decide +kernel) (by decide) ?_
    refine lv_iload_n hx hb dX1_nextBehind_120 rfl (lv_at hl 1 rfl) ?_
    refine lv_bipush (v := nI 48) hx hb dX1_nextBehind_121 (by decide) ?_
    refine lv_bipush (v := nI 57) hx hb dX1_nextBehind_123 (by decide) ?_
    refine cr_S (wr := []) (As := [.int (nI ch_), .int (nI 48), .int (nI 57)]) (rest := []) ⟨hx, hb, hml, hown, hts⟩ (c_X1_isBetween G l ch_ 48 57 (by omega) (by omega) (by omega)) (va_cwS 3 hts gX1_nextBehind_X1_isBetween rfl rfl rfl (by decide +kernel) ⟨Nat.le_of_ble_eq_true rfl, Nat.le_of_ble_eq_true rfl⟩) dX1_nextBehind_125 hK hNX hP hD hS hA hl [] [] rfl rfl rfl rfl (by decide) rfl (Nat.le_of_ble_eq_true rfl) ⟨Nat.le_of_ble_eq_true rfl, Nat.le_of_ble_eq_true rfl⟩ rfl (fun v' w' Hq lcq hR' hP hD hS => ?_)
    obtain ⟨rfl, rfl⟩ := hR'
    have hP : va_P G.1 vwCl [] _ := hP.sub [] rfl
    have hD : va_D A [] := hD.sub [] rfl rfl
    refine ks_ifb_eq (tgt := 136) hx hb dX1_nextBehind_128 (by decide) (fun c_128 => ?_) (fun c_128 => ?_)
    · have hv : (-1 : Int32) = stI (nxt 5 ch_) := by rw [show nxt 5 ch_ = 10 from if_neg c_128]; rfl
      refine lv_iconst (v := (-1)) hx hb dX1_nextBehind_136 (by decide) ?_
      exact cr_iret hx hb hr hlocks hK hP hD hS dX1_nextBehind_137 (by rw [hRR]; exact ctR_i (hv) (rfl))
    · have hv : nI 6 = stI (nxt 5 ch_) := by rw [show nxt 5 ch_ = 6 from if_pos c_128]; rfl
      refine lv_bipush (v := nI 6) hx hb dX1_nextBehind_131 (by decide) ?_
      refine lv_goto (tgt := 137) hx hb dX1_nextBehind_133 (by decide) ?_
      exact cr_iret hx hb hr hlocks hK hP hD hS dX1_nextBehind_137 (by rw [hRR]; exact ctR_i (hv) (rfl))
  · refine ks_vI (show stI 6 = nI 6 from rfl) ?_
    refine lv_tableIn (off := 137) (tgt := 138) hx hb dX1_nextBehind_1 (by decide) (by decide) (by decide +kernel) (by decide) ?_
    refine lv_iload_n hx hb dX1_nextBehind_138 rfl (lv_at hl 1 rfl) ?_
    refine lv_bipush (v := nI 43) hx hb dX1_nextBehind_139 (by decide) ?_
    refine ks_icmp_eq (tgt := 150) hx hb dX1_nextBehind_141 (by decide) (by omega) (by omega) (fun c_141 => ?_) (fun c_141 => ?_)
    · have hv : nI 7 = stI (nxt 6 ch_) := by rw [show nxt 6 ch_ = 7 from if_pos (Or.inl c_141)]; rfl
      refine lv_bipush (v := nI 7) hx hb dX1_nextBehind_150 (by decide) ?_
      refine lv_goto (tgt := 156) hx hb dX1_nextBehind_152 (by decide) ?_
      exact cr_iret hx hb hr hlocks hK hP hD hS dX1_nextBehind_156 (by rw [hRR]; exact ctR_i (hv) (rfl))
    · refine lv_iload_n hx hb dX1_nextBehind_144 rfl (lv_at hl 1 rfl) ?_
      refine lv_bipush (v := nI 45) hx hb dX1_nextBehind_145 (by decide) ?_
      refine ks_icmp_ne (tgt := 155) hx hb dX1_nextBehind_147 (by decide) (by omega) (by omega) (fun c_147 => ?_) (fun c_147 => ?_)
      · have hv : (-1 : Int32) = stI (nxt 6 ch_) := by rw [show nxt 6 ch_ = 10 from if_neg (fun z => z.elim c_141 c_147)]; rfl
        refine lv_iconst (v := (-1)) hx hb dX1_nextBehind_155 (by decide) ?_
        exact cr_iret hx hb hr hlocks hK hP hD hS dX1_nextBehind_156 (by rw [hRR]; exact ctR_i (hv) (rfl))
      · have hv : nI 7 = stI (nxt 6 ch_) := by rw [show nxt 6 ch_ = 7 from if_pos (Or.inr c_147)]; rfl
        refine lv_bipush (v := nI 7) hx hb dX1_nextBehind_150 (by decide) ?_
        refine lv_goto (tgt := 156) hx hb dX1_nextBehind_152 (by decide) ?_
        exact cr_iret hx hb hr hlocks hK hP hD hS dX1_nextBehind_156 (by rw [hRR]; exact ctR_i (hv) (rfl))
  · refine ks_vI (show stI 7 = nI 7 from rfl) ?_
    refine lv_tableIn (off := 156) (tgt := 157) hx hb dX1_nextBehind_1 (by decide) (by decide) (by decide +kernel) (by decide) ?_
    refine lv_iload_n hx hb dX1_nextBehind_157 rfl (lv_at hl 1 rfl) ?_
    refine lv_bipush (v := nI 49) hx hb dX1_nextBehind_158 (by decide) ?_
    refine lv_bipush (v := nI 57) hx hb dX1_nextBehind_160 (by decide) ?_
    refine cr_S (wr := []) (As := [.int (nI ch_), .int (nI 49), .int (nI 57)]) (rest := []) ⟨hx, hb, hml, hown, hts⟩ (c_X1_isBetween G l ch_ 49 57 (by omega) (by omega) (by omega)) (va_cwS 3 hts gX1_nextBehind_X1_isBetween rfl rfl rfl (by decide +kernel) ⟨Nat.le_of_ble_eq_true rfl, Nat.le_of_ble_eq_true rfl⟩) dX1_nextBehind_162 hK hNX hP hD hS hA hl [] [] rfl rfl rfl rfl (by decide) rfl (Nat.le_of_ble_eq_true rfl) ⟨Nat.le_of_ble_eq_true rfl, Nat.le_of_ble_eq_true rfl⟩ rfl (fun v' w' Hq lcq hR' hP hD hS => ?_)
    obtain ⟨rfl, rfl⟩ := hR'
    have hP : va_P G.1 vwCl [] _ := hP.sub [] rfl
    have hD : va_D A [] := hD.sub [] rfl rfl
    refine ks_ifb_eq (tgt := 173) hx hb dX1_nextBehind_165 (by decide) (fun c_165 => ?_) (fun c_165 => ?_)
    · have hv : (-1 : Int32) = stI (nxt 7 ch_) := by rw [show nxt 7 ch_ = 10 from if_neg c_165]; rfl
      refine lv_iconst (v := (-1)) hx hb dX1_nextBehind_173 (by decide) ?_
      exact cr_iret hx hb hr hlocks hK hP hD hS dX1_nextBehind_174 (by rw [hRR]; exact ctR_i (hv) (rfl))
    · have hv : nI 9 = stI (nxt 7 ch_) := by rw [show nxt 7 ch_ = 9 from if_pos c_165]; rfl
      refine lv_bipush (v := nI 9) hx hb dX1_nextBehind_168 (by decide) ?_
      refine lv_goto (tgt := 174) hx hb dX1_nextBehind_170 (by decide) ?_
      exact cr_iret hx hb hr hlocks hK hP hD hS dX1_nextBehind_174 (by rw [hRR]; exact ctR_i (hv) (rfl))
  · refine ks_vI (show stI 8 = nI 8 from rfl) ?_
    refine lv_tableIn (off := 174) (tgt := 175) hx hb dX1_nextBehind_1 (by decide) (by decide) (by decide +kernel) (by decide) ?_
    refine lv_iload_n hx hb dX1_nextBehind_175 rfl (lv_at hl 1 rfl) ?_
    refine lv_bipush (v := nI 48) hx hb dX1_nextBehind_176 (by decide) ?_
    refine lv_bipush (v := nI 57) hx hb dX1_nextBehind_178 (by decide) ?_
    refine cr_S (wr := []) (As := [.int (nI ch_), .int (nI 48), .int (nI 57)]) (rest := []) ⟨hx, hb, hml, hown, hts⟩ (c_X1_isBetween G l ch_ 48 57 (by omega) (by omega) (by omega)) (va_cwS 3 hts gX1_nextBehind_X1_isBetween rfl rfl rfl (by decide +kernel) ⟨Nat.le_of_ble_eq_true rfl, Nat.le_of_ble_eq_true rfl⟩) dX1_nextBehind_180 hK hNX hP hD hS hA hl [] [] rfl rfl rfl rfl (by decide) rfl (Nat.le_of_ble_eq_true rfl) ⟨Nat.le_of_ble_eq_true rfl, Nat.le_of_ble_eq_true rfl⟩ rfl (fun v' w' Hq lcq hR' hP hD hS => ?_)
    obtain ⟨rfl, rfl⟩ := hR'
    have hP : va_P G.1 vwCl [] _ := hP.sub [] rfl
    have hD : va_D A [] := hD.sub [] rfl rfl
    refine ks_ifb_eq (tgt := 191) hx hb dX1_nextBehind_183 (by decide) (fun c_183 => ?_) (fun c_183 => ?_)
    · have hv : (-1 : Int32) = stI (nxt 8 ch_) := by rw [show nxt 8 ch_ = 10 from if_neg c_183]; rfl
      refine lv_iconst (v := (-1)) hx hb dX1_nextBehind_191 (by decide) ?_
      exact cr_iret hx hb hr hlocks hK hP hD hS dX1_nextBehind_192 (by rw [hRR]; exact ctR_i (hv) (rfl))
    · have hv : nI 9 = stI (nxt 8 ch_) := by rw [show nxt 8 ch_ = 9 from if_pos c_183]; rfl
      refine lv_bipush (v := nI 9) hx hb dX1_nextBehind_186 (by decide) ?_
      refine lv_goto (tgt := 192) hx hb dX1_nextBehind_188 (by decide) ?_
      exact cr_iret hx hb hr hlocks hK hP hD hS dX1_nextBehind_192 (by rw [hRR]; exact ctR_i (hv) (rfl))
  · refine ks_vI (show stI 9 = nI 9 from rfl) ?_
    refine lv_tableIn (off := 192) (tgt := 193) hx hb dX1_nextBehind_1 (by decide) (by decide) (by decide +kernel) (by decide) ?_
    refine lv_iload_n hx hb dX1_nextBehind_193 rfl (lv_at hl 1 rfl) ?_
    refine cr_S (wr := []) (As := [.int (nI ch_)]) (rest := []) ⟨hx, hb, hml, hown, hts⟩ (c_X1_nextBehindEnd G l ch_ (by omega)) (va_cwS 1 hts gX1_nextBehind_X1_nextBehindEnd rfl rfl rfl (by decide +kernel) ⟨Nat.le_of_ble_eq_true rfl, Nat.le_of_ble_eq_true rfl⟩) dX1_nextBehind_194 hK hNX hP hD hS hA hl [] [] rfl rfl rfl rfl (by decide) rfl (Nat.le_of_ble_eq_true rfl) ⟨Nat.le_of_ble_eq_true rfl, Nat.le_of_ble_eq_true rfl⟩ rfl (fun v' w' Hq lcq hR' hP hD hS => ?_)
    obtain ⟨rfl, rfl⟩ := hR'
    have hP : va_P G.1 vwCl [] _ := hP.sub [] rfl
    have hD : va_D A [] := hD.sub [] rfl rfl
    exact cr_iret hx hb hr hlocks hK hP hD hS dX1_nextBehind_197 (by rw [hRR]; exact ctR_i (rfl) (rfl))
  · refine lv_tableOut (tgt := 198) hx hb dX1_nextBehind_1 (by decide +kernel) (by decide) ?_
    refine lv_iconst (v := (-1)) hx hb dX1_nextBehind_198 (by decide) ?_
    exact cr_iret hx hb hr hlocks hK hP hD hS dX1_nextBehind_199 (by rw [hRR]; exact ctR_i (rfl) (rfl))
set_option maxHeartbeats 4000000 in
set_option maxRecDepth 100000 in
theorem c_X1_isFull (G : GG) (l : Launch) (h0 : Nat) (h1 : Nat) (cs : Nat → Nat) (n_ : Nat) (jn : n_ ≤ 60) : Cr G l yX1_isFull wsX1_isFull ({ frames := 0, cells := 0, slots := 0, locals := 0 }) 0 0 [.ref h0] [(h0, .inr (1, [.ref h1, .int (nI n_)])), (h1, .inl (G.2.1, 60, .inl (fun q9 => nI (cs q9))))] (ctR (some (.int (bI (60 ≤ n_)))) [(h0, .inr (1, [.ref h1, .int (nI n_)])), (h1, .inl (G.2.1, 60, .inl (fun q9 => nI (cs q9))))]) := by
  refine cr_intro (cc := cX1_isFull) (maxL := 1) (ret := (some .boolean)) (own := RX1) (by decide) rfl rfl (Nat.le_of_ble_eq_true rfl) ?_
  intro p e s m args below meth c A hx hb hr hml hts hown hlocks hnm hNX hP hK hD hA hS ls hl
  obtain ⟨RR, hRR⟩ : ∃ RR, RR = (ctR (some (.int (bI (60 ≤ n_)))) [(h0, .inr (1, [.ref h1, .int (nI n_)])), (h1, .inl (G.2.1, 60, .inl (fun q9 => nI (cs q9))))]) := ⟨_, rfl⟩
  rw [← hRR]
  have hl : lv_has ls 1 [(0, .ref h0)] := hl
  have hin1 : ∀ w ∈ u_ws RX1 TX1 2, w ∈ wsX1_isFull := fun w h => List.mem_cons_of_mem _ (List.mem_append_right _ h)
  refine lv_aload_n hx hb dX1_isFull_0 rfl (lv_at hl 0 rfl) ?_
  refine va_get (D := G.1) (ci := 1) (v := .int (nI n_)) (C := RX1) (T := TX1) (N := 2) hx hb hts hin1 hown hK hP 0 rfl rfl 1 (by decide) (hts (.fieldLink RX1 13 "PowerTables$OrderText" "length" "I") (List.mem_of_getElem? (i := 1) rfl)) (fun _ h9 => h9) rfl dX1_isFull_1 ?_
  refine lv_bipush (v := nI 60) hx hb dX1_isFull_4 (by decide) ?_
  refine ks_icmp_lt (tgt := 13) hx hb dX1_isFull_6 (by decide) (by omega) (by omega) (fun c_6 => ?_) (fun c_6 => ?_)
  · have hv : nI 0 = bI (60 ≤ n_) := bI_0 (by omega)
    refine lv_iconst (v := nI 0) hx hb dX1_isFull_13 (by decide) ?_
    exact cr_zret hx hb hr hlocks hK hP hD hS (by decide +kernel) dX1_isFull_14 (by rw [hRR]; exact ctR_i (hv) (rfl))
  · have hv : nI 1 = bI (60 ≤ n_) := bI_1 (by omega)
    refine lv_iconst (v := nI 1) hx hb dX1_isFull_9 (by decide) ?_
    refine lv_goto (tgt := 14) hx hb dX1_isFull_10 (by decide) ?_
    exact cr_zret hx hb hr hlocks hK hP hD hS (by decide +kernel) dX1_isFull_14 (by rw [hRR]; exact ctR_i (hv) (rfl))
set_option maxHeartbeats 4000000 in
set_option maxRecDepth 100000 in
theorem c_X1_add (G : GG) (l : Launch) (h0 : Nat) (h1 : Nat) (cs : Nat → Nat) (n_ : Nat) (ch_ : Nat) (jn : n_ < 60) : Cr G l yX1_add wsX1_add ({ frames := 0, cells := 0, slots := 0, locals := 0 }) 0 0 [.ref h0, .int (nI ch_)] [(h0, .inr (1, [.ref h1, .int (nI n_)])), (h1, .inl (G.2.1, 60, .inl (fun q9 => nI (cs q9))))] (ctR none [(h0, .inr (1, [.ref h1, .int (nI (n_ + 1))])), (h1, .inl (G.2.1, 60, .inl (fun q9 => nI ((upN cs n_ ch_) q9))))]) := by
  refine cr_intro (cc := cX1_add) (maxL := 2) (ret := none) (own := RX1) (by decide) rfl rfl (Nat.le_of_ble_eq_true rfl) ?_
  intro p e s m args below meth c A hx hb hr hml hts hown hlocks hnm hNX hP hK hD hA hS ls hl
  obtain ⟨RR, hRR⟩ : ∃ RR, RR = (ctR none [(h0, .inr (1, [.ref h1, .int (nI (n_ + 1))])), (h1, .inl (G.2.1, 60, .inl (fun q9 => nI ((upN cs n_ ch_) q9))))]) := ⟨_, rfl⟩
  rw [← hRR]
  have hl : lv_has ls 2 [(0, .ref h0), (1, .int (nI ch_))] := hl
  have hin1 : ∀ w ∈ u_ws RX1 TX1 2, w ∈ wsX1_add := fun w h => List.mem_cons_of_mem _ (List.mem_append_right _ h)
  refine lv_aload_n hx hb dX1_add_0 rfl (lv_at hl 0 rfl) ?_
  refine va_get (D := G.1) (ci := 1) (v := .int (nI n_)) (C := RX1) (T := TX1) (N := 2) hx hb hts hin1 hown hK hP 0 rfl rfl 1 (by decide) (hts (.fieldLink RX1 13 "PowerTables$OrderText" "length" "I") (List.mem_of_getElem? (i := 1) rfl)) (fun _ h9 => h9) rfl dX1_add_1 ?_
  refine lv_bipush (v := nI 60) hx hb dX1_add_4 (by decide) ?_
  refine ks_icmp_ge (tgt := 29) hx hb dX1_add_6 (by decide) (by omega) (by omega) (fun c_6 => ?_) (fun c_6 => ?_)
  · omega
  · refine lv_aload_n hx hb dX1_add_9 rfl (lv_at hl 0 rfl) ?_
    refine va_get (D := G.1) (ci := 1) (v := .ref h1) (C := RX1) (T := TX1) (N := 2) hx hb hts hin1 hown hK hP 0 rfl rfl 0 (by decide) (hts (.fieldLink RX1 9 "PowerTables$OrderText" "codes" "[I") (List.mem_of_getElem? (i := 2) rfl)) (fun _ h9 => h9) rfl dX1_add_10 ?_
    refine lv_aload_n hx hb dX1_add_13 rfl (lv_at hl 0 rfl) ?_
    refine va_get (D := G.1) (ci := 1) (v := .int (nI n_)) (C := RX1) (T := TX1) (N := 2) hx hb hts hin1 hown hK hP 0 rfl rfl 1 (by decide) (hts (.fieldLink RX1 13 "PowerTables$OrderText" "length" "I") (List.mem_of_getElem? (i := 1) rfl)) (fun _ h9 => h9) rfl dX1_add_14 ?_
    refine lv_iload_n hx hb dX1_add_17 rfl (lv_at hl 1 rfl) ?_
    refine ks_iast (f' := fun q9 => nI ((upN cs n_ ch_) q9)) hx hb hK hP hD hS 1 rfl (by omega) (by decide) (upN_upd _ _ _) dX1_add_18 (fun Hq lcq hP hD hS => ?_)
    have hP : va_P G.1 vwCl [(h0, .inr (1, [.ref h1, .int (nI n_)])), (h1, .inl (G.2.1, 60, .inl (fun q9 => nI ((upN cs n_ ch_) q9))))] _ := hP
    have hD : va_D A [(h0, .inr (1, [.ref h1, .int (nI n_)])), (h1, .inl (G.2.1, 60, .inl (fun q9 => nI ((upN cs n_ ch_) q9))))] := hD
    refine lv_aload_n hx hb dX1_add_19 rfl (lv_at hl 0 rfl) ?_
    refine lv_dup hx hb dX1_add_20 rfl ?_
    refine va_get (D := G.1) (ci := 1) (v := .int (nI n_)) (C := RX1) (T := TX1) (N := 2) hx hb hts hin1 hown hK hP 0 rfl rfl 1 (by decide) (hts (.fieldLink RX1 13 "PowerTables$OrderText" "length" "I") (List.mem_of_getElem? (i := 1) rfl)) (fun _ h9 => h9) rfl dX1_add_21 ?_
    refine lv_iconst (v := nI 1) hx hb dX1_add_24 (by decide) ?_
    refine ks_iaddN hx hb dX1_add_25 ?_
    refine va_put (D := G.1) (ci := 1) (v := .int (nI (n_ + 1))) (ty := .int) (C := RX1) (T := TX1) (N := 2) hx hb hts hin1 tyX1 tyX1_ok nmX1 hown hK hP hD hS 0 rfl rfl 1 (by decide) (hts (.fieldLink RX1 13 "PowerTables$OrderText" "length" "I") (List.mem_of_getElem? (i := 1) rfl)) (fun _ h9 => h9) rfl (tyX1_ok 1 (by decide)) rfl rfl (Nat.le_of_ble_eq_true rfl) dX1_add_26 (fun Hq lcq hP hD hS => ?_)
    have hP : va_P G.1 vwCl [(h0, .inr (1, [.ref h1, .int (nI (n_ + 1))])), (h1, .inl (G.2.1, 60, .inl (fun q9 => nI ((upN cs n_ ch_) q9))))] _ := hP
    have hD : va_D A [(h0, .inr (1, [.ref h1, .int (nI (n_ + 1))])), (h1, .inl (G.2.1, 60, .inl (fun q9 => nI ((upN cs n_ ch_) q9))))] := hD
    exact cr_vret hx hb hr hlocks hK hP hD hS dX1_add_29 (by rw [hRR]; exact ctR_v (rfl))
set_option maxHeartbeats 4000000 in
set_option maxRecDepth 100000 in
theorem c_X1_codeAt (G : GG) (l : Launch) (h0 : Nat) (h1 : Nat) (cs : Nat → Nat) (n_ : Nat) (j_ : Nat) (jn : n_ ≤ 60) (jj : j_ < 2 ^ 30) : Cr G l yX1_codeAt wsX1_codeAt ({ frames := 0, cells := 0, slots := 0, locals := 0 }) 0 0 [.ref h0, .int (nI j_)] [(h0, .inr (1, [.ref h1, .int (nI n_)])), (h1, .inl (G.2.1, 60, .inl (fun q9 => nI (cs q9))))] (ctR (some (.int (nI (cdA cs n_ j_)))) [(h0, .inr (1, [.ref h1, .int (nI n_)])), (h1, .inl (G.2.1, 60, .inl (fun q9 => nI (cs q9))))]) := by
  refine cr_intro (cc := cX1_codeAt) (maxL := 2) (ret := (some .int)) (own := RX1) (by decide) rfl rfl (Nat.le_of_ble_eq_true rfl) ?_
  intro p e s m args below meth c A hx hb hr hml hts hown hlocks hnm hNX hP hK hD hA hS ls hl
  obtain ⟨RR, hRR⟩ : ∃ RR, RR = (ctR (some (.int (nI (cdA cs n_ j_)))) [(h0, .inr (1, [.ref h1, .int (nI n_)])), (h1, .inl (G.2.1, 60, .inl (fun q9 => nI (cs q9))))]) := ⟨_, rfl⟩
  rw [← hRR]
  have hl : lv_has ls 2 [(0, .ref h0), (1, .int (nI j_))] := hl
  have hin1 : ∀ w ∈ u_ws RX1 TX1 2, w ∈ wsX1_codeAt := fun w h => List.mem_cons_of_mem _ (List.mem_append_right _ h)
  refine lv_iload_n hx hb dX1_codeAt_0 rfl (lv_at hl 1 rfl) ?_
  refine ks_if_lt (tgt := 21) hx hb dX1_codeAt_1 (by decide) (by omega) ?_
  refine lv_iload_n hx hb dX1_codeAt_4 rfl (lv_at hl 1 rfl) ?_
  refine lv_aload_n hx hb dX1_codeAt_5 rfl (lv_at hl 0 rfl) ?_
  refine va_get (D := G.1) (ci := 1) (v := .int (nI n_)) (C := RX1) (T := TX1) (N := 2) hx hb hts hin1 hown hK hP 0 rfl rfl 1 (by decide) (hts (.fieldLink RX1 13 "PowerTables$OrderText" "length" "I") (List.mem_of_getElem? (i := 1) rfl)) (fun _ h9 => h9) rfl dX1_codeAt_6 ?_
  refine ks_icmp_ge (tgt := 21) hx hb dX1_codeAt_9 (by decide) (by omega) (by omega) (fun c_9 => ?_) (fun c_9 => ?_)
  · have hv : nI 0 = nI (cdA cs n_ j_) := congrArg nI (if_neg (by omega)).symm
    refine lv_iconst (v := nI 0) hx hb dX1_codeAt_21 (by decide) ?_
    exact cr_iret hx hb hr hlocks hK hP hD hS dX1_codeAt_22 (by rw [hRR]; exact ctR_i (hv) (rfl))
  · have hv : nI (cs j_) = nI (cdA cs n_ j_) := congrArg nI (if_pos c_9).symm
    refine lv_aload_n hx hb dX1_codeAt_12 rfl (lv_at hl 0 rfl) ?_
    refine va_get (D := G.1) (ci := 1) (v := .ref h1) (C := RX1) (T := TX1) (N := 2) hx hb hts hin1 hown hK hP 0 rfl rfl 0 (by decide) (hts (.fieldLink RX1 9 "PowerTables$OrderText" "codes" "[I") (List.mem_of_getElem? (i := 2) rfl)) (fun _ h9 => h9) rfl dX1_codeAt_13 ?_
    refine lv_iload_n hx hb dX1_codeAt_16 rfl (lv_at hl 1 rfl) ?_
    refine ks_iald hx hb hK hP 1 rfl (by omega) (by decide) dX1_codeAt_17 ?_
    refine lv_goto (tgt := 22) hx hb dX1_codeAt_18 (by decide) ?_
    exact cr_iret hx hb hr hlocks hK hP hD hS dX1_codeAt_22 (by rw [hRR]; exact ctR_i (hv) (rfl))
set_option maxHeartbeats 4000000 in
set_option maxRecDepth 100000 in
theorem c_X1_beginsOrder (G : GG) (l : Launch) (h0 : Nat) (h1 : Nat) (cs : Nat → Nat) (n_ : Nat) (j_ : Nat) (jn : n_ ≤ 60) (jcs : ∀ k, k < 60 → cs k < 2 ^ 30) (jj : j_ < 2 ^ 29) : Cr G l yX1_beginsOrder wsX1_beginsOrder ({ frames := 1, cells := 0, slots := 0, locals := 21 }) 0 0 [.ref h0, .int (nI j_)] [(h0, .inr (1, [.ref h1, .int (nI n_)])), (h1, .inl (G.2.1, 60, .inl (fun q9 => nI (cs q9))))] (ctR (some (.int (bI (j_ = 0 ∨ cdA cs n_ (j_ - 1) = 59)))) [(h0, .inr (1, [.ref h1, .int (nI n_)])), (h1, .inl (G.2.1, 60, .inl (fun q9 => nI (cs q9))))]) := by
  refine cr_intro (cc := cX1_beginsOrder) (maxL := 2) (ret := (some .boolean)) (own := RX1) (by decide) rfl rfl (Nat.le_of_ble_eq_true rfl) ?_
  intro p e s m args below meth c A hx hb hr hml hts hown hlocks hnm hNX hP hK hD hA hS ls hl
  obtain ⟨RR, hRR⟩ : ∃ RR, RR = (ctR (some (.int (bI (j_ = 0 ∨ cdA cs n_ (j_ - 1) = 59)))) [(h0, .inr (1, [.ref h1, .int (nI n_)])), (h1, .inl (G.2.1, 60, .inl (fun q9 => nI (cs q9))))]) := ⟨_, rfl⟩
  rw [← hRR]
  have hl : lv_has ls 2 [(0, .ref h0), (1, .int (nI j_))] := hl
  refine lv_iload_n hx hb dX1_beginsOrder_0 rfl (lv_at hl 1 rfl) ?_
  refine ks_if_eq (tgt := 16) hx hb dX1_beginsOrder_1 (by decide) (by omega) (fun c_1 => ?_) (fun c_1 => ?_)
  · have hv : nI 1 = bI (j_ = 0 ∨ cdA cs n_ (j_ - 1) = 59) := bI_1 (Or.inl c_1)
    refine lv_iconst (v := nI 1) hx hb dX1_beginsOrder_16 (by decide) ?_
    refine lv_goto (tgt := 21) hx hb dX1_beginsOrder_17 (by decide) ?_
    exact cr_zret hx hb hr hlocks hK hP hD hS (by decide +kernel) dX1_beginsOrder_21 (by rw [hRR]; exact ctR_i (hv) (rfl))
  · refine lv_aload_n hx hb dX1_beginsOrder_4 rfl (lv_at hl 0 rfl) ?_
    refine lv_iload_n hx hb dX1_beginsOrder_5 rfl (lv_at hl 1 rfl) ?_
    refine lv_iconst (v := nI 1) hx hb dX1_beginsOrder_6 (by decide) ?_
    refine ks_isubN hx hb dX1_beginsOrder_7 (by omega) ?_
    refine cr_V (wr := []) (As := [.int (nI (j_ - 1))]) (rest := []) ⟨hx, hb, hml, hown, hts⟩ (c_X1_codeAt G l h0 h1 cs n_ (j_ - 1) (by omega) (by omega)) (cwV 1 hts gX1_beginsOrder_X1_codeAt rfl rfl rfl (by decide +kernel) ⟨Nat.le_of_ble_eq_true rfl, Nat.le_of_ble_eq_true rfl⟩) dX1_beginsOrder_8 hK hNX hP hD hS hA hl 0 1 rfl rfl rfl [0, 1] [] rfl rfl rfl rfl (by decide) rfl (Nat.le_of_ble_eq_true rfl) ⟨Nat.le_of_ble_eq_true rfl, Nat.le_of_ble_eq_true rfl⟩ rfl (fun v' w' Hq lcq hR' hP hD hS => ?_)
    obtain ⟨rfl, rfl⟩ := hR'
    have hP : va_P G.1 vwCl [(h0, .inr (1, [.ref h1, .int (nI n_)])), (h1, .inl (G.2.1, 60, .inl (fun q9 => nI (cs q9))))] _ := hP.sub [0, 1] rfl
    have hD : va_D A [(h0, .inr (1, [.ref h1, .int (nI n_)])), (h1, .inl (G.2.1, 60, .inl (fun q9 => nI (cs q9))))] := hD.sub [0, 1] rfl rfl
    refine lv_bipush (v := nI 59) hx hb dX1_beginsOrder_11 (by decide) ?_
    refine ks_icmp_ne (tgt := 20) hx hb dX1_beginsOrder_13 (by decide) (Nat.lt_trans (show cdA cs n_ (j_ - 1) < 2 ^ 30 from by unfold cdA; split; exact jcs _ (by omega); decide) (by decide)) (by omega) (fun c_13 => ?_) (fun c_13 => ?_)
    · have hv : nI 0 = bI (j_ = 0 ∨ cdA cs n_ (j_ - 1) = 59) := bI_0 (fun z => z.elim c_1 c_13)
      refine lv_iconst (v := nI 0) hx hb dX1_beginsOrder_20 (by decide) ?_
      exact cr_zret hx hb hr hlocks hK hP hD hS (by decide +kernel) dX1_beginsOrder_21 (by rw [hRR]; exact ctR_i (hv) (rfl))
    · have hv : nI 1 = bI (j_ = 0 ∨ cdA cs n_ (j_ - 1) = 59) := bI_1 (Or.inr c_13)
      refine lv_iconst (v := nI 1) hx hb dX1_beginsOrder_16 (by decide) ?_
      refine lv_goto (tgt := 21) hx hb dX1_beginsOrder_17 (by decide) ?_
      exact cr_zret hx hb hr hlocks hK hP hD hS (by decide +kernel) dX1_beginsOrder_21 (by rw [hRR]; exact ctR_i (hv) (rfl))
set_option maxHeartbeats 4000000 in
set_option maxRecDepth 100000 in
theorem c_X1_digitAt (G : GG) (l : Launch) (h0 : Nat) (h1 : Nat) (cs : Nat → Nat) (n_ : Nat) (j_ : Nat) (jn : n_ ≤ 60) (jcs : ∀ k, k < 60 → cs k < 2 ^ 30) (jj : j_ < 2 ^ 29) : Cr G l yX1_digitAt wsX1_digitAt ({ frames := 1, cells := 0, slots := 0, locals := 22 }) 0 0 [.ref h0, .int (nI j_)] [(h0, .inr (1, [.ref h1, .int (nI n_)])), (h1, .inl (G.2.1, 60, .inl (fun q9 => nI (cs q9))))] (ctR (some (.int (nI (dgA cs n_ j_)))) [(h0, .inr (1, [.ref h1, .int (nI n_)])), (h1, .inl (G.2.1, 60, .inl (fun q9 => nI (cs q9))))]) := by
  refine cr_intro (cc := cX1_digitAt) (maxL := 3) (ret := (some .int)) (own := RX1) (by decide) rfl rfl (Nat.le_of_ble_eq_true rfl) ?_
  intro p e s m args below meth c A hx hb hr hml hts hown hlocks hnm hNX hP hK hD hA hS ls hl
  obtain ⟨RR, hRR⟩ : ∃ RR, RR = (ctR (some (.int (nI (dgA cs n_ j_)))) [(h0, .inr (1, [.ref h1, .int (nI n_)])), (h1, .inl (G.2.1, 60, .inl (fun q9 => nI (cs q9))))]) := ⟨_, rfl⟩
  rw [← hRR]
  have hl : lv_has ls 3 [(0, .ref h0), (1, .int (nI j_))] := hl
  refine lv_aload_n hx hb dX1_digitAt_0 rfl (lv_at hl 0 rfl) ?_
  refine lv_iload_n hx hb dX1_digitAt_1 rfl (lv_at hl 1 rfl) ?_
  refine cr_V (wr := []) (As := [.int (nI j_)]) (rest := []) ⟨hx, hb, hml, hown, hts⟩ (c_X1_codeAt G l h0 h1 cs n_ j_ (by omega) (by omega)) (cwV 1 hts gX1_digitAt_X1_codeAt rfl rfl rfl (by decide +kernel) ⟨Nat.le_of_ble_eq_true rfl, Nat.le_of_ble_eq_true rfl⟩) dX1_digitAt_2 hK hNX hP hD hS hA hl 0 1 rfl rfl rfl [0, 1] [] rfl rfl rfl rfl (by decide) rfl (Nat.le_of_ble_eq_true rfl) ⟨Nat.le_of_ble_eq_true rfl, Nat.le_of_ble_eq_true rfl⟩ rfl (fun v' w' Hq lcq hR' hP hD hS => ?_)
  obtain ⟨rfl, rfl⟩ := hR'
  have hP : va_P G.1 vwCl [(h0, .inr (1, [.ref h1, .int (nI n_)])), (h1, .inl (G.2.1, 60, .inl (fun q9 => nI (cs q9))))] _ := hP.sub [0, 1] rfl
  have hD : va_D A [(h0, .inr (1, [.ref h1, .int (nI n_)])), (h1, .inl (G.2.1, 60, .inl (fun q9 => nI (cs q9))))] := hD.sub [0, 1] rfl rfl
  refine lv_istore_n (lv' := [(2, .int (nI (cdA cs n_ j_))), (0, .ref h0), (1, .int (nI j_))]) hx hb dX1_digitAt_5 rfl hl (by decide) rfl (fun ls hl => ?_)
  refine lv_iload_n hx hb dX1_digitAt_6 rfl (lv_at hl 0 rfl) ?_
  refine lv_bipush (v := nI 48) hx hb dX1_digitAt_7 (by decide) ?_
  refine lv_bipush (v := nI 57) hx hb dX1_digitAt_9 (by decide) ?_
  refine cr_S (wr := [(h0, .inr (1, [.ref h1, .int (nI n_)])), (h1, .inl (G.2.1, 60, .inl (fun q9 => nI (cs q9))))]) (As := [.int (nI (cdA cs n_ j_)), .int (nI 48), .int (nI 57)]) (rest := []) ⟨hx, hb, hml, hown, hts⟩ (c_X1_isBetween G l (cdA cs n_ j_) 48 57 (by unfold cdA; split; exact jcs _ (by omega); decide) (by omega) (by omega)) (va_cwS 3 hts gX1_digitAt_X1_isBetween rfl rfl rfl (by decide +kernel) ⟨Nat.le_of_ble_eq_true rfl, Nat.le_of_ble_eq_true rfl⟩) dX1_digitAt_11 hK hNX hP hD hS hA hl [] [0, 1] rfl rfl rfl rfl (by decide) rfl (Nat.le_of_ble_eq_true rfl) ⟨Nat.le_of_ble_eq_true rfl, Nat.le_of_ble_eq_true rfl⟩ rfl (fun v' w' Hq lcq hR' hP hD hS => ?_)
  obtain ⟨rfl, rfl⟩ := hR'
  have hP : va_P G.1 vwCl [(h0, .inr (1, [.ref h1, .int (nI n_)])), (h1, .inl (G.2.1, 60, .inl (fun q9 => nI (cs q9))))] _ := hP.sub [0, 1] rfl
  have hD : va_D A [(h0, .inr (1, [.ref h1, .int (nI n_)])), (h1, .inl (G.2.1, 60, .inl (fun q9 => nI (cs q9))))] := hD.sub [0, 1] rfl rfl
  refine ks_ifb_eq (tgt := 24) hx hb dX1_digitAt_14 (by decide) (fun c_14 => ?_) (fun c_14 => ?_)
  · have hv : nI 0 = nI (dgA cs n_ j_) := congrArg nI (if_neg c_14).symm
    refine lv_iconst (v := nI 0) hx hb dX1_digitAt_24 (by decide) ?_
    exact cr_iret hx hb hr hlocks hK hP hD hS dX1_digitAt_25 (by rw [hRR]; exact ctR_i (hv) (rfl))
  · have hv : nI (cdA cs n_ j_ - 48) = nI (dgA cs n_ j_) := congrArg nI (if_pos c_14).symm
    refine lv_iload_n hx hb dX1_digitAt_17 rfl (lv_at hl 0 rfl) ?_
    refine lv_bipush (v := nI 48) hx hb dX1_digitAt_18 (by decide) ?_
    refine ks_isubN hx hb dX1_digitAt_20 (by omega) ?_
    refine lv_goto (tgt := 25) hx hb dX1_digitAt_21 (by decide) ?_
    exact cr_iret hx hb hr hlocks hK hP hD hS dX1_digitAt_25 (by rw [hRR]; exact ctR_i (hv) (rfl))
set_option maxHeartbeats 4000000 in
set_option maxRecDepth 100000 in
theorem c_X1_numberAt (G : GG) (l : Launch) (h0 : Nat) (h1 : Nat) (cs : Nat → Nat) (n_ : Nat) (j_ : Nat) (jn : n_ ≤ 60) (jcs : ∀ k, k < 60 → cs k < 2 ^ 30) (jj : j_ < 2 ^ 28) : Cr G l yX1_numberAt wsX1_numberAt ({ frames := 2, cells := 0, slots := 0, locals := 44 }) 0 0 [.ref h0, .int (nI j_)] [(h0, .inr (1, [.ref h1, .int (nI n_)])), (h1, .inl (G.2.1, 60, .inl (fun q9 => nI (cs q9))))] (ctR (some (.int (nI (nmA cs n_ j_)))) [(h0, .inr (1, [.ref h1, .int (nI n_)])), (h1, .inl (G.2.1, 60, .inl (fun q9 => nI (cs q9))))]) := by
  refine cr_intro (cc := cX1_numberAt) (maxL := 3) (ret := (some .int)) (own := RX1) (by decide) rfl rfl (Nat.le_of_ble_eq_true rfl) ?_
  intro p e s m args below meth c A hx hb hr hml hts hown hlocks hnm hNX hP hK hD hA hS ls hl
  obtain ⟨RR, hRR⟩ : ∃ RR, RR = (ctR (some (.int (nI (nmA cs n_ j_)))) [(h0, .inr (1, [.ref h1, .int (nI n_)])), (h1, .inl (G.2.1, 60, .inl (fun q9 => nI (cs q9))))]) := ⟨_, rfl⟩
  rw [← hRR]
  have hl : lv_has ls 3 [(0, .ref h0), (1, .int (nI j_))] := hl
  refine lv_aload_n hx hb dX1_numberAt_0 rfl (lv_at hl 0 rfl) ?_
  refine lv_iload_n hx hb dX1_numberAt_1 rfl (lv_at hl 1 rfl) ?_
  refine cr_V (wr := []) (As := [.int (nI j_)]) (rest := []) ⟨hx, hb, hml, hown, hts⟩ (c_X1_digitAt G l h0 h1 cs n_ j_ (by omega) (by omega) (by omega)) (cwV 1 hts gX1_numberAt_X1_digitAt rfl rfl rfl (by decide +kernel) ⟨Nat.le_of_ble_eq_true rfl, Nat.le_of_ble_eq_true rfl⟩) dX1_numberAt_2 hK hNX hP hD hS hA hl 0 1 rfl rfl rfl [0, 1] [] rfl rfl rfl rfl (by decide) rfl (Nat.le_of_ble_eq_true rfl) ⟨Nat.le_of_ble_eq_true rfl, Nat.le_of_ble_eq_true rfl⟩ rfl (fun v' w' Hq lcq hR' hP hD hS => ?_)
  obtain ⟨rfl, rfl⟩ := hR'
  have hP : va_P G.1 vwCl [(h0, .inr (1, [.ref h1, .int (nI n_)])), (h1, .inl (G.2.1, 60, .inl (fun q9 => nI (cs q9))))] _ := hP.sub [0, 1] rfl
  have hD : va_D A [(h0, .inr (1, [.ref h1, .int (nI n_)])), (h1, .inl (G.2.1, 60, .inl (fun q9 => nI (cs q9))))] := hD.sub [0, 1] rfl rfl
  refine lv_istore_n (lv' := [(2, .int (nI (dgA cs n_ j_))), (0, .ref h0), (1, .int (nI j_))]) hx hb dX1_numberAt_5 rfl hl (by decide) rfl (fun ls hl => ?_)
  refine lv_aload_n hx hb dX1_numberAt_6 rfl (lv_at hl 1 rfl) ?_
  refine lv_iload_n hx hb dX1_numberAt_7 rfl (lv_at hl 2 rfl) ?_
  refine lv_iconst (v := nI 1) hx hb dX1_numberAt_8 (by decide) ?_
  refine ks_iaddN hx hb dX1_numberAt_9 ?_
  refine cr_V (wr := []) (As := [.int (nI (j_ + 1))]) (rest := []) ⟨hx, hb, hml, hown, hts⟩ (c_X1_codeAt G l h0 h1 cs n_ (j_ + 1) (by omega) (by omega)) (cwV 1 hts gX1_numberAt_X1_codeAt rfl rfl rfl (by decide +kernel) ⟨Nat.le_of_ble_eq_true rfl, Nat.le_of_ble_eq_true rfl⟩) dX1_numberAt_10 hK hNX hP hD hS hA hl 0 1 rfl rfl rfl [0, 1] [] rfl rfl rfl rfl (by decide) rfl (Nat.le_of_ble_eq_true rfl) ⟨Nat.le_of_ble_eq_true rfl, Nat.le_of_ble_eq_true rfl⟩ rfl (fun v' w' Hq lcq hR' hP hD hS => ?_)
  obtain ⟨rfl, rfl⟩ := hR'
  have hP : va_P G.1 vwCl [(h0, .inr (1, [.ref h1, .int (nI n_)])), (h1, .inl (G.2.1, 60, .inl (fun q9 => nI (cs q9))))] _ := hP.sub [0, 1] rfl
  have hD : va_D A [(h0, .inr (1, [.ref h1, .int (nI n_)])), (h1, .inl (G.2.1, 60, .inl (fun q9 => nI (cs q9))))] := hD.sub [0, 1] rfl rfl
  refine lv_bipush (v := nI 48) hx hb dX1_numberAt_13 (by decide) ?_
  refine lv_bipush (v := nI 57) hx hb dX1_numberAt_15 (by decide) ?_
  refine cr_S (wr := [(h0, .inr (1, [.ref h1, .int (nI n_)])), (h1, .inl (G.2.1, 60, .inl (fun q9 => nI (cs q9))))]) (As := [.int (nI (cdA cs n_ (j_ + 1))), .int (nI 48), .int (nI 57)]) (rest := []) ⟨hx, hb, hml, hown, hts⟩ (c_X1_isBetween G l (cdA cs n_ (j_ + 1)) 48 57 (by unfold cdA; split; exact jcs _ (by omega); decide) (by omega) (by omega)) (va_cwS 3 hts gX1_numberAt_X1_isBetween rfl rfl rfl (by decide +kernel) ⟨Nat.le_of_ble_eq_true rfl, Nat.le_of_ble_eq_true rfl⟩) dX1_numberAt_17 hK hNX hP hD hS hA hl [] [0, 1] rfl rfl rfl rfl (by decide) rfl (Nat.le_of_ble_eq_true rfl) ⟨Nat.le_of_ble_eq_true rfl, Nat.le_of_ble_eq_true rfl⟩ rfl (fun v' w' Hq lcq hR' hP hD hS => ?_)
  obtain ⟨rfl, rfl⟩ := hR'
  have hP : va_P G.1 vwCl [(h0, .inr (1, [.ref h1, .int (nI n_)])), (h1, .inl (G.2.1, 60, .inl (fun q9 => nI (cs q9))))] _ := hP.sub [0, 1] rfl
  have hD : va_D A [(h0, .inr (1, [.ref h1, .int (nI n_)])), (h1, .inl (G.2.1, 60, .inl (fun q9 => nI (cs q9))))] := hD.sub [0, 1] rfl rfl
  refine ks_ifb_eq (tgt := 38) hx hb dX1_numberAt_20 (by decide) (fun c_20 => ?_) (fun c_20 => ?_)
  · have hv : nI (dgA cs n_ j_) = nI (nmA cs n_ j_) := congrArg nI (if_neg c_20).symm
    refine lv_iload_n hx hb dX1_numberAt_38 rfl (lv_at hl 0 rfl) ?_
    exact cr_iret hx hb hr hlocks hK hP hD hS dX1_numberAt_39 (by rw [hRR]; exact ctR_i (hv) (rfl))
  · have hv : nI (10 * dgA cs n_ j_ + dgA cs n_ (j_ + 1)) = nI (nmA cs n_ j_) := congrArg nI (if_pos c_20).symm
    refine lv_bipush (v := nI 10) hx hb dX1_numberAt_23 (by decide) ?_
    refine lv_iload_n hx hb dX1_numberAt_25 rfl (lv_at hl 0 rfl) ?_
    refine ks_imulN hx hb dX1_numberAt_26 ?_
    refine lv_aload_n hx hb dX1_numberAt_27 rfl (lv_at hl 1 rfl) ?_
    refine lv_iload_n hx hb dX1_numberAt_28 rfl (lv_at hl 2 rfl) ?_
    refine lv_iconst (v := nI 1) hx hb dX1_numberAt_29 (by decide) ?_
    refine ks_iaddN hx hb dX1_numberAt_30 ?_
    refine cr_V (wr := []) (As := [.int (nI (j_ + 1))]) (rest := [.int (nI (10 * (dgA cs n_ j_)))]) ⟨hx, hb, hml, hown, hts⟩ (c_X1_digitAt G l h0 h1 cs n_ (j_ + 1) (by omega) (by omega) (by omega)) (cwV 1 hts gX1_numberAt_X1_digitAt rfl rfl rfl (by decide +kernel) ⟨Nat.le_of_ble_eq_true rfl, Nat.le_of_ble_eq_true rfl⟩) dX1_numberAt_31 hK hNX hP hD hS hA hl 0 1 rfl rfl rfl [0, 1] [] rfl rfl rfl rfl (by decide) rfl (Nat.le_of_ble_eq_true rfl) ⟨Nat.le_of_ble_eq_true rfl, Nat.le_of_ble_eq_true rfl⟩ rfl (fun v' w' Hq lcq hR' hP hD hS => ?_)
    obtain ⟨rfl, rfl⟩ := hR'
    have hP : va_P G.1 vwCl [(h0, .inr (1, [.ref h1, .int (nI n_)])), (h1, .inl (G.2.1, 60, .inl (fun q9 => nI (cs q9))))] _ := hP.sub [0, 1] rfl
    have hD : va_D A [(h0, .inr (1, [.ref h1, .int (nI n_)])), (h1, .inl (G.2.1, 60, .inl (fun q9 => nI (cs q9))))] := hD.sub [0, 1] rfl rfl
    refine ks_iaddN hx hb dX1_numberAt_34 ?_
    refine lv_goto (tgt := 39) hx hb dX1_numberAt_35 (by decide) ?_
    exact cr_iret hx hb hr hlocks hK hP hD hS dX1_numberAt_39 (by rw [hRR]; exact ctR_i (hv) (rfl))
set_option maxHeartbeats 4000000 in
set_option maxRecDepth 100000 in
theorem c_X1_errorIndex (G : GG) (l : Launch) (h0 : Nat) (h1 : Nat) (cs : Nat → Nat) (n_ : Nat) (jn : n_ ≤ 60) (jcs : ∀ k, k < 60 → cs k < 2 ^ 30) : Cr G l yX1_errorIndex wsX1_errorIndex ({ frames := 3, cells := 0, slots := 0, locals := 63 }) 0 0 [.ref h0] [(h0, .inr (1, [.ref h1, .int (nI n_)])), (h1, .inl (G.2.1, 60, .inl (fun q9 => nI (cs q9))))] (ctR (some (.int (nI (erI cs n_)))) [(h0, .inr (1, [.ref h1, .int (nI n_)])), (h1, .inl (G.2.1, 60, .inl (fun q9 => nI (cs q9))))]) := by
  refine cr_intro (cc := cX1_errorIndex) (maxL := 3) (ret := (some .int)) (own := RX1) (by decide) rfl rfl (Nat.le_of_ble_eq_true rfl) ?_
  intro p e s m args below meth c A hx hb hr hml hts hown hlocks hnm hNX hP hK hD hA hS ls hl
  obtain ⟨RR, hRR⟩ : ∃ RR, RR = (ctR (some (.int (nI (erI cs n_)))) [(h0, .inr (1, [.ref h1, .int (nI n_)])), (h1, .inl (G.2.1, 60, .inl (fun q9 => nI (cs q9))))]) := ⟨_, rfl⟩
  rw [← hRR]
  have hl : lv_has ls 3 [(0, .ref h0)] := hl
  have hin1 : ∀ w ∈ u_ws RX1 TX1 2, w ∈ wsX1_errorIndex := fun w h => List.mem_cons_of_mem _ (List.mem_append_right _ h)
  refine lv_iconst (v := nI 0) hx hb dX1_errorIndex_0 (by decide) ?_
  refine lv_istore_n (lv' := [(1, .int (nI 0)), (0, .ref h0)]) hx hb dX1_errorIndex_1 rfl hl (by decide) rfl (fun ls hl => ?_)
  refine lv_iconst (v := nI 0) hx hb dX1_errorIndex_2 (by decide) ?_
  refine lv_istore_n (lv' := [(2, .int (nI 0)), (1, .int (nI 0)), (0, .ref h0)]) hx hb dX1_errorIndex_3 rfl hl (by decide) rfl (fun ls hl => ?_)
  have L_4 : ∀ (n_4 : Nat) (i_ : Nat) (_ : 61 - i_ < n_4) (ji : i_ ≤ n_) (jr : ∀ k, k ≤ i_ → rnA cs k ≠ 10) (Hq : Heap) (lcq : List Loc), va_P G.1 vwCl [(h0, .inr (1, [.ref h1, .int (nI n_)])), (h1, .inl (G.2.1, 60, .inl (fun q9 => nI (cs q9))))] Hq → va_D A [(h0, .inr (1, [.ref h1, .int (nI n_)])), (h1, .inl (G.2.1, 60, .inl (fun q9 => nI (cs q9))))] → va_S A s.heap Hq lcq → ∀ ls : Array Slot, lv_has ls 3 [(2, .int (nI i_)), (0, .ref h0), (1, .int (stI (rnA cs i_)))] → W p l e ({ frames := 3, cells := 0, slots := 0, locals := 63 }) s m args below meth c Hq lcq 0 0 (MQ below (cr_Q G RR A) args s 0 0 A) (F0 m 4 ls []) := by
    intro n_4
    induction n_4 with
    | zero => intro i_ hmu_4; exact absurd hmu_4 (Nat.not_lt_zero _)
    | succ n_4 ih_4 =>
      intro i_ hmu_4 ji jr Hq lcq hP hD hS ls hl
      refine lv_iload_n hx hb dX1_errorIndex_4 rfl (lv_at hl 0 rfl) ?_
      refine lv_aload_n hx hb dX1_errorIndex_5 rfl (lv_at hl 1 rfl) ?_
      refine va_get (D := G.1) (ci := 1) (v := .int (nI n_)) (C := RX1) (T := TX1) (N := 2) hx hb hts hin1 hown hK hP 0 rfl rfl 1 (by decide) (hts (.fieldLink RX1 13 "PowerTables$OrderText" "length" "I") (List.mem_of_getElem? (i := 1) rfl)) (fun _ h9 => h9) rfl dX1_errorIndex_6 ?_
      refine ks_icmp_ge (tgt := 36) hx hb dX1_errorIndex_9 (by decide) (by omega) (by omega) (fun c_9 => ?_) (fun c_9 => ?_)
      · have e2_ : erI cs n_ = n_ := ctN_thr (fun k hk => jr (k + 1) (by omega)) (fun k h1 h2 _ => absurd h2 (by omega)) (Nat.le_refl n_)
        refine lv_aload_n hx hb dX1_errorIndex_36 rfl (lv_at hl 1 rfl) ?_
        refine va_get (D := G.1) (ci := 1) (v := .int (nI n_)) (C := RX1) (T := TX1) (N := 2) hx hb hts hin1 hown hK hP 0 rfl rfl 1 (by decide) (hts (.fieldLink RX1 13 "PowerTables$OrderText" "length" "I") (List.mem_of_getElem? (i := 1) rfl)) (fun _ h9 => h9) rfl dX1_errorIndex_37 ?_
        exact cr_iret hx hb hr hlocks hK hP hD hS dX1_errorIndex_40 (by rw [hRR]; exact ctR_i (by rw [e2_]) (rfl))
      · refine lv_iload_n hx hb dX1_errorIndex_12 rfl (lv_at hl 2 rfl) ?_
        refine lv_aload_n hx hb dX1_errorIndex_13 rfl (lv_at hl 1 rfl) ?_
        refine va_get (D := G.1) (ci := 1) (v := .ref h1) (C := RX1) (T := TX1) (N := 2) hx hb hts hin1 hown hK hP 0 rfl rfl 0 (by decide) (hts (.fieldLink RX1 9 "PowerTables$OrderText" "codes" "[I") (List.mem_of_getElem? (i := 2) rfl)) (fun _ h9 => h9) rfl dX1_errorIndex_14 ?_
        refine lv_iload_n hx hb dX1_errorIndex_17 rfl (lv_at hl 0 rfl) ?_
        refine ks_iald hx hb hK hP 1 rfl (by omega) (by decide) dX1_errorIndex_18 ?_
        refine cr_S (wr := [(h0, .inr (1, [.ref h1, .int (nI n_)])), (h1, .inl (G.2.1, 60, .inl (fun q9 => nI (cs q9))))]) (As := [.int (stI (rnA cs i_)), .int (nI (cs i_))]) (rest := []) ⟨hx, hb, hml, hown, hts⟩ (c_X1_nextBehind G l (rnA cs i_) (cs i_) (rnA_le _ _) (jcs _ (by omega))) (va_cwS 2 hts gX1_errorIndex_X1_nextBehind rfl rfl rfl (by decide +kernel) ⟨Nat.le_of_ble_eq_true rfl, Nat.le_of_ble_eq_true rfl⟩) dX1_errorIndex_19 hK hNX hP hD hS hA hl [] [0, 1] rfl rfl rfl rfl (by decide) rfl (Nat.le_of_ble_eq_true rfl) ⟨Nat.le_of_ble_eq_true rfl, Nat.le_of_ble_eq_true rfl⟩ rfl (fun v' w' Hq lcq hR' hP hD hS => ?_)
        obtain ⟨rfl, rfl⟩ := hR'
        have hP : va_P G.1 vwCl [(h0, .inr (1, [.ref h1, .int (nI n_)])), (h1, .inl (G.2.1, 60, .inl (fun q9 => nI (cs q9))))] _ := hP.sub [0, 1] rfl
        have hD : va_D A [(h0, .inr (1, [.ref h1, .int (nI n_)])), (h1, .inl (G.2.1, 60, .inl (fun q9 => nI (cs q9))))] := hD.sub [0, 1] rfl rfl
        refine lv_istore_n (lv' := [(1, .int (stI (nxt (rnA cs i_) (cs i_)))), (2, .int (nI i_)), (0, .ref h0)]) hx hb dX1_errorIndex_22 rfl hl (by decide) rfl (fun ls hl => ?_)
        refine lv_iload_n hx hb dX1_errorIndex_23 rfl (lv_at hl 0 rfl) ?_
        refine lv_iconst (v := (-1)) hx hb dX1_errorIndex_24 (by decide) ?_
        refine lv_icmp_ne (tgt := 30) hx hb dX1_errorIndex_25 (by decide) (fun c_25 => ?_) (fun c_25 => ?_)
        · have e1_ : rnA cs (i_ + 1) ≠ 10 := fun z => c_25 ((stI_ne (rnA_le cs (i_ + 1))).mpr z)
          refine lv_iinc (v := nI (i_ + 1)) (lv' := [(2, .int (nI (i_ + 1))), (1, .int (stI (nxt (rnA cs i_) (cs i_)))), (0, .ref h0)]) hx hb dX1_errorIndex_30 hl (k := 1) rfl (ks_inc i_ 1) (by decide) rfl (fun ls hl => ?_)
          refine lv_goto (tgt := 4) hx hb dX1_errorIndex_33 (by decide) ?_
          exact ih_4  (i_ + 1) (by omega) (by omega) (fun k hk => (Nat.lt_or_ge k (i_ + 1)).elim (fun z => jr k (by omega)) (fun z => by rw [show k = i_ + 1 by omega]; exact e1_)) _ _ hP hD hS ls (lv_sub hl [0, 2, 1] rfl)
        · have e1_ : rnA cs (i_ + 1) = 10 := (stI_ne (rnA_le cs (i_ + 1))).mp c_25
          have e2_ : erI cs n_ = i_ := ctN_thr (fun k hk => jr (k + 1) (by omega)) (fun k h1 _ z => z (rnA_10 cs (show i_ + 1 ≤ k + 1 by omega) e1_)) (by omega)
          refine lv_iload_n hx hb dX1_errorIndex_28 rfl (lv_at hl 1 rfl) ?_
          exact cr_iret hx hb hr hlocks hK hP hD hS dX1_errorIndex_29 (by rw [hRR]; exact ctR_i (by rw [e2_]) (rfl))
  exact L_4 _ 0 (Nat.lt_succ_self _) (by omega) (fun k hk => by rw [show k = 0 by omega]; exact (show (0 : Nat) ≠ 10 by decide)) _ _ hP hD hS ls (lv_sub hl [0, 2, 1] rfl)
set_option maxHeartbeats 4000000 in
set_option maxRecDepth 100000 in
theorem c_X1_isComplete (G : GG) (l : Launch) (h0 : Nat) (h1 : Nat) (cs : Nat → Nat) (n_ : Nat) (jn : n_ ≤ 60) (jcs : ∀ k, k < 60 → cs k < 2 ^ 30) : Cr G l yX1_isComplete wsX1_isComplete ({ frames := 3, cells := 0, slots := 0, locals := 63 }) 0 0 [.ref h0] [(h0, .inr (1, [.ref h1, .int (nI n_)])), (h1, .inl (G.2.1, 60, .inl (fun q9 => nI (cs q9))))] (ctR (some (.int (bI (rnA cs n_ = 9 ∨ rnA cs n_ = 2 ∨ rnA cs n_ = 3)))) [(h0, .inr (1, [.ref h1, .int (nI n_)])), (h1, .inl (G.2.1, 60, .inl (fun q9 => nI (cs q9))))]) := by
  refine cr_intro (cc := cX1_isComplete) (maxL := 3) (ret := (some .boolean)) (own := RX1) (by decide) rfl rfl (Nat.le_of_ble_eq_true rfl) ?_
  intro p e s m args below meth c A hx hb hr hml hts hown hlocks hnm hNX hP hK hD hA hS ls hl
  obtain ⟨RR, hRR⟩ : ∃ RR, RR = (ctR (some (.int (bI (rnA cs n_ = 9 ∨ rnA cs n_ = 2 ∨ rnA cs n_ = 3)))) [(h0, .inr (1, [.ref h1, .int (nI n_)])), (h1, .inl (G.2.1, 60, .inl (fun q9 => nI (cs q9))))]) := ⟨_, rfl⟩
  rw [← hRR]
  have hl : lv_has ls 3 [(0, .ref h0)] := hl
  have hin1 : ∀ w ∈ u_ws RX1 TX1 2, w ∈ wsX1_isComplete := fun w h => List.mem_cons_of_mem _ (List.mem_append_right _ h)
  refine lv_iconst (v := nI 0) hx hb dX1_isComplete_0 (by decide) ?_
  refine lv_istore_n (lv' := [(1, .int (nI 0)), (0, .ref h0)]) hx hb dX1_isComplete_1 rfl hl (by decide) rfl (fun ls hl => ?_)
  refine lv_iconst (v := nI 0) hx hb dX1_isComplete_2 (by decide) ?_
  refine lv_istore_n (lv' := [(2, .int (nI 0)), (1, .int (nI 0)), (0, .ref h0)]) hx hb dX1_isComplete_3 rfl hl (by decide) rfl (fun ls hl => ?_)
  have L_4 : ∀ (n_4 : Nat) (i_ : Nat) (_ : 61 - i_ < n_4) (ji : i_ ≤ n_) (Hq : Heap) (lcq : List Loc), va_P G.1 vwCl [(h0, .inr (1, [.ref h1, .int (nI n_)])), (h1, .inl (G.2.1, 60, .inl (fun q9 => nI (cs q9))))] Hq → va_D A [(h0, .inr (1, [.ref h1, .int (nI n_)])), (h1, .inl (G.2.1, 60, .inl (fun q9 => nI (cs q9))))] → va_S A s.heap Hq lcq → ∀ ls : Array Slot, lv_has ls 3 [(2, .int (nI i_)), (0, .ref h0), (1, .int (stI (rnA cs i_)))] → W p l e ({ frames := 3, cells := 0, slots := 0, locals := 63 }) s m args below meth c Hq lcq 0 0 (MQ below (cr_Q G RR A) args s 0 0 A) (F0 m 4 ls []) := by
    intro n_4
    induction n_4 with
    | zero => intro i_ hmu_4; exact absurd hmu_4 (Nat.not_lt_zero _)
    | succ n_4 ih_4 =>
      intro i_ hmu_4 ji Hq lcq hP hD hS ls hl
      refine lv_iload_n hx hb dX1_isComplete_4 rfl (lv_at hl 0 rfl) ?_
      refine lv_aload_n hx hb dX1_isComplete_5 rfl (lv_at hl 1 rfl) ?_
      refine va_get (D := G.1) (ci := 1) (v := .int (nI n_)) (C := RX1) (T := TX1) (N := 2) hx hb hts hin1 hown hK hP 0 rfl rfl 1 (by decide) (hts (.fieldLink RX1 13 "PowerTables$OrderText" "length" "I") (List.mem_of_getElem? (i := 1) rfl)) (fun _ h9 => h9) rfl dX1_isComplete_6 ?_
      refine ks_icmp_ge (tgt := 29) hx hb dX1_isComplete_9 (by decide) (by omega) (by omega) (fun c_9 => ?_) (fun c_9 => ?_)
      · obtain rfl : n_ = i_ := by omega
        refine lv_iload_n hx hb dX1_isComplete_29 rfl (lv_at hl 2 rfl) ?_
        refine lv_bipush (v := nI 9) hx hb dX1_isComplete_30 (by decide) ?_
        refine lv_icmp_eq (tgt := 45) hx hb dX1_isComplete_32 (by decide) (fun c_32 => ?_) (fun c_32 => ?_)
        · have hv : nI 1 = bI (rnA cs n_ = 9 ∨ rnA cs n_ = 2 ∨ rnA cs n_ = 3) := bI_1 (Or.inl ((stI_eq (rnA_le cs n_) (by decide)).mp c_32))
          refine lv_iconst (v := nI 1) hx hb dX1_isComplete_45 (by decide) ?_
          refine lv_goto (tgt := 50) hx hb dX1_isComplete_46 (by decide) ?_
          exact cr_zret hx hb hr hlocks hK hP hD hS (by decide +kernel) dX1_isComplete_50 (by rw [hRR]; exact ctR_i (hv) (rfl))
        · refine lv_iload_n hx hb dX1_isComplete_35 rfl (lv_at hl 2 rfl) ?_
          refine lv_iconst (v := nI 2) hx hb dX1_isComplete_36 (by decide) ?_
          refine lv_icmp_eq (tgt := 45) hx hb dX1_isComplete_37 (by decide) (fun c_37 => ?_) (fun c_37 => ?_)
          · have hv : nI 1 = bI (rnA cs n_ = 9 ∨ rnA cs n_ = 2 ∨ rnA cs n_ = 3) := bI_1 (Or.inr (Or.inl ((stI_eq (rnA_le cs n_) (by decide)).mp c_37)))
            refine lv_iconst (v := nI 1) hx hb dX1_isComplete_45 (by decide) ?_
            refine lv_goto (tgt := 50) hx hb dX1_isComplete_46 (by decide) ?_
            exact cr_zret hx hb hr hlocks hK hP hD hS (by decide +kernel) dX1_isComplete_50 (by rw [hRR]; exact ctR_i (hv) (rfl))
          · refine lv_iload_n hx hb dX1_isComplete_40 rfl (lv_at hl 2 rfl) ?_
            refine lv_iconst (v := nI 3) hx hb dX1_isComplete_41 (by decide) ?_
            refine lv_icmp_ne (tgt := 49) hx hb dX1_isComplete_42 (by decide) (fun c_42 => ?_) (fun c_42 => ?_)
            · have hv : nI 0 = bI (rnA cs n_ = 9 ∨ rnA cs n_ = 2 ∨ rnA cs n_ = 3) := bI_0 (fun z => z.elim (fun w => c_32 ((stI_eq (rnA_le cs n_) (by decide)).mpr w)) (fun z => z.elim (fun w => c_37 ((stI_eq (rnA_le cs n_) (by decide)).mpr w)) (fun w => c_42 ((stI_eq (rnA_le cs n_) (by decide)).mpr w))))
              refine lv_iconst (v := nI 0) hx hb dX1_isComplete_49 (by decide) ?_
              exact cr_zret hx hb hr hlocks hK hP hD hS (by decide +kernel) dX1_isComplete_50 (by rw [hRR]; exact ctR_i (hv) (rfl))
            · have hv : nI 1 = bI (rnA cs n_ = 9 ∨ rnA cs n_ = 2 ∨ rnA cs n_ = 3) := bI_1 (Or.inr (Or.inr ((stI_eq (rnA_le cs n_) (by decide)).mp c_42)))
              refine lv_iconst (v := nI 1) hx hb dX1_isComplete_45 (by decide) ?_
              refine lv_goto (tgt := 50) hx hb dX1_isComplete_46 (by decide) ?_
              exact cr_zret hx hb hr hlocks hK hP hD hS (by decide +kernel) dX1_isComplete_50 (by rw [hRR]; exact ctR_i (hv) (rfl))
      · refine lv_iload_n hx hb dX1_isComplete_12 rfl (lv_at hl 2 rfl) ?_
        refine lv_aload_n hx hb dX1_isComplete_13 rfl (lv_at hl 1 rfl) ?_
        refine va_get (D := G.1) (ci := 1) (v := .ref h1) (C := RX1) (T := TX1) (N := 2) hx hb hts hin1 hown hK hP 0 rfl rfl 0 (by decide) (hts (.fieldLink RX1 9 "PowerTables$OrderText" "codes" "[I") (List.mem_of_getElem? (i := 2) rfl)) (fun _ h9 => h9) rfl dX1_isComplete_14 ?_
        refine lv_iload_n hx hb dX1_isComplete_17 rfl (lv_at hl 0 rfl) ?_
        refine ks_iald hx hb hK hP 1 rfl (by omega) (by decide) dX1_isComplete_18 ?_
        refine cr_S (wr := [(h0, .inr (1, [.ref h1, .int (nI n_)])), (h1, .inl (G.2.1, 60, .inl (fun q9 => nI (cs q9))))]) (As := [.int (stI (rnA cs i_)), .int (nI (cs i_))]) (rest := []) ⟨hx, hb, hml, hown, hts⟩ (c_X1_nextBehind G l (rnA cs i_) (cs i_) (rnA_le _ _) (jcs _ (by omega))) (va_cwS 2 hts gX1_isComplete_X1_nextBehind rfl rfl rfl (by decide +kernel) ⟨Nat.le_of_ble_eq_true rfl, Nat.le_of_ble_eq_true rfl⟩) dX1_isComplete_19 hK hNX hP hD hS hA hl [] [0, 1] rfl rfl rfl rfl (by decide) rfl (Nat.le_of_ble_eq_true rfl) ⟨Nat.le_of_ble_eq_true rfl, Nat.le_of_ble_eq_true rfl⟩ rfl (fun v' w' Hq lcq hR' hP hD hS => ?_)
        obtain ⟨rfl, rfl⟩ := hR'
        have hP : va_P G.1 vwCl [(h0, .inr (1, [.ref h1, .int (nI n_)])), (h1, .inl (G.2.1, 60, .inl (fun q9 => nI (cs q9))))] _ := hP.sub [0, 1] rfl
        have hD : va_D A [(h0, .inr (1, [.ref h1, .int (nI n_)])), (h1, .inl (G.2.1, 60, .inl (fun q9 => nI (cs q9))))] := hD.sub [0, 1] rfl rfl
        refine lv_istore_n (lv' := [(1, .int (stI (nxt (rnA cs i_) (cs i_)))), (2, .int (nI i_)), (0, .ref h0)]) hx hb dX1_isComplete_22 rfl hl (by decide) rfl (fun ls hl => ?_)
        refine lv_iinc (v := nI (i_ + 1)) (lv' := [(2, .int (nI (i_ + 1))), (1, .int (stI (nxt (rnA cs i_) (cs i_)))), (0, .ref h0)]) hx hb dX1_isComplete_23 hl (k := 1) rfl (ks_inc i_ 1) (by decide) rfl (fun ls hl => ?_)
        refine lv_goto (tgt := 4) hx hb dX1_isComplete_26 (by decide) ?_
        exact ih_4  (i_ + 1) (by omega) (by omega) _ _ hP hD hS ls (lv_sub hl [0, 2, 1] rfl)
  exact L_4 _ 0 (Nat.lt_succ_self _) (by omega) _ _ hP hD hS ls (lv_sub hl [0, 2, 1] rfl)
