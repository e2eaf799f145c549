theorem nat_of {y : Int32} (h : 0 ≤ y.toInt) : ∃ j : Nat, y = nI j ∧ (j : Int) = y.toInt := by
  refine ⟨y.toInt.toNat, ?_, Int.toNat_of_nonneg h⟩
  apply Int32.toInt_inj.mp
  have hb := Int32.toInt_lt y
  rw [nI_toInt (by omega), Int.toNat_of_nonneg h]
theorem toInt_lt (y : Int32) : y.toInt < 2 ^ 31 := Int32.toInt_lt y
theorem and31 (v : Int32) : ∃ k : Nat, k < 32 ∧ v &&& nI 31 = nI k := by
  refine ⟨(v &&& nI 31).toBitVec.toNat, ?_, ?_⟩
  · have e : (v &&& nI 31).toBitVec.toNat = v.toBitVec.toNat &&& 31 := by
      show (v.toBitVec &&& (nI 31).toBitVec).toNat = _
      rw [BitVec.toNat_and]; rfl
    rw [e]
    exact Nat.lt_of_le_of_lt Nat.and_le_right (by decide)
  · apply Int32.toBitVec.inj
    show (v &&& nI 31).toBitVec = BitVec.ofNat 32 _
    rw [BitVec.ofNat_toNat, BitVec.setWidth_eq]
theorem sub4_i : ∀ L, L < 2049 → (nI L - nI 4).toInt = (L : Int) - 4 := by decide +kernel
set_option maxHeartbeats 2000000 in
theorem d_correct {G : GG} (p : Program) (l : Launch) (e : Env) (s : State) (m : MethodId) (args : Array Value) (below : List Frame) (meth : Method) (c : Code) (A : Nat → Prop) (Q : State → Prop) (b L : Nat) (xs : Nat → Int32) (x y oz : Nat) (a o ca : Nat → Nat) (i : Nat) (C : LC G p l s m args c A b L xs) (hi : i + 4 ≤ L) (Hq : Heap) (lcq : List Loc) (ls : Array Slot) (hI : LI G s A b x y oz a o ca i Hq lcq ls) (kk : ∀ (H' : Heap) (locs' : List Loc) (ls' : Array Slot), LI G s A b x y oz a o ca (i + 4) H' locs' ls' → W p l e room_1 s m args below meth c H' locs' (100 + (i + 4)) (3000 + 2 * (i + 4)) Q (F0 m 23 ls' [])) : W p l e room_1 s m args below meth c Hq lcq (100 + i) (3000 + 2 * i) Q (F0 m 355 ls []) := by
  obtain ⟨T, g, n, ad, Ss, Gs, cs, tn, f, dn, rr, tr, tw, tx, tq, th, po, fl, tm, f1, pf, td, er, ov, hP, hD, hS, hl, gt, gs, jpf, jtn, jcs⟩ := hI
  have o4 := gt.1.1
  exact k_correct p l e s m _ below meth c A _ b L xs x y oz a o ca i T g n ad Ss Gs cs tn f dn rr tr tw tx tq th po fl tm f1 pf td er ov C gt gs jpf jtn jcs hi Hq lcq ls hP hD hS hl kk
set_option maxHeartbeats 2000000 in
theorem d_clearBuffer {G : GG} (p : Program) (l : Launch) (e : Env) (s : State) (m : MethodId) (args : Array Value) (below : List Frame) (meth : Method) (c : Code) (A : Nat → Prop) (Q : State → Prop) (b L : Nat) (xs : Nat → Int32) (x y oz : Nat) (a o ca : Nat → Nat) (i : Nat) (C : LC G p l s m args c A b L xs) (hi : i + 4 ≤ L) (Hq : Heap) (lcq : List Loc) (ls : Array Slot) (hI : LI G s A b x y oz a o ca i Hq lcq ls) (kk : ∀ (H' : Heap) (locs' : List Loc) (ls' : Array Slot), LI G s A b x y oz a o ca (i + 4) H' locs' ls' → W p l e room_1 s m args below meth c H' locs' (100 + (i + 4)) (3000 + 2 * (i + 4)) Q (F0 m 23 ls' [])) : W p l e room_1 s m args below meth c Hq lcq (100 + i) (3000 + 2 * i) Q (F0 m 604 ls []) := by
  obtain ⟨T, g, n, ad, Ss, Gs, cs, tn, f, dn, rr, tr, tw, tx, tq, th, po, fl, tm, f1, pf, td, er, ov, hP, hD, hS, hl, gt, gs, jpf, jtn, jcs⟩ := hI
  have o4 := gt.1.1
  exact k_clearBuffer p l e s m _ below meth c A _ b L xs x y oz a o ca i T g n ad Ss Gs cs tn f dn rr tr tw tx tq th po fl tm f1 pf td er ov C gt gs jpf jtn jcs hi Hq lcq ls hP hD hS hl kk
set_option maxHeartbeats 2000000 in
theorem d_firstError {G : GG} (p : Program) (l : Launch) (e : Env) (s : State) (m : MethodId) (args : Array Value) (below : List Frame) (meth : Method) (c : Code) (A : Nat → Prop) (Q : State → Prop) (b L : Nat) (xs : Nat → Int32) (x y oz : Nat) (a o ca : Nat → Nat) (i : Nat) (C : LC G p l s m args c A b L xs) (hi : i + 4 ≤ L) (Hq : Heap) (lcq : List Loc) (ls : Array Slot) (hI : LI G s A b x y oz a o ca i Hq lcq ls) (kk : ∀ (H' : Heap) (locs' : List Loc) (ls' : Array Slot), LI G s A b x y oz a o ca (i + 4) H' locs' ls' → W p l e room_1 s m args below meth c H' locs' (100 + (i + 4)) (3000 + 2 * (i + 4)) Q (F0 m 23 ls' [])) : W p l e room_1 s m args below meth c Hq lcq (100 + i) (3000 + 2 * i) Q (F0 m 617 ls []) := by
  obtain ⟨T, g, n, ad, Ss, Gs, cs, tn, f, dn, rr, tr, tw, tx, tq, th, po, fl, tm, f1, pf, td, er, ov, hP, hD, hS, hl, gt, gs, jpf, jtn, jcs⟩ := hI
  have o4 := gt.1.1
  exact k_firstError p l e s m _ below meth c A _ b L xs x y oz a o ca i T g n ad Ss Gs cs tn f dn rr tr tw tx tq th po fl tm f1 pf td er ov C gt gs jpf jtn jcs hi Hq lcq ls hP hD hS hl kk
set_option maxHeartbeats 2000000 in
theorem d_bestGroup {G : GG} (p : Program) (l : Launch) (e : Env) (s : State) (m : MethodId) (args : Array Value) (below : List Frame) (meth : Method) (c : Code) (A : Nat → Prop) (Q : State → Prop) (b L : Nat) (xs : Nat → Int32) (x y oz : Nat) (a o ca : Nat → Nat) (i : Nat) (C : LC G p l s m args c A b L xs) (hi : i + 4 ≤ L) (Hq : Heap) (lcq : List Loc) (ls : Array Slot) (hI : LI G s A b x y oz a o ca i Hq lcq ls) (kk : ∀ (H' : Heap) (locs' : List Loc) (ls' : Array Slot), LI G s A b x y oz a o ca (i + 4) H' locs' ls' → W p l e room_1 s m args below meth c H' locs' (100 + (i + 4)) (3000 + 2 * (i + 4)) Q (F0 m 23 ls' [])) : W p l e room_1 s m args below meth c Hq lcq (100 + i) (3000 + 2 * i) Q (F0 m 1292 ls []) := by
  obtain ⟨T, g, n, ad, Ss, Gs, cs, tn, f, dn, rr, tr, tw, tx, tq, th, po, fl, tm, f1, pf, td, er, ov, hP, hD, hS, hl, gt, gs, jpf, jtn, jcs⟩ := hI
  have o4 := gt.1.1
  exact k_bestGroup p l e s m _ below meth c A _ b L xs x y oz a o ca i T g n ad Ss Gs cs tn f dn rr tr tw tx tq th po fl tm f1 pf td er ov C gt gs jpf jtn jcs hi Hq lcq ls hP hD hS hl kk
set_option maxHeartbeats 2000000 in
theorem d_mostWorn {G : GG} (p : Program) (l : Launch) (e : Env) (s : State) (m : MethodId) (args : Array Value) (below : List Frame) (meth : Method) (c : Code) (A : Nat → Prop) (Q : State → Prop) (b L : Nat) (xs : Nat → Int32) (x y oz : Nat) (a o ca : Nat → Nat) (i : Nat) (C : LC G p l s m args c A b L xs) (hi : i + 4 ≤ L) (Hq : Heap) (lcq : List Loc) (ls : Array Slot) (hI : LI G s A b x y oz a o ca i Hq lcq ls) (kk : ∀ (H' : Heap) (locs' : List Loc) (ls' : Array Slot), LI G s A b x y oz a o ca (i + 4) H' locs' ls' → W p l e room_1 s m args below meth c H' locs' (100 + (i + 4)) (3000 + 2 * (i + 4)) Q (F0 m 23 ls' [])) : W p l e room_1 s m args below meth c Hq lcq (100 + i) (3000 + 2 * i) Q (F0 m 1305 ls []) := by
  obtain ⟨T, g, n, ad, Ss, Gs, cs, tn, f, dn, rr, tr, tw, tx, tq, th, po, fl, tm, f1, pf, td, er, ov, hP, hD, hS, hl, gt, gs, jpf, jtn, jcs⟩ := hI
  have o4 := gt.1.1
  exact k_mostWorn p l e s m _ below meth c A _ b L xs x y oz a o ca i T g n ad Ss Gs cs tn f dn rr tr tw tx tq th po fl tm f1 pf td er ov C gt gs jpf jtn jcs hi Hq lcq ls hP hD hS hl kk
set_option maxHeartbeats 2000000 in
theorem d_rightness {G : GG} (p : Program) (l : Launch) (e : Env) (s : State) (m : MethodId) (args : Array Value) (below : List Frame) (meth : Method) (c : Code) (A : Nat → Prop) (Q : State → Prop) (b L : Nat) (xs : Nat → Int32) (x y oz : Nat) (a o ca : Nat → Nat) (i : Nat) (C : LC G p l s m args c A b L xs) (hi : i + 4 ≤ L) (Hq : Heap) (lcq : List Loc) (ls : Array Slot) (hI : LI G s A b x y oz a o ca i Hq lcq ls) (kk : ∀ (H' : Heap) (locs' : List Loc) (ls' : Array Slot), LI G s A b x y oz a o ca (i + 4) H' locs' ls' → W p l e room_1 s m args below meth c H' locs' (100 + (i + 4)) (3000 + 2 * (i + 4)) Q (F0 m 23 ls' [])) : W p l e room_1 s m args below meth c Hq lcq (100 + i) (3000 + 2 * i) Q (F0 m 1318 ls []) := by
  obtain ⟨T, g, n, ad, Ss, Gs, cs, tn, f, dn, rr, tr, tw, tx, tq, th, po, fl, tm, f1, pf, td, er, ov, hP, hD, hS, hl, gt, gs, jpf, jtn, jcs⟩ := hI
  have o4 := gt.1.1
  exact k_rightness p l e s m _ below meth c A _ b L xs x y oz a o ca i T g n ad Ss Gs cs tn f dn rr tr tw tx tq th po fl tm f1 pf td er ov C gt gs jpf jtn jcs hi Hq lcq ls hP hD hS hl kk
set_option maxHeartbeats 2000000 in
theorem d_digest {G : GG} (p : Program) (l : Launch) (e : Env) (s : State) (m : MethodId) (args : Array Value) (below : List Frame) (meth : Method) (c : Code) (A : Nat → Prop) (Q : State → Prop) (b L : Nat) (xs : Nat → Int32) (x y oz : Nat) (a o ca : Nat → Nat) (i : Nat) (C : LC G p l s m args c A b L xs) (hi : i + 4 ≤ L) (Hq : Heap) (lcq : List Loc) (ls : Array Slot) (hI : LI G s A b x y oz a o ca i Hq lcq ls) (kk : ∀ (H' : Heap) (locs' : List Loc) (ls' : Array Slot), LI G s A b x y oz a o ca (i + 4) H' locs' ls' → W p l e room_1 s m args below meth c H' locs' (100 + (i + 4)) (3000 + 2 * (i + 4)) Q (F0 m 23 ls' [])) : W p l e room_1 s m args below meth c Hq lcq (100 + i) (3000 + 2 * i) Q (F0 m 1359 ls []) := by
  obtain ⟨T, g, n, ad, Ss, Gs, cs, tn, f, dn, rr, tr, tw, tx, tq, th, po, fl, tm, f1, pf, td, er, ov, hP, hD, hS, hl, gt, gs, jpf, jtn, jcs⟩ := hI
  have o4 := gt.1.1
  exact k_digest p l e s m _ below meth c A _ b L xs x y oz a o ca i T g n ad Ss Gs cs tn f dn rr tr tw tx tq th po fl tm f1 pf td er ov C gt gs jpf jtn jcs hi Hq lcq ls hP hD hS hl kk
set_option maxHeartbeats 2000000 in
theorem d_begin {G : GG} (p : Program) (l : Launch) (e : Env) (s : State) (m : MethodId) (args : Array Value) (below : List Frame) (meth : Method) (c : Code) (A : Nat → Prop) (Q : State → Prop) (b L : Nat) (xs : Nat → Int32) (x y oz : Nat) (a o ca : Nat → Nat) (i : Nat) (C : LC G p l s m args c A b L xs) (hi : i + 4 ≤ L) (Hq : Heap) (lcq : List Loc) (ls : Array Slot) (hI : LI G s A b x y oz a o ca i Hq lcq ls) (kk : ∀ (H' : Heap) (locs' : List Loc) (ls' : Array Slot), LI G s A b x y oz a o ca (i + 4) H' locs' ls' → W p l e room_1 s m args below meth c H' locs' (100 + (i + 4)) (3000 + 2 * (i + 4)) Q (F0 m 23 ls' [])) : W p l e room_1 s m args below meth c Hq lcq (100 + i) (3000 + 2 * i) Q (F0 m 152 ls []) := by
  obtain ⟨T, g, n, ad, Ss, Gs, cs, tn, f, dn, rr, tr, tw, tx, tq, th, po, fl, tm, f1, pf, td, er, ov, hP, hD, hS, hl, gt, gs, jpf, jtn, jcs⟩ := hI
  have o4 := gt.1.1
  by_cases h : (0 ≤ (xs (i + 1)).toInt ∧ (xs (i + 1)).toInt ≤ 5) ∧ (0 ≤ (xs (i + 2)).toInt ∧ (xs (i + 2)).toInt ≤ 99)
  · obtain ⟨⟨h1, h2⟩, h3, h4⟩ := h
    obtain ⟨pw, e1, t1⟩ := nat_of (y := xs (i + 1)) (h1)
    obtain ⟨fi, e2, t2⟩ := nat_of (y := xs (i + 2)) (h3)
    exact k_begin p l e s m _ below meth c A _ b L xs x y oz a o ca i T g n ad Ss Gs cs tn f dn rr tr tw tx tq th po fl tm f1 pf td er ov pw fi C gt gs jpf jtn jcs e1 e2 (by omega) (by omega) hi Hq lcq ls hP hD hS hl kk
  · exact k_begin_t1 p l e s m _ below meth c A _ b L xs x y oz a o ca i T g n ad Ss Gs cs tn f dn rr tr tw tx tq th po fl tm f1 pf td er ov C gt gs jpf jtn jcs h hi Hq lcq ls hP hD hS hl kk
set_option maxHeartbeats 2000000 in
theorem d_print {G : GG} (p : Program) (l : Launch) (e : Env) (s : State) (m : MethodId) (args : Array Value) (below : List Frame) (meth : Method) (c : Code) (A : Nat → Prop) (Q : State → Prop) (b L : Nat) (xs : Nat → Int32) (x y oz : Nat) (a o ca : Nat → Nat) (i : Nat) (C : LC G p l s m args c A b L xs) (hi : i + 4 ≤ L) (Hq : Heap) (lcq : List Loc) (ls : Array Slot) (hI : LI G s A b x y oz a o ca i Hq lcq ls) (kk : ∀ (H' : Heap) (locs' : List Loc) (ls' : Array Slot), LI G s A b x y oz a o ca (i + 4) H' locs' ls' → W p l e room_1 s m args below meth c H' locs' (100 + (i + 4)) (3000 + 2 * (i + 4)) Q (F0 m 23 ls' [])) : W p l e room_1 s m args below meth c Hq lcq (100 + i) (3000 + 2 * i) Q (F0 m 220 ls []) := by
  obtain ⟨T, g, n, ad, Ss, Gs, cs, tn, f, dn, rr, tr, tw, tx, tq, th, po, fl, tm, f1, pf, td, er, ov, hP, hD, hS, hl, gt, gs, jpf, jtn, jcs⟩ := hI
  have o4 := gt.1.1
  by_cases h : (1 ≤ (xs (i + 1)).toInt ∧ (xs (i + 1)).toInt ≤ 40)
  · obtain ⟨h1, h2⟩ := h
    obtain ⟨k9, e1, t1⟩ := nat_of (y := xs (i + 1)) (by omega)
    by_cases h3 : T.s 4 + k9 ≤ 40
    · exact k_print p l e s m _ below meth c A _ b L xs x y oz a o ca i T g n ad Ss Gs cs tn f dn rr tr tw tx tq th po fl tm f1 pf td er ov k9 C gt gs jpf jtn jcs e1 (by omega) (by omega) h3 hi Hq lcq ls hP hD hS hl kk
    · exact k_print_t2 p l e s m _ below meth c A _ b L xs x y oz a o ca i T g n ad Ss Gs cs tn f dn rr tr tw tx tq th po fl tm f1 pf td er ov k9 C gt gs jpf jtn jcs e1 (by omega) (by omega) (by omega) hi Hq lcq ls hP hD hS hl kk
  · exact k_print_t1 p l e s m _ below meth c A _ b L xs x y oz a o ca i T g n ad Ss Gs cs tn f dn rr tr tw tx tq th po fl tm f1 pf td er ov C gt gs jpf jtn jcs h hi Hq lcq ls hP hD hS hl kk
set_option maxHeartbeats 2000000 in
theorem d_slip {G : GG} (p : Program) (l : Launch) (e : Env) (s : State) (m : MethodId) (args : Array Value) (below : List Frame) (meth : Method) (c : Code) (A : Nat → Prop) (Q : State → Prop) (b L : Nat) (xs : Nat → Int32) (x y oz : Nat) (a o ca : Nat → Nat) (i : Nat) (C : LC G p l s m args c A b L xs) (hi : i + 4 ≤ L) (Hq : Heap) (lcq : List Loc) (ls : Array Slot) (hI : LI G s A b x y oz a o ca i Hq lcq ls) (kk : ∀ (H' : Heap) (locs' : List Loc) (ls' : Array Slot), LI G s A b x y oz a o ca (i + 4) H' locs' ls' → W p l e room_1 s m args below meth c H' locs' (100 + (i + 4)) (3000 + 2 * (i + 4)) Q (F0 m 23 ls' [])) : W p l e room_1 s m args below meth c Hq lcq (100 + i) (3000 + 2 * i) Q (F0 m 276 ls []) := by
  obtain ⟨T, g, n, ad, Ss, Gs, cs, tn, f, dn, rr, tr, tw, tx, tq, th, po, fl, tm, f1, pf, td, er, ov, hP, hD, hS, hl, gt, gs, jpf, jtn, jcs⟩ := hI
  have o4 := gt.1.1
  by_cases h : (0 ≤ (xs (i + 1)).toInt ∧ (xs (i + 1)).toInt ≤ 5)
  · by_cases h3 : (0 ≤ (xs (i + 2)).toInt ∧ (xs (i + 2)).toInt ≤ 9) ∧ (-9 ≤ (xs (i + 3)).toInt ∧ (xs (i + 3)).toInt ≤ 9)
    · obtain ⟨⟨q1, q2⟩, q3, q4⟩ := h3
      obtain ⟨j9, e1, t1⟩ := nat_of (y := xs (i + 1)) (h.1)
      obtain ⟨k9, e2, t2⟩ := nat_of (y := xs (i + 2)) (q1)
      by_cases h4 : -99999999999 ≤ T.r j9 + slA (xs (i + 3)) k9 ∧ T.r j9 + slA (xs (i + 3)) k9 ≤ lN 99999999999
      · exact k_slip p l e s m _ below meth c A _ b L xs x y oz a o ca i T g n ad Ss Gs cs tn f dn rr tr tw tx tq th po fl tm f1 pf td er ov j9 k9 C gt gs jpf jtn jcs e1 e2 (by omega) (by omega) ⟨q3, q4⟩ h4 hi Hq lcq ls hP hD hS hl kk
      · exact k_slip_t3 p l e s m _ below meth c A _ b L xs x y oz a o ca i T g n ad Ss Gs cs tn f dn rr tr tw tx tq th po fl tm f1 pf td er ov j9 k9 C gt gs jpf jtn jcs e1 e2 (by omega) (by omega) ⟨q3, q4⟩ h4 hi Hq lcq ls hP hD hS hl kk
    · exact k_slip_t2 p l e s m _ below meth c A _ b L xs x y oz a o ca i T g n ad Ss Gs cs tn f dn rr tr tw tx tq th po fl tm f1 pf td er ov C gt gs jpf jtn jcs h h3 hi Hq lcq ls hP hD hS hl kk
  · exact k_slip_t1 p l e s m _ below meth c A _ b L xs x y oz a o ca i T g n ad Ss Gs cs tn f dn rr tr tw tx tq th po fl tm f1 pf td er ov C gt gs jpf jtn jcs h hi Hq lcq ls hP hD hS hl kk
set_option maxHeartbeats 2000000 in
theorem d_strike {G : GG} (p : Program) (l : Launch) (e : Env) (s : State) (m : MethodId) (args : Array Value) (below : List Frame) (meth : Method) (c : Code) (A : Nat → Prop) (Q : State → Prop) (b L : Nat) (xs : Nat → Int32) (x y oz : Nat) (a o ca : Nat → Nat) (i : Nat) (C : LC G p l s m args c A b L xs) (hi : i + 4 ≤ L) (Hq : Heap) (lcq : List Loc) (ls : Array Slot) (hI : LI G s A b x y oz a o ca i Hq lcq ls) (kk : ∀ (H' : Heap) (locs' : List Loc) (ls' : Array Slot), LI G s A b x y oz a o ca (i + 4) H' locs' ls' → W p l e room_1 s m args below meth c H' locs' (100 + (i + 4)) (3000 + 2 * (i + 4)) Q (F0 m 23 ls' [])) : W p l e room_1 s m args below meth c Hq lcq (100 + i) (3000 + 2 * i) Q (F0 m 368 ls []) := by
  obtain ⟨T, g, n, ad, Ss, Gs, cs, tn, f, dn, rr, tr, tw, tx, tq, th, po, fl, tm, f1, pf, td, er, ov, hP, hD, hS, hl, gt, gs, jpf, jtn, jcs⟩ := hI
  have o4 := gt.1.1
  by_cases h : 0 ≤ (xs (i + 1)).toInt ∧ (xs (i + 1)).toInt < (T.s 4 : Int)
  · obtain ⟨h1, h2⟩ := h
    obtain ⟨i8, e1, t1⟩ := nat_of (y := xs (i + 1)) (h1)
    exact k_strike p l e s m _ below meth c A _ b L xs x y oz a o ca i T g n ad Ss Gs cs tn f dn rr tr tw tx tq th po fl tm f1 pf td er ov i8 C gt gs jpf jtn jcs e1 (by omega) hi Hq lcq ls hP hD hS hl kk
  · exact k_strike_t1 p l e s m _ below meth c A _ b L xs x y oz a o ca i T g n ad Ss Gs cs tn f dn rr tr tw tx tq th po fl tm f1 pf td er ov C gt gs jpf jtn jcs h hi Hq lcq ls hP hD hS hl kk
set_option maxHeartbeats 2000000 in
theorem d_renew {G : GG} (p : Program) (l : Launch) (e : Env) (s : State) (m : MethodId) (args : Array Value) (below : List Frame) (meth : Method) (c : Code) (A : Nat → Prop) (Q : State → Prop) (b L : Nat) (xs : Nat → Int32) (x y oz : Nat) (a o ca : Nat → Nat) (i : Nat) (C : LC G p l s m args c A b L xs) (hi : i + 4 ≤ L) (Hq : Heap) (lcq : List Loc) (ls : Array Slot) (hI : LI G s A b x y oz a o ca i Hq lcq ls) (kk : ∀ (H' : Heap) (locs' : List Loc) (ls' : Array Slot), LI G s A b x y oz a o ca (i + 4) H' locs' ls' → W p l e room_1 s m args below meth c H' locs' (100 + (i + 4)) (3000 + 2 * (i + 4)) Q (F0 m 23 ls' [])) : W p l e room_1 s m args below meth c Hq lcq (100 + i) (3000 + 2 * i) Q (F0 m 424 ls []) := by
  obtain ⟨T, g, n, ad, Ss, Gs, cs, tn, f, dn, rr, tr, tw, tx, tq, th, po, fl, tm, f1, pf, td, er, ov, hP, hD, hS, hl, gt, gs, jpf, jtn, jcs⟩ := hI
  have o4 := gt.1.1
  by_cases h : (0 ≤ (xs (i + 1)).toInt ∧ (xs (i + 1)).toInt ≤ 9)
  · obtain ⟨h1, h2⟩ := h
    obtain ⟨d9, e1, t1⟩ := nat_of (y := xs (i + 1)) (h1)
    exact k_renew p l e s m _ below meth c A _ b L xs x y oz a o ca i T g n ad Ss Gs cs tn f dn rr tr tw tx tq th po fl tm f1 pf td er ov d9 C gt gs jpf jtn jcs e1 (by omega) hi Hq lcq ls hP hD hS hl kk
  · exact k_renew_t1 p l e s m _ below meth c A _ b L xs x y oz a o ca i T g n ad Ss Gs cs tn f dn rr tr tw tx tq th po fl tm f1 pf td er ov C gt gs jpf jtn jcs h hi Hq lcq ls hP hD hS hl kk
set_option maxHeartbeats 2000000 in
theorem d_wear {G : GG} (p : Program) (l : Launch) (e : Env) (s : State) (m : MethodId) (args : Array Value) (below : List Frame) (meth : Method) (c : Code) (A : Nat → Prop) (Q : State → Prop) (b L : Nat) (xs : Nat → Int32) (x y oz : Nat) (a o ca : Nat → Nat) (i : Nat) (C : LC G p l s m args c A b L xs) (hi : i + 4 ≤ L) (Hq : Heap) (lcq : List Loc) (ls : Array Slot) (hI : LI G s A b x y oz a o ca i Hq lcq ls) (kk : ∀ (H' : Heap) (locs' : List Loc) (ls' : Array Slot), LI G s A b x y oz a o ca (i + 4) H' locs' ls' → W p l e room_1 s m args below meth c H' locs' (100 + (i + 4)) (3000 + 2 * (i + 4)) Q (F0 m 23 ls' [])) : W p l e room_1 s m args below meth c Hq lcq (100 + i) (3000 + 2 * i) Q (F0 m 1002 ls []) := by
  obtain ⟨T, g, n, ad, Ss, Gs, cs, tn, f, dn, rr, tr, tw, tx, tq, th, po, fl, tm, f1, pf, td, er, ov, hP, hD, hS, hl, gt, gs, jpf, jtn, jcs⟩ := hI
  have o4 := gt.1.1
  by_cases h : (0 ≤ (xs (i + 1)).toInt ∧ (xs (i + 1)).toInt ≤ 9)
  · obtain ⟨h1, h2⟩ := h
    obtain ⟨d9, e1, t1⟩ := nat_of (y := xs (i + 1)) (h1)
    exact k_wear p l e s m _ below meth c A _ b L xs x y oz a o ca i T g n ad Ss Gs cs tn f dn rr tr tw tx tq th po fl tm f1 pf td er ov d9 C gt gs jpf jtn jcs e1 (by omega) hi Hq lcq ls hP hD hS hl kk
  · exact k_wear_t1 p l e s m _ below meth c A _ b L xs x y oz a o ca i T g n ad Ss Gs cs tn f dn rr tr tw tx tq th po fl tm f1 pf td er ov C gt gs jpf jtn jcs h hi Hq lcq ls hP hD hS hl kk
set_option maxHeartbeats 2000000 in
theorem d_count {G : GG} (p : Program) (l : Launch) (e : Env) (s : State) (m : MethodId) (args : Array Value) (below : List Frame) (meth : Method) (c : Code) (A : Nat → Prop) (Q : State → Prop) (b L : Nat) (xs : Nat → Int32) (x y oz : Nat) (a o ca : Nat → Nat) (i : Nat) (C : LC G p l s m args c A b L xs) (hi : i + 4 ≤ L) (Hq : Heap) (lcq : List Loc) (ls : Array Slot) (hI : LI G s A b x y oz a o ca i Hq lcq ls) (kk : ∀ (H' : Heap) (locs' : List Loc) (ls' : Array Slot), LI G s A b x y oz a o ca (i + 4) H' locs' ls' → W p l e room_1 s m args below meth c H' locs' (100 + (i + 4)) (3000 + 2 * (i + 4)) Q (F0 m 23 ls' [])) : W p l e room_1 s m args below meth c Hq lcq (100 + i) (3000 + 2 * i) Q (F0 m 1058 ls []) := by
  obtain ⟨T, g, n, ad, Ss, Gs, cs, tn, f, dn, rr, tr, tw, tx, tq, th, po, fl, tm, f1, pf, td, er, ov, hP, hD, hS, hl, gt, gs, jpf, jtn, jcs⟩ := hI
  have o4 := gt.1.1
  by_cases h : (0 ≤ (xs (i + 1)).toInt ∧ (xs (i + 1)).toInt ≤ 11)
  · obtain ⟨h1, h2⟩ := h
    obtain ⟨w9, e1, t1⟩ := nat_of (y := xs (i + 1)) (h1)
    exact k_count p l e s m _ below meth c A _ b L xs x y oz a o ca i T g n ad Ss Gs cs tn f dn rr tr tw tx tq th po fl tm f1 pf td er ov w9 C gt gs jpf jtn jcs e1 (by omega) hi Hq lcq ls hP hD hS hl kk
  · exact k_count_t1 p l e s m _ below meth c A _ b L xs x y oz a o ca i T g n ad Ss Gs cs tn f dn rr tr tw tx tq th po fl tm f1 pf td er ov C gt gs jpf jtn jcs h hi Hq lcq ls hP hD hS hl kk
set_option maxHeartbeats 2000000 in
theorem d_setting {G : GG} (p : Program) (l : Launch) (e : Env) (s : State) (m : MethodId) (args : Array Value) (below : List Frame) (meth : Method) (c : Code) (A : Nat → Prop) (Q : State → Prop) (b L : Nat) (xs : Nat → Int32) (x y oz : Nat) (a o ca : Nat → Nat) (i : Nat) (C : LC G p l s m args c A b L xs) (hi : i + 4 ≤ L) (Hq : Heap) (lcq : List Loc) (ls : Array Slot) (hI : LI G s A b x y oz a o ca i Hq lcq ls) (kk : ∀ (H' : Heap) (locs' : List Loc) (ls' : Array Slot), LI G s A b x y oz a o ca (i + 4) H' locs' ls' → W p l e room_1 s m args below meth c H' locs' (100 + (i + 4)) (3000 + 2 * (i + 4)) Q (F0 m 23 ls' [])) : W p l e room_1 s m args below meth c Hq lcq (100 + i) (3000 + 2 * i) Q (F0 m 1114 ls []) := by
  obtain ⟨T, g, n, ad, Ss, Gs, cs, tn, f, dn, rr, tr, tw, tx, tq, th, po, fl, tm, f1, pf, td, er, ov, hP, hD, hS, hl, gt, gs, jpf, jtn, jcs⟩ := hI
  have o4 := gt.1.1
  by_cases h : (0 ≤ (xs (i + 1)).toInt ∧ (xs (i + 1)).toInt ≤ 1)
  · obtain ⟨h1, h2⟩ := h
    obtain ⟨k9, e1, t1⟩ := nat_of (y := xs (i + 1)) (h1)
    exact k_setting p l e s m _ below meth c A _ b L xs x y oz a o ca i T g n ad Ss Gs cs tn f dn rr tr tw tx tq th po fl tm f1 pf td er ov k9 C gt gs jpf jtn jcs e1 (by omega) hi Hq lcq ls hP hD hS hl kk
  · exact k_setting_t1 p l e s m _ below meth c A _ b L xs x y oz a o ca i T g n ad Ss Gs cs tn f dn rr tr tw tx tq th po fl tm f1 pf td er ov C gt gs jpf jtn jcs h hi Hq lcq ls hP hD hS hl kk
set_option maxHeartbeats 2000000 in
theorem d_guess {G : GG} (p : Program) (l : Launch) (e : Env) (s : State) (m : MethodId) (args : Array Value) (below : List Frame) (meth : Method) (c : Code) (A : Nat → Prop) (Q : State → Prop) (b L : Nat) (xs : Nat → Int32) (x y oz : Nat) (a o ca : Nat → Nat) (i : Nat) (C : LC G p l s m args c A b L xs) (hi : i + 4 ≤ L) (Hq : Heap) (lcq : List Loc) (ls : Array Slot) (hI : LI G s A b x y oz a o ca i Hq lcq ls) (kk : ∀ (H' : Heap) (locs' : List Loc) (ls' : Array Slot), LI G s A b x y oz a o ca (i + 4) H' locs' ls' → W p l e room_1 s m args below meth c H' locs' (100 + (i + 4)) (3000 + 2 * (i + 4)) Q (F0 m 23 ls' [])) : W p l e room_1 s m args below meth c Hq lcq (100 + i) (3000 + 2 * i) Q (F0 m 1170 ls []) := by
  obtain ⟨T, g, n, ad, Ss, Gs, cs, tn, f, dn, rr, tr, tw, tx, tq, th, po, fl, tm, f1, pf, td, er, ov, hP, hD, hS, hl, gt, gs, jpf, jtn, jcs⟩ := hI
  have o4 := gt.1.1
  by_cases h : (0 ≤ (xs (i + 1)).toInt ∧ (xs (i + 1)).toInt ≤ 2)
  · obtain ⟨h1, h2⟩ := h
    obtain ⟨w9, e1, t1⟩ := nat_of (y := xs (i + 1)) (h1)
    exact k_guess p l e s m _ below meth c A _ b L xs x y oz a o ca i T g n ad Ss Gs cs tn f dn rr tr tw tx tq th po fl tm f1 pf td er ov w9 C gt gs jpf jtn jcs e1 (by omega) hi Hq lcq ls hP hD hS hl kk
  · exact k_guess_t1 p l e s m _ below meth c A _ b L xs x y oz a o ca i T g n ad Ss Gs cs tn f dn rr tr tw tx tq th po fl tm f1 pf td er ov C gt gs jpf jtn jcs h hi Hq lcq ls hP hD hS hl kk
set_option maxHeartbeats 2000000 in
theorem d_set {G : GG} (p : Program) (l : Launch) (e : Env) (s : State) (m : MethodId) (args : Array Value) (below : List Frame) (meth : Method) (c : Code) (A : Nat → Prop) (Q : State → Prop) (b L : Nat) (xs : Nat → Int32) (x y oz : Nat) (a o ca : Nat → Nat) (i : Nat) (C : LC G p l s m args c A b L xs) (hi : i + 4 ≤ L) (Hq : Heap) (lcq : List Loc) (ls : Array Slot) (hI : LI G s A b x y oz a o ca i Hq lcq ls) (kk : ∀ (H' : Heap) (locs' : List Loc) (ls' : Array Slot), LI G s A b x y oz a o ca (i + 4) H' locs' ls' → W p l e room_1 s m args below meth c H' locs' (100 + (i + 4)) (3000 + 2 * (i + 4)) Q (F0 m 23 ls' [])) : W p l e room_1 s m args below meth c Hq lcq (100 + i) (3000 + 2 * i) Q (F0 m 480 ls []) := by
  obtain ⟨T, g, n, ad, Ss, Gs, cs, tn, f, dn, rr, tr, tw, tx, tq, th, po, fl, tm, f1, pf, td, er, ov, hP, hD, hS, hl, gt, gs, jpf, jtn, jcs⟩ := hI
  have o4 := gt.1.1
  by_cases h : (0 ≤ (xs (i + 1)).toInt ∧ (xs (i + 1)).toInt ≤ 1)
  · obtain ⟨h1, h2⟩ := h
    obtain ⟨k9, e1, t1⟩ := nat_of (y := xs (i + 1)) (h1)
    rcases (show k9 = 0 ∨ k9 = 1 by omega) with rfl | rfl
    · by_cases h3 : (1 ≤ (xs (i + 2)).toInt ∧ (xs (i + 2)).toInt ≤ 20)
      · obtain ⟨h4, h5⟩ := h3
        obtain ⟨v9, e2, t2⟩ := nat_of (y := xs (i + 2)) (by omega)
        exact k_set p l e s m _ below meth c A _ b L xs x y oz a o ca i T g n ad Ss Gs cs tn f dn rr tr tw tx tq th po fl tm f1 pf td er ov 0 v9 C gt gs jpf jtn jcs e1 e2 (by omega) (by omega) (fun z9 => by omega) (by omega) hi Hq lcq ls hP hD hS hl kk
      · exact k_set_t2 p l e s m _ below meth c A _ b L xs x y oz a o ca i T g n ad Ss Gs cs tn f dn rr tr tw tx tq th po fl tm f1 pf td er ov C gt gs jpf jtn jcs e1 h3 hi Hq lcq ls hP hD hS hl kk
    · by_cases h3 : (1 ≤ (xs (i + 2)).toInt ∧ (xs (i + 2)).toInt ≤ 999)
      · obtain ⟨h4, h5⟩ := h3
        obtain ⟨v9, e2, t2⟩ := nat_of (y := xs (i + 2)) (by omega)
        exact k_set p l e s m _ below meth c A _ b L xs x y oz a o ca i T g n ad Ss Gs cs tn f dn rr tr tw tx tq th po fl tm f1 pf td er ov 1 v9 C gt gs jpf jtn jcs e1 e2 (by omega) (by omega) (fun z9 => by omega) (by omega) hi Hq lcq ls hP hD hS hl kk
      · exact k_set_t3 p l e s m _ below meth c A _ b L xs x y oz a o ca i T g n ad Ss Gs cs tn f dn rr tr tw tx tq th po fl tm f1 pf td er ov C gt gs jpf jtn jcs e1 h3 hi Hq lcq ls hP hD hS hl kk
  · exact k_set_t1 p l e s m _ below meth c A _ b L xs x y oz a o ca i T g n ad Ss Gs cs tn f dn rr tr tw tx tq th po fl tm f1 pf td er ov C gt gs jpf jtn jcs h hi Hq lcq ls hP hD hS hl kk
set_option maxHeartbeats 2000000 in
theorem d_append {G : GG} (p : Program) (l : Launch) (e : Env) (s : State) (m : MethodId) (args : Array Value) (below : List Frame) (meth : Method) (c : Code) (A : Nat → Prop) (Q : State → Prop) (b L : Nat) (xs : Nat → Int32) (x y oz : Nat) (a o ca : Nat → Nat) (i : Nat) (C : LC G p l s m args c A b L xs) (hi : i + 4 ≤ L) (Hq : Heap) (lcq : List Loc) (ls : Array Slot) (hI : LI G s A b x y oz a o ca i Hq lcq ls) (kk : ∀ (H' : Heap) (locs' : List Loc) (ls' : Array Slot), LI G s A b x y oz a o ca (i + 4) H' locs' ls' → W p l e room_1 s m args below meth c H' locs' (100 + (i + 4)) (3000 + 2 * (i + 4)) Q (F0 m 23 ls' [])) : W p l e room_1 s m args below meth c Hq lcq (100 + i) (3000 + 2 * i) Q (F0 m 548 ls []) := by
  obtain ⟨T, g, n, ad, Ss, Gs, cs, tn, f, dn, rr, tr, tw, tx, tq, th, po, fl, tm, f1, pf, td, er, ov, hP, hD, hS, hl, gt, gs, jpf, jtn, jcs⟩ := hI
  have o4 := gt.1.1
  by_cases h : (33 ≤ (xs (i + 1)).toInt ∧ (xs (i + 1)).toInt ≤ 126)
  · obtain ⟨h1, h2⟩ := h
    obtain ⟨ch, e1, t1⟩ := nat_of (y := xs (i + 1)) (by omega)
    by_cases h3 : tn < 60
    · exact k_append p l e s m _ below meth c A _ b L xs x y oz a o ca i T g n ad Ss Gs cs tn f dn rr tr tw tx tq th po fl tm f1 pf td er ov ch C gt gs jpf jtn jcs e1 (by omega) (by omega) h3 hi Hq lcq ls hP hD hS hl kk
    · exact k_append_t2 p l e s m _ below meth c A _ b L xs x y oz a o ca i T g n ad Ss Gs cs tn f dn rr tr tw tx tq th po fl tm f1 pf td er ov ch C gt gs jpf jtn jcs e1 (by omega) (by omega) (by omega) hi Hq lcq ls hP hD hS hl kk
  · exact k_append_t1 p l e s m _ below meth c A _ b L xs x y oz a o ca i T g n ad Ss Gs cs tn f dn rr tr tw tx tq th po fl tm f1 pf td er ov C gt gs jpf jtn jcs h hi Hq lcq ls hP hD hS hl kk
set_option maxHeartbeats 2000000 in
theorem d_obey {G : GG} (p : Program) (l : Launch) (e : Env) (s : State) (m : MethodId) (args : Array Value) (below : List Frame) (meth : Method) (c : Code) (A : Nat → Prop) (Q : State → Prop) (b L : Nat) (xs : Nat → Int32) (x y oz : Nat) (a o ca : Nat → Nat) (i : Nat) (C : LC G p l s m args c A b L xs) (hi : i + 4 ≤ L) (Hq : Heap) (lcq : List Loc) (ls : Array Slot) (hI : LI G s A b x y oz a o ca i Hq lcq ls) (kk : ∀ (H' : Heap) (locs' : List Loc) (ls' : Array Slot), LI G s A b x y oz a o ca (i + 4) H' locs' ls' → W p l e room_1 s m args below meth c H' locs' (100 + (i + 4)) (3000 + 2 * (i + 4)) Q (F0 m 23 ls' [])) : W p l e room_1 s m args below meth c Hq lcq (100 + i) (3000 + 2 * i) Q (F0 m 630 ls []) := by
  obtain ⟨T, g, n, ad, Ss, Gs, cs, tn, f, dn, rr, tr, tw, tx, tq, th, po, fl, tm, f1, pf, td, er, ov, hP, hD, hS, hl, gt, gs, jpf, jtn, jcs⟩ := hI
  have o4 := gt.1.1
  by_cases h : rnA cs tn = 9 ∨ rnA cs tn = 2 ∨ rnA cs tn = 3
  · exact k_obey p l e s m _ below meth c A _ b L xs x y oz a o ca i T g n ad Ss Gs cs tn f dn rr tr tw tx tq th po fl tm f1 pf td er ov C gt gs jpf jtn jcs h hi Hq lcq ls hP hD hS hl kk
  · exact k_obey_t1 p l e s m _ below meth c A _ b L xs x y oz a o ca i T g n ad Ss Gs cs tn f dn rr tr tw tx tq th po fl tm f1 pf td er ov C gt gs jpf jtn jcs h hi Hq lcq ls hP hD hS hl kk
set_option maxHeartbeats 2000000 in
theorem d_undo {G : GG} (p : Program) (l : Launch) (e : Env) (s : State) (m : MethodId) (args : Array Value) (below : List Frame) (meth : Method) (c : Code) (A : Nat → Prop) (Q : State → Prop) (b L : Nat) (xs : Nat → Int32) (x y oz : Nat) (a o ca : Nat → Nat) (i : Nat) (C : LC G p l s m args c A b L xs) (hi : i + 4 ≤ L) (Hq : Heap) (lcq : List Loc) (ls : Array Slot) (hI : LI G s A b x y oz a o ca i Hq lcq ls) (kk : ∀ (H' : Heap) (locs' : List Loc) (ls' : Array Slot), LI G s A b x y oz a o ca (i + 4) H' locs' ls' → W p l e room_1 s m args below meth c H' locs' (100 + (i + 4)) (3000 + 2 * (i + 4)) Q (F0 m 23 ls' [])) : W p l e room_1 s m args below meth c Hq lcq (100 + i) (3000 + 2 * i) Q (F0 m 674 ls []) := by
  obtain ⟨T, g, n, ad, Ss, Gs, cs, tn, f, dn, rr, tr, tw, tx, tq, th, po, fl, tm, f1, pf, td, er, ov, hP, hD, hS, hl, gt, gs, jpf, jtn, jcs⟩ := hI
  have o4 := gt.1.1
  by_cases h : n = 0
  · exact k_undo_t1 p l e s m _ below meth c A _ b L xs x y oz a o ca i T g n ad Ss Gs cs tn f dn rr tr tw tx tq th po fl tm f1 pf td er ov C gt gs jpf jtn jcs h hi Hq lcq ls hP hD hS hl kk
  · exact k_undo p l e s m _ below meth c A _ b L xs x y oz a o ca i T g n ad Ss Gs cs tn f dn rr tr tw tx tq th po fl tm f1 pf td er ov C gt gs jpf jtn jcs (by omega) hi Hq lcq ls hP hD hS hl kk
set_option maxHeartbeats 2000000 in
theorem d_row {G : GG} (p : Program) (l : Launch) (e : Env) (s : State) (m : MethodId) (args : Array Value) (below : List Frame) (meth : Method) (c : Code) (A : Nat → Prop) (Q : State → Prop) (b L : Nat) (xs : Nat → Int32) (x y oz : Nat) (a o ca : Nat → Nat) (i : Nat) (C : LC G p l s m args c A b L xs) (hi : i + 4 ≤ L) (Hq : Heap) (lcq : List Loc) (ls : Array Slot) (hI : LI G s A b x y oz a o ca i Hq lcq ls) (kk : ∀ (H' : Heap) (locs' : List Loc) (ls' : Array Slot), LI G s A b x y oz a o ca (i + 4) H' locs' ls' → W p l e room_1 s m args below meth c H' locs' (100 + (i + 4)) (3000 + 2 * (i + 4)) Q (F0 m 23 ls' [])) : W p l e room_1 s m args below meth c Hq lcq (100 + i) (3000 + 2 * i) Q (F0 m 718 ls []) := by
  obtain ⟨T, g, n, ad, Ss, Gs, cs, tn, f, dn, rr, tr, tw, tx, tq, th, po, fl, tm, f1, pf, td, er, ov, hP, hD, hS, hl, gt, gs, jpf, jtn, jcs⟩ := hI
  have o4 := gt.1.1
  by_cases h : 0 ≤ (xs (i + 1)).toInt ∧ (xs (i + 1)).toInt < (T.s 4 : Int)
  · by_cases h3 : (0 ≤ (xs (i + 2)).toInt ∧ (xs (i + 2)).toInt ≤ 4)
    · obtain ⟨h4, h5⟩ := h3
      obtain ⟨i8, e1, t1⟩ := nat_of (y := xs (i + 1)) (h.1)
      obtain ⟨w9, e2, t2⟩ := nat_of (y := xs (i + 2)) (h4)
      exact k_row p l e s m _ below meth c A _ b L xs x y oz a o ca i T g n ad Ss Gs cs tn f dn rr tr tw tx tq th po fl tm f1 pf td er ov i8 w9 C gt gs jpf jtn jcs e1 e2 (by omega) (by omega) hi Hq lcq ls hP hD hS hl kk
    · exact k_row_t2 p l e s m _ below meth c A _ b L xs x y oz a o ca i T g n ad Ss Gs cs tn f dn rr tr tw tx tq th po fl tm f1 pf td er ov C gt gs jpf jtn jcs h h3 hi Hq lcq ls hP hD hS hl kk
  · exact k_row_t1 p l e s m _ below meth c A _ b L xs x y oz a o ca i T g n ad Ss Gs cs tn f dn rr tr tw tx tq th po fl tm f1 pf td er ov C gt gs jpf jtn jcs h hi Hq lcq ls hP hD hS hl kk
set_option maxHeartbeats 2000000 in
theorem d_register {G : GG} (p : Program) (l : Launch) (e : Env) (s : State) (m : MethodId) (args : Array Value) (below : List Frame) (meth : Method) (c : Code) (A : Nat → Prop) (Q : State → Prop) (b L : Nat) (xs : Nat → Int32) (x y oz : Nat) (a o ca : Nat → Nat) (i : Nat) (C : LC G p l s m args c A b L xs) (hi : i + 4 ≤ L) (Hq : Heap) (lcq : List Loc) (ls : Array Slot) (hI : LI G s A b x y oz a o ca i Hq lcq ls) (kk : ∀ (H' : Heap) (locs' : List Loc) (ls' : Array Slot), LI G s A b x y oz a o ca (i + 4) H' locs' ls' → W p l e room_1 s m args below meth c H' locs' (100 + (i + 4)) (3000 + 2 * (i + 4)) Q (F0 m 23 ls' [])) : W p l e room_1 s m args below meth c Hq lcq (100 + i) (3000 + 2 * i) Q (F0 m 785 ls []) := by
  obtain ⟨T, g, n, ad, Ss, Gs, cs, tn, f, dn, rr, tr, tw, tx, tq, th, po, fl, tm, f1, pf, td, er, ov, hP, hD, hS, hl, gt, gs, jpf, jtn, jcs⟩ := hI
  have o4 := gt.1.1
  by_cases h : (0 ≤ (xs (i + 1)).toInt ∧ (xs (i + 1)).toInt ≤ 5)
  · obtain ⟨h1, h2⟩ := h
    obtain ⟨j9, e1, t1⟩ := nat_of (y := xs (i + 1)) (h1)
    by_cases h3 : xs (i + 2) = 0
    · exact k_register_0 p l e s m _ below meth c A _ b L xs x y oz a o ca i T g n ad Ss Gs cs tn f dn rr tr tw tx tq th po fl tm f1 pf td er ov j9 C gt gs jpf jtn jcs e1 h3 (by omega) hi Hq lcq ls hP hD hS hl kk
    · exact k_register_1 p l e s m _ below meth c A _ b L xs x y oz a o ca i T g n ad Ss Gs cs tn f dn rr tr tw tx tq th po fl tm f1 pf td er ov j9 C gt gs jpf jtn jcs e1 h3 (by omega) hi Hq lcq ls hP hD hS hl kk
  · exact k_register_t1 p l e s m _ below meth c A _ b L xs x y oz a o ca i T g n ad Ss Gs cs tn f dn rr tr tw tx tq th po fl tm f1 pf td er ov C gt gs jpf jtn jcs h hi Hq lcq ls hP hD hS hl kk
set_option maxHeartbeats 2000000 in
theorem d_group {G : GG} (p : Program) (l : Launch) (e : Env) (s : State) (m : MethodId) (args : Array Value) (below : List Frame) (meth : Method) (c : Code) (A : Nat → Prop) (Q : State → Prop) (b L : Nat) (xs : Nat → Int32) (x y oz : Nat) (a o ca : Nat → Nat) (i : Nat) (C : LC G p l s m args c A b L xs) (hi : i + 4 ≤ L) (Hq : Heap) (lcq : List Loc) (ls : Array Slot) (hI : LI G s A b x y oz a o ca i Hq lcq ls) (kk : ∀ (H' : Heap) (locs' : List Loc) (ls' : Array Slot), LI G s A b x y oz a o ca (i + 4) H' locs' ls' → W p l e room_1 s m args below meth c H' locs' (100 + (i + 4)) (3000 + 2 * (i + 4)) Q (F0 m 23 ls' [])) : W p l e room_1 s m args below meth c Hq lcq (100 + i) (3000 + 2 * i) Q (F0 m 868 ls []) := by
  obtain ⟨T, g, n, ad, Ss, Gs, cs, tn, f, dn, rr, tr, tw, tx, tq, th, po, fl, tm, f1, pf, td, er, ov, hP, hD, hS, hl, gt, gs, jpf, jtn, jcs⟩ := hI
  have o4 := gt.1.1
  by_cases h : 0 ≤ (xs (i + 1)).toInt ∧ (0 ≤ (xs (i + 2)).toInt ∧ (xs (i + 2)).toInt ≤ 3)
  · obtain ⟨h1, h2, h3⟩ := h
    obtain ⟨q9, e1, t1⟩ := nat_of (y := xs (i + 1)) (h1)
    obtain ⟨w9, e2, t2⟩ := nat_of (y := xs (i + 2)) (h2)
    have b9 := toInt_lt (xs (i + 1))
    exact k_group p l e s m _ below meth c A _ b L xs x y oz a o ca i T g n ad Ss Gs cs tn f dn rr tr tw tx tq th po fl tm f1 pf td er ov q9 w9 C gt gs jpf jtn jcs e1 e2 (by omega) (by omega) hi Hq lcq ls hP hD hS hl kk
  · exact k_group_t1 p l e s m _ below meth c A _ b L xs x y oz a o ca i T g n ad Ss Gs cs tn f dn rr tr tw tx tq th po fl tm f1 pf td er ov C gt gs jpf jtn jcs h hi Hq lcq ls hP hD hS hl kk
set_option maxHeartbeats 2000000 in
theorem d_difference {G : GG} (p : Program) (l : Launch) (e : Env) (s : State) (m : MethodId) (args : Array Value) (below : List Frame) (meth : Method) (c : Code) (A : Nat → Prop) (Q : State → Prop) (b L : Nat) (xs : Nat → Int32) (x y oz : Nat) (a o ca : Nat → Nat) (i : Nat) (C : LC G p l s m args c A b L xs) (hi : i + 4 ≤ L) (Hq : Heap) (lcq : List Loc) (ls : Array Slot) (hI : LI G s A b x y oz a o ca i Hq lcq ls) (kk : ∀ (H' : Heap) (locs' : List Loc) (ls' : Array Slot), LI G s A b x y oz a o ca (i + 4) H' locs' ls' → W p l e room_1 s m args below meth c H' locs' (100 + (i + 4)) (3000 + 2 * (i + 4)) Q (F0 m 23 ls' [])) : W p l e room_1 s m args below meth c Hq lcq (100 + i) (3000 + 2 * i) Q (F0 m 935 ls []) := by
  obtain ⟨T, g, n, ad, Ss, Gs, cs, tn, f, dn, rr, tr, tw, tx, tq, th, po, fl, tm, f1, pf, td, er, ov, hP, hD, hS, hl, gt, gs, jpf, jtn, jcs⟩ := hI
  have o4 := gt.1.1
  by_cases h : (0 ≤ (xs (i + 1)).toInt ∧ (xs (i + 1)).toInt ≤ 5)
  · by_cases h3 : 0 ≤ (xs (i + 2)).toInt ∧ (xs (i + 2)).toInt < (T.s 4 : Int)
    · obtain ⟨h4, h5⟩ := h3
      obtain ⟨j9, e1, t1⟩ := nat_of (y := xs (i + 1)) (h.1)
      obtain ⟨i8, e2, t2⟩ := nat_of (y := xs (i + 2)) (h4)
      exact k_difference p l e s m _ below meth c A _ b L xs x y oz a o ca i T g n ad Ss Gs cs tn f dn rr tr tw tx tq th po fl tm f1 pf td er ov j9 i8 C gt gs jpf jtn jcs e1 e2 (by omega) (by omega) hi Hq lcq ls hP hD hS hl kk
    · exact k_difference_t2 p l e s m _ below meth c A _ b L xs x y oz a o ca i T g n ad Ss Gs cs tn f dn rr tr tw tx tq th po fl tm f1 pf td er ov C gt gs jpf jtn jcs h h3 hi Hq lcq ls hP hD hS hl kk
  · exact k_difference_t1 p l e s m _ below meth c A _ b L xs x y oz a o ca i T g n ad Ss Gs cs tn f dn rr tr tw tx tq th po fl tm f1 pf td er ov C gt gs jpf jtn jcs h hi Hq lcq ls hP hD hS hl kk
set_option maxHeartbeats 2000000 in
theorem d_ifPrinted {G : GG} (p : Program) (l : Launch) (e : Env) (s : State) (m : MethodId) (args : Array Value) (below : List Frame) (meth : Method) (c : Code) (A : Nat → Prop) (Q : State → Prop) (b L : Nat) (xs : Nat → Int32) (x y oz : Nat) (a o ca : Nat → Nat) (i : Nat) (C : LC G p l s m args c A b L xs) (hi : i + 4 ≤ L) (Hq : Heap) (lcq : List Loc) (ls : Array Slot) (hI : LI G s A b x y oz a o ca i Hq lcq ls) (kk : ∀ (H' : Heap) (locs' : List Loc) (ls' : Array Slot), LI G s A b x y oz a o ca (i + 4) H' locs' ls' → W p l e room_1 s m args below meth c H' locs' (100 + (i + 4)) (3000 + 2 * (i + 4)) Q (F0 m 23 ls' [])) : W p l e room_1 s m args below meth c Hq lcq (100 + i) (3000 + 2 * i) Q (F0 m 1225 ls []) := by
  obtain ⟨T, g, n, ad, Ss, Gs, cs, tn, f, dn, rr, tr, tw, tx, tq, th, po, fl, tm, f1, pf, td, er, ov, hP, hD, hS, hl, gt, gs, jpf, jtn, jcs⟩ := hI
  have o4 := gt.1.1
  by_cases h : (1 ≤ (xs (i + 1)).toInt ∧ (xs (i + 1)).toInt ≤ 40) ∧ (0 ≤ (xs (i + 2)).toInt ∧ (xs (i + 2)).toInt ≤ 2)
  · obtain ⟨⟨h1, h2⟩, h3, h4⟩ := h
    obtain ⟨k9, e1, t1⟩ := nat_of (y := xs (i + 1)) (by omega)
    obtain ⟨w9, e2, t2⟩ := nat_of (y := xs (i + 2)) (h3)
    exact k_ifPrinted p l e s m _ below meth c A _ b L xs x y oz a o ca i T g n ad Ss Gs cs tn f dn rr tr tw tx tq th po fl tm f1 pf td er ov k9 w9 C gt gs jpf jtn jcs e1 e2 (by omega) (by omega) (by omega) hi Hq lcq ls hP hD hS hl kk
  · exact k_ifPrinted_t1 p l e s m _ below meth c A _ b L xs x y oz a o ca i T g n ad Ss Gs cs tn f dn rr tr tw tx tq th po fl tm f1 pf td er ov C gt gs jpf jtn jcs h hi Hq lcq ls hP hD hS hl kk
