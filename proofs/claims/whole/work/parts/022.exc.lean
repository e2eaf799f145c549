/-! ===== own kit, methods that throw ===== -/
abbrev E_iae : String := "java/lang/IllegalArgumentException"
abbrev E_ise : String := "java/lang/IllegalStateException"
abbrev E_ioo : String := "java/lang/IndexOutOfBoundsException"
def strL : List (Nat × String) := [(67, "power or first is out of range"), (82, "rows is out of range"), (90, "there would be more than 40 rows"), (102, "no such register"), (105, "column or by is out of range"), (115, "the register would be above 99999999999"), (128, "no such row"), (136, "no such digit"), (147, "no such setting"), (149, "value is out of range"), (163, "code is not 33 to 126"), (169, "the buffer is full"), (183, "the buffer is not complete orders as a text"), (194, "no state is saved"), (199, "what is not 0 to 4"), (218, "group is below 0, or what is not 0 to 3"), (238, "order is out of range"), (257, "what is not 0 to 11"), (274, "what is not 0 to 2"), (281, "rows or what is out of range")]
def excL : List String := [E_iae, E_ise, E_ioo]
def ncL : List (String × String) := [(E_ise, E_iae), (E_iae, E_ioo), (E_ise, E_ioo), (E_ioo, E_iae)]
def dcL : List MethodName := [Bundle.initS "java/lang/RuntimeException", Bundle.initS "java/lang/Exception", Bundle.initS Bundle.tN]
/-- what the start says of the exceptions: their texts, their classes -/
def XF (U : State) : Prop := (∀ q ∈ strL, ∃ sa : Nat, vk_R RX6 q.1 q.2 sa U) ∧ (∀ E ∈ excL, va_Nw (.castable E E) U) ∧ (∀ q ∈ ncL, va_Nc q.1 q.2 U) ∧ ∀ y ∈ dcL, va_Nw (.declares y) U
theorem XF.same {u U : State} (hv : U.vm = u.vm) (h : XF u) : XF U :=
  ⟨fun q hq => (h.1 q hq).elim fun sa z => ⟨sa, vk_R.same hv z⟩, fun E hE => va_Nw.same rfl hv.symm (h.2.1 E hE), fun q hq => va_Nc.moved (by rw [hv]; exact Vm.Alike.refl _) (h.2.2.1 q hq), fun y hy => va_Nw.same rfl hv.symm (h.2.2.2 y hy)⟩
theorem XF.warm {s U : State} (hW : s.WarmedH U.vm) (h : XF s) : XF U :=
  ⟨fun q hq => (h.1 q hq).elim fun sa z => ⟨sa, vk_R.warm hW z⟩, fun E hE => va_Nw.warmC hW (h.2.1 E hE), fun q hq => va_Nc.moved hW.alike (h.2.2.1 q hq), fun y hy => va_Nw.warmD hW (h.2.2.2 y hy)⟩
def SXc (A : Nat → Prop) (U : State) (H : Heap) : Prop := vx_Zq Bundle.tN "UNASSIGNED_STACK" Bundle.steD A U H ∧ vx_Zq Bundle.tN "SUPPRESSED_SENTINEL" Bundle.listD A U H
theorem SXc.moved {A : Nat → Prop} {u U : State} {H : Heap} (hvm : u.vm.Alike U.vm) (h : SXc A u H) : SXc A U H := ⟨vx_Zq.moved hvm h.1, vx_Zq.moved hvm h.2⟩
theorem SXc.kept {A : Nat → Prop} {U : State} {H H1 : Heap} (h : SXc A U H) (hq : ∀ a : Nat, a < H.size → ¬ A a → H1[a]? = H[a]?) : SXc A U H1 := ⟨h.1.kept hq, h.2.kept hq⟩
theorem SXc.narrow {A B : Nat → Prop} {U : State} {H : Heap} (h : SXc A U H) (hAB : ∀ q, B q → A q) : SXc B U H := ⟨h.1.narrow hAB, h.2.narrow hAB⟩
def cx_P (G : GG) (av : List Value) (w : va_W) (sz : Nat) : Array Value → State → Prop := va_Pc av (fun U => U.heap.size = sz ∧ va_P G.1 vwCl w U.heap ∧ va_K G.1 vwCl (gK G) U ∧ va_D (fun _ => True) w ∧ SXc (va_A w sz) U U.heap ∧ XF U ∧ NX U)
def cx_X (G : GG) (w : va_W) (E : String) (A : Nat → Prop) : String → State → State → Prop := fun E' st t => E' = E ∧ va_P G.1 vwCl w t.heap ∧ va_K G.1 vwCl (gK G) t ∧ va_D A w ∧ va_F A st t
def cx_N : Array Value → State → Outcome → State → Prop := fun _ _ _ _ => False
/-- a method throws E, and leaves its world as it was -/
def Cx (G : GG) (l : Launch) (y : MethodName) (ws : List Cond) (rm : Room) (av : List Value) (w : va_W) (E : String) : Prop := ∀ sz : Nat, vx_Met l y ws rm (cx_P G av w sz) cx_N (cx_X G w E (va_A w sz)) 1 6 (va_A w sz)
/-- a method that calls one that may throw -/
def Cw (G : GG) (l : Launch) (y : MethodName) (ws : List Cond) (rm : Room) (mc ms : Nat) (av : List Value) (w : va_W) (R : Option Value → va_W → Prop) : Prop := ∀ sz : Nat, Met l y ws rm (cx_P G av w sz) (cr_Q G R (va_A w sz)) mc ms (va_A w sz)
theorem cx_blind {G : GG} {av : List Value} {w : va_W} {sz : Nat} : FrameBlind (cx_P G av w sz) := fun a U g mk q => by
  obtain ⟨q0, q1, qP, qK, qD, qS, qX, qN⟩ := q
  exact ⟨q0, q1, qP, va_K.moved (u := U) (U := U.calling g mk a) (Vm.Alike.refl U.vm) qK, qD, SXc.moved (u := U) (U := U.calling g mk a) (Vm.Alike.refl U.vm) qS, XF.same (u := U) (U := U.calling g mk a) rfl qX, NX.same (u := U) (U := U.calling g mk a) rfl qN⟩
theorem cx_intro {G : GG} {l : Launch} {y : MethodName} {ws ws' : List Cond} {rm : Room} {av : List Value} {w : va_W} {E : String} {cc : ByteArray} {maxL : Nat} {ret : Option FieldType} {own : String}
    (hy : plainName y.cls = true) (hw : ws = Cond.code y cc maxL ret :: ws') (hown : y.cls = own) (hml : (lg_sl av).length ≤ maxL)
    (body : ∀ (p : Program) (e : Env) (s : State) (m : MethodId) (args : Array Value) (below : List Frame) (meth : Method) (c : Code) (A : Nat → Prop), p.tables.exec = Jvm.exec → c.code = cc → meth.sig.returnType = ret → c.maxLocals = maxL → (∀ w ∈ ws, w.before args s = true) → s.vm.findClass own = some m.cls → meth.locks = false → (∀ x ∈ c.exceptionTable.toList, False) → SXc A s s.heap → XF s → NX s →
      va_P G.1 vwCl w s.heap → va_K G.1 vwCl (gK G) s → va_D A w → (∀ q : Nat, s.heap.size ≤ q → A q) → va_S A s.heap s.heap [] → ∀ ls : Array Slot, lv_has ls maxL (lv_args 0 av) →
      W p l e rm s m args below meth c s.heap [] 0 0 (vx_MQ below cx_N (cx_X G w E A) args s 1 6 A) (F0 m 0 ls [])) : Cx G l y ws rm av w E := by
  intro sz
  refine vx_ofW (cc := cc) (maxL := maxL) (ret := ret) hy hw ?_
  intro p e s m args below meth c s₁ B hml' hT hv
  obtain ⟨rfl, hsz, hP, hK, hD0, hSX, hXF, hNX⟩ := hv
  subst hsz
  have hl := lv_entry av (n := maxL) hml
  rw [lg_entry_eq]
  exact body p e s m _ below meth c (va_A w s.heap.size) B.exec B.bytes B.returns hml' (atoms_spec (ws := ws) B.pre) (by rw [← hown]; exact findClass_of_methodNamed B.named) B.notSynchronized hT hSX hXF hNX hP hK hD0.self (fun q h => Or.inr h) va_S.rf _ hl
abbrev cx_names : List String := ["java/lang/RuntimeException", "java/lang/Exception"]
section KX1
variable {p : Program} {l : Launch} {e : Env} {Rm : Room} {s : State} {m : MethodId} {args : Array Value} {below : List Frame} {meth : Method} {c : Code} {H : Heap} {locs : List Loc} {cells slots : Nat} {Q : State → Prop}
variable {G : GG} {pc : Nat} {ls : Array Slot} {rest st0 : List Value} {A : Nat → Prop} {n index nL maxL : Nat} {cc bytes : ByteArray} {y : MethodName} {ret : Option FieldType} {w ws wc wr : va_W} {wsY Ts : List Cond} {rm : Room} {own C E : String} {b : Nat} {As : List Value} {R : Option Value → va_W → Prop} {H0 : Heap}
theorem cx_fin (hP : va_P G.1 vwCl w H) (hD : va_D A w) (hK : va_K G.1 vwCl (gK G) s) (hS : va_S A s.heap H locs) : ∀ t : State, s.vm.Alike t.vm → H.size ≤ t.heap.size → (∀ q : Nat, q < H.size → t.heap[q]? = H[q]?) → cx_X G w E A E s t :=
  fun t hal hle heq => ⟨rfl, hP.kept (fun k q hk => heq q.1 (hP k q hk).lt), va_K.moved hal hK, hD, Nat.le_trans hS.1 hle, fun q h1 h2 => (heq q (Nat.lt_of_lt_of_le h1 hS.1)).trans (hS.2.1 q h1 h2)⟩
theorem cx_hat (hts : ∀ w ∈ Ts, w.before args s = true) (hXF : XF s) (hE : E ∈ excL) {ic : Nat} (hin : ∀ w ∈ (vx_atS RX6 ic E cx_names).filter goodWord, w ∈ Ts) (hng : ∀ w ∈ (vx_atS RX6 ic E cx_names).filter (fun w => !goodWord w), w ∈ Cond.castable E E :: dcL.map Cond.declares) : ∀ w ∈ vx_atS RX6 ic E cx_names, w.before args s = true :=
  vx_hat (fun w hw => hts w (hin w hw)) hng (vx_c (va_Nw.use rfl (hXF.2.1 E hE)) (fun w hw => (List.mem_map.mp hw).elim fun y z => by rw [← z.2]; exact va_Nw.use rfl (hXF.2.2.2 y z.1)))
theorem cx_throw (hx : p.tables.exec = Jvm.exec) (hb : c.code = cc) (hl : l.stackTraces = false) (hts : ∀ w ∈ Ts, w.before args s = true) (hown : s.vm.findClass RX6 = some m.cls) (hK : va_K G.1 vwCl (gK G) s) (hP : va_P G.1 vwCl w H) (hD : va_D A w) (hS : va_S A s.heap H locs) (hSX : SXc A s s.heap) (hXF : XF s) (hT : ∀ x ∈ c.exceptionTable.toList, False) (hlocks : meth.locks = false) (hml : c.maxLocals = nL) {lv : List (Nat × Value)} (hls : lv_has ls nL lv)
    {ik is ic : Nat} {text : String} (hq : (is, text) ∈ strL) (hE : E ∈ excL) (hk : (Cond.classLink RX6 ik E).before args s = true) (hini : (Cond.initialized E).before args s = true) (hcls : Bundle.fit E = true) (hin : ∀ w ∈ (vx_atS RX6 ic E cx_names).filter goodWord, w ∈ Ts) (hng : ∀ w ∈ (vx_atS RX6 ic E cx_names).filter (fun w => !goodWord w), w ∈ Cond.castable E E :: dcL.map Cond.declares) (hgood : ∀ w ∈ Cond.classLink RX6 ik E :: Cond.initialized E :: vx_atS RX6 ic E cx_names, vx_ot w = true)
    (d0 : decode cc pc = .ok (.new ik, 3)) (d3 : decode cc (pc + 3) = .ok (.dup, 1)) (d4 : decode cc (pc + 4) = .ok (.ldc is, 2)) (d6 : decode cc (pc + 6) = .ok (.invokespecial ic, 3)) (d9 : decode cc (pc + 9) = .ok (.athrow, 1))
    (hRf : 5 < Rm.frames) (hRl : (rest.map fun v => v.category).sum + 82 ≤ Rm.locals) (hRc : cells + 1 ≤ Rm.cells) (hRs : slots + 6 ≤ Rm.slots) (hc : cells + 1 ≤ 1) (hs : slots + 6 ≤ 6) :
    W p l e Rm s m args below meth c H locs cells slots (vx_MQ below cx_N (cx_X G w E A) args s 1 6 A) (F0 m pc ls rest) := by
  obtain ⟨sa, hsa⟩ := hXF.1 _ hq
  exact vx_throwS hx hb hl hown hcls (names := cx_names) (by decide +kernel) hk hini hsa (cx_hat hts hXF hE hin hng) hgood hSX.1 hSX.2 hS (hls.1.trans hml.symm) d0 d3 d4 d6 d9 (fun x hx' => (hT x hx').elim) hRf hRl hRc hRs hlocks (cx_fin hP hD hK hS) hS.2.2 hc hs
theorem cx_throwW (hx : p.tables.exec = Jvm.exec) (hb : c.code = cc) (hl : l.stackTraces = false) (hts : ∀ w ∈ Ts, w.before args s = true) (hown : s.vm.findClass RX6 = some m.cls) (hK : va_K G.1 vwCl (gK G) s) (hP : va_P G.1 vwCl w H) (hD : va_D A w) (hS : va_S A s.heap H locs) (hSX : SXc A s s.heap) (hXF : XF s) (hT : ∀ x ∈ c.exceptionTable.toList, False) (hlocks : meth.locks = false) (hml : c.maxLocals = nL) {lv : List (Nat × Value)} (hls : lv_has ls nL lv)
    {ik is ic : Nat} {text : String} (hq : (is, text) ∈ strL) (hE : E ∈ excL) (hk : (Cond.classLink RX6 ik E).before args s = true) (hini : (Cond.initialized E).before args s = true) (hcls : Bundle.fit E = true) (hin : ∀ w ∈ (vx_atS RX6 ic E cx_names).filter goodWord, w ∈ Ts) (hng : ∀ w ∈ (vx_atS RX6 ic E cx_names).filter (fun w => !goodWord w), w ∈ Cond.castable E E :: dcL.map Cond.declares) (hgood : ∀ w ∈ Cond.classLink RX6 ik E :: Cond.initialized E :: vx_atS RX6 ic E cx_names, vx_ot w = true)
    (d0 : decode cc pc = .ok (.new ik, 3)) (d3 : decode cc (pc + 3) = .ok (.dup, 1)) (d4 : decode cc (pc + 4) = .ok (.ldc_w is, 3)) (d7 : decode cc (pc + 7) = .ok (.invokespecial ic, 3)) (d10 : decode cc (pc + 10) = .ok (.athrow, 1))
    (hRf : 5 < Rm.frames) (hRl : (rest.map fun v => v.category).sum + 82 ≤ Rm.locals) (hRc : cells + 1 ≤ Rm.cells) (hRs : slots + 6 ≤ Rm.slots) (hc : cells + 1 ≤ 1) (hs : slots + 6 ≤ 6) :
    W p l e Rm s m args below meth c H locs cells slots (vx_MQ below cx_N (cx_X G w E A) args s 1 6 A) (F0 m pc ls rest) := by
  obtain ⟨sa, hsa⟩ := hXF.1 _ hq
  exact vx_throwSW hx hb hl hown hcls (names := cx_names) (by decide +kernel) hk hini hsa (cx_hat hts hXF hE hin hng) hgood hSX.1 hSX.2 hS (hls.1.trans hml.symm) d0 d3 d4 d7 d10 (fun x hx' => (hT x hx').elim) hRf hRl hRc hRs hlocks (cx_fin hP hD hK hS) hS.2.2 hc hs
end KX1
theorem cw_intro {G : GG} {l : Launch} {y : MethodName} {ws ws' : List Cond} {rm : Room} {mc ms : Nat} {av : List Value} {w : va_W} {R : Option Value → va_W → Prop} {cc : ByteArray} {maxL : Nat} {ret : Option FieldType} {own : String} {hh : List (Nat × Nat × Nat × Nat)}
    (hy : plainName y.cls = true) (hw : ws = Cond.codeWith y cc maxL ret hh :: ws') (hown : y.cls = own) (hml : (lg_sl av).length ≤ maxL)
    (body : ∀ (p : Program) (e : Env) (s : State) (m : MethodId) (args : Array Value) (below : List Frame) (meth : Method) (c : Code) (A : Nat → Prop), p.tables.exec = Jvm.exec → c.code = cc → meth.sig.returnType = ret → c.maxLocals = maxL → (∀ w ∈ ws, w.before args s = true) → s.vm.findClass own = some m.cls → meth.locks = false → c.exceptionTable.toList = tableOf hh → SXc A s s.heap → XF s → NX s →
      va_P G.1 vwCl w s.heap → va_K G.1 vwCl (gK G) s → va_D A w → (∀ q : Nat, s.heap.size ≤ q → A q) → va_S A s.heap s.heap [] → ∀ ls : Array Slot, lv_has ls maxL (lv_args 0 av) →
      W p l e rm s m args below meth c s.heap [] 0 0 (MQ below (cr_Q G R A) args s mc ms A) (F0 m 0 ls [])) : Cw G l y ws rm mc ms av w R := by
  intro sz
  refine va_MetW (cc := cc) (maxL := maxL) (ret := ret) (hh := hh) hy hw ?_
  intro p e s m args below meth c s₁ B hml' hv
  obtain ⟨rfl, hsz, hP, hK, hD0, hSX, hXF, hNX⟩ := hv
  subst hsz
  have hl := lv_entry av (n := maxL) hml
  rw [lg_entry_eq]
  have hts := atoms_spec (ws := ws) B.pre
  exact body p e s m _ below meth c (va_A w s.heap.size) B.exec B.bytes B.returns hml' hts (by rw [← hown]; exact findClass_of_methodNamed B.named) B.notSynchronized (vx_table (x := y) B (hts _ (by rw [hw]; exact List.mem_cons_self))) hSX hXF hNX hP hK hD0.self (fun q h => Or.inr h) va_S.rf _ hl
section KX2
variable {p : Program} {l : Launch} {e : Env} {Rm : Room} {s : State} {m : MethodId} {args : Array Value} {below : List Frame} {meth : Method} {c : Code} {H : Heap} {locs : List Loc} {cells slots : Nat} {Q : State → Prop}
variable {G : GG} {pc : Nat} {ls : Array Slot} {rest st0 : List Value} {A : Nat → Prop} {mc ms n index nL maxL : Nat} {cc bytes : ByteArray} {y : MethodName} {ret : Option FieldType} {w ws wc wr : va_W} {wsY Ts : List Cond} {rm : Room} {own C E : String} {b : Nat} {As : List Value} {R : Option Value → va_W → Prop}
theorem cx_free (hD : va_D A (wc ++ wr)) (hS : va_S A s.heap H locs) (hA : ∀ q : Nat, s.heap.size ≤ q → A q) : ∀ q, va_A wc H.size q → A q := by
  intro q h
  rcases h with ⟨k, e', h⟩ | h
  · exact (va_D.pw.mp hD).2 (q, e') (List.mem_append_left _ (List.mem_of_getElem? h))
  · exact hA q (Nat.le_trans hS.1 h)
theorem cx_pre (hP : va_P G.1 vwCl (wc ++ wr) H) (hD : va_D A (wc ++ wr)) (hS : va_S A s.heap H locs) (hA : ∀ q : Nat, s.heap.size ≤ q → A q) (hK : va_K G.1 vwCl (gK G) s) (hSX : SXc A s s.heap) (hXF : XF s) (hNX : NX s) : ∀ U : State, U.heap = H → s.WarmedH U.vm → cx_P G As wc H.size As.toArray U :=
  fun U hU hW => ⟨rfl, by rw [hU], by rw [hU]; exact hP.left, va_K.moved hW.alike hK, hD.left.weaken (fun _ _ _ _ => trivial), by rw [hU]; exact ((hSX.kept hS.2.1).narrow (cx_free hD hS hA)).moved hW.alike, hXF.warm hW, hNX.warm hW⟩
theorem cx_V (S : CallFix p m c cc nL s args Ts own) (hM : Cx G l y wsY rm (.ref b :: As) wc E) (cw : CallW Rm s args own C index y bytes maxL ret wsY rm 1 6 n) (hdg : decode cc pc = .ok (.invokevirtual index, 3))
    (hK : va_K G.1 vwCl (gK G) s) (hP : va_P G.1 vwCl ws H) (hD : va_D A ws) (hS : va_S A s.heap H locs) (hA : ∀ q : Nat, s.heap.size ≤ q → A q) (hSX : SXc A s s.heap) (hXF : XF s) (hNX : NX s) {lv : List (Nat × Value)} (hls : lv_has ls nL lv) (q0 ci : Nat) {r : vw_C} {fs : List Value} (he : ws[q0]? = some (b, .inr (ci, fs))) (hcl : vwCl[ci]? = some r) (hrC : r.1 = C)
    (hp : ws.Perm (wc ++ wr)) (hn : As.length = n) (hW : (rest.map fun v => v.category).sum ≤ 8) (hf : cells + 1 ≤ Rm.cells ∧ slots + 6 ≤ Rm.slots) (hst : st0 = As.reverse ++ .ref b :: rest)
    (kx : ∀ (ce : Cell) (q9 : Addr) (H' : Heap) (locs' : List Loc), va_P G.1 vwCl ws H' → va_D A ws → va_S A s.heap H' locs' → H'[q9]? = some ce → ce.vm = .none → s.vm.findClass E = some ce.cls → vx_W p l e Rm s m args below meth c H' locs' (cells + 1) (slots + 6) Q (F0 m pc ls rest) q9) : W p l e Rm s m args below meth c H locs cells slots Q (F0 m pc ls st0) := by
  have hP0 := hP.perm hp
  have hD0 := hD.perm hp
  have hr := vx_runV (p := p) (e := e) (R := Rm) (below := below) (meth := meth) (H := H) (locs := locs) (cells := cells) (slots := slots) (g := F0 m pc ls st0) S (hM H.size) cw ⟨cx_blind, by rw [← hrC]; exact va_recv hK hP hcl he, cx_pre hP0 hD0 hS hA hK hSX hXF hNX⟩ rfl hn hls.1 hst (lv_room hW) hdg hf
  intro T hT X
  rcases hr T hT X with ⟨v, st₀, t, T', L, h0, X', hL, e1, e2, hq, st⟩ | ⟨q, st₀, t, T', L, E', ce, h0, X', hL, e1, e2, hXC, hce, hcv, hcl', st⟩
  · exact hq.elim
  · obtain ⟨rfl, hP1, hK1, hD1, hz, hk⟩ := hXC
    rw [h0] at hz hk
    have hFc := cx_free hD0 hS hA
    obtain ⟨hP2, hD2⟩ := cp_join (wr := wr) (w1 := wc) (H1 := T'.heap) hP0 hD0 (fun q h1 h2 => by rw [e1]; exact hk q h1 h2) hFc (by rw [e1]; exact hP1) hD1
    obtain ⟨t2, a1, b1⟩ := kx ce q T'.heap (locs ++ L) (hP2.perm hp.symm) (hD2.perm hp.symm)
      ⟨Nat.le_trans hS.1 (by rw [e1]; exact hz), fun q h1 h2 => by rw [e1, hk q (Nat.lt_of_lt_of_le h1 hS.1) (fun z => h2 (hFc q z))]; exact hS.2.1 q h1 h2, fun q hq => by
        rcases List.mem_append.mp hq with h | h
        · exact hS.2.2 q h
        · exact hFc _ (hL q h)⟩ (by rw [e1]; exact hce) hcv hcl' T' rfl X'
    exact ⟨t2, st.trans a1, b1⟩
/-- an exception table's handler takes it -/
theorem cx_catch {name : String} {q : Addr} {ce : Cell} (hown : s.vm.findClass own = some m.cls) {hh : List (Nat × Nat × Nat × Nat)} (hT : c.exceptionTable.toList = tableOf hh) (pre : List (Nat × Nat × Nat × Nat)) (x : Nat × Nat × Nat × Nat) (suf : List (Nat × Nat × Nat × Nat)) (hh' : hh = pre ++ x :: suf)
    (hpass : ∀ z ∈ pre, z.2.2.2 ≠ 0 ∧ ∃ nm : String, (Cond.classLink own z.2.2.2 nm).before args s = true ∧ va_Nc E nm s) (hx : covers ⟨x.1, x.2.1, x.2.2.1, x.2.2.2⟩ pc = true) (h0 : x.2.2.2 ≠ 0)
    (hlink : (Cond.classLink own x.2.2.2 name).before args s = true) (hcast : va_Nw (.castable E name) s) (hcell : H[q]? = some ce) (hv : ce.vm = .none) (hcl : s.vm.findClass E = some ce.cls)
    (kk : W p l e Rm s m args below meth c H locs cells slots Q (F0 m x.2.2.1 ls [.ref q])) : vx_W p l e Rm s m args below meth c H locs cells slots Q (F0 m pc ls rest) q := by
  subst hh'
  refine vx_catch hown (pre.map fun q => ⟨q.1, q.2.1, q.2.2.1, q.2.2.2⟩) ⟨x.1, x.2.1, x.2.2.1, x.2.2.2⟩ (suf.map fun q => ⟨q.1, q.2.1, q.2.2.1, q.2.2.2⟩) (by rw [hT]; simp [tableOf]) (fun z hz => ?_) hx h0 hlink (va_Nw.use rfl hcast) hcell hv hcl kk
  obtain ⟨z0, hz0, rfl⟩ := List.mem_map.mp hz
  exact Or.inr (hpass z0 hz0)
/-- a call of a method that catches -/
theorem cw_S {hh : List (Nat × Nat × Nat × Nat)} (S : CallFix p m c cc nL s args Ts own) (hM : Cw G l y wsY rm mc ms As wc R) (cw : vx_CSW Rm s args own index y bytes maxL ret hh wsY rm mc ms n) (hdg : decode cc pc = .ok (.invokestatic index, 3))
    (hK : va_K G.1 vwCl (gK G) s) (hP : va_P G.1 vwCl ws H) (hD : va_D A ws) (hS : va_S A s.heap H locs) (hA : ∀ q : Nat, s.heap.size ≤ q → A q) (hSX : SXc A s s.heap) (hXF : XF s) (hNX : NX s) {lv : List (Nat × Value)} (hls : lv_has ls nL lv)
    (hp : ws.Perm (wc ++ wr)) (hn : As.length = n) (hW : (rest.map fun v => v.category).sum ≤ 8) (hf : cells + mc ≤ Rm.cells ∧ slots + ms ≤ Rm.slots) (hst : st0 = As.reverse ++ rest)
    (kk : ∀ (v : Option Value) (w' : va_W) (H' : Heap) (locs' : List Loc), R v w' → va_P G.1 vwCl (w' ++ wr) H' → va_D A (w' ++ wr) → va_S A s.heap H' locs' → W p l e Rm s m args below meth c H' locs' (cells + mc) (slots + ms) Q (F0 m (pc + 3) ls (v.toList ++ rest))) : W p l e Rm s m args below meth c H locs cells slots Q (F0 m pc ls st0) :=
  cp_call (vx_runSW S (hM H.size) cw ⟨cx_blind, cx_pre (hP.perm hp) (hD.perm hp) hS hA hK hSX hXF hNX⟩ rfl hn hls.1 hst (lv_room hW) hdg hf) (hP.perm hp) (hD.perm hp) hS hA kk
end KX2
