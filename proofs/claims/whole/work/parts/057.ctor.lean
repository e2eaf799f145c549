/-! ===== own kit: constructors ===== -/
section KC1
variable {p : Program} {l : Launch} {e : Env} {Rm : Room} {s : State} {m : MethodId} {args : Array Value} {below : List Frame} {meth : Method} {c : Code} {H : Heap} {locs : List Loc} {cells slots : Nat} {Q : State → Prop}
variable {G : GG} {cc : ByteArray} {pc : Nat} {ls : Array Slot} {rest : List Value} {A : Nat → Prop} {ws : va_W} {H0 : Heap}
theorem ck_newJ {n : Nat} (hx : p.tables.exec = Jvm.exec) (hb : c.code = cc) (harr : (Cond.arrayClass (newarray.typeOf .long)).before args s = true) (hK : va_K G.1 vwCl (gK G) s) (hP : va_P G.1 vwCl ws H) (hD : va_D A ws) (hS : va_S A H0 H locs) (hA : ∀ q : Nat, H0.size ≤ q → A q)
    (hn : ¬ nI n < 0) (hN : (nI n).toNatClampNeg = n) (hbytes : n * 8 ≤ 536870912) (hcells : cells + 1 ≤ Rm.cells) (hslots : slots + n ≤ Rm.slots) (hdg : decode cc pc = .ok (.newarray .long, 2))
    (kk : ∀ (q : Nat) (H1 : Heap), va_P G.1 vwCl (ws ++ [(q, .inl (G.2.2.1, n, .inr (.inl (fun _ => 0))))]) H1 → va_D A (ws ++ [(q, .inl (G.2.2.1, n, .inr (.inl (fun _ => 0))))]) → va_S A H0 H1 locs →
      W p l e Rm s m args below meth c H1 locs (cells + 1) (slots + n) Q (F0 m (pc + 2) ls (.ref q :: rest))) : W p l e Rm s m args below meth c H locs cells slots Q (F0 m pc ls (.int (nI n) :: rest)) := by
  refine va_newa (ty := .long) (a0 := (n, .inr (.inl (fun _ => 0)))) (N' := n) hx hb harr rfl hK hP hD hS hA (fun cA => vp_cell_l cA _ _) hn hN hbytes hcells hslots hdg fun q cA H1 hK1 hP1 hD1 hS1 => ?_
  have e : cA = G.2.2.1 := Option.some.inj ((hK1.2 3 _ rfl).2.symm.trans (hK.2 1 _ rfl).2)
  rw [e] at hP1 hD1
  exact kk q H1 hP1 hD1 hS1
theorem ck_newI {n : Nat} (hx : p.tables.exec = Jvm.exec) (hb : c.code = cc) (harr : (Cond.arrayClass (newarray.typeOf .int)).before args s = true) (hK : va_K G.1 vwCl (gK G) s) (hP : va_P G.1 vwCl ws H) (hD : va_D A ws) (hS : va_S A H0 H locs) (hA : ∀ q : Nat, H0.size ≤ q → A q)
    (hn : ¬ nI n < 0) (hN : (nI n).toNatClampNeg = n) (hbytes : n * 4 ≤ 536870912) (hcells : cells + 1 ≤ Rm.cells) (hslots : slots + n ≤ Rm.slots) (hdg : decode cc pc = .ok (.newarray .int, 2))
    (kk : ∀ (q : Nat) (H1 : Heap), va_P G.1 vwCl (ws ++ [(q, .inl (G.2.1, n, .inl (fun _ => nI 0)))]) H1 → va_D A (ws ++ [(q, .inl (G.2.1, n, .inl (fun _ => nI 0)))]) → va_S A H0 H1 locs →
      W p l e Rm s m args below meth c H1 locs (cells + 1) (slots + n) Q (F0 m (pc + 2) ls (.ref q :: rest))) : W p l e Rm s m args below meth c H locs cells slots Q (F0 m pc ls (.int (nI n) :: rest)) := by
  refine va_newa (ty := .int) (a0 := (n, .inl (fun _ => nI 0))) (N' := n) hx hb harr rfl hK hP hD hS hA (fun cA => vp_cell_i cA _ _) hn hN hbytes hcells hslots hdg fun q cA H1 hK1 hP1 hD1 hS1 => ?_
  have e : cA = G.2.1 := Option.some.inj ((hK1.2 3 _ rfl).2.symm.trans (hK.2 0 _ rfl).2)
  rw [e] at hP1 hD1
  exact kk q H1 hP1 hD1 hS1
theorem ck_newQ {own : String} {index n : Nat} (hx : p.tables.exec = Jvm.exec) (hb : c.code = cc) (hown : s.vm.findClass own = some m.cls) (hclink : (Cond.classLink own index "PowerTables$Table").before args s = true) (hover : va_AO "PowerTables$Table" s) (hK : va_K G.1 vwCl (gK G) s) (hP : va_P G.1 vwCl ws H) (hD : va_D A ws) (hS : va_S A H0 H locs) (hA : ∀ q : Nat, H0.size ≤ q → A q)
    (hn : ¬ nI n < 0) (hN : (nI n).toNatClampNeg = n) (hbytes : n * 4 ≤ 536870912) (hcells : cells + 1 ≤ Rm.cells) (hslots : slots + n ≤ Rm.slots) (hdg : decode cc pc = .ok (.anewarray index, 3))
    (kk : ∀ (q : Nat) (H1 : Heap), va_P G.1 vwCl (ws ++ [(q, .inl (G.2.2.2, n, .inr (.inr (.inr (.inr (fun _ => none))))))]) H1 → va_D A (ws ++ [(q, .inl (G.2.2.2, n, .inr (.inr (.inr (.inr (fun _ => none))))))]) → va_S A H0 H1 locs →
      W p l e Rm s m args below meth c H1 locs (cells + 1) (slots + n) Q (F0 m (pc + 3) ls (.ref q :: rest))) : W p l e Rm s m args below meth c H locs cells slots Q (F0 m pc ls (.int (nI n) :: rest)) := by
  refine va_newq (N' := n) hx hb hown hclink hover hK hP hD hS hA hn hN hbytes hcells hslots hdg fun q cA H1 hK1 hP1 hD1 hS1 => ?_
  obtain ⟨k1, p1, -, -, -, r1⟩ := (hK1.2 3 _ rfl).2
  obtain ⟨k2, p2, -, -, -, r2⟩ := (hK.2 2 _ rfl).2
  have e : cA = G.2.2.2 := Option.some.inj (r1.symm.trans r2)
  rw [e] at hP1 hD1
  exact kk q H1 hP1 hD1 hS1
end KC1
def ck_P (G : GG) (av : List Value) (w : va_W) (sz : Nat) : Array Value → State → Prop := va_Pc av (fun U => U.heap.size = sz ∧ va_P G.1 vwCl w U.heap ∧ va_K G.1 vwCl (gK G) U ∧ va_D (fun _ => True) w ∧ NX U ∧ va_AO "PowerTables$Table" U)
/-- a constructor that makes arrays of tables -/
def Ck (G : GG) (l : Launch) (y : MethodName) (ws : List Cond) (rm : Room) (mc ms : Nat) (av : List Value) (w : va_W) (R : Option Value → va_W → Prop) : Prop := ∀ sz : Nat, Met l y ws rm (ck_P G av w sz) (cr_Q G R (va_A w sz)) mc ms (va_A w sz)
theorem ck_blind {G : GG} {av : List Value} {w : va_W} {sz : Nat} : FrameBlind (ck_P G av w sz) := fun a U g mk q => by
  obtain ⟨q0, q1, qP, qK, qD, qN, qO⟩ := q
  exact ⟨q0, q1, qP, va_K.moved (u := U) (U := U.calling g mk a) (Vm.Alike.refl U.vm) qK, qD, NX.same (u := U) (U := U.calling g mk a) rfl qN, va_AO.moved (u := U) (U := U.calling g mk a) (Vm.Alike.refl U.vm) qO⟩
theorem ck_intro {G : GG} {l : Launch} {y : MethodName} {ws ws' : List Cond} {rm : Room} {mc ms : Nat} {av : List Value} {w : va_W} {R : Option Value → va_W → Prop} {cc : ByteArray} {maxL : Nat} {ret : Option FieldType} {own : String}
    (hy : plainName y.cls = true) (hw : ws = Cond.code y cc maxL ret :: ws') (hown : y.cls = own) (hml : (lg_sl av).length ≤ maxL)
    (body : ∀ (p : Program) (e : Env) (s : State) (m : MethodId) (args : Array Value) (below : List Frame) (meth : Method) (c : Code) (A : Nat → Prop), p.tables.exec = Jvm.exec → c.code = cc → meth.sig.returnType = ret → c.maxLocals = maxL → (∀ w ∈ ws, w.before args s = true) → s.vm.findClass own = some m.cls → meth.locks = false → meth.name = y.name → NX s → va_AO "PowerTables$Table" s →
      va_P G.1 vwCl w s.heap → va_K G.1 vwCl (gK G) s → va_D A w → (∀ q : Nat, s.heap.size ≤ q → A q) → va_S A s.heap s.heap [] → ∀ ls : Array Slot, lv_has ls maxL (lv_args 0 av) →
      W p l e rm s m args below meth c s.heap [] 0 0 (MQ below (cr_Q G R A) args s mc ms A) (F0 m 0 ls [])) : Ck G l y ws rm mc ms av w R := by
  intro sz
  refine Met.ofW (cc := cc) (maxL := maxL) (ret := ret) hy hw ?_
  intro p e s m args below meth c s₁ B hml' hv
  obtain ⟨rfl, hsz, hP, hK, hD0, hNX, hAO⟩ := hv
  subst hsz
  have hl := lv_entry av (n := maxL) hml
  rw [lg_entry_eq]
  exact body p e s m _ below meth c (va_A w s.heap.size) B.exec B.bytes B.returns hml' (atoms_spec (ws := ws) B.pre) (by rw [← hown]; exact findClass_of_methodNamed B.named) B.notSynchronized (name_of_methodNamed B.named B.method).1 hNX hAO hP hK hD0.self (fun q h => Or.inr h) va_S.rf _ hl
section KC2
variable {p : Program} {l : Launch} {e : Env} {Rm : Room} {s : State} {m : MethodId} {args : Array Value} {below : List Frame} {meth : Method} {c : Code} {H : Heap} {locs : List Loc} {cells slots : Nat} {Q : State → Prop}
variable {G : GG} {pc : Nat} {ls : Array Slot} {rest st0 : List Value} {A : Nat → Prop} {mc ms n index nL maxL : Nat} {cc bytes : ByteArray} {y : MethodName} {ret : Option FieldType} {ws wc wr : va_W} {wsY Ts : List Cond} {rm : Room} {own C : String} {b : Nat} {As : List Value} {R : Option Value → va_W → Prop} {H0 : Heap}
theorem ck_pre (hP : va_P G.1 vwCl ws H) (hD : va_D A ws) (hK : va_K G.1 vwCl (gK G) s) (hNX : NX s) (hAO : va_AO "PowerTables$Table" s) (isC : List Nat) (hC : isC.map (fun i => ws[i]?) = wc.map some) (hn : va_nd isC = true) : ∀ U : State, U.heap = H → s.WarmedH U.vm → ck_P G As wc H.size As.toArray U :=
  fun U hU hW => ⟨rfl, by rw [hU], by rw [hU]; exact hP.pick isC hC, va_K.moved hW.alike hK, (hD.pick isC hn hC).weaken (fun _ _ _ _ => trivial), hNX.warm hW, hAO.moved hW.alike⟩
/-- a call of such a constructor -/
theorem ck_I (S : CallFix p m c cc nL s args Ts own) (hM : Ck G l y wsY rm mc ms (.ref b :: As) wc R) (cw : CallB Rm s args own index y bytes maxL none wsY rm mc ms n ∧ y.name = "<init>" ∧ (Cond.instanceMethod y).before args s = true) (hdg : decode cc pc = .ok (.invokespecial index, 3))
    (hK : va_K G.1 vwCl (gK G) s) (hNX : NX s) (hAO : va_AO "PowerTables$Table" s) (hP : va_P G.1 vwCl ws H) (hD : va_D A ws) (hS : va_S A H0 H locs) (hA : ∀ q : Nat, H0.size ≤ q → A q) {lv : List (Nat × Value)} (hls : lv_has ls nL lv)
    (isC isR : List Nat) (hC : isC.map (fun i => ws[i]?) = wc.map some) (hR : isR.map (fun i => ws[i]?) = wr.map some) (hnC : va_nd isC = true) (hnR : va_nd isR = true) (hdis : ∀ i ∈ isR, i ∉ isC)
    (hn : As.length = n) (hW : (rest.map fun v => v.category).sum ≤ 8) (hf : cells + mc ≤ Rm.cells ∧ slots + ms ≤ Rm.slots) (hst : st0 = As.reverse ++ .ref b :: rest)
    (kk : ∀ (v : Option Value) (w' : va_W) (H' : Heap) (locs' : List Loc), R v w' → va_P G.1 vwCl (wr ++ w') H' → va_D A (wr ++ w') → va_S A H0 H' locs' → W p l e Rm s m args below meth c H' locs' (cells + mc) (slots + ms) Q (F0 m (pc + 3) ls (v.toList ++ rest))) : W p l e Rm s m args below meth c H locs cells slots Q (F0 m pc ls st0) :=
  cr_call (va_runI S (hM H.size) cw ⟨ck_blind, ck_pre hP hD hK hNX hAO isC hC hnC⟩ rfl hn hls.1 hst (lv_room hW) hdg hf) hP hD hS hA isC isR hC hR hnR hdis kk
/-- a call of a constructor through a link into a nested class -/
theorem cr_IN {host : String} (S : CallFix p m c cc nL s args Ts own) (hM : Cr G l y wsY rm mc ms (.ref b :: As) wc R) (cw : va_CN Rm s args own index y host bytes maxL none wsY rm mc ms n ∧ y.name = "<init>" ∧ (Cond.instanceMethod y).before args s = true) (hdg : decode cc pc = .ok (.invokespecial index, 3))
    (hK : va_K G.1 vwCl (gK G) s) (hNX : NX s) (hP : va_P G.1 vwCl ws H) (hD : va_D A ws) (hS : va_S A H0 H locs) (hA : ∀ q : Nat, H0.size ≤ q → A q) {lv : List (Nat × Value)} (hls : lv_has ls nL lv)
    (isC isR : List Nat) (hC : isC.map (fun i => ws[i]?) = wc.map some) (hR : isR.map (fun i => ws[i]?) = wr.map some) (hnC : va_nd isC = true) (hnR : va_nd isR = true) (hdis : ∀ i ∈ isR, i ∉ isC)
    (hn : As.length = n) (hW : (rest.map fun v => v.category).sum ≤ 8) (hf : cells + mc ≤ Rm.cells ∧ slots + ms ≤ Rm.slots) (hst : st0 = As.reverse ++ .ref b :: rest)
    (kk : ∀ (v : Option Value) (w' : va_W) (H' : Heap) (locs' : List Loc), R v w' → va_P G.1 vwCl (wr ++ w') H' → va_D A (wr ++ w') → va_S A H0 H' locs' → W p l e Rm s m args below meth c H' locs' (cells + mc) (slots + ms) Q (F0 m (pc + 3) ls (v.toList ++ rest))) : W p l e Rm s m args below meth c H locs cells slots Q (F0 m pc ls st0) :=
  cr_call (va_runIN S (hM H.size) cw ⟨cr_blind, cr_pre hP hD hK hNX isC hC hnC⟩ rfl hn hls.1 hst (lv_room hW) hdg hf) hP hD hS hA isC isR hC hR hnR hdis kk
end KC2
