/-! ===== own kit, worlds in any order, with a tail that isn't opened ===== -/
theorem va_P.mem {D : va_G} {cl : List vw_C} {ws : va_W} {H : Heap} : va_P D cl ws H ↔ ∀ q ∈ ws, va_at D cl q H :=
  ⟨fun h q hq => by obtain ⟨k, hk⟩ := List.getElem?_of_mem hq; exact h k q hk, fun h _ q hk => h q (List.mem_of_getElem? hk)⟩
theorem va_P.perm {D : va_G} {cl : List vw_C} {ws ws' : va_W} {H : Heap} (h : va_P D cl ws H) (hp : ws.Perm ws') : va_P D cl ws' H :=
  va_P.mem.mpr fun q hq => va_P.mem.mp h q (hp.mem_iff.mpr hq)
theorem va_D.pw {A : Nat → Prop} {ws : va_W} : va_D A ws ↔ ws.Pairwise (fun x y => x.1 ≠ y.1) ∧ ∀ q ∈ ws, A q.1 := by
  constructor
  · intro h
    refine ⟨List.pairwise_iff_getElem.mpr fun i j hi hj hij he => ?_, fun q hq => ?_⟩
    · have := h.1 i j _ _ (List.getElem?_eq_getElem hi) (List.getElem?_eq_getElem hj) he
      omega
    · obtain ⟨k, hk⟩ := List.getElem?_of_mem hq
      exact h.2 k q hk
  · intro h
    refine ⟨fun i j x y hi hj hxy => ?_, fun k q hk => h.2 q (List.mem_of_getElem? hk)⟩
    obtain ⟨hi1, hi2⟩ := List.getElem?_eq_some_iff.mp hi
    obtain ⟨hj1, hj2⟩ := List.getElem?_eq_some_iff.mp hj
    rcases Nat.lt_trichotomy i j with q | q | q
    · exact absurd (by rw [hi2, hj2]; exact hxy) (List.pairwise_iff_getElem.mp h.1 i j hi1 hj1 q)
    · exact q
    · exact absurd (by rw [hi2, hj2]; exact hxy.symm) (List.pairwise_iff_getElem.mp h.1 j i hj1 hi1 q)
theorem va_D.perm {A : Nat → Prop} {ws ws' : va_W} (h : va_D A ws) (hp : ws.Perm ws') : va_D A ws' := by
  obtain ⟨h1, h2⟩ := va_D.pw.mp h
  exact va_D.pw.mpr ⟨(hp.pairwise_iff (fun h => Ne.symm h)).mp h1, fun q hq => h2 q (hp.mem_iff.mpr hq)⟩
theorem cp_join {A0 : Nat → Prop} {D : va_G} {cl : List vw_C} {wc wr w1 : va_W} {H H1 : Heap} (hP : va_P D cl (wc ++ wr) H) (hD : va_D A0 (wc ++ wr))
    (hk : ∀ q : Nat, q < H.size → ¬ va_A wc H.size q → H1[q]? = H[q]?) (hF : ∀ q, va_A wc H.size q → A0 q) (hP1 : va_P D cl w1 H1) (hD1 : va_D (va_A wc H.size) w1) : va_P D cl (w1 ++ wr) H1 ∧ va_D A0 (w1 ++ wr) := by
  obtain ⟨d1, d2⟩ := va_D.pw.mp hD
  obtain ⟨p1, p2, p3⟩ := List.pairwise_append.mp d1
  have apart : ∀ q ∈ wr, q.1 < H.size ∧ ¬ va_A wc H.size q.1 := by
    intro q hq
    have hl := (va_P.mem.mp hP q (List.mem_append_right _ hq)).lt
    refine ⟨hl, fun h => ?_⟩
    rcases h with ⟨k, e, h⟩ | h
    · exact p3 _ (List.mem_of_getElem? h) q hq rfl
    · omega
  refine ⟨va_P.mem.mpr fun q hq => ?_, va_D.pw.mpr ⟨List.pairwise_append.mpr ⟨(va_D.pw.mp hD1).1, p2, fun x hx y hy he => ?_⟩, fun q hq => ?_⟩⟩
  · rcases List.mem_append.mp hq with h | h
    · exact va_P.mem.mp hP1 q h
    · exact (va_P.mem.mp hP q (List.mem_append_right _ h)).kept (hk q.1 (apart q h).1 (apart q h).2)
  · exact (apart y hy).2 (by rw [← he]; exact (va_D.pw.mp hD1).2 x hx)
  · rcases List.mem_append.mp hq with h | h
    · exact hF _ ((va_D.pw.mp hD1).2 q h)
    · exact d2 q (List.mem_append_right _ h)
theorem va_P.left {D : va_G} {cl : List vw_C} {a b : va_W} {H : Heap} (h : va_P D cl (a ++ b) H) : va_P D cl a H := va_P.mem.mpr fun q hq => va_P.mem.mp h q (List.mem_append_left _ hq)
theorem va_D.left {A : Nat → Prop} {a b : va_W} (h : va_D A (a ++ b)) : va_D A a := by
  obtain ⟨h1, h2⟩ := va_D.pw.mp h
  exact va_D.pw.mpr ⟨(List.pairwise_append.mp h1).1, fun q hq => h2 q (List.mem_append_left _ hq)⟩
theorem pm_self : ∀ (E : va_W), E = (List.range E.length).filterMap (fun i => E[i]?)
  | [] => rfl
  | x :: E => by
    have ih := pm_self E
    rw [List.length_cons, List.range_succ_eq_map, List.filterMap_cons]
    show x :: E = x :: List.filterMap (fun i => (x :: E)[i]?) (List.map Nat.succ (List.range E.length))
    rw [List.filterMap_map]
    exact congrArg (List.cons x) ih
theorem pm_map {ι : Type} {f : ι → Option (Nat × va_E)} : ∀ {is : List ι} {w : va_W}, is.map f = w.map some → is.filterMap f = w
  | [], [], _ => rfl
  | [], _ :: _, h => by cases h
  | _ :: _, [], h => by cases h
  | i :: is, q :: w, h => by
    rw [List.map_cons, List.map_cons] at h
    injection h with h1 h2
    rw [List.filterMap_cons, h1]
    exact congrArg (List.cons q) (pm_map h2)
/-- the explicit cells in another order, by their places -/
theorem pm_pick {E w : va_W} (is : List Nat) (n : Nat) (hn : E.length = n) (h : is.Perm (List.range n)) (hw : is.map (fun i => E[i]?) = w.map some) : E.Perm w := by
  subst hn
  rw [← pm_map hw]
  have h1 := h.symm.filterMap (fun i => E[i]?)
  rw [← pm_self E] at h1
  exact h1
theorem pm_t1 {E wc wr sv : va_W} (h : E.Perm (wc ++ wr)) : (E ++ sv).Perm (wc ++ (wr ++ sv)) := by
  have h1 := h.append_right sv
  rw [List.append_assoc] at h1
  exact h1
theorem pm_t2 {E wc wr sv : va_W} (h : E.Perm (wc ++ wr)) : (E ++ sv).Perm ((wc ++ sv) ++ wr) := by
  refine (pm_t1 h).trans ?_
  rw [List.append_assoc]
  exact (List.perm_append_comm (l₁ := wr) (l₂ := sv)).append_left wc
section KP1
variable {p : Program} {l : Launch} {e : Env} {Rm : Room} {s : State} {m : MethodId} {args : Array Value} {below : List Frame} {meth : Method} {c : Code} {H : Heap} {locs : List Loc} {cells slots : Nat} {Q : State → Prop}
variable {G : GG} {pc : Nat} {ls : Array Slot} {rest st0 : List Value} {A : Nat → Prop} {mc ms n index nL maxL : Nat} {cc bytes : ByteArray} {y : MethodName} {ret : Option FieldType} {ws wc wr : va_W} {wsY Ts : List Cond} {rm : Room} {own C : String} {b : Nat} {As : List Value} {R : Option Value → va_W → Prop} {H0 : Heap}
theorem cp_call {a : Array Value} (hr : va_Run p l e Rm s m args below meth c H locs cells slots mc ms (F0 m pc ls st0) rest (cr_Q G R (va_A wc H.size) a) (va_A wc H.size)) (hP : va_P G.1 vwCl (wc ++ wr) H) (hD : va_D A (wc ++ wr)) (hS : va_S A H0 H locs) (hA : ∀ q : Nat, H0.size ≤ q → A q)
    (kk : ∀ (v : Option Value) (w' : va_W) (H' : Heap) (locs' : List Loc), R v w' → va_P G.1 vwCl (w' ++ wr) H' → va_D A (w' ++ wr) → va_S A H0 H' locs' → W p l e Rm s m args below meth c H' locs' (cells + mc) (slots + ms) Q (F0 m (pc + 3) ls (v.toList ++ rest))) : W p l e Rm s m args below meth c H locs cells slots Q (F0 m pc ls st0) := by
  intro T hT X
  obtain ⟨v, st₀, t, T', L, h0, X', hL, e1, e2, ⟨⟨v', w', hv, hR', hP1, hK1, hD1⟩, hz, hk⟩, st⟩ := hr T hT X
  cases hv
  rw [h0] at hz hk
  have hFc : ∀ q, va_A wc H.size q → A q := by
    intro q h
    rcases h with ⟨k, e', h⟩ | h
    · exact (va_D.pw.mp hD).2 (q, e') (List.mem_append_left _ (List.mem_of_getElem? h))
    · exact hA q (Nat.le_trans hS.1 h)
  obtain ⟨hP2, hD2⟩ := cp_join (wr := wr) (w1 := w') (H1 := T'.heap) hP hD (fun q h1 h2 => by rw [e1]; exact hk q h1 h2) hFc (by rw [e1]; exact hP1) hD1
  obtain ⟨t2, a1, b1⟩ := kk v w' T'.heap (locs ++ L) hR' hP2 hD2
    ⟨Nat.le_trans hS.1 (by rw [e1]; exact hz), fun q h1 h2 => by rw [e1, hk q (Nat.lt_of_lt_of_le h1 hS.1) (fun z => h2 (hFc q z))]; exact hS.2.1 q h1 h2, fun q hq => by
      rcases List.mem_append.mp hq with h | h
      · exact hS.2.2 q h
      · exact hFc _ (hL q h)⟩ T' rfl X'
  exact ⟨t2, st t2 a1, b1⟩
theorem cp_pre (hP : va_P G.1 vwCl (wc ++ wr) H) (hD : va_D A (wc ++ wr)) (hK : va_K G.1 vwCl (gK G) s) (hNX : NX s) : ∀ U : State, U.heap = H → s.WarmedH U.vm → cr_P G As wc H.size As.toArray U :=
  fun U hU hW => ⟨rfl, by rw [hU], by rw [hU]; exact hP.left, va_K.moved hW.alike hK, hD.left.weaken (fun _ _ _ _ => trivial), hNX.warm hW⟩
/-- a virtual call; the world is put in order by hp -/
theorem cp_V (S : CallFix p m c cc nL s args Ts own) (hM : Cr G l y wsY rm mc ms (.ref b :: As) wc R) (cw : CallW Rm s args own C index y bytes maxL ret wsY rm mc ms n) (hdg : decode cc pc = .ok (.invokevirtual index, 3))
    (hK : va_K G.1 vwCl (gK G) s) (hNX : NX s) (hP : va_P G.1 vwCl ws H) (hD : va_D A ws) (hS : va_S A H0 H locs) (hA : ∀ q : Nat, H0.size ≤ q → A q) {lv : List (Nat × Value)} (hls : lv_has ls nL lv) (q0 ci : Nat) {r : vw_C} {fs : List Value} (he : ws[q0]? = some (b, .inr (ci, fs))) (hcl : vwCl[ci]? = some r) (hrC : r.1 = C)
    (hp : ws.Perm (wc ++ wr)) (hn : As.length = n) (hW : (rest.map fun v => v.category).sum ≤ 8) (hf : cells + mc ≤ Rm.cells ∧ slots + ms ≤ Rm.slots) (hst : st0 = As.reverse ++ .ref b :: rest)
    (kk : ∀ (v : Option Value) (w' : va_W) (H' : Heap) (locs' : List Loc), R v w' → va_P G.1 vwCl (w' ++ wr) H' → va_D A (w' ++ wr) → va_S A H0 H' locs' → W p l e Rm s m args below meth c H' locs' (cells + mc) (slots + ms) Q (F0 m (pc + 3) ls (v.toList ++ rest))) : W p l e Rm s m args below meth c H locs cells slots Q (F0 m pc ls st0) :=
  cp_call (va_runV S (hM H.size) cw ⟨cr_blind, by rw [← hrC]; exact va_recv hK hP hcl he, cp_pre (hP.perm hp) (hD.perm hp) hK hNX⟩ rfl hn hls.1 hst (lv_room hW) hdg hf) (hP.perm hp) (hD.perm hp) hS hA kk
theorem cp_S (S : CallFix p m c cc nL s args Ts own) (hM : Cr G l y wsY rm mc ms As wc R) (cw : CallB Rm s args own index y bytes maxL ret wsY rm mc ms n ∧ (Cond.static y).before args s = true) (hdg : decode cc pc = .ok (.invokestatic index, 3))
    (hK : va_K G.1 vwCl (gK G) s) (hNX : NX s) (hP : va_P G.1 vwCl ws H) (hD : va_D A ws) (hS : va_S A H0 H locs) (hA : ∀ q : Nat, H0.size ≤ q → A q) {lv : List (Nat × Value)} (hls : lv_has ls nL lv)
    (hp : ws.Perm (wc ++ wr)) (hn : As.length = n) (hW : (rest.map fun v => v.category).sum ≤ 8) (hf : cells + mc ≤ Rm.cells ∧ slots + ms ≤ Rm.slots) (hst : st0 = As.reverse ++ rest)
    (kk : ∀ (v : Option Value) (w' : va_W) (H' : Heap) (locs' : List Loc), R v w' → va_P G.1 vwCl (w' ++ wr) H' → va_D A (w' ++ wr) → va_S A H0 H' locs' → W p l e Rm s m args below meth c H' locs' (cells + mc) (slots + ms) Q (F0 m (pc + 3) ls (v.toList ++ rest))) : W p l e Rm s m args below meth c H locs cells slots Q (F0 m pc ls st0) :=
  cp_call (va_runS S (hM H.size) cw ⟨cr_blind, cp_pre (hP.perm hp) (hD.perm hp) hK hNX⟩ rfl hn hls.1 hst (lv_room hW) hdg hf) (hP.perm hp) (hD.perm hp) hS hA kk
end KP1
theorem va_P.cgQ {D : va_G} {cl : List vw_C} {ws : va_W} {H : Heap} (h : va_P D cl ws H) (k : Nat) {a n : Nat} {cA : ClassId} {f g : Nat → Option Nat} (he : ws[k]? = some (a, .inl (cA, n, .inr (.inr (.inr (.inr f)))))) (hc : ∀ i, i < n → f i = g i) : va_P D cl (ws.set k (a, .inl (cA, n, .inr (.inr (.inr (.inr g)))))) H :=
  h.cg k he (fun (z : H[a]? = some (arrV cA n (fun j => va_rf (f j)))) => show H[a]? = some (arrV cA n (fun j => va_rf (g j))) by rw [z, arrV_cg (fun i hi => congrArg va_rf (hc i hi))])
theorem ks_qast {p : Program} {l : Launch} {e : Env} {R : Room} {s : State} {m : MethodId} {args : Array Value} {below : List Frame} {meth : Method} {c : Code} {H : Heap} {locs : List Loc} {cells slots : Nat} {Q : State → Prop}
    {G : GG} {cc : ByteArray} {pc : Nat} {ls : Array Slot} {rest : List Value} {ws : va_W} {A : Nat → Prop} {H0 : Heap} {a n j v : Nat} {r : vw_C} {vs : List Value}
    (hx : p.tables.exec = Jvm.exec) (hb : c.code = cc) (hK : va_K G.1 vwCl (gK G) s) (hP : va_P G.1 vwCl ws H) (hD : va_D A ws) (hS : va_S A H0 H locs) (q0 qk ci : Nat) {f f' : Nat → Option Nat} (ha : ws[q0]? = some (a, .inl (G.2.2.2, n, .inr (.inr (.inr (.inr f)))))) (hv : ws[qk]? = some (v, .inr (ci, vs))) (hc : vwCl[ci]? = some r) (hr : r.1 = "PowerTables$Table") (hj : j < n) (hn : n < 2 ^ 31) (hf : va_up f j (some v) = f') (hdg : decode cc pc = .ok (.aastore, 1))
    (kk : ∀ (H1 : Heap) (locs1 : List Loc), va_P G.1 vwCl (ws.set q0 (a, .inl (G.2.2.2, n, .inr (.inr (.inr (.inr f')))))) H1 → va_D A (ws.set q0 (a, .inl (G.2.2.2, n, .inr (.inr (.inr (.inr f')))))) → va_S A H0 H1 locs1 → W p l e R s m args below meth c H1 locs1 cells slots Q (F0 m (pc + 1) ls rest)) : W p l e R s m args below meth c H locs cells slots Q (F0 m pc ls (.ref v :: .int (nI j) :: .ref a :: rest)) := by
  subst hf
  refine va_astq hx hb hK hP hD hS q0 2 qk ci ha (by rw [hr]; rfl) hv hc (vp_in_nI hj hn) hdg ?_
  rw [nI_clamp (Nat.lt_trans hj hn)]
  exact kk
