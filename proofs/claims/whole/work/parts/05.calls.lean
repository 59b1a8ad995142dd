/-! a contract's frame, and calls, over the worlds of part 04 -/
theorem z_narrow_b {z : Int} (h : z = 0 ∨ z = 1) : narrow .boolean (.int (iI z)) = .int (iI z) := by
  rcases h with rfl | rfl <;> decide +kernel
theorem z_ofW {l : Launch} {y : MethodName} {ws ws' : List Cond} {rm : Room} {Pc : Array Value → State → Prop} {Qc : Array Value → State → Outcome → State → Prop} {mc ms : Nat} {free : Addr → Prop} {cc : ByteArray} {maxL : Nat} {ret : Option FieldType}
    (hy : plainFor y = true) (hw : ws = Cond.code y cc maxL ret :: ws')
    (body : ∀ p e s m args below meth c s₁, BodyLoose p l y (headSpec ws rm) cc maxL ret e s m args below meth c s₁ → c.maxLocals = maxL → Pc args s →
      W p l e (headSpec ws rm).room s m args below meth c s.heap [] 0 0 (MQ below Qc args s mc ms free) (entryFrame m args maxL)) : Met l y ws rm Pc Qc mc ms free := by
  refine MetFree.of_bodySF (code := cc) (maxLocals := maxL) (ret := ret) hy ?_ ?_
  · intro args s m h hn
    obtain ⟨meth, c, h1, h2, h3, h4, h5, h6, -, -⟩ := Cond.code_spec hn (atoms_spec (ws := ws) h _ (by rw [hw]; exact List.mem_cons_self))
    exact ⟨meth, c, h1, h2, h3, h4, h5, h6⟩
  · intro p e s m args below meth c s₁ B hml hP _
    have hh0 : s₁.heap = s.heap := by rw [B.state]; rfl
    obtain ⟨t, a1, o, b1, b2, b3⟩ := body p e s m args below meth c s₁ B hml hP s₁ hh0 (Stand.of_body B)
    exact ⟨t, o, a1, b1, b2, ⟨b3.1, b3.2⟩⟩
theorem z_start {l : Launch} {y : MethodName} {wsy ws' : List Cond} {rm : Room} {cc : ByteArray} {maxL : Nat} {ret : Option FieldType} {D : va_G} {cI cZ : ClassId} {av : List Value} {Wc : va_W} {sz : Nat} {Qc : Array Value → State → Outcome → State → Prop} {mc ms : Nat}
    (hy : plainFor y = true) (hw : wsy = Cond.code y cc maxL ret :: ws') (hlen : (lg_sl av).length ≤ maxL)
    (body : ∀ (p : Program) (e : Env) (s : State) (m : MethodId) (below : List Frame) (meth : Method) (c : Code) (ls : Array Slot), s.heap.size = sz → meth.sig.returnType = ret → meth.locks = false → (y.name = "<init>" → meth.name = "<init>") →
      CallFix p m c cc maxL s av.toArray wsy y.cls → zK D cI cZ s → zW D (va_A Wc sz) s.heap s.heap [] Wc → (∀ q : Nat, s.heap.size ≤ q → va_A Wc sz q) → lv_has ls maxL (lv_args 0 av) →
      W p l e rm s m av.toArray below meth c s.heap [] 0 0 (MQ below Qc av.toArray s mc ms (va_A Wc sz)) (F0 m 0 ls [])) :
    Met l y wsy rm (zPc D cI cZ av Wc sz) Qc mc ms (va_A Wc sz) := by
  refine z_ofW (cc := cc) (maxL := maxL) (ret := ret) hy hw ?_
  intro p e s m args below meth c s₁ B hml hv
  obtain ⟨rfl, hsz, hP, hK, hD0⟩ := hv
  have hts := atoms_spec (ws := wsy) B.pre
  have hown : s.vm.findClass y.cls = some m.cls := findClass_of_methodNamed B.named
  have hl := lv_entry av (n := maxL) hlen
  rw [lg_entry_eq]
  subst hsz
  refine body p e s m below meth c _ rfl B.returns B.notSynchronized (fun h => ?_) ⟨B.exec, B.bytes, hml, hown, hts⟩ hK ⟨hP, hD0.self, va_S.rf⟩ (fun q h => Or.inr h) hl
  rw [← h]
  exact (name_of_methodNamed B.named B.method).1
theorem z_ofI {S : Type} {l : Launch} {y : MethodName} {wsy ws' : List Cond} {rm : Room} {cc : ByteArray} {maxL : Nat} {ty : FieldType} {D : va_G} {cI cZ : ClassId} {av : List Value} {Wc : va_W} {sz : Nat} {post : Int → S → Prop} {W' : S → va_W}
    (hy : plainFor y = true) (hw : wsy = Cond.code y cc maxL (some ty) :: ws') (hlen : (lg_sl av).length ≤ maxL) (hty : ty = .int ∨ (ty = .boolean ∧ ∀ z u, post z u → z = 0 ∨ z = 1))
    (body : ∀ (p : Program) (e : Env) (s : State) (m : MethodId) (below : List Frame) (meth : Method) (c : Code) (A : Nat → Prop) (ls : Array Slot) (Q : State → Prop),
      CallFix p m c cc maxL s av.toArray wsy y.cls → zK D cI cZ s → zW D A s.heap s.heap [] Wc → (∀ q : Nat, s.heap.size ≤ q → A q) → lv_has ls maxL (lv_args 0 av) →
      (∀ (H : Heap) (locs : List Loc) (pc : Nat) (ls' : Array Slot) (z : Int) (u : S), decode cc pc = .ok (.ireturn, 1) → (-2147483648 ≤ z ∧ z < 2147483648) → post z u → zW D A s.heap H locs (W' u) → W p l e rm s m av.toArray below meth c H locs 0 0 Q (F0 m pc ls' [.int (iI z)])) →
      W p l e rm s m av.toArray below meth c s.heap [] 0 0 Q (F0 m 0 ls [])) :
    Met l y wsy rm (zPc D cI cZ av Wc sz) (zQi D cI cZ Wc sz post W') 0 0 (va_A Wc sz) := by
  refine z_start hy hw hlen ?_
  intro p e s m below meth c ls hsz hr hlk _ F hK hW hA hl
  refine body p e s m below meth c _ ls _ F hK hW hA hl ?_
  intro H locs pc ls' z u hd hz hp hW'
  have hn : narrow ty (.int (iI z)) = .int (iI z) := by
    rcases hty with rfl | ⟨rfl, h01⟩
    · rfl
    · exact z_narrow_b (h01 z u hp)
  exact W.zret F.1 F.2.1 hr hn (fun t ht hWm => ⟨⟨iI z, (z, u), rfl, ⟨rfl, hz, hp⟩, by rw [ht]; exact hW'.1, zK.moved hWm.alike hK, hW'.2.1⟩, hW'.2.2.F ht⟩) hW'.2.2.2.2 hd hlk
theorem z_ofV {S : Type} {l : Launch} {y : MethodName} {wsy ws' : List Cond} {rm : Room} {cc : ByteArray} {maxL : Nat} {D : va_G} {cI cZ : ClassId} {av : List Value} {Wc : va_W} {sz : Nat} {post : S → Prop} {W' : S → va_W}
    (hy : plainFor y = true) (hw : wsy = Cond.code y cc maxL none :: ws') (hlen : (lg_sl av).length ≤ maxL)
    (body : ∀ (p : Program) (e : Env) (s : State) (m : MethodId) (below : List Frame) (meth : Method) (c : Code) (A : Nat → Prop) (ls : Array Slot) (Q : State → Prop),
      CallFix p m c cc maxL s av.toArray wsy y.cls → zK D cI cZ s → zW D A s.heap s.heap [] Wc → (∀ q : Nat, s.heap.size ≤ q → A q) → lv_has ls maxL (lv_args 0 av) →
      (∀ (H : Heap) (locs : List Loc) (pc : Nat) (ls' : Array Slot) (u : S), decode cc pc = .ok (.return_, 1) → post u → zW D A s.heap H locs (W' u) → W p l e rm s m av.toArray below meth c H locs 0 0 Q (F0 m pc ls' [])) →
      W p l e rm s m av.toArray below meth c s.heap [] 0 0 Q (F0 m 0 ls [])) :
    Met l y wsy rm (zPc D cI cZ av Wc sz) (zQv D cI cZ Wc sz post W') 0 0 (va_A Wc sz) := by
  refine z_start hy hw hlen ?_
  intro p e s m below meth c ls hsz hr hlk _ F hK hW hA hl
  refine body p e s m below meth c _ ls _ F hK hW hA hl ?_
  intro H locs pc ls' u hd hp hW'
  exact W.vret F.1 F.2.1 hr (fun t ht hWm => ⟨⟨u, rfl, hp, by rw [ht]; exact hW'.1, zK.moved hWm.alike hK, hW'.2.1⟩, hW'.2.2.F ht⟩) hW'.2.2.2.2 hd hlk
theorem z_ofL {S : Type} {l : Launch} {y : MethodName} {wsy ws' : List Cond} {rm : Room} {cc : ByteArray} {maxL : Nat} {D : va_G} {cI cZ : ClassId} {av : List Value} {Wc : va_W} {sz : Nat} {post : Int → S → Prop} {W' : S → va_W}
    (hy : plainFor y = true) (hw : wsy = Cond.code y cc maxL (some .long) :: ws') (hlen : (lg_sl av).length ≤ maxL)
    (body : ∀ (p : Program) (e : Env) (s : State) (m : MethodId) (below : List Frame) (meth : Method) (c : Code) (A : Nat → Prop) (ls : Array Slot) (Q : State → Prop),
      CallFix p m c cc maxL s av.toArray wsy y.cls → zK D cI cZ s → zW D A s.heap s.heap [] Wc → (∀ q : Nat, s.heap.size ≤ q → A q) → lv_has ls maxL (lv_args 0 av) →
      (∀ (H : Heap) (locs : List Loc) (pc : Nat) (ls' : Array Slot) (z : Int) (u : S), decode cc pc = .ok (.lreturn, 1) → (-9223372036854775808 ≤ z ∧ z < 9223372036854775808) → post z u → zW D A s.heap H locs (W' u) → W p l e rm s m av.toArray below meth c H locs 0 0 Q (F0 m pc ls' [.long (lI z)])) →
      W p l e rm s m av.toArray below meth c s.heap [] 0 0 Q (F0 m 0 ls [])) :
    Met l y wsy rm (zPc D cI cZ av Wc sz) (zQl D cI cZ Wc sz post W') 0 0 (va_A Wc sz) := by
  refine z_start hy hw hlen ?_
  intro p e s m below meth c ls hsz hr hlk _ F hK hW hA hl
  refine body p e s m below meth c _ ls _ F hK hW hA hl ?_
  intro H locs pc ls' z u hd hz hp hW'
  exact W.lret F.1 F.2.1 hr (fun t ht hWm => ⟨⟨lI z, (z, u), rfl, ⟨rfl, hz, hp⟩, by rw [ht]; exact hW'.1, zK.moved hWm.alike hK, hW'.2.1⟩, hW'.2.2.F ht⟩) hW'.2.2.2.2 hd hlk
/-- behind a call, each cell at its own place again -/
theorem z_back {D : va_G} {A : Nat → Prop} {H0 H H1 : Heap} {locs locs1 : List Loc} {ws wc wr w1 ws' : va_W} (hW : zW D A H0 H locs ws) (hA : ∀ q, H0.size ≤ q → A q) (isC isR perm : List Nat) (hC : isC.map (fun i => ws[i]?) = wc.map some) (hR : isR.map (fun i => ws[i]?) = wr.map some) (hn : va_nd isR = true) (hdis : ∀ i ∈ isR, i ∉ isC) (hp : perm.map (fun i => (wr ++ w1)[i]?) = ws'.map some) (hpn : va_nd perm = true)
    (hk : ∀ q : Nat, q < H.size → ¬ va_A wc H.size q → H1[q]? = H[q]?) (hP1 : va_P D vwCl w1 H1) (hD1 : va_D (va_A wc H.size) w1) (hS : va_S A H0 H1 locs1) : zW D A H0 H1 locs1 ws' := by
  obtain ⟨h1, h2⟩ := va_join hW.1 hW.2.1 isC isR hC hR hn hdis hk (va_free hW.2.1 hW.2.2 hA isC hC) hP1 hD1
  refine ⟨?_, h2.sub perm hpn hp, hS⟩
  intro k q hq
  have e1 : (perm.map (fun i => (wr ++ w1)[i]?))[k]? = some (some q) := by rw [hp, List.getElem?_map, hq]; rfl
  rw [List.getElem?_map] at e1
  cases hi : perm[k]? with
  | none => rw [hi] at e1; cases e1
  | some i => rw [hi] at e1; exact h1 i q (Option.some.inj e1)
theorem z_subP {D : va_G} {H : Heap} {ws wc : va_W} (h : va_P D vwCl ws H) (isC : List Nat) (hC : isC.map (fun i => ws[i]?) = wc.map some) : va_P D vwCl wc H := by
  intro k q hq
  have e1 : (isC.map (fun i => ws[i]?))[k]? = some (some q) := by rw [hC, List.getElem?_map, hq]; rfl
  rw [List.getElem?_map] at e1
  cases hi : isC[k]? with
  | none => rw [hi] at e1; cases e1
  | some i => rw [hi] at e1; exact h i q (Option.some.inj e1)
section ZC
variable {p : Program} {l : Launch} {e : Env} {R : Room} {s : State} {m : MethodId} {args : Array Value} {below : List Frame} {meth : Method} {c : Code} {H : Heap} {locs : List Loc} {cells slots : Nat} {Q : State → Prop}
variable {cc bytes : ByteArray} {pc nL maxL n index : Nat} {ls : Array Slot} {st rest As : List Value} {own C : String} {Ts wsy : List Cond} {rm : Room} {y : MethodName} {rt : FieldType}
variable {D : va_G} {cI cZ : ClassId} {A : Nat → Prop} {H0 : Heap} {ws wc wr : va_W} {b : Nat}
theorem z_callVi {S : Type} {post : Int → S → Prop} {W' ws' : S → va_W} (F : CallFix p m c cc nL s args Ts own) (hK : zK D cI cZ s) (hW : zW D A H0 H locs ws) (hA : ∀ q, H0.size ≤ q → A q)
    (hM : Met l y wsy rm (zPc D cI cZ (Value.ref b :: As) wc H.size) (zQi D cI cZ wc H.size post W') 0 0 (va_A wc H.size)) (cw : CallW R s args own C index y bytes maxL (some rt) wsy rm 0 0 n)
    (isC isR perm : List Nat) (hC : isC.map (fun i => ws[i]?) = wc.map some) (hR : isR.map (fun i => ws[i]?) = wr.map some) (hn : va_nd isR = true) (hdis : ∀ i ∈ isR, i ∉ isC) (hndC : va_nd isC = true) (hp : ∀ u, perm.map (fun i => (wr ++ W' u)[i]?) = (ws' u).map some) (hpn : va_nd perm = true)
    {q0 ci : Nat} {fs : List Value} {qc : vw_C} (hb0 : ws[q0]? = some (b, .inr (ci, fs))) (hcl : vwCl[ci]? = some qc) (hqc : qc.1 = C)
    (hst : st = As.reverse ++ .ref b :: rest) (hAn : As.length = n) (hsz : ls.size = nL) (h8 : (rest.map fun v => v.category).sum ≤ 8) (hdg : decode cc pc = .ok (.invokevirtual index, 3)) (hf : cells ≤ R.cells ∧ slots ≤ R.slots)
    (kk : ∀ (z : Int) (u : S) (H1 : Heap) (locs1 : List Loc), (-2147483648 ≤ z ∧ z < 2147483648) → post z u → zW D A H0 H1 locs1 (ws' u) → W p l e R s m args below meth c H1 locs1 cells slots Q (F0 m (pc + 3) ls (.int (iI z) :: rest))) : W p l e R s m args below meth c H locs cells slots Q (F0 m pc ls st) := by
  subst hqc
  have hPc := z_subP hW.1 isC hC
  have hDc := hW.2.1.sub isC hndC hC
  have hFc := va_free hW.2.1 hW.2.2 hA isC hC
  refine va_calli (va_runV (As := As) (rest := rest) F hM cw ⟨zPc_blind, va_recv hK hW.1 hcl hb0, fun U hU hWm => ⟨rfl, by rw [hU], by rw [hU]; exact hPc, zK.moved hWm.alike hK, hDc.weaken (fun _ _ _ _ => trivial)⟩⟩ rfl hAn hsz hst (lv_room h8) hdg ⟨hf.1, hf.2⟩) hW.2.2 (fun q _ h => hFc q h) hFc ?_
  intro r u t H1 locs1 ht hvm hw hB hz1 hk1 hS
  obtain ⟨z, u⟩ := u
  obtain ⟨rfl, hz, hpost⟩ := hw
  obtain ⟨hP1, hK1, hD1⟩ := hB
  rw [ht] at hP1
  exact kk z u H1 locs1 hz hpost (z_back hW hA isC isR perm hC hR hn hdis (hp u) hpn hk1 hP1 hD1 hS)
theorem z_callVv {S : Type} {post : S → Prop} {W' ws' : S → va_W} (F : CallFix p m c cc nL s args Ts own) (hK : zK D cI cZ s) (hW : zW D A H0 H locs ws) (hA : ∀ q, H0.size ≤ q → A q)
    (hM : Met l y wsy rm (zPc D cI cZ (Value.ref b :: As) wc H.size) (zQv D cI cZ wc H.size post W') 0 0 (va_A wc H.size)) (cw : CallW R s args own C index y bytes maxL none wsy rm 0 0 n)
    (isC isR perm : List Nat) (hC : isC.map (fun i => ws[i]?) = wc.map some) (hR : isR.map (fun i => ws[i]?) = wr.map some) (hn : va_nd isR = true) (hdis : ∀ i ∈ isR, i ∉ isC) (hndC : va_nd isC = true) (hp : ∀ u, perm.map (fun i => (wr ++ W' u)[i]?) = (ws' u).map some) (hpn : va_nd perm = true)
    {q0 ci : Nat} {fs : List Value} {qc : vw_C} (hb0 : ws[q0]? = some (b, .inr (ci, fs))) (hcl : vwCl[ci]? = some qc) (hqc : qc.1 = C)
    (hst : st = As.reverse ++ .ref b :: rest) (hAn : As.length = n) (hsz : ls.size = nL) (h8 : (rest.map fun v => v.category).sum ≤ 8) (hdg : decode cc pc = .ok (.invokevirtual index, 3)) (hf : cells ≤ R.cells ∧ slots ≤ R.slots)
    (kk : ∀ (u : S) (H1 : Heap) (locs1 : List Loc), post u → zW D A H0 H1 locs1 (ws' u) → W p l e R s m args below meth c H1 locs1 cells slots Q (F0 m (pc + 3) ls rest)) : W p l e R s m args below meth c H locs cells slots Q (F0 m pc ls st) := by
  subst hqc
  have hPc := z_subP hW.1 isC hC
  have hDc := hW.2.1.sub isC hndC hC
  have hFc := va_free hW.2.1 hW.2.2 hA isC hC
  refine va_callv (va_runV (As := As) (rest := rest) F hM cw ⟨zPc_blind, va_recv hK hW.1 hcl hb0, fun U hU hWm => ⟨rfl, by rw [hU], by rw [hU]; exact hPc, zK.moved hWm.alike hK, hDc.weaken (fun _ _ _ _ => trivial)⟩⟩ rfl hAn hsz hst (lv_room h8) hdg ⟨hf.1, hf.2⟩) hW.2.2 (fun q _ h => hFc q h) hFc ?_
  intro u t H1 locs1 ht hvm hw hB hz1 hk1 hS
  obtain ⟨hP1, hK1, hD1⟩ := hB
  rw [ht] at hP1
  exact kk u H1 locs1 hw (z_back hW hA isC isR perm hC hR hn hdis (hp u) hpn hk1 hP1 hD1 hS)
/-- a static method of numbers alone: no cell is its own -/
theorem z_callSi {post : Int → Unit → Prop} (F : CallFix p m c cc nL s args Ts own) (hK : zK D cI cZ s) (hW : zW D A H0 H locs ws) (hA : ∀ q, H0.size ≤ q → A q)
    (hM : Met l y wsy rm (zPc D cI cZ As [] H.size) (zQi D cI cZ [] H.size post (fun _ => [])) 0 0 (va_A [] H.size)) (cw : CallB R s args own index y bytes maxL (some rt) wsy rm 0 0 n ∧ (Cond.static y).before args s = true)
    (hst : st = As.reverse ++ rest) (hAn : As.length = n) (hsz : ls.size = nL) (h8 : (rest.map fun v => v.category).sum ≤ 8) (hdg : decode cc pc = .ok (.invokestatic index, 3)) (hf : cells ≤ R.cells ∧ slots ≤ R.slots)
    (kk : ∀ (z : Int) (H1 : Heap) (locs1 : List Loc), (-2147483648 ≤ z ∧ z < 2147483648) → post z () → zW D A H0 H1 locs1 ws → W p l e R s m args below meth c H1 locs1 cells slots Q (F0 m (pc + 3) ls (.int (iI z) :: rest))) : W p l e R s m args below meth c H locs cells slots Q (F0 m pc ls st) := by
  have hFc : ∀ q, va_A [] H.size q → A q := va_free hW.2.1 hW.2.2 hA [] rfl
  refine va_calli (va_runS (As := As) (rest := rest) F hM cw ⟨zPc_blind, fun U hU hWm => ⟨rfl, by rw [hU], fun k q h => by simp at h, zK.moved hWm.alike hK, ⟨fun i j x y h => by simp at h, fun k q h => by simp at h⟩⟩⟩ rfl hAn hsz hst (lv_room h8) hdg ⟨hf.1, hf.2⟩) hW.2.2 (fun q _ h => hFc q h) hFc ?_
  intro r u t H1 locs1 ht hvm hw hB hz1 hk1 hS
  obtain ⟨z, u⟩ := u
  obtain ⟨rfl, hz, hpost⟩ := hw
  refine kk z H1 locs1 hz hpost ⟨hW.1.kept (fun k q hq => hk1 q.1 ((hW.1 k q hq).lt) (fun h => ?_)), hW.2.1, hS⟩
  rcases h with ⟨k2, e2, h2⟩ | h2
  · simp at h2
  · have := (hW.1 k q hq).lt
    omega
theorem z_callSl {post : Int → Unit → Prop} (F : CallFix p m c cc nL s args Ts own) (hK : zK D cI cZ s) (hW : zW D A H0 H locs ws) (hA : ∀ q, H0.size ≤ q → A q)
    (hM : Met l y wsy rm (zPc D cI cZ As [] H.size) (zQl D cI cZ [] H.size post (fun _ => [])) 0 0 (va_A [] H.size)) (cw : CallB R s args own index y bytes maxL (some rt) wsy rm 0 0 n ∧ (Cond.static y).before args s = true)
    (hst : st = As.reverse ++ rest) (hAn : As.length = n) (hsz : ls.size = nL) (h8 : (rest.map fun v => v.category).sum ≤ 8) (hdg : decode cc pc = .ok (.invokestatic index, 3)) (hf : cells ≤ R.cells ∧ slots ≤ R.slots)
    (kk : ∀ (z : Int) (H1 : Heap) (locs1 : List Loc), (-9223372036854775808 ≤ z ∧ z < 9223372036854775808) → post z () → zW D A H0 H1 locs1 ws → W p l e R s m args below meth c H1 locs1 cells slots Q (F0 m (pc + 3) ls (.long (lI z) :: rest))) : W p l e R s m args below meth c H locs cells slots Q (F0 m pc ls st) := by
  have hFc : ∀ q, va_A [] H.size q → A q := va_free hW.2.1 hW.2.2 hA [] rfl
  refine va_calll (va_runS (As := As) (rest := rest) F hM cw ⟨zPc_blind, fun U hU hWm => ⟨rfl, by rw [hU], fun k q h => by simp at h, zK.moved hWm.alike hK, ⟨fun i j x y h => by simp at h, fun k q h => by simp at h⟩⟩⟩ rfl hAn hsz hst (lv_room h8) hdg ⟨hf.1, hf.2⟩) hW.2.2 (fun q _ h => hFc q h) hFc ?_
  intro r u t H1 locs1 ht hvm hw hB hz1 hk1 hS
  obtain ⟨z, u⟩ := u
  obtain ⟨rfl, hz, hpost⟩ := hw
  refine kk z H1 locs1 hz hpost ⟨hW.1.kept (fun k q hq => hk1 q.1 ((hW.1 k q hq).lt) (fun h => ?_)), hW.2.1, hS⟩
  rcases h with ⟨k2, e2, h2⟩ | h2
  · simp at h2
  · have := (hW.1 k q hq).lt
    omega
/-- arraycopy between two int arrays of the world (or within one) -/
def zC (f g : Int → Int) (sp dp n : Int) : Int → Int := fun j => if dp ≤ j ∧ j < dp + n then f (sp + (j - dp)) else g j
theorem zA_cpy (f g : Int → Int) {sp dp n : Int} (h1 : 0 ≤ sp ∧ sp < 2147483648) (h2 : 0 ≤ dp ∧ dp < 2147483648) (h3 : 0 ≤ n ∧ n < 2147483648) : va_cpy (zA f) (zA g) (iI sp).toNatClampNeg (iI dp).toNatClampNeg (iI n).toNatClampNeg = zA (zC f g sp dp n) := by
  have e1 := iI_cl h1
  have e2 := iI_cl h2
  have e3 := iI_cl h3
  funext k
  unfold va_cpy zA zC
  by_cases hk : (iI dp).toNatClampNeg ≤ k ∧ k < (iI dp).toNatClampNeg + (iI n).toNatClampNeg
  · rw [if_pos hk, if_pos (by omega), show (((iI sp).toNatClampNeg + (k - (iI dp).toNatClampNeg) : Nat) : Int) = sp + ((k : Int) - dp) by omega]
  · rw [if_neg hk, if_neg (by omega)]
theorem z_copyi (F : CallFix p m c cc nL s args Ts own) (hK : zK D cI cZ s) (hW : zW D A H0 H locs ws) (hl : ls.size = nL) {index : Nat} (w1 : Cond.methodLink own index arraycopyName ∈ Ts) (w2 : Cond.native arraycopyName ∈ Ts) (w3 : Cond.static arraycopyName ∈ Ts) (w4 : Cond.initialized "java/lang/System" ∈ Ts) (q0 q1 : Nat) {a0 a1 n0 n1 : Nat} {f g : Int → Int} {sp dp n : Int} {ws' : va_W} (ha0 : ws[q0]? = some (a0, .inl (cI, n0, .inl (zA f)))) (ha1 : ws[q1]? = some (a1, .inl (cI, n1, .inl (zA g)))) (hframes : 1 ≤ R.frames) (hlocals : (rest.map fun v => v.category).sum + (nativeFrameWords "java/lang/System" "arraycopy" 5 + 11) ≤ R.locals) (hdg : decode cc pc = .ok (.invokestatic index, 3)) (hb : n0 < 2147483648 ∧ n1 < 2147483648) (hr : 0 ≤ sp ∧ 0 ≤ dp ∧ 0 ≤ n ∧ sp + n ≤ (n0 : Int) ∧ dp + n ≤ (n1 : Int)) (hws : ws.set q1 (a1, .inl (cI, n1, .inl (zA (zC f g sp dp n)))) = ws')
    (kk : ∀ (H1 : Heap) (locs1 : List Loc), zW D A H0 H1 locs1 ws' → W p l e R s m args below meth c H1 locs1 cells slots Q (F0 m (pc + 3) ls rest)) : W p l e R s m args below meth c H locs cells slots Q (F0 m pc ls (.int (iI n) :: .int (iI dp) :: .ref a1 :: .int (iI sp) :: .ref a0 :: rest)) := by
  subst hws
  have e1 := iI_cl (z := sp) (by omega)
  have e2 := iI_cl (z := dp) (by omega)
  have e3 := iI_cl (z := n) (by omega)
  have nn : ∀ {z : Int}, 0 ≤ z → z < 2147483648 → ¬ iI z < 0 := fun h h' q => by
    rw [← iI_0, iI_lt (by omega) (by omega)] at q
    omega
  exact va_copyi F.1 F.2.1 (F.2.2.1.trans hl.symm) F.2.2.2.1 (F.2.2.2.2 _ w1) (F.2.2.2.2 _ w2) (F.2.2.2.2 _ w3) (F.2.2.2.2 _ w4) hK hW.1 hW.2.1 hW.2.2 q0 q1 0 0 ha0 ha1 rfl rfl rfl (nn (by omega) (by omega)) (nn (by omega) (by omega)) (nn (by omega) (by omega)) (by omega) (by omega) (fun i _ => rfl) hframes hlocals hdg (fun H1 locs1 h1 h2 h3 => kk H1 locs1 (by rw [zA_cpy f g (by omega) (by omega) (by omega)] at h1 h2; exact ⟨h1, h2, h3⟩))
end ZC
