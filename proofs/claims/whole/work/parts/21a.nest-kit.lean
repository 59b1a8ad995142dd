/-! the class's constructor: what is nested in it -/
theorem z_ofNest {S : Type} {l : Launch} {y : MethodName} {wsy ws' : List Cond} {rm : Room} {cc : ByteArray} {maxL : Nat} {D : va_G} {cI cZ : ClassId} {av : List Value} {Wc : va_W} {sz : Nat} {post : S → Prop} {W' : S → va_W} {mc ms : Nat} {ns : List Cond}
    (hy : plainFor y = true) (hw : wsy = Cond.code y cc maxL none :: ws') (hlen : (lg_sl av).length ≤ maxL)
    (body : ∀ (p : Program) (e : Env) (s : State) (m : MethodId) (below : List Frame) (meth : Method) (c : Code) (A : Nat → Prop) (ls : Array Slot) (Q : State → Prop),
      CallFix p m c cc maxL s av.toArray wsy y.cls → zK D cI cZ s → zW D A s.heap s.heap [] Wc → (∀ q : Nat, s.heap.size ≤ q → A q) → lv_has ls maxL (lv_args 0 av) → (y.name = "<init>" → meth.name = "<init>") → (∀ w ∈ ns, va_Nw w s) →
      (∀ (H : Heap) (locs : List Loc) (pc : Nat) (ls' : Array Slot) (u : S), decode cc pc = .ok (.return_, 1) → post u → zW D A s.heap H locs (W' u) → W p l e rm s m av.toArray below meth c H locs mc ms Q (F0 m pc ls' [])) →
      W p l e rm s m av.toArray below meth c s.heap [] 0 0 Q (F0 m 0 ls [])) :
    Met l y wsy rm (fun v U => zPc D cI cZ av Wc sz v U ∧ ∀ w ∈ ns, va_Nw w U) (zQv D cI cZ Wc sz post W') mc ms (va_A Wc sz) := by
  refine z_ofW (cc := cc) (maxL := maxL) (ret := none) hy hw ?_
  intro p e s m args below meth c s₁ B hml hv
  obtain ⟨⟨rfl, hsz, hP, hK, hD0⟩, hN⟩ := hv
  have hts := atoms_spec (ws := wsy) B.pre
  have hown : s.vm.findClass y.cls = some m.cls := findClass_of_methodNamed B.named
  have hl := lv_entry av (n := maxL) hlen
  rw [lg_entry_eq]
  subst hsz
  refine body p e s m below meth c _ _ _ ⟨B.exec, B.bytes, hml, hown, hts⟩ hK ⟨hP, hD0.self, va_S.rf⟩ (fun q h => Or.inr h) hl (fun h => ?_) hN ?_
  · rw [← h]
    exact (name_of_methodNamed B.named B.method).1
  · intro H locs pc ls' u hd hp hW'
    exact W.vret B.exec B.bytes B.returns (fun t ht hWm => ⟨⟨u, rfl, hp, by rw [ht]; exact hW'.1, zK.moved hWm.alike hK, hW'.2.1⟩, hW'.2.2.F ht⟩) hW'.2.2.2.2 hd B.notSynchronized
section ZM
variable {p : Program} {l : Launch} {e : Env} {R : Room} {s : State} {m : MethodId} {args : Array Value} {below : List Frame} {meth : Method} {c : Code} {H : Heap} {locs : List Loc} {cells slots : Nat} {Q : State → Prop}
variable {cc bytes : ByteArray} {pc nL maxL index mc ms : Nat} {ls : Array Slot} {st rest : List Value} {own host : String} {Ts wsy : List Cond} {rm : Room} {y : MethodName}
variable {D : va_G} {cI cZ : ClassId} {A : Nat → Prop} {H0 : Heap} {ws wc wr : va_W} {b : Nat}
theorem z_new (F : CallFix p m c cc nL s args Ts own) {C : String} {T : u_T} {N ci : Nat} (hin : ∀ w ∈ u_ws C T N, w ∈ Ts) (ty : Nat → FieldType) (hty : ∀ k, k < N → parseFieldDescriptor (T k).2.2.1 = some (ty k)) (hcl : Cond.classLink own index C ∈ Ts) (hinst : Cond.instantiable C N ∈ Ts) (hini : Cond.initialized C ∈ Ts) (hK : zK D cI cZ s) (hW : zW D A H0 H locs ws) (hA : ∀ q, H0.size ≤ q → A q) (hc : vwCl[ci]? = some (C, T, N)) {fs : List Value} (hfs : ∀ j, j < N → defaultValue (ty j) = vp_V fs j) (hcells : cells + 1 ≤ R.cells) (hslots : slots + N ≤ R.slots) (hdg : decode cc pc = .ok (.new index, 3))
    (kk : ∀ (q : Nat) (H1 : Heap), zW D A H0 H1 locs (ws ++ [(q, .inr (ci, fs))]) → W p l e R s m args below meth c H1 locs (cells + 1) (slots + N) Q (F0 m (pc + 3) ls (.ref q :: rest))) : W p l e R s m args below meth c H locs cells slots Q (F0 m pc ls rest) :=
  va_new F.1 F.2.1 F.2.2.2.2 hin ty hty F.2.2.2.1 (F.2.2.2.2 _ hcl) (F.2.2.2.2 _ hinst) (F.2.2.2.2 _ hini) hK hW.1 hW.2.1 hW.2.2 hA hc hfs hcells hslots hdg (fun q H1 h1 h2 h3 => kk q H1 ⟨h1, h2, h3⟩)
theorem z_callN {S : Type} {post : S → Prop} {W' ws' : S → va_W} (F : CallFix p m c cc nL s args Ts own) (hK : zK D cI cZ s) (hW : zW D A H0 H locs ws) (hA : ∀ q, H0.size ≤ q → A q)
    (hM : Met l y wsy rm (zPc D cI cZ [Value.ref b] wc H.size) (zQv D cI cZ wc H.size post W') mc ms (va_A wc H.size)) (cw : va_CN R s args own index y host bytes maxL none wsy rm mc ms 0 ∧ y.name = "<init>" ∧ (Cond.instanceMethod y).before args s = true)
    (isC isR perm : List Nat) (hC : isC.map (fun i => ws[i]?) = wc.map some) (hR : isR.map (fun i => ws[i]?) = wr.map some) (hn : va_nd isR = true) (hdis : ∀ i ∈ isR, i ∉ isC) (hndC : va_nd isC = true) (hp : ∀ u, perm.map (fun i => (wr ++ W' u)[i]?) = (ws' u).map some) (hpn : va_nd perm = true)
    (hsz : ls.size = nL) (h8 : (rest.map fun v => v.category).sum ≤ 8) (hdg : decode cc pc = .ok (.invokespecial index, 3)) (hf : cells + mc ≤ R.cells ∧ slots + ms ≤ R.slots)
    (kk : ∀ (u : S) (H1 : Heap) (locs1 : List Loc), post u → zW D A H0 H1 locs1 (ws' u) → W p l e R s m args below meth c H1 locs1 (cells + mc) (slots + ms) Q (F0 m (pc + 3) ls rest)) : W p l e R s m args below meth c H locs cells slots Q (F0 m pc ls (.ref b :: rest)) := by
  have hPc := z_subP hW.1 isC hC
  have hDc := hW.2.1.sub isC hndC hC
  have hFc := va_free hW.2.1 hW.2.2 hA isC hC
  refine va_callv (va_runIN (As := []) (rest := rest) F hM cw ⟨zPc_blind, fun U hU hWm => ⟨rfl, by rw [hU], by rw [hU]; exact hPc, zK.moved hWm.alike hK, hDc.weaken (fun _ _ _ _ => trivial)⟩⟩ rfl rfl hsz rfl (lv_room h8) hdg hf) hW.2.2 (fun q _ h => hFc q h) hFc ?_
  intro u t H1 locs1 ht hvm hw hB hz1 hk1 hS
  obtain ⟨hP1, hK1, hD1⟩ := hB
  rw [ht] at hP1
  exact kk u H1 locs1 hw (z_back hW hA isC isR perm hC hR hn hdis (hp u) hpn hk1 hP1 hD1 hS)
end ZM
