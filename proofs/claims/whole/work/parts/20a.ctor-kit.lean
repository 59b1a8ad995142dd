/-! constructors: what is made of nothing -/
def z0 : Int → Int := fun _ => 0
theorem zA_z0 : zA z0 = fun _ => (0 : Int32) := funext fun _ => iI_0
theorem z_ofN {S : Type} {l : Launch} {y : MethodName} {wsy ws' : List Cond} {rm : Room} {cc : ByteArray} {maxL : Nat} {D : va_G} {cI cZ : ClassId} {av : List Value} {Wc : va_W} {sz : Nat} {post : S → Prop} {W' : S → va_W} {mc ms : Nat}
    (hy : plainFor y = true) (hw : wsy = Cond.code y cc maxL none :: ws') (hlen : (lg_sl av).length ≤ maxL)
    (body : ∀ (p : Program) (e : Env) (s : State) (m : MethodId) (below : List Frame) (meth : Method) (c : Code) (A : Nat → Prop) (ls : Array Slot) (Q : State → Prop),
      CallFix p m c cc maxL s av.toArray wsy y.cls → zK D cI cZ s → zW D A s.heap s.heap [] Wc → (∀ q : Nat, s.heap.size ≤ q → A q) → lv_has ls maxL (lv_args 0 av) → (y.name = "<init>" → meth.name = "<init>") →
      (∀ (H : Heap) (locs : List Loc) (pc : Nat) (ls' : Array Slot) (u : S), decode cc pc = .ok (.return_, 1) → post u → zW D A s.heap H locs (W' u) → W p l e rm s m av.toArray below meth c H locs mc ms Q (F0 m pc ls' [])) →
      W p l e rm s m av.toArray below meth c s.heap [] 0 0 Q (F0 m 0 ls [])) :
    Met l y wsy rm (zPc D cI cZ av Wc sz) (zQv D cI cZ Wc sz post W') mc ms (va_A Wc sz) := by
  refine z_start hy hw hlen ?_
  intro p e s m below meth c ls hsz hr hlk hnm F hK hW hA hl
  refine body p e s m below meth c _ ls _ F hK hW hA hl hnm ?_
  intro H locs pc ls' u hd hp hW'
  exact W.vret F.1 F.2.1 hr (fun t ht hWm => ⟨⟨u, rfl, hp, by rw [ht]; exact hW'.1, zK.moved hWm.alike hK, hW'.2.1⟩, hW'.2.2.F ht⟩) hW'.2.2.2.2 hd hlk
section ZN
variable {p : Program} {l : Launch} {e : Env} {R : Room} {s : State} {m : MethodId} {args : Array Value} {below : List Frame} {meth : Method} {c : Code} {H : Heap} {locs : List Loc} {cells slots : Nat} {Q : State → Prop}
variable {cc : ByteArray} {pc nL : Nat} {ls : Array Slot} {rest : List Value} {own : String} {Ts : List Cond}
variable {D : va_G} {cI cZ : ClassId} {A : Nat → Prop} {H0 : Heap} {ws ws' : va_W} {a : Nat}
theorem z_obj (F : CallFix p m c cc nL s args Ts own) (hl : ls.size = nL) {index : Nat} (h1 : Cond.methodLink own index Lib.objectInit ∈ Ts) (h2 : Cond.instanceMethod Lib.objectInit ∈ Ts) (h3 : Cond.code Lib.objectInit ⟨#[0xb1]⟩ 1 none ∈ Ts) (h8 : (rest.map fun v => v.category).sum ≤ 8) (hframes : 1 ≤ R.frames) (hlocals : 20 ≤ R.locals) (hdg : decode cc pc = .ok (.invokespecial index, 3))
    (kk : W p l e R s m args below meth c H locs cells slots Q (F0 m (pc + 3) ls rest)) : W p l e R s m args below meth c H locs cells slots Q (F0 m pc ls (.ref a :: rest)) :=
  W.objInit F.1 F.2.1 F.2.2.2.1 (F.2.2.2.2 _ h1) (F.2.2.2.2 _ h2) (F.2.2.2.2 _ h3) rfl (hl.trans F.2.2.1.symm) rfl hdg hframes (by
    have h9 : 2 * (F0 m pc ls (.ref a :: rest)).monitorRoom + (rest.map fun v => v.category).sum ≤ 8 := lv_room h8
    omega) kk
theorem z_newI (F : CallFix p m c cc nL s args Ts own) (hK : zK D cI cZ s) (hW : zW D A H0 H locs ws) (hA : ∀ q, H0.size ≤ q → A q) (N : Nat) (harr : Cond.arrayClass .int ∈ Ts) (hn : N < 100000) (hcells : cells + 1 ≤ R.cells) (hslots : slots + N ≤ R.slots) (hdg : decode cc pc = .ok (.newarray .int, 2))
    (kk : ∀ (q : Nat) (H1 : Heap), zW D A H0 H1 locs (ws ++ [(q, .inl (cI, N, .inl (zA z0)))]) → W p l e R s m args below meth c H1 locs (cells + 1) (slots + N) Q (F0 m (pc + 2) ls (.ref q :: rest))) : W p l e R s m args below meth c H locs cells slots Q (F0 m pc ls (.int (iI (N : Int)) :: rest)) := by
  have e1 := iI_cl (z := (N : Int)) (by omega)
  refine va_newa (atype := .int) F.1 F.2.1 (F.2.2.2.2 _ harr) rfl hK hW.1 hW.2.1 hW.2.2 hA (a0 := (N, .inl (zA z0))) (N' := N) (fun cA => by rw [zA_z0]; rfl) (fun q => by rw [← iI_0, iI_lt (by omega) (by omega)] at q; omega) (by omega) (by show N * 4 ≤ 536870912; omega) hcells hslots hdg ?_
  intro q cA H1 hK1 h1 h2 h3
  have e2 : s.vm.findClass ("[" ++ (FieldType.int).toString) = some cA := (hK1.2 2 (cA, .int) rfl).2
  have e3 : s.vm.findClass ("[" ++ (FieldType.int).toString) = some cI := (hK.2 0 (cI, .int) rfl).2
  have e4 : cA = cI := Option.some.inj (e2.symm.trans e3)
  subst e4
  exact kk q H1 ⟨h1, h2, h3⟩
theorem z_newZ (F : CallFix p m c cc nL s args Ts own) (hK : zK D cI cZ s) (hW : zW D A H0 H locs ws) (hA : ∀ q, H0.size ≤ q → A q) (N : Nat) (harr : Cond.arrayClass .boolean ∈ Ts) (hn : N < 100000) (hcells : cells + 1 ≤ R.cells) (hslots : slots + N ≤ R.slots) (hdg : decode cc pc = .ok (.newarray .boolean, 2))
    (kk : ∀ (q : Nat) (H1 : Heap), zW D A H0 H1 locs (ws ++ [(q, .inl (cZ, N, .inl (zA z0)))]) → W p l e R s m args below meth c H1 locs (cells + 1) (slots + N) Q (F0 m (pc + 2) ls (.ref q :: rest))) : W p l e R s m args below meth c H locs cells slots Q (F0 m pc ls (.int (iI (N : Int)) :: rest)) := by
  have e1 := iI_cl (z := (N : Int)) (by omega)
  refine va_newa (atype := .boolean) F.1 F.2.1 (F.2.2.2.2 _ harr) rfl hK hW.1 hW.2.1 hW.2.2 hA (a0 := (N, .inl (zA z0))) (N' := N) (fun cA => by rw [zA_z0]; rfl) (fun q => by rw [← iI_0, iI_lt (by omega) (by omega)] at q; omega) (by omega) (by show N * 1 ≤ 536870912; omega) hcells hslots hdg ?_
  intro q cA H1 hK1 h1 h2 h3
  have e2 : s.vm.findClass ("[" ++ (FieldType.boolean).toString) = some cA := (hK1.2 2 (cA, .boolean) rfl).2
  have e3 : s.vm.findClass ("[" ++ (FieldType.boolean).toString) = some cZ := (hK.2 1 (cZ, .boolean) rfl).2
  have e4 : cA = cZ := Option.some.inj (e2.symm.trans e3)
  subst e4
  exact kk q H1 ⟨h1, h2, h3⟩
theorem z_putF (F : CallFix p m c cc nL s args Ts own) {T : u_T} {N ci index : Nat} (hin : ∀ w ∈ u_ws own T N, w ∈ Ts) (ty0 : Nat → FieldType) (hty : ∀ k, k < N → parseFieldDescriptor (T k).2.2.1 = some (ty0 k)) (hnm : ∀ a, a < N → ∀ b, b < N → a ≠ b → (T a).2.1 ≠ (T b).2.1) (hK : zK D cI cZ s) (hW : zW D A H0 H locs ws) (q0 k : Nat) {fs : List Value} {x : Nat} (he : ws[q0]? = some (a, .inr (ci, fs))) (hc : vwCl[ci]? = some (own, T, N)) (hk : k < N) (hown : (T k).1 = own) (hlink : Cond.fieldLink own index own (T k).2.1 (T k).2.2.1 ∈ Ts) (hfin : (T k).2.2.2 = true) (hin2 : meth.name = "<init>") (hn : narrow (ty0 k) (.ref x) = .ref x) (hfit : fits (ty0 k) (.ref x) = true) (hl : k < fs.length) (hdg : decode cc pc = .ok (.putfield index, 3)) (hws : ws.set q0 (a, .inr (ci, fs.set k (.ref x))) = ws')
    (kk : ∀ (H1 : Heap) (locs1 : List Loc), zW D A H0 H1 locs1 ws' → W p l e R s m args below meth c H1 locs1 cells slots Q (F0 m (pc + 3) ls rest)) : W p l e R s m args below meth c H locs cells slots Q (F0 m pc ls (.ref x :: .ref a :: rest)) := by
  subst hws
  exact va_putF (C := own) (T := T) (N := N) (ref := own) (ty := ty0 k) F.1 F.2.1 F.2.2.2.2 hin ty0 hty hnm F.2.2.2.1 hK hW.1 hW.2.1 hW.2.2 q0 he hc k hk (F.2.2.2.2 _ hlink) (fun _ h9 => by rw [hown] at h9; exact h9) hfin hin2 hown (by rw [hty k hk]) hn hfit hl hdg (fun H1 locs1 h1 h2 h3 => kk H1 locs1 ⟨h1, h2, h3⟩)
end ZN
