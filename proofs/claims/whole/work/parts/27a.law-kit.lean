/-! the law: what it knows, its script, the two constructors -/
theorem known_I {args : Array Value} {s : State} (h : (Cond.arrayClass .int).before args s = true) : ∃ cA : ClassId, ArrOfT s cA .int ∧ va_RA s cA .int := by
  obtain ⟨cA, kA, comp, h1, h2, h3⟩ := Cond.arrayClass_spec h
  exact ⟨cA, fun n z => ⟨fun k h => (by cases h), kA, h2, comp, h3⟩, h1⟩
theorem known_Z {args : Array Value} {s : State} (h : (Cond.arrayClass .boolean).before args s = true) : ∃ cA : ClassId, ArrOfT s cA .boolean ∧ va_RA s cA .boolean := by
  obtain ⟨cA, kA, comp, h1, h2, h3⟩ := Cond.arrayClass_spec h
  exact ⟨cA, fun n z => ⟨fun k h => (by cases h), kA, h2, comp, h3⟩, h1⟩
set_option maxRecDepth 20000 in
theorem lw_known {args : Array Value} {s : State} (hts : ∀ w ∈ lw_tbl, w.before args s = true) : ∃ (D : va_G) (cI cZ : ClassId), zK D cI cZ s := by
  obtain ⟨c0, i0, k0⟩ := u_known (n := 7) hts inX0 (hts (.instantiable RX0 7) (by decide +kernel))
  obtain ⟨c1, i1, k1⟩ := u_known (n := 5) hts inX1 (hts (.instantiable RX1 5) (by decide +kernel))
  obtain ⟨c2, i2, k2⟩ := u_known (n := 6) hts inX2 (hts (.instantiable RX2 6) (by decide +kernel))
  obtain ⟨c3, i3, k3⟩ := u_known (n := 5) hts inX3 (hts (.instantiable RX3 5) (by decide +kernel))
  obtain ⟨c4, i4, k4⟩ := u_known (n := 3) hts inX4 (hts (.instantiable RX4 3) (by decide +kernel))
  obtain ⟨c5, i5, k5⟩ := u_known (n := 4) hts inX5 (hts (.instantiable RX5 4) (by decide +kernel))
  obtain ⟨c6, i6, k6⟩ := u_known (n := 4) hts inX6 (hts (.instantiable RX6 4) (by decide +kernel))
  obtain ⟨c7, i7, k7⟩ := u_known (n := 10) hts inX7 (hts (.instantiable RX7 10) (by decide +kernel))
  obtain ⟨c8, i8, k8⟩ := u_known (n := 32) hts inX8 (hts (.instantiable RX8 32) (by decide +kernel))
  obtain ⟨cI, hI⟩ := known_I (hts (.arrayClass .int) (by decide +kernel))
  obtain ⟨cZ, hZ⟩ := known_Z (hts (.arrayClass .boolean) (by decide +kernel))
  refine ⟨(fun k => match k with | 0 => c0 | 1 => c1 | 2 => c2 | 3 => c3 | 4 => c4 | 5 => c5 | 6 => c6 | 7 => c7 | _ => c8, fun k => match k with | 0 => i0 | 1 => i1 | 2 => i2 | 3 => i3 | 4 => i4 | 5 => i5 | 6 => i6 | 7 => i7 | _ => i8), cI, cZ, fun c q hq => ?_, fun k q hk => ?_⟩
  · rcases c with _ | _ | _ | _ | _ | _ | _ | _ | _ | c
    · cases hq; exact k0
    · cases hq; exact k1
    · cases hq; exact k2
    · cases hq; exact k3
    · cases hq; exact k4
    · cases hq; exact k5
    · cases hq; exact k6
    · cases hq; exact k7
    · cases hq; exact k8
    · cases hq
  · rcases k with _ | _ | k
    · cases hk; exact hI
    · cases hk; exact hZ
    · cases hk
def sv (xs : Nat → Int32) (z : Int) : Int := (xs z.toNat).toInt
theorem sv_r (xs : Nat → Int32) (z : Int) : -2147483648 ≤ sv xs z ∧ sv xs z < 2147483648 := iI_rng _
theorem iI_nat (L : Nat) : iI (L : Int) = Int32.ofNat L := by
  first | rfl | (unfold iI; simp; done) | (unfold iI Int32.ofInt Int32.ofNat; rw [BitVec.ofInt_natCast])
section ZL
variable {p : Program} {l : Launch} {e : Env} {R : Room} {s : State} {m : MethodId} {args : Array Value} {below : List Frame} {meth : Method} {c : Code} {H : Heap} {locs : List Loc} {cells slots : Nat} {Q : State → Prop}
variable {cc bytes : ByteArray} {pc nL maxL index mc ms : Nat} {ls : Array Slot} {st rest : List Value} {own : String} {Ts wsy : List Cond} {rm : Room} {y : MethodName}
variable {D : va_G} {cI cZ : ClassId} {A : Nat → Prop} {H0 : Heap} {ws wc wr : va_W} {b : Nat}
theorem z_sld (F : CallFix p m c cc nL s args Ts own) {L : Nat} {xs : Nat → Int32} (hX : va_X b L xs s H0) (hbl : b < H0.size) (hbA : ¬ A b) (hW : zW D A H0 H locs ws) (hL : L ≤ 4096) {z : Int} (hz : 0 ≤ z ∧ z < (L : Int)) (hdg : decode cc pc = .ok (.iaload, 1))
    (kk : W p l e R s m args below meth c H locs cells slots Q (F0 m (pc + 1) ls (.int (iI (sv xs z)) :: rest))) : W p l e R s m args below meth c H locs cells slots Q (F0 m pc ls (.int (iI z) :: .ref b :: rest)) := by
  have e1 := iI_cl (z := z) (by omega)
  have e2 : (iI z).toNatClampNeg = z.toNat := by omega
  have e3 : xs (iI z).toNatClampNeg = iI (sv xs z) := by rw [e2]; exact (iI_of _).symm
  exact va_sld F.1 F.2.1 hX hbl hbA hW.2.2 (iI_in hz (by omega)) hdg (by rw [e3]; exact kk)
theorem z_slen (F : CallFix p m c cc nL s args Ts own) {L : Nat} {xs : Nat → Int32} (hX : va_X b L xs s H0) (hbl : b < H0.size) (hbA : ¬ A b) (hW : zW D A H0 H locs ws) (hdg : decode cc pc = .ok (.arraylength, 1))
    (kk : W p l e R s m args below meth c H locs cells slots Q (F0 m (pc + 1) ls (.int (iI (L : Int)) :: rest))) : W p l e R s m args below meth c H locs cells slots Q (F0 m pc ls (.ref b :: rest)) :=
  va_slen F.1 F.2.1 hX hbl hbA hW.2.2 hdg (by rw [← iI_nat]; exact kk)
theorem z_iandQ (F : CallFix p m c cc nL s args Ts own) {x v : Int} (hdg : decode cc pc = .ok (.iand, 1)) (kk : ∀ q : Int, (-2147483648 ≤ q ∧ q < 2147483648) → W p l e R s m args below meth c H locs cells slots Q (F0 m (pc + 1) ls (.int (iI q) :: rest))) : W p l e R s m args below meth c H locs cells slots Q (F0 m pc ls (.int (iI v) :: .int (iI x) :: rest)) :=
  lv_iand F.1 F.2.1 hdg (by
    have h := kk (iI x &&& iI v).toInt (iI_rng _)
    rw [iI_of] at h
    exact h)
theorem z_callI {S : Type} {post : S → Prop} {W' ws' : S → va_W} (F : CallFix p m c cc nL s args Ts own) (hK : zK D cI cZ s) (hW : zW D A H0 H locs ws) (hA : ∀ q, H0.size ≤ q → A q)
    (hM : Met l y wsy rm (zPc D cI cZ [Value.ref b] wc H.size) (zQv D cI cZ wc H.size post W') mc ms (va_A wc H.size)) (cw : CallB R s args own index y bytes maxL none wsy rm mc ms 0 ∧ y.name = "<init>" ∧ (Cond.instanceMethod y).before args s = true)
    (isC isR perm : List Nat) (hC : isC.map (fun i => ws[i]?) = wc.map some) (hR : isR.map (fun i => ws[i]?) = wr.map some) (hn : va_nd isR = true) (hdis : ∀ i ∈ isR, i ∉ isC) (hndC : va_nd isC = true) (hp : ∀ u, perm.map (fun i => (wr ++ W' u)[i]?) = (ws' u).map some) (hpn : va_nd perm = true)
    (hsz : ls.size = nL) (h8 : (rest.map fun v => v.category).sum ≤ 8) (hdg : decode cc pc = .ok (.invokespecial index, 3)) (hf : cells + mc ≤ R.cells ∧ slots + ms ≤ R.slots)
    (kk : ∀ (u : S) (H1 : Heap) (locs1 : List Loc), post u → zW D A H0 H1 locs1 (ws' u) → W p l e R s m args below meth c H1 locs1 (cells + mc) (slots + ms) Q (F0 m (pc + 3) ls rest)) : W p l e R s m args below meth c H locs cells slots Q (F0 m pc ls (.ref b :: rest)) := by
  have hPc := z_subP hW.1 isC hC
  have hDc := hW.2.1.sub isC hndC hC
  have hFc := va_free hW.2.1 hW.2.2 hA isC hC
  refine va_callv (va_runI (As := []) (rest := rest) F hM cw ⟨zPc_blind, fun U hU hWm => ⟨rfl, by rw [hU], by rw [hU]; exact hPc, zK.moved hWm.alike hK, hDc.weaken (fun _ _ _ _ => trivial)⟩⟩ rfl rfl hsz rfl (lv_room h8) hdg hf) hW.2.2 (fun q _ h => hFc q h) hFc ?_
  intro u t H1 locs1 ht hvm hw hB hz1 hk1 hS
  obtain ⟨hP1, hK1, hD1⟩ := hB
  rw [ht] at hP1
  exact kk u H1 locs1 hw (z_back hW hA isC isR perm hC hR hn hdis (hp u) hpn hk1 hP1 hD1 hS)
theorem z_callIn {S : Type} {post : S → Prop} {W' ws' : S → va_W} {ns : List Cond} (F : CallFix p m c cc nL s args Ts own) (hK : zK D cI cZ s) (hW : zW D A H0 H locs ws) (hA : ∀ q, H0.size ≤ q → A q)
    (hM : Met l y wsy rm (fun v U => zPc D cI cZ [Value.ref b] wc H.size v U ∧ ∀ w ∈ ns, va_Nw w U) (zQv D cI cZ wc H.size post W') mc ms (va_A wc H.size)) (hN1 : ∀ U : State, s.WarmedH U.vm → ∀ w ∈ ns, va_Nw w U) (hN2 : ∀ w ∈ ns, w.onTables = true) (cw : CallB R s args own index y bytes maxL none wsy rm mc ms 0 ∧ y.name = "<init>" ∧ (Cond.instanceMethod y).before args s = true)
    (isC isR perm : List Nat) (hC : isC.map (fun i => ws[i]?) = wc.map some) (hR : isR.map (fun i => ws[i]?) = wr.map some) (hn : va_nd isR = true) (hdis : ∀ i ∈ isR, i ∉ isC) (hndC : va_nd isC = true) (hp : ∀ u, perm.map (fun i => (wr ++ W' u)[i]?) = (ws' u).map some) (hpn : va_nd perm = true)
    (hsz : ls.size = nL) (h8 : (rest.map fun v => v.category).sum ≤ 8) (hdg : decode cc pc = .ok (.invokespecial index, 3)) (hf : cells + mc ≤ R.cells ∧ slots + ms ≤ R.slots)
    (kk : ∀ (u : S) (H1 : Heap) (locs1 : List Loc), post u → zW D A H0 H1 locs1 (ws' u) → W p l e R s m args below meth c H1 locs1 (cells + mc) (slots + ms) Q (F0 m (pc + 3) ls rest)) : W p l e R s m args below meth c H locs cells slots Q (F0 m pc ls (.ref b :: rest)) := by
  have hPc := z_subP hW.1 isC hC
  have hDc := hW.2.1.sub isC hndC hC
  have hFc := va_free hW.2.1 hW.2.2 hA isC hC
  refine va_callv (va_runI (As := []) (rest := rest) F hM cw ⟨fun a U g mk q => ⟨zPc_blind a U g mk q.1, fun w hw => va_Nw.same (hN2 w hw) (rfl : U.vm = (U.calling g mk a).vm) (q.2 w hw)⟩, fun U hU hWm => ⟨⟨rfl, by rw [hU], by rw [hU]; exact hPc, zK.moved hWm.alike hK, hDc.weaken (fun _ _ _ _ => trivial)⟩, hN1 U hWm⟩⟩ rfl rfl hsz rfl (lv_room h8) hdg hf) hW.2.2 (fun q _ h => hFc q h) hFc ?_
  intro u t H1 locs1 ht hvm hw hB hz1 hk1 hS
  obtain ⟨hP1, hK1, hD1⟩ := hB
  rw [ht] at hP1
  exact kk u H1 locs1 hw (z_back hW hA isC isR perm hC hR hn hdis (hp u) hpn hk1 hP1 hD1 hS)
end ZL
