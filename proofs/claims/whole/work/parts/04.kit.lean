/-! rows of mine over the kit's: every int is iI of a whole number, every array of ints zA of a function on whole numbers -/
def iI (z : Int) : Int32 := Int32.ofInt z
def lI (z : Int) : Int64 := Int64.ofInt z
def zA (f : Int → Int) : Nat → Int32 := fun k => iI (f (k : Int))
def zU (f : Int → Int) (i v : Int) : Int → Int := fun j => if j = i then v else f j
theorem zU_s (f : Int → Int) (i v : Int) : zU f i v i = v := if_pos rfl
theorem zU_n (f : Int → Int) {i j : Int} (v : Int) (h : j ≠ i) : zU f i v j = f j := if_neg h
theorem iI_toInt {z : Int} (h : -2147483648 ≤ z ∧ z < 2147483648) : (iI z).toInt = z := by
  unfold iI
  rw [Int32.toInt_ofInt]
  exact Int.bmod_eq_of_le (by rw [show ((Int32.size : Nat) : Int) = 4294967296 from rfl]; omega) (by rw [show ((Int32.size : Nat) : Int) = 4294967296 from rfl]; omega)
theorem lI_toInt {z : Int} (h : -9223372036854775808 ≤ z ∧ z < 9223372036854775808) : (lI z).toInt = z := by
  unfold lI
  rw [Int64.toInt_ofInt]
  exact Int.bmod_eq_of_le (by rw [show ((Int64.size : Nat) : Int) = 18446744073709551616 from rfl]; omega) (by rw [show ((Int64.size : Nat) : Int) = 18446744073709551616 from rfl]; omega)
theorem iI_of (x : Int32) : iI x.toInt = x := by unfold iI; exact Int32.ofInt_toInt x
theorem iI_rng (x : Int32) : -2147483648 ≤ x.toInt ∧ x.toInt < 2147483648 := by
  have h1 := Int32.le_toInt x
  have h2 := Int32.toInt_lt x
  omega
theorem iI_add (a b : Int) : iI a + iI b = iI (a + b) := (Int32.ofInt_add a b).symm
theorem iI_sub (a b : Int) : iI a - iI b = iI (a - b) := (Int32.ofInt_sub a b).symm
theorem iI_mul (a b : Int) : iI a * iI b = iI (a * b) := (Int32.ofInt_mul a b).symm
theorem iI_neg (a : Int) : -iI a = iI (-a) := (Int32.ofInt_neg a).symm
theorem lI_add (a b : Int) : lI a + lI b = lI (a + b) := (Int64.ofInt_add a b).symm
theorem lI_sub (a b : Int) : lI a - lI b = lI (a - b) := (Int64.ofInt_sub a b).symm
theorem lI_mul (a b : Int) : lI a * lI b = lI (a * b) := (Int64.ofInt_mul a b).symm
theorem iI_wide {a : Int} (h : -2147483648 ≤ a ∧ a < 2147483648) : (iI a).toInt64 = lI a := by
  apply Int64.toInt_inj.mp
  rw [Int32.toInt_toInt64, iI_toInt h, lI_toInt (by omega)]
theorem lI_narrow (a : Int) : (lI a).toInt32 = iI a := by
  unfold lI iI
  first | exact Int64.toInt32_ofInt | exact Int64.toInt32_ofInt a | simp
theorem iI_lt {a b : Int} (ha : -2147483648 ≤ a ∧ a < 2147483648) (hb : -2147483648 ≤ b ∧ b < 2147483648) : iI a < iI b ↔ a < b := by
  rw [Int32.lt_iff_toInt_lt, iI_toInt ha, iI_toInt hb]
theorem iI_le {a b : Int} (ha : -2147483648 ≤ a ∧ a < 2147483648) (hb : -2147483648 ≤ b ∧ b < 2147483648) : iI a ≤ iI b ↔ a ≤ b := by
  rw [Int32.le_iff_toInt_le, iI_toInt ha, iI_toInt hb]
theorem iI_eq {a b : Int} (ha : -2147483648 ≤ a ∧ a < 2147483648) (hb : -2147483648 ≤ b ∧ b < 2147483648) : iI a = iI b ↔ a = b := by
  rw [← Int32.toInt_inj, iI_toInt ha, iI_toInt hb]
theorem lI_lt {a b : Int} (ha : -9223372036854775808 ≤ a ∧ a < 9223372036854775808) (hb : -9223372036854775808 ≤ b ∧ b < 9223372036854775808) : lI a < lI b ↔ a < b := by
  rw [Int64.lt_iff_toInt_lt, lI_toInt ha, lI_toInt hb]
theorem lI_eq {a b : Int} (ha : -9223372036854775808 ≤ a ∧ a < 9223372036854775808) (hb : -9223372036854775808 ≤ b ∧ b < 9223372036854775808) : lI a = lI b ↔ a = b := by
  rw [← Int64.toInt_inj, lI_toInt ha, lI_toInt hb]
theorem iI_0 : iI 0 = 0 := by decide +kernel
theorem iI_cl {z : Int} (h : 0 ≤ z ∧ z < 2147483648) : (((iI z).toNatClampNeg : Nat) : Int) = z := by
  show (((iI z).toInt.toNat : Nat) : Int) = z
  rw [iI_toInt (by omega)]
  omega
theorem iI_in {z : Int} {n : Nat} (h : 0 ≤ z ∧ z < (n : Int)) (hn : n < 2147483648) : vp_in (iI z) n := by
  rw [vp_in_iff, iI_toInt (by omega)]
  omega
theorem zA_at (f : Int → Int) {z : Int} (h : 0 ≤ z ∧ z < 2147483648) : zA f (iI z).toNatClampNeg = iI (f z) := by
  unfold zA
  rw [iI_cl h]
theorem zA_upd (f : Int → Int) {z v : Int} (h : 0 ≤ z ∧ z < 2147483648) : upd (zA f) (iI z).toNatClampNeg (iI v) = zA (zU f z v) := by
  funext k
  have e := iI_cl h
  unfold upd zA zU
  by_cases hk : k = (iI z).toNatClampNeg
  · rw [if_pos hk, if_pos (by rw [hk]; exact e)]
  · rw [if_neg hk, if_neg (fun q => hk (by omega))]
theorem iI_and1 {v : Int} (h : v = 0 ∨ v = 1) : vp_nar .boolean (iI v) = iI v := by
  rcases h with rfl | rfl <;> decide +kernel
theorem iI_ne0 {y : Int} (hr : -2147483648 ≤ y ∧ y < 2147483648) (h0 : y ≠ 0) : ¬ iI y = 0 := by
  rw [← iI_0, iI_eq hr (by omega)]
  exact h0
theorem lI_0 : lI 0 = 0 := by decide +kernel
theorem lI_ne0 {y : Int} (hr : -9223372036854775808 ≤ y ∧ y < 9223372036854775808) (h0 : y ≠ 0) : ¬ lI y = 0 := by
  rw [← lI_0, lI_eq hr (by omega)]
  exact h0
theorem iI_div {a b : Int} (ha : -2147483648 < a ∧ a < 2147483648) (hb : -2147483648 ≤ b ∧ b < 2147483648) : iI a / iI b = iI (a.tdiv b) := by
  apply Int32.toInt_inj.mp
  have ha' : (iI a).toInt = a := iI_toInt (by omega)
  have hab : (a.tdiv b).natAbs ≤ a.natAbs := by rw [Int.natAbs_tdiv]; exact Nat.div_le_self _ _
  rw [Int32.toInt_div_of_ne_left _ _ (fun h => by rw [h] at ha'; revert ha'; rw [show Int32.minValue.toInt = -2147483648 from by decide]; omega), ha', iI_toInt hb, iI_toInt (by omega)]
theorem iI_tmod (a b : Int) : a - a.tdiv b * b = a.tmod b := by
  have := Int.tmod_add_mul_tdiv a b
  rw [Int.mul_comm]; omega
theorem lI_div {a b : Int} (ha : -9223372036854775808 < a ∧ a < 9223372036854775808) (hb : -9223372036854775808 ≤ b ∧ b < 9223372036854775808) : lI a / lI b = lI (a.tdiv b) := by
  apply Int64.toInt_inj.mp
  have ha' : (lI a).toInt = a := lI_toInt (by omega)
  have hab : (a.tdiv b).natAbs ≤ a.natAbs := by rw [Int.natAbs_tdiv]; exact Nat.div_le_self _ _
  rw [Int64.toInt_div_of_ne_left _ _ (fun h => by rw [h] at ha'; revert ha'; rw [show Int64.minValue.toInt = -9223372036854775808 from by decide]; omega), ha', lI_toInt hb, lI_toInt (by omega)]
/-! the world of a walk -/
def zW (D : va_G) (A : Nat → Prop) (H0 H : Heap) (locs : List Loc) (ws : va_W) : Prop := va_P D vwCl ws H ∧ va_D A ws ∧ va_S A H0 H locs
def zK (D : va_G) (cI cZ : ClassId) (U : State) : Prop := va_K D vwCl [(cI, .int), (cZ, .boolean)] U
theorem zK.moved {D : va_G} {cI cZ : ClassId} {u U : State} (hvm : u.vm.Alike U.vm) (h : zK D cI cZ u) : zK D cI cZ U := va_K.moved hvm h
def zPc (D : va_G) (cI cZ : ClassId) (av : List Value) (Wc : va_W) (sz : Nat) : Array Value → State → Prop := va_Pc av (fun U => U.heap.size = sz ∧ va_P D vwCl Wc U.heap ∧ zK D cI cZ U ∧ va_D (fun _ => True) Wc)
def zQi {S : Type} (D : va_G) (cI cZ : ClassId) (Wc : va_W) (sz : Nat) (post : Int → S → Prop) (W' : S → va_W) : Array Value → State → Outcome → State → Prop := va_Qi (fun (r : Int32) (u : Int × S) => r = iI u.1 ∧ (-2147483648 ≤ u.1 ∧ u.1 < 2147483648) ∧ post u.1 u.2) (fun u t => va_P D vwCl (W' u.2) t.heap ∧ zK D cI cZ t ∧ va_D (va_A Wc sz) (W' u.2)) (va_A Wc sz)
def zQl {S : Type} (D : va_G) (cI cZ : ClassId) (Wc : va_W) (sz : Nat) (post : Int → S → Prop) (W' : S → va_W) : Array Value → State → Outcome → State → Prop := va_Ql (fun (r : Int64) (u : Int × S) => r = lI u.1 ∧ (-9223372036854775808 ≤ u.1 ∧ u.1 < 9223372036854775808) ∧ post u.1 u.2) (fun u t => va_P D vwCl (W' u.2) t.heap ∧ zK D cI cZ t ∧ va_D (va_A Wc sz) (W' u.2)) (va_A Wc sz)
def zQv {S : Type} (D : va_G) (cI cZ : ClassId) (Wc : va_W) (sz : Nat) (post : S → Prop) (W' : S → va_W) : Array Value → State → Outcome → State → Prop := va_Qv (fun (u : S) => post u) (fun u t => va_P D vwCl (W' u) t.heap ∧ zK D cI cZ t ∧ va_D (va_A Wc sz) (W' u)) (va_A Wc sz)
theorem zPc_blind {D : va_G} {cI cZ : ClassId} {av : List Value} {Wc : va_W} {sz : Nat} : FrameBlind (zPc D cI cZ av Wc sz) := fun a U g mk q => by
  obtain ⟨q0, q1, qP, qK, qD⟩ := q
  exact ⟨q0, q1, qP, zK.moved (u := U) (U := U.calling g mk a) (Vm.Alike.refl U.vm) qK, qD⟩
section ZK
variable {p : Program} {l : Launch} {e : Env} {R : Room} {s : State} {m : MethodId} {args : Array Value} {below : List Frame} {meth : Method} {c : Code} {H : Heap} {locs : List Loc} {cells slots : Nat} {Q : State → Prop}
variable {cc : ByteArray} {pc nL : Nat} {ls : Array Slot} {rest : List Value} {own : String} {Ts : List Cond}
variable {D : va_G} {cI cZ : ClassId} {A : Nat → Prop} {H0 : Heap} {ws ws' : va_W} {a : Nat}
theorem z_iconst (F : CallFix p m c cc nL s args Ts own) (n : Int) (hdg : decode cc pc = .ok (.iconst n, 1)) (kk : W p l e R s m args below meth c H locs cells slots Q (F0 m (pc + 1) ls (.int (iI n) :: rest))) : W p l e R s m args below meth c H locs cells slots Q (F0 m pc ls rest) :=
  lv_iconst (v := iI n) F.1 F.2.1 hdg rfl kk
theorem z_bipush (F : CallFix p m c cc nL s args Ts own) (n : Int) (hv : (Int8.ofInt n).toInt32 = iI n) (hdg : decode cc pc = .ok (.bipush n, 2)) (kk : W p l e R s m args below meth c H locs cells slots Q (F0 m (pc + 2) ls (.int (iI n) :: rest))) : W p l e R s m args below meth c H locs cells slots Q (F0 m pc ls rest) :=
  lv_bipush (v := iI n) F.1 F.2.1 hdg hv kk
theorem z_sipush (F : CallFix p m c cc nL s args Ts own) (n : Int) (hv : (Int16.ofInt n).toInt32 = iI n) (hdg : decode cc pc = .ok (.sipush n, 3)) (kk : W p l e R s m args below meth c H locs cells slots Q (F0 m (pc + 3) ls (.int (iI n) :: rest))) : W p l e R s m args below meth c H locs cells slots Q (F0 m pc ls rest) :=
  lv_sipush (v := iI n) F.1 F.2.1 hdg hv kk
theorem z_ldc (F : CallFix p m c cc nL s args Ts own) (n : Int) {index : Nat} {v : Int32} (hv : v = iI n) (hw : Cond.constant own index v ∈ Ts) (hdg : decode cc pc = .ok (.ldc index, 2)) (kk : W p l e R s m args below meth c H locs cells slots Q (F0 m (pc + 2) ls (.int (iI n) :: rest))) : W p l e R s m args below meth c H locs cells slots Q (F0 m pc ls rest) := by
  subst hv
  exact lv_ldc F.1 F.2.1 F.2.2.2.1 (F.2.2.2.2 _ hw) hdg kk
theorem z_ldcw (F : CallFix p m c cc nL s args Ts own) (n : Int) {index : Nat} {v : Int32} (hv : v = iI n) (hw : Cond.constant own index v ∈ Ts) (hdg : decode cc pc = .ok (.ldc_w index, 3)) (kk : W p l e R s m args below meth c H locs cells slots Q (F0 m (pc + 3) ls (.int (iI n) :: rest))) : W p l e R s m args below meth c H locs cells slots Q (F0 m pc ls rest) := by
  subst hv
  exact lv_ldcw F.1 F.2.1 F.2.2.2.1 (F.2.2.2.2 _ hw) hdg kk
theorem z_ldc2 (F : CallFix p m c cc nL s args Ts own) (n : Int) {index : Nat} {v : Int64} (hv : v = lI n) (hw : Cond.constantLong own index v ∈ Ts) (hdg : decode cc pc = .ok (.ldc2_w index, 3)) (kk : W p l e R s m args below meth c H locs cells slots Q (F0 m (pc + 3) ls (.long (lI n) :: rest))) : W p l e R s m args below meth c H locs cells slots Q (F0 m pc ls rest) := by
  subst hv
  exact lv_ldc2 F.1 F.2.1 F.2.2.2.1 (F.2.2.2.2 _ hw) hdg kk
theorem z_lconst (F : CallFix p m c cc nL s args Ts own) (n : Int) {k : Fin 2} (hv : Int64.ofNat (k : Nat) = lI n) (hdg : decode cc pc = .ok (.lconst k, 1)) (kk : W p l e R s m args below meth c H locs cells slots Q (F0 m (pc + 1) ls (.long (lI n) :: rest))) : W p l e R s m args below meth c H locs cells slots Q (F0 m pc ls rest) :=
  lv_lconst (v := lI n) F.1 F.2.1 hdg hv kk
theorem z_iloadn (F : CallFix p m c cc nL s args Ts own) {k : Fin 4} {i : Nat} {x : Int} (hdg : decode cc pc = .ok (.iload_n k, 1)) (hi : (k : Nat) = i) (hl : ls[i]? = some (.val (.int (iI x)))) (kk : W p l e R s m args below meth c H locs cells slots Q (F0 m (pc + 1) ls (.int (iI x) :: rest))) : W p l e R s m args below meth c H locs cells slots Q (F0 m pc ls rest) := lv_iload_n F.1 F.2.1 hdg hi hl kk
theorem z_iload (F : CallFix p m c cc nL s args Ts own) {i : Nat} {x : Int} (hdg : decode cc pc = .ok (.iload i, 2)) (hl : ls[i]? = some (.val (.int (iI x)))) (kk : W p l e R s m args below meth c H locs cells slots Q (F0 m (pc + 2) ls (.int (iI x) :: rest))) : W p l e R s m args below meth c H locs cells slots Q (F0 m pc ls rest) := lv_iload F.1 F.2.1 hdg hl kk
theorem z_lloadn (F : CallFix p m c cc nL s args Ts own) {k : Fin 4} {i : Nat} {x : Int} (hdg : decode cc pc = .ok (.lload_n k, 1)) (hi : (k : Nat) = i) (hl : ls[i]? = some (.val (.long (lI x)))) (kk : W p l e R s m args below meth c H locs cells slots Q (F0 m (pc + 1) ls (.long (lI x) :: rest))) : W p l e R s m args below meth c H locs cells slots Q (F0 m pc ls rest) := lv_lload_n F.1 F.2.1 hdg hi hl kk
theorem z_lload (F : CallFix p m c cc nL s args Ts own) {i : Nat} {x : Int} (hdg : decode cc pc = .ok (.lload i, 2)) (hl : ls[i]? = some (.val (.long (lI x)))) (kk : W p l e R s m args below meth c H locs cells slots Q (F0 m (pc + 2) ls (.long (lI x) :: rest))) : W p l e R s m args below meth c H locs cells slots Q (F0 m pc ls rest) := lv_lload F.1 F.2.1 hdg hl kk
theorem z_aloadn (F : CallFix p m c cc nL s args Ts own) {k : Fin 4} {i x : Nat} (hdg : decode cc pc = .ok (.aload_n k, 1)) (hi : (k : Nat) = i) (hl : ls[i]? = some (.val (.ref x))) (kk : W p l e R s m args below meth c H locs cells slots Q (F0 m (pc + 1) ls (.ref x :: rest))) : W p l e R s m args below meth c H locs cells slots Q (F0 m pc ls rest) := lv_aload_n F.1 F.2.1 hdg hi hl kk
theorem z_aload (F : CallFix p m c cc nL s args Ts own) {i x : Nat} (hdg : decode cc pc = .ok (.aload i, 2)) (hl : ls[i]? = some (.val (.ref x))) (kk : W p l e R s m args below meth c H locs cells slots Q (F0 m (pc + 2) ls (.ref x :: rest))) : W p l e R s m args below meth c H locs cells slots Q (F0 m pc ls rest) := lv_aload F.1 F.2.1 hdg hl kk
theorem z_istoren (F : CallFix p m c cc nL s args Ts own) {k : Fin 4} {i : Nat} {x : Int} {lv lv' : List (Nat × Value)} (h : lv_has ls nL lv) (hdg : decode cc pc = .ok (.istore_n k, 1)) (hi : (k : Nat) = i) (hn : i < nL) (hl : (i, Value.int (iI x)) :: lv.filter (fun q => !(q.1 == i) && !(q.1 + 1 == i && q.2.category == 2)) = lv') (kk : ∀ ls' : Array Slot, lv_has ls' nL lv' → W p l e R s m args below meth c H locs cells slots Q (F0 m (pc + 1) ls' rest)) : W p l e R s m args below meth c H locs cells slots Q (F0 m pc ls (.int (iI x) :: rest)) := lv_istore_n F.1 F.2.1 hdg hi h hn hl kk
theorem z_istore (F : CallFix p m c cc nL s args Ts own) {i : Nat} {x : Int} {lv lv' : List (Nat × Value)} (h : lv_has ls nL lv) (hdg : decode cc pc = .ok (.istore i, 2)) (hn : i < nL) (hl : (i, Value.int (iI x)) :: lv.filter (fun q => !(q.1 == i) && !(q.1 + 1 == i && q.2.category == 2)) = lv') (kk : ∀ ls' : Array Slot, lv_has ls' nL lv' → W p l e R s m args below meth c H locs cells slots Q (F0 m (pc + 2) ls' rest)) : W p l e R s m args below meth c H locs cells slots Q (F0 m pc ls (.int (iI x) :: rest)) := lv_istore F.1 F.2.1 hdg h hn hl kk
theorem z_lstoren (F : CallFix p m c cc nL s args Ts own) {k : Fin 4} {i : Nat} {x : Int} {lv lv' : List (Nat × Value)} (h : lv_has ls nL lv) (hdg : decode cc pc = .ok (.lstore_n k, 1)) (hi : (k : Nat) = i) (hn : i + 1 < nL) (hl : (i, Value.long (lI x)) :: lv.filter (fun q => !(q.1 == i) && (!(q.1 == i + 1) && !(q.1 + 1 == i && q.2.category == 2))) = lv') (kk : ∀ ls' : Array Slot, lv_has ls' nL lv' → W p l e R s m args below meth c H locs cells slots Q (F0 m (pc + 1) ls' rest)) : W p l e R s m args below meth c H locs cells slots Q (F0 m pc ls (.long (lI x) :: rest)) := lv_lstore_n F.1 F.2.1 hdg hi h hn hl kk
theorem z_lstore (F : CallFix p m c cc nL s args Ts own) {i : Nat} {x : Int} {lv lv' : List (Nat × Value)} (h : lv_has ls nL lv) (hdg : decode cc pc = .ok (.lstore i, 2)) (hn : i + 1 < nL) (hl : (i, Value.long (lI x)) :: lv.filter (fun q => !(q.1 == i) && (!(q.1 == i + 1) && !(q.1 + 1 == i && q.2.category == 2))) = lv') (kk : ∀ ls' : Array Slot, lv_has ls' nL lv' → W p l e R s m args below meth c H locs cells slots Q (F0 m (pc + 2) ls' rest)) : W p l e R s m args below meth c H locs cells slots Q (F0 m pc ls (.long (lI x) :: rest)) := lv_lstore F.1 F.2.1 hdg h hn hl kk
theorem z_iinc (F : CallFix p m c cc nL s args Ts own) {i k : Nat} {n x : Int} {lv lv' : List (Nat × Value)} (h : lv_has ls nL lv) (hdg : decode cc pc = .ok (.iinc i n, 3)) (hk : lv[k]? = some (i, .int (iI x))) (hn : i < nL) (hl : (i, Value.int (iI (x + n))) :: lv.filter (fun q => !(q.1 == i) && !(q.1 + 1 == i && q.2.category == 2)) = lv') (kk : ∀ ls' : Array Slot, lv_has ls' nL lv' → W p l e R s m args below meth c H locs cells slots Q (F0 m (pc + 3) ls' rest)) : W p l e R s m args below meth c H locs cells slots Q (F0 m pc ls rest) := lv_iinc F.1 F.2.1 hdg h hk (iI_add x n) hn hl kk
theorem z_iadd (F : CallFix p m c cc nL s args Ts own) {x y : Int} (hdg : decode cc pc = .ok (.iadd, 1)) (kk : W p l e R s m args below meth c H locs cells slots Q (F0 m (pc + 1) ls (.int (iI (x + y)) :: rest))) : W p l e R s m args below meth c H locs cells slots Q (F0 m pc ls (.int (iI y) :: .int (iI x) :: rest)) := lv_iadd F.1 F.2.1 hdg (by rw [iI_add]; exact kk)
theorem z_isub (F : CallFix p m c cc nL s args Ts own) {x y : Int} (hdg : decode cc pc = .ok (.isub, 1)) (kk : W p l e R s m args below meth c H locs cells slots Q (F0 m (pc + 1) ls (.int (iI (x - y)) :: rest))) : W p l e R s m args below meth c H locs cells slots Q (F0 m pc ls (.int (iI y) :: .int (iI x) :: rest)) := lv_isub F.1 F.2.1 hdg (by rw [iI_sub]; exact kk)
theorem z_imul (F : CallFix p m c cc nL s args Ts own) {x y : Int} (hdg : decode cc pc = .ok (.imul, 1)) (kk : W p l e R s m args below meth c H locs cells slots Q (F0 m (pc + 1) ls (.int (iI (x * y)) :: rest))) : W p l e R s m args below meth c H locs cells slots Q (F0 m pc ls (.int (iI y) :: .int (iI x) :: rest)) := lv_imul F.1 F.2.1 hdg (by rw [iI_mul]; exact kk)
theorem z_ineg (F : CallFix p m c cc nL s args Ts own) {x : Int} (hdg : decode cc pc = .ok (.ineg, 1)) (kk : W p l e R s m args below meth c H locs cells slots Q (F0 m (pc + 1) ls (.int (iI (-x)) :: rest))) : W p l e R s m args below meth c H locs cells slots Q (F0 m pc ls (.int (iI x) :: rest)) := lv_ineg F.1 F.2.1 hdg (by first | (rw [iI_neg]; exact kk) | (rw [← iI_neg] at kk; simpa using kk))
theorem z_idiv (F : CallFix p m c cc nL s args Ts own) {x y : Int} (hdg : decode cc pc = .ok (.idiv, 1)) (h : (-2147483648 < x ∧ x < 2147483648) ∧ (-2147483648 ≤ y ∧ y < 2147483648) ∧ y ≠ 0) (kk : W p l e R s m args below meth c H locs cells slots Q (F0 m (pc + 1) ls (.int (iI (x.tdiv y)) :: rest))) : W p l e R s m args below meth c H locs cells slots Q (F0 m pc ls (.int (iI y) :: .int (iI x) :: rest)) := lv_idiv F.1 F.2.1 hdg (iI_ne0 h.2.1 h.2.2) (by rw [iI_div h.1 h.2.1]; exact kk)
theorem z_ldiv (F : CallFix p m c cc nL s args Ts own) {x y : Int} (hdg : decode cc pc = .ok (.ldiv, 1)) (h : (-9223372036854775808 < x ∧ x < 9223372036854775808) ∧ (-9223372036854775808 ≤ y ∧ y < 9223372036854775808) ∧ y ≠ 0) (kk : W p l e R s m args below meth c H locs cells slots Q (F0 m (pc + 1) ls (.long (lI (x.tdiv y)) :: rest))) : W p l e R s m args below meth c H locs cells slots Q (F0 m pc ls (.long (lI y) :: .long (lI x) :: rest)) := lv_ldiv F.1 F.2.1 hdg (lI_ne0 h.2.1 h.2.2) (by rw [lI_div h.1 h.2.1]; exact kk)
theorem z_ladd (F : CallFix p m c cc nL s args Ts own) {x y : Int} (hdg : decode cc pc = .ok (.ladd, 1)) (kk : W p l e R s m args below meth c H locs cells slots Q (F0 m (pc + 1) ls (.long (lI (x + y)) :: rest))) : W p l e R s m args below meth c H locs cells slots Q (F0 m pc ls (.long (lI y) :: .long (lI x) :: rest)) := lv_ladd F.1 F.2.1 hdg (by rw [lI_add]; exact kk)
theorem z_lsub (F : CallFix p m c cc nL s args Ts own) {x y : Int} (hdg : decode cc pc = .ok (.lsub, 1)) (kk : W p l e R s m args below meth c H locs cells slots Q (F0 m (pc + 1) ls (.long (lI (x - y)) :: rest))) : W p l e R s m args below meth c H locs cells slots Q (F0 m pc ls (.long (lI y) :: .long (lI x) :: rest)) := lv_lsub F.1 F.2.1 hdg (by rw [lI_sub]; exact kk)
theorem z_lmul (F : CallFix p m c cc nL s args Ts own) {x y : Int} (hdg : decode cc pc = .ok (.lmul, 1)) (kk : W p l e R s m args below meth c H locs cells slots Q (F0 m (pc + 1) ls (.long (lI (x * y)) :: rest))) : W p l e R s m args below meth c H locs cells slots Q (F0 m pc ls (.long (lI y) :: .long (lI x) :: rest)) := lv_lmul F.1 F.2.1 hdg (by rw [lI_mul]; exact kk)
theorem z_i2l (F : CallFix p m c cc nL s args Ts own) {x : Int} (hdg : decode cc pc = .ok (.i2l, 1)) (h : -2147483648 ≤ x ∧ x < 2147483648) (kk : W p l e R s m args below meth c H locs cells slots Q (F0 m (pc + 1) ls (.long (lI x) :: rest))) : W p l e R s m args below meth c H locs cells slots Q (F0 m pc ls (.int (iI x) :: rest)) := lv_i2l F.1 F.2.1 hdg (iI_wide h) kk
theorem z_l2i (F : CallFix p m c cc nL s args Ts own) {x : Int} (hdg : decode cc pc = .ok (.l2i, 1)) (kk : W p l e R s m args below meth c H locs cells slots Q (F0 m (pc + 1) ls (.int (iI x) :: rest))) : W p l e R s m args below meth c H locs cells slots Q (F0 m pc ls (.long (lI x) :: rest)) := lv_l2i F.1 F.2.1 hdg (lI_narrow x) kk
theorem z_dup (F : CallFix p m c cc nL s args Ts own) {va : Value} (hdg : decode cc pc = .ok (.dup, 1)) (hva : va.category = 1) (kk : W p l e R s m args below meth c H locs cells slots Q (F0 m (pc + 1) ls (va :: va :: rest))) : W p l e R s m args below meth c H locs cells slots Q (F0 m pc ls (va :: rest)) := lv_dup F.1 F.2.1 hdg hva kk
theorem z_pop (F : CallFix p m c cc nL s args Ts own) {va : Value} (hdg : decode cc pc = .ok (.pop, 1)) (hva : va.category = 1) (kk : W p l e R s m args below meth c H locs cells slots Q (F0 m (pc + 1) ls rest)) : W p l e R s m args below meth c H locs cells slots Q (F0 m pc ls (va :: rest)) := lv_pop F.1 F.2.1 hdg hva kk
theorem z_goto (F : CallFix p m c cc nL s args Ts own) {off : Int} (tgt : Nat) (hdg : decode cc pc = .ok (.goto off, 3)) (ht : (pc : Int) + off = (tgt : Int)) (kk : W p l e R s m args below meth c H locs cells slots Q (F0 m tgt ls rest)) : W p l e R s m args below meth c H locs cells slots Q (F0 m pc ls rest) := lv_goto F.1 F.2.1 hdg ht kk
theorem z_icmp_eq (F : CallFix p m c cc nL s args Ts own) {x y : Int} {off : Int} (tgt : Nat) (hdg : decode cc pc = .ok (.if_icmp .eq off, 3)) (ht : (pc : Int) + off = (tgt : Int)) (h : (-2147483648 ≤ x ∧ x < 2147483648) ∧ (-2147483648 ≤ y ∧ y < 2147483648)) (kt : x = y → W p l e R s m args below meth c H locs cells slots Q (F0 m tgt ls rest)) (kf : ¬ x = y → W p l e R s m args below meth c H locs cells slots Q (F0 m (pc + 3) ls rest)) : W p l e R s m args below meth c H locs cells slots Q (F0 m pc ls (.int (iI y) :: .int (iI x) :: rest)) :=
  lv_icmp_eq F.1 F.2.1 hdg ht (fun q => kt ((iI_eq h.1 h.2).mp (by first | exact q | (rw [iI_0]; exact q)))) (fun q => kf (fun z => q (by first | exact (iI_eq h.1 h.2).mpr z | (rw [← iI_0]; exact (iI_eq h.1 h.2).mpr z))))
theorem z_if_eq (F : CallFix p m c cc nL s args Ts own) {x : Int} {off : Int} (tgt : Nat) (hdg : decode cc pc = .ok (.ifCond .eq off, 3)) (ht : (pc : Int) + off = (tgt : Int)) (h : -2147483648 ≤ x ∧ x < 2147483648) (kt : x = 0 → W p l e R s m args below meth c H locs cells slots Q (F0 m tgt ls rest)) (kf : ¬ x = 0 → W p l e R s m args below meth c H locs cells slots Q (F0 m (pc + 3) ls rest)) : W p l e R s m args below meth c H locs cells slots Q (F0 m pc ls (.int (iI x) :: rest)) :=
  lv_if_eq F.1 F.2.1 hdg ht (fun q => kt ((iI_eq h (show -2147483648 ≤ (0 : Int) ∧ (0 : Int) < 2147483648 by omega)).mp (by first | exact q | (rw [iI_0]; exact q)))) (fun q => kf (fun z => q (by first | exact (iI_eq h (show -2147483648 ≤ (0 : Int) ∧ (0 : Int) < 2147483648 by omega)).mpr z | (rw [← iI_0]; exact (iI_eq h (show -2147483648 ≤ (0 : Int) ∧ (0 : Int) < 2147483648 by omega)).mpr z))))
theorem z_icmp_ne (F : CallFix p m c cc nL s args Ts own) {x y : Int} {off : Int} (tgt : Nat) (hdg : decode cc pc = .ok (.if_icmp .ne off, 3)) (ht : (pc : Int) + off = (tgt : Int)) (h : (-2147483648 ≤ x ∧ x < 2147483648) ∧ (-2147483648 ≤ y ∧ y < 2147483648)) (kt : ¬ x = y → W p l e R s m args below meth c H locs cells slots Q (F0 m tgt ls rest)) (kf : x = y → W p l e R s m args below meth c H locs cells slots Q (F0 m (pc + 3) ls rest)) : W p l e R s m args below meth c H locs cells slots Q (F0 m pc ls (.int (iI y) :: .int (iI x) :: rest)) :=
  lv_icmp_ne F.1 F.2.1 hdg ht (fun q => kt (fun z => q (by first | exact (iI_eq h.1 h.2).mpr z | (rw [← iI_0]; exact (iI_eq h.1 h.2).mpr z)))) (fun q => kf ((iI_eq h.1 h.2).mp (by first | exact q | (rw [iI_0]; exact q))))
theorem z_if_ne (F : CallFix p m c cc nL s args Ts own) {x : Int} {off : Int} (tgt : Nat) (hdg : decode cc pc = .ok (.ifCond .ne off, 3)) (ht : (pc : Int) + off = (tgt : Int)) (h : -2147483648 ≤ x ∧ x < 2147483648) (kt : ¬ x = 0 → W p l e R s m args below meth c H locs cells slots Q (F0 m tgt ls rest)) (kf : x = 0 → W p l e R s m args below meth c H locs cells slots Q (F0 m (pc + 3) ls rest)) : W p l e R s m args below meth c H locs cells slots Q (F0 m pc ls (.int (iI x) :: rest)) :=
  lv_if_ne F.1 F.2.1 hdg ht (fun q => kt (fun z => q (by first | exact (iI_eq h (show -2147483648 ≤ (0 : Int) ∧ (0 : Int) < 2147483648 by omega)).mpr z | (rw [← iI_0]; exact (iI_eq h (show -2147483648 ≤ (0 : Int) ∧ (0 : Int) < 2147483648 by omega)).mpr z)))) (fun q => kf ((iI_eq h (show -2147483648 ≤ (0 : Int) ∧ (0 : Int) < 2147483648 by omega)).mp (by first | exact q | (rw [iI_0]; exact q))))
theorem z_icmp_lt (F : CallFix p m c cc nL s args Ts own) {x y : Int} {off : Int} (tgt : Nat) (hdg : decode cc pc = .ok (.if_icmp .lt off, 3)) (ht : (pc : Int) + off = (tgt : Int)) (h : (-2147483648 ≤ x ∧ x < 2147483648) ∧ (-2147483648 ≤ y ∧ y < 2147483648)) (kt : x < y → W p l e R s m args below meth c H locs cells slots Q (F0 m tgt ls rest)) (kf : ¬ x < y → W p l e R s m args below meth c H locs cells slots Q (F0 m (pc + 3) ls rest)) : W p l e R s m args below meth c H locs cells slots Q (F0 m pc ls (.int (iI y) :: .int (iI x) :: rest)) :=
  lv_icmp_lt F.1 F.2.1 hdg ht (fun q => kt ((iI_lt h.1 h.2).mp (by first | exact q | (rw [iI_0]; exact q)))) (fun q => kf (fun z => q (by first | exact (iI_lt h.1 h.2).mpr z | (rw [← iI_0]; exact (iI_lt h.1 h.2).mpr z))))
theorem z_if_lt (F : CallFix p m c cc nL s args Ts own) {x : Int} {off : Int} (tgt : Nat) (hdg : decode cc pc = .ok (.ifCond .lt off, 3)) (ht : (pc : Int) + off = (tgt : Int)) (h : -2147483648 ≤ x ∧ x < 2147483648) (kt : x < 0 → W p l e R s m args below meth c H locs cells slots Q (F0 m tgt ls rest)) (kf : ¬ x < 0 → W p l e R s m args below meth c H locs cells slots Q (F0 m (pc + 3) ls rest)) : W p l e R s m args below meth c H locs cells slots Q (F0 m pc ls (.int (iI x) :: rest)) :=
  lv_if_lt F.1 F.2.1 hdg ht (fun q => kt ((iI_lt h (show -2147483648 ≤ (0 : Int) ∧ (0 : Int) < 2147483648 by omega)).mp (by first | exact q | (rw [iI_0]; exact q)))) (fun q => kf (fun z => q (by first | exact (iI_lt h (show -2147483648 ≤ (0 : Int) ∧ (0 : Int) < 2147483648 by omega)).mpr z | (rw [← iI_0]; exact (iI_lt h (show -2147483648 ≤ (0 : Int) ∧ (0 : Int) < 2147483648 by omega)).mpr z))))
theorem z_icmp_ge (F : CallFix p m c cc nL s args Ts own) {x y : Int} {off : Int} (tgt : Nat) (hdg : decode cc pc = .ok (.if_icmp .ge off, 3)) (ht : (pc : Int) + off = (tgt : Int)) (h : (-2147483648 ≤ x ∧ x < 2147483648) ∧ (-2147483648 ≤ y ∧ y < 2147483648)) (kt : y ≤ x → W p l e R s m args below meth c H locs cells slots Q (F0 m tgt ls rest)) (kf : ¬ y ≤ x → W p l e R s m args below meth c H locs cells slots Q (F0 m (pc + 3) ls rest)) : W p l e R s m args below meth c H locs cells slots Q (F0 m pc ls (.int (iI y) :: .int (iI x) :: rest)) :=
  lv_icmp_ge F.1 F.2.1 hdg ht (fun q => kt ((iI_le h.2 h.1).mp (by first | exact q | (rw [iI_0]; exact q)))) (fun q => kf (fun z => q (by first | exact (iI_le h.2 h.1).mpr z | (rw [← iI_0]; exact (iI_le h.2 h.1).mpr z))))
theorem z_if_ge (F : CallFix p m c cc nL s args Ts own) {x : Int} {off : Int} (tgt : Nat) (hdg : decode cc pc = .ok (.ifCond .ge off, 3)) (ht : (pc : Int) + off = (tgt : Int)) (h : -2147483648 ≤ x ∧ x < 2147483648) (kt : 0 ≤ x → W p l e R s m args below meth c H locs cells slots Q (F0 m tgt ls rest)) (kf : ¬ 0 ≤ x → W p l e R s m args below meth c H locs cells slots Q (F0 m (pc + 3) ls rest)) : W p l e R s m args below meth c H locs cells slots Q (F0 m pc ls (.int (iI x) :: rest)) :=
  lv_if_ge F.1 F.2.1 hdg ht (fun q => kt ((iI_le (show -2147483648 ≤ (0 : Int) ∧ (0 : Int) < 2147483648 by omega) h).mp (by first | exact q | (rw [iI_0]; exact q)))) (fun q => kf (fun z => q (by first | exact (iI_le (show -2147483648 ≤ (0 : Int) ∧ (0 : Int) < 2147483648 by omega) h).mpr z | (rw [← iI_0]; exact (iI_le (show -2147483648 ≤ (0 : Int) ∧ (0 : Int) < 2147483648 by omega) h).mpr z))))
theorem z_icmp_gt (F : CallFix p m c cc nL s args Ts own) {x y : Int} {off : Int} (tgt : Nat) (hdg : decode cc pc = .ok (.if_icmp .gt off, 3)) (ht : (pc : Int) + off = (tgt : Int)) (h : (-2147483648 ≤ x ∧ x < 2147483648) ∧ (-2147483648 ≤ y ∧ y < 2147483648)) (kt : y < x → W p l e R s m args below meth c H locs cells slots Q (F0 m tgt ls rest)) (kf : ¬ y < x → W p l e R s m args below meth c H locs cells slots Q (F0 m (pc + 3) ls rest)) : W p l e R s m args below meth c H locs cells slots Q (F0 m pc ls (.int (iI y) :: .int (iI x) :: rest)) :=
  lv_icmp_gt F.1 F.2.1 hdg ht (fun q => kt ((iI_lt h.2 h.1).mp (by first | exact q | (rw [iI_0]; exact q)))) (fun q => kf (fun z => q (by first | exact (iI_lt h.2 h.1).mpr z | (rw [← iI_0]; exact (iI_lt h.2 h.1).mpr z))))
theorem z_if_gt (F : CallFix p m c cc nL s args Ts own) {x : Int} {off : Int} (tgt : Nat) (hdg : decode cc pc = .ok (.ifCond .gt off, 3)) (ht : (pc : Int) + off = (tgt : Int)) (h : -2147483648 ≤ x ∧ x < 2147483648) (kt : 0 < x → W p l e R s m args below meth c H locs cells slots Q (F0 m tgt ls rest)) (kf : ¬ 0 < x → W p l e R s m args below meth c H locs cells slots Q (F0 m (pc + 3) ls rest)) : W p l e R s m args below meth c H locs cells slots Q (F0 m pc ls (.int (iI x) :: rest)) :=
  lv_if_gt F.1 F.2.1 hdg ht (fun q => kt ((iI_lt (show -2147483648 ≤ (0 : Int) ∧ (0 : Int) < 2147483648 by omega) h).mp (by first | exact q | (rw [iI_0]; exact q)))) (fun q => kf (fun z => q (by first | exact (iI_lt (show -2147483648 ≤ (0 : Int) ∧ (0 : Int) < 2147483648 by omega) h).mpr z | (rw [← iI_0]; exact (iI_lt (show -2147483648 ≤ (0 : Int) ∧ (0 : Int) < 2147483648 by omega) h).mpr z))))
theorem z_icmp_le (F : CallFix p m c cc nL s args Ts own) {x y : Int} {off : Int} (tgt : Nat) (hdg : decode cc pc = .ok (.if_icmp .le off, 3)) (ht : (pc : Int) + off = (tgt : Int)) (h : (-2147483648 ≤ x ∧ x < 2147483648) ∧ (-2147483648 ≤ y ∧ y < 2147483648)) (kt : x ≤ y → W p l e R s m args below meth c H locs cells slots Q (F0 m tgt ls rest)) (kf : ¬ x ≤ y → W p l e R s m args below meth c H locs cells slots Q (F0 m (pc + 3) ls rest)) : W p l e R s m args below meth c H locs cells slots Q (F0 m pc ls (.int (iI y) :: .int (iI x) :: rest)) :=
  lv_icmp_le F.1 F.2.1 hdg ht (fun q => kt ((iI_le h.1 h.2).mp (by first | exact q | (rw [iI_0]; exact q)))) (fun q => kf (fun z => q (by first | exact (iI_le h.1 h.2).mpr z | (rw [← iI_0]; exact (iI_le h.1 h.2).mpr z))))
theorem z_if_le (F : CallFix p m c cc nL s args Ts own) {x : Int} {off : Int} (tgt : Nat) (hdg : decode cc pc = .ok (.ifCond .le off, 3)) (ht : (pc : Int) + off = (tgt : Int)) (h : -2147483648 ≤ x ∧ x < 2147483648) (kt : x ≤ 0 → W p l e R s m args below meth c H locs cells slots Q (F0 m tgt ls rest)) (kf : ¬ x ≤ 0 → W p l e R s m args below meth c H locs cells slots Q (F0 m (pc + 3) ls rest)) : W p l e R s m args below meth c H locs cells slots Q (F0 m pc ls (.int (iI x) :: rest)) :=
  lv_if_le F.1 F.2.1 hdg ht (fun q => kt ((iI_le h (show -2147483648 ≤ (0 : Int) ∧ (0 : Int) < 2147483648 by omega)).mp (by first | exact q | (rw [iI_0]; exact q)))) (fun q => kf (fun z => q (by first | exact (iI_le h (show -2147483648 ≤ (0 : Int) ∧ (0 : Int) < 2147483648 by omega)).mpr z | (rw [← iI_0]; exact (iI_le h (show -2147483648 ≤ (0 : Int) ∧ (0 : Int) < 2147483648 by omega)).mpr z))))
/-! cells -/
theorem z_get (F : CallFix p m c cc nL s args Ts own) {C : String} {T : u_T} {N ci index : Nat} (hin : ∀ w ∈ u_ws C T N, w ∈ Ts) (hK : zK D cI cZ s) (hW : zW D A H0 H locs ws) (q0 k : Nat) {fs : List Value} (he : ws[q0]? = some (a, .inr (ci, fs))) (hc : vwCl[ci]? = some (C, T, N)) (hk : k < N) (hown : (T k).1 = C) (hlink : Cond.fieldLink own index C (T k).2.1 (T k).2.2.1 ∈ Ts) {v : Value} (hv : fs[k]? = some v) (hdg : decode cc pc = .ok (.getfield index, 3))
    (kk : W p l e R s m args below meth c H locs cells slots Q (F0 m (pc + 3) ls (v :: rest))) : W p l e R s m args below meth c H locs cells slots Q (F0 m pc ls (.ref a :: rest)) :=
  va_get (C := C) (T := T) (N := N) (ref := C) F.1 F.2.1 F.2.2.2.2 hin F.2.2.2.1 hK hW.1 q0 he hc k hk (F.2.2.2.2 _ hlink) (fun _ h9 => by rw [hown] at h9; exact h9) hv hdg kk
theorem z_put (F : CallFix p m c cc nL s args Ts own) {C : String} {T : u_T} {N ci index : Nat} (hin : ∀ w ∈ u_ws C T N, w ∈ Ts) (ty0 : Nat → FieldType) (hty : ∀ k, k < N → parseFieldDescriptor (T k).2.2.1 = some (ty0 k)) (hnm : ∀ a, a < N → ∀ b, b < N → a ≠ b → (T a).2.1 ≠ (T b).2.1) (hK : zK D cI cZ s) (hW : zW D A H0 H locs ws) (q0 k : Nat) {fs : List Value} {x : Int} (he : ws[q0]? = some (a, .inr (ci, fs))) (hc : vwCl[ci]? = some (C, T, N)) (hk : k < N) (hown : (T k).1 = C) (hlink : Cond.fieldLink own index C (T k).2.1 (T k).2.2.1 ∈ Ts) (hfin : (T k).2.2.2 = false) (hti : ty0 k = .int) (hl : k < fs.length) (hdg : decode cc pc = .ok (.putfield index, 3)) (hws : ws.set q0 (a, .inr (ci, fs.set k (.int (iI x)))) = ws')
    (kk : ∀ (H1 : Heap) (locs1 : List Loc), zW D A H0 H1 locs1 ws' → W p l e R s m args below meth c H1 locs1 cells slots Q (F0 m (pc + 3) ls rest)) : W p l e R s m args below meth c H locs cells slots Q (F0 m pc ls (.int (iI x) :: .ref a :: rest)) := by
  subst hws
  exact va_put (C := C) (T := T) (N := N) (ref := C) (ty := .int) F.1 F.2.1 F.2.2.2.2 hin ty0 hty hnm F.2.2.2.1 hK hW.1 hW.2.1 hW.2.2 q0 he hc k hk (F.2.2.2.2 _ hlink) (fun _ h9 => by rw [hown] at h9; exact h9) hfin (by rw [hty k hk, hti]) rfl rfl hl hdg (fun H1 locs1 h1 h2 h3 => kk H1 locs1 ⟨h1, h2, h3⟩)
theorem z_iald (F : CallFix p m c cc nL s args Ts own) (hK : zK D cI cZ s) (hW : zW D A H0 H locs ws) (q0 : Nat) {n : Nat} {f : Int → Int} {z : Int} (ha : ws[q0]? = some (a, .inl (cI, n, .inl (zA f)))) (hn : n < 2147483648) (hdg : decode cc pc = .ok (.iaload, 1)) (hz : 0 ≤ z ∧ z < (n : Int))
    (kk : W p l e R s m args below meth c H locs cells slots Q (F0 m (pc + 1) ls (.int (iI (f z)) :: rest))) : W p l e R s m args below meth c H locs cells slots Q (F0 m pc ls (.int (iI z) :: .ref a :: rest)) :=
  va_iald F.1 F.2.1 hK hW.1 q0 0 ha rfl (iI_in hz hn) hdg (by rw [zA_at f (by omega)]; exact kk)
theorem z_zald (F : CallFix p m c cc nL s args Ts own) (hK : zK D cI cZ s) (hW : zW D A H0 H locs ws) (q0 : Nat) {n : Nat} {f : Int → Int} {z : Int} (ha : ws[q0]? = some (a, .inl (cZ, n, .inl (zA f)))) (hn : n < 2147483648) (hdg : decode cc pc = .ok (.baload, 1)) (hz : 0 ≤ z ∧ z < (n : Int))
    (kk : W p l e R s m args below meth c H locs cells slots Q (F0 m (pc + 1) ls (.int (iI (f z)) :: rest))) : W p l e R s m args below meth c H locs cells slots Q (F0 m pc ls (.int (iI z) :: .ref a :: rest)) :=
  va_zald F.1 F.2.1 hK hW.1 q0 1 ha rfl (iI_in hz hn) hdg (by rw [zA_at f (by omega)]; exact kk)
theorem z_iast (F : CallFix p m c cc nL s args Ts own) (hK : zK D cI cZ s) (hW : zW D A H0 H locs ws) (q0 : Nat) {n : Nat} {f : Int → Int} {z v : Int} (ha : ws[q0]? = some (a, .inl (cI, n, .inl (zA f)))) (hn : n < 2147483648) (hdg : decode cc pc = .ok (.iastore, 1)) (hz : 0 ≤ z ∧ z < (n : Int)) (hws : ws.set q0 (a, .inl (cI, n, .inl (zA (zU f z v)))) = ws')
    (kk : ∀ (H1 : Heap) (locs1 : List Loc), zW D A H0 H1 locs1 ws' → W p l e R s m args below meth c H1 locs1 cells slots Q (F0 m (pc + 1) ls rest)) : W p l e R s m args below meth c H locs cells slots Q (F0 m pc ls (.int (iI v) :: .int (iI z) :: .ref a :: rest)) := by
  subst hws
  exact va_iast F.1 F.2.1 hK hW.1 hW.2.1 hW.2.2 q0 0 ha rfl (iI_in hz hn) hdg (fun H1 locs1 h1 h2 h3 => kk H1 locs1 (by rw [zA_upd f (by omega)] at h1 h2; exact ⟨h1, h2, h3⟩))
theorem z_zast (F : CallFix p m c cc nL s args Ts own) (hK : zK D cI cZ s) (hW : zW D A H0 H locs ws) (q0 : Nat) {n : Nat} {f : Int → Int} {z v : Int} (ha : ws[q0]? = some (a, .inl (cZ, n, .inl (zA f)))) (hn : n < 2147483648) (hdg : decode cc pc = .ok (.bastore, 1)) (hz : 0 ≤ z ∧ z < (n : Int)) (hv : v = 0 ∨ v = 1) (hws : ws.set q0 (a, .inl (cZ, n, .inl (zA (zU f z v)))) = ws')
    (kk : ∀ (H1 : Heap) (locs1 : List Loc), zW D A H0 H1 locs1 ws' → W p l e R s m args below meth c H1 locs1 cells slots Q (F0 m (pc + 1) ls rest)) : W p l e R s m args below meth c H locs cells slots Q (F0 m pc ls (.int (iI v) :: .int (iI z) :: .ref a :: rest)) := by
  subst hws
  exact va_zast F.1 F.2.1 hK hW.1 hW.2.1 hW.2.2 q0 1 ha rfl (iI_in hz hn) hdg (fun H1 locs1 h1 h2 h3 => kk H1 locs1 (by rw [iI_and1 hv, zA_upd f (by omega)] at h1 h2; exact ⟨h1, h2, h3⟩))
theorem z_alen (F : CallFix p m c cc nL s args Ts own) (hK : zK D cI cZ s) (hW : zW D A H0 H locs ws) (q0 : Nat) {n : Nat} {x : (Nat → Int32) ⊕ (Nat → Int64) ⊕ (Nat → UInt32) ⊕ (Nat → UInt64) ⊕ (Nat → Option Nat)} (ha : ws[q0]? = some (a, .inl (cI, n, x))) (hdg : decode cc pc = .ok (.arraylength, 1))
    (kk : W p l e R s m args below meth c H locs cells slots Q (F0 m (pc + 1) ls (.int (iI (n : Int)) :: rest))) : W p l e R s m args below meth c H locs cells slots Q (F0 m pc ls (.ref a :: rest)) :=
  va_alen F.1 F.2.1 hK hW.1 q0 0 ha rfl (v := iI (n : Int)) (by unfold iI; exact (Int32.ofInt_eq_ofNat).symm) hdg kk
theorem z_mmax (F : CallFix p m c cc nL s args Ts own) (hl : ls.size = nL) {index : Nat} (h1 : Cond.methodLink own index Lib.Math.max.name ∈ Ts) (h2 : Cond.static Lib.Math.max.name ∈ Ts) (h3 : Cond.initialized "java/lang/Math" ∈ Ts) (h4 : Cond.code Lib.Math.max.name Lib.Math.max.code 2 (some .int) ∈ Ts) (hframes : 1 ≤ R.frames) (hlocals : (rest.map fun v => v.category).sum + 13 ≤ R.locals) (hc : cells ≤ R.cells) (hs : slots ≤ R.slots) {x y : Int} (hdg : decode cc pc = .ok (.invokestatic index, 3)) (hr : (-2147483648 ≤ x ∧ x < 2147483648) ∧ (-2147483648 ≤ y ∧ y < 2147483648))
    (kk : W p l e R s m args below meth c H locs cells slots Q (F0 m (pc + 3) ls (.int (iI (max x y)) :: rest))) : W p l e R s m args below meth c H locs cells slots Q (F0 m pc ls (.int (iI y) :: .int (iI x) :: rest)) :=
  va_mmax F.1 F.2.1 (F.2.2.1.trans hl.symm) F.2.2.2.1 (F.2.2.2.2 _ h1) (F.2.2.2.2 _ h2) (F.2.2.2.2 _ h3) (F.2.2.2.2 _ h4) hframes hlocals hc hs hdg (by
    have e : (if iI x < iI y then iI y else iI x) = iI (max x y) := by
      by_cases q : x < y
      · rw [if_pos ((iI_lt hr.1 hr.2).mpr q), show max x y = y by omega]
      · rw [if_neg (fun z => q ((iI_lt hr.1 hr.2).mp z)), show max x y = x by omega]
    rw [e]; exact kk)
theorem z_mmin (F : CallFix p m c cc nL s args Ts own) (hl : ls.size = nL) {index : Nat} (h1 : Cond.methodLink own index Lib.Math.min.name ∈ Ts) (h2 : Cond.static Lib.Math.min.name ∈ Ts) (h3 : Cond.initialized "java/lang/Math" ∈ Ts) (h4 : Cond.code Lib.Math.min.name Lib.Math.min.code 2 (some .int) ∈ Ts) (hframes : 1 ≤ R.frames) (hlocals : (rest.map fun v => v.category).sum + 13 ≤ R.locals) (hc : cells ≤ R.cells) (hs : slots ≤ R.slots) {x y : Int} (hdg : decode cc pc = .ok (.invokestatic index, 3)) (hr : (-2147483648 ≤ x ∧ x < 2147483648) ∧ (-2147483648 ≤ y ∧ y < 2147483648))
    (kk : W p l e R s m args below meth c H locs cells slots Q (F0 m (pc + 3) ls (.int (iI (min x y)) :: rest))) : W p l e R s m args below meth c H locs cells slots Q (F0 m pc ls (.int (iI y) :: .int (iI x) :: rest)) :=
  va_mmin F.1 F.2.1 (F.2.2.1.trans hl.symm) F.2.2.2.1 (F.2.2.2.2 _ h1) (F.2.2.2.2 _ h2) (F.2.2.2.2 _ h3) (F.2.2.2.2 _ h4) hframes hlocals hc hs hdg (by
    have e : (if iI y < iI x then iI y else iI x) = iI (min x y) := by
      by_cases q : y < x
      · rw [if_pos ((iI_lt hr.2 hr.1).mpr q), show min x y = y by omega]
      · rw [if_neg (fun z => q ((iI_lt hr.2 hr.1).mp z)), show min x y = x by omega]
    rw [e]; exact kk)
theorem z_mabs (F : CallFix p m c cc nL s args Ts own) (hl : ls.size = nL) {index : Nat} (h1 : Cond.methodLink own index Lib.Math.abs.name ∈ Ts) (h2 : Cond.static Lib.Math.abs.name ∈ Ts) (h3 : Cond.initialized "java/lang/Math" ∈ Ts) (h4 : Cond.code Lib.Math.abs.name Lib.Math.abs.code 1 (some .int) ∈ Ts) (hframes : 1 ≤ R.frames) (hlocals : (rest.map fun v => v.category).sum + 13 ≤ R.locals) (hc : cells ≤ R.cells) (hs : slots ≤ R.slots) {x : Int} (hdg : decode cc pc = .ok (.invokestatic index, 3)) (hr : -2147483648 ≤ x ∧ x < 2147483648)
    (kk : W p l e R s m args below meth c H locs cells slots Q (F0 m (pc + 3) ls (.int (iI (x.natAbs : Int)) :: rest))) : W p l e R s m args below meth c H locs cells slots Q (F0 m pc ls (.int (iI x) :: rest)) :=
  va_mabs F.1 F.2.1 (F.2.2.1.trans hl.symm) F.2.2.2.1 (F.2.2.2.2 _ h1) (F.2.2.2.2 _ h2) (F.2.2.2.2 _ h3) (F.2.2.2.2 _ h4) hframes hlocals hc hs hdg (by
    have e : (if 0 ≤ iI x then iI x else 0 - iI x) = iI (x.natAbs : Int) := by
      rw [← iI_0]
      by_cases q : 0 ≤ x
      · rw [if_pos ((iI_le (by omega) hr).mpr q), show (x.natAbs : Int) = x by omega]
      · rw [if_neg (fun z => q ((iI_le (by omega) hr).mp z)), iI_sub, show (x.natAbs : Int) = 0 - x by omega]
    rw [e]; exact kk)
theorem z_lcmp (F : CallFix p m c cc nL s args Ts own) {x y : Int} (hdg : decode cc pc = .ok (.lcmp, 1)) (hr : (-9223372036854775808 ≤ x ∧ x < 9223372036854775808) ∧ (-9223372036854775808 ≤ y ∧ y < 9223372036854775808))
    (kk : ∀ q : Int, (x < y → q = -1) → (x = y → q = 0) → (y < x → q = 1) → W p l e R s m args below meth c H locs cells slots Q (F0 m (pc + 1) ls (.int (iI q) :: rest))) : W p l e R s m args below meth c H locs cells slots Q (F0 m pc ls (.long (lI y) :: .long (lI x) :: rest)) := by
  refine W.lcmp F.1 F.2.1 hdg ?_
  by_cases h1 : y < x
  · have e : lg_cmp (lI x) (lI y) = iI 1 := by
      have := (lI_lt hr.2 hr.1).mpr h1
      simp [lg_cmp, this]; decide +kernel
    rw [e]; exact kk 1 (fun _ => by omega) (fun _ => by omega) (fun _ => rfl)
  · by_cases h2 : x = y
    · have e : lg_cmp (lI x) (lI y) = iI 0 := by subst h2; simp [lg_cmp]; decide +kernel
      rw [e]; exact kk 0 (fun _ => by omega) (fun _ => rfl) (fun _ => by omega)
    · have e : lg_cmp (lI x) (lI y) = iI (-1) := by
        have g1 : ¬ lI y < lI x := fun z => h1 ((lI_lt hr.2 hr.1).mp z)
        have g2 : ¬ lI x = lI y := fun z => h2 ((lI_eq hr.1 hr.2).mp z)
        simp [lg_cmp, g1, g2]; decide +kernel
      rw [e]; exact kk (-1) (fun _ => rfl) (fun h => absurd h h2) (fun h => absurd h h1)
/-- a value under another name -/
theorem z_eqi {x y : Int} (h : x = y) (kk : W p l e R s m args below meth c H locs cells slots Q (F0 m pc ls (.int (iI y) :: rest))) : W p l e R s m args below meth c H locs cells slots Q (F0 m pc ls (.int (iI x) :: rest)) := by rw [h]; exact kk
theorem z_eql {x y : Int} (h : x = y) (kk : W p l e R s m args below meth c H locs cells slots Q (F0 m pc ls (.long (lI y) :: rest))) : W p l e R s m args below meth c H locs cells slots Q (F0 m pc ls (.long (lI x) :: rest)) := by rw [h]; exact kk
theorem z_nmi {x : Int} (kk : ∀ z : Int, z = x → W p l e R s m args below meth c H locs cells slots Q (F0 m pc ls (.int (iI z) :: rest))) : W p l e R s m args below meth c H locs cells slots Q (F0 m pc ls (.int (iI x) :: rest)) := kk x rfl
theorem z_nml {x : Int} (kk : ∀ z : Int, z = x → W p l e R s m args below meth c H locs cells slots Q (F0 m pc ls (.long (lI z) :: rest))) : W p l e R s m args below meth c H locs cells slots Q (F0 m pc ls (.long (lI x) :: rest)) := kk x rfl
end ZK
