/-! the law's start, and the claim out of it: what stands ahead of pr2 and behind whole_start is the kit's skeleton (a starting text) -/
/-! THE CLAIM OUT OF ONE WALK OF THE LAW'S BODY. Your part is whole_start (and what it stands on); all else here is the same for every law, but numbers. -/
def R_law : String := "StrokeBookLaw"
def lw_P (b : Addr) (xs : List Int32) (args : Array Value) (s : State) : Prop := args = #[.ref b] ∧ s.IntsAt b xs ∧ xs.length ≤ 4096 ∧ (Jvm.Cond.and given_1 narrow_1).before args s = true
def lw_Q (_ : Array Value) (s : State) (o : Outcome) (t : State) : Prop := o = .returned (some (.int 1)) ∧ Framed s o t [] 60 2598
def lw_Z (below : List Frame) (a : Array Value) (s : State) : State → Prop := fun t => ∃ o, t.status = .running ∧ Ended t below o ∧ lw_Q a s o t
/-- the law's own end, with 1 on the stack, nothing written that was there before, its room as the claim has it -/
theorem lw_ret {p : Program} {l : Launch} {e : Env} {s : State} {m : MethodId} {below : List Frame} {meth : Method} {c : Code} {b : Nat} (hx : p.tables.exec = Jvm.exec) (hb : c.code = code) (hr : meth.sig.returnType = ret) (hlocks : meth.locks = false) {pc : Nat} {H : Heap} {ls : Array Slot} (hdg : decode code pc = .ok (.ireturn, 1)) : W p l e room_1 s m #[Value.ref b] below meth c H [] 60 2598 (lw_Z below #[Value.ref b] s) (F0 m pc ls [.int 1]) := by
  intro T hT X
  obtain ⟨fs, hret, hrun, hended, hW, hframe⟩ := X.leave (v := some (.int 1)) (hlocks := hlocks) (fun h => by rw [hr] at h; cases h)
  have hmeth' : T.vm.method? m = some meth := X.method'
  refine ⟨T.setFrames fs, ?_, .returned (some (.int 1)), hrun, hended, rfl, ⟨_, rfl⟩, hW, hframe⟩
  jvm_step X.here [X.here.top, hx, hb, hdg, hmeth', hr, ret, narrow_b1]
  (try refine ⟨rfl, ?_⟩); (try refine ⟨rfl, ?_⟩)
  first | (intro acts; rw [hret _ acts rfl rfl rfl]) | rw [hret _ _ rfl rfl rfl]
  exact Steps.refl _
/-- what holds at the law's entry: the machine, the code, the tables' words (any of lw_tbl by 'hts w (by decide +kernel)'), the script of L ints xs at the cell b, what the Statement gives of the start (any of its parts by flat_of_before) -/
def lw_At (p : Program) (s : State) (m : MethodId) (meth : Method) (c : Code) (b L : Nat) (xs : Nat → Int32) : Prop :=
  p.tables.exec = Jvm.exec ∧ c.code = code ∧ meth.sig.returnType = ret ∧ c.maxLocals = 4 ∧ s.vm.findClass R_law = some m.cls ∧ (∀ w ∈ lw_tbl, w.before #[Value.ref b] s = true) ∧ va_X b L xs s s.heap ∧ b < s.heap.size ∧ meth.locks = false ∧ (Jvm.Cond.and given_1 narrow_1).before #[Value.ref b] s = true
def pr2 (a b : Nat) : Nat → Nat
  | 0 => a
  | _ => b
theorem tl9_0 : ∀ k : Int, 0 ≤ k → k < 4 → (zU (zU (zU (zU z0 0 (-4)) 1 (-4)) 2 (-4)) 3 (-4)) k = -4 := by
  intro k h0 h1
  unfold zU
  rcases (show k = 0 ∨ k = 1 ∨ k = 2 ∨ k = 3 by omega) with h | h | h | h <;> subst h <;> simp
set_option maxRecDepth 20000 in
theorem nest7_in : ∀ w ∈ nest7, w ∈ lw_tbl := z_mem_r _ [56, 86, 111, 145, 161, 186, 213] (by decide +kernel)
theorem nest7_tab : ∀ w ∈ nest7, w.onTables = true := by decide +kernel
theorem nest7_ok {s U : State} (hW : s.WarmedH U.vm) (h : ∀ w ∈ nest7, va_Nw w s) : ∀ w ∈ nest7, va_Nw w U := by
  intro w hw
  have h2 := h w hw
  unfold nest7 at hw
  simp only [List.mem_cons, List.not_mem_nil, or_false] at hw
  rcases hw with h3 | h3 | h3 | h3 | h3 | h3 | h3 <;> rw [h3] at h2 ⊢ <;> exact va_Nw.warmM hW h2
set_option maxHeartbeats 16000000 in
set_option maxRecDepth 100000 in
theorem whole_start {p : Program} {e : Env} {s : State} {m : MethodId} {below : List Frame} {meth : Method} {c : Code} (l : Launch) (hflags : l.flags = flags0) {b L : Nat} {xs : Nat → Int32} (hL : L ≤ 4096) (C0 : lw_At p s m meth c b L xs) : W p l e room_1 s m #[Value.ref b] below meth c s.heap [] 0 0 (lw_Z below #[Value.ref b] s) (entryFrame m ([Value.ref b] : List Value).toArray 4) := by
  obtain ⟨hx, hb, hr, hml, hown, hts, hX, hbl, hlocks, hgv⟩ := id C0
  obtain ⟨D, cI, cZ, hK⟩ := lw_known hts
  obtain ⟨A, hAe⟩ : ∃ A : Nat → Prop, A = fun q : Nat => s.heap.size ≤ q := ⟨_, rfl⟩
  have hA : ∀ q : Nat, s.heap.size ≤ q → A q := fun q h => by rw [hAe]; exact h
  have hAd : ∀ q, A q → s.heap.size ≤ q := fun q h => by rw [hAe] at h; exact h
  have hbA : ¬ A b := fun h => Nat.not_le.mpr hbl (hAd b h)
  have F : CallFix p m c cL_law 4 s #[Value.ref b] wsL_law RL := ⟨hx, hb, hml, hown, fun w hw => hts w (wsL_law_in w hw)⟩
  have hN : ∀ w ∈ nest7, va_Nw w s := fun w hw => va_Nw.of (nest7_tab w hw) (hts w (nest7_in w hw))
  have hend : ∀ (H : Heap) (locs : List Loc) (pc : Nat) (ls : Array Slot), decode cL_law pc = .ok (.ireturn, 1) → (∀ q ∈ locs, A q.base) → W p l e room_1 s m #[Value.ref b] below meth c H locs 60 2598 (lw_Z below #[Value.ref b] s) (F0 m pc ls [.int (iI 1)]) := fun H locs pc ls hdg hlc => by
    rw [show iI 1 = 1 from by decide +kernel]
    exact va_forget (fun q hq => hAd _ (hlc q hq)) (lw_ret hx hb hr hlocks hdg)
  have hW : zW D A s.heap s.heap [] [] := ⟨fun k q h => by simp at h, ⟨fun i j p q h => by simp at h, fun k q h => by simp at h⟩, va_S.rf⟩
  have hl := lv_entry ([.ref b]) (n := 4) (Nat.le_of_ble_eq_true rfl)
  rw [lg_entry_eq]
  generalize (lg_sl ([.ref b]) ++ List.replicate (4 - (lg_sl ([.ref b])).length) Slot.unset).toArray = ls at hl ⊢
  have hl : lv_has ls 4 [(0, .ref b)] := hl
  refine z_new F (pc := 0) inlX7 tyX7 tyX7_ok (List.mem_of_getElem? (i := 0) rfl) (List.mem_of_getElem? (i := 1) rfl) (List.mem_of_getElem? (i := 2) rfl) hK hW hA (ci := 7) rfl (fs := [.null, .null, .null, .null, .null, .null, .null, .null, .int (iI 0), .int (iI 0)]) (by intro j hj; rcases j with _|_|_|_|_|_|_|_|_|_|j <;> first | rfl | (show Value.int 0 = Value.int (iI 0); rw [iI_0]) | omega) (Nat.le_of_ble_eq_true rfl) (Nat.le_of_ble_eq_true rfl) dL_law_0 (fun q7 H hW => ?_)
  refine z_dup F (pc := 3) dL_law_3 rfl ?_
  refine z_callIn F (pc := 4) hK hW hA (ns := nest7) (ws' := fun (u : (Nat → Nat) × (Nat → Nat) × (Nat → Nat) × (Nat → Nat) × (Nat → Nat) × (Nat → Nat) × (Nat → Nat) × Nat) => [(q7, .inr (7, [.ref (u.1 0), .ref (u.2.1 0), .ref (u.2.2.1 0), .ref (u.2.2.2.1 0), .ref (u.2.2.2.2.1 0), .ref (u.2.2.2.2.2.1 0), .ref (u.2.2.2.2.2.2.1 0), .ref (u.2.2.2.2.2.2.2), .int (iI 20000), .int (iI 0)]))] ++ wD cI cZ u.1 z0 z0 z0 z0 z0 0 ++ wM cI cZ u.2.1 z0 z0 z0 0 ++ wA cI cZ u.2.2.1 z0 z0 z0 z0 z0 0 0 ++ wS cI cZ u.2.2.2.1 z0 z0 z0 ++ wC cI cZ u.2.2.2.2.1 z0 z0 z0 z0 0 ++ wL cI cZ u.2.2.2.2.2.1 z0 z0 z0 0 0 ++ wT cI cZ u.2.2.2.2.2.2.1 z0 z0 z0 z0 ++ [(u.2.2.2.2.2.2.2, .inl (cI, 16, .inl (zA z0)))]) (wr := []) (n_X7_init l D cI cZ q7 _) (fun U hU => nest7_ok hU hN) nest7_tab (cwI 0 F.2.2.2.2 gL_law_X7_init rfl rfl rfl (F.2.2.2.2 _ (List.mem_of_getElem? (i := 2) rfl)) (F.2.2.2.2 _ (List.mem_of_getElem? (i := 6) rfl)) (F.2.2.2.2 _ (List.mem_of_getElem? (i := 7) rfl)) rfl (by decide +kernel) ⟨Nat.le_of_ble_eq_true rfl, Nat.le_of_ble_eq_true rfl⟩) [0] [] (List.range 36) rfl rfl (by decide) (by decide) (by decide) (fun _ => rfl) (by decide) hl.1 (Nat.le_of_ble_eq_true rfl) dL_law_4 ⟨Nat.le_of_ble_eq_true rfl, Nat.le_of_ble_eq_true rfl⟩ (fun u H locs hp7 hW => ?_)
  obtain ⟨aD, aM, aA, aS, aC, aL, aT, qd⟩ := u
  have hW : zW D A s.heap H locs ([(q7, .inr (7, [.ref (aD 0), .ref (aM 0), .ref (aA 0), .ref (aS 0), .ref (aC 0), .ref (aL 0), .ref (aT 0), .ref (qd), .int (iI 20000), .int (iI 0)]))] ++ wD cI cZ aD z0 z0 z0 z0 z0 0 ++ wM cI cZ aM z0 z0 z0 0 ++ wA cI cZ aA z0 z0 z0 z0 z0 0 0 ++ wS cI cZ aS z0 z0 z0 ++ wC cI cZ aC z0 z0 z0 z0 0 ++ wL cI cZ aL z0 z0 z0 0 0 ++ wT cI cZ aT z0 z0 z0 z0 ++ [(qd, .inl (cI, 16, .inl (zA z0)))]) := hW
  refine lv_astore_n (lv' := [(1, .ref q7), (0, .ref b)]) F.1 F.2.1 dL_law_7 rfl hl (by decide) rfl (fun ls hl => ?_)
  refine z_new F (pc := 8) inlX8 tyX8 tyX8_ok (List.mem_of_getElem? (i := 3) rfl) (List.mem_of_getElem? (i := 4) rfl) (List.mem_of_getElem? (i := 5) rfl) hK hW hA (ci := 8) rfl (fs := [.int (iI 0), .null, .null, .null, .null, .null, .int (iI 0), .null, .null, .null, .int (iI 0), .null, .null, .null, .null, .null, .int (iI 0), .int (iI 0), .null, .null, .int (iI 0), .null, .int (iI 0), .null, .null, .null, .null, .int (iI 0), .int (iI 0), .null, .null, .null]) (by intro j hj; rcases j with _|_|_|_|_|_|_|_|_|_|_|_|_|_|_|_|_|_|_|_|_|_|_|_|_|_|_|_|_|_|_|_|j <;> first | rfl | (show Value.int 0 = Value.int (iI 0); rw [iI_0]) | omega) (Nat.le_of_ble_eq_true rfl) (Nat.le_of_ble_eq_true rfl) dL_law_8 (fun q8 H hW => ?_)
  refine z_dup F (pc := 11) dL_law_11 rfl ?_
  refine z_callI F (pc := 12) hK hW hA (ws' := fun (u : Nat → Nat) => wB cI cZ (pr2 q7 qd) aD aM aA aS aC aL aT z0 20000 0 ++ wD cI cZ aD z0 z0 z0 z0 z0 0 ++ wM cI cZ aM z0 z0 z0 0 ++ wA cI cZ aA z0 z0 z0 z0 z0 0 0 ++ wS cI cZ aS z0 z0 z0 ++ wC cI cZ aC z0 z0 z0 z0 0 ++ wL cI cZ aL z0 z0 z0 0 0 ++ wT cI cZ aT z0 z0 z0 z0 ++ wR cI cZ u z0 z0 z0 z0 z0 z0 z0 z0 z0 z0 z0 z0 z0 z0 z0 z0 z0 z0 z0 z0 (zU (zU (zU (zU z0 0 (-4)) 1 (-4)) 2 (-4)) 3 (-4)) z0 z0 0 0 0 20000 0 0 0 0 0) (wr := [(q7, .inr (7, [.ref (aD 0), .ref (aM 0), .ref (aA 0), .ref (aS 0), .ref (aC 0), .ref (aL 0), .ref (aT 0), .ref (qd), .int (iI 20000), .int (iI 0)]))] ++ wD cI cZ aD z0 z0 z0 z0 z0 0 ++ wM cI cZ aM z0 z0 z0 0 ++ wA cI cZ aA z0 z0 z0 z0 z0 0 0 ++ wS cI cZ aS z0 z0 z0 ++ wC cI cZ aC z0 z0 z0 z0 0 ++ wL cI cZ aL z0 z0 z0 0 0 ++ wT cI cZ aT z0 z0 z0 z0 ++ [(qd, .inl (cI, 16, .inl (zA z0)))]) (n_X8_init l D cI cZ q8 _) (cwI 0 F.2.2.2.2 gL_law_X8_init rfl rfl rfl (F.2.2.2.2 _ (List.mem_of_getElem? (i := 5) rfl)) (F.2.2.2.2 _ (List.mem_of_getElem? (i := 100) rfl)) (F.2.2.2.2 _ (List.mem_of_getElem? (i := 101) rfl)) rfl (by decide +kernel) ⟨Nat.le_of_ble_eq_true rfl, Nat.le_of_ble_eq_true rfl⟩) [36] (List.range 36) [0, 35, 1, 2, 3, 4, 5, 6, 7, 8, 9, 10, 11, 12, 13, 14, 15, 16, 17, 18, 19, 20, 21, 22, 23, 24, 25, 26, 27, 28, 29, 30, 31, 32, 33, 34, 36, 37, 38, 39, 40, 41, 42, 43, 44, 45, 46, 47, 48, 49, 50, 51, 52, 53, 54, 55, 56, 57, 58, 59] rfl rfl (by decide) (by decide) (by decide) (fun _ => rfl) (by decide) hl.1 (Nat.le_of_ble_eq_true rfl) dL_law_12 ⟨Nat.le_of_ble_eq_true rfl, Nat.le_of_ble_eq_true rfl⟩ (fun aR H8 locs8 hp8 hW_8 => ?_)
  subst hp8
  have hW : zW D A s.heap H8 locs8 (wB cI cZ (pr2 q7 qd) aD aM aA aS aC aL aT z0 20000 0 ++ wD cI cZ aD z0 z0 z0 z0 z0 0 ++ wM cI cZ aM z0 z0 z0 0 ++ wA cI cZ aA z0 z0 z0 z0 z0 0 0 ++ wS cI cZ aS z0 z0 z0 ++ wC cI cZ aC z0 z0 z0 z0 0 ++ wL cI cZ aL z0 z0 z0 0 0 ++ wT cI cZ aT z0 z0 z0 z0 ++ wR cI cZ aR z0 z0 z0 z0 z0 z0 z0 z0 z0 z0 z0 z0 z0 z0 z0 z0 z0 z0 z0 z0 (zU (zU (zU (zU z0 0 (-4)) 1 (-4)) 2 (-4)) 3 (-4)) z0 z0 0 0 0 20000 0 0 0 0 0) := hW_8
  refine lv_astore_n (lv' := [(2, .ref (aR 0)), (1, .ref q7), (0, .ref b)]) F.1 F.2.1 dL_law_15 rfl hl (by decide) rfl (fun ls hl => ?_)
  exact whole_loop (aB := pr2 q7 qd) (aD := aD) (aM := aM) (aA := aA) (aS := aS) (aC := aC) (aL := aL) (aT := aT) (aR := aR) (D := D) (cI := cI) (cZ := cZ) (A := A) ⟨hL, F, hK, hA, hX, hbl, hbA⟩ hend z0 z0 z0 z0 z0 z0 z0 z0 z0 z0 z0 z0 z0 z0 z0 z0 z0 z0 z0 z0 z0 z0 z0 z0 z0 z0 z0 z0 z0 z0 z0 z0 z0 z0 z0 z0 z0 (zU (zU (zU (zU z0 0 (-4)) 1 (-4)) 2 (-4)) 3 (-4)) z0 z0 20000 0 0 0 0 0 0 0 0 0 0 0 Dok_0 (MkR_0 _ _ _ _ _ _ _ _ _ _ _ _ _) (Cok_0 _ _ _ _) (Rok_0 _) (by omega) (ShR_0 tl9_0) H8 locs8 ls hl hW
set_option maxHeartbeats 4000000 in
theorem lw_walk (l : Launch) (hflags : l.flags = flags0) (b : Addr) (xs : List Int32) : MetFree l x (headSpec (Jvm.Cond.code x code maxLocals ret :: tables_1) room_1) (lw_P b xs) (fun _ _ _ _ _ => True) lw_Q := by
  refine MetFree.of_bodyS (code := code) (maxLocals := maxLocals) (ret := ret) (by decide) ?_ ?_
  · intro args s m h hn
    obtain ⟨meth, c, h1, h2, h3, h4, h5, h6, -, -⟩ := Cond.code_spec hn (atoms_spec (ws := Jvm.Cond.code x code maxLocals ret :: tables_1) h _ List.mem_cons_self)
    exact ⟨meth, c, h1, h2, h3, h4, h5, h6⟩
  · intro p e s m args below meth c s₁ B hml0 hP _
    obtain ⟨rfl, hx, hbd, hgv⟩ := hP
    obtain ⟨scr, harrAt, hlist, hof, hsmall⟩ := hx
    obtain ⟨hcb, hkn, -, -⟩ := State.arrayAt?_spec harrAt
    have hown : s.vm.findClass R_law = some m.cls := findClass_of_methodNamed B.named
    have hts0 : ∀ c ∈ (Jvm.Cond.code x code maxLocals ret :: tables_1), c.before #[Value.ref b] s = true := atoms_spec (ws := Jvm.Cond.code x code maxLocals ret :: tables_1) B.pre
    have hts : ∀ w ∈ lw_tbl, w.before #[Value.ref b] s = true := k2_hts_sels lw_privs (fun w hw => hts0 w (List.mem_cons_of_mem _ hw)) lw_privs_ok
    have hml : c.maxLocals = 4 := B.maxLocals_eq (hts0 _ List.mem_cons_self)
    have X₀ : Stand p l e room_1 s m #[Value.ref b] below meth c s₁ [] 0 0 := Stand.of_body B
    have hh0 : s₁.heap = s.heap := by rw [B.state]; rfl
    have hsz : scr.slots.size = xs.length := by rw [← Array.length_toList, hlist, List.length_map]
    have hval : ∀ j : Nat, j < xs.length → scr.slots[j]? = some (.int (xs.getD j 0)) := fun j hj => by
      rw [← Array.getElem?_toList, hlist]
      simp [hj]
    have hbl : b < s.heap.size := (Array.getElem?_eq_some_iff.mp hcb).1
    have hX : va_X b xs.length (fun j => xs.getD j 0) s s.heap := ⟨scr, hcb, hof, hkn, hsz, hval⟩
    have K : W p l e room_1 s m #[Value.ref b] below meth c s₁.heap [] 0 0 (lw_Z below #[Value.ref b] s) (entryFrame m ([Value.ref b] : List Value).toArray 4) := by
      rw [hh0]
      exact whole_start l hflags hbd ⟨B.exec, B.bytes, B.returns, hml, hown, hts, hX, hbl, B.notSynchronized, hgv⟩
    obtain ⟨t, a1, o, b1, b2, b3⟩ := K s₁ rfl X₀
    exact ⟨t, o, a1, b1, b2, b3⟩
theorem lw_pre_spec {args : Array Value} {s : State} (h : (Jvm.Cond.and given_1 narrow_1).before args s = true) (hr : rest_1_c.before args s = true) : ∃ (b : Addr) (xs : List Int32), lw_P b xs args s := by
  have hs := flat_of_before _ h
  have hq := flat_of_before _ hr
  have hc : (Cond.count 1).before args s = true := hs _ (by decide +kernel)
  have harr : (Cond.arrayOf (.arg 0) .int).before args s = true := hs _ (by decide +kernel)
  have hle : (Cond.le (.length (.arg 0)) (.int 4096)).before args s = true := hs _ (by decide +kernel)
  have hlen : (Cond.isInt (.length (.arg 0))).before args s = true := hq _ (by decide +kernel)
  have hall : (Cond.all (.arg 0) (.isInt (.elem (.arg 0) (.index 0)))).before args s = true := hq _ (by decide +kernel)
  obtain ⟨b, xs, hb, hx⟩ := State.ints_of_pre rfl harr hlen hall
  have hsm : xs.length < 2 ^ 31 := hx.choose_spec.2.2.2
  have hev : (Term.length (.arg 0)).eval args s none [] s = some (.int xs.length.toInt32) := hx.length_eval hb
  have hv := Cond.le_ints hev (show (Term.int 4096).eval args s none [] s = some (.int 4096) from rfl)
  have hd : xs.length.toInt32 ≤ 4096 := by
    simpa [Cond.before, Cond.holds, hv] using hle
  have hN : xs.length ≤ 4096 := (Int32.ofNat_le_ofNat hsm (by decide)).mp (show Int32.ofNat xs.length ≤ Int32.ofNat 4096 from hd)
  exact ⟨b, xs, Cond.one_arg hc (show args[0]? = some (.ref b) from hb), hx, hN, h⟩
theorem lw_comes (l : Launch) (hflags : l.flags = flags0) : Comes l x (Jvm.Cond.code x code maxLocals ret :: tables_1) room_1 (fun tb e args s => Calls_1 tb e args s ∧ rest_1 tb e args s ∧ Pre_1 tb e args s)
    (fun _ _ args s o t => lw_Q args s o t) := by
  intro p e ha hc hk s m args below hf hfit hheap happ hpre
  obtain ⟨b, xs, hP⟩ := lw_pre_spec hpre.2.2 hpre.2.1
  obtain ⟨k, o, h1, h2, h3, hQ⟩ := lw_walk l hflags b xs p e ha hc hk s m args below hf ((Spec.applies_iff_loose hf).mp happ).1 hP trivial
  exact ⟨k, o, h1, h2, h3, hQ⟩
theorem lw_frame {s t : State} {o : Outcome} {args : Array Value} (h : Framed s o t [] 60 2598) :
    Framed s o t (fieldLocs frame_1_writes args s ++ arrayLocs frame_1_arrays args s ++ staticLocs frame_1_statics s) 60 2598 := h
theorem lw_limb (L : Cond) (hL : ∀ (args : Array Value) (s t : State), L.after args s (.returned (some (.int 1))) t = true) :
    ArmFor flags0 classFile x code maxLocals ret World_1 tables_1 room_1 Calls_1 rest_1 Pre_1
      (fun tb e a s o t => postC L tb e a s o t ∧ Framed s o t (fieldLocs frame_1_writes a s ++ arrayLocs frame_1_arrays a s ++ staticLocs frame_1_statics s) 60 2598) := by
  intro l hflags _ _ p e ha hc hk s m args below hf hfit hheap happ hpre
  obtain ⟨k, o, h1, h2, h3, rfl, hF⟩ := lw_comes l hflags p e ha hc hk s m args below hf hfit hheap happ hpre
  exact ⟨k, _, h1, h2, h3, hL args s _, lw_frame hF⟩
theorem i_vc : Claimed_1_1 ∧ Claimed_1_2 := ⟨lw_limb limb_1_1 (fun args s t => by simp [limb_1_1, Cond.after, Cond.holds, Cond.value]), lw_limb limb_1_2 (fun args s t => Cond.after_iff.mpr (by
  first | (rw [show limb_1_2 = Cond.eq .result (.int 1) from rfl, Cond.eq_ints (x := 1) (y := 1) rfl rfl]; simp; done) | (simp [limb_1_2, Cond.value, Term.eval]; done)))⟩

