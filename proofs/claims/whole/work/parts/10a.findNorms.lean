def loT (e : Int → Int) (w n b : Int) : Prop := (∀ j, w ≤ j → j < n → (j - w) % 2 = 0 → b ≤ e j) ∧ ∃ j, (w ≤ j ∧ j < 16 ∧ (j - w) % 2 = 0) ∧ b = e j
def hiT (e : Int → Int) (w n b : Int) : Prop := (∀ j, w ≤ j → j < n → (j - w) % 2 = 0 → e j ≤ b) ∧ ∃ j, (w ≤ j ∧ j < 16 ∧ (j - w) % 2 = 0) ∧ b = e j
theorem loT_0 (e : Int → Int) {w n : Int} (hw : 0 ≤ w ∧ w < 2) (hn : n = w + 2) : loT e w n (e w) := ⟨fun j j1 j2 j3 => by rw [show j = w by omega]; omega, w, by omega, rfl⟩
theorem hiT_0 (e : Int → Int) {w n : Int} (hw : 0 ≤ w ∧ w < 2) (hn : n = w + 2) : hiT e w n (e w) := ⟨fun j j1 j2 j3 => by rw [show j = w by omega]; omega, w, by omega, rfl⟩
theorem loT_k {e : Int → Int} {w n b n2 : Int} (h : loT e w n b) (hp : (n - w) % 2 = 0) (hn : n2 = n + 2) (hb : b ≤ e n) : loT e w n2 b := ⟨fun j j1 j2 j3 => by
  by_cases q : j = n
  · rw [q]; exact hb
  · exact h.1 j j1 (by omega) j3, h.2⟩
theorem loT_n {e : Int → Int} {w n b n2 : Int} (h : loT e w n b) (hp : (n - w) % 2 = 0) (h1 : w ≤ n ∧ n < 16) (hn : n2 = n + 2) (hb : e n ≤ b) : loT e w n2 (e n) := ⟨fun j j1 j2 j3 => by
  by_cases q : j = n
  · rw [q]; omega
  · have := h.1 j j1 (by omega) j3; omega, n, ⟨h1.1, h1.2, hp⟩, rfl⟩
theorem hiT_k {e : Int → Int} {w n b n2 : Int} (h : hiT e w n b) (hp : (n - w) % 2 = 0) (hn : n2 = n + 2) (hb : e n ≤ b) : hiT e w n2 b := ⟨fun j j1 j2 j3 => by
  by_cases q : j = n
  · rw [q]; exact hb
  · exact h.1 j j1 (by omega) j3, h.2⟩
theorem hiT_n {e : Int → Int} {w n b n2 : Int} (h : hiT e w n b) (hp : (n - w) % 2 = 0) (h1 : w ≤ n ∧ n < 16) (hn : n2 = n + 2) (hb : b ≤ e n) : hiT e w n2 (e n) := ⟨fun j j1 j2 j3 => by
  by_cases q : j = n
  · rw [q]; omega
  · have := h.1 j j1 (by omega) j3; omega, n, ⟨h1.1, h1.2, hp⟩, rfl⟩
theorem loT_e {e : Int → Int} {w n b : Int} (h : loT e w n b) (hn : 16 ≤ n) : isLo e w b := ⟨fun j j1 j2 j3 => h.1 j j1 (by omega) j3, h.2⟩
theorem hiT_e {e : Int → Int} {w n b : Int} (h : hiT e w n b) (hn : 16 ≤ n) : isHi e w b := ⟨fun j j1 j2 j3 => h.1 j j1 (by omega) j3, h.2⟩
/-- the greatest size over places P -/
def mxT (n : Int → Int) (P : Int → Prop) (b : Int) : Prop := (∀ j, 0 ≤ j → j < 16 → P j → ((n j).natAbs : Int) ≤ b) ∧ (b = 0 ∨ ∃ j, (0 ≤ j ∧ j < 16 ∧ P j) ∧ b = ((n j).natAbs : Int))
theorem mxT_k {n n2 : Int → Int} {P P2 : Int → Prop} {b k : Int} (h : mxT n P b) (hk : 0 ≤ k ∧ k < 16) (hP : ∀ j, 0 ≤ j → j < 16 → (P2 j ↔ P j ∨ j = k)) (hn : ∀ j, 0 ≤ j → j < 16 → P j → n2 j = n j) (hb : ((n2 k).natAbs : Int) ≤ b) : mxT n2 P2 b := by
  refine ⟨fun j j0 j1 j2 => ?_, ?_⟩
  · rcases (hP j j0 j1).mp j2 with q | q
    · rw [hn j j0 j1 q]; exact h.1 j j0 j1 q
    · rw [q]; exact hb
  · rcases h.2 with q | ⟨j, ⟨a1, a2, a3⟩, q⟩
    · exact Or.inl q
    · exact Or.inr ⟨j, ⟨a1, a2, (hP j a1 a2).mpr (Or.inl a3)⟩, by rw [hn j a1 a2 a3]; exact q⟩
theorem mxT_n {n n2 : Int → Int} {P P2 : Int → Prop} {b k : Int} (h : mxT n P b) (hk : 0 ≤ k ∧ k < 16) (hP : ∀ j, 0 ≤ j → j < 16 → (P2 j ↔ P j ∨ j = k)) (hn : ∀ j, 0 ≤ j → j < 16 → P j → n2 j = n j) (hb : b ≤ ((n2 k).natAbs : Int)) : mxT n2 P2 ((n2 k).natAbs : Int) := by
  refine ⟨fun j j0 j1 j2 => ?_, Or.inr ⟨k, ⟨hk.1, hk.2, (hP k hk.1 hk.2).mpr (Or.inr rfl)⟩, rfl⟩⟩
  rcases (hP j j0 j1).mp j2 with q | q
  · rw [hn j j0 j1 q]; have := h.1 j j0 j1 q; omega
  · rw [q]; omega
/-- the middle is off at w -/
def offM (e n : Int → Int) (w : Int) : Prop := ∃ l g, isLo e w l ∧ isHi e w g ∧ ∀ j, 0 ≤ j → j < 16 → (j - w) % 2 = 0 → n j = e j - (l + g) / 2
/-- after the w before *)-/
def offs (e n : Int → Int) (w : Int) : Prop := (0 < w → offM e n 0) ∧ (1 < w → offM e n 1)
theorem offM_keep {e n n2 : Int → Int} {w : Int} (h : offM e n w) (hn : ∀ j, 0 ≤ j → j < 16 → (j - w) % 2 = 0 → n2 j = n j) : offM e n2 w := by
  obtain ⟨l, g, a, b, c⟩ := h
  exact ⟨l, g, a, b, fun j j0 j1 j2 => by rw [hn j j0 j1 j2]; exact c j j0 j1 j2⟩
theorem offs_Nm {e n n2 : Int → Int} {b : Int} (h : offs e n 2) (hm : mxT n (fun j => j % 2 < 2) b) (h2 : ∀ j, 0 ≤ j → j < 16 → n2 j = if b = 0 then 0 else 1000 * n j / b) : Nm e n2 := by
  obtain ⟨l0, g0, a1, a2, a3⟩ := h.1 (by omega)
  obtain ⟨l1, g1, b1, b2, b3⟩ := h.2 (by omega)
  have he : ∀ j, 0 ≤ j → j < 16 → n j = mO e l0 g0 l1 g1 j := by
    intro j j0 j1
    unfold mO
    by_cases q : j % 2 = 0
    · rw [if_pos q]; exact a3 j j0 j1 (by omega)
    · rw [if_neg q]; exact b3 j j0 j1 (by omega)
  refine ⟨l0, g0, l1, g1, b, a1, a2, b1, b2, ⟨fun j j0 j1 => ?_, ?_⟩, fun j j0 j1 => by rw [h2 j j0 j1, he j j0 j1]⟩
  · rw [← he j j0 j1]; exact hm.1 j j0 j1 (by omega)
  · rcases hm.2 with q | ⟨j, ⟨c1, c2, c3⟩, q⟩
    · exact Or.inl q
    · exact Or.inr ⟨j, ⟨c1, c2⟩, by rw [← he j c1 c2]; exact q⟩
theorem offs_b {e n : Int → Int} {b : Int} (h : mxT n (fun j => j % 2 < 2) b) : ∀ j, 0 ≤ j → j < 16 → ((n j).natAbs : Int) ≤ b := fun j j0 j1 => h.1 j j0 j1 (by omega)

set_option maxHeartbeats 4000000 in
set_option maxRecDepth 100000 in
theorem c_X8_findNorms (l : Launch) (D : va_G) (cI cZ : ClassId) (aR : Nat → Nat) (xs ys lf ev nm lb kd pt so nu al ak ap he le rw cx cr cl ll tl ts tc : Int → Int) (sz mn ac en mg ln cn wc wp : Int) (sz0 : Nat) (hd : Dok xs ys lf sz) (hw : 0 < wy xs ys lf sz) : Met l yX8_findNorms wsX8_findNorms ({ frames := 4, cells := 0, slots := 0, locals := 90 } : Room) (zPc D cI cZ [.ref (aR 0)] (wR cI cZ aR xs ys lf ev nm lb kd pt so nu al ak ap he le rw cx cr cl ll tl ts tc sz mn ac en mg ln cn wc wp) sz0) (zQv D cI cZ (wR cI cZ aR xs ys lf ev nm lb kd pt so nu al ak ap he le rw cx cr cl ll tl ts tc sz mn ac en mg ln cn wc wp) sz0 (fun (u : (Int → Int) × (Int → Int)) => NmOf xs ys lf sz u.2) (fun (u : (Int → Int) × (Int → Int)) => wR cI cZ aR xs ys lf u.1 u.2 lb kd pt so nu al ak ap he le rw cx cr cl ll tl ts tc sz mn ac en mg ln cn wc wp)) 0 0 (va_A (wR cI cZ aR xs ys lf ev nm lb kd pt so nu al ak ap he le rw cx cr cl ll tl ts tc sz mn ac en mg ln cn wc wp) sz0) := by
  have hs := hd.1
  refine z_ofV (maxL := 7) (plainFor_of_name (by decide)) rfl (Nat.le_of_ble_eq_true rfl) ?_
  intro p e s m below meth c A ls Q F hK hW hA hl hret
  have hl : lv_has ls 7 [(0, .ref (aR 0))] := hl
  have inX8 : ∀ w ∈ u_ws RX8 TX8 32, w ∈ wsX8_findNorms := fun _ h => List.mem_cons_of_mem _ (List.mem_append_right _ h)
  refine z_aloadn F (pc := 0) dX8_findNorms_0 rfl (lv_at hl 0 rfl) ?_
  refine z_callVv F (pc := 1) hK hW hA (As := []) (rest := []) (ws' := fun (u : (Int → Int)) => wR cI cZ aR xs ys lf u nm lb kd pt so nu al ak ap he le rw cx cr cl ll tl ts tc sz mn ac en mg ln cn wc wp) (wr := ([])) (c_X8_findEvens l D cI cZ aR xs ys lf ev nm lb kd pt so nu al ak ap he le rw cx cr cl ll tl ts tc sz mn ac en mg ln cn wc wp _ (by exact hd) (by exact hw)) (cwV 0 F.2.2.2.2 gX8_findNorms_X8_findEvens rfl rfl rfl (by decide +kernel) ⟨Nat.le_of_ble_eq_true rfl, Nat.le_of_ble_eq_true rfl⟩) [0, 1, 2, 3, 4, 5, 6, 7, 8, 9, 10, 11, 12, 13, 14, 15, 16, 17, 18, 19, 20, 21, 22, 23] [] [0, 1, 2, 3, 4, 5, 6, 7, 8, 9, 10, 11, 12, 13, 14, 15, 16, 17, 18, 19, 20, 21, 22, 23] rfl rfl (by decide) (by decide) (by decide) (fun _ => rfl) (by decide) (q0 := 0) (ci := 8) rfl rfl rfl rfl rfl hl.1 (Nat.le_of_ble_eq_true rfl) dX8_findNorms_1 ⟨Nat.le_of_ble_eq_true rfl, Nat.le_of_ble_eq_true rfl⟩ (fun u H locs hp_1 hW => ?_)
  obtain ⟨ev2_1, rfl⟩ : ∃ v, v = u := ⟨_, rfl⟩
  have hEb := Ev_b hd hp_1
  refine z_iconst F (pc := 4) (0) dX8_findNorms_4 ?_
  refine z_istoren F (pc := 5) hl (lv' := [(1, .int (iI 0)), (0, .ref (aR 0))]) dX8_findNorms_5 rfl (by decide) rfl (fun ls hl => ?_)
  refine z_iconst F (pc := 6) (0) dX8_findNorms_6 ?_
  refine z_istoren F (pc := 7) hl (lv' := [(2, .int (iI 0)), (1, .int (iI 0)), (0, .ref (aR 0))]) dX8_findNorms_7 rfl (by decide) rfl (fun ls hl => ?_)
  have cut_8 : ∀ (fuel : Nat) (sm : Int) (w : Int) (n1 : Int → Int) (H : Heap) (locs : List Loc) (ls : Array Slot), (2 - w).toNat < fuel → (0 ≤ w ∧ w ≤ 2) → (0 ≤ sm ∧ sm ≤ 20000) → (offs ev2_1 n1 w) → (mxT n1 (fun j => j % 2 < w) sm) → lv_has ls 7 [(2, .int (iI w)), (1, .int (iI sm)), (0, .ref (aR 0))] → zW D A s.heap H locs (wR cI cZ aR xs ys lf ev2_1 n1 lb kd pt so nu al ak ap he le rw cx cr cl ll tl ts tc sz mn ac en mg ln cn wc wp) → W p l e ({ frames := 4, cells := 0, slots := 0, locals := 90 } : Room) s m ([.ref (aR 0)] : List Value).toArray below meth c H locs 0 0 Q (F0 m 8 ls []) := by
    intro fuel
    induction fuel with
    | zero => intro sm w n1 H locs ls hm; exact absurd hm (Nat.not_lt_zero _)
    | succ fuel ih_8 =>
      intro sm w n1 H locs ls hm_8 g0 g1 g2 g3 hl hW
      refine z_iloadn F (pc := 8) dX8_findNorms_8 rfl (lv_at hl 0 rfl) ?_
      refine z_iconst F (pc := 9) (2) dX8_findNorms_9 ?_
      refine z_icmp_ge F (pc := 10) 184 dX8_findNorms_10 (by decide) (by omega) (fun c_10 => ?_) (fun c_10 => ?_)
      · skip
        have hw9 : w = 2 := by omega
        subst hw9
        have hmb := offs_b (e := ev2_1) g3
        refine z_iconst F (pc := 184) (0) dX8_findNorms_184 ?_
        refine z_istoren F (pc := 185) hl (lv' := [(2, .int (iI 0)), (1, .int (iI sm)), (0, .ref (aR 0))]) dX8_findNorms_185 rfl (by decide) rfl (fun ls hl => ?_)
        have cut_186 : ∀ (fuel : Nat) (n3 : Int) (b3 : Int → Int) (H : Heap) (locs : List Loc) (ls : Array Slot), (16 - n3).toNat < fuel → (0 ≤ n3 ∧ n3 ≤ 16) → (∀ j, 0 ≤ j → j < 16 → b3 j = if j < n3 then (if sm = 0 then 0 else 1000 * n1 j / sm) else n1 j) → lv_has ls 7 [(2, .int (iI n3)), (1, .int (iI sm)), (0, .ref (aR 0))] → zW D A s.heap H locs (wR cI cZ aR xs ys lf ev2_1 b3 lb kd pt so nu al ak ap he le rw cx cr cl ll tl ts tc sz mn ac en mg ln cn wc wp) → W p l e ({ frames := 4, cells := 0, slots := 0, locals := 90 } : Room) s m ([.ref (aR 0)] : List Value).toArray below meth c H locs 0 0 Q (F0 m 186 ls []) := by
          intro fuel
          induction fuel with
          | zero => intro n3 b3 H locs ls hm; exact absurd hm (Nat.not_lt_zero _)
          | succ fuel ih_186 =>
            intro n3 b3 H locs ls hm_186 u0 u1 hl hW
            refine z_iloadn F (pc := 186) dX8_findNorms_186 rfl (lv_at hl 0 rfl) ?_
            refine z_bipush F (pc := 187) (16) (by decide +kernel) dX8_findNorms_187 ?_
            refine z_icmp_ge F (pc := 189) 229 dX8_findNorms_189 (by decide) (by omega) (fun c_189 => ?_) (fun c_189 => ?_)
            · skip
              exact hret _ _ _ _ (ev2_1, b3) dX8_findNorms_229 (by (try dsimp only) <;> (exact ⟨ev2_1, hp_1, offs_Nm g2 g3 (fun j j0 j1 => by rw [u1 j j0 j1, if_pos (by omega)])⟩)) hW
            · skip
              have hbn : b3 n3 = n1 n3 := by rw [u1 n3 (by omega) (by omega), if_neg (by omega)]
              have hmn := hmb n3 (by omega) (by omega)
              refine z_aloadn F (pc := 192) dX8_findNorms_192 rfl (lv_at hl 2 rfl) ?_
              refine z_get F (pc := 193) (C := RX8) (T := TX8) (N := 32) (ci := 8) inX8 hK hW 0 5 rfl rfl (by decide) rfl (List.mem_of_getElem? (i := 3) rfl) (v := .ref (aR 5)) rfl dX8_findNorms_193 ?_
              refine z_iloadn F (pc := 196) dX8_findNorms_196 rfl (lv_at hl 0 rfl) ?_
              refine z_iloadn F (pc := 197) dX8_findNorms_197 rfl (lv_at hl 1 rfl) ?_
              refine z_if_ne F (pc := 198) 205 dX8_findNorms_198 (by decide) (by omega) (fun c_198 => ?_) (fun c_198 => ?_)
              · skip
                have hq := nq_b (hmb n3 (by omega) (by omega)) c_198
                refine z_ldc2 F (pc := 205) (1000) (by decide +kernel) (List.mem_of_getElem? (i := 4) rfl) dX8_findNorms_205 ?_
                refine z_aloadn F (pc := 208) dX8_findNorms_208 rfl (lv_at hl 2 rfl) ?_
                refine z_get F (pc := 209) (C := RX8) (T := TX8) (N := 32) (ci := 8) inX8 hK hW 0 5 rfl rfl (by decide) rfl (List.mem_of_getElem? (i := 3) rfl) (v := .ref (aR 5)) rfl dX8_findNorms_209 ?_
                refine z_iloadn F (pc := 212) dX8_findNorms_212 rfl (lv_at hl 0 rfl) ?_
                refine z_iald F (pc := 213) hK hW 5 rfl (by decide) dX8_findNorms_213 (by omega) ?_
                refine z_i2l F (pc := 214) dX8_findNorms_214 (by omega) ?_
                refine z_lmul F (pc := 215) dX8_findNorms_215 ?_
                refine z_iloadn F (pc := 216) dX8_findNorms_216 rfl (lv_at hl 1 rfl) ?_
                refine z_i2l F (pc := 217) dX8_findNorms_217 (by omega) ?_
                refine z_callSl F (pc := 218) hK hW hA (As := [.long (lI (1000 * (b3 n3))), .long (lI sm)]) (rest := [.int (iI n3), .ref (aR 5)]) (c_X8_down l D cI cZ (1000 * (b3 n3)) sm _ (by omega) (by omega) (by omega) (by omega)) (va_cwS 2 F.2.2.2.2 gX8_findNorms_X8_down rfl rfl rfl (by decide +kernel) ⟨Nat.le_of_ble_eq_true rfl, Nat.le_of_ble_eq_true rfl⟩) rfl rfl hl.1 (Nat.le_of_ble_eq_true rfl) dX8_findNorms_218 ⟨Nat.le_of_ble_eq_true rfl, Nat.le_of_ble_eq_true rfl⟩ (fun z_218 H locs r_z_218 hp_218 hW => ?_)
                replace hp_218 := hp_218.symm
                subst hp_218
                refine z_l2i F (pc := 221) dX8_findNorms_221 ?_
                refine z_eqi (y := 1000 * n1 n3 / sm) (by rw [hbn]) ?_
                refine z_iast F (pc := 222) hK hW (ws' := wR cI cZ aR xs ys lf ev2_1 (zU b3 n3 (1000 * n1 n3 / sm)) lb kd pt so nu al ak ap he le rw cx cr cl ll tl ts tc sz mn ac en mg ln cn wc wp) 5 rfl (by decide) dX8_findNorms_222 (by omega) rfl (fun H locs hW => ?_)
                have hs4 : ∀ j, 0 ≤ j → j < 16 → zU b3 n3 (if sm = 0 then 0 else 1000 * n1 n3 / sm) j = if j < n3 + 1 then (if sm = 0 then 0 else 1000 * n1 j / sm) else n1 j := by
                  intro j j0 j1
                  by_cases e : j = n3
                  · subst e; rw [zU_s, if_pos (show j < j + 1 by omega)]
                  · rw [zU_n _ _ e, u1 j j0 j1]
                    by_cases q : j < n3
                    · rw [if_pos q, if_pos (show j < n3 + 1 by omega)]
                    · rw [if_neg q, if_neg (show ¬ j < n3 + 1 by omega)]
                first | rw [if_pos c_198] at hs4 | rw [if_neg c_198] at hs4
                refine z_iinc F (pc := 223) hl (lv' := [(2, .int (iI (n3 + 1))), (1, .int (iI sm)), (0, .ref (aR 0))]) dX8_findNorms_223 (k := 0) rfl (by decide) rfl (fun ls hl => ?_)
                refine z_goto F (pc := 226) 186 dX8_findNorms_226 (by decide) ?_
                exact ih_186 (n3 + 1) (zU b3 n3 (1000 * n1 n3 / sm)) _ _ _ (by omega) (by omega) (by exact hs4) (lv_sub hl [0, 1, 2] rfl) hW
              · skip
                refine z_iconst F (pc := 201) (0) dX8_findNorms_201 ?_
                refine z_goto F (pc := 202) 222 dX8_findNorms_202 (by decide) ?_
                refine z_iast F (pc := 222) hK hW (ws' := wR cI cZ aR xs ys lf ev2_1 (zU b3 n3 0) lb kd pt so nu al ak ap he le rw cx cr cl ll tl ts tc sz mn ac en mg ln cn wc wp) 5 rfl (by decide) dX8_findNorms_222 (by omega) rfl (fun H locs hW => ?_)
                have hs4 : ∀ j, 0 ≤ j → j < 16 → zU b3 n3 (if sm = 0 then 0 else 1000 * n1 n3 / sm) j = if j < n3 + 1 then (if sm = 0 then 0 else 1000 * n1 j / sm) else n1 j := by
                  intro j j0 j1
                  by_cases e : j = n3
                  · subst e; rw [zU_s, if_pos (show j < j + 1 by omega)]
                  · rw [zU_n _ _ e, u1 j j0 j1]
                    by_cases q : j < n3
                    · rw [if_pos q, if_pos (show j < n3 + 1 by omega)]
                    · rw [if_neg q, if_neg (show ¬ j < n3 + 1 by omega)]
                first | rw [if_pos c_198] at hs4 | rw [if_neg c_198] at hs4
                refine z_iinc F (pc := 223) hl (lv' := [(2, .int (iI (n3 + 1))), (1, .int (iI sm)), (0, .ref (aR 0))]) dX8_findNorms_223 (k := 0) rfl (by decide) rfl (fun ls hl => ?_)
                refine z_goto F (pc := 226) 186 dX8_findNorms_226 (by decide) ?_
                exact ih_186 (n3 + 1) (zU b3 n3 0) _ _ _ (by omega) (by omega) (by exact hs4) (lv_sub hl [0, 1, 2] rfl) hW
        exact cut_186 _ 0 n1 _ _ _ (Nat.lt_succ_self _) (by omega) (by intro j j0 j1; rw [if_neg (by omega)]) (lv_sub hl [0, 1, 2] rfl) hW
      · skip
        have hw2 : 0 ≤ w ∧ w < 2 := by omega
        have hbw := hEb w (by omega) (by omega)
        refine z_aloadn F (pc := 13) dX8_findNorms_13 rfl (lv_at hl 2 rfl) ?_
        refine z_get F (pc := 14) (C := RX8) (T := TX8) (N := 32) (ci := 8) inX8 hK hW 0 4 rfl rfl (by decide) rfl (List.mem_of_getElem? (i := 1) rfl) (v := .ref (aR 4)) rfl dX8_findNorms_14 ?_
        refine z_iloadn F (pc := 17) dX8_findNorms_17 rfl (lv_at hl 0 rfl) ?_
        refine z_iald F (pc := 18) hK hW 4 rfl (by decide) dX8_findNorms_18 (by omega) ?_
        refine z_istoren F (pc := 19) hl (lv' := [(3, .int (iI (ev2_1 w))), (2, .int (iI w)), (1, .int (iI sm)), (0, .ref (aR 0))]) dX8_findNorms_19 rfl (by decide) rfl (fun ls hl => ?_)
        refine z_aloadn F (pc := 20) dX8_findNorms_20 rfl (lv_at hl 3 rfl) ?_
        refine z_get F (pc := 21) (C := RX8) (T := TX8) (N := 32) (ci := 8) inX8 hK hW 0 4 rfl rfl (by decide) rfl (List.mem_of_getElem? (i := 1) rfl) (v := .ref (aR 4)) rfl dX8_findNorms_21 ?_
        refine z_iloadn F (pc := 24) dX8_findNorms_24 rfl (lv_at hl 1 rfl) ?_
        refine z_iald F (pc := 25) hK hW 4 rfl (by decide) dX8_findNorms_25 (by omega) ?_
        refine z_istore F (pc := 26) hl (lv' := [(4, .int (iI (ev2_1 w))), (3, .int (iI (ev2_1 w))), (2, .int (iI w)), (1, .int (iI sm)), (0, .ref (aR 0))]) dX8_findNorms_26 (by decide) rfl (fun ls hl => ?_)
        refine z_iconst F (pc := 28) (1) dX8_findNorms_28 ?_
        refine z_istore F (pc := 29) hl (lv' := [(5, .int (iI 1)), (4, .int (iI (ev2_1 w))), (3, .int (iI (ev2_1 w))), (2, .int (iI w)), (1, .int (iI sm)), (0, .ref (aR 0))]) dX8_findNorms_29 (by decide) rfl (fun ls hl => ?_)
        have cut_31 : ∀ (fuel : Nat) (lo : Int) (hi : Int) (i : Int) (H : Heap) (locs : List Loc) (ls : Array Slot), (8 - i).toNat < fuel → (1 ≤ i ∧ i ≤ 8) → ((-10000 ≤ lo ∧ lo ≤ 10000) ∧ (-10000 ≤ hi ∧ hi ≤ 10000)) → (loT ev2_1 w (2 * i + w) lo) → (hiT ev2_1 w (2 * i + w) hi) → lv_has ls 7 [(5, .int (iI i)), (4, .int (iI hi)), (3, .int (iI lo)), (2, .int (iI w)), (1, .int (iI sm)), (0, .ref (aR 0))] → zW D A s.heap H locs (wR cI cZ aR xs ys lf ev2_1 n1 lb kd pt so nu al ak ap he le rw cx cr cl ll tl ts tc sz mn ac en mg ln cn wc wp) → W p l e ({ frames := 4, cells := 0, slots := 0, locals := 90 } : Room) s m ([.ref (aR 0)] : List Value).toArray below meth c H locs 0 0 Q (F0 m 31 ls []) := by
          intro fuel
          induction fuel with
          | zero => intro lo hi i H locs ls hm; exact absurd hm (Nat.not_lt_zero _)
          | succ fuel ih_31 =>
            intro lo hi i H locs ls hm_31 k0 k1 k2 k3 hl hW
            refine z_iload F (pc := 31) dX8_findNorms_31 (lv_at hl 0 rfl) ?_
            refine z_bipush F (pc := 33) (8) (by decide +kernel) dX8_findNorms_33 ?_
            refine z_icmp_ge F (pc := 35) 86 dX8_findNorms_35 (by decide) (by omega) (fun c_35 => ?_) (fun c_35 => ?_)
            · skip
              have hL := loT_e k2 (by omega)
              have hG := hiT_e k3 (by omega)
              refine z_iloadn F (pc := 86) dX8_findNorms_86 rfl (lv_at hl 2 rfl) ?_
              refine z_iload F (pc := 87) dX8_findNorms_87 (lv_at hl 1 rfl) ?_
              refine z_iadd F (pc := 89) dX8_findNorms_89 ?_
              refine z_i2l F (pc := 90) dX8_findNorms_90 (by omega) ?_
              refine z_ldc2 F (pc := 91) (2) (by decide +kernel) (List.mem_of_getElem? (i := 2) rfl) dX8_findNorms_91 ?_
              refine z_callSl F (pc := 94) hK hW hA (As := [.long (lI (lo + hi)), .long (lI 2)]) (rest := []) (c_X8_down l D cI cZ (lo + hi) 2 _ (by omega) (by omega) (by omega) (by omega)) (va_cwS 2 F.2.2.2.2 gX8_findNorms_X8_down rfl rfl rfl (by decide +kernel) ⟨Nat.le_of_ble_eq_true rfl, Nat.le_of_ble_eq_true rfl⟩) rfl rfl hl.1 (Nat.le_of_ble_eq_true rfl) dX8_findNorms_94 ⟨Nat.le_of_ble_eq_true rfl, Nat.le_of_ble_eq_true rfl⟩ (fun z_94 H locs r_z_94 hp_94 hW => ?_)
              replace hp_94 := hp_94.symm
              subst hp_94
              refine z_l2i F (pc := 97) dX8_findNorms_97 ?_
              refine z_istore F (pc := 98) hl (lv' := [(5, .int (iI ((lo + hi) / 2))), (4, .int (iI hi)), (3, .int (iI lo)), (2, .int (iI w)), (1, .int (iI sm)), (0, .ref (aR 0))]) dX8_findNorms_98 (by decide) rfl (fun ls hl => ?_)
              have hm0 : mxT n1 (fun j => j % 2 < w ∨ (j % 2 = w ∧ j < 2 * 0 + w)) sm := by
                refine ⟨fun j j0 j1 j2 => g3.1 j j0 j1 (by omega), ?_⟩
                rcases g3.2 with q | ⟨j, ⟨a1, a2, a3⟩, q⟩
                · exact Or.inl q
                · exact Or.inr ⟨j, ⟨a1, a2, Or.inl a3⟩, q⟩
              refine z_iconst F (pc := 100) (0) dX8_findNorms_100 ?_
              refine z_istore F (pc := 101) hl (lv' := [(6, .int (iI 0)), (5, .int (iI ((lo + hi) / 2))), (4, .int (iI hi)), (3, .int (iI lo)), (2, .int (iI w)), (1, .int (iI sm)), (0, .ref (aR 0))]) dX8_findNorms_101 (by decide) rfl (fun ls hl => ?_)
              have cut_103 : ∀ (fuel : Nat) (i : Int) (sm2 : Int) (n2 : Int → Int) (H : Heap) (locs : List Loc) (ls : Array Slot), (8 - i).toNat < fuel → (0 ≤ i ∧ i ≤ 8) → (0 ≤ sm2 ∧ sm2 ≤ 20000) → (∀ j, 0 ≤ j → j < 16 → n2 j = if j % 2 = w ∧ j < 2 * i + w then ev2_1 j - (lo + hi) / 2 else n1 j) → (mxT n2 (fun j => j % 2 < w ∨ (j % 2 = w ∧ j < 2 * i + w)) sm2) → lv_has ls 7 [(6, .int (iI i)), (5, .int (iI ((lo + hi) / 2))), (2, .int (iI w)), (1, .int (iI sm2)), (0, .ref (aR 0))] → zW D A s.heap H locs (wR cI cZ aR xs ys lf ev2_1 n2 lb kd pt so nu al ak ap he le rw cx cr cl ll tl ts tc sz mn ac en mg ln cn wc wp) → W p l e ({ frames := 4, cells := 0, slots := 0, locals := 90 } : Room) s m ([.ref (aR 0)] : List Value).toArray below meth c H locs 0 0 Q (F0 m 103 ls []) := by
                intro fuel
                induction fuel with
                | zero => intro i sm2 n2 H locs ls hm; exact absurd hm (Nat.not_lt_zero _)
                | succ fuel ih_103 =>
                  intro i sm2 n2 H locs ls hm_103 m0 m1 m2 m3 hl hW
                  refine z_iload F (pc := 103) dX8_findNorms_103 (lv_at hl 0 rfl) ?_
                  refine z_bipush F (pc := 105) (8) (by decide +kernel) dX8_findNorms_105 ?_
                  refine z_icmp_ge F (pc := 107) 178 dX8_findNorms_107 (by decide) (by omega) (fun c_107 => ?_) (fun c_107 => ?_)
                  · skip
                    have hsm : mxT n2 (fun j => j % 2 < w + 1) sm2 := by
                      refine ⟨fun j j0 j1 j2 => m3.1 j j0 j1 (by omega), ?_⟩
                      rcases m3.2 with q | ⟨j, ⟨a1, a2, a3⟩, q⟩
                      · exact Or.inl q
                      · exact Or.inr ⟨j, ⟨a1, a2, by omega⟩, q⟩
                    have hso : offs ev2_1 n2 (w + 1) := by
                      have hnew : offM ev2_1 n2 w := ⟨lo, hi, hL, hG, fun j j0 j1 j2 => by rw [m2 j j0 j1, if_pos (by omega)]⟩
                      refine ⟨fun h => ?_, fun h => ?_⟩
                      · by_cases e : w = 0
                        · rw [e] at hnew; exact hnew
                        · exact offM_keep (g2.1 (by omega)) (fun j j0 j1 j2 => by rw [m2 j j0 j1, if_neg (by omega)])
                      · rw [show w = 1 by omega] at hnew; exact hnew
                    refine z_iinc F (pc := 178) hl (lv' := [(2, .int (iI (w + 1))), (6, .int (iI i)), (5, .int (iI ((lo + hi) / 2))), (1, .int (iI sm2)), (0, .ref (aR 0))]) dX8_findNorms_178 (k := 2) rfl (by decide) rfl (fun ls hl => ?_)
                    refine z_goto F (pc := 181) 8 dX8_findNorms_181 (by decide) ?_
                    exact ih_8 sm2 (w + 1) n2 _ _ _ (by omega) (by omega) (by omega) (by exact hso) (by exact hsm) (lv_sub hl [0, 3, 4] rfl) hW
                  · skip
                    have hv := hEb (2 * i + w) (by omega) (by omega)
                    refine z_aloadn F (pc := 110) dX8_findNorms_110 rfl (lv_at hl 4 rfl) ?_
                    refine z_get F (pc := 111) (C := RX8) (T := TX8) (N := 32) (ci := 8) inX8 hK hW 0 5 rfl rfl (by decide) rfl (List.mem_of_getElem? (i := 3) rfl) (v := .ref (aR 5)) rfl dX8_findNorms_111 ?_
                    refine z_iconst F (pc := 114) (2) dX8_findNorms_114 ?_
                    refine z_iload F (pc := 115) dX8_findNorms_115 (lv_at hl 0 rfl) ?_
                    refine z_imul F (pc := 117) dX8_findNorms_117 ?_
                    refine z_iloadn F (pc := 118) dX8_findNorms_118 rfl (lv_at hl 2 rfl) ?_
                    refine z_iadd F (pc := 119) dX8_findNorms_119 ?_
                    refine z_aloadn F (pc := 120) dX8_findNorms_120 rfl (lv_at hl 4 rfl) ?_
                    refine z_get F (pc := 121) (C := RX8) (T := TX8) (N := 32) (ci := 8) inX8 hK hW 0 4 rfl rfl (by decide) rfl (List.mem_of_getElem? (i := 1) rfl) (v := .ref (aR 4)) rfl dX8_findNorms_121 ?_
                    refine z_iconst F (pc := 124) (2) dX8_findNorms_124 ?_
                    refine z_iload F (pc := 125) dX8_findNorms_125 (lv_at hl 0 rfl) ?_
                    refine z_imul F (pc := 127) dX8_findNorms_127 ?_
                    refine z_iloadn F (pc := 128) dX8_findNorms_128 rfl (lv_at hl 2 rfl) ?_
                    refine z_iadd F (pc := 129) dX8_findNorms_129 ?_
                    refine z_iald F (pc := 130) hK hW 4 rfl (by decide) dX8_findNorms_130 (by omega) ?_
                    refine z_iload F (pc := 131) dX8_findNorms_131 (lv_at hl 1 rfl) ?_
                    refine z_isub F (pc := 133) dX8_findNorms_133 ?_
                    refine z_iast F (pc := 134) hK hW (ws' := wR cI cZ aR xs ys lf ev2_1 (zU n2 ((2 * i) + w) ((ev2_1 ((2 * i) + w)) - ((lo + hi) / 2))) lb kd pt so nu al ak ap he le rw cx cr cl ll tl ts tc sz mn ac en mg ln cn wc wp) 5 rfl (by decide) dX8_findNorms_134 (by omega) rfl (fun H locs hW => ?_)
                    have hs3 : ∀ j, 0 ≤ j → j < 16 → zU n2 (2 * i + w) (ev2_1 (2 * i + w) - (lo + hi) / 2) j = if j % 2 = w ∧ j < 2 * (i + 1) + w then ev2_1 j - (lo + hi) / 2 else n1 j := by
                      intro j j0 j1
                      by_cases e : j = 2 * i + w
                      · rw [e, zU_s, if_pos (by omega)]
                      · rw [zU_n _ _ e, m2 j j0 j1]
                        by_cases q : j % 2 = w ∧ j < 2 * i + w
                        · rw [if_pos q, if_pos (by omega)]
                        · rw [if_neg q, if_neg (by omega)]
                    have hPP : ∀ j, 0 ≤ j → j < 16 → ((j % 2 < w ∨ (j % 2 = w ∧ j < 2 * (i + 1) + w)) ↔ ((j % 2 < w ∨ (j % 2 = w ∧ j < 2 * i + w)) ∨ j = 2 * i + w)) := by
                      intro j j0 j1; omega
                    have hnn : ∀ j, 0 ≤ j → j < 16 → (j % 2 < w ∨ (j % 2 = w ∧ j < 2 * i + w)) → zU n2 (2 * i + w) (ev2_1 (2 * i + w) - (lo + hi) / 2) j = n2 j := by
                      intro j j0 j1 j2; exact zU_n _ _ (by omega)
                    have hzz : zU n2 (2 * i + w) (ev2_1 (2 * i + w) - (lo + hi) / 2) (2 * i + w) = ev2_1 (2 * i + w) - (lo + hi) / 2 := zU_s _ _ _
                    refine z_aloadn F (pc := 135) dX8_findNorms_135 rfl (lv_at hl 4 rfl) ?_
                    refine z_get F (pc := 136) (C := RX8) (T := TX8) (N := 32) (ci := 8) inX8 hK hW 0 5 rfl rfl (by decide) rfl (List.mem_of_getElem? (i := 3) rfl) (v := .ref (aR 5)) rfl dX8_findNorms_136 ?_
                    refine z_iconst F (pc := 139) (2) dX8_findNorms_139 ?_
                    refine z_iload F (pc := 140) dX8_findNorms_140 (lv_at hl 0 rfl) ?_
                    refine z_imul F (pc := 142) dX8_findNorms_142 ?_
                    refine z_iloadn F (pc := 143) dX8_findNorms_143 rfl (lv_at hl 2 rfl) ?_
                    refine z_iadd F (pc := 144) dX8_findNorms_144 ?_
                    refine z_iald F (pc := 145) hK hW 5 rfl (by decide) dX8_findNorms_145 (by omega) ?_
                    refine z_callSi F (pc := 146) hK hW hA (As := [.int (iI ((zU n2 ((2 * i) + w) ((ev2_1 ((2 * i) + w)) - ((lo + hi) / 2))) ((2 * i) + w)))]) (rest := []) (c_X8_plain l D cI cZ ((zU n2 ((2 * i) + w) ((ev2_1 ((2 * i) + w)) - ((lo + hi) / 2))) ((2 * i) + w)) _ (by omega) (by omega)) (va_cwS 1 F.2.2.2.2 gX8_findNorms_X8_plain rfl rfl rfl (by decide +kernel) ⟨Nat.le_of_ble_eq_true rfl, Nat.le_of_ble_eq_true rfl⟩) rfl rfl hl.1 (Nat.le_of_ble_eq_true rfl) dX8_findNorms_146 ⟨Nat.le_of_ble_eq_true rfl, Nat.le_of_ble_eq_true rfl⟩ (fun z_146 H locs r_z_146 hp_146 hW => ?_)
                    replace hp_146 := hp_146.symm
                    subst hp_146
                    refine z_iloadn F (pc := 149) dX8_findNorms_149 rfl (lv_at hl 3 rfl) ?_
                    refine z_icmp_le F (pc := 150) 170 dX8_findNorms_150 (by decide) (by omega) (fun c_150 => ?_) (fun c_150 => ?_)
                    · skip
                      refine z_iloadn F (pc := 170) dX8_findNorms_170 rfl (lv_at hl 3 rfl) ?_
                      refine z_istoren F (pc := 171) hl (lv' := [(1, .int (iI sm2)), (6, .int (iI i)), (5, .int (iI ((lo + hi) / 2))), (2, .int (iI w)), (0, .ref (aR 0))]) dX8_findNorms_171 rfl (by decide) rfl (fun ls hl => ?_)
                      refine z_iinc F (pc := 172) hl (lv' := [(6, .int (iI (i + 1))), (1, .int (iI sm2)), (5, .int (iI ((lo + hi) / 2))), (2, .int (iI w)), (0, .ref (aR 0))]) dX8_findNorms_172 (k := 1) rfl (by decide) rfl (fun ls hl => ?_)
                      refine z_goto F (pc := 175) 103 dX8_findNorms_175 (by decide) ?_
                      exact ih_103 (i + 1) sm2 (zU n2 ((2 * i) + w) ((ev2_1 ((2 * i) + w)) - ((lo + hi) / 2))) _ _ _ (by omega) (by omega) (by omega) (by exact hs3) (by first | exact mxT_k m3 (k := 2 * i + w) (by omega) hPP hnn (by omega) | exact mxT_n m3 (k := 2 * i + w) (by omega) hPP hnn (by omega)) (lv_sub hl [0, 2, 3, 1, 4] rfl) hW
                    · skip
                      refine z_aloadn F (pc := 153) dX8_findNorms_153 rfl (lv_at hl 4 rfl) ?_
                      refine z_get F (pc := 154) (C := RX8) (T := TX8) (N := 32) (ci := 8) inX8 hK hW 0 5 rfl rfl (by decide) rfl (List.mem_of_getElem? (i := 3) rfl) (v := .ref (aR 5)) rfl dX8_findNorms_154 ?_
                      refine z_iconst F (pc := 157) (2) dX8_findNorms_157 ?_
                      refine z_iload F (pc := 158) dX8_findNorms_158 (lv_at hl 0 rfl) ?_
                      refine z_imul F (pc := 160) dX8_findNorms_160 ?_
                      refine z_iloadn F (pc := 161) dX8_findNorms_161 rfl (lv_at hl 2 rfl) ?_
                      refine z_iadd F (pc := 162) dX8_findNorms_162 ?_
                      refine z_iald F (pc := 163) hK hW 5 rfl (by decide) dX8_findNorms_163 (by omega) ?_
                      refine z_callSi F (pc := 164) hK hW hA (As := [.int (iI ((zU n2 ((2 * i) + w) ((ev2_1 ((2 * i) + w)) - ((lo + hi) / 2))) ((2 * i) + w)))]) (rest := []) (c_X8_plain l D cI cZ ((zU n2 ((2 * i) + w) ((ev2_1 ((2 * i) + w)) - ((lo + hi) / 2))) ((2 * i) + w)) _ (by omega) (by omega)) (va_cwS 1 F.2.2.2.2 gX8_findNorms_X8_plain rfl rfl rfl (by decide +kernel) ⟨Nat.le_of_ble_eq_true rfl, Nat.le_of_ble_eq_true rfl⟩) rfl rfl hl.1 (Nat.le_of_ble_eq_true rfl) dX8_findNorms_164 ⟨Nat.le_of_ble_eq_true rfl, Nat.le_of_ble_eq_true rfl⟩ (fun z_164 H locs r_z_164 hp_164 hW => ?_)
                      replace hp_164 := hp_164.symm
                      subst hp_164
                      refine z_goto F (pc := 167) 171 dX8_findNorms_167 (by decide) ?_
                      refine z_istoren F (pc := 171) hl (lv' := [(1, .int (iI ((((zU n2 ((2 * i) + w) ((ev2_1 ((2 * i) + w)) - ((lo + hi) / 2))) ((2 * i) + w)).natAbs : Nat) : Int))), (6, .int (iI i)), (5, .int (iI ((lo + hi) / 2))), (2, .int (iI w)), (0, .ref (aR 0))]) dX8_findNorms_171 rfl (by decide) rfl (fun ls hl => ?_)
                      refine z_iinc F (pc := 172) hl (lv' := [(6, .int (iI (i + 1))), (1, .int (iI ((((zU n2 ((2 * i) + w) ((ev2_1 ((2 * i) + w)) - ((lo + hi) / 2))) ((2 * i) + w)).natAbs : Nat) : Int))), (5, .int (iI ((lo + hi) / 2))), (2, .int (iI w)), (0, .ref (aR 0))]) dX8_findNorms_172 (k := 1) rfl (by decide) rfl (fun ls hl => ?_)
                      refine z_goto F (pc := 175) 103 dX8_findNorms_175 (by decide) ?_
                      exact ih_103 (i + 1) ((((zU n2 ((2 * i) + w) ((ev2_1 ((2 * i) + w)) - ((lo + hi) / 2))) ((2 * i) + w)).natAbs : Nat) : Int) (zU n2 ((2 * i) + w) ((ev2_1 ((2 * i) + w)) - ((lo + hi) / 2))) _ _ _ (by omega) (by omega) (by omega) (by exact hs3) (by first | exact mxT_k m3 (k := 2 * i + w) (by omega) hPP hnn (by omega) | exact mxT_n m3 (k := 2 * i + w) (by omega) hPP hnn (by omega)) (lv_sub hl [0, 2, 3, 1, 4] rfl) hW
              exact cut_103 _ 0 sm n1 _ _ _ (Nat.lt_succ_self _) (by omega) (by omega) (by intro j j0 j1; rw [if_neg (by omega)]) (by exact hm0) (lv_sub hl [0, 1, 4, 5, 6] rfl) hW
            · skip
              have hv := hEb (2 * i + w) (by omega) (by omega)
              have hcomm : (2 * i + w - w) % 2 = 0 := by omega
              refine z_aloadn F (pc := 38) dX8_findNorms_38 rfl (lv_at hl 5 rfl) ?_
              refine z_get F (pc := 39) (C := RX8) (T := TX8) (N := 32) (ci := 8) inX8 hK hW 0 4 rfl rfl (by decide) rfl (List.mem_of_getElem? (i := 1) rfl) (v := .ref (aR 4)) rfl dX8_findNorms_39 ?_
              refine z_iconst F (pc := 42) (2) dX8_findNorms_42 ?_
              refine z_iload F (pc := 43) dX8_findNorms_43 (lv_at hl 0 rfl) ?_
              refine z_imul F (pc := 45) dX8_findNorms_45 ?_
              refine z_iloadn F (pc := 46) dX8_findNorms_46 rfl (lv_at hl 3 rfl) ?_
              refine z_iadd F (pc := 47) dX8_findNorms_47 ?_
              refine z_iald F (pc := 48) hK hW 4 rfl (by decide) dX8_findNorms_48 (by omega) ?_
              refine z_istore F (pc := 49) hl (lv' := [(6, .int (iI (ev2_1 ((2 * i) + w)))), (5, .int (iI i)), (4, .int (iI hi)), (3, .int (iI lo)), (2, .int (iI w)), (1, .int (iI sm)), (0, .ref (aR 0))]) dX8_findNorms_49 (by decide) rfl (fun ls hl => ?_)
              refine z_iload F (pc := 51) dX8_findNorms_51 (lv_at hl 0 rfl) ?_
              refine z_iloadn F (pc := 53) dX8_findNorms_53 rfl (lv_at hl 3 rfl) ?_
              refine z_icmp_ge F (pc := 54) 62 dX8_findNorms_54 (by decide) (by omega) (fun c_54 => ?_) (fun c_54 => ?_)
              · skip
                refine z_iloadn F (pc := 62) dX8_findNorms_62 rfl (lv_at hl 3 rfl) ?_
                refine z_istoren F (pc := 63) hl (lv' := [(3, .int (iI lo)), (6, .int (iI (ev2_1 ((2 * i) + w)))), (5, .int (iI i)), (4, .int (iI hi)), (2, .int (iI w)), (1, .int (iI sm)), (0, .ref (aR 0))]) dX8_findNorms_63 rfl (by decide) rfl (fun ls hl => ?_)
                refine z_iload F (pc := 64) dX8_findNorms_64 (lv_at hl 1 rfl) ?_
                refine z_iload F (pc := 66) dX8_findNorms_66 (lv_at hl 3 rfl) ?_
                refine z_icmp_le F (pc := 68) 76 dX8_findNorms_68 (by decide) (by omega) (fun c_68 => ?_) (fun c_68 => ?_)
                · skip
                  refine z_iload F (pc := 76) dX8_findNorms_76 (lv_at hl 3 rfl) ?_
                  refine z_istore F (pc := 78) hl (lv' := [(4, .int (iI hi)), (3, .int (iI lo)), (6, .int (iI (ev2_1 ((2 * i) + w)))), (5, .int (iI i)), (2, .int (iI w)), (1, .int (iI sm)), (0, .ref (aR 0))]) dX8_findNorms_78 (by decide) rfl (fun ls hl => ?_)
                  refine z_iinc F (pc := 80) hl (lv' := [(5, .int (iI (i + 1))), (4, .int (iI hi)), (3, .int (iI lo)), (6, .int (iI (ev2_1 ((2 * i) + w)))), (2, .int (iI w)), (1, .int (iI sm)), (0, .ref (aR 0))]) dX8_findNorms_80 (k := 3) rfl (by decide) rfl (fun ls hl => ?_)
                  refine z_goto F (pc := 83) 31 dX8_findNorms_83 (by decide) ?_
                  exact ih_31 lo hi (i + 1) _ _ _ (by omega) (by omega) (by omega) (by first | exact loT_k k2 (by omega) (by omega) (by omega) | exact loT_n k2 (by omega) (by omega) (by omega) (by omega)) (by first | exact hiT_k k3 (by omega) (by omega) (by omega) | exact hiT_n k3 (by omega) (by omega) (by omega) (by omega)) (lv_sub hl [0, 1, 2, 4, 5, 6] rfl) hW
                · skip
                  refine z_iload F (pc := 71) dX8_findNorms_71 (lv_at hl 1 rfl) ?_
                  refine z_goto F (pc := 73) 78 dX8_findNorms_73 (by decide) ?_
                  refine z_istore F (pc := 78) hl (lv' := [(4, .int (iI (ev2_1 ((2 * i) + w)))), (3, .int (iI lo)), (6, .int (iI (ev2_1 ((2 * i) + w)))), (5, .int (iI i)), (2, .int (iI w)), (1, .int (iI sm)), (0, .ref (aR 0))]) dX8_findNorms_78 (by decide) rfl (fun ls hl => ?_)
                  refine z_iinc F (pc := 80) hl (lv' := [(5, .int (iI (i + 1))), (4, .int (iI (ev2_1 ((2 * i) + w)))), (3, .int (iI lo)), (6, .int (iI (ev2_1 ((2 * i) + w)))), (2, .int (iI w)), (1, .int (iI sm)), (0, .ref (aR 0))]) dX8_findNorms_80 (k := 3) rfl (by decide) rfl (fun ls hl => ?_)
                  refine z_goto F (pc := 83) 31 dX8_findNorms_83 (by decide) ?_
                  exact ih_31 lo (ev2_1 ((2 * i) + w)) (i + 1) _ _ _ (by omega) (by omega) (by omega) (by first | exact loT_k k2 (by omega) (by omega) (by omega) | exact loT_n k2 (by omega) (by omega) (by omega) (by omega)) (by first | exact hiT_k k3 (by omega) (by omega) (by omega) | exact hiT_n k3 (by omega) (by omega) (by omega) (by omega)) (lv_sub hl [0, 1, 2, 4, 5, 6] rfl) hW
              · skip
                refine z_iload F (pc := 57) dX8_findNorms_57 (lv_at hl 0 rfl) ?_
                refine z_goto F (pc := 59) 63 dX8_findNorms_59 (by decide) ?_
                refine z_istoren F (pc := 63) hl (lv' := [(3, .int (iI (ev2_1 ((2 * i) + w)))), (6, .int (iI (ev2_1 ((2 * i) + w)))), (5, .int (iI i)), (4, .int (iI hi)), (2, .int (iI w)), (1, .int (iI sm)), (0, .ref (aR 0))]) dX8_findNorms_63 rfl (by decide) rfl (fun ls hl => ?_)
                refine z_iload F (pc := 64) dX8_findNorms_64 (lv_at hl 1 rfl) ?_
                refine z_iload F (pc := 66) dX8_findNorms_66 (lv_at hl 3 rfl) ?_
                refine z_icmp_le F (pc := 68) 76 dX8_findNorms_68 (by decide) (by omega) (fun c_68 => ?_) (fun c_68 => ?_)
                · skip
                  refine z_iload F (pc := 76) dX8_findNorms_76 (lv_at hl 3 rfl) ?_
                  refine z_istore F (pc := 78) hl (lv' := [(4, .int (iI hi)), (3, .int (iI (ev2_1 ((2 * i) + w)))), (6, .int (iI (ev2_1 ((2 * i) + w)))), (5, .int (iI i)), (2, .int (iI w)), (1, .int (iI sm)), (0, .ref (aR 0))]) dX8_findNorms_78 (by decide) rfl (fun ls hl => ?_)
                  refine z_iinc F (pc := 80) hl (lv' := [(5, .int (iI (i + 1))), (4, .int (iI hi)), (3, .int (iI (ev2_1 ((2 * i) + w)))), (6, .int (iI (ev2_1 ((2 * i) + w)))), (2, .int (iI w)), (1, .int (iI sm)), (0, .ref (aR 0))]) dX8_findNorms_80 (k := 3) rfl (by decide) rfl (fun ls hl => ?_)
                  refine z_goto F (pc := 83) 31 dX8_findNorms_83 (by decide) ?_
                  exact ih_31 (ev2_1 ((2 * i) + w)) hi (i + 1) _ _ _ (by omega) (by omega) (by omega) (by first | exact loT_k k2 (by omega) (by omega) (by omega) | exact loT_n k2 (by omega) (by omega) (by omega) (by omega)) (by first | exact hiT_k k3 (by omega) (by omega) (by omega) | exact hiT_n k3 (by omega) (by omega) (by omega) (by omega)) (lv_sub hl [0, 1, 2, 4, 5, 6] rfl) hW
                · skip
                  refine z_iload F (pc := 71) dX8_findNorms_71 (lv_at hl 1 rfl) ?_
                  refine z_goto F (pc := 73) 78 dX8_findNorms_73 (by decide) ?_
                  refine z_istore F (pc := 78) hl (lv' := [(4, .int (iI (ev2_1 ((2 * i) + w)))), (3, .int (iI (ev2_1 ((2 * i) + w)))), (6, .int (iI (ev2_1 ((2 * i) + w)))), (5, .int (iI i)), (2, .int (iI w)), (1, .int (iI sm)), (0, .ref (aR 0))]) dX8_findNorms_78 (by decide) rfl (fun ls hl => ?_)
                  refine z_iinc F (pc := 80) hl (lv' := [(5, .int (iI (i + 1))), (4, .int (iI (ev2_1 ((2 * i) + w)))), (3, .int (iI (ev2_1 ((2 * i) + w)))), (6, .int (iI (ev2_1 ((2 * i) + w)))), (2, .int (iI w)), (1, .int (iI sm)), (0, .ref (aR 0))]) dX8_findNorms_80 (k := 3) rfl (by decide) rfl (fun ls hl => ?_)
                  refine z_goto F (pc := 83) 31 dX8_findNorms_83 (by decide) ?_
                  exact ih_31 (ev2_1 ((2 * i) + w)) (ev2_1 ((2 * i) + w)) (i + 1) _ _ _ (by omega) (by omega) (by omega) (by first | exact loT_k k2 (by omega) (by omega) (by omega) | exact loT_n k2 (by omega) (by omega) (by omega) (by omega)) (by first | exact hiT_k k3 (by omega) (by omega) (by omega) | exact hiT_n k3 (by omega) (by omega) (by omega) (by omega)) (lv_sub hl [0, 1, 2, 4, 5, 6] rfl) hW
        exact cut_31 _ (ev2_1 w) (ev2_1 w) 1 _ _ _ (Nat.lt_succ_self _) (by omega) (by omega) (by exact loT_0 _ hw2 (by omega)) (by exact hiT_0 _ hw2 (by omega)) (lv_sub hl [0, 1, 2, 3, 4, 5] rfl) hW
  exact cut_8 _ 0 0 nm _ _ _ (Nat.lt_succ_self _) (by omega) (by omega) (by exact ⟨fun h => by omega, fun h => by omega⟩) (by exact ⟨fun j j0 j1 j2 => by omega, Or.inl rfl⟩) (lv_sub hl [0, 1, 2] rfl) hW
