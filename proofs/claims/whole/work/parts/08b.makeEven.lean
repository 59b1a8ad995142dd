def isLo (e : Int → Int) (w b : Int) : Prop := (∀ j, w ≤ j → j < 16 → (j - w) % 2 = 0 → b ≤ e j) ∧ ∃ j, (w ≤ j ∧ j < 16 ∧ (j - w) % 2 = 0) ∧ b = e j
def isHi (e : Int → Int) (w b : Int) : Prop := (∀ j, w ≤ j → j < 16 → (j - w) % 2 = 0 → e j ≤ b) ∧ ∃ j, (w ≤ j ∧ j < 16 ∧ (j - w) % 2 = 0) ∧ b = e j
def isMx (n : Int → Int) (b : Int) : Prop := (∀ j, 0 ≤ j → j < 16 → ((n j).natAbs : Int) ≤ b) ∧ (b = 0 ∨ ∃ j, (0 ≤ j ∧ j < 16) ∧ b = ((n j).natAbs : Int))
theorem isLo_one {e e2 : Int → Int} {w b b2 : Int} (hw : 0 ≤ w) (he : ∀ j, 0 ≤ j → j < 16 → e j = e2 j) (h : isLo e w b) (h2 : isLo e2 w b2) : b = b2 := by
  obtain ⟨j, hj, e1⟩ := h.2
  obtain ⟨j2, hj2, e3⟩ := h2.2
  have a := h.1 j2 hj2.1 hj2.2.1 hj2.2.2
  have c := h2.1 j hj.1 hj.2.1 hj.2.2
  rw [he j2 (by omega) hj2.2.1] at a
  rw [← he j (by omega) hj.2.1] at c
  omega
theorem isHi_one {e e2 : Int → Int} {w b b2 : Int} (hw : 0 ≤ w) (he : ∀ j, 0 ≤ j → j < 16 → e j = e2 j) (h : isHi e w b) (h2 : isHi e2 w b2) : b = b2 := by
  obtain ⟨j, hj, e1⟩ := h.2
  obtain ⟨j2, hj2, e3⟩ := h2.2
  have a := h.1 j2 hj2.1 hj2.2.1 hj2.2.2
  have c := h2.1 j hj.1 hj.2.1 hj.2.2
  rw [he j2 (by omega) hj2.2.1] at a
  rw [← he j (by omega) hj.2.1] at c
  omega
theorem isMx_0 {n : Int → Int} {b : Int} (h : isMx n b) : 0 ≤ b := by
  have := h.1 0 (by omega) (by omega)
  omega
theorem isMx_one {n n2 : Int → Int} {b b2 : Int} (he : ∀ j, 0 ≤ j → j < 16 → n j = n2 j) (h : isMx n b) (h2 : isMx n2 b2) : b = b2 := by
  have z := isMx_0 h
  have z2 := isMx_0 h2
  have k1 : b ≤ b2 := by
    rcases h.2 with q | ⟨j, hj, q⟩
    · omega
    · have := h2.1 j hj.1 hj.2
      rw [← he j hj.1 hj.2] at this
      omega
  have k2 : b2 ≤ b := by
    rcases h2.2 with q | ⟨j, hj, q⟩
    · omega
    · have := h.1 j hj.1 hj.2
      rw [he j hj.1 hj.2] at this
      omega
  omega
/-- the middle off, by the least and the greatest of each -/
def mO (e : Int → Int) (l0 g0 l1 g1 j : Int) : Int := if j % 2 = 0 then e j - (l0 + g0) / 2 else e j - (l1 + g1) / 2
def Nm (e n : Int → Int) : Prop := ∃ l0 g0 l1 g1 g, isLo e 0 l0 ∧ isHi e 0 g0 ∧ isLo e 1 l1 ∧ isHi e 1 g1 ∧ isMx (mO e l0 g0 l1 g1) g ∧ ∀ j, 0 ≤ j → j < 16 → n j = if g = 0 then 0 else 1000 * mO e l0 g0 l1 g1 j / g
def NmOf (xs ys lf : Int → Int) (sz : Int) (n : Int → Int) : Prop := ∃ e, Ev xs ys lf sz e ∧ Nm e n
theorem Nm_one {e e2 n n2 : Int → Int} (he : ∀ j, 0 ≤ j → j < 16 → e j = e2 j) (h : Nm e n) (h2 : Nm e2 n2) : ∀ j, 0 ≤ j → j < 16 → n j = n2 j := by
  obtain ⟨l0, g0, l1, g1, g, a1, a2, a3, a4, a5, a6⟩ := h
  obtain ⟨m0, k0, m1, k1, k, b1, b2, b3, b4, b5, b6⟩ := h2
  have e1 := isLo_one (by omega) he a1 b1
  have e3 := isHi_one (by omega) he a2 b2
  have e4 := isLo_one (by omega) he a3 b3
  have e5 := isHi_one (by omega) he a4 b4
  subst e1; subst e3; subst e4; subst e5
  have hm : ∀ j, 0 ≤ j → j < 16 → mO e l0 g0 l1 g1 j = mO e2 l0 g0 l1 g1 j := by
    intro j h0 h1
    unfold mO
    rw [he j h0 h1]
  have e6 := isMx_one hm a5 b5
  subst e6
  intro j h0 h1
  rw [a6 j h0 h1, b6 j h0 h1, hm j h0 h1]
theorem NmOf_one {xs ys lf : Int → Int} {sz : Int} {n n2 : Int → Int} (h : NmOf xs ys lf sz n) (h2 : NmOf xs ys lf sz n2) : ∀ j, 0 ≤ j → j < 16 → n j = n2 j := by
  obtain ⟨e, h3, h4⟩ := h
  obtain ⟨e2, h5, h6⟩ := h2
  exact Nm_one (Ev_one h3 h5) h4 h6
theorem nq_b {v g : Int} (h : (v.natAbs : Int) ≤ g) (hg : ¬ g = 0) : -1000 ≤ 1000 * v / g ∧ 1000 * v / g ≤ 1000 := by
  have hp : 0 < g := by omega
  constructor
  · apply (Int.le_ediv_iff_mul_le hp).mpr
    omega
  · have : 1000 * v / g < 1001 := Int.ediv_lt_of_lt_mul hp (by omega)
    omega
theorem Nm_b {e n : Int → Int} (h : Nm e n) : ∀ j, 0 ≤ j → j < 16 → -1000 ≤ n j ∧ n j ≤ 1000 := by
  obtain ⟨l0, g0, l1, g1, g, a1, a2, a3, a4, a5, a6⟩ := h
  intro j h0 h1
  rw [a6 j h0 h1]
  split
  · omega
  · exact nq_b (a5.1 j h0 h1) ‹_›
theorem NmOf_b {xs ys lf : Int → Int} {sz : Int} {n : Int → Int} (h : NmOf xs ys lf sz n) : ∀ j, 0 ≤ j → j < 16 → -1000 ≤ n j ∧ n j ≤ 1000 := by
  obtain ⟨e, _, h4⟩ := h
  exact Nm_b h4

set_option maxHeartbeats 4000000 in
set_option maxRecDepth 100000 in
theorem c_X2_makeEven (l : Launch) (D : va_G) (cI cZ : ClassId) (aD : Nat → Nat) (xs ys lf ev nm : Int → Int) (sz : Int) (sz0 : Nat) (hd : Dok xs ys lf sz) : Met l yX2_makeEven wsX2_makeEven ({ frames := 3, cells := 0, slots := 0, locals := 70 } : Room) (zPc D cI cZ [.ref (aD 0)] (wD cI cZ aD xs ys lf ev nm sz) sz0) (zQi D cI cZ (wD cI cZ aD xs ys lf ev nm sz) sz0 (fun (r : Int) (u : (Int → Int)) => (zB r (¬ wy xs ys lf sz = 0)) ∧ (¬ wy xs ys lf sz = 0 → Ev xs ys lf sz u)) (fun (u : (Int → Int)) => wD cI cZ aD xs ys lf u nm sz)) 0 0 (va_A (wD cI cZ aD xs ys lf ev nm sz) sz0) := by
  have hs := hd.1
  have hww := wy_r hd (q := sz) (Int.le_refl _)
  refine z_ofI (maxL := 3) (plainFor_of_name (by decide)) rfl (Nat.le_of_ble_eq_true rfl) (Or.inr ⟨rfl, fun z u h => zB_01 h.1⟩) ?_
  intro p e s m below meth c A ls Q F hK hW hA hl hret
  have hl : lv_has ls 3 [(0, .ref (aD 0))] := hl
  refine z_aloadn F (pc := 0) dX2_makeEven_0 rfl (lv_at hl 0 rfl) ?_
  refine z_callVi F (pc := 1) hK hW hA (As := []) (rest := []) (ws' := fun (u : Unit) => wD cI cZ aD xs ys lf ev nm sz) (wr := ([])) (c_X2_length l D cI cZ aD xs ys lf ev nm sz _ (by exact hd)) (cwV 0 F.2.2.2.2 gX2_makeEven_X2_length rfl rfl rfl (by decide +kernel) ⟨Nat.le_of_ble_eq_true rfl, Nat.le_of_ble_eq_true rfl⟩) [0, 1, 2, 3, 4, 5] [] [0, 1, 2, 3, 4, 5] rfl rfl (by decide) (by decide) (by decide) (fun _ => rfl) (by decide) (q0 := 0) (ci := 2) rfl rfl rfl rfl rfl hl.1 (Nat.le_of_ble_eq_true rfl) dX2_makeEven_1 ⟨Nat.le_of_ble_eq_true rfl, Nat.le_of_ble_eq_true rfl⟩ (fun z_1 u H locs r_z_1 hp_1 hW => ?_)
  replace hp_1 := hp_1.symm
  subst hp_1
  refine z_istoren F (pc := 4) hl (lv' := [(1, .int (iI (wy xs ys lf sz))), (0, .ref (aD 0))]) dX2_makeEven_4 rfl (by decide) rfl (fun ls hl => ?_)
  refine z_iloadn F (pc := 5) dX2_makeEven_5 rfl (lv_at hl 0 rfl) ?_
  refine z_if_ne F (pc := 6) 11 dX2_makeEven_6 (by decide) (by omega) (fun c_6 => ?_) (fun c_6 => ?_)
  · skip
    refine z_iconst F (pc := 11) (0) dX2_makeEven_11 ?_
    refine z_istoren F (pc := 12) hl (lv' := [(2, .int (iI 0)), (1, .int (iI (wy xs ys lf sz))), (0, .ref (aD 0))]) dX2_makeEven_12 rfl (by decide) rfl (fun ls hl => ?_)
    have cut_13 : ∀ (fuel : Nat) (i : Int) (e1 : Int → Int) (H : Heap) (locs : List Loc) (ls : Array Slot), (8 - i).toNat < fuel → (0 ≤ i ∧ i ≤ 8) → (zH (∀ t, 0 ≤ t → t < i → ∃ q, isEv xs ys lf sz (t * wy xs ys lf sz) q ∧ e1 (2 * t) = pE xs ys lf xs (t * wy xs ys lf sz) q ∧ e1 (2 * t + 1) = pE xs ys lf ys (t * wy xs ys lf sz) q)) → lv_has ls 3 [(2, .int (iI i)), (1, .int (iI (wy xs ys lf sz))), (0, .ref (aD 0))] → zW D A s.heap H locs (wD cI cZ aD xs ys lf e1 nm sz) → W p l e ({ frames := 3, cells := 0, slots := 0, locals := 70 } : Room) s m ([.ref (aD 0)] : List Value).toArray below meth c H locs 0 0 Q (F0 m 13 ls []) := by
      intro fuel
      induction fuel with
      | zero => intro i e1 H locs ls hm; exact absurd hm (Nat.not_lt_zero _)
      | succ fuel ih_13 =>
        intro i e1 H locs ls hm_13 h1 h2 hl hW
        refine z_iloadn F (pc := 13) dX2_makeEven_13 rfl (lv_at hl 0 rfl) ?_
        refine z_bipush F (pc := 14) (8) (by decide +kernel) dX2_makeEven_14 ?_
        refine z_icmp_ge F (pc := 16) 33 dX2_makeEven_16 (by decide) (by omega) (fun c_16 => ?_) (fun c_16 => ?_)
        · skip
          refine z_iconst F (pc := 33) (1) dX2_makeEven_33 ?_
          exact hret _ _ _ _ 1 e1 dX2_makeEven_34 (by omega) (by exact ⟨zB_1 (by omega), fun _ t t0 t1 => h2 t t0 (by omega)⟩) hW
        · skip
          have hg : 0 ≤ i * wy xs ys lf sz ∧ i * wy xs ys lf sz ≤ 7 * wy xs ys lf sz := ⟨Int.mul_nonneg h1.1 hww.1, Int.mul_le_mul_of_nonneg_right (by omega) hww.1⟩
          refine z_aloadn F (pc := 19) dX2_makeEven_19 rfl (lv_at hl 2 rfl) ?_
          refine z_iloadn F (pc := 20) dX2_makeEven_20 rfl (lv_at hl 0 rfl) ?_
          refine z_iloadn F (pc := 21) dX2_makeEven_21 rfl (lv_at hl 0 rfl) ?_
          refine z_iloadn F (pc := 22) dX2_makeEven_22 rfl (lv_at hl 1 rfl) ?_
          refine z_imul F (pc := 23) dX2_makeEven_23 ?_
          refine z_callVv F (pc := 24) hK hW hA (As := [.int (iI i), .int (iI (i * (wy xs ys lf sz)))]) (rest := []) (ws' := fun (u : (Int → Int) × (Int)) => wD cI cZ aD xs ys lf u.1 nm sz) (wr := ([])) (c_X2_placeEven l D cI cZ aD xs ys lf e1 nm sz i (i * (wy xs ys lf sz)) _ (by omega) (by omega) (by exact hd) (by omega) (by exact hg) (by omega)) (cwV 2 F.2.2.2.2 gX2_makeEven_X2_placeEven rfl rfl rfl (by decide +kernel) ⟨Nat.le_of_ble_eq_true rfl, Nat.le_of_ble_eq_true rfl⟩) [0, 1, 2, 3, 4, 5] [] [0, 1, 2, 3, 4, 5] rfl rfl (by decide) (by decide) (by decide) (fun _ => rfl) (by decide) (q0 := 0) (ci := 2) rfl rfl rfl rfl rfl hl.1 (Nat.le_of_ble_eq_true rfl) dX2_makeEven_24 ⟨Nat.le_of_ble_eq_true rfl, Nat.le_of_ble_eq_true rfl⟩ (fun u H locs hp_24 hW => ?_)
          obtain ⟨ev2_24, q2_24⟩ := u
          dsimp only at hp_24 hW
          have hstep : ∀ t, 0 ≤ t → t < i + 1 → ∃ q, isEv xs ys lf sz (t * wy xs ys lf sz) q ∧ ev2_24 (2 * t) = pE xs ys lf xs (t * wy xs ys lf sz) q ∧ ev2_24 (2 * t + 1) = pE xs ys lf ys (t * wy xs ys lf sz) q := by
            intro t t0 t1
            by_cases et : t = i
            · subst et; refine ⟨q2_24, hp_24.1, ?_, ?_⟩ <;> rw [hp_24.2]
              · rw [zU_n _ _ (by omega), zU_s]
              · rw [zU_s]
            · obtain ⟨q, b1, b2, b3⟩ := h2 t t0 (by omega)
              refine ⟨q, b1, ?_, ?_⟩ <;> rw [hp_24.2, zU_n _ _ (by omega), zU_n _ _ (by omega)]
              · exact b2
              · exact b3
          refine z_iinc F (pc := 27) hl (lv' := [(2, .int (iI (i + 1))), (1, .int (iI (wy xs ys lf sz))), (0, .ref (aD 0))]) dX2_makeEven_27 (k := 0) rfl (by decide) rfl (fun ls hl => ?_)
          refine z_goto F (pc := 30) 13 dX2_makeEven_30 (by decide) ?_
          exact ih_13 (i + 1) ev2_24 _ _ _ (by omega) (by omega) (by exact hstep) (lv_sub hl [0, 1, 2] rfl) hW
    exact cut_13 _ 0 ev _ _ _ (Nat.lt_succ_self _) (by omega) (by intro t t0 t1; omega) (lv_sub hl [0, 1, 2] rfl) hW
  · skip
    refine z_iconst F (pc := 9) (0) dX2_makeEven_9 ?_
    exact hret _ _ _ _ 0 ev dX2_makeEven_10 (by omega) (by exact ⟨zB_0 (by omega), fun h => absurd (by omega) h⟩) hW
