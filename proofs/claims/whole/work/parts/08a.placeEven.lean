/-- the point q at which the goal (in sevenths) is drawn -/
def isEv (xs ys lf : Int → Int) (sz g q : Int) : Prop := (1 ≤ q ∧ q < sz) ∧ 0 < dr xs ys lf q ∧ (7 * wy xs ys lf q ≤ g ∧ g ≤ 7 * wy xs ys lf q + 7 * dr xs ys lf q) ∧ ∀ j, 1 ≤ j → j < q → ¬ (0 < dr xs ys lf j ∧ g ≤ 7 * wy xs ys lf j + 7 * dr xs ys lf j)
def pE (xs ys lf f : Int → Int) (g q : Int) : Int := 100 * f (q - 1) + ((f q - f (q - 1)) * 100 * (g - 7 * wy xs ys lf q)) / (7 * dr xs ys lf q)
theorem isEv_one {xs ys lf : Int → Int} {sz g q q2 : Int} (h : isEv xs ys lf sz g q) (h2 : isEv xs ys lf sz g q2) : q = q2 := by
  rcases Int.lt_trichotomy q q2 with a | a | a
  · exact absurd ⟨h.2.1, h.2.2.1.2⟩ (h2.2.2.2 q h.1.1 a)
  · exact a
  · exact absurd ⟨h2.2.1, h2.2.2.1.2⟩ (h.2.2.2 q2 h2.1.1 a)
def Ev (xs ys lf : Int → Int) (sz : Int) (e : Int → Int) : Prop := ∀ i, 0 ≤ i → i < 8 → ∃ q, isEv xs ys lf sz (i * wy xs ys lf sz) q ∧ e (2 * i) = pE xs ys lf xs (i * wy xs ys lf sz) q ∧ e (2 * i + 1) = pE xs ys lf ys (i * wy xs ys lf sz) q
theorem Ev_one {xs ys lf : Int → Int} {sz : Int} {e e2 : Int → Int} (h : Ev xs ys lf sz e) (h2 : Ev xs ys lf sz e2) : ∀ j, 0 ≤ j → j < 16 → e j = e2 j := by
  intro j h0 h1
  obtain ⟨q, a1, a2, a3⟩ := h (j / 2) (by omega) (by omega)
  obtain ⟨q2, b1, b2, b3⟩ := h2 (j / 2) (by omega) (by omega)
  have e0 := isEv_one a1 b1
  subst e0
  rcases (show j = 2 * (j / 2) ∨ j = 2 * (j / 2) + 1 by omega) with z | z
  · rw [z, a2, b2]
  · rw [z, a3, b3]
/-- part of the way from one to the other -/
theorem pw_b {fr to pa st : Int} (h1 : -100 ≤ fr ∧ fr ≤ 100) (h2 : -100 ≤ to ∧ to ≤ 100) (h3 : 0 ≤ pa ∧ pa ≤ st) (h4 : 0 < st ∧ st ≤ 2800) : (-56000000 ≤ (to - fr) * 100 * pa ∧ (to - fr) * 100 * pa ≤ 56000000) ∧ (-10000 ≤ 100 * fr + ((to - fr) * 100 * pa) / st ∧ 100 * fr + ((to - fr) * 100 * pa) / st ≤ 10000) ∧ -56000000 ≤ (to - fr) * 100 := by
  have hd : -20000 ≤ (to - fr) * 100 ∧ (to - fr) * 100 ≤ 20000 := by omega
  generalize hx : (to - fr) * 100 = d at hd
  have k1 : 0 ≤ (d + 20000) * pa := Int.mul_nonneg (by omega) h3.1
  have k2 : 0 ≤ (20000 - d) * pa := Int.mul_nonneg (by omega) h3.1
  have k3 : (d + 20000) * pa = d * pa + 20000 * pa := Int.add_mul _ _ _
  have k4 : (20000 - d) * pa = 20000 * pa - d * pa := Int.sub_mul _ _ _
  refine ⟨by omega, ?_, by omega⟩
  by_cases q : 0 ≤ d
  · have m1 : 0 ≤ d * pa := Int.mul_nonneg q h3.1
    have m2 : d * pa ≤ d * st := Int.mul_le_mul_of_nonneg_left h3.2 q
    have m3 : 0 ≤ d * pa / st := Int.ediv_nonneg m1 (by omega)
    have m4 : d * pa / st ≤ d := by
      have := Int.ediv_le_ediv h4.1 m2
      rw [Int.mul_ediv_cancel _ (show st ≠ 0 by omega)] at this
      exact this
    omega
  · have m1 : d * pa ≤ 0 := Int.mul_nonpos_of_nonpos_of_nonneg (by omega) h3.1
    have m2 : d * st ≤ d * pa := Int.mul_le_mul_of_nonpos_left (by omega) h3.2
    have m3 : d * pa / st ≤ 0 := by
      have := Int.ediv_le_ediv h4.1 m1
      rw [Int.zero_ediv] at this
      exact this
    have m4 : d ≤ d * pa / st := by
      have := Int.ediv_le_ediv h4.1 m2
      rw [Int.mul_ediv_cancel _ (show st ≠ 0 by omega)] at this
      exact this
    omega
theorem pE_b {xs ys lf f : Int → Int} {sz g q : Int} (hd : Dok xs ys lf sz) (hf : f = xs ∨ f = ys) (h : isEv xs ys lf sz g q) : -10000 ≤ pE xs ys lf f g q ∧ pE xs ys lf f g q ≤ 10000 := by
  have a := Dok_at hd (j := q) (by have := h.1; omega) h.1.2
  have b := Dok_at hd (j := q - 1) (by have := h.1; omega) (by have := h.1; omega)
  have c := dr_rng hd h.1.1 h.1.2
  have k1 := h.2.1
  have k2 := h.2.2.1
  unfold pE
  rcases hf with rfl | rfl
  · exact (pw_b b.1 a.1 (pa := g - 7 * wy f ys lf q) (st := 7 * dr f ys lf q) (by omega) (by omega)).2.1
  · exact (pw_b b.2.1 a.2.1 (pa := g - 7 * wy xs f lf q) (st := 7 * dr xs f lf q) (by omega) (by omega)).2.1
theorem Ev_b {xs ys lf : Int → Int} {sz : Int} {e : Int → Int} (hd : Dok xs ys lf sz) (h : Ev xs ys lf sz e) : ∀ j, 0 ≤ j → j < 16 → -10000 ≤ e j ∧ e j ≤ 10000 := by
  intro j h0 h1
  obtain ⟨q, a1, a2, a3⟩ := h (j / 2) (by omega) (by omega)
  rcases (show j = 2 * (j / 2) ∨ j = 2 * (j / 2) + 1 by omega) with z | z
  · rw [z, a2]; exact pE_b hd (Or.inl rfl) a1
  · rw [z, a3]; exact pE_b hd (Or.inr rfl) a1

set_option maxHeartbeats 4000000 in
set_option maxRecDepth 100000 in
theorem c_X2_partWay (l : Launch) (D : va_G) (cI cZ : ClassId) (fr to pa st : Int) (sz0 : Nat) (r_fr : (-2147483648 ≤ fr ∧ fr < 2147483648)) (r_to : (-2147483648 ≤ to ∧ to < 2147483648)) (r_pa : (-2147483648 ≤ pa ∧ pa < 2147483648)) (r_st : (-2147483648 ≤ st ∧ st < 2147483648)) (h1 : -100 ≤ fr ∧ fr ≤ 100) (h2 : -100 ≤ to ∧ to ≤ 100) (h3 : 0 ≤ pa ∧ pa ≤ st) (h4 : 0 < st ∧ st ≤ 2800) : Met l yX2_partWay wsX2_partWay ({ frames := 1, cells := 0, slots := 0, locals := 22 } : Room) (zPc D cI cZ [.int (iI fr), .int (iI to), .int (iI pa), .int (iI st)] ([]) sz0) (zQi D cI cZ ([]) sz0 (fun (r : Int) (u : Unit) => r = 100 * fr + ((to - fr) * 100 * pa) / st) (fun (u : Unit) => [])) 0 0 (va_A ([]) sz0) := by
  have hb := pw_b h1 h2 h3 h4
  refine z_ofI (maxL := 4) (plainFor_of_name (by decide)) rfl (Nat.le_of_ble_eq_true rfl) (Or.inl rfl) ?_
  intro p e s m below meth c A ls Q F hK hW hA hl hret
  have hl : lv_has ls 4 [(0, .int (iI fr)), (1, .int (iI to)), (2, .int (iI pa)), (3, .int (iI st))] := hl
  refine z_iloadn F (pc := 0) dX2_partWay_0 rfl (lv_at hl 3 rfl) ?_
  refine z_if_gt F (pc := 1) 9 dX2_partWay_1 (by decide) (by omega) (fun c_1 => ?_) (fun c_1 => ?_)
  · skip
    refine z_bipush F (pc := 9) (100) (by decide +kernel) dX2_partWay_9 ?_
    refine z_iloadn F (pc := 11) dX2_partWay_11 rfl (lv_at hl 0 rfl) ?_
    refine z_imul F (pc := 12) dX2_partWay_12 ?_
    refine z_iloadn F (pc := 13) dX2_partWay_13 rfl (lv_at hl 1 rfl) ?_
    refine z_iloadn F (pc := 14) dX2_partWay_14 rfl (lv_at hl 0 rfl) ?_
    refine z_isub F (pc := 15) dX2_partWay_15 ?_
    refine z_bipush F (pc := 16) (100) (by decide +kernel) dX2_partWay_16 ?_
    refine z_imul F (pc := 18) dX2_partWay_18 ?_
    refine z_iloadn F (pc := 19) dX2_partWay_19 rfl (lv_at hl 2 rfl) ?_
    refine z_imul F (pc := 20) dX2_partWay_20 ?_
    refine z_iloadn F (pc := 21) dX2_partWay_21 rfl (lv_at hl 3 rfl) ?_
    refine z_callSi F (pc := 22) hK hW hA (As := [.int (iI (((to - fr) * 100) * pa)), .int (iI st)]) (rest := [.int (iI (100 * fr))]) (c_J9_floorDiv_7cf53 l D cI cZ (((to - fr) * 100) * pa) st _ (by omega) (by omega) (by omega) (by omega)) (va_cwS 2 F.2.2.2.2 gX2_partWay_J9_floorDiv_7cf53 rfl rfl rfl (by decide +kernel) ⟨Nat.le_of_ble_eq_true rfl, Nat.le_of_ble_eq_true rfl⟩) rfl rfl hl.1 (Nat.le_of_ble_eq_true rfl) dX2_partWay_22 ⟨Nat.le_of_ble_eq_true rfl, Nat.le_of_ble_eq_true rfl⟩ (fun z_22 H locs r_z_22 hp_22 hW => ?_)
    replace hp_22 := hp_22.symm
    subst hp_22
    refine z_iadd F (pc := 25) dX2_partWay_25 ?_
    exact hret _ _ _ _ ((100 * fr) + ((((to - fr) * 100) * pa) / st)) () dX2_partWay_26 (by omega) (by rfl) hW
  · skip
    exact absurd c_1 (by omega)

set_option maxHeartbeats 4000000 in
set_option maxRecDepth 100000 in
theorem c_X2_placeEven (l : Launch) (D : va_G) (cI cZ : ClassId) (aD : Nat → Nat) (xs ys lf ev nm : Int → Int) (sz : Int) (i g : Int) (sz0 : Nat) (r_i : (-2147483648 ≤ i ∧ i < 2147483648)) (r_g : (-2147483648 ≤ g ∧ g < 2147483648)) (hd : Dok xs ys lf sz) (hi : 0 ≤ i ∧ i < 8) (hg : 0 ≤ g ∧ g ≤ 7 * wy xs ys lf sz) (hw : 0 < wy xs ys lf sz) : Met l yX2_placeEven wsX2_placeEven ({ frames := 2, cells := 0, slots := 0, locals := 45 } : Room) (zPc D cI cZ [.ref (aD 0), .int (iI i), .int (iI g)] (wD cI cZ aD xs ys lf ev nm sz) sz0) (zQv D cI cZ (wD cI cZ aD xs ys lf ev nm sz) sz0 (fun (u : (Int → Int) × (Int)) => isEv xs ys lf sz g u.2 ∧ u.1 = zU (zU ev (2 * i) (pE xs ys lf xs g u.2)) (2 * i + 1) (pE xs ys lf ys g u.2)) (fun (u : (Int → Int) × (Int)) => wD cI cZ aD xs ys lf u.1 nm sz)) 0 0 (va_A (wD cI cZ aD xs ys lf ev nm sz) sz0) := by
  have hs := hd.1
  have hww := wy_r hd (q := sz) (Int.le_refl _)
  refine z_ofV (maxL := 6) (plainFor_of_name (by decide)) rfl (Nat.le_of_ble_eq_true rfl) ?_
  intro p e s m below meth c A ls Q F hK hW hA hl hret
  have hl : lv_has ls 6 [(0, .ref (aD 0)), (1, .int (iI i)), (2, .int (iI g))] := hl
  have inX2 : ∀ w ∈ u_ws RX2 TX2 6, w ∈ wsX2_placeEven := fun _ h => List.mem_cons_of_mem _ (List.mem_append_right _ h)
  refine z_iconst F (pc := 0) (0) dX2_placeEven_0 ?_
  refine z_istoren F (pc := 1) hl (lv' := [(3, .int (iI 0)), (0, .ref (aD 0)), (1, .int (iI i)), (2, .int (iI g))]) dX2_placeEven_1 rfl (by decide) rfl (fun ls hl => ?_)
  refine z_iconst F (pc := 2) (1) dX2_placeEven_2 ?_
  refine z_istore F (pc := 3) hl (lv' := [(4, .int (iI 1)), (3, .int (iI 0)), (0, .ref (aD 0)), (1, .int (iI i)), (2, .int (iI g))]) dX2_placeEven_3 (by decide) rfl (fun ls hl => ?_)
  have cut_5 : ∀ (fuel : Nat) (a : Int) (q : Int) (H : Heap) (locs : List Loc) (ls : Array Slot), (sz - q).toNat < fuel → (1 ≤ q ∧ (q ≤ sz ∨ q = 1)) → (a = 7 * wy xs ys lf q) → (7 * wy xs ys lf q < g ∨ wy xs ys lf q = 0) → (∀ j, 1 ≤ j → j < q → ¬ (0 < dr xs ys lf j ∧ g ≤ 7 * wy xs ys lf j + 7 * dr xs ys lf j)) → lv_has ls 6 [(4, .int (iI q)), (3, .int (iI a)), (0, .ref (aD 0)), (1, .int (iI i)), (2, .int (iI g))] → zW D A s.heap H locs (wD cI cZ aD xs ys lf ev nm sz) → W p l e ({ frames := 2, cells := 0, slots := 0, locals := 45 } : Room) s m ([.ref (aD 0), .int (iI i), .int (iI g)] : List Value).toArray below meth c H locs 0 0 Q (F0 m 5 ls []) := by
    intro fuel
    induction fuel with
    | zero => intro a q H locs ls hm; exact absurd hm (Nat.not_lt_zero _)
    | succ fuel ih_5 =>
      intro a q H locs ls hm_5 h1 h2 h3 h4 hl hW
      refine z_iload F (pc := 5) dX2_placeEven_5 (lv_at hl 0 rfl) ?_
      refine z_aloadn F (pc := 7) dX2_placeEven_7 rfl (lv_at hl 2 rfl) ?_
      refine z_get F (pc := 8) (C := RX2) (T := TX2) (N := 6) (ci := 2) inX2 hK hW 0 5 rfl rfl (by decide) rfl (List.mem_of_getElem? (i := 1) rfl) (v := .int (iI sz)) rfl dX2_placeEven_8 ?_
      refine z_icmp_ge F (pc := 11) 116 dX2_placeEven_11 (by decide) (by omega) (fun c_11 => ?_) (fun c_11 => ?_)
      · skip
        have hz := wy_0 xs ys lf (q := sz)
        have hz1 : q = sz ∨ sz ≤ 1 := by omega
        exfalso
        rcases hz1 with e | e
        · rw [e] at h3; omega
        · have := hz e; omega
      · skip
        have hr := dr_rng hd h1.1 (by omega)
        have ha := Dok_at hd (j := q) (by omega) (by omega)
        have hb := Dok_at hd (j := q - 1) (by omega) (by omega)
        have hw3 := wy_r hd (q := q) (by omega)
        refine z_bipush F (pc := 14) (7) (by decide +kernel) dX2_placeEven_14 ?_
        refine z_aloadn F (pc := 16) dX2_placeEven_16 rfl (lv_at hl 2 rfl) ?_
        refine z_iload F (pc := 17) dX2_placeEven_17 (lv_at hl 0 rfl) ?_
        refine z_callVi F (pc := 19) hK hW hA (As := [.int (iI q)]) (rest := [.int (iI 7)]) (ws' := fun (u : Unit) => wD cI cZ aD xs ys lf ev nm sz) (wr := ([])) (c_X2_drawnTo l D cI cZ aD xs ys lf ev nm sz q _ (by omega) (by exact hd) (by omega)) (cwV 1 F.2.2.2.2 gX2_placeEven_X2_drawnTo rfl rfl rfl (by decide +kernel) ⟨Nat.le_of_ble_eq_true rfl, Nat.le_of_ble_eq_true rfl⟩) [0, 1, 2, 3, 4, 5] [] [0, 1, 2, 3, 4, 5] rfl rfl (by decide) (by decide) (by decide) (fun _ => rfl) (by decide) (q0 := 0) (ci := 2) rfl rfl rfl rfl rfl hl.1 (Nat.le_of_ble_eq_true rfl) dX2_placeEven_19 ⟨Nat.le_of_ble_eq_true rfl, Nat.le_of_ble_eq_true rfl⟩ (fun z_19 u H locs r_z_19 hp_19 hW => ?_)
        replace hp_19 := hp_19.symm
        subst hp_19
        refine z_imul F (pc := 22) dX2_placeEven_22 ?_
        refine z_istore F (pc := 23) hl (lv' := [(5, .int (iI (7 * (dr xs ys lf q)))), (4, .int (iI q)), (3, .int (iI a)), (0, .ref (aD 0)), (1, .int (iI i)), (2, .int (iI g))]) dX2_placeEven_23 (by decide) rfl (fun ls hl => ?_)
        refine z_iload F (pc := 25) dX2_placeEven_25 (lv_at hl 0 rfl) ?_
        refine z_if_le F (pc := 27) 105 dX2_placeEven_27 (by decide) (by omega) (fun c_27 => ?_) (fun c_27 => ?_)
        · skip
          refine z_iloadn F (pc := 105) dX2_placeEven_105 rfl (lv_at hl 2 rfl) ?_
          refine z_iload F (pc := 106) dX2_placeEven_106 (lv_at hl 0 rfl) ?_
          refine z_iadd F (pc := 108) dX2_placeEven_108 ?_
          refine z_istoren F (pc := 109) hl (lv' := [(3, .int (iI (a + (7 * (dr xs ys lf q))))), (5, .int (iI (7 * (dr xs ys lf q)))), (4, .int (iI q)), (0, .ref (aD 0)), (1, .int (iI i)), (2, .int (iI g))]) dX2_placeEven_109 rfl (by decide) rfl (fun ls hl => ?_)
          refine z_iinc F (pc := 110) hl (lv' := [(4, .int (iI (q + 1))), (3, .int (iI (a + (7 * (dr xs ys lf q))))), (5, .int (iI (7 * (dr xs ys lf q)))), (0, .ref (aD 0)), (1, .int (iI i)), (2, .int (iI g))]) dX2_placeEven_110 (k := 2) rfl (by decide) rfl (fun ls hl => ?_)
          refine z_goto F (pc := 113) 5 dX2_placeEven_113 (by decide) ?_
          exact ih_5 (a + (7 * (dr xs ys lf q))) (q + 1) _ _ _ (by omega) (by omega) (by rw [wy_s xs ys lf h1.1]; omega) (by rw [wy_s xs ys lf h1.1]; omega) (by intro j j1 j2; (by_cases e : j = q) <;> first | (rw [e]; omega) | exact h4 j j1 (by omega)) (lv_sub hl [0, 1, 3, 4, 5] rfl) hW
        · skip
          refine z_iloadn F (pc := 30) dX2_placeEven_30 rfl (lv_at hl 5 rfl) ?_
          refine z_iloadn F (pc := 31) dX2_placeEven_31 rfl (lv_at hl 2 rfl) ?_
          refine z_iload F (pc := 32) dX2_placeEven_32 (lv_at hl 0 rfl) ?_
          refine z_iadd F (pc := 34) dX2_placeEven_34 ?_
          refine z_icmp_gt F (pc := 35) 105 dX2_placeEven_35 (by decide) (by omega) (fun c_35 => ?_) (fun c_35 => ?_)
          · skip
            refine z_iloadn F (pc := 105) dX2_placeEven_105 rfl (lv_at hl 2 rfl) ?_
            refine z_iload F (pc := 106) dX2_placeEven_106 (lv_at hl 0 rfl) ?_
            refine z_iadd F (pc := 108) dX2_placeEven_108 ?_
            refine z_istoren F (pc := 109) hl (lv' := [(3, .int (iI (a + (7 * (dr xs ys lf q))))), (5, .int (iI (7 * (dr xs ys lf q)))), (4, .int (iI q)), (0, .ref (aD 0)), (1, .int (iI i)), (2, .int (iI g))]) dX2_placeEven_109 rfl (by decide) rfl (fun ls hl => ?_)
            refine z_iinc F (pc := 110) hl (lv' := [(4, .int (iI (q + 1))), (3, .int (iI (a + (7 * (dr xs ys lf q))))), (5, .int (iI (7 * (dr xs ys lf q)))), (0, .ref (aD 0)), (1, .int (iI i)), (2, .int (iI g))]) dX2_placeEven_110 (k := 2) rfl (by decide) rfl (fun ls hl => ?_)
            refine z_goto F (pc := 113) 5 dX2_placeEven_113 (by decide) ?_
            exact ih_5 (a + (7 * (dr xs ys lf q))) (q + 1) _ _ _ (by omega) (by omega) (by rw [wy_s xs ys lf h1.1]; omega) (by rw [wy_s xs ys lf h1.1]; omega) (by intro j j1 j2; (by_cases e : j = q) <;> first | (rw [e]; omega) | exact h4 j j1 (by omega)) (lv_sub hl [0, 1, 3, 4, 5] rfl) hW
          · skip
            have hE : isEv xs ys lf sz g q := ⟨by omega, by omega, by omega, h4⟩
            refine z_aloadn F (pc := 38) dX2_placeEven_38 rfl (lv_at hl 3 rfl) ?_
            refine z_get F (pc := 39) (C := RX2) (T := TX2) (N := 6) (ci := 2) inX2 hK hW 0 3 rfl rfl (by decide) rfl (List.mem_of_getElem? (i := 2) rfl) (v := .ref (aD 4)) rfl dX2_placeEven_39 ?_
            refine z_iconst F (pc := 42) (2) dX2_placeEven_42 ?_
            refine z_iloadn F (pc := 43) dX2_placeEven_43 rfl (lv_at hl 4 rfl) ?_
            refine z_imul F (pc := 44) dX2_placeEven_44 ?_
            refine z_aloadn F (pc := 45) dX2_placeEven_45 rfl (lv_at hl 3 rfl) ?_
            refine z_get F (pc := 46) (C := RX2) (T := TX2) (N := 6) (ci := 2) inX2 hK hW 0 0 rfl rfl (by decide) rfl (List.mem_of_getElem? (i := 3) rfl) (v := .ref (aD 1)) rfl dX2_placeEven_46 ?_
            refine z_iload F (pc := 49) dX2_placeEven_49 (lv_at hl 1 rfl) ?_
            refine z_iconst F (pc := 51) (1) dX2_placeEven_51 ?_
            refine z_isub F (pc := 52) dX2_placeEven_52 ?_
            refine z_iald F (pc := 53) hK hW 1 rfl (by decide) dX2_placeEven_53 (by omega) ?_
            refine z_aloadn F (pc := 54) dX2_placeEven_54 rfl (lv_at hl 3 rfl) ?_
            refine z_get F (pc := 55) (C := RX2) (T := TX2) (N := 6) (ci := 2) inX2 hK hW 0 0 rfl rfl (by decide) rfl (List.mem_of_getElem? (i := 3) rfl) (v := .ref (aD 1)) rfl dX2_placeEven_55 ?_
            refine z_iload F (pc := 58) dX2_placeEven_58 (lv_at hl 1 rfl) ?_
            refine z_iald F (pc := 60) hK hW 1 rfl (by decide) dX2_placeEven_60 (by omega) ?_
            refine z_iloadn F (pc := 61) dX2_placeEven_61 rfl (lv_at hl 5 rfl) ?_
            refine z_iloadn F (pc := 62) dX2_placeEven_62 rfl (lv_at hl 2 rfl) ?_
            refine z_isub F (pc := 63) dX2_placeEven_63 ?_
            refine z_iload F (pc := 64) dX2_placeEven_64 (lv_at hl 0 rfl) ?_
            refine z_callSi F (pc := 66) hK hW hA (As := [.int (iI (xs (q - 1))), .int (iI (xs q)), .int (iI (g - a)), .int (iI (7 * (dr xs ys lf q)))]) (rest := [.int (iI (2 * i)), .ref (aD 4)]) (c_X2_partWay l D cI cZ (xs (q - 1)) (xs q) (g - a) (7 * (dr xs ys lf q)) _ (by omega) (by omega) (by omega) (by omega) (by omega) (by omega) (by omega) (by omega)) (va_cwS 4 F.2.2.2.2 gX2_placeEven_X2_partWay rfl rfl rfl (by decide +kernel) ⟨Nat.le_of_ble_eq_true rfl, Nat.le_of_ble_eq_true rfl⟩) rfl rfl hl.1 (Nat.le_of_ble_eq_true rfl) dX2_placeEven_66 ⟨Nat.le_of_ble_eq_true rfl, Nat.le_of_ble_eq_true rfl⟩ (fun z_66 H locs r_z_66 hp_66 hW => ?_)
            replace hp_66 := hp_66.symm
            subst hp_66
            refine z_eqi (y := pE xs ys lf xs g q) (by unfold pE; rw [h2]) ?_
            refine z_iast F (pc := 69) hK hW (ws' := wD cI cZ aD xs ys lf (zU ev (2 * i) (pE xs ys lf xs g q)) nm sz) 4 rfl (by decide) dX2_placeEven_69 (by omega) rfl (fun H locs hW => ?_)
            refine z_aloadn F (pc := 70) dX2_placeEven_70 rfl (lv_at hl 3 rfl) ?_
            refine z_get F (pc := 71) (C := RX2) (T := TX2) (N := 6) (ci := 2) inX2 hK hW 0 3 rfl rfl (by decide) rfl (List.mem_of_getElem? (i := 2) rfl) (v := .ref (aD 4)) rfl dX2_placeEven_71 ?_
            refine z_iconst F (pc := 74) (2) dX2_placeEven_74 ?_
            refine z_iloadn F (pc := 75) dX2_placeEven_75 rfl (lv_at hl 4 rfl) ?_
            refine z_imul F (pc := 76) dX2_placeEven_76 ?_
            refine z_iconst F (pc := 77) (1) dX2_placeEven_77 ?_
            refine z_iadd F (pc := 78) dX2_placeEven_78 ?_
            refine z_aloadn F (pc := 79) dX2_placeEven_79 rfl (lv_at hl 3 rfl) ?_
            refine z_get F (pc := 80) (C := RX2) (T := TX2) (N := 6) (ci := 2) inX2 hK hW 0 1 rfl rfl (by decide) rfl (List.mem_of_getElem? (i := 4) rfl) (v := .ref (aD 2)) rfl dX2_placeEven_80 ?_
            refine z_iload F (pc := 83) dX2_placeEven_83 (lv_at hl 1 rfl) ?_
            refine z_iconst F (pc := 85) (1) dX2_placeEven_85 ?_
            refine z_isub F (pc := 86) dX2_placeEven_86 ?_
            refine z_iald F (pc := 87) hK hW 2 rfl (by decide) dX2_placeEven_87 (by omega) ?_
            refine z_aloadn F (pc := 88) dX2_placeEven_88 rfl (lv_at hl 3 rfl) ?_
            refine z_get F (pc := 89) (C := RX2) (T := TX2) (N := 6) (ci := 2) inX2 hK hW 0 1 rfl rfl (by decide) rfl (List.mem_of_getElem? (i := 4) rfl) (v := .ref (aD 2)) rfl dX2_placeEven_89 ?_
            refine z_iload F (pc := 92) dX2_placeEven_92 (lv_at hl 1 rfl) ?_
            refine z_iald F (pc := 94) hK hW 2 rfl (by decide) dX2_placeEven_94 (by omega) ?_
            refine z_iloadn F (pc := 95) dX2_placeEven_95 rfl (lv_at hl 5 rfl) ?_
            refine z_iloadn F (pc := 96) dX2_placeEven_96 rfl (lv_at hl 2 rfl) ?_
            refine z_isub F (pc := 97) dX2_placeEven_97 ?_
            refine z_iload F (pc := 98) dX2_placeEven_98 (lv_at hl 0 rfl) ?_
            refine z_callSi F (pc := 100) hK hW hA (As := [.int (iI (ys (q - 1))), .int (iI (ys q)), .int (iI (g - a)), .int (iI (7 * (dr xs ys lf q)))]) (rest := [.int (iI ((2 * i) + 1)), .ref (aD 4)]) (c_X2_partWay l D cI cZ (ys (q - 1)) (ys q) (g - a) (7 * (dr xs ys lf q)) _ (by omega) (by omega) (by omega) (by omega) (by omega) (by omega) (by omega) (by omega)) (va_cwS 4 F.2.2.2.2 gX2_placeEven_X2_partWay rfl rfl rfl (by decide +kernel) ⟨Nat.le_of_ble_eq_true rfl, Nat.le_of_ble_eq_true rfl⟩) rfl rfl hl.1 (Nat.le_of_ble_eq_true rfl) dX2_placeEven_100 ⟨Nat.le_of_ble_eq_true rfl, Nat.le_of_ble_eq_true rfl⟩ (fun z_100 H locs r_z_100 hp_100 hW => ?_)
            replace hp_100 := hp_100.symm
            subst hp_100
            refine z_eqi (y := pE xs ys lf ys g q) (by unfold pE; rw [h2]) ?_
            refine z_iast F (pc := 103) hK hW (ws' := wD cI cZ aD xs ys lf (zU (zU ev (2 * i) (pE xs ys lf xs g q)) ((2 * i) + 1) (pE xs ys lf ys g q)) nm sz) 4 rfl (by decide) dX2_placeEven_103 (by omega) rfl (fun H locs hW => ?_)
            exact hret _ _ _ _ ((zU (zU ev (2 * i) (pE xs ys lf xs g q)) ((2 * i) + 1) (pE xs ys lf ys g q)), q) dX2_placeEven_104 (by (try dsimp only) <;> (exact ⟨hE, rfl⟩)) hW
  exact cut_5 _ 0 1 _ _ _ (Nat.lt_succ_self _) (by omega) (by rw [wy_0 xs ys lf (by omega)]; omega) (by right; exact wy_0 xs ys lf (by omega)) (by intro j j1 j2; omega) (lv_sub hl [0, 1, 2, 3, 4] rfl) hW
