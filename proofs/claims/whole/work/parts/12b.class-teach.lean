def evenP (xs ys lf : Int → Int) (sz i w r : Int) : Prop := (¬ (¬ wy xs ys lf sz = 0 ∧ (0 ≤ i ∧ i ≤ 7) ∧ (0 ≤ w ∧ w ≤ 1)) ∧ r = 1000000) ∨ ((¬ wy xs ys lf sz = 0 ∧ (0 ≤ i ∧ i ≤ 7) ∧ (0 ≤ w ∧ w ≤ 1)) ∧ ∃ e, Ev xs ys lf sz e ∧ r = e (2 * i + w))
def normalP (xs ys lf : Int → Int) (sz i w r : Int) : Prop := (¬ (¬ wy xs ys lf sz = 0 ∧ (0 ≤ i ∧ i ≤ 7) ∧ (0 ≤ w ∧ w ≤ 1)) ∧ r = 1000000) ∨ ((¬ wy xs ys lf sz = 0 ∧ (0 ≤ i ∧ i ≤ 7) ∧ (0 ≤ w ∧ w ≤ 1)) ∧ ∃ e, NmOf xs ys lf sz e ∧ r = e (2 * i + w))

set_option maxHeartbeats 4000000 in
set_option maxRecDepth 100000 in
theorem c_X8_even (l : Launch) (D : va_G) (cI cZ : ClassId) (aR : Nat → Nat) (xs ys lf ev nm lb kd pt so nu al ak ap he le rw cx cr cl ll tl ts tc : Int → Int) (sz mn ac en mg ln cn wc wp : Int) (i w : Int) (sz0 : Nat) (r_i : (-2147483648 ≤ i ∧ i < 2147483648)) (r_w : (-2147483648 ≤ w ∧ w < 2147483648)) (hd : Dok xs ys lf sz) : Met l yX8_even wsX8_even ({ frames := 4, cells := 0, slots := 0, locals := 90 } : Room) (zPc D cI cZ [.ref (aR 0), .int (iI i), .int (iI w)] (wR cI cZ aR xs ys lf ev nm lb kd pt so nu al ak ap he le rw cx cr cl ll tl ts tc sz mn ac en mg ln cn wc wp) sz0) (zQi D cI cZ (wR cI cZ aR xs ys lf ev nm lb kd pt so nu al ak ap he le rw cx cr cl ll tl ts tc sz mn ac en mg ln cn wc wp) sz0 (fun (r : Int) (u : (Int → Int)) => evenP xs ys lf sz i w r) (fun (u : (Int → Int)) => wR cI cZ aR xs ys lf u nm lb kd pt so nu al ak ap he le rw cx cr cl ll tl ts tc sz mn ac en mg ln cn wc wp)) 0 0 (va_A (wR cI cZ aR xs ys lf ev nm lb kd pt so nu al ak ap he le rw cx cr cl ll tl ts tc sz mn ac en mg ln cn wc wp) sz0) := by
  have hww := wy_r hd (q := sz) (Int.le_refl _)
  refine z_ofI (maxL := 3) (plainFor_of_name (by decide)) rfl (Nat.le_of_ble_eq_true rfl) (Or.inl rfl) ?_
  intro p e s m below meth c A ls Q F hK hW hA hl hret
  have hl : lv_has ls 3 [(0, .ref (aR 0)), (1, .int (iI i)), (2, .int (iI w))] := hl
  have inX8 : ∀ w ∈ u_ws RX8 TX8 32, w ∈ wsX8_even := fun _ h => List.mem_cons_of_mem _ (List.mem_append_right _ h)
  refine z_aloadn F (pc := 0) dX8_even_0 rfl (lv_at hl 0 rfl) ?_
  refine z_callVi F (pc := 1) hK hW hA (As := []) (rest := []) (ws' := fun (u : Unit) => wR cI cZ aR xs ys lf ev nm lb kd pt so nu al ak ap he le rw cx cr cl ll tl ts tc sz mn ac en mg ln cn wc wp) (wr := ([])) (c_X8_way l D cI cZ aR xs ys lf ev nm lb kd pt so nu al ak ap he le rw cx cr cl ll tl ts tc sz mn ac en mg ln cn wc wp _ (by exact hd)) (cwV 0 F.2.2.2.2 gX8_even_X8_way rfl rfl rfl (by decide +kernel) ⟨Nat.le_of_ble_eq_true rfl, Nat.le_of_ble_eq_true rfl⟩) [0, 1, 2, 3, 4, 5, 6, 7, 8, 9, 10, 11, 12, 13, 14, 15, 16, 17, 18, 19, 20, 21, 22, 23] [] [0, 1, 2, 3, 4, 5, 6, 7, 8, 9, 10, 11, 12, 13, 14, 15, 16, 17, 18, 19, 20, 21, 22, 23] rfl rfl (by decide) (by decide) (by decide) (fun _ => rfl) (by decide) (q0 := 0) (ci := 8) rfl rfl rfl rfl rfl hl.1 (Nat.le_of_ble_eq_true rfl) dX8_even_1 ⟨Nat.le_of_ble_eq_true rfl, Nat.le_of_ble_eq_true rfl⟩ (fun z_1 u H locs r_z_1 hp_1 hW => ?_)
  replace hp_1 := hp_1.symm
  subst hp_1
  refine z_if_eq F (pc := 4) 29 dX8_even_4 (by decide) (by omega) (fun c_4 => ?_) (fun c_4 => ?_)
  · skip
    refine z_ldc F (pc := 29) (1000000) (by decide +kernel) (List.mem_of_getElem? (i := 2) rfl) dX8_even_29 ?_
    exact hret _ _ _ _ 1000000 ev dX8_even_31 (by omega) (by exact Or.inl ⟨by omega, rfl⟩) hW
  · skip
    refine z_iloadn F (pc := 7) dX8_even_7 rfl (lv_at hl 1 rfl) ?_
    refine z_i2l F (pc := 8) dX8_even_8 (by omega) ?_
    refine z_lconst F (pc := 9) (0) (by decide +kernel) dX8_even_9 ?_
    refine z_ldc2 F (pc := 10) (7) (by decide +kernel) (List.mem_of_getElem? (i := 1) rfl) dX8_even_10 ?_
    refine z_callSi F (pc := 13) hK hW hA (As := [.long (lI i), .long (lI 0), .long (lI 7)]) (rest := []) (c_X8_in l D cI cZ i 0 7 _ (by omega) (by omega) (by omega)) (va_cwS 3 F.2.2.2.2 gX8_even_X8_in rfl rfl rfl (by decide +kernel) ⟨Nat.le_of_ble_eq_true rfl, Nat.le_of_ble_eq_true rfl⟩) rfl rfl hl.1 (Nat.le_of_ble_eq_true rfl) dX8_even_13 ⟨Nat.le_of_ble_eq_true rfl, Nat.le_of_ble_eq_true rfl⟩ (fun z_13 H locs r_z_13 hp_13 hW => ?_)
    refine z_if_eq F (pc := 16) 29 dX8_even_16 (by decide) (by omega) (fun c_16 => ?_) (fun c_16 => ?_)
    · skip
      have b_16 := zB_f hp_13 c_16
      refine z_ldc F (pc := 29) (1000000) (by decide +kernel) (List.mem_of_getElem? (i := 2) rfl) dX8_even_29 ?_
      exact hret _ _ _ _ 1000000 ev dX8_even_31 (by omega) (by exact Or.inl ⟨by omega, rfl⟩) hW
    · skip
      have b_16 := zB_t hp_13 c_16
      refine z_iloadn F (pc := 19) dX8_even_19 rfl (lv_at hl 2 rfl) ?_
      refine z_i2l F (pc := 20) dX8_even_20 (by omega) ?_
      refine z_lconst F (pc := 21) (0) (by decide +kernel) dX8_even_21 ?_
      refine z_lconst F (pc := 22) (1) (by decide +kernel) dX8_even_22 ?_
      refine z_callSi F (pc := 23) hK hW hA (As := [.long (lI w), .long (lI 0), .long (lI 1)]) (rest := []) (c_X8_in l D cI cZ w 0 1 _ (by omega) (by omega) (by omega)) (va_cwS 3 F.2.2.2.2 gX8_even_X8_in rfl rfl rfl (by decide +kernel) ⟨Nat.le_of_ble_eq_true rfl, Nat.le_of_ble_eq_true rfl⟩) rfl rfl hl.1 (Nat.le_of_ble_eq_true rfl) dX8_even_23 ⟨Nat.le_of_ble_eq_true rfl, Nat.le_of_ble_eq_true rfl⟩ (fun z_23 H locs r_z_23 hp_23 hW => ?_)
      refine z_if_ne F (pc := 26) 32 dX8_even_26 (by decide) (by omega) (fun c_26 => ?_) (fun c_26 => ?_)
      · skip
        have b_26 := zB_t hp_23 c_26
        refine z_aloadn F (pc := 32) dX8_even_32 rfl (lv_at hl 0 rfl) ?_
        refine z_callVv F (pc := 33) hK hW hA (As := []) (rest := []) (ws' := fun (u : (Int → Int)) => wR cI cZ aR xs ys lf u nm lb kd pt so nu al ak ap he le rw cx cr cl ll tl ts tc sz mn ac en mg ln cn wc wp) (wr := ([])) (c_X8_findEvens l D cI cZ aR xs ys lf ev nm lb kd pt so nu al ak ap he le rw cx cr cl ll tl ts tc sz mn ac en mg ln cn wc wp _ (by exact hd) (by omega)) (cwV 0 F.2.2.2.2 gX8_even_X8_findEvens rfl rfl rfl (by decide +kernel) ⟨Nat.le_of_ble_eq_true rfl, Nat.le_of_ble_eq_true rfl⟩) [0, 1, 2, 3, 4, 5, 6, 7, 8, 9, 10, 11, 12, 13, 14, 15, 16, 17, 18, 19, 20, 21, 22, 23] [] [0, 1, 2, 3, 4, 5, 6, 7, 8, 9, 10, 11, 12, 13, 14, 15, 16, 17, 18, 19, 20, 21, 22, 23] rfl rfl (by decide) (by decide) (by decide) (fun _ => rfl) (by decide) (q0 := 0) (ci := 8) rfl rfl rfl rfl rfl hl.1 (Nat.le_of_ble_eq_true rfl) dX8_even_33 ⟨Nat.le_of_ble_eq_true rfl, Nat.le_of_ble_eq_true rfl⟩ (fun u H locs hp_33 hW => ?_)
        obtain ⟨ev2_33, rfl⟩ : ∃ v, v = u := ⟨_, rfl⟩
        have hb := Ev_b hd hp_33 (2 * i + w) (by omega) (by omega)
        refine z_aloadn F (pc := 36) dX8_even_36 rfl (lv_at hl 0 rfl) ?_
        refine z_get F (pc := 37) (C := RX8) (T := TX8) (N := 32) (ci := 8) inX8 hK hW 0 4 rfl rfl (by decide) rfl (List.mem_of_getElem? (i := 3) rfl) (v := .ref (aR 4)) rfl dX8_even_37 ?_
        refine z_iconst F (pc := 40) (2) dX8_even_40 ?_
        refine z_iloadn F (pc := 41) dX8_even_41 rfl (lv_at hl 1 rfl) ?_
        refine z_imul F (pc := 42) dX8_even_42 ?_
        refine z_iloadn F (pc := 43) dX8_even_43 rfl (lv_at hl 2 rfl) ?_
        refine z_iadd F (pc := 44) dX8_even_44 ?_
        refine z_iald F (pc := 45) hK hW 4 rfl (by decide) dX8_even_45 (by omega) ?_
        exact hret _ _ _ _ (ev2_33 ((2 * i) + w)) ev2_33 dX8_even_46 (by omega) (by exact Or.inr ⟨by omega, _, hp_33, rfl⟩) hW
      · skip
        have b_26 := zB_f hp_23 c_26
        refine z_ldc F (pc := 29) (1000000) (by decide +kernel) (List.mem_of_getElem? (i := 2) rfl) dX8_even_29 ?_
        exact hret _ _ _ _ 1000000 ev dX8_even_31 (by omega) (by exact Or.inl ⟨by omega, rfl⟩) hW

set_option maxHeartbeats 4000000 in
set_option maxRecDepth 100000 in
theorem c_X8_normal (l : Launch) (D : va_G) (cI cZ : ClassId) (aR : Nat → Nat) (xs ys lf ev nm lb kd pt so nu al ak ap he le rw cx cr cl ll tl ts tc : Int → Int) (sz mn ac en mg ln cn wc wp : Int) (i w : Int) (sz0 : Nat) (r_i : (-2147483648 ≤ i ∧ i < 2147483648)) (r_w : (-2147483648 ≤ w ∧ w < 2147483648)) (hd : Dok xs ys lf sz) : Met l yX8_normal wsX8_normal ({ frames := 5, cells := 0, slots := 0, locals := 116 } : Room) (zPc D cI cZ [.ref (aR 0), .int (iI i), .int (iI w)] (wR cI cZ aR xs ys lf ev nm lb kd pt so nu al ak ap he le rw cx cr cl ll tl ts tc sz mn ac en mg ln cn wc wp) sz0) (zQi D cI cZ (wR cI cZ aR xs ys lf ev nm lb kd pt so nu al ak ap he le rw cx cr cl ll tl ts tc sz mn ac en mg ln cn wc wp) sz0 (fun (r : Int) (u : (Int → Int) × (Int → Int)) => normalP xs ys lf sz i w r) (fun (u : (Int → Int) × (Int → Int)) => wR cI cZ aR xs ys lf u.1 u.2 lb kd pt so nu al ak ap he le rw cx cr cl ll tl ts tc sz mn ac en mg ln cn wc wp)) 0 0 (va_A (wR cI cZ aR xs ys lf ev nm lb kd pt so nu al ak ap he le rw cx cr cl ll tl ts tc sz mn ac en mg ln cn wc wp) sz0) := by
  have hww := wy_r hd (q := sz) (Int.le_refl _)
  refine z_ofI (maxL := 3) (plainFor_of_name (by decide)) rfl (Nat.le_of_ble_eq_true rfl) (Or.inl rfl) ?_
  intro p e s m below meth c A ls Q F hK hW hA hl hret
  have hl : lv_has ls 3 [(0, .ref (aR 0)), (1, .int (iI i)), (2, .int (iI w))] := hl
  have inX8 : ∀ w ∈ u_ws RX8 TX8 32, w ∈ wsX8_normal := fun _ h => List.mem_cons_of_mem _ (List.mem_append_right _ h)
  refine z_aloadn F (pc := 0) dX8_normal_0 rfl (lv_at hl 0 rfl) ?_
  refine z_callVi F (pc := 1) hK hW hA (As := []) (rest := []) (ws' := fun (u : Unit) => wR cI cZ aR xs ys lf ev nm lb kd pt so nu al ak ap he le rw cx cr cl ll tl ts tc sz mn ac en mg ln cn wc wp) (wr := ([])) (c_X8_way l D cI cZ aR xs ys lf ev nm lb kd pt so nu al ak ap he le rw cx cr cl ll tl ts tc sz mn ac en mg ln cn wc wp _ (by exact hd)) (cwV 0 F.2.2.2.2 gX8_normal_X8_way rfl rfl rfl (by decide +kernel) ⟨Nat.le_of_ble_eq_true rfl, Nat.le_of_ble_eq_true rfl⟩) [0, 1, 2, 3, 4, 5, 6, 7, 8, 9, 10, 11, 12, 13, 14, 15, 16, 17, 18, 19, 20, 21, 22, 23] [] [0, 1, 2, 3, 4, 5, 6, 7, 8, 9, 10, 11, 12, 13, 14, 15, 16, 17, 18, 19, 20, 21, 22, 23] rfl rfl (by decide) (by decide) (by decide) (fun _ => rfl) (by decide) (q0 := 0) (ci := 8) rfl rfl rfl rfl rfl hl.1 (Nat.le_of_ble_eq_true rfl) dX8_normal_1 ⟨Nat.le_of_ble_eq_true rfl, Nat.le_of_ble_eq_true rfl⟩ (fun z_1 u H locs r_z_1 hp_1 hW => ?_)
  replace hp_1 := hp_1.symm
  subst hp_1
  refine z_if_eq F (pc := 4) 29 dX8_normal_4 (by decide) (by omega) (fun c_4 => ?_) (fun c_4 => ?_)
  · skip
    refine z_ldc F (pc := 29) (1000000) (by decide +kernel) (List.mem_of_getElem? (i := 2) rfl) dX8_normal_29 ?_
    exact hret _ _ _ _ 1000000 (ev, nm) dX8_normal_31 (by omega) (by (try dsimp only) <;> (exact Or.inl ⟨by omega, rfl⟩)) hW
  · skip
    refine z_iloadn F (pc := 7) dX8_normal_7 rfl (lv_at hl 1 rfl) ?_
    refine z_i2l F (pc := 8) dX8_normal_8 (by omega) ?_
    refine z_lconst F (pc := 9) (0) (by decide +kernel) dX8_normal_9 ?_
    refine z_ldc2 F (pc := 10) (7) (by decide +kernel) (List.mem_of_getElem? (i := 1) rfl) dX8_normal_10 ?_
    refine z_callSi F (pc := 13) hK hW hA (As := [.long (lI i), .long (lI 0), .long (lI 7)]) (rest := []) (c_X8_in l D cI cZ i 0 7 _ (by omega) (by omega) (by omega)) (va_cwS 3 F.2.2.2.2 gX8_normal_X8_in rfl rfl rfl (by decide +kernel) ⟨Nat.le_of_ble_eq_true rfl, Nat.le_of_ble_eq_true rfl⟩) rfl rfl hl.1 (Nat.le_of_ble_eq_true rfl) dX8_normal_13 ⟨Nat.le_of_ble_eq_true rfl, Nat.le_of_ble_eq_true rfl⟩ (fun z_13 H locs r_z_13 hp_13 hW => ?_)
    refine z_if_eq F (pc := 16) 29 dX8_normal_16 (by decide) (by omega) (fun c_16 => ?_) (fun c_16 => ?_)
    · skip
      have b_16 := zB_f hp_13 c_16
      refine z_ldc F (pc := 29) (1000000) (by decide +kernel) (List.mem_of_getElem? (i := 2) rfl) dX8_normal_29 ?_
      exact hret _ _ _ _ 1000000 (ev, nm) dX8_normal_31 (by omega) (by (try dsimp only) <;> (exact Or.inl ⟨by omega, rfl⟩)) hW
    · skip
      have b_16 := zB_t hp_13 c_16
      refine z_iloadn F (pc := 19) dX8_normal_19 rfl (lv_at hl 2 rfl) ?_
      refine z_i2l F (pc := 20) dX8_normal_20 (by omega) ?_
      refine z_lconst F (pc := 21) (0) (by decide +kernel) dX8_normal_21 ?_
      refine z_lconst F (pc := 22) (1) (by decide +kernel) dX8_normal_22 ?_
      refine z_callSi F (pc := 23) hK hW hA (As := [.long (lI w), .long (lI 0), .long (lI 1)]) (rest := []) (c_X8_in l D cI cZ w 0 1 _ (by omega) (by omega) (by omega)) (va_cwS 3 F.2.2.2.2 gX8_normal_X8_in rfl rfl rfl (by decide +kernel) ⟨Nat.le_of_ble_eq_true rfl, Nat.le_of_ble_eq_true rfl⟩) rfl rfl hl.1 (Nat.le_of_ble_eq_true rfl) dX8_normal_23 ⟨Nat.le_of_ble_eq_true rfl, Nat.le_of_ble_eq_true rfl⟩ (fun z_23 H locs r_z_23 hp_23 hW => ?_)
      refine z_if_ne F (pc := 26) 32 dX8_normal_26 (by decide) (by omega) (fun c_26 => ?_) (fun c_26 => ?_)
      · skip
        have b_26 := zB_t hp_23 c_26
        refine z_aloadn F (pc := 32) dX8_normal_32 rfl (lv_at hl 0 rfl) ?_
        refine z_callVv F (pc := 33) hK hW hA (As := []) (rest := []) (ws' := fun (u : (Int → Int) × (Int → Int)) => wR cI cZ aR xs ys lf u.1 u.2 lb kd pt so nu al ak ap he le rw cx cr cl ll tl ts tc sz mn ac en mg ln cn wc wp) (wr := ([])) (c_X8_findNorms l D cI cZ aR xs ys lf ev nm lb kd pt so nu al ak ap he le rw cx cr cl ll tl ts tc sz mn ac en mg ln cn wc wp _ (by exact hd) (by omega)) (cwV 0 F.2.2.2.2 gX8_normal_X8_findNorms rfl rfl rfl (by decide +kernel) ⟨Nat.le_of_ble_eq_true rfl, Nat.le_of_ble_eq_true rfl⟩) [0, 1, 2, 3, 4, 5, 6, 7, 8, 9, 10, 11, 12, 13, 14, 15, 16, 17, 18, 19, 20, 21, 22, 23] [] [0, 1, 2, 3, 4, 5, 6, 7, 8, 9, 10, 11, 12, 13, 14, 15, 16, 17, 18, 19, 20, 21, 22, 23] rfl rfl (by decide) (by decide) (by decide) (fun _ => rfl) (by decide) (q0 := 0) (ci := 8) rfl rfl rfl rfl rfl hl.1 (Nat.le_of_ble_eq_true rfl) dX8_normal_33 ⟨Nat.le_of_ble_eq_true rfl, Nat.le_of_ble_eq_true rfl⟩ (fun u H locs hp_33 hW => ?_)
        obtain ⟨ev2_33, nm2_33⟩ := u
        dsimp only at hp_33 hW
        have hb := NmOf_b hp_33 (2 * i + w) (by omega) (by omega)
        refine z_aloadn F (pc := 36) dX8_normal_36 rfl (lv_at hl 0 rfl) ?_
        refine z_get F (pc := 37) (C := RX8) (T := TX8) (N := 32) (ci := 8) inX8 hK hW 0 5 rfl rfl (by decide) rfl (List.mem_of_getElem? (i := 3) rfl) (v := .ref (aR 5)) rfl dX8_normal_37 ?_
        refine z_iconst F (pc := 40) (2) dX8_normal_40 ?_
        refine z_iloadn F (pc := 41) dX8_normal_41 rfl (lv_at hl 1 rfl) ?_
        refine z_imul F (pc := 42) dX8_normal_42 ?_
        refine z_iloadn F (pc := 43) dX8_normal_43 rfl (lv_at hl 2 rfl) ?_
        refine z_iadd F (pc := 44) dX8_normal_44 ?_
        refine z_iald F (pc := 45) hK hW 5 rfl (by decide) dX8_normal_45 (by omega) ?_
        exact hret _ _ _ _ (nm2_33 ((2 * i) + w)) (ev2_33, nm2_33) dX8_normal_46 (by omega) (by (try dsimp only) <;> (exact Or.inr ⟨by omega, _, hp_33, rfl⟩)) hW
      · skip
        have b_26 := zB_f hp_23 c_26
        refine z_ldc F (pc := 29) (1000000) (by decide +kernel) (List.mem_of_getElem? (i := 2) rfl) dX8_normal_29 ?_
        exact hret _ _ _ _ 1000000 (ev, nm) dX8_normal_31 (by omega) (by (try dsimp only) <;> (exact Or.inl ⟨by omega, rfl⟩)) hW

set_option maxHeartbeats 4000000 in
set_option maxRecDepth 100000 in
theorem c_X7_point (l : Launch) (D : va_G) (cI cZ : ClassId) (aB aD aM aA aS aC aL aT : Nat → Nat) (di xs ys lf ev nm : Int → Int) (en mg sz : Int) (x y li : Int) (sz0 : Nat) (r_x : (-2147483648 ≤ x ∧ x < 2147483648)) (r_y : (-2147483648 ≤ y ∧ y < 2147483648)) (r_li : (-2147483648 ≤ li ∧ li < 2147483648)) (hd : 0 ≤ sz ∧ sz ≤ 30) (hli : li = 0 ∨ li = 1) : Met l yX7_point wsX7_point ({ frames := 1, cells := 0, slots := 0, locals := 23 } : Room) (zPc D cI cZ [.ref (aB 0), .int (iI x), .int (iI y), .int (iI li)] (wB cI cZ aB aD aM aA aS aC aL aT di en mg ++ wD cI cZ aD xs ys lf ev nm sz) sz0) (zQi D cI cZ (wB cI cZ aB aD aM aA aS aC aL aT di en mg ++ wD cI cZ aD xs ys lf ev nm sz) sz0 (fun (r : Int) (u : (Int → Int) × (Int → Int) × (Int → Int) × (Int)) => addP xs ys lf sz x y li u.1 u.2.1 u.2.2.1 u.2.2.2 r) (fun (u : (Int → Int) × (Int → Int) × (Int → Int) × (Int)) => wB cI cZ aB aD aM aA aS aC aL aT di en mg ++ wD cI cZ aD u.1 u.2.1 u.2.2.1 ev nm u.2.2.2)) 0 0 (va_A (wB cI cZ aB aD aM aA aS aC aL aT di en mg ++ wD cI cZ aD xs ys lf ev nm sz) sz0) := by
  refine z_ofI (maxL := 4) (plainFor_of_name (by decide)) rfl (Nat.le_of_ble_eq_true rfl) (Or.inl rfl) ?_
  intro p e s m below meth c A ls Q F hK hW hA hl hret
  have hl : lv_has ls 4 [(0, .ref (aB 0)), (1, .int (iI x)), (2, .int (iI y)), (3, .int (iI li))] := hl
  have inX7 : ∀ w ∈ u_ws RX7 TX7 10, w ∈ wsX7_point := fun _ h => List.mem_cons_of_mem _ (List.mem_append_left _ (List.mem_append_right _ h))
  refine z_aloadn F (pc := 0) dX7_point_0 rfl (lv_at hl 0 rfl) ?_
  refine z_get F (pc := 1) (C := RX7) (T := TX7) (N := 10) (ci := 7) inX7 hK hW 0 0 rfl rfl (by decide) rfl (List.mem_of_getElem? (i := 1) rfl) (v := .ref (aD 0)) rfl dX7_point_1 ?_
  refine z_iloadn F (pc := 4) dX7_point_4 rfl (lv_at hl 1 rfl) ?_
  refine z_iloadn F (pc := 5) dX7_point_5 rfl (lv_at hl 2 rfl) ?_
  refine z_iloadn F (pc := 6) dX7_point_6 rfl (lv_at hl 3 rfl) ?_
  refine z_callVi F (pc := 7) hK hW hA (As := [.int (iI x), .int (iI y), .int (iI li)]) (rest := []) (ws' := fun (u : (Int → Int) × (Int → Int) × (Int → Int) × (Int)) => wB cI cZ aB aD aM aA aS aC aL aT di en mg ++ wD cI cZ aD u.1 u.2.1 u.2.2.1 ev nm u.2.2.2) (wr := (wB cI cZ aB aD aM aA aS aC aL aT di en mg)) (c_X2_add l D cI cZ aD xs ys lf ev nm sz x y li _ (by omega) (by omega) (by omega) (by omega) (by omega)) (cwV 3 F.2.2.2.2 gX7_point_X2_add rfl rfl rfl (by decide +kernel) ⟨Nat.le_of_ble_eq_true rfl, Nat.le_of_ble_eq_true rfl⟩) [2, 3, 4, 5, 6, 7] [0, 1] [0, 1, 2, 3, 4, 5, 6, 7] rfl rfl (by decide) (by decide) (by decide) (fun _ => rfl) (by decide) (q0 := 2) (ci := 2) rfl rfl rfl rfl rfl hl.1 (Nat.le_of_ble_eq_true rfl) dX7_point_7 ⟨Nat.le_of_ble_eq_true rfl, Nat.le_of_ble_eq_true rfl⟩ (fun z_7 u H locs r_z_7 hp_7 hW => ?_)
  obtain ⟨xs2_7, ys2_7, lf2_7, sz2_7⟩ := u
  dsimp only at hp_7 hW
  exact hret _ _ _ _ z_7 (xs2_7, ys2_7, lf2_7, sz2_7) dX7_point_10 (by omega) (by (try dsimp only) <;> (exact hp_7)) hW

set_option maxHeartbeats 4000000 in
set_option maxRecDepth 100000 in
theorem c_X7_clear (l : Launch) (D : va_G) (cI cZ : ClassId) (aB aD aM aA aS aC aL aT : Nat → Nat) (di xs ys lf ev nm : Int → Int) (en mg sz : Int) (sz0 : Nat) (hd : 0 ≤ sz ∧ sz ≤ 30) : Met l yX7_clear wsX7_clear ({ frames := 1, cells := 0, slots := 0, locals := 21 } : Room) (zPc D cI cZ [.ref (aB 0)] (wB cI cZ aB aD aM aA aS aC aL aT di en mg ++ wD cI cZ aD xs ys lf ev nm sz) sz0) (zQi D cI cZ (wB cI cZ aB aD aM aA aS aC aL aT di en mg ++ wD cI cZ aD xs ys lf ev nm sz) sz0 (fun (r : Int) (u : (Int)) => (r = sz) ∧ (u = 0)) (fun (u : (Int)) => wB cI cZ aB aD aM aA aS aC aL aT di en mg ++ wD cI cZ aD xs ys lf ev nm u)) 0 0 (va_A (wB cI cZ aB aD aM aA aS aC aL aT di en mg ++ wD cI cZ aD xs ys lf ev nm sz) sz0) := by
  refine z_ofI (maxL := 1) (plainFor_of_name (by decide)) rfl (Nat.le_of_ble_eq_true rfl) (Or.inl rfl) ?_
  intro p e s m below meth c A ls Q F hK hW hA hl hret
  have hl : lv_has ls 1 [(0, .ref (aB 0))] := hl
  have inX7 : ∀ w ∈ u_ws RX7 TX7 10, w ∈ wsX7_clear := fun _ h => List.mem_cons_of_mem _ (List.mem_append_left _ (List.mem_append_right _ h))
  refine z_aloadn F (pc := 0) dX7_clear_0 rfl (lv_at hl 0 rfl) ?_
  refine z_get F (pc := 1) (C := RX7) (T := TX7) (N := 10) (ci := 7) inX7 hK hW 0 0 rfl rfl (by decide) rfl (List.mem_of_getElem? (i := 1) rfl) (v := .ref (aD 0)) rfl dX7_clear_1 ?_
  refine z_callVi F (pc := 4) hK hW hA (As := []) (rest := []) (ws' := fun (u : (Int)) => wB cI cZ aB aD aM aA aS aC aL aT di en mg ++ wD cI cZ aD xs ys lf ev nm u) (wr := (wB cI cZ aB aD aM aA aS aC aL aT di en mg)) (c_X2_empty l D cI cZ aD xs ys lf ev nm sz _ (by omega)) (cwV 0 F.2.2.2.2 gX7_clear_X2_empty rfl rfl rfl (by decide +kernel) ⟨Nat.le_of_ble_eq_true rfl, Nat.le_of_ble_eq_true rfl⟩) [2, 3, 4, 5, 6, 7] [0, 1] [0, 1, 2, 3, 4, 5, 6, 7] rfl rfl (by decide) (by decide) (by decide) (fun _ => rfl) (by decide) (q0 := 2) (ci := 2) rfl rfl rfl rfl rfl hl.1 (Nat.le_of_ble_eq_true rfl) dX7_clear_4 ⟨Nat.le_of_ble_eq_true rfl, Nat.le_of_ble_eq_true rfl⟩ (fun z_4 u H locs r_z_4 hp_4 hW => ?_)
  obtain ⟨sz2_4, rfl⟩ : ∃ v, v = u := ⟨_, rfl⟩
  obtain ⟨e_z_4, hp_4⟩ := hp_4
  replace e_z_4 := e_z_4.symm
  subst e_z_4
  exact hret _ _ _ _ sz sz2_4 dX7_clear_7 (by omega) (by exact ⟨rfl, hp_4⟩) hW

set_option maxHeartbeats 4000000 in
set_option maxRecDepth 100000 in
theorem c_X7_way (l : Launch) (D : va_G) (cI cZ : ClassId) (aB aD aM aA aS aC aL aT : Nat → Nat) (di xs ys lf ev nm : Int → Int) (en mg sz : Int) (sz0 : Nat) (hd : Dok xs ys lf sz) : Met l yX7_way wsX7_way ({ frames := 3, cells := 0, slots := 0, locals := 64 } : Room) (zPc D cI cZ [.ref (aB 0)] (wB cI cZ aB aD aM aA aS aC aL aT di en mg ++ wD cI cZ aD xs ys lf ev nm sz) sz0) (zQi D cI cZ (wB cI cZ aB aD aM aA aS aC aL aT di en mg ++ wD cI cZ aD xs ys lf ev nm sz) sz0 (fun (r : Int) (u : Unit) => r = wy xs ys lf sz) (fun (u : Unit) => wB cI cZ aB aD aM aA aS aC aL aT di en mg ++ wD cI cZ aD xs ys lf ev nm sz)) 0 0 (va_A (wB cI cZ aB aD aM aA aS aC aL aT di en mg ++ wD cI cZ aD xs ys lf ev nm sz) sz0) := by
  refine z_ofI (maxL := 1) (plainFor_of_name (by decide)) rfl (Nat.le_of_ble_eq_true rfl) (Or.inl rfl) ?_
  intro p e s m below meth c A ls Q F hK hW hA hl hret
  have hl : lv_has ls 1 [(0, .ref (aB 0))] := hl
  have inX7 : ∀ w ∈ u_ws RX7 TX7 10, w ∈ wsX7_way := fun _ h => List.mem_cons_of_mem _ (List.mem_append_left _ (List.mem_append_right _ h))
  refine z_aloadn F (pc := 0) dX7_way_0 rfl (lv_at hl 0 rfl) ?_
  refine z_get F (pc := 1) (C := RX7) (T := TX7) (N := 10) (ci := 7) inX7 hK hW 0 0 rfl rfl (by decide) rfl (List.mem_of_getElem? (i := 1) rfl) (v := .ref (aD 0)) rfl dX7_way_1 ?_
  refine z_callVi F (pc := 4) hK hW hA (As := []) (rest := []) (ws' := fun (u : Unit) => wB cI cZ aB aD aM aA aS aC aL aT di en mg ++ wD cI cZ aD xs ys lf ev nm sz) (wr := (wB cI cZ aB aD aM aA aS aC aL aT di en mg)) (c_X2_length l D cI cZ aD xs ys lf ev nm sz _ (by exact hd)) (cwV 0 F.2.2.2.2 gX7_way_X2_length rfl rfl rfl (by decide +kernel) ⟨Nat.le_of_ble_eq_true rfl, Nat.le_of_ble_eq_true rfl⟩) [2, 3, 4, 5, 6, 7] [0, 1] [0, 1, 2, 3, 4, 5, 6, 7] rfl rfl (by decide) (by decide) (by decide) (fun _ => rfl) (by decide) (q0 := 2) (ci := 2) rfl rfl rfl rfl rfl hl.1 (Nat.le_of_ble_eq_true rfl) dX7_way_4 ⟨Nat.le_of_ble_eq_true rfl, Nat.le_of_ble_eq_true rfl⟩ (fun z_4 u H locs r_z_4 hp_4 hW => ?_)
  replace hp_4 := hp_4.symm
  subst hp_4
  exact hret _ _ _ _ (wy xs ys lf sz) () dX7_way_7 (by omega) (by rfl) hW

set_option maxHeartbeats 4000000 in
set_option maxRecDepth 100000 in
theorem c_X7_even (l : Launch) (D : va_G) (cI cZ : ClassId) (aB aD aM aA aS aC aL aT : Nat → Nat) (di xs ys lf ev nm : Int → Int) (en mg sz : Int) (i w : Int) (sz0 : Nat) (r_i : (-2147483648 ≤ i ∧ i < 2147483648)) (r_w : (-2147483648 ≤ w ∧ w < 2147483648)) (hd : Dok xs ys lf sz) : Met l yX7_even wsX7_even ({ frames := 4, cells := 0, slots := 0, locals := 92 } : Room) (zPc D cI cZ [.ref (aB 0), .int (iI i), .int (iI w)] (wB cI cZ aB aD aM aA aS aC aL aT di en mg ++ wD cI cZ aD xs ys lf ev nm sz) sz0) (zQi D cI cZ (wB cI cZ aB aD aM aA aS aC aL aT di en mg ++ wD cI cZ aD xs ys lf ev nm sz) sz0 (fun (r : Int) (u : (Int → Int)) => evenP xs ys lf sz i w r) (fun (u : (Int → Int)) => wB cI cZ aB aD aM aA aS aC aL aT di en mg ++ wD cI cZ aD xs ys lf u nm sz)) 0 0 (va_A (wB cI cZ aB aD aM aA aS aC aL aT di en mg ++ wD cI cZ aD xs ys lf ev nm sz) sz0) := by
  refine z_ofI (maxL := 3) (plainFor_of_name (by decide)) rfl (Nat.le_of_ble_eq_true rfl) (Or.inl rfl) ?_
  intro p e s m below meth c A ls Q F hK hW hA hl hret
  have hl : lv_has ls 3 [(0, .ref (aB 0)), (1, .int (iI i)), (2, .int (iI w))] := hl
  have inX2 : ∀ w ∈ u_ws RX2 TX2 6, w ∈ wsX7_even := fun _ h => List.mem_cons_of_mem _ (List.mem_append_right _ h)
  have inX7 : ∀ w ∈ u_ws RX7 TX7 10, w ∈ wsX7_even := fun _ h => List.mem_cons_of_mem _ (List.mem_append_left _ (List.mem_append_right _ h))
  refine z_iloadn F (pc := 0) dX7_even_0 rfl (lv_at hl 1 rfl) ?_
  refine z_bipush F (pc := 1) (7) (by decide +kernel) dX7_even_1 ?_
  refine z_callSi F (pc := 3) hK hW hA (As := [.int (iI i), .int (iI 7)]) (rest := []) (c_X7_isWithin l D cI cZ i 7 _ (by omega) (by omega)) (va_cwS 2 F.2.2.2.2 gX7_even_X7_isWithin rfl rfl rfl (by decide +kernel) ⟨Nat.le_of_ble_eq_true rfl, Nat.le_of_ble_eq_true rfl⟩) rfl rfl hl.1 (Nat.le_of_ble_eq_true rfl) dX7_even_3 ⟨Nat.le_of_ble_eq_true rfl, Nat.le_of_ble_eq_true rfl⟩ (fun z_3 H locs r_z_3 hp_3 hW => ?_)
  refine z_if_eq F (pc := 6) 27 dX7_even_6 (by decide) (by omega) (fun c_6 => ?_) (fun c_6 => ?_)
  · skip
    have b_6 := zB_f hp_3 c_6
    refine z_ldc F (pc := 27) (1000000) (by decide +kernel) (List.mem_of_getElem? (i := 2) rfl) dX7_even_27 ?_
    exact hret _ _ _ _ 1000000 ev dX7_even_29 (by omega) (by exact Or.inl ⟨by omega, rfl⟩) hW
  · skip
    have b_6 := zB_t hp_3 c_6
    refine z_iloadn F (pc := 9) dX7_even_9 rfl (lv_at hl 2 rfl) ?_
    refine z_iconst F (pc := 10) (1) dX7_even_10 ?_
    refine z_callSi F (pc := 11) hK hW hA (As := [.int (iI w), .int (iI 1)]) (rest := []) (c_X7_isWithin l D cI cZ w 1 _ (by omega) (by omega)) (va_cwS 2 F.2.2.2.2 gX7_even_X7_isWithin rfl rfl rfl (by decide +kernel) ⟨Nat.le_of_ble_eq_true rfl, Nat.le_of_ble_eq_true rfl⟩) rfl rfl hl.1 (Nat.le_of_ble_eq_true rfl) dX7_even_11 ⟨Nat.le_of_ble_eq_true rfl, Nat.le_of_ble_eq_true rfl⟩ (fun z_11 H locs r_z_11 hp_11 hW => ?_)
    refine z_if_eq F (pc := 14) 27 dX7_even_14 (by decide) (by omega) (fun c_14 => ?_) (fun c_14 => ?_)
    · skip
      have b_14 := zB_f hp_11 c_14
      refine z_ldc F (pc := 27) (1000000) (by decide +kernel) (List.mem_of_getElem? (i := 2) rfl) dX7_even_27 ?_
      exact hret _ _ _ _ 1000000 ev dX7_even_29 (by omega) (by exact Or.inl ⟨by omega, rfl⟩) hW
    · skip
      have b_14 := zB_t hp_11 c_14
      refine z_aloadn F (pc := 17) dX7_even_17 rfl (lv_at hl 0 rfl) ?_
      refine z_get F (pc := 18) (C := RX7) (T := TX7) (N := 10) (ci := 7) inX7 hK hW 0 0 rfl rfl (by decide) rfl (List.mem_of_getElem? (i := 1) rfl) (v := .ref (aD 0)) rfl dX7_even_18 ?_
      refine z_callVi F (pc := 21) hK hW hA (As := []) (rest := []) (ws' := fun (u : (Int → Int)) => wB cI cZ aB aD aM aA aS aC aL aT di en mg ++ wD cI cZ aD xs ys lf u nm sz) (wr := (wB cI cZ aB aD aM aA aS aC aL aT di en mg)) (c_X2_makeEven l D cI cZ aD xs ys lf ev nm sz _ (by exact hd)) (cwV 0 F.2.2.2.2 gX7_even_X2_makeEven rfl rfl rfl (by decide +kernel) ⟨Nat.le_of_ble_eq_true rfl, Nat.le_of_ble_eq_true rfl⟩) [2, 3, 4, 5, 6, 7] [0, 1] [0, 1, 2, 3, 4, 5, 6, 7] rfl rfl (by decide) (by decide) (by decide) (fun _ => rfl) (by decide) (q0 := 2) (ci := 2) rfl rfl rfl rfl rfl hl.1 (Nat.le_of_ble_eq_true rfl) dX7_even_21 ⟨Nat.le_of_ble_eq_true rfl, Nat.le_of_ble_eq_true rfl⟩ (fun z_21 u H locs r_z_21 hp_21 hW => ?_)
      obtain ⟨ev2_21, rfl⟩ : ∃ v, v = u := ⟨_, rfl⟩
      obtain ⟨hb_21, hp_21⟩ := hp_21
      refine z_if_ne F (pc := 24) 30 dX7_even_24 (by decide) (by omega) (fun c_24 => ?_) (fun c_24 => ?_)
      · skip
        have b_24 := zB_t hb_21 c_24
        have hE := hp_21 (by omega)
        have hb := Ev_b hd hE (2 * i + w) (by omega) (by omega)
        refine z_aloadn F (pc := 30) dX7_even_30 rfl (lv_at hl 0 rfl) ?_
        refine z_get F (pc := 31) (C := RX7) (T := TX7) (N := 10) (ci := 7) inX7 hK hW 0 0 rfl rfl (by decide) rfl (List.mem_of_getElem? (i := 1) rfl) (v := .ref (aD 0)) rfl dX7_even_31 ?_
        refine z_get F (pc := 34) (C := RX2) (T := TX2) (N := 6) (ci := 2) inX2 hK hW 2 3 rfl rfl (by decide) rfl (List.mem_of_getElem? (i := 3) rfl) (v := .ref (aD 4)) rfl dX7_even_34 ?_
        refine z_iconst F (pc := 37) (2) dX7_even_37 ?_
        refine z_iloadn F (pc := 38) dX7_even_38 rfl (lv_at hl 1 rfl) ?_
        refine z_imul F (pc := 39) dX7_even_39 ?_
        refine z_iloadn F (pc := 40) dX7_even_40 rfl (lv_at hl 2 rfl) ?_
        refine z_iadd F (pc := 41) dX7_even_41 ?_
        refine z_iald F (pc := 42) hK hW 6 rfl (by decide) dX7_even_42 (by omega) ?_
        exact hret _ _ _ _ (ev2_21 ((2 * i) + w)) ev2_21 dX7_even_43 (by omega) (by exact Or.inr ⟨by omega, _, hE, rfl⟩) hW
      · skip
        have b_24 := zB_f hb_21 c_24
        refine z_ldc F (pc := 27) (1000000) (by decide +kernel) (List.mem_of_getElem? (i := 2) rfl) dX7_even_27 ?_
        exact hret _ _ _ _ 1000000 ev2_21 dX7_even_29 (by omega) (by exact Or.inl ⟨by omega, rfl⟩) hW

set_option maxHeartbeats 4000000 in
set_option maxRecDepth 100000 in
theorem c_X7_normal (l : Launch) (D : va_G) (cI cZ : ClassId) (aB aD aM aA aS aC aL aT : Nat → Nat) (di xs ys lf ev nm : Int → Int) (en mg sz : Int) (i w : Int) (sz0 : Nat) (r_i : (-2147483648 ≤ i ∧ i < 2147483648)) (r_w : (-2147483648 ≤ w ∧ w < 2147483648)) (hd : Dok xs ys lf sz) : Met l yX7_normal wsX7_normal ({ frames := 5, cells := 0, slots := 0, locals := 114 } : Room) (zPc D cI cZ [.ref (aB 0), .int (iI i), .int (iI w)] (wB cI cZ aB aD aM aA aS aC aL aT di en mg ++ wD cI cZ aD xs ys lf ev nm sz) sz0) (zQi D cI cZ (wB cI cZ aB aD aM aA aS aC aL aT di en mg ++ wD cI cZ aD xs ys lf ev nm sz) sz0 (fun (r : Int) (u : (Int → Int) × (Int → Int)) => normalP xs ys lf sz i w r) (fun (u : (Int → Int) × (Int → Int)) => wB cI cZ aB aD aM aA aS aC aL aT di en mg ++ wD cI cZ aD xs ys lf u.1 u.2 sz)) 0 0 (va_A (wB cI cZ aB aD aM aA aS aC aL aT di en mg ++ wD cI cZ aD xs ys lf ev nm sz) sz0) := by
  refine z_ofI (maxL := 3) (plainFor_of_name (by decide)) rfl (Nat.le_of_ble_eq_true rfl) (Or.inl rfl) ?_
  intro p e s m below meth c A ls Q F hK hW hA hl hret
  have hl : lv_has ls 3 [(0, .ref (aB 0)), (1, .int (iI i)), (2, .int (iI w))] := hl
  have inX2 : ∀ w ∈ u_ws RX2 TX2 6, w ∈ wsX7_normal := fun _ h => List.mem_cons_of_mem _ (List.mem_append_right _ h)
  have inX7 : ∀ w ∈ u_ws RX7 TX7 10, w ∈ wsX7_normal := fun _ h => List.mem_cons_of_mem _ (List.mem_append_left _ (List.mem_append_right _ h))
  refine z_iloadn F (pc := 0) dX7_normal_0 rfl (lv_at hl 1 rfl) ?_
  refine z_bipush F (pc := 1) (7) (by decide +kernel) dX7_normal_1 ?_
  refine z_callSi F (pc := 3) hK hW hA (As := [.int (iI i), .int (iI 7)]) (rest := []) (c_X7_isWithin l D cI cZ i 7 _ (by omega) (by omega)) (va_cwS 2 F.2.2.2.2 gX7_normal_X7_isWithin rfl rfl rfl (by decide +kernel) ⟨Nat.le_of_ble_eq_true rfl, Nat.le_of_ble_eq_true rfl⟩) rfl rfl hl.1 (Nat.le_of_ble_eq_true rfl) dX7_normal_3 ⟨Nat.le_of_ble_eq_true rfl, Nat.le_of_ble_eq_true rfl⟩ (fun z_3 H locs r_z_3 hp_3 hW => ?_)
  refine z_if_eq F (pc := 6) 27 dX7_normal_6 (by decide) (by omega) (fun c_6 => ?_) (fun c_6 => ?_)
  · skip
    have b_6 := zB_f hp_3 c_6
    refine z_ldc F (pc := 27) (1000000) (by decide +kernel) (List.mem_of_getElem? (i := 2) rfl) dX7_normal_27 ?_
    exact hret _ _ _ _ 1000000 (ev, nm) dX7_normal_29 (by omega) (by (try dsimp only) <;> (exact Or.inl ⟨by omega, rfl⟩)) hW
  · skip
    have b_6 := zB_t hp_3 c_6
    refine z_iloadn F (pc := 9) dX7_normal_9 rfl (lv_at hl 2 rfl) ?_
    refine z_iconst F (pc := 10) (1) dX7_normal_10 ?_
    refine z_callSi F (pc := 11) hK hW hA (As := [.int (iI w), .int (iI 1)]) (rest := []) (c_X7_isWithin l D cI cZ w 1 _ (by omega) (by omega)) (va_cwS 2 F.2.2.2.2 gX7_normal_X7_isWithin rfl rfl rfl (by decide +kernel) ⟨Nat.le_of_ble_eq_true rfl, Nat.le_of_ble_eq_true rfl⟩) rfl rfl hl.1 (Nat.le_of_ble_eq_true rfl) dX7_normal_11 ⟨Nat.le_of_ble_eq_true rfl, Nat.le_of_ble_eq_true rfl⟩ (fun z_11 H locs r_z_11 hp_11 hW => ?_)
    refine z_if_eq F (pc := 14) 27 dX7_normal_14 (by decide) (by omega) (fun c_14 => ?_) (fun c_14 => ?_)
    · skip
      have b_14 := zB_f hp_11 c_14
      refine z_ldc F (pc := 27) (1000000) (by decide +kernel) (List.mem_of_getElem? (i := 2) rfl) dX7_normal_27 ?_
      exact hret _ _ _ _ 1000000 (ev, nm) dX7_normal_29 (by omega) (by (try dsimp only) <;> (exact Or.inl ⟨by omega, rfl⟩)) hW
    · skip
      have b_14 := zB_t hp_11 c_14
      refine z_aloadn F (pc := 17) dX7_normal_17 rfl (lv_at hl 0 rfl) ?_
      refine z_get F (pc := 18) (C := RX7) (T := TX7) (N := 10) (ci := 7) inX7 hK hW 0 0 rfl rfl (by decide) rfl (List.mem_of_getElem? (i := 1) rfl) (v := .ref (aD 0)) rfl dX7_normal_18 ?_
      refine z_callVi F (pc := 21) hK hW hA (As := []) (rest := []) (ws' := fun (u : (Int → Int) × (Int → Int)) => wB cI cZ aB aD aM aA aS aC aL aT di en mg ++ wD cI cZ aD xs ys lf u.1 u.2 sz) (wr := (wB cI cZ aB aD aM aA aS aC aL aT di en mg)) (c_X2_makeNormal l D cI cZ aD xs ys lf ev nm sz _ (by exact hd)) (cwV 0 F.2.2.2.2 gX7_normal_X2_makeNormal rfl rfl rfl (by decide +kernel) ⟨Nat.le_of_ble_eq_true rfl, Nat.le_of_ble_eq_true rfl⟩) [2, 3, 4, 5, 6, 7] [0, 1] [0, 1, 2, 3, 4, 5, 6, 7] rfl rfl (by decide) (by decide) (by decide) (fun _ => rfl) (by decide) (q0 := 2) (ci := 2) rfl rfl rfl rfl rfl hl.1 (Nat.le_of_ble_eq_true rfl) dX7_normal_21 ⟨Nat.le_of_ble_eq_true rfl, Nat.le_of_ble_eq_true rfl⟩ (fun z_21 u H locs r_z_21 hp_21 hW => ?_)
      obtain ⟨ev2_21, nm2_21⟩ := u
      dsimp only at hp_21 hW
      obtain ⟨hb_21, hp_21⟩ := hp_21
      refine z_if_ne F (pc := 24) 30 dX7_normal_24 (by decide) (by omega) (fun c_24 => ?_) (fun c_24 => ?_)
      · skip
        have b_24 := zB_t hb_21 c_24
        have hE := hp_21 (by omega)
        have hb := NmOf_b hE (2 * i + w) (by omega) (by omega)
        refine z_aloadn F (pc := 30) dX7_normal_30 rfl (lv_at hl 0 rfl) ?_
        refine z_get F (pc := 31) (C := RX7) (T := TX7) (N := 10) (ci := 7) inX7 hK hW 0 0 rfl rfl (by decide) rfl (List.mem_of_getElem? (i := 1) rfl) (v := .ref (aD 0)) rfl dX7_normal_31 ?_
        refine z_get F (pc := 34) (C := RX2) (T := TX2) (N := 6) (ci := 2) inX2 hK hW 2 4 rfl rfl (by decide) rfl (List.mem_of_getElem? (i := 3) rfl) (v := .ref (aD 5)) rfl dX7_normal_34 ?_
        refine z_iconst F (pc := 37) (2) dX7_normal_37 ?_
        refine z_iloadn F (pc := 38) dX7_normal_38 rfl (lv_at hl 1 rfl) ?_
        refine z_imul F (pc := 39) dX7_normal_39 ?_
        refine z_iloadn F (pc := 40) dX7_normal_40 rfl (lv_at hl 2 rfl) ?_
        refine z_iadd F (pc := 41) dX7_normal_41 ?_
        refine z_iald F (pc := 42) hK hW 7 rfl (by decide) dX7_normal_42 (by omega) ?_
        exact hret _ _ _ _ (nm2_21 ((2 * i) + w)) (ev2_21, nm2_21) dX7_normal_43 (by omega) (by (try dsimp only) <;> (exact Or.inr ⟨by omega, _, hE, rfl⟩)) hW
      · skip
        have b_24 := zB_f hb_21 c_24
        refine z_ldc F (pc := 27) (1000000) (by decide +kernel) (List.mem_of_getElem? (i := 2) rfl) dX7_normal_27 ?_
        exact hret _ _ _ _ 1000000 (ev2_21, nm2_21) dX7_normal_29 (by omega) (by (try dsimp only) <;> (exact Or.inl ⟨by omega, rfl⟩)) hW

set_option maxHeartbeats 4000000 in
set_option maxRecDepth 100000 in
theorem c_X7_teach (l : Launch) (D : va_G) (cI cZ : ClassId) (aB aD aM aA aS aC aL aT : Nat → Nat) (di xs ys lf ev nm lb kd pt so nu al ak ap : Int → Int) (en mg sz mn an ax : Int) (lv q : Int) (sz0 : Nat) (r_lv : (-2147483648 ≤ lv ∧ lv < 2147483648)) (r_q : (-2147483648 ≤ q ∧ q < 2147483648)) (hd : Dok xs ys lf sz) (hm : (0 ≤ mn ∧ mn ≤ 16)) (ha : (0 ≤ an ∧ an ≤ 6) ∧ (0 ≤ ax ∧ ax < 6)) : Met l yX7_teach wsX7_teach ({ frames := 5, cells := 0, slots := 0, locals := 114 } : Room) (zPc D cI cZ [.ref (aB 0), .int (iI lv), .int (iI q)] (wB cI cZ aB aD aM aA aS aC aL aT di en mg ++ wD cI cZ aD xs ys lf ev nm sz ++ wM cI cZ aM lb kd pt mn ++ wA cI cZ aA so nu al ak ap an ax) sz0) (zQi D cI cZ (wB cI cZ aB aD aM aA aS aC aL aT di en mg ++ wD cI cZ aD xs ys lf ev nm sz ++ wM cI cZ aM lb kd pt mn ++ wA cI cZ aA so nu al ak ap an ax) sz0 (fun (r : Int) (u : (Int → Int) × (Int → Int) × (Int → Int) × (Int → Int) × (Int → Int) × (Int) × (Int → Int) × (Int → Int) × (Int → Int) × (Int → Int) × (Int) × (Int)) => zH ((teachNo (wy xs ys lf sz) mn lv q r ∧ u.2.2.1 = lb ∧ u.2.2.2.1 = kd ∧ u.2.2.2.2.1 = pt ∧ u.2.2.2.2.2.1 = mn ∧ u.2.2.2.2.2.2.1 = so ∧ u.2.2.2.2.2.2.2.1 = nu ∧ u.2.2.2.2.2.2.2.2.1 = al ∧ u.2.2.2.2.2.2.2.2.2.1 = ak ∧ u.2.2.2.2.2.2.2.2.2.2.1 = an ∧ u.2.2.2.2.2.2.2.2.2.2.2 = ax) ∨ (teachYes (wy xs ys lf sz) mn lv q r ∧ NmOf xs ys lf sz u.2.1 ∧ u.2.2.1 = zU lb mn lv ∧ u.2.2.2.1 = zU kd mn q ∧ u.2.2.2.2.1 = zC u.2.1 pt 0 (16 * mn) 16 ∧ u.2.2.2.2.2.1 = mn + 1 ∧ u.2.2.2.2.2.2.1 = zU so ax 0 ∧ u.2.2.2.2.2.2.2.1 = zU nu ax mn ∧ u.2.2.2.2.2.2.2.2.1 = zU al ax lv ∧ u.2.2.2.2.2.2.2.2.2.1 = zU ak ax q ∧ u.2.2.2.2.2.2.2.2.2.2.1 = min (an + 1) 6 ∧ u.2.2.2.2.2.2.2.2.2.2.2 = (ax + 1) % 6))) (fun (u : (Int → Int) × (Int → Int) × (Int → Int) × (Int → Int) × (Int → Int) × (Int) × (Int → Int) × (Int → Int) × (Int → Int) × (Int → Int) × (Int) × (Int)) => wB cI cZ aB aD aM aA aS aC aL aT di en mg ++ wD cI cZ aD xs ys lf u.1 u.2.1 sz ++ wM cI cZ aM u.2.2.1 u.2.2.2.1 u.2.2.2.2.1 u.2.2.2.2.2.1 ++ wA cI cZ aA u.2.2.2.2.2.2.1 u.2.2.2.2.2.2.2.1 u.2.2.2.2.2.2.2.2.1 u.2.2.2.2.2.2.2.2.2.1 ap u.2.2.2.2.2.2.2.2.2.2.1 u.2.2.2.2.2.2.2.2.2.2.2)) 0 0 (va_A (wB cI cZ aB aD aM aA aS aC aL aT di en mg ++ wD cI cZ aD xs ys lf ev nm sz ++ wM cI cZ aM lb kd pt mn ++ wA cI cZ aA so nu al ak ap an ax) sz0) := by
  refine z_ofI (maxL := 4) (plainFor_of_name (by decide)) rfl (Nat.le_of_ble_eq_true rfl) (Or.inl rfl) ?_
  intro p e s m below meth c A ls Q F hK hW hA hl hret
  have hl : lv_has ls 4 [(0, .ref (aB 0)), (1, .int (iI lv)), (2, .int (iI q))] := hl
  have inX2 : ∀ w ∈ u_ws RX2 TX2 6, w ∈ wsX7_teach := fun _ h => List.mem_cons_of_mem _ (List.mem_append_left _ (List.mem_append_right _ h))
  have inX6 : ∀ w ∈ u_ws RX6 TX6 4, w ∈ wsX7_teach := fun _ h => List.mem_cons_of_mem _ (List.mem_append_left _ (List.mem_append_left _ (List.mem_append_right _ h)))
  have inX7 : ∀ w ∈ u_ws RX7 TX7 10, w ∈ wsX7_teach := fun _ h => List.mem_cons_of_mem _ (List.mem_append_left _ (List.mem_append_left _ (List.mem_append_left _ (List.mem_append_right _ h))))
  refine z_iloadn F (pc := 0) dX7_teach_0 rfl (lv_at hl 1 rfl) ?_
  refine z_bipush F (pc := 1) (9) (by decide +kernel) dX7_teach_1 ?_
  refine z_callSi F (pc := 3) hK hW hA (As := [.int (iI lv), .int (iI 9)]) (rest := []) (c_X7_isWithin l D cI cZ lv 9 _ (by omega) (by omega)) (va_cwS 2 F.2.2.2.2 gX7_teach_X7_isWithin rfl rfl rfl (by decide +kernel) ⟨Nat.le_of_ble_eq_true rfl, Nat.le_of_ble_eq_true rfl⟩) rfl rfl hl.1 (Nat.le_of_ble_eq_true rfl) dX7_teach_3 ⟨Nat.le_of_ble_eq_true rfl, Nat.le_of_ble_eq_true rfl⟩ (fun z_3 H locs r_z_3 hp_3 hW => ?_)
  refine z_if_eq F (pc := 6) 17 dX7_teach_6 (by decide) (by omega) (fun c_6 => ?_) (fun c_6 => ?_)
  · skip
    have b_6 := zB_f hp_3 c_6
    refine z_iconst F (pc := 17) (-1) dX7_teach_17 ?_
    exact hret _ _ _ _ (-1) (ev, nm, lb, kd, pt, mn, so, nu, al, ak, an, ax) dX7_teach_18 (by omega) (by (try dsimp only) <;> (first | exact Or.inl ⟨by unfold teachNo; omega, rfl, rfl, rfl, rfl, rfl, rfl, rfl, rfl, rfl, rfl⟩)) hW
  · skip
    have b_6 := zB_t hp_3 c_6
    refine z_iloadn F (pc := 9) dX7_teach_9 rfl (lv_at hl 2 rfl) ?_
    refine z_iconst F (pc := 10) (4) dX7_teach_10 ?_
    refine z_callSi F (pc := 11) hK hW hA (As := [.int (iI q), .int (iI 4)]) (rest := []) (c_X7_isWithin l D cI cZ q 4 _ (by omega) (by omega)) (va_cwS 2 F.2.2.2.2 gX7_teach_X7_isWithin rfl rfl rfl (by decide +kernel) ⟨Nat.le_of_ble_eq_true rfl, Nat.le_of_ble_eq_true rfl⟩) rfl rfl hl.1 (Nat.le_of_ble_eq_true rfl) dX7_teach_11 ⟨Nat.le_of_ble_eq_true rfl, Nat.le_of_ble_eq_true rfl⟩ (fun z_11 H locs r_z_11 hp_11 hW => ?_)
    refine z_if_ne F (pc := 14) 19 dX7_teach_14 (by decide) (by omega) (fun c_14 => ?_) (fun c_14 => ?_)
    · skip
      have b_14 := zB_t hp_11 c_14
      refine z_aloadn F (pc := 19) dX7_teach_19 rfl (lv_at hl 0 rfl) ?_
      refine z_get F (pc := 20) (C := RX7) (T := TX7) (N := 10) (ci := 7) inX7 hK hW 0 0 rfl rfl (by decide) rfl (List.mem_of_getElem? (i := 1) rfl) (v := .ref (aD 0)) rfl dX7_teach_20 ?_
      refine z_callVi F (pc := 23) hK hW hA (As := []) (rest := []) (ws' := fun (u : (Int → Int) × (Int → Int)) => wB cI cZ aB aD aM aA aS aC aL aT di en mg ++ wD cI cZ aD xs ys lf u.1 u.2 sz ++ wM cI cZ aM lb kd pt mn ++ wA cI cZ aA so nu al ak ap an ax) (wr := (wB cI cZ aB aD aM aA aS aC aL aT di en mg ++ wM cI cZ aM lb kd pt mn ++ wA cI cZ aA so nu al ak ap an ax)) (c_X2_makeNormal l D cI cZ aD xs ys lf ev nm sz _ (by exact hd)) (cwV 0 F.2.2.2.2 gX7_teach_X2_makeNormal rfl rfl rfl (by decide +kernel) ⟨Nat.le_of_ble_eq_true rfl, Nat.le_of_ble_eq_true rfl⟩) [2, 3, 4, 5, 6, 7] [0, 1, 8, 9, 10, 11, 12, 13, 14, 15, 16, 17] [0, 1, 12, 13, 14, 15, 16, 17, 2, 3, 4, 5, 6, 7, 8, 9, 10, 11] rfl rfl (by decide) (by decide) (by decide) (fun _ => rfl) (by decide) (q0 := 2) (ci := 2) rfl rfl rfl rfl rfl hl.1 (Nat.le_of_ble_eq_true rfl) dX7_teach_23 ⟨Nat.le_of_ble_eq_true rfl, Nat.le_of_ble_eq_true rfl⟩ (fun z_23 u H locs r_z_23 hp_23 hW => ?_)
      obtain ⟨ev2_23, nm2_23⟩ := u
      dsimp only at hp_23 hW
      obtain ⟨hb_23, hp_23⟩ := hp_23
      refine z_if_ne F (pc := 26) 32 dX7_teach_26 (by decide) (by omega) (fun c_26 => ?_) (fun c_26 => ?_)
      · skip
        have b_26 := zB_t hb_23 c_26
        refine z_aloadn F (pc := 32) dX7_teach_32 rfl (lv_at hl 0 rfl) ?_
        refine z_get F (pc := 33) (C := RX7) (T := TX7) (N := 10) (ci := 7) inX7 hK hW 0 1 rfl rfl (by decide) rfl (List.mem_of_getElem? (i := 2) rfl) (v := .ref (aM 0)) rfl dX7_teach_33 ?_
        refine z_get F (pc := 36) (C := RX6) (T := TX6) (N := 4) (ci := 6) inX6 hK hW 8 3 rfl rfl (by decide) rfl (List.mem_of_getElem? (i := 3) rfl) (v := .int (iI mn)) rfl dX7_teach_36 ?_
        refine z_bipush F (pc := 39) (16) (by decide +kernel) dX7_teach_39 ?_
        refine z_icmp_lt F (pc := 41) 47 dX7_teach_41 (by decide) (by omega) (fun c_41 => ?_) (fun c_41 => ?_)
        · skip
          refine z_aloadn F (pc := 47) dX7_teach_47 rfl (lv_at hl 0 rfl) ?_
          refine z_get F (pc := 48) (C := RX7) (T := TX7) (N := 10) (ci := 7) inX7 hK hW 0 1 rfl rfl (by decide) rfl (List.mem_of_getElem? (i := 2) rfl) (v := .ref (aM 0)) rfl dX7_teach_48 ?_
          refine z_get F (pc := 51) (C := RX6) (T := TX6) (N := 4) (ci := 6) inX6 hK hW 8 3 rfl rfl (by decide) rfl (List.mem_of_getElem? (i := 3) rfl) (v := .int (iI mn)) rfl dX7_teach_51 ?_
          refine z_istoren F (pc := 54) hl (lv' := [(3, .int (iI mn)), (0, .ref (aB 0)), (1, .int (iI lv)), (2, .int (iI q))]) dX7_teach_54 rfl (by decide) rfl (fun ls hl => ?_)
          refine z_aloadn F (pc := 55) dX7_teach_55 rfl (lv_at hl 1 rfl) ?_
          refine z_get F (pc := 56) (C := RX7) (T := TX7) (N := 10) (ci := 7) inX7 hK hW 0 1 rfl rfl (by decide) rfl (List.mem_of_getElem? (i := 2) rfl) (v := .ref (aM 0)) rfl dX7_teach_56 ?_
          refine z_iloadn F (pc := 59) dX7_teach_59 rfl (lv_at hl 0 rfl) ?_
          refine z_iloadn F (pc := 60) dX7_teach_60 rfl (lv_at hl 2 rfl) ?_
          refine z_iloadn F (pc := 61) dX7_teach_61 rfl (lv_at hl 3 rfl) ?_
          refine z_aloadn F (pc := 62) dX7_teach_62 rfl (lv_at hl 1 rfl) ?_
          refine z_get F (pc := 63) (C := RX7) (T := TX7) (N := 10) (ci := 7) inX7 hK hW 0 0 rfl rfl (by decide) rfl (List.mem_of_getElem? (i := 1) rfl) (v := .ref (aD 0)) rfl dX7_teach_63 ?_
          refine z_get F (pc := 66) (C := RX2) (T := TX2) (N := 6) (ci := 2) inX2 hK hW 2 4 rfl rfl (by decide) rfl (List.mem_of_getElem? (i := 4) rfl) (v := .ref (aD 5)) rfl dX7_teach_66 ?_
          refine z_iconst F (pc := 69) (0) dX7_teach_69 ?_
          refine z_callVv F (pc := 70) hK hW hA (As := [.int (iI mn), .int (iI lv), .int (iI q), .ref (aD 5), .int (iI 0)]) (rest := []) (ws' := fun (u : (Int → Int) × (Int → Int) × (Int → Int) × (Int)) => wB cI cZ aB aD aM aA aS aC aL aT di en mg ++ wD cI cZ aD xs ys lf ev2_23 nm2_23 sz ++ wM cI cZ aM u.1 u.2.1 u.2.2.1 u.2.2.2 ++ wA cI cZ aA so nu al ak ap an ax) (wr := (wB cI cZ aB aD aM aA aS aC aL aT di en mg ++ wA cI cZ aA so nu al ak ap an ax)) (c_X6_insertD l D cI cZ aM aD lb kd pt xs ys lf ev2_23 nm2_23 mn sz mn lv q 0 _ (by omega) (by omega) (by omega) (by omega) (by omega) (by omega) (by omega)) (cwV 5 F.2.2.2.2 gX7_teach_X6_insert rfl rfl rfl (by decide +kernel) ⟨Nat.le_of_ble_eq_true rfl, Nat.le_of_ble_eq_true rfl⟩) [8, 9, 10, 11, 2, 3, 4, 5, 6, 7] [0, 1, 12, 13, 14, 15, 16, 17] [0, 1, 12, 13, 14, 15, 16, 17, 8, 9, 10, 11, 2, 3, 4, 5, 6, 7] rfl rfl (by decide) (by decide) (by decide) (fun _ => rfl) (by decide) (q0 := 8) (ci := 6) rfl rfl rfl rfl rfl hl.1 (Nat.le_of_ble_eq_true rfl) dX7_teach_70 ⟨Nat.le_of_ble_eq_true rfl, Nat.le_of_ble_eq_true rfl⟩ (fun u H locs hp_70 hW => ?_)
          obtain ⟨lb2_70, kd2_70, pt2_70, mn2_70⟩ := u
          dsimp only at hp_70 hW
          refine z_aloadn F (pc := 73) dX7_teach_73 rfl (lv_at hl 1 rfl) ?_
          refine z_get F (pc := 74) (C := RX7) (T := TX7) (N := 10) (ci := 7) inX7 hK hW 0 2 rfl rfl (by decide) rfl (List.mem_of_getElem? (i := 5) rfl) (v := .ref (aA 0)) rfl dX7_teach_74 ?_
          refine z_iconst F (pc := 77) (0) dX7_teach_77 ?_
          refine z_iloadn F (pc := 78) dX7_teach_78 rfl (lv_at hl 0 rfl) ?_
          refine z_iloadn F (pc := 79) dX7_teach_79 rfl (lv_at hl 2 rfl) ?_
          refine z_iloadn F (pc := 80) dX7_teach_80 rfl (lv_at hl 3 rfl) ?_
          refine z_callVi F (pc := 81) hK hW hA (As := [.int (iI 0), .int (iI mn), .int (iI lv), .int (iI q)]) (rest := []) (ws' := fun (u : (Int → Int) × (Int → Int) × (Int → Int) × (Int → Int) × (Int) × (Int)) => wB cI cZ aB aD aM aA aS aC aL aT di en mg ++ wD cI cZ aD xs ys lf ev2_23 nm2_23 sz ++ wM cI cZ aM lb2_70 kd2_70 pt2_70 mn2_70 ++ wA cI cZ aA u.1 u.2.1 u.2.2.1 u.2.2.2.1 ap u.2.2.2.2.1 u.2.2.2.2.2) (wr := (wB cI cZ aB aD aM aA aS aC aL aT di en mg ++ wD cI cZ aD xs ys lf ev2_23 nm2_23 sz ++ wM cI cZ aM lb2_70 kd2_70 pt2_70 mn2_70)) (c_X0_push l D cI cZ aA so nu al ak ap an ax 0 mn lv q _ (by omega) (by omega) (by omega) (by omega) (by omega)) (cwV 4 F.2.2.2.2 gX7_teach_X0_push rfl rfl rfl (by decide +kernel) ⟨Nat.le_of_ble_eq_true rfl, Nat.le_of_ble_eq_true rfl⟩) [12, 13, 14, 15, 16, 17] [0, 1, 2, 3, 4, 5, 6, 7, 8, 9, 10, 11] [0, 1, 2, 3, 4, 5, 6, 7, 8, 9, 10, 11, 12, 13, 14, 15, 16, 17] rfl rfl (by decide) (by decide) (by decide) (fun _ => rfl) (by decide) (q0 := 12) (ci := 0) rfl rfl rfl rfl rfl hl.1 (Nat.le_of_ble_eq_true rfl) dX7_teach_81 ⟨Nat.le_of_ble_eq_true rfl, Nat.le_of_ble_eq_true rfl⟩ (fun z_81 u H locs r_z_81 hp_81 hW => ?_)
          obtain ⟨so2_81, nu2_81, al2_81, ak2_81, an2_81, ax2_81⟩ := u
          dsimp only at hp_81 hW
          obtain ⟨e_z_81, hp_81⟩ := hp_81
          replace e_z_81 := e_z_81.symm
          subst e_z_81
          refine z_pop F (pc := 84) dX7_teach_84 rfl ?_
          refine z_iloadn F (pc := 85) dX7_teach_85 rfl (lv_at hl 0 rfl) ?_
          exact hret _ _ _ _ mn (ev2_23, nm2_23, lb2_70, kd2_70, pt2_70, mn2_70, so2_81, nu2_81, al2_81, ak2_81, an2_81, ax2_81) dX7_teach_86 (by omega) (by (try dsimp only) <;> (exact Or.inr ⟨by unfold teachYes; omega, hp_23 (by omega), by rw [hp_70.1, insL_end], by rw [hp_70.2.1, insL_end], by rw [hp_70.2.2.1, insP_end], hp_70.2.2.2, hp_81⟩)) hW
        · skip
          refine z_bipush F (pc := 44) (-3) (by decide +kernel) dX7_teach_44 ?_
          exact hret _ _ _ _ (-3) (ev2_23, nm2_23, lb, kd, pt, mn, so, nu, al, ak, an, ax) dX7_teach_46 (by omega) (by (try dsimp only) <;> (first | exact Or.inl ⟨by unfold teachNo; omega, rfl, rfl, rfl, rfl, rfl, rfl, rfl, rfl, rfl, rfl⟩)) hW
      · skip
        have b_26 := zB_f hb_23 c_26
        refine z_bipush F (pc := 29) (-2) (by decide +kernel) dX7_teach_29 ?_
        exact hret _ _ _ _ (-2) (ev2_23, nm2_23, lb, kd, pt, mn, so, nu, al, ak, an, ax) dX7_teach_31 (by omega) (by (try dsimp only) <;> (first | exact Or.inl ⟨by unfold teachNo; omega, rfl, rfl, rfl, rfl, rfl, rfl, rfl, rfl, rfl, rfl⟩)) hW
    · skip
      have b_14 := zB_f hp_11 c_14
      refine z_iconst F (pc := 17) (-1) dX7_teach_17 ?_
      exact hret _ _ _ _ (-1) (ev, nm, lb, kd, pt, mn, so, nu, al, ak, an, ax) dX7_teach_18 (by omega) (by (try dsimp only) <;> (first | exact Or.inl ⟨by unfold teachNo; omega, rfl, rfl, rfl, rfl, rfl, rfl, rfl, rfl, rfl, rfl⟩)) hW

set_option maxHeartbeats 4000000 in
set_option maxRecDepth 100000 in
theorem c_X7_forget (l : Launch) (D : va_G) (cI cZ : ClassId) (aB aD aM aA aS aC aL aT : Nat → Nat) (di lb kd pt so nu al ak ap : Int → Int) (en mg mn an ax : Int) (k : Int) (sz0 : Nat) (r_k : (-2147483648 ≤ k ∧ k < 2147483648)) (hm : (0 ≤ mn ∧ mn ≤ 16)) (ha : (0 ≤ an ∧ an ≤ 6) ∧ (0 ≤ ax ∧ ax < 6)) (hlb : ∀ j, 0 ≤ j → j < mn → (0 ≤ lb j ∧ lb j ≤ 9) ∧ (0 ≤ kd j ∧ kd j ≤ 4)) : Met l yX7_forget wsX7_forget ({ frames := 2, cells := 0, slots := 0, locals := 62 } : Room) (zPc D cI cZ [.ref (aB 0), .int (iI k)] (wB cI cZ aB aD aM aA aS aC aL aT di en mg ++ wM cI cZ aM lb kd pt mn ++ wA cI cZ aA so nu al ak ap an ax) sz0) (zQi D cI cZ (wB cI cZ aB aD aM aA aS aC aL aT di en mg ++ wM cI cZ aM lb kd pt mn ++ wA cI cZ aA so nu al ak ap an ax) sz0 (fun (r : Int) (u : (Int → Int) × (Int → Int) × (Int → Int) × (Int) × (Int → Int) × (Int → Int) × (Int → Int) × (Int → Int) × (Int → Int) × (Int) × (Int)) => zH ((¬ (0 ≤ k ∧ k < mn) ∧ r = -1 ∧ u.1 = lb ∧ u.2.1 = kd ∧ u.2.2.1 = pt ∧ u.2.2.2.1 = mn ∧ u.2.2.2.2.1 = so ∧ u.2.2.2.2.2.1 = nu ∧ u.2.2.2.2.2.2.1 = al ∧ u.2.2.2.2.2.2.2.1 = ak ∧ u.2.2.2.2.2.2.2.2.2.1 = an ∧ u.2.2.2.2.2.2.2.2.2.2 = ax ∧ u.2.2.2.2.2.2.2.2.1 = ap) ∨ ((0 ≤ k ∧ k < mn) ∧ r = lb k ∧ u.1 = delL lb k mn ∧ u.2.1 = delL kd k mn ∧ u.2.2.1 = delP pt k mn ∧ u.2.2.2.1 = mn - 1 ∧ u.2.2.2.2.2.2.2.2.1 = zC pt ap (16 * k) (16 * ax) 16 ∧ u.2.2.2.2.1 = zU so ax 1 ∧ u.2.2.2.2.2.1 = zU nu ax k ∧ u.2.2.2.2.2.2.1 = zU al ax (lb k) ∧ u.2.2.2.2.2.2.2.1 = zU ak ax (kd k) ∧ u.2.2.2.2.2.2.2.2.2.1 = min (an + 1) 6 ∧ u.2.2.2.2.2.2.2.2.2.2 = (ax + 1) % 6))) (fun (u : (Int → Int) × (Int → Int) × (Int → Int) × (Int) × (Int → Int) × (Int → Int) × (Int → Int) × (Int → Int) × (Int → Int) × (Int) × (Int)) => wB cI cZ aB aD aM aA aS aC aL aT di en mg ++ wM cI cZ aM u.1 u.2.1 u.2.2.1 u.2.2.2.1 ++ wA cI cZ aA u.2.2.2.2.1 u.2.2.2.2.2.1 u.2.2.2.2.2.2.1 u.2.2.2.2.2.2.2.1 u.2.2.2.2.2.2.2.2.1 u.2.2.2.2.2.2.2.2.2.1 u.2.2.2.2.2.2.2.2.2.2)) 0 0 (va_A (wB cI cZ aB aD aM aA aS aC aL aT di en mg ++ wM cI cZ aM lb kd pt mn ++ wA cI cZ aA so nu al ak ap an ax) sz0) := by
  refine z_ofI (maxL := 4) (plainFor_of_name (by decide)) rfl (Nat.le_of_ble_eq_true rfl) (Or.inl rfl) ?_
  intro p e s m below meth c A ls Q F hK hW hA hl hret
  have hl : lv_has ls 4 [(0, .ref (aB 0)), (1, .int (iI k))] := hl
  have inX0 : ∀ w ∈ u_ws RX0 TX0 7, w ∈ wsX7_forget := fun _ h => List.mem_cons_of_mem _ (List.mem_append_right _ h)
  have inX6 : ∀ w ∈ u_ws RX6 TX6 4, w ∈ wsX7_forget := fun _ h => List.mem_cons_of_mem _ (List.mem_append_left _ (List.mem_append_right _ h))
  have inX7 : ∀ w ∈ u_ws RX7 TX7 10, w ∈ wsX7_forget := fun _ h => List.mem_cons_of_mem _ (List.mem_append_left _ (List.mem_append_left _ (List.mem_append_right _ h)))
  refine z_aloadn F (pc := 0) dX7_forget_0 rfl (lv_at hl 0 rfl) ?_
  refine z_get F (pc := 1) (C := RX7) (T := TX7) (N := 10) (ci := 7) inX7 hK hW 0 1 rfl rfl (by decide) rfl (List.mem_of_getElem? (i := 1) rfl) (v := .ref (aM 0)) rfl dX7_forget_1 ?_
  refine z_iloadn F (pc := 4) dX7_forget_4 rfl (lv_at hl 1 rfl) ?_
  refine z_callVi F (pc := 5) hK hW hA (As := [.int (iI k)]) (rest := []) (ws' := fun (u : Unit) => wB cI cZ aB aD aM aA aS aC aL aT di en mg ++ wM cI cZ aM lb kd pt mn ++ wA cI cZ aA so nu al ak ap an ax) (wr := (wB cI cZ aB aD aM aA aS aC aL aT di en mg ++ wA cI cZ aA so nu al ak ap an ax)) (c_X6_has l D cI cZ aM lb kd pt mn k _ (by omega) (by omega)) (cwV 1 F.2.2.2.2 gX7_forget_X6_has rfl rfl rfl (by decide +kernel) ⟨Nat.le_of_ble_eq_true rfl, Nat.le_of_ble_eq_true rfl⟩) [2, 3, 4, 5] [0, 1, 6, 7, 8, 9, 10, 11] [0, 1, 8, 9, 10, 11, 2, 3, 4, 5, 6, 7] rfl rfl (by decide) (by decide) (by decide) (fun _ => rfl) (by decide) (q0 := 2) (ci := 6) rfl rfl rfl rfl rfl hl.1 (Nat.le_of_ble_eq_true rfl) dX7_forget_5 ⟨Nat.le_of_ble_eq_true rfl, Nat.le_of_ble_eq_true rfl⟩ (fun z_5 u H locs r_z_5 hp_5 hW => ?_)
  refine z_if_ne F (pc := 8) 13 dX7_forget_8 (by decide) (by omega) (fun c_8 => ?_) (fun c_8 => ?_)
  · skip
    have b_8 := zB_t hp_5 c_8
    have hlk := hlb k b_8.1 b_8.2
    have hbk := b_8
    refine z_aloadn F (pc := 13) dX7_forget_13 rfl (lv_at hl 0 rfl) ?_
    refine z_get F (pc := 14) (C := RX7) (T := TX7) (N := 10) (ci := 7) inX7 hK hW 0 1 rfl rfl (by decide) rfl (List.mem_of_getElem? (i := 1) rfl) (v := .ref (aM 0)) rfl dX7_forget_14 ?_
    refine z_get F (pc := 17) (C := RX6) (T := TX6) (N := 4) (ci := 6) inX6 hK hW 2 0 rfl rfl (by decide) rfl (List.mem_of_getElem? (i := 2) rfl) (v := .ref (aM 1)) rfl dX7_forget_17 ?_
    refine z_iloadn F (pc := 20) dX7_forget_20 rfl (lv_at hl 1 rfl) ?_
    refine z_iald F (pc := 21) hK hW 3 rfl (by decide) dX7_forget_21 (by omega) ?_
    refine z_istoren F (pc := 22) hl (lv' := [(2, .int (iI (lb k))), (0, .ref (aB 0)), (1, .int (iI k))]) dX7_forget_22 rfl (by decide) rfl (fun ls hl => ?_)
    refine z_aloadn F (pc := 23) dX7_forget_23 rfl (lv_at hl 1 rfl) ?_
    refine z_get F (pc := 24) (C := RX7) (T := TX7) (N := 10) (ci := 7) inX7 hK hW 0 2 rfl rfl (by decide) rfl (List.mem_of_getElem? (i := 3) rfl) (v := .ref (aA 0)) rfl dX7_forget_24 ?_
    refine z_iconst F (pc := 27) (1) dX7_forget_27 ?_
    refine z_iloadn F (pc := 28) dX7_forget_28 rfl (lv_at hl 2 rfl) ?_
    refine z_iloadn F (pc := 29) dX7_forget_29 rfl (lv_at hl 0 rfl) ?_
    refine z_aloadn F (pc := 30) dX7_forget_30 rfl (lv_at hl 1 rfl) ?_
    refine z_get F (pc := 31) (C := RX7) (T := TX7) (N := 10) (ci := 7) inX7 hK hW 0 1 rfl rfl (by decide) rfl (List.mem_of_getElem? (i := 1) rfl) (v := .ref (aM 0)) rfl dX7_forget_31 ?_
    refine z_get F (pc := 34) (C := RX6) (T := TX6) (N := 4) (ci := 6) inX6 hK hW 2 1 rfl rfl (by decide) rfl (List.mem_of_getElem? (i := 4) rfl) (v := .ref (aM 2)) rfl dX7_forget_34 ?_
    refine z_iloadn F (pc := 37) dX7_forget_37 rfl (lv_at hl 2 rfl) ?_
    refine z_iald F (pc := 38) hK hW 4 rfl (by decide) dX7_forget_38 (by omega) ?_
    refine z_callVi F (pc := 39) hK hW hA (As := [.int (iI 1), .int (iI k), .int (iI (lb k)), .int (iI (kd k))]) (rest := []) (ws' := fun (u : (Int → Int) × (Int → Int) × (Int → Int) × (Int → Int) × (Int) × (Int)) => wB cI cZ aB aD aM aA aS aC aL aT di en mg ++ wM cI cZ aM lb kd pt mn ++ wA cI cZ aA u.1 u.2.1 u.2.2.1 u.2.2.2.1 ap u.2.2.2.2.1 u.2.2.2.2.2) (wr := (wB cI cZ aB aD aM aA aS aC aL aT di en mg ++ wM cI cZ aM lb kd pt mn)) (c_X0_push l D cI cZ aA so nu al ak ap an ax 1 k (lb k) (kd k) _ (by omega) (by omega) (by omega) (by omega) (by omega)) (cwV 4 F.2.2.2.2 gX7_forget_X0_push rfl rfl rfl (by decide +kernel) ⟨Nat.le_of_ble_eq_true rfl, Nat.le_of_ble_eq_true rfl⟩) [6, 7, 8, 9, 10, 11] [0, 1, 2, 3, 4, 5] [0, 1, 2, 3, 4, 5, 6, 7, 8, 9, 10, 11] rfl rfl (by decide) (by decide) (by decide) (fun _ => rfl) (by decide) (q0 := 6) (ci := 0) rfl rfl rfl rfl rfl hl.1 (Nat.le_of_ble_eq_true rfl) dX7_forget_39 ⟨Nat.le_of_ble_eq_true rfl, Nat.le_of_ble_eq_true rfl⟩ (fun z_39 u H locs r_z_39 hp_39 hW => ?_)
    obtain ⟨so2_39, nu2_39, al2_39, ak2_39, an2_39, ax2_39⟩ := u
    dsimp only at hp_39 hW
    obtain ⟨e_z_39, hp_39⟩ := hp_39
    replace e_z_39 := e_z_39.symm
    subst e_z_39
    refine z_istoren F (pc := 42) hl (lv' := [(3, .int (iI ax)), (2, .int (iI (lb k))), (0, .ref (aB 0)), (1, .int (iI k))]) dX7_forget_42 rfl (by decide) rfl (fun ls hl => ?_)
    refine z_aloadn F (pc := 43) dX7_forget_43 rfl (lv_at hl 2 rfl) ?_
    refine z_get F (pc := 44) (C := RX7) (T := TX7) (N := 10) (ci := 7) inX7 hK hW 0 1 rfl rfl (by decide) rfl (List.mem_of_getElem? (i := 1) rfl) (v := .ref (aM 0)) rfl dX7_forget_44 ?_
    refine z_get F (pc := 47) (C := RX6) (T := TX6) (N := 4) (ci := 6) inX6 hK hW 2 2 rfl rfl (by decide) rfl (List.mem_of_getElem? (i := 5) rfl) (v := .ref (aM 3)) rfl dX7_forget_47 ?_
    refine z_iloadn F (pc := 50) dX7_forget_50 rfl (lv_at hl 3 rfl) ?_
    refine z_bipush F (pc := 51) (16) (by decide +kernel) dX7_forget_51 ?_
    refine z_imul F (pc := 53) dX7_forget_53 ?_
    refine z_aloadn F (pc := 54) dX7_forget_54 rfl (lv_at hl 2 rfl) ?_
    refine z_get F (pc := 55) (C := RX7) (T := TX7) (N := 10) (ci := 7) inX7 hK hW 0 2 rfl rfl (by decide) rfl (List.mem_of_getElem? (i := 3) rfl) (v := .ref (aA 0)) rfl dX7_forget_55 ?_
    refine z_get F (pc := 58) (C := RX0) (T := TX0) (N := 7) (ci := 0) inX0 hK hW 6 4 rfl rfl (by decide) rfl (List.mem_of_getElem? (i := 6) rfl) (v := .ref (aA 5)) rfl dX7_forget_58 ?_
    refine z_iloadn F (pc := 61) dX7_forget_61 rfl (lv_at hl 0 rfl) ?_
    refine z_bipush F (pc := 62) (16) (by decide +kernel) dX7_forget_62 ?_
    refine z_imul F (pc := 64) dX7_forget_64 ?_
    refine z_bipush F (pc := 65) (16) (by decide +kernel) dX7_forget_65 ?_
    refine z_copyi F (pc := 67) hK hW hl.1 (ws' := wB cI cZ aB aD aM aA aS aC aL aT di en mg ++ wM cI cZ aM lb kd pt mn ++ wA cI cZ aA so2_39 nu2_39 al2_39 ak2_39 (zC pt ap (k * 16) (ax * 16) 16) an2_39 ax2_39) (List.mem_of_getElem? (i := 7) rfl) (List.mem_of_getElem? (i := 8) rfl) (List.mem_of_getElem? (i := 9) rfl) (List.mem_of_getElem? (i := 10) rfl) 5 11 rfl rfl (Nat.le_of_ble_eq_true rfl) (Nat.le_of_ble_eq_true rfl) dX7_forget_67 (by decide) (by omega) rfl (fun H locs hW => ?_)
    refine z_aloadn F (pc := 70) dX7_forget_70 rfl (lv_at hl 2 rfl) ?_
    refine z_get F (pc := 71) (C := RX7) (T := TX7) (N := 10) (ci := 7) inX7 hK hW 0 1 rfl rfl (by decide) rfl (List.mem_of_getElem? (i := 1) rfl) (v := .ref (aM 0)) rfl dX7_forget_71 ?_
    refine z_iloadn F (pc := 74) dX7_forget_74 rfl (lv_at hl 3 rfl) ?_
    refine z_callVv F (pc := 75) hK hW hA (As := [.int (iI k)]) (rest := []) (ws' := fun (u : (Int → Int) × (Int → Int) × (Int → Int) × (Int)) => wB cI cZ aB aD aM aA aS aC aL aT di en mg ++ wM cI cZ aM u.1 u.2.1 u.2.2.1 u.2.2.2 ++ wA cI cZ aA so2_39 nu2_39 al2_39 ak2_39 (zC pt ap (k * 16) (ax * 16) 16) an2_39 ax2_39) (wr := (wB cI cZ aB aD aM aA aS aC aL aT di en mg ++ wA cI cZ aA so2_39 nu2_39 al2_39 ak2_39 (zC pt ap (k * 16) (ax * 16) 16) an2_39 ax2_39)) (c_X6_remove l D cI cZ aM lb kd pt mn k _ (by omega) (by omega) (by omega)) (cwV 1 F.2.2.2.2 gX7_forget_X6_remove rfl rfl rfl (by decide +kernel) ⟨Nat.le_of_ble_eq_true rfl, Nat.le_of_ble_eq_true rfl⟩) [2, 3, 4, 5] [0, 1, 6, 7, 8, 9, 10, 11] [0, 1, 8, 9, 10, 11, 2, 3, 4, 5, 6, 7] rfl rfl (by decide) (by decide) (by decide) (fun _ => rfl) (by decide) (q0 := 2) (ci := 6) rfl rfl rfl rfl rfl hl.1 (Nat.le_of_ble_eq_true rfl) dX7_forget_75 ⟨Nat.le_of_ble_eq_true rfl, Nat.le_of_ble_eq_true rfl⟩ (fun u H locs hp_75 hW => ?_)
    obtain ⟨lb2_75, kd2_75, pt2_75, mn2_75⟩ := u
    dsimp only at hp_75 hW
    refine z_iloadn F (pc := 78) dX7_forget_78 rfl (lv_at hl 1 rfl) ?_
    exact hret _ _ _ _ (lb k) (lb2_75, kd2_75, pt2_75, mn2_75, so2_39, nu2_39, al2_39, ak2_39, (zC pt ap (k * 16) (ax * 16) 16), an2_39, ax2_39) dX7_forget_79 (by omega) (by (try dsimp only) <;> (exact Or.inr ⟨hbk, rfl, hp_75.1, hp_75.2.1, hp_75.2.2.1, hp_75.2.2.2, by rw [c16, c16], hp_39⟩)) hW
  · skip
    have b_8 := zB_f hp_5 c_8
    refine z_iconst F (pc := 11) (-1) dX7_forget_11 ?_
    exact hret _ _ _ _ (-1) (lb, kd, pt, mn, so, nu, al, ak, ap, an, ax) dX7_forget_12 (by omega) (by (try dsimp only) <;> (exact Or.inl ⟨b_8, rfl, rfl, rfl, rfl, rfl, rfl, rfl, rfl, rfl, rfl, rfl, rfl⟩)) hW

set_option maxHeartbeats 4000000 in
set_option maxRecDepth 100000 in
theorem c_X7_label (l : Launch) (D : va_G) (cI cZ : ClassId) (aB aD aM aA aS aC aL aT : Nat → Nat) (di lb kd pt so nu al ak ap : Int → Int) (en mg mn an ax : Int) (k v : Int) (sz0 : Nat) (r_k : (-2147483648 ≤ k ∧ k < 2147483648)) (r_v : (-2147483648 ≤ v ∧ v < 2147483648)) (hm : (0 ≤ mn ∧ mn ≤ 16)) (ha : (0 ≤ an ∧ an ≤ 6) ∧ (0 ≤ ax ∧ ax < 6)) (hlb : ∀ j, 0 ≤ j → j < mn → (0 ≤ lb j ∧ lb j ≤ 9) ∧ (0 ≤ kd j ∧ kd j ≤ 4)) : Met l yX7_label wsX7_label ({ frames := 2, cells := 0, slots := 0, locals := 47 } : Room) (zPc D cI cZ [.ref (aB 0), .int (iI k), .int (iI v)] (wB cI cZ aB aD aM aA aS aC aL aT di en mg ++ wM cI cZ aM lb kd pt mn ++ wA cI cZ aA so nu al ak ap an ax) sz0) (zQi D cI cZ (wB cI cZ aB aD aM aA aS aC aL aT di en mg ++ wM cI cZ aM lb kd pt mn ++ wA cI cZ aA so nu al ak ap an ax) sz0 (fun (r : Int) (u : (Int → Int) × (Int → Int) × (Int → Int) × (Int → Int) × (Int → Int) × (Int) × (Int)) => zH ((¬ ((0 ≤ k ∧ k < mn) ∧ (0 ≤ v ∧ v ≤ 9)) ∧ r = -1 ∧ u.1 = lb ∧ u.2.1 = so ∧ u.2.2.1 = nu ∧ u.2.2.2.1 = al ∧ u.2.2.2.2.1 = ak ∧ u.2.2.2.2.2.1 = an ∧ u.2.2.2.2.2.2 = ax) ∨ (((0 ≤ k ∧ k < mn) ∧ (0 ≤ v ∧ v ≤ 9)) ∧ r = lb k ∧ u.1 = zU lb k v ∧ u.2.1 = zU so ax 2 ∧ u.2.2.1 = zU nu ax k ∧ u.2.2.2.1 = zU al ax (lb k) ∧ u.2.2.2.2.1 = zU ak ax (kd k) ∧ u.2.2.2.2.2.1 = min (an + 1) 6 ∧ u.2.2.2.2.2.2 = (ax + 1) % 6))) (fun (u : (Int → Int) × (Int → Int) × (Int → Int) × (Int → Int) × (Int → Int) × (Int) × (Int)) => wB cI cZ aB aD aM aA aS aC aL aT di en mg ++ wM cI cZ aM u.1 kd pt mn ++ wA cI cZ aA u.2.1 u.2.2.1 u.2.2.2.1 u.2.2.2.2.1 ap u.2.2.2.2.2.1 u.2.2.2.2.2.2)) 0 0 (va_A (wB cI cZ aB aD aM aA aS aC aL aT di en mg ++ wM cI cZ aM lb kd pt mn ++ wA cI cZ aA so nu al ak ap an ax) sz0) := by
  refine z_ofI (maxL := 4) (plainFor_of_name (by decide)) rfl (Nat.le_of_ble_eq_true rfl) (Or.inl rfl) ?_
  intro p e s m below meth c A ls Q F hK hW hA hl hret
  have hl : lv_has ls 4 [(0, .ref (aB 0)), (1, .int (iI k)), (2, .int (iI v))] := hl
  have inX6 : ∀ w ∈ u_ws RX6 TX6 4, w ∈ wsX7_label := fun _ h => List.mem_cons_of_mem _ (List.mem_append_left _ (List.mem_append_right _ h))
  have inX7 : ∀ w ∈ u_ws RX7 TX7 10, w ∈ wsX7_label := fun _ h => List.mem_cons_of_mem _ (List.mem_append_left _ (List.mem_append_left _ (List.mem_append_right _ h)))
  refine z_aloadn F (pc := 0) dX7_label_0 rfl (lv_at hl 0 rfl) ?_
  refine z_get F (pc := 1) (C := RX7) (T := TX7) (N := 10) (ci := 7) inX7 hK hW 0 1 rfl rfl (by decide) rfl (List.mem_of_getElem? (i := 1) rfl) (v := .ref (aM 0)) rfl dX7_label_1 ?_
  refine z_iloadn F (pc := 4) dX7_label_4 rfl (lv_at hl 1 rfl) ?_
  refine z_callVi F (pc := 5) hK hW hA (As := [.int (iI k)]) (rest := []) (ws' := fun (u : Unit) => wB cI cZ aB aD aM aA aS aC aL aT di en mg ++ wM cI cZ aM lb kd pt mn ++ wA cI cZ aA so nu al ak ap an ax) (wr := (wB cI cZ aB aD aM aA aS aC aL aT di en mg ++ wA cI cZ aA so nu al ak ap an ax)) (c_X6_has l D cI cZ aM lb kd pt mn k _ (by omega) (by omega)) (cwV 1 F.2.2.2.2 gX7_label_X6_has rfl rfl rfl (by decide +kernel) ⟨Nat.le_of_ble_eq_true rfl, Nat.le_of_ble_eq_true rfl⟩) [2, 3, 4, 5] [0, 1, 6, 7, 8, 9, 10, 11] [0, 1, 8, 9, 10, 11, 2, 3, 4, 5, 6, 7] rfl rfl (by decide) (by decide) (by decide) (fun _ => rfl) (by decide) (q0 := 2) (ci := 6) rfl rfl rfl rfl rfl hl.1 (Nat.le_of_ble_eq_true rfl) dX7_label_5 ⟨Nat.le_of_ble_eq_true rfl, Nat.le_of_ble_eq_true rfl⟩ (fun z_5 u H locs r_z_5 hp_5 hW => ?_)
  refine z_if_eq F (pc := 8) 20 dX7_label_8 (by decide) (by omega) (fun c_8 => ?_) (fun c_8 => ?_)
  · skip
    have b_8 := zB_f hp_5 c_8
    refine z_iconst F (pc := 20) (-1) dX7_label_20 ?_
    exact hret _ _ _ _ (-1) (lb, so, nu, al, ak, an, ax) dX7_label_21 (by omega) (by (try dsimp only) <;> (exact Or.inl ⟨by omega, rfl, rfl, rfl, rfl, rfl, rfl, rfl, rfl⟩)) hW
  · skip
    have b_8 := zB_t hp_5 c_8
    have hlk := hlb k b_8.1 b_8.2
    refine z_iloadn F (pc := 11) dX7_label_11 rfl (lv_at hl 2 rfl) ?_
    refine z_bipush F (pc := 12) (9) (by decide +kernel) dX7_label_12 ?_
    refine z_callSi F (pc := 14) hK hW hA (As := [.int (iI v), .int (iI 9)]) (rest := []) (c_X7_isWithin l D cI cZ v 9 _ (by omega) (by omega)) (va_cwS 2 F.2.2.2.2 gX7_label_X7_isWithin rfl rfl rfl (by decide +kernel) ⟨Nat.le_of_ble_eq_true rfl, Nat.le_of_ble_eq_true rfl⟩) rfl rfl hl.1 (Nat.le_of_ble_eq_true rfl) dX7_label_14 ⟨Nat.le_of_ble_eq_true rfl, Nat.le_of_ble_eq_true rfl⟩ (fun z_14 H locs r_z_14 hp_14 hW => ?_)
    refine z_if_ne F (pc := 17) 22 dX7_label_17 (by decide) (by omega) (fun c_17 => ?_) (fun c_17 => ?_)
    · skip
      have b_17 := zB_t hp_14 c_17
      refine z_aloadn F (pc := 22) dX7_label_22 rfl (lv_at hl 0 rfl) ?_
      refine z_get F (pc := 23) (C := RX7) (T := TX7) (N := 10) (ci := 7) inX7 hK hW 0 1 rfl rfl (by decide) rfl (List.mem_of_getElem? (i := 1) rfl) (v := .ref (aM 0)) rfl dX7_label_23 ?_
      refine z_get F (pc := 26) (C := RX6) (T := TX6) (N := 4) (ci := 6) inX6 hK hW 2 0 rfl rfl (by decide) rfl (List.mem_of_getElem? (i := 2) rfl) (v := .ref (aM 1)) rfl dX7_label_26 ?_
      refine z_iloadn F (pc := 29) dX7_label_29 rfl (lv_at hl 1 rfl) ?_
      refine z_iald F (pc := 30) hK hW 3 rfl (by decide) dX7_label_30 (by omega) ?_
      refine z_istoren F (pc := 31) hl (lv' := [(3, .int (iI (lb k))), (0, .ref (aB 0)), (1, .int (iI k)), (2, .int (iI v))]) dX7_label_31 rfl (by decide) rfl (fun ls hl => ?_)
      refine z_aloadn F (pc := 32) dX7_label_32 rfl (lv_at hl 1 rfl) ?_
      refine z_get F (pc := 33) (C := RX7) (T := TX7) (N := 10) (ci := 7) inX7 hK hW 0 2 rfl rfl (by decide) rfl (List.mem_of_getElem? (i := 3) rfl) (v := .ref (aA 0)) rfl dX7_label_33 ?_
      refine z_iconst F (pc := 36) (2) dX7_label_36 ?_
      refine z_iloadn F (pc := 37) dX7_label_37 rfl (lv_at hl 2 rfl) ?_
      refine z_iloadn F (pc := 38) dX7_label_38 rfl (lv_at hl 0 rfl) ?_
      refine z_aloadn F (pc := 39) dX7_label_39 rfl (lv_at hl 1 rfl) ?_
      refine z_get F (pc := 40) (C := RX7) (T := TX7) (N := 10) (ci := 7) inX7 hK hW 0 1 rfl rfl (by decide) rfl (List.mem_of_getElem? (i := 1) rfl) (v := .ref (aM 0)) rfl dX7_label_40 ?_
      refine z_get F (pc := 43) (C := RX6) (T := TX6) (N := 4) (ci := 6) inX6 hK hW 2 1 rfl rfl (by decide) rfl (List.mem_of_getElem? (i := 4) rfl) (v := .ref (aM 2)) rfl dX7_label_43 ?_
      refine z_iloadn F (pc := 46) dX7_label_46 rfl (lv_at hl 2 rfl) ?_
      refine z_iald F (pc := 47) hK hW 4 rfl (by decide) dX7_label_47 (by omega) ?_
      refine z_callVi F (pc := 48) hK hW hA (As := [.int (iI 2), .int (iI k), .int (iI (lb k)), .int (iI (kd k))]) (rest := []) (ws' := fun (u : (Int → Int) × (Int → Int) × (Int → Int) × (Int → Int) × (Int) × (Int)) => wB cI cZ aB aD aM aA aS aC aL aT di en mg ++ wM cI cZ aM lb kd pt mn ++ wA cI cZ aA u.1 u.2.1 u.2.2.1 u.2.2.2.1 ap u.2.2.2.2.1 u.2.2.2.2.2) (wr := (wB cI cZ aB aD aM aA aS aC aL aT di en mg ++ wM cI cZ aM lb kd pt mn)) (c_X0_push l D cI cZ aA so nu al ak ap an ax 2 k (lb k) (kd k) _ (by omega) (by omega) (by omega) (by omega) (by omega)) (cwV 4 F.2.2.2.2 gX7_label_X0_push rfl rfl rfl (by decide +kernel) ⟨Nat.le_of_ble_eq_true rfl, Nat.le_of_ble_eq_true rfl⟩) [6, 7, 8, 9, 10, 11] [0, 1, 2, 3, 4, 5] [0, 1, 2, 3, 4, 5, 6, 7, 8, 9, 10, 11] rfl rfl (by decide) (by decide) (by decide) (fun _ => rfl) (by decide) (q0 := 6) (ci := 0) rfl rfl rfl rfl rfl hl.1 (Nat.le_of_ble_eq_true rfl) dX7_label_48 ⟨Nat.le_of_ble_eq_true rfl, Nat.le_of_ble_eq_true rfl⟩ (fun z_48 u H locs r_z_48 hp_48 hW => ?_)
      obtain ⟨so2_48, nu2_48, al2_48, ak2_48, an2_48, ax2_48⟩ := u
      dsimp only at hp_48 hW
      obtain ⟨e_z_48, hp_48⟩ := hp_48
      replace e_z_48 := e_z_48.symm
      subst e_z_48
      refine z_pop F (pc := 51) dX7_label_51 rfl ?_
      refine z_aloadn F (pc := 52) dX7_label_52 rfl (lv_at hl 1 rfl) ?_
      refine z_get F (pc := 53) (C := RX7) (T := TX7) (N := 10) (ci := 7) inX7 hK hW 0 1 rfl rfl (by decide) rfl (List.mem_of_getElem? (i := 1) rfl) (v := .ref (aM 0)) rfl dX7_label_53 ?_
      refine z_get F (pc := 56) (C := RX6) (T := TX6) (N := 4) (ci := 6) inX6 hK hW 2 0 rfl rfl (by decide) rfl (List.mem_of_getElem? (i := 2) rfl) (v := .ref (aM 1)) rfl dX7_label_56 ?_
      refine z_iloadn F (pc := 59) dX7_label_59 rfl (lv_at hl 2 rfl) ?_
      refine z_iloadn F (pc := 60) dX7_label_60 rfl (lv_at hl 3 rfl) ?_
      refine z_iast F (pc := 61) hK hW (ws' := wB cI cZ aB aD aM aA aS aC aL aT di en mg ++ wM cI cZ aM (zU lb k v) kd pt mn ++ wA cI cZ aA so2_48 nu2_48 al2_48 ak2_48 ap an2_48 ax2_48) 3 rfl (by decide) dX7_label_61 (by omega) rfl (fun H locs hW => ?_)
      refine z_iloadn F (pc := 62) dX7_label_62 rfl (lv_at hl 0 rfl) ?_
      exact hret _ _ _ _ (lb k) ((zU lb k v), so2_48, nu2_48, al2_48, ak2_48, an2_48, ax2_48) dX7_label_63 (by omega) (by (try dsimp only) <;> (exact Or.inr ⟨by omega, rfl, rfl, hp_48⟩)) hW
    · skip
      have b_17 := zB_f hp_14 c_17
      refine z_iconst F (pc := 20) (-1) dX7_label_20 ?_
      exact hret _ _ _ _ (-1) (lb, so, nu, al, ak, an, ax) dX7_label_21 (by omega) (by (try dsimp only) <;> (exact Or.inl ⟨by omega, rfl, rfl, rfl, rfl, rfl, rfl, rfl, rfl⟩)) hW

set_option maxHeartbeats 4000000 in
set_option maxRecDepth 100000 in
theorem c_X7_told (l : Launch) (D : va_G) (cI cZ : ClassId) (aB aD aM aA aS aC aL aT : Nat → Nat) (di lb kd pt : Int → Int) (en mg mn : Int) (k w : Int) (sz0 : Nat) (r_k : (-2147483648 ≤ k ∧ k < 2147483648)) (r_w : (-2147483648 ≤ w ∧ w < 2147483648)) (hm : (0 ≤ mn ∧ mn ≤ 16)) (hlb : ∀ j, 0 ≤ j → j < mn → (0 ≤ lb j ∧ lb j ≤ 9) ∧ (0 ≤ kd j ∧ kd j ≤ 4)) : Met l yX7_told wsX7_told ({ frames := 1, cells := 0, slots := 0, locals := 21 } : Room) (zPc D cI cZ [.ref (aB 0), .int (iI k), .int (iI w)] (wB cI cZ aB aD aM aA aS aC aL aT di en mg ++ wM cI cZ aM lb kd pt mn) sz0) (zQi D cI cZ (wB cI cZ aB aD aM aA aS aC aL aT di en mg ++ wM cI cZ aM lb kd pt mn) sz0 (fun (r : Int) (u : Unit) => toldP lb kd mn k w r) (fun (u : Unit) => wB cI cZ aB aD aM aA aS aC aL aT di en mg ++ wM cI cZ aM lb kd pt mn)) 0 0 (va_A (wB cI cZ aB aD aM aA aS aC aL aT di en mg ++ wM cI cZ aM lb kd pt mn) sz0) := by
  refine z_ofI (maxL := 3) (plainFor_of_name (by decide)) rfl (Nat.le_of_ble_eq_true rfl) (Or.inl rfl) ?_
  intro p e s m below meth c A ls Q F hK hW hA hl hret
  have hl : lv_has ls 3 [(0, .ref (aB 0)), (1, .int (iI k)), (2, .int (iI w))] := hl
  have inX6 : ∀ w ∈ u_ws RX6 TX6 4, w ∈ wsX7_told := fun _ h => List.mem_cons_of_mem _ (List.mem_append_right _ h)
  have inX7 : ∀ w ∈ u_ws RX7 TX7 10, w ∈ wsX7_told := fun _ h => List.mem_cons_of_mem _ (List.mem_append_left _ (List.mem_append_right _ h))
  refine z_aloadn F (pc := 0) dX7_told_0 rfl (lv_at hl 0 rfl) ?_
  refine z_get F (pc := 1) (C := RX7) (T := TX7) (N := 10) (ci := 7) inX7 hK hW 0 1 rfl rfl (by decide) rfl (List.mem_of_getElem? (i := 1) rfl) (v := .ref (aM 0)) rfl dX7_told_1 ?_
  refine z_iloadn F (pc := 4) dX7_told_4 rfl (lv_at hl 1 rfl) ?_
  refine z_callVi F (pc := 5) hK hW hA (As := [.int (iI k)]) (rest := []) (ws' := fun (u : Unit) => wB cI cZ aB aD aM aA aS aC aL aT di en mg ++ wM cI cZ aM lb kd pt mn) (wr := (wB cI cZ aB aD aM aA aS aC aL aT di en mg)) (c_X6_has l D cI cZ aM lb kd pt mn k _ (by omega) (by omega)) (cwV 1 F.2.2.2.2 gX7_told_X6_has rfl rfl rfl (by decide +kernel) ⟨Nat.le_of_ble_eq_true rfl, Nat.le_of_ble_eq_true rfl⟩) [2, 3, 4, 5] [0, 1] [0, 1, 2, 3, 4, 5] rfl rfl (by decide) (by decide) (by decide) (fun _ => rfl) (by decide) (q0 := 2) (ci := 6) rfl rfl rfl rfl rfl hl.1 (Nat.le_of_ble_eq_true rfl) dX7_told_5 ⟨Nat.le_of_ble_eq_true rfl, Nat.le_of_ble_eq_true rfl⟩ (fun z_5 u H locs r_z_5 hp_5 hW => ?_)
  refine z_if_eq F (pc := 8) 19 dX7_told_8 (by decide) (by omega) (fun c_8 => ?_) (fun c_8 => ?_)
  · skip
    have b_8 := zB_f hp_5 c_8
    refine z_iconst F (pc := 19) (-1) dX7_told_19 ?_
    exact hret _ _ _ _ (-1) () dX7_told_20 (by omega) (by unfold toldP; omega) hW
  · skip
    have b_8 := zB_t hp_5 c_8
    have hlk := hlb k b_8.1 b_8.2
    refine z_iloadn F (pc := 11) dX7_told_11 rfl (lv_at hl 2 rfl) ?_
    refine z_iconst F (pc := 12) (1) dX7_told_12 ?_
    refine z_callSi F (pc := 13) hK hW hA (As := [.int (iI w), .int (iI 1)]) (rest := []) (c_X7_isWithin l D cI cZ w 1 _ (by omega) (by omega)) (va_cwS 2 F.2.2.2.2 gX7_told_X7_isWithin rfl rfl rfl (by decide +kernel) ⟨Nat.le_of_ble_eq_true rfl, Nat.le_of_ble_eq_true rfl⟩) rfl rfl hl.1 (Nat.le_of_ble_eq_true rfl) dX7_told_13 ⟨Nat.le_of_ble_eq_true rfl, Nat.le_of_ble_eq_true rfl⟩ (fun z_13 H locs r_z_13 hp_13 hW => ?_)
    refine z_if_ne F (pc := 16) 21 dX7_told_16 (by decide) (by omega) (fun c_16 => ?_) (fun c_16 => ?_)
    · skip
      have b_16 := zB_t hp_13 c_16
      refine z_iloadn F (pc := 21) dX7_told_21 rfl (lv_at hl 2 rfl) ?_
      refine z_if_ne F (pc := 22) 37 dX7_told_22 (by decide) (by omega) (fun c_22 => ?_) (fun c_22 => ?_)
      · skip
        refine z_aloadn F (pc := 37) dX7_told_37 rfl (lv_at hl 0 rfl) ?_
        refine z_get F (pc := 38) (C := RX7) (T := TX7) (N := 10) (ci := 7) inX7 hK hW 0 1 rfl rfl (by decide) rfl (List.mem_of_getElem? (i := 1) rfl) (v := .ref (aM 0)) rfl dX7_told_38 ?_
        refine z_get F (pc := 41) (C := RX6) (T := TX6) (N := 4) (ci := 6) inX6 hK hW 2 1 rfl rfl (by decide) rfl (List.mem_of_getElem? (i := 3) rfl) (v := .ref (aM 2)) rfl dX7_told_41 ?_
        refine z_iloadn F (pc := 44) dX7_told_44 rfl (lv_at hl 1 rfl) ?_
        refine z_iald F (pc := 45) hK hW 4 rfl (by decide) dX7_told_45 (by omega) ?_
        exact hret _ _ _ _ (kd k) () dX7_told_46 (by omega) (by unfold toldP; omega) hW
      · skip
        refine z_aloadn F (pc := 25) dX7_told_25 rfl (lv_at hl 0 rfl) ?_
        refine z_get F (pc := 26) (C := RX7) (T := TX7) (N := 10) (ci := 7) inX7 hK hW 0 1 rfl rfl (by decide) rfl (List.mem_of_getElem? (i := 1) rfl) (v := .ref (aM 0)) rfl dX7_told_26 ?_
        refine z_get F (pc := 29) (C := RX6) (T := TX6) (N := 4) (ci := 6) inX6 hK hW 2 0 rfl rfl (by decide) rfl (List.mem_of_getElem? (i := 2) rfl) (v := .ref (aM 1)) rfl dX7_told_29 ?_
        refine z_iloadn F (pc := 32) dX7_told_32 rfl (lv_at hl 1 rfl) ?_
        refine z_iald F (pc := 33) hK hW 3 rfl (by decide) dX7_told_33 (by omega) ?_
        refine z_goto F (pc := 34) 46 dX7_told_34 (by decide) ?_
        exact hret _ _ _ _ (lb k) () dX7_told_46 (by omega) (by unfold toldP; omega) hW
    · skip
      have b_16 := zB_f hp_13 c_16
      refine z_iconst F (pc := 19) (-1) dX7_told_19 ?_
      exact hret _ _ _ _ (-1) () dX7_told_20 (by omega) (by unfold toldP; omega) hW

set_option maxHeartbeats 4000000 in
set_option maxRecDepth 100000 in
theorem c_X7_taught (l : Launch) (D : va_G) (cI cZ : ClassId) (aB aD aM aA aS aC aL aT : Nat → Nat) (di lb kd pt : Int → Int) (en mg mn : Int) (k i w : Int) (sz0 : Nat) (r_k : (-2147483648 ≤ k ∧ k < 2147483648)) (r_i : (-2147483648 ≤ i ∧ i < 2147483648)) (r_w : (-2147483648 ≤ w ∧ w < 2147483648)) (hm : (0 ≤ mn ∧ mn ≤ 16)) (hp : ∀ j, 0 ≤ j → j < 16 * mn → -1000 ≤ pt j ∧ pt j ≤ 1000) : Met l yX7_taught wsX7_taught ({ frames := 1, cells := 0, slots := 0, locals := 21 } : Room) (zPc D cI cZ [.ref (aB 0), .int (iI k), .int (iI i), .int (iI w)] (wB cI cZ aB aD aM aA aS aC aL aT di en mg ++ wM cI cZ aM lb kd pt mn) sz0) (zQi D cI cZ (wB cI cZ aB aD aM aA aS aC aL aT di en mg ++ wM cI cZ aM lb kd pt mn) sz0 (fun (r : Int) (u : Unit) => taughtP pt mn k i w r) (fun (u : Unit) => wB cI cZ aB aD aM aA aS aC aL aT di en mg ++ wM cI cZ aM lb kd pt mn)) 0 0 (va_A (wB cI cZ aB aD aM aA aS aC aL aT di en mg ++ wM cI cZ aM lb kd pt mn) sz0) := by
  refine z_ofI (maxL := 4) (plainFor_of_name (by decide)) rfl (Nat.le_of_ble_eq_true rfl) (Or.inl rfl) ?_
  intro p e s m below meth c A ls Q F hK hW hA hl hret
  have hl : lv_has ls 4 [(0, .ref (aB 0)), (1, .int (iI k)), (2, .int (iI i)), (3, .int (iI w))] := hl
  have inX6 : ∀ w ∈ u_ws RX6 TX6 4, w ∈ wsX7_taught := fun _ h => List.mem_cons_of_mem _ (List.mem_append_right _ h)
  have inX7 : ∀ w ∈ u_ws RX7 TX7 10, w ∈ wsX7_taught := fun _ h => List.mem_cons_of_mem _ (List.mem_append_left _ (List.mem_append_right _ h))
  refine z_aloadn F (pc := 0) dX7_taught_0 rfl (lv_at hl 0 rfl) ?_
  refine z_get F (pc := 1) (C := RX7) (T := TX7) (N := 10) (ci := 7) inX7 hK hW 0 1 rfl rfl (by decide) rfl (List.mem_of_getElem? (i := 1) rfl) (v := .ref (aM 0)) rfl dX7_taught_1 ?_
  refine z_iloadn F (pc := 4) dX7_taught_4 rfl (lv_at hl 1 rfl) ?_
  refine z_callVi F (pc := 5) hK hW hA (As := [.int (iI k)]) (rest := []) (ws' := fun (u : Unit) => wB cI cZ aB aD aM aA aS aC aL aT di en mg ++ wM cI cZ aM lb kd pt mn) (wr := (wB cI cZ aB aD aM aA aS aC aL aT di en mg)) (c_X6_has l D cI cZ aM lb kd pt mn k _ (by omega) (by omega)) (cwV 1 F.2.2.2.2 gX7_taught_X6_has rfl rfl rfl (by decide +kernel) ⟨Nat.le_of_ble_eq_true rfl, Nat.le_of_ble_eq_true rfl⟩) [2, 3, 4, 5] [0, 1] [0, 1, 2, 3, 4, 5] rfl rfl (by decide) (by decide) (by decide) (fun _ => rfl) (by decide) (q0 := 2) (ci := 6) rfl rfl rfl rfl rfl hl.1 (Nat.le_of_ble_eq_true rfl) dX7_taught_5 ⟨Nat.le_of_ble_eq_true rfl, Nat.le_of_ble_eq_true rfl⟩ (fun z_5 u H locs r_z_5 hp_5 hW => ?_)
  refine z_if_eq F (pc := 8) 28 dX7_taught_8 (by decide) (by omega) (fun c_8 => ?_) (fun c_8 => ?_)
  · skip
    have b_8 := zB_f hp_5 c_8
    refine z_ldc F (pc := 28) (1000000) (by decide +kernel) (List.mem_of_getElem? (i := 2) rfl) dX7_taught_28 ?_
    exact hret _ _ _ _ 1000000 () dX7_taught_30 (by omega) (by unfold taughtP; omega) hW
  · skip
    have b_8 := zB_t hp_5 c_8
    refine z_iloadn F (pc := 11) dX7_taught_11 rfl (lv_at hl 2 rfl) ?_
    refine z_bipush F (pc := 12) (7) (by decide +kernel) dX7_taught_12 ?_
    refine z_callSi F (pc := 14) hK hW hA (As := [.int (iI i), .int (iI 7)]) (rest := []) (c_X7_isWithin l D cI cZ i 7 _ (by omega) (by omega)) (va_cwS 2 F.2.2.2.2 gX7_taught_X7_isWithin rfl rfl rfl (by decide +kernel) ⟨Nat.le_of_ble_eq_true rfl, Nat.le_of_ble_eq_true rfl⟩) rfl rfl hl.1 (Nat.le_of_ble_eq_true rfl) dX7_taught_14 ⟨Nat.le_of_ble_eq_true rfl, Nat.le_of_ble_eq_true rfl⟩ (fun z_14 H locs r_z_14 hp_14 hW => ?_)
    refine z_if_eq F (pc := 17) 28 dX7_taught_17 (by decide) (by omega) (fun c_17 => ?_) (fun c_17 => ?_)
    · skip
      have b_17 := zB_f hp_14 c_17
      refine z_ldc F (pc := 28) (1000000) (by decide +kernel) (List.mem_of_getElem? (i := 2) rfl) dX7_taught_28 ?_
      exact hret _ _ _ _ 1000000 () dX7_taught_30 (by omega) (by unfold taughtP; omega) hW
    · skip
      have b_17 := zB_t hp_14 c_17
      refine z_iloadn F (pc := 20) dX7_taught_20 rfl (lv_at hl 3 rfl) ?_
      refine z_iconst F (pc := 21) (1) dX7_taught_21 ?_
      refine z_callSi F (pc := 22) hK hW hA (As := [.int (iI w), .int (iI 1)]) (rest := []) (c_X7_isWithin l D cI cZ w 1 _ (by omega) (by omega)) (va_cwS 2 F.2.2.2.2 gX7_taught_X7_isWithin rfl rfl rfl (by decide +kernel) ⟨Nat.le_of_ble_eq_true rfl, Nat.le_of_ble_eq_true rfl⟩) rfl rfl hl.1 (Nat.le_of_ble_eq_true rfl) dX7_taught_22 ⟨Nat.le_of_ble_eq_true rfl, Nat.le_of_ble_eq_true rfl⟩ (fun z_22 H locs r_z_22 hp_22 hW => ?_)
      refine z_if_ne F (pc := 25) 31 dX7_taught_25 (by decide) (by omega) (fun c_25 => ?_) (fun c_25 => ?_)
      · skip
        have b_25 := zB_t hp_22 c_25
        have hlk := hp (k * 16 + 2 * i + w) (by omega) (by omega)
        refine z_aloadn F (pc := 31) dX7_taught_31 rfl (lv_at hl 0 rfl) ?_
        refine z_get F (pc := 32) (C := RX7) (T := TX7) (N := 10) (ci := 7) inX7 hK hW 0 1 rfl rfl (by decide) rfl (List.mem_of_getElem? (i := 1) rfl) (v := .ref (aM 0)) rfl dX7_taught_32 ?_
        refine z_get F (pc := 35) (C := RX6) (T := TX6) (N := 4) (ci := 6) inX6 hK hW 2 2 rfl rfl (by decide) rfl (List.mem_of_getElem? (i := 3) rfl) (v := .ref (aM 3)) rfl dX7_taught_35 ?_
        refine z_iloadn F (pc := 38) dX7_taught_38 rfl (lv_at hl 1 rfl) ?_
        refine z_bipush F (pc := 39) (16) (by decide +kernel) dX7_taught_39 ?_
        refine z_imul F (pc := 41) dX7_taught_41 ?_
        refine z_iconst F (pc := 42) (2) dX7_taught_42 ?_
        refine z_iloadn F (pc := 43) dX7_taught_43 rfl (lv_at hl 2 rfl) ?_
        refine z_imul F (pc := 44) dX7_taught_44 ?_
        refine z_iadd F (pc := 45) dX7_taught_45 ?_
        refine z_iloadn F (pc := 46) dX7_taught_46 rfl (lv_at hl 3 rfl) ?_
        refine z_iadd F (pc := 47) dX7_taught_47 ?_
        refine z_iald F (pc := 48) hK hW 5 rfl (by decide) dX7_taught_48 (by omega) ?_
        exact hret _ _ _ _ (pt (((k * 16) + (2 * i)) + w)) () dX7_taught_49 (by omega) (by unfold taughtP; rw [Int.mul_comm 16 k]; omega) hW
      · skip
        have b_25 := zB_f hp_22 c_25
        refine z_ldc F (pc := 28) (1000000) (by decide +kernel) (List.mem_of_getElem? (i := 2) rfl) dX7_taught_28 ?_
        exact hret _ _ _ _ 1000000 () dX7_taught_30 (by omega) (by unfold taughtP; omega) hW

set_option maxHeartbeats 4000000 in
set_option maxRecDepth 100000 in
theorem c_X7_undo (l : Launch) (D : va_G) (cI cZ : ClassId) (aB aD aM aA aS aC aL aT : Nat → Nat) (di lb kd pt so nu al ak ap : Int → Int) (en mg mn an ax : Int) (sz0 : Nat) (hm : (0 ≤ mn ∧ mn ≤ 16)) (ha : (0 ≤ an ∧ an ≤ 6) ∧ (0 ≤ ax ∧ ax < 6)) (hu : 0 < an → actOk (so ((ax - 1) % 6)) (nu ((ax - 1) % 6)) mn ∧ (0 ≤ al ((ax - 1) % 6) ∧ al ((ax - 1) % 6) ≤ 9) ∧ (0 ≤ ak ((ax - 1) % 6) ∧ ak ((ax - 1) % 6) ≤ 4)) : Met l yX7_undo wsX7_undo ({ frames := 2, cells := 0, slots := 0, locals := 66 } : Room) (zPc D cI cZ [.ref (aB 0)] (wB cI cZ aB aD aM aA aS aC aL aT di en mg ++ wM cI cZ aM lb kd pt mn ++ wA cI cZ aA so nu al ak ap an ax) sz0) (zQi D cI cZ (wB cI cZ aB aD aM aA aS aC aL aT di en mg ++ wM cI cZ aM lb kd pt mn ++ wA cI cZ aA so nu al ak ap an ax) sz0 (fun (r : Int) (u : (Int → Int) × (Int → Int) × (Int → Int) × (Int) × (Int) × (Int)) => zH ((an = 0 ∧ r = -4 ∧ u.1 = lb ∧ u.2.1 = kd ∧ u.2.2.1 = pt ∧ u.2.2.2.1 = mn ∧ u.2.2.2.2.1 = 0 ∧ u.2.2.2.2.2 = ax) ∨ (0 < an ∧ r = an - 1 ∧ u.2.2.2.2.1 = an - 1 ∧ u.2.2.2.2.2 = ((ax - 1) % 6) ∧ ((so ((ax - 1) % 6) = 0 ∧ u.1 = delL lb (nu ((ax - 1) % 6)) mn ∧ u.2.1 = delL kd (nu ((ax - 1) % 6)) mn ∧ u.2.2.1 = delP pt (nu ((ax - 1) % 6)) mn ∧ u.2.2.2.1 = mn - 1) ∨ (so ((ax - 1) % 6) = 1 ∧ u.1 = insL lb (nu ((ax - 1) % 6)) mn (al ((ax - 1) % 6)) ∧ u.2.1 = insL kd (nu ((ax - 1) % 6)) mn (ak ((ax - 1) % 6)) ∧ u.2.2.1 = insP pt ap (16 * ((ax - 1) % 6)) (nu ((ax - 1) % 6)) mn ∧ u.2.2.2.1 = mn + 1) ∨ (so ((ax - 1) % 6) = 2 ∧ u.1 = zU lb (nu ((ax - 1) % 6)) (al ((ax - 1) % 6)) ∧ u.2.1 = kd ∧ u.2.2.1 = pt ∧ u.2.2.2.1 = mn))))) (fun (u : (Int → Int) × (Int → Int) × (Int → Int) × (Int) × (Int) × (Int)) => wB cI cZ aB aD aM aA aS aC aL aT di en mg ++ wM cI cZ aM u.1 u.2.1 u.2.2.1 u.2.2.2.1 ++ wA cI cZ aA so nu al ak ap u.2.2.2.2.1 u.2.2.2.2.2)) 0 0 (va_A (wB cI cZ aB aD aM aA aS aC aL aT di en mg ++ wM cI cZ aM lb kd pt mn ++ wA cI cZ aA so nu al ak ap an ax) sz0) := by
  refine z_ofI (maxL := 3) (plainFor_of_name (by decide)) rfl (Nat.le_of_ble_eq_true rfl) (Or.inl rfl) ?_
  intro p e s m below meth c A ls Q F hK hW hA hl hret
  have hl : lv_has ls 3 [(0, .ref (aB 0))] := hl
  have inX0 : ∀ w ∈ u_ws RX0 TX0 7, w ∈ wsX7_undo := fun _ h => List.mem_cons_of_mem _ (List.mem_append_left _ (List.mem_append_right _ h))
  have inX6 : ∀ w ∈ u_ws RX6 TX6 4, w ∈ wsX7_undo := fun _ h => List.mem_cons_of_mem _ (List.mem_append_right _ h)
  have inX7 : ∀ w ∈ u_ws RX7 TX7 10, w ∈ wsX7_undo := fun _ h => List.mem_cons_of_mem _ (List.mem_append_left _ (List.mem_append_left _ (List.mem_append_right _ h)))
  refine z_aloadn F (pc := 0) dX7_undo_0 rfl (lv_at hl 0 rfl) ?_
  refine z_get F (pc := 1) (C := RX7) (T := TX7) (N := 10) (ci := 7) inX7 hK hW 0 2 rfl rfl (by decide) rfl (List.mem_of_getElem? (i := 1) rfl) (v := .ref (aA 0)) rfl dX7_undo_1 ?_
  refine z_get F (pc := 4) (C := RX0) (T := TX0) (N := 7) (ci := 0) inX0 hK hW 6 5 rfl rfl (by decide) rfl (List.mem_of_getElem? (i := 2) rfl) (v := .int (iI an)) rfl dX7_undo_4 ?_
  refine z_if_ne F (pc := 7) 13 dX7_undo_7 (by decide) (by omega) (fun c_7 => ?_) (fun c_7 => ?_)
  · skip
    have hao := (hu (by omega)).1
    have har := (hu (by omega)).2
    unfold actOk at hao
    refine z_aloadn F (pc := 13) dX7_undo_13 rfl (lv_at hl 0 rfl) ?_
    refine z_get F (pc := 14) (C := RX7) (T := TX7) (N := 10) (ci := 7) inX7 hK hW 0 2 rfl rfl (by decide) rfl (List.mem_of_getElem? (i := 1) rfl) (v := .ref (aA 0)) rfl dX7_undo_14 ?_
    refine z_callVi F (pc := 17) hK hW hA (As := []) (rest := []) (ws' := fun (u : (Int) × (Int)) => wB cI cZ aB aD aM aA aS aC aL aT di en mg ++ wM cI cZ aM lb kd pt mn ++ wA cI cZ aA so nu al ak ap u.1 u.2) (wr := (wB cI cZ aB aD aM aA aS aC aL aT di en mg ++ wM cI cZ aM lb kd pt mn)) (c_X0_pop l D cI cZ aA so nu al ak ap an ax _ (by omega)) (cwV 0 F.2.2.2.2 gX7_undo_X0_pop rfl rfl rfl (by decide +kernel) ⟨Nat.le_of_ble_eq_true rfl, Nat.le_of_ble_eq_true rfl⟩) [6, 7, 8, 9, 10, 11] [0, 1, 2, 3, 4, 5] [0, 1, 2, 3, 4, 5, 6, 7, 8, 9, 10, 11] rfl rfl (by decide) (by decide) (by decide) (fun _ => rfl) (by decide) (q0 := 6) (ci := 0) rfl rfl rfl rfl rfl hl.1 (Nat.le_of_ble_eq_true rfl) dX7_undo_17 ⟨Nat.le_of_ble_eq_true rfl, Nat.le_of_ble_eq_true rfl⟩ (fun z_17 u H locs r_z_17 hp_17 hW => ?_)
    obtain ⟨an2_17, ax2_17⟩ := u
    dsimp only at hp_17 hW
    obtain ⟨e_z_17, hp_17⟩ := hp_17
    replace e_z_17 := e_z_17.symm
    subst e_z_17
    refine z_istoren F (pc := 20) hl (lv' := [(1, .int (iI ((ax - 1) % 6))), (0, .ref (aB 0))]) dX7_undo_20 rfl (by decide) rfl (fun ls hl => ?_)
    refine z_aloadn F (pc := 21) dX7_undo_21 rfl (lv_at hl 1 rfl) ?_
    refine z_get F (pc := 22) (C := RX7) (T := TX7) (N := 10) (ci := 7) inX7 hK hW 0 2 rfl rfl (by decide) rfl (List.mem_of_getElem? (i := 1) rfl) (v := .ref (aA 0)) rfl dX7_undo_22 ?_
    refine z_get F (pc := 25) (C := RX0) (T := TX0) (N := 7) (ci := 0) inX0 hK hW 6 1 rfl rfl (by decide) rfl (List.mem_of_getElem? (i := 3) rfl) (v := .ref (aA 2)) rfl dX7_undo_25 ?_
    refine z_iloadn F (pc := 28) dX7_undo_28 rfl (lv_at hl 0 rfl) ?_
    refine z_iald F (pc := 29) hK hW 8 rfl (by decide) dX7_undo_29 (by omega) ?_
    refine z_istoren F (pc := 30) hl (lv' := [(2, .int (iI (nu ((ax - 1) % 6)))), (1, .int (iI ((ax - 1) % 6))), (0, .ref (aB 0))]) dX7_undo_30 rfl (by decide) rfl (fun ls hl => ?_)
    refine z_aloadn F (pc := 31) dX7_undo_31 rfl (lv_at hl 2 rfl) ?_
    refine z_get F (pc := 32) (C := RX7) (T := TX7) (N := 10) (ci := 7) inX7 hK hW 0 2 rfl rfl (by decide) rfl (List.mem_of_getElem? (i := 1) rfl) (v := .ref (aA 0)) rfl dX7_undo_32 ?_
    refine z_get F (pc := 35) (C := RX0) (T := TX0) (N := 7) (ci := 0) inX0 hK hW 6 0 rfl rfl (by decide) rfl (List.mem_of_getElem? (i := 4) rfl) (v := .ref (aA 1)) rfl dX7_undo_35 ?_
    refine z_iloadn F (pc := 38) dX7_undo_38 rfl (lv_at hl 1 rfl) ?_
    refine z_iald F (pc := 39) hK hW 7 rfl (by decide) dX7_undo_39 (by omega) ?_
    refine z_if_ne F (pc := 40) 54 dX7_undo_40 (by decide) (by omega) (fun c_40 => ?_) (fun c_40 => ?_)
    · skip
      refine z_aloadn F (pc := 54) dX7_undo_54 rfl (lv_at hl 2 rfl) ?_
      refine z_get F (pc := 55) (C := RX7) (T := TX7) (N := 10) (ci := 7) inX7 hK hW 0 2 rfl rfl (by decide) rfl (List.mem_of_getElem? (i := 1) rfl) (v := .ref (aA 0)) rfl dX7_undo_55 ?_
      refine z_get F (pc := 58) (C := RX0) (T := TX0) (N := 7) (ci := 0) inX0 hK hW 6 0 rfl rfl (by decide) rfl (List.mem_of_getElem? (i := 4) rfl) (v := .ref (aA 1)) rfl dX7_undo_58 ?_
      refine z_iloadn F (pc := 61) dX7_undo_61 rfl (lv_at hl 1 rfl) ?_
      refine z_iald F (pc := 62) hK hW 7 rfl (by decide) dX7_undo_62 (by omega) ?_
      refine z_iconst F (pc := 63) (1) dX7_undo_63 ?_
      refine z_icmp_ne F (pc := 64) 107 dX7_undo_64 (by decide) (by omega) (fun c_64 => ?_) (fun c_64 => ?_)
      · skip
        refine z_aloadn F (pc := 107) dX7_undo_107 rfl (lv_at hl 2 rfl) ?_
        refine z_get F (pc := 108) (C := RX7) (T := TX7) (N := 10) (ci := 7) inX7 hK hW 0 1 rfl rfl (by decide) rfl (List.mem_of_getElem? (i := 5) rfl) (v := .ref (aM 0)) rfl dX7_undo_108 ?_
        refine z_iloadn F (pc := 111) dX7_undo_111 rfl (lv_at hl 0 rfl) ?_
        refine z_callVi F (pc := 112) hK hW hA (As := [.int (iI (nu ((ax - 1) % 6)))]) (rest := []) (ws' := fun (u : Unit) => wB cI cZ aB aD aM aA aS aC aL aT di en mg ++ wM cI cZ aM lb kd pt mn ++ wA cI cZ aA so nu al ak ap an2_17 ax2_17) (wr := (wB cI cZ aB aD aM aA aS aC aL aT di en mg ++ wA cI cZ aA so nu al ak ap an2_17 ax2_17)) (c_X6_has l D cI cZ aM lb kd pt mn (nu ((ax - 1) % 6)) _ (by omega) (by omega)) (cwV 1 F.2.2.2.2 gX7_undo_X6_has rfl rfl rfl (by decide +kernel) ⟨Nat.le_of_ble_eq_true rfl, Nat.le_of_ble_eq_true rfl⟩) [2, 3, 4, 5] [0, 1, 6, 7, 8, 9, 10, 11] [0, 1, 8, 9, 10, 11, 2, 3, 4, 5, 6, 7] rfl rfl (by decide) (by decide) (by decide) (fun _ => rfl) (by decide) (q0 := 2) (ci := 6) rfl rfl rfl rfl rfl hl.1 (Nat.le_of_ble_eq_true rfl) dX7_undo_112 ⟨Nat.le_of_ble_eq_true rfl, Nat.le_of_ble_eq_true rfl⟩ (fun z_112 u H locs r_z_112 hp_112 hW => ?_)
        refine z_if_eq F (pc := 115) 136 dX7_undo_115 (by decide) (by omega) (fun c_115 => ?_) (fun c_115 => ?_)
        · skip
          have b_115 := zB_f hp_112 c_115
          exact absurd (by omega) b_115
        · skip
          have b_115 := zB_t hp_112 c_115
          refine z_aloadn F (pc := 118) dX7_undo_118 rfl (lv_at hl 2 rfl) ?_
          refine z_get F (pc := 119) (C := RX7) (T := TX7) (N := 10) (ci := 7) inX7 hK hW 0 1 rfl rfl (by decide) rfl (List.mem_of_getElem? (i := 5) rfl) (v := .ref (aM 0)) rfl dX7_undo_119 ?_
          refine z_get F (pc := 122) (C := RX6) (T := TX6) (N := 4) (ci := 6) inX6 hK hW 2 0 rfl rfl (by decide) rfl (List.mem_of_getElem? (i := 9) rfl) (v := .ref (aM 1)) rfl dX7_undo_122 ?_
          refine z_iloadn F (pc := 125) dX7_undo_125 rfl (lv_at hl 0 rfl) ?_
          refine z_aloadn F (pc := 126) dX7_undo_126 rfl (lv_at hl 2 rfl) ?_
          refine z_get F (pc := 127) (C := RX7) (T := TX7) (N := 10) (ci := 7) inX7 hK hW 0 2 rfl rfl (by decide) rfl (List.mem_of_getElem? (i := 1) rfl) (v := .ref (aA 0)) rfl dX7_undo_127 ?_
          refine z_get F (pc := 130) (C := RX0) (T := TX0) (N := 7) (ci := 0) inX0 hK hW 6 2 rfl rfl (by decide) rfl (List.mem_of_getElem? (i := 6) rfl) (v := .ref (aA 3)) rfl dX7_undo_130 ?_
          refine z_iloadn F (pc := 133) dX7_undo_133 rfl (lv_at hl 1 rfl) ?_
          refine z_iald F (pc := 134) hK hW 9 rfl (by decide) dX7_undo_134 (by omega) ?_
          refine z_iast F (pc := 135) hK hW (ws' := wB cI cZ aB aD aM aA aS aC aL aT di en mg ++ wM cI cZ aM (zU lb (nu ((ax - 1) % 6)) (al ((ax - 1) % 6))) kd pt mn ++ wA cI cZ aA so nu al ak ap an2_17 ax2_17) 3 rfl (by decide) dX7_undo_135 (by omega) rfl (fun H locs hW => ?_)
          refine z_aloadn F (pc := 136) dX7_undo_136 rfl (lv_at hl 2 rfl) ?_
          refine z_get F (pc := 137) (C := RX7) (T := TX7) (N := 10) (ci := 7) inX7 hK hW 0 2 rfl rfl (by decide) rfl (List.mem_of_getElem? (i := 1) rfl) (v := .ref (aA 0)) rfl dX7_undo_137 ?_
          refine z_get F (pc := 140) (C := RX0) (T := TX0) (N := 7) (ci := 0) inX0 hK hW 6 5 rfl rfl (by decide) rfl (List.mem_of_getElem? (i := 2) rfl) (v := .int (iI an2_17)) rfl dX7_undo_140 ?_
          exact hret _ _ _ _ an2_17 ((zU lb (nu ((ax - 1) % 6)) (al ((ax - 1) % 6))), kd, pt, mn, an2_17, ax2_17) dX7_undo_143 (by omega) (by (try dsimp only) <;> (exact Or.inr ⟨by omega, by omega, by omega, hp_17.2, Or.inr (Or.inr ⟨by omega, rfl, rfl, rfl, rfl⟩)⟩)) hW
      · skip
        refine z_aloadn F (pc := 67) dX7_undo_67 rfl (lv_at hl 2 rfl) ?_
        refine z_get F (pc := 68) (C := RX7) (T := TX7) (N := 10) (ci := 7) inX7 hK hW 0 1 rfl rfl (by decide) rfl (List.mem_of_getElem? (i := 5) rfl) (v := .ref (aM 0)) rfl dX7_undo_68 ?_
        refine z_iloadn F (pc := 71) dX7_undo_71 rfl (lv_at hl 0 rfl) ?_
        refine z_aloadn F (pc := 72) dX7_undo_72 rfl (lv_at hl 2 rfl) ?_
        refine z_get F (pc := 73) (C := RX7) (T := TX7) (N := 10) (ci := 7) inX7 hK hW 0 2 rfl rfl (by decide) rfl (List.mem_of_getElem? (i := 1) rfl) (v := .ref (aA 0)) rfl dX7_undo_73 ?_
        refine z_get F (pc := 76) (C := RX0) (T := TX0) (N := 7) (ci := 0) inX0 hK hW 6 2 rfl rfl (by decide) rfl (List.mem_of_getElem? (i := 6) rfl) (v := .ref (aA 3)) rfl dX7_undo_76 ?_
        refine z_iloadn F (pc := 79) dX7_undo_79 rfl (lv_at hl 1 rfl) ?_
        refine z_iald F (pc := 80) hK hW 9 rfl (by decide) dX7_undo_80 (by omega) ?_
        refine z_aloadn F (pc := 81) dX7_undo_81 rfl (lv_at hl 2 rfl) ?_
        refine z_get F (pc := 82) (C := RX7) (T := TX7) (N := 10) (ci := 7) inX7 hK hW 0 2 rfl rfl (by decide) rfl (List.mem_of_getElem? (i := 1) rfl) (v := .ref (aA 0)) rfl dX7_undo_82 ?_
        refine z_get F (pc := 85) (C := RX0) (T := TX0) (N := 7) (ci := 0) inX0 hK hW 6 3 rfl rfl (by decide) rfl (List.mem_of_getElem? (i := 7) rfl) (v := .ref (aA 4)) rfl dX7_undo_85 ?_
        refine z_iloadn F (pc := 88) dX7_undo_88 rfl (lv_at hl 1 rfl) ?_
        refine z_iald F (pc := 89) hK hW 10 rfl (by decide) dX7_undo_89 (by omega) ?_
        refine z_aloadn F (pc := 90) dX7_undo_90 rfl (lv_at hl 2 rfl) ?_
        refine z_get F (pc := 91) (C := RX7) (T := TX7) (N := 10) (ci := 7) inX7 hK hW 0 2 rfl rfl (by decide) rfl (List.mem_of_getElem? (i := 1) rfl) (v := .ref (aA 0)) rfl dX7_undo_91 ?_
        refine z_get F (pc := 94) (C := RX0) (T := TX0) (N := 7) (ci := 0) inX0 hK hW 6 4 rfl rfl (by decide) rfl (List.mem_of_getElem? (i := 8) rfl) (v := .ref (aA 5)) rfl dX7_undo_94 ?_
        refine z_iloadn F (pc := 97) dX7_undo_97 rfl (lv_at hl 1 rfl) ?_
        refine z_bipush F (pc := 98) (16) (by decide +kernel) dX7_undo_98 ?_
        refine z_imul F (pc := 100) dX7_undo_100 ?_
        refine z_callVv F (pc := 101) hK hW hA (As := [.int (iI (nu ((ax - 1) % 6))), .int (iI (al ((ax - 1) % 6))), .int (iI (ak ((ax - 1) % 6))), .ref (aA 5), .int (iI (((ax - 1) % 6) * 16))]) (rest := []) (ws' := fun (u : (Int → Int) × (Int → Int) × (Int → Int) × (Int)) => wB cI cZ aB aD aM aA aS aC aL aT di en mg ++ wM cI cZ aM u.1 u.2.1 u.2.2.1 u.2.2.2 ++ wA cI cZ aA so nu al ak ap an2_17 ax2_17) (wr := (wB cI cZ aB aD aM aA aS aC aL aT di en mg)) (c_X6_insertA l D cI cZ aM aA lb kd pt so nu al ak ap mn an2_17 ax2_17 (nu ((ax - 1) % 6)) (al ((ax - 1) % 6)) (ak ((ax - 1) % 6)) (((ax - 1) % 6) * 16) _ (by omega) (by omega) (by omega) (by omega) (by omega) (by omega) (by omega)) (cwV 5 F.2.2.2.2 gX7_undo_X6_insert rfl rfl rfl (by decide +kernel) ⟨Nat.le_of_ble_eq_true rfl, Nat.le_of_ble_eq_true rfl⟩) [2, 3, 4, 5, 6, 7, 8, 9, 10, 11] [0, 1] [0, 1, 2, 3, 4, 5, 6, 7, 8, 9, 10, 11] rfl rfl (by decide) (by decide) (by decide) (fun _ => rfl) (by decide) (q0 := 2) (ci := 6) rfl rfl rfl rfl rfl hl.1 (Nat.le_of_ble_eq_true rfl) dX7_undo_101 ⟨Nat.le_of_ble_eq_true rfl, Nat.le_of_ble_eq_true rfl⟩ (fun u H locs hp_101 hW => ?_)
        obtain ⟨lb2_101, kd2_101, pt2_101, mn2_101⟩ := u
        dsimp only at hp_101 hW
        refine z_goto F (pc := 104) 136 dX7_undo_104 (by decide) ?_
        refine z_aloadn F (pc := 136) dX7_undo_136 rfl (lv_at hl 2 rfl) ?_
        refine z_get F (pc := 137) (C := RX7) (T := TX7) (N := 10) (ci := 7) inX7 hK hW 0 2 rfl rfl (by decide) rfl (List.mem_of_getElem? (i := 1) rfl) (v := .ref (aA 0)) rfl dX7_undo_137 ?_
        refine z_get F (pc := 140) (C := RX0) (T := TX0) (N := 7) (ci := 0) inX0 hK hW 6 5 rfl rfl (by decide) rfl (List.mem_of_getElem? (i := 2) rfl) (v := .int (iI an2_17)) rfl dX7_undo_140 ?_
        exact hret _ _ _ _ an2_17 (lb2_101, kd2_101, pt2_101, mn2_101, an2_17, ax2_17) dX7_undo_143 (by omega) (by (try dsimp only) <;> (exact Or.inr ⟨by omega, by omega, by omega, hp_17.2, Or.inr (Or.inl ⟨by omega, hp_101.1, hp_101.2.1, by rw [hp_101.2.2.1, c16], hp_101.2.2.2⟩)⟩)) hW
    · skip
      refine z_aloadn F (pc := 43) dX7_undo_43 rfl (lv_at hl 2 rfl) ?_
      refine z_get F (pc := 44) (C := RX7) (T := TX7) (N := 10) (ci := 7) inX7 hK hW 0 1 rfl rfl (by decide) rfl (List.mem_of_getElem? (i := 5) rfl) (v := .ref (aM 0)) rfl dX7_undo_44 ?_
      refine z_iloadn F (pc := 47) dX7_undo_47 rfl (lv_at hl 0 rfl) ?_
      refine z_callVv F (pc := 48) hK hW hA (As := [.int (iI (nu ((ax - 1) % 6)))]) (rest := []) (ws' := fun (u : (Int → Int) × (Int → Int) × (Int → Int) × (Int)) => wB cI cZ aB aD aM aA aS aC aL aT di en mg ++ wM cI cZ aM u.1 u.2.1 u.2.2.1 u.2.2.2 ++ wA cI cZ aA so nu al ak ap an2_17 ax2_17) (wr := (wB cI cZ aB aD aM aA aS aC aL aT di en mg ++ wA cI cZ aA so nu al ak ap an2_17 ax2_17)) (c_X6_remove l D cI cZ aM lb kd pt mn (nu ((ax - 1) % 6)) _ (by omega) (by omega) (by omega)) (cwV 1 F.2.2.2.2 gX7_undo_X6_remove rfl rfl rfl (by decide +kernel) ⟨Nat.le_of_ble_eq_true rfl, Nat.le_of_ble_eq_true rfl⟩) [2, 3, 4, 5] [0, 1, 6, 7, 8, 9, 10, 11] [0, 1, 8, 9, 10, 11, 2, 3, 4, 5, 6, 7] rfl rfl (by decide) (by decide) (by decide) (fun _ => rfl) (by decide) (q0 := 2) (ci := 6) rfl rfl rfl rfl rfl hl.1 (Nat.le_of_ble_eq_true rfl) dX7_undo_48 ⟨Nat.le_of_ble_eq_true rfl, Nat.le_of_ble_eq_true rfl⟩ (fun u H locs hp_48 hW => ?_)
      obtain ⟨lb2_48, kd2_48, pt2_48, mn2_48⟩ := u
      dsimp only at hp_48 hW
      refine z_goto F (pc := 51) 136 dX7_undo_51 (by decide) ?_
      refine z_aloadn F (pc := 136) dX7_undo_136 rfl (lv_at hl 2 rfl) ?_
      refine z_get F (pc := 137) (C := RX7) (T := TX7) (N := 10) (ci := 7) inX7 hK hW 0 2 rfl rfl (by decide) rfl (List.mem_of_getElem? (i := 1) rfl) (v := .ref (aA 0)) rfl dX7_undo_137 ?_
      refine z_get F (pc := 140) (C := RX0) (T := TX0) (N := 7) (ci := 0) inX0 hK hW 6 5 rfl rfl (by decide) rfl (List.mem_of_getElem? (i := 2) rfl) (v := .int (iI an2_17)) rfl dX7_undo_140 ?_
      exact hret _ _ _ _ an2_17 (lb2_48, kd2_48, pt2_48, mn2_48, an2_17, ax2_17) dX7_undo_143 (by omega) (by (try dsimp only) <;> (exact Or.inr ⟨by omega, by omega, by omega, hp_17.2, Or.inl ⟨by omega, hp_48⟩⟩)) hW
  · skip
    refine z_bipush F (pc := 10) (-4) (by decide +kernel) dX7_undo_10 ?_
    exact hret _ _ _ _ (-4) (lb, kd, pt, mn, an, ax) dX7_undo_12 (by omega) (by (try dsimp only) <;> (exact Or.inl ⟨by omega, rfl, rfl, rfl, rfl, rfl, by omega, rfl⟩)) hW
