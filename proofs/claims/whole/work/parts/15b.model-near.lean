set_option maxHeartbeats 4000000 in
set_option maxRecDepth 100000 in
theorem c_X8_ends (l : Launch) (D : va_G) (cI cZ : ClassId) (aR : Nat → Nat) (xs ys lf ev nm lb kd pt so nu al ak ap he le rw cx cr cl ll tl ts tc : Int → Int) (sz mn ac en mg ln cn wc wp : Int) (e1 m1 : Int) (sz0 : Nat) (r_e1 : (-2147483648 ≤ e1 ∧ e1 < 2147483648)) (r_m1 : (-2147483648 ≤ m1 ∧ m1 < 2147483648)) : Met l yX8_ends wsX8_ends ({ frames := 1, cells := 0, slots := 0, locals := 25 } : Room) (zPc D cI cZ [.ref (aR 0), .int (iI e1), .int (iI m1)] (wR cI cZ aR xs ys lf ev nm lb kd pt so nu al ak ap he le rw cx cr cl ll tl ts tc sz mn ac en mg ln cn wc wp) sz0) (zQi D cI cZ (wR cI cZ aR xs ys lf ev nm lb kd pt so nu al ak ap he le rw cx cr cl ll tl ts tc sz mn ac en mg ln cn wc wp) sz0 (fun (r : Int) (u : (Int) × (Int)) => endsP en mg e1 m1 u.1 u.2 r) (fun (u : (Int) × (Int)) => wR cI cZ aR xs ys lf ev nm lb kd pt so nu al ak ap he le rw cx cr cl ll tl ts tc sz mn ac u.1 u.2 ln cn wc wp)) 0 0 (va_A (wR cI cZ aR xs ys lf ev nm lb kd pt so nu al ak ap he le rw cx cr cl ll tl ts tc sz mn ac en mg ln cn wc wp) sz0) := by
  refine z_ofI (maxL := 3) (plainFor_of_name (by decide)) rfl (Nat.le_of_ble_eq_true rfl) (Or.inl rfl) ?_
  intro p e s m below meth c A ls Q F hK hW hA hl hret
  have hl : lv_has ls 3 [(0, .ref (aR 0)), (1, .int (iI e1)), (2, .int (iI m1))] := hl
  have inX8 : ∀ w ∈ u_ws RX8 TX8 32, w ∈ wsX8_ends := fun _ h => List.mem_cons_of_mem _ (List.mem_append_right _ h)
  refine z_iloadn F (pc := 0) dX8_ends_0 rfl (lv_at hl 1 rfl) ?_
  refine z_i2l F (pc := 1) dX8_ends_1 (by omega) ?_
  refine z_lconst F (pc := 2) (0) (by decide +kernel) dX8_ends_2 ?_
  refine z_ldc2 F (pc := 3) (100000) (by decide +kernel) (List.mem_of_getElem? (i := 1) rfl) dX8_ends_3 ?_
  refine z_callSi F (pc := 6) hK hW hA (As := [.long (lI e1), .long (lI 0), .long (lI 100000)]) (rest := []) (c_X8_in l D cI cZ e1 0 100000 _ (by omega) (by omega) (by omega)) (va_cwS 3 F.2.2.2.2 gX8_ends_X8_in rfl rfl rfl (by decide +kernel) ⟨Nat.le_of_ble_eq_true rfl, Nat.le_of_ble_eq_true rfl⟩) rfl rfl hl.1 (Nat.le_of_ble_eq_true rfl) dX8_ends_6 ⟨Nat.le_of_ble_eq_true rfl, Nat.le_of_ble_eq_true rfl⟩ (fun z_6 H locs r_z_6 hp_6 hW => ?_)
  refine z_if_eq F (pc := 9) 24 dX8_ends_9 (by decide) (by omega) (fun c_9 => ?_) (fun c_9 => ?_)
  · skip
    have b_9 := zB_f hp_6 c_9
    refine z_iconst F (pc := 24) (-1) dX8_ends_24 ?_
    exact hret _ _ _ _ (-1) (en, mg) dX8_ends_25 (by omega) (by (try dsimp only) <;> (unfold endsP; omega)) hW
  · skip
    have b_9 := zB_t hp_6 c_9
    refine z_iloadn F (pc := 12) dX8_ends_12 rfl (lv_at hl 2 rfl) ?_
    refine z_i2l F (pc := 13) dX8_ends_13 (by omega) ?_
    refine z_lconst F (pc := 14) (0) (by decide +kernel) dX8_ends_14 ?_
    refine z_ldc2 F (pc := 15) (100000) (by decide +kernel) (List.mem_of_getElem? (i := 1) rfl) dX8_ends_15 ?_
    refine z_callSi F (pc := 18) hK hW hA (As := [.long (lI m1), .long (lI 0), .long (lI 100000)]) (rest := []) (c_X8_in l D cI cZ m1 0 100000 _ (by omega) (by omega) (by omega)) (va_cwS 3 F.2.2.2.2 gX8_ends_X8_in rfl rfl rfl (by decide +kernel) ⟨Nat.le_of_ble_eq_true rfl, Nat.le_of_ble_eq_true rfl⟩) rfl rfl hl.1 (Nat.le_of_ble_eq_true rfl) dX8_ends_18 ⟨Nat.le_of_ble_eq_true rfl, Nat.le_of_ble_eq_true rfl⟩ (fun z_18 H locs r_z_18 hp_18 hW => ?_)
    refine z_if_ne F (pc := 21) 26 dX8_ends_21 (by decide) (by omega) (fun c_21 => ?_) (fun c_21 => ?_)
    · skip
      have b_21 := zB_t hp_18 c_21
      refine z_aloadn F (pc := 26) dX8_ends_26 rfl (lv_at hl 0 rfl) ?_
      refine z_iloadn F (pc := 27) dX8_ends_27 rfl (lv_at hl 1 rfl) ?_
      refine z_put F (pc := 28) (C := RX8) (T := TX8) (N := 32) (ci := 8) inX8 tyX8 tyX8_ok nmX8 hK hW (ws' := wR cI cZ aR xs ys lf ev nm lb kd pt so nu al ak ap he le rw cx cr cl ll tl ts tc sz mn ac e1 mg ln cn wc wp) 0 16 rfl rfl (by decide) rfl (List.mem_of_getElem? (i := 2) rfl) rfl rfl (Nat.le_of_ble_eq_true rfl) dX8_ends_28 rfl (fun H locs hW => ?_)
      refine z_aloadn F (pc := 31) dX8_ends_31 rfl (lv_at hl 0 rfl) ?_
      refine z_iloadn F (pc := 32) dX8_ends_32 rfl (lv_at hl 2 rfl) ?_
      refine z_put F (pc := 33) (C := RX8) (T := TX8) (N := 32) (ci := 8) inX8 tyX8 tyX8_ok nmX8 hK hW (ws' := wR cI cZ aR xs ys lf ev nm lb kd pt so nu al ak ap he le rw cx cr cl ll tl ts tc sz mn ac e1 m1 ln cn wc wp) 0 17 rfl rfl (by decide) rfl (List.mem_of_getElem? (i := 3) rfl) rfl rfl (Nat.le_of_ble_eq_true rfl) dX8_ends_33 rfl (fun H locs hW => ?_)
      refine z_iconst F (pc := 36) (1) dX8_ends_36 ?_
      exact hret _ _ _ _ 1 (e1, m1) dX8_ends_37 (by omega) (by (try dsimp only) <;> (unfold endsP; omega)) hW
    · skip
      have b_21 := zB_f hp_18 c_21
      refine z_iconst F (pc := 24) (-1) dX8_ends_24 ?_
      exact hret _ _ _ _ (-1) (en, mg) dX8_ends_25 (by omega) (by (try dsimp only) <;> (unfold endsP; omega)) hW

set_option maxHeartbeats 4000000 in
set_option maxRecDepth 100000 in
theorem c_X8_holdsDraft (l : Launch) (D : va_G) (cI cZ : ClassId) (aR : Nat → Nat) (xs ys lf ev nm lb kd pt so nu al ak ap he le rw cx cr cl ll tl ts tc : Int → Int) (sz mn ac en mg ln cn wc wp : Int) (sz0 : Nat) (hd : Dok xs ys lf sz) (hw : 0 < wy xs ys lf sz) : Met l yX8_holdsDraft wsX8_holdsDraft ({ frames := 5, cells := 0, slots := 0, locals := 116 } : Room) (zPc D cI cZ [.ref (aR 0)] (wR cI cZ aR xs ys lf ev nm lb kd pt so nu al ak ap he le rw cx cr cl ll tl ts tc sz mn ac en mg ln cn wc wp) sz0) (zQv D cI cZ (wR cI cZ aR xs ys lf ev nm lb kd pt so nu al ak ap he le rw cx cr cl ll tl ts tc sz mn ac en mg ln cn wc wp) sz0 (fun (u : (Int → Int) × (Int → Int) × (Int → Int)) => NmOf xs ys lf sz u.2.1 ∧ eqH u.2.2 u.2.1) (fun (u : (Int → Int) × (Int → Int) × (Int → Int)) => wR cI cZ aR xs ys lf u.1 u.2.1 lb kd pt so nu al ak ap u.2.2 le rw cx cr cl ll tl ts tc sz mn ac en mg ln cn wc wp)) 0 0 (va_A (wR cI cZ aR xs ys lf ev nm lb kd pt so nu al ak ap he le rw cx cr cl ll tl ts tc sz mn ac en mg ln cn wc wp) sz0) := by
  refine z_ofV (maxL := 2) (plainFor_of_name (by decide)) rfl (Nat.le_of_ble_eq_true rfl) ?_
  intro p e s m below meth c A ls Q F hK hW hA hl hret
  have hl : lv_has ls 2 [(0, .ref (aR 0))] := hl
  have inX8 : ∀ w ∈ u_ws RX8 TX8 32, w ∈ wsX8_holdsDraft := fun _ h => List.mem_cons_of_mem _ (List.mem_append_right _ h)
  refine z_aloadn F (pc := 0) dX8_holdsDraft_0 rfl (lv_at hl 0 rfl) ?_
  refine z_callVv F (pc := 1) hK hW hA (As := []) (rest := []) (ws' := fun (u : (Int → Int) × (Int → Int)) => wR cI cZ aR xs ys lf u.1 u.2 lb kd pt so nu al ak ap he le rw cx cr cl ll tl ts tc sz mn ac en mg ln cn wc wp) (wr := ([])) (c_X8_findNorms l D cI cZ aR xs ys lf ev nm lb kd pt so nu al ak ap he le rw cx cr cl ll tl ts tc sz mn ac en mg ln cn wc wp _ (by exact hd) (by exact hw)) (cwV 0 F.2.2.2.2 gX8_holdsDraft_X8_findNorms rfl rfl rfl (by decide +kernel) ⟨Nat.le_of_ble_eq_true rfl, Nat.le_of_ble_eq_true rfl⟩) [0, 1, 2, 3, 4, 5, 6, 7, 8, 9, 10, 11, 12, 13, 14, 15, 16, 17, 18, 19, 20, 21, 22, 23] [] [0, 1, 2, 3, 4, 5, 6, 7, 8, 9, 10, 11, 12, 13, 14, 15, 16, 17, 18, 19, 20, 21, 22, 23] rfl rfl (by decide) (by decide) (by decide) (fun _ => rfl) (by decide) (q0 := 0) (ci := 8) rfl rfl rfl rfl rfl hl.1 (Nat.le_of_ble_eq_true rfl) dX8_holdsDraft_1 ⟨Nat.le_of_ble_eq_true rfl, Nat.le_of_ble_eq_true rfl⟩ (fun u H locs hp_1 hW => ?_)
  obtain ⟨ev2_1, nm2_1⟩ := u
  dsimp only at hp_1 hW
  refine z_iconst F (pc := 4) (0) dX8_holdsDraft_4 ?_
  refine z_istoren F (pc := 5) hl (lv' := [(1, .int (iI 0)), (0, .ref (aR 0))]) dX8_holdsDraft_5 rfl (by decide) rfl (fun ls hl => ?_)
  have cut_6 : ∀ (fuel : Nat) (j : Int) (h1 : Int → Int) (H : Heap) (locs : List Loc) (ls : Array Slot), (16 - j).toNat < fuel → (0 ≤ j ∧ j ≤ 16) → (h1 = zC nm2_1 he 0 0 j) → lv_has ls 2 [(1, .int (iI j)), (0, .ref (aR 0))] → zW D A s.heap H locs (wR cI cZ aR xs ys lf ev2_1 nm2_1 lb kd pt so nu al ak ap h1 le rw cx cr cl ll tl ts tc sz mn ac en mg ln cn wc wp) → W p l e ({ frames := 5, cells := 0, slots := 0, locals := 116 } : Room) s m ([.ref (aR 0)] : List Value).toArray below meth c H locs 0 0 Q (F0 m 6 ls []) := by
    intro fuel
    induction fuel with
    | zero => intro j h1 H locs ls hm; exact absurd hm (Nat.not_lt_zero _)
    | succ fuel ih_6 =>
      intro j h1 H locs ls hm_6 g1 g2 hl hW
      refine z_iloadn F (pc := 6) dX8_holdsDraft_6 rfl (lv_at hl 0 rfl) ?_
      refine z_bipush F (pc := 7) (16) (by decide +kernel) dX8_holdsDraft_7 ?_
      refine z_icmp_ge F (pc := 9) 30 dX8_holdsDraft_9 (by decide) (by omega) (fun c_9 => ?_) (fun c_9 => ?_)
      · skip
        exact hret _ _ _ _ (ev2_1, nm2_1, h1) dX8_holdsDraft_30 (by (try dsimp only) <;> (exact ⟨hp_1, by rw [g2, show j = 16 by omega]; exact eqH_nm _ _⟩)) hW
      · skip
        refine z_aloadn F (pc := 12) dX8_holdsDraft_12 rfl (lv_at hl 1 rfl) ?_
        refine z_get F (pc := 13) (C := RX8) (T := TX8) (N := 32) (ci := 8) inX8 hK hW 0 18 rfl rfl (by decide) rfl (List.mem_of_getElem? (i := 1) rfl) (v := .ref (aR 14)) rfl dX8_holdsDraft_13 ?_
        refine z_iloadn F (pc := 16) dX8_holdsDraft_16 rfl (lv_at hl 0 rfl) ?_
        refine z_aloadn F (pc := 17) dX8_holdsDraft_17 rfl (lv_at hl 1 rfl) ?_
        refine z_get F (pc := 18) (C := RX8) (T := TX8) (N := 32) (ci := 8) inX8 hK hW 0 5 rfl rfl (by decide) rfl (List.mem_of_getElem? (i := 2) rfl) (v := .ref (aR 5)) rfl dX8_holdsDraft_18 ?_
        refine z_iloadn F (pc := 21) dX8_holdsDraft_21 rfl (lv_at hl 0 rfl) ?_
        refine z_iald F (pc := 22) hK hW 5 rfl (by decide) dX8_holdsDraft_22 (by omega) ?_
        refine z_iast F (pc := 23) hK hW (ws' := wR cI cZ aR xs ys lf ev2_1 nm2_1 lb kd pt so nu al ak ap (zU h1 j (nm2_1 j)) le rw cx cr cl ll tl ts tc sz mn ac en mg ln cn wc wp) 14 rfl (by decide) dX8_holdsDraft_23 (by omega) rfl (fun H locs hW => ?_)
        refine z_iinc F (pc := 24) hl (lv' := [(1, .int (iI (j + 1))), (0, .ref (aR 0))]) dX8_holdsDraft_24 (k := 0) rfl (by decide) rfl (fun ls hl => ?_)
        refine z_goto F (pc := 27) 6 dX8_holdsDraft_27 (by decide) ?_
        exact ih_6 (j + 1) (zU h1 j (nm2_1 j)) _ _ _ (by omega) (by omega) (by rw [g2]; exact zC_s4 _ _ (by omega) (by omega) (by omega) (by omega)) (lv_sub hl [0, 1] rfl) hW
  exact cut_6 _ 0 he _ _ _ (Nat.lt_succ_self _) (by omega) (by exact (zC_0 _ _ _ _).symm) (lv_sub hl [0, 1] rfl) hW

set_option maxHeartbeats 4000000 in
set_option maxRecDepth 100000 in
theorem c_X8_distance (l : Launch) (D : va_G) (cI cZ : ClassId) (aR : Nat → Nat) (xs ys lf ev nm lb kd pt so nu al ak ap he le rw cx cr cl ll tl ts tc : Int → Int) (sz mn ac en mg ln cn wc wp : Int) (k : Int) (sz0 : Nat) (r_k : (-2147483648 ≤ k ∧ k < 2147483648)) (hd : Dok xs ys lf sz) (hm : (0 ≤ mn ∧ mn ≤ 16)) (hkd : Kok kd mn) (hpt : Pok pt mn) : Met l yX8_distance wsX8_distance ({ frames := 6, cells := 0, slots := 0, locals := 137 } : Room) (zPc D cI cZ [.ref (aR 0), .int (iI k)] (wR cI cZ aR xs ys lf ev nm lb kd pt so nu al ak ap he le rw cx cr cl ll tl ts tc sz mn ac en mg ln cn wc wp) sz0) (zQi D cI cZ (wR cI cZ aR xs ys lf ev nm lb kd pt so nu al ak ap he le rw cx cr cl ll tl ts tc sz mn ac en mg ln cn wc wp) sz0 (fun (r : Int) (u : (Int → Int) × (Int → Int) × (Int → Int) × (Int → Int)) => distR xs ys lf sz pt kd mn k r) (fun (u : (Int → Int) × (Int → Int) × (Int → Int) × (Int → Int)) => wR cI cZ aR xs ys lf u.1 u.2.1 lb kd pt so nu al ak ap u.2.2.1 u.2.2.2 rw cx cr cl ll tl ts tc sz mn ac en mg ln cn wc wp)) 0 0 (va_A (wR cI cZ aR xs ys lf ev nm lb kd pt so nu al ak ap he le rw cx cr cl ll tl ts tc sz mn ac en mg ln cn wc wp) sz0) := by
  have hww := wy_r hd (q := sz) (Int.le_refl _)
  refine z_ofI (maxL := 2) (plainFor_of_name (by decide)) rfl (Nat.le_of_ble_eq_true rfl) (Or.inl rfl) ?_
  intro p e s m below meth c A ls Q F hK hW hA hl hret
  have hl : lv_has ls 2 [(0, .ref (aR 0)), (1, .int (iI k))] := hl
  refine z_aloadn F (pc := 0) dX8_distance_0 rfl (lv_at hl 0 rfl) ?_
  refine z_iloadn F (pc := 1) dX8_distance_1 rfl (lv_at hl 1 rfl) ?_
  refine z_callVi F (pc := 2) hK hW hA (As := [.int (iI k)]) (rest := []) (ws' := fun (u : Unit) => wR cI cZ aR xs ys lf ev nm lb kd pt so nu al ak ap he le rw cx cr cl ll tl ts tc sz mn ac en mg ln cn wc wp) (wr := ([])) (c_X8_isTaught l D cI cZ aR xs ys lf ev nm lb kd pt so nu al ak ap he le rw cx cr cl ll tl ts tc sz mn ac en mg ln cn wc wp k _ (by omega) (by omega)) (cwV 1 F.2.2.2.2 gX8_distance_X8_isTaught rfl rfl rfl (by decide +kernel) ⟨Nat.le_of_ble_eq_true rfl, Nat.le_of_ble_eq_true rfl⟩) [0, 1, 2, 3, 4, 5, 6, 7, 8, 9, 10, 11, 12, 13, 14, 15, 16, 17, 18, 19, 20, 21, 22, 23] [] [0, 1, 2, 3, 4, 5, 6, 7, 8, 9, 10, 11, 12, 13, 14, 15, 16, 17, 18, 19, 20, 21, 22, 23] rfl rfl (by decide) (by decide) (by decide) (fun _ => rfl) (by decide) (q0 := 0) (ci := 8) rfl rfl rfl rfl rfl hl.1 (Nat.le_of_ble_eq_true rfl) dX8_distance_2 ⟨Nat.le_of_ble_eq_true rfl, Nat.le_of_ble_eq_true rfl⟩ (fun z_2 u H locs r_z_2 hp_2 hW => ?_)
  refine z_if_ne F (pc := 5) 10 dX8_distance_5 (by decide) (by omega) (fun c_5 => ?_) (fun c_5 => ?_)
  · skip
    have b_5 := zB_t hp_2 c_5
    refine z_aloadn F (pc := 10) dX8_distance_10 rfl (lv_at hl 0 rfl) ?_
    refine z_callVi F (pc := 11) hK hW hA (As := []) (rest := []) (ws' := fun (u : Unit) => wR cI cZ aR xs ys lf ev nm lb kd pt so nu al ak ap he le rw cx cr cl ll tl ts tc sz mn ac en mg ln cn wc wp) (wr := ([])) (c_X8_way l D cI cZ aR xs ys lf ev nm lb kd pt so nu al ak ap he le rw cx cr cl ll tl ts tc sz mn ac en mg ln cn wc wp _ (by exact hd)) (cwV 0 F.2.2.2.2 gX8_distance_X8_way rfl rfl rfl (by decide +kernel) ⟨Nat.le_of_ble_eq_true rfl, Nat.le_of_ble_eq_true rfl⟩) [0, 1, 2, 3, 4, 5, 6, 7, 8, 9, 10, 11, 12, 13, 14, 15, 16, 17, 18, 19, 20, 21, 22, 23] [] [0, 1, 2, 3, 4, 5, 6, 7, 8, 9, 10, 11, 12, 13, 14, 15, 16, 17, 18, 19, 20, 21, 22, 23] rfl rfl (by decide) (by decide) (by decide) (fun _ => rfl) (by decide) (q0 := 0) (ci := 8) rfl rfl rfl rfl rfl hl.1 (Nat.le_of_ble_eq_true rfl) dX8_distance_11 ⟨Nat.le_of_ble_eq_true rfl, Nat.le_of_ble_eq_true rfl⟩ (fun z_11 u H locs r_z_11 hp_11 hW => ?_)
    replace hp_11 := hp_11.symm
    subst hp_11
    refine z_if_ne F (pc := 14) 20 dX8_distance_14 (by decide) (by omega) (fun c_14 => ?_) (fun c_14 => ?_)
    · skip
      refine z_aloadn F (pc := 20) dX8_distance_20 rfl (lv_at hl 0 rfl) ?_
      refine z_callVv F (pc := 21) hK hW hA (As := []) (rest := []) (ws' := fun (u : (Int → Int) × (Int → Int) × (Int → Int)) => wR cI cZ aR xs ys lf u.1 u.2.1 lb kd pt so nu al ak ap u.2.2 le rw cx cr cl ll tl ts tc sz mn ac en mg ln cn wc wp) (wr := ([])) (c_X8_holdsDraft l D cI cZ aR xs ys lf ev nm lb kd pt so nu al ak ap he le rw cx cr cl ll tl ts tc sz mn ac en mg ln cn wc wp _ (by exact hd) (by omega)) (cwV 0 F.2.2.2.2 gX8_distance_X8_holdsDraft rfl rfl rfl (by decide +kernel) ⟨Nat.le_of_ble_eq_true rfl, Nat.le_of_ble_eq_true rfl⟩) [0, 1, 2, 3, 4, 5, 6, 7, 8, 9, 10, 11, 12, 13, 14, 15, 16, 17, 18, 19, 20, 21, 22, 23] [] [0, 1, 2, 3, 4, 5, 6, 7, 8, 9, 10, 11, 12, 13, 14, 15, 16, 17, 18, 19, 20, 21, 22, 23] rfl rfl (by decide) (by decide) (by decide) (fun _ => rfl) (by decide) (q0 := 0) (ci := 8) rfl rfl rfl rfl rfl hl.1 (Nat.le_of_ble_eq_true rfl) dX8_distance_21 ⟨Nat.le_of_ble_eq_true rfl, Nat.le_of_ble_eq_true rfl⟩ (fun u H locs hp_21 hW => ?_)
      obtain ⟨ev2_21, nm2_21, he2_21⟩ := u
      dsimp only at hp_21 hW
      have hin := inH_eq hp_21.2 (NmOf_in hp_21.1)
      refine z_aloadn F (pc := 24) dX8_distance_24 rfl (lv_at hl 0 rfl) ?_
      refine z_iloadn F (pc := 25) dX8_distance_25 rfl (lv_at hl 1 rfl) ?_
      refine z_callVi F (pc := 26) hK hW hA (As := [.int (iI k)]) (rest := []) (ws' := fun (u : (Int → Int) × (Int → Int)) => wR cI cZ aR xs ys lf ev2_21 nm2_21 lb kd pt so nu al ak ap u.1 u.2 rw cx cr cl ll tl ts tc sz mn ac en mg ln cn wc wp) (wr := ([])) (c_X8_distanceOf l D cI cZ aR xs ys lf ev2_21 nm2_21 lb kd pt so nu al ak ap he2_21 le rw cx cr cl ll tl ts tc sz mn ac en mg ln cn wc wp k _ (by omega) (by exact hin) (by exact Pok_in hpt b_5) (by omega) (by exact hkd k b_5.1 b_5.2)) (cwV 1 F.2.2.2.2 gX8_distance_X8_distanceOf rfl rfl rfl (by decide +kernel) ⟨Nat.le_of_ble_eq_true rfl, Nat.le_of_ble_eq_true rfl⟩) [0, 1, 2, 3, 4, 5, 6, 7, 8, 9, 10, 11, 12, 13, 14, 15, 16, 17, 18, 19, 20, 21, 22, 23] [] [0, 1, 2, 3, 4, 5, 6, 7, 8, 9, 10, 11, 12, 13, 14, 15, 16, 17, 18, 19, 20, 21, 22, 23] rfl rfl (by decide) (by decide) (by decide) (fun _ => rfl) (by decide) (q0 := 0) (ci := 8) rfl rfl rfl rfl rfl hl.1 (Nat.le_of_ble_eq_true rfl) dX8_distance_26 ⟨Nat.le_of_ble_eq_true rfl, Nat.le_of_ble_eq_true rfl⟩ (fun z_26 u H locs r_z_26 hp_26 hW => ?_)
      obtain ⟨he2_26, le2_26⟩ := u
      dsimp only at hp_26 hW
      obtain ⟨e_z_26, hp_26⟩ := hp_26
      replace e_z_26 := e_z_26.symm
      subst e_z_26
      exact hret _ _ _ _ (dF he2_21 pt (16 * k) (kd k)) (ev2_21, nm2_21, he2_26, le2_26) dX8_distance_29 (by omega) (by (try dsimp only) <;> (exact Or.inr (Or.inr ⟨b_5, c_14, nm2_21, hp_21.1, dF_cong hp_21.2 _ _ _⟩))) hW
    · skip
      refine z_bipush F (pc := 17) (-2) (by decide +kernel) dX8_distance_17 ?_
      exact hret _ _ _ _ (-2) (ev, nm, he, le) dX8_distance_19 (by omega) (by (try dsimp only) <;> (exact Or.inr (Or.inl ⟨b_5, c_14, rfl⟩))) hW
  · skip
    have b_5 := zB_f hp_2 c_5
    refine z_iconst F (pc := 8) (-1) dX8_distance_8 ?_
    exact hret _ _ _ _ (-1) (ev, nm, he, le) dX8_distance_9 (by omega) (by (try dsimp only) <;> (exact Or.inl ⟨b_5, rfl⟩)) hW

set_option maxHeartbeats 4000000 in
set_option maxRecDepth 100000 in
theorem c_X8_nearest (l : Launch) (D : va_G) (cI cZ : ClassId) (aR : Nat → Nat) (xs ys lf ev nm lb kd pt so nu al ak ap he le rw cx cr cl ll tl ts tc : Int → Int) (sz mn ac en mg ln cn wc wp : Int) (sz0 : Nat) (hd : Dok xs ys lf sz) (hm : (0 ≤ mn ∧ mn ≤ 16)) (hkd : Kok kd mn) (hpt : Pok pt mn) : Met l yX8_nearest wsX8_nearest ({ frames := 6, cells := 0, slots := 0, locals := 137 } : Room) (zPc D cI cZ [.ref (aR 0)] (wR cI cZ aR xs ys lf ev nm lb kd pt so nu al ak ap he le rw cx cr cl ll tl ts tc sz mn ac en mg ln cn wc wp) sz0) (zQi D cI cZ (wR cI cZ aR xs ys lf ev nm lb kd pt so nu al ak ap he le rw cx cr cl ll tl ts tc sz mn ac en mg ln cn wc wp) sz0 (fun (r : Int) (u : (Int → Int) × (Int → Int) × (Int → Int) × (Int → Int)) => zH ((wy xs ys lf sz = 0 ∧ r = -2) ∨ (¬ wy xs ys lf sz = 0 ∧ mn = 0 ∧ r = -4) ∨ (¬ wy xs ys lf sz = 0 ∧ 0 < mn ∧ NmOf xs ys lf sz u.2.1 ∧ eqH u.2.2.1 u.2.1 ∧ nearT u.2.1 pt kd mn r))) (fun (u : (Int → Int) × (Int → Int) × (Int → Int) × (Int → Int)) => wR cI cZ aR xs ys lf u.1 u.2.1 lb kd pt so nu al ak ap u.2.2.1 u.2.2.2 rw cx cr cl ll tl ts tc sz mn ac en mg ln cn wc wp)) 0 0 (va_A (wR cI cZ aR xs ys lf ev nm lb kd pt so nu al ak ap he le rw cx cr cl ll tl ts tc sz mn ac en mg ln cn wc wp) sz0) := by
  have hww := wy_r hd (q := sz) (Int.le_refl _)
  refine z_ofI (maxL := 5) (plainFor_of_name (by decide)) rfl (Nat.le_of_ble_eq_true rfl) (Or.inl rfl) ?_
  intro p e s m below meth c A ls Q F hK hW hA hl hret
  have hl : lv_has ls 5 [(0, .ref (aR 0))] := hl
  have inX8 : ∀ w ∈ u_ws RX8 TX8 32, w ∈ wsX8_nearest := fun _ h => List.mem_cons_of_mem _ (List.mem_append_right _ h)
  refine z_aloadn F (pc := 0) dX8_nearest_0 rfl (lv_at hl 0 rfl) ?_
  refine z_callVi F (pc := 1) hK hW hA (As := []) (rest := []) (ws' := fun (u : Unit) => wR cI cZ aR xs ys lf ev nm lb kd pt so nu al ak ap he le rw cx cr cl ll tl ts tc sz mn ac en mg ln cn wc wp) (wr := ([])) (c_X8_way l D cI cZ aR xs ys lf ev nm lb kd pt so nu al ak ap he le rw cx cr cl ll tl ts tc sz mn ac en mg ln cn wc wp _ (by exact hd)) (cwV 0 F.2.2.2.2 gX8_nearest_X8_way rfl rfl rfl (by decide +kernel) ⟨Nat.le_of_ble_eq_true rfl, Nat.le_of_ble_eq_true rfl⟩) [0, 1, 2, 3, 4, 5, 6, 7, 8, 9, 10, 11, 12, 13, 14, 15, 16, 17, 18, 19, 20, 21, 22, 23] [] [0, 1, 2, 3, 4, 5, 6, 7, 8, 9, 10, 11, 12, 13, 14, 15, 16, 17, 18, 19, 20, 21, 22, 23] rfl rfl (by decide) (by decide) (by decide) (fun _ => rfl) (by decide) (q0 := 0) (ci := 8) rfl rfl rfl rfl rfl hl.1 (Nat.le_of_ble_eq_true rfl) dX8_nearest_1 ⟨Nat.le_of_ble_eq_true rfl, Nat.le_of_ble_eq_true rfl⟩ (fun z_1 u H locs r_z_1 hp_1 hW => ?_)
  replace hp_1 := hp_1.symm
  subst hp_1
  refine z_if_ne F (pc := 4) 10 dX8_nearest_4 (by decide) (by omega) (fun c_4 => ?_) (fun c_4 => ?_)
  · skip
    refine z_aloadn F (pc := 10) dX8_nearest_10 rfl (lv_at hl 0 rfl) ?_
    refine z_callVv F (pc := 11) hK hW hA (As := []) (rest := []) (ws' := fun (u : (Int → Int) × (Int → Int) × (Int → Int)) => wR cI cZ aR xs ys lf u.1 u.2.1 lb kd pt so nu al ak ap u.2.2 le rw cx cr cl ll tl ts tc sz mn ac en mg ln cn wc wp) (wr := ([])) (c_X8_holdsDraft l D cI cZ aR xs ys lf ev nm lb kd pt so nu al ak ap he le rw cx cr cl ll tl ts tc sz mn ac en mg ln cn wc wp _ (by exact hd) (by omega)) (cwV 0 F.2.2.2.2 gX8_nearest_X8_holdsDraft rfl rfl rfl (by decide +kernel) ⟨Nat.le_of_ble_eq_true rfl, Nat.le_of_ble_eq_true rfl⟩) [0, 1, 2, 3, 4, 5, 6, 7, 8, 9, 10, 11, 12, 13, 14, 15, 16, 17, 18, 19, 20, 21, 22, 23] [] [0, 1, 2, 3, 4, 5, 6, 7, 8, 9, 10, 11, 12, 13, 14, 15, 16, 17, 18, 19, 20, 21, 22, 23] rfl rfl (by decide) (by decide) (by decide) (fun _ => rfl) (by decide) (q0 := 0) (ci := 8) rfl rfl rfl rfl rfl hl.1 (Nat.le_of_ble_eq_true rfl) dX8_nearest_11 ⟨Nat.le_of_ble_eq_true rfl, Nat.le_of_ble_eq_true rfl⟩ (fun u H locs hp_11 hW => ?_)
    obtain ⟨ev2_11, nm2_11, he2_11⟩ := u
    dsimp only at hp_11 hW
    have hinN := NmOf_in hp_11.1
    have hin := inH_eq hp_11.2 hinN
    refine z_bipush F (pc := 14) (-4) (by decide +kernel) dX8_nearest_14 ?_
    refine z_istoren F (pc := 16) hl (lv' := [(1, .int (iI (-4))), (0, .ref (aR 0))]) dX8_nearest_16 rfl (by decide) rfl (fun ls hl => ?_)
    refine z_iconst F (pc := 17) (0) dX8_nearest_17 ?_
    refine z_istoren F (pc := 18) hl (lv' := [(2, .int (iI 0)), (1, .int (iI (-4))), (0, .ref (aR 0))]) dX8_nearest_18 rfl (by decide) rfl (fun ls hl => ?_)
    refine z_iconst F (pc := 19) (0) dX8_nearest_19 ?_
    refine z_istoren F (pc := 20) hl (lv' := [(3, .int (iI 0)), (2, .int (iI 0)), (1, .int (iI (-4))), (0, .ref (aR 0))]) dX8_nearest_20 rfl (by decide) rfl (fun ls hl => ?_)
    have cut_21 : ∀ (fuel : Nat) (bs : Int) (ms : Int) (t : Int) (le1 : Int → Int) (H : Heap) (locs : List Loc) (ls : Array Slot), (mn - t).toNat < fuel → (0 ≤ t ∧ t ≤ mn) → (zH ((t = 0 ∧ bs = -4) ∨ (nearT nm2_11 pt kd t bs ∧ ms = dn nm2_11 pt kd bs))) → (-4 ≤ bs ∧ bs < 16 ∧ 0 ≤ ms ∧ ms ≤ 32000 ∧ (0 < t → 0 ≤ bs)) → lv_has ls 5 [(3, .int (iI t)), (2, .int (iI ms)), (1, .int (iI bs)), (0, .ref (aR 0))] → zW D A s.heap H locs (wR cI cZ aR xs ys lf ev2_11 nm2_11 lb kd pt so nu al ak ap he2_11 le1 rw cx cr cl ll tl ts tc sz mn ac en mg ln cn wc wp) → W p l e ({ frames := 6, cells := 0, slots := 0, locals := 137 } : Room) s m ([.ref (aR 0)] : List Value).toArray below meth c H locs 0 0 Q (F0 m 21 ls []) := by
      intro fuel
      induction fuel with
      | zero => intro bs ms t le1 H locs ls hm; exact absurd hm (Nat.not_lt_zero _)
      | succ fuel ih_21 =>
        intro bs ms t le1 H locs ls hm_21 g1 g2 g3 hl hW
        refine z_iloadn F (pc := 21) dX8_nearest_21 rfl (lv_at hl 0 rfl) ?_
        refine z_aloadn F (pc := 22) dX8_nearest_22 rfl (lv_at hl 3 rfl) ?_
        refine z_get F (pc := 23) (C := RX8) (T := TX8) (N := 32) (ci := 8) inX8 hK hW 0 6 rfl rfl (by decide) rfl (List.mem_of_getElem? (i := 1) rfl) (v := .int (iI mn)) rfl dX8_nearest_23 ?_
        refine z_icmp_ge F (pc := 26) 59 dX8_nearest_26 (by decide) (by omega) (fun c_26 => ?_) (fun c_26 => ?_)
        · skip
          have hfin : zH ((mn = 0 ∧ bs = -4) ∨ (0 < mn ∧ nearT nm2_11 pt kd mn bs)) := by
            rw [show t = mn by omega] at g2
            rcases g2.o with q | ⟨q, q2⟩
            · exact Or.inl q
            · exact Or.inr ⟨by have := q.1; omega, q⟩
          refine z_iloadn F (pc := 59) dX8_nearest_59 rfl (lv_at hl 2 rfl) ?_
          exact hret _ _ _ _ bs (ev2_11, nm2_11, he2_11, le1) dX8_nearest_60 (by omega) (by (try dsimp only) <;> (exact hfin.o.elim (fun q => Or.inr (Or.inl ⟨c_4, q.1, q.2⟩)) (fun q => Or.inr (Or.inr ⟨c_4, q.1, hp_11.1, hp_11.2, q.2⟩)))) hW
        · skip
          refine z_aloadn F (pc := 29) dX8_nearest_29 rfl (lv_at hl 3 rfl) ?_
          refine z_iloadn F (pc := 30) dX8_nearest_30 rfl (lv_at hl 0 rfl) ?_
          refine z_callVi F (pc := 31) hK hW hA (As := [.int (iI t)]) (rest := []) (ws' := fun (u : (Int → Int) × (Int → Int)) => wR cI cZ aR xs ys lf ev2_11 nm2_11 lb kd pt so nu al ak ap u.1 u.2 rw cx cr cl ll tl ts tc sz mn ac en mg ln cn wc wp) (wr := ([])) (c_X8_distanceOf l D cI cZ aR xs ys lf ev2_11 nm2_11 lb kd pt so nu al ak ap he2_11 le1 rw cx cr cl ll tl ts tc sz mn ac en mg ln cn wc wp t _ (by omega) (by exact hin) (by exact Pok_in hpt ⟨g1.1, by omega⟩) (by omega) (by exact hkd t g1.1 (by omega))) (cwV 1 F.2.2.2.2 gX8_nearest_X8_distanceOf rfl rfl rfl (by decide +kernel) ⟨Nat.le_of_ble_eq_true rfl, Nat.le_of_ble_eq_true rfl⟩) [0, 1, 2, 3, 4, 5, 6, 7, 8, 9, 10, 11, 12, 13, 14, 15, 16, 17, 18, 19, 20, 21, 22, 23] [] [0, 1, 2, 3, 4, 5, 6, 7, 8, 9, 10, 11, 12, 13, 14, 15, 16, 17, 18, 19, 20, 21, 22, 23] rfl rfl (by decide) (by decide) (by decide) (fun _ => rfl) (by decide) (q0 := 0) (ci := 8) rfl rfl rfl rfl rfl hl.1 (Nat.le_of_ble_eq_true rfl) dX8_nearest_31 ⟨Nat.le_of_ble_eq_true rfl, Nat.le_of_ble_eq_true rfl⟩ (fun z_31 u H locs r_z_31 hp_31 hW => ?_)
          obtain ⟨he2_31, le2_31⟩ := u
          dsimp only at hp_31 hW
          have kp_he2_31 : he2_11 = he2_31 := (hp_31.2).symm
          subst kp_he2_31
          obtain ⟨e_z_31, hp_31⟩ := hp_31
          replace e_z_31 := e_z_31.symm
          subst e_z_31
          refine z_eqi (y := dn nm2_11 pt kd t) (by exact dF_cong hp_11.2 _ _ _) ?_
          have hdt := dn_b (kd := kd) hinN hpt (k := t) ⟨g1.1, by omega⟩
          refine z_istore F (pc := 34) hl (lv' := [(4, .int (iI (dn nm2_11 pt kd t))), (3, .int (iI t)), (2, .int (iI ms)), (1, .int (iI bs)), (0, .ref (aR 0))]) dX8_nearest_34 (by decide) rfl (fun ls hl => ?_)
          refine z_iloadn F (pc := 36) dX8_nearest_36 rfl (lv_at hl 3 rfl) ?_
          refine z_bipush F (pc := 37) (-4) (by decide +kernel) dX8_nearest_37 ?_
          refine z_icmp_eq F (pc := 39) 48 dX8_nearest_39 (by decide) (by omega) (fun c_39 => ?_) (fun c_39 => ?_)
          · skip
            have hst : zH ((t + 1 = 0 ∧ t = -4) ∨ (nearT nm2_11 pt kd (t + 1) t ∧ dn nm2_11 pt kd t = dn nm2_11 pt kd t)) := by
              refine Or.inr ⟨⟨⟨g1.1, by omega⟩, fun k k0 k1 => ?_, fun k k0 k1 => ?_⟩, rfl⟩
              · rcases g2.o with q | ⟨q, q2⟩
                · rw [show k = t by omega]; exact Int.le_refl _
                · by_cases e : k = t
                  · rw [e]; exact Int.le_refl _
                  · have a := q.2.1 k k0 (by omega)
                    have b : dn nm2_11 pt kd t < ms := by have := q.1; omega
                    omega
              · rcases g2.o with q | ⟨q, q2⟩
                · omega
                · have a := q.2.1 k k0 k1
                  have b : dn nm2_11 pt kd t < ms := by have := q.1; omega
                  omega
            refine z_iloadn F (pc := 48) dX8_nearest_48 rfl (lv_at hl 1 rfl) ?_
            refine z_istoren F (pc := 49) hl (lv' := [(1, .int (iI t)), (4, .int (iI (dn nm2_11 pt kd t))), (3, .int (iI t)), (2, .int (iI ms)), (0, .ref (aR 0))]) dX8_nearest_49 rfl (by decide) rfl (fun ls hl => ?_)
            refine z_iload F (pc := 50) dX8_nearest_50 (lv_at hl 1 rfl) ?_
            refine z_istoren F (pc := 52) hl (lv' := [(2, .int (iI (dn nm2_11 pt kd t))), (1, .int (iI t)), (4, .int (iI (dn nm2_11 pt kd t))), (3, .int (iI t)), (0, .ref (aR 0))]) dX8_nearest_52 rfl (by decide) rfl (fun ls hl => ?_)
            refine z_iinc F (pc := 53) hl (lv' := [(3, .int (iI (t + 1))), (2, .int (iI (dn nm2_11 pt kd t))), (1, .int (iI t)), (4, .int (iI (dn nm2_11 pt kd t))), (0, .ref (aR 0))]) dX8_nearest_53 (k := 3) rfl (by decide) rfl (fun ls hl => ?_)
            refine z_goto F (pc := 56) 21 dX8_nearest_56 (by decide) ?_
            exact ih_21 t (dn nm2_11 pt kd t) (t + 1) le2_31 _ _ _ (by omega) (by omega) (by exact hst) (by omega) (lv_sub hl [0, 1, 2, 4] rfl) hW
          · skip
            refine z_iload F (pc := 42) dX8_nearest_42 (lv_at hl 0 rfl) ?_
            refine z_iloadn F (pc := 44) dX8_nearest_44 rfl (lv_at hl 2 rfl) ?_
            refine z_icmp_ge F (pc := 45) 53 dX8_nearest_45 (by decide) (by omega) (fun c_45 => ?_) (fun c_45 => ?_)
            · skip
              have hbs0 : 0 ≤ bs := by
                rcases g2.o with q | ⟨q, q2⟩
                · exact absurd q.2 c_39
                · exact q.1.1
              have hst : zH ((t + 1 = 0 ∧ bs = -4) ∨ (nearT nm2_11 pt kd (t + 1) bs ∧ ms = dn nm2_11 pt kd bs)) := by
                rcases g2.o with q | ⟨q, q2⟩
                · exact absurd q.2 c_39
                · refine Or.inr ⟨⟨⟨q.1.1, by have := q.1; omega⟩, fun k k0 k1 => ?_, q.2.2⟩, q2⟩
                  by_cases e : k = t
                  · rw [e]; omega
                  · exact q.2.1 k k0 (by omega)
              refine z_iinc F (pc := 53) hl (lv' := [(3, .int (iI (t + 1))), (4, .int (iI (dn nm2_11 pt kd t))), (2, .int (iI ms)), (1, .int (iI bs)), (0, .ref (aR 0))]) dX8_nearest_53 (k := 1) rfl (by decide) rfl (fun ls hl => ?_)
              refine z_goto F (pc := 56) 21 dX8_nearest_56 (by decide) ?_
              exact ih_21 bs ms (t + 1) le2_31 _ _ _ (by omega) (by omega) (by exact hst) (by omega) (lv_sub hl [0, 2, 3, 4] rfl) hW
            · skip
              have hst : zH ((t + 1 = 0 ∧ t = -4) ∨ (nearT nm2_11 pt kd (t + 1) t ∧ dn nm2_11 pt kd t = dn nm2_11 pt kd t)) := by
                refine Or.inr ⟨⟨⟨g1.1, by omega⟩, fun k k0 k1 => ?_, fun k k0 k1 => ?_⟩, rfl⟩
                · rcases g2.o with q | ⟨q, q2⟩
                  · rw [show k = t by omega]; exact Int.le_refl _
                  · by_cases e : k = t
                    · rw [e]; exact Int.le_refl _
                    · have a := q.2.1 k k0 (by omega)
                      have b : dn nm2_11 pt kd t < ms := by have := q.1; omega
                      omega
                · rcases g2.o with q | ⟨q, q2⟩
                  · omega
                  · have a := q.2.1 k k0 k1
                    have b : dn nm2_11 pt kd t < ms := by have := q.1; omega
                    omega
              refine z_iloadn F (pc := 48) dX8_nearest_48 rfl (lv_at hl 1 rfl) ?_
              refine z_istoren F (pc := 49) hl (lv' := [(1, .int (iI t)), (4, .int (iI (dn nm2_11 pt kd t))), (3, .int (iI t)), (2, .int (iI ms)), (0, .ref (aR 0))]) dX8_nearest_49 rfl (by decide) rfl (fun ls hl => ?_)
              refine z_iload F (pc := 50) dX8_nearest_50 (lv_at hl 1 rfl) ?_
              refine z_istoren F (pc := 52) hl (lv' := [(2, .int (iI (dn nm2_11 pt kd t))), (1, .int (iI t)), (4, .int (iI (dn nm2_11 pt kd t))), (3, .int (iI t)), (0, .ref (aR 0))]) dX8_nearest_52 rfl (by decide) rfl (fun ls hl => ?_)
              refine z_iinc F (pc := 53) hl (lv' := [(3, .int (iI (t + 1))), (2, .int (iI (dn nm2_11 pt kd t))), (1, .int (iI t)), (4, .int (iI (dn nm2_11 pt kd t))), (0, .ref (aR 0))]) dX8_nearest_53 (k := 3) rfl (by decide) rfl (fun ls hl => ?_)
              refine z_goto F (pc := 56) 21 dX8_nearest_56 (by decide) ?_
              exact ih_21 t (dn nm2_11 pt kd t) (t + 1) le2_31 _ _ _ (by omega) (by omega) (by exact hst) (by omega) (lv_sub hl [0, 1, 2, 4] rfl) hW
    exact cut_21 _ (-4) 0 0 le _ _ _ (Nat.lt_succ_self _) (by omega) (by exact Or.inl ⟨rfl, rfl⟩) (by omega) (lv_sub hl [0, 1, 2, 3] rfl) hW
  · skip
    refine z_bipush F (pc := 7) (-2) (by decide +kernel) dX8_nearest_7 ?_
    exact hret _ _ _ _ (-2) (ev, nm, he, le) dX8_nearest_9 (by omega) (by (try dsimp only) <;> (exact Or.inl ⟨c_4, rfl⟩)) hW

set_option maxHeartbeats 4000000 in
set_option maxRecDepth 100000 in
theorem c_X8_betweenOf (l : Launch) (D : va_G) (cI cZ : ClassId) (aR : Nat → Nat) (xs ys lf ev nm lb kd pt so nu al ak ap he le rw cx cr cl ll tl ts tc : Int → Int) (sz mn ac en mg ln cn wc wp : Int) (a b : Int) (sz0 : Nat) (r_a : (-2147483648 ≤ a ∧ a < 2147483648)) (r_b : (-2147483648 ≤ b ∧ b < 2147483648)) (hm : (0 ≤ mn ∧ mn ≤ 16)) (hkd : Kok kd mn) (hpt : Pok pt mn) (hab : (0 ≤ a ∧ a < mn) ∧ (0 ≤ b ∧ b < mn)) : Met l yX8_betweenOf wsX8_betweenOf ({ frames := 4, cells := 0, slots := 0, locals := 94 } : Room) (zPc D cI cZ [.ref (aR 0), .int (iI a), .int (iI b)] (wR cI cZ aR xs ys lf ev nm lb kd pt so nu al ak ap he le rw cx cr cl ll tl ts tc sz mn ac en mg ln cn wc wp) sz0) (zQi D cI cZ (wR cI cZ aR xs ys lf ev nm lb kd pt so nu al ak ap he le rw cx cr cl ll tl ts tc sz mn ac en mg ln cn wc wp) sz0 (fun (r : Int) (u : (Int → Int) × (Int → Int)) => r = bwF pt kd a b) (fun (u : (Int → Int) × (Int → Int)) => wR cI cZ aR xs ys lf ev nm lb kd pt so nu al ak ap u.1 u.2 rw cx cr cl ll tl ts tc sz mn ac en mg ln cn wc wp)) 0 0 (va_A (wR cI cZ aR xs ys lf ev nm lb kd pt so nu al ak ap he le rw cx cr cl ll tl ts tc sz mn ac en mg ln cn wc wp) sz0) := by
  refine z_ofI (maxL := 4) (plainFor_of_name (by decide)) rfl (Nat.le_of_ble_eq_true rfl) (Or.inl rfl) ?_
  intro p e s m below meth c A ls Q F hK hW hA hl hret
  have hl : lv_has ls 4 [(0, .ref (aR 0)), (1, .int (iI a)), (2, .int (iI b))] := hl
  have inX8 : ∀ w ∈ u_ws RX8 TX8 32, w ∈ wsX8_betweenOf := fun _ h => List.mem_cons_of_mem _ (List.mem_append_right _ h)
  refine z_iconst F (pc := 0) (0) dX8_betweenOf_0 ?_
  refine z_istoren F (pc := 1) hl (lv' := [(3, .int (iI 0)), (0, .ref (aR 0)), (1, .int (iI a)), (2, .int (iI b))]) dX8_betweenOf_1 rfl (by decide) rfl (fun ls hl => ?_)
  have cut_2 : ∀ (fuel : Nat) (j : Int) (h1 : Int → Int) (H : Heap) (locs : List Loc) (ls : Array Slot), (16 - j).toNat < fuel → (0 ≤ j ∧ j ≤ 16) → (h1 = zC pt he (16 * a) 0 j) → lv_has ls 4 [(3, .int (iI j)), (0, .ref (aR 0)), (1, .int (iI a)), (2, .int (iI b))] → zW D A s.heap H locs (wR cI cZ aR xs ys lf ev nm lb kd pt so nu al ak ap h1 le rw cx cr cl ll tl ts tc sz mn ac en mg ln cn wc wp) → W p l e ({ frames := 4, cells := 0, slots := 0, locals := 94 } : Room) s m ([.ref (aR 0), .int (iI a), .int (iI b)] : List Value).toArray below meth c H locs 0 0 Q (F0 m 2 ls []) := by
    intro fuel
    induction fuel with
    | zero => intro j h1 H locs ls hm; exact absurd hm (Nat.not_lt_zero _)
    | succ fuel ih_2 =>
      intro j h1 H locs ls hm_2 g1 g2 hl hW
      refine z_iloadn F (pc := 2) dX8_betweenOf_2 rfl (lv_at hl 0 rfl) ?_
      refine z_bipush F (pc := 3) (16) (by decide +kernel) dX8_betweenOf_3 ?_
      refine z_icmp_ge F (pc := 5) 31 dX8_betweenOf_5 (by decide) (by omega) (fun c_5 => ?_) (fun c_5 => ?_)
      · skip
        have hEq : eqH h1 (rO pt a) := by rw [g2, show j = 16 by omega]; exact eqH_rO _ _ _
        have hin := inH_eq hEq (rO_in hpt hab.1)
        have hbb := bwF_b (kd := kd) hpt hab.1 hab.2
        refine z_aloadn F (pc := 31) dX8_betweenOf_31 rfl (lv_at hl 1 rfl) ?_
        refine z_iloadn F (pc := 32) dX8_betweenOf_32 rfl (lv_at hl 3 rfl) ?_
        refine z_callVi F (pc := 33) hK hW hA (As := [.int (iI b)]) (rest := []) (ws' := fun (u : (Int → Int) × (Int → Int)) => wR cI cZ aR xs ys lf ev nm lb kd pt so nu al ak ap u.1 u.2 rw cx cr cl ll tl ts tc sz mn ac en mg ln cn wc wp) (wr := ([])) (c_X8_distanceOf l D cI cZ aR xs ys lf ev nm lb kd pt so nu al ak ap h1 le rw cx cr cl ll tl ts tc sz mn ac en mg ln cn wc wp b _ (by omega) (by exact hin) (by exact Pok_in hpt hab.2) (by omega) (by exact hkd b hab.2.1 hab.2.2)) (cwV 1 F.2.2.2.2 gX8_betweenOf_X8_distanceOf rfl rfl rfl (by decide +kernel) ⟨Nat.le_of_ble_eq_true rfl, Nat.le_of_ble_eq_true rfl⟩) [0, 1, 2, 3, 4, 5, 6, 7, 8, 9, 10, 11, 12, 13, 14, 15, 16, 17, 18, 19, 20, 21, 22, 23] [] [0, 1, 2, 3, 4, 5, 6, 7, 8, 9, 10, 11, 12, 13, 14, 15, 16, 17, 18, 19, 20, 21, 22, 23] rfl rfl (by decide) (by decide) (by decide) (fun _ => rfl) (by decide) (q0 := 0) (ci := 8) rfl rfl rfl rfl rfl hl.1 (Nat.le_of_ble_eq_true rfl) dX8_betweenOf_33 ⟨Nat.le_of_ble_eq_true rfl, Nat.le_of_ble_eq_true rfl⟩ (fun z_33 u H locs r_z_33 hp_33 hW => ?_)
        obtain ⟨he2_33, le2_33⟩ := u
        dsimp only at hp_33 hW
        have kp_he2_33 : h1 = he2_33 := (hp_33.2).symm
        subst kp_he2_33
        obtain ⟨e_z_33, hp_33⟩ := hp_33
        replace e_z_33 := e_z_33.symm
        subst e_z_33
        refine z_eqi (y := bwF pt kd a b) (by exact dF_cong hEq _ _ _) ?_
        exact hret _ _ _ _ (bwF pt kd a b) (h1, le2_33) dX8_betweenOf_36 (by omega) (by (try dsimp only) <;> (rfl)) hW
      · skip
        refine z_aloadn F (pc := 8) dX8_betweenOf_8 rfl (lv_at hl 1 rfl) ?_
        refine z_get F (pc := 9) (C := RX8) (T := TX8) (N := 32) (ci := 8) inX8 hK hW 0 18 rfl rfl (by decide) rfl (List.mem_of_getElem? (i := 1) rfl) (v := .ref (aR 14)) rfl dX8_betweenOf_9 ?_
        refine z_iloadn F (pc := 12) dX8_betweenOf_12 rfl (lv_at hl 0 rfl) ?_
        refine z_aloadn F (pc := 13) dX8_betweenOf_13 rfl (lv_at hl 1 rfl) ?_
        refine z_get F (pc := 14) (C := RX8) (T := TX8) (N := 32) (ci := 8) inX8 hK hW 0 9 rfl rfl (by decide) rfl (List.mem_of_getElem? (i := 2) rfl) (v := .ref (aR 8)) rfl dX8_betweenOf_14 ?_
        refine z_bipush F (pc := 17) (16) (by decide +kernel) dX8_betweenOf_17 ?_
        refine z_iloadn F (pc := 19) dX8_betweenOf_19 rfl (lv_at hl 2 rfl) ?_
        refine z_imul F (pc := 20) dX8_betweenOf_20 ?_
        refine z_iloadn F (pc := 21) dX8_betweenOf_21 rfl (lv_at hl 0 rfl) ?_
        refine z_iadd F (pc := 22) dX8_betweenOf_22 ?_
        refine z_iald F (pc := 23) hK hW 8 rfl (by decide) dX8_betweenOf_23 (by omega) ?_
        refine z_iast F (pc := 24) hK hW (ws' := wR cI cZ aR xs ys lf ev nm lb kd pt so nu al ak ap (zU h1 j (pt ((16 * a) + j))) le rw cx cr cl ll tl ts tc sz mn ac en mg ln cn wc wp) 14 rfl (by decide) dX8_betweenOf_24 (by omega) rfl (fun H locs hW => ?_)
        refine z_iinc F (pc := 25) hl (lv' := [(3, .int (iI (j + 1))), (0, .ref (aR 0)), (1, .int (iI a)), (2, .int (iI b))]) dX8_betweenOf_25 (k := 0) rfl (by decide) rfl (fun ls hl => ?_)
        refine z_goto F (pc := 28) 2 dX8_betweenOf_28 (by decide) ?_
        exact ih_2 (j + 1) (zU h1 j (pt ((16 * a) + j))) _ _ _ (by omega) (by omega) (by rw [g2]; exact zC_s4 _ _ (by omega) (by omega) (by omega) (by omega)) (lv_sub hl [0, 1, 2, 3] rfl) hW
  exact cut_2 _ 0 he _ _ _ (Nat.lt_succ_self _) (by omega) (by exact (zC_0 _ _ _ _).symm) (lv_sub hl [0, 1, 2, 3] rfl) hW

set_option maxHeartbeats 4000000 in
set_option maxRecDepth 100000 in
theorem c_X8_between (l : Launch) (D : va_G) (cI cZ : ClassId) (aR : Nat → Nat) (xs ys lf ev nm lb kd pt so nu al ak ap he le rw cx cr cl ll tl ts tc : Int → Int) (sz mn ac en mg ln cn wc wp : Int) (a b : Int) (sz0 : Nat) (r_a : (-2147483648 ≤ a ∧ a < 2147483648)) (r_b : (-2147483648 ≤ b ∧ b < 2147483648)) (hm : (0 ≤ mn ∧ mn ≤ 16)) (hkd : Kok kd mn) (hpt : Pok pt mn) : Met l yX8_between wsX8_between ({ frames := 5, cells := 0, slots := 0, locals := 117 } : Room) (zPc D cI cZ [.ref (aR 0), .int (iI a), .int (iI b)] (wR cI cZ aR xs ys lf ev nm lb kd pt so nu al ak ap he le rw cx cr cl ll tl ts tc sz mn ac en mg ln cn wc wp) sz0) (zQi D cI cZ (wR cI cZ aR xs ys lf ev nm lb kd pt so nu al ak ap he le rw cx cr cl ll tl ts tc sz mn ac en mg ln cn wc wp) sz0 (fun (r : Int) (u : (Int → Int) × (Int → Int)) => btwR pt kd mn a b r) (fun (u : (Int → Int) × (Int → Int)) => wR cI cZ aR xs ys lf ev nm lb kd pt so nu al ak ap u.1 u.2 rw cx cr cl ll tl ts tc sz mn ac en mg ln cn wc wp)) 0 0 (va_A (wR cI cZ aR xs ys lf ev nm lb kd pt so nu al ak ap he le rw cx cr cl ll tl ts tc sz mn ac en mg ln cn wc wp) sz0) := by
  refine z_ofI (maxL := 3) (plainFor_of_name (by decide)) rfl (Nat.le_of_ble_eq_true rfl) (Or.inl rfl) ?_
  intro p e s m below meth c A ls Q F hK hW hA hl hret
  have hl : lv_has ls 3 [(0, .ref (aR 0)), (1, .int (iI a)), (2, .int (iI b))] := hl
  refine z_aloadn F (pc := 0) dX8_between_0 rfl (lv_at hl 0 rfl) ?_
  refine z_iloadn F (pc := 1) dX8_between_1 rfl (lv_at hl 1 rfl) ?_
  refine z_callVi F (pc := 2) hK hW hA (As := [.int (iI a)]) (rest := []) (ws' := fun (u : Unit) => wR cI cZ aR xs ys lf ev nm lb kd pt so nu al ak ap he le rw cx cr cl ll tl ts tc sz mn ac en mg ln cn wc wp) (wr := ([])) (c_X8_isTaught l D cI cZ aR xs ys lf ev nm lb kd pt so nu al ak ap he le rw cx cr cl ll tl ts tc sz mn ac en mg ln cn wc wp a _ (by omega) (by omega)) (cwV 1 F.2.2.2.2 gX8_between_X8_isTaught rfl rfl rfl (by decide +kernel) ⟨Nat.le_of_ble_eq_true rfl, Nat.le_of_ble_eq_true rfl⟩) [0, 1, 2, 3, 4, 5, 6, 7, 8, 9, 10, 11, 12, 13, 14, 15, 16, 17, 18, 19, 20, 21, 22, 23] [] [0, 1, 2, 3, 4, 5, 6, 7, 8, 9, 10, 11, 12, 13, 14, 15, 16, 17, 18, 19, 20, 21, 22, 23] rfl rfl (by decide) (by decide) (by decide) (fun _ => rfl) (by decide) (q0 := 0) (ci := 8) rfl rfl rfl rfl rfl hl.1 (Nat.le_of_ble_eq_true rfl) dX8_between_2 ⟨Nat.le_of_ble_eq_true rfl, Nat.le_of_ble_eq_true rfl⟩ (fun z_2 u H locs r_z_2 hp_2 hW => ?_)
  refine z_if_eq F (pc := 5) 25 dX8_between_5 (by decide) (by omega) (fun c_5 => ?_) (fun c_5 => ?_)
  · skip
    have b_5 := zB_f hp_2 c_5
    refine z_iconst F (pc := 25) (-1) dX8_between_25 ?_
    exact hret _ _ _ _ (-1) (he, le) dX8_between_26 (by omega) (by (try dsimp only) <;> (first | exact Or.inl ⟨by omega, rfl⟩ | exact Or.inr ⟨by omega, rfl⟩)) hW
  · skip
    have b_5 := zB_t hp_2 c_5
    refine z_aloadn F (pc := 8) dX8_between_8 rfl (lv_at hl 0 rfl) ?_
    refine z_iloadn F (pc := 9) dX8_between_9 rfl (lv_at hl 2 rfl) ?_
    refine z_callVi F (pc := 10) hK hW hA (As := [.int (iI b)]) (rest := []) (ws' := fun (u : Unit) => wR cI cZ aR xs ys lf ev nm lb kd pt so nu al ak ap he le rw cx cr cl ll tl ts tc sz mn ac en mg ln cn wc wp) (wr := ([])) (c_X8_isTaught l D cI cZ aR xs ys lf ev nm lb kd pt so nu al ak ap he le rw cx cr cl ll tl ts tc sz mn ac en mg ln cn wc wp b _ (by omega) (by omega)) (cwV 1 F.2.2.2.2 gX8_between_X8_isTaught rfl rfl rfl (by decide +kernel) ⟨Nat.le_of_ble_eq_true rfl, Nat.le_of_ble_eq_true rfl⟩) [0, 1, 2, 3, 4, 5, 6, 7, 8, 9, 10, 11, 12, 13, 14, 15, 16, 17, 18, 19, 20, 21, 22, 23] [] [0, 1, 2, 3, 4, 5, 6, 7, 8, 9, 10, 11, 12, 13, 14, 15, 16, 17, 18, 19, 20, 21, 22, 23] rfl rfl (by decide) (by decide) (by decide) (fun _ => rfl) (by decide) (q0 := 0) (ci := 8) rfl rfl rfl rfl rfl hl.1 (Nat.le_of_ble_eq_true rfl) dX8_between_10 ⟨Nat.le_of_ble_eq_true rfl, Nat.le_of_ble_eq_true rfl⟩ (fun z_10 u H locs r_z_10 hp_10 hW => ?_)
    refine z_if_eq F (pc := 13) 25 dX8_between_13 (by decide) (by omega) (fun c_13 => ?_) (fun c_13 => ?_)
    · skip
      have b_13 := zB_f hp_10 c_13
      refine z_iconst F (pc := 25) (-1) dX8_between_25 ?_
      exact hret _ _ _ _ (-1) (he, le) dX8_between_26 (by omega) (by (try dsimp only) <;> (first | exact Or.inl ⟨by omega, rfl⟩ | exact Or.inr ⟨by omega, rfl⟩)) hW
    · skip
      have b_13 := zB_t hp_10 c_13
      have hbb := bwF_b (kd := kd) hpt b_5 b_13
      refine z_aloadn F (pc := 16) dX8_between_16 rfl (lv_at hl 0 rfl) ?_
      refine z_iloadn F (pc := 17) dX8_between_17 rfl (lv_at hl 1 rfl) ?_
      refine z_iloadn F (pc := 18) dX8_between_18 rfl (lv_at hl 2 rfl) ?_
      refine z_callVi F (pc := 19) hK hW hA (As := [.int (iI a), .int (iI b)]) (rest := []) (ws' := fun (u : (Int → Int) × (Int → Int)) => wR cI cZ aR xs ys lf ev nm lb kd pt so nu al ak ap u.1 u.2 rw cx cr cl ll tl ts tc sz mn ac en mg ln cn wc wp) (wr := ([])) (c_X8_betweenOf l D cI cZ aR xs ys lf ev nm lb kd pt so nu al ak ap he le rw cx cr cl ll tl ts tc sz mn ac en mg ln cn wc wp a b _ (by omega) (by omega) (by omega) (by exact hkd) (by exact hpt) (by omega)) (cwV 2 F.2.2.2.2 gX8_between_X8_betweenOf rfl rfl rfl (by decide +kernel) ⟨Nat.le_of_ble_eq_true rfl, Nat.le_of_ble_eq_true rfl⟩) [0, 1, 2, 3, 4, 5, 6, 7, 8, 9, 10, 11, 12, 13, 14, 15, 16, 17, 18, 19, 20, 21, 22, 23] [] [0, 1, 2, 3, 4, 5, 6, 7, 8, 9, 10, 11, 12, 13, 14, 15, 16, 17, 18, 19, 20, 21, 22, 23] rfl rfl (by decide) (by decide) (by decide) (fun _ => rfl) (by decide) (q0 := 0) (ci := 8) rfl rfl rfl rfl rfl hl.1 (Nat.le_of_ble_eq_true rfl) dX8_between_19 ⟨Nat.le_of_ble_eq_true rfl, Nat.le_of_ble_eq_true rfl⟩ (fun z_19 u H locs r_z_19 hp_19 hW => ?_)
      obtain ⟨he2_19, le2_19⟩ := u
      dsimp only at hp_19 hW
      replace hp_19 := hp_19.symm
      subst hp_19
      refine z_goto F (pc := 22) 26 dX8_between_22 (by decide) ?_
      exact hret _ _ _ _ (bwF pt kd a b) (he2_19, le2_19) dX8_between_26 (by omega) (by (try dsimp only) <;> (first | exact Or.inl ⟨by omega, rfl⟩ | exact Or.inr ⟨by omega, rfl⟩)) hW
