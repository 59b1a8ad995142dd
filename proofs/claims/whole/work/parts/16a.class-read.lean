set_option maxHeartbeats 4000000 in
set_option maxRecDepth 100000 in
theorem c_X3_add (l : Launch) (D : va_G) (cI cZ : ClassId) (aL : Nat → Nat) (rw fn fp : Int → Int) (ln fc : Int) (v : Int) (sz0 : Nat) (r_v : (-2147483648 ≤ v ∧ v < 2147483648)) (hln : 0 ≤ ln ∧ ln ≤ 40) : Met l yX3_add wsX3_add ({ frames := 0, cells := 0, slots := 0, locals := 0 } : Room) (zPc D cI cZ [.ref (aL 0), .int (iI v)] (wL cI cZ aL rw fn fp ln fc) sz0) (zQi D cI cZ (wL cI cZ aL rw fn fp ln fc) sz0 (fun (r : Int) (u : (Int → Int) × (Int)) => (zB r (ln < 40)) ∧ ((ln < 40 → u.1 = zU rw ln v ∧ u.2 = ln + 1) ∧ (¬ ln < 40 → u.1 = rw ∧ u.2 = ln))) (fun (u : (Int → Int) × (Int)) => wL cI cZ aL u.1 fn fp u.2 fc)) 0 0 (va_A (wL cI cZ aL rw fn fp ln fc) sz0) := by
  refine z_ofI (maxL := 2) (plainFor_of_name (by decide)) rfl (Nat.le_of_ble_eq_true rfl) (Or.inr ⟨rfl, fun z u h => zB_01 h.1⟩) ?_
  intro p e s m below meth c A ls Q F hK hW hA hl hret
  have hl : lv_has ls 2 [(0, .ref (aL 0)), (1, .int (iI v))] := hl
  have inX3 : ∀ w ∈ u_ws RX3 TX3 5, w ∈ wsX3_add := fun _ h => List.mem_cons_of_mem _ (List.mem_append_right _ h)
  refine z_aloadn F (pc := 0) dX3_add_0 rfl (lv_at hl 0 rfl) ?_
  refine z_get F (pc := 1) (C := RX3) (T := TX3) (N := 5) (ci := 3) inX3 hK hW 0 3 rfl rfl (by decide) rfl (List.mem_of_getElem? (i := 1) rfl) (v := .int (iI ln)) rfl dX3_add_1 ?_
  refine z_bipush F (pc := 4) (40) (by decide +kernel) dX3_add_4 ?_
  refine z_icmp_lt F (pc := 6) 11 dX3_add_6 (by decide) (by omega) (fun c_6 => ?_) (fun c_6 => ?_)
  · skip
    refine z_aloadn F (pc := 11) dX3_add_11 rfl (lv_at hl 0 rfl) ?_
    refine z_get F (pc := 12) (C := RX3) (T := TX3) (N := 5) (ci := 3) inX3 hK hW 0 0 rfl rfl (by decide) rfl (List.mem_of_getElem? (i := 2) rfl) (v := .ref (aL 1)) rfl dX3_add_12 ?_
    refine z_aloadn F (pc := 15) dX3_add_15 rfl (lv_at hl 0 rfl) ?_
    refine z_get F (pc := 16) (C := RX3) (T := TX3) (N := 5) (ci := 3) inX3 hK hW 0 3 rfl rfl (by decide) rfl (List.mem_of_getElem? (i := 1) rfl) (v := .int (iI ln)) rfl dX3_add_16 ?_
    refine z_iloadn F (pc := 19) dX3_add_19 rfl (lv_at hl 1 rfl) ?_
    refine z_iast F (pc := 20) hK hW (ws' := wL cI cZ aL (zU rw ln v) fn fp ln fc) 1 rfl (by decide) dX3_add_20 (by omega) rfl (fun H locs hW => ?_)
    refine z_aloadn F (pc := 21) dX3_add_21 rfl (lv_at hl 0 rfl) ?_
    refine z_dup F (pc := 22) dX3_add_22 rfl ?_
    refine z_get F (pc := 23) (C := RX3) (T := TX3) (N := 5) (ci := 3) inX3 hK hW 0 3 rfl rfl (by decide) rfl (List.mem_of_getElem? (i := 1) rfl) (v := .int (iI ln)) rfl dX3_add_23 ?_
    refine z_iconst F (pc := 26) (1) dX3_add_26 ?_
    refine z_iadd F (pc := 27) dX3_add_27 ?_
    refine z_put F (pc := 28) (C := RX3) (T := TX3) (N := 5) (ci := 3) inX3 tyX3 tyX3_ok nmX3 hK hW (ws' := wL cI cZ aL (zU rw ln v) fn fp (ln + 1) fc) 0 3 rfl rfl (by decide) rfl (List.mem_of_getElem? (i := 1) rfl) rfl rfl (Nat.le_of_ble_eq_true rfl) dX3_add_28 rfl (fun H locs hW => ?_)
    refine z_iconst F (pc := 31) (1) dX3_add_31 ?_
    exact hret _ _ _ _ 1 ((zU rw ln v), (ln + 1)) dX3_add_32 (by omega) (by (try dsimp only) <;> (exact ⟨zB_1 (by omega), fun _ => ⟨rfl, rfl⟩, fun h => by omega⟩)) hW
  · skip
    refine z_iconst F (pc := 9) (0) dX3_add_9 ?_
    exact hret _ _ _ _ 0 (rw, ln) dX3_add_10 (by omega) (by (try dsimp only) <;> (exact ⟨zB_0 (by omega), fun h => by omega, fun _ => ⟨rfl, rfl⟩⟩)) hW

set_option maxHeartbeats 4000000 in
set_option maxRecDepth 100000 in
theorem c_X3_empty (l : Launch) (D : va_G) (cI cZ : ClassId) (aL : Nat → Nat) (rw fn fp : Int → Int) (ln fc : Int) (sz0 : Nat) (hln : 0 ≤ ln ∧ ln ≤ 40) : Met l yX3_empty wsX3_empty ({ frames := 0, cells := 0, slots := 0, locals := 0 } : Room) (zPc D cI cZ [.ref (aL 0)] (wL cI cZ aL rw fn fp ln fc) sz0) (zQi D cI cZ (wL cI cZ aL rw fn fp ln fc) sz0 (fun (r : Int) (u : (Int)) => (r = ln) ∧ (u = 0)) (fun (u : (Int)) => wL cI cZ aL rw fn fp u fc)) 0 0 (va_A (wL cI cZ aL rw fn fp ln fc) sz0) := by
  refine z_ofI (maxL := 2) (plainFor_of_name (by decide)) rfl (Nat.le_of_ble_eq_true rfl) (Or.inl rfl) ?_
  intro p e s m below meth c A ls Q F hK hW hA hl hret
  have hl : lv_has ls 2 [(0, .ref (aL 0))] := hl
  have inX3 : ∀ w ∈ u_ws RX3 TX3 5, w ∈ wsX3_empty := fun _ h => List.mem_cons_of_mem _ (List.mem_append_right _ h)
  refine z_aloadn F (pc := 0) dX3_empty_0 rfl (lv_at hl 0 rfl) ?_
  refine z_get F (pc := 1) (C := RX3) (T := TX3) (N := 5) (ci := 3) inX3 hK hW 0 3 rfl rfl (by decide) rfl (List.mem_of_getElem? (i := 1) rfl) (v := .int (iI ln)) rfl dX3_empty_1 ?_
  refine z_istoren F (pc := 4) hl (lv' := [(1, .int (iI ln)), (0, .ref (aL 0))]) dX3_empty_4 rfl (by decide) rfl (fun ls hl => ?_)
  refine z_aloadn F (pc := 5) dX3_empty_5 rfl (lv_at hl 1 rfl) ?_
  refine z_iconst F (pc := 6) (0) dX3_empty_6 ?_
  refine z_put F (pc := 7) (C := RX3) (T := TX3) (N := 5) (ci := 3) inX3 tyX3 tyX3_ok nmX3 hK hW (ws' := wL cI cZ aL rw fn fp 0 fc) 0 3 rfl rfl (by decide) rfl (List.mem_of_getElem? (i := 1) rfl) rfl rfl (Nat.le_of_ble_eq_true rfl) dX3_empty_7 rfl (fun H locs hW => ?_)
  refine z_iloadn F (pc := 10) dX3_empty_10 rfl (lv_at hl 0 rfl) ?_
  exact hret _ _ _ _ ln 0 dX3_empty_11 (by omega) (by exact ⟨rfl, rfl⟩) hW

set_option maxHeartbeats 4000000 in
set_option maxRecDepth 100000 in
theorem c_X7_ends (l : Launch) (D : va_G) (cI cZ : ClassId) (aB aD aM aA aS aC aL aT : Nat → Nat) (di : Int → Int) (en mg : Int) (e1 m1 : Int) (sz0 : Nat) (r_e1 : (-2147483648 ≤ e1 ∧ e1 < 2147483648)) (r_m1 : (-2147483648 ≤ m1 ∧ m1 < 2147483648)) : Met l yX7_ends wsX7_ends ({ frames := 1, cells := 0, slots := 0, locals := 21 } : Room) (zPc D cI cZ [.ref (aB 0), .int (iI e1), .int (iI m1)] (wB cI cZ aB aD aM aA aS aC aL aT di en mg) sz0) (zQi D cI cZ (wB cI cZ aB aD aM aA aS aC aL aT di en mg) sz0 (fun (r : Int) (u : (Int) × (Int)) => endsP en mg e1 m1 u.1 u.2 r) (fun (u : (Int) × (Int)) => wB cI cZ aB aD aM aA aS aC aL aT di u.1 u.2)) 0 0 (va_A (wB cI cZ aB aD aM aA aS aC aL aT di en mg) sz0) := by
  refine z_ofI (maxL := 3) (plainFor_of_name (by decide)) rfl (Nat.le_of_ble_eq_true rfl) (Or.inl rfl) ?_
  intro p e s m below meth c A ls Q F hK hW hA hl hret
  have hl : lv_has ls 3 [(0, .ref (aB 0)), (1, .int (iI e1)), (2, .int (iI m1))] := hl
  have inX7 : ∀ w ∈ u_ws RX7 TX7 10, w ∈ wsX7_ends := fun _ h => List.mem_cons_of_mem _ (List.mem_append_right _ h)
  refine z_iloadn F (pc := 0) dX7_ends_0 rfl (lv_at hl 1 rfl) ?_
  refine z_ldc F (pc := 1) (100000) (by decide +kernel) (List.mem_of_getElem? (i := 1) rfl) dX7_ends_1 ?_
  refine z_callSi F (pc := 3) hK hW hA (As := [.int (iI e1), .int (iI 100000)]) (rest := []) (c_X7_isWithin l D cI cZ e1 100000 _ (by omega) (by omega)) (va_cwS 2 F.2.2.2.2 gX7_ends_X7_isWithin rfl rfl rfl (by decide +kernel) ⟨Nat.le_of_ble_eq_true rfl, Nat.le_of_ble_eq_true rfl⟩) rfl rfl hl.1 (Nat.le_of_ble_eq_true rfl) dX7_ends_3 ⟨Nat.le_of_ble_eq_true rfl, Nat.le_of_ble_eq_true rfl⟩ (fun z_3 H locs r_z_3 hp_3 hW => ?_)
  refine z_if_eq F (pc := 6) 18 dX7_ends_6 (by decide) (by omega) (fun c_6 => ?_) (fun c_6 => ?_)
  · skip
    have b_6 := zB_f hp_3 c_6
    refine z_iconst F (pc := 18) (-1) dX7_ends_18 ?_
    exact hret _ _ _ _ (-1) (en, mg) dX7_ends_19 (by omega) (by (try dsimp only) <;> (unfold endsP; omega)) hW
  · skip
    have b_6 := zB_t hp_3 c_6
    refine z_iloadn F (pc := 9) dX7_ends_9 rfl (lv_at hl 2 rfl) ?_
    refine z_ldc F (pc := 10) (100000) (by decide +kernel) (List.mem_of_getElem? (i := 1) rfl) dX7_ends_10 ?_
    refine z_callSi F (pc := 12) hK hW hA (As := [.int (iI m1), .int (iI 100000)]) (rest := []) (c_X7_isWithin l D cI cZ m1 100000 _ (by omega) (by omega)) (va_cwS 2 F.2.2.2.2 gX7_ends_X7_isWithin rfl rfl rfl (by decide +kernel) ⟨Nat.le_of_ble_eq_true rfl, Nat.le_of_ble_eq_true rfl⟩) rfl rfl hl.1 (Nat.le_of_ble_eq_true rfl) dX7_ends_12 ⟨Nat.le_of_ble_eq_true rfl, Nat.le_of_ble_eq_true rfl⟩ (fun z_12 H locs r_z_12 hp_12 hW => ?_)
    refine z_if_ne F (pc := 15) 20 dX7_ends_15 (by decide) (by omega) (fun c_15 => ?_) (fun c_15 => ?_)
    · skip
      have b_15 := zB_t hp_12 c_15
      refine z_aloadn F (pc := 20) dX7_ends_20 rfl (lv_at hl 0 rfl) ?_
      refine z_iloadn F (pc := 21) dX7_ends_21 rfl (lv_at hl 1 rfl) ?_
      refine z_put F (pc := 22) (C := RX7) (T := TX7) (N := 10) (ci := 7) inX7 tyX7 tyX7_ok nmX7 hK hW (ws' := wB cI cZ aB aD aM aA aS aC aL aT di e1 mg) 0 8 rfl rfl (by decide) rfl (List.mem_of_getElem? (i := 2) rfl) rfl rfl (Nat.le_of_ble_eq_true rfl) dX7_ends_22 rfl (fun H locs hW => ?_)
      refine z_aloadn F (pc := 25) dX7_ends_25 rfl (lv_at hl 0 rfl) ?_
      refine z_iloadn F (pc := 26) dX7_ends_26 rfl (lv_at hl 2 rfl) ?_
      refine z_put F (pc := 27) (C := RX7) (T := TX7) (N := 10) (ci := 7) inX7 tyX7 tyX7_ok nmX7 hK hW (ws' := wB cI cZ aB aD aM aA aS aC aL aT di e1 m1) 0 9 rfl rfl (by decide) rfl (List.mem_of_getElem? (i := 3) rfl) rfl rfl (Nat.le_of_ble_eq_true rfl) dX7_ends_27 rfl (fun H locs hW => ?_)
      refine z_iconst F (pc := 30) (1) dX7_ends_30 ?_
      exact hret _ _ _ _ 1 (e1, m1) dX7_ends_31 (by omega) (by (try dsimp only) <;> (unfold endsP; omega)) hW
    · skip
      have b_15 := zB_f hp_12 c_15
      refine z_iconst F (pc := 18) (-1) dX7_ends_18 ?_
      exact hret _ _ _ _ (-1) (en, mg) dX7_ends_19 (by omega) (by (try dsimp only) <;> (unfold endsP; omega)) hW

set_option maxHeartbeats 4000000 in
set_option maxRecDepth 100000 in
theorem c_X7_distance (l : Launch) (D : va_G) (cI cZ : ClassId) (aB aD aM aA aS aC aL aT : Nat → Nat) (di xs ys lf ev nm lb kd pt he ar le : Int → Int) (en mg sz mn : Int) (k : Int) (sz0 : Nat) (r_k : (-2147483648 ≤ k ∧ k < 2147483648)) (hd : Dok xs ys lf sz) (hm : (0 ≤ mn ∧ mn ≤ 16)) (hkd : Kok kd mn) (hpt : Pok pt mn) : Met l yX7_distance wsX7_distance ({ frames := 5, cells := 0, slots := 0, locals := 124 } : Room) (zPc D cI cZ [.ref (aB 0), .int (iI k)] (wB cI cZ aB aD aM aA aS aC aL aT di en mg ++ wD cI cZ aD xs ys lf ev nm sz ++ wM cI cZ aM lb kd pt mn ++ wS cI cZ aS he ar le) sz0) (zQi D cI cZ (wB cI cZ aB aD aM aA aS aC aL aT di en mg ++ wD cI cZ aD xs ys lf ev nm sz ++ wM cI cZ aM lb kd pt mn ++ wS cI cZ aS he ar le) sz0 (fun (r : Int) (u : (Int → Int) × (Int → Int) × (Int → Int) × (Int → Int) × (Int → Int)) => distR xs ys lf sz pt kd mn k r) (fun (u : (Int → Int) × (Int → Int) × (Int → Int) × (Int → Int) × (Int → Int)) => wB cI cZ aB aD aM aA aS aC aL aT di en mg ++ wD cI cZ aD xs ys lf u.1 u.2.1 sz ++ wM cI cZ aM lb kd pt mn ++ wS cI cZ aS u.2.2.1 u.2.2.2.1 u.2.2.2.2)) 0 0 (va_A (wB cI cZ aB aD aM aA aS aC aL aT di en mg ++ wD cI cZ aD xs ys lf ev nm sz ++ wM cI cZ aM lb kd pt mn ++ wS cI cZ aS he ar le) sz0) := by
  refine z_ofI (maxL := 2) (plainFor_of_name (by decide)) rfl (Nat.le_of_ble_eq_true rfl) (Or.inl rfl) ?_
  intro p e s m below meth c A ls Q F hK hW hA hl hret
  have hl : lv_has ls 2 [(0, .ref (aB 0)), (1, .int (iI k))] := hl
  have inX2 : ∀ w ∈ u_ws RX2 TX2 6, w ∈ wsX7_distance := fun _ h => List.mem_cons_of_mem _ (List.mem_append_left _ (List.mem_append_left _ (List.mem_append_right _ h)))
  have inX7 : ∀ w ∈ u_ws RX7 TX7 10, w ∈ wsX7_distance := fun _ h => List.mem_cons_of_mem _ (List.mem_append_left _ (List.mem_append_left _ (List.mem_append_left _ (List.mem_append_right _ h))))
  refine z_aloadn F (pc := 0) dX7_distance_0 rfl (lv_at hl 0 rfl) ?_
  refine z_get F (pc := 1) (C := RX7) (T := TX7) (N := 10) (ci := 7) inX7 hK hW 0 1 rfl rfl (by decide) rfl (List.mem_of_getElem? (i := 1) rfl) (v := .ref (aM 0)) rfl dX7_distance_1 ?_
  refine z_iloadn F (pc := 4) dX7_distance_4 rfl (lv_at hl 1 rfl) ?_
  refine z_callVi F (pc := 5) hK hW hA (As := [.int (iI k)]) (rest := []) (ws' := fun (u : Unit) => wB cI cZ aB aD aM aA aS aC aL aT di en mg ++ wD cI cZ aD xs ys lf ev nm sz ++ wM cI cZ aM lb kd pt mn ++ wS cI cZ aS he ar le) (wr := (wB cI cZ aB aD aM aA aS aC aL aT di en mg ++ wD cI cZ aD xs ys lf ev nm sz ++ wS cI cZ aS he ar le)) (c_X6_has l D cI cZ aM lb kd pt mn k _ (by omega) (by omega)) (cwV 1 F.2.2.2.2 gX7_distance_X6_has rfl rfl rfl (by decide +kernel) ⟨Nat.le_of_ble_eq_true rfl, Nat.le_of_ble_eq_true rfl⟩) [8, 9, 10, 11] [0, 1, 2, 3, 4, 5, 6, 7, 12, 13, 14, 15] [0, 1, 2, 3, 4, 5, 6, 7, 12, 13, 14, 15, 8, 9, 10, 11] rfl rfl (by decide) (by decide) (by decide) (fun _ => rfl) (by decide) (q0 := 8) (ci := 6) rfl rfl rfl rfl rfl hl.1 (Nat.le_of_ble_eq_true rfl) dX7_distance_5 ⟨Nat.le_of_ble_eq_true rfl, Nat.le_of_ble_eq_true rfl⟩ (fun z_5 u H locs r_z_5 hp_5 hW => ?_)
  refine z_if_ne F (pc := 8) 13 dX7_distance_8 (by decide) (by omega) (fun c_8 => ?_) (fun c_8 => ?_)
  · skip
    have b_8 := zB_t hp_5 c_8
    refine z_aloadn F (pc := 13) dX7_distance_13 rfl (lv_at hl 0 rfl) ?_
    refine z_get F (pc := 14) (C := RX7) (T := TX7) (N := 10) (ci := 7) inX7 hK hW 0 0 rfl rfl (by decide) rfl (List.mem_of_getElem? (i := 2) rfl) (v := .ref (aD 0)) rfl dX7_distance_14 ?_
    refine z_callVi F (pc := 17) hK hW hA (As := []) (rest := []) (ws' := fun (u : (Int → Int) × (Int → Int)) => wB cI cZ aB aD aM aA aS aC aL aT di en mg ++ wD cI cZ aD xs ys lf u.1 u.2 sz ++ wM cI cZ aM lb kd pt mn ++ wS cI cZ aS he ar le) (wr := (wB cI cZ aB aD aM aA aS aC aL aT di en mg ++ wM cI cZ aM lb kd pt mn ++ wS cI cZ aS he ar le)) (c_X2_makeNormal l D cI cZ aD xs ys lf ev nm sz _ (by exact hd)) (cwV 0 F.2.2.2.2 gX7_distance_X2_makeNormal rfl rfl rfl (by decide +kernel) ⟨Nat.le_of_ble_eq_true rfl, Nat.le_of_ble_eq_true rfl⟩) [2, 3, 4, 5, 6, 7] [0, 1, 8, 9, 10, 11, 12, 13, 14, 15] [0, 1, 10, 11, 12, 13, 14, 15, 2, 3, 4, 5, 6, 7, 8, 9] rfl rfl (by decide) (by decide) (by decide) (fun _ => rfl) (by decide) (q0 := 2) (ci := 2) rfl rfl rfl rfl rfl hl.1 (Nat.le_of_ble_eq_true rfl) dX7_distance_17 ⟨Nat.le_of_ble_eq_true rfl, Nat.le_of_ble_eq_true rfl⟩ (fun z_17 u H locs r_z_17 hp_17 hW => ?_)
    obtain ⟨ev2_17, nm2_17⟩ := u
    dsimp only at hp_17 hW
    obtain ⟨hb_17, hp_17⟩ := hp_17
    refine z_if_ne F (pc := 20) 26 dX7_distance_20 (by decide) (by omega) (fun c_20 => ?_) (fun c_20 => ?_)
    · skip
      have b_20 := zB_t hb_17 c_20
      have hNm := hp_17 b_20
      have hN := NmOf_in hNm
      have hdb := dn_b (kd := kd) hN hpt b_8
      refine z_aloadn F (pc := 26) dX7_distance_26 rfl (lv_at hl 0 rfl) ?_
      refine z_get F (pc := 27) (C := RX7) (T := TX7) (N := 10) (ci := 7) inX7 hK hW 0 3 rfl rfl (by decide) rfl (List.mem_of_getElem? (i := 3) rfl) (v := .ref (aS 0)) rfl dX7_distance_27 ?_
      refine z_aloadn F (pc := 30) dX7_distance_30 rfl (lv_at hl 0 rfl) ?_
      refine z_get F (pc := 31) (C := RX7) (T := TX7) (N := 10) (ci := 7) inX7 hK hW 0 0 rfl rfl (by decide) rfl (List.mem_of_getElem? (i := 2) rfl) (v := .ref (aD 0)) rfl dX7_distance_31 ?_
      refine z_get F (pc := 34) (C := RX2) (T := TX2) (N := 6) (ci := 2) inX2 hK hW 2 4 rfl rfl (by decide) rfl (List.mem_of_getElem? (i := 4) rfl) (v := .ref (aD 5)) rfl dX7_distance_34 ?_
      refine z_iconst F (pc := 37) (0) dX7_distance_37 ?_
      refine z_aloadn F (pc := 38) dX7_distance_38 rfl (lv_at hl 0 rfl) ?_
      refine z_get F (pc := 39) (C := RX7) (T := TX7) (N := 10) (ci := 7) inX7 hK hW 0 1 rfl rfl (by decide) rfl (List.mem_of_getElem? (i := 1) rfl) (v := .ref (aM 0)) rfl dX7_distance_39 ?_
      refine z_iloadn F (pc := 42) dX7_distance_42 rfl (lv_at hl 1 rfl) ?_
      refine z_callVi F (pc := 43) hK hW hA (As := [.ref (aD 5), .int (iI 0), .ref (aM 0), .int (iI k)]) (rest := []) (ws' := fun (u : (Int → Int) × (Int → Int) × (Int → Int)) => wB cI cZ aB aD aM aA aS aC aL aT di en mg ++ wD cI cZ aD xs ys lf ev2_17 nm2_17 sz ++ wM cI cZ aM lb kd pt mn ++ wS cI cZ aS u.1 u.2.1 u.2.2) (wr := (wB cI cZ aB aD aM aA aS aC aL aT di en mg)) (c_X4_distanceFromD l D cI cZ aS aM aD he ar le lb kd pt xs ys lf ev2_17 nm2_17 mn sz 0 k _ (by omega) (by omega) (by omega) (by omega) (by omega) (by exact fun j j0 j1 => hN j j0 (by omega)) (by exact Pok_in hpt b_8) (by exact hkd k b_8.1 b_8.2)) (cwV 4 F.2.2.2.2 gX7_distance_X4_distanceFrom rfl rfl rfl (by decide +kernel) ⟨Nat.le_of_ble_eq_true rfl, Nat.le_of_ble_eq_true rfl⟩) [12, 13, 14, 15, 8, 9, 10, 11, 2, 3, 4, 5, 6, 7] [0, 1] [0, 1, 10, 11, 12, 13, 14, 15, 6, 7, 8, 9, 2, 3, 4, 5] rfl rfl (by decide) (by decide) (by decide) (fun _ => rfl) (by decide) (q0 := 12) (ci := 4) rfl rfl rfl rfl rfl hl.1 (Nat.le_of_ble_eq_true rfl) dX7_distance_43 ⟨Nat.le_of_ble_eq_true rfl, Nat.le_of_ble_eq_true rfl⟩ (fun z_43 u H locs r_z_43 hp_43 hW => ?_)
      obtain ⟨he2_43, ar2_43, le2_43⟩ := u
      dsimp only at hp_43 hW
      replace hp_43 := hp_43.symm
      subst hp_43
      refine z_eqi (y := dn nm2_17 pt kd k) (by exact dF_cong (eqH_nm _ _) _ _ _) ?_
      exact hret _ _ _ _ (dn nm2_17 pt kd k) (ev2_17, nm2_17, he2_43, ar2_43, le2_43) dX7_distance_46 (by omega) (by (try dsimp only) <;> (exact Or.inr (Or.inr ⟨b_8, b_20, nm2_17, hNm, rfl⟩))) hW
    · skip
      have b_20 := zB_f hb_17 c_20
      refine z_bipush F (pc := 23) (-2) (by decide +kernel) dX7_distance_23 ?_
      exact hret _ _ _ _ (-2) (ev2_17, nm2_17, he, ar, le) dX7_distance_25 (by omega) (by (try dsimp only) <;> (exact Or.inr (Or.inl ⟨b_8, by omega, rfl⟩))) hW
  · skip
    have b_8 := zB_f hp_5 c_8
    refine z_iconst F (pc := 11) (-1) dX7_distance_11 ?_
    exact hret _ _ _ _ (-1) (ev, nm, he, ar, le) dX7_distance_12 (by omega) (by (try dsimp only) <;> (exact Or.inl ⟨b_8, rfl⟩)) hW

set_option maxHeartbeats 4000000 in
set_option maxRecDepth 100000 in
theorem c_X7_measureDraft (l : Launch) (D : va_G) (cI cZ : ClassId) (aB aD aM aA aS aC aL aT : Nat → Nat) (di xs ys lf ev nm lb kd pt he ar le : Int → Int) (en mg sz mn : Int) (sz0 : Nat) (hd : Dok xs ys lf sz) (hm : (0 ≤ mn ∧ mn ≤ 16)) (hkd : Kok kd mn) (hpt : Pok pt mn) : Met l yX7_measureDraft wsX7_measureDraft ({ frames := 5, cells := 0, slots := 0, locals := 124 } : Room) (zPc D cI cZ [.ref (aB 0)] (wB cI cZ aB aD aM aA aS aC aL aT di en mg ++ wD cI cZ aD xs ys lf ev nm sz ++ wM cI cZ aM lb kd pt mn ++ wS cI cZ aS he ar le) sz0) (zQi D cI cZ (wB cI cZ aB aD aM aA aS aC aL aT di en mg ++ wD cI cZ aD xs ys lf ev nm sz ++ wM cI cZ aM lb kd pt mn ++ wS cI cZ aS he ar le) sz0 (fun (r : Int) (u : (Int → Int) × (Int → Int) × (Int → Int) × (Int → Int) × (Int → Int) × (Int → Int)) => zH ((wy xs ys lf sz = 0 ∧ r = -2) ∨ (¬ wy xs ys lf sz = 0 ∧ mn = 0 ∧ r = -4) ∨ (¬ wy xs ys lf sz = 0 ∧ 0 < mn ∧ NmOf xs ys lf sz u.2.2.1 ∧ nearT u.2.2.1 pt kd mn r ∧ ∀ k, 0 ≤ k → k < mn → u.1 k = dn u.2.2.1 pt kd k))) (fun (u : (Int → Int) × (Int → Int) × (Int → Int) × (Int → Int) × (Int → Int) × (Int → Int)) => wB cI cZ aB aD aM aA aS aC aL aT u.1 en mg ++ wD cI cZ aD xs ys lf u.2.1 u.2.2.1 sz ++ wM cI cZ aM lb kd pt mn ++ wS cI cZ aS u.2.2.2.1 u.2.2.2.2.1 u.2.2.2.2.2)) 0 0 (va_A (wB cI cZ aB aD aM aA aS aC aL aT di en mg ++ wD cI cZ aD xs ys lf ev nm sz ++ wM cI cZ aM lb kd pt mn ++ wS cI cZ aS he ar le) sz0) := by
  refine z_ofI (maxL := 3) (plainFor_of_name (by decide)) rfl (Nat.le_of_ble_eq_true rfl) (Or.inl rfl) ?_
  intro p e s m below meth c A ls Q F hK hW hA hl hret
  have hl : lv_has ls 3 [(0, .ref (aB 0))] := hl
  have inX2 : ∀ w ∈ u_ws RX2 TX2 6, w ∈ wsX7_measureDraft := fun _ h => List.mem_cons_of_mem _ (List.mem_append_left _ (List.mem_append_right _ h))
  have inX6 : ∀ w ∈ u_ws RX6 TX6 4, w ∈ wsX7_measureDraft := fun _ h => List.mem_cons_of_mem _ (List.mem_append_left _ (List.mem_append_left _ (List.mem_append_right _ h)))
  have inX7 : ∀ w ∈ u_ws RX7 TX7 10, w ∈ wsX7_measureDraft := fun _ h => List.mem_cons_of_mem _ (List.mem_append_left _ (List.mem_append_left _ (List.mem_append_left _ (List.mem_append_right _ h))))
  refine z_aloadn F (pc := 0) dX7_measureDraft_0 rfl (lv_at hl 0 rfl) ?_
  refine z_get F (pc := 1) (C := RX7) (T := TX7) (N := 10) (ci := 7) inX7 hK hW 0 0 rfl rfl (by decide) rfl (List.mem_of_getElem? (i := 1) rfl) (v := .ref (aD 0)) rfl dX7_measureDraft_1 ?_
  refine z_callVi F (pc := 4) hK hW hA (As := []) (rest := []) (ws' := fun (u : (Int → Int) × (Int → Int)) => wB cI cZ aB aD aM aA aS aC aL aT di en mg ++ wD cI cZ aD xs ys lf u.1 u.2 sz ++ wM cI cZ aM lb kd pt mn ++ wS cI cZ aS he ar le) (wr := (wB cI cZ aB aD aM aA aS aC aL aT di en mg ++ wM cI cZ aM lb kd pt mn ++ wS cI cZ aS he ar le)) (c_X2_makeNormal l D cI cZ aD xs ys lf ev nm sz _ (by exact hd)) (cwV 0 F.2.2.2.2 gX7_measureDraft_X2_makeNormal rfl rfl rfl (by decide +kernel) ⟨Nat.le_of_ble_eq_true rfl, Nat.le_of_ble_eq_true rfl⟩) [2, 3, 4, 5, 6, 7] [0, 1, 8, 9, 10, 11, 12, 13, 14, 15] [0, 1, 10, 11, 12, 13, 14, 15, 2, 3, 4, 5, 6, 7, 8, 9] rfl rfl (by decide) (by decide) (by decide) (fun _ => rfl) (by decide) (q0 := 2) (ci := 2) rfl rfl rfl rfl rfl hl.1 (Nat.le_of_ble_eq_true rfl) dX7_measureDraft_4 ⟨Nat.le_of_ble_eq_true rfl, Nat.le_of_ble_eq_true rfl⟩ (fun z_4 u H locs r_z_4 hp_4 hW => ?_)
  obtain ⟨ev2_4, nm2_4⟩ := u
  dsimp only at hp_4 hW
  obtain ⟨hb_4, hp_4⟩ := hp_4
  refine z_if_ne F (pc := 7) 13 dX7_measureDraft_7 (by decide) (by omega) (fun c_7 => ?_) (fun c_7 => ?_)
  · skip
    have b_7 := zB_t hb_4 c_7
    have hNm := hp_4 b_7
    have hN := NmOf_in hNm
    refine z_aloadn F (pc := 13) dX7_measureDraft_13 rfl (lv_at hl 0 rfl) ?_
    refine z_get F (pc := 14) (C := RX7) (T := TX7) (N := 10) (ci := 7) inX7 hK hW 0 1 rfl rfl (by decide) rfl (List.mem_of_getElem? (i := 2) rfl) (v := .ref (aM 0)) rfl dX7_measureDraft_14 ?_
    refine z_get F (pc := 17) (C := RX6) (T := TX6) (N := 4) (ci := 6) inX6 hK hW 8 3 rfl rfl (by decide) rfl (List.mem_of_getElem? (i := 3) rfl) (v := .int (iI mn)) rfl dX7_measureDraft_17 ?_
    refine z_if_ne F (pc := 20) 26 dX7_measureDraft_20 (by decide) (by omega) (fun c_20 => ?_) (fun c_20 => ?_)
    · skip
      refine z_iconst F (pc := 26) (0) dX7_measureDraft_26 ?_
      refine z_istoren F (pc := 27) hl (lv' := [(1, .int (iI 0)), (0, .ref (aB 0))]) dX7_measureDraft_27 rfl (by decide) rfl (fun ls hl => ?_)
      refine z_iconst F (pc := 28) (0) dX7_measureDraft_28 ?_
      refine z_istoren F (pc := 29) hl (lv' := [(2, .int (iI 0)), (1, .int (iI 0)), (0, .ref (aB 0))]) dX7_measureDraft_29 rfl (by decide) rfl (fun ls hl => ?_)
      have cut_30 : ∀ (fuel : Nat) (bs : Int) (t : Int) (d1 : Int → Int) (h1 : Int → Int) (ar1 : Int → Int) (le1 : Int → Int) (H : Heap) (locs : List Loc) (ls : Array Slot), (mn - t).toNat < fuel → (0 ≤ t ∧ t ≤ mn) → (0 ≤ bs ∧ bs < mn ∧ (bs < t ∨ bs = 0)) → (∀ k, 0 ≤ k → k < t → d1 k = dn nm2_4 pt kd k) → (0 < t → nearT nm2_4 pt kd t bs) → lv_has ls 3 [(2, .int (iI t)), (1, .int (iI bs)), (0, .ref (aB 0))] → zW D A s.heap H locs (wB cI cZ aB aD aM aA aS aC aL aT d1 en mg ++ wD cI cZ aD xs ys lf ev2_4 nm2_4 sz ++ wM cI cZ aM lb kd pt mn ++ wS cI cZ aS h1 ar1 le1) → W p l e ({ frames := 5, cells := 0, slots := 0, locals := 124 } : Room) s m ([.ref (aB 0)] : List Value).toArray below meth c H locs 0 0 Q (F0 m 30 ls []) := by
        intro fuel
        induction fuel with
        | zero => intro bs t d1 h1 ar1 le1 H locs ls hm; exact absurd hm (Nat.not_lt_zero _)
        | succ fuel ih_30 =>
          intro bs t d1 h1 ar1 le1 H locs ls hm_30 g1 g2 g3 g4 hl hW
          refine z_iloadn F (pc := 30) dX7_measureDraft_30 rfl (lv_at hl 0 rfl) ?_
          refine z_aloadn F (pc := 31) dX7_measureDraft_31 rfl (lv_at hl 2 rfl) ?_
          refine z_get F (pc := 32) (C := RX7) (T := TX7) (N := 10) (ci := 7) inX7 hK hW 0 1 rfl rfl (by decide) rfl (List.mem_of_getElem? (i := 2) rfl) (v := .ref (aM 0)) rfl dX7_measureDraft_32 ?_
          refine z_get F (pc := 35) (C := RX6) (T := TX6) (N := 4) (ci := 6) inX6 hK hW 8 3 rfl rfl (by decide) rfl (List.mem_of_getElem? (i := 3) rfl) (v := .int (iI mn)) rfl dX7_measureDraft_35 ?_
          refine z_icmp_ge F (pc := 38) 90 dX7_measureDraft_38 (by decide) (by omega) (fun c_38 => ?_) (fun c_38 => ?_)
          · skip
            have et : t = mn := by omega
            rw [et] at g3 g4
            refine z_iloadn F (pc := 90) dX7_measureDraft_90 rfl (lv_at hl 1 rfl) ?_
            exact hret _ _ _ _ bs (d1, ev2_4, nm2_4, h1, ar1, le1) dX7_measureDraft_91 (by omega) (by (try dsimp only) <;> (exact Or.inr (Or.inr ⟨b_7, by omega, hNm, g4 (by omega), g3⟩))) hW
          · skip
            have hdt := dn_b (kd := kd) hN hpt (k := t) ⟨g1.1, by omega⟩
            have hdbs := dn_b (kd := kd) hN hpt (k := bs) ⟨g2.1, by omega⟩
            refine z_aloadn F (pc := 41) dX7_measureDraft_41 rfl (lv_at hl 2 rfl) ?_
            refine z_get F (pc := 42) (C := RX7) (T := TX7) (N := 10) (ci := 7) inX7 hK hW 0 7 rfl rfl (by decide) rfl (List.mem_of_getElem? (i := 4) rfl) (v := .ref (aB 1)) rfl dX7_measureDraft_42 ?_
            refine z_iloadn F (pc := 45) dX7_measureDraft_45 rfl (lv_at hl 0 rfl) ?_
            refine z_aloadn F (pc := 46) dX7_measureDraft_46 rfl (lv_at hl 2 rfl) ?_
            refine z_get F (pc := 47) (C := RX7) (T := TX7) (N := 10) (ci := 7) inX7 hK hW 0 3 rfl rfl (by decide) rfl (List.mem_of_getElem? (i := 5) rfl) (v := .ref (aS 0)) rfl dX7_measureDraft_47 ?_
            refine z_aloadn F (pc := 50) dX7_measureDraft_50 rfl (lv_at hl 2 rfl) ?_
            refine z_get F (pc := 51) (C := RX7) (T := TX7) (N := 10) (ci := 7) inX7 hK hW 0 0 rfl rfl (by decide) rfl (List.mem_of_getElem? (i := 1) rfl) (v := .ref (aD 0)) rfl dX7_measureDraft_51 ?_
            refine z_get F (pc := 54) (C := RX2) (T := TX2) (N := 6) (ci := 2) inX2 hK hW 2 4 rfl rfl (by decide) rfl (List.mem_of_getElem? (i := 6) rfl) (v := .ref (aD 5)) rfl dX7_measureDraft_54 ?_
            refine z_iconst F (pc := 57) (0) dX7_measureDraft_57 ?_
            refine z_aloadn F (pc := 58) dX7_measureDraft_58 rfl (lv_at hl 2 rfl) ?_
            refine z_get F (pc := 59) (C := RX7) (T := TX7) (N := 10) (ci := 7) inX7 hK hW 0 1 rfl rfl (by decide) rfl (List.mem_of_getElem? (i := 2) rfl) (v := .ref (aM 0)) rfl dX7_measureDraft_59 ?_
            refine z_iloadn F (pc := 62) dX7_measureDraft_62 rfl (lv_at hl 0 rfl) ?_
            refine z_callVi F (pc := 63) hK hW hA (As := [.ref (aD 5), .int (iI 0), .ref (aM 0), .int (iI t)]) (rest := [.int (iI t), .ref (aB 1)]) (ws' := fun (u : (Int → Int) × (Int → Int) × (Int → Int)) => wB cI cZ aB aD aM aA aS aC aL aT d1 en mg ++ wD cI cZ aD xs ys lf ev2_4 nm2_4 sz ++ wM cI cZ aM lb kd pt mn ++ wS cI cZ aS u.1 u.2.1 u.2.2) (wr := (wB cI cZ aB aD aM aA aS aC aL aT d1 en mg)) (c_X4_distanceFromD l D cI cZ aS aM aD h1 ar1 le1 lb kd pt xs ys lf ev2_4 nm2_4 mn sz 0 t _ (by omega) (by omega) (by omega) (by omega) (by omega) (by exact fun j j0 j1 => hN j j0 (by omega)) (by exact Pok_in hpt ⟨g1.1, by omega⟩) (by exact hkd t g1.1 (by omega))) (cwV 4 F.2.2.2.2 gX7_measureDraft_X4_distanceFrom rfl rfl rfl (by decide +kernel) ⟨Nat.le_of_ble_eq_true rfl, Nat.le_of_ble_eq_true rfl⟩) [12, 13, 14, 15, 8, 9, 10, 11, 2, 3, 4, 5, 6, 7] [0, 1] [0, 1, 10, 11, 12, 13, 14, 15, 6, 7, 8, 9, 2, 3, 4, 5] rfl rfl (by decide) (by decide) (by decide) (fun _ => rfl) (by decide) (q0 := 12) (ci := 4) rfl rfl rfl rfl rfl hl.1 (Nat.le_of_ble_eq_true rfl) dX7_measureDraft_63 ⟨Nat.le_of_ble_eq_true rfl, Nat.le_of_ble_eq_true rfl⟩ (fun z_63 u H locs r_z_63 hp_63 hW => ?_)
            obtain ⟨he2_63, ar2_63, le2_63⟩ := u
            dsimp only at hp_63 hW
            replace hp_63 := hp_63.symm
            subst hp_63
            refine z_eqi (y := dn nm2_4 pt kd t) (by exact dF_cong (eqH_nm _ _) _ _ _) ?_
            refine z_iast F (pc := 66) hK hW (ws' := wB cI cZ aB aD aM aA aS aC aL aT (zU d1 t (dn nm2_4 pt kd t)) en mg ++ wD cI cZ aD xs ys lf ev2_4 nm2_4 sz ++ wM cI cZ aM lb kd pt mn ++ wS cI cZ aS he2_63 ar2_63 le2_63) 1 rfl (by decide) dX7_measureDraft_66 (by omega) rfl (fun H locs hW => ?_)
            have hdk : ∀ k, 0 ≤ k → k < t + 1 → zU d1 t (dn nm2_4 pt kd t) k = dn nm2_4 pt kd k := by
              intro k k0 k1
              by_cases e : k = t
              · rw [e, zU_s]
              · rw [zU_n _ _ e]; exact g3 k k0 (by omega)
            have hx1 := hdk t g1.1 (by omega)
            have hx2 := hdk bs g2.1 (by omega)
            refine z_aloadn F (pc := 67) dX7_measureDraft_67 rfl (lv_at hl 2 rfl) ?_
            refine z_get F (pc := 68) (C := RX7) (T := TX7) (N := 10) (ci := 7) inX7 hK hW 0 7 rfl rfl (by decide) rfl (List.mem_of_getElem? (i := 4) rfl) (v := .ref (aB 1)) rfl dX7_measureDraft_68 ?_
            refine z_iloadn F (pc := 71) dX7_measureDraft_71 rfl (lv_at hl 0 rfl) ?_
            refine z_iald F (pc := 72) hK hW 1 rfl (by decide) dX7_measureDraft_72 (by omega) ?_
            refine z_aloadn F (pc := 73) dX7_measureDraft_73 rfl (lv_at hl 2 rfl) ?_
            refine z_get F (pc := 74) (C := RX7) (T := TX7) (N := 10) (ci := 7) inX7 hK hW 0 7 rfl rfl (by decide) rfl (List.mem_of_getElem? (i := 4) rfl) (v := .ref (aB 1)) rfl dX7_measureDraft_74 ?_
            refine z_iloadn F (pc := 77) dX7_measureDraft_77 rfl (lv_at hl 1 rfl) ?_
            refine z_iald F (pc := 78) hK hW 1 rfl (by decide) dX7_measureDraft_78 (by omega) ?_
            refine z_icmp_ge F (pc := 79) 84 dX7_measureDraft_79 (by decide) (by omega) (fun c_79 => ?_) (fun c_79 => ?_)
            · skip
              have hst : 0 < t + 1 → nearT nm2_4 pt kd (t + 1) bs := by
                intro _
                have b : dn nm2_4 pt kd bs ≤ dn nm2_4 pt kd t := by omega
                by_cases e0 : t = 0
                · have e1 : bs = 0 := by omega
                  refine ⟨⟨by omega, by omega⟩, fun k k0 k1 => ?_, fun k k0 k1 => by omega⟩
                  rw [show k = bs by omega]; exact Int.le_refl _
                · have q := g4 (by omega)
                  refine ⟨⟨q.1.1, by omega⟩, fun k k0 k1 => ?_, q.2.2⟩
                  by_cases e : k = t
                  · rw [e]; exact b
                  · exact q.2.1 k k0 (by omega)
              refine z_iinc F (pc := 84) hl (lv' := [(2, .int (iI (t + 1))), (1, .int (iI bs)), (0, .ref (aB 0))]) dX7_measureDraft_84 (k := 0) rfl (by decide) rfl (fun ls hl => ?_)
              refine z_goto F (pc := 87) 30 dX7_measureDraft_87 (by decide) ?_
              exact ih_30 bs (t + 1) (zU d1 t (dn nm2_4 pt kd t)) he2_63 ar2_63 le2_63 _ _ _ (by omega) (by omega) (by omega) (by exact hdk) (by exact hst) (lv_sub hl [0, 1, 2] rfl) hW
            · skip
              have hst : 0 < t + 1 → nearT nm2_4 pt kd (t + 1) t := by
                intro _
                have b : dn nm2_4 pt kd t < dn nm2_4 pt kd bs := by omega
                by_cases e0 : t = 0
                · have e1 : bs = 0 := by omega
                  rw [e0, e1] at b; omega
                · have q := g4 (by omega)
                  refine ⟨⟨g1.1, by omega⟩, fun k k0 k1 => ?_, fun k k0 k1 => ?_⟩
                  · by_cases e : k = t
                    · rw [e]; exact Int.le_refl _
                    · have a := q.2.1 k k0 (by omega); omega
                  · have a := q.2.1 k k0 k1; omega
              refine z_iloadn F (pc := 82) dX7_measureDraft_82 rfl (lv_at hl 0 rfl) ?_
              refine z_istoren F (pc := 83) hl (lv' := [(1, .int (iI t)), (2, .int (iI t)), (0, .ref (aB 0))]) dX7_measureDraft_83 rfl (by decide) rfl (fun ls hl => ?_)
              refine z_iinc F (pc := 84) hl (lv' := [(2, .int (iI (t + 1))), (1, .int (iI t)), (0, .ref (aB 0))]) dX7_measureDraft_84 (k := 1) rfl (by decide) rfl (fun ls hl => ?_)
              refine z_goto F (pc := 87) 30 dX7_measureDraft_87 (by decide) ?_
              exact ih_30 t (t + 1) (zU d1 t (dn nm2_4 pt kd t)) he2_63 ar2_63 le2_63 _ _ _ (by omega) (by omega) (by omega) (by exact hdk) (by exact hst) (lv_sub hl [0, 1, 2] rfl) hW
      exact cut_30 _ 0 0 di he ar le _ _ _ (Nat.lt_succ_self _) (by omega) (by omega) (by intro k k0 k1; omega) (by intro h; omega) (lv_sub hl [0, 1, 2] rfl) hW
    · skip
      refine z_bipush F (pc := 23) (-4) (by decide +kernel) dX7_measureDraft_23 ?_
      exact hret _ _ _ _ (-4) (di, ev2_4, nm2_4, he, ar, le) dX7_measureDraft_25 (by omega) (by (try dsimp only) <;> (exact Or.inr (Or.inl ⟨b_7, by omega, rfl⟩))) hW
  · skip
    have b_7 := zB_f hb_4 c_7
    refine z_bipush F (pc := 10) (-2) (by decide +kernel) dX7_measureDraft_10 ?_
    exact hret _ _ _ _ (-2) (di, ev2_4, nm2_4, he, ar, le) dX7_measureDraft_12 (by omega) (by (try dsimp only) <;> (exact Or.inl ⟨by omega, rfl⟩)) hW

def goodD (di lb : Int → Int) (mn en mg b : Int) : Prop := di b ≤ en ∧ ∀ k, 0 ≤ k → k < mn → lb k = lb b ∨ di b + mg ≤ di k
def labR (di lb : Int → Int) (mn en mg b r : Int) : Prop := (¬ (0 ≤ b ∧ b < mn) ∧ r = b) ∨ ((0 ≤ b ∧ b < mn) ∧ ((goodD di lb mn en mg b ∧ r = lb b) ∨ (¬ goodD di lb mn en mg b ∧ r = -5)))

set_option maxHeartbeats 4000000 in
set_option maxRecDepth 100000 in
theorem c_X7_labelRead (l : Launch) (D : va_G) (cI cZ : ClassId) (aB aD aM aA aS aC aL aT : Nat → Nat) (di lb kd pt : Int → Int) (en mg mn : Int) (b : Int) (sz0 : Nat) (r_b : (-2147483648 ≤ b ∧ b < 2147483648)) (hm : (0 ≤ mn ∧ mn ≤ 16)) (hlb : Lok lb mn) (he9 : (0 ≤ en ∧ en ≤ 100000) ∧ (0 ≤ mg ∧ mg ≤ 100000)) (hdi : (0 ≤ b ∧ b < mn) → ∀ k, 0 ≤ k → k < mn → 0 ≤ di k ∧ di k ≤ 32000) : Met l yX7_labelRead wsX7_labelRead ({ frames := 1, cells := 0, slots := 0, locals := 21 } : Room) (zPc D cI cZ [.ref (aB 0), .int (iI b)] (wB cI cZ aB aD aM aA aS aC aL aT di en mg ++ wM cI cZ aM lb kd pt mn) sz0) (zQi D cI cZ (wB cI cZ aB aD aM aA aS aC aL aT di en mg ++ wM cI cZ aM lb kd pt mn) sz0 (fun (r : Int) (u : Unit) => labR di lb mn en mg b r) (fun (u : Unit) => wB cI cZ aB aD aM aA aS aC aL aT di en mg ++ wM cI cZ aM lb kd pt mn)) 0 0 (va_A (wB cI cZ aB aD aM aA aS aC aL aT di en mg ++ wM cI cZ aM lb kd pt mn) sz0) := by
  refine z_ofI (maxL := 4) (plainFor_of_name (by decide)) rfl (Nat.le_of_ble_eq_true rfl) (Or.inl rfl) ?_
  intro p e s m below meth c A ls Q F hK hW hA hl hret
  have hl : lv_has ls 4 [(0, .ref (aB 0)), (1, .int (iI b))] := hl
  have inX6 : ∀ w ∈ u_ws RX6 TX6 4, w ∈ wsX7_labelRead := fun _ h => List.mem_cons_of_mem _ (List.mem_append_right _ h)
  have inX7 : ∀ w ∈ u_ws RX7 TX7 10, w ∈ wsX7_labelRead := fun _ h => List.mem_cons_of_mem _ (List.mem_append_left _ (List.mem_append_right _ h))
  refine z_aloadn F (pc := 0) dX7_labelRead_0 rfl (lv_at hl 0 rfl) ?_
  refine z_get F (pc := 1) (C := RX7) (T := TX7) (N := 10) (ci := 7) inX7 hK hW 0 1 rfl rfl (by decide) rfl (List.mem_of_getElem? (i := 1) rfl) (v := .ref (aM 0)) rfl dX7_labelRead_1 ?_
  refine z_iloadn F (pc := 4) dX7_labelRead_4 rfl (lv_at hl 1 rfl) ?_
  refine z_callVi F (pc := 5) hK hW hA (As := [.int (iI b)]) (rest := []) (ws' := fun (u : Unit) => wB cI cZ aB aD aM aA aS aC aL aT di en mg ++ wM cI cZ aM lb kd pt mn) (wr := (wB cI cZ aB aD aM aA aS aC aL aT di en mg)) (c_X6_has l D cI cZ aM lb kd pt mn b _ (by omega) (by omega)) (cwV 1 F.2.2.2.2 gX7_labelRead_X6_has rfl rfl rfl (by decide +kernel) ⟨Nat.le_of_ble_eq_true rfl, Nat.le_of_ble_eq_true rfl⟩) [2, 3, 4, 5] [0, 1] [0, 1, 2, 3, 4, 5] rfl rfl (by decide) (by decide) (by decide) (fun _ => rfl) (by decide) (q0 := 2) (ci := 6) rfl rfl rfl rfl rfl hl.1 (Nat.le_of_ble_eq_true rfl) dX7_labelRead_5 ⟨Nat.le_of_ble_eq_true rfl, Nat.le_of_ble_eq_true rfl⟩ (fun z_5 u H locs r_z_5 hp_5 hW => ?_)
  refine z_if_ne F (pc := 8) 13 dX7_labelRead_8 (by decide) (by omega) (fun c_8 => ?_) (fun c_8 => ?_)
  · skip
    have b_8 := zB_t hp_5 c_8
    have hd9 := hdi b_8
    have hb1 := hd9 b b_8.1 b_8.2
    have hl1 := hlb b b_8.1 b_8.2
    refine z_aloadn F (pc := 13) dX7_labelRead_13 rfl (lv_at hl 0 rfl) ?_
    refine z_get F (pc := 14) (C := RX7) (T := TX7) (N := 10) (ci := 7) inX7 hK hW 0 1 rfl rfl (by decide) rfl (List.mem_of_getElem? (i := 1) rfl) (v := .ref (aM 0)) rfl dX7_labelRead_14 ?_
    refine z_get F (pc := 17) (C := RX6) (T := TX6) (N := 4) (ci := 6) inX6 hK hW 2 0 rfl rfl (by decide) rfl (List.mem_of_getElem? (i := 2) rfl) (v := .ref (aM 1)) rfl dX7_labelRead_17 ?_
    refine z_iloadn F (pc := 20) dX7_labelRead_20 rfl (lv_at hl 1 rfl) ?_
    refine z_iald F (pc := 21) hK hW 3 rfl (by decide) dX7_labelRead_21 (by omega) ?_
    refine z_istoren F (pc := 22) hl (lv' := [(2, .int (iI (lb b))), (0, .ref (aB 0)), (1, .int (iI b))]) dX7_labelRead_22 rfl (by decide) rfl (fun ls hl => ?_)
    refine z_aloadn F (pc := 23) dX7_labelRead_23 rfl (lv_at hl 1 rfl) ?_
    refine z_get F (pc := 24) (C := RX7) (T := TX7) (N := 10) (ci := 7) inX7 hK hW 0 7 rfl rfl (by decide) rfl (List.mem_of_getElem? (i := 3) rfl) (v := .ref (aB 1)) rfl dX7_labelRead_24 ?_
    refine z_iloadn F (pc := 27) dX7_labelRead_27 rfl (lv_at hl 2 rfl) ?_
    refine z_iald F (pc := 28) hK hW 1 rfl (by decide) dX7_labelRead_28 (by omega) ?_
    refine z_aloadn F (pc := 29) dX7_labelRead_29 rfl (lv_at hl 1 rfl) ?_
    refine z_get F (pc := 30) (C := RX7) (T := TX7) (N := 10) (ci := 7) inX7 hK hW 0 8 rfl rfl (by decide) rfl (List.mem_of_getElem? (i := 4) rfl) (v := .int (iI en)) rfl dX7_labelRead_30 ?_
    refine z_icmp_le F (pc := 33) 39 dX7_labelRead_33 (by decide) (by omega) (fun c_33 => ?_) (fun c_33 => ?_)
    · skip
      refine z_iconst F (pc := 39) (0) dX7_labelRead_39 ?_
      refine z_istoren F (pc := 40) hl (lv' := [(3, .int (iI 0)), (2, .int (iI (lb b))), (0, .ref (aB 0)), (1, .int (iI b))]) dX7_labelRead_40 rfl (by decide) rfl (fun ls hl => ?_)
      have cut_41 : ∀ (fuel : Nat) (t : Int) (H : Heap) (locs : List Loc) (ls : Array Slot), (mn - t).toNat < fuel → (0 ≤ t ∧ t ≤ mn) → (∀ k, 0 ≤ k → k < t → lb k = lb b ∨ di b + mg ≤ di k) → lv_has ls 4 [(3, .int (iI t)), (2, .int (iI (lb b))), (0, .ref (aB 0)), (1, .int (iI b))] → zW D A s.heap H locs (wB cI cZ aB aD aM aA aS aC aL aT di en mg ++ wM cI cZ aM lb kd pt mn) → W p l e ({ frames := 1, cells := 0, slots := 0, locals := 21 } : Room) s m ([.ref (aB 0), .int (iI b)] : List Value).toArray below meth c H locs 0 0 Q (F0 m 41 ls []) := by
        intro fuel
        induction fuel with
        | zero => intro t H locs ls hm; exact absurd hm (Nat.not_lt_zero _)
        | succ fuel ih_41 =>
          intro t H locs ls hm_41 g1 g2 hl hW
          refine z_iloadn F (pc := 41) dX7_labelRead_41 rfl (lv_at hl 0 rfl) ?_
          refine z_aloadn F (pc := 42) dX7_labelRead_42 rfl (lv_at hl 2 rfl) ?_
          refine z_get F (pc := 43) (C := RX7) (T := TX7) (N := 10) (ci := 7) inX7 hK hW 0 1 rfl rfl (by decide) rfl (List.mem_of_getElem? (i := 1) rfl) (v := .ref (aM 0)) rfl dX7_labelRead_43 ?_
          refine z_get F (pc := 46) (C := RX6) (T := TX6) (N := 4) (ci := 6) inX6 hK hW 2 3 rfl rfl (by decide) rfl (List.mem_of_getElem? (i := 5) rfl) (v := .int (iI mn)) rfl dX7_labelRead_46 ?_
          refine z_icmp_ge F (pc := 49) 94 dX7_labelRead_49 (by decide) (by omega) (fun c_49 => ?_) (fun c_49 => ?_)
          · skip
            refine z_iloadn F (pc := 94) dX7_labelRead_94 rfl (lv_at hl 1 rfl) ?_
            exact hret _ _ _ _ (lb b) () dX7_labelRead_95 (by omega) (by exact Or.inr ⟨b_8, Or.inl ⟨⟨by omega, fun k k0 k1 => g2 k k0 (by omega)⟩, rfl⟩⟩) hW
          · skip
            have hlt := hlb t g1.1 (by omega)
            have hdt := hd9 t g1.1 (by omega)
            refine z_aloadn F (pc := 52) dX7_labelRead_52 rfl (lv_at hl 2 rfl) ?_
            refine z_get F (pc := 53) (C := RX7) (T := TX7) (N := 10) (ci := 7) inX7 hK hW 0 1 rfl rfl (by decide) rfl (List.mem_of_getElem? (i := 1) rfl) (v := .ref (aM 0)) rfl dX7_labelRead_53 ?_
            refine z_get F (pc := 56) (C := RX6) (T := TX6) (N := 4) (ci := 6) inX6 hK hW 2 0 rfl rfl (by decide) rfl (List.mem_of_getElem? (i := 2) rfl) (v := .ref (aM 1)) rfl dX7_labelRead_56 ?_
            refine z_iloadn F (pc := 59) dX7_labelRead_59 rfl (lv_at hl 0 rfl) ?_
            refine z_iald F (pc := 60) hK hW 3 rfl (by decide) dX7_labelRead_60 (by omega) ?_
            refine z_iloadn F (pc := 61) dX7_labelRead_61 rfl (lv_at hl 1 rfl) ?_
            refine z_icmp_eq F (pc := 62) 88 dX7_labelRead_62 (by decide) (by omega) (fun c_62 => ?_) (fun c_62 => ?_)
            · skip
              refine z_iinc F (pc := 88) hl (lv' := [(3, .int (iI (t + 1))), (2, .int (iI (lb b))), (0, .ref (aB 0)), (1, .int (iI b))]) dX7_labelRead_88 (k := 0) rfl (by decide) rfl (fun ls hl => ?_)
              refine z_goto F (pc := 91) 41 dX7_labelRead_91 (by decide) ?_
              exact ih_41 (t + 1) _ _ _ (by omega) (by omega) (by intro k k0 k1; (by_cases e : k = t) <;> first | (rw [e]; omega) | exact g2 k k0 (by omega)) (lv_sub hl [0, 1, 2, 3] rfl) hW
            · skip
              refine z_aloadn F (pc := 65) dX7_labelRead_65 rfl (lv_at hl 2 rfl) ?_
              refine z_get F (pc := 66) (C := RX7) (T := TX7) (N := 10) (ci := 7) inX7 hK hW 0 7 rfl rfl (by decide) rfl (List.mem_of_getElem? (i := 3) rfl) (v := .ref (aB 1)) rfl dX7_labelRead_66 ?_
              refine z_iloadn F (pc := 69) dX7_labelRead_69 rfl (lv_at hl 0 rfl) ?_
              refine z_iald F (pc := 70) hK hW 1 rfl (by decide) dX7_labelRead_70 (by omega) ?_
              refine z_aloadn F (pc := 71) dX7_labelRead_71 rfl (lv_at hl 2 rfl) ?_
              refine z_get F (pc := 72) (C := RX7) (T := TX7) (N := 10) (ci := 7) inX7 hK hW 0 7 rfl rfl (by decide) rfl (List.mem_of_getElem? (i := 3) rfl) (v := .ref (aB 1)) rfl dX7_labelRead_72 ?_
              refine z_iloadn F (pc := 75) dX7_labelRead_75 rfl (lv_at hl 3 rfl) ?_
              refine z_iald F (pc := 76) hK hW 1 rfl (by decide) dX7_labelRead_76 (by omega) ?_
              refine z_isub F (pc := 77) dX7_labelRead_77 ?_
              refine z_aloadn F (pc := 78) dX7_labelRead_78 rfl (lv_at hl 2 rfl) ?_
              refine z_get F (pc := 79) (C := RX7) (T := TX7) (N := 10) (ci := 7) inX7 hK hW 0 9 rfl rfl (by decide) rfl (List.mem_of_getElem? (i := 6) rfl) (v := .int (iI mg)) rfl dX7_labelRead_79 ?_
              refine z_icmp_ge F (pc := 82) 88 dX7_labelRead_82 (by decide) (by omega) (fun c_82 => ?_) (fun c_82 => ?_)
              · skip
                refine z_iinc F (pc := 88) hl (lv' := [(3, .int (iI (t + 1))), (2, .int (iI (lb b))), (0, .ref (aB 0)), (1, .int (iI b))]) dX7_labelRead_88 (k := 0) rfl (by decide) rfl (fun ls hl => ?_)
                refine z_goto F (pc := 91) 41 dX7_labelRead_91 (by decide) ?_
                exact ih_41 (t + 1) _ _ _ (by omega) (by omega) (by intro k k0 k1; (by_cases e : k = t) <;> first | (rw [e]; omega) | exact g2 k k0 (by omega)) (lv_sub hl [0, 1, 2, 3] rfl) hW
              · skip
                refine z_bipush F (pc := 85) (-5) (by decide +kernel) dX7_labelRead_85 ?_
                exact hret _ _ _ _ (-5) () dX7_labelRead_87 (by omega) (by exact Or.inr ⟨b_8, Or.inr ⟨fun z => by have := z.2 t g1.1 (by omega); omega, rfl⟩⟩) hW
      exact cut_41 _ 0 _ _ _ (Nat.lt_succ_self _) (by omega) (by intro k k0 k1; omega) (lv_sub hl [0, 1, 2, 3] rfl) hW
    · skip
      refine z_bipush F (pc := 36) (-5) (by decide +kernel) dX7_labelRead_36 ?_
      exact hret _ _ _ _ (-5) () dX7_labelRead_38 (by omega) (by exact Or.inr ⟨b_8, Or.inr ⟨fun z => absurd z.1 (by omega), rfl⟩⟩) hW
  · skip
    have b_8 := zB_f hp_5 c_8
    refine z_iloadn F (pc := 11) dX7_labelRead_11 rfl (lv_at hl 1 rfl) ?_
    exact hret _ _ _ _ b () dX7_labelRead_12 (by omega) (by exact Or.inl ⟨b_8, rfl⟩) hW

theorem read_of {xs ys lf : Int → Int} {sz : Int} {nm pt kd lb di : Int → Int} {mn en mg b r : Int} (hmn : 0 ≤ mn) (h : (wy xs ys lf sz = 0 ∧ b = -2) ∨ (¬ wy xs ys lf sz = 0 ∧ mn = 0 ∧ b = -4) ∨ (¬ wy xs ys lf sz = 0 ∧ 0 < mn ∧ NmOf xs ys lf sz nm ∧ nearT nm pt kd mn b ∧ ∀ k, 0 ≤ k → k < mn → di k = dn nm pt kd k)) (h2 : labR di lb mn en mg b r) : readR xs ys lf sz pt kd lb mn en mg r := by
  rcases h with ⟨a1, a2⟩ | ⟨a1, a2, a3⟩ | ⟨a1, a2, a3, a4, a5⟩
  · rcases h2 with ⟨b1, b2⟩ | ⟨b1, b2⟩
    · exact Or.inl ⟨a1, by omega⟩
    · omega
  · rcases h2 with ⟨b1, b2⟩ | ⟨b1, b2⟩
    · exact Or.inr (Or.inl ⟨a1, a2, by omega⟩)
    · omega
  · have e : goodD di lb mn en mg b ↔ goodR nm pt kd lb mn en mg b := by
      unfold goodD goodR
      rw [a5 b a4.1.1 a4.1.2]
      constructor
      · exact fun z => ⟨z.1, fun k k0 k1 => by have := z.2 k k0 k1; rw [a5 k k0 k1] at this; exact this⟩
      · exact fun z => ⟨z.1, fun k k0 k1 => by have := z.2 k k0 k1; rw [a5 k k0 k1]; exact this⟩
    rcases h2 with ⟨b1, b2⟩ | ⟨b1, b2⟩
    · exact absurd a4.1 b1
    · rw [e] at b2
      exact Or.inr (Or.inr ⟨a1, a2, nm, b, a3, a4, b2⟩)
theorem readR_r {xs ys lf : Int → Int} {sz : Int} {pt kd lb : Int → Int} {mn en mg r : Int} (hl : Lok lb mn) (h : readR xs ys lf sz pt kd lb mn en mg r) : -5 ≤ r ∧ r ≤ 9 := by
  rcases h with ⟨a, b⟩ | ⟨a, b, c⟩ | ⟨a, b, nm, k, c, d, z⟩
  · omega
  · omega
  · have := hl k d.1.1 d.1.2
    rcases z with ⟨_, z⟩ | ⟨_, z⟩ <;> omega

set_option maxHeartbeats 4000000 in
set_option maxRecDepth 100000 in
theorem c_X7_nearest (l : Launch) (D : va_G) (cI cZ : ClassId) (aB aD aM aA aS aC aL aT : Nat → Nat) (di xs ys lf ev nm lb kd pt he ar le : Int → Int) (en mg sz mn : Int) (sz0 : Nat) (hd : Dok xs ys lf sz) (hm : (0 ≤ mn ∧ mn ≤ 16)) (hkd : Kok kd mn) (hpt : Pok pt mn) : Met l yX7_nearest wsX7_nearest ({ frames := 6, cells := 0, slots := 0, locals := 146 } : Room) (zPc D cI cZ [.ref (aB 0)] (wB cI cZ aB aD aM aA aS aC aL aT di en mg ++ wD cI cZ aD xs ys lf ev nm sz ++ wM cI cZ aM lb kd pt mn ++ wS cI cZ aS he ar le) sz0) (zQi D cI cZ (wB cI cZ aB aD aM aA aS aC aL aT di en mg ++ wD cI cZ aD xs ys lf ev nm sz ++ wM cI cZ aM lb kd pt mn ++ wS cI cZ aS he ar le) sz0 (fun (r : Int) (u : (Int → Int) × (Int → Int) × (Int → Int) × (Int → Int) × (Int → Int) × (Int → Int)) => nearR xs ys lf sz pt kd mn r) (fun (u : (Int → Int) × (Int → Int) × (Int → Int) × (Int → Int) × (Int → Int) × (Int → Int)) => wB cI cZ aB aD aM aA aS aC aL aT u.1 en mg ++ wD cI cZ aD xs ys lf u.2.1 u.2.2.1 sz ++ wM cI cZ aM lb kd pt mn ++ wS cI cZ aS u.2.2.2.1 u.2.2.2.2.1 u.2.2.2.2.2)) 0 0 (va_A (wB cI cZ aB aD aM aA aS aC aL aT di en mg ++ wD cI cZ aD xs ys lf ev nm sz ++ wM cI cZ aM lb kd pt mn ++ wS cI cZ aS he ar le) sz0) := by
  refine z_ofI (maxL := 1) (plainFor_of_name (by decide)) rfl (Nat.le_of_ble_eq_true rfl) (Or.inl rfl) ?_
  intro p e s m below meth c A ls Q F hK hW hA hl hret
  have hl : lv_has ls 1 [(0, .ref (aB 0))] := hl
  refine z_aloadn F (pc := 0) dX7_nearest_0 rfl (lv_at hl 0 rfl) ?_
  refine z_callVi F (pc := 1) hK hW hA (As := []) (rest := []) (ws' := fun (u : (Int → Int) × (Int → Int) × (Int → Int) × (Int → Int) × (Int → Int) × (Int → Int)) => wB cI cZ aB aD aM aA aS aC aL aT u.1 en mg ++ wD cI cZ aD xs ys lf u.2.1 u.2.2.1 sz ++ wM cI cZ aM lb kd pt mn ++ wS cI cZ aS u.2.2.2.1 u.2.2.2.2.1 u.2.2.2.2.2) (wr := ([])) (c_X7_measureDraft l D cI cZ aB aD aM aA aS aC aL aT di xs ys lf ev nm lb kd pt he ar le en mg sz mn _ (by exact hd) (by omega) (by exact hkd) (by exact hpt)) (cwV 0 F.2.2.2.2 gX7_nearest_X7_measureDraft rfl rfl rfl (by decide +kernel) ⟨Nat.le_of_ble_eq_true rfl, Nat.le_of_ble_eq_true rfl⟩) [0, 1, 2, 3, 4, 5, 6, 7, 8, 9, 10, 11, 12, 13, 14, 15] [] [0, 1, 2, 3, 4, 5, 6, 7, 8, 9, 10, 11, 12, 13, 14, 15] rfl rfl (by decide) (by decide) (by decide) (fun _ => rfl) (by decide) (q0 := 0) (ci := 7) rfl rfl rfl rfl rfl hl.1 (Nat.le_of_ble_eq_true rfl) dX7_nearest_1 ⟨Nat.le_of_ble_eq_true rfl, Nat.le_of_ble_eq_true rfl⟩ (fun z_1 u H locs r_z_1 hp_1 hW => ?_)
  obtain ⟨di2_1, ev2_1, nm2_1, he2_1, ar2_1, le2_1⟩ := u
  dsimp only at hp_1 hW
  exact hret _ _ _ _ z_1 (di2_1, ev2_1, nm2_1, he2_1, ar2_1, le2_1) dX7_nearest_4 (by omega) (by (try dsimp only) <;> (exact hp_1.o.elim (fun q => Or.inl q) (fun q => q.elim (fun q => Or.inr (Or.inl q)) (fun q => Or.inr (Or.inr ⟨q.1, q.2.1, nm2_1, q.2.2.1, q.2.2.2.1⟩))))) hW

set_option maxHeartbeats 4000000 in
set_option maxRecDepth 100000 in
theorem c_X7_read (l : Launch) (D : va_G) (cI cZ : ClassId) (aB aD aM aA aS aC aL aT : Nat → Nat) (di xs ys lf ev nm lb kd pt he ar le : Int → Int) (en mg sz mn : Int) (sz0 : Nat) (hd : Dok xs ys lf sz) (hm : (0 ≤ mn ∧ mn ≤ 16)) (hkd : Kok kd mn) (hpt : Pok pt mn) (hlb : Lok lb mn) (he9 : (0 ≤ en ∧ en ≤ 100000) ∧ (0 ≤ mg ∧ mg ≤ 100000)) : Met l yX7_read wsX7_read ({ frames := 6, cells := 0, slots := 0, locals := 146 } : Room) (zPc D cI cZ [.ref (aB 0)] (wB cI cZ aB aD aM aA aS aC aL aT di en mg ++ wD cI cZ aD xs ys lf ev nm sz ++ wM cI cZ aM lb kd pt mn ++ wS cI cZ aS he ar le) sz0) (zQi D cI cZ (wB cI cZ aB aD aM aA aS aC aL aT di en mg ++ wD cI cZ aD xs ys lf ev nm sz ++ wM cI cZ aM lb kd pt mn ++ wS cI cZ aS he ar le) sz0 (fun (r : Int) (u : (Int → Int) × (Int → Int) × (Int → Int) × (Int → Int) × (Int → Int) × (Int → Int)) => readR xs ys lf sz pt kd lb mn en mg r) (fun (u : (Int → Int) × (Int → Int) × (Int → Int) × (Int → Int) × (Int → Int) × (Int → Int)) => wB cI cZ aB aD aM aA aS aC aL aT u.1 en mg ++ wD cI cZ aD xs ys lf u.2.1 u.2.2.1 sz ++ wM cI cZ aM lb kd pt mn ++ wS cI cZ aS u.2.2.2.1 u.2.2.2.2.1 u.2.2.2.2.2)) 0 0 (va_A (wB cI cZ aB aD aM aA aS aC aL aT di en mg ++ wD cI cZ aD xs ys lf ev nm sz ++ wM cI cZ aM lb kd pt mn ++ wS cI cZ aS he ar le) sz0) := by
  refine z_ofI (maxL := 1) (plainFor_of_name (by decide)) rfl (Nat.le_of_ble_eq_true rfl) (Or.inl rfl) ?_
  intro p e s m below meth c A ls Q F hK hW hA hl hret
  have hl : lv_has ls 1 [(0, .ref (aB 0))] := hl
  refine z_aloadn F (pc := 0) dX7_read_0 rfl (lv_at hl 0 rfl) ?_
  refine z_aloadn F (pc := 1) dX7_read_1 rfl (lv_at hl 0 rfl) ?_
  refine z_callVi F (pc := 2) hK hW hA (As := []) (rest := [.ref (aB 0)]) (ws' := fun (u : (Int → Int) × (Int → Int) × (Int → Int) × (Int → Int) × (Int → Int) × (Int → Int)) => wB cI cZ aB aD aM aA aS aC aL aT u.1 en mg ++ wD cI cZ aD xs ys lf u.2.1 u.2.2.1 sz ++ wM cI cZ aM lb kd pt mn ++ wS cI cZ aS u.2.2.2.1 u.2.2.2.2.1 u.2.2.2.2.2) (wr := ([])) (c_X7_measureDraft l D cI cZ aB aD aM aA aS aC aL aT di xs ys lf ev nm lb kd pt he ar le en mg sz mn _ (by exact hd) (by omega) (by exact hkd) (by exact hpt)) (cwV 0 F.2.2.2.2 gX7_read_X7_measureDraft rfl rfl rfl (by decide +kernel) ⟨Nat.le_of_ble_eq_true rfl, Nat.le_of_ble_eq_true rfl⟩) [0, 1, 2, 3, 4, 5, 6, 7, 8, 9, 10, 11, 12, 13, 14, 15] [] [0, 1, 2, 3, 4, 5, 6, 7, 8, 9, 10, 11, 12, 13, 14, 15] rfl rfl (by decide) (by decide) (by decide) (fun _ => rfl) (by decide) (q0 := 0) (ci := 7) rfl rfl rfl rfl rfl hl.1 (Nat.le_of_ble_eq_true rfl) dX7_read_2 ⟨Nat.le_of_ble_eq_true rfl, Nat.le_of_ble_eq_true rfl⟩ (fun z_2 u H locs r_z_2 hp_2 hW => ?_)
  obtain ⟨di2_2, ev2_2, nm2_2, he2_2, ar2_2, le2_2⟩ := u
  dsimp only at hp_2 hW
  have hdi9 : (0 ≤ z_2 ∧ z_2 < mn) → ∀ k, 0 ≤ k → k < mn → 0 ≤ di2_2 k ∧ di2_2 k ≤ 32000 := by
    intro hz k k0 k1
    rcases hp_2.o with ⟨a1, a2⟩ | ⟨a1, a2, a3⟩ | ⟨a1, a2, a3, a4, a5⟩
    · omega
    · omega
    · rw [a5 k k0 k1]; exact dn_b (NmOf_in a3) hpt ⟨k0, k1⟩
  refine z_callVi F (pc := 5) hK hW hA (As := [.int (iI z_2)]) (rest := []) (ws' := fun (u : Unit) => wB cI cZ aB aD aM aA aS aC aL aT di2_2 en mg ++ wD cI cZ aD xs ys lf ev2_2 nm2_2 sz ++ wM cI cZ aM lb kd pt mn ++ wS cI cZ aS he2_2 ar2_2 le2_2) (wr := (wD cI cZ aD xs ys lf ev2_2 nm2_2 sz ++ wS cI cZ aS he2_2 ar2_2 le2_2)) (c_X7_labelRead l D cI cZ aB aD aM aA aS aC aL aT di2_2 lb kd pt en mg mn z_2 _ (by omega) (by omega) (by exact hlb) (by omega) (by exact hdi9)) (cwV 1 F.2.2.2.2 gX7_read_X7_labelRead rfl rfl rfl (by decide +kernel) ⟨Nat.le_of_ble_eq_true rfl, Nat.le_of_ble_eq_true rfl⟩) [0, 1, 8, 9, 10, 11] [2, 3, 4, 5, 6, 7, 12, 13, 14, 15] [10, 11, 0, 1, 2, 3, 4, 5, 12, 13, 14, 15, 6, 7, 8, 9] rfl rfl (by decide) (by decide) (by decide) (fun _ => rfl) (by decide) (q0 := 0) (ci := 7) rfl rfl rfl rfl rfl hl.1 (Nat.le_of_ble_eq_true rfl) dX7_read_5 ⟨Nat.le_of_ble_eq_true rfl, Nat.le_of_ble_eq_true rfl⟩ (fun z_5 u H locs r_z_5 hp_5 hW => ?_)
  have hR := read_of hm.1 hp_2.o hp_5
  exact hret _ _ _ _ z_5 (di2_2, ev2_2, nm2_2, he2_2, ar2_2, le2_2) dX7_read_8 (by omega) (by (try dsimp only) <;> (exact hR)) hW

set_option maxHeartbeats 4000000 in
set_option maxRecDepth 100000 in
theorem c_X7_mark (l : Launch) (D : va_G) (cI cZ : ClassId) (aB aD aM aA aS aC aL aT : Nat → Nat) (di xs ys lf ev nm lb kd pt he ar le rw fn fp : Int → Int) (en mg sz mn ln fc : Int) (sz0 : Nat) (hd : Dok xs ys lf sz) (hm : (0 ≤ mn ∧ mn ≤ 16)) (hkd : Kok kd mn) (hpt : Pok pt mn) (hlb : Lok lb mn) (he9 : (0 ≤ en ∧ en ≤ 100000) ∧ (0 ≤ mg ∧ mg ≤ 100000)) (hln : 0 ≤ ln ∧ ln ≤ 40) : Met l yX7_mark wsX7_mark ({ frames := 6, cells := 0, slots := 0, locals := 146 } : Room) (zPc D cI cZ [.ref (aB 0)] (wB cI cZ aB aD aM aA aS aC aL aT di en mg ++ wD cI cZ aD xs ys lf ev nm sz ++ wM cI cZ aM lb kd pt mn ++ wS cI cZ aS he ar le ++ wL cI cZ aL rw fn fp ln fc) sz0) (zQi D cI cZ (wB cI cZ aB aD aM aA aS aC aL aT di en mg ++ wD cI cZ aD xs ys lf ev nm sz ++ wM cI cZ aM lb kd pt mn ++ wS cI cZ aS he ar le ++ wL cI cZ aL rw fn fp ln fc) sz0 (fun (r : Int) (u : (Int → Int) × (Int → Int) × (Int → Int) × (Int) × (Int → Int) × (Int → Int) × (Int → Int) × (Int → Int) × (Int)) => markR (readR xs ys lf sz pt kd lb mn en mg) rw ln sz u.2.2.2.2.2.2.2.1 u.2.2.2.2.2.2.2.2 u.2.2.2.1 r) (fun (u : (Int → Int) × (Int → Int) × (Int → Int) × (Int) × (Int → Int) × (Int → Int) × (Int → Int) × (Int → Int) × (Int)) => wB cI cZ aB aD aM aA aS aC aL aT u.1 en mg ++ wD cI cZ aD xs ys lf u.2.1 u.2.2.1 u.2.2.2.1 ++ wM cI cZ aM lb kd pt mn ++ wS cI cZ aS u.2.2.2.2.1 u.2.2.2.2.2.1 u.2.2.2.2.2.2.1 ++ wL cI cZ aL u.2.2.2.2.2.2.2.1 fn fp u.2.2.2.2.2.2.2.2 fc)) 0 0 (va_A (wB cI cZ aB aD aM aA aS aC aL aT di en mg ++ wD cI cZ aD xs ys lf ev nm sz ++ wM cI cZ aM lb kd pt mn ++ wS cI cZ aS he ar le ++ wL cI cZ aL rw fn fp ln fc) sz0) := by
  have hs9 := hd.1
  refine z_ofI (maxL := 2) (plainFor_of_name (by decide)) rfl (Nat.le_of_ble_eq_true rfl) (Or.inl rfl) ?_
  intro p e s m below meth c A ls Q F hK hW hA hl hret
  have hl : lv_has ls 2 [(0, .ref (aB 0))] := hl
  have inX7 : ∀ w ∈ u_ws RX7 TX7 10, w ∈ wsX7_mark := fun _ h => List.mem_cons_of_mem _ (List.mem_append_left _ (List.mem_append_left _ (List.mem_append_left _ (List.mem_append_left _ (List.mem_append_right _ h)))))
  refine z_aloadn F (pc := 0) dX7_mark_0 rfl (lv_at hl 0 rfl) ?_
  refine z_aloadn F (pc := 1) dX7_mark_1 rfl (lv_at hl 0 rfl) ?_
  refine z_callVi F (pc := 2) hK hW hA (As := []) (rest := [.ref (aB 0)]) (ws' := fun (u : (Int → Int) × (Int → Int) × (Int → Int) × (Int → Int) × (Int → Int) × (Int → Int)) => wB cI cZ aB aD aM aA aS aC aL aT u.1 en mg ++ wD cI cZ aD xs ys lf u.2.1 u.2.2.1 sz ++ wM cI cZ aM lb kd pt mn ++ wS cI cZ aS u.2.2.2.1 u.2.2.2.2.1 u.2.2.2.2.2 ++ wL cI cZ aL rw fn fp ln fc) (wr := (wL cI cZ aL rw fn fp ln fc)) (c_X7_measureDraft l D cI cZ aB aD aM aA aS aC aL aT di xs ys lf ev nm lb kd pt he ar le en mg sz mn _ (by exact hd) (by omega) (by exact hkd) (by exact hpt)) (cwV 0 F.2.2.2.2 gX7_mark_X7_measureDraft rfl rfl rfl (by decide +kernel) ⟨Nat.le_of_ble_eq_true rfl, Nat.le_of_ble_eq_true rfl⟩) [0, 1, 2, 3, 4, 5, 6, 7, 8, 9, 10, 11, 12, 13, 14, 15] [16, 17, 18, 19] [4, 5, 6, 7, 8, 9, 10, 11, 12, 13, 14, 15, 16, 17, 18, 19, 0, 1, 2, 3] rfl rfl (by decide) (by decide) (by decide) (fun _ => rfl) (by decide) (q0 := 0) (ci := 7) rfl rfl rfl rfl rfl hl.1 (Nat.le_of_ble_eq_true rfl) dX7_mark_2 ⟨Nat.le_of_ble_eq_true rfl, Nat.le_of_ble_eq_true rfl⟩ (fun z_2 u H locs r_z_2 hp_2 hW => ?_)
  obtain ⟨di2_2, ev2_2, nm2_2, he2_2, ar2_2, le2_2⟩ := u
  dsimp only at hp_2 hW
  have hdi9 : (0 ≤ z_2 ∧ z_2 < mn) → ∀ k, 0 ≤ k → k < mn → 0 ≤ di2_2 k ∧ di2_2 k ≤ 32000 := by
    intro hz k k0 k1
    rcases hp_2.o with ⟨a1, a2⟩ | ⟨a1, a2, a3⟩ | ⟨a1, a2, a3, a4, a5⟩
    · omega
    · omega
    · rw [a5 k k0 k1]; exact dn_b (NmOf_in a3) hpt ⟨k0, k1⟩
  refine z_callVi F (pc := 5) hK hW hA (As := [.int (iI z_2)]) (rest := []) (ws' := fun (u : Unit) => wB cI cZ aB aD aM aA aS aC aL aT di2_2 en mg ++ wD cI cZ aD xs ys lf ev2_2 nm2_2 sz ++ wM cI cZ aM lb kd pt mn ++ wS cI cZ aS he2_2 ar2_2 le2_2 ++ wL cI cZ aL rw fn fp ln fc) (wr := (wD cI cZ aD xs ys lf ev2_2 nm2_2 sz ++ wS cI cZ aS he2_2 ar2_2 le2_2 ++ wL cI cZ aL rw fn fp ln fc)) (c_X7_labelRead l D cI cZ aB aD aM aA aS aC aL aT di2_2 lb kd pt en mg mn z_2 _ (by omega) (by omega) (by exact hlb) (by omega) (by exact hdi9)) (cwV 1 F.2.2.2.2 gX7_mark_X7_labelRead rfl rfl rfl (by decide +kernel) ⟨Nat.le_of_ble_eq_true rfl, Nat.le_of_ble_eq_true rfl⟩) [0, 1, 8, 9, 10, 11] [2, 3, 4, 5, 6, 7, 12, 13, 14, 15, 16, 17, 18, 19] [14, 15, 0, 1, 2, 3, 4, 5, 16, 17, 18, 19, 6, 7, 8, 9, 10, 11, 12, 13] rfl rfl (by decide) (by decide) (by decide) (fun _ => rfl) (by decide) (q0 := 0) (ci := 7) rfl rfl rfl rfl rfl hl.1 (Nat.le_of_ble_eq_true rfl) dX7_mark_5 ⟨Nat.le_of_ble_eq_true rfl, Nat.le_of_ble_eq_true rfl⟩ (fun z_5 u H locs r_z_5 hp_5 hW => ?_)
  have hR := read_of hm.1 hp_2.o hp_5
  have hRr := readR_r hlb hR
  refine z_istoren F (pc := 8) hl (lv' := [(1, .int (iI z_5)), (0, .ref (aB 0))]) dX7_mark_8 rfl (by decide) rfl (fun ls hl => ?_)
  refine z_iloadn F (pc := 9) dX7_mark_9 rfl (lv_at hl 0 rfl) ?_
  refine z_if_ge F (pc := 10) 15 dX7_mark_10 (by decide) (by omega) (fun c_10 => ?_) (fun c_10 => ?_)
  · skip
    refine z_aloadn F (pc := 15) dX7_mark_15 rfl (lv_at hl 1 rfl) ?_
    refine z_get F (pc := 16) (C := RX7) (T := TX7) (N := 10) (ci := 7) inX7 hK hW 0 5 rfl rfl (by decide) rfl (List.mem_of_getElem? (i := 1) rfl) (v := .ref (aL 0)) rfl dX7_mark_16 ?_
    refine z_iloadn F (pc := 19) dX7_mark_19 rfl (lv_at hl 0 rfl) ?_
    refine z_callVi F (pc := 20) hK hW hA (As := [.int (iI z_5)]) (rest := []) (ws' := fun (u : (Int → Int) × (Int)) => wB cI cZ aB aD aM aA aS aC aL aT di2_2 en mg ++ wD cI cZ aD xs ys lf ev2_2 nm2_2 sz ++ wM cI cZ aM lb kd pt mn ++ wS cI cZ aS he2_2 ar2_2 le2_2 ++ wL cI cZ aL u.1 fn fp u.2 fc) (wr := (wB cI cZ aB aD aM aA aS aC aL aT di2_2 en mg ++ wD cI cZ aD xs ys lf ev2_2 nm2_2 sz ++ wM cI cZ aM lb kd pt mn ++ wS cI cZ aS he2_2 ar2_2 le2_2)) (c_X3_add l D cI cZ aL rw fn fp ln fc z_5 _ (by omega) (by omega)) (cwV 1 F.2.2.2.2 gX7_mark_X3_add rfl rfl rfl (by decide +kernel) ⟨Nat.le_of_ble_eq_true rfl, Nat.le_of_ble_eq_true rfl⟩) [16, 17, 18, 19] [0, 1, 2, 3, 4, 5, 6, 7, 8, 9, 10, 11, 12, 13, 14, 15] [0, 1, 2, 3, 4, 5, 6, 7, 8, 9, 10, 11, 12, 13, 14, 15, 16, 17, 18, 19] rfl rfl (by decide) (by decide) (by decide) (fun _ => rfl) (by decide) (q0 := 16) (ci := 3) rfl rfl rfl rfl rfl hl.1 (Nat.le_of_ble_eq_true rfl) dX7_mark_20 ⟨Nat.le_of_ble_eq_true rfl, Nat.le_of_ble_eq_true rfl⟩ (fun z_20 u H locs r_z_20 hp_20 hW => ?_)
    obtain ⟨rw2_20, ln2_20⟩ := u
    dsimp only at hp_20 hW
    obtain ⟨hb_20, hp_20⟩ := hp_20
    refine z_if_ne F (pc := 23) 29 dX7_mark_23 (by decide) (by omega) (fun c_23 => ?_) (fun c_23 => ?_)
    · skip
      have b_23 := zB_t hb_20 c_23
      refine z_aloadn F (pc := 29) dX7_mark_29 rfl (lv_at hl 1 rfl) ?_
      refine z_get F (pc := 30) (C := RX7) (T := TX7) (N := 10) (ci := 7) inX7 hK hW 0 0 rfl rfl (by decide) rfl (List.mem_of_getElem? (i := 2) rfl) (v := .ref (aD 0)) rfl dX7_mark_30 ?_
      refine z_callVi F (pc := 33) hK hW hA (As := []) (rest := []) (ws' := fun (u : (Int)) => wB cI cZ aB aD aM aA aS aC aL aT di2_2 en mg ++ wD cI cZ aD xs ys lf ev2_2 nm2_2 u ++ wM cI cZ aM lb kd pt mn ++ wS cI cZ aS he2_2 ar2_2 le2_2 ++ wL cI cZ aL rw2_20 fn fp ln2_20 fc) (wr := (wB cI cZ aB aD aM aA aS aC aL aT di2_2 en mg ++ wM cI cZ aM lb kd pt mn ++ wS cI cZ aS he2_2 ar2_2 le2_2 ++ wL cI cZ aL rw2_20 fn fp ln2_20 fc)) (c_X2_empty l D cI cZ aD xs ys lf ev2_2 nm2_2 sz _ (by omega)) (cwV 0 F.2.2.2.2 gX7_mark_X2_empty rfl rfl rfl (by decide +kernel) ⟨Nat.le_of_ble_eq_true rfl, Nat.le_of_ble_eq_true rfl⟩) [2, 3, 4, 5, 6, 7] [0, 1, 8, 9, 10, 11, 12, 13, 14, 15, 16, 17, 18, 19] [0, 1, 14, 15, 16, 17, 18, 19, 2, 3, 4, 5, 6, 7, 8, 9, 10, 11, 12, 13] rfl rfl (by decide) (by decide) (by decide) (fun _ => rfl) (by decide) (q0 := 2) (ci := 2) rfl rfl rfl rfl rfl hl.1 (Nat.le_of_ble_eq_true rfl) dX7_mark_33 ⟨Nat.le_of_ble_eq_true rfl, Nat.le_of_ble_eq_true rfl⟩ (fun z_33 u H locs r_z_33 hp_33 hW => ?_)
      obtain ⟨sz2_33, rfl⟩ : ∃ v, v = u := ⟨_, rfl⟩
      obtain ⟨e_z_33, hp_33⟩ := hp_33
      replace e_z_33 := e_z_33.symm
      subst e_z_33
      refine z_pop F (pc := 36) dX7_mark_36 rfl ?_
      refine z_iloadn F (pc := 37) dX7_mark_37 rfl (lv_at hl 0 rfl) ?_
      exact hret _ _ _ _ z_5 (di2_2, ev2_2, nm2_2, sz2_33, he2_2, ar2_2, le2_2, rw2_20, ln2_20) dX7_mark_38 (by omega) (by (try dsimp only) <;> (exact Or.inr (Or.inr ⟨hR, by omega, by omega, b_23, (hp_20.1 b_23).1, (hp_20.1 b_23).2, hp_33⟩))) hW
    · skip
      have b_23 := zB_f hb_20 c_23
      refine z_bipush F (pc := 26) (-3) (by decide +kernel) dX7_mark_26 ?_
      exact hret _ _ _ _ (-3) (di2_2, ev2_2, nm2_2, sz, he2_2, ar2_2, le2_2, rw2_20, ln2_20) dX7_mark_28 (by omega) (by (try dsimp only) <;> (exact Or.inr (Or.inl ⟨z_5, hR, by omega, by omega, rfl, (hp_20.2 b_23).1, (hp_20.2 b_23).2, rfl⟩))) hW
  · skip
    refine z_iloadn F (pc := 13) dX7_mark_13 rfl (lv_at hl 0 rfl) ?_
    exact hret _ _ _ _ z_5 (di2_2, ev2_2, nm2_2, sz, he2_2, ar2_2, le2_2, rw, ln) dX7_mark_14 (by omega) (by (try dsimp only) <;> (exact Or.inl ⟨hR, by omega, rfl, rfl, rfl⟩)) hW

set_option maxHeartbeats 4000000 in
set_option maxRecDepth 100000 in
theorem c_X7_isConfused (l : Launch) (D : va_G) (cI cZ : ClassId) (aB aD aM aA aS aC aL aT : Nat → Nat) (di lb kd pt he ar le : Int → Int) (en mg mn : Int) (k d1 : Int) (sz0 : Nat) (r_k : (-2147483648 ≤ k ∧ k < 2147483648)) (r_d1 : (-2147483648 ≤ d1 ∧ d1 < 2147483648)) (hm : (0 ≤ mn ∧ mn ≤ 16)) (hkd : Kok kd mn) (hpt : Pok pt mn) (hlb : Lok lb mn) (hk : 0 ≤ k ∧ k < mn) : Met l yX7_isConfused wsX7_isConfused ({ frames := 5, cells := 0, slots := 0, locals := 124 } : Room) (zPc D cI cZ [.ref (aB 0), .int (iI k), .int (iI d1)] (wB cI cZ aB aD aM aA aS aC aL aT di en mg ++ wM cI cZ aM lb kd pt mn ++ wS cI cZ aS he ar le) sz0) (zQi D cI cZ (wB cI cZ aB aD aM aA aS aC aL aT di en mg ++ wM cI cZ aM lb kd pt mn ++ wS cI cZ aS he ar le) sz0 (fun (r : Int) (u : (Int → Int) × (Int → Int) × (Int → Int)) => zB r (isC pt kd lb mn d1 k)) (fun (u : (Int → Int) × (Int → Int) × (Int → Int)) => wB cI cZ aB aD aM aA aS aC aL aT di en mg ++ wM cI cZ aM lb kd pt mn ++ wS cI cZ aS u.1 u.2.1 u.2.2)) 0 0 (va_A (wB cI cZ aB aD aM aA aS aC aL aT di en mg ++ wM cI cZ aM lb kd pt mn ++ wS cI cZ aS he ar le) sz0) := by
  have hlk := hlb k hk.1 hk.2
  refine z_ofI (maxL := 4) (plainFor_of_name (by decide)) rfl (Nat.le_of_ble_eq_true rfl) (Or.inr ⟨rfl, fun z u h => zB_01 h⟩) ?_
  intro p e s m below meth c A ls Q F hK hW hA hl hret
  have hl : lv_has ls 4 [(0, .ref (aB 0)), (1, .int (iI k)), (2, .int (iI d1))] := hl
  have inX6 : ∀ w ∈ u_ws RX6 TX6 4, w ∈ wsX7_isConfused := fun _ h => List.mem_cons_of_mem _ (List.mem_append_left _ (List.mem_append_right _ h))
  have inX7 : ∀ w ∈ u_ws RX7 TX7 10, w ∈ wsX7_isConfused := fun _ h => List.mem_cons_of_mem _ (List.mem_append_left _ (List.mem_append_left _ (List.mem_append_right _ h)))
  refine z_iconst F (pc := 0) (0) dX7_isConfused_0 ?_
  refine z_istoren F (pc := 1) hl (lv' := [(3, .int (iI 0)), (0, .ref (aB 0)), (1, .int (iI k)), (2, .int (iI d1))]) dX7_isConfused_1 rfl (by decide) rfl (fun ls hl => ?_)
  have cut_2 : ∀ (fuel : Nat) (t : Int) (h1 : Int → Int) (ar1 : Int → Int) (le1 : Int → Int) (H : Heap) (locs : List Loc) (ls : Array Slot), (mn - t).toNat < fuel → (0 ≤ t ∧ t ≤ mn) → (∀ b, 0 ≤ b → b < t → ¬ (¬ lb b = lb k ∧ (bwF pt kd k b ≤ d1 ∨ bwF pt kd b k ≤ d1))) → lv_has ls 4 [(3, .int (iI t)), (0, .ref (aB 0)), (1, .int (iI k)), (2, .int (iI d1))] → zW D A s.heap H locs (wB cI cZ aB aD aM aA aS aC aL aT di en mg ++ wM cI cZ aM lb kd pt mn ++ wS cI cZ aS h1 ar1 le1) → W p l e ({ frames := 5, cells := 0, slots := 0, locals := 124 } : Room) s m ([.ref (aB 0), .int (iI k), .int (iI d1)] : List Value).toArray below meth c H locs 0 0 Q (F0 m 2 ls []) := by
    intro fuel
    induction fuel with
    | zero => intro t h1 ar1 le1 H locs ls hm; exact absurd hm (Nat.not_lt_zero _)
    | succ fuel ih_2 =>
      intro t h1 ar1 le1 H locs ls hm_2 g1 g2 hl hW
      refine z_iloadn F (pc := 2) dX7_isConfused_2 rfl (lv_at hl 0 rfl) ?_
      refine z_aloadn F (pc := 3) dX7_isConfused_3 rfl (lv_at hl 1 rfl) ?_
      refine z_get F (pc := 4) (C := RX7) (T := TX7) (N := 10) (ci := 7) inX7 hK hW 0 1 rfl rfl (by decide) rfl (List.mem_of_getElem? (i := 1) rfl) (v := .ref (aM 0)) rfl dX7_isConfused_4 ?_
      refine z_get F (pc := 7) (C := RX6) (T := TX6) (N := 4) (ci := 6) inX6 hK hW 2 3 rfl rfl (by decide) rfl (List.mem_of_getElem? (i := 2) rfl) (v := .int (iI mn)) rfl dX7_isConfused_7 ?_
      refine z_icmp_ge F (pc := 10) 96 dX7_isConfused_10 (by decide) (by omega) (fun c_10 => ?_) (fun c_10 => ?_)
      · skip
        refine z_iconst F (pc := 96) (0) dX7_isConfused_96 ?_
        exact hret _ _ _ _ 0 (h1, ar1, le1) dX7_isConfused_97 (by omega) (by (try dsimp only) <;> (exact zB_0 (fun ⟨b, z1, z2, z3⟩ => g2 b z1.1 (by omega) ⟨z2, z3⟩))) hW
      · skip
        have hlt := hlb t g1.1 (by omega)
        refine z_aloadn F (pc := 13) dX7_isConfused_13 rfl (lv_at hl 1 rfl) ?_
        refine z_get F (pc := 14) (C := RX7) (T := TX7) (N := 10) (ci := 7) inX7 hK hW 0 1 rfl rfl (by decide) rfl (List.mem_of_getElem? (i := 1) rfl) (v := .ref (aM 0)) rfl dX7_isConfused_14 ?_
        refine z_get F (pc := 17) (C := RX6) (T := TX6) (N := 4) (ci := 6) inX6 hK hW 2 0 rfl rfl (by decide) rfl (List.mem_of_getElem? (i := 3) rfl) (v := .ref (aM 1)) rfl dX7_isConfused_17 ?_
        refine z_iloadn F (pc := 20) dX7_isConfused_20 rfl (lv_at hl 0 rfl) ?_
        refine z_iald F (pc := 21) hK hW 3 rfl (by decide) dX7_isConfused_21 (by omega) ?_
        refine z_aloadn F (pc := 22) dX7_isConfused_22 rfl (lv_at hl 1 rfl) ?_
        refine z_get F (pc := 23) (C := RX7) (T := TX7) (N := 10) (ci := 7) inX7 hK hW 0 1 rfl rfl (by decide) rfl (List.mem_of_getElem? (i := 1) rfl) (v := .ref (aM 0)) rfl dX7_isConfused_23 ?_
        refine z_get F (pc := 26) (C := RX6) (T := TX6) (N := 4) (ci := 6) inX6 hK hW 2 0 rfl rfl (by decide) rfl (List.mem_of_getElem? (i := 3) rfl) (v := .ref (aM 1)) rfl dX7_isConfused_26 ?_
        refine z_iloadn F (pc := 29) dX7_isConfused_29 rfl (lv_at hl 2 rfl) ?_
        refine z_iald F (pc := 30) hK hW 3 rfl (by decide) dX7_isConfused_30 (by omega) ?_
        refine z_icmp_eq F (pc := 31) 90 dX7_isConfused_31 (by decide) (by omega) (fun c_31 => ?_) (fun c_31 => ?_)
        · skip
          refine z_iinc F (pc := 90) hl (lv' := [(3, .int (iI (t + 1))), (0, .ref (aB 0)), (1, .int (iI k)), (2, .int (iI d1))]) dX7_isConfused_90 (k := 0) rfl (by decide) rfl (fun ls hl => ?_)
          refine z_goto F (pc := 93) 2 dX7_isConfused_93 (by decide) ?_
          exact ih_2 (t + 1) h1 ar1 le1 _ _ _ (by omega) (by omega) (by intro b b0 b1; (by_cases e : b = t) <;> first | (rw [e]; omega) | exact g2 b b0 (by omega)) (lv_sub hl [0, 1, 2, 3] rfl) hW
        · skip
          have hb1 := bwF_b (kd := kd) hpt (a := k) (b := t) hk ⟨g1.1, by omega⟩
          have hb2 := bwF_b (kd := kd) hpt (a := t) (b := k) ⟨g1.1, by omega⟩ hk
          refine z_aloadn F (pc := 34) dX7_isConfused_34 rfl (lv_at hl 1 rfl) ?_
          refine z_get F (pc := 35) (C := RX7) (T := TX7) (N := 10) (ci := 7) inX7 hK hW 0 3 rfl rfl (by decide) rfl (List.mem_of_getElem? (i := 4) rfl) (v := .ref (aS 0)) rfl dX7_isConfused_35 ?_
          refine z_aloadn F (pc := 38) dX7_isConfused_38 rfl (lv_at hl 1 rfl) ?_
          refine z_get F (pc := 39) (C := RX7) (T := TX7) (N := 10) (ci := 7) inX7 hK hW 0 1 rfl rfl (by decide) rfl (List.mem_of_getElem? (i := 1) rfl) (v := .ref (aM 0)) rfl dX7_isConfused_39 ?_
          refine z_get F (pc := 42) (C := RX6) (T := TX6) (N := 4) (ci := 6) inX6 hK hW 2 2 rfl rfl (by decide) rfl (List.mem_of_getElem? (i := 5) rfl) (v := .ref (aM 3)) rfl dX7_isConfused_42 ?_
          refine z_iloadn F (pc := 45) dX7_isConfused_45 rfl (lv_at hl 2 rfl) ?_
          refine z_bipush F (pc := 46) (16) (by decide +kernel) dX7_isConfused_46 ?_
          refine z_imul F (pc := 48) dX7_isConfused_48 ?_
          refine z_aloadn F (pc := 49) dX7_isConfused_49 rfl (lv_at hl 1 rfl) ?_
          refine z_get F (pc := 50) (C := RX7) (T := TX7) (N := 10) (ci := 7) inX7 hK hW 0 1 rfl rfl (by decide) rfl (List.mem_of_getElem? (i := 1) rfl) (v := .ref (aM 0)) rfl dX7_isConfused_50 ?_
          refine z_iloadn F (pc := 53) dX7_isConfused_53 rfl (lv_at hl 0 rfl) ?_
          refine z_callVi F (pc := 54) hK hW hA (As := [.ref (aM 3), .int (iI (k * 16)), .ref (aM 0), .int (iI t)]) (rest := []) (ws' := fun (u : (Int → Int) × (Int → Int) × (Int → Int)) => wB cI cZ aB aD aM aA aS aC aL aT di en mg ++ wM cI cZ aM lb kd pt mn ++ wS cI cZ aS u.1 u.2.1 u.2.2) (wr := (wB cI cZ aB aD aM aA aS aC aL aT di en mg)) (c_X4_distanceFromM l D cI cZ aS aM h1 ar1 le1 lb kd pt mn (k * 16) t _ (by omega) (by omega) (by omega) (by omega) (by omega) (by rw [c16]; exact Pok_in hpt hk) (by exact Pok_in hpt ⟨g1.1, by omega⟩) (by exact hkd _ (by omega) (by omega))) (cwV 4 F.2.2.2.2 gX7_isConfused_X4_distanceFrom rfl rfl rfl (by decide +kernel) ⟨Nat.le_of_ble_eq_true rfl, Nat.le_of_ble_eq_true rfl⟩) [6, 7, 8, 9, 2, 3, 4, 5] [0, 1] [0, 1, 6, 7, 8, 9, 2, 3, 4, 5] rfl rfl (by decide) (by decide) (by decide) (fun _ => rfl) (by decide) (q0 := 6) (ci := 4) rfl rfl rfl rfl rfl hl.1 (Nat.le_of_ble_eq_true rfl) dX7_isConfused_54 ⟨Nat.le_of_ble_eq_true rfl, Nat.le_of_ble_eq_true rfl⟩ (fun z_54 u H locs r_z_54 hp_54 hW => ?_)
          obtain ⟨he2_54, ar2_54, le2_54⟩ := u
          dsimp only at hp_54 hW
          replace hp_54 := hp_54.symm
          subst hp_54
          refine z_eqi (y := bwF pt kd k t) (by rw [c16]; exact dF_cong (eqH_rO _ _ _) _ _ _) ?_
          refine z_iloadn F (pc := 57) dX7_isConfused_57 rfl (lv_at hl 3 rfl) ?_
          refine z_icmp_le F (pc := 58) 88 dX7_isConfused_58 (by decide) (by omega) (fun c_58 => ?_) (fun c_58 => ?_)
          · skip
            refine z_iconst F (pc := 88) (1) dX7_isConfused_88 ?_
            exact hret _ _ _ _ 1 (he2_54, ar2_54, le2_54) dX7_isConfused_89 (by omega) (by (try dsimp only) <;> (exact zB_1 ⟨t, ⟨g1.1, by omega⟩, by omega, by omega⟩)) hW
          · skip
            refine z_aloadn F (pc := 61) dX7_isConfused_61 rfl (lv_at hl 1 rfl) ?_
            refine z_get F (pc := 62) (C := RX7) (T := TX7) (N := 10) (ci := 7) inX7 hK hW 0 3 rfl rfl (by decide) rfl (List.mem_of_getElem? (i := 4) rfl) (v := .ref (aS 0)) rfl dX7_isConfused_62 ?_
            refine z_aloadn F (pc := 65) dX7_isConfused_65 rfl (lv_at hl 1 rfl) ?_
            refine z_get F (pc := 66) (C := RX7) (T := TX7) (N := 10) (ci := 7) inX7 hK hW 0 1 rfl rfl (by decide) rfl (List.mem_of_getElem? (i := 1) rfl) (v := .ref (aM 0)) rfl dX7_isConfused_66 ?_
            refine z_get F (pc := 69) (C := RX6) (T := TX6) (N := 4) (ci := 6) inX6 hK hW 2 2 rfl rfl (by decide) rfl (List.mem_of_getElem? (i := 5) rfl) (v := .ref (aM 3)) rfl dX7_isConfused_69 ?_
            refine z_iloadn F (pc := 72) dX7_isConfused_72 rfl (lv_at hl 0 rfl) ?_
            refine z_bipush F (pc := 73) (16) (by decide +kernel) dX7_isConfused_73 ?_
            refine z_imul F (pc := 75) dX7_isConfused_75 ?_
            refine z_aloadn F (pc := 76) dX7_isConfused_76 rfl (lv_at hl 1 rfl) ?_
            refine z_get F (pc := 77) (C := RX7) (T := TX7) (N := 10) (ci := 7) inX7 hK hW 0 1 rfl rfl (by decide) rfl (List.mem_of_getElem? (i := 1) rfl) (v := .ref (aM 0)) rfl dX7_isConfused_77 ?_
            refine z_iloadn F (pc := 80) dX7_isConfused_80 rfl (lv_at hl 2 rfl) ?_
            refine z_callVi F (pc := 81) hK hW hA (As := [.ref (aM 3), .int (iI (t * 16)), .ref (aM 0), .int (iI k)]) (rest := []) (ws' := fun (u : (Int → Int) × (Int → Int) × (Int → Int)) => wB cI cZ aB aD aM aA aS aC aL aT di en mg ++ wM cI cZ aM lb kd pt mn ++ wS cI cZ aS u.1 u.2.1 u.2.2) (wr := (wB cI cZ aB aD aM aA aS aC aL aT di en mg)) (c_X4_distanceFromM l D cI cZ aS aM he2_54 ar2_54 le2_54 lb kd pt mn (t * 16) k _ (by omega) (by omega) (by omega) (by omega) (by omega) (by rw [c16]; exact Pok_in hpt ⟨g1.1, by omega⟩) (by exact Pok_in hpt hk) (by exact hkd _ (by omega) (by omega))) (cwV 4 F.2.2.2.2 gX7_isConfused_X4_distanceFrom rfl rfl rfl (by decide +kernel) ⟨Nat.le_of_ble_eq_true rfl, Nat.le_of_ble_eq_true rfl⟩) [6, 7, 8, 9, 2, 3, 4, 5] [0, 1] [0, 1, 6, 7, 8, 9, 2, 3, 4, 5] rfl rfl (by decide) (by decide) (by decide) (fun _ => rfl) (by decide) (q0 := 6) (ci := 4) rfl rfl rfl rfl rfl hl.1 (Nat.le_of_ble_eq_true rfl) dX7_isConfused_81 ⟨Nat.le_of_ble_eq_true rfl, Nat.le_of_ble_eq_true rfl⟩ (fun z_81 u H locs r_z_81 hp_81 hW => ?_)
            obtain ⟨he2_81, ar2_81, le2_81⟩ := u
            dsimp only at hp_81 hW
            replace hp_81 := hp_81.symm
            subst hp_81
            refine z_eqi (y := bwF pt kd t k) (by rw [c16]; exact dF_cong (eqH_rO _ _ _) _ _ _) ?_
            refine z_iloadn F (pc := 84) dX7_isConfused_84 rfl (lv_at hl 3 rfl) ?_
            refine z_icmp_gt F (pc := 85) 90 dX7_isConfused_85 (by decide) (by omega) (fun c_85 => ?_) (fun c_85 => ?_)
            · skip
              refine z_iinc F (pc := 90) hl (lv' := [(3, .int (iI (t + 1))), (0, .ref (aB 0)), (1, .int (iI k)), (2, .int (iI d1))]) dX7_isConfused_90 (k := 0) rfl (by decide) rfl (fun ls hl => ?_)
              refine z_goto F (pc := 93) 2 dX7_isConfused_93 (by decide) ?_
              exact ih_2 (t + 1) he2_81 ar2_81 le2_81 _ _ _ (by omega) (by omega) (by intro b b0 b1; (by_cases e : b = t) <;> first | (rw [e]; omega) | exact g2 b b0 (by omega)) (lv_sub hl [0, 1, 2, 3] rfl) hW
            · skip
              refine z_iconst F (pc := 88) (1) dX7_isConfused_88 ?_
              exact hret _ _ _ _ 1 (he2_81, ar2_81, le2_81) dX7_isConfused_89 (by omega) (by (try dsimp only) <;> (exact zB_1 ⟨t, ⟨g1.1, by omega⟩, by omega, by omega⟩)) hW
  exact cut_2 _ 0 he ar le _ _ _ (Nat.lt_succ_self _) (by omega) (by intro b b0 b1; omega) (lv_sub hl [0, 1, 2, 3] rfl) hW

set_option maxHeartbeats 4000000 in
set_option maxRecDepth 100000 in
theorem c_X7_between (l : Launch) (D : va_G) (cI cZ : ClassId) (aB aD aM aA aS aC aL aT : Nat → Nat) (di lb kd pt he ar le : Int → Int) (en mg mn : Int) (a b : Int) (sz0 : Nat) (r_a : (-2147483648 ≤ a ∧ a < 2147483648)) (r_b : (-2147483648 ≤ b ∧ b < 2147483648)) (hm : (0 ≤ mn ∧ mn ≤ 16)) (hkd : Kok kd mn) (hpt : Pok pt mn) : Met l yX7_between wsX7_between ({ frames := 5, cells := 0, slots := 0, locals := 124 } : Room) (zPc D cI cZ [.ref (aB 0), .int (iI a), .int (iI b)] (wB cI cZ aB aD aM aA aS aC aL aT di en mg ++ wM cI cZ aM lb kd pt mn ++ wS cI cZ aS he ar le) sz0) (zQi D cI cZ (wB cI cZ aB aD aM aA aS aC aL aT di en mg ++ wM cI cZ aM lb kd pt mn ++ wS cI cZ aS he ar le) sz0 (fun (r : Int) (u : (Int → Int) × (Int → Int) × (Int → Int)) => btwR pt kd mn a b r) (fun (u : (Int → Int) × (Int → Int) × (Int → Int)) => wB cI cZ aB aD aM aA aS aC aL aT di en mg ++ wM cI cZ aM lb kd pt mn ++ wS cI cZ aS u.1 u.2.1 u.2.2)) 0 0 (va_A (wB cI cZ aB aD aM aA aS aC aL aT di en mg ++ wM cI cZ aM lb kd pt mn ++ wS cI cZ aS he ar le) sz0) := by
  refine z_ofI (maxL := 3) (plainFor_of_name (by decide)) rfl (Nat.le_of_ble_eq_true rfl) (Or.inl rfl) ?_
  intro p e s m below meth c A ls Q F hK hW hA hl hret
  have hl : lv_has ls 3 [(0, .ref (aB 0)), (1, .int (iI a)), (2, .int (iI b))] := hl
  have inX6 : ∀ w ∈ u_ws RX6 TX6 4, w ∈ wsX7_between := fun _ h => List.mem_cons_of_mem _ (List.mem_append_left _ (List.mem_append_right _ h))
  have inX7 : ∀ w ∈ u_ws RX7 TX7 10, w ∈ wsX7_between := fun _ h => List.mem_cons_of_mem _ (List.mem_append_left _ (List.mem_append_left _ (List.mem_append_right _ h)))
  refine z_aloadn F (pc := 0) dX7_between_0 rfl (lv_at hl 0 rfl) ?_
  refine z_get F (pc := 1) (C := RX7) (T := TX7) (N := 10) (ci := 7) inX7 hK hW 0 1 rfl rfl (by decide) rfl (List.mem_of_getElem? (i := 1) rfl) (v := .ref (aM 0)) rfl dX7_between_1 ?_
  refine z_iloadn F (pc := 4) dX7_between_4 rfl (lv_at hl 1 rfl) ?_
  refine z_callVi F (pc := 5) hK hW hA (As := [.int (iI a)]) (rest := []) (ws' := fun (u : Unit) => wB cI cZ aB aD aM aA aS aC aL aT di en mg ++ wM cI cZ aM lb kd pt mn ++ wS cI cZ aS he ar le) (wr := (wB cI cZ aB aD aM aA aS aC aL aT di en mg ++ wS cI cZ aS he ar le)) (c_X6_has l D cI cZ aM lb kd pt mn a _ (by omega) (by omega)) (cwV 1 F.2.2.2.2 gX7_between_X6_has rfl rfl rfl (by decide +kernel) ⟨Nat.le_of_ble_eq_true rfl, Nat.le_of_ble_eq_true rfl⟩) [2, 3, 4, 5] [0, 1, 6, 7, 8, 9] [0, 1, 6, 7, 8, 9, 2, 3, 4, 5] rfl rfl (by decide) (by decide) (by decide) (fun _ => rfl) (by decide) (q0 := 2) (ci := 6) rfl rfl rfl rfl rfl hl.1 (Nat.le_of_ble_eq_true rfl) dX7_between_5 ⟨Nat.le_of_ble_eq_true rfl, Nat.le_of_ble_eq_true rfl⟩ (fun z_5 u H locs r_z_5 hp_5 hW => ?_)
  refine z_if_eq F (pc := 8) 22 dX7_between_8 (by decide) (by omega) (fun c_8 => ?_) (fun c_8 => ?_)
  · skip
    have b_8 := zB_f hp_5 c_8
    refine z_iconst F (pc := 22) (-1) dX7_between_22 ?_
    exact hret _ _ _ _ (-1) (he, ar, le) dX7_between_23 (by omega) (by (try dsimp only) <;> (exact Or.inl ⟨by omega, rfl⟩)) hW
  · skip
    have b_8 := zB_t hp_5 c_8
    refine z_aloadn F (pc := 11) dX7_between_11 rfl (lv_at hl 0 rfl) ?_
    refine z_get F (pc := 12) (C := RX7) (T := TX7) (N := 10) (ci := 7) inX7 hK hW 0 1 rfl rfl (by decide) rfl (List.mem_of_getElem? (i := 1) rfl) (v := .ref (aM 0)) rfl dX7_between_12 ?_
    refine z_iloadn F (pc := 15) dX7_between_15 rfl (lv_at hl 2 rfl) ?_
    refine z_callVi F (pc := 16) hK hW hA (As := [.int (iI b)]) (rest := []) (ws' := fun (u : Unit) => wB cI cZ aB aD aM aA aS aC aL aT di en mg ++ wM cI cZ aM lb kd pt mn ++ wS cI cZ aS he ar le) (wr := (wB cI cZ aB aD aM aA aS aC aL aT di en mg ++ wS cI cZ aS he ar le)) (c_X6_has l D cI cZ aM lb kd pt mn b _ (by omega) (by omega)) (cwV 1 F.2.2.2.2 gX7_between_X6_has rfl rfl rfl (by decide +kernel) ⟨Nat.le_of_ble_eq_true rfl, Nat.le_of_ble_eq_true rfl⟩) [2, 3, 4, 5] [0, 1, 6, 7, 8, 9] [0, 1, 6, 7, 8, 9, 2, 3, 4, 5] rfl rfl (by decide) (by decide) (by decide) (fun _ => rfl) (by decide) (q0 := 2) (ci := 6) rfl rfl rfl rfl rfl hl.1 (Nat.le_of_ble_eq_true rfl) dX7_between_16 ⟨Nat.le_of_ble_eq_true rfl, Nat.le_of_ble_eq_true rfl⟩ (fun z_16 u H locs r_z_16 hp_16 hW => ?_)
    refine z_if_ne F (pc := 19) 24 dX7_between_19 (by decide) (by omega) (fun c_19 => ?_) (fun c_19 => ?_)
    · skip
      have b_19 := zB_t hp_16 c_19
      have hb1 := bwF_b (kd := kd) hpt b_8 b_19
      refine z_aloadn F (pc := 24) dX7_between_24 rfl (lv_at hl 0 rfl) ?_
      refine z_get F (pc := 25) (C := RX7) (T := TX7) (N := 10) (ci := 7) inX7 hK hW 0 3 rfl rfl (by decide) rfl (List.mem_of_getElem? (i := 2) rfl) (v := .ref (aS 0)) rfl dX7_between_25 ?_
      refine z_aloadn F (pc := 28) dX7_between_28 rfl (lv_at hl 0 rfl) ?_
      refine z_get F (pc := 29) (C := RX7) (T := TX7) (N := 10) (ci := 7) inX7 hK hW 0 1 rfl rfl (by decide) rfl (List.mem_of_getElem? (i := 1) rfl) (v := .ref (aM 0)) rfl dX7_between_29 ?_
      refine z_get F (pc := 32) (C := RX6) (T := TX6) (N := 4) (ci := 6) inX6 hK hW 2 2 rfl rfl (by decide) rfl (List.mem_of_getElem? (i := 3) rfl) (v := .ref (aM 3)) rfl dX7_between_32 ?_
      refine z_iloadn F (pc := 35) dX7_between_35 rfl (lv_at hl 1 rfl) ?_
      refine z_bipush F (pc := 36) (16) (by decide +kernel) dX7_between_36 ?_
      refine z_imul F (pc := 38) dX7_between_38 ?_
      refine z_aloadn F (pc := 39) dX7_between_39 rfl (lv_at hl 0 rfl) ?_
      refine z_get F (pc := 40) (C := RX7) (T := TX7) (N := 10) (ci := 7) inX7 hK hW 0 1 rfl rfl (by decide) rfl (List.mem_of_getElem? (i := 1) rfl) (v := .ref (aM 0)) rfl dX7_between_40 ?_
      refine z_iloadn F (pc := 43) dX7_between_43 rfl (lv_at hl 2 rfl) ?_
      refine z_callVi F (pc := 44) hK hW hA (As := [.ref (aM 3), .int (iI (a * 16)), .ref (aM 0), .int (iI b)]) (rest := []) (ws' := fun (u : (Int → Int) × (Int → Int) × (Int → Int)) => wB cI cZ aB aD aM aA aS aC aL aT di en mg ++ wM cI cZ aM lb kd pt mn ++ wS cI cZ aS u.1 u.2.1 u.2.2) (wr := (wB cI cZ aB aD aM aA aS aC aL aT di en mg)) (c_X4_distanceFromM l D cI cZ aS aM he ar le lb kd pt mn (a * 16) b _ (by omega) (by omega) (by omega) (by omega) (by omega) (by rw [c16]; exact Pok_in hpt b_8) (by exact Pok_in hpt b_19) (by exact hkd _ (by omega) (by omega))) (cwV 4 F.2.2.2.2 gX7_between_X4_distanceFrom rfl rfl rfl (by decide +kernel) ⟨Nat.le_of_ble_eq_true rfl, Nat.le_of_ble_eq_true rfl⟩) [6, 7, 8, 9, 2, 3, 4, 5] [0, 1] [0, 1, 6, 7, 8, 9, 2, 3, 4, 5] rfl rfl (by decide) (by decide) (by decide) (fun _ => rfl) (by decide) (q0 := 6) (ci := 4) rfl rfl rfl rfl rfl hl.1 (Nat.le_of_ble_eq_true rfl) dX7_between_44 ⟨Nat.le_of_ble_eq_true rfl, Nat.le_of_ble_eq_true rfl⟩ (fun z_44 u H locs r_z_44 hp_44 hW => ?_)
      obtain ⟨he2_44, ar2_44, le2_44⟩ := u
      dsimp only at hp_44 hW
      replace hp_44 := hp_44.symm
      subst hp_44
      refine z_eqi (y := bwF pt kd a b) (by rw [c16]; exact dF_cong (eqH_rO _ _ _) _ _ _) ?_
      exact hret _ _ _ _ (bwF pt kd a b) (he2_44, ar2_44, le2_44) dX7_between_47 (by omega) (by (try dsimp only) <;> (exact Or.inr ⟨by omega, rfl⟩)) hW
    · skip
      have b_19 := zB_f hp_16 c_19
      refine z_iconst F (pc := 22) (-1) dX7_between_22 ?_
      exact hret _ _ _ _ (-1) (he, ar, le) dX7_between_23 (by omega) (by (try dsimp only) <;> (exact Or.inl ⟨by omega, rfl⟩)) hW

set_option maxHeartbeats 4000000 in
set_option maxRecDepth 100000 in
theorem c_X7_confused (l : Launch) (D : va_G) (cI cZ : ClassId) (aB aD aM aA aS aC aL aT : Nat → Nat) (di lb kd pt he ar le : Int → Int) (en mg mn : Int) (l1 d1 : Int) (sz0 : Nat) (r_l1 : (-2147483648 ≤ l1 ∧ l1 < 2147483648)) (r_d1 : (-2147483648 ≤ d1 ∧ d1 < 2147483648)) (hm : (0 ≤ mn ∧ mn ≤ 16)) (hkd : Kok kd mn) (hpt : Pok pt mn) (hlb : Lok lb mn) : Met l yX7_confused wsX7_confused ({ frames := 6, cells := 0, slots := 0, locals := 147 } : Room) (zPc D cI cZ [.ref (aB 0), .int (iI l1), .int (iI d1)] (wB cI cZ aB aD aM aA aS aC aL aT di en mg ++ wM cI cZ aM lb kd pt mn ++ wS cI cZ aS he ar le) sz0) (zQi D cI cZ (wB cI cZ aB aD aM aA aS aC aL aT di en mg ++ wM cI cZ aM lb kd pt mn ++ wS cI cZ aS he ar le) sz0 (fun (r : Int) (u : (Int → Int) × (Int → Int) × (Int → Int)) => confR pt kd lb mn l1 d1 r) (fun (u : (Int → Int) × (Int → Int) × (Int → Int)) => wB cI cZ aB aD aM aA aS aC aL aT di en mg ++ wM cI cZ aM lb kd pt mn ++ wS cI cZ aS u.1 u.2.1 u.2.2)) 0 0 (va_A (wB cI cZ aB aD aM aA aS aC aL aT di en mg ++ wM cI cZ aM lb kd pt mn ++ wS cI cZ aS he ar le) sz0) := by
  refine z_ofI (maxL := 5) (plainFor_of_name (by decide)) rfl (Nat.le_of_ble_eq_true rfl) (Or.inl rfl) ?_
  intro p e s m below meth c A ls Q F hK hW hA hl hret
  have hl : lv_has ls 5 [(0, .ref (aB 0)), (1, .int (iI l1)), (2, .int (iI d1))] := hl
  have inX6 : ∀ w ∈ u_ws RX6 TX6 4, w ∈ wsX7_confused := fun _ h => List.mem_cons_of_mem _ (List.mem_append_left _ (List.mem_append_right _ h))
  have inX7 : ∀ w ∈ u_ws RX7 TX7 10, w ∈ wsX7_confused := fun _ h => List.mem_cons_of_mem _ (List.mem_append_left _ (List.mem_append_left _ (List.mem_append_right _ h)))
  refine z_iloadn F (pc := 0) dX7_confused_0 rfl (lv_at hl 1 rfl) ?_
  refine z_bipush F (pc := 1) (9) (by decide +kernel) dX7_confused_1 ?_
  refine z_callSi F (pc := 3) hK hW hA (As := [.int (iI l1), .int (iI 9)]) (rest := []) (c_X7_isWithin l D cI cZ l1 9 _ (by omega) (by omega)) (va_cwS 2 F.2.2.2.2 gX7_confused_X7_isWithin rfl rfl rfl (by decide +kernel) ⟨Nat.le_of_ble_eq_true rfl, Nat.le_of_ble_eq_true rfl⟩) rfl rfl hl.1 (Nat.le_of_ble_eq_true rfl) dX7_confused_3 ⟨Nat.le_of_ble_eq_true rfl, Nat.le_of_ble_eq_true rfl⟩ (fun z_3 H locs r_z_3 hp_3 hW => ?_)
  refine z_if_eq F (pc := 6) 18 dX7_confused_6 (by decide) (by omega) (fun c_6 => ?_) (fun c_6 => ?_)
  · skip
    have b_6 := zB_f hp_3 c_6
    refine z_iconst F (pc := 18) (-1) dX7_confused_18 ?_
    exact hret _ _ _ _ (-1) (he, ar, le) dX7_confused_19 (by omega) (by (try dsimp only) <;> (exact Or.inl ⟨by omega, rfl⟩)) hW
  · skip
    have b_6 := zB_t hp_3 c_6
    refine z_iloadn F (pc := 9) dX7_confused_9 rfl (lv_at hl 2 rfl) ?_
    refine z_ldc F (pc := 10) (100000) (by decide +kernel) (List.mem_of_getElem? (i := 1) rfl) dX7_confused_10 ?_
    refine z_callSi F (pc := 12) hK hW hA (As := [.int (iI d1), .int (iI 100000)]) (rest := []) (c_X7_isWithin l D cI cZ d1 100000 _ (by omega) (by omega)) (va_cwS 2 F.2.2.2.2 gX7_confused_X7_isWithin rfl rfl rfl (by decide +kernel) ⟨Nat.le_of_ble_eq_true rfl, Nat.le_of_ble_eq_true rfl⟩) rfl rfl hl.1 (Nat.le_of_ble_eq_true rfl) dX7_confused_12 ⟨Nat.le_of_ble_eq_true rfl, Nat.le_of_ble_eq_true rfl⟩ (fun z_12 H locs r_z_12 hp_12 hW => ?_)
    refine z_if_ne F (pc := 15) 20 dX7_confused_15 (by decide) (by omega) (fun c_15 => ?_) (fun c_15 => ?_)
    · skip
      have b_15 := zB_t hp_12 c_15
      refine z_iconst F (pc := 20) (0) dX7_confused_20 ?_
      refine z_istoren F (pc := 21) hl (lv' := [(3, .int (iI 0)), (0, .ref (aB 0)), (1, .int (iI l1)), (2, .int (iI d1))]) dX7_confused_21 rfl (by decide) rfl (fun ls hl => ?_)
      refine z_iconst F (pc := 22) (0) dX7_confused_22 ?_
      refine z_istore F (pc := 23) hl (lv' := [(4, .int (iI 0)), (3, .int (iI 0)), (0, .ref (aB 0)), (1, .int (iI l1)), (2, .int (iI d1))]) dX7_confused_23 (by decide) rfl (fun ls hl => ?_)
      have cut_25 : ∀ (fuel : Nat) (my : Int) (a : Int) (h1 : Int → Int) (ar1 : Int → Int) (le1 : Int → Int) (H : Heap) (locs : List Loc) (ls : Array Slot), (mn - a).toNat < fuel → ((0 ≤ a ∧ a ≤ mn) ∧ (0 ≤ my ∧ my ≤ a)) → (my = cfN pt kd lb mn l1 d1 a) → lv_has ls 5 [(4, .int (iI a)), (3, .int (iI my)), (0, .ref (aB 0)), (1, .int (iI l1)), (2, .int (iI d1))] → zW D A s.heap H locs (wB cI cZ aB aD aM aA aS aC aL aT di en mg ++ wM cI cZ aM lb kd pt mn ++ wS cI cZ aS h1 ar1 le1) → W p l e ({ frames := 6, cells := 0, slots := 0, locals := 147 } : Room) s m ([.ref (aB 0), .int (iI l1), .int (iI d1)] : List Value).toArray below meth c H locs 0 0 Q (F0 m 25 ls []) := by
        intro fuel
        induction fuel with
        | zero => intro my a h1 ar1 le1 H locs ls hm; exact absurd hm (Nat.not_lt_zero _)
        | succ fuel ih_25 =>
          intro my a h1 ar1 le1 H locs ls hm_25 g1 g2 hl hW
          refine z_iload F (pc := 25) dX7_confused_25 (lv_at hl 0 rfl) ?_
          refine z_aloadn F (pc := 27) dX7_confused_27 rfl (lv_at hl 2 rfl) ?_
          refine z_get F (pc := 28) (C := RX7) (T := TX7) (N := 10) (ci := 7) inX7 hK hW 0 1 rfl rfl (by decide) rfl (List.mem_of_getElem? (i := 2) rfl) (v := .ref (aM 0)) rfl dX7_confused_28 ?_
          refine z_get F (pc := 31) (C := RX6) (T := TX6) (N := 4) (ci := 6) inX6 hK hW 2 3 rfl rfl (by decide) rfl (List.mem_of_getElem? (i := 3) rfl) (v := .int (iI mn)) rfl dX7_confused_31 ?_
          refine z_icmp_ge F (pc := 34) 70 dX7_confused_34 (by decide) (by omega) (fun c_34 => ?_) (fun c_34 => ?_)
          · skip
            refine z_iloadn F (pc := 70) dX7_confused_70 rfl (lv_at hl 1 rfl) ?_
            exact hret _ _ _ _ my (h1, ar1, le1) dX7_confused_71 (by omega) (by (try dsimp only) <;> (exact Or.inr ⟨by omega, by rw [g2, show a = mn by omega]⟩)) hW
          · skip
            have hla := hlb a g1.1.1 (by omega)
            refine z_aloadn F (pc := 37) dX7_confused_37 rfl (lv_at hl 2 rfl) ?_
            refine z_get F (pc := 38) (C := RX7) (T := TX7) (N := 10) (ci := 7) inX7 hK hW 0 1 rfl rfl (by decide) rfl (List.mem_of_getElem? (i := 2) rfl) (v := .ref (aM 0)) rfl dX7_confused_38 ?_
            refine z_get F (pc := 41) (C := RX6) (T := TX6) (N := 4) (ci := 6) inX6 hK hW 2 0 rfl rfl (by decide) rfl (List.mem_of_getElem? (i := 4) rfl) (v := .ref (aM 1)) rfl dX7_confused_41 ?_
            refine z_iload F (pc := 44) dX7_confused_44 (lv_at hl 0 rfl) ?_
            refine z_iald F (pc := 46) hK hW 3 rfl (by decide) dX7_confused_46 (by omega) ?_
            refine z_iloadn F (pc := 47) dX7_confused_47 rfl (lv_at hl 3 rfl) ?_
            refine z_icmp_ne F (pc := 48) 64 dX7_confused_48 (by decide) (by omega) (fun c_48 => ?_) (fun c_48 => ?_)
            · skip
              have hcs : my = cfN pt kd lb mn l1 d1 (a + 1) := by
                unfold cfN; rw [sm_s _ g1.1.1, zI_f (fun z => c_48 z.1), g2]; unfold cfN; omega
              refine z_iinc F (pc := 64) hl (lv' := [(4, .int (iI (a + 1))), (3, .int (iI my)), (0, .ref (aB 0)), (1, .int (iI l1)), (2, .int (iI d1))]) dX7_confused_64 (k := 0) rfl (by decide) rfl (fun ls hl => ?_)
              refine z_goto F (pc := 67) 25 dX7_confused_67 (by decide) ?_
              exact ih_25 my (a + 1) h1 ar1 le1 _ _ _ (by omega) (by omega) (by exact hcs) (lv_sub hl [0, 1, 2, 3, 4] rfl) hW
            · skip
              refine z_aloadn F (pc := 51) dX7_confused_51 rfl (lv_at hl 2 rfl) ?_
              refine z_iload F (pc := 52) dX7_confused_52 (lv_at hl 0 rfl) ?_
              refine z_iloadn F (pc := 54) dX7_confused_54 rfl (lv_at hl 4 rfl) ?_
              refine z_callVi F (pc := 55) hK hW hA (As := [.int (iI a), .int (iI d1)]) (rest := []) (ws' := fun (u : (Int → Int) × (Int → Int) × (Int → Int)) => wB cI cZ aB aD aM aA aS aC aL aT di en mg ++ wM cI cZ aM lb kd pt mn ++ wS cI cZ aS u.1 u.2.1 u.2.2) (wr := ([])) (c_X7_isConfused l D cI cZ aB aD aM aA aS aC aL aT di lb kd pt h1 ar1 le1 en mg mn a d1 _ (by omega) (by omega) (by omega) (by exact hkd) (by exact hpt) (by exact hlb) (by omega)) (cwV 2 F.2.2.2.2 gX7_confused_X7_isConfused rfl rfl rfl (by decide +kernel) ⟨Nat.le_of_ble_eq_true rfl, Nat.le_of_ble_eq_true rfl⟩) [0, 1, 2, 3, 4, 5, 6, 7, 8, 9] [] [0, 1, 2, 3, 4, 5, 6, 7, 8, 9] rfl rfl (by decide) (by decide) (by decide) (fun _ => rfl) (by decide) (q0 := 0) (ci := 7) rfl rfl rfl rfl rfl hl.1 (Nat.le_of_ble_eq_true rfl) dX7_confused_55 ⟨Nat.le_of_ble_eq_true rfl, Nat.le_of_ble_eq_true rfl⟩ (fun z_55 u H locs r_z_55 hp_55 hW => ?_)
              obtain ⟨he2_55, ar2_55, le2_55⟩ := u
              dsimp only at hp_55 hW
              refine z_if_eq F (pc := 58) 64 dX7_confused_58 (by decide) (by omega) (fun c_58 => ?_) (fun c_58 => ?_)
              · skip
                have b_58 := zB_f hp_55 c_58
                have hcs : my = cfN pt kd lb mn l1 d1 (a + 1) := by
                  unfold cfN; rw [sm_s _ g1.1.1, zI_f (fun z => b_58 z.2), g2]; unfold cfN; omega
                refine z_iinc F (pc := 64) hl (lv' := [(4, .int (iI (a + 1))), (3, .int (iI my)), (0, .ref (aB 0)), (1, .int (iI l1)), (2, .int (iI d1))]) dX7_confused_64 (k := 0) rfl (by decide) rfl (fun ls hl => ?_)
                refine z_goto F (pc := 67) 25 dX7_confused_67 (by decide) ?_
                exact ih_25 my (a + 1) he2_55 ar2_55 le2_55 _ _ _ (by omega) (by omega) (by exact hcs) (lv_sub hl [0, 1, 2, 3, 4] rfl) hW
              · skip
                have b_58 := zB_t hp_55 c_58
                have hcs : my + 1 = cfN pt kd lb mn l1 d1 (a + 1) := by
                  unfold cfN; rw [sm_s _ g1.1.1, zI_t ⟨c_48, b_58⟩, g2]; rfl
                refine z_iinc F (pc := 61) hl (lv' := [(3, .int (iI (my + 1))), (4, .int (iI a)), (0, .ref (aB 0)), (1, .int (iI l1)), (2, .int (iI d1))]) dX7_confused_61 (k := 1) rfl (by decide) rfl (fun ls hl => ?_)
                refine z_iinc F (pc := 64) hl (lv' := [(4, .int (iI (a + 1))), (3, .int (iI (my + 1))), (0, .ref (aB 0)), (1, .int (iI l1)), (2, .int (iI d1))]) dX7_confused_64 (k := 1) rfl (by decide) rfl (fun ls hl => ?_)
                refine z_goto F (pc := 67) 25 dX7_confused_67 (by decide) ?_
                exact ih_25 (my + 1) (a + 1) he2_55 ar2_55 le2_55 _ _ _ (by omega) (by omega) (by exact hcs) (lv_sub hl [0, 1, 2, 3, 4] rfl) hW
      exact cut_25 _ 0 0 he ar le _ _ _ (Nat.lt_succ_self _) (by omega) (by exact (sm_0 _).symm) (lv_sub hl [0, 1, 2, 3, 4] rfl) hW
    · skip
      have b_15 := zB_f hp_12 c_15
      refine z_iconst F (pc := 18) (-1) dX7_confused_18 ?_
      exact hret _ _ _ _ (-1) (he, ar, le) dX7_confused_19 (by omega) (by (try dsimp only) <;> (exact Or.inl ⟨by omega, rfl⟩)) hW
