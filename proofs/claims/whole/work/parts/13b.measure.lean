def bc1 (x : Int32) : Int32 := x - ((x.toUInt32 >>> ((1 : Int32).toUInt32 &&& Int32.toUInt32 31)).toInt32 &&& 1431655765)
def bc2 (x : Int32) : Int32 := (x &&& 858993459) + ((x.toUInt32 >>> ((2 : Int32).toUInt32 &&& Int32.toUInt32 31)).toInt32 &&& 858993459)
def bc3 (x : Int32) : Int32 := (x + (x.toUInt32 >>> ((4 : Int32).toUInt32 &&& Int32.toUInt32 31)).toInt32) &&& 252645135
def bc4 (x : Int32) : Int32 := x + (x.toUInt32 >>> ((8 : Int32).toUInt32 &&& Int32.toUInt32 31)).toInt32
def bc5 (x : Int32) : Int32 := x + (x.toUInt32 >>> ((16 : Int32).toUInt32 &&& Int32.toUInt32 31)).toInt32
def bc6 (x : Int32) : Int32 := x &&& 63
theorem bc_all : ∀ n : Nat, n < 256 → bc6 (bc5 (bc4 (bc3 (bc2 (bc1 (iI (n : Int))))))) = iI (cnt n) := by decide +kernel
theorem bc_of {x : Int} (h : 0 ≤ x ∧ x < 256) : bc6 (bc5 (bc4 (bc3 (bc2 (bc1 (iI x)))))) = iI (cnt x) := by
  obtain ⟨n, rfl⟩ := Int.eq_ofNat_of_zero_le h.1
  exact bc_all n (by omega)
theorem cnt_01 (x : Int) : 0 ≤ cnt x ∧ cnt x ≤ 8 := by
  have b0 := bt_01 x 0
  have b1 := bt_01 x 1
  have b2 := bt_01 x 2
  have b3 := bt_01 x 3
  have b4 := bt_01 x 4
  have b5 := bt_01 x 5
  have b6 := bt_01 x 6
  have b7 := bt_01 x 7
  unfold cnt
  omega
set_option maxHeartbeats 4000000 in
set_option maxRecDepth 100000 in
theorem c_J6_bitCount_0f7a4 (l : Launch) (D : va_G) (cI cZ : ClassId) (x : Int) (sz0 : Nat) (r_x : (-2147483648 ≤ x ∧ x < 2147483648)) (hx : 0 ≤ x ∧ x < 256) : Met l yJ6_bitCount_0f7a4 wsJ6_bitCount_0f7a4 ({ frames := 0, cells := 0, slots := 0, locals := 0 } : Room) (zPc D cI cZ [.int (iI x)] [] sz0) (zQi D cI cZ [] sz0 (fun (r : Int) (u : Unit) => r = cnt x) (fun (u : Unit) => [])) 0 0 (va_A [] sz0) := by
  have hc := cnt_01 x
  refine z_ofI (maxL := 1) (by decide +kernel) rfl (Nat.le_of_ble_eq_true rfl) (Or.inl rfl) ?_
  intro p e s m below meth c A ls Q F hK hW hA hl hret
  have hl : lv_has ls 1 [(0, .int (iI x))] := hl
  refine lv_iload_n F.1 F.2.1 (pc := 0) dJ6_bitCount_0f7a4_0 rfl (lv_at hl 0 rfl) ?_
  refine lv_iload_n F.1 F.2.1 (pc := 1) dJ6_bitCount_0f7a4_1 rfl (lv_at hl 0 rfl) ?_
  refine lv_iconst (v := 1) F.1 F.2.1 (pc := 2) dJ6_bitCount_0f7a4_2 (by decide) ?_
  refine lv_iushr (v := ((iI x).toUInt32 >>> ((1 : Int32).toUInt32 &&& Int32.toUInt32 31)).toInt32) F.1 F.2.1 (pc := 3) dJ6_bitCount_0f7a4_3 rfl ?_
  refine lv_ldcw (v := 1431655765) F.1 F.2.1 (pc := 4) F.2.2.2.1 (F.2.2.2.2 _ (List.mem_of_getElem? (i := 1) rfl)) dJ6_bitCount_0f7a4_4 ?_
  refine lv_iand F.1 F.2.1 (pc := 7) dJ6_bitCount_0f7a4_7 ?_
  refine lv_isub F.1 F.2.1 (pc := 8) dJ6_bitCount_0f7a4_8 ?_
  obtain ⟨v1, e1⟩ : ∃ z, z = bc1 (iI x) := ⟨_, rfl⟩
  refine lv_topi (fun w1 f1 => ?_)
  have g1 : w1 = v1 := by rw [f1, e1]; rfl
  subst g1
  refine lv_istore_n (lv' := [(0, .int w1)]) F.1 F.2.1 (pc := 9) dJ6_bitCount_0f7a4_9 rfl hl (by decide) rfl (fun ls hl => ?_)
  refine lv_iload_n F.1 F.2.1 (pc := 10) dJ6_bitCount_0f7a4_10 rfl (lv_at hl 0 rfl) ?_
  refine lv_ldcw (v := 858993459) F.1 F.2.1 (pc := 11) F.2.2.2.1 (F.2.2.2.2 _ (List.mem_of_getElem? (i := 2) rfl)) dJ6_bitCount_0f7a4_11 ?_
  refine lv_iand F.1 F.2.1 (pc := 14) dJ6_bitCount_0f7a4_14 ?_
  refine lv_iload_n F.1 F.2.1 (pc := 15) dJ6_bitCount_0f7a4_15 rfl (lv_at hl 0 rfl) ?_
  refine lv_iconst (v := 2) F.1 F.2.1 (pc := 16) dJ6_bitCount_0f7a4_16 (by decide) ?_
  refine lv_iushr (v := (w1.toUInt32 >>> ((2 : Int32).toUInt32 &&& Int32.toUInt32 31)).toInt32) F.1 F.2.1 (pc := 17) dJ6_bitCount_0f7a4_17 rfl ?_
  refine lv_ldcw (v := 858993459) F.1 F.2.1 (pc := 18) F.2.2.2.1 (F.2.2.2.2 _ (List.mem_of_getElem? (i := 2) rfl)) dJ6_bitCount_0f7a4_18 ?_
  refine lv_iand F.1 F.2.1 (pc := 21) dJ6_bitCount_0f7a4_21 ?_
  refine lv_iadd F.1 F.2.1 (pc := 22) dJ6_bitCount_0f7a4_22 ?_
  obtain ⟨v2, e2⟩ : ∃ z, z = bc2 w1 := ⟨_, rfl⟩
  refine lv_topi (fun w2 f2 => ?_)
  have g2 : w2 = v2 := by rw [f2, e2]; rfl
  subst g2
  refine lv_istore_n (lv' := [(0, .int w2)]) F.1 F.2.1 (pc := 23) dJ6_bitCount_0f7a4_23 rfl hl (by decide) rfl (fun ls hl => ?_)
  refine lv_iload_n F.1 F.2.1 (pc := 24) dJ6_bitCount_0f7a4_24 rfl (lv_at hl 0 rfl) ?_
  refine lv_iload_n F.1 F.2.1 (pc := 25) dJ6_bitCount_0f7a4_25 rfl (lv_at hl 0 rfl) ?_
  refine lv_iconst (v := 4) F.1 F.2.1 (pc := 26) dJ6_bitCount_0f7a4_26 (by decide) ?_
  refine lv_iushr (v := (w2.toUInt32 >>> ((4 : Int32).toUInt32 &&& Int32.toUInt32 31)).toInt32) F.1 F.2.1 (pc := 27) dJ6_bitCount_0f7a4_27 rfl ?_
  refine lv_iadd F.1 F.2.1 (pc := 28) dJ6_bitCount_0f7a4_28 ?_
  refine lv_ldcw (v := 252645135) F.1 F.2.1 (pc := 29) F.2.2.2.1 (F.2.2.2.2 _ (List.mem_of_getElem? (i := 3) rfl)) dJ6_bitCount_0f7a4_29 ?_
  refine lv_iand F.1 F.2.1 (pc := 32) dJ6_bitCount_0f7a4_32 ?_
  obtain ⟨v3, e3⟩ : ∃ z, z = bc3 w2 := ⟨_, rfl⟩
  refine lv_topi (fun w3 f3 => ?_)
  have g3 : w3 = v3 := by rw [f3, e3]; rfl
  subst g3
  refine lv_istore_n (lv' := [(0, .int w3)]) F.1 F.2.1 (pc := 33) dJ6_bitCount_0f7a4_33 rfl hl (by decide) rfl (fun ls hl => ?_)
  refine lv_iload_n F.1 F.2.1 (pc := 34) dJ6_bitCount_0f7a4_34 rfl (lv_at hl 0 rfl) ?_
  refine lv_iload_n F.1 F.2.1 (pc := 35) dJ6_bitCount_0f7a4_35 rfl (lv_at hl 0 rfl) ?_
  refine lv_bipush (v := 8) F.1 F.2.1 (pc := 36) dJ6_bitCount_0f7a4_36 (by decide) ?_
  refine lv_iushr (v := (w3.toUInt32 >>> ((8 : Int32).toUInt32 &&& Int32.toUInt32 31)).toInt32) F.1 F.2.1 (pc := 38) dJ6_bitCount_0f7a4_38 rfl ?_
  refine lv_iadd F.1 F.2.1 (pc := 39) dJ6_bitCount_0f7a4_39 ?_
  obtain ⟨v4, e4⟩ : ∃ z, z = bc4 w3 := ⟨_, rfl⟩
  refine lv_topi (fun w4 f4 => ?_)
  have g4 : w4 = v4 := by rw [f4, e4]; rfl
  subst g4
  refine lv_istore_n (lv' := [(0, .int w4)]) F.1 F.2.1 (pc := 40) dJ6_bitCount_0f7a4_40 rfl hl (by decide) rfl (fun ls hl => ?_)
  refine lv_iload_n F.1 F.2.1 (pc := 41) dJ6_bitCount_0f7a4_41 rfl (lv_at hl 0 rfl) ?_
  refine lv_iload_n F.1 F.2.1 (pc := 42) dJ6_bitCount_0f7a4_42 rfl (lv_at hl 0 rfl) ?_
  refine lv_bipush (v := 16) F.1 F.2.1 (pc := 43) dJ6_bitCount_0f7a4_43 (by decide) ?_
  refine lv_iushr (v := (w4.toUInt32 >>> ((16 : Int32).toUInt32 &&& Int32.toUInt32 31)).toInt32) F.1 F.2.1 (pc := 45) dJ6_bitCount_0f7a4_45 rfl ?_
  refine lv_iadd F.1 F.2.1 (pc := 46) dJ6_bitCount_0f7a4_46 ?_
  obtain ⟨v5, e5⟩ : ∃ z, z = bc5 w4 := ⟨_, rfl⟩
  refine lv_topi (fun w5 f5 => ?_)
  have g5 : w5 = v5 := by rw [f5, e5]; rfl
  subst g5
  refine lv_istore_n (lv' := [(0, .int w5)]) F.1 F.2.1 (pc := 47) dJ6_bitCount_0f7a4_47 rfl hl (by decide) rfl (fun ls hl => ?_)
  refine lv_iload_n F.1 F.2.1 (pc := 48) dJ6_bitCount_0f7a4_48 rfl (lv_at hl 0 rfl) ?_
  refine lv_bipush (v := 63) F.1 F.2.1 (pc := 49) dJ6_bitCount_0f7a4_49 (by decide) ?_
  refine lv_iand F.1 F.2.1 (pc := 51) dJ6_bitCount_0f7a4_51 ?_
  have hfin : (w5 &&& 63) = iI (cnt x) := by
    rw [e5, e4, e3, e2, e1]
    exact bc_of hx
  rw [hfin]
  exact hret _ _ _ _ (cnt x) () dJ6_bitCount_0f7a4_52 (by omega) rfl hW

set_option maxHeartbeats 4000000 in
set_option maxRecDepth 100000 in
theorem c_X4_pointsApart (l : Launch) (D : va_G) (cI cZ : ClassId) (aS aM : Nat → Nat) (he ar le lb kd pt : Int → Int) (mn : Int) (i b j : Int) (sz0 : Nat) (r_i : (-2147483648 ≤ i ∧ i < 2147483648)) (r_b : (-2147483648 ≤ b ∧ b < 2147483648)) (r_j : (-2147483648 ≤ j ∧ j < 2147483648)) (hh : inH he) (hp : inP pt b) (hb : 0 ≤ b ∧ b + 16 ≤ 256) (hi : (0 ≤ i ∧ i < 8) ∧ (0 ≤ j ∧ j < 8)) : Met l yX4_pointsApart wsX4_pointsApart ({ frames := 1, cells := 0, slots := 0, locals := 21 } : Room) (zPc D cI cZ [.ref (aS 0), .int (iI i), .ref (aM 3), .int (iI b), .int (iI j)] (wS cI cZ aS he ar le ++ wM cI cZ aM lb kd pt mn) sz0) (zQi D cI cZ (wS cI cZ aS he ar le ++ wM cI cZ aM lb kd pt mn) sz0 (fun (r : Int) (u : Unit) => r = fr he pt b i j) (fun (u : Unit) => wS cI cZ aS he ar le ++ wM cI cZ aM lb kd pt mn)) 0 0 (va_A (wS cI cZ aS he ar le ++ wM cI cZ aM lb kd pt mn) sz0) := by
  have a1 := hh (2 * i) (by omega) (by omega)
  have a2 := hh (2 * i + 1) (by omega) (by omega)
  have a3 := hp (b + 2 * j) (by omega) (by omega)
  have a4 := hp (b + 2 * j + 1) (by omega) (by omega)
  refine z_ofI (maxL := 5) (plainFor_of_name (by decide)) rfl (Nat.le_of_ble_eq_true rfl) (Or.inl rfl) ?_
  intro p e s m below meth c A ls Q F hK hW hA hl hret
  have hl : lv_has ls 5 [(0, .ref (aS 0)), (1, .int (iI i)), (2, .ref (aM 3)), (3, .int (iI b)), (4, .int (iI j))] := hl
  have inX4 : ∀ w ∈ u_ws RX4 TX4 3, w ∈ wsX4_pointsApart := fun _ h => List.mem_cons_of_mem _ (List.mem_append_right _ h)
  refine z_aloadn F (pc := 0) dX4_pointsApart_0 rfl (lv_at hl 0 rfl) ?_
  refine z_get F (pc := 1) (C := RX4) (T := TX4) (N := 3) (ci := 4) inX4 hK hW 0 0 rfl rfl (by decide) rfl (List.mem_of_getElem? (i := 1) rfl) (v := .ref (aS 1)) rfl dX4_pointsApart_1 ?_
  refine z_iconst F (pc := 4) (2) dX4_pointsApart_4 ?_
  refine z_iloadn F (pc := 5) dX4_pointsApart_5 rfl (lv_at hl 1 rfl) ?_
  refine z_imul F (pc := 6) dX4_pointsApart_6 ?_
  refine z_iald F (pc := 7) hK hW 1 rfl (by decide) dX4_pointsApart_7 (by omega) ?_
  refine z_aloadn F (pc := 8) dX4_pointsApart_8 rfl (lv_at hl 2 rfl) ?_
  refine z_iloadn F (pc := 9) dX4_pointsApart_9 rfl (lv_at hl 3 rfl) ?_
  refine z_iconst F (pc := 10) (2) dX4_pointsApart_10 ?_
  refine z_iload F (pc := 11) dX4_pointsApart_11 (lv_at hl 4 rfl) ?_
  refine z_imul F (pc := 13) dX4_pointsApart_13 ?_
  refine z_iadd F (pc := 14) dX4_pointsApart_14 ?_
  refine z_iald F (pc := 15) hK hW 7 rfl (by decide) dX4_pointsApart_15 (by omega) ?_
  refine z_isub F (pc := 16) dX4_pointsApart_16 ?_
  refine z_mabs F (pc := 17) hl.1 (List.mem_of_getElem? (i := 2) rfl) (List.mem_of_getElem? (i := 3) rfl) (List.mem_of_getElem? (i := 4) rfl) (List.mem_of_getElem? (i := 5) rfl) (Nat.le_of_ble_eq_true rfl) (Nat.le_of_ble_eq_true rfl) (Nat.le_of_ble_eq_true rfl) (Nat.le_of_ble_eq_true rfl) dX4_pointsApart_17 (by omega) ?_
  refine z_aloadn F (pc := 20) dX4_pointsApart_20 rfl (lv_at hl 0 rfl) ?_
  refine z_get F (pc := 21) (C := RX4) (T := TX4) (N := 3) (ci := 4) inX4 hK hW 0 0 rfl rfl (by decide) rfl (List.mem_of_getElem? (i := 1) rfl) (v := .ref (aS 1)) rfl dX4_pointsApart_21 ?_
  refine z_iconst F (pc := 24) (2) dX4_pointsApart_24 ?_
  refine z_iloadn F (pc := 25) dX4_pointsApart_25 rfl (lv_at hl 1 rfl) ?_
  refine z_imul F (pc := 26) dX4_pointsApart_26 ?_
  refine z_iconst F (pc := 27) (1) dX4_pointsApart_27 ?_
  refine z_iadd F (pc := 28) dX4_pointsApart_28 ?_
  refine z_iald F (pc := 29) hK hW 1 rfl (by decide) dX4_pointsApart_29 (by omega) ?_
  refine z_aloadn F (pc := 30) dX4_pointsApart_30 rfl (lv_at hl 2 rfl) ?_
  refine z_iloadn F (pc := 31) dX4_pointsApart_31 rfl (lv_at hl 3 rfl) ?_
  refine z_iconst F (pc := 32) (2) dX4_pointsApart_32 ?_
  refine z_iload F (pc := 33) dX4_pointsApart_33 (lv_at hl 4 rfl) ?_
  refine z_imul F (pc := 35) dX4_pointsApart_35 ?_
  refine z_iadd F (pc := 36) dX4_pointsApart_36 ?_
  refine z_iconst F (pc := 37) (1) dX4_pointsApart_37 ?_
  refine z_iadd F (pc := 38) dX4_pointsApart_38 ?_
  refine z_iald F (pc := 39) hK hW 7 rfl (by decide) dX4_pointsApart_39 (by omega) ?_
  refine z_isub F (pc := 40) dX4_pointsApart_40 ?_
  refine z_mabs F (pc := 41) hl.1 (List.mem_of_getElem? (i := 2) rfl) (List.mem_of_getElem? (i := 3) rfl) (List.mem_of_getElem? (i := 4) rfl) (List.mem_of_getElem? (i := 5) rfl) (Nat.le_of_ble_eq_true rfl) (Nat.le_of_ble_eq_true rfl) (Nat.le_of_ble_eq_true rfl) (Nat.le_of_ble_eq_true rfl) dX4_pointsApart_41 (by omega) ?_
  refine z_iadd F (pc := 44) dX4_pointsApart_44 ?_
  exact hret _ _ _ _ ((((he (2 * i)) - (pt (b + (2 * j)))).natAbs : Int) + (((he ((2 * i) + 1)) - (pt ((b + (2 * j)) + 1))).natAbs : Int)) () dX4_pointsApart_45 (by omega) (by rfl) hW

set_option maxHeartbeats 4000000 in
set_option maxRecDepth 100000 in
theorem c_X4_leastSum (l : Launch) (D : va_G) (cI cZ : ClassId) (aS : Nat → Nat) (he ar le : Int → Int) (x : Int) (sz0 : Nat) (r_x : (-2147483648 ≤ x ∧ x < 2147483648)) (hx : 1 ≤ x ∧ x < 256) (hle : ∀ j, 0 ≤ j → j < x → 0 ≤ le j ∧ le j ≤ 32000) (har : ∀ j, 0 ≤ j → j < 64 → 0 ≤ ar j ∧ ar j ≤ 4000) : Met l yX4_leastSum wsX4_leastSum ({ frames := 1, cells := 0, slots := 0, locals := 21 } : Room) (zPc D cI cZ [.ref (aS 0), .int (iI x)] (wS cI cZ aS he ar le) sz0) (zQi D cI cZ (wS cI cZ aS he ar le) sz0 (fun (r : Int) (u : Unit) => r = lsm (fun i9 j9 => ar (8 * i9 + j9)) le x 8) (fun (u : Unit) => wS cI cZ aS he ar le)) 0 0 (va_A (wS cI cZ aS he ar le) sz0) := by
  have hc := cnt_r hx
  refine z_ofI (maxL := 6) (plainFor_of_name (by decide)) rfl (Nat.le_of_ble_eq_true rfl) (Or.inl rfl) ?_
  intro p e s m below meth c A ls Q F hK hW hA hl hret
  have hl : lv_has ls 6 [(0, .ref (aS 0)), (1, .int (iI x))] := hl
  have inX4 : ∀ w ∈ u_ws RX4 TX4 3, w ∈ wsX4_leastSum := fun _ h => List.mem_cons_of_mem _ (List.mem_append_right _ h)
  refine z_bipush F (pc := 0) (8) (by decide +kernel) dX4_leastSum_0 ?_
  refine z_iloadn F (pc := 2) dX4_leastSum_2 rfl (lv_at hl 1 rfl) ?_
  refine z_callSi F (pc := 3) hK hW hA (As := [.int (iI x)]) (rest := [.int (iI 8)]) (c_J6_bitCount_0f7a4 l D cI cZ x _ (by omega) (by omega)) (va_cwS 1 F.2.2.2.2 gX4_leastSum_J6_bitCount_0f7a4 rfl rfl rfl (by decide +kernel) ⟨Nat.le_of_ble_eq_true rfl, Nat.le_of_ble_eq_true rfl⟩) rfl rfl hl.1 (Nat.le_of_ble_eq_true rfl) dX4_leastSum_3 ⟨Nat.le_of_ble_eq_true rfl, Nat.le_of_ble_eq_true rfl⟩ (fun z_3 H locs r_z_3 hp_3 hW => ?_)
  replace hp_3 := hp_3.symm
  subst hp_3
  refine z_iconst F (pc := 6) (1) dX4_leastSum_6 ?_
  refine z_isub F (pc := 7) dX4_leastSum_7 ?_
  refine z_imul F (pc := 8) dX4_leastSum_8 ?_
  refine z_istoren F (pc := 9) hl (lv' := [(2, .int (iI (8 * ((cnt x) - 1)))), (0, .ref (aS 0)), (1, .int (iI x))]) dX4_leastSum_9 rfl (by decide) rfl (fun ls hl => ?_)
  refine z_ldc F (pc := 10) (1000000) (by decide +kernel) (List.mem_of_getElem? (i := 1) rfl) dX4_leastSum_10 ?_
  refine z_istoren F (pc := 12) hl (lv' := [(3, .int (iI 1000000)), (2, .int (iI (8 * ((cnt x) - 1)))), (0, .ref (aS 0)), (1, .int (iI x))]) dX4_leastSum_12 rfl (by decide) rfl (fun ls hl => ?_)
  refine z_iconst F (pc := 13) (0) dX4_leastSum_13 ?_
  refine z_istore F (pc := 14) hl (lv' := [(4, .int (iI 0)), (3, .int (iI 1000000)), (2, .int (iI (8 * ((cnt x) - 1)))), (0, .ref (aS 0)), (1, .int (iI x))]) dX4_leastSum_14 (by decide) rfl (fun ls hl => ?_)
  have cut_16 : ∀ (fuel : Nat) (ms : Int) (j : Int) (H : Heap) (locs : List Loc) (ls : Array Slot), (8 - j).toNat < fuel → (0 ≤ j ∧ j ≤ 8) → (0 ≤ ms ∧ ms ≤ 1000000) → (ms = lsm (fun i9 j9 => ar (8 * i9 + j9)) le x j) → lv_has ls 6 [(4, .int (iI j)), (3, .int (iI ms)), (2, .int (iI (8 * (cnt x - 1)))), (0, .ref (aS 0)), (1, .int (iI x))] → zW D A s.heap H locs (wS cI cZ aS he ar le) → W p l e ({ frames := 1, cells := 0, slots := 0, locals := 21 } : Room) s m ([.ref (aS 0), .int (iI x)] : List Value).toArray below meth c H locs 0 0 Q (F0 m 16 ls []) := by
    intro fuel
    induction fuel with
    | zero => intro ms j H locs ls hm; exact absurd hm (Nat.not_lt_zero _)
    | succ fuel ih_16 =>
      intro ms j H locs ls hm_16 h1 h2 h3 hl hW
      refine z_iload F (pc := 16) dX4_leastSum_16 (lv_at hl 0 rfl) ?_
      refine z_bipush F (pc := 18) (8) (by decide +kernel) dX4_leastSum_18 ?_
      refine z_icmp_ge F (pc := 20) 66 dX4_leastSum_20 (by decide) (by omega) (fun c_20 => ?_) (fun c_20 => ?_)
      · skip
        refine z_iloadn F (pc := 66) dX4_leastSum_66 rfl (lv_at hl 1 rfl) ?_
        exact hret _ _ _ _ ms () dX4_leastSum_67 (by omega) (by rw [h3, show j = 8 by omega]) hW
      · skip
        refine z_iconst F (pc := 23) (1) dX4_leastSum_23 ?_
        refine z_iload F (pc := 24) dX4_leastSum_24 (lv_at hl 0 rfl) ?_
        refine z_ishl1 F (pc := 26) dX4_leastSum_26 (by omega) ?_
        refine z_istore F (pc := 27) hl (lv' := [(5, .int (iI (pw j))), (4, .int (iI j)), (3, .int (iI ms)), (2, .int (iI (8 * (cnt x - 1)))), (0, .ref (aS 0)), (1, .int (iI x))]) dX4_leastSum_27 (by decide) rfl (fun ls hl => ?_)
        refine z_iloadn F (pc := 29) dX4_leastSum_29 rfl (lv_at hl 5 rfl) ?_
        refine z_iload F (pc := 30) dX4_leastSum_30 (lv_at hl 0 rfl) ?_
        refine z_iandb (x := x) (j := j) F (pc := 32) dX4_leastSum_32 (by omega) (fun q_32 r_q_32 h_q_32 => ?_)
        refine z_if_eq F (pc := 33) 60 dX4_leastSum_33 (by decide) (by omega) (fun c_33 => ?_) (fun c_33 => ?_)
        · skip
          have hb0 : ¬ bt x j = 1 := h_q_32.mp c_33
          refine z_iinc F (pc := 60) hl (lv' := [(4, .int (iI (j + 1))), (5, .int (iI (pw j))), (3, .int (iI ms)), (2, .int (iI (8 * (cnt x - 1)))), (0, .ref (aS 0)), (1, .int (iI x))]) dX4_leastSum_60 (k := 1) rfl (by decide) rfl (fun ls hl => ?_)
          refine z_goto F (pc := 63) 16 dX4_leastSum_63 (by decide) ?_
          exact ih_16 ms (j + 1) _ _ _ (by omega) (by omega) (by omega) (by first | (rw [lsm_t _ _ h1.1 hb1, h3]; done) | (rw [lsm_f _ _ h1.1 hb0]; exact h3)) (lv_sub hl [0, 2, 3, 4, 5] rfl) hW
        · skip
          have hb1 : bt x j = 1 := Classical.byContradiction (fun z => c_33 (h_q_32.mpr z))
          have hd := bt_d (s := x) (by omega) (j := j) (by omega) hb1
          have hv := hle (x - pw j) (by omega) (by omega)
          have hv2 := har (8 * (cnt x - 1) + j) (by omega) (by omega)
          refine z_iloadn F (pc := 36) dX4_leastSum_36 rfl (lv_at hl 2 rfl) ?_
          refine z_aloadn F (pc := 37) dX4_leastSum_37 rfl (lv_at hl 4 rfl) ?_
          refine z_get F (pc := 38) (C := RX4) (T := TX4) (N := 3) (ci := 4) inX4 hK hW 0 2 rfl rfl (by decide) rfl (List.mem_of_getElem? (i := 2) rfl) (v := .ref (aS 3)) rfl dX4_leastSum_38 ?_
          refine z_iloadn F (pc := 41) dX4_leastSum_41 rfl (lv_at hl 5 rfl) ?_
          refine z_iload F (pc := 42) dX4_leastSum_42 (lv_at hl 0 rfl) ?_
          refine z_ixorb (x := x) (j := j) F (pc := 44) dX4_leastSum_44 (by omega) ?_
          refine z_iald F (pc := 45) hK hW 3 rfl (by decide) dX4_leastSum_45 (by omega) ?_
          refine z_aloadn F (pc := 46) dX4_leastSum_46 rfl (lv_at hl 4 rfl) ?_
          refine z_get F (pc := 47) (C := RX4) (T := TX4) (N := 3) (ci := 4) inX4 hK hW 0 1 rfl rfl (by decide) rfl (List.mem_of_getElem? (i := 3) rfl) (v := .ref (aS 2)) rfl dX4_leastSum_47 ?_
          refine z_iloadn F (pc := 50) dX4_leastSum_50 rfl (lv_at hl 3 rfl) ?_
          refine z_iload F (pc := 51) dX4_leastSum_51 (lv_at hl 1 rfl) ?_
          refine z_iadd F (pc := 53) dX4_leastSum_53 ?_
          refine z_iald F (pc := 54) hK hW 2 rfl (by decide) dX4_leastSum_54 (by omega) ?_
          refine z_iadd F (pc := 55) dX4_leastSum_55 ?_
          refine z_mmin F (pc := 56) hl.1 (List.mem_of_getElem? (i := 4) rfl) (List.mem_of_getElem? (i := 5) rfl) (List.mem_of_getElem? (i := 6) rfl) (List.mem_of_getElem? (i := 7) rfl) (Nat.le_of_ble_eq_true rfl) (Nat.le_of_ble_eq_true rfl) (Nat.le_of_ble_eq_true rfl) (Nat.le_of_ble_eq_true rfl) dX4_leastSum_56 (by omega) ?_
          refine z_istoren F (pc := 59) hl (lv' := [(3, .int (iI (min ms ((le (x - pw j)) + (ar ((8 * (cnt x - 1)) + j)))))), (5, .int (iI (pw j))), (4, .int (iI j)), (2, .int (iI (8 * (cnt x - 1)))), (0, .ref (aS 0)), (1, .int (iI x))]) dX4_leastSum_59 rfl (by decide) rfl (fun ls hl => ?_)
          refine z_iinc F (pc := 60) hl (lv' := [(4, .int (iI (j + 1))), (3, .int (iI (min ms ((le (x - pw j)) + (ar ((8 * (cnt x - 1)) + j)))))), (5, .int (iI (pw j))), (2, .int (iI (8 * (cnt x - 1)))), (0, .ref (aS 0)), (1, .int (iI x))]) dX4_leastSum_60 (k := 2) rfl (by decide) rfl (fun ls hl => ?_)
          refine z_goto F (pc := 63) 16 dX4_leastSum_63 (by decide) ?_
          exact ih_16 (min ms ((le (x - pw j)) + (ar ((8 * (cnt x - 1)) + j)))) (j + 1) _ _ _ (by omega) (by omega) (by omega) (by first | (rw [lsm_t _ _ h1.1 hb1, h3]; done) | (rw [lsm_f _ _ h1.1 hb0]; exact h3)) (lv_sub hl [0, 1, 3, 4, 5] rfl) hW
  exact cut_16 _ 1000000 0 _ _ _ (Nat.lt_succ_self _) (by omega) (by omega) (by rfl) (lv_sub hl [0, 1, 2, 3, 4] rfl) hW

set_option maxHeartbeats 4000000 in
set_option maxRecDepth 100000 in
theorem c_X4_leastPairing (l : Launch) (D : va_G) (cI cZ : ClassId) (aS aM : Nat → Nat) (he ar le lb kd pt : Int → Int) (mn : Int) (b : Int) (sz0 : Nat) (r_b : (-2147483648 ≤ b ∧ b < 2147483648)) (hh : inH he) (hp : inP pt b) (hb : 0 ≤ b ∧ b + 16 ≤ 256) : Met l yX4_leastPairing wsX4_leastPairing ({ frames := 2, cells := 0, slots := 0, locals := 46 } : Room) (zPc D cI cZ [.ref (aS 0), .ref (aM 3), .int (iI b)] (wS cI cZ aS he ar le ++ wM cI cZ aM lb kd pt mn) sz0) (zQi D cI cZ (wS cI cZ aS he ar le ++ wM cI cZ aM lb kd pt mn) sz0 (fun (r : Int) (u : (Int → Int) × (Int → Int)) => r = cL he pt b) (fun (u : (Int → Int) × (Int → Int)) => wS cI cZ aS he u.1 u.2 ++ wM cI cZ aM lb kd pt mn)) 0 0 (va_A (wS cI cZ aS he ar le ++ wM cI cZ aM lb kd pt mn) sz0) := by
  refine z_ofI (maxL := 5) (plainFor_of_name (by decide)) rfl (Nat.le_of_ble_eq_true rfl) (Or.inl rfl) ?_
  intro p e s m below meth c A ls Q F hK hW hA hl hret
  have hl : lv_has ls 5 [(0, .ref (aS 0)), (1, .ref (aM 3)), (2, .int (iI b))] := hl
  have inX4 : ∀ w ∈ u_ws RX4 TX4 3, w ∈ wsX4_leastPairing := fun _ h => List.mem_cons_of_mem _ (List.mem_append_right _ h)
  refine z_iconst F (pc := 0) (0) dX4_leastPairing_0 ?_
  refine z_istoren F (pc := 1) hl (lv' := [(3, .int (iI 0)), (0, .ref (aS 0)), (1, .ref (aM 3)), (2, .int (iI b))]) dX4_leastPairing_1 rfl (by decide) rfl (fun ls hl => ?_)
  have cut_2 : ∀ (fuel : Nat) (i : Int) (ar1 : Int → Int) (H : Heap) (locs : List Loc) (ls : Array Slot), (8 - i).toNat < fuel → (0 ≤ i ∧ i ≤ 8) → (∀ i9 j9, 0 ≤ i9 → i9 < 8 → 0 ≤ j9 → j9 < 8 → 8 * i9 + j9 < 8 * i → ar1 (8 * i9 + j9) = fr he pt b i9 j9) → lv_has ls 5 [(3, .int (iI i)), (0, .ref (aS 0)), (1, .ref (aM 3)), (2, .int (iI b))] → zW D A s.heap H locs (wS cI cZ aS he ar1 le ++ wM cI cZ aM lb kd pt mn) → W p l e ({ frames := 2, cells := 0, slots := 0, locals := 46 } : Room) s m ([.ref (aS 0), .ref (aM 3), .int (iI b)] : List Value).toArray below meth c H locs 0 0 Q (F0 m 2 ls []) := by
    intro fuel
    induction fuel with
    | zero => intro i ar1 H locs ls hm; exact absurd hm (Nat.not_lt_zero _)
    | succ fuel ih_2 =>
      intro i ar1 H locs ls hm_2 h1 h2 hl hW
      refine z_iloadn F (pc := 2) dX4_leastPairing_2 rfl (lv_at hl 0 rfl) ?_
      refine z_bipush F (pc := 3) (8) (by decide +kernel) dX4_leastPairing_3 ?_
      refine z_icmp_ge F (pc := 5) 51 dX4_leastPairing_5 (by decide) (by omega) (fun c_5 => ?_) (fun c_5 => ?_)
      · skip
        have har : ∀ j, 0 ≤ j → j < 64 → 0 ≤ ar1 j ∧ ar1 j ≤ 4000 := by
          intro j j0 j1
          have e := h2 (j / 8) (j % 8) (by omega) (by omega) (by omega) (by omega) (by omega)
          rw [show 8 * (j / 8) + j % 8 = j by omega] at e
          rw [e]; exact fr_b hh hp (by omega) (by omega)
        have hfc : ∀ i9 j9, 0 ≤ i9 → i9 < 8 → 0 ≤ j9 → j9 < 8 → 0 ≤ fr he pt b i9 j9 ∧ fr he pt b i9 j9 ≤ 4000 := fun i9 j9 a1 a2 a3 a4 => fr_b hh hp ⟨a1, a2⟩ ⟨a3, a4⟩
        refine z_aloadn F (pc := 51) dX4_leastPairing_51 rfl (lv_at hl 1 rfl) ?_
        refine z_get F (pc := 52) (C := RX4) (T := TX4) (N := 3) (ci := 4) inX4 hK hW 0 2 rfl rfl (by decide) rfl (List.mem_of_getElem? (i := 2) rfl) (v := .ref (aS 3)) rfl dX4_leastPairing_52 ?_
        refine z_iconst F (pc := 55) (0) dX4_leastPairing_55 ?_
        refine z_iconst F (pc := 56) (0) dX4_leastPairing_56 ?_
        refine z_iast F (pc := 57) hK hW (ws' := wS cI cZ aS he ar1 (zU le 0 0) ++ wM cI cZ aM lb kd pt mn) 3 rfl (by decide) dX4_leastPairing_57 (by omega) rfl (fun H locs hW => ?_)
        refine z_iconst F (pc := 58) (1) dX4_leastPairing_58 ?_
        refine z_istoren F (pc := 59) hl (lv' := [(3, .int (iI 1)), (0, .ref (aS 0)), (1, .ref (aM 3)), (2, .int (iI b))]) dX4_leastPairing_59 rfl (by decide) rfl (fun ls hl => ?_)
        have cut_60 : ∀ (fuel : Nat) (x : Int) (l1 : Int → Int) (H : Heap) (locs : List Loc) (ls : Array Slot), (256 - x).toNat < fuel → (1 ≤ x ∧ x ≤ 256) → (∀ j, 0 ≤ j → j < x → l1 j = TB (fr he pt b) x j) → lv_has ls 5 [(3, .int (iI x)), (0, .ref (aS 0)), (1, .ref (aM 3)), (2, .int (iI b))] → zW D A s.heap H locs (wS cI cZ aS he ar1 l1 ++ wM cI cZ aM lb kd pt mn) → W p l e ({ frames := 2, cells := 0, slots := 0, locals := 46 } : Room) s m ([.ref (aS 0), .ref (aM 3), .int (iI b)] : List Value).toArray below meth c H locs 0 0 Q (F0 m 60 ls []) := by
          intro fuel
          induction fuel with
          | zero => intro x l1 H locs ls hm; exact absurd hm (Nat.not_lt_zero _)
          | succ fuel ih_60 =>
            intro x l1 H locs ls hm_60 k1 k2 hl hW
            refine z_iloadn F (pc := 60) dX4_leastPairing_60 rfl (lv_at hl 0 rfl) ?_
            refine z_sipush F (pc := 61) (256) (by decide +kernel) dX4_leastPairing_61 ?_
            refine z_icmp_ge F (pc := 64) 84 dX4_leastPairing_64 (by decide) (by omega) (fun c_64 => ?_) (fun c_64 => ?_)
            · skip
              have hfin : l1 255 = cL he pt b := by rw [k2 255 (by omega) (by omega), show x = 256 by omega]; rfl
              have hcb := cL_b hh hp
              refine z_aloadn F (pc := 84) dX4_leastPairing_84 rfl (lv_at hl 1 rfl) ?_
              refine z_get F (pc := 85) (C := RX4) (T := TX4) (N := 3) (ci := 4) inX4 hK hW 0 2 rfl rfl (by decide) rfl (List.mem_of_getElem? (i := 2) rfl) (v := .ref (aS 3)) rfl dX4_leastPairing_85 ?_
              refine z_sipush F (pc := 88) (255) (by decide +kernel) dX4_leastPairing_88 ?_
              refine z_iald F (pc := 91) hK hW 3 rfl (by decide) dX4_leastPairing_91 (by omega) ?_
              exact hret _ _ _ _ (l1 255) (ar1, l1) dX4_leastPairing_92 (by rw [hfin]; omega) (by (try dsimp only) <;> (exact hfin)) hW
            · skip
              have hle : ∀ j, 0 ≤ j → j < x → 0 ≤ l1 j ∧ l1 j ≤ 32000 := by
                intro j j0 j1
                rw [k2 j j0 j1]; exact TB_r hfc (by omega) j0 j1
              refine z_aloadn F (pc := 67) dX4_leastPairing_67 rfl (lv_at hl 1 rfl) ?_
              refine z_get F (pc := 68) (C := RX4) (T := TX4) (N := 3) (ci := 4) inX4 hK hW 0 2 rfl rfl (by decide) rfl (List.mem_of_getElem? (i := 2) rfl) (v := .ref (aS 3)) rfl dX4_leastPairing_68 ?_
              refine z_iloadn F (pc := 71) dX4_leastPairing_71 rfl (lv_at hl 0 rfl) ?_
              refine z_aloadn F (pc := 72) dX4_leastPairing_72 rfl (lv_at hl 1 rfl) ?_
              refine z_iloadn F (pc := 73) dX4_leastPairing_73 rfl (lv_at hl 0 rfl) ?_
              refine z_callVi F (pc := 74) hK hW hA (As := [.int (iI x)]) (rest := [.int (iI x), .ref (aS 3)]) (ws' := fun (u : Unit) => wS cI cZ aS he ar1 l1 ++ wM cI cZ aM lb kd pt mn) (wr := (wM cI cZ aM lb kd pt mn)) (c_X4_leastSum l D cI cZ aS he ar1 l1 x _ (by omega) (by omega) (by exact hle) (by exact har)) (cwV 1 F.2.2.2.2 gX4_leastPairing_X4_leastSum rfl rfl rfl (by decide +kernel) ⟨Nat.le_of_ble_eq_true rfl, Nat.le_of_ble_eq_true rfl⟩) [0, 1, 2, 3] [4, 5, 6, 7] [4, 5, 6, 7, 0, 1, 2, 3] rfl rfl (by decide) (by decide) (by decide) (fun _ => rfl) (by decide) (q0 := 0) (ci := 4) rfl rfl rfl rfl rfl hl.1 (Nat.le_of_ble_eq_true rfl) dX4_leastPairing_74 ⟨Nat.le_of_ble_eq_true rfl, Nat.le_of_ble_eq_true rfl⟩ (fun z_74 u H locs r_z_74 hp_74 hW => ?_)
              replace hp_74 := hp_74.symm
              subst hp_74
              refine z_iast F (pc := 77) hK hW (ws' := wS cI cZ aS he ar1 (zU l1 x (lsm (fun i9 j9 => ar1 (8 * i9 + j9)) l1 x 8)) ++ wM cI cZ aM lb kd pt mn) 3 rfl (by decide) dX4_leastPairing_77 (by omega) rfl (fun H locs hW => ?_)
              have hs2 : ∀ j, 0 ≤ j → j < x + 1 → zU l1 x (lsm (fun i9 j9 => ar1 (8 * i9 + j9)) l1 x 8) j = TB (fr he pt b) (x + 1) j := by
                intro j j0 j1
                rw [TB_s _ k1.1]
                by_cases e : j = x
                · rw [e, zU_s, zU_s]; exact lsN_cong (by omega) (fun i9 j9 a1 a2 a3 a4 => h2 i9 j9 a1 a2 a3 a4 (by omega)) k2 8 (Nat.le_refl _)
                · rw [zU_n _ _ e, zU_n _ _ e]; exact k2 j j0 (by omega)
              refine z_iinc F (pc := 78) hl (lv' := [(3, .int (iI (x + 1))), (0, .ref (aS 0)), (1, .ref (aM 3)), (2, .int (iI b))]) dX4_leastPairing_78 (k := 0) rfl (by decide) rfl (fun ls hl => ?_)
              refine z_goto F (pc := 81) 60 dX4_leastPairing_81 (by decide) ?_
              exact ih_60 (x + 1) (zU l1 x (lsm (fun i9 j9 => ar1 (8 * i9 + j9)) l1 x 8)) _ _ _ (by omega) (by omega) (by exact hs2) (lv_sub hl [0, 1, 2, 3] rfl) hW
        exact cut_60 _ 1 (zU le 0 0) _ _ _ (Nat.lt_succ_self _) (by omega) (by intro j j0 j1; rw [show j = 0 by omega, zU_s, TB_1]) (lv_sub hl [0, 1, 2, 3] rfl) hW
      · skip
        refine z_iconst F (pc := 8) (0) dX4_leastPairing_8 ?_
        refine z_istore F (pc := 9) hl (lv' := [(4, .int (iI 0)), (3, .int (iI i)), (0, .ref (aS 0)), (1, .ref (aM 3)), (2, .int (iI b))]) dX4_leastPairing_9 (by decide) rfl (fun ls hl => ?_)
        have cut_11 : ∀ (fuel : Nat) (j : Int) (ar1 : Int → Int) (H : Heap) (locs : List Loc) (ls : Array Slot), (8 - j).toNat < fuel → (0 ≤ j ∧ j ≤ 8) → (∀ i9 j9, 0 ≤ i9 → i9 < 8 → 0 ≤ j9 → j9 < 8 → 8 * i9 + j9 < 8 * i + j → ar1 (8 * i9 + j9) = fr he pt b i9 j9) → lv_has ls 5 [(4, .int (iI j)), (3, .int (iI i)), (0, .ref (aS 0)), (1, .ref (aM 3)), (2, .int (iI b))] → zW D A s.heap H locs (wS cI cZ aS he ar1 le ++ wM cI cZ aM lb kd pt mn) → W p l e ({ frames := 2, cells := 0, slots := 0, locals := 46 } : Room) s m ([.ref (aS 0), .ref (aM 3), .int (iI b)] : List Value).toArray below meth c H locs 0 0 Q (F0 m 11 ls []) := by
          intro fuel
          induction fuel with
          | zero => intro j ar1 H locs ls hm; exact absurd hm (Nat.not_lt_zero _)
          | succ fuel ih_11 =>
            intro j ar1 H locs ls hm_11 g1 g2 hl hW
            refine z_iload F (pc := 11) dX4_leastPairing_11 (lv_at hl 0 rfl) ?_
            refine z_bipush F (pc := 13) (8) (by decide +kernel) dX4_leastPairing_13 ?_
            refine z_icmp_ge F (pc := 15) 45 dX4_leastPairing_15 (by decide) (by omega) (fun c_15 => ?_) (fun c_15 => ?_)
            · skip
              refine z_iinc F (pc := 45) hl (lv' := [(3, .int (iI (i + 1))), (4, .int (iI j)), (0, .ref (aS 0)), (1, .ref (aM 3)), (2, .int (iI b))]) dX4_leastPairing_45 (k := 1) rfl (by decide) rfl (fun ls hl => ?_)
              refine z_goto F (pc := 48) 2 dX4_leastPairing_48 (by decide) ?_
              exact ih_2 (i + 1) ar1 _ _ _ (by omega) (by omega) (by intro i9 j9 a1 a2 a3 a4 a5; exact g2 i9 j9 a1 a2 a3 a4 (by omega)) (lv_sub hl [0, 2, 3, 4] rfl) hW
            · skip
              refine z_aloadn F (pc := 18) dX4_leastPairing_18 rfl (lv_at hl 2 rfl) ?_
              refine z_get F (pc := 19) (C := RX4) (T := TX4) (N := 3) (ci := 4) inX4 hK hW 0 1 rfl rfl (by decide) rfl (List.mem_of_getElem? (i := 1) rfl) (v := .ref (aS 2)) rfl dX4_leastPairing_19 ?_
              refine z_bipush F (pc := 22) (8) (by decide +kernel) dX4_leastPairing_22 ?_
              refine z_iloadn F (pc := 24) dX4_leastPairing_24 rfl (lv_at hl 1 rfl) ?_
              refine z_imul F (pc := 25) dX4_leastPairing_25 ?_
              refine z_iload F (pc := 26) dX4_leastPairing_26 (lv_at hl 0 rfl) ?_
              refine z_iadd F (pc := 28) dX4_leastPairing_28 ?_
              refine z_aloadn F (pc := 29) dX4_leastPairing_29 rfl (lv_at hl 2 rfl) ?_
              refine z_iloadn F (pc := 30) dX4_leastPairing_30 rfl (lv_at hl 1 rfl) ?_
              refine z_aloadn F (pc := 31) dX4_leastPairing_31 rfl (lv_at hl 3 rfl) ?_
              refine z_iloadn F (pc := 32) dX4_leastPairing_32 rfl (lv_at hl 4 rfl) ?_
              refine z_iload F (pc := 33) dX4_leastPairing_33 (lv_at hl 0 rfl) ?_
              refine z_callVi F (pc := 35) hK hW hA (As := [.int (iI i), .ref (aM 3), .int (iI b), .int (iI j)]) (rest := [.int (iI ((8 * i) + j)), .ref (aS 2)]) (ws' := fun (u : Unit) => wS cI cZ aS he ar1 le ++ wM cI cZ aM lb kd pt mn) (wr := ([])) (c_X4_pointsApart l D cI cZ aS aM he ar1 le lb kd pt mn i b j _ (by omega) (by omega) (by omega) (by exact hh) (by exact hp) (by omega) (by omega)) (cwV 4 F.2.2.2.2 gX4_leastPairing_X4_pointsApart rfl rfl rfl (by decide +kernel) ⟨Nat.le_of_ble_eq_true rfl, Nat.le_of_ble_eq_true rfl⟩) [0, 1, 2, 3, 4, 5, 6, 7] [] [0, 1, 2, 3, 4, 5, 6, 7] rfl rfl (by decide) (by decide) (by decide) (fun _ => rfl) (by decide) (q0 := 0) (ci := 4) rfl rfl rfl rfl rfl hl.1 (Nat.le_of_ble_eq_true rfl) dX4_leastPairing_35 ⟨Nat.le_of_ble_eq_true rfl, Nat.le_of_ble_eq_true rfl⟩ (fun z_35 u H locs r_z_35 hp_35 hW => ?_)
              replace hp_35 := hp_35.symm
              subst hp_35
              refine z_iast F (pc := 38) hK hW (ws' := wS cI cZ aS he (zU ar1 ((8 * i) + j) (fr he pt b i j)) le ++ wM cI cZ aM lb kd pt mn) 2 rfl (by decide) dX4_leastPairing_38 (by omega) rfl (fun H locs hW => ?_)
              have hst : ∀ i9 j9, 0 ≤ i9 → i9 < 8 → 0 ≤ j9 → j9 < 8 → 8 * i9 + j9 < 8 * i + (j + 1) → zU ar1 (8 * i + j) (fr he pt b i j) (8 * i9 + j9) = fr he pt b i9 j9 := by
                intro i9 j9 a1 a2 a3 a4 a5
                by_cases e : 8 * i9 + j9 = 8 * i + j
                · rw [e, zU_s, show i9 = i by omega, show j9 = j by omega]
                · rw [zU_n _ _ e]; exact g2 i9 j9 a1 a2 a3 a4 (by omega)
              refine z_iinc F (pc := 39) hl (lv' := [(4, .int (iI (j + 1))), (3, .int (iI i)), (0, .ref (aS 0)), (1, .ref (aM 3)), (2, .int (iI b))]) dX4_leastPairing_39 (k := 0) rfl (by decide) rfl (fun ls hl => ?_)
              refine z_goto F (pc := 42) 11 dX4_leastPairing_42 (by decide) ?_
              exact ih_11 (j + 1) (zU ar1 ((8 * i) + j) (fr he pt b i j)) _ _ _ (by omega) (by omega) (by exact hst) (lv_sub hl [0, 1, 2, 3, 4] rfl) hW
        exact cut_11 _ 0 ar1 _ _ _ (Nat.lt_succ_self _) (by omega) (by intro i9 j9 a1 a2 a3 a4 a5; exact h2 i9 j9 a1 a2 a3 a4 (by omega)) (lv_sub hl [0, 1, 2, 3, 4] rfl) hW
  exact cut_2 _ 0 ar _ _ _ (Nat.lt_succ_self _) (by omega) (by intro i9 j9 a1 a2 a3 a4 a5; omega) (lv_sub hl [0, 1, 2, 3] rfl) hW

set_option maxHeartbeats 4000000 in
set_option maxRecDepth 100000 in
theorem c_X4_distanceUnturned (l : Launch) (D : va_G) (cI cZ : ClassId) (aS aM : Nat → Nat) (he ar le lb kd pt : Int → Int) (mn : Int) (q b : Int) (sz0 : Nat) (r_q : (-2147483648 ≤ q ∧ q < 2147483648)) (r_b : (-2147483648 ≤ b ∧ b < 2147483648)) (hh : inH he) (hp : inP pt b) (hb : 0 ≤ b ∧ b + 16 ≤ 256) (hq : 0 ≤ q ∧ q ≤ 4) : Met l yX4_distanceUnturned wsX4_distanceUnturned ({ frames := 3, cells := 0, slots := 0, locals := 70 } : Room) (zPc D cI cZ [.ref (aS 0), .int (iI q), .ref (aM 3), .int (iI b)] (wS cI cZ aS he ar le ++ wM cI cZ aM lb kd pt mn) sz0) (zQi D cI cZ (wS cI cZ aS he ar le ++ wM cI cZ aM lb kd pt mn) sz0 (fun (r : Int) (u : (Int → Int) × (Int → Int)) => r = dU he pt b q) (fun (u : (Int → Int) × (Int → Int)) => wS cI cZ aS he u.1 u.2 ++ wM cI cZ aM lb kd pt mn)) 0 0 (va_A (wS cI cZ aS he ar le ++ wM cI cZ aM lb kd pt mn) sz0) := by
  have hdb := dU_b (q := q) hh hp
  have hsb := sT_b hh hp
  have hkb := bK_b hh hp
  refine z_ofI (maxL := 7) (plainFor_of_name (by decide)) rfl (Nat.le_of_ble_eq_true rfl) (Or.inl rfl) ?_
  intro p e s m below meth c A ls Q F hK hW hA hl hret
  have hl : lv_has ls 7 [(0, .ref (aS 0)), (1, .int (iI q)), (2, .ref (aM 3)), (3, .int (iI b))] := hl
  refine z_iloadn F (pc := 0) dX4_distanceUnturned_0 rfl (lv_at hl 1 rfl) ?_
  refine z_iconst F (pc := 1) (3) dX4_distanceUnturned_1 ?_
  refine z_icmp_eq F (pc := 2) 10 dX4_distanceUnturned_2 (by decide) (by omega) (fun c_2 => ?_) (fun c_2 => ?_)
  · skip
    refine z_aloadn F (pc := 10) dX4_distanceUnturned_10 rfl (lv_at hl 0 rfl) ?_
    refine z_aloadn F (pc := 11) dX4_distanceUnturned_11 rfl (lv_at hl 2 rfl) ?_
    refine z_iloadn F (pc := 12) dX4_distanceUnturned_12 rfl (lv_at hl 3 rfl) ?_
    refine z_callVi F (pc := 13) hK hW hA (As := [.ref (aM 3), .int (iI b)]) (rest := []) (ws' := fun (u : (Int → Int) × (Int → Int)) => wS cI cZ aS he u.1 u.2 ++ wM cI cZ aM lb kd pt mn) (wr := ([])) (c_X4_leastPairing l D cI cZ aS aM he ar le lb kd pt mn b _ (by omega) (by exact hh) (by exact hp) (by omega)) (cwV 2 F.2.2.2.2 gX4_distanceUnturned_X4_leastPairing rfl rfl rfl (by decide +kernel) ⟨Nat.le_of_ble_eq_true rfl, Nat.le_of_ble_eq_true rfl⟩) [0, 1, 2, 3, 4, 5, 6, 7] [] [0, 1, 2, 3, 4, 5, 6, 7] rfl rfl (by decide) (by decide) (by decide) (fun _ => rfl) (by decide) (q0 := 0) (ci := 4) rfl rfl rfl rfl rfl hl.1 (Nat.le_of_ble_eq_true rfl) dX4_distanceUnturned_13 ⟨Nat.le_of_ble_eq_true rfl, Nat.le_of_ble_eq_true rfl⟩ (fun z_13 u H locs r_z_13 hp_13 hW => ?_)
    obtain ⟨ar2_13, le2_13⟩ := u
    dsimp only at hp_13 hW
    replace hp_13 := hp_13.symm
    subst hp_13
    exact hret _ _ _ _ (cL he pt b) (ar2_13, le2_13) dX4_distanceUnturned_16 (by first | omega | (have e9 := cL_b hh hp; omega)) (by (try dsimp only) <;> (unfold dU; rw [if_pos (by omega)])) hW
  · skip
    refine z_iloadn F (pc := 5) dX4_distanceUnturned_5 rfl (lv_at hl 1 rfl) ?_
    refine z_iconst F (pc := 6) (4) dX4_distanceUnturned_6 ?_
    refine z_icmp_ne F (pc := 7) 17 dX4_distanceUnturned_7 (by decide) (by omega) (fun c_7 => ?_) (fun c_7 => ?_)
    · skip
      refine z_iconst F (pc := 17) (0) dX4_distanceUnturned_17 ?_
      refine z_istore F (pc := 18) hl (lv' := [(4, .int (iI 0)), (0, .ref (aS 0)), (1, .int (iI q)), (2, .ref (aM 3)), (3, .int (iI b))]) dX4_distanceUnturned_18 (by decide) rfl (fun ls hl => ?_)
      refine z_iconst F (pc := 20) (0) dX4_distanceUnturned_20 ?_
      refine z_istore F (pc := 21) hl (lv' := [(5, .int (iI 0)), (4, .int (iI 0)), (0, .ref (aS 0)), (1, .int (iI q)), (2, .ref (aM 3)), (3, .int (iI b))]) dX4_distanceUnturned_21 (by decide) rfl (fun ls hl => ?_)
      refine z_iconst F (pc := 23) (0) dX4_distanceUnturned_23 ?_
      refine z_istore F (pc := 24) hl (lv' := [(6, .int (iI 0)), (5, .int (iI 0)), (4, .int (iI 0)), (0, .ref (aS 0)), (1, .int (iI q)), (2, .ref (aM 3)), (3, .int (iI b))]) dX4_distanceUnturned_24 (by decide) rfl (fun ls hl => ?_)
      have cut_26 : ∀ (fuel : Nat) (sa : Int) (sb : Int) (i : Int) (H : Heap) (locs : List Loc) (ls : Array Slot), (8 - i).toNat < fuel → (0 ≤ i ∧ i ≤ 8) → (sa = sm (fun i9 => fr he pt b i9 i9) i) → (sb = sm (fun i9 => fr he pt b i9 (7 - i9)) i) → lv_has ls 7 [(6, .int (iI i)), (5, .int (iI sb)), (4, .int (iI sa)), (0, .ref (aS 0)), (1, .int (iI q)), (2, .ref (aM 3)), (3, .int (iI b))] → zW D A s.heap H locs (wS cI cZ aS he ar le ++ wM cI cZ aM lb kd pt mn) → W p l e ({ frames := 3, cells := 0, slots := 0, locals := 70 } : Room) s m ([.ref (aS 0), .int (iI q), .ref (aM 3), .int (iI b)] : List Value).toArray below meth c H locs 0 0 Q (F0 m 26 ls []) := by
        intro fuel
        induction fuel with
        | zero => intro sa sb i H locs ls hm; exact absurd hm (Nat.not_lt_zero _)
        | succ fuel ih_26 =>
          intro sa sb i H locs ls hm_26 h1 h2 h3 hl hW
          refine z_iload F (pc := 26) dX4_distanceUnturned_26 (lv_at hl 0 rfl) ?_
          refine z_bipush F (pc := 28) (8) (by decide +kernel) dX4_distanceUnturned_28 ?_
          refine z_icmp_ge F (pc := 30) 72 dX4_distanceUnturned_30 (by decide) (by omega) (fun c_30 => ?_) (fun c_30 => ?_)
          · skip
            have e1 : sa = sT he pt b := by rw [h2, show i = 8 by omega]; rfl
            have e2 : sb = bK he pt b := by rw [h3, show i = 8 by omega]; rfl
            refine z_iloadn F (pc := 72) dX4_distanceUnturned_72 rfl (lv_at hl 4 rfl) ?_
            refine z_iconst F (pc := 73) (2) dX4_distanceUnturned_73 ?_
            refine z_icmp_ne F (pc := 74) 87 dX4_distanceUnturned_74 (by decide) (by omega) (fun c_74 => ?_) (fun c_74 => ?_)
            · skip
              refine z_iload F (pc := 87) dX4_distanceUnturned_87 (lv_at hl 2 rfl) ?_
              exact hret _ _ _ _ sa (ar, le) dX4_distanceUnturned_89 (by first | omega | (have e9 := cL_b hh hp; omega)) (by (try dsimp only) <;> (unfold dU; rw [if_neg (by omega)]; first | (rw [if_pos (by omega), e1, e2]; done) | (rw [if_neg (by omega), e1]))) hW
            · skip
              refine z_iload F (pc := 77) dX4_distanceUnturned_77 (lv_at hl 2 rfl) ?_
              refine z_iload F (pc := 79) dX4_distanceUnturned_79 (lv_at hl 1 rfl) ?_
              refine z_mmin F (pc := 81) hl.1 (List.mem_of_getElem? (i := 1) rfl) (List.mem_of_getElem? (i := 2) rfl) (List.mem_of_getElem? (i := 3) rfl) (List.mem_of_getElem? (i := 4) rfl) (Nat.le_of_ble_eq_true rfl) (Nat.le_of_ble_eq_true rfl) (Nat.le_of_ble_eq_true rfl) (Nat.le_of_ble_eq_true rfl) dX4_distanceUnturned_81 (by omega) ?_
              refine z_goto F (pc := 84) 89 dX4_distanceUnturned_84 (by decide) ?_
              exact hret _ _ _ _ (min sa sb) (ar, le) dX4_distanceUnturned_89 (by first | omega | (have e9 := cL_b hh hp; omega)) (by (try dsimp only) <;> (unfold dU; rw [if_neg (by omega)]; first | (rw [if_pos (by omega), e1, e2]; done) | (rw [if_neg (by omega), e1]))) hW
          · skip
            refine z_iload F (pc := 33) dX4_distanceUnturned_33 (lv_at hl 2 rfl) ?_
            refine z_aloadn F (pc := 35) dX4_distanceUnturned_35 rfl (lv_at hl 3 rfl) ?_
            refine z_iload F (pc := 36) dX4_distanceUnturned_36 (lv_at hl 0 rfl) ?_
            refine z_aloadn F (pc := 38) dX4_distanceUnturned_38 rfl (lv_at hl 5 rfl) ?_
            refine z_iloadn F (pc := 39) dX4_distanceUnturned_39 rfl (lv_at hl 6 rfl) ?_
            refine z_iload F (pc := 40) dX4_distanceUnturned_40 (lv_at hl 0 rfl) ?_
            refine z_callVi F (pc := 42) hK hW hA (As := [.int (iI i), .ref (aM 3), .int (iI b), .int (iI i)]) (rest := [.int (iI sa)]) (ws' := fun (u : Unit) => wS cI cZ aS he ar le ++ wM cI cZ aM lb kd pt mn) (wr := ([])) (c_X4_pointsApart l D cI cZ aS aM he ar le lb kd pt mn i b i _ (by omega) (by omega) (by omega) (by exact hh) (by exact hp) (by omega) (by omega)) (cwV 4 F.2.2.2.2 gX4_distanceUnturned_X4_pointsApart rfl rfl rfl (by decide +kernel) ⟨Nat.le_of_ble_eq_true rfl, Nat.le_of_ble_eq_true rfl⟩) [0, 1, 2, 3, 4, 5, 6, 7] [] [0, 1, 2, 3, 4, 5, 6, 7] rfl rfl (by decide) (by decide) (by decide) (fun _ => rfl) (by decide) (q0 := 0) (ci := 4) rfl rfl rfl rfl rfl hl.1 (Nat.le_of_ble_eq_true rfl) dX4_distanceUnturned_42 ⟨Nat.le_of_ble_eq_true rfl, Nat.le_of_ble_eq_true rfl⟩ (fun z_42 u H locs r_z_42 hp_42 hW => ?_)
            replace hp_42 := hp_42.symm
            subst hp_42
            refine z_iadd F (pc := 45) dX4_distanceUnturned_45 ?_
            refine z_istore F (pc := 46) hl (lv' := [(4, .int (iI (sa + (fr he pt b i i)))), (6, .int (iI i)), (5, .int (iI sb)), (0, .ref (aS 0)), (1, .int (iI q)), (2, .ref (aM 3)), (3, .int (iI b))]) dX4_distanceUnturned_46 (by decide) rfl (fun ls hl => ?_)
            refine z_iload F (pc := 48) dX4_distanceUnturned_48 (lv_at hl 2 rfl) ?_
            refine z_aloadn F (pc := 50) dX4_distanceUnturned_50 rfl (lv_at hl 3 rfl) ?_
            refine z_iload F (pc := 51) dX4_distanceUnturned_51 (lv_at hl 1 rfl) ?_
            refine z_aloadn F (pc := 53) dX4_distanceUnturned_53 rfl (lv_at hl 5 rfl) ?_
            refine z_iloadn F (pc := 54) dX4_distanceUnturned_54 rfl (lv_at hl 6 rfl) ?_
            refine z_bipush F (pc := 55) (7) (by decide +kernel) dX4_distanceUnturned_55 ?_
            refine z_iload F (pc := 57) dX4_distanceUnturned_57 (lv_at hl 1 rfl) ?_
            refine z_isub F (pc := 59) dX4_distanceUnturned_59 ?_
            refine z_callVi F (pc := 60) hK hW hA (As := [.int (iI i), .ref (aM 3), .int (iI b), .int (iI (7 - i))]) (rest := [.int (iI sb)]) (ws' := fun (u : Unit) => wS cI cZ aS he ar le ++ wM cI cZ aM lb kd pt mn) (wr := ([])) (c_X4_pointsApart l D cI cZ aS aM he ar le lb kd pt mn i b (7 - i) _ (by omega) (by omega) (by omega) (by exact hh) (by exact hp) (by omega) (by omega)) (cwV 4 F.2.2.2.2 gX4_distanceUnturned_X4_pointsApart rfl rfl rfl (by decide +kernel) ⟨Nat.le_of_ble_eq_true rfl, Nat.le_of_ble_eq_true rfl⟩) [0, 1, 2, 3, 4, 5, 6, 7] [] [0, 1, 2, 3, 4, 5, 6, 7] rfl rfl (by decide) (by decide) (by decide) (fun _ => rfl) (by decide) (q0 := 0) (ci := 4) rfl rfl rfl rfl rfl hl.1 (Nat.le_of_ble_eq_true rfl) dX4_distanceUnturned_60 ⟨Nat.le_of_ble_eq_true rfl, Nat.le_of_ble_eq_true rfl⟩ (fun z_60 u H locs r_z_60 hp_60 hW => ?_)
            replace hp_60 := hp_60.symm
            subst hp_60
            refine z_iadd F (pc := 63) dX4_distanceUnturned_63 ?_
            refine z_istore F (pc := 64) hl (lv' := [(5, .int (iI (sb + (fr he pt b i (7 - i))))), (4, .int (iI (sa + (fr he pt b i i)))), (6, .int (iI i)), (0, .ref (aS 0)), (1, .int (iI q)), (2, .ref (aM 3)), (3, .int (iI b))]) dX4_distanceUnturned_64 (by decide) rfl (fun ls hl => ?_)
            refine z_iinc F (pc := 66) hl (lv' := [(6, .int (iI (i + 1))), (5, .int (iI (sb + (fr he pt b i (7 - i))))), (4, .int (iI (sa + (fr he pt b i i)))), (0, .ref (aS 0)), (1, .int (iI q)), (2, .ref (aM 3)), (3, .int (iI b))]) dX4_distanceUnturned_66 (k := 2) rfl (by decide) rfl (fun ls hl => ?_)
            refine z_goto F (pc := 69) 26 dX4_distanceUnturned_69 (by decide) ?_
            exact ih_26 (sa + (fr he pt b i i)) (sb + (fr he pt b i (7 - i))) (i + 1) _ _ _ (by omega) (by omega) (by rw [sm_s _ h1.1, h2]) (by rw [sm_s _ h1.1, h3]) (lv_sub hl [0, 1, 2, 3, 4, 5, 6] rfl) hW
      exact cut_26 _ 0 0 0 _ _ _ (Nat.lt_succ_self _) (by omega) (by exact (sm_0 _).symm) (by exact (sm_0 _).symm) (lv_sub hl [0, 1, 2, 3, 4, 5, 6] rfl) hW
    · skip
      refine z_aloadn F (pc := 10) dX4_distanceUnturned_10 rfl (lv_at hl 0 rfl) ?_
      refine z_aloadn F (pc := 11) dX4_distanceUnturned_11 rfl (lv_at hl 2 rfl) ?_
      refine z_iloadn F (pc := 12) dX4_distanceUnturned_12 rfl (lv_at hl 3 rfl) ?_
      refine z_callVi F (pc := 13) hK hW hA (As := [.ref (aM 3), .int (iI b)]) (rest := []) (ws' := fun (u : (Int → Int) × (Int → Int)) => wS cI cZ aS he u.1 u.2 ++ wM cI cZ aM lb kd pt mn) (wr := ([])) (c_X4_leastPairing l D cI cZ aS aM he ar le lb kd pt mn b _ (by omega) (by exact hh) (by exact hp) (by omega)) (cwV 2 F.2.2.2.2 gX4_distanceUnturned_X4_leastPairing rfl rfl rfl (by decide +kernel) ⟨Nat.le_of_ble_eq_true rfl, Nat.le_of_ble_eq_true rfl⟩) [0, 1, 2, 3, 4, 5, 6, 7] [] [0, 1, 2, 3, 4, 5, 6, 7] rfl rfl (by decide) (by decide) (by decide) (fun _ => rfl) (by decide) (q0 := 0) (ci := 4) rfl rfl rfl rfl rfl hl.1 (Nat.le_of_ble_eq_true rfl) dX4_distanceUnturned_13 ⟨Nat.le_of_ble_eq_true rfl, Nat.le_of_ble_eq_true rfl⟩ (fun z_13 u H locs r_z_13 hp_13 hW => ?_)
      obtain ⟨ar2_13, le2_13⟩ := u
      dsimp only at hp_13 hW
      replace hp_13 := hp_13.symm
      subst hp_13
      exact hret _ _ _ _ (cL he pt b) (ar2_13, le2_13) dX4_distanceUnturned_16 (by first | omega | (have e9 := cL_b hh hp; omega)) (by (try dsimp only) <;> (unfold dU; rw [if_pos (by omega)])) hW

set_option maxHeartbeats 4000000 in
set_option maxRecDepth 100000 in
theorem c_X4_turnQuarter (l : Launch) (D : va_G) (cI cZ : ClassId) (aS : Nat → Nat) (he ar le : Int → Int) (sz0 : Nat) (hh : inH he) : Met l yX4_turnQuarter wsX4_turnQuarter ({ frames := 0, cells := 0, slots := 0, locals := 0 } : Room) (zPc D cI cZ [.ref (aS 0)] (wS cI cZ aS he ar le) sz0) (zQv D cI cZ (wS cI cZ aS he ar le) sz0 (fun (u : (Int → Int)) => u = tn he) (fun (u : (Int → Int)) => wS cI cZ aS u ar le)) 0 0 (va_A (wS cI cZ aS he ar le) sz0) := by
  refine z_ofV (maxL := 3) (plainFor_of_name (by decide)) rfl (Nat.le_of_ble_eq_true rfl) ?_
  intro p e s m below meth c A ls Q F hK hW hA hl hret
  have hl : lv_has ls 3 [(0, .ref (aS 0))] := hl
  have inX4 : ∀ w ∈ u_ws RX4 TX4 3, w ∈ wsX4_turnQuarter := fun _ h => List.mem_cons_of_mem _ (List.mem_append_right _ h)
  refine z_iconst F (pc := 0) (0) dX4_turnQuarter_0 ?_
  refine z_istoren F (pc := 1) hl (lv' := [(1, .int (iI 0)), (0, .ref (aS 0))]) dX4_turnQuarter_1 rfl (by decide) rfl (fun ls hl => ?_)
  have cut_2 : ∀ (fuel : Nat) (n : Int) (h1 : Int → Int) (H : Heap) (locs : List Loc) (ls : Array Slot), (16 - n).toNat < fuel → (0 ≤ n ∧ n ≤ 16 ∧ n % 2 = 0) → (h1 = tnT he n) → lv_has ls 3 [(1, .int (iI n)), (0, .ref (aS 0))] → zW D A s.heap H locs (wS cI cZ aS h1 ar le) → W p l e ({ frames := 0, cells := 0, slots := 0, locals := 0 } : Room) s m ([.ref (aS 0)] : List Value).toArray below meth c H locs 0 0 Q (F0 m 2 ls []) := by
    intro fuel
    induction fuel with
    | zero => intro n h1 H locs ls hm; exact absurd hm (Nat.not_lt_zero _)
    | succ fuel ih_2 =>
      intro n h1 H locs ls hm_2 g1 g2 hl hW
      refine z_iloadn F (pc := 2) dX4_turnQuarter_2 rfl (lv_at hl 0 rfl) ?_
      refine z_bipush F (pc := 3) (16) (by decide +kernel) dX4_turnQuarter_3 ?_
      refine z_icmp_ge F (pc := 5) 45 dX4_turnQuarter_5 (by decide) (by omega) (fun c_5 => ?_) (fun c_5 => ?_)
      · skip
        exact hret _ _ _ _ h1 dX4_turnQuarter_45 (by rw [g2, show n = 16 by omega, tnT_16]) hW
      · skip
        refine z_aloadn F (pc := 8) dX4_turnQuarter_8 rfl (lv_at hl 1 rfl) ?_
        refine z_get F (pc := 9) (C := RX4) (T := TX4) (N := 3) (ci := 4) inX4 hK hW 0 0 rfl rfl (by decide) rfl (List.mem_of_getElem? (i := 1) rfl) (v := .ref (aS 1)) rfl dX4_turnQuarter_9 ?_
        refine z_iloadn F (pc := 12) dX4_turnQuarter_12 rfl (lv_at hl 0 rfl) ?_
        refine z_iald F (pc := 13) hK hW 1 rfl (by decide) dX4_turnQuarter_13 (by omega) ?_
        refine z_istoren F (pc := 14) hl (lv' := [(2, .int (iI (h1 n))), (1, .int (iI n)), (0, .ref (aS 0))]) dX4_turnQuarter_14 rfl (by decide) rfl (fun ls hl => ?_)
        refine z_aloadn F (pc := 15) dX4_turnQuarter_15 rfl (lv_at hl 2 rfl) ?_
        refine z_get F (pc := 16) (C := RX4) (T := TX4) (N := 3) (ci := 4) inX4 hK hW 0 0 rfl rfl (by decide) rfl (List.mem_of_getElem? (i := 1) rfl) (v := .ref (aS 1)) rfl dX4_turnQuarter_16 ?_
        refine z_iloadn F (pc := 19) dX4_turnQuarter_19 rfl (lv_at hl 1 rfl) ?_
        refine z_aloadn F (pc := 20) dX4_turnQuarter_20 rfl (lv_at hl 2 rfl) ?_
        refine z_get F (pc := 21) (C := RX4) (T := TX4) (N := 3) (ci := 4) inX4 hK hW 0 0 rfl rfl (by decide) rfl (List.mem_of_getElem? (i := 1) rfl) (v := .ref (aS 1)) rfl dX4_turnQuarter_21 ?_
        refine z_iloadn F (pc := 24) dX4_turnQuarter_24 rfl (lv_at hl 1 rfl) ?_
        refine z_iconst F (pc := 25) (1) dX4_turnQuarter_25 ?_
        refine z_iadd F (pc := 26) dX4_turnQuarter_26 ?_
        refine z_iald F (pc := 27) hK hW 1 rfl (by decide) dX4_turnQuarter_27 (by omega) ?_
        refine z_ineg F (pc := 28) dX4_turnQuarter_28 ?_
        refine z_iast F (pc := 29) hK hW (ws' := wS cI cZ aS (zU h1 n (-(h1 (n + 1)))) ar le) 1 rfl (by decide) dX4_turnQuarter_29 (by omega) rfl (fun H locs hW => ?_)
        refine z_aloadn F (pc := 30) dX4_turnQuarter_30 rfl (lv_at hl 2 rfl) ?_
        refine z_get F (pc := 31) (C := RX4) (T := TX4) (N := 3) (ci := 4) inX4 hK hW 0 0 rfl rfl (by decide) rfl (List.mem_of_getElem? (i := 1) rfl) (v := .ref (aS 1)) rfl dX4_turnQuarter_31 ?_
        refine z_iloadn F (pc := 34) dX4_turnQuarter_34 rfl (lv_at hl 1 rfl) ?_
        refine z_iconst F (pc := 35) (1) dX4_turnQuarter_35 ?_
        refine z_iadd F (pc := 36) dX4_turnQuarter_36 ?_
        refine z_iloadn F (pc := 37) dX4_turnQuarter_37 rfl (lv_at hl 0 rfl) ?_
        refine z_iast F (pc := 38) hK hW (ws' := wS cI cZ aS (zU (zU h1 n (-(h1 (n + 1)))) (n + 1) (h1 n)) ar le) 1 rfl (by decide) dX4_turnQuarter_38 (by omega) rfl (fun H locs hW => ?_)
        refine z_iinc F (pc := 39) hl (lv' := [(1, .int (iI (n + 2))), (2, .int (iI (h1 n))), (0, .ref (aS 0))]) dX4_turnQuarter_39 (k := 1) rfl (by decide) rfl (fun ls hl => ?_)
        refine z_goto F (pc := 42) 2 dX4_turnQuarter_42 (by decide) ?_
        exact ih_2 (n + 2) (zU (zU h1 n (-(h1 (n + 1)))) (n + 1) (h1 n)) _ _ _ (by omega) (by omega) (by rw [g2]; exact tnT_s he (by omega) (by omega) (by omega)) (lv_sub hl [0, 2] rfl) hW
  exact cut_2 _ 0 he _ _ _ (Nat.lt_succ_self _) (by omega) (by exact (tnT_0 _).symm) (lv_sub hl [0, 1] rfl) hW
