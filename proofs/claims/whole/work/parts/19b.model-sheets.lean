set_option maxHeartbeats 4000000 in
set_option maxRecDepth 100000 in
theorem c_X8_isSheet (l : Launch) (D : va_G) (cI cZ : ClassId) (k q : Int) (sz0 : Nat) (r_k : (-2147483648 ≤ k ∧ k < 2147483648)) (r_q : (-2147483648 ≤ q ∧ q < 2147483648)) : Met l yX8_isSheet wsX8_isSheet ({ frames := 1, cells := 0, slots := 0, locals := 25 } : Room) (zPc D cI cZ [.int (iI k), .int (iI q)] ([]) sz0) (zQi D cI cZ ([]) sz0 (fun (r : Int) (u : Unit) => zB r ((0 ≤ k ∧ k ≤ 3) ∧ (0 ≤ q ∧ q ≤ 2))) (fun (u : Unit) => [])) 0 0 (va_A ([]) sz0) := by
  refine z_ofI (maxL := 2) (plainFor_of_name (by decide)) rfl (Nat.le_of_ble_eq_true rfl) (Or.inr ⟨rfl, fun z u h => zB_01 h⟩) ?_
  intro p e s m below meth c A ls Q F hK hW hA hl hret
  have hl : lv_has ls 2 [(0, .int (iI k)), (1, .int (iI q))] := hl
  refine z_iloadn F (pc := 0) dX8_isSheet_0 rfl (lv_at hl 0 rfl) ?_
  refine z_i2l F (pc := 1) dX8_isSheet_1 (by omega) ?_
  refine z_lconst F (pc := 2) (0) (by decide +kernel) dX8_isSheet_2 ?_
  refine z_ldc2 F (pc := 3) (3) (by decide +kernel) (List.mem_of_getElem? (i := 1) rfl) dX8_isSheet_3 ?_
  refine z_callSi F (pc := 6) hK hW hA (As := [.long (lI k), .long (lI 0), .long (lI 3)]) (rest := []) (c_X8_in l D cI cZ k 0 3 _ (by omega) (by omega) (by omega)) (va_cwS 3 F.2.2.2.2 gX8_isSheet_X8_in rfl rfl rfl (by decide +kernel) ⟨Nat.le_of_ble_eq_true rfl, Nat.le_of_ble_eq_true rfl⟩) rfl rfl hl.1 (Nat.le_of_ble_eq_true rfl) dX8_isSheet_6 ⟨Nat.le_of_ble_eq_true rfl, Nat.le_of_ble_eq_true rfl⟩ (fun z_6 H locs r_z_6 hp_6 hW => ?_)
  refine z_if_eq F (pc := 9) 28 dX8_isSheet_9 (by decide) (by omega) (fun c_9 => ?_) (fun c_9 => ?_)
  · skip
    have b_9 := zB_f hp_6 c_9
    refine z_iconst F (pc := 28) (0) dX8_isSheet_28 ?_
    exact hret _ _ _ _ 0 () dX8_isSheet_29 (by omega) (by first | exact zB_1 (by omega) | exact zB_0 (by omega)) hW
  · skip
    have b_9 := zB_t hp_6 c_9
    refine z_iloadn F (pc := 12) dX8_isSheet_12 rfl (lv_at hl 1 rfl) ?_
    refine z_i2l F (pc := 13) dX8_isSheet_13 (by omega) ?_
    refine z_lconst F (pc := 14) (0) (by decide +kernel) dX8_isSheet_14 ?_
    refine z_ldc2 F (pc := 15) (2) (by decide +kernel) (List.mem_of_getElem? (i := 2) rfl) dX8_isSheet_15 ?_
    refine z_callSi F (pc := 18) hK hW hA (As := [.long (lI q), .long (lI 0), .long (lI 2)]) (rest := []) (c_X8_in l D cI cZ q 0 2 _ (by omega) (by omega) (by omega)) (va_cwS 3 F.2.2.2.2 gX8_isSheet_X8_in rfl rfl rfl (by decide +kernel) ⟨Nat.le_of_ble_eq_true rfl, Nat.le_of_ble_eq_true rfl⟩) rfl rfl hl.1 (Nat.le_of_ble_eq_true rfl) dX8_isSheet_18 ⟨Nat.le_of_ble_eq_true rfl, Nat.le_of_ble_eq_true rfl⟩ (fun z_18 H locs r_z_18 hp_18 hW => ?_)
    refine z_if_eq F (pc := 21) 28 dX8_isSheet_21 (by decide) (by omega) (fun c_21 => ?_) (fun c_21 => ?_)
    · skip
      have b_21 := zB_f hp_18 c_21
      refine z_iconst F (pc := 28) (0) dX8_isSheet_28 ?_
      exact hret _ _ _ _ 0 () dX8_isSheet_29 (by omega) (by first | exact zB_1 (by omega) | exact zB_0 (by omega)) hW
    · skip
      have b_21 := zB_t hp_18 c_21
      refine z_iconst F (pc := 24) (1) dX8_isSheet_24 ?_
      refine z_goto F (pc := 25) 29 dX8_isSheet_25 (by decide) ?_
      exact hret _ _ _ _ 1 () dX8_isSheet_29 (by omega) (by first | exact zB_1 (by omega) | exact zB_0 (by omega)) hW

set_option maxHeartbeats 4000000 in
set_option maxRecDepth 100000 in
theorem c_X8_sheet (l : Launch) (D : va_G) (cI cZ : ClassId) (aR : Nat → Nat) (xs ys lf ev nm lb kd pt so nu al ak ap he le rw cx cr cl ll tl ts tc : Int → Int) (sz mn ac en mg ln cn wc wp : Int) (k q nn : Int) (sz0 : Nat) (r_k : (-2147483648 ≤ k ∧ k < 2147483648)) (r_q : (-2147483648 ≤ q ∧ q < 2147483648)) (r_nn : (-2147483648 ≤ nn ∧ nn < 2147483648)) : Met l yX8_sheet wsX8_sheet ({ frames := 2, cells := 0, slots := 0, locals := 46 } : Room) (zPc D cI cZ [.ref (aR 0), .int (iI k), .int (iI q), .int (iI nn)] (wR cI cZ aR xs ys lf ev nm lb kd pt so nu al ak ap he le rw cx cr cl ll tl ts tc sz mn ac en mg ln cn wc wp) sz0) (zQi D cI cZ (wR cI cZ aR xs ys lf ev nm lb kd pt so nu al ak ap he le rw cx cr cl ll tl ts tc sz mn ac en mg ln cn wc wp) sz0 (fun (r : Int) (u : (Int → Int) × (Int → Int) × (Int → Int)) => (shNo k q nn r ∧ u.1 = tl ∧ u.2.1 = ts ∧ u.2.2 = tc) ∨ (shYes k q nn r ∧ u.1 = zU tl k q ∧ u.2.1 = zU ts k nn ∧ fill0 tc (60 * k) 60 u.2.2)) (fun (u : (Int → Int) × (Int → Int) × (Int → Int)) => wR cI cZ aR xs ys lf ev nm lb kd pt so nu al ak ap he le rw cx cr cl ll u.1 u.2.1 u.2.2 sz mn ac en mg ln cn wc wp)) 0 0 (va_A (wR cI cZ aR xs ys lf ev nm lb kd pt so nu al ak ap he le rw cx cr cl ll tl ts tc sz mn ac en mg ln cn wc wp) sz0) := by
  refine z_ofI (maxL := 5) (plainFor_of_name (by decide)) rfl (Nat.le_of_ble_eq_true rfl) (Or.inl rfl) ?_
  intro p e s m below meth c A ls Q F hK hW hA hl hret
  have hl : lv_has ls 5 [(0, .ref (aR 0)), (1, .int (iI k)), (2, .int (iI q)), (3, .int (iI nn))] := hl
  have inX8 : ∀ w ∈ u_ws RX8 TX8 32, w ∈ wsX8_sheet := fun _ h => List.mem_cons_of_mem _ (List.mem_append_right _ h)
  refine z_iloadn F (pc := 0) dX8_sheet_0 rfl (lv_at hl 1 rfl) ?_
  refine z_iloadn F (pc := 1) dX8_sheet_1 rfl (lv_at hl 2 rfl) ?_
  refine z_callSi F (pc := 2) hK hW hA (As := [.int (iI k), .int (iI q)]) (rest := []) (c_X8_isSheet l D cI cZ k q _ (by omega) (by omega)) (va_cwS 2 F.2.2.2.2 gX8_sheet_X8_isSheet rfl rfl rfl (by decide +kernel) ⟨Nat.le_of_ble_eq_true rfl, Nat.le_of_ble_eq_true rfl⟩) rfl rfl hl.1 (Nat.le_of_ble_eq_true rfl) dX8_sheet_2 ⟨Nat.le_of_ble_eq_true rfl, Nat.le_of_ble_eq_true rfl⟩ (fun z_2 H locs r_z_2 hp_2 hW => ?_)
  refine z_if_eq F (pc := 5) 14 dX8_sheet_5 (by decide) (by omega) (fun c_5 => ?_) (fun c_5 => ?_)
  · skip
    have b_5 := zB_f hp_2 c_5
    refine z_iconst F (pc := 14) (-1) dX8_sheet_14 ?_
    exact hret _ _ _ _ (-1) (tl, ts, tc) dX8_sheet_15 (by omega) (by (try dsimp only) <;> (exact Or.inl ⟨by unfold shNo shOk; omega, rfl, rfl, rfl⟩)) hW
  · skip
    have b_5 := zB_t hp_2 c_5
    refine z_iloadn F (pc := 8) dX8_sheet_8 rfl (lv_at hl 3 rfl) ?_
    refine z_bipush F (pc := 9) (60) (by decide +kernel) dX8_sheet_9 ?_
    refine z_icmp_le F (pc := 11) 16 dX8_sheet_11 (by decide) (by omega) (fun c_11 => ?_) (fun c_11 => ?_)
    · skip
      refine z_iloadn F (pc := 16) dX8_sheet_16 rfl (lv_at hl 3 rfl) ?_
      refine z_if_ge F (pc := 17) 23 dX8_sheet_17 (by decide) (by omega) (fun c_17 => ?_) (fun c_17 => ?_)
      · skip
        refine z_aloadn F (pc := 23) dX8_sheet_23 rfl (lv_at hl 0 rfl) ?_
        refine z_get F (pc := 24) (C := RX8) (T := TX8) (N := 32) (ci := 8) inX8 hK hW 0 29 rfl rfl (by decide) rfl (List.mem_of_getElem? (i := 1) rfl) (v := .ref (aR 21)) rfl dX8_sheet_24 ?_
        refine z_iloadn F (pc := 27) dX8_sheet_27 rfl (lv_at hl 1 rfl) ?_
        refine z_iloadn F (pc := 28) dX8_sheet_28 rfl (lv_at hl 2 rfl) ?_
        refine z_iast F (pc := 29) hK hW (ws' := wR cI cZ aR xs ys lf ev nm lb kd pt so nu al ak ap he le rw cx cr cl ll (zU tl k q) ts tc sz mn ac en mg ln cn wc wp) 21 rfl (by decide) dX8_sheet_29 (by omega) rfl (fun H locs hW => ?_)
        refine z_aloadn F (pc := 30) dX8_sheet_30 rfl (lv_at hl 0 rfl) ?_
        refine z_get F (pc := 31) (C := RX8) (T := TX8) (N := 32) (ci := 8) inX8 hK hW 0 30 rfl rfl (by decide) rfl (List.mem_of_getElem? (i := 2) rfl) (v := .ref (aR 22)) rfl dX8_sheet_31 ?_
        refine z_iloadn F (pc := 34) dX8_sheet_34 rfl (lv_at hl 1 rfl) ?_
        refine z_iloadn F (pc := 35) dX8_sheet_35 rfl (lv_at hl 3 rfl) ?_
        refine z_iast F (pc := 36) hK hW (ws' := wR cI cZ aR xs ys lf ev nm lb kd pt so nu al ak ap he le rw cx cr cl ll (zU tl k q) (zU ts k nn) tc sz mn ac en mg ln cn wc wp) 22 rfl (by decide) dX8_sheet_36 (by omega) rfl (fun H locs hW => ?_)
        refine z_iconst F (pc := 37) (0) dX8_sheet_37 ?_
        refine z_istore F (pc := 38) hl (lv' := [(4, .int (iI 0)), (0, .ref (aR 0)), (1, .int (iI k)), (2, .int (iI q)), (3, .int (iI nn))]) dX8_sheet_38 (by decide) rfl (fun ls hl => ?_)
        have cut_40 : ∀ (fuel : Nat) (i : Int) (t1 : Int → Int) (H : Heap) (locs : List Loc) (ls : Array Slot), (60 - i).toNat < fuel → (0 ≤ i ∧ i ≤ 60) → (fill0 tc (60 * k) i t1) → lv_has ls 5 [(4, .int (iI i)), (0, .ref (aR 0)), (1, .int (iI k)), (2, .int (iI q)), (3, .int (iI nn))] → zW D A s.heap H locs (wR cI cZ aR xs ys lf ev nm lb kd pt so nu al ak ap he le rw cx cr cl ll (zU tl k q) (zU ts k nn) t1 sz mn ac en mg ln cn wc wp) → W p l e ({ frames := 2, cells := 0, slots := 0, locals := 46 } : Room) s m ([.ref (aR 0), .int (iI k), .int (iI q), .int (iI nn)] : List Value).toArray below meth c H locs 0 0 Q (F0 m 40 ls []) := by
          intro fuel
          induction fuel with
          | zero => intro i t1 H locs ls hm; exact absurd hm (Nat.not_lt_zero _)
          | succ fuel ih_40 =>
            intro i t1 H locs ls hm_40 g1 g2 hl hW
            refine z_iload F (pc := 40) dX8_sheet_40 (lv_at hl 0 rfl) ?_
            refine z_bipush F (pc := 42) (60) (by decide +kernel) dX8_sheet_42 ?_
            refine z_icmp_ge F (pc := 44) 66 dX8_sheet_44 (by decide) (by omega) (fun c_44 => ?_) (fun c_44 => ?_)
            · skip
              refine z_iconst F (pc := 66) (1) dX8_sheet_66 ?_
              exact hret _ _ _ _ 1 ((zU tl k q), (zU ts k nn), t1) dX8_sheet_67 (by omega) (by (try dsimp only) <;> (exact Or.inr ⟨by unfold shYes shOk; omega, rfl, rfl, by rw [show i = 60 by omega] at g2; exact g2⟩)) hW
            · skip
              refine z_aloadn F (pc := 47) dX8_sheet_47 rfl (lv_at hl 1 rfl) ?_
              refine z_get F (pc := 48) (C := RX8) (T := TX8) (N := 32) (ci := 8) inX8 hK hW 0 31 rfl rfl (by decide) rfl (List.mem_of_getElem? (i := 3) rfl) (v := .ref (aR 23)) rfl dX8_sheet_48 ?_
              refine z_bipush F (pc := 51) (60) (by decide +kernel) dX8_sheet_51 ?_
              refine z_iloadn F (pc := 53) dX8_sheet_53 rfl (lv_at hl 2 rfl) ?_
              refine z_imul F (pc := 54) dX8_sheet_54 ?_
              refine z_iload F (pc := 55) dX8_sheet_55 (lv_at hl 0 rfl) ?_
              refine z_iadd F (pc := 57) dX8_sheet_57 ?_
              refine z_iconst F (pc := 58) (0) dX8_sheet_58 ?_
              refine z_iast F (pc := 59) hK hW (ws' := wR cI cZ aR xs ys lf ev nm lb kd pt so nu al ak ap he le rw cx cr cl ll (zU tl k q) (zU ts k nn) (zU t1 ((60 * k) + i) 0) sz mn ac en mg ln cn wc wp) 23 rfl (by decide) dX8_sheet_59 (by omega) rfl (fun H locs hW => ?_)
              refine z_iinc F (pc := 60) hl (lv' := [(4, .int (iI (i + 1))), (0, .ref (aR 0)), (1, .int (iI k)), (2, .int (iI q)), (3, .int (iI nn))]) dX8_sheet_60 (k := 0) rfl (by decide) rfl (fun ls hl => ?_)
              refine z_goto F (pc := 63) 40 dX8_sheet_63 (by decide) ?_
              exact ih_40 (i + 1) (zU t1 ((60 * k) + i) 0) _ _ _ (by omega) (by omega) (by exact fill0_s g1.1 g2) (lv_sub hl [0, 1, 2, 3, 4] rfl) hW
        exact cut_40 _ 0 tc _ _ _ (Nat.lt_succ_self _) (by omega) (by exact fill0_0 _ _) (lv_sub hl [0, 1, 2, 3, 4] rfl) hW
      · skip
        refine z_bipush F (pc := 20) (-14) (by decide +kernel) dX8_sheet_20 ?_
        exact hret _ _ _ _ (-14) (tl, ts, tc) dX8_sheet_22 (by omega) (by (try dsimp only) <;> (exact Or.inl ⟨by unfold shNo shOk; omega, rfl, rfl, rfl⟩)) hW
    · skip
      refine z_iconst F (pc := 14) (-1) dX8_sheet_14 ?_
      exact hret _ _ _ _ (-1) (tl, ts, tc) dX8_sheet_15 (by omega) (by (try dsimp only) <;> (exact Or.inl ⟨by unfold shNo shOk; omega, rfl, rfl, rfl⟩)) hW

set_option maxHeartbeats 4000000 in
set_option maxRecDepth 100000 in
theorem c_X8_lay (l : Launch) (D : va_G) (cI cZ : ClassId) (aR : Nat → Nat) (xs ys lf ev nm lb kd pt so nu al ak ap he le rw cx cr cl ll tl ts tc : Int → Int) (sz mn ac en mg ln cn wc wp : Int) (k i v : Int) (sz0 : Nat) (r_k : (-2147483648 ≤ k ∧ k < 2147483648)) (r_i : (-2147483648 ≤ i ∧ i < 2147483648)) (r_v : (-2147483648 ≤ v ∧ v < 2147483648)) (ht : TokM tl ts) : Met l yX8_lay wsX8_lay ({ frames := 2, cells := 0, slots := 0, locals := 46 } : Room) (zPc D cI cZ [.ref (aR 0), .int (iI k), .int (iI i), .int (iI v)] (wR cI cZ aR xs ys lf ev nm lb kd pt so nu al ak ap he le rw cx cr cl ll tl ts tc sz mn ac en mg ln cn wc wp) sz0) (zQi D cI cZ (wR cI cZ aR xs ys lf ev nm lb kd pt so nu al ak ap he le rw cx cr cl ll tl ts tc sz mn ac en mg ln cn wc wp) sz0 (fun (r : Int) (u : (Int → Int)) => (layNo (¬ tl k = -4) (ts k) k i r ∧ u = tc) ∨ (layYes (¬ tl k = -4) (ts k) k i r ∧ u = zU tc (60 * k + i) (lowF (tl k) v))) (fun (u : (Int → Int)) => wR cI cZ aR xs ys lf ev nm lb kd pt so nu al ak ap he le rw cx cr cl ll tl ts u sz mn ac en mg ln cn wc wp)) 0 0 (va_A (wR cI cZ aR xs ys lf ev nm lb kd pt so nu al ak ap he le rw cx cr cl ll tl ts tc sz mn ac en mg ln cn wc wp) sz0) := by
  refine z_ofI (maxL := 4) (plainFor_of_name (by decide)) rfl (Nat.le_of_ble_eq_true rfl) (Or.inl rfl) ?_
  intro p e s m below meth c A ls Q F hK hW hA hl hret
  have hl : lv_has ls 4 [(0, .ref (aR 0)), (1, .int (iI k)), (2, .int (iI i)), (3, .int (iI v))] := hl
  have inX8 : ∀ w ∈ u_ws RX8 TX8 32, w ∈ wsX8_lay := fun _ h => List.mem_cons_of_mem _ (List.mem_append_right _ h)
  refine z_iloadn F (pc := 0) dX8_lay_0 rfl (lv_at hl 1 rfl) ?_
  refine z_iconst F (pc := 1) (0) dX8_lay_1 ?_
  refine z_callSi F (pc := 2) hK hW hA (As := [.int (iI k), .int (iI 0)]) (rest := []) (c_X8_isSheet l D cI cZ k 0 _ (by omega) (by omega)) (va_cwS 2 F.2.2.2.2 gX8_lay_X8_isSheet rfl rfl rfl (by decide +kernel) ⟨Nat.le_of_ble_eq_true rfl, Nat.le_of_ble_eq_true rfl⟩) rfl rfl hl.1 (Nat.le_of_ble_eq_true rfl) dX8_lay_2 ⟨Nat.le_of_ble_eq_true rfl, Nat.le_of_ble_eq_true rfl⟩ (fun z_2 H locs r_z_2 hp_2 hW => ?_)
  refine z_if_ne F (pc := 5) 10 dX8_lay_5 (by decide) (by omega) (fun c_5 => ?_) (fun c_5 => ?_)
  · skip
    have b_5 := zB_t hp_2 c_5
    have h9k := ht k (by omega) (by omega)
    refine z_aloadn F (pc := 10) dX8_lay_10 rfl (lv_at hl 0 rfl) ?_
    refine z_get F (pc := 11) (C := RX8) (T := TX8) (N := 32) (ci := 8) inX8 hK hW 0 29 rfl rfl (by decide) rfl (List.mem_of_getElem? (i := 1) rfl) (v := .ref (aR 21)) rfl dX8_lay_11 ?_
    refine z_iloadn F (pc := 14) dX8_lay_14 rfl (lv_at hl 1 rfl) ?_
    refine z_iald F (pc := 15) hK hW 21 rfl (by decide) dX8_lay_15 (by omega) ?_
    refine z_bipush F (pc := 16) (-4) (by decide +kernel) dX8_lay_16 ?_
    refine z_icmp_ne F (pc := 18) 24 dX8_lay_18 (by decide) (by omega) (fun c_18 => ?_) (fun c_18 => ?_)
    · skip
      refine z_iloadn F (pc := 24) dX8_lay_24 rfl (lv_at hl 2 rfl) ?_
      refine z_i2l F (pc := 25) dX8_lay_25 (by omega) ?_
      refine z_lconst F (pc := 26) (0) (by decide +kernel) dX8_lay_26 ?_
      refine z_aloadn F (pc := 27) dX8_lay_27 rfl (lv_at hl 0 rfl) ?_
      refine z_get F (pc := 28) (C := RX8) (T := TX8) (N := 32) (ci := 8) inX8 hK hW 0 30 rfl rfl (by decide) rfl (List.mem_of_getElem? (i := 2) rfl) (v := .ref (aR 22)) rfl dX8_lay_28 ?_
      refine z_iloadn F (pc := 31) dX8_lay_31 rfl (lv_at hl 1 rfl) ?_
      refine z_iald F (pc := 32) hK hW 22 rfl (by decide) dX8_lay_32 (by omega) ?_
      refine z_iconst F (pc := 33) (1) dX8_lay_33 ?_
      refine z_isub F (pc := 34) dX8_lay_34 ?_
      refine z_i2l F (pc := 35) dX8_lay_35 (by omega) ?_
      refine z_callSi F (pc := 36) hK hW hA (As := [.long (lI i), .long (lI 0), .long (lI ((ts k) - 1))]) (rest := []) (c_X8_in l D cI cZ i 0 ((ts k) - 1) _ (by omega) (by omega) (by omega)) (va_cwS 3 F.2.2.2.2 gX8_lay_X8_in rfl rfl rfl (by decide +kernel) ⟨Nat.le_of_ble_eq_true rfl, Nat.le_of_ble_eq_true rfl⟩) rfl rfl hl.1 (Nat.le_of_ble_eq_true rfl) dX8_lay_36 ⟨Nat.le_of_ble_eq_true rfl, Nat.le_of_ble_eq_true rfl⟩ (fun z_36 H locs r_z_36 hp_36 hW => ?_)
      refine z_if_ne F (pc := 39) 45 dX8_lay_39 (by decide) (by omega) (fun c_39 => ?_) (fun c_39 => ?_)
      · skip
        have b_39 := zB_t hp_36 c_39
        refine z_aloadn F (pc := 45) dX8_lay_45 rfl (lv_at hl 0 rfl) ?_
        refine z_get F (pc := 46) (C := RX8) (T := TX8) (N := 32) (ci := 8) inX8 hK hW 0 31 rfl rfl (by decide) rfl (List.mem_of_getElem? (i := 3) rfl) (v := .ref (aR 23)) rfl dX8_lay_46 ?_
        refine z_bipush F (pc := 49) (60) (by decide +kernel) dX8_lay_49 ?_
        refine z_iloadn F (pc := 51) dX8_lay_51 rfl (lv_at hl 1 rfl) ?_
        refine z_imul F (pc := 52) dX8_lay_52 ?_
        refine z_iloadn F (pc := 53) dX8_lay_53 rfl (lv_at hl 2 rfl) ?_
        refine z_iadd F (pc := 54) dX8_lay_54 ?_
        refine z_aloadn F (pc := 55) dX8_lay_55 rfl (lv_at hl 0 rfl) ?_
        refine z_get F (pc := 56) (C := RX8) (T := TX8) (N := 32) (ci := 8) inX8 hK hW 0 29 rfl rfl (by decide) rfl (List.mem_of_getElem? (i := 1) rfl) (v := .ref (aR 21)) rfl dX8_lay_56 ?_
        refine z_iloadn F (pc := 59) dX8_lay_59 rfl (lv_at hl 1 rfl) ?_
        refine z_iald F (pc := 60) hK hW 21 rfl (by decide) dX8_lay_60 (by omega) ?_
        refine z_if_ne F (pc := 61) 69 dX8_lay_61 (by decide) (by omega) (fun c_61 => ?_) (fun c_61 => ?_)
        · skip
          refine z_aloadn F (pc := 69) dX8_lay_69 rfl (lv_at hl 0 rfl) ?_
          refine z_get F (pc := 70) (C := RX8) (T := TX8) (N := 32) (ci := 8) inX8 hK hW 0 29 rfl rfl (by decide) rfl (List.mem_of_getElem? (i := 1) rfl) (v := .ref (aR 21)) rfl dX8_lay_70 ?_
          refine z_iloadn F (pc := 73) dX8_lay_73 rfl (lv_at hl 1 rfl) ?_
          refine z_iald F (pc := 74) hK hW 21 rfl (by decide) dX8_lay_74 (by omega) ?_
          refine z_iconst F (pc := 75) (1) dX8_lay_75 ?_
          refine z_icmp_ne F (pc := 76) 84 dX8_lay_76 (by decide) (by omega) (fun c_76 => ?_) (fun c_76 => ?_)
          · skip
            refine z_iloadn F (pc := 84) dX8_lay_84 rfl (lv_at hl 3 rfl) ?_
            refine z_iast F (pc := 85) hK hW (ws' := wR cI cZ aR xs ys lf ev nm lb kd pt so nu al ak ap he le rw cx cr cl ll tl ts (zU tc ((60 * k) + i) v) sz mn ac en mg ln cn wc wp) 23 rfl (by decide) dX8_lay_85 (by omega) rfl (fun H locs hW => ?_)
            refine z_iconst F (pc := 86) (1) dX8_lay_86 ?_
            exact hret _ _ _ _ 1 (zU tc ((60 * k) + i) v) dX8_lay_87 (by omega) (by first | (exact Or.inr ⟨by unfold layYes; omega, by unfold lowF; rw [if_pos (by omega)]⟩) | (exact Or.inr ⟨by unfold layYes; omega, by unfold lowF; rw [if_neg (by omega), if_pos (by omega)]⟩) | (exact Or.inr ⟨by unfold layYes; omega, by unfold lowF; rw [if_neg (by omega), if_neg (by omega)]⟩)) hW
          · skip
            refine z_iloadn F (pc := 79) dX8_lay_79 rfl (lv_at hl 3 rfl) ?_
            refine lv_i2s F.1 F.2.1 (pc := 80) dX8_lay_80 (i2s_iI (by omega)) ?_
            refine z_goto F (pc := 81) 85 dX8_lay_81 (by decide) ?_
            refine z_iast F (pc := 85) hK hW (ws' := wR cI cZ aR xs ys lf ev nm lb kd pt so nu al ak ap he le rw cx cr cl ll tl ts (zU tc ((60 * k) + i) (Int.bmod v 65536)) sz mn ac en mg ln cn wc wp) 23 rfl (by decide) dX8_lay_85 (by omega) rfl (fun H locs hW => ?_)
            refine z_iconst F (pc := 86) (1) dX8_lay_86 ?_
            exact hret _ _ _ _ 1 (zU tc ((60 * k) + i) (Int.bmod v 65536)) dX8_lay_87 (by omega) (by first | (exact Or.inr ⟨by unfold layYes; omega, by unfold lowF; rw [if_pos (by omega)]⟩) | (exact Or.inr ⟨by unfold layYes; omega, by unfold lowF; rw [if_neg (by omega), if_pos (by omega)]⟩) | (exact Or.inr ⟨by unfold layYes; omega, by unfold lowF; rw [if_neg (by omega), if_neg (by omega)]⟩)) hW
        · skip
          refine z_iloadn F (pc := 64) dX8_lay_64 rfl (lv_at hl 3 rfl) ?_
          refine lv_i2b F.1 F.2.1 (pc := 65) dX8_lay_65 (i2b_iI (by omega)) ?_
          refine z_goto F (pc := 66) 85 dX8_lay_66 (by decide) ?_
          refine z_iast F (pc := 85) hK hW (ws' := wR cI cZ aR xs ys lf ev nm lb kd pt so nu al ak ap he le rw cx cr cl ll tl ts (zU tc ((60 * k) + i) (Int.bmod v 256)) sz mn ac en mg ln cn wc wp) 23 rfl (by decide) dX8_lay_85 (by omega) rfl (fun H locs hW => ?_)
          refine z_iconst F (pc := 86) (1) dX8_lay_86 ?_
          exact hret _ _ _ _ 1 (zU tc ((60 * k) + i) (Int.bmod v 256)) dX8_lay_87 (by omega) (by first | (exact Or.inr ⟨by unfold layYes; omega, by unfold lowF; rw [if_pos (by omega)]⟩) | (exact Or.inr ⟨by unfold layYes; omega, by unfold lowF; rw [if_neg (by omega), if_pos (by omega)]⟩) | (exact Or.inr ⟨by unfold layYes; omega, by unfold lowF; rw [if_neg (by omega), if_neg (by omega)]⟩)) hW
      · skip
        have b_39 := zB_f hp_36 c_39
        refine z_bipush F (pc := 42) (-12) (by decide +kernel) dX8_lay_42 ?_
        exact hret _ _ _ _ (-12) tc dX8_lay_44 (by omega) (by exact Or.inl ⟨by unfold layNo; omega, rfl⟩) hW
    · skip
      refine z_bipush F (pc := 21) (-11) (by decide +kernel) dX8_lay_21 ?_
      exact hret _ _ _ _ (-11) tc dX8_lay_23 (by omega) (by exact Or.inl ⟨by unfold layNo; omega, rfl⟩) hW
  · skip
    have b_5 := zB_f hp_2 c_5
    refine z_iconst F (pc := 8) (-1) dX8_lay_8 ?_
    exact hret _ _ _ _ (-1) tc dX8_lay_9 (by omega) (by exact Or.inl ⟨by unfold layNo; omega, rfl⟩) hW

set_option maxHeartbeats 4000000 in
set_option maxRecDepth 100000 in
theorem c_X8_scan (l : Launch) (D : va_G) (cI cZ : ClassId) (aR : Nat → Nat) (xs ys lf ev nm lb kd pt so nu al ak ap he le rw cx cr cl ll tl ts tc : Int → Int) (sz mn ac en mg ln cn wc wp : Int) (k q f nn : Int) (sz0 : Nat) (r_k : (-2147483648 ≤ k ∧ k < 2147483648)) (r_q : (-2147483648 ≤ q ∧ q < 2147483648)) (r_f : (-2147483648 ≤ f ∧ f < 2147483648)) (r_nn : (-2147483648 ≤ nn ∧ nn < 2147483648)) (ht : TokM tl ts) (hg : RgT tc) (hd : 0 ≤ sz ∧ sz ≤ 30) : Met l yX8_scan wsX8_scan ({ frames := 2, cells := 0, slots := 0, locals := 48 } : Room) (zPc D cI cZ [.ref (aR 0), .int (iI k), .int (iI q), .int (iI f), .int (iI nn)] (wR cI cZ aR xs ys lf ev nm lb kd pt so nu al ak ap he le rw cx cr cl ll tl ts tc sz mn ac en mg ln cn wc wp) sz0) (zQi D cI cZ (wR cI cZ aR xs ys lf ev nm lb kd pt so nu al ak ap he le rw cx cr cl ll tl ts tc sz mn ac en mg ln cn wc wp) sz0 (fun (r : Int) (u : (Int → Int) × (Int → Int) × (Int → Int) × (Int)) => scanR (¬ tl k = -4) (tl k) xs ys lf (gC tc (60 * k) (ts k)) sz (ts k) k q f nn u.1 u.2.1 u.2.2.1 u.2.2.2 r) (fun (u : (Int → Int) × (Int → Int) × (Int → Int) × (Int)) => wR cI cZ aR u.1 u.2.1 u.2.2.1 ev nm lb kd pt so nu al ak ap he le rw cx cr cl ll tl ts tc u.2.2.2 mn ac en mg ln cn wc wp)) 0 0 (va_A (wR cI cZ aR xs ys lf ev nm lb kd pt so nu al ak ap he le rw cx cr cl ll tl ts tc sz mn ac en mg ln cn wc wp) sz0) := by
  refine z_ofI (maxL := 12) (plainFor_of_name (by decide)) rfl (Nat.le_of_ble_eq_true rfl) (Or.inl rfl) ?_
  intro p e s m below meth c A ls Q F hK hW hA hl hret
  have hl : lv_has ls 12 [(0, .ref (aR 0)), (1, .int (iI k)), (2, .int (iI q)), (3, .int (iI f)), (4, .int (iI nn))] := hl
  have inX8 : ∀ w ∈ u_ws RX8 TX8 32, w ∈ wsX8_scan := fun _ h => List.mem_cons_of_mem _ (List.mem_append_right _ h)
  refine z_iloadn F (pc := 0) dX8_scan_0 rfl (lv_at hl 1 rfl) ?_
  refine z_iloadn F (pc := 1) dX8_scan_1 rfl (lv_at hl 2 rfl) ?_
  refine z_callSi F (pc := 2) hK hW hA (As := [.int (iI k), .int (iI q)]) (rest := []) (c_X8_isSheet l D cI cZ k q _ (by omega) (by omega)) (va_cwS 2 F.2.2.2.2 gX8_scan_X8_isSheet rfl rfl rfl (by decide +kernel) ⟨Nat.le_of_ble_eq_true rfl, Nat.le_of_ble_eq_true rfl⟩) rfl rfl hl.1 (Nat.le_of_ble_eq_true rfl) dX8_scan_2 ⟨Nat.le_of_ble_eq_true rfl, Nat.le_of_ble_eq_true rfl⟩ (fun z_2 H locs r_z_2 hp_2 hW => ?_)
  refine z_if_eq F (pc := 5) 21 dX8_scan_5 (by decide) (by omega) (fun c_5 => ?_) (fun c_5 => ?_)
  · skip
    have b_5 := zB_f hp_2 c_5
    refine z_iconst F (pc := 21) (-1) dX8_scan_21 ?_
    exact hret _ _ _ _ (-1) (xs, ys, lf, sz) dX8_scan_22 (by omega) (by (try dsimp only) <;> (exact Or.inl ⟨by unfold scanNo scOk; omega, rfl, rfl, rfl, rfl⟩)) hW
  · skip
    have b_5 := zB_t hp_2 c_5
    refine z_iload F (pc := 8) dX8_scan_8 (lv_at hl 4 rfl) ?_
    refine z_i2l F (pc := 10) dX8_scan_10 (by omega) ?_
    refine z_lconst F (pc := 11) (0) (by decide +kernel) dX8_scan_11 ?_
    refine z_ldc2 F (pc := 12) (20) (by decide +kernel) (List.mem_of_getElem? (i := 1) rfl) dX8_scan_12 ?_
    refine z_callSi F (pc := 15) hK hW hA (As := [.long (lI nn), .long (lI 0), .long (lI 20)]) (rest := []) (c_X8_in l D cI cZ nn 0 20 _ (by omega) (by omega) (by omega)) (va_cwS 3 F.2.2.2.2 gX8_scan_X8_in rfl rfl rfl (by decide +kernel) ⟨Nat.le_of_ble_eq_true rfl, Nat.le_of_ble_eq_true rfl⟩) rfl rfl hl.1 (Nat.le_of_ble_eq_true rfl) dX8_scan_15 ⟨Nat.le_of_ble_eq_true rfl, Nat.le_of_ble_eq_true rfl⟩ (fun z_15 H locs r_z_15 hp_15 hW => ?_)
    refine z_if_ne F (pc := 18) 23 dX8_scan_18 (by decide) (by omega) (fun c_18 => ?_) (fun c_18 => ?_)
    · skip
      have b_18 := zB_t hp_15 c_18
      have h9k := ht k (by omega) (by omega)
      refine z_aloadn F (pc := 23) dX8_scan_23 rfl (lv_at hl 0 rfl) ?_
      refine z_get F (pc := 24) (C := RX8) (T := TX8) (N := 32) (ci := 8) inX8 hK hW 0 29 rfl rfl (by decide) rfl (List.mem_of_getElem? (i := 2) rfl) (v := .ref (aR 21)) rfl dX8_scan_24 ?_
      refine z_iloadn F (pc := 27) dX8_scan_27 rfl (lv_at hl 1 rfl) ?_
      refine z_iald F (pc := 28) hK hW 21 rfl (by decide) dX8_scan_28 (by omega) ?_
      refine z_iloadn F (pc := 29) dX8_scan_29 rfl (lv_at hl 2 rfl) ?_
      refine z_icmp_eq F (pc := 30) 52 dX8_scan_30 (by decide) (by omega) (fun c_30 => ?_) (fun c_30 => ?_)
      · skip
        refine z_aloadn F (pc := 52) dX8_scan_52 rfl (lv_at hl 0 rfl) ?_
        refine z_get F (pc := 53) (C := RX8) (T := TX8) (N := 32) (ci := 8) inX8 hK hW 0 0 rfl rfl (by decide) rfl (List.mem_of_getElem? (i := 3) rfl) (v := .int (iI sz)) rfl dX8_scan_53 ?_
        refine z_istore F (pc := 56) hl (lv' := [(5, .int (iI sz)), (0, .ref (aR 0)), (1, .int (iI k)), (2, .int (iI q)), (3, .int (iI f)), (4, .int (iI nn))]) dX8_scan_56 (by decide) rfl (fun ls hl => ?_)
        refine z_iconst F (pc := 58) (0) dX8_scan_58 ?_
        refine z_istore F (pc := 59) hl (lv' := [(6, .int (iI 0)), (5, .int (iI sz)), (0, .ref (aR 0)), (1, .int (iI k)), (2, .int (iI q)), (3, .int (iI f)), (4, .int (iI nn))]) dX8_scan_59 (by decide) rfl (fun ls hl => ?_)
        refine z_iconst F (pc := 61) (0) dX8_scan_61 ?_
        refine z_istore F (pc := 62) hl (lv' := [(7, .int (iI 0)), (6, .int (iI 0)), (5, .int (iI sz)), (0, .ref (aR 0)), (1, .int (iI k)), (2, .int (iI q)), (3, .int (iI f)), (4, .int (iI nn))]) dX8_scan_62 (by decide) rfl (fun ls hl => ?_)
        have cut_64 : ∀ (fuel : Nat) (n : Nat) (er : Int) (i : Int) (x1 : Int → Int) (y1 : Int → Int) (l1 : Int → Int) (z1 : Int) (H : Heap) (locs : List Loc) (ls : Array Slot), (nn - i).toNat < fuel → (i = (n : Int) ∧ i ≤ nn ∧ (0 ≤ z1 ∧ z1 ≤ 30) ∧ (-23 ≤ er ∧ er ≤ 0)) → ((er = 0 ∧ scI xs ys lf (gC tc (60 * k) (ts k)) sz (ts k) f n x1 y1 l1 z1) ∨ (er < 0 ∧ scF xs ys lf (gC tc (60 * k) (ts k)) sz (ts k) f nn x1 y1 l1 er)) → lv_has ls 12 [(7, .int (iI i)), (6, .int (iI er)), (5, .int (iI sz)), (0, .ref (aR 0)), (1, .int (iI k)), (2, .int (iI q)), (3, .int (iI f)), (4, .int (iI nn))] → zW D A s.heap H locs (wR cI cZ aR x1 y1 l1 ev nm lb kd pt so nu al ak ap he le rw cx cr cl ll tl ts tc z1 mn ac en mg ln cn wc wp) → W p l e ({ frames := 2, cells := 0, slots := 0, locals := 48 } : Room) s m ([.ref (aR 0), .int (iI k), .int (iI q), .int (iI f), .int (iI nn)] : List Value).toArray below meth c H locs 0 0 Q (F0 m 64 ls []) := by
          intro fuel
          induction fuel with
          | zero => intro n er i x1 y1 l1 z1 H locs ls hm; exact absurd hm (Nat.not_lt_zero _)
          | succ fuel ih_64 =>
            intro n er i x1 y1 l1 z1 H locs ls hm_64 g0 g1 hl hW
            refine z_iload F (pc := 64) dX8_scan_64 (lv_at hl 0 rfl) ?_
            refine z_iload F (pc := 66) dX8_scan_66 (lv_at hl 7 rfl) ?_
            refine z_icmp_ge F (pc := 68) 188 dX8_scan_68 (by decide) (by omega) (fun c_68 => ?_) (fun c_68 => ?_)
            · skip
              refine z_aloadn F (pc := 188) dX8_scan_188 rfl (lv_at hl 3 rfl) ?_
              refine z_iload F (pc := 189) dX8_scan_189 (lv_at hl 1 rfl) ?_
              refine z_if_ge F (pc := 191) 199 dX8_scan_191 (by decide) (by omega) (fun c_191 => ?_) (fun c_191 => ?_)
              · skip
                refine z_aloadn F (pc := 199) dX8_scan_199 rfl (lv_at hl 3 rfl) ?_
                refine z_get F (pc := 200) (C := RX8) (T := TX8) (N := 32) (ci := 8) inX8 hK hW 0 0 rfl rfl (by decide) rfl (List.mem_of_getElem? (i := 3) rfl) (v := .int (iI z1)) rfl dX8_scan_200 ?_
                refine z_put F (pc := 203) (C := RX8) (T := TX8) (N := 32) (ci := 8) inX8 tyX8 tyX8_ok nmX8 hK hW (ws' := wR cI cZ aR x1 y1 l1 ev nm lb kd pt so nu al ak ap he le rw cx cr cl ll tl ts tc z1 mn ac en mg ln cn wc wp) 0 0 rfl rfl (by decide) rfl (List.mem_of_getElem? (i := 3) rfl) rfl rfl (Nat.le_of_ble_eq_true rfl) dX8_scan_203 rfl (fun H locs hW => ?_)
                refine z_iload F (pc := 206) dX8_scan_206 (lv_at hl 1 rfl) ?_
                refine z_if_ge F (pc := 208) 216 dX8_scan_208 (by decide) (by omega) (fun c_208 => ?_) (fun c_208 => ?_)
                · skip
                  refine z_aloadn F (pc := 216) dX8_scan_216 rfl (lv_at hl 3 rfl) ?_
                  refine z_get F (pc := 217) (C := RX8) (T := TX8) (N := 32) (ci := 8) inX8 hK hW 0 0 rfl rfl (by decide) rfl (List.mem_of_getElem? (i := 3) rfl) (v := .int (iI z1)) rfl dX8_scan_217 ?_
                  exact hret _ _ _ _ z1 (x1, y1, l1, z1) dX8_scan_220 (by omega) (by (try dsimp only) <;> (first | (exfalso; omega) | exact Or.inr ⟨by unfold scanYes scOk; omega, Or.inl ⟨n, by omega, (g1.resolve_right (fun z => by have := z.1; omega)).2, rfl⟩⟩)) hW
                · skip
                  refine z_iload F (pc := 211) dX8_scan_211 (lv_at hl 1 rfl) ?_
                  refine z_goto F (pc := 213) 220 dX8_scan_213 (by decide) ?_
                  exact hret _ _ _ _ er (x1, y1, l1, z1) dX8_scan_220 (by omega) (by (try dsimp only) <;> (first | (exfalso; omega) | exact Or.inr ⟨by unfold scanYes scOk; omega, Or.inr ⟨(g1.resolve_left (fun z => by have := z.1; omega)).2, rfl⟩⟩)) hW
              · skip
                refine z_iload F (pc := 194) dX8_scan_194 (lv_at hl 2 rfl) ?_
                refine z_goto F (pc := 196) 203 dX8_scan_196 (by decide) ?_
                refine z_put F (pc := 203) (C := RX8) (T := TX8) (N := 32) (ci := 8) inX8 tyX8 tyX8_ok nmX8 hK hW (ws' := wR cI cZ aR x1 y1 l1 ev nm lb kd pt so nu al ak ap he le rw cx cr cl ll tl ts tc sz mn ac en mg ln cn wc wp) 0 0 rfl rfl (by decide) rfl (List.mem_of_getElem? (i := 3) rfl) rfl rfl (Nat.le_of_ble_eq_true rfl) dX8_scan_203 rfl (fun H locs hW => ?_)
                refine z_iload F (pc := 206) dX8_scan_206 (lv_at hl 1 rfl) ?_
                refine z_if_ge F (pc := 208) 216 dX8_scan_208 (by decide) (by omega) (fun c_208 => ?_) (fun c_208 => ?_)
                · skip
                  refine z_aloadn F (pc := 216) dX8_scan_216 rfl (lv_at hl 3 rfl) ?_
                  refine z_get F (pc := 217) (C := RX8) (T := TX8) (N := 32) (ci := 8) inX8 hK hW 0 0 rfl rfl (by decide) rfl (List.mem_of_getElem? (i := 3) rfl) (v := .int (iI sz)) rfl dX8_scan_217 ?_
                  exact hret _ _ _ _ sz (x1, y1, l1, sz) dX8_scan_220 (by omega) (by (try dsimp only) <;> (first | (exfalso; omega) | exact Or.inr ⟨by unfold scanYes scOk; omega, Or.inl ⟨n, by omega, (g1.resolve_right (fun z => by have := z.1; omega)).2, rfl⟩⟩)) hW
                · skip
                  refine z_iload F (pc := 211) dX8_scan_211 (lv_at hl 1 rfl) ?_
                  refine z_goto F (pc := 213) 220 dX8_scan_213 (by decide) ?_
                  exact hret _ _ _ _ er (x1, y1, l1, sz) dX8_scan_220 (by omega) (by (try dsimp only) <;> (first | (exfalso; omega) | exact Or.inr ⟨by unfold scanYes scOk; omega, Or.inr ⟨(g1.resolve_left (fun z => by have := z.1; omega)).2, rfl⟩⟩)) hW
            · skip
              refine z_iload F (pc := 71) dX8_scan_71 (lv_at hl 1 rfl) ?_
              refine z_if_ne F (pc := 73) 188 dX8_scan_73 (by decide) (by omega) (fun c_73 => ?_) (fun c_73 => ?_)
              · skip
                refine z_aloadn F (pc := 188) dX8_scan_188 rfl (lv_at hl 3 rfl) ?_
                refine z_iload F (pc := 189) dX8_scan_189 (lv_at hl 1 rfl) ?_
                refine z_if_ge F (pc := 191) 199 dX8_scan_191 (by decide) (by omega) (fun c_191 => ?_) (fun c_191 => ?_)
                · skip
                  refine z_aloadn F (pc := 199) dX8_scan_199 rfl (lv_at hl 3 rfl) ?_
                  refine z_get F (pc := 200) (C := RX8) (T := TX8) (N := 32) (ci := 8) inX8 hK hW 0 0 rfl rfl (by decide) rfl (List.mem_of_getElem? (i := 3) rfl) (v := .int (iI z1)) rfl dX8_scan_200 ?_
                  refine z_put F (pc := 203) (C := RX8) (T := TX8) (N := 32) (ci := 8) inX8 tyX8 tyX8_ok nmX8 hK hW (ws' := wR cI cZ aR x1 y1 l1 ev nm lb kd pt so nu al ak ap he le rw cx cr cl ll tl ts tc z1 mn ac en mg ln cn wc wp) 0 0 rfl rfl (by decide) rfl (List.mem_of_getElem? (i := 3) rfl) rfl rfl (Nat.le_of_ble_eq_true rfl) dX8_scan_203 rfl (fun H locs hW => ?_)
                  refine z_iload F (pc := 206) dX8_scan_206 (lv_at hl 1 rfl) ?_
                  refine z_if_ge F (pc := 208) 216 dX8_scan_208 (by decide) (by omega) (fun c_208 => ?_) (fun c_208 => ?_)
                  · skip
                    refine z_aloadn F (pc := 216) dX8_scan_216 rfl (lv_at hl 3 rfl) ?_
                    refine z_get F (pc := 217) (C := RX8) (T := TX8) (N := 32) (ci := 8) inX8 hK hW 0 0 rfl rfl (by decide) rfl (List.mem_of_getElem? (i := 3) rfl) (v := .int (iI z1)) rfl dX8_scan_217 ?_
                    exact hret _ _ _ _ z1 (x1, y1, l1, z1) dX8_scan_220 (by omega) (by (try dsimp only) <;> (first | (exfalso; omega) | exact Or.inr ⟨by unfold scanYes scOk; omega, Or.inl ⟨n, by omega, (g1.resolve_right (fun z => by have := z.1; omega)).2, rfl⟩⟩)) hW
                  · skip
                    refine z_iload F (pc := 211) dX8_scan_211 (lv_at hl 1 rfl) ?_
                    refine z_goto F (pc := 213) 220 dX8_scan_213 (by decide) ?_
                    exact hret _ _ _ _ er (x1, y1, l1, z1) dX8_scan_220 (by omega) (by (try dsimp only) <;> (first | (exfalso; omega) | exact Or.inr ⟨by unfold scanYes scOk; omega, Or.inr ⟨(g1.resolve_left (fun z => by have := z.1; omega)).2, rfl⟩⟩)) hW
                · skip
                  refine z_iload F (pc := 194) dX8_scan_194 (lv_at hl 2 rfl) ?_
                  refine z_goto F (pc := 196) 203 dX8_scan_196 (by decide) ?_
                  refine z_put F (pc := 203) (C := RX8) (T := TX8) (N := 32) (ci := 8) inX8 tyX8 tyX8_ok nmX8 hK hW (ws' := wR cI cZ aR x1 y1 l1 ev nm lb kd pt so nu al ak ap he le rw cx cr cl ll tl ts tc sz mn ac en mg ln cn wc wp) 0 0 rfl rfl (by decide) rfl (List.mem_of_getElem? (i := 3) rfl) rfl rfl (Nat.le_of_ble_eq_true rfl) dX8_scan_203 rfl (fun H locs hW => ?_)
                  refine z_iload F (pc := 206) dX8_scan_206 (lv_at hl 1 rfl) ?_
                  refine z_if_ge F (pc := 208) 216 dX8_scan_208 (by decide) (by omega) (fun c_208 => ?_) (fun c_208 => ?_)
                  · skip
                    refine z_aloadn F (pc := 216) dX8_scan_216 rfl (lv_at hl 3 rfl) ?_
                    refine z_get F (pc := 217) (C := RX8) (T := TX8) (N := 32) (ci := 8) inX8 hK hW 0 0 rfl rfl (by decide) rfl (List.mem_of_getElem? (i := 3) rfl) (v := .int (iI sz)) rfl dX8_scan_217 ?_
                    exact hret _ _ _ _ sz (x1, y1, l1, sz) dX8_scan_220 (by omega) (by (try dsimp only) <;> (first | (exfalso; omega) | exact Or.inr ⟨by unfold scanYes scOk; omega, Or.inl ⟨n, by omega, (g1.resolve_right (fun z => by have := z.1; omega)).2, rfl⟩⟩)) hW
                  · skip
                    refine z_iload F (pc := 211) dX8_scan_211 (lv_at hl 1 rfl) ?_
                    refine z_goto F (pc := 213) 220 dX8_scan_213 (by decide) ?_
                    exact hret _ _ _ _ er (x1, y1, l1, sz) dX8_scan_220 (by omega) (by (try dsimp only) <;> (first | (exfalso; omega) | exact Or.inr ⟨by unfold scanYes scOk; omega, Or.inr ⟨(g1.resolve_left (fun z => by have := z.1; omega)).2, rfl⟩⟩)) hW
              · skip
                have hg1 : scI xs ys lf (gC tc (60 * k) (ts k)) sz (ts k) f n x1 y1 l1 z1 := (g1.resolve_right (fun z => by have := z.1; omega)).2
                refine z_iloadn F (pc := 76) dX8_scan_76 rfl (lv_at hl 6 rfl) ?_
                refine z_i2l F (pc := 77) dX8_scan_77 (by omega) ?_
                refine z_iconst F (pc := 78) (3) dX8_scan_78 ?_
                refine z_iload F (pc := 79) dX8_scan_79 (lv_at hl 0 rfl) ?_
                refine z_imul F (pc := 81) dX8_scan_81 ?_
                refine z_i2l F (pc := 82) dX8_scan_82 (by omega) ?_
                refine z_ladd F (pc := 83) dX8_scan_83 ?_
                refine z_lstore F (pc := 84) hl (lv' := [(8, .long (lI (f + (3 * i)))), (7, .int (iI i)), (6, .int (iI er)), (5, .int (iI sz)), (0, .ref (aR 0)), (1, .int (iI k)), (2, .int (iI q)), (3, .int (iI f)), (4, .int (iI nn))]) dX8_scan_84 (by decide) rfl (fun ls hl => ?_)
                refine z_lload F (pc := 86) dX8_scan_86 (lv_at hl 0 rfl) ?_
                refine z_lconst F (pc := 88) (0) (by decide +kernel) dX8_scan_88 ?_
                refine z_lcmp F (pc := 89) dX8_scan_89 (by omega) (fun q_89 l1_89 l2_89 l3_89 => ?_)
                refine z_if_lt F (pc := 90) 110 dX8_scan_90 (by decide) (by omega) (fun c_90 => ?_) (fun c_90 => ?_)
                · have b_90 : (f + (3 * i)) < 0 := by omega
                  clear l1_89 l2_89 l3_89 c_90
                  have hI : ¬ ix (ts k) f n := fun z => by have := z.1; have := z.2; omega
                  have hst : ((-12 : Int) = 0 ∧ scI xs ys lf (gC tc (60 * k) (ts k)) sz (ts k) f (n + 1) x1 y1 l1 z1) ∨ ((-12 : Int) < 0 ∧ scF xs ys lf (gC tc (60 * k) (ts k)) sz (ts k) f nn x1 y1 l1 (-12)) := Or.inr ⟨by omega, scF_of (x2 := x1) (y2 := y1) (l2 := l1) (z2 := z1) g0.2.2.1.1 (by omega) hg1 (Or.inl ⟨Or.inl ⟨hI, rfl⟩, rfl, rfl, rfl, rfl⟩) (by omega)⟩
                  refine z_bipush F (pc := 110) (-12) (by decide +kernel) dX8_scan_110 ?_
                  refine z_istore F (pc := 112) hl (lv' := [(6, .int (iI (-12))), (8, .long (lI (f + (3 * i)))), (7, .int (iI i)), (5, .int (iI sz)), (0, .ref (aR 0)), (1, .int (iI k)), (2, .int (iI q)), (3, .int (iI f)), (4, .int (iI nn))]) dX8_scan_112 (by decide) rfl (fun ls hl => ?_)
                  refine z_goto F (pc := 114) 182 dX8_scan_114 (by decide) ?_
                  refine z_iinc F (pc := 182) hl (lv' := [(7, .int (iI (i + 1))), (6, .int (iI (-12))), (8, .long (lI (f + (3 * i)))), (5, .int (iI sz)), (0, .ref (aR 0)), (1, .int (iI k)), (2, .int (iI q)), (3, .int (iI f)), (4, .int (iI nn))]) dX8_scan_182 (k := 2) rfl (by decide) rfl (fun ls hl => ?_)
                  refine z_goto F (pc := 185) 64 dX8_scan_185 (by decide) ?_
                  exact ih_64 (n + 1) (-12) (i + 1) x1 y1 l1 z1 _ _ _ (by omega) (by omega) (by exact hst) (lv_sub hl [0, 1, 3, 4, 5, 6, 7, 8] rfl) hW
                · have b_90 : ¬ (f + (3 * i)) < 0 := by omega
                  clear l1_89 l2_89 l3_89 c_90
                  refine z_lload F (pc := 93) dX8_scan_93 (lv_at hl 0 rfl) ?_
                  refine z_ldc2 F (pc := 95) (3) (by decide +kernel) (List.mem_of_getElem? (i := 4) rfl) dX8_scan_95 ?_
                  refine z_ladd F (pc := 98) dX8_scan_98 ?_
                  refine z_aloadn F (pc := 99) dX8_scan_99 rfl (lv_at hl 4 rfl) ?_
                  refine z_get F (pc := 100) (C := RX8) (T := TX8) (N := 32) (ci := 8) inX8 hK hW 0 30 rfl rfl (by decide) rfl (List.mem_of_getElem? (i := 5) rfl) (v := .ref (aR 22)) rfl dX8_scan_100 ?_
                  refine z_iloadn F (pc := 103) dX8_scan_103 rfl (lv_at hl 5 rfl) ?_
                  refine z_iald F (pc := 104) hK hW 22 rfl (by decide) dX8_scan_104 (by omega) ?_
                  refine z_i2l F (pc := 105) dX8_scan_105 (by omega) ?_
                  refine z_lcmp F (pc := 106) dX8_scan_106 (by omega) (fun q_106 l1_106 l2_106 l3_106 => ?_)
                  refine z_if_le F (pc := 107) 117 dX8_scan_107 (by decide) (by omega) (fun c_107 => ?_) (fun c_107 => ?_)
                  · have b_107 : ((f + (3 * i)) + 3) ≤ (ts k) := by omega
                    clear l1_106 l2_106 l3_106 c_107
                    have hf9 : 0 ≤ f := by
                      by_cases w : n = 0
                      · omega
                      · exact (hg1.1 0 (by omega)).1.1
                    have hI : ix (ts k) f n := ⟨hf9, by omega⟩
                    have hr1 := gC_r hg (60 * k) (ts k) (f + 3 * i)
                    have hr2 := gC_r hg (60 * k) (ts k) (f + 3 * i + 1)
                    have hr3 := gC_r hg (60 * k) (ts k) (f + 3 * i + 2)
                    refine z_bipush F (pc := 117) (60) (by decide +kernel) dX8_scan_117 ?_
                    refine z_iloadn F (pc := 119) dX8_scan_119 rfl (lv_at hl 5 rfl) ?_
                    refine z_imul F (pc := 120) dX8_scan_120 ?_
                    refine z_lload F (pc := 121) dX8_scan_121 (lv_at hl 0 rfl) ?_
                    refine z_l2i F (pc := 123) dX8_scan_123 ?_
                    refine z_iadd F (pc := 124) dX8_scan_124 ?_
                    refine z_istore F (pc := 125) hl (lv' := [(10, .int (iI ((60 * k) + (f + (3 * i))))), (8, .long (lI (f + (3 * i)))), (7, .int (iI i)), (6, .int (iI er)), (5, .int (iI sz)), (0, .ref (aR 0)), (1, .int (iI k)), (2, .int (iI q)), (3, .int (iI f)), (4, .int (iI nn))]) dX8_scan_125 (by decide) rfl (fun ls hl => ?_)
                    refine z_aloadn F (pc := 127) dX8_scan_127 rfl (lv_at hl 5 rfl) ?_
                    refine z_aloadn F (pc := 128) dX8_scan_128 rfl (lv_at hl 5 rfl) ?_
                    refine z_get F (pc := 129) (C := RX8) (T := TX8) (N := 32) (ci := 8) inX8 hK hW 0 31 rfl rfl (by decide) rfl (List.mem_of_getElem? (i := 6) rfl) (v := .ref (aR 23)) rfl dX8_scan_129 ?_
                    refine z_iload F (pc := 132) dX8_scan_132 (lv_at hl 0 rfl) ?_
                    refine z_iald F (pc := 134) hK hW 23 rfl (by decide) dX8_scan_134 (by omega) ?_
                    refine z_eqi (y := gC tc (60 * k) (ts k) (f + 3 * i)) (by exact gC_at (by omega) (by omega)) ?_
                    refine z_aloadn F (pc := 135) dX8_scan_135 rfl (lv_at hl 5 rfl) ?_
                    refine z_get F (pc := 136) (C := RX8) (T := TX8) (N := 32) (ci := 8) inX8 hK hW 0 31 rfl rfl (by decide) rfl (List.mem_of_getElem? (i := 6) rfl) (v := .ref (aR 23)) rfl dX8_scan_136 ?_
                    refine z_iload F (pc := 139) dX8_scan_139 (lv_at hl 0 rfl) ?_
                    refine z_iconst F (pc := 141) (1) dX8_scan_141 ?_
                    refine z_iadd F (pc := 142) dX8_scan_142 ?_
                    refine z_iald F (pc := 143) hK hW 23 rfl (by decide) dX8_scan_143 (by omega) ?_
                    refine z_eqi (y := gC tc (60 * k) (ts k) (f + 3 * i + 1)) (by exact gC_at (by omega) (by omega)) ?_
                    refine z_aloadn F (pc := 144) dX8_scan_144 rfl (lv_at hl 5 rfl) ?_
                    refine z_get F (pc := 145) (C := RX8) (T := TX8) (N := 32) (ci := 8) inX8 hK hW 0 31 rfl rfl (by decide) rfl (List.mem_of_getElem? (i := 6) rfl) (v := .ref (aR 23)) rfl dX8_scan_145 ?_
                    refine z_iload F (pc := 148) dX8_scan_148 (lv_at hl 0 rfl) ?_
                    refine z_iconst F (pc := 150) (2) dX8_scan_150 ?_
                    refine z_iadd F (pc := 151) dX8_scan_151 ?_
                    refine z_iald F (pc := 152) hK hW 23 rfl (by decide) dX8_scan_152 (by omega) ?_
                    refine z_eqi (y := gC tc (60 * k) (ts k) (f + 3 * i + 2)) (by exact gC_at (by omega) (by omega)) ?_
                    refine z_if_eq F (pc := 153) 160 dX8_scan_153 (by decide) (by omega) (fun c_153 => ?_) (fun c_153 => ?_)
                    · skip
                      refine z_iconst F (pc := 160) (0) dX8_scan_160 ?_
                      refine z_callVi F (pc := 161) hK hW hA (As := [.int (iI (gC tc (60 * k) (ts k) (f + 3 * i))), .int (iI (gC tc (60 * k) (ts k) (f + 3 * i + 1))), .int (iI 0)]) (rest := []) (ws' := fun (u : (Int → Int) × (Int → Int) × (Int → Int) × (Int)) => wR cI cZ aR u.1 u.2.1 u.2.2.1 ev nm lb kd pt so nu al ak ap he le rw cx cr cl ll tl ts tc u.2.2.2 mn ac en mg ln cn wc wp) (wr := ([])) (c_X8_point l D cI cZ aR x1 y1 l1 ev nm lb kd pt so nu al ak ap he le rw cx cr cl ll tl ts tc z1 mn ac en mg ln cn wc wp (gC tc (60 * k) (ts k) (f + 3 * i)) (gC tc (60 * k) (ts k) (f + 3 * i + 1)) 0 _ (by omega) (by omega) (by omega) (by omega) (by omega)) (cwV 3 F.2.2.2.2 gX8_scan_X8_point rfl rfl rfl (by decide +kernel) ⟨Nat.le_of_ble_eq_true rfl, Nat.le_of_ble_eq_true rfl⟩) [0, 1, 2, 3, 4, 5, 6, 7, 8, 9, 10, 11, 12, 13, 14, 15, 16, 17, 18, 19, 20, 21, 22, 23] [] [0, 1, 2, 3, 4, 5, 6, 7, 8, 9, 10, 11, 12, 13, 14, 15, 16, 17, 18, 19, 20, 21, 22, 23] rfl rfl (by decide) (by decide) (by decide) (fun _ => rfl) (by decide) (q0 := 0) (ci := 8) rfl rfl rfl rfl rfl hl.1 (Nat.le_of_ble_eq_true rfl) dX8_scan_161 ⟨Nat.le_of_ble_eq_true rfl, Nat.le_of_ble_eq_true rfl⟩ (fun z_161 u H locs r_z_161 hp_161 hW => ?_)
                      obtain ⟨xs2_161, ys2_161, lf2_161, sz2_161⟩ := u
                      dsimp only at hp_161 hW
                      have hz9 : (-3 ≤ z_161 ∧ z_161 ≤ 31) ∧ (0 ≤ sz2_161 ∧ sz2_161 ≤ 30) := by unfold addP at hp_161; omega
                      rw [g0.1] at hp_161
                      refine z_istore F (pc := 164) hl (lv' := [(11, .int (iI z_161)), (10, .int (iI ((60 * k) + (f + (3 * i))))), (8, .long (lI (f + (3 * i)))), (7, .int (iI i)), (6, .int (iI er)), (5, .int (iI sz)), (0, .ref (aR 0)), (1, .int (iI k)), (2, .int (iI q)), (3, .int (iI f)), (4, .int (iI nn))]) dX8_scan_164 (by decide) rfl (fun ls hl => ?_)
                      refine z_iload F (pc := 166) dX8_scan_166 (lv_at hl 0 rfl) ?_
                      refine z_if_ge F (pc := 168) 179 dX8_scan_168 (by decide) (by omega) (fun c_168 => ?_) (fun c_168 => ?_)
                      · skip
                        have hS := sp_y hI hp_161 (by omega) (by rw [← g0.1]; omega)
                        have hst : ((0 : Int) = 0 ∧ scI xs ys lf (gC tc (60 * k) (ts k)) sz (ts k) f (n + 1) xs2_161 ys2_161 lf2_161 sz2_161) ∨ ((0 : Int) < 0 ∧ scF xs ys lf (gC tc (60 * k) (ts k)) sz (ts k) f nn xs2_161 ys2_161 lf2_161 0) := Or.inl ⟨rfl, scI_s hg1 hS (by omega)⟩
                        refine z_iconst F (pc := 179) (0) dX8_scan_179 ?_
                        refine z_istore F (pc := 180) hl (lv' := [(6, .int (iI 0)), (11, .int (iI z_161)), (10, .int (iI ((60 * k) + (f + (3 * i))))), (8, .long (lI (f + (3 * i)))), (7, .int (iI i)), (5, .int (iI sz)), (0, .ref (aR 0)), (1, .int (iI k)), (2, .int (iI q)), (3, .int (iI f)), (4, .int (iI nn))]) dX8_scan_180 (by decide) rfl (fun ls hl => ?_)
                        refine z_iinc F (pc := 182) hl (lv' := [(7, .int (iI (i + 1))), (6, .int (iI 0)), (11, .int (iI z_161)), (10, .int (iI ((60 * k) + (f + (3 * i))))), (8, .long (lI (f + (3 * i)))), (5, .int (iI sz)), (0, .ref (aR 0)), (1, .int (iI k)), (2, .int (iI q)), (3, .int (iI f)), (4, .int (iI nn))]) dX8_scan_182 (k := 4) rfl (by decide) rfl (fun ls hl => ?_)
                        refine z_goto F (pc := 185) 64 dX8_scan_185 (by decide) ?_
                        exact ih_64 (n + 1) 0 (i + 1) xs2_161 ys2_161 lf2_161 sz2_161 _ _ _ (by omega) (by omega) (by exact hst) (lv_sub hl [0, 1, 5, 6, 7, 8, 9, 10] rfl) hW
                      · skip
                        have hS := sp_n g0.2.2.1.1 hI hp_161 (by omega)
                        have hst : (-20 + z_161 = 0 ∧ scI xs ys lf (gC tc (60 * k) (ts k)) sz (ts k) f (n + 1) xs2_161 ys2_161 lf2_161 sz2_161) ∨ (-20 + z_161 < 0 ∧ scF xs ys lf (gC tc (60 * k) (ts k)) sz (ts k) f nn xs2_161 ys2_161 lf2_161 (-20 + z_161)) := Or.inr ⟨by omega, scF_of g0.2.2.1.1 (by omega) hg1 hS (by omega)⟩
                        refine z_bipush F (pc := 171) (-20) (by decide +kernel) dX8_scan_171 ?_
                        refine z_iload F (pc := 173) dX8_scan_173 (lv_at hl 0 rfl) ?_
                        refine z_iadd F (pc := 175) dX8_scan_175 ?_
                        refine z_goto F (pc := 176) 180 dX8_scan_176 (by decide) ?_
                        refine z_istore F (pc := 180) hl (lv' := [(6, .int (iI ((-20) + z_161))), (11, .int (iI z_161)), (10, .int (iI ((60 * k) + (f + (3 * i))))), (8, .long (lI (f + (3 * i)))), (7, .int (iI i)), (5, .int (iI sz)), (0, .ref (aR 0)), (1, .int (iI k)), (2, .int (iI q)), (3, .int (iI f)), (4, .int (iI nn))]) dX8_scan_180 (by decide) rfl (fun ls hl => ?_)
                        refine z_iinc F (pc := 182) hl (lv' := [(7, .int (iI (i + 1))), (6, .int (iI ((-20) + z_161))), (11, .int (iI z_161)), (10, .int (iI ((60 * k) + (f + (3 * i))))), (8, .long (lI (f + (3 * i)))), (5, .int (iI sz)), (0, .ref (aR 0)), (1, .int (iI k)), (2, .int (iI q)), (3, .int (iI f)), (4, .int (iI nn))]) dX8_scan_182 (k := 4) rfl (by decide) rfl (fun ls hl => ?_)
                        refine z_goto F (pc := 185) 64 dX8_scan_185 (by decide) ?_
                        exact ih_64 (n + 1) ((-20) + z_161) (i + 1) xs2_161 ys2_161 lf2_161 sz2_161 _ _ _ (by omega) (by omega) (by exact hst) (lv_sub hl [0, 1, 5, 6, 7, 8, 9, 10] rfl) hW
                    · skip
                      refine z_iconst F (pc := 156) (1) dX8_scan_156 ?_
                      refine z_goto F (pc := 157) 161 dX8_scan_157 (by decide) ?_
                      refine z_callVi F (pc := 161) hK hW hA (As := [.int (iI (gC tc (60 * k) (ts k) (f + 3 * i))), .int (iI (gC tc (60 * k) (ts k) (f + 3 * i + 1))), .int (iI 1)]) (rest := []) (ws' := fun (u : (Int → Int) × (Int → Int) × (Int → Int) × (Int)) => wR cI cZ aR u.1 u.2.1 u.2.2.1 ev nm lb kd pt so nu al ak ap he le rw cx cr cl ll tl ts tc u.2.2.2 mn ac en mg ln cn wc wp) (wr := ([])) (c_X8_point l D cI cZ aR x1 y1 l1 ev nm lb kd pt so nu al ak ap he le rw cx cr cl ll tl ts tc z1 mn ac en mg ln cn wc wp (gC tc (60 * k) (ts k) (f + 3 * i)) (gC tc (60 * k) (ts k) (f + 3 * i + 1)) 1 _ (by omega) (by omega) (by omega) (by omega) (by omega)) (cwV 3 F.2.2.2.2 gX8_scan_X8_point rfl rfl rfl (by decide +kernel) ⟨Nat.le_of_ble_eq_true rfl, Nat.le_of_ble_eq_true rfl⟩) [0, 1, 2, 3, 4, 5, 6, 7, 8, 9, 10, 11, 12, 13, 14, 15, 16, 17, 18, 19, 20, 21, 22, 23] [] [0, 1, 2, 3, 4, 5, 6, 7, 8, 9, 10, 11, 12, 13, 14, 15, 16, 17, 18, 19, 20, 21, 22, 23] rfl rfl (by decide) (by decide) (by decide) (fun _ => rfl) (by decide) (q0 := 0) (ci := 8) rfl rfl rfl rfl rfl hl.1 (Nat.le_of_ble_eq_true rfl) dX8_scan_161 ⟨Nat.le_of_ble_eq_true rfl, Nat.le_of_ble_eq_true rfl⟩ (fun z_161 u H locs r_z_161 hp_161 hW => ?_)
                      obtain ⟨xs2_161, ys2_161, lf2_161, sz2_161⟩ := u
                      dsimp only at hp_161 hW
                      have hz9 : (-3 ≤ z_161 ∧ z_161 ≤ 31) ∧ (0 ≤ sz2_161 ∧ sz2_161 ≤ 30) := by unfold addP at hp_161; omega
                      rw [g0.1] at hp_161
                      refine z_istore F (pc := 164) hl (lv' := [(11, .int (iI z_161)), (10, .int (iI ((60 * k) + (f + (3 * i))))), (8, .long (lI (f + (3 * i)))), (7, .int (iI i)), (6, .int (iI er)), (5, .int (iI sz)), (0, .ref (aR 0)), (1, .int (iI k)), (2, .int (iI q)), (3, .int (iI f)), (4, .int (iI nn))]) dX8_scan_164 (by decide) rfl (fun ls hl => ?_)
                      refine z_iload F (pc := 166) dX8_scan_166 (lv_at hl 0 rfl) ?_
                      refine z_if_ge F (pc := 168) 179 dX8_scan_168 (by decide) (by omega) (fun c_168 => ?_) (fun c_168 => ?_)
                      · skip
                        have hS := sp_y hI hp_161 (by omega) (by rw [← g0.1]; omega)
                        have hst : ((0 : Int) = 0 ∧ scI xs ys lf (gC tc (60 * k) (ts k)) sz (ts k) f (n + 1) xs2_161 ys2_161 lf2_161 sz2_161) ∨ ((0 : Int) < 0 ∧ scF xs ys lf (gC tc (60 * k) (ts k)) sz (ts k) f nn xs2_161 ys2_161 lf2_161 0) := Or.inl ⟨rfl, scI_s hg1 hS (by omega)⟩
                        refine z_iconst F (pc := 179) (0) dX8_scan_179 ?_
                        refine z_istore F (pc := 180) hl (lv' := [(6, .int (iI 0)), (11, .int (iI z_161)), (10, .int (iI ((60 * k) + (f + (3 * i))))), (8, .long (lI (f + (3 * i)))), (7, .int (iI i)), (5, .int (iI sz)), (0, .ref (aR 0)), (1, .int (iI k)), (2, .int (iI q)), (3, .int (iI f)), (4, .int (iI nn))]) dX8_scan_180 (by decide) rfl (fun ls hl => ?_)
                        refine z_iinc F (pc := 182) hl (lv' := [(7, .int (iI (i + 1))), (6, .int (iI 0)), (11, .int (iI z_161)), (10, .int (iI ((60 * k) + (f + (3 * i))))), (8, .long (lI (f + (3 * i)))), (5, .int (iI sz)), (0, .ref (aR 0)), (1, .int (iI k)), (2, .int (iI q)), (3, .int (iI f)), (4, .int (iI nn))]) dX8_scan_182 (k := 4) rfl (by decide) rfl (fun ls hl => ?_)
                        refine z_goto F (pc := 185) 64 dX8_scan_185 (by decide) ?_
                        exact ih_64 (n + 1) 0 (i + 1) xs2_161 ys2_161 lf2_161 sz2_161 _ _ _ (by omega) (by omega) (by exact hst) (lv_sub hl [0, 1, 5, 6, 7, 8, 9, 10] rfl) hW
                      · skip
                        have hS := sp_n g0.2.2.1.1 hI hp_161 (by omega)
                        have hst : (-20 + z_161 = 0 ∧ scI xs ys lf (gC tc (60 * k) (ts k)) sz (ts k) f (n + 1) xs2_161 ys2_161 lf2_161 sz2_161) ∨ (-20 + z_161 < 0 ∧ scF xs ys lf (gC tc (60 * k) (ts k)) sz (ts k) f nn xs2_161 ys2_161 lf2_161 (-20 + z_161)) := Or.inr ⟨by omega, scF_of g0.2.2.1.1 (by omega) hg1 hS (by omega)⟩
                        refine z_bipush F (pc := 171) (-20) (by decide +kernel) dX8_scan_171 ?_
                        refine z_iload F (pc := 173) dX8_scan_173 (lv_at hl 0 rfl) ?_
                        refine z_iadd F (pc := 175) dX8_scan_175 ?_
                        refine z_goto F (pc := 176) 180 dX8_scan_176 (by decide) ?_
                        refine z_istore F (pc := 180) hl (lv' := [(6, .int (iI ((-20) + z_161))), (11, .int (iI z_161)), (10, .int (iI ((60 * k) + (f + (3 * i))))), (8, .long (lI (f + (3 * i)))), (7, .int (iI i)), (5, .int (iI sz)), (0, .ref (aR 0)), (1, .int (iI k)), (2, .int (iI q)), (3, .int (iI f)), (4, .int (iI nn))]) dX8_scan_180 (by decide) rfl (fun ls hl => ?_)
                        refine z_iinc F (pc := 182) hl (lv' := [(7, .int (iI (i + 1))), (6, .int (iI ((-20) + z_161))), (11, .int (iI z_161)), (10, .int (iI ((60 * k) + (f + (3 * i))))), (8, .long (lI (f + (3 * i)))), (5, .int (iI sz)), (0, .ref (aR 0)), (1, .int (iI k)), (2, .int (iI q)), (3, .int (iI f)), (4, .int (iI nn))]) dX8_scan_182 (k := 4) rfl (by decide) rfl (fun ls hl => ?_)
                        refine z_goto F (pc := 185) 64 dX8_scan_185 (by decide) ?_
                        exact ih_64 (n + 1) ((-20) + z_161) (i + 1) xs2_161 ys2_161 lf2_161 sz2_161 _ _ _ (by omega) (by omega) (by exact hst) (lv_sub hl [0, 1, 5, 6, 7, 8, 9, 10] rfl) hW
                  · have b_107 : ¬ ((f + (3 * i)) + 3) ≤ (ts k) := by omega
                    clear l1_106 l2_106 l3_106 c_107
                    have hI : ¬ ix (ts k) f n := fun z => by have := z.1; have := z.2; omega
                    have hst : ((-12 : Int) = 0 ∧ scI xs ys lf (gC tc (60 * k) (ts k)) sz (ts k) f (n + 1) x1 y1 l1 z1) ∨ ((-12 : Int) < 0 ∧ scF xs ys lf (gC tc (60 * k) (ts k)) sz (ts k) f nn x1 y1 l1 (-12)) := Or.inr ⟨by omega, scF_of (x2 := x1) (y2 := y1) (l2 := l1) (z2 := z1) g0.2.2.1.1 (by omega) hg1 (Or.inl ⟨Or.inl ⟨hI, rfl⟩, rfl, rfl, rfl, rfl⟩) (by omega)⟩
                    refine z_bipush F (pc := 110) (-12) (by decide +kernel) dX8_scan_110 ?_
                    refine z_istore F (pc := 112) hl (lv' := [(6, .int (iI (-12))), (8, .long (lI (f + (3 * i)))), (7, .int (iI i)), (5, .int (iI sz)), (0, .ref (aR 0)), (1, .int (iI k)), (2, .int (iI q)), (3, .int (iI f)), (4, .int (iI nn))]) dX8_scan_112 (by decide) rfl (fun ls hl => ?_)
                    refine z_goto F (pc := 114) 182 dX8_scan_114 (by decide) ?_
                    refine z_iinc F (pc := 182) hl (lv' := [(7, .int (iI (i + 1))), (6, .int (iI (-12))), (8, .long (lI (f + (3 * i)))), (5, .int (iI sz)), (0, .ref (aR 0)), (1, .int (iI k)), (2, .int (iI q)), (3, .int (iI f)), (4, .int (iI nn))]) dX8_scan_182 (k := 2) rfl (by decide) rfl (fun ls hl => ?_)
                    refine z_goto F (pc := 185) 64 dX8_scan_185 (by decide) ?_
                    exact ih_64 (n + 1) (-12) (i + 1) x1 y1 l1 z1 _ _ _ (by omega) (by omega) (by exact hst) (lv_sub hl [0, 1, 3, 4, 5, 6, 7, 8] rfl) hW
        exact cut_64 _ 0 0 0 xs ys lf sz _ _ _ (Nat.lt_succ_self _) (by omega) (by exact Or.inl ⟨rfl, scI_0 _ _ _ _ _ _ _⟩) (lv_sub hl [0, 1, 2, 3, 4, 5, 6, 7] rfl) hW
      · skip
        refine z_aloadn F (pc := 33) dX8_scan_33 rfl (lv_at hl 0 rfl) ?_
        refine z_get F (pc := 34) (C := RX8) (T := TX8) (N := 32) (ci := 8) inX8 hK hW 0 29 rfl rfl (by decide) rfl (List.mem_of_getElem? (i := 2) rfl) (v := .ref (aR 21)) rfl dX8_scan_34 ?_
        refine z_iloadn F (pc := 37) dX8_scan_37 rfl (lv_at hl 1 rfl) ?_
        refine z_iald F (pc := 38) hK hW 21 rfl (by decide) dX8_scan_38 (by omega) ?_
        refine z_bipush F (pc := 39) (-4) (by decide +kernel) dX8_scan_39 ?_
        refine z_icmp_ne F (pc := 41) 49 dX8_scan_41 (by decide) (by omega) (fun c_41 => ?_) (fun c_41 => ?_)
        · skip
          refine z_bipush F (pc := 49) (-13) (by decide +kernel) dX8_scan_49 ?_
          exact hret _ _ _ _ (-13) (xs, ys, lf, sz) dX8_scan_51 (by omega) (by (try dsimp only) <;> (exact Or.inl ⟨by unfold scanNo scOk; omega, rfl, rfl, rfl, rfl⟩)) hW
        · skip
          refine z_bipush F (pc := 44) (-11) (by decide +kernel) dX8_scan_44 ?_
          refine z_goto F (pc := 46) 51 dX8_scan_46 (by decide) ?_
          exact hret _ _ _ _ (-11) (xs, ys, lf, sz) dX8_scan_51 (by omega) (by (try dsimp only) <;> (exact Or.inl ⟨by unfold scanNo scOk; omega, rfl, rfl, rfl, rfl⟩)) hW
    · skip
      have b_18 := zB_f hp_15 c_18
      refine z_iconst F (pc := 21) (-1) dX8_scan_21 ?_
      exact hret _ _ _ _ (-1) (xs, ys, lf, sz) dX8_scan_22 (by omega) (by (try dsimp only) <;> (exact Or.inl ⟨by unfold scanNo scOk; omega, rfl, rfl, rfl, rfl⟩)) hW

set_option maxHeartbeats 4000000 in
set_option maxRecDepth 100000 in
theorem c_X8_count (l : Launch) (D : va_G) (cI cZ : ClassId) (aR : Nat → Nat) (xs ys lf ev nm lb kd pt so nu al ak ap he le rw cx cr cl ll tl ts tc : Int → Int) (sz mn ac en mg ln cn wc wp : Int) (w : Int) (sz0 : Nat) (r_w : (-2147483648 ≤ w ∧ w < 2147483648)) (hz : (0 ≤ sz ∧ sz ≤ 40) ∧ (0 ≤ mn ∧ mn ≤ 40) ∧ (0 ≤ cn ∧ cn ≤ 40) ∧ (0 ≤ ln ∧ ln ≤ 40) ∧ (0 ≤ ac ∧ ac ≤ 40)) : Met l yX8_count wsX8_count ({ frames := 0, cells := 0, slots := 0, locals := 0 } : Room) (zPc D cI cZ [.ref (aR 0), .int (iI w)] (wR cI cZ aR xs ys lf ev nm lb kd pt so nu al ak ap he le rw cx cr cl ll tl ts tc sz mn ac en mg ln cn wc wp) sz0) (zQi D cI cZ (wR cI cZ aR xs ys lf ev nm lb kd pt so nu al ak ap he le rw cx cr cl ll tl ts tc sz mn ac en mg ln cn wc wp) sz0 (fun (r : Int) (u : Unit) => countR sz mn cn ln ac w r) (fun (u : Unit) => wR cI cZ aR xs ys lf ev nm lb kd pt so nu al ak ap he le rw cx cr cl ll tl ts tc sz mn ac en mg ln cn wc wp)) 0 0 (va_A (wR cI cZ aR xs ys lf ev nm lb kd pt so nu al ak ap he le rw cx cr cl ll tl ts tc sz mn ac en mg ln cn wc wp) sz0) := by
  refine z_ofI (maxL := 2) (plainFor_of_name (by decide)) rfl (Nat.le_of_ble_eq_true rfl) (Or.inl rfl) ?_
  intro p e s m below meth c A ls Q F hK hW hA hl hret
  have hl : lv_has ls 2 [(0, .ref (aR 0)), (1, .int (iI w))] := hl
  have inX8 : ∀ w ∈ u_ws RX8 TX8 32, w ∈ wsX8_count := fun _ h => List.mem_cons_of_mem _ (List.mem_append_right _ h)
  refine z_iloadn F (pc := 0) dX8_count_0 rfl (lv_at hl 1 rfl) ?_
  refine z_if_ne F (pc := 1) 11 dX8_count_1 (by decide) (by omega) (fun c_1 => ?_) (fun c_1 => ?_)
  · skip
    refine z_iloadn F (pc := 11) dX8_count_11 rfl (lv_at hl 1 rfl) ?_
    refine z_iconst F (pc := 12) (1) dX8_count_12 ?_
    refine z_icmp_ne F (pc := 13) 23 dX8_count_13 (by decide) (by omega) (fun c_13 => ?_) (fun c_13 => ?_)
    · skip
      refine z_iloadn F (pc := 23) dX8_count_23 rfl (lv_at hl 1 rfl) ?_
      refine z_iconst F (pc := 24) (2) dX8_count_24 ?_
      refine z_icmp_ne F (pc := 25) 35 dX8_count_25 (by decide) (by omega) (fun c_25 => ?_) (fun c_25 => ?_)
      · skip
        refine z_iloadn F (pc := 35) dX8_count_35 rfl (lv_at hl 1 rfl) ?_
        refine z_iconst F (pc := 36) (3) dX8_count_36 ?_
        refine z_icmp_ne F (pc := 37) 47 dX8_count_37 (by decide) (by omega) (fun c_37 => ?_) (fun c_37 => ?_)
        · skip
          refine z_iloadn F (pc := 47) dX8_count_47 rfl (lv_at hl 1 rfl) ?_
          refine z_iconst F (pc := 48) (4) dX8_count_48 ?_
          refine z_icmp_ne F (pc := 49) 59 dX8_count_49 (by decide) (by omega) (fun c_49 => ?_) (fun c_49 => ?_)
          · skip
            refine z_iconst F (pc := 59) (-1) dX8_count_59 ?_
            exact hret _ _ _ _ (-1) () dX8_count_60 (by omega) (by unfold countR; omega) hW
          · skip
            refine z_aloadn F (pc := 52) dX8_count_52 rfl (lv_at hl 0 rfl) ?_
            refine z_get F (pc := 53) (C := RX8) (T := TX8) (N := 32) (ci := 8) inX8 hK hW 0 10 rfl rfl (by decide) rfl (List.mem_of_getElem? (i := 5) rfl) (v := .int (iI ac)) rfl dX8_count_53 ?_
            refine z_goto F (pc := 56) 60 dX8_count_56 (by decide) ?_
            exact hret _ _ _ _ ac () dX8_count_60 (by omega) (by unfold countR; omega) hW
        · skip
          refine z_aloadn F (pc := 40) dX8_count_40 rfl (lv_at hl 0 rfl) ?_
          refine z_get F (pc := 41) (C := RX8) (T := TX8) (N := 32) (ci := 8) inX8 hK hW 0 20 rfl rfl (by decide) rfl (List.mem_of_getElem? (i := 4) rfl) (v := .int (iI ln)) rfl dX8_count_41 ?_
          refine z_goto F (pc := 44) 60 dX8_count_44 (by decide) ?_
          exact hret _ _ _ _ ln () dX8_count_60 (by omega) (by unfold countR; omega) hW
      · skip
        refine z_aloadn F (pc := 28) dX8_count_28 rfl (lv_at hl 0 rfl) ?_
        refine z_get F (pc := 29) (C := RX8) (T := TX8) (N := 32) (ci := 8) inX8 hK hW 0 22 rfl rfl (by decide) rfl (List.mem_of_getElem? (i := 3) rfl) (v := .int (iI cn)) rfl dX8_count_29 ?_
        refine z_goto F (pc := 32) 60 dX8_count_32 (by decide) ?_
        exact hret _ _ _ _ cn () dX8_count_60 (by omega) (by unfold countR; omega) hW
    · skip
      refine z_aloadn F (pc := 16) dX8_count_16 rfl (lv_at hl 0 rfl) ?_
      refine z_get F (pc := 17) (C := RX8) (T := TX8) (N := 32) (ci := 8) inX8 hK hW 0 6 rfl rfl (by decide) rfl (List.mem_of_getElem? (i := 2) rfl) (v := .int (iI mn)) rfl dX8_count_17 ?_
      refine z_goto F (pc := 20) 60 dX8_count_20 (by decide) ?_
      exact hret _ _ _ _ mn () dX8_count_60 (by omega) (by unfold countR; omega) hW
  · skip
    refine z_aloadn F (pc := 4) dX8_count_4 rfl (lv_at hl 0 rfl) ?_
    refine z_get F (pc := 5) (C := RX8) (T := TX8) (N := 32) (ci := 8) inX8 hK hW 0 0 rfl rfl (by decide) rfl (List.mem_of_getElem? (i := 1) rfl) (v := .int (iI sz)) rfl dX8_count_5 ?_
    refine z_goto F (pc := 8) 60 dX8_count_8 (by decide) ?_
    exact hret _ _ _ _ sz () dX8_count_60 (by omega) (by unfold countR; omega) hW
