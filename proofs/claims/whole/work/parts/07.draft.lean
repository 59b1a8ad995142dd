theorem tdiv_b {x y : Int} (h : -2147483648 < x ∧ x < 2147483648) : -2147483648 < x.tdiv y ∧ x.tdiv y < 2147483648 := by
  have hab : (x.tdiv y).natAbs ≤ x.natAbs := by rw [Int.natAbs_tdiv]; exact Nat.div_le_self _ _
  omega
theorem tdm_b {x y : Int} (h : -2147483648 < x ∧ x < 2147483648) : -2147483648 < x.tdiv y * y ∧ x.tdiv y * y < 2147483648 := by
  have hab : (x.tdiv y * y).natAbs ≤ x.natAbs := by rw [Int.natAbs_mul, Int.natAbs_tdiv]; exact Nat.div_mul_le_self _ _
  omega
theorem tmod_b {x y : Int} (hy : 0 < y) (h : y < 2147483648) : -2147483648 < x.tmod y ∧ x.tmod y < 2147483648 := by
  have h1 := Int.tmod_lt_of_pos x hy
  have h2 := Int.lt_tmod_of_pos x hy
  omega

set_option maxHeartbeats 4000000 in
set_option maxRecDepth 100000 in
theorem c_J9_floorDiv_7cf53 (l : Launch) (D : va_G) (cI cZ : ClassId) (x y : Int) (sz0 : Nat) (r_x : (-2147483648 ≤ x ∧ x < 2147483648)) (r_y : (-2147483648 ≤ y ∧ y < 2147483648)) (hy : 0 < y) (hx : -2147483648 < x) : Met l yJ9_floorDiv_7cf53 wsJ9_floorDiv_7cf53 ({ frames := 0, cells := 0, slots := 0, locals := 0 } : Room) (zPc D cI cZ [.int (iI x), .int (iI y)] ([]) sz0) (zQi D cI cZ ([]) sz0 (fun (r : Int) (u : Unit) => r = x / y) (fun (u : Unit) => [])) 0 0 (va_A ([]) sz0) := by
  have hb := tdiv_b (x := x) (y := y) (by omega)
  have hbb := tdm_b (x := x) (y := y) (by omega)
  have hc := fl_r (x := x) hy (b := 2147483647) (by omega) (by omega)
  refine z_ofI (maxL := 3) (by decide +kernel) rfl (Nat.le_of_ble_eq_true rfl) (Or.inl rfl) ?_
  intro p e s m below meth c A ls Q F hK hW hA hl hret
  have hl : lv_has ls 3 [(0, .int (iI x)), (1, .int (iI y))] := hl
  refine z_iloadn F (pc := 0) dJ9_floorDiv_7cf53_0 rfl (lv_at hl 0 rfl) ?_
  refine z_iloadn F (pc := 1) dJ9_floorDiv_7cf53_1 rfl (lv_at hl 1 rfl) ?_
  refine z_idiv F (pc := 2) dJ9_floorDiv_7cf53_2 (by omega) ?_
  refine z_istoren F (pc := 3) hl (lv' := [(2, .int (iI (Int.tdiv x y))), (0, .int (iI x)), (1, .int (iI y))]) dJ9_floorDiv_7cf53_3 rfl (by decide) rfl (fun ls hl => ?_)
  refine z_iloadn F (pc := 4) dJ9_floorDiv_7cf53_4 rfl (lv_at hl 1 rfl) ?_
  refine z_iloadn F (pc := 5) dJ9_floorDiv_7cf53_5 rfl (lv_at hl 2 rfl) ?_
  refine z_ixors F (pc := 6) dJ9_floorDiv_7cf53_6 (by omega) (fun q_6 r_q_6 h_q_6 => ?_)
  refine z_if_ge F (pc := 7) 21 dJ9_floorDiv_7cf53_7 (by decide) (by omega) (fun c_7 => ?_) (fun c_7 => ?_)
  · skip
    have ex := fl_1 hy (Or.inl (show 0 ≤ x by omega))
    refine z_iloadn F (pc := 21) dJ9_floorDiv_7cf53_21 rfl (lv_at hl 0 rfl) ?_
    exact hret _ _ _ _ (Int.tdiv x y) () dJ9_floorDiv_7cf53_22 (by omega) (by exact ex) hW
  · skip
    refine z_iloadn F (pc := 10) dJ9_floorDiv_7cf53_10 rfl (lv_at hl 0 rfl) ?_
    refine z_iloadn F (pc := 11) dJ9_floorDiv_7cf53_11 rfl (lv_at hl 2 rfl) ?_
    refine z_imul F (pc := 12) dJ9_floorDiv_7cf53_12 ?_
    refine z_iloadn F (pc := 13) dJ9_floorDiv_7cf53_13 rfl (lv_at hl 1 rfl) ?_
    refine z_icmp_eq F (pc := 14) 21 dJ9_floorDiv_7cf53_14 (by decide) (by omega) (fun c_14 => ?_) (fun c_14 => ?_)
    · skip
      refine z_iloadn F (pc := 21) dJ9_floorDiv_7cf53_21 rfl (lv_at hl 0 rfl) ?_
      exact hret _ _ _ _ (Int.tdiv x y) () dJ9_floorDiv_7cf53_22 (by omega) (by exact fl_1 hy (Or.inr c_14)) hW
    · skip
      refine z_iloadn F (pc := 17) dJ9_floorDiv_7cf53_17 rfl (lv_at hl 0 rfl) ?_
      refine z_iconst F (pc := 18) (1) dJ9_floorDiv_7cf53_18 ?_
      refine z_isub F (pc := 19) dJ9_floorDiv_7cf53_19 ?_
      exact hret _ _ _ _ ((Int.tdiv x y) - 1) () dJ9_floorDiv_7cf53_20 (by omega) (by exact fl_2 hy (by omega) c_14) hW

set_option maxHeartbeats 4000000 in
set_option maxRecDepth 100000 in
theorem c_J9_floorMod_7cf53 (l : Launch) (D : va_G) (cI cZ : ClassId) (x y : Int) (sz0 : Nat) (r_x : (-2147483648 ≤ x ∧ x < 2147483648)) (r_y : (-2147483648 ≤ y ∧ y < 2147483648)) (hy : 0 < y) (hx : -2147483648 < x) : Met l yJ9_floorMod_7cf53 wsJ9_floorMod_7cf53 ({ frames := 0, cells := 0, slots := 0, locals := 0 } : Room) (zPc D cI cZ [.int (iI x), .int (iI y)] ([]) sz0) (zQi D cI cZ ([]) sz0 (fun (r : Int) (u : Unit) => r = x % y) (fun (u : Unit) => [])) 0 0 (va_A ([]) sz0) := by
  have hb := tmod_b (x := x) hy (by omega)
  have hc := Int.emod_nonneg x (show y ≠ 0 by omega)
  have he := Int.emod_lt_of_pos x hy
  refine z_ofI (maxL := 3) (by decide +kernel) rfl (Nat.le_of_ble_eq_true rfl) (Or.inl rfl) ?_
  intro p e s m below meth c A ls Q F hK hW hA hl hret
  have hl : lv_has ls 3 [(0, .int (iI x)), (1, .int (iI y))] := hl
  refine z_iloadn F (pc := 0) dJ9_floorMod_7cf53_0 rfl (lv_at hl 0 rfl) ?_
  refine z_iloadn F (pc := 1) dJ9_floorMod_7cf53_1 rfl (lv_at hl 1 rfl) ?_
  refine z_irem F (pc := 2) dJ9_floorMod_7cf53_2 (by omega) ?_
  refine z_istoren F (pc := 3) hl (lv' := [(2, .int (iI (Int.tmod x y))), (0, .int (iI x)), (1, .int (iI y))]) dJ9_floorMod_7cf53_3 rfl (by decide) rfl (fun ls hl => ?_)
  refine z_iloadn F (pc := 4) dJ9_floorMod_7cf53_4 rfl (lv_at hl 1 rfl) ?_
  refine z_iloadn F (pc := 5) dJ9_floorMod_7cf53_5 rfl (lv_at hl 2 rfl) ?_
  refine z_ixors F (pc := 6) dJ9_floorMod_7cf53_6 (by omega) (fun q_6 r_q_6 h_q_6 => ?_)
  refine z_if_ge F (pc := 7) 18 dJ9_floorMod_7cf53_7 (by decide) (by omega) (fun c_7 => ?_) (fun c_7 => ?_)
  · skip
    refine z_iloadn F (pc := 18) dJ9_floorMod_7cf53_18 rfl (lv_at hl 0 rfl) ?_
    exact hret _ _ _ _ (Int.tmod x y) () dJ9_floorMod_7cf53_19 (by first | omega | (rw [fm_2 hy (by omega) c_11]; omega)) (by exact fm_1 hy (Or.inl (by omega))) hW
  · skip
    refine z_iloadn F (pc := 10) dJ9_floorMod_7cf53_10 rfl (lv_at hl 0 rfl) ?_
    refine z_if_eq F (pc := 11) 18 dJ9_floorMod_7cf53_11 (by decide) (by omega) (fun c_11 => ?_) (fun c_11 => ?_)
    · skip
      refine z_iloadn F (pc := 18) dJ9_floorMod_7cf53_18 rfl (lv_at hl 0 rfl) ?_
      exact hret _ _ _ _ (Int.tmod x y) () dJ9_floorMod_7cf53_19 (by first | omega | (rw [fm_2 hy (by omega) c_11]; omega)) (by exact fm_1 hy (Or.inr c_11)) hW
    · skip
      refine z_iloadn F (pc := 14) dJ9_floorMod_7cf53_14 rfl (lv_at hl 0 rfl) ?_
      refine z_iloadn F (pc := 15) dJ9_floorMod_7cf53_15 rfl (lv_at hl 2 rfl) ?_
      refine z_iadd F (pc := 16) dJ9_floorMod_7cf53_16 ?_
      exact hret _ _ _ _ ((Int.tmod x y) + y) () dJ9_floorMod_7cf53_17 (by first | omega | (rw [fm_2 hy (by omega) c_11]; omega)) (by exact fm_2 hy (by omega) c_11) hW

set_option maxHeartbeats 4000000 in
set_option maxRecDepth 100000 in
theorem c_X7_isWithin (l : Launch) (D : va_G) (cI cZ : ClassId) (v g : Int) (sz0 : Nat) (r_v : (-2147483648 ≤ v ∧ v < 2147483648)) (r_g : (-2147483648 ≤ g ∧ g < 2147483648)) : Met l yX7_isWithin wsX7_isWithin ({ frames := 0, cells := 0, slots := 0, locals := 0 } : Room) (zPc D cI cZ [.int (iI v), .int (iI g)] ([]) sz0) (zQi D cI cZ ([]) sz0 (fun (r : Int) (u : Unit) => zB r (0 ≤ v ∧ v ≤ g)) (fun (u : Unit) => [])) 0 0 (va_A ([]) sz0) := by
  refine z_ofI (maxL := 2) (plainFor_of_name (by decide)) rfl (Nat.le_of_ble_eq_true rfl) (Or.inr ⟨rfl, fun z u h => zB_01 h⟩) ?_
  intro p e s m below meth c A ls Q F hK hW hA hl hret
  have hl : lv_has ls 2 [(0, .int (iI v)), (1, .int (iI g))] := hl
  refine z_iloadn F (pc := 0) dX7_isWithin_0 rfl (lv_at hl 0 rfl) ?_
  refine z_if_lt F (pc := 1) 13 dX7_isWithin_1 (by decide) (by omega) (fun c_1 => ?_) (fun c_1 => ?_)
  · skip
    refine z_iconst F (pc := 13) (0) dX7_isWithin_13 ?_
    exact hret _ _ _ _ 0 () dX7_isWithin_14 (by omega) (by first | exact zB_1 (by omega) | exact zB_0 (by omega)) hW
  · skip
    refine z_iloadn F (pc := 4) dX7_isWithin_4 rfl (lv_at hl 0 rfl) ?_
    refine z_iloadn F (pc := 5) dX7_isWithin_5 rfl (lv_at hl 1 rfl) ?_
    refine z_icmp_gt F (pc := 6) 13 dX7_isWithin_6 (by decide) (by omega) (fun c_6 => ?_) (fun c_6 => ?_)
    · skip
      refine z_iconst F (pc := 13) (0) dX7_isWithin_13 ?_
      exact hret _ _ _ _ 0 () dX7_isWithin_14 (by omega) (by first | exact zB_1 (by omega) | exact zB_0 (by omega)) hW
    · skip
      refine z_iconst F (pc := 9) (1) dX7_isWithin_9 ?_
      refine z_goto F (pc := 10) 14 dX7_isWithin_10 (by decide) ?_
      exact hret _ _ _ _ 1 () dX7_isWithin_14 (by omega) (by first | exact zB_1 (by omega) | exact zB_0 (by omega)) hW

set_option maxHeartbeats 4000000 in
set_option maxRecDepth 100000 in
theorem c_X2_add (l : Launch) (D : va_G) (cI cZ : ClassId) (aD : Nat → Nat) (xs ys lf ev nm : Int → Int) (sz : Int) (x y li : Int) (sz0 : Nat) (r_x : (-2147483648 ≤ x ∧ x < 2147483648)) (r_y : (-2147483648 ≤ y ∧ y < 2147483648)) (r_li : (-2147483648 ≤ li ∧ li < 2147483648)) (hd : 0 ≤ sz ∧ sz ≤ 30) (hli : li = 0 ∨ li = 1) : Met l yX2_add wsX2_add ({ frames := 0, cells := 0, slots := 0, locals := 0 } : Room) (zPc D cI cZ [.ref (aD 0), .int (iI x), .int (iI y), .int (iI li)] (wD cI cZ aD xs ys lf ev nm sz) sz0) (zQi D cI cZ (wD cI cZ aD xs ys lf ev nm sz) sz0 (fun (r : Int) (u : (Int → Int) × (Int → Int) × (Int → Int) × (Int)) => addP xs ys lf sz x y li u.1 u.2.1 u.2.2.1 u.2.2.2 r) (fun (u : (Int → Int) × (Int → Int) × (Int → Int) × (Int)) => wD cI cZ aD u.1 u.2.1 u.2.2.1 ev nm u.2.2.2)) 0 0 (va_A (wD cI cZ aD xs ys lf ev nm sz) sz0) := by
  refine z_ofI (maxL := 4) (plainFor_of_name (by decide)) rfl (Nat.le_of_ble_eq_true rfl) (Or.inl rfl) ?_
  intro p e s m below meth c A ls Q F hK hW hA hl hret
  have hl : lv_has ls 4 [(0, .ref (aD 0)), (1, .int (iI x)), (2, .int (iI y)), (3, .int (iI li))] := hl
  have inX2 : ∀ w ∈ u_ws RX2 TX2 6, w ∈ wsX2_add := fun _ h => List.mem_cons_of_mem _ (List.mem_append_right _ h)
  refine z_iloadn F (pc := 0) dX2_add_0 rfl (lv_at hl 1 rfl) ?_
  refine z_bipush F (pc := 1) (-100) (by decide +kernel) dX2_add_1 ?_
  refine z_icmp_lt F (pc := 3) 24 dX2_add_3 (by decide) (by omega) (fun c_3 => ?_) (fun c_3 => ?_)
  · skip
    refine z_iconst F (pc := 24) (-1) dX2_add_24 ?_
    exact hret _ _ _ _ (-1) (xs, ys, lf, sz) dX2_add_25 (by omega) (by (try dsimp only) <;> (unfold addP; first | (left; refine ⟨by omega, rfl, rfl, rfl, rfl, rfl⟩) | (right; left; refine ⟨by omega, by omega, rfl, rfl, rfl, rfl, rfl⟩) | (right; right; refine ⟨by omega, by omega, rfl, rfl, rfl, ?_, rfl⟩; first | (rw [if_pos (by omega)]) | (rw [if_neg (by omega)])))) hW
  · skip
    refine z_iloadn F (pc := 6) dX2_add_6 rfl (lv_at hl 1 rfl) ?_
    refine z_bipush F (pc := 7) (100) (by decide +kernel) dX2_add_7 ?_
    refine z_icmp_gt F (pc := 9) 24 dX2_add_9 (by decide) (by omega) (fun c_9 => ?_) (fun c_9 => ?_)
    · skip
      refine z_iconst F (pc := 24) (-1) dX2_add_24 ?_
      exact hret _ _ _ _ (-1) (xs, ys, lf, sz) dX2_add_25 (by omega) (by (try dsimp only) <;> (unfold addP; first | (left; refine ⟨by omega, rfl, rfl, rfl, rfl, rfl⟩) | (right; left; refine ⟨by omega, by omega, rfl, rfl, rfl, rfl, rfl⟩) | (right; right; refine ⟨by omega, by omega, rfl, rfl, rfl, ?_, rfl⟩; first | (rw [if_pos (by omega)]) | (rw [if_neg (by omega)])))) hW
    · skip
      refine z_iloadn F (pc := 12) dX2_add_12 rfl (lv_at hl 2 rfl) ?_
      refine z_bipush F (pc := 13) (-100) (by decide +kernel) dX2_add_13 ?_
      refine z_icmp_lt F (pc := 15) 24 dX2_add_15 (by decide) (by omega) (fun c_15 => ?_) (fun c_15 => ?_)
      · skip
        refine z_iconst F (pc := 24) (-1) dX2_add_24 ?_
        exact hret _ _ _ _ (-1) (xs, ys, lf, sz) dX2_add_25 (by omega) (by (try dsimp only) <;> (unfold addP; first | (left; refine ⟨by omega, rfl, rfl, rfl, rfl, rfl⟩) | (right; left; refine ⟨by omega, by omega, rfl, rfl, rfl, rfl, rfl⟩) | (right; right; refine ⟨by omega, by omega, rfl, rfl, rfl, ?_, rfl⟩; first | (rw [if_pos (by omega)]) | (rw [if_neg (by omega)])))) hW
      · skip
        refine z_iloadn F (pc := 18) dX2_add_18 rfl (lv_at hl 2 rfl) ?_
        refine z_bipush F (pc := 19) (100) (by decide +kernel) dX2_add_19 ?_
        refine z_icmp_le F (pc := 21) 26 dX2_add_21 (by decide) (by omega) (fun c_21 => ?_) (fun c_21 => ?_)
        · skip
          refine z_aloadn F (pc := 26) dX2_add_26 rfl (lv_at hl 0 rfl) ?_
          refine z_get F (pc := 27) (C := RX2) (T := TX2) (N := 6) (ci := 2) inX2 hK hW 0 5 rfl rfl (by decide) rfl (List.mem_of_getElem? (i := 1) rfl) (v := .int (iI sz)) rfl dX2_add_27 ?_
          refine z_bipush F (pc := 30) (30) (by decide +kernel) dX2_add_30 ?_
          refine z_icmp_lt F (pc := 32) 38 dX2_add_32 (by decide) (by omega) (fun c_32 => ?_) (fun c_32 => ?_)
          · skip
            refine z_aloadn F (pc := 38) dX2_add_38 rfl (lv_at hl 0 rfl) ?_
            refine z_get F (pc := 39) (C := RX2) (T := TX2) (N := 6) (ci := 2) inX2 hK hW 0 0 rfl rfl (by decide) rfl (List.mem_of_getElem? (i := 2) rfl) (v := .ref (aD 1)) rfl dX2_add_39 ?_
            refine z_aloadn F (pc := 42) dX2_add_42 rfl (lv_at hl 0 rfl) ?_
            refine z_get F (pc := 43) (C := RX2) (T := TX2) (N := 6) (ci := 2) inX2 hK hW 0 5 rfl rfl (by decide) rfl (List.mem_of_getElem? (i := 1) rfl) (v := .int (iI sz)) rfl dX2_add_43 ?_
            refine z_iloadn F (pc := 46) dX2_add_46 rfl (lv_at hl 1 rfl) ?_
            refine z_iast F (pc := 47) hK hW (ws' := wD cI cZ aD (zU xs sz x) ys lf ev nm sz) 1 rfl (by decide) dX2_add_47 (by omega) rfl (fun H locs hW => ?_)
            refine z_aloadn F (pc := 48) dX2_add_48 rfl (lv_at hl 0 rfl) ?_
            refine z_get F (pc := 49) (C := RX2) (T := TX2) (N := 6) (ci := 2) inX2 hK hW 0 1 rfl rfl (by decide) rfl (List.mem_of_getElem? (i := 3) rfl) (v := .ref (aD 2)) rfl dX2_add_49 ?_
            refine z_aloadn F (pc := 52) dX2_add_52 rfl (lv_at hl 0 rfl) ?_
            refine z_get F (pc := 53) (C := RX2) (T := TX2) (N := 6) (ci := 2) inX2 hK hW 0 5 rfl rfl (by decide) rfl (List.mem_of_getElem? (i := 1) rfl) (v := .int (iI sz)) rfl dX2_add_53 ?_
            refine z_iloadn F (pc := 56) dX2_add_56 rfl (lv_at hl 2 rfl) ?_
            refine z_iast F (pc := 57) hK hW (ws' := wD cI cZ aD (zU xs sz x) (zU ys sz y) lf ev nm sz) 2 rfl (by decide) dX2_add_57 (by omega) rfl (fun H locs hW => ?_)
            refine z_aloadn F (pc := 58) dX2_add_58 rfl (lv_at hl 0 rfl) ?_
            refine z_get F (pc := 59) (C := RX2) (T := TX2) (N := 6) (ci := 2) inX2 hK hW 0 2 rfl rfl (by decide) rfl (List.mem_of_getElem? (i := 4) rfl) (v := .ref (aD 3)) rfl dX2_add_59 ?_
            refine z_aloadn F (pc := 62) dX2_add_62 rfl (lv_at hl 0 rfl) ?_
            refine z_get F (pc := 63) (C := RX2) (T := TX2) (N := 6) (ci := 2) inX2 hK hW 0 5 rfl rfl (by decide) rfl (List.mem_of_getElem? (i := 1) rfl) (v := .int (iI sz)) rfl dX2_add_63 ?_
            refine z_iloadn F (pc := 66) dX2_add_66 rfl (lv_at hl 3 rfl) ?_
            refine z_if_eq F (pc := 67) 81 dX2_add_67 (by decide) (by omega) (fun c_67 => ?_) (fun c_67 => ?_)
            · skip
              refine z_iconst F (pc := 81) (0) dX2_add_81 ?_
              refine z_zast F (pc := 82) hK hW (ws' := wD cI cZ aD (zU xs sz x) (zU ys sz y) (zU lf sz 0) ev nm sz) 3 rfl (by decide) dX2_add_82 (by omega) (by omega) rfl (fun H locs hW => ?_)
              refine z_aloadn F (pc := 83) dX2_add_83 rfl (lv_at hl 0 rfl) ?_
              refine z_dup F (pc := 84) dX2_add_84 rfl ?_
              refine z_get F (pc := 85) (C := RX2) (T := TX2) (N := 6) (ci := 2) inX2 hK hW 0 5 rfl rfl (by decide) rfl (List.mem_of_getElem? (i := 1) rfl) (v := .int (iI sz)) rfl dX2_add_85 ?_
              refine z_iconst F (pc := 88) (1) dX2_add_88 ?_
              refine z_iadd F (pc := 89) dX2_add_89 ?_
              refine z_put F (pc := 90) (C := RX2) (T := TX2) (N := 6) (ci := 2) inX2 tyX2 tyX2_ok nmX2 hK hW (ws' := wD cI cZ aD (zU xs sz x) (zU ys sz y) (zU lf sz 0) ev nm (sz + 1)) 0 5 rfl rfl (by decide) rfl (List.mem_of_getElem? (i := 1) rfl) rfl rfl (Nat.le_of_ble_eq_true rfl) dX2_add_90 rfl (fun H locs hW => ?_)
              refine z_aloadn F (pc := 93) dX2_add_93 rfl (lv_at hl 0 rfl) ?_
              refine z_get F (pc := 94) (C := RX2) (T := TX2) (N := 6) (ci := 2) inX2 hK hW 0 5 rfl rfl (by decide) rfl (List.mem_of_getElem? (i := 1) rfl) (v := .int (iI (sz + 1))) rfl dX2_add_94 ?_
              exact hret _ _ _ _ (sz + 1) ((zU xs sz x), (zU ys sz y), (zU lf sz 0), (sz + 1)) dX2_add_97 (by omega) (by (try dsimp only) <;> (unfold addP; first | (left; refine ⟨by omega, rfl, rfl, rfl, rfl, rfl⟩) | (right; left; refine ⟨by omega, by omega, rfl, rfl, rfl, rfl, rfl⟩) | (right; right; refine ⟨by omega, by omega, rfl, rfl, rfl, ?_, rfl⟩; first | (rw [if_pos (by omega)]) | (rw [if_neg (by omega)])))) hW
            · skip
              refine z_aloadn F (pc := 70) dX2_add_70 rfl (lv_at hl 0 rfl) ?_
              refine z_get F (pc := 71) (C := RX2) (T := TX2) (N := 6) (ci := 2) inX2 hK hW 0 5 rfl rfl (by decide) rfl (List.mem_of_getElem? (i := 1) rfl) (v := .int (iI sz)) rfl dX2_add_71 ?_
              refine z_if_le F (pc := 74) 81 dX2_add_74 (by decide) (by omega) (fun c_74 => ?_) (fun c_74 => ?_)
              · skip
                refine z_iconst F (pc := 81) (0) dX2_add_81 ?_
                refine z_zast F (pc := 82) hK hW (ws' := wD cI cZ aD (zU xs sz x) (zU ys sz y) (zU lf sz 0) ev nm sz) 3 rfl (by decide) dX2_add_82 (by omega) (by omega) rfl (fun H locs hW => ?_)
                refine z_aloadn F (pc := 83) dX2_add_83 rfl (lv_at hl 0 rfl) ?_
                refine z_dup F (pc := 84) dX2_add_84 rfl ?_
                refine z_get F (pc := 85) (C := RX2) (T := TX2) (N := 6) (ci := 2) inX2 hK hW 0 5 rfl rfl (by decide) rfl (List.mem_of_getElem? (i := 1) rfl) (v := .int (iI sz)) rfl dX2_add_85 ?_
                refine z_iconst F (pc := 88) (1) dX2_add_88 ?_
                refine z_iadd F (pc := 89) dX2_add_89 ?_
                refine z_put F (pc := 90) (C := RX2) (T := TX2) (N := 6) (ci := 2) inX2 tyX2 tyX2_ok nmX2 hK hW (ws' := wD cI cZ aD (zU xs sz x) (zU ys sz y) (zU lf sz 0) ev nm (sz + 1)) 0 5 rfl rfl (by decide) rfl (List.mem_of_getElem? (i := 1) rfl) rfl rfl (Nat.le_of_ble_eq_true rfl) dX2_add_90 rfl (fun H locs hW => ?_)
                refine z_aloadn F (pc := 93) dX2_add_93 rfl (lv_at hl 0 rfl) ?_
                refine z_get F (pc := 94) (C := RX2) (T := TX2) (N := 6) (ci := 2) inX2 hK hW 0 5 rfl rfl (by decide) rfl (List.mem_of_getElem? (i := 1) rfl) (v := .int (iI (sz + 1))) rfl dX2_add_94 ?_
                exact hret _ _ _ _ (sz + 1) ((zU xs sz x), (zU ys sz y), (zU lf sz 0), (sz + 1)) dX2_add_97 (by omega) (by (try dsimp only) <;> (unfold addP; first | (left; refine ⟨by omega, rfl, rfl, rfl, rfl, rfl⟩) | (right; left; refine ⟨by omega, by omega, rfl, rfl, rfl, rfl, rfl⟩) | (right; right; refine ⟨by omega, by omega, rfl, rfl, rfl, ?_, rfl⟩; first | (rw [if_pos (by omega)]) | (rw [if_neg (by omega)])))) hW
              · skip
                refine z_iconst F (pc := 77) (1) dX2_add_77 ?_
                refine z_goto F (pc := 78) 82 dX2_add_78 (by decide) ?_
                refine z_zast F (pc := 82) hK hW (ws' := wD cI cZ aD (zU xs sz x) (zU ys sz y) (zU lf sz 1) ev nm sz) 3 rfl (by decide) dX2_add_82 (by omega) (by omega) rfl (fun H locs hW => ?_)
                refine z_aloadn F (pc := 83) dX2_add_83 rfl (lv_at hl 0 rfl) ?_
                refine z_dup F (pc := 84) dX2_add_84 rfl ?_
                refine z_get F (pc := 85) (C := RX2) (T := TX2) (N := 6) (ci := 2) inX2 hK hW 0 5 rfl rfl (by decide) rfl (List.mem_of_getElem? (i := 1) rfl) (v := .int (iI sz)) rfl dX2_add_85 ?_
                refine z_iconst F (pc := 88) (1) dX2_add_88 ?_
                refine z_iadd F (pc := 89) dX2_add_89 ?_
                refine z_put F (pc := 90) (C := RX2) (T := TX2) (N := 6) (ci := 2) inX2 tyX2 tyX2_ok nmX2 hK hW (ws' := wD cI cZ aD (zU xs sz x) (zU ys sz y) (zU lf sz 1) ev nm (sz + 1)) 0 5 rfl rfl (by decide) rfl (List.mem_of_getElem? (i := 1) rfl) rfl rfl (Nat.le_of_ble_eq_true rfl) dX2_add_90 rfl (fun H locs hW => ?_)
                refine z_aloadn F (pc := 93) dX2_add_93 rfl (lv_at hl 0 rfl) ?_
                refine z_get F (pc := 94) (C := RX2) (T := TX2) (N := 6) (ci := 2) inX2 hK hW 0 5 rfl rfl (by decide) rfl (List.mem_of_getElem? (i := 1) rfl) (v := .int (iI (sz + 1))) rfl dX2_add_94 ?_
                exact hret _ _ _ _ (sz + 1) ((zU xs sz x), (zU ys sz y), (zU lf sz 1), (sz + 1)) dX2_add_97 (by omega) (by (try dsimp only) <;> (unfold addP; first | (left; refine ⟨by omega, rfl, rfl, rfl, rfl, rfl⟩) | (right; left; refine ⟨by omega, by omega, rfl, rfl, rfl, rfl, rfl⟩) | (right; right; refine ⟨by omega, by omega, rfl, rfl, rfl, ?_, rfl⟩; first | (rw [if_pos (by omega)]) | (rw [if_neg (by omega)])))) hW
          · skip
            refine z_bipush F (pc := 35) (-3) (by decide +kernel) dX2_add_35 ?_
            exact hret _ _ _ _ (-3) (xs, ys, lf, sz) dX2_add_37 (by omega) (by (try dsimp only) <;> (unfold addP; first | (left; refine ⟨by omega, rfl, rfl, rfl, rfl, rfl⟩) | (right; left; refine ⟨by omega, by omega, rfl, rfl, rfl, rfl, rfl⟩) | (right; right; refine ⟨by omega, by omega, rfl, rfl, rfl, ?_, rfl⟩; first | (rw [if_pos (by omega)]) | (rw [if_neg (by omega)])))) hW
        · skip
          refine z_iconst F (pc := 24) (-1) dX2_add_24 ?_
          exact hret _ _ _ _ (-1) (xs, ys, lf, sz) dX2_add_25 (by omega) (by (try dsimp only) <;> (unfold addP; first | (left; refine ⟨by omega, rfl, rfl, rfl, rfl, rfl⟩) | (right; left; refine ⟨by omega, by omega, rfl, rfl, rfl, rfl, rfl⟩) | (right; right; refine ⟨by omega, by omega, rfl, rfl, rfl, ?_, rfl⟩; first | (rw [if_pos (by omega)]) | (rw [if_neg (by omega)])))) hW

set_option maxHeartbeats 4000000 in
set_option maxRecDepth 100000 in
theorem c_X2_empty (l : Launch) (D : va_G) (cI cZ : ClassId) (aD : Nat → Nat) (xs ys lf ev nm : Int → Int) (sz : Int) (sz0 : Nat) (hd : 0 ≤ sz ∧ sz ≤ 30) : Met l yX2_empty wsX2_empty ({ frames := 0, cells := 0, slots := 0, locals := 0 } : Room) (zPc D cI cZ [.ref (aD 0)] (wD cI cZ aD xs ys lf ev nm sz) sz0) (zQi D cI cZ (wD cI cZ aD xs ys lf ev nm sz) sz0 (fun (r : Int) (u : (Int)) => (r = sz) ∧ (u = 0)) (fun (u : (Int)) => wD cI cZ aD xs ys lf ev nm u)) 0 0 (va_A (wD cI cZ aD xs ys lf ev nm sz) sz0) := by
  refine z_ofI (maxL := 2) (plainFor_of_name (by decide)) rfl (Nat.le_of_ble_eq_true rfl) (Or.inl rfl) ?_
  intro p e s m below meth c A ls Q F hK hW hA hl hret
  have hl : lv_has ls 2 [(0, .ref (aD 0))] := hl
  have inX2 : ∀ w ∈ u_ws RX2 TX2 6, w ∈ wsX2_empty := fun _ h => List.mem_cons_of_mem _ (List.mem_append_right _ h)
  refine z_aloadn F (pc := 0) dX2_empty_0 rfl (lv_at hl 0 rfl) ?_
  refine z_get F (pc := 1) (C := RX2) (T := TX2) (N := 6) (ci := 2) inX2 hK hW 0 5 rfl rfl (by decide) rfl (List.mem_of_getElem? (i := 1) rfl) (v := .int (iI sz)) rfl dX2_empty_1 ?_
  refine z_istoren F (pc := 4) hl (lv' := [(1, .int (iI sz)), (0, .ref (aD 0))]) dX2_empty_4 rfl (by decide) rfl (fun ls hl => ?_)
  refine z_aloadn F (pc := 5) dX2_empty_5 rfl (lv_at hl 1 rfl) ?_
  refine z_iconst F (pc := 6) (0) dX2_empty_6 ?_
  refine z_put F (pc := 7) (C := RX2) (T := TX2) (N := 6) (ci := 2) inX2 tyX2 tyX2_ok nmX2 hK hW (ws' := wD cI cZ aD xs ys lf ev nm 0) 0 5 rfl rfl (by decide) rfl (List.mem_of_getElem? (i := 1) rfl) rfl rfl (Nat.le_of_ble_eq_true rfl) dX2_empty_7 rfl (fun H locs hW => ?_)
  refine z_iloadn F (pc := 10) dX2_empty_10 rfl (lv_at hl 0 rfl) ?_
  exact hret _ _ _ _ sz 0 dX2_empty_11 (by omega) (by exact ⟨rfl, rfl⟩) hW

set_option maxHeartbeats 4000000 in
set_option maxRecDepth 100000 in
theorem c_X2_cutTo (l : Launch) (D : va_G) (cI cZ : ClassId) (aD : Nat → Nat) (xs ys lf ev nm : Int → Int) (sz : Int) (mm : Int) (sz0 : Nat) (r_mm : (-2147483648 ≤ mm ∧ mm < 2147483648)) : Met l yX2_cutTo wsX2_cutTo ({ frames := 0, cells := 0, slots := 0, locals := 0 } : Room) (zPc D cI cZ [.ref (aD 0), .int (iI mm)] (wD cI cZ aD xs ys lf ev nm sz) sz0) (zQv D cI cZ (wD cI cZ aD xs ys lf ev nm sz) sz0 (fun (u : (Int)) => u = mm) (fun (u : (Int)) => wD cI cZ aD xs ys lf ev nm u)) 0 0 (va_A (wD cI cZ aD xs ys lf ev nm sz) sz0) := by
  refine z_ofV (maxL := 2) (plainFor_of_name (by decide)) rfl (Nat.le_of_ble_eq_true rfl) ?_
  intro p e s m below meth c A ls Q F hK hW hA hl hret
  have hl : lv_has ls 2 [(0, .ref (aD 0)), (1, .int (iI mm))] := hl
  have inX2 : ∀ w ∈ u_ws RX2 TX2 6, w ∈ wsX2_cutTo := fun _ h => List.mem_cons_of_mem _ (List.mem_append_right _ h)
  refine z_aloadn F (pc := 0) dX2_cutTo_0 rfl (lv_at hl 0 rfl) ?_
  refine z_iloadn F (pc := 1) dX2_cutTo_1 rfl (lv_at hl 1 rfl) ?_
  refine z_put F (pc := 2) (C := RX2) (T := TX2) (N := 6) (ci := 2) inX2 tyX2 tyX2_ok nmX2 hK hW (ws' := wD cI cZ aD xs ys lf ev nm mm) 0 5 rfl rfl (by decide) rfl (List.mem_of_getElem? (i := 1) rfl) rfl rfl (Nat.le_of_ble_eq_true rfl) dX2_cutTo_2 rfl (fun H locs hW => ?_)
  exact hret _ _ _ _ mm dX2_cutTo_5 (by rfl) hW

set_option maxHeartbeats 4000000 in
set_option maxRecDepth 100000 in
theorem c_X2_drawnTo (l : Launch) (D : va_G) (cI cZ : ClassId) (aD : Nat → Nat) (xs ys lf ev nm : Int → Int) (sz : Int) (q : Int) (sz0 : Nat) (r_q : (-2147483648 ≤ q ∧ q < 2147483648)) (hd : Dok xs ys lf sz) (hq : 1 ≤ q ∧ q < sz) : Met l yX2_drawnTo wsX2_drawnTo ({ frames := 1, cells := 0, slots := 0, locals := 21 } : Room) (zPc D cI cZ [.ref (aD 0), .int (iI q)] (wD cI cZ aD xs ys lf ev nm sz) sz0) (zQi D cI cZ (wD cI cZ aD xs ys lf ev nm sz) sz0 (fun (r : Int) (u : Unit) => r = dr xs ys lf q) (fun (u : Unit) => wD cI cZ aD xs ys lf ev nm sz)) 0 0 (va_A (wD cI cZ aD xs ys lf ev nm sz) sz0) := by
  have ha := Dok_at hd (j := q) (by omega) hq.2
  have hb := Dok_at hd (j := q - 1) (by omega) (by omega)
  have hs := hd.1
  have hr := dr_rng hd hq.1 hq.2
  refine z_ofI (maxL := 2) (plainFor_of_name (by decide)) rfl (Nat.le_of_ble_eq_true rfl) (Or.inl rfl) ?_
  intro p e s m below meth c A ls Q F hK hW hA hl hret
  have hl : lv_has ls 2 [(0, .ref (aD 0)), (1, .int (iI q))] := hl
  have inX2 : ∀ w ∈ u_ws RX2 TX2 6, w ∈ wsX2_drawnTo := fun _ h => List.mem_cons_of_mem _ (List.mem_append_right _ h)
  refine z_aloadn F (pc := 0) dX2_drawnTo_0 rfl (lv_at hl 0 rfl) ?_
  refine z_get F (pc := 1) (C := RX2) (T := TX2) (N := 6) (ci := 2) inX2 hK hW 0 2 rfl rfl (by decide) rfl (List.mem_of_getElem? (i := 1) rfl) (v := .ref (aD 3)) rfl dX2_drawnTo_1 ?_
  refine z_iloadn F (pc := 4) dX2_drawnTo_4 rfl (lv_at hl 1 rfl) ?_
  refine z_zald F (pc := 5) hK hW 3 rfl (by decide) dX2_drawnTo_5 (by omega) ?_
  refine z_if_eq F (pc := 6) 11 dX2_drawnTo_6 (by decide) (by omega) (fun c_6 => ?_) (fun c_6 => ?_)
  · skip
    refine z_aloadn F (pc := 11) dX2_drawnTo_11 rfl (lv_at hl 0 rfl) ?_
    refine z_get F (pc := 12) (C := RX2) (T := TX2) (N := 6) (ci := 2) inX2 hK hW 0 0 rfl rfl (by decide) rfl (List.mem_of_getElem? (i := 2) rfl) (v := .ref (aD 1)) rfl dX2_drawnTo_12 ?_
    refine z_iloadn F (pc := 15) dX2_drawnTo_15 rfl (lv_at hl 1 rfl) ?_
    refine z_iald F (pc := 16) hK hW 1 rfl (by decide) dX2_drawnTo_16 (by omega) ?_
    refine z_aloadn F (pc := 17) dX2_drawnTo_17 rfl (lv_at hl 0 rfl) ?_
    refine z_get F (pc := 18) (C := RX2) (T := TX2) (N := 6) (ci := 2) inX2 hK hW 0 0 rfl rfl (by decide) rfl (List.mem_of_getElem? (i := 2) rfl) (v := .ref (aD 1)) rfl dX2_drawnTo_18 ?_
    refine z_iloadn F (pc := 21) dX2_drawnTo_21 rfl (lv_at hl 1 rfl) ?_
    refine z_iconst F (pc := 22) (1) dX2_drawnTo_22 ?_
    refine z_isub F (pc := 23) dX2_drawnTo_23 ?_
    refine z_iald F (pc := 24) hK hW 1 rfl (by decide) dX2_drawnTo_24 (by omega) ?_
    refine z_isub F (pc := 25) dX2_drawnTo_25 ?_
    refine z_mabs F (pc := 26) hl.1 (List.mem_of_getElem? (i := 3) rfl) (List.mem_of_getElem? (i := 4) rfl) (List.mem_of_getElem? (i := 5) rfl) (List.mem_of_getElem? (i := 6) rfl) (Nat.le_of_ble_eq_true rfl) (Nat.le_of_ble_eq_true rfl) (Nat.le_of_ble_eq_true rfl) (Nat.le_of_ble_eq_true rfl) dX2_drawnTo_26 (by omega) ?_
    refine z_aloadn F (pc := 29) dX2_drawnTo_29 rfl (lv_at hl 0 rfl) ?_
    refine z_get F (pc := 30) (C := RX2) (T := TX2) (N := 6) (ci := 2) inX2 hK hW 0 1 rfl rfl (by decide) rfl (List.mem_of_getElem? (i := 7) rfl) (v := .ref (aD 2)) rfl dX2_drawnTo_30 ?_
    refine z_iloadn F (pc := 33) dX2_drawnTo_33 rfl (lv_at hl 1 rfl) ?_
    refine z_iald F (pc := 34) hK hW 2 rfl (by decide) dX2_drawnTo_34 (by omega) ?_
    refine z_aloadn F (pc := 35) dX2_drawnTo_35 rfl (lv_at hl 0 rfl) ?_
    refine z_get F (pc := 36) (C := RX2) (T := TX2) (N := 6) (ci := 2) inX2 hK hW 0 1 rfl rfl (by decide) rfl (List.mem_of_getElem? (i := 7) rfl) (v := .ref (aD 2)) rfl dX2_drawnTo_36 ?_
    refine z_iloadn F (pc := 39) dX2_drawnTo_39 rfl (lv_at hl 1 rfl) ?_
    refine z_iconst F (pc := 40) (1) dX2_drawnTo_40 ?_
    refine z_isub F (pc := 41) dX2_drawnTo_41 ?_
    refine z_iald F (pc := 42) hK hW 2 rfl (by decide) dX2_drawnTo_42 (by omega) ?_
    refine z_isub F (pc := 43) dX2_drawnTo_43 ?_
    refine z_mabs F (pc := 44) hl.1 (List.mem_of_getElem? (i := 3) rfl) (List.mem_of_getElem? (i := 4) rfl) (List.mem_of_getElem? (i := 5) rfl) (List.mem_of_getElem? (i := 6) rfl) (Nat.le_of_ble_eq_true rfl) (Nat.le_of_ble_eq_true rfl) (Nat.le_of_ble_eq_true rfl) (Nat.le_of_ble_eq_true rfl) dX2_drawnTo_44 (by omega) ?_
    refine z_iadd F (pc := 47) dX2_drawnTo_47 ?_
    exact hret _ _ _ _ ((((xs q) - (xs (q - 1))).natAbs : Int) + (((ys q) - (ys (q - 1))).natAbs : Int)) () dX2_drawnTo_48 (by omega) (by unfold dr; rw [if_pos (by omega)]) hW
  · skip
    refine z_iconst F (pc := 9) (0) dX2_drawnTo_9 ?_
    exact hret _ _ _ _ 0 () dX2_drawnTo_10 (by omega) (by unfold dr; rw [if_neg c_6]) hW

set_option maxHeartbeats 4000000 in
set_option maxRecDepth 100000 in
theorem c_X2_length (l : Launch) (D : va_G) (cI cZ : ClassId) (aD : Nat → Nat) (xs ys lf ev nm : Int → Int) (sz : Int) (sz0 : Nat) (hd : Dok xs ys lf sz) : Met l yX2_length wsX2_length ({ frames := 2, cells := 0, slots := 0, locals := 42 } : Room) (zPc D cI cZ [.ref (aD 0)] (wD cI cZ aD xs ys lf ev nm sz) sz0) (zQi D cI cZ (wD cI cZ aD xs ys lf ev nm sz) sz0 (fun (r : Int) (u : Unit) => r = wy xs ys lf sz) (fun (u : Unit) => wD cI cZ aD xs ys lf ev nm sz)) 0 0 (va_A (wD cI cZ aD xs ys lf ev nm sz) sz0) := by
  have hs := hd.1
  refine z_ofI (maxL := 3) (plainFor_of_name (by decide)) rfl (Nat.le_of_ble_eq_true rfl) (Or.inl rfl) ?_
  intro p e s m below meth c A ls Q F hK hW hA hl hret
  have hl : lv_has ls 3 [(0, .ref (aD 0))] := hl
  have inX2 : ∀ w ∈ u_ws RX2 TX2 6, w ∈ wsX2_length := fun _ h => List.mem_cons_of_mem _ (List.mem_append_right _ h)
  refine z_iconst F (pc := 0) (0) dX2_length_0 ?_
  refine z_istoren F (pc := 1) hl (lv' := [(1, .int (iI 0)), (0, .ref (aD 0))]) dX2_length_1 rfl (by decide) rfl (fun ls hl => ?_)
  refine z_iconst F (pc := 2) (1) dX2_length_2 ?_
  refine z_istoren F (pc := 3) hl (lv' := [(2, .int (iI 1)), (1, .int (iI 0)), (0, .ref (aD 0))]) dX2_length_3 rfl (by decide) rfl (fun ls hl => ?_)
  have cut_4 : ∀ (fuel : Nat) (sm : Int) (q : Int) (H : Heap) (locs : List Loc) (ls : Array Slot), (sz - q).toNat < fuel → (1 ≤ q ∧ (q ≤ sz ∨ q = 1)) → (sm = wy xs ys lf q) → lv_has ls 3 [(2, .int (iI q)), (1, .int (iI sm)), (0, .ref (aD 0))] → zW D A s.heap H locs (wD cI cZ aD xs ys lf ev nm sz) → W p l e ({ frames := 2, cells := 0, slots := 0, locals := 42 } : Room) s m ([.ref (aD 0)] : List Value).toArray below meth c H locs 0 0 Q (F0 m 4 ls []) := by
    intro fuel
    induction fuel with
    | zero => intro sm q H locs ls hm; exact absurd hm (Nat.not_lt_zero _)
    | succ fuel ih_4 =>
      intro sm q H locs ls hm_4 h1 h2 hl hW
      refine z_iloadn F (pc := 4) dX2_length_4 rfl (lv_at hl 0 rfl) ?_
      refine z_aloadn F (pc := 5) dX2_length_5 rfl (lv_at hl 2 rfl) ?_
      refine z_get F (pc := 6) (C := RX2) (T := TX2) (N := 6) (ci := 2) inX2 hK hW 0 5 rfl rfl (by decide) rfl (List.mem_of_getElem? (i := 1) rfl) (v := .int (iI sz)) rfl dX2_length_6 ?_
      refine z_icmp_ge F (pc := 9) 26 dX2_length_9 (by decide) (by omega) (fun c_9 => ?_) (fun c_9 => ?_)
      · skip
        have ex : sm = wy xs ys lf sz := by (by_cases hz : q = sz) <;> first | (rw [h2, hz]) | (rw [h2, wy_0 xs ys lf (by omega), wy_0 xs ys lf (by omega)])
        have hw := wy_r hd (q := sz) (Int.le_refl _)
        refine z_iloadn F (pc := 26) dX2_length_26 rfl (lv_at hl 1 rfl) ?_
        exact hret _ _ _ _ sm () dX2_length_27 (by omega) (by exact ex) hW
      · skip
        refine z_iloadn F (pc := 12) dX2_length_12 rfl (lv_at hl 1 rfl) ?_
        refine z_aloadn F (pc := 13) dX2_length_13 rfl (lv_at hl 2 rfl) ?_
        refine z_iloadn F (pc := 14) dX2_length_14 rfl (lv_at hl 0 rfl) ?_
        refine z_callVi F (pc := 15) hK hW hA (As := [.int (iI q)]) (rest := [.int (iI sm)]) (ws' := fun (u : Unit) => wD cI cZ aD xs ys lf ev nm sz) (wr := ([])) (c_X2_drawnTo l D cI cZ aD xs ys lf ev nm sz q _ (by omega) (by exact hd) (by omega)) (cwV 1 F.2.2.2.2 gX2_length_X2_drawnTo rfl rfl rfl (by decide +kernel) ⟨Nat.le_of_ble_eq_true rfl, Nat.le_of_ble_eq_true rfl⟩) [0, 1, 2, 3, 4, 5] [] [0, 1, 2, 3, 4, 5] rfl rfl (by decide) (by decide) (by decide) (fun _ => rfl) (by decide) (q0 := 0) (ci := 2) rfl rfl rfl rfl rfl hl.1 (Nat.le_of_ble_eq_true rfl) dX2_length_15 ⟨Nat.le_of_ble_eq_true rfl, Nat.le_of_ble_eq_true rfl⟩ (fun z_15 u H locs r_z_15 hp_15 hW => ?_)
        replace hp_15 := hp_15.symm
        subst hp_15
        refine z_iadd F (pc := 18) dX2_length_18 ?_
        refine z_istoren F (pc := 19) hl (lv' := [(1, .int (iI (sm + (dr xs ys lf q)))), (2, .int (iI q)), (0, .ref (aD 0))]) dX2_length_19 rfl (by decide) rfl (fun ls hl => ?_)
        refine z_iinc F (pc := 20) hl (lv' := [(2, .int (iI (q + 1))), (1, .int (iI (sm + (dr xs ys lf q)))), (0, .ref (aD 0))]) dX2_length_20 (k := 1) rfl (by decide) rfl (fun ls hl => ?_)
        refine z_goto F (pc := 23) 4 dX2_length_23 (by decide) ?_
        exact ih_4 (sm + (dr xs ys lf q)) (q + 1) _ _ _ (by omega) (by omega) (by rw [wy_s xs ys lf h1.1]; omega) (lv_sub hl [0, 1, 2] rfl) hW
  exact cut_4 _ 0 1 _ _ _ (Nat.lt_succ_self _) (by omega) (by exact (wy_0 xs ys lf (by omega)).symm) (lv_sub hl [0, 1, 2] rfl) hW
