def dz (xs ys lf : Int → Int) (q : Int) : Int := if q = 0 then 0 else dr xs ys lf q
theorem wy_z (xs ys lf : Int → Int) {q : Int} (h : 0 ≤ q) : wy xs ys lf (q + 1) = wy xs ys lf q + dz xs ys lf q := by
  unfold dz
  by_cases e : q = 0
  · subst e; rw [if_pos rfl, wy_0 xs ys lf (by omega), wy_0 xs ys lf (by omega)]; rfl
  · rw [if_neg e, wy_s xs ys lf (by omega)]
theorem dz_rng {xs ys lf : Int → Int} {sz q : Int} (h : Dok xs ys lf sz) (h1 : 0 ≤ q) (h2 : q < sz) : 0 ≤ dz xs ys lf q ∧ dz xs ys lf q ≤ 400 := by
  unfold dz
  by_cases e : q = 0
  · rw [if_pos e]; omega
  · rw [if_neg e]; exact dr_rng h (by omega) h2
theorem pw_l {fr to pa st : Int} (h1 : -100 ≤ fr ∧ fr ≤ 100) (h2 : -100 ≤ to ∧ to ≤ 100) (h3 : 0 ≤ pa ∧ pa ≤ st) (h4 : 0 < st ∧ st ≤ 2800) : -56000000 ≤ (to - fr) * (100 * pa) ∧ (to - fr) * (100 * pa) ≤ 56000000 := by
  rw [← Int.mul_assoc]
  exact (pw_b h1 h2 h3 h4).1
theorem tdiv_bL {x y : Int} (h : -9223372036854775808 < x ∧ x < 9223372036854775808) : -9223372036854775808 < x.tdiv y ∧ x.tdiv y < 9223372036854775808 := by
  have hab : (x.tdiv y).natAbs ≤ x.natAbs := by rw [Int.natAbs_tdiv]; exact Nat.div_le_self _ _
  omega
theorem tmod_bL {x y : Int} (hy : 0 < y) (h : y < 9223372036854775808) : -9223372036854775808 < x.tmod y ∧ x.tmod y < 9223372036854775808 := by
  have h1 := Int.tmod_lt_of_pos x hy
  have h2 := Int.lt_tmod_of_pos x hy
  omega
theorem dn_1 {x y : Int} (hy : 0 < y) (h : ¬ x.tmod y < 0) : x.tdiv y = x / y := by
  by_cases q : 0 ≤ x
  · exact fl_1 hy (Or.inl q)
  · refine fl_1 hy (Or.inr ?_)
    have h1 := Int.tmod_nonneg y (show 0 ≤ -x by omega)
    rw [Int.neg_tmod] at h1
    have h2 := Int.tmod_add_mul_tdiv x y
    rw [Int.mul_comm]
    omega
theorem dn_2 {x y : Int} (hy : 0 < y) (h : x.tmod y < 0) : x.tdiv y - 1 = x / y := by
  have hx : x < 0 := by
    by_cases q : 0 ≤ x
    · have := Int.tmod_nonneg y q
      omega
    · omega
  refine fl_2 hy hx (fun q => ?_)
  have h2 := Int.tmod_add_mul_tdiv x y
  rw [Int.mul_comm] at q
  omega

set_option maxHeartbeats 4000000 in
set_option maxRecDepth 100000 in
theorem c_X8_in (l : Launch) (D : va_G) (cI cZ : ClassId) (v lo hi : Int) (sz0 : Nat) (r_v : (-9223372036854775808 ≤ v ∧ v < 9223372036854775808)) (r_lo : (-9223372036854775808 ≤ lo ∧ lo < 9223372036854775808)) (r_hi : (-9223372036854775808 ≤ hi ∧ hi < 9223372036854775808)) : Met l yX8_in wsX8_in ({ frames := 0, cells := 0, slots := 0, locals := 0 } : Room) (zPc D cI cZ [.long (lI v), .long (lI lo), .long (lI hi)] ([]) sz0) (zQi D cI cZ ([]) sz0 (fun (r : Int) (u : Unit) => zB r (lo ≤ v ∧ v ≤ hi)) (fun (u : Unit) => [])) 0 0 (va_A ([]) sz0) := by
  refine z_ofI (maxL := 6) (plainFor_of_name (by decide)) rfl (Nat.le_of_ble_eq_true rfl) (Or.inr ⟨rfl, fun z u h => zB_01 h⟩) ?_
  intro p e s m below meth c A ls Q F hK hW hA hl hret
  have hl : lv_has ls 6 [(0, .long (lI v)), (2, .long (lI lo)), (4, .long (lI hi))] := hl
  refine z_lloadn F (pc := 0) dX8_in_0 rfl (lv_at hl 0 rfl) ?_
  refine z_lloadn F (pc := 1) dX8_in_1 rfl (lv_at hl 1 rfl) ?_
  refine z_lcmp F (pc := 2) dX8_in_2 (by omega) (fun q_2 l1_2 l2_2 l3_2 => ?_)
  refine z_if_lt F (pc := 3) 17 dX8_in_3 (by decide) (by omega) (fun c_3 => ?_) (fun c_3 => ?_)
  · have b_3 : v < lo := by omega
    clear l1_2 l2_2 l3_2 c_3
    refine z_iconst F (pc := 17) (0) dX8_in_17 ?_
    exact hret _ _ _ _ 0 () dX8_in_18 (by omega) (by first | exact zB_1 (by omega) | exact zB_0 (by omega)) hW
  · have b_3 : ¬ v < lo := by omega
    clear l1_2 l2_2 l3_2 c_3
    refine z_lloadn F (pc := 6) dX8_in_6 rfl (lv_at hl 0 rfl) ?_
    refine z_lload F (pc := 7) dX8_in_7 (lv_at hl 2 rfl) ?_
    refine z_lcmp F (pc := 9) dX8_in_9 (by omega) (fun q_9 l1_9 l2_9 l3_9 => ?_)
    refine z_if_gt F (pc := 10) 17 dX8_in_10 (by decide) (by omega) (fun c_10 => ?_) (fun c_10 => ?_)
    · have b_10 : hi < v := by omega
      clear l1_9 l2_9 l3_9 c_10
      refine z_iconst F (pc := 17) (0) dX8_in_17 ?_
      exact hret _ _ _ _ 0 () dX8_in_18 (by omega) (by first | exact zB_1 (by omega) | exact zB_0 (by omega)) hW
    · have b_10 : ¬ hi < v := by omega
      clear l1_9 l2_9 l3_9 c_10
      refine z_iconst F (pc := 13) (1) dX8_in_13 ?_
      refine z_goto F (pc := 14) 18 dX8_in_14 (by decide) ?_
      exact hret _ _ _ _ 1 () dX8_in_18 (by omega) (by first | exact zB_1 (by omega) | exact zB_0 (by omega)) hW

set_option maxHeartbeats 4000000 in
set_option maxRecDepth 100000 in
theorem c_X8_down (l : Launch) (D : va_G) (cI cZ : ClassId) (v y : Int) (sz0 : Nat) (r_v : (-9223372036854775808 ≤ v ∧ v < 9223372036854775808)) (r_y : (-9223372036854775808 ≤ y ∧ y < 9223372036854775808)) (hy : 0 < y) (hx : -9223372036854775808 < v) : Met l yX8_down wsX8_down ({ frames := 0, cells := 0, slots := 0, locals := 0 } : Room) (zPc D cI cZ [.long (lI v), .long (lI y)] ([]) sz0) (zQl D cI cZ ([]) sz0 (fun (r : Int) (u : Unit) => r = v / y) (fun (u : Unit) => [])) 0 0 (va_A ([]) sz0) := by
  have hb := tdiv_bL (x := v) (y := y) (by omega)
  have hm := tmod_bL (x := v) hy (by omega)
  have hc := fl_r (x := v) hy (b := 9223372036854775807) (by omega) (by omega)
  refine z_ofL (maxL := 6) (plainFor_of_name (by decide)) rfl (Nat.le_of_ble_eq_true rfl) ?_
  intro p e s m below meth c A ls Q F hK hW hA hl hret
  have hl : lv_has ls 6 [(0, .long (lI v)), (2, .long (lI y))] := hl
  refine z_lloadn F (pc := 0) dX8_down_0 rfl (lv_at hl 0 rfl) ?_
  refine z_lloadn F (pc := 1) dX8_down_1 rfl (lv_at hl 1 rfl) ?_
  refine z_ldiv F (pc := 2) dX8_down_2 (by omega) ?_
  refine z_lstore F (pc := 3) hl (lv' := [(4, .long (lI (Int.tdiv v y))), (0, .long (lI v)), (2, .long (lI y))]) dX8_down_3 (by decide) rfl (fun ls hl => ?_)
  refine z_lloadn F (pc := 5) dX8_down_5 rfl (lv_at hl 1 rfl) ?_
  refine z_lloadn F (pc := 6) dX8_down_6 rfl (lv_at hl 2 rfl) ?_
  refine z_lrem F (pc := 7) dX8_down_7 (by omega) ?_
  refine z_lconst F (pc := 8) (0) (by decide +kernel) dX8_down_8 ?_
  refine z_lcmp F (pc := 9) dX8_down_9 (by omega) (fun q_9 l1_9 l2_9 l3_9 => ?_)
  refine z_if_ge F (pc := 10) 20 dX8_down_10 (by decide) (by omega) (fun c_10 => ?_) (fun c_10 => ?_)
  · have b_10 : 0 ≤ (Int.tmod v y) := by omega
    clear l1_9 l2_9 l3_9 c_10
    have ex := dn_1 hy (x := v) (by omega)
    refine z_lload F (pc := 20) dX8_down_20 (lv_at hl 0 rfl) ?_
    exact hret _ _ _ _ (Int.tdiv v y) () dX8_down_22 (by omega) (by exact ex) hW
  · have b_10 : ¬ 0 ≤ (Int.tmod v y) := by omega
    clear l1_9 l2_9 l3_9 c_10
    have ex := dn_2 hy (x := v) (by omega)
    refine z_lload F (pc := 13) dX8_down_13 (lv_at hl 0 rfl) ?_
    refine z_lconst F (pc := 15) (1) (by decide +kernel) dX8_down_15 ?_
    refine z_lsub F (pc := 16) dX8_down_16 ?_
    refine z_goto F (pc := 17) 22 dX8_down_17 (by decide) ?_
    exact hret _ _ _ _ ((Int.tdiv v y) - 1) () dX8_down_22 (by omega) (by exact ex) hW

set_option maxHeartbeats 4000000 in
set_option maxRecDepth 100000 in
theorem c_X8_plain (l : Launch) (D : va_G) (cI cZ : ClassId) (v : Int) (sz0 : Nat) (r_v : (-2147483648 ≤ v ∧ v < 2147483648)) (hv : -2147483648 < v) : Met l yX8_plain wsX8_plain ({ frames := 0, cells := 0, slots := 0, locals := 0 } : Room) (zPc D cI cZ [.int (iI v)] ([]) sz0) (zQi D cI cZ ([]) sz0 (fun (r : Int) (u : Unit) => r = ((v.natAbs : Nat) : Int)) (fun (u : Unit) => [])) 0 0 (va_A ([]) sz0) := by
  refine z_ofI (maxL := 1) (plainFor_of_name (by decide)) rfl (Nat.le_of_ble_eq_true rfl) (Or.inl rfl) ?_
  intro p e s m below meth c A ls Q F hK hW hA hl hret
  have hl : lv_has ls 1 [(0, .int (iI v))] := hl
  refine z_iloadn F (pc := 0) dX8_plain_0 rfl (lv_at hl 0 rfl) ?_
  refine z_if_ge F (pc := 1) 9 dX8_plain_1 (by decide) (by omega) (fun c_1 => ?_) (fun c_1 => ?_)
  · skip
    refine z_iloadn F (pc := 9) dX8_plain_9 rfl (lv_at hl 0 rfl) ?_
    exact hret _ _ _ _ v () dX8_plain_10 (by omega) (by omega) hW
  · skip
    refine z_iloadn F (pc := 4) dX8_plain_4 rfl (lv_at hl 0 rfl) ?_
    refine z_ineg F (pc := 5) dX8_plain_5 ?_
    refine z_goto F (pc := 6) 10 dX8_plain_6 (by decide) ?_
    exact hret _ _ _ _ (-v) () dX8_plain_10 (by omega) (by omega) hW

set_option maxHeartbeats 4000000 in
set_option maxRecDepth 100000 in
theorem c_X8_point (l : Launch) (D : va_G) (cI cZ : ClassId) (aR : Nat → Nat) (xs ys lf ev nm lb kd pt so nu al ak ap he le rw cx cr cl ll tl ts tc : Int → Int) (sz mn ac en mg ln cn wc wp : Int) (x y li : Int) (sz0 : Nat) (r_x : (-2147483648 ≤ x ∧ x < 2147483648)) (r_y : (-2147483648 ≤ y ∧ y < 2147483648)) (r_li : (-2147483648 ≤ li ∧ li < 2147483648)) (hd : 0 ≤ sz ∧ sz ≤ 30) (hli : li = 0 ∨ li = 1) : Met l yX8_point wsX8_point ({ frames := 1, cells := 0, slots := 0, locals := 25 } : Room) (zPc D cI cZ [.ref (aR 0), .int (iI x), .int (iI y), .int (iI li)] (wR cI cZ aR xs ys lf ev nm lb kd pt so nu al ak ap he le rw cx cr cl ll tl ts tc sz mn ac en mg ln cn wc wp) sz0) (zQi D cI cZ (wR cI cZ aR xs ys lf ev nm lb kd pt so nu al ak ap he le rw cx cr cl ll tl ts tc sz mn ac en mg ln cn wc wp) sz0 (fun (r : Int) (u : (Int → Int) × (Int → Int) × (Int → Int) × (Int)) => addP xs ys lf sz x y li u.1 u.2.1 u.2.2.1 u.2.2.2 r) (fun (u : (Int → Int) × (Int → Int) × (Int → Int) × (Int)) => wR cI cZ aR u.1 u.2.1 u.2.2.1 ev nm lb kd pt so nu al ak ap he le rw cx cr cl ll tl ts tc u.2.2.2 mn ac en mg ln cn wc wp)) 0 0 (va_A (wR cI cZ aR xs ys lf ev nm lb kd pt so nu al ak ap he le rw cx cr cl ll tl ts tc sz mn ac en mg ln cn wc wp) sz0) := by
  refine z_ofI (maxL := 4) (plainFor_of_name (by decide)) rfl (Nat.le_of_ble_eq_true rfl) (Or.inl rfl) ?_
  intro p e s m below meth c A ls Q F hK hW hA hl hret
  have hl : lv_has ls 4 [(0, .ref (aR 0)), (1, .int (iI x)), (2, .int (iI y)), (3, .int (iI li))] := hl
  have inX8 : ∀ w ∈ u_ws RX8 TX8 32, w ∈ wsX8_point := fun _ h => List.mem_cons_of_mem _ (List.mem_append_right _ h)
  refine z_iloadn F (pc := 0) dX8_point_0 rfl (lv_at hl 1 rfl) ?_
  refine z_i2l F (pc := 1) dX8_point_1 (by omega) ?_
  refine z_ldc2 F (pc := 2) (-100) (by decide +kernel) (List.mem_of_getElem? (i := 1) rfl) dX8_point_2 ?_
  refine z_ldc2 F (pc := 5) (100) (by decide +kernel) (List.mem_of_getElem? (i := 2) rfl) dX8_point_5 ?_
  refine z_callSi F (pc := 8) hK hW hA (As := [.long (lI x), .long (lI (-100)), .long (lI 100)]) (rest := []) (c_X8_in l D cI cZ x (-100) 100 _ (by omega) (by omega) (by omega)) (va_cwS 3 F.2.2.2.2 gX8_point_X8_in rfl rfl rfl (by decide +kernel) ⟨Nat.le_of_ble_eq_true rfl, Nat.le_of_ble_eq_true rfl⟩) rfl rfl hl.1 (Nat.le_of_ble_eq_true rfl) dX8_point_8 ⟨Nat.le_of_ble_eq_true rfl, Nat.le_of_ble_eq_true rfl⟩ (fun z_8 H locs r_z_8 hp_8 hW => ?_)
  refine z_if_eq F (pc := 11) 28 dX8_point_11 (by decide) (by omega) (fun c_11 => ?_) (fun c_11 => ?_)
  · skip
    have b_11 := zB_f hp_8 c_11
    refine z_iconst F (pc := 28) (-1) dX8_point_28 ?_
    exact hret _ _ _ _ (-1) (xs, ys, lf, sz) dX8_point_29 (by omega) (by (try dsimp only) <;> (unfold addP; first | (left; refine ⟨by omega, rfl, rfl, rfl, rfl, rfl⟩) | (right; left; refine ⟨by omega, by omega, rfl, rfl, rfl, rfl, rfl⟩) | (right; right; refine ⟨by omega, by omega, rfl, rfl, rfl, ?_, rfl⟩; first | (rw [if_pos (by omega)]) | (rw [if_neg (by omega)])))) hW
  · skip
    have b_11 := zB_t hp_8 c_11
    refine z_iloadn F (pc := 14) dX8_point_14 rfl (lv_at hl 2 rfl) ?_
    refine z_i2l F (pc := 15) dX8_point_15 (by omega) ?_
    refine z_ldc2 F (pc := 16) (-100) (by decide +kernel) (List.mem_of_getElem? (i := 1) rfl) dX8_point_16 ?_
    refine z_ldc2 F (pc := 19) (100) (by decide +kernel) (List.mem_of_getElem? (i := 2) rfl) dX8_point_19 ?_
    refine z_callSi F (pc := 22) hK hW hA (As := [.long (lI y), .long (lI (-100)), .long (lI 100)]) (rest := []) (c_X8_in l D cI cZ y (-100) 100 _ (by omega) (by omega) (by omega)) (va_cwS 3 F.2.2.2.2 gX8_point_X8_in rfl rfl rfl (by decide +kernel) ⟨Nat.le_of_ble_eq_true rfl, Nat.le_of_ble_eq_true rfl⟩) rfl rfl hl.1 (Nat.le_of_ble_eq_true rfl) dX8_point_22 ⟨Nat.le_of_ble_eq_true rfl, Nat.le_of_ble_eq_true rfl⟩ (fun z_22 H locs r_z_22 hp_22 hW => ?_)
    refine z_if_ne F (pc := 25) 30 dX8_point_25 (by decide) (by omega) (fun c_25 => ?_) (fun c_25 => ?_)
    · skip
      have b_25 := zB_t hp_22 c_25
      refine z_aloadn F (pc := 30) dX8_point_30 rfl (lv_at hl 0 rfl) ?_
      refine z_get F (pc := 31) (C := RX8) (T := TX8) (N := 32) (ci := 8) inX8 hK hW 0 0 rfl rfl (by decide) rfl (List.mem_of_getElem? (i := 3) rfl) (v := .int (iI sz)) rfl dX8_point_31 ?_
      refine z_bipush F (pc := 34) (30) (by decide +kernel) dX8_point_34 ?_
      refine z_icmp_ne F (pc := 36) 42 dX8_point_36 (by decide) (by omega) (fun c_36 => ?_) (fun c_36 => ?_)
      · skip
        refine z_aloadn F (pc := 42) dX8_point_42 rfl (lv_at hl 0 rfl) ?_
        refine z_get F (pc := 43) (C := RX8) (T := TX8) (N := 32) (ci := 8) inX8 hK hW 0 1 rfl rfl (by decide) rfl (List.mem_of_getElem? (i := 4) rfl) (v := .ref (aR 1)) rfl dX8_point_43 ?_
        refine z_aloadn F (pc := 46) dX8_point_46 rfl (lv_at hl 0 rfl) ?_
        refine z_get F (pc := 47) (C := RX8) (T := TX8) (N := 32) (ci := 8) inX8 hK hW 0 0 rfl rfl (by decide) rfl (List.mem_of_getElem? (i := 3) rfl) (v := .int (iI sz)) rfl dX8_point_47 ?_
        refine z_iloadn F (pc := 50) dX8_point_50 rfl (lv_at hl 1 rfl) ?_
        refine z_iast F (pc := 51) hK hW (ws' := wR cI cZ aR (zU xs sz x) ys lf ev nm lb kd pt so nu al ak ap he le rw cx cr cl ll tl ts tc sz mn ac en mg ln cn wc wp) 1 rfl (by decide) dX8_point_51 (by omega) rfl (fun H locs hW => ?_)
        refine z_aloadn F (pc := 52) dX8_point_52 rfl (lv_at hl 0 rfl) ?_
        refine z_get F (pc := 53) (C := RX8) (T := TX8) (N := 32) (ci := 8) inX8 hK hW 0 2 rfl rfl (by decide) rfl (List.mem_of_getElem? (i := 5) rfl) (v := .ref (aR 2)) rfl dX8_point_53 ?_
        refine z_aloadn F (pc := 56) dX8_point_56 rfl (lv_at hl 0 rfl) ?_
        refine z_get F (pc := 57) (C := RX8) (T := TX8) (N := 32) (ci := 8) inX8 hK hW 0 0 rfl rfl (by decide) rfl (List.mem_of_getElem? (i := 3) rfl) (v := .int (iI sz)) rfl dX8_point_57 ?_
        refine z_iloadn F (pc := 60) dX8_point_60 rfl (lv_at hl 2 rfl) ?_
        refine z_iast F (pc := 61) hK hW (ws' := wR cI cZ aR (zU xs sz x) (zU ys sz y) lf ev nm lb kd pt so nu al ak ap he le rw cx cr cl ll tl ts tc sz mn ac en mg ln cn wc wp) 2 rfl (by decide) dX8_point_61 (by omega) rfl (fun H locs hW => ?_)
        refine z_aloadn F (pc := 62) dX8_point_62 rfl (lv_at hl 0 rfl) ?_
        refine z_get F (pc := 63) (C := RX8) (T := TX8) (N := 32) (ci := 8) inX8 hK hW 0 3 rfl rfl (by decide) rfl (List.mem_of_getElem? (i := 6) rfl) (v := .ref (aR 3)) rfl dX8_point_63 ?_
        refine z_aloadn F (pc := 66) dX8_point_66 rfl (lv_at hl 0 rfl) ?_
        refine z_get F (pc := 67) (C := RX8) (T := TX8) (N := 32) (ci := 8) inX8 hK hW 0 0 rfl rfl (by decide) rfl (List.mem_of_getElem? (i := 3) rfl) (v := .int (iI sz)) rfl dX8_point_67 ?_
        refine z_iloadn F (pc := 70) dX8_point_70 rfl (lv_at hl 3 rfl) ?_
        refine z_if_eq F (pc := 71) 85 dX8_point_71 (by decide) (by omega) (fun c_71 => ?_) (fun c_71 => ?_)
        · skip
          refine z_iconst F (pc := 85) (0) dX8_point_85 ?_
          refine z_zast F (pc := 86) hK hW (ws' := wR cI cZ aR (zU xs sz x) (zU ys sz y) (zU lf sz 0) ev nm lb kd pt so nu al ak ap he le rw cx cr cl ll tl ts tc sz mn ac en mg ln cn wc wp) 3 rfl (by decide) dX8_point_86 (by omega) (by omega) rfl (fun H locs hW => ?_)
          refine z_aloadn F (pc := 87) dX8_point_87 rfl (lv_at hl 0 rfl) ?_
          refine z_dup F (pc := 88) dX8_point_88 rfl ?_
          refine z_get F (pc := 89) (C := RX8) (T := TX8) (N := 32) (ci := 8) inX8 hK hW 0 0 rfl rfl (by decide) rfl (List.mem_of_getElem? (i := 3) rfl) (v := .int (iI sz)) rfl dX8_point_89 ?_
          refine z_iconst F (pc := 92) (1) dX8_point_92 ?_
          refine z_iadd F (pc := 93) dX8_point_93 ?_
          refine z_put F (pc := 94) (C := RX8) (T := TX8) (N := 32) (ci := 8) inX8 tyX8 tyX8_ok nmX8 hK hW (ws' := wR cI cZ aR (zU xs sz x) (zU ys sz y) (zU lf sz 0) ev nm lb kd pt so nu al ak ap he le rw cx cr cl ll tl ts tc (sz + 1) mn ac en mg ln cn wc wp) 0 0 rfl rfl (by decide) rfl (List.mem_of_getElem? (i := 3) rfl) rfl rfl (Nat.le_of_ble_eq_true rfl) dX8_point_94 rfl (fun H locs hW => ?_)
          refine z_aloadn F (pc := 97) dX8_point_97 rfl (lv_at hl 0 rfl) ?_
          refine z_get F (pc := 98) (C := RX8) (T := TX8) (N := 32) (ci := 8) inX8 hK hW 0 0 rfl rfl (by decide) rfl (List.mem_of_getElem? (i := 3) rfl) (v := .int (iI (sz + 1))) rfl dX8_point_98 ?_
          exact hret _ _ _ _ (sz + 1) ((zU xs sz x), (zU ys sz y), (zU lf sz 0), (sz + 1)) dX8_point_101 (by omega) (by (try dsimp only) <;> (unfold addP; first | (left; refine ⟨by omega, rfl, rfl, rfl, rfl, rfl⟩) | (right; left; refine ⟨by omega, by omega, rfl, rfl, rfl, rfl, rfl⟩) | (right; right; refine ⟨by omega, by omega, rfl, rfl, rfl, ?_, rfl⟩; first | (rw [if_pos (by omega)]) | (rw [if_neg (by omega)])))) hW
        · skip
          refine z_aloadn F (pc := 74) dX8_point_74 rfl (lv_at hl 0 rfl) ?_
          refine z_get F (pc := 75) (C := RX8) (T := TX8) (N := 32) (ci := 8) inX8 hK hW 0 0 rfl rfl (by decide) rfl (List.mem_of_getElem? (i := 3) rfl) (v := .int (iI sz)) rfl dX8_point_75 ?_
          refine z_if_le F (pc := 78) 85 dX8_point_78 (by decide) (by omega) (fun c_78 => ?_) (fun c_78 => ?_)
          · skip
            refine z_iconst F (pc := 85) (0) dX8_point_85 ?_
            refine z_zast F (pc := 86) hK hW (ws' := wR cI cZ aR (zU xs sz x) (zU ys sz y) (zU lf sz 0) ev nm lb kd pt so nu al ak ap he le rw cx cr cl ll tl ts tc sz mn ac en mg ln cn wc wp) 3 rfl (by decide) dX8_point_86 (by omega) (by omega) rfl (fun H locs hW => ?_)
            refine z_aloadn F (pc := 87) dX8_point_87 rfl (lv_at hl 0 rfl) ?_
            refine z_dup F (pc := 88) dX8_point_88 rfl ?_
            refine z_get F (pc := 89) (C := RX8) (T := TX8) (N := 32) (ci := 8) inX8 hK hW 0 0 rfl rfl (by decide) rfl (List.mem_of_getElem? (i := 3) rfl) (v := .int (iI sz)) rfl dX8_point_89 ?_
            refine z_iconst F (pc := 92) (1) dX8_point_92 ?_
            refine z_iadd F (pc := 93) dX8_point_93 ?_
            refine z_put F (pc := 94) (C := RX8) (T := TX8) (N := 32) (ci := 8) inX8 tyX8 tyX8_ok nmX8 hK hW (ws' := wR cI cZ aR (zU xs sz x) (zU ys sz y) (zU lf sz 0) ev nm lb kd pt so nu al ak ap he le rw cx cr cl ll tl ts tc (sz + 1) mn ac en mg ln cn wc wp) 0 0 rfl rfl (by decide) rfl (List.mem_of_getElem? (i := 3) rfl) rfl rfl (Nat.le_of_ble_eq_true rfl) dX8_point_94 rfl (fun H locs hW => ?_)
            refine z_aloadn F (pc := 97) dX8_point_97 rfl (lv_at hl 0 rfl) ?_
            refine z_get F (pc := 98) (C := RX8) (T := TX8) (N := 32) (ci := 8) inX8 hK hW 0 0 rfl rfl (by decide) rfl (List.mem_of_getElem? (i := 3) rfl) (v := .int (iI (sz + 1))) rfl dX8_point_98 ?_
            exact hret _ _ _ _ (sz + 1) ((zU xs sz x), (zU ys sz y), (zU lf sz 0), (sz + 1)) dX8_point_101 (by omega) (by (try dsimp only) <;> (unfold addP; first | (left; refine ⟨by omega, rfl, rfl, rfl, rfl, rfl⟩) | (right; left; refine ⟨by omega, by omega, rfl, rfl, rfl, rfl, rfl⟩) | (right; right; refine ⟨by omega, by omega, rfl, rfl, rfl, ?_, rfl⟩; first | (rw [if_pos (by omega)]) | (rw [if_neg (by omega)])))) hW
          · skip
            refine z_iconst F (pc := 81) (1) dX8_point_81 ?_
            refine z_goto F (pc := 82) 86 dX8_point_82 (by decide) ?_
            refine z_zast F (pc := 86) hK hW (ws' := wR cI cZ aR (zU xs sz x) (zU ys sz y) (zU lf sz 1) ev nm lb kd pt so nu al ak ap he le rw cx cr cl ll tl ts tc sz mn ac en mg ln cn wc wp) 3 rfl (by decide) dX8_point_86 (by omega) (by omega) rfl (fun H locs hW => ?_)
            refine z_aloadn F (pc := 87) dX8_point_87 rfl (lv_at hl 0 rfl) ?_
            refine z_dup F (pc := 88) dX8_point_88 rfl ?_
            refine z_get F (pc := 89) (C := RX8) (T := TX8) (N := 32) (ci := 8) inX8 hK hW 0 0 rfl rfl (by decide) rfl (List.mem_of_getElem? (i := 3) rfl) (v := .int (iI sz)) rfl dX8_point_89 ?_
            refine z_iconst F (pc := 92) (1) dX8_point_92 ?_
            refine z_iadd F (pc := 93) dX8_point_93 ?_
            refine z_put F (pc := 94) (C := RX8) (T := TX8) (N := 32) (ci := 8) inX8 tyX8 tyX8_ok nmX8 hK hW (ws' := wR cI cZ aR (zU xs sz x) (zU ys sz y) (zU lf sz 1) ev nm lb kd pt so nu al ak ap he le rw cx cr cl ll tl ts tc (sz + 1) mn ac en mg ln cn wc wp) 0 0 rfl rfl (by decide) rfl (List.mem_of_getElem? (i := 3) rfl) rfl rfl (Nat.le_of_ble_eq_true rfl) dX8_point_94 rfl (fun H locs hW => ?_)
            refine z_aloadn F (pc := 97) dX8_point_97 rfl (lv_at hl 0 rfl) ?_
            refine z_get F (pc := 98) (C := RX8) (T := TX8) (N := 32) (ci := 8) inX8 hK hW 0 0 rfl rfl (by decide) rfl (List.mem_of_getElem? (i := 3) rfl) (v := .int (iI (sz + 1))) rfl dX8_point_98 ?_
            exact hret _ _ _ _ (sz + 1) ((zU xs sz x), (zU ys sz y), (zU lf sz 1), (sz + 1)) dX8_point_101 (by omega) (by (try dsimp only) <;> (unfold addP; first | (left; refine ⟨by omega, rfl, rfl, rfl, rfl, rfl⟩) | (right; left; refine ⟨by omega, by omega, rfl, rfl, rfl, rfl, rfl⟩) | (right; right; refine ⟨by omega, by omega, rfl, rfl, rfl, ?_, rfl⟩; first | (rw [if_pos (by omega)]) | (rw [if_neg (by omega)])))) hW
      · skip
        refine z_bipush F (pc := 39) (-3) (by decide +kernel) dX8_point_39 ?_
        exact hret _ _ _ _ (-3) (xs, ys, lf, sz) dX8_point_41 (by omega) (by (try dsimp only) <;> (unfold addP; first | (left; refine ⟨by omega, rfl, rfl, rfl, rfl, rfl⟩) | (right; left; refine ⟨by omega, by omega, rfl, rfl, rfl, rfl, rfl⟩) | (right; right; refine ⟨by omega, by omega, rfl, rfl, rfl, ?_, rfl⟩; first | (rw [if_pos (by omega)]) | (rw [if_neg (by omega)])))) hW
    · skip
      have b_25 := zB_f hp_22 c_25
      refine z_iconst F (pc := 28) (-1) dX8_point_28 ?_
      exact hret _ _ _ _ (-1) (xs, ys, lf, sz) dX8_point_29 (by omega) (by (try dsimp only) <;> (unfold addP; first | (left; refine ⟨by omega, rfl, rfl, rfl, rfl, rfl⟩) | (right; left; refine ⟨by omega, by omega, rfl, rfl, rfl, rfl, rfl⟩) | (right; right; refine ⟨by omega, by omega, rfl, rfl, rfl, ?_, rfl⟩; first | (rw [if_pos (by omega)]) | (rw [if_neg (by omega)])))) hW

set_option maxHeartbeats 4000000 in
set_option maxRecDepth 100000 in
theorem c_X8_clear (l : Launch) (D : va_G) (cI cZ : ClassId) (aR : Nat → Nat) (xs ys lf ev nm lb kd pt so nu al ak ap he le rw cx cr cl ll tl ts tc : Int → Int) (sz mn ac en mg ln cn wc wp : Int) (sz0 : Nat) (hd : 0 ≤ sz ∧ sz ≤ 30) : Met l yX8_clear wsX8_clear ({ frames := 0, cells := 0, slots := 0, locals := 0 } : Room) (zPc D cI cZ [.ref (aR 0)] (wR cI cZ aR xs ys lf ev nm lb kd pt so nu al ak ap he le rw cx cr cl ll tl ts tc sz mn ac en mg ln cn wc wp) sz0) (zQi D cI cZ (wR cI cZ aR xs ys lf ev nm lb kd pt so nu al ak ap he le rw cx cr cl ll tl ts tc sz mn ac en mg ln cn wc wp) sz0 (fun (r : Int) (u : (Int)) => (r = sz) ∧ (u = 0)) (fun (u : (Int)) => wR cI cZ aR xs ys lf ev nm lb kd pt so nu al ak ap he le rw cx cr cl ll tl ts tc u mn ac en mg ln cn wc wp)) 0 0 (va_A (wR cI cZ aR xs ys lf ev nm lb kd pt so nu al ak ap he le rw cx cr cl ll tl ts tc sz mn ac en mg ln cn wc wp) sz0) := by
  refine z_ofI (maxL := 2) (plainFor_of_name (by decide)) rfl (Nat.le_of_ble_eq_true rfl) (Or.inl rfl) ?_
  intro p e s m below meth c A ls Q F hK hW hA hl hret
  have hl : lv_has ls 2 [(0, .ref (aR 0))] := hl
  have inX8 : ∀ w ∈ u_ws RX8 TX8 32, w ∈ wsX8_clear := fun _ h => List.mem_cons_of_mem _ (List.mem_append_right _ h)
  refine z_aloadn F (pc := 0) dX8_clear_0 rfl (lv_at hl 0 rfl) ?_
  refine z_get F (pc := 1) (C := RX8) (T := TX8) (N := 32) (ci := 8) inX8 hK hW 0 0 rfl rfl (by decide) rfl (List.mem_of_getElem? (i := 1) rfl) (v := .int (iI sz)) rfl dX8_clear_1 ?_
  refine z_istoren F (pc := 4) hl (lv' := [(1, .int (iI sz)), (0, .ref (aR 0))]) dX8_clear_4 rfl (by decide) rfl (fun ls hl => ?_)
  refine z_aloadn F (pc := 5) dX8_clear_5 rfl (lv_at hl 1 rfl) ?_
  refine z_iconst F (pc := 6) (0) dX8_clear_6 ?_
  refine z_put F (pc := 7) (C := RX8) (T := TX8) (N := 32) (ci := 8) inX8 tyX8 tyX8_ok nmX8 hK hW (ws' := wR cI cZ aR xs ys lf ev nm lb kd pt so nu al ak ap he le rw cx cr cl ll tl ts tc 0 mn ac en mg ln cn wc wp) 0 0 rfl rfl (by decide) rfl (List.mem_of_getElem? (i := 1) rfl) rfl rfl (Nat.le_of_ble_eq_true rfl) dX8_clear_7 rfl (fun H locs hW => ?_)
  refine z_iloadn F (pc := 10) dX8_clear_10 rfl (lv_at hl 0 rfl) ?_
  exact hret _ _ _ _ sz 0 dX8_clear_11 (by omega) (by exact ⟨rfl, rfl⟩) hW

set_option maxHeartbeats 4000000 in
set_option maxRecDepth 100000 in
theorem c_X8_drawn (l : Launch) (D : va_G) (cI cZ : ClassId) (aR : Nat → Nat) (xs ys lf ev nm lb kd pt so nu al ak ap he le rw cx cr cl ll tl ts tc : Int → Int) (sz mn ac en mg ln cn wc wp : Int) (q : Int) (sz0 : Nat) (r_q : (-2147483648 ≤ q ∧ q < 2147483648)) (hd : Dok xs ys lf sz) (hq : 0 ≤ q ∧ q < sz) : Met l yX8_drawn wsX8_drawn ({ frames := 1, cells := 0, slots := 0, locals := 20 } : Room) (zPc D cI cZ [.ref (aR 0), .int (iI q)] (wR cI cZ aR xs ys lf ev nm lb kd pt so nu al ak ap he le rw cx cr cl ll tl ts tc sz mn ac en mg ln cn wc wp) sz0) (zQi D cI cZ (wR cI cZ aR xs ys lf ev nm lb kd pt so nu al ak ap he le rw cx cr cl ll tl ts tc sz mn ac en mg ln cn wc wp) sz0 (fun (r : Int) (u : Unit) => r = dz xs ys lf q) (fun (u : Unit) => wR cI cZ aR xs ys lf ev nm lb kd pt so nu al ak ap he le rw cx cr cl ll tl ts tc sz mn ac en mg ln cn wc wp)) 0 0 (va_A (wR cI cZ aR xs ys lf ev nm lb kd pt so nu al ak ap he le rw cx cr cl ll tl ts tc sz mn ac en mg ln cn wc wp) sz0) := by
  have ha := Dok_at hd (j := q) (by omega) hq.2
  have hs := hd.1
  have hr := dz_rng hd hq.1 hq.2
  refine z_ofI (maxL := 2) (plainFor_of_name (by decide)) rfl (Nat.le_of_ble_eq_true rfl) (Or.inl rfl) ?_
  intro p e s m below meth c A ls Q F hK hW hA hl hret
  have hl : lv_has ls 2 [(0, .ref (aR 0)), (1, .int (iI q))] := hl
  have inX8 : ∀ w ∈ u_ws RX8 TX8 32, w ∈ wsX8_drawn := fun _ h => List.mem_cons_of_mem _ (List.mem_append_right _ h)
  refine z_iloadn F (pc := 0) dX8_drawn_0 rfl (lv_at hl 1 rfl) ?_
  refine z_if_eq F (pc := 1) 13 dX8_drawn_1 (by decide) (by omega) (fun c_1 => ?_) (fun c_1 => ?_)
  · skip
    refine z_iconst F (pc := 13) (0) dX8_drawn_13 ?_
    refine z_goto F (pc := 14) 54 dX8_drawn_14 (by decide) ?_
    exact hret _ _ _ _ 0 () dX8_drawn_54 (by omega) (by unfold dz dr; first | (rw [if_pos (by omega)]; done) | (rw [if_neg c_1, if_pos (by omega)]) | (rw [if_neg c_1, if_neg (by omega)])) hW
  · skip
    refine z_aloadn F (pc := 4) dX8_drawn_4 rfl (lv_at hl 0 rfl) ?_
    refine z_get F (pc := 5) (C := RX8) (T := TX8) (N := 32) (ci := 8) inX8 hK hW 0 3 rfl rfl (by decide) rfl (List.mem_of_getElem? (i := 1) rfl) (v := .ref (aR 3)) rfl dX8_drawn_5 ?_
    refine z_iloadn F (pc := 8) dX8_drawn_8 rfl (lv_at hl 1 rfl) ?_
    refine z_zald F (pc := 9) hK hW 3 rfl (by decide) dX8_drawn_9 (by omega) ?_
    refine z_if_eq F (pc := 10) 17 dX8_drawn_10 (by decide) (by omega) (fun c_10 => ?_) (fun c_10 => ?_)
    · skip
      have hb := Dok_at hd (j := q - 1) (by omega) (by omega)
      refine z_aloadn F (pc := 17) dX8_drawn_17 rfl (lv_at hl 0 rfl) ?_
      refine z_get F (pc := 18) (C := RX8) (T := TX8) (N := 32) (ci := 8) inX8 hK hW 0 1 rfl rfl (by decide) rfl (List.mem_of_getElem? (i := 2) rfl) (v := .ref (aR 1)) rfl dX8_drawn_18 ?_
      refine z_iloadn F (pc := 21) dX8_drawn_21 rfl (lv_at hl 1 rfl) ?_
      refine z_iald F (pc := 22) hK hW 1 rfl (by decide) dX8_drawn_22 (by omega) ?_
      refine z_aloadn F (pc := 23) dX8_drawn_23 rfl (lv_at hl 0 rfl) ?_
      refine z_get F (pc := 24) (C := RX8) (T := TX8) (N := 32) (ci := 8) inX8 hK hW 0 1 rfl rfl (by decide) rfl (List.mem_of_getElem? (i := 2) rfl) (v := .ref (aR 1)) rfl dX8_drawn_24 ?_
      refine z_iloadn F (pc := 27) dX8_drawn_27 rfl (lv_at hl 1 rfl) ?_
      refine z_iconst F (pc := 28) (1) dX8_drawn_28 ?_
      refine z_isub F (pc := 29) dX8_drawn_29 ?_
      refine z_iald F (pc := 30) hK hW 1 rfl (by decide) dX8_drawn_30 (by omega) ?_
      refine z_isub F (pc := 31) dX8_drawn_31 ?_
      refine z_callSi F (pc := 32) hK hW hA (As := [.int (iI ((xs q) - (xs (q - 1))))]) (rest := []) (c_X8_plain l D cI cZ ((xs q) - (xs (q - 1))) _ (by omega) (by omega)) (va_cwS 1 F.2.2.2.2 gX8_drawn_X8_plain rfl rfl rfl (by decide +kernel) ⟨Nat.le_of_ble_eq_true rfl, Nat.le_of_ble_eq_true rfl⟩) rfl rfl hl.1 (Nat.le_of_ble_eq_true rfl) dX8_drawn_32 ⟨Nat.le_of_ble_eq_true rfl, Nat.le_of_ble_eq_true rfl⟩ (fun z_32 H locs r_z_32 hp_32 hW => ?_)
      replace hp_32 := hp_32.symm
      subst hp_32
      refine z_aloadn F (pc := 35) dX8_drawn_35 rfl (lv_at hl 0 rfl) ?_
      refine z_get F (pc := 36) (C := RX8) (T := TX8) (N := 32) (ci := 8) inX8 hK hW 0 2 rfl rfl (by decide) rfl (List.mem_of_getElem? (i := 3) rfl) (v := .ref (aR 2)) rfl dX8_drawn_36 ?_
      refine z_iloadn F (pc := 39) dX8_drawn_39 rfl (lv_at hl 1 rfl) ?_
      refine z_iald F (pc := 40) hK hW 2 rfl (by decide) dX8_drawn_40 (by omega) ?_
      refine z_aloadn F (pc := 41) dX8_drawn_41 rfl (lv_at hl 0 rfl) ?_
      refine z_get F (pc := 42) (C := RX8) (T := TX8) (N := 32) (ci := 8) inX8 hK hW 0 2 rfl rfl (by decide) rfl (List.mem_of_getElem? (i := 3) rfl) (v := .ref (aR 2)) rfl dX8_drawn_42 ?_
      refine z_iloadn F (pc := 45) dX8_drawn_45 rfl (lv_at hl 1 rfl) ?_
      refine z_iconst F (pc := 46) (1) dX8_drawn_46 ?_
      refine z_isub F (pc := 47) dX8_drawn_47 ?_
      refine z_iald F (pc := 48) hK hW 2 rfl (by decide) dX8_drawn_48 (by omega) ?_
      refine z_isub F (pc := 49) dX8_drawn_49 ?_
      refine z_callSi F (pc := 50) hK hW hA (As := [.int (iI ((ys q) - (ys (q - 1))))]) (rest := [.int (iI ((((xs q) - (xs (q - 1))).natAbs : Nat) : Int))]) (c_X8_plain l D cI cZ ((ys q) - (ys (q - 1))) _ (by omega) (by omega)) (va_cwS 1 F.2.2.2.2 gX8_drawn_X8_plain rfl rfl rfl (by decide +kernel) ⟨Nat.le_of_ble_eq_true rfl, Nat.le_of_ble_eq_true rfl⟩) rfl rfl hl.1 (Nat.le_of_ble_eq_true rfl) dX8_drawn_50 ⟨Nat.le_of_ble_eq_true rfl, Nat.le_of_ble_eq_true rfl⟩ (fun z_50 H locs r_z_50 hp_50 hW => ?_)
      replace hp_50 := hp_50.symm
      subst hp_50
      refine z_iadd F (pc := 53) dX8_drawn_53 ?_
      exact hret _ _ _ _ (((((xs q) - (xs (q - 1))).natAbs : Nat) : Int) + ((((ys q) - (ys (q - 1))).natAbs : Nat) : Int)) () dX8_drawn_54 (by omega) (by unfold dz dr; first | (rw [if_pos (by omega)]; done) | (rw [if_neg c_1, if_pos (by omega)]) | (rw [if_neg c_1, if_neg (by omega)])) hW
    · skip
      refine z_iconst F (pc := 13) (0) dX8_drawn_13 ?_
      refine z_goto F (pc := 14) 54 dX8_drawn_14 (by decide) ?_
      exact hret _ _ _ _ 0 () dX8_drawn_54 (by omega) (by unfold dz dr; first | (rw [if_pos (by omega)]; done) | (rw [if_neg c_1, if_pos (by omega)]) | (rw [if_neg c_1, if_neg (by omega)])) hW

set_option maxHeartbeats 4000000 in
set_option maxRecDepth 100000 in
theorem c_X8_drawn1 (l : Launch) (D : va_G) (cI cZ : ClassId) (aR : Nat → Nat) (xs ys lf ev nm lb kd pt so nu al ak ap he le rw cx cr cl ll tl ts tc : Int → Int) (sz mn ac en mg ln cn wc wp : Int) (q : Int) (sz0 : Nat) (r_q : (-2147483648 ≤ q ∧ q < 2147483648)) (hd : Dok xs ys lf sz) (hq : 1 ≤ q ∧ q < sz) : Met l yX8_drawn wsX8_drawn ({ frames := 1, cells := 0, slots := 0, locals := 20 } : Room) (zPc D cI cZ [.ref (aR 0), .int (iI q)] (wR cI cZ aR xs ys lf ev nm lb kd pt so nu al ak ap he le rw cx cr cl ll tl ts tc sz mn ac en mg ln cn wc wp) sz0) (zQi D cI cZ (wR cI cZ aR xs ys lf ev nm lb kd pt so nu al ak ap he le rw cx cr cl ll tl ts tc sz mn ac en mg ln cn wc wp) sz0 (fun (r : Int) (u : Unit) => r = dr xs ys lf q) (fun (u : Unit) => wR cI cZ aR xs ys lf ev nm lb kd pt so nu al ak ap he le rw cx cr cl ll tl ts tc sz mn ac en mg ln cn wc wp)) 0 0 (va_A (wR cI cZ aR xs ys lf ev nm lb kd pt so nu al ak ap he le rw cx cr cl ll tl ts tc sz mn ac en mg ln cn wc wp) sz0) := by
  have ha := Dok_at hd (j := q) (by omega) hq.2
  have hs := hd.1
  have hr := dr_rng hd hq.1 hq.2
  refine z_ofI (maxL := 2) (plainFor_of_name (by decide)) rfl (Nat.le_of_ble_eq_true rfl) (Or.inl rfl) ?_
  intro p e s m below meth c A ls Q F hK hW hA hl hret
  have hl : lv_has ls 2 [(0, .ref (aR 0)), (1, .int (iI q))] := hl
  have inX8 : ∀ w ∈ u_ws RX8 TX8 32, w ∈ wsX8_drawn := fun _ h => List.mem_cons_of_mem _ (List.mem_append_right _ h)
  refine z_iloadn F (pc := 0) dX8_drawn_0 rfl (lv_at hl 1 rfl) ?_
  refine z_if_eq F (pc := 1) 13 dX8_drawn_1 (by decide) (by omega) (fun c_1 => ?_) (fun c_1 => ?_)
  · skip
    exact absurd c_1 (by omega)
  · skip
    refine z_aloadn F (pc := 4) dX8_drawn_4 rfl (lv_at hl 0 rfl) ?_
    refine z_get F (pc := 5) (C := RX8) (T := TX8) (N := 32) (ci := 8) inX8 hK hW 0 3 rfl rfl (by decide) rfl (List.mem_of_getElem? (i := 1) rfl) (v := .ref (aR 3)) rfl dX8_drawn_5 ?_
    refine z_iloadn F (pc := 8) dX8_drawn_8 rfl (lv_at hl 1 rfl) ?_
    refine z_zald F (pc := 9) hK hW 3 rfl (by decide) dX8_drawn_9 (by omega) ?_
    refine z_if_eq F (pc := 10) 17 dX8_drawn_10 (by decide) (by omega) (fun c_10 => ?_) (fun c_10 => ?_)
    · skip
      have hb := Dok_at hd (j := q - 1) (by omega) (by omega)
      refine z_aloadn F (pc := 17) dX8_drawn_17 rfl (lv_at hl 0 rfl) ?_
      refine z_get F (pc := 18) (C := RX8) (T := TX8) (N := 32) (ci := 8) inX8 hK hW 0 1 rfl rfl (by decide) rfl (List.mem_of_getElem? (i := 2) rfl) (v := .ref (aR 1)) rfl dX8_drawn_18 ?_
      refine z_iloadn F (pc := 21) dX8_drawn_21 rfl (lv_at hl 1 rfl) ?_
      refine z_iald F (pc := 22) hK hW 1 rfl (by decide) dX8_drawn_22 (by omega) ?_
      refine z_aloadn F (pc := 23) dX8_drawn_23 rfl (lv_at hl 0 rfl) ?_
      refine z_get F (pc := 24) (C := RX8) (T := TX8) (N := 32) (ci := 8) inX8 hK hW 0 1 rfl rfl (by decide) rfl (List.mem_of_getElem? (i := 2) rfl) (v := .ref (aR 1)) rfl dX8_drawn_24 ?_
      refine z_iloadn F (pc := 27) dX8_drawn_27 rfl (lv_at hl 1 rfl) ?_
      refine z_iconst F (pc := 28) (1) dX8_drawn_28 ?_
      refine z_isub F (pc := 29) dX8_drawn_29 ?_
      refine z_iald F (pc := 30) hK hW 1 rfl (by decide) dX8_drawn_30 (by omega) ?_
      refine z_isub F (pc := 31) dX8_drawn_31 ?_
      refine z_callSi F (pc := 32) hK hW hA (As := [.int (iI ((xs q) - (xs (q - 1))))]) (rest := []) (c_X8_plain l D cI cZ ((xs q) - (xs (q - 1))) _ (by omega) (by omega)) (va_cwS 1 F.2.2.2.2 gX8_drawn_X8_plain rfl rfl rfl (by decide +kernel) ⟨Nat.le_of_ble_eq_true rfl, Nat.le_of_ble_eq_true rfl⟩) rfl rfl hl.1 (Nat.le_of_ble_eq_true rfl) dX8_drawn_32 ⟨Nat.le_of_ble_eq_true rfl, Nat.le_of_ble_eq_true rfl⟩ (fun z_32 H locs r_z_32 hp_32 hW => ?_)
      replace hp_32 := hp_32.symm
      subst hp_32
      refine z_aloadn F (pc := 35) dX8_drawn_35 rfl (lv_at hl 0 rfl) ?_
      refine z_get F (pc := 36) (C := RX8) (T := TX8) (N := 32) (ci := 8) inX8 hK hW 0 2 rfl rfl (by decide) rfl (List.mem_of_getElem? (i := 3) rfl) (v := .ref (aR 2)) rfl dX8_drawn_36 ?_
      refine z_iloadn F (pc := 39) dX8_drawn_39 rfl (lv_at hl 1 rfl) ?_
      refine z_iald F (pc := 40) hK hW 2 rfl (by decide) dX8_drawn_40 (by omega) ?_
      refine z_aloadn F (pc := 41) dX8_drawn_41 rfl (lv_at hl 0 rfl) ?_
      refine z_get F (pc := 42) (C := RX8) (T := TX8) (N := 32) (ci := 8) inX8 hK hW 0 2 rfl rfl (by decide) rfl (List.mem_of_getElem? (i := 3) rfl) (v := .ref (aR 2)) rfl dX8_drawn_42 ?_
      refine z_iloadn F (pc := 45) dX8_drawn_45 rfl (lv_at hl 1 rfl) ?_
      refine z_iconst F (pc := 46) (1) dX8_drawn_46 ?_
      refine z_isub F (pc := 47) dX8_drawn_47 ?_
      refine z_iald F (pc := 48) hK hW 2 rfl (by decide) dX8_drawn_48 (by omega) ?_
      refine z_isub F (pc := 49) dX8_drawn_49 ?_
      refine z_callSi F (pc := 50) hK hW hA (As := [.int (iI ((ys q) - (ys (q - 1))))]) (rest := [.int (iI ((((xs q) - (xs (q - 1))).natAbs : Nat) : Int))]) (c_X8_plain l D cI cZ ((ys q) - (ys (q - 1))) _ (by omega) (by omega)) (va_cwS 1 F.2.2.2.2 gX8_drawn_X8_plain rfl rfl rfl (by decide +kernel) ⟨Nat.le_of_ble_eq_true rfl, Nat.le_of_ble_eq_true rfl⟩) rfl rfl hl.1 (Nat.le_of_ble_eq_true rfl) dX8_drawn_50 ⟨Nat.le_of_ble_eq_true rfl, Nat.le_of_ble_eq_true rfl⟩ (fun z_50 H locs r_z_50 hp_50 hW => ?_)
      replace hp_50 := hp_50.symm
      subst hp_50
      refine z_iadd F (pc := 53) dX8_drawn_53 ?_
      exact hret _ _ _ _ (((((xs q) - (xs (q - 1))).natAbs : Nat) : Int) + ((((ys q) - (ys (q - 1))).natAbs : Nat) : Int)) () dX8_drawn_54 (by omega) (by unfold dr; first | (rw [if_pos (by omega)]) | (rw [if_neg (by omega)])) hW
    · skip
      refine z_iconst F (pc := 13) (0) dX8_drawn_13 ?_
      refine z_goto F (pc := 14) 54 dX8_drawn_14 (by decide) ?_
      exact hret _ _ _ _ 0 () dX8_drawn_54 (by omega) (by unfold dr; first | (rw [if_pos (by omega)]) | (rw [if_neg (by omega)])) hW

set_option maxHeartbeats 4000000 in
set_option maxRecDepth 100000 in
theorem c_X8_way (l : Launch) (D : va_G) (cI cZ : ClassId) (aR : Nat → Nat) (xs ys lf ev nm lb kd pt so nu al ak ap he le rw cx cr cl ll tl ts tc : Int → Int) (sz mn ac en mg ln cn wc wp : Int) (sz0 : Nat) (hd : Dok xs ys lf sz) : Met l yX8_way wsX8_way ({ frames := 2, cells := 0, slots := 0, locals := 41 } : Room) (zPc D cI cZ [.ref (aR 0)] (wR cI cZ aR xs ys lf ev nm lb kd pt so nu al ak ap he le rw cx cr cl ll tl ts tc sz mn ac en mg ln cn wc wp) sz0) (zQi D cI cZ (wR cI cZ aR xs ys lf ev nm lb kd pt so nu al ak ap he le rw cx cr cl ll tl ts tc sz mn ac en mg ln cn wc wp) sz0 (fun (r : Int) (u : Unit) => r = wy xs ys lf sz) (fun (u : Unit) => wR cI cZ aR xs ys lf ev nm lb kd pt so nu al ak ap he le rw cx cr cl ll tl ts tc sz mn ac en mg ln cn wc wp)) 0 0 (va_A (wR cI cZ aR xs ys lf ev nm lb kd pt so nu al ak ap he le rw cx cr cl ll tl ts tc sz mn ac en mg ln cn wc wp) sz0) := by
  have hs := hd.1
  refine z_ofI (maxL := 3) (plainFor_of_name (by decide)) rfl (Nat.le_of_ble_eq_true rfl) (Or.inl rfl) ?_
  intro p e s m below meth c A ls Q F hK hW hA hl hret
  have hl : lv_has ls 3 [(0, .ref (aR 0))] := hl
  have inX8 : ∀ w ∈ u_ws RX8 TX8 32, w ∈ wsX8_way := fun _ h => List.mem_cons_of_mem _ (List.mem_append_right _ h)
  refine z_iconst F (pc := 0) (0) dX8_way_0 ?_
  refine z_istoren F (pc := 1) hl (lv' := [(1, .int (iI 0)), (0, .ref (aR 0))]) dX8_way_1 rfl (by decide) rfl (fun ls hl => ?_)
  refine z_iconst F (pc := 2) (0) dX8_way_2 ?_
  refine z_istoren F (pc := 3) hl (lv' := [(2, .int (iI 0)), (1, .int (iI 0)), (0, .ref (aR 0))]) dX8_way_3 rfl (by decide) rfl (fun ls hl => ?_)
  have cut_4 : ∀ (fuel : Nat) (sm : Int) (q : Int) (H : Heap) (locs : List Loc) (ls : Array Slot), (sz - q).toNat < fuel → (0 ≤ q ∧ q ≤ sz) → (sm = wy xs ys lf q) → lv_has ls 3 [(2, .int (iI q)), (1, .int (iI sm)), (0, .ref (aR 0))] → zW D A s.heap H locs (wR cI cZ aR xs ys lf ev nm lb kd pt so nu al ak ap he le rw cx cr cl ll tl ts tc sz mn ac en mg ln cn wc wp) → W p l e ({ frames := 2, cells := 0, slots := 0, locals := 41 } : Room) s m ([.ref (aR 0)] : List Value).toArray below meth c H locs 0 0 Q (F0 m 4 ls []) := by
    intro fuel
    induction fuel with
    | zero => intro sm q H locs ls hm; exact absurd hm (Nat.not_lt_zero _)
    | succ fuel ih_4 =>
      intro sm q H locs ls hm_4 h1 h2 hl hW
      refine z_iloadn F (pc := 4) dX8_way_4 rfl (lv_at hl 0 rfl) ?_
      refine z_aloadn F (pc := 5) dX8_way_5 rfl (lv_at hl 2 rfl) ?_
      refine z_get F (pc := 6) (C := RX8) (T := TX8) (N := 32) (ci := 8) inX8 hK hW 0 0 rfl rfl (by decide) rfl (List.mem_of_getElem? (i := 1) rfl) (v := .int (iI sz)) rfl dX8_way_6 ?_
      refine z_icmp_ge F (pc := 9) 26 dX8_way_9 (by decide) (by omega) (fun c_9 => ?_) (fun c_9 => ?_)
      · skip
        have ex : sm = wy xs ys lf sz := by rw [h2, show q = sz by omega]
        have hw := wy_r hd (q := sz) (Int.le_refl _)
        refine z_iloadn F (pc := 26) dX8_way_26 rfl (lv_at hl 1 rfl) ?_
        exact hret _ _ _ _ sm () dX8_way_27 (by omega) (by exact ex) hW
      · skip
        refine z_iloadn F (pc := 12) dX8_way_12 rfl (lv_at hl 1 rfl) ?_
        refine z_aloadn F (pc := 13) dX8_way_13 rfl (lv_at hl 2 rfl) ?_
        refine z_iloadn F (pc := 14) dX8_way_14 rfl (lv_at hl 0 rfl) ?_
        refine z_callVi F (pc := 15) hK hW hA (As := [.int (iI q)]) (rest := [.int (iI sm)]) (ws' := fun (u : Unit) => wR cI cZ aR xs ys lf ev nm lb kd pt so nu al ak ap he le rw cx cr cl ll tl ts tc sz mn ac en mg ln cn wc wp) (wr := ([])) (c_X8_drawn l D cI cZ aR xs ys lf ev nm lb kd pt so nu al ak ap he le rw cx cr cl ll tl ts tc sz mn ac en mg ln cn wc wp q _ (by omega) (by exact hd) (by omega)) (cwV 1 F.2.2.2.2 gX8_way_X8_drawn rfl rfl rfl (by decide +kernel) ⟨Nat.le_of_ble_eq_true rfl, Nat.le_of_ble_eq_true rfl⟩) [0, 1, 2, 3, 4, 5, 6, 7, 8, 9, 10, 11, 12, 13, 14, 15, 16, 17, 18, 19, 20, 21, 22, 23] [] [0, 1, 2, 3, 4, 5, 6, 7, 8, 9, 10, 11, 12, 13, 14, 15, 16, 17, 18, 19, 20, 21, 22, 23] rfl rfl (by decide) (by decide) (by decide) (fun _ => rfl) (by decide) (q0 := 0) (ci := 8) rfl rfl rfl rfl rfl hl.1 (Nat.le_of_ble_eq_true rfl) dX8_way_15 ⟨Nat.le_of_ble_eq_true rfl, Nat.le_of_ble_eq_true rfl⟩ (fun z_15 u H locs r_z_15 hp_15 hW => ?_)
        replace hp_15 := hp_15.symm
        subst hp_15
        refine z_iadd F (pc := 18) dX8_way_18 ?_
        refine z_istoren F (pc := 19) hl (lv' := [(1, .int (iI (sm + (dz xs ys lf q)))), (2, .int (iI q)), (0, .ref (aR 0))]) dX8_way_19 rfl (by decide) rfl (fun ls hl => ?_)
        refine z_iinc F (pc := 20) hl (lv' := [(2, .int (iI (q + 1))), (1, .int (iI (sm + (dz xs ys lf q)))), (0, .ref (aR 0))]) dX8_way_20 (k := 1) rfl (by decide) rfl (fun ls hl => ?_)
        refine z_goto F (pc := 23) 4 dX8_way_23 (by decide) ?_
        exact ih_4 (sm + (dz xs ys lf q)) (q + 1) _ _ _ (by omega) (by omega) (by rw [wy_z xs ys lf h1.1]; omega) (lv_sub hl [0, 1, 2] rfl) hW
  exact cut_4 _ 0 0 _ _ _ (Nat.lt_succ_self _) (by omega) (by exact (wy_0 xs ys lf (by omega)).symm) (lv_sub hl [0, 1, 2] rfl) hW
