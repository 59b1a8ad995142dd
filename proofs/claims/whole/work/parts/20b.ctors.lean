set_option maxHeartbeats 4000000 in
set_option maxRecDepth 100000 in
theorem n_X0_init (l : Launch) (D : va_G) (cI cZ : ClassId) (a sz0 : Nat) : Met l yX0_init wsX0_init ({ frames := 1, cells := 5, slots := 120, locals := 20 } : Room) (zPc D cI cZ [.ref a] [(a, .inr (0, [.null, .null, .null, .null, .null, .int (iI 0), .int (iI 0)]))] sz0) (zQv D cI cZ [(a, .inr (0, [.null, .null, .null, .null, .null, .int (iI 0), .int (iI 0)]))] sz0 (fun (u : Nat → Nat) => u 0 = a) (fun (u : Nat → Nat) => wA cI cZ u z0 z0 z0 z0 z0 0 0)) 5 120 (va_A [(a, .inr (0, [.null, .null, .null, .null, .null, .int (iI 0), .int (iI 0)]))] sz0) := by
  refine z_ofN (maxL := 1) (plainFor_of_name (by decide)) rfl (Nat.le_of_ble_eq_true rfl) ?_
  intro p e s m below meth c A ls Q F hK hW hA hl hnm hret
  have hname := hnm rfl
  have hl : lv_has ls 1 [(0, .ref a)] := hl
  have inX0 : ∀ w ∈ u_ws RX0 TX0 7, w ∈ wsX0_init := fun _ h => List.mem_cons_of_mem _ (List.mem_append_right _ h)
  refine z_aloadn F (pc := 0) dX0_init_0 rfl (lv_at hl 0 rfl) ?_
  refine z_obj F (pc := 1) hl.1 (List.mem_of_getElem? (i := 1) rfl) (List.mem_of_getElem? (i := 2) rfl) (List.mem_of_getElem? (i := 3) rfl) (Nat.le_of_ble_eq_true rfl) (Nat.le_of_ble_eq_true rfl) (Nat.le_of_ble_eq_true rfl) dX0_init_1 ?_
  refine z_aloadn F (pc := 4) dX0_init_4 rfl (lv_at hl 0 rfl) ?_
  refine z_bipush F (pc := 5) (6) (by decide +kernel) dX0_init_5 ?_
  refine z_newI F (pc := 7) hK hW hA 6 (List.mem_of_getElem? (i := 4) rfl) (by decide) (Nat.le_of_ble_eq_true rfl) (Nat.le_of_ble_eq_true rfl) dX0_init_7 (fun q1 H hW => ?_)
  refine z_putF F (pc := 9) (T := TX0) (N := 7) (ci := 0) inX0 tyX0 tyX0_ok nmX0 hK hW (ws' := [(a, .inr (0, [.ref q1, .null, .null, .null, .null, .int (iI 0), .int (iI 0)])), (q1, .inl (cI, 6, .inl (zA z0)))]) 0 0 rfl rfl (by decide) rfl (List.mem_of_getElem? (i := 5) rfl) rfl hname rfl rfl (Nat.le_of_ble_eq_true rfl) dX0_init_9 rfl (fun H locs hW => ?_)
  refine z_aloadn F (pc := 12) dX0_init_12 rfl (lv_at hl 0 rfl) ?_
  refine z_bipush F (pc := 13) (6) (by decide +kernel) dX0_init_13 ?_
  refine z_newI F (pc := 15) hK hW hA 6 (List.mem_of_getElem? (i := 4) rfl) (by decide) (Nat.le_of_ble_eq_true rfl) (Nat.le_of_ble_eq_true rfl) dX0_init_15 (fun q2 H hW => ?_)
  refine z_putF F (pc := 17) (T := TX0) (N := 7) (ci := 0) inX0 tyX0 tyX0_ok nmX0 hK hW (ws' := [(a, .inr (0, [.ref q1, .ref q2, .null, .null, .null, .int (iI 0), .int (iI 0)])), (q1, .inl (cI, 6, .inl (zA z0))), (q2, .inl (cI, 6, .inl (zA z0)))]) 0 1 rfl rfl (by decide) rfl (List.mem_of_getElem? (i := 6) rfl) rfl hname rfl rfl (Nat.le_of_ble_eq_true rfl) dX0_init_17 rfl (fun H locs hW => ?_)
  refine z_aloadn F (pc := 20) dX0_init_20 rfl (lv_at hl 0 rfl) ?_
  refine z_bipush F (pc := 21) (6) (by decide +kernel) dX0_init_21 ?_
  refine z_newI F (pc := 23) hK hW hA 6 (List.mem_of_getElem? (i := 4) rfl) (by decide) (Nat.le_of_ble_eq_true rfl) (Nat.le_of_ble_eq_true rfl) dX0_init_23 (fun q3 H hW => ?_)
  refine z_putF F (pc := 25) (T := TX0) (N := 7) (ci := 0) inX0 tyX0 tyX0_ok nmX0 hK hW (ws' := [(a, .inr (0, [.ref q1, .ref q2, .ref q3, .null, .null, .int (iI 0), .int (iI 0)])), (q1, .inl (cI, 6, .inl (zA z0))), (q2, .inl (cI, 6, .inl (zA z0))), (q3, .inl (cI, 6, .inl (zA z0)))]) 0 2 rfl rfl (by decide) rfl (List.mem_of_getElem? (i := 7) rfl) rfl hname rfl rfl (Nat.le_of_ble_eq_true rfl) dX0_init_25 rfl (fun H locs hW => ?_)
  refine z_aloadn F (pc := 28) dX0_init_28 rfl (lv_at hl 0 rfl) ?_
  refine z_bipush F (pc := 29) (6) (by decide +kernel) dX0_init_29 ?_
  refine z_newI F (pc := 31) hK hW hA 6 (List.mem_of_getElem? (i := 4) rfl) (by decide) (Nat.le_of_ble_eq_true rfl) (Nat.le_of_ble_eq_true rfl) dX0_init_31 (fun q4 H hW => ?_)
  refine z_putF F (pc := 33) (T := TX0) (N := 7) (ci := 0) inX0 tyX0 tyX0_ok nmX0 hK hW (ws' := [(a, .inr (0, [.ref q1, .ref q2, .ref q3, .ref q4, .null, .int (iI 0), .int (iI 0)])), (q1, .inl (cI, 6, .inl (zA z0))), (q2, .inl (cI, 6, .inl (zA z0))), (q3, .inl (cI, 6, .inl (zA z0))), (q4, .inl (cI, 6, .inl (zA z0)))]) 0 3 rfl rfl (by decide) rfl (List.mem_of_getElem? (i := 8) rfl) rfl hname rfl rfl (Nat.le_of_ble_eq_true rfl) dX0_init_33 rfl (fun H locs hW => ?_)
  refine z_aloadn F (pc := 36) dX0_init_36 rfl (lv_at hl 0 rfl) ?_
  refine z_bipush F (pc := 37) (96) (by decide +kernel) dX0_init_37 ?_
  refine z_newI F (pc := 39) hK hW hA 96 (List.mem_of_getElem? (i := 4) rfl) (by decide) (Nat.le_of_ble_eq_true rfl) (Nat.le_of_ble_eq_true rfl) dX0_init_39 (fun q5 H hW => ?_)
  refine z_putF F (pc := 41) (T := TX0) (N := 7) (ci := 0) inX0 tyX0 tyX0_ok nmX0 hK hW (ws' := [(a, .inr (0, [.ref q1, .ref q2, .ref q3, .ref q4, .ref q5, .int (iI 0), .int (iI 0)])), (q1, .inl (cI, 6, .inl (zA z0))), (q2, .inl (cI, 6, .inl (zA z0))), (q3, .inl (cI, 6, .inl (zA z0))), (q4, .inl (cI, 6, .inl (zA z0))), (q5, .inl (cI, 96, .inl (zA z0)))]) 0 4 rfl rfl (by decide) rfl (List.mem_of_getElem? (i := 9) rfl) rfl hname rfl rfl (Nat.le_of_ble_eq_true rfl) dX0_init_41 rfl (fun H locs hW => ?_)
  refine z_aloadn F (pc := 44) dX0_init_44 rfl (lv_at hl 0 rfl) ?_
  refine z_iconst F (pc := 45) (0) dX0_init_45 ?_
  refine z_put F (pc := 46) (C := RX0) (T := TX0) (N := 7) (ci := 0) inX0 tyX0 tyX0_ok nmX0 hK hW (ws' := [(a, .inr (0, [.ref q1, .ref q2, .ref q3, .ref q4, .ref q5, .int (iI 0), .int (iI 0)])), (q1, .inl (cI, 6, .inl (zA z0))), (q2, .inl (cI, 6, .inl (zA z0))), (q3, .inl (cI, 6, .inl (zA z0))), (q4, .inl (cI, 6, .inl (zA z0))), (q5, .inl (cI, 96, .inl (zA z0)))]) 0 5 rfl rfl (by decide) rfl (List.mem_of_getElem? (i := 10) rfl) rfl rfl (Nat.le_of_ble_eq_true rfl) dX0_init_46 rfl (fun H locs hW => ?_)
  refine z_aloadn F (pc := 49) dX0_init_49 rfl (lv_at hl 0 rfl) ?_
  refine z_iconst F (pc := 50) (0) dX0_init_50 ?_
  refine z_put F (pc := 51) (C := RX0) (T := TX0) (N := 7) (ci := 0) inX0 tyX0 tyX0_ok nmX0 hK hW (ws' := [(a, .inr (0, [.ref q1, .ref q2, .ref q3, .ref q4, .ref q5, .int (iI 0), .int (iI 0)])), (q1, .inl (cI, 6, .inl (zA z0))), (q2, .inl (cI, 6, .inl (zA z0))), (q3, .inl (cI, 6, .inl (zA z0))), (q4, .inl (cI, 6, .inl (zA z0))), (q5, .inl (cI, 96, .inl (zA z0)))]) 0 6 rfl rfl (by decide) rfl (List.mem_of_getElem? (i := 11) rfl) rfl rfl (Nat.le_of_ble_eq_true rfl) dX0_init_51 rfl (fun H locs hW => ?_)
  exact hret _ _ _ _ (fun k => match k with | 0 => a | 1 => q1 | 2 => q2 | 3 => q3 | 4 => q4 | 5 => q5 | _ => 0) dX0_init_54 rfl hW

set_option maxHeartbeats 4000000 in
set_option maxRecDepth 100000 in
theorem n_X1_init (l : Launch) (D : va_G) (cI cZ : ClassId) (a sz0 : Nat) : Met l yX1_init wsX1_init ({ frames := 1, cells := 4, slots := 70, locals := 20 } : Room) (zPc D cI cZ [.ref a] [(a, .inr (1, [.null, .null, .null, .null, .int (iI 0)]))] sz0) (zQv D cI cZ [(a, .inr (1, [.null, .null, .null, .null, .int (iI 0)]))] sz0 (fun (u : Nat → Nat) => u 0 = a) (fun (u : Nat → Nat) => wC cI cZ u z0 z0 z0 z0 0)) 4 70 (va_A [(a, .inr (1, [.null, .null, .null, .null, .int (iI 0)]))] sz0) := by
  refine z_ofN (maxL := 1) (plainFor_of_name (by decide)) rfl (Nat.le_of_ble_eq_true rfl) ?_
  intro p e s m below meth c A ls Q F hK hW hA hl hnm hret
  have hname := hnm rfl
  have hl : lv_has ls 1 [(0, .ref a)] := hl
  have inX1 : ∀ w ∈ u_ws RX1 TX1 5, w ∈ wsX1_init := fun _ h => List.mem_cons_of_mem _ (List.mem_append_right _ h)
  refine z_aloadn F (pc := 0) dX1_init_0 rfl (lv_at hl 0 rfl) ?_
  refine z_obj F (pc := 1) hl.1 (List.mem_of_getElem? (i := 1) rfl) (List.mem_of_getElem? (i := 2) rfl) (List.mem_of_getElem? (i := 3) rfl) (Nat.le_of_ble_eq_true rfl) (Nat.le_of_ble_eq_true rfl) (Nat.le_of_ble_eq_true rfl) dX1_init_1 ?_
  refine z_aloadn F (pc := 4) dX1_init_4 rfl (lv_at hl 0 rfl) ?_
  refine z_bipush F (pc := 5) (10) (by decide +kernel) dX1_init_5 ?_
  refine z_newI F (pc := 7) hK hW hA 10 (List.mem_of_getElem? (i := 4) rfl) (by decide) (Nat.le_of_ble_eq_true rfl) (Nat.le_of_ble_eq_true rfl) dX1_init_7 (fun q1 H hW => ?_)
  refine z_putF F (pc := 9) (T := TX1) (N := 5) (ci := 1) inX1 tyX1 tyX1_ok nmX1 hK hW (ws' := [(a, .inr (1, [.ref q1, .null, .null, .null, .int (iI 0)])), (q1, .inl (cI, 10, .inl (zA z0)))]) 0 0 rfl rfl (by decide) rfl (List.mem_of_getElem? (i := 5) rfl) rfl hname rfl rfl (Nat.le_of_ble_eq_true rfl) dX1_init_9 rfl (fun H locs hW => ?_)
  refine z_aloadn F (pc := 12) dX1_init_12 rfl (lv_at hl 0 rfl) ?_
  refine z_bipush F (pc := 13) (10) (by decide +kernel) dX1_init_13 ?_
  refine z_newI F (pc := 15) hK hW hA 10 (List.mem_of_getElem? (i := 4) rfl) (by decide) (Nat.le_of_ble_eq_true rfl) (Nat.le_of_ble_eq_true rfl) dX1_init_15 (fun q2 H hW => ?_)
  refine z_putF F (pc := 17) (T := TX1) (N := 5) (ci := 1) inX1 tyX1 tyX1_ok nmX1 hK hW (ws' := [(a, .inr (1, [.ref q1, .ref q2, .null, .null, .int (iI 0)])), (q1, .inl (cI, 10, .inl (zA z0))), (q2, .inl (cI, 10, .inl (zA z0)))]) 0 1 rfl rfl (by decide) rfl (List.mem_of_getElem? (i := 6) rfl) rfl hname rfl rfl (Nat.le_of_ble_eq_true rfl) dX1_init_17 rfl (fun H locs hW => ?_)
  refine z_aloadn F (pc := 20) dX1_init_20 rfl (lv_at hl 0 rfl) ?_
  refine z_bipush F (pc := 21) (10) (by decide +kernel) dX1_init_21 ?_
  refine z_newI F (pc := 23) hK hW hA 10 (List.mem_of_getElem? (i := 4) rfl) (by decide) (Nat.le_of_ble_eq_true rfl) (Nat.le_of_ble_eq_true rfl) dX1_init_23 (fun q3 H hW => ?_)
  refine z_putF F (pc := 25) (T := TX1) (N := 5) (ci := 1) inX1 tyX1 tyX1_ok nmX1 hK hW (ws' := [(a, .inr (1, [.ref q1, .ref q2, .ref q3, .null, .int (iI 0)])), (q1, .inl (cI, 10, .inl (zA z0))), (q2, .inl (cI, 10, .inl (zA z0))), (q3, .inl (cI, 10, .inl (zA z0)))]) 0 2 rfl rfl (by decide) rfl (List.mem_of_getElem? (i := 7) rfl) rfl hname rfl rfl (Nat.le_of_ble_eq_true rfl) dX1_init_25 rfl (fun H locs hW => ?_)
  refine z_aloadn F (pc := 28) dX1_init_28 rfl (lv_at hl 0 rfl) ?_
  refine z_bipush F (pc := 29) (40) (by decide +kernel) dX1_init_29 ?_
  refine z_newI F (pc := 31) hK hW hA 40 (List.mem_of_getElem? (i := 4) rfl) (by decide) (Nat.le_of_ble_eq_true rfl) (Nat.le_of_ble_eq_true rfl) dX1_init_31 (fun q4 H hW => ?_)
  refine z_putF F (pc := 33) (T := TX1) (N := 5) (ci := 1) inX1 tyX1 tyX1_ok nmX1 hK hW (ws' := [(a, .inr (1, [.ref q1, .ref q2, .ref q3, .ref q4, .int (iI 0)])), (q1, .inl (cI, 10, .inl (zA z0))), (q2, .inl (cI, 10, .inl (zA z0))), (q3, .inl (cI, 10, .inl (zA z0))), (q4, .inl (cI, 40, .inl (zA z0)))]) 0 3 rfl rfl (by decide) rfl (List.mem_of_getElem? (i := 8) rfl) rfl hname rfl rfl (Nat.le_of_ble_eq_true rfl) dX1_init_33 rfl (fun H locs hW => ?_)
  refine z_aloadn F (pc := 36) dX1_init_36 rfl (lv_at hl 0 rfl) ?_
  refine z_iconst F (pc := 37) (0) dX1_init_37 ?_
  refine z_put F (pc := 38) (C := RX1) (T := TX1) (N := 5) (ci := 1) inX1 tyX1 tyX1_ok nmX1 hK hW (ws' := [(a, .inr (1, [.ref q1, .ref q2, .ref q3, .ref q4, .int (iI 0)])), (q1, .inl (cI, 10, .inl (zA z0))), (q2, .inl (cI, 10, .inl (zA z0))), (q3, .inl (cI, 10, .inl (zA z0))), (q4, .inl (cI, 40, .inl (zA z0)))]) 0 4 rfl rfl (by decide) rfl (List.mem_of_getElem? (i := 9) rfl) rfl rfl (Nat.le_of_ble_eq_true rfl) dX1_init_38 rfl (fun H locs hW => ?_)
  exact hret _ _ _ _ (fun k => match k with | 0 => a | 1 => q1 | 2 => q2 | 3 => q3 | 4 => q4 | _ => 0) dX1_init_41 rfl hW

set_option maxHeartbeats 4000000 in
set_option maxRecDepth 100000 in
theorem n_X2_init (l : Launch) (D : va_G) (cI cZ : ClassId) (a sz0 : Nat) : Met l yX2_init wsX2_init ({ frames := 1, cells := 5, slots := 122, locals := 20 } : Room) (zPc D cI cZ [.ref a] [(a, .inr (2, [.null, .null, .null, .null, .null, .int (iI 0)]))] sz0) (zQv D cI cZ [(a, .inr (2, [.null, .null, .null, .null, .null, .int (iI 0)]))] sz0 (fun (u : Nat → Nat) => u 0 = a) (fun (u : Nat → Nat) => wD cI cZ u z0 z0 z0 z0 z0 0)) 5 122 (va_A [(a, .inr (2, [.null, .null, .null, .null, .null, .int (iI 0)]))] sz0) := by
  refine z_ofN (maxL := 1) (plainFor_of_name (by decide)) rfl (Nat.le_of_ble_eq_true rfl) ?_
  intro p e s m below meth c A ls Q F hK hW hA hl hnm hret
  have hname := hnm rfl
  have hl : lv_has ls 1 [(0, .ref a)] := hl
  have inX2 : ∀ w ∈ u_ws RX2 TX2 6, w ∈ wsX2_init := fun _ h => List.mem_cons_of_mem _ (List.mem_append_right _ h)
  refine z_aloadn F (pc := 0) dX2_init_0 rfl (lv_at hl 0 rfl) ?_
  refine z_obj F (pc := 1) hl.1 (List.mem_of_getElem? (i := 1) rfl) (List.mem_of_getElem? (i := 2) rfl) (List.mem_of_getElem? (i := 3) rfl) (Nat.le_of_ble_eq_true rfl) (Nat.le_of_ble_eq_true rfl) (Nat.le_of_ble_eq_true rfl) dX2_init_1 ?_
  refine z_aloadn F (pc := 4) dX2_init_4 rfl (lv_at hl 0 rfl) ?_
  refine z_bipush F (pc := 5) (30) (by decide +kernel) dX2_init_5 ?_
  refine z_newI F (pc := 7) hK hW hA 30 (List.mem_of_getElem? (i := 4) rfl) (by decide) (Nat.le_of_ble_eq_true rfl) (Nat.le_of_ble_eq_true rfl) dX2_init_7 (fun q1 H hW => ?_)
  refine z_putF F (pc := 9) (T := TX2) (N := 6) (ci := 2) inX2 tyX2 tyX2_ok nmX2 hK hW (ws' := [(a, .inr (2, [.ref q1, .null, .null, .null, .null, .int (iI 0)])), (q1, .inl (cI, 30, .inl (zA z0)))]) 0 0 rfl rfl (by decide) rfl (List.mem_of_getElem? (i := 5) rfl) rfl hname rfl rfl (Nat.le_of_ble_eq_true rfl) dX2_init_9 rfl (fun H locs hW => ?_)
  refine z_aloadn F (pc := 12) dX2_init_12 rfl (lv_at hl 0 rfl) ?_
  refine z_bipush F (pc := 13) (30) (by decide +kernel) dX2_init_13 ?_
  refine z_newI F (pc := 15) hK hW hA 30 (List.mem_of_getElem? (i := 4) rfl) (by decide) (Nat.le_of_ble_eq_true rfl) (Nat.le_of_ble_eq_true rfl) dX2_init_15 (fun q2 H hW => ?_)
  refine z_putF F (pc := 17) (T := TX2) (N := 6) (ci := 2) inX2 tyX2 tyX2_ok nmX2 hK hW (ws' := [(a, .inr (2, [.ref q1, .ref q2, .null, .null, .null, .int (iI 0)])), (q1, .inl (cI, 30, .inl (zA z0))), (q2, .inl (cI, 30, .inl (zA z0)))]) 0 1 rfl rfl (by decide) rfl (List.mem_of_getElem? (i := 6) rfl) rfl hname rfl rfl (Nat.le_of_ble_eq_true rfl) dX2_init_17 rfl (fun H locs hW => ?_)
  refine z_aloadn F (pc := 20) dX2_init_20 rfl (lv_at hl 0 rfl) ?_
  refine z_bipush F (pc := 21) (30) (by decide +kernel) dX2_init_21 ?_
  refine z_newZ F (pc := 23) hK hW hA 30 (List.mem_of_getElem? (i := 7) rfl) (by decide) (Nat.le_of_ble_eq_true rfl) (Nat.le_of_ble_eq_true rfl) dX2_init_23 (fun q3 H hW => ?_)
  refine z_putF F (pc := 25) (T := TX2) (N := 6) (ci := 2) inX2 tyX2 tyX2_ok nmX2 hK hW (ws' := [(a, .inr (2, [.ref q1, .ref q2, .ref q3, .null, .null, .int (iI 0)])), (q1, .inl (cI, 30, .inl (zA z0))), (q2, .inl (cI, 30, .inl (zA z0))), (q3, .inl (cZ, 30, .inl (zA z0)))]) 0 2 rfl rfl (by decide) rfl (List.mem_of_getElem? (i := 8) rfl) rfl hname rfl rfl (Nat.le_of_ble_eq_true rfl) dX2_init_25 rfl (fun H locs hW => ?_)
  refine z_aloadn F (pc := 28) dX2_init_28 rfl (lv_at hl 0 rfl) ?_
  refine z_bipush F (pc := 29) (16) (by decide +kernel) dX2_init_29 ?_
  refine z_newI F (pc := 31) hK hW hA 16 (List.mem_of_getElem? (i := 4) rfl) (by decide) (Nat.le_of_ble_eq_true rfl) (Nat.le_of_ble_eq_true rfl) dX2_init_31 (fun q4 H hW => ?_)
  refine z_putF F (pc := 33) (T := TX2) (N := 6) (ci := 2) inX2 tyX2 tyX2_ok nmX2 hK hW (ws' := [(a, .inr (2, [.ref q1, .ref q2, .ref q3, .ref q4, .null, .int (iI 0)])), (q1, .inl (cI, 30, .inl (zA z0))), (q2, .inl (cI, 30, .inl (zA z0))), (q3, .inl (cZ, 30, .inl (zA z0))), (q4, .inl (cI, 16, .inl (zA z0)))]) 0 3 rfl rfl (by decide) rfl (List.mem_of_getElem? (i := 9) rfl) rfl hname rfl rfl (Nat.le_of_ble_eq_true rfl) dX2_init_33 rfl (fun H locs hW => ?_)
  refine z_aloadn F (pc := 36) dX2_init_36 rfl (lv_at hl 0 rfl) ?_
  refine z_bipush F (pc := 37) (16) (by decide +kernel) dX2_init_37 ?_
  refine z_newI F (pc := 39) hK hW hA 16 (List.mem_of_getElem? (i := 4) rfl) (by decide) (Nat.le_of_ble_eq_true rfl) (Nat.le_of_ble_eq_true rfl) dX2_init_39 (fun q5 H hW => ?_)
  refine z_putF F (pc := 41) (T := TX2) (N := 6) (ci := 2) inX2 tyX2 tyX2_ok nmX2 hK hW (ws' := [(a, .inr (2, [.ref q1, .ref q2, .ref q3, .ref q4, .ref q5, .int (iI 0)])), (q1, .inl (cI, 30, .inl (zA z0))), (q2, .inl (cI, 30, .inl (zA z0))), (q3, .inl (cZ, 30, .inl (zA z0))), (q4, .inl (cI, 16, .inl (zA z0))), (q5, .inl (cI, 16, .inl (zA z0)))]) 0 4 rfl rfl (by decide) rfl (List.mem_of_getElem? (i := 10) rfl) rfl hname rfl rfl (Nat.le_of_ble_eq_true rfl) dX2_init_41 rfl (fun H locs hW => ?_)
  refine z_aloadn F (pc := 44) dX2_init_44 rfl (lv_at hl 0 rfl) ?_
  refine z_iconst F (pc := 45) (0) dX2_init_45 ?_
  refine z_put F (pc := 46) (C := RX2) (T := TX2) (N := 6) (ci := 2) inX2 tyX2 tyX2_ok nmX2 hK hW (ws' := [(a, .inr (2, [.ref q1, .ref q2, .ref q3, .ref q4, .ref q5, .int (iI 0)])), (q1, .inl (cI, 30, .inl (zA z0))), (q2, .inl (cI, 30, .inl (zA z0))), (q3, .inl (cZ, 30, .inl (zA z0))), (q4, .inl (cI, 16, .inl (zA z0))), (q5, .inl (cI, 16, .inl (zA z0)))]) 0 5 rfl rfl (by decide) rfl (List.mem_of_getElem? (i := 11) rfl) rfl rfl (Nat.le_of_ble_eq_true rfl) dX2_init_46 rfl (fun H locs hW => ?_)
  exact hret _ _ _ _ (fun k => match k with | 0 => a | 1 => q1 | 2 => q2 | 3 => q3 | 4 => q4 | 5 => q5 | _ => 0) dX2_init_49 rfl hW

set_option maxHeartbeats 4000000 in
set_option maxRecDepth 100000 in
theorem n_X3_init (l : Launch) (D : va_G) (cI cZ : ClassId) (a sz0 : Nat) : Met l yX3_init wsX3_init ({ frames := 1, cells := 3, slots := 120, locals := 20 } : Room) (zPc D cI cZ [.ref a] [(a, .inr (3, [.null, .null, .null, .int (iI 0), .int (iI 0)]))] sz0) (zQv D cI cZ [(a, .inr (3, [.null, .null, .null, .int (iI 0), .int (iI 0)]))] sz0 (fun (u : Nat → Nat) => u 0 = a) (fun (u : Nat → Nat) => wL cI cZ u z0 z0 z0 0 0)) 3 120 (va_A [(a, .inr (3, [.null, .null, .null, .int (iI 0), .int (iI 0)]))] sz0) := by
  refine z_ofN (maxL := 1) (plainFor_of_name (by decide)) rfl (Nat.le_of_ble_eq_true rfl) ?_
  intro p e s m below meth c A ls Q F hK hW hA hl hnm hret
  have hname := hnm rfl
  have hl : lv_has ls 1 [(0, .ref a)] := hl
  have inX3 : ∀ w ∈ u_ws RX3 TX3 5, w ∈ wsX3_init := fun _ h => List.mem_cons_of_mem _ (List.mem_append_right _ h)
  refine z_aloadn F (pc := 0) dX3_init_0 rfl (lv_at hl 0 rfl) ?_
  refine z_obj F (pc := 1) hl.1 (List.mem_of_getElem? (i := 1) rfl) (List.mem_of_getElem? (i := 2) rfl) (List.mem_of_getElem? (i := 3) rfl) (Nat.le_of_ble_eq_true rfl) (Nat.le_of_ble_eq_true rfl) (Nat.le_of_ble_eq_true rfl) dX3_init_1 ?_
  refine z_aloadn F (pc := 4) dX3_init_4 rfl (lv_at hl 0 rfl) ?_
  refine z_bipush F (pc := 5) (40) (by decide +kernel) dX3_init_5 ?_
  refine z_newI F (pc := 7) hK hW hA 40 (List.mem_of_getElem? (i := 4) rfl) (by decide) (Nat.le_of_ble_eq_true rfl) (Nat.le_of_ble_eq_true rfl) dX3_init_7 (fun q1 H hW => ?_)
  refine z_putF F (pc := 9) (T := TX3) (N := 5) (ci := 3) inX3 tyX3 tyX3_ok nmX3 hK hW (ws' := [(a, .inr (3, [.ref q1, .null, .null, .int (iI 0), .int (iI 0)])), (q1, .inl (cI, 40, .inl (zA z0)))]) 0 0 rfl rfl (by decide) rfl (List.mem_of_getElem? (i := 5) rfl) rfl hname rfl rfl (Nat.le_of_ble_eq_true rfl) dX3_init_9 rfl (fun H locs hW => ?_)
  refine z_aloadn F (pc := 12) dX3_init_12 rfl (lv_at hl 0 rfl) ?_
  refine z_bipush F (pc := 13) (40) (by decide +kernel) dX3_init_13 ?_
  refine z_newI F (pc := 15) hK hW hA 40 (List.mem_of_getElem? (i := 4) rfl) (by decide) (Nat.le_of_ble_eq_true rfl) (Nat.le_of_ble_eq_true rfl) dX3_init_15 (fun q2 H hW => ?_)
  refine z_putF F (pc := 17) (T := TX3) (N := 5) (ci := 3) inX3 tyX3 tyX3_ok nmX3 hK hW (ws' := [(a, .inr (3, [.ref q1, .ref q2, .null, .int (iI 0), .int (iI 0)])), (q1, .inl (cI, 40, .inl (zA z0))), (q2, .inl (cI, 40, .inl (zA z0)))]) 0 1 rfl rfl (by decide) rfl (List.mem_of_getElem? (i := 6) rfl) rfl hname rfl rfl (Nat.le_of_ble_eq_true rfl) dX3_init_17 rfl (fun H locs hW => ?_)
  refine z_aloadn F (pc := 20) dX3_init_20 rfl (lv_at hl 0 rfl) ?_
  refine z_bipush F (pc := 21) (40) (by decide +kernel) dX3_init_21 ?_
  refine z_newI F (pc := 23) hK hW hA 40 (List.mem_of_getElem? (i := 4) rfl) (by decide) (Nat.le_of_ble_eq_true rfl) (Nat.le_of_ble_eq_true rfl) dX3_init_23 (fun q3 H hW => ?_)
  refine z_putF F (pc := 25) (T := TX3) (N := 5) (ci := 3) inX3 tyX3 tyX3_ok nmX3 hK hW (ws' := [(a, .inr (3, [.ref q1, .ref q2, .ref q3, .int (iI 0), .int (iI 0)])), (q1, .inl (cI, 40, .inl (zA z0))), (q2, .inl (cI, 40, .inl (zA z0))), (q3, .inl (cI, 40, .inl (zA z0)))]) 0 2 rfl rfl (by decide) rfl (List.mem_of_getElem? (i := 7) rfl) rfl hname rfl rfl (Nat.le_of_ble_eq_true rfl) dX3_init_25 rfl (fun H locs hW => ?_)
  refine z_aloadn F (pc := 28) dX3_init_28 rfl (lv_at hl 0 rfl) ?_
  refine z_iconst F (pc := 29) (0) dX3_init_29 ?_
  refine z_put F (pc := 30) (C := RX3) (T := TX3) (N := 5) (ci := 3) inX3 tyX3 tyX3_ok nmX3 hK hW (ws' := [(a, .inr (3, [.ref q1, .ref q2, .ref q3, .int (iI 0), .int (iI 0)])), (q1, .inl (cI, 40, .inl (zA z0))), (q2, .inl (cI, 40, .inl (zA z0))), (q3, .inl (cI, 40, .inl (zA z0)))]) 0 3 rfl rfl (by decide) rfl (List.mem_of_getElem? (i := 8) rfl) rfl rfl (Nat.le_of_ble_eq_true rfl) dX3_init_30 rfl (fun H locs hW => ?_)
  refine z_aloadn F (pc := 33) dX3_init_33 rfl (lv_at hl 0 rfl) ?_
  refine z_iconst F (pc := 34) (0) dX3_init_34 ?_
  refine z_put F (pc := 35) (C := RX3) (T := TX3) (N := 5) (ci := 3) inX3 tyX3 tyX3_ok nmX3 hK hW (ws' := [(a, .inr (3, [.ref q1, .ref q2, .ref q3, .int (iI 0), .int (iI 0)])), (q1, .inl (cI, 40, .inl (zA z0))), (q2, .inl (cI, 40, .inl (zA z0))), (q3, .inl (cI, 40, .inl (zA z0)))]) 0 4 rfl rfl (by decide) rfl (List.mem_of_getElem? (i := 9) rfl) rfl rfl (Nat.le_of_ble_eq_true rfl) dX3_init_35 rfl (fun H locs hW => ?_)
  exact hret _ _ _ _ (fun k => match k with | 0 => a | 1 => q1 | 2 => q2 | 3 => q3 | _ => 0) dX3_init_38 rfl hW

set_option maxHeartbeats 4000000 in
set_option maxRecDepth 100000 in
theorem n_X4_init (l : Launch) (D : va_G) (cI cZ : ClassId) (a sz0 : Nat) : Met l yX4_init wsX4_init ({ frames := 1, cells := 3, slots := 336, locals := 20 } : Room) (zPc D cI cZ [.ref a] [(a, .inr (4, [.null, .null, .null]))] sz0) (zQv D cI cZ [(a, .inr (4, [.null, .null, .null]))] sz0 (fun (u : Nat → Nat) => u 0 = a) (fun (u : Nat → Nat) => wS cI cZ u z0 z0 z0)) 3 336 (va_A [(a, .inr (4, [.null, .null, .null]))] sz0) := by
  refine z_ofN (maxL := 1) (plainFor_of_name (by decide)) rfl (Nat.le_of_ble_eq_true rfl) ?_
  intro p e s m below meth c A ls Q F hK hW hA hl hnm hret
  have hname := hnm rfl
  have hl : lv_has ls 1 [(0, .ref a)] := hl
  have inX4 : ∀ w ∈ u_ws RX4 TX4 3, w ∈ wsX4_init := fun _ h => List.mem_cons_of_mem _ (List.mem_append_right _ h)
  refine z_aloadn F (pc := 0) dX4_init_0 rfl (lv_at hl 0 rfl) ?_
  refine z_obj F (pc := 1) hl.1 (List.mem_of_getElem? (i := 1) rfl) (List.mem_of_getElem? (i := 2) rfl) (List.mem_of_getElem? (i := 3) rfl) (Nat.le_of_ble_eq_true rfl) (Nat.le_of_ble_eq_true rfl) (Nat.le_of_ble_eq_true rfl) dX4_init_1 ?_
  refine z_aloadn F (pc := 4) dX4_init_4 rfl (lv_at hl 0 rfl) ?_
  refine z_bipush F (pc := 5) (16) (by decide +kernel) dX4_init_5 ?_
  refine z_newI F (pc := 7) hK hW hA 16 (List.mem_of_getElem? (i := 4) rfl) (by decide) (Nat.le_of_ble_eq_true rfl) (Nat.le_of_ble_eq_true rfl) dX4_init_7 (fun q1 H hW => ?_)
  refine z_putF F (pc := 9) (T := TX4) (N := 3) (ci := 4) inX4 tyX4 tyX4_ok nmX4 hK hW (ws' := [(a, .inr (4, [.ref q1, .null, .null])), (q1, .inl (cI, 16, .inl (zA z0)))]) 0 0 rfl rfl (by decide) rfl (List.mem_of_getElem? (i := 5) rfl) rfl hname rfl rfl (Nat.le_of_ble_eq_true rfl) dX4_init_9 rfl (fun H locs hW => ?_)
  refine z_aloadn F (pc := 12) dX4_init_12 rfl (lv_at hl 0 rfl) ?_
  refine z_bipush F (pc := 13) (64) (by decide +kernel) dX4_init_13 ?_
  refine z_newI F (pc := 15) hK hW hA 64 (List.mem_of_getElem? (i := 4) rfl) (by decide) (Nat.le_of_ble_eq_true rfl) (Nat.le_of_ble_eq_true rfl) dX4_init_15 (fun q2 H hW => ?_)
  refine z_putF F (pc := 17) (T := TX4) (N := 3) (ci := 4) inX4 tyX4 tyX4_ok nmX4 hK hW (ws' := [(a, .inr (4, [.ref q1, .ref q2, .null])), (q1, .inl (cI, 16, .inl (zA z0))), (q2, .inl (cI, 64, .inl (zA z0)))]) 0 1 rfl rfl (by decide) rfl (List.mem_of_getElem? (i := 6) rfl) rfl hname rfl rfl (Nat.le_of_ble_eq_true rfl) dX4_init_17 rfl (fun H locs hW => ?_)
  refine z_aloadn F (pc := 20) dX4_init_20 rfl (lv_at hl 0 rfl) ?_
  refine z_sipush F (pc := 21) (256) (by decide +kernel) dX4_init_21 ?_
  refine z_newI F (pc := 24) hK hW hA 256 (List.mem_of_getElem? (i := 4) rfl) (by decide) (Nat.le_of_ble_eq_true rfl) (Nat.le_of_ble_eq_true rfl) dX4_init_24 (fun q3 H hW => ?_)
  refine z_putF F (pc := 26) (T := TX4) (N := 3) (ci := 4) inX4 tyX4 tyX4_ok nmX4 hK hW (ws' := [(a, .inr (4, [.ref q1, .ref q2, .ref q3])), (q1, .inl (cI, 16, .inl (zA z0))), (q2, .inl (cI, 64, .inl (zA z0))), (q3, .inl (cI, 256, .inl (zA z0)))]) 0 2 rfl rfl (by decide) rfl (List.mem_of_getElem? (i := 7) rfl) rfl hname rfl rfl (Nat.le_of_ble_eq_true rfl) dX4_init_26 rfl (fun H locs hW => ?_)
  exact hret _ _ _ _ (fun k => match k with | 0 => a | 1 => q1 | 2 => q2 | 3 => q3 | _ => 0) dX4_init_29 rfl hW

set_option maxHeartbeats 4000000 in
set_option maxRecDepth 100000 in
theorem n_X5_init (l : Launch) (D : va_G) (cI cZ : ClassId) (a sz0 : Nat) : Met l yX5_init wsX5_init ({ frames := 1, cells := 4, slots := 252, locals := 20 } : Room) (zPc D cI cZ [.ref a] [(a, .inr (5, [.null, .null, .null, .null]))] sz0) (zQv D cI cZ [(a, .inr (5, [.null, .null, .null, .null]))] sz0 (fun (u : Nat → Nat) => u 0 = a) (fun (u : Nat → Nat) => wT cI cZ u z0 z0 z0 z0)) 4 252 (va_A [(a, .inr (5, [.null, .null, .null, .null]))] sz0) := by
  refine z_ofN (maxL := 1) (plainFor_of_name (by decide)) rfl (Nat.le_of_ble_eq_true rfl) ?_
  intro p e s m below meth c A ls Q F hK hW hA hl hnm hret
  have hname := hnm rfl
  have hl : lv_has ls 1 [(0, .ref a)] := hl
  have inX5 : ∀ w ∈ u_ws RX5 TX5 4, w ∈ wsX5_init := fun _ h => List.mem_cons_of_mem _ (List.mem_append_right _ h)
  refine z_aloadn F (pc := 0) dX5_init_0 rfl (lv_at hl 0 rfl) ?_
  refine z_obj F (pc := 1) hl.1 (List.mem_of_getElem? (i := 1) rfl) (List.mem_of_getElem? (i := 2) rfl) (List.mem_of_getElem? (i := 3) rfl) (Nat.le_of_ble_eq_true rfl) (Nat.le_of_ble_eq_true rfl) (Nat.le_of_ble_eq_true rfl) dX5_init_1 ?_
  refine z_aloadn F (pc := 4) dX5_init_4 rfl (lv_at hl 0 rfl) ?_
  refine z_iconst F (pc := 5) (4) dX5_init_5 ?_
  refine z_newI F (pc := 6) hK hW hA 4 (List.mem_of_getElem? (i := 4) rfl) (by decide) (Nat.le_of_ble_eq_true rfl) (Nat.le_of_ble_eq_true rfl) dX5_init_6 (fun q1 H hW => ?_)
  refine z_putF F (pc := 8) (T := TX5) (N := 4) (ci := 5) inX5 tyX5 tyX5_ok nmX5 hK hW (ws' := [(a, .inr (5, [.ref q1, .null, .null, .null])), (q1, .inl (cI, 4, .inl (zA z0)))]) 0 0 rfl rfl (by decide) rfl (List.mem_of_getElem? (i := 5) rfl) rfl hname rfl rfl (Nat.le_of_ble_eq_true rfl) dX5_init_8 rfl (fun H locs hW => ?_)
  refine z_aloadn F (pc := 11) dX5_init_11 rfl (lv_at hl 0 rfl) ?_
  refine z_iconst F (pc := 12) (4) dX5_init_12 ?_
  refine z_newZ F (pc := 13) hK hW hA 4 (List.mem_of_getElem? (i := 6) rfl) (by decide) (Nat.le_of_ble_eq_true rfl) (Nat.le_of_ble_eq_true rfl) dX5_init_13 (fun q2 H hW => ?_)
  refine z_putF F (pc := 15) (T := TX5) (N := 4) (ci := 5) inX5 tyX5 tyX5_ok nmX5 hK hW (ws' := [(a, .inr (5, [.ref q1, .ref q2, .null, .null])), (q1, .inl (cI, 4, .inl (zA z0))), (q2, .inl (cZ, 4, .inl (zA z0)))]) 0 1 rfl rfl (by decide) rfl (List.mem_of_getElem? (i := 7) rfl) rfl hname rfl rfl (Nat.le_of_ble_eq_true rfl) dX5_init_15 rfl (fun H locs hW => ?_)
  refine z_aloadn F (pc := 18) dX5_init_18 rfl (lv_at hl 0 rfl) ?_
  refine z_iconst F (pc := 19) (4) dX5_init_19 ?_
  refine z_newI F (pc := 20) hK hW hA 4 (List.mem_of_getElem? (i := 4) rfl) (by decide) (Nat.le_of_ble_eq_true rfl) (Nat.le_of_ble_eq_true rfl) dX5_init_20 (fun q3 H hW => ?_)
  refine z_putF F (pc := 22) (T := TX5) (N := 4) (ci := 5) inX5 tyX5 tyX5_ok nmX5 hK hW (ws' := [(a, .inr (5, [.ref q1, .ref q2, .ref q3, .null])), (q1, .inl (cI, 4, .inl (zA z0))), (q2, .inl (cZ, 4, .inl (zA z0))), (q3, .inl (cI, 4, .inl (zA z0)))]) 0 2 rfl rfl (by decide) rfl (List.mem_of_getElem? (i := 8) rfl) rfl hname rfl rfl (Nat.le_of_ble_eq_true rfl) dX5_init_22 rfl (fun H locs hW => ?_)
  refine z_aloadn F (pc := 25) dX5_init_25 rfl (lv_at hl 0 rfl) ?_
  refine z_sipush F (pc := 26) (240) (by decide +kernel) dX5_init_26 ?_
  refine z_newI F (pc := 29) hK hW hA 240 (List.mem_of_getElem? (i := 4) rfl) (by decide) (Nat.le_of_ble_eq_true rfl) (Nat.le_of_ble_eq_true rfl) dX5_init_29 (fun q4 H hW => ?_)
  refine z_putF F (pc := 31) (T := TX5) (N := 4) (ci := 5) inX5 tyX5 tyX5_ok nmX5 hK hW (ws' := [(a, .inr (5, [.ref q1, .ref q2, .ref q3, .ref q4])), (q1, .inl (cI, 4, .inl (zA z0))), (q2, .inl (cZ, 4, .inl (zA z0))), (q3, .inl (cI, 4, .inl (zA z0))), (q4, .inl (cI, 240, .inl (zA z0)))]) 0 3 rfl rfl (by decide) rfl (List.mem_of_getElem? (i := 9) rfl) rfl hname rfl rfl (Nat.le_of_ble_eq_true rfl) dX5_init_31 rfl (fun H locs hW => ?_)
  exact hret _ _ _ _ (fun k => match k with | 0 => a | 1 => q1 | 2 => q2 | 3 => q3 | 4 => q4 | _ => 0) dX5_init_34 rfl hW

set_option maxHeartbeats 4000000 in
set_option maxRecDepth 100000 in
theorem n_X6_init (l : Launch) (D : va_G) (cI cZ : ClassId) (a sz0 : Nat) : Met l yX6_init wsX6_init ({ frames := 1, cells := 3, slots := 288, locals := 20 } : Room) (zPc D cI cZ [.ref a] [(a, .inr (6, [.null, .null, .null, .int (iI 0)]))] sz0) (zQv D cI cZ [(a, .inr (6, [.null, .null, .null, .int (iI 0)]))] sz0 (fun (u : Nat → Nat) => u 0 = a) (fun (u : Nat → Nat) => wM cI cZ u z0 z0 z0 0)) 3 288 (va_A [(a, .inr (6, [.null, .null, .null, .int (iI 0)]))] sz0) := by
  refine z_ofN (maxL := 1) (plainFor_of_name (by decide)) rfl (Nat.le_of_ble_eq_true rfl) ?_
  intro p e s m below meth c A ls Q F hK hW hA hl hnm hret
  have hname := hnm rfl
  have hl : lv_has ls 1 [(0, .ref a)] := hl
  have inX6 : ∀ w ∈ u_ws RX6 TX6 4, w ∈ wsX6_init := fun _ h => List.mem_cons_of_mem _ (List.mem_append_right _ h)
  refine z_aloadn F (pc := 0) dX6_init_0 rfl (lv_at hl 0 rfl) ?_
  refine z_obj F (pc := 1) hl.1 (List.mem_of_getElem? (i := 1) rfl) (List.mem_of_getElem? (i := 2) rfl) (List.mem_of_getElem? (i := 3) rfl) (Nat.le_of_ble_eq_true rfl) (Nat.le_of_ble_eq_true rfl) (Nat.le_of_ble_eq_true rfl) dX6_init_1 ?_
  refine z_aloadn F (pc := 4) dX6_init_4 rfl (lv_at hl 0 rfl) ?_
  refine z_bipush F (pc := 5) (16) (by decide +kernel) dX6_init_5 ?_
  refine z_newI F (pc := 7) hK hW hA 16 (List.mem_of_getElem? (i := 4) rfl) (by decide) (Nat.le_of_ble_eq_true rfl) (Nat.le_of_ble_eq_true rfl) dX6_init_7 (fun q1 H hW => ?_)
  refine z_putF F (pc := 9) (T := TX6) (N := 4) (ci := 6) inX6 tyX6 tyX6_ok nmX6 hK hW (ws' := [(a, .inr (6, [.ref q1, .null, .null, .int (iI 0)])), (q1, .inl (cI, 16, .inl (zA z0)))]) 0 0 rfl rfl (by decide) rfl (List.mem_of_getElem? (i := 5) rfl) rfl hname rfl rfl (Nat.le_of_ble_eq_true rfl) dX6_init_9 rfl (fun H locs hW => ?_)
  refine z_aloadn F (pc := 12) dX6_init_12 rfl (lv_at hl 0 rfl) ?_
  refine z_bipush F (pc := 13) (16) (by decide +kernel) dX6_init_13 ?_
  refine z_newI F (pc := 15) hK hW hA 16 (List.mem_of_getElem? (i := 4) rfl) (by decide) (Nat.le_of_ble_eq_true rfl) (Nat.le_of_ble_eq_true rfl) dX6_init_15 (fun q2 H hW => ?_)
  refine z_putF F (pc := 17) (T := TX6) (N := 4) (ci := 6) inX6 tyX6 tyX6_ok nmX6 hK hW (ws' := [(a, .inr (6, [.ref q1, .ref q2, .null, .int (iI 0)])), (q1, .inl (cI, 16, .inl (zA z0))), (q2, .inl (cI, 16, .inl (zA z0)))]) 0 1 rfl rfl (by decide) rfl (List.mem_of_getElem? (i := 6) rfl) rfl hname rfl rfl (Nat.le_of_ble_eq_true rfl) dX6_init_17 rfl (fun H locs hW => ?_)
  refine z_aloadn F (pc := 20) dX6_init_20 rfl (lv_at hl 0 rfl) ?_
  refine z_sipush F (pc := 21) (256) (by decide +kernel) dX6_init_21 ?_
  refine z_newI F (pc := 24) hK hW hA 256 (List.mem_of_getElem? (i := 4) rfl) (by decide) (Nat.le_of_ble_eq_true rfl) (Nat.le_of_ble_eq_true rfl) dX6_init_24 (fun q3 H hW => ?_)
  refine z_putF F (pc := 26) (T := TX6) (N := 4) (ci := 6) inX6 tyX6 tyX6_ok nmX6 hK hW (ws' := [(a, .inr (6, [.ref q1, .ref q2, .ref q3, .int (iI 0)])), (q1, .inl (cI, 16, .inl (zA z0))), (q2, .inl (cI, 16, .inl (zA z0))), (q3, .inl (cI, 256, .inl (zA z0)))]) 0 2 rfl rfl (by decide) rfl (List.mem_of_getElem? (i := 7) rfl) rfl hname rfl rfl (Nat.le_of_ble_eq_true rfl) dX6_init_26 rfl (fun H locs hW => ?_)
  refine z_aloadn F (pc := 29) dX6_init_29 rfl (lv_at hl 0 rfl) ?_
  refine z_iconst F (pc := 30) (0) dX6_init_30 ?_
  refine z_put F (pc := 31) (C := RX6) (T := TX6) (N := 4) (ci := 6) inX6 tyX6 tyX6_ok nmX6 hK hW (ws' := [(a, .inr (6, [.ref q1, .ref q2, .ref q3, .int (iI 0)])), (q1, .inl (cI, 16, .inl (zA z0))), (q2, .inl (cI, 16, .inl (zA z0))), (q3, .inl (cI, 256, .inl (zA z0)))]) 0 3 rfl rfl (by decide) rfl (List.mem_of_getElem? (i := 8) rfl) rfl rfl (Nat.le_of_ble_eq_true rfl) dX6_init_31 rfl (fun H locs hW => ?_)
  exact hret _ _ _ _ (fun k => match k with | 0 => a | 1 => q1 | 2 => q2 | 3 => q3 | _ => 0) dX6_init_34 rfl hW
