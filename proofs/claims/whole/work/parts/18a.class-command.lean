theorem zB_if {r : Int} {P Q : Prop} (h : zB r P) (h2 : P ↔ Q) : zB r Q := h.elim (fun h => Or.inl ⟨h.1, h2.1 h.2⟩) (fun h => Or.inr ⟨h.1, fun q => h.2 (h2.2 q)⟩)
theorem bestT_b {cx cr cl ll rw : Int → Int} {cn ln x n p b : Int} (h : bestT cx cr cl ll rw cn ln x n p b) : b = -4 ∨ ((0 ≤ b ∧ b < n) ∧ p + cl b ≤ ln) := by
  rcases h with ⟨a, _⟩ | ⟨a, q, _⟩
  · exact Or.inl a
  · exact Or.inr ⟨a, q.2.1⟩
theorem hid1_yes {cx cr cl ll : Int → Int} {cn k d : Int} (hc : Cok cx cr cl ll cn) (hd : 0 ≤ d ∧ d < cn) (h : (¬ k = d ∧ cl k = cl d ∧ (cx d = cx k ∨ cx d = 0)) ∧ ∀ i, 0 ≤ i → i < 4 → ll (4 * k + i) = ll (4 * d + i)) (h2 : cr k < cr d ∨ (cr d = cr k ∧ d < k)) : hid1 cx cr cl ll k d := by
  have ha := Cok_at hc hd.1 hd.2
  exact ⟨h.1.2.2, ⟨h.1.2.1.symm, fun i i0 i1 => (h.2 i i0 (by omega)).symm⟩, by unfold bet; omega⟩
theorem hid1_no {cx cr cl ll : Int → Int} {cn k d : Int} (hc : Cok cx cr cl ll cn) (hk : 0 ≤ k ∧ k < cn) (hd : 0 ≤ d ∧ d < cn) (h : hid1 cx cr cl ll k d) : ((¬ k = d ∧ cl k = cl d ∧ (cx d = cx k ∨ cx d = 0)) ∧ ∀ i, 0 ≤ i → i < 4 → ll (4 * k + i) = ll (4 * d + i)) ∧ (cr k < cr d ∨ (cr d = cr k ∧ d < k)) := by
  have h3 := h.2.2
  have h1 := h.2.1.1
  unfold bet at h3
  refine ⟨⟨⟨by intro q; subst q; omega, h1.symm, h.1⟩, fun i i0 i1 => ?_⟩, by omega⟩
  by_cases q : i < cl d
  · exact (h.2.1.2 i i0 q).symm
  · rw [(Cok_l hc hk.1 hk.2 i0 i1).2 (by omega), (Cok_l hc hd.1 hd.2 i0 i1).2 (by omega)]

set_option maxHeartbeats 4000000 in
set_option maxRecDepth 100000 in
theorem c_X1_open (l : Launch) (D : va_G) (cI cZ : ClassId) (aC : Nat → Nat) (cx cr cl ll : Int → Int) (cn : Int) (x k nn : Int) (sz0 : Nat) (r_x : (-2147483648 ≤ x ∧ x < 2147483648)) (r_k : (-2147483648 ≤ k ∧ k < 2147483648)) (r_nn : (-2147483648 ≤ nn ∧ nn < 2147483648)) (hcn : 0 ≤ cn ∧ cn < 10) : Met l yX1_open wsX1_open ({ frames := 0, cells := 0, slots := 0, locals := 0 } : Room) (zPc D cI cZ [.ref (aC 0), .int (iI x), .int (iI k), .int (iI nn)] (wC cI cZ aC cx cr cl ll cn) sz0) (zQi D cI cZ (wC cI cZ aC cx cr cl ll cn) sz0 (fun (r : Int) (u : (Int → Int) × (Int → Int) × (Int → Int) × (Int)) => (r = cn) ∧ (u.1 = zU cx cn x ∧ u.2.1 = zU cr cn k ∧ u.2.2.1 = zU cl cn nn ∧ u.2.2.2 = cn + 1)) (fun (u : (Int → Int) × (Int → Int) × (Int → Int) × (Int)) => wC cI cZ aC u.1 u.2.1 u.2.2.1 ll u.2.2.2)) 0 0 (va_A (wC cI cZ aC cx cr cl ll cn) sz0) := by
  refine z_ofI (maxL := 5) (plainFor_of_name (by decide)) rfl (Nat.le_of_ble_eq_true rfl) (Or.inl rfl) ?_
  intro p e s m below meth c A ls Q F hK hW hA hl hret
  have hl : lv_has ls 5 [(0, .ref (aC 0)), (1, .int (iI x)), (2, .int (iI k)), (3, .int (iI nn))] := hl
  have inX1 : ∀ w ∈ u_ws RX1 TX1 5, w ∈ wsX1_open := fun _ h => List.mem_cons_of_mem _ (List.mem_append_right _ h)
  refine z_aloadn F (pc := 0) dX1_open_0 rfl (lv_at hl 0 rfl) ?_
  refine z_get F (pc := 1) (C := RX1) (T := TX1) (N := 5) (ci := 1) inX1 hK hW 0 4 rfl rfl (by decide) rfl (List.mem_of_getElem? (i := 1) rfl) (v := .int (iI cn)) rfl dX1_open_1 ?_
  refine z_istore F (pc := 4) hl (lv' := [(4, .int (iI cn)), (0, .ref (aC 0)), (1, .int (iI x)), (2, .int (iI k)), (3, .int (iI nn))]) dX1_open_4 (by decide) rfl (fun ls hl => ?_)
  refine z_aloadn F (pc := 6) dX1_open_6 rfl (lv_at hl 1 rfl) ?_
  refine z_get F (pc := 7) (C := RX1) (T := TX1) (N := 5) (ci := 1) inX1 hK hW 0 0 rfl rfl (by decide) rfl (List.mem_of_getElem? (i := 2) rfl) (v := .ref (aC 1)) rfl dX1_open_7 ?_
  refine z_iload F (pc := 10) dX1_open_10 (lv_at hl 0 rfl) ?_
  refine z_iloadn F (pc := 12) dX1_open_12 rfl (lv_at hl 2 rfl) ?_
  refine z_iast F (pc := 13) hK hW (ws' := wC cI cZ aC (zU cx cn x) cr cl ll cn) 1 rfl (by decide) dX1_open_13 (by omega) rfl (fun H locs hW => ?_)
  refine z_aloadn F (pc := 14) dX1_open_14 rfl (lv_at hl 1 rfl) ?_
  refine z_get F (pc := 15) (C := RX1) (T := TX1) (N := 5) (ci := 1) inX1 hK hW 0 1 rfl rfl (by decide) rfl (List.mem_of_getElem? (i := 3) rfl) (v := .ref (aC 2)) rfl dX1_open_15 ?_
  refine z_iload F (pc := 18) dX1_open_18 (lv_at hl 0 rfl) ?_
  refine z_iloadn F (pc := 20) dX1_open_20 rfl (lv_at hl 3 rfl) ?_
  refine z_iast F (pc := 21) hK hW (ws' := wC cI cZ aC (zU cx cn x) (zU cr cn k) cl ll cn) 2 rfl (by decide) dX1_open_21 (by omega) rfl (fun H locs hW => ?_)
  refine z_aloadn F (pc := 22) dX1_open_22 rfl (lv_at hl 1 rfl) ?_
  refine z_get F (pc := 23) (C := RX1) (T := TX1) (N := 5) (ci := 1) inX1 hK hW 0 2 rfl rfl (by decide) rfl (List.mem_of_getElem? (i := 4) rfl) (v := .ref (aC 3)) rfl dX1_open_23 ?_
  refine z_iload F (pc := 26) dX1_open_26 (lv_at hl 0 rfl) ?_
  refine z_iloadn F (pc := 28) dX1_open_28 rfl (lv_at hl 4 rfl) ?_
  refine z_iast F (pc := 29) hK hW (ws' := wC cI cZ aC (zU cx cn x) (zU cr cn k) (zU cl cn nn) ll cn) 3 rfl (by decide) dX1_open_29 (by omega) rfl (fun H locs hW => ?_)
  refine z_aloadn F (pc := 30) dX1_open_30 rfl (lv_at hl 1 rfl) ?_
  refine z_dup F (pc := 31) dX1_open_31 rfl ?_
  refine z_get F (pc := 32) (C := RX1) (T := TX1) (N := 5) (ci := 1) inX1 hK hW 0 4 rfl rfl (by decide) rfl (List.mem_of_getElem? (i := 1) rfl) (v := .int (iI cn)) rfl dX1_open_32 ?_
  refine z_iconst F (pc := 35) (1) dX1_open_35 ?_
  refine z_iadd F (pc := 36) dX1_open_36 ?_
  refine z_put F (pc := 37) (C := RX1) (T := TX1) (N := 5) (ci := 1) inX1 tyX1 tyX1_ok nmX1 hK hW (ws' := wC cI cZ aC (zU cx cn x) (zU cr cn k) (zU cl cn nn) ll (cn + 1)) 0 4 rfl rfl (by decide) rfl (List.mem_of_getElem? (i := 1) rfl) rfl rfl (Nat.le_of_ble_eq_true rfl) dX1_open_37 rfl (fun H locs hW => ?_)
  refine z_iload F (pc := 40) dX1_open_40 (lv_at hl 0 rfl) ?_
  exact hret _ _ _ _ cn ((zU cx cn x), (zU cr cn k), (zU cl cn nn), (cn + 1)) dX1_open_42 (by omega) (by (try dsimp only) <;> (exact ⟨rfl, rfl, rfl, rfl, rfl⟩)) hW

set_option maxHeartbeats 4000000 in
set_option maxRecDepth 100000 in
theorem c_X1_put (l : Launch) (D : va_G) (cI cZ : ClassId) (aC : Nat → Nat) (cx cr cl ll : Int → Int) (cn : Int) (k i v : Int) (sz0 : Nat) (r_k : (-2147483648 ≤ k ∧ k < 2147483648)) (r_i : (-2147483648 ≤ i ∧ i < 2147483648)) (r_v : (-2147483648 ≤ v ∧ v < 2147483648)) (hk : (0 ≤ k ∧ k < 10) ∧ (0 ≤ i ∧ i < 4)) : Met l yX1_put wsX1_put ({ frames := 0, cells := 0, slots := 0, locals := 0 } : Room) (zPc D cI cZ [.ref (aC 0), .int (iI k), .int (iI i), .int (iI v)] (wC cI cZ aC cx cr cl ll cn) sz0) (zQv D cI cZ (wC cI cZ aC cx cr cl ll cn) sz0 (fun (u : (Int → Int)) => u = zU ll (4 * k + i) v) (fun (u : (Int → Int)) => wC cI cZ aC cx cr cl u cn)) 0 0 (va_A (wC cI cZ aC cx cr cl ll cn) sz0) := by
  refine z_ofV (maxL := 4) (plainFor_of_name (by decide)) rfl (Nat.le_of_ble_eq_true rfl) ?_
  intro p e s m below meth c A ls Q F hK hW hA hl hret
  have hl : lv_has ls 4 [(0, .ref (aC 0)), (1, .int (iI k)), (2, .int (iI i)), (3, .int (iI v))] := hl
  have inX1 : ∀ w ∈ u_ws RX1 TX1 5, w ∈ wsX1_put := fun _ h => List.mem_cons_of_mem _ (List.mem_append_right _ h)
  refine z_aloadn F (pc := 0) dX1_put_0 rfl (lv_at hl 0 rfl) ?_
  refine z_get F (pc := 1) (C := RX1) (T := TX1) (N := 5) (ci := 1) inX1 hK hW 0 3 rfl rfl (by decide) rfl (List.mem_of_getElem? (i := 1) rfl) (v := .ref (aC 4)) rfl dX1_put_1 ?_
  refine z_iloadn F (pc := 4) dX1_put_4 rfl (lv_at hl 1 rfl) ?_
  refine z_iconst F (pc := 5) (4) dX1_put_5 ?_
  refine z_imul F (pc := 6) dX1_put_6 ?_
  refine z_iloadn F (pc := 7) dX1_put_7 rfl (lv_at hl 2 rfl) ?_
  refine z_iadd F (pc := 8) dX1_put_8 ?_
  refine z_iloadn F (pc := 9) dX1_put_9 rfl (lv_at hl 3 rfl) ?_
  refine z_iast F (pc := 10) hK hW (ws' := wC cI cZ aC cx cr cl (zU ll ((k * 4) + i) v) cn) 4 rfl (by decide) dX1_put_10 (by omega) rfl (fun H locs hW => ?_)
  exact hret _ _ _ _ (zU ll ((k * 4) + i) v) dX1_put_11 (by rw [Int.mul_comm 4 k]) hW

set_option maxHeartbeats 4000000 in
set_option maxRecDepth 100000 in
theorem c_X1_labelAt (l : Launch) (D : va_G) (cI cZ : ClassId) (aC : Nat → Nat) (cx cr cl ll : Int → Int) (cn : Int) (k i : Int) (sz0 : Nat) (r_k : (-2147483648 ≤ k ∧ k < 2147483648)) (r_i : (-2147483648 ≤ i ∧ i < 2147483648)) (hk : (0 ≤ k ∧ k < 10) ∧ (0 ≤ i ∧ i < 4)) (hv : 0 ≤ ll (4 * k + i) ∧ ll (4 * k + i) ≤ 9) : Met l yX1_labelAt wsX1_labelAt ({ frames := 0, cells := 0, slots := 0, locals := 0 } : Room) (zPc D cI cZ [.ref (aC 0), .int (iI k), .int (iI i)] (wC cI cZ aC cx cr cl ll cn) sz0) (zQi D cI cZ (wC cI cZ aC cx cr cl ll cn) sz0 (fun (r : Int) (u : Unit) => r = ll (4 * k + i)) (fun (u : Unit) => wC cI cZ aC cx cr cl ll cn)) 0 0 (va_A (wC cI cZ aC cx cr cl ll cn) sz0) := by
  refine z_ofI (maxL := 3) (plainFor_of_name (by decide)) rfl (Nat.le_of_ble_eq_true rfl) (Or.inl rfl) ?_
  intro p e s m below meth c A ls Q F hK hW hA hl hret
  have hl : lv_has ls 3 [(0, .ref (aC 0)), (1, .int (iI k)), (2, .int (iI i))] := hl
  have inX1 : ∀ w ∈ u_ws RX1 TX1 5, w ∈ wsX1_labelAt := fun _ h => List.mem_cons_of_mem _ (List.mem_append_right _ h)
  refine z_aloadn F (pc := 0) dX1_labelAt_0 rfl (lv_at hl 0 rfl) ?_
  refine z_get F (pc := 1) (C := RX1) (T := TX1) (N := 5) (ci := 1) inX1 hK hW 0 3 rfl rfl (by decide) rfl (List.mem_of_getElem? (i := 1) rfl) (v := .ref (aC 4)) rfl dX1_labelAt_1 ?_
  refine z_iloadn F (pc := 4) dX1_labelAt_4 rfl (lv_at hl 1 rfl) ?_
  refine z_iconst F (pc := 5) (4) dX1_labelAt_5 ?_
  refine z_imul F (pc := 6) dX1_labelAt_6 ?_
  refine z_iloadn F (pc := 7) dX1_labelAt_7 rfl (lv_at hl 2 rfl) ?_
  refine z_iadd F (pc := 8) dX1_labelAt_8 ?_
  refine z_iald F (pc := 9) hK hW 4 rfl (by decide) dX1_labelAt_9 (by omega) ?_
  exact hret _ _ _ _ (ll ((k * 4) + i)) () dX1_labelAt_10 (by rw [Int.mul_comm k 4]; omega) (by rw [Int.mul_comm 4 k]) hW

set_option maxHeartbeats 4000000 in
set_option maxRecDepth 100000 in
theorem c_X1_isOf (l : Launch) (D : va_G) (cI cZ : ClassId) (aC : Nat → Nat) (cx cr cl ll : Int → Int) (cn : Int) (k x : Int) (sz0 : Nat) (r_k : (-2147483648 ≤ k ∧ k < 2147483648)) (r_x : (-2147483648 ≤ x ∧ x < 2147483648)) (hc : Cok cx cr cl ll cn) (hk : 0 ≤ k ∧ k < cn) : Met l yX1_isOf wsX1_isOf ({ frames := 0, cells := 0, slots := 0, locals := 0 } : Room) (zPc D cI cZ [.ref (aC 0), .int (iI k), .int (iI x)] (wC cI cZ aC cx cr cl ll cn) sz0) (zQi D cI cZ (wC cI cZ aC cx cr cl ll cn) sz0 (fun (r : Int) (u : Unit) => zB r (cx k = x ∨ cx k = 0)) (fun (u : Unit) => wC cI cZ aC cx cr cl ll cn)) 0 0 (va_A (wC cI cZ aC cx cr cl ll cn) sz0) := by
  have hcn := hc.1
  have h9k := Cok_at hc hk.1 hk.2
  refine z_ofI (maxL := 3) (plainFor_of_name (by decide)) rfl (Nat.le_of_ble_eq_true rfl) (Or.inr ⟨rfl, fun z u h => zB_01 h⟩) ?_
  intro p e s m below meth c A ls Q F hK hW hA hl hret
  have hl : lv_has ls 3 [(0, .ref (aC 0)), (1, .int (iI k)), (2, .int (iI x))] := hl
  have inX1 : ∀ w ∈ u_ws RX1 TX1 5, w ∈ wsX1_isOf := fun _ h => List.mem_cons_of_mem _ (List.mem_append_right _ h)
  refine z_aloadn F (pc := 0) dX1_isOf_0 rfl (lv_at hl 0 rfl) ?_
  refine z_get F (pc := 1) (C := RX1) (T := TX1) (N := 5) (ci := 1) inX1 hK hW 0 0 rfl rfl (by decide) rfl (List.mem_of_getElem? (i := 1) rfl) (v := .ref (aC 1)) rfl dX1_isOf_1 ?_
  refine z_iloadn F (pc := 4) dX1_isOf_4 rfl (lv_at hl 1 rfl) ?_
  refine z_iald F (pc := 5) hK hW 1 rfl (by decide) dX1_isOf_5 (by omega) ?_
  refine z_iloadn F (pc := 6) dX1_isOf_6 rfl (lv_at hl 2 rfl) ?_
  refine z_icmp_eq F (pc := 7) 19 dX1_isOf_7 (by decide) (by omega) (fun c_7 => ?_) (fun c_7 => ?_)
  · skip
    refine z_iconst F (pc := 19) (1) dX1_isOf_19 ?_
    refine z_goto F (pc := 20) 24 dX1_isOf_20 (by decide) ?_
    exact hret _ _ _ _ 1 () dX1_isOf_24 (by omega) (by first | exact zB_1 (by omega) | exact zB_0 (by omega)) hW
  · skip
    refine z_aloadn F (pc := 10) dX1_isOf_10 rfl (lv_at hl 0 rfl) ?_
    refine z_get F (pc := 11) (C := RX1) (T := TX1) (N := 5) (ci := 1) inX1 hK hW 0 0 rfl rfl (by decide) rfl (List.mem_of_getElem? (i := 1) rfl) (v := .ref (aC 1)) rfl dX1_isOf_11 ?_
    refine z_iloadn F (pc := 14) dX1_isOf_14 rfl (lv_at hl 1 rfl) ?_
    refine z_iald F (pc := 15) hK hW 1 rfl (by decide) dX1_isOf_15 (by omega) ?_
    refine z_if_ne F (pc := 16) 23 dX1_isOf_16 (by decide) (by omega) (fun c_16 => ?_) (fun c_16 => ?_)
    · skip
      refine z_iconst F (pc := 23) (0) dX1_isOf_23 ?_
      exact hret _ _ _ _ 0 () dX1_isOf_24 (by omega) (by first | exact zB_1 (by omega) | exact zB_0 (by omega)) hW
    · skip
      refine z_iconst F (pc := 19) (1) dX1_isOf_19 ?_
      refine z_goto F (pc := 20) 24 dX1_isOf_20 (by decide) ?_
      exact hret _ _ _ _ 1 () dX1_isOf_24 (by omega) (by first | exact zB_1 (by omega) | exact zB_0 (by omega)) hW

set_option maxHeartbeats 4000000 in
set_option maxRecDepth 100000 in
theorem c_X1_goesBefore (l : Launch) (D : va_G) (cI cZ : ClassId) (aC : Nat → Nat) (cx cr cl ll : Int → Int) (cn : Int) (a b : Int) (sz0 : Nat) (r_a : (-2147483648 ≤ a ∧ a < 2147483648)) (r_b : (-2147483648 ≤ b ∧ b < 2147483648)) (hc : Cok cx cr cl ll cn) (hk : (0 ≤ a ∧ a < cn) ∧ (0 ≤ b ∧ b < cn)) : Met l yX1_goesBefore wsX1_goesBefore ({ frames := 0, cells := 0, slots := 0, locals := 0 } : Room) (zPc D cI cZ [.ref (aC 0), .int (iI a), .int (iI b)] (wC cI cZ aC cx cr cl ll cn) sz0) (zQi D cI cZ (wC cI cZ aC cx cr cl ll cn) sz0 (fun (r : Int) (u : Unit) => zB r (bet cr cl a b)) (fun (u : Unit) => wC cI cZ aC cx cr cl ll cn)) 0 0 (va_A (wC cI cZ aC cx cr cl ll cn) sz0) := by
  have hcn := hc.1
  have h9a := Cok_at hc hk.1.1 hk.1.2
  have h9b := Cok_at hc hk.2.1 hk.2.2
  refine z_ofI (maxL := 3) (plainFor_of_name (by decide)) rfl (Nat.le_of_ble_eq_true rfl) (Or.inr ⟨rfl, fun z u h => zB_01 h⟩) ?_
  intro p e s m below meth c A ls Q F hK hW hA hl hret
  have hl : lv_has ls 3 [(0, .ref (aC 0)), (1, .int (iI a)), (2, .int (iI b))] := hl
  have inX1 : ∀ w ∈ u_ws RX1 TX1 5, w ∈ wsX1_goesBefore := fun _ h => List.mem_cons_of_mem _ (List.mem_append_right _ h)
  refine z_aloadn F (pc := 0) dX1_goesBefore_0 rfl (lv_at hl 0 rfl) ?_
  refine z_get F (pc := 1) (C := RX1) (T := TX1) (N := 5) (ci := 1) inX1 hK hW 0 2 rfl rfl (by decide) rfl (List.mem_of_getElem? (i := 1) rfl) (v := .ref (aC 3)) rfl dX1_goesBefore_1 ?_
  refine z_iloadn F (pc := 4) dX1_goesBefore_4 rfl (lv_at hl 1 rfl) ?_
  refine z_iald F (pc := 5) hK hW 3 rfl (by decide) dX1_goesBefore_5 (by omega) ?_
  refine z_aloadn F (pc := 6) dX1_goesBefore_6 rfl (lv_at hl 0 rfl) ?_
  refine z_get F (pc := 7) (C := RX1) (T := TX1) (N := 5) (ci := 1) inX1 hK hW 0 2 rfl rfl (by decide) rfl (List.mem_of_getElem? (i := 1) rfl) (v := .ref (aC 3)) rfl dX1_goesBefore_7 ?_
  refine z_iloadn F (pc := 10) dX1_goesBefore_10 rfl (lv_at hl 2 rfl) ?_
  refine z_iald F (pc := 11) hK hW 3 rfl (by decide) dX1_goesBefore_11 (by omega) ?_
  refine z_icmp_eq F (pc := 12) 36 dX1_goesBefore_12 (by decide) (by omega) (fun c_12 => ?_) (fun c_12 => ?_)
  · skip
    refine z_aloadn F (pc := 36) dX1_goesBefore_36 rfl (lv_at hl 0 rfl) ?_
    refine z_get F (pc := 37) (C := RX1) (T := TX1) (N := 5) (ci := 1) inX1 hK hW 0 1 rfl rfl (by decide) rfl (List.mem_of_getElem? (i := 2) rfl) (v := .ref (aC 2)) rfl dX1_goesBefore_37 ?_
    refine z_iloadn F (pc := 40) dX1_goesBefore_40 rfl (lv_at hl 1 rfl) ?_
    refine z_iald F (pc := 41) hK hW 2 rfl (by decide) dX1_goesBefore_41 (by omega) ?_
    refine z_aloadn F (pc := 42) dX1_goesBefore_42 rfl (lv_at hl 0 rfl) ?_
    refine z_get F (pc := 43) (C := RX1) (T := TX1) (N := 5) (ci := 1) inX1 hK hW 0 1 rfl rfl (by decide) rfl (List.mem_of_getElem? (i := 2) rfl) (v := .ref (aC 2)) rfl dX1_goesBefore_43 ?_
    refine z_iloadn F (pc := 46) dX1_goesBefore_46 rfl (lv_at hl 2 rfl) ?_
    refine z_iald F (pc := 47) hK hW 2 rfl (by decide) dX1_goesBefore_47 (by omega) ?_
    refine z_icmp_eq F (pc := 48) 72 dX1_goesBefore_48 (by decide) (by omega) (fun c_48 => ?_) (fun c_48 => ?_)
    · skip
      refine z_iloadn F (pc := 72) dX1_goesBefore_72 rfl (lv_at hl 1 rfl) ?_
      refine z_iloadn F (pc := 73) dX1_goesBefore_73 rfl (lv_at hl 2 rfl) ?_
      refine z_icmp_ge F (pc := 74) 81 dX1_goesBefore_74 (by decide) (by omega) (fun c_74 => ?_) (fun c_74 => ?_)
      · skip
        refine z_iconst F (pc := 81) (0) dX1_goesBefore_81 ?_
        exact hret _ _ _ _ 0 () dX1_goesBefore_82 (by omega) (by first | exact zB_1 (by unfold bet; omega) | exact zB_0 (by unfold bet; omega)) hW
      · skip
        refine z_iconst F (pc := 77) (1) dX1_goesBefore_77 ?_
        refine z_goto F (pc := 78) 82 dX1_goesBefore_78 (by decide) ?_
        exact hret _ _ _ _ 1 () dX1_goesBefore_82 (by omega) (by first | exact zB_1 (by unfold bet; omega) | exact zB_0 (by unfold bet; omega)) hW
    · skip
      refine z_aloadn F (pc := 51) dX1_goesBefore_51 rfl (lv_at hl 0 rfl) ?_
      refine z_get F (pc := 52) (C := RX1) (T := TX1) (N := 5) (ci := 1) inX1 hK hW 0 1 rfl rfl (by decide) rfl (List.mem_of_getElem? (i := 2) rfl) (v := .ref (aC 2)) rfl dX1_goesBefore_52 ?_
      refine z_iloadn F (pc := 55) dX1_goesBefore_55 rfl (lv_at hl 1 rfl) ?_
      refine z_iald F (pc := 56) hK hW 2 rfl (by decide) dX1_goesBefore_56 (by omega) ?_
      refine z_aloadn F (pc := 57) dX1_goesBefore_57 rfl (lv_at hl 0 rfl) ?_
      refine z_get F (pc := 58) (C := RX1) (T := TX1) (N := 5) (ci := 1) inX1 hK hW 0 1 rfl rfl (by decide) rfl (List.mem_of_getElem? (i := 2) rfl) (v := .ref (aC 2)) rfl dX1_goesBefore_58 ?_
      refine z_iloadn F (pc := 61) dX1_goesBefore_61 rfl (lv_at hl 2 rfl) ?_
      refine z_iald F (pc := 62) hK hW 2 rfl (by decide) dX1_goesBefore_62 (by omega) ?_
      refine z_icmp_le F (pc := 63) 70 dX1_goesBefore_63 (by decide) (by omega) (fun c_63 => ?_) (fun c_63 => ?_)
      · skip
        refine z_iconst F (pc := 70) (0) dX1_goesBefore_70 ?_
        exact hret _ _ _ _ 0 () dX1_goesBefore_71 (by omega) (by first | exact zB_1 (by unfold bet; omega) | exact zB_0 (by unfold bet; omega)) hW
      · skip
        refine z_iconst F (pc := 66) (1) dX1_goesBefore_66 ?_
        refine z_goto F (pc := 67) 71 dX1_goesBefore_67 (by decide) ?_
        exact hret _ _ _ _ 1 () dX1_goesBefore_71 (by omega) (by first | exact zB_1 (by unfold bet; omega) | exact zB_0 (by unfold bet; omega)) hW
  · skip
    refine z_aloadn F (pc := 15) dX1_goesBefore_15 rfl (lv_at hl 0 rfl) ?_
    refine z_get F (pc := 16) (C := RX1) (T := TX1) (N := 5) (ci := 1) inX1 hK hW 0 2 rfl rfl (by decide) rfl (List.mem_of_getElem? (i := 1) rfl) (v := .ref (aC 3)) rfl dX1_goesBefore_16 ?_
    refine z_iloadn F (pc := 19) dX1_goesBefore_19 rfl (lv_at hl 1 rfl) ?_
    refine z_iald F (pc := 20) hK hW 3 rfl (by decide) dX1_goesBefore_20 (by omega) ?_
    refine z_aloadn F (pc := 21) dX1_goesBefore_21 rfl (lv_at hl 0 rfl) ?_
    refine z_get F (pc := 22) (C := RX1) (T := TX1) (N := 5) (ci := 1) inX1 hK hW 0 2 rfl rfl (by decide) rfl (List.mem_of_getElem? (i := 1) rfl) (v := .ref (aC 3)) rfl dX1_goesBefore_22 ?_
    refine z_iloadn F (pc := 25) dX1_goesBefore_25 rfl (lv_at hl 2 rfl) ?_
    refine z_iald F (pc := 26) hK hW 3 rfl (by decide) dX1_goesBefore_26 (by omega) ?_
    refine z_icmp_le F (pc := 27) 34 dX1_goesBefore_27 (by decide) (by omega) (fun c_27 => ?_) (fun c_27 => ?_)
    · skip
      refine z_iconst F (pc := 34) (0) dX1_goesBefore_34 ?_
      exact hret _ _ _ _ 0 () dX1_goesBefore_35 (by omega) (by first | exact zB_1 (by unfold bet; omega) | exact zB_0 (by unfold bet; omega)) hW
    · skip
      refine z_iconst F (pc := 30) (1) dX1_goesBefore_30 ?_
      refine z_goto F (pc := 31) 35 dX1_goesBefore_31 (by decide) ?_
      exact hret _ _ _ _ 1 () dX1_goesBefore_35 (by omega) (by first | exact zB_1 (by unfold bet; omega) | exact zB_0 (by unfold bet; omega)) hW

set_option maxHeartbeats 4000000 in
set_option maxRecDepth 100000 in
theorem c_X1_haveSameLabels (l : Launch) (D : va_G) (cI cZ : ClassId) (aC : Nat → Nat) (cx cr cl ll : Int → Int) (cn : Int) (a b : Int) (sz0 : Nat) (r_a : (-2147483648 ≤ a ∧ a < 2147483648)) (r_b : (-2147483648 ≤ b ∧ b < 2147483648)) (hc : Cok cx cr cl ll cn) (hk : (0 ≤ a ∧ a < cn) ∧ (0 ≤ b ∧ b < cn)) : Met l yX1_haveSameLabels wsX1_haveSameLabels ({ frames := 1, cells := 0, slots := 0, locals := 22 } : Room) (zPc D cI cZ [.ref (aC 0), .int (iI a), .int (iI b)] (wC cI cZ aC cx cr cl ll cn) sz0) (zQi D cI cZ (wC cI cZ aC cx cr cl ll cn) sz0 (fun (r : Int) (u : Unit) => zB r (cl a = cl b ∧ ∀ i, 0 ≤ i → i < cl a → ll (4 * a + i) = ll (4 * b + i))) (fun (u : Unit) => wC cI cZ aC cx cr cl ll cn)) 0 0 (va_A (wC cI cZ aC cx cr cl ll cn) sz0) := by
  have hcn := hc.1
  have h9a := Cok_at hc hk.1.1 hk.1.2
  have h9b := Cok_at hc hk.2.1 hk.2.2
  refine z_ofI (maxL := 4) (plainFor_of_name (by decide)) rfl (Nat.le_of_ble_eq_true rfl) (Or.inr ⟨rfl, fun z u h => zB_01 h⟩) ?_
  intro p e s m below meth c A ls Q F hK hW hA hl hret
  have hl : lv_has ls 4 [(0, .ref (aC 0)), (1, .int (iI a)), (2, .int (iI b))] := hl
  have inX1 : ∀ w ∈ u_ws RX1 TX1 5, w ∈ wsX1_haveSameLabels := fun _ h => List.mem_cons_of_mem _ (List.mem_append_right _ h)
  refine z_aloadn F (pc := 0) dX1_haveSameLabels_0 rfl (lv_at hl 0 rfl) ?_
  refine z_get F (pc := 1) (C := RX1) (T := TX1) (N := 5) (ci := 1) inX1 hK hW 0 2 rfl rfl (by decide) rfl (List.mem_of_getElem? (i := 1) rfl) (v := .ref (aC 3)) rfl dX1_haveSameLabels_1 ?_
  refine z_iloadn F (pc := 4) dX1_haveSameLabels_4 rfl (lv_at hl 1 rfl) ?_
  refine z_iald F (pc := 5) hK hW 3 rfl (by decide) dX1_haveSameLabels_5 (by omega) ?_
  refine z_aloadn F (pc := 6) dX1_haveSameLabels_6 rfl (lv_at hl 0 rfl) ?_
  refine z_get F (pc := 7) (C := RX1) (T := TX1) (N := 5) (ci := 1) inX1 hK hW 0 2 rfl rfl (by decide) rfl (List.mem_of_getElem? (i := 1) rfl) (v := .ref (aC 3)) rfl dX1_haveSameLabels_7 ?_
  refine z_iloadn F (pc := 10) dX1_haveSameLabels_10 rfl (lv_at hl 2 rfl) ?_
  refine z_iald F (pc := 11) hK hW 3 rfl (by decide) dX1_haveSameLabels_11 (by omega) ?_
  refine z_icmp_eq F (pc := 12) 17 dX1_haveSameLabels_12 (by decide) (by omega) (fun c_12 => ?_) (fun c_12 => ?_)
  · skip
    refine z_iconst F (pc := 17) (0) dX1_haveSameLabels_17 ?_
    refine z_istoren F (pc := 18) hl (lv' := [(3, .int (iI 0)), (0, .ref (aC 0)), (1, .int (iI a)), (2, .int (iI b))]) dX1_haveSameLabels_18 rfl (by decide) rfl (fun ls hl => ?_)
    have cut_19 : ∀ (fuel : Nat) (j : Int) (H : Heap) (locs : List Loc) (ls : Array Slot), (cl a - j).toNat < fuel → (0 ≤ j ∧ j ≤ cl a) → (∀ i, 0 ≤ i → i < j → ll (4 * a + i) = ll (4 * b + i)) → lv_has ls 4 [(3, .int (iI j)), (0, .ref (aC 0)), (1, .int (iI a)), (2, .int (iI b))] → zW D A s.heap H locs (wC cI cZ aC cx cr cl ll cn) → W p l e ({ frames := 1, cells := 0, slots := 0, locals := 22 } : Room) s m ([.ref (aC 0), .int (iI a), .int (iI b)] : List Value).toArray below meth c H locs 0 0 Q (F0 m 19 ls []) := by
      intro fuel
      induction fuel with
      | zero => intro j H locs ls hm; exact absurd hm (Nat.not_lt_zero _)
      | succ fuel ih_19 =>
        intro j H locs ls hm_19 g1 g2 hl hW
        refine z_iloadn F (pc := 19) dX1_haveSameLabels_19 rfl (lv_at hl 0 rfl) ?_
        refine z_aloadn F (pc := 20) dX1_haveSameLabels_20 rfl (lv_at hl 1 rfl) ?_
        refine z_get F (pc := 21) (C := RX1) (T := TX1) (N := 5) (ci := 1) inX1 hK hW 0 2 rfl rfl (by decide) rfl (List.mem_of_getElem? (i := 1) rfl) (v := .ref (aC 3)) rfl dX1_haveSameLabels_21 ?_
        refine z_iloadn F (pc := 24) dX1_haveSameLabels_24 rfl (lv_at hl 2 rfl) ?_
        refine z_iald F (pc := 25) hK hW 3 rfl (by decide) dX1_haveSameLabels_25 (by omega) ?_
        refine z_icmp_ge F (pc := 26) 52 dX1_haveSameLabels_26 (by decide) (by omega) (fun c_26 => ?_) (fun c_26 => ?_)
        · skip
          refine z_iconst F (pc := 52) (1) dX1_haveSameLabels_52 ?_
          exact hret _ _ _ _ 1 () dX1_haveSameLabels_53 (by omega) (by exact zB_1 ⟨by omega, fun i i0 i1 => g2 i i0 (by omega)⟩) hW
        · skip
          have hva := Cok_l hc hk.1.1 hk.1.2 g1.1 (by omega)
          have hvb := Cok_l hc hk.2.1 hk.2.2 g1.1 (by omega)
          refine z_aloadn F (pc := 29) dX1_haveSameLabels_29 rfl (lv_at hl 1 rfl) ?_
          refine z_iloadn F (pc := 30) dX1_haveSameLabels_30 rfl (lv_at hl 2 rfl) ?_
          refine z_iloadn F (pc := 31) dX1_haveSameLabels_31 rfl (lv_at hl 0 rfl) ?_
          refine z_callVi F (pc := 32) hK hW hA (As := [.int (iI a), .int (iI j)]) (rest := []) (ws' := fun (u : Unit) => wC cI cZ aC cx cr cl ll cn) (wr := ([])) (c_X1_labelAt l D cI cZ aC cx cr cl ll cn a j _ (by omega) (by omega) (by omega) (by exact hva.1)) (cwV 2 F.2.2.2.2 gX1_haveSameLabels_X1_labelAt rfl rfl rfl (by decide +kernel) ⟨Nat.le_of_ble_eq_true rfl, Nat.le_of_ble_eq_true rfl⟩) [0, 1, 2, 3, 4] [] [0, 1, 2, 3, 4] rfl rfl (by decide) (by decide) (by decide) (fun _ => rfl) (by decide) (q0 := 0) (ci := 1) rfl rfl rfl rfl rfl hl.1 (Nat.le_of_ble_eq_true rfl) dX1_haveSameLabels_32 ⟨Nat.le_of_ble_eq_true rfl, Nat.le_of_ble_eq_true rfl⟩ (fun z_32 u H locs r_z_32 hp_32 hW => ?_)
          replace hp_32 := hp_32.symm
          subst hp_32
          refine z_aloadn F (pc := 35) dX1_haveSameLabels_35 rfl (lv_at hl 1 rfl) ?_
          refine z_iloadn F (pc := 36) dX1_haveSameLabels_36 rfl (lv_at hl 3 rfl) ?_
          refine z_iloadn F (pc := 37) dX1_haveSameLabels_37 rfl (lv_at hl 0 rfl) ?_
          refine z_callVi F (pc := 38) hK hW hA (As := [.int (iI b), .int (iI j)]) (rest := [.int (iI (ll (4 * a + j)))]) (ws' := fun (u : Unit) => wC cI cZ aC cx cr cl ll cn) (wr := ([])) (c_X1_labelAt l D cI cZ aC cx cr cl ll cn b j _ (by omega) (by omega) (by omega) (by exact hvb.1)) (cwV 2 F.2.2.2.2 gX1_haveSameLabels_X1_labelAt rfl rfl rfl (by decide +kernel) ⟨Nat.le_of_ble_eq_true rfl, Nat.le_of_ble_eq_true rfl⟩) [0, 1, 2, 3, 4] [] [0, 1, 2, 3, 4] rfl rfl (by decide) (by decide) (by decide) (fun _ => rfl) (by decide) (q0 := 0) (ci := 1) rfl rfl rfl rfl rfl hl.1 (Nat.le_of_ble_eq_true rfl) dX1_haveSameLabels_38 ⟨Nat.le_of_ble_eq_true rfl, Nat.le_of_ble_eq_true rfl⟩ (fun z_38 u H locs r_z_38 hp_38 hW => ?_)
          replace hp_38 := hp_38.symm
          subst hp_38
          refine z_icmp_eq F (pc := 41) 46 dX1_haveSameLabels_41 (by decide) (by omega) (fun c_41 => ?_) (fun c_41 => ?_)
          · skip
            refine z_iinc F (pc := 46) hl (lv' := [(3, .int (iI (j + 1))), (0, .ref (aC 0)), (1, .int (iI a)), (2, .int (iI b))]) dX1_haveSameLabels_46 (k := 0) rfl (by decide) rfl (fun ls hl => ?_)
            refine z_goto F (pc := 49) 19 dX1_haveSameLabels_49 (by decide) ?_
            exact ih_19 (j + 1) _ _ _ (by omega) (by omega) (by intro i i0 i1; (by_cases q : i = j) <;> first | (rw [q]; assumption) | exact g2 i i0 (by omega)) (lv_sub hl [0, 1, 2, 3] rfl) hW
          · skip
            refine z_iconst F (pc := 44) (0) dX1_haveSameLabels_44 ?_
            exact hret _ _ _ _ 0 () dX1_haveSameLabels_45 (by omega) (by exact zB_0 (fun q => by have := q.2 j g1.1 (by omega); omega)) hW
    exact cut_19 _ 0 _ _ _ (Nat.lt_succ_self _) (by omega) (by intro i i0 i1; omega) (lv_sub hl [0, 1, 2, 3] rfl) hW
  · skip
    refine z_iconst F (pc := 15) (0) dX1_haveSameLabels_15 ?_
    exact hret _ _ _ _ 0 () dX1_haveSameLabels_16 (by omega) (by exact zB_0 (fun q => by omega)) hW

set_option maxHeartbeats 4000000 in
set_option maxRecDepth 100000 in
theorem c_X1_isHidden (l : Launch) (D : va_G) (cI cZ : ClassId) (aC : Nat → Nat) (cx cr cl ll : Int → Int) (cn : Int) (k : Int) (sz0 : Nat) (r_k : (-2147483648 ≤ k ∧ k < 2147483648)) (hc : Cok cx cr cl ll cn) (hk : 0 ≤ k ∧ k < cn) : Met l yX1_isHidden wsX1_isHidden ({ frames := 2, cells := 0, slots := 0, locals := 45 } : Room) (zPc D cI cZ [.ref (aC 0), .int (iI k)] (wC cI cZ aC cx cr cl ll cn) sz0) (zQi D cI cZ (wC cI cZ aC cx cr cl ll cn) sz0 (fun (r : Int) (u : Unit) => zB r (hid cx cr cl ll cn k)) (fun (u : Unit) => wC cI cZ aC cx cr cl ll cn)) 0 0 (va_A (wC cI cZ aC cx cr cl ll cn) sz0) := by
  have hcn := hc.1
  have h9k := Cok_at hc hk.1 hk.2
  refine z_ofI (maxL := 3) (plainFor_of_name (by decide)) rfl (Nat.le_of_ble_eq_true rfl) (Or.inr ⟨rfl, fun z u h => zB_01 h⟩) ?_
  intro p e s m below meth c A ls Q F hK hW hA hl hret
  have hl : lv_has ls 3 [(0, .ref (aC 0)), (1, .int (iI k))] := hl
  have inX1 : ∀ w ∈ u_ws RX1 TX1 5, w ∈ wsX1_isHidden := fun _ h => List.mem_cons_of_mem _ (List.mem_append_right _ h)
  refine z_iconst F (pc := 0) (0) dX1_isHidden_0 ?_
  refine z_istoren F (pc := 1) hl (lv' := [(2, .int (iI 0)), (0, .ref (aC 0)), (1, .int (iI k))]) dX1_isHidden_1 rfl (by decide) rfl (fun ls hl => ?_)
  have cut_2 : ∀ (fuel : Nat) (j : Int) (H : Heap) (locs : List Loc) (ls : Array Slot), (cn - j).toNat < fuel → (0 ≤ j ∧ j ≤ cn) → (∀ d, 0 ≤ d → d < j → ¬ hid1 cx cr cl ll k d) → lv_has ls 3 [(2, .int (iI j)), (0, .ref (aC 0)), (1, .int (iI k))] → zW D A s.heap H locs (wC cI cZ aC cx cr cl ll cn) → W p l e ({ frames := 2, cells := 0, slots := 0, locals := 45 } : Room) s m ([.ref (aC 0), .int (iI k)] : List Value).toArray below meth c H locs 0 0 Q (F0 m 2 ls []) := by
    intro fuel
    induction fuel with
    | zero => intro j H locs ls hm; exact absurd hm (Nat.not_lt_zero _)
    | succ fuel ih_2 =>
      intro j H locs ls hm_2 g1 g2 hl hW
      refine z_iloadn F (pc := 2) dX1_isHidden_2 rfl (lv_at hl 0 rfl) ?_
      refine z_aloadn F (pc := 3) dX1_isHidden_3 rfl (lv_at hl 1 rfl) ?_
      refine z_get F (pc := 4) (C := RX1) (T := TX1) (N := 5) (ci := 1) inX1 hK hW 0 4 rfl rfl (by decide) rfl (List.mem_of_getElem? (i := 1) rfl) (v := .int (iI cn)) rfl dX1_isHidden_4 ?_
      refine z_icmp_ge F (pc := 7) 50 dX1_isHidden_7 (by decide) (by omega) (fun c_7 => ?_) (fun c_7 => ?_)
      · skip
        refine z_iconst F (pc := 50) (0) dX1_isHidden_50 ?_
        exact hret _ _ _ _ 0 () dX1_isHidden_51 (by omega) (by exact zB_0 (fun ⟨d, q1, q2⟩ => g2 d q1.1 (by omega) q2)) hW
      · skip
        refine z_aloadn F (pc := 10) dX1_isHidden_10 rfl (lv_at hl 1 rfl) ?_
        refine z_iloadn F (pc := 11) dX1_isHidden_11 rfl (lv_at hl 0 rfl) ?_
        refine z_aloadn F (pc := 12) dX1_isHidden_12 rfl (lv_at hl 1 rfl) ?_
        refine z_get F (pc := 13) (C := RX1) (T := TX1) (N := 5) (ci := 1) inX1 hK hW 0 0 rfl rfl (by decide) rfl (List.mem_of_getElem? (i := 2) rfl) (v := .ref (aC 1)) rfl dX1_isHidden_13 ?_
        refine z_iloadn F (pc := 16) dX1_isHidden_16 rfl (lv_at hl 2 rfl) ?_
        refine z_iald F (pc := 17) hK hW 1 rfl (by decide) dX1_isHidden_17 (by omega) ?_
        refine z_callVi F (pc := 18) hK hW hA (As := [.int (iI j), .int (iI (cx k))]) (rest := []) (ws' := fun (u : Unit) => wC cI cZ aC cx cr cl ll cn) (wr := ([])) (c_X1_isOf l D cI cZ aC cx cr cl ll cn j (cx k) _ (by omega) (by omega) (by exact hc) (by omega)) (cwV 2 F.2.2.2.2 gX1_isHidden_X1_isOf rfl rfl rfl (by decide +kernel) ⟨Nat.le_of_ble_eq_true rfl, Nat.le_of_ble_eq_true rfl⟩) [0, 1, 2, 3, 4] [] [0, 1, 2, 3, 4] rfl rfl (by decide) (by decide) (by decide) (fun _ => rfl) (by decide) (q0 := 0) (ci := 1) rfl rfl rfl rfl rfl hl.1 (Nat.le_of_ble_eq_true rfl) dX1_isHidden_18 ⟨Nat.le_of_ble_eq_true rfl, Nat.le_of_ble_eq_true rfl⟩ (fun z_18 u H locs r_z_18 hp_18 hW => ?_)
        refine z_if_eq F (pc := 21) 44 dX1_isHidden_21 (by decide) (by omega) (fun c_21 => ?_) (fun c_21 => ?_)
        · skip
          have b_21 := zB_f hp_18 c_21
          have hst : ¬ hid1 cx cr cl ll k j := fun q => b_21 q.1
          refine z_iinc F (pc := 44) hl (lv' := [(2, .int (iI (j + 1))), (0, .ref (aC 0)), (1, .int (iI k))]) dX1_isHidden_44 (k := 0) rfl (by decide) rfl (fun ls hl => ?_)
          refine z_goto F (pc := 47) 2 dX1_isHidden_47 (by decide) ?_
          exact ih_2 (j + 1) _ _ _ (by omega) (by omega) (by intro d d0 d1; (by_cases q : d = j) <;> first | (rw [q]; exact hst) | exact g2 d d0 (by omega)) (lv_sub hl [0, 1, 2] rfl) hW
        · skip
          have b_21 := zB_t hp_18 c_21
          refine z_aloadn F (pc := 24) dX1_isHidden_24 rfl (lv_at hl 1 rfl) ?_
          refine z_iloadn F (pc := 25) dX1_isHidden_25 rfl (lv_at hl 0 rfl) ?_
          refine z_iloadn F (pc := 26) dX1_isHidden_26 rfl (lv_at hl 2 rfl) ?_
          refine z_callVi F (pc := 27) hK hW hA (As := [.int (iI j), .int (iI k)]) (rest := []) (ws' := fun (u : Unit) => wC cI cZ aC cx cr cl ll cn) (wr := ([])) (c_X1_haveSameLabels l D cI cZ aC cx cr cl ll cn j k _ (by omega) (by omega) (by exact hc) (by omega)) (cwV 2 F.2.2.2.2 gX1_isHidden_X1_haveSameLabels rfl rfl rfl (by decide +kernel) ⟨Nat.le_of_ble_eq_true rfl, Nat.le_of_ble_eq_true rfl⟩) [0, 1, 2, 3, 4] [] [0, 1, 2, 3, 4] rfl rfl (by decide) (by decide) (by decide) (fun _ => rfl) (by decide) (q0 := 0) (ci := 1) rfl rfl rfl rfl rfl hl.1 (Nat.le_of_ble_eq_true rfl) dX1_isHidden_27 ⟨Nat.le_of_ble_eq_true rfl, Nat.le_of_ble_eq_true rfl⟩ (fun z_27 u H locs r_z_27 hp_27 hW => ?_)
          refine z_if_eq F (pc := 30) 44 dX1_isHidden_30 (by decide) (by omega) (fun c_30 => ?_) (fun c_30 => ?_)
          · skip
            have b_30 := zB_f hp_27 c_30
            have hst : ¬ hid1 cx cr cl ll k j := fun q => b_30 q.2.1
            refine z_iinc F (pc := 44) hl (lv' := [(2, .int (iI (j + 1))), (0, .ref (aC 0)), (1, .int (iI k))]) dX1_isHidden_44 (k := 0) rfl (by decide) rfl (fun ls hl => ?_)
            refine z_goto F (pc := 47) 2 dX1_isHidden_47 (by decide) ?_
            exact ih_2 (j + 1) _ _ _ (by omega) (by omega) (by intro d d0 d1; (by_cases q : d = j) <;> first | (rw [q]; exact hst) | exact g2 d d0 (by omega)) (lv_sub hl [0, 1, 2] rfl) hW
          · skip
            have b_30 := zB_t hp_27 c_30
            refine z_aloadn F (pc := 33) dX1_isHidden_33 rfl (lv_at hl 1 rfl) ?_
            refine z_iloadn F (pc := 34) dX1_isHidden_34 rfl (lv_at hl 0 rfl) ?_
            refine z_iloadn F (pc := 35) dX1_isHidden_35 rfl (lv_at hl 2 rfl) ?_
            refine z_callVi F (pc := 36) hK hW hA (As := [.int (iI j), .int (iI k)]) (rest := []) (ws' := fun (u : Unit) => wC cI cZ aC cx cr cl ll cn) (wr := ([])) (c_X1_goesBefore l D cI cZ aC cx cr cl ll cn j k _ (by omega) (by omega) (by exact hc) (by omega)) (cwV 2 F.2.2.2.2 gX1_isHidden_X1_goesBefore rfl rfl rfl (by decide +kernel) ⟨Nat.le_of_ble_eq_true rfl, Nat.le_of_ble_eq_true rfl⟩) [0, 1, 2, 3, 4] [] [0, 1, 2, 3, 4] rfl rfl (by decide) (by decide) (by decide) (fun _ => rfl) (by decide) (q0 := 0) (ci := 1) rfl rfl rfl rfl rfl hl.1 (Nat.le_of_ble_eq_true rfl) dX1_isHidden_36 ⟨Nat.le_of_ble_eq_true rfl, Nat.le_of_ble_eq_true rfl⟩ (fun z_36 u H locs r_z_36 hp_36 hW => ?_)
            refine z_if_eq F (pc := 39) 44 dX1_isHidden_39 (by decide) (by omega) (fun c_39 => ?_) (fun c_39 => ?_)
            · skip
              have b_39 := zB_f hp_36 c_39
              have hst : ¬ hid1 cx cr cl ll k j := fun q => b_39 q.2.2
              refine z_iinc F (pc := 44) hl (lv' := [(2, .int (iI (j + 1))), (0, .ref (aC 0)), (1, .int (iI k))]) dX1_isHidden_44 (k := 0) rfl (by decide) rfl (fun ls hl => ?_)
              refine z_goto F (pc := 47) 2 dX1_isHidden_47 (by decide) ?_
              exact ih_2 (j + 1) _ _ _ (by omega) (by omega) (by intro d d0 d1; (by_cases q : d = j) <;> first | (rw [q]; exact hst) | exact g2 d d0 (by omega)) (lv_sub hl [0, 1, 2] rfl) hW
            · skip
              have b_39 := zB_t hp_36 c_39
              refine z_iconst F (pc := 42) (1) dX1_isHidden_42 ?_
              exact hret _ _ _ _ 1 () dX1_isHidden_43 (by omega) (by exact zB_1 ⟨j, ⟨g1.1, by omega⟩, b_21, b_30, b_39⟩) hW
  exact cut_2 _ 0 _ _ _ (Nat.lt_succ_self _) (by omega) (by intro d d0 d1; omega) (lv_sub hl [0, 1, 2] rfl) hW

set_option maxHeartbeats 4000000 in
set_option maxRecDepth 100000 in
theorem c_X3_standsAt (l : Launch) (D : va_G) (cI cZ : ClassId) (aL aC : Nat → Nat) (rw fn fp cx cr cl ll : Int → Int) (ln fc cn : Int) (k pl : Int) (sz0 : Nat) (r_k : (-2147483648 ≤ k ∧ k < 2147483648)) (r_pl : (-2147483648 ≤ pl ∧ pl < 2147483648)) (hc : Cok cx cr cl ll cn) (hr : Rok rw ln) (hk : 0 ≤ k ∧ k < cn) (hpl : 0 ≤ pl ∧ pl ≤ ln) : Met l yX3_standsAt wsX3_standsAt ({ frames := 1, cells := 0, slots := 0, locals := 22 } : Room) (zPc D cI cZ [.ref (aL 0), .ref (aC 0), .int (iI k), .int (iI pl)] (wL cI cZ aL rw fn fp ln fc ++ wC cI cZ aC cx cr cl ll cn) sz0) (zQi D cI cZ (wL cI cZ aL rw fn fp ln fc ++ wC cI cZ aC cx cr cl ll cn) sz0 (fun (r : Int) (u : Unit) => zB r (stA cl ll rw ln k pl)) (fun (u : Unit) => wL cI cZ aL rw fn fp ln fc ++ wC cI cZ aC cx cr cl ll cn)) 0 0 (va_A (wL cI cZ aL rw fn fp ln fc ++ wC cI cZ aC cx cr cl ll cn) sz0) := by
  have hcn := hc.1
  have h9k := Cok_at hc hk.1 hk.2
  have hln := hr.1
  refine z_ofI (maxL := 5) (plainFor_of_name (by decide)) rfl (Nat.le_of_ble_eq_true rfl) (Or.inr ⟨rfl, fun z u h => zB_01 h⟩) ?_
  intro p e s m below meth c A ls Q F hK hW hA hl hret
  have hl : lv_has ls 5 [(0, .ref (aL 0)), (1, .ref (aC 0)), (2, .int (iI k)), (3, .int (iI pl))] := hl
  have inX1 : ∀ w ∈ u_ws RX1 TX1 5, w ∈ wsX3_standsAt := fun _ h => List.mem_cons_of_mem _ (List.mem_append_left _ (List.mem_append_right _ h))
  have inX3 : ∀ w ∈ u_ws RX3 TX3 5, w ∈ wsX3_standsAt := fun _ h => List.mem_cons_of_mem _ (List.mem_append_right _ h)
  refine z_aloadn F (pc := 0) dX3_standsAt_0 rfl (lv_at hl 1 rfl) ?_
  refine z_get F (pc := 1) (C := RX1) (T := TX1) (N := 5) (ci := 1) inX1 hK hW 4 2 rfl rfl (by decide) rfl (List.mem_of_getElem? (i := 1) rfl) (v := .ref (aC 3)) rfl dX3_standsAt_1 ?_
  refine z_iloadn F (pc := 4) dX3_standsAt_4 rfl (lv_at hl 2 rfl) ?_
  refine z_iald F (pc := 5) hK hW 7 rfl (by decide) dX3_standsAt_5 (by omega) ?_
  refine z_aloadn F (pc := 6) dX3_standsAt_6 rfl (lv_at hl 0 rfl) ?_
  refine z_get F (pc := 7) (C := RX3) (T := TX3) (N := 5) (ci := 3) inX3 hK hW 0 3 rfl rfl (by decide) rfl (List.mem_of_getElem? (i := 2) rfl) (v := .int (iI ln)) rfl dX3_standsAt_7 ?_
  refine z_iloadn F (pc := 10) dX3_standsAt_10 rfl (lv_at hl 3 rfl) ?_
  refine z_isub F (pc := 11) dX3_standsAt_11 ?_
  refine z_icmp_le F (pc := 12) 17 dX3_standsAt_12 (by decide) (by omega) (fun c_12 => ?_) (fun c_12 => ?_)
  · skip
    refine z_iconst F (pc := 17) (0) dX3_standsAt_17 ?_
    refine z_istore F (pc := 18) hl (lv' := [(4, .int (iI 0)), (0, .ref (aL 0)), (1, .ref (aC 0)), (2, .int (iI k)), (3, .int (iI pl))]) dX3_standsAt_18 (by decide) rfl (fun ls hl => ?_)
    have cut_20 : ∀ (fuel : Nat) (j : Int) (H : Heap) (locs : List Loc) (ls : Array Slot), (cl k - j).toNat < fuel → (0 ≤ j ∧ j ≤ cl k) → (∀ i, 0 ≤ i → i < j → rw (pl + i) = ll (4 * k + i)) → lv_has ls 5 [(4, .int (iI j)), (0, .ref (aL 0)), (1, .ref (aC 0)), (2, .int (iI k)), (3, .int (iI pl))] → zW D A s.heap H locs (wL cI cZ aL rw fn fp ln fc ++ wC cI cZ aC cx cr cl ll cn) → W p l e ({ frames := 1, cells := 0, slots := 0, locals := 22 } : Room) s m ([.ref (aL 0), .ref (aC 0), .int (iI k), .int (iI pl)] : List Value).toArray below meth c H locs 0 0 Q (F0 m 20 ls []) := by
      intro fuel
      induction fuel with
      | zero => intro j H locs ls hm; exact absurd hm (Nat.not_lt_zero _)
      | succ fuel ih_20 =>
        intro j H locs ls hm_20 g1 g2 hl hW
        refine z_iload F (pc := 20) dX3_standsAt_20 (lv_at hl 0 rfl) ?_
        refine z_aloadn F (pc := 22) dX3_standsAt_22 rfl (lv_at hl 2 rfl) ?_
        refine z_get F (pc := 23) (C := RX1) (T := TX1) (N := 5) (ci := 1) inX1 hK hW 4 2 rfl rfl (by decide) rfl (List.mem_of_getElem? (i := 1) rfl) (v := .ref (aC 3)) rfl dX3_standsAt_23 ?_
        refine z_iloadn F (pc := 26) dX3_standsAt_26 rfl (lv_at hl 3 rfl) ?_
        refine z_iald F (pc := 27) hK hW 7 rfl (by decide) dX3_standsAt_27 (by omega) ?_
        refine z_icmp_ge F (pc := 28) 58 dX3_standsAt_28 (by decide) (by omega) (fun c_28 => ?_) (fun c_28 => ?_)
        · skip
          refine z_iconst F (pc := 58) (1) dX3_standsAt_58 ?_
          exact hret _ _ _ _ 1 () dX3_standsAt_59 (by omega) (by exact zB_1 ⟨by omega, fun i i0 i1 => g2 i i0 (by omega)⟩) hW
        · skip
          have hva := Cok_l hc hk.1 hk.2 g1.1 (by omega)
          have hvr := Rok_at hr (j := pl + j) (by omega) (by omega)
          refine z_aloadn F (pc := 31) dX3_standsAt_31 rfl (lv_at hl 1 rfl) ?_
          refine z_get F (pc := 32) (C := RX3) (T := TX3) (N := 5) (ci := 3) inX3 hK hW 0 0 rfl rfl (by decide) rfl (List.mem_of_getElem? (i := 3) rfl) (v := .ref (aL 1)) rfl dX3_standsAt_32 ?_
          refine z_iloadn F (pc := 35) dX3_standsAt_35 rfl (lv_at hl 4 rfl) ?_
          refine z_iload F (pc := 36) dX3_standsAt_36 (lv_at hl 0 rfl) ?_
          refine z_iadd F (pc := 38) dX3_standsAt_38 ?_
          refine z_iald F (pc := 39) hK hW 1 rfl (by decide) dX3_standsAt_39 (by omega) ?_
          refine z_aloadn F (pc := 40) dX3_standsAt_40 rfl (lv_at hl 2 rfl) ?_
          refine z_iloadn F (pc := 41) dX3_standsAt_41 rfl (lv_at hl 3 rfl) ?_
          refine z_iload F (pc := 42) dX3_standsAt_42 (lv_at hl 0 rfl) ?_
          refine z_callVi F (pc := 44) hK hW hA (As := [.int (iI k), .int (iI j)]) (rest := [.int (iI (rw (pl + j)))]) (ws' := fun (u : Unit) => wL cI cZ aL rw fn fp ln fc ++ wC cI cZ aC cx cr cl ll cn) (wr := (wL cI cZ aL rw fn fp ln fc)) (c_X1_labelAt l D cI cZ aC cx cr cl ll cn k j _ (by omega) (by omega) (by omega) (by exact hva.1)) (cwV 2 F.2.2.2.2 gX3_standsAt_X1_labelAt rfl rfl rfl (by decide +kernel) ⟨Nat.le_of_ble_eq_true rfl, Nat.le_of_ble_eq_true rfl⟩) [4, 5, 6, 7, 8] [0, 1, 2, 3] [0, 1, 2, 3, 4, 5, 6, 7, 8] rfl rfl (by decide) (by decide) (by decide) (fun _ => rfl) (by decide) (q0 := 4) (ci := 1) rfl rfl rfl rfl rfl hl.1 (Nat.le_of_ble_eq_true rfl) dX3_standsAt_44 ⟨Nat.le_of_ble_eq_true rfl, Nat.le_of_ble_eq_true rfl⟩ (fun z_44 u H locs r_z_44 hp_44 hW => ?_)
          replace hp_44 := hp_44.symm
          subst hp_44
          refine z_icmp_eq F (pc := 47) 52 dX3_standsAt_47 (by decide) (by omega) (fun c_47 => ?_) (fun c_47 => ?_)
          · skip
            refine z_iinc F (pc := 52) hl (lv' := [(4, .int (iI (j + 1))), (0, .ref (aL 0)), (1, .ref (aC 0)), (2, .int (iI k)), (3, .int (iI pl))]) dX3_standsAt_52 (k := 0) rfl (by decide) rfl (fun ls hl => ?_)
            refine z_goto F (pc := 55) 20 dX3_standsAt_55 (by decide) ?_
            exact ih_20 (j + 1) _ _ _ (by omega) (by omega) (by intro i i0 i1; (by_cases q : i = j) <;> first | (rw [q]; assumption) | exact g2 i i0 (by omega)) (lv_sub hl [0, 1, 2, 3, 4] rfl) hW
          · skip
            refine z_iconst F (pc := 50) (0) dX3_standsAt_50 ?_
            exact hret _ _ _ _ 0 () dX3_standsAt_51 (by omega) (by exact zB_0 (fun q => by have := q.2 j g1.1 (by omega); omega)) hW
    exact cut_20 _ 0 _ _ _ (Nat.lt_succ_self _) (by omega) (by intro i i0 i1; omega) (lv_sub hl [0, 1, 2, 3, 4] rfl) hW
  · skip
    refine z_iconst F (pc := 15) (0) dX3_standsAt_15 ?_
    exact hret _ _ _ _ 0 () dX3_standsAt_16 (by omega) (by exact zB_0 (fun q => by have := q.1; omega)) hW

set_option maxHeartbeats 4000000 in
set_option maxRecDepth 100000 in
theorem c_X3_commandAt (l : Launch) (D : va_G) (cI cZ : ClassId) (aL aC : Nat → Nat) (rw fn fp cx cr cl ll : Int → Int) (ln fc cn : Int) (x pl : Int) (sz0 : Nat) (r_x : (-2147483648 ≤ x ∧ x < 2147483648)) (r_pl : (-2147483648 ≤ pl ∧ pl < 2147483648)) (hc : Cok cx cr cl ll cn) (hr : Rok rw ln) (hpl : 0 ≤ pl ∧ pl < ln) : Met l yX3_commandAt wsX3_commandAt ({ frames := 2, cells := 0, slots := 0, locals := 46 } : Room) (zPc D cI cZ [.ref (aL 0), .ref (aC 0), .int (iI x), .int (iI pl)] (wL cI cZ aL rw fn fp ln fc ++ wC cI cZ aC cx cr cl ll cn) sz0) (zQi D cI cZ (wL cI cZ aL rw fn fp ln fc ++ wC cI cZ aC cx cr cl ll cn) sz0 (fun (r : Int) (u : Unit) => bestT cx cr cl ll rw cn ln x cn pl r) (fun (u : Unit) => wL cI cZ aL rw fn fp ln fc ++ wC cI cZ aC cx cr cl ll cn)) 0 0 (va_A (wL cI cZ aL rw fn fp ln fc ++ wC cI cZ aC cx cr cl ll cn) sz0) := by
  have hcn := hc.1
  have hln := hr.1
  refine z_ofI (maxL := 6) (plainFor_of_name (by decide)) rfl (Nat.le_of_ble_eq_true rfl) (Or.inl rfl) ?_
  intro p e s m below meth c A ls Q F hK hW hA hl hret
  have hl : lv_has ls 6 [(0, .ref (aL 0)), (1, .ref (aC 0)), (2, .int (iI x)), (3, .int (iI pl))] := hl
  have inX1 : ∀ w ∈ u_ws RX1 TX1 5, w ∈ wsX3_commandAt := fun _ h => List.mem_cons_of_mem _ (List.mem_append_left _ (List.mem_append_right _ h))
  refine z_bipush F (pc := 0) (-4) (by decide +kernel) dX3_commandAt_0 ?_
  refine z_istore F (pc := 2) hl (lv' := [(4, .int (iI (-4))), (0, .ref (aL 0)), (1, .ref (aC 0)), (2, .int (iI x)), (3, .int (iI pl))]) dX3_commandAt_2 (by decide) rfl (fun ls hl => ?_)
  refine z_iconst F (pc := 4) (0) dX3_commandAt_4 ?_
  refine z_istore F (pc := 5) hl (lv' := [(5, .int (iI 0)), (4, .int (iI (-4))), (0, .ref (aL 0)), (1, .ref (aC 0)), (2, .int (iI x)), (3, .int (iI pl))]) dX3_commandAt_5 (by decide) rfl (fun ls hl => ?_)
  have cut_7 : ∀ (fuel : Nat) (b : Int) (j : Int) (H : Heap) (locs : List Loc) (ls : Array Slot), (cn - j).toNat < fuel → (0 ≤ j ∧ j ≤ cn) → (bestT cx cr cl ll rw cn ln x j pl b) → (b = -4 ∨ (0 ≤ b ∧ b < j)) → lv_has ls 6 [(5, .int (iI j)), (4, .int (iI b)), (0, .ref (aL 0)), (1, .ref (aC 0)), (2, .int (iI x)), (3, .int (iI pl))] → zW D A s.heap H locs (wL cI cZ aL rw fn fp ln fc ++ wC cI cZ aC cx cr cl ll cn) → W p l e ({ frames := 2, cells := 0, slots := 0, locals := 46 } : Room) s m ([.ref (aL 0), .ref (aC 0), .int (iI x), .int (iI pl)] : List Value).toArray below meth c H locs 0 0 Q (F0 m 7 ls []) := by
    intro fuel
    induction fuel with
    | zero => intro b j H locs ls hm; exact absurd hm (Nat.not_lt_zero _)
    | succ fuel ih_7 =>
      intro b j H locs ls hm_7 g1 g2 g3 hl hW
      refine z_iload F (pc := 7) dX3_commandAt_7 (lv_at hl 0 rfl) ?_
      refine z_aloadn F (pc := 9) dX3_commandAt_9 rfl (lv_at hl 3 rfl) ?_
      refine z_get F (pc := 10) (C := RX1) (T := TX1) (N := 5) (ci := 1) inX1 hK hW 4 4 rfl rfl (by decide) rfl (List.mem_of_getElem? (i := 1) rfl) (v := .int (iI cn)) rfl dX3_commandAt_10 ?_
      refine z_icmp_ge F (pc := 13) 65 dX3_commandAt_13 (by decide) (by omega) (fun c_13 => ?_) (fun c_13 => ?_)
      · skip
        refine z_iload F (pc := 65) dX3_commandAt_65 (lv_at hl 1 rfl) ?_
        exact hret _ _ _ _ b () dX3_commandAt_67 (by omega) (by rw [show j = cn by omega] at g2; exact g2) hW
      · skip
        refine z_aloadn F (pc := 16) dX3_commandAt_16 rfl (lv_at hl 3 rfl) ?_
        refine z_iload F (pc := 17) dX3_commandAt_17 (lv_at hl 0 rfl) ?_
        refine z_iloadn F (pc := 19) dX3_commandAt_19 rfl (lv_at hl 4 rfl) ?_
        refine z_callVi F (pc := 20) hK hW hA (As := [.int (iI j), .int (iI x)]) (rest := []) (ws' := fun (u : Unit) => wL cI cZ aL rw fn fp ln fc ++ wC cI cZ aC cx cr cl ll cn) (wr := (wL cI cZ aL rw fn fp ln fc)) (c_X1_isOf l D cI cZ aC cx cr cl ll cn j x _ (by omega) (by omega) (by exact hc) (by omega)) (cwV 2 F.2.2.2.2 gX3_commandAt_X1_isOf rfl rfl rfl (by decide +kernel) ⟨Nat.le_of_ble_eq_true rfl, Nat.le_of_ble_eq_true rfl⟩) [4, 5, 6, 7, 8] [0, 1, 2, 3] [0, 1, 2, 3, 4, 5, 6, 7, 8] rfl rfl (by decide) (by decide) (by decide) (fun _ => rfl) (by decide) (q0 := 4) (ci := 1) rfl rfl rfl rfl rfl hl.1 (Nat.le_of_ble_eq_true rfl) dX3_commandAt_20 ⟨Nat.le_of_ble_eq_true rfl, Nat.le_of_ble_eq_true rfl⟩ (fun z_20 u H locs r_z_20 hp_20 hW => ?_)
        refine z_if_eq F (pc := 23) 59 dX3_commandAt_23 (by decide) (by omega) (fun c_23 => ?_) (fun c_23 => ?_)
        · skip
          have b_23 := zB_f hp_20 c_23
          have hst := bestT_no g2 (fun q => b_23 q.1)
          refine z_iinc F (pc := 59) hl (lv' := [(5, .int (iI (j + 1))), (4, .int (iI b)), (0, .ref (aL 0)), (1, .ref (aC 0)), (2, .int (iI x)), (3, .int (iI pl))]) dX3_commandAt_59 (k := 0) rfl (by decide) rfl (fun ls hl => ?_)
          refine z_goto F (pc := 62) 7 dX3_commandAt_62 (by decide) ?_
          exact ih_7 b (j + 1) _ _ _ (by omega) (by omega) (by exact hst) (by omega) (lv_sub hl [0, 1, 2, 3, 4, 5] rfl) hW
        · skip
          have b_23 := zB_t hp_20 c_23
          refine z_aloadn F (pc := 26) dX3_commandAt_26 rfl (lv_at hl 2 rfl) ?_
          refine z_aloadn F (pc := 27) dX3_commandAt_27 rfl (lv_at hl 3 rfl) ?_
          refine z_iload F (pc := 28) dX3_commandAt_28 (lv_at hl 0 rfl) ?_
          refine z_iloadn F (pc := 30) dX3_commandAt_30 rfl (lv_at hl 5 rfl) ?_
          refine z_callVi F (pc := 31) hK hW hA (As := [.ref (aC 0), .int (iI j), .int (iI pl)]) (rest := []) (ws' := fun (u : Unit) => wL cI cZ aL rw fn fp ln fc ++ wC cI cZ aC cx cr cl ll cn) (wr := ([])) (c_X3_standsAt l D cI cZ aL aC rw fn fp cx cr cl ll ln fc cn j pl _ (by omega) (by omega) (by exact hc) (by exact hr) (by omega) (by omega)) (cwV 3 F.2.2.2.2 gX3_commandAt_X3_standsAt rfl rfl rfl (by decide +kernel) ⟨Nat.le_of_ble_eq_true rfl, Nat.le_of_ble_eq_true rfl⟩) [0, 1, 2, 3, 4, 5, 6, 7, 8] [] [0, 1, 2, 3, 4, 5, 6, 7, 8] rfl rfl (by decide) (by decide) (by decide) (fun _ => rfl) (by decide) (q0 := 0) (ci := 3) rfl rfl rfl rfl rfl hl.1 (Nat.le_of_ble_eq_true rfl) dX3_commandAt_31 ⟨Nat.le_of_ble_eq_true rfl, Nat.le_of_ble_eq_true rfl⟩ (fun z_31 u H locs r_z_31 hp_31 hW => ?_)
          refine z_if_eq F (pc := 34) 59 dX3_commandAt_34 (by decide) (by omega) (fun c_34 => ?_) (fun c_34 => ?_)
          · skip
            have b_34 := zB_f hp_31 c_34
            have hst := bestT_no g2 (fun q => b_34 q.2)
            refine z_iinc F (pc := 59) hl (lv' := [(5, .int (iI (j + 1))), (4, .int (iI b)), (0, .ref (aL 0)), (1, .ref (aC 0)), (2, .int (iI x)), (3, .int (iI pl))]) dX3_commandAt_59 (k := 0) rfl (by decide) rfl (fun ls hl => ?_)
            refine z_goto F (pc := 62) 7 dX3_commandAt_62 (by decide) ?_
            exact ih_7 b (j + 1) _ _ _ (by omega) (by omega) (by exact hst) (by omega) (lv_sub hl [0, 1, 2, 3, 4, 5] rfl) hW
          · skip
            have b_34 := zB_t hp_31 c_34
            refine z_iload F (pc := 37) dX3_commandAt_37 (lv_at hl 1 rfl) ?_
            refine z_bipush F (pc := 39) (-4) (by decide +kernel) dX3_commandAt_39 ?_
            refine z_icmp_eq F (pc := 41) 55 dX3_commandAt_41 (by decide) (by omega) (fun c_41 => ?_) (fun c_41 => ?_)
            · skip
              have hst := bestT_new g1.1 g2 ⟨b_23, b_34⟩ (Or.inl (by omega))
              refine z_iload F (pc := 55) dX3_commandAt_55 (lv_at hl 0 rfl) ?_
              refine z_istore F (pc := 57) hl (lv' := [(4, .int (iI j)), (5, .int (iI j)), (0, .ref (aL 0)), (1, .ref (aC 0)), (2, .int (iI x)), (3, .int (iI pl))]) dX3_commandAt_57 (by decide) rfl (fun ls hl => ?_)
              refine z_iinc F (pc := 59) hl (lv' := [(5, .int (iI (j + 1))), (4, .int (iI j)), (0, .ref (aL 0)), (1, .ref (aC 0)), (2, .int (iI x)), (3, .int (iI pl))]) dX3_commandAt_59 (k := 1) rfl (by decide) rfl (fun ls hl => ?_)
              refine z_goto F (pc := 62) 7 dX3_commandAt_62 (by decide) ?_
              exact ih_7 j (j + 1) _ _ _ (by omega) (by omega) (by exact hst) (by omega) (lv_sub hl [0, 1, 2, 3, 4, 5] rfl) hW
            · skip
              refine z_aloadn F (pc := 44) dX3_commandAt_44 rfl (lv_at hl 3 rfl) ?_
              refine z_iload F (pc := 45) dX3_commandAt_45 (lv_at hl 0 rfl) ?_
              refine z_iload F (pc := 47) dX3_commandAt_47 (lv_at hl 1 rfl) ?_
              refine z_callVi F (pc := 49) hK hW hA (As := [.int (iI j), .int (iI b)]) (rest := []) (ws' := fun (u : Unit) => wL cI cZ aL rw fn fp ln fc ++ wC cI cZ aC cx cr cl ll cn) (wr := (wL cI cZ aL rw fn fp ln fc)) (c_X1_goesBefore l D cI cZ aC cx cr cl ll cn j b _ (by omega) (by omega) (by exact hc) (by omega)) (cwV 2 F.2.2.2.2 gX3_commandAt_X1_goesBefore rfl rfl rfl (by decide +kernel) ⟨Nat.le_of_ble_eq_true rfl, Nat.le_of_ble_eq_true rfl⟩) [4, 5, 6, 7, 8] [0, 1, 2, 3] [0, 1, 2, 3, 4, 5, 6, 7, 8] rfl rfl (by decide) (by decide) (by decide) (fun _ => rfl) (by decide) (q0 := 4) (ci := 1) rfl rfl rfl rfl rfl hl.1 (Nat.le_of_ble_eq_true rfl) dX3_commandAt_49 ⟨Nat.le_of_ble_eq_true rfl, Nat.le_of_ble_eq_true rfl⟩ (fun z_49 u H locs r_z_49 hp_49 hW => ?_)
              refine z_if_eq F (pc := 52) 59 dX3_commandAt_52 (by decide) (by omega) (fun c_52 => ?_) (fun c_52 => ?_)
              · skip
                have b_52 := zB_f hp_49 c_52
                have hst := bestT_keep g2 (by omega) b_52
                refine z_iinc F (pc := 59) hl (lv' := [(5, .int (iI (j + 1))), (4, .int (iI b)), (0, .ref (aL 0)), (1, .ref (aC 0)), (2, .int (iI x)), (3, .int (iI pl))]) dX3_commandAt_59 (k := 0) rfl (by decide) rfl (fun ls hl => ?_)
                refine z_goto F (pc := 62) 7 dX3_commandAt_62 (by decide) ?_
                exact ih_7 b (j + 1) _ _ _ (by omega) (by omega) (by exact hst) (by omega) (lv_sub hl [0, 1, 2, 3, 4, 5] rfl) hW
              · skip
                have b_52 := zB_t hp_49 c_52
                have hst := bestT_new g1.1 g2 ⟨b_23, b_34⟩ (Or.inr b_52)
                refine z_iload F (pc := 55) dX3_commandAt_55 (lv_at hl 0 rfl) ?_
                refine z_istore F (pc := 57) hl (lv' := [(4, .int (iI j)), (5, .int (iI j)), (0, .ref (aL 0)), (1, .ref (aC 0)), (2, .int (iI x)), (3, .int (iI pl))]) dX3_commandAt_57 (by decide) rfl (fun ls hl => ?_)
                refine z_iinc F (pc := 59) hl (lv' := [(5, .int (iI (j + 1))), (4, .int (iI j)), (0, .ref (aL 0)), (1, .ref (aC 0)), (2, .int (iI x)), (3, .int (iI pl))]) dX3_commandAt_59 (k := 1) rfl (by decide) rfl (fun ls hl => ?_)
                refine z_goto F (pc := 62) 7 dX3_commandAt_62 (by decide) ?_
                exact ih_7 j (j + 1) _ _ _ (by omega) (by omega) (by exact hst) (by omega) (lv_sub hl [0, 1, 2, 3, 4, 5] rfl) hW
  exact cut_7 _ (-4) 0 _ _ _ (Nat.lt_succ_self _) (by omega) (by exact bestT_0 cx cr cl ll rw cn ln x pl) (by omega) (lv_sub hl [0, 1, 2, 3, 4, 5] rfl) hW

set_option maxHeartbeats 4000000 in
set_option maxRecDepth 100000 in
theorem c_X3_findCommands (l : Launch) (D : va_G) (cI cZ : ClassId) (aL aC : Nat → Nat) (rw fn fp cx cr cl ll : Int → Int) (ln fc cn : Int) (x : Int) (sz0 : Nat) (r_x : (-2147483648 ≤ x ∧ x < 2147483648)) (hc : Cok cx cr cl ll cn) (hr : Rok rw ln) : Met l yX3_findCommands wsX3_findCommands ({ frames := 3, cells := 0, slots := 0, locals := 71 } : Room) (zPc D cI cZ [.ref (aL 0), .ref (aC 0), .int (iI x)] (wL cI cZ aL rw fn fp ln fc ++ wC cI cZ aC cx cr cl ll cn) sz0) (zQv D cI cZ (wL cI cZ aL rw fn fp ln fc ++ wC cI cZ aC cx cr cl ll cn) sz0 (fun (u : (Int → Int) × (Int → Int) × (Int)) => (0 ≤ u.2.2 ∧ u.2.2 ≤ ln) ∧ zH (∃ n : Nat, pEnd cx cr cl ll rw cn ln x n ∧ u.2.2 = pC cx cr cl ll rw cn ln x n ∧ ∀ q : Nat, q < n → ¬ bF cx cr cl ll rw cn ln x (pA cx cr cl ll rw cn ln x q) = -4 → u.1 (pC cx cr cl ll rw cn ln x q) = bF cx cr cl ll rw cn ln x (pA cx cr cl ll rw cn ln x q) ∧ u.2.1 (pC cx cr cl ll rw cn ln x q) = pA cx cr cl ll rw cn ln x q ∧ (0 ≤ bF cx cr cl ll rw cn ln x (pA cx cr cl ll rw cn ln x q) ∧ bF cx cr cl ll rw cn ln x (pA cx cr cl ll rw cn ln x q) < 10) ∧ (0 ≤ pA cx cr cl ll rw cn ln x q ∧ pA cx cr cl ll rw cn ln x q < 40))) (fun (u : (Int → Int) × (Int → Int) × (Int)) => wL cI cZ aL rw u.1 u.2.1 ln u.2.2 ++ wC cI cZ aC cx cr cl ll cn)) 0 0 (va_A (wL cI cZ aL rw fn fp ln fc ++ wC cI cZ aC cx cr cl ll cn) sz0) := by
  have hcn := hc.1
  have hln := hr.1
  refine z_ofV (maxL := 5) (plainFor_of_name (by decide)) rfl (Nat.le_of_ble_eq_true rfl) ?_
  intro p e s m below meth c A ls Q F hK hW hA hl hret
  have hl : lv_has ls 5 [(0, .ref (aL 0)), (1, .ref (aC 0)), (2, .int (iI x))] := hl
  have inX1 : ∀ w ∈ u_ws RX1 TX1 5, w ∈ wsX3_findCommands := fun _ h => List.mem_cons_of_mem _ (List.mem_append_right _ h)
  have inX3 : ∀ w ∈ u_ws RX3 TX3 5, w ∈ wsX3_findCommands := fun _ h => List.mem_cons_of_mem _ (List.mem_append_left _ (List.mem_append_right _ h))
  refine z_aloadn F (pc := 0) dX3_findCommands_0 rfl (lv_at hl 0 rfl) ?_
  refine z_iconst F (pc := 1) (0) dX3_findCommands_1 ?_
  refine z_put F (pc := 2) (C := RX3) (T := TX3) (N := 5) (ci := 3) inX3 tyX3 tyX3_ok nmX3 hK hW (ws' := wL cI cZ aL rw fn fp ln 0 ++ wC cI cZ aC cx cr cl ll cn) 0 4 rfl rfl (by decide) rfl (List.mem_of_getElem? (i := 1) rfl) rfl rfl (Nat.le_of_ble_eq_true rfl) dX3_findCommands_2 rfl (fun H locs hW => ?_)
  refine z_iconst F (pc := 5) (0) dX3_findCommands_5 ?_
  refine z_istoren F (pc := 6) hl (lv' := [(3, .int (iI 0)), (0, .ref (aL 0)), (1, .ref (aC 0)), (2, .int (iI x))]) dX3_findCommands_6 rfl (by decide) rfl (fun ls hl => ?_)
  have cut_7 : ∀ (fuel : Nat) (n : Nat) (t : Int) (f1 : Int → Int) (f2 : Int → Int) (f3 : Int) (H : Heap) (locs : List Loc) (ls : Array Slot), (ln - t).toNat < fuel → (t = pA cx cr cl ll rw cn ln x n) → (f3 = pC cx cr cl ll rw cn ln x n) → (∀ q : Nat, q < n → pA cx cr cl ll rw cn ln x q < ln) → (∀ q : Nat, q < n → ¬ bF cx cr cl ll rw cn ln x (pA cx cr cl ll rw cn ln x q) = -4 → f1 (pC cx cr cl ll rw cn ln x q) = bF cx cr cl ll rw cn ln x (pA cx cr cl ll rw cn ln x q) ∧ f2 (pC cx cr cl ll rw cn ln x q) = pA cx cr cl ll rw cn ln x q ∧ (0 ≤ bF cx cr cl ll rw cn ln x (pA cx cr cl ll rw cn ln x q) ∧ bF cx cr cl ll rw cn ln x (pA cx cr cl ll rw cn ln x q) < 10) ∧ (0 ≤ pA cx cr cl ll rw cn ln x q ∧ pA cx cr cl ll rw cn ln x q < 40)) → ((0 ≤ t ∧ t ≤ ln) ∧ (0 ≤ f3 ∧ f3 ≤ t)) → lv_has ls 5 [(3, .int (iI t)), (0, .ref (aL 0)), (1, .ref (aC 0)), (2, .int (iI x))] → zW D A s.heap H locs (wL cI cZ aL rw f1 f2 ln f3 ++ wC cI cZ aC cx cr cl ll cn) → W p l e ({ frames := 3, cells := 0, slots := 0, locals := 71 } : Room) s m ([.ref (aL 0), .ref (aC 0), .int (iI x)] : List Value).toArray below meth c H locs 0 0 Q (F0 m 7 ls []) := by
    intro fuel
    induction fuel with
    | zero => intro n t f1 f2 f3 H locs ls hm; exact absurd hm (Nat.not_lt_zero _)
    | succ fuel ih_7 =>
      intro n t f1 f2 f3 H locs ls hm_7 g0 g1 g2 g3 g4 hl hW
      refine z_iloadn F (pc := 7) dX3_findCommands_7 rfl (lv_at hl 0 rfl) ?_
      refine z_aloadn F (pc := 8) dX3_findCommands_8 rfl (lv_at hl 1 rfl) ?_
      refine z_get F (pc := 9) (C := RX3) (T := TX3) (N := 5) (ci := 3) inX3 hK hW 0 3 rfl rfl (by decide) rfl (List.mem_of_getElem? (i := 2) rfl) (v := .int (iI ln)) rfl dX3_findCommands_9 ?_
      refine z_icmp_ge F (pc := 12) 85 dX3_findCommands_12 (by decide) (by omega) (fun c_12 => ?_) (fun c_12 => ?_)
      · skip
        exact hret _ _ _ _ (f1, f2, f3) dX3_findCommands_85 (by (try dsimp only) <;> (exact ⟨by omega, n, ⟨by rw [← g0]; omega, g2⟩, g1, g3⟩)) hW
      · skip
        refine z_aloadn F (pc := 15) dX3_findCommands_15 rfl (lv_at hl 1 rfl) ?_
        refine z_aloadn F (pc := 16) dX3_findCommands_16 rfl (lv_at hl 2 rfl) ?_
        refine z_iloadn F (pc := 17) dX3_findCommands_17 rfl (lv_at hl 3 rfl) ?_
        refine z_iloadn F (pc := 18) dX3_findCommands_18 rfl (lv_at hl 0 rfl) ?_
        refine z_callVi F (pc := 19) hK hW hA (As := [.ref (aC 0), .int (iI x), .int (iI t)]) (rest := []) (ws' := fun (u : Unit) => wL cI cZ aL rw f1 f2 ln f3 ++ wC cI cZ aC cx cr cl ll cn) (wr := ([])) (c_X3_commandAt l D cI cZ aL aC rw f1 f2 cx cr cl ll ln f3 cn x t _ (by omega) (by omega) (by exact hc) (by exact hr) (by omega)) (cwV 3 F.2.2.2.2 gX3_findCommands_X3_commandAt rfl rfl rfl (by decide +kernel) ⟨Nat.le_of_ble_eq_true rfl, Nat.le_of_ble_eq_true rfl⟩) [0, 1, 2, 3, 4, 5, 6, 7, 8] [] [0, 1, 2, 3, 4, 5, 6, 7, 8] rfl rfl (by decide) (by decide) (by decide) (fun _ => rfl) (by decide) (q0 := 0) (ci := 3) rfl rfl rfl rfl rfl hl.1 (Nat.le_of_ble_eq_true rfl) dX3_findCommands_19 ⟨Nat.le_of_ble_eq_true rfl, Nat.le_of_ble_eq_true rfl⟩ (fun z_19 u H locs r_z_19 hp_19 hW => ?_)
        have hbb := bestT_b hp_19
        have hBn : bF cx cr cl ll rw cn ln x (pA cx cr cl ll rw cn ln x n) = z_19 := by rw [← g0]; exact bF_of hp_19
        have hs2 : ∀ q : Nat, q < n + 1 → pA cx cr cl ll rw cn ln x q < ln := by
          intro q q0
          by_cases q1 : q = n
          · rw [q1, ← g0]; omega
          · exact g2 q (by omega)
        refine z_istore F (pc := 22) hl (lv' := [(4, .int (iI z_19)), (3, .int (iI t)), (0, .ref (aL 0)), (1, .ref (aC 0)), (2, .int (iI x))]) dX3_findCommands_22 (by decide) rfl (fun ls hl => ?_)
        refine z_iload F (pc := 24) dX3_findCommands_24 (lv_at hl 0 rfl) ?_
        refine z_bipush F (pc := 26) (-4) (by decide +kernel) dX3_findCommands_26 ?_
        refine z_icmp_ne F (pc := 28) 37 dX3_findCommands_28 (by decide) (by omega) (fun c_28 => ?_) (fun c_28 => ?_)
        · skip
          have hcb := Cok_at hc (c := z_19) (by omega) (by omega)
          have hBe : ¬ bF cx cr cl ll rw cn ln x (pA cx cr cl ll rw cn ln x n) = -4 := by omega
          have hs0 : t + cl z_19 = pA cx cr cl ll rw cn ln x (n + 1) := by rw [pA_y hBe, hBn, ← g0]
          have hs1 : f3 + 1 = pC cx cr cl ll rw cn ln x (n + 1) := by rw [pC_y hBe, ← g1]
          have hs3 : ∀ q : Nat, q < n + 1 → ¬ bF cx cr cl ll rw cn ln x (pA cx cr cl ll rw cn ln x q) = -4 → (zU f1 f3 z_19) (pC cx cr cl ll rw cn ln x q) = bF cx cr cl ll rw cn ln x (pA cx cr cl ll rw cn ln x q) ∧ (zU f2 f3 t) (pC cx cr cl ll rw cn ln x q) = pA cx cr cl ll rw cn ln x q ∧ (0 ≤ bF cx cr cl ll rw cn ln x (pA cx cr cl ll rw cn ln x q) ∧ bF cx cr cl ll rw cn ln x (pA cx cr cl ll rw cn ln x q) < 10) ∧ (0 ≤ pA cx cr cl ll rw cn ln x q ∧ pA cx cr cl ll rw cn ln x q < 40) := by
            intro q q0 q2
            by_cases q1 : q = n
            · rw [q1, hBn, ← g0, ← g1, zU_s, zU_s]; exact ⟨rfl, rfl, by omega, by omega⟩
            · have q3 : ¬ pC cx cr cl ll rw cn ln x q = f3 := fun q4 => q1 (pC_inj q2 hBe (q4.trans g1))
              rw [zU_n _ _ q3, zU_n _ _ q3]
              exact g3 q (by omega) q2
          refine z_aloadn F (pc := 37) dX3_findCommands_37 rfl (lv_at hl 2 rfl) ?_
          refine z_get F (pc := 38) (C := RX3) (T := TX3) (N := 5) (ci := 3) inX3 hK hW 0 1 rfl rfl (by decide) rfl (List.mem_of_getElem? (i := 3) rfl) (v := .ref (aL 2)) rfl dX3_findCommands_38 ?_
          refine z_aloadn F (pc := 41) dX3_findCommands_41 rfl (lv_at hl 2 rfl) ?_
          refine z_get F (pc := 42) (C := RX3) (T := TX3) (N := 5) (ci := 3) inX3 hK hW 0 4 rfl rfl (by decide) rfl (List.mem_of_getElem? (i := 1) rfl) (v := .int (iI f3)) rfl dX3_findCommands_42 ?_
          refine z_iload F (pc := 45) dX3_findCommands_45 (lv_at hl 0 rfl) ?_
          refine z_iast F (pc := 47) hK hW (ws' := wL cI cZ aL rw (zU f1 f3 z_19) f2 ln f3 ++ wC cI cZ aC cx cr cl ll cn) 2 rfl (by decide) dX3_findCommands_47 (by omega) rfl (fun H locs hW => ?_)
          refine z_aloadn F (pc := 48) dX3_findCommands_48 rfl (lv_at hl 2 rfl) ?_
          refine z_get F (pc := 49) (C := RX3) (T := TX3) (N := 5) (ci := 3) inX3 hK hW 0 2 rfl rfl (by decide) rfl (List.mem_of_getElem? (i := 4) rfl) (v := .ref (aL 3)) rfl dX3_findCommands_49 ?_
          refine z_aloadn F (pc := 52) dX3_findCommands_52 rfl (lv_at hl 2 rfl) ?_
          refine z_get F (pc := 53) (C := RX3) (T := TX3) (N := 5) (ci := 3) inX3 hK hW 0 4 rfl rfl (by decide) rfl (List.mem_of_getElem? (i := 1) rfl) (v := .int (iI f3)) rfl dX3_findCommands_53 ?_
          refine z_iloadn F (pc := 56) dX3_findCommands_56 rfl (lv_at hl 1 rfl) ?_
          refine z_iast F (pc := 57) hK hW (ws' := wL cI cZ aL rw (zU f1 f3 z_19) (zU f2 f3 t) ln f3 ++ wC cI cZ aC cx cr cl ll cn) 3 rfl (by decide) dX3_findCommands_57 (by omega) rfl (fun H locs hW => ?_)
          refine z_aloadn F (pc := 58) dX3_findCommands_58 rfl (lv_at hl 2 rfl) ?_
          refine z_dup F (pc := 59) dX3_findCommands_59 rfl ?_
          refine z_get F (pc := 60) (C := RX3) (T := TX3) (N := 5) (ci := 3) inX3 hK hW 0 4 rfl rfl (by decide) rfl (List.mem_of_getElem? (i := 1) rfl) (v := .int (iI f3)) rfl dX3_findCommands_60 ?_
          refine z_iconst F (pc := 63) (1) dX3_findCommands_63 ?_
          refine z_iadd F (pc := 64) dX3_findCommands_64 ?_
          refine z_put F (pc := 65) (C := RX3) (T := TX3) (N := 5) (ci := 3) inX3 tyX3 tyX3_ok nmX3 hK hW (ws' := wL cI cZ aL rw (zU f1 f3 z_19) (zU f2 f3 t) ln (f3 + 1) ++ wC cI cZ aC cx cr cl ll cn) 0 4 rfl rfl (by decide) rfl (List.mem_of_getElem? (i := 1) rfl) rfl rfl (Nat.le_of_ble_eq_true rfl) dX3_findCommands_65 rfl (fun H locs hW => ?_)
          refine z_iloadn F (pc := 68) dX3_findCommands_68 rfl (lv_at hl 1 rfl) ?_
          refine z_iconst F (pc := 69) (1) dX3_findCommands_69 ?_
          refine z_aloadn F (pc := 70) dX3_findCommands_70 rfl (lv_at hl 3 rfl) ?_
          refine z_get F (pc := 71) (C := RX1) (T := TX1) (N := 5) (ci := 1) inX1 hK hW 4 2 rfl rfl (by decide) rfl (List.mem_of_getElem? (i := 5) rfl) (v := .ref (aC 3)) rfl dX3_findCommands_71 ?_
          refine z_iload F (pc := 74) dX3_findCommands_74 (lv_at hl 0 rfl) ?_
          refine z_iald F (pc := 76) hK hW 7 rfl (by decide) dX3_findCommands_76 (by omega) ?_
          refine z_mmax F (pc := 77) hl.1 (List.mem_of_getElem? (i := 6) rfl) (List.mem_of_getElem? (i := 7) rfl) (List.mem_of_getElem? (i := 8) rfl) (List.mem_of_getElem? (i := 9) rfl) (Nat.le_of_ble_eq_true rfl) (Nat.le_of_ble_eq_true rfl) (Nat.le_of_ble_eq_true rfl) (Nat.le_of_ble_eq_true rfl) dX3_findCommands_77 (by omega) ?_
          refine z_eqi (y := cl z_19) (by omega) ?_
          refine z_iadd F (pc := 80) dX3_findCommands_80 ?_
          refine z_istoren F (pc := 81) hl (lv' := [(3, .int (iI (t + (cl z_19)))), (4, .int (iI z_19)), (0, .ref (aL 0)), (1, .ref (aC 0)), (2, .int (iI x))]) dX3_findCommands_81 rfl (by decide) rfl (fun ls hl => ?_)
          refine z_goto F (pc := 82) 7 dX3_findCommands_82 (by decide) ?_
          exact ih_7 (n + 1) (t + (cl z_19)) (zU f1 f3 z_19) (zU f2 f3 t) (f3 + 1) _ _ _ (by omega) (by exact hs0) (by exact hs1) (by exact hs2) (by exact hs3) (by omega) (lv_sub hl [0, 2, 3, 4] rfl) hW
        · skip
          have hBe : bF cx cr cl ll rw cn ln x (pA cx cr cl ll rw cn ln x n) = -4 := by omega
          have hs0 : t + 1 = pA cx cr cl ll rw cn ln x (n + 1) := by rw [pA_n hBe, ← g0]
          have hs1 : f3 = pC cx cr cl ll rw cn ln x (n + 1) := by rw [pC_n hBe]; exact g1
          have hs3 : ∀ q : Nat, q < n + 1 → ¬ bF cx cr cl ll rw cn ln x (pA cx cr cl ll rw cn ln x q) = -4 → f1 (pC cx cr cl ll rw cn ln x q) = bF cx cr cl ll rw cn ln x (pA cx cr cl ll rw cn ln x q) ∧ f2 (pC cx cr cl ll rw cn ln x q) = pA cx cr cl ll rw cn ln x q ∧ (0 ≤ bF cx cr cl ll rw cn ln x (pA cx cr cl ll rw cn ln x q) ∧ bF cx cr cl ll rw cn ln x (pA cx cr cl ll rw cn ln x q) < 10) ∧ (0 ≤ pA cx cr cl ll rw cn ln x q ∧ pA cx cr cl ll rw cn ln x q < 40) := by
            intro q q0 q2
            by_cases q1 : q = n
            · rw [q1] at q2; exact absurd hBe q2
            · exact g3 q (by omega) q2
          refine z_iinc F (pc := 31) hl (lv' := [(3, .int (iI (t + 1))), (4, .int (iI z_19)), (0, .ref (aL 0)), (1, .ref (aC 0)), (2, .int (iI x))]) dX3_findCommands_31 (k := 1) rfl (by decide) rfl (fun ls hl => ?_)
          refine z_goto F (pc := 34) 82 dX3_findCommands_34 (by decide) ?_
          refine z_goto F (pc := 82) 7 dX3_findCommands_82 (by decide) ?_
          exact ih_7 (n + 1) (t + 1) f1 f2 f3 _ _ _ (by omega) (by exact hs0) (by exact hs1) (by exact hs2) (by exact hs3) (by omega) (lv_sub hl [0, 2, 3, 4] rfl) hW
  exact cut_7 _ 0 0 fn fp 0 _ _ _ (Nat.lt_succ_self _) (by rfl) (by rfl) (by intro q q0; omega) (by intro q q0; omega) (by omega) (lv_sub hl [0, 1, 2, 3] rfl) hW

set_option maxHeartbeats 4000000 in
set_option maxRecDepth 100000 in
theorem c_X7_command (l : Launch) (D : va_G) (cI cZ : ClassId) (aB aD aM aA aS aC aL aT : Nat → Nat) (di cx cr cl ll : Int → Int) (en mg cn : Int) (x k nn va vb vc vd : Int) (sz0 : Nat) (r_x : (-2147483648 ≤ x ∧ x < 2147483648)) (r_k : (-2147483648 ≤ k ∧ k < 2147483648)) (r_nn : (-2147483648 ≤ nn ∧ nn < 2147483648)) (r_va : (-2147483648 ≤ va ∧ va < 2147483648)) (r_vb : (-2147483648 ≤ vb ∧ vb < 2147483648)) (r_vc : (-2147483648 ≤ vc ∧ vc < 2147483648)) (r_vd : (-2147483648 ≤ vd ∧ vd < 2147483648)) (hcn : 0 ≤ cn ∧ cn ≤ 10) : Met l yX7_command wsX7_command ({ frames := 1, cells := 0, slots := 0, locals := 24 } : Room) (zPc D cI cZ [.ref (aB 0), .int (iI x), .int (iI k), .int (iI nn), .int (iI va), .int (iI vb), .int (iI vc), .int (iI vd)] (wB cI cZ aB aD aM aA aS aC aL aT di en mg ++ wC cI cZ aC cx cr cl ll cn) sz0) (zQi D cI cZ (wB cI cZ aB aD aM aA aS aC aL aT di en mg ++ wC cI cZ aC cx cr cl ll cn) sz0 (fun (r : Int) (u : (Int → Int) × (Int → Int) × (Int → Int) × (Int → Int) × (Int)) => cmdP cx cr cl ll cn x k nn va vb vc vd u.1 u.2.1 u.2.2.1 u.2.2.2.1 u.2.2.2.2 r) (fun (u : (Int → Int) × (Int → Int) × (Int → Int) × (Int → Int) × (Int)) => wB cI cZ aB aD aM aA aS aC aL aT di en mg ++ wC cI cZ aC u.1 u.2.1 u.2.2.1 u.2.2.2.1 u.2.2.2.2)) 0 0 (va_A (wB cI cZ aB aD aM aA aS aC aL aT di en mg ++ wC cI cZ aC cx cr cl ll cn) sz0) := by
  refine z_ofI (maxL := 9) (plainFor_of_name (by decide)) rfl (Nat.le_of_ble_eq_true rfl) (Or.inl rfl) ?_
  intro p e s m below meth c A ls Q F hK hW hA hl hret
  have hl : lv_has ls 9 [(0, .ref (aB 0)), (1, .int (iI x)), (2, .int (iI k)), (3, .int (iI nn)), (4, .int (iI va)), (5, .int (iI vb)), (6, .int (iI vc)), (7, .int (iI vd))] := hl
  have inX1 : ∀ w ∈ u_ws RX1 TX1 5, w ∈ wsX7_command := fun _ h => List.mem_cons_of_mem _ (List.mem_append_right _ h)
  have inX7 : ∀ w ∈ u_ws RX7 TX7 10, w ∈ wsX7_command := fun _ h => List.mem_cons_of_mem _ (List.mem_append_left _ (List.mem_append_right _ h))
  refine z_iloadn F (pc := 0) dX7_command_0 rfl (lv_at hl 1 rfl) ?_
  refine z_iconst F (pc := 1) (3) dX7_command_1 ?_
  refine z_callSi F (pc := 2) hK hW hA (As := [.int (iI x), .int (iI 3)]) (rest := []) (c_X7_isWithin l D cI cZ x 3 _ (by omega) (by omega)) (va_cwS 2 F.2.2.2.2 gX7_command_X7_isWithin rfl rfl rfl (by decide +kernel) ⟨Nat.le_of_ble_eq_true rfl, Nat.le_of_ble_eq_true rfl⟩) rfl rfl hl.1 (Nat.le_of_ble_eq_true rfl) dX7_command_2 ⟨Nat.le_of_ble_eq_true rfl, Nat.le_of_ble_eq_true rfl⟩ (fun z_2 H locs r_z_2 hp_2 hW => ?_)
  refine z_if_eq F (pc := 5) 17 dX7_command_5 (by decide) (by omega) (fun c_5 => ?_) (fun c_5 => ?_)
  · skip
    have b_5 := zB_f hp_2 c_5
    refine z_iconst F (pc := 17) (-1) dX7_command_17 ?_
    exact hret _ _ _ _ (-1) (cx, cr, cl, ll, cn) dX7_command_18 (by omega) (by (try dsimp only) <;> (exact Or.inl ⟨by unfold cmdOk; omega, rfl, rfl, rfl, rfl, rfl, rfl⟩)) hW
  · skip
    have b_5 := zB_t hp_2 c_5
    refine z_iloadn F (pc := 8) dX7_command_8 rfl (lv_at hl 2 rfl) ?_
    refine z_bipush F (pc := 9) (9) (by decide +kernel) dX7_command_9 ?_
    refine z_callSi F (pc := 11) hK hW hA (As := [.int (iI k), .int (iI 9)]) (rest := []) (c_X7_isWithin l D cI cZ k 9 _ (by omega) (by omega)) (va_cwS 2 F.2.2.2.2 gX7_command_X7_isWithin rfl rfl rfl (by decide +kernel) ⟨Nat.le_of_ble_eq_true rfl, Nat.le_of_ble_eq_true rfl⟩) rfl rfl hl.1 (Nat.le_of_ble_eq_true rfl) dX7_command_11 ⟨Nat.le_of_ble_eq_true rfl, Nat.le_of_ble_eq_true rfl⟩ (fun z_11 H locs r_z_11 hp_11 hW => ?_)
    refine z_if_ne F (pc := 14) 19 dX7_command_14 (by decide) (by omega) (fun c_14 => ?_) (fun c_14 => ?_)
    · skip
      have b_14 := zB_t hp_11 c_14
      refine z_iloadn F (pc := 19) dX7_command_19 rfl (lv_at hl 3 rfl) ?_
      refine z_iconst F (pc := 20) (1) dX7_command_20 ?_
      refine z_icmp_lt F (pc := 21) 96 dX7_command_21 (by decide) (by omega) (fun c_21 => ?_) (fun c_21 => ?_)
      · skip
        refine z_iconst F (pc := 96) (-1) dX7_command_96 ?_
        exact hret _ _ _ _ (-1) (cx, cr, cl, ll, cn) dX7_command_97 (by omega) (by (try dsimp only) <;> (exact Or.inl ⟨by unfold cmdOk; omega, rfl, rfl, rfl, rfl, rfl, rfl⟩)) hW
      · skip
        refine z_iloadn F (pc := 24) dX7_command_24 rfl (lv_at hl 3 rfl) ?_
        refine z_iconst F (pc := 25) (4) dX7_command_25 ?_
        refine z_icmp_gt F (pc := 26) 96 dX7_command_26 (by decide) (by omega) (fun c_26 => ?_) (fun c_26 => ?_)
        · skip
          refine z_iconst F (pc := 96) (-1) dX7_command_96 ?_
          exact hret _ _ _ _ (-1) (cx, cr, cl, ll, cn) dX7_command_97 (by omega) (by (try dsimp only) <;> (exact Or.inl ⟨by unfold cmdOk; omega, rfl, rfl, rfl, rfl, rfl, rfl⟩)) hW
        · skip
          refine z_iload F (pc := 29) dX7_command_29 (lv_at hl 4 rfl) ?_
          refine z_bipush F (pc := 31) (9) (by decide +kernel) dX7_command_31 ?_
          refine z_callSi F (pc := 33) hK hW hA (As := [.int (iI va), .int (iI 9)]) (rest := []) (c_X7_isWithin l D cI cZ va 9 _ (by omega) (by omega)) (va_cwS 2 F.2.2.2.2 gX7_command_X7_isWithin rfl rfl rfl (by decide +kernel) ⟨Nat.le_of_ble_eq_true rfl, Nat.le_of_ble_eq_true rfl⟩) rfl rfl hl.1 (Nat.le_of_ble_eq_true rfl) dX7_command_33 ⟨Nat.le_of_ble_eq_true rfl, Nat.le_of_ble_eq_true rfl⟩ (fun z_33 H locs r_z_33 hp_33 hW => ?_)
          refine z_if_eq F (pc := 36) 96 dX7_command_36 (by decide) (by omega) (fun c_36 => ?_) (fun c_36 => ?_)
          · skip
            have b_36 := zB_f hp_33 c_36
            refine z_iconst F (pc := 96) (-1) dX7_command_96 ?_
            exact hret _ _ _ _ (-1) (cx, cr, cl, ll, cn) dX7_command_97 (by omega) (by (try dsimp only) <;> (exact Or.inl ⟨by unfold cmdOk; omega, rfl, rfl, rfl, rfl, rfl, rfl⟩)) hW
          · skip
            have b_36 := zB_t hp_33 c_36
            refine z_iload F (pc := 39) dX7_command_39 (lv_at hl 5 rfl) ?_
            refine z_iloadn F (pc := 41) dX7_command_41 rfl (lv_at hl 3 rfl) ?_
            refine z_iconst F (pc := 42) (1) dX7_command_42 ?_
            refine z_icmp_le F (pc := 43) 51 dX7_command_43 (by decide) (by omega) (fun c_43 => ?_) (fun c_43 => ?_)
            · skip
              refine z_iconst F (pc := 51) (0) dX7_command_51 ?_
              refine z_callSi F (pc := 52) hK hW hA (As := [.int (iI vb), .int (iI 0)]) (rest := []) (c_X7_isWithin l D cI cZ vb 0 _ (by omega) (by omega)) (va_cwS 2 F.2.2.2.2 gX7_command_X7_isWithin rfl rfl rfl (by decide +kernel) ⟨Nat.le_of_ble_eq_true rfl, Nat.le_of_ble_eq_true rfl⟩) rfl rfl hl.1 (Nat.le_of_ble_eq_true rfl) dX7_command_52 ⟨Nat.le_of_ble_eq_true rfl, Nat.le_of_ble_eq_true rfl⟩ (fun z_52 H locs r_z_52 hp_52 hW => ?_)
              refine z_if_eq F (pc := 55) 96 dX7_command_55 (by decide) (by omega) (fun c_55 => ?_) (fun c_55 => ?_)
              · skip
                have b_55 := zB_f hp_52 c_55
                refine z_iconst F (pc := 96) (-1) dX7_command_96 ?_
                exact hret _ _ _ _ (-1) (cx, cr, cl, ll, cn) dX7_command_97 (by omega) (by (try dsimp only) <;> (exact Or.inl ⟨by unfold cmdOk; omega, rfl, rfl, rfl, rfl, rfl, rfl⟩)) hW
              · skip
                have b_55 := zB_t hp_52 c_55
                refine z_iload F (pc := 58) dX7_command_58 (lv_at hl 6 rfl) ?_
                refine z_iloadn F (pc := 60) dX7_command_60 rfl (lv_at hl 3 rfl) ?_
                refine z_iconst F (pc := 61) (2) dX7_command_61 ?_
                refine z_icmp_le F (pc := 62) 70 dX7_command_62 (by decide) (by omega) (fun c_62 => ?_) (fun c_62 => ?_)
                · skip
                  refine z_iconst F (pc := 70) (0) dX7_command_70 ?_
                  refine z_callSi F (pc := 71) hK hW hA (As := [.int (iI vc), .int (iI 0)]) (rest := []) (c_X7_isWithin l D cI cZ vc 0 _ (by omega) (by omega)) (va_cwS 2 F.2.2.2.2 gX7_command_X7_isWithin rfl rfl rfl (by decide +kernel) ⟨Nat.le_of_ble_eq_true rfl, Nat.le_of_ble_eq_true rfl⟩) rfl rfl hl.1 (Nat.le_of_ble_eq_true rfl) dX7_command_71 ⟨Nat.le_of_ble_eq_true rfl, Nat.le_of_ble_eq_true rfl⟩ (fun z_71 H locs r_z_71 hp_71 hW => ?_)
                  refine z_if_eq F (pc := 74) 96 dX7_command_74 (by decide) (by omega) (fun c_74 => ?_) (fun c_74 => ?_)
                  · skip
                    have b_74 := zB_f hp_71 c_74
                    refine z_iconst F (pc := 96) (-1) dX7_command_96 ?_
                    exact hret _ _ _ _ (-1) (cx, cr, cl, ll, cn) dX7_command_97 (by omega) (by (try dsimp only) <;> (exact Or.inl ⟨by unfold cmdOk; omega, rfl, rfl, rfl, rfl, rfl, rfl⟩)) hW
                  · skip
                    have b_74 := zB_t hp_71 c_74
                    refine z_iload F (pc := 77) dX7_command_77 (lv_at hl 7 rfl) ?_
                    refine z_iloadn F (pc := 79) dX7_command_79 rfl (lv_at hl 3 rfl) ?_
                    refine z_iconst F (pc := 80) (3) dX7_command_80 ?_
                    refine z_icmp_le F (pc := 81) 89 dX7_command_81 (by decide) (by omega) (fun c_81 => ?_) (fun c_81 => ?_)
                    · skip
                      refine z_iconst F (pc := 89) (0) dX7_command_89 ?_
                      refine z_callSi F (pc := 90) hK hW hA (As := [.int (iI vd), .int (iI 0)]) (rest := []) (c_X7_isWithin l D cI cZ vd 0 _ (by omega) (by omega)) (va_cwS 2 F.2.2.2.2 gX7_command_X7_isWithin rfl rfl rfl (by decide +kernel) ⟨Nat.le_of_ble_eq_true rfl, Nat.le_of_ble_eq_true rfl⟩) rfl rfl hl.1 (Nat.le_of_ble_eq_true rfl) dX7_command_90 ⟨Nat.le_of_ble_eq_true rfl, Nat.le_of_ble_eq_true rfl⟩ (fun z_90 H locs r_z_90 hp_90 hW => ?_)
                      refine z_if_ne F (pc := 93) 98 dX7_command_93 (by decide) (by omega) (fun c_93 => ?_) (fun c_93 => ?_)
                      · skip
                        have b_93 := zB_t hp_90 c_93
                        refine z_aloadn F (pc := 98) dX7_command_98 rfl (lv_at hl 0 rfl) ?_
                        refine z_get F (pc := 99) (C := RX7) (T := TX7) (N := 10) (ci := 7) inX7 hK hW 0 4 rfl rfl (by decide) rfl (List.mem_of_getElem? (i := 1) rfl) (v := .ref (aC 0)) rfl dX7_command_99 ?_
                        refine z_get F (pc := 102) (C := RX1) (T := TX1) (N := 5) (ci := 1) inX1 hK hW 2 4 rfl rfl (by decide) rfl (List.mem_of_getElem? (i := 2) rfl) (v := .int (iI cn)) rfl dX7_command_102 ?_
                        refine z_bipush F (pc := 105) (10) (by decide +kernel) dX7_command_105 ?_
                        refine z_icmp_lt F (pc := 107) 113 dX7_command_107 (by decide) (by omega) (fun c_107 => ?_) (fun c_107 => ?_)
                        · skip
                          refine z_aloadn F (pc := 113) dX7_command_113 rfl (lv_at hl 0 rfl) ?_
                          refine z_get F (pc := 114) (C := RX7) (T := TX7) (N := 10) (ci := 7) inX7 hK hW 0 4 rfl rfl (by decide) rfl (List.mem_of_getElem? (i := 1) rfl) (v := .ref (aC 0)) rfl dX7_command_114 ?_
                          refine z_iloadn F (pc := 117) dX7_command_117 rfl (lv_at hl 1 rfl) ?_
                          refine z_iloadn F (pc := 118) dX7_command_118 rfl (lv_at hl 2 rfl) ?_
                          refine z_iloadn F (pc := 119) dX7_command_119 rfl (lv_at hl 3 rfl) ?_
                          refine z_callVi F (pc := 120) hK hW hA (As := [.int (iI x), .int (iI k), .int (iI nn)]) (rest := []) (ws' := fun (u : (Int → Int) × (Int → Int) × (Int → Int) × (Int)) => wB cI cZ aB aD aM aA aS aC aL aT di en mg ++ wC cI cZ aC u.1 u.2.1 u.2.2.1 ll u.2.2.2) (wr := (wB cI cZ aB aD aM aA aS aC aL aT di en mg)) (c_X1_open l D cI cZ aC cx cr cl ll cn x k nn _ (by omega) (by omega) (by omega) (by omega)) (cwV 3 F.2.2.2.2 gX7_command_X1_open rfl rfl rfl (by decide +kernel) ⟨Nat.le_of_ble_eq_true rfl, Nat.le_of_ble_eq_true rfl⟩) [2, 3, 4, 5, 6] [0, 1] [0, 1, 2, 3, 4, 5, 6] rfl rfl (by decide) (by decide) (by decide) (fun _ => rfl) (by decide) (q0 := 2) (ci := 1) rfl rfl rfl rfl rfl hl.1 (Nat.le_of_ble_eq_true rfl) dX7_command_120 ⟨Nat.le_of_ble_eq_true rfl, Nat.le_of_ble_eq_true rfl⟩ (fun z_120 u H locs r_z_120 hp_120 hW => ?_)
                          obtain ⟨cx2_120, cr2_120, cl2_120, cn2_120⟩ := u
                          dsimp only at hp_120 hW
                          obtain ⟨e_z_120, hp_120⟩ := hp_120
                          replace e_z_120 := e_z_120.symm
                          subst e_z_120
                          refine z_istore F (pc := 123) hl (lv' := [(8, .int (iI cn)), (0, .ref (aB 0)), (1, .int (iI x)), (2, .int (iI k)), (3, .int (iI nn)), (4, .int (iI va)), (5, .int (iI vb)), (6, .int (iI vc)), (7, .int (iI vd))]) dX7_command_123 (by decide) rfl (fun ls hl => ?_)
                          refine z_aloadn F (pc := 125) dX7_command_125 rfl (lv_at hl 1 rfl) ?_
                          refine z_get F (pc := 126) (C := RX7) (T := TX7) (N := 10) (ci := 7) inX7 hK hW 0 4 rfl rfl (by decide) rfl (List.mem_of_getElem? (i := 1) rfl) (v := .ref (aC 0)) rfl dX7_command_126 ?_
                          refine z_iload F (pc := 129) dX7_command_129 (lv_at hl 0 rfl) ?_
                          refine z_iconst F (pc := 131) (0) dX7_command_131 ?_
                          refine z_iload F (pc := 132) dX7_command_132 (lv_at hl 5 rfl) ?_
                          refine z_callVv F (pc := 134) hK hW hA (As := [.int (iI cn), .int (iI 0), .int (iI va)]) (rest := []) (ws' := fun (u : (Int → Int)) => wB cI cZ aB aD aM aA aS aC aL aT di en mg ++ wC cI cZ aC cx2_120 cr2_120 cl2_120 u cn2_120) (wr := (wB cI cZ aB aD aM aA aS aC aL aT di en mg)) (c_X1_put l D cI cZ aC cx2_120 cr2_120 cl2_120 ll cn2_120 cn 0 va _ (by omega) (by omega) (by omega) (by omega)) (cwV 3 F.2.2.2.2 gX7_command_X1_put rfl rfl rfl (by decide +kernel) ⟨Nat.le_of_ble_eq_true rfl, Nat.le_of_ble_eq_true rfl⟩) [2, 3, 4, 5, 6] [0, 1] [0, 1, 2, 3, 4, 5, 6] rfl rfl (by decide) (by decide) (by decide) (fun _ => rfl) (by decide) (q0 := 2) (ci := 1) rfl rfl rfl rfl rfl hl.1 (Nat.le_of_ble_eq_true rfl) dX7_command_134 ⟨Nat.le_of_ble_eq_true rfl, Nat.le_of_ble_eq_true rfl⟩ (fun u H locs hp_134 hW => ?_)
                          obtain ⟨ll2_134, rfl⟩ : ∃ v, v = u := ⟨_, rfl⟩
                          refine z_aloadn F (pc := 137) dX7_command_137 rfl (lv_at hl 1 rfl) ?_
                          refine z_get F (pc := 138) (C := RX7) (T := TX7) (N := 10) (ci := 7) inX7 hK hW 0 4 rfl rfl (by decide) rfl (List.mem_of_getElem? (i := 1) rfl) (v := .ref (aC 0)) rfl dX7_command_138 ?_
                          refine z_iload F (pc := 141) dX7_command_141 (lv_at hl 0 rfl) ?_
                          refine z_iconst F (pc := 143) (1) dX7_command_143 ?_
                          refine z_iload F (pc := 144) dX7_command_144 (lv_at hl 6 rfl) ?_
                          refine z_callVv F (pc := 146) hK hW hA (As := [.int (iI cn), .int (iI 1), .int (iI vb)]) (rest := []) (ws' := fun (u : (Int → Int)) => wB cI cZ aB aD aM aA aS aC aL aT di en mg ++ wC cI cZ aC cx2_120 cr2_120 cl2_120 u cn2_120) (wr := (wB cI cZ aB aD aM aA aS aC aL aT di en mg)) (c_X1_put l D cI cZ aC cx2_120 cr2_120 cl2_120 ll2_134 cn2_120 cn 1 vb _ (by omega) (by omega) (by omega) (by omega)) (cwV 3 F.2.2.2.2 gX7_command_X1_put rfl rfl rfl (by decide +kernel) ⟨Nat.le_of_ble_eq_true rfl, Nat.le_of_ble_eq_true rfl⟩) [2, 3, 4, 5, 6] [0, 1] [0, 1, 2, 3, 4, 5, 6] rfl rfl (by decide) (by decide) (by decide) (fun _ => rfl) (by decide) (q0 := 2) (ci := 1) rfl rfl rfl rfl rfl hl.1 (Nat.le_of_ble_eq_true rfl) dX7_command_146 ⟨Nat.le_of_ble_eq_true rfl, Nat.le_of_ble_eq_true rfl⟩ (fun u H locs hp_146 hW => ?_)
                          obtain ⟨ll2_146, rfl⟩ : ∃ v, v = u := ⟨_, rfl⟩
                          refine z_aloadn F (pc := 149) dX7_command_149 rfl (lv_at hl 1 rfl) ?_
                          refine z_get F (pc := 150) (C := RX7) (T := TX7) (N := 10) (ci := 7) inX7 hK hW 0 4 rfl rfl (by decide) rfl (List.mem_of_getElem? (i := 1) rfl) (v := .ref (aC 0)) rfl dX7_command_150 ?_
                          refine z_iload F (pc := 153) dX7_command_153 (lv_at hl 0 rfl) ?_
                          refine z_iconst F (pc := 155) (2) dX7_command_155 ?_
                          refine z_iload F (pc := 156) dX7_command_156 (lv_at hl 7 rfl) ?_
                          refine z_callVv F (pc := 158) hK hW hA (As := [.int (iI cn), .int (iI 2), .int (iI vc)]) (rest := []) (ws' := fun (u : (Int → Int)) => wB cI cZ aB aD aM aA aS aC aL aT di en mg ++ wC cI cZ aC cx2_120 cr2_120 cl2_120 u cn2_120) (wr := (wB cI cZ aB aD aM aA aS aC aL aT di en mg)) (c_X1_put l D cI cZ aC cx2_120 cr2_120 cl2_120 ll2_146 cn2_120 cn 2 vc _ (by omega) (by omega) (by omega) (by omega)) (cwV 3 F.2.2.2.2 gX7_command_X1_put rfl rfl rfl (by decide +kernel) ⟨Nat.le_of_ble_eq_true rfl, Nat.le_of_ble_eq_true rfl⟩) [2, 3, 4, 5, 6] [0, 1] [0, 1, 2, 3, 4, 5, 6] rfl rfl (by decide) (by decide) (by decide) (fun _ => rfl) (by decide) (q0 := 2) (ci := 1) rfl rfl rfl rfl rfl hl.1 (Nat.le_of_ble_eq_true rfl) dX7_command_158 ⟨Nat.le_of_ble_eq_true rfl, Nat.le_of_ble_eq_true rfl⟩ (fun u H locs hp_158 hW => ?_)
                          obtain ⟨ll2_158, rfl⟩ : ∃ v, v = u := ⟨_, rfl⟩
                          refine z_aloadn F (pc := 161) dX7_command_161 rfl (lv_at hl 1 rfl) ?_
                          refine z_get F (pc := 162) (C := RX7) (T := TX7) (N := 10) (ci := 7) inX7 hK hW 0 4 rfl rfl (by decide) rfl (List.mem_of_getElem? (i := 1) rfl) (v := .ref (aC 0)) rfl dX7_command_162 ?_
                          refine z_iload F (pc := 165) dX7_command_165 (lv_at hl 0 rfl) ?_
                          refine z_iconst F (pc := 167) (3) dX7_command_167 ?_
                          refine z_iload F (pc := 168) dX7_command_168 (lv_at hl 8 rfl) ?_
                          refine z_callVv F (pc := 170) hK hW hA (As := [.int (iI cn), .int (iI 3), .int (iI vd)]) (rest := []) (ws' := fun (u : (Int → Int)) => wB cI cZ aB aD aM aA aS aC aL aT di en mg ++ wC cI cZ aC cx2_120 cr2_120 cl2_120 u cn2_120) (wr := (wB cI cZ aB aD aM aA aS aC aL aT di en mg)) (c_X1_put l D cI cZ aC cx2_120 cr2_120 cl2_120 ll2_158 cn2_120 cn 3 vd _ (by omega) (by omega) (by omega) (by omega)) (cwV 3 F.2.2.2.2 gX7_command_X1_put rfl rfl rfl (by decide +kernel) ⟨Nat.le_of_ble_eq_true rfl, Nat.le_of_ble_eq_true rfl⟩) [2, 3, 4, 5, 6] [0, 1] [0, 1, 2, 3, 4, 5, 6] rfl rfl (by decide) (by decide) (by decide) (fun _ => rfl) (by decide) (q0 := 2) (ci := 1) rfl rfl rfl rfl rfl hl.1 (Nat.le_of_ble_eq_true rfl) dX7_command_170 ⟨Nat.le_of_ble_eq_true rfl, Nat.le_of_ble_eq_true rfl⟩ (fun u H locs hp_170 hW => ?_)
                          obtain ⟨ll2_170, rfl⟩ : ∃ v, v = u := ⟨_, rfl⟩
                          refine z_iload F (pc := 173) dX7_command_173 (lv_at hl 0 rfl) ?_
                          exact hret _ _ _ _ cn (cx2_120, cr2_120, cl2_120, ll2_170, cn2_120) dX7_command_175 (by omega) (by (try dsimp only) <;> (exact Or.inr (Or.inr ⟨by unfold cmdOk; omega, by omega, rfl, hp_120.1, hp_120.2.1, hp_120.2.2.1, by rw [hp_170, hp_158, hp_146, hp_134, Int.add_zero], hp_120.2.2.2⟩))) hW
                        · skip
                          refine z_bipush F (pc := 110) (-3) (by decide +kernel) dX7_command_110 ?_
                          exact hret _ _ _ _ (-3) (cx, cr, cl, ll, cn) dX7_command_112 (by omega) (by (try dsimp only) <;> (exact Or.inr (Or.inl ⟨by unfold cmdOk; omega, by omega, rfl, rfl, rfl, rfl, rfl, rfl⟩))) hW
                      · skip
                        have b_93 := zB_f hp_90 c_93
                        refine z_iconst F (pc := 96) (-1) dX7_command_96 ?_
                        exact hret _ _ _ _ (-1) (cx, cr, cl, ll, cn) dX7_command_97 (by omega) (by (try dsimp only) <;> (exact Or.inl ⟨by unfold cmdOk; omega, rfl, rfl, rfl, rfl, rfl, rfl⟩)) hW
                    · skip
                      exfalso; omega
                · skip
                  exfalso; omega
            · skip
              refine z_bipush F (pc := 46) (9) (by decide +kernel) dX7_command_46 ?_
              refine z_goto F (pc := 48) 52 dX7_command_48 (by decide) ?_
              refine z_callSi F (pc := 52) hK hW hA (As := [.int (iI vb), .int (iI 9)]) (rest := []) (c_X7_isWithin l D cI cZ vb 9 _ (by omega) (by omega)) (va_cwS 2 F.2.2.2.2 gX7_command_X7_isWithin rfl rfl rfl (by decide +kernel) ⟨Nat.le_of_ble_eq_true rfl, Nat.le_of_ble_eq_true rfl⟩) rfl rfl hl.1 (Nat.le_of_ble_eq_true rfl) dX7_command_52 ⟨Nat.le_of_ble_eq_true rfl, Nat.le_of_ble_eq_true rfl⟩ (fun z_52 H locs r_z_52 hp_52 hW => ?_)
              refine z_if_eq F (pc := 55) 96 dX7_command_55 (by decide) (by omega) (fun c_55 => ?_) (fun c_55 => ?_)
              · skip
                have b_55 := zB_f hp_52 c_55
                refine z_iconst F (pc := 96) (-1) dX7_command_96 ?_
                exact hret _ _ _ _ (-1) (cx, cr, cl, ll, cn) dX7_command_97 (by omega) (by (try dsimp only) <;> (exact Or.inl ⟨by unfold cmdOk; omega, rfl, rfl, rfl, rfl, rfl, rfl⟩)) hW
              · skip
                have b_55 := zB_t hp_52 c_55
                refine z_iload F (pc := 58) dX7_command_58 (lv_at hl 6 rfl) ?_
                refine z_iloadn F (pc := 60) dX7_command_60 rfl (lv_at hl 3 rfl) ?_
                refine z_iconst F (pc := 61) (2) dX7_command_61 ?_
                refine z_icmp_le F (pc := 62) 70 dX7_command_62 (by decide) (by omega) (fun c_62 => ?_) (fun c_62 => ?_)
                · skip
                  refine z_iconst F (pc := 70) (0) dX7_command_70 ?_
                  refine z_callSi F (pc := 71) hK hW hA (As := [.int (iI vc), .int (iI 0)]) (rest := []) (c_X7_isWithin l D cI cZ vc 0 _ (by omega) (by omega)) (va_cwS 2 F.2.2.2.2 gX7_command_X7_isWithin rfl rfl rfl (by decide +kernel) ⟨Nat.le_of_ble_eq_true rfl, Nat.le_of_ble_eq_true rfl⟩) rfl rfl hl.1 (Nat.le_of_ble_eq_true rfl) dX7_command_71 ⟨Nat.le_of_ble_eq_true rfl, Nat.le_of_ble_eq_true rfl⟩ (fun z_71 H locs r_z_71 hp_71 hW => ?_)
                  refine z_if_eq F (pc := 74) 96 dX7_command_74 (by decide) (by omega) (fun c_74 => ?_) (fun c_74 => ?_)
                  · skip
                    have b_74 := zB_f hp_71 c_74
                    refine z_iconst F (pc := 96) (-1) dX7_command_96 ?_
                    exact hret _ _ _ _ (-1) (cx, cr, cl, ll, cn) dX7_command_97 (by omega) (by (try dsimp only) <;> (exact Or.inl ⟨by unfold cmdOk; omega, rfl, rfl, rfl, rfl, rfl, rfl⟩)) hW
                  · skip
                    have b_74 := zB_t hp_71 c_74
                    refine z_iload F (pc := 77) dX7_command_77 (lv_at hl 7 rfl) ?_
                    refine z_iloadn F (pc := 79) dX7_command_79 rfl (lv_at hl 3 rfl) ?_
                    refine z_iconst F (pc := 80) (3) dX7_command_80 ?_
                    refine z_icmp_le F (pc := 81) 89 dX7_command_81 (by decide) (by omega) (fun c_81 => ?_) (fun c_81 => ?_)
                    · skip
                      refine z_iconst F (pc := 89) (0) dX7_command_89 ?_
                      refine z_callSi F (pc := 90) hK hW hA (As := [.int (iI vd), .int (iI 0)]) (rest := []) (c_X7_isWithin l D cI cZ vd 0 _ (by omega) (by omega)) (va_cwS 2 F.2.2.2.2 gX7_command_X7_isWithin rfl rfl rfl (by decide +kernel) ⟨Nat.le_of_ble_eq_true rfl, Nat.le_of_ble_eq_true rfl⟩) rfl rfl hl.1 (Nat.le_of_ble_eq_true rfl) dX7_command_90 ⟨Nat.le_of_ble_eq_true rfl, Nat.le_of_ble_eq_true rfl⟩ (fun z_90 H locs r_z_90 hp_90 hW => ?_)
                      refine z_if_ne F (pc := 93) 98 dX7_command_93 (by decide) (by omega) (fun c_93 => ?_) (fun c_93 => ?_)
                      · skip
                        have b_93 := zB_t hp_90 c_93
                        refine z_aloadn F (pc := 98) dX7_command_98 rfl (lv_at hl 0 rfl) ?_
                        refine z_get F (pc := 99) (C := RX7) (T := TX7) (N := 10) (ci := 7) inX7 hK hW 0 4 rfl rfl (by decide) rfl (List.mem_of_getElem? (i := 1) rfl) (v := .ref (aC 0)) rfl dX7_command_99 ?_
                        refine z_get F (pc := 102) (C := RX1) (T := TX1) (N := 5) (ci := 1) inX1 hK hW 2 4 rfl rfl (by decide) rfl (List.mem_of_getElem? (i := 2) rfl) (v := .int (iI cn)) rfl dX7_command_102 ?_
                        refine z_bipush F (pc := 105) (10) (by decide +kernel) dX7_command_105 ?_
                        refine z_icmp_lt F (pc := 107) 113 dX7_command_107 (by decide) (by omega) (fun c_107 => ?_) (fun c_107 => ?_)
                        · skip
                          refine z_aloadn F (pc := 113) dX7_command_113 rfl (lv_at hl 0 rfl) ?_
                          refine z_get F (pc := 114) (C := RX7) (T := TX7) (N := 10) (ci := 7) inX7 hK hW 0 4 rfl rfl (by decide) rfl (List.mem_of_getElem? (i := 1) rfl) (v := .ref (aC 0)) rfl dX7_command_114 ?_
                          refine z_iloadn F (pc := 117) dX7_command_117 rfl (lv_at hl 1 rfl) ?_
                          refine z_iloadn F (pc := 118) dX7_command_118 rfl (lv_at hl 2 rfl) ?_
                          refine z_iloadn F (pc := 119) dX7_command_119 rfl (lv_at hl 3 rfl) ?_
                          refine z_callVi F (pc := 120) hK hW hA (As := [.int (iI x), .int (iI k), .int (iI nn)]) (rest := []) (ws' := fun (u : (Int → Int) × (Int → Int) × (Int → Int) × (Int)) => wB cI cZ aB aD aM aA aS aC aL aT di en mg ++ wC cI cZ aC u.1 u.2.1 u.2.2.1 ll u.2.2.2) (wr := (wB cI cZ aB aD aM aA aS aC aL aT di en mg)) (c_X1_open l D cI cZ aC cx cr cl ll cn x k nn _ (by omega) (by omega) (by omega) (by omega)) (cwV 3 F.2.2.2.2 gX7_command_X1_open rfl rfl rfl (by decide +kernel) ⟨Nat.le_of_ble_eq_true rfl, Nat.le_of_ble_eq_true rfl⟩) [2, 3, 4, 5, 6] [0, 1] [0, 1, 2, 3, 4, 5, 6] rfl rfl (by decide) (by decide) (by decide) (fun _ => rfl) (by decide) (q0 := 2) (ci := 1) rfl rfl rfl rfl rfl hl.1 (Nat.le_of_ble_eq_true rfl) dX7_command_120 ⟨Nat.le_of_ble_eq_true rfl, Nat.le_of_ble_eq_true rfl⟩ (fun z_120 u H locs r_z_120 hp_120 hW => ?_)
                          obtain ⟨cx2_120, cr2_120, cl2_120, cn2_120⟩ := u
                          dsimp only at hp_120 hW
                          obtain ⟨e_z_120, hp_120⟩ := hp_120
                          replace e_z_120 := e_z_120.symm
                          subst e_z_120
                          refine z_istore F (pc := 123) hl (lv' := [(8, .int (iI cn)), (0, .ref (aB 0)), (1, .int (iI x)), (2, .int (iI k)), (3, .int (iI nn)), (4, .int (iI va)), (5, .int (iI vb)), (6, .int (iI vc)), (7, .int (iI vd))]) dX7_command_123 (by decide) rfl (fun ls hl => ?_)
                          refine z_aloadn F (pc := 125) dX7_command_125 rfl (lv_at hl 1 rfl) ?_
                          refine z_get F (pc := 126) (C := RX7) (T := TX7) (N := 10) (ci := 7) inX7 hK hW 0 4 rfl rfl (by decide) rfl (List.mem_of_getElem? (i := 1) rfl) (v := .ref (aC 0)) rfl dX7_command_126 ?_
                          refine z_iload F (pc := 129) dX7_command_129 (lv_at hl 0 rfl) ?_
                          refine z_iconst F (pc := 131) (0) dX7_command_131 ?_
                          refine z_iload F (pc := 132) dX7_command_132 (lv_at hl 5 rfl) ?_
                          refine z_callVv F (pc := 134) hK hW hA (As := [.int (iI cn), .int (iI 0), .int (iI va)]) (rest := []) (ws' := fun (u : (Int → Int)) => wB cI cZ aB aD aM aA aS aC aL aT di en mg ++ wC cI cZ aC cx2_120 cr2_120 cl2_120 u cn2_120) (wr := (wB cI cZ aB aD aM aA aS aC aL aT di en mg)) (c_X1_put l D cI cZ aC cx2_120 cr2_120 cl2_120 ll cn2_120 cn 0 va _ (by omega) (by omega) (by omega) (by omega)) (cwV 3 F.2.2.2.2 gX7_command_X1_put rfl rfl rfl (by decide +kernel) ⟨Nat.le_of_ble_eq_true rfl, Nat.le_of_ble_eq_true rfl⟩) [2, 3, 4, 5, 6] [0, 1] [0, 1, 2, 3, 4, 5, 6] rfl rfl (by decide) (by decide) (by decide) (fun _ => rfl) (by decide) (q0 := 2) (ci := 1) rfl rfl rfl rfl rfl hl.1 (Nat.le_of_ble_eq_true rfl) dX7_command_134 ⟨Nat.le_of_ble_eq_true rfl, Nat.le_of_ble_eq_true rfl⟩ (fun u H locs hp_134 hW => ?_)
                          obtain ⟨ll2_134, rfl⟩ : ∃ v, v = u := ⟨_, rfl⟩
                          refine z_aloadn F (pc := 137) dX7_command_137 rfl (lv_at hl 1 rfl) ?_
                          refine z_get F (pc := 138) (C := RX7) (T := TX7) (N := 10) (ci := 7) inX7 hK hW 0 4 rfl rfl (by decide) rfl (List.mem_of_getElem? (i := 1) rfl) (v := .ref (aC 0)) rfl dX7_command_138 ?_
                          refine z_iload F (pc := 141) dX7_command_141 (lv_at hl 0 rfl) ?_
                          refine z_iconst F (pc := 143) (1) dX7_command_143 ?_
                          refine z_iload F (pc := 144) dX7_command_144 (lv_at hl 6 rfl) ?_
                          refine z_callVv F (pc := 146) hK hW hA (As := [.int (iI cn), .int (iI 1), .int (iI vb)]) (rest := []) (ws' := fun (u : (Int → Int)) => wB cI cZ aB aD aM aA aS aC aL aT di en mg ++ wC cI cZ aC cx2_120 cr2_120 cl2_120 u cn2_120) (wr := (wB cI cZ aB aD aM aA aS aC aL aT di en mg)) (c_X1_put l D cI cZ aC cx2_120 cr2_120 cl2_120 ll2_134 cn2_120 cn 1 vb _ (by omega) (by omega) (by omega) (by omega)) (cwV 3 F.2.2.2.2 gX7_command_X1_put rfl rfl rfl (by decide +kernel) ⟨Nat.le_of_ble_eq_true rfl, Nat.le_of_ble_eq_true rfl⟩) [2, 3, 4, 5, 6] [0, 1] [0, 1, 2, 3, 4, 5, 6] rfl rfl (by decide) (by decide) (by decide) (fun _ => rfl) (by decide) (q0 := 2) (ci := 1) rfl rfl rfl rfl rfl hl.1 (Nat.le_of_ble_eq_true rfl) dX7_command_146 ⟨Nat.le_of_ble_eq_true rfl, Nat.le_of_ble_eq_true rfl⟩ (fun u H locs hp_146 hW => ?_)
                          obtain ⟨ll2_146, rfl⟩ : ∃ v, v = u := ⟨_, rfl⟩
                          refine z_aloadn F (pc := 149) dX7_command_149 rfl (lv_at hl 1 rfl) ?_
                          refine z_get F (pc := 150) (C := RX7) (T := TX7) (N := 10) (ci := 7) inX7 hK hW 0 4 rfl rfl (by decide) rfl (List.mem_of_getElem? (i := 1) rfl) (v := .ref (aC 0)) rfl dX7_command_150 ?_
                          refine z_iload F (pc := 153) dX7_command_153 (lv_at hl 0 rfl) ?_
                          refine z_iconst F (pc := 155) (2) dX7_command_155 ?_
                          refine z_iload F (pc := 156) dX7_command_156 (lv_at hl 7 rfl) ?_
                          refine z_callVv F (pc := 158) hK hW hA (As := [.int (iI cn), .int (iI 2), .int (iI vc)]) (rest := []) (ws' := fun (u : (Int → Int)) => wB cI cZ aB aD aM aA aS aC aL aT di en mg ++ wC cI cZ aC cx2_120 cr2_120 cl2_120 u cn2_120) (wr := (wB cI cZ aB aD aM aA aS aC aL aT di en mg)) (c_X1_put l D cI cZ aC cx2_120 cr2_120 cl2_120 ll2_146 cn2_120 cn 2 vc _ (by omega) (by omega) (by omega) (by omega)) (cwV 3 F.2.2.2.2 gX7_command_X1_put rfl rfl rfl (by decide +kernel) ⟨Nat.le_of_ble_eq_true rfl, Nat.le_of_ble_eq_true rfl⟩) [2, 3, 4, 5, 6] [0, 1] [0, 1, 2, 3, 4, 5, 6] rfl rfl (by decide) (by decide) (by decide) (fun _ => rfl) (by decide) (q0 := 2) (ci := 1) rfl rfl rfl rfl rfl hl.1 (Nat.le_of_ble_eq_true rfl) dX7_command_158 ⟨Nat.le_of_ble_eq_true rfl, Nat.le_of_ble_eq_true rfl⟩ (fun u H locs hp_158 hW => ?_)
                          obtain ⟨ll2_158, rfl⟩ : ∃ v, v = u := ⟨_, rfl⟩
                          refine z_aloadn F (pc := 161) dX7_command_161 rfl (lv_at hl 1 rfl) ?_
                          refine z_get F (pc := 162) (C := RX7) (T := TX7) (N := 10) (ci := 7) inX7 hK hW 0 4 rfl rfl (by decide) rfl (List.mem_of_getElem? (i := 1) rfl) (v := .ref (aC 0)) rfl dX7_command_162 ?_
                          refine z_iload F (pc := 165) dX7_command_165 (lv_at hl 0 rfl) ?_
                          refine z_iconst F (pc := 167) (3) dX7_command_167 ?_
                          refine z_iload F (pc := 168) dX7_command_168 (lv_at hl 8 rfl) ?_
                          refine z_callVv F (pc := 170) hK hW hA (As := [.int (iI cn), .int (iI 3), .int (iI vd)]) (rest := []) (ws' := fun (u : (Int → Int)) => wB cI cZ aB aD aM aA aS aC aL aT di en mg ++ wC cI cZ aC cx2_120 cr2_120 cl2_120 u cn2_120) (wr := (wB cI cZ aB aD aM aA aS aC aL aT di en mg)) (c_X1_put l D cI cZ aC cx2_120 cr2_120 cl2_120 ll2_158 cn2_120 cn 3 vd _ (by omega) (by omega) (by omega) (by omega)) (cwV 3 F.2.2.2.2 gX7_command_X1_put rfl rfl rfl (by decide +kernel) ⟨Nat.le_of_ble_eq_true rfl, Nat.le_of_ble_eq_true rfl⟩) [2, 3, 4, 5, 6] [0, 1] [0, 1, 2, 3, 4, 5, 6] rfl rfl (by decide) (by decide) (by decide) (fun _ => rfl) (by decide) (q0 := 2) (ci := 1) rfl rfl rfl rfl rfl hl.1 (Nat.le_of_ble_eq_true rfl) dX7_command_170 ⟨Nat.le_of_ble_eq_true rfl, Nat.le_of_ble_eq_true rfl⟩ (fun u H locs hp_170 hW => ?_)
                          obtain ⟨ll2_170, rfl⟩ : ∃ v, v = u := ⟨_, rfl⟩
                          refine z_iload F (pc := 173) dX7_command_173 (lv_at hl 0 rfl) ?_
                          exact hret _ _ _ _ cn (cx2_120, cr2_120, cl2_120, ll2_170, cn2_120) dX7_command_175 (by omega) (by (try dsimp only) <;> (exact Or.inr (Or.inr ⟨by unfold cmdOk; omega, by omega, rfl, hp_120.1, hp_120.2.1, hp_120.2.2.1, by rw [hp_170, hp_158, hp_146, hp_134, Int.add_zero], hp_120.2.2.2⟩))) hW
                        · skip
                          refine z_bipush F (pc := 110) (-3) (by decide +kernel) dX7_command_110 ?_
                          exact hret _ _ _ _ (-3) (cx, cr, cl, ll, cn) dX7_command_112 (by omega) (by (try dsimp only) <;> (exact Or.inr (Or.inl ⟨by unfold cmdOk; omega, by omega, rfl, rfl, rfl, rfl, rfl, rfl⟩))) hW
                      · skip
                        have b_93 := zB_f hp_90 c_93
                        refine z_iconst F (pc := 96) (-1) dX7_command_96 ?_
                        exact hret _ _ _ _ (-1) (cx, cr, cl, ll, cn) dX7_command_97 (by omega) (by (try dsimp only) <;> (exact Or.inl ⟨by unfold cmdOk; omega, rfl, rfl, rfl, rfl, rfl, rfl⟩)) hW
                    · skip
                      exfalso; omega
                · skip
                  refine z_bipush F (pc := 65) (9) (by decide +kernel) dX7_command_65 ?_
                  refine z_goto F (pc := 67) 71 dX7_command_67 (by decide) ?_
                  refine z_callSi F (pc := 71) hK hW hA (As := [.int (iI vc), .int (iI 9)]) (rest := []) (c_X7_isWithin l D cI cZ vc 9 _ (by omega) (by omega)) (va_cwS 2 F.2.2.2.2 gX7_command_X7_isWithin rfl rfl rfl (by decide +kernel) ⟨Nat.le_of_ble_eq_true rfl, Nat.le_of_ble_eq_true rfl⟩) rfl rfl hl.1 (Nat.le_of_ble_eq_true rfl) dX7_command_71 ⟨Nat.le_of_ble_eq_true rfl, Nat.le_of_ble_eq_true rfl⟩ (fun z_71 H locs r_z_71 hp_71 hW => ?_)
                  refine z_if_eq F (pc := 74) 96 dX7_command_74 (by decide) (by omega) (fun c_74 => ?_) (fun c_74 => ?_)
                  · skip
                    have b_74 := zB_f hp_71 c_74
                    refine z_iconst F (pc := 96) (-1) dX7_command_96 ?_
                    exact hret _ _ _ _ (-1) (cx, cr, cl, ll, cn) dX7_command_97 (by omega) (by (try dsimp only) <;> (exact Or.inl ⟨by unfold cmdOk; omega, rfl, rfl, rfl, rfl, rfl, rfl⟩)) hW
                  · skip
                    have b_74 := zB_t hp_71 c_74
                    refine z_iload F (pc := 77) dX7_command_77 (lv_at hl 7 rfl) ?_
                    refine z_iloadn F (pc := 79) dX7_command_79 rfl (lv_at hl 3 rfl) ?_
                    refine z_iconst F (pc := 80) (3) dX7_command_80 ?_
                    refine z_icmp_le F (pc := 81) 89 dX7_command_81 (by decide) (by omega) (fun c_81 => ?_) (fun c_81 => ?_)
                    · skip
                      refine z_iconst F (pc := 89) (0) dX7_command_89 ?_
                      refine z_callSi F (pc := 90) hK hW hA (As := [.int (iI vd), .int (iI 0)]) (rest := []) (c_X7_isWithin l D cI cZ vd 0 _ (by omega) (by omega)) (va_cwS 2 F.2.2.2.2 gX7_command_X7_isWithin rfl rfl rfl (by decide +kernel) ⟨Nat.le_of_ble_eq_true rfl, Nat.le_of_ble_eq_true rfl⟩) rfl rfl hl.1 (Nat.le_of_ble_eq_true rfl) dX7_command_90 ⟨Nat.le_of_ble_eq_true rfl, Nat.le_of_ble_eq_true rfl⟩ (fun z_90 H locs r_z_90 hp_90 hW => ?_)
                      refine z_if_ne F (pc := 93) 98 dX7_command_93 (by decide) (by omega) (fun c_93 => ?_) (fun c_93 => ?_)
                      · skip
                        have b_93 := zB_t hp_90 c_93
                        refine z_aloadn F (pc := 98) dX7_command_98 rfl (lv_at hl 0 rfl) ?_
                        refine z_get F (pc := 99) (C := RX7) (T := TX7) (N := 10) (ci := 7) inX7 hK hW 0 4 rfl rfl (by decide) rfl (List.mem_of_getElem? (i := 1) rfl) (v := .ref (aC 0)) rfl dX7_command_99 ?_
                        refine z_get F (pc := 102) (C := RX1) (T := TX1) (N := 5) (ci := 1) inX1 hK hW 2 4 rfl rfl (by decide) rfl (List.mem_of_getElem? (i := 2) rfl) (v := .int (iI cn)) rfl dX7_command_102 ?_
                        refine z_bipush F (pc := 105) (10) (by decide +kernel) dX7_command_105 ?_
                        refine z_icmp_lt F (pc := 107) 113 dX7_command_107 (by decide) (by omega) (fun c_107 => ?_) (fun c_107 => ?_)
                        · skip
                          refine z_aloadn F (pc := 113) dX7_command_113 rfl (lv_at hl 0 rfl) ?_
                          refine z_get F (pc := 114) (C := RX7) (T := TX7) (N := 10) (ci := 7) inX7 hK hW 0 4 rfl rfl (by decide) rfl (List.mem_of_getElem? (i := 1) rfl) (v := .ref (aC 0)) rfl dX7_command_114 ?_
                          refine z_iloadn F (pc := 117) dX7_command_117 rfl (lv_at hl 1 rfl) ?_
                          refine z_iloadn F (pc := 118) dX7_command_118 rfl (lv_at hl 2 rfl) ?_
                          refine z_iloadn F (pc := 119) dX7_command_119 rfl (lv_at hl 3 rfl) ?_
                          refine z_callVi F (pc := 120) hK hW hA (As := [.int (iI x), .int (iI k), .int (iI nn)]) (rest := []) (ws' := fun (u : (Int → Int) × (Int → Int) × (Int → Int) × (Int)) => wB cI cZ aB aD aM aA aS aC aL aT di en mg ++ wC cI cZ aC u.1 u.2.1 u.2.2.1 ll u.2.2.2) (wr := (wB cI cZ aB aD aM aA aS aC aL aT di en mg)) (c_X1_open l D cI cZ aC cx cr cl ll cn x k nn _ (by omega) (by omega) (by omega) (by omega)) (cwV 3 F.2.2.2.2 gX7_command_X1_open rfl rfl rfl (by decide +kernel) ⟨Nat.le_of_ble_eq_true rfl, Nat.le_of_ble_eq_true rfl⟩) [2, 3, 4, 5, 6] [0, 1] [0, 1, 2, 3, 4, 5, 6] rfl rfl (by decide) (by decide) (by decide) (fun _ => rfl) (by decide) (q0 := 2) (ci := 1) rfl rfl rfl rfl rfl hl.1 (Nat.le_of_ble_eq_true rfl) dX7_command_120 ⟨Nat.le_of_ble_eq_true rfl, Nat.le_of_ble_eq_true rfl⟩ (fun z_120 u H locs r_z_120 hp_120 hW => ?_)
                          obtain ⟨cx2_120, cr2_120, cl2_120, cn2_120⟩ := u
                          dsimp only at hp_120 hW
                          obtain ⟨e_z_120, hp_120⟩ := hp_120
                          replace e_z_120 := e_z_120.symm
                          subst e_z_120
                          refine z_istore F (pc := 123) hl (lv' := [(8, .int (iI cn)), (0, .ref (aB 0)), (1, .int (iI x)), (2, .int (iI k)), (3, .int (iI nn)), (4, .int (iI va)), (5, .int (iI vb)), (6, .int (iI vc)), (7, .int (iI vd))]) dX7_command_123 (by decide) rfl (fun ls hl => ?_)
                          refine z_aloadn F (pc := 125) dX7_command_125 rfl (lv_at hl 1 rfl) ?_
                          refine z_get F (pc := 126) (C := RX7) (T := TX7) (N := 10) (ci := 7) inX7 hK hW 0 4 rfl rfl (by decide) rfl (List.mem_of_getElem? (i := 1) rfl) (v := .ref (aC 0)) rfl dX7_command_126 ?_
                          refine z_iload F (pc := 129) dX7_command_129 (lv_at hl 0 rfl) ?_
                          refine z_iconst F (pc := 131) (0) dX7_command_131 ?_
                          refine z_iload F (pc := 132) dX7_command_132 (lv_at hl 5 rfl) ?_
                          refine z_callVv F (pc := 134) hK hW hA (As := [.int (iI cn), .int (iI 0), .int (iI va)]) (rest := []) (ws' := fun (u : (Int → Int)) => wB cI cZ aB aD aM aA aS aC aL aT di en mg ++ wC cI cZ aC cx2_120 cr2_120 cl2_120 u cn2_120) (wr := (wB cI cZ aB aD aM aA aS aC aL aT di en mg)) (c_X1_put l D cI cZ aC cx2_120 cr2_120 cl2_120 ll cn2_120 cn 0 va _ (by omega) (by omega) (by omega) (by omega)) (cwV 3 F.2.2.2.2 gX7_command_X1_put rfl rfl rfl (by decide +kernel) ⟨Nat.le_of_ble_eq_true rfl, Nat.le_of_ble_eq_true rfl⟩) [2, 3, 4, 5, 6] [0, 1] [0, 1, 2, 3, 4, 5, 6] rfl rfl (by decide) (by decide) (by decide) (fun _ => rfl) (by decide) (q0 := 2) (ci := 1) rfl rfl rfl rfl rfl hl.1 (Nat.le_of_ble_eq_true rfl) dX7_command_134 ⟨Nat.le_of_ble_eq_true rfl, Nat.le_of_ble_eq_true rfl⟩ (fun u H locs hp_134 hW => ?_)
                          obtain ⟨ll2_134, rfl⟩ : ∃ v, v = u := ⟨_, rfl⟩
                          refine z_aloadn F (pc := 137) dX7_command_137 rfl (lv_at hl 1 rfl) ?_
                          refine z_get F (pc := 138) (C := RX7) (T := TX7) (N := 10) (ci := 7) inX7 hK hW 0 4 rfl rfl (by decide) rfl (List.mem_of_getElem? (i := 1) rfl) (v := .ref (aC 0)) rfl dX7_command_138 ?_
                          refine z_iload F (pc := 141) dX7_command_141 (lv_at hl 0 rfl) ?_
                          refine z_iconst F (pc := 143) (1) dX7_command_143 ?_
                          refine z_iload F (pc := 144) dX7_command_144 (lv_at hl 6 rfl) ?_
                          refine z_callVv F (pc := 146) hK hW hA (As := [.int (iI cn), .int (iI 1), .int (iI vb)]) (rest := []) (ws' := fun (u : (Int → Int)) => wB cI cZ aB aD aM aA aS aC aL aT di en mg ++ wC cI cZ aC cx2_120 cr2_120 cl2_120 u cn2_120) (wr := (wB cI cZ aB aD aM aA aS aC aL aT di en mg)) (c_X1_put l D cI cZ aC cx2_120 cr2_120 cl2_120 ll2_134 cn2_120 cn 1 vb _ (by omega) (by omega) (by omega) (by omega)) (cwV 3 F.2.2.2.2 gX7_command_X1_put rfl rfl rfl (by decide +kernel) ⟨Nat.le_of_ble_eq_true rfl, Nat.le_of_ble_eq_true rfl⟩) [2, 3, 4, 5, 6] [0, 1] [0, 1, 2, 3, 4, 5, 6] rfl rfl (by decide) (by decide) (by decide) (fun _ => rfl) (by decide) (q0 := 2) (ci := 1) rfl rfl rfl rfl rfl hl.1 (Nat.le_of_ble_eq_true rfl) dX7_command_146 ⟨Nat.le_of_ble_eq_true rfl, Nat.le_of_ble_eq_true rfl⟩ (fun u H locs hp_146 hW => ?_)
                          obtain ⟨ll2_146, rfl⟩ : ∃ v, v = u := ⟨_, rfl⟩
                          refine z_aloadn F (pc := 149) dX7_command_149 rfl (lv_at hl 1 rfl) ?_
                          refine z_get F (pc := 150) (C := RX7) (T := TX7) (N := 10) (ci := 7) inX7 hK hW 0 4 rfl rfl (by decide) rfl (List.mem_of_getElem? (i := 1) rfl) (v := .ref (aC 0)) rfl dX7_command_150 ?_
                          refine z_iload F (pc := 153) dX7_command_153 (lv_at hl 0 rfl) ?_
                          refine z_iconst F (pc := 155) (2) dX7_command_155 ?_
                          refine z_iload F (pc := 156) dX7_command_156 (lv_at hl 7 rfl) ?_
                          refine z_callVv F (pc := 158) hK hW hA (As := [.int (iI cn), .int (iI 2), .int (iI vc)]) (rest := []) (ws' := fun (u : (Int → Int)) => wB cI cZ aB aD aM aA aS aC aL aT di en mg ++ wC cI cZ aC cx2_120 cr2_120 cl2_120 u cn2_120) (wr := (wB cI cZ aB aD aM aA aS aC aL aT di en mg)) (c_X1_put l D cI cZ aC cx2_120 cr2_120 cl2_120 ll2_146 cn2_120 cn 2 vc _ (by omega) (by omega) (by omega) (by omega)) (cwV 3 F.2.2.2.2 gX7_command_X1_put rfl rfl rfl (by decide +kernel) ⟨Nat.le_of_ble_eq_true rfl, Nat.le_of_ble_eq_true rfl⟩) [2, 3, 4, 5, 6] [0, 1] [0, 1, 2, 3, 4, 5, 6] rfl rfl (by decide) (by decide) (by decide) (fun _ => rfl) (by decide) (q0 := 2) (ci := 1) rfl rfl rfl rfl rfl hl.1 (Nat.le_of_ble_eq_true rfl) dX7_command_158 ⟨Nat.le_of_ble_eq_true rfl, Nat.le_of_ble_eq_true rfl⟩ (fun u H locs hp_158 hW => ?_)
                          obtain ⟨ll2_158, rfl⟩ : ∃ v, v = u := ⟨_, rfl⟩
                          refine z_aloadn F (pc := 161) dX7_command_161 rfl (lv_at hl 1 rfl) ?_
                          refine z_get F (pc := 162) (C := RX7) (T := TX7) (N := 10) (ci := 7) inX7 hK hW 0 4 rfl rfl (by decide) rfl (List.mem_of_getElem? (i := 1) rfl) (v := .ref (aC 0)) rfl dX7_command_162 ?_
                          refine z_iload F (pc := 165) dX7_command_165 (lv_at hl 0 rfl) ?_
                          refine z_iconst F (pc := 167) (3) dX7_command_167 ?_
                          refine z_iload F (pc := 168) dX7_command_168 (lv_at hl 8 rfl) ?_
                          refine z_callVv F (pc := 170) hK hW hA (As := [.int (iI cn), .int (iI 3), .int (iI vd)]) (rest := []) (ws' := fun (u : (Int → Int)) => wB cI cZ aB aD aM aA aS aC aL aT di en mg ++ wC cI cZ aC cx2_120 cr2_120 cl2_120 u cn2_120) (wr := (wB cI cZ aB aD aM aA aS aC aL aT di en mg)) (c_X1_put l D cI cZ aC cx2_120 cr2_120 cl2_120 ll2_158 cn2_120 cn 3 vd _ (by omega) (by omega) (by omega) (by omega)) (cwV 3 F.2.2.2.2 gX7_command_X1_put rfl rfl rfl (by decide +kernel) ⟨Nat.le_of_ble_eq_true rfl, Nat.le_of_ble_eq_true rfl⟩) [2, 3, 4, 5, 6] [0, 1] [0, 1, 2, 3, 4, 5, 6] rfl rfl (by decide) (by decide) (by decide) (fun _ => rfl) (by decide) (q0 := 2) (ci := 1) rfl rfl rfl rfl rfl hl.1 (Nat.le_of_ble_eq_true rfl) dX7_command_170 ⟨Nat.le_of_ble_eq_true rfl, Nat.le_of_ble_eq_true rfl⟩ (fun u H locs hp_170 hW => ?_)
                          obtain ⟨ll2_170, rfl⟩ : ∃ v, v = u := ⟨_, rfl⟩
                          refine z_iload F (pc := 173) dX7_command_173 (lv_at hl 0 rfl) ?_
                          exact hret _ _ _ _ cn (cx2_120, cr2_120, cl2_120, ll2_170, cn2_120) dX7_command_175 (by omega) (by (try dsimp only) <;> (exact Or.inr (Or.inr ⟨by unfold cmdOk; omega, by omega, rfl, hp_120.1, hp_120.2.1, hp_120.2.2.1, by rw [hp_170, hp_158, hp_146, hp_134, Int.add_zero], hp_120.2.2.2⟩))) hW
                        · skip
                          refine z_bipush F (pc := 110) (-3) (by decide +kernel) dX7_command_110 ?_
                          exact hret _ _ _ _ (-3) (cx, cr, cl, ll, cn) dX7_command_112 (by omega) (by (try dsimp only) <;> (exact Or.inr (Or.inl ⟨by unfold cmdOk; omega, by omega, rfl, rfl, rfl, rfl, rfl, rfl⟩))) hW
                      · skip
                        have b_93 := zB_f hp_90 c_93
                        refine z_iconst F (pc := 96) (-1) dX7_command_96 ?_
                        exact hret _ _ _ _ (-1) (cx, cr, cl, ll, cn) dX7_command_97 (by omega) (by (try dsimp only) <;> (exact Or.inl ⟨by unfold cmdOk; omega, rfl, rfl, rfl, rfl, rfl, rfl⟩)) hW
                    · skip
                      refine z_bipush F (pc := 84) (9) (by decide +kernel) dX7_command_84 ?_
                      refine z_goto F (pc := 86) 90 dX7_command_86 (by decide) ?_
                      refine z_callSi F (pc := 90) hK hW hA (As := [.int (iI vd), .int (iI 9)]) (rest := []) (c_X7_isWithin l D cI cZ vd 9 _ (by omega) (by omega)) (va_cwS 2 F.2.2.2.2 gX7_command_X7_isWithin rfl rfl rfl (by decide +kernel) ⟨Nat.le_of_ble_eq_true rfl, Nat.le_of_ble_eq_true rfl⟩) rfl rfl hl.1 (Nat.le_of_ble_eq_true rfl) dX7_command_90 ⟨Nat.le_of_ble_eq_true rfl, Nat.le_of_ble_eq_true rfl⟩ (fun z_90 H locs r_z_90 hp_90 hW => ?_)
                      refine z_if_ne F (pc := 93) 98 dX7_command_93 (by decide) (by omega) (fun c_93 => ?_) (fun c_93 => ?_)
                      · skip
                        have b_93 := zB_t hp_90 c_93
                        refine z_aloadn F (pc := 98) dX7_command_98 rfl (lv_at hl 0 rfl) ?_
                        refine z_get F (pc := 99) (C := RX7) (T := TX7) (N := 10) (ci := 7) inX7 hK hW 0 4 rfl rfl (by decide) rfl (List.mem_of_getElem? (i := 1) rfl) (v := .ref (aC 0)) rfl dX7_command_99 ?_
                        refine z_get F (pc := 102) (C := RX1) (T := TX1) (N := 5) (ci := 1) inX1 hK hW 2 4 rfl rfl (by decide) rfl (List.mem_of_getElem? (i := 2) rfl) (v := .int (iI cn)) rfl dX7_command_102 ?_
                        refine z_bipush F (pc := 105) (10) (by decide +kernel) dX7_command_105 ?_
                        refine z_icmp_lt F (pc := 107) 113 dX7_command_107 (by decide) (by omega) (fun c_107 => ?_) (fun c_107 => ?_)
                        · skip
                          refine z_aloadn F (pc := 113) dX7_command_113 rfl (lv_at hl 0 rfl) ?_
                          refine z_get F (pc := 114) (C := RX7) (T := TX7) (N := 10) (ci := 7) inX7 hK hW 0 4 rfl rfl (by decide) rfl (List.mem_of_getElem? (i := 1) rfl) (v := .ref (aC 0)) rfl dX7_command_114 ?_
                          refine z_iloadn F (pc := 117) dX7_command_117 rfl (lv_at hl 1 rfl) ?_
                          refine z_iloadn F (pc := 118) dX7_command_118 rfl (lv_at hl 2 rfl) ?_
                          refine z_iloadn F (pc := 119) dX7_command_119 rfl (lv_at hl 3 rfl) ?_
                          refine z_callVi F (pc := 120) hK hW hA (As := [.int (iI x), .int (iI k), .int (iI nn)]) (rest := []) (ws' := fun (u : (Int → Int) × (Int → Int) × (Int → Int) × (Int)) => wB cI cZ aB aD aM aA aS aC aL aT di en mg ++ wC cI cZ aC u.1 u.2.1 u.2.2.1 ll u.2.2.2) (wr := (wB cI cZ aB aD aM aA aS aC aL aT di en mg)) (c_X1_open l D cI cZ aC cx cr cl ll cn x k nn _ (by omega) (by omega) (by omega) (by omega)) (cwV 3 F.2.2.2.2 gX7_command_X1_open rfl rfl rfl (by decide +kernel) ⟨Nat.le_of_ble_eq_true rfl, Nat.le_of_ble_eq_true rfl⟩) [2, 3, 4, 5, 6] [0, 1] [0, 1, 2, 3, 4, 5, 6] rfl rfl (by decide) (by decide) (by decide) (fun _ => rfl) (by decide) (q0 := 2) (ci := 1) rfl rfl rfl rfl rfl hl.1 (Nat.le_of_ble_eq_true rfl) dX7_command_120 ⟨Nat.le_of_ble_eq_true rfl, Nat.le_of_ble_eq_true rfl⟩ (fun z_120 u H locs r_z_120 hp_120 hW => ?_)
                          obtain ⟨cx2_120, cr2_120, cl2_120, cn2_120⟩ := u
                          dsimp only at hp_120 hW
                          obtain ⟨e_z_120, hp_120⟩ := hp_120
                          replace e_z_120 := e_z_120.symm
                          subst e_z_120
                          refine z_istore F (pc := 123) hl (lv' := [(8, .int (iI cn)), (0, .ref (aB 0)), (1, .int (iI x)), (2, .int (iI k)), (3, .int (iI nn)), (4, .int (iI va)), (5, .int (iI vb)), (6, .int (iI vc)), (7, .int (iI vd))]) dX7_command_123 (by decide) rfl (fun ls hl => ?_)
                          refine z_aloadn F (pc := 125) dX7_command_125 rfl (lv_at hl 1 rfl) ?_
                          refine z_get F (pc := 126) (C := RX7) (T := TX7) (N := 10) (ci := 7) inX7 hK hW 0 4 rfl rfl (by decide) rfl (List.mem_of_getElem? (i := 1) rfl) (v := .ref (aC 0)) rfl dX7_command_126 ?_
                          refine z_iload F (pc := 129) dX7_command_129 (lv_at hl 0 rfl) ?_
                          refine z_iconst F (pc := 131) (0) dX7_command_131 ?_
                          refine z_iload F (pc := 132) dX7_command_132 (lv_at hl 5 rfl) ?_
                          refine z_callVv F (pc := 134) hK hW hA (As := [.int (iI cn), .int (iI 0), .int (iI va)]) (rest := []) (ws' := fun (u : (Int → Int)) => wB cI cZ aB aD aM aA aS aC aL aT di en mg ++ wC cI cZ aC cx2_120 cr2_120 cl2_120 u cn2_120) (wr := (wB cI cZ aB aD aM aA aS aC aL aT di en mg)) (c_X1_put l D cI cZ aC cx2_120 cr2_120 cl2_120 ll cn2_120 cn 0 va _ (by omega) (by omega) (by omega) (by omega)) (cwV 3 F.2.2.2.2 gX7_command_X1_put rfl rfl rfl (by decide +kernel) ⟨Nat.le_of_ble_eq_true rfl, Nat.le_of_ble_eq_true rfl⟩) [2, 3, 4, 5, 6] [0, 1] [0, 1, 2, 3, 4, 5, 6] rfl rfl (by decide) (by decide) (by decide) (fun _ => rfl) (by decide) (q0 := 2) (ci := 1) rfl rfl rfl rfl rfl hl.1 (Nat.le_of_ble_eq_true rfl) dX7_command_134 ⟨Nat.le_of_ble_eq_true rfl, Nat.le_of_ble_eq_true rfl⟩ (fun u H locs hp_134 hW => ?_)
                          obtain ⟨ll2_134, rfl⟩ : ∃ v, v = u := ⟨_, rfl⟩
                          refine z_aloadn F (pc := 137) dX7_command_137 rfl (lv_at hl 1 rfl) ?_
                          refine z_get F (pc := 138) (C := RX7) (T := TX7) (N := 10) (ci := 7) inX7 hK hW 0 4 rfl rfl (by decide) rfl (List.mem_of_getElem? (i := 1) rfl) (v := .ref (aC 0)) rfl dX7_command_138 ?_
                          refine z_iload F (pc := 141) dX7_command_141 (lv_at hl 0 rfl) ?_
                          refine z_iconst F (pc := 143) (1) dX7_command_143 ?_
                          refine z_iload F (pc := 144) dX7_command_144 (lv_at hl 6 rfl) ?_
                          refine z_callVv F (pc := 146) hK hW hA (As := [.int (iI cn), .int (iI 1), .int (iI vb)]) (rest := []) (ws' := fun (u : (Int → Int)) => wB cI cZ aB aD aM aA aS aC aL aT di en mg ++ wC cI cZ aC cx2_120 cr2_120 cl2_120 u cn2_120) (wr := (wB cI cZ aB aD aM aA aS aC aL aT di en mg)) (c_X1_put l D cI cZ aC cx2_120 cr2_120 cl2_120 ll2_134 cn2_120 cn 1 vb _ (by omega) (by omega) (by omega) (by omega)) (cwV 3 F.2.2.2.2 gX7_command_X1_put rfl rfl rfl (by decide +kernel) ⟨Nat.le_of_ble_eq_true rfl, Nat.le_of_ble_eq_true rfl⟩) [2, 3, 4, 5, 6] [0, 1] [0, 1, 2, 3, 4, 5, 6] rfl rfl (by decide) (by decide) (by decide) (fun _ => rfl) (by decide) (q0 := 2) (ci := 1) rfl rfl rfl rfl rfl hl.1 (Nat.le_of_ble_eq_true rfl) dX7_command_146 ⟨Nat.le_of_ble_eq_true rfl, Nat.le_of_ble_eq_true rfl⟩ (fun u H locs hp_146 hW => ?_)
                          obtain ⟨ll2_146, rfl⟩ : ∃ v, v = u := ⟨_, rfl⟩
                          refine z_aloadn F (pc := 149) dX7_command_149 rfl (lv_at hl 1 rfl) ?_
                          refine z_get F (pc := 150) (C := RX7) (T := TX7) (N := 10) (ci := 7) inX7 hK hW 0 4 rfl rfl (by decide) rfl (List.mem_of_getElem? (i := 1) rfl) (v := .ref (aC 0)) rfl dX7_command_150 ?_
                          refine z_iload F (pc := 153) dX7_command_153 (lv_at hl 0 rfl) ?_
                          refine z_iconst F (pc := 155) (2) dX7_command_155 ?_
                          refine z_iload F (pc := 156) dX7_command_156 (lv_at hl 7 rfl) ?_
                          refine z_callVv F (pc := 158) hK hW hA (As := [.int (iI cn), .int (iI 2), .int (iI vc)]) (rest := []) (ws' := fun (u : (Int → Int)) => wB cI cZ aB aD aM aA aS aC aL aT di en mg ++ wC cI cZ aC cx2_120 cr2_120 cl2_120 u cn2_120) (wr := (wB cI cZ aB aD aM aA aS aC aL aT di en mg)) (c_X1_put l D cI cZ aC cx2_120 cr2_120 cl2_120 ll2_146 cn2_120 cn 2 vc _ (by omega) (by omega) (by omega) (by omega)) (cwV 3 F.2.2.2.2 gX7_command_X1_put rfl rfl rfl (by decide +kernel) ⟨Nat.le_of_ble_eq_true rfl, Nat.le_of_ble_eq_true rfl⟩) [2, 3, 4, 5, 6] [0, 1] [0, 1, 2, 3, 4, 5, 6] rfl rfl (by decide) (by decide) (by decide) (fun _ => rfl) (by decide) (q0 := 2) (ci := 1) rfl rfl rfl rfl rfl hl.1 (Nat.le_of_ble_eq_true rfl) dX7_command_158 ⟨Nat.le_of_ble_eq_true rfl, Nat.le_of_ble_eq_true rfl⟩ (fun u H locs hp_158 hW => ?_)
                          obtain ⟨ll2_158, rfl⟩ : ∃ v, v = u := ⟨_, rfl⟩
                          refine z_aloadn F (pc := 161) dX7_command_161 rfl (lv_at hl 1 rfl) ?_
                          refine z_get F (pc := 162) (C := RX7) (T := TX7) (N := 10) (ci := 7) inX7 hK hW 0 4 rfl rfl (by decide) rfl (List.mem_of_getElem? (i := 1) rfl) (v := .ref (aC 0)) rfl dX7_command_162 ?_
                          refine z_iload F (pc := 165) dX7_command_165 (lv_at hl 0 rfl) ?_
                          refine z_iconst F (pc := 167) (3) dX7_command_167 ?_
                          refine z_iload F (pc := 168) dX7_command_168 (lv_at hl 8 rfl) ?_
                          refine z_callVv F (pc := 170) hK hW hA (As := [.int (iI cn), .int (iI 3), .int (iI vd)]) (rest := []) (ws' := fun (u : (Int → Int)) => wB cI cZ aB aD aM aA aS aC aL aT di en mg ++ wC cI cZ aC cx2_120 cr2_120 cl2_120 u cn2_120) (wr := (wB cI cZ aB aD aM aA aS aC aL aT di en mg)) (c_X1_put l D cI cZ aC cx2_120 cr2_120 cl2_120 ll2_158 cn2_120 cn 3 vd _ (by omega) (by omega) (by omega) (by omega)) (cwV 3 F.2.2.2.2 gX7_command_X1_put rfl rfl rfl (by decide +kernel) ⟨Nat.le_of_ble_eq_true rfl, Nat.le_of_ble_eq_true rfl⟩) [2, 3, 4, 5, 6] [0, 1] [0, 1, 2, 3, 4, 5, 6] rfl rfl (by decide) (by decide) (by decide) (fun _ => rfl) (by decide) (q0 := 2) (ci := 1) rfl rfl rfl rfl rfl hl.1 (Nat.le_of_ble_eq_true rfl) dX7_command_170 ⟨Nat.le_of_ble_eq_true rfl, Nat.le_of_ble_eq_true rfl⟩ (fun u H locs hp_170 hW => ?_)
                          obtain ⟨ll2_170, rfl⟩ : ∃ v, v = u := ⟨_, rfl⟩
                          refine z_iload F (pc := 173) dX7_command_173 (lv_at hl 0 rfl) ?_
                          exact hret _ _ _ _ cn (cx2_120, cr2_120, cl2_120, ll2_170, cn2_120) dX7_command_175 (by omega) (by (try dsimp only) <;> (exact Or.inr (Or.inr ⟨by unfold cmdOk; omega, by omega, rfl, hp_120.1, hp_120.2.1, hp_120.2.2.1, by rw [hp_170, hp_158, hp_146, hp_134, Int.add_zero], hp_120.2.2.2⟩))) hW
                        · skip
                          refine z_bipush F (pc := 110) (-3) (by decide +kernel) dX7_command_110 ?_
                          exact hret _ _ _ _ (-3) (cx, cr, cl, ll, cn) dX7_command_112 (by omega) (by (try dsimp only) <;> (exact Or.inr (Or.inl ⟨by unfold cmdOk; omega, by omega, rfl, rfl, rfl, rfl, rfl, rfl⟩))) hW
                      · skip
                        have b_93 := zB_f hp_90 c_93
                        refine z_iconst F (pc := 96) (-1) dX7_command_96 ?_
                        exact hret _ _ _ _ (-1) (cx, cr, cl, ll, cn) dX7_command_97 (by omega) (by (try dsimp only) <;> (exact Or.inl ⟨by unfold cmdOk; omega, rfl, rfl, rfl, rfl, rfl, rfl⟩)) hW
    · skip
      have b_14 := zB_f hp_11 c_14
      refine z_iconst F (pc := 17) (-1) dX7_command_17 ?_
      exact hret _ _ _ _ (-1) (cx, cr, cl, ll, cn) dX7_command_18 (by omega) (by (try dsimp only) <;> (exact Or.inl ⟨by unfold cmdOk; omega, rfl, rfl, rfl, rfl, rfl, rfl⟩)) hW

set_option maxHeartbeats 4000000 in
set_option maxRecDepth 100000 in
theorem c_X7_parse (l : Launch) (D : va_G) (cI cZ : ClassId) (aB aD aM aA aS aC aL aT : Nat → Nat) (di rw fn fp cx cr cl ll : Int → Int) (en mg ln fc cn : Int) (x : Int) (sz0 : Nat) (r_x : (-2147483648 ≤ x ∧ x < 2147483648)) (hc : Cok cx cr cl ll cn) (hr : Rok rw ln) : Met l yX7_parse wsX7_parse ({ frames := 4, cells := 0, slots := 0, locals := 95 } : Room) (zPc D cI cZ [.ref (aB 0), .int (iI x)] (wB cI cZ aB aD aM aA aS aC aL aT di en mg ++ wL cI cZ aL rw fn fp ln fc ++ wC cI cZ aC cx cr cl ll cn) sz0) (zQi D cI cZ (wB cI cZ aB aD aM aA aS aC aL aT di en mg ++ wL cI cZ aL rw fn fp ln fc ++ wC cI cZ aC cx cr cl ll cn) sz0 (fun (r : Int) (u : (Int → Int) × (Int → Int) × (Int)) => parseR cx cr cl ll rw cn ln x r) (fun (u : (Int → Int) × (Int → Int) × (Int)) => wB cI cZ aB aD aM aA aS aC aL aT di en mg ++ wL cI cZ aL rw u.1 u.2.1 ln u.2.2 ++ wC cI cZ aC cx cr cl ll cn)) 0 0 (va_A (wB cI cZ aB aD aM aA aS aC aL aT di en mg ++ wL cI cZ aL rw fn fp ln fc ++ wC cI cZ aC cx cr cl ll cn) sz0) := by
  have hln := hr.1
  refine z_ofI (maxL := 2) (plainFor_of_name (by decide)) rfl (Nat.le_of_ble_eq_true rfl) (Or.inl rfl) ?_
  intro p e s m below meth c A ls Q F hK hW hA hl hret
  have hl : lv_has ls 2 [(0, .ref (aB 0)), (1, .int (iI x))] := hl
  have inX3 : ∀ w ∈ u_ws RX3 TX3 5, w ∈ wsX7_parse := fun _ h => List.mem_cons_of_mem _ (List.mem_append_left _ (List.mem_append_right _ h))
  have inX7 : ∀ w ∈ u_ws RX7 TX7 10, w ∈ wsX7_parse := fun _ h => List.mem_cons_of_mem _ (List.mem_append_left _ (List.mem_append_left _ (List.mem_append_right _ h)))
  refine z_iloadn F (pc := 0) dX7_parse_0 rfl (lv_at hl 1 rfl) ?_
  refine z_iconst F (pc := 1) (3) dX7_parse_1 ?_
  refine z_callSi F (pc := 2) hK hW hA (As := [.int (iI x), .int (iI 3)]) (rest := []) (c_X7_isWithin l D cI cZ x 3 _ (by omega) (by omega)) (va_cwS 2 F.2.2.2.2 gX7_parse_X7_isWithin rfl rfl rfl (by decide +kernel) ⟨Nat.le_of_ble_eq_true rfl, Nat.le_of_ble_eq_true rfl⟩) rfl rfl hl.1 (Nat.le_of_ble_eq_true rfl) dX7_parse_2 ⟨Nat.le_of_ble_eq_true rfl, Nat.le_of_ble_eq_true rfl⟩ (fun z_2 H locs r_z_2 hp_2 hW => ?_)
  refine z_if_ne F (pc := 5) 10 dX7_parse_5 (by decide) (by omega) (fun c_5 => ?_) (fun c_5 => ?_)
  · skip
    have b_5 := zB_t hp_2 c_5
    refine z_aloadn F (pc := 10) dX7_parse_10 rfl (lv_at hl 0 rfl) ?_
    refine z_get F (pc := 11) (C := RX7) (T := TX7) (N := 10) (ci := 7) inX7 hK hW 0 5 rfl rfl (by decide) rfl (List.mem_of_getElem? (i := 1) rfl) (v := .ref (aL 0)) rfl dX7_parse_11 ?_
    refine z_aloadn F (pc := 14) dX7_parse_14 rfl (lv_at hl 0 rfl) ?_
    refine z_get F (pc := 15) (C := RX7) (T := TX7) (N := 10) (ci := 7) inX7 hK hW 0 4 rfl rfl (by decide) rfl (List.mem_of_getElem? (i := 2) rfl) (v := .ref (aC 0)) rfl dX7_parse_15 ?_
    refine z_iloadn F (pc := 18) dX7_parse_18 rfl (lv_at hl 1 rfl) ?_
    refine z_callVv F (pc := 19) hK hW hA (As := [.ref (aC 0), .int (iI x)]) (rest := []) (ws' := fun (u : (Int → Int) × (Int → Int) × (Int)) => wB cI cZ aB aD aM aA aS aC aL aT di en mg ++ wL cI cZ aL rw u.1 u.2.1 ln u.2.2 ++ wC cI cZ aC cx cr cl ll cn) (wr := (wB cI cZ aB aD aM aA aS aC aL aT di en mg)) (c_X3_findCommands l D cI cZ aL aC rw fn fp cx cr cl ll ln fc cn x _ (by omega) (by exact hc) (by exact hr)) (cwV 2 F.2.2.2.2 gX7_parse_X3_findCommands rfl rfl rfl (by decide +kernel) ⟨Nat.le_of_ble_eq_true rfl, Nat.le_of_ble_eq_true rfl⟩) [2, 3, 4, 5, 6, 7, 8, 9, 10] [0, 1] [0, 1, 2, 3, 4, 5, 6, 7, 8, 9, 10] rfl rfl (by decide) (by decide) (by decide) (fun _ => rfl) (by decide) (q0 := 2) (ci := 3) rfl rfl rfl rfl rfl hl.1 (Nat.le_of_ble_eq_true rfl) dX7_parse_19 ⟨Nat.le_of_ble_eq_true rfl, Nat.le_of_ble_eq_true rfl⟩ (fun u H locs hp_19 hW => ?_)
    obtain ⟨fn2_19, fp2_19, fc2_19⟩ := u
    dsimp only at hp_19 hW
    refine z_aloadn F (pc := 22) dX7_parse_22 rfl (lv_at hl 0 rfl) ?_
    refine z_get F (pc := 23) (C := RX7) (T := TX7) (N := 10) (ci := 7) inX7 hK hW 0 5 rfl rfl (by decide) rfl (List.mem_of_getElem? (i := 1) rfl) (v := .ref (aL 0)) rfl dX7_parse_23 ?_
    refine z_get F (pc := 26) (C := RX3) (T := TX3) (N := 5) (ci := 3) inX3 hK hW 2 4 rfl rfl (by decide) rfl (List.mem_of_getElem? (i := 3) rfl) (v := .int (iI fc2_19)) rfl dX7_parse_26 ?_
    exact hret _ _ _ _ fc2_19 (fn2_19, fp2_19, fc2_19) dX7_parse_29 (by omega) (by (try dsimp only) <;> (exact Or.inr ⟨b_5, hp_19.2.o.elim (fun n9 q => ⟨n9, q.1, q.2.1⟩)⟩)) hW
  · skip
    have b_5 := zB_f hp_2 c_5
    refine z_iconst F (pc := 8) (-1) dX7_parse_8 ?_
    exact hret _ _ _ _ (-1) (fn, fp, fc) dX7_parse_9 (by omega) (by (try dsimp only) <;> (exact Or.inl ⟨b_5, rfl⟩)) hW

set_option maxHeartbeats 4000000 in
set_option maxRecDepth 100000 in
theorem c_X7_found (l : Launch) (D : va_G) (cI cZ : ClassId) (aB aD aM aA aS aC aL aT : Nat → Nat) (di rw fn fp cx cr cl ll : Int → Int) (en mg ln fc cn : Int) (x i w : Int) (sz0 : Nat) (r_x : (-2147483648 ≤ x ∧ x < 2147483648)) (r_i : (-2147483648 ≤ i ∧ i < 2147483648)) (r_w : (-2147483648 ≤ w ∧ w < 2147483648)) (hc : Cok cx cr cl ll cn) (hr : Rok rw ln) : Met l yX7_found wsX7_found ({ frames := 4, cells := 0, slots := 0, locals := 95 } : Room) (zPc D cI cZ [.ref (aB 0), .int (iI x), .int (iI i), .int (iI w)] (wB cI cZ aB aD aM aA aS aC aL aT di en mg ++ wL cI cZ aL rw fn fp ln fc ++ wC cI cZ aC cx cr cl ll cn) sz0) (zQi D cI cZ (wB cI cZ aB aD aM aA aS aC aL aT di en mg ++ wL cI cZ aL rw fn fp ln fc ++ wC cI cZ aC cx cr cl ll cn) sz0 (fun (r : Int) (u : (Int → Int) × (Int → Int) × (Int)) => foundR cx cr cl ll rw cn ln x i w r) (fun (u : (Int → Int) × (Int → Int) × (Int)) => wB cI cZ aB aD aM aA aS aC aL aT di en mg ++ wL cI cZ aL rw u.1 u.2.1 ln u.2.2 ++ wC cI cZ aC cx cr cl ll cn)) 0 0 (va_A (wB cI cZ aB aD aM aA aS aC aL aT di en mg ++ wL cI cZ aL rw fn fp ln fc ++ wC cI cZ aC cx cr cl ll cn) sz0) := by
  have hln := hr.1
  refine z_ofI (maxL := 4) (plainFor_of_name (by decide)) rfl (Nat.le_of_ble_eq_true rfl) (Or.inl rfl) ?_
  intro p e s m below meth c A ls Q F hK hW hA hl hret
  have hl : lv_has ls 4 [(0, .ref (aB 0)), (1, .int (iI x)), (2, .int (iI i)), (3, .int (iI w))] := hl
  have inX3 : ∀ w ∈ u_ws RX3 TX3 5, w ∈ wsX7_found := fun _ h => List.mem_cons_of_mem _ (List.mem_append_left _ (List.mem_append_right _ h))
  have inX7 : ∀ w ∈ u_ws RX7 TX7 10, w ∈ wsX7_found := fun _ h => List.mem_cons_of_mem _ (List.mem_append_left _ (List.mem_append_left _ (List.mem_append_right _ h)))
  refine z_iloadn F (pc := 0) dX7_found_0 rfl (lv_at hl 1 rfl) ?_
  refine z_iconst F (pc := 1) (3) dX7_found_1 ?_
  refine z_callSi F (pc := 2) hK hW hA (As := [.int (iI x), .int (iI 3)]) (rest := []) (c_X7_isWithin l D cI cZ x 3 _ (by omega) (by omega)) (va_cwS 2 F.2.2.2.2 gX7_found_X7_isWithin rfl rfl rfl (by decide +kernel) ⟨Nat.le_of_ble_eq_true rfl, Nat.le_of_ble_eq_true rfl⟩) rfl rfl hl.1 (Nat.le_of_ble_eq_true rfl) dX7_found_2 ⟨Nat.le_of_ble_eq_true rfl, Nat.le_of_ble_eq_true rfl⟩ (fun z_2 H locs r_z_2 hp_2 hW => ?_)
  refine z_if_eq F (pc := 5) 20 dX7_found_5 (by decide) (by omega) (fun c_5 => ?_) (fun c_5 => ?_)
  · skip
    have b_5 := zB_f hp_2 c_5
    refine z_iconst F (pc := 20) (-1) dX7_found_20 ?_
    exact hret _ _ _ _ (-1) (fn, fp, fc) dX7_found_21 (by omega) (by (try dsimp only) <;> (exact Or.inl ⟨by omega, rfl⟩)) hW
  · skip
    have b_5 := zB_t hp_2 c_5
    refine z_iloadn F (pc := 8) dX7_found_8 rfl (lv_at hl 2 rfl) ?_
    refine z_if_lt F (pc := 9) 20 dX7_found_9 (by decide) (by omega) (fun c_9 => ?_) (fun c_9 => ?_)
    · skip
      refine z_iconst F (pc := 20) (-1) dX7_found_20 ?_
      exact hret _ _ _ _ (-1) (fn, fp, fc) dX7_found_21 (by omega) (by (try dsimp only) <;> (exact Or.inl ⟨by omega, rfl⟩)) hW
    · skip
      refine z_iloadn F (pc := 12) dX7_found_12 rfl (lv_at hl 3 rfl) ?_
      refine z_iconst F (pc := 13) (1) dX7_found_13 ?_
      refine z_callSi F (pc := 14) hK hW hA (As := [.int (iI w), .int (iI 1)]) (rest := []) (c_X7_isWithin l D cI cZ w 1 _ (by omega) (by omega)) (va_cwS 2 F.2.2.2.2 gX7_found_X7_isWithin rfl rfl rfl (by decide +kernel) ⟨Nat.le_of_ble_eq_true rfl, Nat.le_of_ble_eq_true rfl⟩) rfl rfl hl.1 (Nat.le_of_ble_eq_true rfl) dX7_found_14 ⟨Nat.le_of_ble_eq_true rfl, Nat.le_of_ble_eq_true rfl⟩ (fun z_14 H locs r_z_14 hp_14 hW => ?_)
      refine z_if_ne F (pc := 17) 22 dX7_found_17 (by decide) (by omega) (fun c_17 => ?_) (fun c_17 => ?_)
      · skip
        have b_17 := zB_t hp_14 c_17
        refine z_aloadn F (pc := 22) dX7_found_22 rfl (lv_at hl 0 rfl) ?_
        refine z_get F (pc := 23) (C := RX7) (T := TX7) (N := 10) (ci := 7) inX7 hK hW 0 5 rfl rfl (by decide) rfl (List.mem_of_getElem? (i := 1) rfl) (v := .ref (aL 0)) rfl dX7_found_23 ?_
        refine z_aloadn F (pc := 26) dX7_found_26 rfl (lv_at hl 0 rfl) ?_
        refine z_get F (pc := 27) (C := RX7) (T := TX7) (N := 10) (ci := 7) inX7 hK hW 0 4 rfl rfl (by decide) rfl (List.mem_of_getElem? (i := 2) rfl) (v := .ref (aC 0)) rfl dX7_found_27 ?_
        refine z_iloadn F (pc := 30) dX7_found_30 rfl (lv_at hl 1 rfl) ?_
        refine z_callVv F (pc := 31) hK hW hA (As := [.ref (aC 0), .int (iI x)]) (rest := []) (ws' := fun (u : (Int → Int) × (Int → Int) × (Int)) => wB cI cZ aB aD aM aA aS aC aL aT di en mg ++ wL cI cZ aL rw u.1 u.2.1 ln u.2.2 ++ wC cI cZ aC cx cr cl ll cn) (wr := (wB cI cZ aB aD aM aA aS aC aL aT di en mg)) (c_X3_findCommands l D cI cZ aL aC rw fn fp cx cr cl ll ln fc cn x _ (by omega) (by exact hc) (by exact hr)) (cwV 2 F.2.2.2.2 gX7_found_X3_findCommands rfl rfl rfl (by decide +kernel) ⟨Nat.le_of_ble_eq_true rfl, Nat.le_of_ble_eq_true rfl⟩) [2, 3, 4, 5, 6, 7, 8, 9, 10] [0, 1] [0, 1, 2, 3, 4, 5, 6, 7, 8, 9, 10] rfl rfl (by decide) (by decide) (by decide) (fun _ => rfl) (by decide) (q0 := 2) (ci := 3) rfl rfl rfl rfl rfl hl.1 (Nat.le_of_ble_eq_true rfl) dX7_found_31 ⟨Nat.le_of_ble_eq_true rfl, Nat.le_of_ble_eq_true rfl⟩ (fun u H locs hp_31 hW => ?_)
        obtain ⟨fn2_31, fp2_31, fc2_31⟩ := u
        dsimp only at hp_31 hW
        obtain ⟨n9, y1, y2, y3⟩ := hp_31.2.o
        refine z_iloadn F (pc := 34) dX7_found_34 rfl (lv_at hl 2 rfl) ?_
        refine z_aloadn F (pc := 35) dX7_found_35 rfl (lv_at hl 0 rfl) ?_
        refine z_get F (pc := 36) (C := RX7) (T := TX7) (N := 10) (ci := 7) inX7 hK hW 0 5 rfl rfl (by decide) rfl (List.mem_of_getElem? (i := 1) rfl) (v := .ref (aL 0)) rfl dX7_found_36 ?_
        refine z_get F (pc := 39) (C := RX3) (T := TX3) (N := 5) (ci := 3) inX3 hK hW 2 4 rfl rfl (by decide) rfl (List.mem_of_getElem? (i := 3) rfl) (v := .int (iI fc2_31)) rfl dX7_found_39 ?_
        refine z_icmp_lt F (pc := 42) 48 dX7_found_42 (by decide) (by omega) (fun c_42 => ?_) (fun c_42 => ?_)
        · skip
          obtain ⟨q9, w1, w2, w3⟩ := pC_hit (n := n9) (show 0 ≤ i by omega) (show i < pC cx cr cl ll rw cn ln x n9 by omega)
          have y4 := y3 q9 w1 w2
          rw [w3] at y4
          refine z_iloadn F (pc := 48) dX7_found_48 rfl (lv_at hl 3 rfl) ?_
          refine z_if_ne F (pc := 49) 64 dX7_found_49 (by decide) (by omega) (fun c_49 => ?_) (fun c_49 => ?_)
          · skip
            refine z_aloadn F (pc := 64) dX7_found_64 rfl (lv_at hl 0 rfl) ?_
            refine z_get F (pc := 65) (C := RX7) (T := TX7) (N := 10) (ci := 7) inX7 hK hW 0 5 rfl rfl (by decide) rfl (List.mem_of_getElem? (i := 1) rfl) (v := .ref (aL 0)) rfl dX7_found_65 ?_
            refine z_get F (pc := 68) (C := RX3) (T := TX3) (N := 5) (ci := 3) inX3 hK hW 2 2 rfl rfl (by decide) rfl (List.mem_of_getElem? (i := 5) rfl) (v := .ref (aL 3)) rfl dX7_found_68 ?_
            refine z_iloadn F (pc := 71) dX7_found_71 rfl (lv_at hl 2 rfl) ?_
            refine z_iald F (pc := 72) hK hW 5 rfl (by decide) dX7_found_72 (by omega) ?_
            exact hret _ _ _ _ (fp2_31 i) (fn2_31, fp2_31, fc2_31) dX7_found_73 (by omega) (by (try dsimp only) <;> (exact Or.inr ⟨by omega, n9, y1, Or.inr ⟨q9, w1, w2, w3, Or.inr ⟨by omega, y4.2.1⟩⟩⟩)) hW
          · skip
            refine z_aloadn F (pc := 52) dX7_found_52 rfl (lv_at hl 0 rfl) ?_
            refine z_get F (pc := 53) (C := RX7) (T := TX7) (N := 10) (ci := 7) inX7 hK hW 0 5 rfl rfl (by decide) rfl (List.mem_of_getElem? (i := 1) rfl) (v := .ref (aL 0)) rfl dX7_found_53 ?_
            refine z_get F (pc := 56) (C := RX3) (T := TX3) (N := 5) (ci := 3) inX3 hK hW 2 1 rfl rfl (by decide) rfl (List.mem_of_getElem? (i := 4) rfl) (v := .ref (aL 2)) rfl dX7_found_56 ?_
            refine z_iloadn F (pc := 59) dX7_found_59 rfl (lv_at hl 2 rfl) ?_
            refine z_iald F (pc := 60) hK hW 4 rfl (by decide) dX7_found_60 (by omega) ?_
            refine z_goto F (pc := 61) 73 dX7_found_61 (by decide) ?_
            exact hret _ _ _ _ (fn2_31 i) (fn2_31, fp2_31, fc2_31) dX7_found_73 (by omega) (by (try dsimp only) <;> (exact Or.inr ⟨by omega, n9, y1, Or.inr ⟨q9, w1, w2, w3, Or.inl ⟨by omega, y4.1⟩⟩⟩)) hW
        · skip
          refine z_bipush F (pc := 45) (-4) (by decide +kernel) dX7_found_45 ?_
          exact hret _ _ _ _ (-4) (fn2_31, fp2_31, fc2_31) dX7_found_47 (by omega) (by (try dsimp only) <;> (exact Or.inr ⟨by omega, n9, y1, Or.inl ⟨by omega, rfl⟩⟩)) hW
      · skip
        have b_17 := zB_f hp_14 c_17
        refine z_iconst F (pc := 20) (-1) dX7_found_20 ?_
        exact hret _ _ _ _ (-1) (fn, fp, fc) dX7_found_21 (by omega) (by (try dsimp only) <;> (exact Or.inl ⟨by omega, rfl⟩)) hW

set_option maxHeartbeats 4000000 in
set_option maxRecDepth 100000 in
theorem c_X7_hidden (l : Launch) (D : va_G) (cI cZ : ClassId) (aB aD aM aA aS aC aL aT : Nat → Nat) (di cx cr cl ll : Int → Int) (en mg cn : Int) (sz0 : Nat) (hc : Cok cx cr cl ll cn) : Met l yX7_hidden wsX7_hidden ({ frames := 3, cells := 0, slots := 0, locals := 67 } : Room) (zPc D cI cZ [.ref (aB 0)] (wB cI cZ aB aD aM aA aS aC aL aT di en mg ++ wC cI cZ aC cx cr cl ll cn) sz0) (zQi D cI cZ (wB cI cZ aB aD aM aA aS aC aL aT di en mg ++ wC cI cZ aC cx cr cl ll cn) sz0 (fun (r : Int) (u : Unit) => hidR cx cr cl ll cn r) (fun (u : Unit) => wB cI cZ aB aD aM aA aS aC aL aT di en mg ++ wC cI cZ aC cx cr cl ll cn)) 0 0 (va_A (wB cI cZ aB aD aM aA aS aC aL aT di en mg ++ wC cI cZ aC cx cr cl ll cn) sz0) := by
  have hcn := hc.1
  refine z_ofI (maxL := 2) (plainFor_of_name (by decide)) rfl (Nat.le_of_ble_eq_true rfl) (Or.inl rfl) ?_
  intro p e s m below meth c A ls Q F hK hW hA hl hret
  have hl : lv_has ls 2 [(0, .ref (aB 0))] := hl
  have inX1 : ∀ w ∈ u_ws RX1 TX1 5, w ∈ wsX7_hidden := fun _ h => List.mem_cons_of_mem _ (List.mem_append_right _ h)
  have inX7 : ∀ w ∈ u_ws RX7 TX7 10, w ∈ wsX7_hidden := fun _ h => List.mem_cons_of_mem _ (List.mem_append_left _ (List.mem_append_right _ h))
  refine z_iconst F (pc := 0) (0) dX7_hidden_0 ?_
  refine z_istoren F (pc := 1) hl (lv' := [(1, .int (iI 0)), (0, .ref (aB 0))]) dX7_hidden_1 rfl (by decide) rfl (fun ls hl => ?_)
  have cut_2 : ∀ (fuel : Nat) (j : Int) (H : Heap) (locs : List Loc) (ls : Array Slot), (cn - j).toNat < fuel → (0 ≤ j ∧ j ≤ cn) → (∀ d, 0 ≤ d → d < j → ¬ hid cx cr cl ll cn d) → lv_has ls 2 [(1, .int (iI j)), (0, .ref (aB 0))] → zW D A s.heap H locs (wB cI cZ aB aD aM aA aS aC aL aT di en mg ++ wC cI cZ aC cx cr cl ll cn) → W p l e ({ frames := 3, cells := 0, slots := 0, locals := 67 } : Room) s m ([.ref (aB 0)] : List Value).toArray below meth c H locs 0 0 Q (F0 m 2 ls []) := by
    intro fuel
    induction fuel with
    | zero => intro j H locs ls hm; exact absurd hm (Nat.not_lt_zero _)
    | succ fuel ih_2 =>
      intro j H locs ls hm_2 g1 g2 hl hW
      refine z_iloadn F (pc := 2) dX7_hidden_2 rfl (lv_at hl 0 rfl) ?_
      refine z_aloadn F (pc := 3) dX7_hidden_3 rfl (lv_at hl 1 rfl) ?_
      refine z_get F (pc := 4) (C := RX7) (T := TX7) (N := 10) (ci := 7) inX7 hK hW 0 4 rfl rfl (by decide) rfl (List.mem_of_getElem? (i := 1) rfl) (v := .ref (aC 0)) rfl dX7_hidden_4 ?_
      refine z_get F (pc := 7) (C := RX1) (T := TX1) (N := 5) (ci := 1) inX1 hK hW 2 4 rfl rfl (by decide) rfl (List.mem_of_getElem? (i := 2) rfl) (v := .int (iI cn)) rfl dX7_hidden_7 ?_
      refine z_icmp_ge F (pc := 10) 32 dX7_hidden_10 (by decide) (by omega) (fun c_10 => ?_) (fun c_10 => ?_)
      · skip
        refine z_bipush F (pc := 32) (-4) (by decide +kernel) dX7_hidden_32 ?_
        exact hret _ _ _ _ (-4) () dX7_hidden_34 (by omega) (by exact Or.inl ⟨rfl, fun d d0 d1 => g2 d d0 (by omega)⟩) hW
      · skip
        refine z_aloadn F (pc := 13) dX7_hidden_13 rfl (lv_at hl 1 rfl) ?_
        refine z_get F (pc := 14) (C := RX7) (T := TX7) (N := 10) (ci := 7) inX7 hK hW 0 4 rfl rfl (by decide) rfl (List.mem_of_getElem? (i := 1) rfl) (v := .ref (aC 0)) rfl dX7_hidden_14 ?_
        refine z_iloadn F (pc := 17) dX7_hidden_17 rfl (lv_at hl 0 rfl) ?_
        refine z_callVi F (pc := 18) hK hW hA (As := [.int (iI j)]) (rest := []) (ws' := fun (u : Unit) => wB cI cZ aB aD aM aA aS aC aL aT di en mg ++ wC cI cZ aC cx cr cl ll cn) (wr := (wB cI cZ aB aD aM aA aS aC aL aT di en mg)) (c_X1_isHidden l D cI cZ aC cx cr cl ll cn j _ (by omega) (by exact hc) (by omega)) (cwV 1 F.2.2.2.2 gX7_hidden_X1_isHidden rfl rfl rfl (by decide +kernel) ⟨Nat.le_of_ble_eq_true rfl, Nat.le_of_ble_eq_true rfl⟩) [2, 3, 4, 5, 6] [0, 1] [0, 1, 2, 3, 4, 5, 6] rfl rfl (by decide) (by decide) (by decide) (fun _ => rfl) (by decide) (q0 := 2) (ci := 1) rfl rfl rfl rfl rfl hl.1 (Nat.le_of_ble_eq_true rfl) dX7_hidden_18 ⟨Nat.le_of_ble_eq_true rfl, Nat.le_of_ble_eq_true rfl⟩ (fun z_18 u H locs r_z_18 hp_18 hW => ?_)
        refine z_if_eq F (pc := 21) 26 dX7_hidden_21 (by decide) (by omega) (fun c_21 => ?_) (fun c_21 => ?_)
        · skip
          have b_21 := zB_f hp_18 c_21
          refine z_iinc F (pc := 26) hl (lv' := [(1, .int (iI (j + 1))), (0, .ref (aB 0))]) dX7_hidden_26 (k := 0) rfl (by decide) rfl (fun ls hl => ?_)
          refine z_goto F (pc := 29) 2 dX7_hidden_29 (by decide) ?_
          exact ih_2 (j + 1) _ _ _ (by omega) (by omega) (by intro d d0 d1; (by_cases q : d = j) <;> first | (rw [q]; exact b_21) | exact g2 d d0 (by omega)) (lv_sub hl [0, 1] rfl) hW
        · skip
          have b_21 := zB_t hp_18 c_21
          refine z_iloadn F (pc := 24) dX7_hidden_24 rfl (lv_at hl 0 rfl) ?_
          exact hret _ _ _ _ j () dX7_hidden_25 (by omega) (by exact Or.inr ⟨⟨g1.1, by omega⟩, b_21, g2⟩) hW
  exact cut_2 _ 0 _ _ _ (Nat.lt_succ_self _) (by omega) (by intro d d0 d1; omega) (lv_sub hl [0, 1] rfl) hW

set_option maxHeartbeats 4000000 in
set_option maxRecDepth 100000 in
theorem c_X7_line (l : Launch) (D : va_G) (cI cZ : ClassId) (aB aD aM aA aS aC aL aT : Nat → Nat) (di rw fn fp : Int → Int) (en mg ln fc : Int) (i : Int) (sz0 : Nat) (r_i : (-2147483648 ≤ i ∧ i < 2147483648)) (hr : Rok rw ln) : Met l yX7_line wsX7_line ({ frames := 0, cells := 0, slots := 0, locals := 0 } : Room) (zPc D cI cZ [.ref (aB 0), .int (iI i)] (wB cI cZ aB aD aM aA aS aC aL aT di en mg ++ wL cI cZ aL rw fn fp ln fc) sz0) (zQi D cI cZ (wB cI cZ aB aD aM aA aS aC aL aT di en mg ++ wL cI cZ aL rw fn fp ln fc) sz0 (fun (r : Int) (u : Unit) => lineR rw ln i r) (fun (u : Unit) => wB cI cZ aB aD aM aA aS aC aL aT di en mg ++ wL cI cZ aL rw fn fp ln fc)) 0 0 (va_A (wB cI cZ aB aD aM aA aS aC aL aT di en mg ++ wL cI cZ aL rw fn fp ln fc) sz0) := by
  have hln := hr.1
  refine z_ofI (maxL := 2) (plainFor_of_name (by decide)) rfl (Nat.le_of_ble_eq_true rfl) (Or.inl rfl) ?_
  intro p e s m below meth c A ls Q F hK hW hA hl hret
  have hl : lv_has ls 2 [(0, .ref (aB 0)), (1, .int (iI i))] := hl
  have inX3 : ∀ w ∈ u_ws RX3 TX3 5, w ∈ wsX7_line := fun _ h => List.mem_cons_of_mem _ (List.mem_append_right _ h)
  have inX7 : ∀ w ∈ u_ws RX7 TX7 10, w ∈ wsX7_line := fun _ h => List.mem_cons_of_mem _ (List.mem_append_left _ (List.mem_append_right _ h))
  refine z_iloadn F (pc := 0) dX7_line_0 rfl (lv_at hl 1 rfl) ?_
  refine z_if_lt F (pc := 1) 15 dX7_line_1 (by decide) (by omega) (fun c_1 => ?_) (fun c_1 => ?_)
  · skip
    refine z_iconst F (pc := 15) (-1) dX7_line_15 ?_
    exact hret _ _ _ _ (-1) () dX7_line_16 (by omega) (by first | exact Or.inl ⟨by omega, rfl⟩ | exact Or.inr ⟨by omega, rfl⟩) hW
  · skip
    refine z_iloadn F (pc := 4) dX7_line_4 rfl (lv_at hl 1 rfl) ?_
    refine z_aloadn F (pc := 5) dX7_line_5 rfl (lv_at hl 0 rfl) ?_
    refine z_get F (pc := 6) (C := RX7) (T := TX7) (N := 10) (ci := 7) inX7 hK hW 0 5 rfl rfl (by decide) rfl (List.mem_of_getElem? (i := 1) rfl) (v := .ref (aL 0)) rfl dX7_line_6 ?_
    refine z_get F (pc := 9) (C := RX3) (T := TX3) (N := 5) (ci := 3) inX3 hK hW 2 3 rfl rfl (by decide) rfl (List.mem_of_getElem? (i := 2) rfl) (v := .int (iI ln)) rfl dX7_line_9 ?_
    refine z_icmp_lt F (pc := 12) 17 dX7_line_12 (by decide) (by omega) (fun c_12 => ?_) (fun c_12 => ?_)
    · skip
      refine z_aloadn F (pc := 17) dX7_line_17 rfl (lv_at hl 0 rfl) ?_
      refine z_get F (pc := 18) (C := RX7) (T := TX7) (N := 10) (ci := 7) inX7 hK hW 0 5 rfl rfl (by decide) rfl (List.mem_of_getElem? (i := 1) rfl) (v := .ref (aL 0)) rfl dX7_line_18 ?_
      have hvr := Rok_at hr (j := i) (by omega) (by omega)
      refine z_get F (pc := 21) (C := RX3) (T := TX3) (N := 5) (ci := 3) inX3 hK hW 2 0 rfl rfl (by decide) rfl (List.mem_of_getElem? (i := 3) rfl) (v := .ref (aL 1)) rfl dX7_line_21 ?_
      refine z_iloadn F (pc := 24) dX7_line_24 rfl (lv_at hl 1 rfl) ?_
      refine z_iald F (pc := 25) hK hW 3 rfl (by decide) dX7_line_25 (by omega) ?_
      exact hret _ _ _ _ (rw i) () dX7_line_26 (by omega) (by first | exact Or.inl ⟨by omega, rfl⟩ | exact Or.inr ⟨by omega, rfl⟩) hW
    · skip
      refine z_iconst F (pc := 15) (-1) dX7_line_15 ?_
      exact hret _ _ _ _ (-1) () dX7_line_16 (by omega) (by first | exact Or.inl ⟨by omega, rfl⟩ | exact Or.inr ⟨by omega, rfl⟩) hW

set_option maxHeartbeats 4000000 in
set_option maxRecDepth 100000 in
theorem c_X7_wipe (l : Launch) (D : va_G) (cI cZ : ClassId) (aB aD aM aA aS aC aL aT : Nat → Nat) (di rw fn fp : Int → Int) (en mg ln fc : Int) (sz0 : Nat) (hln : 0 ≤ ln ∧ ln ≤ 40) : Met l yX7_wipe wsX7_wipe ({ frames := 1, cells := 0, slots := 0, locals := 21 } : Room) (zPc D cI cZ [.ref (aB 0)] (wB cI cZ aB aD aM aA aS aC aL aT di en mg ++ wL cI cZ aL rw fn fp ln fc) sz0) (zQi D cI cZ (wB cI cZ aB aD aM aA aS aC aL aT di en mg ++ wL cI cZ aL rw fn fp ln fc) sz0 (fun (r : Int) (u : (Int)) => (r = ln) ∧ (u = 0)) (fun (u : (Int)) => wB cI cZ aB aD aM aA aS aC aL aT di en mg ++ wL cI cZ aL rw fn fp u fc)) 0 0 (va_A (wB cI cZ aB aD aM aA aS aC aL aT di en mg ++ wL cI cZ aL rw fn fp ln fc) sz0) := by
  refine z_ofI (maxL := 1) (plainFor_of_name (by decide)) rfl (Nat.le_of_ble_eq_true rfl) (Or.inl rfl) ?_
  intro p e s m below meth c A ls Q F hK hW hA hl hret
  have hl : lv_has ls 1 [(0, .ref (aB 0))] := hl
  have inX7 : ∀ w ∈ u_ws RX7 TX7 10, w ∈ wsX7_wipe := fun _ h => List.mem_cons_of_mem _ (List.mem_append_left _ (List.mem_append_right _ h))
  refine z_aloadn F (pc := 0) dX7_wipe_0 rfl (lv_at hl 0 rfl) ?_
  refine z_get F (pc := 1) (C := RX7) (T := TX7) (N := 10) (ci := 7) inX7 hK hW 0 5 rfl rfl (by decide) rfl (List.mem_of_getElem? (i := 1) rfl) (v := .ref (aL 0)) rfl dX7_wipe_1 ?_
  refine z_callVi F (pc := 4) hK hW hA (As := []) (rest := []) (ws' := fun (u : (Int)) => wB cI cZ aB aD aM aA aS aC aL aT di en mg ++ wL cI cZ aL rw fn fp u fc) (wr := (wB cI cZ aB aD aM aA aS aC aL aT di en mg)) (c_X3_empty l D cI cZ aL rw fn fp ln fc _ (by omega)) (cwV 0 F.2.2.2.2 gX7_wipe_X3_empty rfl rfl rfl (by decide +kernel) ⟨Nat.le_of_ble_eq_true rfl, Nat.le_of_ble_eq_true rfl⟩) [2, 3, 4, 5] [0, 1] [0, 1, 2, 3, 4, 5] rfl rfl (by decide) (by decide) (by decide) (fun _ => rfl) (by decide) (q0 := 2) (ci := 3) rfl rfl rfl rfl rfl hl.1 (Nat.le_of_ble_eq_true rfl) dX7_wipe_4 ⟨Nat.le_of_ble_eq_true rfl, Nat.le_of_ble_eq_true rfl⟩ (fun z_4 u H locs r_z_4 hp_4 hW => ?_)
  obtain ⟨ln2_4, rfl⟩ : ∃ v, v = u := ⟨_, rfl⟩
  obtain ⟨e_z_4, hp_4⟩ := hp_4
  replace e_z_4 := e_z_4.symm
  subst e_z_4
  exact hret _ _ _ _ ln ln2_4 dX7_wipe_7 (by omega) (by exact ⟨rfl, hp_4⟩) hW
