set_option maxHeartbeats 4000000 in
set_option maxRecDepth 100000 in
theorem c_X2_makeNormal (l : Launch) (D : va_G) (cI cZ : ClassId) (aD : Nat → Nat) (xs ys lf ev nm : Int → Int) (sz : Int) (sz0 : Nat) (hd : Dok xs ys lf sz) : Met l yX2_makeNormal wsX2_makeNormal ({ frames := 4, cells := 0, slots := 0, locals := 92 } : Room) (zPc D cI cZ [.ref (aD 0)] (wD cI cZ aD xs ys lf ev nm sz) sz0) (zQi D cI cZ (wD cI cZ aD xs ys lf ev nm sz) sz0 (fun (r : Int) (u : (Int → Int) × (Int → Int)) => (zB r (¬ wy xs ys lf sz = 0)) ∧ (¬ wy xs ys lf sz = 0 → NmOf xs ys lf sz u.2)) (fun (u : (Int → Int) × (Int → Int)) => wD cI cZ aD xs ys lf u.1 u.2 sz)) 0 0 (va_A (wD cI cZ aD xs ys lf ev nm sz) sz0) := by
  refine z_ofI (maxL := 3) (plainFor_of_name (by decide)) rfl (Nat.le_of_ble_eq_true rfl) (Or.inr ⟨rfl, fun z u h => zB_01 h.1⟩) ?_
  intro p e s m below meth c A ls Q F hK hW hA hl hret
  have hl : lv_has ls 3 [(0, .ref (aD 0))] := hl
  have inX2 : ∀ w ∈ u_ws RX2 TX2 6, w ∈ wsX2_makeNormal := fun _ h => List.mem_cons_of_mem _ (List.mem_append_right _ h)
  refine z_aloadn F (pc := 0) dX2_makeNormal_0 rfl (lv_at hl 0 rfl) ?_
  refine z_callVi F (pc := 1) hK hW hA (As := []) (rest := []) (ws' := fun (u : (Int → Int)) => wD cI cZ aD xs ys lf u nm sz) (wr := ([])) (c_X2_makeEven l D cI cZ aD xs ys lf ev nm sz _ (by exact hd)) (cwV 0 F.2.2.2.2 gX2_makeNormal_X2_makeEven rfl rfl rfl (by decide +kernel) ⟨Nat.le_of_ble_eq_true rfl, Nat.le_of_ble_eq_true rfl⟩) [0, 1, 2, 3, 4, 5] [] [0, 1, 2, 3, 4, 5] rfl rfl (by decide) (by decide) (by decide) (fun _ => rfl) (by decide) (q0 := 0) (ci := 2) rfl rfl rfl rfl rfl hl.1 (Nat.le_of_ble_eq_true rfl) dX2_makeNormal_1 ⟨Nat.le_of_ble_eq_true rfl, Nat.le_of_ble_eq_true rfl⟩ (fun z_1 u H locs r_z_1 hp_1 hW => ?_)
  obtain ⟨ev2_1, rfl⟩ : ∃ v, v = u := ⟨_, rfl⟩
  obtain ⟨hb_1, hp_1⟩ := hp_1
  refine z_if_ne F (pc := 4) 9 dX2_makeNormal_4 (by decide) (by omega) (fun c_4 => ?_) (fun c_4 => ?_)
  · skip
    have b_4 := zB_t hb_1 c_4
    have hE := hp_1 b_4
    have hEb := Ev_b hd hE
    refine z_aloadn F (pc := 9) dX2_makeNormal_9 rfl (lv_at hl 0 rfl) ?_
    refine z_iconst F (pc := 10) (0) dX2_makeNormal_10 ?_
    refine z_callVv F (pc := 11) hK hW hA (As := [.int (iI 0)]) (rest := []) (ws' := fun (u : (Int → Int) × (Int) × (Int)) => wD cI cZ aD xs ys lf ev2_1 u.1 sz) (wr := ([])) (c_X2_takeMiddleOff l D cI cZ aD xs ys lf ev2_1 nm sz 0 _ (by omega) (by omega) (by exact hEb)) (cwV 1 F.2.2.2.2 gX2_makeNormal_X2_takeMiddleOff rfl rfl rfl (by decide +kernel) ⟨Nat.le_of_ble_eq_true rfl, Nat.le_of_ble_eq_true rfl⟩) [0, 1, 2, 3, 4, 5] [] [0, 1, 2, 3, 4, 5] rfl rfl (by decide) (by decide) (by decide) (fun _ => rfl) (by decide) (q0 := 0) (ci := 2) rfl rfl rfl rfl rfl hl.1 (Nat.le_of_ble_eq_true rfl) dX2_makeNormal_11 ⟨Nat.le_of_ble_eq_true rfl, Nat.le_of_ble_eq_true rfl⟩ (fun u H locs hp_11 hW => ?_)
    obtain ⟨nm2_11, lo2_11, hi2_11⟩ := u
    dsimp only at hp_11 hW
    refine z_aloadn F (pc := 14) dX2_makeNormal_14 rfl (lv_at hl 0 rfl) ?_
    refine z_iconst F (pc := 15) (1) dX2_makeNormal_15 ?_
    refine z_callVv F (pc := 16) hK hW hA (As := [.int (iI 1)]) (rest := []) (ws' := fun (u : (Int → Int) × (Int) × (Int)) => wD cI cZ aD xs ys lf ev2_1 u.1 sz) (wr := ([])) (c_X2_takeMiddleOff l D cI cZ aD xs ys lf ev2_1 nm2_11 sz 1 _ (by omega) (by omega) (by exact hEb)) (cwV 1 F.2.2.2.2 gX2_makeNormal_X2_takeMiddleOff rfl rfl rfl (by decide +kernel) ⟨Nat.le_of_ble_eq_true rfl, Nat.le_of_ble_eq_true rfl⟩) [0, 1, 2, 3, 4, 5] [] [0, 1, 2, 3, 4, 5] rfl rfl (by decide) (by decide) (by decide) (fun _ => rfl) (by decide) (q0 := 0) (ci := 2) rfl rfl rfl rfl rfl hl.1 (Nat.le_of_ble_eq_true rfl) dX2_makeNormal_16 ⟨Nat.le_of_ble_eq_true rfl, Nat.le_of_ble_eq_true rfl⟩ (fun u H locs hp_16 hW => ?_)
    obtain ⟨nm2_16, lo2_16, hi2_16⟩ := u
    dsimp only at hp_16 hW
    have hmo : ∀ j, 0 ≤ j → j < 16 → nm2_16 j = mO ev2_1 lo2_11 hi2_11 lo2_16 hi2_16 j := by
      intro j j0 j1
      rw [hp_16.2.2.2 j j0 j1]
      unfold mO
      by_cases q : j % 2 = 0
      · rw [if_neg (by omega), if_pos q, hp_11.2.2.2 j j0 j1, if_pos (by omega)]
      · rw [if_pos (by omega), if_neg q]
    have hmb : ∀ j, 0 ≤ j → j < 16 → -20000 ≤ mO ev2_1 lo2_11 hi2_11 lo2_16 hi2_16 j ∧ mO ev2_1 lo2_11 hi2_11 lo2_16 hi2_16 j ≤ 20000 := by
      intro j j0 j1
      have a := hEb j j0 j1
      have b := hp_11.2.2.1
      have c := hp_16.2.2.1
      unfold mO
      split <;> omega
    have hnb : ∀ j, 0 ≤ j → j < 16 → -20000 ≤ nm2_16 j ∧ nm2_16 j ≤ 20000 := by
      intro j j0 j1
      rw [hmo j j0 j1]; exact hmb j j0 j1
    refine z_aloadn F (pc := 19) dX2_makeNormal_19 rfl (lv_at hl 0 rfl) ?_
    refine z_callVi F (pc := 20) hK hW hA (As := []) (rest := []) (ws' := fun (u : Unit) => wD cI cZ aD xs ys lf ev2_1 nm2_16 sz) (wr := ([])) (c_X2_greatestSize l D cI cZ aD xs ys lf ev2_1 nm2_16 sz _ (by exact hnb)) (cwV 0 F.2.2.2.2 gX2_makeNormal_X2_greatestSize rfl rfl rfl (by decide +kernel) ⟨Nat.le_of_ble_eq_true rfl, Nat.le_of_ble_eq_true rfl⟩) [0, 1, 2, 3, 4, 5] [] [0, 1, 2, 3, 4, 5] rfl rfl (by decide) (by decide) (by decide) (fun _ => rfl) (by decide) (q0 := 0) (ci := 2) rfl rfl rfl rfl rfl hl.1 (Nat.le_of_ble_eq_true rfl) dX2_makeNormal_20 ⟨Nat.le_of_ble_eq_true rfl, Nat.le_of_ble_eq_true rfl⟩ (fun z_20 u H locs r_z_20 hp_20 hW => ?_)
    have hz0 := isMx_0 hp_20.1
    have hmx : isMx (mO ev2_1 lo2_11 hi2_11 lo2_16 hi2_16) z_20 := by
      refine ⟨fun j j0 j1 => by rw [← hmo j j0 j1]; exact hp_20.1.1 j j0 j1, ?_⟩
      rcases hp_20.1.2 with q | ⟨j, hj, q⟩
      · exact Or.inl q
      · exact Or.inr ⟨j, hj, by rw [← hmo j hj.1 hj.2]; exact q⟩
    refine z_istoren F (pc := 23) hl (lv' := [(1, .int (iI z_20)), (0, .ref (aD 0))]) dX2_makeNormal_23 rfl (by decide) rfl (fun ls hl => ?_)
    refine z_iconst F (pc := 24) (0) dX2_makeNormal_24 ?_
    refine z_istoren F (pc := 25) hl (lv' := [(2, .int (iI 0)), (1, .int (iI z_20)), (0, .ref (aD 0))]) dX2_makeNormal_25 rfl (by decide) rfl (fun ls hl => ?_)
    have cut_26 : ∀ (fuel : Nat) (n : Int) (b1 : Int → Int) (H : Heap) (locs : List Loc) (ls : Array Slot), (16 - n).toNat < fuel → (0 ≤ n ∧ n ≤ 16) → (∀ j, 0 ≤ j → j < 16 → b1 j = if j < n then (if z_20 = 0 then 0 else 1000 * mO ev2_1 lo2_11 hi2_11 lo2_16 hi2_16 j / z_20) else mO ev2_1 lo2_11 hi2_11 lo2_16 hi2_16 j) → lv_has ls 3 [(2, .int (iI n)), (1, .int (iI z_20)), (0, .ref (aD 0))] → zW D A s.heap H locs (wD cI cZ aD xs ys lf ev2_1 b1 sz) → W p l e ({ frames := 4, cells := 0, slots := 0, locals := 92 } : Room) s m ([.ref (aD 0)] : List Value).toArray below meth c H locs 0 0 Q (F0 m 26 ls []) := by
      intro fuel
      induction fuel with
      | zero => intro n b1 H locs ls hm; exact absurd hm (Nat.not_lt_zero _)
      | succ fuel ih_26 =>
        intro n b1 H locs ls hm_26 g1 g2 hl hW
        refine z_iloadn F (pc := 26) dX2_makeNormal_26 rfl (lv_at hl 0 rfl) ?_
        refine z_bipush F (pc := 27) (16) (by decide +kernel) dX2_makeNormal_27 ?_
        refine z_icmp_ge F (pc := 29) 66 dX2_makeNormal_29 (by decide) (by omega) (fun c_29 => ?_) (fun c_29 => ?_)
        · skip
          refine z_iconst F (pc := 66) (1) dX2_makeNormal_66 ?_
          exact hret _ _ _ _ 1 (ev2_1, b1) dX2_makeNormal_67 (by omega) (by (try dsimp only) <;> (exact ⟨zB_1 b_4, fun _ => ⟨ev2_1, hE, lo2_11, hi2_11, lo2_16, hi2_16, z_20, hp_11.1, hp_11.2.1, hp_16.1, hp_16.2.1, hmx, fun j j0 j1 => by rw [g2 j j0 j1, if_pos (by omega)]⟩⟩)) hW
        · skip
          have hbn : b1 n = mO ev2_1 lo2_11 hi2_11 lo2_16 hi2_16 n := by rw [g2 n (by omega) (by omega), if_neg (by omega)]
          have hmn := hmb n (by omega) (by omega)
          refine z_aloadn F (pc := 32) dX2_makeNormal_32 rfl (lv_at hl 2 rfl) ?_
          refine z_get F (pc := 33) (C := RX2) (T := TX2) (N := 6) (ci := 2) inX2 hK hW 0 4 rfl rfl (by decide) rfl (List.mem_of_getElem? (i := 1) rfl) (v := .ref (aD 5)) rfl dX2_makeNormal_33 ?_
          refine z_iloadn F (pc := 36) dX2_makeNormal_36 rfl (lv_at hl 0 rfl) ?_
          refine z_iloadn F (pc := 37) dX2_makeNormal_37 rfl (lv_at hl 1 rfl) ?_
          refine z_if_ne F (pc := 38) 45 dX2_makeNormal_38 (by decide) (by omega) (fun c_38 => ?_) (fun c_38 => ?_)
          · skip
            have hq := nq_b (hmx.1 n (by omega) (by omega)) c_38
            refine z_sipush F (pc := 45) (1000) (by decide +kernel) dX2_makeNormal_45 ?_
            refine z_aloadn F (pc := 48) dX2_makeNormal_48 rfl (lv_at hl 2 rfl) ?_
            refine z_get F (pc := 49) (C := RX2) (T := TX2) (N := 6) (ci := 2) inX2 hK hW 0 4 rfl rfl (by decide) rfl (List.mem_of_getElem? (i := 1) rfl) (v := .ref (aD 5)) rfl dX2_makeNormal_49 ?_
            refine z_iloadn F (pc := 52) dX2_makeNormal_52 rfl (lv_at hl 0 rfl) ?_
            refine z_iald F (pc := 53) hK hW 5 rfl (by decide) dX2_makeNormal_53 (by omega) ?_
            refine z_imul F (pc := 54) dX2_makeNormal_54 ?_
            refine z_iloadn F (pc := 55) dX2_makeNormal_55 rfl (lv_at hl 1 rfl) ?_
            refine z_callSi F (pc := 56) hK hW hA (As := [.int (iI (1000 * (b1 n))), .int (iI z_20)]) (rest := [.int (iI n), .ref (aD 5)]) (c_J9_floorDiv_7cf53 l D cI cZ (1000 * (b1 n)) z_20 _ (by omega) (by omega) (by omega) (by omega)) (va_cwS 2 F.2.2.2.2 gX2_makeNormal_J9_floorDiv_7cf53 rfl rfl rfl (by decide +kernel) ⟨Nat.le_of_ble_eq_true rfl, Nat.le_of_ble_eq_true rfl⟩) rfl rfl hl.1 (Nat.le_of_ble_eq_true rfl) dX2_makeNormal_56 ⟨Nat.le_of_ble_eq_true rfl, Nat.le_of_ble_eq_true rfl⟩ (fun z_56 H locs r_z_56 hp_56 hW => ?_)
            replace hp_56 := hp_56.symm
            subst hp_56
            refine z_eqi (y := 1000 * mO ev2_1 lo2_11 hi2_11 lo2_16 hi2_16 n / z_20) (by rw [hbn]) ?_
            refine z_iast F (pc := 59) hK hW (ws' := wD cI cZ aD xs ys lf ev2_1 (zU b1 n (1000 * mO ev2_1 lo2_11 hi2_11 lo2_16 hi2_16 n / z_20)) sz) 5 rfl (by decide) dX2_makeNormal_59 (by omega) rfl (fun H locs hW => ?_)
            have hs3 : ∀ j, 0 ≤ j → j < 16 → zU b1 n (if z_20 = 0 then 0 else 1000 * mO ev2_1 lo2_11 hi2_11 lo2_16 hi2_16 n / z_20) j = if j < n + 1 then (if z_20 = 0 then 0 else 1000 * mO ev2_1 lo2_11 hi2_11 lo2_16 hi2_16 j / z_20) else mO ev2_1 lo2_11 hi2_11 lo2_16 hi2_16 j := by
              intro j j0 j1
              by_cases e : j = n
              · subst e; rw [zU_s, if_pos (show j < j + 1 by omega)]
              · rw [zU_n _ _ e, g2 j j0 j1]
                by_cases q : j < n
                · rw [if_pos q, if_pos (show j < n + 1 by omega)]
                · rw [if_neg q, if_neg (show ¬ j < n + 1 by omega)]
            try rw [if_pos (by omega)] at hs3
            try rw [if_neg c_38] at hs3
            refine z_iinc F (pc := 60) hl (lv' := [(2, .int (iI (n + 1))), (1, .int (iI z_20)), (0, .ref (aD 0))]) dX2_makeNormal_60 (k := 0) rfl (by decide) rfl (fun ls hl => ?_)
            refine z_goto F (pc := 63) 26 dX2_makeNormal_63 (by decide) ?_
            exact ih_26 (n + 1) (zU b1 n (1000 * mO ev2_1 lo2_11 hi2_11 lo2_16 hi2_16 n / z_20)) _ _ _ (by omega) (by omega) (by exact hs3) (lv_sub hl [0, 1, 2] rfl) hW
          · skip
            refine z_iconst F (pc := 41) (0) dX2_makeNormal_41 ?_
            refine z_goto F (pc := 42) 59 dX2_makeNormal_42 (by decide) ?_
            refine z_iast F (pc := 59) hK hW (ws' := wD cI cZ aD xs ys lf ev2_1 (zU b1 n 0) sz) 5 rfl (by decide) dX2_makeNormal_59 (by omega) rfl (fun H locs hW => ?_)
            have hs3 : ∀ j, 0 ≤ j → j < 16 → zU b1 n (if z_20 = 0 then 0 else 1000 * mO ev2_1 lo2_11 hi2_11 lo2_16 hi2_16 n / z_20) j = if j < n + 1 then (if z_20 = 0 then 0 else 1000 * mO ev2_1 lo2_11 hi2_11 lo2_16 hi2_16 j / z_20) else mO ev2_1 lo2_11 hi2_11 lo2_16 hi2_16 j := by
              intro j j0 j1
              by_cases e : j = n
              · subst e; rw [zU_s, if_pos (show j < j + 1 by omega)]
              · rw [zU_n _ _ e, g2 j j0 j1]
                by_cases q : j < n
                · rw [if_pos q, if_pos (show j < n + 1 by omega)]
                · rw [if_neg q, if_neg (show ¬ j < n + 1 by omega)]
            try rw [if_pos (by omega)] at hs3
            try rw [if_neg c_38] at hs3
            refine z_iinc F (pc := 60) hl (lv' := [(2, .int (iI (n + 1))), (1, .int (iI z_20)), (0, .ref (aD 0))]) dX2_makeNormal_60 (k := 0) rfl (by decide) rfl (fun ls hl => ?_)
            refine z_goto F (pc := 63) 26 dX2_makeNormal_63 (by decide) ?_
            exact ih_26 (n + 1) (zU b1 n 0) _ _ _ (by omega) (by omega) (by exact hs3) (lv_sub hl [0, 1, 2] rfl) hW
    exact cut_26 _ 0 nm2_16 _ _ _ (Nat.lt_succ_self _) (by omega) (by intro j j0 j1; rw [if_neg (by omega)]; exact hmo j j0 j1) (lv_sub hl [0, 1, 2] rfl) hW
  · skip
    have b_4 := zB_f hb_1 c_4
    refine z_iconst F (pc := 7) (0) dX2_makeNormal_7 ?_
    exact hret _ _ _ _ 0 (ev2_1, nm) dX2_makeNormal_8 (by omega) (by (try dsimp only) <;> (exact ⟨zB_0 b_4, fun h => absurd h b_4⟩)) hW
