set_option maxHeartbeats 4000000 in
set_option maxRecDepth 100000 in
theorem c_X8_distanceOf (l : Launch) (D : va_G) (cI cZ : ClassId) (aR : Nat → Nat) (xs ys lf ev nm lb kd pt so nu al ak ap he le rw cx cr cl ll tl ts tc : Int → Int) (sz mn ac en mg ln cn wc wp : Int) (k : Int) (sz0 : Nat) (r_k : (-2147483648 ≤ k ∧ k < 2147483648)) (hh : inH he) (hp : inP pt (16 * k)) (hk : 0 ≤ k ∧ k < 17) (hq : 0 ≤ kd k ∧ kd k ≤ 4) : Met l yX8_distanceOf wsX8_distanceOf ({ frames := 3, cells := 0, slots := 0, locals := 69 } : Room) (zPc D cI cZ [.ref (aR 0), .int (iI k)] (wR cI cZ aR xs ys lf ev nm lb kd pt so nu al ak ap he le rw cx cr cl ll tl ts tc sz mn ac en mg ln cn wc wp) sz0) (zQi D cI cZ (wR cI cZ aR xs ys lf ev nm lb kd pt so nu al ak ap he le rw cx cr cl ll tl ts tc sz mn ac en mg ln cn wc wp) sz0 (fun (r : Int) (u : (Int → Int) × (Int → Int)) => (r = dF he pt (16 * k) (kd k)) ∧ (u.1 = he)) (fun (u : (Int → Int) × (Int → Int)) => wR cI cZ aR xs ys lf ev nm lb kd pt so nu al ak ap u.1 u.2 rw cx cr cl ll tl ts tc sz mn ac en mg ln cn wc wp)) 0 0 (va_A (wR cI cZ aR xs ys lf ev nm lb kd pt so nu al ak ap he le rw cx cr cl ll tl ts tc sz mn ac en mg ln cn wc wp) sz0) := by
  have hdi := dI_b (q := kd k) hh hp
  refine z_ofI (maxL := 6) (plainFor_of_name (by decide)) rfl (Nat.le_of_ble_eq_true rfl) (Or.inl rfl) ?_
  intro p e s m below meth c A ls Q F hK hW hA hl hret
  have hl : lv_has ls 6 [(0, .ref (aR 0)), (1, .int (iI k))] := hl
  have inX8 : ∀ w ∈ u_ws RX8 TX8 32, w ∈ wsX8_distanceOf := fun _ h => List.mem_cons_of_mem _ (List.mem_append_right _ h)
  refine z_aloadn F (pc := 0) dX8_distanceOf_0 rfl (lv_at hl 0 rfl) ?_
  refine z_get F (pc := 1) (C := RX8) (T := TX8) (N := 32) (ci := 8) inX8 hK hW 0 8 rfl rfl (by decide) rfl (List.mem_of_getElem? (i := 1) rfl) (v := .ref (aR 7)) rfl dX8_distanceOf_1 ?_
  refine z_iloadn F (pc := 4) dX8_distanceOf_4 rfl (lv_at hl 1 rfl) ?_
  refine z_iald F (pc := 5) hK hW 7 rfl (by decide) dX8_distanceOf_5 (by omega) ?_
  refine z_istoren F (pc := 6) hl (lv' := [(2, .int (iI (kd k))), (0, .ref (aR 0)), (1, .int (iI k))]) dX8_distanceOf_6 rfl (by decide) rfl (fun ls hl => ?_)
  refine z_iloadn F (pc := 7) dX8_distanceOf_7 rfl (lv_at hl 0 rfl) ?_
  have cut_26 : ∀ (ms0 : Int) (le0 : Int → Int) (H : Heap) (locs : List Loc) (ls : Array Slot), ((0 ≤ ms0 ∧ ms0 ≤ 32000) ∧ ms0 = if kd k = 3 ∨ kd k = 4 then cL he pt (16 * k) else sT he pt (16 * k)) → lv_has ls 6 [(2, .int (iI (kd k))), (0, .ref (aR 0)), (1, .int (iI k))] → zW D A s.heap H locs (wR cI cZ aR xs ys lf ev nm lb kd pt so nu al ak ap he le0 rw cx cr cl ll tl ts tc sz mn ac en mg ln cn wc wp) → W p l e ({ frames := 3, cells := 0, slots := 0, locals := 69 } : Room) s m ([.ref (aR 0), .int (iI k)] : List Value).toArray below meth c H locs 0 0 Q (F0 m 26 ls [.int (iI ms0)]) := by
    intro ms0 le0 H locs ls h26 hl hW
    refine z_istoren F (pc := 26) hl (lv' := [(3, .int (iI ms0)), (2, .int (iI (kd k))), (0, .ref (aR 0)), (1, .int (iI k))]) dX8_distanceOf_26 rfl (by decide) rfl (fun ls hl => ?_)
    refine z_iloadn F (pc := 27) dX8_distanceOf_27 rfl (lv_at hl 1 rfl) ?_
    refine z_iconst F (pc := 28) (2) dX8_distanceOf_28 ?_
    refine z_icmp_ne F (pc := 29) 53 dX8_distanceOf_29 (by decide) (by omega) (fun c_29 => ?_) (fun c_29 => ?_)
    · skip
      have hini : ms0 = dI he pt (16 * k) (kd k) (1 - 1) := by
        rw [h26.2]; show _ = dU he pt (16 * k) (kd k)
        unfold dU
        by_cases q : kd k = 3 ∨ kd k = 4
        · rw [if_pos q, if_pos q]
        · rw [if_neg q, if_neg q, if_neg c_29]
      refine z_iconst F (pc := 53) (1) dX8_distanceOf_53 ?_
      refine z_istore F (pc := 54) hl (lv' := [(4, .int (iI 1)), (3, .int (iI ms0)), (2, .int (iI (kd k))), (0, .ref (aR 0)), (1, .int (iI k))]) dX8_distanceOf_54 (by decide) rfl (fun ls hl => ?_)
      have cut_56 : ∀ (fuel : Nat) (ms : Int) (t : Int) (h1 : Int → Int) (le1 : Int → Int) (H : Heap) (locs : List Loc) (ls : Array Slot), (4 - t).toNat < fuel → ((1 ≤ t ∧ t ≤ 4) ∧ (kd k = 1 ∨ kd k = 4 ∨ t = 1)) → (h1 = tnI he (t - 1)) → (ms = dI he pt (16 * k) (kd k) (t - 1)) → lv_has ls 6 [(4, .int (iI t)), (3, .int (iI ms)), (2, .int (iI (kd k))), (0, .ref (aR 0)), (1, .int (iI k))] → zW D A s.heap H locs (wR cI cZ aR xs ys lf ev nm lb kd pt so nu al ak ap h1 le1 rw cx cr cl ll tl ts tc sz mn ac en mg ln cn wc wp) → W p l e ({ frames := 3, cells := 0, slots := 0, locals := 69 } : Room) s m ([.ref (aR 0), .int (iI k)] : List Value).toArray below meth c H locs 0 0 Q (F0 m 56 ls []) := by
        intro fuel
        induction fuel with
        | zero => intro ms t h1 le1 H locs ls hm; exact absurd hm (Nat.not_lt_zero _)
        | succ fuel ih_56 =>
          intro ms t h1 le1 H locs ls hm_56 g1 g2 g3 hl hW
          have hin : inH h1 := by rw [g2]; exact tnI_in hh _
          have hms := hdi (t - 1)
          rw [← g3] at hms
          refine z_iload F (pc := 56) dX8_distanceOf_56 (lv_at hl 0 rfl) ?_
          refine z_iconst F (pc := 58) (4) dX8_distanceOf_58 ?_
          refine z_icmp_ge F (pc := 59) 116 dX8_distanceOf_59 (by decide) (by omega) (fun c_59 => ?_) (fun c_59 => ?_)
          · skip
            refine z_iloadn F (pc := 116) dX8_distanceOf_116 rfl (lv_at hl 2 rfl) ?_
            refine z_iconst F (pc := 117) (1) dX8_distanceOf_117 ?_
            refine z_icmp_eq F (pc := 118) 126 dX8_distanceOf_118 (by decide) (by omega) (fun c_118 => ?_) (fun c_118 => ?_)
            · skip
              refine z_aloadn F (pc := 126) dX8_distanceOf_126 rfl (lv_at hl 3 rfl) ?_
              refine z_callVv F (pc := 127) hK hW hA (As := []) (rest := []) (ws' := fun (u : (Int → Int)) => wR cI cZ aR xs ys lf ev nm lb kd pt so nu al ak ap u le1 rw cx cr cl ll tl ts tc sz mn ac en mg ln cn wc wp) (wr := ([])) (c_X8_turns l D cI cZ aR xs ys lf ev nm lb kd pt so nu al ak ap h1 le1 rw cx cr cl ll tl ts tc sz mn ac en mg ln cn wc wp _ (by exact hin)) (cwV 0 F.2.2.2.2 gX8_distanceOf_X8_turns rfl rfl rfl (by decide +kernel) ⟨Nat.le_of_ble_eq_true rfl, Nat.le_of_ble_eq_true rfl⟩) [0, 1, 2, 3, 4, 5, 6, 7, 8, 9, 10, 11, 12, 13, 14, 15, 16, 17, 18, 19, 20, 21, 22, 23] [] [0, 1, 2, 3, 4, 5, 6, 7, 8, 9, 10, 11, 12, 13, 14, 15, 16, 17, 18, 19, 20, 21, 22, 23] rfl rfl (by decide) (by decide) (by decide) (fun _ => rfl) (by decide) (q0 := 0) (ci := 8) rfl rfl rfl rfl rfl hl.1 (Nat.le_of_ble_eq_true rfl) dX8_distanceOf_127 ⟨Nat.le_of_ble_eq_true rfl, Nat.le_of_ble_eq_true rfl⟩ (fun u H locs hp_127 hW => ?_)
              obtain ⟨he2_127, rfl⟩ : ∃ v, v = u := ⟨_, rfl⟩
              refine z_iloadn F (pc := 130) dX8_distanceOf_130 rfl (lv_at hl 1 rfl) ?_
              exact hret _ _ _ _ ms (he2_127, le1) dX8_distanceOf_131 (by omega) (by (try dsimp only) <;> (first | exact ⟨by unfold dF; rw [if_pos (by omega), g3, show t - 1 = 3 by omega], by rw [hp_127, g2, show t - 1 = 3 by omega]; exact tn_4 he⟩ | exact ⟨by unfold dF; rw [if_neg (by omega), g3, show t - 1 = 0 by omega]; rfl, by rw [g2, show t - 1 = 0 by omega]; rfl⟩)) hW
            · skip
              refine z_iloadn F (pc := 121) dX8_distanceOf_121 rfl (lv_at hl 2 rfl) ?_
              refine z_iconst F (pc := 122) (4) dX8_distanceOf_122 ?_
              refine z_icmp_ne F (pc := 123) 130 dX8_distanceOf_123 (by decide) (by omega) (fun c_123 => ?_) (fun c_123 => ?_)
              · skip
                refine z_iloadn F (pc := 130) dX8_distanceOf_130 rfl (lv_at hl 1 rfl) ?_
                exact hret _ _ _ _ ms (h1, le1) dX8_distanceOf_131 (by omega) (by (try dsimp only) <;> (first | exact ⟨by unfold dF; rw [if_pos (by omega), g3, show t - 1 = 3 by omega], by rw [hp_127, g2, show t - 1 = 3 by omega]; exact tn_4 he⟩ | exact ⟨by unfold dF; rw [if_neg (by omega), g3, show t - 1 = 0 by omega]; rfl, by rw [g2, show t - 1 = 0 by omega]; rfl⟩)) hW
              · skip
                refine z_aloadn F (pc := 126) dX8_distanceOf_126 rfl (lv_at hl 3 rfl) ?_
                refine z_callVv F (pc := 127) hK hW hA (As := []) (rest := []) (ws' := fun (u : (Int → Int)) => wR cI cZ aR xs ys lf ev nm lb kd pt so nu al ak ap u le1 rw cx cr cl ll tl ts tc sz mn ac en mg ln cn wc wp) (wr := ([])) (c_X8_turns l D cI cZ aR xs ys lf ev nm lb kd pt so nu al ak ap h1 le1 rw cx cr cl ll tl ts tc sz mn ac en mg ln cn wc wp _ (by exact hin)) (cwV 0 F.2.2.2.2 gX8_distanceOf_X8_turns rfl rfl rfl (by decide +kernel) ⟨Nat.le_of_ble_eq_true rfl, Nat.le_of_ble_eq_true rfl⟩) [0, 1, 2, 3, 4, 5, 6, 7, 8, 9, 10, 11, 12, 13, 14, 15, 16, 17, 18, 19, 20, 21, 22, 23] [] [0, 1, 2, 3, 4, 5, 6, 7, 8, 9, 10, 11, 12, 13, 14, 15, 16, 17, 18, 19, 20, 21, 22, 23] rfl rfl (by decide) (by decide) (by decide) (fun _ => rfl) (by decide) (q0 := 0) (ci := 8) rfl rfl rfl rfl rfl hl.1 (Nat.le_of_ble_eq_true rfl) dX8_distanceOf_127 ⟨Nat.le_of_ble_eq_true rfl, Nat.le_of_ble_eq_true rfl⟩ (fun u H locs hp_127 hW => ?_)
                obtain ⟨he2_127, rfl⟩ : ∃ v, v = u := ⟨_, rfl⟩
                refine z_iloadn F (pc := 130) dX8_distanceOf_130 rfl (lv_at hl 1 rfl) ?_
                exact hret _ _ _ _ ms (he2_127, le1) dX8_distanceOf_131 (by omega) (by (try dsimp only) <;> (first | exact ⟨by unfold dF; rw [if_pos (by omega), g3, show t - 1 = 3 by omega], by rw [hp_127, g2, show t - 1 = 3 by omega]; exact tn_4 he⟩ | exact ⟨by unfold dF; rw [if_neg (by omega), g3, show t - 1 = 0 by omega]; rfl, by rw [g2, show t - 1 = 0 by omega]; rfl⟩)) hW
          · skip
            refine z_iloadn F (pc := 62) dX8_distanceOf_62 rfl (lv_at hl 2 rfl) ?_
            refine z_iconst F (pc := 63) (1) dX8_distanceOf_63 ?_
            refine z_icmp_eq F (pc := 64) 72 dX8_distanceOf_64 (by decide) (by omega) (fun c_64 => ?_) (fun c_64 => ?_)
            · skip
              refine z_aloadn F (pc := 72) dX8_distanceOf_72 rfl (lv_at hl 3 rfl) ?_
              refine z_callVv F (pc := 73) hK hW hA (As := []) (rest := []) (ws' := fun (u : (Int → Int)) => wR cI cZ aR xs ys lf ev nm lb kd pt so nu al ak ap u le1 rw cx cr cl ll tl ts tc sz mn ac en mg ln cn wc wp) (wr := ([])) (c_X8_turns l D cI cZ aR xs ys lf ev nm lb kd pt so nu al ak ap h1 le1 rw cx cr cl ll tl ts tc sz mn ac en mg ln cn wc wp _ (by exact hin)) (cwV 0 F.2.2.2.2 gX8_distanceOf_X8_turns rfl rfl rfl (by decide +kernel) ⟨Nat.le_of_ble_eq_true rfl, Nat.le_of_ble_eq_true rfl⟩) [0, 1, 2, 3, 4, 5, 6, 7, 8, 9, 10, 11, 12, 13, 14, 15, 16, 17, 18, 19, 20, 21, 22, 23] [] [0, 1, 2, 3, 4, 5, 6, 7, 8, 9, 10, 11, 12, 13, 14, 15, 16, 17, 18, 19, 20, 21, 22, 23] rfl rfl (by decide) (by decide) (by decide) (fun _ => rfl) (by decide) (q0 := 0) (ci := 8) rfl rfl rfl rfl rfl hl.1 (Nat.le_of_ble_eq_true rfl) dX8_distanceOf_73 ⟨Nat.le_of_ble_eq_true rfl, Nat.le_of_ble_eq_true rfl⟩ (fun u H locs hp_73 hW => ?_)
              obtain ⟨he2_73, rfl⟩ : ∃ v, v = u := ⟨_, rfl⟩
              have hin2 : inH he2_73 := by rw [hp_73]; exact tn_in hin
              have hst2 : he2_73 = tnI he (t + 1 - 1) := by rw [hp_73, g2]; exact tnI_s _ (by omega) (by omega)
              have hd2 := dU_b (q := kd k) hin2 hp
              have hst4 : min ms (dU he2_73 pt (16 * k) (kd k)) = dI he pt (16 * k) (kd k) (t + 1 - 1) := by
                rw [hst2, g3]; exact dI_s _ _ _ _ (by omega) (by omega)
              refine z_iloadn F (pc := 76) dX8_distanceOf_76 rfl (lv_at hl 2 rfl) ?_
              refine z_iconst F (pc := 77) (4) dX8_distanceOf_77 ?_
              refine z_icmp_ne F (pc := 78) 89 dX8_distanceOf_78 (by decide) (by omega) (fun c_78 => ?_) (fun c_78 => ?_)
              · skip
                have hdU : dU he2_73 pt (16 * k) (kd k) = sT he2_73 pt (16 * k) := by unfold dU; rw [if_neg (by omega), if_neg (by omega)]
                refine z_aloadn F (pc := 89) dX8_distanceOf_89 rfl (lv_at hl 3 rfl) ?_
                refine z_iloadn F (pc := 90) dX8_distanceOf_90 rfl (lv_at hl 4 rfl) ?_
                refine z_iconst F (pc := 91) (0) dX8_distanceOf_91 ?_
                refine z_callVi F (pc := 92) hK hW hA (As := [.int (iI k), .int (iI 0)]) (rest := []) (ws' := fun (u : Unit) => wR cI cZ aR xs ys lf ev nm lb kd pt so nu al ak ap he2_73 le1 rw cx cr cl ll tl ts tc sz mn ac en mg ln cn wc wp) (wr := ([])) (c_X8_straightF l D cI cZ aR xs ys lf ev nm lb kd pt so nu al ak ap he2_73 le1 rw cx cr cl ll tl ts tc sz mn ac en mg ln cn wc wp k 0 _ (by omega) (by omega) (by exact hin2) (by exact hp) (by omega) (by rfl)) (cwV 2 F.2.2.2.2 gX8_distanceOf_X8_straight rfl rfl rfl (by decide +kernel) ⟨Nat.le_of_ble_eq_true rfl, Nat.le_of_ble_eq_true rfl⟩) [0, 1, 2, 3, 4, 5, 6, 7, 8, 9, 10, 11, 12, 13, 14, 15, 16, 17, 18, 19, 20, 21, 22, 23] [] [0, 1, 2, 3, 4, 5, 6, 7, 8, 9, 10, 11, 12, 13, 14, 15, 16, 17, 18, 19, 20, 21, 22, 23] rfl rfl (by decide) (by decide) (by decide) (fun _ => rfl) (by decide) (q0 := 0) (ci := 8) rfl rfl rfl rfl rfl hl.1 (Nat.le_of_ble_eq_true rfl) dX8_distanceOf_92 ⟨Nat.le_of_ble_eq_true rfl, Nat.le_of_ble_eq_true rfl⟩ (fun z_92 u H locs r_z_92 hp_92 hW => ?_)
                replace hp_92 := hp_92.symm
                subst hp_92
                refine z_istore F (pc := 95) hl (lv' := [(5, .int (iI (sT he2_73 pt (16 * k)))), (4, .int (iI t)), (3, .int (iI ms)), (2, .int (iI (kd k))), (0, .ref (aR 0)), (1, .int (iI k))]) dX8_distanceOf_95 (by decide) rfl (fun ls hl => ?_)
                refine z_iload F (pc := 97) dX8_distanceOf_97 (lv_at hl 0 rfl) ?_
                refine z_iloadn F (pc := 99) dX8_distanceOf_99 rfl (lv_at hl 2 rfl) ?_
                refine z_icmp_ge F (pc := 100) 108 dX8_distanceOf_100 (by decide) (by have hd3 := hd2; rw [hdU] at hd3; omega) (fun c_100 => ?_) (fun c_100 => ?_)
                · skip
                  have hst3 := hst4
                  rw [hdU] at hst3 hd2
                  rw [Int.min_eq_left c_100] at hst3
                  refine z_iloadn F (pc := 108) dX8_distanceOf_108 rfl (lv_at hl 2 rfl) ?_
                  refine z_istoren F (pc := 109) hl (lv' := [(3, .int (iI ms)), (5, .int (iI (sT he2_73 pt (16 * k)))), (4, .int (iI t)), (2, .int (iI (kd k))), (0, .ref (aR 0)), (1, .int (iI k))]) dX8_distanceOf_109 rfl (by decide) rfl (fun ls hl => ?_)
                  refine z_iinc F (pc := 110) hl (lv' := [(4, .int (iI (t + 1))), (3, .int (iI ms)), (5, .int (iI (sT he2_73 pt (16 * k)))), (2, .int (iI (kd k))), (0, .ref (aR 0)), (1, .int (iI k))]) dX8_distanceOf_110 (k := 2) rfl (by decide) rfl (fun ls hl => ?_)
                  refine z_goto F (pc := 113) 56 dX8_distanceOf_113 (by decide) ?_
                  exact ih_56 ms (t + 1) he2_73 le1 _ _ _ (by omega) (by omega) (by exact hst2) (by exact hst3) (lv_sub hl [0, 1, 3, 4, 5] rfl) hW
                · skip
                  have hst3 := hst4
                  rw [hdU] at hst3 hd2
                  rw [Int.min_eq_right (by omega)] at hst3
                  refine z_iload F (pc := 103) dX8_distanceOf_103 (lv_at hl 0 rfl) ?_
                  refine z_goto F (pc := 105) 109 dX8_distanceOf_105 (by decide) ?_
                  refine z_istoren F (pc := 109) hl (lv' := [(3, .int (iI (sT he2_73 pt (16 * k)))), (5, .int (iI (sT he2_73 pt (16 * k)))), (4, .int (iI t)), (2, .int (iI (kd k))), (0, .ref (aR 0)), (1, .int (iI k))]) dX8_distanceOf_109 rfl (by decide) rfl (fun ls hl => ?_)
                  refine z_iinc F (pc := 110) hl (lv' := [(4, .int (iI (t + 1))), (3, .int (iI (sT he2_73 pt (16 * k)))), (5, .int (iI (sT he2_73 pt (16 * k)))), (2, .int (iI (kd k))), (0, .ref (aR 0)), (1, .int (iI k))]) dX8_distanceOf_110 (k := 2) rfl (by decide) rfl (fun ls hl => ?_)
                  refine z_goto F (pc := 113) 56 dX8_distanceOf_113 (by decide) ?_
                  exact ih_56 (sT he2_73 pt (16 * k)) (t + 1) he2_73 le1 _ _ _ (by omega) (by omega) (by exact hst2) (by exact hst3) (lv_sub hl [0, 1, 3, 4, 5] rfl) hW
              · skip
                have hdU : dU he2_73 pt (16 * k) (kd k) = cL he2_73 pt (16 * k) := by unfold dU; rw [if_pos (by omega)]
                refine z_aloadn F (pc := 81) dX8_distanceOf_81 rfl (lv_at hl 3 rfl) ?_
                refine z_iloadn F (pc := 82) dX8_distanceOf_82 rfl (lv_at hl 4 rfl) ?_
                refine z_callVi F (pc := 83) hK hW hA (As := [.int (iI k)]) (rest := []) (ws' := fun (u : (Int → Int)) => wR cI cZ aR xs ys lf ev nm lb kd pt so nu al ak ap he2_73 u rw cx cr cl ll tl ts tc sz mn ac en mg ln cn wc wp) (wr := ([])) (c_X8_cloud l D cI cZ aR xs ys lf ev nm lb kd pt so nu al ak ap he2_73 le1 rw cx cr cl ll tl ts tc sz mn ac en mg ln cn wc wp k _ (by omega) (by exact hin2) (by exact hp) (by omega)) (cwV 1 F.2.2.2.2 gX8_distanceOf_X8_cloud rfl rfl rfl (by decide +kernel) ⟨Nat.le_of_ble_eq_true rfl, Nat.le_of_ble_eq_true rfl⟩) [0, 1, 2, 3, 4, 5, 6, 7, 8, 9, 10, 11, 12, 13, 14, 15, 16, 17, 18, 19, 20, 21, 22, 23] [] [0, 1, 2, 3, 4, 5, 6, 7, 8, 9, 10, 11, 12, 13, 14, 15, 16, 17, 18, 19, 20, 21, 22, 23] rfl rfl (by decide) (by decide) (by decide) (fun _ => rfl) (by decide) (q0 := 0) (ci := 8) rfl rfl rfl rfl rfl hl.1 (Nat.le_of_ble_eq_true rfl) dX8_distanceOf_83 ⟨Nat.le_of_ble_eq_true rfl, Nat.le_of_ble_eq_true rfl⟩ (fun z_83 u H locs r_z_83 hp_83 hW => ?_)
                obtain ⟨le2_83, rfl⟩ : ∃ v, v = u := ⟨_, rfl⟩
                replace hp_83 := hp_83.symm
                subst hp_83
                refine z_goto F (pc := 86) 95 dX8_distanceOf_86 (by decide) ?_
                refine z_istore F (pc := 95) hl (lv' := [(5, .int (iI (cL he2_73 pt (16 * k)))), (4, .int (iI t)), (3, .int (iI ms)), (2, .int (iI (kd k))), (0, .ref (aR 0)), (1, .int (iI k))]) dX8_distanceOf_95 (by decide) rfl (fun ls hl => ?_)
                refine z_iload F (pc := 97) dX8_distanceOf_97 (lv_at hl 0 rfl) ?_
                refine z_iloadn F (pc := 99) dX8_distanceOf_99 rfl (lv_at hl 2 rfl) ?_
                refine z_icmp_ge F (pc := 100) 108 dX8_distanceOf_100 (by decide) (by have hd3 := hd2; rw [hdU] at hd3; omega) (fun c_100 => ?_) (fun c_100 => ?_)
                · skip
                  have hst3 := hst4
                  rw [hdU] at hst3 hd2
                  rw [Int.min_eq_left c_100] at hst3
                  refine z_iloadn F (pc := 108) dX8_distanceOf_108 rfl (lv_at hl 2 rfl) ?_
                  refine z_istoren F (pc := 109) hl (lv' := [(3, .int (iI ms)), (5, .int (iI (cL he2_73 pt (16 * k)))), (4, .int (iI t)), (2, .int (iI (kd k))), (0, .ref (aR 0)), (1, .int (iI k))]) dX8_distanceOf_109 rfl (by decide) rfl (fun ls hl => ?_)
                  refine z_iinc F (pc := 110) hl (lv' := [(4, .int (iI (t + 1))), (3, .int (iI ms)), (5, .int (iI (cL he2_73 pt (16 * k)))), (2, .int (iI (kd k))), (0, .ref (aR 0)), (1, .int (iI k))]) dX8_distanceOf_110 (k := 2) rfl (by decide) rfl (fun ls hl => ?_)
                  refine z_goto F (pc := 113) 56 dX8_distanceOf_113 (by decide) ?_
                  exact ih_56 ms (t + 1) he2_73 le2_83 _ _ _ (by omega) (by omega) (by exact hst2) (by exact hst3) (lv_sub hl [0, 1, 3, 4, 5] rfl) hW
                · skip
                  have hst3 := hst4
                  rw [hdU] at hst3 hd2
                  rw [Int.min_eq_right (by omega)] at hst3
                  refine z_iload F (pc := 103) dX8_distanceOf_103 (lv_at hl 0 rfl) ?_
                  refine z_goto F (pc := 105) 109 dX8_distanceOf_105 (by decide) ?_
                  refine z_istoren F (pc := 109) hl (lv' := [(3, .int (iI (cL he2_73 pt (16 * k)))), (5, .int (iI (cL he2_73 pt (16 * k)))), (4, .int (iI t)), (2, .int (iI (kd k))), (0, .ref (aR 0)), (1, .int (iI k))]) dX8_distanceOf_109 rfl (by decide) rfl (fun ls hl => ?_)
                  refine z_iinc F (pc := 110) hl (lv' := [(4, .int (iI (t + 1))), (3, .int (iI (cL he2_73 pt (16 * k)))), (5, .int (iI (cL he2_73 pt (16 * k)))), (2, .int (iI (kd k))), (0, .ref (aR 0)), (1, .int (iI k))]) dX8_distanceOf_110 (k := 2) rfl (by decide) rfl (fun ls hl => ?_)
                  refine z_goto F (pc := 113) 56 dX8_distanceOf_113 (by decide) ?_
                  exact ih_56 (cL he2_73 pt (16 * k)) (t + 1) he2_73 le2_83 _ _ _ (by omega) (by omega) (by exact hst2) (by exact hst3) (lv_sub hl [0, 1, 3, 4, 5] rfl) hW
            · skip
              refine z_iloadn F (pc := 67) dX8_distanceOf_67 rfl (lv_at hl 2 rfl) ?_
              refine z_iconst F (pc := 68) (4) dX8_distanceOf_68 ?_
              refine z_icmp_ne F (pc := 69) 116 dX8_distanceOf_69 (by decide) (by omega) (fun c_69 => ?_) (fun c_69 => ?_)
              · skip
                refine z_iloadn F (pc := 116) dX8_distanceOf_116 rfl (lv_at hl 2 rfl) ?_
                refine z_iconst F (pc := 117) (1) dX8_distanceOf_117 ?_
                refine z_icmp_eq F (pc := 118) 126 dX8_distanceOf_118 (by decide) (by omega) (fun c_118 => ?_) (fun c_118 => ?_)
                · skip
                  refine z_aloadn F (pc := 126) dX8_distanceOf_126 rfl (lv_at hl 3 rfl) ?_
                  refine z_callVv F (pc := 127) hK hW hA (As := []) (rest := []) (ws' := fun (u : (Int → Int)) => wR cI cZ aR xs ys lf ev nm lb kd pt so nu al ak ap u le1 rw cx cr cl ll tl ts tc sz mn ac en mg ln cn wc wp) (wr := ([])) (c_X8_turns l D cI cZ aR xs ys lf ev nm lb kd pt so nu al ak ap h1 le1 rw cx cr cl ll tl ts tc sz mn ac en mg ln cn wc wp _ (by exact hin)) (cwV 0 F.2.2.2.2 gX8_distanceOf_X8_turns rfl rfl rfl (by decide +kernel) ⟨Nat.le_of_ble_eq_true rfl, Nat.le_of_ble_eq_true rfl⟩) [0, 1, 2, 3, 4, 5, 6, 7, 8, 9, 10, 11, 12, 13, 14, 15, 16, 17, 18, 19, 20, 21, 22, 23] [] [0, 1, 2, 3, 4, 5, 6, 7, 8, 9, 10, 11, 12, 13, 14, 15, 16, 17, 18, 19, 20, 21, 22, 23] rfl rfl (by decide) (by decide) (by decide) (fun _ => rfl) (by decide) (q0 := 0) (ci := 8) rfl rfl rfl rfl rfl hl.1 (Nat.le_of_ble_eq_true rfl) dX8_distanceOf_127 ⟨Nat.le_of_ble_eq_true rfl, Nat.le_of_ble_eq_true rfl⟩ (fun u H locs hp_127 hW => ?_)
                  obtain ⟨he2_127, rfl⟩ : ∃ v, v = u := ⟨_, rfl⟩
                  refine z_iloadn F (pc := 130) dX8_distanceOf_130 rfl (lv_at hl 1 rfl) ?_
                  exact hret _ _ _ _ ms (he2_127, le1) dX8_distanceOf_131 (by omega) (by (try dsimp only) <;> (first | exact ⟨by unfold dF; rw [if_pos (by omega), g3, show t - 1 = 3 by omega], by rw [hp_127, g2, show t - 1 = 3 by omega]; exact tn_4 he⟩ | exact ⟨by unfold dF; rw [if_neg (by omega), g3, show t - 1 = 0 by omega]; rfl, by rw [g2, show t - 1 = 0 by omega]; rfl⟩)) hW
                · skip
                  refine z_iloadn F (pc := 121) dX8_distanceOf_121 rfl (lv_at hl 2 rfl) ?_
                  refine z_iconst F (pc := 122) (4) dX8_distanceOf_122 ?_
                  refine z_icmp_ne F (pc := 123) 130 dX8_distanceOf_123 (by decide) (by omega) (fun c_123 => ?_) (fun c_123 => ?_)
                  · skip
                    refine z_iloadn F (pc := 130) dX8_distanceOf_130 rfl (lv_at hl 1 rfl) ?_
                    exact hret _ _ _ _ ms (h1, le1) dX8_distanceOf_131 (by omega) (by (try dsimp only) <;> (first | exact ⟨by unfold dF; rw [if_pos (by omega), g3, show t - 1 = 3 by omega], by rw [hp_127, g2, show t - 1 = 3 by omega]; exact tn_4 he⟩ | exact ⟨by unfold dF; rw [if_neg (by omega), g3, show t - 1 = 0 by omega]; rfl, by rw [g2, show t - 1 = 0 by omega]; rfl⟩)) hW
                  · skip
                    refine z_aloadn F (pc := 126) dX8_distanceOf_126 rfl (lv_at hl 3 rfl) ?_
                    refine z_callVv F (pc := 127) hK hW hA (As := []) (rest := []) (ws' := fun (u : (Int → Int)) => wR cI cZ aR xs ys lf ev nm lb kd pt so nu al ak ap u le1 rw cx cr cl ll tl ts tc sz mn ac en mg ln cn wc wp) (wr := ([])) (c_X8_turns l D cI cZ aR xs ys lf ev nm lb kd pt so nu al ak ap h1 le1 rw cx cr cl ll tl ts tc sz mn ac en mg ln cn wc wp _ (by exact hin)) (cwV 0 F.2.2.2.2 gX8_distanceOf_X8_turns rfl rfl rfl (by decide +kernel) ⟨Nat.le_of_ble_eq_true rfl, Nat.le_of_ble_eq_true rfl⟩) [0, 1, 2, 3, 4, 5, 6, 7, 8, 9, 10, 11, 12, 13, 14, 15, 16, 17, 18, 19, 20, 21, 22, 23] [] [0, 1, 2, 3, 4, 5, 6, 7, 8, 9, 10, 11, 12, 13, 14, 15, 16, 17, 18, 19, 20, 21, 22, 23] rfl rfl (by decide) (by decide) (by decide) (fun _ => rfl) (by decide) (q0 := 0) (ci := 8) rfl rfl rfl rfl rfl hl.1 (Nat.le_of_ble_eq_true rfl) dX8_distanceOf_127 ⟨Nat.le_of_ble_eq_true rfl, Nat.le_of_ble_eq_true rfl⟩ (fun u H locs hp_127 hW => ?_)
                    obtain ⟨he2_127, rfl⟩ : ∃ v, v = u := ⟨_, rfl⟩
                    refine z_iloadn F (pc := 130) dX8_distanceOf_130 rfl (lv_at hl 1 rfl) ?_
                    exact hret _ _ _ _ ms (he2_127, le1) dX8_distanceOf_131 (by omega) (by (try dsimp only) <;> (first | exact ⟨by unfold dF; rw [if_pos (by omega), g3, show t - 1 = 3 by omega], by rw [hp_127, g2, show t - 1 = 3 by omega]; exact tn_4 he⟩ | exact ⟨by unfold dF; rw [if_neg (by omega), g3, show t - 1 = 0 by omega]; rfl, by rw [g2, show t - 1 = 0 by omega]; rfl⟩)) hW
              · skip
                refine z_aloadn F (pc := 72) dX8_distanceOf_72 rfl (lv_at hl 3 rfl) ?_
                refine z_callVv F (pc := 73) hK hW hA (As := []) (rest := []) (ws' := fun (u : (Int → Int)) => wR cI cZ aR xs ys lf ev nm lb kd pt so nu al ak ap u le1 rw cx cr cl ll tl ts tc sz mn ac en mg ln cn wc wp) (wr := ([])) (c_X8_turns l D cI cZ aR xs ys lf ev nm lb kd pt so nu al ak ap h1 le1 rw cx cr cl ll tl ts tc sz mn ac en mg ln cn wc wp _ (by exact hin)) (cwV 0 F.2.2.2.2 gX8_distanceOf_X8_turns rfl rfl rfl (by decide +kernel) ⟨Nat.le_of_ble_eq_true rfl, Nat.le_of_ble_eq_true rfl⟩) [0, 1, 2, 3, 4, 5, 6, 7, 8, 9, 10, 11, 12, 13, 14, 15, 16, 17, 18, 19, 20, 21, 22, 23] [] [0, 1, 2, 3, 4, 5, 6, 7, 8, 9, 10, 11, 12, 13, 14, 15, 16, 17, 18, 19, 20, 21, 22, 23] rfl rfl (by decide) (by decide) (by decide) (fun _ => rfl) (by decide) (q0 := 0) (ci := 8) rfl rfl rfl rfl rfl hl.1 (Nat.le_of_ble_eq_true rfl) dX8_distanceOf_73 ⟨Nat.le_of_ble_eq_true rfl, Nat.le_of_ble_eq_true rfl⟩ (fun u H locs hp_73 hW => ?_)
                obtain ⟨he2_73, rfl⟩ : ∃ v, v = u := ⟨_, rfl⟩
                have hin2 : inH he2_73 := by rw [hp_73]; exact tn_in hin
                have hst2 : he2_73 = tnI he (t + 1 - 1) := by rw [hp_73, g2]; exact tnI_s _ (by omega) (by omega)
                have hd2 := dU_b (q := kd k) hin2 hp
                have hst4 : min ms (dU he2_73 pt (16 * k) (kd k)) = dI he pt (16 * k) (kd k) (t + 1 - 1) := by
                  rw [hst2, g3]; exact dI_s _ _ _ _ (by omega) (by omega)
                refine z_iloadn F (pc := 76) dX8_distanceOf_76 rfl (lv_at hl 2 rfl) ?_
                refine z_iconst F (pc := 77) (4) dX8_distanceOf_77 ?_
                refine z_icmp_ne F (pc := 78) 89 dX8_distanceOf_78 (by decide) (by omega) (fun c_78 => ?_) (fun c_78 => ?_)
                · skip
                  have hdU : dU he2_73 pt (16 * k) (kd k) = sT he2_73 pt (16 * k) := by unfold dU; rw [if_neg (by omega), if_neg (by omega)]
                  refine z_aloadn F (pc := 89) dX8_distanceOf_89 rfl (lv_at hl 3 rfl) ?_
                  refine z_iloadn F (pc := 90) dX8_distanceOf_90 rfl (lv_at hl 4 rfl) ?_
                  refine z_iconst F (pc := 91) (0) dX8_distanceOf_91 ?_
                  refine z_callVi F (pc := 92) hK hW hA (As := [.int (iI k), .int (iI 0)]) (rest := []) (ws' := fun (u : Unit) => wR cI cZ aR xs ys lf ev nm lb kd pt so nu al ak ap he2_73 le1 rw cx cr cl ll tl ts tc sz mn ac en mg ln cn wc wp) (wr := ([])) (c_X8_straightF l D cI cZ aR xs ys lf ev nm lb kd pt so nu al ak ap he2_73 le1 rw cx cr cl ll tl ts tc sz mn ac en mg ln cn wc wp k 0 _ (by omega) (by omega) (by exact hin2) (by exact hp) (by omega) (by rfl)) (cwV 2 F.2.2.2.2 gX8_distanceOf_X8_straight rfl rfl rfl (by decide +kernel) ⟨Nat.le_of_ble_eq_true rfl, Nat.le_of_ble_eq_true rfl⟩) [0, 1, 2, 3, 4, 5, 6, 7, 8, 9, 10, 11, 12, 13, 14, 15, 16, 17, 18, 19, 20, 21, 22, 23] [] [0, 1, 2, 3, 4, 5, 6, 7, 8, 9, 10, 11, 12, 13, 14, 15, 16, 17, 18, 19, 20, 21, 22, 23] rfl rfl (by decide) (by decide) (by decide) (fun _ => rfl) (by decide) (q0 := 0) (ci := 8) rfl rfl rfl rfl rfl hl.1 (Nat.le_of_ble_eq_true rfl) dX8_distanceOf_92 ⟨Nat.le_of_ble_eq_true rfl, Nat.le_of_ble_eq_true rfl⟩ (fun z_92 u H locs r_z_92 hp_92 hW => ?_)
                  replace hp_92 := hp_92.symm
                  subst hp_92
                  refine z_istore F (pc := 95) hl (lv' := [(5, .int (iI (sT he2_73 pt (16 * k)))), (4, .int (iI t)), (3, .int (iI ms)), (2, .int (iI (kd k))), (0, .ref (aR 0)), (1, .int (iI k))]) dX8_distanceOf_95 (by decide) rfl (fun ls hl => ?_)
                  refine z_iload F (pc := 97) dX8_distanceOf_97 (lv_at hl 0 rfl) ?_
                  refine z_iloadn F (pc := 99) dX8_distanceOf_99 rfl (lv_at hl 2 rfl) ?_
                  refine z_icmp_ge F (pc := 100) 108 dX8_distanceOf_100 (by decide) (by have hd3 := hd2; rw [hdU] at hd3; omega) (fun c_100 => ?_) (fun c_100 => ?_)
                  · skip
                    have hst3 := hst4
                    rw [hdU] at hst3 hd2
                    rw [Int.min_eq_left c_100] at hst3
                    refine z_iloadn F (pc := 108) dX8_distanceOf_108 rfl (lv_at hl 2 rfl) ?_
                    refine z_istoren F (pc := 109) hl (lv' := [(3, .int (iI ms)), (5, .int (iI (sT he2_73 pt (16 * k)))), (4, .int (iI t)), (2, .int (iI (kd k))), (0, .ref (aR 0)), (1, .int (iI k))]) dX8_distanceOf_109 rfl (by decide) rfl (fun ls hl => ?_)
                    refine z_iinc F (pc := 110) hl (lv' := [(4, .int (iI (t + 1))), (3, .int (iI ms)), (5, .int (iI (sT he2_73 pt (16 * k)))), (2, .int (iI (kd k))), (0, .ref (aR 0)), (1, .int (iI k))]) dX8_distanceOf_110 (k := 2) rfl (by decide) rfl (fun ls hl => ?_)
                    refine z_goto F (pc := 113) 56 dX8_distanceOf_113 (by decide) ?_
                    exact ih_56 ms (t + 1) he2_73 le1 _ _ _ (by omega) (by omega) (by exact hst2) (by exact hst3) (lv_sub hl [0, 1, 3, 4, 5] rfl) hW
                  · skip
                    have hst3 := hst4
                    rw [hdU] at hst3 hd2
                    rw [Int.min_eq_right (by omega)] at hst3
                    refine z_iload F (pc := 103) dX8_distanceOf_103 (lv_at hl 0 rfl) ?_
                    refine z_goto F (pc := 105) 109 dX8_distanceOf_105 (by decide) ?_
                    refine z_istoren F (pc := 109) hl (lv' := [(3, .int (iI (sT he2_73 pt (16 * k)))), (5, .int (iI (sT he2_73 pt (16 * k)))), (4, .int (iI t)), (2, .int (iI (kd k))), (0, .ref (aR 0)), (1, .int (iI k))]) dX8_distanceOf_109 rfl (by decide) rfl (fun ls hl => ?_)
                    refine z_iinc F (pc := 110) hl (lv' := [(4, .int (iI (t + 1))), (3, .int (iI (sT he2_73 pt (16 * k)))), (5, .int (iI (sT he2_73 pt (16 * k)))), (2, .int (iI (kd k))), (0, .ref (aR 0)), (1, .int (iI k))]) dX8_distanceOf_110 (k := 2) rfl (by decide) rfl (fun ls hl => ?_)
                    refine z_goto F (pc := 113) 56 dX8_distanceOf_113 (by decide) ?_
                    exact ih_56 (sT he2_73 pt (16 * k)) (t + 1) he2_73 le1 _ _ _ (by omega) (by omega) (by exact hst2) (by exact hst3) (lv_sub hl [0, 1, 3, 4, 5] rfl) hW
                · skip
                  have hdU : dU he2_73 pt (16 * k) (kd k) = cL he2_73 pt (16 * k) := by unfold dU; rw [if_pos (by omega)]
                  refine z_aloadn F (pc := 81) dX8_distanceOf_81 rfl (lv_at hl 3 rfl) ?_
                  refine z_iloadn F (pc := 82) dX8_distanceOf_82 rfl (lv_at hl 4 rfl) ?_
                  refine z_callVi F (pc := 83) hK hW hA (As := [.int (iI k)]) (rest := []) (ws' := fun (u : (Int → Int)) => wR cI cZ aR xs ys lf ev nm lb kd pt so nu al ak ap he2_73 u rw cx cr cl ll tl ts tc sz mn ac en mg ln cn wc wp) (wr := ([])) (c_X8_cloud l D cI cZ aR xs ys lf ev nm lb kd pt so nu al ak ap he2_73 le1 rw cx cr cl ll tl ts tc sz mn ac en mg ln cn wc wp k _ (by omega) (by exact hin2) (by exact hp) (by omega)) (cwV 1 F.2.2.2.2 gX8_distanceOf_X8_cloud rfl rfl rfl (by decide +kernel) ⟨Nat.le_of_ble_eq_true rfl, Nat.le_of_ble_eq_true rfl⟩) [0, 1, 2, 3, 4, 5, 6, 7, 8, 9, 10, 11, 12, 13, 14, 15, 16, 17, 18, 19, 20, 21, 22, 23] [] [0, 1, 2, 3, 4, 5, 6, 7, 8, 9, 10, 11, 12, 13, 14, 15, 16, 17, 18, 19, 20, 21, 22, 23] rfl rfl (by decide) (by decide) (by decide) (fun _ => rfl) (by decide) (q0 := 0) (ci := 8) rfl rfl rfl rfl rfl hl.1 (Nat.le_of_ble_eq_true rfl) dX8_distanceOf_83 ⟨Nat.le_of_ble_eq_true rfl, Nat.le_of_ble_eq_true rfl⟩ (fun z_83 u H locs r_z_83 hp_83 hW => ?_)
                  obtain ⟨le2_83, rfl⟩ : ∃ v, v = u := ⟨_, rfl⟩
                  replace hp_83 := hp_83.symm
                  subst hp_83
                  refine z_goto F (pc := 86) 95 dX8_distanceOf_86 (by decide) ?_
                  refine z_istore F (pc := 95) hl (lv' := [(5, .int (iI (cL he2_73 pt (16 * k)))), (4, .int (iI t)), (3, .int (iI ms)), (2, .int (iI (kd k))), (0, .ref (aR 0)), (1, .int (iI k))]) dX8_distanceOf_95 (by decide) rfl (fun ls hl => ?_)
                  refine z_iload F (pc := 97) dX8_distanceOf_97 (lv_at hl 0 rfl) ?_
                  refine z_iloadn F (pc := 99) dX8_distanceOf_99 rfl (lv_at hl 2 rfl) ?_
                  refine z_icmp_ge F (pc := 100) 108 dX8_distanceOf_100 (by decide) (by have hd3 := hd2; rw [hdU] at hd3; omega) (fun c_100 => ?_) (fun c_100 => ?_)
                  · skip
                    have hst3 := hst4
                    rw [hdU] at hst3 hd2
                    rw [Int.min_eq_left c_100] at hst3
                    refine z_iloadn F (pc := 108) dX8_distanceOf_108 rfl (lv_at hl 2 rfl) ?_
                    refine z_istoren F (pc := 109) hl (lv' := [(3, .int (iI ms)), (5, .int (iI (cL he2_73 pt (16 * k)))), (4, .int (iI t)), (2, .int (iI (kd k))), (0, .ref (aR 0)), (1, .int (iI k))]) dX8_distanceOf_109 rfl (by decide) rfl (fun ls hl => ?_)
                    refine z_iinc F (pc := 110) hl (lv' := [(4, .int (iI (t + 1))), (3, .int (iI ms)), (5, .int (iI (cL he2_73 pt (16 * k)))), (2, .int (iI (kd k))), (0, .ref (aR 0)), (1, .int (iI k))]) dX8_distanceOf_110 (k := 2) rfl (by decide) rfl (fun ls hl => ?_)
                    refine z_goto F (pc := 113) 56 dX8_distanceOf_113 (by decide) ?_
                    exact ih_56 ms (t + 1) he2_73 le2_83 _ _ _ (by omega) (by omega) (by exact hst2) (by exact hst3) (lv_sub hl [0, 1, 3, 4, 5] rfl) hW
                  · skip
                    have hst3 := hst4
                    rw [hdU] at hst3 hd2
                    rw [Int.min_eq_right (by omega)] at hst3
                    refine z_iload F (pc := 103) dX8_distanceOf_103 (lv_at hl 0 rfl) ?_
                    refine z_goto F (pc := 105) 109 dX8_distanceOf_105 (by decide) ?_
                    refine z_istoren F (pc := 109) hl (lv' := [(3, .int (iI (cL he2_73 pt (16 * k)))), (5, .int (iI (cL he2_73 pt (16 * k)))), (4, .int (iI t)), (2, .int (iI (kd k))), (0, .ref (aR 0)), (1, .int (iI k))]) dX8_distanceOf_109 rfl (by decide) rfl (fun ls hl => ?_)
                    refine z_iinc F (pc := 110) hl (lv' := [(4, .int (iI (t + 1))), (3, .int (iI (cL he2_73 pt (16 * k)))), (5, .int (iI (cL he2_73 pt (16 * k)))), (2, .int (iI (kd k))), (0, .ref (aR 0)), (1, .int (iI k))]) dX8_distanceOf_110 (k := 2) rfl (by decide) rfl (fun ls hl => ?_)
                    refine z_goto F (pc := 113) 56 dX8_distanceOf_113 (by decide) ?_
                    exact ih_56 (cL he2_73 pt (16 * k)) (t + 1) he2_73 le2_83 _ _ _ (by omega) (by omega) (by exact hst2) (by exact hst3) (lv_sub hl [0, 1, 3, 4, 5] rfl) hW
      exact cut_56 _ ms0 1 he le0 _ _ _ (Nat.lt_succ_self _) (by omega) (by rfl) (by exact hini) (lv_sub hl [0, 1, 2, 3, 4] rfl) hW
    · skip
      have hb2 := bK_b hh hp
      refine z_aloadn F (pc := 32) dX8_distanceOf_32 rfl (lv_at hl 2 rfl) ?_
      refine z_iloadn F (pc := 33) dX8_distanceOf_33 rfl (lv_at hl 3 rfl) ?_
      refine z_iconst F (pc := 34) (1) dX8_distanceOf_34 ?_
      refine z_callVi F (pc := 35) hK hW hA (As := [.int (iI k), .int (iI 1)]) (rest := []) (ws' := fun (u : Unit) => wR cI cZ aR xs ys lf ev nm lb kd pt so nu al ak ap he le0 rw cx cr cl ll tl ts tc sz mn ac en mg ln cn wc wp) (wr := ([])) (c_X8_straightB l D cI cZ aR xs ys lf ev nm lb kd pt so nu al ak ap he le0 rw cx cr cl ll tl ts tc sz mn ac en mg ln cn wc wp k 1 _ (by omega) (by omega) (by first | exact hh | exact hin) (by exact hp) (by omega) (by rfl)) (cwV 2 F.2.2.2.2 gX8_distanceOf_X8_straight rfl rfl rfl (by decide +kernel) ⟨Nat.le_of_ble_eq_true rfl, Nat.le_of_ble_eq_true rfl⟩) [0, 1, 2, 3, 4, 5, 6, 7, 8, 9, 10, 11, 12, 13, 14, 15, 16, 17, 18, 19, 20, 21, 22, 23] [] [0, 1, 2, 3, 4, 5, 6, 7, 8, 9, 10, 11, 12, 13, 14, 15, 16, 17, 18, 19, 20, 21, 22, 23] rfl rfl (by decide) (by decide) (by decide) (fun _ => rfl) (by decide) (q0 := 0) (ci := 8) rfl rfl rfl rfl rfl hl.1 (Nat.le_of_ble_eq_true rfl) dX8_distanceOf_35 ⟨Nat.le_of_ble_eq_true rfl, Nat.le_of_ble_eq_true rfl⟩ (fun z_35 u H locs r_z_35 hp_35 hW => ?_)
      replace hp_35 := hp_35.symm
      subst hp_35
      refine z_istore F (pc := 38) hl (lv' := [(4, .int (iI (bK he pt (16 * k)))), (3, .int (iI ms0)), (2, .int (iI (kd k))), (0, .ref (aR 0)), (1, .int (iI k))]) dX8_distanceOf_38 (by decide) rfl (fun ls hl => ?_)
      refine z_iload F (pc := 40) dX8_distanceOf_40 (lv_at hl 0 rfl) ?_
      refine z_iloadn F (pc := 42) dX8_distanceOf_42 rfl (lv_at hl 1 rfl) ?_
      refine z_icmp_ge F (pc := 43) 51 dX8_distanceOf_43 (by decide) (by omega) (fun c_43 => ?_) (fun c_43 => ?_)
      · skip
        refine z_iloadn F (pc := 51) dX8_distanceOf_51 rfl (lv_at hl 1 rfl) ?_
        exact hret _ _ _ _ ms0 (he, le0) dX8_distanceOf_52 (by omega) (by (try dsimp only) <;> (refine ⟨?_, rfl⟩; unfold dF dU; rw [if_neg (by omega), if_neg (by omega), if_pos (by omega)]; rw [if_neg (by omega)] at h26; omega)) hW
      · skip
        refine z_iload F (pc := 46) dX8_distanceOf_46 (lv_at hl 0 rfl) ?_
        refine z_goto F (pc := 48) 52 dX8_distanceOf_48 (by decide) ?_
        exact hret _ _ _ _ (bK he pt (16 * k)) (he, le0) dX8_distanceOf_52 (by omega) (by (try dsimp only) <;> (refine ⟨?_, rfl⟩; unfold dF dU; rw [if_neg (by omega), if_neg (by omega), if_pos (by omega)]; rw [if_neg (by omega)] at h26; omega)) hW
  refine z_iconst F (pc := 8) (2) dX8_distanceOf_8 ?_
  refine z_icmp_le F (pc := 9) 20 dX8_distanceOf_9 (by decide) (by omega) (fun c_9 => ?_) (fun c_9 => ?_)
  · skip
    refine z_aloadn F (pc := 20) dX8_distanceOf_20 rfl (lv_at hl 1 rfl) ?_
    refine z_iloadn F (pc := 21) dX8_distanceOf_21 rfl (lv_at hl 2 rfl) ?_
    refine z_iconst F (pc := 22) (0) dX8_distanceOf_22 ?_
    refine z_callVi F (pc := 23) hK hW hA (As := [.int (iI k), .int (iI 0)]) (rest := []) (ws' := fun (u : Unit) => wR cI cZ aR xs ys lf ev nm lb kd pt so nu al ak ap he le rw cx cr cl ll tl ts tc sz mn ac en mg ln cn wc wp) (wr := ([])) (c_X8_straightF l D cI cZ aR xs ys lf ev nm lb kd pt so nu al ak ap he le rw cx cr cl ll tl ts tc sz mn ac en mg ln cn wc wp k 0 _ (by omega) (by omega) (by first | exact hh | exact hin) (by exact hp) (by omega) (by rfl)) (cwV 2 F.2.2.2.2 gX8_distanceOf_X8_straight rfl rfl rfl (by decide +kernel) ⟨Nat.le_of_ble_eq_true rfl, Nat.le_of_ble_eq_true rfl⟩) [0, 1, 2, 3, 4, 5, 6, 7, 8, 9, 10, 11, 12, 13, 14, 15, 16, 17, 18, 19, 20, 21, 22, 23] [] [0, 1, 2, 3, 4, 5, 6, 7, 8, 9, 10, 11, 12, 13, 14, 15, 16, 17, 18, 19, 20, 21, 22, 23] rfl rfl (by decide) (by decide) (by decide) (fun _ => rfl) (by decide) (q0 := 0) (ci := 8) rfl rfl rfl rfl rfl hl.1 (Nat.le_of_ble_eq_true rfl) dX8_distanceOf_23 ⟨Nat.le_of_ble_eq_true rfl, Nat.le_of_ble_eq_true rfl⟩ (fun z_23 u H locs r_z_23 hp_23 hW => ?_)
    replace hp_23 := hp_23.symm
    subst hp_23
    exact cut_26 (sT he pt (16 * k)) le _ _ _ (by first | exact ⟨cL_b hh hp, (if_pos (by omega)).symm⟩ | exact ⟨sT_b hh hp, (if_neg (by omega)).symm⟩) (lv_sub hl [0, 1, 2] rfl) hW
  · skip
    refine z_aloadn F (pc := 12) dX8_distanceOf_12 rfl (lv_at hl 1 rfl) ?_
    refine z_iloadn F (pc := 13) dX8_distanceOf_13 rfl (lv_at hl 2 rfl) ?_
    refine z_callVi F (pc := 14) hK hW hA (As := [.int (iI k)]) (rest := []) (ws' := fun (u : (Int → Int)) => wR cI cZ aR xs ys lf ev nm lb kd pt so nu al ak ap he u rw cx cr cl ll tl ts tc sz mn ac en mg ln cn wc wp) (wr := ([])) (c_X8_cloud l D cI cZ aR xs ys lf ev nm lb kd pt so nu al ak ap he le rw cx cr cl ll tl ts tc sz mn ac en mg ln cn wc wp k _ (by omega) (by exact hh) (by exact hp) (by omega)) (cwV 1 F.2.2.2.2 gX8_distanceOf_X8_cloud rfl rfl rfl (by decide +kernel) ⟨Nat.le_of_ble_eq_true rfl, Nat.le_of_ble_eq_true rfl⟩) [0, 1, 2, 3, 4, 5, 6, 7, 8, 9, 10, 11, 12, 13, 14, 15, 16, 17, 18, 19, 20, 21, 22, 23] [] [0, 1, 2, 3, 4, 5, 6, 7, 8, 9, 10, 11, 12, 13, 14, 15, 16, 17, 18, 19, 20, 21, 22, 23] rfl rfl (by decide) (by decide) (by decide) (fun _ => rfl) (by decide) (q0 := 0) (ci := 8) rfl rfl rfl rfl rfl hl.1 (Nat.le_of_ble_eq_true rfl) dX8_distanceOf_14 ⟨Nat.le_of_ble_eq_true rfl, Nat.le_of_ble_eq_true rfl⟩ (fun z_14 u H locs r_z_14 hp_14 hW => ?_)
    obtain ⟨le2_14, rfl⟩ : ∃ v, v = u := ⟨_, rfl⟩
    replace hp_14 := hp_14.symm
    subst hp_14
    refine z_goto F (pc := 17) 26 dX8_distanceOf_17 (by decide) ?_
    exact cut_26 (cL he pt (16 * k)) le2_14 _ _ _ (by first | exact ⟨cL_b hh hp, (if_pos (by omega)).symm⟩ | exact ⟨sT_b hh hp, (if_neg (by omega)).symm⟩) (lv_sub hl [0, 1, 2] rfl) hW
