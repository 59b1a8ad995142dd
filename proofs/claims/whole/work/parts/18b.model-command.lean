set_option maxHeartbeats 4000000 in
set_option maxRecDepth 100000 in
theorem c_X8_command (l : Launch) (D : va_G) (cI cZ : ClassId) (aR : Nat → Nat) (xs ys lf ev nm lb kd pt so nu al ak ap he le rw cx cr cl ll tl ts tc : Int → Int) (sz mn ac en mg ln cn wc wp : Int) (x k nn va vb vc vd : Int) (sz0 : Nat) (r_x : (-2147483648 ≤ x ∧ x < 2147483648)) (r_k : (-2147483648 ≤ k ∧ k < 2147483648)) (r_nn : (-2147483648 ≤ nn ∧ nn < 2147483648)) (r_va : (-2147483648 ≤ va ∧ va < 2147483648)) (r_vb : (-2147483648 ≤ vb ∧ vb < 2147483648)) (r_vc : (-2147483648 ≤ vc ∧ vc < 2147483648)) (r_vd : (-2147483648 ≤ vd ∧ vd < 2147483648)) (hcn : 0 ≤ cn ∧ cn ≤ 10) : Met l yX8_command wsX8_command ({ frames := 1, cells := 0, slots := 0, locals := 25 } : Room) (zPc D cI cZ [.ref (aR 0), .int (iI x), .int (iI k), .int (iI nn), .int (iI va), .int (iI vb), .int (iI vc), .int (iI vd)] (wR cI cZ aR xs ys lf ev nm lb kd pt so nu al ak ap he le rw cx cr cl ll tl ts tc sz mn ac en mg ln cn wc wp) sz0) (zQi D cI cZ (wR cI cZ aR xs ys lf ev nm lb kd pt so nu al ak ap he le rw cx cr cl ll tl ts tc sz mn ac en mg ln cn wc wp) sz0 (fun (r : Int) (u : (Int → Int) × (Int → Int) × (Int → Int) × (Int → Int) × (Int)) => cmdP cx cr cl ll cn x k nn va vb vc vd u.1 u.2.1 u.2.2.1 u.2.2.2.1 u.2.2.2.2 r) (fun (u : (Int → Int) × (Int → Int) × (Int → Int) × (Int → Int) × (Int)) => wR cI cZ aR xs ys lf ev nm lb kd pt so nu al ak ap he le rw u.1 u.2.1 u.2.2.1 u.2.2.2.1 tl ts tc sz mn ac en mg ln u.2.2.2.2 wc wp)) 0 0 (va_A (wR cI cZ aR xs ys lf ev nm lb kd pt so nu al ak ap he le rw cx cr cl ll tl ts tc sz mn ac en mg ln cn wc wp) sz0) := by
  refine z_ofI (maxL := 8) (plainFor_of_name (by decide)) rfl (Nat.le_of_ble_eq_true rfl) (Or.inl rfl) ?_
  intro p e s m below meth c A ls Q F hK hW hA hl hret
  have hl : lv_has ls 8 [(0, .ref (aR 0)), (1, .int (iI x)), (2, .int (iI k)), (3, .int (iI nn)), (4, .int (iI va)), (5, .int (iI vb)), (6, .int (iI vc)), (7, .int (iI vd))] := hl
  have inX8 : ∀ w ∈ u_ws RX8 TX8 32, w ∈ wsX8_command := fun _ h => List.mem_cons_of_mem _ (List.mem_append_right _ h)
  refine z_iloadn F (pc := 0) dX8_command_0 rfl (lv_at hl 1 rfl) ?_
  refine z_i2l F (pc := 1) dX8_command_1 (by omega) ?_
  refine z_lconst F (pc := 2) (0) (by decide +kernel) dX8_command_2 ?_
  refine z_ldc2 F (pc := 3) (3) (by decide +kernel) (List.mem_of_getElem? (i := 1) rfl) dX8_command_3 ?_
  refine z_callSi F (pc := 6) hK hW hA (As := [.long (lI x), .long (lI 0), .long (lI 3)]) (rest := []) (c_X8_in l D cI cZ x 0 3 _ (by omega) (by omega) (by omega)) (va_cwS 3 F.2.2.2.2 gX8_command_X8_in rfl rfl rfl (by decide +kernel) ⟨Nat.le_of_ble_eq_true rfl, Nat.le_of_ble_eq_true rfl⟩) rfl rfl hl.1 (Nat.le_of_ble_eq_true rfl) dX8_command_6 ⟨Nat.le_of_ble_eq_true rfl, Nat.le_of_ble_eq_true rfl⟩ (fun z_6 H locs r_z_6 hp_6 hW => ?_)
  refine z_if_eq F (pc := 9) 118 dX8_command_9 (by decide) (by omega) (fun c_9 => ?_) (fun c_9 => ?_)
  · skip
    have b_9 := zB_f hp_6 c_9
    refine z_iconst F (pc := 118) (-1) dX8_command_118 ?_
    exact hret _ _ _ _ (-1) (cx, cr, cl, ll, cn) dX8_command_119 (by omega) (by (try dsimp only) <;> (exact Or.inl ⟨by unfold cmdOk; omega, rfl, rfl, rfl, rfl, rfl, rfl⟩)) hW
  · skip
    have b_9 := zB_t hp_6 c_9
    refine z_iloadn F (pc := 12) dX8_command_12 rfl (lv_at hl 2 rfl) ?_
    refine z_i2l F (pc := 13) dX8_command_13 (by omega) ?_
    refine z_lconst F (pc := 14) (0) (by decide +kernel) dX8_command_14 ?_
    refine z_ldc2 F (pc := 15) (9) (by decide +kernel) (List.mem_of_getElem? (i := 2) rfl) dX8_command_15 ?_
    refine z_callSi F (pc := 18) hK hW hA (As := [.long (lI k), .long (lI 0), .long (lI 9)]) (rest := []) (c_X8_in l D cI cZ k 0 9 _ (by omega) (by omega) (by omega)) (va_cwS 3 F.2.2.2.2 gX8_command_X8_in rfl rfl rfl (by decide +kernel) ⟨Nat.le_of_ble_eq_true rfl, Nat.le_of_ble_eq_true rfl⟩) rfl rfl hl.1 (Nat.le_of_ble_eq_true rfl) dX8_command_18 ⟨Nat.le_of_ble_eq_true rfl, Nat.le_of_ble_eq_true rfl⟩ (fun z_18 H locs r_z_18 hp_18 hW => ?_)
    refine z_if_eq F (pc := 21) 118 dX8_command_21 (by decide) (by omega) (fun c_21 => ?_) (fun c_21 => ?_)
    · skip
      have b_21 := zB_f hp_18 c_21
      refine z_iconst F (pc := 118) (-1) dX8_command_118 ?_
      exact hret _ _ _ _ (-1) (cx, cr, cl, ll, cn) dX8_command_119 (by omega) (by (try dsimp only) <;> (exact Or.inl ⟨by unfold cmdOk; omega, rfl, rfl, rfl, rfl, rfl, rfl⟩)) hW
    · skip
      have b_21 := zB_t hp_18 c_21
      refine z_iloadn F (pc := 24) dX8_command_24 rfl (lv_at hl 3 rfl) ?_
      refine z_i2l F (pc := 25) dX8_command_25 (by omega) ?_
      refine z_lconst F (pc := 26) (1) (by decide +kernel) dX8_command_26 ?_
      refine z_ldc2 F (pc := 27) (4) (by decide +kernel) (List.mem_of_getElem? (i := 3) rfl) dX8_command_27 ?_
      refine z_callSi F (pc := 30) hK hW hA (As := [.long (lI nn), .long (lI 1), .long (lI 4)]) (rest := []) (c_X8_in l D cI cZ nn 1 4 _ (by omega) (by omega) (by omega)) (va_cwS 3 F.2.2.2.2 gX8_command_X8_in rfl rfl rfl (by decide +kernel) ⟨Nat.le_of_ble_eq_true rfl, Nat.le_of_ble_eq_true rfl⟩) rfl rfl hl.1 (Nat.le_of_ble_eq_true rfl) dX8_command_30 ⟨Nat.le_of_ble_eq_true rfl, Nat.le_of_ble_eq_true rfl⟩ (fun z_30 H locs r_z_30 hp_30 hW => ?_)
      refine z_if_eq F (pc := 33) 118 dX8_command_33 (by decide) (by omega) (fun c_33 => ?_) (fun c_33 => ?_)
      · skip
        have b_33 := zB_f hp_30 c_33
        refine z_iconst F (pc := 118) (-1) dX8_command_118 ?_
        exact hret _ _ _ _ (-1) (cx, cr, cl, ll, cn) dX8_command_119 (by omega) (by (try dsimp only) <;> (exact Or.inl ⟨by unfold cmdOk; omega, rfl, rfl, rfl, rfl, rfl, rfl⟩)) hW
      · skip
        have b_33 := zB_t hp_30 c_33
        refine z_iload F (pc := 36) dX8_command_36 (lv_at hl 4 rfl) ?_
        refine z_i2l F (pc := 38) dX8_command_38 (by omega) ?_
        refine z_lconst F (pc := 39) (0) (by decide +kernel) dX8_command_39 ?_
        refine z_ldc2 F (pc := 40) (9) (by decide +kernel) (List.mem_of_getElem? (i := 2) rfl) dX8_command_40 ?_
        refine z_callSi F (pc := 43) hK hW hA (As := [.long (lI va), .long (lI 0), .long (lI 9)]) (rest := []) (c_X8_in l D cI cZ va 0 9 _ (by omega) (by omega) (by omega)) (va_cwS 3 F.2.2.2.2 gX8_command_X8_in rfl rfl rfl (by decide +kernel) ⟨Nat.le_of_ble_eq_true rfl, Nat.le_of_ble_eq_true rfl⟩) rfl rfl hl.1 (Nat.le_of_ble_eq_true rfl) dX8_command_43 ⟨Nat.le_of_ble_eq_true rfl, Nat.le_of_ble_eq_true rfl⟩ (fun z_43 H locs r_z_43 hp_43 hW => ?_)
        refine z_if_eq F (pc := 46) 118 dX8_command_46 (by decide) (by omega) (fun c_46 => ?_) (fun c_46 => ?_)
        · skip
          have b_46 := zB_f hp_43 c_46
          refine z_iconst F (pc := 118) (-1) dX8_command_118 ?_
          exact hret _ _ _ _ (-1) (cx, cr, cl, ll, cn) dX8_command_119 (by omega) (by (try dsimp only) <;> (exact Or.inl ⟨by unfold cmdOk; omega, rfl, rfl, rfl, rfl, rfl, rfl⟩)) hW
        · skip
          have b_46 := zB_t hp_43 c_46
          refine z_iload F (pc := 49) dX8_command_49 (lv_at hl 5 rfl) ?_
          refine z_i2l F (pc := 51) dX8_command_51 (by omega) ?_
          refine z_lconst F (pc := 52) (0) (by decide +kernel) dX8_command_52 ?_
          refine z_ldc2 F (pc := 53) (9) (by decide +kernel) (List.mem_of_getElem? (i := 2) rfl) dX8_command_53 ?_
          refine z_callSi F (pc := 56) hK hW hA (As := [.long (lI vb), .long (lI 0), .long (lI 9)]) (rest := []) (c_X8_in l D cI cZ vb 0 9 _ (by omega) (by omega) (by omega)) (va_cwS 3 F.2.2.2.2 gX8_command_X8_in rfl rfl rfl (by decide +kernel) ⟨Nat.le_of_ble_eq_true rfl, Nat.le_of_ble_eq_true rfl⟩) rfl rfl hl.1 (Nat.le_of_ble_eq_true rfl) dX8_command_56 ⟨Nat.le_of_ble_eq_true rfl, Nat.le_of_ble_eq_true rfl⟩ (fun z_56 H locs r_z_56 hp_56 hW => ?_)
          refine z_if_eq F (pc := 59) 118 dX8_command_59 (by decide) (by omega) (fun c_59 => ?_) (fun c_59 => ?_)
          · skip
            have b_59 := zB_f hp_56 c_59
            refine z_iconst F (pc := 118) (-1) dX8_command_118 ?_
            exact hret _ _ _ _ (-1) (cx, cr, cl, ll, cn) dX8_command_119 (by omega) (by (try dsimp only) <;> (exact Or.inl ⟨by unfold cmdOk; omega, rfl, rfl, rfl, rfl, rfl, rfl⟩)) hW
          · skip
            have b_59 := zB_t hp_56 c_59
            refine z_iload F (pc := 62) dX8_command_62 (lv_at hl 6 rfl) ?_
            refine z_i2l F (pc := 64) dX8_command_64 (by omega) ?_
            refine z_lconst F (pc := 65) (0) (by decide +kernel) dX8_command_65 ?_
            refine z_ldc2 F (pc := 66) (9) (by decide +kernel) (List.mem_of_getElem? (i := 2) rfl) dX8_command_66 ?_
            refine z_callSi F (pc := 69) hK hW hA (As := [.long (lI vc), .long (lI 0), .long (lI 9)]) (rest := []) (c_X8_in l D cI cZ vc 0 9 _ (by omega) (by omega) (by omega)) (va_cwS 3 F.2.2.2.2 gX8_command_X8_in rfl rfl rfl (by decide +kernel) ⟨Nat.le_of_ble_eq_true rfl, Nat.le_of_ble_eq_true rfl⟩) rfl rfl hl.1 (Nat.le_of_ble_eq_true rfl) dX8_command_69 ⟨Nat.le_of_ble_eq_true rfl, Nat.le_of_ble_eq_true rfl⟩ (fun z_69 H locs r_z_69 hp_69 hW => ?_)
            refine z_if_eq F (pc := 72) 118 dX8_command_72 (by decide) (by omega) (fun c_72 => ?_) (fun c_72 => ?_)
            · skip
              have b_72 := zB_f hp_69 c_72
              refine z_iconst F (pc := 118) (-1) dX8_command_118 ?_
              exact hret _ _ _ _ (-1) (cx, cr, cl, ll, cn) dX8_command_119 (by omega) (by (try dsimp only) <;> (exact Or.inl ⟨by unfold cmdOk; omega, rfl, rfl, rfl, rfl, rfl, rfl⟩)) hW
            · skip
              have b_72 := zB_t hp_69 c_72
              refine z_iload F (pc := 75) dX8_command_75 (lv_at hl 7 rfl) ?_
              refine z_i2l F (pc := 77) dX8_command_77 (by omega) ?_
              refine z_lconst F (pc := 78) (0) (by decide +kernel) dX8_command_78 ?_
              refine z_ldc2 F (pc := 79) (9) (by decide +kernel) (List.mem_of_getElem? (i := 2) rfl) dX8_command_79 ?_
              refine z_callSi F (pc := 82) hK hW hA (As := [.long (lI vd), .long (lI 0), .long (lI 9)]) (rest := []) (c_X8_in l D cI cZ vd 0 9 _ (by omega) (by omega) (by omega)) (va_cwS 3 F.2.2.2.2 gX8_command_X8_in rfl rfl rfl (by decide +kernel) ⟨Nat.le_of_ble_eq_true rfl, Nat.le_of_ble_eq_true rfl⟩) rfl rfl hl.1 (Nat.le_of_ble_eq_true rfl) dX8_command_82 ⟨Nat.le_of_ble_eq_true rfl, Nat.le_of_ble_eq_true rfl⟩ (fun z_82 H locs r_z_82 hp_82 hW => ?_)
              refine z_if_eq F (pc := 85) 118 dX8_command_85 (by decide) (by omega) (fun c_85 => ?_) (fun c_85 => ?_)
              · skip
                have b_85 := zB_f hp_82 c_85
                refine z_iconst F (pc := 118) (-1) dX8_command_118 ?_
                exact hret _ _ _ _ (-1) (cx, cr, cl, ll, cn) dX8_command_119 (by omega) (by (try dsimp only) <;> (exact Or.inl ⟨by unfold cmdOk; omega, rfl, rfl, rfl, rfl, rfl, rfl⟩)) hW
              · skip
                have b_85 := zB_t hp_82 c_85
                refine z_iloadn F (pc := 88) dX8_command_88 rfl (lv_at hl 3 rfl) ?_
                refine z_iconst F (pc := 89) (2) dX8_command_89 ?_
                refine z_icmp_ge F (pc := 90) 98 dX8_command_90 (by decide) (by omega) (fun c_90 => ?_) (fun c_90 => ?_)
                · skip
                  refine z_iloadn F (pc := 98) dX8_command_98 rfl (lv_at hl 3 rfl) ?_
                  refine z_iconst F (pc := 99) (3) dX8_command_99 ?_
                  refine z_icmp_ge F (pc := 100) 108 dX8_command_100 (by decide) (by omega) (fun c_100 => ?_) (fun c_100 => ?_)
                  · skip
                    refine z_iloadn F (pc := 108) dX8_command_108 rfl (lv_at hl 3 rfl) ?_
                    refine z_iconst F (pc := 109) (4) dX8_command_109 ?_
                    refine z_icmp_ge F (pc := 110) 120 dX8_command_110 (by decide) (by omega) (fun c_110 => ?_) (fun c_110 => ?_)
                    · skip
                      refine z_aloadn F (pc := 120) dX8_command_120 rfl (lv_at hl 0 rfl) ?_
                      refine z_get F (pc := 121) (C := RX8) (T := TX8) (N := 32) (ci := 8) inX8 hK hW 0 22 rfl rfl (by decide) rfl (List.mem_of_getElem? (i := 4) rfl) (v := .int (iI cn)) rfl dX8_command_121 ?_
                      refine z_bipush F (pc := 124) (10) (by decide +kernel) dX8_command_124 ?_
                      refine z_icmp_ne F (pc := 126) 132 dX8_command_126 (by decide) (by omega) (fun c_126 => ?_) (fun c_126 => ?_)
                      · skip
                        refine z_aloadn F (pc := 132) dX8_command_132 rfl (lv_at hl 0 rfl) ?_
                        refine z_get F (pc := 133) (C := RX8) (T := TX8) (N := 32) (ci := 8) inX8 hK hW 0 23 rfl rfl (by decide) rfl (List.mem_of_getElem? (i := 5) rfl) (v := .ref (aR 17)) rfl dX8_command_133 ?_
                        refine z_aloadn F (pc := 136) dX8_command_136 rfl (lv_at hl 0 rfl) ?_
                        refine z_get F (pc := 137) (C := RX8) (T := TX8) (N := 32) (ci := 8) inX8 hK hW 0 22 rfl rfl (by decide) rfl (List.mem_of_getElem? (i := 4) rfl) (v := .int (iI cn)) rfl dX8_command_137 ?_
                        refine z_iloadn F (pc := 140) dX8_command_140 rfl (lv_at hl 1 rfl) ?_
                        refine z_iast F (pc := 141) hK hW (ws' := wR cI cZ aR xs ys lf ev nm lb kd pt so nu al ak ap he le rw (zU cx cn x) cr cl ll tl ts tc sz mn ac en mg ln cn wc wp) 17 rfl (by decide) dX8_command_141 (by omega) rfl (fun H locs hW => ?_)
                        refine z_aloadn F (pc := 142) dX8_command_142 rfl (lv_at hl 0 rfl) ?_
                        refine z_get F (pc := 143) (C := RX8) (T := TX8) (N := 32) (ci := 8) inX8 hK hW 0 24 rfl rfl (by decide) rfl (List.mem_of_getElem? (i := 6) rfl) (v := .ref (aR 18)) rfl dX8_command_143 ?_
                        refine z_aloadn F (pc := 146) dX8_command_146 rfl (lv_at hl 0 rfl) ?_
                        refine z_get F (pc := 147) (C := RX8) (T := TX8) (N := 32) (ci := 8) inX8 hK hW 0 22 rfl rfl (by decide) rfl (List.mem_of_getElem? (i := 4) rfl) (v := .int (iI cn)) rfl dX8_command_147 ?_
                        refine z_iloadn F (pc := 150) dX8_command_150 rfl (lv_at hl 2 rfl) ?_
                        refine z_iast F (pc := 151) hK hW (ws' := wR cI cZ aR xs ys lf ev nm lb kd pt so nu al ak ap he le rw (zU cx cn x) (zU cr cn k) cl ll tl ts tc sz mn ac en mg ln cn wc wp) 18 rfl (by decide) dX8_command_151 (by omega) rfl (fun H locs hW => ?_)
                        refine z_aloadn F (pc := 152) dX8_command_152 rfl (lv_at hl 0 rfl) ?_
                        refine z_get F (pc := 153) (C := RX8) (T := TX8) (N := 32) (ci := 8) inX8 hK hW 0 25 rfl rfl (by decide) rfl (List.mem_of_getElem? (i := 7) rfl) (v := .ref (aR 19)) rfl dX8_command_153 ?_
                        refine z_aloadn F (pc := 156) dX8_command_156 rfl (lv_at hl 0 rfl) ?_
                        refine z_get F (pc := 157) (C := RX8) (T := TX8) (N := 32) (ci := 8) inX8 hK hW 0 22 rfl rfl (by decide) rfl (List.mem_of_getElem? (i := 4) rfl) (v := .int (iI cn)) rfl dX8_command_157 ?_
                        refine z_iloadn F (pc := 160) dX8_command_160 rfl (lv_at hl 3 rfl) ?_
                        refine z_iast F (pc := 161) hK hW (ws' := wR cI cZ aR xs ys lf ev nm lb kd pt so nu al ak ap he le rw (zU cx cn x) (zU cr cn k) (zU cl cn nn) ll tl ts tc sz mn ac en mg ln cn wc wp) 19 rfl (by decide) dX8_command_161 (by omega) rfl (fun H locs hW => ?_)
                        refine z_aloadn F (pc := 162) dX8_command_162 rfl (lv_at hl 0 rfl) ?_
                        refine z_get F (pc := 163) (C := RX8) (T := TX8) (N := 32) (ci := 8) inX8 hK hW 0 26 rfl rfl (by decide) rfl (List.mem_of_getElem? (i := 8) rfl) (v := .ref (aR 20)) rfl dX8_command_163 ?_
                        refine z_iconst F (pc := 166) (4) dX8_command_166 ?_
                        refine z_aloadn F (pc := 167) dX8_command_167 rfl (lv_at hl 0 rfl) ?_
                        refine z_get F (pc := 168) (C := RX8) (T := TX8) (N := 32) (ci := 8) inX8 hK hW 0 22 rfl rfl (by decide) rfl (List.mem_of_getElem? (i := 4) rfl) (v := .int (iI cn)) rfl dX8_command_168 ?_
                        refine z_imul F (pc := 171) dX8_command_171 ?_
                        refine z_iload F (pc := 172) dX8_command_172 (lv_at hl 4 rfl) ?_
                        refine z_iast F (pc := 174) hK hW (ws' := wR cI cZ aR xs ys lf ev nm lb kd pt so nu al ak ap he le rw (zU cx cn x) (zU cr cn k) (zU cl cn nn) (zU ll (4 * cn) va) tl ts tc sz mn ac en mg ln cn wc wp) 20 rfl (by decide) dX8_command_174 (by omega) rfl (fun H locs hW => ?_)
                        refine z_aloadn F (pc := 175) dX8_command_175 rfl (lv_at hl 0 rfl) ?_
                        refine z_get F (pc := 176) (C := RX8) (T := TX8) (N := 32) (ci := 8) inX8 hK hW 0 26 rfl rfl (by decide) rfl (List.mem_of_getElem? (i := 8) rfl) (v := .ref (aR 20)) rfl dX8_command_176 ?_
                        refine z_iconst F (pc := 179) (4) dX8_command_179 ?_
                        refine z_aloadn F (pc := 180) dX8_command_180 rfl (lv_at hl 0 rfl) ?_
                        refine z_get F (pc := 181) (C := RX8) (T := TX8) (N := 32) (ci := 8) inX8 hK hW 0 22 rfl rfl (by decide) rfl (List.mem_of_getElem? (i := 4) rfl) (v := .int (iI cn)) rfl dX8_command_181 ?_
                        refine z_imul F (pc := 184) dX8_command_184 ?_
                        refine z_iconst F (pc := 185) (1) dX8_command_185 ?_
                        refine z_iadd F (pc := 186) dX8_command_186 ?_
                        refine z_iload F (pc := 187) dX8_command_187 (lv_at hl 5 rfl) ?_
                        refine z_iast F (pc := 189) hK hW (ws' := wR cI cZ aR xs ys lf ev nm lb kd pt so nu al ak ap he le rw (zU cx cn x) (zU cr cn k) (zU cl cn nn) (zU (zU ll (4 * cn) va) ((4 * cn) + 1) vb) tl ts tc sz mn ac en mg ln cn wc wp) 20 rfl (by decide) dX8_command_189 (by omega) rfl (fun H locs hW => ?_)
                        refine z_aloadn F (pc := 190) dX8_command_190 rfl (lv_at hl 0 rfl) ?_
                        refine z_get F (pc := 191) (C := RX8) (T := TX8) (N := 32) (ci := 8) inX8 hK hW 0 26 rfl rfl (by decide) rfl (List.mem_of_getElem? (i := 8) rfl) (v := .ref (aR 20)) rfl dX8_command_191 ?_
                        refine z_iconst F (pc := 194) (4) dX8_command_194 ?_
                        refine z_aloadn F (pc := 195) dX8_command_195 rfl (lv_at hl 0 rfl) ?_
                        refine z_get F (pc := 196) (C := RX8) (T := TX8) (N := 32) (ci := 8) inX8 hK hW 0 22 rfl rfl (by decide) rfl (List.mem_of_getElem? (i := 4) rfl) (v := .int (iI cn)) rfl dX8_command_196 ?_
                        refine z_imul F (pc := 199) dX8_command_199 ?_
                        refine z_iconst F (pc := 200) (2) dX8_command_200 ?_
                        refine z_iadd F (pc := 201) dX8_command_201 ?_
                        refine z_iload F (pc := 202) dX8_command_202 (lv_at hl 6 rfl) ?_
                        refine z_iast F (pc := 204) hK hW (ws' := wR cI cZ aR xs ys lf ev nm lb kd pt so nu al ak ap he le rw (zU cx cn x) (zU cr cn k) (zU cl cn nn) (zU (zU (zU ll (4 * cn) va) ((4 * cn) + 1) vb) ((4 * cn) + 2) vc) tl ts tc sz mn ac en mg ln cn wc wp) 20 rfl (by decide) dX8_command_204 (by omega) rfl (fun H locs hW => ?_)
                        refine z_aloadn F (pc := 205) dX8_command_205 rfl (lv_at hl 0 rfl) ?_
                        refine z_get F (pc := 206) (C := RX8) (T := TX8) (N := 32) (ci := 8) inX8 hK hW 0 26 rfl rfl (by decide) rfl (List.mem_of_getElem? (i := 8) rfl) (v := .ref (aR 20)) rfl dX8_command_206 ?_
                        refine z_iconst F (pc := 209) (4) dX8_command_209 ?_
                        refine z_aloadn F (pc := 210) dX8_command_210 rfl (lv_at hl 0 rfl) ?_
                        refine z_get F (pc := 211) (C := RX8) (T := TX8) (N := 32) (ci := 8) inX8 hK hW 0 22 rfl rfl (by decide) rfl (List.mem_of_getElem? (i := 4) rfl) (v := .int (iI cn)) rfl dX8_command_211 ?_
                        refine z_imul F (pc := 214) dX8_command_214 ?_
                        refine z_iconst F (pc := 215) (3) dX8_command_215 ?_
                        refine z_iadd F (pc := 216) dX8_command_216 ?_
                        refine z_iload F (pc := 217) dX8_command_217 (lv_at hl 7 rfl) ?_
                        refine z_iast F (pc := 219) hK hW (ws' := wR cI cZ aR xs ys lf ev nm lb kd pt so nu al ak ap he le rw (zU cx cn x) (zU cr cn k) (zU cl cn nn) (zU (zU (zU (zU ll (4 * cn) va) ((4 * cn) + 1) vb) ((4 * cn) + 2) vc) ((4 * cn) + 3) vd) tl ts tc sz mn ac en mg ln cn wc wp) 20 rfl (by decide) dX8_command_219 (by omega) rfl (fun H locs hW => ?_)
                        refine z_aloadn F (pc := 220) dX8_command_220 rfl (lv_at hl 0 rfl) ?_
                        refine z_dup F (pc := 221) dX8_command_221 rfl ?_
                        refine z_get F (pc := 222) (C := RX8) (T := TX8) (N := 32) (ci := 8) inX8 hK hW 0 22 rfl rfl (by decide) rfl (List.mem_of_getElem? (i := 4) rfl) (v := .int (iI cn)) rfl dX8_command_222 ?_
                        refine z_iconst F (pc := 225) (1) dX8_command_225 ?_
                        refine z_iadd F (pc := 226) dX8_command_226 ?_
                        refine z_put F (pc := 227) (C := RX8) (T := TX8) (N := 32) (ci := 8) inX8 tyX8 tyX8_ok nmX8 hK hW (ws' := wR cI cZ aR xs ys lf ev nm lb kd pt so nu al ak ap he le rw (zU cx cn x) (zU cr cn k) (zU cl cn nn) (zU (zU (zU (zU ll (4 * cn) va) ((4 * cn) + 1) vb) ((4 * cn) + 2) vc) ((4 * cn) + 3) vd) tl ts tc sz mn ac en mg ln (cn + 1) wc wp) 0 22 rfl rfl (by decide) rfl (List.mem_of_getElem? (i := 4) rfl) rfl rfl (Nat.le_of_ble_eq_true rfl) dX8_command_227 rfl (fun H locs hW => ?_)
                        refine z_aloadn F (pc := 230) dX8_command_230 rfl (lv_at hl 0 rfl) ?_
                        refine z_get F (pc := 231) (C := RX8) (T := TX8) (N := 32) (ci := 8) inX8 hK hW 0 22 rfl rfl (by decide) rfl (List.mem_of_getElem? (i := 4) rfl) (v := .int (iI (cn + 1))) rfl dX8_command_231 ?_
                        refine z_iconst F (pc := 234) (1) dX8_command_234 ?_
                        refine z_isub F (pc := 235) dX8_command_235 ?_
                        exact hret _ _ _ _ ((cn + 1) - 1) ((zU cx cn x), (zU cr cn k), (zU cl cn nn), (zU (zU (zU (zU ll (4 * cn) va) ((4 * cn) + 1) vb) ((4 * cn) + 2) vc) ((4 * cn) + 3) vd), (cn + 1)) dX8_command_236 (by omega) (by (try dsimp only) <;> (exact Or.inr (Or.inr ⟨by unfold cmdOk; omega, by omega, by omega, rfl, rfl, rfl, rfl, rfl⟩))) hW
                      · skip
                        refine z_bipush F (pc := 129) (-3) (by decide +kernel) dX8_command_129 ?_
                        exact hret _ _ _ _ (-3) (cx, cr, cl, ll, cn) dX8_command_131 (by omega) (by (try dsimp only) <;> (exact Or.inr (Or.inl ⟨by unfold cmdOk; omega, by omega, rfl, rfl, rfl, rfl, rfl, rfl⟩))) hW
                    · skip
                      refine z_iload F (pc := 113) dX8_command_113 (lv_at hl 7 rfl) ?_
                      refine z_if_eq F (pc := 115) 120 dX8_command_115 (by decide) (by omega) (fun c_115 => ?_) (fun c_115 => ?_)
                      · skip
                        refine z_aloadn F (pc := 120) dX8_command_120 rfl (lv_at hl 0 rfl) ?_
                        refine z_get F (pc := 121) (C := RX8) (T := TX8) (N := 32) (ci := 8) inX8 hK hW 0 22 rfl rfl (by decide) rfl (List.mem_of_getElem? (i := 4) rfl) (v := .int (iI cn)) rfl dX8_command_121 ?_
                        refine z_bipush F (pc := 124) (10) (by decide +kernel) dX8_command_124 ?_
                        refine z_icmp_ne F (pc := 126) 132 dX8_command_126 (by decide) (by omega) (fun c_126 => ?_) (fun c_126 => ?_)
                        · skip
                          refine z_aloadn F (pc := 132) dX8_command_132 rfl (lv_at hl 0 rfl) ?_
                          refine z_get F (pc := 133) (C := RX8) (T := TX8) (N := 32) (ci := 8) inX8 hK hW 0 23 rfl rfl (by decide) rfl (List.mem_of_getElem? (i := 5) rfl) (v := .ref (aR 17)) rfl dX8_command_133 ?_
                          refine z_aloadn F (pc := 136) dX8_command_136 rfl (lv_at hl 0 rfl) ?_
                          refine z_get F (pc := 137) (C := RX8) (T := TX8) (N := 32) (ci := 8) inX8 hK hW 0 22 rfl rfl (by decide) rfl (List.mem_of_getElem? (i := 4) rfl) (v := .int (iI cn)) rfl dX8_command_137 ?_
                          refine z_iloadn F (pc := 140) dX8_command_140 rfl (lv_at hl 1 rfl) ?_
                          refine z_iast F (pc := 141) hK hW (ws' := wR cI cZ aR xs ys lf ev nm lb kd pt so nu al ak ap he le rw (zU cx cn x) cr cl ll tl ts tc sz mn ac en mg ln cn wc wp) 17 rfl (by decide) dX8_command_141 (by omega) rfl (fun H locs hW => ?_)
                          refine z_aloadn F (pc := 142) dX8_command_142 rfl (lv_at hl 0 rfl) ?_
                          refine z_get F (pc := 143) (C := RX8) (T := TX8) (N := 32) (ci := 8) inX8 hK hW 0 24 rfl rfl (by decide) rfl (List.mem_of_getElem? (i := 6) rfl) (v := .ref (aR 18)) rfl dX8_command_143 ?_
                          refine z_aloadn F (pc := 146) dX8_command_146 rfl (lv_at hl 0 rfl) ?_
                          refine z_get F (pc := 147) (C := RX8) (T := TX8) (N := 32) (ci := 8) inX8 hK hW 0 22 rfl rfl (by decide) rfl (List.mem_of_getElem? (i := 4) rfl) (v := .int (iI cn)) rfl dX8_command_147 ?_
                          refine z_iloadn F (pc := 150) dX8_command_150 rfl (lv_at hl 2 rfl) ?_
                          refine z_iast F (pc := 151) hK hW (ws' := wR cI cZ aR xs ys lf ev nm lb kd pt so nu al ak ap he le rw (zU cx cn x) (zU cr cn k) cl ll tl ts tc sz mn ac en mg ln cn wc wp) 18 rfl (by decide) dX8_command_151 (by omega) rfl (fun H locs hW => ?_)
                          refine z_aloadn F (pc := 152) dX8_command_152 rfl (lv_at hl 0 rfl) ?_
                          refine z_get F (pc := 153) (C := RX8) (T := TX8) (N := 32) (ci := 8) inX8 hK hW 0 25 rfl rfl (by decide) rfl (List.mem_of_getElem? (i := 7) rfl) (v := .ref (aR 19)) rfl dX8_command_153 ?_
                          refine z_aloadn F (pc := 156) dX8_command_156 rfl (lv_at hl 0 rfl) ?_
                          refine z_get F (pc := 157) (C := RX8) (T := TX8) (N := 32) (ci := 8) inX8 hK hW 0 22 rfl rfl (by decide) rfl (List.mem_of_getElem? (i := 4) rfl) (v := .int (iI cn)) rfl dX8_command_157 ?_
                          refine z_iloadn F (pc := 160) dX8_command_160 rfl (lv_at hl 3 rfl) ?_
                          refine z_iast F (pc := 161) hK hW (ws' := wR cI cZ aR xs ys lf ev nm lb kd pt so nu al ak ap he le rw (zU cx cn x) (zU cr cn k) (zU cl cn nn) ll tl ts tc sz mn ac en mg ln cn wc wp) 19 rfl (by decide) dX8_command_161 (by omega) rfl (fun H locs hW => ?_)
                          refine z_aloadn F (pc := 162) dX8_command_162 rfl (lv_at hl 0 rfl) ?_
                          refine z_get F (pc := 163) (C := RX8) (T := TX8) (N := 32) (ci := 8) inX8 hK hW 0 26 rfl rfl (by decide) rfl (List.mem_of_getElem? (i := 8) rfl) (v := .ref (aR 20)) rfl dX8_command_163 ?_
                          refine z_iconst F (pc := 166) (4) dX8_command_166 ?_
                          refine z_aloadn F (pc := 167) dX8_command_167 rfl (lv_at hl 0 rfl) ?_
                          refine z_get F (pc := 168) (C := RX8) (T := TX8) (N := 32) (ci := 8) inX8 hK hW 0 22 rfl rfl (by decide) rfl (List.mem_of_getElem? (i := 4) rfl) (v := .int (iI cn)) rfl dX8_command_168 ?_
                          refine z_imul F (pc := 171) dX8_command_171 ?_
                          refine z_iload F (pc := 172) dX8_command_172 (lv_at hl 4 rfl) ?_
                          refine z_iast F (pc := 174) hK hW (ws' := wR cI cZ aR xs ys lf ev nm lb kd pt so nu al ak ap he le rw (zU cx cn x) (zU cr cn k) (zU cl cn nn) (zU ll (4 * cn) va) tl ts tc sz mn ac en mg ln cn wc wp) 20 rfl (by decide) dX8_command_174 (by omega) rfl (fun H locs hW => ?_)
                          refine z_aloadn F (pc := 175) dX8_command_175 rfl (lv_at hl 0 rfl) ?_
                          refine z_get F (pc := 176) (C := RX8) (T := TX8) (N := 32) (ci := 8) inX8 hK hW 0 26 rfl rfl (by decide) rfl (List.mem_of_getElem? (i := 8) rfl) (v := .ref (aR 20)) rfl dX8_command_176 ?_
                          refine z_iconst F (pc := 179) (4) dX8_command_179 ?_
                          refine z_aloadn F (pc := 180) dX8_command_180 rfl (lv_at hl 0 rfl) ?_
                          refine z_get F (pc := 181) (C := RX8) (T := TX8) (N := 32) (ci := 8) inX8 hK hW 0 22 rfl rfl (by decide) rfl (List.mem_of_getElem? (i := 4) rfl) (v := .int (iI cn)) rfl dX8_command_181 ?_
                          refine z_imul F (pc := 184) dX8_command_184 ?_
                          refine z_iconst F (pc := 185) (1) dX8_command_185 ?_
                          refine z_iadd F (pc := 186) dX8_command_186 ?_
                          refine z_iload F (pc := 187) dX8_command_187 (lv_at hl 5 rfl) ?_
                          refine z_iast F (pc := 189) hK hW (ws' := wR cI cZ aR xs ys lf ev nm lb kd pt so nu al ak ap he le rw (zU cx cn x) (zU cr cn k) (zU cl cn nn) (zU (zU ll (4 * cn) va) ((4 * cn) + 1) vb) tl ts tc sz mn ac en mg ln cn wc wp) 20 rfl (by decide) dX8_command_189 (by omega) rfl (fun H locs hW => ?_)
                          refine z_aloadn F (pc := 190) dX8_command_190 rfl (lv_at hl 0 rfl) ?_
                          refine z_get F (pc := 191) (C := RX8) (T := TX8) (N := 32) (ci := 8) inX8 hK hW 0 26 rfl rfl (by decide) rfl (List.mem_of_getElem? (i := 8) rfl) (v := .ref (aR 20)) rfl dX8_command_191 ?_
                          refine z_iconst F (pc := 194) (4) dX8_command_194 ?_
                          refine z_aloadn F (pc := 195) dX8_command_195 rfl (lv_at hl 0 rfl) ?_
                          refine z_get F (pc := 196) (C := RX8) (T := TX8) (N := 32) (ci := 8) inX8 hK hW 0 22 rfl rfl (by decide) rfl (List.mem_of_getElem? (i := 4) rfl) (v := .int (iI cn)) rfl dX8_command_196 ?_
                          refine z_imul F (pc := 199) dX8_command_199 ?_
                          refine z_iconst F (pc := 200) (2) dX8_command_200 ?_
                          refine z_iadd F (pc := 201) dX8_command_201 ?_
                          refine z_iload F (pc := 202) dX8_command_202 (lv_at hl 6 rfl) ?_
                          refine z_iast F (pc := 204) hK hW (ws' := wR cI cZ aR xs ys lf ev nm lb kd pt so nu al ak ap he le rw (zU cx cn x) (zU cr cn k) (zU cl cn nn) (zU (zU (zU ll (4 * cn) va) ((4 * cn) + 1) vb) ((4 * cn) + 2) vc) tl ts tc sz mn ac en mg ln cn wc wp) 20 rfl (by decide) dX8_command_204 (by omega) rfl (fun H locs hW => ?_)
                          refine z_aloadn F (pc := 205) dX8_command_205 rfl (lv_at hl 0 rfl) ?_
                          refine z_get F (pc := 206) (C := RX8) (T := TX8) (N := 32) (ci := 8) inX8 hK hW 0 26 rfl rfl (by decide) rfl (List.mem_of_getElem? (i := 8) rfl) (v := .ref (aR 20)) rfl dX8_command_206 ?_
                          refine z_iconst F (pc := 209) (4) dX8_command_209 ?_
                          refine z_aloadn F (pc := 210) dX8_command_210 rfl (lv_at hl 0 rfl) ?_
                          refine z_get F (pc := 211) (C := RX8) (T := TX8) (N := 32) (ci := 8) inX8 hK hW 0 22 rfl rfl (by decide) rfl (List.mem_of_getElem? (i := 4) rfl) (v := .int (iI cn)) rfl dX8_command_211 ?_
                          refine z_imul F (pc := 214) dX8_command_214 ?_
                          refine z_iconst F (pc := 215) (3) dX8_command_215 ?_
                          refine z_iadd F (pc := 216) dX8_command_216 ?_
                          refine z_iload F (pc := 217) dX8_command_217 (lv_at hl 7 rfl) ?_
                          refine z_iast F (pc := 219) hK hW (ws' := wR cI cZ aR xs ys lf ev nm lb kd pt so nu al ak ap he le rw (zU cx cn x) (zU cr cn k) (zU cl cn nn) (zU (zU (zU (zU ll (4 * cn) va) ((4 * cn) + 1) vb) ((4 * cn) + 2) vc) ((4 * cn) + 3) vd) tl ts tc sz mn ac en mg ln cn wc wp) 20 rfl (by decide) dX8_command_219 (by omega) rfl (fun H locs hW => ?_)
                          refine z_aloadn F (pc := 220) dX8_command_220 rfl (lv_at hl 0 rfl) ?_
                          refine z_dup F (pc := 221) dX8_command_221 rfl ?_
                          refine z_get F (pc := 222) (C := RX8) (T := TX8) (N := 32) (ci := 8) inX8 hK hW 0 22 rfl rfl (by decide) rfl (List.mem_of_getElem? (i := 4) rfl) (v := .int (iI cn)) rfl dX8_command_222 ?_
                          refine z_iconst F (pc := 225) (1) dX8_command_225 ?_
                          refine z_iadd F (pc := 226) dX8_command_226 ?_
                          refine z_put F (pc := 227) (C := RX8) (T := TX8) (N := 32) (ci := 8) inX8 tyX8 tyX8_ok nmX8 hK hW (ws' := wR cI cZ aR xs ys lf ev nm lb kd pt so nu al ak ap he le rw (zU cx cn x) (zU cr cn k) (zU cl cn nn) (zU (zU (zU (zU ll (4 * cn) va) ((4 * cn) + 1) vb) ((4 * cn) + 2) vc) ((4 * cn) + 3) vd) tl ts tc sz mn ac en mg ln (cn + 1) wc wp) 0 22 rfl rfl (by decide) rfl (List.mem_of_getElem? (i := 4) rfl) rfl rfl (Nat.le_of_ble_eq_true rfl) dX8_command_227 rfl (fun H locs hW => ?_)
                          refine z_aloadn F (pc := 230) dX8_command_230 rfl (lv_at hl 0 rfl) ?_
                          refine z_get F (pc := 231) (C := RX8) (T := TX8) (N := 32) (ci := 8) inX8 hK hW 0 22 rfl rfl (by decide) rfl (List.mem_of_getElem? (i := 4) rfl) (v := .int (iI (cn + 1))) rfl dX8_command_231 ?_
                          refine z_iconst F (pc := 234) (1) dX8_command_234 ?_
                          refine z_isub F (pc := 235) dX8_command_235 ?_
                          exact hret _ _ _ _ ((cn + 1) - 1) ((zU cx cn x), (zU cr cn k), (zU cl cn nn), (zU (zU (zU (zU ll (4 * cn) va) ((4 * cn) + 1) vb) ((4 * cn) + 2) vc) ((4 * cn) + 3) vd), (cn + 1)) dX8_command_236 (by omega) (by (try dsimp only) <;> (exact Or.inr (Or.inr ⟨by unfold cmdOk; omega, by omega, by omega, rfl, rfl, rfl, rfl, rfl⟩))) hW
                        · skip
                          refine z_bipush F (pc := 129) (-3) (by decide +kernel) dX8_command_129 ?_
                          exact hret _ _ _ _ (-3) (cx, cr, cl, ll, cn) dX8_command_131 (by omega) (by (try dsimp only) <;> (exact Or.inr (Or.inl ⟨by unfold cmdOk; omega, by omega, rfl, rfl, rfl, rfl, rfl, rfl⟩))) hW
                      · skip
                        refine z_iconst F (pc := 118) (-1) dX8_command_118 ?_
                        exact hret _ _ _ _ (-1) (cx, cr, cl, ll, cn) dX8_command_119 (by omega) (by (try dsimp only) <;> (exact Or.inl ⟨by unfold cmdOk; omega, rfl, rfl, rfl, rfl, rfl, rfl⟩)) hW
                  · skip
                    refine z_iload F (pc := 103) dX8_command_103 (lv_at hl 6 rfl) ?_
                    refine z_if_ne F (pc := 105) 118 dX8_command_105 (by decide) (by omega) (fun c_105 => ?_) (fun c_105 => ?_)
                    · skip
                      refine z_iconst F (pc := 118) (-1) dX8_command_118 ?_
                      exact hret _ _ _ _ (-1) (cx, cr, cl, ll, cn) dX8_command_119 (by omega) (by (try dsimp only) <;> (exact Or.inl ⟨by unfold cmdOk; omega, rfl, rfl, rfl, rfl, rfl, rfl⟩)) hW
                    · skip
                      refine z_iloadn F (pc := 108) dX8_command_108 rfl (lv_at hl 3 rfl) ?_
                      refine z_iconst F (pc := 109) (4) dX8_command_109 ?_
                      refine z_icmp_ge F (pc := 110) 120 dX8_command_110 (by decide) (by omega) (fun c_110 => ?_) (fun c_110 => ?_)
                      · skip
                        refine z_aloadn F (pc := 120) dX8_command_120 rfl (lv_at hl 0 rfl) ?_
                        refine z_get F (pc := 121) (C := RX8) (T := TX8) (N := 32) (ci := 8) inX8 hK hW 0 22 rfl rfl (by decide) rfl (List.mem_of_getElem? (i := 4) rfl) (v := .int (iI cn)) rfl dX8_command_121 ?_
                        refine z_bipush F (pc := 124) (10) (by decide +kernel) dX8_command_124 ?_
                        refine z_icmp_ne F (pc := 126) 132 dX8_command_126 (by decide) (by omega) (fun c_126 => ?_) (fun c_126 => ?_)
                        · skip
                          refine z_aloadn F (pc := 132) dX8_command_132 rfl (lv_at hl 0 rfl) ?_
                          refine z_get F (pc := 133) (C := RX8) (T := TX8) (N := 32) (ci := 8) inX8 hK hW 0 23 rfl rfl (by decide) rfl (List.mem_of_getElem? (i := 5) rfl) (v := .ref (aR 17)) rfl dX8_command_133 ?_
                          refine z_aloadn F (pc := 136) dX8_command_136 rfl (lv_at hl 0 rfl) ?_
                          refine z_get F (pc := 137) (C := RX8) (T := TX8) (N := 32) (ci := 8) inX8 hK hW 0 22 rfl rfl (by decide) rfl (List.mem_of_getElem? (i := 4) rfl) (v := .int (iI cn)) rfl dX8_command_137 ?_
                          refine z_iloadn F (pc := 140) dX8_command_140 rfl (lv_at hl 1 rfl) ?_
                          refine z_iast F (pc := 141) hK hW (ws' := wR cI cZ aR xs ys lf ev nm lb kd pt so nu al ak ap he le rw (zU cx cn x) cr cl ll tl ts tc sz mn ac en mg ln cn wc wp) 17 rfl (by decide) dX8_command_141 (by omega) rfl (fun H locs hW => ?_)
                          refine z_aloadn F (pc := 142) dX8_command_142 rfl (lv_at hl 0 rfl) ?_
                          refine z_get F (pc := 143) (C := RX8) (T := TX8) (N := 32) (ci := 8) inX8 hK hW 0 24 rfl rfl (by decide) rfl (List.mem_of_getElem? (i := 6) rfl) (v := .ref (aR 18)) rfl dX8_command_143 ?_
                          refine z_aloadn F (pc := 146) dX8_command_146 rfl (lv_at hl 0 rfl) ?_
                          refine z_get F (pc := 147) (C := RX8) (T := TX8) (N := 32) (ci := 8) inX8 hK hW 0 22 rfl rfl (by decide) rfl (List.mem_of_getElem? (i := 4) rfl) (v := .int (iI cn)) rfl dX8_command_147 ?_
                          refine z_iloadn F (pc := 150) dX8_command_150 rfl (lv_at hl 2 rfl) ?_
                          refine z_iast F (pc := 151) hK hW (ws' := wR cI cZ aR xs ys lf ev nm lb kd pt so nu al ak ap he le rw (zU cx cn x) (zU cr cn k) cl ll tl ts tc sz mn ac en mg ln cn wc wp) 18 rfl (by decide) dX8_command_151 (by omega) rfl (fun H locs hW => ?_)
                          refine z_aloadn F (pc := 152) dX8_command_152 rfl (lv_at hl 0 rfl) ?_
                          refine z_get F (pc := 153) (C := RX8) (T := TX8) (N := 32) (ci := 8) inX8 hK hW 0 25 rfl rfl (by decide) rfl (List.mem_of_getElem? (i := 7) rfl) (v := .ref (aR 19)) rfl dX8_command_153 ?_
                          refine z_aloadn F (pc := 156) dX8_command_156 rfl (lv_at hl 0 rfl) ?_
                          refine z_get F (pc := 157) (C := RX8) (T := TX8) (N := 32) (ci := 8) inX8 hK hW 0 22 rfl rfl (by decide) rfl (List.mem_of_getElem? (i := 4) rfl) (v := .int (iI cn)) rfl dX8_command_157 ?_
                          refine z_iloadn F (pc := 160) dX8_command_160 rfl (lv_at hl 3 rfl) ?_
                          refine z_iast F (pc := 161) hK hW (ws' := wR cI cZ aR xs ys lf ev nm lb kd pt so nu al ak ap he le rw (zU cx cn x) (zU cr cn k) (zU cl cn nn) ll tl ts tc sz mn ac en mg ln cn wc wp) 19 rfl (by decide) dX8_command_161 (by omega) rfl (fun H locs hW => ?_)
                          refine z_aloadn F (pc := 162) dX8_command_162 rfl (lv_at hl 0 rfl) ?_
                          refine z_get F (pc := 163) (C := RX8) (T := TX8) (N := 32) (ci := 8) inX8 hK hW 0 26 rfl rfl (by decide) rfl (List.mem_of_getElem? (i := 8) rfl) (v := .ref (aR 20)) rfl dX8_command_163 ?_
                          refine z_iconst F (pc := 166) (4) dX8_command_166 ?_
                          refine z_aloadn F (pc := 167) dX8_command_167 rfl (lv_at hl 0 rfl) ?_
                          refine z_get F (pc := 168) (C := RX8) (T := TX8) (N := 32) (ci := 8) inX8 hK hW 0 22 rfl rfl (by decide) rfl (List.mem_of_getElem? (i := 4) rfl) (v := .int (iI cn)) rfl dX8_command_168 ?_
                          refine z_imul F (pc := 171) dX8_command_171 ?_
                          refine z_iload F (pc := 172) dX8_command_172 (lv_at hl 4 rfl) ?_
                          refine z_iast F (pc := 174) hK hW (ws' := wR cI cZ aR xs ys lf ev nm lb kd pt so nu al ak ap he le rw (zU cx cn x) (zU cr cn k) (zU cl cn nn) (zU ll (4 * cn) va) tl ts tc sz mn ac en mg ln cn wc wp) 20 rfl (by decide) dX8_command_174 (by omega) rfl (fun H locs hW => ?_)
                          refine z_aloadn F (pc := 175) dX8_command_175 rfl (lv_at hl 0 rfl) ?_
                          refine z_get F (pc := 176) (C := RX8) (T := TX8) (N := 32) (ci := 8) inX8 hK hW 0 26 rfl rfl (by decide) rfl (List.mem_of_getElem? (i := 8) rfl) (v := .ref (aR 20)) rfl dX8_command_176 ?_
                          refine z_iconst F (pc := 179) (4) dX8_command_179 ?_
                          refine z_aloadn F (pc := 180) dX8_command_180 rfl (lv_at hl 0 rfl) ?_
                          refine z_get F (pc := 181) (C := RX8) (T := TX8) (N := 32) (ci := 8) inX8 hK hW 0 22 rfl rfl (by decide) rfl (List.mem_of_getElem? (i := 4) rfl) (v := .int (iI cn)) rfl dX8_command_181 ?_
                          refine z_imul F (pc := 184) dX8_command_184 ?_
                          refine z_iconst F (pc := 185) (1) dX8_command_185 ?_
                          refine z_iadd F (pc := 186) dX8_command_186 ?_
                          refine z_iload F (pc := 187) dX8_command_187 (lv_at hl 5 rfl) ?_
                          refine z_iast F (pc := 189) hK hW (ws' := wR cI cZ aR xs ys lf ev nm lb kd pt so nu al ak ap he le rw (zU cx cn x) (zU cr cn k) (zU cl cn nn) (zU (zU ll (4 * cn) va) ((4 * cn) + 1) vb) tl ts tc sz mn ac en mg ln cn wc wp) 20 rfl (by decide) dX8_command_189 (by omega) rfl (fun H locs hW => ?_)
                          refine z_aloadn F (pc := 190) dX8_command_190 rfl (lv_at hl 0 rfl) ?_
                          refine z_get F (pc := 191) (C := RX8) (T := TX8) (N := 32) (ci := 8) inX8 hK hW 0 26 rfl rfl (by decide) rfl (List.mem_of_getElem? (i := 8) rfl) (v := .ref (aR 20)) rfl dX8_command_191 ?_
                          refine z_iconst F (pc := 194) (4) dX8_command_194 ?_
                          refine z_aloadn F (pc := 195) dX8_command_195 rfl (lv_at hl 0 rfl) ?_
                          refine z_get F (pc := 196) (C := RX8) (T := TX8) (N := 32) (ci := 8) inX8 hK hW 0 22 rfl rfl (by decide) rfl (List.mem_of_getElem? (i := 4) rfl) (v := .int (iI cn)) rfl dX8_command_196 ?_
                          refine z_imul F (pc := 199) dX8_command_199 ?_
                          refine z_iconst F (pc := 200) (2) dX8_command_200 ?_
                          refine z_iadd F (pc := 201) dX8_command_201 ?_
                          refine z_iload F (pc := 202) dX8_command_202 (lv_at hl 6 rfl) ?_
                          refine z_iast F (pc := 204) hK hW (ws' := wR cI cZ aR xs ys lf ev nm lb kd pt so nu al ak ap he le rw (zU cx cn x) (zU cr cn k) (zU cl cn nn) (zU (zU (zU ll (4 * cn) va) ((4 * cn) + 1) vb) ((4 * cn) + 2) vc) tl ts tc sz mn ac en mg ln cn wc wp) 20 rfl (by decide) dX8_command_204 (by omega) rfl (fun H locs hW => ?_)
                          refine z_aloadn F (pc := 205) dX8_command_205 rfl (lv_at hl 0 rfl) ?_
                          refine z_get F (pc := 206) (C := RX8) (T := TX8) (N := 32) (ci := 8) inX8 hK hW 0 26 rfl rfl (by decide) rfl (List.mem_of_getElem? (i := 8) rfl) (v := .ref (aR 20)) rfl dX8_command_206 ?_
                          refine z_iconst F (pc := 209) (4) dX8_command_209 ?_
                          refine z_aloadn F (pc := 210) dX8_command_210 rfl (lv_at hl 0 rfl) ?_
                          refine z_get F (pc := 211) (C := RX8) (T := TX8) (N := 32) (ci := 8) inX8 hK hW 0 22 rfl rfl (by decide) rfl (List.mem_of_getElem? (i := 4) rfl) (v := .int (iI cn)) rfl dX8_command_211 ?_
                          refine z_imul F (pc := 214) dX8_command_214 ?_
                          refine z_iconst F (pc := 215) (3) dX8_command_215 ?_
                          refine z_iadd F (pc := 216) dX8_command_216 ?_
                          refine z_iload F (pc := 217) dX8_command_217 (lv_at hl 7 rfl) ?_
                          refine z_iast F (pc := 219) hK hW (ws' := wR cI cZ aR xs ys lf ev nm lb kd pt so nu al ak ap he le rw (zU cx cn x) (zU cr cn k) (zU cl cn nn) (zU (zU (zU (zU ll (4 * cn) va) ((4 * cn) + 1) vb) ((4 * cn) + 2) vc) ((4 * cn) + 3) vd) tl ts tc sz mn ac en mg ln cn wc wp) 20 rfl (by decide) dX8_command_219 (by omega) rfl (fun H locs hW => ?_)
                          refine z_aloadn F (pc := 220) dX8_command_220 rfl (lv_at hl 0 rfl) ?_
                          refine z_dup F (pc := 221) dX8_command_221 rfl ?_
                          refine z_get F (pc := 222) (C := RX8) (T := TX8) (N := 32) (ci := 8) inX8 hK hW 0 22 rfl rfl (by decide) rfl (List.mem_of_getElem? (i := 4) rfl) (v := .int (iI cn)) rfl dX8_command_222 ?_
                          refine z_iconst F (pc := 225) (1) dX8_command_225 ?_
                          refine z_iadd F (pc := 226) dX8_command_226 ?_
                          refine z_put F (pc := 227) (C := RX8) (T := TX8) (N := 32) (ci := 8) inX8 tyX8 tyX8_ok nmX8 hK hW (ws' := wR cI cZ aR xs ys lf ev nm lb kd pt so nu al ak ap he le rw (zU cx cn x) (zU cr cn k) (zU cl cn nn) (zU (zU (zU (zU ll (4 * cn) va) ((4 * cn) + 1) vb) ((4 * cn) + 2) vc) ((4 * cn) + 3) vd) tl ts tc sz mn ac en mg ln (cn + 1) wc wp) 0 22 rfl rfl (by decide) rfl (List.mem_of_getElem? (i := 4) rfl) rfl rfl (Nat.le_of_ble_eq_true rfl) dX8_command_227 rfl (fun H locs hW => ?_)
                          refine z_aloadn F (pc := 230) dX8_command_230 rfl (lv_at hl 0 rfl) ?_
                          refine z_get F (pc := 231) (C := RX8) (T := TX8) (N := 32) (ci := 8) inX8 hK hW 0 22 rfl rfl (by decide) rfl (List.mem_of_getElem? (i := 4) rfl) (v := .int (iI (cn + 1))) rfl dX8_command_231 ?_
                          refine z_iconst F (pc := 234) (1) dX8_command_234 ?_
                          refine z_isub F (pc := 235) dX8_command_235 ?_
                          exact hret _ _ _ _ ((cn + 1) - 1) ((zU cx cn x), (zU cr cn k), (zU cl cn nn), (zU (zU (zU (zU ll (4 * cn) va) ((4 * cn) + 1) vb) ((4 * cn) + 2) vc) ((4 * cn) + 3) vd), (cn + 1)) dX8_command_236 (by omega) (by (try dsimp only) <;> (exact Or.inr (Or.inr ⟨by unfold cmdOk; omega, by omega, by omega, rfl, rfl, rfl, rfl, rfl⟩))) hW
                        · skip
                          refine z_bipush F (pc := 129) (-3) (by decide +kernel) dX8_command_129 ?_
                          exact hret _ _ _ _ (-3) (cx, cr, cl, ll, cn) dX8_command_131 (by omega) (by (try dsimp only) <;> (exact Or.inr (Or.inl ⟨by unfold cmdOk; omega, by omega, rfl, rfl, rfl, rfl, rfl, rfl⟩))) hW
                      · skip
                        refine z_iload F (pc := 113) dX8_command_113 (lv_at hl 7 rfl) ?_
                        refine z_if_eq F (pc := 115) 120 dX8_command_115 (by decide) (by omega) (fun c_115 => ?_) (fun c_115 => ?_)
                        · skip
                          refine z_aloadn F (pc := 120) dX8_command_120 rfl (lv_at hl 0 rfl) ?_
                          refine z_get F (pc := 121) (C := RX8) (T := TX8) (N := 32) (ci := 8) inX8 hK hW 0 22 rfl rfl (by decide) rfl (List.mem_of_getElem? (i := 4) rfl) (v := .int (iI cn)) rfl dX8_command_121 ?_
                          refine z_bipush F (pc := 124) (10) (by decide +kernel) dX8_command_124 ?_
                          refine z_icmp_ne F (pc := 126) 132 dX8_command_126 (by decide) (by omega) (fun c_126 => ?_) (fun c_126 => ?_)
                          · skip
                            refine z_aloadn F (pc := 132) dX8_command_132 rfl (lv_at hl 0 rfl) ?_
                            refine z_get F (pc := 133) (C := RX8) (T := TX8) (N := 32) (ci := 8) inX8 hK hW 0 23 rfl rfl (by decide) rfl (List.mem_of_getElem? (i := 5) rfl) (v := .ref (aR 17)) rfl dX8_command_133 ?_
                            refine z_aloadn F (pc := 136) dX8_command_136 rfl (lv_at hl 0 rfl) ?_
                            refine z_get F (pc := 137) (C := RX8) (T := TX8) (N := 32) (ci := 8) inX8 hK hW 0 22 rfl rfl (by decide) rfl (List.mem_of_getElem? (i := 4) rfl) (v := .int (iI cn)) rfl dX8_command_137 ?_
                            refine z_iloadn F (pc := 140) dX8_command_140 rfl (lv_at hl 1 rfl) ?_
                            refine z_iast F (pc := 141) hK hW (ws' := wR cI cZ aR xs ys lf ev nm lb kd pt so nu al ak ap he le rw (zU cx cn x) cr cl ll tl ts tc sz mn ac en mg ln cn wc wp) 17 rfl (by decide) dX8_command_141 (by omega) rfl (fun H locs hW => ?_)
                            refine z_aloadn F (pc := 142) dX8_command_142 rfl (lv_at hl 0 rfl) ?_
                            refine z_get F (pc := 143) (C := RX8) (T := TX8) (N := 32) (ci := 8) inX8 hK hW 0 24 rfl rfl (by decide) rfl (List.mem_of_getElem? (i := 6) rfl) (v := .ref (aR 18)) rfl dX8_command_143 ?_
                            refine z_aloadn F (pc := 146) dX8_command_146 rfl (lv_at hl 0 rfl) ?_
                            refine z_get F (pc := 147) (C := RX8) (T := TX8) (N := 32) (ci := 8) inX8 hK hW 0 22 rfl rfl (by decide) rfl (List.mem_of_getElem? (i := 4) rfl) (v := .int (iI cn)) rfl dX8_command_147 ?_
                            refine z_iloadn F (pc := 150) dX8_command_150 rfl (lv_at hl 2 rfl) ?_
                            refine z_iast F (pc := 151) hK hW (ws' := wR cI cZ aR xs ys lf ev nm lb kd pt so nu al ak ap he le rw (zU cx cn x) (zU cr cn k) cl ll tl ts tc sz mn ac en mg ln cn wc wp) 18 rfl (by decide) dX8_command_151 (by omega) rfl (fun H locs hW => ?_)
                            refine z_aloadn F (pc := 152) dX8_command_152 rfl (lv_at hl 0 rfl) ?_
                            refine z_get F (pc := 153) (C := RX8) (T := TX8) (N := 32) (ci := 8) inX8 hK hW 0 25 rfl rfl (by decide) rfl (List.mem_of_getElem? (i := 7) rfl) (v := .ref (aR 19)) rfl dX8_command_153 ?_
                            refine z_aloadn F (pc := 156) dX8_command_156 rfl (lv_at hl 0 rfl) ?_
                            refine z_get F (pc := 157) (C := RX8) (T := TX8) (N := 32) (ci := 8) inX8 hK hW 0 22 rfl rfl (by decide) rfl (List.mem_of_getElem? (i := 4) rfl) (v := .int (iI cn)) rfl dX8_command_157 ?_
                            refine z_iloadn F (pc := 160) dX8_command_160 rfl (lv_at hl 3 rfl) ?_
                            refine z_iast F (pc := 161) hK hW (ws' := wR cI cZ aR xs ys lf ev nm lb kd pt so nu al ak ap he le rw (zU cx cn x) (zU cr cn k) (zU cl cn nn) ll tl ts tc sz mn ac en mg ln cn wc wp) 19 rfl (by decide) dX8_command_161 (by omega) rfl (fun H locs hW => ?_)
                            refine z_aloadn F (pc := 162) dX8_command_162 rfl (lv_at hl 0 rfl) ?_
                            refine z_get F (pc := 163) (C := RX8) (T := TX8) (N := 32) (ci := 8) inX8 hK hW 0 26 rfl rfl (by decide) rfl (List.mem_of_getElem? (i := 8) rfl) (v := .ref (aR 20)) rfl dX8_command_163 ?_
                            refine z_iconst F (pc := 166) (4) dX8_command_166 ?_
                            refine z_aloadn F (pc := 167) dX8_command_167 rfl (lv_at hl 0 rfl) ?_
                            refine z_get F (pc := 168) (C := RX8) (T := TX8) (N := 32) (ci := 8) inX8 hK hW 0 22 rfl rfl (by decide) rfl (List.mem_of_getElem? (i := 4) rfl) (v := .int (iI cn)) rfl dX8_command_168 ?_
                            refine z_imul F (pc := 171) dX8_command_171 ?_
                            refine z_iload F (pc := 172) dX8_command_172 (lv_at hl 4 rfl) ?_
                            refine z_iast F (pc := 174) hK hW (ws' := wR cI cZ aR xs ys lf ev nm lb kd pt so nu al ak ap he le rw (zU cx cn x) (zU cr cn k) (zU cl cn nn) (zU ll (4 * cn) va) tl ts tc sz mn ac en mg ln cn wc wp) 20 rfl (by decide) dX8_command_174 (by omega) rfl (fun H locs hW => ?_)
                            refine z_aloadn F (pc := 175) dX8_command_175 rfl (lv_at hl 0 rfl) ?_
                            refine z_get F (pc := 176) (C := RX8) (T := TX8) (N := 32) (ci := 8) inX8 hK hW 0 26 rfl rfl (by decide) rfl (List.mem_of_getElem? (i := 8) rfl) (v := .ref (aR 20)) rfl dX8_command_176 ?_
                            refine z_iconst F (pc := 179) (4) dX8_command_179 ?_
                            refine z_aloadn F (pc := 180) dX8_command_180 rfl (lv_at hl 0 rfl) ?_
                            refine z_get F (pc := 181) (C := RX8) (T := TX8) (N := 32) (ci := 8) inX8 hK hW 0 22 rfl rfl (by decide) rfl (List.mem_of_getElem? (i := 4) rfl) (v := .int (iI cn)) rfl dX8_command_181 ?_
                            refine z_imul F (pc := 184) dX8_command_184 ?_
                            refine z_iconst F (pc := 185) (1) dX8_command_185 ?_
                            refine z_iadd F (pc := 186) dX8_command_186 ?_
                            refine z_iload F (pc := 187) dX8_command_187 (lv_at hl 5 rfl) ?_
                            refine z_iast F (pc := 189) hK hW (ws' := wR cI cZ aR xs ys lf ev nm lb kd pt so nu al ak ap he le rw (zU cx cn x) (zU cr cn k) (zU cl cn nn) (zU (zU ll (4 * cn) va) ((4 * cn) + 1) vb) tl ts tc sz mn ac en mg ln cn wc wp) 20 rfl (by decide) dX8_command_189 (by omega) rfl (fun H locs hW => ?_)
                            refine z_aloadn F (pc := 190) dX8_command_190 rfl (lv_at hl 0 rfl) ?_
                            refine z_get F (pc := 191) (C := RX8) (T := TX8) (N := 32) (ci := 8) inX8 hK hW 0 26 rfl rfl (by decide) rfl (List.mem_of_getElem? (i := 8) rfl) (v := .ref (aR 20)) rfl dX8_command_191 ?_
                            refine z_iconst F (pc := 194) (4) dX8_command_194 ?_
                            refine z_aloadn F (pc := 195) dX8_command_195 rfl (lv_at hl 0 rfl) ?_
                            refine z_get F (pc := 196) (C := RX8) (T := TX8) (N := 32) (ci := 8) inX8 hK hW 0 22 rfl rfl (by decide) rfl (List.mem_of_getElem? (i := 4) rfl) (v := .int (iI cn)) rfl dX8_command_196 ?_
                            refine z_imul F (pc := 199) dX8_command_199 ?_
                            refine z_iconst F (pc := 200) (2) dX8_command_200 ?_
                            refine z_iadd F (pc := 201) dX8_command_201 ?_
                            refine z_iload F (pc := 202) dX8_command_202 (lv_at hl 6 rfl) ?_
                            refine z_iast F (pc := 204) hK hW (ws' := wR cI cZ aR xs ys lf ev nm lb kd pt so nu al ak ap he le rw (zU cx cn x) (zU cr cn k) (zU cl cn nn) (zU (zU (zU ll (4 * cn) va) ((4 * cn) + 1) vb) ((4 * cn) + 2) vc) tl ts tc sz mn ac en mg ln cn wc wp) 20 rfl (by decide) dX8_command_204 (by omega) rfl (fun H locs hW => ?_)
                            refine z_aloadn F (pc := 205) dX8_command_205 rfl (lv_at hl 0 rfl) ?_
                            refine z_get F (pc := 206) (C := RX8) (T := TX8) (N := 32) (ci := 8) inX8 hK hW 0 26 rfl rfl (by decide) rfl (List.mem_of_getElem? (i := 8) rfl) (v := .ref (aR 20)) rfl dX8_command_206 ?_
                            refine z_iconst F (pc := 209) (4) dX8_command_209 ?_
                            refine z_aloadn F (pc := 210) dX8_command_210 rfl (lv_at hl 0 rfl) ?_
                            refine z_get F (pc := 211) (C := RX8) (T := TX8) (N := 32) (ci := 8) inX8 hK hW 0 22 rfl rfl (by decide) rfl (List.mem_of_getElem? (i := 4) rfl) (v := .int (iI cn)) rfl dX8_command_211 ?_
                            refine z_imul F (pc := 214) dX8_command_214 ?_
                            refine z_iconst F (pc := 215) (3) dX8_command_215 ?_
                            refine z_iadd F (pc := 216) dX8_command_216 ?_
                            refine z_iload F (pc := 217) dX8_command_217 (lv_at hl 7 rfl) ?_
                            refine z_iast F (pc := 219) hK hW (ws' := wR cI cZ aR xs ys lf ev nm lb kd pt so nu al ak ap he le rw (zU cx cn x) (zU cr cn k) (zU cl cn nn) (zU (zU (zU (zU ll (4 * cn) va) ((4 * cn) + 1) vb) ((4 * cn) + 2) vc) ((4 * cn) + 3) vd) tl ts tc sz mn ac en mg ln cn wc wp) 20 rfl (by decide) dX8_command_219 (by omega) rfl (fun H locs hW => ?_)
                            refine z_aloadn F (pc := 220) dX8_command_220 rfl (lv_at hl 0 rfl) ?_
                            refine z_dup F (pc := 221) dX8_command_221 rfl ?_
                            refine z_get F (pc := 222) (C := RX8) (T := TX8) (N := 32) (ci := 8) inX8 hK hW 0 22 rfl rfl (by decide) rfl (List.mem_of_getElem? (i := 4) rfl) (v := .int (iI cn)) rfl dX8_command_222 ?_
                            refine z_iconst F (pc := 225) (1) dX8_command_225 ?_
                            refine z_iadd F (pc := 226) dX8_command_226 ?_
                            refine z_put F (pc := 227) (C := RX8) (T := TX8) (N := 32) (ci := 8) inX8 tyX8 tyX8_ok nmX8 hK hW (ws' := wR cI cZ aR xs ys lf ev nm lb kd pt so nu al ak ap he le rw (zU cx cn x) (zU cr cn k) (zU cl cn nn) (zU (zU (zU (zU ll (4 * cn) va) ((4 * cn) + 1) vb) ((4 * cn) + 2) vc) ((4 * cn) + 3) vd) tl ts tc sz mn ac en mg ln (cn + 1) wc wp) 0 22 rfl rfl (by decide) rfl (List.mem_of_getElem? (i := 4) rfl) rfl rfl (Nat.le_of_ble_eq_true rfl) dX8_command_227 rfl (fun H locs hW => ?_)
                            refine z_aloadn F (pc := 230) dX8_command_230 rfl (lv_at hl 0 rfl) ?_
                            refine z_get F (pc := 231) (C := RX8) (T := TX8) (N := 32) (ci := 8) inX8 hK hW 0 22 rfl rfl (by decide) rfl (List.mem_of_getElem? (i := 4) rfl) (v := .int (iI (cn + 1))) rfl dX8_command_231 ?_
                            refine z_iconst F (pc := 234) (1) dX8_command_234 ?_
                            refine z_isub F (pc := 235) dX8_command_235 ?_
                            exact hret _ _ _ _ ((cn + 1) - 1) ((zU cx cn x), (zU cr cn k), (zU cl cn nn), (zU (zU (zU (zU ll (4 * cn) va) ((4 * cn) + 1) vb) ((4 * cn) + 2) vc) ((4 * cn) + 3) vd), (cn + 1)) dX8_command_236 (by omega) (by (try dsimp only) <;> (exact Or.inr (Or.inr ⟨by unfold cmdOk; omega, by omega, by omega, rfl, rfl, rfl, rfl, rfl⟩))) hW
                          · skip
                            refine z_bipush F (pc := 129) (-3) (by decide +kernel) dX8_command_129 ?_
                            exact hret _ _ _ _ (-3) (cx, cr, cl, ll, cn) dX8_command_131 (by omega) (by (try dsimp only) <;> (exact Or.inr (Or.inl ⟨by unfold cmdOk; omega, by omega, rfl, rfl, rfl, rfl, rfl, rfl⟩))) hW
                        · skip
                          refine z_iconst F (pc := 118) (-1) dX8_command_118 ?_
                          exact hret _ _ _ _ (-1) (cx, cr, cl, ll, cn) dX8_command_119 (by omega) (by (try dsimp only) <;> (exact Or.inl ⟨by unfold cmdOk; omega, rfl, rfl, rfl, rfl, rfl, rfl⟩)) hW
                · skip
                  refine z_iload F (pc := 93) dX8_command_93 (lv_at hl 5 rfl) ?_
                  refine z_if_ne F (pc := 95) 118 dX8_command_95 (by decide) (by omega) (fun c_95 => ?_) (fun c_95 => ?_)
                  · skip
                    refine z_iconst F (pc := 118) (-1) dX8_command_118 ?_
                    exact hret _ _ _ _ (-1) (cx, cr, cl, ll, cn) dX8_command_119 (by omega) (by (try dsimp only) <;> (exact Or.inl ⟨by unfold cmdOk; omega, rfl, rfl, rfl, rfl, rfl, rfl⟩)) hW
                  · skip
                    refine z_iloadn F (pc := 98) dX8_command_98 rfl (lv_at hl 3 rfl) ?_
                    refine z_iconst F (pc := 99) (3) dX8_command_99 ?_
                    refine z_icmp_ge F (pc := 100) 108 dX8_command_100 (by decide) (by omega) (fun c_100 => ?_) (fun c_100 => ?_)
                    · skip
                      refine z_iloadn F (pc := 108) dX8_command_108 rfl (lv_at hl 3 rfl) ?_
                      refine z_iconst F (pc := 109) (4) dX8_command_109 ?_
                      refine z_icmp_ge F (pc := 110) 120 dX8_command_110 (by decide) (by omega) (fun c_110 => ?_) (fun c_110 => ?_)
                      · skip
                        refine z_aloadn F (pc := 120) dX8_command_120 rfl (lv_at hl 0 rfl) ?_
                        refine z_get F (pc := 121) (C := RX8) (T := TX8) (N := 32) (ci := 8) inX8 hK hW 0 22 rfl rfl (by decide) rfl (List.mem_of_getElem? (i := 4) rfl) (v := .int (iI cn)) rfl dX8_command_121 ?_
                        refine z_bipush F (pc := 124) (10) (by decide +kernel) dX8_command_124 ?_
                        refine z_icmp_ne F (pc := 126) 132 dX8_command_126 (by decide) (by omega) (fun c_126 => ?_) (fun c_126 => ?_)
                        · skip
                          refine z_aloadn F (pc := 132) dX8_command_132 rfl (lv_at hl 0 rfl) ?_
                          refine z_get F (pc := 133) (C := RX8) (T := TX8) (N := 32) (ci := 8) inX8 hK hW 0 23 rfl rfl (by decide) rfl (List.mem_of_getElem? (i := 5) rfl) (v := .ref (aR 17)) rfl dX8_command_133 ?_
                          refine z_aloadn F (pc := 136) dX8_command_136 rfl (lv_at hl 0 rfl) ?_
                          refine z_get F (pc := 137) (C := RX8) (T := TX8) (N := 32) (ci := 8) inX8 hK hW 0 22 rfl rfl (by decide) rfl (List.mem_of_getElem? (i := 4) rfl) (v := .int (iI cn)) rfl dX8_command_137 ?_
                          refine z_iloadn F (pc := 140) dX8_command_140 rfl (lv_at hl 1 rfl) ?_
                          refine z_iast F (pc := 141) hK hW (ws' := wR cI cZ aR xs ys lf ev nm lb kd pt so nu al ak ap he le rw (zU cx cn x) cr cl ll tl ts tc sz mn ac en mg ln cn wc wp) 17 rfl (by decide) dX8_command_141 (by omega) rfl (fun H locs hW => ?_)
                          refine z_aloadn F (pc := 142) dX8_command_142 rfl (lv_at hl 0 rfl) ?_
                          refine z_get F (pc := 143) (C := RX8) (T := TX8) (N := 32) (ci := 8) inX8 hK hW 0 24 rfl rfl (by decide) rfl (List.mem_of_getElem? (i := 6) rfl) (v := .ref (aR 18)) rfl dX8_command_143 ?_
                          refine z_aloadn F (pc := 146) dX8_command_146 rfl (lv_at hl 0 rfl) ?_
                          refine z_get F (pc := 147) (C := RX8) (T := TX8) (N := 32) (ci := 8) inX8 hK hW 0 22 rfl rfl (by decide) rfl (List.mem_of_getElem? (i := 4) rfl) (v := .int (iI cn)) rfl dX8_command_147 ?_
                          refine z_iloadn F (pc := 150) dX8_command_150 rfl (lv_at hl 2 rfl) ?_
                          refine z_iast F (pc := 151) hK hW (ws' := wR cI cZ aR xs ys lf ev nm lb kd pt so nu al ak ap he le rw (zU cx cn x) (zU cr cn k) cl ll tl ts tc sz mn ac en mg ln cn wc wp) 18 rfl (by decide) dX8_command_151 (by omega) rfl (fun H locs hW => ?_)
                          refine z_aloadn F (pc := 152) dX8_command_152 rfl (lv_at hl 0 rfl) ?_
                          refine z_get F (pc := 153) (C := RX8) (T := TX8) (N := 32) (ci := 8) inX8 hK hW 0 25 rfl rfl (by decide) rfl (List.mem_of_getElem? (i := 7) rfl) (v := .ref (aR 19)) rfl dX8_command_153 ?_
                          refine z_aloadn F (pc := 156) dX8_command_156 rfl (lv_at hl 0 rfl) ?_
                          refine z_get F (pc := 157) (C := RX8) (T := TX8) (N := 32) (ci := 8) inX8 hK hW 0 22 rfl rfl (by decide) rfl (List.mem_of_getElem? (i := 4) rfl) (v := .int (iI cn)) rfl dX8_command_157 ?_
                          refine z_iloadn F (pc := 160) dX8_command_160 rfl (lv_at hl 3 rfl) ?_
                          refine z_iast F (pc := 161) hK hW (ws' := wR cI cZ aR xs ys lf ev nm lb kd pt so nu al ak ap he le rw (zU cx cn x) (zU cr cn k) (zU cl cn nn) ll tl ts tc sz mn ac en mg ln cn wc wp) 19 rfl (by decide) dX8_command_161 (by omega) rfl (fun H locs hW => ?_)
                          refine z_aloadn F (pc := 162) dX8_command_162 rfl (lv_at hl 0 rfl) ?_
                          refine z_get F (pc := 163) (C := RX8) (T := TX8) (N := 32) (ci := 8) inX8 hK hW 0 26 rfl rfl (by decide) rfl (List.mem_of_getElem? (i := 8) rfl) (v := .ref (aR 20)) rfl dX8_command_163 ?_
                          refine z_iconst F (pc := 166) (4) dX8_command_166 ?_
                          refine z_aloadn F (pc := 167) dX8_command_167 rfl (lv_at hl 0 rfl) ?_
                          refine z_get F (pc := 168) (C := RX8) (T := TX8) (N := 32) (ci := 8) inX8 hK hW 0 22 rfl rfl (by decide) rfl (List.mem_of_getElem? (i := 4) rfl) (v := .int (iI cn)) rfl dX8_command_168 ?_
                          refine z_imul F (pc := 171) dX8_command_171 ?_
                          refine z_iload F (pc := 172) dX8_command_172 (lv_at hl 4 rfl) ?_
                          refine z_iast F (pc := 174) hK hW (ws' := wR cI cZ aR xs ys lf ev nm lb kd pt so nu al ak ap he le rw (zU cx cn x) (zU cr cn k) (zU cl cn nn) (zU ll (4 * cn) va) tl ts tc sz mn ac en mg ln cn wc wp) 20 rfl (by decide) dX8_command_174 (by omega) rfl (fun H locs hW => ?_)
                          refine z_aloadn F (pc := 175) dX8_command_175 rfl (lv_at hl 0 rfl) ?_
                          refine z_get F (pc := 176) (C := RX8) (T := TX8) (N := 32) (ci := 8) inX8 hK hW 0 26 rfl rfl (by decide) rfl (List.mem_of_getElem? (i := 8) rfl) (v := .ref (aR 20)) rfl dX8_command_176 ?_
                          refine z_iconst F (pc := 179) (4) dX8_command_179 ?_
                          refine z_aloadn F (pc := 180) dX8_command_180 rfl (lv_at hl 0 rfl) ?_
                          refine z_get F (pc := 181) (C := RX8) (T := TX8) (N := 32) (ci := 8) inX8 hK hW 0 22 rfl rfl (by decide) rfl (List.mem_of_getElem? (i := 4) rfl) (v := .int (iI cn)) rfl dX8_command_181 ?_
                          refine z_imul F (pc := 184) dX8_command_184 ?_
                          refine z_iconst F (pc := 185) (1) dX8_command_185 ?_
                          refine z_iadd F (pc := 186) dX8_command_186 ?_
                          refine z_iload F (pc := 187) dX8_command_187 (lv_at hl 5 rfl) ?_
                          refine z_iast F (pc := 189) hK hW (ws' := wR cI cZ aR xs ys lf ev nm lb kd pt so nu al ak ap he le rw (zU cx cn x) (zU cr cn k) (zU cl cn nn) (zU (zU ll (4 * cn) va) ((4 * cn) + 1) vb) tl ts tc sz mn ac en mg ln cn wc wp) 20 rfl (by decide) dX8_command_189 (by omega) rfl (fun H locs hW => ?_)
                          refine z_aloadn F (pc := 190) dX8_command_190 rfl (lv_at hl 0 rfl) ?_
                          refine z_get F (pc := 191) (C := RX8) (T := TX8) (N := 32) (ci := 8) inX8 hK hW 0 26 rfl rfl (by decide) rfl (List.mem_of_getElem? (i := 8) rfl) (v := .ref (aR 20)) rfl dX8_command_191 ?_
                          refine z_iconst F (pc := 194) (4) dX8_command_194 ?_
                          refine z_aloadn F (pc := 195) dX8_command_195 rfl (lv_at hl 0 rfl) ?_
                          refine z_get F (pc := 196) (C := RX8) (T := TX8) (N := 32) (ci := 8) inX8 hK hW 0 22 rfl rfl (by decide) rfl (List.mem_of_getElem? (i := 4) rfl) (v := .int (iI cn)) rfl dX8_command_196 ?_
                          refine z_imul F (pc := 199) dX8_command_199 ?_
                          refine z_iconst F (pc := 200) (2) dX8_command_200 ?_
                          refine z_iadd F (pc := 201) dX8_command_201 ?_
                          refine z_iload F (pc := 202) dX8_command_202 (lv_at hl 6 rfl) ?_
                          refine z_iast F (pc := 204) hK hW (ws' := wR cI cZ aR xs ys lf ev nm lb kd pt so nu al ak ap he le rw (zU cx cn x) (zU cr cn k) (zU cl cn nn) (zU (zU (zU ll (4 * cn) va) ((4 * cn) + 1) vb) ((4 * cn) + 2) vc) tl ts tc sz mn ac en mg ln cn wc wp) 20 rfl (by decide) dX8_command_204 (by omega) rfl (fun H locs hW => ?_)
                          refine z_aloadn F (pc := 205) dX8_command_205 rfl (lv_at hl 0 rfl) ?_
                          refine z_get F (pc := 206) (C := RX8) (T := TX8) (N := 32) (ci := 8) inX8 hK hW 0 26 rfl rfl (by decide) rfl (List.mem_of_getElem? (i := 8) rfl) (v := .ref (aR 20)) rfl dX8_command_206 ?_
                          refine z_iconst F (pc := 209) (4) dX8_command_209 ?_
                          refine z_aloadn F (pc := 210) dX8_command_210 rfl (lv_at hl 0 rfl) ?_
                          refine z_get F (pc := 211) (C := RX8) (T := TX8) (N := 32) (ci := 8) inX8 hK hW 0 22 rfl rfl (by decide) rfl (List.mem_of_getElem? (i := 4) rfl) (v := .int (iI cn)) rfl dX8_command_211 ?_
                          refine z_imul F (pc := 214) dX8_command_214 ?_
                          refine z_iconst F (pc := 215) (3) dX8_command_215 ?_
                          refine z_iadd F (pc := 216) dX8_command_216 ?_
                          refine z_iload F (pc := 217) dX8_command_217 (lv_at hl 7 rfl) ?_
                          refine z_iast F (pc := 219) hK hW (ws' := wR cI cZ aR xs ys lf ev nm lb kd pt so nu al ak ap he le rw (zU cx cn x) (zU cr cn k) (zU cl cn nn) (zU (zU (zU (zU ll (4 * cn) va) ((4 * cn) + 1) vb) ((4 * cn) + 2) vc) ((4 * cn) + 3) vd) tl ts tc sz mn ac en mg ln cn wc wp) 20 rfl (by decide) dX8_command_219 (by omega) rfl (fun H locs hW => ?_)
                          refine z_aloadn F (pc := 220) dX8_command_220 rfl (lv_at hl 0 rfl) ?_
                          refine z_dup F (pc := 221) dX8_command_221 rfl ?_
                          refine z_get F (pc := 222) (C := RX8) (T := TX8) (N := 32) (ci := 8) inX8 hK hW 0 22 rfl rfl (by decide) rfl (List.mem_of_getElem? (i := 4) rfl) (v := .int (iI cn)) rfl dX8_command_222 ?_
                          refine z_iconst F (pc := 225) (1) dX8_command_225 ?_
                          refine z_iadd F (pc := 226) dX8_command_226 ?_
                          refine z_put F (pc := 227) (C := RX8) (T := TX8) (N := 32) (ci := 8) inX8 tyX8 tyX8_ok nmX8 hK hW (ws' := wR cI cZ aR xs ys lf ev nm lb kd pt so nu al ak ap he le rw (zU cx cn x) (zU cr cn k) (zU cl cn nn) (zU (zU (zU (zU ll (4 * cn) va) ((4 * cn) + 1) vb) ((4 * cn) + 2) vc) ((4 * cn) + 3) vd) tl ts tc sz mn ac en mg ln (cn + 1) wc wp) 0 22 rfl rfl (by decide) rfl (List.mem_of_getElem? (i := 4) rfl) rfl rfl (Nat.le_of_ble_eq_true rfl) dX8_command_227 rfl (fun H locs hW => ?_)
                          refine z_aloadn F (pc := 230) dX8_command_230 rfl (lv_at hl 0 rfl) ?_
                          refine z_get F (pc := 231) (C := RX8) (T := TX8) (N := 32) (ci := 8) inX8 hK hW 0 22 rfl rfl (by decide) rfl (List.mem_of_getElem? (i := 4) rfl) (v := .int (iI (cn + 1))) rfl dX8_command_231 ?_
                          refine z_iconst F (pc := 234) (1) dX8_command_234 ?_
                          refine z_isub F (pc := 235) dX8_command_235 ?_
                          exact hret _ _ _ _ ((cn + 1) - 1) ((zU cx cn x), (zU cr cn k), (zU cl cn nn), (zU (zU (zU (zU ll (4 * cn) va) ((4 * cn) + 1) vb) ((4 * cn) + 2) vc) ((4 * cn) + 3) vd), (cn + 1)) dX8_command_236 (by omega) (by (try dsimp only) <;> (exact Or.inr (Or.inr ⟨by unfold cmdOk; omega, by omega, by omega, rfl, rfl, rfl, rfl, rfl⟩))) hW
                        · skip
                          refine z_bipush F (pc := 129) (-3) (by decide +kernel) dX8_command_129 ?_
                          exact hret _ _ _ _ (-3) (cx, cr, cl, ll, cn) dX8_command_131 (by omega) (by (try dsimp only) <;> (exact Or.inr (Or.inl ⟨by unfold cmdOk; omega, by omega, rfl, rfl, rfl, rfl, rfl, rfl⟩))) hW
                      · skip
                        refine z_iload F (pc := 113) dX8_command_113 (lv_at hl 7 rfl) ?_
                        refine z_if_eq F (pc := 115) 120 dX8_command_115 (by decide) (by omega) (fun c_115 => ?_) (fun c_115 => ?_)
                        · skip
                          refine z_aloadn F (pc := 120) dX8_command_120 rfl (lv_at hl 0 rfl) ?_
                          refine z_get F (pc := 121) (C := RX8) (T := TX8) (N := 32) (ci := 8) inX8 hK hW 0 22 rfl rfl (by decide) rfl (List.mem_of_getElem? (i := 4) rfl) (v := .int (iI cn)) rfl dX8_command_121 ?_
                          refine z_bipush F (pc := 124) (10) (by decide +kernel) dX8_command_124 ?_
                          refine z_icmp_ne F (pc := 126) 132 dX8_command_126 (by decide) (by omega) (fun c_126 => ?_) (fun c_126 => ?_)
                          · skip
                            refine z_aloadn F (pc := 132) dX8_command_132 rfl (lv_at hl 0 rfl) ?_
                            refine z_get F (pc := 133) (C := RX8) (T := TX8) (N := 32) (ci := 8) inX8 hK hW 0 23 rfl rfl (by decide) rfl (List.mem_of_getElem? (i := 5) rfl) (v := .ref (aR 17)) rfl dX8_command_133 ?_
                            refine z_aloadn F (pc := 136) dX8_command_136 rfl (lv_at hl 0 rfl) ?_
                            refine z_get F (pc := 137) (C := RX8) (T := TX8) (N := 32) (ci := 8) inX8 hK hW 0 22 rfl rfl (by decide) rfl (List.mem_of_getElem? (i := 4) rfl) (v := .int (iI cn)) rfl dX8_command_137 ?_
                            refine z_iloadn F (pc := 140) dX8_command_140 rfl (lv_at hl 1 rfl) ?_
                            refine z_iast F (pc := 141) hK hW (ws' := wR cI cZ aR xs ys lf ev nm lb kd pt so nu al ak ap he le rw (zU cx cn x) cr cl ll tl ts tc sz mn ac en mg ln cn wc wp) 17 rfl (by decide) dX8_command_141 (by omega) rfl (fun H locs hW => ?_)
                            refine z_aloadn F (pc := 142) dX8_command_142 rfl (lv_at hl 0 rfl) ?_
                            refine z_get F (pc := 143) (C := RX8) (T := TX8) (N := 32) (ci := 8) inX8 hK hW 0 24 rfl rfl (by decide) rfl (List.mem_of_getElem? (i := 6) rfl) (v := .ref (aR 18)) rfl dX8_command_143 ?_
                            refine z_aloadn F (pc := 146) dX8_command_146 rfl (lv_at hl 0 rfl) ?_
                            refine z_get F (pc := 147) (C := RX8) (T := TX8) (N := 32) (ci := 8) inX8 hK hW 0 22 rfl rfl (by decide) rfl (List.mem_of_getElem? (i := 4) rfl) (v := .int (iI cn)) rfl dX8_command_147 ?_
                            refine z_iloadn F (pc := 150) dX8_command_150 rfl (lv_at hl 2 rfl) ?_
                            refine z_iast F (pc := 151) hK hW (ws' := wR cI cZ aR xs ys lf ev nm lb kd pt so nu al ak ap he le rw (zU cx cn x) (zU cr cn k) cl ll tl ts tc sz mn ac en mg ln cn wc wp) 18 rfl (by decide) dX8_command_151 (by omega) rfl (fun H locs hW => ?_)
                            refine z_aloadn F (pc := 152) dX8_command_152 rfl (lv_at hl 0 rfl) ?_
                            refine z_get F (pc := 153) (C := RX8) (T := TX8) (N := 32) (ci := 8) inX8 hK hW 0 25 rfl rfl (by decide) rfl (List.mem_of_getElem? (i := 7) rfl) (v := .ref (aR 19)) rfl dX8_command_153 ?_
                            refine z_aloadn F (pc := 156) dX8_command_156 rfl (lv_at hl 0 rfl) ?_
                            refine z_get F (pc := 157) (C := RX8) (T := TX8) (N := 32) (ci := 8) inX8 hK hW 0 22 rfl rfl (by decide) rfl (List.mem_of_getElem? (i := 4) rfl) (v := .int (iI cn)) rfl dX8_command_157 ?_
                            refine z_iloadn F (pc := 160) dX8_command_160 rfl (lv_at hl 3 rfl) ?_
                            refine z_iast F (pc := 161) hK hW (ws' := wR cI cZ aR xs ys lf ev nm lb kd pt so nu al ak ap he le rw (zU cx cn x) (zU cr cn k) (zU cl cn nn) ll tl ts tc sz mn ac en mg ln cn wc wp) 19 rfl (by decide) dX8_command_161 (by omega) rfl (fun H locs hW => ?_)
                            refine z_aloadn F (pc := 162) dX8_command_162 rfl (lv_at hl 0 rfl) ?_
                            refine z_get F (pc := 163) (C := RX8) (T := TX8) (N := 32) (ci := 8) inX8 hK hW 0 26 rfl rfl (by decide) rfl (List.mem_of_getElem? (i := 8) rfl) (v := .ref (aR 20)) rfl dX8_command_163 ?_
                            refine z_iconst F (pc := 166) (4) dX8_command_166 ?_
                            refine z_aloadn F (pc := 167) dX8_command_167 rfl (lv_at hl 0 rfl) ?_
                            refine z_get F (pc := 168) (C := RX8) (T := TX8) (N := 32) (ci := 8) inX8 hK hW 0 22 rfl rfl (by decide) rfl (List.mem_of_getElem? (i := 4) rfl) (v := .int (iI cn)) rfl dX8_command_168 ?_
                            refine z_imul F (pc := 171) dX8_command_171 ?_
                            refine z_iload F (pc := 172) dX8_command_172 (lv_at hl 4 rfl) ?_
                            refine z_iast F (pc := 174) hK hW (ws' := wR cI cZ aR xs ys lf ev nm lb kd pt so nu al ak ap he le rw (zU cx cn x) (zU cr cn k) (zU cl cn nn) (zU ll (4 * cn) va) tl ts tc sz mn ac en mg ln cn wc wp) 20 rfl (by decide) dX8_command_174 (by omega) rfl (fun H locs hW => ?_)
                            refine z_aloadn F (pc := 175) dX8_command_175 rfl (lv_at hl 0 rfl) ?_
                            refine z_get F (pc := 176) (C := RX8) (T := TX8) (N := 32) (ci := 8) inX8 hK hW 0 26 rfl rfl (by decide) rfl (List.mem_of_getElem? (i := 8) rfl) (v := .ref (aR 20)) rfl dX8_command_176 ?_
                            refine z_iconst F (pc := 179) (4) dX8_command_179 ?_
                            refine z_aloadn F (pc := 180) dX8_command_180 rfl (lv_at hl 0 rfl) ?_
                            refine z_get F (pc := 181) (C := RX8) (T := TX8) (N := 32) (ci := 8) inX8 hK hW 0 22 rfl rfl (by decide) rfl (List.mem_of_getElem? (i := 4) rfl) (v := .int (iI cn)) rfl dX8_command_181 ?_
                            refine z_imul F (pc := 184) dX8_command_184 ?_
                            refine z_iconst F (pc := 185) (1) dX8_command_185 ?_
                            refine z_iadd F (pc := 186) dX8_command_186 ?_
                            refine z_iload F (pc := 187) dX8_command_187 (lv_at hl 5 rfl) ?_
                            refine z_iast F (pc := 189) hK hW (ws' := wR cI cZ aR xs ys lf ev nm lb kd pt so nu al ak ap he le rw (zU cx cn x) (zU cr cn k) (zU cl cn nn) (zU (zU ll (4 * cn) va) ((4 * cn) + 1) vb) tl ts tc sz mn ac en mg ln cn wc wp) 20 rfl (by decide) dX8_command_189 (by omega) rfl (fun H locs hW => ?_)
                            refine z_aloadn F (pc := 190) dX8_command_190 rfl (lv_at hl 0 rfl) ?_
                            refine z_get F (pc := 191) (C := RX8) (T := TX8) (N := 32) (ci := 8) inX8 hK hW 0 26 rfl rfl (by decide) rfl (List.mem_of_getElem? (i := 8) rfl) (v := .ref (aR 20)) rfl dX8_command_191 ?_
                            refine z_iconst F (pc := 194) (4) dX8_command_194 ?_
                            refine z_aloadn F (pc := 195) dX8_command_195 rfl (lv_at hl 0 rfl) ?_
                            refine z_get F (pc := 196) (C := RX8) (T := TX8) (N := 32) (ci := 8) inX8 hK hW 0 22 rfl rfl (by decide) rfl (List.mem_of_getElem? (i := 4) rfl) (v := .int (iI cn)) rfl dX8_command_196 ?_
                            refine z_imul F (pc := 199) dX8_command_199 ?_
                            refine z_iconst F (pc := 200) (2) dX8_command_200 ?_
                            refine z_iadd F (pc := 201) dX8_command_201 ?_
                            refine z_iload F (pc := 202) dX8_command_202 (lv_at hl 6 rfl) ?_
                            refine z_iast F (pc := 204) hK hW (ws' := wR cI cZ aR xs ys lf ev nm lb kd pt so nu al ak ap he le rw (zU cx cn x) (zU cr cn k) (zU cl cn nn) (zU (zU (zU ll (4 * cn) va) ((4 * cn) + 1) vb) ((4 * cn) + 2) vc) tl ts tc sz mn ac en mg ln cn wc wp) 20 rfl (by decide) dX8_command_204 (by omega) rfl (fun H locs hW => ?_)
                            refine z_aloadn F (pc := 205) dX8_command_205 rfl (lv_at hl 0 rfl) ?_
                            refine z_get F (pc := 206) (C := RX8) (T := TX8) (N := 32) (ci := 8) inX8 hK hW 0 26 rfl rfl (by decide) rfl (List.mem_of_getElem? (i := 8) rfl) (v := .ref (aR 20)) rfl dX8_command_206 ?_
                            refine z_iconst F (pc := 209) (4) dX8_command_209 ?_
                            refine z_aloadn F (pc := 210) dX8_command_210 rfl (lv_at hl 0 rfl) ?_
                            refine z_get F (pc := 211) (C := RX8) (T := TX8) (N := 32) (ci := 8) inX8 hK hW 0 22 rfl rfl (by decide) rfl (List.mem_of_getElem? (i := 4) rfl) (v := .int (iI cn)) rfl dX8_command_211 ?_
                            refine z_imul F (pc := 214) dX8_command_214 ?_
                            refine z_iconst F (pc := 215) (3) dX8_command_215 ?_
                            refine z_iadd F (pc := 216) dX8_command_216 ?_
                            refine z_iload F (pc := 217) dX8_command_217 (lv_at hl 7 rfl) ?_
                            refine z_iast F (pc := 219) hK hW (ws' := wR cI cZ aR xs ys lf ev nm lb kd pt so nu al ak ap he le rw (zU cx cn x) (zU cr cn k) (zU cl cn nn) (zU (zU (zU (zU ll (4 * cn) va) ((4 * cn) + 1) vb) ((4 * cn) + 2) vc) ((4 * cn) + 3) vd) tl ts tc sz mn ac en mg ln cn wc wp) 20 rfl (by decide) dX8_command_219 (by omega) rfl (fun H locs hW => ?_)
                            refine z_aloadn F (pc := 220) dX8_command_220 rfl (lv_at hl 0 rfl) ?_
                            refine z_dup F (pc := 221) dX8_command_221 rfl ?_
                            refine z_get F (pc := 222) (C := RX8) (T := TX8) (N := 32) (ci := 8) inX8 hK hW 0 22 rfl rfl (by decide) rfl (List.mem_of_getElem? (i := 4) rfl) (v := .int (iI cn)) rfl dX8_command_222 ?_
                            refine z_iconst F (pc := 225) (1) dX8_command_225 ?_
                            refine z_iadd F (pc := 226) dX8_command_226 ?_
                            refine z_put F (pc := 227) (C := RX8) (T := TX8) (N := 32) (ci := 8) inX8 tyX8 tyX8_ok nmX8 hK hW (ws' := wR cI cZ aR xs ys lf ev nm lb kd pt so nu al ak ap he le rw (zU cx cn x) (zU cr cn k) (zU cl cn nn) (zU (zU (zU (zU ll (4 * cn) va) ((4 * cn) + 1) vb) ((4 * cn) + 2) vc) ((4 * cn) + 3) vd) tl ts tc sz mn ac en mg ln (cn + 1) wc wp) 0 22 rfl rfl (by decide) rfl (List.mem_of_getElem? (i := 4) rfl) rfl rfl (Nat.le_of_ble_eq_true rfl) dX8_command_227 rfl (fun H locs hW => ?_)
                            refine z_aloadn F (pc := 230) dX8_command_230 rfl (lv_at hl 0 rfl) ?_
                            refine z_get F (pc := 231) (C := RX8) (T := TX8) (N := 32) (ci := 8) inX8 hK hW 0 22 rfl rfl (by decide) rfl (List.mem_of_getElem? (i := 4) rfl) (v := .int (iI (cn + 1))) rfl dX8_command_231 ?_
                            refine z_iconst F (pc := 234) (1) dX8_command_234 ?_
                            refine z_isub F (pc := 235) dX8_command_235 ?_
                            exact hret _ _ _ _ ((cn + 1) - 1) ((zU cx cn x), (zU cr cn k), (zU cl cn nn), (zU (zU (zU (zU ll (4 * cn) va) ((4 * cn) + 1) vb) ((4 * cn) + 2) vc) ((4 * cn) + 3) vd), (cn + 1)) dX8_command_236 (by omega) (by (try dsimp only) <;> (exact Or.inr (Or.inr ⟨by unfold cmdOk; omega, by omega, by omega, rfl, rfl, rfl, rfl, rfl⟩))) hW
                          · skip
                            refine z_bipush F (pc := 129) (-3) (by decide +kernel) dX8_command_129 ?_
                            exact hret _ _ _ _ (-3) (cx, cr, cl, ll, cn) dX8_command_131 (by omega) (by (try dsimp only) <;> (exact Or.inr (Or.inl ⟨by unfold cmdOk; omega, by omega, rfl, rfl, rfl, rfl, rfl, rfl⟩))) hW
                        · skip
                          refine z_iconst F (pc := 118) (-1) dX8_command_118 ?_
                          exact hret _ _ _ _ (-1) (cx, cr, cl, ll, cn) dX8_command_119 (by omega) (by (try dsimp only) <;> (exact Or.inl ⟨by unfold cmdOk; omega, rfl, rfl, rfl, rfl, rfl, rfl⟩)) hW
                    · skip
                      refine z_iload F (pc := 103) dX8_command_103 (lv_at hl 6 rfl) ?_
                      refine z_if_ne F (pc := 105) 118 dX8_command_105 (by decide) (by omega) (fun c_105 => ?_) (fun c_105 => ?_)
                      · skip
                        refine z_iconst F (pc := 118) (-1) dX8_command_118 ?_
                        exact hret _ _ _ _ (-1) (cx, cr, cl, ll, cn) dX8_command_119 (by omega) (by (try dsimp only) <;> (exact Or.inl ⟨by unfold cmdOk; omega, rfl, rfl, rfl, rfl, rfl, rfl⟩)) hW
                      · skip
                        refine z_iloadn F (pc := 108) dX8_command_108 rfl (lv_at hl 3 rfl) ?_
                        refine z_iconst F (pc := 109) (4) dX8_command_109 ?_
                        refine z_icmp_ge F (pc := 110) 120 dX8_command_110 (by decide) (by omega) (fun c_110 => ?_) (fun c_110 => ?_)
                        · skip
                          refine z_aloadn F (pc := 120) dX8_command_120 rfl (lv_at hl 0 rfl) ?_
                          refine z_get F (pc := 121) (C := RX8) (T := TX8) (N := 32) (ci := 8) inX8 hK hW 0 22 rfl rfl (by decide) rfl (List.mem_of_getElem? (i := 4) rfl) (v := .int (iI cn)) rfl dX8_command_121 ?_
                          refine z_bipush F (pc := 124) (10) (by decide +kernel) dX8_command_124 ?_
                          refine z_icmp_ne F (pc := 126) 132 dX8_command_126 (by decide) (by omega) (fun c_126 => ?_) (fun c_126 => ?_)
                          · skip
                            refine z_aloadn F (pc := 132) dX8_command_132 rfl (lv_at hl 0 rfl) ?_
                            refine z_get F (pc := 133) (C := RX8) (T := TX8) (N := 32) (ci := 8) inX8 hK hW 0 23 rfl rfl (by decide) rfl (List.mem_of_getElem? (i := 5) rfl) (v := .ref (aR 17)) rfl dX8_command_133 ?_
                            refine z_aloadn F (pc := 136) dX8_command_136 rfl (lv_at hl 0 rfl) ?_
                            refine z_get F (pc := 137) (C := RX8) (T := TX8) (N := 32) (ci := 8) inX8 hK hW 0 22 rfl rfl (by decide) rfl (List.mem_of_getElem? (i := 4) rfl) (v := .int (iI cn)) rfl dX8_command_137 ?_
                            refine z_iloadn F (pc := 140) dX8_command_140 rfl (lv_at hl 1 rfl) ?_
                            refine z_iast F (pc := 141) hK hW (ws' := wR cI cZ aR xs ys lf ev nm lb kd pt so nu al ak ap he le rw (zU cx cn x) cr cl ll tl ts tc sz mn ac en mg ln cn wc wp) 17 rfl (by decide) dX8_command_141 (by omega) rfl (fun H locs hW => ?_)
                            refine z_aloadn F (pc := 142) dX8_command_142 rfl (lv_at hl 0 rfl) ?_
                            refine z_get F (pc := 143) (C := RX8) (T := TX8) (N := 32) (ci := 8) inX8 hK hW 0 24 rfl rfl (by decide) rfl (List.mem_of_getElem? (i := 6) rfl) (v := .ref (aR 18)) rfl dX8_command_143 ?_
                            refine z_aloadn F (pc := 146) dX8_command_146 rfl (lv_at hl 0 rfl) ?_
                            refine z_get F (pc := 147) (C := RX8) (T := TX8) (N := 32) (ci := 8) inX8 hK hW 0 22 rfl rfl (by decide) rfl (List.mem_of_getElem? (i := 4) rfl) (v := .int (iI cn)) rfl dX8_command_147 ?_
                            refine z_iloadn F (pc := 150) dX8_command_150 rfl (lv_at hl 2 rfl) ?_
                            refine z_iast F (pc := 151) hK hW (ws' := wR cI cZ aR xs ys lf ev nm lb kd pt so nu al ak ap he le rw (zU cx cn x) (zU cr cn k) cl ll tl ts tc sz mn ac en mg ln cn wc wp) 18 rfl (by decide) dX8_command_151 (by omega) rfl (fun H locs hW => ?_)
                            refine z_aloadn F (pc := 152) dX8_command_152 rfl (lv_at hl 0 rfl) ?_
                            refine z_get F (pc := 153) (C := RX8) (T := TX8) (N := 32) (ci := 8) inX8 hK hW 0 25 rfl rfl (by decide) rfl (List.mem_of_getElem? (i := 7) rfl) (v := .ref (aR 19)) rfl dX8_command_153 ?_
                            refine z_aloadn F (pc := 156) dX8_command_156 rfl (lv_at hl 0 rfl) ?_
                            refine z_get F (pc := 157) (C := RX8) (T := TX8) (N := 32) (ci := 8) inX8 hK hW 0 22 rfl rfl (by decide) rfl (List.mem_of_getElem? (i := 4) rfl) (v := .int (iI cn)) rfl dX8_command_157 ?_
                            refine z_iloadn F (pc := 160) dX8_command_160 rfl (lv_at hl 3 rfl) ?_
                            refine z_iast F (pc := 161) hK hW (ws' := wR cI cZ aR xs ys lf ev nm lb kd pt so nu al ak ap he le rw (zU cx cn x) (zU cr cn k) (zU cl cn nn) ll tl ts tc sz mn ac en mg ln cn wc wp) 19 rfl (by decide) dX8_command_161 (by omega) rfl (fun H locs hW => ?_)
                            refine z_aloadn F (pc := 162) dX8_command_162 rfl (lv_at hl 0 rfl) ?_
                            refine z_get F (pc := 163) (C := RX8) (T := TX8) (N := 32) (ci := 8) inX8 hK hW 0 26 rfl rfl (by decide) rfl (List.mem_of_getElem? (i := 8) rfl) (v := .ref (aR 20)) rfl dX8_command_163 ?_
                            refine z_iconst F (pc := 166) (4) dX8_command_166 ?_
                            refine z_aloadn F (pc := 167) dX8_command_167 rfl (lv_at hl 0 rfl) ?_
                            refine z_get F (pc := 168) (C := RX8) (T := TX8) (N := 32) (ci := 8) inX8 hK hW 0 22 rfl rfl (by decide) rfl (List.mem_of_getElem? (i := 4) rfl) (v := .int (iI cn)) rfl dX8_command_168 ?_
                            refine z_imul F (pc := 171) dX8_command_171 ?_
                            refine z_iload F (pc := 172) dX8_command_172 (lv_at hl 4 rfl) ?_
                            refine z_iast F (pc := 174) hK hW (ws' := wR cI cZ aR xs ys lf ev nm lb kd pt so nu al ak ap he le rw (zU cx cn x) (zU cr cn k) (zU cl cn nn) (zU ll (4 * cn) va) tl ts tc sz mn ac en mg ln cn wc wp) 20 rfl (by decide) dX8_command_174 (by omega) rfl (fun H locs hW => ?_)
                            refine z_aloadn F (pc := 175) dX8_command_175 rfl (lv_at hl 0 rfl) ?_
                            refine z_get F (pc := 176) (C := RX8) (T := TX8) (N := 32) (ci := 8) inX8 hK hW 0 26 rfl rfl (by decide) rfl (List.mem_of_getElem? (i := 8) rfl) (v := .ref (aR 20)) rfl dX8_command_176 ?_
                            refine z_iconst F (pc := 179) (4) dX8_command_179 ?_
                            refine z_aloadn F (pc := 180) dX8_command_180 rfl (lv_at hl 0 rfl) ?_
                            refine z_get F (pc := 181) (C := RX8) (T := TX8) (N := 32) (ci := 8) inX8 hK hW 0 22 rfl rfl (by decide) rfl (List.mem_of_getElem? (i := 4) rfl) (v := .int (iI cn)) rfl dX8_command_181 ?_
                            refine z_imul F (pc := 184) dX8_command_184 ?_
                            refine z_iconst F (pc := 185) (1) dX8_command_185 ?_
                            refine z_iadd F (pc := 186) dX8_command_186 ?_
                            refine z_iload F (pc := 187) dX8_command_187 (lv_at hl 5 rfl) ?_
                            refine z_iast F (pc := 189) hK hW (ws' := wR cI cZ aR xs ys lf ev nm lb kd pt so nu al ak ap he le rw (zU cx cn x) (zU cr cn k) (zU cl cn nn) (zU (zU ll (4 * cn) va) ((4 * cn) + 1) vb) tl ts tc sz mn ac en mg ln cn wc wp) 20 rfl (by decide) dX8_command_189 (by omega) rfl (fun H locs hW => ?_)
                            refine z_aloadn F (pc := 190) dX8_command_190 rfl (lv_at hl 0 rfl) ?_
                            refine z_get F (pc := 191) (C := RX8) (T := TX8) (N := 32) (ci := 8) inX8 hK hW 0 26 rfl rfl (by decide) rfl (List.mem_of_getElem? (i := 8) rfl) (v := .ref (aR 20)) rfl dX8_command_191 ?_
                            refine z_iconst F (pc := 194) (4) dX8_command_194 ?_
                            refine z_aloadn F (pc := 195) dX8_command_195 rfl (lv_at hl 0 rfl) ?_
                            refine z_get F (pc := 196) (C := RX8) (T := TX8) (N := 32) (ci := 8) inX8 hK hW 0 22 rfl rfl (by decide) rfl (List.mem_of_getElem? (i := 4) rfl) (v := .int (iI cn)) rfl dX8_command_196 ?_
                            refine z_imul F (pc := 199) dX8_command_199 ?_
                            refine z_iconst F (pc := 200) (2) dX8_command_200 ?_
                            refine z_iadd F (pc := 201) dX8_command_201 ?_
                            refine z_iload F (pc := 202) dX8_command_202 (lv_at hl 6 rfl) ?_
                            refine z_iast F (pc := 204) hK hW (ws' := wR cI cZ aR xs ys lf ev nm lb kd pt so nu al ak ap he le rw (zU cx cn x) (zU cr cn k) (zU cl cn nn) (zU (zU (zU ll (4 * cn) va) ((4 * cn) + 1) vb) ((4 * cn) + 2) vc) tl ts tc sz mn ac en mg ln cn wc wp) 20 rfl (by decide) dX8_command_204 (by omega) rfl (fun H locs hW => ?_)
                            refine z_aloadn F (pc := 205) dX8_command_205 rfl (lv_at hl 0 rfl) ?_
                            refine z_get F (pc := 206) (C := RX8) (T := TX8) (N := 32) (ci := 8) inX8 hK hW 0 26 rfl rfl (by decide) rfl (List.mem_of_getElem? (i := 8) rfl) (v := .ref (aR 20)) rfl dX8_command_206 ?_
                            refine z_iconst F (pc := 209) (4) dX8_command_209 ?_
                            refine z_aloadn F (pc := 210) dX8_command_210 rfl (lv_at hl 0 rfl) ?_
                            refine z_get F (pc := 211) (C := RX8) (T := TX8) (N := 32) (ci := 8) inX8 hK hW 0 22 rfl rfl (by decide) rfl (List.mem_of_getElem? (i := 4) rfl) (v := .int (iI cn)) rfl dX8_command_211 ?_
                            refine z_imul F (pc := 214) dX8_command_214 ?_
                            refine z_iconst F (pc := 215) (3) dX8_command_215 ?_
                            refine z_iadd F (pc := 216) dX8_command_216 ?_
                            refine z_iload F (pc := 217) dX8_command_217 (lv_at hl 7 rfl) ?_
                            refine z_iast F (pc := 219) hK hW (ws' := wR cI cZ aR xs ys lf ev nm lb kd pt so nu al ak ap he le rw (zU cx cn x) (zU cr cn k) (zU cl cn nn) (zU (zU (zU (zU ll (4 * cn) va) ((4 * cn) + 1) vb) ((4 * cn) + 2) vc) ((4 * cn) + 3) vd) tl ts tc sz mn ac en mg ln cn wc wp) 20 rfl (by decide) dX8_command_219 (by omega) rfl (fun H locs hW => ?_)
                            refine z_aloadn F (pc := 220) dX8_command_220 rfl (lv_at hl 0 rfl) ?_
                            refine z_dup F (pc := 221) dX8_command_221 rfl ?_
                            refine z_get F (pc := 222) (C := RX8) (T := TX8) (N := 32) (ci := 8) inX8 hK hW 0 22 rfl rfl (by decide) rfl (List.mem_of_getElem? (i := 4) rfl) (v := .int (iI cn)) rfl dX8_command_222 ?_
                            refine z_iconst F (pc := 225) (1) dX8_command_225 ?_
                            refine z_iadd F (pc := 226) dX8_command_226 ?_
                            refine z_put F (pc := 227) (C := RX8) (T := TX8) (N := 32) (ci := 8) inX8 tyX8 tyX8_ok nmX8 hK hW (ws' := wR cI cZ aR xs ys lf ev nm lb kd pt so nu al ak ap he le rw (zU cx cn x) (zU cr cn k) (zU cl cn nn) (zU (zU (zU (zU ll (4 * cn) va) ((4 * cn) + 1) vb) ((4 * cn) + 2) vc) ((4 * cn) + 3) vd) tl ts tc sz mn ac en mg ln (cn + 1) wc wp) 0 22 rfl rfl (by decide) rfl (List.mem_of_getElem? (i := 4) rfl) rfl rfl (Nat.le_of_ble_eq_true rfl) dX8_command_227 rfl (fun H locs hW => ?_)
                            refine z_aloadn F (pc := 230) dX8_command_230 rfl (lv_at hl 0 rfl) ?_
                            refine z_get F (pc := 231) (C := RX8) (T := TX8) (N := 32) (ci := 8) inX8 hK hW 0 22 rfl rfl (by decide) rfl (List.mem_of_getElem? (i := 4) rfl) (v := .int (iI (cn + 1))) rfl dX8_command_231 ?_
                            refine z_iconst F (pc := 234) (1) dX8_command_234 ?_
                            refine z_isub F (pc := 235) dX8_command_235 ?_
                            exact hret _ _ _ _ ((cn + 1) - 1) ((zU cx cn x), (zU cr cn k), (zU cl cn nn), (zU (zU (zU (zU ll (4 * cn) va) ((4 * cn) + 1) vb) ((4 * cn) + 2) vc) ((4 * cn) + 3) vd), (cn + 1)) dX8_command_236 (by omega) (by (try dsimp only) <;> (exact Or.inr (Or.inr ⟨by unfold cmdOk; omega, by omega, by omega, rfl, rfl, rfl, rfl, rfl⟩))) hW
                          · skip
                            refine z_bipush F (pc := 129) (-3) (by decide +kernel) dX8_command_129 ?_
                            exact hret _ _ _ _ (-3) (cx, cr, cl, ll, cn) dX8_command_131 (by omega) (by (try dsimp only) <;> (exact Or.inr (Or.inl ⟨by unfold cmdOk; omega, by omega, rfl, rfl, rfl, rfl, rfl, rfl⟩))) hW
                        · skip
                          refine z_iload F (pc := 113) dX8_command_113 (lv_at hl 7 rfl) ?_
                          refine z_if_eq F (pc := 115) 120 dX8_command_115 (by decide) (by omega) (fun c_115 => ?_) (fun c_115 => ?_)
                          · skip
                            refine z_aloadn F (pc := 120) dX8_command_120 rfl (lv_at hl 0 rfl) ?_
                            refine z_get F (pc := 121) (C := RX8) (T := TX8) (N := 32) (ci := 8) inX8 hK hW 0 22 rfl rfl (by decide) rfl (List.mem_of_getElem? (i := 4) rfl) (v := .int (iI cn)) rfl dX8_command_121 ?_
                            refine z_bipush F (pc := 124) (10) (by decide +kernel) dX8_command_124 ?_
                            refine z_icmp_ne F (pc := 126) 132 dX8_command_126 (by decide) (by omega) (fun c_126 => ?_) (fun c_126 => ?_)
                            · skip
                              refine z_aloadn F (pc := 132) dX8_command_132 rfl (lv_at hl 0 rfl) ?_
                              refine z_get F (pc := 133) (C := RX8) (T := TX8) (N := 32) (ci := 8) inX8 hK hW 0 23 rfl rfl (by decide) rfl (List.mem_of_getElem? (i := 5) rfl) (v := .ref (aR 17)) rfl dX8_command_133 ?_
                              refine z_aloadn F (pc := 136) dX8_command_136 rfl (lv_at hl 0 rfl) ?_
                              refine z_get F (pc := 137) (C := RX8) (T := TX8) (N := 32) (ci := 8) inX8 hK hW 0 22 rfl rfl (by decide) rfl (List.mem_of_getElem? (i := 4) rfl) (v := .int (iI cn)) rfl dX8_command_137 ?_
                              refine z_iloadn F (pc := 140) dX8_command_140 rfl (lv_at hl 1 rfl) ?_
                              refine z_iast F (pc := 141) hK hW (ws' := wR cI cZ aR xs ys lf ev nm lb kd pt so nu al ak ap he le rw (zU cx cn x) cr cl ll tl ts tc sz mn ac en mg ln cn wc wp) 17 rfl (by decide) dX8_command_141 (by omega) rfl (fun H locs hW => ?_)
                              refine z_aloadn F (pc := 142) dX8_command_142 rfl (lv_at hl 0 rfl) ?_
                              refine z_get F (pc := 143) (C := RX8) (T := TX8) (N := 32) (ci := 8) inX8 hK hW 0 24 rfl rfl (by decide) rfl (List.mem_of_getElem? (i := 6) rfl) (v := .ref (aR 18)) rfl dX8_command_143 ?_
                              refine z_aloadn F (pc := 146) dX8_command_146 rfl (lv_at hl 0 rfl) ?_
                              refine z_get F (pc := 147) (C := RX8) (T := TX8) (N := 32) (ci := 8) inX8 hK hW 0 22 rfl rfl (by decide) rfl (List.mem_of_getElem? (i := 4) rfl) (v := .int (iI cn)) rfl dX8_command_147 ?_
                              refine z_iloadn F (pc := 150) dX8_command_150 rfl (lv_at hl 2 rfl) ?_
                              refine z_iast F (pc := 151) hK hW (ws' := wR cI cZ aR xs ys lf ev nm lb kd pt so nu al ak ap he le rw (zU cx cn x) (zU cr cn k) cl ll tl ts tc sz mn ac en mg ln cn wc wp) 18 rfl (by decide) dX8_command_151 (by omega) rfl (fun H locs hW => ?_)
                              refine z_aloadn F (pc := 152) dX8_command_152 rfl (lv_at hl 0 rfl) ?_
                              refine z_get F (pc := 153) (C := RX8) (T := TX8) (N := 32) (ci := 8) inX8 hK hW 0 25 rfl rfl (by decide) rfl (List.mem_of_getElem? (i := 7) rfl) (v := .ref (aR 19)) rfl dX8_command_153 ?_
                              refine z_aloadn F (pc := 156) dX8_command_156 rfl (lv_at hl 0 rfl) ?_
                              refine z_get F (pc := 157) (C := RX8) (T := TX8) (N := 32) (ci := 8) inX8 hK hW 0 22 rfl rfl (by decide) rfl (List.mem_of_getElem? (i := 4) rfl) (v := .int (iI cn)) rfl dX8_command_157 ?_
                              refine z_iloadn F (pc := 160) dX8_command_160 rfl (lv_at hl 3 rfl) ?_
                              refine z_iast F (pc := 161) hK hW (ws' := wR cI cZ aR xs ys lf ev nm lb kd pt so nu al ak ap he le rw (zU cx cn x) (zU cr cn k) (zU cl cn nn) ll tl ts tc sz mn ac en mg ln cn wc wp) 19 rfl (by decide) dX8_command_161 (by omega) rfl (fun H locs hW => ?_)
                              refine z_aloadn F (pc := 162) dX8_command_162 rfl (lv_at hl 0 rfl) ?_
                              refine z_get F (pc := 163) (C := RX8) (T := TX8) (N := 32) (ci := 8) inX8 hK hW 0 26 rfl rfl (by decide) rfl (List.mem_of_getElem? (i := 8) rfl) (v := .ref (aR 20)) rfl dX8_command_163 ?_
                              refine z_iconst F (pc := 166) (4) dX8_command_166 ?_
                              refine z_aloadn F (pc := 167) dX8_command_167 rfl (lv_at hl 0 rfl) ?_
                              refine z_get F (pc := 168) (C := RX8) (T := TX8) (N := 32) (ci := 8) inX8 hK hW 0 22 rfl rfl (by decide) rfl (List.mem_of_getElem? (i := 4) rfl) (v := .int (iI cn)) rfl dX8_command_168 ?_
                              refine z_imul F (pc := 171) dX8_command_171 ?_
                              refine z_iload F (pc := 172) dX8_command_172 (lv_at hl 4 rfl) ?_
                              refine z_iast F (pc := 174) hK hW (ws' := wR cI cZ aR xs ys lf ev nm lb kd pt so nu al ak ap he le rw (zU cx cn x) (zU cr cn k) (zU cl cn nn) (zU ll (4 * cn) va) tl ts tc sz mn ac en mg ln cn wc wp) 20 rfl (by decide) dX8_command_174 (by omega) rfl (fun H locs hW => ?_)
                              refine z_aloadn F (pc := 175) dX8_command_175 rfl (lv_at hl 0 rfl) ?_
                              refine z_get F (pc := 176) (C := RX8) (T := TX8) (N := 32) (ci := 8) inX8 hK hW 0 26 rfl rfl (by decide) rfl (List.mem_of_getElem? (i := 8) rfl) (v := .ref (aR 20)) rfl dX8_command_176 ?_
                              refine z_iconst F (pc := 179) (4) dX8_command_179 ?_
                              refine z_aloadn F (pc := 180) dX8_command_180 rfl (lv_at hl 0 rfl) ?_
                              refine z_get F (pc := 181) (C := RX8) (T := TX8) (N := 32) (ci := 8) inX8 hK hW 0 22 rfl rfl (by decide) rfl (List.mem_of_getElem? (i := 4) rfl) (v := .int (iI cn)) rfl dX8_command_181 ?_
                              refine z_imul F (pc := 184) dX8_command_184 ?_
                              refine z_iconst F (pc := 185) (1) dX8_command_185 ?_
                              refine z_iadd F (pc := 186) dX8_command_186 ?_
                              refine z_iload F (pc := 187) dX8_command_187 (lv_at hl 5 rfl) ?_
                              refine z_iast F (pc := 189) hK hW (ws' := wR cI cZ aR xs ys lf ev nm lb kd pt so nu al ak ap he le rw (zU cx cn x) (zU cr cn k) (zU cl cn nn) (zU (zU ll (4 * cn) va) ((4 * cn) + 1) vb) tl ts tc sz mn ac en mg ln cn wc wp) 20 rfl (by decide) dX8_command_189 (by omega) rfl (fun H locs hW => ?_)
                              refine z_aloadn F (pc := 190) dX8_command_190 rfl (lv_at hl 0 rfl) ?_
                              refine z_get F (pc := 191) (C := RX8) (T := TX8) (N := 32) (ci := 8) inX8 hK hW 0 26 rfl rfl (by decide) rfl (List.mem_of_getElem? (i := 8) rfl) (v := .ref (aR 20)) rfl dX8_command_191 ?_
                              refine z_iconst F (pc := 194) (4) dX8_command_194 ?_
                              refine z_aloadn F (pc := 195) dX8_command_195 rfl (lv_at hl 0 rfl) ?_
                              refine z_get F (pc := 196) (C := RX8) (T := TX8) (N := 32) (ci := 8) inX8 hK hW 0 22 rfl rfl (by decide) rfl (List.mem_of_getElem? (i := 4) rfl) (v := .int (iI cn)) rfl dX8_command_196 ?_
                              refine z_imul F (pc := 199) dX8_command_199 ?_
                              refine z_iconst F (pc := 200) (2) dX8_command_200 ?_
                              refine z_iadd F (pc := 201) dX8_command_201 ?_
                              refine z_iload F (pc := 202) dX8_command_202 (lv_at hl 6 rfl) ?_
                              refine z_iast F (pc := 204) hK hW (ws' := wR cI cZ aR xs ys lf ev nm lb kd pt so nu al ak ap he le rw (zU cx cn x) (zU cr cn k) (zU cl cn nn) (zU (zU (zU ll (4 * cn) va) ((4 * cn) + 1) vb) ((4 * cn) + 2) vc) tl ts tc sz mn ac en mg ln cn wc wp) 20 rfl (by decide) dX8_command_204 (by omega) rfl (fun H locs hW => ?_)
                              refine z_aloadn F (pc := 205) dX8_command_205 rfl (lv_at hl 0 rfl) ?_
                              refine z_get F (pc := 206) (C := RX8) (T := TX8) (N := 32) (ci := 8) inX8 hK hW 0 26 rfl rfl (by decide) rfl (List.mem_of_getElem? (i := 8) rfl) (v := .ref (aR 20)) rfl dX8_command_206 ?_
                              refine z_iconst F (pc := 209) (4) dX8_command_209 ?_
                              refine z_aloadn F (pc := 210) dX8_command_210 rfl (lv_at hl 0 rfl) ?_
                              refine z_get F (pc := 211) (C := RX8) (T := TX8) (N := 32) (ci := 8) inX8 hK hW 0 22 rfl rfl (by decide) rfl (List.mem_of_getElem? (i := 4) rfl) (v := .int (iI cn)) rfl dX8_command_211 ?_
                              refine z_imul F (pc := 214) dX8_command_214 ?_
                              refine z_iconst F (pc := 215) (3) dX8_command_215 ?_
                              refine z_iadd F (pc := 216) dX8_command_216 ?_
                              refine z_iload F (pc := 217) dX8_command_217 (lv_at hl 7 rfl) ?_
                              refine z_iast F (pc := 219) hK hW (ws' := wR cI cZ aR xs ys lf ev nm lb kd pt so nu al ak ap he le rw (zU cx cn x) (zU cr cn k) (zU cl cn nn) (zU (zU (zU (zU ll (4 * cn) va) ((4 * cn) + 1) vb) ((4 * cn) + 2) vc) ((4 * cn) + 3) vd) tl ts tc sz mn ac en mg ln cn wc wp) 20 rfl (by decide) dX8_command_219 (by omega) rfl (fun H locs hW => ?_)
                              refine z_aloadn F (pc := 220) dX8_command_220 rfl (lv_at hl 0 rfl) ?_
                              refine z_dup F (pc := 221) dX8_command_221 rfl ?_
                              refine z_get F (pc := 222) (C := RX8) (T := TX8) (N := 32) (ci := 8) inX8 hK hW 0 22 rfl rfl (by decide) rfl (List.mem_of_getElem? (i := 4) rfl) (v := .int (iI cn)) rfl dX8_command_222 ?_
                              refine z_iconst F (pc := 225) (1) dX8_command_225 ?_
                              refine z_iadd F (pc := 226) dX8_command_226 ?_
                              refine z_put F (pc := 227) (C := RX8) (T := TX8) (N := 32) (ci := 8) inX8 tyX8 tyX8_ok nmX8 hK hW (ws' := wR cI cZ aR xs ys lf ev nm lb kd pt so nu al ak ap he le rw (zU cx cn x) (zU cr cn k) (zU cl cn nn) (zU (zU (zU (zU ll (4 * cn) va) ((4 * cn) + 1) vb) ((4 * cn) + 2) vc) ((4 * cn) + 3) vd) tl ts tc sz mn ac en mg ln (cn + 1) wc wp) 0 22 rfl rfl (by decide) rfl (List.mem_of_getElem? (i := 4) rfl) rfl rfl (Nat.le_of_ble_eq_true rfl) dX8_command_227 rfl (fun H locs hW => ?_)
                              refine z_aloadn F (pc := 230) dX8_command_230 rfl (lv_at hl 0 rfl) ?_
                              refine z_get F (pc := 231) (C := RX8) (T := TX8) (N := 32) (ci := 8) inX8 hK hW 0 22 rfl rfl (by decide) rfl (List.mem_of_getElem? (i := 4) rfl) (v := .int (iI (cn + 1))) rfl dX8_command_231 ?_
                              refine z_iconst F (pc := 234) (1) dX8_command_234 ?_
                              refine z_isub F (pc := 235) dX8_command_235 ?_
                              exact hret _ _ _ _ ((cn + 1) - 1) ((zU cx cn x), (zU cr cn k), (zU cl cn nn), (zU (zU (zU (zU ll (4 * cn) va) ((4 * cn) + 1) vb) ((4 * cn) + 2) vc) ((4 * cn) + 3) vd), (cn + 1)) dX8_command_236 (by omega) (by (try dsimp only) <;> (exact Or.inr (Or.inr ⟨by unfold cmdOk; omega, by omega, by omega, rfl, rfl, rfl, rfl, rfl⟩))) hW
                            · skip
                              refine z_bipush F (pc := 129) (-3) (by decide +kernel) dX8_command_129 ?_
                              exact hret _ _ _ _ (-3) (cx, cr, cl, ll, cn) dX8_command_131 (by omega) (by (try dsimp only) <;> (exact Or.inr (Or.inl ⟨by unfold cmdOk; omega, by omega, rfl, rfl, rfl, rfl, rfl, rfl⟩))) hW
                          · skip
                            refine z_iconst F (pc := 118) (-1) dX8_command_118 ?_
                            exact hret _ _ _ _ (-1) (cx, cr, cl, ll, cn) dX8_command_119 (by omega) (by (try dsimp only) <;> (exact Or.inl ⟨by unfold cmdOk; omega, rfl, rfl, rfl, rfl, rfl, rfl⟩)) hW

set_option maxHeartbeats 4000000 in
set_option maxRecDepth 100000 in
theorem c_X8_stands (l : Launch) (D : va_G) (cI cZ : ClassId) (aR : Nat → Nat) (xs ys lf ev nm lb kd pt so nu al ak ap he le rw cx cr cl ll tl ts tc : Int → Int) (sz mn ac en mg ln cn wc wp : Int) (k pl : Int) (sz0 : Nat) (r_k : (-2147483648 ≤ k ∧ k < 2147483648)) (r_pl : (-2147483648 ≤ pl ∧ pl < 2147483648)) (hc : Cok cx cr cl ll cn) (hr : Rok rw ln) (hk : 0 ≤ k ∧ k < cn) (hpl : 0 ≤ pl ∧ pl ≤ ln) : Met l yX8_stands wsX8_stands ({ frames := 0, cells := 0, slots := 0, locals := 0 } : Room) (zPc D cI cZ [.ref (aR 0), .int (iI k), .int (iI pl)] (wR cI cZ aR xs ys lf ev nm lb kd pt so nu al ak ap he le rw cx cr cl ll tl ts tc sz mn ac en mg ln cn wc wp) sz0) (zQi D cI cZ (wR cI cZ aR xs ys lf ev nm lb kd pt so nu al ak ap he le rw cx cr cl ll tl ts tc sz mn ac en mg ln cn wc wp) sz0 (fun (r : Int) (u : Unit) => zB r (stA cl ll rw ln k pl)) (fun (u : Unit) => wR cI cZ aR xs ys lf ev nm lb kd pt so nu al ak ap he le rw cx cr cl ll tl ts tc sz mn ac en mg ln cn wc wp)) 0 0 (va_A (wR cI cZ aR xs ys lf ev nm lb kd pt so nu al ak ap he le rw cx cr cl ll tl ts tc sz mn ac en mg ln cn wc wp) sz0) := by
  have hcn := hc.1
  have h9k := Cok_at hc hk.1 hk.2
  have hln := hr.1
  refine z_ofI (maxL := 5) (plainFor_of_name (by decide)) rfl (Nat.le_of_ble_eq_true rfl) (Or.inr ⟨rfl, fun z u h => zB_01 h⟩) ?_
  intro p e s m below meth c A ls Q F hK hW hA hl hret
  have hl : lv_has ls 5 [(0, .ref (aR 0)), (1, .int (iI k)), (2, .int (iI pl))] := hl
  have inX8 : ∀ w ∈ u_ws RX8 TX8 32, w ∈ wsX8_stands := fun _ h => List.mem_cons_of_mem _ (List.mem_append_right _ h)
  refine z_iloadn F (pc := 0) dX8_stands_0 rfl (lv_at hl 2 rfl) ?_
  refine z_aloadn F (pc := 1) dX8_stands_1 rfl (lv_at hl 0 rfl) ?_
  refine z_get F (pc := 2) (C := RX8) (T := TX8) (N := 32) (ci := 8) inX8 hK hW 0 25 rfl rfl (by decide) rfl (List.mem_of_getElem? (i := 1) rfl) (v := .ref (aR 19)) rfl dX8_stands_2 ?_
  refine z_iloadn F (pc := 5) dX8_stands_5 rfl (lv_at hl 1 rfl) ?_
  refine z_iald F (pc := 6) hK hW 19 rfl (by decide) dX8_stands_6 (by omega) ?_
  refine z_iadd F (pc := 7) dX8_stands_7 ?_
  refine z_aloadn F (pc := 8) dX8_stands_8 rfl (lv_at hl 0 rfl) ?_
  refine z_get F (pc := 9) (C := RX8) (T := TX8) (N := 32) (ci := 8) inX8 hK hW 0 20 rfl rfl (by decide) rfl (List.mem_of_getElem? (i := 2) rfl) (v := .int (iI ln)) rfl dX8_stands_9 ?_
  refine z_icmp_gt F (pc := 12) 19 dX8_stands_12 (by decide) (by omega) (fun c_12 => ?_) (fun c_12 => ?_)
  · skip
    refine z_iconst F (pc := 19) (0) dX8_stands_19 ?_
    refine z_istoren F (pc := 20) hl (lv' := [(3, .int (iI 0)), (0, .ref (aR 0)), (1, .int (iI k)), (2, .int (iI pl))]) dX8_stands_20 rfl (by decide) rfl (fun ls hl => ?_)
    refine z_iconst F (pc := 21) (0) dX8_stands_21 ?_
    refine z_istore F (pc := 22) hl (lv' := [(4, .int (iI 0)), (3, .int (iI 0)), (0, .ref (aR 0)), (1, .int (iI k)), (2, .int (iI pl))]) dX8_stands_22 (by decide) rfl (fun ls hl => ?_)
    have cut_24 : ∀ (fuel : Nat) (q3 : Int) (j : Int) (H : Heap) (locs : List Loc) (ls : Array Slot), (cl k - j).toNat < fuel → (0 ≤ j ∧ j ≤ cl k) → (zB q3 (pl + cl k ≤ ln ∧ ∀ i, 0 ≤ i → i < j → rw (pl + i) = ll (4 * k + i))) → (q3 = 0 ∨ q3 = 1) → lv_has ls 5 [(4, .int (iI j)), (3, .int (iI q3)), (0, .ref (aR 0)), (1, .int (iI k)), (2, .int (iI pl))] → zW D A s.heap H locs (wR cI cZ aR xs ys lf ev nm lb kd pt so nu al ak ap he le rw cx cr cl ll tl ts tc sz mn ac en mg ln cn wc wp) → W p l e ({ frames := 0, cells := 0, slots := 0, locals := 0 } : Room) s m ([.ref (aR 0), .int (iI k), .int (iI pl)] : List Value).toArray below meth c H locs 0 0 Q (F0 m 24 ls []) := by
      intro fuel
      induction fuel with
      | zero => intro q3 j H locs ls hm; exact absurd hm (Nat.not_lt_zero _)
      | succ fuel ih_24 =>
        intro q3 j H locs ls hm_24 g1 g2 g3 hl hW
        refine z_iload F (pc := 24) dX8_stands_24 (lv_at hl 0 rfl) ?_
        refine z_aloadn F (pc := 26) dX8_stands_26 rfl (lv_at hl 2 rfl) ?_
        refine z_get F (pc := 27) (C := RX8) (T := TX8) (N := 32) (ci := 8) inX8 hK hW 0 25 rfl rfl (by decide) rfl (List.mem_of_getElem? (i := 1) rfl) (v := .ref (aR 19)) rfl dX8_stands_27 ?_
        refine z_iloadn F (pc := 30) dX8_stands_30 rfl (lv_at hl 3 rfl) ?_
        refine z_iald F (pc := 31) hK hW 19 rfl (by decide) dX8_stands_31 (by omega) ?_
        refine z_icmp_ge F (pc := 32) 74 dX8_stands_32 (by decide) (by omega) (fun c_32 => ?_) (fun c_32 => ?_)
        · skip
          refine z_iloadn F (pc := 74) dX8_stands_74 rfl (lv_at hl 1 rfl) ?_
          exact hret _ _ _ _ q3 () dX8_stands_75 (by omega) (by exact zB_if g2 (by rw [show j = cl k by omega]; exact Iff.rfl)) hW
        · skip
          refine z_iloadn F (pc := 35) dX8_stands_35 rfl (lv_at hl 1 rfl) ?_
          refine z_if_eq F (pc := 36) 74 dX8_stands_36 (by decide) (by omega) (fun c_36 => ?_) (fun c_36 => ?_)
          · skip
            refine z_iloadn F (pc := 74) dX8_stands_74 rfl (lv_at hl 1 rfl) ?_
            exact hret _ _ _ _ q3 () dX8_stands_75 (by omega) (by exact zB_if g2 ⟨fun q => absurd q (zB_f g2 c_36), fun q => ⟨q.1, fun i i0 i1 => q.2 i i0 (by omega)⟩⟩) hW
          · skip
            have hq := zB_t g2 c_36
            have hva := Cok_l hc hk.1 hk.2 g1.1 (by omega)
            have hvr := Rok_at hr (j := pl + j) (by omega) (by omega)
            refine z_aloadn F (pc := 39) dX8_stands_39 rfl (lv_at hl 2 rfl) ?_
            refine z_get F (pc := 40) (C := RX8) (T := TX8) (N := 32) (ci := 8) inX8 hK hW 0 21 rfl rfl (by decide) rfl (List.mem_of_getElem? (i := 3) rfl) (v := .ref (aR 16)) rfl dX8_stands_40 ?_
            refine z_iloadn F (pc := 43) dX8_stands_43 rfl (lv_at hl 4 rfl) ?_
            refine z_iload F (pc := 44) dX8_stands_44 (lv_at hl 0 rfl) ?_
            refine z_iadd F (pc := 46) dX8_stands_46 ?_
            refine z_iald F (pc := 47) hK hW 16 rfl (by decide) dX8_stands_47 (by omega) ?_
            refine z_aloadn F (pc := 48) dX8_stands_48 rfl (lv_at hl 2 rfl) ?_
            refine z_get F (pc := 49) (C := RX8) (T := TX8) (N := 32) (ci := 8) inX8 hK hW 0 26 rfl rfl (by decide) rfl (List.mem_of_getElem? (i := 4) rfl) (v := .ref (aR 20)) rfl dX8_stands_49 ?_
            refine z_iconst F (pc := 52) (4) dX8_stands_52 ?_
            refine z_iloadn F (pc := 53) dX8_stands_53 rfl (lv_at hl 3 rfl) ?_
            refine z_imul F (pc := 54) dX8_stands_54 ?_
            refine z_iload F (pc := 55) dX8_stands_55 (lv_at hl 0 rfl) ?_
            refine z_iadd F (pc := 57) dX8_stands_57 ?_
            refine z_iald F (pc := 58) hK hW 20 rfl (by decide) dX8_stands_58 (by omega) ?_
            refine z_icmp_ne F (pc := 59) 66 dX8_stands_59 (by decide) (by omega) (fun c_59 => ?_) (fun c_59 => ?_)
            · skip
              refine z_iconst F (pc := 66) (0) dX8_stands_66 ?_
              refine z_istoren F (pc := 67) hl (lv' := [(3, .int (iI 0)), (4, .int (iI j)), (0, .ref (aR 0)), (1, .int (iI k)), (2, .int (iI pl))]) dX8_stands_67 rfl (by decide) rfl (fun ls hl => ?_)
              refine z_iinc F (pc := 68) hl (lv' := [(4, .int (iI (j + 1))), (3, .int (iI 0)), (0, .ref (aR 0)), (1, .int (iI k)), (2, .int (iI pl))]) dX8_stands_68 (k := 1) rfl (by decide) rfl (fun ls hl => ?_)
              refine z_goto F (pc := 71) 24 dX8_stands_71 (by decide) ?_
              exact ih_24 0 (j + 1) _ _ _ (by omega) (by omega) (by first | exact zB_1 ⟨hq.1, fun i i0 i1 => by (by_cases q : i = j) <;> first | (rw [q]; assumption) | exact hq.2 i i0 (by omega)⟩ | exact zB_0 (fun q => by have := q.2 j g1.1 (by omega); omega)) (by omega) (lv_sub hl [0, 1, 2, 3, 4] rfl) hW
            · skip
              refine z_iconst F (pc := 62) (1) dX8_stands_62 ?_
              refine z_goto F (pc := 63) 67 dX8_stands_63 (by decide) ?_
              refine z_istoren F (pc := 67) hl (lv' := [(3, .int (iI 1)), (4, .int (iI j)), (0, .ref (aR 0)), (1, .int (iI k)), (2, .int (iI pl))]) dX8_stands_67 rfl (by decide) rfl (fun ls hl => ?_)
              refine z_iinc F (pc := 68) hl (lv' := [(4, .int (iI (j + 1))), (3, .int (iI 1)), (0, .ref (aR 0)), (1, .int (iI k)), (2, .int (iI pl))]) dX8_stands_68 (k := 1) rfl (by decide) rfl (fun ls hl => ?_)
              refine z_goto F (pc := 71) 24 dX8_stands_71 (by decide) ?_
              exact ih_24 1 (j + 1) _ _ _ (by omega) (by omega) (by first | exact zB_1 ⟨hq.1, fun i i0 i1 => by (by_cases q : i = j) <;> first | (rw [q]; assumption) | exact hq.2 i i0 (by omega)⟩ | exact zB_0 (fun q => by have := q.2 j g1.1 (by omega); omega)) (by omega) (lv_sub hl [0, 1, 2, 3, 4] rfl) hW
    exact cut_24 _ 0 0 _ _ _ (Nat.lt_succ_self _) (by omega) (by first | exact zB_1 ⟨by omega, fun i i0 i1 => by omega⟩ | exact zB_0 (fun q => by omega)) (by omega) (lv_sub hl [0, 1, 2, 3, 4] rfl) hW
  · skip
    refine z_iconst F (pc := 15) (1) dX8_stands_15 ?_
    refine z_goto F (pc := 16) 20 dX8_stands_16 (by decide) ?_
    refine z_istoren F (pc := 20) hl (lv' := [(3, .int (iI 1)), (0, .ref (aR 0)), (1, .int (iI k)), (2, .int (iI pl))]) dX8_stands_20 rfl (by decide) rfl (fun ls hl => ?_)
    refine z_iconst F (pc := 21) (0) dX8_stands_21 ?_
    refine z_istore F (pc := 22) hl (lv' := [(4, .int (iI 0)), (3, .int (iI 1)), (0, .ref (aR 0)), (1, .int (iI k)), (2, .int (iI pl))]) dX8_stands_22 (by decide) rfl (fun ls hl => ?_)
    have cut_24 : ∀ (fuel : Nat) (q3 : Int) (j : Int) (H : Heap) (locs : List Loc) (ls : Array Slot), (cl k - j).toNat < fuel → (0 ≤ j ∧ j ≤ cl k) → (zB q3 (pl + cl k ≤ ln ∧ ∀ i, 0 ≤ i → i < j → rw (pl + i) = ll (4 * k + i))) → (q3 = 0 ∨ q3 = 1) → lv_has ls 5 [(4, .int (iI j)), (3, .int (iI q3)), (0, .ref (aR 0)), (1, .int (iI k)), (2, .int (iI pl))] → zW D A s.heap H locs (wR cI cZ aR xs ys lf ev nm lb kd pt so nu al ak ap he le rw cx cr cl ll tl ts tc sz mn ac en mg ln cn wc wp) → W p l e ({ frames := 0, cells := 0, slots := 0, locals := 0 } : Room) s m ([.ref (aR 0), .int (iI k), .int (iI pl)] : List Value).toArray below meth c H locs 0 0 Q (F0 m 24 ls []) := by
      intro fuel
      induction fuel with
      | zero => intro q3 j H locs ls hm; exact absurd hm (Nat.not_lt_zero _)
      | succ fuel ih_24 =>
        intro q3 j H locs ls hm_24 g1 g2 g3 hl hW
        refine z_iload F (pc := 24) dX8_stands_24 (lv_at hl 0 rfl) ?_
        refine z_aloadn F (pc := 26) dX8_stands_26 rfl (lv_at hl 2 rfl) ?_
        refine z_get F (pc := 27) (C := RX8) (T := TX8) (N := 32) (ci := 8) inX8 hK hW 0 25 rfl rfl (by decide) rfl (List.mem_of_getElem? (i := 1) rfl) (v := .ref (aR 19)) rfl dX8_stands_27 ?_
        refine z_iloadn F (pc := 30) dX8_stands_30 rfl (lv_at hl 3 rfl) ?_
        refine z_iald F (pc := 31) hK hW 19 rfl (by decide) dX8_stands_31 (by omega) ?_
        refine z_icmp_ge F (pc := 32) 74 dX8_stands_32 (by decide) (by omega) (fun c_32 => ?_) (fun c_32 => ?_)
        · skip
          refine z_iloadn F (pc := 74) dX8_stands_74 rfl (lv_at hl 1 rfl) ?_
          exact hret _ _ _ _ q3 () dX8_stands_75 (by omega) (by exact zB_if g2 (by rw [show j = cl k by omega]; exact Iff.rfl)) hW
        · skip
          refine z_iloadn F (pc := 35) dX8_stands_35 rfl (lv_at hl 1 rfl) ?_
          refine z_if_eq F (pc := 36) 74 dX8_stands_36 (by decide) (by omega) (fun c_36 => ?_) (fun c_36 => ?_)
          · skip
            refine z_iloadn F (pc := 74) dX8_stands_74 rfl (lv_at hl 1 rfl) ?_
            exact hret _ _ _ _ q3 () dX8_stands_75 (by omega) (by exact zB_if g2 ⟨fun q => absurd q (zB_f g2 c_36), fun q => ⟨q.1, fun i i0 i1 => q.2 i i0 (by omega)⟩⟩) hW
          · skip
            have hq := zB_t g2 c_36
            have hva := Cok_l hc hk.1 hk.2 g1.1 (by omega)
            have hvr := Rok_at hr (j := pl + j) (by omega) (by omega)
            refine z_aloadn F (pc := 39) dX8_stands_39 rfl (lv_at hl 2 rfl) ?_
            refine z_get F (pc := 40) (C := RX8) (T := TX8) (N := 32) (ci := 8) inX8 hK hW 0 21 rfl rfl (by decide) rfl (List.mem_of_getElem? (i := 3) rfl) (v := .ref (aR 16)) rfl dX8_stands_40 ?_
            refine z_iloadn F (pc := 43) dX8_stands_43 rfl (lv_at hl 4 rfl) ?_
            refine z_iload F (pc := 44) dX8_stands_44 (lv_at hl 0 rfl) ?_
            refine z_iadd F (pc := 46) dX8_stands_46 ?_
            refine z_iald F (pc := 47) hK hW 16 rfl (by decide) dX8_stands_47 (by omega) ?_
            refine z_aloadn F (pc := 48) dX8_stands_48 rfl (lv_at hl 2 rfl) ?_
            refine z_get F (pc := 49) (C := RX8) (T := TX8) (N := 32) (ci := 8) inX8 hK hW 0 26 rfl rfl (by decide) rfl (List.mem_of_getElem? (i := 4) rfl) (v := .ref (aR 20)) rfl dX8_stands_49 ?_
            refine z_iconst F (pc := 52) (4) dX8_stands_52 ?_
            refine z_iloadn F (pc := 53) dX8_stands_53 rfl (lv_at hl 3 rfl) ?_
            refine z_imul F (pc := 54) dX8_stands_54 ?_
            refine z_iload F (pc := 55) dX8_stands_55 (lv_at hl 0 rfl) ?_
            refine z_iadd F (pc := 57) dX8_stands_57 ?_
            refine z_iald F (pc := 58) hK hW 20 rfl (by decide) dX8_stands_58 (by omega) ?_
            refine z_icmp_ne F (pc := 59) 66 dX8_stands_59 (by decide) (by omega) (fun c_59 => ?_) (fun c_59 => ?_)
            · skip
              refine z_iconst F (pc := 66) (0) dX8_stands_66 ?_
              refine z_istoren F (pc := 67) hl (lv' := [(3, .int (iI 0)), (4, .int (iI j)), (0, .ref (aR 0)), (1, .int (iI k)), (2, .int (iI pl))]) dX8_stands_67 rfl (by decide) rfl (fun ls hl => ?_)
              refine z_iinc F (pc := 68) hl (lv' := [(4, .int (iI (j + 1))), (3, .int (iI 0)), (0, .ref (aR 0)), (1, .int (iI k)), (2, .int (iI pl))]) dX8_stands_68 (k := 1) rfl (by decide) rfl (fun ls hl => ?_)
              refine z_goto F (pc := 71) 24 dX8_stands_71 (by decide) ?_
              exact ih_24 0 (j + 1) _ _ _ (by omega) (by omega) (by first | exact zB_1 ⟨hq.1, fun i i0 i1 => by (by_cases q : i = j) <;> first | (rw [q]; assumption) | exact hq.2 i i0 (by omega)⟩ | exact zB_0 (fun q => by have := q.2 j g1.1 (by omega); omega)) (by omega) (lv_sub hl [0, 1, 2, 3, 4] rfl) hW
            · skip
              refine z_iconst F (pc := 62) (1) dX8_stands_62 ?_
              refine z_goto F (pc := 63) 67 dX8_stands_63 (by decide) ?_
              refine z_istoren F (pc := 67) hl (lv' := [(3, .int (iI 1)), (4, .int (iI j)), (0, .ref (aR 0)), (1, .int (iI k)), (2, .int (iI pl))]) dX8_stands_67 rfl (by decide) rfl (fun ls hl => ?_)
              refine z_iinc F (pc := 68) hl (lv' := [(4, .int (iI (j + 1))), (3, .int (iI 1)), (0, .ref (aR 0)), (1, .int (iI k)), (2, .int (iI pl))]) dX8_stands_68 (k := 1) rfl (by decide) rfl (fun ls hl => ?_)
              refine z_goto F (pc := 71) 24 dX8_stands_71 (by decide) ?_
              exact ih_24 1 (j + 1) _ _ _ (by omega) (by omega) (by first | exact zB_1 ⟨hq.1, fun i i0 i1 => by (by_cases q : i = j) <;> first | (rw [q]; assumption) | exact hq.2 i i0 (by omega)⟩ | exact zB_0 (fun q => by have := q.2 j g1.1 (by omega); omega)) (by omega) (lv_sub hl [0, 1, 2, 3, 4] rfl) hW
    exact cut_24 _ 1 0 _ _ _ (Nat.lt_succ_self _) (by omega) (by first | exact zB_1 ⟨by omega, fun i i0 i1 => by omega⟩ | exact zB_0 (fun q => by omega)) (by omega) (lv_sub hl [0, 1, 2, 3, 4] rfl) hW

set_option maxHeartbeats 4000000 in
set_option maxRecDepth 100000 in
theorem c_X8_commandAt (l : Launch) (D : va_G) (cI cZ : ClassId) (aR : Nat → Nat) (xs ys lf ev nm lb kd pt so nu al ak ap he le rw cx cr cl ll tl ts tc : Int → Int) (sz mn ac en mg ln cn wc wp : Int) (x pl : Int) (sz0 : Nat) (r_x : (-2147483648 ≤ x ∧ x < 2147483648)) (r_pl : (-2147483648 ≤ pl ∧ pl < 2147483648)) (hc : Cok cx cr cl ll cn) (hr : Rok rw ln) (hpl : 0 ≤ pl ∧ pl < ln) : Met l yX8_commandAt wsX8_commandAt ({ frames := 1, cells := 0, slots := 0, locals := 24 } : Room) (zPc D cI cZ [.ref (aR 0), .int (iI x), .int (iI pl)] (wR cI cZ aR xs ys lf ev nm lb kd pt so nu al ak ap he le rw cx cr cl ll tl ts tc sz mn ac en mg ln cn wc wp) sz0) (zQi D cI cZ (wR cI cZ aR xs ys lf ev nm lb kd pt so nu al ak ap he le rw cx cr cl ll tl ts tc sz mn ac en mg ln cn wc wp) sz0 (fun (r : Int) (u : Unit) => bestT cx cr cl ll rw cn ln x cn pl r) (fun (u : Unit) => wR cI cZ aR xs ys lf ev nm lb kd pt so nu al ak ap he le rw cx cr cl ll tl ts tc sz mn ac en mg ln cn wc wp)) 0 0 (va_A (wR cI cZ aR xs ys lf ev nm lb kd pt so nu al ak ap he le rw cx cr cl ll tl ts tc sz mn ac en mg ln cn wc wp) sz0) := by
  have hcn := hc.1
  have hln := hr.1
  refine z_ofI (maxL := 5) (plainFor_of_name (by decide)) rfl (Nat.le_of_ble_eq_true rfl) (Or.inl rfl) ?_
  intro p e s m below meth c A ls Q F hK hW hA hl hret
  have hl : lv_has ls 5 [(0, .ref (aR 0)), (1, .int (iI x)), (2, .int (iI pl))] := hl
  have inX8 : ∀ w ∈ u_ws RX8 TX8 32, w ∈ wsX8_commandAt := fun _ h => List.mem_cons_of_mem _ (List.mem_append_right _ h)
  refine z_bipush F (pc := 0) (-4) (by decide +kernel) dX8_commandAt_0 ?_
  refine z_istoren F (pc := 2) hl (lv' := [(3, .int (iI (-4))), (0, .ref (aR 0)), (1, .int (iI x)), (2, .int (iI pl))]) dX8_commandAt_2 rfl (by decide) rfl (fun ls hl => ?_)
  refine z_iconst F (pc := 3) (0) dX8_commandAt_3 ?_
  refine z_istore F (pc := 4) hl (lv' := [(4, .int (iI 0)), (3, .int (iI (-4))), (0, .ref (aR 0)), (1, .int (iI x)), (2, .int (iI pl))]) dX8_commandAt_4 (by decide) rfl (fun ls hl => ?_)
  have cut_6 : ∀ (fuel : Nat) (b : Int) (j : Int) (H : Heap) (locs : List Loc) (ls : Array Slot), (cn - j).toNat < fuel → (0 ≤ j ∧ j ≤ cn) → (bestT cx cr cl ll rw cn ln x j pl b) → (b = -4 ∨ (0 ≤ b ∧ b < j)) → lv_has ls 5 [(4, .int (iI j)), (3, .int (iI b)), (0, .ref (aR 0)), (1, .int (iI x)), (2, .int (iI pl))] → zW D A s.heap H locs (wR cI cZ aR xs ys lf ev nm lb kd pt so nu al ak ap he le rw cx cr cl ll tl ts tc sz mn ac en mg ln cn wc wp) → W p l e ({ frames := 1, cells := 0, slots := 0, locals := 24 } : Room) s m ([.ref (aR 0), .int (iI x), .int (iI pl)] : List Value).toArray below meth c H locs 0 0 Q (F0 m 6 ls []) := by
    intro fuel
    induction fuel with
    | zero => intro b j H locs ls hm; exact absurd hm (Nat.not_lt_zero _)
    | succ fuel ih_6 =>
      intro b j H locs ls hm_6 g1 g2 g3 hl hW
      refine z_iload F (pc := 6) dX8_commandAt_6 (lv_at hl 0 rfl) ?_
      refine z_aloadn F (pc := 8) dX8_commandAt_8 rfl (lv_at hl 2 rfl) ?_
      refine z_get F (pc := 9) (C := RX8) (T := TX8) (N := 32) (ci := 8) inX8 hK hW 0 22 rfl rfl (by decide) rfl (List.mem_of_getElem? (i := 1) rfl) (v := .int (iI cn)) rfl dX8_commandAt_9 ?_
      refine z_icmp_ge F (pc := 12) 109 dX8_commandAt_12 (by decide) (by omega) (fun c_12 => ?_) (fun c_12 => ?_)
      · skip
        refine z_iloadn F (pc := 109) dX8_commandAt_109 rfl (lv_at hl 1 rfl) ?_
        exact hret _ _ _ _ b () dX8_commandAt_110 (by omega) (by rw [show j = cn by omega] at g2; exact g2) hW
      · skip
        have h9j := Cok_at hc (c := j) (by omega) (by omega)
        refine z_aloadn F (pc := 15) dX8_commandAt_15 rfl (lv_at hl 2 rfl) ?_
        refine z_get F (pc := 16) (C := RX8) (T := TX8) (N := 32) (ci := 8) inX8 hK hW 0 23 rfl rfl (by decide) rfl (List.mem_of_getElem? (i := 2) rfl) (v := .ref (aR 17)) rfl dX8_commandAt_16 ?_
        refine z_iload F (pc := 19) dX8_commandAt_19 (lv_at hl 0 rfl) ?_
        refine z_iald F (pc := 21) hK hW 17 rfl (by decide) dX8_commandAt_21 (by omega) ?_
        refine z_iloadn F (pc := 22) dX8_commandAt_22 rfl (lv_at hl 3 rfl) ?_
        refine z_icmp_eq F (pc := 23) 36 dX8_commandAt_23 (by decide) (by omega) (fun c_23 => ?_) (fun c_23 => ?_)
        · skip
          refine z_aloadn F (pc := 36) dX8_commandAt_36 rfl (lv_at hl 2 rfl) ?_
          refine z_iload F (pc := 37) dX8_commandAt_37 (lv_at hl 0 rfl) ?_
          refine z_iloadn F (pc := 39) dX8_commandAt_39 rfl (lv_at hl 4 rfl) ?_
          refine z_callVi F (pc := 40) hK hW hA (As := [.int (iI j), .int (iI pl)]) (rest := []) (ws' := fun (u : Unit) => wR cI cZ aR xs ys lf ev nm lb kd pt so nu al ak ap he le rw cx cr cl ll tl ts tc sz mn ac en mg ln cn wc wp) (wr := ([])) (c_X8_stands l D cI cZ aR xs ys lf ev nm lb kd pt so nu al ak ap he le rw cx cr cl ll tl ts tc sz mn ac en mg ln cn wc wp j pl _ (by omega) (by omega) (by exact hc) (by exact hr) (by omega) (by omega)) (cwV 2 F.2.2.2.2 gX8_commandAt_X8_stands rfl rfl rfl (by decide +kernel) ⟨Nat.le_of_ble_eq_true rfl, Nat.le_of_ble_eq_true rfl⟩) [0, 1, 2, 3, 4, 5, 6, 7, 8, 9, 10, 11, 12, 13, 14, 15, 16, 17, 18, 19, 20, 21, 22, 23] [] [0, 1, 2, 3, 4, 5, 6, 7, 8, 9, 10, 11, 12, 13, 14, 15, 16, 17, 18, 19, 20, 21, 22, 23] rfl rfl (by decide) (by decide) (by decide) (fun _ => rfl) (by decide) (q0 := 0) (ci := 8) rfl rfl rfl rfl rfl hl.1 (Nat.le_of_ble_eq_true rfl) dX8_commandAt_40 ⟨Nat.le_of_ble_eq_true rfl, Nat.le_of_ble_eq_true rfl⟩ (fun z_40 u H locs r_z_40 hp_40 hW => ?_)
          refine z_if_eq F (pc := 43) 103 dX8_commandAt_43 (by decide) (by omega) (fun c_43 => ?_) (fun c_43 => ?_)
          · skip
            have b_43 := zB_f hp_40 c_43
            have hst := bestT_no g2 (fun q => b_43 q.2)
            refine z_iinc F (pc := 103) hl (lv' := [(4, .int (iI (j + 1))), (3, .int (iI b)), (0, .ref (aR 0)), (1, .int (iI x)), (2, .int (iI pl))]) dX8_commandAt_103 (k := 0) rfl (by decide) rfl (fun ls hl => ?_)
            refine z_goto F (pc := 106) 6 dX8_commandAt_106 (by decide) ?_
            exact ih_6 b (j + 1) _ _ _ (by omega) (by omega) (by exact hst) (by omega) (lv_sub hl [0, 1, 2, 3, 4] rfl) hW
          · skip
            have b_43 := zB_t hp_40 c_43
            refine z_iloadn F (pc := 46) dX8_commandAt_46 rfl (lv_at hl 1 rfl) ?_
            refine z_bipush F (pc := 47) (-4) (by decide +kernel) dX8_commandAt_47 ?_
            refine z_icmp_eq F (pc := 49) 100 dX8_commandAt_49 (by decide) (by omega) (fun c_49 => ?_) (fun c_49 => ?_)
            · skip
              have hst := bestT_new g1.1 g2 ⟨by omega, b_43⟩ (Or.inl (by omega))
              refine z_iload F (pc := 100) dX8_commandAt_100 (lv_at hl 0 rfl) ?_
              refine z_istoren F (pc := 102) hl (lv' := [(3, .int (iI j)), (4, .int (iI j)), (0, .ref (aR 0)), (1, .int (iI x)), (2, .int (iI pl))]) dX8_commandAt_102 rfl (by decide) rfl (fun ls hl => ?_)
              refine z_iinc F (pc := 103) hl (lv' := [(4, .int (iI (j + 1))), (3, .int (iI j)), (0, .ref (aR 0)), (1, .int (iI x)), (2, .int (iI pl))]) dX8_commandAt_103 (k := 1) rfl (by decide) rfl (fun ls hl => ?_)
              refine z_goto F (pc := 106) 6 dX8_commandAt_106 (by decide) ?_
              exact ih_6 j (j + 1) _ _ _ (by omega) (by omega) (by exact hst) (by omega) (lv_sub hl [0, 1, 2, 3, 4] rfl) hW
            · skip
              have h9b := Cok_at hc (c := b) (by omega) (by omega)
              refine z_aloadn F (pc := 52) dX8_commandAt_52 rfl (lv_at hl 2 rfl) ?_
              refine z_get F (pc := 53) (C := RX8) (T := TX8) (N := 32) (ci := 8) inX8 hK hW 0 25 rfl rfl (by decide) rfl (List.mem_of_getElem? (i := 3) rfl) (v := .ref (aR 19)) rfl dX8_commandAt_53 ?_
              refine z_iload F (pc := 56) dX8_commandAt_56 (lv_at hl 0 rfl) ?_
              refine z_iald F (pc := 58) hK hW 19 rfl (by decide) dX8_commandAt_58 (by omega) ?_
              refine z_aloadn F (pc := 59) dX8_commandAt_59 rfl (lv_at hl 2 rfl) ?_
              refine z_get F (pc := 60) (C := RX8) (T := TX8) (N := 32) (ci := 8) inX8 hK hW 0 25 rfl rfl (by decide) rfl (List.mem_of_getElem? (i := 3) rfl) (v := .ref (aR 19)) rfl dX8_commandAt_60 ?_
              refine z_iloadn F (pc := 63) dX8_commandAt_63 rfl (lv_at hl 1 rfl) ?_
              refine z_iald F (pc := 64) hK hW 19 rfl (by decide) dX8_commandAt_64 (by omega) ?_
              refine z_icmp_gt F (pc := 65) 100 dX8_commandAt_65 (by decide) (by omega) (fun c_65 => ?_) (fun c_65 => ?_)
              · skip
                have hst := bestT_new g1.1 g2 ⟨by omega, b_43⟩ (Or.inr (by unfold bet; omega))
                refine z_iload F (pc := 100) dX8_commandAt_100 (lv_at hl 0 rfl) ?_
                refine z_istoren F (pc := 102) hl (lv' := [(3, .int (iI j)), (4, .int (iI j)), (0, .ref (aR 0)), (1, .int (iI x)), (2, .int (iI pl))]) dX8_commandAt_102 rfl (by decide) rfl (fun ls hl => ?_)
                refine z_iinc F (pc := 103) hl (lv' := [(4, .int (iI (j + 1))), (3, .int (iI j)), (0, .ref (aR 0)), (1, .int (iI x)), (2, .int (iI pl))]) dX8_commandAt_103 (k := 1) rfl (by decide) rfl (fun ls hl => ?_)
                refine z_goto F (pc := 106) 6 dX8_commandAt_106 (by decide) ?_
                exact ih_6 j (j + 1) _ _ _ (by omega) (by omega) (by exact hst) (by omega) (lv_sub hl [0, 1, 2, 3, 4] rfl) hW
              · skip
                refine z_aloadn F (pc := 68) dX8_commandAt_68 rfl (lv_at hl 2 rfl) ?_
                refine z_get F (pc := 69) (C := RX8) (T := TX8) (N := 32) (ci := 8) inX8 hK hW 0 25 rfl rfl (by decide) rfl (List.mem_of_getElem? (i := 3) rfl) (v := .ref (aR 19)) rfl dX8_commandAt_69 ?_
                refine z_iload F (pc := 72) dX8_commandAt_72 (lv_at hl 0 rfl) ?_
                refine z_iald F (pc := 74) hK hW 19 rfl (by decide) dX8_commandAt_74 (by omega) ?_
                refine z_aloadn F (pc := 75) dX8_commandAt_75 rfl (lv_at hl 2 rfl) ?_
                refine z_get F (pc := 76) (C := RX8) (T := TX8) (N := 32) (ci := 8) inX8 hK hW 0 25 rfl rfl (by decide) rfl (List.mem_of_getElem? (i := 3) rfl) (v := .ref (aR 19)) rfl dX8_commandAt_76 ?_
                refine z_iloadn F (pc := 79) dX8_commandAt_79 rfl (lv_at hl 1 rfl) ?_
                refine z_iald F (pc := 80) hK hW 19 rfl (by decide) dX8_commandAt_80 (by omega) ?_
                refine z_icmp_ne F (pc := 81) 103 dX8_commandAt_81 (by decide) (by omega) (fun c_81 => ?_) (fun c_81 => ?_)
                · skip
                  have hst := bestT_keep g2 (by omega) (by unfold bet; omega)
                  refine z_iinc F (pc := 103) hl (lv' := [(4, .int (iI (j + 1))), (3, .int (iI b)), (0, .ref (aR 0)), (1, .int (iI x)), (2, .int (iI pl))]) dX8_commandAt_103 (k := 0) rfl (by decide) rfl (fun ls hl => ?_)
                  refine z_goto F (pc := 106) 6 dX8_commandAt_106 (by decide) ?_
                  exact ih_6 b (j + 1) _ _ _ (by omega) (by omega) (by exact hst) (by omega) (lv_sub hl [0, 1, 2, 3, 4] rfl) hW
                · skip
                  refine z_aloadn F (pc := 84) dX8_commandAt_84 rfl (lv_at hl 2 rfl) ?_
                  refine z_get F (pc := 85) (C := RX8) (T := TX8) (N := 32) (ci := 8) inX8 hK hW 0 24 rfl rfl (by decide) rfl (List.mem_of_getElem? (i := 4) rfl) (v := .ref (aR 18)) rfl dX8_commandAt_85 ?_
                  refine z_iload F (pc := 88) dX8_commandAt_88 (lv_at hl 0 rfl) ?_
                  refine z_iald F (pc := 90) hK hW 18 rfl (by decide) dX8_commandAt_90 (by omega) ?_
                  refine z_aloadn F (pc := 91) dX8_commandAt_91 rfl (lv_at hl 2 rfl) ?_
                  refine z_get F (pc := 92) (C := RX8) (T := TX8) (N := 32) (ci := 8) inX8 hK hW 0 24 rfl rfl (by decide) rfl (List.mem_of_getElem? (i := 4) rfl) (v := .ref (aR 18)) rfl dX8_commandAt_92 ?_
                  refine z_iloadn F (pc := 95) dX8_commandAt_95 rfl (lv_at hl 1 rfl) ?_
                  refine z_iald F (pc := 96) hK hW 18 rfl (by decide) dX8_commandAt_96 (by omega) ?_
                  refine z_icmp_le F (pc := 97) 103 dX8_commandAt_97 (by decide) (by omega) (fun c_97 => ?_) (fun c_97 => ?_)
                  · skip
                    have hst := bestT_keep g2 (by omega) (by unfold bet; omega)
                    refine z_iinc F (pc := 103) hl (lv' := [(4, .int (iI (j + 1))), (3, .int (iI b)), (0, .ref (aR 0)), (1, .int (iI x)), (2, .int (iI pl))]) dX8_commandAt_103 (k := 0) rfl (by decide) rfl (fun ls hl => ?_)
                    refine z_goto F (pc := 106) 6 dX8_commandAt_106 (by decide) ?_
                    exact ih_6 b (j + 1) _ _ _ (by omega) (by omega) (by exact hst) (by omega) (lv_sub hl [0, 1, 2, 3, 4] rfl) hW
                  · skip
                    have hst := bestT_new g1.1 g2 ⟨by omega, b_43⟩ (Or.inr (by unfold bet; omega))
                    refine z_iload F (pc := 100) dX8_commandAt_100 (lv_at hl 0 rfl) ?_
                    refine z_istoren F (pc := 102) hl (lv' := [(3, .int (iI j)), (4, .int (iI j)), (0, .ref (aR 0)), (1, .int (iI x)), (2, .int (iI pl))]) dX8_commandAt_102 rfl (by decide) rfl (fun ls hl => ?_)
                    refine z_iinc F (pc := 103) hl (lv' := [(4, .int (iI (j + 1))), (3, .int (iI j)), (0, .ref (aR 0)), (1, .int (iI x)), (2, .int (iI pl))]) dX8_commandAt_103 (k := 1) rfl (by decide) rfl (fun ls hl => ?_)
                    refine z_goto F (pc := 106) 6 dX8_commandAt_106 (by decide) ?_
                    exact ih_6 j (j + 1) _ _ _ (by omega) (by omega) (by exact hst) (by omega) (lv_sub hl [0, 1, 2, 3, 4] rfl) hW
        · skip
          refine z_aloadn F (pc := 26) dX8_commandAt_26 rfl (lv_at hl 2 rfl) ?_
          refine z_get F (pc := 27) (C := RX8) (T := TX8) (N := 32) (ci := 8) inX8 hK hW 0 23 rfl rfl (by decide) rfl (List.mem_of_getElem? (i := 2) rfl) (v := .ref (aR 17)) rfl dX8_commandAt_27 ?_
          refine z_iload F (pc := 30) dX8_commandAt_30 (lv_at hl 0 rfl) ?_
          refine z_iald F (pc := 32) hK hW 17 rfl (by decide) dX8_commandAt_32 (by omega) ?_
          refine z_if_ne F (pc := 33) 103 dX8_commandAt_33 (by decide) (by omega) (fun c_33 => ?_) (fun c_33 => ?_)
          · skip
            have hst := bestT_no g2 (fun q => by have := q.1; omega)
            refine z_iinc F (pc := 103) hl (lv' := [(4, .int (iI (j + 1))), (3, .int (iI b)), (0, .ref (aR 0)), (1, .int (iI x)), (2, .int (iI pl))]) dX8_commandAt_103 (k := 0) rfl (by decide) rfl (fun ls hl => ?_)
            refine z_goto F (pc := 106) 6 dX8_commandAt_106 (by decide) ?_
            exact ih_6 b (j + 1) _ _ _ (by omega) (by omega) (by exact hst) (by omega) (lv_sub hl [0, 1, 2, 3, 4] rfl) hW
          · skip
            refine z_aloadn F (pc := 36) dX8_commandAt_36 rfl (lv_at hl 2 rfl) ?_
            refine z_iload F (pc := 37) dX8_commandAt_37 (lv_at hl 0 rfl) ?_
            refine z_iloadn F (pc := 39) dX8_commandAt_39 rfl (lv_at hl 4 rfl) ?_
            refine z_callVi F (pc := 40) hK hW hA (As := [.int (iI j), .int (iI pl)]) (rest := []) (ws' := fun (u : Unit) => wR cI cZ aR xs ys lf ev nm lb kd pt so nu al ak ap he le rw cx cr cl ll tl ts tc sz mn ac en mg ln cn wc wp) (wr := ([])) (c_X8_stands l D cI cZ aR xs ys lf ev nm lb kd pt so nu al ak ap he le rw cx cr cl ll tl ts tc sz mn ac en mg ln cn wc wp j pl _ (by omega) (by omega) (by exact hc) (by exact hr) (by omega) (by omega)) (cwV 2 F.2.2.2.2 gX8_commandAt_X8_stands rfl rfl rfl (by decide +kernel) ⟨Nat.le_of_ble_eq_true rfl, Nat.le_of_ble_eq_true rfl⟩) [0, 1, 2, 3, 4, 5, 6, 7, 8, 9, 10, 11, 12, 13, 14, 15, 16, 17, 18, 19, 20, 21, 22, 23] [] [0, 1, 2, 3, 4, 5, 6, 7, 8, 9, 10, 11, 12, 13, 14, 15, 16, 17, 18, 19, 20, 21, 22, 23] rfl rfl (by decide) (by decide) (by decide) (fun _ => rfl) (by decide) (q0 := 0) (ci := 8) rfl rfl rfl rfl rfl hl.1 (Nat.le_of_ble_eq_true rfl) dX8_commandAt_40 ⟨Nat.le_of_ble_eq_true rfl, Nat.le_of_ble_eq_true rfl⟩ (fun z_40 u H locs r_z_40 hp_40 hW => ?_)
            refine z_if_eq F (pc := 43) 103 dX8_commandAt_43 (by decide) (by omega) (fun c_43 => ?_) (fun c_43 => ?_)
            · skip
              have b_43 := zB_f hp_40 c_43
              have hst := bestT_no g2 (fun q => b_43 q.2)
              refine z_iinc F (pc := 103) hl (lv' := [(4, .int (iI (j + 1))), (3, .int (iI b)), (0, .ref (aR 0)), (1, .int (iI x)), (2, .int (iI pl))]) dX8_commandAt_103 (k := 0) rfl (by decide) rfl (fun ls hl => ?_)
              refine z_goto F (pc := 106) 6 dX8_commandAt_106 (by decide) ?_
              exact ih_6 b (j + 1) _ _ _ (by omega) (by omega) (by exact hst) (by omega) (lv_sub hl [0, 1, 2, 3, 4] rfl) hW
            · skip
              have b_43 := zB_t hp_40 c_43
              refine z_iloadn F (pc := 46) dX8_commandAt_46 rfl (lv_at hl 1 rfl) ?_
              refine z_bipush F (pc := 47) (-4) (by decide +kernel) dX8_commandAt_47 ?_
              refine z_icmp_eq F (pc := 49) 100 dX8_commandAt_49 (by decide) (by omega) (fun c_49 => ?_) (fun c_49 => ?_)
              · skip
                have hst := bestT_new g1.1 g2 ⟨by omega, b_43⟩ (Or.inl (by omega))
                refine z_iload F (pc := 100) dX8_commandAt_100 (lv_at hl 0 rfl) ?_
                refine z_istoren F (pc := 102) hl (lv' := [(3, .int (iI j)), (4, .int (iI j)), (0, .ref (aR 0)), (1, .int (iI x)), (2, .int (iI pl))]) dX8_commandAt_102 rfl (by decide) rfl (fun ls hl => ?_)
                refine z_iinc F (pc := 103) hl (lv' := [(4, .int (iI (j + 1))), (3, .int (iI j)), (0, .ref (aR 0)), (1, .int (iI x)), (2, .int (iI pl))]) dX8_commandAt_103 (k := 1) rfl (by decide) rfl (fun ls hl => ?_)
                refine z_goto F (pc := 106) 6 dX8_commandAt_106 (by decide) ?_
                exact ih_6 j (j + 1) _ _ _ (by omega) (by omega) (by exact hst) (by omega) (lv_sub hl [0, 1, 2, 3, 4] rfl) hW
              · skip
                have h9b := Cok_at hc (c := b) (by omega) (by omega)
                refine z_aloadn F (pc := 52) dX8_commandAt_52 rfl (lv_at hl 2 rfl) ?_
                refine z_get F (pc := 53) (C := RX8) (T := TX8) (N := 32) (ci := 8) inX8 hK hW 0 25 rfl rfl (by decide) rfl (List.mem_of_getElem? (i := 3) rfl) (v := .ref (aR 19)) rfl dX8_commandAt_53 ?_
                refine z_iload F (pc := 56) dX8_commandAt_56 (lv_at hl 0 rfl) ?_
                refine z_iald F (pc := 58) hK hW 19 rfl (by decide) dX8_commandAt_58 (by omega) ?_
                refine z_aloadn F (pc := 59) dX8_commandAt_59 rfl (lv_at hl 2 rfl) ?_
                refine z_get F (pc := 60) (C := RX8) (T := TX8) (N := 32) (ci := 8) inX8 hK hW 0 25 rfl rfl (by decide) rfl (List.mem_of_getElem? (i := 3) rfl) (v := .ref (aR 19)) rfl dX8_commandAt_60 ?_
                refine z_iloadn F (pc := 63) dX8_commandAt_63 rfl (lv_at hl 1 rfl) ?_
                refine z_iald F (pc := 64) hK hW 19 rfl (by decide) dX8_commandAt_64 (by omega) ?_
                refine z_icmp_gt F (pc := 65) 100 dX8_commandAt_65 (by decide) (by omega) (fun c_65 => ?_) (fun c_65 => ?_)
                · skip
                  have hst := bestT_new g1.1 g2 ⟨by omega, b_43⟩ (Or.inr (by unfold bet; omega))
                  refine z_iload F (pc := 100) dX8_commandAt_100 (lv_at hl 0 rfl) ?_
                  refine z_istoren F (pc := 102) hl (lv' := [(3, .int (iI j)), (4, .int (iI j)), (0, .ref (aR 0)), (1, .int (iI x)), (2, .int (iI pl))]) dX8_commandAt_102 rfl (by decide) rfl (fun ls hl => ?_)
                  refine z_iinc F (pc := 103) hl (lv' := [(4, .int (iI (j + 1))), (3, .int (iI j)), (0, .ref (aR 0)), (1, .int (iI x)), (2, .int (iI pl))]) dX8_commandAt_103 (k := 1) rfl (by decide) rfl (fun ls hl => ?_)
                  refine z_goto F (pc := 106) 6 dX8_commandAt_106 (by decide) ?_
                  exact ih_6 j (j + 1) _ _ _ (by omega) (by omega) (by exact hst) (by omega) (lv_sub hl [0, 1, 2, 3, 4] rfl) hW
                · skip
                  refine z_aloadn F (pc := 68) dX8_commandAt_68 rfl (lv_at hl 2 rfl) ?_
                  refine z_get F (pc := 69) (C := RX8) (T := TX8) (N := 32) (ci := 8) inX8 hK hW 0 25 rfl rfl (by decide) rfl (List.mem_of_getElem? (i := 3) rfl) (v := .ref (aR 19)) rfl dX8_commandAt_69 ?_
                  refine z_iload F (pc := 72) dX8_commandAt_72 (lv_at hl 0 rfl) ?_
                  refine z_iald F (pc := 74) hK hW 19 rfl (by decide) dX8_commandAt_74 (by omega) ?_
                  refine z_aloadn F (pc := 75) dX8_commandAt_75 rfl (lv_at hl 2 rfl) ?_
                  refine z_get F (pc := 76) (C := RX8) (T := TX8) (N := 32) (ci := 8) inX8 hK hW 0 25 rfl rfl (by decide) rfl (List.mem_of_getElem? (i := 3) rfl) (v := .ref (aR 19)) rfl dX8_commandAt_76 ?_
                  refine z_iloadn F (pc := 79) dX8_commandAt_79 rfl (lv_at hl 1 rfl) ?_
                  refine z_iald F (pc := 80) hK hW 19 rfl (by decide) dX8_commandAt_80 (by omega) ?_
                  refine z_icmp_ne F (pc := 81) 103 dX8_commandAt_81 (by decide) (by omega) (fun c_81 => ?_) (fun c_81 => ?_)
                  · skip
                    have hst := bestT_keep g2 (by omega) (by unfold bet; omega)
                    refine z_iinc F (pc := 103) hl (lv' := [(4, .int (iI (j + 1))), (3, .int (iI b)), (0, .ref (aR 0)), (1, .int (iI x)), (2, .int (iI pl))]) dX8_commandAt_103 (k := 0) rfl (by decide) rfl (fun ls hl => ?_)
                    refine z_goto F (pc := 106) 6 dX8_commandAt_106 (by decide) ?_
                    exact ih_6 b (j + 1) _ _ _ (by omega) (by omega) (by exact hst) (by omega) (lv_sub hl [0, 1, 2, 3, 4] rfl) hW
                  · skip
                    refine z_aloadn F (pc := 84) dX8_commandAt_84 rfl (lv_at hl 2 rfl) ?_
                    refine z_get F (pc := 85) (C := RX8) (T := TX8) (N := 32) (ci := 8) inX8 hK hW 0 24 rfl rfl (by decide) rfl (List.mem_of_getElem? (i := 4) rfl) (v := .ref (aR 18)) rfl dX8_commandAt_85 ?_
                    refine z_iload F (pc := 88) dX8_commandAt_88 (lv_at hl 0 rfl) ?_
                    refine z_iald F (pc := 90) hK hW 18 rfl (by decide) dX8_commandAt_90 (by omega) ?_
                    refine z_aloadn F (pc := 91) dX8_commandAt_91 rfl (lv_at hl 2 rfl) ?_
                    refine z_get F (pc := 92) (C := RX8) (T := TX8) (N := 32) (ci := 8) inX8 hK hW 0 24 rfl rfl (by decide) rfl (List.mem_of_getElem? (i := 4) rfl) (v := .ref (aR 18)) rfl dX8_commandAt_92 ?_
                    refine z_iloadn F (pc := 95) dX8_commandAt_95 rfl (lv_at hl 1 rfl) ?_
                    refine z_iald F (pc := 96) hK hW 18 rfl (by decide) dX8_commandAt_96 (by omega) ?_
                    refine z_icmp_le F (pc := 97) 103 dX8_commandAt_97 (by decide) (by omega) (fun c_97 => ?_) (fun c_97 => ?_)
                    · skip
                      have hst := bestT_keep g2 (by omega) (by unfold bet; omega)
                      refine z_iinc F (pc := 103) hl (lv' := [(4, .int (iI (j + 1))), (3, .int (iI b)), (0, .ref (aR 0)), (1, .int (iI x)), (2, .int (iI pl))]) dX8_commandAt_103 (k := 0) rfl (by decide) rfl (fun ls hl => ?_)
                      refine z_goto F (pc := 106) 6 dX8_commandAt_106 (by decide) ?_
                      exact ih_6 b (j + 1) _ _ _ (by omega) (by omega) (by exact hst) (by omega) (lv_sub hl [0, 1, 2, 3, 4] rfl) hW
                    · skip
                      have hst := bestT_new g1.1 g2 ⟨by omega, b_43⟩ (Or.inr (by unfold bet; omega))
                      refine z_iload F (pc := 100) dX8_commandAt_100 (lv_at hl 0 rfl) ?_
                      refine z_istoren F (pc := 102) hl (lv' := [(3, .int (iI j)), (4, .int (iI j)), (0, .ref (aR 0)), (1, .int (iI x)), (2, .int (iI pl))]) dX8_commandAt_102 rfl (by decide) rfl (fun ls hl => ?_)
                      refine z_iinc F (pc := 103) hl (lv' := [(4, .int (iI (j + 1))), (3, .int (iI j)), (0, .ref (aR 0)), (1, .int (iI x)), (2, .int (iI pl))]) dX8_commandAt_103 (k := 1) rfl (by decide) rfl (fun ls hl => ?_)
                      refine z_goto F (pc := 106) 6 dX8_commandAt_106 (by decide) ?_
                      exact ih_6 j (j + 1) _ _ _ (by omega) (by omega) (by exact hst) (by omega) (lv_sub hl [0, 1, 2, 3, 4] rfl) hW
  exact cut_6 _ (-4) 0 _ _ _ (Nat.lt_succ_self _) (by omega) (by exact bestT_0 cx cr cl ll rw cn ln x pl) (by omega) (lv_sub hl [0, 1, 2, 3, 4] rfl) hW

set_option maxHeartbeats 4000000 in
set_option maxRecDepth 100000 in
theorem c_X8_parsed (l : Launch) (D : va_G) (cI cZ : ClassId) (aR : Nat → Nat) (xs ys lf ev nm lb kd pt so nu al ak ap he le rw cx cr cl ll tl ts tc : Int → Int) (sz mn ac en mg ln cn wc wp : Int) (x wt : Int) (sz0 : Nat) (r_x : (-2147483648 ≤ x ∧ x < 2147483648)) (r_wt : (-2147483648 ≤ wt ∧ wt < 2147483648)) (hc : Cok cx cr cl ll cn) (hr : Rok rw ln) : Met l yX8_parsed wsX8_parsed ({ frames := 2, cells := 0, slots := 0, locals := 48 } : Room) (zPc D cI cZ [.ref (aR 0), .int (iI x), .int (iI wt)] (wR cI cZ aR xs ys lf ev nm lb kd pt so nu al ak ap he le rw cx cr cl ll tl ts tc sz mn ac en mg ln cn wc wp) sz0) (zQi D cI cZ (wR cI cZ aR xs ys lf ev nm lb kd pt so nu al ak ap he le rw cx cr cl ll tl ts tc sz mn ac en mg ln cn wc wp) sz0 (fun (r : Int) (u : (Int) × (Int)) => ((-4 ≤ u.1 ∧ u.1 ≤ 40) ∧ (-4 ≤ u.2 ∧ u.2 ≤ 40) ∧ (0 ≤ r ∧ r ≤ 40)) ∧ zH (∃ n : Nat, pEnd cx cr cl ll rw cn ln x n ∧ r = pC cx cr cl ll rw cn ln x n ∧ ((∃ q : Nat, q < n ∧ ¬ bF cx cr cl ll rw cn ln x (pA cx cr cl ll rw cn ln x q) = -4 ∧ pC cx cr cl ll rw cn ln x q = wt ∧ u.1 = bF cx cr cl ll rw cn ln x (pA cx cr cl ll rw cn ln x q) ∧ u.2 = pA cx cr cl ll rw cn ln x q) ∨ (¬ (0 ≤ wt ∧ wt < r) ∧ u.1 = -4 ∧ u.2 = -4)))) (fun (u : (Int) × (Int)) => wR cI cZ aR xs ys lf ev nm lb kd pt so nu al ak ap he le rw cx cr cl ll tl ts tc sz mn ac en mg ln cn u.1 u.2)) 0 0 (va_A (wR cI cZ aR xs ys lf ev nm lb kd pt so nu al ak ap he le rw cx cr cl ll tl ts tc sz mn ac en mg ln cn wc wp) sz0) := by
  have hcn := hc.1
  have hln := hr.1
  refine z_ofI (maxL := 6) (plainFor_of_name (by decide)) rfl (Nat.le_of_ble_eq_true rfl) (Or.inl rfl) ?_
  intro p e s m below meth c A ls Q F hK hW hA hl hret
  have hl : lv_has ls 6 [(0, .ref (aR 0)), (1, .int (iI x)), (2, .int (iI wt))] := hl
  have inX8 : ∀ w ∈ u_ws RX8 TX8 32, w ∈ wsX8_parsed := fun _ h => List.mem_cons_of_mem _ (List.mem_append_right _ h)
  refine z_iconst F (pc := 0) (0) dX8_parsed_0 ?_
  refine z_istoren F (pc := 1) hl (lv' := [(3, .int (iI 0)), (0, .ref (aR 0)), (1, .int (iI x)), (2, .int (iI wt))]) dX8_parsed_1 rfl (by decide) rfl (fun ls hl => ?_)
  refine z_iconst F (pc := 2) (0) dX8_parsed_2 ?_
  refine z_istore F (pc := 3) hl (lv' := [(4, .int (iI 0)), (3, .int (iI 0)), (0, .ref (aR 0)), (1, .int (iI x)), (2, .int (iI wt))]) dX8_parsed_3 (by decide) rfl (fun ls hl => ?_)
  refine z_aloadn F (pc := 5) dX8_parsed_5 rfl (lv_at hl 2 rfl) ?_
  refine z_bipush F (pc := 6) (-4) (by decide +kernel) dX8_parsed_6 ?_
  refine z_put F (pc := 8) (C := RX8) (T := TX8) (N := 32) (ci := 8) inX8 tyX8 tyX8_ok nmX8 hK hW (ws' := wR cI cZ aR xs ys lf ev nm lb kd pt so nu al ak ap he le rw cx cr cl ll tl ts tc sz mn ac en mg ln cn (-4) wp) 0 27 rfl rfl (by decide) rfl (List.mem_of_getElem? (i := 1) rfl) rfl rfl (Nat.le_of_ble_eq_true rfl) dX8_parsed_8 rfl (fun H locs hW => ?_)
  refine z_aloadn F (pc := 11) dX8_parsed_11 rfl (lv_at hl 2 rfl) ?_
  refine z_bipush F (pc := 12) (-4) (by decide +kernel) dX8_parsed_12 ?_
  refine z_put F (pc := 14) (C := RX8) (T := TX8) (N := 32) (ci := 8) inX8 tyX8 tyX8_ok nmX8 hK hW (ws' := wR cI cZ aR xs ys lf ev nm lb kd pt so nu al ak ap he le rw cx cr cl ll tl ts tc sz mn ac en mg ln cn (-4) (-4)) 0 28 rfl rfl (by decide) rfl (List.mem_of_getElem? (i := 2) rfl) rfl rfl (Nat.le_of_ble_eq_true rfl) dX8_parsed_14 rfl (fun H locs hW => ?_)
  have cut_17 : ∀ (fuel : Nat) (n : Nat) (ct : Int) (t : Int) (w1 : Int) (w2 : Int) (H : Heap) (locs : List Loc) (ls : Array Slot), (ln - t).toNat < fuel → (t = pA cx cr cl ll rw cn ln x n) → (ct = pC cx cr cl ll rw cn ln x n) → (∀ q : Nat, q < n → pA cx cr cl ll rw cn ln x q < ln) → (zH (((∃ q : Nat, q < n ∧ ¬ bF cx cr cl ll rw cn ln x (pA cx cr cl ll rw cn ln x q) = -4 ∧ pC cx cr cl ll rw cn ln x q = wt ∧ w1 = bF cx cr cl ll rw cn ln x (pA cx cr cl ll rw cn ln x q) ∧ w2 = pA cx cr cl ll rw cn ln x q) ∨ (¬ (0 ≤ wt ∧ wt < ct) ∧ w1 = -4 ∧ w2 = -4)))) → ((0 ≤ t ∧ t ≤ ln) ∧ (0 ≤ ct ∧ ct ≤ t) ∧ (-4 ≤ w1 ∧ w1 ≤ 40) ∧ (-4 ≤ w2 ∧ w2 ≤ 40)) → lv_has ls 6 [(4, .int (iI t)), (3, .int (iI ct)), (0, .ref (aR 0)), (1, .int (iI x)), (2, .int (iI wt))] → zW D A s.heap H locs (wR cI cZ aR xs ys lf ev nm lb kd pt so nu al ak ap he le rw cx cr cl ll tl ts tc sz mn ac en mg ln cn w1 w2) → W p l e ({ frames := 2, cells := 0, slots := 0, locals := 48 } : Room) s m ([.ref (aR 0), .int (iI x), .int (iI wt)] : List Value).toArray below meth c H locs 0 0 Q (F0 m 17 ls []) := by
    intro fuel
    induction fuel with
    | zero => intro n ct t w1 w2 H locs ls hm; exact absurd hm (Nat.not_lt_zero _)
    | succ fuel ih_17 =>
      intro n ct t w1 w2 H locs ls hm_17 g0 g1 g2 g3 g4 hl hW
      refine z_iload F (pc := 17) dX8_parsed_17 (lv_at hl 0 rfl) ?_
      refine z_aloadn F (pc := 19) dX8_parsed_19 rfl (lv_at hl 2 rfl) ?_
      refine z_get F (pc := 20) (C := RX8) (T := TX8) (N := 32) (ci := 8) inX8 hK hW 0 20 rfl rfl (by decide) rfl (List.mem_of_getElem? (i := 3) rfl) (v := .int (iI ln)) rfl dX8_parsed_20 ?_
      refine z_icmp_ge F (pc := 23) 83 dX8_parsed_23 (by decide) (by omega) (fun c_23 => ?_) (fun c_23 => ?_)
      · skip
        refine z_iloadn F (pc := 83) dX8_parsed_83 rfl (lv_at hl 1 rfl) ?_
        exact hret _ _ _ _ ct (w1, w2) dX8_parsed_84 (by omega) (by (try dsimp only) <;> (exact ⟨by omega, n, ⟨by rw [← g0]; omega, g2⟩, g1, g3⟩)) hW
      · skip
        refine z_aloadn F (pc := 26) dX8_parsed_26 rfl (lv_at hl 2 rfl) ?_
        refine z_iloadn F (pc := 27) dX8_parsed_27 rfl (lv_at hl 3 rfl) ?_
        refine z_iload F (pc := 28) dX8_parsed_28 (lv_at hl 0 rfl) ?_
        refine z_callVi F (pc := 30) hK hW hA (As := [.int (iI x), .int (iI t)]) (rest := []) (ws' := fun (u : Unit) => wR cI cZ aR xs ys lf ev nm lb kd pt so nu al ak ap he le rw cx cr cl ll tl ts tc sz mn ac en mg ln cn w1 w2) (wr := ([])) (c_X8_commandAt l D cI cZ aR xs ys lf ev nm lb kd pt so nu al ak ap he le rw cx cr cl ll tl ts tc sz mn ac en mg ln cn w1 w2 x t _ (by omega) (by omega) (by exact hc) (by exact hr) (by omega)) (cwV 2 F.2.2.2.2 gX8_parsed_X8_commandAt rfl rfl rfl (by decide +kernel) ⟨Nat.le_of_ble_eq_true rfl, Nat.le_of_ble_eq_true rfl⟩) [0, 1, 2, 3, 4, 5, 6, 7, 8, 9, 10, 11, 12, 13, 14, 15, 16, 17, 18, 19, 20, 21, 22, 23] [] [0, 1, 2, 3, 4, 5, 6, 7, 8, 9, 10, 11, 12, 13, 14, 15, 16, 17, 18, 19, 20, 21, 22, 23] rfl rfl (by decide) (by decide) (by decide) (fun _ => rfl) (by decide) (q0 := 0) (ci := 8) rfl rfl rfl rfl rfl hl.1 (Nat.le_of_ble_eq_true rfl) dX8_parsed_30 ⟨Nat.le_of_ble_eq_true rfl, Nat.le_of_ble_eq_true rfl⟩ (fun z_30 u H locs r_z_30 hp_30 hW => ?_)
        have hbb := bestT_b hp_30
        have hBn : bF cx cr cl ll rw cn ln x (pA cx cr cl ll rw cn ln x n) = z_30 := by rw [← g0]; exact bF_of hp_30
        have hs2 : ∀ q : Nat, q < n + 1 → pA cx cr cl ll rw cn ln x q < ln := by
          intro q q0
          by_cases q1 : q = n
          · rw [q1, ← g0]; omega
          · exact g2 q (by omega)
        refine z_istore F (pc := 33) hl (lv' := [(5, .int (iI z_30)), (4, .int (iI t)), (3, .int (iI ct)), (0, .ref (aR 0)), (1, .int (iI x)), (2, .int (iI wt))]) dX8_parsed_33 (by decide) rfl (fun ls hl => ?_)
        refine z_iload F (pc := 35) dX8_parsed_35 (lv_at hl 0 rfl) ?_
        refine z_bipush F (pc := 37) (-4) (by decide +kernel) dX8_parsed_37 ?_
        refine z_icmp_ne F (pc := 39) 48 dX8_parsed_39 (by decide) (by omega) (fun c_39 => ?_) (fun c_39 => ?_)
        · skip
          have hcb := Cok_at hc (c := z_30) (by omega) (by omega)
          have hBe : ¬ bF cx cr cl ll rw cn ln x (pA cx cr cl ll rw cn ln x n) = -4 := by omega
          have hs0 : t + cl z_30 = pA cx cr cl ll rw cn ln x (n + 1) := by rw [pA_y hBe, hBn, ← g0]
          have hs1 : ct + 1 = pC cx cr cl ll rw cn ln x (n + 1) := by rw [pC_y hBe, ← g1]
          refine z_iloadn F (pc := 48) dX8_parsed_48 rfl (lv_at hl 2 rfl) ?_
          refine z_iloadn F (pc := 49) dX8_parsed_49 rfl (lv_at hl 5 rfl) ?_
          refine z_icmp_ne F (pc := 50) 65 dX8_parsed_50 (by decide) (by omega) (fun c_50 => ?_) (fun c_50 => ?_)
          · skip
            have hs3 : zH ((∃ q : Nat, q < (n + 1) ∧ ¬ bF cx cr cl ll rw cn ln x (pA cx cr cl ll rw cn ln x q) = -4 ∧ pC cx cr cl ll rw cn ln x q = wt ∧ w1 = bF cx cr cl ll rw cn ln x (pA cx cr cl ll rw cn ln x q) ∧ w2 = pA cx cr cl ll rw cn ln x q) ∨ (¬ (0 ≤ wt ∧ wt < ct + 1) ∧ w1 = -4 ∧ w2 = -4)) := g3.o.imp (fun ⟨q, q1, q2⟩ => ⟨q, by omega, q2⟩) (fun ⟨q1, q2⟩ => ⟨by omega, q2⟩)
            refine z_iinc F (pc := 65) hl (lv' := [(3, .int (iI (ct + 1))), (5, .int (iI z_30)), (4, .int (iI t)), (0, .ref (aR 0)), (1, .int (iI x)), (2, .int (iI wt))]) dX8_parsed_65 (k := 2) rfl (by decide) rfl (fun ls hl => ?_)
            refine z_iload F (pc := 68) dX8_parsed_68 (lv_at hl 2 rfl) ?_
            refine z_aloadn F (pc := 70) dX8_parsed_70 rfl (lv_at hl 3 rfl) ?_
            refine z_get F (pc := 71) (C := RX8) (T := TX8) (N := 32) (ci := 8) inX8 hK hW 0 25 rfl rfl (by decide) rfl (List.mem_of_getElem? (i := 4) rfl) (v := .ref (aR 19)) rfl dX8_parsed_71 ?_
            refine z_iload F (pc := 74) dX8_parsed_74 (lv_at hl 1 rfl) ?_
            refine z_iald F (pc := 76) hK hW 19 rfl (by decide) dX8_parsed_76 (by omega) ?_
            refine z_iadd F (pc := 77) dX8_parsed_77 ?_
            refine z_istore F (pc := 78) hl (lv' := [(4, .int (iI (t + (cl z_30)))), (3, .int (iI (ct + 1))), (5, .int (iI z_30)), (0, .ref (aR 0)), (1, .int (iI x)), (2, .int (iI wt))]) dX8_parsed_78 (by decide) rfl (fun ls hl => ?_)
            refine z_goto F (pc := 80) 17 dX8_parsed_80 (by decide) ?_
            exact ih_17 (n + 1) (ct + 1) (t + (cl z_30)) w1 w2 _ _ _ (by omega) (by exact hs0) (by exact hs1) (by exact hs2) (by exact hs3) (by omega) (lv_sub hl [0, 1, 3, 4, 5] rfl) hW
          · skip
            have hs3 : zH ((∃ q : Nat, q < (n + 1) ∧ ¬ bF cx cr cl ll rw cn ln x (pA cx cr cl ll rw cn ln x q) = -4 ∧ pC cx cr cl ll rw cn ln x q = wt ∧ z_30 = bF cx cr cl ll rw cn ln x (pA cx cr cl ll rw cn ln x q) ∧ t = pA cx cr cl ll rw cn ln x q) ∨ (¬ (0 ≤ wt ∧ wt < ct + 1) ∧ z_30 = -4 ∧ t = -4)) := Or.inl ⟨n, by omega, hBe, by omega, hBn.symm, g0⟩
            refine z_aloadn F (pc := 53) dX8_parsed_53 rfl (lv_at hl 3 rfl) ?_
            refine z_iload F (pc := 54) dX8_parsed_54 (lv_at hl 0 rfl) ?_
            refine z_put F (pc := 56) (C := RX8) (T := TX8) (N := 32) (ci := 8) inX8 tyX8 tyX8_ok nmX8 hK hW (ws' := wR cI cZ aR xs ys lf ev nm lb kd pt so nu al ak ap he le rw cx cr cl ll tl ts tc sz mn ac en mg ln cn z_30 w2) 0 27 rfl rfl (by decide) rfl (List.mem_of_getElem? (i := 1) rfl) rfl rfl (Nat.le_of_ble_eq_true rfl) dX8_parsed_56 rfl (fun H locs hW => ?_)
            refine z_aloadn F (pc := 59) dX8_parsed_59 rfl (lv_at hl 3 rfl) ?_
            refine z_iload F (pc := 60) dX8_parsed_60 (lv_at hl 1 rfl) ?_
            refine z_put F (pc := 62) (C := RX8) (T := TX8) (N := 32) (ci := 8) inX8 tyX8 tyX8_ok nmX8 hK hW (ws' := wR cI cZ aR xs ys lf ev nm lb kd pt so nu al ak ap he le rw cx cr cl ll tl ts tc sz mn ac en mg ln cn z_30 t) 0 28 rfl rfl (by decide) rfl (List.mem_of_getElem? (i := 2) rfl) rfl rfl (Nat.le_of_ble_eq_true rfl) dX8_parsed_62 rfl (fun H locs hW => ?_)
            refine z_iinc F (pc := 65) hl (lv' := [(3, .int (iI (ct + 1))), (5, .int (iI z_30)), (4, .int (iI t)), (0, .ref (aR 0)), (1, .int (iI x)), (2, .int (iI wt))]) dX8_parsed_65 (k := 2) rfl (by decide) rfl (fun ls hl => ?_)
            refine z_iload F (pc := 68) dX8_parsed_68 (lv_at hl 2 rfl) ?_
            refine z_aloadn F (pc := 70) dX8_parsed_70 rfl (lv_at hl 3 rfl) ?_
            refine z_get F (pc := 71) (C := RX8) (T := TX8) (N := 32) (ci := 8) inX8 hK hW 0 25 rfl rfl (by decide) rfl (List.mem_of_getElem? (i := 4) rfl) (v := .ref (aR 19)) rfl dX8_parsed_71 ?_
            refine z_iload F (pc := 74) dX8_parsed_74 (lv_at hl 1 rfl) ?_
            refine z_iald F (pc := 76) hK hW 19 rfl (by decide) dX8_parsed_76 (by omega) ?_
            refine z_iadd F (pc := 77) dX8_parsed_77 ?_
            refine z_istore F (pc := 78) hl (lv' := [(4, .int (iI (t + (cl z_30)))), (3, .int (iI (ct + 1))), (5, .int (iI z_30)), (0, .ref (aR 0)), (1, .int (iI x)), (2, .int (iI wt))]) dX8_parsed_78 (by decide) rfl (fun ls hl => ?_)
            refine z_goto F (pc := 80) 17 dX8_parsed_80 (by decide) ?_
            exact ih_17 (n + 1) (ct + 1) (t + (cl z_30)) z_30 t _ _ _ (by omega) (by exact hs0) (by exact hs1) (by exact hs2) (by exact hs3) (by omega) (lv_sub hl [0, 1, 3, 4, 5] rfl) hW
        · skip
          have hBe : bF cx cr cl ll rw cn ln x (pA cx cr cl ll rw cn ln x n) = -4 := by omega
          have hs0 : t + 1 = pA cx cr cl ll rw cn ln x (n + 1) := by rw [pA_n hBe, ← g0]
          have hs1 : ct = pC cx cr cl ll rw cn ln x (n + 1) := by rw [pC_n hBe]; exact g1
          have hs3 : zH ((∃ q : Nat, q < (n + 1) ∧ ¬ bF cx cr cl ll rw cn ln x (pA cx cr cl ll rw cn ln x q) = -4 ∧ pC cx cr cl ll rw cn ln x q = wt ∧ w1 = bF cx cr cl ll rw cn ln x (pA cx cr cl ll rw cn ln x q) ∧ w2 = pA cx cr cl ll rw cn ln x q) ∨ (¬ (0 ≤ wt ∧ wt < ct) ∧ w1 = -4 ∧ w2 = -4)) := g3.o.imp (fun ⟨q, q1, q2⟩ => ⟨q, by omega, q2⟩) id
          refine z_iinc F (pc := 42) hl (lv' := [(4, .int (iI (t + 1))), (5, .int (iI z_30)), (3, .int (iI ct)), (0, .ref (aR 0)), (1, .int (iI x)), (2, .int (iI wt))]) dX8_parsed_42 (k := 1) rfl (by decide) rfl (fun ls hl => ?_)
          refine z_goto F (pc := 45) 80 dX8_parsed_45 (by decide) ?_
          refine z_goto F (pc := 80) 17 dX8_parsed_80 (by decide) ?_
          exact ih_17 (n + 1) ct (t + 1) w1 w2 _ _ _ (by omega) (by exact hs0) (by exact hs1) (by exact hs2) (by exact hs3) (by omega) (lv_sub hl [0, 2, 3, 4, 5] rfl) hW
  exact cut_17 _ 0 0 0 (-4) (-4) _ _ _ (Nat.lt_succ_self _) (by rfl) (by rfl) (by intro q q0; omega) (by exact Or.inr ⟨by omega, rfl, rfl⟩) (by omega) (lv_sub hl [0, 1, 2, 3, 4] rfl) hW

set_option maxHeartbeats 4000000 in
set_option maxRecDepth 100000 in
theorem c_X8_parse (l : Launch) (D : va_G) (cI cZ : ClassId) (aR : Nat → Nat) (xs ys lf ev nm lb kd pt so nu al ak ap he le rw cx cr cl ll tl ts tc : Int → Int) (sz mn ac en mg ln cn wc wp : Int) (x : Int) (sz0 : Nat) (r_x : (-2147483648 ≤ x ∧ x < 2147483648)) (hc : Cok cx cr cl ll cn) (hr : Rok rw ln) : Met l yX8_parse wsX8_parse ({ frames := 3, cells := 0, slots := 0, locals := 73 } : Room) (zPc D cI cZ [.ref (aR 0), .int (iI x)] (wR cI cZ aR xs ys lf ev nm lb kd pt so nu al ak ap he le rw cx cr cl ll tl ts tc sz mn ac en mg ln cn wc wp) sz0) (zQi D cI cZ (wR cI cZ aR xs ys lf ev nm lb kd pt so nu al ak ap he le rw cx cr cl ll tl ts tc sz mn ac en mg ln cn wc wp) sz0 (fun (r : Int) (u : (Int) × (Int)) => parseR cx cr cl ll rw cn ln x r) (fun (u : (Int) × (Int)) => wR cI cZ aR xs ys lf ev nm lb kd pt so nu al ak ap he le rw cx cr cl ll tl ts tc sz mn ac en mg ln cn u.1 u.2)) 0 0 (va_A (wR cI cZ aR xs ys lf ev nm lb kd pt so nu al ak ap he le rw cx cr cl ll tl ts tc sz mn ac en mg ln cn wc wp) sz0) := by
  refine z_ofI (maxL := 2) (plainFor_of_name (by decide)) rfl (Nat.le_of_ble_eq_true rfl) (Or.inl rfl) ?_
  intro p e s m below meth c A ls Q F hK hW hA hl hret
  have hl : lv_has ls 2 [(0, .ref (aR 0)), (1, .int (iI x))] := hl
  refine z_iloadn F (pc := 0) dX8_parse_0 rfl (lv_at hl 1 rfl) ?_
  refine z_i2l F (pc := 1) dX8_parse_1 (by omega) ?_
  refine z_lconst F (pc := 2) (0) (by decide +kernel) dX8_parse_2 ?_
  refine z_ldc2 F (pc := 3) (3) (by decide +kernel) (List.mem_of_getElem? (i := 1) rfl) dX8_parse_3 ?_
  refine z_callSi F (pc := 6) hK hW hA (As := [.long (lI x), .long (lI 0), .long (lI 3)]) (rest := []) (c_X8_in l D cI cZ x 0 3 _ (by omega) (by omega) (by omega)) (va_cwS 3 F.2.2.2.2 gX8_parse_X8_in rfl rfl rfl (by decide +kernel) ⟨Nat.le_of_ble_eq_true rfl, Nat.le_of_ble_eq_true rfl⟩) rfl rfl hl.1 (Nat.le_of_ble_eq_true rfl) dX8_parse_6 ⟨Nat.le_of_ble_eq_true rfl, Nat.le_of_ble_eq_true rfl⟩ (fun z_6 H locs r_z_6 hp_6 hW => ?_)
  refine z_if_eq F (pc := 9) 22 dX8_parse_9 (by decide) (by omega) (fun c_9 => ?_) (fun c_9 => ?_)
  · skip
    have b_9 := zB_f hp_6 c_9
    refine z_iconst F (pc := 22) (-1) dX8_parse_22 ?_
    exact hret _ _ _ _ (-1) (wc, wp) dX8_parse_23 (by omega) (by (try dsimp only) <;> (exact Or.inl ⟨b_9, rfl⟩)) hW
  · skip
    have b_9 := zB_t hp_6 c_9
    refine z_aloadn F (pc := 12) dX8_parse_12 rfl (lv_at hl 0 rfl) ?_
    refine z_iloadn F (pc := 13) dX8_parse_13 rfl (lv_at hl 1 rfl) ?_
    refine z_bipush F (pc := 14) (-4) (by decide +kernel) dX8_parse_14 ?_
    refine z_callVi F (pc := 16) hK hW hA (As := [.int (iI x), .int (iI (-4))]) (rest := []) (ws' := fun (u : (Int) × (Int)) => wR cI cZ aR xs ys lf ev nm lb kd pt so nu al ak ap he le rw cx cr cl ll tl ts tc sz mn ac en mg ln cn u.1 u.2) (wr := ([])) (c_X8_parsed l D cI cZ aR xs ys lf ev nm lb kd pt so nu al ak ap he le rw cx cr cl ll tl ts tc sz mn ac en mg ln cn wc wp x (-4) _ (by omega) (by omega) (by exact hc) (by exact hr)) (cwV 2 F.2.2.2.2 gX8_parse_X8_parsed rfl rfl rfl (by decide +kernel) ⟨Nat.le_of_ble_eq_true rfl, Nat.le_of_ble_eq_true rfl⟩) [0, 1, 2, 3, 4, 5, 6, 7, 8, 9, 10, 11, 12, 13, 14, 15, 16, 17, 18, 19, 20, 21, 22, 23] [] [0, 1, 2, 3, 4, 5, 6, 7, 8, 9, 10, 11, 12, 13, 14, 15, 16, 17, 18, 19, 20, 21, 22, 23] rfl rfl (by decide) (by decide) (by decide) (fun _ => rfl) (by decide) (q0 := 0) (ci := 8) rfl rfl rfl rfl rfl hl.1 (Nat.le_of_ble_eq_true rfl) dX8_parse_16 ⟨Nat.le_of_ble_eq_true rfl, Nat.le_of_ble_eq_true rfl⟩ (fun z_16 u H locs r_z_16 hp_16 hW => ?_)
    obtain ⟨wc2_16, wp2_16⟩ := u
    dsimp only at hp_16 hW
    refine z_goto F (pc := 19) 23 dX8_parse_19 (by decide) ?_
    exact hret _ _ _ _ z_16 (wc2_16, wp2_16) dX8_parse_23 (by omega) (by (try dsimp only) <;> (exact Or.inr ⟨b_9, hp_16.2.o.elim (fun n9 q => ⟨n9, q.1, q.2.1⟩)⟩)) hW

set_option maxHeartbeats 4000000 in
set_option maxRecDepth 100000 in
theorem c_X8_found (l : Launch) (D : va_G) (cI cZ : ClassId) (aR : Nat → Nat) (xs ys lf ev nm lb kd pt so nu al ak ap he le rw cx cr cl ll tl ts tc : Int → Int) (sz mn ac en mg ln cn wc wp : Int) (x i w : Int) (sz0 : Nat) (r_x : (-2147483648 ≤ x ∧ x < 2147483648)) (r_i : (-2147483648 ≤ i ∧ i < 2147483648)) (r_w : (-2147483648 ≤ w ∧ w < 2147483648)) (hc : Cok cx cr cl ll cn) (hr : Rok rw ln) : Met l yX8_found wsX8_found ({ frames := 3, cells := 0, slots := 0, locals := 73 } : Room) (zPc D cI cZ [.ref (aR 0), .int (iI x), .int (iI i), .int (iI w)] (wR cI cZ aR xs ys lf ev nm lb kd pt so nu al ak ap he le rw cx cr cl ll tl ts tc sz mn ac en mg ln cn wc wp) sz0) (zQi D cI cZ (wR cI cZ aR xs ys lf ev nm lb kd pt so nu al ak ap he le rw cx cr cl ll tl ts tc sz mn ac en mg ln cn wc wp) sz0 (fun (r : Int) (u : (Int) × (Int)) => foundR cx cr cl ll rw cn ln x i w r) (fun (u : (Int) × (Int)) => wR cI cZ aR xs ys lf ev nm lb kd pt so nu al ak ap he le rw cx cr cl ll tl ts tc sz mn ac en mg ln cn u.1 u.2)) 0 0 (va_A (wR cI cZ aR xs ys lf ev nm lb kd pt so nu al ak ap he le rw cx cr cl ll tl ts tc sz mn ac en mg ln cn wc wp) sz0) := by
  refine z_ofI (maxL := 4) (plainFor_of_name (by decide)) rfl (Nat.le_of_ble_eq_true rfl) (Or.inl rfl) ?_
  intro p e s m below meth c A ls Q F hK hW hA hl hret
  have hl : lv_has ls 4 [(0, .ref (aR 0)), (1, .int (iI x)), (2, .int (iI i)), (3, .int (iI w))] := hl
  have inX8 : ∀ w ∈ u_ws RX8 TX8 32, w ∈ wsX8_found := fun _ h => List.mem_cons_of_mem _ (List.mem_append_right _ h)
  refine z_iloadn F (pc := 0) dX8_found_0 rfl (lv_at hl 1 rfl) ?_
  refine z_i2l F (pc := 1) dX8_found_1 (by omega) ?_
  refine z_lconst F (pc := 2) (0) (by decide +kernel) dX8_found_2 ?_
  refine z_ldc2 F (pc := 3) (3) (by decide +kernel) (List.mem_of_getElem? (i := 1) rfl) dX8_found_3 ?_
  refine z_callSi F (pc := 6) hK hW hA (As := [.long (lI x), .long (lI 0), .long (lI 3)]) (rest := []) (c_X8_in l D cI cZ x 0 3 _ (by omega) (by omega) (by omega)) (va_cwS 3 F.2.2.2.2 gX8_found_X8_in rfl rfl rfl (by decide +kernel) ⟨Nat.le_of_ble_eq_true rfl, Nat.le_of_ble_eq_true rfl⟩) rfl rfl hl.1 (Nat.le_of_ble_eq_true rfl) dX8_found_6 ⟨Nat.le_of_ble_eq_true rfl, Nat.le_of_ble_eq_true rfl⟩ (fun z_6 H locs r_z_6 hp_6 hW => ?_)
  refine z_if_eq F (pc := 9) 26 dX8_found_9 (by decide) (by omega) (fun c_9 => ?_) (fun c_9 => ?_)
  · skip
    have b_9 := zB_f hp_6 c_9
    refine z_iconst F (pc := 26) (-1) dX8_found_26 ?_
    exact hret _ _ _ _ (-1) (wc, wp) dX8_found_27 (by omega) (by (try dsimp only) <;> (exact Or.inl ⟨by omega, rfl⟩)) hW
  · skip
    have b_9 := zB_t hp_6 c_9
    refine z_iloadn F (pc := 12) dX8_found_12 rfl (lv_at hl 2 rfl) ?_
    refine z_if_lt F (pc := 13) 26 dX8_found_13 (by decide) (by omega) (fun c_13 => ?_) (fun c_13 => ?_)
    · skip
      refine z_iconst F (pc := 26) (-1) dX8_found_26 ?_
      exact hret _ _ _ _ (-1) (wc, wp) dX8_found_27 (by omega) (by (try dsimp only) <;> (exact Or.inl ⟨by omega, rfl⟩)) hW
    · skip
      refine z_iloadn F (pc := 16) dX8_found_16 rfl (lv_at hl 3 rfl) ?_
      refine z_i2l F (pc := 17) dX8_found_17 (by omega) ?_
      refine z_lconst F (pc := 18) (0) (by decide +kernel) dX8_found_18 ?_
      refine z_lconst F (pc := 19) (1) (by decide +kernel) dX8_found_19 ?_
      refine z_callSi F (pc := 20) hK hW hA (As := [.long (lI w), .long (lI 0), .long (lI 1)]) (rest := []) (c_X8_in l D cI cZ w 0 1 _ (by omega) (by omega) (by omega)) (va_cwS 3 F.2.2.2.2 gX8_found_X8_in rfl rfl rfl (by decide +kernel) ⟨Nat.le_of_ble_eq_true rfl, Nat.le_of_ble_eq_true rfl⟩) rfl rfl hl.1 (Nat.le_of_ble_eq_true rfl) dX8_found_20 ⟨Nat.le_of_ble_eq_true rfl, Nat.le_of_ble_eq_true rfl⟩ (fun z_20 H locs r_z_20 hp_20 hW => ?_)
      refine z_if_ne F (pc := 23) 28 dX8_found_23 (by decide) (by omega) (fun c_23 => ?_) (fun c_23 => ?_)
      · skip
        have b_23 := zB_t hp_20 c_23
        refine z_aloadn F (pc := 28) dX8_found_28 rfl (lv_at hl 0 rfl) ?_
        refine z_iloadn F (pc := 29) dX8_found_29 rfl (lv_at hl 1 rfl) ?_
        refine z_iloadn F (pc := 30) dX8_found_30 rfl (lv_at hl 2 rfl) ?_
        refine z_callVi F (pc := 31) hK hW hA (As := [.int (iI x), .int (iI i)]) (rest := []) (ws' := fun (u : (Int) × (Int)) => wR cI cZ aR xs ys lf ev nm lb kd pt so nu al ak ap he le rw cx cr cl ll tl ts tc sz mn ac en mg ln cn u.1 u.2) (wr := ([])) (c_X8_parsed l D cI cZ aR xs ys lf ev nm lb kd pt so nu al ak ap he le rw cx cr cl ll tl ts tc sz mn ac en mg ln cn wc wp x i _ (by omega) (by omega) (by exact hc) (by exact hr)) (cwV 2 F.2.2.2.2 gX8_found_X8_parsed rfl rfl rfl (by decide +kernel) ⟨Nat.le_of_ble_eq_true rfl, Nat.le_of_ble_eq_true rfl⟩) [0, 1, 2, 3, 4, 5, 6, 7, 8, 9, 10, 11, 12, 13, 14, 15, 16, 17, 18, 19, 20, 21, 22, 23] [] [0, 1, 2, 3, 4, 5, 6, 7, 8, 9, 10, 11, 12, 13, 14, 15, 16, 17, 18, 19, 20, 21, 22, 23] rfl rfl (by decide) (by decide) (by decide) (fun _ => rfl) (by decide) (q0 := 0) (ci := 8) rfl rfl rfl rfl rfl hl.1 (Nat.le_of_ble_eq_true rfl) dX8_found_31 ⟨Nat.le_of_ble_eq_true rfl, Nat.le_of_ble_eq_true rfl⟩ (fun z_31 u H locs r_z_31 hp_31 hW => ?_)
        obtain ⟨wc2_31, wp2_31⟩ := u
        dsimp only at hp_31 hW
        have hF : foundR cx cr cl ll rw cn ln x i w (@ite Int (w = 0) (Int.instDecidableEq w 0) wc2_31 wp2_31) := by
          obtain ⟨n9, y1, y2, y3⟩ := hp_31.2.o
          refine Or.inr ⟨by omega, n9, y1, ?_⟩
          rcases y3 with ⟨q9, w1, w2, w3, w4, w5⟩ | ⟨w1, w2, w3⟩
          · refine Or.inr ⟨q9, w1, w2, w3, ?_⟩
            by_cases q : w = 0
            · rw [if_pos q]; exact Or.inl ⟨q, w4⟩
            · rw [if_neg q]; exact Or.inr ⟨by omega, w5⟩
          · refine Or.inl ⟨by omega, ?_⟩
            by_cases q : w = 0
            · rw [if_pos q]; exact w2
            · rw [if_neg q]; exact w3
        refine z_pop F (pc := 34) dX8_found_34 rfl ?_
        refine z_iloadn F (pc := 35) dX8_found_35 rfl (lv_at hl 3 rfl) ?_
        refine z_if_ne F (pc := 36) 46 dX8_found_36 (by decide) (by omega) (fun c_36 => ?_) (fun c_36 => ?_)
        · skip
          rw [if_neg c_36] at hF
          refine z_aloadn F (pc := 46) dX8_found_46 rfl (lv_at hl 0 rfl) ?_
          refine z_get F (pc := 47) (C := RX8) (T := TX8) (N := 32) (ci := 8) inX8 hK hW 0 28 rfl rfl (by decide) rfl (List.mem_of_getElem? (i := 3) rfl) (v := .int (iI wp2_31)) rfl dX8_found_47 ?_
          exact hret _ _ _ _ wp2_31 (wc2_31, wp2_31) dX8_found_50 (by omega) (by (try dsimp only) <;> (exact hF)) hW
        · skip
          rw [if_pos (by omega)] at hF
          refine z_aloadn F (pc := 39) dX8_found_39 rfl (lv_at hl 0 rfl) ?_
          refine z_get F (pc := 40) (C := RX8) (T := TX8) (N := 32) (ci := 8) inX8 hK hW 0 27 rfl rfl (by decide) rfl (List.mem_of_getElem? (i := 2) rfl) (v := .int (iI wc2_31)) rfl dX8_found_40 ?_
          refine z_goto F (pc := 43) 50 dX8_found_43 (by decide) ?_
          exact hret _ _ _ _ wc2_31 (wc2_31, wp2_31) dX8_found_50 (by omega) (by (try dsimp only) <;> (exact hF)) hW
      · skip
        have b_23 := zB_f hp_20 c_23
        refine z_iconst F (pc := 26) (-1) dX8_found_26 ?_
        exact hret _ _ _ _ (-1) (wc, wp) dX8_found_27 (by omega) (by (try dsimp only) <;> (exact Or.inl ⟨by omega, rfl⟩)) hW

set_option maxHeartbeats 4000000 in
set_option maxRecDepth 100000 in
theorem c_X8_isHidden (l : Launch) (D : va_G) (cI cZ : ClassId) (aR : Nat → Nat) (xs ys lf ev nm lb kd pt so nu al ak ap he le rw cx cr cl ll tl ts tc : Int → Int) (sz mn ac en mg ln cn wc wp : Int) (k d9 : Int) (sz0 : Nat) (r_k : (-2147483648 ≤ k ∧ k < 2147483648)) (r_d9 : (-2147483648 ≤ d9 ∧ d9 < 2147483648)) (hc : Cok cx cr cl ll cn) (hk : 0 ≤ k ∧ k < cn) (hd9 : 0 ≤ d9 ∧ d9 < cn) : Met l yX8_isHidden wsX8_isHidden ({ frames := 0, cells := 0, slots := 0, locals := 0 } : Room) (zPc D cI cZ [.ref (aR 0), .int (iI k), .int (iI d9)] (wR cI cZ aR xs ys lf ev nm lb kd pt so nu al ak ap he le rw cx cr cl ll tl ts tc sz mn ac en mg ln cn wc wp) sz0) (zQi D cI cZ (wR cI cZ aR xs ys lf ev nm lb kd pt so nu al ak ap he le rw cx cr cl ll tl ts tc sz mn ac en mg ln cn wc wp) sz0 (fun (r : Int) (u : Unit) => zB r (hid1 cx cr cl ll k d9)) (fun (u : Unit) => wR cI cZ aR xs ys lf ev nm lb kd pt so nu al ak ap he le rw cx cr cl ll tl ts tc sz mn ac en mg ln cn wc wp)) 0 0 (va_A (wR cI cZ aR xs ys lf ev nm lb kd pt so nu al ak ap he le rw cx cr cl ll tl ts tc sz mn ac en mg ln cn wc wp) sz0) := by
  have hcn := hc.1
  have h9k := Cok_at hc hk.1 hk.2
  have h9d := Cok_at hc hd9.1 hd9.2
  refine z_ofI (maxL := 5) (plainFor_of_name (by decide)) rfl (Nat.le_of_ble_eq_true rfl) (Or.inr ⟨rfl, fun z u h => zB_01 h⟩) ?_
  intro p e s m below meth c A ls Q F hK hW hA hl hret
  have hl : lv_has ls 5 [(0, .ref (aR 0)), (1, .int (iI k)), (2, .int (iI d9))] := hl
  have inX8 : ∀ w ∈ u_ws RX8 TX8 32, w ∈ wsX8_isHidden := fun _ h => List.mem_cons_of_mem _ (List.mem_append_right _ h)
  refine z_iloadn F (pc := 0) dX8_isHidden_0 rfl (lv_at hl 1 rfl) ?_
  refine z_iloadn F (pc := 1) dX8_isHidden_1 rfl (lv_at hl 2 rfl) ?_
  refine z_icmp_eq F (pc := 2) 48 dX8_isHidden_2 (by decide) (by omega) (fun c_2 => ?_) (fun c_2 => ?_)
  · skip
    refine z_iconst F (pc := 48) (0) dX8_isHidden_48 ?_
    refine z_istoren F (pc := 49) hl (lv' := [(3, .int (iI 0)), (0, .ref (aR 0)), (1, .int (iI k)), (2, .int (iI d9))]) dX8_isHidden_49 rfl (by decide) rfl (fun ls hl => ?_)
    refine z_iconst F (pc := 50) (0) dX8_isHidden_50 ?_
    refine z_istore F (pc := 51) hl (lv' := [(4, .int (iI 0)), (3, .int (iI 0)), (0, .ref (aR 0)), (1, .int (iI k)), (2, .int (iI d9))]) dX8_isHidden_51 (by decide) rfl (fun ls hl => ?_)
    have cut_53 : ∀ (fuel : Nat) (q3 : Int) (j : Int) (H : Heap) (locs : List Loc) (ls : Array Slot), (4 - j).toNat < fuel → (0 ≤ j ∧ j ≤ 4) → (zB q3 ((¬ k = d9 ∧ cl k = cl d9 ∧ (cx d9 = cx k ∨ cx d9 = 0)) ∧ ∀ i, 0 ≤ i → i < j → ll (4 * k + i) = ll (4 * d9 + i))) → (q3 = 0 ∨ q3 = 1) → lv_has ls 5 [(4, .int (iI j)), (3, .int (iI q3)), (0, .ref (aR 0)), (1, .int (iI k)), (2, .int (iI d9))] → zW D A s.heap H locs (wR cI cZ aR xs ys lf ev nm lb kd pt so nu al ak ap he le rw cx cr cl ll tl ts tc sz mn ac en mg ln cn wc wp) → W p l e ({ frames := 0, cells := 0, slots := 0, locals := 0 } : Room) s m ([.ref (aR 0), .int (iI k), .int (iI d9)] : List Value).toArray below meth c H locs 0 0 Q (F0 m 53 ls []) := by
      intro fuel
      induction fuel with
      | zero => intro q3 j H locs ls hm; exact absurd hm (Nat.not_lt_zero _)
      | succ fuel ih_53 =>
        intro q3 j H locs ls hm_53 g1 g2 g3 hl hW
        refine z_iload F (pc := 53) dX8_isHidden_53 (lv_at hl 0 rfl) ?_
        refine z_iconst F (pc := 55) (4) dX8_isHidden_55 ?_
        refine z_icmp_ge F (pc := 56) 100 dX8_isHidden_56 (by decide) (by omega) (fun c_56 => ?_) (fun c_56 => ?_)
        · skip
          have e4 : j = 4 := by omega
          rw [e4] at g2
          refine z_iloadn F (pc := 100) dX8_isHidden_100 rfl (lv_at hl 1 rfl) ?_
          refine z_if_eq F (pc := 101) 143 dX8_isHidden_101 (by decide) (by omega) (fun c_101 => ?_) (fun c_101 => ?_)
          · skip
            refine z_iconst F (pc := 143) (0) dX8_isHidden_143 ?_
            exact hret _ _ _ _ 0 () dX8_isHidden_144 (by omega) (by exact zB_0 (fun q => zB_f g2 c_101 (hid1_no hc hk hd9 q).1)) hW
          · skip
            refine z_aloadn F (pc := 104) dX8_isHidden_104 rfl (lv_at hl 2 rfl) ?_
            refine z_get F (pc := 105) (C := RX8) (T := TX8) (N := 32) (ci := 8) inX8 hK hW 0 24 rfl rfl (by decide) rfl (List.mem_of_getElem? (i := 4) rfl) (v := .ref (aR 18)) rfl dX8_isHidden_105 ?_
            refine z_iloadn F (pc := 108) dX8_isHidden_108 rfl (lv_at hl 4 rfl) ?_
            refine z_iald F (pc := 109) hK hW 18 rfl (by decide) dX8_isHidden_109 (by omega) ?_
            refine z_aloadn F (pc := 110) dX8_isHidden_110 rfl (lv_at hl 2 rfl) ?_
            refine z_get F (pc := 111) (C := RX8) (T := TX8) (N := 32) (ci := 8) inX8 hK hW 0 24 rfl rfl (by decide) rfl (List.mem_of_getElem? (i := 4) rfl) (v := .ref (aR 18)) rfl dX8_isHidden_111 ?_
            refine z_iloadn F (pc := 114) dX8_isHidden_114 rfl (lv_at hl 3 rfl) ?_
            refine z_iald F (pc := 115) hK hW 18 rfl (by decide) dX8_isHidden_115 (by omega) ?_
            refine z_icmp_gt F (pc := 116) 139 dX8_isHidden_116 (by decide) (by omega) (fun c_116 => ?_) (fun c_116 => ?_)
            · skip
              refine z_iconst F (pc := 139) (1) dX8_isHidden_139 ?_
              refine z_goto F (pc := 140) 144 dX8_isHidden_140 (by decide) ?_
              exact hret _ _ _ _ 1 () dX8_isHidden_144 (by omega) (by exact zB_1 (hid1_yes hc hd9 (zB_t g2 c_101) (by omega))) hW
            · skip
              refine z_aloadn F (pc := 119) dX8_isHidden_119 rfl (lv_at hl 2 rfl) ?_
              refine z_get F (pc := 120) (C := RX8) (T := TX8) (N := 32) (ci := 8) inX8 hK hW 0 24 rfl rfl (by decide) rfl (List.mem_of_getElem? (i := 4) rfl) (v := .ref (aR 18)) rfl dX8_isHidden_120 ?_
              refine z_iloadn F (pc := 123) dX8_isHidden_123 rfl (lv_at hl 4 rfl) ?_
              refine z_iald F (pc := 124) hK hW 18 rfl (by decide) dX8_isHidden_124 (by omega) ?_
              refine z_aloadn F (pc := 125) dX8_isHidden_125 rfl (lv_at hl 2 rfl) ?_
              refine z_get F (pc := 126) (C := RX8) (T := TX8) (N := 32) (ci := 8) inX8 hK hW 0 24 rfl rfl (by decide) rfl (List.mem_of_getElem? (i := 4) rfl) (v := .ref (aR 18)) rfl dX8_isHidden_126 ?_
              refine z_iloadn F (pc := 129) dX8_isHidden_129 rfl (lv_at hl 3 rfl) ?_
              refine z_iald F (pc := 130) hK hW 18 rfl (by decide) dX8_isHidden_130 (by omega) ?_
              refine z_icmp_ne F (pc := 131) 143 dX8_isHidden_131 (by decide) (by omega) (fun c_131 => ?_) (fun c_131 => ?_)
              · skip
                refine z_iconst F (pc := 143) (0) dX8_isHidden_143 ?_
                exact hret _ _ _ _ 0 () dX8_isHidden_144 (by omega) (by exact zB_0 (fun q => by have := (hid1_no hc hk hd9 q).2; omega)) hW
              · skip
                refine z_iloadn F (pc := 134) dX8_isHidden_134 rfl (lv_at hl 4 rfl) ?_
                refine z_iloadn F (pc := 135) dX8_isHidden_135 rfl (lv_at hl 3 rfl) ?_
                refine z_icmp_ge F (pc := 136) 143 dX8_isHidden_136 (by decide) (by omega) (fun c_136 => ?_) (fun c_136 => ?_)
                · skip
                  refine z_iconst F (pc := 143) (0) dX8_isHidden_143 ?_
                  exact hret _ _ _ _ 0 () dX8_isHidden_144 (by omega) (by exact zB_0 (fun q => by have := (hid1_no hc hk hd9 q).2; omega)) hW
                · skip
                  refine z_iconst F (pc := 139) (1) dX8_isHidden_139 ?_
                  refine z_goto F (pc := 140) 144 dX8_isHidden_140 (by decide) ?_
                  exact hret _ _ _ _ 1 () dX8_isHidden_144 (by omega) (by exact zB_1 (hid1_yes hc hd9 (zB_t g2 c_101) (by omega))) hW
        · skip
          refine z_iloadn F (pc := 59) dX8_isHidden_59 rfl (lv_at hl 1 rfl) ?_
          refine z_if_eq F (pc := 60) 92 dX8_isHidden_60 (by decide) (by omega) (fun c_60 => ?_) (fun c_60 => ?_)
          · skip
            have hst : zB 0 ((¬ k = d9 ∧ cl k = cl d9 ∧ (cx d9 = cx k ∨ cx d9 = 0)) ∧ ∀ i, 0 ≤ i → i < j + 1 → ll (4 * k + i) = ll (4 * d9 + i)) := zB_0 (fun q => zB_f g2 c_60 ⟨q.1, fun i i0 i1 => q.2 i i0 (by omega)⟩)
            refine z_iconst F (pc := 92) (0) dX8_isHidden_92 ?_
            refine z_istoren F (pc := 93) hl (lv' := [(3, .int (iI 0)), (4, .int (iI j)), (0, .ref (aR 0)), (1, .int (iI k)), (2, .int (iI d9))]) dX8_isHidden_93 rfl (by decide) rfl (fun ls hl => ?_)
            refine z_iinc F (pc := 94) hl (lv' := [(4, .int (iI (j + 1))), (3, .int (iI 0)), (0, .ref (aR 0)), (1, .int (iI k)), (2, .int (iI d9))]) dX8_isHidden_94 (k := 1) rfl (by decide) rfl (fun ls hl => ?_)
            refine z_goto F (pc := 97) 53 dX8_isHidden_97 (by decide) ?_
            exact ih_53 0 (j + 1) _ _ _ (by omega) (by omega) (by exact hst) (by omega) (lv_sub hl [0, 1, 2, 3, 4] rfl) hW
          · skip
            have hq := zB_t g2 c_60
            have hva := Cok_l hc hk.1 hk.2 g1.1 (show j < 4 by omega)
            have hvb := Cok_l hc hd9.1 hd9.2 g1.1 (show j < 4 by omega)
            refine z_aloadn F (pc := 63) dX8_isHidden_63 rfl (lv_at hl 2 rfl) ?_
            refine z_get F (pc := 64) (C := RX8) (T := TX8) (N := 32) (ci := 8) inX8 hK hW 0 26 rfl rfl (by decide) rfl (List.mem_of_getElem? (i := 3) rfl) (v := .ref (aR 20)) rfl dX8_isHidden_64 ?_
            refine z_iconst F (pc := 67) (4) dX8_isHidden_67 ?_
            refine z_iloadn F (pc := 68) dX8_isHidden_68 rfl (lv_at hl 3 rfl) ?_
            refine z_imul F (pc := 69) dX8_isHidden_69 ?_
            refine z_iload F (pc := 70) dX8_isHidden_70 (lv_at hl 0 rfl) ?_
            refine z_iadd F (pc := 72) dX8_isHidden_72 ?_
            refine z_iald F (pc := 73) hK hW 20 rfl (by decide) dX8_isHidden_73 (by omega) ?_
            refine z_aloadn F (pc := 74) dX8_isHidden_74 rfl (lv_at hl 2 rfl) ?_
            refine z_get F (pc := 75) (C := RX8) (T := TX8) (N := 32) (ci := 8) inX8 hK hW 0 26 rfl rfl (by decide) rfl (List.mem_of_getElem? (i := 3) rfl) (v := .ref (aR 20)) rfl dX8_isHidden_75 ?_
            refine z_iconst F (pc := 78) (4) dX8_isHidden_78 ?_
            refine z_iloadn F (pc := 79) dX8_isHidden_79 rfl (lv_at hl 4 rfl) ?_
            refine z_imul F (pc := 80) dX8_isHidden_80 ?_
            refine z_iload F (pc := 81) dX8_isHidden_81 (lv_at hl 0 rfl) ?_
            refine z_iadd F (pc := 83) dX8_isHidden_83 ?_
            refine z_iald F (pc := 84) hK hW 20 rfl (by decide) dX8_isHidden_84 (by omega) ?_
            refine z_icmp_ne F (pc := 85) 92 dX8_isHidden_85 (by decide) (by omega) (fun c_85 => ?_) (fun c_85 => ?_)
            · skip
              have hst : zB 0 ((¬ k = d9 ∧ cl k = cl d9 ∧ (cx d9 = cx k ∨ cx d9 = 0)) ∧ ∀ i, 0 ≤ i → i < j + 1 → ll (4 * k + i) = ll (4 * d9 + i)) := zB_0 (fun q => by have := q.2 j g1.1 (by omega); omega)
              refine z_iconst F (pc := 92) (0) dX8_isHidden_92 ?_
              refine z_istoren F (pc := 93) hl (lv' := [(3, .int (iI 0)), (4, .int (iI j)), (0, .ref (aR 0)), (1, .int (iI k)), (2, .int (iI d9))]) dX8_isHidden_93 rfl (by decide) rfl (fun ls hl => ?_)
              refine z_iinc F (pc := 94) hl (lv' := [(4, .int (iI (j + 1))), (3, .int (iI 0)), (0, .ref (aR 0)), (1, .int (iI k)), (2, .int (iI d9))]) dX8_isHidden_94 (k := 1) rfl (by decide) rfl (fun ls hl => ?_)
              refine z_goto F (pc := 97) 53 dX8_isHidden_97 (by decide) ?_
              exact ih_53 0 (j + 1) _ _ _ (by omega) (by omega) (by exact hst) (by omega) (lv_sub hl [0, 1, 2, 3, 4] rfl) hW
            · skip
              have hst : zB 1 ((¬ k = d9 ∧ cl k = cl d9 ∧ (cx d9 = cx k ∨ cx d9 = 0)) ∧ ∀ i, 0 ≤ i → i < j + 1 → ll (4 * k + i) = ll (4 * d9 + i)) := zB_1 ⟨hq.1, fun i i0 i1 => by (by_cases q : i = j) <;> first | (rw [q]; omega) | exact hq.2 i i0 (by omega)⟩
              refine z_iconst F (pc := 88) (1) dX8_isHidden_88 ?_
              refine z_goto F (pc := 89) 93 dX8_isHidden_89 (by decide) ?_
              refine z_istoren F (pc := 93) hl (lv' := [(3, .int (iI 1)), (4, .int (iI j)), (0, .ref (aR 0)), (1, .int (iI k)), (2, .int (iI d9))]) dX8_isHidden_93 rfl (by decide) rfl (fun ls hl => ?_)
              refine z_iinc F (pc := 94) hl (lv' := [(4, .int (iI (j + 1))), (3, .int (iI 1)), (0, .ref (aR 0)), (1, .int (iI k)), (2, .int (iI d9))]) dX8_isHidden_94 (k := 1) rfl (by decide) rfl (fun ls hl => ?_)
              refine z_goto F (pc := 97) 53 dX8_isHidden_97 (by decide) ?_
              exact ih_53 1 (j + 1) _ _ _ (by omega) (by omega) (by exact hst) (by omega) (lv_sub hl [0, 1, 2, 3, 4] rfl) hW
    exact cut_53 _ 0 0 _ _ _ (Nat.lt_succ_self _) (by omega) (by first | exact zB_1 ⟨by omega, fun i i0 i1 => by omega⟩ | exact zB_0 (fun q => by have := q.1; omega)) (by omega) (lv_sub hl [0, 1, 2, 3, 4] rfl) hW
  · skip
    refine z_aloadn F (pc := 5) dX8_isHidden_5 rfl (lv_at hl 0 rfl) ?_
    refine z_get F (pc := 6) (C := RX8) (T := TX8) (N := 32) (ci := 8) inX8 hK hW 0 25 rfl rfl (by decide) rfl (List.mem_of_getElem? (i := 1) rfl) (v := .ref (aR 19)) rfl dX8_isHidden_6 ?_
    refine z_iloadn F (pc := 9) dX8_isHidden_9 rfl (lv_at hl 1 rfl) ?_
    refine z_iald F (pc := 10) hK hW 19 rfl (by decide) dX8_isHidden_10 (by omega) ?_
    refine z_aloadn F (pc := 11) dX8_isHidden_11 rfl (lv_at hl 0 rfl) ?_
    refine z_get F (pc := 12) (C := RX8) (T := TX8) (N := 32) (ci := 8) inX8 hK hW 0 25 rfl rfl (by decide) rfl (List.mem_of_getElem? (i := 1) rfl) (v := .ref (aR 19)) rfl dX8_isHidden_12 ?_
    refine z_iloadn F (pc := 15) dX8_isHidden_15 rfl (lv_at hl 2 rfl) ?_
    refine z_iald F (pc := 16) hK hW 19 rfl (by decide) dX8_isHidden_16 (by omega) ?_
    refine z_icmp_ne F (pc := 17) 48 dX8_isHidden_17 (by decide) (by omega) (fun c_17 => ?_) (fun c_17 => ?_)
    · skip
      refine z_iconst F (pc := 48) (0) dX8_isHidden_48 ?_
      refine z_istoren F (pc := 49) hl (lv' := [(3, .int (iI 0)), (0, .ref (aR 0)), (1, .int (iI k)), (2, .int (iI d9))]) dX8_isHidden_49 rfl (by decide) rfl (fun ls hl => ?_)
      refine z_iconst F (pc := 50) (0) dX8_isHidden_50 ?_
      refine z_istore F (pc := 51) hl (lv' := [(4, .int (iI 0)), (3, .int (iI 0)), (0, .ref (aR 0)), (1, .int (iI k)), (2, .int (iI d9))]) dX8_isHidden_51 (by decide) rfl (fun ls hl => ?_)
      have cut_53 : ∀ (fuel : Nat) (q3 : Int) (j : Int) (H : Heap) (locs : List Loc) (ls : Array Slot), (4 - j).toNat < fuel → (0 ≤ j ∧ j ≤ 4) → (zB q3 ((¬ k = d9 ∧ cl k = cl d9 ∧ (cx d9 = cx k ∨ cx d9 = 0)) ∧ ∀ i, 0 ≤ i → i < j → ll (4 * k + i) = ll (4 * d9 + i))) → (q3 = 0 ∨ q3 = 1) → lv_has ls 5 [(4, .int (iI j)), (3, .int (iI q3)), (0, .ref (aR 0)), (1, .int (iI k)), (2, .int (iI d9))] → zW D A s.heap H locs (wR cI cZ aR xs ys lf ev nm lb kd pt so nu al ak ap he le rw cx cr cl ll tl ts tc sz mn ac en mg ln cn wc wp) → W p l e ({ frames := 0, cells := 0, slots := 0, locals := 0 } : Room) s m ([.ref (aR 0), .int (iI k), .int (iI d9)] : List Value).toArray below meth c H locs 0 0 Q (F0 m 53 ls []) := by
        intro fuel
        induction fuel with
        | zero => intro q3 j H locs ls hm; exact absurd hm (Nat.not_lt_zero _)
        | succ fuel ih_53 =>
          intro q3 j H locs ls hm_53 g1 g2 g3 hl hW
          refine z_iload F (pc := 53) dX8_isHidden_53 (lv_at hl 0 rfl) ?_
          refine z_iconst F (pc := 55) (4) dX8_isHidden_55 ?_
          refine z_icmp_ge F (pc := 56) 100 dX8_isHidden_56 (by decide) (by omega) (fun c_56 => ?_) (fun c_56 => ?_)
          · skip
            have e4 : j = 4 := by omega
            rw [e4] at g2
            refine z_iloadn F (pc := 100) dX8_isHidden_100 rfl (lv_at hl 1 rfl) ?_
            refine z_if_eq F (pc := 101) 143 dX8_isHidden_101 (by decide) (by omega) (fun c_101 => ?_) (fun c_101 => ?_)
            · skip
              refine z_iconst F (pc := 143) (0) dX8_isHidden_143 ?_
              exact hret _ _ _ _ 0 () dX8_isHidden_144 (by omega) (by exact zB_0 (fun q => zB_f g2 c_101 (hid1_no hc hk hd9 q).1)) hW
            · skip
              refine z_aloadn F (pc := 104) dX8_isHidden_104 rfl (lv_at hl 2 rfl) ?_
              refine z_get F (pc := 105) (C := RX8) (T := TX8) (N := 32) (ci := 8) inX8 hK hW 0 24 rfl rfl (by decide) rfl (List.mem_of_getElem? (i := 4) rfl) (v := .ref (aR 18)) rfl dX8_isHidden_105 ?_
              refine z_iloadn F (pc := 108) dX8_isHidden_108 rfl (lv_at hl 4 rfl) ?_
              refine z_iald F (pc := 109) hK hW 18 rfl (by decide) dX8_isHidden_109 (by omega) ?_
              refine z_aloadn F (pc := 110) dX8_isHidden_110 rfl (lv_at hl 2 rfl) ?_
              refine z_get F (pc := 111) (C := RX8) (T := TX8) (N := 32) (ci := 8) inX8 hK hW 0 24 rfl rfl (by decide) rfl (List.mem_of_getElem? (i := 4) rfl) (v := .ref (aR 18)) rfl dX8_isHidden_111 ?_
              refine z_iloadn F (pc := 114) dX8_isHidden_114 rfl (lv_at hl 3 rfl) ?_
              refine z_iald F (pc := 115) hK hW 18 rfl (by decide) dX8_isHidden_115 (by omega) ?_
              refine z_icmp_gt F (pc := 116) 139 dX8_isHidden_116 (by decide) (by omega) (fun c_116 => ?_) (fun c_116 => ?_)
              · skip
                refine z_iconst F (pc := 139) (1) dX8_isHidden_139 ?_
                refine z_goto F (pc := 140) 144 dX8_isHidden_140 (by decide) ?_
                exact hret _ _ _ _ 1 () dX8_isHidden_144 (by omega) (by exact zB_1 (hid1_yes hc hd9 (zB_t g2 c_101) (by omega))) hW
              · skip
                refine z_aloadn F (pc := 119) dX8_isHidden_119 rfl (lv_at hl 2 rfl) ?_
                refine z_get F (pc := 120) (C := RX8) (T := TX8) (N := 32) (ci := 8) inX8 hK hW 0 24 rfl rfl (by decide) rfl (List.mem_of_getElem? (i := 4) rfl) (v := .ref (aR 18)) rfl dX8_isHidden_120 ?_
                refine z_iloadn F (pc := 123) dX8_isHidden_123 rfl (lv_at hl 4 rfl) ?_
                refine z_iald F (pc := 124) hK hW 18 rfl (by decide) dX8_isHidden_124 (by omega) ?_
                refine z_aloadn F (pc := 125) dX8_isHidden_125 rfl (lv_at hl 2 rfl) ?_
                refine z_get F (pc := 126) (C := RX8) (T := TX8) (N := 32) (ci := 8) inX8 hK hW 0 24 rfl rfl (by decide) rfl (List.mem_of_getElem? (i := 4) rfl) (v := .ref (aR 18)) rfl dX8_isHidden_126 ?_
                refine z_iloadn F (pc := 129) dX8_isHidden_129 rfl (lv_at hl 3 rfl) ?_
                refine z_iald F (pc := 130) hK hW 18 rfl (by decide) dX8_isHidden_130 (by omega) ?_
                refine z_icmp_ne F (pc := 131) 143 dX8_isHidden_131 (by decide) (by omega) (fun c_131 => ?_) (fun c_131 => ?_)
                · skip
                  refine z_iconst F (pc := 143) (0) dX8_isHidden_143 ?_
                  exact hret _ _ _ _ 0 () dX8_isHidden_144 (by omega) (by exact zB_0 (fun q => by have := (hid1_no hc hk hd9 q).2; omega)) hW
                · skip
                  refine z_iloadn F (pc := 134) dX8_isHidden_134 rfl (lv_at hl 4 rfl) ?_
                  refine z_iloadn F (pc := 135) dX8_isHidden_135 rfl (lv_at hl 3 rfl) ?_
                  refine z_icmp_ge F (pc := 136) 143 dX8_isHidden_136 (by decide) (by omega) (fun c_136 => ?_) (fun c_136 => ?_)
                  · skip
                    refine z_iconst F (pc := 143) (0) dX8_isHidden_143 ?_
                    exact hret _ _ _ _ 0 () dX8_isHidden_144 (by omega) (by exact zB_0 (fun q => by have := (hid1_no hc hk hd9 q).2; omega)) hW
                  · skip
                    refine z_iconst F (pc := 139) (1) dX8_isHidden_139 ?_
                    refine z_goto F (pc := 140) 144 dX8_isHidden_140 (by decide) ?_
                    exact hret _ _ _ _ 1 () dX8_isHidden_144 (by omega) (by exact zB_1 (hid1_yes hc hd9 (zB_t g2 c_101) (by omega))) hW
          · skip
            refine z_iloadn F (pc := 59) dX8_isHidden_59 rfl (lv_at hl 1 rfl) ?_
            refine z_if_eq F (pc := 60) 92 dX8_isHidden_60 (by decide) (by omega) (fun c_60 => ?_) (fun c_60 => ?_)
            · skip
              have hst : zB 0 ((¬ k = d9 ∧ cl k = cl d9 ∧ (cx d9 = cx k ∨ cx d9 = 0)) ∧ ∀ i, 0 ≤ i → i < j + 1 → ll (4 * k + i) = ll (4 * d9 + i)) := zB_0 (fun q => zB_f g2 c_60 ⟨q.1, fun i i0 i1 => q.2 i i0 (by omega)⟩)
              refine z_iconst F (pc := 92) (0) dX8_isHidden_92 ?_
              refine z_istoren F (pc := 93) hl (lv' := [(3, .int (iI 0)), (4, .int (iI j)), (0, .ref (aR 0)), (1, .int (iI k)), (2, .int (iI d9))]) dX8_isHidden_93 rfl (by decide) rfl (fun ls hl => ?_)
              refine z_iinc F (pc := 94) hl (lv' := [(4, .int (iI (j + 1))), (3, .int (iI 0)), (0, .ref (aR 0)), (1, .int (iI k)), (2, .int (iI d9))]) dX8_isHidden_94 (k := 1) rfl (by decide) rfl (fun ls hl => ?_)
              refine z_goto F (pc := 97) 53 dX8_isHidden_97 (by decide) ?_
              exact ih_53 0 (j + 1) _ _ _ (by omega) (by omega) (by exact hst) (by omega) (lv_sub hl [0, 1, 2, 3, 4] rfl) hW
            · skip
              have hq := zB_t g2 c_60
              have hva := Cok_l hc hk.1 hk.2 g1.1 (show j < 4 by omega)
              have hvb := Cok_l hc hd9.1 hd9.2 g1.1 (show j < 4 by omega)
              refine z_aloadn F (pc := 63) dX8_isHidden_63 rfl (lv_at hl 2 rfl) ?_
              refine z_get F (pc := 64) (C := RX8) (T := TX8) (N := 32) (ci := 8) inX8 hK hW 0 26 rfl rfl (by decide) rfl (List.mem_of_getElem? (i := 3) rfl) (v := .ref (aR 20)) rfl dX8_isHidden_64 ?_
              refine z_iconst F (pc := 67) (4) dX8_isHidden_67 ?_
              refine z_iloadn F (pc := 68) dX8_isHidden_68 rfl (lv_at hl 3 rfl) ?_
              refine z_imul F (pc := 69) dX8_isHidden_69 ?_
              refine z_iload F (pc := 70) dX8_isHidden_70 (lv_at hl 0 rfl) ?_
              refine z_iadd F (pc := 72) dX8_isHidden_72 ?_
              refine z_iald F (pc := 73) hK hW 20 rfl (by decide) dX8_isHidden_73 (by omega) ?_
              refine z_aloadn F (pc := 74) dX8_isHidden_74 rfl (lv_at hl 2 rfl) ?_
              refine z_get F (pc := 75) (C := RX8) (T := TX8) (N := 32) (ci := 8) inX8 hK hW 0 26 rfl rfl (by decide) rfl (List.mem_of_getElem? (i := 3) rfl) (v := .ref (aR 20)) rfl dX8_isHidden_75 ?_
              refine z_iconst F (pc := 78) (4) dX8_isHidden_78 ?_
              refine z_iloadn F (pc := 79) dX8_isHidden_79 rfl (lv_at hl 4 rfl) ?_
              refine z_imul F (pc := 80) dX8_isHidden_80 ?_
              refine z_iload F (pc := 81) dX8_isHidden_81 (lv_at hl 0 rfl) ?_
              refine z_iadd F (pc := 83) dX8_isHidden_83 ?_
              refine z_iald F (pc := 84) hK hW 20 rfl (by decide) dX8_isHidden_84 (by omega) ?_
              refine z_icmp_ne F (pc := 85) 92 dX8_isHidden_85 (by decide) (by omega) (fun c_85 => ?_) (fun c_85 => ?_)
              · skip
                have hst : zB 0 ((¬ k = d9 ∧ cl k = cl d9 ∧ (cx d9 = cx k ∨ cx d9 = 0)) ∧ ∀ i, 0 ≤ i → i < j + 1 → ll (4 * k + i) = ll (4 * d9 + i)) := zB_0 (fun q => by have := q.2 j g1.1 (by omega); omega)
                refine z_iconst F (pc := 92) (0) dX8_isHidden_92 ?_
                refine z_istoren F (pc := 93) hl (lv' := [(3, .int (iI 0)), (4, .int (iI j)), (0, .ref (aR 0)), (1, .int (iI k)), (2, .int (iI d9))]) dX8_isHidden_93 rfl (by decide) rfl (fun ls hl => ?_)
                refine z_iinc F (pc := 94) hl (lv' := [(4, .int (iI (j + 1))), (3, .int (iI 0)), (0, .ref (aR 0)), (1, .int (iI k)), (2, .int (iI d9))]) dX8_isHidden_94 (k := 1) rfl (by decide) rfl (fun ls hl => ?_)
                refine z_goto F (pc := 97) 53 dX8_isHidden_97 (by decide) ?_
                exact ih_53 0 (j + 1) _ _ _ (by omega) (by omega) (by exact hst) (by omega) (lv_sub hl [0, 1, 2, 3, 4] rfl) hW
              · skip
                have hst : zB 1 ((¬ k = d9 ∧ cl k = cl d9 ∧ (cx d9 = cx k ∨ cx d9 = 0)) ∧ ∀ i, 0 ≤ i → i < j + 1 → ll (4 * k + i) = ll (4 * d9 + i)) := zB_1 ⟨hq.1, fun i i0 i1 => by (by_cases q : i = j) <;> first | (rw [q]; omega) | exact hq.2 i i0 (by omega)⟩
                refine z_iconst F (pc := 88) (1) dX8_isHidden_88 ?_
                refine z_goto F (pc := 89) 93 dX8_isHidden_89 (by decide) ?_
                refine z_istoren F (pc := 93) hl (lv' := [(3, .int (iI 1)), (4, .int (iI j)), (0, .ref (aR 0)), (1, .int (iI k)), (2, .int (iI d9))]) dX8_isHidden_93 rfl (by decide) rfl (fun ls hl => ?_)
                refine z_iinc F (pc := 94) hl (lv' := [(4, .int (iI (j + 1))), (3, .int (iI 1)), (0, .ref (aR 0)), (1, .int (iI k)), (2, .int (iI d9))]) dX8_isHidden_94 (k := 1) rfl (by decide) rfl (fun ls hl => ?_)
                refine z_goto F (pc := 97) 53 dX8_isHidden_97 (by decide) ?_
                exact ih_53 1 (j + 1) _ _ _ (by omega) (by omega) (by exact hst) (by omega) (lv_sub hl [0, 1, 2, 3, 4] rfl) hW
      exact cut_53 _ 0 0 _ _ _ (Nat.lt_succ_self _) (by omega) (by first | exact zB_1 ⟨by omega, fun i i0 i1 => by omega⟩ | exact zB_0 (fun q => by have := q.1; omega)) (by omega) (lv_sub hl [0, 1, 2, 3, 4] rfl) hW
    · skip
      refine z_aloadn F (pc := 20) dX8_isHidden_20 rfl (lv_at hl 0 rfl) ?_
      refine z_get F (pc := 21) (C := RX8) (T := TX8) (N := 32) (ci := 8) inX8 hK hW 0 23 rfl rfl (by decide) rfl (List.mem_of_getElem? (i := 2) rfl) (v := .ref (aR 17)) rfl dX8_isHidden_21 ?_
      refine z_iloadn F (pc := 24) dX8_isHidden_24 rfl (lv_at hl 2 rfl) ?_
      refine z_iald F (pc := 25) hK hW 17 rfl (by decide) dX8_isHidden_25 (by omega) ?_
      refine z_aloadn F (pc := 26) dX8_isHidden_26 rfl (lv_at hl 0 rfl) ?_
      refine z_get F (pc := 27) (C := RX8) (T := TX8) (N := 32) (ci := 8) inX8 hK hW 0 23 rfl rfl (by decide) rfl (List.mem_of_getElem? (i := 2) rfl) (v := .ref (aR 17)) rfl dX8_isHidden_27 ?_
      refine z_iloadn F (pc := 30) dX8_isHidden_30 rfl (lv_at hl 1 rfl) ?_
      refine z_iald F (pc := 31) hK hW 17 rfl (by decide) dX8_isHidden_31 (by omega) ?_
      refine z_icmp_eq F (pc := 32) 44 dX8_isHidden_32 (by decide) (by omega) (fun c_32 => ?_) (fun c_32 => ?_)
      · skip
        refine z_iconst F (pc := 44) (1) dX8_isHidden_44 ?_
        refine z_goto F (pc := 45) 49 dX8_isHidden_45 (by decide) ?_
        refine z_istoren F (pc := 49) hl (lv' := [(3, .int (iI 1)), (0, .ref (aR 0)), (1, .int (iI k)), (2, .int (iI d9))]) dX8_isHidden_49 rfl (by decide) rfl (fun ls hl => ?_)
        refine z_iconst F (pc := 50) (0) dX8_isHidden_50 ?_
        refine z_istore F (pc := 51) hl (lv' := [(4, .int (iI 0)), (3, .int (iI 1)), (0, .ref (aR 0)), (1, .int (iI k)), (2, .int (iI d9))]) dX8_isHidden_51 (by decide) rfl (fun ls hl => ?_)
        have cut_53 : ∀ (fuel : Nat) (q3 : Int) (j : Int) (H : Heap) (locs : List Loc) (ls : Array Slot), (4 - j).toNat < fuel → (0 ≤ j ∧ j ≤ 4) → (zB q3 ((¬ k = d9 ∧ cl k = cl d9 ∧ (cx d9 = cx k ∨ cx d9 = 0)) ∧ ∀ i, 0 ≤ i → i < j → ll (4 * k + i) = ll (4 * d9 + i))) → (q3 = 0 ∨ q3 = 1) → lv_has ls 5 [(4, .int (iI j)), (3, .int (iI q3)), (0, .ref (aR 0)), (1, .int (iI k)), (2, .int (iI d9))] → zW D A s.heap H locs (wR cI cZ aR xs ys lf ev nm lb kd pt so nu al ak ap he le rw cx cr cl ll tl ts tc sz mn ac en mg ln cn wc wp) → W p l e ({ frames := 0, cells := 0, slots := 0, locals := 0 } : Room) s m ([.ref (aR 0), .int (iI k), .int (iI d9)] : List Value).toArray below meth c H locs 0 0 Q (F0 m 53 ls []) := by
          intro fuel
          induction fuel with
          | zero => intro q3 j H locs ls hm; exact absurd hm (Nat.not_lt_zero _)
          | succ fuel ih_53 =>
            intro q3 j H locs ls hm_53 g1 g2 g3 hl hW
            refine z_iload F (pc := 53) dX8_isHidden_53 (lv_at hl 0 rfl) ?_
            refine z_iconst F (pc := 55) (4) dX8_isHidden_55 ?_
            refine z_icmp_ge F (pc := 56) 100 dX8_isHidden_56 (by decide) (by omega) (fun c_56 => ?_) (fun c_56 => ?_)
            · skip
              have e4 : j = 4 := by omega
              rw [e4] at g2
              refine z_iloadn F (pc := 100) dX8_isHidden_100 rfl (lv_at hl 1 rfl) ?_
              refine z_if_eq F (pc := 101) 143 dX8_isHidden_101 (by decide) (by omega) (fun c_101 => ?_) (fun c_101 => ?_)
              · skip
                refine z_iconst F (pc := 143) (0) dX8_isHidden_143 ?_
                exact hret _ _ _ _ 0 () dX8_isHidden_144 (by omega) (by exact zB_0 (fun q => zB_f g2 c_101 (hid1_no hc hk hd9 q).1)) hW
              · skip
                refine z_aloadn F (pc := 104) dX8_isHidden_104 rfl (lv_at hl 2 rfl) ?_
                refine z_get F (pc := 105) (C := RX8) (T := TX8) (N := 32) (ci := 8) inX8 hK hW 0 24 rfl rfl (by decide) rfl (List.mem_of_getElem? (i := 4) rfl) (v := .ref (aR 18)) rfl dX8_isHidden_105 ?_
                refine z_iloadn F (pc := 108) dX8_isHidden_108 rfl (lv_at hl 4 rfl) ?_
                refine z_iald F (pc := 109) hK hW 18 rfl (by decide) dX8_isHidden_109 (by omega) ?_
                refine z_aloadn F (pc := 110) dX8_isHidden_110 rfl (lv_at hl 2 rfl) ?_
                refine z_get F (pc := 111) (C := RX8) (T := TX8) (N := 32) (ci := 8) inX8 hK hW 0 24 rfl rfl (by decide) rfl (List.mem_of_getElem? (i := 4) rfl) (v := .ref (aR 18)) rfl dX8_isHidden_111 ?_
                refine z_iloadn F (pc := 114) dX8_isHidden_114 rfl (lv_at hl 3 rfl) ?_
                refine z_iald F (pc := 115) hK hW 18 rfl (by decide) dX8_isHidden_115 (by omega) ?_
                refine z_icmp_gt F (pc := 116) 139 dX8_isHidden_116 (by decide) (by omega) (fun c_116 => ?_) (fun c_116 => ?_)
                · skip
                  refine z_iconst F (pc := 139) (1) dX8_isHidden_139 ?_
                  refine z_goto F (pc := 140) 144 dX8_isHidden_140 (by decide) ?_
                  exact hret _ _ _ _ 1 () dX8_isHidden_144 (by omega) (by exact zB_1 (hid1_yes hc hd9 (zB_t g2 c_101) (by omega))) hW
                · skip
                  refine z_aloadn F (pc := 119) dX8_isHidden_119 rfl (lv_at hl 2 rfl) ?_
                  refine z_get F (pc := 120) (C := RX8) (T := TX8) (N := 32) (ci := 8) inX8 hK hW 0 24 rfl rfl (by decide) rfl (List.mem_of_getElem? (i := 4) rfl) (v := .ref (aR 18)) rfl dX8_isHidden_120 ?_
                  refine z_iloadn F (pc := 123) dX8_isHidden_123 rfl (lv_at hl 4 rfl) ?_
                  refine z_iald F (pc := 124) hK hW 18 rfl (by decide) dX8_isHidden_124 (by omega) ?_
                  refine z_aloadn F (pc := 125) dX8_isHidden_125 rfl (lv_at hl 2 rfl) ?_
                  refine z_get F (pc := 126) (C := RX8) (T := TX8) (N := 32) (ci := 8) inX8 hK hW 0 24 rfl rfl (by decide) rfl (List.mem_of_getElem? (i := 4) rfl) (v := .ref (aR 18)) rfl dX8_isHidden_126 ?_
                  refine z_iloadn F (pc := 129) dX8_isHidden_129 rfl (lv_at hl 3 rfl) ?_
                  refine z_iald F (pc := 130) hK hW 18 rfl (by decide) dX8_isHidden_130 (by omega) ?_
                  refine z_icmp_ne F (pc := 131) 143 dX8_isHidden_131 (by decide) (by omega) (fun c_131 => ?_) (fun c_131 => ?_)
                  · skip
                    refine z_iconst F (pc := 143) (0) dX8_isHidden_143 ?_
                    exact hret _ _ _ _ 0 () dX8_isHidden_144 (by omega) (by exact zB_0 (fun q => by have := (hid1_no hc hk hd9 q).2; omega)) hW
                  · skip
                    refine z_iloadn F (pc := 134) dX8_isHidden_134 rfl (lv_at hl 4 rfl) ?_
                    refine z_iloadn F (pc := 135) dX8_isHidden_135 rfl (lv_at hl 3 rfl) ?_
                    refine z_icmp_ge F (pc := 136) 143 dX8_isHidden_136 (by decide) (by omega) (fun c_136 => ?_) (fun c_136 => ?_)
                    · skip
                      refine z_iconst F (pc := 143) (0) dX8_isHidden_143 ?_
                      exact hret _ _ _ _ 0 () dX8_isHidden_144 (by omega) (by exact zB_0 (fun q => by have := (hid1_no hc hk hd9 q).2; omega)) hW
                    · skip
                      refine z_iconst F (pc := 139) (1) dX8_isHidden_139 ?_
                      refine z_goto F (pc := 140) 144 dX8_isHidden_140 (by decide) ?_
                      exact hret _ _ _ _ 1 () dX8_isHidden_144 (by omega) (by exact zB_1 (hid1_yes hc hd9 (zB_t g2 c_101) (by omega))) hW
            · skip
              refine z_iloadn F (pc := 59) dX8_isHidden_59 rfl (lv_at hl 1 rfl) ?_
              refine z_if_eq F (pc := 60) 92 dX8_isHidden_60 (by decide) (by omega) (fun c_60 => ?_) (fun c_60 => ?_)
              · skip
                have hst : zB 0 ((¬ k = d9 ∧ cl k = cl d9 ∧ (cx d9 = cx k ∨ cx d9 = 0)) ∧ ∀ i, 0 ≤ i → i < j + 1 → ll (4 * k + i) = ll (4 * d9 + i)) := zB_0 (fun q => zB_f g2 c_60 ⟨q.1, fun i i0 i1 => q.2 i i0 (by omega)⟩)
                refine z_iconst F (pc := 92) (0) dX8_isHidden_92 ?_
                refine z_istoren F (pc := 93) hl (lv' := [(3, .int (iI 0)), (4, .int (iI j)), (0, .ref (aR 0)), (1, .int (iI k)), (2, .int (iI d9))]) dX8_isHidden_93 rfl (by decide) rfl (fun ls hl => ?_)
                refine z_iinc F (pc := 94) hl (lv' := [(4, .int (iI (j + 1))), (3, .int (iI 0)), (0, .ref (aR 0)), (1, .int (iI k)), (2, .int (iI d9))]) dX8_isHidden_94 (k := 1) rfl (by decide) rfl (fun ls hl => ?_)
                refine z_goto F (pc := 97) 53 dX8_isHidden_97 (by decide) ?_
                exact ih_53 0 (j + 1) _ _ _ (by omega) (by omega) (by exact hst) (by omega) (lv_sub hl [0, 1, 2, 3, 4] rfl) hW
              · skip
                have hq := zB_t g2 c_60
                have hva := Cok_l hc hk.1 hk.2 g1.1 (show j < 4 by omega)
                have hvb := Cok_l hc hd9.1 hd9.2 g1.1 (show j < 4 by omega)
                refine z_aloadn F (pc := 63) dX8_isHidden_63 rfl (lv_at hl 2 rfl) ?_
                refine z_get F (pc := 64) (C := RX8) (T := TX8) (N := 32) (ci := 8) inX8 hK hW 0 26 rfl rfl (by decide) rfl (List.mem_of_getElem? (i := 3) rfl) (v := .ref (aR 20)) rfl dX8_isHidden_64 ?_
                refine z_iconst F (pc := 67) (4) dX8_isHidden_67 ?_
                refine z_iloadn F (pc := 68) dX8_isHidden_68 rfl (lv_at hl 3 rfl) ?_
                refine z_imul F (pc := 69) dX8_isHidden_69 ?_
                refine z_iload F (pc := 70) dX8_isHidden_70 (lv_at hl 0 rfl) ?_
                refine z_iadd F (pc := 72) dX8_isHidden_72 ?_
                refine z_iald F (pc := 73) hK hW 20 rfl (by decide) dX8_isHidden_73 (by omega) ?_
                refine z_aloadn F (pc := 74) dX8_isHidden_74 rfl (lv_at hl 2 rfl) ?_
                refine z_get F (pc := 75) (C := RX8) (T := TX8) (N := 32) (ci := 8) inX8 hK hW 0 26 rfl rfl (by decide) rfl (List.mem_of_getElem? (i := 3) rfl) (v := .ref (aR 20)) rfl dX8_isHidden_75 ?_
                refine z_iconst F (pc := 78) (4) dX8_isHidden_78 ?_
                refine z_iloadn F (pc := 79) dX8_isHidden_79 rfl (lv_at hl 4 rfl) ?_
                refine z_imul F (pc := 80) dX8_isHidden_80 ?_
                refine z_iload F (pc := 81) dX8_isHidden_81 (lv_at hl 0 rfl) ?_
                refine z_iadd F (pc := 83) dX8_isHidden_83 ?_
                refine z_iald F (pc := 84) hK hW 20 rfl (by decide) dX8_isHidden_84 (by omega) ?_
                refine z_icmp_ne F (pc := 85) 92 dX8_isHidden_85 (by decide) (by omega) (fun c_85 => ?_) (fun c_85 => ?_)
                · skip
                  have hst : zB 0 ((¬ k = d9 ∧ cl k = cl d9 ∧ (cx d9 = cx k ∨ cx d9 = 0)) ∧ ∀ i, 0 ≤ i → i < j + 1 → ll (4 * k + i) = ll (4 * d9 + i)) := zB_0 (fun q => by have := q.2 j g1.1 (by omega); omega)
                  refine z_iconst F (pc := 92) (0) dX8_isHidden_92 ?_
                  refine z_istoren F (pc := 93) hl (lv' := [(3, .int (iI 0)), (4, .int (iI j)), (0, .ref (aR 0)), (1, .int (iI k)), (2, .int (iI d9))]) dX8_isHidden_93 rfl (by decide) rfl (fun ls hl => ?_)
                  refine z_iinc F (pc := 94) hl (lv' := [(4, .int (iI (j + 1))), (3, .int (iI 0)), (0, .ref (aR 0)), (1, .int (iI k)), (2, .int (iI d9))]) dX8_isHidden_94 (k := 1) rfl (by decide) rfl (fun ls hl => ?_)
                  refine z_goto F (pc := 97) 53 dX8_isHidden_97 (by decide) ?_
                  exact ih_53 0 (j + 1) _ _ _ (by omega) (by omega) (by exact hst) (by omega) (lv_sub hl [0, 1, 2, 3, 4] rfl) hW
                · skip
                  have hst : zB 1 ((¬ k = d9 ∧ cl k = cl d9 ∧ (cx d9 = cx k ∨ cx d9 = 0)) ∧ ∀ i, 0 ≤ i → i < j + 1 → ll (4 * k + i) = ll (4 * d9 + i)) := zB_1 ⟨hq.1, fun i i0 i1 => by (by_cases q : i = j) <;> first | (rw [q]; omega) | exact hq.2 i i0 (by omega)⟩
                  refine z_iconst F (pc := 88) (1) dX8_isHidden_88 ?_
                  refine z_goto F (pc := 89) 93 dX8_isHidden_89 (by decide) ?_
                  refine z_istoren F (pc := 93) hl (lv' := [(3, .int (iI 1)), (4, .int (iI j)), (0, .ref (aR 0)), (1, .int (iI k)), (2, .int (iI d9))]) dX8_isHidden_93 rfl (by decide) rfl (fun ls hl => ?_)
                  refine z_iinc F (pc := 94) hl (lv' := [(4, .int (iI (j + 1))), (3, .int (iI 1)), (0, .ref (aR 0)), (1, .int (iI k)), (2, .int (iI d9))]) dX8_isHidden_94 (k := 1) rfl (by decide) rfl (fun ls hl => ?_)
                  refine z_goto F (pc := 97) 53 dX8_isHidden_97 (by decide) ?_
                  exact ih_53 1 (j + 1) _ _ _ (by omega) (by omega) (by exact hst) (by omega) (lv_sub hl [0, 1, 2, 3, 4] rfl) hW
        exact cut_53 _ 1 0 _ _ _ (Nat.lt_succ_self _) (by omega) (by first | exact zB_1 ⟨by omega, fun i i0 i1 => by omega⟩ | exact zB_0 (fun q => by have := q.1; omega)) (by omega) (lv_sub hl [0, 1, 2, 3, 4] rfl) hW
      · skip
        refine z_aloadn F (pc := 35) dX8_isHidden_35 rfl (lv_at hl 0 rfl) ?_
        refine z_get F (pc := 36) (C := RX8) (T := TX8) (N := 32) (ci := 8) inX8 hK hW 0 23 rfl rfl (by decide) rfl (List.mem_of_getElem? (i := 2) rfl) (v := .ref (aR 17)) rfl dX8_isHidden_36 ?_
        refine z_iloadn F (pc := 39) dX8_isHidden_39 rfl (lv_at hl 2 rfl) ?_
        refine z_iald F (pc := 40) hK hW 17 rfl (by decide) dX8_isHidden_40 (by omega) ?_
        refine z_if_ne F (pc := 41) 48 dX8_isHidden_41 (by decide) (by omega) (fun c_41 => ?_) (fun c_41 => ?_)
        · skip
          refine z_iconst F (pc := 48) (0) dX8_isHidden_48 ?_
          refine z_istoren F (pc := 49) hl (lv' := [(3, .int (iI 0)), (0, .ref (aR 0)), (1, .int (iI k)), (2, .int (iI d9))]) dX8_isHidden_49 rfl (by decide) rfl (fun ls hl => ?_)
          refine z_iconst F (pc := 50) (0) dX8_isHidden_50 ?_
          refine z_istore F (pc := 51) hl (lv' := [(4, .int (iI 0)), (3, .int (iI 0)), (0, .ref (aR 0)), (1, .int (iI k)), (2, .int (iI d9))]) dX8_isHidden_51 (by decide) rfl (fun ls hl => ?_)
          have cut_53 : ∀ (fuel : Nat) (q3 : Int) (j : Int) (H : Heap) (locs : List Loc) (ls : Array Slot), (4 - j).toNat < fuel → (0 ≤ j ∧ j ≤ 4) → (zB q3 ((¬ k = d9 ∧ cl k = cl d9 ∧ (cx d9 = cx k ∨ cx d9 = 0)) ∧ ∀ i, 0 ≤ i → i < j → ll (4 * k + i) = ll (4 * d9 + i))) → (q3 = 0 ∨ q3 = 1) → lv_has ls 5 [(4, .int (iI j)), (3, .int (iI q3)), (0, .ref (aR 0)), (1, .int (iI k)), (2, .int (iI d9))] → zW D A s.heap H locs (wR cI cZ aR xs ys lf ev nm lb kd pt so nu al ak ap he le rw cx cr cl ll tl ts tc sz mn ac en mg ln cn wc wp) → W p l e ({ frames := 0, cells := 0, slots := 0, locals := 0 } : Room) s m ([.ref (aR 0), .int (iI k), .int (iI d9)] : List Value).toArray below meth c H locs 0 0 Q (F0 m 53 ls []) := by
            intro fuel
            induction fuel with
            | zero => intro q3 j H locs ls hm; exact absurd hm (Nat.not_lt_zero _)
            | succ fuel ih_53 =>
              intro q3 j H locs ls hm_53 g1 g2 g3 hl hW
              refine z_iload F (pc := 53) dX8_isHidden_53 (lv_at hl 0 rfl) ?_
              refine z_iconst F (pc := 55) (4) dX8_isHidden_55 ?_
              refine z_icmp_ge F (pc := 56) 100 dX8_isHidden_56 (by decide) (by omega) (fun c_56 => ?_) (fun c_56 => ?_)
              · skip
                have e4 : j = 4 := by omega
                rw [e4] at g2
                refine z_iloadn F (pc := 100) dX8_isHidden_100 rfl (lv_at hl 1 rfl) ?_
                refine z_if_eq F (pc := 101) 143 dX8_isHidden_101 (by decide) (by omega) (fun c_101 => ?_) (fun c_101 => ?_)
                · skip
                  refine z_iconst F (pc := 143) (0) dX8_isHidden_143 ?_
                  exact hret _ _ _ _ 0 () dX8_isHidden_144 (by omega) (by exact zB_0 (fun q => zB_f g2 c_101 (hid1_no hc hk hd9 q).1)) hW
                · skip
                  refine z_aloadn F (pc := 104) dX8_isHidden_104 rfl (lv_at hl 2 rfl) ?_
                  refine z_get F (pc := 105) (C := RX8) (T := TX8) (N := 32) (ci := 8) inX8 hK hW 0 24 rfl rfl (by decide) rfl (List.mem_of_getElem? (i := 4) rfl) (v := .ref (aR 18)) rfl dX8_isHidden_105 ?_
                  refine z_iloadn F (pc := 108) dX8_isHidden_108 rfl (lv_at hl 4 rfl) ?_
                  refine z_iald F (pc := 109) hK hW 18 rfl (by decide) dX8_isHidden_109 (by omega) ?_
                  refine z_aloadn F (pc := 110) dX8_isHidden_110 rfl (lv_at hl 2 rfl) ?_
                  refine z_get F (pc := 111) (C := RX8) (T := TX8) (N := 32) (ci := 8) inX8 hK hW 0 24 rfl rfl (by decide) rfl (List.mem_of_getElem? (i := 4) rfl) (v := .ref (aR 18)) rfl dX8_isHidden_111 ?_
                  refine z_iloadn F (pc := 114) dX8_isHidden_114 rfl (lv_at hl 3 rfl) ?_
                  refine z_iald F (pc := 115) hK hW 18 rfl (by decide) dX8_isHidden_115 (by omega) ?_
                  refine z_icmp_gt F (pc := 116) 139 dX8_isHidden_116 (by decide) (by omega) (fun c_116 => ?_) (fun c_116 => ?_)
                  · skip
                    refine z_iconst F (pc := 139) (1) dX8_isHidden_139 ?_
                    refine z_goto F (pc := 140) 144 dX8_isHidden_140 (by decide) ?_
                    exact hret _ _ _ _ 1 () dX8_isHidden_144 (by omega) (by exact zB_1 (hid1_yes hc hd9 (zB_t g2 c_101) (by omega))) hW
                  · skip
                    refine z_aloadn F (pc := 119) dX8_isHidden_119 rfl (lv_at hl 2 rfl) ?_
                    refine z_get F (pc := 120) (C := RX8) (T := TX8) (N := 32) (ci := 8) inX8 hK hW 0 24 rfl rfl (by decide) rfl (List.mem_of_getElem? (i := 4) rfl) (v := .ref (aR 18)) rfl dX8_isHidden_120 ?_
                    refine z_iloadn F (pc := 123) dX8_isHidden_123 rfl (lv_at hl 4 rfl) ?_
                    refine z_iald F (pc := 124) hK hW 18 rfl (by decide) dX8_isHidden_124 (by omega) ?_
                    refine z_aloadn F (pc := 125) dX8_isHidden_125 rfl (lv_at hl 2 rfl) ?_
                    refine z_get F (pc := 126) (C := RX8) (T := TX8) (N := 32) (ci := 8) inX8 hK hW 0 24 rfl rfl (by decide) rfl (List.mem_of_getElem? (i := 4) rfl) (v := .ref (aR 18)) rfl dX8_isHidden_126 ?_
                    refine z_iloadn F (pc := 129) dX8_isHidden_129 rfl (lv_at hl 3 rfl) ?_
                    refine z_iald F (pc := 130) hK hW 18 rfl (by decide) dX8_isHidden_130 (by omega) ?_
                    refine z_icmp_ne F (pc := 131) 143 dX8_isHidden_131 (by decide) (by omega) (fun c_131 => ?_) (fun c_131 => ?_)
                    · skip
                      refine z_iconst F (pc := 143) (0) dX8_isHidden_143 ?_
                      exact hret _ _ _ _ 0 () dX8_isHidden_144 (by omega) (by exact zB_0 (fun q => by have := (hid1_no hc hk hd9 q).2; omega)) hW
                    · skip
                      refine z_iloadn F (pc := 134) dX8_isHidden_134 rfl (lv_at hl 4 rfl) ?_
                      refine z_iloadn F (pc := 135) dX8_isHidden_135 rfl (lv_at hl 3 rfl) ?_
                      refine z_icmp_ge F (pc := 136) 143 dX8_isHidden_136 (by decide) (by omega) (fun c_136 => ?_) (fun c_136 => ?_)
                      · skip
                        refine z_iconst F (pc := 143) (0) dX8_isHidden_143 ?_
                        exact hret _ _ _ _ 0 () dX8_isHidden_144 (by omega) (by exact zB_0 (fun q => by have := (hid1_no hc hk hd9 q).2; omega)) hW
                      · skip
                        refine z_iconst F (pc := 139) (1) dX8_isHidden_139 ?_
                        refine z_goto F (pc := 140) 144 dX8_isHidden_140 (by decide) ?_
                        exact hret _ _ _ _ 1 () dX8_isHidden_144 (by omega) (by exact zB_1 (hid1_yes hc hd9 (zB_t g2 c_101) (by omega))) hW
              · skip
                refine z_iloadn F (pc := 59) dX8_isHidden_59 rfl (lv_at hl 1 rfl) ?_
                refine z_if_eq F (pc := 60) 92 dX8_isHidden_60 (by decide) (by omega) (fun c_60 => ?_) (fun c_60 => ?_)
                · skip
                  have hst : zB 0 ((¬ k = d9 ∧ cl k = cl d9 ∧ (cx d9 = cx k ∨ cx d9 = 0)) ∧ ∀ i, 0 ≤ i → i < j + 1 → ll (4 * k + i) = ll (4 * d9 + i)) := zB_0 (fun q => zB_f g2 c_60 ⟨q.1, fun i i0 i1 => q.2 i i0 (by omega)⟩)
                  refine z_iconst F (pc := 92) (0) dX8_isHidden_92 ?_
                  refine z_istoren F (pc := 93) hl (lv' := [(3, .int (iI 0)), (4, .int (iI j)), (0, .ref (aR 0)), (1, .int (iI k)), (2, .int (iI d9))]) dX8_isHidden_93 rfl (by decide) rfl (fun ls hl => ?_)
                  refine z_iinc F (pc := 94) hl (lv' := [(4, .int (iI (j + 1))), (3, .int (iI 0)), (0, .ref (aR 0)), (1, .int (iI k)), (2, .int (iI d9))]) dX8_isHidden_94 (k := 1) rfl (by decide) rfl (fun ls hl => ?_)
                  refine z_goto F (pc := 97) 53 dX8_isHidden_97 (by decide) ?_
                  exact ih_53 0 (j + 1) _ _ _ (by omega) (by omega) (by exact hst) (by omega) (lv_sub hl [0, 1, 2, 3, 4] rfl) hW
                · skip
                  have hq := zB_t g2 c_60
                  have hva := Cok_l hc hk.1 hk.2 g1.1 (show j < 4 by omega)
                  have hvb := Cok_l hc hd9.1 hd9.2 g1.1 (show j < 4 by omega)
                  refine z_aloadn F (pc := 63) dX8_isHidden_63 rfl (lv_at hl 2 rfl) ?_
                  refine z_get F (pc := 64) (C := RX8) (T := TX8) (N := 32) (ci := 8) inX8 hK hW 0 26 rfl rfl (by decide) rfl (List.mem_of_getElem? (i := 3) rfl) (v := .ref (aR 20)) rfl dX8_isHidden_64 ?_
                  refine z_iconst F (pc := 67) (4) dX8_isHidden_67 ?_
                  refine z_iloadn F (pc := 68) dX8_isHidden_68 rfl (lv_at hl 3 rfl) ?_
                  refine z_imul F (pc := 69) dX8_isHidden_69 ?_
                  refine z_iload F (pc := 70) dX8_isHidden_70 (lv_at hl 0 rfl) ?_
                  refine z_iadd F (pc := 72) dX8_isHidden_72 ?_
                  refine z_iald F (pc := 73) hK hW 20 rfl (by decide) dX8_isHidden_73 (by omega) ?_
                  refine z_aloadn F (pc := 74) dX8_isHidden_74 rfl (lv_at hl 2 rfl) ?_
                  refine z_get F (pc := 75) (C := RX8) (T := TX8) (N := 32) (ci := 8) inX8 hK hW 0 26 rfl rfl (by decide) rfl (List.mem_of_getElem? (i := 3) rfl) (v := .ref (aR 20)) rfl dX8_isHidden_75 ?_
                  refine z_iconst F (pc := 78) (4) dX8_isHidden_78 ?_
                  refine z_iloadn F (pc := 79) dX8_isHidden_79 rfl (lv_at hl 4 rfl) ?_
                  refine z_imul F (pc := 80) dX8_isHidden_80 ?_
                  refine z_iload F (pc := 81) dX8_isHidden_81 (lv_at hl 0 rfl) ?_
                  refine z_iadd F (pc := 83) dX8_isHidden_83 ?_
                  refine z_iald F (pc := 84) hK hW 20 rfl (by decide) dX8_isHidden_84 (by omega) ?_
                  refine z_icmp_ne F (pc := 85) 92 dX8_isHidden_85 (by decide) (by omega) (fun c_85 => ?_) (fun c_85 => ?_)
                  · skip
                    have hst : zB 0 ((¬ k = d9 ∧ cl k = cl d9 ∧ (cx d9 = cx k ∨ cx d9 = 0)) ∧ ∀ i, 0 ≤ i → i < j + 1 → ll (4 * k + i) = ll (4 * d9 + i)) := zB_0 (fun q => by have := q.2 j g1.1 (by omega); omega)
                    refine z_iconst F (pc := 92) (0) dX8_isHidden_92 ?_
                    refine z_istoren F (pc := 93) hl (lv' := [(3, .int (iI 0)), (4, .int (iI j)), (0, .ref (aR 0)), (1, .int (iI k)), (2, .int (iI d9))]) dX8_isHidden_93 rfl (by decide) rfl (fun ls hl => ?_)
                    refine z_iinc F (pc := 94) hl (lv' := [(4, .int (iI (j + 1))), (3, .int (iI 0)), (0, .ref (aR 0)), (1, .int (iI k)), (2, .int (iI d9))]) dX8_isHidden_94 (k := 1) rfl (by decide) rfl (fun ls hl => ?_)
                    refine z_goto F (pc := 97) 53 dX8_isHidden_97 (by decide) ?_
                    exact ih_53 0 (j + 1) _ _ _ (by omega) (by omega) (by exact hst) (by omega) (lv_sub hl [0, 1, 2, 3, 4] rfl) hW
                  · skip
                    have hst : zB 1 ((¬ k = d9 ∧ cl k = cl d9 ∧ (cx d9 = cx k ∨ cx d9 = 0)) ∧ ∀ i, 0 ≤ i → i < j + 1 → ll (4 * k + i) = ll (4 * d9 + i)) := zB_1 ⟨hq.1, fun i i0 i1 => by (by_cases q : i = j) <;> first | (rw [q]; omega) | exact hq.2 i i0 (by omega)⟩
                    refine z_iconst F (pc := 88) (1) dX8_isHidden_88 ?_
                    refine z_goto F (pc := 89) 93 dX8_isHidden_89 (by decide) ?_
                    refine z_istoren F (pc := 93) hl (lv' := [(3, .int (iI 1)), (4, .int (iI j)), (0, .ref (aR 0)), (1, .int (iI k)), (2, .int (iI d9))]) dX8_isHidden_93 rfl (by decide) rfl (fun ls hl => ?_)
                    refine z_iinc F (pc := 94) hl (lv' := [(4, .int (iI (j + 1))), (3, .int (iI 1)), (0, .ref (aR 0)), (1, .int (iI k)), (2, .int (iI d9))]) dX8_isHidden_94 (k := 1) rfl (by decide) rfl (fun ls hl => ?_)
                    refine z_goto F (pc := 97) 53 dX8_isHidden_97 (by decide) ?_
                    exact ih_53 1 (j + 1) _ _ _ (by omega) (by omega) (by exact hst) (by omega) (lv_sub hl [0, 1, 2, 3, 4] rfl) hW
          exact cut_53 _ 0 0 _ _ _ (Nat.lt_succ_self _) (by omega) (by first | exact zB_1 ⟨by omega, fun i i0 i1 => by omega⟩ | exact zB_0 (fun q => by have := q.1; omega)) (by omega) (lv_sub hl [0, 1, 2, 3, 4] rfl) hW
        · skip
          refine z_iconst F (pc := 44) (1) dX8_isHidden_44 ?_
          refine z_goto F (pc := 45) 49 dX8_isHidden_45 (by decide) ?_
          refine z_istoren F (pc := 49) hl (lv' := [(3, .int (iI 1)), (0, .ref (aR 0)), (1, .int (iI k)), (2, .int (iI d9))]) dX8_isHidden_49 rfl (by decide) rfl (fun ls hl => ?_)
          refine z_iconst F (pc := 50) (0) dX8_isHidden_50 ?_
          refine z_istore F (pc := 51) hl (lv' := [(4, .int (iI 0)), (3, .int (iI 1)), (0, .ref (aR 0)), (1, .int (iI k)), (2, .int (iI d9))]) dX8_isHidden_51 (by decide) rfl (fun ls hl => ?_)
          have cut_53 : ∀ (fuel : Nat) (q3 : Int) (j : Int) (H : Heap) (locs : List Loc) (ls : Array Slot), (4 - j).toNat < fuel → (0 ≤ j ∧ j ≤ 4) → (zB q3 ((¬ k = d9 ∧ cl k = cl d9 ∧ (cx d9 = cx k ∨ cx d9 = 0)) ∧ ∀ i, 0 ≤ i → i < j → ll (4 * k + i) = ll (4 * d9 + i))) → (q3 = 0 ∨ q3 = 1) → lv_has ls 5 [(4, .int (iI j)), (3, .int (iI q3)), (0, .ref (aR 0)), (1, .int (iI k)), (2, .int (iI d9))] → zW D A s.heap H locs (wR cI cZ aR xs ys lf ev nm lb kd pt so nu al ak ap he le rw cx cr cl ll tl ts tc sz mn ac en mg ln cn wc wp) → W p l e ({ frames := 0, cells := 0, slots := 0, locals := 0 } : Room) s m ([.ref (aR 0), .int (iI k), .int (iI d9)] : List Value).toArray below meth c H locs 0 0 Q (F0 m 53 ls []) := by
            intro fuel
            induction fuel with
            | zero => intro q3 j H locs ls hm; exact absurd hm (Nat.not_lt_zero _)
            | succ fuel ih_53 =>
              intro q3 j H locs ls hm_53 g1 g2 g3 hl hW
              refine z_iload F (pc := 53) dX8_isHidden_53 (lv_at hl 0 rfl) ?_
              refine z_iconst F (pc := 55) (4) dX8_isHidden_55 ?_
              refine z_icmp_ge F (pc := 56) 100 dX8_isHidden_56 (by decide) (by omega) (fun c_56 => ?_) (fun c_56 => ?_)
              · skip
                have e4 : j = 4 := by omega
                rw [e4] at g2
                refine z_iloadn F (pc := 100) dX8_isHidden_100 rfl (lv_at hl 1 rfl) ?_
                refine z_if_eq F (pc := 101) 143 dX8_isHidden_101 (by decide) (by omega) (fun c_101 => ?_) (fun c_101 => ?_)
                · skip
                  refine z_iconst F (pc := 143) (0) dX8_isHidden_143 ?_
                  exact hret _ _ _ _ 0 () dX8_isHidden_144 (by omega) (by exact zB_0 (fun q => zB_f g2 c_101 (hid1_no hc hk hd9 q).1)) hW
                · skip
                  refine z_aloadn F (pc := 104) dX8_isHidden_104 rfl (lv_at hl 2 rfl) ?_
                  refine z_get F (pc := 105) (C := RX8) (T := TX8) (N := 32) (ci := 8) inX8 hK hW 0 24 rfl rfl (by decide) rfl (List.mem_of_getElem? (i := 4) rfl) (v := .ref (aR 18)) rfl dX8_isHidden_105 ?_
                  refine z_iloadn F (pc := 108) dX8_isHidden_108 rfl (lv_at hl 4 rfl) ?_
                  refine z_iald F (pc := 109) hK hW 18 rfl (by decide) dX8_isHidden_109 (by omega) ?_
                  refine z_aloadn F (pc := 110) dX8_isHidden_110 rfl (lv_at hl 2 rfl) ?_
                  refine z_get F (pc := 111) (C := RX8) (T := TX8) (N := 32) (ci := 8) inX8 hK hW 0 24 rfl rfl (by decide) rfl (List.mem_of_getElem? (i := 4) rfl) (v := .ref (aR 18)) rfl dX8_isHidden_111 ?_
                  refine z_iloadn F (pc := 114) dX8_isHidden_114 rfl (lv_at hl 3 rfl) ?_
                  refine z_iald F (pc := 115) hK hW 18 rfl (by decide) dX8_isHidden_115 (by omega) ?_
                  refine z_icmp_gt F (pc := 116) 139 dX8_isHidden_116 (by decide) (by omega) (fun c_116 => ?_) (fun c_116 => ?_)
                  · skip
                    refine z_iconst F (pc := 139) (1) dX8_isHidden_139 ?_
                    refine z_goto F (pc := 140) 144 dX8_isHidden_140 (by decide) ?_
                    exact hret _ _ _ _ 1 () dX8_isHidden_144 (by omega) (by exact zB_1 (hid1_yes hc hd9 (zB_t g2 c_101) (by omega))) hW
                  · skip
                    refine z_aloadn F (pc := 119) dX8_isHidden_119 rfl (lv_at hl 2 rfl) ?_
                    refine z_get F (pc := 120) (C := RX8) (T := TX8) (N := 32) (ci := 8) inX8 hK hW 0 24 rfl rfl (by decide) rfl (List.mem_of_getElem? (i := 4) rfl) (v := .ref (aR 18)) rfl dX8_isHidden_120 ?_
                    refine z_iloadn F (pc := 123) dX8_isHidden_123 rfl (lv_at hl 4 rfl) ?_
                    refine z_iald F (pc := 124) hK hW 18 rfl (by decide) dX8_isHidden_124 (by omega) ?_
                    refine z_aloadn F (pc := 125) dX8_isHidden_125 rfl (lv_at hl 2 rfl) ?_
                    refine z_get F (pc := 126) (C := RX8) (T := TX8) (N := 32) (ci := 8) inX8 hK hW 0 24 rfl rfl (by decide) rfl (List.mem_of_getElem? (i := 4) rfl) (v := .ref (aR 18)) rfl dX8_isHidden_126 ?_
                    refine z_iloadn F (pc := 129) dX8_isHidden_129 rfl (lv_at hl 3 rfl) ?_
                    refine z_iald F (pc := 130) hK hW 18 rfl (by decide) dX8_isHidden_130 (by omega) ?_
                    refine z_icmp_ne F (pc := 131) 143 dX8_isHidden_131 (by decide) (by omega) (fun c_131 => ?_) (fun c_131 => ?_)
                    · skip
                      refine z_iconst F (pc := 143) (0) dX8_isHidden_143 ?_
                      exact hret _ _ _ _ 0 () dX8_isHidden_144 (by omega) (by exact zB_0 (fun q => by have := (hid1_no hc hk hd9 q).2; omega)) hW
                    · skip
                      refine z_iloadn F (pc := 134) dX8_isHidden_134 rfl (lv_at hl 4 rfl) ?_
                      refine z_iloadn F (pc := 135) dX8_isHidden_135 rfl (lv_at hl 3 rfl) ?_
                      refine z_icmp_ge F (pc := 136) 143 dX8_isHidden_136 (by decide) (by omega) (fun c_136 => ?_) (fun c_136 => ?_)
                      · skip
                        refine z_iconst F (pc := 143) (0) dX8_isHidden_143 ?_
                        exact hret _ _ _ _ 0 () dX8_isHidden_144 (by omega) (by exact zB_0 (fun q => by have := (hid1_no hc hk hd9 q).2; omega)) hW
                      · skip
                        refine z_iconst F (pc := 139) (1) dX8_isHidden_139 ?_
                        refine z_goto F (pc := 140) 144 dX8_isHidden_140 (by decide) ?_
                        exact hret _ _ _ _ 1 () dX8_isHidden_144 (by omega) (by exact zB_1 (hid1_yes hc hd9 (zB_t g2 c_101) (by omega))) hW
              · skip
                refine z_iloadn F (pc := 59) dX8_isHidden_59 rfl (lv_at hl 1 rfl) ?_
                refine z_if_eq F (pc := 60) 92 dX8_isHidden_60 (by decide) (by omega) (fun c_60 => ?_) (fun c_60 => ?_)
                · skip
                  have hst : zB 0 ((¬ k = d9 ∧ cl k = cl d9 ∧ (cx d9 = cx k ∨ cx d9 = 0)) ∧ ∀ i, 0 ≤ i → i < j + 1 → ll (4 * k + i) = ll (4 * d9 + i)) := zB_0 (fun q => zB_f g2 c_60 ⟨q.1, fun i i0 i1 => q.2 i i0 (by omega)⟩)
                  refine z_iconst F (pc := 92) (0) dX8_isHidden_92 ?_
                  refine z_istoren F (pc := 93) hl (lv' := [(3, .int (iI 0)), (4, .int (iI j)), (0, .ref (aR 0)), (1, .int (iI k)), (2, .int (iI d9))]) dX8_isHidden_93 rfl (by decide) rfl (fun ls hl => ?_)
                  refine z_iinc F (pc := 94) hl (lv' := [(4, .int (iI (j + 1))), (3, .int (iI 0)), (0, .ref (aR 0)), (1, .int (iI k)), (2, .int (iI d9))]) dX8_isHidden_94 (k := 1) rfl (by decide) rfl (fun ls hl => ?_)
                  refine z_goto F (pc := 97) 53 dX8_isHidden_97 (by decide) ?_
                  exact ih_53 0 (j + 1) _ _ _ (by omega) (by omega) (by exact hst) (by omega) (lv_sub hl [0, 1, 2, 3, 4] rfl) hW
                · skip
                  have hq := zB_t g2 c_60
                  have hva := Cok_l hc hk.1 hk.2 g1.1 (show j < 4 by omega)
                  have hvb := Cok_l hc hd9.1 hd9.2 g1.1 (show j < 4 by omega)
                  refine z_aloadn F (pc := 63) dX8_isHidden_63 rfl (lv_at hl 2 rfl) ?_
                  refine z_get F (pc := 64) (C := RX8) (T := TX8) (N := 32) (ci := 8) inX8 hK hW 0 26 rfl rfl (by decide) rfl (List.mem_of_getElem? (i := 3) rfl) (v := .ref (aR 20)) rfl dX8_isHidden_64 ?_
                  refine z_iconst F (pc := 67) (4) dX8_isHidden_67 ?_
                  refine z_iloadn F (pc := 68) dX8_isHidden_68 rfl (lv_at hl 3 rfl) ?_
                  refine z_imul F (pc := 69) dX8_isHidden_69 ?_
                  refine z_iload F (pc := 70) dX8_isHidden_70 (lv_at hl 0 rfl) ?_
                  refine z_iadd F (pc := 72) dX8_isHidden_72 ?_
                  refine z_iald F (pc := 73) hK hW 20 rfl (by decide) dX8_isHidden_73 (by omega) ?_
                  refine z_aloadn F (pc := 74) dX8_isHidden_74 rfl (lv_at hl 2 rfl) ?_
                  refine z_get F (pc := 75) (C := RX8) (T := TX8) (N := 32) (ci := 8) inX8 hK hW 0 26 rfl rfl (by decide) rfl (List.mem_of_getElem? (i := 3) rfl) (v := .ref (aR 20)) rfl dX8_isHidden_75 ?_
                  refine z_iconst F (pc := 78) (4) dX8_isHidden_78 ?_
                  refine z_iloadn F (pc := 79) dX8_isHidden_79 rfl (lv_at hl 4 rfl) ?_
                  refine z_imul F (pc := 80) dX8_isHidden_80 ?_
                  refine z_iload F (pc := 81) dX8_isHidden_81 (lv_at hl 0 rfl) ?_
                  refine z_iadd F (pc := 83) dX8_isHidden_83 ?_
                  refine z_iald F (pc := 84) hK hW 20 rfl (by decide) dX8_isHidden_84 (by omega) ?_
                  refine z_icmp_ne F (pc := 85) 92 dX8_isHidden_85 (by decide) (by omega) (fun c_85 => ?_) (fun c_85 => ?_)
                  · skip
                    have hst : zB 0 ((¬ k = d9 ∧ cl k = cl d9 ∧ (cx d9 = cx k ∨ cx d9 = 0)) ∧ ∀ i, 0 ≤ i → i < j + 1 → ll (4 * k + i) = ll (4 * d9 + i)) := zB_0 (fun q => by have := q.2 j g1.1 (by omega); omega)
                    refine z_iconst F (pc := 92) (0) dX8_isHidden_92 ?_
                    refine z_istoren F (pc := 93) hl (lv' := [(3, .int (iI 0)), (4, .int (iI j)), (0, .ref (aR 0)), (1, .int (iI k)), (2, .int (iI d9))]) dX8_isHidden_93 rfl (by decide) rfl (fun ls hl => ?_)
                    refine z_iinc F (pc := 94) hl (lv' := [(4, .int (iI (j + 1))), (3, .int (iI 0)), (0, .ref (aR 0)), (1, .int (iI k)), (2, .int (iI d9))]) dX8_isHidden_94 (k := 1) rfl (by decide) rfl (fun ls hl => ?_)
                    refine z_goto F (pc := 97) 53 dX8_isHidden_97 (by decide) ?_
                    exact ih_53 0 (j + 1) _ _ _ (by omega) (by omega) (by exact hst) (by omega) (lv_sub hl [0, 1, 2, 3, 4] rfl) hW
                  · skip
                    have hst : zB 1 ((¬ k = d9 ∧ cl k = cl d9 ∧ (cx d9 = cx k ∨ cx d9 = 0)) ∧ ∀ i, 0 ≤ i → i < j + 1 → ll (4 * k + i) = ll (4 * d9 + i)) := zB_1 ⟨hq.1, fun i i0 i1 => by (by_cases q : i = j) <;> first | (rw [q]; omega) | exact hq.2 i i0 (by omega)⟩
                    refine z_iconst F (pc := 88) (1) dX8_isHidden_88 ?_
                    refine z_goto F (pc := 89) 93 dX8_isHidden_89 (by decide) ?_
                    refine z_istoren F (pc := 93) hl (lv' := [(3, .int (iI 1)), (4, .int (iI j)), (0, .ref (aR 0)), (1, .int (iI k)), (2, .int (iI d9))]) dX8_isHidden_93 rfl (by decide) rfl (fun ls hl => ?_)
                    refine z_iinc F (pc := 94) hl (lv' := [(4, .int (iI (j + 1))), (3, .int (iI 1)), (0, .ref (aR 0)), (1, .int (iI k)), (2, .int (iI d9))]) dX8_isHidden_94 (k := 1) rfl (by decide) rfl (fun ls hl => ?_)
                    refine z_goto F (pc := 97) 53 dX8_isHidden_97 (by decide) ?_
                    exact ih_53 1 (j + 1) _ _ _ (by omega) (by omega) (by exact hst) (by omega) (lv_sub hl [0, 1, 2, 3, 4] rfl) hW
          exact cut_53 _ 1 0 _ _ _ (Nat.lt_succ_self _) (by omega) (by first | exact zB_1 ⟨by omega, fun i i0 i1 => by omega⟩ | exact zB_0 (fun q => by have := q.1; omega)) (by omega) (lv_sub hl [0, 1, 2, 3, 4] rfl) hW

set_option maxHeartbeats 4000000 in
set_option maxRecDepth 100000 in
theorem c_X8_hidden (l : Launch) (D : va_G) (cI cZ : ClassId) (aR : Nat → Nat) (xs ys lf ev nm lb kd pt so nu al ak ap he le rw cx cr cl ll tl ts tc : Int → Int) (sz mn ac en mg ln cn wc wp : Int) (sz0 : Nat) (hc : Cok cx cr cl ll cn) : Met l yX8_hidden wsX8_hidden ({ frames := 1, cells := 0, slots := 0, locals := 24 } : Room) (zPc D cI cZ [.ref (aR 0)] (wR cI cZ aR xs ys lf ev nm lb kd pt so nu al ak ap he le rw cx cr cl ll tl ts tc sz mn ac en mg ln cn wc wp) sz0) (zQi D cI cZ (wR cI cZ aR xs ys lf ev nm lb kd pt so nu al ak ap he le rw cx cr cl ll tl ts tc sz mn ac en mg ln cn wc wp) sz0 (fun (r : Int) (u : Unit) => hidR cx cr cl ll cn r) (fun (u : Unit) => wR cI cZ aR xs ys lf ev nm lb kd pt so nu al ak ap he le rw cx cr cl ll tl ts tc sz mn ac en mg ln cn wc wp)) 0 0 (va_A (wR cI cZ aR xs ys lf ev nm lb kd pt so nu al ak ap he le rw cx cr cl ll tl ts tc sz mn ac en mg ln cn wc wp) sz0) := by
  have hcn := hc.1
  refine z_ofI (maxL := 3) (plainFor_of_name (by decide)) rfl (Nat.le_of_ble_eq_true rfl) (Or.inl rfl) ?_
  intro p e s m below meth c A ls Q F hK hW hA hl hret
  have hl : lv_has ls 3 [(0, .ref (aR 0))] := hl
  have inX8 : ∀ w ∈ u_ws RX8 TX8 32, w ∈ wsX8_hidden := fun _ h => List.mem_cons_of_mem _ (List.mem_append_right _ h)
  refine z_iconst F (pc := 0) (0) dX8_hidden_0 ?_
  refine z_istoren F (pc := 1) hl (lv' := [(1, .int (iI 0)), (0, .ref (aR 0))]) dX8_hidden_1 rfl (by decide) rfl (fun ls hl => ?_)
  have cut_2 : ∀ (fuel : Nat) (j : Int) (H : Heap) (locs : List Loc) (ls : Array Slot), (cn - j).toNat < fuel → (0 ≤ j ∧ j ≤ cn) → (∀ d, 0 ≤ d → d < j → ¬ hid cx cr cl ll cn d) → lv_has ls 3 [(1, .int (iI j)), (0, .ref (aR 0))] → zW D A s.heap H locs (wR cI cZ aR xs ys lf ev nm lb kd pt so nu al ak ap he le rw cx cr cl ll tl ts tc sz mn ac en mg ln cn wc wp) → W p l e ({ frames := 1, cells := 0, slots := 0, locals := 24 } : Room) s m ([.ref (aR 0)] : List Value).toArray below meth c H locs 0 0 Q (F0 m 2 ls []) := by
    intro fuel
    induction fuel with
    | zero => intro j H locs ls hm; exact absurd hm (Nat.not_lt_zero _)
    | succ fuel ih_2 =>
      intro j H locs ls hm_2 g1 g2 hl hW
      refine z_iloadn F (pc := 2) dX8_hidden_2 rfl (lv_at hl 0 rfl) ?_
      refine z_aloadn F (pc := 3) dX8_hidden_3 rfl (lv_at hl 1 rfl) ?_
      refine z_get F (pc := 4) (C := RX8) (T := TX8) (N := 32) (ci := 8) inX8 hK hW 0 22 rfl rfl (by decide) rfl (List.mem_of_getElem? (i := 1) rfl) (v := .int (iI cn)) rfl dX8_hidden_4 ?_
      refine z_icmp_ge F (pc := 7) 43 dX8_hidden_7 (by decide) (by omega) (fun c_7 => ?_) (fun c_7 => ?_)
      · skip
        refine z_bipush F (pc := 43) (-4) (by decide +kernel) dX8_hidden_43 ?_
        exact hret _ _ _ _ (-4) () dX8_hidden_45 (by omega) (by exact Or.inl ⟨rfl, fun d d0 d1 => g2 d d0 (by omega)⟩) hW
      · skip
        refine z_iconst F (pc := 10) (0) dX8_hidden_10 ?_
        refine z_istoren F (pc := 11) hl (lv' := [(2, .int (iI 0)), (1, .int (iI j)), (0, .ref (aR 0))]) dX8_hidden_11 rfl (by decide) rfl (fun ls hl => ?_)
        have cut_12 : ∀ (fuel : Nat) (t : Int) (H : Heap) (locs : List Loc) (ls : Array Slot), (cn - t).toNat < fuel → (0 ≤ t ∧ t ≤ cn) → (∀ d, 0 ≤ d → d < t → ¬ hid1 cx cr cl ll j d) → lv_has ls 3 [(2, .int (iI t)), (1, .int (iI j)), (0, .ref (aR 0))] → zW D A s.heap H locs (wR cI cZ aR xs ys lf ev nm lb kd pt so nu al ak ap he le rw cx cr cl ll tl ts tc sz mn ac en mg ln cn wc wp) → W p l e ({ frames := 1, cells := 0, slots := 0, locals := 24 } : Room) s m ([.ref (aR 0)] : List Value).toArray below meth c H locs 0 0 Q (F0 m 12 ls []) := by
          intro fuel
          induction fuel with
          | zero => intro t H locs ls hm; exact absurd hm (Nat.not_lt_zero _)
          | succ fuel ih_12 =>
            intro t H locs ls hm_12 u1 u2 hl hW
            refine z_iloadn F (pc := 12) dX8_hidden_12 rfl (lv_at hl 0 rfl) ?_
            refine z_aloadn F (pc := 13) dX8_hidden_13 rfl (lv_at hl 2 rfl) ?_
            refine z_get F (pc := 14) (C := RX8) (T := TX8) (N := 32) (ci := 8) inX8 hK hW 0 22 rfl rfl (by decide) rfl (List.mem_of_getElem? (i := 1) rfl) (v := .int (iI cn)) rfl dX8_hidden_14 ?_
            refine z_icmp_ge F (pc := 17) 37 dX8_hidden_17 (by decide) (by omega) (fun c_17 => ?_) (fun c_17 => ?_)
            · skip
              refine z_iinc F (pc := 37) hl (lv' := [(1, .int (iI (j + 1))), (2, .int (iI t)), (0, .ref (aR 0))]) dX8_hidden_37 (k := 1) rfl (by decide) rfl (fun ls hl => ?_)
              refine z_goto F (pc := 40) 2 dX8_hidden_40 (by decide) ?_
              exact ih_2 (j + 1) _ _ _ (by omega) (by omega) (by intro d d0 d1; (by_cases q : d = j) <;> first | (rw [q]; exact fun ⟨t9, y1, y2⟩ => u2 t9 y1.1 (by omega) y2) | exact g2 d d0 (by omega)) (lv_sub hl [0, 2] rfl) hW
            · skip
              refine z_aloadn F (pc := 20) dX8_hidden_20 rfl (lv_at hl 2 rfl) ?_
              refine z_iloadn F (pc := 21) dX8_hidden_21 rfl (lv_at hl 1 rfl) ?_
              refine z_iloadn F (pc := 22) dX8_hidden_22 rfl (lv_at hl 0 rfl) ?_
              refine z_callVi F (pc := 23) hK hW hA (As := [.int (iI j), .int (iI t)]) (rest := []) (ws' := fun (u : Unit) => wR cI cZ aR xs ys lf ev nm lb kd pt so nu al ak ap he le rw cx cr cl ll tl ts tc sz mn ac en mg ln cn wc wp) (wr := ([])) (c_X8_isHidden l D cI cZ aR xs ys lf ev nm lb kd pt so nu al ak ap he le rw cx cr cl ll tl ts tc sz mn ac en mg ln cn wc wp j t _ (by omega) (by omega) (by exact hc) (by omega) (by omega)) (cwV 2 F.2.2.2.2 gX8_hidden_X8_isHidden rfl rfl rfl (by decide +kernel) ⟨Nat.le_of_ble_eq_true rfl, Nat.le_of_ble_eq_true rfl⟩) [0, 1, 2, 3, 4, 5, 6, 7, 8, 9, 10, 11, 12, 13, 14, 15, 16, 17, 18, 19, 20, 21, 22, 23] [] [0, 1, 2, 3, 4, 5, 6, 7, 8, 9, 10, 11, 12, 13, 14, 15, 16, 17, 18, 19, 20, 21, 22, 23] rfl rfl (by decide) (by decide) (by decide) (fun _ => rfl) (by decide) (q0 := 0) (ci := 8) rfl rfl rfl rfl rfl hl.1 (Nat.le_of_ble_eq_true rfl) dX8_hidden_23 ⟨Nat.le_of_ble_eq_true rfl, Nat.le_of_ble_eq_true rfl⟩ (fun z_23 u H locs r_z_23 hp_23 hW => ?_)
              refine z_if_eq F (pc := 26) 31 dX8_hidden_26 (by decide) (by omega) (fun c_26 => ?_) (fun c_26 => ?_)
              · skip
                have b_26 := zB_f hp_23 c_26
                refine z_iinc F (pc := 31) hl (lv' := [(2, .int (iI (t + 1))), (1, .int (iI j)), (0, .ref (aR 0))]) dX8_hidden_31 (k := 0) rfl (by decide) rfl (fun ls hl => ?_)
                refine z_goto F (pc := 34) 12 dX8_hidden_34 (by decide) ?_
                exact ih_12 (t + 1) _ _ _ (by omega) (by omega) (by intro d d0 d1; (by_cases q : d = t) <;> first | (rw [q]; exact b_26) | exact u2 d d0 (by omega)) (lv_sub hl [0, 1, 2] rfl) hW
              · skip
                have b_26 := zB_t hp_23 c_26
                refine z_iloadn F (pc := 29) dX8_hidden_29 rfl (lv_at hl 1 rfl) ?_
                exact hret _ _ _ _ j () dX8_hidden_30 (by omega) (by exact Or.inr ⟨⟨g1.1, by omega⟩, ⟨t, ⟨u1.1, by omega⟩, b_26⟩, g2⟩) hW
        exact cut_12 _ 0 _ _ _ (Nat.lt_succ_self _) (by omega) (by intro d d0 d1; omega) (lv_sub hl [0, 1, 2] rfl) hW
  exact cut_2 _ 0 _ _ _ (Nat.lt_succ_self _) (by omega) (by intro d d0 d1; omega) (lv_sub hl [0, 1] rfl) hW

set_option maxHeartbeats 4000000 in
set_option maxRecDepth 100000 in
theorem c_X8_line (l : Launch) (D : va_G) (cI cZ : ClassId) (aR : Nat → Nat) (xs ys lf ev nm lb kd pt so nu al ak ap he le rw cx cr cl ll tl ts tc : Int → Int) (sz mn ac en mg ln cn wc wp : Int) (i : Int) (sz0 : Nat) (r_i : (-2147483648 ≤ i ∧ i < 2147483648)) (hr : Rok rw ln) : Met l yX8_line wsX8_line ({ frames := 1, cells := 0, slots := 0, locals := 25 } : Room) (zPc D cI cZ [.ref (aR 0), .int (iI i)] (wR cI cZ aR xs ys lf ev nm lb kd pt so nu al ak ap he le rw cx cr cl ll tl ts tc sz mn ac en mg ln cn wc wp) sz0) (zQi D cI cZ (wR cI cZ aR xs ys lf ev nm lb kd pt so nu al ak ap he le rw cx cr cl ll tl ts tc sz mn ac en mg ln cn wc wp) sz0 (fun (r : Int) (u : Unit) => lineR rw ln i r) (fun (u : Unit) => wR cI cZ aR xs ys lf ev nm lb kd pt so nu al ak ap he le rw cx cr cl ll tl ts tc sz mn ac en mg ln cn wc wp)) 0 0 (va_A (wR cI cZ aR xs ys lf ev nm lb kd pt so nu al ak ap he le rw cx cr cl ll tl ts tc sz mn ac en mg ln cn wc wp) sz0) := by
  have hln := hr.1
  refine z_ofI (maxL := 2) (plainFor_of_name (by decide)) rfl (Nat.le_of_ble_eq_true rfl) (Or.inl rfl) ?_
  intro p e s m below meth c A ls Q F hK hW hA hl hret
  have hl : lv_has ls 2 [(0, .ref (aR 0)), (1, .int (iI i))] := hl
  have inX8 : ∀ w ∈ u_ws RX8 TX8 32, w ∈ wsX8_line := fun _ h => List.mem_cons_of_mem _ (List.mem_append_right _ h)
  refine z_iloadn F (pc := 0) dX8_line_0 rfl (lv_at hl 1 rfl) ?_
  refine z_i2l F (pc := 1) dX8_line_1 (by omega) ?_
  refine z_lconst F (pc := 2) (0) (by decide +kernel) dX8_line_2 ?_
  refine z_aloadn F (pc := 3) dX8_line_3 rfl (lv_at hl 0 rfl) ?_
  refine z_get F (pc := 4) (C := RX8) (T := TX8) (N := 32) (ci := 8) inX8 hK hW 0 20 rfl rfl (by decide) rfl (List.mem_of_getElem? (i := 1) rfl) (v := .int (iI ln)) rfl dX8_line_4 ?_
  refine z_iconst F (pc := 7) (1) dX8_line_7 ?_
  refine z_isub F (pc := 8) dX8_line_8 ?_
  refine z_i2l F (pc := 9) dX8_line_9 (by omega) ?_
  refine z_callSi F (pc := 10) hK hW hA (As := [.long (lI i), .long (lI 0), .long (lI (ln - 1))]) (rest := []) (c_X8_in l D cI cZ i 0 (ln - 1) _ (by omega) (by omega) (by omega)) (va_cwS 3 F.2.2.2.2 gX8_line_X8_in rfl rfl rfl (by decide +kernel) ⟨Nat.le_of_ble_eq_true rfl, Nat.le_of_ble_eq_true rfl⟩) rfl rfl hl.1 (Nat.le_of_ble_eq_true rfl) dX8_line_10 ⟨Nat.le_of_ble_eq_true rfl, Nat.le_of_ble_eq_true rfl⟩ (fun z_10 H locs r_z_10 hp_10 hW => ?_)
  refine z_if_eq F (pc := 13) 25 dX8_line_13 (by decide) (by omega) (fun c_13 => ?_) (fun c_13 => ?_)
  · skip
    have b_13 := zB_f hp_10 c_13
    refine z_iconst F (pc := 25) (-1) dX8_line_25 ?_
    exact hret _ _ _ _ (-1) () dX8_line_26 (by omega) (by first | exact Or.inl ⟨by omega, rfl⟩ | exact Or.inr ⟨by omega, rfl⟩) hW
  · skip
    have b_13 := zB_t hp_10 c_13
    have hvr := Rok_at hr (j := i) (by omega) (by omega)
    refine z_aloadn F (pc := 16) dX8_line_16 rfl (lv_at hl 0 rfl) ?_
    refine z_get F (pc := 17) (C := RX8) (T := TX8) (N := 32) (ci := 8) inX8 hK hW 0 21 rfl rfl (by decide) rfl (List.mem_of_getElem? (i := 2) rfl) (v := .ref (aR 16)) rfl dX8_line_17 ?_
    refine z_iloadn F (pc := 20) dX8_line_20 rfl (lv_at hl 1 rfl) ?_
    refine z_iald F (pc := 21) hK hW 16 rfl (by decide) dX8_line_21 (by omega) ?_
    refine z_goto F (pc := 22) 26 dX8_line_22 (by decide) ?_
    exact hret _ _ _ _ (rw i) () dX8_line_26 (by omega) (by first | exact Or.inl ⟨by omega, rfl⟩ | exact Or.inr ⟨by omega, rfl⟩) hW

set_option maxHeartbeats 4000000 in
set_option maxRecDepth 100000 in
theorem c_X8_wipe (l : Launch) (D : va_G) (cI cZ : ClassId) (aR : Nat → Nat) (xs ys lf ev nm lb kd pt so nu al ak ap he le rw cx cr cl ll tl ts tc : Int → Int) (sz mn ac en mg ln cn wc wp : Int) (sz0 : Nat) (hln : 0 ≤ ln ∧ ln ≤ 40) : Met l yX8_wipe wsX8_wipe ({ frames := 0, cells := 0, slots := 0, locals := 0 } : Room) (zPc D cI cZ [.ref (aR 0)] (wR cI cZ aR xs ys lf ev nm lb kd pt so nu al ak ap he le rw cx cr cl ll tl ts tc sz mn ac en mg ln cn wc wp) sz0) (zQi D cI cZ (wR cI cZ aR xs ys lf ev nm lb kd pt so nu al ak ap he le rw cx cr cl ll tl ts tc sz mn ac en mg ln cn wc wp) sz0 (fun (r : Int) (u : (Int)) => (r = ln) ∧ (u = 0)) (fun (u : (Int)) => wR cI cZ aR xs ys lf ev nm lb kd pt so nu al ak ap he le rw cx cr cl ll tl ts tc sz mn ac en mg u cn wc wp)) 0 0 (va_A (wR cI cZ aR xs ys lf ev nm lb kd pt so nu al ak ap he le rw cx cr cl ll tl ts tc sz mn ac en mg ln cn wc wp) sz0) := by
  refine z_ofI (maxL := 2) (plainFor_of_name (by decide)) rfl (Nat.le_of_ble_eq_true rfl) (Or.inl rfl) ?_
  intro p e s m below meth c A ls Q F hK hW hA hl hret
  have hl : lv_has ls 2 [(0, .ref (aR 0))] := hl
  have inX8 : ∀ w ∈ u_ws RX8 TX8 32, w ∈ wsX8_wipe := fun _ h => List.mem_cons_of_mem _ (List.mem_append_right _ h)
  refine z_aloadn F (pc := 0) dX8_wipe_0 rfl (lv_at hl 0 rfl) ?_
  refine z_get F (pc := 1) (C := RX8) (T := TX8) (N := 32) (ci := 8) inX8 hK hW 0 20 rfl rfl (by decide) rfl (List.mem_of_getElem? (i := 1) rfl) (v := .int (iI ln)) rfl dX8_wipe_1 ?_
  refine z_istoren F (pc := 4) hl (lv' := [(1, .int (iI ln)), (0, .ref (aR 0))]) dX8_wipe_4 rfl (by decide) rfl (fun ls hl => ?_)
  refine z_aloadn F (pc := 5) dX8_wipe_5 rfl (lv_at hl 1 rfl) ?_
  refine z_iconst F (pc := 6) (0) dX8_wipe_6 ?_
  refine z_put F (pc := 7) (C := RX8) (T := TX8) (N := 32) (ci := 8) inX8 tyX8 tyX8_ok nmX8 hK hW (ws' := wR cI cZ aR xs ys lf ev nm lb kd pt so nu al ak ap he le rw cx cr cl ll tl ts tc sz mn ac en mg 0 cn wc wp) 0 20 rfl rfl (by decide) rfl (List.mem_of_getElem? (i := 1) rfl) rfl rfl (Nat.le_of_ble_eq_true rfl) dX8_wipe_7 rfl (fun H locs hW => ?_)
  refine z_iloadn F (pc := 10) dX8_wipe_10 rfl (lv_at hl 0 rfl) ?_
  exact hret _ _ _ _ ln 0 dX8_wipe_11 (by omega) (by exact ⟨rfl, rfl⟩) hW
