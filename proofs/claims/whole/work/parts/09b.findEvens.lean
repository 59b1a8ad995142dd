set_option maxHeartbeats 4000000 in
set_option maxRecDepth 100000 in
theorem c_X8_findEvens (l : Launch) (D : va_G) (cI cZ : ClassId) (aR : Nat → Nat) (xs ys lf ev nm lb kd pt so nu al ak ap he le rw cx cr cl ll tl ts tc : Int → Int) (sz mn ac en mg ln cn wc wp : Int) (sz0 : Nat) (hd : Dok xs ys lf sz) (hw : 0 < wy xs ys lf sz) : Met l yX8_findEvens wsX8_findEvens ({ frames := 3, cells := 0, slots := 0, locals := 63 } : Room) (zPc D cI cZ [.ref (aR 0)] (wR cI cZ aR xs ys lf ev nm lb kd pt so nu al ak ap he le rw cx cr cl ll tl ts tc sz mn ac en mg ln cn wc wp) sz0) (zQv D cI cZ (wR cI cZ aR xs ys lf ev nm lb kd pt so nu al ak ap he le rw cx cr cl ll tl ts tc sz mn ac en mg ln cn wc wp) sz0 (fun (u : (Int → Int)) => Ev xs ys lf sz u) (fun (u : (Int → Int)) => wR cI cZ aR xs ys lf u nm lb kd pt so nu al ak ap he le rw cx cr cl ll tl ts tc sz mn ac en mg ln cn wc wp)) 0 0 (va_A (wR cI cZ aR xs ys lf ev nm lb kd pt so nu al ak ap he le rw cx cr cl ll tl ts tc sz mn ac en mg ln cn wc wp) sz0) := by
  have hs := hd.1
  have hww := wy_r hd (q := sz) (Int.le_refl _)
  have hsz : 1 < sz := by
    by_cases hh : 1 < sz
    · exact hh
    · have := wy_0 xs ys lf (q := sz) (by omega); omega
  refine z_ofV (maxL := 8) (plainFor_of_name (by decide)) rfl (Nat.le_of_ble_eq_true rfl) ?_
  intro p e s m below meth c A ls Q F hK hW hA hl hret
  have hl : lv_has ls 8 [(0, .ref (aR 0))] := hl
  have inX8 : ∀ w ∈ u_ws RX8 TX8 32, w ∈ wsX8_findEvens := fun _ h => List.mem_cons_of_mem _ (List.mem_append_right _ h)
  refine z_aloadn F (pc := 0) dX8_findEvens_0 rfl (lv_at hl 0 rfl) ?_
  refine z_callVi F (pc := 1) hK hW hA (As := []) (rest := []) (ws' := fun (u : Unit) => wR cI cZ aR xs ys lf ev nm lb kd pt so nu al ak ap he le rw cx cr cl ll tl ts tc sz mn ac en mg ln cn wc wp) (wr := ([])) (c_X8_way l D cI cZ aR xs ys lf ev nm lb kd pt so nu al ak ap he le rw cx cr cl ll tl ts tc sz mn ac en mg ln cn wc wp _ (by exact hd)) (cwV 0 F.2.2.2.2 gX8_findEvens_X8_way rfl rfl rfl (by decide +kernel) ⟨Nat.le_of_ble_eq_true rfl, Nat.le_of_ble_eq_true rfl⟩) [0, 1, 2, 3, 4, 5, 6, 7, 8, 9, 10, 11, 12, 13, 14, 15, 16, 17, 18, 19, 20, 21, 22, 23] [] [0, 1, 2, 3, 4, 5, 6, 7, 8, 9, 10, 11, 12, 13, 14, 15, 16, 17, 18, 19, 20, 21, 22, 23] rfl rfl (by decide) (by decide) (by decide) (fun _ => rfl) (by decide) (q0 := 0) (ci := 8) rfl rfl rfl rfl rfl hl.1 (Nat.le_of_ble_eq_true rfl) dX8_findEvens_1 ⟨Nat.le_of_ble_eq_true rfl, Nat.le_of_ble_eq_true rfl⟩ (fun z_1 u H locs r_z_1 hp_1 hW => ?_)
  replace hp_1 := hp_1.symm
  subst hp_1
  refine z_istoren F (pc := 4) hl (lv' := [(1, .int (iI (wy xs ys lf sz))), (0, .ref (aR 0))]) dX8_findEvens_4 rfl (by decide) rfl (fun ls hl => ?_)
  refine z_iconst F (pc := 5) (0) dX8_findEvens_5 ?_
  refine z_istoren F (pc := 6) hl (lv' := [(2, .int (iI 0)), (1, .int (iI (wy xs ys lf sz))), (0, .ref (aR 0))]) dX8_findEvens_6 rfl (by decide) rfl (fun ls hl => ?_)
  have cut_7 : ∀ (fuel : Nat) (i : Int) (e1 : Int → Int) (H : Heap) (locs : List Loc) (ls : Array Slot), (8 - i).toNat < fuel → (0 ≤ i ∧ i ≤ 8) → (zH (∀ t, 0 ≤ t → t < i → ∃ q, isEv xs ys lf sz (t * wy xs ys lf sz) q ∧ e1 (2 * t) = pE xs ys lf xs (t * wy xs ys lf sz) q ∧ e1 (2 * t + 1) = pE xs ys lf ys (t * wy xs ys lf sz) q)) → lv_has ls 8 [(2, .int (iI i)), (1, .int (iI (wy xs ys lf sz))), (0, .ref (aR 0))] → zW D A s.heap H locs (wR cI cZ aR xs ys lf e1 nm lb kd pt so nu al ak ap he le rw cx cr cl ll tl ts tc sz mn ac en mg ln cn wc wp) → W p l e ({ frames := 3, cells := 0, slots := 0, locals := 63 } : Room) s m ([.ref (aR 0)] : List Value).toArray below meth c H locs 0 0 Q (F0 m 7 ls []) := by
    intro fuel
    induction fuel with
    | zero => intro i e1 H locs ls hm; exact absurd hm (Nat.not_lt_zero _)
    | succ fuel ih_7 =>
      intro i e1 H locs ls hm_7 h1 h2 hl hW
      refine z_iloadn F (pc := 7) dX8_findEvens_7 rfl (lv_at hl 0 rfl) ?_
      refine z_bipush F (pc := 8) (8) (by decide +kernel) dX8_findEvens_8 ?_
      refine z_icmp_ge F (pc := 10) 194 dX8_findEvens_10 (by decide) (by omega) (fun c_10 => ?_) (fun c_10 => ?_)
      · skip
        exact hret _ _ _ _ e1 dX8_findEvens_194 (by exact fun t t0 t1 => h2 t t0 (by omega)) hW
      · skip
        have hg : 0 ≤ i * wy xs ys lf sz ∧ i * wy xs ys lf sz ≤ 7 * wy xs ys lf sz := ⟨Int.mul_nonneg h1.1 hww.1, Int.mul_le_mul_of_nonneg_right (by omega) hww.1⟩
        refine z_iconst F (pc := 13) (0) dX8_findEvens_13 ?_
        refine z_istoren F (pc := 14) hl (lv' := [(3, .int (iI 0)), (2, .int (iI i)), (1, .int (iI (wy xs ys lf sz))), (0, .ref (aR 0))]) dX8_findEvens_14 rfl (by decide) rfl (fun ls hl => ?_)
        refine z_iconst F (pc := 15) (1) dX8_findEvens_15 ?_
        refine z_istore F (pc := 16) hl (lv' := [(4, .int (iI 1)), (3, .int (iI 0)), (2, .int (iI i)), (1, .int (iI (wy xs ys lf sz))), (0, .ref (aR 0))]) dX8_findEvens_16 (by decide) rfl (fun ls hl => ?_)
        have cut_18 : ∀ (fuel : Nat) (t : Int) (q : Int) (H : Heap) (locs : List Loc) (ls : Array Slot), (sz - q).toNat < fuel → (1 ≤ q ∧ q < sz) → (t = wy xs ys lf q) → (7 * wy xs ys lf q < i * wy xs ys lf sz ∨ wy xs ys lf q = 0) → (∀ j, 1 ≤ j → j < q → ¬ (0 < dr xs ys lf j ∧ i * wy xs ys lf sz ≤ 7 * wy xs ys lf j + 7 * dr xs ys lf j)) → lv_has ls 8 [(4, .int (iI q)), (3, .int (iI t)), (2, .int (iI i)), (1, .int (iI (wy xs ys lf sz))), (0, .ref (aR 0))] → zW D A s.heap H locs (wR cI cZ aR xs ys lf e1 nm lb kd pt so nu al ak ap he le rw cx cr cl ll tl ts tc sz mn ac en mg ln cn wc wp) → W p l e ({ frames := 3, cells := 0, slots := 0, locals := 63 } : Room) s m ([.ref (aR 0)] : List Value).toArray below meth c H locs 0 0 Q (F0 m 18 ls []) := by
          intro fuel
          induction fuel with
          | zero => intro t q H locs ls hm; exact absurd hm (Nat.not_lt_zero _)
          | succ fuel ih_18 =>
            intro t q H locs ls hm_18 g1 g2 g3 g4 hl hW
            have hr := dr_rng hd g1.1 g1.2
            have hw3 := wy_r hd (q := q) (by omega)
            have hws := wy_s xs ys lf g1.1
            have ha := Dok_at hd (j := q) (by omega) (by omega)
            have hb := Dok_at hd (j := q - 1) (by omega) (by omega)
            refine z_aloadn F (pc := 18) dX8_findEvens_18 rfl (lv_at hl 4 rfl) ?_
            refine z_iload F (pc := 19) dX8_findEvens_19 (lv_at hl 0 rfl) ?_
            refine z_callVi F (pc := 21) hK hW hA (As := [.int (iI q)]) (rest := []) (ws' := fun (u : Unit) => wR cI cZ aR xs ys lf e1 nm lb kd pt so nu al ak ap he le rw cx cr cl ll tl ts tc sz mn ac en mg ln cn wc wp) (wr := ([])) (c_X8_drawn1 l D cI cZ aR xs ys lf e1 nm lb kd pt so nu al ak ap he le rw cx cr cl ll tl ts tc sz mn ac en mg ln cn wc wp q _ (by omega) (by exact hd) (by omega)) (cwV 1 F.2.2.2.2 gX8_findEvens_X8_drawn rfl rfl rfl (by decide +kernel) ⟨Nat.le_of_ble_eq_true rfl, Nat.le_of_ble_eq_true rfl⟩) [0, 1, 2, 3, 4, 5, 6, 7, 8, 9, 10, 11, 12, 13, 14, 15, 16, 17, 18, 19, 20, 21, 22, 23] [] [0, 1, 2, 3, 4, 5, 6, 7, 8, 9, 10, 11, 12, 13, 14, 15, 16, 17, 18, 19, 20, 21, 22, 23] rfl rfl (by decide) (by decide) (by decide) (fun _ => rfl) (by decide) (q0 := 0) (ci := 8) rfl rfl rfl rfl rfl hl.1 (Nat.le_of_ble_eq_true rfl) dX8_findEvens_21 ⟨Nat.le_of_ble_eq_true rfl, Nat.le_of_ble_eq_true rfl⟩ (fun z_21 u H locs r_z_21 hp_21 hW => ?_)
            replace hp_21 := hp_21.symm
            subst hp_21
            refine z_if_eq F (pc := 24) 44 dX8_findEvens_24 (by decide) (by omega) (fun c_24 => ?_) (fun c_24 => ?_)
            · skip
              have hlast : q + 1 < sz := by
                by_cases hh : q + 1 < sz
                · exact hh
                · exfalso
                  have e9 : q + 1 = sz := by omega
                  rw [e9] at hws
                  omega
              refine z_iloadn F (pc := 44) dX8_findEvens_44 rfl (lv_at hl 1 rfl) ?_
              refine z_aloadn F (pc := 45) dX8_findEvens_45 rfl (lv_at hl 4 rfl) ?_
              refine z_iload F (pc := 46) dX8_findEvens_46 (lv_at hl 0 rfl) ?_
              refine z_callVi F (pc := 48) hK hW hA (As := [.int (iI q)]) (rest := [.int (iI t)]) (ws' := fun (u : Unit) => wR cI cZ aR xs ys lf e1 nm lb kd pt so nu al ak ap he le rw cx cr cl ll tl ts tc sz mn ac en mg ln cn wc wp) (wr := ([])) (c_X8_drawn1 l D cI cZ aR xs ys lf e1 nm lb kd pt so nu al ak ap he le rw cx cr cl ll tl ts tc sz mn ac en mg ln cn wc wp q _ (by omega) (by exact hd) (by omega)) (cwV 1 F.2.2.2.2 gX8_findEvens_X8_drawn rfl rfl rfl (by decide +kernel) ⟨Nat.le_of_ble_eq_true rfl, Nat.le_of_ble_eq_true rfl⟩) [0, 1, 2, 3, 4, 5, 6, 7, 8, 9, 10, 11, 12, 13, 14, 15, 16, 17, 18, 19, 20, 21, 22, 23] [] [0, 1, 2, 3, 4, 5, 6, 7, 8, 9, 10, 11, 12, 13, 14, 15, 16, 17, 18, 19, 20, 21, 22, 23] rfl rfl (by decide) (by decide) (by decide) (fun _ => rfl) (by decide) (q0 := 0) (ci := 8) rfl rfl rfl rfl rfl hl.1 (Nat.le_of_ble_eq_true rfl) dX8_findEvens_48 ⟨Nat.le_of_ble_eq_true rfl, Nat.le_of_ble_eq_true rfl⟩ (fun z_48 u H locs r_z_48 hp_48 hW => ?_)
              replace hp_48 := hp_48.symm
              subst hp_48
              refine z_iadd F (pc := 51) dX8_findEvens_51 ?_
              refine z_istoren F (pc := 52) hl (lv' := [(3, .int (iI (t + (dr xs ys lf q)))), (4, .int (iI q)), (2, .int (iI i)), (1, .int (iI (wy xs ys lf sz))), (0, .ref (aR 0))]) dX8_findEvens_52 rfl (by decide) rfl (fun ls hl => ?_)
              refine z_iinc F (pc := 53) hl (lv' := [(4, .int (iI (q + 1))), (3, .int (iI (t + (dr xs ys lf q)))), (2, .int (iI i)), (1, .int (iI (wy xs ys lf sz))), (0, .ref (aR 0))]) dX8_findEvens_53 (k := 1) rfl (by decide) rfl (fun ls hl => ?_)
              refine z_goto F (pc := 56) 18 dX8_findEvens_56 (by decide) ?_
              exact ih_18 (t + (dr xs ys lf q)) (q + 1) _ _ _ (by omega) (by omega) (by rw [wy_s xs ys lf g1.1]; omega) (by rw [wy_s xs ys lf g1.1]; omega) (by intro j j1 j2; (by_cases e : j = q) <;> first | (rw [e]; omega) | exact g4 j j1 (by omega)) (lv_sub hl [0, 1, 2, 3, 4] rfl) hW
            · skip
              refine z_iloadn F (pc := 27) dX8_findEvens_27 rfl (lv_at hl 2 rfl) ?_
              refine z_iloadn F (pc := 28) dX8_findEvens_28 rfl (lv_at hl 3 rfl) ?_
              refine z_imul F (pc := 29) dX8_findEvens_29 ?_
              refine z_bipush F (pc := 30) (7) (by decide +kernel) dX8_findEvens_30 ?_
              refine z_iloadn F (pc := 32) dX8_findEvens_32 rfl (lv_at hl 1 rfl) ?_
              refine z_aloadn F (pc := 33) dX8_findEvens_33 rfl (lv_at hl 4 rfl) ?_
              refine z_iload F (pc := 34) dX8_findEvens_34 (lv_at hl 0 rfl) ?_
              refine z_callVi F (pc := 36) hK hW hA (As := [.int (iI q)]) (rest := [.int (iI t), .int (iI 7), .int (iI (i * (wy xs ys lf sz)))]) (ws' := fun (u : Unit) => wR cI cZ aR xs ys lf e1 nm lb kd pt so nu al ak ap he le rw cx cr cl ll tl ts tc sz mn ac en mg ln cn wc wp) (wr := ([])) (c_X8_drawn1 l D cI cZ aR xs ys lf e1 nm lb kd pt so nu al ak ap he le rw cx cr cl ll tl ts tc sz mn ac en mg ln cn wc wp q _ (by omega) (by exact hd) (by omega)) (cwV 1 F.2.2.2.2 gX8_findEvens_X8_drawn rfl rfl rfl (by decide +kernel) ⟨Nat.le_of_ble_eq_true rfl, Nat.le_of_ble_eq_true rfl⟩) [0, 1, 2, 3, 4, 5, 6, 7, 8, 9, 10, 11, 12, 13, 14, 15, 16, 17, 18, 19, 20, 21, 22, 23] [] [0, 1, 2, 3, 4, 5, 6, 7, 8, 9, 10, 11, 12, 13, 14, 15, 16, 17, 18, 19, 20, 21, 22, 23] rfl rfl (by decide) (by decide) (by decide) (fun _ => rfl) (by decide) (q0 := 0) (ci := 8) rfl rfl rfl rfl rfl hl.1 (Nat.le_of_ble_eq_true rfl) dX8_findEvens_36 ⟨Nat.le_of_ble_eq_true rfl, Nat.le_of_ble_eq_true rfl⟩ (fun z_36 u H locs r_z_36 hp_36 hW => ?_)
              replace hp_36 := hp_36.symm
              subst hp_36
              refine z_iadd F (pc := 39) dX8_findEvens_39 ?_
              refine z_imul F (pc := 40) dX8_findEvens_40 ?_
              refine z_icmp_le F (pc := 41) 59 dX8_findEvens_41 (by decide) (by omega) (fun c_41 => ?_) (fun c_41 => ?_)
              · skip
                have hE : isEv xs ys lf sz (i * wy xs ys lf sz) q := ⟨g1, by omega, by omega, g4⟩
                have hx1 := pw_l hb.1 ha.1 (pa := i * wy xs ys lf sz - 7 * t) (st := 7 * dr xs ys lf q) (by omega) (by omega)
                have hx2 := pw_l hb.2.1 ha.2.1 (pa := i * wy xs ys lf sz - 7 * t) (st := 7 * dr xs ys lf q) (by omega) (by omega)
                refine z_aloadn F (pc := 59) dX8_findEvens_59 rfl (lv_at hl 4 rfl) ?_
                refine z_iload F (pc := 60) dX8_findEvens_60 (lv_at hl 0 rfl) ?_
                refine z_callVi F (pc := 62) hK hW hA (As := [.int (iI q)]) (rest := []) (ws' := fun (u : Unit) => wR cI cZ aR xs ys lf e1 nm lb kd pt so nu al ak ap he le rw cx cr cl ll tl ts tc sz mn ac en mg ln cn wc wp) (wr := ([])) (c_X8_drawn1 l D cI cZ aR xs ys lf e1 nm lb kd pt so nu al ak ap he le rw cx cr cl ll tl ts tc sz mn ac en mg ln cn wc wp q _ (by omega) (by exact hd) (by omega)) (cwV 1 F.2.2.2.2 gX8_findEvens_X8_drawn rfl rfl rfl (by decide +kernel) ⟨Nat.le_of_ble_eq_true rfl, Nat.le_of_ble_eq_true rfl⟩) [0, 1, 2, 3, 4, 5, 6, 7, 8, 9, 10, 11, 12, 13, 14, 15, 16, 17, 18, 19, 20, 21, 22, 23] [] [0, 1, 2, 3, 4, 5, 6, 7, 8, 9, 10, 11, 12, 13, 14, 15, 16, 17, 18, 19, 20, 21, 22, 23] rfl rfl (by decide) (by decide) (by decide) (fun _ => rfl) (by decide) (q0 := 0) (ci := 8) rfl rfl rfl rfl rfl hl.1 (Nat.le_of_ble_eq_true rfl) dX8_findEvens_62 ⟨Nat.le_of_ble_eq_true rfl, Nat.le_of_ble_eq_true rfl⟩ (fun z_62 u H locs r_z_62 hp_62 hW => ?_)
                replace hp_62 := hp_62.symm
                subst hp_62
                refine z_istore F (pc := 65) hl (lv' := [(5, .int (iI (dr xs ys lf q))), (4, .int (iI q)), (3, .int (iI t)), (2, .int (iI i)), (1, .int (iI (wy xs ys lf sz))), (0, .ref (aR 0))]) dX8_findEvens_65 (by decide) rfl (fun ls hl => ?_)
                refine z_ldc2 F (pc := 67) (100) (by decide +kernel) (List.mem_of_getElem? (i := 1) rfl) dX8_findEvens_67 ?_
                refine z_iloadn F (pc := 70) dX8_findEvens_70 rfl (lv_at hl 3 rfl) ?_
                refine z_iloadn F (pc := 71) dX8_findEvens_71 rfl (lv_at hl 4 rfl) ?_
                refine z_imul F (pc := 72) dX8_findEvens_72 ?_
                refine z_bipush F (pc := 73) (7) (by decide +kernel) dX8_findEvens_73 ?_
                refine z_iloadn F (pc := 75) dX8_findEvens_75 rfl (lv_at hl 2 rfl) ?_
                refine z_imul F (pc := 76) dX8_findEvens_76 ?_
                refine z_isub F (pc := 77) dX8_findEvens_77 ?_
                refine z_i2l F (pc := 78) dX8_findEvens_78 (by omega) ?_
                refine z_lmul F (pc := 79) dX8_findEvens_79 ?_
                refine z_lstore F (pc := 80) hl (lv' := [(6, .long (lI (100 * ((i * (wy xs ys lf sz)) - (7 * t))))), (5, .int (iI (dr xs ys lf q))), (4, .int (iI q)), (3, .int (iI t)), (2, .int (iI i)), (1, .int (iI (wy xs ys lf sz))), (0, .ref (aR 0))]) dX8_findEvens_80 (by decide) rfl (fun ls hl => ?_)
                refine z_aloadn F (pc := 82) dX8_findEvens_82 rfl (lv_at hl 6 rfl) ?_
                refine z_get F (pc := 83) (C := RX8) (T := TX8) (N := 32) (ci := 8) inX8 hK hW 0 4 rfl rfl (by decide) rfl (List.mem_of_getElem? (i := 2) rfl) (v := .ref (aR 4)) rfl dX8_findEvens_83 ?_
                refine z_iconst F (pc := 86) (2) dX8_findEvens_86 ?_
                refine z_iloadn F (pc := 87) dX8_findEvens_87 rfl (lv_at hl 4 rfl) ?_
                refine z_imul F (pc := 88) dX8_findEvens_88 ?_
                refine z_bipush F (pc := 89) (100) (by decide +kernel) dX8_findEvens_89 ?_
                refine z_aloadn F (pc := 91) dX8_findEvens_91 rfl (lv_at hl 6 rfl) ?_
                refine z_get F (pc := 92) (C := RX8) (T := TX8) (N := 32) (ci := 8) inX8 hK hW 0 1 rfl rfl (by decide) rfl (List.mem_of_getElem? (i := 3) rfl) (v := .ref (aR 1)) rfl dX8_findEvens_92 ?_
                refine z_iload F (pc := 95) dX8_findEvens_95 (lv_at hl 2 rfl) ?_
                refine z_iconst F (pc := 97) (1) dX8_findEvens_97 ?_
                refine z_isub F (pc := 98) dX8_findEvens_98 ?_
                refine z_iald F (pc := 99) hK hW 1 rfl (by decide) dX8_findEvens_99 (by omega) ?_
                refine z_imul F (pc := 100) dX8_findEvens_100 ?_
                refine z_aloadn F (pc := 101) dX8_findEvens_101 rfl (lv_at hl 6 rfl) ?_
                refine z_get F (pc := 102) (C := RX8) (T := TX8) (N := 32) (ci := 8) inX8 hK hW 0 1 rfl rfl (by decide) rfl (List.mem_of_getElem? (i := 3) rfl) (v := .ref (aR 1)) rfl dX8_findEvens_102 ?_
                refine z_iload F (pc := 105) dX8_findEvens_105 (lv_at hl 2 rfl) ?_
                refine z_iald F (pc := 107) hK hW 1 rfl (by decide) dX8_findEvens_107 (by omega) ?_
                refine z_aloadn F (pc := 108) dX8_findEvens_108 rfl (lv_at hl 6 rfl) ?_
                refine z_get F (pc := 109) (C := RX8) (T := TX8) (N := 32) (ci := 8) inX8 hK hW 0 1 rfl rfl (by decide) rfl (List.mem_of_getElem? (i := 3) rfl) (v := .ref (aR 1)) rfl dX8_findEvens_109 ?_
                refine z_iload F (pc := 112) dX8_findEvens_112 (lv_at hl 2 rfl) ?_
                refine z_iconst F (pc := 114) (1) dX8_findEvens_114 ?_
                refine z_isub F (pc := 115) dX8_findEvens_115 ?_
                refine z_iald F (pc := 116) hK hW 1 rfl (by decide) dX8_findEvens_116 (by omega) ?_
                refine z_isub F (pc := 117) dX8_findEvens_117 ?_
                refine z_i2l F (pc := 118) dX8_findEvens_118 (by omega) ?_
                refine z_lload F (pc := 119) dX8_findEvens_119 (lv_at hl 0 rfl) ?_
                refine z_lmul F (pc := 121) dX8_findEvens_121 ?_
                refine z_bipush F (pc := 122) (7) (by decide +kernel) dX8_findEvens_122 ?_
                refine z_iload F (pc := 124) dX8_findEvens_124 (lv_at hl 1 rfl) ?_
                refine z_imul F (pc := 126) dX8_findEvens_126 ?_
                refine z_i2l F (pc := 127) dX8_findEvens_127 (by omega) ?_
                refine z_callSl F (pc := 128) hK hW hA (As := [.long (lI (((xs q) - (xs (q - 1))) * (100 * ((i * (wy xs ys lf sz)) - (7 * t))))), .long (lI (7 * (dr xs ys lf q)))]) (rest := [.int (iI (100 * (xs (q - 1)))), .int (iI (2 * i)), .ref (aR 4)]) (c_X8_down l D cI cZ (((xs q) - (xs (q - 1))) * (100 * ((i * (wy xs ys lf sz)) - (7 * t)))) (7 * (dr xs ys lf q)) _ (by omega) (by omega) (by omega) (by omega)) (va_cwS 2 F.2.2.2.2 gX8_findEvens_X8_down rfl rfl rfl (by decide +kernel) ⟨Nat.le_of_ble_eq_true rfl, Nat.le_of_ble_eq_true rfl⟩) rfl rfl hl.1 (Nat.le_of_ble_eq_true rfl) dX8_findEvens_128 ⟨Nat.le_of_ble_eq_true rfl, Nat.le_of_ble_eq_true rfl⟩ (fun z_128 H locs r_z_128 hp_128 hW => ?_)
                replace hp_128 := hp_128.symm
                subst hp_128
                refine z_l2i F (pc := 131) dX8_findEvens_131 ?_
                refine z_iadd F (pc := 132) dX8_findEvens_132 ?_
                refine z_eqi (y := pE xs ys lf xs (i * wy xs ys lf sz) q) (by unfold pE; rw [g2, Int.mul_assoc]) ?_
                refine z_iast F (pc := 133) hK hW (ws' := wR cI cZ aR xs ys lf (zU e1 (2 * i) (pE xs ys lf xs (i * wy xs ys lf sz) q)) nm lb kd pt so nu al ak ap he le rw cx cr cl ll tl ts tc sz mn ac en mg ln cn wc wp) 4 rfl (by decide) dX8_findEvens_133 (by omega) rfl (fun H locs hW => ?_)
                refine z_aloadn F (pc := 134) dX8_findEvens_134 rfl (lv_at hl 6 rfl) ?_
                refine z_get F (pc := 135) (C := RX8) (T := TX8) (N := 32) (ci := 8) inX8 hK hW 0 4 rfl rfl (by decide) rfl (List.mem_of_getElem? (i := 2) rfl) (v := .ref (aR 4)) rfl dX8_findEvens_135 ?_
                refine z_iconst F (pc := 138) (2) dX8_findEvens_138 ?_
                refine z_iloadn F (pc := 139) dX8_findEvens_139 rfl (lv_at hl 4 rfl) ?_
                refine z_imul F (pc := 140) dX8_findEvens_140 ?_
                refine z_iconst F (pc := 141) (1) dX8_findEvens_141 ?_
                refine z_iadd F (pc := 142) dX8_findEvens_142 ?_
                refine z_bipush F (pc := 143) (100) (by decide +kernel) dX8_findEvens_143 ?_
                refine z_aloadn F (pc := 145) dX8_findEvens_145 rfl (lv_at hl 6 rfl) ?_
                refine z_get F (pc := 146) (C := RX8) (T := TX8) (N := 32) (ci := 8) inX8 hK hW 0 2 rfl rfl (by decide) rfl (List.mem_of_getElem? (i := 4) rfl) (v := .ref (aR 2)) rfl dX8_findEvens_146 ?_
                refine z_iload F (pc := 149) dX8_findEvens_149 (lv_at hl 2 rfl) ?_
                refine z_iconst F (pc := 151) (1) dX8_findEvens_151 ?_
                refine z_isub F (pc := 152) dX8_findEvens_152 ?_
                refine z_iald F (pc := 153) hK hW 2 rfl (by decide) dX8_findEvens_153 (by omega) ?_
                refine z_imul F (pc := 154) dX8_findEvens_154 ?_
                refine z_aloadn F (pc := 155) dX8_findEvens_155 rfl (lv_at hl 6 rfl) ?_
                refine z_get F (pc := 156) (C := RX8) (T := TX8) (N := 32) (ci := 8) inX8 hK hW 0 2 rfl rfl (by decide) rfl (List.mem_of_getElem? (i := 4) rfl) (v := .ref (aR 2)) rfl dX8_findEvens_156 ?_
                refine z_iload F (pc := 159) dX8_findEvens_159 (lv_at hl 2 rfl) ?_
                refine z_iald F (pc := 161) hK hW 2 rfl (by decide) dX8_findEvens_161 (by omega) ?_
                refine z_aloadn F (pc := 162) dX8_findEvens_162 rfl (lv_at hl 6 rfl) ?_
                refine z_get F (pc := 163) (C := RX8) (T := TX8) (N := 32) (ci := 8) inX8 hK hW 0 2 rfl rfl (by decide) rfl (List.mem_of_getElem? (i := 4) rfl) (v := .ref (aR 2)) rfl dX8_findEvens_163 ?_
                refine z_iload F (pc := 166) dX8_findEvens_166 (lv_at hl 2 rfl) ?_
                refine z_iconst F (pc := 168) (1) dX8_findEvens_168 ?_
                refine z_isub F (pc := 169) dX8_findEvens_169 ?_
                refine z_iald F (pc := 170) hK hW 2 rfl (by decide) dX8_findEvens_170 (by omega) ?_
                refine z_isub F (pc := 171) dX8_findEvens_171 ?_
                refine z_i2l F (pc := 172) dX8_findEvens_172 (by omega) ?_
                refine z_lload F (pc := 173) dX8_findEvens_173 (lv_at hl 0 rfl) ?_
                refine z_lmul F (pc := 175) dX8_findEvens_175 ?_
                refine z_bipush F (pc := 176) (7) (by decide +kernel) dX8_findEvens_176 ?_
                refine z_iload F (pc := 178) dX8_findEvens_178 (lv_at hl 1 rfl) ?_
                refine z_imul F (pc := 180) dX8_findEvens_180 ?_
                refine z_i2l F (pc := 181) dX8_findEvens_181 (by omega) ?_
                refine z_callSl F (pc := 182) hK hW hA (As := [.long (lI (((ys q) - (ys (q - 1))) * (100 * ((i * (wy xs ys lf sz)) - (7 * t))))), .long (lI (7 * (dr xs ys lf q)))]) (rest := [.int (iI (100 * (ys (q - 1)))), .int (iI ((2 * i) + 1)), .ref (aR 4)]) (c_X8_down l D cI cZ (((ys q) - (ys (q - 1))) * (100 * ((i * (wy xs ys lf sz)) - (7 * t)))) (7 * (dr xs ys lf q)) _ (by omega) (by omega) (by omega) (by omega)) (va_cwS 2 F.2.2.2.2 gX8_findEvens_X8_down rfl rfl rfl (by decide +kernel) ⟨Nat.le_of_ble_eq_true rfl, Nat.le_of_ble_eq_true rfl⟩) rfl rfl hl.1 (Nat.le_of_ble_eq_true rfl) dX8_findEvens_182 ⟨Nat.le_of_ble_eq_true rfl, Nat.le_of_ble_eq_true rfl⟩ (fun z_182 H locs r_z_182 hp_182 hW => ?_)
                replace hp_182 := hp_182.symm
                subst hp_182
                refine z_l2i F (pc := 185) dX8_findEvens_185 ?_
                refine z_iadd F (pc := 186) dX8_findEvens_186 ?_
                refine z_eqi (y := pE xs ys lf ys (i * wy xs ys lf sz) q) (by unfold pE; rw [g2, Int.mul_assoc]) ?_
                refine z_iast F (pc := 187) hK hW (ws' := wR cI cZ aR xs ys lf (zU (zU e1 (2 * i) (pE xs ys lf xs (i * wy xs ys lf sz) q)) ((2 * i) + 1) (pE xs ys lf ys (i * wy xs ys lf sz) q)) nm lb kd pt so nu al ak ap he le rw cx cr cl ll tl ts tc sz mn ac en mg ln cn wc wp) 4 rfl (by decide) dX8_findEvens_187 (by omega) rfl (fun H locs hW => ?_)
                have hstep : ∀ t, 0 ≤ t → t < i + 1 → ∃ q9, isEv xs ys lf sz (t * wy xs ys lf sz) q9 ∧ (zU (zU e1 (2 * i) (pE xs ys lf xs (i * wy xs ys lf sz) q)) (2 * i + 1) (pE xs ys lf ys (i * wy xs ys lf sz) q)) (2 * t) = pE xs ys lf xs (t * wy xs ys lf sz) q9 ∧ (zU (zU e1 (2 * i) (pE xs ys lf xs (i * wy xs ys lf sz) q)) (2 * i + 1) (pE xs ys lf ys (i * wy xs ys lf sz) q)) (2 * t + 1) = pE xs ys lf ys (t * wy xs ys lf sz) q9 := by
                  intro t0 t1 t2
                  by_cases et : t0 = i
                  · subst et; refine ⟨q, hE, ?_, ?_⟩
                    · rw [zU_n _ _ (by omega), zU_s]
                    · rw [zU_s]
                  · obtain ⟨q9, b1, b2, b3⟩ := h2 t0 t1 (by omega)
                    refine ⟨q9, b1, ?_, ?_⟩ <;> rw [zU_n _ _ (by omega), zU_n _ _ (by omega)]
                    · exact b2
                    · exact b3
                refine z_iinc F (pc := 188) hl (lv' := [(2, .int (iI (i + 1))), (6, .long (lI (100 * ((i * (wy xs ys lf sz)) - (7 * t))))), (5, .int (iI (dr xs ys lf q))), (4, .int (iI q)), (3, .int (iI t)), (1, .int (iI (wy xs ys lf sz))), (0, .ref (aR 0))]) dX8_findEvens_188 (k := 4) rfl (by decide) rfl (fun ls hl => ?_)
                refine z_goto F (pc := 191) 7 dX8_findEvens_191 (by decide) ?_
                exact ih_7 (i + 1) (zU (zU e1 (2 * i) (pE xs ys lf xs (i * wy xs ys lf sz) q)) ((2 * i) + 1) (pE xs ys lf ys (i * wy xs ys lf sz) q)) _ _ _ (by omega) (by omega) (by exact hstep) (lv_sub hl [0, 5, 6] rfl) hW
              · skip
                have hlast : q + 1 < sz := by
                  by_cases hh : q + 1 < sz
                  · exact hh
                  · exfalso
                    have e9 : q + 1 = sz := by omega
                    rw [e9] at hws
                    omega
                refine z_iloadn F (pc := 44) dX8_findEvens_44 rfl (lv_at hl 1 rfl) ?_
                refine z_aloadn F (pc := 45) dX8_findEvens_45 rfl (lv_at hl 4 rfl) ?_
                refine z_iload F (pc := 46) dX8_findEvens_46 (lv_at hl 0 rfl) ?_
                refine z_callVi F (pc := 48) hK hW hA (As := [.int (iI q)]) (rest := [.int (iI t)]) (ws' := fun (u : Unit) => wR cI cZ aR xs ys lf e1 nm lb kd pt so nu al ak ap he le rw cx cr cl ll tl ts tc sz mn ac en mg ln cn wc wp) (wr := ([])) (c_X8_drawn1 l D cI cZ aR xs ys lf e1 nm lb kd pt so nu al ak ap he le rw cx cr cl ll tl ts tc sz mn ac en mg ln cn wc wp q _ (by omega) (by exact hd) (by omega)) (cwV 1 F.2.2.2.2 gX8_findEvens_X8_drawn rfl rfl rfl (by decide +kernel) ⟨Nat.le_of_ble_eq_true rfl, Nat.le_of_ble_eq_true rfl⟩) [0, 1, 2, 3, 4, 5, 6, 7, 8, 9, 10, 11, 12, 13, 14, 15, 16, 17, 18, 19, 20, 21, 22, 23] [] [0, 1, 2, 3, 4, 5, 6, 7, 8, 9, 10, 11, 12, 13, 14, 15, 16, 17, 18, 19, 20, 21, 22, 23] rfl rfl (by decide) (by decide) (by decide) (fun _ => rfl) (by decide) (q0 := 0) (ci := 8) rfl rfl rfl rfl rfl hl.1 (Nat.le_of_ble_eq_true rfl) dX8_findEvens_48 ⟨Nat.le_of_ble_eq_true rfl, Nat.le_of_ble_eq_true rfl⟩ (fun z_48 u H locs r_z_48 hp_48 hW => ?_)
                replace hp_48 := hp_48.symm
                subst hp_48
                refine z_iadd F (pc := 51) dX8_findEvens_51 ?_
                refine z_istoren F (pc := 52) hl (lv' := [(3, .int (iI (t + (dr xs ys lf q)))), (4, .int (iI q)), (2, .int (iI i)), (1, .int (iI (wy xs ys lf sz))), (0, .ref (aR 0))]) dX8_findEvens_52 rfl (by decide) rfl (fun ls hl => ?_)
                refine z_iinc F (pc := 53) hl (lv' := [(4, .int (iI (q + 1))), (3, .int (iI (t + (dr xs ys lf q)))), (2, .int (iI i)), (1, .int (iI (wy xs ys lf sz))), (0, .ref (aR 0))]) dX8_findEvens_53 (k := 1) rfl (by decide) rfl (fun ls hl => ?_)
                refine z_goto F (pc := 56) 18 dX8_findEvens_56 (by decide) ?_
                exact ih_18 (t + (dr xs ys lf q)) (q + 1) _ _ _ (by omega) (by omega) (by rw [wy_s xs ys lf g1.1]; omega) (by rw [wy_s xs ys lf g1.1]; omega) (by intro j j1 j2; (by_cases e : j = q) <;> first | (rw [e]; omega) | exact g4 j j1 (by omega)) (lv_sub hl [0, 1, 2, 3, 4] rfl) hW
        exact cut_18 _ 0 1 _ _ _ (Nat.lt_succ_self _) (by omega) (by exact (wy_0 xs ys lf (by omega)).symm) (by right; exact wy_0 xs ys lf (by omega)) (by intro j j1 j2; omega) (lv_sub hl [0, 1, 2, 3, 4] rfl) hW
  exact cut_7 _ 0 ev _ _ _ (Nat.lt_succ_self _) (by omega) (by intro t t0 t1; omega) (lv_sub hl [0, 1, 2] rfl) hW
