set_option maxHeartbeats 4000000 in
set_option maxRecDepth 100000 in
theorem c_X8_read (l : Launch) (D : va_G) (cI cZ : ClassId) (aR : Nat → Nat) (xs ys lf ev nm lb kd pt so nu al ak ap he le rw cx cr cl ll tl ts tc : Int → Int) (sz mn ac en mg ln cn wc wp : Int) (sz0 : Nat) (hd : Dok xs ys lf sz) (hm : (0 ≤ mn ∧ mn ≤ 16)) (hkd : Kok kd mn) (hpt : Pok pt mn) (hlb : Lok lb mn) (he9 : (0 ≤ en ∧ en ≤ 100000) ∧ (0 ≤ mg ∧ mg ≤ 100000)) : Met l yX8_read wsX8_read ({ frames := 7, cells := 0, slots := 0, locals := 161 } : Room) (zPc D cI cZ [.ref (aR 0)] (wR cI cZ aR xs ys lf ev nm lb kd pt so nu al ak ap he le rw cx cr cl ll tl ts tc sz mn ac en mg ln cn wc wp) sz0) (zQi D cI cZ (wR cI cZ aR xs ys lf ev nm lb kd pt so nu al ak ap he le rw cx cr cl ll tl ts tc sz mn ac en mg ln cn wc wp) sz0 (fun (r : Int) (u : (Int → Int) × (Int → Int) × (Int → Int) × (Int → Int)) => readR xs ys lf sz pt kd lb mn en mg r ∧ -5 ≤ r ∧ r ≤ 9) (fun (u : (Int → Int) × (Int → Int) × (Int → Int) × (Int → Int)) => wR cI cZ aR xs ys lf u.1 u.2.1 lb kd pt so nu al ak ap u.2.2.1 u.2.2.2 rw cx cr cl ll tl ts tc sz mn ac en mg ln cn wc wp)) 0 0 (va_A (wR cI cZ aR xs ys lf ev nm lb kd pt so nu al ak ap he le rw cx cr cl ll tl ts tc sz mn ac en mg ln cn wc wp) sz0) := by
  refine z_ofI (maxL := 5) (plainFor_of_name (by decide)) rfl (Nat.le_of_ble_eq_true rfl) (Or.inl rfl) ?_
  intro p e s m below meth c A ls Q F hK hW hA hl hret
  have hl : lv_has ls 5 [(0, .ref (aR 0))] := hl
  have inX8 : ∀ w ∈ u_ws RX8 TX8 32, w ∈ wsX8_read := fun _ h => List.mem_cons_of_mem _ (List.mem_append_right _ h)
  refine z_aloadn F (pc := 0) dX8_read_0 rfl (lv_at hl 0 rfl) ?_
  refine z_callVi F (pc := 1) hK hW hA (As := []) (rest := []) (ws' := fun (u : (Int → Int) × (Int → Int) × (Int → Int) × (Int → Int)) => wR cI cZ aR xs ys lf u.1 u.2.1 lb kd pt so nu al ak ap u.2.2.1 u.2.2.2 rw cx cr cl ll tl ts tc sz mn ac en mg ln cn wc wp) (wr := ([])) (c_X8_nearest l D cI cZ aR xs ys lf ev nm lb kd pt so nu al ak ap he le rw cx cr cl ll tl ts tc sz mn ac en mg ln cn wc wp _ (by exact hd) (by omega) (by exact hkd) (by exact hpt)) (cwV 0 F.2.2.2.2 gX8_read_X8_nearest rfl rfl rfl (by decide +kernel) ⟨Nat.le_of_ble_eq_true rfl, Nat.le_of_ble_eq_true rfl⟩) [0, 1, 2, 3, 4, 5, 6, 7, 8, 9, 10, 11, 12, 13, 14, 15, 16, 17, 18, 19, 20, 21, 22, 23] [] [0, 1, 2, 3, 4, 5, 6, 7, 8, 9, 10, 11, 12, 13, 14, 15, 16, 17, 18, 19, 20, 21, 22, 23] rfl rfl (by decide) (by decide) (by decide) (fun _ => rfl) (by decide) (q0 := 0) (ci := 8) rfl rfl rfl rfl rfl hl.1 (Nat.le_of_ble_eq_true rfl) dX8_read_1 ⟨Nat.le_of_ble_eq_true rfl, Nat.le_of_ble_eq_true rfl⟩ (fun z_1 u H locs r_z_1 hp_1 hW => ?_)
  obtain ⟨ev2_1, nm2_1, he2_1, le2_1⟩ := u
  dsimp only at hp_1 hW
  refine z_istoren F (pc := 4) hl (lv' := [(1, .int (iI z_1)), (0, .ref (aR 0))]) dX8_read_4 rfl (by decide) rfl (fun ls hl => ?_)
  refine z_iloadn F (pc := 5) dX8_read_5 rfl (lv_at hl 0 rfl) ?_
  refine z_if_ge F (pc := 6) 11 dX8_read_6 (by decide) (by omega) (fun c_6 => ?_) (fun c_6 => ?_)
  · skip
    have h3 : ¬ wy xs ys lf sz = 0 ∧ 0 < mn ∧ NmOf xs ys lf sz nm2_1 ∧ eqH he2_1 nm2_1 ∧ nearT nm2_1 pt kd mn z_1 := by
      rcases hp_1.o with ⟨a, b⟩ | ⟨a, b, c⟩ | h3
      · omega
      · omega
      · exact h3
    have hinN := NmOf_in h3.2.2.1
    have hin := inH_eq h3.2.2.2.1 hinN
    have hb1 := h3.2.2.2.2.1
    have hdb := dn_b (kd := kd) hinN hpt hb1
    have hlz := hlb z_1 hb1.1 hb1.2
    have hmn0 := h3.2.1
    refine z_aloadn F (pc := 11) dX8_read_11 rfl (lv_at hl 1 rfl) ?_
    refine z_iloadn F (pc := 12) dX8_read_12 rfl (lv_at hl 0 rfl) ?_
    refine z_callVi F (pc := 13) hK hW hA (As := [.int (iI z_1)]) (rest := []) (ws' := fun (u : (Int → Int) × (Int → Int)) => wR cI cZ aR xs ys lf ev2_1 nm2_1 lb kd pt so nu al ak ap u.1 u.2 rw cx cr cl ll tl ts tc sz mn ac en mg ln cn wc wp) (wr := ([])) (c_X8_distanceOf l D cI cZ aR xs ys lf ev2_1 nm2_1 lb kd pt so nu al ak ap he2_1 le2_1 rw cx cr cl ll tl ts tc sz mn ac en mg ln cn wc wp z_1 _ (by omega) (by exact hin) (by exact Pok_in hpt hb1) (by omega) (by exact hkd z_1 hb1.1 hb1.2)) (cwV 1 F.2.2.2.2 gX8_read_X8_distanceOf rfl rfl rfl (by decide +kernel) ⟨Nat.le_of_ble_eq_true rfl, Nat.le_of_ble_eq_true rfl⟩) [0, 1, 2, 3, 4, 5, 6, 7, 8, 9, 10, 11, 12, 13, 14, 15, 16, 17, 18, 19, 20, 21, 22, 23] [] [0, 1, 2, 3, 4, 5, 6, 7, 8, 9, 10, 11, 12, 13, 14, 15, 16, 17, 18, 19, 20, 21, 22, 23] rfl rfl (by decide) (by decide) (by decide) (fun _ => rfl) (by decide) (q0 := 0) (ci := 8) rfl rfl rfl rfl rfl hl.1 (Nat.le_of_ble_eq_true rfl) dX8_read_13 ⟨Nat.le_of_ble_eq_true rfl, Nat.le_of_ble_eq_true rfl⟩ (fun z_13 u H locs r_z_13 hp_13 hW => ?_)
    obtain ⟨he2_13, le2_13⟩ := u
    dsimp only at hp_13 hW
    have kp_he2_13 : he2_1 = he2_13 := (hp_13.2).symm
    subst kp_he2_13
    obtain ⟨e_z_13, hp_13⟩ := hp_13
    replace e_z_13 := e_z_13.symm
    subst e_z_13
    refine z_eqi (y := dn nm2_1 pt kd z_1) (by exact dF_cong h3.2.2.2.1 _ _ _) ?_
    refine z_istoren F (pc := 16) hl (lv' := [(2, .int (iI (dn nm2_1 pt kd z_1))), (1, .int (iI z_1)), (0, .ref (aR 0))]) dX8_read_16 rfl (by decide) rfl (fun ls hl => ?_)
    refine z_iloadn F (pc := 17) dX8_read_17 rfl (lv_at hl 0 rfl) ?_
    refine z_aloadn F (pc := 18) dX8_read_18 rfl (lv_at hl 2 rfl) ?_
    refine z_get F (pc := 19) (C := RX8) (T := TX8) (N := 32) (ci := 8) inX8 hK hW 0 16 rfl rfl (by decide) rfl (List.mem_of_getElem? (i := 1) rfl) (v := .int (iI en)) rfl dX8_read_19 ?_
    refine z_icmp_gt F (pc := 22) 29 dX8_read_22 (by decide) (by omega) (fun c_22 => ?_) (fun c_22 => ?_)
    · skip
      refine z_iconst F (pc := 29) (0) dX8_read_29 ?_
      refine z_istoren F (pc := 30) hl (lv' := [(3, .int (iI 0)), (2, .int (iI (dn nm2_1 pt kd z_1))), (1, .int (iI z_1)), (0, .ref (aR 0))]) dX8_read_30 rfl (by decide) rfl (fun ls hl => ?_)
      refine z_iconst F (pc := 31) (0) dX8_read_31 ?_
      refine z_istore F (pc := 32) hl (lv' := [(4, .int (iI 0)), (3, .int (iI 0)), (2, .int (iI (dn nm2_1 pt kd z_1))), (1, .int (iI z_1)), (0, .ref (aR 0))]) dX8_read_32 (by decide) rfl (fun ls hl => ?_)
      have cut_34 : ∀ (fuel : Nat) (gd : Int) (t : Int) (le1 : Int → Int) (H : Heap) (locs : List Loc) (ls : Array Slot), (mn - t).toNat < fuel → (0 ≤ t ∧ t ≤ mn) → (gd = 0 ∨ gd = 1) → (zH ((gd = 1 ∧ (dn nm2_1 pt kd z_1 ≤ en ∧ ∀ k, 0 ≤ k → k < t → lb k = lb z_1 ∨ dn nm2_1 pt kd z_1 + mg ≤ dn nm2_1 pt kd k)) ∨ (gd = 0 ∧ ¬ goodR nm2_1 pt kd lb mn en mg z_1))) → lv_has ls 5 [(4, .int (iI t)), (3, .int (iI gd)), (2, .int (iI (dn nm2_1 pt kd z_1))), (1, .int (iI z_1)), (0, .ref (aR 0))] → zW D A s.heap H locs (wR cI cZ aR xs ys lf ev2_1 nm2_1 lb kd pt so nu al ak ap he2_1 le1 rw cx cr cl ll tl ts tc sz mn ac en mg ln cn wc wp) → W p l e ({ frames := 7, cells := 0, slots := 0, locals := 161 } : Room) s m ([.ref (aR 0)] : List Value).toArray below meth c H locs 0 0 Q (F0 m 34 ls []) := by
        intro fuel
        induction fuel with
        | zero => intro gd t le1 H locs ls hm; exact absurd hm (Nat.not_lt_zero _)
        | succ fuel ih_34 =>
          intro gd t le1 H locs ls hm_34 g1 g2 g3 hl hW
          refine z_iload F (pc := 34) dX8_read_34 (lv_at hl 0 rfl) ?_
          refine z_aloadn F (pc := 36) dX8_read_36 rfl (lv_at hl 4 rfl) ?_
          refine z_get F (pc := 37) (C := RX8) (T := TX8) (N := 32) (ci := 8) inX8 hK hW 0 6 rfl rfl (by decide) rfl (List.mem_of_getElem? (i := 2) rfl) (v := .int (iI mn)) rfl dX8_read_37 ?_
          refine z_icmp_ge F (pc := 40) 90 dX8_read_40 (by decide) (by omega) (fun c_40 => ?_) (fun c_40 => ?_)
          · skip
            have hgd : (gd = 1 ∧ goodR nm2_1 pt kd lb mn en mg z_1) ∨ (gd = 0 ∧ ¬ goodR nm2_1 pt kd lb mn en mg z_1) := by
              rw [show t = mn by omega] at g3
              exact g3
            refine z_iloadn F (pc := 90) dX8_read_90 rfl (lv_at hl 1 rfl) ?_
            refine z_if_eq F (pc := 91) 103 dX8_read_91 (by decide) (by omega) (fun c_91 => ?_) (fun c_91 => ?_)
            · skip
              refine z_bipush F (pc := 103) (-5) (by decide +kernel) dX8_read_103 ?_
              exact hret _ _ _ _ (-5) (ev2_1, nm2_1, he2_1, le1) dX8_read_105 (by omega) (by (try dsimp only) <;> (first | exact ⟨Or.inr (Or.inr ⟨h3.1, h3.2.1, nm2_1, z_1, h3.2.2.1, h3.2.2.2.2, Or.inl ⟨hgd.elim (fun q => q.2) (fun q => by omega), rfl⟩⟩), by omega⟩ | exact ⟨Or.inr (Or.inr ⟨h3.1, h3.2.1, nm2_1, z_1, h3.2.2.1, h3.2.2.2.2, Or.inr ⟨hgd.elim (fun q => by omega) (fun q => q.2), rfl⟩⟩), by omega⟩)) hW
            · skip
              refine z_aloadn F (pc := 94) dX8_read_94 rfl (lv_at hl 4 rfl) ?_
              refine z_get F (pc := 95) (C := RX8) (T := TX8) (N := 32) (ci := 8) inX8 hK hW 0 7 rfl rfl (by decide) rfl (List.mem_of_getElem? (i := 3) rfl) (v := .ref (aR 6)) rfl dX8_read_95 ?_
              refine z_iloadn F (pc := 98) dX8_read_98 rfl (lv_at hl 3 rfl) ?_
              refine z_iald F (pc := 99) hK hW 6 rfl (by decide) dX8_read_99 (by omega) ?_
              refine z_goto F (pc := 100) 105 dX8_read_100 (by decide) ?_
              exact hret _ _ _ _ (lb z_1) (ev2_1, nm2_1, he2_1, le1) dX8_read_105 (by omega) (by (try dsimp only) <;> (first | exact ⟨Or.inr (Or.inr ⟨h3.1, h3.2.1, nm2_1, z_1, h3.2.2.1, h3.2.2.2.2, Or.inl ⟨hgd.elim (fun q => q.2) (fun q => by omega), rfl⟩⟩), by omega⟩ | exact ⟨Or.inr (Or.inr ⟨h3.1, h3.2.1, nm2_1, z_1, h3.2.2.1, h3.2.2.2.2, Or.inr ⟨hgd.elim (fun q => by omega) (fun q => q.2), rfl⟩⟩), by omega⟩)) hW
          · skip
            have hlt := hlb t g1.1 (by omega)
            have hdt := dn_b (kd := kd) hinN hpt (k := t) ⟨g1.1, by omega⟩
            refine z_iloadn F (pc := 43) dX8_read_43 rfl (lv_at hl 1 rfl) ?_
            refine z_if_eq F (pc := 44) 82 dX8_read_44 (by decide) (by omega) (fun c_44 => ?_) (fun c_44 => ?_)
            · skip
              have hst : zH (((0 : Int) = 1 ∧ (dn nm2_1 pt kd z_1 ≤ en ∧ ∀ k, 0 ≤ k → k < t + 1 → lb k = lb z_1 ∨ dn nm2_1 pt kd z_1 + mg ≤ dn nm2_1 pt kd k)) ∨ ((0 : Int) = 0 ∧ ¬ goodR nm2_1 pt kd lb mn en mg z_1)) := by
                rcases g3.o with ⟨q1, q2, q3⟩ | ⟨q1, q2⟩
                · refine Or.inr ⟨rfl, fun z => ?_⟩
                  have := z.2 t g1.1 (by omega)
                  omega
                · exact Or.inr ⟨rfl, q2⟩
              refine z_iconst F (pc := 82) (0) dX8_read_82 ?_
              refine z_istoren F (pc := 83) hl (lv' := [(3, .int (iI 0)), (4, .int (iI t)), (2, .int (iI (dn nm2_1 pt kd z_1))), (1, .int (iI z_1)), (0, .ref (aR 0))]) dX8_read_83 rfl (by decide) rfl (fun ls hl => ?_)
              refine z_iinc F (pc := 84) hl (lv' := [(4, .int (iI (t + 1))), (3, .int (iI 0)), (2, .int (iI (dn nm2_1 pt kd z_1))), (1, .int (iI z_1)), (0, .ref (aR 0))]) dX8_read_84 (k := 1) rfl (by decide) rfl (fun ls hl => ?_)
              refine z_goto F (pc := 87) 34 dX8_read_87 (by decide) ?_
              exact ih_34 0 (t + 1) le1 _ _ _ (by omega) (by omega) (by omega) (by exact hst) (lv_sub hl [0, 1, 2, 3, 4] rfl) hW
            · skip
              refine z_aloadn F (pc := 47) dX8_read_47 rfl (lv_at hl 4 rfl) ?_
              refine z_get F (pc := 48) (C := RX8) (T := TX8) (N := 32) (ci := 8) inX8 hK hW 0 7 rfl rfl (by decide) rfl (List.mem_of_getElem? (i := 3) rfl) (v := .ref (aR 6)) rfl dX8_read_48 ?_
              refine z_iload F (pc := 51) dX8_read_51 (lv_at hl 0 rfl) ?_
              refine z_iald F (pc := 53) hK hW 6 rfl (by decide) dX8_read_53 (by omega) ?_
              refine z_aloadn F (pc := 54) dX8_read_54 rfl (lv_at hl 4 rfl) ?_
              refine z_get F (pc := 55) (C := RX8) (T := TX8) (N := 32) (ci := 8) inX8 hK hW 0 7 rfl rfl (by decide) rfl (List.mem_of_getElem? (i := 3) rfl) (v := .ref (aR 6)) rfl dX8_read_55 ?_
              refine z_iloadn F (pc := 58) dX8_read_58 rfl (lv_at hl 3 rfl) ?_
              refine z_iald F (pc := 59) hK hW 6 rfl (by decide) dX8_read_59 (by omega) ?_
              refine z_icmp_eq F (pc := 60) 78 dX8_read_60 (by decide) (by omega) (fun c_60 => ?_) (fun c_60 => ?_)
              · skip
                have hst : zH (((1 : Int) = 1 ∧ (dn nm2_1 pt kd z_1 ≤ en ∧ ∀ k, 0 ≤ k → k < t + 1 → lb k = lb z_1 ∨ dn nm2_1 pt kd z_1 + mg ≤ dn nm2_1 pt kd k)) ∨ ((1 : Int) = 0 ∧ ¬ goodR nm2_1 pt kd lb mn en mg z_1)) := by
                  rcases g3.o with ⟨q1, q2, q3⟩ | ⟨q1, q2⟩
                  · refine Or.inl ⟨rfl, q2, fun k k0 k1 => ?_⟩
                    by_cases e : k = t
                    · rw [e]; omega
                    · exact q3 k k0 (by omega)
                  · omega
                refine z_iconst F (pc := 78) (1) dX8_read_78 ?_
                refine z_goto F (pc := 79) 83 dX8_read_79 (by decide) ?_
                refine z_istoren F (pc := 83) hl (lv' := [(3, .int (iI 1)), (4, .int (iI t)), (2, .int (iI (dn nm2_1 pt kd z_1))), (1, .int (iI z_1)), (0, .ref (aR 0))]) dX8_read_83 rfl (by decide) rfl (fun ls hl => ?_)
                refine z_iinc F (pc := 84) hl (lv' := [(4, .int (iI (t + 1))), (3, .int (iI 1)), (2, .int (iI (dn nm2_1 pt kd z_1))), (1, .int (iI z_1)), (0, .ref (aR 0))]) dX8_read_84 (k := 1) rfl (by decide) rfl (fun ls hl => ?_)
                refine z_goto F (pc := 87) 34 dX8_read_87 (by decide) ?_
                exact ih_34 1 (t + 1) le1 _ _ _ (by omega) (by omega) (by omega) (by exact hst) (lv_sub hl [0, 1, 2, 3, 4] rfl) hW
              · skip
                refine z_aloadn F (pc := 63) dX8_read_63 rfl (lv_at hl 4 rfl) ?_
                refine z_iload F (pc := 64) dX8_read_64 (lv_at hl 0 rfl) ?_
                refine z_callVi F (pc := 66) hK hW hA (As := [.int (iI t)]) (rest := []) (ws' := fun (u : (Int → Int) × (Int → Int)) => wR cI cZ aR xs ys lf ev2_1 nm2_1 lb kd pt so nu al ak ap u.1 u.2 rw cx cr cl ll tl ts tc sz mn ac en mg ln cn wc wp) (wr := ([])) (c_X8_distanceOf l D cI cZ aR xs ys lf ev2_1 nm2_1 lb kd pt so nu al ak ap he2_1 le1 rw cx cr cl ll tl ts tc sz mn ac en mg ln cn wc wp t _ (by omega) (by exact hin) (by exact Pok_in hpt ⟨g1.1, by omega⟩) (by omega) (by exact hkd t g1.1 (by omega))) (cwV 1 F.2.2.2.2 gX8_read_X8_distanceOf rfl rfl rfl (by decide +kernel) ⟨Nat.le_of_ble_eq_true rfl, Nat.le_of_ble_eq_true rfl⟩) [0, 1, 2, 3, 4, 5, 6, 7, 8, 9, 10, 11, 12, 13, 14, 15, 16, 17, 18, 19, 20, 21, 22, 23] [] [0, 1, 2, 3, 4, 5, 6, 7, 8, 9, 10, 11, 12, 13, 14, 15, 16, 17, 18, 19, 20, 21, 22, 23] rfl rfl (by decide) (by decide) (by decide) (fun _ => rfl) (by decide) (q0 := 0) (ci := 8) rfl rfl rfl rfl rfl hl.1 (Nat.le_of_ble_eq_true rfl) dX8_read_66 ⟨Nat.le_of_ble_eq_true rfl, Nat.le_of_ble_eq_true rfl⟩ (fun z_66 u H locs r_z_66 hp_66 hW => ?_)
                obtain ⟨he2_66, le2_66⟩ := u
                dsimp only at hp_66 hW
                have kp_he2_66 : he2_1 = he2_66 := (hp_66.2).symm
                subst kp_he2_66
                obtain ⟨e_z_66, hp_66⟩ := hp_66
                replace e_z_66 := e_z_66.symm
                subst e_z_66
                refine z_eqi (y := dn nm2_1 pt kd t) (by exact dF_cong h3.2.2.2.1 _ _ _) ?_
                refine z_iloadn F (pc := 69) dX8_read_69 rfl (lv_at hl 2 rfl) ?_
                refine z_aloadn F (pc := 70) dX8_read_70 rfl (lv_at hl 4 rfl) ?_
                refine z_get F (pc := 71) (C := RX8) (T := TX8) (N := 32) (ci := 8) inX8 hK hW 0 17 rfl rfl (by decide) rfl (List.mem_of_getElem? (i := 4) rfl) (v := .int (iI mg)) rfl dX8_read_71 ?_
                refine z_iadd F (pc := 74) dX8_read_74 ?_
                refine z_icmp_lt F (pc := 75) 82 dX8_read_75 (by decide) (by omega) (fun c_75 => ?_) (fun c_75 => ?_)
                · skip
                  have hst : zH (((0 : Int) = 1 ∧ (dn nm2_1 pt kd z_1 ≤ en ∧ ∀ k, 0 ≤ k → k < t + 1 → lb k = lb z_1 ∨ dn nm2_1 pt kd z_1 + mg ≤ dn nm2_1 pt kd k)) ∨ ((0 : Int) = 0 ∧ ¬ goodR nm2_1 pt kd lb mn en mg z_1)) := by
                    rcases g3.o with ⟨q1, q2, q3⟩ | ⟨q1, q2⟩
                    · refine Or.inr ⟨rfl, fun z => ?_⟩
                      have := z.2 t g1.1 (by omega)
                      omega
                    · exact Or.inr ⟨rfl, q2⟩
                  refine z_iconst F (pc := 82) (0) dX8_read_82 ?_
                  refine z_istoren F (pc := 83) hl (lv' := [(3, .int (iI 0)), (4, .int (iI t)), (2, .int (iI (dn nm2_1 pt kd z_1))), (1, .int (iI z_1)), (0, .ref (aR 0))]) dX8_read_83 rfl (by decide) rfl (fun ls hl => ?_)
                  refine z_iinc F (pc := 84) hl (lv' := [(4, .int (iI (t + 1))), (3, .int (iI 0)), (2, .int (iI (dn nm2_1 pt kd z_1))), (1, .int (iI z_1)), (0, .ref (aR 0))]) dX8_read_84 (k := 1) rfl (by decide) rfl (fun ls hl => ?_)
                  refine z_goto F (pc := 87) 34 dX8_read_87 (by decide) ?_
                  exact ih_34 0 (t + 1) le2_66 _ _ _ (by omega) (by omega) (by omega) (by exact hst) (lv_sub hl [0, 1, 2, 3, 4] rfl) hW
                · skip
                  have hst : zH (((1 : Int) = 1 ∧ (dn nm2_1 pt kd z_1 ≤ en ∧ ∀ k, 0 ≤ k → k < t + 1 → lb k = lb z_1 ∨ dn nm2_1 pt kd z_1 + mg ≤ dn nm2_1 pt kd k)) ∨ ((1 : Int) = 0 ∧ ¬ goodR nm2_1 pt kd lb mn en mg z_1)) := by
                    rcases g3.o with ⟨q1, q2, q3⟩ | ⟨q1, q2⟩
                    · refine Or.inl ⟨rfl, q2, fun k k0 k1 => ?_⟩
                      by_cases e : k = t
                      · rw [e]; omega
                      · exact q3 k k0 (by omega)
                    · omega
                  refine z_iconst F (pc := 78) (1) dX8_read_78 ?_
                  refine z_goto F (pc := 79) 83 dX8_read_79 (by decide) ?_
                  refine z_istoren F (pc := 83) hl (lv' := [(3, .int (iI 1)), (4, .int (iI t)), (2, .int (iI (dn nm2_1 pt kd z_1))), (1, .int (iI z_1)), (0, .ref (aR 0))]) dX8_read_83 rfl (by decide) rfl (fun ls hl => ?_)
                  refine z_iinc F (pc := 84) hl (lv' := [(4, .int (iI (t + 1))), (3, .int (iI 1)), (2, .int (iI (dn nm2_1 pt kd z_1))), (1, .int (iI z_1)), (0, .ref (aR 0))]) dX8_read_84 (k := 1) rfl (by decide) rfl (fun ls hl => ?_)
                  refine z_goto F (pc := 87) 34 dX8_read_87 (by decide) ?_
                  exact ih_34 1 (t + 1) le2_66 _ _ _ (by omega) (by omega) (by omega) (by exact hst) (lv_sub hl [0, 1, 2, 3, 4] rfl) hW
      exact cut_34 _ 0 0 le2_13 _ _ _ (Nat.lt_succ_self _) (by omega) (by omega) (by first | exact Or.inl ⟨rfl, by omega, fun k k0 k1 => by omega⟩ | exact Or.inr ⟨rfl, fun z => absurd z.1 (by omega)⟩) (lv_sub hl [0, 1, 2, 3, 4] rfl) hW
    · skip
      refine z_iconst F (pc := 25) (1) dX8_read_25 ?_
      refine z_goto F (pc := 26) 30 dX8_read_26 (by decide) ?_
      refine z_istoren F (pc := 30) hl (lv' := [(3, .int (iI 1)), (2, .int (iI (dn nm2_1 pt kd z_1))), (1, .int (iI z_1)), (0, .ref (aR 0))]) dX8_read_30 rfl (by decide) rfl (fun ls hl => ?_)
      refine z_iconst F (pc := 31) (0) dX8_read_31 ?_
      refine z_istore F (pc := 32) hl (lv' := [(4, .int (iI 0)), (3, .int (iI 1)), (2, .int (iI (dn nm2_1 pt kd z_1))), (1, .int (iI z_1)), (0, .ref (aR 0))]) dX8_read_32 (by decide) rfl (fun ls hl => ?_)
      have cut_34 : ∀ (fuel : Nat) (gd : Int) (t : Int) (le1 : Int → Int) (H : Heap) (locs : List Loc) (ls : Array Slot), (mn - t).toNat < fuel → (0 ≤ t ∧ t ≤ mn) → (gd = 0 ∨ gd = 1) → (zH ((gd = 1 ∧ (dn nm2_1 pt kd z_1 ≤ en ∧ ∀ k, 0 ≤ k → k < t → lb k = lb z_1 ∨ dn nm2_1 pt kd z_1 + mg ≤ dn nm2_1 pt kd k)) ∨ (gd = 0 ∧ ¬ goodR nm2_1 pt kd lb mn en mg z_1))) → lv_has ls 5 [(4, .int (iI t)), (3, .int (iI gd)), (2, .int (iI (dn nm2_1 pt kd z_1))), (1, .int (iI z_1)), (0, .ref (aR 0))] → zW D A s.heap H locs (wR cI cZ aR xs ys lf ev2_1 nm2_1 lb kd pt so nu al ak ap he2_1 le1 rw cx cr cl ll tl ts tc sz mn ac en mg ln cn wc wp) → W p l e ({ frames := 7, cells := 0, slots := 0, locals := 161 } : Room) s m ([.ref (aR 0)] : List Value).toArray below meth c H locs 0 0 Q (F0 m 34 ls []) := by
        intro fuel
        induction fuel with
        | zero => intro gd t le1 H locs ls hm; exact absurd hm (Nat.not_lt_zero _)
        | succ fuel ih_34 =>
          intro gd t le1 H locs ls hm_34 g1 g2 g3 hl hW
          refine z_iload F (pc := 34) dX8_read_34 (lv_at hl 0 rfl) ?_
          refine z_aloadn F (pc := 36) dX8_read_36 rfl (lv_at hl 4 rfl) ?_
          refine z_get F (pc := 37) (C := RX8) (T := TX8) (N := 32) (ci := 8) inX8 hK hW 0 6 rfl rfl (by decide) rfl (List.mem_of_getElem? (i := 2) rfl) (v := .int (iI mn)) rfl dX8_read_37 ?_
          refine z_icmp_ge F (pc := 40) 90 dX8_read_40 (by decide) (by omega) (fun c_40 => ?_) (fun c_40 => ?_)
          · skip
            have hgd : (gd = 1 ∧ goodR nm2_1 pt kd lb mn en mg z_1) ∨ (gd = 0 ∧ ¬ goodR nm2_1 pt kd lb mn en mg z_1) := by
              rw [show t = mn by omega] at g3
              exact g3
            refine z_iloadn F (pc := 90) dX8_read_90 rfl (lv_at hl 1 rfl) ?_
            refine z_if_eq F (pc := 91) 103 dX8_read_91 (by decide) (by omega) (fun c_91 => ?_) (fun c_91 => ?_)
            · skip
              refine z_bipush F (pc := 103) (-5) (by decide +kernel) dX8_read_103 ?_
              exact hret _ _ _ _ (-5) (ev2_1, nm2_1, he2_1, le1) dX8_read_105 (by omega) (by (try dsimp only) <;> (first | exact ⟨Or.inr (Or.inr ⟨h3.1, h3.2.1, nm2_1, z_1, h3.2.2.1, h3.2.2.2.2, Or.inl ⟨hgd.elim (fun q => q.2) (fun q => by omega), rfl⟩⟩), by omega⟩ | exact ⟨Or.inr (Or.inr ⟨h3.1, h3.2.1, nm2_1, z_1, h3.2.2.1, h3.2.2.2.2, Or.inr ⟨hgd.elim (fun q => by omega) (fun q => q.2), rfl⟩⟩), by omega⟩)) hW
            · skip
              refine z_aloadn F (pc := 94) dX8_read_94 rfl (lv_at hl 4 rfl) ?_
              refine z_get F (pc := 95) (C := RX8) (T := TX8) (N := 32) (ci := 8) inX8 hK hW 0 7 rfl rfl (by decide) rfl (List.mem_of_getElem? (i := 3) rfl) (v := .ref (aR 6)) rfl dX8_read_95 ?_
              refine z_iloadn F (pc := 98) dX8_read_98 rfl (lv_at hl 3 rfl) ?_
              refine z_iald F (pc := 99) hK hW 6 rfl (by decide) dX8_read_99 (by omega) ?_
              refine z_goto F (pc := 100) 105 dX8_read_100 (by decide) ?_
              exact hret _ _ _ _ (lb z_1) (ev2_1, nm2_1, he2_1, le1) dX8_read_105 (by omega) (by (try dsimp only) <;> (first | exact ⟨Or.inr (Or.inr ⟨h3.1, h3.2.1, nm2_1, z_1, h3.2.2.1, h3.2.2.2.2, Or.inl ⟨hgd.elim (fun q => q.2) (fun q => by omega), rfl⟩⟩), by omega⟩ | exact ⟨Or.inr (Or.inr ⟨h3.1, h3.2.1, nm2_1, z_1, h3.2.2.1, h3.2.2.2.2, Or.inr ⟨hgd.elim (fun q => by omega) (fun q => q.2), rfl⟩⟩), by omega⟩)) hW
          · skip
            have hlt := hlb t g1.1 (by omega)
            have hdt := dn_b (kd := kd) hinN hpt (k := t) ⟨g1.1, by omega⟩
            refine z_iloadn F (pc := 43) dX8_read_43 rfl (lv_at hl 1 rfl) ?_
            refine z_if_eq F (pc := 44) 82 dX8_read_44 (by decide) (by omega) (fun c_44 => ?_) (fun c_44 => ?_)
            · skip
              have hst : zH (((0 : Int) = 1 ∧ (dn nm2_1 pt kd z_1 ≤ en ∧ ∀ k, 0 ≤ k → k < t + 1 → lb k = lb z_1 ∨ dn nm2_1 pt kd z_1 + mg ≤ dn nm2_1 pt kd k)) ∨ ((0 : Int) = 0 ∧ ¬ goodR nm2_1 pt kd lb mn en mg z_1)) := by
                rcases g3.o with ⟨q1, q2, q3⟩ | ⟨q1, q2⟩
                · refine Or.inr ⟨rfl, fun z => ?_⟩
                  have := z.2 t g1.1 (by omega)
                  omega
                · exact Or.inr ⟨rfl, q2⟩
              refine z_iconst F (pc := 82) (0) dX8_read_82 ?_
              refine z_istoren F (pc := 83) hl (lv' := [(3, .int (iI 0)), (4, .int (iI t)), (2, .int (iI (dn nm2_1 pt kd z_1))), (1, .int (iI z_1)), (0, .ref (aR 0))]) dX8_read_83 rfl (by decide) rfl (fun ls hl => ?_)
              refine z_iinc F (pc := 84) hl (lv' := [(4, .int (iI (t + 1))), (3, .int (iI 0)), (2, .int (iI (dn nm2_1 pt kd z_1))), (1, .int (iI z_1)), (0, .ref (aR 0))]) dX8_read_84 (k := 1) rfl (by decide) rfl (fun ls hl => ?_)
              refine z_goto F (pc := 87) 34 dX8_read_87 (by decide) ?_
              exact ih_34 0 (t + 1) le1 _ _ _ (by omega) (by omega) (by omega) (by exact hst) (lv_sub hl [0, 1, 2, 3, 4] rfl) hW
            · skip
              refine z_aloadn F (pc := 47) dX8_read_47 rfl (lv_at hl 4 rfl) ?_
              refine z_get F (pc := 48) (C := RX8) (T := TX8) (N := 32) (ci := 8) inX8 hK hW 0 7 rfl rfl (by decide) rfl (List.mem_of_getElem? (i := 3) rfl) (v := .ref (aR 6)) rfl dX8_read_48 ?_
              refine z_iload F (pc := 51) dX8_read_51 (lv_at hl 0 rfl) ?_
              refine z_iald F (pc := 53) hK hW 6 rfl (by decide) dX8_read_53 (by omega) ?_
              refine z_aloadn F (pc := 54) dX8_read_54 rfl (lv_at hl 4 rfl) ?_
              refine z_get F (pc := 55) (C := RX8) (T := TX8) (N := 32) (ci := 8) inX8 hK hW 0 7 rfl rfl (by decide) rfl (List.mem_of_getElem? (i := 3) rfl) (v := .ref (aR 6)) rfl dX8_read_55 ?_
              refine z_iloadn F (pc := 58) dX8_read_58 rfl (lv_at hl 3 rfl) ?_
              refine z_iald F (pc := 59) hK hW 6 rfl (by decide) dX8_read_59 (by omega) ?_
              refine z_icmp_eq F (pc := 60) 78 dX8_read_60 (by decide) (by omega) (fun c_60 => ?_) (fun c_60 => ?_)
              · skip
                have hst : zH (((1 : Int) = 1 ∧ (dn nm2_1 pt kd z_1 ≤ en ∧ ∀ k, 0 ≤ k → k < t + 1 → lb k = lb z_1 ∨ dn nm2_1 pt kd z_1 + mg ≤ dn nm2_1 pt kd k)) ∨ ((1 : Int) = 0 ∧ ¬ goodR nm2_1 pt kd lb mn en mg z_1)) := by
                  rcases g3.o with ⟨q1, q2, q3⟩ | ⟨q1, q2⟩
                  · refine Or.inl ⟨rfl, q2, fun k k0 k1 => ?_⟩
                    by_cases e : k = t
                    · rw [e]; omega
                    · exact q3 k k0 (by omega)
                  · omega
                refine z_iconst F (pc := 78) (1) dX8_read_78 ?_
                refine z_goto F (pc := 79) 83 dX8_read_79 (by decide) ?_
                refine z_istoren F (pc := 83) hl (lv' := [(3, .int (iI 1)), (4, .int (iI t)), (2, .int (iI (dn nm2_1 pt kd z_1))), (1, .int (iI z_1)), (0, .ref (aR 0))]) dX8_read_83 rfl (by decide) rfl (fun ls hl => ?_)
                refine z_iinc F (pc := 84) hl (lv' := [(4, .int (iI (t + 1))), (3, .int (iI 1)), (2, .int (iI (dn nm2_1 pt kd z_1))), (1, .int (iI z_1)), (0, .ref (aR 0))]) dX8_read_84 (k := 1) rfl (by decide) rfl (fun ls hl => ?_)
                refine z_goto F (pc := 87) 34 dX8_read_87 (by decide) ?_
                exact ih_34 1 (t + 1) le1 _ _ _ (by omega) (by omega) (by omega) (by exact hst) (lv_sub hl [0, 1, 2, 3, 4] rfl) hW
              · skip
                refine z_aloadn F (pc := 63) dX8_read_63 rfl (lv_at hl 4 rfl) ?_
                refine z_iload F (pc := 64) dX8_read_64 (lv_at hl 0 rfl) ?_
                refine z_callVi F (pc := 66) hK hW hA (As := [.int (iI t)]) (rest := []) (ws' := fun (u : (Int → Int) × (Int → Int)) => wR cI cZ aR xs ys lf ev2_1 nm2_1 lb kd pt so nu al ak ap u.1 u.2 rw cx cr cl ll tl ts tc sz mn ac en mg ln cn wc wp) (wr := ([])) (c_X8_distanceOf l D cI cZ aR xs ys lf ev2_1 nm2_1 lb kd pt so nu al ak ap he2_1 le1 rw cx cr cl ll tl ts tc sz mn ac en mg ln cn wc wp t _ (by omega) (by exact hin) (by exact Pok_in hpt ⟨g1.1, by omega⟩) (by omega) (by exact hkd t g1.1 (by omega))) (cwV 1 F.2.2.2.2 gX8_read_X8_distanceOf rfl rfl rfl (by decide +kernel) ⟨Nat.le_of_ble_eq_true rfl, Nat.le_of_ble_eq_true rfl⟩) [0, 1, 2, 3, 4, 5, 6, 7, 8, 9, 10, 11, 12, 13, 14, 15, 16, 17, 18, 19, 20, 21, 22, 23] [] [0, 1, 2, 3, 4, 5, 6, 7, 8, 9, 10, 11, 12, 13, 14, 15, 16, 17, 18, 19, 20, 21, 22, 23] rfl rfl (by decide) (by decide) (by decide) (fun _ => rfl) (by decide) (q0 := 0) (ci := 8) rfl rfl rfl rfl rfl hl.1 (Nat.le_of_ble_eq_true rfl) dX8_read_66 ⟨Nat.le_of_ble_eq_true rfl, Nat.le_of_ble_eq_true rfl⟩ (fun z_66 u H locs r_z_66 hp_66 hW => ?_)
                obtain ⟨he2_66, le2_66⟩ := u
                dsimp only at hp_66 hW
                have kp_he2_66 : he2_1 = he2_66 := (hp_66.2).symm
                subst kp_he2_66
                obtain ⟨e_z_66, hp_66⟩ := hp_66
                replace e_z_66 := e_z_66.symm
                subst e_z_66
                refine z_eqi (y := dn nm2_1 pt kd t) (by exact dF_cong h3.2.2.2.1 _ _ _) ?_
                refine z_iloadn F (pc := 69) dX8_read_69 rfl (lv_at hl 2 rfl) ?_
                refine z_aloadn F (pc := 70) dX8_read_70 rfl (lv_at hl 4 rfl) ?_
                refine z_get F (pc := 71) (C := RX8) (T := TX8) (N := 32) (ci := 8) inX8 hK hW 0 17 rfl rfl (by decide) rfl (List.mem_of_getElem? (i := 4) rfl) (v := .int (iI mg)) rfl dX8_read_71 ?_
                refine z_iadd F (pc := 74) dX8_read_74 ?_
                refine z_icmp_lt F (pc := 75) 82 dX8_read_75 (by decide) (by omega) (fun c_75 => ?_) (fun c_75 => ?_)
                · skip
                  have hst : zH (((0 : Int) = 1 ∧ (dn nm2_1 pt kd z_1 ≤ en ∧ ∀ k, 0 ≤ k → k < t + 1 → lb k = lb z_1 ∨ dn nm2_1 pt kd z_1 + mg ≤ dn nm2_1 pt kd k)) ∨ ((0 : Int) = 0 ∧ ¬ goodR nm2_1 pt kd lb mn en mg z_1)) := by
                    rcases g3.o with ⟨q1, q2, q3⟩ | ⟨q1, q2⟩
                    · refine Or.inr ⟨rfl, fun z => ?_⟩
                      have := z.2 t g1.1 (by omega)
                      omega
                    · exact Or.inr ⟨rfl, q2⟩
                  refine z_iconst F (pc := 82) (0) dX8_read_82 ?_
                  refine z_istoren F (pc := 83) hl (lv' := [(3, .int (iI 0)), (4, .int (iI t)), (2, .int (iI (dn nm2_1 pt kd z_1))), (1, .int (iI z_1)), (0, .ref (aR 0))]) dX8_read_83 rfl (by decide) rfl (fun ls hl => ?_)
                  refine z_iinc F (pc := 84) hl (lv' := [(4, .int (iI (t + 1))), (3, .int (iI 0)), (2, .int (iI (dn nm2_1 pt kd z_1))), (1, .int (iI z_1)), (0, .ref (aR 0))]) dX8_read_84 (k := 1) rfl (by decide) rfl (fun ls hl => ?_)
                  refine z_goto F (pc := 87) 34 dX8_read_87 (by decide) ?_
                  exact ih_34 0 (t + 1) le2_66 _ _ _ (by omega) (by omega) (by omega) (by exact hst) (lv_sub hl [0, 1, 2, 3, 4] rfl) hW
                · skip
                  have hst : zH (((1 : Int) = 1 ∧ (dn nm2_1 pt kd z_1 ≤ en ∧ ∀ k, 0 ≤ k → k < t + 1 → lb k = lb z_1 ∨ dn nm2_1 pt kd z_1 + mg ≤ dn nm2_1 pt kd k)) ∨ ((1 : Int) = 0 ∧ ¬ goodR nm2_1 pt kd lb mn en mg z_1)) := by
                    rcases g3.o with ⟨q1, q2, q3⟩ | ⟨q1, q2⟩
                    · refine Or.inl ⟨rfl, q2, fun k k0 k1 => ?_⟩
                      by_cases e : k = t
                      · rw [e]; omega
                      · exact q3 k k0 (by omega)
                    · omega
                  refine z_iconst F (pc := 78) (1) dX8_read_78 ?_
                  refine z_goto F (pc := 79) 83 dX8_read_79 (by decide) ?_
                  refine z_istoren F (pc := 83) hl (lv' := [(3, .int (iI 1)), (4, .int (iI t)), (2, .int (iI (dn nm2_1 pt kd z_1))), (1, .int (iI z_1)), (0, .ref (aR 0))]) dX8_read_83 rfl (by decide) rfl (fun ls hl => ?_)
                  refine z_iinc F (pc := 84) hl (lv' := [(4, .int (iI (t + 1))), (3, .int (iI 1)), (2, .int (iI (dn nm2_1 pt kd z_1))), (1, .int (iI z_1)), (0, .ref (aR 0))]) dX8_read_84 (k := 1) rfl (by decide) rfl (fun ls hl => ?_)
                  refine z_goto F (pc := 87) 34 dX8_read_87 (by decide) ?_
                  exact ih_34 1 (t + 1) le2_66 _ _ _ (by omega) (by omega) (by omega) (by exact hst) (lv_sub hl [0, 1, 2, 3, 4] rfl) hW
      exact cut_34 _ 1 0 le2_13 _ _ _ (Nat.lt_succ_self _) (by omega) (by omega) (by first | exact Or.inl ⟨rfl, by omega, fun k k0 k1 => by omega⟩ | exact Or.inr ⟨rfl, fun z => absurd z.1 (by omega)⟩) (lv_sub hl [0, 1, 2, 3, 4] rfl) hW
  · skip
    have h4 : readR xs ys lf sz pt kd lb mn en mg z_1 ∧ -5 ≤ z_1 ∧ z_1 ≤ 9 := by
      rcases hp_1.o with ⟨a, b⟩ | ⟨a, b, c⟩ | h3
      · exact ⟨Or.inl ⟨a, b⟩, by omega⟩
      · exact ⟨Or.inr (Or.inl ⟨a, b, c⟩), by omega⟩
      · have := h3.2.2.2.2.1; omega
    refine z_iloadn F (pc := 9) dX8_read_9 rfl (lv_at hl 0 rfl) ?_
    exact hret _ _ _ _ z_1 (ev2_1, nm2_1, he2_1, le2_1) dX8_read_10 (by omega) (by (try dsimp only) <;> (exact h4)) hW

def markR (P : Int → Prop) (rw : Int → Int) (ln sz : Int) (rw2 : Int → Int) (ln2 sz2 r : Int) : Prop := (P r ∧ r < 0 ∧ rw2 = rw ∧ ln2 = ln ∧ sz2 = sz) ∨ (∃ q, P q ∧ 0 ≤ q ∧ 40 ≤ ln ∧ r = -3 ∧ rw2 = rw ∧ ln2 = ln ∧ sz2 = sz) ∨ (P r ∧ 0 ≤ r ∧ r ≤ 9 ∧ ln < 40 ∧ rw2 = zU rw ln r ∧ ln2 = ln + 1 ∧ sz2 = 0)

set_option maxHeartbeats 4000000 in
set_option maxRecDepth 100000 in
theorem c_X8_mark (l : Launch) (D : va_G) (cI cZ : ClassId) (aR : Nat → Nat) (xs ys lf ev nm lb kd pt so nu al ak ap he le rw cx cr cl ll tl ts tc : Int → Int) (sz mn ac en mg ln cn wc wp : Int) (sz0 : Nat) (hd : Dok xs ys lf sz) (hm : (0 ≤ mn ∧ mn ≤ 16)) (hkd : Kok kd mn) (hpt : Pok pt mn) (hlb : Lok lb mn) (he9 : (0 ≤ en ∧ en ≤ 100000) ∧ (0 ≤ mg ∧ mg ≤ 100000)) (hln : 0 ≤ ln ∧ ln ≤ 40) : Met l yX8_mark wsX8_mark ({ frames := 8, cells := 0, slots := 0, locals := 185 } : Room) (zPc D cI cZ [.ref (aR 0)] (wR cI cZ aR xs ys lf ev nm lb kd pt so nu al ak ap he le rw cx cr cl ll tl ts tc sz mn ac en mg ln cn wc wp) sz0) (zQi D cI cZ (wR cI cZ aR xs ys lf ev nm lb kd pt so nu al ak ap he le rw cx cr cl ll tl ts tc sz mn ac en mg ln cn wc wp) sz0 (fun (r : Int) (u : (Int → Int) × (Int → Int) × (Int → Int) × (Int → Int) × (Int → Int) × (Int) × (Int)) => markR (readR xs ys lf sz pt kd lb mn en mg) rw ln sz u.2.2.2.2.1 u.2.2.2.2.2.1 u.2.2.2.2.2.2 r) (fun (u : (Int → Int) × (Int → Int) × (Int → Int) × (Int → Int) × (Int → Int) × (Int) × (Int)) => wR cI cZ aR xs ys lf u.1 u.2.1 lb kd pt so nu al ak ap u.2.2.1 u.2.2.2.1 u.2.2.2.2.1 cx cr cl ll tl ts tc u.2.2.2.2.2.2 mn ac en mg u.2.2.2.2.2.1 cn wc wp)) 0 0 (va_A (wR cI cZ aR xs ys lf ev nm lb kd pt so nu al ak ap he le rw cx cr cl ll tl ts tc sz mn ac en mg ln cn wc wp) sz0) := by
  refine z_ofI (maxL := 2) (plainFor_of_name (by decide)) rfl (Nat.le_of_ble_eq_true rfl) (Or.inl rfl) ?_
  intro p e s m below meth c A ls Q F hK hW hA hl hret
  have hl : lv_has ls 2 [(0, .ref (aR 0))] := hl
  have inX8 : ∀ w ∈ u_ws RX8 TX8 32, w ∈ wsX8_mark := fun _ h => List.mem_cons_of_mem _ (List.mem_append_right _ h)
  refine z_aloadn F (pc := 0) dX8_mark_0 rfl (lv_at hl 0 rfl) ?_
  refine z_callVi F (pc := 1) hK hW hA (As := []) (rest := []) (ws' := fun (u : (Int → Int) × (Int → Int) × (Int → Int) × (Int → Int)) => wR cI cZ aR xs ys lf u.1 u.2.1 lb kd pt so nu al ak ap u.2.2.1 u.2.2.2 rw cx cr cl ll tl ts tc sz mn ac en mg ln cn wc wp) (wr := ([])) (c_X8_read l D cI cZ aR xs ys lf ev nm lb kd pt so nu al ak ap he le rw cx cr cl ll tl ts tc sz mn ac en mg ln cn wc wp _ (by exact hd) (by omega) (by exact hkd) (by exact hpt) (by exact hlb) (by omega)) (cwV 0 F.2.2.2.2 gX8_mark_X8_read rfl rfl rfl (by decide +kernel) ⟨Nat.le_of_ble_eq_true rfl, Nat.le_of_ble_eq_true rfl⟩) [0, 1, 2, 3, 4, 5, 6, 7, 8, 9, 10, 11, 12, 13, 14, 15, 16, 17, 18, 19, 20, 21, 22, 23] [] [0, 1, 2, 3, 4, 5, 6, 7, 8, 9, 10, 11, 12, 13, 14, 15, 16, 17, 18, 19, 20, 21, 22, 23] rfl rfl (by decide) (by decide) (by decide) (fun _ => rfl) (by decide) (q0 := 0) (ci := 8) rfl rfl rfl rfl rfl hl.1 (Nat.le_of_ble_eq_true rfl) dX8_mark_1 ⟨Nat.le_of_ble_eq_true rfl, Nat.le_of_ble_eq_true rfl⟩ (fun z_1 u H locs r_z_1 hp_1 hW => ?_)
  obtain ⟨ev2_1, nm2_1, he2_1, le2_1⟩ := u
  dsimp only at hp_1 hW
  refine z_istoren F (pc := 4) hl (lv' := [(1, .int (iI z_1)), (0, .ref (aR 0))]) dX8_mark_4 rfl (by decide) rfl (fun ls hl => ?_)
  refine z_iloadn F (pc := 5) dX8_mark_5 rfl (lv_at hl 0 rfl) ?_
  refine z_if_ge F (pc := 6) 11 dX8_mark_6 (by decide) (by omega) (fun c_6 => ?_) (fun c_6 => ?_)
  · skip
    refine z_aloadn F (pc := 11) dX8_mark_11 rfl (lv_at hl 1 rfl) ?_
    refine z_get F (pc := 12) (C := RX8) (T := TX8) (N := 32) (ci := 8) inX8 hK hW 0 20 rfl rfl (by decide) rfl (List.mem_of_getElem? (i := 1) rfl) (v := .int (iI ln)) rfl dX8_mark_12 ?_
    refine z_bipush F (pc := 15) (40) (by decide +kernel) dX8_mark_15 ?_
    refine z_icmp_ne F (pc := 17) 23 dX8_mark_17 (by decide) (by omega) (fun c_17 => ?_) (fun c_17 => ?_)
    · skip
      refine z_aloadn F (pc := 23) dX8_mark_23 rfl (lv_at hl 1 rfl) ?_
      refine z_get F (pc := 24) (C := RX8) (T := TX8) (N := 32) (ci := 8) inX8 hK hW 0 21 rfl rfl (by decide) rfl (List.mem_of_getElem? (i := 2) rfl) (v := .ref (aR 16)) rfl dX8_mark_24 ?_
      refine z_aloadn F (pc := 27) dX8_mark_27 rfl (lv_at hl 1 rfl) ?_
      refine z_get F (pc := 28) (C := RX8) (T := TX8) (N := 32) (ci := 8) inX8 hK hW 0 20 rfl rfl (by decide) rfl (List.mem_of_getElem? (i := 1) rfl) (v := .int (iI ln)) rfl dX8_mark_28 ?_
      refine z_iloadn F (pc := 31) dX8_mark_31 rfl (lv_at hl 0 rfl) ?_
      refine z_iast F (pc := 32) hK hW (ws' := wR cI cZ aR xs ys lf ev2_1 nm2_1 lb kd pt so nu al ak ap he2_1 le2_1 (zU rw ln z_1) cx cr cl ll tl ts tc sz mn ac en mg ln cn wc wp) 16 rfl (by decide) dX8_mark_32 (by omega) rfl (fun H locs hW => ?_)
      refine z_aloadn F (pc := 33) dX8_mark_33 rfl (lv_at hl 1 rfl) ?_
      refine z_dup F (pc := 34) dX8_mark_34 rfl ?_
      refine z_get F (pc := 35) (C := RX8) (T := TX8) (N := 32) (ci := 8) inX8 hK hW 0 20 rfl rfl (by decide) rfl (List.mem_of_getElem? (i := 1) rfl) (v := .int (iI ln)) rfl dX8_mark_35 ?_
      refine z_iconst F (pc := 38) (1) dX8_mark_38 ?_
      refine z_iadd F (pc := 39) dX8_mark_39 ?_
      refine z_put F (pc := 40) (C := RX8) (T := TX8) (N := 32) (ci := 8) inX8 tyX8 tyX8_ok nmX8 hK hW (ws' := wR cI cZ aR xs ys lf ev2_1 nm2_1 lb kd pt so nu al ak ap he2_1 le2_1 (zU rw ln z_1) cx cr cl ll tl ts tc sz mn ac en mg (ln + 1) cn wc wp) 0 20 rfl rfl (by decide) rfl (List.mem_of_getElem? (i := 1) rfl) rfl rfl (Nat.le_of_ble_eq_true rfl) dX8_mark_40 rfl (fun H locs hW => ?_)
      refine z_aloadn F (pc := 43) dX8_mark_43 rfl (lv_at hl 1 rfl) ?_
      refine z_iconst F (pc := 44) (0) dX8_mark_44 ?_
      refine z_put F (pc := 45) (C := RX8) (T := TX8) (N := 32) (ci := 8) inX8 tyX8 tyX8_ok nmX8 hK hW (ws' := wR cI cZ aR xs ys lf ev2_1 nm2_1 lb kd pt so nu al ak ap he2_1 le2_1 (zU rw ln z_1) cx cr cl ll tl ts tc 0 mn ac en mg (ln + 1) cn wc wp) 0 0 rfl rfl (by decide) rfl (List.mem_of_getElem? (i := 3) rfl) rfl rfl (Nat.le_of_ble_eq_true rfl) dX8_mark_45 rfl (fun H locs hW => ?_)
      refine z_iloadn F (pc := 48) dX8_mark_48 rfl (lv_at hl 0 rfl) ?_
      exact hret _ _ _ _ z_1 (ev2_1, nm2_1, he2_1, le2_1, (zU rw ln z_1), (ln + 1), 0) dX8_mark_49 (by omega) (by (try dsimp only) <;> (exact Or.inr (Or.inr ⟨hp_1.1, by omega, by omega, by omega, rfl, rfl, rfl⟩))) hW
    · skip
      refine z_bipush F (pc := 20) (-3) (by decide +kernel) dX8_mark_20 ?_
      exact hret _ _ _ _ (-3) (ev2_1, nm2_1, he2_1, le2_1, rw, ln, sz) dX8_mark_22 (by omega) (by (try dsimp only) <;> (exact Or.inr (Or.inl ⟨z_1, hp_1.1, by omega, by omega, rfl, rfl, rfl, rfl⟩))) hW
  · skip
    refine z_iloadn F (pc := 9) dX8_mark_9 rfl (lv_at hl 0 rfl) ?_
    exact hret _ _ _ _ z_1 (ev2_1, nm2_1, he2_1, le2_1, rw, ln, sz) dX8_mark_10 (by omega) (by (try dsimp only) <;> (exact Or.inl ⟨hp_1.1, by omega, rfl, rfl, rfl⟩)) hW

set_option maxHeartbeats 4000000 in
set_option maxRecDepth 100000 in
theorem c_X8_confused (l : Launch) (D : va_G) (cI cZ : ClassId) (aR : Nat → Nat) (xs ys lf ev nm lb kd pt so nu al ak ap he le rw cx cr cl ll tl ts tc : Int → Int) (sz mn ac en mg ln cn wc wp : Int) (l1 d1 : Int) (sz0 : Nat) (r_l1 : (-2147483648 ≤ l1 ∧ l1 < 2147483648)) (r_d1 : (-2147483648 ≤ d1 ∧ d1 < 2147483648)) (hm : (0 ≤ mn ∧ mn ≤ 16)) (hkd : Kok kd mn) (hpt : Pok pt mn) (hlb : Lok lb mn) : Met l yX8_confused wsX8_confused ({ frames := 5, cells := 0, slots := 0, locals := 117 } : Room) (zPc D cI cZ [.ref (aR 0), .int (iI l1), .int (iI d1)] (wR cI cZ aR xs ys lf ev nm lb kd pt so nu al ak ap he le rw cx cr cl ll tl ts tc sz mn ac en mg ln cn wc wp) sz0) (zQi D cI cZ (wR cI cZ aR xs ys lf ev nm lb kd pt so nu al ak ap he le rw cx cr cl ll tl ts tc sz mn ac en mg ln cn wc wp) sz0 (fun (r : Int) (u : (Int → Int) × (Int → Int)) => confR pt kd lb mn l1 d1 r) (fun (u : (Int → Int) × (Int → Int)) => wR cI cZ aR xs ys lf ev nm lb kd pt so nu al ak ap u.1 u.2 rw cx cr cl ll tl ts tc sz mn ac en mg ln cn wc wp)) 0 0 (va_A (wR cI cZ aR xs ys lf ev nm lb kd pt so nu al ak ap he le rw cx cr cl ll tl ts tc sz mn ac en mg ln cn wc wp) sz0) := by
  refine z_ofI (maxL := 7) (plainFor_of_name (by decide)) rfl (Nat.le_of_ble_eq_true rfl) (Or.inl rfl) ?_
  intro p e s m below meth c A ls Q F hK hW hA hl hret
  have hl : lv_has ls 7 [(0, .ref (aR 0)), (1, .int (iI l1)), (2, .int (iI d1))] := hl
  have inX8 : ∀ w ∈ u_ws RX8 TX8 32, w ∈ wsX8_confused := fun _ h => List.mem_cons_of_mem _ (List.mem_append_right _ h)
  refine z_iloadn F (pc := 0) dX8_confused_0 rfl (lv_at hl 1 rfl) ?_
  refine z_i2l F (pc := 1) dX8_confused_1 (by omega) ?_
  refine z_lconst F (pc := 2) (0) (by decide +kernel) dX8_confused_2 ?_
  refine z_ldc2 F (pc := 3) (9) (by decide +kernel) (List.mem_of_getElem? (i := 1) rfl) dX8_confused_3 ?_
  refine z_callSi F (pc := 6) hK hW hA (As := [.long (lI l1), .long (lI 0), .long (lI 9)]) (rest := []) (c_X8_in l D cI cZ l1 0 9 _ (by omega) (by omega) (by omega)) (va_cwS 3 F.2.2.2.2 gX8_confused_X8_in rfl rfl rfl (by decide +kernel) ⟨Nat.le_of_ble_eq_true rfl, Nat.le_of_ble_eq_true rfl⟩) rfl rfl hl.1 (Nat.le_of_ble_eq_true rfl) dX8_confused_6 ⟨Nat.le_of_ble_eq_true rfl, Nat.le_of_ble_eq_true rfl⟩ (fun z_6 H locs r_z_6 hp_6 hW => ?_)
  refine z_if_eq F (pc := 9) 24 dX8_confused_9 (by decide) (by omega) (fun c_9 => ?_) (fun c_9 => ?_)
  · skip
    have b_9 := zB_f hp_6 c_9
    refine z_iconst F (pc := 24) (-1) dX8_confused_24 ?_
    exact hret _ _ _ _ (-1) (he, le) dX8_confused_25 (by omega) (by (try dsimp only) <;> (exact Or.inl ⟨by omega, rfl⟩)) hW
  · skip
    have b_9 := zB_t hp_6 c_9
    refine z_iloadn F (pc := 12) dX8_confused_12 rfl (lv_at hl 2 rfl) ?_
    refine z_i2l F (pc := 13) dX8_confused_13 (by omega) ?_
    refine z_lconst F (pc := 14) (0) (by decide +kernel) dX8_confused_14 ?_
    refine z_ldc2 F (pc := 15) (100000) (by decide +kernel) (List.mem_of_getElem? (i := 2) rfl) dX8_confused_15 ?_
    refine z_callSi F (pc := 18) hK hW hA (As := [.long (lI d1), .long (lI 0), .long (lI 100000)]) (rest := []) (c_X8_in l D cI cZ d1 0 100000 _ (by omega) (by omega) (by omega)) (va_cwS 3 F.2.2.2.2 gX8_confused_X8_in rfl rfl rfl (by decide +kernel) ⟨Nat.le_of_ble_eq_true rfl, Nat.le_of_ble_eq_true rfl⟩) rfl rfl hl.1 (Nat.le_of_ble_eq_true rfl) dX8_confused_18 ⟨Nat.le_of_ble_eq_true rfl, Nat.le_of_ble_eq_true rfl⟩ (fun z_18 H locs r_z_18 hp_18 hW => ?_)
    refine z_if_ne F (pc := 21) 26 dX8_confused_21 (by decide) (by omega) (fun c_21 => ?_) (fun c_21 => ?_)
    · skip
      have b_21 := zB_t hp_18 c_21
      refine z_iconst F (pc := 26) (0) dX8_confused_26 ?_
      refine z_istoren F (pc := 27) hl (lv' := [(3, .int (iI 0)), (0, .ref (aR 0)), (1, .int (iI l1)), (2, .int (iI d1))]) dX8_confused_27 rfl (by decide) rfl (fun ls hl => ?_)
      refine z_iconst F (pc := 28) (0) dX8_confused_28 ?_
      refine z_istore F (pc := 29) hl (lv' := [(4, .int (iI 0)), (3, .int (iI 0)), (0, .ref (aR 0)), (1, .int (iI l1)), (2, .int (iI d1))]) dX8_confused_29 (by decide) rfl (fun ls hl => ?_)
      have cut_31 : ∀ (fuel : Nat) (my : Int) (a : Int) (h1 : Int → Int) (le1 : Int → Int) (H : Heap) (locs : List Loc) (ls : Array Slot), (mn - a).toNat < fuel → ((0 ≤ a ∧ a ≤ mn) ∧ (0 ≤ my ∧ my ≤ a)) → (my = cfN pt kd lb mn l1 d1 a) → lv_has ls 7 [(4, .int (iI a)), (3, .int (iI my)), (0, .ref (aR 0)), (1, .int (iI l1)), (2, .int (iI d1))] → zW D A s.heap H locs (wR cI cZ aR xs ys lf ev nm lb kd pt so nu al ak ap h1 le1 rw cx cr cl ll tl ts tc sz mn ac en mg ln cn wc wp) → W p l e ({ frames := 5, cells := 0, slots := 0, locals := 117 } : Room) s m ([.ref (aR 0), .int (iI l1), .int (iI d1)] : List Value).toArray below meth c H locs 0 0 Q (F0 m 31 ls []) := by
        intro fuel
        induction fuel with
        | zero => intro my a h1 le1 H locs ls hm; exact absurd hm (Nat.not_lt_zero _)
        | succ fuel ih_31 =>
          intro my a h1 le1 H locs ls hm_31 g1 g2 hl hW
          refine z_iload F (pc := 31) dX8_confused_31 (lv_at hl 0 rfl) ?_
          refine z_aloadn F (pc := 33) dX8_confused_33 rfl (lv_at hl 2 rfl) ?_
          refine z_get F (pc := 34) (C := RX8) (T := TX8) (N := 32) (ci := 8) inX8 hK hW 0 6 rfl rfl (by decide) rfl (List.mem_of_getElem? (i := 3) rfl) (v := .int (iI mn)) rfl dX8_confused_34 ?_
          refine z_icmp_ge F (pc := 37) 138 dX8_confused_37 (by decide) (by omega) (fun c_37 => ?_) (fun c_37 => ?_)
          · skip
            refine z_iloadn F (pc := 138) dX8_confused_138 rfl (lv_at hl 1 rfl) ?_
            exact hret _ _ _ _ my (h1, le1) dX8_confused_139 (by omega) (by (try dsimp only) <;> (exact Or.inr ⟨by omega, by rw [g2, show a = mn by omega]⟩)) hW
          · skip
            have hla := hlb a g1.1.1 (by omega)
            refine z_iconst F (pc := 40) (0) dX8_confused_40 ?_
            refine z_istore F (pc := 41) hl (lv' := [(5, .int (iI 0)), (4, .int (iI a)), (3, .int (iI my)), (0, .ref (aR 0)), (1, .int (iI l1)), (2, .int (iI d1))]) dX8_confused_41 (by decide) rfl (fun ls hl => ?_)
            refine z_iconst F (pc := 43) (0) dX8_confused_43 ?_
            refine z_istore F (pc := 44) hl (lv' := [(6, .int (iI 0)), (5, .int (iI 0)), (4, .int (iI a)), (3, .int (iI my)), (0, .ref (aR 0)), (1, .int (iI l1)), (2, .int (iI d1))]) dX8_confused_44 (by decide) rfl (fun ls hl => ?_)
            have cut_46 : ∀ (fuel : Nat) (is1 : Int) (b : Int) (h3 : Int → Int) (le3 : Int → Int) (H : Heap) (locs : List Loc) (ls : Array Slot), (mn - b).toNat < fuel → ((0 ≤ b ∧ b ≤ mn) ∧ (is1 = 0 ∨ is1 = 1)) → (b = 0 ∨ lb a = l1) → (zH ((is1 = 1 ∧ (∃ b9, (0 ≤ b9 ∧ b9 < b) ∧ ¬ lb b9 = l1 ∧ (bwF pt kd a b9 ≤ d1 ∨ bwF pt kd b9 a ≤ d1))) ∨ (is1 = 0 ∧ ¬ (∃ b9, (0 ≤ b9 ∧ b9 < b) ∧ ¬ lb b9 = l1 ∧ (bwF pt kd a b9 ≤ d1 ∨ bwF pt kd b9 a ≤ d1))))) → lv_has ls 7 [(6, .int (iI b)), (5, .int (iI is1)), (4, .int (iI a)), (3, .int (iI my)), (0, .ref (aR 0)), (1, .int (iI l1)), (2, .int (iI d1))] → zW D A s.heap H locs (wR cI cZ aR xs ys lf ev nm lb kd pt so nu al ak ap h3 le3 rw cx cr cl ll tl ts tc sz mn ac en mg ln cn wc wp) → W p l e ({ frames := 5, cells := 0, slots := 0, locals := 117 } : Room) s m ([.ref (aR 0), .int (iI l1), .int (iI d1)] : List Value).toArray below meth c H locs 0 0 Q (F0 m 46 ls []) := by
              intro fuel
              induction fuel with
              | zero => intro is1 b h3 le3 H locs ls hm; exact absurd hm (Nat.not_lt_zero _)
              | succ fuel ih_46 =>
                intro is1 b h3 le3 H locs ls hm_46 m1 m2 m3 hl hW
                refine z_iload F (pc := 46) dX8_confused_46 (lv_at hl 0 rfl) ?_
                refine z_aloadn F (pc := 48) dX8_confused_48 rfl (lv_at hl 4 rfl) ?_
                refine z_get F (pc := 49) (C := RX8) (T := TX8) (N := 32) (ci := 8) inX8 hK hW 0 6 rfl rfl (by decide) rfl (List.mem_of_getElem? (i := 3) rfl) (v := .int (iI mn)) rfl dX8_confused_49 ?_
                refine z_icmp_ge F (pc := 52) 119 dX8_confused_52 (by decide) (by omega) (fun c_52 => ?_) (fun c_52 => ?_)
                · skip
                  have hci : zI (lb a = l1 ∧ isC pt kd lb mn d1 a) = is1 := by
                    rcases m3.o with ⟨q1, b7, q2, q3, q4⟩ | ⟨q1, q2⟩
                    · rw [q1]; have e9 : lb a = l1 := by omega
                      exact zI_t ⟨e9, b7, by omega, by rw [e9]; exact q3, q4⟩
                    · rw [q1]; refine zI_f (fun ⟨z1, b7, z2, z3, z4⟩ => q2 ⟨b7, ?_, by rw [← z1]; exact z3, z4⟩)
                      omega
                  have hcs0 : cfN pt kd lb mn l1 d1 (a + 1) = my + is1 := by
                    unfold cfN; rw [sm_s _ g1.1.1, hci, g2]; rfl
                  refine z_iloadn F (pc := 119) dX8_confused_119 rfl (lv_at hl 3 rfl) ?_
                  refine z_iload F (pc := 120) dX8_confused_120 (lv_at hl 1 rfl) ?_
                  refine z_if_eq F (pc := 122) 129 dX8_confused_122 (by decide) (by omega) (fun c_122 => ?_) (fun c_122 => ?_)
                  · skip
                    have hcs : my + 0 = cfN pt kd lb mn l1 d1 (a + 1) := by omega
                    refine z_iconst F (pc := 129) (0) dX8_confused_129 ?_
                    refine z_iadd F (pc := 130) dX8_confused_130 ?_
                    refine z_istoren F (pc := 131) hl (lv' := [(3, .int (iI (my + 0))), (6, .int (iI b)), (5, .int (iI is1)), (4, .int (iI a)), (0, .ref (aR 0)), (1, .int (iI l1)), (2, .int (iI d1))]) dX8_confused_131 rfl (by decide) rfl (fun ls hl => ?_)
                    refine z_iinc F (pc := 132) hl (lv' := [(4, .int (iI (a + 1))), (3, .int (iI (my + 0))), (6, .int (iI b)), (5, .int (iI is1)), (0, .ref (aR 0)), (1, .int (iI l1)), (2, .int (iI d1))]) dX8_confused_132 (k := 3) rfl (by decide) rfl (fun ls hl => ?_)
                    refine z_goto F (pc := 135) 31 dX8_confused_135 (by decide) ?_
                    exact ih_31 (my + 0) (a + 1) h3 le3 _ _ _ (by omega) (by omega) (by exact hcs) (lv_sub hl [0, 1, 4, 5, 6] rfl) hW
                  · skip
                    have hcs : my + 1 = cfN pt kd lb mn l1 d1 (a + 1) := by omega
                    refine z_iconst F (pc := 125) (1) dX8_confused_125 ?_
                    refine z_goto F (pc := 126) 130 dX8_confused_126 (by decide) ?_
                    refine z_iadd F (pc := 130) dX8_confused_130 ?_
                    refine z_istoren F (pc := 131) hl (lv' := [(3, .int (iI (my + 1))), (6, .int (iI b)), (5, .int (iI is1)), (4, .int (iI a)), (0, .ref (aR 0)), (1, .int (iI l1)), (2, .int (iI d1))]) dX8_confused_131 rfl (by decide) rfl (fun ls hl => ?_)
                    refine z_iinc F (pc := 132) hl (lv' := [(4, .int (iI (a + 1))), (3, .int (iI (my + 1))), (6, .int (iI b)), (5, .int (iI is1)), (0, .ref (aR 0)), (1, .int (iI l1)), (2, .int (iI d1))]) dX8_confused_132 (k := 3) rfl (by decide) rfl (fun ls hl => ?_)
                    refine z_goto F (pc := 135) 31 dX8_confused_135 (by decide) ?_
                    exact ih_31 (my + 1) (a + 1) h3 le3 _ _ _ (by omega) (by omega) (by exact hcs) (lv_sub hl [0, 1, 4, 5, 6] rfl) hW
                · skip
                  have hlb2 := hlb b m1.1.1 (by omega)
                  refine z_aloadn F (pc := 55) dX8_confused_55 rfl (lv_at hl 4 rfl) ?_
                  refine z_get F (pc := 56) (C := RX8) (T := TX8) (N := 32) (ci := 8) inX8 hK hW 0 7 rfl rfl (by decide) rfl (List.mem_of_getElem? (i := 4) rfl) (v := .ref (aR 6)) rfl dX8_confused_56 ?_
                  refine z_iload F (pc := 59) dX8_confused_59 (lv_at hl 2 rfl) ?_
                  refine z_iald F (pc := 61) hK hW 6 rfl (by decide) dX8_confused_61 (by omega) ?_
                  refine z_iloadn F (pc := 62) dX8_confused_62 rfl (lv_at hl 5 rfl) ?_
                  refine z_icmp_ne F (pc := 63) 119 dX8_confused_63 (by decide) (by omega) (fun c_63 => ?_) (fun c_63 => ?_)
                  · skip
                    have hci : zI (lb a = l1 ∧ isC pt kd lb mn d1 a) = is1 := by
                      rcases m3.o with ⟨q1, b7, q2, q3, q4⟩ | ⟨q1, q2⟩
                      · rw [q1]; have e9 : lb a = l1 := by omega
                        exact zI_t ⟨e9, b7, by omega, by rw [e9]; exact q3, q4⟩
                      · rw [q1]; refine zI_f (fun ⟨z1, b7, z2, z3, z4⟩ => q2 ⟨b7, ?_, by rw [← z1]; exact z3, z4⟩)
                        omega
                    have hcs0 : cfN pt kd lb mn l1 d1 (a + 1) = my + is1 := by
                      unfold cfN; rw [sm_s _ g1.1.1, hci, g2]; rfl
                    refine z_iloadn F (pc := 119) dX8_confused_119 rfl (lv_at hl 3 rfl) ?_
                    refine z_iload F (pc := 120) dX8_confused_120 (lv_at hl 1 rfl) ?_
                    refine z_if_eq F (pc := 122) 129 dX8_confused_122 (by decide) (by omega) (fun c_122 => ?_) (fun c_122 => ?_)
                    · skip
                      have hcs : my + 0 = cfN pt kd lb mn l1 d1 (a + 1) := by omega
                      refine z_iconst F (pc := 129) (0) dX8_confused_129 ?_
                      refine z_iadd F (pc := 130) dX8_confused_130 ?_
                      refine z_istoren F (pc := 131) hl (lv' := [(3, .int (iI (my + 0))), (6, .int (iI b)), (5, .int (iI is1)), (4, .int (iI a)), (0, .ref (aR 0)), (1, .int (iI l1)), (2, .int (iI d1))]) dX8_confused_131 rfl (by decide) rfl (fun ls hl => ?_)
                      refine z_iinc F (pc := 132) hl (lv' := [(4, .int (iI (a + 1))), (3, .int (iI (my + 0))), (6, .int (iI b)), (5, .int (iI is1)), (0, .ref (aR 0)), (1, .int (iI l1)), (2, .int (iI d1))]) dX8_confused_132 (k := 3) rfl (by decide) rfl (fun ls hl => ?_)
                      refine z_goto F (pc := 135) 31 dX8_confused_135 (by decide) ?_
                      exact ih_31 (my + 0) (a + 1) h3 le3 _ _ _ (by omega) (by omega) (by exact hcs) (lv_sub hl [0, 1, 4, 5, 6] rfl) hW
                    · skip
                      have hcs : my + 1 = cfN pt kd lb mn l1 d1 (a + 1) := by omega
                      refine z_iconst F (pc := 125) (1) dX8_confused_125 ?_
                      refine z_goto F (pc := 126) 130 dX8_confused_126 (by decide) ?_
                      refine z_iadd F (pc := 130) dX8_confused_130 ?_
                      refine z_istoren F (pc := 131) hl (lv' := [(3, .int (iI (my + 1))), (6, .int (iI b)), (5, .int (iI is1)), (4, .int (iI a)), (0, .ref (aR 0)), (1, .int (iI l1)), (2, .int (iI d1))]) dX8_confused_131 rfl (by decide) rfl (fun ls hl => ?_)
                      refine z_iinc F (pc := 132) hl (lv' := [(4, .int (iI (a + 1))), (3, .int (iI (my + 1))), (6, .int (iI b)), (5, .int (iI is1)), (0, .ref (aR 0)), (1, .int (iI l1)), (2, .int (iI d1))]) dX8_confused_132 (k := 3) rfl (by decide) rfl (fun ls hl => ?_)
                      refine z_goto F (pc := 135) 31 dX8_confused_135 (by decide) ?_
                      exact ih_31 (my + 1) (a + 1) h3 le3 _ _ _ (by omega) (by omega) (by exact hcs) (lv_sub hl [0, 1, 4, 5, 6] rfl) hW
                  · skip
                    refine z_iload F (pc := 66) dX8_confused_66 (lv_at hl 1 rfl) ?_
                    refine z_if_ne F (pc := 68) 106 dX8_confused_68 (by decide) (by omega) (fun c_68 => ?_) (fun c_68 => ?_)
                    · skip
                      have hst : zH (((1 : Int) = 1 ∧ (∃ b9, (0 ≤ b9 ∧ b9 < b + 1) ∧ ¬ lb b9 = l1 ∧ (bwF pt kd a b9 ≤ d1 ∨ bwF pt kd b9 a ≤ d1))) ∨ ((1 : Int) = 0 ∧ ¬ (∃ b9, (0 ≤ b9 ∧ b9 < b + 1) ∧ ¬ lb b9 = l1 ∧ (bwF pt kd a b9 ≤ d1 ∨ bwF pt kd b9 a ≤ d1)))) := by
                        refine Or.inl ⟨rfl, ?_⟩
                        rcases m3.o with ⟨q1, b7, q2, q3, q4⟩ | ⟨q1, q2⟩
                        · exact ⟨b7, by omega, q3, q4⟩
                        · refine ⟨b, by omega, by omega, by omega⟩
                      refine z_iconst F (pc := 106) (1) dX8_confused_106 ?_
                      refine z_goto F (pc := 107) 111 dX8_confused_107 (by decide) ?_
                      refine z_istore F (pc := 111) hl (lv' := [(5, .int (iI 1)), (6, .int (iI b)), (4, .int (iI a)), (3, .int (iI my)), (0, .ref (aR 0)), (1, .int (iI l1)), (2, .int (iI d1))]) dX8_confused_111 (by decide) rfl (fun ls hl => ?_)
                      refine z_iinc F (pc := 113) hl (lv' := [(6, .int (iI (b + 1))), (5, .int (iI 1)), (4, .int (iI a)), (3, .int (iI my)), (0, .ref (aR 0)), (1, .int (iI l1)), (2, .int (iI d1))]) dX8_confused_113 (k := 1) rfl (by decide) rfl (fun ls hl => ?_)
                      refine z_goto F (pc := 116) 46 dX8_confused_116 (by decide) ?_
                      exact ih_46 1 (b + 1) h3 le3 _ _ _ (by omega) (by omega) (by omega) (by exact hst) (lv_sub hl [0, 1, 2, 3, 4, 5, 6] rfl) hW
                    · skip
                      refine z_aloadn F (pc := 71) dX8_confused_71 rfl (lv_at hl 4 rfl) ?_
                      refine z_get F (pc := 72) (C := RX8) (T := TX8) (N := 32) (ci := 8) inX8 hK hW 0 7 rfl rfl (by decide) rfl (List.mem_of_getElem? (i := 4) rfl) (v := .ref (aR 6)) rfl dX8_confused_72 ?_
                      refine z_iload F (pc := 75) dX8_confused_75 (lv_at hl 0 rfl) ?_
                      refine z_iald F (pc := 77) hK hW 6 rfl (by decide) dX8_confused_77 (by omega) ?_
                      refine z_iloadn F (pc := 78) dX8_confused_78 rfl (lv_at hl 5 rfl) ?_
                      refine z_icmp_eq F (pc := 79) 110 dX8_confused_79 (by decide) (by omega) (fun c_79 => ?_) (fun c_79 => ?_)
                      · skip
                        have hst : zH (((0 : Int) = 1 ∧ (∃ b9, (0 ≤ b9 ∧ b9 < b + 1) ∧ ¬ lb b9 = l1 ∧ (bwF pt kd a b9 ≤ d1 ∨ bwF pt kd b9 a ≤ d1))) ∨ ((0 : Int) = 0 ∧ ¬ (∃ b9, (0 ≤ b9 ∧ b9 < b + 1) ∧ ¬ lb b9 = l1 ∧ (bwF pt kd a b9 ≤ d1 ∨ bwF pt kd b9 a ≤ d1)))) := by
                          refine Or.inr ⟨rfl, ?_⟩
                          rcases m3.o with ⟨q1, q2⟩ | ⟨q1, q2⟩
                          · omega
                          · intro ⟨b7, e1, e2, e3⟩
                            by_cases e : b7 = b
                            · rw [e] at e2 e3; omega
                            · exact q2 ⟨b7, by omega, e2, e3⟩
                        refine z_iconst F (pc := 110) (0) dX8_confused_110 ?_
                        refine z_istore F (pc := 111) hl (lv' := [(5, .int (iI 0)), (6, .int (iI b)), (4, .int (iI a)), (3, .int (iI my)), (0, .ref (aR 0)), (1, .int (iI l1)), (2, .int (iI d1))]) dX8_confused_111 (by decide) rfl (fun ls hl => ?_)
                        refine z_iinc F (pc := 113) hl (lv' := [(6, .int (iI (b + 1))), (5, .int (iI 0)), (4, .int (iI a)), (3, .int (iI my)), (0, .ref (aR 0)), (1, .int (iI l1)), (2, .int (iI d1))]) dX8_confused_113 (k := 1) rfl (by decide) rfl (fun ls hl => ?_)
                        refine z_goto F (pc := 116) 46 dX8_confused_116 (by decide) ?_
                        exact ih_46 0 (b + 1) h3 le3 _ _ _ (by omega) (by omega) (by omega) (by exact hst) (lv_sub hl [0, 1, 2, 3, 4, 5, 6] rfl) hW
                      · skip
                        have hb1 := bwF_b (kd := kd) hpt (a := a) (b := b) (by omega) (by omega)
                        have hb2 := bwF_b (kd := kd) hpt (a := b) (b := a) (by omega) (by omega)
                        refine z_aloadn F (pc := 82) dX8_confused_82 rfl (lv_at hl 4 rfl) ?_
                        refine z_iload F (pc := 83) dX8_confused_83 (lv_at hl 2 rfl) ?_
                        refine z_iload F (pc := 85) dX8_confused_85 (lv_at hl 0 rfl) ?_
                        refine z_callVi F (pc := 87) hK hW hA (As := [.int (iI a), .int (iI b)]) (rest := []) (ws' := fun (u : (Int → Int) × (Int → Int)) => wR cI cZ aR xs ys lf ev nm lb kd pt so nu al ak ap u.1 u.2 rw cx cr cl ll tl ts tc sz mn ac en mg ln cn wc wp) (wr := ([])) (c_X8_betweenOf l D cI cZ aR xs ys lf ev nm lb kd pt so nu al ak ap h3 le3 rw cx cr cl ll tl ts tc sz mn ac en mg ln cn wc wp a b _ (by omega) (by omega) (by omega) (by exact hkd) (by exact hpt) (by omega)) (cwV 2 F.2.2.2.2 gX8_confused_X8_betweenOf rfl rfl rfl (by decide +kernel) ⟨Nat.le_of_ble_eq_true rfl, Nat.le_of_ble_eq_true rfl⟩) [0, 1, 2, 3, 4, 5, 6, 7, 8, 9, 10, 11, 12, 13, 14, 15, 16, 17, 18, 19, 20, 21, 22, 23] [] [0, 1, 2, 3, 4, 5, 6, 7, 8, 9, 10, 11, 12, 13, 14, 15, 16, 17, 18, 19, 20, 21, 22, 23] rfl rfl (by decide) (by decide) (by decide) (fun _ => rfl) (by decide) (q0 := 0) (ci := 8) rfl rfl rfl rfl rfl hl.1 (Nat.le_of_ble_eq_true rfl) dX8_confused_87 ⟨Nat.le_of_ble_eq_true rfl, Nat.le_of_ble_eq_true rfl⟩ (fun z_87 u H locs r_z_87 hp_87 hW => ?_)
                        obtain ⟨he2_87, le2_87⟩ := u
                        dsimp only at hp_87 hW
                        replace hp_87 := hp_87.symm
                        subst hp_87
                        refine z_iloadn F (pc := 90) dX8_confused_90 rfl (lv_at hl 6 rfl) ?_
                        refine z_icmp_le F (pc := 91) 106 dX8_confused_91 (by decide) (by omega) (fun c_91 => ?_) (fun c_91 => ?_)
                        · skip
                          have hst : zH (((1 : Int) = 1 ∧ (∃ b9, (0 ≤ b9 ∧ b9 < b + 1) ∧ ¬ lb b9 = l1 ∧ (bwF pt kd a b9 ≤ d1 ∨ bwF pt kd b9 a ≤ d1))) ∨ ((1 : Int) = 0 ∧ ¬ (∃ b9, (0 ≤ b9 ∧ b9 < b + 1) ∧ ¬ lb b9 = l1 ∧ (bwF pt kd a b9 ≤ d1 ∨ bwF pt kd b9 a ≤ d1)))) := by
                            refine Or.inl ⟨rfl, ?_⟩
                            rcases m3.o with ⟨q1, b7, q2, q3, q4⟩ | ⟨q1, q2⟩
                            · exact ⟨b7, by omega, q3, q4⟩
                            · refine ⟨b, by omega, by omega, by omega⟩
                          refine z_iconst F (pc := 106) (1) dX8_confused_106 ?_
                          refine z_goto F (pc := 107) 111 dX8_confused_107 (by decide) ?_
                          refine z_istore F (pc := 111) hl (lv' := [(5, .int (iI 1)), (6, .int (iI b)), (4, .int (iI a)), (3, .int (iI my)), (0, .ref (aR 0)), (1, .int (iI l1)), (2, .int (iI d1))]) dX8_confused_111 (by decide) rfl (fun ls hl => ?_)
                          refine z_iinc F (pc := 113) hl (lv' := [(6, .int (iI (b + 1))), (5, .int (iI 1)), (4, .int (iI a)), (3, .int (iI my)), (0, .ref (aR 0)), (1, .int (iI l1)), (2, .int (iI d1))]) dX8_confused_113 (k := 1) rfl (by decide) rfl (fun ls hl => ?_)
                          refine z_goto F (pc := 116) 46 dX8_confused_116 (by decide) ?_
                          exact ih_46 1 (b + 1) he2_87 le2_87 _ _ _ (by omega) (by omega) (by omega) (by exact hst) (lv_sub hl [0, 1, 2, 3, 4, 5, 6] rfl) hW
                        · skip
                          refine z_aloadn F (pc := 94) dX8_confused_94 rfl (lv_at hl 4 rfl) ?_
                          refine z_iload F (pc := 95) dX8_confused_95 (lv_at hl 0 rfl) ?_
                          refine z_iload F (pc := 97) dX8_confused_97 (lv_at hl 2 rfl) ?_
                          refine z_callVi F (pc := 99) hK hW hA (As := [.int (iI b), .int (iI a)]) (rest := []) (ws' := fun (u : (Int → Int) × (Int → Int)) => wR cI cZ aR xs ys lf ev nm lb kd pt so nu al ak ap u.1 u.2 rw cx cr cl ll tl ts tc sz mn ac en mg ln cn wc wp) (wr := ([])) (c_X8_betweenOf l D cI cZ aR xs ys lf ev nm lb kd pt so nu al ak ap he2_87 le2_87 rw cx cr cl ll tl ts tc sz mn ac en mg ln cn wc wp b a _ (by omega) (by omega) (by omega) (by exact hkd) (by exact hpt) (by omega)) (cwV 2 F.2.2.2.2 gX8_confused_X8_betweenOf rfl rfl rfl (by decide +kernel) ⟨Nat.le_of_ble_eq_true rfl, Nat.le_of_ble_eq_true rfl⟩) [0, 1, 2, 3, 4, 5, 6, 7, 8, 9, 10, 11, 12, 13, 14, 15, 16, 17, 18, 19, 20, 21, 22, 23] [] [0, 1, 2, 3, 4, 5, 6, 7, 8, 9, 10, 11, 12, 13, 14, 15, 16, 17, 18, 19, 20, 21, 22, 23] rfl rfl (by decide) (by decide) (by decide) (fun _ => rfl) (by decide) (q0 := 0) (ci := 8) rfl rfl rfl rfl rfl hl.1 (Nat.le_of_ble_eq_true rfl) dX8_confused_99 ⟨Nat.le_of_ble_eq_true rfl, Nat.le_of_ble_eq_true rfl⟩ (fun z_99 u H locs r_z_99 hp_99 hW => ?_)
                          obtain ⟨he2_99, le2_99⟩ := u
                          dsimp only at hp_99 hW
                          replace hp_99 := hp_99.symm
                          subst hp_99
                          refine z_iloadn F (pc := 102) dX8_confused_102 rfl (lv_at hl 6 rfl) ?_
                          refine z_icmp_gt F (pc := 103) 110 dX8_confused_103 (by decide) (by omega) (fun c_103 => ?_) (fun c_103 => ?_)
                          · skip
                            have hst : zH (((0 : Int) = 1 ∧ (∃ b9, (0 ≤ b9 ∧ b9 < b + 1) ∧ ¬ lb b9 = l1 ∧ (bwF pt kd a b9 ≤ d1 ∨ bwF pt kd b9 a ≤ d1))) ∨ ((0 : Int) = 0 ∧ ¬ (∃ b9, (0 ≤ b9 ∧ b9 < b + 1) ∧ ¬ lb b9 = l1 ∧ (bwF pt kd a b9 ≤ d1 ∨ bwF pt kd b9 a ≤ d1)))) := by
                              refine Or.inr ⟨rfl, ?_⟩
                              rcases m3.o with ⟨q1, q2⟩ | ⟨q1, q2⟩
                              · omega
                              · intro ⟨b7, e1, e2, e3⟩
                                by_cases e : b7 = b
                                · rw [e] at e2 e3; omega
                                · exact q2 ⟨b7, by omega, e2, e3⟩
                            refine z_iconst F (pc := 110) (0) dX8_confused_110 ?_
                            refine z_istore F (pc := 111) hl (lv' := [(5, .int (iI 0)), (6, .int (iI b)), (4, .int (iI a)), (3, .int (iI my)), (0, .ref (aR 0)), (1, .int (iI l1)), (2, .int (iI d1))]) dX8_confused_111 (by decide) rfl (fun ls hl => ?_)
                            refine z_iinc F (pc := 113) hl (lv' := [(6, .int (iI (b + 1))), (5, .int (iI 0)), (4, .int (iI a)), (3, .int (iI my)), (0, .ref (aR 0)), (1, .int (iI l1)), (2, .int (iI d1))]) dX8_confused_113 (k := 1) rfl (by decide) rfl (fun ls hl => ?_)
                            refine z_goto F (pc := 116) 46 dX8_confused_116 (by decide) ?_
                            exact ih_46 0 (b + 1) he2_99 le2_99 _ _ _ (by omega) (by omega) (by omega) (by exact hst) (lv_sub hl [0, 1, 2, 3, 4, 5, 6] rfl) hW
                          · skip
                            have hst : zH (((1 : Int) = 1 ∧ (∃ b9, (0 ≤ b9 ∧ b9 < b + 1) ∧ ¬ lb b9 = l1 ∧ (bwF pt kd a b9 ≤ d1 ∨ bwF pt kd b9 a ≤ d1))) ∨ ((1 : Int) = 0 ∧ ¬ (∃ b9, (0 ≤ b9 ∧ b9 < b + 1) ∧ ¬ lb b9 = l1 ∧ (bwF pt kd a b9 ≤ d1 ∨ bwF pt kd b9 a ≤ d1)))) := by
                              refine Or.inl ⟨rfl, ?_⟩
                              rcases m3.o with ⟨q1, b7, q2, q3, q4⟩ | ⟨q1, q2⟩
                              · exact ⟨b7, by omega, q3, q4⟩
                              · refine ⟨b, by omega, by omega, by omega⟩
                            refine z_iconst F (pc := 106) (1) dX8_confused_106 ?_
                            refine z_goto F (pc := 107) 111 dX8_confused_107 (by decide) ?_
                            refine z_istore F (pc := 111) hl (lv' := [(5, .int (iI 1)), (6, .int (iI b)), (4, .int (iI a)), (3, .int (iI my)), (0, .ref (aR 0)), (1, .int (iI l1)), (2, .int (iI d1))]) dX8_confused_111 (by decide) rfl (fun ls hl => ?_)
                            refine z_iinc F (pc := 113) hl (lv' := [(6, .int (iI (b + 1))), (5, .int (iI 1)), (4, .int (iI a)), (3, .int (iI my)), (0, .ref (aR 0)), (1, .int (iI l1)), (2, .int (iI d1))]) dX8_confused_113 (k := 1) rfl (by decide) rfl (fun ls hl => ?_)
                            refine z_goto F (pc := 116) 46 dX8_confused_116 (by decide) ?_
                            exact ih_46 1 (b + 1) he2_99 le2_99 _ _ _ (by omega) (by omega) (by omega) (by exact hst) (lv_sub hl [0, 1, 2, 3, 4, 5, 6] rfl) hW
            exact cut_46 _ 0 0 h1 le1 _ _ _ (Nat.lt_succ_self _) (by omega) (by omega) (by exact Or.inr ⟨rfl, fun ⟨b, q, _⟩ => by omega⟩) (lv_sub hl [0, 1, 2, 3, 4, 5, 6] rfl) hW
      exact cut_31 _ 0 0 he le _ _ _ (Nat.lt_succ_self _) (by omega) (by exact (sm_0 _).symm) (lv_sub hl [0, 1, 2, 3, 4] rfl) hW
    · skip
      have b_21 := zB_f hp_18 c_21
      refine z_iconst F (pc := 24) (-1) dX8_confused_24 ?_
      exact hret _ _ _ _ (-1) (he, le) dX8_confused_25 (by omega) (by (try dsimp only) <;> (exact Or.inl ⟨by omega, rfl⟩)) hW
