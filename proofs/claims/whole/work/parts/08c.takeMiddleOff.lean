set_option maxHeartbeats 4000000 in
set_option maxRecDepth 100000 in
theorem c_X2_takeMiddleOff (l : Launch) (D : va_G) (cI cZ : ClassId) (aD : Nat → Nat) (xs ys lf ev nm : Int → Int) (sz : Int) (w : Int) (sz0 : Nat) (r_w : (-2147483648 ≤ w ∧ w < 2147483648)) (hw : w = 0 ∨ w = 1) (he : ∀ j, 0 ≤ j → j < 16 → -10000 ≤ ev j ∧ ev j ≤ 10000) : Met l yX2_takeMiddleOff wsX2_takeMiddleOff ({ frames := 1, cells := 0, slots := 0, locals := 22 } : Room) (zPc D cI cZ [.ref (aD 0), .int (iI w)] (wD cI cZ aD xs ys lf ev nm sz) sz0) (zQv D cI cZ (wD cI cZ aD xs ys lf ev nm sz) sz0 (fun (u : (Int → Int) × (Int) × (Int)) => isLo ev w u.2.1 ∧ isHi ev w u.2.2 ∧ ((-10000 ≤ u.2.1 ∧ u.2.1 ≤ 10000) ∧ (-10000 ≤ u.2.2 ∧ u.2.2 ≤ 10000)) ∧ (∀ j, 0 ≤ j → j < 16 → u.1 j = if (j - w) % 2 = 0 then ev j - (u.2.1 + u.2.2) / 2 else nm j)) (fun (u : (Int → Int) × (Int) × (Int)) => wD cI cZ aD xs ys lf ev u.1 sz)) 0 0 (va_A (wD cI cZ aD xs ys lf ev nm sz) sz0) := by
  have hw0 := he w (by omega) (by omega)
  refine z_ofV (maxL := 6) (plainFor_of_name (by decide)) rfl (Nat.le_of_ble_eq_true rfl) ?_
  intro p e s m below meth c A ls Q F hK hW hA hl hret
  have hl : lv_has ls 6 [(0, .ref (aD 0)), (1, .int (iI w))] := hl
  have inX2 : ∀ w ∈ u_ws RX2 TX2 6, w ∈ wsX2_takeMiddleOff := fun _ h => List.mem_cons_of_mem _ (List.mem_append_right _ h)
  refine z_aloadn F (pc := 0) dX2_takeMiddleOff_0 rfl (lv_at hl 0 rfl) ?_
  refine z_get F (pc := 1) (C := RX2) (T := TX2) (N := 6) (ci := 2) inX2 hK hW 0 3 rfl rfl (by decide) rfl (List.mem_of_getElem? (i := 1) rfl) (v := .ref (aD 4)) rfl dX2_takeMiddleOff_1 ?_
  refine z_iloadn F (pc := 4) dX2_takeMiddleOff_4 rfl (lv_at hl 1 rfl) ?_
  refine z_iald F (pc := 5) hK hW 4 rfl (by decide) dX2_takeMiddleOff_5 (by omega) ?_
  refine z_istoren F (pc := 6) hl (lv' := [(2, .int (iI (ev w))), (0, .ref (aD 0)), (1, .int (iI w))]) dX2_takeMiddleOff_6 rfl (by decide) rfl (fun ls hl => ?_)
  refine z_aloadn F (pc := 7) dX2_takeMiddleOff_7 rfl (lv_at hl 1 rfl) ?_
  refine z_get F (pc := 8) (C := RX2) (T := TX2) (N := 6) (ci := 2) inX2 hK hW 0 3 rfl rfl (by decide) rfl (List.mem_of_getElem? (i := 1) rfl) (v := .ref (aD 4)) rfl dX2_takeMiddleOff_8 ?_
  refine z_iloadn F (pc := 11) dX2_takeMiddleOff_11 rfl (lv_at hl 2 rfl) ?_
  refine z_iald F (pc := 12) hK hW 4 rfl (by decide) dX2_takeMiddleOff_12 (by omega) ?_
  refine z_istoren F (pc := 13) hl (lv' := [(3, .int (iI (ev w))), (2, .int (iI (ev w))), (0, .ref (aD 0)), (1, .int (iI w))]) dX2_takeMiddleOff_13 rfl (by decide) rfl (fun ls hl => ?_)
  refine z_iloadn F (pc := 14) dX2_takeMiddleOff_14 rfl (lv_at hl 3 rfl) ?_
  refine z_istore F (pc := 15) hl (lv' := [(4, .int (iI w)), (3, .int (iI (ev w))), (2, .int (iI (ev w))), (0, .ref (aD 0)), (1, .int (iI w))]) dX2_takeMiddleOff_15 (by decide) rfl (fun ls hl => ?_)
  have cut_17 : ∀ (fuel : Nat) (lo : Int) (hi : Int) (n : Int) (H : Heap) (locs : List Loc) (ls : Array Slot), (17 - n).toNat < fuel → (w ≤ n ∧ n ≤ 17 ∧ (n - w) % 2 = 0) → ((-10000 ≤ lo ∧ lo ≤ 10000) ∧ (-10000 ≤ hi ∧ hi ≤ 10000)) → (zH ((∀ j, w ≤ j → j < n → (j - w) % 2 = 0 → lo ≤ ev j) ∧ ∃ j, (w ≤ j ∧ j < 16 ∧ (j - w) % 2 = 0) ∧ lo = ev j)) → (zH ((∀ j, w ≤ j → j < n → (j - w) % 2 = 0 → ev j ≤ hi) ∧ ∃ j, (w ≤ j ∧ j < 16 ∧ (j - w) % 2 = 0) ∧ hi = ev j)) → lv_has ls 6 [(4, .int (iI n)), (3, .int (iI hi)), (2, .int (iI lo)), (0, .ref (aD 0)), (1, .int (iI w))] → zW D A s.heap H locs (wD cI cZ aD xs ys lf ev nm sz) → W p l e ({ frames := 1, cells := 0, slots := 0, locals := 22 } : Room) s m ([.ref (aD 0), .int (iI w)] : List Value).toArray below meth c H locs 0 0 Q (F0 m 17 ls []) := by
    intro fuel
    induction fuel with
    | zero => intro lo hi n H locs ls hm; exact absurd hm (Nat.not_lt_zero _)
    | succ fuel ih_17 =>
      intro lo hi n H locs ls hm_17 h1 h2 h3 h4 hl hW
      refine z_iload F (pc := 17) dX2_takeMiddleOff_17 (lv_at hl 0 rfl) ?_
      refine z_bipush F (pc := 19) (16) (by decide +kernel) dX2_takeMiddleOff_19 ?_
      refine z_icmp_ge F (pc := 21) 54 dX2_takeMiddleOff_21 (by decide) (by omega) (fun c_21 => ?_) (fun c_21 => ?_)
      · skip
        refine z_iloadn F (pc := 54) dX2_takeMiddleOff_54 rfl (lv_at hl 2 rfl) ?_
        refine z_iloadn F (pc := 55) dX2_takeMiddleOff_55 rfl (lv_at hl 1 rfl) ?_
        refine z_iadd F (pc := 56) dX2_takeMiddleOff_56 ?_
        refine z_iconst F (pc := 57) (2) dX2_takeMiddleOff_57 ?_
        refine z_callSi F (pc := 58) hK hW hA (As := [.int (iI (lo + hi)), .int (iI 2)]) (rest := []) (c_J9_floorDiv_7cf53 l D cI cZ (lo + hi) 2 _ (by omega) (by omega) (by omega) (by omega)) (va_cwS 2 F.2.2.2.2 gX2_takeMiddleOff_J9_floorDiv_7cf53 rfl rfl rfl (by decide +kernel) ⟨Nat.le_of_ble_eq_true rfl, Nat.le_of_ble_eq_true rfl⟩) rfl rfl hl.1 (Nat.le_of_ble_eq_true rfl) dX2_takeMiddleOff_58 ⟨Nat.le_of_ble_eq_true rfl, Nat.le_of_ble_eq_true rfl⟩ (fun z_58 H locs r_z_58 hp_58 hW => ?_)
        replace hp_58 := hp_58.symm
        subst hp_58
        refine z_istore F (pc := 61) hl (lv' := [(4, .int (iI ((lo + hi) / 2))), (3, .int (iI hi)), (2, .int (iI lo)), (0, .ref (aD 0)), (1, .int (iI w))]) dX2_takeMiddleOff_61 (by decide) rfl (fun ls hl => ?_)
        refine z_iloadn F (pc := 63) dX2_takeMiddleOff_63 rfl (lv_at hl 4 rfl) ?_
        refine z_istore F (pc := 64) hl (lv' := [(5, .int (iI w)), (4, .int (iI ((lo + hi) / 2))), (3, .int (iI hi)), (2, .int (iI lo)), (0, .ref (aD 0)), (1, .int (iI w))]) dX2_takeMiddleOff_64 (by decide) rfl (fun ls hl => ?_)
        have cut_66 : ∀ (fuel : Nat) (n2 : Int) (b1 : Int → Int) (H : Heap) (locs : List Loc) (ls : Array Slot), (17 - n2).toNat < fuel → (w ≤ n2 ∧ n2 ≤ 17 ∧ (n2 - w) % 2 = 0) → (∀ j, 0 ≤ j → j < 16 → b1 j = if (j - w) % 2 = 0 ∧ j < n2 then ev j - (lo + hi) / 2 else nm j) → lv_has ls 6 [(5, .int (iI n2)), (4, .int (iI ((lo + hi) / 2))), (0, .ref (aD 0)), (1, .int (iI w))] → zW D A s.heap H locs (wD cI cZ aD xs ys lf ev b1 sz) → W p l e ({ frames := 1, cells := 0, slots := 0, locals := 22 } : Room) s m ([.ref (aD 0), .int (iI w)] : List Value).toArray below meth c H locs 0 0 Q (F0 m 66 ls []) := by
          intro fuel
          induction fuel with
          | zero => intro n2 b1 H locs ls hm; exact absurd hm (Nat.not_lt_zero _)
          | succ fuel ih_66 =>
            intro n2 b1 H locs ls hm_66 g1 g2 hl hW
            refine z_iload F (pc := 66) dX2_takeMiddleOff_66 (lv_at hl 0 rfl) ?_
            refine z_bipush F (pc := 68) (16) (by decide +kernel) dX2_takeMiddleOff_68 ?_
            refine z_icmp_ge F (pc := 70) 96 dX2_takeMiddleOff_70 (by decide) (by omega) (fun c_70 => ?_) (fun c_70 => ?_)
            · skip
              exact hret _ _ _ _ (b1, lo, hi) dX2_takeMiddleOff_96 (by (try dsimp only) <;> (exact ⟨⟨fun j j1 j2 j3 => h3.o.1 j j1 (by omega) j3, h3.o.2⟩, ⟨fun j j1 j2 j3 => h4.o.1 j j1 (by omega) j3, h4.o.2⟩, h2, fun j j0 j1 => by rw [g2 j j0 j1]; by_cases q : (j - w) % 2 = 0 <;> simp only [q, true_and, false_and, if_true, if_false]; rw [if_pos (by omega)]⟩)) hW
            · skip
              have hn := he n2 (by omega) (by omega)
              refine z_aloadn F (pc := 73) dX2_takeMiddleOff_73 rfl (lv_at hl 2 rfl) ?_
              refine z_get F (pc := 74) (C := RX2) (T := TX2) (N := 6) (ci := 2) inX2 hK hW 0 4 rfl rfl (by decide) rfl (List.mem_of_getElem? (i := 9) rfl) (v := .ref (aD 5)) rfl dX2_takeMiddleOff_74 ?_
              refine z_iload F (pc := 77) dX2_takeMiddleOff_77 (lv_at hl 0 rfl) ?_
              refine z_aloadn F (pc := 79) dX2_takeMiddleOff_79 rfl (lv_at hl 2 rfl) ?_
              refine z_get F (pc := 80) (C := RX2) (T := TX2) (N := 6) (ci := 2) inX2 hK hW 0 3 rfl rfl (by decide) rfl (List.mem_of_getElem? (i := 1) rfl) (v := .ref (aD 4)) rfl dX2_takeMiddleOff_80 ?_
              refine z_iload F (pc := 83) dX2_takeMiddleOff_83 (lv_at hl 0 rfl) ?_
              refine z_iald F (pc := 85) hK hW 4 rfl (by decide) dX2_takeMiddleOff_85 (by omega) ?_
              refine z_iload F (pc := 86) dX2_takeMiddleOff_86 (lv_at hl 1 rfl) ?_
              refine z_isub F (pc := 88) dX2_takeMiddleOff_88 ?_
              refine z_iast F (pc := 89) hK hW (ws' := wD cI cZ aD xs ys lf ev (zU b1 n2 ((ev n2) - ((lo + hi) / 2))) sz) 5 rfl (by decide) dX2_takeMiddleOff_89 (by omega) rfl (fun H locs hW => ?_)
              have hs3 : ∀ j, 0 ≤ j → j < 16 → zU b1 n2 (ev n2 - (lo + hi) / 2) j = if (j - w) % 2 = 0 ∧ j < n2 + 2 then ev j - (lo + hi) / 2 else nm j := by
                intro j j0 j1
                by_cases e : j = n2
                · subst e; rw [zU_s, if_pos (by omega)]
                · rw [zU_n _ _ e, g2 j j0 j1]
                  by_cases q : (j - w) % 2 = 0 ∧ j < n2
                  · rw [if_pos q, if_pos (by omega)]
                  · rw [if_neg q, if_neg (by omega)]
              refine z_iinc F (pc := 90) hl (lv' := [(5, .int (iI (n2 + 2))), (4, .int (iI ((lo + hi) / 2))), (0, .ref (aD 0)), (1, .int (iI w))]) dX2_takeMiddleOff_90 (k := 0) rfl (by decide) rfl (fun ls hl => ?_)
              refine z_goto F (pc := 93) 66 dX2_takeMiddleOff_93 (by decide) ?_
              exact ih_66 (n2 + 2) (zU b1 n2 ((ev n2) - ((lo + hi) / 2))) _ _ _ (by omega) (by omega) (by exact hs3) (lv_sub hl [0, 1, 2, 3] rfl) hW
        exact cut_66 _ w nm _ _ _ (Nat.lt_succ_self _) (by omega) (by intro j j0 j1; rw [if_neg (by omega)]) (lv_sub hl [0, 1, 4, 5] rfl) hW
      · skip
        have hn := he n (by omega) (by omega)
        refine z_iloadn F (pc := 24) dX2_takeMiddleOff_24 rfl (lv_at hl 2 rfl) ?_
        refine z_aloadn F (pc := 25) dX2_takeMiddleOff_25 rfl (lv_at hl 3 rfl) ?_
        refine z_get F (pc := 26) (C := RX2) (T := TX2) (N := 6) (ci := 2) inX2 hK hW 0 3 rfl rfl (by decide) rfl (List.mem_of_getElem? (i := 1) rfl) (v := .ref (aD 4)) rfl dX2_takeMiddleOff_26 ?_
        refine z_iload F (pc := 29) dX2_takeMiddleOff_29 (lv_at hl 0 rfl) ?_
        refine z_iald F (pc := 31) hK hW 4 rfl (by decide) dX2_takeMiddleOff_31 (by omega) ?_
        refine z_mmin F (pc := 32) hl.1 (List.mem_of_getElem? (i := 2) rfl) (List.mem_of_getElem? (i := 3) rfl) (List.mem_of_getElem? (i := 4) rfl) (List.mem_of_getElem? (i := 5) rfl) (Nat.le_of_ble_eq_true rfl) (Nat.le_of_ble_eq_true rfl) (Nat.le_of_ble_eq_true rfl) (Nat.le_of_ble_eq_true rfl) dX2_takeMiddleOff_32 (by omega) ?_
        refine z_istoren F (pc := 35) hl (lv' := [(2, .int (iI (min lo (ev n)))), (4, .int (iI n)), (3, .int (iI hi)), (0, .ref (aD 0)), (1, .int (iI w))]) dX2_takeMiddleOff_35 rfl (by decide) rfl (fun ls hl => ?_)
        refine z_iloadn F (pc := 36) dX2_takeMiddleOff_36 rfl (lv_at hl 2 rfl) ?_
        refine z_aloadn F (pc := 37) dX2_takeMiddleOff_37 rfl (lv_at hl 3 rfl) ?_
        refine z_get F (pc := 38) (C := RX2) (T := TX2) (N := 6) (ci := 2) inX2 hK hW 0 3 rfl rfl (by decide) rfl (List.mem_of_getElem? (i := 1) rfl) (v := .ref (aD 4)) rfl dX2_takeMiddleOff_38 ?_
        refine z_iload F (pc := 41) dX2_takeMiddleOff_41 (lv_at hl 1 rfl) ?_
        refine z_iald F (pc := 43) hK hW 4 rfl (by decide) dX2_takeMiddleOff_43 (by omega) ?_
        refine z_mmax F (pc := 44) hl.1 (List.mem_of_getElem? (i := 6) rfl) (List.mem_of_getElem? (i := 7) rfl) (List.mem_of_getElem? (i := 4) rfl) (List.mem_of_getElem? (i := 8) rfl) (Nat.le_of_ble_eq_true rfl) (Nat.le_of_ble_eq_true rfl) (Nat.le_of_ble_eq_true rfl) (Nat.le_of_ble_eq_true rfl) dX2_takeMiddleOff_44 (by omega) ?_
        refine z_istoren F (pc := 47) hl (lv' := [(3, .int (iI (max hi (ev n)))), (2, .int (iI (min lo (ev n)))), (4, .int (iI n)), (0, .ref (aD 0)), (1, .int (iI w))]) dX2_takeMiddleOff_47 rfl (by decide) rfl (fun ls hl => ?_)
        have hs1 : zH ((∀ j, w ≤ j → j < n + 2 → (j - w) % 2 = 0 → min lo (ev n) ≤ ev j) ∧ ∃ j, (w ≤ j ∧ j < 16 ∧ (j - w) % 2 = 0) ∧ min lo (ev n) = ev j) := by
          obtain ⟨a1, j9, a2, a3⟩ := h3.o
          refine ⟨fun j j1 j2 j3 => ?_, ?_⟩
          · by_cases e : j = n
            · subst e; omega
            · have := a1 j j1 (by omega) j3; omega
          · by_cases e : lo ≤ ev n
            · exact ⟨j9, a2, by omega⟩
            · exact ⟨n, by omega, by omega⟩
        have hs2 : zH ((∀ j, w ≤ j → j < n + 2 → (j - w) % 2 = 0 → ev j ≤ max hi (ev n)) ∧ ∃ j, (w ≤ j ∧ j < 16 ∧ (j - w) % 2 = 0) ∧ max hi (ev n) = ev j) := by
          obtain ⟨a1, j9, a2, a3⟩ := h4.o
          refine ⟨fun j j1 j2 j3 => ?_, ?_⟩
          · by_cases e : j = n
            · subst e; omega
            · have := a1 j j1 (by omega) j3; omega
          · by_cases e : ev n ≤ hi
            · exact ⟨j9, a2, by omega⟩
            · exact ⟨n, by omega, by omega⟩
        refine z_iinc F (pc := 48) hl (lv' := [(4, .int (iI (n + 2))), (3, .int (iI (max hi (ev n)))), (2, .int (iI (min lo (ev n)))), (0, .ref (aD 0)), (1, .int (iI w))]) dX2_takeMiddleOff_48 (k := 2) rfl (by decide) rfl (fun ls hl => ?_)
        refine z_goto F (pc := 51) 17 dX2_takeMiddleOff_51 (by decide) ?_
        exact ih_17 (min lo (ev n)) (max hi (ev n)) (n + 2) _ _ _ (by omega) (by omega) (by omega) (by exact hs1) (by exact hs2) (lv_sub hl [0, 1, 2, 3, 4] rfl) hW
  exact cut_17 _ (ev w) (ev w) w _ _ _ (Nat.lt_succ_self _) (by omega) (by omega) (by exact ⟨fun j j1 j2 j3 => by omega, w, by omega, rfl⟩) (by exact ⟨fun j j1 j2 j3 => by omega, w, by omega, rfl⟩) (lv_sub hl [0, 1, 2, 3, 4] rfl) hW
