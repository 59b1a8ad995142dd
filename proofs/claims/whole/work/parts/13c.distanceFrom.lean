set_option maxHeartbeats 4000000 in
set_option maxRecDepth 100000 in
theorem c_X4_distanceFromD (l : Launch) (D : va_G) (cI cZ : ClassId) (aS aM aD : Nat → Nat) (he ar le lb kd pt xs ys lf ev nm : Int → Int) (mn sz : Int) (f k : Int) (sz0 : Nat) (r_f : (-2147483648 ≤ f ∧ f < 2147483648)) (r_k : (-2147483648 ≤ k ∧ k < 2147483648)) (hm : (0 ≤ mn ∧ mn ≤ 16)) (hk : 0 ≤ k ∧ k < mn) (hf : 0 ≤ f ∧ f + 16 ≤ 16) (hr : inP nm f) (hp : inP pt (16 * k)) (hq : 0 ≤ kd k ∧ kd k ≤ 4) : Met l yX4_distanceFrom wsX4_distanceFrom ({ frames := 4, cells := 0, slots := 0, locals := 96 } : Room) (zPc D cI cZ [.ref (aS 0), .ref (aD 5), .int (iI f), .ref (aM 0), .int (iI k)] (wS cI cZ aS he ar le ++ wM cI cZ aM lb kd pt mn ++ wD cI cZ aD xs ys lf ev nm sz) sz0) (zQi D cI cZ (wS cI cZ aS he ar le ++ wM cI cZ aM lb kd pt mn ++ wD cI cZ aD xs ys lf ev nm sz) sz0 (fun (r : Int) (u : (Int → Int) × (Int → Int) × (Int → Int)) => r = dF (zC nm he f 0 16) pt (16 * k) (kd k)) (fun (u : (Int → Int) × (Int → Int) × (Int → Int)) => wS cI cZ aS u.1 u.2.1 u.2.2 ++ wM cI cZ aM lb kd pt mn ++ wD cI cZ aD xs ys lf ev nm sz)) 0 0 (va_A (wS cI cZ aS he ar le ++ wM cI cZ aM lb kd pt mn ++ wD cI cZ aD xs ys lf ev nm sz) sz0) := by
  have hh : inH (zC nm he f 0 16) := fun j j0 j1 => by rw [zC_in _ _ (by omega)]; exact hr _ (by omega) (by omega)
  have hdb := dF_b (q := kd k) hh hp
  have hdu := dU_b (q := kd k) hh hp
  have hdi := dI_b (q := kd k) hh hp
  refine z_ofI (maxL := 9) (plainFor_of_name (by decide)) rfl (Nat.le_of_ble_eq_true rfl) (Or.inl rfl) ?_
  intro p e s m below meth c A ls Q F hK hW hA hl hret
  have hl : lv_has ls 9 [(0, .ref (aS 0)), (1, .ref (aD 5)), (2, .int (iI f)), (3, .ref (aM 0)), (4, .int (iI k))] := hl
  have inX4 : ∀ w ∈ u_ws RX4 TX4 3, w ∈ wsX4_distanceFrom := fun _ h => List.mem_cons_of_mem _ (List.mem_append_left _ (List.mem_append_right _ h))
  have inX6 : ∀ w ∈ u_ws RX6 TX6 4, w ∈ wsX4_distanceFrom := fun _ h => List.mem_cons_of_mem _ (List.mem_append_right _ h)
  refine z_aloadn F (pc := 0) dX4_distanceFrom_0 rfl (lv_at hl 1 rfl) ?_
  refine z_iloadn F (pc := 1) dX4_distanceFrom_1 rfl (lv_at hl 2 rfl) ?_
  refine z_aloadn F (pc := 2) dX4_distanceFrom_2 rfl (lv_at hl 0 rfl) ?_
  refine z_get F (pc := 3) (C := RX4) (T := TX4) (N := 3) (ci := 4) inX4 hK hW 0 0 rfl rfl (by decide) rfl (List.mem_of_getElem? (i := 1) rfl) (v := .ref (aS 1)) rfl dX4_distanceFrom_3 ?_
  refine z_iconst F (pc := 6) (0) dX4_distanceFrom_6 ?_
  refine z_bipush F (pc := 7) (16) (by decide +kernel) dX4_distanceFrom_7 ?_
  refine z_copyi F (pc := 9) hK hW hl.1 (ws' := wS cI cZ aS (zC nm he f 0 16) ar le ++ wM cI cZ aM lb kd pt mn ++ wD cI cZ aD xs ys lf ev nm sz) (List.mem_of_getElem? (i := 2) rfl) (List.mem_of_getElem? (i := 3) rfl) (List.mem_of_getElem? (i := 4) rfl) (List.mem_of_getElem? (i := 5) rfl) 13 1 rfl rfl (Nat.le_of_ble_eq_true rfl) (Nat.le_of_ble_eq_true rfl) dX4_distanceFrom_9 (by decide) (by omega) rfl (fun H locs hW => ?_)
  refine z_aloadn F (pc := 12) dX4_distanceFrom_12 rfl (lv_at hl 3 rfl) ?_
  refine z_get F (pc := 13) (C := RX6) (T := TX6) (N := 4) (ci := 6) inX6 hK hW 4 1 rfl rfl (by decide) rfl (List.mem_of_getElem? (i := 6) rfl) (v := .ref (aM 2)) rfl dX4_distanceFrom_13 ?_
  refine z_iload F (pc := 16) dX4_distanceFrom_16 (lv_at hl 4 rfl) ?_
  refine z_iald F (pc := 18) hK hW 6 rfl (by decide) dX4_distanceFrom_18 (by omega) ?_
  refine z_istore F (pc := 19) hl (lv' := [(5, .int (iI (kd k))), (0, .ref (aS 0)), (1, .ref (aD 5)), (2, .int (iI f)), (3, .ref (aM 0)), (4, .int (iI k))]) dX4_distanceFrom_19 (by decide) rfl (fun ls hl => ?_)
  refine z_iload F (pc := 21) dX4_distanceFrom_21 (lv_at hl 0 rfl) ?_
  refine z_iconst F (pc := 23) (1) dX4_distanceFrom_23 ?_
  refine z_icmp_eq F (pc := 24) 33 dX4_distanceFrom_24 (by decide) (by omega) (fun c_24 => ?_) (fun c_24 => ?_)
  · skip
    refine z_iconst F (pc := 33) (4) dX4_distanceFrom_33 ?_
    refine z_goto F (pc := 34) 38 dX4_distanceFrom_34 (by decide) ?_
    refine z_istore F (pc := 38) hl (lv' := [(6, .int (iI 4)), (5, .int (iI (kd k))), (0, .ref (aS 0)), (1, .ref (aD 5)), (2, .int (iI f)), (3, .ref (aM 0)), (4, .int (iI k))]) dX4_distanceFrom_38 (by decide) rfl (fun ls hl => ?_)
    refine z_aloadn F (pc := 40) dX4_distanceFrom_40 rfl (lv_at hl 2 rfl) ?_
    refine z_iload F (pc := 41) dX4_distanceFrom_41 (lv_at hl 1 rfl) ?_
    refine z_aloadn F (pc := 43) dX4_distanceFrom_43 rfl (lv_at hl 5 rfl) ?_
    refine z_get F (pc := 44) (C := RX6) (T := TX6) (N := 4) (ci := 6) inX6 hK hW 4 2 rfl rfl (by decide) rfl (List.mem_of_getElem? (i := 7) rfl) (v := .ref (aM 3)) rfl dX4_distanceFrom_44 ?_
    refine z_iload F (pc := 47) dX4_distanceFrom_47 (lv_at hl 6 rfl) ?_
    refine z_bipush F (pc := 49) (16) (by decide +kernel) dX4_distanceFrom_49 ?_
    refine z_imul F (pc := 51) dX4_distanceFrom_51 ?_
    refine z_callVi F (pc := 52) hK hW hA (As := [.int (iI (kd k)), .ref (aM 3), .int (iI (k * 16))]) (rest := []) (ws' := fun (u : (Int → Int) × (Int → Int)) => wS cI cZ aS (zC nm he f 0 16) u.1 u.2 ++ wM cI cZ aM lb kd pt mn ++ wD cI cZ aD xs ys lf ev nm sz) (wr := (wD cI cZ aD xs ys lf ev nm sz)) (c_X4_distanceUnturned l D cI cZ aS aM (zC nm he f 0 16) ar le lb kd pt mn (kd k) (k * 16) _ (by omega) (by omega) (by exact hh) (by rw [c16]; exact hp) (by omega) (by omega)) (cwV 3 F.2.2.2.2 gX4_distanceFrom_X4_distanceUnturned rfl rfl rfl (by decide +kernel) ⟨Nat.le_of_ble_eq_true rfl, Nat.le_of_ble_eq_true rfl⟩) [0, 1, 2, 3, 4, 5, 6, 7] [8, 9, 10, 11, 12, 13] [6, 7, 8, 9, 10, 11, 12, 13, 0, 1, 2, 3, 4, 5] rfl rfl (by decide) (by decide) (by decide) (fun _ => rfl) (by decide) (q0 := 0) (ci := 4) rfl rfl rfl rfl rfl hl.1 (Nat.le_of_ble_eq_true rfl) dX4_distanceFrom_52 ⟨Nat.le_of_ble_eq_true rfl, Nat.le_of_ble_eq_true rfl⟩ (fun z_52 u H locs r_z_52 hp_52 hW => ?_)
    obtain ⟨ar2_52, le2_52⟩ := u
    dsimp only at hp_52 hW
    replace hp_52 := hp_52.symm
    subst hp_52
    refine z_istore F (pc := 55) hl (lv' := [(7, .int (iI (dU (zC nm he f 0 16) pt (k * 16) (kd k)))), (6, .int (iI 4)), (5, .int (iI (kd k))), (0, .ref (aS 0)), (1, .ref (aD 5)), (2, .int (iI f)), (3, .ref (aM 0)), (4, .int (iI k))]) dX4_distanceFrom_55 (by decide) rfl (fun ls hl => ?_)
    refine z_iconst F (pc := 57) (1) dX4_distanceFrom_57 ?_
    refine z_istore F (pc := 58) hl (lv' := [(8, .int (iI 1)), (7, .int (iI (dU (zC nm he f 0 16) pt (k * 16) (kd k)))), (6, .int (iI 4)), (5, .int (iI (kd k))), (0, .ref (aS 0)), (1, .ref (aD 5)), (2, .int (iI f)), (3, .ref (aM 0)), (4, .int (iI k))]) dX4_distanceFrom_58 (by decide) rfl (fun ls hl => ?_)
    have cut_60 : ∀ (fuel : Nat) (ms : Int) (t : Int) (h1 : Int → Int) (ar1 : Int → Int) (le1 : Int → Int) (H : Heap) (locs : List Loc) (ls : Array Slot), (4 - t).toNat < fuel → (1 ≤ t ∧ (t ≤ 4 ∧ (t ≤ 4 ∨ t = 1))) → (h1 = tnI (zC nm he f 0 16) (t - 1)) → (ms = dI (zC nm he f 0 16) pt (16 * k) (kd k) (t - 1)) → lv_has ls 9 [(8, .int (iI t)), (7, .int (iI ms)), (6, .int (iI 4)), (5, .int (iI (kd k))), (0, .ref (aS 0)), (1, .ref (aD 5)), (2, .int (iI f)), (3, .ref (aM 0)), (4, .int (iI k))] → zW D A s.heap H locs (wS cI cZ aS h1 ar1 le1 ++ wM cI cZ aM lb kd pt mn ++ wD cI cZ aD xs ys lf ev nm sz) → W p l e ({ frames := 4, cells := 0, slots := 0, locals := 96 } : Room) s m ([.ref (aS 0), .ref (aD 5), .int (iI f), .ref (aM 0), .int (iI k)] : List Value).toArray below meth c H locs 0 0 Q (F0 m 60 ls []) := by
      intro fuel
      induction fuel with
      | zero => intro ms t h1 ar1 le1 H locs ls hm; exact absurd hm (Nat.not_lt_zero _)
      | succ fuel ih_60 =>
        intro ms t h1 ar1 le1 H locs ls hm_60 g1 g2 g3 hl hW
        have hin : inH h1 := by rw [g2]; exact tnI_in hh _
        have hms := hdi (t - 1)
        rw [← g3] at hms
        refine z_iload F (pc := 60) dX4_distanceFrom_60 (lv_at hl 0 rfl) ?_
        refine z_iload F (pc := 62) dX4_distanceFrom_62 (lv_at hl 2 rfl) ?_
        refine z_icmp_ge F (pc := 64) 99 dX4_distanceFrom_64 (by decide) (by omega) (fun c_64 => ?_) (fun c_64 => ?_)
        · skip
          refine z_iload F (pc := 99) dX4_distanceFrom_99 (lv_at hl 1 rfl) ?_
          exact hret _ _ _ _ ms (h1, ar1, le1) dX4_distanceFrom_101 (by omega) (by (try dsimp only) <;> (unfold dF; first | (rw [if_pos (by omega), g3, show t - 1 = 3 by omega]; done) | (rw [if_neg (by omega), g3, show t - 1 = 0 by omega]; rfl))) hW
        · skip
          refine z_aloadn F (pc := 67) dX4_distanceFrom_67 rfl (lv_at hl 4 rfl) ?_
          refine z_callVv F (pc := 68) hK hW hA (As := []) (rest := []) (ws' := fun (u : (Int → Int)) => wS cI cZ aS u ar1 le1 ++ wM cI cZ aM lb kd pt mn ++ wD cI cZ aD xs ys lf ev nm sz) (wr := (wM cI cZ aM lb kd pt mn ++ wD cI cZ aD xs ys lf ev nm sz)) (c_X4_turnQuarter l D cI cZ aS h1 ar1 le1 _ (by exact hin)) (cwV 0 F.2.2.2.2 gX4_distanceFrom_X4_turnQuarter rfl rfl rfl (by decide +kernel) ⟨Nat.le_of_ble_eq_true rfl, Nat.le_of_ble_eq_true rfl⟩) [0, 1, 2, 3] [4, 5, 6, 7, 8, 9, 10, 11, 12, 13] [10, 11, 12, 13, 0, 1, 2, 3, 4, 5, 6, 7, 8, 9] rfl rfl (by decide) (by decide) (by decide) (fun _ => rfl) (by decide) (q0 := 0) (ci := 4) rfl rfl rfl rfl rfl hl.1 (Nat.le_of_ble_eq_true rfl) dX4_distanceFrom_68 ⟨Nat.le_of_ble_eq_true rfl, Nat.le_of_ble_eq_true rfl⟩ (fun u H locs hp_68 hW => ?_)
          obtain ⟨he2_68, rfl⟩ : ∃ v, v = u := ⟨_, rfl⟩
          refine z_iload F (pc := 71) dX4_distanceFrom_71 (lv_at hl 1 rfl) ?_
          refine z_aloadn F (pc := 73) dX4_distanceFrom_73 rfl (lv_at hl 4 rfl) ?_
          refine z_iload F (pc := 74) dX4_distanceFrom_74 (lv_at hl 3 rfl) ?_
          refine z_aloadn F (pc := 76) dX4_distanceFrom_76 rfl (lv_at hl 7 rfl) ?_
          refine z_get F (pc := 77) (C := RX6) (T := TX6) (N := 4) (ci := 6) inX6 hK hW 4 2 rfl rfl (by decide) rfl (List.mem_of_getElem? (i := 7) rfl) (v := .ref (aM 3)) rfl dX4_distanceFrom_77 ?_
          refine z_iload F (pc := 80) dX4_distanceFrom_80 (lv_at hl 8 rfl) ?_
          refine z_bipush F (pc := 82) (16) (by decide +kernel) dX4_distanceFrom_82 ?_
          refine z_imul F (pc := 84) dX4_distanceFrom_84 ?_
          refine z_callVi F (pc := 85) hK hW hA (As := [.int (iI (kd k)), .ref (aM 3), .int (iI (k * 16))]) (rest := [.int (iI ms)]) (ws' := fun (u : (Int → Int) × (Int → Int)) => wS cI cZ aS he2_68 u.1 u.2 ++ wM cI cZ aM lb kd pt mn ++ wD cI cZ aD xs ys lf ev nm sz) (wr := (wD cI cZ aD xs ys lf ev nm sz)) (c_X4_distanceUnturned l D cI cZ aS aM he2_68 ar1 le1 lb kd pt mn (kd k) (k * 16) _ (by omega) (by omega) (by rw [hp_68]; exact tn_in hin) (by rw [c16]; exact hp) (by omega) (by omega)) (cwV 3 F.2.2.2.2 gX4_distanceFrom_X4_distanceUnturned rfl rfl rfl (by decide +kernel) ⟨Nat.le_of_ble_eq_true rfl, Nat.le_of_ble_eq_true rfl⟩) [0, 1, 2, 3, 4, 5, 6, 7] [8, 9, 10, 11, 12, 13] [6, 7, 8, 9, 10, 11, 12, 13, 0, 1, 2, 3, 4, 5] rfl rfl (by decide) (by decide) (by decide) (fun _ => rfl) (by decide) (q0 := 0) (ci := 4) rfl rfl rfl rfl rfl hl.1 (Nat.le_of_ble_eq_true rfl) dX4_distanceFrom_85 ⟨Nat.le_of_ble_eq_true rfl, Nat.le_of_ble_eq_true rfl⟩ (fun z_85 u H locs r_z_85 hp_85 hW => ?_)
          obtain ⟨ar2_85, le2_85⟩ := u
          dsimp only at hp_85 hW
          replace hp_85 := hp_85.symm
          subst hp_85
          have hd2 := dU_b (q := kd k) (show inH he2_68 by rw [hp_68]; exact tn_in hin) hp
          rw [← c16] at hd2
          refine z_mmin F (pc := 88) hl.1 (List.mem_of_getElem? (i := 8) rfl) (List.mem_of_getElem? (i := 9) rfl) (List.mem_of_getElem? (i := 10) rfl) (List.mem_of_getElem? (i := 11) rfl) (Nat.le_of_ble_eq_true rfl) (Nat.le_of_ble_eq_true rfl) (Nat.le_of_ble_eq_true rfl) (Nat.le_of_ble_eq_true rfl) dX4_distanceFrom_88 (by omega) ?_
          refine z_istore F (pc := 91) hl (lv' := [(7, .int (iI (min ms (dU he2_68 pt (k * 16) (kd k))))), (8, .int (iI t)), (6, .int (iI 4)), (5, .int (iI (kd k))), (0, .ref (aS 0)), (1, .ref (aD 5)), (2, .int (iI f)), (3, .ref (aM 0)), (4, .int (iI k))]) dX4_distanceFrom_91 (by decide) rfl (fun ls hl => ?_)
          refine z_iinc F (pc := 93) hl (lv' := [(8, .int (iI (t + 1))), (7, .int (iI (min ms (dU he2_68 pt (k * 16) (kd k))))), (6, .int (iI 4)), (5, .int (iI (kd k))), (0, .ref (aS 0)), (1, .ref (aD 5)), (2, .int (iI f)), (3, .ref (aM 0)), (4, .int (iI k))]) dX4_distanceFrom_93 (k := 1) rfl (by decide) rfl (fun ls hl => ?_)
          refine z_goto F (pc := 96) 60 dX4_distanceFrom_96 (by decide) ?_
          exact ih_60 (min ms (dU he2_68 pt (k * 16) (kd k))) (t + 1) he2_68 ar2_85 le2_85 _ _ _ (by omega) (by omega) (by rw [hp_68, g2]; exact tnI_s _ (by omega) (by omega)) (by rw [c16, hp_68, g2, tnI_s _ (show 0 ≤ t - 1 by omega) (show t = t - 1 + 1 by omega), g3]; exact (dI_s _ _ _ _ (by omega) (by omega)).trans (by rw [show t + 1 - 1 = t by omega])) (lv_sub hl [0, 1, 2, 3, 4, 5, 6, 7, 8] rfl) hW
    exact cut_60 _ (dU (zC nm he f 0 16) pt (k * 16) (kd k)) 1 (zC nm he f 0 16) ar2_52 le2_52 _ _ _ (Nat.lt_succ_self _) (by omega) (by rfl) (by rw [c16]; rfl) (lv_sub hl [0, 1, 2, 3, 4, 5, 6, 7, 8] rfl) hW
  · skip
    refine z_iload F (pc := 27) dX4_distanceFrom_27 (lv_at hl 0 rfl) ?_
    refine z_iconst F (pc := 29) (4) dX4_distanceFrom_29 ?_
    refine z_icmp_ne F (pc := 30) 37 dX4_distanceFrom_30 (by decide) (by omega) (fun c_30 => ?_) (fun c_30 => ?_)
    · skip
      refine z_iconst F (pc := 37) (1) dX4_distanceFrom_37 ?_
      refine z_istore F (pc := 38) hl (lv' := [(6, .int (iI 1)), (5, .int (iI (kd k))), (0, .ref (aS 0)), (1, .ref (aD 5)), (2, .int (iI f)), (3, .ref (aM 0)), (4, .int (iI k))]) dX4_distanceFrom_38 (by decide) rfl (fun ls hl => ?_)
      refine z_aloadn F (pc := 40) dX4_distanceFrom_40 rfl (lv_at hl 2 rfl) ?_
      refine z_iload F (pc := 41) dX4_distanceFrom_41 (lv_at hl 1 rfl) ?_
      refine z_aloadn F (pc := 43) dX4_distanceFrom_43 rfl (lv_at hl 5 rfl) ?_
      refine z_get F (pc := 44) (C := RX6) (T := TX6) (N := 4) (ci := 6) inX6 hK hW 4 2 rfl rfl (by decide) rfl (List.mem_of_getElem? (i := 7) rfl) (v := .ref (aM 3)) rfl dX4_distanceFrom_44 ?_
      refine z_iload F (pc := 47) dX4_distanceFrom_47 (lv_at hl 6 rfl) ?_
      refine z_bipush F (pc := 49) (16) (by decide +kernel) dX4_distanceFrom_49 ?_
      refine z_imul F (pc := 51) dX4_distanceFrom_51 ?_
      refine z_callVi F (pc := 52) hK hW hA (As := [.int (iI (kd k)), .ref (aM 3), .int (iI (k * 16))]) (rest := []) (ws' := fun (u : (Int → Int) × (Int → Int)) => wS cI cZ aS (zC nm he f 0 16) u.1 u.2 ++ wM cI cZ aM lb kd pt mn ++ wD cI cZ aD xs ys lf ev nm sz) (wr := (wD cI cZ aD xs ys lf ev nm sz)) (c_X4_distanceUnturned l D cI cZ aS aM (zC nm he f 0 16) ar le lb kd pt mn (kd k) (k * 16) _ (by omega) (by omega) (by exact hh) (by rw [c16]; exact hp) (by omega) (by omega)) (cwV 3 F.2.2.2.2 gX4_distanceFrom_X4_distanceUnturned rfl rfl rfl (by decide +kernel) ⟨Nat.le_of_ble_eq_true rfl, Nat.le_of_ble_eq_true rfl⟩) [0, 1, 2, 3, 4, 5, 6, 7] [8, 9, 10, 11, 12, 13] [6, 7, 8, 9, 10, 11, 12, 13, 0, 1, 2, 3, 4, 5] rfl rfl (by decide) (by decide) (by decide) (fun _ => rfl) (by decide) (q0 := 0) (ci := 4) rfl rfl rfl rfl rfl hl.1 (Nat.le_of_ble_eq_true rfl) dX4_distanceFrom_52 ⟨Nat.le_of_ble_eq_true rfl, Nat.le_of_ble_eq_true rfl⟩ (fun z_52 u H locs r_z_52 hp_52 hW => ?_)
      obtain ⟨ar2_52, le2_52⟩ := u
      dsimp only at hp_52 hW
      replace hp_52 := hp_52.symm
      subst hp_52
      refine z_istore F (pc := 55) hl (lv' := [(7, .int (iI (dU (zC nm he f 0 16) pt (k * 16) (kd k)))), (6, .int (iI 1)), (5, .int (iI (kd k))), (0, .ref (aS 0)), (1, .ref (aD 5)), (2, .int (iI f)), (3, .ref (aM 0)), (4, .int (iI k))]) dX4_distanceFrom_55 (by decide) rfl (fun ls hl => ?_)
      refine z_iconst F (pc := 57) (1) dX4_distanceFrom_57 ?_
      refine z_istore F (pc := 58) hl (lv' := [(8, .int (iI 1)), (7, .int (iI (dU (zC nm he f 0 16) pt (k * 16) (kd k)))), (6, .int (iI 1)), (5, .int (iI (kd k))), (0, .ref (aS 0)), (1, .ref (aD 5)), (2, .int (iI f)), (3, .ref (aM 0)), (4, .int (iI k))]) dX4_distanceFrom_58 (by decide) rfl (fun ls hl => ?_)
      have cut_60 : ∀ (fuel : Nat) (ms : Int) (t : Int) (h1 : Int → Int) (ar1 : Int → Int) (le1 : Int → Int) (H : Heap) (locs : List Loc) (ls : Array Slot), (4 - t).toNat < fuel → (1 ≤ t ∧ (t ≤ 4 ∧ (t ≤ 1 ∨ t = 1))) → (h1 = tnI (zC nm he f 0 16) (t - 1)) → (ms = dI (zC nm he f 0 16) pt (16 * k) (kd k) (t - 1)) → lv_has ls 9 [(8, .int (iI t)), (7, .int (iI ms)), (6, .int (iI 1)), (5, .int (iI (kd k))), (0, .ref (aS 0)), (1, .ref (aD 5)), (2, .int (iI f)), (3, .ref (aM 0)), (4, .int (iI k))] → zW D A s.heap H locs (wS cI cZ aS h1 ar1 le1 ++ wM cI cZ aM lb kd pt mn ++ wD cI cZ aD xs ys lf ev nm sz) → W p l e ({ frames := 4, cells := 0, slots := 0, locals := 96 } : Room) s m ([.ref (aS 0), .ref (aD 5), .int (iI f), .ref (aM 0), .int (iI k)] : List Value).toArray below meth c H locs 0 0 Q (F0 m 60 ls []) := by
        intro fuel
        induction fuel with
        | zero => intro ms t h1 ar1 le1 H locs ls hm; exact absurd hm (Nat.not_lt_zero _)
        | succ fuel ih_60 =>
          intro ms t h1 ar1 le1 H locs ls hm_60 g1 g2 g3 hl hW
          have hin : inH h1 := by rw [g2]; exact tnI_in hh _
          have hms := hdi (t - 1)
          rw [← g3] at hms
          refine z_iload F (pc := 60) dX4_distanceFrom_60 (lv_at hl 0 rfl) ?_
          refine z_iload F (pc := 62) dX4_distanceFrom_62 (lv_at hl 2 rfl) ?_
          refine z_icmp_ge F (pc := 64) 99 dX4_distanceFrom_64 (by decide) (by omega) (fun c_64 => ?_) (fun c_64 => ?_)
          · skip
            refine z_iload F (pc := 99) dX4_distanceFrom_99 (lv_at hl 1 rfl) ?_
            exact hret _ _ _ _ ms (h1, ar1, le1) dX4_distanceFrom_101 (by omega) (by (try dsimp only) <;> (unfold dF; first | (rw [if_pos (by omega), g3, show t - 1 = 3 by omega]; done) | (rw [if_neg (by omega), g3, show t - 1 = 0 by omega]; rfl))) hW
          · skip
            refine z_aloadn F (pc := 67) dX4_distanceFrom_67 rfl (lv_at hl 4 rfl) ?_
            refine z_callVv F (pc := 68) hK hW hA (As := []) (rest := []) (ws' := fun (u : (Int → Int)) => wS cI cZ aS u ar1 le1 ++ wM cI cZ aM lb kd pt mn ++ wD cI cZ aD xs ys lf ev nm sz) (wr := (wM cI cZ aM lb kd pt mn ++ wD cI cZ aD xs ys lf ev nm sz)) (c_X4_turnQuarter l D cI cZ aS h1 ar1 le1 _ (by exact hin)) (cwV 0 F.2.2.2.2 gX4_distanceFrom_X4_turnQuarter rfl rfl rfl (by decide +kernel) ⟨Nat.le_of_ble_eq_true rfl, Nat.le_of_ble_eq_true rfl⟩) [0, 1, 2, 3] [4, 5, 6, 7, 8, 9, 10, 11, 12, 13] [10, 11, 12, 13, 0, 1, 2, 3, 4, 5, 6, 7, 8, 9] rfl rfl (by decide) (by decide) (by decide) (fun _ => rfl) (by decide) (q0 := 0) (ci := 4) rfl rfl rfl rfl rfl hl.1 (Nat.le_of_ble_eq_true rfl) dX4_distanceFrom_68 ⟨Nat.le_of_ble_eq_true rfl, Nat.le_of_ble_eq_true rfl⟩ (fun u H locs hp_68 hW => ?_)
            obtain ⟨he2_68, rfl⟩ : ∃ v, v = u := ⟨_, rfl⟩
            refine z_iload F (pc := 71) dX4_distanceFrom_71 (lv_at hl 1 rfl) ?_
            refine z_aloadn F (pc := 73) dX4_distanceFrom_73 rfl (lv_at hl 4 rfl) ?_
            refine z_iload F (pc := 74) dX4_distanceFrom_74 (lv_at hl 3 rfl) ?_
            refine z_aloadn F (pc := 76) dX4_distanceFrom_76 rfl (lv_at hl 7 rfl) ?_
            refine z_get F (pc := 77) (C := RX6) (T := TX6) (N := 4) (ci := 6) inX6 hK hW 4 2 rfl rfl (by decide) rfl (List.mem_of_getElem? (i := 7) rfl) (v := .ref (aM 3)) rfl dX4_distanceFrom_77 ?_
            refine z_iload F (pc := 80) dX4_distanceFrom_80 (lv_at hl 8 rfl) ?_
            refine z_bipush F (pc := 82) (16) (by decide +kernel) dX4_distanceFrom_82 ?_
            refine z_imul F (pc := 84) dX4_distanceFrom_84 ?_
            refine z_callVi F (pc := 85) hK hW hA (As := [.int (iI (kd k)), .ref (aM 3), .int (iI (k * 16))]) (rest := [.int (iI ms)]) (ws' := fun (u : (Int → Int) × (Int → Int)) => wS cI cZ aS he2_68 u.1 u.2 ++ wM cI cZ aM lb kd pt mn ++ wD cI cZ aD xs ys lf ev nm sz) (wr := (wD cI cZ aD xs ys lf ev nm sz)) (c_X4_distanceUnturned l D cI cZ aS aM he2_68 ar1 le1 lb kd pt mn (kd k) (k * 16) _ (by omega) (by omega) (by rw [hp_68]; exact tn_in hin) (by rw [c16]; exact hp) (by omega) (by omega)) (cwV 3 F.2.2.2.2 gX4_distanceFrom_X4_distanceUnturned rfl rfl rfl (by decide +kernel) ⟨Nat.le_of_ble_eq_true rfl, Nat.le_of_ble_eq_true rfl⟩) [0, 1, 2, 3, 4, 5, 6, 7] [8, 9, 10, 11, 12, 13] [6, 7, 8, 9, 10, 11, 12, 13, 0, 1, 2, 3, 4, 5] rfl rfl (by decide) (by decide) (by decide) (fun _ => rfl) (by decide) (q0 := 0) (ci := 4) rfl rfl rfl rfl rfl hl.1 (Nat.le_of_ble_eq_true rfl) dX4_distanceFrom_85 ⟨Nat.le_of_ble_eq_true rfl, Nat.le_of_ble_eq_true rfl⟩ (fun z_85 u H locs r_z_85 hp_85 hW => ?_)
            obtain ⟨ar2_85, le2_85⟩ := u
            dsimp only at hp_85 hW
            replace hp_85 := hp_85.symm
            subst hp_85
            have hd2 := dU_b (q := kd k) (show inH he2_68 by rw [hp_68]; exact tn_in hin) hp
            rw [← c16] at hd2
            refine z_mmin F (pc := 88) hl.1 (List.mem_of_getElem? (i := 8) rfl) (List.mem_of_getElem? (i := 9) rfl) (List.mem_of_getElem? (i := 10) rfl) (List.mem_of_getElem? (i := 11) rfl) (Nat.le_of_ble_eq_true rfl) (Nat.le_of_ble_eq_true rfl) (Nat.le_of_ble_eq_true rfl) (Nat.le_of_ble_eq_true rfl) dX4_distanceFrom_88 (by omega) ?_
            refine z_istore F (pc := 91) hl (lv' := [(7, .int (iI (min ms (dU he2_68 pt (k * 16) (kd k))))), (8, .int (iI t)), (6, .int (iI 1)), (5, .int (iI (kd k))), (0, .ref (aS 0)), (1, .ref (aD 5)), (2, .int (iI f)), (3, .ref (aM 0)), (4, .int (iI k))]) dX4_distanceFrom_91 (by decide) rfl (fun ls hl => ?_)
            refine z_iinc F (pc := 93) hl (lv' := [(8, .int (iI (t + 1))), (7, .int (iI (min ms (dU he2_68 pt (k * 16) (kd k))))), (6, .int (iI 1)), (5, .int (iI (kd k))), (0, .ref (aS 0)), (1, .ref (aD 5)), (2, .int (iI f)), (3, .ref (aM 0)), (4, .int (iI k))]) dX4_distanceFrom_93 (k := 1) rfl (by decide) rfl (fun ls hl => ?_)
            refine z_goto F (pc := 96) 60 dX4_distanceFrom_96 (by decide) ?_
            exact ih_60 (min ms (dU he2_68 pt (k * 16) (kd k))) (t + 1) he2_68 ar2_85 le2_85 _ _ _ (by omega) (by omega) (by rw [hp_68, g2]; exact tnI_s _ (by omega) (by omega)) (by rw [c16, hp_68, g2, tnI_s _ (show 0 ≤ t - 1 by omega) (show t = t - 1 + 1 by omega), g3]; exact (dI_s _ _ _ _ (by omega) (by omega)).trans (by rw [show t + 1 - 1 = t by omega])) (lv_sub hl [0, 1, 2, 3, 4, 5, 6, 7, 8] rfl) hW
      exact cut_60 _ (dU (zC nm he f 0 16) pt (k * 16) (kd k)) 1 (zC nm he f 0 16) ar2_52 le2_52 _ _ _ (Nat.lt_succ_self _) (by omega) (by rfl) (by rw [c16]; rfl) (lv_sub hl [0, 1, 2, 3, 4, 5, 6, 7, 8] rfl) hW
    · skip
      refine z_iconst F (pc := 33) (4) dX4_distanceFrom_33 ?_
      refine z_goto F (pc := 34) 38 dX4_distanceFrom_34 (by decide) ?_
      refine z_istore F (pc := 38) hl (lv' := [(6, .int (iI 4)), (5, .int (iI (kd k))), (0, .ref (aS 0)), (1, .ref (aD 5)), (2, .int (iI f)), (3, .ref (aM 0)), (4, .int (iI k))]) dX4_distanceFrom_38 (by decide) rfl (fun ls hl => ?_)
      refine z_aloadn F (pc := 40) dX4_distanceFrom_40 rfl (lv_at hl 2 rfl) ?_
      refine z_iload F (pc := 41) dX4_distanceFrom_41 (lv_at hl 1 rfl) ?_
      refine z_aloadn F (pc := 43) dX4_distanceFrom_43 rfl (lv_at hl 5 rfl) ?_
      refine z_get F (pc := 44) (C := RX6) (T := TX6) (N := 4) (ci := 6) inX6 hK hW 4 2 rfl rfl (by decide) rfl (List.mem_of_getElem? (i := 7) rfl) (v := .ref (aM 3)) rfl dX4_distanceFrom_44 ?_
      refine z_iload F (pc := 47) dX4_distanceFrom_47 (lv_at hl 6 rfl) ?_
      refine z_bipush F (pc := 49) (16) (by decide +kernel) dX4_distanceFrom_49 ?_
      refine z_imul F (pc := 51) dX4_distanceFrom_51 ?_
      refine z_callVi F (pc := 52) hK hW hA (As := [.int (iI (kd k)), .ref (aM 3), .int (iI (k * 16))]) (rest := []) (ws' := fun (u : (Int → Int) × (Int → Int)) => wS cI cZ aS (zC nm he f 0 16) u.1 u.2 ++ wM cI cZ aM lb kd pt mn ++ wD cI cZ aD xs ys lf ev nm sz) (wr := (wD cI cZ aD xs ys lf ev nm sz)) (c_X4_distanceUnturned l D cI cZ aS aM (zC nm he f 0 16) ar le lb kd pt mn (kd k) (k * 16) _ (by omega) (by omega) (by exact hh) (by rw [c16]; exact hp) (by omega) (by omega)) (cwV 3 F.2.2.2.2 gX4_distanceFrom_X4_distanceUnturned rfl rfl rfl (by decide +kernel) ⟨Nat.le_of_ble_eq_true rfl, Nat.le_of_ble_eq_true rfl⟩) [0, 1, 2, 3, 4, 5, 6, 7] [8, 9, 10, 11, 12, 13] [6, 7, 8, 9, 10, 11, 12, 13, 0, 1, 2, 3, 4, 5] rfl rfl (by decide) (by decide) (by decide) (fun _ => rfl) (by decide) (q0 := 0) (ci := 4) rfl rfl rfl rfl rfl hl.1 (Nat.le_of_ble_eq_true rfl) dX4_distanceFrom_52 ⟨Nat.le_of_ble_eq_true rfl, Nat.le_of_ble_eq_true rfl⟩ (fun z_52 u H locs r_z_52 hp_52 hW => ?_)
      obtain ⟨ar2_52, le2_52⟩ := u
      dsimp only at hp_52 hW
      replace hp_52 := hp_52.symm
      subst hp_52
      refine z_istore F (pc := 55) hl (lv' := [(7, .int (iI (dU (zC nm he f 0 16) pt (k * 16) (kd k)))), (6, .int (iI 4)), (5, .int (iI (kd k))), (0, .ref (aS 0)), (1, .ref (aD 5)), (2, .int (iI f)), (3, .ref (aM 0)), (4, .int (iI k))]) dX4_distanceFrom_55 (by decide) rfl (fun ls hl => ?_)
      refine z_iconst F (pc := 57) (1) dX4_distanceFrom_57 ?_
      refine z_istore F (pc := 58) hl (lv' := [(8, .int (iI 1)), (7, .int (iI (dU (zC nm he f 0 16) pt (k * 16) (kd k)))), (6, .int (iI 4)), (5, .int (iI (kd k))), (0, .ref (aS 0)), (1, .ref (aD 5)), (2, .int (iI f)), (3, .ref (aM 0)), (4, .int (iI k))]) dX4_distanceFrom_58 (by decide) rfl (fun ls hl => ?_)
      have cut_60 : ∀ (fuel : Nat) (ms : Int) (t : Int) (h1 : Int → Int) (ar1 : Int → Int) (le1 : Int → Int) (H : Heap) (locs : List Loc) (ls : Array Slot), (4 - t).toNat < fuel → (1 ≤ t ∧ (t ≤ 4 ∧ (t ≤ 4 ∨ t = 1))) → (h1 = tnI (zC nm he f 0 16) (t - 1)) → (ms = dI (zC nm he f 0 16) pt (16 * k) (kd k) (t - 1)) → lv_has ls 9 [(8, .int (iI t)), (7, .int (iI ms)), (6, .int (iI 4)), (5, .int (iI (kd k))), (0, .ref (aS 0)), (1, .ref (aD 5)), (2, .int (iI f)), (3, .ref (aM 0)), (4, .int (iI k))] → zW D A s.heap H locs (wS cI cZ aS h1 ar1 le1 ++ wM cI cZ aM lb kd pt mn ++ wD cI cZ aD xs ys lf ev nm sz) → W p l e ({ frames := 4, cells := 0, slots := 0, locals := 96 } : Room) s m ([.ref (aS 0), .ref (aD 5), .int (iI f), .ref (aM 0), .int (iI k)] : List Value).toArray below meth c H locs 0 0 Q (F0 m 60 ls []) := by
        intro fuel
        induction fuel with
        | zero => intro ms t h1 ar1 le1 H locs ls hm; exact absurd hm (Nat.not_lt_zero _)
        | succ fuel ih_60 =>
          intro ms t h1 ar1 le1 H locs ls hm_60 g1 g2 g3 hl hW
          have hin : inH h1 := by rw [g2]; exact tnI_in hh _
          have hms := hdi (t - 1)
          rw [← g3] at hms
          refine z_iload F (pc := 60) dX4_distanceFrom_60 (lv_at hl 0 rfl) ?_
          refine z_iload F (pc := 62) dX4_distanceFrom_62 (lv_at hl 2 rfl) ?_
          refine z_icmp_ge F (pc := 64) 99 dX4_distanceFrom_64 (by decide) (by omega) (fun c_64 => ?_) (fun c_64 => ?_)
          · skip
            refine z_iload F (pc := 99) dX4_distanceFrom_99 (lv_at hl 1 rfl) ?_
            exact hret _ _ _ _ ms (h1, ar1, le1) dX4_distanceFrom_101 (by omega) (by (try dsimp only) <;> (unfold dF; first | (rw [if_pos (by omega), g3, show t - 1 = 3 by omega]; done) | (rw [if_neg (by omega), g3, show t - 1 = 0 by omega]; rfl))) hW
          · skip
            refine z_aloadn F (pc := 67) dX4_distanceFrom_67 rfl (lv_at hl 4 rfl) ?_
            refine z_callVv F (pc := 68) hK hW hA (As := []) (rest := []) (ws' := fun (u : (Int → Int)) => wS cI cZ aS u ar1 le1 ++ wM cI cZ aM lb kd pt mn ++ wD cI cZ aD xs ys lf ev nm sz) (wr := (wM cI cZ aM lb kd pt mn ++ wD cI cZ aD xs ys lf ev nm sz)) (c_X4_turnQuarter l D cI cZ aS h1 ar1 le1 _ (by exact hin)) (cwV 0 F.2.2.2.2 gX4_distanceFrom_X4_turnQuarter rfl rfl rfl (by decide +kernel) ⟨Nat.le_of_ble_eq_true rfl, Nat.le_of_ble_eq_true rfl⟩) [0, 1, 2, 3] [4, 5, 6, 7, 8, 9, 10, 11, 12, 13] [10, 11, 12, 13, 0, 1, 2, 3, 4, 5, 6, 7, 8, 9] rfl rfl (by decide) (by decide) (by decide) (fun _ => rfl) (by decide) (q0 := 0) (ci := 4) rfl rfl rfl rfl rfl hl.1 (Nat.le_of_ble_eq_true rfl) dX4_distanceFrom_68 ⟨Nat.le_of_ble_eq_true rfl, Nat.le_of_ble_eq_true rfl⟩ (fun u H locs hp_68 hW => ?_)
            obtain ⟨he2_68, rfl⟩ : ∃ v, v = u := ⟨_, rfl⟩
            refine z_iload F (pc := 71) dX4_distanceFrom_71 (lv_at hl 1 rfl) ?_
            refine z_aloadn F (pc := 73) dX4_distanceFrom_73 rfl (lv_at hl 4 rfl) ?_
            refine z_iload F (pc := 74) dX4_distanceFrom_74 (lv_at hl 3 rfl) ?_
            refine z_aloadn F (pc := 76) dX4_distanceFrom_76 rfl (lv_at hl 7 rfl) ?_
            refine z_get F (pc := 77) (C := RX6) (T := TX6) (N := 4) (ci := 6) inX6 hK hW 4 2 rfl rfl (by decide) rfl (List.mem_of_getElem? (i := 7) rfl) (v := .ref (aM 3)) rfl dX4_distanceFrom_77 ?_
            refine z_iload F (pc := 80) dX4_distanceFrom_80 (lv_at hl 8 rfl) ?_
            refine z_bipush F (pc := 82) (16) (by decide +kernel) dX4_distanceFrom_82 ?_
            refine z_imul F (pc := 84) dX4_distanceFrom_84 ?_
            refine z_callVi F (pc := 85) hK hW hA (As := [.int (iI (kd k)), .ref (aM 3), .int (iI (k * 16))]) (rest := [.int (iI ms)]) (ws' := fun (u : (Int → Int) × (Int → Int)) => wS cI cZ aS he2_68 u.1 u.2 ++ wM cI cZ aM lb kd pt mn ++ wD cI cZ aD xs ys lf ev nm sz) (wr := (wD cI cZ aD xs ys lf ev nm sz)) (c_X4_distanceUnturned l D cI cZ aS aM he2_68 ar1 le1 lb kd pt mn (kd k) (k * 16) _ (by omega) (by omega) (by rw [hp_68]; exact tn_in hin) (by rw [c16]; exact hp) (by omega) (by omega)) (cwV 3 F.2.2.2.2 gX4_distanceFrom_X4_distanceUnturned rfl rfl rfl (by decide +kernel) ⟨Nat.le_of_ble_eq_true rfl, Nat.le_of_ble_eq_true rfl⟩) [0, 1, 2, 3, 4, 5, 6, 7] [8, 9, 10, 11, 12, 13] [6, 7, 8, 9, 10, 11, 12, 13, 0, 1, 2, 3, 4, 5] rfl rfl (by decide) (by decide) (by decide) (fun _ => rfl) (by decide) (q0 := 0) (ci := 4) rfl rfl rfl rfl rfl hl.1 (Nat.le_of_ble_eq_true rfl) dX4_distanceFrom_85 ⟨Nat.le_of_ble_eq_true rfl, Nat.le_of_ble_eq_true rfl⟩ (fun z_85 u H locs r_z_85 hp_85 hW => ?_)
            obtain ⟨ar2_85, le2_85⟩ := u
            dsimp only at hp_85 hW
            replace hp_85 := hp_85.symm
            subst hp_85
            have hd2 := dU_b (q := kd k) (show inH he2_68 by rw [hp_68]; exact tn_in hin) hp
            rw [← c16] at hd2
            refine z_mmin F (pc := 88) hl.1 (List.mem_of_getElem? (i := 8) rfl) (List.mem_of_getElem? (i := 9) rfl) (List.mem_of_getElem? (i := 10) rfl) (List.mem_of_getElem? (i := 11) rfl) (Nat.le_of_ble_eq_true rfl) (Nat.le_of_ble_eq_true rfl) (Nat.le_of_ble_eq_true rfl) (Nat.le_of_ble_eq_true rfl) dX4_distanceFrom_88 (by omega) ?_
            refine z_istore F (pc := 91) hl (lv' := [(7, .int (iI (min ms (dU he2_68 pt (k * 16) (kd k))))), (8, .int (iI t)), (6, .int (iI 4)), (5, .int (iI (kd k))), (0, .ref (aS 0)), (1, .ref (aD 5)), (2, .int (iI f)), (3, .ref (aM 0)), (4, .int (iI k))]) dX4_distanceFrom_91 (by decide) rfl (fun ls hl => ?_)
            refine z_iinc F (pc := 93) hl (lv' := [(8, .int (iI (t + 1))), (7, .int (iI (min ms (dU he2_68 pt (k * 16) (kd k))))), (6, .int (iI 4)), (5, .int (iI (kd k))), (0, .ref (aS 0)), (1, .ref (aD 5)), (2, .int (iI f)), (3, .ref (aM 0)), (4, .int (iI k))]) dX4_distanceFrom_93 (k := 1) rfl (by decide) rfl (fun ls hl => ?_)
            refine z_goto F (pc := 96) 60 dX4_distanceFrom_96 (by decide) ?_
            exact ih_60 (min ms (dU he2_68 pt (k * 16) (kd k))) (t + 1) he2_68 ar2_85 le2_85 _ _ _ (by omega) (by omega) (by rw [hp_68, g2]; exact tnI_s _ (by omega) (by omega)) (by rw [c16, hp_68, g2, tnI_s _ (show 0 ≤ t - 1 by omega) (show t = t - 1 + 1 by omega), g3]; exact (dI_s _ _ _ _ (by omega) (by omega)).trans (by rw [show t + 1 - 1 = t by omega])) (lv_sub hl [0, 1, 2, 3, 4, 5, 6, 7, 8] rfl) hW
      exact cut_60 _ (dU (zC nm he f 0 16) pt (k * 16) (kd k)) 1 (zC nm he f 0 16) ar2_52 le2_52 _ _ _ (Nat.lt_succ_self _) (by omega) (by rfl) (by rw [c16]; rfl) (lv_sub hl [0, 1, 2, 3, 4, 5, 6, 7, 8] rfl) hW

set_option maxHeartbeats 4000000 in
set_option maxRecDepth 100000 in
theorem c_X4_distanceFromM (l : Launch) (D : va_G) (cI cZ : ClassId) (aS aM : Nat → Nat) (he ar le lb kd pt : Int → Int) (mn : Int) (f k : Int) (sz0 : Nat) (r_f : (-2147483648 ≤ f ∧ f < 2147483648)) (r_k : (-2147483648 ≤ k ∧ k < 2147483648)) (hm : (0 ≤ mn ∧ mn ≤ 16)) (hk : 0 ≤ k ∧ k < mn) (hf : 0 ≤ f ∧ f + 16 ≤ 256) (hr : inP pt f) (hp : inP pt (16 * k)) (hq : 0 ≤ kd k ∧ kd k ≤ 4) : Met l yX4_distanceFrom wsX4_distanceFrom ({ frames := 4, cells := 0, slots := 0, locals := 96 } : Room) (zPc D cI cZ [.ref (aS 0), .ref (aM 3), .int (iI f), .ref (aM 0), .int (iI k)] (wS cI cZ aS he ar le ++ wM cI cZ aM lb kd pt mn) sz0) (zQi D cI cZ (wS cI cZ aS he ar le ++ wM cI cZ aM lb kd pt mn) sz0 (fun (r : Int) (u : (Int → Int) × (Int → Int) × (Int → Int)) => r = dF (zC pt he f 0 16) pt (16 * k) (kd k)) (fun (u : (Int → Int) × (Int → Int) × (Int → Int)) => wS cI cZ aS u.1 u.2.1 u.2.2 ++ wM cI cZ aM lb kd pt mn)) 0 0 (va_A (wS cI cZ aS he ar le ++ wM cI cZ aM lb kd pt mn) sz0) := by
  have hh : inH (zC pt he f 0 16) := fun j j0 j1 => by rw [zC_in _ _ (by omega)]; exact hr _ (by omega) (by omega)
  have hdb := dF_b (q := kd k) hh hp
  have hdu := dU_b (q := kd k) hh hp
  have hdi := dI_b (q := kd k) hh hp
  refine z_ofI (maxL := 9) (plainFor_of_name (by decide)) rfl (Nat.le_of_ble_eq_true rfl) (Or.inl rfl) ?_
  intro p e s m below meth c A ls Q F hK hW hA hl hret
  have hl : lv_has ls 9 [(0, .ref (aS 0)), (1, .ref (aM 3)), (2, .int (iI f)), (3, .ref (aM 0)), (4, .int (iI k))] := hl
  have inX4 : ∀ w ∈ u_ws RX4 TX4 3, w ∈ wsX4_distanceFrom := fun _ h => List.mem_cons_of_mem _ (List.mem_append_left _ (List.mem_append_right _ h))
  have inX6 : ∀ w ∈ u_ws RX6 TX6 4, w ∈ wsX4_distanceFrom := fun _ h => List.mem_cons_of_mem _ (List.mem_append_right _ h)
  refine z_aloadn F (pc := 0) dX4_distanceFrom_0 rfl (lv_at hl 1 rfl) ?_
  refine z_iloadn F (pc := 1) dX4_distanceFrom_1 rfl (lv_at hl 2 rfl) ?_
  refine z_aloadn F (pc := 2) dX4_distanceFrom_2 rfl (lv_at hl 0 rfl) ?_
  refine z_get F (pc := 3) (C := RX4) (T := TX4) (N := 3) (ci := 4) inX4 hK hW 0 0 rfl rfl (by decide) rfl (List.mem_of_getElem? (i := 1) rfl) (v := .ref (aS 1)) rfl dX4_distanceFrom_3 ?_
  refine z_iconst F (pc := 6) (0) dX4_distanceFrom_6 ?_
  refine z_bipush F (pc := 7) (16) (by decide +kernel) dX4_distanceFrom_7 ?_
  refine z_copyi F (pc := 9) hK hW hl.1 (ws' := wS cI cZ aS (zC pt he f 0 16) ar le ++ wM cI cZ aM lb kd pt mn) (List.mem_of_getElem? (i := 2) rfl) (List.mem_of_getElem? (i := 3) rfl) (List.mem_of_getElem? (i := 4) rfl) (List.mem_of_getElem? (i := 5) rfl) 7 1 rfl rfl (Nat.le_of_ble_eq_true rfl) (Nat.le_of_ble_eq_true rfl) dX4_distanceFrom_9 (by decide) (by omega) rfl (fun H locs hW => ?_)
  refine z_aloadn F (pc := 12) dX4_distanceFrom_12 rfl (lv_at hl 3 rfl) ?_
  refine z_get F (pc := 13) (C := RX6) (T := TX6) (N := 4) (ci := 6) inX6 hK hW 4 1 rfl rfl (by decide) rfl (List.mem_of_getElem? (i := 6) rfl) (v := .ref (aM 2)) rfl dX4_distanceFrom_13 ?_
  refine z_iload F (pc := 16) dX4_distanceFrom_16 (lv_at hl 4 rfl) ?_
  refine z_iald F (pc := 18) hK hW 6 rfl (by decide) dX4_distanceFrom_18 (by omega) ?_
  refine z_istore F (pc := 19) hl (lv' := [(5, .int (iI (kd k))), (0, .ref (aS 0)), (1, .ref (aM 3)), (2, .int (iI f)), (3, .ref (aM 0)), (4, .int (iI k))]) dX4_distanceFrom_19 (by decide) rfl (fun ls hl => ?_)
  refine z_iload F (pc := 21) dX4_distanceFrom_21 (lv_at hl 0 rfl) ?_
  refine z_iconst F (pc := 23) (1) dX4_distanceFrom_23 ?_
  refine z_icmp_eq F (pc := 24) 33 dX4_distanceFrom_24 (by decide) (by omega) (fun c_24 => ?_) (fun c_24 => ?_)
  · skip
    refine z_iconst F (pc := 33) (4) dX4_distanceFrom_33 ?_
    refine z_goto F (pc := 34) 38 dX4_distanceFrom_34 (by decide) ?_
    refine z_istore F (pc := 38) hl (lv' := [(6, .int (iI 4)), (5, .int (iI (kd k))), (0, .ref (aS 0)), (1, .ref (aM 3)), (2, .int (iI f)), (3, .ref (aM 0)), (4, .int (iI k))]) dX4_distanceFrom_38 (by decide) rfl (fun ls hl => ?_)
    refine z_aloadn F (pc := 40) dX4_distanceFrom_40 rfl (lv_at hl 2 rfl) ?_
    refine z_iload F (pc := 41) dX4_distanceFrom_41 (lv_at hl 1 rfl) ?_
    refine z_aloadn F (pc := 43) dX4_distanceFrom_43 rfl (lv_at hl 5 rfl) ?_
    refine z_get F (pc := 44) (C := RX6) (T := TX6) (N := 4) (ci := 6) inX6 hK hW 4 2 rfl rfl (by decide) rfl (List.mem_of_getElem? (i := 7) rfl) (v := .ref (aM 3)) rfl dX4_distanceFrom_44 ?_
    refine z_iload F (pc := 47) dX4_distanceFrom_47 (lv_at hl 6 rfl) ?_
    refine z_bipush F (pc := 49) (16) (by decide +kernel) dX4_distanceFrom_49 ?_
    refine z_imul F (pc := 51) dX4_distanceFrom_51 ?_
    refine z_callVi F (pc := 52) hK hW hA (As := [.int (iI (kd k)), .ref (aM 3), .int (iI (k * 16))]) (rest := []) (ws' := fun (u : (Int → Int) × (Int → Int)) => wS cI cZ aS (zC pt he f 0 16) u.1 u.2 ++ wM cI cZ aM lb kd pt mn) (wr := ([])) (c_X4_distanceUnturned l D cI cZ aS aM (zC pt he f 0 16) ar le lb kd pt mn (kd k) (k * 16) _ (by omega) (by omega) (by exact hh) (by rw [c16]; exact hp) (by omega) (by omega)) (cwV 3 F.2.2.2.2 gX4_distanceFrom_X4_distanceUnturned rfl rfl rfl (by decide +kernel) ⟨Nat.le_of_ble_eq_true rfl, Nat.le_of_ble_eq_true rfl⟩) [0, 1, 2, 3, 4, 5, 6, 7] [] [0, 1, 2, 3, 4, 5, 6, 7] rfl rfl (by decide) (by decide) (by decide) (fun _ => rfl) (by decide) (q0 := 0) (ci := 4) rfl rfl rfl rfl rfl hl.1 (Nat.le_of_ble_eq_true rfl) dX4_distanceFrom_52 ⟨Nat.le_of_ble_eq_true rfl, Nat.le_of_ble_eq_true rfl⟩ (fun z_52 u H locs r_z_52 hp_52 hW => ?_)
    obtain ⟨ar2_52, le2_52⟩ := u
    dsimp only at hp_52 hW
    replace hp_52 := hp_52.symm
    subst hp_52
    refine z_istore F (pc := 55) hl (lv' := [(7, .int (iI (dU (zC pt he f 0 16) pt (k * 16) (kd k)))), (6, .int (iI 4)), (5, .int (iI (kd k))), (0, .ref (aS 0)), (1, .ref (aM 3)), (2, .int (iI f)), (3, .ref (aM 0)), (4, .int (iI k))]) dX4_distanceFrom_55 (by decide) rfl (fun ls hl => ?_)
    refine z_iconst F (pc := 57) (1) dX4_distanceFrom_57 ?_
    refine z_istore F (pc := 58) hl (lv' := [(8, .int (iI 1)), (7, .int (iI (dU (zC pt he f 0 16) pt (k * 16) (kd k)))), (6, .int (iI 4)), (5, .int (iI (kd k))), (0, .ref (aS 0)), (1, .ref (aM 3)), (2, .int (iI f)), (3, .ref (aM 0)), (4, .int (iI k))]) dX4_distanceFrom_58 (by decide) rfl (fun ls hl => ?_)
    have cut_60 : ∀ (fuel : Nat) (ms : Int) (t : Int) (h1 : Int → Int) (ar1 : Int → Int) (le1 : Int → Int) (H : Heap) (locs : List Loc) (ls : Array Slot), (4 - t).toNat < fuel → (1 ≤ t ∧ (t ≤ 4 ∧ (t ≤ 4 ∨ t = 1))) → (h1 = tnI (zC pt he f 0 16) (t - 1)) → (ms = dI (zC pt he f 0 16) pt (16 * k) (kd k) (t - 1)) → lv_has ls 9 [(8, .int (iI t)), (7, .int (iI ms)), (6, .int (iI 4)), (5, .int (iI (kd k))), (0, .ref (aS 0)), (1, .ref (aM 3)), (2, .int (iI f)), (3, .ref (aM 0)), (4, .int (iI k))] → zW D A s.heap H locs (wS cI cZ aS h1 ar1 le1 ++ wM cI cZ aM lb kd pt mn) → W p l e ({ frames := 4, cells := 0, slots := 0, locals := 96 } : Room) s m ([.ref (aS 0), .ref (aM 3), .int (iI f), .ref (aM 0), .int (iI k)] : List Value).toArray below meth c H locs 0 0 Q (F0 m 60 ls []) := by
      intro fuel
      induction fuel with
      | zero => intro ms t h1 ar1 le1 H locs ls hm; exact absurd hm (Nat.not_lt_zero _)
      | succ fuel ih_60 =>
        intro ms t h1 ar1 le1 H locs ls hm_60 g1 g2 g3 hl hW
        have hin : inH h1 := by rw [g2]; exact tnI_in hh _
        have hms := hdi (t - 1)
        rw [← g3] at hms
        refine z_iload F (pc := 60) dX4_distanceFrom_60 (lv_at hl 0 rfl) ?_
        refine z_iload F (pc := 62) dX4_distanceFrom_62 (lv_at hl 2 rfl) ?_
        refine z_icmp_ge F (pc := 64) 99 dX4_distanceFrom_64 (by decide) (by omega) (fun c_64 => ?_) (fun c_64 => ?_)
        · skip
          refine z_iload F (pc := 99) dX4_distanceFrom_99 (lv_at hl 1 rfl) ?_
          exact hret _ _ _ _ ms (h1, ar1, le1) dX4_distanceFrom_101 (by omega) (by (try dsimp only) <;> (unfold dF; first | (rw [if_pos (by omega), g3, show t - 1 = 3 by omega]; done) | (rw [if_neg (by omega), g3, show t - 1 = 0 by omega]; rfl))) hW
        · skip
          refine z_aloadn F (pc := 67) dX4_distanceFrom_67 rfl (lv_at hl 4 rfl) ?_
          refine z_callVv F (pc := 68) hK hW hA (As := []) (rest := []) (ws' := fun (u : (Int → Int)) => wS cI cZ aS u ar1 le1 ++ wM cI cZ aM lb kd pt mn) (wr := (wM cI cZ aM lb kd pt mn)) (c_X4_turnQuarter l D cI cZ aS h1 ar1 le1 _ (by exact hin)) (cwV 0 F.2.2.2.2 gX4_distanceFrom_X4_turnQuarter rfl rfl rfl (by decide +kernel) ⟨Nat.le_of_ble_eq_true rfl, Nat.le_of_ble_eq_true rfl⟩) [0, 1, 2, 3] [4, 5, 6, 7] [4, 5, 6, 7, 0, 1, 2, 3] rfl rfl (by decide) (by decide) (by decide) (fun _ => rfl) (by decide) (q0 := 0) (ci := 4) rfl rfl rfl rfl rfl hl.1 (Nat.le_of_ble_eq_true rfl) dX4_distanceFrom_68 ⟨Nat.le_of_ble_eq_true rfl, Nat.le_of_ble_eq_true rfl⟩ (fun u H locs hp_68 hW => ?_)
          obtain ⟨he2_68, rfl⟩ : ∃ v, v = u := ⟨_, rfl⟩
          refine z_iload F (pc := 71) dX4_distanceFrom_71 (lv_at hl 1 rfl) ?_
          refine z_aloadn F (pc := 73) dX4_distanceFrom_73 rfl (lv_at hl 4 rfl) ?_
          refine z_iload F (pc := 74) dX4_distanceFrom_74 (lv_at hl 3 rfl) ?_
          refine z_aloadn F (pc := 76) dX4_distanceFrom_76 rfl (lv_at hl 7 rfl) ?_
          refine z_get F (pc := 77) (C := RX6) (T := TX6) (N := 4) (ci := 6) inX6 hK hW 4 2 rfl rfl (by decide) rfl (List.mem_of_getElem? (i := 7) rfl) (v := .ref (aM 3)) rfl dX4_distanceFrom_77 ?_
          refine z_iload F (pc := 80) dX4_distanceFrom_80 (lv_at hl 8 rfl) ?_
          refine z_bipush F (pc := 82) (16) (by decide +kernel) dX4_distanceFrom_82 ?_
          refine z_imul F (pc := 84) dX4_distanceFrom_84 ?_
          refine z_callVi F (pc := 85) hK hW hA (As := [.int (iI (kd k)), .ref (aM 3), .int (iI (k * 16))]) (rest := [.int (iI ms)]) (ws' := fun (u : (Int → Int) × (Int → Int)) => wS cI cZ aS he2_68 u.1 u.2 ++ wM cI cZ aM lb kd pt mn) (wr := ([])) (c_X4_distanceUnturned l D cI cZ aS aM he2_68 ar1 le1 lb kd pt mn (kd k) (k * 16) _ (by omega) (by omega) (by rw [hp_68]; exact tn_in hin) (by rw [c16]; exact hp) (by omega) (by omega)) (cwV 3 F.2.2.2.2 gX4_distanceFrom_X4_distanceUnturned rfl rfl rfl (by decide +kernel) ⟨Nat.le_of_ble_eq_true rfl, Nat.le_of_ble_eq_true rfl⟩) [0, 1, 2, 3, 4, 5, 6, 7] [] [0, 1, 2, 3, 4, 5, 6, 7] rfl rfl (by decide) (by decide) (by decide) (fun _ => rfl) (by decide) (q0 := 0) (ci := 4) rfl rfl rfl rfl rfl hl.1 (Nat.le_of_ble_eq_true rfl) dX4_distanceFrom_85 ⟨Nat.le_of_ble_eq_true rfl, Nat.le_of_ble_eq_true rfl⟩ (fun z_85 u H locs r_z_85 hp_85 hW => ?_)
          obtain ⟨ar2_85, le2_85⟩ := u
          dsimp only at hp_85 hW
          replace hp_85 := hp_85.symm
          subst hp_85
          have hd2 := dU_b (q := kd k) (show inH he2_68 by rw [hp_68]; exact tn_in hin) hp
          rw [← c16] at hd2
          refine z_mmin F (pc := 88) hl.1 (List.mem_of_getElem? (i := 8) rfl) (List.mem_of_getElem? (i := 9) rfl) (List.mem_of_getElem? (i := 10) rfl) (List.mem_of_getElem? (i := 11) rfl) (Nat.le_of_ble_eq_true rfl) (Nat.le_of_ble_eq_true rfl) (Nat.le_of_ble_eq_true rfl) (Nat.le_of_ble_eq_true rfl) dX4_distanceFrom_88 (by omega) ?_
          refine z_istore F (pc := 91) hl (lv' := [(7, .int (iI (min ms (dU he2_68 pt (k * 16) (kd k))))), (8, .int (iI t)), (6, .int (iI 4)), (5, .int (iI (kd k))), (0, .ref (aS 0)), (1, .ref (aM 3)), (2, .int (iI f)), (3, .ref (aM 0)), (4, .int (iI k))]) dX4_distanceFrom_91 (by decide) rfl (fun ls hl => ?_)
          refine z_iinc F (pc := 93) hl (lv' := [(8, .int (iI (t + 1))), (7, .int (iI (min ms (dU he2_68 pt (k * 16) (kd k))))), (6, .int (iI 4)), (5, .int (iI (kd k))), (0, .ref (aS 0)), (1, .ref (aM 3)), (2, .int (iI f)), (3, .ref (aM 0)), (4, .int (iI k))]) dX4_distanceFrom_93 (k := 1) rfl (by decide) rfl (fun ls hl => ?_)
          refine z_goto F (pc := 96) 60 dX4_distanceFrom_96 (by decide) ?_
          exact ih_60 (min ms (dU he2_68 pt (k * 16) (kd k))) (t + 1) he2_68 ar2_85 le2_85 _ _ _ (by omega) (by omega) (by rw [hp_68, g2]; exact tnI_s _ (by omega) (by omega)) (by rw [c16, hp_68, g2, tnI_s _ (show 0 ≤ t - 1 by omega) (show t = t - 1 + 1 by omega), g3]; exact (dI_s _ _ _ _ (by omega) (by omega)).trans (by rw [show t + 1 - 1 = t by omega])) (lv_sub hl [0, 1, 2, 3, 4, 5, 6, 7, 8] rfl) hW
    exact cut_60 _ (dU (zC pt he f 0 16) pt (k * 16) (kd k)) 1 (zC pt he f 0 16) ar2_52 le2_52 _ _ _ (Nat.lt_succ_self _) (by omega) (by rfl) (by rw [c16]; rfl) (lv_sub hl [0, 1, 2, 3, 4, 5, 6, 7, 8] rfl) hW
  · skip
    refine z_iload F (pc := 27) dX4_distanceFrom_27 (lv_at hl 0 rfl) ?_
    refine z_iconst F (pc := 29) (4) dX4_distanceFrom_29 ?_
    refine z_icmp_ne F (pc := 30) 37 dX4_distanceFrom_30 (by decide) (by omega) (fun c_30 => ?_) (fun c_30 => ?_)
    · skip
      refine z_iconst F (pc := 37) (1) dX4_distanceFrom_37 ?_
      refine z_istore F (pc := 38) hl (lv' := [(6, .int (iI 1)), (5, .int (iI (kd k))), (0, .ref (aS 0)), (1, .ref (aM 3)), (2, .int (iI f)), (3, .ref (aM 0)), (4, .int (iI k))]) dX4_distanceFrom_38 (by decide) rfl (fun ls hl => ?_)
      refine z_aloadn F (pc := 40) dX4_distanceFrom_40 rfl (lv_at hl 2 rfl) ?_
      refine z_iload F (pc := 41) dX4_distanceFrom_41 (lv_at hl 1 rfl) ?_
      refine z_aloadn F (pc := 43) dX4_distanceFrom_43 rfl (lv_at hl 5 rfl) ?_
      refine z_get F (pc := 44) (C := RX6) (T := TX6) (N := 4) (ci := 6) inX6 hK hW 4 2 rfl rfl (by decide) rfl (List.mem_of_getElem? (i := 7) rfl) (v := .ref (aM 3)) rfl dX4_distanceFrom_44 ?_
      refine z_iload F (pc := 47) dX4_distanceFrom_47 (lv_at hl 6 rfl) ?_
      refine z_bipush F (pc := 49) (16) (by decide +kernel) dX4_distanceFrom_49 ?_
      refine z_imul F (pc := 51) dX4_distanceFrom_51 ?_
      refine z_callVi F (pc := 52) hK hW hA (As := [.int (iI (kd k)), .ref (aM 3), .int (iI (k * 16))]) (rest := []) (ws' := fun (u : (Int → Int) × (Int → Int)) => wS cI cZ aS (zC pt he f 0 16) u.1 u.2 ++ wM cI cZ aM lb kd pt mn) (wr := ([])) (c_X4_distanceUnturned l D cI cZ aS aM (zC pt he f 0 16) ar le lb kd pt mn (kd k) (k * 16) _ (by omega) (by omega) (by exact hh) (by rw [c16]; exact hp) (by omega) (by omega)) (cwV 3 F.2.2.2.2 gX4_distanceFrom_X4_distanceUnturned rfl rfl rfl (by decide +kernel) ⟨Nat.le_of_ble_eq_true rfl, Nat.le_of_ble_eq_true rfl⟩) [0, 1, 2, 3, 4, 5, 6, 7] [] [0, 1, 2, 3, 4, 5, 6, 7] rfl rfl (by decide) (by decide) (by decide) (fun _ => rfl) (by decide) (q0 := 0) (ci := 4) rfl rfl rfl rfl rfl hl.1 (Nat.le_of_ble_eq_true rfl) dX4_distanceFrom_52 ⟨Nat.le_of_ble_eq_true rfl, Nat.le_of_ble_eq_true rfl⟩ (fun z_52 u H locs r_z_52 hp_52 hW => ?_)
      obtain ⟨ar2_52, le2_52⟩ := u
      dsimp only at hp_52 hW
      replace hp_52 := hp_52.symm
      subst hp_52
      refine z_istore F (pc := 55) hl (lv' := [(7, .int (iI (dU (zC pt he f 0 16) pt (k * 16) (kd k)))), (6, .int (iI 1)), (5, .int (iI (kd k))), (0, .ref (aS 0)), (1, .ref (aM 3)), (2, .int (iI f)), (3, .ref (aM 0)), (4, .int (iI k))]) dX4_distanceFrom_55 (by decide) rfl (fun ls hl => ?_)
      refine z_iconst F (pc := 57) (1) dX4_distanceFrom_57 ?_
      refine z_istore F (pc := 58) hl (lv' := [(8, .int (iI 1)), (7, .int (iI (dU (zC pt he f 0 16) pt (k * 16) (kd k)))), (6, .int (iI 1)), (5, .int (iI (kd k))), (0, .ref (aS 0)), (1, .ref (aM 3)), (2, .int (iI f)), (3, .ref (aM 0)), (4, .int (iI k))]) dX4_distanceFrom_58 (by decide) rfl (fun ls hl => ?_)
      have cut_60 : ∀ (fuel : Nat) (ms : Int) (t : Int) (h1 : Int → Int) (ar1 : Int → Int) (le1 : Int → Int) (H : Heap) (locs : List Loc) (ls : Array Slot), (4 - t).toNat < fuel → (1 ≤ t ∧ (t ≤ 4 ∧ (t ≤ 1 ∨ t = 1))) → (h1 = tnI (zC pt he f 0 16) (t - 1)) → (ms = dI (zC pt he f 0 16) pt (16 * k) (kd k) (t - 1)) → lv_has ls 9 [(8, .int (iI t)), (7, .int (iI ms)), (6, .int (iI 1)), (5, .int (iI (kd k))), (0, .ref (aS 0)), (1, .ref (aM 3)), (2, .int (iI f)), (3, .ref (aM 0)), (4, .int (iI k))] → zW D A s.heap H locs (wS cI cZ aS h1 ar1 le1 ++ wM cI cZ aM lb kd pt mn) → W p l e ({ frames := 4, cells := 0, slots := 0, locals := 96 } : Room) s m ([.ref (aS 0), .ref (aM 3), .int (iI f), .ref (aM 0), .int (iI k)] : List Value).toArray below meth c H locs 0 0 Q (F0 m 60 ls []) := by
        intro fuel
        induction fuel with
        | zero => intro ms t h1 ar1 le1 H locs ls hm; exact absurd hm (Nat.not_lt_zero _)
        | succ fuel ih_60 =>
          intro ms t h1 ar1 le1 H locs ls hm_60 g1 g2 g3 hl hW
          have hin : inH h1 := by rw [g2]; exact tnI_in hh _
          have hms := hdi (t - 1)
          rw [← g3] at hms
          refine z_iload F (pc := 60) dX4_distanceFrom_60 (lv_at hl 0 rfl) ?_
          refine z_iload F (pc := 62) dX4_distanceFrom_62 (lv_at hl 2 rfl) ?_
          refine z_icmp_ge F (pc := 64) 99 dX4_distanceFrom_64 (by decide) (by omega) (fun c_64 => ?_) (fun c_64 => ?_)
          · skip
            refine z_iload F (pc := 99) dX4_distanceFrom_99 (lv_at hl 1 rfl) ?_
            exact hret _ _ _ _ ms (h1, ar1, le1) dX4_distanceFrom_101 (by omega) (by (try dsimp only) <;> (unfold dF; first | (rw [if_pos (by omega), g3, show t - 1 = 3 by omega]; done) | (rw [if_neg (by omega), g3, show t - 1 = 0 by omega]; rfl))) hW
          · skip
            refine z_aloadn F (pc := 67) dX4_distanceFrom_67 rfl (lv_at hl 4 rfl) ?_
            refine z_callVv F (pc := 68) hK hW hA (As := []) (rest := []) (ws' := fun (u : (Int → Int)) => wS cI cZ aS u ar1 le1 ++ wM cI cZ aM lb kd pt mn) (wr := (wM cI cZ aM lb kd pt mn)) (c_X4_turnQuarter l D cI cZ aS h1 ar1 le1 _ (by exact hin)) (cwV 0 F.2.2.2.2 gX4_distanceFrom_X4_turnQuarter rfl rfl rfl (by decide +kernel) ⟨Nat.le_of_ble_eq_true rfl, Nat.le_of_ble_eq_true rfl⟩) [0, 1, 2, 3] [4, 5, 6, 7] [4, 5, 6, 7, 0, 1, 2, 3] rfl rfl (by decide) (by decide) (by decide) (fun _ => rfl) (by decide) (q0 := 0) (ci := 4) rfl rfl rfl rfl rfl hl.1 (Nat.le_of_ble_eq_true rfl) dX4_distanceFrom_68 ⟨Nat.le_of_ble_eq_true rfl, Nat.le_of_ble_eq_true rfl⟩ (fun u H locs hp_68 hW => ?_)
            obtain ⟨he2_68, rfl⟩ : ∃ v, v = u := ⟨_, rfl⟩
            refine z_iload F (pc := 71) dX4_distanceFrom_71 (lv_at hl 1 rfl) ?_
            refine z_aloadn F (pc := 73) dX4_distanceFrom_73 rfl (lv_at hl 4 rfl) ?_
            refine z_iload F (pc := 74) dX4_distanceFrom_74 (lv_at hl 3 rfl) ?_
            refine z_aloadn F (pc := 76) dX4_distanceFrom_76 rfl (lv_at hl 7 rfl) ?_
            refine z_get F (pc := 77) (C := RX6) (T := TX6) (N := 4) (ci := 6) inX6 hK hW 4 2 rfl rfl (by decide) rfl (List.mem_of_getElem? (i := 7) rfl) (v := .ref (aM 3)) rfl dX4_distanceFrom_77 ?_
            refine z_iload F (pc := 80) dX4_distanceFrom_80 (lv_at hl 8 rfl) ?_
            refine z_bipush F (pc := 82) (16) (by decide +kernel) dX4_distanceFrom_82 ?_
            refine z_imul F (pc := 84) dX4_distanceFrom_84 ?_
            refine z_callVi F (pc := 85) hK hW hA (As := [.int (iI (kd k)), .ref (aM 3), .int (iI (k * 16))]) (rest := [.int (iI ms)]) (ws' := fun (u : (Int → Int) × (Int → Int)) => wS cI cZ aS he2_68 u.1 u.2 ++ wM cI cZ aM lb kd pt mn) (wr := ([])) (c_X4_distanceUnturned l D cI cZ aS aM he2_68 ar1 le1 lb kd pt mn (kd k) (k * 16) _ (by omega) (by omega) (by rw [hp_68]; exact tn_in hin) (by rw [c16]; exact hp) (by omega) (by omega)) (cwV 3 F.2.2.2.2 gX4_distanceFrom_X4_distanceUnturned rfl rfl rfl (by decide +kernel) ⟨Nat.le_of_ble_eq_true rfl, Nat.le_of_ble_eq_true rfl⟩) [0, 1, 2, 3, 4, 5, 6, 7] [] [0, 1, 2, 3, 4, 5, 6, 7] rfl rfl (by decide) (by decide) (by decide) (fun _ => rfl) (by decide) (q0 := 0) (ci := 4) rfl rfl rfl rfl rfl hl.1 (Nat.le_of_ble_eq_true rfl) dX4_distanceFrom_85 ⟨Nat.le_of_ble_eq_true rfl, Nat.le_of_ble_eq_true rfl⟩ (fun z_85 u H locs r_z_85 hp_85 hW => ?_)
            obtain ⟨ar2_85, le2_85⟩ := u
            dsimp only at hp_85 hW
            replace hp_85 := hp_85.symm
            subst hp_85
            have hd2 := dU_b (q := kd k) (show inH he2_68 by rw [hp_68]; exact tn_in hin) hp
            rw [← c16] at hd2
            refine z_mmin F (pc := 88) hl.1 (List.mem_of_getElem? (i := 8) rfl) (List.mem_of_getElem? (i := 9) rfl) (List.mem_of_getElem? (i := 10) rfl) (List.mem_of_getElem? (i := 11) rfl) (Nat.le_of_ble_eq_true rfl) (Nat.le_of_ble_eq_true rfl) (Nat.le_of_ble_eq_true rfl) (Nat.le_of_ble_eq_true rfl) dX4_distanceFrom_88 (by omega) ?_
            refine z_istore F (pc := 91) hl (lv' := [(7, .int (iI (min ms (dU he2_68 pt (k * 16) (kd k))))), (8, .int (iI t)), (6, .int (iI 1)), (5, .int (iI (kd k))), (0, .ref (aS 0)), (1, .ref (aM 3)), (2, .int (iI f)), (3, .ref (aM 0)), (4, .int (iI k))]) dX4_distanceFrom_91 (by decide) rfl (fun ls hl => ?_)
            refine z_iinc F (pc := 93) hl (lv' := [(8, .int (iI (t + 1))), (7, .int (iI (min ms (dU he2_68 pt (k * 16) (kd k))))), (6, .int (iI 1)), (5, .int (iI (kd k))), (0, .ref (aS 0)), (1, .ref (aM 3)), (2, .int (iI f)), (3, .ref (aM 0)), (4, .int (iI k))]) dX4_distanceFrom_93 (k := 1) rfl (by decide) rfl (fun ls hl => ?_)
            refine z_goto F (pc := 96) 60 dX4_distanceFrom_96 (by decide) ?_
            exact ih_60 (min ms (dU he2_68 pt (k * 16) (kd k))) (t + 1) he2_68 ar2_85 le2_85 _ _ _ (by omega) (by omega) (by rw [hp_68, g2]; exact tnI_s _ (by omega) (by omega)) (by rw [c16, hp_68, g2, tnI_s _ (show 0 ≤ t - 1 by omega) (show t = t - 1 + 1 by omega), g3]; exact (dI_s _ _ _ _ (by omega) (by omega)).trans (by rw [show t + 1 - 1 = t by omega])) (lv_sub hl [0, 1, 2, 3, 4, 5, 6, 7, 8] rfl) hW
      exact cut_60 _ (dU (zC pt he f 0 16) pt (k * 16) (kd k)) 1 (zC pt he f 0 16) ar2_52 le2_52 _ _ _ (Nat.lt_succ_self _) (by omega) (by rfl) (by rw [c16]; rfl) (lv_sub hl [0, 1, 2, 3, 4, 5, 6, 7, 8] rfl) hW
    · skip
      refine z_iconst F (pc := 33) (4) dX4_distanceFrom_33 ?_
      refine z_goto F (pc := 34) 38 dX4_distanceFrom_34 (by decide) ?_
      refine z_istore F (pc := 38) hl (lv' := [(6, .int (iI 4)), (5, .int (iI (kd k))), (0, .ref (aS 0)), (1, .ref (aM 3)), (2, .int (iI f)), (3, .ref (aM 0)), (4, .int (iI k))]) dX4_distanceFrom_38 (by decide) rfl (fun ls hl => ?_)
      refine z_aloadn F (pc := 40) dX4_distanceFrom_40 rfl (lv_at hl 2 rfl) ?_
      refine z_iload F (pc := 41) dX4_distanceFrom_41 (lv_at hl 1 rfl) ?_
      refine z_aloadn F (pc := 43) dX4_distanceFrom_43 rfl (lv_at hl 5 rfl) ?_
      refine z_get F (pc := 44) (C := RX6) (T := TX6) (N := 4) (ci := 6) inX6 hK hW 4 2 rfl rfl (by decide) rfl (List.mem_of_getElem? (i := 7) rfl) (v := .ref (aM 3)) rfl dX4_distanceFrom_44 ?_
      refine z_iload F (pc := 47) dX4_distanceFrom_47 (lv_at hl 6 rfl) ?_
      refine z_bipush F (pc := 49) (16) (by decide +kernel) dX4_distanceFrom_49 ?_
      refine z_imul F (pc := 51) dX4_distanceFrom_51 ?_
      refine z_callVi F (pc := 52) hK hW hA (As := [.int (iI (kd k)), .ref (aM 3), .int (iI (k * 16))]) (rest := []) (ws' := fun (u : (Int → Int) × (Int → Int)) => wS cI cZ aS (zC pt he f 0 16) u.1 u.2 ++ wM cI cZ aM lb kd pt mn) (wr := ([])) (c_X4_distanceUnturned l D cI cZ aS aM (zC pt he f 0 16) ar le lb kd pt mn (kd k) (k * 16) _ (by omega) (by omega) (by exact hh) (by rw [c16]; exact hp) (by omega) (by omega)) (cwV 3 F.2.2.2.2 gX4_distanceFrom_X4_distanceUnturned rfl rfl rfl (by decide +kernel) ⟨Nat.le_of_ble_eq_true rfl, Nat.le_of_ble_eq_true rfl⟩) [0, 1, 2, 3, 4, 5, 6, 7] [] [0, 1, 2, 3, 4, 5, 6, 7] rfl rfl (by decide) (by decide) (by decide) (fun _ => rfl) (by decide) (q0 := 0) (ci := 4) rfl rfl rfl rfl rfl hl.1 (Nat.le_of_ble_eq_true rfl) dX4_distanceFrom_52 ⟨Nat.le_of_ble_eq_true rfl, Nat.le_of_ble_eq_true rfl⟩ (fun z_52 u H locs r_z_52 hp_52 hW => ?_)
      obtain ⟨ar2_52, le2_52⟩ := u
      dsimp only at hp_52 hW
      replace hp_52 := hp_52.symm
      subst hp_52
      refine z_istore F (pc := 55) hl (lv' := [(7, .int (iI (dU (zC pt he f 0 16) pt (k * 16) (kd k)))), (6, .int (iI 4)), (5, .int (iI (kd k))), (0, .ref (aS 0)), (1, .ref (aM 3)), (2, .int (iI f)), (3, .ref (aM 0)), (4, .int (iI k))]) dX4_distanceFrom_55 (by decide) rfl (fun ls hl => ?_)
      refine z_iconst F (pc := 57) (1) dX4_distanceFrom_57 ?_
      refine z_istore F (pc := 58) hl (lv' := [(8, .int (iI 1)), (7, .int (iI (dU (zC pt he f 0 16) pt (k * 16) (kd k)))), (6, .int (iI 4)), (5, .int (iI (kd k))), (0, .ref (aS 0)), (1, .ref (aM 3)), (2, .int (iI f)), (3, .ref (aM 0)), (4, .int (iI k))]) dX4_distanceFrom_58 (by decide) rfl (fun ls hl => ?_)
      have cut_60 : ∀ (fuel : Nat) (ms : Int) (t : Int) (h1 : Int → Int) (ar1 : Int → Int) (le1 : Int → Int) (H : Heap) (locs : List Loc) (ls : Array Slot), (4 - t).toNat < fuel → (1 ≤ t ∧ (t ≤ 4 ∧ (t ≤ 4 ∨ t = 1))) → (h1 = tnI (zC pt he f 0 16) (t - 1)) → (ms = dI (zC pt he f 0 16) pt (16 * k) (kd k) (t - 1)) → lv_has ls 9 [(8, .int (iI t)), (7, .int (iI ms)), (6, .int (iI 4)), (5, .int (iI (kd k))), (0, .ref (aS 0)), (1, .ref (aM 3)), (2, .int (iI f)), (3, .ref (aM 0)), (4, .int (iI k))] → zW D A s.heap H locs (wS cI cZ aS h1 ar1 le1 ++ wM cI cZ aM lb kd pt mn) → W p l e ({ frames := 4, cells := 0, slots := 0, locals := 96 } : Room) s m ([.ref (aS 0), .ref (aM 3), .int (iI f), .ref (aM 0), .int (iI k)] : List Value).toArray below meth c H locs 0 0 Q (F0 m 60 ls []) := by
        intro fuel
        induction fuel with
        | zero => intro ms t h1 ar1 le1 H locs ls hm; exact absurd hm (Nat.not_lt_zero _)
        | succ fuel ih_60 =>
          intro ms t h1 ar1 le1 H locs ls hm_60 g1 g2 g3 hl hW
          have hin : inH h1 := by rw [g2]; exact tnI_in hh _
          have hms := hdi (t - 1)
          rw [← g3] at hms
          refine z_iload F (pc := 60) dX4_distanceFrom_60 (lv_at hl 0 rfl) ?_
          refine z_iload F (pc := 62) dX4_distanceFrom_62 (lv_at hl 2 rfl) ?_
          refine z_icmp_ge F (pc := 64) 99 dX4_distanceFrom_64 (by decide) (by omega) (fun c_64 => ?_) (fun c_64 => ?_)
          · skip
            refine z_iload F (pc := 99) dX4_distanceFrom_99 (lv_at hl 1 rfl) ?_
            exact hret _ _ _ _ ms (h1, ar1, le1) dX4_distanceFrom_101 (by omega) (by (try dsimp only) <;> (unfold dF; first | (rw [if_pos (by omega), g3, show t - 1 = 3 by omega]; done) | (rw [if_neg (by omega), g3, show t - 1 = 0 by omega]; rfl))) hW
          · skip
            refine z_aloadn F (pc := 67) dX4_distanceFrom_67 rfl (lv_at hl 4 rfl) ?_
            refine z_callVv F (pc := 68) hK hW hA (As := []) (rest := []) (ws' := fun (u : (Int → Int)) => wS cI cZ aS u ar1 le1 ++ wM cI cZ aM lb kd pt mn) (wr := (wM cI cZ aM lb kd pt mn)) (c_X4_turnQuarter l D cI cZ aS h1 ar1 le1 _ (by exact hin)) (cwV 0 F.2.2.2.2 gX4_distanceFrom_X4_turnQuarter rfl rfl rfl (by decide +kernel) ⟨Nat.le_of_ble_eq_true rfl, Nat.le_of_ble_eq_true rfl⟩) [0, 1, 2, 3] [4, 5, 6, 7] [4, 5, 6, 7, 0, 1, 2, 3] rfl rfl (by decide) (by decide) (by decide) (fun _ => rfl) (by decide) (q0 := 0) (ci := 4) rfl rfl rfl rfl rfl hl.1 (Nat.le_of_ble_eq_true rfl) dX4_distanceFrom_68 ⟨Nat.le_of_ble_eq_true rfl, Nat.le_of_ble_eq_true rfl⟩ (fun u H locs hp_68 hW => ?_)
            obtain ⟨he2_68, rfl⟩ : ∃ v, v = u := ⟨_, rfl⟩
            refine z_iload F (pc := 71) dX4_distanceFrom_71 (lv_at hl 1 rfl) ?_
            refine z_aloadn F (pc := 73) dX4_distanceFrom_73 rfl (lv_at hl 4 rfl) ?_
            refine z_iload F (pc := 74) dX4_distanceFrom_74 (lv_at hl 3 rfl) ?_
            refine z_aloadn F (pc := 76) dX4_distanceFrom_76 rfl (lv_at hl 7 rfl) ?_
            refine z_get F (pc := 77) (C := RX6) (T := TX6) (N := 4) (ci := 6) inX6 hK hW 4 2 rfl rfl (by decide) rfl (List.mem_of_getElem? (i := 7) rfl) (v := .ref (aM 3)) rfl dX4_distanceFrom_77 ?_
            refine z_iload F (pc := 80) dX4_distanceFrom_80 (lv_at hl 8 rfl) ?_
            refine z_bipush F (pc := 82) (16) (by decide +kernel) dX4_distanceFrom_82 ?_
            refine z_imul F (pc := 84) dX4_distanceFrom_84 ?_
            refine z_callVi F (pc := 85) hK hW hA (As := [.int (iI (kd k)), .ref (aM 3), .int (iI (k * 16))]) (rest := [.int (iI ms)]) (ws' := fun (u : (Int → Int) × (Int → Int)) => wS cI cZ aS he2_68 u.1 u.2 ++ wM cI cZ aM lb kd pt mn) (wr := ([])) (c_X4_distanceUnturned l D cI cZ aS aM he2_68 ar1 le1 lb kd pt mn (kd k) (k * 16) _ (by omega) (by omega) (by rw [hp_68]; exact tn_in hin) (by rw [c16]; exact hp) (by omega) (by omega)) (cwV 3 F.2.2.2.2 gX4_distanceFrom_X4_distanceUnturned rfl rfl rfl (by decide +kernel) ⟨Nat.le_of_ble_eq_true rfl, Nat.le_of_ble_eq_true rfl⟩) [0, 1, 2, 3, 4, 5, 6, 7] [] [0, 1, 2, 3, 4, 5, 6, 7] rfl rfl (by decide) (by decide) (by decide) (fun _ => rfl) (by decide) (q0 := 0) (ci := 4) rfl rfl rfl rfl rfl hl.1 (Nat.le_of_ble_eq_true rfl) dX4_distanceFrom_85 ⟨Nat.le_of_ble_eq_true rfl, Nat.le_of_ble_eq_true rfl⟩ (fun z_85 u H locs r_z_85 hp_85 hW => ?_)
            obtain ⟨ar2_85, le2_85⟩ := u
            dsimp only at hp_85 hW
            replace hp_85 := hp_85.symm
            subst hp_85
            have hd2 := dU_b (q := kd k) (show inH he2_68 by rw [hp_68]; exact tn_in hin) hp
            rw [← c16] at hd2
            refine z_mmin F (pc := 88) hl.1 (List.mem_of_getElem? (i := 8) rfl) (List.mem_of_getElem? (i := 9) rfl) (List.mem_of_getElem? (i := 10) rfl) (List.mem_of_getElem? (i := 11) rfl) (Nat.le_of_ble_eq_true rfl) (Nat.le_of_ble_eq_true rfl) (Nat.le_of_ble_eq_true rfl) (Nat.le_of_ble_eq_true rfl) dX4_distanceFrom_88 (by omega) ?_
            refine z_istore F (pc := 91) hl (lv' := [(7, .int (iI (min ms (dU he2_68 pt (k * 16) (kd k))))), (8, .int (iI t)), (6, .int (iI 4)), (5, .int (iI (kd k))), (0, .ref (aS 0)), (1, .ref (aM 3)), (2, .int (iI f)), (3, .ref (aM 0)), (4, .int (iI k))]) dX4_distanceFrom_91 (by decide) rfl (fun ls hl => ?_)
            refine z_iinc F (pc := 93) hl (lv' := [(8, .int (iI (t + 1))), (7, .int (iI (min ms (dU he2_68 pt (k * 16) (kd k))))), (6, .int (iI 4)), (5, .int (iI (kd k))), (0, .ref (aS 0)), (1, .ref (aM 3)), (2, .int (iI f)), (3, .ref (aM 0)), (4, .int (iI k))]) dX4_distanceFrom_93 (k := 1) rfl (by decide) rfl (fun ls hl => ?_)
            refine z_goto F (pc := 96) 60 dX4_distanceFrom_96 (by decide) ?_
            exact ih_60 (min ms (dU he2_68 pt (k * 16) (kd k))) (t + 1) he2_68 ar2_85 le2_85 _ _ _ (by omega) (by omega) (by rw [hp_68, g2]; exact tnI_s _ (by omega) (by omega)) (by rw [c16, hp_68, g2, tnI_s _ (show 0 ≤ t - 1 by omega) (show t = t - 1 + 1 by omega), g3]; exact (dI_s _ _ _ _ (by omega) (by omega)).trans (by rw [show t + 1 - 1 = t by omega])) (lv_sub hl [0, 1, 2, 3, 4, 5, 6, 7, 8] rfl) hW
      exact cut_60 _ (dU (zC pt he f 0 16) pt (k * 16) (kd k)) 1 (zC pt he f 0 16) ar2_52 le2_52 _ _ _ (Nat.lt_succ_self _) (by omega) (by rfl) (by rw [c16]; rfl) (lv_sub hl [0, 1, 2, 3, 4, 5, 6, 7, 8] rfl) hW
