/-- what stands of an act that can be undone -/
def actOk (s k mn : Int) : Prop := (s = 0 ∧ 0 ≤ k ∧ k < mn) ∨ (s = 1 ∧ 0 ≤ k ∧ k ≤ mn ∧ mn ≤ 15) ∨ (s = 2 ∧ 0 ≤ k ∧ k < mn)
/-- teach: what is answered, when nothing is taught -/
def teachNo (w mn l q r : Int) : Prop := (¬ ((0 ≤ l ∧ l ≤ 9) ∧ (0 ≤ q ∧ q ≤ 4)) ∧ r = -1) ∨ (((0 ≤ l ∧ l ≤ 9) ∧ (0 ≤ q ∧ q ≤ 4)) ∧ w = 0 ∧ r = -2) ∨ (((0 ≤ l ∧ l ≤ 9) ∧ (0 ≤ q ∧ q ≤ 4)) ∧ ¬ w = 0 ∧ 16 ≤ mn ∧ r = -3)
def teachYes (w mn l q r : Int) : Prop := ((0 ≤ l ∧ l ≤ 9) ∧ (0 ≤ q ∧ q ≤ 4)) ∧ ¬ w = 0 ∧ mn < 16 ∧ r = mn
theorem insL_end (f : Int → Int) (n v : Int) : insL f n n v = zU f n v := by
  unfold insL
  rw [Int.sub_self, zC_0]
theorem insP_end (f g : Int → Int) (fr n : Int) : insP f g fr n n = zC g f fr (16 * n) 16 := by
  unfold insP
  rw [Int.sub_self, Int.mul_zero, zC_0]

set_option maxHeartbeats 4000000 in
set_option maxRecDepth 100000 in
theorem c_X8_teach (l : Launch) (D : va_G) (cI cZ : ClassId) (aR : Nat → Nat) (xs ys lf ev nm lb kd pt so nu al ak ap he le rw cx cr cl ll tl ts tc : Int → Int) (sz mn ac en mg ln cn wc wp : Int) (lv q : Int) (sz0 : Nat) (r_lv : (-2147483648 ≤ lv ∧ lv < 2147483648)) (r_q : (-2147483648 ≤ q ∧ q < 2147483648)) (hd : Dok xs ys lf sz) (hm : (0 ≤ mn ∧ mn ≤ 16) ∧ (0 ≤ ac ∧ ac ≤ 6)) : Met l yX8_teach wsX8_teach ({ frames := 5, cells := 0, slots := 0, locals := 116 } : Room) (zPc D cI cZ [.ref (aR 0), .int (iI lv), .int (iI q)] (wR cI cZ aR xs ys lf ev nm lb kd pt so nu al ak ap he le rw cx cr cl ll tl ts tc sz mn ac en mg ln cn wc wp) sz0) (zQi D cI cZ (wR cI cZ aR xs ys lf ev nm lb kd pt so nu al ak ap he le rw cx cr cl ll tl ts tc sz mn ac en mg ln cn wc wp) sz0 (fun (r : Int) (u : (Int → Int) × (Int → Int) × (Int → Int) × (Int → Int) × (Int → Int) × (Int → Int) × (Int → Int) × (Int → Int) × (Int → Int) × (Int → Int) × (Int) × (Int)) => zH ((teachNo (wy xs ys lf sz) mn lv q r ∧ u.2.2.1 = lb ∧ u.2.2.2.1 = kd ∧ u.2.2.2.2.1 = pt ∧ u.2.2.2.2.2.2.2.2.2.2.1 = mn ∧ u.2.2.2.2.2.1 = so ∧ u.2.2.2.2.2.2.1 = nu ∧ u.2.2.2.2.2.2.2.1 = al ∧ u.2.2.2.2.2.2.2.2.1 = ak ∧ u.2.2.2.2.2.2.2.2.2.1 = ap ∧ u.2.2.2.2.2.2.2.2.2.2.2 = ac) ∨ (teachYes (wy xs ys lf sz) mn lv q r ∧ NmOf xs ys lf sz u.2.1 ∧ u.2.2.1 = zU lb mn lv ∧ u.2.2.2.1 = zU kd mn q ∧ u.2.2.2.2.1 = zC u.2.1 pt 0 (16 * mn) 16 ∧ u.2.2.2.2.2.2.2.2.2.2.1 = mn + 1 ∧ u.2.2.2.2.2.1 = kF so ac 0 ∧ u.2.2.2.2.2.2.1 = kF nu ac mn ∧ u.2.2.2.2.2.2.2.1 = kF al ac lv ∧ u.2.2.2.2.2.2.2.2.1 = kF ak ac q ∧ u.2.2.2.2.2.2.2.2.2.1 = kP ap ac u.2.2.2.2.1 (16 * mn) ∧ u.2.2.2.2.2.2.2.2.2.2.2 = kA ac + 1))) (fun (u : (Int → Int) × (Int → Int) × (Int → Int) × (Int → Int) × (Int → Int) × (Int → Int) × (Int → Int) × (Int → Int) × (Int → Int) × (Int → Int) × (Int) × (Int)) => wR cI cZ aR xs ys lf u.1 u.2.1 u.2.2.1 u.2.2.2.1 u.2.2.2.2.1 u.2.2.2.2.2.1 u.2.2.2.2.2.2.1 u.2.2.2.2.2.2.2.1 u.2.2.2.2.2.2.2.2.1 u.2.2.2.2.2.2.2.2.2.1 he le rw cx cr cl ll tl ts tc sz u.2.2.2.2.2.2.2.2.2.2.1 u.2.2.2.2.2.2.2.2.2.2.2 en mg ln cn wc wp)) 0 0 (va_A (wR cI cZ aR xs ys lf ev nm lb kd pt so nu al ak ap he le rw cx cr cl ll tl ts tc sz mn ac en mg ln cn wc wp) sz0) := by
  have hww := wy_r hd (q := sz) (Int.le_refl _)
  refine z_ofI (maxL := 4) (plainFor_of_name (by decide)) rfl (Nat.le_of_ble_eq_true rfl) (Or.inl rfl) ?_
  intro p e s m below meth c A ls Q F hK hW hA hl hret
  have hl : lv_has ls 4 [(0, .ref (aR 0)), (1, .int (iI lv)), (2, .int (iI q))] := hl
  have inX8 : ∀ w ∈ u_ws RX8 TX8 32, w ∈ wsX8_teach := fun _ h => List.mem_cons_of_mem _ (List.mem_append_right _ h)
  refine z_iloadn F (pc := 0) dX8_teach_0 rfl (lv_at hl 1 rfl) ?_
  refine z_i2l F (pc := 1) dX8_teach_1 (by omega) ?_
  refine z_lconst F (pc := 2) (0) (by decide +kernel) dX8_teach_2 ?_
  refine z_ldc2 F (pc := 3) (9) (by decide +kernel) (List.mem_of_getElem? (i := 1) rfl) dX8_teach_3 ?_
  refine z_callSi F (pc := 6) hK hW hA (As := [.long (lI lv), .long (lI 0), .long (lI 9)]) (rest := []) (c_X8_in l D cI cZ lv 0 9 _ (by omega) (by omega) (by omega)) (va_cwS 3 F.2.2.2.2 gX8_teach_X8_in rfl rfl rfl (by decide +kernel) ⟨Nat.le_of_ble_eq_true rfl, Nat.le_of_ble_eq_true rfl⟩) rfl rfl hl.1 (Nat.le_of_ble_eq_true rfl) dX8_teach_6 ⟨Nat.le_of_ble_eq_true rfl, Nat.le_of_ble_eq_true rfl⟩ (fun z_6 H locs r_z_6 hp_6 hW => ?_)
  refine z_if_eq F (pc := 9) 24 dX8_teach_9 (by decide) (by omega) (fun c_9 => ?_) (fun c_9 => ?_)
  · skip
    have b_9 := zB_f hp_6 c_9
    refine z_iconst F (pc := 24) (-1) dX8_teach_24 ?_
    exact hret _ _ _ _ (-1) (ev, nm, lb, kd, pt, so, nu, al, ak, ap, mn, ac) dX8_teach_25 (by omega) (by (try dsimp only) <;> (first | exact Or.inl ⟨by unfold teachNo; omega, rfl, rfl, rfl, rfl, rfl, rfl, rfl, rfl, rfl, rfl⟩)) hW
  · skip
    have b_9 := zB_t hp_6 c_9
    refine z_iloadn F (pc := 12) dX8_teach_12 rfl (lv_at hl 2 rfl) ?_
    refine z_i2l F (pc := 13) dX8_teach_13 (by omega) ?_
    refine z_lconst F (pc := 14) (0) (by decide +kernel) dX8_teach_14 ?_
    refine z_ldc2 F (pc := 15) (4) (by decide +kernel) (List.mem_of_getElem? (i := 2) rfl) dX8_teach_15 ?_
    refine z_callSi F (pc := 18) hK hW hA (As := [.long (lI q), .long (lI 0), .long (lI 4)]) (rest := []) (c_X8_in l D cI cZ q 0 4 _ (by omega) (by omega) (by omega)) (va_cwS 3 F.2.2.2.2 gX8_teach_X8_in rfl rfl rfl (by decide +kernel) ⟨Nat.le_of_ble_eq_true rfl, Nat.le_of_ble_eq_true rfl⟩) rfl rfl hl.1 (Nat.le_of_ble_eq_true rfl) dX8_teach_18 ⟨Nat.le_of_ble_eq_true rfl, Nat.le_of_ble_eq_true rfl⟩ (fun z_18 H locs r_z_18 hp_18 hW => ?_)
    refine z_if_ne F (pc := 21) 26 dX8_teach_21 (by decide) (by omega) (fun c_21 => ?_) (fun c_21 => ?_)
    · skip
      have b_21 := zB_t hp_18 c_21
      refine z_aloadn F (pc := 26) dX8_teach_26 rfl (lv_at hl 0 rfl) ?_
      refine z_callVi F (pc := 27) hK hW hA (As := []) (rest := []) (ws' := fun (u : Unit) => wR cI cZ aR xs ys lf ev nm lb kd pt so nu al ak ap he le rw cx cr cl ll tl ts tc sz mn ac en mg ln cn wc wp) (wr := ([])) (c_X8_way l D cI cZ aR xs ys lf ev nm lb kd pt so nu al ak ap he le rw cx cr cl ll tl ts tc sz mn ac en mg ln cn wc wp _ (by exact hd)) (cwV 0 F.2.2.2.2 gX8_teach_X8_way rfl rfl rfl (by decide +kernel) ⟨Nat.le_of_ble_eq_true rfl, Nat.le_of_ble_eq_true rfl⟩) [0, 1, 2, 3, 4, 5, 6, 7, 8, 9, 10, 11, 12, 13, 14, 15, 16, 17, 18, 19, 20, 21, 22, 23] [] [0, 1, 2, 3, 4, 5, 6, 7, 8, 9, 10, 11, 12, 13, 14, 15, 16, 17, 18, 19, 20, 21, 22, 23] rfl rfl (by decide) (by decide) (by decide) (fun _ => rfl) (by decide) (q0 := 0) (ci := 8) rfl rfl rfl rfl rfl hl.1 (Nat.le_of_ble_eq_true rfl) dX8_teach_27 ⟨Nat.le_of_ble_eq_true rfl, Nat.le_of_ble_eq_true rfl⟩ (fun z_27 u H locs r_z_27 hp_27 hW => ?_)
      replace hp_27 := hp_27.symm
      subst hp_27
      refine z_if_ne F (pc := 30) 36 dX8_teach_30 (by decide) (by omega) (fun c_30 => ?_) (fun c_30 => ?_)
      · skip
        refine z_aloadn F (pc := 36) dX8_teach_36 rfl (lv_at hl 0 rfl) ?_
        refine z_get F (pc := 37) (C := RX8) (T := TX8) (N := 32) (ci := 8) inX8 hK hW 0 6 rfl rfl (by decide) rfl (List.mem_of_getElem? (i := 3) rfl) (v := .int (iI mn)) rfl dX8_teach_37 ?_
        refine z_bipush F (pc := 40) (16) (by decide +kernel) dX8_teach_40 ?_
        refine z_icmp_ne F (pc := 42) 48 dX8_teach_42 (by decide) (by omega) (fun c_42 => ?_) (fun c_42 => ?_)
        · skip
          refine z_aloadn F (pc := 48) dX8_teach_48 rfl (lv_at hl 0 rfl) ?_
          refine z_callVv F (pc := 49) hK hW hA (As := []) (rest := []) (ws' := fun (u : (Int → Int) × (Int → Int)) => wR cI cZ aR xs ys lf u.1 u.2 lb kd pt so nu al ak ap he le rw cx cr cl ll tl ts tc sz mn ac en mg ln cn wc wp) (wr := ([])) (c_X8_findNorms l D cI cZ aR xs ys lf ev nm lb kd pt so nu al ak ap he le rw cx cr cl ll tl ts tc sz mn ac en mg ln cn wc wp _ (by exact hd) (by omega)) (cwV 0 F.2.2.2.2 gX8_teach_X8_findNorms rfl rfl rfl (by decide +kernel) ⟨Nat.le_of_ble_eq_true rfl, Nat.le_of_ble_eq_true rfl⟩) [0, 1, 2, 3, 4, 5, 6, 7, 8, 9, 10, 11, 12, 13, 14, 15, 16, 17, 18, 19, 20, 21, 22, 23] [] [0, 1, 2, 3, 4, 5, 6, 7, 8, 9, 10, 11, 12, 13, 14, 15, 16, 17, 18, 19, 20, 21, 22, 23] rfl rfl (by decide) (by decide) (by decide) (fun _ => rfl) (by decide) (q0 := 0) (ci := 8) rfl rfl rfl rfl rfl hl.1 (Nat.le_of_ble_eq_true rfl) dX8_teach_49 ⟨Nat.le_of_ble_eq_true rfl, Nat.le_of_ble_eq_true rfl⟩ (fun u H locs hp_49 hW => ?_)
          obtain ⟨ev2_49, nm2_49⟩ := u
          dsimp only at hp_49 hW
          refine z_aloadn F (pc := 52) dX8_teach_52 rfl (lv_at hl 0 rfl) ?_
          refine z_get F (pc := 53) (C := RX8) (T := TX8) (N := 32) (ci := 8) inX8 hK hW 0 7 rfl rfl (by decide) rfl (List.mem_of_getElem? (i := 4) rfl) (v := .ref (aR 6)) rfl dX8_teach_53 ?_
          refine z_aloadn F (pc := 56) dX8_teach_56 rfl (lv_at hl 0 rfl) ?_
          refine z_get F (pc := 57) (C := RX8) (T := TX8) (N := 32) (ci := 8) inX8 hK hW 0 6 rfl rfl (by decide) rfl (List.mem_of_getElem? (i := 3) rfl) (v := .int (iI mn)) rfl dX8_teach_57 ?_
          refine z_iloadn F (pc := 60) dX8_teach_60 rfl (lv_at hl 1 rfl) ?_
          refine z_iast F (pc := 61) hK hW (ws' := wR cI cZ aR xs ys lf ev2_49 nm2_49 (zU lb mn lv) kd pt so nu al ak ap he le rw cx cr cl ll tl ts tc sz mn ac en mg ln cn wc wp) 6 rfl (by decide) dX8_teach_61 (by omega) rfl (fun H locs hW => ?_)
          refine z_aloadn F (pc := 62) dX8_teach_62 rfl (lv_at hl 0 rfl) ?_
          refine z_get F (pc := 63) (C := RX8) (T := TX8) (N := 32) (ci := 8) inX8 hK hW 0 8 rfl rfl (by decide) rfl (List.mem_of_getElem? (i := 5) rfl) (v := .ref (aR 7)) rfl dX8_teach_63 ?_
          refine z_aloadn F (pc := 66) dX8_teach_66 rfl (lv_at hl 0 rfl) ?_
          refine z_get F (pc := 67) (C := RX8) (T := TX8) (N := 32) (ci := 8) inX8 hK hW 0 6 rfl rfl (by decide) rfl (List.mem_of_getElem? (i := 3) rfl) (v := .int (iI mn)) rfl dX8_teach_67 ?_
          refine z_iloadn F (pc := 70) dX8_teach_70 rfl (lv_at hl 2 rfl) ?_
          refine z_iast F (pc := 71) hK hW (ws' := wR cI cZ aR xs ys lf ev2_49 nm2_49 (zU lb mn lv) (zU kd mn q) pt so nu al ak ap he le rw cx cr cl ll tl ts tc sz mn ac en mg ln cn wc wp) 7 rfl (by decide) dX8_teach_71 (by omega) rfl (fun H locs hW => ?_)
          refine z_iconst F (pc := 72) (0) dX8_teach_72 ?_
          refine z_istoren F (pc := 73) hl (lv' := [(3, .int (iI 0)), (0, .ref (aR 0)), (1, .int (iI lv)), (2, .int (iI q))]) dX8_teach_73 rfl (by decide) rfl (fun ls hl => ?_)
          have cut_74 : ∀ (fuel : Nat) (j : Int) (p1 : Int → Int) (H : Heap) (locs : List Loc) (ls : Array Slot), (16 - j).toNat < fuel → (0 ≤ j ∧ j ≤ 16) → (p1 = zC nm2_49 pt 0 (16 * mn) j) → lv_has ls 4 [(3, .int (iI j)), (0, .ref (aR 0)), (1, .int (iI lv)), (2, .int (iI q))] → zW D A s.heap H locs (wR cI cZ aR xs ys lf ev2_49 nm2_49 (zU lb mn lv) (zU kd mn q) p1 so nu al ak ap he le rw cx cr cl ll tl ts tc sz mn ac en mg ln cn wc wp) → W p l e ({ frames := 5, cells := 0, slots := 0, locals := 116 } : Room) s m ([.ref (aR 0), .int (iI lv), .int (iI q)] : List Value).toArray below meth c H locs 0 0 Q (F0 m 74 ls []) := by
            intro fuel
            induction fuel with
            | zero => intro j p1 H locs ls hm; exact absurd hm (Nat.not_lt_zero _)
            | succ fuel ih_74 =>
              intro j p1 H locs ls hm_74 h1 h2 hl hW
              refine z_iloadn F (pc := 74) dX8_teach_74 rfl (lv_at hl 0 rfl) ?_
              refine z_bipush F (pc := 75) (16) (by decide +kernel) dX8_teach_75 ?_
              refine z_icmp_ge F (pc := 77) 106 dX8_teach_77 (by decide) (by omega) (fun c_77 => ?_) (fun c_77 => ?_)
              · skip
                refine z_aloadn F (pc := 106) dX8_teach_106 rfl (lv_at hl 1 rfl) ?_
                refine z_iconst F (pc := 107) (0) dX8_teach_107 ?_
                refine z_aloadn F (pc := 108) dX8_teach_108 rfl (lv_at hl 1 rfl) ?_
                refine z_get F (pc := 109) (C := RX8) (T := TX8) (N := 32) (ci := 8) inX8 hK hW 0 6 rfl rfl (by decide) rfl (List.mem_of_getElem? (i := 3) rfl) (v := .int (iI mn)) rfl dX8_teach_109 ?_
                refine z_callVv F (pc := 112) hK hW hA (As := [.int (iI 0), .int (iI mn)]) (rest := []) (ws' := fun (u : (Int → Int) × (Int → Int) × (Int → Int) × (Int → Int) × (Int → Int) × (Int)) => wR cI cZ aR xs ys lf ev2_49 nm2_49 (zU lb mn lv) (zU kd mn q) p1 u.1 u.2.1 u.2.2.1 u.2.2.2.1 u.2.2.2.2.1 he le rw cx cr cl ll tl ts tc sz mn u.2.2.2.2.2 en mg ln cn wc wp) (wr := ([])) (c_X8_keeps l D cI cZ aR xs ys lf ev2_49 nm2_49 (zU lb mn lv) (zU kd mn q) p1 so nu al ak ap he le rw cx cr cl ll tl ts tc sz mn ac en mg ln cn wc wp 0 mn _ (by omega) (by omega) (by omega) (by omega)) (cwV 2 F.2.2.2.2 gX8_teach_X8_keeps rfl rfl rfl (by decide +kernel) ⟨Nat.le_of_ble_eq_true rfl, Nat.le_of_ble_eq_true rfl⟩) [0, 1, 2, 3, 4, 5, 6, 7, 8, 9, 10, 11, 12, 13, 14, 15, 16, 17, 18, 19, 20, 21, 22, 23] [] [0, 1, 2, 3, 4, 5, 6, 7, 8, 9, 10, 11, 12, 13, 14, 15, 16, 17, 18, 19, 20, 21, 22, 23] rfl rfl (by decide) (by decide) (by decide) (fun _ => rfl) (by decide) (q0 := 0) (ci := 8) rfl rfl rfl rfl rfl hl.1 (Nat.le_of_ble_eq_true rfl) dX8_teach_112 ⟨Nat.le_of_ble_eq_true rfl, Nat.le_of_ble_eq_true rfl⟩ (fun u H locs hp_112 hW => ?_)
                obtain ⟨so2_112, nu2_112, al2_112, ak2_112, ap2_112, ac2_112⟩ := u
                dsimp only at hp_112 hW
                refine z_aloadn F (pc := 115) dX8_teach_115 rfl (lv_at hl 1 rfl) ?_
                refine z_dup F (pc := 116) dX8_teach_116 rfl ?_
                refine z_get F (pc := 117) (C := RX8) (T := TX8) (N := 32) (ci := 8) inX8 hK hW 0 6 rfl rfl (by decide) rfl (List.mem_of_getElem? (i := 3) rfl) (v := .int (iI mn)) rfl dX8_teach_117 ?_
                refine z_iconst F (pc := 120) (1) dX8_teach_120 ?_
                refine z_iadd F (pc := 121) dX8_teach_121 ?_
                refine z_put F (pc := 122) (C := RX8) (T := TX8) (N := 32) (ci := 8) inX8 tyX8 tyX8_ok nmX8 hK hW (ws' := wR cI cZ aR xs ys lf ev2_49 nm2_49 (zU lb mn lv) (zU kd mn q) p1 so2_112 nu2_112 al2_112 ak2_112 ap2_112 he le rw cx cr cl ll tl ts tc sz (mn + 1) ac2_112 en mg ln cn wc wp) 0 6 rfl rfl (by decide) rfl (List.mem_of_getElem? (i := 3) rfl) rfl rfl (Nat.le_of_ble_eq_true rfl) dX8_teach_122 rfl (fun H locs hW => ?_)
                refine z_aloadn F (pc := 125) dX8_teach_125 rfl (lv_at hl 1 rfl) ?_
                refine z_get F (pc := 126) (C := RX8) (T := TX8) (N := 32) (ci := 8) inX8 hK hW 0 6 rfl rfl (by decide) rfl (List.mem_of_getElem? (i := 3) rfl) (v := .int (iI (mn + 1))) rfl dX8_teach_126 ?_
                refine z_iconst F (pc := 129) (1) dX8_teach_129 ?_
                refine z_isub F (pc := 130) dX8_teach_130 ?_
                exact hret _ _ _ _ ((mn + 1) - 1) (ev2_49, nm2_49, (zU lb mn lv), (zU kd mn q), p1, so2_112, nu2_112, al2_112, ak2_112, ap2_112, (mn + 1), ac2_112) dX8_teach_131 (by omega) (by (try dsimp only) <;> (exact Or.inr ⟨by unfold teachYes; omega, hp_49, rfl, rfl, by rw [h2, show j = 16 by omega], rfl, hp_112.1, hp_112.2.1, by rw [hp_112.2.2.1, zU_s], by rw [hp_112.2.2.2.1, zU_s], hp_112.2.2.2.2.1, hp_112.2.2.2.2.2⟩)) hW
              · skip
                refine z_aloadn F (pc := 80) dX8_teach_80 rfl (lv_at hl 1 rfl) ?_
                refine z_get F (pc := 81) (C := RX8) (T := TX8) (N := 32) (ci := 8) inX8 hK hW 0 9 rfl rfl (by decide) rfl (List.mem_of_getElem? (i := 6) rfl) (v := .ref (aR 8)) rfl dX8_teach_81 ?_
                refine z_bipush F (pc := 84) (16) (by decide +kernel) dX8_teach_84 ?_
                refine z_aloadn F (pc := 86) dX8_teach_86 rfl (lv_at hl 1 rfl) ?_
                refine z_get F (pc := 87) (C := RX8) (T := TX8) (N := 32) (ci := 8) inX8 hK hW 0 6 rfl rfl (by decide) rfl (List.mem_of_getElem? (i := 3) rfl) (v := .int (iI mn)) rfl dX8_teach_87 ?_
                refine z_imul F (pc := 90) dX8_teach_90 ?_
                refine z_iloadn F (pc := 91) dX8_teach_91 rfl (lv_at hl 0 rfl) ?_
                refine z_iadd F (pc := 92) dX8_teach_92 ?_
                refine z_aloadn F (pc := 93) dX8_teach_93 rfl (lv_at hl 1 rfl) ?_
                refine z_get F (pc := 94) (C := RX8) (T := TX8) (N := 32) (ci := 8) inX8 hK hW 0 5 rfl rfl (by decide) rfl (List.mem_of_getElem? (i := 7) rfl) (v := .ref (aR 5)) rfl dX8_teach_94 ?_
                refine z_iloadn F (pc := 97) dX8_teach_97 rfl (lv_at hl 0 rfl) ?_
                refine z_iald F (pc := 98) hK hW 5 rfl (by decide) dX8_teach_98 (by omega) ?_
                refine z_iast F (pc := 99) hK hW (ws' := wR cI cZ aR xs ys lf ev2_49 nm2_49 (zU lb mn lv) (zU kd mn q) (zU p1 ((16 * mn) + j) (nm2_49 j)) so nu al ak ap he le rw cx cr cl ll tl ts tc sz mn ac en mg ln cn wc wp) 8 rfl (by decide) dX8_teach_99 (by omega) rfl (fun H locs hW => ?_)
                refine z_iinc F (pc := 100) hl (lv' := [(3, .int (iI (j + 1))), (0, .ref (aR 0)), (1, .int (iI lv)), (2, .int (iI q))]) dX8_teach_100 (k := 0) rfl (by decide) rfl (fun ls hl => ?_)
                refine z_goto F (pc := 103) 74 dX8_teach_103 (by decide) ?_
                exact ih_74 (j + 1) (zU p1 ((16 * mn) + j) (nm2_49 j)) _ _ _ (by omega) (by omega) (by rw [h2]; exact zC_s4 _ _ (by omega) (by omega) (by omega) (by omega)) (lv_sub hl [0, 1, 2, 3] rfl) hW
          exact cut_74 _ 0 pt _ _ _ (Nat.lt_succ_self _) (by omega) (by exact (zC_0 _ _ _ _).symm) (lv_sub hl [0, 1, 2, 3] rfl) hW
        · skip
          refine z_bipush F (pc := 45) (-3) (by decide +kernel) dX8_teach_45 ?_
          exact hret _ _ _ _ (-3) (ev, nm, lb, kd, pt, so, nu, al, ak, ap, mn, ac) dX8_teach_47 (by omega) (by (try dsimp only) <;> (first | exact Or.inl ⟨by unfold teachNo; omega, rfl, rfl, rfl, rfl, rfl, rfl, rfl, rfl, rfl, rfl⟩)) hW
      · skip
        refine z_bipush F (pc := 33) (-2) (by decide +kernel) dX8_teach_33 ?_
        exact hret _ _ _ _ (-2) (ev, nm, lb, kd, pt, so, nu, al, ak, ap, mn, ac) dX8_teach_35 (by omega) (by (try dsimp only) <;> (first | exact Or.inl ⟨by unfold teachNo; omega, rfl, rfl, rfl, rfl, rfl, rfl, rfl, rfl, rfl, rfl⟩)) hW
    · skip
      have b_21 := zB_f hp_18 c_21
      refine z_iconst F (pc := 24) (-1) dX8_teach_24 ?_
      exact hret _ _ _ _ (-1) (ev, nm, lb, kd, pt, so, nu, al, ak, ap, mn, ac) dX8_teach_25 (by omega) (by (try dsimp only) <;> (first | exact Or.inl ⟨by unfold teachNo; omega, rfl, rfl, rfl, rfl, rfl, rfl, rfl, rfl, rfl, rfl⟩)) hW

set_option maxHeartbeats 4000000 in
set_option maxRecDepth 100000 in
theorem c_X8_forget (l : Launch) (D : va_G) (cI cZ : ClassId) (aR : Nat → Nat) (xs ys lf ev nm lb kd pt so nu al ak ap he le rw cx cr cl ll tl ts tc : Int → Int) (sz mn ac en mg ln cn wc wp : Int) (k : Int) (sz0 : Nat) (r_k : (-2147483648 ≤ k ∧ k < 2147483648)) (hm : (0 ≤ mn ∧ mn ≤ 16) ∧ (0 ≤ ac ∧ ac ≤ 6)) (hlb : ∀ j, 0 ≤ j → j < mn → 0 ≤ lb j ∧ lb j ≤ 9) : Met l yX8_forget wsX8_forget ({ frames := 2, cells := 0, slots := 0, locals := 46 } : Room) (zPc D cI cZ [.ref (aR 0), .int (iI k)] (wR cI cZ aR xs ys lf ev nm lb kd pt so nu al ak ap he le rw cx cr cl ll tl ts tc sz mn ac en mg ln cn wc wp) sz0) (zQi D cI cZ (wR cI cZ aR xs ys lf ev nm lb kd pt so nu al ak ap he le rw cx cr cl ll tl ts tc sz mn ac en mg ln cn wc wp) sz0 (fun (r : Int) (u : (Int → Int) × (Int → Int) × (Int → Int) × (Int → Int) × (Int → Int) × (Int → Int) × (Int → Int) × (Int → Int) × (Int) × (Int)) => zH ((¬ (0 ≤ k ∧ k < mn) ∧ r = -1 ∧ u.1 = lb ∧ u.2.1 = kd ∧ u.2.2.1 = pt ∧ u.2.2.2.2.2.2.2.2.1 = mn ∧ u.2.2.2.1 = so ∧ u.2.2.2.2.1 = nu ∧ u.2.2.2.2.2.1 = al ∧ u.2.2.2.2.2.2.1 = ak ∧ u.2.2.2.2.2.2.2.1 = ap ∧ u.2.2.2.2.2.2.2.2.2 = ac) ∨ ((0 ≤ k ∧ k < mn) ∧ r = lb k ∧ u.1 = delL lb k mn ∧ u.2.1 = delL kd k mn ∧ u.2.2.1 = delP pt k mn ∧ u.2.2.2.2.2.2.2.2.1 = mn - 1 ∧ u.2.2.2.1 = kF so ac 1 ∧ u.2.2.2.2.1 = kF nu ac k ∧ u.2.2.2.2.2.1 = kF al ac (lb k) ∧ u.2.2.2.2.2.2.1 = kF ak ac (kd k) ∧ u.2.2.2.2.2.2.2.1 = kP ap ac pt (16 * k) ∧ u.2.2.2.2.2.2.2.2.2 = kA ac + 1))) (fun (u : (Int → Int) × (Int → Int) × (Int → Int) × (Int → Int) × (Int → Int) × (Int → Int) × (Int → Int) × (Int → Int) × (Int) × (Int)) => wR cI cZ aR xs ys lf ev nm u.1 u.2.1 u.2.2.1 u.2.2.2.1 u.2.2.2.2.1 u.2.2.2.2.2.1 u.2.2.2.2.2.2.1 u.2.2.2.2.2.2.2.1 he le rw cx cr cl ll tl ts tc sz u.2.2.2.2.2.2.2.2.1 u.2.2.2.2.2.2.2.2.2 en mg ln cn wc wp)) 0 0 (va_A (wR cI cZ aR xs ys lf ev nm lb kd pt so nu al ak ap he le rw cx cr cl ll tl ts tc sz mn ac en mg ln cn wc wp) sz0) := by
  refine z_ofI (maxL := 3) (plainFor_of_name (by decide)) rfl (Nat.le_of_ble_eq_true rfl) (Or.inl rfl) ?_
  intro p e s m below meth c A ls Q F hK hW hA hl hret
  have hl : lv_has ls 3 [(0, .ref (aR 0)), (1, .int (iI k))] := hl
  have inX8 : ∀ w ∈ u_ws RX8 TX8 32, w ∈ wsX8_forget := fun _ h => List.mem_cons_of_mem _ (List.mem_append_right _ h)
  refine z_aloadn F (pc := 0) dX8_forget_0 rfl (lv_at hl 0 rfl) ?_
  refine z_iloadn F (pc := 1) dX8_forget_1 rfl (lv_at hl 1 rfl) ?_
  refine z_callVi F (pc := 2) hK hW hA (As := [.int (iI k)]) (rest := []) (ws' := fun (u : Unit) => wR cI cZ aR xs ys lf ev nm lb kd pt so nu al ak ap he le rw cx cr cl ll tl ts tc sz mn ac en mg ln cn wc wp) (wr := ([])) (c_X8_isTaught l D cI cZ aR xs ys lf ev nm lb kd pt so nu al ak ap he le rw cx cr cl ll tl ts tc sz mn ac en mg ln cn wc wp k _ (by omega) (by omega)) (cwV 1 F.2.2.2.2 gX8_forget_X8_isTaught rfl rfl rfl (by decide +kernel) ⟨Nat.le_of_ble_eq_true rfl, Nat.le_of_ble_eq_true rfl⟩) [0, 1, 2, 3, 4, 5, 6, 7, 8, 9, 10, 11, 12, 13, 14, 15, 16, 17, 18, 19, 20, 21, 22, 23] [] [0, 1, 2, 3, 4, 5, 6, 7, 8, 9, 10, 11, 12, 13, 14, 15, 16, 17, 18, 19, 20, 21, 22, 23] rfl rfl (by decide) (by decide) (by decide) (fun _ => rfl) (by decide) (q0 := 0) (ci := 8) rfl rfl rfl rfl rfl hl.1 (Nat.le_of_ble_eq_true rfl) dX8_forget_2 ⟨Nat.le_of_ble_eq_true rfl, Nat.le_of_ble_eq_true rfl⟩ (fun z_2 u H locs r_z_2 hp_2 hW => ?_)
  refine z_if_ne F (pc := 5) 10 dX8_forget_5 (by decide) (by omega) (fun c_5 => ?_) (fun c_5 => ?_)
  · skip
    have b_5 := zB_t hp_2 c_5
    have hlk := hlb k b_5.1 b_5.2
    have hbk := b_5
    refine z_aloadn F (pc := 10) dX8_forget_10 rfl (lv_at hl 0 rfl) ?_
    refine z_get F (pc := 11) (C := RX8) (T := TX8) (N := 32) (ci := 8) inX8 hK hW 0 7 rfl rfl (by decide) rfl (List.mem_of_getElem? (i := 1) rfl) (v := .ref (aR 6)) rfl dX8_forget_11 ?_
    refine z_iloadn F (pc := 14) dX8_forget_14 rfl (lv_at hl 1 rfl) ?_
    refine z_iald F (pc := 15) hK hW 6 rfl (by decide) dX8_forget_15 (by omega) ?_
    refine z_istoren F (pc := 16) hl (lv' := [(2, .int (iI (lb k))), (0, .ref (aR 0)), (1, .int (iI k))]) dX8_forget_16 rfl (by decide) rfl (fun ls hl => ?_)
    refine z_aloadn F (pc := 17) dX8_forget_17 rfl (lv_at hl 1 rfl) ?_
    refine z_iconst F (pc := 18) (1) dX8_forget_18 ?_
    refine z_iloadn F (pc := 19) dX8_forget_19 rfl (lv_at hl 2 rfl) ?_
    refine z_callVv F (pc := 20) hK hW hA (As := [.int (iI 1), .int (iI k)]) (rest := []) (ws' := fun (u : (Int → Int) × (Int → Int) × (Int → Int) × (Int → Int) × (Int → Int) × (Int)) => wR cI cZ aR xs ys lf ev nm lb kd pt u.1 u.2.1 u.2.2.1 u.2.2.2.1 u.2.2.2.2.1 he le rw cx cr cl ll tl ts tc sz mn u.2.2.2.2.2 en mg ln cn wc wp) (wr := ([])) (c_X8_keeps l D cI cZ aR xs ys lf ev nm lb kd pt so nu al ak ap he le rw cx cr cl ll tl ts tc sz mn ac en mg ln cn wc wp 1 k _ (by omega) (by omega) (by omega) (by omega)) (cwV 2 F.2.2.2.2 gX8_forget_X8_keeps rfl rfl rfl (by decide +kernel) ⟨Nat.le_of_ble_eq_true rfl, Nat.le_of_ble_eq_true rfl⟩) [0, 1, 2, 3, 4, 5, 6, 7, 8, 9, 10, 11, 12, 13, 14, 15, 16, 17, 18, 19, 20, 21, 22, 23] [] [0, 1, 2, 3, 4, 5, 6, 7, 8, 9, 10, 11, 12, 13, 14, 15, 16, 17, 18, 19, 20, 21, 22, 23] rfl rfl (by decide) (by decide) (by decide) (fun _ => rfl) (by decide) (q0 := 0) (ci := 8) rfl rfl rfl rfl rfl hl.1 (Nat.le_of_ble_eq_true rfl) dX8_forget_20 ⟨Nat.le_of_ble_eq_true rfl, Nat.le_of_ble_eq_true rfl⟩ (fun u H locs hp_20 hW => ?_)
    obtain ⟨so2_20, nu2_20, al2_20, ak2_20, ap2_20, ac2_20⟩ := u
    dsimp only at hp_20 hW
    refine z_aloadn F (pc := 23) dX8_forget_23 rfl (lv_at hl 1 rfl) ?_
    refine z_iloadn F (pc := 24) dX8_forget_24 rfl (lv_at hl 2 rfl) ?_
    refine z_callVv F (pc := 25) hK hW hA (As := [.int (iI k)]) (rest := []) (ws' := fun (u : (Int → Int) × (Int → Int) × (Int → Int) × (Int)) => wR cI cZ aR xs ys lf ev nm u.1 u.2.1 u.2.2.1 so2_20 nu2_20 al2_20 ak2_20 ap2_20 he le rw cx cr cl ll tl ts tc sz u.2.2.2 ac2_20 en mg ln cn wc wp) (wr := ([])) (c_X8_goes l D cI cZ aR xs ys lf ev nm lb kd pt so2_20 nu2_20 al2_20 ak2_20 ap2_20 he le rw cx cr cl ll tl ts tc sz mn ac2_20 en mg ln cn wc wp k _ (by omega) (by omega) (by omega)) (cwV 1 F.2.2.2.2 gX8_forget_X8_goes rfl rfl rfl (by decide +kernel) ⟨Nat.le_of_ble_eq_true rfl, Nat.le_of_ble_eq_true rfl⟩) [0, 1, 2, 3, 4, 5, 6, 7, 8, 9, 10, 11, 12, 13, 14, 15, 16, 17, 18, 19, 20, 21, 22, 23] [] [0, 1, 2, 3, 4, 5, 6, 7, 8, 9, 10, 11, 12, 13, 14, 15, 16, 17, 18, 19, 20, 21, 22, 23] rfl rfl (by decide) (by decide) (by decide) (fun _ => rfl) (by decide) (q0 := 0) (ci := 8) rfl rfl rfl rfl rfl hl.1 (Nat.le_of_ble_eq_true rfl) dX8_forget_25 ⟨Nat.le_of_ble_eq_true rfl, Nat.le_of_ble_eq_true rfl⟩ (fun u H locs hp_25 hW => ?_)
    obtain ⟨lb2_25, kd2_25, pt2_25, mn2_25⟩ := u
    dsimp only at hp_25 hW
    refine z_iloadn F (pc := 28) dX8_forget_28 rfl (lv_at hl 0 rfl) ?_
    exact hret _ _ _ _ (lb k) (lb2_25, kd2_25, pt2_25, so2_20, nu2_20, al2_20, ak2_20, ap2_20, mn2_25, ac2_20) dX8_forget_29 (by omega) (by (try dsimp only) <;> (exact Or.inr ⟨hbk, rfl, hp_25.1, hp_25.2.1, hp_25.2.2.1, hp_25.2.2.2, hp_20⟩)) hW
  · skip
    have b_5 := zB_f hp_2 c_5
    refine z_iconst F (pc := 8) (-1) dX8_forget_8 ?_
    exact hret _ _ _ _ (-1) (lb, kd, pt, so, nu, al, ak, ap, mn, ac) dX8_forget_9 (by omega) (by (try dsimp only) <;> (exact Or.inl ⟨b_5, rfl, rfl, rfl, rfl, rfl, rfl, rfl, rfl, rfl, rfl, rfl⟩)) hW

set_option maxHeartbeats 4000000 in
set_option maxRecDepth 100000 in
theorem c_X8_label (l : Launch) (D : va_G) (cI cZ : ClassId) (aR : Nat → Nat) (xs ys lf ev nm lb kd pt so nu al ak ap he le rw cx cr cl ll tl ts tc : Int → Int) (sz mn ac en mg ln cn wc wp : Int) (k v : Int) (sz0 : Nat) (r_k : (-2147483648 ≤ k ∧ k < 2147483648)) (r_v : (-2147483648 ≤ v ∧ v < 2147483648)) (hm : (0 ≤ mn ∧ mn ≤ 16) ∧ (0 ≤ ac ∧ ac ≤ 6)) (hlb : ∀ j, 0 ≤ j → j < mn → 0 ≤ lb j ∧ lb j ≤ 9) : Met l yX8_label wsX8_label ({ frames := 2, cells := 0, slots := 0, locals := 46 } : Room) (zPc D cI cZ [.ref (aR 0), .int (iI k), .int (iI v)] (wR cI cZ aR xs ys lf ev nm lb kd pt so nu al ak ap he le rw cx cr cl ll tl ts tc sz mn ac en mg ln cn wc wp) sz0) (zQi D cI cZ (wR cI cZ aR xs ys lf ev nm lb kd pt so nu al ak ap he le rw cx cr cl ll tl ts tc sz mn ac en mg ln cn wc wp) sz0 (fun (r : Int) (u : (Int → Int) × (Int → Int) × (Int → Int) × (Int → Int) × (Int → Int) × (Int → Int) × (Int)) => zH ((¬ ((0 ≤ k ∧ k < mn) ∧ (0 ≤ v ∧ v ≤ 9)) ∧ r = -1 ∧ u.1 = lb ∧ u.2.1 = so ∧ u.2.2.1 = nu ∧ u.2.2.2.1 = al ∧ u.2.2.2.2.1 = ak ∧ u.2.2.2.2.2.1 = ap ∧ u.2.2.2.2.2.2 = ac) ∨ (((0 ≤ k ∧ k < mn) ∧ (0 ≤ v ∧ v ≤ 9)) ∧ r = lb k ∧ u.1 = zU lb k v ∧ u.2.1 = kF so ac 2 ∧ u.2.2.1 = kF nu ac k ∧ u.2.2.2.1 = kF al ac (lb k) ∧ u.2.2.2.2.1 = kF ak ac (kd k) ∧ u.2.2.2.2.2.1 = kP ap ac pt (16 * k) ∧ u.2.2.2.2.2.2 = kA ac + 1))) (fun (u : (Int → Int) × (Int → Int) × (Int → Int) × (Int → Int) × (Int → Int) × (Int → Int) × (Int)) => wR cI cZ aR xs ys lf ev nm u.1 kd pt u.2.1 u.2.2.1 u.2.2.2.1 u.2.2.2.2.1 u.2.2.2.2.2.1 he le rw cx cr cl ll tl ts tc sz mn u.2.2.2.2.2.2 en mg ln cn wc wp)) 0 0 (va_A (wR cI cZ aR xs ys lf ev nm lb kd pt so nu al ak ap he le rw cx cr cl ll tl ts tc sz mn ac en mg ln cn wc wp) sz0) := by
  refine z_ofI (maxL := 4) (plainFor_of_name (by decide)) rfl (Nat.le_of_ble_eq_true rfl) (Or.inl rfl) ?_
  intro p e s m below meth c A ls Q F hK hW hA hl hret
  have hl : lv_has ls 4 [(0, .ref (aR 0)), (1, .int (iI k)), (2, .int (iI v))] := hl
  have inX8 : ∀ w ∈ u_ws RX8 TX8 32, w ∈ wsX8_label := fun _ h => List.mem_cons_of_mem _ (List.mem_append_right _ h)
  refine z_aloadn F (pc := 0) dX8_label_0 rfl (lv_at hl 0 rfl) ?_
  refine z_iloadn F (pc := 1) dX8_label_1 rfl (lv_at hl 1 rfl) ?_
  refine z_callVi F (pc := 2) hK hW hA (As := [.int (iI k)]) (rest := []) (ws' := fun (u : Unit) => wR cI cZ aR xs ys lf ev nm lb kd pt so nu al ak ap he le rw cx cr cl ll tl ts tc sz mn ac en mg ln cn wc wp) (wr := ([])) (c_X8_isTaught l D cI cZ aR xs ys lf ev nm lb kd pt so nu al ak ap he le rw cx cr cl ll tl ts tc sz mn ac en mg ln cn wc wp k _ (by omega) (by omega)) (cwV 1 F.2.2.2.2 gX8_label_X8_isTaught rfl rfl rfl (by decide +kernel) ⟨Nat.le_of_ble_eq_true rfl, Nat.le_of_ble_eq_true rfl⟩) [0, 1, 2, 3, 4, 5, 6, 7, 8, 9, 10, 11, 12, 13, 14, 15, 16, 17, 18, 19, 20, 21, 22, 23] [] [0, 1, 2, 3, 4, 5, 6, 7, 8, 9, 10, 11, 12, 13, 14, 15, 16, 17, 18, 19, 20, 21, 22, 23] rfl rfl (by decide) (by decide) (by decide) (fun _ => rfl) (by decide) (q0 := 0) (ci := 8) rfl rfl rfl rfl rfl hl.1 (Nat.le_of_ble_eq_true rfl) dX8_label_2 ⟨Nat.le_of_ble_eq_true rfl, Nat.le_of_ble_eq_true rfl⟩ (fun z_2 u H locs r_z_2 hp_2 hW => ?_)
  refine z_if_eq F (pc := 5) 20 dX8_label_5 (by decide) (by omega) (fun c_5 => ?_) (fun c_5 => ?_)
  · skip
    have b_5 := zB_f hp_2 c_5
    refine z_iconst F (pc := 20) (-1) dX8_label_20 ?_
    exact hret _ _ _ _ (-1) (lb, so, nu, al, ak, ap, ac) dX8_label_21 (by omega) (by (try dsimp only) <;> (exact Or.inl ⟨by omega, rfl, rfl, rfl, rfl, rfl, rfl, rfl, rfl⟩)) hW
  · skip
    have b_5 := zB_t hp_2 c_5
    have hlk := hlb k b_5.1 b_5.2
    refine z_iloadn F (pc := 8) dX8_label_8 rfl (lv_at hl 2 rfl) ?_
    refine z_i2l F (pc := 9) dX8_label_9 (by omega) ?_
    refine z_lconst F (pc := 10) (0) (by decide +kernel) dX8_label_10 ?_
    refine z_ldc2 F (pc := 11) (9) (by decide +kernel) (List.mem_of_getElem? (i := 1) rfl) dX8_label_11 ?_
    refine z_callSi F (pc := 14) hK hW hA (As := [.long (lI v), .long (lI 0), .long (lI 9)]) (rest := []) (c_X8_in l D cI cZ v 0 9 _ (by omega) (by omega) (by omega)) (va_cwS 3 F.2.2.2.2 gX8_label_X8_in rfl rfl rfl (by decide +kernel) ⟨Nat.le_of_ble_eq_true rfl, Nat.le_of_ble_eq_true rfl⟩) rfl rfl hl.1 (Nat.le_of_ble_eq_true rfl) dX8_label_14 ⟨Nat.le_of_ble_eq_true rfl, Nat.le_of_ble_eq_true rfl⟩ (fun z_14 H locs r_z_14 hp_14 hW => ?_)
    refine z_if_ne F (pc := 17) 22 dX8_label_17 (by decide) (by omega) (fun c_17 => ?_) (fun c_17 => ?_)
    · skip
      have b_17 := zB_t hp_14 c_17
      refine z_aloadn F (pc := 22) dX8_label_22 rfl (lv_at hl 0 rfl) ?_
      refine z_get F (pc := 23) (C := RX8) (T := TX8) (N := 32) (ci := 8) inX8 hK hW 0 7 rfl rfl (by decide) rfl (List.mem_of_getElem? (i := 2) rfl) (v := .ref (aR 6)) rfl dX8_label_23 ?_
      refine z_iloadn F (pc := 26) dX8_label_26 rfl (lv_at hl 1 rfl) ?_
      refine z_iald F (pc := 27) hK hW 6 rfl (by decide) dX8_label_27 (by omega) ?_
      refine z_istoren F (pc := 28) hl (lv' := [(3, .int (iI (lb k))), (0, .ref (aR 0)), (1, .int (iI k)), (2, .int (iI v))]) dX8_label_28 rfl (by decide) rfl (fun ls hl => ?_)
      refine z_aloadn F (pc := 29) dX8_label_29 rfl (lv_at hl 1 rfl) ?_
      refine z_iconst F (pc := 30) (2) dX8_label_30 ?_
      refine z_iloadn F (pc := 31) dX8_label_31 rfl (lv_at hl 2 rfl) ?_
      refine z_callVv F (pc := 32) hK hW hA (As := [.int (iI 2), .int (iI k)]) (rest := []) (ws' := fun (u : (Int → Int) × (Int → Int) × (Int → Int) × (Int → Int) × (Int → Int) × (Int)) => wR cI cZ aR xs ys lf ev nm lb kd pt u.1 u.2.1 u.2.2.1 u.2.2.2.1 u.2.2.2.2.1 he le rw cx cr cl ll tl ts tc sz mn u.2.2.2.2.2 en mg ln cn wc wp) (wr := ([])) (c_X8_keeps l D cI cZ aR xs ys lf ev nm lb kd pt so nu al ak ap he le rw cx cr cl ll tl ts tc sz mn ac en mg ln cn wc wp 2 k _ (by omega) (by omega) (by omega) (by omega)) (cwV 2 F.2.2.2.2 gX8_label_X8_keeps rfl rfl rfl (by decide +kernel) ⟨Nat.le_of_ble_eq_true rfl, Nat.le_of_ble_eq_true rfl⟩) [0, 1, 2, 3, 4, 5, 6, 7, 8, 9, 10, 11, 12, 13, 14, 15, 16, 17, 18, 19, 20, 21, 22, 23] [] [0, 1, 2, 3, 4, 5, 6, 7, 8, 9, 10, 11, 12, 13, 14, 15, 16, 17, 18, 19, 20, 21, 22, 23] rfl rfl (by decide) (by decide) (by decide) (fun _ => rfl) (by decide) (q0 := 0) (ci := 8) rfl rfl rfl rfl rfl hl.1 (Nat.le_of_ble_eq_true rfl) dX8_label_32 ⟨Nat.le_of_ble_eq_true rfl, Nat.le_of_ble_eq_true rfl⟩ (fun u H locs hp_32 hW => ?_)
      obtain ⟨so2_32, nu2_32, al2_32, ak2_32, ap2_32, ac2_32⟩ := u
      dsimp only at hp_32 hW
      refine z_aloadn F (pc := 35) dX8_label_35 rfl (lv_at hl 1 rfl) ?_
      refine z_get F (pc := 36) (C := RX8) (T := TX8) (N := 32) (ci := 8) inX8 hK hW 0 7 rfl rfl (by decide) rfl (List.mem_of_getElem? (i := 2) rfl) (v := .ref (aR 6)) rfl dX8_label_36 ?_
      refine z_iloadn F (pc := 39) dX8_label_39 rfl (lv_at hl 2 rfl) ?_
      refine z_iloadn F (pc := 40) dX8_label_40 rfl (lv_at hl 3 rfl) ?_
      refine z_iast F (pc := 41) hK hW (ws' := wR cI cZ aR xs ys lf ev nm (zU lb k v) kd pt so2_32 nu2_32 al2_32 ak2_32 ap2_32 he le rw cx cr cl ll tl ts tc sz mn ac2_32 en mg ln cn wc wp) 6 rfl (by decide) dX8_label_41 (by omega) rfl (fun H locs hW => ?_)
      refine z_iloadn F (pc := 42) dX8_label_42 rfl (lv_at hl 0 rfl) ?_
      exact hret _ _ _ _ (lb k) ((zU lb k v), so2_32, nu2_32, al2_32, ak2_32, ap2_32, ac2_32) dX8_label_43 (by omega) (by (try dsimp only) <;> (exact Or.inr ⟨by omega, rfl, rfl, hp_32⟩)) hW
    · skip
      have b_17 := zB_f hp_14 c_17
      refine z_iconst F (pc := 20) (-1) dX8_label_20 ?_
      exact hret _ _ _ _ (-1) (lb, so, nu, al, ak, ap, ac) dX8_label_21 (by omega) (by (try dsimp only) <;> (exact Or.inl ⟨by omega, rfl, rfl, rfl, rfl, rfl, rfl, rfl, rfl⟩)) hW

def toldP (lb kd : Int → Int) (mn k w r : Int) : Prop := (¬ ((0 ≤ k ∧ k < mn) ∧ (0 ≤ w ∧ w ≤ 1)) ∧ r = -1) ∨ ((0 ≤ k ∧ k < mn) ∧ w = 0 ∧ r = lb k) ∨ ((0 ≤ k ∧ k < mn) ∧ w = 1 ∧ r = kd k)
def taughtP (pt : Int → Int) (mn k i w r : Int) : Prop := (¬ ((0 ≤ k ∧ k < mn) ∧ (0 ≤ i ∧ i ≤ 7) ∧ (0 ≤ w ∧ w ≤ 1)) ∧ r = 1000000) ∨ (((0 ≤ k ∧ k < mn) ∧ (0 ≤ i ∧ i ≤ 7) ∧ (0 ≤ w ∧ w ≤ 1)) ∧ r = pt (16 * k + 2 * i + w))

set_option maxHeartbeats 4000000 in
set_option maxRecDepth 100000 in
theorem c_X8_told (l : Launch) (D : va_G) (cI cZ : ClassId) (aR : Nat → Nat) (xs ys lf ev nm lb kd pt so nu al ak ap he le rw cx cr cl ll tl ts tc : Int → Int) (sz mn ac en mg ln cn wc wp : Int) (k w : Int) (sz0 : Nat) (r_k : (-2147483648 ≤ k ∧ k < 2147483648)) (r_w : (-2147483648 ≤ w ∧ w < 2147483648)) (hm : 0 ≤ mn ∧ mn ≤ 16) (hlb : ∀ j, 0 ≤ j → j < mn → (0 ≤ lb j ∧ lb j ≤ 9) ∧ (0 ≤ kd j ∧ kd j ≤ 4)) : Met l yX8_told wsX8_told ({ frames := 2, cells := 0, slots := 0, locals := 46 } : Room) (zPc D cI cZ [.ref (aR 0), .int (iI k), .int (iI w)] (wR cI cZ aR xs ys lf ev nm lb kd pt so nu al ak ap he le rw cx cr cl ll tl ts tc sz mn ac en mg ln cn wc wp) sz0) (zQi D cI cZ (wR cI cZ aR xs ys lf ev nm lb kd pt so nu al ak ap he le rw cx cr cl ll tl ts tc sz mn ac en mg ln cn wc wp) sz0 (fun (r : Int) (u : Unit) => toldP lb kd mn k w r) (fun (u : Unit) => wR cI cZ aR xs ys lf ev nm lb kd pt so nu al ak ap he le rw cx cr cl ll tl ts tc sz mn ac en mg ln cn wc wp)) 0 0 (va_A (wR cI cZ aR xs ys lf ev nm lb kd pt so nu al ak ap he le rw cx cr cl ll tl ts tc sz mn ac en mg ln cn wc wp) sz0) := by
  refine z_ofI (maxL := 3) (plainFor_of_name (by decide)) rfl (Nat.le_of_ble_eq_true rfl) (Or.inl rfl) ?_
  intro p e s m below meth c A ls Q F hK hW hA hl hret
  have hl : lv_has ls 3 [(0, .ref (aR 0)), (1, .int (iI k)), (2, .int (iI w))] := hl
  have inX8 : ∀ w ∈ u_ws RX8 TX8 32, w ∈ wsX8_told := fun _ h => List.mem_cons_of_mem _ (List.mem_append_right _ h)
  refine z_aloadn F (pc := 0) dX8_told_0 rfl (lv_at hl 0 rfl) ?_
  refine z_iloadn F (pc := 1) dX8_told_1 rfl (lv_at hl 1 rfl) ?_
  refine z_callVi F (pc := 2) hK hW hA (As := [.int (iI k)]) (rest := []) (ws' := fun (u : Unit) => wR cI cZ aR xs ys lf ev nm lb kd pt so nu al ak ap he le rw cx cr cl ll tl ts tc sz mn ac en mg ln cn wc wp) (wr := ([])) (c_X8_isTaught l D cI cZ aR xs ys lf ev nm lb kd pt so nu al ak ap he le rw cx cr cl ll tl ts tc sz mn ac en mg ln cn wc wp k _ (by omega) (by omega)) (cwV 1 F.2.2.2.2 gX8_told_X8_isTaught rfl rfl rfl (by decide +kernel) ⟨Nat.le_of_ble_eq_true rfl, Nat.le_of_ble_eq_true rfl⟩) [0, 1, 2, 3, 4, 5, 6, 7, 8, 9, 10, 11, 12, 13, 14, 15, 16, 17, 18, 19, 20, 21, 22, 23] [] [0, 1, 2, 3, 4, 5, 6, 7, 8, 9, 10, 11, 12, 13, 14, 15, 16, 17, 18, 19, 20, 21, 22, 23] rfl rfl (by decide) (by decide) (by decide) (fun _ => rfl) (by decide) (q0 := 0) (ci := 8) rfl rfl rfl rfl rfl hl.1 (Nat.le_of_ble_eq_true rfl) dX8_told_2 ⟨Nat.le_of_ble_eq_true rfl, Nat.le_of_ble_eq_true rfl⟩ (fun z_2 u H locs r_z_2 hp_2 hW => ?_)
  refine z_if_eq F (pc := 5) 18 dX8_told_5 (by decide) (by omega) (fun c_5 => ?_) (fun c_5 => ?_)
  · skip
    have b_5 := zB_f hp_2 c_5
    refine z_iconst F (pc := 18) (-1) dX8_told_18 ?_
    refine z_goto F (pc := 19) 41 dX8_told_19 (by decide) ?_
    exact hret _ _ _ _ (-1) () dX8_told_41 (by omega) (by unfold toldP; omega) hW
  · skip
    have b_5 := zB_t hp_2 c_5
    have hlk := hlb k b_5.1 b_5.2
    refine z_iloadn F (pc := 8) dX8_told_8 rfl (lv_at hl 2 rfl) ?_
    refine z_i2l F (pc := 9) dX8_told_9 (by omega) ?_
    refine z_lconst F (pc := 10) (0) (by decide +kernel) dX8_told_10 ?_
    refine z_lconst F (pc := 11) (1) (by decide +kernel) dX8_told_11 ?_
    refine z_callSi F (pc := 12) hK hW hA (As := [.long (lI w), .long (lI 0), .long (lI 1)]) (rest := []) (c_X8_in l D cI cZ w 0 1 _ (by omega) (by omega) (by omega)) (va_cwS 3 F.2.2.2.2 gX8_told_X8_in rfl rfl rfl (by decide +kernel) ⟨Nat.le_of_ble_eq_true rfl, Nat.le_of_ble_eq_true rfl⟩) rfl rfl hl.1 (Nat.le_of_ble_eq_true rfl) dX8_told_12 ⟨Nat.le_of_ble_eq_true rfl, Nat.le_of_ble_eq_true rfl⟩ (fun z_12 H locs r_z_12 hp_12 hW => ?_)
    refine z_if_ne F (pc := 15) 22 dX8_told_15 (by decide) (by omega) (fun c_15 => ?_) (fun c_15 => ?_)
    · skip
      have b_15 := zB_t hp_12 c_15
      refine z_iloadn F (pc := 22) dX8_told_22 rfl (lv_at hl 2 rfl) ?_
      refine z_if_ne F (pc := 23) 35 dX8_told_23 (by decide) (by omega) (fun c_23 => ?_) (fun c_23 => ?_)
      · skip
        refine z_aloadn F (pc := 35) dX8_told_35 rfl (lv_at hl 0 rfl) ?_
        refine z_get F (pc := 36) (C := RX8) (T := TX8) (N := 32) (ci := 8) inX8 hK hW 0 8 rfl rfl (by decide) rfl (List.mem_of_getElem? (i := 2) rfl) (v := .ref (aR 7)) rfl dX8_told_36 ?_
        refine z_iloadn F (pc := 39) dX8_told_39 rfl (lv_at hl 1 rfl) ?_
        refine z_iald F (pc := 40) hK hW 7 rfl (by decide) dX8_told_40 (by omega) ?_
        exact hret _ _ _ _ (kd k) () dX8_told_41 (by omega) (by unfold toldP; omega) hW
      · skip
        refine z_aloadn F (pc := 26) dX8_told_26 rfl (lv_at hl 0 rfl) ?_
        refine z_get F (pc := 27) (C := RX8) (T := TX8) (N := 32) (ci := 8) inX8 hK hW 0 7 rfl rfl (by decide) rfl (List.mem_of_getElem? (i := 1) rfl) (v := .ref (aR 6)) rfl dX8_told_27 ?_
        refine z_iloadn F (pc := 30) dX8_told_30 rfl (lv_at hl 1 rfl) ?_
        refine z_iald F (pc := 31) hK hW 6 rfl (by decide) dX8_told_31 (by omega) ?_
        refine z_goto F (pc := 32) 41 dX8_told_32 (by decide) ?_
        exact hret _ _ _ _ (lb k) () dX8_told_41 (by omega) (by unfold toldP; omega) hW
    · skip
      have b_15 := zB_f hp_12 c_15
      refine z_iconst F (pc := 18) (-1) dX8_told_18 ?_
      refine z_goto F (pc := 19) 41 dX8_told_19 (by decide) ?_
      exact hret _ _ _ _ (-1) () dX8_told_41 (by omega) (by unfold toldP; omega) hW

set_option maxHeartbeats 4000000 in
set_option maxRecDepth 100000 in
theorem c_X8_taught (l : Launch) (D : va_G) (cI cZ : ClassId) (aR : Nat → Nat) (xs ys lf ev nm lb kd pt so nu al ak ap he le rw cx cr cl ll tl ts tc : Int → Int) (sz mn ac en mg ln cn wc wp : Int) (k i w : Int) (sz0 : Nat) (r_k : (-2147483648 ≤ k ∧ k < 2147483648)) (r_i : (-2147483648 ≤ i ∧ i < 2147483648)) (r_w : (-2147483648 ≤ w ∧ w < 2147483648)) (hm : 0 ≤ mn ∧ mn ≤ 16) (hp : ∀ j, 0 ≤ j → j < 16 * mn → -1000 ≤ pt j ∧ pt j ≤ 1000) : Met l yX8_taught wsX8_taught ({ frames := 2, cells := 0, slots := 0, locals := 46 } : Room) (zPc D cI cZ [.ref (aR 0), .int (iI k), .int (iI i), .int (iI w)] (wR cI cZ aR xs ys lf ev nm lb kd pt so nu al ak ap he le rw cx cr cl ll tl ts tc sz mn ac en mg ln cn wc wp) sz0) (zQi D cI cZ (wR cI cZ aR xs ys lf ev nm lb kd pt so nu al ak ap he le rw cx cr cl ll tl ts tc sz mn ac en mg ln cn wc wp) sz0 (fun (r : Int) (u : Unit) => taughtP pt mn k i w r) (fun (u : Unit) => wR cI cZ aR xs ys lf ev nm lb kd pt so nu al ak ap he le rw cx cr cl ll tl ts tc sz mn ac en mg ln cn wc wp)) 0 0 (va_A (wR cI cZ aR xs ys lf ev nm lb kd pt so nu al ak ap he le rw cx cr cl ll tl ts tc sz mn ac en mg ln cn wc wp) sz0) := by
  refine z_ofI (maxL := 4) (plainFor_of_name (by decide)) rfl (Nat.le_of_ble_eq_true rfl) (Or.inl rfl) ?_
  intro p e s m below meth c A ls Q F hK hW hA hl hret
  have hl : lv_has ls 4 [(0, .ref (aR 0)), (1, .int (iI k)), (2, .int (iI i)), (3, .int (iI w))] := hl
  have inX8 : ∀ w ∈ u_ws RX8 TX8 32, w ∈ wsX8_taught := fun _ h => List.mem_cons_of_mem _ (List.mem_append_right _ h)
  refine z_aloadn F (pc := 0) dX8_taught_0 rfl (lv_at hl 0 rfl) ?_
  refine z_iloadn F (pc := 1) dX8_taught_1 rfl (lv_at hl 1 rfl) ?_
  refine z_callVi F (pc := 2) hK hW hA (As := [.int (iI k)]) (rest := []) (ws' := fun (u : Unit) => wR cI cZ aR xs ys lf ev nm lb kd pt so nu al ak ap he le rw cx cr cl ll tl ts tc sz mn ac en mg ln cn wc wp) (wr := ([])) (c_X8_isTaught l D cI cZ aR xs ys lf ev nm lb kd pt so nu al ak ap he le rw cx cr cl ll tl ts tc sz mn ac en mg ln cn wc wp k _ (by omega) (by omega)) (cwV 1 F.2.2.2.2 gX8_taught_X8_isTaught rfl rfl rfl (by decide +kernel) ⟨Nat.le_of_ble_eq_true rfl, Nat.le_of_ble_eq_true rfl⟩) [0, 1, 2, 3, 4, 5, 6, 7, 8, 9, 10, 11, 12, 13, 14, 15, 16, 17, 18, 19, 20, 21, 22, 23] [] [0, 1, 2, 3, 4, 5, 6, 7, 8, 9, 10, 11, 12, 13, 14, 15, 16, 17, 18, 19, 20, 21, 22, 23] rfl rfl (by decide) (by decide) (by decide) (fun _ => rfl) (by decide) (q0 := 0) (ci := 8) rfl rfl rfl rfl rfl hl.1 (Nat.le_of_ble_eq_true rfl) dX8_taught_2 ⟨Nat.le_of_ble_eq_true rfl, Nat.le_of_ble_eq_true rfl⟩ (fun z_2 u H locs r_z_2 hp_2 hW => ?_)
  refine z_if_eq F (pc := 5) 48 dX8_taught_5 (by decide) (by omega) (fun c_5 => ?_) (fun c_5 => ?_)
  · skip
    have b_5 := zB_f hp_2 c_5
    refine z_ldc F (pc := 48) (1000000) (by decide +kernel) (List.mem_of_getElem? (i := 3) rfl) dX8_taught_48 ?_
    exact hret _ _ _ _ 1000000 () dX8_taught_50 (by omega) (by unfold taughtP; omega) hW
  · skip
    have b_5 := zB_t hp_2 c_5
    refine z_iloadn F (pc := 8) dX8_taught_8 rfl (lv_at hl 2 rfl) ?_
    refine z_i2l F (pc := 9) dX8_taught_9 (by omega) ?_
    refine z_lconst F (pc := 10) (0) (by decide +kernel) dX8_taught_10 ?_
    refine z_ldc2 F (pc := 11) (7) (by decide +kernel) (List.mem_of_getElem? (i := 1) rfl) dX8_taught_11 ?_
    refine z_callSi F (pc := 14) hK hW hA (As := [.long (lI i), .long (lI 0), .long (lI 7)]) (rest := []) (c_X8_in l D cI cZ i 0 7 _ (by omega) (by omega) (by omega)) (va_cwS 3 F.2.2.2.2 gX8_taught_X8_in rfl rfl rfl (by decide +kernel) ⟨Nat.le_of_ble_eq_true rfl, Nat.le_of_ble_eq_true rfl⟩) rfl rfl hl.1 (Nat.le_of_ble_eq_true rfl) dX8_taught_14 ⟨Nat.le_of_ble_eq_true rfl, Nat.le_of_ble_eq_true rfl⟩ (fun z_14 H locs r_z_14 hp_14 hW => ?_)
    refine z_if_eq F (pc := 17) 48 dX8_taught_17 (by decide) (by omega) (fun c_17 => ?_) (fun c_17 => ?_)
    · skip
      have b_17 := zB_f hp_14 c_17
      refine z_ldc F (pc := 48) (1000000) (by decide +kernel) (List.mem_of_getElem? (i := 3) rfl) dX8_taught_48 ?_
      exact hret _ _ _ _ 1000000 () dX8_taught_50 (by omega) (by unfold taughtP; omega) hW
    · skip
      have b_17 := zB_t hp_14 c_17
      refine z_iloadn F (pc := 20) dX8_taught_20 rfl (lv_at hl 3 rfl) ?_
      refine z_i2l F (pc := 21) dX8_taught_21 (by omega) ?_
      refine z_lconst F (pc := 22) (0) (by decide +kernel) dX8_taught_22 ?_
      refine z_lconst F (pc := 23) (1) (by decide +kernel) dX8_taught_23 ?_
      refine z_callSi F (pc := 24) hK hW hA (As := [.long (lI w), .long (lI 0), .long (lI 1)]) (rest := []) (c_X8_in l D cI cZ w 0 1 _ (by omega) (by omega) (by omega)) (va_cwS 3 F.2.2.2.2 gX8_taught_X8_in rfl rfl rfl (by decide +kernel) ⟨Nat.le_of_ble_eq_true rfl, Nat.le_of_ble_eq_true rfl⟩) rfl rfl hl.1 (Nat.le_of_ble_eq_true rfl) dX8_taught_24 ⟨Nat.le_of_ble_eq_true rfl, Nat.le_of_ble_eq_true rfl⟩ (fun z_24 H locs r_z_24 hp_24 hW => ?_)
      refine z_if_eq F (pc := 27) 48 dX8_taught_27 (by decide) (by omega) (fun c_27 => ?_) (fun c_27 => ?_)
      · skip
        have b_27 := zB_f hp_24 c_27
        refine z_ldc F (pc := 48) (1000000) (by decide +kernel) (List.mem_of_getElem? (i := 3) rfl) dX8_taught_48 ?_
        exact hret _ _ _ _ 1000000 () dX8_taught_50 (by omega) (by unfold taughtP; omega) hW
      · skip
        have b_27 := zB_t hp_24 c_27
        have hlk := hp (16 * k + 2 * i + w) (by omega) (by omega)
        refine z_aloadn F (pc := 30) dX8_taught_30 rfl (lv_at hl 0 rfl) ?_
        refine z_get F (pc := 31) (C := RX8) (T := TX8) (N := 32) (ci := 8) inX8 hK hW 0 9 rfl rfl (by decide) rfl (List.mem_of_getElem? (i := 2) rfl) (v := .ref (aR 8)) rfl dX8_taught_31 ?_
        refine z_bipush F (pc := 34) (16) (by decide +kernel) dX8_taught_34 ?_
        refine z_iloadn F (pc := 36) dX8_taught_36 rfl (lv_at hl 1 rfl) ?_
        refine z_imul F (pc := 37) dX8_taught_37 ?_
        refine z_iconst F (pc := 38) (2) dX8_taught_38 ?_
        refine z_iloadn F (pc := 39) dX8_taught_39 rfl (lv_at hl 2 rfl) ?_
        refine z_imul F (pc := 40) dX8_taught_40 ?_
        refine z_iadd F (pc := 41) dX8_taught_41 ?_
        refine z_iloadn F (pc := 42) dX8_taught_42 rfl (lv_at hl 3 rfl) ?_
        refine z_iadd F (pc := 43) dX8_taught_43 ?_
        refine z_iald F (pc := 44) hK hW 8 rfl (by decide) dX8_taught_44 (by omega) ?_
        refine z_goto F (pc := 45) 50 dX8_taught_45 (by decide) ?_
        exact hret _ _ _ _ (pt (((16 * k) + (2 * i)) + w)) () dX8_taught_50 (by omega) (by unfold taughtP; omega) hW

set_option maxHeartbeats 4000000 in
set_option maxRecDepth 100000 in
theorem c_X8_undo (l : Launch) (D : va_G) (cI cZ : ClassId) (aR : Nat → Nat) (xs ys lf ev nm lb kd pt so nu al ak ap he le rw cx cr cl ll tl ts tc : Int → Int) (sz mn ac en mg ln cn wc wp : Int) (sz0 : Nat) (hm : (0 ≤ mn ∧ mn ≤ 16) ∧ (0 ≤ ac ∧ ac ≤ 6)) (hu : 0 < ac → actOk (so (ac - 1)) (nu (ac - 1)) mn) : Met l yX8_undo wsX8_undo ({ frames := 2, cells := 0, slots := 0, locals := 45 } : Room) (zPc D cI cZ [.ref (aR 0)] (wR cI cZ aR xs ys lf ev nm lb kd pt so nu al ak ap he le rw cx cr cl ll tl ts tc sz mn ac en mg ln cn wc wp) sz0) (zQi D cI cZ (wR cI cZ aR xs ys lf ev nm lb kd pt so nu al ak ap he le rw cx cr cl ll tl ts tc sz mn ac en mg ln cn wc wp) sz0 (fun (r : Int) (u : (Int → Int) × (Int → Int) × (Int → Int) × (Int) × (Int)) => zH ((ac = 0 ∧ r = -4 ∧ u.1 = lb ∧ u.2.1 = kd ∧ u.2.2.1 = pt ∧ u.2.2.2.1 = mn ∧ u.2.2.2.2 = 0) ∨ (0 < ac ∧ r = ac - 1 ∧ u.2.2.2.2 = ac - 1 ∧ ((so (ac - 1) = 0 ∧ u.1 = delL lb (nu (ac - 1)) mn ∧ u.2.1 = delL kd (nu (ac - 1)) mn ∧ u.2.2.1 = delP pt (nu (ac - 1)) mn ∧ u.2.2.2.1 = mn - 1) ∨ (so (ac - 1) = 1 ∧ u.1 = insL lb (nu (ac - 1)) mn (al (ac - 1)) ∧ u.2.1 = insL kd (nu (ac - 1)) mn (ak (ac - 1)) ∧ u.2.2.1 = insP pt ap (16 * (ac - 1)) (nu (ac - 1)) mn ∧ u.2.2.2.1 = mn + 1) ∨ (so (ac - 1) = 2 ∧ u.1 = zU lb (nu (ac - 1)) (al (ac - 1)) ∧ u.2.1 = zU kd (nu (ac - 1)) (ak (ac - 1)) ∧ u.2.2.1 = zC ap pt (16 * (ac - 1)) (16 * nu (ac - 1)) 16 ∧ u.2.2.2.1 = mn))))) (fun (u : (Int → Int) × (Int → Int) × (Int → Int) × (Int) × (Int)) => wR cI cZ aR xs ys lf ev nm u.1 u.2.1 u.2.2.1 so nu al ak ap he le rw cx cr cl ll tl ts tc sz u.2.2.2.1 u.2.2.2.2 en mg ln cn wc wp)) 0 0 (va_A (wR cI cZ aR xs ys lf ev nm lb kd pt so nu al ak ap he le rw cx cr cl ll tl ts tc sz mn ac en mg ln cn wc wp) sz0) := by
  refine z_ofI (maxL := 3) (plainFor_of_name (by decide)) rfl (Nat.le_of_ble_eq_true rfl) (Or.inl rfl) ?_
  intro p e s m below meth c A ls Q F hK hW hA hl hret
  have hl : lv_has ls 3 [(0, .ref (aR 0))] := hl
  have inX8 : ∀ w ∈ u_ws RX8 TX8 32, w ∈ wsX8_undo := fun _ h => List.mem_cons_of_mem _ (List.mem_append_right _ h)
  refine z_aloadn F (pc := 0) dX8_undo_0 rfl (lv_at hl 0 rfl) ?_
  refine z_get F (pc := 1) (C := RX8) (T := TX8) (N := 32) (ci := 8) inX8 hK hW 0 10 rfl rfl (by decide) rfl (List.mem_of_getElem? (i := 1) rfl) (v := .int (iI ac)) rfl dX8_undo_1 ?_
  refine z_if_ne F (pc := 4) 10 dX8_undo_4 (by decide) (by omega) (fun c_4 => ?_) (fun c_4 => ?_)
  · skip
    have hao := hu (by omega)
    unfold actOk at hao
    refine z_aloadn F (pc := 10) dX8_undo_10 rfl (lv_at hl 0 rfl) ?_
    refine z_dup F (pc := 11) dX8_undo_11 rfl ?_
    refine z_get F (pc := 12) (C := RX8) (T := TX8) (N := 32) (ci := 8) inX8 hK hW 0 10 rfl rfl (by decide) rfl (List.mem_of_getElem? (i := 1) rfl) (v := .int (iI ac)) rfl dX8_undo_12 ?_
    refine z_iconst F (pc := 15) (1) dX8_undo_15 ?_
    refine z_isub F (pc := 16) dX8_undo_16 ?_
    refine z_put F (pc := 17) (C := RX8) (T := TX8) (N := 32) (ci := 8) inX8 tyX8 tyX8_ok nmX8 hK hW (ws' := wR cI cZ aR xs ys lf ev nm lb kd pt so nu al ak ap he le rw cx cr cl ll tl ts tc sz mn (ac - 1) en mg ln cn wc wp) 0 10 rfl rfl (by decide) rfl (List.mem_of_getElem? (i := 1) rfl) rfl rfl (Nat.le_of_ble_eq_true rfl) dX8_undo_17 rfl (fun H locs hW => ?_)
    refine z_aloadn F (pc := 20) dX8_undo_20 rfl (lv_at hl 0 rfl) ?_
    refine z_get F (pc := 21) (C := RX8) (T := TX8) (N := 32) (ci := 8) inX8 hK hW 0 12 rfl rfl (by decide) rfl (List.mem_of_getElem? (i := 2) rfl) (v := .ref (aR 10)) rfl dX8_undo_21 ?_
    refine z_aloadn F (pc := 24) dX8_undo_24 rfl (lv_at hl 0 rfl) ?_
    refine z_get F (pc := 25) (C := RX8) (T := TX8) (N := 32) (ci := 8) inX8 hK hW 0 10 rfl rfl (by decide) rfl (List.mem_of_getElem? (i := 1) rfl) (v := .int (iI (ac - 1))) rfl dX8_undo_25 ?_
    refine z_iald F (pc := 28) hK hW 10 rfl (by decide) dX8_undo_28 (by omega) ?_
    refine z_istoren F (pc := 29) hl (lv' := [(1, .int (iI (nu (ac - 1)))), (0, .ref (aR 0))]) dX8_undo_29 rfl (by decide) rfl (fun ls hl => ?_)
    refine z_aloadn F (pc := 30) dX8_undo_30 rfl (lv_at hl 1 rfl) ?_
    refine z_get F (pc := 31) (C := RX8) (T := TX8) (N := 32) (ci := 8) inX8 hK hW 0 11 rfl rfl (by decide) rfl (List.mem_of_getElem? (i := 3) rfl) (v := .ref (aR 9)) rfl dX8_undo_31 ?_
    refine z_aloadn F (pc := 34) dX8_undo_34 rfl (lv_at hl 1 rfl) ?_
    refine z_get F (pc := 35) (C := RX8) (T := TX8) (N := 32) (ci := 8) inX8 hK hW 0 10 rfl rfl (by decide) rfl (List.mem_of_getElem? (i := 1) rfl) (v := .int (iI (ac - 1))) rfl dX8_undo_35 ?_
    refine z_iald F (pc := 38) hK hW 9 rfl (by decide) dX8_undo_38 (by omega) ?_
    refine z_if_ne F (pc := 39) 52 dX8_undo_39 (by decide) (by omega) (fun c_39 => ?_) (fun c_39 => ?_)
    · skip
      refine z_aloadn F (pc := 52) dX8_undo_52 rfl (lv_at hl 1 rfl) ?_
      refine z_get F (pc := 53) (C := RX8) (T := TX8) (N := 32) (ci := 8) inX8 hK hW 0 11 rfl rfl (by decide) rfl (List.mem_of_getElem? (i := 3) rfl) (v := .ref (aR 9)) rfl dX8_undo_53 ?_
      refine z_aloadn F (pc := 56) dX8_undo_56 rfl (lv_at hl 1 rfl) ?_
      refine z_get F (pc := 57) (C := RX8) (T := TX8) (N := 32) (ci := 8) inX8 hK hW 0 10 rfl rfl (by decide) rfl (List.mem_of_getElem? (i := 1) rfl) (v := .int (iI (ac - 1))) rfl dX8_undo_57 ?_
      refine z_iald F (pc := 60) hK hW 9 rfl (by decide) dX8_undo_60 (by omega) ?_
      refine z_iconst F (pc := 61) (1) dX8_undo_61 ?_
      refine z_icmp_ne F (pc := 62) 99 dX8_undo_62 (by decide) (by omega) (fun c_62 => ?_) (fun c_62 => ?_)
      · skip
        refine z_aloadn F (pc := 99) dX8_undo_99 rfl (lv_at hl 1 rfl) ?_
        refine z_get F (pc := 100) (C := RX8) (T := TX8) (N := 32) (ci := 8) inX8 hK hW 0 7 rfl rfl (by decide) rfl (List.mem_of_getElem? (i := 5) rfl) (v := .ref (aR 6)) rfl dX8_undo_100 ?_
        refine z_iloadn F (pc := 103) dX8_undo_103 rfl (lv_at hl 0 rfl) ?_
        refine z_aloadn F (pc := 104) dX8_undo_104 rfl (lv_at hl 1 rfl) ?_
        refine z_get F (pc := 105) (C := RX8) (T := TX8) (N := 32) (ci := 8) inX8 hK hW 0 13 rfl rfl (by decide) rfl (List.mem_of_getElem? (i := 6) rfl) (v := .ref (aR 11)) rfl dX8_undo_105 ?_
        refine z_aloadn F (pc := 108) dX8_undo_108 rfl (lv_at hl 1 rfl) ?_
        refine z_get F (pc := 109) (C := RX8) (T := TX8) (N := 32) (ci := 8) inX8 hK hW 0 10 rfl rfl (by decide) rfl (List.mem_of_getElem? (i := 1) rfl) (v := .int (iI (ac - 1))) rfl dX8_undo_109 ?_
        refine z_iald F (pc := 112) hK hW 11 rfl (by decide) dX8_undo_112 (by omega) ?_
        refine z_iast F (pc := 113) hK hW (ws' := wR cI cZ aR xs ys lf ev nm (zU lb (nu (ac - 1)) (al (ac - 1))) kd pt so nu al ak ap he le rw cx cr cl ll tl ts tc sz mn (ac - 1) en mg ln cn wc wp) 6 rfl (by decide) dX8_undo_113 (by omega) rfl (fun H locs hW => ?_)
        refine z_aloadn F (pc := 114) dX8_undo_114 rfl (lv_at hl 1 rfl) ?_
        refine z_get F (pc := 115) (C := RX8) (T := TX8) (N := 32) (ci := 8) inX8 hK hW 0 8 rfl rfl (by decide) rfl (List.mem_of_getElem? (i := 7) rfl) (v := .ref (aR 7)) rfl dX8_undo_115 ?_
        refine z_iloadn F (pc := 118) dX8_undo_118 rfl (lv_at hl 0 rfl) ?_
        refine z_aloadn F (pc := 119) dX8_undo_119 rfl (lv_at hl 1 rfl) ?_
        refine z_get F (pc := 120) (C := RX8) (T := TX8) (N := 32) (ci := 8) inX8 hK hW 0 14 rfl rfl (by decide) rfl (List.mem_of_getElem? (i := 8) rfl) (v := .ref (aR 12)) rfl dX8_undo_120 ?_
        refine z_aloadn F (pc := 123) dX8_undo_123 rfl (lv_at hl 1 rfl) ?_
        refine z_get F (pc := 124) (C := RX8) (T := TX8) (N := 32) (ci := 8) inX8 hK hW 0 10 rfl rfl (by decide) rfl (List.mem_of_getElem? (i := 1) rfl) (v := .int (iI (ac - 1))) rfl dX8_undo_124 ?_
        refine z_iald F (pc := 127) hK hW 12 rfl (by decide) dX8_undo_127 (by omega) ?_
        refine z_iast F (pc := 128) hK hW (ws' := wR cI cZ aR xs ys lf ev nm (zU lb (nu (ac - 1)) (al (ac - 1))) (zU kd (nu (ac - 1)) (ak (ac - 1))) pt so nu al ak ap he le rw cx cr cl ll tl ts tc sz mn (ac - 1) en mg ln cn wc wp) 7 rfl (by decide) dX8_undo_128 (by omega) rfl (fun H locs hW => ?_)
        refine z_iconst F (pc := 129) (0) dX8_undo_129 ?_
        refine z_istoren F (pc := 130) hl (lv' := [(2, .int (iI 0)), (1, .int (iI (nu (ac - 1)))), (0, .ref (aR 0))]) dX8_undo_130 rfl (by decide) rfl (fun ls hl => ?_)
        have cut_131 : ∀ (fuel : Nat) (j : Int) (p4 : Int → Int) (H : Heap) (locs : List Loc) (ls : Array Slot), (16 - j).toNat < fuel → (0 ≤ j ∧ j ≤ 16) → (p4 = zC ap (pt) (16 * (ac - 1)) (16 * nu (ac - 1)) j) → lv_has ls 3 [(2, .int (iI j)), (1, .int (iI (nu (ac - 1)))), (0, .ref (aR 0))] → zW D A s.heap H locs (wR cI cZ aR xs ys lf ev nm (zU lb (nu (ac - 1)) (al (ac - 1))) (zU kd (nu (ac - 1)) (ak (ac - 1))) p4 so nu al ak ap he le rw cx cr cl ll tl ts tc sz mn (ac - 1) en mg ln cn wc wp) → W p l e ({ frames := 2, cells := 0, slots := 0, locals := 45 } : Room) s m ([.ref (aR 0)] : List Value).toArray below meth c H locs 0 0 Q (F0 m 131 ls []) := by
          intro fuel
          induction fuel with
          | zero => intro j p4 H locs ls hm; exact absurd hm (Nat.not_lt_zero _)
          | succ fuel ih_131 =>
            intro j p4 H locs ls hm_131 hr1 hr2 hl hW
            refine z_iloadn F (pc := 131) dX8_undo_131 rfl (lv_at hl 0 rfl) ?_
            refine z_bipush F (pc := 132) (16) (by decide +kernel) dX8_undo_132 ?_
            refine z_icmp_ge F (pc := 134) 168 dX8_undo_134 (by decide) (by omega) (fun c_134 => ?_) (fun c_134 => ?_)
            · skip
              refine z_aloadn F (pc := 168) dX8_undo_168 rfl (lv_at hl 2 rfl) ?_
              refine z_get F (pc := 169) (C := RX8) (T := TX8) (N := 32) (ci := 8) inX8 hK hW 0 10 rfl rfl (by decide) rfl (List.mem_of_getElem? (i := 1) rfl) (v := .int (iI (ac - 1))) rfl dX8_undo_169 ?_
              exact hret _ _ _ _ (ac - 1) ((zU lb (nu (ac - 1)) (al (ac - 1))), (zU kd (nu (ac - 1)) (ak (ac - 1))), p4, mn, (ac - 1)) dX8_undo_172 (by omega) (by (try dsimp only) <;> (first | exact Or.inr ⟨by omega, rfl, rfl, Or.inr (Or.inl ⟨by omega, by rw [hpre.1]; rfl, by rw [hpre.2.1]; rfl, by rw [hr2, hpre.2.2, show j = 16 by omega]; rfl, rfl⟩)⟩ | exact Or.inr ⟨by omega, rfl, rfl, Or.inr (Or.inr ⟨by omega, rfl, rfl, by rw [hr2, show j = 16 by omega], rfl⟩)⟩)) hW
            · skip
              refine z_aloadn F (pc := 137) dX8_undo_137 rfl (lv_at hl 2 rfl) ?_
              refine z_get F (pc := 138) (C := RX8) (T := TX8) (N := 32) (ci := 8) inX8 hK hW 0 9 rfl rfl (by decide) rfl (List.mem_of_getElem? (i := 9) rfl) (v := .ref (aR 8)) rfl dX8_undo_138 ?_
              refine z_bipush F (pc := 141) (16) (by decide +kernel) dX8_undo_141 ?_
              refine z_iloadn F (pc := 143) dX8_undo_143 rfl (lv_at hl 1 rfl) ?_
              refine z_imul F (pc := 144) dX8_undo_144 ?_
              refine z_iloadn F (pc := 145) dX8_undo_145 rfl (lv_at hl 0 rfl) ?_
              refine z_iadd F (pc := 146) dX8_undo_146 ?_
              refine z_aloadn F (pc := 147) dX8_undo_147 rfl (lv_at hl 2 rfl) ?_
              refine z_get F (pc := 148) (C := RX8) (T := TX8) (N := 32) (ci := 8) inX8 hK hW 0 15 rfl rfl (by decide) rfl (List.mem_of_getElem? (i := 10) rfl) (v := .ref (aR 13)) rfl dX8_undo_148 ?_
              refine z_bipush F (pc := 151) (16) (by decide +kernel) dX8_undo_151 ?_
              refine z_aloadn F (pc := 153) dX8_undo_153 rfl (lv_at hl 2 rfl) ?_
              refine z_get F (pc := 154) (C := RX8) (T := TX8) (N := 32) (ci := 8) inX8 hK hW 0 10 rfl rfl (by decide) rfl (List.mem_of_getElem? (i := 1) rfl) (v := .int (iI (ac - 1))) rfl dX8_undo_154 ?_
              refine z_imul F (pc := 157) dX8_undo_157 ?_
              refine z_iloadn F (pc := 158) dX8_undo_158 rfl (lv_at hl 0 rfl) ?_
              refine z_iadd F (pc := 159) dX8_undo_159 ?_
              refine z_iald F (pc := 160) hK hW 13 rfl (by decide) dX8_undo_160 (by omega) ?_
              refine z_iast F (pc := 161) hK hW (ws' := wR cI cZ aR xs ys lf ev nm (zU lb (nu (ac - 1)) (al (ac - 1))) (zU kd (nu (ac - 1)) (ak (ac - 1))) (zU p4 ((16 * (nu (ac - 1))) + j) (ap ((16 * (ac - 1)) + j))) so nu al ak ap he le rw cx cr cl ll tl ts tc sz mn (ac - 1) en mg ln cn wc wp) 8 rfl (by decide) dX8_undo_161 (by omega) rfl (fun H locs hW => ?_)
              refine z_iinc F (pc := 162) hl (lv' := [(2, .int (iI (j + 1))), (1, .int (iI (nu (ac - 1)))), (0, .ref (aR 0))]) dX8_undo_162 (k := 0) rfl (by decide) rfl (fun ls hl => ?_)
              refine z_goto F (pc := 165) 131 dX8_undo_165 (by decide) ?_
              exact ih_131 (j + 1) (zU p4 ((16 * (nu (ac - 1))) + j) (ap ((16 * (ac - 1)) + j))) _ _ _ (by omega) (by omega) (by rw [hr2]; exact zC_s4 _ _ (by omega) (by omega) (by omega) (by omega)) (lv_sub hl [0, 1, 2] rfl) hW
        exact cut_131 _ 0 pt _ _ _ (Nat.lt_succ_self _) (by omega) (by exact (zC_0 _ _ _ _).symm) (lv_sub hl [0, 1, 2] rfl) hW
      · skip
        refine z_aloadn F (pc := 65) dX8_undo_65 rfl (lv_at hl 1 rfl) ?_
        refine z_get F (pc := 66) (C := RX8) (T := TX8) (N := 32) (ci := 8) inX8 hK hW 0 6 rfl rfl (by decide) rfl (List.mem_of_getElem? (i := 4) rfl) (v := .int (iI mn)) rfl dX8_undo_66 ?_
        refine z_istoren F (pc := 69) hl (lv' := [(2, .int (iI mn)), (1, .int (iI (nu (ac - 1)))), (0, .ref (aR 0))]) dX8_undo_69 rfl (by decide) rfl (fun ls hl => ?_)
        have cut_70 : ∀ (fuel : Nat) (i : Int) (l1 : Int → Int) (k1 : Int → Int) (p1 : Int → Int) (H : Heap) (locs : List Loc) (ls : Array Slot), (i - nu (ac - 1)).toNat < fuel → (nu (ac - 1) ≤ i ∧ i ≤ mn) → (l1 = zC lb lb i (i + 1) (mn - i)) → (k1 = zC kd kd i (i + 1) (mn - i)) → (p1 = zC pt pt (16 * i) (16 * (i + 1)) (16 * (mn - i))) → lv_has ls 3 [(2, .int (iI i)), (1, .int (iI (nu (ac - 1)))), (0, .ref (aR 0))] → zW D A s.heap H locs (wR cI cZ aR xs ys lf ev nm l1 k1 p1 so nu al ak ap he le rw cx cr cl ll tl ts tc sz mn (ac - 1) en mg ln cn wc wp) → W p l e ({ frames := 2, cells := 0, slots := 0, locals := 45 } : Room) s m ([.ref (aR 0)] : List Value).toArray below meth c H locs 0 0 Q (F0 m 70 ls []) := by
          intro fuel
          induction fuel with
          | zero => intro i l1 k1 p1 H locs ls hm; exact absurd hm (Nat.not_lt_zero _)
          | succ fuel ih_70 =>
            intro i l1 k1 p1 H locs ls hm_70 h1 h2 h3 h4 hl hW
            refine z_iloadn F (pc := 70) dX8_undo_70 rfl (lv_at hl 0 rfl) ?_
            refine z_iloadn F (pc := 71) dX8_undo_71 rfl (lv_at hl 1 rfl) ?_
            refine z_icmp_le F (pc := 72) 89 dX8_undo_72 (by decide) (by omega) (fun c_72 => ?_) (fun c_72 => ?_)
            · skip
              have ei : i = nu (ac - 1) := by omega
              have hpre : l1 = zC lb lb (nu (ac - 1)) (nu (ac - 1) + 1) (mn - nu (ac - 1)) ∧ k1 = zC kd kd (nu (ac - 1)) (nu (ac - 1) + 1) (mn - nu (ac - 1)) ∧ p1 = zC pt pt (16 * nu (ac - 1)) (16 * (nu (ac - 1) + 1)) (16 * (mn - nu (ac - 1))) := ⟨by rw [h2, ei], by rw [h3, ei], by rw [h4, ei]⟩
              refine z_aloadn F (pc := 89) dX8_undo_89 rfl (lv_at hl 2 rfl) ?_
              refine z_dup F (pc := 90) dX8_undo_90 rfl ?_
              refine z_get F (pc := 91) (C := RX8) (T := TX8) (N := 32) (ci := 8) inX8 hK hW 0 6 rfl rfl (by decide) rfl (List.mem_of_getElem? (i := 4) rfl) (v := .int (iI mn)) rfl dX8_undo_91 ?_
              refine z_iconst F (pc := 94) (1) dX8_undo_94 ?_
              refine z_iadd F (pc := 95) dX8_undo_95 ?_
              refine z_put F (pc := 96) (C := RX8) (T := TX8) (N := 32) (ci := 8) inX8 tyX8 tyX8_ok nmX8 hK hW (ws' := wR cI cZ aR xs ys lf ev nm l1 k1 p1 so nu al ak ap he le rw cx cr cl ll tl ts tc sz (mn + 1) (ac - 1) en mg ln cn wc wp) 0 6 rfl rfl (by decide) rfl (List.mem_of_getElem? (i := 4) rfl) rfl rfl (Nat.le_of_ble_eq_true rfl) dX8_undo_96 rfl (fun H locs hW => ?_)
              refine z_aloadn F (pc := 99) dX8_undo_99 rfl (lv_at hl 2 rfl) ?_
              refine z_get F (pc := 100) (C := RX8) (T := TX8) (N := 32) (ci := 8) inX8 hK hW 0 7 rfl rfl (by decide) rfl (List.mem_of_getElem? (i := 5) rfl) (v := .ref (aR 6)) rfl dX8_undo_100 ?_
              refine z_iloadn F (pc := 103) dX8_undo_103 rfl (lv_at hl 1 rfl) ?_
              refine z_aloadn F (pc := 104) dX8_undo_104 rfl (lv_at hl 2 rfl) ?_
              refine z_get F (pc := 105) (C := RX8) (T := TX8) (N := 32) (ci := 8) inX8 hK hW 0 13 rfl rfl (by decide) rfl (List.mem_of_getElem? (i := 6) rfl) (v := .ref (aR 11)) rfl dX8_undo_105 ?_
              refine z_aloadn F (pc := 108) dX8_undo_108 rfl (lv_at hl 2 rfl) ?_
              refine z_get F (pc := 109) (C := RX8) (T := TX8) (N := 32) (ci := 8) inX8 hK hW 0 10 rfl rfl (by decide) rfl (List.mem_of_getElem? (i := 1) rfl) (v := .int (iI (ac - 1))) rfl dX8_undo_109 ?_
              refine z_iald F (pc := 112) hK hW 11 rfl (by decide) dX8_undo_112 (by omega) ?_
              refine z_iast F (pc := 113) hK hW (ws' := wR cI cZ aR xs ys lf ev nm (zU l1 (nu (ac - 1)) (al (ac - 1))) k1 p1 so nu al ak ap he le rw cx cr cl ll tl ts tc sz (mn + 1) (ac - 1) en mg ln cn wc wp) 6 rfl (by decide) dX8_undo_113 (by omega) rfl (fun H locs hW => ?_)
              refine z_aloadn F (pc := 114) dX8_undo_114 rfl (lv_at hl 2 rfl) ?_
              refine z_get F (pc := 115) (C := RX8) (T := TX8) (N := 32) (ci := 8) inX8 hK hW 0 8 rfl rfl (by decide) rfl (List.mem_of_getElem? (i := 7) rfl) (v := .ref (aR 7)) rfl dX8_undo_115 ?_
              refine z_iloadn F (pc := 118) dX8_undo_118 rfl (lv_at hl 1 rfl) ?_
              refine z_aloadn F (pc := 119) dX8_undo_119 rfl (lv_at hl 2 rfl) ?_
              refine z_get F (pc := 120) (C := RX8) (T := TX8) (N := 32) (ci := 8) inX8 hK hW 0 14 rfl rfl (by decide) rfl (List.mem_of_getElem? (i := 8) rfl) (v := .ref (aR 12)) rfl dX8_undo_120 ?_
              refine z_aloadn F (pc := 123) dX8_undo_123 rfl (lv_at hl 2 rfl) ?_
              refine z_get F (pc := 124) (C := RX8) (T := TX8) (N := 32) (ci := 8) inX8 hK hW 0 10 rfl rfl (by decide) rfl (List.mem_of_getElem? (i := 1) rfl) (v := .int (iI (ac - 1))) rfl dX8_undo_124 ?_
              refine z_iald F (pc := 127) hK hW 12 rfl (by decide) dX8_undo_127 (by omega) ?_
              refine z_iast F (pc := 128) hK hW (ws' := wR cI cZ aR xs ys lf ev nm (zU l1 (nu (ac - 1)) (al (ac - 1))) (zU k1 (nu (ac - 1)) (ak (ac - 1))) p1 so nu al ak ap he le rw cx cr cl ll tl ts tc sz (mn + 1) (ac - 1) en mg ln cn wc wp) 7 rfl (by decide) dX8_undo_128 (by omega) rfl (fun H locs hW => ?_)
              refine z_iconst F (pc := 129) (0) dX8_undo_129 ?_
              refine z_istoren F (pc := 130) hl (lv' := [(2, .int (iI 0)), (1, .int (iI (nu (ac - 1)))), (0, .ref (aR 0))]) dX8_undo_130 rfl (by decide) rfl (fun ls hl => ?_)
              have cut_131 : ∀ (fuel : Nat) (j : Int) (p4 : Int → Int) (H : Heap) (locs : List Loc) (ls : Array Slot), (16 - j).toNat < fuel → (0 ≤ j ∧ j ≤ 16) → (p4 = zC ap (p1) (16 * (ac - 1)) (16 * nu (ac - 1)) j) → lv_has ls 3 [(2, .int (iI j)), (1, .int (iI (nu (ac - 1)))), (0, .ref (aR 0))] → zW D A s.heap H locs (wR cI cZ aR xs ys lf ev nm (zU l1 (nu (ac - 1)) (al (ac - 1))) (zU k1 (nu (ac - 1)) (ak (ac - 1))) p4 so nu al ak ap he le rw cx cr cl ll tl ts tc sz (mn + 1) (ac - 1) en mg ln cn wc wp) → W p l e ({ frames := 2, cells := 0, slots := 0, locals := 45 } : Room) s m ([.ref (aR 0)] : List Value).toArray below meth c H locs 0 0 Q (F0 m 131 ls []) := by
                intro fuel
                induction fuel with
                | zero => intro j p4 H locs ls hm; exact absurd hm (Nat.not_lt_zero _)
                | succ fuel ih_131 =>
                  intro j p4 H locs ls hm_131 hr1 hr2 hl hW
                  refine z_iloadn F (pc := 131) dX8_undo_131 rfl (lv_at hl 0 rfl) ?_
                  refine z_bipush F (pc := 132) (16) (by decide +kernel) dX8_undo_132 ?_
                  refine z_icmp_ge F (pc := 134) 168 dX8_undo_134 (by decide) (by omega) (fun c_134 => ?_) (fun c_134 => ?_)
                  · skip
                    refine z_aloadn F (pc := 168) dX8_undo_168 rfl (lv_at hl 2 rfl) ?_
                    refine z_get F (pc := 169) (C := RX8) (T := TX8) (N := 32) (ci := 8) inX8 hK hW 0 10 rfl rfl (by decide) rfl (List.mem_of_getElem? (i := 1) rfl) (v := .int (iI (ac - 1))) rfl dX8_undo_169 ?_
                    exact hret _ _ _ _ (ac - 1) ((zU l1 (nu (ac - 1)) (al (ac - 1))), (zU k1 (nu (ac - 1)) (ak (ac - 1))), p4, (mn + 1), (ac - 1)) dX8_undo_172 (by omega) (by (try dsimp only) <;> (first | exact Or.inr ⟨by omega, rfl, rfl, Or.inr (Or.inl ⟨by omega, by rw [hpre.1]; rfl, by rw [hpre.2.1]; rfl, by rw [hr2, hpre.2.2, show j = 16 by omega]; rfl, rfl⟩)⟩ | exact Or.inr ⟨by omega, rfl, rfl, Or.inr (Or.inr ⟨by omega, rfl, rfl, by rw [hr2, show j = 16 by omega], rfl⟩)⟩)) hW
                  · skip
                    refine z_aloadn F (pc := 137) dX8_undo_137 rfl (lv_at hl 2 rfl) ?_
                    refine z_get F (pc := 138) (C := RX8) (T := TX8) (N := 32) (ci := 8) inX8 hK hW 0 9 rfl rfl (by decide) rfl (List.mem_of_getElem? (i := 9) rfl) (v := .ref (aR 8)) rfl dX8_undo_138 ?_
                    refine z_bipush F (pc := 141) (16) (by decide +kernel) dX8_undo_141 ?_
                    refine z_iloadn F (pc := 143) dX8_undo_143 rfl (lv_at hl 1 rfl) ?_
                    refine z_imul F (pc := 144) dX8_undo_144 ?_
                    refine z_iloadn F (pc := 145) dX8_undo_145 rfl (lv_at hl 0 rfl) ?_
                    refine z_iadd F (pc := 146) dX8_undo_146 ?_
                    refine z_aloadn F (pc := 147) dX8_undo_147 rfl (lv_at hl 2 rfl) ?_
                    refine z_get F (pc := 148) (C := RX8) (T := TX8) (N := 32) (ci := 8) inX8 hK hW 0 15 rfl rfl (by decide) rfl (List.mem_of_getElem? (i := 10) rfl) (v := .ref (aR 13)) rfl dX8_undo_148 ?_
                    refine z_bipush F (pc := 151) (16) (by decide +kernel) dX8_undo_151 ?_
                    refine z_aloadn F (pc := 153) dX8_undo_153 rfl (lv_at hl 2 rfl) ?_
                    refine z_get F (pc := 154) (C := RX8) (T := TX8) (N := 32) (ci := 8) inX8 hK hW 0 10 rfl rfl (by decide) rfl (List.mem_of_getElem? (i := 1) rfl) (v := .int (iI (ac - 1))) rfl dX8_undo_154 ?_
                    refine z_imul F (pc := 157) dX8_undo_157 ?_
                    refine z_iloadn F (pc := 158) dX8_undo_158 rfl (lv_at hl 0 rfl) ?_
                    refine z_iadd F (pc := 159) dX8_undo_159 ?_
                    refine z_iald F (pc := 160) hK hW 13 rfl (by decide) dX8_undo_160 (by omega) ?_
                    refine z_iast F (pc := 161) hK hW (ws' := wR cI cZ aR xs ys lf ev nm (zU l1 (nu (ac - 1)) (al (ac - 1))) (zU k1 (nu (ac - 1)) (ak (ac - 1))) (zU p4 ((16 * (nu (ac - 1))) + j) (ap ((16 * (ac - 1)) + j))) so nu al ak ap he le rw cx cr cl ll tl ts tc sz (mn + 1) (ac - 1) en mg ln cn wc wp) 8 rfl (by decide) dX8_undo_161 (by omega) rfl (fun H locs hW => ?_)
                    refine z_iinc F (pc := 162) hl (lv' := [(2, .int (iI (j + 1))), (1, .int (iI (nu (ac - 1)))), (0, .ref (aR 0))]) dX8_undo_162 (k := 0) rfl (by decide) rfl (fun ls hl => ?_)
                    refine z_goto F (pc := 165) 131 dX8_undo_165 (by decide) ?_
                    exact ih_131 (j + 1) (zU p4 ((16 * (nu (ac - 1))) + j) (ap ((16 * (ac - 1)) + j))) _ _ _ (by omega) (by omega) (by rw [hr2]; exact zC_s4 _ _ (by omega) (by omega) (by omega) (by omega)) (lv_sub hl [0, 1, 2] rfl) hW
              exact cut_131 _ 0 p1 _ _ _ (Nat.lt_succ_self _) (by omega) (by exact (zC_0 _ _ _ _).symm) (lv_sub hl [0, 1, 2] rfl) hW
            · skip
              refine z_aloadn F (pc := 75) dX8_undo_75 rfl (lv_at hl 2 rfl) ?_
              refine z_iloadn F (pc := 76) dX8_undo_76 rfl (lv_at hl 0 rfl) ?_
              refine z_iconst F (pc := 77) (1) dX8_undo_77 ?_
              refine z_isub F (pc := 78) dX8_undo_78 ?_
              refine z_iloadn F (pc := 79) dX8_undo_79 rfl (lv_at hl 0 rfl) ?_
              refine z_callVv F (pc := 80) hK hW hA (As := [.int (iI (i - 1)), .int (iI i)]) (rest := []) (ws' := fun (u : (Int → Int) × (Int → Int) × (Int → Int)) => wR cI cZ aR xs ys lf ev nm u.1 u.2.1 u.2.2 so nu al ak ap he le rw cx cr cl ll tl ts tc sz mn (ac - 1) en mg ln cn wc wp) (wr := ([])) (c_X8_moves l D cI cZ aR xs ys lf ev nm l1 k1 p1 so nu al ak ap he le rw cx cr cl ll tl ts tc sz mn (ac - 1) en mg ln cn wc wp (i - 1) i _ (by omega) (by omega) (by omega)) (cwV 2 F.2.2.2.2 gX8_undo_X8_moves rfl rfl rfl (by decide +kernel) ⟨Nat.le_of_ble_eq_true rfl, Nat.le_of_ble_eq_true rfl⟩) [0, 1, 2, 3, 4, 5, 6, 7, 8, 9, 10, 11, 12, 13, 14, 15, 16, 17, 18, 19, 20, 21, 22, 23] [] [0, 1, 2, 3, 4, 5, 6, 7, 8, 9, 10, 11, 12, 13, 14, 15, 16, 17, 18, 19, 20, 21, 22, 23] rfl rfl (by decide) (by decide) (by decide) (fun _ => rfl) (by decide) (q0 := 0) (ci := 8) rfl rfl rfl rfl rfl hl.1 (Nat.le_of_ble_eq_true rfl) dX8_undo_80 ⟨Nat.le_of_ble_eq_true rfl, Nat.le_of_ble_eq_true rfl⟩ (fun u H locs hp_80 hW => ?_)
              obtain ⟨lb2_80, kd2_80, pt2_80⟩ := u
              dsimp only at hp_80 hW
              refine z_iinc F (pc := 83) hl (lv' := [(2, .int (iI (i + (-1)))), (1, .int (iI (nu (ac - 1)))), (0, .ref (aR 0))]) dX8_undo_83 (k := 0) rfl (by decide) rfl (fun ls hl => ?_)
              refine z_goto F (pc := 86) 70 dX8_undo_86 (by decide) ?_
              exact ih_70 (i + (-1)) lb2_80 kd2_80 pt2_80 _ _ _ (by omega) (by omega) (by rw [hp_80.1, h2, zC_dn _ h1.2]; congr 1 <;> omega) (by rw [hp_80.2.1, h3, zC_dn _ h1.2]; congr 1 <;> omega) (by rw [hp_80.2.2, h4, zC_dnP _ h1.2]; congr 1 <;> omega) (lv_sub hl [0, 1, 2] rfl) hW
        exact cut_70 _ mn lb kd pt _ _ _ (Nat.lt_succ_self _) (by omega) (by rw [Int.sub_self]; exact (zC_0 _ _ _ _).symm) (by rw [Int.sub_self]; exact (zC_0 _ _ _ _).symm) (by rw [Int.sub_self]; exact (zC_0 _ _ _ _).symm) (lv_sub hl [0, 1, 2] rfl) hW
    · skip
      refine z_aloadn F (pc := 42) dX8_undo_42 rfl (lv_at hl 1 rfl) ?_
      refine z_iloadn F (pc := 43) dX8_undo_43 rfl (lv_at hl 0 rfl) ?_
      refine z_callVv F (pc := 44) hK hW hA (As := [.int (iI (nu (ac - 1)))]) (rest := []) (ws' := fun (u : (Int → Int) × (Int → Int) × (Int → Int) × (Int)) => wR cI cZ aR xs ys lf ev nm u.1 u.2.1 u.2.2.1 so nu al ak ap he le rw cx cr cl ll tl ts tc sz u.2.2.2 (ac - 1) en mg ln cn wc wp) (wr := ([])) (c_X8_goes l D cI cZ aR xs ys lf ev nm lb kd pt so nu al ak ap he le rw cx cr cl ll tl ts tc sz mn (ac - 1) en mg ln cn wc wp (nu (ac - 1)) _ (by omega) (by omega) (by omega)) (cwV 1 F.2.2.2.2 gX8_undo_X8_goes rfl rfl rfl (by decide +kernel) ⟨Nat.le_of_ble_eq_true rfl, Nat.le_of_ble_eq_true rfl⟩) [0, 1, 2, 3, 4, 5, 6, 7, 8, 9, 10, 11, 12, 13, 14, 15, 16, 17, 18, 19, 20, 21, 22, 23] [] [0, 1, 2, 3, 4, 5, 6, 7, 8, 9, 10, 11, 12, 13, 14, 15, 16, 17, 18, 19, 20, 21, 22, 23] rfl rfl (by decide) (by decide) (by decide) (fun _ => rfl) (by decide) (q0 := 0) (ci := 8) rfl rfl rfl rfl rfl hl.1 (Nat.le_of_ble_eq_true rfl) dX8_undo_44 ⟨Nat.le_of_ble_eq_true rfl, Nat.le_of_ble_eq_true rfl⟩ (fun u H locs hp_44 hW => ?_)
      obtain ⟨lb2_44, kd2_44, pt2_44, mn2_44⟩ := u
      dsimp only at hp_44 hW
      refine z_aloadn F (pc := 47) dX8_undo_47 rfl (lv_at hl 1 rfl) ?_
      refine z_get F (pc := 48) (C := RX8) (T := TX8) (N := 32) (ci := 8) inX8 hK hW 0 10 rfl rfl (by decide) rfl (List.mem_of_getElem? (i := 1) rfl) (v := .int (iI (ac - 1))) rfl dX8_undo_48 ?_
      exact hret _ _ _ _ (ac - 1) (lb2_44, kd2_44, pt2_44, mn2_44, (ac - 1)) dX8_undo_51 (by omega) (by (try dsimp only) <;> (exact Or.inr ⟨by omega, rfl, rfl, Or.inl ⟨by omega, hp_44.1, hp_44.2.1, hp_44.2.2.1, hp_44.2.2.2⟩⟩)) hW
  · skip
    refine z_bipush F (pc := 7) (-4) (by decide +kernel) dX8_undo_7 ?_
    exact hret _ _ _ _ (-4) (lb, kd, pt, mn, ac) dX8_undo_9 (by omega) (by (try dsimp only) <;> (exact Or.inl ⟨by omega, rfl, rfl, rfl, rfl, rfl, by omega⟩)) hW
