theorem zC_s3 (f : Int → Int) {sp dp n p q n2 : Int} (h : 0 ≤ n) (hp : p = dp + n) (hq : q = sp + n) (hn : n2 = n + 1) (hr : ¬ (dp ≤ q ∧ q < dp + n)) : zU (zC f f sp dp n) p (zC f f sp dp n q) = zC f f sp dp n2 := by
  rw [zC_out _ _ hr, hp, hq, hn]
  exact zC_s f f sp dp n h
theorem zC_s4 (f g : Int → Int) {sp dp n p q n2 : Int} (h : 0 ≤ n) (hp : p = dp + n) (hq : q = sp + n) (hn : n2 = n + 1) : zU (zC f g sp dp n) p (f q) = zC f g sp dp n2 := by
  rw [hp, hq, hn]
  exact zC_s f g sp dp n h
def insL (f : Int → Int) (k n v : Int) : Int → Int := zU (zC f f k (k + 1) (n - k)) k v
def insP (f g : Int → Int) (fr k n : Int) : Int → Int := zC g (zC f f (16 * k) (16 * (k + 1)) (16 * (n - k))) fr (16 * k) 16
def delL (f : Int → Int) (k n : Int) : Int → Int := zC f f (k + 1) k (n - 1 - k)
def delP (f : Int → Int) (k n : Int) : Int → Int := zC f f (16 * (k + 1)) (16 * k) (16 * (n - 1 - k))
theorem c16 (a : Int) : a * 16 = 16 * a := Int.mul_comm a 16

set_option maxHeartbeats 4000000 in
set_option maxRecDepth 100000 in
theorem c_X6_has (l : Launch) (D : va_G) (cI cZ : ClassId) (aM : Nat → Nat) (lb kd pt : Int → Int) (mn : Int) (k : Int) (sz0 : Nat) (r_k : (-2147483648 ≤ k ∧ k < 2147483648)) (hm : 0 ≤ mn ∧ mn ≤ 16) : Met l yX6_has wsX6_has ({ frames := 0, cells := 0, slots := 0, locals := 0 } : Room) (zPc D cI cZ [.ref (aM 0), .int (iI k)] (wM cI cZ aM lb kd pt mn) sz0) (zQi D cI cZ (wM cI cZ aM lb kd pt mn) sz0 (fun (r : Int) (u : Unit) => zB r (0 ≤ k ∧ k < mn)) (fun (u : Unit) => wM cI cZ aM lb kd pt mn)) 0 0 (va_A (wM cI cZ aM lb kd pt mn) sz0) := by
  refine z_ofI (maxL := 2) (plainFor_of_name (by decide)) rfl (Nat.le_of_ble_eq_true rfl) (Or.inr ⟨rfl, fun z u h => zB_01 h⟩) ?_
  intro p e s m below meth c A ls Q F hK hW hA hl hret
  have hl : lv_has ls 2 [(0, .ref (aM 0)), (1, .int (iI k))] := hl
  have inX6 : ∀ w ∈ u_ws RX6 TX6 4, w ∈ wsX6_has := fun _ h => List.mem_cons_of_mem _ (List.mem_append_right _ h)
  refine z_iloadn F (pc := 0) dX6_has_0 rfl (lv_at hl 1 rfl) ?_
  refine z_if_lt F (pc := 1) 16 dX6_has_1 (by decide) (by omega) (fun c_1 => ?_) (fun c_1 => ?_)
  · skip
    refine z_iconst F (pc := 16) (0) dX6_has_16 ?_
    exact hret _ _ _ _ 0 () dX6_has_17 (by omega) (by first | exact zB_1 (by omega) | exact zB_0 (by omega)) hW
  · skip
    refine z_iloadn F (pc := 4) dX6_has_4 rfl (lv_at hl 1 rfl) ?_
    refine z_aloadn F (pc := 5) dX6_has_5 rfl (lv_at hl 0 rfl) ?_
    refine z_get F (pc := 6) (C := RX6) (T := TX6) (N := 4) (ci := 6) inX6 hK hW 0 3 rfl rfl (by decide) rfl (List.mem_of_getElem? (i := 1) rfl) (v := .int (iI mn)) rfl dX6_has_6 ?_
    refine z_icmp_ge F (pc := 9) 16 dX6_has_9 (by decide) (by omega) (fun c_9 => ?_) (fun c_9 => ?_)
    · skip
      refine z_iconst F (pc := 16) (0) dX6_has_16 ?_
      exact hret _ _ _ _ 0 () dX6_has_17 (by omega) (by first | exact zB_1 (by omega) | exact zB_0 (by omega)) hW
    · skip
      refine z_iconst F (pc := 12) (1) dX6_has_12 ?_
      refine z_goto F (pc := 13) 17 dX6_has_13 (by decide) ?_
      exact hret _ _ _ _ 1 () dX6_has_17 (by omega) (by first | exact zB_1 (by omega) | exact zB_0 (by omega)) hW

set_option maxHeartbeats 4000000 in
set_option maxRecDepth 100000 in
theorem c_X6_insertD (l : Launch) (D : va_G) (cI cZ : ClassId) (aM aD : Nat → Nat) (lb kd pt xs ys lf ev nm : Int → Int) (mn sz : Int) (k v w fr : Int) (sz0 : Nat) (r_k : (-2147483648 ≤ k ∧ k < 2147483648)) (r_v : (-2147483648 ≤ v ∧ v < 2147483648)) (r_w : (-2147483648 ≤ w ∧ w < 2147483648)) (r_fr : (-2147483648 ≤ fr ∧ fr < 2147483648)) (hm : 0 ≤ mn ∧ mn < 16) (hk : 0 ≤ k ∧ k ≤ mn) (hf : 0 ≤ fr ∧ fr + 16 ≤ 16) : Met l yX6_insert wsX6_insert ({ frames := 1, cells := 0, slots := 0, locals := 40 } : Room) (zPc D cI cZ [.ref (aM 0), .int (iI k), .int (iI v), .int (iI w), .ref (aD 5), .int (iI fr)] (wM cI cZ aM lb kd pt mn ++ wD cI cZ aD xs ys lf ev nm sz) sz0) (zQv D cI cZ (wM cI cZ aM lb kd pt mn ++ wD cI cZ aD xs ys lf ev nm sz) sz0 (fun (u : (Int → Int) × (Int → Int) × (Int → Int) × (Int)) => u.1 = insL lb k mn v ∧ u.2.1 = insL kd k mn w ∧ u.2.2.1 = insP pt nm fr k mn ∧ u.2.2.2 = mn + 1) (fun (u : (Int → Int) × (Int → Int) × (Int → Int) × (Int)) => wM cI cZ aM u.1 u.2.1 u.2.2.1 u.2.2.2 ++ wD cI cZ aD xs ys lf ev nm sz)) 0 0 (va_A (wM cI cZ aM lb kd pt mn ++ wD cI cZ aD xs ys lf ev nm sz) sz0) := by
  refine z_ofV (maxL := 7) (plainFor_of_name (by decide)) rfl (Nat.le_of_ble_eq_true rfl) ?_
  intro p e s m below meth c A ls Q F hK hW hA hl hret
  have hl : lv_has ls 7 [(0, .ref (aM 0)), (1, .int (iI k)), (2, .int (iI v)), (3, .int (iI w)), (4, .ref (aD 5)), (5, .int (iI fr))] := hl
  have inX6 : ∀ w ∈ u_ws RX6 TX6 4, w ∈ wsX6_insert := fun _ h => List.mem_cons_of_mem _ (List.mem_append_right _ h)
  refine z_iloadn F (pc := 0) dX6_insert_0 rfl (lv_at hl 1 rfl) ?_
  refine z_if_lt F (pc := 1) 37 dX6_insert_1 (by decide) (by omega) (fun c_1 => ?_) (fun c_1 => ?_)
  · skip
    exact absurd c_1 (by omega)
  · skip
    refine z_iloadn F (pc := 4) dX6_insert_4 rfl (lv_at hl 1 rfl) ?_
    refine z_aloadn F (pc := 5) dX6_insert_5 rfl (lv_at hl 0 rfl) ?_
    refine z_get F (pc := 6) (C := RX6) (T := TX6) (N := 4) (ci := 6) inX6 hK hW 0 3 rfl rfl (by decide) rfl (List.mem_of_getElem? (i := 1) rfl) (v := .int (iI mn)) rfl dX6_insert_6 ?_
    refine z_icmp_gt F (pc := 9) 37 dX6_insert_9 (by decide) (by omega) (fun c_9 => ?_) (fun c_9 => ?_)
    · skip
      exact absurd c_9 (by omega)
    · skip
      refine z_aloadn F (pc := 12) dX6_insert_12 rfl (lv_at hl 0 rfl) ?_
      refine z_get F (pc := 13) (C := RX6) (T := TX6) (N := 4) (ci := 6) inX6 hK hW 0 3 rfl rfl (by decide) rfl (List.mem_of_getElem? (i := 1) rfl) (v := .int (iI mn)) rfl dX6_insert_13 ?_
      refine z_bipush F (pc := 16) (16) (by decide +kernel) dX6_insert_16 ?_
      refine z_icmp_ge F (pc := 18) 37 dX6_insert_18 (by decide) (by omega) (fun c_18 => ?_) (fun c_18 => ?_)
      · skip
        exact absurd c_18 (by omega)
      · skip
        refine z_iload F (pc := 21) dX6_insert_21 (lv_at hl 5 rfl) ?_
        refine z_if_lt F (pc := 23) 37 dX6_insert_23 (by decide) (by omega) (fun c_23 => ?_) (fun c_23 => ?_)
        · skip
          exact absurd c_23 (by omega)
        · skip
          refine z_iload F (pc := 26) dX6_insert_26 (lv_at hl 5 rfl) ?_
          refine z_aload F (pc := 28) dX6_insert_28 (lv_at hl 4 rfl) ?_
          refine z_alen F (pc := 30) hK hW 9 rfl dX6_insert_30 ?_
          refine z_bipush F (pc := 31) (16) (by decide +kernel) dX6_insert_31 ?_
          refine z_isub F (pc := 33) dX6_insert_33 ?_
          refine z_icmp_le F (pc := 34) 38 dX6_insert_34 (by decide) (by omega) (fun c_34 => ?_) (fun c_34 => ?_)
          · skip
            refine z_aloadn F (pc := 38) dX6_insert_38 rfl (lv_at hl 0 rfl) ?_
            refine z_get F (pc := 39) (C := RX6) (T := TX6) (N := 4) (ci := 6) inX6 hK hW 0 3 rfl rfl (by decide) rfl (List.mem_of_getElem? (i := 1) rfl) (v := .int (iI mn)) rfl dX6_insert_39 ?_
            refine z_iloadn F (pc := 42) dX6_insert_42 rfl (lv_at hl 1 rfl) ?_
            refine z_isub F (pc := 43) dX6_insert_43 ?_
            refine z_istore F (pc := 44) hl (lv' := [(6, .int (iI (mn - k))), (0, .ref (aM 0)), (1, .int (iI k)), (2, .int (iI v)), (3, .int (iI w)), (4, .ref (aD 5)), (5, .int (iI fr))]) dX6_insert_44 (by decide) rfl (fun ls hl => ?_)
            refine z_aloadn F (pc := 46) dX6_insert_46 rfl (lv_at hl 1 rfl) ?_
            refine z_get F (pc := 47) (C := RX6) (T := TX6) (N := 4) (ci := 6) inX6 hK hW 0 0 rfl rfl (by decide) rfl (List.mem_of_getElem? (i := 2) rfl) (v := .ref (aM 1)) rfl dX6_insert_47 ?_
            refine z_iloadn F (pc := 50) dX6_insert_50 rfl (lv_at hl 2 rfl) ?_
            refine z_aloadn F (pc := 51) dX6_insert_51 rfl (lv_at hl 1 rfl) ?_
            refine z_get F (pc := 52) (C := RX6) (T := TX6) (N := 4) (ci := 6) inX6 hK hW 0 0 rfl rfl (by decide) rfl (List.mem_of_getElem? (i := 2) rfl) (v := .ref (aM 1)) rfl dX6_insert_52 ?_
            refine z_iloadn F (pc := 55) dX6_insert_55 rfl (lv_at hl 2 rfl) ?_
            refine z_iconst F (pc := 56) (1) dX6_insert_56 ?_
            refine z_iadd F (pc := 57) dX6_insert_57 ?_
            refine z_iload F (pc := 58) dX6_insert_58 (lv_at hl 0 rfl) ?_
            refine z_copyi F (pc := 60) hK hW hl.1 (ws' := wM cI cZ aM (zC lb lb k (k + 1) (mn - k)) kd pt mn ++ wD cI cZ aD xs ys lf ev nm sz) (List.mem_of_getElem? (i := 3) rfl) (List.mem_of_getElem? (i := 4) rfl) (List.mem_of_getElem? (i := 5) rfl) (List.mem_of_getElem? (i := 6) rfl) 1 1 rfl rfl (Nat.le_of_ble_eq_true rfl) (Nat.le_of_ble_eq_true rfl) dX6_insert_60 (by decide) (by omega) rfl (fun H locs hW => ?_)
            refine z_aloadn F (pc := 63) dX6_insert_63 rfl (lv_at hl 1 rfl) ?_
            refine z_get F (pc := 64) (C := RX6) (T := TX6) (N := 4) (ci := 6) inX6 hK hW 0 1 rfl rfl (by decide) rfl (List.mem_of_getElem? (i := 7) rfl) (v := .ref (aM 2)) rfl dX6_insert_64 ?_
            refine z_iloadn F (pc := 67) dX6_insert_67 rfl (lv_at hl 2 rfl) ?_
            refine z_aloadn F (pc := 68) dX6_insert_68 rfl (lv_at hl 1 rfl) ?_
            refine z_get F (pc := 69) (C := RX6) (T := TX6) (N := 4) (ci := 6) inX6 hK hW 0 1 rfl rfl (by decide) rfl (List.mem_of_getElem? (i := 7) rfl) (v := .ref (aM 2)) rfl dX6_insert_69 ?_
            refine z_iloadn F (pc := 72) dX6_insert_72 rfl (lv_at hl 2 rfl) ?_
            refine z_iconst F (pc := 73) (1) dX6_insert_73 ?_
            refine z_iadd F (pc := 74) dX6_insert_74 ?_
            refine z_iload F (pc := 75) dX6_insert_75 (lv_at hl 0 rfl) ?_
            refine z_copyi F (pc := 77) hK hW hl.1 (ws' := wM cI cZ aM (zC lb lb k (k + 1) (mn - k)) (zC kd kd k (k + 1) (mn - k)) pt mn ++ wD cI cZ aD xs ys lf ev nm sz) (List.mem_of_getElem? (i := 3) rfl) (List.mem_of_getElem? (i := 4) rfl) (List.mem_of_getElem? (i := 5) rfl) (List.mem_of_getElem? (i := 6) rfl) 2 2 rfl rfl (Nat.le_of_ble_eq_true rfl) (Nat.le_of_ble_eq_true rfl) dX6_insert_77 (by decide) (by omega) rfl (fun H locs hW => ?_)
            refine z_aloadn F (pc := 80) dX6_insert_80 rfl (lv_at hl 1 rfl) ?_
            refine z_get F (pc := 81) (C := RX6) (T := TX6) (N := 4) (ci := 6) inX6 hK hW 0 2 rfl rfl (by decide) rfl (List.mem_of_getElem? (i := 8) rfl) (v := .ref (aM 3)) rfl dX6_insert_81 ?_
            refine z_iloadn F (pc := 84) dX6_insert_84 rfl (lv_at hl 2 rfl) ?_
            refine z_bipush F (pc := 85) (16) (by decide +kernel) dX6_insert_85 ?_
            refine z_imul F (pc := 87) dX6_insert_87 ?_
            refine z_aloadn F (pc := 88) dX6_insert_88 rfl (lv_at hl 1 rfl) ?_
            refine z_get F (pc := 89) (C := RX6) (T := TX6) (N := 4) (ci := 6) inX6 hK hW 0 2 rfl rfl (by decide) rfl (List.mem_of_getElem? (i := 8) rfl) (v := .ref (aM 3)) rfl dX6_insert_89 ?_
            refine z_iloadn F (pc := 92) dX6_insert_92 rfl (lv_at hl 2 rfl) ?_
            refine z_iconst F (pc := 93) (1) dX6_insert_93 ?_
            refine z_iadd F (pc := 94) dX6_insert_94 ?_
            refine z_bipush F (pc := 95) (16) (by decide +kernel) dX6_insert_95 ?_
            refine z_imul F (pc := 97) dX6_insert_97 ?_
            refine z_iload F (pc := 98) dX6_insert_98 (lv_at hl 0 rfl) ?_
            refine z_bipush F (pc := 100) (16) (by decide +kernel) dX6_insert_100 ?_
            refine z_imul F (pc := 102) dX6_insert_102 ?_
            refine z_copyi F (pc := 103) hK hW hl.1 (ws' := wM cI cZ aM (zC lb lb k (k + 1) (mn - k)) (zC kd kd k (k + 1) (mn - k)) (zC pt pt (k * 16) ((k + 1) * 16) ((mn - k) * 16)) mn ++ wD cI cZ aD xs ys lf ev nm sz) (List.mem_of_getElem? (i := 3) rfl) (List.mem_of_getElem? (i := 4) rfl) (List.mem_of_getElem? (i := 5) rfl) (List.mem_of_getElem? (i := 6) rfl) 3 3 rfl rfl (Nat.le_of_ble_eq_true rfl) (Nat.le_of_ble_eq_true rfl) dX6_insert_103 (by decide) (by omega) rfl (fun H locs hW => ?_)
            refine z_aload F (pc := 106) dX6_insert_106 (lv_at hl 5 rfl) ?_
            refine z_iload F (pc := 108) dX6_insert_108 (lv_at hl 6 rfl) ?_
            refine z_aloadn F (pc := 110) dX6_insert_110 rfl (lv_at hl 1 rfl) ?_
            refine z_get F (pc := 111) (C := RX6) (T := TX6) (N := 4) (ci := 6) inX6 hK hW 0 2 rfl rfl (by decide) rfl (List.mem_of_getElem? (i := 8) rfl) (v := .ref (aM 3)) rfl dX6_insert_111 ?_
            refine z_iloadn F (pc := 114) dX6_insert_114 rfl (lv_at hl 2 rfl) ?_
            refine z_bipush F (pc := 115) (16) (by decide +kernel) dX6_insert_115 ?_
            refine z_imul F (pc := 117) dX6_insert_117 ?_
            refine z_bipush F (pc := 118) (16) (by decide +kernel) dX6_insert_118 ?_
            refine z_copyi F (pc := 120) hK hW hl.1 (ws' := wM cI cZ aM (zC lb lb k (k + 1) (mn - k)) (zC kd kd k (k + 1) (mn - k)) (zC nm (zC pt pt (k * 16) ((k + 1) * 16) ((mn - k) * 16)) fr (k * 16) 16) mn ++ wD cI cZ aD xs ys lf ev nm sz) (List.mem_of_getElem? (i := 3) rfl) (List.mem_of_getElem? (i := 4) rfl) (List.mem_of_getElem? (i := 5) rfl) (List.mem_of_getElem? (i := 6) rfl) 9 3 rfl rfl (Nat.le_of_ble_eq_true rfl) (Nat.le_of_ble_eq_true rfl) dX6_insert_120 (by decide) (by omega) rfl (fun H locs hW => ?_)
            refine z_aloadn F (pc := 123) dX6_insert_123 rfl (lv_at hl 1 rfl) ?_
            refine z_get F (pc := 124) (C := RX6) (T := TX6) (N := 4) (ci := 6) inX6 hK hW 0 0 rfl rfl (by decide) rfl (List.mem_of_getElem? (i := 2) rfl) (v := .ref (aM 1)) rfl dX6_insert_124 ?_
            refine z_iloadn F (pc := 127) dX6_insert_127 rfl (lv_at hl 2 rfl) ?_
            refine z_iloadn F (pc := 128) dX6_insert_128 rfl (lv_at hl 3 rfl) ?_
            refine z_iast F (pc := 129) hK hW (ws' := wM cI cZ aM (zU (zC lb lb k (k + 1) (mn - k)) k v) (zC kd kd k (k + 1) (mn - k)) (zC nm (zC pt pt (k * 16) ((k + 1) * 16) ((mn - k) * 16)) fr (k * 16) 16) mn ++ wD cI cZ aD xs ys lf ev nm sz) 1 rfl (by decide) dX6_insert_129 (by omega) rfl (fun H locs hW => ?_)
            refine z_aloadn F (pc := 130) dX6_insert_130 rfl (lv_at hl 1 rfl) ?_
            refine z_get F (pc := 131) (C := RX6) (T := TX6) (N := 4) (ci := 6) inX6 hK hW 0 1 rfl rfl (by decide) rfl (List.mem_of_getElem? (i := 7) rfl) (v := .ref (aM 2)) rfl dX6_insert_131 ?_
            refine z_iloadn F (pc := 134) dX6_insert_134 rfl (lv_at hl 2 rfl) ?_
            refine z_iloadn F (pc := 135) dX6_insert_135 rfl (lv_at hl 4 rfl) ?_
            refine z_iast F (pc := 136) hK hW (ws' := wM cI cZ aM (zU (zC lb lb k (k + 1) (mn - k)) k v) (zU (zC kd kd k (k + 1) (mn - k)) k w) (zC nm (zC pt pt (k * 16) ((k + 1) * 16) ((mn - k) * 16)) fr (k * 16) 16) mn ++ wD cI cZ aD xs ys lf ev nm sz) 2 rfl (by decide) dX6_insert_136 (by omega) rfl (fun H locs hW => ?_)
            refine z_aloadn F (pc := 137) dX6_insert_137 rfl (lv_at hl 1 rfl) ?_
            refine z_dup F (pc := 138) dX6_insert_138 rfl ?_
            refine z_get F (pc := 139) (C := RX6) (T := TX6) (N := 4) (ci := 6) inX6 hK hW 0 3 rfl rfl (by decide) rfl (List.mem_of_getElem? (i := 1) rfl) (v := .int (iI mn)) rfl dX6_insert_139 ?_
            refine z_iconst F (pc := 142) (1) dX6_insert_142 ?_
            refine z_iadd F (pc := 143) dX6_insert_143 ?_
            refine z_put F (pc := 144) (C := RX6) (T := TX6) (N := 4) (ci := 6) inX6 tyX6 tyX6_ok nmX6 hK hW (ws' := wM cI cZ aM (zU (zC lb lb k (k + 1) (mn - k)) k v) (zU (zC kd kd k (k + 1) (mn - k)) k w) (zC nm (zC pt pt (k * 16) ((k + 1) * 16) ((mn - k) * 16)) fr (k * 16) 16) (mn + 1) ++ wD cI cZ aD xs ys lf ev nm sz) 0 3 rfl rfl (by decide) rfl (List.mem_of_getElem? (i := 1) rfl) rfl rfl (Nat.le_of_ble_eq_true rfl) dX6_insert_144 rfl (fun H locs hW => ?_)
            exact hret _ _ _ _ ((zU (zC lb lb k (k + 1) (mn - k)) k v), (zU (zC kd kd k (k + 1) (mn - k)) k w), (zC nm (zC pt pt (k * 16) ((k + 1) * 16) ((mn - k) * 16)) fr (k * 16) 16), (mn + 1)) dX6_insert_147 (by (try dsimp only) <;> (refine ⟨rfl, rfl, ?_, rfl⟩; unfold insP; rw [c16, c16, c16])) hW
          · skip
            exact absurd c_34 (by omega)

set_option maxHeartbeats 4000000 in
set_option maxRecDepth 100000 in
theorem c_X6_insertA (l : Launch) (D : va_G) (cI cZ : ClassId) (aM aA : Nat → Nat) (lb kd pt so nu al ak ap : Int → Int) (mn an ax : Int) (k v w fr : Int) (sz0 : Nat) (r_k : (-2147483648 ≤ k ∧ k < 2147483648)) (r_v : (-2147483648 ≤ v ∧ v < 2147483648)) (r_w : (-2147483648 ≤ w ∧ w < 2147483648)) (r_fr : (-2147483648 ≤ fr ∧ fr < 2147483648)) (hm : 0 ≤ mn ∧ mn < 16) (hk : 0 ≤ k ∧ k ≤ mn) (hf : 0 ≤ fr ∧ fr + 16 ≤ 96) : Met l yX6_insert wsX6_insert ({ frames := 1, cells := 0, slots := 0, locals := 40 } : Room) (zPc D cI cZ [.ref (aM 0), .int (iI k), .int (iI v), .int (iI w), .ref (aA 5), .int (iI fr)] (wM cI cZ aM lb kd pt mn ++ wA cI cZ aA so nu al ak ap an ax) sz0) (zQv D cI cZ (wM cI cZ aM lb kd pt mn ++ wA cI cZ aA so nu al ak ap an ax) sz0 (fun (u : (Int → Int) × (Int → Int) × (Int → Int) × (Int)) => u.1 = insL lb k mn v ∧ u.2.1 = insL kd k mn w ∧ u.2.2.1 = insP pt ap fr k mn ∧ u.2.2.2 = mn + 1) (fun (u : (Int → Int) × (Int → Int) × (Int → Int) × (Int)) => wM cI cZ aM u.1 u.2.1 u.2.2.1 u.2.2.2 ++ wA cI cZ aA so nu al ak ap an ax)) 0 0 (va_A (wM cI cZ aM lb kd pt mn ++ wA cI cZ aA so nu al ak ap an ax) sz0) := by
  refine z_ofV (maxL := 7) (plainFor_of_name (by decide)) rfl (Nat.le_of_ble_eq_true rfl) ?_
  intro p e s m below meth c A ls Q F hK hW hA hl hret
  have hl : lv_has ls 7 [(0, .ref (aM 0)), (1, .int (iI k)), (2, .int (iI v)), (3, .int (iI w)), (4, .ref (aA 5)), (5, .int (iI fr))] := hl
  have inX6 : ∀ w ∈ u_ws RX6 TX6 4, w ∈ wsX6_insert := fun _ h => List.mem_cons_of_mem _ (List.mem_append_right _ h)
  refine z_iloadn F (pc := 0) dX6_insert_0 rfl (lv_at hl 1 rfl) ?_
  refine z_if_lt F (pc := 1) 37 dX6_insert_1 (by decide) (by omega) (fun c_1 => ?_) (fun c_1 => ?_)
  · skip
    exact absurd c_1 (by omega)
  · skip
    refine z_iloadn F (pc := 4) dX6_insert_4 rfl (lv_at hl 1 rfl) ?_
    refine z_aloadn F (pc := 5) dX6_insert_5 rfl (lv_at hl 0 rfl) ?_
    refine z_get F (pc := 6) (C := RX6) (T := TX6) (N := 4) (ci := 6) inX6 hK hW 0 3 rfl rfl (by decide) rfl (List.mem_of_getElem? (i := 1) rfl) (v := .int (iI mn)) rfl dX6_insert_6 ?_
    refine z_icmp_gt F (pc := 9) 37 dX6_insert_9 (by decide) (by omega) (fun c_9 => ?_) (fun c_9 => ?_)
    · skip
      exact absurd c_9 (by omega)
    · skip
      refine z_aloadn F (pc := 12) dX6_insert_12 rfl (lv_at hl 0 rfl) ?_
      refine z_get F (pc := 13) (C := RX6) (T := TX6) (N := 4) (ci := 6) inX6 hK hW 0 3 rfl rfl (by decide) rfl (List.mem_of_getElem? (i := 1) rfl) (v := .int (iI mn)) rfl dX6_insert_13 ?_
      refine z_bipush F (pc := 16) (16) (by decide +kernel) dX6_insert_16 ?_
      refine z_icmp_ge F (pc := 18) 37 dX6_insert_18 (by decide) (by omega) (fun c_18 => ?_) (fun c_18 => ?_)
      · skip
        exact absurd c_18 (by omega)
      · skip
        refine z_iload F (pc := 21) dX6_insert_21 (lv_at hl 5 rfl) ?_
        refine z_if_lt F (pc := 23) 37 dX6_insert_23 (by decide) (by omega) (fun c_23 => ?_) (fun c_23 => ?_)
        · skip
          exact absurd c_23 (by omega)
        · skip
          refine z_iload F (pc := 26) dX6_insert_26 (lv_at hl 5 rfl) ?_
          refine z_aload F (pc := 28) dX6_insert_28 (lv_at hl 4 rfl) ?_
          refine z_alen F (pc := 30) hK hW 9 rfl dX6_insert_30 ?_
          refine z_bipush F (pc := 31) (16) (by decide +kernel) dX6_insert_31 ?_
          refine z_isub F (pc := 33) dX6_insert_33 ?_
          refine z_icmp_le F (pc := 34) 38 dX6_insert_34 (by decide) (by omega) (fun c_34 => ?_) (fun c_34 => ?_)
          · skip
            refine z_aloadn F (pc := 38) dX6_insert_38 rfl (lv_at hl 0 rfl) ?_
            refine z_get F (pc := 39) (C := RX6) (T := TX6) (N := 4) (ci := 6) inX6 hK hW 0 3 rfl rfl (by decide) rfl (List.mem_of_getElem? (i := 1) rfl) (v := .int (iI mn)) rfl dX6_insert_39 ?_
            refine z_iloadn F (pc := 42) dX6_insert_42 rfl (lv_at hl 1 rfl) ?_
            refine z_isub F (pc := 43) dX6_insert_43 ?_
            refine z_istore F (pc := 44) hl (lv' := [(6, .int (iI (mn - k))), (0, .ref (aM 0)), (1, .int (iI k)), (2, .int (iI v)), (3, .int (iI w)), (4, .ref (aA 5)), (5, .int (iI fr))]) dX6_insert_44 (by decide) rfl (fun ls hl => ?_)
            refine z_aloadn F (pc := 46) dX6_insert_46 rfl (lv_at hl 1 rfl) ?_
            refine z_get F (pc := 47) (C := RX6) (T := TX6) (N := 4) (ci := 6) inX6 hK hW 0 0 rfl rfl (by decide) rfl (List.mem_of_getElem? (i := 2) rfl) (v := .ref (aM 1)) rfl dX6_insert_47 ?_
            refine z_iloadn F (pc := 50) dX6_insert_50 rfl (lv_at hl 2 rfl) ?_
            refine z_aloadn F (pc := 51) dX6_insert_51 rfl (lv_at hl 1 rfl) ?_
            refine z_get F (pc := 52) (C := RX6) (T := TX6) (N := 4) (ci := 6) inX6 hK hW 0 0 rfl rfl (by decide) rfl (List.mem_of_getElem? (i := 2) rfl) (v := .ref (aM 1)) rfl dX6_insert_52 ?_
            refine z_iloadn F (pc := 55) dX6_insert_55 rfl (lv_at hl 2 rfl) ?_
            refine z_iconst F (pc := 56) (1) dX6_insert_56 ?_
            refine z_iadd F (pc := 57) dX6_insert_57 ?_
            refine z_iload F (pc := 58) dX6_insert_58 (lv_at hl 0 rfl) ?_
            refine z_copyi F (pc := 60) hK hW hl.1 (ws' := wM cI cZ aM (zC lb lb k (k + 1) (mn - k)) kd pt mn ++ wA cI cZ aA so nu al ak ap an ax) (List.mem_of_getElem? (i := 3) rfl) (List.mem_of_getElem? (i := 4) rfl) (List.mem_of_getElem? (i := 5) rfl) (List.mem_of_getElem? (i := 6) rfl) 1 1 rfl rfl (Nat.le_of_ble_eq_true rfl) (Nat.le_of_ble_eq_true rfl) dX6_insert_60 (by decide) (by omega) rfl (fun H locs hW => ?_)
            refine z_aloadn F (pc := 63) dX6_insert_63 rfl (lv_at hl 1 rfl) ?_
            refine z_get F (pc := 64) (C := RX6) (T := TX6) (N := 4) (ci := 6) inX6 hK hW 0 1 rfl rfl (by decide) rfl (List.mem_of_getElem? (i := 7) rfl) (v := .ref (aM 2)) rfl dX6_insert_64 ?_
            refine z_iloadn F (pc := 67) dX6_insert_67 rfl (lv_at hl 2 rfl) ?_
            refine z_aloadn F (pc := 68) dX6_insert_68 rfl (lv_at hl 1 rfl) ?_
            refine z_get F (pc := 69) (C := RX6) (T := TX6) (N := 4) (ci := 6) inX6 hK hW 0 1 rfl rfl (by decide) rfl (List.mem_of_getElem? (i := 7) rfl) (v := .ref (aM 2)) rfl dX6_insert_69 ?_
            refine z_iloadn F (pc := 72) dX6_insert_72 rfl (lv_at hl 2 rfl) ?_
            refine z_iconst F (pc := 73) (1) dX6_insert_73 ?_
            refine z_iadd F (pc := 74) dX6_insert_74 ?_
            refine z_iload F (pc := 75) dX6_insert_75 (lv_at hl 0 rfl) ?_
            refine z_copyi F (pc := 77) hK hW hl.1 (ws' := wM cI cZ aM (zC lb lb k (k + 1) (mn - k)) (zC kd kd k (k + 1) (mn - k)) pt mn ++ wA cI cZ aA so nu al ak ap an ax) (List.mem_of_getElem? (i := 3) rfl) (List.mem_of_getElem? (i := 4) rfl) (List.mem_of_getElem? (i := 5) rfl) (List.mem_of_getElem? (i := 6) rfl) 2 2 rfl rfl (Nat.le_of_ble_eq_true rfl) (Nat.le_of_ble_eq_true rfl) dX6_insert_77 (by decide) (by omega) rfl (fun H locs hW => ?_)
            refine z_aloadn F (pc := 80) dX6_insert_80 rfl (lv_at hl 1 rfl) ?_
            refine z_get F (pc := 81) (C := RX6) (T := TX6) (N := 4) (ci := 6) inX6 hK hW 0 2 rfl rfl (by decide) rfl (List.mem_of_getElem? (i := 8) rfl) (v := .ref (aM 3)) rfl dX6_insert_81 ?_
            refine z_iloadn F (pc := 84) dX6_insert_84 rfl (lv_at hl 2 rfl) ?_
            refine z_bipush F (pc := 85) (16) (by decide +kernel) dX6_insert_85 ?_
            refine z_imul F (pc := 87) dX6_insert_87 ?_
            refine z_aloadn F (pc := 88) dX6_insert_88 rfl (lv_at hl 1 rfl) ?_
            refine z_get F (pc := 89) (C := RX6) (T := TX6) (N := 4) (ci := 6) inX6 hK hW 0 2 rfl rfl (by decide) rfl (List.mem_of_getElem? (i := 8) rfl) (v := .ref (aM 3)) rfl dX6_insert_89 ?_
            refine z_iloadn F (pc := 92) dX6_insert_92 rfl (lv_at hl 2 rfl) ?_
            refine z_iconst F (pc := 93) (1) dX6_insert_93 ?_
            refine z_iadd F (pc := 94) dX6_insert_94 ?_
            refine z_bipush F (pc := 95) (16) (by decide +kernel) dX6_insert_95 ?_
            refine z_imul F (pc := 97) dX6_insert_97 ?_
            refine z_iload F (pc := 98) dX6_insert_98 (lv_at hl 0 rfl) ?_
            refine z_bipush F (pc := 100) (16) (by decide +kernel) dX6_insert_100 ?_
            refine z_imul F (pc := 102) dX6_insert_102 ?_
            refine z_copyi F (pc := 103) hK hW hl.1 (ws' := wM cI cZ aM (zC lb lb k (k + 1) (mn - k)) (zC kd kd k (k + 1) (mn - k)) (zC pt pt (k * 16) ((k + 1) * 16) ((mn - k) * 16)) mn ++ wA cI cZ aA so nu al ak ap an ax) (List.mem_of_getElem? (i := 3) rfl) (List.mem_of_getElem? (i := 4) rfl) (List.mem_of_getElem? (i := 5) rfl) (List.mem_of_getElem? (i := 6) rfl) 3 3 rfl rfl (Nat.le_of_ble_eq_true rfl) (Nat.le_of_ble_eq_true rfl) dX6_insert_103 (by decide) (by omega) rfl (fun H locs hW => ?_)
            refine z_aload F (pc := 106) dX6_insert_106 (lv_at hl 5 rfl) ?_
            refine z_iload F (pc := 108) dX6_insert_108 (lv_at hl 6 rfl) ?_
            refine z_aloadn F (pc := 110) dX6_insert_110 rfl (lv_at hl 1 rfl) ?_
            refine z_get F (pc := 111) (C := RX6) (T := TX6) (N := 4) (ci := 6) inX6 hK hW 0 2 rfl rfl (by decide) rfl (List.mem_of_getElem? (i := 8) rfl) (v := .ref (aM 3)) rfl dX6_insert_111 ?_
            refine z_iloadn F (pc := 114) dX6_insert_114 rfl (lv_at hl 2 rfl) ?_
            refine z_bipush F (pc := 115) (16) (by decide +kernel) dX6_insert_115 ?_
            refine z_imul F (pc := 117) dX6_insert_117 ?_
            refine z_bipush F (pc := 118) (16) (by decide +kernel) dX6_insert_118 ?_
            refine z_copyi F (pc := 120) hK hW hl.1 (ws' := wM cI cZ aM (zC lb lb k (k + 1) (mn - k)) (zC kd kd k (k + 1) (mn - k)) (zC ap (zC pt pt (k * 16) ((k + 1) * 16) ((mn - k) * 16)) fr (k * 16) 16) mn ++ wA cI cZ aA so nu al ak ap an ax) (List.mem_of_getElem? (i := 3) rfl) (List.mem_of_getElem? (i := 4) rfl) (List.mem_of_getElem? (i := 5) rfl) (List.mem_of_getElem? (i := 6) rfl) 9 3 rfl rfl (Nat.le_of_ble_eq_true rfl) (Nat.le_of_ble_eq_true rfl) dX6_insert_120 (by decide) (by omega) rfl (fun H locs hW => ?_)
            refine z_aloadn F (pc := 123) dX6_insert_123 rfl (lv_at hl 1 rfl) ?_
            refine z_get F (pc := 124) (C := RX6) (T := TX6) (N := 4) (ci := 6) inX6 hK hW 0 0 rfl rfl (by decide) rfl (List.mem_of_getElem? (i := 2) rfl) (v := .ref (aM 1)) rfl dX6_insert_124 ?_
            refine z_iloadn F (pc := 127) dX6_insert_127 rfl (lv_at hl 2 rfl) ?_
            refine z_iloadn F (pc := 128) dX6_insert_128 rfl (lv_at hl 3 rfl) ?_
            refine z_iast F (pc := 129) hK hW (ws' := wM cI cZ aM (zU (zC lb lb k (k + 1) (mn - k)) k v) (zC kd kd k (k + 1) (mn - k)) (zC ap (zC pt pt (k * 16) ((k + 1) * 16) ((mn - k) * 16)) fr (k * 16) 16) mn ++ wA cI cZ aA so nu al ak ap an ax) 1 rfl (by decide) dX6_insert_129 (by omega) rfl (fun H locs hW => ?_)
            refine z_aloadn F (pc := 130) dX6_insert_130 rfl (lv_at hl 1 rfl) ?_
            refine z_get F (pc := 131) (C := RX6) (T := TX6) (N := 4) (ci := 6) inX6 hK hW 0 1 rfl rfl (by decide) rfl (List.mem_of_getElem? (i := 7) rfl) (v := .ref (aM 2)) rfl dX6_insert_131 ?_
            refine z_iloadn F (pc := 134) dX6_insert_134 rfl (lv_at hl 2 rfl) ?_
            refine z_iloadn F (pc := 135) dX6_insert_135 rfl (lv_at hl 4 rfl) ?_
            refine z_iast F (pc := 136) hK hW (ws' := wM cI cZ aM (zU (zC lb lb k (k + 1) (mn - k)) k v) (zU (zC kd kd k (k + 1) (mn - k)) k w) (zC ap (zC pt pt (k * 16) ((k + 1) * 16) ((mn - k) * 16)) fr (k * 16) 16) mn ++ wA cI cZ aA so nu al ak ap an ax) 2 rfl (by decide) dX6_insert_136 (by omega) rfl (fun H locs hW => ?_)
            refine z_aloadn F (pc := 137) dX6_insert_137 rfl (lv_at hl 1 rfl) ?_
            refine z_dup F (pc := 138) dX6_insert_138 rfl ?_
            refine z_get F (pc := 139) (C := RX6) (T := TX6) (N := 4) (ci := 6) inX6 hK hW 0 3 rfl rfl (by decide) rfl (List.mem_of_getElem? (i := 1) rfl) (v := .int (iI mn)) rfl dX6_insert_139 ?_
            refine z_iconst F (pc := 142) (1) dX6_insert_142 ?_
            refine z_iadd F (pc := 143) dX6_insert_143 ?_
            refine z_put F (pc := 144) (C := RX6) (T := TX6) (N := 4) (ci := 6) inX6 tyX6 tyX6_ok nmX6 hK hW (ws' := wM cI cZ aM (zU (zC lb lb k (k + 1) (mn - k)) k v) (zU (zC kd kd k (k + 1) (mn - k)) k w) (zC ap (zC pt pt (k * 16) ((k + 1) * 16) ((mn - k) * 16)) fr (k * 16) 16) (mn + 1) ++ wA cI cZ aA so nu al ak ap an ax) 0 3 rfl rfl (by decide) rfl (List.mem_of_getElem? (i := 1) rfl) rfl rfl (Nat.le_of_ble_eq_true rfl) dX6_insert_144 rfl (fun H locs hW => ?_)
            exact hret _ _ _ _ ((zU (zC lb lb k (k + 1) (mn - k)) k v), (zU (zC kd kd k (k + 1) (mn - k)) k w), (zC ap (zC pt pt (k * 16) ((k + 1) * 16) ((mn - k) * 16)) fr (k * 16) 16), (mn + 1)) dX6_insert_147 (by (try dsimp only) <;> (refine ⟨rfl, rfl, ?_, rfl⟩; unfold insP; rw [c16, c16, c16])) hW
          · skip
            exact absurd c_34 (by omega)

set_option maxHeartbeats 4000000 in
set_option maxRecDepth 100000 in
theorem c_X6_remove (l : Launch) (D : va_G) (cI cZ : ClassId) (aM : Nat → Nat) (lb kd pt : Int → Int) (mn : Int) (k : Int) (sz0 : Nat) (r_k : (-2147483648 ≤ k ∧ k < 2147483648)) (hm : 0 ≤ mn ∧ mn ≤ 16) (hk : 0 ≤ k ∧ k < mn) : Met l yX6_remove wsX6_remove ({ frames := 1, cells := 0, slots := 0, locals := 40 } : Room) (zPc D cI cZ [.ref (aM 0), .int (iI k)] (wM cI cZ aM lb kd pt mn) sz0) (zQv D cI cZ (wM cI cZ aM lb kd pt mn) sz0 (fun (u : (Int → Int) × (Int → Int) × (Int → Int) × (Int)) => u.1 = delL lb k mn ∧ u.2.1 = delL kd k mn ∧ u.2.2.1 = delP pt k mn ∧ u.2.2.2 = mn - 1) (fun (u : (Int → Int) × (Int → Int) × (Int → Int) × (Int)) => wM cI cZ aM u.1 u.2.1 u.2.2.1 u.2.2.2)) 0 0 (va_A (wM cI cZ aM lb kd pt mn) sz0) := by
  refine z_ofV (maxL := 3) (plainFor_of_name (by decide)) rfl (Nat.le_of_ble_eq_true rfl) ?_
  intro p e s m below meth c A ls Q F hK hW hA hl hret
  have hl : lv_has ls 3 [(0, .ref (aM 0)), (1, .int (iI k))] := hl
  have inX6 : ∀ w ∈ u_ws RX6 TX6 4, w ∈ wsX6_remove := fun _ h => List.mem_cons_of_mem _ (List.mem_append_right _ h)
  refine z_aloadn F (pc := 0) dX6_remove_0 rfl (lv_at hl 0 rfl) ?_
  refine z_iloadn F (pc := 1) dX6_remove_1 rfl (lv_at hl 1 rfl) ?_
  refine z_callVi F (pc := 2) hK hW hA (As := [.int (iI k)]) (rest := []) (ws' := fun (u : Unit) => wM cI cZ aM lb kd pt mn) (wr := ([])) (c_X6_has l D cI cZ aM lb kd pt mn k _ (by omega) (by exact hm)) (cwV 1 F.2.2.2.2 gX6_remove_X6_has rfl rfl rfl (by decide +kernel) ⟨Nat.le_of_ble_eq_true rfl, Nat.le_of_ble_eq_true rfl⟩) [0, 1, 2, 3] [] [0, 1, 2, 3] rfl rfl (by decide) (by decide) (by decide) (fun _ => rfl) (by decide) (q0 := 0) (ci := 6) rfl rfl rfl rfl rfl hl.1 (Nat.le_of_ble_eq_true rfl) dX6_remove_2 ⟨Nat.le_of_ble_eq_true rfl, Nat.le_of_ble_eq_true rfl⟩ (fun z_2 u H locs r_z_2 hp_2 hW => ?_)
  refine z_if_ne F (pc := 5) 9 dX6_remove_5 (by decide) (by omega) (fun c_5 => ?_) (fun c_5 => ?_)
  · skip
    have b_5 := zB_t hp_2 c_5
    refine z_aloadn F (pc := 9) dX6_remove_9 rfl (lv_at hl 0 rfl) ?_
    refine z_dup F (pc := 10) dX6_remove_10 rfl ?_
    refine z_get F (pc := 11) (C := RX6) (T := TX6) (N := 4) (ci := 6) inX6 hK hW 0 3 rfl rfl (by decide) rfl (List.mem_of_getElem? (i := 1) rfl) (v := .int (iI mn)) rfl dX6_remove_11 ?_
    refine z_iconst F (pc := 14) (1) dX6_remove_14 ?_
    refine z_isub F (pc := 15) dX6_remove_15 ?_
    refine z_put F (pc := 16) (C := RX6) (T := TX6) (N := 4) (ci := 6) inX6 tyX6 tyX6_ok nmX6 hK hW (ws' := wM cI cZ aM lb kd pt (mn - 1)) 0 3 rfl rfl (by decide) rfl (List.mem_of_getElem? (i := 1) rfl) rfl rfl (Nat.le_of_ble_eq_true rfl) dX6_remove_16 rfl (fun H locs hW => ?_)
    refine z_aloadn F (pc := 19) dX6_remove_19 rfl (lv_at hl 0 rfl) ?_
    refine z_get F (pc := 20) (C := RX6) (T := TX6) (N := 4) (ci := 6) inX6 hK hW 0 3 rfl rfl (by decide) rfl (List.mem_of_getElem? (i := 1) rfl) (v := .int (iI (mn - 1))) rfl dX6_remove_20 ?_
    refine z_iloadn F (pc := 23) dX6_remove_23 rfl (lv_at hl 1 rfl) ?_
    refine z_isub F (pc := 24) dX6_remove_24 ?_
    refine z_istoren F (pc := 25) hl (lv' := [(2, .int (iI ((mn - 1) - k))), (0, .ref (aM 0)), (1, .int (iI k))]) dX6_remove_25 rfl (by decide) rfl (fun ls hl => ?_)
    refine z_aloadn F (pc := 26) dX6_remove_26 rfl (lv_at hl 1 rfl) ?_
    refine z_get F (pc := 27) (C := RX6) (T := TX6) (N := 4) (ci := 6) inX6 hK hW 0 0 rfl rfl (by decide) rfl (List.mem_of_getElem? (i := 2) rfl) (v := .ref (aM 1)) rfl dX6_remove_27 ?_
    refine z_iloadn F (pc := 30) dX6_remove_30 rfl (lv_at hl 2 rfl) ?_
    refine z_iconst F (pc := 31) (1) dX6_remove_31 ?_
    refine z_iadd F (pc := 32) dX6_remove_32 ?_
    refine z_aloadn F (pc := 33) dX6_remove_33 rfl (lv_at hl 1 rfl) ?_
    refine z_get F (pc := 34) (C := RX6) (T := TX6) (N := 4) (ci := 6) inX6 hK hW 0 0 rfl rfl (by decide) rfl (List.mem_of_getElem? (i := 2) rfl) (v := .ref (aM 1)) rfl dX6_remove_34 ?_
    refine z_iloadn F (pc := 37) dX6_remove_37 rfl (lv_at hl 2 rfl) ?_
    refine z_iloadn F (pc := 38) dX6_remove_38 rfl (lv_at hl 0 rfl) ?_
    refine z_copyi F (pc := 39) hK hW hl.1 (ws' := wM cI cZ aM (zC lb lb (k + 1) k ((mn - 1) - k)) kd pt (mn - 1)) (List.mem_of_getElem? (i := 3) rfl) (List.mem_of_getElem? (i := 4) rfl) (List.mem_of_getElem? (i := 5) rfl) (List.mem_of_getElem? (i := 6) rfl) 1 1 rfl rfl (Nat.le_of_ble_eq_true rfl) (Nat.le_of_ble_eq_true rfl) dX6_remove_39 (by decide) (by omega) rfl (fun H locs hW => ?_)
    refine z_aloadn F (pc := 42) dX6_remove_42 rfl (lv_at hl 1 rfl) ?_
    refine z_get F (pc := 43) (C := RX6) (T := TX6) (N := 4) (ci := 6) inX6 hK hW 0 1 rfl rfl (by decide) rfl (List.mem_of_getElem? (i := 7) rfl) (v := .ref (aM 2)) rfl dX6_remove_43 ?_
    refine z_iloadn F (pc := 46) dX6_remove_46 rfl (lv_at hl 2 rfl) ?_
    refine z_iconst F (pc := 47) (1) dX6_remove_47 ?_
    refine z_iadd F (pc := 48) dX6_remove_48 ?_
    refine z_aloadn F (pc := 49) dX6_remove_49 rfl (lv_at hl 1 rfl) ?_
    refine z_get F (pc := 50) (C := RX6) (T := TX6) (N := 4) (ci := 6) inX6 hK hW 0 1 rfl rfl (by decide) rfl (List.mem_of_getElem? (i := 7) rfl) (v := .ref (aM 2)) rfl dX6_remove_50 ?_
    refine z_iloadn F (pc := 53) dX6_remove_53 rfl (lv_at hl 2 rfl) ?_
    refine z_iloadn F (pc := 54) dX6_remove_54 rfl (lv_at hl 0 rfl) ?_
    refine z_copyi F (pc := 55) hK hW hl.1 (ws' := wM cI cZ aM (zC lb lb (k + 1) k ((mn - 1) - k)) (zC kd kd (k + 1) k ((mn - 1) - k)) pt (mn - 1)) (List.mem_of_getElem? (i := 3) rfl) (List.mem_of_getElem? (i := 4) rfl) (List.mem_of_getElem? (i := 5) rfl) (List.mem_of_getElem? (i := 6) rfl) 2 2 rfl rfl (Nat.le_of_ble_eq_true rfl) (Nat.le_of_ble_eq_true rfl) dX6_remove_55 (by decide) (by omega) rfl (fun H locs hW => ?_)
    refine z_aloadn F (pc := 58) dX6_remove_58 rfl (lv_at hl 1 rfl) ?_
    refine z_get F (pc := 59) (C := RX6) (T := TX6) (N := 4) (ci := 6) inX6 hK hW 0 2 rfl rfl (by decide) rfl (List.mem_of_getElem? (i := 8) rfl) (v := .ref (aM 3)) rfl dX6_remove_59 ?_
    refine z_iloadn F (pc := 62) dX6_remove_62 rfl (lv_at hl 2 rfl) ?_
    refine z_iconst F (pc := 63) (1) dX6_remove_63 ?_
    refine z_iadd F (pc := 64) dX6_remove_64 ?_
    refine z_bipush F (pc := 65) (16) (by decide +kernel) dX6_remove_65 ?_
    refine z_imul F (pc := 67) dX6_remove_67 ?_
    refine z_aloadn F (pc := 68) dX6_remove_68 rfl (lv_at hl 1 rfl) ?_
    refine z_get F (pc := 69) (C := RX6) (T := TX6) (N := 4) (ci := 6) inX6 hK hW 0 2 rfl rfl (by decide) rfl (List.mem_of_getElem? (i := 8) rfl) (v := .ref (aM 3)) rfl dX6_remove_69 ?_
    refine z_iloadn F (pc := 72) dX6_remove_72 rfl (lv_at hl 2 rfl) ?_
    refine z_bipush F (pc := 73) (16) (by decide +kernel) dX6_remove_73 ?_
    refine z_imul F (pc := 75) dX6_remove_75 ?_
    refine z_iloadn F (pc := 76) dX6_remove_76 rfl (lv_at hl 0 rfl) ?_
    refine z_bipush F (pc := 77) (16) (by decide +kernel) dX6_remove_77 ?_
    refine z_imul F (pc := 79) dX6_remove_79 ?_
    refine z_copyi F (pc := 80) hK hW hl.1 (ws' := wM cI cZ aM (zC lb lb (k + 1) k ((mn - 1) - k)) (zC kd kd (k + 1) k ((mn - 1) - k)) (zC pt pt ((k + 1) * 16) (k * 16) (((mn - 1) - k) * 16)) (mn - 1)) (List.mem_of_getElem? (i := 3) rfl) (List.mem_of_getElem? (i := 4) rfl) (List.mem_of_getElem? (i := 5) rfl) (List.mem_of_getElem? (i := 6) rfl) 3 3 rfl rfl (Nat.le_of_ble_eq_true rfl) (Nat.le_of_ble_eq_true rfl) dX6_remove_80 (by decide) (by omega) rfl (fun H locs hW => ?_)
    exact hret _ _ _ _ ((zC lb lb (k + 1) k ((mn - 1) - k)), (zC kd kd (k + 1) k ((mn - 1) - k)), (zC pt pt ((k + 1) * 16) (k * 16) (((mn - 1) - k) * 16)), (mn - 1)) dX6_remove_83 (by (try dsimp only) <;> (refine ⟨rfl, rfl, ?_, rfl⟩; unfold delP; rw [c16, c16, c16])) hW
  · skip
    have b_5 := zB_f hp_2 c_5
    exact absurd hk (b_5)

set_option maxHeartbeats 4000000 in
set_option maxRecDepth 100000 in
theorem c_X0_push (l : Launch) (D : va_G) (cI cZ : ClassId) (aA : Nat → Nat) (so nu al ak ap : Int → Int) (an ax : Int) (sr k v w : Int) (sz0 : Nat) (r_sr : (-2147483648 ≤ sr ∧ sr < 2147483648)) (r_k : (-2147483648 ≤ k ∧ k < 2147483648)) (r_v : (-2147483648 ≤ v ∧ v < 2147483648)) (r_w : (-2147483648 ≤ w ∧ w < 2147483648)) (ha : (0 ≤ an ∧ an ≤ 6) ∧ (0 ≤ ax ∧ ax < 6)) : Met l yX0_push wsX0_push ({ frames := 1, cells := 0, slots := 0, locals := 22 } : Room) (zPc D cI cZ [.ref (aA 0), .int (iI sr), .int (iI k), .int (iI v), .int (iI w)] (wA cI cZ aA so nu al ak ap an ax) sz0) (zQi D cI cZ (wA cI cZ aA so nu al ak ap an ax) sz0 (fun (r : Int) (u : (Int → Int) × (Int → Int) × (Int → Int) × (Int → Int) × (Int) × (Int)) => (r = ax) ∧ (u.1 = zU so ax sr ∧ u.2.1 = zU nu ax k ∧ u.2.2.1 = zU al ax v ∧ u.2.2.2.1 = zU ak ax w ∧ u.2.2.2.2.1 = min (an + 1) 6 ∧ u.2.2.2.2.2 = (ax + 1) % 6)) (fun (u : (Int → Int) × (Int → Int) × (Int → Int) × (Int → Int) × (Int) × (Int)) => wA cI cZ aA u.1 u.2.1 u.2.2.1 u.2.2.2.1 ap u.2.2.2.2.1 u.2.2.2.2.2)) 0 0 (va_A (wA cI cZ aA so nu al ak ap an ax) sz0) := by
  refine z_ofI (maxL := 6) (plainFor_of_name (by decide)) rfl (Nat.le_of_ble_eq_true rfl) (Or.inl rfl) ?_
  intro p e s m below meth c A ls Q F hK hW hA hl hret
  have hl : lv_has ls 6 [(0, .ref (aA 0)), (1, .int (iI sr)), (2, .int (iI k)), (3, .int (iI v)), (4, .int (iI w))] := hl
  have inX0 : ∀ w ∈ u_ws RX0 TX0 7, w ∈ wsX0_push := fun _ h => List.mem_cons_of_mem _ (List.mem_append_right _ h)
  refine z_aloadn F (pc := 0) dX0_push_0 rfl (lv_at hl 0 rfl) ?_
  refine z_get F (pc := 1) (C := RX0) (T := TX0) (N := 7) (ci := 0) inX0 hK hW 0 6 rfl rfl (by decide) rfl (List.mem_of_getElem? (i := 1) rfl) (v := .int (iI ax)) rfl dX0_push_1 ?_
  refine z_istore F (pc := 4) hl (lv' := [(5, .int (iI ax)), (0, .ref (aA 0)), (1, .int (iI sr)), (2, .int (iI k)), (3, .int (iI v)), (4, .int (iI w))]) dX0_push_4 (by decide) rfl (fun ls hl => ?_)
  refine z_aloadn F (pc := 6) dX0_push_6 rfl (lv_at hl 1 rfl) ?_
  refine z_get F (pc := 7) (C := RX0) (T := TX0) (N := 7) (ci := 0) inX0 hK hW 0 0 rfl rfl (by decide) rfl (List.mem_of_getElem? (i := 2) rfl) (v := .ref (aA 1)) rfl dX0_push_7 ?_
  refine z_iload F (pc := 10) dX0_push_10 (lv_at hl 0 rfl) ?_
  refine z_iloadn F (pc := 12) dX0_push_12 rfl (lv_at hl 2 rfl) ?_
  refine z_iast F (pc := 13) hK hW (ws' := wA cI cZ aA (zU so ax sr) nu al ak ap an ax) 1 rfl (by decide) dX0_push_13 (by omega) rfl (fun H locs hW => ?_)
  refine z_aloadn F (pc := 14) dX0_push_14 rfl (lv_at hl 1 rfl) ?_
  refine z_get F (pc := 15) (C := RX0) (T := TX0) (N := 7) (ci := 0) inX0 hK hW 0 1 rfl rfl (by decide) rfl (List.mem_of_getElem? (i := 3) rfl) (v := .ref (aA 2)) rfl dX0_push_15 ?_
  refine z_iload F (pc := 18) dX0_push_18 (lv_at hl 0 rfl) ?_
  refine z_iloadn F (pc := 20) dX0_push_20 rfl (lv_at hl 3 rfl) ?_
  refine z_iast F (pc := 21) hK hW (ws' := wA cI cZ aA (zU so ax sr) (zU nu ax k) al ak ap an ax) 2 rfl (by decide) dX0_push_21 (by omega) rfl (fun H locs hW => ?_)
  refine z_aloadn F (pc := 22) dX0_push_22 rfl (lv_at hl 1 rfl) ?_
  refine z_get F (pc := 23) (C := RX0) (T := TX0) (N := 7) (ci := 0) inX0 hK hW 0 2 rfl rfl (by decide) rfl (List.mem_of_getElem? (i := 4) rfl) (v := .ref (aA 3)) rfl dX0_push_23 ?_
  refine z_iload F (pc := 26) dX0_push_26 (lv_at hl 0 rfl) ?_
  refine z_iloadn F (pc := 28) dX0_push_28 rfl (lv_at hl 4 rfl) ?_
  refine z_iast F (pc := 29) hK hW (ws' := wA cI cZ aA (zU so ax sr) (zU nu ax k) (zU al ax v) ak ap an ax) 3 rfl (by decide) dX0_push_29 (by omega) rfl (fun H locs hW => ?_)
  refine z_aloadn F (pc := 30) dX0_push_30 rfl (lv_at hl 1 rfl) ?_
  refine z_get F (pc := 31) (C := RX0) (T := TX0) (N := 7) (ci := 0) inX0 hK hW 0 3 rfl rfl (by decide) rfl (List.mem_of_getElem? (i := 5) rfl) (v := .ref (aA 4)) rfl dX0_push_31 ?_
  refine z_iload F (pc := 34) dX0_push_34 (lv_at hl 0 rfl) ?_
  refine z_iload F (pc := 36) dX0_push_36 (lv_at hl 5 rfl) ?_
  refine z_iast F (pc := 38) hK hW (ws' := wA cI cZ aA (zU so ax sr) (zU nu ax k) (zU al ax v) (zU ak ax w) ap an ax) 4 rfl (by decide) dX0_push_38 (by omega) rfl (fun H locs hW => ?_)
  refine z_aloadn F (pc := 39) dX0_push_39 rfl (lv_at hl 1 rfl) ?_
  refine z_aloadn F (pc := 40) dX0_push_40 rfl (lv_at hl 1 rfl) ?_
  refine z_get F (pc := 41) (C := RX0) (T := TX0) (N := 7) (ci := 0) inX0 hK hW 0 6 rfl rfl (by decide) rfl (List.mem_of_getElem? (i := 1) rfl) (v := .int (iI ax)) rfl dX0_push_41 ?_
  refine z_iconst F (pc := 44) (1) dX0_push_44 ?_
  refine z_iadd F (pc := 45) dX0_push_45 ?_
  refine z_bipush F (pc := 46) (6) (by decide +kernel) dX0_push_46 ?_
  refine z_callSi F (pc := 48) hK hW hA (As := [.int (iI (ax + 1)), .int (iI 6)]) (rest := [.ref (aA 0)]) (c_J9_floorMod_7cf53 l D cI cZ (ax + 1) 6 _ (by omega) (by omega) (by omega) (by omega)) (va_cwS 2 F.2.2.2.2 gX0_push_J9_floorMod_7cf53 rfl rfl rfl (by decide +kernel) ⟨Nat.le_of_ble_eq_true rfl, Nat.le_of_ble_eq_true rfl⟩) rfl rfl hl.1 (Nat.le_of_ble_eq_true rfl) dX0_push_48 ⟨Nat.le_of_ble_eq_true rfl, Nat.le_of_ble_eq_true rfl⟩ (fun z_48 H locs r_z_48 hp_48 hW => ?_)
  replace hp_48 := hp_48.symm
  subst hp_48
  refine z_put F (pc := 51) (C := RX0) (T := TX0) (N := 7) (ci := 0) inX0 tyX0 tyX0_ok nmX0 hK hW (ws' := wA cI cZ aA (zU so ax sr) (zU nu ax k) (zU al ax v) (zU ak ax w) ap an ((ax + 1) % 6)) 0 6 rfl rfl (by decide) rfl (List.mem_of_getElem? (i := 1) rfl) rfl rfl (Nat.le_of_ble_eq_true rfl) dX0_push_51 rfl (fun H locs hW => ?_)
  refine z_aloadn F (pc := 54) dX0_push_54 rfl (lv_at hl 1 rfl) ?_
  refine z_aloadn F (pc := 55) dX0_push_55 rfl (lv_at hl 1 rfl) ?_
  refine z_get F (pc := 56) (C := RX0) (T := TX0) (N := 7) (ci := 0) inX0 hK hW 0 5 rfl rfl (by decide) rfl (List.mem_of_getElem? (i := 6) rfl) (v := .int (iI an)) rfl dX0_push_56 ?_
  refine z_iconst F (pc := 59) (1) dX0_push_59 ?_
  refine z_iadd F (pc := 60) dX0_push_60 ?_
  refine z_bipush F (pc := 61) (6) (by decide +kernel) dX0_push_61 ?_
  refine z_mmin F (pc := 63) hl.1 (List.mem_of_getElem? (i := 7) rfl) (List.mem_of_getElem? (i := 8) rfl) (List.mem_of_getElem? (i := 9) rfl) (List.mem_of_getElem? (i := 10) rfl) (Nat.le_of_ble_eq_true rfl) (Nat.le_of_ble_eq_true rfl) (Nat.le_of_ble_eq_true rfl) (Nat.le_of_ble_eq_true rfl) dX0_push_63 (by omega) ?_
  refine z_put F (pc := 66) (C := RX0) (T := TX0) (N := 7) (ci := 0) inX0 tyX0 tyX0_ok nmX0 hK hW (ws' := wA cI cZ aA (zU so ax sr) (zU nu ax k) (zU al ax v) (zU ak ax w) ap (min (an + 1) 6) ((ax + 1) % 6)) 0 5 rfl rfl (by decide) rfl (List.mem_of_getElem? (i := 6) rfl) rfl rfl (Nat.le_of_ble_eq_true rfl) dX0_push_66 rfl (fun H locs hW => ?_)
  refine z_iload F (pc := 69) dX0_push_69 (lv_at hl 0 rfl) ?_
  exact hret _ _ _ _ ax ((zU so ax sr), (zU nu ax k), (zU al ax v), (zU ak ax w), (min (an + 1) 6), ((ax + 1) % 6)) dX0_push_71 (by omega) (by (try dsimp only) <;> (exact ⟨rfl, rfl, rfl, rfl, rfl, rfl, rfl⟩)) hW

set_option maxHeartbeats 4000000 in
set_option maxRecDepth 100000 in
theorem c_X0_pop (l : Launch) (D : va_G) (cI cZ : ClassId) (aA : Nat → Nat) (so nu al ak ap : Int → Int) (an ax : Int) (sz0 : Nat) (ha : (0 ≤ an ∧ an ≤ 6) ∧ (0 ≤ ax ∧ ax < 6)) : Met l yX0_pop wsX0_pop ({ frames := 1, cells := 0, slots := 0, locals := 22 } : Room) (zPc D cI cZ [.ref (aA 0)] (wA cI cZ aA so nu al ak ap an ax) sz0) (zQi D cI cZ (wA cI cZ aA so nu al ak ap an ax) sz0 (fun (r : Int) (u : (Int) × (Int)) => (r = (ax - 1) % 6) ∧ (u.1 = max (an - 1) 0 ∧ u.2 = (ax - 1) % 6)) (fun (u : (Int) × (Int)) => wA cI cZ aA so nu al ak ap u.1 u.2)) 0 0 (va_A (wA cI cZ aA so nu al ak ap an ax) sz0) := by
  refine z_ofI (maxL := 1) (plainFor_of_name (by decide)) rfl (Nat.le_of_ble_eq_true rfl) (Or.inl rfl) ?_
  intro p e s m below meth c A ls Q F hK hW hA hl hret
  have hl : lv_has ls 1 [(0, .ref (aA 0))] := hl
  have inX0 : ∀ w ∈ u_ws RX0 TX0 7, w ∈ wsX0_pop := fun _ h => List.mem_cons_of_mem _ (List.mem_append_right _ h)
  refine z_aloadn F (pc := 0) dX0_pop_0 rfl (lv_at hl 0 rfl) ?_
  refine z_aloadn F (pc := 1) dX0_pop_1 rfl (lv_at hl 0 rfl) ?_
  refine z_get F (pc := 2) (C := RX0) (T := TX0) (N := 7) (ci := 0) inX0 hK hW 0 6 rfl rfl (by decide) rfl (List.mem_of_getElem? (i := 1) rfl) (v := .int (iI ax)) rfl dX0_pop_2 ?_
  refine z_iconst F (pc := 5) (1) dX0_pop_5 ?_
  refine z_isub F (pc := 6) dX0_pop_6 ?_
  refine z_bipush F (pc := 7) (6) (by decide +kernel) dX0_pop_7 ?_
  refine z_callSi F (pc := 9) hK hW hA (As := [.int (iI (ax - 1)), .int (iI 6)]) (rest := [.ref (aA 0)]) (c_J9_floorMod_7cf53 l D cI cZ (ax - 1) 6 _ (by omega) (by omega) (by omega) (by omega)) (va_cwS 2 F.2.2.2.2 gX0_pop_J9_floorMod_7cf53 rfl rfl rfl (by decide +kernel) ⟨Nat.le_of_ble_eq_true rfl, Nat.le_of_ble_eq_true rfl⟩) rfl rfl hl.1 (Nat.le_of_ble_eq_true rfl) dX0_pop_9 ⟨Nat.le_of_ble_eq_true rfl, Nat.le_of_ble_eq_true rfl⟩ (fun z_9 H locs r_z_9 hp_9 hW => ?_)
  replace hp_9 := hp_9.symm
  subst hp_9
  refine z_put F (pc := 12) (C := RX0) (T := TX0) (N := 7) (ci := 0) inX0 tyX0 tyX0_ok nmX0 hK hW (ws' := wA cI cZ aA so nu al ak ap an ((ax - 1) % 6)) 0 6 rfl rfl (by decide) rfl (List.mem_of_getElem? (i := 1) rfl) rfl rfl (Nat.le_of_ble_eq_true rfl) dX0_pop_12 rfl (fun H locs hW => ?_)
  refine z_aloadn F (pc := 15) dX0_pop_15 rfl (lv_at hl 0 rfl) ?_
  refine z_aloadn F (pc := 16) dX0_pop_16 rfl (lv_at hl 0 rfl) ?_
  refine z_get F (pc := 17) (C := RX0) (T := TX0) (N := 7) (ci := 0) inX0 hK hW 0 5 rfl rfl (by decide) rfl (List.mem_of_getElem? (i := 2) rfl) (v := .int (iI an)) rfl dX0_pop_17 ?_
  refine z_iconst F (pc := 20) (1) dX0_pop_20 ?_
  refine z_isub F (pc := 21) dX0_pop_21 ?_
  refine z_iconst F (pc := 22) (0) dX0_pop_22 ?_
  refine z_mmax F (pc := 23) hl.1 (List.mem_of_getElem? (i := 3) rfl) (List.mem_of_getElem? (i := 4) rfl) (List.mem_of_getElem? (i := 5) rfl) (List.mem_of_getElem? (i := 6) rfl) (Nat.le_of_ble_eq_true rfl) (Nat.le_of_ble_eq_true rfl) (Nat.le_of_ble_eq_true rfl) (Nat.le_of_ble_eq_true rfl) dX0_pop_23 (by omega) ?_
  refine z_put F (pc := 26) (C := RX0) (T := TX0) (N := 7) (ci := 0) inX0 tyX0 tyX0_ok nmX0 hK hW (ws' := wA cI cZ aA so nu al ak ap (max (an - 1) 0) ((ax - 1) % 6)) 0 5 rfl rfl (by decide) rfl (List.mem_of_getElem? (i := 2) rfl) rfl rfl (Nat.le_of_ble_eq_true rfl) dX0_pop_26 rfl (fun H locs hW => ?_)
  refine z_aloadn F (pc := 29) dX0_pop_29 rfl (lv_at hl 0 rfl) ?_
  refine z_get F (pc := 30) (C := RX0) (T := TX0) (N := 7) (ci := 0) inX0 hK hW 0 6 rfl rfl (by decide) rfl (List.mem_of_getElem? (i := 1) rfl) (v := .int (iI ((ax - 1) % 6))) rfl dX0_pop_30 ?_
  exact hret _ _ _ _ ((ax - 1) % 6) ((max (an - 1) 0), ((ax - 1) % 6)) dX0_pop_33 (by omega) (by (try dsimp only) <;> (exact ⟨rfl, rfl, rfl⟩)) hW
