theorem TB_cong {c c2 : Int → Int → Int} (hc : ∀ i j, 0 ≤ i → i < 8 → 0 ≤ j → j < 8 → c i j = c2 i j) : ∀ n : Nat, n ≤ 255 → ∀ j, TB c ((n : Int) + 1) j = TB c2 ((n : Int) + 1) j
  | 0, _, j => by rw [show ((0 : Nat) : Int) + 1 = 1 from rfl, TB_1, TB_1]
  | n + 1, h, j => by
    have ih := TB_cong hc n (by omega)
    rw [show ((n + 1 : Nat) : Int) + 1 = ((n : Int) + 1) + 1 by omega, TB_s c (by omega), TB_s c2 (by omega)]
    have e : lsm c (TB c ((n : Int) + 1)) ((n : Int) + 1) 8 = lsm c2 (TB c2 ((n : Int) + 1)) ((n : Int) + 1) 8 := lsN_cong (by omega) hc (fun j _ _ => ih j) 8 (Nat.le_refl _)
    rw [e]
    unfold zU
    by_cases q : j = (n : Int) + 1
    · rw [if_pos q, if_pos q]
    · rw [if_neg q, if_neg q]; exact ih j
def eqH (f g : Int → Int) : Prop := ∀ j, 0 ≤ j → j < 16 → f j = g j
theorem eqH_tn {f g : Int → Int} (h : eqH f g) : eqH (tn f) (tn g) := by
  intro j j0 j1
  unfold tn
  have hj : 0 ≤ j ∧ j < 16 := ⟨j0, j1⟩
  rw [if_pos hj, if_pos hj]
  by_cases q : j % 2 = 0
  · rw [if_pos q, if_pos q, h (j + 1) (by omega) (by omega)]
  · rw [if_neg q, if_neg q, h (j - 1) (by omega) (by omega)]
theorem fr_cong {f g : Int → Int} (h : eqH f g) (pt : Int → Int) (b : Int) {i j : Int} (hi : 0 ≤ i) (hi2 : i < 8) : fr f pt b i j = fr g pt b i j := by
  unfold fr
  rw [h (2 * i) (by omega) (by omega), h (2 * i + 1) (by omega) (by omega)]
theorem dU_cong {f g : Int → Int} (h : eqH f g) (pt : Int → Int) (b q : Int) : dU f pt b q = dU g pt b q := by
  have c1 : cL f pt b = cL g pt b := TB_cong (fun i j a1 a2 _ _ => fr_cong h pt b a1 a2) 255 (Nat.le_refl _) 255
  have c2 : sT f pt b = sT g pt b := by
    unfold sT
    rw [sm_8, sm_8, fr_cong h pt b (i := 0) (by omega) (by omega), fr_cong h pt b (i := 1) (by omega) (by omega), fr_cong h pt b (i := 2) (by omega) (by omega), fr_cong h pt b (i := 3) (by omega) (by omega), fr_cong h pt b (i := 4) (by omega) (by omega), fr_cong h pt b (i := 5) (by omega) (by omega), fr_cong h pt b (i := 6) (by omega) (by omega), fr_cong h pt b (i := 7) (by omega) (by omega)]
  have c3 : bK f pt b = bK g pt b := by
    unfold bK
    rw [sm_8, sm_8, fr_cong h pt b (i := 0) (by omega) (by omega), fr_cong h pt b (i := 1) (by omega) (by omega), fr_cong h pt b (i := 2) (by omega) (by omega), fr_cong h pt b (i := 3) (by omega) (by omega), fr_cong h pt b (i := 4) (by omega) (by omega), fr_cong h pt b (i := 5) (by omega) (by omega), fr_cong h pt b (i := 6) (by omega) (by omega), fr_cong h pt b (i := 7) (by omega) (by omega)]
  unfold dU
  rw [c1, c2, c3]
theorem tnN_cong {f g : Int → Int} (h : eqH f g) : ∀ n : Nat, eqH (tnN f n) (tnN g n)
  | 0 => h
  | n + 1 => eqH_tn (tnN_cong h n)
theorem dN_cong {f g : Int → Int} (h : eqH f g) (pt : Int → Int) (b q : Int) : ∀ n : Nat, dN f pt b q n = dN g pt b q n
  | 0 => dU_cong h pt b q
  | n + 1 => by rw [dN, dN, dN_cong h pt b q n, dU_cong (tnN_cong h (n + 1)) pt b q]
theorem dF_cong {f g : Int → Int} (h : eqH f g) (pt : Int → Int) (b q : Int) : dF f pt b q = dF g pt b q := by
  unfold dF dI
  rw [dN_cong h, dU_cong h]
/-- the row of a taught one -/
def rO (pt : Int → Int) (a : Int) : Int → Int := fun j => pt (16 * a + j)
theorem eqH_zC (f g : Int → Int) (b : Int) : eqH (zC f g b 0 16) (fun j => f (b + j)) := by
  intro j j0 j1
  rw [zC_in _ _ (by omega), show b + (j - 0) = b + j by omega]
theorem eqH_rO (pt g : Int → Int) (a : Int) : eqH (zC pt g (16 * a) 0 16) (rO pt a) := eqH_zC pt g (16 * a)
theorem eqH_nm (f g : Int → Int) : eqH (zC f g 0 0 16) f := by
  intro j j0 j1
  rw [zC_in _ _ (by omega), show 0 + (j - 0) = j by omega]

set_option maxHeartbeats 4000000 in
set_option maxRecDepth 100000 in
theorem c_X8_far (l : Launch) (D : va_G) (cI cZ : ClassId) (aR : Nat → Nat) (xs ys lf ev nm lb kd pt so nu al ak ap he le rw cx cr cl ll tl ts tc : Int → Int) (sz mn ac en mg ln cn wc wp : Int) (i k j : Int) (sz0 : Nat) (r_i : (-2147483648 ≤ i ∧ i < 2147483648)) (r_k : (-2147483648 ≤ k ∧ k < 2147483648)) (r_j : (-2147483648 ≤ j ∧ j < 2147483648)) (hh : inH he) (hp : inP pt (16 * k)) (hk : 0 ≤ k ∧ k < 17) (hi : (0 ≤ i ∧ i < 8) ∧ (0 ≤ j ∧ j < 8)) : Met l yX8_far wsX8_far ({ frames := 1, cells := 0, slots := 0, locals := 20 } : Room) (zPc D cI cZ [.ref (aR 0), .int (iI i), .int (iI k), .int (iI j)] (wR cI cZ aR xs ys lf ev nm lb kd pt so nu al ak ap he le rw cx cr cl ll tl ts tc sz mn ac en mg ln cn wc wp) sz0) (zQi D cI cZ (wR cI cZ aR xs ys lf ev nm lb kd pt so nu al ak ap he le rw cx cr cl ll tl ts tc sz mn ac en mg ln cn wc wp) sz0 (fun (r : Int) (u : Unit) => r = fr he pt (16 * k) i j) (fun (u : Unit) => wR cI cZ aR xs ys lf ev nm lb kd pt so nu al ak ap he le rw cx cr cl ll tl ts tc sz mn ac en mg ln cn wc wp)) 0 0 (va_A (wR cI cZ aR xs ys lf ev nm lb kd pt so nu al ak ap he le rw cx cr cl ll tl ts tc sz mn ac en mg ln cn wc wp) sz0) := by
  have a1 := hh (2 * i) (by omega) (by omega)
  have a2 := hh (2 * i + 1) (by omega) (by omega)
  have a3 := hp (16 * k + 2 * j) (by omega) (by omega)
  have a4 := hp (16 * k + 2 * j + 1) (by omega) (by omega)
  refine z_ofI (maxL := 4) (plainFor_of_name (by decide)) rfl (Nat.le_of_ble_eq_true rfl) (Or.inl rfl) ?_
  intro p e s m below meth c A ls Q F hK hW hA hl hret
  have hl : lv_has ls 4 [(0, .ref (aR 0)), (1, .int (iI i)), (2, .int (iI k)), (3, .int (iI j))] := hl
  have inX8 : ∀ w ∈ u_ws RX8 TX8 32, w ∈ wsX8_far := fun _ h => List.mem_cons_of_mem _ (List.mem_append_right _ h)
  refine z_aloadn F (pc := 0) dX8_far_0 rfl (lv_at hl 0 rfl) ?_
  refine z_get F (pc := 1) (C := RX8) (T := TX8) (N := 32) (ci := 8) inX8 hK hW 0 18 rfl rfl (by decide) rfl (List.mem_of_getElem? (i := 1) rfl) (v := .ref (aR 14)) rfl dX8_far_1 ?_
  refine z_iconst F (pc := 4) (2) dX8_far_4 ?_
  refine z_iloadn F (pc := 5) dX8_far_5 rfl (lv_at hl 1 rfl) ?_
  refine z_imul F (pc := 6) dX8_far_6 ?_
  refine z_iald F (pc := 7) hK hW 14 rfl (by decide) dX8_far_7 (by omega) ?_
  refine z_aloadn F (pc := 8) dX8_far_8 rfl (lv_at hl 0 rfl) ?_
  refine z_get F (pc := 9) (C := RX8) (T := TX8) (N := 32) (ci := 8) inX8 hK hW 0 9 rfl rfl (by decide) rfl (List.mem_of_getElem? (i := 2) rfl) (v := .ref (aR 8)) rfl dX8_far_9 ?_
  refine z_bipush F (pc := 12) (16) (by decide +kernel) dX8_far_12 ?_
  refine z_iloadn F (pc := 14) dX8_far_14 rfl (lv_at hl 2 rfl) ?_
  refine z_imul F (pc := 15) dX8_far_15 ?_
  refine z_iconst F (pc := 16) (2) dX8_far_16 ?_
  refine z_iloadn F (pc := 17) dX8_far_17 rfl (lv_at hl 3 rfl) ?_
  refine z_imul F (pc := 18) dX8_far_18 ?_
  refine z_iadd F (pc := 19) dX8_far_19 ?_
  refine z_iald F (pc := 20) hK hW 8 rfl (by decide) dX8_far_20 (by omega) ?_
  refine z_isub F (pc := 21) dX8_far_21 ?_
  refine z_callSi F (pc := 22) hK hW hA (As := [.int (iI ((he (2 * i)) - (pt ((16 * k) + (2 * j)))))]) (rest := []) (c_X8_plain l D cI cZ ((he (2 * i)) - (pt ((16 * k) + (2 * j)))) _ (by omega) (by omega)) (va_cwS 1 F.2.2.2.2 gX8_far_X8_plain rfl rfl rfl (by decide +kernel) ⟨Nat.le_of_ble_eq_true rfl, Nat.le_of_ble_eq_true rfl⟩) rfl rfl hl.1 (Nat.le_of_ble_eq_true rfl) dX8_far_22 ⟨Nat.le_of_ble_eq_true rfl, Nat.le_of_ble_eq_true rfl⟩ (fun z_22 H locs r_z_22 hp_22 hW => ?_)
  replace hp_22 := hp_22.symm
  subst hp_22
  refine z_aloadn F (pc := 25) dX8_far_25 rfl (lv_at hl 0 rfl) ?_
  refine z_get F (pc := 26) (C := RX8) (T := TX8) (N := 32) (ci := 8) inX8 hK hW 0 18 rfl rfl (by decide) rfl (List.mem_of_getElem? (i := 1) rfl) (v := .ref (aR 14)) rfl dX8_far_26 ?_
  refine z_iconst F (pc := 29) (2) dX8_far_29 ?_
  refine z_iloadn F (pc := 30) dX8_far_30 rfl (lv_at hl 1 rfl) ?_
  refine z_imul F (pc := 31) dX8_far_31 ?_
  refine z_iconst F (pc := 32) (1) dX8_far_32 ?_
  refine z_iadd F (pc := 33) dX8_far_33 ?_
  refine z_iald F (pc := 34) hK hW 14 rfl (by decide) dX8_far_34 (by omega) ?_
  refine z_aloadn F (pc := 35) dX8_far_35 rfl (lv_at hl 0 rfl) ?_
  refine z_get F (pc := 36) (C := RX8) (T := TX8) (N := 32) (ci := 8) inX8 hK hW 0 9 rfl rfl (by decide) rfl (List.mem_of_getElem? (i := 2) rfl) (v := .ref (aR 8)) rfl dX8_far_36 ?_
  refine z_bipush F (pc := 39) (16) (by decide +kernel) dX8_far_39 ?_
  refine z_iloadn F (pc := 41) dX8_far_41 rfl (lv_at hl 2 rfl) ?_
  refine z_imul F (pc := 42) dX8_far_42 ?_
  refine z_iconst F (pc := 43) (2) dX8_far_43 ?_
  refine z_iloadn F (pc := 44) dX8_far_44 rfl (lv_at hl 3 rfl) ?_
  refine z_imul F (pc := 45) dX8_far_45 ?_
  refine z_iadd F (pc := 46) dX8_far_46 ?_
  refine z_iconst F (pc := 47) (1) dX8_far_47 ?_
  refine z_iadd F (pc := 48) dX8_far_48 ?_
  refine z_iald F (pc := 49) hK hW 8 rfl (by decide) dX8_far_49 (by omega) ?_
  refine z_isub F (pc := 50) dX8_far_50 ?_
  refine z_callSi F (pc := 51) hK hW hA (As := [.int (iI ((he ((2 * i) + 1)) - (pt (((16 * k) + (2 * j)) + 1))))]) (rest := [.int (iI ((((he (2 * i)) - (pt ((16 * k) + (2 * j)))).natAbs : Nat) : Int))]) (c_X8_plain l D cI cZ ((he ((2 * i) + 1)) - (pt (((16 * k) + (2 * j)) + 1))) _ (by omega) (by omega)) (va_cwS 1 F.2.2.2.2 gX8_far_X8_plain rfl rfl rfl (by decide +kernel) ⟨Nat.le_of_ble_eq_true rfl, Nat.le_of_ble_eq_true rfl⟩) rfl rfl hl.1 (Nat.le_of_ble_eq_true rfl) dX8_far_51 ⟨Nat.le_of_ble_eq_true rfl, Nat.le_of_ble_eq_true rfl⟩ (fun z_51 H locs r_z_51 hp_51 hW => ?_)
  replace hp_51 := hp_51.symm
  subst hp_51
  refine z_iadd F (pc := 54) dX8_far_54 ?_
  exact hret _ _ _ _ (((((he (2 * i)) - (pt ((16 * k) + (2 * j)))).natAbs : Nat) : Int) + ((((he ((2 * i) + 1)) - (pt (((16 * k) + (2 * j)) + 1))).natAbs : Nat) : Int)) () dX8_far_55 (by omega) (by rfl) hW

set_option maxHeartbeats 4000000 in
set_option maxRecDepth 100000 in
theorem c_X8_straightF (l : Launch) (D : va_G) (cI cZ : ClassId) (aR : Nat → Nat) (xs ys lf ev nm lb kd pt so nu al ak ap he le rw cx cr cl ll tl ts tc : Int → Int) (sz mn ac en mg ln cn wc wp : Int) (k bk : Int) (sz0 : Nat) (r_k : (-2147483648 ≤ k ∧ k < 2147483648)) (r_bk : (-2147483648 ≤ bk ∧ bk < 2147483648)) (hh : inH he) (hp : inP pt (16 * k)) (hk : 0 ≤ k ∧ k < 17) (h0 : bk = 0) : Met l yX8_straight wsX8_straight ({ frames := 2, cells := 0, slots := 0, locals := 43 } : Room) (zPc D cI cZ [.ref (aR 0), .int (iI k), .int (iI bk)] (wR cI cZ aR xs ys lf ev nm lb kd pt so nu al ak ap he le rw cx cr cl ll tl ts tc sz mn ac en mg ln cn wc wp) sz0) (zQi D cI cZ (wR cI cZ aR xs ys lf ev nm lb kd pt so nu al ak ap he le rw cx cr cl ll tl ts tc sz mn ac en mg ln cn wc wp) sz0 (fun (r : Int) (u : Unit) => r = sT he pt (16 * k)) (fun (u : Unit) => wR cI cZ aR xs ys lf ev nm lb kd pt so nu al ak ap he le rw cx cr cl ll tl ts tc sz mn ac en mg ln cn wc wp)) 0 0 (va_A (wR cI cZ aR xs ys lf ev nm lb kd pt so nu al ak ap he le rw cx cr cl ll tl ts tc sz mn ac en mg ln cn wc wp) sz0) := by
  have hb := sT_b hh hp
  refine z_ofI (maxL := 5) (plainFor_of_name (by decide)) rfl (Nat.le_of_ble_eq_true rfl) (Or.inl rfl) ?_
  intro p e s m below meth c A ls Q F hK hW hA hl hret
  have hl : lv_has ls 5 [(0, .ref (aR 0)), (1, .int (iI k)), (2, .int (iI bk))] := hl
  refine z_iconst F (pc := 0) (0) dX8_straight_0 ?_
  refine z_istoren F (pc := 1) hl (lv' := [(3, .int (iI 0)), (0, .ref (aR 0)), (1, .int (iI k)), (2, .int (iI bk))]) dX8_straight_1 rfl (by decide) rfl (fun ls hl => ?_)
  refine z_iconst F (pc := 2) (0) dX8_straight_2 ?_
  refine z_istore F (pc := 3) hl (lv' := [(4, .int (iI 0)), (3, .int (iI 0)), (0, .ref (aR 0)), (1, .int (iI k)), (2, .int (iI bk))]) dX8_straight_3 (by decide) rfl (fun ls hl => ?_)
  have cut_5 : ∀ (fuel : Nat) (sa : Int) (i : Int) (H : Heap) (locs : List Loc) (ls : Array Slot), (8 - i).toNat < fuel → (0 ≤ i ∧ i ≤ 8) → (sa = sm (fun i9 => fr he pt (16 * k) i9 i9) i) → lv_has ls 5 [(4, .int (iI i)), (3, .int (iI sa)), (0, .ref (aR 0)), (1, .int (iI k)), (2, .int (iI bk))] → zW D A s.heap H locs (wR cI cZ aR xs ys lf ev nm lb kd pt so nu al ak ap he le rw cx cr cl ll tl ts tc sz mn ac en mg ln cn wc wp) → W p l e ({ frames := 2, cells := 0, slots := 0, locals := 43 } : Room) s m ([.ref (aR 0), .int (iI k), .int (iI bk)] : List Value).toArray below meth c H locs 0 0 Q (F0 m 5 ls []) := by
    intro fuel
    induction fuel with
    | zero => intro sa i H locs ls hm; exact absurd hm (Nat.not_lt_zero _)
    | succ fuel ih_5 =>
      intro sa i H locs ls hm_5 h1 h2 hl hW
      refine z_iload F (pc := 5) dX8_straight_5 (lv_at hl 0 rfl) ?_
      refine z_bipush F (pc := 7) (8) (by decide +kernel) dX8_straight_7 ?_
      refine z_icmp_ge F (pc := 9) 42 dX8_straight_9 (by decide) (by omega) (fun c_9 => ?_) (fun c_9 => ?_)
      · skip
        have hfin : sa = sT he pt (16 * k) := by rw [h2, show i = 8 by omega]; exact rfl
        refine z_iloadn F (pc := 42) dX8_straight_42 rfl (lv_at hl 1 rfl) ?_
        exact hret _ _ _ _ sa () dX8_straight_43 (by rw [hfin]; omega) (by exact hfin) hW
      · skip
        refine z_iloadn F (pc := 12) dX8_straight_12 rfl (lv_at hl 1 rfl) ?_
        refine z_aloadn F (pc := 13) dX8_straight_13 rfl (lv_at hl 2 rfl) ?_
        refine z_iloadn F (pc := 14) dX8_straight_14 rfl (lv_at hl 4 rfl) ?_
        refine z_if_eq F (pc := 15) 26 dX8_straight_15 (by decide) (by omega) (fun c_15 => ?_) (fun c_15 => ?_)
        · skip
          refine z_iload F (pc := 26) dX8_straight_26 (lv_at hl 0 rfl) ?_
          refine z_iloadn F (pc := 28) dX8_straight_28 rfl (lv_at hl 3 rfl) ?_
          refine z_iload F (pc := 29) dX8_straight_29 (lv_at hl 0 rfl) ?_
          refine z_callVi F (pc := 31) hK hW hA (As := [.int (iI i), .int (iI k), .int (iI i)]) (rest := [.int (iI sa)]) (ws' := fun (u : Unit) => wR cI cZ aR xs ys lf ev nm lb kd pt so nu al ak ap he le rw cx cr cl ll tl ts tc sz mn ac en mg ln cn wc wp) (wr := ([])) (c_X8_far l D cI cZ aR xs ys lf ev nm lb kd pt so nu al ak ap he le rw cx cr cl ll tl ts tc sz mn ac en mg ln cn wc wp i k i _ (by omega) (by omega) (by omega) (by exact hh) (by exact hp) (by omega) (by omega)) (cwV 3 F.2.2.2.2 gX8_straight_X8_far rfl rfl rfl (by decide +kernel) ⟨Nat.le_of_ble_eq_true rfl, Nat.le_of_ble_eq_true rfl⟩) [0, 1, 2, 3, 4, 5, 6, 7, 8, 9, 10, 11, 12, 13, 14, 15, 16, 17, 18, 19, 20, 21, 22, 23] [] [0, 1, 2, 3, 4, 5, 6, 7, 8, 9, 10, 11, 12, 13, 14, 15, 16, 17, 18, 19, 20, 21, 22, 23] rfl rfl (by decide) (by decide) (by decide) (fun _ => rfl) (by decide) (q0 := 0) (ci := 8) rfl rfl rfl rfl rfl hl.1 (Nat.le_of_ble_eq_true rfl) dX8_straight_31 ⟨Nat.le_of_ble_eq_true rfl, Nat.le_of_ble_eq_true rfl⟩ (fun z_31 u H locs r_z_31 hp_31 hW => ?_)
          replace hp_31 := hp_31.symm
          subst hp_31
          refine z_iadd F (pc := 34) dX8_straight_34 ?_
          refine z_istoren F (pc := 35) hl (lv' := [(3, .int (iI (sa + (fr he pt (16 * k) i i)))), (4, .int (iI i)), (0, .ref (aR 0)), (1, .int (iI k)), (2, .int (iI bk))]) dX8_straight_35 rfl (by decide) rfl (fun ls hl => ?_)
          refine z_iinc F (pc := 36) hl (lv' := [(4, .int (iI (i + 1))), (3, .int (iI (sa + (fr he pt (16 * k) i i)))), (0, .ref (aR 0)), (1, .int (iI k)), (2, .int (iI bk))]) dX8_straight_36 (k := 1) rfl (by decide) rfl (fun ls hl => ?_)
          refine z_goto F (pc := 39) 5 dX8_straight_39 (by decide) ?_
          exact ih_5 (sa + (fr he pt (16 * k) i i)) (i + 1) _ _ _ (by omega) (by omega) (by rw [sm_s _ h1.1, h2]) (lv_sub hl [0, 1, 2, 3, 4] rfl) hW
        · skip
          exact absurd h0 c_15
  exact cut_5 _ 0 0 _ _ _ (Nat.lt_succ_self _) (by omega) (by exact (sm_0 _).symm) (lv_sub hl [0, 1, 2, 3, 4] rfl) hW

set_option maxHeartbeats 4000000 in
set_option maxRecDepth 100000 in
theorem c_X8_straightB (l : Launch) (D : va_G) (cI cZ : ClassId) (aR : Nat → Nat) (xs ys lf ev nm lb kd pt so nu al ak ap he le rw cx cr cl ll tl ts tc : Int → Int) (sz mn ac en mg ln cn wc wp : Int) (k bk : Int) (sz0 : Nat) (r_k : (-2147483648 ≤ k ∧ k < 2147483648)) (r_bk : (-2147483648 ≤ bk ∧ bk < 2147483648)) (hh : inH he) (hp : inP pt (16 * k)) (hk : 0 ≤ k ∧ k < 17) (h0 : bk = 1) : Met l yX8_straight wsX8_straight ({ frames := 2, cells := 0, slots := 0, locals := 43 } : Room) (zPc D cI cZ [.ref (aR 0), .int (iI k), .int (iI bk)] (wR cI cZ aR xs ys lf ev nm lb kd pt so nu al ak ap he le rw cx cr cl ll tl ts tc sz mn ac en mg ln cn wc wp) sz0) (zQi D cI cZ (wR cI cZ aR xs ys lf ev nm lb kd pt so nu al ak ap he le rw cx cr cl ll tl ts tc sz mn ac en mg ln cn wc wp) sz0 (fun (r : Int) (u : Unit) => r = bK he pt (16 * k)) (fun (u : Unit) => wR cI cZ aR xs ys lf ev nm lb kd pt so nu al ak ap he le rw cx cr cl ll tl ts tc sz mn ac en mg ln cn wc wp)) 0 0 (va_A (wR cI cZ aR xs ys lf ev nm lb kd pt so nu al ak ap he le rw cx cr cl ll tl ts tc sz mn ac en mg ln cn wc wp) sz0) := by
  have hb := bK_b hh hp
  refine z_ofI (maxL := 5) (plainFor_of_name (by decide)) rfl (Nat.le_of_ble_eq_true rfl) (Or.inl rfl) ?_
  intro p e s m below meth c A ls Q F hK hW hA hl hret
  have hl : lv_has ls 5 [(0, .ref (aR 0)), (1, .int (iI k)), (2, .int (iI bk))] := hl
  refine z_iconst F (pc := 0) (0) dX8_straight_0 ?_
  refine z_istoren F (pc := 1) hl (lv' := [(3, .int (iI 0)), (0, .ref (aR 0)), (1, .int (iI k)), (2, .int (iI bk))]) dX8_straight_1 rfl (by decide) rfl (fun ls hl => ?_)
  refine z_iconst F (pc := 2) (0) dX8_straight_2 ?_
  refine z_istore F (pc := 3) hl (lv' := [(4, .int (iI 0)), (3, .int (iI 0)), (0, .ref (aR 0)), (1, .int (iI k)), (2, .int (iI bk))]) dX8_straight_3 (by decide) rfl (fun ls hl => ?_)
  have cut_5 : ∀ (fuel : Nat) (sa : Int) (i : Int) (H : Heap) (locs : List Loc) (ls : Array Slot), (8 - i).toNat < fuel → (0 ≤ i ∧ i ≤ 8) → (sa = sm (fun i9 => fr he pt (16 * k) (7 - i9) i9) i) → lv_has ls 5 [(4, .int (iI i)), (3, .int (iI sa)), (0, .ref (aR 0)), (1, .int (iI k)), (2, .int (iI bk))] → zW D A s.heap H locs (wR cI cZ aR xs ys lf ev nm lb kd pt so nu al ak ap he le rw cx cr cl ll tl ts tc sz mn ac en mg ln cn wc wp) → W p l e ({ frames := 2, cells := 0, slots := 0, locals := 43 } : Room) s m ([.ref (aR 0), .int (iI k), .int (iI bk)] : List Value).toArray below meth c H locs 0 0 Q (F0 m 5 ls []) := by
    intro fuel
    induction fuel with
    | zero => intro sa i H locs ls hm; exact absurd hm (Nat.not_lt_zero _)
    | succ fuel ih_5 =>
      intro sa i H locs ls hm_5 h1 h2 hl hW
      refine z_iload F (pc := 5) dX8_straight_5 (lv_at hl 0 rfl) ?_
      refine z_bipush F (pc := 7) (8) (by decide +kernel) dX8_straight_7 ?_
      refine z_icmp_ge F (pc := 9) 42 dX8_straight_9 (by decide) (by omega) (fun c_9 => ?_) (fun c_9 => ?_)
      · skip
        have hfin : sa = bK he pt (16 * k) := by rw [h2, show i = 8 by omega]; exact (bK_e he pt (16 * k)).symm
        refine z_iloadn F (pc := 42) dX8_straight_42 rfl (lv_at hl 1 rfl) ?_
        exact hret _ _ _ _ sa () dX8_straight_43 (by rw [hfin]; omega) (by exact hfin) hW
      · skip
        refine z_iloadn F (pc := 12) dX8_straight_12 rfl (lv_at hl 1 rfl) ?_
        refine z_aloadn F (pc := 13) dX8_straight_13 rfl (lv_at hl 2 rfl) ?_
        refine z_iloadn F (pc := 14) dX8_straight_14 rfl (lv_at hl 4 rfl) ?_
        refine z_if_eq F (pc := 15) 26 dX8_straight_15 (by decide) (by omega) (fun c_15 => ?_) (fun c_15 => ?_)
        · skip
          exact absurd c_15 (by omega)
        · skip
          refine z_bipush F (pc := 18) (7) (by decide +kernel) dX8_straight_18 ?_
          refine z_iload F (pc := 20) dX8_straight_20 (lv_at hl 0 rfl) ?_
          refine z_isub F (pc := 22) dX8_straight_22 ?_
          refine z_goto F (pc := 23) 28 dX8_straight_23 (by decide) ?_
          refine z_iloadn F (pc := 28) dX8_straight_28 rfl (lv_at hl 3 rfl) ?_
          refine z_iload F (pc := 29) dX8_straight_29 (lv_at hl 0 rfl) ?_
          refine z_callVi F (pc := 31) hK hW hA (As := [.int (iI (7 - i)), .int (iI k), .int (iI i)]) (rest := [.int (iI sa)]) (ws' := fun (u : Unit) => wR cI cZ aR xs ys lf ev nm lb kd pt so nu al ak ap he le rw cx cr cl ll tl ts tc sz mn ac en mg ln cn wc wp) (wr := ([])) (c_X8_far l D cI cZ aR xs ys lf ev nm lb kd pt so nu al ak ap he le rw cx cr cl ll tl ts tc sz mn ac en mg ln cn wc wp (7 - i) k i _ (by omega) (by omega) (by omega) (by exact hh) (by exact hp) (by omega) (by omega)) (cwV 3 F.2.2.2.2 gX8_straight_X8_far rfl rfl rfl (by decide +kernel) ⟨Nat.le_of_ble_eq_true rfl, Nat.le_of_ble_eq_true rfl⟩) [0, 1, 2, 3, 4, 5, 6, 7, 8, 9, 10, 11, 12, 13, 14, 15, 16, 17, 18, 19, 20, 21, 22, 23] [] [0, 1, 2, 3, 4, 5, 6, 7, 8, 9, 10, 11, 12, 13, 14, 15, 16, 17, 18, 19, 20, 21, 22, 23] rfl rfl (by decide) (by decide) (by decide) (fun _ => rfl) (by decide) (q0 := 0) (ci := 8) rfl rfl rfl rfl rfl hl.1 (Nat.le_of_ble_eq_true rfl) dX8_straight_31 ⟨Nat.le_of_ble_eq_true rfl, Nat.le_of_ble_eq_true rfl⟩ (fun z_31 u H locs r_z_31 hp_31 hW => ?_)
          replace hp_31 := hp_31.symm
          subst hp_31
          refine z_iadd F (pc := 34) dX8_straight_34 ?_
          refine z_istoren F (pc := 35) hl (lv' := [(3, .int (iI (sa + (fr he pt (16 * k) (7 - i) i)))), (4, .int (iI i)), (0, .ref (aR 0)), (1, .int (iI k)), (2, .int (iI bk))]) dX8_straight_35 rfl (by decide) rfl (fun ls hl => ?_)
          refine z_iinc F (pc := 36) hl (lv' := [(4, .int (iI (i + 1))), (3, .int (iI (sa + (fr he pt (16 * k) (7 - i) i)))), (0, .ref (aR 0)), (1, .int (iI k)), (2, .int (iI bk))]) dX8_straight_36 (k := 1) rfl (by decide) rfl (fun ls hl => ?_)
          refine z_goto F (pc := 39) 5 dX8_straight_39 (by decide) ?_
          exact ih_5 (sa + (fr he pt (16 * k) (7 - i) i)) (i + 1) _ _ _ (by omega) (by omega) (by rw [sm_s _ h1.1, h2]) (lv_sub hl [0, 1, 2, 3, 4] rfl) hW
  exact cut_5 _ 0 0 _ _ _ (Nat.lt_succ_self _) (by omega) (by exact (sm_0 _).symm) (lv_sub hl [0, 1, 2, 3, 4] rfl) hW

set_option maxHeartbeats 4000000 in
set_option maxRecDepth 100000 in
theorem c_X8_cloud (l : Launch) (D : va_G) (cI cZ : ClassId) (aR : Nat → Nat) (xs ys lf ev nm lb kd pt so nu al ak ap he le rw cx cr cl ll tl ts tc : Int → Int) (sz mn ac en mg ln cn wc wp : Int) (k : Int) (sz0 : Nat) (r_k : (-2147483648 ≤ k ∧ k < 2147483648)) (hh : inH he) (hp : inP pt (16 * k)) (hk : 0 ≤ k ∧ k < 17) : Met l yX8_cloud wsX8_cloud ({ frames := 2, cells := 0, slots := 0, locals := 43 } : Room) (zPc D cI cZ [.ref (aR 0), .int (iI k)] (wR cI cZ aR xs ys lf ev nm lb kd pt so nu al ak ap he le rw cx cr cl ll tl ts tc sz mn ac en mg ln cn wc wp) sz0) (zQi D cI cZ (wR cI cZ aR xs ys lf ev nm lb kd pt so nu al ak ap he le rw cx cr cl ll tl ts tc sz mn ac en mg ln cn wc wp) sz0 (fun (r : Int) (u : (Int → Int)) => r = cL he pt (16 * k)) (fun (u : (Int → Int)) => wR cI cZ aR xs ys lf ev nm lb kd pt so nu al ak ap he u rw cx cr cl ll tl ts tc sz mn ac en mg ln cn wc wp)) 0 0 (va_A (wR cI cZ aR xs ys lf ev nm lb kd pt so nu al ak ap he le rw cx cr cl ll tl ts tc sz mn ac en mg ln cn wc wp) sz0) := by
  have hcb := cL_b hh hp
  have hfc : ∀ i9 j9, 0 ≤ i9 → i9 < 8 → 0 ≤ j9 → j9 < 8 → 0 ≤ fr he pt (16 * k) i9 j9 ∧ fr he pt (16 * k) i9 j9 ≤ 4000 := fun i9 j9 a1 a2 a3 a4 => fr_b hh hp ⟨a1, a2⟩ ⟨a3, a4⟩
  refine z_ofI (maxL := 7) (plainFor_of_name (by decide)) rfl (Nat.le_of_ble_eq_true rfl) (Or.inl rfl) ?_
  intro p e s m below meth c A ls Q F hK hW hA hl hret
  have hl : lv_has ls 7 [(0, .ref (aR 0)), (1, .int (iI k))] := hl
  have inX8 : ∀ w ∈ u_ws RX8 TX8 32, w ∈ wsX8_cloud := fun _ h => List.mem_cons_of_mem _ (List.mem_append_right _ h)
  refine z_aloadn F (pc := 0) dX8_cloud_0 rfl (lv_at hl 0 rfl) ?_
  refine z_get F (pc := 1) (C := RX8) (T := TX8) (N := 32) (ci := 8) inX8 hK hW 0 19 rfl rfl (by decide) rfl (List.mem_of_getElem? (i := 1) rfl) (v := .ref (aR 15)) rfl dX8_cloud_1 ?_
  refine z_iconst F (pc := 4) (0) dX8_cloud_4 ?_
  refine z_iconst F (pc := 5) (0) dX8_cloud_5 ?_
  refine z_iast F (pc := 6) hK hW (ws' := wR cI cZ aR xs ys lf ev nm lb kd pt so nu al ak ap he (zU le 0 0) rw cx cr cl ll tl ts tc sz mn ac en mg ln cn wc wp) 15 rfl (by decide) dX8_cloud_6 (by omega) rfl (fun H locs hW => ?_)
  refine z_iconst F (pc := 7) (1) dX8_cloud_7 ?_
  refine z_istoren F (pc := 8) hl (lv' := [(2, .int (iI 1)), (0, .ref (aR 0)), (1, .int (iI k))]) dX8_cloud_8 rfl (by decide) rfl (fun ls hl => ?_)
  have cut_9 : ∀ (fuel : Nat) (x : Int) (l1 : Int → Int) (H : Heap) (locs : List Loc) (ls : Array Slot), (256 - x).toNat < fuel → (1 ≤ x ∧ x ≤ 256) → (∀ j, 0 ≤ j → j < x → l1 j = TB (fr he pt (16 * k)) x j) → lv_has ls 7 [(2, .int (iI x)), (0, .ref (aR 0)), (1, .int (iI k))] → zW D A s.heap H locs (wR cI cZ aR xs ys lf ev nm lb kd pt so nu al ak ap he l1 rw cx cr cl ll tl ts tc sz mn ac en mg ln cn wc wp) → W p l e ({ frames := 2, cells := 0, slots := 0, locals := 43 } : Room) s m ([.ref (aR 0), .int (iI k)] : List Value).toArray below meth c H locs 0 0 Q (F0 m 9 ls []) := by
    intro fuel
    induction fuel with
    | zero => intro x l1 H locs ls hm; exact absurd hm (Nat.not_lt_zero _)
    | succ fuel ih_9 =>
      intro x l1 H locs ls hm_9 k1 k2 hl hW
      refine z_iloadn F (pc := 9) dX8_cloud_9 rfl (lv_at hl 0 rfl) ?_
      refine z_sipush F (pc := 10) (256) (by decide +kernel) dX8_cloud_10 ?_
      refine z_icmp_ge F (pc := 13) 134 dX8_cloud_13 (by decide) (by omega) (fun c_13 => ?_) (fun c_13 => ?_)
      · skip
        have hfin : l1 255 = cL he pt (16 * k) := by rw [k2 255 (by omega) (by omega), show x = 256 by omega]; rfl
        refine z_aloadn F (pc := 134) dX8_cloud_134 rfl (lv_at hl 1 rfl) ?_
        refine z_get F (pc := 135) (C := RX8) (T := TX8) (N := 32) (ci := 8) inX8 hK hW 0 19 rfl rfl (by decide) rfl (List.mem_of_getElem? (i := 1) rfl) (v := .ref (aR 15)) rfl dX8_cloud_135 ?_
        refine z_sipush F (pc := 138) (255) (by decide +kernel) dX8_cloud_138 ?_
        refine z_iald F (pc := 141) hK hW 15 rfl (by decide) dX8_cloud_141 (by omega) ?_
        exact hret _ _ _ _ (l1 255) l1 dX8_cloud_142 (by rw [hfin]; omega) (by exact hfin) hW
      · skip
        have hle : ∀ j, 0 ≤ j → j < x → 0 ≤ l1 j ∧ l1 j ≤ 32000 := by
          intro j j0 j1
          rw [k2 j j0 j1]; exact TB_r hfc (by omega) j0 j1
        have hcr := cnt_r (s := x) (by omega)
        refine z_iconst F (pc := 16) (0) dX8_cloud_16 ?_
        refine z_istoren F (pc := 17) hl (lv' := [(3, .int (iI 0)), (2, .int (iI x)), (0, .ref (aR 0)), (1, .int (iI k))]) dX8_cloud_17 rfl (by decide) rfl (fun ls hl => ?_)
        refine z_iconst F (pc := 18) (0) dX8_cloud_18 ?_
        refine z_istore F (pc := 19) hl (lv' := [(4, .int (iI 0)), (3, .int (iI 0)), (2, .int (iI x)), (0, .ref (aR 0)), (1, .int (iI k))]) dX8_cloud_19 (by decide) rfl (fun ls hl => ?_)
        have cut_21 : ∀ (fuel : Nat) (my : Int) (j : Int) (H : Heap) (locs : List Loc) (ls : Array Slot), (8 - j).toNat < fuel → (0 ≤ j ∧ j ≤ 8) → (my = sm (bt x) j) → lv_has ls 7 [(4, .int (iI j)), (3, .int (iI my)), (2, .int (iI x)), (0, .ref (aR 0)), (1, .int (iI k))] → zW D A s.heap H locs (wR cI cZ aR xs ys lf ev nm lb kd pt so nu al ak ap he l1 rw cx cr cl ll tl ts tc sz mn ac en mg ln cn wc wp) → W p l e ({ frames := 2, cells := 0, slots := 0, locals := 43 } : Room) s m ([.ref (aR 0), .int (iI k)] : List Value).toArray below meth c H locs 0 0 Q (F0 m 21 ls []) := by
          intro fuel
          induction fuel with
          | zero => intro my j H locs ls hm; exact absurd hm (Nat.not_lt_zero _)
          | succ fuel ih_21 =>
            intro my j H locs ls hm_21 m1 m2 hl hW
            refine z_iload F (pc := 21) dX8_cloud_21 (lv_at hl 0 rfl) ?_
            refine z_bipush F (pc := 23) (8) (by decide +kernel) dX8_cloud_23 ?_
            refine z_icmp_ge F (pc := 25) 43 dX8_cloud_25 (by decide) (by omega) (fun c_25 => ?_) (fun c_25 => ?_)
            · skip
              have hmy : my = cnt x := by rw [m2, show j = 8 by omega, sm_8]; rfl
              subst hmy
              refine z_bipush F (pc := 43) (-4) (by decide +kernel) dX8_cloud_43 ?_
              refine z_istore F (pc := 45) hl (lv' := [(4, .int (iI (-4))), (3, .int (iI (cnt x))), (2, .int (iI x)), (0, .ref (aR 0)), (1, .int (iI k))]) dX8_cloud_45 (by decide) rfl (fun ls hl => ?_)
              refine z_iconst F (pc := 47) (0) dX8_cloud_47 ?_
              refine z_istore F (pc := 48) hl (lv' := [(5, .int (iI 0)), (4, .int (iI (-4))), (3, .int (iI (cnt x))), (2, .int (iI x)), (0, .ref (aR 0)), (1, .int (iI k))]) dX8_cloud_48 (by decide) rfl (fun ls hl => ?_)
              have cut_50 : ∀ (fuel : Nat) (ms : Int) (j : Int) (H : Heap) (locs : List Loc) (ls : Array Slot), (8 - j).toNat < fuel → (0 ≤ j ∧ j ≤ 8) → ((lsm (fr he pt (16 * k)) l1 x j = 1000000 ∧ ms = -4) ∨ (ms = lsm (fr he pt (16 * k)) l1 x j ∧ 0 ≤ ms ∧ ms ≤ 36000)) → lv_has ls 7 [(5, .int (iI j)), (4, .int (iI ms)), (3, .int (iI (cnt x))), (2, .int (iI x)), (0, .ref (aR 0)), (1, .int (iI k))] → zW D A s.heap H locs (wR cI cZ aR xs ys lf ev nm lb kd pt so nu al ak ap he l1 rw cx cr cl ll tl ts tc sz mn ac en mg ln cn wc wp) → W p l e ({ frames := 2, cells := 0, slots := 0, locals := 43 } : Room) s m ([.ref (aR 0), .int (iI k)] : List Value).toArray below meth c H locs 0 0 Q (F0 m 50 ls []) := by
                intro fuel
                induction fuel with
                | zero => intro ms j H locs ls hm; exact absurd hm (Nat.not_lt_zero _)
                | succ fuel ih_50 =>
                  intro ms j H locs ls hm_50 n1 n2 hl hW
                  refine z_iload F (pc := 50) dX8_cloud_50 (lv_at hl 0 rfl) ?_
                  refine z_bipush F (pc := 52) (8) (by decide +kernel) dX8_cloud_52 ?_
                  refine z_icmp_ge F (pc := 54) 120 dX8_cloud_54 (by decide) (by omega) (fun c_54 => ?_) (fun c_54 => ?_)
                  · skip
                    have hms : ms = lsm (fr he pt (16 * k)) l1 x 8 := by
                      rw [show j = 8 by omega] at n2
                      rcases n2 with ⟨z1, z2⟩ | ⟨z1, z2⟩
                      · exfalso
                        obtain ⟨j7, hj7, hb7⟩ := cnt_e hcr.1
                        have up := lsN_le (c := fr he pt (16 * k)) (tb := l1) (s := x) 8 j7 hj7 hb7
                        have d7 := bt_d (s := x) (by omega) (j := (j7 : Int)) (by omega) hb7
                        have v7 := hle (x - pw (j7 : Int)) (by omega) (by omega)
                        have w7 := hfc (cnt x - 1) (j7 : Int) (by omega) (by omega) (by omega) (by omega)
                        have z3 : lsN (fr he pt (16 * k)) l1 x 8 = 1000000 := z1
                        omega
                      · exact z1
                    have hs2 : ∀ j, 0 ≤ j → j < x + 1 → zU l1 x ms j = TB (fr he pt (16 * k)) (x + 1) j := by
                      intro j j0 j1
                      rw [TB_s _ k1.1]
                      by_cases e : j = x
                      · rw [e, zU_s, zU_s, hms]; exact lsN_cong (by omega) (fun i9 j9 a1 a2 a3 a4 => rfl) k2 8 (Nat.le_refl _)
                      · rw [zU_n _ _ e, zU_n _ _ e]; exact k2 j j0 (by omega)
                    refine z_aloadn F (pc := 120) dX8_cloud_120 rfl (lv_at hl 4 rfl) ?_
                    refine z_get F (pc := 121) (C := RX8) (T := TX8) (N := 32) (ci := 8) inX8 hK hW 0 19 rfl rfl (by decide) rfl (List.mem_of_getElem? (i := 1) rfl) (v := .ref (aR 15)) rfl dX8_cloud_121 ?_
                    refine z_iloadn F (pc := 124) dX8_cloud_124 rfl (lv_at hl 3 rfl) ?_
                    refine z_iload F (pc := 125) dX8_cloud_125 (lv_at hl 1 rfl) ?_
                    refine z_iast F (pc := 127) hK hW (ws' := wR cI cZ aR xs ys lf ev nm lb kd pt so nu al ak ap he (zU l1 x ms) rw cx cr cl ll tl ts tc sz mn ac en mg ln cn wc wp) 15 rfl (by decide) dX8_cloud_127 (by omega) rfl (fun H locs hW => ?_)
                    refine z_iinc F (pc := 128) hl (lv' := [(2, .int (iI (x + 1))), (5, .int (iI j)), (4, .int (iI ms)), (3, .int (iI (cnt x))), (0, .ref (aR 0)), (1, .int (iI k))]) dX8_cloud_128 (k := 3) rfl (by decide) rfl (fun ls hl => ?_)
                    refine z_goto F (pc := 131) 9 dX8_cloud_131 (by decide) ?_
                    exact ih_9 (x + 1) (zU l1 x ms) _ _ _ (by omega) (by omega) (by exact hs2) (lv_sub hl [0, 4, 5] rfl) hW
                  · skip
                    have hb01 := bt_01 x j
                    refine z_iloadn F (pc := 57) dX8_cloud_57 rfl (lv_at hl 3 rfl) ?_
                    refine z_iload F (pc := 58) dX8_cloud_58 (lv_at hl 0 rfl) ?_
                    refine z_ishrb F (pc := 60) dX8_cloud_60 (by omega) ?_
                    refine z_iconst F (pc := 61) (1) dX8_cloud_61 ?_
                    refine z_iand1 (x := x) (j := j) F (pc := 62) dX8_cloud_62 (by omega) ?_
                    refine z_iconst F (pc := 63) (1) dX8_cloud_63 ?_
                    refine z_icmp_ne F (pc := 64) 114 dX8_cloud_64 (by decide) (by omega) (fun c_64 => ?_) (fun c_64 => ?_)
                    · skip
                      refine z_iinc F (pc := 114) hl (lv' := [(5, .int (iI (j + 1))), (4, .int (iI ms)), (3, .int (iI (cnt x))), (2, .int (iI x)), (0, .ref (aR 0)), (1, .int (iI k))]) dX8_cloud_114 (k := 0) rfl (by decide) rfl (fun ls hl => ?_)
                      refine z_goto F (pc := 117) 50 dX8_cloud_117 (by decide) ?_
                      exact ih_50 ms (j + 1) _ _ _ (by omega) (by omega) (by first | (rw [lsm_t _ _ n1.1 c_64]; omega) | (rw [lsm_f _ _ n1.1 c_64]; exact n2)) (lv_sub hl [0, 1, 2, 3, 4, 5] rfl) hW
                    · skip
                      have hd := bt_d (s := x) (by omega) (j := j) (by omega) c_64
                      have hv := hle (x - pw j) (by omega) (by omega)
                      have hv2 := hfc (cnt x - 1) j (by omega) (by omega) (by omega) (by omega)
                      refine z_aloadn F (pc := 67) dX8_cloud_67 rfl (lv_at hl 4 rfl) ?_
                      refine z_get F (pc := 68) (C := RX8) (T := TX8) (N := 32) (ci := 8) inX8 hK hW 0 19 rfl rfl (by decide) rfl (List.mem_of_getElem? (i := 1) rfl) (v := .ref (aR 15)) rfl dX8_cloud_68 ?_
                      refine z_iloadn F (pc := 71) dX8_cloud_71 rfl (lv_at hl 3 rfl) ?_
                      refine z_iconst F (pc := 72) (1) dX8_cloud_72 ?_
                      refine z_iload F (pc := 73) dX8_cloud_73 (lv_at hl 0 rfl) ?_
                      refine z_ishl1 F (pc := 75) dX8_cloud_75 (by omega) ?_
                      refine z_isub F (pc := 76) dX8_cloud_76 ?_
                      refine z_iald F (pc := 77) hK hW 15 rfl (by decide) dX8_cloud_77 (by omega) ?_
                      refine z_aloadn F (pc := 78) dX8_cloud_78 rfl (lv_at hl 4 rfl) ?_
                      refine z_iloadn F (pc := 79) dX8_cloud_79 rfl (lv_at hl 2 rfl) ?_
                      refine z_iconst F (pc := 80) (1) dX8_cloud_80 ?_
                      refine z_isub F (pc := 81) dX8_cloud_81 ?_
                      refine z_iloadn F (pc := 82) dX8_cloud_82 rfl (lv_at hl 5 rfl) ?_
                      refine z_iload F (pc := 83) dX8_cloud_83 (lv_at hl 0 rfl) ?_
                      refine z_callVi F (pc := 85) hK hW hA (As := [.int (iI ((cnt x) - 1)), .int (iI k), .int (iI j)]) (rest := [.int (iI (l1 (x - (pw j))))]) (ws' := fun (u : Unit) => wR cI cZ aR xs ys lf ev nm lb kd pt so nu al ak ap he l1 rw cx cr cl ll tl ts tc sz mn ac en mg ln cn wc wp) (wr := ([])) (c_X8_far l D cI cZ aR xs ys lf ev nm lb kd pt so nu al ak ap he l1 rw cx cr cl ll tl ts tc sz mn ac en mg ln cn wc wp ((cnt x) - 1) k j _ (by omega) (by omega) (by omega) (by exact hh) (by exact hp) (by omega) (by omega)) (cwV 3 F.2.2.2.2 gX8_cloud_X8_far rfl rfl rfl (by decide +kernel) ⟨Nat.le_of_ble_eq_true rfl, Nat.le_of_ble_eq_true rfl⟩) [0, 1, 2, 3, 4, 5, 6, 7, 8, 9, 10, 11, 12, 13, 14, 15, 16, 17, 18, 19, 20, 21, 22, 23] [] [0, 1, 2, 3, 4, 5, 6, 7, 8, 9, 10, 11, 12, 13, 14, 15, 16, 17, 18, 19, 20, 21, 22, 23] rfl rfl (by decide) (by decide) (by decide) (fun _ => rfl) (by decide) (q0 := 0) (ci := 8) rfl rfl rfl rfl rfl hl.1 (Nat.le_of_ble_eq_true rfl) dX8_cloud_85 ⟨Nat.le_of_ble_eq_true rfl, Nat.le_of_ble_eq_true rfl⟩ (fun z_85 u H locs r_z_85 hp_85 hW => ?_)
                      replace hp_85 := hp_85.symm
                      subst hp_85
                      refine z_iadd F (pc := 88) dX8_cloud_88 ?_
                      refine z_istore F (pc := 89) hl (lv' := [(6, .int (iI ((l1 (x - (pw j))) + (fr he pt (16 * k) ((cnt x) - 1) j)))), (5, .int (iI j)), (4, .int (iI ms)), (3, .int (iI (cnt x))), (2, .int (iI x)), (0, .ref (aR 0)), (1, .int (iI k))]) dX8_cloud_89 (by decide) rfl (fun ls hl => ?_)
                      refine z_iload F (pc := 91) dX8_cloud_91 (lv_at hl 2 rfl) ?_
                      refine z_bipush F (pc := 93) (-4) (by decide +kernel) dX8_cloud_93 ?_
                      refine z_icmp_eq F (pc := 95) 105 dX8_cloud_95 (by decide) (by omega) (fun c_95 => ?_) (fun c_95 => ?_)
                      · skip
                        refine z_iload F (pc := 105) dX8_cloud_105 (lv_at hl 0 rfl) ?_
                        refine z_goto F (pc := 107) 112 dX8_cloud_107 (by decide) ?_
                        refine z_istore F (pc := 112) hl (lv' := [(4, .int (iI ((l1 (x - (pw j))) + (fr he pt (16 * k) ((cnt x) - 1) j)))), (6, .int (iI ((l1 (x - (pw j))) + (fr he pt (16 * k) ((cnt x) - 1) j)))), (5, .int (iI j)), (3, .int (iI (cnt x))), (2, .int (iI x)), (0, .ref (aR 0)), (1, .int (iI k))]) dX8_cloud_112 (by decide) rfl (fun ls hl => ?_)
                        refine z_iinc F (pc := 114) hl (lv' := [(5, .int (iI (j + 1))), (4, .int (iI ((l1 (x - (pw j))) + (fr he pt (16 * k) ((cnt x) - 1) j)))), (6, .int (iI ((l1 (x - (pw j))) + (fr he pt (16 * k) ((cnt x) - 1) j)))), (3, .int (iI (cnt x))), (2, .int (iI x)), (0, .ref (aR 0)), (1, .int (iI k))]) dX8_cloud_114 (k := 2) rfl (by decide) rfl (fun ls hl => ?_)
                        refine z_goto F (pc := 117) 50 dX8_cloud_117 (by decide) ?_
                        exact ih_50 ((l1 (x - (pw j))) + (fr he pt (16 * k) ((cnt x) - 1) j)) (j + 1) _ _ _ (by omega) (by omega) (by first | (rw [lsm_t _ _ n1.1 c_64]; omega) | (rw [lsm_f _ _ n1.1 c_64]; exact n2)) (lv_sub hl [0, 1, 3, 4, 5, 6] rfl) hW
                      · skip
                        refine z_iload F (pc := 98) dX8_cloud_98 (lv_at hl 0 rfl) ?_
                        refine z_iload F (pc := 100) dX8_cloud_100 (lv_at hl 2 rfl) ?_
                        refine z_icmp_ge F (pc := 102) 110 dX8_cloud_102 (by decide) (by omega) (fun c_102 => ?_) (fun c_102 => ?_)
                        · skip
                          refine z_iload F (pc := 110) dX8_cloud_110 (lv_at hl 2 rfl) ?_
                          refine z_istore F (pc := 112) hl (lv' := [(4, .int (iI ms)), (6, .int (iI ((l1 (x - (pw j))) + (fr he pt (16 * k) ((cnt x) - 1) j)))), (5, .int (iI j)), (3, .int (iI (cnt x))), (2, .int (iI x)), (0, .ref (aR 0)), (1, .int (iI k))]) dX8_cloud_112 (by decide) rfl (fun ls hl => ?_)
                          refine z_iinc F (pc := 114) hl (lv' := [(5, .int (iI (j + 1))), (4, .int (iI ms)), (6, .int (iI ((l1 (x - (pw j))) + (fr he pt (16 * k) ((cnt x) - 1) j)))), (3, .int (iI (cnt x))), (2, .int (iI x)), (0, .ref (aR 0)), (1, .int (iI k))]) dX8_cloud_114 (k := 2) rfl (by decide) rfl (fun ls hl => ?_)
                          refine z_goto F (pc := 117) 50 dX8_cloud_117 (by decide) ?_
                          exact ih_50 ms (j + 1) _ _ _ (by omega) (by omega) (by first | (rw [lsm_t _ _ n1.1 c_64]; omega) | (rw [lsm_f _ _ n1.1 c_64]; exact n2)) (lv_sub hl [0, 1, 3, 4, 5, 6] rfl) hW
                        · skip
                          refine z_iload F (pc := 105) dX8_cloud_105 (lv_at hl 0 rfl) ?_
                          refine z_goto F (pc := 107) 112 dX8_cloud_107 (by decide) ?_
                          refine z_istore F (pc := 112) hl (lv' := [(4, .int (iI ((l1 (x - (pw j))) + (fr he pt (16 * k) ((cnt x) - 1) j)))), (6, .int (iI ((l1 (x - (pw j))) + (fr he pt (16 * k) ((cnt x) - 1) j)))), (5, .int (iI j)), (3, .int (iI (cnt x))), (2, .int (iI x)), (0, .ref (aR 0)), (1, .int (iI k))]) dX8_cloud_112 (by decide) rfl (fun ls hl => ?_)
                          refine z_iinc F (pc := 114) hl (lv' := [(5, .int (iI (j + 1))), (4, .int (iI ((l1 (x - (pw j))) + (fr he pt (16 * k) ((cnt x) - 1) j)))), (6, .int (iI ((l1 (x - (pw j))) + (fr he pt (16 * k) ((cnt x) - 1) j)))), (3, .int (iI (cnt x))), (2, .int (iI x)), (0, .ref (aR 0)), (1, .int (iI k))]) dX8_cloud_114 (k := 2) rfl (by decide) rfl (fun ls hl => ?_)
                          refine z_goto F (pc := 117) 50 dX8_cloud_117 (by decide) ?_
                          exact ih_50 ((l1 (x - (pw j))) + (fr he pt (16 * k) ((cnt x) - 1) j)) (j + 1) _ _ _ (by omega) (by omega) (by first | (rw [lsm_t _ _ n1.1 c_64]; omega) | (rw [lsm_f _ _ n1.1 c_64]; exact n2)) (lv_sub hl [0, 1, 3, 4, 5, 6] rfl) hW
              exact cut_50 _ (-4) 0 _ _ _ (Nat.lt_succ_self _) (by omega) (by left; exact ⟨lsm_0 _ _ _, rfl⟩) (lv_sub hl [0, 1, 2, 3, 4, 5] rfl) hW
            · skip
              have hb01 := bt_01 x j
              refine z_iloadn F (pc := 28) dX8_cloud_28 rfl (lv_at hl 1 rfl) ?_
              refine z_iloadn F (pc := 29) dX8_cloud_29 rfl (lv_at hl 2 rfl) ?_
              refine z_iload F (pc := 30) dX8_cloud_30 (lv_at hl 0 rfl) ?_
              refine z_ishrb F (pc := 32) dX8_cloud_32 (by omega) ?_
              refine z_iconst F (pc := 33) (1) dX8_cloud_33 ?_
              refine z_iand1 (x := x) (j := j) F (pc := 34) dX8_cloud_34 (by omega) ?_
              refine z_iadd F (pc := 35) dX8_cloud_35 ?_
              refine z_istoren F (pc := 36) hl (lv' := [(3, .int (iI (my + (bt x j)))), (4, .int (iI j)), (2, .int (iI x)), (0, .ref (aR 0)), (1, .int (iI k))]) dX8_cloud_36 rfl (by decide) rfl (fun ls hl => ?_)
              refine z_iinc F (pc := 37) hl (lv' := [(4, .int (iI (j + 1))), (3, .int (iI (my + (bt x j)))), (2, .int (iI x)), (0, .ref (aR 0)), (1, .int (iI k))]) dX8_cloud_37 (k := 1) rfl (by decide) rfl (fun ls hl => ?_)
              refine z_goto F (pc := 40) 21 dX8_cloud_40 (by decide) ?_
              exact ih_21 (my + (bt x j)) (j + 1) _ _ _ (by omega) (by omega) (by rw [sm_s _ m1.1, m2]) (lv_sub hl [0, 1, 2, 3, 4] rfl) hW
        exact cut_21 _ 0 0 _ _ _ (Nat.lt_succ_self _) (by omega) (by exact (sm_0 _).symm) (lv_sub hl [0, 1, 2, 3, 4] rfl) hW
  exact cut_9 _ 1 (zU le 0 0) _ _ _ (Nat.lt_succ_self _) (by omega) (by intro j j0 j1; rw [show j = 0 by omega, zU_s, TB_1]) (lv_sub hl [0, 1, 2] rfl) hW

set_option maxHeartbeats 4000000 in
set_option maxRecDepth 100000 in
theorem c_X8_turns (l : Launch) (D : va_G) (cI cZ : ClassId) (aR : Nat → Nat) (xs ys lf ev nm lb kd pt so nu al ak ap he le rw cx cr cl ll tl ts tc : Int → Int) (sz mn ac en mg ln cn wc wp : Int) (sz0 : Nat) (hh : inH he) : Met l yX8_turns wsX8_turns ({ frames := 0, cells := 0, slots := 0, locals := 0 } : Room) (zPc D cI cZ [.ref (aR 0)] (wR cI cZ aR xs ys lf ev nm lb kd pt so nu al ak ap he le rw cx cr cl ll tl ts tc sz mn ac en mg ln cn wc wp) sz0) (zQv D cI cZ (wR cI cZ aR xs ys lf ev nm lb kd pt so nu al ak ap he le rw cx cr cl ll tl ts tc sz mn ac en mg ln cn wc wp) sz0 (fun (u : (Int → Int)) => u = tn he) (fun (u : (Int → Int)) => wR cI cZ aR xs ys lf ev nm lb kd pt so nu al ak ap u le rw cx cr cl ll tl ts tc sz mn ac en mg ln cn wc wp)) 0 0 (va_A (wR cI cZ aR xs ys lf ev nm lb kd pt so nu al ak ap he le rw cx cr cl ll tl ts tc sz mn ac en mg ln cn wc wp) sz0) := by
  refine z_ofV (maxL := 3) (plainFor_of_name (by decide)) rfl (Nat.le_of_ble_eq_true rfl) ?_
  intro p e s m below meth c A ls Q F hK hW hA hl hret
  have hl : lv_has ls 3 [(0, .ref (aR 0))] := hl
  have inX8 : ∀ w ∈ u_ws RX8 TX8 32, w ∈ wsX8_turns := fun _ h => List.mem_cons_of_mem _ (List.mem_append_right _ h)
  refine z_iconst F (pc := 0) (0) dX8_turns_0 ?_
  refine z_istoren F (pc := 1) hl (lv' := [(1, .int (iI 0)), (0, .ref (aR 0))]) dX8_turns_1 rfl (by decide) rfl (fun ls hl => ?_)
  have cut_2 : ∀ (fuel : Nat) (i : Int) (h1 : Int → Int) (H : Heap) (locs : List Loc) (ls : Array Slot), (8 - i).toNat < fuel → (0 ≤ i ∧ i ≤ 8) → (h1 = tnT he (2 * i)) → lv_has ls 3 [(1, .int (iI i)), (0, .ref (aR 0))] → zW D A s.heap H locs (wR cI cZ aR xs ys lf ev nm lb kd pt so nu al ak ap h1 le rw cx cr cl ll tl ts tc sz mn ac en mg ln cn wc wp) → W p l e ({ frames := 0, cells := 0, slots := 0, locals := 0 } : Room) s m ([.ref (aR 0)] : List Value).toArray below meth c H locs 0 0 Q (F0 m 2 ls []) := by
    intro fuel
    induction fuel with
    | zero => intro i h1 H locs ls hm; exact absurd hm (Nat.not_lt_zero _)
    | succ fuel ih_2 =>
      intro i h1 H locs ls hm_2 g1 g2 hl hW
      refine z_iloadn F (pc := 2) dX8_turns_2 rfl (lv_at hl 0 rfl) ?_
      refine z_bipush F (pc := 3) (8) (by decide +kernel) dX8_turns_3 ?_
      refine z_icmp_ge F (pc := 5) 53 dX8_turns_5 (by decide) (by omega) (fun c_5 => ?_) (fun c_5 => ?_)
      · skip
        exact hret _ _ _ _ h1 dX8_turns_53 (by rw [g2, show 2 * i = 16 by omega, tnT_16]) hW
      · skip
        refine z_aloadn F (pc := 8) dX8_turns_8 rfl (lv_at hl 1 rfl) ?_
        refine z_get F (pc := 9) (C := RX8) (T := TX8) (N := 32) (ci := 8) inX8 hK hW 0 18 rfl rfl (by decide) rfl (List.mem_of_getElem? (i := 1) rfl) (v := .ref (aR 14)) rfl dX8_turns_9 ?_
        refine z_iconst F (pc := 12) (2) dX8_turns_12 ?_
        refine z_iloadn F (pc := 13) dX8_turns_13 rfl (lv_at hl 0 rfl) ?_
        refine z_imul F (pc := 14) dX8_turns_14 ?_
        refine z_iald F (pc := 15) hK hW 14 rfl (by decide) dX8_turns_15 (by omega) ?_
        refine z_istoren F (pc := 16) hl (lv' := [(2, .int (iI (h1 (2 * i)))), (1, .int (iI i)), (0, .ref (aR 0))]) dX8_turns_16 rfl (by decide) rfl (fun ls hl => ?_)
        refine z_aloadn F (pc := 17) dX8_turns_17 rfl (lv_at hl 2 rfl) ?_
        refine z_get F (pc := 18) (C := RX8) (T := TX8) (N := 32) (ci := 8) inX8 hK hW 0 18 rfl rfl (by decide) rfl (List.mem_of_getElem? (i := 1) rfl) (v := .ref (aR 14)) rfl dX8_turns_18 ?_
        refine z_iconst F (pc := 21) (2) dX8_turns_21 ?_
        refine z_iloadn F (pc := 22) dX8_turns_22 rfl (lv_at hl 1 rfl) ?_
        refine z_imul F (pc := 23) dX8_turns_23 ?_
        refine z_aloadn F (pc := 24) dX8_turns_24 rfl (lv_at hl 2 rfl) ?_
        refine z_get F (pc := 25) (C := RX8) (T := TX8) (N := 32) (ci := 8) inX8 hK hW 0 18 rfl rfl (by decide) rfl (List.mem_of_getElem? (i := 1) rfl) (v := .ref (aR 14)) rfl dX8_turns_25 ?_
        refine z_iconst F (pc := 28) (2) dX8_turns_28 ?_
        refine z_iloadn F (pc := 29) dX8_turns_29 rfl (lv_at hl 1 rfl) ?_
        refine z_imul F (pc := 30) dX8_turns_30 ?_
        refine z_iconst F (pc := 31) (1) dX8_turns_31 ?_
        refine z_iadd F (pc := 32) dX8_turns_32 ?_
        refine z_iald F (pc := 33) hK hW 14 rfl (by decide) dX8_turns_33 (by omega) ?_
        refine z_ineg F (pc := 34) dX8_turns_34 ?_
        refine z_iast F (pc := 35) hK hW (ws' := wR cI cZ aR xs ys lf ev nm lb kd pt so nu al ak ap (zU h1 (2 * i) (-(h1 ((2 * i) + 1)))) le rw cx cr cl ll tl ts tc sz mn ac en mg ln cn wc wp) 14 rfl (by decide) dX8_turns_35 (by omega) rfl (fun H locs hW => ?_)
        refine z_aloadn F (pc := 36) dX8_turns_36 rfl (lv_at hl 2 rfl) ?_
        refine z_get F (pc := 37) (C := RX8) (T := TX8) (N := 32) (ci := 8) inX8 hK hW 0 18 rfl rfl (by decide) rfl (List.mem_of_getElem? (i := 1) rfl) (v := .ref (aR 14)) rfl dX8_turns_37 ?_
        refine z_iconst F (pc := 40) (2) dX8_turns_40 ?_
        refine z_iloadn F (pc := 41) dX8_turns_41 rfl (lv_at hl 1 rfl) ?_
        refine z_imul F (pc := 42) dX8_turns_42 ?_
        refine z_iconst F (pc := 43) (1) dX8_turns_43 ?_
        refine z_iadd F (pc := 44) dX8_turns_44 ?_
        refine z_iloadn F (pc := 45) dX8_turns_45 rfl (lv_at hl 0 rfl) ?_
        refine z_iast F (pc := 46) hK hW (ws' := wR cI cZ aR xs ys lf ev nm lb kd pt so nu al ak ap (zU (zU h1 (2 * i) (-(h1 ((2 * i) + 1)))) ((2 * i) + 1) (h1 (2 * i))) le rw cx cr cl ll tl ts tc sz mn ac en mg ln cn wc wp) 14 rfl (by decide) dX8_turns_46 (by omega) rfl (fun H locs hW => ?_)
        refine z_iinc F (pc := 47) hl (lv' := [(1, .int (iI (i + 1))), (2, .int (iI (h1 (2 * i)))), (0, .ref (aR 0))]) dX8_turns_47 (k := 1) rfl (by decide) rfl (fun ls hl => ?_)
        refine z_goto F (pc := 50) 2 dX8_turns_50 (by decide) ?_
        exact ih_2 (i + 1) (zU (zU h1 (2 * i) (-(h1 ((2 * i) + 1)))) ((2 * i) + 1) (h1 (2 * i))) _ _ _ (by omega) (by omega) (by rw [g2]; exact tnT_s he (by omega) (by omega) (by omega)) (lv_sub hl [0, 2] rfl) hW
  exact cut_2 _ 0 he _ _ _ (Nat.lt_succ_self _) (by omega) (by exact (tnT_0 _).symm) (lv_sub hl [0, 1] rfl) hW
