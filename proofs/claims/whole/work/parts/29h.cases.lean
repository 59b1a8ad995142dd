set_option maxHeartbeats 8000000 in
set_option maxRecDepth 100000 in
theorem case_16 {p : Program} {l : Launch} {e : Env} {s : State} {m : MethodId} {below : List Frame} {meth : Method} {c : Code} {b L : Nat} {xs0 : Nat → Int32} {Q : State → Prop} {A : Nat → Prop} {D : va_G} {cI cZ : ClassId} {aB aD aM aA aS aC aL aT aR : Nat → Nat} {i : Int} (hF : LFix p s m c b L xs0 A D cI cZ) (g : 0 ≤ i ∧ i + 8 ≤ (L : Int)) (cut_1014 : LAt p l e s m below meth c b Q A D cI cZ aB aD aM aA aS aC aL aT aR i 1014) : LAt p l e s m below meth c b Q A D cI cZ aB aD aM aA aS aC aL aT aR i 584 := by
  obtain ⟨hL, F, hK, hA, hX, hbl, hbA⟩ := hF
  intro di xs ys lf ev nm lb kd pt so nu al ak ap he ar le cx cr cl ll rw fn fp tl tm ts tc ev9 nm9 so9 nu9 al9 ak9 ap9 hh9 le9 tl9 ts9 tc9 en mg sz mn an ax cn ln fc ac wc wp H locs ls hd hmk hc hr he9 hsh hl hW
  have q1 := sv_r xs0 (i + 1)
  have q2 := sv_r xs0 (i + 2)
  have q3 := sv_r xs0 (i + 3)
  have q4 := sv_r xs0 (i + 4)
  have q5 := sv_r xs0 (i + 5)
  have q6 := sv_r xs0 (i + 6)
  have q7 := sv_r xs0 (i + 7)
  have hmm := hmk.1
  have haa := hmk.2.2.2.2.1
  have hac := hmk.2.2.2.2.2.1
  have hd0 := hd.1
  have hc0 := hc.1
  have hr0 := hr.1
  have hw9 := wy_r hd (q := sz) (Int.le_refl _)
  refine z_aloadn F (pc := 584) dL_law_584 rfl (lv_at hl 2 rfl) ?_
  refine z_aloadn F (pc := 585) dL_law_585 rfl (lv_at hl 3 rfl) ?_
  refine z_iloadn F (pc := 586) dL_law_586 rfl (lv_at hl 0 rfl) ?_
  refine z_iconst F (pc := 587) (1) dL_law_587 ?_
  refine z_iadd F (pc := 588) dL_law_588 ?_
  refine z_sld F (pc := 589) hX hbl hbA hW hL (by omega) dL_law_589 ?_
  refine z_aloadn F (pc := 590) dL_law_590 rfl (lv_at hl 3 rfl) ?_
  refine z_iloadn F (pc := 591) dL_law_591 rfl (lv_at hl 0 rfl) ?_
  refine z_iconst F (pc := 592) (2) dL_law_592 ?_
  refine z_iadd F (pc := 593) dL_law_593 ?_
  refine z_sld F (pc := 594) hX hbl hbA hW hL (by omega) dL_law_594 ?_
  refine z_callVi F (pc := 595) hK hW hA (As := [.int (iI (sv xs0 (i + 1))), .int (iI (sv xs0 (i + 2)))]) (rest := []) (ws' := fun (u : (Int → Int) × (Int → Int) × (Int → Int)) => wB cI cZ aB aD aM aA aS aC aL aT di en mg ++ wD cI cZ aD xs ys lf ev nm sz ++ wM cI cZ aM lb kd pt mn ++ wA cI cZ aA so nu al ak ap an ax ++ wS cI cZ aS u.1 u.2.1 u.2.2 ++ wC cI cZ aC cx cr cl ll cn ++ wL cI cZ aL rw fn fp ln fc ++ wT cI cZ aT tl tm ts tc ++ wR cI cZ aR xs ys lf ev9 nm9 lb kd pt so9 nu9 al9 ak9 ap9 hh9 le9 rw cx cr cl ll tl9 ts9 tc9 sz mn ac en mg ln cn wc wp) (wr := (wD cI cZ aD xs ys lf ev nm sz ++ wA cI cZ aA so nu al ak ap an ax ++ wC cI cZ aC cx cr cl ll cn ++ wL cI cZ aL rw fn fp ln fc ++ wT cI cZ aT tl tm ts tc ++ wR cI cZ aR xs ys lf ev9 nm9 lb kd pt so9 nu9 al9 ak9 ap9 hh9 le9 rw cx cr cl ll tl9 ts9 tc9 sz mn ac en mg ln cn wc wp)) (c_X7_confused l D cI cZ aB aD aM aA aS aC aL aT di lb kd pt he ar le en mg mn (sv xs0 (i + 1)) (sv xs0 (i + 2)) _ (by omega) (by omega) (by omega) (by exact hmk.2.2.1) (by exact hmk.2.2.2.1) (by first | exact hmk.2.1 | exact fun j a b => ⟨hmk.2.1 j a b, hmk.2.2.1 j a b⟩)) (cwV 2 F.2.2.2.2 gL_law_X7_confused rfl rfl rfl (by decide +kernel) ⟨Nat.le_of_ble_eq_true rfl, Nat.le_of_ble_eq_true rfl⟩) [0, 1, 8, 9, 10, 11, 18, 19, 20, 21] [2, 3, 4, 5, 6, 7, 12, 13, 14, 15, 16, 17, 22, 23, 24, 25, 26, 27, 28, 29, 30, 31, 32, 33, 34, 35, 36, 37, 38, 39, 40, 41, 42, 43, 44, 45, 46, 47, 48, 49, 50, 51, 52, 53, 54, 55, 56, 57, 58, 59] [50, 51, 0, 1, 2, 3, 4, 5, 52, 53, 54, 55, 6, 7, 8, 9, 10, 11, 56, 57, 58, 59, 12, 13, 14, 15, 16, 17, 18, 19, 20, 21, 22, 23, 24, 25, 26, 27, 28, 29, 30, 31, 32, 33, 34, 35, 36, 37, 38, 39, 40, 41, 42, 43, 44, 45, 46, 47, 48, 49] rfl rfl (by decide) (by decide) (by decide) (fun _ => rfl) (by decide) (q0 := 0) (ci := 7) rfl rfl rfl rfl rfl hl.1 (Nat.le_of_ble_eq_true rfl) dL_law_595 ⟨Nat.le_of_ble_eq_true rfl, Nat.le_of_ble_eq_true rfl⟩ (fun z_595 u H locs r_z_595 hp_595 hW => ?_)
  obtain ⟨he2_595, ar2_595, le2_595⟩ := u
  dsimp only at hp_595 hW
  refine z_aloadn F (pc := 598) dL_law_598 rfl (lv_at hl 1 rfl) ?_
  refine z_aloadn F (pc := 599) dL_law_599 rfl (lv_at hl 3 rfl) ?_
  refine z_iloadn F (pc := 600) dL_law_600 rfl (lv_at hl 0 rfl) ?_
  refine z_iconst F (pc := 601) (1) dL_law_601 ?_
  refine z_iadd F (pc := 602) dL_law_602 ?_
  refine z_sld F (pc := 603) hX hbl hbA hW hL (by omega) dL_law_603 ?_
  refine z_aloadn F (pc := 604) dL_law_604 rfl (lv_at hl 3 rfl) ?_
  refine z_iloadn F (pc := 605) dL_law_605 rfl (lv_at hl 0 rfl) ?_
  refine z_iconst F (pc := 606) (2) dL_law_606 ?_
  refine z_iadd F (pc := 607) dL_law_607 ?_
  refine z_sld F (pc := 608) hX hbl hbA hW hL (by omega) dL_law_608 ?_
  refine z_callVi F (pc := 609) hK hW hA (As := [.int (iI (sv xs0 (i + 1))), .int (iI (sv xs0 (i + 2)))]) (rest := [.int (iI z_595)]) (ws' := fun (u : (Int → Int) × (Int → Int)) => wB cI cZ aB aD aM aA aS aC aL aT di en mg ++ wD cI cZ aD xs ys lf ev nm sz ++ wM cI cZ aM lb kd pt mn ++ wA cI cZ aA so nu al ak ap an ax ++ wS cI cZ aS he2_595 ar2_595 le2_595 ++ wC cI cZ aC cx cr cl ll cn ++ wL cI cZ aL rw fn fp ln fc ++ wT cI cZ aT tl tm ts tc ++ wR cI cZ aR xs ys lf ev9 nm9 lb kd pt so9 nu9 al9 ak9 ap9 u.1 u.2 rw cx cr cl ll tl9 ts9 tc9 sz mn ac en mg ln cn wc wp) (wr := (wB cI cZ aB aD aM aA aS aC aL aT di en mg ++ wD cI cZ aD xs ys lf ev nm sz ++ wM cI cZ aM lb kd pt mn ++ wA cI cZ aA so nu al ak ap an ax ++ wS cI cZ aS he2_595 ar2_595 le2_595 ++ wC cI cZ aC cx cr cl ll cn ++ wL cI cZ aL rw fn fp ln fc ++ wT cI cZ aT tl tm ts tc)) (c_X8_confused l D cI cZ aR xs ys lf ev9 nm9 lb kd pt so9 nu9 al9 ak9 ap9 hh9 le9 rw cx cr cl ll tl9 ts9 tc9 sz mn ac en mg ln cn wc wp (sv xs0 (i + 1)) (sv xs0 (i + 2)) _ (by omega) (by omega) (by omega) (by exact hmk.2.2.1) (by exact hmk.2.2.2.1) (by first | exact hmk.2.1 | exact fun j a b => ⟨hmk.2.1 j a b, hmk.2.2.1 j a b⟩)) (cwV 2 F.2.2.2.2 gL_law_X8_confused rfl rfl rfl (by decide +kernel) ⟨Nat.le_of_ble_eq_true rfl, Nat.le_of_ble_eq_true rfl⟩) [36, 37, 38, 39, 40, 41, 42, 43, 44, 45, 46, 47, 48, 49, 50, 51, 52, 53, 54, 55, 56, 57, 58, 59] [0, 1, 2, 3, 4, 5, 6, 7, 8, 9, 10, 11, 12, 13, 14, 15, 16, 17, 18, 19, 20, 21, 22, 23, 24, 25, 26, 27, 28, 29, 30, 31, 32, 33, 34, 35] [0, 1, 2, 3, 4, 5, 6, 7, 8, 9, 10, 11, 12, 13, 14, 15, 16, 17, 18, 19, 20, 21, 22, 23, 24, 25, 26, 27, 28, 29, 30, 31, 32, 33, 34, 35, 36, 37, 38, 39, 40, 41, 42, 43, 44, 45, 46, 47, 48, 49, 50, 51, 52, 53, 54, 55, 56, 57, 58, 59] rfl rfl (by decide) (by decide) (by decide) (fun _ => rfl) (by decide) (q0 := 36) (ci := 8) rfl rfl rfl rfl rfl hl.1 (Nat.le_of_ble_eq_true rfl) dL_law_609 ⟨Nat.le_of_ble_eq_true rfl, Nat.le_of_ble_eq_true rfl⟩ (fun z_609 u H locs r_z_609 hp_609 hW => ?_)
  obtain ⟨he2_609, le2_609⟩ := u
  dsimp only at hp_609 hW
  have hans := confR_one hp_595 hp_609
  refine z_icmp_eq F (pc := 612) 1014 dL_law_612 (by decide) (by omega) (fun c_612 => ?_) (fun c_612 => ?_)
  · skip
    exact cut_1014 di xs ys lf ev nm lb kd pt so nu al ak ap he2_595 ar2_595 le2_595 cx cr cl ll rw fn fp tl tm ts tc ev9 nm9 so9 nu9 al9 ak9 ap9 he2_609 le2_609 tl9 ts9 tc9 en mg sz mn an ax cn ln fc ac wc wp _ _ _ (by exact hd) (by exact hmk) (by exact hc) (by exact hr) (by exact he9) (by exact hsh) (lv_sub hl [0, 1, 2, 3] rfl) hW
  · skip
    exact absurd (by omega) c_612

set_option maxHeartbeats 8000000 in
set_option maxRecDepth 100000 in
theorem case_17 {p : Program} {l : Launch} {e : Env} {s : State} {m : MethodId} {below : List Frame} {meth : Method} {c : Code} {b L : Nat} {xs0 : Nat → Int32} {Q : State → Prop} {A : Nat → Prop} {D : va_G} {cI cZ : ClassId} {aB aD aM aA aS aC aL aT aR : Nat → Nat} {i : Int} (hF : LFix p s m c b L xs0 A D cI cZ) (g : 0 ≤ i ∧ i + 8 ≤ (L : Int)) (cut_1014 : LAt p l e s m below meth c b Q A D cI cZ aB aD aM aA aS aC aL aT aR i 1014) : LAt p l e s m below meth c b Q A D cI cZ aB aD aM aA aS aC aL aT aR i 617 := by
  obtain ⟨hL, F, hK, hA, hX, hbl, hbA⟩ := hF
  intro di xs ys lf ev nm lb kd pt so nu al ak ap he ar le cx cr cl ll rw fn fp tl tm ts tc ev9 nm9 so9 nu9 al9 ak9 ap9 hh9 le9 tl9 ts9 tc9 en mg sz mn an ax cn ln fc ac wc wp H locs ls hd hmk hc hr he9 hsh hl hW
  have q1 := sv_r xs0 (i + 1)
  have q2 := sv_r xs0 (i + 2)
  have q3 := sv_r xs0 (i + 3)
  have q4 := sv_r xs0 (i + 4)
  have q5 := sv_r xs0 (i + 5)
  have q6 := sv_r xs0 (i + 6)
  have q7 := sv_r xs0 (i + 7)
  have hmm := hmk.1
  have haa := hmk.2.2.2.2.1
  have hac := hmk.2.2.2.2.2.1
  have hd0 := hd.1
  have hc0 := hc.1
  have hr0 := hr.1
  have hw9 := wy_r hd (q := sz) (Int.le_refl _)
  refine z_aloadn F (pc := 617) dL_law_617 rfl (lv_at hl 2 rfl) ?_
  refine z_aloadn F (pc := 618) dL_law_618 rfl (lv_at hl 3 rfl) ?_
  refine z_iloadn F (pc := 619) dL_law_619 rfl (lv_at hl 0 rfl) ?_
  refine z_iconst F (pc := 620) (1) dL_law_620 ?_
  refine z_iadd F (pc := 621) dL_law_621 ?_
  refine z_sld F (pc := 622) hX hbl hbA hW hL (by omega) dL_law_622 ?_
  refine z_aloadn F (pc := 623) dL_law_623 rfl (lv_at hl 3 rfl) ?_
  refine z_iloadn F (pc := 624) dL_law_624 rfl (lv_at hl 0 rfl) ?_
  refine z_iconst F (pc := 625) (2) dL_law_625 ?_
  refine z_iadd F (pc := 626) dL_law_626 ?_
  refine z_sld F (pc := 627) hX hbl hbA hW hL (by omega) dL_law_627 ?_
  refine z_callVi F (pc := 628) hK hW hA (As := [.int (iI (sv xs0 (i + 1))), .int (iI (sv xs0 (i + 2)))]) (rest := []) (ws' := fun (u : (Int → Int) × (Int → Int) × (Int → Int)) => wB cI cZ aB aD aM aA aS aC aL aT di en mg ++ wD cI cZ aD xs ys lf ev nm sz ++ wM cI cZ aM lb kd pt mn ++ wA cI cZ aA so nu al ak ap an ax ++ wS cI cZ aS u.1 u.2.1 u.2.2 ++ wC cI cZ aC cx cr cl ll cn ++ wL cI cZ aL rw fn fp ln fc ++ wT cI cZ aT tl tm ts tc ++ wR cI cZ aR xs ys lf ev9 nm9 lb kd pt so9 nu9 al9 ak9 ap9 hh9 le9 rw cx cr cl ll tl9 ts9 tc9 sz mn ac en mg ln cn wc wp) (wr := (wD cI cZ aD xs ys lf ev nm sz ++ wA cI cZ aA so nu al ak ap an ax ++ wC cI cZ aC cx cr cl ll cn ++ wL cI cZ aL rw fn fp ln fc ++ wT cI cZ aT tl tm ts tc ++ wR cI cZ aR xs ys lf ev9 nm9 lb kd pt so9 nu9 al9 ak9 ap9 hh9 le9 rw cx cr cl ll tl9 ts9 tc9 sz mn ac en mg ln cn wc wp)) (c_X7_between l D cI cZ aB aD aM aA aS aC aL aT di lb kd pt he ar le en mg mn (sv xs0 (i + 1)) (sv xs0 (i + 2)) _ (by omega) (by omega) (by omega) (by exact hmk.2.2.1) (by exact hmk.2.2.2.1)) (cwV 2 F.2.2.2.2 gL_law_X7_between rfl rfl rfl (by decide +kernel) ⟨Nat.le_of_ble_eq_true rfl, Nat.le_of_ble_eq_true rfl⟩) [0, 1, 8, 9, 10, 11, 18, 19, 20, 21] [2, 3, 4, 5, 6, 7, 12, 13, 14, 15, 16, 17, 22, 23, 24, 25, 26, 27, 28, 29, 30, 31, 32, 33, 34, 35, 36, 37, 38, 39, 40, 41, 42, 43, 44, 45, 46, 47, 48, 49, 50, 51, 52, 53, 54, 55, 56, 57, 58, 59] [50, 51, 0, 1, 2, 3, 4, 5, 52, 53, 54, 55, 6, 7, 8, 9, 10, 11, 56, 57, 58, 59, 12, 13, 14, 15, 16, 17, 18, 19, 20, 21, 22, 23, 24, 25, 26, 27, 28, 29, 30, 31, 32, 33, 34, 35, 36, 37, 38, 39, 40, 41, 42, 43, 44, 45, 46, 47, 48, 49] rfl rfl (by decide) (by decide) (by decide) (fun _ => rfl) (by decide) (q0 := 0) (ci := 7) rfl rfl rfl rfl rfl hl.1 (Nat.le_of_ble_eq_true rfl) dL_law_628 ⟨Nat.le_of_ble_eq_true rfl, Nat.le_of_ble_eq_true rfl⟩ (fun z_628 u H locs r_z_628 hp_628 hW => ?_)
  obtain ⟨he2_628, ar2_628, le2_628⟩ := u
  dsimp only at hp_628 hW
  refine z_aloadn F (pc := 631) dL_law_631 rfl (lv_at hl 1 rfl) ?_
  refine z_aloadn F (pc := 632) dL_law_632 rfl (lv_at hl 3 rfl) ?_
  refine z_iloadn F (pc := 633) dL_law_633 rfl (lv_at hl 0 rfl) ?_
  refine z_iconst F (pc := 634) (1) dL_law_634 ?_
  refine z_iadd F (pc := 635) dL_law_635 ?_
  refine z_sld F (pc := 636) hX hbl hbA hW hL (by omega) dL_law_636 ?_
  refine z_aloadn F (pc := 637) dL_law_637 rfl (lv_at hl 3 rfl) ?_
  refine z_iloadn F (pc := 638) dL_law_638 rfl (lv_at hl 0 rfl) ?_
  refine z_iconst F (pc := 639) (2) dL_law_639 ?_
  refine z_iadd F (pc := 640) dL_law_640 ?_
  refine z_sld F (pc := 641) hX hbl hbA hW hL (by omega) dL_law_641 ?_
  refine z_callVi F (pc := 642) hK hW hA (As := [.int (iI (sv xs0 (i + 1))), .int (iI (sv xs0 (i + 2)))]) (rest := [.int (iI z_628)]) (ws' := fun (u : (Int → Int) × (Int → Int)) => wB cI cZ aB aD aM aA aS aC aL aT di en mg ++ wD cI cZ aD xs ys lf ev nm sz ++ wM cI cZ aM lb kd pt mn ++ wA cI cZ aA so nu al ak ap an ax ++ wS cI cZ aS he2_628 ar2_628 le2_628 ++ wC cI cZ aC cx cr cl ll cn ++ wL cI cZ aL rw fn fp ln fc ++ wT cI cZ aT tl tm ts tc ++ wR cI cZ aR xs ys lf ev9 nm9 lb kd pt so9 nu9 al9 ak9 ap9 u.1 u.2 rw cx cr cl ll tl9 ts9 tc9 sz mn ac en mg ln cn wc wp) (wr := (wB cI cZ aB aD aM aA aS aC aL aT di en mg ++ wD cI cZ aD xs ys lf ev nm sz ++ wM cI cZ aM lb kd pt mn ++ wA cI cZ aA so nu al ak ap an ax ++ wS cI cZ aS he2_628 ar2_628 le2_628 ++ wC cI cZ aC cx cr cl ll cn ++ wL cI cZ aL rw fn fp ln fc ++ wT cI cZ aT tl tm ts tc)) (c_X8_between l D cI cZ aR xs ys lf ev9 nm9 lb kd pt so9 nu9 al9 ak9 ap9 hh9 le9 rw cx cr cl ll tl9 ts9 tc9 sz mn ac en mg ln cn wc wp (sv xs0 (i + 1)) (sv xs0 (i + 2)) _ (by omega) (by omega) (by omega) (by exact hmk.2.2.1) (by exact hmk.2.2.2.1)) (cwV 2 F.2.2.2.2 gL_law_X8_between rfl rfl rfl (by decide +kernel) ⟨Nat.le_of_ble_eq_true rfl, Nat.le_of_ble_eq_true rfl⟩) [36, 37, 38, 39, 40, 41, 42, 43, 44, 45, 46, 47, 48, 49, 50, 51, 52, 53, 54, 55, 56, 57, 58, 59] [0, 1, 2, 3, 4, 5, 6, 7, 8, 9, 10, 11, 12, 13, 14, 15, 16, 17, 18, 19, 20, 21, 22, 23, 24, 25, 26, 27, 28, 29, 30, 31, 32, 33, 34, 35] [0, 1, 2, 3, 4, 5, 6, 7, 8, 9, 10, 11, 12, 13, 14, 15, 16, 17, 18, 19, 20, 21, 22, 23, 24, 25, 26, 27, 28, 29, 30, 31, 32, 33, 34, 35, 36, 37, 38, 39, 40, 41, 42, 43, 44, 45, 46, 47, 48, 49, 50, 51, 52, 53, 54, 55, 56, 57, 58, 59] rfl rfl (by decide) (by decide) (by decide) (fun _ => rfl) (by decide) (q0 := 36) (ci := 8) rfl rfl rfl rfl rfl hl.1 (Nat.le_of_ble_eq_true rfl) dL_law_642 ⟨Nat.le_of_ble_eq_true rfl, Nat.le_of_ble_eq_true rfl⟩ (fun z_642 u H locs r_z_642 hp_642 hW => ?_)
  obtain ⟨he2_642, le2_642⟩ := u
  dsimp only at hp_642 hW
  have hans := btwR_one hp_628 hp_642
  refine z_icmp_eq F (pc := 645) 1014 dL_law_645 (by decide) (by omega) (fun c_645 => ?_) (fun c_645 => ?_)
  · skip
    exact cut_1014 di xs ys lf ev nm lb kd pt so nu al ak ap he2_628 ar2_628 le2_628 cx cr cl ll rw fn fp tl tm ts tc ev9 nm9 so9 nu9 al9 ak9 ap9 he2_642 le2_642 tl9 ts9 tc9 en mg sz mn an ax cn ln fc ac wc wp _ _ _ (by exact hd) (by exact hmk) (by exact hc) (by exact hr) (by exact he9) (by exact hsh) (lv_sub hl [0, 1, 2, 3] rfl) hW
  · skip
    exact absurd (by omega) c_645

set_option maxHeartbeats 8000000 in
set_option maxRecDepth 100000 in
theorem case_18 {p : Program} {l : Launch} {e : Env} {s : State} {m : MethodId} {below : List Frame} {meth : Method} {c : Code} {b L : Nat} {xs0 : Nat → Int32} {Q : State → Prop} {A : Nat → Prop} {D : va_G} {cI cZ : ClassId} {aB aD aM aA aS aC aL aT aR : Nat → Nat} {i : Int} (hF : LFix p s m c b L xs0 A D cI cZ) (g : 0 ≤ i ∧ i + 8 ≤ (L : Int)) (cut_1014 : LAt p l e s m below meth c b Q A D cI cZ aB aD aM aA aS aC aL aT aR i 1014) : LAt p l e s m below meth c b Q A D cI cZ aB aD aM aA aS aC aL aT aR i 650 := by
  obtain ⟨hL, F, hK, hA, hX, hbl, hbA⟩ := hF
  intro di xs ys lf ev nm lb kd pt so nu al ak ap he ar le cx cr cl ll rw fn fp tl tm ts tc ev9 nm9 so9 nu9 al9 ak9 ap9 hh9 le9 tl9 ts9 tc9 en mg sz mn an ax cn ln fc ac wc wp H locs ls hd hmk hc hr he9 hsh hl hW
  have q1 := sv_r xs0 (i + 1)
  have q2 := sv_r xs0 (i + 2)
  have q3 := sv_r xs0 (i + 3)
  have q4 := sv_r xs0 (i + 4)
  have q5 := sv_r xs0 (i + 5)
  have q6 := sv_r xs0 (i + 6)
  have q7 := sv_r xs0 (i + 7)
  have hmm := hmk.1
  have haa := hmk.2.2.2.2.1
  have hac := hmk.2.2.2.2.2.1
  have hd0 := hd.1
  have hc0 := hc.1
  have hr0 := hr.1
  have hw9 := wy_r hd (q := sz) (Int.le_refl _)
  refine z_aloadn F (pc := 650) dL_law_650 rfl (lv_at hl 2 rfl) ?_
  refine z_aloadn F (pc := 651) dL_law_651 rfl (lv_at hl 3 rfl) ?_
  refine z_iloadn F (pc := 652) dL_law_652 rfl (lv_at hl 0 rfl) ?_
  refine z_iconst F (pc := 653) (1) dL_law_653 ?_
  refine z_iadd F (pc := 654) dL_law_654 ?_
  refine z_sld F (pc := 655) hX hbl hbA hW hL (by omega) dL_law_655 ?_
  refine z_aloadn F (pc := 656) dL_law_656 rfl (lv_at hl 3 rfl) ?_
  refine z_iloadn F (pc := 657) dL_law_657 rfl (lv_at hl 0 rfl) ?_
  refine z_iconst F (pc := 658) (2) dL_law_658 ?_
  refine z_iadd F (pc := 659) dL_law_659 ?_
  refine z_sld F (pc := 660) hX hbl hbA hW hL (by omega) dL_law_660 ?_
  refine z_aloadn F (pc := 661) dL_law_661 rfl (lv_at hl 3 rfl) ?_
  refine z_iloadn F (pc := 662) dL_law_662 rfl (lv_at hl 0 rfl) ?_
  refine z_iconst F (pc := 663) (3) dL_law_663 ?_
  refine z_iadd F (pc := 664) dL_law_664 ?_
  refine z_sld F (pc := 665) hX hbl hbA hW hL (by omega) dL_law_665 ?_
  refine z_aloadn F (pc := 666) dL_law_666 rfl (lv_at hl 3 rfl) ?_
  refine z_iloadn F (pc := 667) dL_law_667 rfl (lv_at hl 0 rfl) ?_
  refine z_iconst F (pc := 668) (4) dL_law_668 ?_
  refine z_iadd F (pc := 669) dL_law_669 ?_
  refine z_sld F (pc := 670) hX hbl hbA hW hL (by omega) dL_law_670 ?_
  refine z_aloadn F (pc := 671) dL_law_671 rfl (lv_at hl 3 rfl) ?_
  refine z_iloadn F (pc := 672) dL_law_672 rfl (lv_at hl 0 rfl) ?_
  refine z_iconst F (pc := 673) (5) dL_law_673 ?_
  refine z_iadd F (pc := 674) dL_law_674 ?_
  refine z_sld F (pc := 675) hX hbl hbA hW hL (by omega) dL_law_675 ?_
  refine z_aloadn F (pc := 676) dL_law_676 rfl (lv_at hl 3 rfl) ?_
  refine z_iloadn F (pc := 677) dL_law_677 rfl (lv_at hl 0 rfl) ?_
  refine z_bipush F (pc := 678) (6) (by decide +kernel) dL_law_678 ?_
  refine z_iadd F (pc := 680) dL_law_680 ?_
  refine z_sld F (pc := 681) hX hbl hbA hW hL (by omega) dL_law_681 ?_
  refine z_aloadn F (pc := 682) dL_law_682 rfl (lv_at hl 3 rfl) ?_
  refine z_iloadn F (pc := 683) dL_law_683 rfl (lv_at hl 0 rfl) ?_
  refine z_bipush F (pc := 684) (7) (by decide +kernel) dL_law_684 ?_
  refine z_iadd F (pc := 686) dL_law_686 ?_
  refine z_sld F (pc := 687) hX hbl hbA hW hL (by omega) dL_law_687 ?_
  refine z_callVi F (pc := 688) hK hW hA (As := [.int (iI (sv xs0 (i + 1))), .int (iI (sv xs0 (i + 2))), .int (iI (sv xs0 (i + 3))), .int (iI (sv xs0 (i + 4))), .int (iI (sv xs0 (i + 5))), .int (iI (sv xs0 (i + 6))), .int (iI (sv xs0 (i + 7)))]) (rest := []) (ws' := fun (u : (Int → Int) × (Int → Int) × (Int → Int) × (Int → Int) × (Int)) => wB cI cZ aB aD aM aA aS aC aL aT di en mg ++ wD cI cZ aD xs ys lf ev nm sz ++ wM cI cZ aM lb kd pt mn ++ wA cI cZ aA so nu al ak ap an ax ++ wS cI cZ aS he ar le ++ wC cI cZ aC u.1 u.2.1 u.2.2.1 u.2.2.2.1 u.2.2.2.2 ++ wL cI cZ aL rw fn fp ln fc ++ wT cI cZ aT tl tm ts tc ++ wR cI cZ aR xs ys lf ev9 nm9 lb kd pt so9 nu9 al9 ak9 ap9 hh9 le9 rw cx cr cl ll tl9 ts9 tc9 sz mn ac en mg ln cn wc wp) (wr := (wD cI cZ aD xs ys lf ev nm sz ++ wM cI cZ aM lb kd pt mn ++ wA cI cZ aA so nu al ak ap an ax ++ wS cI cZ aS he ar le ++ wL cI cZ aL rw fn fp ln fc ++ wT cI cZ aT tl tm ts tc ++ wR cI cZ aR xs ys lf ev9 nm9 lb kd pt so9 nu9 al9 ak9 ap9 hh9 le9 rw cx cr cl ll tl9 ts9 tc9 sz mn ac en mg ln cn wc wp)) (c_X7_command l D cI cZ aB aD aM aA aS aC aL aT di cx cr cl ll en mg cn (sv xs0 (i + 1)) (sv xs0 (i + 2)) (sv xs0 (i + 3)) (sv xs0 (i + 4)) (sv xs0 (i + 5)) (sv xs0 (i + 6)) (sv xs0 (i + 7)) _ (by omega) (by omega) (by omega) (by omega) (by omega) (by omega) (by omega) (by omega)) (cwV 7 F.2.2.2.2 gL_law_X7_command rfl rfl rfl (by decide +kernel) ⟨Nat.le_of_ble_eq_true rfl, Nat.le_of_ble_eq_true rfl⟩) [0, 1, 22, 23, 24, 25, 26] [2, 3, 4, 5, 6, 7, 8, 9, 10, 11, 12, 13, 14, 15, 16, 17, 18, 19, 20, 21, 27, 28, 29, 30, 31, 32, 33, 34, 35, 36, 37, 38, 39, 40, 41, 42, 43, 44, 45, 46, 47, 48, 49, 50, 51, 52, 53, 54, 55, 56, 57, 58, 59] [53, 54, 0, 1, 2, 3, 4, 5, 6, 7, 8, 9, 10, 11, 12, 13, 14, 15, 16, 17, 18, 19, 55, 56, 57, 58, 59, 20, 21, 22, 23, 24, 25, 26, 27, 28, 29, 30, 31, 32, 33, 34, 35, 36, 37, 38, 39, 40, 41, 42, 43, 44, 45, 46, 47, 48, 49, 50, 51, 52] rfl rfl (by decide) (by decide) (by decide) (fun _ => rfl) (by decide) (q0 := 0) (ci := 7) rfl rfl rfl rfl rfl hl.1 (Nat.le_of_ble_eq_true rfl) dL_law_688 ⟨Nat.le_of_ble_eq_true rfl, Nat.le_of_ble_eq_true rfl⟩ (fun z_688 u H locs r_z_688 hp_688 hW => ?_)
  obtain ⟨cx2_688, cr2_688, cl2_688, ll2_688, cn2_688⟩ := u
  dsimp only at hp_688 hW
  refine z_aloadn F (pc := 691) dL_law_691 rfl (lv_at hl 1 rfl) ?_
  refine z_aloadn F (pc := 692) dL_law_692 rfl (lv_at hl 3 rfl) ?_
  refine z_iloadn F (pc := 693) dL_law_693 rfl (lv_at hl 0 rfl) ?_
  refine z_iconst F (pc := 694) (1) dL_law_694 ?_
  refine z_iadd F (pc := 695) dL_law_695 ?_
  refine z_sld F (pc := 696) hX hbl hbA hW hL (by omega) dL_law_696 ?_
  refine z_aloadn F (pc := 697) dL_law_697 rfl (lv_at hl 3 rfl) ?_
  refine z_iloadn F (pc := 698) dL_law_698 rfl (lv_at hl 0 rfl) ?_
  refine z_iconst F (pc := 699) (2) dL_law_699 ?_
  refine z_iadd F (pc := 700) dL_law_700 ?_
  refine z_sld F (pc := 701) hX hbl hbA hW hL (by omega) dL_law_701 ?_
  refine z_aloadn F (pc := 702) dL_law_702 rfl (lv_at hl 3 rfl) ?_
  refine z_iloadn F (pc := 703) dL_law_703 rfl (lv_at hl 0 rfl) ?_
  refine z_iconst F (pc := 704) (3) dL_law_704 ?_
  refine z_iadd F (pc := 705) dL_law_705 ?_
  refine z_sld F (pc := 706) hX hbl hbA hW hL (by omega) dL_law_706 ?_
  refine z_aloadn F (pc := 707) dL_law_707 rfl (lv_at hl 3 rfl) ?_
  refine z_iloadn F (pc := 708) dL_law_708 rfl (lv_at hl 0 rfl) ?_
  refine z_iconst F (pc := 709) (4) dL_law_709 ?_
  refine z_iadd F (pc := 710) dL_law_710 ?_
  refine z_sld F (pc := 711) hX hbl hbA hW hL (by omega) dL_law_711 ?_
  refine z_aloadn F (pc := 712) dL_law_712 rfl (lv_at hl 3 rfl) ?_
  refine z_iloadn F (pc := 713) dL_law_713 rfl (lv_at hl 0 rfl) ?_
  refine z_iconst F (pc := 714) (5) dL_law_714 ?_
  refine z_iadd F (pc := 715) dL_law_715 ?_
  refine z_sld F (pc := 716) hX hbl hbA hW hL (by omega) dL_law_716 ?_
  refine z_aloadn F (pc := 717) dL_law_717 rfl (lv_at hl 3 rfl) ?_
  refine z_iloadn F (pc := 718) dL_law_718 rfl (lv_at hl 0 rfl) ?_
  refine z_bipush F (pc := 719) (6) (by decide +kernel) dL_law_719 ?_
  refine z_iadd F (pc := 721) dL_law_721 ?_
  refine z_sld F (pc := 722) hX hbl hbA hW hL (by omega) dL_law_722 ?_
  refine z_aloadn F (pc := 723) dL_law_723 rfl (lv_at hl 3 rfl) ?_
  refine z_iloadn F (pc := 724) dL_law_724 rfl (lv_at hl 0 rfl) ?_
  refine z_bipush F (pc := 725) (7) (by decide +kernel) dL_law_725 ?_
  refine z_iadd F (pc := 727) dL_law_727 ?_
  refine z_sld F (pc := 728) hX hbl hbA hW hL (by omega) dL_law_728 ?_
  refine z_callVi F (pc := 729) hK hW hA (As := [.int (iI (sv xs0 (i + 1))), .int (iI (sv xs0 (i + 2))), .int (iI (sv xs0 (i + 3))), .int (iI (sv xs0 (i + 4))), .int (iI (sv xs0 (i + 5))), .int (iI (sv xs0 (i + 6))), .int (iI (sv xs0 (i + 7)))]) (rest := [.int (iI z_688)]) (ws' := fun (u : (Int → Int) × (Int → Int) × (Int → Int) × (Int → Int) × (Int)) => wB cI cZ aB aD aM aA aS aC aL aT di en mg ++ wD cI cZ aD xs ys lf ev nm sz ++ wM cI cZ aM lb kd pt mn ++ wA cI cZ aA so nu al ak ap an ax ++ wS cI cZ aS he ar le ++ wC cI cZ aC cx2_688 cr2_688 cl2_688 ll2_688 cn2_688 ++ wL cI cZ aL rw fn fp ln fc ++ wT cI cZ aT tl tm ts tc ++ wR cI cZ aR xs ys lf ev9 nm9 lb kd pt so9 nu9 al9 ak9 ap9 hh9 le9 rw u.1 u.2.1 u.2.2.1 u.2.2.2.1 tl9 ts9 tc9 sz mn ac en mg ln u.2.2.2.2 wc wp) (wr := (wB cI cZ aB aD aM aA aS aC aL aT di en mg ++ wD cI cZ aD xs ys lf ev nm sz ++ wM cI cZ aM lb kd pt mn ++ wA cI cZ aA so nu al ak ap an ax ++ wS cI cZ aS he ar le ++ wC cI cZ aC cx2_688 cr2_688 cl2_688 ll2_688 cn2_688 ++ wL cI cZ aL rw fn fp ln fc ++ wT cI cZ aT tl tm ts tc)) (c_X8_command l D cI cZ aR xs ys lf ev9 nm9 lb kd pt so9 nu9 al9 ak9 ap9 hh9 le9 rw cx cr cl ll tl9 ts9 tc9 sz mn ac en mg ln cn wc wp (sv xs0 (i + 1)) (sv xs0 (i + 2)) (sv xs0 (i + 3)) (sv xs0 (i + 4)) (sv xs0 (i + 5)) (sv xs0 (i + 6)) (sv xs0 (i + 7)) _ (by omega) (by omega) (by omega) (by omega) (by omega) (by omega) (by omega) (by omega)) (cwV 7 F.2.2.2.2 gL_law_X8_command rfl rfl rfl (by decide +kernel) ⟨Nat.le_of_ble_eq_true rfl, Nat.le_of_ble_eq_true rfl⟩) [36, 37, 38, 39, 40, 41, 42, 43, 44, 45, 46, 47, 48, 49, 50, 51, 52, 53, 54, 55, 56, 57, 58, 59] [0, 1, 2, 3, 4, 5, 6, 7, 8, 9, 10, 11, 12, 13, 14, 15, 16, 17, 18, 19, 20, 21, 22, 23, 24, 25, 26, 27, 28, 29, 30, 31, 32, 33, 34, 35] [0, 1, 2, 3, 4, 5, 6, 7, 8, 9, 10, 11, 12, 13, 14, 15, 16, 17, 18, 19, 20, 21, 22, 23, 24, 25, 26, 27, 28, 29, 30, 31, 32, 33, 34, 35, 36, 37, 38, 39, 40, 41, 42, 43, 44, 45, 46, 47, 48, 49, 50, 51, 52, 53, 54, 55, 56, 57, 58, 59] rfl rfl (by decide) (by decide) (by decide) (fun _ => rfl) (by decide) (q0 := 36) (ci := 8) rfl rfl rfl rfl rfl hl.1 (Nat.le_of_ble_eq_true rfl) dL_law_729 ⟨Nat.le_of_ble_eq_true rfl, Nat.le_of_ble_eq_true rfl⟩ (fun z_729 u H locs r_z_729 hp_729 hW => ?_)
  obtain ⟨cx2_729, cr2_729, cl2_729, ll2_729, cn2_729⟩ := u
  dsimp only at hp_729 hW
  obtain ⟨hans, e_cx, e_cr, e_cl, e_ll, e_cn, hc⟩ := cmd_step hc hp_688 hp_729
  have hWz := hW
  subst e_cx
  have hW := hWz
  have hWz := hW
  subst e_cr
  have hW := hWz
  have hWz := hW
  subst e_cl
  have hW := hWz
  have hWz := hW
  subst e_ll
  have hW := hWz
  have hWz := hW
  subst e_cn
  have hW := hWz
  refine z_icmp_eq F (pc := 732) 1014 dL_law_732 (by decide) (by omega) (fun c_732 => ?_) (fun c_732 => ?_)
  · skip
    exact cut_1014 di xs ys lf ev nm lb kd pt so nu al ak ap he ar le cx2_729 cr2_729 cl2_729 ll2_729 rw fn fp tl tm ts tc ev9 nm9 so9 nu9 al9 ak9 ap9 hh9 le9 tl9 ts9 tc9 en mg sz mn an ax cn2_729 ln fc ac wc wp _ _ _ (by exact hd) (by exact hmk) (by exact hc) (by exact hr) (by exact he9) (by exact hsh) (lv_sub hl [0, 1, 2, 3] rfl) hW
  · skip
    exact absurd (by omega) c_732
