set_option maxHeartbeats 8000000 in
set_option maxRecDepth 100000 in
theorem case_10 {p : Program} {l : Launch} {e : Env} {s : State} {m : MethodId} {below : List Frame} {meth : Method} {c : Code} {b L : Nat} {xs0 : Nat → Int32} {Q : State → Prop} {A : Nat → Prop} {D : va_G} {cI cZ : ClassId} {aB aD aM aA aS aC aL aT aR : Nat → Nat} {i : Int} (hF : LFix p s m c b L xs0 A D cI cZ) (g : 0 ≤ i ∧ i + 8 ≤ (L : Int)) (cut_1014 : LAt p l e s m below meth c b Q A D cI cZ aB aD aM aA aS aC aL aT aR i 1014) : LAt p l e s m below meth c b Q A D cI cZ aB aD aM aA aS aC aL aT aR i 446 := by
  obtain ⟨hL, F, hK, hA, hX, hbl, hbA⟩ := hF
  intro di xs ys lf ev nm lb kd pt so nu al ak ap he ar le cx cr cl ll rw fn fp tl tm ts tc ev9 nm9 so9 nu9 al9 ak9 ap9 hh9 le9 tl9 ts9 tc9 en mg sz mn an ax cn ln fc ac wc wp H locs ls hd hmk hc hr he9 hsh hl hW
  have q1 := sv_r xs0 (i + 1)
  have q2 := sv_r xs0 (i + 2)
  have q3 := sv_r xs0 (i + 3)
  have q4 := sv_r xs0 (i + 4)
  have q5 := sv_r xs0 (i + 5)
  have q6 := sv_r xs0 (i + 6)
  have q7 := sv_r xs0 (i + 7)
  have hmm := hmk.1
  have haa := hmk.2.2.2.2.1
  have hac := hmk.2.2.2.2.2.1
  have hd0 := hd.1
  have hc0 := hc.1
  have hr0 := hr.1
  have hw9 := wy_r hd (q := sz) (Int.le_refl _)
  refine z_aloadn F (pc := 446) dL_law_446 rfl (lv_at hl 2 rfl) ?_
  refine z_aloadn F (pc := 447) dL_law_447 rfl (lv_at hl 3 rfl) ?_
  refine z_iloadn F (pc := 448) dL_law_448 rfl (lv_at hl 0 rfl) ?_
  refine z_iconst F (pc := 449) (1) dL_law_449 ?_
  refine z_iadd F (pc := 450) dL_law_450 ?_
  refine z_sld F (pc := 451) hX hbl hbA hW hL (by omega) dL_law_451 ?_
  refine z_aloadn F (pc := 452) dL_law_452 rfl (lv_at hl 3 rfl) ?_
  refine z_iloadn F (pc := 453) dL_law_453 rfl (lv_at hl 0 rfl) ?_
  refine z_iconst F (pc := 454) (2) dL_law_454 ?_
  refine z_iadd F (pc := 455) dL_law_455 ?_
  refine z_sld F (pc := 456) hX hbl hbA hW hL (by omega) dL_law_456 ?_
  refine z_aloadn F (pc := 457) dL_law_457 rfl (lv_at hl 3 rfl) ?_
  refine z_iloadn F (pc := 458) dL_law_458 rfl (lv_at hl 0 rfl) ?_
  refine z_iconst F (pc := 459) (3) dL_law_459 ?_
  refine z_iadd F (pc := 460) dL_law_460 ?_
  refine z_sld F (pc := 461) hX hbl hbA hW hL (by omega) dL_law_461 ?_
  refine z_callVi F (pc := 462) hK hW hA (As := [.int (iI (sv xs0 (i + 1))), .int (iI (sv xs0 (i + 2))), .int (iI (sv xs0 (i + 3)))]) (rest := []) (ws' := fun (u : Unit) => wB cI cZ aB aD aM aA aS aC aL aT di en mg ++ wD cI cZ aD xs ys lf ev nm sz ++ wM cI cZ aM lb kd pt mn ++ wA cI cZ aA so nu al ak ap an ax ++ wS cI cZ aS he ar le ++ wC cI cZ aC cx cr cl ll cn ++ wL cI cZ aL rw fn fp ln fc ++ wT cI cZ aT tl tm ts tc ++ wR cI cZ aR xs ys lf ev9 nm9 lb kd pt so9 nu9 al9 ak9 ap9 hh9 le9 rw cx cr cl ll tl9 ts9 tc9 sz mn ac en mg ln cn wc wp) (wr := (wD cI cZ aD xs ys lf ev nm sz ++ wA cI cZ aA so nu al ak ap an ax ++ wS cI cZ aS he ar le ++ wC cI cZ aC cx cr cl ll cn ++ wL cI cZ aL rw fn fp ln fc ++ wT cI cZ aT tl tm ts tc ++ wR cI cZ aR xs ys lf ev9 nm9 lb kd pt so9 nu9 al9 ak9 ap9 hh9 le9 rw cx cr cl ll tl9 ts9 tc9 sz mn ac en mg ln cn wc wp)) (c_X7_taught l D cI cZ aB aD aM aA aS aC aL aT di lb kd pt en mg mn (sv xs0 (i + 1)) (sv xs0 (i + 2)) (sv xs0 (i + 3)) _ (by omega) (by omega) (by omega) (by omega) (by exact hmk.2.2.2.1)) (cwV 3 F.2.2.2.2 gL_law_X7_taught rfl rfl rfl (by decide +kernel) ⟨Nat.le_of_ble_eq_true rfl, Nat.le_of_ble_eq_true rfl⟩) [0, 1, 8, 9, 10, 11] [2, 3, 4, 5, 6, 7, 12, 13, 14, 15, 16, 17, 18, 19, 20, 21, 22, 23, 24, 25, 26, 27, 28, 29, 30, 31, 32, 33, 34, 35, 36, 37, 38, 39, 40, 41, 42, 43, 44, 45, 46, 47, 48, 49, 50, 51, 52, 53, 54, 55, 56, 57, 58, 59] [54, 55, 0, 1, 2, 3, 4, 5, 56, 57, 58, 59, 6, 7, 8, 9, 10, 11, 12, 13, 14, 15, 16, 17, 18, 19, 20, 21, 22, 23, 24, 25, 26, 27, 28, 29, 30, 31, 32, 33, 34, 35, 36, 37, 38, 39, 40, 41, 42, 43, 44, 45, 46, 47, 48, 49, 50, 51, 52, 53] rfl rfl (by decide) (by decide) (by decide) (fun _ => rfl) (by decide) (q0 := 0) (ci := 7) rfl rfl rfl rfl rfl hl.1 (Nat.le_of_ble_eq_true rfl) dL_law_462 ⟨Nat.le_of_ble_eq_true rfl, Nat.le_of_ble_eq_true rfl⟩ (fun z_462 u H locs r_z_462 hp_462 hW => ?_)
  refine z_aloadn F (pc := 465) dL_law_465 rfl (lv_at hl 1 rfl) ?_
  refine z_aloadn F (pc := 466) dL_law_466 rfl (lv_at hl 3 rfl) ?_
  refine z_iloadn F (pc := 467) dL_law_467 rfl (lv_at hl 0 rfl) ?_
  refine z_iconst F (pc := 468) (1) dL_law_468 ?_
  refine z_iadd F (pc := 469) dL_law_469 ?_
  refine z_sld F (pc := 470) hX hbl hbA hW hL (by omega) dL_law_470 ?_
  refine z_aloadn F (pc := 471) dL_law_471 rfl (lv_at hl 3 rfl) ?_
  refine z_iloadn F (pc := 472) dL_law_472 rfl (lv_at hl 0 rfl) ?_
  refine z_iconst F (pc := 473) (2) dL_law_473 ?_
  refine z_iadd F (pc := 474) dL_law_474 ?_
  refine z_sld F (pc := 475) hX hbl hbA hW hL (by omega) dL_law_475 ?_
  refine z_aloadn F (pc := 476) dL_law_476 rfl (lv_at hl 3 rfl) ?_
  refine z_iloadn F (pc := 477) dL_law_477 rfl (lv_at hl 0 rfl) ?_
  refine z_iconst F (pc := 478) (3) dL_law_478 ?_
  refine z_iadd F (pc := 479) dL_law_479 ?_
  refine z_sld F (pc := 480) hX hbl hbA hW hL (by omega) dL_law_480 ?_
  refine z_callVi F (pc := 481) hK hW hA (As := [.int (iI (sv xs0 (i + 1))), .int (iI (sv xs0 (i + 2))), .int (iI (sv xs0 (i + 3)))]) (rest := [.int (iI z_462)]) (ws' := fun (u : Unit) => wB cI cZ aB aD aM aA aS aC aL aT di en mg ++ wD cI cZ aD xs ys lf ev nm sz ++ wM cI cZ aM lb kd pt mn ++ wA cI cZ aA so nu al ak ap an ax ++ wS cI cZ aS he ar le ++ wC cI cZ aC cx cr cl ll cn ++ wL cI cZ aL rw fn fp ln fc ++ wT cI cZ aT tl tm ts tc ++ wR cI cZ aR xs ys lf ev9 nm9 lb kd pt so9 nu9 al9 ak9 ap9 hh9 le9 rw cx cr cl ll tl9 ts9 tc9 sz mn ac en mg ln cn wc wp) (wr := (wB cI cZ aB aD aM aA aS aC aL aT di en mg ++ wD cI cZ aD xs ys lf ev nm sz ++ wM cI cZ aM lb kd pt mn ++ wA cI cZ aA so nu al ak ap an ax ++ wS cI cZ aS he ar le ++ wC cI cZ aC cx cr cl ll cn ++ wL cI cZ aL rw fn fp ln fc ++ wT cI cZ aT tl tm ts tc)) (c_X8_taught l D cI cZ aR xs ys lf ev9 nm9 lb kd pt so9 nu9 al9 ak9 ap9 hh9 le9 rw cx cr cl ll tl9 ts9 tc9 sz mn ac en mg ln cn wc wp (sv xs0 (i + 1)) (sv xs0 (i + 2)) (sv xs0 (i + 3)) _ (by omega) (by omega) (by omega) (by omega) (by exact hmk.2.2.2.1)) (cwV 3 F.2.2.2.2 gL_law_X8_taught rfl rfl rfl (by decide +kernel) ⟨Nat.le_of_ble_eq_true rfl, Nat.le_of_ble_eq_true rfl⟩) [36, 37, 38, 39, 40, 41, 42, 43, 44, 45, 46, 47, 48, 49, 50, 51, 52, 53, 54, 55, 56, 57, 58, 59] [0, 1, 2, 3, 4, 5, 6, 7, 8, 9, 10, 11, 12, 13, 14, 15, 16, 17, 18, 19, 20, 21, 22, 23, 24, 25, 26, 27, 28, 29, 30, 31, 32, 33, 34, 35] [0, 1, 2, 3, 4, 5, 6, 7, 8, 9, 10, 11, 12, 13, 14, 15, 16, 17, 18, 19, 20, 21, 22, 23, 24, 25, 26, 27, 28, 29, 30, 31, 32, 33, 34, 35, 36, 37, 38, 39, 40, 41, 42, 43, 44, 45, 46, 47, 48, 49, 50, 51, 52, 53, 54, 55, 56, 57, 58, 59] rfl rfl (by decide) (by decide) (by decide) (fun _ => rfl) (by decide) (q0 := 36) (ci := 8) rfl rfl rfl rfl rfl hl.1 (Nat.le_of_ble_eq_true rfl) dL_law_481 ⟨Nat.le_of_ble_eq_true rfl, Nat.le_of_ble_eq_true rfl⟩ (fun z_481 u H locs r_z_481 hp_481 hW => ?_)
  have hans := taughtP_one hp_462 hp_481
  refine z_icmp_eq F (pc := 484) 1014 dL_law_484 (by decide) (by omega) (fun c_484 => ?_) (fun c_484 => ?_)
  · skip
    exact cut_1014 di xs ys lf ev nm lb kd pt so nu al ak ap he ar le cx cr cl ll rw fn fp tl tm ts tc ev9 nm9 so9 nu9 al9 ak9 ap9 hh9 le9 tl9 ts9 tc9 en mg sz mn an ax cn ln fc ac wc wp _ _ _ (by exact hd) (by exact hmk) (by exact hc) (by exact hr) (by exact he9) (by exact hsh) (lv_sub hl [0, 1, 2, 3] rfl) hW
  · skip
    exact absurd (by omega) c_484

set_option maxHeartbeats 8000000 in
set_option maxRecDepth 100000 in
theorem case_11 {p : Program} {l : Launch} {e : Env} {s : State} {m : MethodId} {below : List Frame} {meth : Method} {c : Code} {b L : Nat} {xs0 : Nat → Int32} {Q : State → Prop} {A : Nat → Prop} {D : va_G} {cI cZ : ClassId} {aB aD aM aA aS aC aL aT aR : Nat → Nat} {i : Int} (hF : LFix p s m c b L xs0 A D cI cZ) (g : 0 ≤ i ∧ i + 8 ≤ (L : Int)) (cut_1014 : LAt p l e s m below meth c b Q A D cI cZ aB aD aM aA aS aC aL aT aR i 1014) : LAt p l e s m below meth c b Q A D cI cZ aB aD aM aA aS aC aL aT aR i 489 := by
  obtain ⟨hL, F, hK, hA, hX, hbl, hbA⟩ := hF
  intro di xs ys lf ev nm lb kd pt so nu al ak ap he ar le cx cr cl ll rw fn fp tl tm ts tc ev9 nm9 so9 nu9 al9 ak9 ap9 hh9 le9 tl9 ts9 tc9 en mg sz mn an ax cn ln fc ac wc wp H locs ls hd hmk hc hr he9 hsh hl hW
  have q1 := sv_r xs0 (i + 1)
  have q2 := sv_r xs0 (i + 2)
  have q3 := sv_r xs0 (i + 3)
  have q4 := sv_r xs0 (i + 4)
  have q5 := sv_r xs0 (i + 5)
  have q6 := sv_r xs0 (i + 6)
  have q7 := sv_r xs0 (i + 7)
  have hmm := hmk.1
  have haa := hmk.2.2.2.2.1
  have hac := hmk.2.2.2.2.2.1
  have hd0 := hd.1
  have hc0 := hc.1
  have hr0 := hr.1
  have hw9 := wy_r hd (q := sz) (Int.le_refl _)
  refine z_aloadn F (pc := 489) dL_law_489 rfl (lv_at hl 2 rfl) ?_
  refine z_aloadn F (pc := 490) dL_law_490 rfl (lv_at hl 3 rfl) ?_
  refine z_iloadn F (pc := 491) dL_law_491 rfl (lv_at hl 0 rfl) ?_
  refine z_iconst F (pc := 492) (1) dL_law_492 ?_
  refine z_iadd F (pc := 493) dL_law_493 ?_
  refine z_sld F (pc := 494) hX hbl hbA hW hL (by omega) dL_law_494 ?_
  refine z_aloadn F (pc := 495) dL_law_495 rfl (lv_at hl 3 rfl) ?_
  refine z_iloadn F (pc := 496) dL_law_496 rfl (lv_at hl 0 rfl) ?_
  refine z_iconst F (pc := 497) (2) dL_law_497 ?_
  refine z_iadd F (pc := 498) dL_law_498 ?_
  refine z_sld F (pc := 499) hX hbl hbA hW hL (by omega) dL_law_499 ?_
  refine z_callVi F (pc := 500) hK hW hA (As := [.int (iI (sv xs0 (i + 1))), .int (iI (sv xs0 (i + 2)))]) (rest := []) (ws' := fun (u : (Int) × (Int)) => wB cI cZ aB aD aM aA aS aC aL aT di u.1 u.2 ++ wD cI cZ aD xs ys lf ev nm sz ++ wM cI cZ aM lb kd pt mn ++ wA cI cZ aA so nu al ak ap an ax ++ wS cI cZ aS he ar le ++ wC cI cZ aC cx cr cl ll cn ++ wL cI cZ aL rw fn fp ln fc ++ wT cI cZ aT tl tm ts tc ++ wR cI cZ aR xs ys lf ev9 nm9 lb kd pt so9 nu9 al9 ak9 ap9 hh9 le9 rw cx cr cl ll tl9 ts9 tc9 sz mn ac en mg ln cn wc wp) (wr := (wD cI cZ aD xs ys lf ev nm sz ++ wM cI cZ aM lb kd pt mn ++ wA cI cZ aA so nu al ak ap an ax ++ wS cI cZ aS he ar le ++ wC cI cZ aC cx cr cl ll cn ++ wL cI cZ aL rw fn fp ln fc ++ wT cI cZ aT tl tm ts tc ++ wR cI cZ aR xs ys lf ev9 nm9 lb kd pt so9 nu9 al9 ak9 ap9 hh9 le9 rw cx cr cl ll tl9 ts9 tc9 sz mn ac en mg ln cn wc wp)) (c_X7_ends l D cI cZ aB aD aM aA aS aC aL aT di en mg (sv xs0 (i + 1)) (sv xs0 (i + 2)) _ (by omega) (by omega)) (cwV 2 F.2.2.2.2 gL_law_X7_ends rfl rfl rfl (by decide +kernel) ⟨Nat.le_of_ble_eq_true rfl, Nat.le_of_ble_eq_true rfl⟩) [0, 1] [2, 3, 4, 5, 6, 7, 8, 9, 10, 11, 12, 13, 14, 15, 16, 17, 18, 19, 20, 21, 22, 23, 24, 25, 26, 27, 28, 29, 30, 31, 32, 33, 34, 35, 36, 37, 38, 39, 40, 41, 42, 43, 44, 45, 46, 47, 48, 49, 50, 51, 52, 53, 54, 55, 56, 57, 58, 59] [58, 59, 0, 1, 2, 3, 4, 5, 6, 7, 8, 9, 10, 11, 12, 13, 14, 15, 16, 17, 18, 19, 20, 21, 22, 23, 24, 25, 26, 27, 28, 29, 30, 31, 32, 33, 34, 35, 36, 37, 38, 39, 40, 41, 42, 43, 44, 45, 46, 47, 48, 49, 50, 51, 52, 53, 54, 55, 56, 57] rfl rfl (by decide) (by decide) (by decide) (fun _ => rfl) (by decide) (q0 := 0) (ci := 7) rfl rfl rfl rfl rfl hl.1 (Nat.le_of_ble_eq_true rfl) dL_law_500 ⟨Nat.le_of_ble_eq_true rfl, Nat.le_of_ble_eq_true rfl⟩ (fun z_500 u H locs r_z_500 hp_500 hW => ?_)
  obtain ⟨en2_500, mg2_500⟩ := u
  dsimp only at hp_500 hW
  refine z_aloadn F (pc := 503) dL_law_503 rfl (lv_at hl 1 rfl) ?_
  refine z_aloadn F (pc := 504) dL_law_504 rfl (lv_at hl 3 rfl) ?_
  refine z_iloadn F (pc := 505) dL_law_505 rfl (lv_at hl 0 rfl) ?_
  refine z_iconst F (pc := 506) (1) dL_law_506 ?_
  refine z_iadd F (pc := 507) dL_law_507 ?_
  refine z_sld F (pc := 508) hX hbl hbA hW hL (by omega) dL_law_508 ?_
  refine z_aloadn F (pc := 509) dL_law_509 rfl (lv_at hl 3 rfl) ?_
  refine z_iloadn F (pc := 510) dL_law_510 rfl (lv_at hl 0 rfl) ?_
  refine z_iconst F (pc := 511) (2) dL_law_511 ?_
  refine z_iadd F (pc := 512) dL_law_512 ?_
  refine z_sld F (pc := 513) hX hbl hbA hW hL (by omega) dL_law_513 ?_
  refine z_callVi F (pc := 514) hK hW hA (As := [.int (iI (sv xs0 (i + 1))), .int (iI (sv xs0 (i + 2)))]) (rest := [.int (iI z_500)]) (ws' := fun (u : (Int) × (Int)) => wB cI cZ aB aD aM aA aS aC aL aT di en2_500 mg2_500 ++ wD cI cZ aD xs ys lf ev nm sz ++ wM cI cZ aM lb kd pt mn ++ wA cI cZ aA so nu al ak ap an ax ++ wS cI cZ aS he ar le ++ wC cI cZ aC cx cr cl ll cn ++ wL cI cZ aL rw fn fp ln fc ++ wT cI cZ aT tl tm ts tc ++ wR cI cZ aR xs ys lf ev9 nm9 lb kd pt so9 nu9 al9 ak9 ap9 hh9 le9 rw cx cr cl ll tl9 ts9 tc9 sz mn ac u.1 u.2 ln cn wc wp) (wr := (wB cI cZ aB aD aM aA aS aC aL aT di en2_500 mg2_500 ++ wD cI cZ aD xs ys lf ev nm sz ++ wM cI cZ aM lb kd pt mn ++ wA cI cZ aA so nu al ak ap an ax ++ wS cI cZ aS he ar le ++ wC cI cZ aC cx cr cl ll cn ++ wL cI cZ aL rw fn fp ln fc ++ wT cI cZ aT tl tm ts tc)) (c_X8_ends l D cI cZ aR xs ys lf ev9 nm9 lb kd pt so9 nu9 al9 ak9 ap9 hh9 le9 rw cx cr cl ll tl9 ts9 tc9 sz mn ac en mg ln cn wc wp (sv xs0 (i + 1)) (sv xs0 (i + 2)) _ (by omega) (by omega)) (cwV 2 F.2.2.2.2 gL_law_X8_ends rfl rfl rfl (by decide +kernel) ⟨Nat.le_of_ble_eq_true rfl, Nat.le_of_ble_eq_true rfl⟩) [36, 37, 38, 39, 40, 41, 42, 43, 44, 45, 46, 47, 48, 49, 50, 51, 52, 53, 54, 55, 56, 57, 58, 59] [0, 1, 2, 3, 4, 5, 6, 7, 8, 9, 10, 11, 12, 13, 14, 15, 16, 17, 18, 19, 20, 21, 22, 23, 24, 25, 26, 27, 28, 29, 30, 31, 32, 33, 34, 35] [0, 1, 2, 3, 4, 5, 6, 7, 8, 9, 10, 11, 12, 13, 14, 15, 16, 17, 18, 19, 20, 21, 22, 23, 24, 25, 26, 27, 28, 29, 30, 31, 32, 33, 34, 35, 36, 37, 38, 39, 40, 41, 42, 43, 44, 45, 46, 47, 48, 49, 50, 51, 52, 53, 54, 55, 56, 57, 58, 59] rfl rfl (by decide) (by decide) (by decide) (fun _ => rfl) (by decide) (q0 := 36) (ci := 8) rfl rfl rfl rfl rfl hl.1 (Nat.le_of_ble_eq_true rfl) dL_law_514 ⟨Nat.le_of_ble_eq_true rfl, Nat.le_of_ble_eq_true rfl⟩ (fun z_514 u H locs r_z_514 hp_514 hW => ?_)
  obtain ⟨en2_514, mg2_514⟩ := u
  dsimp only at hp_514 hW
  obtain ⟨hans, e_en, e_mg, he9⟩ := ends_step he9 hp_500 hp_514
  have hWz := hW
  subst e_en
  have hW := hWz
  have hWz := hW
  subst e_mg
  have hW := hWz
  refine z_icmp_eq F (pc := 517) 1014 dL_law_517 (by decide) (by omega) (fun c_517 => ?_) (fun c_517 => ?_)
  · skip
    exact cut_1014 di xs ys lf ev nm lb kd pt so nu al ak ap he ar le cx cr cl ll rw fn fp tl tm ts tc ev9 nm9 so9 nu9 al9 ak9 ap9 hh9 le9 tl9 ts9 tc9 en2_514 mg2_514 sz mn an ax cn ln fc ac wc wp _ _ _ (by exact hd) (by exact hmk) (by exact hc) (by exact hr) (by exact he9) (by exact hsh) (lv_sub hl [0, 1, 2, 3] rfl) hW
  · skip
    exact absurd (by omega) c_517

set_option maxHeartbeats 8000000 in
set_option maxRecDepth 100000 in
theorem case_12 {p : Program} {l : Launch} {e : Env} {s : State} {m : MethodId} {below : List Frame} {meth : Method} {c : Code} {b L : Nat} {xs0 : Nat → Int32} {Q : State → Prop} {A : Nat → Prop} {D : va_G} {cI cZ : ClassId} {aB aD aM aA aS aC aL aT aR : Nat → Nat} {i : Int} (hF : LFix p s m c b L xs0 A D cI cZ) (g : 0 ≤ i ∧ i + 8 ≤ (L : Int)) (cut_1014 : LAt p l e s m below meth c b Q A D cI cZ aB aD aM aA aS aC aL aT aR i 1014) : LAt p l e s m below meth c b Q A D cI cZ aB aD aM aA aS aC aL aT aR i 522 := by
  obtain ⟨hL, F, hK, hA, hX, hbl, hbA⟩ := hF
  intro di xs ys lf ev nm lb kd pt so nu al ak ap he ar le cx cr cl ll rw fn fp tl tm ts tc ev9 nm9 so9 nu9 al9 ak9 ap9 hh9 le9 tl9 ts9 tc9 en mg sz mn an ax cn ln fc ac wc wp H locs ls hd hmk hc hr he9 hsh hl hW
  have q1 := sv_r xs0 (i + 1)
  have q2 := sv_r xs0 (i + 2)
  have q3 := sv_r xs0 (i + 3)
  have q4 := sv_r xs0 (i + 4)
  have q5 := sv_r xs0 (i + 5)
  have q6 := sv_r xs0 (i + 6)
  have q7 := sv_r xs0 (i + 7)
  have hmm := hmk.1
  have haa := hmk.2.2.2.2.1
  have hac := hmk.2.2.2.2.2.1
  have hd0 := hd.1
  have hc0 := hc.1
  have hr0 := hr.1
  have hw9 := wy_r hd (q := sz) (Int.le_refl _)
  refine z_aloadn F (pc := 522) dL_law_522 rfl (lv_at hl 2 rfl) ?_
  refine z_aloadn F (pc := 523) dL_law_523 rfl (lv_at hl 3 rfl) ?_
  refine z_iloadn F (pc := 524) dL_law_524 rfl (lv_at hl 0 rfl) ?_
  refine z_iconst F (pc := 525) (1) dL_law_525 ?_
  refine z_iadd F (pc := 526) dL_law_526 ?_
  refine z_sld F (pc := 527) hX hbl hbA hW hL (by omega) dL_law_527 ?_
  refine z_callVi F (pc := 528) hK hW hA (As := [.int (iI (sv xs0 (i + 1)))]) (rest := []) (ws' := fun (u : (Int → Int) × (Int → Int) × (Int → Int) × (Int → Int) × (Int → Int)) => wB cI cZ aB aD aM aA aS aC aL aT di en mg ++ wD cI cZ aD xs ys lf u.1 u.2.1 sz ++ wM cI cZ aM lb kd pt mn ++ wA cI cZ aA so nu al ak ap an ax ++ wS cI cZ aS u.2.2.1 u.2.2.2.1 u.2.2.2.2 ++ wC cI cZ aC cx cr cl ll cn ++ wL cI cZ aL rw fn fp ln fc ++ wT cI cZ aT tl tm ts tc ++ wR cI cZ aR xs ys lf ev9 nm9 lb kd pt so9 nu9 al9 ak9 ap9 hh9 le9 rw cx cr cl ll tl9 ts9 tc9 sz mn ac en mg ln cn wc wp) (wr := (wA cI cZ aA so nu al ak ap an ax ++ wC cI cZ aC cx cr cl ll cn ++ wL cI cZ aL rw fn fp ln fc ++ wT cI cZ aT tl tm ts tc ++ wR cI cZ aR xs ys lf ev9 nm9 lb kd pt so9 nu9 al9 ak9 ap9 hh9 le9 rw cx cr cl ll tl9 ts9 tc9 sz mn ac en mg ln cn wc wp)) (c_X7_distance l D cI cZ aB aD aM aA aS aC aL aT di xs ys lf ev nm lb kd pt he ar le en mg sz mn (sv xs0 (i + 1)) _ (by omega) (by first | exact hd | exact hd.1) (by omega) (by exact hmk.2.2.1) (by exact hmk.2.2.2.1)) (cwV 1 F.2.2.2.2 gL_law_X7_distance rfl rfl rfl (by decide +kernel) ⟨Nat.le_of_ble_eq_true rfl, Nat.le_of_ble_eq_true rfl⟩) [0, 1, 2, 3, 4, 5, 6, 7, 8, 9, 10, 11, 18, 19, 20, 21] [12, 13, 14, 15, 16, 17, 22, 23, 24, 25, 26, 27, 28, 29, 30, 31, 32, 33, 34, 35, 36, 37, 38, 39, 40, 41, 42, 43, 44, 45, 46, 47, 48, 49, 50, 51, 52, 53, 54, 55, 56, 57, 58, 59] [44, 45, 46, 47, 48, 49, 50, 51, 52, 53, 54, 55, 0, 1, 2, 3, 4, 5, 56, 57, 58, 59, 6, 7, 8, 9, 10, 11, 12, 13, 14, 15, 16, 17, 18, 19, 20, 21, 22, 23, 24, 25, 26, 27, 28, 29, 30, 31, 32, 33, 34, 35, 36, 37, 38, 39, 40, 41, 42, 43] rfl rfl (by decide) (by decide) (by decide) (fun _ => rfl) (by decide) (q0 := 0) (ci := 7) rfl rfl rfl rfl rfl hl.1 (Nat.le_of_ble_eq_true rfl) dL_law_528 ⟨Nat.le_of_ble_eq_true rfl, Nat.le_of_ble_eq_true rfl⟩ (fun z_528 u H locs r_z_528 hp_528 hW => ?_)
  obtain ⟨ev2_528, nm2_528, he2_528, ar2_528, le2_528⟩ := u
  dsimp only at hp_528 hW
  refine z_aloadn F (pc := 531) dL_law_531 rfl (lv_at hl 1 rfl) ?_
  refine z_aloadn F (pc := 532) dL_law_532 rfl (lv_at hl 3 rfl) ?_
  refine z_iloadn F (pc := 533) dL_law_533 rfl (lv_at hl 0 rfl) ?_
  refine z_iconst F (pc := 534) (1) dL_law_534 ?_
  refine z_iadd F (pc := 535) dL_law_535 ?_
  refine z_sld F (pc := 536) hX hbl hbA hW hL (by omega) dL_law_536 ?_
  refine z_callVi F (pc := 537) hK hW hA (As := [.int (iI (sv xs0 (i + 1)))]) (rest := [.int (iI z_528)]) (ws' := fun (u : (Int → Int) × (Int → Int) × (Int → Int) × (Int → Int)) => wB cI cZ aB aD aM aA aS aC aL aT di en mg ++ wD cI cZ aD xs ys lf ev2_528 nm2_528 sz ++ wM cI cZ aM lb kd pt mn ++ wA cI cZ aA so nu al ak ap an ax ++ wS cI cZ aS he2_528 ar2_528 le2_528 ++ wC cI cZ aC cx cr cl ll cn ++ wL cI cZ aL rw fn fp ln fc ++ wT cI cZ aT tl tm ts tc ++ wR cI cZ aR xs ys lf u.1 u.2.1 lb kd pt so9 nu9 al9 ak9 ap9 u.2.2.1 u.2.2.2 rw cx cr cl ll tl9 ts9 tc9 sz mn ac en mg ln cn wc wp) (wr := (wB cI cZ aB aD aM aA aS aC aL aT di en mg ++ wD cI cZ aD xs ys lf ev2_528 nm2_528 sz ++ wM cI cZ aM lb kd pt mn ++ wA cI cZ aA so nu al ak ap an ax ++ wS cI cZ aS he2_528 ar2_528 le2_528 ++ wC cI cZ aC cx cr cl ll cn ++ wL cI cZ aL rw fn fp ln fc ++ wT cI cZ aT tl tm ts tc)) (c_X8_distance l D cI cZ aR xs ys lf ev9 nm9 lb kd pt so9 nu9 al9 ak9 ap9 hh9 le9 rw cx cr cl ll tl9 ts9 tc9 sz mn ac en mg ln cn wc wp (sv xs0 (i + 1)) _ (by omega) (by first | exact hd | exact hd.1) (by omega) (by exact hmk.2.2.1) (by exact hmk.2.2.2.1)) (cwV 1 F.2.2.2.2 gL_law_X8_distance rfl rfl rfl (by decide +kernel) ⟨Nat.le_of_ble_eq_true rfl, Nat.le_of_ble_eq_true rfl⟩) [36, 37, 38, 39, 40, 41, 42, 43, 44, 45, 46, 47, 48, 49, 50, 51, 52, 53, 54, 55, 56, 57, 58, 59] [0, 1, 2, 3, 4, 5, 6, 7, 8, 9, 10, 11, 12, 13, 14, 15, 16, 17, 18, 19, 20, 21, 22, 23, 24, 25, 26, 27, 28, 29, 30, 31, 32, 33, 34, 35] [0, 1, 2, 3, 4, 5, 6, 7, 8, 9, 10, 11, 12, 13, 14, 15, 16, 17, 18, 19, 20, 21, 22, 23, 24, 25, 26, 27, 28, 29, 30, 31, 32, 33, 34, 35, 36, 37, 38, 39, 40, 41, 42, 43, 44, 45, 46, 47, 48, 49, 50, 51, 52, 53, 54, 55, 56, 57, 58, 59] rfl rfl (by decide) (by decide) (by decide) (fun _ => rfl) (by decide) (q0 := 36) (ci := 8) rfl rfl rfl rfl rfl hl.1 (Nat.le_of_ble_eq_true rfl) dL_law_537 ⟨Nat.le_of_ble_eq_true rfl, Nat.le_of_ble_eq_true rfl⟩ (fun z_537 u H locs r_z_537 hp_537 hW => ?_)
  obtain ⟨ev2_537, nm2_537, he2_537, le2_537⟩ := u
  dsimp only at hp_537 hW
  have hans := distR_one hp_528 hp_537
  refine z_icmp_eq F (pc := 540) 1014 dL_law_540 (by decide) (by omega) (fun c_540 => ?_) (fun c_540 => ?_)
  · skip
    exact cut_1014 di xs ys lf ev2_528 nm2_528 lb kd pt so nu al ak ap he2_528 ar2_528 le2_528 cx cr cl ll rw fn fp tl tm ts tc ev2_537 nm2_537 so9 nu9 al9 ak9 ap9 he2_537 le2_537 tl9 ts9 tc9 en mg sz mn an ax cn ln fc ac wc wp _ _ _ (by exact hd) (by exact hmk) (by exact hc) (by exact hr) (by exact he9) (by exact hsh) (lv_sub hl [0, 1, 2, 3] rfl) hW
  · skip
    exact absurd (by omega) c_540
