set_option maxHeartbeats 8000000 in
set_option maxRecDepth 100000 in
theorem case_4 {p : Program} {l : Launch} {e : Env} {s : State} {m : MethodId} {below : List Frame} {meth : Method} {c : Code} {b L : Nat} {xs0 : Nat → Int32} {Q : State → Prop} {A : Nat → Prop} {D : va_G} {cI cZ : ClassId} {aB aD aM aA aS aC aL aT aR : Nat → Nat} {i : Int} (hF : LFix p s m c b L xs0 A D cI cZ) (g : 0 ≤ i ∧ i + 8 ≤ (L : Int)) (cut_1014 : LAt p l e s m below meth c b Q A D cI cZ aB aD aM aA aS aC aL aT aR i 1014) : LAt p l e s m below meth c b Q A D cI cZ aB aD aM aA aS aC aL aT aR i 278 := by
  obtain ⟨hL, F, hK, hA, hX, hbl, hbA⟩ := hF
  intro di xs ys lf ev nm lb kd pt so nu al ak ap he ar le cx cr cl ll rw fn fp tl tm ts tc ev9 nm9 so9 nu9 al9 ak9 ap9 hh9 le9 tl9 ts9 tc9 en mg sz mn an ax cn ln fc ac wc wp H locs ls hd hmk hc hr he9 hsh hl hW
  have q1 := sv_r xs0 (i + 1)
  have q2 := sv_r xs0 (i + 2)
  have q3 := sv_r xs0 (i + 3)
  have q4 := sv_r xs0 (i + 4)
  have q5 := sv_r xs0 (i + 5)
  have q6 := sv_r xs0 (i + 6)
  have q7 := sv_r xs0 (i + 7)
  have hmm := hmk.1
  have haa := hmk.2.2.2.2.1
  have hac := hmk.2.2.2.2.2.1
  have hd0 := hd.1
  have hc0 := hc.1
  have hr0 := hr.1
  have hw9 := wy_r hd (q := sz) (Int.le_refl _)
  refine z_aloadn F (pc := 278) dL_law_278 rfl (lv_at hl 2 rfl) ?_
  refine z_aloadn F (pc := 279) dL_law_279 rfl (lv_at hl 3 rfl) ?_
  refine z_iloadn F (pc := 280) dL_law_280 rfl (lv_at hl 0 rfl) ?_
  refine z_iconst F (pc := 281) (1) dL_law_281 ?_
  refine z_iadd F (pc := 282) dL_law_282 ?_
  refine z_sld F (pc := 283) hX hbl hbA hW hL (by omega) dL_law_283 ?_
  refine z_aloadn F (pc := 284) dL_law_284 rfl (lv_at hl 3 rfl) ?_
  refine z_iloadn F (pc := 285) dL_law_285 rfl (lv_at hl 0 rfl) ?_
  refine z_iconst F (pc := 286) (2) dL_law_286 ?_
  refine z_iadd F (pc := 287) dL_law_287 ?_
  refine z_sld F (pc := 288) hX hbl hbA hW hL (by omega) dL_law_288 ?_
  refine z_callVi F (pc := 289) hK hW hA (As := [.int (iI (sv xs0 (i + 1))), .int (iI (sv xs0 (i + 2)))]) (rest := []) (ws' := fun (u : (Int → Int) × (Int → Int)) => wB cI cZ aB aD aM aA aS aC aL aT di en mg ++ wD cI cZ aD xs ys lf u.1 u.2 sz ++ wM cI cZ aM lb kd pt mn ++ wA cI cZ aA so nu al ak ap an ax ++ wS cI cZ aS he ar le ++ wC cI cZ aC cx cr cl ll cn ++ wL cI cZ aL rw fn fp ln fc ++ wT cI cZ aT tl tm ts tc ++ wR cI cZ aR xs ys lf ev9 nm9 lb kd pt so9 nu9 al9 ak9 ap9 hh9 le9 rw cx cr cl ll tl9 ts9 tc9 sz mn ac en mg ln cn wc wp) (wr := (wM cI cZ aM lb kd pt mn ++ wA cI cZ aA so nu al ak ap an ax ++ wS cI cZ aS he ar le ++ wC cI cZ aC cx cr cl ll cn ++ wL cI cZ aL rw fn fp ln fc ++ wT cI cZ aT tl tm ts tc ++ wR cI cZ aR xs ys lf ev9 nm9 lb kd pt so9 nu9 al9 ak9 ap9 hh9 le9 rw cx cr cl ll tl9 ts9 tc9 sz mn ac en mg ln cn wc wp)) (c_X7_normal l D cI cZ aB aD aM aA aS aC aL aT di xs ys lf ev nm en mg sz (sv xs0 (i + 1)) (sv xs0 (i + 2)) _ (by omega) (by omega) (by first | exact hd | exact hd.1)) (cwV 2 F.2.2.2.2 gL_law_X7_normal rfl rfl rfl (by decide +kernel) ⟨Nat.le_of_ble_eq_true rfl, Nat.le_of_ble_eq_true rfl⟩) [0, 1, 2, 3, 4, 5, 6, 7] [8, 9, 10, 11, 12, 13, 14, 15, 16, 17, 18, 19, 20, 21, 22, 23, 24, 25, 26, 27, 28, 29, 30, 31, 32, 33, 34, 35, 36, 37, 38, 39, 40, 41, 42, 43, 44, 45, 46, 47, 48, 49, 50, 51, 52, 53, 54, 55, 56, 57, 58, 59] [52, 53, 54, 55, 56, 57, 58, 59, 0, 1, 2, 3, 4, 5, 6, 7, 8, 9, 10, 11, 12, 13, 14, 15, 16, 17, 18, 19, 20, 21, 22, 23, 24, 25, 26, 27, 28, 29, 30, 31, 32, 33, 34, 35, 36, 37, 38, 39, 40, 41, 42, 43, 44, 45, 46, 47, 48, 49, 50, 51] rfl rfl (by decide) (by decide) (by decide) (fun _ => rfl) (by decide) (q0 := 0) (ci := 7) rfl rfl rfl rfl rfl hl.1 (Nat.le_of_ble_eq_true rfl) dL_law_289 ⟨Nat.le_of_ble_eq_true rfl, Nat.le_of_ble_eq_true rfl⟩ (fun z_289 u H locs r_z_289 hp_289 hW => ?_)
  obtain ⟨ev2_289, nm2_289⟩ := u
  dsimp only at hp_289 hW
  refine z_aloadn F (pc := 292) dL_law_292 rfl (lv_at hl 1 rfl) ?_
  refine z_aloadn F (pc := 293) dL_law_293 rfl (lv_at hl 3 rfl) ?_
  refine z_iloadn F (pc := 294) dL_law_294 rfl (lv_at hl 0 rfl) ?_
  refine z_iconst F (pc := 295) (1) dL_law_295 ?_
  refine z_iadd F (pc := 296) dL_law_296 ?_
  refine z_sld F (pc := 297) hX hbl hbA hW hL (by omega) dL_law_297 ?_
  refine z_aloadn F (pc := 298) dL_law_298 rfl (lv_at hl 3 rfl) ?_
  refine z_iloadn F (pc := 299) dL_law_299 rfl (lv_at hl 0 rfl) ?_
  refine z_iconst F (pc := 300) (2) dL_law_300 ?_
  refine z_iadd F (pc := 301) dL_law_301 ?_
  refine z_sld F (pc := 302) hX hbl hbA hW hL (by omega) dL_law_302 ?_
  refine z_callVi F (pc := 303) hK hW hA (As := [.int (iI (sv xs0 (i + 1))), .int (iI (sv xs0 (i + 2)))]) (rest := [.int (iI z_289)]) (ws' := fun (u : (Int → Int) × (Int → Int)) => wB cI cZ aB aD aM aA aS aC aL aT di en mg ++ wD cI cZ aD xs ys lf ev2_289 nm2_289 sz ++ wM cI cZ aM lb kd pt mn ++ wA cI cZ aA so nu al ak ap an ax ++ wS cI cZ aS he ar le ++ wC cI cZ aC cx cr cl ll cn ++ wL cI cZ aL rw fn fp ln fc ++ wT cI cZ aT tl tm ts tc ++ wR cI cZ aR xs ys lf u.1 u.2 lb kd pt so9 nu9 al9 ak9 ap9 hh9 le9 rw cx cr cl ll tl9 ts9 tc9 sz mn ac en mg ln cn wc wp) (wr := (wB cI cZ aB aD aM aA aS aC aL aT di en mg ++ wD cI cZ aD xs ys lf ev2_289 nm2_289 sz ++ wM cI cZ aM lb kd pt mn ++ wA cI cZ aA so nu al ak ap an ax ++ wS cI cZ aS he ar le ++ wC cI cZ aC cx cr cl ll cn ++ wL cI cZ aL rw fn fp ln fc ++ wT cI cZ aT tl tm ts tc)) (c_X8_normal l D cI cZ aR xs ys lf ev9 nm9 lb kd pt so9 nu9 al9 ak9 ap9 hh9 le9 rw cx cr cl ll tl9 ts9 tc9 sz mn ac en mg ln cn wc wp (sv xs0 (i + 1)) (sv xs0 (i + 2)) _ (by omega) (by omega) (by first | exact hd | exact hd.1)) (cwV 2 F.2.2.2.2 gL_law_X8_normal rfl rfl rfl (by decide +kernel) ⟨Nat.le_of_ble_eq_true rfl, Nat.le_of_ble_eq_true rfl⟩) [36, 37, 38, 39, 40, 41, 42, 43, 44, 45, 46, 47, 48, 49, 50, 51, 52, 53, 54, 55, 56, 57, 58, 59] [0, 1, 2, 3, 4, 5, 6, 7, 8, 9, 10, 11, 12, 13, 14, 15, 16, 17, 18, 19, 20, 21, 22, 23, 24, 25, 26, 27, 28, 29, 30, 31, 32, 33, 34, 35] [0, 1, 2, 3, 4, 5, 6, 7, 8, 9, 10, 11, 12, 13, 14, 15, 16, 17, 18, 19, 20, 21, 22, 23, 24, 25, 26, 27, 28, 29, 30, 31, 32, 33, 34, 35, 36, 37, 38, 39, 40, 41, 42, 43, 44, 45, 46, 47, 48, 49, 50, 51, 52, 53, 54, 55, 56, 57, 58, 59] rfl rfl (by decide) (by decide) (by decide) (fun _ => rfl) (by decide) (q0 := 36) (ci := 8) rfl rfl rfl rfl rfl hl.1 (Nat.le_of_ble_eq_true rfl) dL_law_303 ⟨Nat.le_of_ble_eq_true rfl, Nat.le_of_ble_eq_true rfl⟩ (fun z_303 u H locs r_z_303 hp_303 hW => ?_)
  obtain ⟨ev2_303, nm2_303⟩ := u
  dsimp only at hp_303 hW
  have hans := normalP_one hp_289 hp_303
  refine z_icmp_eq F (pc := 306) 1014 dL_law_306 (by decide) (by omega) (fun c_306 => ?_) (fun c_306 => ?_)
  · skip
    exact cut_1014 di xs ys lf ev2_289 nm2_289 lb kd pt so nu al ak ap he ar le cx cr cl ll rw fn fp tl tm ts tc ev2_303 nm2_303 so9 nu9 al9 ak9 ap9 hh9 le9 tl9 ts9 tc9 en mg sz mn an ax cn ln fc ac wc wp _ _ _ (by exact hd) (by exact hmk) (by exact hc) (by exact hr) (by exact he9) (by exact hsh) (lv_sub hl [0, 1, 2, 3] rfl) hW
  · skip
    exact absurd (by omega) c_306

set_option maxHeartbeats 8000000 in
set_option maxRecDepth 100000 in
theorem case_5 {p : Program} {l : Launch} {e : Env} {s : State} {m : MethodId} {below : List Frame} {meth : Method} {c : Code} {b L : Nat} {xs0 : Nat → Int32} {Q : State → Prop} {A : Nat → Prop} {D : va_G} {cI cZ : ClassId} {aB aD aM aA aS aC aL aT aR : Nat → Nat} {i : Int} (hF : LFix p s m c b L xs0 A D cI cZ) (g : 0 ≤ i ∧ i + 8 ≤ (L : Int)) (cut_1014 : LAt p l e s m below meth c b Q A D cI cZ aB aD aM aA aS aC aL aT aR i 1014) : LAt p l e s m below meth c b Q A D cI cZ aB aD aM aA aS aC aL aT aR i 311 := by
  obtain ⟨hL, F, hK, hA, hX, hbl, hbA⟩ := hF
  intro di xs ys lf ev nm lb kd pt so nu al ak ap he ar le cx cr cl ll rw fn fp tl tm ts tc ev9 nm9 so9 nu9 al9 ak9 ap9 hh9 le9 tl9 ts9 tc9 en mg sz mn an ax cn ln fc ac wc wp H locs ls hd hmk hc hr he9 hsh hl hW
  have q1 := sv_r xs0 (i + 1)
  have q2 := sv_r xs0 (i + 2)
  have q3 := sv_r xs0 (i + 3)
  have q4 := sv_r xs0 (i + 4)
  have q5 := sv_r xs0 (i + 5)
  have q6 := sv_r xs0 (i + 6)
  have q7 := sv_r xs0 (i + 7)
  have hmm := hmk.1
  have haa := hmk.2.2.2.2.1
  have hac := hmk.2.2.2.2.2.1
  have hd0 := hd.1
  have hc0 := hc.1
  have hr0 := hr.1
  have hw9 := wy_r hd (q := sz) (Int.le_refl _)
  refine z_aloadn F (pc := 311) dL_law_311 rfl (lv_at hl 2 rfl) ?_
  refine z_aloadn F (pc := 312) dL_law_312 rfl (lv_at hl 3 rfl) ?_
  refine z_iloadn F (pc := 313) dL_law_313 rfl (lv_at hl 0 rfl) ?_
  refine z_iconst F (pc := 314) (1) dL_law_314 ?_
  refine z_iadd F (pc := 315) dL_law_315 ?_
  refine z_sld F (pc := 316) hX hbl hbA hW hL (by omega) dL_law_316 ?_
  refine z_aloadn F (pc := 317) dL_law_317 rfl (lv_at hl 3 rfl) ?_
  refine z_iloadn F (pc := 318) dL_law_318 rfl (lv_at hl 0 rfl) ?_
  refine z_iconst F (pc := 319) (2) dL_law_319 ?_
  refine z_iadd F (pc := 320) dL_law_320 ?_
  refine z_sld F (pc := 321) hX hbl hbA hW hL (by omega) dL_law_321 ?_
  refine z_callVi F (pc := 322) hK hW hA (As := [.int (iI (sv xs0 (i + 1))), .int (iI (sv xs0 (i + 2)))]) (rest := []) (ws' := fun (u : (Int → Int) × (Int → Int) × (Int → Int) × (Int → Int) × (Int → Int) × (Int) × (Int → Int) × (Int → Int) × (Int → Int) × (Int → Int) × (Int) × (Int)) => wB cI cZ aB aD aM aA aS aC aL aT di en mg ++ wD cI cZ aD xs ys lf u.1 u.2.1 sz ++ wM cI cZ aM u.2.2.1 u.2.2.2.1 u.2.2.2.2.1 u.2.2.2.2.2.1 ++ wA cI cZ aA u.2.2.2.2.2.2.1 u.2.2.2.2.2.2.2.1 u.2.2.2.2.2.2.2.2.1 u.2.2.2.2.2.2.2.2.2.1 ap u.2.2.2.2.2.2.2.2.2.2.1 u.2.2.2.2.2.2.2.2.2.2.2 ++ wS cI cZ aS he ar le ++ wC cI cZ aC cx cr cl ll cn ++ wL cI cZ aL rw fn fp ln fc ++ wT cI cZ aT tl tm ts tc ++ wR cI cZ aR xs ys lf ev9 nm9 lb kd pt so9 nu9 al9 ak9 ap9 hh9 le9 rw cx cr cl ll tl9 ts9 tc9 sz mn ac en mg ln cn wc wp) (wr := (wS cI cZ aS he ar le ++ wC cI cZ aC cx cr cl ll cn ++ wL cI cZ aL rw fn fp ln fc ++ wT cI cZ aT tl tm ts tc ++ wR cI cZ aR xs ys lf ev9 nm9 lb kd pt so9 nu9 al9 ak9 ap9 hh9 le9 rw cx cr cl ll tl9 ts9 tc9 sz mn ac en mg ln cn wc wp)) (c_X7_teach l D cI cZ aB aD aM aA aS aC aL aT di xs ys lf ev nm lb kd pt so nu al ak ap en mg sz mn an ax (sv xs0 (i + 1)) (sv xs0 (i + 2)) _ (by omega) (by omega) (by first | exact hd | exact hd.1) (by omega) (by omega)) (cwV 2 F.2.2.2.2 gL_law_X7_teach rfl rfl rfl (by decide +kernel) ⟨Nat.le_of_ble_eq_true rfl, Nat.le_of_ble_eq_true rfl⟩) [0, 1, 2, 3, 4, 5, 6, 7, 8, 9, 10, 11, 12, 13, 14, 15, 16, 17] [18, 19, 20, 21, 22, 23, 24, 25, 26, 27, 28, 29, 30, 31, 32, 33, 34, 35, 36, 37, 38, 39, 40, 41, 42, 43, 44, 45, 46, 47, 48, 49, 50, 51, 52, 53, 54, 55, 56, 57, 58, 59] [42, 43, 44, 45, 46, 47, 48, 49, 50, 51, 52, 53, 54, 55, 56, 57, 58, 59, 0, 1, 2, 3, 4, 5, 6, 7, 8, 9, 10, 11, 12, 13, 14, 15, 16, 17, 18, 19, 20, 21, 22, 23, 24, 25, 26, 27, 28, 29, 30, 31, 32, 33, 34, 35, 36, 37, 38, 39, 40, 41] rfl rfl (by decide) (by decide) (by decide) (fun _ => rfl) (by decide) (q0 := 0) (ci := 7) rfl rfl rfl rfl rfl hl.1 (Nat.le_of_ble_eq_true rfl) dL_law_322 ⟨Nat.le_of_ble_eq_true rfl, Nat.le_of_ble_eq_true rfl⟩ (fun z_322 u H locs r_z_322 hp_322 hW => ?_)
  obtain ⟨ev2_322, nm2_322, lb2_322, kd2_322, pt2_322, mn2_322, so2_322, nu2_322, al2_322, ak2_322, an2_322, ax2_322⟩ := u
  dsimp only at hp_322 hW
  refine z_aloadn F (pc := 325) dL_law_325 rfl (lv_at hl 1 rfl) ?_
  refine z_aloadn F (pc := 326) dL_law_326 rfl (lv_at hl 3 rfl) ?_
  refine z_iloadn F (pc := 327) dL_law_327 rfl (lv_at hl 0 rfl) ?_
  refine z_iconst F (pc := 328) (1) dL_law_328 ?_
  refine z_iadd F (pc := 329) dL_law_329 ?_
  refine z_sld F (pc := 330) hX hbl hbA hW hL (by omega) dL_law_330 ?_
  refine z_aloadn F (pc := 331) dL_law_331 rfl (lv_at hl 3 rfl) ?_
  refine z_iloadn F (pc := 332) dL_law_332 rfl (lv_at hl 0 rfl) ?_
  refine z_iconst F (pc := 333) (2) dL_law_333 ?_
  refine z_iadd F (pc := 334) dL_law_334 ?_
  refine z_sld F (pc := 335) hX hbl hbA hW hL (by omega) dL_law_335 ?_
  refine z_callVi F (pc := 336) hK hW hA (As := [.int (iI (sv xs0 (i + 1))), .int (iI (sv xs0 (i + 2)))]) (rest := [.int (iI z_322)]) (ws' := fun (u : (Int → Int) × (Int → Int) × (Int → Int) × (Int → Int) × (Int → Int) × (Int → Int) × (Int → Int) × (Int → Int) × (Int → Int) × (Int → Int) × (Int) × (Int)) => wB cI cZ aB aD aM aA aS aC aL aT di en mg ++ wD cI cZ aD xs ys lf ev2_322 nm2_322 sz ++ wM cI cZ aM lb2_322 kd2_322 pt2_322 mn2_322 ++ wA cI cZ aA so2_322 nu2_322 al2_322 ak2_322 ap an2_322 ax2_322 ++ wS cI cZ aS he ar le ++ wC cI cZ aC cx cr cl ll cn ++ wL cI cZ aL rw fn fp ln fc ++ wT cI cZ aT tl tm ts tc ++ wR cI cZ aR xs ys lf u.1 u.2.1 u.2.2.1 u.2.2.2.1 u.2.2.2.2.1 u.2.2.2.2.2.1 u.2.2.2.2.2.2.1 u.2.2.2.2.2.2.2.1 u.2.2.2.2.2.2.2.2.1 u.2.2.2.2.2.2.2.2.2.1 hh9 le9 rw cx cr cl ll tl9 ts9 tc9 sz u.2.2.2.2.2.2.2.2.2.2.1 u.2.2.2.2.2.2.2.2.2.2.2 en mg ln cn wc wp) (wr := (wB cI cZ aB aD aM aA aS aC aL aT di en mg ++ wD cI cZ aD xs ys lf ev2_322 nm2_322 sz ++ wM cI cZ aM lb2_322 kd2_322 pt2_322 mn2_322 ++ wA cI cZ aA so2_322 nu2_322 al2_322 ak2_322 ap an2_322 ax2_322 ++ wS cI cZ aS he ar le ++ wC cI cZ aC cx cr cl ll cn ++ wL cI cZ aL rw fn fp ln fc ++ wT cI cZ aT tl tm ts tc)) (c_X8_teach l D cI cZ aR xs ys lf ev9 nm9 lb kd pt so9 nu9 al9 ak9 ap9 hh9 le9 rw cx cr cl ll tl9 ts9 tc9 sz mn ac en mg ln cn wc wp (sv xs0 (i + 1)) (sv xs0 (i + 2)) _ (by omega) (by omega) (by first | exact hd | exact hd.1) (by omega)) (cwV 2 F.2.2.2.2 gL_law_X8_teach rfl rfl rfl (by decide +kernel) ⟨Nat.le_of_ble_eq_true rfl, Nat.le_of_ble_eq_true rfl⟩) [36, 37, 38, 39, 40, 41, 42, 43, 44, 45, 46, 47, 48, 49, 50, 51, 52, 53, 54, 55, 56, 57, 58, 59] [0, 1, 2, 3, 4, 5, 6, 7, 8, 9, 10, 11, 12, 13, 14, 15, 16, 17, 18, 19, 20, 21, 22, 23, 24, 25, 26, 27, 28, 29, 30, 31, 32, 33, 34, 35] [0, 1, 2, 3, 4, 5, 6, 7, 8, 9, 10, 11, 12, 13, 14, 15, 16, 17, 18, 19, 20, 21, 22, 23, 24, 25, 26, 27, 28, 29, 30, 31, 32, 33, 34, 35, 36, 37, 38, 39, 40, 41, 42, 43, 44, 45, 46, 47, 48, 49, 50, 51, 52, 53, 54, 55, 56, 57, 58, 59] rfl rfl (by decide) (by decide) (by decide) (fun _ => rfl) (by decide) (q0 := 36) (ci := 8) rfl rfl rfl rfl rfl hl.1 (Nat.le_of_ble_eq_true rfl) dL_law_336 ⟨Nat.le_of_ble_eq_true rfl, Nat.le_of_ble_eq_true rfl⟩ (fun z_336 u H locs r_z_336 hp_336 hW => ?_)
  obtain ⟨ev2_336, nm2_336, lb2_336, kd2_336, pt2_336, so2_336, nu2_336, al2_336, ak2_336, ap2_336, mn2_336, ac2_336⟩ := u
  dsimp only at hp_336 hW
  obtain ⟨hans, e_lb, e_kd, e_pt, e_mn, hmk⟩ := teach_step hmk hp_322.o hp_336.o
  have hWz := hW
  subst e_lb
  have hW := hWz
  have hWz := hW
  subst e_kd
  have hW := hWz
  have hWz := hW
  subst e_pt
  have hW := hWz
  have hWz := hW
  subst e_mn
  have hW := hWz
  refine z_icmp_eq F (pc := 339) 1014 dL_law_339 (by decide) (by omega) (fun c_339 => ?_) (fun c_339 => ?_)
  · skip
    exact cut_1014 di xs ys lf ev2_322 nm2_322 lb2_336 kd2_336 pt2_336 so2_322 nu2_322 al2_322 ak2_322 ap he ar le cx cr cl ll rw fn fp tl tm ts tc ev2_336 nm2_336 so2_336 nu2_336 al2_336 ak2_336 ap2_336 hh9 le9 tl9 ts9 tc9 en mg sz mn2_336 an2_322 ax2_322 cn ln fc ac2_336 wc wp _ _ _ (by exact hd) (by exact hmk) (by exact hc) (by exact hr) (by exact he9) (by exact hsh) (lv_sub hl [0, 1, 2, 3] rfl) hW
  · skip
    exact absurd (by omega) c_339

set_option maxHeartbeats 8000000 in
set_option maxRecDepth 100000 in
theorem case_6 {p : Program} {l : Launch} {e : Env} {s : State} {m : MethodId} {below : List Frame} {meth : Method} {c : Code} {b L : Nat} {xs0 : Nat → Int32} {Q : State → Prop} {A : Nat → Prop} {D : va_G} {cI cZ : ClassId} {aB aD aM aA aS aC aL aT aR : Nat → Nat} {i : Int} (hF : LFix p s m c b L xs0 A D cI cZ) (g : 0 ≤ i ∧ i + 8 ≤ (L : Int)) (cut_1014 : LAt p l e s m below meth c b Q A D cI cZ aB aD aM aA aS aC aL aT aR i 1014) : LAt p l e s m below meth c b Q A D cI cZ aB aD aM aA aS aC aL aT aR i 344 := by
  obtain ⟨hL, F, hK, hA, hX, hbl, hbA⟩ := hF
  intro di xs ys lf ev nm lb kd pt so nu al ak ap he ar le cx cr cl ll rw fn fp tl tm ts tc ev9 nm9 so9 nu9 al9 ak9 ap9 hh9 le9 tl9 ts9 tc9 en mg sz mn an ax cn ln fc ac wc wp H locs ls hd hmk hc hr he9 hsh hl hW
  have q1 := sv_r xs0 (i + 1)
  have q2 := sv_r xs0 (i + 2)
  have q3 := sv_r xs0 (i + 3)
  have q4 := sv_r xs0 (i + 4)
  have q5 := sv_r xs0 (i + 5)
  have q6 := sv_r xs0 (i + 6)
  have q7 := sv_r xs0 (i + 7)
  have hmm := hmk.1
  have haa := hmk.2.2.2.2.1
  have hac := hmk.2.2.2.2.2.1
  have hd0 := hd.1
  have hc0 := hc.1
  have hr0 := hr.1
  have hw9 := wy_r hd (q := sz) (Int.le_refl _)
  refine z_aloadn F (pc := 344) dL_law_344 rfl (lv_at hl 2 rfl) ?_
  refine z_aloadn F (pc := 345) dL_law_345 rfl (lv_at hl 3 rfl) ?_
  refine z_iloadn F (pc := 346) dL_law_346 rfl (lv_at hl 0 rfl) ?_
  refine z_iconst F (pc := 347) (1) dL_law_347 ?_
  refine z_iadd F (pc := 348) dL_law_348 ?_
  refine z_sld F (pc := 349) hX hbl hbA hW hL (by omega) dL_law_349 ?_
  refine z_callVi F (pc := 350) hK hW hA (As := [.int (iI (sv xs0 (i + 1)))]) (rest := []) (ws' := fun (u : (Int → Int) × (Int → Int) × (Int → Int) × (Int) × (Int → Int) × (Int → Int) × (Int → Int) × (Int → Int) × (Int → Int) × (Int) × (Int)) => wB cI cZ aB aD aM aA aS aC aL aT di en mg ++ wD cI cZ aD xs ys lf ev nm sz ++ wM cI cZ aM u.1 u.2.1 u.2.2.1 u.2.2.2.1 ++ wA cI cZ aA u.2.2.2.2.1 u.2.2.2.2.2.1 u.2.2.2.2.2.2.1 u.2.2.2.2.2.2.2.1 u.2.2.2.2.2.2.2.2.1 u.2.2.2.2.2.2.2.2.2.1 u.2.2.2.2.2.2.2.2.2.2 ++ wS cI cZ aS he ar le ++ wC cI cZ aC cx cr cl ll cn ++ wL cI cZ aL rw fn fp ln fc ++ wT cI cZ aT tl tm ts tc ++ wR cI cZ aR xs ys lf ev9 nm9 lb kd pt so9 nu9 al9 ak9 ap9 hh9 le9 rw cx cr cl ll tl9 ts9 tc9 sz mn ac en mg ln cn wc wp) (wr := (wD cI cZ aD xs ys lf ev nm sz ++ wS cI cZ aS he ar le ++ wC cI cZ aC cx cr cl ll cn ++ wL cI cZ aL rw fn fp ln fc ++ wT cI cZ aT tl tm ts tc ++ wR cI cZ aR xs ys lf ev9 nm9 lb kd pt so9 nu9 al9 ak9 ap9 hh9 le9 rw cx cr cl ll tl9 ts9 tc9 sz mn ac en mg ln cn wc wp)) (c_X7_forget l D cI cZ aB aD aM aA aS aC aL aT di lb kd pt so nu al ak ap en mg mn an ax (sv xs0 (i + 1)) _ (by omega) (by omega) (by omega) (by first | exact hmk.2.1 | exact fun j a b => ⟨hmk.2.1 j a b, hmk.2.2.1 j a b⟩)) (cwV 1 F.2.2.2.2 gL_law_X7_forget rfl rfl rfl (by decide +kernel) ⟨Nat.le_of_ble_eq_true rfl, Nat.le_of_ble_eq_true rfl⟩) [0, 1, 8, 9, 10, 11, 12, 13, 14, 15, 16, 17] [2, 3, 4, 5, 6, 7, 18, 19, 20, 21, 22, 23, 24, 25, 26, 27, 28, 29, 30, 31, 32, 33, 34, 35, 36, 37, 38, 39, 40, 41, 42, 43, 44, 45, 46, 47, 48, 49, 50, 51, 52, 53, 54, 55, 56, 57, 58, 59] [48, 49, 0, 1, 2, 3, 4, 5, 50, 51, 52, 53, 54, 55, 56, 57, 58, 59, 6, 7, 8, 9, 10, 11, 12, 13, 14, 15, 16, 17, 18, 19, 20, 21, 22, 23, 24, 25, 26, 27, 28, 29, 30, 31, 32, 33, 34, 35, 36, 37, 38, 39, 40, 41, 42, 43, 44, 45, 46, 47] rfl rfl (by decide) (by decide) (by decide) (fun _ => rfl) (by decide) (q0 := 0) (ci := 7) rfl rfl rfl rfl rfl hl.1 (Nat.le_of_ble_eq_true rfl) dL_law_350 ⟨Nat.le_of_ble_eq_true rfl, Nat.le_of_ble_eq_true rfl⟩ (fun z_350 u H locs r_z_350 hp_350 hW => ?_)
  obtain ⟨lb2_350, kd2_350, pt2_350, mn2_350, so2_350, nu2_350, al2_350, ak2_350, ap2_350, an2_350, ax2_350⟩ := u
  dsimp only at hp_350 hW
  refine z_aloadn F (pc := 353) dL_law_353 rfl (lv_at hl 1 rfl) ?_
  refine z_aloadn F (pc := 354) dL_law_354 rfl (lv_at hl 3 rfl) ?_
  refine z_iloadn F (pc := 355) dL_law_355 rfl (lv_at hl 0 rfl) ?_
  refine z_iconst F (pc := 356) (1) dL_law_356 ?_
  refine z_iadd F (pc := 357) dL_law_357 ?_
  refine z_sld F (pc := 358) hX hbl hbA hW hL (by omega) dL_law_358 ?_
  refine z_callVi F (pc := 359) hK hW hA (As := [.int (iI (sv xs0 (i + 1)))]) (rest := [.int (iI z_350)]) (ws' := fun (u : (Int → Int) × (Int → Int) × (Int → Int) × (Int → Int) × (Int → Int) × (Int → Int) × (Int → Int) × (Int → Int) × (Int) × (Int)) => wB cI cZ aB aD aM aA aS aC aL aT di en mg ++ wD cI cZ aD xs ys lf ev nm sz ++ wM cI cZ aM lb2_350 kd2_350 pt2_350 mn2_350 ++ wA cI cZ aA so2_350 nu2_350 al2_350 ak2_350 ap2_350 an2_350 ax2_350 ++ wS cI cZ aS he ar le ++ wC cI cZ aC cx cr cl ll cn ++ wL cI cZ aL rw fn fp ln fc ++ wT cI cZ aT tl tm ts tc ++ wR cI cZ aR xs ys lf ev9 nm9 u.1 u.2.1 u.2.2.1 u.2.2.2.1 u.2.2.2.2.1 u.2.2.2.2.2.1 u.2.2.2.2.2.2.1 u.2.2.2.2.2.2.2.1 hh9 le9 rw cx cr cl ll tl9 ts9 tc9 sz u.2.2.2.2.2.2.2.2.1 u.2.2.2.2.2.2.2.2.2 en mg ln cn wc wp) (wr := (wB cI cZ aB aD aM aA aS aC aL aT di en mg ++ wD cI cZ aD xs ys lf ev nm sz ++ wM cI cZ aM lb2_350 kd2_350 pt2_350 mn2_350 ++ wA cI cZ aA so2_350 nu2_350 al2_350 ak2_350 ap2_350 an2_350 ax2_350 ++ wS cI cZ aS he ar le ++ wC cI cZ aC cx cr cl ll cn ++ wL cI cZ aL rw fn fp ln fc ++ wT cI cZ aT tl tm ts tc)) (c_X8_forget l D cI cZ aR xs ys lf ev9 nm9 lb kd pt so9 nu9 al9 ak9 ap9 hh9 le9 rw cx cr cl ll tl9 ts9 tc9 sz mn ac en mg ln cn wc wp (sv xs0 (i + 1)) _ (by omega) (by omega) (by first | exact hmk.2.1 | exact fun j a b => ⟨hmk.2.1 j a b, hmk.2.2.1 j a b⟩)) (cwV 1 F.2.2.2.2 gL_law_X8_forget rfl rfl rfl (by decide +kernel) ⟨Nat.le_of_ble_eq_true rfl, Nat.le_of_ble_eq_true rfl⟩) [36, 37, 38, 39, 40, 41, 42, 43, 44, 45, 46, 47, 48, 49, 50, 51, 52, 53, 54, 55, 56, 57, 58, 59] [0, 1, 2, 3, 4, 5, 6, 7, 8, 9, 10, 11, 12, 13, 14, 15, 16, 17, 18, 19, 20, 21, 22, 23, 24, 25, 26, 27, 28, 29, 30, 31, 32, 33, 34, 35] [0, 1, 2, 3, 4, 5, 6, 7, 8, 9, 10, 11, 12, 13, 14, 15, 16, 17, 18, 19, 20, 21, 22, 23, 24, 25, 26, 27, 28, 29, 30, 31, 32, 33, 34, 35, 36, 37, 38, 39, 40, 41, 42, 43, 44, 45, 46, 47, 48, 49, 50, 51, 52, 53, 54, 55, 56, 57, 58, 59] rfl rfl (by decide) (by decide) (by decide) (fun _ => rfl) (by decide) (q0 := 36) (ci := 8) rfl rfl rfl rfl rfl hl.1 (Nat.le_of_ble_eq_true rfl) dL_law_359 ⟨Nat.le_of_ble_eq_true rfl, Nat.le_of_ble_eq_true rfl⟩ (fun z_359 u H locs r_z_359 hp_359 hW => ?_)
  obtain ⟨lb2_359, kd2_359, pt2_359, so2_359, nu2_359, al2_359, ak2_359, ap2_359, mn2_359, ac2_359⟩ := u
  dsimp only at hp_359 hW
  obtain ⟨hans, e_lb, e_kd, e_pt, e_mn, hmk⟩ := forget_step hmk hp_350.o hp_359.o
  have hWz := hW
  subst e_lb
  have hW := hWz
  have hWz := hW
  subst e_kd
  have hW := hWz
  have hWz := hW
  subst e_pt
  have hW := hWz
  have hWz := hW
  subst e_mn
  have hW := hWz
  refine z_icmp_eq F (pc := 362) 1014 dL_law_362 (by decide) (by omega) (fun c_362 => ?_) (fun c_362 => ?_)
  · skip
    exact cut_1014 di xs ys lf ev nm lb2_359 kd2_359 pt2_359 so2_350 nu2_350 al2_350 ak2_350 ap2_350 he ar le cx cr cl ll rw fn fp tl tm ts tc ev9 nm9 so2_359 nu2_359 al2_359 ak2_359 ap2_359 hh9 le9 tl9 ts9 tc9 en mg sz mn2_359 an2_350 ax2_350 cn ln fc ac2_359 wc wp _ _ _ (by exact hd) (by exact hmk) (by exact hc) (by exact hr) (by exact he9) (by exact hsh) (lv_sub hl [0, 1, 2, 3] rfl) hW
  · skip
    exact absurd (by omega) c_362
