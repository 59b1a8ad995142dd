set_option maxHeartbeats 8000000 in
set_option maxRecDepth 100000 in
theorem case_1 {p : Program} {l : Launch} {e : Env} {s : State} {m : MethodId} {below : List Frame} {meth : Method} {c : Code} {b L : Nat} {xs0 : Nat → Int32} {Q : State → Prop} {A : Nat → Prop} {D : va_G} {cI cZ : ClassId} {aB aD aM aA aS aC aL aT aR : Nat → Nat} {i : Int} (hF : LFix p s m c b L xs0 A D cI cZ) (g : 0 ≤ i ∧ i + 8 ≤ (L : Int)) (cut_1014 : LAt p l e s m below meth c b Q A D cI cZ aB aD aM aA aS aC aL aT aR i 1014) : LAt p l e s m below meth c b Q A D cI cZ aB aD aM aA aS aC aL aT aR i 219 := by
  obtain ⟨hL, F, hK, hA, hX, hbl, hbA⟩ := hF
  intro di xs ys lf ev nm lb kd pt so nu al ak ap he ar le cx cr cl ll rw fn fp tl tm ts tc ev9 nm9 so9 nu9 al9 ak9 ap9 hh9 le9 tl9 ts9 tc9 en mg sz mn an ax cn ln fc ac wc wp H locs ls hd hmk hc hr he9 hsh hl hW
  have q1 := sv_r xs0 (i + 1)
  have q2 := sv_r xs0 (i + 2)
  have q3 := sv_r xs0 (i + 3)
  have q4 := sv_r xs0 (i + 4)
  have q5 := sv_r xs0 (i + 5)
  have q6 := sv_r xs0 (i + 6)
  have q7 := sv_r xs0 (i + 7)
  have hmm := hmk.1
  have haa := hmk.2.2.2.2.1
  have hac := hmk.2.2.2.2.2.1
  have hd0 := hd.1
  have hc0 := hc.1
  have hr0 := hr.1
  have hw9 := wy_r hd (q := sz) (Int.le_refl _)
  refine z_aloadn F (pc := 219) dL_law_219 rfl (lv_at hl 2 rfl) ?_
  refine z_callVi F (pc := 220) hK hW hA (As := []) (rest := []) (ws' := fun (u : (Int)) => wB cI cZ aB aD aM aA aS aC aL aT di en mg ++ wD cI cZ aD xs ys lf ev nm u ++ wM cI cZ aM lb kd pt mn ++ wA cI cZ aA so nu al ak ap an ax ++ wS cI cZ aS he ar le ++ wC cI cZ aC cx cr cl ll cn ++ wL cI cZ aL rw fn fp ln fc ++ wT cI cZ aT tl tm ts tc ++ wR cI cZ aR xs ys lf ev9 nm9 lb kd pt so9 nu9 al9 ak9 ap9 hh9 le9 rw cx cr cl ll tl9 ts9 tc9 sz mn ac en mg ln cn wc wp) (wr := (wM cI cZ aM lb kd pt mn ++ wA cI cZ aA so nu al ak ap an ax ++ wS cI cZ aS he ar le ++ wC cI cZ aC cx cr cl ll cn ++ wL cI cZ aL rw fn fp ln fc ++ wT cI cZ aT tl tm ts tc ++ wR cI cZ aR xs ys lf ev9 nm9 lb kd pt so9 nu9 al9 ak9 ap9 hh9 le9 rw cx cr cl ll tl9 ts9 tc9 sz mn ac en mg ln cn wc wp)) (c_X7_clear l D cI cZ aB aD aM aA aS aC aL aT di xs ys lf ev nm en mg sz _ (by first | exact hd | exact hd.1)) (cwV 0 F.2.2.2.2 gL_law_X7_clear rfl rfl rfl (by decide +kernel) ⟨Nat.le_of_ble_eq_true rfl, Nat.le_of_ble_eq_true rfl⟩) [0, 1, 2, 3, 4, 5, 6, 7] [8, 9, 10, 11, 12, 13, 14, 15, 16, 17, 18, 19, 20, 21, 22, 23, 24, 25, 26, 27, 28, 29, 30, 31, 32, 33, 34, 35, 36, 37, 38, 39, 40, 41, 42, 43, 44, 45, 46, 47, 48, 49, 50, 51, 52, 53, 54, 55, 56, 57, 58, 59] [52, 53, 54, 55, 56, 57, 58, 59, 0, 1, 2, 3, 4, 5, 6, 7, 8, 9, 10, 11, 12, 13, 14, 15, 16, 17, 18, 19, 20, 21, 22, 23, 24, 25, 26, 27, 28, 29, 30, 31, 32, 33, 34, 35, 36, 37, 38, 39, 40, 41, 42, 43, 44, 45, 46, 47, 48, 49, 50, 51] rfl rfl (by decide) (by decide) (by decide) (fun _ => rfl) (by decide) (q0 := 0) (ci := 7) rfl rfl rfl rfl rfl hl.1 (Nat.le_of_ble_eq_true rfl) dL_law_220 ⟨Nat.le_of_ble_eq_true rfl, Nat.le_of_ble_eq_true rfl⟩ (fun z_220 u H locs r_z_220 hp_220 hW => ?_)
  obtain ⟨sz2_220, rfl⟩ : ∃ v, v = u := ⟨_, rfl⟩
  obtain ⟨e_z_220, hp_220⟩ := hp_220
  replace e_z_220 := e_z_220.symm
  subst e_z_220
  refine z_aloadn F (pc := 223) dL_law_223 rfl (lv_at hl 1 rfl) ?_
  refine z_callVi F (pc := 224) hK hW hA (As := []) (rest := [.int (iI sz)]) (ws' := fun (u : (Int)) => wB cI cZ aB aD aM aA aS aC aL aT di en mg ++ wD cI cZ aD xs ys lf ev nm sz2_220 ++ wM cI cZ aM lb kd pt mn ++ wA cI cZ aA so nu al ak ap an ax ++ wS cI cZ aS he ar le ++ wC cI cZ aC cx cr cl ll cn ++ wL cI cZ aL rw fn fp ln fc ++ wT cI cZ aT tl tm ts tc ++ wR cI cZ aR xs ys lf ev9 nm9 lb kd pt so9 nu9 al9 ak9 ap9 hh9 le9 rw cx cr cl ll tl9 ts9 tc9 u mn ac en mg ln cn wc wp) (wr := (wB cI cZ aB aD aM aA aS aC aL aT di en mg ++ wD cI cZ aD xs ys lf ev nm sz2_220 ++ wM cI cZ aM lb kd pt mn ++ wA cI cZ aA so nu al ak ap an ax ++ wS cI cZ aS he ar le ++ wC cI cZ aC cx cr cl ll cn ++ wL cI cZ aL rw fn fp ln fc ++ wT cI cZ aT tl tm ts tc)) (c_X8_clear l D cI cZ aR xs ys lf ev9 nm9 lb kd pt so9 nu9 al9 ak9 ap9 hh9 le9 rw cx cr cl ll tl9 ts9 tc9 sz mn ac en mg ln cn wc wp _ (by first | exact hd | exact hd.1)) (cwV 0 F.2.2.2.2 gL_law_X8_clear rfl rfl rfl (by decide +kernel) ⟨Nat.le_of_ble_eq_true rfl, Nat.le_of_ble_eq_true rfl⟩) [36, 37, 38, 39, 40, 41, 42, 43, 44, 45, 46, 47, 48, 49, 50, 51, 52, 53, 54, 55, 56, 57, 58, 59] [0, 1, 2, 3, 4, 5, 6, 7, 8, 9, 10, 11, 12, 13, 14, 15, 16, 17, 18, 19, 20, 21, 22, 23, 24, 25, 26, 27, 28, 29, 30, 31, 32, 33, 34, 35] [0, 1, 2, 3, 4, 5, 6, 7, 8, 9, 10, 11, 12, 13, 14, 15, 16, 17, 18, 19, 20, 21, 22, 23, 24, 25, 26, 27, 28, 29, 30, 31, 32, 33, 34, 35, 36, 37, 38, 39, 40, 41, 42, 43, 44, 45, 46, 47, 48, 49, 50, 51, 52, 53, 54, 55, 56, 57, 58, 59] rfl rfl (by decide) (by decide) (by decide) (fun _ => rfl) (by decide) (q0 := 36) (ci := 8) rfl rfl rfl rfl rfl hl.1 (Nat.le_of_ble_eq_true rfl) dL_law_224 ⟨Nat.le_of_ble_eq_true rfl, Nat.le_of_ble_eq_true rfl⟩ (fun z_224 u H locs r_z_224 hp_224 hW => ?_)
  obtain ⟨sz2_224, rfl⟩ : ∃ v, v = u := ⟨_, rfl⟩
  obtain ⟨e_z_224, hp_224⟩ := hp_224
  replace e_z_224 := e_z_224.symm
  subst e_z_224
  have hs0 : sz2_220 = 0 := hp_220
  have hs1 : sz2_224 = 0 := hp_224
  have e_q : sz2_224 = sz2_220 := hs1.trans hs0.symm
  have hWz := hW
  subst e_q
  have hW := hWz
  have hd : Dok xs ys lf sz2_224 := by rw [hs1]; exact Dok_0
  refine z_icmp_eq F (pc := 227) 1014 dL_law_227 (by decide) (by omega) (fun c_227 => ?_) (fun c_227 => ?_)
  · skip
    exact cut_1014 di xs ys lf ev nm lb kd pt so nu al ak ap he ar le cx cr cl ll rw fn fp tl tm ts tc ev9 nm9 so9 nu9 al9 ak9 ap9 hh9 le9 tl9 ts9 tc9 en mg sz2_224 mn an ax cn ln fc ac wc wp _ _ _ (by exact hd) (by exact hmk) (by exact hc) (by exact hr) (by exact he9) (by exact hsh) (lv_sub hl [0, 1, 2, 3] rfl) hW
  · skip
    exact absurd (by omega) c_227

set_option maxHeartbeats 8000000 in
set_option maxRecDepth 100000 in
theorem case_2 {p : Program} {l : Launch} {e : Env} {s : State} {m : MethodId} {below : List Frame} {meth : Method} {c : Code} {b L : Nat} {xs0 : Nat → Int32} {Q : State → Prop} {A : Nat → Prop} {D : va_G} {cI cZ : ClassId} {aB aD aM aA aS aC aL aT aR : Nat → Nat} {i : Int} (hF : LFix p s m c b L xs0 A D cI cZ) (g : 0 ≤ i ∧ i + 8 ≤ (L : Int)) (cut_1014 : LAt p l e s m below meth c b Q A D cI cZ aB aD aM aA aS aC aL aT aR i 1014) : LAt p l e s m below meth c b Q A D cI cZ aB aD aM aA aS aC aL aT aR i 232 := by
  obtain ⟨hL, F, hK, hA, hX, hbl, hbA⟩ := hF
  intro di xs ys lf ev nm lb kd pt so nu al ak ap he ar le cx cr cl ll rw fn fp tl tm ts tc ev9 nm9 so9 nu9 al9 ak9 ap9 hh9 le9 tl9 ts9 tc9 en mg sz mn an ax cn ln fc ac wc wp H locs ls hd hmk hc hr he9 hsh hl hW
  have q1 := sv_r xs0 (i + 1)
  have q2 := sv_r xs0 (i + 2)
  have q3 := sv_r xs0 (i + 3)
  have q4 := sv_r xs0 (i + 4)
  have q5 := sv_r xs0 (i + 5)
  have q6 := sv_r xs0 (i + 6)
  have q7 := sv_r xs0 (i + 7)
  have hmm := hmk.1
  have haa := hmk.2.2.2.2.1
  have hac := hmk.2.2.2.2.2.1
  have hd0 := hd.1
  have hc0 := hc.1
  have hr0 := hr.1
  have hw9 := wy_r hd (q := sz) (Int.le_refl _)
  refine z_aloadn F (pc := 232) dL_law_232 rfl (lv_at hl 2 rfl) ?_
  refine z_callVi F (pc := 233) hK hW hA (As := []) (rest := []) (ws' := fun (u : Unit) => wB cI cZ aB aD aM aA aS aC aL aT di en mg ++ wD cI cZ aD xs ys lf ev nm sz ++ wM cI cZ aM lb kd pt mn ++ wA cI cZ aA so nu al ak ap an ax ++ wS cI cZ aS he ar le ++ wC cI cZ aC cx cr cl ll cn ++ wL cI cZ aL rw fn fp ln fc ++ wT cI cZ aT tl tm ts tc ++ wR cI cZ aR xs ys lf ev9 nm9 lb kd pt so9 nu9 al9 ak9 ap9 hh9 le9 rw cx cr cl ll tl9 ts9 tc9 sz mn ac en mg ln cn wc wp) (wr := (wM cI cZ aM lb kd pt mn ++ wA cI cZ aA so nu al ak ap an ax ++ wS cI cZ aS he ar le ++ wC cI cZ aC cx cr cl ll cn ++ wL cI cZ aL rw fn fp ln fc ++ wT cI cZ aT tl tm ts tc ++ wR cI cZ aR xs ys lf ev9 nm9 lb kd pt so9 nu9 al9 ak9 ap9 hh9 le9 rw cx cr cl ll tl9 ts9 tc9 sz mn ac en mg ln cn wc wp)) (c_X7_way l D cI cZ aB aD aM aA aS aC aL aT di xs ys lf ev nm en mg sz _ (by first | exact hd | exact hd.1)) (cwV 0 F.2.2.2.2 gL_law_X7_way rfl rfl rfl (by decide +kernel) ⟨Nat.le_of_ble_eq_true rfl, Nat.le_of_ble_eq_true rfl⟩) [0, 1, 2, 3, 4, 5, 6, 7] [8, 9, 10, 11, 12, 13, 14, 15, 16, 17, 18, 19, 20, 21, 22, 23, 24, 25, 26, 27, 28, 29, 30, 31, 32, 33, 34, 35, 36, 37, 38, 39, 40, 41, 42, 43, 44, 45, 46, 47, 48, 49, 50, 51, 52, 53, 54, 55, 56, 57, 58, 59] [52, 53, 54, 55, 56, 57, 58, 59, 0, 1, 2, 3, 4, 5, 6, 7, 8, 9, 10, 11, 12, 13, 14, 15, 16, 17, 18, 19, 20, 21, 22, 23, 24, 25, 26, 27, 28, 29, 30, 31, 32, 33, 34, 35, 36, 37, 38, 39, 40, 41, 42, 43, 44, 45, 46, 47, 48, 49, 50, 51] rfl rfl (by decide) (by decide) (by decide) (fun _ => rfl) (by decide) (q0 := 0) (ci := 7) rfl rfl rfl rfl rfl hl.1 (Nat.le_of_ble_eq_true rfl) dL_law_233 ⟨Nat.le_of_ble_eq_true rfl, Nat.le_of_ble_eq_true rfl⟩ (fun z_233 u H locs r_z_233 hp_233 hW => ?_)
  replace hp_233 := hp_233.symm
  subst hp_233
  refine z_aloadn F (pc := 236) dL_law_236 rfl (lv_at hl 1 rfl) ?_
  refine z_callVi F (pc := 237) hK hW hA (As := []) (rest := [.int (iI (wy xs ys lf sz))]) (ws' := fun (u : Unit) => wB cI cZ aB aD aM aA aS aC aL aT di en mg ++ wD cI cZ aD xs ys lf ev nm sz ++ wM cI cZ aM lb kd pt mn ++ wA cI cZ aA so nu al ak ap an ax ++ wS cI cZ aS he ar le ++ wC cI cZ aC cx cr cl ll cn ++ wL cI cZ aL rw fn fp ln fc ++ wT cI cZ aT tl tm ts tc ++ wR cI cZ aR xs ys lf ev9 nm9 lb kd pt so9 nu9 al9 ak9 ap9 hh9 le9 rw cx cr cl ll tl9 ts9 tc9 sz mn ac en mg ln cn wc wp) (wr := (wB cI cZ aB aD aM aA aS aC aL aT di en mg ++ wD cI cZ aD xs ys lf ev nm sz ++ wM cI cZ aM lb kd pt mn ++ wA cI cZ aA so nu al ak ap an ax ++ wS cI cZ aS he ar le ++ wC cI cZ aC cx cr cl ll cn ++ wL cI cZ aL rw fn fp ln fc ++ wT cI cZ aT tl tm ts tc)) (c_X8_way l D cI cZ aR xs ys lf ev9 nm9 lb kd pt so9 nu9 al9 ak9 ap9 hh9 le9 rw cx cr cl ll tl9 ts9 tc9 sz mn ac en mg ln cn wc wp _ (by first | exact hd | exact hd.1)) (cwV 0 F.2.2.2.2 gL_law_X8_way rfl rfl rfl (by decide +kernel) ⟨Nat.le_of_ble_eq_true rfl, Nat.le_of_ble_eq_true rfl⟩) [36, 37, 38, 39, 40, 41, 42, 43, 44, 45, 46, 47, 48, 49, 50, 51, 52, 53, 54, 55, 56, 57, 58, 59] [0, 1, 2, 3, 4, 5, 6, 7, 8, 9, 10, 11, 12, 13, 14, 15, 16, 17, 18, 19, 20, 21, 22, 23, 24, 25, 26, 27, 28, 29, 30, 31, 32, 33, 34, 35] [0, 1, 2, 3, 4, 5, 6, 7, 8, 9, 10, 11, 12, 13, 14, 15, 16, 17, 18, 19, 20, 21, 22, 23, 24, 25, 26, 27, 28, 29, 30, 31, 32, 33, 34, 35, 36, 37, 38, 39, 40, 41, 42, 43, 44, 45, 46, 47, 48, 49, 50, 51, 52, 53, 54, 55, 56, 57, 58, 59] rfl rfl (by decide) (by decide) (by decide) (fun _ => rfl) (by decide) (q0 := 36) (ci := 8) rfl rfl rfl rfl rfl hl.1 (Nat.le_of_ble_eq_true rfl) dL_law_237 ⟨Nat.le_of_ble_eq_true rfl, Nat.le_of_ble_eq_true rfl⟩ (fun z_237 u H locs r_z_237 hp_237 hW => ?_)
  replace hp_237 := hp_237.symm
  subst hp_237
  refine z_icmp_eq F (pc := 240) 1014 dL_law_240 (by decide) (by omega) (fun c_240 => ?_) (fun c_240 => ?_)
  · skip
    exact cut_1014 di xs ys lf ev nm lb kd pt so nu al ak ap he ar le cx cr cl ll rw fn fp tl tm ts tc ev9 nm9 so9 nu9 al9 ak9 ap9 hh9 le9 tl9 ts9 tc9 en mg sz mn an ax cn ln fc ac wc wp _ _ _ (by exact hd) (by exact hmk) (by exact hc) (by exact hr) (by exact he9) (by exact hsh) (lv_sub hl [0, 1, 2, 3] rfl) hW
  · skip
    exact absurd (by omega) c_240

set_option maxHeartbeats 8000000 in
set_option maxRecDepth 100000 in
theorem case_3 {p : Program} {l : Launch} {e : Env} {s : State} {m : MethodId} {below : List Frame} {meth : Method} {c : Code} {b L : Nat} {xs0 : Nat → Int32} {Q : State → Prop} {A : Nat → Prop} {D : va_G} {cI cZ : ClassId} {aB aD aM aA aS aC aL aT aR : Nat → Nat} {i : Int} (hF : LFix p s m c b L xs0 A D cI cZ) (g : 0 ≤ i ∧ i + 8 ≤ (L : Int)) (cut_1014 : LAt p l e s m below meth c b Q A D cI cZ aB aD aM aA aS aC aL aT aR i 1014) : LAt p l e s m below meth c b Q A D cI cZ aB aD aM aA aS aC aL aT aR i 245 := by
  obtain ⟨hL, F, hK, hA, hX, hbl, hbA⟩ := hF
  intro di xs ys lf ev nm lb kd pt so nu al ak ap he ar le cx cr cl ll rw fn fp tl tm ts tc ev9 nm9 so9 nu9 al9 ak9 ap9 hh9 le9 tl9 ts9 tc9 en mg sz mn an ax cn ln fc ac wc wp H locs ls hd hmk hc hr he9 hsh hl hW
  have q1 := sv_r xs0 (i + 1)
  have q2 := sv_r xs0 (i + 2)
  have q3 := sv_r xs0 (i + 3)
  have q4 := sv_r xs0 (i + 4)
  have q5 := sv_r xs0 (i + 5)
  have q6 := sv_r xs0 (i + 6)
  have q7 := sv_r xs0 (i + 7)
  have hmm := hmk.1
  have haa := hmk.2.2.2.2.1
  have hac := hmk.2.2.2.2.2.1
  have hd0 := hd.1
  have hc0 := hc.1
  have hr0 := hr.1
  have hw9 := wy_r hd (q := sz) (Int.le_refl _)
  refine z_aloadn F (pc := 245) dL_law_245 rfl (lv_at hl 2 rfl) ?_
  refine z_aloadn F (pc := 246) dL_law_246 rfl (lv_at hl 3 rfl) ?_
  refine z_iloadn F (pc := 247) dL_law_247 rfl (lv_at hl 0 rfl) ?_
  refine z_iconst F (pc := 248) (1) dL_law_248 ?_
  refine z_iadd F (pc := 249) dL_law_249 ?_
  refine z_sld F (pc := 250) hX hbl hbA hW hL (by omega) dL_law_250 ?_
  refine z_aloadn F (pc := 251) dL_law_251 rfl (lv_at hl 3 rfl) ?_
  refine z_iloadn F (pc := 252) dL_law_252 rfl (lv_at hl 0 rfl) ?_
  refine z_iconst F (pc := 253) (2) dL_law_253 ?_
  refine z_iadd F (pc := 254) dL_law_254 ?_
  refine z_sld F (pc := 255) hX hbl hbA hW hL (by omega) dL_law_255 ?_
  refine z_callVi F (pc := 256) hK hW hA (As := [.int (iI (sv xs0 (i + 1))), .int (iI (sv xs0 (i + 2)))]) (rest := []) (ws' := fun (u : (Int → Int)) => wB cI cZ aB aD aM aA aS aC aL aT di en mg ++ wD cI cZ aD xs ys lf u nm sz ++ wM cI cZ aM lb kd pt mn ++ wA cI cZ aA so nu al ak ap an ax ++ wS cI cZ aS he ar le ++ wC cI cZ aC cx cr cl ll cn ++ wL cI cZ aL rw fn fp ln fc ++ wT cI cZ aT tl tm ts tc ++ wR cI cZ aR xs ys lf ev9 nm9 lb kd pt so9 nu9 al9 ak9 ap9 hh9 le9 rw cx cr cl ll tl9 ts9 tc9 sz mn ac en mg ln cn wc wp) (wr := (wM cI cZ aM lb kd pt mn ++ wA cI cZ aA so nu al ak ap an ax ++ wS cI cZ aS he ar le ++ wC cI cZ aC cx cr cl ll cn ++ wL cI cZ aL rw fn fp ln fc ++ wT cI cZ aT tl tm ts tc ++ wR cI cZ aR xs ys lf ev9 nm9 lb kd pt so9 nu9 al9 ak9 ap9 hh9 le9 rw cx cr cl ll tl9 ts9 tc9 sz mn ac en mg ln cn wc wp)) (c_X7_even l D cI cZ aB aD aM aA aS aC aL aT di xs ys lf ev nm en mg sz (sv xs0 (i + 1)) (sv xs0 (i + 2)) _ (by omega) (by omega) (by first | exact hd | exact hd.1)) (cwV 2 F.2.2.2.2 gL_law_X7_even rfl rfl rfl (by decide +kernel) ⟨Nat.le_of_ble_eq_true rfl, Nat.le_of_ble_eq_true rfl⟩) [0, 1, 2, 3, 4, 5, 6, 7] [8, 9, 10, 11, 12, 13, 14, 15, 16, 17, 18, 19, 20, 21, 22, 23, 24, 25, 26, 27, 28, 29, 30, 31, 32, 33, 34, 35, 36, 37, 38, 39, 40, 41, 42, 43, 44, 45, 46, 47, 48, 49, 50, 51, 52, 53, 54, 55, 56, 57, 58, 59] [52, 53, 54, 55, 56, 57, 58, 59, 0, 1, 2, 3, 4, 5, 6, 7, 8, 9, 10, 11, 12, 13, 14, 15, 16, 17, 18, 19, 20, 21, 22, 23, 24, 25, 26, 27, 28, 29, 30, 31, 32, 33, 34, 35, 36, 37, 38, 39, 40, 41, 42, 43, 44, 45, 46, 47, 48, 49, 50, 51] rfl rfl (by decide) (by decide) (by decide) (fun _ => rfl) (by decide) (q0 := 0) (ci := 7) rfl rfl rfl rfl rfl hl.1 (Nat.le_of_ble_eq_true rfl) dL_law_256 ⟨Nat.le_of_ble_eq_true rfl, Nat.le_of_ble_eq_true rfl⟩ (fun z_256 u H locs r_z_256 hp_256 hW => ?_)
  obtain ⟨ev2_256, rfl⟩ : ∃ v, v = u := ⟨_, rfl⟩
  refine z_aloadn F (pc := 259) dL_law_259 rfl (lv_at hl 1 rfl) ?_
  refine z_aloadn F (pc := 260) dL_law_260 rfl (lv_at hl 3 rfl) ?_
  refine z_iloadn F (pc := 261) dL_law_261 rfl (lv_at hl 0 rfl) ?_
  refine z_iconst F (pc := 262) (1) dL_law_262 ?_
  refine z_iadd F (pc := 263) dL_law_263 ?_
  refine z_sld F (pc := 264) hX hbl hbA hW hL (by omega) dL_law_264 ?_
  refine z_aloadn F (pc := 265) dL_law_265 rfl (lv_at hl 3 rfl) ?_
  refine z_iloadn F (pc := 266) dL_law_266 rfl (lv_at hl 0 rfl) ?_
  refine z_iconst F (pc := 267) (2) dL_law_267 ?_
  refine z_iadd F (pc := 268) dL_law_268 ?_
  refine z_sld F (pc := 269) hX hbl hbA hW hL (by omega) dL_law_269 ?_
  refine z_callVi F (pc := 270) hK hW hA (As := [.int (iI (sv xs0 (i + 1))), .int (iI (sv xs0 (i + 2)))]) (rest := [.int (iI z_256)]) (ws' := fun (u : (Int → Int)) => wB cI cZ aB aD aM aA aS aC aL aT di en mg ++ wD cI cZ aD xs ys lf ev2_256 nm sz ++ wM cI cZ aM lb kd pt mn ++ wA cI cZ aA so nu al ak ap an ax ++ wS cI cZ aS he ar le ++ wC cI cZ aC cx cr cl ll cn ++ wL cI cZ aL rw fn fp ln fc ++ wT cI cZ aT tl tm ts tc ++ wR cI cZ aR xs ys lf u nm9 lb kd pt so9 nu9 al9 ak9 ap9 hh9 le9 rw cx cr cl ll tl9 ts9 tc9 sz mn ac en mg ln cn wc wp) (wr := (wB cI cZ aB aD aM aA aS aC aL aT di en mg ++ wD cI cZ aD xs ys lf ev2_256 nm sz ++ wM cI cZ aM lb kd pt mn ++ wA cI cZ aA so nu al ak ap an ax ++ wS cI cZ aS he ar le ++ wC cI cZ aC cx cr cl ll cn ++ wL cI cZ aL rw fn fp ln fc ++ wT cI cZ aT tl tm ts tc)) (c_X8_even l D cI cZ aR xs ys lf ev9 nm9 lb kd pt so9 nu9 al9 ak9 ap9 hh9 le9 rw cx cr cl ll tl9 ts9 tc9 sz mn ac en mg ln cn wc wp (sv xs0 (i + 1)) (sv xs0 (i + 2)) _ (by omega) (by omega) (by first | exact hd | exact hd.1)) (cwV 2 F.2.2.2.2 gL_law_X8_even rfl rfl rfl (by decide +kernel) ⟨Nat.le_of_ble_eq_true rfl, Nat.le_of_ble_eq_true rfl⟩) [36, 37, 38, 39, 40, 41, 42, 43, 44, 45, 46, 47, 48, 49, 50, 51, 52, 53, 54, 55, 56, 57, 58, 59] [0, 1, 2, 3, 4, 5, 6, 7, 8, 9, 10, 11, 12, 13, 14, 15, 16, 17, 18, 19, 20, 21, 22, 23, 24, 25, 26, 27, 28, 29, 30, 31, 32, 33, 34, 35] [0, 1, 2, 3, 4, 5, 6, 7, 8, 9, 10, 11, 12, 13, 14, 15, 16, 17, 18, 19, 20, 21, 22, 23, 24, 25, 26, 27, 28, 29, 30, 31, 32, 33, 34, 35, 36, 37, 38, 39, 40, 41, 42, 43, 44, 45, 46, 47, 48, 49, 50, 51, 52, 53, 54, 55, 56, 57, 58, 59] rfl rfl (by decide) (by decide) (by decide) (fun _ => rfl) (by decide) (q0 := 36) (ci := 8) rfl rfl rfl rfl rfl hl.1 (Nat.le_of_ble_eq_true rfl) dL_law_270 ⟨Nat.le_of_ble_eq_true rfl, Nat.le_of_ble_eq_true rfl⟩ (fun z_270 u H locs r_z_270 hp_270 hW => ?_)
  obtain ⟨ev2_270, rfl⟩ : ∃ v, v = u := ⟨_, rfl⟩
  have hans := evenP_one hp_256 hp_270
  refine z_icmp_eq F (pc := 273) 1014 dL_law_273 (by decide) (by omega) (fun c_273 => ?_) (fun c_273 => ?_)
  · skip
    exact cut_1014 di xs ys lf ev2_256 nm lb kd pt so nu al ak ap he ar le cx cr cl ll rw fn fp tl tm ts tc ev2_270 nm9 so9 nu9 al9 ak9 ap9 hh9 le9 tl9 ts9 tc9 en mg sz mn an ax cn ln fc ac wc wp _ _ _ (by exact hd) (by exact hmk) (by exact hc) (by exact hr) (by exact he9) (by exact hsh) (lv_sub hl [0, 1, 2, 3] rfl) hW
  · skip
    exact absurd (by omega) c_273
