set_option maxHeartbeats 8000000 in
set_option maxRecDepth 100000 in
theorem case_13 {p : Program} {l : Launch} {e : Env} {s : State} {m : MethodId} {below : List Frame} {meth : Method} {c : Code} {b L : Nat} {xs0 : Nat → Int32} {Q : State → Prop} {A : Nat → Prop} {D : va_G} {cI cZ : ClassId} {aB aD aM aA aS aC aL aT aR : Nat → Nat} {i : Int} (hF : LFix p s m c b L xs0 A D cI cZ) (g : 0 ≤ i ∧ i + 8 ≤ (L : Int)) (cut_1014 : LAt p l e s m below meth c b Q A D cI cZ aB aD aM aA aS aC aL aT aR i 1014) : LAt p l e s m below meth c b Q A D cI cZ aB aD aM aA aS aC aL aT aR i 545 := by
  obtain ⟨hL, F, hK, hA, hX, hbl, hbA⟩ := hF
  intro di xs ys lf ev nm lb kd pt so nu al ak ap he ar le cx cr cl ll rw fn fp tl tm ts tc ev9 nm9 so9 nu9 al9 ak9 ap9 hh9 le9 tl9 ts9 tc9 en mg sz mn an ax cn ln fc ac wc wp H locs ls hd hmk hc hr he9 hsh hl hW
  have q1 := sv_r xs0 (i + 1)
  have q2 := sv_r xs0 (i + 2)
  have q3 := sv_r xs0 (i + 3)
  have q4 := sv_r xs0 (i + 4)
  have q5 := sv_r xs0 (i + 5)
  have q6 := sv_r xs0 (i + 6)
  have q7 := sv_r xs0 (i + 7)
  have hmm := hmk.1
  have haa := hmk.2.2.2.2.1
  have hac := hmk.2.2.2.2.2.1
  have hd0 := hd.1
  have hc0 := hc.1
  have hr0 := hr.1
  have hw9 := wy_r hd (q := sz) (Int.le_refl _)
  refine z_aloadn F (pc := 545) dL_law_545 rfl (lv_at hl 2 rfl) ?_
  refine z_callVi F (pc := 546) hK hW hA (As := []) (rest := []) (ws' := fun (u : (Int → Int) × (Int → Int) × (Int → Int) × (Int → Int) × (Int → Int) × (Int → Int)) => wB cI cZ aB aD aM aA aS aC aL aT u.1 en mg ++ wD cI cZ aD xs ys lf u.2.1 u.2.2.1 sz ++ wM cI cZ aM lb kd pt mn ++ wA cI cZ aA so nu al ak ap an ax ++ wS cI cZ aS u.2.2.2.1 u.2.2.2.2.1 u.2.2.2.2.2 ++ wC cI cZ aC cx cr cl ll cn ++ wL cI cZ aL rw fn fp ln fc ++ wT cI cZ aT tl tm ts tc ++ wR cI cZ aR xs ys lf ev9 nm9 lb kd pt so9 nu9 al9 ak9 ap9 hh9 le9 rw cx cr cl ll tl9 ts9 tc9 sz mn ac en mg ln cn wc wp) (wr := (wA cI cZ aA so nu al ak ap an ax ++ wC cI cZ aC cx cr cl ll cn ++ wL cI cZ aL rw fn fp ln fc ++ wT cI cZ aT tl tm ts tc ++ wR cI cZ aR xs ys lf ev9 nm9 lb kd pt so9 nu9 al9 ak9 ap9 hh9 le9 rw cx cr cl ll tl9 ts9 tc9 sz mn ac en mg ln cn wc wp)) (c_X7_nearest l D cI cZ aB aD aM aA aS aC aL aT di xs ys lf ev nm lb kd pt he ar le en mg sz mn _ (by first | exact hd | exact hd.1) (by omega) (by exact hmk.2.2.1) (by exact hmk.2.2.2.1)) (cwV 0 F.2.2.2.2 gL_law_X7_nearest rfl rfl rfl (by decide +kernel) ⟨Nat.le_of_ble_eq_true rfl, Nat.le_of_ble_eq_true rfl⟩) [0, 1, 2, 3, 4, 5, 6, 7, 8, 9, 10, 11, 18, 19, 20, 21] [12, 13, 14, 15, 16, 17, 22, 23, 24, 25, 26, 27, 28, 29, 30, 31, 32, 33, 34, 35, 36, 37, 38, 39, 40, 41, 42, 43, 44, 45, 46, 47, 48, 49, 50, 51, 52, 53, 54, 55, 56, 57, 58, 59] [44, 45, 46, 47, 48, 49, 50, 51, 52, 53, 54, 55, 0, 1, 2, 3, 4, 5, 56, 57, 58, 59, 6, 7, 8, 9, 10, 11, 12, 13, 14, 15, 16, 17, 18, 19, 20, 21, 22, 23, 24, 25, 26, 27, 28, 29, 30, 31, 32, 33, 34, 35, 36, 37, 38, 39, 40, 41, 42, 43] rfl rfl (by decide) (by decide) (by decide) (fun _ => rfl) (by decide) (q0 := 0) (ci := 7) rfl rfl rfl rfl rfl hl.1 (Nat.le_of_ble_eq_true rfl) dL_law_546 ⟨Nat.le_of_ble_eq_true rfl, Nat.le_of_ble_eq_true rfl⟩ (fun z_546 u H locs r_z_546 hp_546 hW => ?_)
  obtain ⟨di2_546, ev2_546, nm2_546, he2_546, ar2_546, le2_546⟩ := u
  dsimp only at hp_546 hW
  refine z_aloadn F (pc := 549) dL_law_549 rfl (lv_at hl 1 rfl) ?_
  refine z_callVi F (pc := 550) hK hW hA (As := []) (rest := [.int (iI z_546)]) (ws' := fun (u : (Int → Int) × (Int → Int) × (Int → Int) × (Int → Int)) => wB cI cZ aB aD aM aA aS aC aL aT di2_546 en mg ++ wD cI cZ aD xs ys lf ev2_546 nm2_546 sz ++ wM cI cZ aM lb kd pt mn ++ wA cI cZ aA so nu al ak ap an ax ++ wS cI cZ aS he2_546 ar2_546 le2_546 ++ wC cI cZ aC cx cr cl ll cn ++ wL cI cZ aL rw fn fp ln fc ++ wT cI cZ aT tl tm ts tc ++ wR cI cZ aR xs ys lf u.1 u.2.1 lb kd pt so9 nu9 al9 ak9 ap9 u.2.2.1 u.2.2.2 rw cx cr cl ll tl9 ts9 tc9 sz mn ac en mg ln cn wc wp) (wr := (wB cI cZ aB aD aM aA aS aC aL aT di2_546 en mg ++ wD cI cZ aD xs ys lf ev2_546 nm2_546 sz ++ wM cI cZ aM lb kd pt mn ++ wA cI cZ aA so nu al ak ap an ax ++ wS cI cZ aS he2_546 ar2_546 le2_546 ++ wC cI cZ aC cx cr cl ll cn ++ wL cI cZ aL rw fn fp ln fc ++ wT cI cZ aT tl tm ts tc)) (c_X8_nearest l D cI cZ aR xs ys lf ev9 nm9 lb kd pt so9 nu9 al9 ak9 ap9 hh9 le9 rw cx cr cl ll tl9 ts9 tc9 sz mn ac en mg ln cn wc wp _ (by first | exact hd | exact hd.1) (by omega) (by exact hmk.2.2.1) (by exact hmk.2.2.2.1)) (cwV 0 F.2.2.2.2 gL_law_X8_nearest rfl rfl rfl (by decide +kernel) ⟨Nat.le_of_ble_eq_true rfl, Nat.le_of_ble_eq_true rfl⟩) [36, 37, 38, 39, 40, 41, 42, 43, 44, 45, 46, 47, 48, 49, 50, 51, 52, 53, 54, 55, 56, 57, 58, 59] [0, 1, 2, 3, 4, 5, 6, 7, 8, 9, 10, 11, 12, 13, 14, 15, 16, 17, 18, 19, 20, 21, 22, 23, 24, 25, 26, 27, 28, 29, 30, 31, 32, 33, 34, 35] [0, 1, 2, 3, 4, 5, 6, 7, 8, 9, 10, 11, 12, 13, 14, 15, 16, 17, 18, 19, 20, 21, 22, 23, 24, 25, 26, 27, 28, 29, 30, 31, 32, 33, 34, 35, 36, 37, 38, 39, 40, 41, 42, 43, 44, 45, 46, 47, 48, 49, 50, 51, 52, 53, 54, 55, 56, 57, 58, 59] rfl rfl (by decide) (by decide) (by decide) (fun _ => rfl) (by decide) (q0 := 36) (ci := 8) rfl rfl rfl rfl rfl hl.1 (Nat.le_of_ble_eq_true rfl) dL_law_550 ⟨Nat.le_of_ble_eq_true rfl, Nat.le_of_ble_eq_true rfl⟩ (fun z_550 u H locs r_z_550 hp_550 hW => ?_)
  obtain ⟨ev2_550, nm2_550, he2_550, le2_550⟩ := u
  dsimp only at hp_550 hW
  have hans := nearR_one hp_546 (near_of hp_550.o)
  refine z_icmp_eq F (pc := 553) 1014 dL_law_553 (by decide) (by omega) (fun c_553 => ?_) (fun c_553 => ?_)
  · skip
    exact cut_1014 di2_546 xs ys lf ev2_546 nm2_546 lb kd pt so nu al ak ap he2_546 ar2_546 le2_546 cx cr cl ll rw fn fp tl tm ts tc ev2_550 nm2_550 so9 nu9 al9 ak9 ap9 he2_550 le2_550 tl9 ts9 tc9 en mg sz mn an ax cn ln fc ac wc wp _ _ _ (by exact hd) (by exact hmk) (by exact hc) (by exact hr) (by exact he9) (by exact hsh) (lv_sub hl [0, 1, 2, 3] rfl) hW
  · skip
    exact absurd (by omega) c_553

set_option maxHeartbeats 8000000 in
set_option maxRecDepth 100000 in
theorem case_14 {p : Program} {l : Launch} {e : Env} {s : State} {m : MethodId} {below : List Frame} {meth : Method} {c : Code} {b L : Nat} {xs0 : Nat → Int32} {Q : State → Prop} {A : Nat → Prop} {D : va_G} {cI cZ : ClassId} {aB aD aM aA aS aC aL aT aR : Nat → Nat} {i : Int} (hF : LFix p s m c b L xs0 A D cI cZ) (g : 0 ≤ i ∧ i + 8 ≤ (L : Int)) (cut_1014 : LAt p l e s m below meth c b Q A D cI cZ aB aD aM aA aS aC aL aT aR i 1014) : LAt p l e s m below meth c b Q A D cI cZ aB aD aM aA aS aC aL aT aR i 558 := by
  obtain ⟨hL, F, hK, hA, hX, hbl, hbA⟩ := hF
  intro di xs ys lf ev nm lb kd pt so nu al ak ap he ar le cx cr cl ll rw fn fp tl tm ts tc ev9 nm9 so9 nu9 al9 ak9 ap9 hh9 le9 tl9 ts9 tc9 en mg sz mn an ax cn ln fc ac wc wp H locs ls hd hmk hc hr he9 hsh hl hW
  have q1 := sv_r xs0 (i + 1)
  have q2 := sv_r xs0 (i + 2)
  have q3 := sv_r xs0 (i + 3)
  have q4 := sv_r xs0 (i + 4)
  have q5 := sv_r xs0 (i + 5)
  have q6 := sv_r xs0 (i + 6)
  have q7 := sv_r xs0 (i + 7)
  have hmm := hmk.1
  have haa := hmk.2.2.2.2.1
  have hac := hmk.2.2.2.2.2.1
  have hd0 := hd.1
  have hc0 := hc.1
  have hr0 := hr.1
  have hw9 := wy_r hd (q := sz) (Int.le_refl _)
  refine z_aloadn F (pc := 558) dL_law_558 rfl (lv_at hl 2 rfl) ?_
  refine z_callVi F (pc := 559) hK hW hA (As := []) (rest := []) (ws' := fun (u : (Int → Int) × (Int → Int) × (Int → Int) × (Int → Int) × (Int → Int) × (Int → Int)) => wB cI cZ aB aD aM aA aS aC aL aT u.1 en mg ++ wD cI cZ aD xs ys lf u.2.1 u.2.2.1 sz ++ wM cI cZ aM lb kd pt mn ++ wA cI cZ aA so nu al ak ap an ax ++ wS cI cZ aS u.2.2.2.1 u.2.2.2.2.1 u.2.2.2.2.2 ++ wC cI cZ aC cx cr cl ll cn ++ wL cI cZ aL rw fn fp ln fc ++ wT cI cZ aT tl tm ts tc ++ wR cI cZ aR xs ys lf ev9 nm9 lb kd pt so9 nu9 al9 ak9 ap9 hh9 le9 rw cx cr cl ll tl9 ts9 tc9 sz mn ac en mg ln cn wc wp) (wr := (wA cI cZ aA so nu al ak ap an ax ++ wC cI cZ aC cx cr cl ll cn ++ wL cI cZ aL rw fn fp ln fc ++ wT cI cZ aT tl tm ts tc ++ wR cI cZ aR xs ys lf ev9 nm9 lb kd pt so9 nu9 al9 ak9 ap9 hh9 le9 rw cx cr cl ll tl9 ts9 tc9 sz mn ac en mg ln cn wc wp)) (c_X7_read l D cI cZ aB aD aM aA aS aC aL aT di xs ys lf ev nm lb kd pt he ar le en mg sz mn _ (by first | exact hd | exact hd.1) (by omega) (by exact hmk.2.2.1) (by exact hmk.2.2.2.1) (by first | exact hmk.2.1 | exact fun j a b => ⟨hmk.2.1 j a b, hmk.2.2.1 j a b⟩) (by exact he9)) (cwV 0 F.2.2.2.2 gL_law_X7_read rfl rfl rfl (by decide +kernel) ⟨Nat.le_of_ble_eq_true rfl, Nat.le_of_ble_eq_true rfl⟩) [0, 1, 2, 3, 4, 5, 6, 7, 8, 9, 10, 11, 18, 19, 20, 21] [12, 13, 14, 15, 16, 17, 22, 23, 24, 25, 26, 27, 28, 29, 30, 31, 32, 33, 34, 35, 36, 37, 38, 39, 40, 41, 42, 43, 44, 45, 46, 47, 48, 49, 50, 51, 52, 53, 54, 55, 56, 57, 58, 59] [44, 45, 46, 47, 48, 49, 50, 51, 52, 53, 54, 55, 0, 1, 2, 3, 4, 5, 56, 57, 58, 59, 6, 7, 8, 9, 10, 11, 12, 13, 14, 15, 16, 17, 18, 19, 20, 21, 22, 23, 24, 25, 26, 27, 28, 29, 30, 31, 32, 33, 34, 35, 36, 37, 38, 39, 40, 41, 42, 43] rfl rfl (by decide) (by decide) (by decide) (fun _ => rfl) (by decide) (q0 := 0) (ci := 7) rfl rfl rfl rfl rfl hl.1 (Nat.le_of_ble_eq_true rfl) dL_law_559 ⟨Nat.le_of_ble_eq_true rfl, Nat.le_of_ble_eq_true rfl⟩ (fun z_559 u H locs r_z_559 hp_559 hW => ?_)
  obtain ⟨di2_559, ev2_559, nm2_559, he2_559, ar2_559, le2_559⟩ := u
  dsimp only at hp_559 hW
  refine z_aloadn F (pc := 562) dL_law_562 rfl (lv_at hl 1 rfl) ?_
  refine z_callVi F (pc := 563) hK hW hA (As := []) (rest := [.int (iI z_559)]) (ws' := fun (u : (Int → Int) × (Int → Int) × (Int → Int) × (Int → Int)) => wB cI cZ aB aD aM aA aS aC aL aT di2_559 en mg ++ wD cI cZ aD xs ys lf ev2_559 nm2_559 sz ++ wM cI cZ aM lb kd pt mn ++ wA cI cZ aA so nu al ak ap an ax ++ wS cI cZ aS he2_559 ar2_559 le2_559 ++ wC cI cZ aC cx cr cl ll cn ++ wL cI cZ aL rw fn fp ln fc ++ wT cI cZ aT tl tm ts tc ++ wR cI cZ aR xs ys lf u.1 u.2.1 lb kd pt so9 nu9 al9 ak9 ap9 u.2.2.1 u.2.2.2 rw cx cr cl ll tl9 ts9 tc9 sz mn ac en mg ln cn wc wp) (wr := (wB cI cZ aB aD aM aA aS aC aL aT di2_559 en mg ++ wD cI cZ aD xs ys lf ev2_559 nm2_559 sz ++ wM cI cZ aM lb kd pt mn ++ wA cI cZ aA so nu al ak ap an ax ++ wS cI cZ aS he2_559 ar2_559 le2_559 ++ wC cI cZ aC cx cr cl ll cn ++ wL cI cZ aL rw fn fp ln fc ++ wT cI cZ aT tl tm ts tc)) (c_X8_read l D cI cZ aR xs ys lf ev9 nm9 lb kd pt so9 nu9 al9 ak9 ap9 hh9 le9 rw cx cr cl ll tl9 ts9 tc9 sz mn ac en mg ln cn wc wp _ (by first | exact hd | exact hd.1) (by omega) (by exact hmk.2.2.1) (by exact hmk.2.2.2.1) (by first | exact hmk.2.1 | exact fun j a b => ⟨hmk.2.1 j a b, hmk.2.2.1 j a b⟩) (by exact he9)) (cwV 0 F.2.2.2.2 gL_law_X8_read rfl rfl rfl (by decide +kernel) ⟨Nat.le_of_ble_eq_true rfl, Nat.le_of_ble_eq_true rfl⟩) [36, 37, 38, 39, 40, 41, 42, 43, 44, 45, 46, 47, 48, 49, 50, 51, 52, 53, 54, 55, 56, 57, 58, 59] [0, 1, 2, 3, 4, 5, 6, 7, 8, 9, 10, 11, 12, 13, 14, 15, 16, 17, 18, 19, 20, 21, 22, 23, 24, 25, 26, 27, 28, 29, 30, 31, 32, 33, 34, 35] [0, 1, 2, 3, 4, 5, 6, 7, 8, 9, 10, 11, 12, 13, 14, 15, 16, 17, 18, 19, 20, 21, 22, 23, 24, 25, 26, 27, 28, 29, 30, 31, 32, 33, 34, 35, 36, 37, 38, 39, 40, 41, 42, 43, 44, 45, 46, 47, 48, 49, 50, 51, 52, 53, 54, 55, 56, 57, 58, 59] rfl rfl (by decide) (by decide) (by decide) (fun _ => rfl) (by decide) (q0 := 36) (ci := 8) rfl rfl rfl rfl rfl hl.1 (Nat.le_of_ble_eq_true rfl) dL_law_563 ⟨Nat.le_of_ble_eq_true rfl, Nat.le_of_ble_eq_true rfl⟩ (fun z_563 u H locs r_z_563 hp_563 hW => ?_)
  obtain ⟨ev2_563, nm2_563, he2_563, le2_563⟩ := u
  dsimp only at hp_563 hW
  have hans := readR_one hp_559 hp_563.1
  refine z_icmp_eq F (pc := 566) 1014 dL_law_566 (by decide) (by omega) (fun c_566 => ?_) (fun c_566 => ?_)
  · skip
    exact cut_1014 di2_559 xs ys lf ev2_559 nm2_559 lb kd pt so nu al ak ap he2_559 ar2_559 le2_559 cx cr cl ll rw fn fp tl tm ts tc ev2_563 nm2_563 so9 nu9 al9 ak9 ap9 he2_563 le2_563 tl9 ts9 tc9 en mg sz mn an ax cn ln fc ac wc wp _ _ _ (by exact hd) (by exact hmk) (by exact hc) (by exact hr) (by exact he9) (by exact hsh) (lv_sub hl [0, 1, 2, 3] rfl) hW
  · skip
    exact absurd (by omega) c_566

set_option maxHeartbeats 8000000 in
set_option maxRecDepth 100000 in
theorem case_15 {p : Program} {l : Launch} {e : Env} {s : State} {m : MethodId} {below : List Frame} {meth : Method} {c : Code} {b L : Nat} {xs0 : Nat → Int32} {Q : State → Prop} {A : Nat → Prop} {D : va_G} {cI cZ : ClassId} {aB aD aM aA aS aC aL aT aR : Nat → Nat} {i : Int} (hF : LFix p s m c b L xs0 A D cI cZ) (g : 0 ≤ i ∧ i + 8 ≤ (L : Int)) (cut_1014 : LAt p l e s m below meth c b Q A D cI cZ aB aD aM aA aS aC aL aT aR i 1014) : LAt p l e s m below meth c b Q A D cI cZ aB aD aM aA aS aC aL aT aR i 571 := by
  obtain ⟨hL, F, hK, hA, hX, hbl, hbA⟩ := hF
  intro di xs ys lf ev nm lb kd pt so nu al ak ap he ar le cx cr cl ll rw fn fp tl tm ts tc ev9 nm9 so9 nu9 al9 ak9 ap9 hh9 le9 tl9 ts9 tc9 en mg sz mn an ax cn ln fc ac wc wp H locs ls hd hmk hc hr he9 hsh hl hW
  have q1 := sv_r xs0 (i + 1)
  have q2 := sv_r xs0 (i + 2)
  have q3 := sv_r xs0 (i + 3)
  have q4 := sv_r xs0 (i + 4)
  have q5 := sv_r xs0 (i + 5)
  have q6 := sv_r xs0 (i + 6)
  have q7 := sv_r xs0 (i + 7)
  have hmm := hmk.1
  have haa := hmk.2.2.2.2.1
  have hac := hmk.2.2.2.2.2.1
  have hd0 := hd.1
  have hc0 := hc.1
  have hr0 := hr.1
  have hw9 := wy_r hd (q := sz) (Int.le_refl _)
  refine z_aloadn F (pc := 571) dL_law_571 rfl (lv_at hl 2 rfl) ?_
  refine z_callVi F (pc := 572) hK hW hA (As := []) (rest := []) (ws' := fun (u : (Int → Int) × (Int → Int) × (Int → Int) × (Int) × (Int → Int) × (Int → Int) × (Int → Int) × (Int → Int) × (Int)) => wB cI cZ aB aD aM aA aS aC aL aT u.1 en mg ++ wD cI cZ aD xs ys lf u.2.1 u.2.2.1 u.2.2.2.1 ++ wM cI cZ aM lb kd pt mn ++ wA cI cZ aA so nu al ak ap an ax ++ wS cI cZ aS u.2.2.2.2.1 u.2.2.2.2.2.1 u.2.2.2.2.2.2.1 ++ wC cI cZ aC cx cr cl ll cn ++ wL cI cZ aL u.2.2.2.2.2.2.2.1 fn fp u.2.2.2.2.2.2.2.2 fc ++ wT cI cZ aT tl tm ts tc ++ wR cI cZ aR xs ys lf ev9 nm9 lb kd pt so9 nu9 al9 ak9 ap9 hh9 le9 rw cx cr cl ll tl9 ts9 tc9 sz mn ac en mg ln cn wc wp) (wr := (wA cI cZ aA so nu al ak ap an ax ++ wC cI cZ aC cx cr cl ll cn ++ wT cI cZ aT tl tm ts tc ++ wR cI cZ aR xs ys lf ev9 nm9 lb kd pt so9 nu9 al9 ak9 ap9 hh9 le9 rw cx cr cl ll tl9 ts9 tc9 sz mn ac en mg ln cn wc wp)) (c_X7_mark l D cI cZ aB aD aM aA aS aC aL aT di xs ys lf ev nm lb kd pt he ar le rw fn fp en mg sz mn ln fc _ (by first | exact hd | exact hd.1) (by omega) (by exact hmk.2.2.1) (by exact hmk.2.2.2.1) (by first | exact hmk.2.1 | exact fun j a b => ⟨hmk.2.1 j a b, hmk.2.2.1 j a b⟩) (by exact he9) (by omega)) (cwV 0 F.2.2.2.2 gL_law_X7_mark rfl rfl rfl (by decide +kernel) ⟨Nat.le_of_ble_eq_true rfl, Nat.le_of_ble_eq_true rfl⟩) [0, 1, 2, 3, 4, 5, 6, 7, 8, 9, 10, 11, 18, 19, 20, 21, 27, 28, 29, 30] [12, 13, 14, 15, 16, 17, 22, 23, 24, 25, 26, 31, 32, 33, 34, 35, 36, 37, 38, 39, 40, 41, 42, 43, 44, 45, 46, 47, 48, 49, 50, 51, 52, 53, 54, 55, 56, 57, 58, 59] [40, 41, 42, 43, 44, 45, 46, 47, 48, 49, 50, 51, 0, 1, 2, 3, 4, 5, 52, 53, 54, 55, 6, 7, 8, 9, 10, 56, 57, 58, 59, 11, 12, 13, 14, 15, 16, 17, 18, 19, 20, 21, 22, 23, 24, 25, 26, 27, 28, 29, 30, 31, 32, 33, 34, 35, 36, 37, 38, 39] rfl rfl (by decide) (by decide) (by decide) (fun _ => rfl) (by decide) (q0 := 0) (ci := 7) rfl rfl rfl rfl rfl hl.1 (Nat.le_of_ble_eq_true rfl) dL_law_572 ⟨Nat.le_of_ble_eq_true rfl, Nat.le_of_ble_eq_true rfl⟩ (fun z_572 u H locs r_z_572 hp_572 hW => ?_)
  obtain ⟨di2_572, ev2_572, nm2_572, sz2_572, he2_572, ar2_572, le2_572, rw2_572, ln2_572⟩ := u
  dsimp only at hp_572 hW
  refine z_aloadn F (pc := 575) dL_law_575 rfl (lv_at hl 1 rfl) ?_
  refine z_callVi F (pc := 576) hK hW hA (As := []) (rest := [.int (iI z_572)]) (ws' := fun (u : (Int → Int) × (Int → Int) × (Int → Int) × (Int → Int) × (Int → Int) × (Int) × (Int)) => wB cI cZ aB aD aM aA aS aC aL aT di2_572 en mg ++ wD cI cZ aD xs ys lf ev2_572 nm2_572 sz2_572 ++ wM cI cZ aM lb kd pt mn ++ wA cI cZ aA so nu al ak ap an ax ++ wS cI cZ aS he2_572 ar2_572 le2_572 ++ wC cI cZ aC cx cr cl ll cn ++ wL cI cZ aL rw2_572 fn fp ln2_572 fc ++ wT cI cZ aT tl tm ts tc ++ wR cI cZ aR xs ys lf u.1 u.2.1 lb kd pt so9 nu9 al9 ak9 ap9 u.2.2.1 u.2.2.2.1 u.2.2.2.2.1 cx cr cl ll tl9 ts9 tc9 u.2.2.2.2.2.2 mn ac en mg u.2.2.2.2.2.1 cn wc wp) (wr := (wB cI cZ aB aD aM aA aS aC aL aT di2_572 en mg ++ wD cI cZ aD xs ys lf ev2_572 nm2_572 sz2_572 ++ wM cI cZ aM lb kd pt mn ++ wA cI cZ aA so nu al ak ap an ax ++ wS cI cZ aS he2_572 ar2_572 le2_572 ++ wC cI cZ aC cx cr cl ll cn ++ wL cI cZ aL rw2_572 fn fp ln2_572 fc ++ wT cI cZ aT tl tm ts tc)) (c_X8_mark l D cI cZ aR xs ys lf ev9 nm9 lb kd pt so9 nu9 al9 ak9 ap9 hh9 le9 rw cx cr cl ll tl9 ts9 tc9 sz mn ac en mg ln cn wc wp _ (by first | exact hd | exact hd.1) (by omega) (by exact hmk.2.2.1) (by exact hmk.2.2.2.1) (by first | exact hmk.2.1 | exact fun j a b => ⟨hmk.2.1 j a b, hmk.2.2.1 j a b⟩) (by exact he9) (by omega)) (cwV 0 F.2.2.2.2 gL_law_X8_mark rfl rfl rfl (by decide +kernel) ⟨Nat.le_of_ble_eq_true rfl, Nat.le_of_ble_eq_true rfl⟩) [36, 37, 38, 39, 40, 41, 42, 43, 44, 45, 46, 47, 48, 49, 50, 51, 52, 53, 54, 55, 56, 57, 58, 59] [0, 1, 2, 3, 4, 5, 6, 7, 8, 9, 10, 11, 12, 13, 14, 15, 16, 17, 18, 19, 20, 21, 22, 23, 24, 25, 26, 27, 28, 29, 30, 31, 32, 33, 34, 35] [0, 1, 2, 3, 4, 5, 6, 7, 8, 9, 10, 11, 12, 13, 14, 15, 16, 17, 18, 19, 20, 21, 22, 23, 24, 25, 26, 27, 28, 29, 30, 31, 32, 33, 34, 35, 36, 37, 38, 39, 40, 41, 42, 43, 44, 45, 46, 47, 48, 49, 50, 51, 52, 53, 54, 55, 56, 57, 58, 59] rfl rfl (by decide) (by decide) (by decide) (fun _ => rfl) (by decide) (q0 := 36) (ci := 8) rfl rfl rfl rfl rfl hl.1 (Nat.le_of_ble_eq_true rfl) dL_law_576 ⟨Nat.le_of_ble_eq_true rfl, Nat.le_of_ble_eq_true rfl⟩ (fun z_576 u H locs r_z_576 hp_576 hW => ?_)
  obtain ⟨ev2_576, nm2_576, he2_576, le2_576, rw2_576, ln2_576, sz2_576⟩ := u
  dsimp only at hp_576 hW
  obtain ⟨hans, e_rw, e_ln, e_sz, hr, hd⟩ := mark_step hd hr hp_572 hp_576
  have hWz := hW
  subst e_rw
  have hW := hWz
  have hWz := hW
  subst e_ln
  have hW := hWz
  have hWz := hW
  subst e_sz
  have hW := hWz
  refine z_icmp_eq F (pc := 579) 1014 dL_law_579 (by decide) (by omega) (fun c_579 => ?_) (fun c_579 => ?_)
  · skip
    exact cut_1014 di2_572 xs ys lf ev2_572 nm2_572 lb kd pt so nu al ak ap he2_572 ar2_572 le2_572 cx cr cl ll rw2_576 fn fp tl tm ts tc ev2_576 nm2_576 so9 nu9 al9 ak9 ap9 he2_576 le2_576 tl9 ts9 tc9 en mg sz2_576 mn an ax cn ln2_576 fc ac wc wp _ _ _ (by exact hd) (by exact hmk) (by exact hc) (by exact hr) (by exact he9) (by exact hsh) (lv_sub hl [0, 1, 2, 3] rfl) hW
  · skip
    exact absurd (by omega) c_579
