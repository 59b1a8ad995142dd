set_option maxHeartbeats 8000000 in
set_option maxRecDepth 100000 in
theorem case_19 {p : Program} {l : Launch} {e : Env} {s : State} {m : MethodId} {below : List Frame} {meth : Method} {c : Code} {b L : Nat} {xs0 : Nat → Int32} {Q : State → Prop} {A : Nat → Prop} {D : va_G} {cI cZ : ClassId} {aB aD aM aA aS aC aL aT aR : Nat → Nat} {i : Int} (hF : LFix p s m c b L xs0 A D cI cZ) (g : 0 ≤ i ∧ i + 8 ≤ (L : Int)) (cut_1014 : LAt p l e s m below meth c b Q A D cI cZ aB aD aM aA aS aC aL aT aR i 1014) : LAt p l e s m below meth c b Q A D cI cZ aB aD aM aA aS aC aL aT aR i 737 := by
  obtain ⟨hL, F, hK, hA, hX, hbl, hbA⟩ := hF
  intro di xs ys lf ev nm lb kd pt so nu al ak ap he ar le cx cr cl ll rw fn fp tl tm ts tc ev9 nm9 so9 nu9 al9 ak9 ap9 hh9 le9 tl9 ts9 tc9 en mg sz mn an ax cn ln fc ac wc wp H locs ls hd hmk hc hr he9 hsh hl hW
  have q1 := sv_r xs0 (i + 1)
  have q2 := sv_r xs0 (i + 2)
  have q3 := sv_r xs0 (i + 3)
  have q4 := sv_r xs0 (i + 4)
  have q5 := sv_r xs0 (i + 5)
  have q6 := sv_r xs0 (i + 6)
  have q7 := sv_r xs0 (i + 7)
  have hmm := hmk.1
  have haa := hmk.2.2.2.2.1
  have hac := hmk.2.2.2.2.2.1
  have hd0 := hd.1
  have hc0 := hc.1
  have hr0 := hr.1
  have hw9 := wy_r hd (q := sz) (Int.le_refl _)
  refine z_aloadn F (pc := 737) dL_law_737 rfl (lv_at hl 2 rfl) ?_
  refine z_aloadn F (pc := 738) dL_law_738 rfl (lv_at hl 3 rfl) ?_
  refine z_iloadn F (pc := 739) dL_law_739 rfl (lv_at hl 0 rfl) ?_
  refine z_iconst F (pc := 740) (1) dL_law_740 ?_
  refine z_iadd F (pc := 741) dL_law_741 ?_
  refine z_sld F (pc := 742) hX hbl hbA hW hL (by omega) dL_law_742 ?_
  refine z_callVi F (pc := 743) hK hW hA (As := [.int (iI (sv xs0 (i + 1)))]) (rest := []) (ws' := fun (u : (Int → Int) × (Int → Int) × (Int)) => wB cI cZ aB aD aM aA aS aC aL aT di en mg ++ wD cI cZ aD xs ys lf ev nm sz ++ wM cI cZ aM lb kd pt mn ++ wA cI cZ aA so nu al ak ap an ax ++ wS cI cZ aS he ar le ++ wC cI cZ aC cx cr cl ll cn ++ wL cI cZ aL rw u.1 u.2.1 ln u.2.2 ++ wT cI cZ aT tl tm ts tc ++ wR cI cZ aR xs ys lf ev9 nm9 lb kd pt so9 nu9 al9 ak9 ap9 hh9 le9 rw cx cr cl ll tl9 ts9 tc9 sz mn ac en mg ln cn wc wp) (wr := (wD cI cZ aD xs ys lf ev nm sz ++ wM cI cZ aM lb kd pt mn ++ wA cI cZ aA so nu al ak ap an ax ++ wS cI cZ aS he ar le ++ wT cI cZ aT tl tm ts tc ++ wR cI cZ aR xs ys lf ev9 nm9 lb kd pt so9 nu9 al9 ak9 ap9 hh9 le9 rw cx cr cl ll tl9 ts9 tc9 sz mn ac en mg ln cn wc wp)) (c_X7_parse l D cI cZ aB aD aM aA aS aC aL aT di rw fn fp cx cr cl ll en mg ln fc cn (sv xs0 (i + 1)) _ (by omega) (by exact hc) (by exact hr)) (cwV 1 F.2.2.2.2 gL_law_X7_parse rfl rfl rfl (by decide +kernel) ⟨Nat.le_of_ble_eq_true rfl, Nat.le_of_ble_eq_true rfl⟩) [0, 1, 27, 28, 29, 30, 22, 23, 24, 25, 26] [2, 3, 4, 5, 6, 7, 8, 9, 10, 11, 12, 13, 14, 15, 16, 17, 18, 19, 20, 21, 31, 32, 33, 34, 35, 36, 37, 38, 39, 40, 41, 42, 43, 44, 45, 46, 47, 48, 49, 50, 51, 52, 53, 54, 55, 56, 57, 58, 59] [49, 50, 0, 1, 2, 3, 4, 5, 6, 7, 8, 9, 10, 11, 12, 13, 14, 15, 16, 17, 18, 19, 55, 56, 57, 58, 59, 51, 52, 53, 54, 20, 21, 22, 23, 24, 25, 26, 27, 28, 29, 30, 31, 32, 33, 34, 35, 36, 37, 38, 39, 40, 41, 42, 43, 44, 45, 46, 47, 48] rfl rfl (by decide) (by decide) (by decide) (fun _ => rfl) (by decide) (q0 := 0) (ci := 7) rfl rfl rfl rfl rfl hl.1 (Nat.le_of_ble_eq_true rfl) dL_law_743 ⟨Nat.le_of_ble_eq_true rfl, Nat.le_of_ble_eq_true rfl⟩ (fun z_743 u H locs r_z_743 hp_743 hW => ?_)
  obtain ⟨fn2_743, fp2_743, fc2_743⟩ := u
  dsimp only at hp_743 hW
  refine z_aloadn F (pc := 746) dL_law_746 rfl (lv_at hl 1 rfl) ?_
  refine z_aloadn F (pc := 747) dL_law_747 rfl (lv_at hl 3 rfl) ?_
  refine z_iloadn F (pc := 748) dL_law_748 rfl (lv_at hl 0 rfl) ?_
  refine z_iconst F (pc := 749) (1) dL_law_749 ?_
  refine z_iadd F (pc := 750) dL_law_750 ?_
  refine z_sld F (pc := 751) hX hbl hbA hW hL (by omega) dL_law_751 ?_
  refine z_callVi F (pc := 752) hK hW hA (As := [.int (iI (sv xs0 (i + 1)))]) (rest := [.int (iI z_743)]) (ws' := fun (u : (Int) × (Int)) => wB cI cZ aB aD aM aA aS aC aL aT di en mg ++ wD cI cZ aD xs ys lf ev nm sz ++ wM cI cZ aM lb kd pt mn ++ wA cI cZ aA so nu al ak ap an ax ++ wS cI cZ aS he ar le ++ wC cI cZ aC cx cr cl ll cn ++ wL cI cZ aL rw fn2_743 fp2_743 ln fc2_743 ++ wT cI cZ aT tl tm ts tc ++ wR cI cZ aR xs ys lf ev9 nm9 lb kd pt so9 nu9 al9 ak9 ap9 hh9 le9 rw cx cr cl ll tl9 ts9 tc9 sz mn ac en mg ln cn u.1 u.2) (wr := (wB cI cZ aB aD aM aA aS aC aL aT di en mg ++ wD cI cZ aD xs ys lf ev nm sz ++ wM cI cZ aM lb kd pt mn ++ wA cI cZ aA so nu al ak ap an ax ++ wS cI cZ aS he ar le ++ wC cI cZ aC cx cr cl ll cn ++ wL cI cZ aL rw fn2_743 fp2_743 ln fc2_743 ++ wT cI cZ aT tl tm ts tc)) (c_X8_parse l D cI cZ aR xs ys lf ev9 nm9 lb kd pt so9 nu9 al9 ak9 ap9 hh9 le9 rw cx cr cl ll tl9 ts9 tc9 sz mn ac en mg ln cn wc wp (sv xs0 (i + 1)) _ (by omega) (by exact hc) (by exact hr)) (cwV 1 F.2.2.2.2 gL_law_X8_parse rfl rfl rfl (by decide +kernel) ⟨Nat.le_of_ble_eq_true rfl, Nat.le_of_ble_eq_true rfl⟩) [36, 37, 38, 39, 40, 41, 42, 43, 44, 45, 46, 47, 48, 49, 50, 51, 52, 53, 54, 55, 56, 57, 58, 59] [0, 1, 2, 3, 4, 5, 6, 7, 8, 9, 10, 11, 12, 13, 14, 15, 16, 17, 18, 19, 20, 21, 22, 23, 24, 25, 26, 27, 28, 29, 30, 31, 32, 33, 34, 35] [0, 1, 2, 3, 4, 5, 6, 7, 8, 9, 10, 11, 12, 13, 14, 15, 16, 17, 18, 19, 20, 21, 22, 23, 24, 25, 26, 27, 28, 29, 30, 31, 32, 33, 34, 35, 36, 37, 38, 39, 40, 41, 42, 43, 44, 45, 46, 47, 48, 49, 50, 51, 52, 53, 54, 55, 56, 57, 58, 59] rfl rfl (by decide) (by decide) (by decide) (fun _ => rfl) (by decide) (q0 := 36) (ci := 8) rfl rfl rfl rfl rfl hl.1 (Nat.le_of_ble_eq_true rfl) dL_law_752 ⟨Nat.le_of_ble_eq_true rfl, Nat.le_of_ble_eq_true rfl⟩ (fun z_752 u H locs r_z_752 hp_752 hW => ?_)
  obtain ⟨wc2_752, wp2_752⟩ := u
  dsimp only at hp_752 hW
  have hans := parseR_one hp_743 hp_752
  refine z_icmp_eq F (pc := 755) 1014 dL_law_755 (by decide) (by omega) (fun c_755 => ?_) (fun c_755 => ?_)
  · skip
    exact cut_1014 di xs ys lf ev nm lb kd pt so nu al ak ap he ar le cx cr cl ll rw fn2_743 fp2_743 tl tm ts tc ev9 nm9 so9 nu9 al9 ak9 ap9 hh9 le9 tl9 ts9 tc9 en mg sz mn an ax cn ln fc2_743 ac wc2_752 wp2_752 _ _ _ (by exact hd) (by exact hmk) (by exact hc) (by exact hr) (by exact he9) (by exact hsh) (lv_sub hl [0, 1, 2, 3] rfl) hW
  · skip
    exact absurd (by omega) c_755

set_option maxHeartbeats 8000000 in
set_option maxRecDepth 100000 in
theorem case_20 {p : Program} {l : Launch} {e : Env} {s : State} {m : MethodId} {below : List Frame} {meth : Method} {c : Code} {b L : Nat} {xs0 : Nat → Int32} {Q : State → Prop} {A : Nat → Prop} {D : va_G} {cI cZ : ClassId} {aB aD aM aA aS aC aL aT aR : Nat → Nat} {i : Int} (hF : LFix p s m c b L xs0 A D cI cZ) (g : 0 ≤ i ∧ i + 8 ≤ (L : Int)) (cut_1014 : LAt p l e s m below meth c b Q A D cI cZ aB aD aM aA aS aC aL aT aR i 1014) : LAt p l e s m below meth c b Q A D cI cZ aB aD aM aA aS aC aL aT aR i 760 := by
  obtain ⟨hL, F, hK, hA, hX, hbl, hbA⟩ := hF
  intro di xs ys lf ev nm lb kd pt so nu al ak ap he ar le cx cr cl ll rw fn fp tl tm ts tc ev9 nm9 so9 nu9 al9 ak9 ap9 hh9 le9 tl9 ts9 tc9 en mg sz mn an ax cn ln fc ac wc wp H locs ls hd hmk hc hr he9 hsh hl hW
  have q1 := sv_r xs0 (i + 1)
  have q2 := sv_r xs0 (i + 2)
  have q3 := sv_r xs0 (i + 3)
  have q4 := sv_r xs0 (i + 4)
  have q5 := sv_r xs0 (i + 5)
  have q6 := sv_r xs0 (i + 6)
  have q7 := sv_r xs0 (i + 7)
  have hmm := hmk.1
  have haa := hmk.2.2.2.2.1
  have hac := hmk.2.2.2.2.2.1
  have hd0 := hd.1
  have hc0 := hc.1
  have hr0 := hr.1
  have hw9 := wy_r hd (q := sz) (Int.le_refl _)
  refine z_aloadn F (pc := 760) dL_law_760 rfl (lv_at hl 2 rfl) ?_
  refine z_aloadn F (pc := 761) dL_law_761 rfl (lv_at hl 3 rfl) ?_
  refine z_iloadn F (pc := 762) dL_law_762 rfl (lv_at hl 0 rfl) ?_
  refine z_iconst F (pc := 763) (1) dL_law_763 ?_
  refine z_iadd F (pc := 764) dL_law_764 ?_
  refine z_sld F (pc := 765) hX hbl hbA hW hL (by omega) dL_law_765 ?_
  refine z_aloadn F (pc := 766) dL_law_766 rfl (lv_at hl 3 rfl) ?_
  refine z_iloadn F (pc := 767) dL_law_767 rfl (lv_at hl 0 rfl) ?_
  refine z_iconst F (pc := 768) (2) dL_law_768 ?_
  refine z_iadd F (pc := 769) dL_law_769 ?_
  refine z_sld F (pc := 770) hX hbl hbA hW hL (by omega) dL_law_770 ?_
  refine z_aloadn F (pc := 771) dL_law_771 rfl (lv_at hl 3 rfl) ?_
  refine z_iloadn F (pc := 772) dL_law_772 rfl (lv_at hl 0 rfl) ?_
  refine z_iconst F (pc := 773) (3) dL_law_773 ?_
  refine z_iadd F (pc := 774) dL_law_774 ?_
  refine z_sld F (pc := 775) hX hbl hbA hW hL (by omega) dL_law_775 ?_
  refine z_callVi F (pc := 776) hK hW hA (As := [.int (iI (sv xs0 (i + 1))), .int (iI (sv xs0 (i + 2))), .int (iI (sv xs0 (i + 3)))]) (rest := []) (ws' := fun (u : (Int → Int) × (Int → Int) × (Int)) => wB cI cZ aB aD aM aA aS aC aL aT di en mg ++ wD cI cZ aD xs ys lf ev nm sz ++ wM cI cZ aM lb kd pt mn ++ wA cI cZ aA so nu al ak ap an ax ++ wS cI cZ aS he ar le ++ wC cI cZ aC cx cr cl ll cn ++ wL cI cZ aL rw u.1 u.2.1 ln u.2.2 ++ wT cI cZ aT tl tm ts tc ++ wR cI cZ aR xs ys lf ev9 nm9 lb kd pt so9 nu9 al9 ak9 ap9 hh9 le9 rw cx cr cl ll tl9 ts9 tc9 sz mn ac en mg ln cn wc wp) (wr := (wD cI cZ aD xs ys lf ev nm sz ++ wM cI cZ aM lb kd pt mn ++ wA cI cZ aA so nu al ak ap an ax ++ wS cI cZ aS he ar le ++ wT cI cZ aT tl tm ts tc ++ wR cI cZ aR xs ys lf ev9 nm9 lb kd pt so9 nu9 al9 ak9 ap9 hh9 le9 rw cx cr cl ll tl9 ts9 tc9 sz mn ac en mg ln cn wc wp)) (c_X7_found l D cI cZ aB aD aM aA aS aC aL aT di rw fn fp cx cr cl ll en mg ln fc cn (sv xs0 (i + 1)) (sv xs0 (i + 2)) (sv xs0 (i + 3)) _ (by omega) (by omega) (by omega) (by exact hc) (by exact hr)) (cwV 3 F.2.2.2.2 gL_law_X7_found rfl rfl rfl (by decide +kernel) ⟨Nat.le_of_ble_eq_true rfl, Nat.le_of_ble_eq_true rfl⟩) [0, 1, 27, 28, 29, 30, 22, 23, 24, 25, 26] [2, 3, 4, 5, 6, 7, 8, 9, 10, 11, 12, 13, 14, 15, 16, 17, 18, 19, 20, 21, 31, 32, 33, 34, 35, 36, 37, 38, 39, 40, 41, 42, 43, 44, 45, 46, 47, 48, 49, 50, 51, 52, 53, 54, 55, 56, 57, 58, 59] [49, 50, 0, 1, 2, 3, 4, 5, 6, 7, 8, 9, 10, 11, 12, 13, 14, 15, 16, 17, 18, 19, 55, 56, 57, 58, 59, 51, 52, 53, 54, 20, 21, 22, 23, 24, 25, 26, 27, 28, 29, 30, 31, 32, 33, 34, 35, 36, 37, 38, 39, 40, 41, 42, 43, 44, 45, 46, 47, 48] rfl rfl (by decide) (by decide) (by decide) (fun _ => rfl) (by decide) (q0 := 0) (ci := 7) rfl rfl rfl rfl rfl hl.1 (Nat.le_of_ble_eq_true rfl) dL_law_776 ⟨Nat.le_of_ble_eq_true rfl, Nat.le_of_ble_eq_true rfl⟩ (fun z_776 u H locs r_z_776 hp_776 hW => ?_)
  obtain ⟨fn2_776, fp2_776, fc2_776⟩ := u
  dsimp only at hp_776 hW
  refine z_aloadn F (pc := 779) dL_law_779 rfl (lv_at hl 1 rfl) ?_
  refine z_aloadn F (pc := 780) dL_law_780 rfl (lv_at hl 3 rfl) ?_
  refine z_iloadn F (pc := 781) dL_law_781 rfl (lv_at hl 0 rfl) ?_
  refine z_iconst F (pc := 782) (1) dL_law_782 ?_
  refine z_iadd F (pc := 783) dL_law_783 ?_
  refine z_sld F (pc := 784) hX hbl hbA hW hL (by omega) dL_law_784 ?_
  refine z_aloadn F (pc := 785) dL_law_785 rfl (lv_at hl 3 rfl) ?_
  refine z_iloadn F (pc := 786) dL_law_786 rfl (lv_at hl 0 rfl) ?_
  refine z_iconst F (pc := 787) (2) dL_law_787 ?_
  refine z_iadd F (pc := 788) dL_law_788 ?_
  refine z_sld F (pc := 789) hX hbl hbA hW hL (by omega) dL_law_789 ?_
  refine z_aloadn F (pc := 790) dL_law_790 rfl (lv_at hl 3 rfl) ?_
  refine z_iloadn F (pc := 791) dL_law_791 rfl (lv_at hl 0 rfl) ?_
  refine z_iconst F (pc := 792) (3) dL_law_792 ?_
  refine z_iadd F (pc := 793) dL_law_793 ?_
  refine z_sld F (pc := 794) hX hbl hbA hW hL (by omega) dL_law_794 ?_
  refine z_callVi F (pc := 795) hK hW hA (As := [.int (iI (sv xs0 (i + 1))), .int (iI (sv xs0 (i + 2))), .int (iI (sv xs0 (i + 3)))]) (rest := [.int (iI z_776)]) (ws' := fun (u : (Int) × (Int)) => wB cI cZ aB aD aM aA aS aC aL aT di en mg ++ wD cI cZ aD xs ys lf ev nm sz ++ wM cI cZ aM lb kd pt mn ++ wA cI cZ aA so nu al ak ap an ax ++ wS cI cZ aS he ar le ++ wC cI cZ aC cx cr cl ll cn ++ wL cI cZ aL rw fn2_776 fp2_776 ln fc2_776 ++ wT cI cZ aT tl tm ts tc ++ wR cI cZ aR xs ys lf ev9 nm9 lb kd pt so9 nu9 al9 ak9 ap9 hh9 le9 rw cx cr cl ll tl9 ts9 tc9 sz mn ac en mg ln cn u.1 u.2) (wr := (wB cI cZ aB aD aM aA aS aC aL aT di en mg ++ wD cI cZ aD xs ys lf ev nm sz ++ wM cI cZ aM lb kd pt mn ++ wA cI cZ aA so nu al ak ap an ax ++ wS cI cZ aS he ar le ++ wC cI cZ aC cx cr cl ll cn ++ wL cI cZ aL rw fn2_776 fp2_776 ln fc2_776 ++ wT cI cZ aT tl tm ts tc)) (c_X8_found l D cI cZ aR xs ys lf ev9 nm9 lb kd pt so9 nu9 al9 ak9 ap9 hh9 le9 rw cx cr cl ll tl9 ts9 tc9 sz mn ac en mg ln cn wc wp (sv xs0 (i + 1)) (sv xs0 (i + 2)) (sv xs0 (i + 3)) _ (by omega) (by omega) (by omega) (by exact hc) (by exact hr)) (cwV 3 F.2.2.2.2 gL_law_X8_found rfl rfl rfl (by decide +kernel) ⟨Nat.le_of_ble_eq_true rfl, Nat.le_of_ble_eq_true rfl⟩) [36, 37, 38, 39, 40, 41, 42, 43, 44, 45, 46, 47, 48, 49, 50, 51, 52, 53, 54, 55, 56, 57, 58, 59] [0, 1, 2, 3, 4, 5, 6, 7, 8, 9, 10, 11, 12, 13, 14, 15, 16, 17, 18, 19, 20, 21, 22, 23, 24, 25, 26, 27, 28, 29, 30, 31, 32, 33, 34, 35] [0, 1, 2, 3, 4, 5, 6, 7, 8, 9, 10, 11, 12, 13, 14, 15, 16, 17, 18, 19, 20, 21, 22, 23, 24, 25, 26, 27, 28, 29, 30, 31, 32, 33, 34, 35, 36, 37, 38, 39, 40, 41, 42, 43, 44, 45, 46, 47, 48, 49, 50, 51, 52, 53, 54, 55, 56, 57, 58, 59] rfl rfl (by decide) (by decide) (by decide) (fun _ => rfl) (by decide) (q0 := 36) (ci := 8) rfl rfl rfl rfl rfl hl.1 (Nat.le_of_ble_eq_true rfl) dL_law_795 ⟨Nat.le_of_ble_eq_true rfl, Nat.le_of_ble_eq_true rfl⟩ (fun z_795 u H locs r_z_795 hp_795 hW => ?_)
  obtain ⟨wc2_795, wp2_795⟩ := u
  dsimp only at hp_795 hW
  have hans := foundR_one hp_776 hp_795
  refine z_icmp_eq F (pc := 798) 1014 dL_law_798 (by decide) (by omega) (fun c_798 => ?_) (fun c_798 => ?_)
  · skip
    exact cut_1014 di xs ys lf ev nm lb kd pt so nu al ak ap he ar le cx cr cl ll rw fn2_776 fp2_776 tl tm ts tc ev9 nm9 so9 nu9 al9 ak9 ap9 hh9 le9 tl9 ts9 tc9 en mg sz mn an ax cn ln fc2_776 ac wc2_795 wp2_795 _ _ _ (by exact hd) (by exact hmk) (by exact hc) (by exact hr) (by exact he9) (by exact hsh) (lv_sub hl [0, 1, 2, 3] rfl) hW
  · skip
    exact absurd (by omega) c_798

set_option maxHeartbeats 8000000 in
set_option maxRecDepth 100000 in
theorem case_21 {p : Program} {l : Launch} {e : Env} {s : State} {m : MethodId} {below : List Frame} {meth : Method} {c : Code} {b L : Nat} {xs0 : Nat → Int32} {Q : State → Prop} {A : Nat → Prop} {D : va_G} {cI cZ : ClassId} {aB aD aM aA aS aC aL aT aR : Nat → Nat} {i : Int} (hF : LFix p s m c b L xs0 A D cI cZ) (g : 0 ≤ i ∧ i + 8 ≤ (L : Int)) (cut_1014 : LAt p l e s m below meth c b Q A D cI cZ aB aD aM aA aS aC aL aT aR i 1014) : LAt p l e s m below meth c b Q A D cI cZ aB aD aM aA aS aC aL aT aR i 803 := by
  obtain ⟨hL, F, hK, hA, hX, hbl, hbA⟩ := hF
  intro di xs ys lf ev nm lb kd pt so nu al ak ap he ar le cx cr cl ll rw fn fp tl tm ts tc ev9 nm9 so9 nu9 al9 ak9 ap9 hh9 le9 tl9 ts9 tc9 en mg sz mn an ax cn ln fc ac wc wp H locs ls hd hmk hc hr he9 hsh hl hW
  have q1 := sv_r xs0 (i + 1)
  have q2 := sv_r xs0 (i + 2)
  have q3 := sv_r xs0 (i + 3)
  have q4 := sv_r xs0 (i + 4)
  have q5 := sv_r xs0 (i + 5)
  have q6 := sv_r xs0 (i + 6)
  have q7 := sv_r xs0 (i + 7)
  have hmm := hmk.1
  have haa := hmk.2.2.2.2.1
  have hac := hmk.2.2.2.2.2.1
  have hd0 := hd.1
  have hc0 := hc.1
  have hr0 := hr.1
  have hw9 := wy_r hd (q := sz) (Int.le_refl _)
  refine z_aloadn F (pc := 803) dL_law_803 rfl (lv_at hl 2 rfl) ?_
  refine z_callVi F (pc := 804) hK hW hA (As := []) (rest := []) (ws' := fun (u : Unit) => wB cI cZ aB aD aM aA aS aC aL aT di en mg ++ wD cI cZ aD xs ys lf ev nm sz ++ wM cI cZ aM lb kd pt mn ++ wA cI cZ aA so nu al ak ap an ax ++ wS cI cZ aS he ar le ++ wC cI cZ aC cx cr cl ll cn ++ wL cI cZ aL rw fn fp ln fc ++ wT cI cZ aT tl tm ts tc ++ wR cI cZ aR xs ys lf ev9 nm9 lb kd pt so9 nu9 al9 ak9 ap9 hh9 le9 rw cx cr cl ll tl9 ts9 tc9 sz mn ac en mg ln cn wc wp) (wr := (wD cI cZ aD xs ys lf ev nm sz ++ wM cI cZ aM lb kd pt mn ++ wA cI cZ aA so nu al ak ap an ax ++ wS cI cZ aS he ar le ++ wL cI cZ aL rw fn fp ln fc ++ wT cI cZ aT tl tm ts tc ++ wR cI cZ aR xs ys lf ev9 nm9 lb kd pt so9 nu9 al9 ak9 ap9 hh9 le9 rw cx cr cl ll tl9 ts9 tc9 sz mn ac en mg ln cn wc wp)) (c_X7_hidden l D cI cZ aB aD aM aA aS aC aL aT di cx cr cl ll en mg cn _ (by exact hc)) (cwV 0 F.2.2.2.2 gL_law_X7_hidden rfl rfl rfl (by decide +kernel) ⟨Nat.le_of_ble_eq_true rfl, Nat.le_of_ble_eq_true rfl⟩) [0, 1, 22, 23, 24, 25, 26] [2, 3, 4, 5, 6, 7, 8, 9, 10, 11, 12, 13, 14, 15, 16, 17, 18, 19, 20, 21, 27, 28, 29, 30, 31, 32, 33, 34, 35, 36, 37, 38, 39, 40, 41, 42, 43, 44, 45, 46, 47, 48, 49, 50, 51, 52, 53, 54, 55, 56, 57, 58, 59] [53, 54, 0, 1, 2, 3, 4, 5, 6, 7, 8, 9, 10, 11, 12, 13, 14, 15, 16, 17, 18, 19, 55, 56, 57, 58, 59, 20, 21, 22, 23, 24, 25, 26, 27, 28, 29, 30, 31, 32, 33, 34, 35, 36, 37, 38, 39, 40, 41, 42, 43, 44, 45, 46, 47, 48, 49, 50, 51, 52] rfl rfl (by decide) (by decide) (by decide) (fun _ => rfl) (by decide) (q0 := 0) (ci := 7) rfl rfl rfl rfl rfl hl.1 (Nat.le_of_ble_eq_true rfl) dL_law_804 ⟨Nat.le_of_ble_eq_true rfl, Nat.le_of_ble_eq_true rfl⟩ (fun z_804 u H locs r_z_804 hp_804 hW => ?_)
  refine z_aloadn F (pc := 807) dL_law_807 rfl (lv_at hl 1 rfl) ?_
  refine z_callVi F (pc := 808) hK hW hA (As := []) (rest := [.int (iI z_804)]) (ws' := fun (u : Unit) => wB cI cZ aB aD aM aA aS aC aL aT di en mg ++ wD cI cZ aD xs ys lf ev nm sz ++ wM cI cZ aM lb kd pt mn ++ wA cI cZ aA so nu al ak ap an ax ++ wS cI cZ aS he ar le ++ wC cI cZ aC cx cr cl ll cn ++ wL cI cZ aL rw fn fp ln fc ++ wT cI cZ aT tl tm ts tc ++ wR cI cZ aR xs ys lf ev9 nm9 lb kd pt so9 nu9 al9 ak9 ap9 hh9 le9 rw cx cr cl ll tl9 ts9 tc9 sz mn ac en mg ln cn wc wp) (wr := (wB cI cZ aB aD aM aA aS aC aL aT di en mg ++ wD cI cZ aD xs ys lf ev nm sz ++ wM cI cZ aM lb kd pt mn ++ wA cI cZ aA so nu al ak ap an ax ++ wS cI cZ aS he ar le ++ wC cI cZ aC cx cr cl ll cn ++ wL cI cZ aL rw fn fp ln fc ++ wT cI cZ aT tl tm ts tc)) (c_X8_hidden l D cI cZ aR xs ys lf ev9 nm9 lb kd pt so9 nu9 al9 ak9 ap9 hh9 le9 rw cx cr cl ll tl9 ts9 tc9 sz mn ac en mg ln cn wc wp _ (by exact hc)) (cwV 0 F.2.2.2.2 gL_law_X8_hidden rfl rfl rfl (by decide +kernel) ⟨Nat.le_of_ble_eq_true rfl, Nat.le_of_ble_eq_true rfl⟩) [36, 37, 38, 39, 40, 41, 42, 43, 44, 45, 46, 47, 48, 49, 50, 51, 52, 53, 54, 55, 56, 57, 58, 59] [0, 1, 2, 3, 4, 5, 6, 7, 8, 9, 10, 11, 12, 13, 14, 15, 16, 17, 18, 19, 20, 21, 22, 23, 24, 25, 26, 27, 28, 29, 30, 31, 32, 33, 34, 35] [0, 1, 2, 3, 4, 5, 6, 7, 8, 9, 10, 11, 12, 13, 14, 15, 16, 17, 18, 19, 20, 21, 22, 23, 24, 25, 26, 27, 28, 29, 30, 31, 32, 33, 34, 35, 36, 37, 38, 39, 40, 41, 42, 43, 44, 45, 46, 47, 48, 49, 50, 51, 52, 53, 54, 55, 56, 57, 58, 59] rfl rfl (by decide) (by decide) (by decide) (fun _ => rfl) (by decide) (q0 := 36) (ci := 8) rfl rfl rfl rfl rfl hl.1 (Nat.le_of_ble_eq_true rfl) dL_law_808 ⟨Nat.le_of_ble_eq_true rfl, Nat.le_of_ble_eq_true rfl⟩ (fun z_808 u H locs r_z_808 hp_808 hW => ?_)
  have hans := hidR_one hp_804 hp_808
  refine z_icmp_eq F (pc := 811) 1014 dL_law_811 (by decide) (by omega) (fun c_811 => ?_) (fun c_811 => ?_)
  · skip
    exact cut_1014 di xs ys lf ev nm lb kd pt so nu al ak ap he ar le cx cr cl ll rw fn fp tl tm ts tc ev9 nm9 so9 nu9 al9 ak9 ap9 hh9 le9 tl9 ts9 tc9 en mg sz mn an ax cn ln fc ac wc wp _ _ _ (by exact hd) (by exact hmk) (by exact hc) (by exact hr) (by exact he9) (by exact hsh) (lv_sub hl [0, 1, 2, 3] rfl) hW
  · skip
    exact absurd (by omega) c_811
