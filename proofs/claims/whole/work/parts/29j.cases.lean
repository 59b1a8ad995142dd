set_option maxHeartbeats 8000000 in
set_option maxRecDepth 100000 in
theorem case_22 {p : Program} {l : Launch} {e : Env} {s : State} {m : MethodId} {below : List Frame} {meth : Method} {c : Code} {b L : Nat} {xs0 : Nat → Int32} {Q : State → Prop} {A : Nat → Prop} {D : va_G} {cI cZ : ClassId} {aB aD aM aA aS aC aL aT aR : Nat → Nat} {i : Int} (hF : LFix p s m c b L xs0 A D cI cZ) (g : 0 ≤ i ∧ i + 8 ≤ (L : Int)) (cut_1014 : LAt p l e s m below meth c b Q A D cI cZ aB aD aM aA aS aC aL aT aR i 1014) : LAt p l e s m below meth c b Q A D cI cZ aB aD aM aA aS aC aL aT aR i 816 := by
  obtain ⟨hL, F, hK, hA, hX, hbl, hbA⟩ := hF
  intro di xs ys lf ev nm lb kd pt so nu al ak ap he ar le cx cr cl ll rw fn fp tl tm ts tc ev9 nm9 so9 nu9 al9 ak9 ap9 hh9 le9 tl9 ts9 tc9 en mg sz mn an ax cn ln fc ac wc wp H locs ls hd hmk hc hr he9 hsh hl hW
  have q1 := sv_r xs0 (i + 1)
  have q2 := sv_r xs0 (i + 2)
  have q3 := sv_r xs0 (i + 3)
  have q4 := sv_r xs0 (i + 4)
  have q5 := sv_r xs0 (i + 5)
  have q6 := sv_r xs0 (i + 6)
  have q7 := sv_r xs0 (i + 7)
  have hmm := hmk.1
  have haa := hmk.2.2.2.2.1
  have hac := hmk.2.2.2.2.2.1
  have hd0 := hd.1
  have hc0 := hc.1
  have hr0 := hr.1
  have hw9 := wy_r hd (q := sz) (Int.le_refl _)
  refine z_aloadn F (pc := 816) dL_law_816 rfl (lv_at hl 2 rfl) ?_
  refine z_aloadn F (pc := 817) dL_law_817 rfl (lv_at hl 3 rfl) ?_
  refine z_iloadn F (pc := 818) dL_law_818 rfl (lv_at hl 0 rfl) ?_
  refine z_iconst F (pc := 819) (1) dL_law_819 ?_
  refine z_iadd F (pc := 820) dL_law_820 ?_
  refine z_sld F (pc := 821) hX hbl hbA hW hL (by omega) dL_law_821 ?_
  refine z_callVi F (pc := 822) hK hW hA (As := [.int (iI (sv xs0 (i + 1)))]) (rest := []) (ws' := fun (u : Unit) => wB cI cZ aB aD aM aA aS aC aL aT di en mg ++ wD cI cZ aD xs ys lf ev nm sz ++ wM cI cZ aM lb kd pt mn ++ wA cI cZ aA so nu al ak ap an ax ++ wS cI cZ aS he ar le ++ wC cI cZ aC cx cr cl ll cn ++ wL cI cZ aL rw fn fp ln fc ++ wT cI cZ aT tl tm ts tc ++ wR cI cZ aR xs ys lf ev9 nm9 lb kd pt so9 nu9 al9 ak9 ap9 hh9 le9 rw cx cr cl ll tl9 ts9 tc9 sz mn ac en mg ln cn wc wp) (wr := (wD cI cZ aD xs ys lf ev nm sz ++ wM cI cZ aM lb kd pt mn ++ wA cI cZ aA so nu al ak ap an ax ++ wS cI cZ aS he ar le ++ wC cI cZ aC cx cr cl ll cn ++ wT cI cZ aT tl tm ts tc ++ wR cI cZ aR xs ys lf ev9 nm9 lb kd pt so9 nu9 al9 ak9 ap9 hh9 le9 rw cx cr cl ll tl9 ts9 tc9 sz mn ac en mg ln cn wc wp)) (c_X7_line l D cI cZ aB aD aM aA aS aC aL aT di rw fn fp en mg ln fc (sv xs0 (i + 1)) _ (by omega) (by exact hr)) (cwV 1 F.2.2.2.2 gL_law_X7_line rfl rfl rfl (by decide +kernel) ⟨Nat.le_of_ble_eq_true rfl, Nat.le_of_ble_eq_true rfl⟩) [0, 1, 27, 28, 29, 30] [2, 3, 4, 5, 6, 7, 8, 9, 10, 11, 12, 13, 14, 15, 16, 17, 18, 19, 20, 21, 22, 23, 24, 25, 26, 31, 32, 33, 34, 35, 36, 37, 38, 39, 40, 41, 42, 43, 44, 45, 46, 47, 48, 49, 50, 51, 52, 53, 54, 55, 56, 57, 58, 59] [54, 55, 0, 1, 2, 3, 4, 5, 6, 7, 8, 9, 10, 11, 12, 13, 14, 15, 16, 17, 18, 19, 20, 21, 22, 23, 24, 56, 57, 58, 59, 25, 26, 27, 28, 29, 30, 31, 32, 33, 34, 35, 36, 37, 38, 39, 40, 41, 42, 43, 44, 45, 46, 47, 48, 49, 50, 51, 52, 53] rfl rfl (by decide) (by decide) (by decide) (fun _ => rfl) (by decide) (q0 := 0) (ci := 7) rfl rfl rfl rfl rfl hl.1 (Nat.le_of_ble_eq_true rfl) dL_law_822 ⟨Nat.le_of_ble_eq_true rfl, Nat.le_of_ble_eq_true rfl⟩ (fun z_822 u H locs r_z_822 hp_822 hW => ?_)
  refine z_aloadn F (pc := 825) dL_law_825 rfl (lv_at hl 1 rfl) ?_
  refine z_aloadn F (pc := 826) dL_law_826 rfl (lv_at hl 3 rfl) ?_
  refine z_iloadn F (pc := 827) dL_law_827 rfl (lv_at hl 0 rfl) ?_
  refine z_iconst F (pc := 828) (1) dL_law_828 ?_
  refine z_iadd F (pc := 829) dL_law_829 ?_
  refine z_sld F (pc := 830) hX hbl hbA hW hL (by omega) dL_law_830 ?_
  refine z_callVi F (pc := 831) hK hW hA (As := [.int (iI (sv xs0 (i + 1)))]) (rest := [.int (iI z_822)]) (ws' := fun (u : Unit) => wB cI cZ aB aD aM aA aS aC aL aT di en mg ++ wD cI cZ aD xs ys lf ev nm sz ++ wM cI cZ aM lb kd pt mn ++ wA cI cZ aA so nu al ak ap an ax ++ wS cI cZ aS he ar le ++ wC cI cZ aC cx cr cl ll cn ++ wL cI cZ aL rw fn fp ln fc ++ wT cI cZ aT tl tm ts tc ++ wR cI cZ aR xs ys lf ev9 nm9 lb kd pt so9 nu9 al9 ak9 ap9 hh9 le9 rw cx cr cl ll tl9 ts9 tc9 sz mn ac en mg ln cn wc wp) (wr := (wB cI cZ aB aD aM aA aS aC aL aT di en mg ++ wD cI cZ aD xs ys lf ev nm sz ++ wM cI cZ aM lb kd pt mn ++ wA cI cZ aA so nu al ak ap an ax ++ wS cI cZ aS he ar le ++ wC cI cZ aC cx cr cl ll cn ++ wL cI cZ aL rw fn fp ln fc ++ wT cI cZ aT tl tm ts tc)) (c_X8_line l D cI cZ aR xs ys lf ev9 nm9 lb kd pt so9 nu9 al9 ak9 ap9 hh9 le9 rw cx cr cl ll tl9 ts9 tc9 sz mn ac en mg ln cn wc wp (sv xs0 (i + 1)) _ (by omega) (by exact hr)) (cwV 1 F.2.2.2.2 gL_law_X8_line rfl rfl rfl (by decide +kernel) ⟨Nat.le_of_ble_eq_true rfl, Nat.le_of_ble_eq_true rfl⟩) [36, 37, 38, 39, 40, 41, 42, 43, 44, 45, 46, 47, 48, 49, 50, 51, 52, 53, 54, 55, 56, 57, 58, 59] [0, 1, 2, 3, 4, 5, 6, 7, 8, 9, 10, 11, 12, 13, 14, 15, 16, 17, 18, 19, 20, 21, 22, 23, 24, 25, 26, 27, 28, 29, 30, 31, 32, 33, 34, 35] [0, 1, 2, 3, 4, 5, 6, 7, 8, 9, 10, 11, 12, 13, 14, 15, 16, 17, 18, 19, 20, 21, 22, 23, 24, 25, 26, 27, 28, 29, 30, 31, 32, 33, 34, 35, 36, 37, 38, 39, 40, 41, 42, 43, 44, 45, 46, 47, 48, 49, 50, 51, 52, 53, 54, 55, 56, 57, 58, 59] rfl rfl (by decide) (by decide) (by decide) (fun _ => rfl) (by decide) (q0 := 36) (ci := 8) rfl rfl rfl rfl rfl hl.1 (Nat.le_of_ble_eq_true rfl) dL_law_831 ⟨Nat.le_of_ble_eq_true rfl, Nat.le_of_ble_eq_true rfl⟩ (fun z_831 u H locs r_z_831 hp_831 hW => ?_)
  have hans := lineR_one hp_822 hp_831
  refine z_icmp_eq F (pc := 834) 1014 dL_law_834 (by decide) (by omega) (fun c_834 => ?_) (fun c_834 => ?_)
  · skip
    exact cut_1014 di xs ys lf ev nm lb kd pt so nu al ak ap he ar le cx cr cl ll rw fn fp tl tm ts tc ev9 nm9 so9 nu9 al9 ak9 ap9 hh9 le9 tl9 ts9 tc9 en mg sz mn an ax cn ln fc ac wc wp _ _ _ (by exact hd) (by exact hmk) (by exact hc) (by exact hr) (by exact he9) (by exact hsh) (lv_sub hl [0, 1, 2, 3] rfl) hW
  · skip
    exact absurd (by omega) c_834

set_option maxHeartbeats 8000000 in
set_option maxRecDepth 100000 in
theorem case_23 {p : Program} {l : Launch} {e : Env} {s : State} {m : MethodId} {below : List Frame} {meth : Method} {c : Code} {b L : Nat} {xs0 : Nat → Int32} {Q : State → Prop} {A : Nat → Prop} {D : va_G} {cI cZ : ClassId} {aB aD aM aA aS aC aL aT aR : Nat → Nat} {i : Int} (hF : LFix p s m c b L xs0 A D cI cZ) (g : 0 ≤ i ∧ i + 8 ≤ (L : Int)) (cut_1014 : LAt p l e s m below meth c b Q A D cI cZ aB aD aM aA aS aC aL aT aR i 1014) : LAt p l e s m below meth c b Q A D cI cZ aB aD aM aA aS aC aL aT aR i 839 := by
  obtain ⟨hL, F, hK, hA, hX, hbl, hbA⟩ := hF
  intro di xs ys lf ev nm lb kd pt so nu al ak ap he ar le cx cr cl ll rw fn fp tl tm ts tc ev9 nm9 so9 nu9 al9 ak9 ap9 hh9 le9 tl9 ts9 tc9 en mg sz mn an ax cn ln fc ac wc wp H locs ls hd hmk hc hr he9 hsh hl hW
  have q1 := sv_r xs0 (i + 1)
  have q2 := sv_r xs0 (i + 2)
  have q3 := sv_r xs0 (i + 3)
  have q4 := sv_r xs0 (i + 4)
  have q5 := sv_r xs0 (i + 5)
  have q6 := sv_r xs0 (i + 6)
  have q7 := sv_r xs0 (i + 7)
  have hmm := hmk.1
  have haa := hmk.2.2.2.2.1
  have hac := hmk.2.2.2.2.2.1
  have hd0 := hd.1
  have hc0 := hc.1
  have hr0 := hr.1
  have hw9 := wy_r hd (q := sz) (Int.le_refl _)
  refine z_aloadn F (pc := 839) dL_law_839 rfl (lv_at hl 2 rfl) ?_
  refine z_callVi F (pc := 840) hK hW hA (As := []) (rest := []) (ws' := fun (u : (Int)) => wB cI cZ aB aD aM aA aS aC aL aT di en mg ++ wD cI cZ aD xs ys lf ev nm sz ++ wM cI cZ aM lb kd pt mn ++ wA cI cZ aA so nu al ak ap an ax ++ wS cI cZ aS he ar le ++ wC cI cZ aC cx cr cl ll cn ++ wL cI cZ aL rw fn fp u fc ++ wT cI cZ aT tl tm ts tc ++ wR cI cZ aR xs ys lf ev9 nm9 lb kd pt so9 nu9 al9 ak9 ap9 hh9 le9 rw cx cr cl ll tl9 ts9 tc9 sz mn ac en mg ln cn wc wp) (wr := (wD cI cZ aD xs ys lf ev nm sz ++ wM cI cZ aM lb kd pt mn ++ wA cI cZ aA so nu al ak ap an ax ++ wS cI cZ aS he ar le ++ wC cI cZ aC cx cr cl ll cn ++ wT cI cZ aT tl tm ts tc ++ wR cI cZ aR xs ys lf ev9 nm9 lb kd pt so9 nu9 al9 ak9 ap9 hh9 le9 rw cx cr cl ll tl9 ts9 tc9 sz mn ac en mg ln cn wc wp)) (c_X7_wipe l D cI cZ aB aD aM aA aS aC aL aT di rw fn fp en mg ln fc _ (by omega)) (cwV 0 F.2.2.2.2 gL_law_X7_wipe rfl rfl rfl (by decide +kernel) ⟨Nat.le_of_ble_eq_true rfl, Nat.le_of_ble_eq_true rfl⟩) [0, 1, 27, 28, 29, 30] [2, 3, 4, 5, 6, 7, 8, 9, 10, 11, 12, 13, 14, 15, 16, 17, 18, 19, 20, 21, 22, 23, 24, 25, 26, 31, 32, 33, 34, 35, 36, 37, 38, 39, 40, 41, 42, 43, 44, 45, 46, 47, 48, 49, 50, 51, 52, 53, 54, 55, 56, 57, 58, 59] [54, 55, 0, 1, 2, 3, 4, 5, 6, 7, 8, 9, 10, 11, 12, 13, 14, 15, 16, 17, 18, 19, 20, 21, 22, 23, 24, 56, 57, 58, 59, 25, 26, 27, 28, 29, 30, 31, 32, 33, 34, 35, 36, 37, 38, 39, 40, 41, 42, 43, 44, 45, 46, 47, 48, 49, 50, 51, 52, 53] rfl rfl (by decide) (by decide) (by decide) (fun _ => rfl) (by decide) (q0 := 0) (ci := 7) rfl rfl rfl rfl rfl hl.1 (Nat.le_of_ble_eq_true rfl) dL_law_840 ⟨Nat.le_of_ble_eq_true rfl, Nat.le_of_ble_eq_true rfl⟩ (fun z_840 u H locs r_z_840 hp_840 hW => ?_)
  obtain ⟨ln2_840, rfl⟩ : ∃ v, v = u := ⟨_, rfl⟩
  obtain ⟨e_z_840, hp_840⟩ := hp_840
  replace e_z_840 := e_z_840.symm
  subst e_z_840
  refine z_aloadn F (pc := 843) dL_law_843 rfl (lv_at hl 1 rfl) ?_
  refine z_callVi F (pc := 844) hK hW hA (As := []) (rest := [.int (iI ln)]) (ws' := fun (u : (Int)) => wB cI cZ aB aD aM aA aS aC aL aT di en mg ++ wD cI cZ aD xs ys lf ev nm sz ++ wM cI cZ aM lb kd pt mn ++ wA cI cZ aA so nu al ak ap an ax ++ wS cI cZ aS he ar le ++ wC cI cZ aC cx cr cl ll cn ++ wL cI cZ aL rw fn fp ln2_840 fc ++ wT cI cZ aT tl tm ts tc ++ wR cI cZ aR xs ys lf ev9 nm9 lb kd pt so9 nu9 al9 ak9 ap9 hh9 le9 rw cx cr cl ll tl9 ts9 tc9 sz mn ac en mg u cn wc wp) (wr := (wB cI cZ aB aD aM aA aS aC aL aT di en mg ++ wD cI cZ aD xs ys lf ev nm sz ++ wM cI cZ aM lb kd pt mn ++ wA cI cZ aA so nu al ak ap an ax ++ wS cI cZ aS he ar le ++ wC cI cZ aC cx cr cl ll cn ++ wL cI cZ aL rw fn fp ln2_840 fc ++ wT cI cZ aT tl tm ts tc)) (c_X8_wipe l D cI cZ aR xs ys lf ev9 nm9 lb kd pt so9 nu9 al9 ak9 ap9 hh9 le9 rw cx cr cl ll tl9 ts9 tc9 sz mn ac en mg ln cn wc wp _ (by omega)) (cwV 0 F.2.2.2.2 gL_law_X8_wipe rfl rfl rfl (by decide +kernel) ⟨Nat.le_of_ble_eq_true rfl, Nat.le_of_ble_eq_true rfl⟩) [36, 37, 38, 39, 40, 41, 42, 43, 44, 45, 46, 47, 48, 49, 50, 51, 52, 53, 54, 55, 56, 57, 58, 59] [0, 1, 2, 3, 4, 5, 6, 7, 8, 9, 10, 11, 12, 13, 14, 15, 16, 17, 18, 19, 20, 21, 22, 23, 24, 25, 26, 27, 28, 29, 30, 31, 32, 33, 34, 35] [0, 1, 2, 3, 4, 5, 6, 7, 8, 9, 10, 11, 12, 13, 14, 15, 16, 17, 18, 19, 20, 21, 22, 23, 24, 25, 26, 27, 28, 29, 30, 31, 32, 33, 34, 35, 36, 37, 38, 39, 40, 41, 42, 43, 44, 45, 46, 47, 48, 49, 50, 51, 52, 53, 54, 55, 56, 57, 58, 59] rfl rfl (by decide) (by decide) (by decide) (fun _ => rfl) (by decide) (q0 := 36) (ci := 8) rfl rfl rfl rfl rfl hl.1 (Nat.le_of_ble_eq_true rfl) dL_law_844 ⟨Nat.le_of_ble_eq_true rfl, Nat.le_of_ble_eq_true rfl⟩ (fun z_844 u H locs r_z_844 hp_844 hW => ?_)
  obtain ⟨ln2_844, rfl⟩ : ∃ v, v = u := ⟨_, rfl⟩
  obtain ⟨e_z_844, hp_844⟩ := hp_844
  replace e_z_844 := e_z_844.symm
  subst e_z_844
  have hs0 : ln2_840 = 0 := hp_840
  have hs1 : ln2_844 = 0 := hp_844
  have e_q : ln2_844 = ln2_840 := hs1.trans hs0.symm
  have hWz := hW
  subst e_q
  have hW := hWz
  have hr : Rok rw ln2_844 := by rw [hs1]; exact Rok_0 rw
  refine z_icmp_eq F (pc := 847) 1014 dL_law_847 (by decide) (by omega) (fun c_847 => ?_) (fun c_847 => ?_)
  · skip
    exact cut_1014 di xs ys lf ev nm lb kd pt so nu al ak ap he ar le cx cr cl ll rw fn fp tl tm ts tc ev9 nm9 so9 nu9 al9 ak9 ap9 hh9 le9 tl9 ts9 tc9 en mg sz mn an ax cn ln2_844 fc ac wc wp _ _ _ (by exact hd) (by exact hmk) (by exact hc) (by exact hr) (by exact he9) (by exact hsh) (lv_sub hl [0, 1, 2, 3] rfl) hW
  · skip
    exact absurd (by omega) c_847

set_option maxHeartbeats 8000000 in
set_option maxRecDepth 100000 in
theorem case_24 {p : Program} {l : Launch} {e : Env} {s : State} {m : MethodId} {below : List Frame} {meth : Method} {c : Code} {b L : Nat} {xs0 : Nat → Int32} {Q : State → Prop} {A : Nat → Prop} {D : va_G} {cI cZ : ClassId} {aB aD aM aA aS aC aL aT aR : Nat → Nat} {i : Int} (hF : LFix p s m c b L xs0 A D cI cZ) (g : 0 ≤ i ∧ i + 8 ≤ (L : Int)) (cut_1014 : LAt p l e s m below meth c b Q A D cI cZ aB aD aM aA aS aC aL aT aR i 1014) : LAt p l e s m below meth c b Q A D cI cZ aB aD aM aA aS aC aL aT aR i 852 := by
  obtain ⟨hL, F, hK, hA, hX, hbl, hbA⟩ := hF
  intro di xs ys lf ev nm lb kd pt so nu al ak ap he ar le cx cr cl ll rw fn fp tl tm ts tc ev9 nm9 so9 nu9 al9 ak9 ap9 hh9 le9 tl9 ts9 tc9 en mg sz mn an ax cn ln fc ac wc wp H locs ls hd hmk hc hr he9 hsh hl hW
  have q1 := sv_r xs0 (i + 1)
  have q2 := sv_r xs0 (i + 2)
  have q3 := sv_r xs0 (i + 3)
  have q4 := sv_r xs0 (i + 4)
  have q5 := sv_r xs0 (i + 5)
  have q6 := sv_r xs0 (i + 6)
  have q7 := sv_r xs0 (i + 7)
  have hmm := hmk.1
  have haa := hmk.2.2.2.2.1
  have hac := hmk.2.2.2.2.2.1
  have hd0 := hd.1
  have hc0 := hc.1
  have hr0 := hr.1
  have hw9 := wy_r hd (q := sz) (Int.le_refl _)
  refine z_aloadn F (pc := 852) dL_law_852 rfl (lv_at hl 2 rfl) ?_
  refine z_aloadn F (pc := 853) dL_law_853 rfl (lv_at hl 3 rfl) ?_
  refine z_iloadn F (pc := 854) dL_law_854 rfl (lv_at hl 0 rfl) ?_
  refine z_iconst F (pc := 855) (1) dL_law_855 ?_
  refine z_iadd F (pc := 856) dL_law_856 ?_
  refine z_sld F (pc := 857) hX hbl hbA hW hL (by omega) dL_law_857 ?_
  refine z_aloadn F (pc := 858) dL_law_858 rfl (lv_at hl 3 rfl) ?_
  refine z_iloadn F (pc := 859) dL_law_859 rfl (lv_at hl 0 rfl) ?_
  refine z_iconst F (pc := 860) (2) dL_law_860 ?_
  refine z_iadd F (pc := 861) dL_law_861 ?_
  refine z_sld F (pc := 862) hX hbl hbA hW hL (by omega) dL_law_862 ?_
  refine z_aloadn F (pc := 863) dL_law_863 rfl (lv_at hl 3 rfl) ?_
  refine z_iloadn F (pc := 864) dL_law_864 rfl (lv_at hl 0 rfl) ?_
  refine z_iconst F (pc := 865) (3) dL_law_865 ?_
  refine z_iadd F (pc := 866) dL_law_866 ?_
  refine z_sld F (pc := 867) hX hbl hbA hW hL (by omega) dL_law_867 ?_
  refine z_callVi F (pc := 868) hK hW hA (As := [.int (iI (sv xs0 (i + 1))), .int (iI (sv xs0 (i + 2))), .int (iI (sv xs0 (i + 3)))]) (rest := []) (ws' := fun (u : (Int → Int) × (Int → Int) × (Int → Int) × (Int → Int)) => wB cI cZ aB aD aM aA aS aC aL aT di en mg ++ wD cI cZ aD xs ys lf ev nm sz ++ wM cI cZ aM lb kd pt mn ++ wA cI cZ aA so nu al ak ap an ax ++ wS cI cZ aS he ar le ++ wC cI cZ aC cx cr cl ll cn ++ wL cI cZ aL rw fn fp ln fc ++ wT cI cZ aT u.1 u.2.1 u.2.2.1 u.2.2.2 ++ wR cI cZ aR xs ys lf ev9 nm9 lb kd pt so9 nu9 al9 ak9 ap9 hh9 le9 rw cx cr cl ll tl9 ts9 tc9 sz mn ac en mg ln cn wc wp) (wr := (wD cI cZ aD xs ys lf ev nm sz ++ wM cI cZ aM lb kd pt mn ++ wA cI cZ aA so nu al ak ap an ax ++ wS cI cZ aS he ar le ++ wC cI cZ aC cx cr cl ll cn ++ wL cI cZ aL rw fn fp ln fc ++ wR cI cZ aR xs ys lf ev9 nm9 lb kd pt so9 nu9 al9 ak9 ap9 hh9 le9 rw cx cr cl ll tl9 ts9 tc9 sz mn ac en mg ln cn wc wp)) (c_X7_sheet l D cI cZ aB aD aM aA aS aC aL aT di tl tm ts tc en mg (sv xs0 (i + 1)) (sv xs0 (i + 2)) (sv xs0 (i + 3)) _ (by omega) (by omega) (by omega)) (cwV 3 F.2.2.2.2 gL_law_X7_sheet rfl rfl rfl (by decide +kernel) ⟨Nat.le_of_ble_eq_true rfl, Nat.le_of_ble_eq_true rfl⟩) [0, 1, 31, 32, 33, 34, 35] [2, 3, 4, 5, 6, 7, 8, 9, 10, 11, 12, 13, 14, 15, 16, 17, 18, 19, 20, 21, 22, 23, 24, 25, 26, 27, 28, 29, 30, 36, 37, 38, 39, 40, 41, 42, 43, 44, 45, 46, 47, 48, 49, 50, 51, 52, 53, 54, 55, 56, 57, 58, 59] [53, 54, 0, 1, 2, 3, 4, 5, 6, 7, 8, 9, 10, 11, 12, 13, 14, 15, 16, 17, 18, 19, 20, 21, 22, 23, 24, 25, 26, 27, 28, 55, 56, 57, 58, 59, 29, 30, 31, 32, 33, 34, 35, 36, 37, 38, 39, 40, 41, 42, 43, 44, 45, 46, 47, 48, 49, 50, 51, 52] rfl rfl (by decide) (by decide) (by decide) (fun _ => rfl) (by decide) (q0 := 0) (ci := 7) rfl rfl rfl rfl rfl hl.1 (Nat.le_of_ble_eq_true rfl) dL_law_868 ⟨Nat.le_of_ble_eq_true rfl, Nat.le_of_ble_eq_true rfl⟩ (fun z_868 u H locs r_z_868 hp_868 hW => ?_)
  obtain ⟨tl2_868, tm2_868, ts2_868, tc2_868⟩ := u
  dsimp only at hp_868 hW
  refine z_aloadn F (pc := 871) dL_law_871 rfl (lv_at hl 1 rfl) ?_
  refine z_aloadn F (pc := 872) dL_law_872 rfl (lv_at hl 3 rfl) ?_
  refine z_iloadn F (pc := 873) dL_law_873 rfl (lv_at hl 0 rfl) ?_
  refine z_iconst F (pc := 874) (1) dL_law_874 ?_
  refine z_iadd F (pc := 875) dL_law_875 ?_
  refine z_sld F (pc := 876) hX hbl hbA hW hL (by omega) dL_law_876 ?_
  refine z_aloadn F (pc := 877) dL_law_877 rfl (lv_at hl 3 rfl) ?_
  refine z_iloadn F (pc := 878) dL_law_878 rfl (lv_at hl 0 rfl) ?_
  refine z_iconst F (pc := 879) (2) dL_law_879 ?_
  refine z_iadd F (pc := 880) dL_law_880 ?_
  refine z_sld F (pc := 881) hX hbl hbA hW hL (by omega) dL_law_881 ?_
  refine z_aloadn F (pc := 882) dL_law_882 rfl (lv_at hl 3 rfl) ?_
  refine z_iloadn F (pc := 883) dL_law_883 rfl (lv_at hl 0 rfl) ?_
  refine z_iconst F (pc := 884) (3) dL_law_884 ?_
  refine z_iadd F (pc := 885) dL_law_885 ?_
  refine z_sld F (pc := 886) hX hbl hbA hW hL (by omega) dL_law_886 ?_
  refine z_callVi F (pc := 887) hK hW hA (As := [.int (iI (sv xs0 (i + 1))), .int (iI (sv xs0 (i + 2))), .int (iI (sv xs0 (i + 3)))]) (rest := [.int (iI z_868)]) (ws' := fun (u : (Int → Int) × (Int → Int) × (Int → Int)) => wB cI cZ aB aD aM aA aS aC aL aT di en mg ++ wD cI cZ aD xs ys lf ev nm sz ++ wM cI cZ aM lb kd pt mn ++ wA cI cZ aA so nu al ak ap an ax ++ wS cI cZ aS he ar le ++ wC cI cZ aC cx cr cl ll cn ++ wL cI cZ aL rw fn fp ln fc ++ wT cI cZ aT tl2_868 tm2_868 ts2_868 tc2_868 ++ wR cI cZ aR xs ys lf ev9 nm9 lb kd pt so9 nu9 al9 ak9 ap9 hh9 le9 rw cx cr cl ll u.1 u.2.1 u.2.2 sz mn ac en mg ln cn wc wp) (wr := (wB cI cZ aB aD aM aA aS aC aL aT di en mg ++ wD cI cZ aD xs ys lf ev nm sz ++ wM cI cZ aM lb kd pt mn ++ wA cI cZ aA so nu al ak ap an ax ++ wS cI cZ aS he ar le ++ wC cI cZ aC cx cr cl ll cn ++ wL cI cZ aL rw fn fp ln fc ++ wT cI cZ aT tl2_868 tm2_868 ts2_868 tc2_868)) (c_X8_sheet l D cI cZ aR xs ys lf ev9 nm9 lb kd pt so9 nu9 al9 ak9 ap9 hh9 le9 rw cx cr cl ll tl9 ts9 tc9 sz mn ac en mg ln cn wc wp (sv xs0 (i + 1)) (sv xs0 (i + 2)) (sv xs0 (i + 3)) _ (by omega) (by omega) (by omega)) (cwV 3 F.2.2.2.2 gL_law_X8_sheet rfl rfl rfl (by decide +kernel) ⟨Nat.le_of_ble_eq_true rfl, Nat.le_of_ble_eq_true rfl⟩) [36, 37, 38, 39, 40, 41, 42, 43, 44, 45, 46, 47, 48, 49, 50, 51, 52, 53, 54, 55, 56, 57, 58, 59] [0, 1, 2, 3, 4, 5, 6, 7, 8, 9, 10, 11, 12, 13, 14, 15, 16, 17, 18, 19, 20, 21, 22, 23, 24, 25, 26, 27, 28, 29, 30, 31, 32, 33, 34, 35] [0, 1, 2, 3, 4, 5, 6, 7, 8, 9, 10, 11, 12, 13, 14, 15, 16, 17, 18, 19, 20, 21, 22, 23, 24, 25, 26, 27, 28, 29, 30, 31, 32, 33, 34, 35, 36, 37, 38, 39, 40, 41, 42, 43, 44, 45, 46, 47, 48, 49, 50, 51, 52, 53, 54, 55, 56, 57, 58, 59] rfl rfl (by decide) (by decide) (by decide) (fun _ => rfl) (by decide) (q0 := 36) (ci := 8) rfl rfl rfl rfl rfl hl.1 (Nat.le_of_ble_eq_true rfl) dL_law_887 ⟨Nat.le_of_ble_eq_true rfl, Nat.le_of_ble_eq_true rfl⟩ (fun z_887 u H locs r_z_887 hp_887 hW => ?_)
  obtain ⟨tl2_887, ts2_887, tc2_887⟩ := u
  dsimp only at hp_887 hW
  obtain ⟨hans, hsh⟩ := sheet_step hsh hp_868 hp_887
  refine z_icmp_eq F (pc := 890) 1014 dL_law_890 (by decide) (by omega) (fun c_890 => ?_) (fun c_890 => ?_)
  · skip
    exact cut_1014 di xs ys lf ev nm lb kd pt so nu al ak ap he ar le cx cr cl ll rw fn fp tl2_868 tm2_868 ts2_868 tc2_868 ev9 nm9 so9 nu9 al9 ak9 ap9 hh9 le9 tl2_887 ts2_887 tc2_887 en mg sz mn an ax cn ln fc ac wc wp _ _ _ (by exact hd) (by exact hmk) (by exact hc) (by exact hr) (by exact he9) (by exact hsh) (lv_sub hl [0, 1, 2, 3] rfl) hW
  · skip
    exact absurd (by omega) c_890
