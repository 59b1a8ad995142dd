set_option maxHeartbeats 8000000 in
set_option maxRecDepth 100000 in
theorem case_25 {p : Program} {l : Launch} {e : Env} {s : State} {m : MethodId} {below : List Frame} {meth : Method} {c : Code} {b L : Nat} {xs0 : Nat → Int32} {Q : State → Prop} {A : Nat → Prop} {D : va_G} {cI cZ : ClassId} {aB aD aM aA aS aC aL aT aR : Nat → Nat} {i : Int} (hF : LFix p s m c b L xs0 A D cI cZ) (g : 0 ≤ i ∧ i + 8 ≤ (L : Int)) (cut_1014 : LAt p l e s m below meth c b Q A D cI cZ aB aD aM aA aS aC aL aT aR i 1014) : LAt p l e s m below meth c b Q A D cI cZ aB aD aM aA aS aC aL aT aR i 895 := by
  obtain ⟨hL, F, hK, hA, hX, hbl, hbA⟩ := hF
  intro di xs ys lf ev nm lb kd pt so nu al ak ap he ar le cx cr cl ll rw fn fp tl tm ts tc ev9 nm9 so9 nu9 al9 ak9 ap9 hh9 le9 tl9 ts9 tc9 en mg sz mn an ax cn ln fc ac wc wp H locs ls hd hmk hc hr he9 hsh hl hW
  have q1 := sv_r xs0 (i + 1)
  have q2 := sv_r xs0 (i + 2)
  have q3 := sv_r xs0 (i + 3)
  have q4 := sv_r xs0 (i + 4)
  have q5 := sv_r xs0 (i + 5)
  have q6 := sv_r xs0 (i + 6)
  have q7 := sv_r xs0 (i + 7)
  have hmm := hmk.1
  have haa := hmk.2.2.2.2.1
  have hac := hmk.2.2.2.2.2.1
  have hd0 := hd.1
  have hc0 := hc.1
  have hr0 := hr.1
  have hw9 := wy_r hd (q := sz) (Int.le_refl _)
  refine z_aloadn F (pc := 895) dL_law_895 rfl (lv_at hl 2 rfl) ?_
  refine z_aloadn F (pc := 896) dL_law_896 rfl (lv_at hl 3 rfl) ?_
  refine z_iloadn F (pc := 897) dL_law_897 rfl (lv_at hl 0 rfl) ?_
  refine z_iconst F (pc := 898) (1) dL_law_898 ?_
  refine z_iadd F (pc := 899) dL_law_899 ?_
  refine z_sld F (pc := 900) hX hbl hbA hW hL (by omega) dL_law_900 ?_
  refine z_aloadn F (pc := 901) dL_law_901 rfl (lv_at hl 3 rfl) ?_
  refine z_iloadn F (pc := 902) dL_law_902 rfl (lv_at hl 0 rfl) ?_
  refine z_iconst F (pc := 903) (2) dL_law_903 ?_
  refine z_iadd F (pc := 904) dL_law_904 ?_
  refine z_sld F (pc := 905) hX hbl hbA hW hL (by omega) dL_law_905 ?_
  refine z_aloadn F (pc := 906) dL_law_906 rfl (lv_at hl 3 rfl) ?_
  refine z_iloadn F (pc := 907) dL_law_907 rfl (lv_at hl 0 rfl) ?_
  refine z_iconst F (pc := 908) (3) dL_law_908 ?_
  refine z_iadd F (pc := 909) dL_law_909 ?_
  refine z_sld F (pc := 910) hX hbl hbA hW hL (by omega) dL_law_910 ?_
  refine z_callVi F (pc := 911) hK hW hA (As := [.int (iI (sv xs0 (i + 1))), .int (iI (sv xs0 (i + 2))), .int (iI (sv xs0 (i + 3)))]) (rest := []) (ws' := fun (u : (Int → Int)) => wB cI cZ aB aD aM aA aS aC aL aT di en mg ++ wD cI cZ aD xs ys lf ev nm sz ++ wM cI cZ aM lb kd pt mn ++ wA cI cZ aA so nu al ak ap an ax ++ wS cI cZ aS he ar le ++ wC cI cZ aC cx cr cl ll cn ++ wL cI cZ aL rw fn fp ln fc ++ wT cI cZ aT tl tm ts u ++ wR cI cZ aR xs ys lf ev9 nm9 lb kd pt so9 nu9 al9 ak9 ap9 hh9 le9 rw cx cr cl ll tl9 ts9 tc9 sz mn ac en mg ln cn wc wp) (wr := (wD cI cZ aD xs ys lf ev nm sz ++ wM cI cZ aM lb kd pt mn ++ wA cI cZ aA so nu al ak ap an ax ++ wS cI cZ aS he ar le ++ wC cI cZ aC cx cr cl ll cn ++ wL cI cZ aL rw fn fp ln fc ++ wR cI cZ aR xs ys lf ev9 nm9 lb kd pt so9 nu9 al9 ak9 ap9 hh9 le9 rw cx cr cl ll tl9 ts9 tc9 sz mn ac en mg ln cn wc wp)) (c_X7_lay l D cI cZ aB aD aM aA aS aC aL aT di tl tm ts tc en mg (sv xs0 (i + 1)) (sv xs0 (i + 2)) (sv xs0 (i + 3)) _ (by omega) (by omega) (by omega) (by first | exact hsh.1 | exact hsh.2.1)) (cwV 3 F.2.2.2.2 gL_law_X7_lay rfl rfl rfl (by decide +kernel) ⟨Nat.le_of_ble_eq_true rfl, Nat.le_of_ble_eq_true rfl⟩) [0, 1, 31, 32, 33, 34, 35] [2, 3, 4, 5, 6, 7, 8, 9, 10, 11, 12, 13, 14, 15, 16, 17, 18, 19, 20, 21, 22, 23, 24, 25, 26, 27, 28, 29, 30, 36, 37, 38, 39, 40, 41, 42, 43, 44, 45, 46, 47, 48, 49, 50, 51, 52, 53, 54, 55, 56, 57, 58, 59] [53, 54, 0, 1, 2, 3, 4, 5, 6, 7, 8, 9, 10, 11, 12, 13, 14, 15, 16, 17, 18, 19, 20, 21, 22, 23, 24, 25, 26, 27, 28, 55, 56, 57, 58, 59, 29, 30, 31, 32, 33, 34, 35, 36, 37, 38, 39, 40, 41, 42, 43, 44, 45, 46, 47, 48, 49, 50, 51, 52] rfl rfl (by decide) (by decide) (by decide) (fun _ => rfl) (by decide) (q0 := 0) (ci := 7) rfl rfl rfl rfl rfl hl.1 (Nat.le_of_ble_eq_true rfl) dL_law_911 ⟨Nat.le_of_ble_eq_true rfl, Nat.le_of_ble_eq_true rfl⟩ (fun z_911 u H locs r_z_911 hp_911 hW => ?_)
  obtain ⟨tc2_911, rfl⟩ : ∃ v, v = u := ⟨_, rfl⟩
  refine z_aloadn F (pc := 914) dL_law_914 rfl (lv_at hl 1 rfl) ?_
  refine z_aloadn F (pc := 915) dL_law_915 rfl (lv_at hl 3 rfl) ?_
  refine z_iloadn F (pc := 916) dL_law_916 rfl (lv_at hl 0 rfl) ?_
  refine z_iconst F (pc := 917) (1) dL_law_917 ?_
  refine z_iadd F (pc := 918) dL_law_918 ?_
  refine z_sld F (pc := 919) hX hbl hbA hW hL (by omega) dL_law_919 ?_
  refine z_aloadn F (pc := 920) dL_law_920 rfl (lv_at hl 3 rfl) ?_
  refine z_iloadn F (pc := 921) dL_law_921 rfl (lv_at hl 0 rfl) ?_
  refine z_iconst F (pc := 922) (2) dL_law_922 ?_
  refine z_iadd F (pc := 923) dL_law_923 ?_
  refine z_sld F (pc := 924) hX hbl hbA hW hL (by omega) dL_law_924 ?_
  refine z_aloadn F (pc := 925) dL_law_925 rfl (lv_at hl 3 rfl) ?_
  refine z_iloadn F (pc := 926) dL_law_926 rfl (lv_at hl 0 rfl) ?_
  refine z_iconst F (pc := 927) (3) dL_law_927 ?_
  refine z_iadd F (pc := 928) dL_law_928 ?_
  refine z_sld F (pc := 929) hX hbl hbA hW hL (by omega) dL_law_929 ?_
  refine z_callVi F (pc := 930) hK hW hA (As := [.int (iI (sv xs0 (i + 1))), .int (iI (sv xs0 (i + 2))), .int (iI (sv xs0 (i + 3)))]) (rest := [.int (iI z_911)]) (ws' := fun (u : (Int → Int)) => wB cI cZ aB aD aM aA aS aC aL aT di en mg ++ wD cI cZ aD xs ys lf ev nm sz ++ wM cI cZ aM lb kd pt mn ++ wA cI cZ aA so nu al ak ap an ax ++ wS cI cZ aS he ar le ++ wC cI cZ aC cx cr cl ll cn ++ wL cI cZ aL rw fn fp ln fc ++ wT cI cZ aT tl tm ts tc2_911 ++ wR cI cZ aR xs ys lf ev9 nm9 lb kd pt so9 nu9 al9 ak9 ap9 hh9 le9 rw cx cr cl ll tl9 ts9 u sz mn ac en mg ln cn wc wp) (wr := (wB cI cZ aB aD aM aA aS aC aL aT di en mg ++ wD cI cZ aD xs ys lf ev nm sz ++ wM cI cZ aM lb kd pt mn ++ wA cI cZ aA so nu al ak ap an ax ++ wS cI cZ aS he ar le ++ wC cI cZ aC cx cr cl ll cn ++ wL cI cZ aL rw fn fp ln fc ++ wT cI cZ aT tl tm ts tc2_911)) (c_X8_lay l D cI cZ aR xs ys lf ev9 nm9 lb kd pt so9 nu9 al9 ak9 ap9 hh9 le9 rw cx cr cl ll tl9 ts9 tc9 sz mn ac en mg ln cn wc wp (sv xs0 (i + 1)) (sv xs0 (i + 2)) (sv xs0 (i + 3)) _ (by omega) (by omega) (by omega) (by first | exact hsh.1 | exact hsh.2.1)) (cwV 3 F.2.2.2.2 gL_law_X8_lay rfl rfl rfl (by decide +kernel) ⟨Nat.le_of_ble_eq_true rfl, Nat.le_of_ble_eq_true rfl⟩) [36, 37, 38, 39, 40, 41, 42, 43, 44, 45, 46, 47, 48, 49, 50, 51, 52, 53, 54, 55, 56, 57, 58, 59] [0, 1, 2, 3, 4, 5, 6, 7, 8, 9, 10, 11, 12, 13, 14, 15, 16, 17, 18, 19, 20, 21, 22, 23, 24, 25, 26, 27, 28, 29, 30, 31, 32, 33, 34, 35] [0, 1, 2, 3, 4, 5, 6, 7, 8, 9, 10, 11, 12, 13, 14, 15, 16, 17, 18, 19, 20, 21, 22, 23, 24, 25, 26, 27, 28, 29, 30, 31, 32, 33, 34, 35, 36, 37, 38, 39, 40, 41, 42, 43, 44, 45, 46, 47, 48, 49, 50, 51, 52, 53, 54, 55, 56, 57, 58, 59] rfl rfl (by decide) (by decide) (by decide) (fun _ => rfl) (by decide) (q0 := 36) (ci := 8) rfl rfl rfl rfl rfl hl.1 (Nat.le_of_ble_eq_true rfl) dL_law_930 ⟨Nat.le_of_ble_eq_true rfl, Nat.le_of_ble_eq_true rfl⟩ (fun z_930 u H locs r_z_930 hp_930 hW => ?_)
  obtain ⟨tc2_930, rfl⟩ : ∃ v, v = u := ⟨_, rfl⟩
  obtain ⟨hans, hsh⟩ := lay_step q3 hsh hp_911 hp_930
  refine z_icmp_eq F (pc := 933) 1014 dL_law_933 (by decide) (by omega) (fun c_933 => ?_) (fun c_933 => ?_)
  · skip
    exact cut_1014 di xs ys lf ev nm lb kd pt so nu al ak ap he ar le cx cr cl ll rw fn fp tl tm ts tc2_911 ev9 nm9 so9 nu9 al9 ak9 ap9 hh9 le9 tl9 ts9 tc2_930 en mg sz mn an ax cn ln fc ac wc wp _ _ _ (by exact hd) (by exact hmk) (by exact hc) (by exact hr) (by exact he9) (by exact hsh) (lv_sub hl [0, 1, 2, 3] rfl) hW
  · skip
    exact absurd (by omega) c_933

set_option maxHeartbeats 8000000 in
set_option maxRecDepth 100000 in
theorem case_26 {p : Program} {l : Launch} {e : Env} {s : State} {m : MethodId} {below : List Frame} {meth : Method} {c : Code} {b L : Nat} {xs0 : Nat → Int32} {Q : State → Prop} {A : Nat → Prop} {D : va_G} {cI cZ : ClassId} {aB aD aM aA aS aC aL aT aR : Nat → Nat} {i : Int} (hF : LFix p s m c b L xs0 A D cI cZ) (g : 0 ≤ i ∧ i + 8 ≤ (L : Int)) (cut_1014 : LAt p l e s m below meth c b Q A D cI cZ aB aD aM aA aS aC aL aT aR i 1014) : LAt p l e s m below meth c b Q A D cI cZ aB aD aM aA aS aC aL aT aR i 938 := by
  obtain ⟨hL, F, hK, hA, hX, hbl, hbA⟩ := hF
  intro di xs ys lf ev nm lb kd pt so nu al ak ap he ar le cx cr cl ll rw fn fp tl tm ts tc ev9 nm9 so9 nu9 al9 ak9 ap9 hh9 le9 tl9 ts9 tc9 en mg sz mn an ax cn ln fc ac wc wp H locs ls hd hmk hc hr he9 hsh hl hW
  have q1 := sv_r xs0 (i + 1)
  have q2 := sv_r xs0 (i + 2)
  have q3 := sv_r xs0 (i + 3)
  have q4 := sv_r xs0 (i + 4)
  have q5 := sv_r xs0 (i + 5)
  have q6 := sv_r xs0 (i + 6)
  have q7 := sv_r xs0 (i + 7)
  have hmm := hmk.1
  have haa := hmk.2.2.2.2.1
  have hac := hmk.2.2.2.2.2.1
  have hd0 := hd.1
  have hc0 := hc.1
  have hr0 := hr.1
  have hw9 := wy_r hd (q := sz) (Int.le_refl _)
  refine z_aloadn F (pc := 938) dL_law_938 rfl (lv_at hl 2 rfl) ?_
  refine z_aloadn F (pc := 939) dL_law_939 rfl (lv_at hl 3 rfl) ?_
  refine z_iloadn F (pc := 940) dL_law_940 rfl (lv_at hl 0 rfl) ?_
  refine z_iconst F (pc := 941) (1) dL_law_941 ?_
  refine z_iadd F (pc := 942) dL_law_942 ?_
  refine z_sld F (pc := 943) hX hbl hbA hW hL (by omega) dL_law_943 ?_
  refine z_aloadn F (pc := 944) dL_law_944 rfl (lv_at hl 3 rfl) ?_
  refine z_iloadn F (pc := 945) dL_law_945 rfl (lv_at hl 0 rfl) ?_
  refine z_iconst F (pc := 946) (2) dL_law_946 ?_
  refine z_iadd F (pc := 947) dL_law_947 ?_
  refine z_sld F (pc := 948) hX hbl hbA hW hL (by omega) dL_law_948 ?_
  refine z_aloadn F (pc := 949) dL_law_949 rfl (lv_at hl 3 rfl) ?_
  refine z_iloadn F (pc := 950) dL_law_950 rfl (lv_at hl 0 rfl) ?_
  refine z_iconst F (pc := 951) (3) dL_law_951 ?_
  refine z_iadd F (pc := 952) dL_law_952 ?_
  refine z_sld F (pc := 953) hX hbl hbA hW hL (by omega) dL_law_953 ?_
  refine z_aloadn F (pc := 954) dL_law_954 rfl (lv_at hl 3 rfl) ?_
  refine z_iloadn F (pc := 955) dL_law_955 rfl (lv_at hl 0 rfl) ?_
  refine z_iconst F (pc := 956) (4) dL_law_956 ?_
  refine z_iadd F (pc := 957) dL_law_957 ?_
  refine z_sld F (pc := 958) hX hbl hbA hW hL (by omega) dL_law_958 ?_
  refine z_callVi F (pc := 959) hK hW hA (As := [.int (iI (sv xs0 (i + 1))), .int (iI (sv xs0 (i + 2))), .int (iI (sv xs0 (i + 3))), .int (iI (sv xs0 (i + 4)))]) (rest := []) (ws' := fun (u : (Int → Int) × (Int → Int) × (Int → Int) × (Int)) => wB cI cZ aB aD aM aA aS aC aL aT di en mg ++ wD cI cZ aD u.1 u.2.1 u.2.2.1 ev nm u.2.2.2 ++ wM cI cZ aM lb kd pt mn ++ wA cI cZ aA so nu al ak ap an ax ++ wS cI cZ aS he ar le ++ wC cI cZ aC cx cr cl ll cn ++ wL cI cZ aL rw fn fp ln fc ++ wT cI cZ aT tl tm ts tc ++ wR cI cZ aR xs ys lf ev9 nm9 lb kd pt so9 nu9 al9 ak9 ap9 hh9 le9 rw cx cr cl ll tl9 ts9 tc9 sz mn ac en mg ln cn wc wp) (wr := (wM cI cZ aM lb kd pt mn ++ wA cI cZ aA so nu al ak ap an ax ++ wS cI cZ aS he ar le ++ wC cI cZ aC cx cr cl ll cn ++ wL cI cZ aL rw fn fp ln fc ++ wR cI cZ aR xs ys lf ev9 nm9 lb kd pt so9 nu9 al9 ak9 ap9 hh9 le9 rw cx cr cl ll tl9 ts9 tc9 sz mn ac en mg ln cn wc wp)) (c_X7_scan l D cI cZ aB aD aM aA aS aC aL aT di tl tm ts tc xs ys lf ev nm en mg sz (sv xs0 (i + 1)) (sv xs0 (i + 2)) (sv xs0 (i + 3)) (sv xs0 (i + 4)) _ (by omega) (by omega) (by omega) (by omega) (by first | exact hsh.1 | exact hsh.2.1) (by first | exact hsh.2.2.1 | exact hsh.2.2.2.1) (by first | exact hd | exact hd.1)) (cwV 4 F.2.2.2.2 gL_law_X7_scan rfl rfl rfl (by decide +kernel) ⟨Nat.le_of_ble_eq_true rfl, Nat.le_of_ble_eq_true rfl⟩) [0, 1, 31, 32, 33, 34, 35, 2, 3, 4, 5, 6, 7] [8, 9, 10, 11, 12, 13, 14, 15, 16, 17, 18, 19, 20, 21, 22, 23, 24, 25, 26, 27, 28, 29, 30, 36, 37, 38, 39, 40, 41, 42, 43, 44, 45, 46, 47, 48, 49, 50, 51, 52, 53, 54, 55, 56, 57, 58, 59] [47, 48, 54, 55, 56, 57, 58, 59, 0, 1, 2, 3, 4, 5, 6, 7, 8, 9, 10, 11, 12, 13, 14, 15, 16, 17, 18, 19, 20, 21, 22, 49, 50, 51, 52, 53, 23, 24, 25, 26, 27, 28, 29, 30, 31, 32, 33, 34, 35, 36, 37, 38, 39, 40, 41, 42, 43, 44, 45, 46] rfl rfl (by decide) (by decide) (by decide) (fun _ => rfl) (by decide) (q0 := 0) (ci := 7) rfl rfl rfl rfl rfl hl.1 (Nat.le_of_ble_eq_true rfl) dL_law_959 ⟨Nat.le_of_ble_eq_true rfl, Nat.le_of_ble_eq_true rfl⟩ (fun z_959 u H locs r_z_959 hp_959 hW => ?_)
  obtain ⟨xs2_959, ys2_959, lf2_959, sz2_959⟩ := u
  dsimp only at hp_959 hW
  refine z_aloadn F (pc := 962) dL_law_962 rfl (lv_at hl 1 rfl) ?_
  refine z_aloadn F (pc := 963) dL_law_963 rfl (lv_at hl 3 rfl) ?_
  refine z_iloadn F (pc := 964) dL_law_964 rfl (lv_at hl 0 rfl) ?_
  refine z_iconst F (pc := 965) (1) dL_law_965 ?_
  refine z_iadd F (pc := 966) dL_law_966 ?_
  refine z_sld F (pc := 967) hX hbl hbA hW hL (by omega) dL_law_967 ?_
  refine z_aloadn F (pc := 968) dL_law_968 rfl (lv_at hl 3 rfl) ?_
  refine z_iloadn F (pc := 969) dL_law_969 rfl (lv_at hl 0 rfl) ?_
  refine z_iconst F (pc := 970) (2) dL_law_970 ?_
  refine z_iadd F (pc := 971) dL_law_971 ?_
  refine z_sld F (pc := 972) hX hbl hbA hW hL (by omega) dL_law_972 ?_
  refine z_aloadn F (pc := 973) dL_law_973 rfl (lv_at hl 3 rfl) ?_
  refine z_iloadn F (pc := 974) dL_law_974 rfl (lv_at hl 0 rfl) ?_
  refine z_iconst F (pc := 975) (3) dL_law_975 ?_
  refine z_iadd F (pc := 976) dL_law_976 ?_
  refine z_sld F (pc := 977) hX hbl hbA hW hL (by omega) dL_law_977 ?_
  refine z_aloadn F (pc := 978) dL_law_978 rfl (lv_at hl 3 rfl) ?_
  refine z_iloadn F (pc := 979) dL_law_979 rfl (lv_at hl 0 rfl) ?_
  refine z_iconst F (pc := 980) (4) dL_law_980 ?_
  refine z_iadd F (pc := 981) dL_law_981 ?_
  refine z_sld F (pc := 982) hX hbl hbA hW hL (by omega) dL_law_982 ?_
  refine z_callVi F (pc := 983) hK hW hA (As := [.int (iI (sv xs0 (i + 1))), .int (iI (sv xs0 (i + 2))), .int (iI (sv xs0 (i + 3))), .int (iI (sv xs0 (i + 4)))]) (rest := [.int (iI z_959)]) (ws' := fun (u : (Int → Int) × (Int → Int) × (Int → Int) × (Int)) => wB cI cZ aB aD aM aA aS aC aL aT di en mg ++ wD cI cZ aD xs2_959 ys2_959 lf2_959 ev nm sz2_959 ++ wM cI cZ aM lb kd pt mn ++ wA cI cZ aA so nu al ak ap an ax ++ wS cI cZ aS he ar le ++ wC cI cZ aC cx cr cl ll cn ++ wL cI cZ aL rw fn fp ln fc ++ wT cI cZ aT tl tm ts tc ++ wR cI cZ aR u.1 u.2.1 u.2.2.1 ev9 nm9 lb kd pt so9 nu9 al9 ak9 ap9 hh9 le9 rw cx cr cl ll tl9 ts9 tc9 u.2.2.2 mn ac en mg ln cn wc wp) (wr := (wB cI cZ aB aD aM aA aS aC aL aT di en mg ++ wD cI cZ aD xs2_959 ys2_959 lf2_959 ev nm sz2_959 ++ wM cI cZ aM lb kd pt mn ++ wA cI cZ aA so nu al ak ap an ax ++ wS cI cZ aS he ar le ++ wC cI cZ aC cx cr cl ll cn ++ wL cI cZ aL rw fn fp ln fc ++ wT cI cZ aT tl tm ts tc)) (c_X8_scan l D cI cZ aR xs ys lf ev9 nm9 lb kd pt so9 nu9 al9 ak9 ap9 hh9 le9 rw cx cr cl ll tl9 ts9 tc9 sz mn ac en mg ln cn wc wp (sv xs0 (i + 1)) (sv xs0 (i + 2)) (sv xs0 (i + 3)) (sv xs0 (i + 4)) _ (by omega) (by omega) (by omega) (by omega) (by first | exact hsh.1 | exact hsh.2.1) (by first | exact hsh.2.2.1 | exact hsh.2.2.2.1) (by first | exact hd | exact hd.1)) (cwV 4 F.2.2.2.2 gL_law_X8_scan rfl rfl rfl (by decide +kernel) ⟨Nat.le_of_ble_eq_true rfl, Nat.le_of_ble_eq_true rfl⟩) [36, 37, 38, 39, 40, 41, 42, 43, 44, 45, 46, 47, 48, 49, 50, 51, 52, 53, 54, 55, 56, 57, 58, 59] [0, 1, 2, 3, 4, 5, 6, 7, 8, 9, 10, 11, 12, 13, 14, 15, 16, 17, 18, 19, 20, 21, 22, 23, 24, 25, 26, 27, 28, 29, 30, 31, 32, 33, 34, 35] [0, 1, 2, 3, 4, 5, 6, 7, 8, 9, 10, 11, 12, 13, 14, 15, 16, 17, 18, 19, 20, 21, 22, 23, 24, 25, 26, 27, 28, 29, 30, 31, 32, 33, 34, 35, 36, 37, 38, 39, 40, 41, 42, 43, 44, 45, 46, 47, 48, 49, 50, 51, 52, 53, 54, 55, 56, 57, 58, 59] rfl rfl (by decide) (by decide) (by decide) (fun _ => rfl) (by decide) (q0 := 36) (ci := 8) rfl rfl rfl rfl rfl hl.1 (Nat.le_of_ble_eq_true rfl) dL_law_983 ⟨Nat.le_of_ble_eq_true rfl, Nat.le_of_ble_eq_true rfl⟩ (fun z_983 u H locs r_z_983 hp_983 hW => ?_)
  obtain ⟨xs2_983, ys2_983, lf2_983, sz2_983⟩ := u
  dsimp only at hp_983 hW
  obtain ⟨hans, e_xs, e_ys, e_lf, e_sz, hd⟩ := scan_step hsh hd hp_959 hp_983
  have hWz := hW
  subst e_xs
  have hW := hWz
  have hWz := hW
  subst e_ys
  have hW := hWz
  have hWz := hW
  subst e_lf
  have hW := hWz
  have hWz := hW
  subst e_sz
  have hW := hWz
  refine z_icmp_eq F (pc := 986) 1014 dL_law_986 (by decide) (by omega) (fun c_986 => ?_) (fun c_986 => ?_)
  · skip
    exact cut_1014 di xs2_983 ys2_983 lf2_983 ev nm lb kd pt so nu al ak ap he ar le cx cr cl ll rw fn fp tl tm ts tc ev9 nm9 so9 nu9 al9 ak9 ap9 hh9 le9 tl9 ts9 tc9 en mg sz2_983 mn an ax cn ln fc ac wc wp _ _ _ (by exact hd) (by exact hmk) (by exact hc) (by exact hr) (by exact he9) (by exact hsh) (lv_sub hl [0, 1, 2, 3] rfl) hW
  · skip
    exact absurd (by omega) c_986

set_option maxHeartbeats 8000000 in
set_option maxRecDepth 100000 in
theorem case_27 {p : Program} {l : Launch} {e : Env} {s : State} {m : MethodId} {below : List Frame} {meth : Method} {c : Code} {b L : Nat} {xs0 : Nat → Int32} {Q : State → Prop} {A : Nat → Prop} {D : va_G} {cI cZ : ClassId} {aB aD aM aA aS aC aL aT aR : Nat → Nat} {i : Int} (hF : LFix p s m c b L xs0 A D cI cZ) (g : 0 ≤ i ∧ i + 8 ≤ (L : Int)) (cut_1014 : LAt p l e s m below meth c b Q A D cI cZ aB aD aM aA aS aC aL aT aR i 1014) : LAt p l e s m below meth c b Q A D cI cZ aB aD aM aA aS aC aL aT aR i 991 := by
  obtain ⟨hL, F, hK, hA, hX, hbl, hbA⟩ := hF
  intro di xs ys lf ev nm lb kd pt so nu al ak ap he ar le cx cr cl ll rw fn fp tl tm ts tc ev9 nm9 so9 nu9 al9 ak9 ap9 hh9 le9 tl9 ts9 tc9 en mg sz mn an ax cn ln fc ac wc wp H locs ls hd hmk hc hr he9 hsh hl hW
  have q1 := sv_r xs0 (i + 1)
  have q2 := sv_r xs0 (i + 2)
  have q3 := sv_r xs0 (i + 3)
  have q4 := sv_r xs0 (i + 4)
  have q5 := sv_r xs0 (i + 5)
  have q6 := sv_r xs0 (i + 6)
  have q7 := sv_r xs0 (i + 7)
  have hmm := hmk.1
  have haa := hmk.2.2.2.2.1
  have hac := hmk.2.2.2.2.2.1
  have hd0 := hd.1
  have hc0 := hc.1
  have hr0 := hr.1
  have hw9 := wy_r hd (q := sz) (Int.le_refl _)
  refine z_aloadn F (pc := 991) dL_law_991 rfl (lv_at hl 2 rfl) ?_
  refine z_aloadn F (pc := 992) dL_law_992 rfl (lv_at hl 3 rfl) ?_
  refine z_iloadn F (pc := 993) dL_law_993 rfl (lv_at hl 0 rfl) ?_
  refine z_iconst F (pc := 994) (1) dL_law_994 ?_
  refine z_iadd F (pc := 995) dL_law_995 ?_
  refine z_sld F (pc := 996) hX hbl hbA hW hL (by omega) dL_law_996 ?_
  refine z_callVi F (pc := 997) hK hW hA (As := [.int (iI (sv xs0 (i + 1)))]) (rest := []) (ws' := fun (u : Unit) => wB cI cZ aB aD aM aA aS aC aL aT di en mg ++ wD cI cZ aD xs ys lf ev nm sz ++ wM cI cZ aM lb kd pt mn ++ wA cI cZ aA so nu al ak ap an ax ++ wS cI cZ aS he ar le ++ wC cI cZ aC cx cr cl ll cn ++ wL cI cZ aL rw fn fp ln fc ++ wT cI cZ aT tl tm ts tc ++ wR cI cZ aR xs ys lf ev9 nm9 lb kd pt so9 nu9 al9 ak9 ap9 hh9 le9 rw cx cr cl ll tl9 ts9 tc9 sz mn ac en mg ln cn wc wp) (wr := (wS cI cZ aS he ar le ++ wT cI cZ aT tl tm ts tc ++ wR cI cZ aR xs ys lf ev9 nm9 lb kd pt so9 nu9 al9 ak9 ap9 hh9 le9 rw cx cr cl ll tl9 ts9 tc9 sz mn ac en mg ln cn wc wp)) (c_X7_count l D cI cZ aB aD aM aA aS aC aL aT di xs ys lf ev nm lb kd pt cx cr cl ll rw fn fp so nu al ak ap en mg sz mn cn ln fc an ax (sv xs0 (i + 1)) _ (by omega) (by omega)) (cwV 1 F.2.2.2.2 gL_law_X7_count rfl rfl rfl (by decide +kernel) ⟨Nat.le_of_ble_eq_true rfl, Nat.le_of_ble_eq_true rfl⟩) [0, 1, 2, 3, 4, 5, 6, 7, 8, 9, 10, 11, 22, 23, 24, 25, 26, 27, 28, 29, 30, 12, 13, 14, 15, 16, 17] [18, 19, 20, 21, 31, 32, 33, 34, 35, 36, 37, 38, 39, 40, 41, 42, 43, 44, 45, 46, 47, 48, 49, 50, 51, 52, 53, 54, 55, 56, 57, 58, 59] [33, 34, 35, 36, 37, 38, 39, 40, 41, 42, 43, 44, 54, 55, 56, 57, 58, 59, 0, 1, 2, 3, 45, 46, 47, 48, 49, 50, 51, 52, 53, 4, 5, 6, 7, 8, 9, 10, 11, 12, 13, 14, 15, 16, 17, 18, 19, 20, 21, 22, 23, 24, 25, 26, 27, 28, 29, 30, 31, 32] rfl rfl (by decide) (by decide) (by decide) (fun _ => rfl) (by decide) (q0 := 0) (ci := 7) rfl rfl rfl rfl rfl hl.1 (Nat.le_of_ble_eq_true rfl) dL_law_997 ⟨Nat.le_of_ble_eq_true rfl, Nat.le_of_ble_eq_true rfl⟩ (fun z_997 u H locs r_z_997 hp_997 hW => ?_)
  refine z_aloadn F (pc := 1000) dL_law_1000 rfl (lv_at hl 1 rfl) ?_
  refine z_aloadn F (pc := 1001) dL_law_1001 rfl (lv_at hl 3 rfl) ?_
  refine z_iloadn F (pc := 1002) dL_law_1002 rfl (lv_at hl 0 rfl) ?_
  refine z_iconst F (pc := 1003) (1) dL_law_1003 ?_
  refine z_iadd F (pc := 1004) dL_law_1004 ?_
  refine z_sld F (pc := 1005) hX hbl hbA hW hL (by omega) dL_law_1005 ?_
  refine z_callVi F (pc := 1006) hK hW hA (As := [.int (iI (sv xs0 (i + 1)))]) (rest := [.int (iI z_997)]) (ws' := fun (u : Unit) => wB cI cZ aB aD aM aA aS aC aL aT di en mg ++ wD cI cZ aD xs ys lf ev nm sz ++ wM cI cZ aM lb kd pt mn ++ wA cI cZ aA so nu al ak ap an ax ++ wS cI cZ aS he ar le ++ wC cI cZ aC cx cr cl ll cn ++ wL cI cZ aL rw fn fp ln fc ++ wT cI cZ aT tl tm ts tc ++ wR cI cZ aR xs ys lf ev9 nm9 lb kd pt so9 nu9 al9 ak9 ap9 hh9 le9 rw cx cr cl ll tl9 ts9 tc9 sz mn ac en mg ln cn wc wp) (wr := (wB cI cZ aB aD aM aA aS aC aL aT di en mg ++ wD cI cZ aD xs ys lf ev nm sz ++ wM cI cZ aM lb kd pt mn ++ wA cI cZ aA so nu al ak ap an ax ++ wS cI cZ aS he ar le ++ wC cI cZ aC cx cr cl ll cn ++ wL cI cZ aL rw fn fp ln fc ++ wT cI cZ aT tl tm ts tc)) (c_X8_count l D cI cZ aR xs ys lf ev9 nm9 lb kd pt so9 nu9 al9 ak9 ap9 hh9 le9 rw cx cr cl ll tl9 ts9 tc9 sz mn ac en mg ln cn wc wp (sv xs0 (i + 1)) _ (by omega) (by omega)) (cwV 1 F.2.2.2.2 gL_law_X8_count rfl rfl rfl (by decide +kernel) ⟨Nat.le_of_ble_eq_true rfl, Nat.le_of_ble_eq_true rfl⟩) [36, 37, 38, 39, 40, 41, 42, 43, 44, 45, 46, 47, 48, 49, 50, 51, 52, 53, 54, 55, 56, 57, 58, 59] [0, 1, 2, 3, 4, 5, 6, 7, 8, 9, 10, 11, 12, 13, 14, 15, 16, 17, 18, 19, 20, 21, 22, 23, 24, 25, 26, 27, 28, 29, 30, 31, 32, 33, 34, 35] [0, 1, 2, 3, 4, 5, 6, 7, 8, 9, 10, 11, 12, 13, 14, 15, 16, 17, 18, 19, 20, 21, 22, 23, 24, 25, 26, 27, 28, 29, 30, 31, 32, 33, 34, 35, 36, 37, 38, 39, 40, 41, 42, 43, 44, 45, 46, 47, 48, 49, 50, 51, 52, 53, 54, 55, 56, 57, 58, 59] rfl rfl (by decide) (by decide) (by decide) (fun _ => rfl) (by decide) (q0 := 36) (ci := 8) rfl rfl rfl rfl rfl hl.1 (Nat.le_of_ble_eq_true rfl) dL_law_1006 ⟨Nat.le_of_ble_eq_true rfl, Nat.le_of_ble_eq_true rfl⟩ (fun z_1006 u H locs r_z_1006 hp_1006 hW => ?_)
  have hp2 := hp_1006
  rw [hac] at hp2
  have hans := countR_one hp_997 hp2
  refine z_icmp_eq F (pc := 1009) 1014 dL_law_1009 (by decide) (by omega) (fun c_1009 => ?_) (fun c_1009 => ?_)
  · skip
    exact cut_1014 di xs ys lf ev nm lb kd pt so nu al ak ap he ar le cx cr cl ll rw fn fp tl tm ts tc ev9 nm9 so9 nu9 al9 ak9 ap9 hh9 le9 tl9 ts9 tc9 en mg sz mn an ax cn ln fc ac wc wp _ _ _ (by exact hd) (by exact hmk) (by exact hc) (by exact hr) (by exact he9) (by exact hsh) (lv_sub hl [0, 1, 2, 3] rfl) hW
  · skip
    exact absurd (by omega) c_1009
