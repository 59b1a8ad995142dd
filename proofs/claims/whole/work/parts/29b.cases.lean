set_option maxHeartbeats 8000000 in
set_option maxRecDepth 100000 in
theorem case_0 {p : Program} {l : Launch} {e : Env} {s : State} {m : MethodId} {below : List Frame} {meth : Method} {c : Code} {b L : Nat} {xs0 : Nat → Int32} {Q : State → Prop} {A : Nat → Prop} {D : va_G} {cI cZ : ClassId} {aB aD aM aA aS aC aL aT aR : Nat → Nat} {i : Int} (hF : LFix p s m c b L xs0 A D cI cZ) (g : 0 ≤ i ∧ i + 8 ≤ (L : Int)) (cut_1014 : LAt p l e s m below meth c b Q A D cI cZ aB aD aM aA aS aC aL aT aR i 1014) : LAt p l e s m below meth c b Q A D cI cZ aB aD aM aA aS aC aL aT aR i 160 := by
  obtain ⟨hL, F, hK, hA, hX, hbl, hbA⟩ := hF
  intro di xs ys lf ev nm lb kd pt so nu al ak ap he ar le cx cr cl ll rw fn fp tl tm ts tc ev9 nm9 so9 nu9 al9 ak9 ap9 hh9 le9 tl9 ts9 tc9 en mg sz mn an ax cn ln fc ac wc wp H locs ls hd hmk hc hr he9 hsh hl hW
  have q1 := sv_r xs0 (i + 1)
  have q2 := sv_r xs0 (i + 2)
  have q3 := sv_r xs0 (i + 3)
  have q4 := sv_r xs0 (i + 4)
  have q5 := sv_r xs0 (i + 5)
  have q6 := sv_r xs0 (i + 6)
  have q7 := sv_r xs0 (i + 7)
  have hmm := hmk.1
  have haa := hmk.2.2.2.2.1
  have hac := hmk.2.2.2.2.2.1
  have hd0 := hd.1
  have hc0 := hc.1
  have hr0 := hr.1
  have hw9 := wy_r hd (q := sz) (Int.le_refl _)
  refine z_aloadn F (pc := 160) dL_law_160 rfl (lv_at hl 2 rfl) ?_
  refine z_aloadn F (pc := 161) dL_law_161 rfl (lv_at hl 3 rfl) ?_
  refine z_iloadn F (pc := 162) dL_law_162 rfl (lv_at hl 0 rfl) ?_
  refine z_iconst F (pc := 163) (1) dL_law_163 ?_
  refine z_iadd F (pc := 164) dL_law_164 ?_
  refine z_sld F (pc := 165) hX hbl hbA hW hL (by omega) dL_law_165 ?_
  refine z_aloadn F (pc := 166) dL_law_166 rfl (lv_at hl 3 rfl) ?_
  refine z_iloadn F (pc := 167) dL_law_167 rfl (lv_at hl 0 rfl) ?_
  refine z_iconst F (pc := 168) (2) dL_law_168 ?_
  refine z_iadd F (pc := 169) dL_law_169 ?_
  refine z_sld F (pc := 170) hX hbl hbA hW hL (by omega) dL_law_170 ?_
  refine z_aloadn F (pc := 171) dL_law_171 rfl (lv_at hl 3 rfl) ?_
  refine z_iloadn F (pc := 172) dL_law_172 rfl (lv_at hl 0 rfl) ?_
  refine z_iconst F (pc := 173) (3) dL_law_173 ?_
  refine z_iadd F (pc := 174) dL_law_174 ?_
  refine z_sld F (pc := 175) hX hbl hbA hW hL (by omega) dL_law_175 ?_
  refine z_if_eq F (pc := 176) 183 dL_law_176 (by decide) (by omega) (fun c_176 => ?_) (fun c_176 => ?_)
  · skip
    refine z_iconst F (pc := 183) (0) dL_law_183 ?_
    refine z_callVi F (pc := 184) hK hW hA (As := [.int (iI (sv xs0 (i + 1))), .int (iI (sv xs0 (i + 2))), .int (iI 0)]) (rest := []) (ws' := fun (u : (Int → Int) × (Int → Int) × (Int → Int) × (Int)) => wB cI cZ aB aD aM aA aS aC aL aT di en mg ++ wD cI cZ aD u.1 u.2.1 u.2.2.1 ev nm u.2.2.2 ++ wM cI cZ aM lb kd pt mn ++ wA cI cZ aA so nu al ak ap an ax ++ wS cI cZ aS he ar le ++ wC cI cZ aC cx cr cl ll cn ++ wL cI cZ aL rw fn fp ln fc ++ wT cI cZ aT tl tm ts tc ++ wR cI cZ aR xs ys lf ev9 nm9 lb kd pt so9 nu9 al9 ak9 ap9 hh9 le9 rw cx cr cl ll tl9 ts9 tc9 sz mn ac en mg ln cn wc wp) (wr := (wM cI cZ aM lb kd pt mn ++ wA cI cZ aA so nu al ak ap an ax ++ wS cI cZ aS he ar le ++ wC cI cZ aC cx cr cl ll cn ++ wL cI cZ aL rw fn fp ln fc ++ wT cI cZ aT tl tm ts tc ++ wR cI cZ aR xs ys lf ev9 nm9 lb kd pt so9 nu9 al9 ak9 ap9 hh9 le9 rw cx cr cl ll tl9 ts9 tc9 sz mn ac en mg ln cn wc wp)) (c_X7_point l D cI cZ aB aD aM aA aS aC aL aT di xs ys lf ev nm en mg sz (sv xs0 (i + 1)) (sv xs0 (i + 2)) 0 _ (by omega) (by omega) (by omega) (by first | exact hd | exact hd.1) (by omega)) (cwV 3 F.2.2.2.2 gL_law_X7_point rfl rfl rfl (by decide +kernel) ⟨Nat.le_of_ble_eq_true rfl, Nat.le_of_ble_eq_true rfl⟩) [0, 1, 2, 3, 4, 5, 6, 7] [8, 9, 10, 11, 12, 13, 14, 15, 16, 17, 18, 19, 20, 21, 22, 23, 24, 25, 26, 27, 28, 29, 30, 31, 32, 33, 34, 35, 36, 37, 38, 39, 40, 41, 42, 43, 44, 45, 46, 47, 48, 49, 50, 51, 52, 53, 54, 55, 56, 57, 58, 59] [52, 53, 54, 55, 56, 57, 58, 59, 0, 1, 2, 3, 4, 5, 6, 7, 8, 9, 10, 11, 12, 13, 14, 15, 16, 17, 18, 19, 20, 21, 22, 23, 24, 25, 26, 27, 28, 29, 30, 31, 32, 33, 34, 35, 36, 37, 38, 39, 40, 41, 42, 43, 44, 45, 46, 47, 48, 49, 50, 51] rfl rfl (by decide) (by decide) (by decide) (fun _ => rfl) (by decide) (q0 := 0) (ci := 7) rfl rfl rfl rfl rfl hl.1 (Nat.le_of_ble_eq_true rfl) dL_law_184 ⟨Nat.le_of_ble_eq_true rfl, Nat.le_of_ble_eq_true rfl⟩ (fun z_184 u H locs r_z_184 hp_184 hW => ?_)
    obtain ⟨xs2_184, ys2_184, lf2_184, sz2_184⟩ := u
    dsimp only at hp_184 hW
    refine z_aloadn F (pc := 187) dL_law_187 rfl (lv_at hl 1 rfl) ?_
    refine z_aloadn F (pc := 188) dL_law_188 rfl (lv_at hl 3 rfl) ?_
    refine z_iloadn F (pc := 189) dL_law_189 rfl (lv_at hl 0 rfl) ?_
    refine z_iconst F (pc := 190) (1) dL_law_190 ?_
    refine z_iadd F (pc := 191) dL_law_191 ?_
    refine z_sld F (pc := 192) hX hbl hbA hW hL (by omega) dL_law_192 ?_
    refine z_aloadn F (pc := 193) dL_law_193 rfl (lv_at hl 3 rfl) ?_
    refine z_iloadn F (pc := 194) dL_law_194 rfl (lv_at hl 0 rfl) ?_
    refine z_iconst F (pc := 195) (2) dL_law_195 ?_
    refine z_iadd F (pc := 196) dL_law_196 ?_
    refine z_sld F (pc := 197) hX hbl hbA hW hL (by omega) dL_law_197 ?_
    refine z_aloadn F (pc := 198) dL_law_198 rfl (lv_at hl 3 rfl) ?_
    refine z_iloadn F (pc := 199) dL_law_199 rfl (lv_at hl 0 rfl) ?_
    refine z_iconst F (pc := 200) (3) dL_law_200 ?_
    refine z_iadd F (pc := 201) dL_law_201 ?_
    refine z_sld F (pc := 202) hX hbl hbA hW hL (by omega) dL_law_202 ?_
    refine z_if_eq F (pc := 203) 210 dL_law_203 (by decide) (by omega) (fun c_203 => ?_) (fun c_203 => ?_)
    · skip
      refine z_iconst F (pc := 210) (0) dL_law_210 ?_
      refine z_callVi F (pc := 211) hK hW hA (As := [.int (iI (sv xs0 (i + 1))), .int (iI (sv xs0 (i + 2))), .int (iI 0)]) (rest := [.int (iI z_184)]) (ws' := fun (u : (Int → Int) × (Int → Int) × (Int → Int) × (Int)) => wB cI cZ aB aD aM aA aS aC aL aT di en mg ++ wD cI cZ aD xs2_184 ys2_184 lf2_184 ev nm sz2_184 ++ wM cI cZ aM lb kd pt mn ++ wA cI cZ aA so nu al ak ap an ax ++ wS cI cZ aS he ar le ++ wC cI cZ aC cx cr cl ll cn ++ wL cI cZ aL rw fn fp ln fc ++ wT cI cZ aT tl tm ts tc ++ wR cI cZ aR u.1 u.2.1 u.2.2.1 ev9 nm9 lb kd pt so9 nu9 al9 ak9 ap9 hh9 le9 rw cx cr cl ll tl9 ts9 tc9 u.2.2.2 mn ac en mg ln cn wc wp) (wr := (wB cI cZ aB aD aM aA aS aC aL aT di en mg ++ wD cI cZ aD xs2_184 ys2_184 lf2_184 ev nm sz2_184 ++ wM cI cZ aM lb kd pt mn ++ wA cI cZ aA so nu al ak ap an ax ++ wS cI cZ aS he ar le ++ wC cI cZ aC cx cr cl ll cn ++ wL cI cZ aL rw fn fp ln fc ++ wT cI cZ aT tl tm ts tc)) (c_X8_point l D cI cZ aR xs ys lf ev9 nm9 lb kd pt so9 nu9 al9 ak9 ap9 hh9 le9 rw cx cr cl ll tl9 ts9 tc9 sz mn ac en mg ln cn wc wp (sv xs0 (i + 1)) (sv xs0 (i + 2)) 0 _ (by omega) (by omega) (by omega) (by first | exact hd | exact hd.1) (by omega)) (cwV 3 F.2.2.2.2 gL_law_X8_point rfl rfl rfl (by decide +kernel) ⟨Nat.le_of_ble_eq_true rfl, Nat.le_of_ble_eq_true rfl⟩) [36, 37, 38, 39, 40, 41, 42, 43, 44, 45, 46, 47, 48, 49, 50, 51, 52, 53, 54, 55, 56, 57, 58, 59] [0, 1, 2, 3, 4, 5, 6, 7, 8, 9, 10, 11, 12, 13, 14, 15, 16, 17, 18, 19, 20, 21, 22, 23, 24, 25, 26, 27, 28, 29, 30, 31, 32, 33, 34, 35] [0, 1, 2, 3, 4, 5, 6, 7, 8, 9, 10, 11, 12, 13, 14, 15, 16, 17, 18, 19, 20, 21, 22, 23, 24, 25, 26, 27, 28, 29, 30, 31, 32, 33, 34, 35, 36, 37, 38, 39, 40, 41, 42, 43, 44, 45, 46, 47, 48, 49, 50, 51, 52, 53, 54, 55, 56, 57, 58, 59] rfl rfl (by decide) (by decide) (by decide) (fun _ => rfl) (by decide) (q0 := 36) (ci := 8) rfl rfl rfl rfl rfl hl.1 (Nat.le_of_ble_eq_true rfl) dL_law_211 ⟨Nat.le_of_ble_eq_true rfl, Nat.le_of_ble_eq_true rfl⟩ (fun z_211 u H locs r_z_211 hp_211 hW => ?_)
      obtain ⟨xs2_211, ys2_211, lf2_211, sz2_211⟩ := u
      dsimp only at hp_211 hW
      obtain ⟨hans, e_xs, e_ys, e_lf, e_sz, hd⟩ := addP_step hd hp_184 hp_211
      have hWz := hW
      subst e_xs
      have hW := hWz
      have hWz := hW
      subst e_ys
      have hW := hWz
      have hWz := hW
      subst e_lf
      have hW := hWz
      have hWz := hW
      subst e_sz
      have hW := hWz
      refine z_icmp_eq F (pc := 214) 1014 dL_law_214 (by decide) (by omega) (fun c_214 => ?_) (fun c_214 => ?_)
      · skip
        exact cut_1014 di xs2_211 ys2_211 lf2_211 ev nm lb kd pt so nu al ak ap he ar le cx cr cl ll rw fn fp tl tm ts tc ev9 nm9 so9 nu9 al9 ak9 ap9 hh9 le9 tl9 ts9 tc9 en mg sz2_211 mn an ax cn ln fc ac wc wp _ _ _ (by exact hd) (by exact hmk) (by exact hc) (by exact hr) (by exact he9) (by exact hsh) (lv_sub hl [0, 1, 2, 3] rfl) hW
      · skip
        exact absurd (by omega) c_214
    · skip
      exfalso; omega
  · skip
    refine z_iconst F (pc := 179) (1) dL_law_179 ?_
    refine z_goto F (pc := 180) 184 dL_law_180 (by decide) ?_
    refine z_callVi F (pc := 184) hK hW hA (As := [.int (iI (sv xs0 (i + 1))), .int (iI (sv xs0 (i + 2))), .int (iI 1)]) (rest := []) (ws' := fun (u : (Int → Int) × (Int → Int) × (Int → Int) × (Int)) => wB cI cZ aB aD aM aA aS aC aL aT di en mg ++ wD cI cZ aD u.1 u.2.1 u.2.2.1 ev nm u.2.2.2 ++ wM cI cZ aM lb kd pt mn ++ wA cI cZ aA so nu al ak ap an ax ++ wS cI cZ aS he ar le ++ wC cI cZ aC cx cr cl ll cn ++ wL cI cZ aL rw fn fp ln fc ++ wT cI cZ aT tl tm ts tc ++ wR cI cZ aR xs ys lf ev9 nm9 lb kd pt so9 nu9 al9 ak9 ap9 hh9 le9 rw cx cr cl ll tl9 ts9 tc9 sz mn ac en mg ln cn wc wp) (wr := (wM cI cZ aM lb kd pt mn ++ wA cI cZ aA so nu al ak ap an ax ++ wS cI cZ aS he ar le ++ wC cI cZ aC cx cr cl ll cn ++ wL cI cZ aL rw fn fp ln fc ++ wT cI cZ aT tl tm ts tc ++ wR cI cZ aR xs ys lf ev9 nm9 lb kd pt so9 nu9 al9 ak9 ap9 hh9 le9 rw cx cr cl ll tl9 ts9 tc9 sz mn ac en mg ln cn wc wp)) (c_X7_point l D cI cZ aB aD aM aA aS aC aL aT di xs ys lf ev nm en mg sz (sv xs0 (i + 1)) (sv xs0 (i + 2)) 1 _ (by omega) (by omega) (by omega) (by first | exact hd | exact hd.1) (by omega)) (cwV 3 F.2.2.2.2 gL_law_X7_point rfl rfl rfl (by decide +kernel) ⟨Nat.le_of_ble_eq_true rfl, Nat.le_of_ble_eq_true rfl⟩) [0, 1, 2, 3, 4, 5, 6, 7] [8, 9, 10, 11, 12, 13, 14, 15, 16, 17, 18, 19, 20, 21, 22, 23, 24, 25, 26, 27, 28, 29, 30, 31, 32, 33, 34, 35, 36, 37, 38, 39, 40, 41, 42, 43, 44, 45, 46, 47, 48, 49, 50, 51, 52, 53, 54, 55, 56, 57, 58, 59] [52, 53, 54, 55, 56, 57, 58, 59, 0, 1, 2, 3, 4, 5, 6, 7, 8, 9, 10, 11, 12, 13, 14, 15, 16, 17, 18, 19, 20, 21, 22, 23, 24, 25, 26, 27, 28, 29, 30, 31, 32, 33, 34, 35, 36, 37, 38, 39, 40, 41, 42, 43, 44, 45, 46, 47, 48, 49, 50, 51] rfl rfl (by decide) (by decide) (by decide) (fun _ => rfl) (by decide) (q0 := 0) (ci := 7) rfl rfl rfl rfl rfl hl.1 (Nat.le_of_ble_eq_true rfl) dL_law_184 ⟨Nat.le_of_ble_eq_true rfl, Nat.le_of_ble_eq_true rfl⟩ (fun z_184 u H locs r_z_184 hp_184 hW => ?_)
    obtain ⟨xs2_184, ys2_184, lf2_184, sz2_184⟩ := u
    dsimp only at hp_184 hW
    refine z_aloadn F (pc := 187) dL_law_187 rfl (lv_at hl 1 rfl) ?_
    refine z_aloadn F (pc := 188) dL_law_188 rfl (lv_at hl 3 rfl) ?_
    refine z_iloadn F (pc := 189) dL_law_189 rfl (lv_at hl 0 rfl) ?_
    refine z_iconst F (pc := 190) (1) dL_law_190 ?_
    refine z_iadd F (pc := 191) dL_law_191 ?_
    refine z_sld F (pc := 192) hX hbl hbA hW hL (by omega) dL_law_192 ?_
    refine z_aloadn F (pc := 193) dL_law_193 rfl (lv_at hl 3 rfl) ?_
    refine z_iloadn F (pc := 194) dL_law_194 rfl (lv_at hl 0 rfl) ?_
    refine z_iconst F (pc := 195) (2) dL_law_195 ?_
    refine z_iadd F (pc := 196) dL_law_196 ?_
    refine z_sld F (pc := 197) hX hbl hbA hW hL (by omega) dL_law_197 ?_
    refine z_aloadn F (pc := 198) dL_law_198 rfl (lv_at hl 3 rfl) ?_
    refine z_iloadn F (pc := 199) dL_law_199 rfl (lv_at hl 0 rfl) ?_
    refine z_iconst F (pc := 200) (3) dL_law_200 ?_
    refine z_iadd F (pc := 201) dL_law_201 ?_
    refine z_sld F (pc := 202) hX hbl hbA hW hL (by omega) dL_law_202 ?_
    refine z_if_eq F (pc := 203) 210 dL_law_203 (by decide) (by omega) (fun c_203 => ?_) (fun c_203 => ?_)
    · skip
      exfalso; omega
    · skip
      refine z_iconst F (pc := 206) (1) dL_law_206 ?_
      refine z_goto F (pc := 207) 211 dL_law_207 (by decide) ?_
      refine z_callVi F (pc := 211) hK hW hA (As := [.int (iI (sv xs0 (i + 1))), .int (iI (sv xs0 (i + 2))), .int (iI 1)]) (rest := [.int (iI z_184)]) (ws' := fun (u : (Int → Int) × (Int → Int) × (Int → Int) × (Int)) => wB cI cZ aB aD aM aA aS aC aL aT di en mg ++ wD cI cZ aD xs2_184 ys2_184 lf2_184 ev nm sz2_184 ++ wM cI cZ aM lb kd pt mn ++ wA cI cZ aA so nu al ak ap an ax ++ wS cI cZ aS he ar le ++ wC cI cZ aC cx cr cl ll cn ++ wL cI cZ aL rw fn fp ln fc ++ wT cI cZ aT tl tm ts tc ++ wR cI cZ aR u.1 u.2.1 u.2.2.1 ev9 nm9 lb kd pt so9 nu9 al9 ak9 ap9 hh9 le9 rw cx cr cl ll tl9 ts9 tc9 u.2.2.2 mn ac en mg ln cn wc wp) (wr := (wB cI cZ aB aD aM aA aS aC aL aT di en mg ++ wD cI cZ aD xs2_184 ys2_184 lf2_184 ev nm sz2_184 ++ wM cI cZ aM lb kd pt mn ++ wA cI cZ aA so nu al ak ap an ax ++ wS cI cZ aS he ar le ++ wC cI cZ aC cx cr cl ll cn ++ wL cI cZ aL rw fn fp ln fc ++ wT cI cZ aT tl tm ts tc)) (c_X8_point l D cI cZ aR xs ys lf ev9 nm9 lb kd pt so9 nu9 al9 ak9 ap9 hh9 le9 rw cx cr cl ll tl9 ts9 tc9 sz mn ac en mg ln cn wc wp (sv xs0 (i + 1)) (sv xs0 (i + 2)) 1 _ (by omega) (by omega) (by omega) (by first | exact hd | exact hd.1) (by omega)) (cwV 3 F.2.2.2.2 gL_law_X8_point rfl rfl rfl (by decide +kernel) ⟨Nat.le_of_ble_eq_true rfl, Nat.le_of_ble_eq_true rfl⟩) [36, 37, 38, 39, 40, 41, 42, 43, 44, 45, 46, 47, 48, 49, 50, 51, 52, 53, 54, 55, 56, 57, 58, 59] [0, 1, 2, 3, 4, 5, 6, 7, 8, 9, 10, 11, 12, 13, 14, 15, 16, 17, 18, 19, 20, 21, 22, 23, 24, 25, 26, 27, 28, 29, 30, 31, 32, 33, 34, 35] [0, 1, 2, 3, 4, 5, 6, 7, 8, 9, 10, 11, 12, 13, 14, 15, 16, 17, 18, 19, 20, 21, 22, 23, 24, 25, 26, 27, 28, 29, 30, 31, 32, 33, 34, 35, 36, 37, 38, 39, 40, 41, 42, 43, 44, 45, 46, 47, 48, 49, 50, 51, 52, 53, 54, 55, 56, 57, 58, 59] rfl rfl (by decide) (by decide) (by decide) (fun _ => rfl) (by decide) (q0 := 36) (ci := 8) rfl rfl rfl rfl rfl hl.1 (Nat.le_of_ble_eq_true rfl) dL_law_211 ⟨Nat.le_of_ble_eq_true rfl, Nat.le_of_ble_eq_true rfl⟩ (fun z_211 u H locs r_z_211 hp_211 hW => ?_)
      obtain ⟨xs2_211, ys2_211, lf2_211, sz2_211⟩ := u
      dsimp only at hp_211 hW
      obtain ⟨hans, e_xs, e_ys, e_lf, e_sz, hd⟩ := addP_step hd hp_184 hp_211
      have hWz := hW
      subst e_xs
      have hW := hWz
      have hWz := hW
      subst e_ys
      have hW := hWz
      have hWz := hW
      subst e_lf
      have hW := hWz
      have hWz := hW
      subst e_sz
      have hW := hWz
      refine z_icmp_eq F (pc := 214) 1014 dL_law_214 (by decide) (by omega) (fun c_214 => ?_) (fun c_214 => ?_)
      · skip
        exact cut_1014 di xs2_211 ys2_211 lf2_211 ev nm lb kd pt so nu al ak ap he ar le cx cr cl ll rw fn fp tl tm ts tc ev9 nm9 so9 nu9 al9 ak9 ap9 hh9 le9 tl9 ts9 tc9 en mg sz2_211 mn an ax cn ln fc ac wc wp _ _ _ (by exact hd) (by exact hmk) (by exact hc) (by exact hr) (by exact he9) (by exact hsh) (lv_sub hl [0, 1, 2, 3] rfl) hW
      · skip
        exact absurd (by omega) c_214
