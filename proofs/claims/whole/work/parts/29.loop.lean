set_option maxHeartbeats 16000000 in
set_option maxRecDepth 100000 in
theorem whole_loop {p : Program} {e : Env} {s : State} {m : MethodId} {below : List Frame} {meth : Method} {c : Code} (l : Launch) (D : va_G) (cI cZ : ClassId) (aB aD aM aA aS aC aL aT aR : Nat → Nat) {b L : Nat} {xs0 : Nat → Int32} (hL : L ≤ 4096) {Q : State → Prop} {A : Nat → Prop} (hAd : ∀ q, A q → s.heap.size ≤ q) (F : CallFix p m c cL_law 4 s #[Value.ref b] wsL_law RL) (hK : zK D cI cZ s) (hA : ∀ q : Nat, s.heap.size ≤ q → A q) (hX : va_X b L xs0 s s.heap) (hbl : b < s.heap.size) (hbA : ¬ A b)
  (hend : ∀ (H : Heap) (locs : List Loc) (pc : Nat) (ls : Array Slot), decode cL_law pc = .ok (.ireturn, 1) → (∀ q ∈ locs, A q.base) → W p l e room_1 s m #[Value.ref b] below meth c H locs 60 2598 Q (F0 m pc ls [.int (iI 1)]))
  (di : Int → Int) (xs : Int → Int) (ys : Int → Int) (lf : Int → Int) (ev : Int → Int) (nm : Int → Int) (lb : Int → Int) (kd : Int → Int) (pt : Int → Int) (so : Int → Int) (nu : Int → Int) (al : Int → Int) (ak : Int → Int) (ap : Int → Int) (he : Int → Int) (ar : Int → Int) (le : Int → Int) (cx : Int → Int) (cr : Int → Int) (cl : Int → Int) (ll : Int → Int) (rw : Int → Int) (fn : Int → Int) (fp : Int → Int) (tl : Int → Int) (tm : Int → Int) (ts : Int → Int) (tc : Int → Int) (ev9 : Int → Int) (nm9 : Int → Int) (so9 : Int → Int) (nu9 : Int → Int) (al9 : Int → Int) (ak9 : Int → Int) (ap9 : Int → Int) (hh9 : Int → Int) (le9 : Int → Int) (tl9 : Int → Int) (ts9 : Int → Int) (tc9 : Int → Int) (en : Int) (mg : Int) (sz : Int) (mn : Int) (an : Int) (ax : Int) (cn : Int) (ln : Int) (fc : Int) (ac : Int) (wc : Int) (wp : Int) (hd : Dok xs ys lf sz) (hmk : MkR lb kd pt mn so nu al ak ap an ax so9 nu9 al9 ak9 ap9 ac) (hc : Cok cx cr cl ll cn) (hr : Rok rw ln) (he9 : (0 ≤ en ∧ en ≤ 100000) ∧ (0 ≤ mg ∧ mg ≤ 100000)) (hsh : ShR tl tm ts tc tl9 ts9 tc9) (H : Heap) (locs : List Loc) (ls : Array Slot) (hl : lv_has ls 4 [(2, .ref (aR 0)), (1, .ref (aB 0)), (0, .ref b)]) (hW : zW D A s.heap H locs (wB cI cZ aB aD aM aA aS aC aL aT di en mg ++ wD cI cZ aD xs ys lf ev nm sz ++ wM cI cZ aM lb kd pt mn ++ wA cI cZ aA so nu al ak ap an ax ++ wS cI cZ aS he ar le ++ wC cI cZ aC cx cr cl ll cn ++ wL cI cZ aL rw fn fp ln fc ++ wT cI cZ aT tl tm ts tc ++ wR cI cZ aR xs ys lf ev9 nm9 lb kd pt so9 nu9 al9 ak9 ap9 hh9 le9 rw cx cr cl ll tl9 ts9 tc9 sz mn ac en mg ln cn wc wp)) : W p l e room_1 s m #[Value.ref b] below meth c H locs 60 2598 Q (F0 m 16 ls []) := by
  refine z_iconst F (pc := 16) (0) dL_law_16 ?_
  refine z_istoren F (pc := 17) hl (lv' := [(3, .int (iI 0)), (2, .ref (aR 0)), (1, .ref (aB 0)), (0, .ref (b))]) dL_law_17 rfl (by decide) rfl (fun ls hl => ?_)
  have cut_18 : ∀ (fuel : Nat) (di : Int → Int) (xs : Int → Int) (ys : Int → Int) (lf : Int → Int) (ev : Int → Int) (nm : Int → Int) (lb : Int → Int) (kd : Int → Int) (pt : Int → Int) (so : Int → Int) (nu : Int → Int) (al : Int → Int) (ak : Int → Int) (ap : Int → Int) (he : Int → Int) (ar : Int → Int) (le : Int → Int) (cx : Int → Int) (cr : Int → Int) (cl : Int → Int) (ll : Int → Int) (rw : Int → Int) (fn : Int → Int) (fp : Int → Int) (tl : Int → Int) (tm : Int → Int) (ts : Int → Int) (tc : Int → Int) (ev9 : Int → Int) (nm9 : Int → Int) (so9 : Int → Int) (nu9 : Int → Int) (al9 : Int → Int) (ak9 : Int → Int) (ap9 : Int → Int) (hh9 : Int → Int) (le9 : Int → Int) (tl9 : Int → Int) (ts9 : Int → Int) (tc9 : Int → Int) (en : Int) (mg : Int) (sz : Int) (mn : Int) (an : Int) (ax : Int) (cn : Int) (ln : Int) (fc : Int) (ac : Int) (wc : Int) (wp : Int) (i : Int) (H : Heap) (locs : List Loc) (ls : Array Slot), ((L : Int) - i).toNat < fuel → (Dok xs ys lf sz) → (MkR lb kd pt mn so nu al ak ap an ax so9 nu9 al9 ak9 ap9 ac) → (Cok cx cr cl ll cn) → (Rok rw ln) → ((0 ≤ en ∧ en ≤ 100000) ∧ (0 ≤ mg ∧ mg ≤ 100000)) → (ShR tl tm ts tc tl9 ts9 tc9) → (0 ≤ i ∧ i ≤ (L : Int)) → lv_has ls 4 [(3, .int (iI i)), (2, .ref (aR 0)), (1, .ref (aB 0)), (0, .ref (b))] → zW D A s.heap H locs (wB cI cZ aB aD aM aA aS aC aL aT di en mg ++ wD cI cZ aD xs ys lf ev nm sz ++ wM cI cZ aM lb kd pt mn ++ wA cI cZ aA so nu al ak ap an ax ++ wS cI cZ aS he ar le ++ wC cI cZ aC cx cr cl ll cn ++ wL cI cZ aL rw fn fp ln fc ++ wT cI cZ aT tl tm ts tc ++ wR cI cZ aR xs ys lf ev9 nm9 lb kd pt so9 nu9 al9 ak9 ap9 hh9 le9 rw cx cr cl ll tl9 ts9 tc9 sz mn ac en mg ln cn wc wp) → W p l e room_1 s m #[Value.ref b] below meth c H locs 60 2598 Q (F0 m 18 ls []) := by
    intro fuel
    induction fuel with
    | zero => intro di xs ys lf ev nm lb kd pt so nu al ak ap he ar le cx cr cl ll rw fn fp tl tm ts tc ev9 nm9 so9 nu9 al9 ak9 ap9 hh9 le9 tl9 ts9 tc9 en mg sz mn an ax cn ln fc ac wc wp i H locs ls hm; exact absurd hm (Nat.not_lt_zero _)
    | succ fuel ih_18 =>
      intro di xs ys lf ev nm lb kd pt so nu al ak ap he ar le cx cr cl ll rw fn fp tl tm ts tc ev9 nm9 so9 nu9 al9 ak9 ap9 hh9 le9 tl9 ts9 tc9 en mg sz mn an ax cn ln fc ac wc wp i H locs ls hm_18 hd hmk hc hr he9 hsh g0 hl hW
      refine z_iloadn F (pc := 18) dL_law_18 rfl (lv_at hl 0 rfl) ?_
      refine z_aloadn F (pc := 19) dL_law_19 rfl (lv_at hl 3 rfl) ?_
      refine z_slen F (pc := 20) hX hbl hbA hW dL_law_20 ?_
      refine z_bipush F (pc := 21) (8) (by decide +kernel) dL_law_21 ?_
      refine z_isub F (pc := 23) dL_law_23 ?_
      refine z_icmp_gt F (pc := 24) 1020 dL_law_24 (by decide) (by omega) (fun c_24 => ?_) (fun c_24 => ?_)
      · skip
        refine z_iconst F (pc := 1020) (1) dL_law_1020 ?_
        exact hend _ _ _ _ dL_law_1021 hW.2.2.2.2
      · skip
        have q1 := sv_r xs0 (i + 1)
        have q2 := sv_r xs0 (i + 2)
        have q3 := sv_r xs0 (i + 3)
        have q4 := sv_r xs0 (i + 4)
        have q5 := sv_r xs0 (i + 5)
        have q6 := sv_r xs0 (i + 6)
        have q7 := sv_r xs0 (i + 7)
        have hmm := hmk.1
        have haa := hmk.2.2.2.2.1
        have hac := hmk.2.2.2.2.2.1
        have hd0 := hd.1
        have hc0 := hc.1
        have hr0 := hr.1
        have hw9 := wy_r hd (q := sz) (Int.le_refl _)
        refine z_aloadn F (pc := 27) dL_law_27 rfl (lv_at hl 3 rfl) ?_
        refine z_iloadn F (pc := 28) dL_law_28 rfl (lv_at hl 0 rfl) ?_
        refine z_sld F (pc := 29) hX hbl hbA hW hL (by omega) dL_law_29 ?_
        refine z_bipush F (pc := 30) (31) (by decide +kernel) dL_law_30 ?_
        refine z_iandQ F (pc := 32) dL_law_32 (fun q_32 r_q32 => ?_)
        by_cases t_0 : q_32 = 0
        · refine lv_tableIn F.1 F.2.1 (pc := 33) (off := 127) (tgt := 160) dL_law_33 (by rw [iI_toInt (by omega)]; omega) (by rw [iI_toInt (by omega)]; omega) (by rw [iI_toInt (by omega), t_0]; rfl) (by decide) ?_
          refine z_aloadn F (pc := 160) dL_law_160 rfl (lv_at hl 2 rfl) ?_
          refine z_aloadn F (pc := 161) dL_law_161 rfl (lv_at hl 3 rfl) ?_
          refine z_iloadn F (pc := 162) dL_law_162 rfl (lv_at hl 0 rfl) ?_
          refine z_iconst F (pc := 163) (1) dL_law_163 ?_
          refine z_iadd F (pc := 164) dL_law_164 ?_
          refine z_sld F (pc := 165) hX hbl hbA hW hL (by omega) dL_law_165 ?_
          refine z_aloadn F (pc := 166) dL_law_166 rfl (lv_at hl 3 rfl) ?_
          refine z_iloadn F (pc := 167) dL_law_167 rfl (lv_at hl 0 rfl) ?_
          refine z_iconst F (pc := 168) (2) dL_law_168 ?_
          refine z_iadd F (pc := 169) dL_law_169 ?_
          refine z_sld F (pc := 170) hX hbl hbA hW hL (by omega) dL_law_170 ?_
          refine z_aloadn F (pc := 171) dL_law_171 rfl (lv_at hl 3 rfl) ?_
          refine z_iloadn F (pc := 172) dL_law_172 rfl (lv_at hl 0 rfl) ?_
          refine z_iconst F (pc := 173) (3) dL_law_173 ?_
          refine z_iadd F (pc := 174) dL_law_174 ?_
          refine z_sld F (pc := 175) hX hbl hbA hW hL (by omega) dL_law_175 ?_
          refine z_if_eq F (pc := 176) 183 dL_law_176 (by decide) (by omega) (fun c_176 => ?_) (fun c_176 => ?_)
          · skip
            refine z_iconst F (pc := 183) (0) dL_law_183 ?_
            refine z_callVi F (pc := 184) hK hW hA (As := [.int (iI (sv xs0 (i + 1))), .int (iI (sv xs0 (i + 2))), .int (iI 0)]) (rest := []) (ws' := fun (u : (Int → Int) × (Int → Int) × (Int → Int) × (Int)) => wB cI cZ aB aD aM aA aS aC aL aT di en mg ++ wD cI cZ aD u.1 u.2.1 u.2.2.1 ev nm u.2.2.2 ++ wM cI cZ aM lb kd pt mn ++ wA cI cZ aA so nu al ak ap an ax ++ wS cI cZ aS he ar le ++ wC cI cZ aC cx cr cl ll cn ++ wL cI cZ aL rw fn fp ln fc ++ wT cI cZ aT tl tm ts tc ++ wR cI cZ aR xs ys lf ev9 nm9 lb kd pt so9 nu9 al9 ak9 ap9 hh9 le9 rw cx cr cl ll tl9 ts9 tc9 sz mn ac en mg ln cn wc wp) (wr := (wM cI cZ aM lb kd pt mn ++ wA cI cZ aA so nu al ak ap an ax ++ wS cI cZ aS he ar le ++ wC cI cZ aC cx cr cl ll cn ++ wL cI cZ aL rw fn fp ln fc ++ wT cI cZ aT tl tm ts tc ++ wR cI cZ aR xs ys lf ev9 nm9 lb kd pt so9 nu9 al9 ak9 ap9 hh9 le9 rw cx cr cl ll tl9 ts9 tc9 sz mn ac en mg ln cn wc wp)) (c_X7_point l D cI cZ aB aD aM aA aS aC aL aT di xs ys lf ev nm en mg sz (sv xs0 (i + 1)) (sv xs0 (i + 2)) 0 _ (by omega) (by omega) (by omega) (by first | exact hd | exact hd.1) (by omega)) (cwV 3 F.2.2.2.2 gL_law_X7_point rfl rfl rfl (by decide +kernel) ⟨Nat.le_of_ble_eq_true rfl, Nat.le_of_ble_eq_true rfl⟩) [0, 1, 2, 3, 4, 5, 6, 7] [8, 9, 10, 11, 12, 13, 14, 15, 16, 17, 18, 19, 20, 21, 22, 23, 24, 25, 26, 27, 28, 29, 30, 31, 32, 33, 34, 35, 36, 37, 38, 39, 40, 41, 42, 43, 44, 45, 46, 47, 48, 49, 50, 51, 52, 53, 54, 55, 56, 57, 58, 59] [52, 53, 54, 55, 56, 57, 58, 59, 0, 1, 2, 3, 4, 5, 6, 7, 8, 9, 10, 11, 12, 13, 14, 15, 16, 17, 18, 19, 20, 21, 22, 23, 24, 25, 26, 27, 28, 29, 30, 31, 32, 33, 34, 35, 36, 37, 38, 39, 40, 41, 42, 43, 44, 45, 46, 47, 48, 49, 50, 51] rfl rfl (by decide) (by decide) (by decide) (fun _ => rfl) (by decide) (q0 := 0) (ci := 7) rfl rfl rfl rfl rfl hl.1 (Nat.le_of_ble_eq_true rfl) dL_law_184 ⟨Nat.le_of_ble_eq_true rfl, Nat.le_of_ble_eq_true rfl⟩ (fun z_184 u H locs r_z_184 hp_184 hW => ?_)
            obtain ⟨xs2_184, ys2_184, lf2_184, sz2_184⟩ := u
            dsimp only at hp_184 hW
            refine z_aloadn F (pc := 187) dL_law_187 rfl (lv_at hl 1 rfl) ?_
            refine z_aloadn F (pc := 188) dL_law_188 rfl (lv_at hl 3 rfl) ?_
            refine z_iloadn F (pc := 189) dL_law_189 rfl (lv_at hl 0 rfl) ?_
            refine z_iconst F (pc := 190) (1) dL_law_190 ?_
            refine z_iadd F (pc := 191) dL_law_191 ?_
            refine z_sld F (pc := 192) hX hbl hbA hW hL (by omega) dL_law_192 ?_
            refine z_aloadn F (pc := 193) dL_law_193 rfl (lv_at hl 3 rfl) ?_
            refine z_iloadn F (pc := 194) dL_law_194 rfl (lv_at hl 0 rfl) ?_
            refine z_iconst F (pc := 195) (2) dL_law_195 ?_
            refine z_iadd F (pc := 196) dL_law_196 ?_
            refine z_sld F (pc := 197) hX hbl hbA hW hL (by omega) dL_law_197 ?_
            refine z_aloadn F (pc := 198) dL_law_198 rfl (lv_at hl 3 rfl) ?_
            refine z_iloadn F (pc := 199) dL_law_199 rfl (lv_at hl 0 rfl) ?_
            refine z_iconst F (pc := 200) (3) dL_law_200 ?_
            refine z_iadd F (pc := 201) dL_law_201 ?_
            refine z_sld F (pc := 202) hX hbl hbA hW hL (by omega) dL_law_202 ?_
            refine z_if_eq F (pc := 203) 210 dL_law_203 (by decide) (by omega) (fun c_203 => ?_) (fun c_203 => ?_)
            · skip
              refine z_iconst F (pc := 210) (0) dL_law_210 ?_
              refine z_callVi F (pc := 211) hK hW hA (As := [.int (iI (sv xs0 (i + 1))), .int (iI (sv xs0 (i + 2))), .int (iI 0)]) (rest := [.int (iI z_184)]) (ws' := fun (u : (Int → Int) × (Int → Int) × (Int → Int) × (Int)) => wB cI cZ aB aD aM aA aS aC aL aT di en mg ++ wD cI cZ aD xs2_184 ys2_184 lf2_184 ev nm sz2_184 ++ wM cI cZ aM lb kd pt mn ++ wA cI cZ aA so nu al ak ap an ax ++ wS cI cZ aS he ar le ++ wC cI cZ aC cx cr cl ll cn ++ wL cI cZ aL rw fn fp ln fc ++ wT cI cZ aT tl tm ts tc ++ wR cI cZ aR u.1 u.2.1 u.2.2.1 ev9 nm9 lb kd pt so9 nu9 al9 ak9 ap9 hh9 le9 rw cx cr cl ll tl9 ts9 tc9 u.2.2.2 mn ac en mg ln cn wc wp) (wr := (wB cI cZ aB aD aM aA aS aC aL aT di en mg ++ wD cI cZ aD xs2_184 ys2_184 lf2_184 ev nm sz2_184 ++ wM cI cZ aM lb kd pt mn ++ wA cI cZ aA so nu al ak ap an ax ++ wS cI cZ aS he ar le ++ wC cI cZ aC cx cr cl ll cn ++ wL cI cZ aL rw fn fp ln fc ++ wT cI cZ aT tl tm ts tc)) (c_X8_point l D cI cZ aR xs ys lf ev9 nm9 lb kd pt so9 nu9 al9 ak9 ap9 hh9 le9 rw cx cr cl ll tl9 ts9 tc9 sz mn ac en mg ln cn wc wp (sv xs0 (i + 1)) (sv xs0 (i + 2)) 0 _ (by omega) (by omega) (by omega) (by first | exact hd | exact hd.1) (by omega)) (cwV 3 F.2.2.2.2 gL_law_X8_point rfl rfl rfl (by decide +kernel) ⟨Nat.le_of_ble_eq_true rfl, Nat.le_of_ble_eq_true rfl⟩) [36, 37, 38, 39, 40, 41, 42, 43, 44, 45, 46, 47, 48, 49, 50, 51, 52, 53, 54, 55, 56, 57, 58, 59] [0, 1, 2, 3, 4, 5, 6, 7, 8, 9, 10, 11, 12, 13, 14, 15, 16, 17, 18, 19, 20, 21, 22, 23, 24, 25, 26, 27, 28, 29, 30, 31, 32, 33, 34, 35] [0, 1, 2, 3, 4, 5, 6, 7, 8, 9, 10, 11, 12, 13, 14, 15, 16, 17, 18, 19, 20, 21, 22, 23, 24, 25, 26, 27, 28, 29, 30, 31, 32, 33, 34, 35, 36, 37, 38, 39, 40, 41, 42, 43, 44, 45, 46, 47, 48, 49, 50, 51, 52, 53, 54, 55, 56, 57, 58, 59] rfl rfl (by decide) (by decide) (by decide) (fun _ => rfl) (by decide) (q0 := 36) (ci := 8) rfl rfl rfl rfl rfl hl.1 (Nat.le_of_ble_eq_true rfl) dL_law_211 ⟨Nat.le_of_ble_eq_true rfl, Nat.le_of_ble_eq_true rfl⟩ (fun z_211 u H locs r_z_211 hp_211 hW => ?_)
              obtain ⟨xs2_211, ys2_211, lf2_211, sz2_211⟩ := u
              dsimp only at hp_211 hW
              obtain ⟨hans, e_xs, e_ys, e_lf, e_sz, hd⟩ := addP_step hd hp_184 hp_211
              have hWz := hW
              subst e_xs
              have hW := hWz
              have hWz := hW
              subst e_ys
              have hW := hWz
              have hWz := hW
              subst e_lf
              have hW := hWz
              have hWz := hW
              subst e_sz
              have hW := hWz
              refine z_icmp_eq F (pc := 214) 1014 dL_law_214 (by decide) (by omega) (fun c_214 => ?_) (fun c_214 => ?_)
              · skip
                refine z_iinc F (pc := 1014) hl (lv' := [(3, .int (iI (i + 8))), (2, .ref (aR 0)), (1, .ref (aB 0)), (0, .ref (b))]) dL_law_1014 (k := 0) rfl (by decide) rfl (fun ls hl => ?_)
                refine z_goto F (pc := 1017) 18 dL_law_1017 (by decide) ?_
                exact ih_18 di xs2_211 ys2_211 lf2_211 ev nm lb kd pt so nu al ak ap he ar le cx cr cl ll rw fn fp tl tm ts tc ev9 nm9 so9 nu9 al9 ak9 ap9 hh9 le9 tl9 ts9 tc9 en mg sz2_211 mn an ax cn ln fc ac wc wp (i + 8) _ _ _ (by omega) (by exact hd) (by exact hmk) (by exact hc) (by exact hr) (by exact he9) (by exact hsh) (by omega) (lv_sub hl [0, 1, 2, 3] rfl) hW
              · skip
                exact absurd (by omega) c_214
            · skip
              exfalso; omega
          · skip
            refine z_iconst F (pc := 179) (1) dL_law_179 ?_
            refine z_goto F (pc := 180) 184 dL_law_180 (by decide) ?_
            refine z_callVi F (pc := 184) hK hW hA (As := [.int (iI (sv xs0 (i + 1))), .int (iI (sv xs0 (i + 2))), .int (iI 1)]) (rest := []) (ws' := fun (u : (Int → Int) × (Int → Int) × (Int → Int) × (Int)) => wB cI cZ aB aD aM aA aS aC aL aT di en mg ++ wD cI cZ aD u.1 u.2.1 u.2.2.1 ev nm u.2.2.2 ++ wM cI cZ aM lb kd pt mn ++ wA cI cZ aA so nu al ak ap an ax ++ wS cI cZ aS he ar le ++ wC cI cZ aC cx cr cl ll cn ++ wL cI cZ aL rw fn fp ln fc ++ wT cI cZ aT tl tm ts tc ++ wR cI cZ aR xs ys lf ev9 nm9 lb kd pt so9 nu9 al9 ak9 ap9 hh9 le9 rw cx cr cl ll tl9 ts9 tc9 sz mn ac en mg ln cn wc wp) (wr := (wM cI cZ aM lb kd pt mn ++ wA cI cZ aA so nu al ak ap an ax ++ wS cI cZ aS he ar le ++ wC cI cZ aC cx cr cl ll cn ++ wL cI cZ aL rw fn fp ln fc ++ wT cI cZ aT tl tm ts tc ++ wR cI cZ aR xs ys lf ev9 nm9 lb kd pt so9 nu9 al9 ak9 ap9 hh9 le9 rw cx cr cl ll tl9 ts9 tc9 sz mn ac en mg ln cn wc wp)) (c_X7_point l D cI cZ aB aD aM aA aS aC aL aT di xs ys lf ev nm en mg sz (sv xs0 (i + 1)) (sv xs0 (i + 2)) 1 _ (by omega) (by omega) (by omega) (by first | exact hd | exact hd.1) (by omega)) (cwV 3 F.2.2.2.2 gL_law_X7_point rfl rfl rfl (by decide +kernel) ⟨Nat.le_of_ble_eq_true rfl, Nat.le_of_ble_eq_true rfl⟩) [0, 1, 2, 3, 4, 5, 6, 7] [8, 9, 10, 11, 12, 13, 14, 15, 16, 17, 18, 19, 20, 21, 22, 23, 24, 25, 26, 27, 28, 29, 30, 31, 32, 33, 34, 35, 36, 37, 38, 39, 40, 41, 42, 43, 44, 45, 46, 47, 48, 49, 50, 51, 52, 53, 54, 55, 56, 57, 58, 59] [52, 53, 54, 55, 56, 57, 58, 59, 0, 1, 2, 3, 4, 5, 6, 7, 8, 9, 10, 11, 12, 13, 14, 15, 16, 17, 18, 19, 20, 21, 22, 23, 24, 25, 26, 27, 28, 29, 30, 31, 32, 33, 34, 35, 36, 37, 38, 39, 40, 41, 42, 43, 44, 45, 46, 47, 48, 49, 50, 51] rfl rfl (by decide) (by decide) (by decide) (fun _ => rfl) (by decide) (q0 := 0) (ci := 7) rfl rfl rfl rfl rfl hl.1 (Nat.le_of_ble_eq_true rfl) dL_law_184 ⟨Nat.le_of_ble_eq_true rfl, Nat.le_of_ble_eq_true rfl⟩ (fun z_184 u H locs r_z_184 hp_184 hW => ?_)
            obtain ⟨xs2_184, ys2_184, lf2_184, sz2_184⟩ := u
            dsimp only at hp_184 hW
            refine z_aloadn F (pc := 187) dL_law_187 rfl (lv_at hl 1 rfl) ?_
            refine z_aloadn F (pc := 188) dL_law_188 rfl (lv_at hl 3 rfl) ?_
            refine z_iloadn F (pc := 189) dL_law_189 rfl (lv_at hl 0 rfl) ?_
            refine z_iconst F (pc := 190) (1) dL_law_190 ?_
            refine z_iadd F (pc := 191) dL_law_191 ?_
            refine z_sld F (pc := 192) hX hbl hbA hW hL (by omega) dL_law_192 ?_
            refine z_aloadn F (pc := 193) dL_law_193 rfl (lv_at hl 3 rfl) ?_
            refine z_iloadn F (pc := 194) dL_law_194 rfl (lv_at hl 0 rfl) ?_
            refine z_iconst F (pc := 195) (2) dL_law_195 ?_
            refine z_iadd F (pc := 196) dL_law_196 ?_
            refine z_sld F (pc := 197) hX hbl hbA hW hL (by omega) dL_law_197 ?_
            refine z_aloadn F (pc := 198) dL_law_198 rfl (lv_at hl 3 rfl) ?_
            refine z_iloadn F (pc := 199) dL_law_199 rfl (lv_at hl 0 rfl) ?_
            refine z_iconst F (pc := 200) (3) dL_law_200 ?_
            refine z_iadd F (pc := 201) dL_law_201 ?_
            refine z_sld F (pc := 202) hX hbl hbA hW hL (by omega) dL_law_202 ?_
            refine z_if_eq F (pc := 203) 210 dL_law_203 (by decide) (by omega) (fun c_203 => ?_) (fun c_203 => ?_)
            · skip
              exfalso; omega
            · skip
              refine z_iconst F (pc := 206) (1) dL_law_206 ?_
              refine z_goto F (pc := 207) 211 dL_law_207 (by decide) ?_
              refine z_callVi F (pc := 211) hK hW hA (As := [.int (iI (sv xs0 (i + 1))), .int (iI (sv xs0 (i + 2))), .int (iI 1)]) (rest := [.int (iI z_184)]) (ws' := fun (u : (Int → Int) × (Int → Int) × (Int → Int) × (Int)) => wB cI cZ aB aD aM aA aS aC aL aT di en mg ++ wD cI cZ aD xs2_184 ys2_184 lf2_184 ev nm sz2_184 ++ wM cI cZ aM lb kd pt mn ++ wA cI cZ aA so nu al ak ap an ax ++ wS cI cZ aS he ar le ++ wC cI cZ aC cx cr cl ll cn ++ wL cI cZ aL rw fn fp ln fc ++ wT cI cZ aT tl tm ts tc ++ wR cI cZ aR u.1 u.2.1 u.2.2.1 ev9 nm9 lb kd pt so9 nu9 al9 ak9 ap9 hh9 le9 rw cx cr cl ll tl9 ts9 tc9 u.2.2.2 mn ac en mg ln cn wc wp) (wr := (wB cI cZ aB aD aM aA aS aC aL aT di en mg ++ wD cI cZ aD xs2_184 ys2_184 lf2_184 ev nm sz2_184 ++ wM cI cZ aM lb kd pt mn ++ wA cI cZ aA so nu al ak ap an ax ++ wS cI cZ aS he ar le ++ wC cI cZ aC cx cr cl ll cn ++ wL cI cZ aL rw fn fp ln fc ++ wT cI cZ aT tl tm ts tc)) (c_X8_point l D cI cZ aR xs ys lf ev9 nm9 lb kd pt so9 nu9 al9 ak9 ap9 hh9 le9 rw cx cr cl ll tl9 ts9 tc9 sz mn ac en mg ln cn wc wp (sv xs0 (i + 1)) (sv xs0 (i + 2)) 1 _ (by omega) (by omega) (by omega) (by first | exact hd | exact hd.1) (by omega)) (cwV 3 F.2.2.2.2 gL_law_X8_point rfl rfl rfl (by decide +kernel) ⟨Nat.le_of_ble_eq_true rfl, Nat.le_of_ble_eq_true rfl⟩) [36, 37, 38, 39, 40, 41, 42, 43, 44, 45, 46, 47, 48, 49, 50, 51, 52, 53, 54, 55, 56, 57, 58, 59] [0, 1, 2, 3, 4, 5, 6, 7, 8, 9, 10, 11, 12, 13, 14, 15, 16, 17, 18, 19, 20, 21, 22, 23, 24, 25, 26, 27, 28, 29, 30, 31, 32, 33, 34, 35] [0, 1, 2, 3, 4, 5, 6, 7, 8, 9, 10, 11, 12, 13, 14, 15, 16, 17, 18, 19, 20, 21, 22, 23, 24, 25, 26, 27, 28, 29, 30, 31, 32, 33, 34, 35, 36, 37, 38, 39, 40, 41, 42, 43, 44, 45, 46, 47, 48, 49, 50, 51, 52, 53, 54, 55, 56, 57, 58, 59] rfl rfl (by decide) (by decide) (by decide) (fun _ => rfl) (by decide) (q0 := 36) (ci := 8) rfl rfl rfl rfl rfl hl.1 (Nat.le_of_ble_eq_true rfl) dL_law_211 ⟨Nat.le_of_ble_eq_true rfl, Nat.le_of_ble_eq_true rfl⟩ (fun z_211 u H locs r_z_211 hp_211 hW => ?_)
              obtain ⟨xs2_211, ys2_211, lf2_211, sz2_211⟩ := u
              dsimp only at hp_211 hW
              obtain ⟨hans, e_xs, e_ys, e_lf, e_sz, hd⟩ := addP_step hd hp_184 hp_211
              have hWz := hW
              subst e_xs
              have hW := hWz
              have hWz := hW
              subst e_ys
              have hW := hWz
              have hWz := hW
              subst e_lf
              have hW := hWz
              have hWz := hW
              subst e_sz
              have hW := hWz
              refine z_icmp_eq F (pc := 214) 1014 dL_law_214 (by decide) (by omega) (fun c_214 => ?_) (fun c_214 => ?_)
              · skip
                refine z_iinc F (pc := 1014) hl (lv' := [(3, .int (iI (i + 8))), (2, .ref (aR 0)), (1, .ref (aB 0)), (0, .ref (b))]) dL_law_1014 (k := 0) rfl (by decide) rfl (fun ls hl => ?_)
                refine z_goto F (pc := 1017) 18 dL_law_1017 (by decide) ?_
                exact ih_18 di xs2_211 ys2_211 lf2_211 ev nm lb kd pt so nu al ak ap he ar le cx cr cl ll rw fn fp tl tm ts tc ev9 nm9 so9 nu9 al9 ak9 ap9 hh9 le9 tl9 ts9 tc9 en mg sz2_211 mn an ax cn ln fc ac wc wp (i + 8) _ _ _ (by omega) (by exact hd) (by exact hmk) (by exact hc) (by exact hr) (by exact he9) (by exact hsh) (by omega) (lv_sub hl [0, 1, 2, 3] rfl) hW
              · skip
                exact absurd (by omega) c_214
        by_cases t_1 : q_32 = 1
        · refine lv_tableIn F.1 F.2.1 (pc := 33) (off := 186) (tgt := 219) dL_law_33 (by rw [iI_toInt (by omega)]; omega) (by rw [iI_toInt (by omega)]; omega) (by rw [iI_toInt (by omega), t_1]; rfl) (by decide) ?_
          refine z_aloadn F (pc := 219) dL_law_219 rfl (lv_at hl 2 rfl) ?_
          refine z_callVi F (pc := 220) hK hW hA (As := []) (rest := []) (ws' := fun (u : (Int)) => wB cI cZ aB aD aM aA aS aC aL aT di en mg ++ wD cI cZ aD xs ys lf ev nm u ++ wM cI cZ aM lb kd pt mn ++ wA cI cZ aA so nu al ak ap an ax ++ wS cI cZ aS he ar le ++ wC cI cZ aC cx cr cl ll cn ++ wL cI cZ aL rw fn fp ln fc ++ wT cI cZ aT tl tm ts tc ++ wR cI cZ aR xs ys lf ev9 nm9 lb kd pt so9 nu9 al9 ak9 ap9 hh9 le9 rw cx cr cl ll tl9 ts9 tc9 sz mn ac en mg ln cn wc wp) (wr := (wM cI cZ aM lb kd pt mn ++ wA cI cZ aA so nu al ak ap an ax ++ wS cI cZ aS he ar le ++ wC cI cZ aC cx cr cl ll cn ++ wL cI cZ aL rw fn fp ln fc ++ wT cI cZ aT tl tm ts tc ++ wR cI cZ aR xs ys lf ev9 nm9 lb kd pt so9 nu9 al9 ak9 ap9 hh9 le9 rw cx cr cl ll tl9 ts9 tc9 sz mn ac en mg ln cn wc wp)) (c_X7_clear l D cI cZ aB aD aM aA aS aC aL aT di xs ys lf ev nm en mg sz _ (by first | exact hd | exact hd.1)) (cwV 0 F.2.2.2.2 gL_law_X7_clear rfl rfl rfl (by decide +kernel) ⟨Nat.le_of_ble_eq_true rfl, Nat.le_of_ble_eq_true rfl⟩) [0, 1, 2, 3, 4, 5, 6, 7] [8, 9, 10, 11, 12, 13, 14, 15, 16, 17, 18, 19, 20, 21, 22, 23, 24, 25, 26, 27, 28, 29, 30, 31, 32, 33, 34, 35, 36, 37, 38, 39, 40, 41, 42, 43, 44, 45, 46, 47, 48, 49, 50, 51, 52, 53, 54, 55, 56, 57, 58, 59] [52, 53, 54, 55, 56, 57, 58, 59, 0, 1, 2, 3, 4, 5, 6, 7, 8, 9, 10, 11, 12, 13, 14, 15, 16, 17, 18, 19, 20, 21, 22, 23, 24, 25, 26, 27, 28, 29, 30, 31, 32, 33, 34, 35, 36, 37, 38, 39, 40, 41, 42, 43, 44, 45, 46, 47, 48, 49, 50, 51] rfl rfl (by decide) (by decide) (by decide) (fun _ => rfl) (by decide) (q0 := 0) (ci := 7) rfl rfl rfl rfl rfl hl.1 (Nat.le_of_ble_eq_true rfl) dL_law_220 ⟨Nat.le_of_ble_eq_true rfl, Nat.le_of_ble_eq_true rfl⟩ (fun z_220 u H locs r_z_220 hp_220 hW => ?_)
          obtain ⟨sz2_220, rfl⟩ : ∃ v, v = u := ⟨_, rfl⟩
          obtain ⟨e_z_220, hp_220⟩ := hp_220
          replace e_z_220 := e_z_220.symm
          subst e_z_220
          refine z_aloadn F (pc := 223) dL_law_223 rfl (lv_at hl 1 rfl) ?_
          refine z_callVi F (pc := 224) hK hW hA (As := []) (rest := [.int (iI sz)]) (ws' := fun (u : (Int)) => wB cI cZ aB aD aM aA aS aC aL aT di en mg ++ wD cI cZ aD xs ys lf ev nm sz2_220 ++ wM cI cZ aM lb kd pt mn ++ wA cI cZ aA so nu al ak ap an ax ++ wS cI cZ aS he ar le ++ wC cI cZ aC cx cr cl ll cn ++ wL cI cZ aL rw fn fp ln fc ++ wT cI cZ aT tl tm ts tc ++ wR cI cZ aR xs ys lf ev9 nm9 lb kd pt so9 nu9 al9 ak9 ap9 hh9 le9 rw cx cr cl ll tl9 ts9 tc9 u mn ac en mg ln cn wc wp) (wr := (wB cI cZ aB aD aM aA aS aC aL aT di en mg ++ wD cI cZ aD xs ys lf ev nm sz2_220 ++ wM cI cZ aM lb kd pt mn ++ wA cI cZ aA so nu al ak ap an ax ++ wS cI cZ aS he ar le ++ wC cI cZ aC cx cr cl ll cn ++ wL cI cZ aL rw fn fp ln fc ++ wT cI cZ aT tl tm ts tc)) (c_X8_clear l D cI cZ aR xs ys lf ev9 nm9 lb kd pt so9 nu9 al9 ak9 ap9 hh9 le9 rw cx cr cl ll tl9 ts9 tc9 sz mn ac en mg ln cn wc wp _ (by first | exact hd | exact hd.1)) (cwV 0 F.2.2.2.2 gL_law_X8_clear rfl rfl rfl (by decide +kernel) ⟨Nat.le_of_ble_eq_true rfl, Nat.le_of_ble_eq_true rfl⟩) [36, 37, 38, 39, 40, 41, 42, 43, 44, 45, 46, 47, 48, 49, 50, 51, 52, 53, 54, 55, 56, 57, 58, 59] [0, 1, 2, 3, 4, 5, 6, 7, 8, 9, 10, 11, 12, 13, 14, 15, 16, 17, 18, 19, 20, 21, 22, 23, 24, 25, 26, 27, 28, 29, 30, 31, 32, 33, 34, 35] [0, 1, 2, 3, 4, 5, 6, 7, 8, 9, 10, 11, 12, 13, 14, 15, 16, 17, 18, 19, 20, 21, 22, 23, 24, 25, 26, 27, 28, 29, 30, 31, 32, 33, 34, 35, 36, 37, 38, 39, 40, 41, 42, 43, 44, 45, 46, 47, 48, 49, 50, 51, 52, 53, 54, 55, 56, 57, 58, 59] rfl rfl (by decide) (by decide) (by decide) (fun _ => rfl) (by decide) (q0 := 36) (ci := 8) rfl rfl rfl rfl rfl hl.1 (Nat.le_of_ble_eq_true rfl) dL_law_224 ⟨Nat.le_of_ble_eq_true rfl, Nat.le_of_ble_eq_true rfl⟩ (fun z_224 u H locs r_z_224 hp_224 hW => ?_)
          obtain ⟨sz2_224, rfl⟩ : ∃ v, v = u := ⟨_, rfl⟩
          obtain ⟨e_z_224, hp_224⟩ := hp_224
          replace e_z_224 := e_z_224.symm
          subst e_z_224
          have hs0 : sz2_220 = 0 := hp_220
          have hs1 : sz2_224 = 0 := hp_224
          have e_q : sz2_224 = sz2_220 := hs1.trans hs0.symm
          have hWz := hW
          subst e_q
          have hW := hWz
          have hd : Dok xs ys lf sz2_224 := by rw [hs1]; exact Dok_0
          refine z_icmp_eq F (pc := 227) 1014 dL_law_227 (by decide) (by omega) (fun c_227 => ?_) (fun c_227 => ?_)
          · skip
            refine z_iinc F (pc := 1014) hl (lv' := [(3, .int (iI (i + 8))), (2, .ref (aR 0)), (1, .ref (aB 0)), (0, .ref (b))]) dL_law_1014 (k := 0) rfl (by decide) rfl (fun ls hl => ?_)
            refine z_goto F (pc := 1017) 18 dL_law_1017 (by decide) ?_
            exact ih_18 di xs ys lf ev nm lb kd pt so nu al ak ap he ar le cx cr cl ll rw fn fp tl tm ts tc ev9 nm9 so9 nu9 al9 ak9 ap9 hh9 le9 tl9 ts9 tc9 en mg sz2_224 mn an ax cn ln fc ac wc wp (i + 8) _ _ _ (by omega) (by exact hd) (by exact hmk) (by exact hc) (by exact hr) (by exact he9) (by exact hsh) (by omega) (lv_sub hl [0, 1, 2, 3] rfl) hW
          · skip
            exact absurd (by omega) c_227
        by_cases t_2 : q_32 = 2
        · refine lv_tableIn F.1 F.2.1 (pc := 33) (off := 199) (tgt := 232) dL_law_33 (by rw [iI_toInt (by omega)]; omega) (by rw [iI_toInt (by omega)]; omega) (by rw [iI_toInt (by omega), t_2]; rfl) (by decide) ?_
          refine z_aloadn F (pc := 232) dL_law_232 rfl (lv_at hl 2 rfl) ?_
          refine z_callVi F (pc := 233) hK hW hA (As := []) (rest := []) (ws' := fun (u : Unit) => wB cI cZ aB aD aM aA aS aC aL aT di en mg ++ wD cI cZ aD xs ys lf ev nm sz ++ wM cI cZ aM lb kd pt mn ++ wA cI cZ aA so nu al ak ap an ax ++ wS cI cZ aS he ar le ++ wC cI cZ aC cx cr cl ll cn ++ wL cI cZ aL rw fn fp ln fc ++ wT cI cZ aT tl tm ts tc ++ wR cI cZ aR xs ys lf ev9 nm9 lb kd pt so9 nu9 al9 ak9 ap9 hh9 le9 rw cx cr cl ll tl9 ts9 tc9 sz mn ac en mg ln cn wc wp) (wr := (wM cI cZ aM lb kd pt mn ++ wA cI cZ aA so nu al ak ap an ax ++ wS cI cZ aS he ar le ++ wC cI cZ aC cx cr cl ll cn ++ wL cI cZ aL rw fn fp ln fc ++ wT cI cZ aT tl tm ts tc ++ wR cI cZ aR xs ys lf ev9 nm9 lb kd pt so9 nu9 al9 ak9 ap9 hh9 le9 rw cx cr cl ll tl9 ts9 tc9 sz mn ac en mg ln cn wc wp)) (c_X7_way l D cI cZ aB aD aM aA aS aC aL aT di xs ys lf ev nm en mg sz _ (by first | exact hd | exact hd.1)) (cwV 0 F.2.2.2.2 gL_law_X7_way rfl rfl rfl (by decide +kernel) ⟨Nat.le_of_ble_eq_true rfl, Nat.le_of_ble_eq_true rfl⟩) [0, 1, 2, 3, 4, 5, 6, 7] [8, 9, 10, 11, 12, 13, 14, 15, 16, 17, 18, 19, 20, 21, 22, 23, 24, 25, 26, 27, 28, 29, 30, 31, 32, 33, 34, 35, 36, 37, 38, 39, 40, 41, 42, 43, 44, 45, 46, 47, 48, 49, 50, 51, 52, 53, 54, 55, 56, 57, 58, 59] [52, 53, 54, 55, 56, 57, 58, 59, 0, 1, 2, 3, 4, 5, 6, 7, 8, 9, 10, 11, 12, 13, 14, 15, 16, 17, 18, 19, 20, 21, 22, 23, 24, 25, 26, 27, 28, 29, 30, 31, 32, 33, 34, 35, 36, 37, 38, 39, 40, 41, 42, 43, 44, 45, 46, 47, 48, 49, 50, 51] rfl rfl (by decide) (by decide) (by decide) (fun _ => rfl) (by decide) (q0 := 0) (ci := 7) rfl rfl rfl rfl rfl hl.1 (Nat.le_of_ble_eq_true rfl) dL_law_233 ⟨Nat.le_of_ble_eq_true rfl, Nat.le_of_ble_eq_true rfl⟩ (fun z_233 u H locs r_z_233 hp_233 hW => ?_)
          replace hp_233 := hp_233.symm
          subst hp_233
          refine z_aloadn F (pc := 236) dL_law_236 rfl (lv_at hl 1 rfl) ?_
          refine z_callVi F (pc := 237) hK hW hA (As := []) (rest := [.int (iI (wy xs ys lf sz))]) (ws' := fun (u : Unit) => wB cI cZ aB aD aM aA aS aC aL aT di en mg ++ wD cI cZ aD xs ys lf ev nm sz ++ wM cI cZ aM lb kd pt mn ++ wA cI cZ aA so nu al ak ap an ax ++ wS cI cZ aS he ar le ++ wC cI cZ aC cx cr cl ll cn ++ wL cI cZ aL rw fn fp ln fc ++ wT cI cZ aT tl tm ts tc ++ wR cI cZ aR xs ys lf ev9 nm9 lb kd pt so9 nu9 al9 ak9 ap9 hh9 le9 rw cx cr cl ll tl9 ts9 tc9 sz mn ac en mg ln cn wc wp) (wr := (wB cI cZ aB aD aM aA aS aC aL aT di en mg ++ wD cI cZ aD xs ys lf ev nm sz ++ wM cI cZ aM lb kd pt mn ++ wA cI cZ aA so nu al ak ap an ax ++ wS cI cZ aS he ar le ++ wC cI cZ aC cx cr cl ll cn ++ wL cI cZ aL rw fn fp ln fc ++ wT cI cZ aT tl tm ts tc)) (c_X8_way l D cI cZ aR xs ys lf ev9 nm9 lb kd pt so9 nu9 al9 ak9 ap9 hh9 le9 rw cx cr cl ll tl9 ts9 tc9 sz mn ac en mg ln cn wc wp _ (by first | exact hd | exact hd.1)) (cwV 0 F.2.2.2.2 gL_law_X8_way rfl rfl rfl (by decide +kernel) ⟨Nat.le_of_ble_eq_true rfl, Nat.le_of_ble_eq_true rfl⟩) [36, 37, 38, 39, 40, 41, 42, 43, 44, 45, 46, 47, 48, 49, 50, 51, 52, 53, 54, 55, 56, 57, 58, 59] [0, 1, 2, 3, 4, 5, 6, 7, 8, 9, 10, 11, 12, 13, 14, 15, 16, 17, 18, 19, 20, 21, 22, 23, 24, 25, 26, 27, 28, 29, 30, 31, 32, 33, 34, 35] [0, 1, 2, 3, 4, 5, 6, 7, 8, 9, 10, 11, 12, 13, 14, 15, 16, 17, 18, 19, 20, 21, 22, 23, 24, 25, 26, 27, 28, 29, 30, 31, 32, 33, 34, 35, 36, 37, 38, 39, 40, 41, 42, 43, 44, 45, 46, 47, 48, 49, 50, 51, 52, 53, 54, 55, 56, 57, 58, 59] rfl rfl (by decide) (by decide) (by decide) (fun _ => rfl) (by decide) (q0 := 36) (ci := 8) rfl rfl rfl rfl rfl hl.1 (Nat.le_of_ble_eq_true rfl) dL_law_237 ⟨Nat.le_of_ble_eq_true rfl, Nat.le_of_ble_eq_true rfl⟩ (fun z_237 u H locs r_z_237 hp_237 hW => ?_)
          replace hp_237 := hp_237.symm
          subst hp_237
          refine z_icmp_eq F (pc := 240) 1014 dL_law_240 (by decide) (by omega) (fun c_240 => ?_) (fun c_240 => ?_)
          · skip
            refine z_iinc F (pc := 1014) hl (lv' := [(3, .int (iI (i + 8))), (2, .ref (aR 0)), (1, .ref (aB 0)), (0, .ref (b))]) dL_law_1014 (k := 0) rfl (by decide) rfl (fun ls hl => ?_)
            refine z_goto F (pc := 1017) 18 dL_law_1017 (by decide) ?_
            exact ih_18 di xs ys lf ev nm lb kd pt so nu al ak ap he ar le cx cr cl ll rw fn fp tl tm ts tc ev9 nm9 so9 nu9 al9 ak9 ap9 hh9 le9 tl9 ts9 tc9 en mg sz mn an ax cn ln fc ac wc wp (i + 8) _ _ _ (by omega) (by exact hd) (by exact hmk) (by exact hc) (by exact hr) (by exact he9) (by exact hsh) (by omega) (lv_sub hl [0, 1, 2, 3] rfl) hW
          · skip
            exact absurd (by omega) c_240
        by_cases t_3 : q_32 = 3
        · refine lv_tableIn F.1 F.2.1 (pc := 33) (off := 212) (tgt := 245) dL_law_33 (by rw [iI_toInt (by omega)]; omega) (by rw [iI_toInt (by omega)]; omega) (by rw [iI_toInt (by omega), t_3]; rfl) (by decide) ?_
          refine z_aloadn F (pc := 245) dL_law_245 rfl (lv_at hl 2 rfl) ?_
          refine z_aloadn F (pc := 246) dL_law_246 rfl (lv_at hl 3 rfl) ?_
          refine z_iloadn F (pc := 247) dL_law_247 rfl (lv_at hl 0 rfl) ?_
          refine z_iconst F (pc := 248) (1) dL_law_248 ?_
          refine z_iadd F (pc := 249) dL_law_249 ?_
          refine z_sld F (pc := 250) hX hbl hbA hW hL (by omega) dL_law_250 ?_
          refine z_aloadn F (pc := 251) dL_law_251 rfl (lv_at hl 3 rfl) ?_
          refine z_iloadn F (pc := 252) dL_law_252 rfl (lv_at hl 0 rfl) ?_
          refine z_iconst F (pc := 253) (2) dL_law_253 ?_
          refine z_iadd F (pc := 254) dL_law_254 ?_
          refine z_sld F (pc := 255) hX hbl hbA hW hL (by omega) dL_law_255 ?_
          refine z_callVi F (pc := 256) hK hW hA (As := [.int (iI (sv xs0 (i + 1))), .int (iI (sv xs0 (i + 2)))]) (rest := []) (ws' := fun (u : (Int → Int)) => wB cI cZ aB aD aM aA aS aC aL aT di en mg ++ wD cI cZ aD xs ys lf u nm sz ++ wM cI cZ aM lb kd pt mn ++ wA cI cZ aA so nu al ak ap an ax ++ wS cI cZ aS he ar le ++ wC cI cZ aC cx cr cl ll cn ++ wL cI cZ aL rw fn fp ln fc ++ wT cI cZ aT tl tm ts tc ++ wR cI cZ aR xs ys lf ev9 nm9 lb kd pt so9 nu9 al9 ak9 ap9 hh9 le9 rw cx cr cl ll tl9 ts9 tc9 sz mn ac en mg ln cn wc wp) (wr := (wM cI cZ aM lb kd pt mn ++ wA cI cZ aA so nu al ak ap an ax ++ wS cI cZ aS he ar le ++ wC cI cZ aC cx cr cl ll cn ++ wL cI cZ aL rw fn fp ln fc ++ wT cI cZ aT tl tm ts tc ++ wR cI cZ aR xs ys lf ev9 nm9 lb kd pt so9 nu9 al9 ak9 ap9 hh9 le9 rw cx cr cl ll tl9 ts9 tc9 sz mn ac en mg ln cn wc wp)) (c_X7_even l D cI cZ aB aD aM aA aS aC aL aT di xs ys lf ev nm en mg sz (sv xs0 (i + 1)) (sv xs0 (i + 2)) _ (by omega) (by omega) (by first | exact hd | exact hd.1)) (cwV 2 F.2.2.2.2 gL_law_X7_even rfl rfl rfl (by decide +kernel) ⟨Nat.le_of_ble_eq_true rfl, Nat.le_of_ble_eq_true rfl⟩) [0, 1, 2, 3, 4, 5, 6, 7] [8, 9, 10, 11, 12, 13, 14, 15, 16, 17, 18, 19, 20, 21, 22, 23, 24, 25, 26, 27, 28, 29, 30, 31, 32, 33, 34, 35, 36, 37, 38, 39, 40, 41, 42, 43, 44, 45, 46, 47, 48, 49, 50, 51, 52, 53, 54, 55, 56, 57, 58, 59] [52, 53, 54, 55, 56, 57, 58, 59, 0, 1, 2, 3, 4, 5, 6, 7, 8, 9, 10, 11, 12, 13, 14, 15, 16, 17, 18, 19, 20, 21, 22, 23, 24, 25, 26, 27, 28, 29, 30, 31, 32, 33, 34, 35, 36, 37, 38, 39, 40, 41, 42, 43, 44, 45, 46, 47, 48, 49, 50, 51] rfl rfl (by decide) (by decide) (by decide) (fun _ => rfl) (by decide) (q0 := 0) (ci := 7) rfl rfl rfl rfl rfl hl.1 (Nat.le_of_ble_eq_true rfl) dL_law_256 ⟨Nat.le_of_ble_eq_true rfl, Nat.le_of_ble_eq_true rfl⟩ (fun z_256 u H locs r_z_256 hp_256 hW => ?_)
          obtain ⟨ev2_256, rfl⟩ : ∃ v, v = u := ⟨_, rfl⟩
          refine z_aloadn F (pc := 259) dL_law_259 rfl (lv_at hl 1 rfl) ?_
          refine z_aloadn F (pc := 260) dL_law_260 rfl (lv_at hl 3 rfl) ?_
          refine z_iloadn F (pc := 261) dL_law_261 rfl (lv_at hl 0 rfl) ?_
          refine z_iconst F (pc := 262) (1) dL_law_262 ?_
          refine z_iadd F (pc := 263) dL_law_263 ?_
          refine z_sld F (pc := 264) hX hbl hbA hW hL (by omega) dL_law_264 ?_
          refine z_aloadn F (pc := 265) dL_law_265 rfl (lv_at hl 3 rfl) ?_
          refine z_iloadn F (pc := 266) dL_law_266 rfl (lv_at hl 0 rfl) ?_
          refine z_iconst F (pc := 267) (2) dL_law_267 ?_
          refine z_iadd F (pc := 268) dL_law_268 ?_
          refine z_sld F (pc := 269) hX hbl hbA hW hL (by omega) dL_law_269 ?_
          refine z_callVi F (pc := 270) hK hW hA (As := [.int (iI (sv xs0 (i + 1))), .int (iI (sv xs0 (i + 2)))]) (rest := [.int (iI z_256)]) (ws' := fun (u : (Int → Int)) => wB cI cZ aB aD aM aA aS aC aL aT di en mg ++ wD cI cZ aD xs ys lf ev2_256 nm sz ++ wM cI cZ aM lb kd pt mn ++ wA cI cZ aA so nu al ak ap an ax ++ wS cI cZ aS he ar le ++ wC cI cZ aC cx cr cl ll cn ++ wL cI cZ aL rw fn fp ln fc ++ wT cI cZ aT tl tm ts tc ++ wR cI cZ aR xs ys lf u nm9 lb kd pt so9 nu9 al9 ak9 ap9 hh9 le9 rw cx cr cl ll tl9 ts9 tc9 sz mn ac en mg ln cn wc wp) (wr := (wB cI cZ aB aD aM aA aS aC aL aT di en mg ++ wD cI cZ aD xs ys lf ev2_256 nm sz ++ wM cI cZ aM lb kd pt mn ++ wA cI cZ aA so nu al ak ap an ax ++ wS cI cZ aS he ar le ++ wC cI cZ aC cx cr cl ll cn ++ wL cI cZ aL rw fn fp ln fc ++ wT cI cZ aT tl tm ts tc)) (c_X8_even l D cI cZ aR xs ys lf ev9 nm9 lb kd pt so9 nu9 al9 ak9 ap9 hh9 le9 rw cx cr cl ll tl9 ts9 tc9 sz mn ac en mg ln cn wc wp (sv xs0 (i + 1)) (sv xs0 (i + 2)) _ (by omega) (by omega) (by first | exact hd | exact hd.1)) (cwV 2 F.2.2.2.2 gL_law_X8_even rfl rfl rfl (by decide +kernel) ⟨Nat.le_of_ble_eq_true rfl, Nat.le_of_ble_eq_true rfl⟩) [36, 37, 38, 39, 40, 41, 42, 43, 44, 45, 46, 47, 48, 49, 50, 51, 52, 53, 54, 55, 56, 57, 58, 59] [0, 1, 2, 3, 4, 5, 6, 7, 8, 9, 10, 11, 12, 13, 14, 15, 16, 17, 18, 19, 20, 21, 22, 23, 24, 25, 26, 27, 28, 29, 30, 31, 32, 33, 34, 35] [0, 1, 2, 3, 4, 5, 6, 7, 8, 9, 10, 11, 12, 13, 14, 15, 16, 17, 18, 19, 20, 21, 22, 23, 24, 25, 26, 27, 28, 29, 30, 31, 32, 33, 34, 35, 36, 37, 38, 39, 40, 41, 42, 43, 44, 45, 46, 47, 48, 49, 50, 51, 52, 53, 54, 55, 56, 57, 58, 59] rfl rfl (by decide) (by decide) (by decide) (fun _ => rfl) (by decide) (q0 := 36) (ci := 8) rfl rfl rfl rfl rfl hl.1 (Nat.le_of_ble_eq_true rfl) dL_law_270 ⟨Nat.le_of_ble_eq_true rfl, Nat.le_of_ble_eq_true rfl⟩ (fun z_270 u H locs r_z_270 hp_270 hW => ?_)
          obtain ⟨ev2_270, rfl⟩ : ∃ v, v = u := ⟨_, rfl⟩
          have hans := evenP_one hp_256 hp_270
          refine z_icmp_eq F (pc := 273) 1014 dL_law_273 (by decide) (by omega) (fun c_273 => ?_) (fun c_273 => ?_)
          · skip
            refine z_iinc F (pc := 1014) hl (lv' := [(3, .int (iI (i + 8))), (2, .ref (aR 0)), (1, .ref (aB 0)), (0, .ref (b))]) dL_law_1014 (k := 0) rfl (by decide) rfl (fun ls hl => ?_)
            refine z_goto F (pc := 1017) 18 dL_law_1017 (by decide) ?_
            exact ih_18 di xs ys lf ev2_256 nm lb kd pt so nu al ak ap he ar le cx cr cl ll rw fn fp tl tm ts tc ev2_270 nm9 so9 nu9 al9 ak9 ap9 hh9 le9 tl9 ts9 tc9 en mg sz mn an ax cn ln fc ac wc wp (i + 8) _ _ _ (by omega) (by exact hd) (by exact hmk) (by exact hc) (by exact hr) (by exact he9) (by exact hsh) (by omega) (lv_sub hl [0, 1, 2, 3] rfl) hW
          · skip
            exact absurd (by omega) c_273
        by_cases t_4 : q_32 = 4
        · refine lv_tableIn F.1 F.2.1 (pc := 33) (off := 245) (tgt := 278) dL_law_33 (by rw [iI_toInt (by omega)]; omega) (by rw [iI_toInt (by omega)]; omega) (by rw [iI_toInt (by omega), t_4]; rfl) (by decide) ?_
          refine z_aloadn F (pc := 278) dL_law_278 rfl (lv_at hl 2 rfl) ?_
          refine z_aloadn F (pc := 279) dL_law_279 rfl (lv_at hl 3 rfl) ?_
          refine z_iloadn F (pc := 280) dL_law_280 rfl (lv_at hl 0 rfl) ?_
          refine z_iconst F (pc := 281) (1) dL_law_281 ?_
          refine z_iadd F (pc := 282) dL_law_282 ?_
          refine z_sld F (pc := 283) hX hbl hbA hW hL (by omega) dL_law_283 ?_
          refine z_aloadn F (pc := 284) dL_law_284 rfl (lv_at hl 3 rfl) ?_
          refine z_iloadn F (pc := 285) dL_law_285 rfl (lv_at hl 0 rfl) ?_
          refine z_iconst F (pc := 286) (2) dL_law_286 ?_
          refine z_iadd F (pc := 287) dL_law_287 ?_
          refine z_sld F (pc := 288) hX hbl hbA hW hL (by omega) dL_law_288 ?_
          refine z_callVi F (pc := 289) hK hW hA (As := [.int (iI (sv xs0 (i + 1))), .int (iI (sv xs0 (i + 2)))]) (rest := []) (ws' := fun (u : (Int → Int) × (Int → Int)) => wB cI cZ aB aD aM aA aS aC aL aT di en mg ++ wD cI cZ aD xs ys lf u.1 u.2 sz ++ wM cI cZ aM lb kd pt mn ++ wA cI cZ aA so nu al ak ap an ax ++ wS cI cZ aS he ar le ++ wC cI cZ aC cx cr cl ll cn ++ wL cI cZ aL rw fn fp ln fc ++ wT cI cZ aT tl tm ts tc ++ wR cI cZ aR xs ys lf ev9 nm9 lb kd pt so9 nu9 al9 ak9 ap9 hh9 le9 rw cx cr cl ll tl9 ts9 tc9 sz mn ac en mg ln cn wc wp) (wr := (wM cI cZ aM lb kd pt mn ++ wA cI cZ aA so nu al ak ap an ax ++ wS cI cZ aS he ar le ++ wC cI cZ aC cx cr cl ll cn ++ wL cI cZ aL rw fn fp ln fc ++ wT cI cZ aT tl tm ts tc ++ wR cI cZ aR xs ys lf ev9 nm9 lb kd pt so9 nu9 al9 ak9 ap9 hh9 le9 rw cx cr cl ll tl9 ts9 tc9 sz mn ac en mg ln cn wc wp)) (c_X7_normal l D cI cZ aB aD aM aA aS aC aL aT di xs ys lf ev nm en mg sz (sv xs0 (i + 1)) (sv xs0 (i + 2)) _ (by omega) (by omega) (by first | exact hd | exact hd.1)) (cwV 2 F.2.2.2.2 gL_law_X7_normal rfl rfl rfl (by decide +kernel) ⟨Nat.le_of_ble_eq_true rfl, Nat.le_of_ble_eq_true rfl⟩) [0, 1, 2, 3, 4, 5, 6, 7] [8, 9, 10, 11, 12, 13, 14, 15, 16, 17, 18, 19, 20, 21, 22, 23, 24, 25, 26, 27, 28, 29, 30, 31, 32, 33, 34, 35, 36, 37, 38, 39, 40, 41, 42, 43, 44, 45, 46, 47, 48, 49, 50, 51, 52, 53, 54, 55, 56, 57, 58, 59] [52, 53, 54, 55, 56, 57, 58, 59, 0, 1, 2, 3, 4, 5, 6, 7, 8, 9, 10, 11, 12, 13, 14, 15, 16, 17, 18, 19, 20, 21, 22, 23, 24, 25, 26, 27, 28, 29, 30, 31, 32, 33, 34, 35, 36, 37, 38, 39, 40, 41, 42, 43, 44, 45, 46, 47, 48, 49, 50, 51] rfl rfl (by decide) (by decide) (by decide) (fun _ => rfl) (by decide) (q0 := 0) (ci := 7) rfl rfl rfl rfl rfl hl.1 (Nat.le_of_ble_eq_true rfl) dL_law_289 ⟨Nat.le_of_ble_eq_true rfl, Nat.le_of_ble_eq_true rfl⟩ (fun z_289 u H locs r_z_289 hp_289 hW => ?_)
          obtain ⟨ev2_289, nm2_289⟩ := u
          dsimp only at hp_289 hW
          refine z_aloadn F (pc := 292) dL_law_292 rfl (lv_at hl 1 rfl) ?_
          refine z_aloadn F (pc := 293) dL_law_293 rfl (lv_at hl 3 rfl) ?_
          refine z_iloadn F (pc := 294) dL_law_294 rfl (lv_at hl 0 rfl) ?_
          refine z_iconst F (pc := 295) (1) dL_law_295 ?_
          refine z_iadd F (pc := 296) dL_law_296 ?_
          refine z_sld F (pc := 297) hX hbl hbA hW hL (by omega) dL_law_297 ?_
          refine z_aloadn F (pc := 298) dL_law_298 rfl (lv_at hl 3 rfl) ?_
          refine z_iloadn F (pc := 299) dL_law_299 rfl (lv_at hl 0 rfl) ?_
          refine z_iconst F (pc := 300) (2) dL_law_300 ?_
          refine z_iadd F (pc := 301) dL_law_301 ?_
          refine z_sld F (pc := 302) hX hbl hbA hW hL (by omega) dL_law_302 ?_
          refine z_callVi F (pc := 303) hK hW hA (As := [.int (iI (sv xs0 (i + 1))), .int (iI (sv xs0 (i + 2)))]) (rest := [.int (iI z_289)]) (ws' := fun (u : (Int → Int) × (Int → Int)) => wB cI cZ aB aD aM aA aS aC aL aT di en mg ++ wD cI cZ aD xs ys lf ev2_289 nm2_289 sz ++ wM cI cZ aM lb kd pt mn ++ wA cI cZ aA so nu al ak ap an ax ++ wS cI cZ aS he ar le ++ wC cI cZ aC cx cr cl ll cn ++ wL cI cZ aL rw fn fp ln fc ++ wT cI cZ aT tl tm ts tc ++ wR cI cZ aR xs ys lf u.1 u.2 lb kd pt so9 nu9 al9 ak9 ap9 hh9 le9 rw cx cr cl ll tl9 ts9 tc9 sz mn ac en mg ln cn wc wp) (wr := (wB cI cZ aB aD aM aA aS aC aL aT di en mg ++ wD cI cZ aD xs ys lf ev2_289 nm2_289 sz ++ wM cI cZ aM lb kd pt mn ++ wA cI cZ aA so nu al ak ap an ax ++ wS cI cZ aS he ar le ++ wC cI cZ aC cx cr cl ll cn ++ wL cI cZ aL rw fn fp ln fc ++ wT cI cZ aT tl tm ts tc)) (c_X8_normal l D cI cZ aR xs ys lf ev9 nm9 lb kd pt so9 nu9 al9 ak9 ap9 hh9 le9 rw cx cr cl ll tl9 ts9 tc9 sz mn ac en mg ln cn wc wp (sv xs0 (i + 1)) (sv xs0 (i + 2)) _ (by omega) (by omega) (by first | exact hd | exact hd.1)) (cwV 2 F.2.2.2.2 gL_law_X8_normal rfl rfl rfl (by decide +kernel) ⟨Nat.le_of_ble_eq_true rfl, Nat.le_of_ble_eq_true rfl⟩) [36, 37, 38, 39, 40, 41, 42, 43, 44, 45, 46, 47, 48, 49, 50, 51, 52, 53, 54, 55, 56, 57, 58, 59] [0, 1, 2, 3, 4, 5, 6, 7, 8, 9, 10, 11, 12, 13, 14, 15, 16, 17, 18, 19, 20, 21, 22, 23, 24, 25, 26, 27, 28, 29, 30, 31, 32, 33, 34, 35] [0, 1, 2, 3, 4, 5, 6, 7, 8, 9, 10, 11, 12, 13, 14, 15, 16, 17, 18, 19, 20, 21, 22, 23, 24, 25, 26, 27, 28, 29, 30, 31, 32, 33, 34, 35, 36, 37, 38, 39, 40, 41, 42, 43, 44, 45, 46, 47, 48, 49, 50, 51, 52, 53, 54, 55, 56, 57, 58, 59] rfl rfl (by decide) (by decide) (by decide) (fun _ => rfl) (by decide) (q0 := 36) (ci := 8) rfl rfl rfl rfl rfl hl.1 (Nat.le_of_ble_eq_true rfl) dL_law_303 ⟨Nat.le_of_ble_eq_true rfl, Nat.le_of_ble_eq_true rfl⟩ (fun z_303 u H locs r_z_303 hp_303 hW => ?_)
          obtain ⟨ev2_303, nm2_303⟩ := u
          dsimp only at hp_303 hW
          have hans := normalP_one hp_289 hp_303
          refine z_icmp_eq F (pc := 306) 1014 dL_law_306 (by decide) (by omega) (fun c_306 => ?_) (fun c_306 => ?_)
          · skip
            refine z_iinc F (pc := 1014) hl (lv' := [(3, .int (iI (i + 8))), (2, .ref (aR 0)), (1, .ref (aB 0)), (0, .ref (b))]) dL_law_1014 (k := 0) rfl (by decide) rfl (fun ls hl => ?_)
            refine z_goto F (pc := 1017) 18 dL_law_1017 (by decide) ?_
            exact ih_18 di xs ys lf ev2_289 nm2_289 lb kd pt so nu al ak ap he ar le cx cr cl ll rw fn fp tl tm ts tc ev2_303 nm2_303 so9 nu9 al9 ak9 ap9 hh9 le9 tl9 ts9 tc9 en mg sz mn an ax cn ln fc ac wc wp (i + 8) _ _ _ (by omega) (by exact hd) (by exact hmk) (by exact hc) (by exact hr) (by exact he9) (by exact hsh) (by omega) (lv_sub hl [0, 1, 2, 3] rfl) hW
          · skip
            exact absurd (by omega) c_306
        by_cases t_5 : q_32 = 5
        · refine lv_tableIn F.1 F.2.1 (pc := 33) (off := 278) (tgt := 311) dL_law_33 (by rw [iI_toInt (by omega)]; omega) (by rw [iI_toInt (by omega)]; omega) (by rw [iI_toInt (by omega), t_5]; rfl) (by decide) ?_
          refine z_aloadn F (pc := 311) dL_law_311 rfl (lv_at hl 2 rfl) ?_
          refine z_aloadn F (pc := 312) dL_law_312 rfl (lv_at hl 3 rfl) ?_
          refine z_iloadn F (pc := 313) dL_law_313 rfl (lv_at hl 0 rfl) ?_
          refine z_iconst F (pc := 314) (1) dL_law_314 ?_
          refine z_iadd F (pc := 315) dL_law_315 ?_
          refine z_sld F (pc := 316) hX hbl hbA hW hL (by omega) dL_law_316 ?_
          refine z_aloadn F (pc := 317) dL_law_317 rfl (lv_at hl 3 rfl) ?_
          refine z_iloadn F (pc := 318) dL_law_318 rfl (lv_at hl 0 rfl) ?_
          refine z_iconst F (pc := 319) (2) dL_law_319 ?_
          refine z_iadd F (pc := 320) dL_law_320 ?_
          refine z_sld F (pc := 321) hX hbl hbA hW hL (by omega) dL_law_321 ?_
          refine z_callVi F (pc := 322) hK hW hA (As := [.int (iI (sv xs0 (i + 1))), .int (iI (sv xs0 (i + 2)))]) (rest := []) (ws' := fun (u : (Int → Int) × (Int → Int) × (Int → Int) × (Int → Int) × (Int → Int) × (Int) × (Int → Int) × (Int → Int) × (Int → Int) × (Int → Int) × (Int) × (Int)) => wB cI cZ aB aD aM aA aS aC aL aT di en mg ++ wD cI cZ aD xs ys lf u.1 u.2.1 sz ++ wM cI cZ aM u.2.2.1 u.2.2.2.1 u.2.2.2.2.1 u.2.2.2.2.2.1 ++ wA cI cZ aA u.2.2.2.2.2.2.1 u.2.2.2.2.2.2.2.1 u.2.2.2.2.2.2.2.2.1 u.2.2.2.2.2.2.2.2.2.1 ap u.2.2.2.2.2.2.2.2.2.2.1 u.2.2.2.2.2.2.2.2.2.2.2 ++ wS cI cZ aS he ar le ++ wC cI cZ aC cx cr cl ll cn ++ wL cI cZ aL rw fn fp ln fc ++ wT cI cZ aT tl tm ts tc ++ wR cI cZ aR xs ys lf ev9 nm9 lb kd pt so9 nu9 al9 ak9 ap9 hh9 le9 rw cx cr cl ll tl9 ts9 tc9 sz mn ac en mg ln cn wc wp) (wr := (wS cI cZ aS he ar le ++ wC cI cZ aC cx cr cl ll cn ++ wL cI cZ aL rw fn fp ln fc ++ wT cI cZ aT tl tm ts tc ++ wR cI cZ aR xs ys lf ev9 nm9 lb kd pt so9 nu9 al9 ak9 ap9 hh9 le9 rw cx cr cl ll tl9 ts9 tc9 sz mn ac en mg ln cn wc wp)) (c_X7_teach l D cI cZ aB aD aM aA aS aC aL aT di xs ys lf ev nm lb kd pt so nu al ak ap en mg sz mn an ax (sv xs0 (i + 1)) (sv xs0 (i + 2)) _ (by omega) (by omega) (by first | exact hd | exact hd.1) (by omega) (by omega)) (cwV 2 F.2.2.2.2 gL_law_X7_teach rfl rfl rfl (by decide +kernel) ⟨Nat.le_of_ble_eq_true rfl, Nat.le_of_ble_eq_true rfl⟩) [0, 1, 2, 3, 4, 5, 6, 7, 8, 9, 10, 11, 12, 13, 14, 15, 16, 17] [18, 19, 20, 21, 22, 23, 24, 25, 26, 27, 28, 29, 30, 31, 32, 33, 34, 35, 36, 37, 38, 39, 40, 41, 42, 43, 44, 45, 46, 47, 48, 49, 50, 51, 52, 53, 54, 55, 56, 57, 58, 59] [42, 43, 44, 45, 46, 47, 48, 49, 50, 51, 52, 53, 54, 55, 56, 57, 58, 59, 0, 1, 2, 3, 4, 5, 6, 7, 8, 9, 10, 11, 12, 13, 14, 15, 16, 17, 18, 19, 20, 21, 22, 23, 24, 25, 26, 27, 28, 29, 30, 31, 32, 33, 34, 35, 36, 37, 38, 39, 40, 41] rfl rfl (by decide) (by decide) (by decide) (fun _ => rfl) (by decide) (q0 := 0) (ci := 7) rfl rfl rfl rfl rfl hl.1 (Nat.le_of_ble_eq_true rfl) dL_law_322 ⟨Nat.le_of_ble_eq_true rfl, Nat.le_of_ble_eq_true rfl⟩ (fun z_322 u H locs r_z_322 hp_322 hW => ?_)
          obtain ⟨ev2_322, nm2_322, lb2_322, kd2_322, pt2_322, mn2_322, so2_322, nu2_322, al2_322, ak2_322, an2_322, ax2_322⟩ := u
          dsimp only at hp_322 hW
          refine z_aloadn F (pc := 325) dL_law_325 rfl (lv_at hl 1 rfl) ?_
          refine z_aloadn F (pc := 326) dL_law_326 rfl (lv_at hl 3 rfl) ?_
          refine z_iloadn F (pc := 327) dL_law_327 rfl (lv_at hl 0 rfl) ?_
          refine z_iconst F (pc := 328) (1) dL_law_328 ?_
          refine z_iadd F (pc := 329) dL_law_329 ?_
          refine z_sld F (pc := 330) hX hbl hbA hW hL (by omega) dL_law_330 ?_
          refine z_aloadn F (pc := 331) dL_law_331 rfl (lv_at hl 3 rfl) ?_
          refine z_iloadn F (pc := 332) dL_law_332 rfl (lv_at hl 0 rfl) ?_
          refine z_iconst F (pc := 333) (2) dL_law_333 ?_
          refine z_iadd F (pc := 334) dL_law_334 ?_
          refine z_sld F (pc := 335) hX hbl hbA hW hL (by omega) dL_law_335 ?_
          refine z_callVi F (pc := 336) hK hW hA (As := [.int (iI (sv xs0 (i + 1))), .int (iI (sv xs0 (i + 2)))]) (rest := [.int (iI z_322)]) (ws' := fun (u : (Int → Int) × (Int → Int) × (Int → Int) × (Int → Int) × (Int → Int) × (Int → Int) × (Int → Int) × (Int → Int) × (Int → Int) × (Int → Int) × (Int) × (Int)) => wB cI cZ aB aD aM aA aS aC aL aT di en mg ++ wD cI cZ aD xs ys lf ev2_322 nm2_322 sz ++ wM cI cZ aM lb2_322 kd2_322 pt2_322 mn2_322 ++ wA cI cZ aA so2_322 nu2_322 al2_322 ak2_322 ap an2_322 ax2_322 ++ wS cI cZ aS he ar le ++ wC cI cZ aC cx cr cl ll cn ++ wL cI cZ aL rw fn fp ln fc ++ wT cI cZ aT tl tm ts tc ++ wR cI cZ aR xs ys lf u.1 u.2.1 u.2.2.1 u.2.2.2.1 u.2.2.2.2.1 u.2.2.2.2.2.1 u.2.2.2.2.2.2.1 u.2.2.2.2.2.2.2.1 u.2.2.2.2.2.2.2.2.1 u.2.2.2.2.2.2.2.2.2.1 hh9 le9 rw cx cr cl ll tl9 ts9 tc9 sz u.2.2.2.2.2.2.2.2.2.2.1 u.2.2.2.2.2.2.2.2.2.2.2 en mg ln cn wc wp) (wr := (wB cI cZ aB aD aM aA aS aC aL aT di en mg ++ wD cI cZ aD xs ys lf ev2_322 nm2_322 sz ++ wM cI cZ aM lb2_322 kd2_322 pt2_322 mn2_322 ++ wA cI cZ aA so2_322 nu2_322 al2_322 ak2_322 ap an2_322 ax2_322 ++ wS cI cZ aS he ar le ++ wC cI cZ aC cx cr cl ll cn ++ wL cI cZ aL rw fn fp ln fc ++ wT cI cZ aT tl tm ts tc)) (c_X8_teach l D cI cZ aR xs ys lf ev9 nm9 lb kd pt so9 nu9 al9 ak9 ap9 hh9 le9 rw cx cr cl ll tl9 ts9 tc9 sz mn ac en mg ln cn wc wp (sv xs0 (i + 1)) (sv xs0 (i + 2)) _ (by omega) (by omega) (by first | exact hd | exact hd.1) (by omega)) (cwV 2 F.2.2.2.2 gL_law_X8_teach rfl rfl rfl (by decide +kernel) ⟨Nat.le_of_ble_eq_true rfl, Nat.le_of_ble_eq_true rfl⟩) [36, 37, 38, 39, 40, 41, 42, 43, 44, 45, 46, 47, 48, 49, 50, 51, 52, 53, 54, 55, 56, 57, 58, 59] [0, 1, 2, 3, 4, 5, 6, 7, 8, 9, 10, 11, 12, 13, 14, 15, 16, 17, 18, 19, 20, 21, 22, 23, 24, 25, 26, 27, 28, 29, 30, 31, 32, 33, 34, 35] [0, 1, 2, 3, 4, 5, 6, 7, 8, 9, 10, 11, 12, 13, 14, 15, 16, 17, 18, 19, 20, 21, 22, 23, 24, 25, 26, 27, 28, 29, 30, 31, 32, 33, 34, 35, 36, 37, 38, 39, 40, 41, 42, 43, 44, 45, 46, 47, 48, 49, 50, 51, 52, 53, 54, 55, 56, 57, 58, 59] rfl rfl (by decide) (by decide) (by decide) (fun _ => rfl) (by decide) (q0 := 36) (ci := 8) rfl rfl rfl rfl rfl hl.1 (Nat.le_of_ble_eq_true rfl) dL_law_336 ⟨Nat.le_of_ble_eq_true rfl, Nat.le_of_ble_eq_true rfl⟩ (fun z_336 u H locs r_z_336 hp_336 hW => ?_)
          obtain ⟨ev2_336, nm2_336, lb2_336, kd2_336, pt2_336, so2_336, nu2_336, al2_336, ak2_336, ap2_336, mn2_336, ac2_336⟩ := u
          dsimp only at hp_336 hW
          obtain ⟨hans, e_lb, e_kd, e_pt, e_mn, hmk⟩ := teach_step hmk hp_322.o hp_336.o
          have hWz := hW
          subst e_lb
          have hW := hWz
          have hWz := hW
          subst e_kd
          have hW := hWz
          have hWz := hW
          subst e_pt
          have hW := hWz
          have hWz := hW
          subst e_mn
          have hW := hWz
          refine z_icmp_eq F (pc := 339) 1014 dL_law_339 (by decide) (by omega) (fun c_339 => ?_) (fun c_339 => ?_)
          · skip
            refine z_iinc F (pc := 1014) hl (lv' := [(3, .int (iI (i + 8))), (2, .ref (aR 0)), (1, .ref (aB 0)), (0, .ref (b))]) dL_law_1014 (k := 0) rfl (by decide) rfl (fun ls hl => ?_)
            refine z_goto F (pc := 1017) 18 dL_law_1017 (by decide) ?_
            exact ih_18 di xs ys lf ev2_322 nm2_322 lb2_336 kd2_336 pt2_336 so2_322 nu2_322 al2_322 ak2_322 ap he ar le cx cr cl ll rw fn fp tl tm ts tc ev2_336 nm2_336 so2_336 nu2_336 al2_336 ak2_336 ap2_336 hh9 le9 tl9 ts9 tc9 en mg sz mn2_336 an2_322 ax2_322 cn ln fc ac2_336 wc wp (i + 8) _ _ _ (by omega) (by exact hd) (by exact hmk) (by exact hc) (by exact hr) (by exact he9) (by exact hsh) (by omega) (lv_sub hl [0, 1, 2, 3] rfl) hW
          · skip
            exact absurd (by omega) c_339
        by_cases t_6 : q_32 = 6
        · refine lv_tableIn F.1 F.2.1 (pc := 33) (off := 311) (tgt := 344) dL_law_33 (by rw [iI_toInt (by omega)]; omega) (by rw [iI_toInt (by omega)]; omega) (by rw [iI_toInt (by omega), t_6]; rfl) (by decide) ?_
          refine z_aloadn F (pc := 344) dL_law_344 rfl (lv_at hl 2 rfl) ?_
          refine z_aloadn F (pc := 345) dL_law_345 rfl (lv_at hl 3 rfl) ?_
          refine z_iloadn F (pc := 346) dL_law_346 rfl (lv_at hl 0 rfl) ?_
          refine z_iconst F (pc := 347) (1) dL_law_347 ?_
          refine z_iadd F (pc := 348) dL_law_348 ?_
          refine z_sld F (pc := 349) hX hbl hbA hW hL (by omega) dL_law_349 ?_
          refine z_callVi F (pc := 350) hK hW hA (As := [.int (iI (sv xs0 (i + 1)))]) (rest := []) (ws' := fun (u : (Int → Int) × (Int → Int) × (Int → Int) × (Int) × (Int → Int) × (Int → Int) × (Int → Int) × (Int → Int) × (Int → Int) × (Int) × (Int)) => wB cI cZ aB aD aM aA aS aC aL aT di en mg ++ wD cI cZ aD xs ys lf ev nm sz ++ wM cI cZ aM u.1 u.2.1 u.2.2.1 u.2.2.2.1 ++ wA cI cZ aA u.2.2.2.2.1 u.2.2.2.2.2.1 u.2.2.2.2.2.2.1 u.2.2.2.2.2.2.2.1 u.2.2.2.2.2.2.2.2.1 u.2.2.2.2.2.2.2.2.2.1 u.2.2.2.2.2.2.2.2.2.2 ++ wS cI cZ aS he ar le ++ wC cI cZ aC cx cr cl ll cn ++ wL cI cZ aL rw fn fp ln fc ++ wT cI cZ aT tl tm ts tc ++ wR cI cZ aR xs ys lf ev9 nm9 lb kd pt so9 nu9 al9 ak9 ap9 hh9 le9 rw cx cr cl ll tl9 ts9 tc9 sz mn ac en mg ln cn wc wp) (wr := (wD cI cZ aD xs ys lf ev nm sz ++ wS cI cZ aS he ar le ++ wC cI cZ aC cx cr cl ll cn ++ wL cI cZ aL rw fn fp ln fc ++ wT cI cZ aT tl tm ts tc ++ wR cI cZ aR xs ys lf ev9 nm9 lb kd pt so9 nu9 al9 ak9 ap9 hh9 le9 rw cx cr cl ll tl9 ts9 tc9 sz mn ac en mg ln cn wc wp)) (c_X7_forget l D cI cZ aB aD aM aA aS aC aL aT di lb kd pt so nu al ak ap en mg mn an ax (sv xs0 (i + 1)) _ (by omega) (by omega) (by omega) (by first | exact hmk.2.1 | exact fun j a b => ⟨hmk.2.1 j a b, hmk.2.2.1 j a b⟩)) (cwV 1 F.2.2.2.2 gL_law_X7_forget rfl rfl rfl (by decide +kernel) ⟨Nat.le_of_ble_eq_true rfl, Nat.le_of_ble_eq_true rfl⟩) [0, 1, 8, 9, 10, 11, 12, 13, 14, 15, 16, 17] [2, 3, 4, 5, 6, 7, 18, 19, 20, 21, 22, 23, 24, 25, 26, 27, 28, 29, 30, 31, 32, 33, 34, 35, 36, 37, 38, 39, 40, 41, 42, 43, 44, 45, 46, 47, 48, 49, 50, 51, 52, 53, 54, 55, 56, 57, 58, 59] [48, 49, 0, 1, 2, 3, 4, 5, 50, 51, 52, 53, 54, 55, 56, 57, 58, 59, 6, 7, 8, 9, 10, 11, 12, 13, 14, 15, 16, 17, 18, 19, 20, 21, 22, 23, 24, 25, 26, 27, 28, 29, 30, 31, 32, 33, 34, 35, 36, 37, 38, 39, 40, 41, 42, 43, 44, 45, 46, 47] rfl rfl (by decide) (by decide) (by decide) (fun _ => rfl) (by decide) (q0 := 0) (ci := 7) rfl rfl rfl rfl rfl hl.1 (Nat.le_of_ble_eq_true rfl) dL_law_350 ⟨Nat.le_of_ble_eq_true rfl, Nat.le_of_ble_eq_true rfl⟩ (fun z_350 u H locs r_z_350 hp_350 hW => ?_)
          obtain ⟨lb2_350, kd2_350, pt2_350, mn2_350, so2_350, nu2_350, al2_350, ak2_350, ap2_350, an2_350, ax2_350⟩ := u
          dsimp only at hp_350 hW
          refine z_aloadn F (pc := 353) dL_law_353 rfl (lv_at hl 1 rfl) ?_
          refine z_aloadn F (pc := 354) dL_law_354 rfl (lv_at hl 3 rfl) ?_
          refine z_iloadn F (pc := 355) dL_law_355 rfl (lv_at hl 0 rfl) ?_
          refine z_iconst F (pc := 356) (1) dL_law_356 ?_
          refine z_iadd F (pc := 357) dL_law_357 ?_
          refine z_sld F (pc := 358) hX hbl hbA hW hL (by omega) dL_law_358 ?_
          refine z_callVi F (pc := 359) hK hW hA (As := [.int (iI (sv xs0 (i + 1)))]) (rest := [.int (iI z_350)]) (ws' := fun (u : (Int → Int) × (Int → Int) × (Int → Int) × (Int → Int) × (Int → Int) × (Int → Int) × (Int → Int) × (Int → Int) × (Int) × (Int)) => wB cI cZ aB aD aM aA aS aC aL aT di en mg ++ wD cI cZ aD xs ys lf ev nm sz ++ wM cI cZ aM lb2_350 kd2_350 pt2_350 mn2_350 ++ wA cI cZ aA so2_350 nu2_350 al2_350 ak2_350 ap2_350 an2_350 ax2_350 ++ wS cI cZ aS he ar le ++ wC cI cZ aC cx cr cl ll cn ++ wL cI cZ aL rw fn fp ln fc ++ wT cI cZ aT tl tm ts tc ++ wR cI cZ aR xs ys lf ev9 nm9 u.1 u.2.1 u.2.2.1 u.2.2.2.1 u.2.2.2.2.1 u.2.2.2.2.2.1 u.2.2.2.2.2.2.1 u.2.2.2.2.2.2.2.1 hh9 le9 rw cx cr cl ll tl9 ts9 tc9 sz u.2.2.2.2.2.2.2.2.1 u.2.2.2.2.2.2.2.2.2 en mg ln cn wc wp) (wr := (wB cI cZ aB aD aM aA aS aC aL aT di en mg ++ wD cI cZ aD xs ys lf ev nm sz ++ wM cI cZ aM lb2_350 kd2_350 pt2_350 mn2_350 ++ wA cI cZ aA so2_350 nu2_350 al2_350 ak2_350 ap2_350 an2_350 ax2_350 ++ wS cI cZ aS he ar le ++ wC cI cZ aC cx cr cl ll cn ++ wL cI cZ aL rw fn fp ln fc ++ wT cI cZ aT tl tm ts tc)) (c_X8_forget l D cI cZ aR xs ys lf ev9 nm9 lb kd pt so9 nu9 al9 ak9 ap9 hh9 le9 rw cx cr cl ll tl9 ts9 tc9 sz mn ac en mg ln cn wc wp (sv xs0 (i + 1)) _ (by omega) (by omega) (by first | exact hmk.2.1 | exact fun j a b => ⟨hmk.2.1 j a b, hmk.2.2.1 j a b⟩)) (cwV 1 F.2.2.2.2 gL_law_X8_forget rfl rfl rfl (by decide +kernel) ⟨Nat.le_of_ble_eq_true rfl, Nat.le_of_ble_eq_true rfl⟩) [36, 37, 38, 39, 40, 41, 42, 43, 44, 45, 46, 47, 48, 49, 50, 51, 52, 53, 54, 55, 56, 57, 58, 59] [0, 1, 2, 3, 4, 5, 6, 7, 8, 9, 10, 11, 12, 13, 14, 15, 16, 17, 18, 19, 20, 21, 22, 23, 24, 25, 26, 27, 28, 29, 30, 31, 32, 33, 34, 35] [0, 1, 2, 3, 4, 5, 6, 7, 8, 9, 10, 11, 12, 13, 14, 15, 16, 17, 18, 19, 20, 21, 22, 23, 24, 25, 26, 27, 28, 29, 30, 31, 32, 33, 34, 35, 36, 37, 38, 39, 40, 41, 42, 43, 44, 45, 46, 47, 48, 49, 50, 51, 52, 53, 54, 55, 56, 57, 58, 59] rfl rfl (by decide) (by decide) (by decide) (fun _ => rfl) (by decide) (q0 := 36) (ci := 8) rfl rfl rfl rfl rfl hl.1 (Nat.le_of_ble_eq_true rfl) dL_law_359 ⟨Nat.le_of_ble_eq_true rfl, Nat.le_of_ble_eq_true rfl⟩ (fun z_359 u H locs r_z_359 hp_359 hW => ?_)
          obtain ⟨lb2_359, kd2_359, pt2_359, so2_359, nu2_359, al2_359, ak2_359, ap2_359, mn2_359, ac2_359⟩ := u
          dsimp only at hp_359 hW
          obtain ⟨hans, e_lb, e_kd, e_pt, e_mn, hmk⟩ := forget_step hmk hp_350.o hp_359.o
          have hWz := hW
          subst e_lb
          have hW := hWz
          have hWz := hW
          subst e_kd
          have hW := hWz
          have hWz := hW
          subst e_pt
          have hW := hWz
          have hWz := hW
          subst e_mn
          have hW := hWz
          refine z_icmp_eq F (pc := 362) 1014 dL_law_362 (by decide) (by omega) (fun c_362 => ?_) (fun c_362 => ?_)
          · skip
            refine z_iinc F (pc := 1014) hl (lv' := [(3, .int (iI (i + 8))), (2, .ref (aR 0)), (1, .ref (aB 0)), (0, .ref (b))]) dL_law_1014 (k := 0) rfl (by decide) rfl (fun ls hl => ?_)
            refine z_goto F (pc := 1017) 18 dL_law_1017 (by decide) ?_
            exact ih_18 di xs ys lf ev nm lb2_359 kd2_359 pt2_359 so2_350 nu2_350 al2_350 ak2_350 ap2_350 he ar le cx cr cl ll rw fn fp tl tm ts tc ev9 nm9 so2_359 nu2_359 al2_359 ak2_359 ap2_359 hh9 le9 tl9 ts9 tc9 en mg sz mn2_359 an2_350 ax2_350 cn ln fc ac2_359 wc wp (i + 8) _ _ _ (by omega) (by exact hd) (by exact hmk) (by exact hc) (by exact hr) (by exact he9) (by exact hsh) (by omega) (lv_sub hl [0, 1, 2, 3] rfl) hW
          · skip
            exact absurd (by omega) c_362
        by_cases t_7 : q_32 = 7
        · refine lv_tableIn F.1 F.2.1 (pc := 33) (off := 334) (tgt := 367) dL_law_33 (by rw [iI_toInt (by omega)]; omega) (by rw [iI_toInt (by omega)]; omega) (by rw [iI_toInt (by omega), t_7]; rfl) (by decide) ?_
          refine z_aloadn F (pc := 367) dL_law_367 rfl (lv_at hl 2 rfl) ?_
          refine z_callVi F (pc := 368) hK hW hA (As := []) (rest := []) (ws' := fun (u : (Int → Int) × (Int → Int) × (Int → Int) × (Int) × (Int) × (Int)) => wB cI cZ aB aD aM aA aS aC aL aT di en mg ++ wD cI cZ aD xs ys lf ev nm sz ++ wM cI cZ aM u.1 u.2.1 u.2.2.1 u.2.2.2.1 ++ wA cI cZ aA so nu al ak ap u.2.2.2.2.1 u.2.2.2.2.2 ++ wS cI cZ aS he ar le ++ wC cI cZ aC cx cr cl ll cn ++ wL cI cZ aL rw fn fp ln fc ++ wT cI cZ aT tl tm ts tc ++ wR cI cZ aR xs ys lf ev9 nm9 lb kd pt so9 nu9 al9 ak9 ap9 hh9 le9 rw cx cr cl ll tl9 ts9 tc9 sz mn ac en mg ln cn wc wp) (wr := (wD cI cZ aD xs ys lf ev nm sz ++ wS cI cZ aS he ar le ++ wC cI cZ aC cx cr cl ll cn ++ wL cI cZ aL rw fn fp ln fc ++ wT cI cZ aT tl tm ts tc ++ wR cI cZ aR xs ys lf ev9 nm9 lb kd pt so9 nu9 al9 ak9 ap9 hh9 le9 rw cx cr cl ll tl9 ts9 tc9 sz mn ac en mg ln cn wc wp)) (c_X7_undo l D cI cZ aB aD aM aA aS aC aL aT di lb kd pt so nu al ak ap en mg mn an ax _ (by omega) (by omega) (by first | exact fun z => undo_preC hmk z | exact fun z => undo_preM hmk z)) (cwV 0 F.2.2.2.2 gL_law_X7_undo rfl rfl rfl (by decide +kernel) ⟨Nat.le_of_ble_eq_true rfl, Nat.le_of_ble_eq_true rfl⟩) [0, 1, 8, 9, 10, 11, 12, 13, 14, 15, 16, 17] [2, 3, 4, 5, 6, 7, 18, 19, 20, 21, 22, 23, 24, 25, 26, 27, 28, 29, 30, 31, 32, 33, 34, 35, 36, 37, 38, 39, 40, 41, 42, 43, 44, 45, 46, 47, 48, 49, 50, 51, 52, 53, 54, 55, 56, 57, 58, 59] [48, 49, 0, 1, 2, 3, 4, 5, 50, 51, 52, 53, 54, 55, 56, 57, 58, 59, 6, 7, 8, 9, 10, 11, 12, 13, 14, 15, 16, 17, 18, 19, 20, 21, 22, 23, 24, 25, 26, 27, 28, 29, 30, 31, 32, 33, 34, 35, 36, 37, 38, 39, 40, 41, 42, 43, 44, 45, 46, 47] rfl rfl (by decide) (by decide) (by decide) (fun _ => rfl) (by decide) (q0 := 0) (ci := 7) rfl rfl rfl rfl rfl hl.1 (Nat.le_of_ble_eq_true rfl) dL_law_368 ⟨Nat.le_of_ble_eq_true rfl, Nat.le_of_ble_eq_true rfl⟩ (fun z_368 u H locs r_z_368 hp_368 hW => ?_)
          obtain ⟨lb2_368, kd2_368, pt2_368, mn2_368, an2_368, ax2_368⟩ := u
          dsimp only at hp_368 hW
          refine z_aloadn F (pc := 371) dL_law_371 rfl (lv_at hl 1 rfl) ?_
          refine z_callVi F (pc := 372) hK hW hA (As := []) (rest := [.int (iI z_368)]) (ws' := fun (u : (Int → Int) × (Int → Int) × (Int → Int) × (Int) × (Int)) => wB cI cZ aB aD aM aA aS aC aL aT di en mg ++ wD cI cZ aD xs ys lf ev nm sz ++ wM cI cZ aM lb2_368 kd2_368 pt2_368 mn2_368 ++ wA cI cZ aA so nu al ak ap an2_368 ax2_368 ++ wS cI cZ aS he ar le ++ wC cI cZ aC cx cr cl ll cn ++ wL cI cZ aL rw fn fp ln fc ++ wT cI cZ aT tl tm ts tc ++ wR cI cZ aR xs ys lf ev9 nm9 u.1 u.2.1 u.2.2.1 so9 nu9 al9 ak9 ap9 hh9 le9 rw cx cr cl ll tl9 ts9 tc9 sz u.2.2.2.1 u.2.2.2.2 en mg ln cn wc wp) (wr := (wB cI cZ aB aD aM aA aS aC aL aT di en mg ++ wD cI cZ aD xs ys lf ev nm sz ++ wM cI cZ aM lb2_368 kd2_368 pt2_368 mn2_368 ++ wA cI cZ aA so nu al ak ap an2_368 ax2_368 ++ wS cI cZ aS he ar le ++ wC cI cZ aC cx cr cl ll cn ++ wL cI cZ aL rw fn fp ln fc ++ wT cI cZ aT tl tm ts tc)) (c_X8_undo l D cI cZ aR xs ys lf ev9 nm9 lb kd pt so9 nu9 al9 ak9 ap9 hh9 le9 rw cx cr cl ll tl9 ts9 tc9 sz mn ac en mg ln cn wc wp _ (by omega) (by first | exact fun z => undo_preC hmk z | exact fun z => undo_preM hmk z)) (cwV 0 F.2.2.2.2 gL_law_X8_undo rfl rfl rfl (by decide +kernel) ⟨Nat.le_of_ble_eq_true rfl, Nat.le_of_ble_eq_true rfl⟩) [36, 37, 38, 39, 40, 41, 42, 43, 44, 45, 46, 47, 48, 49, 50, 51, 52, 53, 54, 55, 56, 57, 58, 59] [0, 1, 2, 3, 4, 5, 6, 7, 8, 9, 10, 11, 12, 13, 14, 15, 16, 17, 18, 19, 20, 21, 22, 23, 24, 25, 26, 27, 28, 29, 30, 31, 32, 33, 34, 35] [0, 1, 2, 3, 4, 5, 6, 7, 8, 9, 10, 11, 12, 13, 14, 15, 16, 17, 18, 19, 20, 21, 22, 23, 24, 25, 26, 27, 28, 29, 30, 31, 32, 33, 34, 35, 36, 37, 38, 39, 40, 41, 42, 43, 44, 45, 46, 47, 48, 49, 50, 51, 52, 53, 54, 55, 56, 57, 58, 59] rfl rfl (by decide) (by decide) (by decide) (fun _ => rfl) (by decide) (q0 := 36) (ci := 8) rfl rfl rfl rfl rfl hl.1 (Nat.le_of_ble_eq_true rfl) dL_law_372 ⟨Nat.le_of_ble_eq_true rfl, Nat.le_of_ble_eq_true rfl⟩ (fun z_372 u H locs r_z_372 hp_372 hW => ?_)
          obtain ⟨lb2_372, kd2_372, pt2_372, mn2_372, ac2_372⟩ := u
          dsimp only at hp_372 hW
          obtain ⟨hans, e_lb, e_kd, e_pt, e_mn, hmk⟩ := undo_step hmk hp_368.o hp_372.o
          have hWz := hW
          subst e_lb
          have hW := hWz
          have hWz := hW
          subst e_kd
          have hW := hWz
          have hWz := hW
          subst e_pt
          have hW := hWz
          have hWz := hW
          subst e_mn
          have hW := hWz
          refine z_icmp_eq F (pc := 375) 1014 dL_law_375 (by decide) (by omega) (fun c_375 => ?_) (fun c_375 => ?_)
          · skip
            refine z_iinc F (pc := 1014) hl (lv' := [(3, .int (iI (i + 8))), (2, .ref (aR 0)), (1, .ref (aB 0)), (0, .ref (b))]) dL_law_1014 (k := 0) rfl (by decide) rfl (fun ls hl => ?_)
            refine z_goto F (pc := 1017) 18 dL_law_1017 (by decide) ?_
            exact ih_18 di xs ys lf ev nm lb2_372 kd2_372 pt2_372 so nu al ak ap he ar le cx cr cl ll rw fn fp tl tm ts tc ev9 nm9 so9 nu9 al9 ak9 ap9 hh9 le9 tl9 ts9 tc9 en mg sz mn2_372 an2_368 ax2_368 cn ln fc ac2_372 wc wp (i + 8) _ _ _ (by omega) (by exact hd) (by exact hmk) (by exact hc) (by exact hr) (by exact he9) (by exact hsh) (by omega) (lv_sub hl [0, 1, 2, 3] rfl) hW
          · skip
            exact absurd (by omega) c_375
        by_cases t_8 : q_32 = 8
        · refine lv_tableIn F.1 F.2.1 (pc := 33) (off := 347) (tgt := 380) dL_law_33 (by rw [iI_toInt (by omega)]; omega) (by rw [iI_toInt (by omega)]; omega) (by rw [iI_toInt (by omega), t_8]; rfl) (by decide) ?_
          refine z_aloadn F (pc := 380) dL_law_380 rfl (lv_at hl 2 rfl) ?_
          refine z_aloadn F (pc := 381) dL_law_381 rfl (lv_at hl 3 rfl) ?_
          refine z_iloadn F (pc := 382) dL_law_382 rfl (lv_at hl 0 rfl) ?_
          refine z_iconst F (pc := 383) (1) dL_law_383 ?_
          refine z_iadd F (pc := 384) dL_law_384 ?_
          refine z_sld F (pc := 385) hX hbl hbA hW hL (by omega) dL_law_385 ?_
          refine z_aloadn F (pc := 386) dL_law_386 rfl (lv_at hl 3 rfl) ?_
          refine z_iloadn F (pc := 387) dL_law_387 rfl (lv_at hl 0 rfl) ?_
          refine z_iconst F (pc := 388) (2) dL_law_388 ?_
          refine z_iadd F (pc := 389) dL_law_389 ?_
          refine z_sld F (pc := 390) hX hbl hbA hW hL (by omega) dL_law_390 ?_
          refine z_callVi F (pc := 391) hK hW hA (As := [.int (iI (sv xs0 (i + 1))), .int (iI (sv xs0 (i + 2)))]) (rest := []) (ws' := fun (u : (Int → Int) × (Int → Int) × (Int → Int) × (Int → Int) × (Int → Int) × (Int) × (Int)) => wB cI cZ aB aD aM aA aS aC aL aT di en mg ++ wD cI cZ aD xs ys lf ev nm sz ++ wM cI cZ aM u.1 kd pt mn ++ wA cI cZ aA u.2.1 u.2.2.1 u.2.2.2.1 u.2.2.2.2.1 ap u.2.2.2.2.2.1 u.2.2.2.2.2.2 ++ wS cI cZ aS he ar le ++ wC cI cZ aC cx cr cl ll cn ++ wL cI cZ aL rw fn fp ln fc ++ wT cI cZ aT tl tm ts tc ++ wR cI cZ aR xs ys lf ev9 nm9 lb kd pt so9 nu9 al9 ak9 ap9 hh9 le9 rw cx cr cl ll tl9 ts9 tc9 sz mn ac en mg ln cn wc wp) (wr := (wD cI cZ aD xs ys lf ev nm sz ++ wS cI cZ aS he ar le ++ wC cI cZ aC cx cr cl ll cn ++ wL cI cZ aL rw fn fp ln fc ++ wT cI cZ aT tl tm ts tc ++ wR cI cZ aR xs ys lf ev9 nm9 lb kd pt so9 nu9 al9 ak9 ap9 hh9 le9 rw cx cr cl ll tl9 ts9 tc9 sz mn ac en mg ln cn wc wp)) (c_X7_label l D cI cZ aB aD aM aA aS aC aL aT di lb kd pt so nu al ak ap en mg mn an ax (sv xs0 (i + 1)) (sv xs0 (i + 2)) _ (by omega) (by omega) (by omega) (by omega) (by first | exact hmk.2.1 | exact fun j a b => ⟨hmk.2.1 j a b, hmk.2.2.1 j a b⟩)) (cwV 2 F.2.2.2.2 gL_law_X7_label rfl rfl rfl (by decide +kernel) ⟨Nat.le_of_ble_eq_true rfl, Nat.le_of_ble_eq_true rfl⟩) [0, 1, 8, 9, 10, 11, 12, 13, 14, 15, 16, 17] [2, 3, 4, 5, 6, 7, 18, 19, 20, 21, 22, 23, 24, 25, 26, 27, 28, 29, 30, 31, 32, 33, 34, 35, 36, 37, 38, 39, 40, 41, 42, 43, 44, 45, 46, 47, 48, 49, 50, 51, 52, 53, 54, 55, 56, 57, 58, 59] [48, 49, 0, 1, 2, 3, 4, 5, 50, 51, 52, 53, 54, 55, 56, 57, 58, 59, 6, 7, 8, 9, 10, 11, 12, 13, 14, 15, 16, 17, 18, 19, 20, 21, 22, 23, 24, 25, 26, 27, 28, 29, 30, 31, 32, 33, 34, 35, 36, 37, 38, 39, 40, 41, 42, 43, 44, 45, 46, 47] rfl rfl (by decide) (by decide) (by decide) (fun _ => rfl) (by decide) (q0 := 0) (ci := 7) rfl rfl rfl rfl rfl hl.1 (Nat.le_of_ble_eq_true rfl) dL_law_391 ⟨Nat.le_of_ble_eq_true rfl, Nat.le_of_ble_eq_true rfl⟩ (fun z_391 u H locs r_z_391 hp_391 hW => ?_)
          obtain ⟨lb2_391, so2_391, nu2_391, al2_391, ak2_391, an2_391, ax2_391⟩ := u
          dsimp only at hp_391 hW
          refine z_aloadn F (pc := 394) dL_law_394 rfl (lv_at hl 1 rfl) ?_
          refine z_aloadn F (pc := 395) dL_law_395 rfl (lv_at hl 3 rfl) ?_
          refine z_iloadn F (pc := 396) dL_law_396 rfl (lv_at hl 0 rfl) ?_
          refine z_iconst F (pc := 397) (1) dL_law_397 ?_
          refine z_iadd F (pc := 398) dL_law_398 ?_
          refine z_sld F (pc := 399) hX hbl hbA hW hL (by omega) dL_law_399 ?_
          refine z_aloadn F (pc := 400) dL_law_400 rfl (lv_at hl 3 rfl) ?_
          refine z_iloadn F (pc := 401) dL_law_401 rfl (lv_at hl 0 rfl) ?_
          refine z_iconst F (pc := 402) (2) dL_law_402 ?_
          refine z_iadd F (pc := 403) dL_law_403 ?_
          refine z_sld F (pc := 404) hX hbl hbA hW hL (by omega) dL_law_404 ?_
          refine z_callVi F (pc := 405) hK hW hA (As := [.int (iI (sv xs0 (i + 1))), .int (iI (sv xs0 (i + 2)))]) (rest := [.int (iI z_391)]) (ws' := fun (u : (Int → Int) × (Int → Int) × (Int → Int) × (Int → Int) × (Int → Int) × (Int → Int) × (Int)) => wB cI cZ aB aD aM aA aS aC aL aT di en mg ++ wD cI cZ aD xs ys lf ev nm sz ++ wM cI cZ aM lb2_391 kd pt mn ++ wA cI cZ aA so2_391 nu2_391 al2_391 ak2_391 ap an2_391 ax2_391 ++ wS cI cZ aS he ar le ++ wC cI cZ aC cx cr cl ll cn ++ wL cI cZ aL rw fn fp ln fc ++ wT cI cZ aT tl tm ts tc ++ wR cI cZ aR xs ys lf ev9 nm9 u.1 kd pt u.2.1 u.2.2.1 u.2.2.2.1 u.2.2.2.2.1 u.2.2.2.2.2.1 hh9 le9 rw cx cr cl ll tl9 ts9 tc9 sz mn u.2.2.2.2.2.2 en mg ln cn wc wp) (wr := (wB cI cZ aB aD aM aA aS aC aL aT di en mg ++ wD cI cZ aD xs ys lf ev nm sz ++ wM cI cZ aM lb2_391 kd pt mn ++ wA cI cZ aA so2_391 nu2_391 al2_391 ak2_391 ap an2_391 ax2_391 ++ wS cI cZ aS he ar le ++ wC cI cZ aC cx cr cl ll cn ++ wL cI cZ aL rw fn fp ln fc ++ wT cI cZ aT tl tm ts tc)) (c_X8_label l D cI cZ aR xs ys lf ev9 nm9 lb kd pt so9 nu9 al9 ak9 ap9 hh9 le9 rw cx cr cl ll tl9 ts9 tc9 sz mn ac en mg ln cn wc wp (sv xs0 (i + 1)) (sv xs0 (i + 2)) _ (by omega) (by omega) (by omega) (by first | exact hmk.2.1 | exact fun j a b => ⟨hmk.2.1 j a b, hmk.2.2.1 j a b⟩)) (cwV 2 F.2.2.2.2 gL_law_X8_label rfl rfl rfl (by decide +kernel) ⟨Nat.le_of_ble_eq_true rfl, Nat.le_of_ble_eq_true rfl⟩) [36, 37, 38, 39, 40, 41, 42, 43, 44, 45, 46, 47, 48, 49, 50, 51, 52, 53, 54, 55, 56, 57, 58, 59] [0, 1, 2, 3, 4, 5, 6, 7, 8, 9, 10, 11, 12, 13, 14, 15, 16, 17, 18, 19, 20, 21, 22, 23, 24, 25, 26, 27, 28, 29, 30, 31, 32, 33, 34, 35] [0, 1, 2, 3, 4, 5, 6, 7, 8, 9, 10, 11, 12, 13, 14, 15, 16, 17, 18, 19, 20, 21, 22, 23, 24, 25, 26, 27, 28, 29, 30, 31, 32, 33, 34, 35, 36, 37, 38, 39, 40, 41, 42, 43, 44, 45, 46, 47, 48, 49, 50, 51, 52, 53, 54, 55, 56, 57, 58, 59] rfl rfl (by decide) (by decide) (by decide) (fun _ => rfl) (by decide) (q0 := 36) (ci := 8) rfl rfl rfl rfl rfl hl.1 (Nat.le_of_ble_eq_true rfl) dL_law_405 ⟨Nat.le_of_ble_eq_true rfl, Nat.le_of_ble_eq_true rfl⟩ (fun z_405 u H locs r_z_405 hp_405 hW => ?_)
          obtain ⟨lb2_405, so2_405, nu2_405, al2_405, ak2_405, ap2_405, ac2_405⟩ := u
          dsimp only at hp_405 hW
          obtain ⟨hans, e_lb, hmk⟩ := label_step hmk hp_391.o hp_405.o
          have hWz := hW
          subst e_lb
          have hW := hWz
          refine z_icmp_eq F (pc := 408) 1014 dL_law_408 (by decide) (by omega) (fun c_408 => ?_) (fun c_408 => ?_)
          · skip
            refine z_iinc F (pc := 1014) hl (lv' := [(3, .int (iI (i + 8))), (2, .ref (aR 0)), (1, .ref (aB 0)), (0, .ref (b))]) dL_law_1014 (k := 0) rfl (by decide) rfl (fun ls hl => ?_)
            refine z_goto F (pc := 1017) 18 dL_law_1017 (by decide) ?_
            exact ih_18 di xs ys lf ev nm lb2_405 kd pt so2_391 nu2_391 al2_391 ak2_391 ap he ar le cx cr cl ll rw fn fp tl tm ts tc ev9 nm9 so2_405 nu2_405 al2_405 ak2_405 ap2_405 hh9 le9 tl9 ts9 tc9 en mg sz mn an2_391 ax2_391 cn ln fc ac2_405 wc wp (i + 8) _ _ _ (by omega) (by exact hd) (by exact hmk) (by exact hc) (by exact hr) (by exact he9) (by exact hsh) (by omega) (lv_sub hl [0, 1, 2, 3] rfl) hW
          · skip
            exact absurd (by omega) c_408
        by_cases t_9 : q_32 = 9
        · refine lv_tableIn F.1 F.2.1 (pc := 33) (off := 380) (tgt := 413) dL_law_33 (by rw [iI_toInt (by omega)]; omega) (by rw [iI_toInt (by omega)]; omega) (by rw [iI_toInt (by omega), t_9]; rfl) (by decide) ?_
          refine z_aloadn F (pc := 413) dL_law_413 rfl (lv_at hl 2 rfl) ?_
          refine z_aloadn F (pc := 414) dL_law_414 rfl (lv_at hl 3 rfl) ?_
          refine z_iloadn F (pc := 415) dL_law_415 rfl (lv_at hl 0 rfl) ?_
          refine z_iconst F (pc := 416) (1) dL_law_416 ?_
          refine z_iadd F (pc := 417) dL_law_417 ?_
          refine z_sld F (pc := 418) hX hbl hbA hW hL (by omega) dL_law_418 ?_
          refine z_aloadn F (pc := 419) dL_law_419 rfl (lv_at hl 3 rfl) ?_
          refine z_iloadn F (pc := 420) dL_law_420 rfl (lv_at hl 0 rfl) ?_
          refine z_iconst F (pc := 421) (2) dL_law_421 ?_
          refine z_iadd F (pc := 422) dL_law_422 ?_
          refine z_sld F (pc := 423) hX hbl hbA hW hL (by omega) dL_law_423 ?_
          refine z_callVi F (pc := 424) hK hW hA (As := [.int (iI (sv xs0 (i + 1))), .int (iI (sv xs0 (i + 2)))]) (rest := []) (ws' := fun (u : Unit) => wB cI cZ aB aD aM aA aS aC aL aT di en mg ++ wD cI cZ aD xs ys lf ev nm sz ++ wM cI cZ aM lb kd pt mn ++ wA cI cZ aA so nu al ak ap an ax ++ wS cI cZ aS he ar le ++ wC cI cZ aC cx cr cl ll cn ++ wL cI cZ aL rw fn fp ln fc ++ wT cI cZ aT tl tm ts tc ++ wR cI cZ aR xs ys lf ev9 nm9 lb kd pt so9 nu9 al9 ak9 ap9 hh9 le9 rw cx cr cl ll tl9 ts9 tc9 sz mn ac en mg ln cn wc wp) (wr := (wD cI cZ aD xs ys lf ev nm sz ++ wA cI cZ aA so nu al ak ap an ax ++ wS cI cZ aS he ar le ++ wC cI cZ aC cx cr cl ll cn ++ wL cI cZ aL rw fn fp ln fc ++ wT cI cZ aT tl tm ts tc ++ wR cI cZ aR xs ys lf ev9 nm9 lb kd pt so9 nu9 al9 ak9 ap9 hh9 le9 rw cx cr cl ll tl9 ts9 tc9 sz mn ac en mg ln cn wc wp)) (c_X7_told l D cI cZ aB aD aM aA aS aC aL aT di lb kd pt en mg mn (sv xs0 (i + 1)) (sv xs0 (i + 2)) _ (by omega) (by omega) (by omega) (by first | exact hmk.2.1 | exact fun j a b => ⟨hmk.2.1 j a b, hmk.2.2.1 j a b⟩)) (cwV 2 F.2.2.2.2 gL_law_X7_told rfl rfl rfl (by decide +kernel) ⟨Nat.le_of_ble_eq_true rfl, Nat.le_of_ble_eq_true rfl⟩) [0, 1, 8, 9, 10, 11] [2, 3, 4, 5, 6, 7, 12, 13, 14, 15, 16, 17, 18, 19, 20, 21, 22, 23, 24, 25, 26, 27, 28, 29, 30, 31, 32, 33, 34, 35, 36, 37, 38, 39, 40, 41, 42, 43, 44, 45, 46, 47, 48, 49, 50, 51, 52, 53, 54, 55, 56, 57, 58, 59] [54, 55, 0, 1, 2, 3, 4, 5, 56, 57, 58, 59, 6, 7, 8, 9, 10, 11, 12, 13, 14, 15, 16, 17, 18, 19, 20, 21, 22, 23, 24, 25, 26, 27, 28, 29, 30, 31, 32, 33, 34, 35, 36, 37, 38, 39, 40, 41, 42, 43, 44, 45, 46, 47, 48, 49, 50, 51, 52, 53] rfl rfl (by decide) (by decide) (by decide) (fun _ => rfl) (by decide) (q0 := 0) (ci := 7) rfl rfl rfl rfl rfl hl.1 (Nat.le_of_ble_eq_true rfl) dL_law_424 ⟨Nat.le_of_ble_eq_true rfl, Nat.le_of_ble_eq_true rfl⟩ (fun z_424 u H locs r_z_424 hp_424 hW => ?_)
          refine z_aloadn F (pc := 427) dL_law_427 rfl (lv_at hl 1 rfl) ?_
          refine z_aloadn F (pc := 428) dL_law_428 rfl (lv_at hl 3 rfl) ?_
          refine z_iloadn F (pc := 429) dL_law_429 rfl (lv_at hl 0 rfl) ?_
          refine z_iconst F (pc := 430) (1) dL_law_430 ?_
          refine z_iadd F (pc := 431) dL_law_431 ?_
          refine z_sld F (pc := 432) hX hbl hbA hW hL (by omega) dL_law_432 ?_
          refine z_aloadn F (pc := 433) dL_law_433 rfl (lv_at hl 3 rfl) ?_
          refine z_iloadn F (pc := 434) dL_law_434 rfl (lv_at hl 0 rfl) ?_
          refine z_iconst F (pc := 435) (2) dL_law_435 ?_
          refine z_iadd F (pc := 436) dL_law_436 ?_
          refine z_sld F (pc := 437) hX hbl hbA hW hL (by omega) dL_law_437 ?_
          refine z_callVi F (pc := 438) hK hW hA (As := [.int (iI (sv xs0 (i + 1))), .int (iI (sv xs0 (i + 2)))]) (rest := [.int (iI z_424)]) (ws' := fun (u : Unit) => wB cI cZ aB aD aM aA aS aC aL aT di en mg ++ wD cI cZ aD xs ys lf ev nm sz ++ wM cI cZ aM lb kd pt mn ++ wA cI cZ aA so nu al ak ap an ax ++ wS cI cZ aS he ar le ++ wC cI cZ aC cx cr cl ll cn ++ wL cI cZ aL rw fn fp ln fc ++ wT cI cZ aT tl tm ts tc ++ wR cI cZ aR xs ys lf ev9 nm9 lb kd pt so9 nu9 al9 ak9 ap9 hh9 le9 rw cx cr cl ll tl9 ts9 tc9 sz mn ac en mg ln cn wc wp) (wr := (wB cI cZ aB aD aM aA aS aC aL aT di en mg ++ wD cI cZ aD xs ys lf ev nm sz ++ wM cI cZ aM lb kd pt mn ++ wA cI cZ aA so nu al ak ap an ax ++ wS cI cZ aS he ar le ++ wC cI cZ aC cx cr cl ll cn ++ wL cI cZ aL rw fn fp ln fc ++ wT cI cZ aT tl tm ts tc)) (c_X8_told l D cI cZ aR xs ys lf ev9 nm9 lb kd pt so9 nu9 al9 ak9 ap9 hh9 le9 rw cx cr cl ll tl9 ts9 tc9 sz mn ac en mg ln cn wc wp (sv xs0 (i + 1)) (sv xs0 (i + 2)) _ (by omega) (by omega) (by omega) (by first | exact hmk.2.1 | exact fun j a b => ⟨hmk.2.1 j a b, hmk.2.2.1 j a b⟩)) (cwV 2 F.2.2.2.2 gL_law_X8_told rfl rfl rfl (by decide +kernel) ⟨Nat.le_of_ble_eq_true rfl, Nat.le_of_ble_eq_true rfl⟩) [36, 37, 38, 39, 40, 41, 42, 43, 44, 45, 46, 47, 48, 49, 50, 51, 52, 53, 54, 55, 56, 57, 58, 59] [0, 1, 2, 3, 4, 5, 6, 7, 8, 9, 10, 11, 12, 13, 14, 15, 16, 17, 18, 19, 20, 21, 22, 23, 24, 25, 26, 27, 28, 29, 30, 31, 32, 33, 34, 35] [0, 1, 2, 3, 4, 5, 6, 7, 8, 9, 10, 11, 12, 13, 14, 15, 16, 17, 18, 19, 20, 21, 22, 23, 24, 25, 26, 27, 28, 29, 30, 31, 32, 33, 34, 35, 36, 37, 38, 39, 40, 41, 42, 43, 44, 45, 46, 47, 48, 49, 50, 51, 52, 53, 54, 55, 56, 57, 58, 59] rfl rfl (by decide) (by decide) (by decide) (fun _ => rfl) (by decide) (q0 := 36) (ci := 8) rfl rfl rfl rfl rfl hl.1 (Nat.le_of_ble_eq_true rfl) dL_law_438 ⟨Nat.le_of_ble_eq_true rfl, Nat.le_of_ble_eq_true rfl⟩ (fun z_438 u H locs r_z_438 hp_438 hW => ?_)
          have hans := toldP_one hp_424 hp_438
          refine z_icmp_eq F (pc := 441) 1014 dL_law_441 (by decide) (by omega) (fun c_441 => ?_) (fun c_441 => ?_)
          · skip
            refine z_iinc F (pc := 1014) hl (lv' := [(3, .int (iI (i + 8))), (2, .ref (aR 0)), (1, .ref (aB 0)), (0, .ref (b))]) dL_law_1014 (k := 0) rfl (by decide) rfl (fun ls hl => ?_)
            refine z_goto F (pc := 1017) 18 dL_law_1017 (by decide) ?_
            exact ih_18 di xs ys lf ev nm lb kd pt so nu al ak ap he ar le cx cr cl ll rw fn fp tl tm ts tc ev9 nm9 so9 nu9 al9 ak9 ap9 hh9 le9 tl9 ts9 tc9 en mg sz mn an ax cn ln fc ac wc wp (i + 8) _ _ _ (by omega) (by exact hd) (by exact hmk) (by exact hc) (by exact hr) (by exact he9) (by exact hsh) (by omega) (lv_sub hl [0, 1, 2, 3] rfl) hW
          · skip
            exact absurd (by omega) c_441
        by_cases t_10 : q_32 = 10
        · refine lv_tableIn F.1 F.2.1 (pc := 33) (off := 413) (tgt := 446) dL_law_33 (by rw [iI_toInt (by omega)]; omega) (by rw [iI_toInt (by omega)]; omega) (by rw [iI_toInt (by omega), t_10]; rfl) (by decide) ?_
          refine z_aloadn F (pc := 446) dL_law_446 rfl (lv_at hl 2 rfl) ?_
          refine z_aloadn F (pc := 447) dL_law_447 rfl (lv_at hl 3 rfl) ?_
          refine z_iloadn F (pc := 448) dL_law_448 rfl (lv_at hl 0 rfl) ?_
          refine z_iconst F (pc := 449) (1) dL_law_449 ?_
          refine z_iadd F (pc := 450) dL_law_450 ?_
          refine z_sld F (pc := 451) hX hbl hbA hW hL (by omega) dL_law_451 ?_
          refine z_aloadn F (pc := 452) dL_law_452 rfl (lv_at hl 3 rfl) ?_
          refine z_iloadn F (pc := 453) dL_law_453 rfl (lv_at hl 0 rfl) ?_
          refine z_iconst F (pc := 454) (2) dL_law_454 ?_
          refine z_iadd F (pc := 455) dL_law_455 ?_
          refine z_sld F (pc := 456) hX hbl hbA hW hL (by omega) dL_law_456 ?_
          refine z_aloadn F (pc := 457) dL_law_457 rfl (lv_at hl 3 rfl) ?_
          refine z_iloadn F (pc := 458) dL_law_458 rfl (lv_at hl 0 rfl) ?_
          refine z_iconst F (pc := 459) (3) dL_law_459 ?_
          refine z_iadd F (pc := 460) dL_law_460 ?_
          refine z_sld F (pc := 461) hX hbl hbA hW hL (by omega) dL_law_461 ?_
          refine z_callVi F (pc := 462) hK hW hA (As := [.int (iI (sv xs0 (i + 1))), .int (iI (sv xs0 (i + 2))), .int (iI (sv xs0 (i + 3)))]) (rest := []) (ws' := fun (u : Unit) => wB cI cZ aB aD aM aA aS aC aL aT di en mg ++ wD cI cZ aD xs ys lf ev nm sz ++ wM cI cZ aM lb kd pt mn ++ wA cI cZ aA so nu al ak ap an ax ++ wS cI cZ aS he ar le ++ wC cI cZ aC cx cr cl ll cn ++ wL cI cZ aL rw fn fp ln fc ++ wT cI cZ aT tl tm ts tc ++ wR cI cZ aR xs ys lf ev9 nm9 lb kd pt so9 nu9 al9 ak9 ap9 hh9 le9 rw cx cr cl ll tl9 ts9 tc9 sz mn ac en mg ln cn wc wp) (wr := (wD cI cZ aD xs ys lf ev nm sz ++ wA cI cZ aA so nu al ak ap an ax ++ wS cI cZ aS he ar le ++ wC cI cZ aC cx cr cl ll cn ++ wL cI cZ aL rw fn fp ln fc ++ wT cI cZ aT tl tm ts tc ++ wR cI cZ aR xs ys lf ev9 nm9 lb kd pt so9 nu9 al9 ak9 ap9 hh9 le9 rw cx cr cl ll tl9 ts9 tc9 sz mn ac en mg ln cn wc wp)) (c_X7_taught l D cI cZ aB aD aM aA aS aC aL aT di lb kd pt en mg mn (sv xs0 (i + 1)) (sv xs0 (i + 2)) (sv xs0 (i + 3)) _ (by omega) (by omega) (by omega) (by omega) (by exact hmk.2.2.2.1)) (cwV 3 F.2.2.2.2 gL_law_X7_taught rfl rfl rfl (by decide +kernel) ⟨Nat.le_of_ble_eq_true rfl, Nat.le_of_ble_eq_true rfl⟩) [0, 1, 8, 9, 10, 11] [2, 3, 4, 5, 6, 7, 12, 13, 14, 15, 16, 17, 18, 19, 20, 21, 22, 23, 24, 25, 26, 27, 28, 29, 30, 31, 32, 33, 34, 35, 36, 37, 38, 39, 40, 41, 42, 43, 44, 45, 46, 47, 48, 49, 50, 51, 52, 53, 54, 55, 56, 57, 58, 59] [54, 55, 0, 1, 2, 3, 4, 5, 56, 57, 58, 59, 6, 7, 8, 9, 10, 11, 12, 13, 14, 15, 16, 17, 18, 19, 20, 21, 22, 23, 24, 25, 26, 27, 28, 29, 30, 31, 32, 33, 34, 35, 36, 37, 38, 39, 40, 41, 42, 43, 44, 45, 46, 47, 48, 49, 50, 51, 52, 53] rfl rfl (by decide) (by decide) (by decide) (fun _ => rfl) (by decide) (q0 := 0) (ci := 7) rfl rfl rfl rfl rfl hl.1 (Nat.le_of_ble_eq_true rfl) dL_law_462 ⟨Nat.le_of_ble_eq_true rfl, Nat.le_of_ble_eq_true rfl⟩ (fun z_462 u H locs r_z_462 hp_462 hW => ?_)
          refine z_aloadn F (pc := 465) dL_law_465 rfl (lv_at hl 1 rfl) ?_
          refine z_aloadn F (pc := 466) dL_law_466 rfl (lv_at hl 3 rfl) ?_
          refine z_iloadn F (pc := 467) dL_law_467 rfl (lv_at hl 0 rfl) ?_
          refine z_iconst F (pc := 468) (1) dL_law_468 ?_
          refine z_iadd F (pc := 469) dL_law_469 ?_
          refine z_sld F (pc := 470) hX hbl hbA hW hL (by omega) dL_law_470 ?_
          refine z_aloadn F (pc := 471) dL_law_471 rfl (lv_at hl 3 rfl) ?_
          refine z_iloadn F (pc := 472) dL_law_472 rfl (lv_at hl 0 rfl) ?_
          refine z_iconst F (pc := 473) (2) dL_law_473 ?_
          refine z_iadd F (pc := 474) dL_law_474 ?_
          refine z_sld F (pc := 475) hX hbl hbA hW hL (by omega) dL_law_475 ?_
          refine z_aloadn F (pc := 476) dL_law_476 rfl (lv_at hl 3 rfl) ?_
          refine z_iloadn F (pc := 477) dL_law_477 rfl (lv_at hl 0 rfl) ?_
          refine z_iconst F (pc := 478) (3) dL_law_478 ?_
          refine z_iadd F (pc := 479) dL_law_479 ?_
          refine z_sld F (pc := 480) hX hbl hbA hW hL (by omega) dL_law_480 ?_
          refine z_callVi F (pc := 481) hK hW hA (As := [.int (iI (sv xs0 (i + 1))), .int (iI (sv xs0 (i + 2))), .int (iI (sv xs0 (i + 3)))]) (rest := [.int (iI z_462)]) (ws' := fun (u : Unit) => wB cI cZ aB aD aM aA aS aC aL aT di en mg ++ wD cI cZ aD xs ys lf ev nm sz ++ wM cI cZ aM lb kd pt mn ++ wA cI cZ aA so nu al ak ap an ax ++ wS cI cZ aS he ar le ++ wC cI cZ aC cx cr cl ll cn ++ wL cI cZ aL rw fn fp ln fc ++ wT cI cZ aT tl tm ts tc ++ wR cI cZ aR xs ys lf ev9 nm9 lb kd pt so9 nu9 al9 ak9 ap9 hh9 le9 rw cx cr cl ll tl9 ts9 tc9 sz mn ac en mg ln cn wc wp) (wr := (wB cI cZ aB aD aM aA aS aC aL aT di en mg ++ wD cI cZ aD xs ys lf ev nm sz ++ wM cI cZ aM lb kd pt mn ++ wA cI cZ aA so nu al ak ap an ax ++ wS cI cZ aS he ar le ++ wC cI cZ aC cx cr cl ll cn ++ wL cI cZ aL rw fn fp ln fc ++ wT cI cZ aT tl tm ts tc)) (c_X8_taught l D cI cZ aR xs ys lf ev9 nm9 lb kd pt so9 nu9 al9 ak9 ap9 hh9 le9 rw cx cr cl ll tl9 ts9 tc9 sz mn ac en mg ln cn wc wp (sv xs0 (i + 1)) (sv xs0 (i + 2)) (sv xs0 (i + 3)) _ (by omega) (by omega) (by omega) (by omega) (by exact hmk.2.2.2.1)) (cwV 3 F.2.2.2.2 gL_law_X8_taught rfl rfl rfl (by decide +kernel) ⟨Nat.le_of_ble_eq_true rfl, Nat.le_of_ble_eq_true rfl⟩) [36, 37, 38, 39, 40, 41, 42, 43, 44, 45, 46, 47, 48, 49, 50, 51, 52, 53, 54, 55, 56, 57, 58, 59] [0, 1, 2, 3, 4, 5, 6, 7, 8, 9, 10, 11, 12, 13, 14, 15, 16, 17, 18, 19, 20, 21, 22, 23, 24, 25, 26, 27, 28, 29, 30, 31, 32, 33, 34, 35] [0, 1, 2, 3, 4, 5, 6, 7, 8, 9, 10, 11, 12, 13, 14, 15, 16, 17, 18, 19, 20, 21, 22, 23, 24, 25, 26, 27, 28, 29, 30, 31, 32, 33, 34, 35, 36, 37, 38, 39, 40, 41, 42, 43, 44, 45, 46, 47, 48, 49, 50, 51, 52, 53, 54, 55, 56, 57, 58, 59] rfl rfl (by decide) (by decide) (by decide) (fun _ => rfl) (by decide) (q0 := 36) (ci := 8) rfl rfl rfl rfl rfl hl.1 (Nat.le_of_ble_eq_true rfl) dL_law_481 ⟨Nat.le_of_ble_eq_true rfl, Nat.le_of_ble_eq_true rfl⟩ (fun z_481 u H locs r_z_481 hp_481 hW => ?_)
          have hans := taughtP_one hp_462 hp_481
          refine z_icmp_eq F (pc := 484) 1014 dL_law_484 (by decide) (by omega) (fun c_484 => ?_) (fun c_484 => ?_)
          · skip
            refine z_iinc F (pc := 1014) hl (lv' := [(3, .int (iI (i + 8))), (2, .ref (aR 0)), (1, .ref (aB 0)), (0, .ref (b))]) dL_law_1014 (k := 0) rfl (by decide) rfl (fun ls hl => ?_)
            refine z_goto F (pc := 1017) 18 dL_law_1017 (by decide) ?_
            exact ih_18 di xs ys lf ev nm lb kd pt so nu al ak ap he ar le cx cr cl ll rw fn fp tl tm ts tc ev9 nm9 so9 nu9 al9 ak9 ap9 hh9 le9 tl9 ts9 tc9 en mg sz mn an ax cn ln fc ac wc wp (i + 8) _ _ _ (by omega) (by exact hd) (by exact hmk) (by exact hc) (by exact hr) (by exact he9) (by exact hsh) (by omega) (lv_sub hl [0, 1, 2, 3] rfl) hW
          · skip
            exact absurd (by omega) c_484
        by_cases t_11 : q_32 = 11
        · refine lv_tableIn F.1 F.2.1 (pc := 33) (off := 456) (tgt := 489) dL_law_33 (by rw [iI_toInt (by omega)]; omega) (by rw [iI_toInt (by omega)]; omega) (by rw [iI_toInt (by omega), t_11]; rfl) (by decide) ?_
          refine z_aloadn F (pc := 489) dL_law_489 rfl (lv_at hl 2 rfl) ?_
          refine z_aloadn F (pc := 490) dL_law_490 rfl (lv_at hl 3 rfl) ?_
          refine z_iloadn F (pc := 491) dL_law_491 rfl (lv_at hl 0 rfl) ?_
          refine z_iconst F (pc := 492) (1) dL_law_492 ?_
          refine z_iadd F (pc := 493) dL_law_493 ?_
          refine z_sld F (pc := 494) hX hbl hbA hW hL (by omega) dL_law_494 ?_
          refine z_aloadn F (pc := 495) dL_law_495 rfl (lv_at hl 3 rfl) ?_
          refine z_iloadn F (pc := 496) dL_law_496 rfl (lv_at hl 0 rfl) ?_
          refine z_iconst F (pc := 497) (2) dL_law_497 ?_
          refine z_iadd F (pc := 498) dL_law_498 ?_
          refine z_sld F (pc := 499) hX hbl hbA hW hL (by omega) dL_law_499 ?_
          refine z_callVi F (pc := 500) hK hW hA (As := [.int (iI (sv xs0 (i + 1))), .int (iI (sv xs0 (i + 2)))]) (rest := []) (ws' := fun (u : (Int) × (Int)) => wB cI cZ aB aD aM aA aS aC aL aT di u.1 u.2 ++ wD cI cZ aD xs ys lf ev nm sz ++ wM cI cZ aM lb kd pt mn ++ wA cI cZ aA so nu al ak ap an ax ++ wS cI cZ aS he ar le ++ wC cI cZ aC cx cr cl ll cn ++ wL cI cZ aL rw fn fp ln fc ++ wT cI cZ aT tl tm ts tc ++ wR cI cZ aR xs ys lf ev9 nm9 lb kd pt so9 nu9 al9 ak9 ap9 hh9 le9 rw cx cr cl ll tl9 ts9 tc9 sz mn ac en mg ln cn wc wp) (wr := (wD cI cZ aD xs ys lf ev nm sz ++ wM cI cZ aM lb kd pt mn ++ wA cI cZ aA so nu al ak ap an ax ++ wS cI cZ aS he ar le ++ wC cI cZ aC cx cr cl ll cn ++ wL cI cZ aL rw fn fp ln fc ++ wT cI cZ aT tl tm ts tc ++ wR cI cZ aR xs ys lf ev9 nm9 lb kd pt so9 nu9 al9 ak9 ap9 hh9 le9 rw cx cr cl ll tl9 ts9 tc9 sz mn ac en mg ln cn wc wp)) (c_X7_ends l D cI cZ aB aD aM aA aS aC aL aT di en mg (sv xs0 (i + 1)) (sv xs0 (i + 2)) _ (by omega) (by omega)) (cwV 2 F.2.2.2.2 gL_law_X7_ends rfl rfl rfl (by decide +kernel) ⟨Nat.le_of_ble_eq_true rfl, Nat.le_of_ble_eq_true rfl⟩) [0, 1] [2, 3, 4, 5, 6, 7, 8, 9, 10, 11, 12, 13, 14, 15, 16, 17, 18, 19, 20, 21, 22, 23, 24, 25, 26, 27, 28, 29, 30, 31, 32, 33, 34, 35, 36, 37, 38, 39, 40, 41, 42, 43, 44, 45, 46, 47, 48, 49, 50, 51, 52, 53, 54, 55, 56, 57, 58, 59] [58, 59, 0, 1, 2, 3, 4, 5, 6, 7, 8, 9, 10, 11, 12, 13, 14, 15, 16, 17, 18, 19, 20, 21, 22, 23, 24, 25, 26, 27, 28, 29, 30, 31, 32, 33, 34, 35, 36, 37, 38, 39, 40, 41, 42, 43, 44, 45, 46, 47, 48, 49, 50, 51, 52, 53, 54, 55, 56, 57] rfl rfl (by decide) (by decide) (by decide) (fun _ => rfl) (by decide) (q0 := 0) (ci := 7) rfl rfl rfl rfl rfl hl.1 (Nat.le_of_ble_eq_true rfl) dL_law_500 ⟨Nat.le_of_ble_eq_true rfl, Nat.le_of_ble_eq_true rfl⟩ (fun z_500 u H locs r_z_500 hp_500 hW => ?_)
          obtain ⟨en2_500, mg2_500⟩ := u
          dsimp only at hp_500 hW
          refine z_aloadn F (pc := 503) dL_law_503 rfl (lv_at hl 1 rfl) ?_
          refine z_aloadn F (pc := 504) dL_law_504 rfl (lv_at hl 3 rfl) ?_
          refine z_iloadn F (pc := 505) dL_law_505 rfl (lv_at hl 0 rfl) ?_
          refine z_iconst F (pc := 506) (1) dL_law_506 ?_
          refine z_iadd F (pc := 507) dL_law_507 ?_
          refine z_sld F (pc := 508) hX hbl hbA hW hL (by omega) dL_law_508 ?_
          refine z_aloadn F (pc := 509) dL_law_509 rfl (lv_at hl 3 rfl) ?_
          refine z_iloadn F (pc := 510) dL_law_510 rfl (lv_at hl 0 rfl) ?_
          refine z_iconst F (pc := 511) (2) dL_law_511 ?_
          refine z_iadd F (pc := 512) dL_law_512 ?_
          refine z_sld F (pc := 513) hX hbl hbA hW hL (by omega) dL_law_513 ?_
          refine z_callVi F (pc := 514) hK hW hA (As := [.int (iI (sv xs0 (i + 1))), .int (iI (sv xs0 (i + 2)))]) (rest := [.int (iI z_500)]) (ws' := fun (u : (Int) × (Int)) => wB cI cZ aB aD aM aA aS aC aL aT di en2_500 mg2_500 ++ wD cI cZ aD xs ys lf ev nm sz ++ wM cI cZ aM lb kd pt mn ++ wA cI cZ aA so nu al ak ap an ax ++ wS cI cZ aS he ar le ++ wC cI cZ aC cx cr cl ll cn ++ wL cI cZ aL rw fn fp ln fc ++ wT cI cZ aT tl tm ts tc ++ wR cI cZ aR xs ys lf ev9 nm9 lb kd pt so9 nu9 al9 ak9 ap9 hh9 le9 rw cx cr cl ll tl9 ts9 tc9 sz mn ac u.1 u.2 ln cn wc wp) (wr := (wB cI cZ aB aD aM aA aS aC aL aT di en2_500 mg2_500 ++ wD cI cZ aD xs ys lf ev nm sz ++ wM cI cZ aM lb kd pt mn ++ wA cI cZ aA so nu al ak ap an ax ++ wS cI cZ aS he ar le ++ wC cI cZ aC cx cr cl ll cn ++ wL cI cZ aL rw fn fp ln fc ++ wT cI cZ aT tl tm ts tc)) (c_X8_ends l D cI cZ aR xs ys lf ev9 nm9 lb kd pt so9 nu9 al9 ak9 ap9 hh9 le9 rw cx cr cl ll tl9 ts9 tc9 sz mn ac en mg ln cn wc wp (sv xs0 (i + 1)) (sv xs0 (i + 2)) _ (by omega) (by omega)) (cwV 2 F.2.2.2.2 gL_law_X8_ends rfl rfl rfl (by decide +kernel) ⟨Nat.le_of_ble_eq_true rfl, Nat.le_of_ble_eq_true rfl⟩) [36, 37, 38, 39, 40, 41, 42, 43, 44, 45, 46, 47, 48, 49, 50, 51, 52, 53, 54, 55, 56, 57, 58, 59] [0, 1, 2, 3, 4, 5, 6, 7, 8, 9, 10, 11, 12, 13, 14, 15, 16, 17, 18, 19, 20, 21, 22, 23, 24, 25, 26, 27, 28, 29, 30, 31, 32, 33, 34, 35] [0, 1, 2, 3, 4, 5, 6, 7, 8, 9, 10, 11, 12, 13, 14, 15, 16, 17, 18, 19, 20, 21, 22, 23, 24, 25, 26, 27, 28, 29, 30, 31, 32, 33, 34, 35, 36, 37, 38, 39, 40, 41, 42, 43, 44, 45, 46, 47, 48, 49, 50, 51, 52, 53, 54, 55, 56, 57, 58, 59] rfl rfl (by decide) (by decide) (by decide) (fun _ => rfl) (by decide) (q0 := 36) (ci := 8) rfl rfl rfl rfl rfl hl.1 (Nat.le_of_ble_eq_true rfl) dL_law_514 ⟨Nat.le_of_ble_eq_true rfl, Nat.le_of_ble_eq_true rfl⟩ (fun z_514 u H locs r_z_514 hp_514 hW => ?_)
          obtain ⟨en2_514, mg2_514⟩ := u
          dsimp only at hp_514 hW
          obtain ⟨hans, e_en, e_mg, he9⟩ := ends_step he9 hp_500 hp_514
          have hWz := hW
          subst e_en
          have hW := hWz
          have hWz := hW
          subst e_mg
          have hW := hWz
          refine z_icmp_eq F (pc := 517) 1014 dL_law_517 (by decide) (by omega) (fun c_517 => ?_) (fun c_517 => ?_)
          · skip
            refine z_iinc F (pc := 1014) hl (lv' := [(3, .int (iI (i + 8))), (2, .ref (aR 0)), (1, .ref (aB 0)), (0, .ref (b))]) dL_law_1014 (k := 0) rfl (by decide) rfl (fun ls hl => ?_)
            refine z_goto F (pc := 1017) 18 dL_law_1017 (by decide) ?_
            exact ih_18 di xs ys lf ev nm lb kd pt so nu al ak ap he ar le cx cr cl ll rw fn fp tl tm ts tc ev9 nm9 so9 nu9 al9 ak9 ap9 hh9 le9 tl9 ts9 tc9 en2_514 mg2_514 sz mn an ax cn ln fc ac wc wp (i + 8) _ _ _ (by omega) (by exact hd) (by exact hmk) (by exact hc) (by exact hr) (by exact he9) (by exact hsh) (by omega) (lv_sub hl [0, 1, 2, 3] rfl) hW
          · skip
            exact absurd (by omega) c_517
        by_cases t_12 : q_32 = 12
        · refine lv_tableIn F.1 F.2.1 (pc := 33) (off := 489) (tgt := 522) dL_law_33 (by rw [iI_toInt (by omega)]; omega) (by rw [iI_toInt (by omega)]; omega) (by rw [iI_toInt (by omega), t_12]; rfl) (by decide) ?_
          refine z_aloadn F (pc := 522) dL_law_522 rfl (lv_at hl 2 rfl) ?_
          refine z_aloadn F (pc := 523) dL_law_523 rfl (lv_at hl 3 rfl) ?_
          refine z_iloadn F (pc := 524) dL_law_524 rfl (lv_at hl 0 rfl) ?_
          refine z_iconst F (pc := 525) (1) dL_law_525 ?_
          refine z_iadd F (pc := 526) dL_law_526 ?_
          refine z_sld F (pc := 527) hX hbl hbA hW hL (by omega) dL_law_527 ?_
          refine z_callVi F (pc := 528) hK hW hA (As := [.int (iI (sv xs0 (i + 1)))]) (rest := []) (ws' := fun (u : (Int → Int) × (Int → Int) × (Int → Int) × (Int → Int) × (Int → Int)) => wB cI cZ aB aD aM aA aS aC aL aT di en mg ++ wD cI cZ aD xs ys lf u.1 u.2.1 sz ++ wM cI cZ aM lb kd pt mn ++ wA cI cZ aA so nu al ak ap an ax ++ wS cI cZ aS u.2.2.1 u.2.2.2.1 u.2.2.2.2 ++ wC cI cZ aC cx cr cl ll cn ++ wL cI cZ aL rw fn fp ln fc ++ wT cI cZ aT tl tm ts tc ++ wR cI cZ aR xs ys lf ev9 nm9 lb kd pt so9 nu9 al9 ak9 ap9 hh9 le9 rw cx cr cl ll tl9 ts9 tc9 sz mn ac en mg ln cn wc wp) (wr := (wA cI cZ aA so nu al ak ap an ax ++ wC cI cZ aC cx cr cl ll cn ++ wL cI cZ aL rw fn fp ln fc ++ wT cI cZ aT tl tm ts tc ++ wR cI cZ aR xs ys lf ev9 nm9 lb kd pt so9 nu9 al9 ak9 ap9 hh9 le9 rw cx cr cl ll tl9 ts9 tc9 sz mn ac en mg ln cn wc wp)) (c_X7_distance l D cI cZ aB aD aM aA aS aC aL aT di xs ys lf ev nm lb kd pt he ar le en mg sz mn (sv xs0 (i + 1)) _ (by omega) (by first | exact hd | exact hd.1) (by omega) (by exact hmk.2.2.1) (by exact hmk.2.2.2.1)) (cwV 1 F.2.2.2.2 gL_law_X7_distance rfl rfl rfl (by decide +kernel) ⟨Nat.le_of_ble_eq_true rfl, Nat.le_of_ble_eq_true rfl⟩) [0, 1, 2, 3, 4, 5, 6, 7, 8, 9, 10, 11, 18, 19, 20, 21] [12, 13, 14, 15, 16, 17, 22, 23, 24, 25, 26, 27, 28, 29, 30, 31, 32, 33, 34, 35, 36, 37, 38, 39, 40, 41, 42, 43, 44, 45, 46, 47, 48, 49, 50, 51, 52, 53, 54, 55, 56, 57, 58, 59] [44, 45, 46, 47, 48, 49, 50, 51, 52, 53, 54, 55, 0, 1, 2, 3, 4, 5, 56, 57, 58, 59, 6, 7, 8, 9, 10, 11, 12, 13, 14, 15, 16, 17, 18, 19, 20, 21, 22, 23, 24, 25, 26, 27, 28, 29, 30, 31, 32, 33, 34, 35, 36, 37, 38, 39, 40, 41, 42, 43] rfl rfl (by decide) (by decide) (by decide) (fun _ => rfl) (by decide) (q0 := 0) (ci := 7) rfl rfl rfl rfl rfl hl.1 (Nat.le_of_ble_eq_true rfl) dL_law_528 ⟨Nat.le_of_ble_eq_true rfl, Nat.le_of_ble_eq_true rfl⟩ (fun z_528 u H locs r_z_528 hp_528 hW => ?_)
          obtain ⟨ev2_528, nm2_528, he2_528, ar2_528, le2_528⟩ := u
          dsimp only at hp_528 hW
          refine z_aloadn F (pc := 531) dL_law_531 rfl (lv_at hl 1 rfl) ?_
          refine z_aloadn F (pc := 532) dL_law_532 rfl (lv_at hl 3 rfl) ?_
          refine z_iloadn F (pc := 533) dL_law_533 rfl (lv_at hl 0 rfl) ?_
          refine z_iconst F (pc := 534) (1) dL_law_534 ?_
          refine z_iadd F (pc := 535) dL_law_535 ?_
          refine z_sld F (pc := 536) hX hbl hbA hW hL (by omega) dL_law_536 ?_
          refine z_callVi F (pc := 537) hK hW hA (As := [.int (iI (sv xs0 (i + 1)))]) (rest := [.int (iI z_528)]) (ws' := fun (u : (Int → Int) × (Int → Int) × (Int → Int) × (Int → Int)) => wB cI cZ aB aD aM aA aS aC aL aT di en mg ++ wD cI cZ aD xs ys lf ev2_528 nm2_528 sz ++ wM cI cZ aM lb kd pt mn ++ wA cI cZ aA so nu al ak ap an ax ++ wS cI cZ aS he2_528 ar2_528 le2_528 ++ wC cI cZ aC cx cr cl ll cn ++ wL cI cZ aL rw fn fp ln fc ++ wT cI cZ aT tl tm ts tc ++ wR cI cZ aR xs ys lf u.1 u.2.1 lb kd pt so9 nu9 al9 ak9 ap9 u.2.2.1 u.2.2.2 rw cx cr cl ll tl9 ts9 tc9 sz mn ac en mg ln cn wc wp) (wr := (wB cI cZ aB aD aM aA aS aC aL aT di en mg ++ wD cI cZ aD xs ys lf ev2_528 nm2_528 sz ++ wM cI cZ aM lb kd pt mn ++ wA cI cZ aA so nu al ak ap an ax ++ wS cI cZ aS he2_528 ar2_528 le2_528 ++ wC cI cZ aC cx cr cl ll cn ++ wL cI cZ aL rw fn fp ln fc ++ wT cI cZ aT tl tm ts tc)) (c_X8_distance l D cI cZ aR xs ys lf ev9 nm9 lb kd pt so9 nu9 al9 ak9 ap9 hh9 le9 rw cx cr cl ll tl9 ts9 tc9 sz mn ac en mg ln cn wc wp (sv xs0 (i + 1)) _ (by omega) (by first | exact hd | exact hd.1) (by omega) (by exact hmk.2.2.1) (by exact hmk.2.2.2.1)) (cwV 1 F.2.2.2.2 gL_law_X8_distance rfl rfl rfl (by decide +kernel) ⟨Nat.le_of_ble_eq_true rfl, Nat.le_of_ble_eq_true rfl⟩) [36, 37, 38, 39, 40, 41, 42, 43, 44, 45, 46, 47, 48, 49, 50, 51, 52, 53, 54, 55, 56, 57, 58, 59] [0, 1, 2, 3, 4, 5, 6, 7, 8, 9, 10, 11, 12, 13, 14, 15, 16, 17, 18, 19, 20, 21, 22, 23, 24, 25, 26, 27, 28, 29, 30, 31, 32, 33, 34, 35] [0, 1, 2, 3, 4, 5, 6, 7, 8, 9, 10, 11, 12, 13, 14, 15, 16, 17, 18, 19, 20, 21, 22, 23, 24, 25, 26, 27, 28, 29, 30, 31, 32, 33, 34, 35, 36, 37, 38, 39, 40, 41, 42, 43, 44, 45, 46, 47, 48, 49, 50, 51, 52, 53, 54, 55, 56, 57, 58, 59] rfl rfl (by decide) (by decide) (by decide) (fun _ => rfl) (by decide) (q0 := 36) (ci := 8) rfl rfl rfl rfl rfl hl.1 (Nat.le_of_ble_eq_true rfl) dL_law_537 ⟨Nat.le_of_ble_eq_true rfl, Nat.le_of_ble_eq_true rfl⟩ (fun z_537 u H locs r_z_537 hp_537 hW => ?_)
          obtain ⟨ev2_537, nm2_537, he2_537, le2_537⟩ := u
          dsimp only at hp_537 hW
          have hans := distR_one hp_528 hp_537
          refine z_icmp_eq F (pc := 540) 1014 dL_law_540 (by decide) (by omega) (fun c_540 => ?_) (fun c_540 => ?_)
          · skip
            refine z_iinc F (pc := 1014) hl (lv' := [(3, .int (iI (i + 8))), (2, .ref (aR 0)), (1, .ref (aB 0)), (0, .ref (b))]) dL_law_1014 (k := 0) rfl (by decide) rfl (fun ls hl => ?_)
            refine z_goto F (pc := 1017) 18 dL_law_1017 (by decide) ?_
            exact ih_18 di xs ys lf ev2_528 nm2_528 lb kd pt so nu al ak ap he2_528 ar2_528 le2_528 cx cr cl ll rw fn fp tl tm ts tc ev2_537 nm2_537 so9 nu9 al9 ak9 ap9 he2_537 le2_537 tl9 ts9 tc9 en mg sz mn an ax cn ln fc ac wc wp (i + 8) _ _ _ (by omega) (by exact hd) (by exact hmk) (by exact hc) (by exact hr) (by exact he9) (by exact hsh) (by omega) (lv_sub hl [0, 1, 2, 3] rfl) hW
          · skip
            exact absurd (by omega) c_540
        by_cases t_13 : q_32 = 13
        · refine lv_tableIn F.1 F.2.1 (pc := 33) (off := 512) (tgt := 545) dL_law_33 (by rw [iI_toInt (by omega)]; omega) (by rw [iI_toInt (by omega)]; omega) (by rw [iI_toInt (by omega), t_13]; rfl) (by decide) ?_
          refine z_aloadn F (pc := 545) dL_law_545 rfl (lv_at hl 2 rfl) ?_
          refine z_callVi F (pc := 546) hK hW hA (As := []) (rest := []) (ws' := fun (u : (Int → Int) × (Int → Int) × (Int → Int) × (Int → Int) × (Int → Int) × (Int → Int)) => wB cI cZ aB aD aM aA aS aC aL aT u.1 en mg ++ wD cI cZ aD xs ys lf u.2.1 u.2.2.1 sz ++ wM cI cZ aM lb kd pt mn ++ wA cI cZ aA so nu al ak ap an ax ++ wS cI cZ aS u.2.2.2.1 u.2.2.2.2.1 u.2.2.2.2.2 ++ wC cI cZ aC cx cr cl ll cn ++ wL cI cZ aL rw fn fp ln fc ++ wT cI cZ aT tl tm ts tc ++ wR cI cZ aR xs ys lf ev9 nm9 lb kd pt so9 nu9 al9 ak9 ap9 hh9 le9 rw cx cr cl ll tl9 ts9 tc9 sz mn ac en mg ln cn wc wp) (wr := (wA cI cZ aA so nu al ak ap an ax ++ wC cI cZ aC cx cr cl ll cn ++ wL cI cZ aL rw fn fp ln fc ++ wT cI cZ aT tl tm ts tc ++ wR cI cZ aR xs ys lf ev9 nm9 lb kd pt so9 nu9 al9 ak9 ap9 hh9 le9 rw cx cr cl ll tl9 ts9 tc9 sz mn ac en mg ln cn wc wp)) (c_X7_nearest l D cI cZ aB aD aM aA aS aC aL aT di xs ys lf ev nm lb kd pt he ar le en mg sz mn _ (by first | exact hd | exact hd.1) (by omega) (by exact hmk.2.2.1) (by exact hmk.2.2.2.1)) (cwV 0 F.2.2.2.2 gL_law_X7_nearest rfl rfl rfl (by decide +kernel) ⟨Nat.le_of_ble_eq_true rfl, Nat.le_of_ble_eq_true rfl⟩) [0, 1, 2, 3, 4, 5, 6, 7, 8, 9, 10, 11, 18, 19, 20, 21] [12, 13, 14, 15, 16, 17, 22, 23, 24, 25, 26, 27, 28, 29, 30, 31, 32, 33, 34, 35, 36, 37, 38, 39, 40, 41, 42, 43, 44, 45, 46, 47, 48, 49, 50, 51, 52, 53, 54, 55, 56, 57, 58, 59] [44, 45, 46, 47, 48, 49, 50, 51, 52, 53, 54, 55, 0, 1, 2, 3, 4, 5, 56, 57, 58, 59, 6, 7, 8, 9, 10, 11, 12, 13, 14, 15, 16, 17, 18, 19, 20, 21, 22, 23, 24, 25, 26, 27, 28, 29, 30, 31, 32, 33, 34, 35, 36, 37, 38, 39, 40, 41, 42, 43] rfl rfl (by decide) (by decide) (by decide) (fun _ => rfl) (by decide) (q0 := 0) (ci := 7) rfl rfl rfl rfl rfl hl.1 (Nat.le_of_ble_eq_true rfl) dL_law_546 ⟨Nat.le_of_ble_eq_true rfl, Nat.le_of_ble_eq_true rfl⟩ (fun z_546 u H locs r_z_546 hp_546 hW => ?_)
          obtain ⟨di2_546, ev2_546, nm2_546, he2_546, ar2_546, le2_546⟩ := u
          dsimp only at hp_546 hW
          refine z_aloadn F (pc := 549) dL_law_549 rfl (lv_at hl 1 rfl) ?_
          refine z_callVi F (pc := 550) hK hW hA (As := []) (rest := [.int (iI z_546)]) (ws' := fun (u : (Int → Int) × (Int → Int) × (Int → Int) × (Int → Int)) => wB cI cZ aB aD aM aA aS aC aL aT di2_546 en mg ++ wD cI cZ aD xs ys lf ev2_546 nm2_546 sz ++ wM cI cZ aM lb kd pt mn ++ wA cI cZ aA so nu al ak ap an ax ++ wS cI cZ aS he2_546 ar2_546 le2_546 ++ wC cI cZ aC cx cr cl ll cn ++ wL cI cZ aL rw fn fp ln fc ++ wT cI cZ aT tl tm ts tc ++ wR cI cZ aR xs ys lf u.1 u.2.1 lb kd pt so9 nu9 al9 ak9 ap9 u.2.2.1 u.2.2.2 rw cx cr cl ll tl9 ts9 tc9 sz mn ac en mg ln cn wc wp) (wr := (wB cI cZ aB aD aM aA aS aC aL aT di2_546 en mg ++ wD cI cZ aD xs ys lf ev2_546 nm2_546 sz ++ wM cI cZ aM lb kd pt mn ++ wA cI cZ aA so nu al ak ap an ax ++ wS cI cZ aS he2_546 ar2_546 le2_546 ++ wC cI cZ aC cx cr cl ll cn ++ wL cI cZ aL rw fn fp ln fc ++ wT cI cZ aT tl tm ts tc)) (c_X8_nearest l D cI cZ aR xs ys lf ev9 nm9 lb kd pt so9 nu9 al9 ak9 ap9 hh9 le9 rw cx cr cl ll tl9 ts9 tc9 sz mn ac en mg ln cn wc wp _ (by first | exact hd | exact hd.1) (by omega) (by exact hmk.2.2.1) (by exact hmk.2.2.2.1)) (cwV 0 F.2.2.2.2 gL_law_X8_nearest rfl rfl rfl (by decide +kernel) ⟨Nat.le_of_ble_eq_true rfl, Nat.le_of_ble_eq_true rfl⟩) [36, 37, 38, 39, 40, 41, 42, 43, 44, 45, 46, 47, 48, 49, 50, 51, 52, 53, 54, 55, 56, 57, 58, 59] [0, 1, 2, 3, 4, 5, 6, 7, 8, 9, 10, 11, 12, 13, 14, 15, 16, 17, 18, 19, 20, 21, 22, 23, 24, 25, 26, 27, 28, 29, 30, 31, 32, 33, 34, 35] [0, 1, 2, 3, 4, 5, 6, 7, 8, 9, 10, 11, 12, 13, 14, 15, 16, 17, 18, 19, 20, 21, 22, 23, 24, 25, 26, 27, 28, 29, 30, 31, 32, 33, 34, 35, 36, 37, 38, 39, 40, 41, 42, 43, 44, 45, 46, 47, 48, 49, 50, 51, 52, 53, 54, 55, 56, 57, 58, 59] rfl rfl (by decide) (by decide) (by decide) (fun _ => rfl) (by decide) (q0 := 36) (ci := 8) rfl rfl rfl rfl rfl hl.1 (Nat.le_of_ble_eq_true rfl) dL_law_550 ⟨Nat.le_of_ble_eq_true rfl, Nat.le_of_ble_eq_true rfl⟩ (fun z_550 u H locs r_z_550 hp_550 hW => ?_)
          obtain ⟨ev2_550, nm2_550, he2_550, le2_550⟩ := u
          dsimp only at hp_550 hW
          have hans := nearR_one hp_546 (near_of hp_550.o)
          refine z_icmp_eq F (pc := 553) 1014 dL_law_553 (by decide) (by omega) (fun c_553 => ?_) (fun c_553 => ?_)
          · skip
            refine z_iinc F (pc := 1014) hl (lv' := [(3, .int (iI (i + 8))), (2, .ref (aR 0)), (1, .ref (aB 0)), (0, .ref (b))]) dL_law_1014 (k := 0) rfl (by decide) rfl (fun ls hl => ?_)
            refine z_goto F (pc := 1017) 18 dL_law_1017 (by decide) ?_
            exact ih_18 di2_546 xs ys lf ev2_546 nm2_546 lb kd pt so nu al ak ap he2_546 ar2_546 le2_546 cx cr cl ll rw fn fp tl tm ts tc ev2_550 nm2_550 so9 nu9 al9 ak9 ap9 he2_550 le2_550 tl9 ts9 tc9 en mg sz mn an ax cn ln fc ac wc wp (i + 8) _ _ _ (by omega) (by exact hd) (by exact hmk) (by exact hc) (by exact hr) (by exact he9) (by exact hsh) (by omega) (lv_sub hl [0, 1, 2, 3] rfl) hW
          · skip
            exact absurd (by omega) c_553
        by_cases t_14 : q_32 = 14
        · refine lv_tableIn F.1 F.2.1 (pc := 33) (off := 525) (tgt := 558) dL_law_33 (by rw [iI_toInt (by omega)]; omega) (by rw [iI_toInt (by omega)]; omega) (by rw [iI_toInt (by omega), t_14]; rfl) (by decide) ?_
          refine z_aloadn F (pc := 558) dL_law_558 rfl (lv_at hl 2 rfl) ?_
          refine z_callVi F (pc := 559) hK hW hA (As := []) (rest := []) (ws' := fun (u : (Int → Int) × (Int → Int) × (Int → Int) × (Int → Int) × (Int → Int) × (Int → Int)) => wB cI cZ aB aD aM aA aS aC aL aT u.1 en mg ++ wD cI cZ aD xs ys lf u.2.1 u.2.2.1 sz ++ wM cI cZ aM lb kd pt mn ++ wA cI cZ aA so nu al ak ap an ax ++ wS cI cZ aS u.2.2.2.1 u.2.2.2.2.1 u.2.2.2.2.2 ++ wC cI cZ aC cx cr cl ll cn ++ wL cI cZ aL rw fn fp ln fc ++ wT cI cZ aT tl tm ts tc ++ wR cI cZ aR xs ys lf ev9 nm9 lb kd pt so9 nu9 al9 ak9 ap9 hh9 le9 rw cx cr cl ll tl9 ts9 tc9 sz mn ac en mg ln cn wc wp) (wr := (wA cI cZ aA so nu al ak ap an ax ++ wC cI cZ aC cx cr cl ll cn ++ wL cI cZ aL rw fn fp ln fc ++ wT cI cZ aT tl tm ts tc ++ wR cI cZ aR xs ys lf ev9 nm9 lb kd pt so9 nu9 al9 ak9 ap9 hh9 le9 rw cx cr cl ll tl9 ts9 tc9 sz mn ac en mg ln cn wc wp)) (c_X7_read l D cI cZ aB aD aM aA aS aC aL aT di xs ys lf ev nm lb kd pt he ar le en mg sz mn _ (by first | exact hd | exact hd.1) (by omega) (by exact hmk.2.2.1) (by exact hmk.2.2.2.1) (by first | exact hmk.2.1 | exact fun j a b => ⟨hmk.2.1 j a b, hmk.2.2.1 j a b⟩) (by exact he9)) (cwV 0 F.2.2.2.2 gL_law_X7_read rfl rfl rfl (by decide +kernel) ⟨Nat.le_of_ble_eq_true rfl, Nat.le_of_ble_eq_true rfl⟩) [0, 1, 2, 3, 4, 5, 6, 7, 8, 9, 10, 11, 18, 19, 20, 21] [12, 13, 14, 15, 16, 17, 22, 23, 24, 25, 26, 27, 28, 29, 30, 31, 32, 33, 34, 35, 36, 37, 38, 39, 40, 41, 42, 43, 44, 45, 46, 47, 48, 49, 50, 51, 52, 53, 54, 55, 56, 57, 58, 59] [44, 45, 46, 47, 48, 49, 50, 51, 52, 53, 54, 55, 0, 1, 2, 3, 4, 5, 56, 57, 58, 59, 6, 7, 8, 9, 10, 11, 12, 13, 14, 15, 16, 17, 18, 19, 20, 21, 22, 23, 24, 25, 26, 27, 28, 29, 30, 31, 32, 33, 34, 35, 36, 37, 38, 39, 40, 41, 42, 43] rfl rfl (by decide) (by decide) (by decide) (fun _ => rfl) (by decide) (q0 := 0) (ci := 7) rfl rfl rfl rfl rfl hl.1 (Nat.le_of_ble_eq_true rfl) dL_law_559 ⟨Nat.le_of_ble_eq_true rfl, Nat.le_of_ble_eq_true rfl⟩ (fun z_559 u H locs r_z_559 hp_559 hW => ?_)
          obtain ⟨di2_559, ev2_559, nm2_559, he2_559, ar2_559, le2_559⟩ := u
          dsimp only at hp_559 hW
          refine z_aloadn F (pc := 562) dL_law_562 rfl (lv_at hl 1 rfl) ?_
          refine z_callVi F (pc := 563) hK hW hA (As := []) (rest := [.int (iI z_559)]) (ws' := fun (u : (Int → Int) × (Int → Int) × (Int → Int) × (Int → Int)) => wB cI cZ aB aD aM aA aS aC aL aT di2_559 en mg ++ wD cI cZ aD xs ys lf ev2_559 nm2_559 sz ++ wM cI cZ aM lb kd pt mn ++ wA cI cZ aA so nu al ak ap an ax ++ wS cI cZ aS he2_559 ar2_559 le2_559 ++ wC cI cZ aC cx cr cl ll cn ++ wL cI cZ aL rw fn fp ln fc ++ wT cI cZ aT tl tm ts tc ++ wR cI cZ aR xs ys lf u.1 u.2.1 lb kd pt so9 nu9 al9 ak9 ap9 u.2.2.1 u.2.2.2 rw cx cr cl ll tl9 ts9 tc9 sz mn ac en mg ln cn wc wp) (wr := (wB cI cZ aB aD aM aA aS aC aL aT di2_559 en mg ++ wD cI cZ aD xs ys lf ev2_559 nm2_559 sz ++ wM cI cZ aM lb kd pt mn ++ wA cI cZ aA so nu al ak ap an ax ++ wS cI cZ aS he2_559 ar2_559 le2_559 ++ wC cI cZ aC cx cr cl ll cn ++ wL cI cZ aL rw fn fp ln fc ++ wT cI cZ aT tl tm ts tc)) (c_X8_read l D cI cZ aR xs ys lf ev9 nm9 lb kd pt so9 nu9 al9 ak9 ap9 hh9 le9 rw cx cr cl ll tl9 ts9 tc9 sz mn ac en mg ln cn wc wp _ (by first | exact hd | exact hd.1) (by omega) (by exact hmk.2.2.1) (by exact hmk.2.2.2.1) (by first | exact hmk.2.1 | exact fun j a b => ⟨hmk.2.1 j a b, hmk.2.2.1 j a b⟩) (by exact he9)) (cwV 0 F.2.2.2.2 gL_law_X8_read rfl rfl rfl (by decide +kernel) ⟨Nat.le_of_ble_eq_true rfl, Nat.le_of_ble_eq_true rfl⟩) [36, 37, 38, 39, 40, 41, 42, 43, 44, 45, 46, 47, 48, 49, 50, 51, 52, 53, 54, 55, 56, 57, 58, 59] [0, 1, 2, 3, 4, 5, 6, 7, 8, 9, 10, 11, 12, 13, 14, 15, 16, 17, 18, 19, 20, 21, 22, 23, 24, 25, 26, 27, 28, 29, 30, 31, 32, 33, 34, 35] [0, 1, 2, 3, 4, 5, 6, 7, 8, 9, 10, 11, 12, 13, 14, 15, 16, 17, 18, 19, 20, 21, 22, 23, 24, 25, 26, 27, 28, 29, 30, 31, 32, 33, 34, 35, 36, 37, 38, 39, 40, 41, 42, 43, 44, 45, 46, 47, 48, 49, 50, 51, 52, 53, 54, 55, 56, 57, 58, 59] rfl rfl (by decide) (by decide) (by decide) (fun _ => rfl) (by decide) (q0 := 36) (ci := 8) rfl rfl rfl rfl rfl hl.1 (Nat.le_of_ble_eq_true rfl) dL_law_563 ⟨Nat.le_of_ble_eq_true rfl, Nat.le_of_ble_eq_true rfl⟩ (fun z_563 u H locs r_z_563 hp_563 hW => ?_)
          obtain ⟨ev2_563, nm2_563, he2_563, le2_563⟩ := u
          dsimp only at hp_563 hW
          have hans := readR_one hp_559 hp_563.1
          refine z_icmp_eq F (pc := 566) 1014 dL_law_566 (by decide) (by omega) (fun c_566 => ?_) (fun c_566 => ?_)
          · skip
            refine z_iinc F (pc := 1014) hl (lv' := [(3, .int (iI (i + 8))), (2, .ref (aR 0)), (1, .ref (aB 0)), (0, .ref (b))]) dL_law_1014 (k := 0) rfl (by decide) rfl (fun ls hl => ?_)
            refine z_goto F (pc := 1017) 18 dL_law_1017 (by decide) ?_
            exact ih_18 di2_559 xs ys lf ev2_559 nm2_559 lb kd pt so nu al ak ap he2_559 ar2_559 le2_559 cx cr cl ll rw fn fp tl tm ts tc ev2_563 nm2_563 so9 nu9 al9 ak9 ap9 he2_563 le2_563 tl9 ts9 tc9 en mg sz mn an ax cn ln fc ac wc wp (i + 8) _ _ _ (by omega) (by exact hd) (by exact hmk) (by exact hc) (by exact hr) (by exact he9) (by exact hsh) (by omega) (lv_sub hl [0, 1, 2, 3] rfl) hW
          · skip
            exact absurd (by omega) c_566
        by_cases t_15 : q_32 = 15
        · refine lv_tableIn F.1 F.2.1 (pc := 33) (off := 538) (tgt := 571) dL_law_33 (by rw [iI_toInt (by omega)]; omega) (by rw [iI_toInt (by omega)]; omega) (by rw [iI_toInt (by omega), t_15]; rfl) (by decide) ?_
          refine z_aloadn F (pc := 571) dL_law_571 rfl (lv_at hl 2 rfl) ?_
          refine z_callVi F (pc := 572) hK hW hA (As := []) (rest := []) (ws' := fun (u : (Int → Int) × (Int → Int) × (Int → Int) × (Int) × (Int → Int) × (Int → Int) × (Int → Int) × (Int → Int) × (Int)) => wB cI cZ aB aD aM aA aS aC aL aT u.1 en mg ++ wD cI cZ aD xs ys lf u.2.1 u.2.2.1 u.2.2.2.1 ++ wM cI cZ aM lb kd pt mn ++ wA cI cZ aA so nu al ak ap an ax ++ wS cI cZ aS u.2.2.2.2.1 u.2.2.2.2.2.1 u.2.2.2.2.2.2.1 ++ wC cI cZ aC cx cr cl ll cn ++ wL cI cZ aL u.2.2.2.2.2.2.2.1 fn fp u.2.2.2.2.2.2.2.2 fc ++ wT cI cZ aT tl tm ts tc ++ wR cI cZ aR xs ys lf ev9 nm9 lb kd pt so9 nu9 al9 ak9 ap9 hh9 le9 rw cx cr cl ll tl9 ts9 tc9 sz mn ac en mg ln cn wc wp) (wr := (wA cI cZ aA so nu al ak ap an ax ++ wC cI cZ aC cx cr cl ll cn ++ wT cI cZ aT tl tm ts tc ++ wR cI cZ aR xs ys lf ev9 nm9 lb kd pt so9 nu9 al9 ak9 ap9 hh9 le9 rw cx cr cl ll tl9 ts9 tc9 sz mn ac en mg ln cn wc wp)) (c_X7_mark l D cI cZ aB aD aM aA aS aC aL aT di xs ys lf ev nm lb kd pt he ar le rw fn fp en mg sz mn ln fc _ (by first | exact hd | exact hd.1) (by omega) (by exact hmk.2.2.1) (by exact hmk.2.2.2.1) (by first | exact hmk.2.1 | exact fun j a b => ⟨hmk.2.1 j a b, hmk.2.2.1 j a b⟩) (by exact he9) (by omega)) (cwV 0 F.2.2.2.2 gL_law_X7_mark rfl rfl rfl (by decide +kernel) ⟨Nat.le_of_ble_eq_true rfl, Nat.le_of_ble_eq_true rfl⟩) [0, 1, 2, 3, 4, 5, 6, 7, 8, 9, 10, 11, 18, 19, 20, 21, 27, 28, 29, 30] [12, 13, 14, 15, 16, 17, 22, 23, 24, 25, 26, 31, 32, 33, 34, 35, 36, 37, 38, 39, 40, 41, 42, 43, 44, 45, 46, 47, 48, 49, 50, 51, 52, 53, 54, 55, 56, 57, 58, 59] [40, 41, 42, 43, 44, 45, 46, 47, 48, 49, 50, 51, 0, 1, 2, 3, 4, 5, 52, 53, 54, 55, 6, 7, 8, 9, 10, 56, 57, 58, 59, 11, 12, 13, 14, 15, 16, 17, 18, 19, 20, 21, 22, 23, 24, 25, 26, 27, 28, 29, 30, 31, 32, 33, 34, 35, 36, 37, 38, 39] rfl rfl (by decide) (by decide) (by decide) (fun _ => rfl) (by decide) (q0 := 0) (ci := 7) rfl rfl rfl rfl rfl hl.1 (Nat.le_of_ble_eq_true rfl) dL_law_572 ⟨Nat.le_of_ble_eq_true rfl, Nat.le_of_ble_eq_true rfl⟩ (fun z_572 u H locs r_z_572 hp_572 hW => ?_)
          obtain ⟨di2_572, ev2_572, nm2_572, sz2_572, he2_572, ar2_572, le2_572, rw2_572, ln2_572⟩ := u
          dsimp only at hp_572 hW
          refine z_aloadn F (pc := 575) dL_law_575 rfl (lv_at hl 1 rfl) ?_
          refine z_callVi F (pc := 576) hK hW hA (As := []) (rest := [.int (iI z_572)]) (ws' := fun (u : (Int → Int) × (Int → Int) × (Int → Int) × (Int → Int) × (Int → Int) × (Int) × (Int)) => wB cI cZ aB aD aM aA aS aC aL aT di2_572 en mg ++ wD cI cZ aD xs ys lf ev2_572 nm2_572 sz2_572 ++ wM cI cZ aM lb kd pt mn ++ wA cI cZ aA so nu al ak ap an ax ++ wS cI cZ aS he2_572 ar2_572 le2_572 ++ wC cI cZ aC cx cr cl ll cn ++ wL cI cZ aL rw2_572 fn fp ln2_572 fc ++ wT cI cZ aT tl tm ts tc ++ wR cI cZ aR xs ys lf u.1 u.2.1 lb kd pt so9 nu9 al9 ak9 ap9 u.2.2.1 u.2.2.2.1 u.2.2.2.2.1 cx cr cl ll tl9 ts9 tc9 u.2.2.2.2.2.2 mn ac en mg u.2.2.2.2.2.1 cn wc wp) (wr := (wB cI cZ aB aD aM aA aS aC aL aT di2_572 en mg ++ wD cI cZ aD xs ys lf ev2_572 nm2_572 sz2_572 ++ wM cI cZ aM lb kd pt mn ++ wA cI cZ aA so nu al ak ap an ax ++ wS cI cZ aS he2_572 ar2_572 le2_572 ++ wC cI cZ aC cx cr cl ll cn ++ wL cI cZ aL rw2_572 fn fp ln2_572 fc ++ wT cI cZ aT tl tm ts tc)) (c_X8_mark l D cI cZ aR xs ys lf ev9 nm9 lb kd pt so9 nu9 al9 ak9 ap9 hh9 le9 rw cx cr cl ll tl9 ts9 tc9 sz mn ac en mg ln cn wc wp _ (by first | exact hd | exact hd.1) (by omega) (by exact hmk.2.2.1) (by exact hmk.2.2.2.1) (by first | exact hmk.2.1 | exact fun j a b => ⟨hmk.2.1 j a b, hmk.2.2.1 j a b⟩) (by exact he9) (by omega)) (cwV 0 F.2.2.2.2 gL_law_X8_mark rfl rfl rfl (by decide +kernel) ⟨Nat.le_of_ble_eq_true rfl, Nat.le_of_ble_eq_true rfl⟩) [36, 37, 38, 39, 40, 41, 42, 43, 44, 45, 46, 47, 48, 49, 50, 51, 52, 53, 54, 55, 56, 57, 58, 59] [0, 1, 2, 3, 4, 5, 6, 7, 8, 9, 10, 11, 12, 13, 14, 15, 16, 17, 18, 19, 20, 21, 22, 23, 24, 25, 26, 27, 28, 29, 30, 31, 32, 33, 34, 35] [0, 1, 2, 3, 4, 5, 6, 7, 8, 9, 10, 11, 12, 13, 14, 15, 16, 17, 18, 19, 20, 21, 22, 23, 24, 25, 26, 27, 28, 29, 30, 31, 32, 33, 34, 35, 36, 37, 38, 39, 40, 41, 42, 43, 44, 45, 46, 47, 48, 49, 50, 51, 52, 53, 54, 55, 56, 57, 58, 59] rfl rfl (by decide) (by decide) (by decide) (fun _ => rfl) (by decide) (q0 := 36) (ci := 8) rfl rfl rfl rfl rfl hl.1 (Nat.le_of_ble_eq_true rfl) dL_law_576 ⟨Nat.le_of_ble_eq_true rfl, Nat.le_of_ble_eq_true rfl⟩ (fun z_576 u H locs r_z_576 hp_576 hW => ?_)
          obtain ⟨ev2_576, nm2_576, he2_576, le2_576, rw2_576, ln2_576, sz2_576⟩ := u
          dsimp only at hp_576 hW
          obtain ⟨hans, e_rw, e_ln, e_sz, hr, hd⟩ := mark_step hd hr hp_572 hp_576
          have hWz := hW
          subst e_rw
          have hW := hWz
          have hWz := hW
          subst e_ln
          have hW := hWz
          have hWz := hW
          subst e_sz
          have hW := hWz
          refine z_icmp_eq F (pc := 579) 1014 dL_law_579 (by decide) (by omega) (fun c_579 => ?_) (fun c_579 => ?_)
          · skip
            refine z_iinc F (pc := 1014) hl (lv' := [(3, .int (iI (i + 8))), (2, .ref (aR 0)), (1, .ref (aB 0)), (0, .ref (b))]) dL_law_1014 (k := 0) rfl (by decide) rfl (fun ls hl => ?_)
            refine z_goto F (pc := 1017) 18 dL_law_1017 (by decide) ?_
            exact ih_18 di2_572 xs ys lf ev2_572 nm2_572 lb kd pt so nu al ak ap he2_572 ar2_572 le2_572 cx cr cl ll rw2_576 fn fp tl tm ts tc ev2_576 nm2_576 so9 nu9 al9 ak9 ap9 he2_576 le2_576 tl9 ts9 tc9 en mg sz2_576 mn an ax cn ln2_576 fc ac wc wp (i + 8) _ _ _ (by omega) (by exact hd) (by exact hmk) (by exact hc) (by exact hr) (by exact he9) (by exact hsh) (by omega) (lv_sub hl [0, 1, 2, 3] rfl) hW
          · skip
            exact absurd (by omega) c_579
        by_cases t_16 : q_32 = 16
        · refine lv_tableIn F.1 F.2.1 (pc := 33) (off := 551) (tgt := 584) dL_law_33 (by rw [iI_toInt (by omega)]; omega) (by rw [iI_toInt (by omega)]; omega) (by rw [iI_toInt (by omega), t_16]; rfl) (by decide) ?_
          refine z_aloadn F (pc := 584) dL_law_584 rfl (lv_at hl 2 rfl) ?_
          refine z_aloadn F (pc := 585) dL_law_585 rfl (lv_at hl 3 rfl) ?_
          refine z_iloadn F (pc := 586) dL_law_586 rfl (lv_at hl 0 rfl) ?_
          refine z_iconst F (pc := 587) (1) dL_law_587 ?_
          refine z_iadd F (pc := 588) dL_law_588 ?_
          refine z_sld F (pc := 589) hX hbl hbA hW hL (by omega) dL_law_589 ?_
          refine z_aloadn F (pc := 590) dL_law_590 rfl (lv_at hl 3 rfl) ?_
          refine z_iloadn F (pc := 591) dL_law_591 rfl (lv_at hl 0 rfl) ?_
          refine z_iconst F (pc := 592) (2) dL_law_592 ?_
          refine z_iadd F (pc := 593) dL_law_593 ?_
          refine z_sld F (pc := 594) hX hbl hbA hW hL (by omega) dL_law_594 ?_
          refine z_callVi F (pc := 595) hK hW hA (As := [.int (iI (sv xs0 (i + 1))), .int (iI (sv xs0 (i + 2)))]) (rest := []) (ws' := fun (u : (Int → Int) × (Int → Int) × (Int → Int)) => wB cI cZ aB aD aM aA aS aC aL aT di en mg ++ wD cI cZ aD xs ys lf ev nm sz ++ wM cI cZ aM lb kd pt mn ++ wA cI cZ aA so nu al ak ap an ax ++ wS cI cZ aS u.1 u.2.1 u.2.2 ++ wC cI cZ aC cx cr cl ll cn ++ wL cI cZ aL rw fn fp ln fc ++ wT cI cZ aT tl tm ts tc ++ wR cI cZ aR xs ys lf ev9 nm9 lb kd pt so9 nu9 al9 ak9 ap9 hh9 le9 rw cx cr cl ll tl9 ts9 tc9 sz mn ac en mg ln cn wc wp) (wr := (wD cI cZ aD xs ys lf ev nm sz ++ wA cI cZ aA so nu al ak ap an ax ++ wC cI cZ aC cx cr cl ll cn ++ wL cI cZ aL rw fn fp ln fc ++ wT cI cZ aT tl tm ts tc ++ wR cI cZ aR xs ys lf ev9 nm9 lb kd pt so9 nu9 al9 ak9 ap9 hh9 le9 rw cx cr cl ll tl9 ts9 tc9 sz mn ac en mg ln cn wc wp)) (c_X7_confused l D cI cZ aB aD aM aA aS aC aL aT di lb kd pt he ar le en mg mn (sv xs0 (i + 1)) (sv xs0 (i + 2)) _ (by omega) (by omega) (by omega) (by exact hmk.2.2.1) (by exact hmk.2.2.2.1) (by first | exact hmk.2.1 | exact fun j a b => ⟨hmk.2.1 j a b, hmk.2.2.1 j a b⟩)) (cwV 2 F.2.2.2.2 gL_law_X7_confused rfl rfl rfl (by decide +kernel) ⟨Nat.le_of_ble_eq_true rfl, Nat.le_of_ble_eq_true rfl⟩) [0, 1, 8, 9, 10, 11, 18, 19, 20, 21] [2, 3, 4, 5, 6, 7, 12, 13, 14, 15, 16, 17, 22, 23, 24, 25, 26, 27, 28, 29, 30, 31, 32, 33, 34, 35, 36, 37, 38, 39, 40, 41, 42, 43, 44, 45, 46, 47, 48, 49, 50, 51, 52, 53, 54, 55, 56, 57, 58, 59] [50, 51, 0, 1, 2, 3, 4, 5, 52, 53, 54, 55, 6, 7, 8, 9, 10, 11, 56, 57, 58, 59, 12, 13, 14, 15, 16, 17, 18, 19, 20, 21, 22, 23, 24, 25, 26, 27, 28, 29, 30, 31, 32, 33, 34, 35, 36, 37, 38, 39, 40, 41, 42, 43, 44, 45, 46, 47, 48, 49] rfl rfl (by decide) (by decide) (by decide) (fun _ => rfl) (by decide) (q0 := 0) (ci := 7) rfl rfl rfl rfl rfl hl.1 (Nat.le_of_ble_eq_true rfl) dL_law_595 ⟨Nat.le_of_ble_eq_true rfl, Nat.le_of_ble_eq_true rfl⟩ (fun z_595 u H locs r_z_595 hp_595 hW => ?_)
          obtain ⟨he2_595, ar2_595, le2_595⟩ := u
          dsimp only at hp_595 hW
          refine z_aloadn F (pc := 598) dL_law_598 rfl (lv_at hl 1 rfl) ?_
          refine z_aloadn F (pc := 599) dL_law_599 rfl (lv_at hl 3 rfl) ?_
          refine z_iloadn F (pc := 600) dL_law_600 rfl (lv_at hl 0 rfl) ?_
          refine z_iconst F (pc := 601) (1) dL_law_601 ?_
          refine z_iadd F (pc := 602) dL_law_602 ?_
          refine z_sld F (pc := 603) hX hbl hbA hW hL (by omega) dL_law_603 ?_
          refine z_aloadn F (pc := 604) dL_law_604 rfl (lv_at hl 3 rfl) ?_
          refine z_iloadn F (pc := 605) dL_law_605 rfl (lv_at hl 0 rfl) ?_
          refine z_iconst F (pc := 606) (2) dL_law_606 ?_
          refine z_iadd F (pc := 607) dL_law_607 ?_
          refine z_sld F (pc := 608) hX hbl hbA hW hL (by omega) dL_law_608 ?_
          refine z_callVi F (pc := 609) hK hW hA (As := [.int (iI (sv xs0 (i + 1))), .int (iI (sv xs0 (i + 2)))]) (rest := [.int (iI z_595)]) (ws' := fun (u : (Int → Int) × (Int → Int)) => wB cI cZ aB aD aM aA aS aC aL aT di en mg ++ wD cI cZ aD xs ys lf ev nm sz ++ wM cI cZ aM lb kd pt mn ++ wA cI cZ aA so nu al ak ap an ax ++ wS cI cZ aS he2_595 ar2_595 le2_595 ++ wC cI cZ aC cx cr cl ll cn ++ wL cI cZ aL rw fn fp ln fc ++ wT cI cZ aT tl tm ts tc ++ wR cI cZ aR xs ys lf ev9 nm9 lb kd pt so9 nu9 al9 ak9 ap9 u.1 u.2 rw cx cr cl ll tl9 ts9 tc9 sz mn ac en mg ln cn wc wp) (wr := (wB cI cZ aB aD aM aA aS aC aL aT di en mg ++ wD cI cZ aD xs ys lf ev nm sz ++ wM cI cZ aM lb kd pt mn ++ wA cI cZ aA so nu al ak ap an ax ++ wS cI cZ aS he2_595 ar2_595 le2_595 ++ wC cI cZ aC cx cr cl ll cn ++ wL cI cZ aL rw fn fp ln fc ++ wT cI cZ aT tl tm ts tc)) (c_X8_confused l D cI cZ aR xs ys lf ev9 nm9 lb kd pt so9 nu9 al9 ak9 ap9 hh9 le9 rw cx cr cl ll tl9 ts9 tc9 sz mn ac en mg ln cn wc wp (sv xs0 (i + 1)) (sv xs0 (i + 2)) _ (by omega) (by omega) (by omega) (by exact hmk.2.2.1) (by exact hmk.2.2.2.1) (by first | exact hmk.2.1 | exact fun j a b => ⟨hmk.2.1 j a b, hmk.2.2.1 j a b⟩)) (cwV 2 F.2.2.2.2 gL_law_X8_confused rfl rfl rfl (by decide +kernel) ⟨Nat.le_of_ble_eq_true rfl, Nat.le_of_ble_eq_true rfl⟩) [36, 37, 38, 39, 40, 41, 42, 43, 44, 45, 46, 47, 48, 49, 50, 51, 52, 53, 54, 55, 56, 57, 58, 59] [0, 1, 2, 3, 4, 5, 6, 7, 8, 9, 10, 11, 12, 13, 14, 15, 16, 17, 18, 19, 20, 21, 22, 23, 24, 25, 26, 27, 28, 29, 30, 31, 32, 33, 34, 35] [0, 1, 2, 3, 4, 5, 6, 7, 8, 9, 10, 11, 12, 13, 14, 15, 16, 17, 18, 19, 20, 21, 22, 23, 24, 25, 26, 27, 28, 29, 30, 31, 32, 33, 34, 35, 36, 37, 38, 39, 40, 41, 42, 43, 44, 45, 46, 47, 48, 49, 50, 51, 52, 53, 54, 55, 56, 57, 58, 59] rfl rfl (by decide) (by decide) (by decide) (fun _ => rfl) (by decide) (q0 := 36) (ci := 8) rfl rfl rfl rfl rfl hl.1 (Nat.le_of_ble_eq_true rfl) dL_law_609 ⟨Nat.le_of_ble_eq_true rfl, Nat.le_of_ble_eq_true rfl⟩ (fun z_609 u H locs r_z_609 hp_609 hW => ?_)
          obtain ⟨he2_609, le2_609⟩ := u
          dsimp only at hp_609 hW
          have hans := confR_one hp_595 hp_609
          refine z_icmp_eq F (pc := 612) 1014 dL_law_612 (by decide) (by omega) (fun c_612 => ?_) (fun c_612 => ?_)
          · skip
            refine z_iinc F (pc := 1014) hl (lv' := [(3, .int (iI (i + 8))), (2, .ref (aR 0)), (1, .ref (aB 0)), (0, .ref (b))]) dL_law_1014 (k := 0) rfl (by decide) rfl (fun ls hl => ?_)
            refine z_goto F (pc := 1017) 18 dL_law_1017 (by decide) ?_
            exact ih_18 di xs ys lf ev nm lb kd pt so nu al ak ap he2_595 ar2_595 le2_595 cx cr cl ll rw fn fp tl tm ts tc ev9 nm9 so9 nu9 al9 ak9 ap9 he2_609 le2_609 tl9 ts9 tc9 en mg sz mn an ax cn ln fc ac wc wp (i + 8) _ _ _ (by omega) (by exact hd) (by exact hmk) (by exact hc) (by exact hr) (by exact he9) (by exact hsh) (by omega) (lv_sub hl [0, 1, 2, 3] rfl) hW
          · skip
            exact absurd (by omega) c_612
        by_cases t_17 : q_32 = 17
        · refine lv_tableIn F.1 F.2.1 (pc := 33) (off := 584) (tgt := 617) dL_law_33 (by rw [iI_toInt (by omega)]; omega) (by rw [iI_toInt (by omega)]; omega) (by rw [iI_toInt (by omega), t_17]; rfl) (by decide) ?_
          refine z_aloadn F (pc := 617) dL_law_617 rfl (lv_at hl 2 rfl) ?_
          refine z_aloadn F (pc := 618) dL_law_618 rfl (lv_at hl 3 rfl) ?_
          refine z_iloadn F (pc := 619) dL_law_619 rfl (lv_at hl 0 rfl) ?_
          refine z_iconst F (pc := 620) (1) dL_law_620 ?_
          refine z_iadd F (pc := 621) dL_law_621 ?_
          refine z_sld F (pc := 622) hX hbl hbA hW hL (by omega) dL_law_622 ?_
          refine z_aloadn F (pc := 623) dL_law_623 rfl (lv_at hl 3 rfl) ?_
          refine z_iloadn F (pc := 624) dL_law_624 rfl (lv_at hl 0 rfl) ?_
          refine z_iconst F (pc := 625) (2) dL_law_625 ?_
          refine z_iadd F (pc := 626) dL_law_626 ?_
          refine z_sld F (pc := 627) hX hbl hbA hW hL (by omega) dL_law_627 ?_
          refine z_callVi F (pc := 628) hK hW hA (As := [.int (iI (sv xs0 (i + 1))), .int (iI (sv xs0 (i + 2)))]) (rest := []) (ws' := fun (u : (Int → Int) × (Int → Int) × (Int → Int)) => wB cI cZ aB aD aM aA aS aC aL aT di en mg ++ wD cI cZ aD xs ys lf ev nm sz ++ wM cI cZ aM lb kd pt mn ++ wA cI cZ aA so nu al ak ap an ax ++ wS cI cZ aS u.1 u.2.1 u.2.2 ++ wC cI cZ aC cx cr cl ll cn ++ wL cI cZ aL rw fn fp ln fc ++ wT cI cZ aT tl tm ts tc ++ wR cI cZ aR xs ys lf ev9 nm9 lb kd pt so9 nu9 al9 ak9 ap9 hh9 le9 rw cx cr cl ll tl9 ts9 tc9 sz mn ac en mg ln cn wc wp) (wr := (wD cI cZ aD xs ys lf ev nm sz ++ wA cI cZ aA so nu al ak ap an ax ++ wC cI cZ aC cx cr cl ll cn ++ wL cI cZ aL rw fn fp ln fc ++ wT cI cZ aT tl tm ts tc ++ wR cI cZ aR xs ys lf ev9 nm9 lb kd pt so9 nu9 al9 ak9 ap9 hh9 le9 rw cx cr cl ll tl9 ts9 tc9 sz mn ac en mg ln cn wc wp)) (c_X7_between l D cI cZ aB aD aM aA aS aC aL aT di lb kd pt he ar le en mg mn (sv xs0 (i + 1)) (sv xs0 (i + 2)) _ (by omega) (by omega) (by omega) (by exact hmk.2.2.1) (by exact hmk.2.2.2.1)) (cwV 2 F.2.2.2.2 gL_law_X7_between rfl rfl rfl (by decide +kernel) ⟨Nat.le_of_ble_eq_true rfl, Nat.le_of_ble_eq_true rfl⟩) [0, 1, 8, 9, 10, 11, 18, 19, 20, 21] [2, 3, 4, 5, 6, 7, 12, 13, 14, 15, 16, 17, 22, 23, 24, 25, 26, 27, 28, 29, 30, 31, 32, 33, 34, 35, 36, 37, 38, 39, 40, 41, 42, 43, 44, 45, 46, 47, 48, 49, 50, 51, 52, 53, 54, 55, 56, 57, 58, 59] [50, 51, 0, 1, 2, 3, 4, 5, 52, 53, 54, 55, 6, 7, 8, 9, 10, 11, 56, 57, 58, 59, 12, 13, 14, 15, 16, 17, 18, 19, 20, 21, 22, 23, 24, 25, 26, 27, 28, 29, 30, 31, 32, 33, 34, 35, 36, 37, 38, 39, 40, 41, 42, 43, 44, 45, 46, 47, 48, 49] rfl rfl (by decide) (by decide) (by decide) (fun _ => rfl) (by decide) (q0 := 0) (ci := 7) rfl rfl rfl rfl rfl hl.1 (Nat.le_of_ble_eq_true rfl) dL_law_628 ⟨Nat.le_of_ble_eq_true rfl, Nat.le_of_ble_eq_true rfl⟩ (fun z_628 u H locs r_z_628 hp_628 hW => ?_)
          obtain ⟨he2_628, ar2_628, le2_628⟩ := u
          dsimp only at hp_628 hW
          refine z_aloadn F (pc := 631) dL_law_631 rfl (lv_at hl 1 rfl) ?_
          refine z_aloadn F (pc := 632) dL_law_632 rfl (lv_at hl 3 rfl) ?_
          refine z_iloadn F (pc := 633) dL_law_633 rfl (lv_at hl 0 rfl) ?_
          refine z_iconst F (pc := 634) (1) dL_law_634 ?_
          refine z_iadd F (pc := 635) dL_law_635 ?_
          refine z_sld F (pc := 636) hX hbl hbA hW hL (by omega) dL_law_636 ?_
          refine z_aloadn F (pc := 637) dL_law_637 rfl (lv_at hl 3 rfl) ?_
          refine z_iloadn F (pc := 638) dL_law_638 rfl (lv_at hl 0 rfl) ?_
          refine z_iconst F (pc := 639) (2) dL_law_639 ?_
          refine z_iadd F (pc := 640) dL_law_640 ?_
          refine z_sld F (pc := 641) hX hbl hbA hW hL (by omega) dL_law_641 ?_
          refine z_callVi F (pc := 642) hK hW hA (As := [.int (iI (sv xs0 (i + 1))), .int (iI (sv xs0 (i + 2)))]) (rest := [.int (iI z_628)]) (ws' := fun (u : (Int → Int) × (Int → Int)) => wB cI cZ aB aD aM aA aS aC aL aT di en mg ++ wD cI cZ aD xs ys lf ev nm sz ++ wM cI cZ aM lb kd pt mn ++ wA cI cZ aA so nu al ak ap an ax ++ wS cI cZ aS he2_628 ar2_628 le2_628 ++ wC cI cZ aC cx cr cl ll cn ++ wL cI cZ aL rw fn fp ln fc ++ wT cI cZ aT tl tm ts tc ++ wR cI cZ aR xs ys lf ev9 nm9 lb kd pt so9 nu9 al9 ak9 ap9 u.1 u.2 rw cx cr cl ll tl9 ts9 tc9 sz mn ac en mg ln cn wc wp) (wr := (wB cI cZ aB aD aM aA aS aC aL aT di en mg ++ wD cI cZ aD xs ys lf ev nm sz ++ wM cI cZ aM lb kd pt mn ++ wA cI cZ aA so nu al ak ap an ax ++ wS cI cZ aS he2_628 ar2_628 le2_628 ++ wC cI cZ aC cx cr cl ll cn ++ wL cI cZ aL rw fn fp ln fc ++ wT cI cZ aT tl tm ts tc)) (c_X8_between l D cI cZ aR xs ys lf ev9 nm9 lb kd pt so9 nu9 al9 ak9 ap9 hh9 le9 rw cx cr cl ll tl9 ts9 tc9 sz mn ac en mg ln cn wc wp (sv xs0 (i + 1)) (sv xs0 (i + 2)) _ (by omega) (by omega) (by omega) (by exact hmk.2.2.1) (by exact hmk.2.2.2.1)) (cwV 2 F.2.2.2.2 gL_law_X8_between rfl rfl rfl (by decide +kernel) ⟨Nat.le_of_ble_eq_true rfl, Nat.le_of_ble_eq_true rfl⟩) [36, 37, 38, 39, 40, 41, 42, 43, 44, 45, 46, 47, 48, 49, 50, 51, 52, 53, 54, 55, 56, 57, 58, 59] [0, 1, 2, 3, 4, 5, 6, 7, 8, 9, 10, 11, 12, 13, 14, 15, 16, 17, 18, 19, 20, 21, 22, 23, 24, 25, 26, 27, 28, 29, 30, 31, 32, 33, 34, 35] [0, 1, 2, 3, 4, 5, 6, 7, 8, 9, 10, 11, 12, 13, 14, 15, 16, 17, 18, 19, 20, 21, 22, 23, 24, 25, 26, 27, 28, 29, 30, 31, 32, 33, 34, 35, 36, 37, 38, 39, 40, 41, 42, 43, 44, 45, 46, 47, 48, 49, 50, 51, 52, 53, 54, 55, 56, 57, 58, 59] rfl rfl (by decide) (by decide) (by decide) (fun _ => rfl) (by decide) (q0 := 36) (ci := 8) rfl rfl rfl rfl rfl hl.1 (Nat.le_of_ble_eq_true rfl) dL_law_642 ⟨Nat.le_of_ble_eq_true rfl, Nat.le_of_ble_eq_true rfl⟩ (fun z_642 u H locs r_z_642 hp_642 hW => ?_)
          obtain ⟨he2_642, le2_642⟩ := u
          dsimp only at hp_642 hW
          have hans := btwR_one hp_628 hp_642
          refine z_icmp_eq F (pc := 645) 1014 dL_law_645 (by decide) (by omega) (fun c_645 => ?_) (fun c_645 => ?_)
          · skip
            refine z_iinc F (pc := 1014) hl (lv' := [(3, .int (iI (i + 8))), (2, .ref (aR 0)), (1, .ref (aB 0)), (0, .ref (b))]) dL_law_1014 (k := 0) rfl (by decide) rfl (fun ls hl => ?_)
            refine z_goto F (pc := 1017) 18 dL_law_1017 (by decide) ?_
            exact ih_18 di xs ys lf ev nm lb kd pt so nu al ak ap he2_628 ar2_628 le2_628 cx cr cl ll rw fn fp tl tm ts tc ev9 nm9 so9 nu9 al9 ak9 ap9 he2_642 le2_642 tl9 ts9 tc9 en mg sz mn an ax cn ln fc ac wc wp (i + 8) _ _ _ (by omega) (by exact hd) (by exact hmk) (by exact hc) (by exact hr) (by exact he9) (by exact hsh) (by omega) (lv_sub hl [0, 1, 2, 3] rfl) hW
          · skip
            exact absurd (by omega) c_645
        by_cases t_18 : q_32 = 18
        · refine lv_tableIn F.1 F.2.1 (pc := 33) (off := 617) (tgt := 650) dL_law_33 (by rw [iI_toInt (by omega)]; omega) (by rw [iI_toInt (by omega)]; omega) (by rw [iI_toInt (by omega), t_18]; rfl) (by decide) ?_
          refine z_aloadn F (pc := 650) dL_law_650 rfl (lv_at hl 2 rfl) ?_
          refine z_aloadn F (pc := 651) dL_law_651 rfl (lv_at hl 3 rfl) ?_
          refine z_iloadn F (pc := 652) dL_law_652 rfl (lv_at hl 0 rfl) ?_
          refine z_iconst F (pc := 653) (1) dL_law_653 ?_
          refine z_iadd F (pc := 654) dL_law_654 ?_
          refine z_sld F (pc := 655) hX hbl hbA hW hL (by omega) dL_law_655 ?_
          refine z_aloadn F (pc := 656) dL_law_656 rfl (lv_at hl 3 rfl) ?_
          refine z_iloadn F (pc := 657) dL_law_657 rfl (lv_at hl 0 rfl) ?_
          refine z_iconst F (pc := 658) (2) dL_law_658 ?_
          refine z_iadd F (pc := 659) dL_law_659 ?_
          refine z_sld F (pc := 660) hX hbl hbA hW hL (by omega) dL_law_660 ?_
          refine z_aloadn F (pc := 661) dL_law_661 rfl (lv_at hl 3 rfl) ?_
          refine z_iloadn F (pc := 662) dL_law_662 rfl (lv_at hl 0 rfl) ?_
          refine z_iconst F (pc := 663) (3) dL_law_663 ?_
          refine z_iadd F (pc := 664) dL_law_664 ?_
          refine z_sld F (pc := 665) hX hbl hbA hW hL (by omega) dL_law_665 ?_
          refine z_aloadn F (pc := 666) dL_law_666 rfl (lv_at hl 3 rfl) ?_
          refine z_iloadn F (pc := 667) dL_law_667 rfl (lv_at hl 0 rfl) ?_
          refine z_iconst F (pc := 668) (4) dL_law_668 ?_
          refine z_iadd F (pc := 669) dL_law_669 ?_
          refine z_sld F (pc := 670) hX hbl hbA hW hL (by omega) dL_law_670 ?_
          refine z_aloadn F (pc := 671) dL_law_671 rfl (lv_at hl 3 rfl) ?_
          refine z_iloadn F (pc := 672) dL_law_672 rfl (lv_at hl 0 rfl) ?_
          refine z_iconst F (pc := 673) (5) dL_law_673 ?_
          refine z_iadd F (pc := 674) dL_law_674 ?_
          refine z_sld F (pc := 675) hX hbl hbA hW hL (by omega) dL_law_675 ?_
          refine z_aloadn F (pc := 676) dL_law_676 rfl (lv_at hl 3 rfl) ?_
          refine z_iloadn F (pc := 677) dL_law_677 rfl (lv_at hl 0 rfl) ?_
          refine z_bipush F (pc := 678) (6) (by decide +kernel) dL_law_678 ?_
          refine z_iadd F (pc := 680) dL_law_680 ?_
          refine z_sld F (pc := 681) hX hbl hbA hW hL (by omega) dL_law_681 ?_
          refine z_aloadn F (pc := 682) dL_law_682 rfl (lv_at hl 3 rfl) ?_
          refine z_iloadn F (pc := 683) dL_law_683 rfl (lv_at hl 0 rfl) ?_
          refine z_bipush F (pc := 684) (7) (by decide +kernel) dL_law_684 ?_
          refine z_iadd F (pc := 686) dL_law_686 ?_
          refine z_sld F (pc := 687) hX hbl hbA hW hL (by omega) dL_law_687 ?_
          refine z_callVi F (pc := 688) hK hW hA (As := [.int (iI (sv xs0 (i + 1))), .int (iI (sv xs0 (i + 2))), .int (iI (sv xs0 (i + 3))), .int (iI (sv xs0 (i + 4))), .int (iI (sv xs0 (i + 5))), .int (iI (sv xs0 (i + 6))), .int (iI (sv xs0 (i + 7)))]) (rest := []) (ws' := fun (u : (Int → Int) × (Int → Int) × (Int → Int) × (Int → Int) × (Int)) => wB cI cZ aB aD aM aA aS aC aL aT di en mg ++ wD cI cZ aD xs ys lf ev nm sz ++ wM cI cZ aM lb kd pt mn ++ wA cI cZ aA so nu al ak ap an ax ++ wS cI cZ aS he ar le ++ wC cI cZ aC u.1 u.2.1 u.2.2.1 u.2.2.2.1 u.2.2.2.2 ++ wL cI cZ aL rw fn fp ln fc ++ wT cI cZ aT tl tm ts tc ++ wR cI cZ aR xs ys lf ev9 nm9 lb kd pt so9 nu9 al9 ak9 ap9 hh9 le9 rw cx cr cl ll tl9 ts9 tc9 sz mn ac en mg ln cn wc wp) (wr := (wD cI cZ aD xs ys lf ev nm sz ++ wM cI cZ aM lb kd pt mn ++ wA cI cZ aA so nu al ak ap an ax ++ wS cI cZ aS he ar le ++ wL cI cZ aL rw fn fp ln fc ++ wT cI cZ aT tl tm ts tc ++ wR cI cZ aR xs ys lf ev9 nm9 lb kd pt so9 nu9 al9 ak9 ap9 hh9 le9 rw cx cr cl ll tl9 ts9 tc9 sz mn ac en mg ln cn wc wp)) (c_X7_command l D cI cZ aB aD aM aA aS aC aL aT di cx cr cl ll en mg cn (sv xs0 (i + 1)) (sv xs0 (i + 2)) (sv xs0 (i + 3)) (sv xs0 (i + 4)) (sv xs0 (i + 5)) (sv xs0 (i + 6)) (sv xs0 (i + 7)) _ (by omega) (by omega) (by omega) (by omega) (by omega) (by omega) (by omega) (by omega)) (cwV 7 F.2.2.2.2 gL_law_X7_command rfl rfl rfl (by decide +kernel) ⟨Nat.le_of_ble_eq_true rfl, Nat.le_of_ble_eq_true rfl⟩) [0, 1, 22, 23, 24, 25, 26] [2, 3, 4, 5, 6, 7, 8, 9, 10, 11, 12, 13, 14, 15, 16, 17, 18, 19, 20, 21, 27, 28, 29, 30, 31, 32, 33, 34, 35, 36, 37, 38, 39, 40, 41, 42, 43, 44, 45, 46, 47, 48, 49, 50, 51, 52, 53, 54, 55, 56, 57, 58, 59] [53, 54, 0, 1, 2, 3, 4, 5, 6, 7, 8, 9, 10, 11, 12, 13, 14, 15, 16, 17, 18, 19, 55, 56, 57, 58, 59, 20, 21, 22, 23, 24, 25, 26, 27, 28, 29, 30, 31, 32, 33, 34, 35, 36, 37, 38, 39, 40, 41, 42, 43, 44, 45, 46, 47, 48, 49, 50, 51, 52] rfl rfl (by decide) (by decide) (by decide) (fun _ => rfl) (by decide) (q0 := 0) (ci := 7) rfl rfl rfl rfl rfl hl.1 (Nat.le_of_ble_eq_true rfl) dL_law_688 ⟨Nat.le_of_ble_eq_true rfl, Nat.le_of_ble_eq_true rfl⟩ (fun z_688 u H locs r_z_688 hp_688 hW => ?_)
          obtain ⟨cx2_688, cr2_688, cl2_688, ll2_688, cn2_688⟩ := u
          dsimp only at hp_688 hW
          refine z_aloadn F (pc := 691) dL_law_691 rfl (lv_at hl 1 rfl) ?_
          refine z_aloadn F (pc := 692) dL_law_692 rfl (lv_at hl 3 rfl) ?_
          refine z_iloadn F (pc := 693) dL_law_693 rfl (lv_at hl 0 rfl) ?_
          refine z_iconst F (pc := 694) (1) dL_law_694 ?_
          refine z_iadd F (pc := 695) dL_law_695 ?_
          refine z_sld F (pc := 696) hX hbl hbA hW hL (by omega) dL_law_696 ?_
          refine z_aloadn F (pc := 697) dL_law_697 rfl (lv_at hl 3 rfl) ?_
          refine z_iloadn F (pc := 698) dL_law_698 rfl (lv_at hl 0 rfl) ?_
          refine z_iconst F (pc := 699) (2) dL_law_699 ?_
          refine z_iadd F (pc := 700) dL_law_700 ?_
          refine z_sld F (pc := 701) hX hbl hbA hW hL (by omega) dL_law_701 ?_
          refine z_aloadn F (pc := 702) dL_law_702 rfl (lv_at hl 3 rfl) ?_
          refine z_iloadn F (pc := 703) dL_law_703 rfl (lv_at hl 0 rfl) ?_
          refine z_iconst F (pc := 704) (3) dL_law_704 ?_
          refine z_iadd F (pc := 705) dL_law_705 ?_
          refine z_sld F (pc := 706) hX hbl hbA hW hL (by omega) dL_law_706 ?_
          refine z_aloadn F (pc := 707) dL_law_707 rfl (lv_at hl 3 rfl) ?_
          refine z_iloadn F (pc := 708) dL_law_708 rfl (lv_at hl 0 rfl) ?_
          refine z_iconst F (pc := 709) (4) dL_law_709 ?_
          refine z_iadd F (pc := 710) dL_law_710 ?_
          refine z_sld F (pc := 711) hX hbl hbA hW hL (by omega) dL_law_711 ?_
          refine z_aloadn F (pc := 712) dL_law_712 rfl (lv_at hl 3 rfl) ?_
          refine z_iloadn F (pc := 713) dL_law_713 rfl (lv_at hl 0 rfl) ?_
          refine z_iconst F (pc := 714) (5) dL_law_714 ?_
          refine z_iadd F (pc := 715) dL_law_715 ?_
          refine z_sld F (pc := 716) hX hbl hbA hW hL (by omega) dL_law_716 ?_
          refine z_aloadn F (pc := 717) dL_law_717 rfl (lv_at hl 3 rfl) ?_
          refine z_iloadn F (pc := 718) dL_law_718 rfl (lv_at hl 0 rfl) ?_
          refine z_bipush F (pc := 719) (6) (by decide +kernel) dL_law_719 ?_
          refine z_iadd F (pc := 721) dL_law_721 ?_
          refine z_sld F (pc := 722) hX hbl hbA hW hL (by omega) dL_law_722 ?_
          refine z_aloadn F (pc := 723) dL_law_723 rfl (lv_at hl 3 rfl) ?_
          refine z_iloadn F (pc := 724) dL_law_724 rfl (lv_at hl 0 rfl) ?_
          refine z_bipush F (pc := 725) (7) (by decide +kernel) dL_law_725 ?_
          refine z_iadd F (pc := 727) dL_law_727 ?_
          refine z_sld F (pc := 728) hX hbl hbA hW hL (by omega) dL_law_728 ?_
          refine z_callVi F (pc := 729) hK hW hA (As := [.int (iI (sv xs0 (i + 1))), .int (iI (sv xs0 (i + 2))), .int (iI (sv xs0 (i + 3))), .int (iI (sv xs0 (i + 4))), .int (iI (sv xs0 (i + 5))), .int (iI (sv xs0 (i + 6))), .int (iI (sv xs0 (i + 7)))]) (rest := [.int (iI z_688)]) (ws' := fun (u : (Int → Int) × (Int → Int) × (Int → Int) × (Int → Int) × (Int)) => wB cI cZ aB aD aM aA aS aC aL aT di en mg ++ wD cI cZ aD xs ys lf ev nm sz ++ wM cI cZ aM lb kd pt mn ++ wA cI cZ aA so nu al ak ap an ax ++ wS cI cZ aS he ar le ++ wC cI cZ aC cx2_688 cr2_688 cl2_688 ll2_688 cn2_688 ++ wL cI cZ aL rw fn fp ln fc ++ wT cI cZ aT tl tm ts tc ++ wR cI cZ aR xs ys lf ev9 nm9 lb kd pt so9 nu9 al9 ak9 ap9 hh9 le9 rw u.1 u.2.1 u.2.2.1 u.2.2.2.1 tl9 ts9 tc9 sz mn ac en mg ln u.2.2.2.2 wc wp) (wr := (wB cI cZ aB aD aM aA aS aC aL aT di en mg ++ wD cI cZ aD xs ys lf ev nm sz ++ wM cI cZ aM lb kd pt mn ++ wA cI cZ aA so nu al ak ap an ax ++ wS cI cZ aS he ar le ++ wC cI cZ aC cx2_688 cr2_688 cl2_688 ll2_688 cn2_688 ++ wL cI cZ aL rw fn fp ln fc ++ wT cI cZ aT tl tm ts tc)) (c_X8_command l D cI cZ aR xs ys lf ev9 nm9 lb kd pt so9 nu9 al9 ak9 ap9 hh9 le9 rw cx cr cl ll tl9 ts9 tc9 sz mn ac en mg ln cn wc wp (sv xs0 (i + 1)) (sv xs0 (i + 2)) (sv xs0 (i + 3)) (sv xs0 (i + 4)) (sv xs0 (i + 5)) (sv xs0 (i + 6)) (sv xs0 (i + 7)) _ (by omega) (by omega) (by omega) (by omega) (by omega) (by omega) (by omega) (by omega)) (cwV 7 F.2.2.2.2 gL_law_X8_command rfl rfl rfl (by decide +kernel) ⟨Nat.le_of_ble_eq_true rfl, Nat.le_of_ble_eq_true rfl⟩) [36, 37, 38, 39, 40, 41, 42, 43, 44, 45, 46, 47, 48, 49, 50, 51, 52, 53, 54, 55, 56, 57, 58, 59] [0, 1, 2, 3, 4, 5, 6, 7, 8, 9, 10, 11, 12, 13, 14, 15, 16, 17, 18, 19, 20, 21, 22, 23, 24, 25, 26, 27, 28, 29, 30, 31, 32, 33, 34, 35] [0, 1, 2, 3, 4, 5, 6, 7, 8, 9, 10, 11, 12, 13, 14, 15, 16, 17, 18, 19, 20, 21, 22, 23, 24, 25, 26, 27, 28, 29, 30, 31, 32, 33, 34, 35, 36, 37, 38, 39, 40, 41, 42, 43, 44, 45, 46, 47, 48, 49, 50, 51, 52, 53, 54, 55, 56, 57, 58, 59] rfl rfl (by decide) (by decide) (by decide) (fun _ => rfl) (by decide) (q0 := 36) (ci := 8) rfl rfl rfl rfl rfl hl.1 (Nat.le_of_ble_eq_true rfl) dL_law_729 ⟨Nat.le_of_ble_eq_true rfl, Nat.le_of_ble_eq_true rfl⟩ (fun z_729 u H locs r_z_729 hp_729 hW => ?_)
          obtain ⟨cx2_729, cr2_729, cl2_729, ll2_729, cn2_729⟩ := u
          dsimp only at hp_729 hW
          obtain ⟨hans, e_cx, e_cr, e_cl, e_ll, e_cn, hc⟩ := cmd_step hc hp_688 hp_729
          have hWz := hW
          subst e_cx
          have hW := hWz
          have hWz := hW
          subst e_cr
          have hW := hWz
          have hWz := hW
          subst e_cl
          have hW := hWz
          have hWz := hW
          subst e_ll
          have hW := hWz
          have hWz := hW
          subst e_cn
          have hW := hWz
          refine z_icmp_eq F (pc := 732) 1014 dL_law_732 (by decide) (by omega) (fun c_732 => ?_) (fun c_732 => ?_)
          · skip
            refine z_iinc F (pc := 1014) hl (lv' := [(3, .int (iI (i + 8))), (2, .ref (aR 0)), (1, .ref (aB 0)), (0, .ref (b))]) dL_law_1014 (k := 0) rfl (by decide) rfl (fun ls hl => ?_)
            refine z_goto F (pc := 1017) 18 dL_law_1017 (by decide) ?_
            exact ih_18 di xs ys lf ev nm lb kd pt so nu al ak ap he ar le cx2_729 cr2_729 cl2_729 ll2_729 rw fn fp tl tm ts tc ev9 nm9 so9 nu9 al9 ak9 ap9 hh9 le9 tl9 ts9 tc9 en mg sz mn an ax cn2_729 ln fc ac wc wp (i + 8) _ _ _ (by omega) (by exact hd) (by exact hmk) (by exact hc) (by exact hr) (by exact he9) (by exact hsh) (by omega) (lv_sub hl [0, 1, 2, 3] rfl) hW
          · skip
            exact absurd (by omega) c_732
        by_cases t_19 : q_32 = 19
        · refine lv_tableIn F.1 F.2.1 (pc := 33) (off := 704) (tgt := 737) dL_law_33 (by rw [iI_toInt (by omega)]; omega) (by rw [iI_toInt (by omega)]; omega) (by rw [iI_toInt (by omega), t_19]; rfl) (by decide) ?_
          refine z_aloadn F (pc := 737) dL_law_737 rfl (lv_at hl 2 rfl) ?_
          refine z_aloadn F (pc := 738) dL_law_738 rfl (lv_at hl 3 rfl) ?_
          refine z_iloadn F (pc := 739) dL_law_739 rfl (lv_at hl 0 rfl) ?_
          refine z_iconst F (pc := 740) (1) dL_law_740 ?_
          refine z_iadd F (pc := 741) dL_law_741 ?_
          refine z_sld F (pc := 742) hX hbl hbA hW hL (by omega) dL_law_742 ?_
          refine z_callVi F (pc := 743) hK hW hA (As := [.int (iI (sv xs0 (i + 1)))]) (rest := []) (ws' := fun (u : (Int → Int) × (Int → Int) × (Int)) => wB cI cZ aB aD aM aA aS aC aL aT di en mg ++ wD cI cZ aD xs ys lf ev nm sz ++ wM cI cZ aM lb kd pt mn ++ wA cI cZ aA so nu al ak ap an ax ++ wS cI cZ aS he ar le ++ wC cI cZ aC cx cr cl ll cn ++ wL cI cZ aL rw u.1 u.2.1 ln u.2.2 ++ wT cI cZ aT tl tm ts tc ++ wR cI cZ aR xs ys lf ev9 nm9 lb kd pt so9 nu9 al9 ak9 ap9 hh9 le9 rw cx cr cl ll tl9 ts9 tc9 sz mn ac en mg ln cn wc wp) (wr := (wD cI cZ aD xs ys lf ev nm sz ++ wM cI cZ aM lb kd pt mn ++ wA cI cZ aA so nu al ak ap an ax ++ wS cI cZ aS he ar le ++ wT cI cZ aT tl tm ts tc ++ wR cI cZ aR xs ys lf ev9 nm9 lb kd pt so9 nu9 al9 ak9 ap9 hh9 le9 rw cx cr cl ll tl9 ts9 tc9 sz mn ac en mg ln cn wc wp)) (c_X7_parse l D cI cZ aB aD aM aA aS aC aL aT di rw fn fp cx cr cl ll en mg ln fc cn (sv xs0 (i + 1)) _ (by omega) (by exact hc) (by exact hr)) (cwV 1 F.2.2.2.2 gL_law_X7_parse rfl rfl rfl (by decide +kernel) ⟨Nat.le_of_ble_eq_true rfl, Nat.le_of_ble_eq_true rfl⟩) [0, 1, 27, 28, 29, 30, 22, 23, 24, 25, 26] [2, 3, 4, 5, 6, 7, 8, 9, 10, 11, 12, 13, 14, 15, 16, 17, 18, 19, 20, 21, 31, 32, 33, 34, 35, 36, 37, 38, 39, 40, 41, 42, 43, 44, 45, 46, 47, 48, 49, 50, 51, 52, 53, 54, 55, 56, 57, 58, 59] [49, 50, 0, 1, 2, 3, 4, 5, 6, 7, 8, 9, 10, 11, 12, 13, 14, 15, 16, 17, 18, 19, 55, 56, 57, 58, 59, 51, 52, 53, 54, 20, 21, 22, 23, 24, 25, 26, 27, 28, 29, 30, 31, 32, 33, 34, 35, 36, 37, 38, 39, 40, 41, 42, 43, 44, 45, 46, 47, 48] rfl rfl (by decide) (by decide) (by decide) (fun _ => rfl) (by decide) (q0 := 0) (ci := 7) rfl rfl rfl rfl rfl hl.1 (Nat.le_of_ble_eq_true rfl) dL_law_743 ⟨Nat.le_of_ble_eq_true rfl, Nat.le_of_ble_eq_true rfl⟩ (fun z_743 u H locs r_z_743 hp_743 hW => ?_)
          obtain ⟨fn2_743, fp2_743, fc2_743⟩ := u
          dsimp only at hp_743 hW
          refine z_aloadn F (pc := 746) dL_law_746 rfl (lv_at hl 1 rfl) ?_
          refine z_aloadn F (pc := 747) dL_law_747 rfl (lv_at hl 3 rfl) ?_
          refine z_iloadn F (pc := 748) dL_law_748 rfl (lv_at hl 0 rfl) ?_
          refine z_iconst F (pc := 749) (1) dL_law_749 ?_
          refine z_iadd F (pc := 750) dL_law_750 ?_
          refine z_sld F (pc := 751) hX hbl hbA hW hL (by omega) dL_law_751 ?_
          refine z_callVi F (pc := 752) hK hW hA (As := [.int (iI (sv xs0 (i + 1)))]) (rest := [.int (iI z_743)]) (ws' := fun (u : (Int) × (Int)) => wB cI cZ aB aD aM aA aS aC aL aT di en mg ++ wD cI cZ aD xs ys lf ev nm sz ++ wM cI cZ aM lb kd pt mn ++ wA cI cZ aA so nu al ak ap an ax ++ wS cI cZ aS he ar le ++ wC cI cZ aC cx cr cl ll cn ++ wL cI cZ aL rw fn2_743 fp2_743 ln fc2_743 ++ wT cI cZ aT tl tm ts tc ++ wR cI cZ aR xs ys lf ev9 nm9 lb kd pt so9 nu9 al9 ak9 ap9 hh9 le9 rw cx cr cl ll tl9 ts9 tc9 sz mn ac en mg ln cn u.1 u.2) (wr := (wB cI cZ aB aD aM aA aS aC aL aT di en mg ++ wD cI cZ aD xs ys lf ev nm sz ++ wM cI cZ aM lb kd pt mn ++ wA cI cZ aA so nu al ak ap an ax ++ wS cI cZ aS he ar le ++ wC cI cZ aC cx cr cl ll cn ++ wL cI cZ aL rw fn2_743 fp2_743 ln fc2_743 ++ wT cI cZ aT tl tm ts tc)) (c_X8_parse l D cI cZ aR xs ys lf ev9 nm9 lb kd pt so9 nu9 al9 ak9 ap9 hh9 le9 rw cx cr cl ll tl9 ts9 tc9 sz mn ac en mg ln cn wc wp (sv xs0 (i + 1)) _ (by omega) (by exact hc) (by exact hr)) (cwV 1 F.2.2.2.2 gL_law_X8_parse rfl rfl rfl (by decide +kernel) ⟨Nat.le_of_ble_eq_true rfl, Nat.le_of_ble_eq_true rfl⟩) [36, 37, 38, 39, 40, 41, 42, 43, 44, 45, 46, 47, 48, 49, 50, 51, 52, 53, 54, 55, 56, 57, 58, 59] [0, 1, 2, 3, 4, 5, 6, 7, 8, 9, 10, 11, 12, 13, 14, 15, 16, 17, 18, 19, 20, 21, 22, 23, 24, 25, 26, 27, 28, 29, 30, 31, 32, 33, 34, 35] [0, 1, 2, 3, 4, 5, 6, 7, 8, 9, 10, 11, 12, 13, 14, 15, 16, 17, 18, 19, 20, 21, 22, 23, 24, 25, 26, 27, 28, 29, 30, 31, 32, 33, 34, 35, 36, 37, 38, 39, 40, 41, 42, 43, 44, 45, 46, 47, 48, 49, 50, 51, 52, 53, 54, 55, 56, 57, 58, 59] rfl rfl (by decide) (by decide) (by decide) (fun _ => rfl) (by decide) (q0 := 36) (ci := 8) rfl rfl rfl rfl rfl hl.1 (Nat.le_of_ble_eq_true rfl) dL_law_752 ⟨Nat.le_of_ble_eq_true rfl, Nat.le_of_ble_eq_true rfl⟩ (fun z_752 u H locs r_z_752 hp_752 hW => ?_)
          obtain ⟨wc2_752, wp2_752⟩ := u
          dsimp only at hp_752 hW
          have hans := parseR_one hp_743 hp_752
          refine z_icmp_eq F (pc := 755) 1014 dL_law_755 (by decide) (by omega) (fun c_755 => ?_) (fun c_755 => ?_)
          · skip
            refine z_iinc F (pc := 1014) hl (lv' := [(3, .int (iI (i + 8))), (2, .ref (aR 0)), (1, .ref (aB 0)), (0, .ref (b))]) dL_law_1014 (k := 0) rfl (by decide) rfl (fun ls hl => ?_)
            refine z_goto F (pc := 1017) 18 dL_law_1017 (by decide) ?_
            exact ih_18 di xs ys lf ev nm lb kd pt so nu al ak ap he ar le cx cr cl ll rw fn2_743 fp2_743 tl tm ts tc ev9 nm9 so9 nu9 al9 ak9 ap9 hh9 le9 tl9 ts9 tc9 en mg sz mn an ax cn ln fc2_743 ac wc2_752 wp2_752 (i + 8) _ _ _ (by omega) (by exact hd) (by exact hmk) (by exact hc) (by exact hr) (by exact he9) (by exact hsh) (by omega) (lv_sub hl [0, 1, 2, 3] rfl) hW
          · skip
            exact absurd (by omega) c_755
        by_cases t_20 : q_32 = 20
        · refine lv_tableIn F.1 F.2.1 (pc := 33) (off := 727) (tgt := 760) dL_law_33 (by rw [iI_toInt (by omega)]; omega) (by rw [iI_toInt (by omega)]; omega) (by rw [iI_toInt (by omega), t_20]; rfl) (by decide) ?_
          refine z_aloadn F (pc := 760) dL_law_760 rfl (lv_at hl 2 rfl) ?_
          refine z_aloadn F (pc := 761) dL_law_761 rfl (lv_at hl 3 rfl) ?_
          refine z_iloadn F (pc := 762) dL_law_762 rfl (lv_at hl 0 rfl) ?_
          refine z_iconst F (pc := 763) (1) dL_law_763 ?_
          refine z_iadd F (pc := 764) dL_law_764 ?_
          refine z_sld F (pc := 765) hX hbl hbA hW hL (by omega) dL_law_765 ?_
          refine z_aloadn F (pc := 766) dL_law_766 rfl (lv_at hl 3 rfl) ?_
          refine z_iloadn F (pc := 767) dL_law_767 rfl (lv_at hl 0 rfl) ?_
          refine z_iconst F (pc := 768) (2) dL_law_768 ?_
          refine z_iadd F (pc := 769) dL_law_769 ?_
          refine z_sld F (pc := 770) hX hbl hbA hW hL (by omega) dL_law_770 ?_
          refine z_aloadn F (pc := 771) dL_law_771 rfl (lv_at hl 3 rfl) ?_
          refine z_iloadn F (pc := 772) dL_law_772 rfl (lv_at hl 0 rfl) ?_
          refine z_iconst F (pc := 773) (3) dL_law_773 ?_
          refine z_iadd F (pc := 774) dL_law_774 ?_
          refine z_sld F (pc := 775) hX hbl hbA hW hL (by omega) dL_law_775 ?_
          refine z_callVi F (pc := 776) hK hW hA (As := [.int (iI (sv xs0 (i + 1))), .int (iI (sv xs0 (i + 2))), .int (iI (sv xs0 (i + 3)))]) (rest := []) (ws' := fun (u : (Int → Int) × (Int → Int) × (Int)) => wB cI cZ aB aD aM aA aS aC aL aT di en mg ++ wD cI cZ aD xs ys lf ev nm sz ++ wM cI cZ aM lb kd pt mn ++ wA cI cZ aA so nu al ak ap an ax ++ wS cI cZ aS he ar le ++ wC cI cZ aC cx cr cl ll cn ++ wL cI cZ aL rw u.1 u.2.1 ln u.2.2 ++ wT cI cZ aT tl tm ts tc ++ wR cI cZ aR xs ys lf ev9 nm9 lb kd pt so9 nu9 al9 ak9 ap9 hh9 le9 rw cx cr cl ll tl9 ts9 tc9 sz mn ac en mg ln cn wc wp) (wr := (wD cI cZ aD xs ys lf ev nm sz ++ wM cI cZ aM lb kd pt mn ++ wA cI cZ aA so nu al ak ap an ax ++ wS cI cZ aS he ar le ++ wT cI cZ aT tl tm ts tc ++ wR cI cZ aR xs ys lf ev9 nm9 lb kd pt so9 nu9 al9 ak9 ap9 hh9 le9 rw cx cr cl ll tl9 ts9 tc9 sz mn ac en mg ln cn wc wp)) (c_X7_found l D cI cZ aB aD aM aA aS aC aL aT di rw fn fp cx cr cl ll en mg ln fc cn (sv xs0 (i + 1)) (sv xs0 (i + 2)) (sv xs0 (i + 3)) _ (by omega) (by omega) (by omega) (by exact hc) (by exact hr)) (cwV 3 F.2.2.2.2 gL_law_X7_found rfl rfl rfl (by decide +kernel) ⟨Nat.le_of_ble_eq_true rfl, Nat.le_of_ble_eq_true rfl⟩) [0, 1, 27, 28, 29, 30, 22, 23, 24, 25, 26] [2, 3, 4, 5, 6, 7, 8, 9, 10, 11, 12, 13, 14, 15, 16, 17, 18, 19, 20, 21, 31, 32, 33, 34, 35, 36, 37, 38, 39, 40, 41, 42, 43, 44, 45, 46, 47, 48, 49, 50, 51, 52, 53, 54, 55, 56, 57, 58, 59] [49, 50, 0, 1, 2, 3, 4, 5, 6, 7, 8, 9, 10, 11, 12, 13, 14, 15, 16, 17, 18, 19, 55, 56, 57, 58, 59, 51, 52, 53, 54, 20, 21, 22, 23, 24, 25, 26, 27, 28, 29, 30, 31, 32, 33, 34, 35, 36, 37, 38, 39, 40, 41, 42, 43, 44, 45, 46, 47, 48] rfl rfl (by decide) (by decide) (by decide) (fun _ => rfl) (by decide) (q0 := 0) (ci := 7) rfl rfl rfl rfl rfl hl.1 (Nat.le_of_ble_eq_true rfl) dL_law_776 ⟨Nat.le_of_ble_eq_true rfl, Nat.le_of_ble_eq_true rfl⟩ (fun z_776 u H locs r_z_776 hp_776 hW => ?_)
          obtain ⟨fn2_776, fp2_776, fc2_776⟩ := u
          dsimp only at hp_776 hW
          refine z_aloadn F (pc := 779) dL_law_779 rfl (lv_at hl 1 rfl) ?_
          refine z_aloadn F (pc := 780) dL_law_780 rfl (lv_at hl 3 rfl) ?_
          refine z_iloadn F (pc := 781) dL_law_781 rfl (lv_at hl 0 rfl) ?_
          refine z_iconst F (pc := 782) (1) dL_law_782 ?_
          refine z_iadd F (pc := 783) dL_law_783 ?_
          refine z_sld F (pc := 784) hX hbl hbA hW hL (by omega) dL_law_784 ?_
          refine z_aloadn F (pc := 785) dL_law_785 rfl (lv_at hl 3 rfl) ?_
          refine z_iloadn F (pc := 786) dL_law_786 rfl (lv_at hl 0 rfl) ?_
          refine z_iconst F (pc := 787) (2) dL_law_787 ?_
          refine z_iadd F (pc := 788) dL_law_788 ?_
          refine z_sld F (pc := 789) hX hbl hbA hW hL (by omega) dL_law_789 ?_
          refine z_aloadn F (pc := 790) dL_law_790 rfl (lv_at hl 3 rfl) ?_
          refine z_iloadn F (pc := 791) dL_law_791 rfl (lv_at hl 0 rfl) ?_
          refine z_iconst F (pc := 792) (3) dL_law_792 ?_
          refine z_iadd F (pc := 793) dL_law_793 ?_
          refine z_sld F (pc := 794) hX hbl hbA hW hL (by omega) dL_law_794 ?_
          refine z_callVi F (pc := 795) hK hW hA (As := [.int (iI (sv xs0 (i + 1))), .int (iI (sv xs0 (i + 2))), .int (iI (sv xs0 (i + 3)))]) (rest := [.int (iI z_776)]) (ws' := fun (u : (Int) × (Int)) => wB cI cZ aB aD aM aA aS aC aL aT di en mg ++ wD cI cZ aD xs ys lf ev nm sz ++ wM cI cZ aM lb kd pt mn ++ wA cI cZ aA so nu al ak ap an ax ++ wS cI cZ aS he ar le ++ wC cI cZ aC cx cr cl ll cn ++ wL cI cZ aL rw fn2_776 fp2_776 ln fc2_776 ++ wT cI cZ aT tl tm ts tc ++ wR cI cZ aR xs ys lf ev9 nm9 lb kd pt so9 nu9 al9 ak9 ap9 hh9 le9 rw cx cr cl ll tl9 ts9 tc9 sz mn ac en mg ln cn u.1 u.2) (wr := (wB cI cZ aB aD aM aA aS aC aL aT di en mg ++ wD cI cZ aD xs ys lf ev nm sz ++ wM cI cZ aM lb kd pt mn ++ wA cI cZ aA so nu al ak ap an ax ++ wS cI cZ aS he ar le ++ wC cI cZ aC cx cr cl ll cn ++ wL cI cZ aL rw fn2_776 fp2_776 ln fc2_776 ++ wT cI cZ aT tl tm ts tc)) (c_X8_found l D cI cZ aR xs ys lf ev9 nm9 lb kd pt so9 nu9 al9 ak9 ap9 hh9 le9 rw cx cr cl ll tl9 ts9 tc9 sz mn ac en mg ln cn wc wp (sv xs0 (i + 1)) (sv xs0 (i + 2)) (sv xs0 (i + 3)) _ (by omega) (by omega) (by omega) (by exact hc) (by exact hr)) (cwV 3 F.2.2.2.2 gL_law_X8_found rfl rfl rfl (by decide +kernel) ⟨Nat.le_of_ble_eq_true rfl, Nat.le_of_ble_eq_true rfl⟩) [36, 37, 38, 39, 40, 41, 42, 43, 44, 45, 46, 47, 48, 49, 50, 51, 52, 53, 54, 55, 56, 57, 58, 59] [0, 1, 2, 3, 4, 5, 6, 7, 8, 9, 10, 11, 12, 13, 14, 15, 16, 17, 18, 19, 20, 21, 22, 23, 24, 25, 26, 27, 28, 29, 30, 31, 32, 33, 34, 35] [0, 1, 2, 3, 4, 5, 6, 7, 8, 9, 10, 11, 12, 13, 14, 15, 16, 17, 18, 19, 20, 21, 22, 23, 24, 25, 26, 27, 28, 29, 30, 31, 32, 33, 34, 35, 36, 37, 38, 39, 40, 41, 42, 43, 44, 45, 46, 47, 48, 49, 50, 51, 52, 53, 54, 55, 56, 57, 58, 59] rfl rfl (by decide) (by decide) (by decide) (fun _ => rfl) (by decide) (q0 := 36) (ci := 8) rfl rfl rfl rfl rfl hl.1 (Nat.le_of_ble_eq_true rfl) dL_law_795 ⟨Nat.le_of_ble_eq_true rfl, Nat.le_of_ble_eq_true rfl⟩ (fun z_795 u H locs r_z_795 hp_795 hW => ?_)
          obtain ⟨wc2_795, wp2_795⟩ := u
          dsimp only at hp_795 hW
          have hans := foundR_one hp_776 hp_795
          refine z_icmp_eq F (pc := 798) 1014 dL_law_798 (by decide) (by omega) (fun c_798 => ?_) (fun c_798 => ?_)
          · skip
            refine z_iinc F (pc := 1014) hl (lv' := [(3, .int (iI (i + 8))), (2, .ref (aR 0)), (1, .ref (aB 0)), (0, .ref (b))]) dL_law_1014 (k := 0) rfl (by decide) rfl (fun ls hl => ?_)
            refine z_goto F (pc := 1017) 18 dL_law_1017 (by decide) ?_
            exact ih_18 di xs ys lf ev nm lb kd pt so nu al ak ap he ar le cx cr cl ll rw fn2_776 fp2_776 tl tm ts tc ev9 nm9 so9 nu9 al9 ak9 ap9 hh9 le9 tl9 ts9 tc9 en mg sz mn an ax cn ln fc2_776 ac wc2_795 wp2_795 (i + 8) _ _ _ (by omega) (by exact hd) (by exact hmk) (by exact hc) (by exact hr) (by exact he9) (by exact hsh) (by omega) (lv_sub hl [0, 1, 2, 3] rfl) hW
          · skip
            exact absurd (by omega) c_798
        by_cases t_21 : q_32 = 21
        · refine lv_tableIn F.1 F.2.1 (pc := 33) (off := 770) (tgt := 803) dL_law_33 (by rw [iI_toInt (by omega)]; omega) (by rw [iI_toInt (by omega)]; omega) (by rw [iI_toInt (by omega), t_21]; rfl) (by decide) ?_
          refine z_aloadn F (pc := 803) dL_law_803 rfl (lv_at hl 2 rfl) ?_
          refine z_callVi F (pc := 804) hK hW hA (As := []) (rest := []) (ws' := fun (u : Unit) => wB cI cZ aB aD aM aA aS aC aL aT di en mg ++ wD cI cZ aD xs ys lf ev nm sz ++ wM cI cZ aM lb kd pt mn ++ wA cI cZ aA so nu al ak ap an ax ++ wS cI cZ aS he ar le ++ wC cI cZ aC cx cr cl ll cn ++ wL cI cZ aL rw fn fp ln fc ++ wT cI cZ aT tl tm ts tc ++ wR cI cZ aR xs ys lf ev9 nm9 lb kd pt so9 nu9 al9 ak9 ap9 hh9 le9 rw cx cr cl ll tl9 ts9 tc9 sz mn ac en mg ln cn wc wp) (wr := (wD cI cZ aD xs ys lf ev nm sz ++ wM cI cZ aM lb kd pt mn ++ wA cI cZ aA so nu al ak ap an ax ++ wS cI cZ aS he ar le ++ wL cI cZ aL rw fn fp ln fc ++ wT cI cZ aT tl tm ts tc ++ wR cI cZ aR xs ys lf ev9 nm9 lb kd pt so9 nu9 al9 ak9 ap9 hh9 le9 rw cx cr cl ll tl9 ts9 tc9 sz mn ac en mg ln cn wc wp)) (c_X7_hidden l D cI cZ aB aD aM aA aS aC aL aT di cx cr cl ll en mg cn _ (by exact hc)) (cwV 0 F.2.2.2.2 gL_law_X7_hidden rfl rfl rfl (by decide +kernel) ⟨Nat.le_of_ble_eq_true rfl, Nat.le_of_ble_eq_true rfl⟩) [0, 1, 22, 23, 24, 25, 26] [2, 3, 4, 5, 6, 7, 8, 9, 10, 11, 12, 13, 14, 15, 16, 17, 18, 19, 20, 21, 27, 28, 29, 30, 31, 32, 33, 34, 35, 36, 37, 38, 39, 40, 41, 42, 43, 44, 45, 46, 47, 48, 49, 50, 51, 52, 53, 54, 55, 56, 57, 58, 59] [53, 54, 0, 1, 2, 3, 4, 5, 6, 7, 8, 9, 10, 11, 12, 13, 14, 15, 16, 17, 18, 19, 55, 56, 57, 58, 59, 20, 21, 22, 23, 24, 25, 26, 27, 28, 29, 30, 31, 32, 33, 34, 35, 36, 37, 38, 39, 40, 41, 42, 43, 44, 45, 46, 47, 48, 49, 50, 51, 52] rfl rfl (by decide) (by decide) (by decide) (fun _ => rfl) (by decide) (q0 := 0) (ci := 7) rfl rfl rfl rfl rfl hl.1 (Nat.le_of_ble_eq_true rfl) dL_law_804 ⟨Nat.le_of_ble_eq_true rfl, Nat.le_of_ble_eq_true rfl⟩ (fun z_804 u H locs r_z_804 hp_804 hW => ?_)
          refine z_aloadn F (pc := 807) dL_law_807 rfl (lv_at hl 1 rfl) ?_
          refine z_callVi F (pc := 808) hK hW hA (As := []) (rest := [.int (iI z_804)]) (ws' := fun (u : Unit) => wB cI cZ aB aD aM aA aS aC aL aT di en mg ++ wD cI cZ aD xs ys lf ev nm sz ++ wM cI cZ aM lb kd pt mn ++ wA cI cZ aA so nu al ak ap an ax ++ wS cI cZ aS he ar le ++ wC cI cZ aC cx cr cl ll cn ++ wL cI cZ aL rw fn fp ln fc ++ wT cI cZ aT tl tm ts tc ++ wR cI cZ aR xs ys lf ev9 nm9 lb kd pt so9 nu9 al9 ak9 ap9 hh9 le9 rw cx cr cl ll tl9 ts9 tc9 sz mn ac en mg ln cn wc wp) (wr := (wB cI cZ aB aD aM aA aS aC aL aT di en mg ++ wD cI cZ aD xs ys lf ev nm sz ++ wM cI cZ aM lb kd pt mn ++ wA cI cZ aA so nu al ak ap an ax ++ wS cI cZ aS he ar le ++ wC cI cZ aC cx cr cl ll cn ++ wL cI cZ aL rw fn fp ln fc ++ wT cI cZ aT tl tm ts tc)) (c_X8_hidden l D cI cZ aR xs ys lf ev9 nm9 lb kd pt so9 nu9 al9 ak9 ap9 hh9 le9 rw cx cr cl ll tl9 ts9 tc9 sz mn ac en mg ln cn wc wp _ (by exact hc)) (cwV 0 F.2.2.2.2 gL_law_X8_hidden rfl rfl rfl (by decide +kernel) ⟨Nat.le_of_ble_eq_true rfl, Nat.le_of_ble_eq_true rfl⟩) [36, 37, 38, 39, 40, 41, 42, 43, 44, 45, 46, 47, 48, 49, 50, 51, 52, 53, 54, 55, 56, 57, 58, 59] [0, 1, 2, 3, 4, 5, 6, 7, 8, 9, 10, 11, 12, 13, 14, 15, 16, 17, 18, 19, 20, 21, 22, 23, 24, 25, 26, 27, 28, 29, 30, 31, 32, 33, 34, 35] [0, 1, 2, 3, 4, 5, 6, 7, 8, 9, 10, 11, 12, 13, 14, 15, 16, 17, 18, 19, 20, 21, 22, 23, 24, 25, 26, 27, 28, 29, 30, 31, 32, 33, 34, 35, 36, 37, 38, 39, 40, 41, 42, 43, 44, 45, 46, 47, 48, 49, 50, 51, 52, 53, 54, 55, 56, 57, 58, 59] rfl rfl (by decide) (by decide) (by decide) (fun _ => rfl) (by decide) (q0 := 36) (ci := 8) rfl rfl rfl rfl rfl hl.1 (Nat.le_of_ble_eq_true rfl) dL_law_808 ⟨Nat.le_of_ble_eq_true rfl, Nat.le_of_ble_eq_true rfl⟩ (fun z_808 u H locs r_z_808 hp_808 hW => ?_)
          have hans := hidR_one hp_804 hp_808
          refine z_icmp_eq F (pc := 811) 1014 dL_law_811 (by decide) (by omega) (fun c_811 => ?_) (fun c_811 => ?_)
          · skip
            refine z_iinc F (pc := 1014) hl (lv' := [(3, .int (iI (i + 8))), (2, .ref (aR 0)), (1, .ref (aB 0)), (0, .ref (b))]) dL_law_1014 (k := 0) rfl (by decide) rfl (fun ls hl => ?_)
            refine z_goto F (pc := 1017) 18 dL_law_1017 (by decide) ?_
            exact ih_18 di xs ys lf ev nm lb kd pt so nu al ak ap he ar le cx cr cl ll rw fn fp tl tm ts tc ev9 nm9 so9 nu9 al9 ak9 ap9 hh9 le9 tl9 ts9 tc9 en mg sz mn an ax cn ln fc ac wc wp (i + 8) _ _ _ (by omega) (by exact hd) (by exact hmk) (by exact hc) (by exact hr) (by exact he9) (by exact hsh) (by omega) (lv_sub hl [0, 1, 2, 3] rfl) hW
          · skip
            exact absurd (by omega) c_811
        by_cases t_22 : q_32 = 22
        · refine lv_tableIn F.1 F.2.1 (pc := 33) (off := 783) (tgt := 816) dL_law_33 (by rw [iI_toInt (by omega)]; omega) (by rw [iI_toInt (by omega)]; omega) (by rw [iI_toInt (by omega), t_22]; rfl) (by decide) ?_
          refine z_aloadn F (pc := 816) dL_law_816 rfl (lv_at hl 2 rfl) ?_
          refine z_aloadn F (pc := 817) dL_law_817 rfl (lv_at hl 3 rfl) ?_
          refine z_iloadn F (pc := 818) dL_law_818 rfl (lv_at hl 0 rfl) ?_
          refine z_iconst F (pc := 819) (1) dL_law_819 ?_
          refine z_iadd F (pc := 820) dL_law_820 ?_
          refine z_sld F (pc := 821) hX hbl hbA hW hL (by omega) dL_law_821 ?_
          refine z_callVi F (pc := 822) hK hW hA (As := [.int (iI (sv xs0 (i + 1)))]) (rest := []) (ws' := fun (u : Unit) => wB cI cZ aB aD aM aA aS aC aL aT di en mg ++ wD cI cZ aD xs ys lf ev nm sz ++ wM cI cZ aM lb kd pt mn ++ wA cI cZ aA so nu al ak ap an ax ++ wS cI cZ aS he ar le ++ wC cI cZ aC cx cr cl ll cn ++ wL cI cZ aL rw fn fp ln fc ++ wT cI cZ aT tl tm ts tc ++ wR cI cZ aR xs ys lf ev9 nm9 lb kd pt so9 nu9 al9 ak9 ap9 hh9 le9 rw cx cr cl ll tl9 ts9 tc9 sz mn ac en mg ln cn wc wp) (wr := (wD cI cZ aD xs ys lf ev nm sz ++ wM cI cZ aM lb kd pt mn ++ wA cI cZ aA so nu al ak ap an ax ++ wS cI cZ aS he ar le ++ wC cI cZ aC cx cr cl ll cn ++ wT cI cZ aT tl tm ts tc ++ wR cI cZ aR xs ys lf ev9 nm9 lb kd pt so9 nu9 al9 ak9 ap9 hh9 le9 rw cx cr cl ll tl9 ts9 tc9 sz mn ac en mg ln cn wc wp)) (c_X7_line l D cI cZ aB aD aM aA aS aC aL aT di rw fn fp en mg ln fc (sv xs0 (i + 1)) _ (by omega) (by exact hr)) (cwV 1 F.2.2.2.2 gL_law_X7_line rfl rfl rfl (by decide +kernel) ⟨Nat.le_of_ble_eq_true rfl, Nat.le_of_ble_eq_true rfl⟩) [0, 1, 27, 28, 29, 30] [2, 3, 4, 5, 6, 7, 8, 9, 10, 11, 12, 13, 14, 15, 16, 17, 18, 19, 20, 21, 22, 23, 24, 25, 26, 31, 32, 33, 34, 35, 36, 37, 38, 39, 40, 41, 42, 43, 44, 45, 46, 47, 48, 49, 50, 51, 52, 53, 54, 55, 56, 57, 58, 59] [54, 55, 0, 1, 2, 3, 4, 5, 6, 7, 8, 9, 10, 11, 12, 13, 14, 15, 16, 17, 18, 19, 20, 21, 22, 23, 24, 56, 57, 58, 59, 25, 26, 27, 28, 29, 30, 31, 32, 33, 34, 35, 36, 37, 38, 39, 40, 41, 42, 43, 44, 45, 46, 47, 48, 49, 50, 51, 52, 53] rfl rfl (by decide) (by decide) (by decide) (fun _ => rfl) (by decide) (q0 := 0) (ci := 7) rfl rfl rfl rfl rfl hl.1 (Nat.le_of_ble_eq_true rfl) dL_law_822 ⟨Nat.le_of_ble_eq_true rfl, Nat.le_of_ble_eq_true rfl⟩ (fun z_822 u H locs r_z_822 hp_822 hW => ?_)
          refine z_aloadn F (pc := 825) dL_law_825 rfl (lv_at hl 1 rfl) ?_
          refine z_aloadn F (pc := 826) dL_law_826 rfl (lv_at hl 3 rfl) ?_
          refine z_iloadn F (pc := 827) dL_law_827 rfl (lv_at hl 0 rfl) ?_
          refine z_iconst F (pc := 828) (1) dL_law_828 ?_
          refine z_iadd F (pc := 829) dL_law_829 ?_
          refine z_sld F (pc := 830) hX hbl hbA hW hL (by omega) dL_law_830 ?_
          refine z_callVi F (pc := 831) hK hW hA (As := [.int (iI (sv xs0 (i + 1)))]) (rest := [.int (iI z_822)]) (ws' := fun (u : Unit) => wB cI cZ aB aD aM aA aS aC aL aT di en mg ++ wD cI cZ aD xs ys lf ev nm sz ++ wM cI cZ aM lb kd pt mn ++ wA cI cZ aA so nu al ak ap an ax ++ wS cI cZ aS he ar le ++ wC cI cZ aC cx cr cl ll cn ++ wL cI cZ aL rw fn fp ln fc ++ wT cI cZ aT tl tm ts tc ++ wR cI cZ aR xs ys lf ev9 nm9 lb kd pt so9 nu9 al9 ak9 ap9 hh9 le9 rw cx cr cl ll tl9 ts9 tc9 sz mn ac en mg ln cn wc wp) (wr := (wB cI cZ aB aD aM aA aS aC aL aT di en mg ++ wD cI cZ aD xs ys lf ev nm sz ++ wM cI cZ aM lb kd pt mn ++ wA cI cZ aA so nu al ak ap an ax ++ wS cI cZ aS he ar le ++ wC cI cZ aC cx cr cl ll cn ++ wL cI cZ aL rw fn fp ln fc ++ wT cI cZ aT tl tm ts tc)) (c_X8_line l D cI cZ aR xs ys lf ev9 nm9 lb kd pt so9 nu9 al9 ak9 ap9 hh9 le9 rw cx cr cl ll tl9 ts9 tc9 sz mn ac en mg ln cn wc wp (sv xs0 (i + 1)) _ (by omega) (by exact hr)) (cwV 1 F.2.2.2.2 gL_law_X8_line rfl rfl rfl (by decide +kernel) ⟨Nat.le_of_ble_eq_true rfl, Nat.le_of_ble_eq_true rfl⟩) [36, 37, 38, 39, 40, 41, 42, 43, 44, 45, 46, 47, 48, 49, 50, 51, 52, 53, 54, 55, 56, 57, 58, 59] [0, 1, 2, 3, 4, 5, 6, 7, 8, 9, 10, 11, 12, 13, 14, 15, 16, 17, 18, 19, 20, 21, 22, 23, 24, 25, 26, 27, 28, 29, 30, 31, 32, 33, 34, 35] [0, 1, 2, 3, 4, 5, 6, 7, 8, 9, 10, 11, 12, 13, 14, 15, 16, 17, 18, 19, 20, 21, 22, 23, 24, 25, 26, 27, 28, 29, 30, 31, 32, 33, 34, 35, 36, 37, 38, 39, 40, 41, 42, 43, 44, 45, 46, 47, 48, 49, 50, 51, 52, 53, 54, 55, 56, 57, 58, 59] rfl rfl (by decide) (by decide) (by decide) (fun _ => rfl) (by decide) (q0 := 36) (ci := 8) rfl rfl rfl rfl rfl hl.1 (Nat.le_of_ble_eq_true rfl) dL_law_831 ⟨Nat.le_of_ble_eq_true rfl, Nat.le_of_ble_eq_true rfl⟩ (fun z_831 u H locs r_z_831 hp_831 hW => ?_)
          have hans := lineR_one hp_822 hp_831
          refine z_icmp_eq F (pc := 834) 1014 dL_law_834 (by decide) (by omega) (fun c_834 => ?_) (fun c_834 => ?_)
          · skip
            refine z_iinc F (pc := 1014) hl (lv' := [(3, .int (iI (i + 8))), (2, .ref (aR 0)), (1, .ref (aB 0)), (0, .ref (b))]) dL_law_1014 (k := 0) rfl (by decide) rfl (fun ls hl => ?_)
            refine z_goto F (pc := 1017) 18 dL_law_1017 (by decide) ?_
            exact ih_18 di xs ys lf ev nm lb kd pt so nu al ak ap he ar le cx cr cl ll rw fn fp tl tm ts tc ev9 nm9 so9 nu9 al9 ak9 ap9 hh9 le9 tl9 ts9 tc9 en mg sz mn an ax cn ln fc ac wc wp (i + 8) _ _ _ (by omega) (by exact hd) (by exact hmk) (by exact hc) (by exact hr) (by exact he9) (by exact hsh) (by omega) (lv_sub hl [0, 1, 2, 3] rfl) hW
          · skip
            exact absurd (by omega) c_834
        by_cases t_23 : q_32 = 23
        · refine lv_tableIn F.1 F.2.1 (pc := 33) (off := 806) (tgt := 839) dL_law_33 (by rw [iI_toInt (by omega)]; omega) (by rw [iI_toInt (by omega)]; omega) (by rw [iI_toInt (by omega), t_23]; rfl) (by decide) ?_
          refine z_aloadn F (pc := 839) dL_law_839 rfl (lv_at hl 2 rfl) ?_
          refine z_callVi F (pc := 840) hK hW hA (As := []) (rest := []) (ws' := fun (u : (Int)) => wB cI cZ aB aD aM aA aS aC aL aT di en mg ++ wD cI cZ aD xs ys lf ev nm sz ++ wM cI cZ aM lb kd pt mn ++ wA cI cZ aA so nu al ak ap an ax ++ wS cI cZ aS he ar le ++ wC cI cZ aC cx cr cl ll cn ++ wL cI cZ aL rw fn fp u fc ++ wT cI cZ aT tl tm ts tc ++ wR cI cZ aR xs ys lf ev9 nm9 lb kd pt so9 nu9 al9 ak9 ap9 hh9 le9 rw cx cr cl ll tl9 ts9 tc9 sz mn ac en mg ln cn wc wp) (wr := (wD cI cZ aD xs ys lf ev nm sz ++ wM cI cZ aM lb kd pt mn ++ wA cI cZ aA so nu al ak ap an ax ++ wS cI cZ aS he ar le ++ wC cI cZ aC cx cr cl ll cn ++ wT cI cZ aT tl tm ts tc ++ wR cI cZ aR xs ys lf ev9 nm9 lb kd pt so9 nu9 al9 ak9 ap9 hh9 le9 rw cx cr cl ll tl9 ts9 tc9 sz mn ac en mg ln cn wc wp)) (c_X7_wipe l D cI cZ aB aD aM aA aS aC aL aT di rw fn fp en mg ln fc _ (by omega)) (cwV 0 F.2.2.2.2 gL_law_X7_wipe rfl rfl rfl (by decide +kernel) ⟨Nat.le_of_ble_eq_true rfl, Nat.le_of_ble_eq_true rfl⟩) [0, 1, 27, 28, 29, 30] [2, 3, 4, 5, 6, 7, 8, 9, 10, 11, 12, 13, 14, 15, 16, 17, 18, 19, 20, 21, 22, 23, 24, 25, 26, 31, 32, 33, 34, 35, 36, 37, 38, 39, 40, 41, 42, 43, 44, 45, 46, 47, 48, 49, 50, 51, 52, 53, 54, 55, 56, 57, 58, 59] [54, 55, 0, 1, 2, 3, 4, 5, 6, 7, 8, 9, 10, 11, 12, 13, 14, 15, 16, 17, 18, 19, 20, 21, 22, 23, 24, 56, 57, 58, 59, 25, 26, 27, 28, 29, 30, 31, 32, 33, 34, 35, 36, 37, 38, 39, 40, 41, 42, 43, 44, 45, 46, 47, 48, 49, 50, 51, 52, 53] rfl rfl (by decide) (by decide) (by decide) (fun _ => rfl) (by decide) (q0 := 0) (ci := 7) rfl rfl rfl rfl rfl hl.1 (Nat.le_of_ble_eq_true rfl) dL_law_840 ⟨Nat.le_of_ble_eq_true rfl, Nat.le_of_ble_eq_true rfl⟩ (fun z_840 u H locs r_z_840 hp_840 hW => ?_)
          obtain ⟨ln2_840, rfl⟩ : ∃ v, v = u := ⟨_, rfl⟩
          obtain ⟨e_z_840, hp_840⟩ := hp_840
          replace e_z_840 := e_z_840.symm
          subst e_z_840
          refine z_aloadn F (pc := 843) dL_law_843 rfl (lv_at hl 1 rfl) ?_
          refine z_callVi F (pc := 844) hK hW hA (As := []) (rest := [.int (iI ln)]) (ws' := fun (u : (Int)) => wB cI cZ aB aD aM aA aS aC aL aT di en mg ++ wD cI cZ aD xs ys lf ev nm sz ++ wM cI cZ aM lb kd pt mn ++ wA cI cZ aA so nu al ak ap an ax ++ wS cI cZ aS he ar le ++ wC cI cZ aC cx cr cl ll cn ++ wL cI cZ aL rw fn fp ln2_840 fc ++ wT cI cZ aT tl tm ts tc ++ wR cI cZ aR xs ys lf ev9 nm9 lb kd pt so9 nu9 al9 ak9 ap9 hh9 le9 rw cx cr cl ll tl9 ts9 tc9 sz mn ac en mg u cn wc wp) (wr := (wB cI cZ aB aD aM aA aS aC aL aT di en mg ++ wD cI cZ aD xs ys lf ev nm sz ++ wM cI cZ aM lb kd pt mn ++ wA cI cZ aA so nu al ak ap an ax ++ wS cI cZ aS he ar le ++ wC cI cZ aC cx cr cl ll cn ++ wL cI cZ aL rw fn fp ln2_840 fc ++ wT cI cZ aT tl tm ts tc)) (c_X8_wipe l D cI cZ aR xs ys lf ev9 nm9 lb kd pt so9 nu9 al9 ak9 ap9 hh9 le9 rw cx cr cl ll tl9 ts9 tc9 sz mn ac en mg ln cn wc wp _ (by omega)) (cwV 0 F.2.2.2.2 gL_law_X8_wipe rfl rfl rfl (by decide +kernel) ⟨Nat.le_of_ble_eq_true rfl, Nat.le_of_ble_eq_true rfl⟩) [36, 37, 38, 39, 40, 41, 42, 43, 44, 45, 46, 47, 48, 49, 50, 51, 52, 53, 54, 55, 56, 57, 58, 59] [0, 1, 2, 3, 4, 5, 6, 7, 8, 9, 10, 11, 12, 13, 14, 15, 16, 17, 18, 19, 20, 21, 22, 23, 24, 25, 26, 27, 28, 29, 30, 31, 32, 33, 34, 35] [0, 1, 2, 3, 4, 5, 6, 7, 8, 9, 10, 11, 12, 13, 14, 15, 16, 17, 18, 19, 20, 21, 22, 23, 24, 25, 26, 27, 28, 29, 30, 31, 32, 33, 34, 35, 36, 37, 38, 39, 40, 41, 42, 43, 44, 45, 46, 47, 48, 49, 50, 51, 52, 53, 54, 55, 56, 57, 58, 59] rfl rfl (by decide) (by decide) (by decide) (fun _ => rfl) (by decide) (q0 := 36) (ci := 8) rfl rfl rfl rfl rfl hl.1 (Nat.le_of_ble_eq_true rfl) dL_law_844 ⟨Nat.le_of_ble_eq_true rfl, Nat.le_of_ble_eq_true rfl⟩ (fun z_844 u H locs r_z_844 hp_844 hW => ?_)
          obtain ⟨ln2_844, rfl⟩ : ∃ v, v = u := ⟨_, rfl⟩
          obtain ⟨e_z_844, hp_844⟩ := hp_844
          replace e_z_844 := e_z_844.symm
          subst e_z_844
          have hs0 : ln2_840 = 0 := hp_840
          have hs1 : ln2_844 = 0 := hp_844
          have e_q : ln2_844 = ln2_840 := hs1.trans hs0.symm
          have hWz := hW
          subst e_q
          have hW := hWz
          have hr : Rok rw ln2_844 := by rw [hs1]; exact Rok_0 rw
          refine z_icmp_eq F (pc := 847) 1014 dL_law_847 (by decide) (by omega) (fun c_847 => ?_) (fun c_847 => ?_)
          · skip
            refine z_iinc F (pc := 1014) hl (lv' := [(3, .int (iI (i + 8))), (2, .ref (aR 0)), (1, .ref (aB 0)), (0, .ref (b))]) dL_law_1014 (k := 0) rfl (by decide) rfl (fun ls hl => ?_)
            refine z_goto F (pc := 1017) 18 dL_law_1017 (by decide) ?_
            exact ih_18 di xs ys lf ev nm lb kd pt so nu al ak ap he ar le cx cr cl ll rw fn fp tl tm ts tc ev9 nm9 so9 nu9 al9 ak9 ap9 hh9 le9 tl9 ts9 tc9 en mg sz mn an ax cn ln2_844 fc ac wc wp (i + 8) _ _ _ (by omega) (by exact hd) (by exact hmk) (by exact hc) (by exact hr) (by exact he9) (by exact hsh) (by omega) (lv_sub hl [0, 1, 2, 3] rfl) hW
          · skip
            exact absurd (by omega) c_847
        by_cases t_24 : q_32 = 24
        · refine lv_tableIn F.1 F.2.1 (pc := 33) (off := 819) (tgt := 852) dL_law_33 (by rw [iI_toInt (by omega)]; omega) (by rw [iI_toInt (by omega)]; omega) (by rw [iI_toInt (by omega), t_24]; rfl) (by decide) ?_
          refine z_aloadn F (pc := 852) dL_law_852 rfl (lv_at hl 2 rfl) ?_
          refine z_aloadn F (pc := 853) dL_law_853 rfl (lv_at hl 3 rfl) ?_
          refine z_iloadn F (pc := 854) dL_law_854 rfl (lv_at hl 0 rfl) ?_
          refine z_iconst F (pc := 855) (1) dL_law_855 ?_
          refine z_iadd F (pc := 856) dL_law_856 ?_
          refine z_sld F (pc := 857) hX hbl hbA hW hL (by omega) dL_law_857 ?_
          refine z_aloadn F (pc := 858) dL_law_858 rfl (lv_at hl 3 rfl) ?_
          refine z_iloadn F (pc := 859) dL_law_859 rfl (lv_at hl 0 rfl) ?_
          refine z_iconst F (pc := 860) (2) dL_law_860 ?_
          refine z_iadd F (pc := 861) dL_law_861 ?_
          refine z_sld F (pc := 862) hX hbl hbA hW hL (by omega) dL_law_862 ?_
          refine z_aloadn F (pc := 863) dL_law_863 rfl (lv_at hl 3 rfl) ?_
          refine z_iloadn F (pc := 864) dL_law_864 rfl (lv_at hl 0 rfl) ?_
          refine z_iconst F (pc := 865) (3) dL_law_865 ?_
          refine z_iadd F (pc := 866) dL_law_866 ?_
          refine z_sld F (pc := 867) hX hbl hbA hW hL (by omega) dL_law_867 ?_
          refine z_callVi F (pc := 868) hK hW hA (As := [.int (iI (sv xs0 (i + 1))), .int (iI (sv xs0 (i + 2))), .int (iI (sv xs0 (i + 3)))]) (rest := []) (ws' := fun (u : (Int → Int) × (Int → Int) × (Int → Int) × (Int → Int)) => wB cI cZ aB aD aM aA aS aC aL aT di en mg ++ wD cI cZ aD xs ys lf ev nm sz ++ wM cI cZ aM lb kd pt mn ++ wA cI cZ aA so nu al ak ap an ax ++ wS cI cZ aS he ar le ++ wC cI cZ aC cx cr cl ll cn ++ wL cI cZ aL rw fn fp ln fc ++ wT cI cZ aT u.1 u.2.1 u.2.2.1 u.2.2.2 ++ wR cI cZ aR xs ys lf ev9 nm9 lb kd pt so9 nu9 al9 ak9 ap9 hh9 le9 rw cx cr cl ll tl9 ts9 tc9 sz mn ac en mg ln cn wc wp) (wr := (wD cI cZ aD xs ys lf ev nm sz ++ wM cI cZ aM lb kd pt mn ++ wA cI cZ aA so nu al ak ap an ax ++ wS cI cZ aS he ar le ++ wC cI cZ aC cx cr cl ll cn ++ wL cI cZ aL rw fn fp ln fc ++ wR cI cZ aR xs ys lf ev9 nm9 lb kd pt so9 nu9 al9 ak9 ap9 hh9 le9 rw cx cr cl ll tl9 ts9 tc9 sz mn ac en mg ln cn wc wp)) (c_X7_sheet l D cI cZ aB aD aM aA aS aC aL aT di tl tm ts tc en mg (sv xs0 (i + 1)) (sv xs0 (i + 2)) (sv xs0 (i + 3)) _ (by omega) (by omega) (by omega)) (cwV 3 F.2.2.2.2 gL_law_X7_sheet rfl rfl rfl (by decide +kernel) ⟨Nat.le_of_ble_eq_true rfl, Nat.le_of_ble_eq_true rfl⟩) [0, 1, 31, 32, 33, 34, 35] [2, 3, 4, 5, 6, 7, 8, 9, 10, 11, 12, 13, 14, 15, 16, 17, 18, 19, 20, 21, 22, 23, 24, 25, 26, 27, 28, 29, 30, 36, 37, 38, 39, 40, 41, 42, 43, 44, 45, 46, 47, 48, 49, 50, 51, 52, 53, 54, 55, 56, 57, 58, 59] [53, 54, 0, 1, 2, 3, 4, 5, 6, 7, 8, 9, 10, 11, 12, 13, 14, 15, 16, 17, 18, 19, 20, 21, 22, 23, 24, 25, 26, 27, 28, 55, 56, 57, 58, 59, 29, 30, 31, 32, 33, 34, 35, 36, 37, 38, 39, 40, 41, 42, 43, 44, 45, 46, 47, 48, 49, 50, 51, 52] rfl rfl (by decide) (by decide) (by decide) (fun _ => rfl) (by decide) (q0 := 0) (ci := 7) rfl rfl rfl rfl rfl hl.1 (Nat.le_of_ble_eq_true rfl) dL_law_868 ⟨Nat.le_of_ble_eq_true rfl, Nat.le_of_ble_eq_true rfl⟩ (fun z_868 u H locs r_z_868 hp_868 hW => ?_)
          obtain ⟨tl2_868, tm2_868, ts2_868, tc2_868⟩ := u
          dsimp only at hp_868 hW
          refine z_aloadn F (pc := 871) dL_law_871 rfl (lv_at hl 1 rfl) ?_
          refine z_aloadn F (pc := 872) dL_law_872 rfl (lv_at hl 3 rfl) ?_
          refine z_iloadn F (pc := 873) dL_law_873 rfl (lv_at hl 0 rfl) ?_
          refine z_iconst F (pc := 874) (1) dL_law_874 ?_
          refine z_iadd F (pc := 875) dL_law_875 ?_
          refine z_sld F (pc := 876) hX hbl hbA hW hL (by omega) dL_law_876 ?_
          refine z_aloadn F (pc := 877) dL_law_877 rfl (lv_at hl 3 rfl) ?_
          refine z_iloadn F (pc := 878) dL_law_878 rfl (lv_at hl 0 rfl) ?_
          refine z_iconst F (pc := 879) (2) dL_law_879 ?_
          refine z_iadd F (pc := 880) dL_law_880 ?_
          refine z_sld F (pc := 881) hX hbl hbA hW hL (by omega) dL_law_881 ?_
          refine z_aloadn F (pc := 882) dL_law_882 rfl (lv_at hl 3 rfl) ?_
          refine z_iloadn F (pc := 883) dL_law_883 rfl (lv_at hl 0 rfl) ?_
          refine z_iconst F (pc := 884) (3) dL_law_884 ?_
          refine z_iadd F (pc := 885) dL_law_885 ?_
          refine z_sld F (pc := 886) hX hbl hbA hW hL (by omega) dL_law_886 ?_
          refine z_callVi F (pc := 887) hK hW hA (As := [.int (iI (sv xs0 (i + 1))), .int (iI (sv xs0 (i + 2))), .int (iI (sv xs0 (i + 3)))]) (rest := [.int (iI z_868)]) (ws' := fun (u : (Int → Int) × (Int → Int) × (Int → Int)) => wB cI cZ aB aD aM aA aS aC aL aT di en mg ++ wD cI cZ aD xs ys lf ev nm sz ++ wM cI cZ aM lb kd pt mn ++ wA cI cZ aA so nu al ak ap an ax ++ wS cI cZ aS he ar le ++ wC cI cZ aC cx cr cl ll cn ++ wL cI cZ aL rw fn fp ln fc ++ wT cI cZ aT tl2_868 tm2_868 ts2_868 tc2_868 ++ wR cI cZ aR xs ys lf ev9 nm9 lb kd pt so9 nu9 al9 ak9 ap9 hh9 le9 rw cx cr cl ll u.1 u.2.1 u.2.2 sz mn ac en mg ln cn wc wp) (wr := (wB cI cZ aB aD aM aA aS aC aL aT di en mg ++ wD cI cZ aD xs ys lf ev nm sz ++ wM cI cZ aM lb kd pt mn ++ wA cI cZ aA so nu al ak ap an ax ++ wS cI cZ aS he ar le ++ wC cI cZ aC cx cr cl ll cn ++ wL cI cZ aL rw fn fp ln fc ++ wT cI cZ aT tl2_868 tm2_868 ts2_868 tc2_868)) (c_X8_sheet l D cI cZ aR xs ys lf ev9 nm9 lb kd pt so9 nu9 al9 ak9 ap9 hh9 le9 rw cx cr cl ll tl9 ts9 tc9 sz mn ac en mg ln cn wc wp (sv xs0 (i + 1)) (sv xs0 (i + 2)) (sv xs0 (i + 3)) _ (by omega) (by omega) (by omega)) (cwV 3 F.2.2.2.2 gL_law_X8_sheet rfl rfl rfl (by decide +kernel) ⟨Nat.le_of_ble_eq_true rfl, Nat.le_of_ble_eq_true rfl⟩) [36, 37, 38, 39, 40, 41, 42, 43, 44, 45, 46, 47, 48, 49, 50, 51, 52, 53, 54, 55, 56, 57, 58, 59] [0, 1, 2, 3, 4, 5, 6, 7, 8, 9, 10, 11, 12, 13, 14, 15, 16, 17, 18, 19, 20, 21, 22, 23, 24, 25, 26, 27, 28, 29, 30, 31, 32, 33, 34, 35] [0, 1, 2, 3, 4, 5, 6, 7, 8, 9, 10, 11, 12, 13, 14, 15, 16, 17, 18, 19, 20, 21, 22, 23, 24, 25, 26, 27, 28, 29, 30, 31, 32, 33, 34, 35, 36, 37, 38, 39, 40, 41, 42, 43, 44, 45, 46, 47, 48, 49, 50, 51, 52, 53, 54, 55, 56, 57, 58, 59] rfl rfl (by decide) (by decide) (by decide) (fun _ => rfl) (by decide) (q0 := 36) (ci := 8) rfl rfl rfl rfl rfl hl.1 (Nat.le_of_ble_eq_true rfl) dL_law_887 ⟨Nat.le_of_ble_eq_true rfl, Nat.le_of_ble_eq_true rfl⟩ (fun z_887 u H locs r_z_887 hp_887 hW => ?_)
          obtain ⟨tl2_887, ts2_887, tc2_887⟩ := u
          dsimp only at hp_887 hW
          obtain ⟨hans, hsh⟩ := sheet_step hsh hp_868 hp_887
          refine z_icmp_eq F (pc := 890) 1014 dL_law_890 (by decide) (by omega) (fun c_890 => ?_) (fun c_890 => ?_)
          · skip
            refine z_iinc F (pc := 1014) hl (lv' := [(3, .int (iI (i + 8))), (2, .ref (aR 0)), (1, .ref (aB 0)), (0, .ref (b))]) dL_law_1014 (k := 0) rfl (by decide) rfl (fun ls hl => ?_)
            refine z_goto F (pc := 1017) 18 dL_law_1017 (by decide) ?_
            exact ih_18 di xs ys lf ev nm lb kd pt so nu al ak ap he ar le cx cr cl ll rw fn fp tl2_868 tm2_868 ts2_868 tc2_868 ev9 nm9 so9 nu9 al9 ak9 ap9 hh9 le9 tl2_887 ts2_887 tc2_887 en mg sz mn an ax cn ln fc ac wc wp (i + 8) _ _ _ (by omega) (by exact hd) (by exact hmk) (by exact hc) (by exact hr) (by exact he9) (by exact hsh) (by omega) (lv_sub hl [0, 1, 2, 3] rfl) hW
          · skip
            exact absurd (by omega) c_890
        by_cases t_25 : q_32 = 25
        · refine lv_tableIn F.1 F.2.1 (pc := 33) (off := 862) (tgt := 895) dL_law_33 (by rw [iI_toInt (by omega)]; omega) (by rw [iI_toInt (by omega)]; omega) (by rw [iI_toInt (by omega), t_25]; rfl) (by decide) ?_
          refine z_aloadn F (pc := 895) dL_law_895 rfl (lv_at hl 2 rfl) ?_
          refine z_aloadn F (pc := 896) dL_law_896 rfl (lv_at hl 3 rfl) ?_
          refine z_iloadn F (pc := 897) dL_law_897 rfl (lv_at hl 0 rfl) ?_
          refine z_iconst F (pc := 898) (1) dL_law_898 ?_
          refine z_iadd F (pc := 899) dL_law_899 ?_
          refine z_sld F (pc := 900) hX hbl hbA hW hL (by omega) dL_law_900 ?_
          refine z_aloadn F (pc := 901) dL_law_901 rfl (lv_at hl 3 rfl) ?_
          refine z_iloadn F (pc := 902) dL_law_902 rfl (lv_at hl 0 rfl) ?_
          refine z_iconst F (pc := 903) (2) dL_law_903 ?_
          refine z_iadd F (pc := 904) dL_law_904 ?_
          refine z_sld F (pc := 905) hX hbl hbA hW hL (by omega) dL_law_905 ?_
          refine z_aloadn F (pc := 906) dL_law_906 rfl (lv_at hl 3 rfl) ?_
          refine z_iloadn F (pc := 907) dL_law_907 rfl (lv_at hl 0 rfl) ?_
          refine z_iconst F (pc := 908) (3) dL_law_908 ?_
          refine z_iadd F (pc := 909) dL_law_909 ?_
          refine z_sld F (pc := 910) hX hbl hbA hW hL (by omega) dL_law_910 ?_
          refine z_callVi F (pc := 911) hK hW hA (As := [.int (iI (sv xs0 (i + 1))), .int (iI (sv xs0 (i + 2))), .int (iI (sv xs0 (i + 3)))]) (rest := []) (ws' := fun (u : (Int → Int)) => wB cI cZ aB aD aM aA aS aC aL aT di en mg ++ wD cI cZ aD xs ys lf ev nm sz ++ wM cI cZ aM lb kd pt mn ++ wA cI cZ aA so nu al ak ap an ax ++ wS cI cZ aS he ar le ++ wC cI cZ aC cx cr cl ll cn ++ wL cI cZ aL rw fn fp ln fc ++ wT cI cZ aT tl tm ts u ++ wR cI cZ aR xs ys lf ev9 nm9 lb kd pt so9 nu9 al9 ak9 ap9 hh9 le9 rw cx cr cl ll tl9 ts9 tc9 sz mn ac en mg ln cn wc wp) (wr := (wD cI cZ aD xs ys lf ev nm sz ++ wM cI cZ aM lb kd pt mn ++ wA cI cZ aA so nu al ak ap an ax ++ wS cI cZ aS he ar le ++ wC cI cZ aC cx cr cl ll cn ++ wL cI cZ aL rw fn fp ln fc ++ wR cI cZ aR xs ys lf ev9 nm9 lb kd pt so9 nu9 al9 ak9 ap9 hh9 le9 rw cx cr cl ll tl9 ts9 tc9 sz mn ac en mg ln cn wc wp)) (c_X7_lay l D cI cZ aB aD aM aA aS aC aL aT di tl tm ts tc en mg (sv xs0 (i + 1)) (sv xs0 (i + 2)) (sv xs0 (i + 3)) _ (by omega) (by omega) (by omega) (by first | exact hsh.1 | exact hsh.2.1)) (cwV 3 F.2.2.2.2 gL_law_X7_lay rfl rfl rfl (by decide +kernel) ⟨Nat.le_of_ble_eq_true rfl, Nat.le_of_ble_eq_true rfl⟩) [0, 1, 31, 32, 33, 34, 35] [2, 3, 4, 5, 6, 7, 8, 9, 10, 11, 12, 13, 14, 15, 16, 17, 18, 19, 20, 21, 22, 23, 24, 25, 26, 27, 28, 29, 30, 36, 37, 38, 39, 40, 41, 42, 43, 44, 45, 46, 47, 48, 49, 50, 51, 52, 53, 54, 55, 56, 57, 58, 59] [53, 54, 0, 1, 2, 3, 4, 5, 6, 7, 8, 9, 10, 11, 12, 13, 14, 15, 16, 17, 18, 19, 20, 21, 22, 23, 24, 25, 26, 27, 28, 55, 56, 57, 58, 59, 29, 30, 31, 32, 33, 34, 35, 36, 37, 38, 39, 40, 41, 42, 43, 44, 45, 46, 47, 48, 49, 50, 51, 52] rfl rfl (by decide) (by decide) (by decide) (fun _ => rfl) (by decide) (q0 := 0) (ci := 7) rfl rfl rfl rfl rfl hl.1 (Nat.le_of_ble_eq_true rfl) dL_law_911 ⟨Nat.le_of_ble_eq_true rfl, Nat.le_of_ble_eq_true rfl⟩ (fun z_911 u H locs r_z_911 hp_911 hW => ?_)
          obtain ⟨tc2_911, rfl⟩ : ∃ v, v = u := ⟨_, rfl⟩
          refine z_aloadn F (pc := 914) dL_law_914 rfl (lv_at hl 1 rfl) ?_
          refine z_aloadn F (pc := 915) dL_law_915 rfl (lv_at hl 3 rfl) ?_
          refine z_iloadn F (pc := 916) dL_law_916 rfl (lv_at hl 0 rfl) ?_
          refine z_iconst F (pc := 917) (1) dL_law_917 ?_
          refine z_iadd F (pc := 918) dL_law_918 ?_
          refine z_sld F (pc := 919) hX hbl hbA hW hL (by omega) dL_law_919 ?_
          refine z_aloadn F (pc := 920) dL_law_920 rfl (lv_at hl 3 rfl) ?_
          refine z_iloadn F (pc := 921) dL_law_921 rfl (lv_at hl 0 rfl) ?_
          refine z_iconst F (pc := 922) (2) dL_law_922 ?_
          refine z_iadd F (pc := 923) dL_law_923 ?_
          refine z_sld F (pc := 924) hX hbl hbA hW hL (by omega) dL_law_924 ?_
          refine z_aloadn F (pc := 925) dL_law_925 rfl (lv_at hl 3 rfl) ?_
          refine z_iloadn F (pc := 926) dL_law_926 rfl (lv_at hl 0 rfl) ?_
          refine z_iconst F (pc := 927) (3) dL_law_927 ?_
          refine z_iadd F (pc := 928) dL_law_928 ?_
          refine z_sld F (pc := 929) hX hbl hbA hW hL (by omega) dL_law_929 ?_
          refine z_callVi F (pc := 930) hK hW hA (As := [.int (iI (sv xs0 (i + 1))), .int (iI (sv xs0 (i + 2))), .int (iI (sv xs0 (i + 3)))]) (rest := [.int (iI z_911)]) (ws' := fun (u : (Int → Int)) => wB cI cZ aB aD aM aA aS aC aL aT di en mg ++ wD cI cZ aD xs ys lf ev nm sz ++ wM cI cZ aM lb kd pt mn ++ wA cI cZ aA so nu al ak ap an ax ++ wS cI cZ aS he ar le ++ wC cI cZ aC cx cr cl ll cn ++ wL cI cZ aL rw fn fp ln fc ++ wT cI cZ aT tl tm ts tc2_911 ++ wR cI cZ aR xs ys lf ev9 nm9 lb kd pt so9 nu9 al9 ak9 ap9 hh9 le9 rw cx cr cl ll tl9 ts9 u sz mn ac en mg ln cn wc wp) (wr := (wB cI cZ aB aD aM aA aS aC aL aT di en mg ++ wD cI cZ aD xs ys lf ev nm sz ++ wM cI cZ aM lb kd pt mn ++ wA cI cZ aA so nu al ak ap an ax ++ wS cI cZ aS he ar le ++ wC cI cZ aC cx cr cl ll cn ++ wL cI cZ aL rw fn fp ln fc ++ wT cI cZ aT tl tm ts tc2_911)) (c_X8_lay l D cI cZ aR xs ys lf ev9 nm9 lb kd pt so9 nu9 al9 ak9 ap9 hh9 le9 rw cx cr cl ll tl9 ts9 tc9 sz mn ac en mg ln cn wc wp (sv xs0 (i + 1)) (sv xs0 (i + 2)) (sv xs0 (i + 3)) _ (by omega) (by omega) (by omega) (by first | exact hsh.1 | exact hsh.2.1)) (cwV 3 F.2.2.2.2 gL_law_X8_lay rfl rfl rfl (by decide +kernel) ⟨Nat.le_of_ble_eq_true rfl, Nat.le_of_ble_eq_true rfl⟩) [36, 37, 38, 39, 40, 41, 42, 43, 44, 45, 46, 47, 48, 49, 50, 51, 52, 53, 54, 55, 56, 57, 58, 59] [0, 1, 2, 3, 4, 5, 6, 7, 8, 9, 10, 11, 12, 13, 14, 15, 16, 17, 18, 19, 20, 21, 22, 23, 24, 25, 26, 27, 28, 29, 30, 31, 32, 33, 34, 35] [0, 1, 2, 3, 4, 5, 6, 7, 8, 9, 10, 11, 12, 13, 14, 15, 16, 17, 18, 19, 20, 21, 22, 23, 24, 25, 26, 27, 28, 29, 30, 31, 32, 33, 34, 35, 36, 37, 38, 39, 40, 41, 42, 43, 44, 45, 46, 47, 48, 49, 50, 51, 52, 53, 54, 55, 56, 57, 58, 59] rfl rfl (by decide) (by decide) (by decide) (fun _ => rfl) (by decide) (q0 := 36) (ci := 8) rfl rfl rfl rfl rfl hl.1 (Nat.le_of_ble_eq_true rfl) dL_law_930 ⟨Nat.le_of_ble_eq_true rfl, Nat.le_of_ble_eq_true rfl⟩ (fun z_930 u H locs r_z_930 hp_930 hW => ?_)
          obtain ⟨tc2_930, rfl⟩ : ∃ v, v = u := ⟨_, rfl⟩
          obtain ⟨hans, hsh⟩ := lay_step q3 hsh hp_911 hp_930
          refine z_icmp_eq F (pc := 933) 1014 dL_law_933 (by decide) (by omega) (fun c_933 => ?_) (fun c_933 => ?_)
          · skip
            refine z_iinc F (pc := 1014) hl (lv' := [(3, .int (iI (i + 8))), (2, .ref (aR 0)), (1, .ref (aB 0)), (0, .ref (b))]) dL_law_1014 (k := 0) rfl (by decide) rfl (fun ls hl => ?_)
            refine z_goto F (pc := 1017) 18 dL_law_1017 (by decide) ?_
            exact ih_18 di xs ys lf ev nm lb kd pt so nu al ak ap he ar le cx cr cl ll rw fn fp tl tm ts tc2_911 ev9 nm9 so9 nu9 al9 ak9 ap9 hh9 le9 tl9 ts9 tc2_930 en mg sz mn an ax cn ln fc ac wc wp (i + 8) _ _ _ (by omega) (by exact hd) (by exact hmk) (by exact hc) (by exact hr) (by exact he9) (by exact hsh) (by omega) (lv_sub hl [0, 1, 2, 3] rfl) hW
          · skip
            exact absurd (by omega) c_933
        by_cases t_26 : q_32 = 26
        · refine lv_tableIn F.1 F.2.1 (pc := 33) (off := 905) (tgt := 938) dL_law_33 (by rw [iI_toInt (by omega)]; omega) (by rw [iI_toInt (by omega)]; omega) (by rw [iI_toInt (by omega), t_26]; rfl) (by decide) ?_
          refine z_aloadn F (pc := 938) dL_law_938 rfl (lv_at hl 2 rfl) ?_
          refine z_aloadn F (pc := 939) dL_law_939 rfl (lv_at hl 3 rfl) ?_
          refine z_iloadn F (pc := 940) dL_law_940 rfl (lv_at hl 0 rfl) ?_
          refine z_iconst F (pc := 941) (1) dL_law_941 ?_
          refine z_iadd F (pc := 942) dL_law_942 ?_
          refine z_sld F (pc := 943) hX hbl hbA hW hL (by omega) dL_law_943 ?_
          refine z_aloadn F (pc := 944) dL_law_944 rfl (lv_at hl 3 rfl) ?_
          refine z_iloadn F (pc := 945) dL_law_945 rfl (lv_at hl 0 rfl) ?_
          refine z_iconst F (pc := 946) (2) dL_law_946 ?_
          refine z_iadd F (pc := 947) dL_law_947 ?_
          refine z_sld F (pc := 948) hX hbl hbA hW hL (by omega) dL_law_948 ?_
          refine z_aloadn F (pc := 949) dL_law_949 rfl (lv_at hl 3 rfl) ?_
          refine z_iloadn F (pc := 950) dL_law_950 rfl (lv_at hl 0 rfl) ?_
          refine z_iconst F (pc := 951) (3) dL_law_951 ?_
          refine z_iadd F (pc := 952) dL_law_952 ?_
          refine z_sld F (pc := 953) hX hbl hbA hW hL (by omega) dL_law_953 ?_
          refine z_aloadn F (pc := 954) dL_law_954 rfl (lv_at hl 3 rfl) ?_
          refine z_iloadn F (pc := 955) dL_law_955 rfl (lv_at hl 0 rfl) ?_
          refine z_iconst F (pc := 956) (4) dL_law_956 ?_
          refine z_iadd F (pc := 957) dL_law_957 ?_
          refine z_sld F (pc := 958) hX hbl hbA hW hL (by omega) dL_law_958 ?_
          refine z_callVi F (pc := 959) hK hW hA (As := [.int (iI (sv xs0 (i + 1))), .int (iI (sv xs0 (i + 2))), .int (iI (sv xs0 (i + 3))), .int (iI (sv xs0 (i + 4)))]) (rest := []) (ws' := fun (u : (Int → Int) × (Int → Int) × (Int → Int) × (Int)) => wB cI cZ aB aD aM aA aS aC aL aT di en mg ++ wD cI cZ aD u.1 u.2.1 u.2.2.1 ev nm u.2.2.2 ++ wM cI cZ aM lb kd pt mn ++ wA cI cZ aA so nu al ak ap an ax ++ wS cI cZ aS he ar le ++ wC cI cZ aC cx cr cl ll cn ++ wL cI cZ aL rw fn fp ln fc ++ wT cI cZ aT tl tm ts tc ++ wR cI cZ aR xs ys lf ev9 nm9 lb kd pt so9 nu9 al9 ak9 ap9 hh9 le9 rw cx cr cl ll tl9 ts9 tc9 sz mn ac en mg ln cn wc wp) (wr := (wM cI cZ aM lb kd pt mn ++ wA cI cZ aA so nu al ak ap an ax ++ wS cI cZ aS he ar le ++ wC cI cZ aC cx cr cl ll cn ++ wL cI cZ aL rw fn fp ln fc ++ wR cI cZ aR xs ys lf ev9 nm9 lb kd pt so9 nu9 al9 ak9 ap9 hh9 le9 rw cx cr cl ll tl9 ts9 tc9 sz mn ac en mg ln cn wc wp)) (c_X7_scan l D cI cZ aB aD aM aA aS aC aL aT di tl tm ts tc xs ys lf ev nm en mg sz (sv xs0 (i + 1)) (sv xs0 (i + 2)) (sv xs0 (i + 3)) (sv xs0 (i + 4)) _ (by omega) (by omega) (by omega) (by omega) (by first | exact hsh.1 | exact hsh.2.1) (by first | exact hsh.2.2.1 | exact hsh.2.2.2.1) (by first | exact hd | exact hd.1)) (cwV 4 F.2.2.2.2 gL_law_X7_scan rfl rfl rfl (by decide +kernel) ⟨Nat.le_of_ble_eq_true rfl, Nat.le_of_ble_eq_true rfl⟩) [0, 1, 31, 32, 33, 34, 35, 2, 3, 4, 5, 6, 7] [8, 9, 10, 11, 12, 13, 14, 15, 16, 17, 18, 19, 20, 21, 22, 23, 24, 25, 26, 27, 28, 29, 30, 36, 37, 38, 39, 40, 41, 42, 43, 44, 45, 46, 47, 48, 49, 50, 51, 52, 53, 54, 55, 56, 57, 58, 59] [47, 48, 54, 55, 56, 57, 58, 59, 0, 1, 2, 3, 4, 5, 6, 7, 8, 9, 10, 11, 12, 13, 14, 15, 16, 17, 18, 19, 20, 21, 22, 49, 50, 51, 52, 53, 23, 24, 25, 26, 27, 28, 29, 30, 31, 32, 33, 34, 35, 36, 37, 38, 39, 40, 41, 42, 43, 44, 45, 46] rfl rfl (by decide) (by decide) (by decide) (fun _ => rfl) (by decide) (q0 := 0) (ci := 7) rfl rfl rfl rfl rfl hl.1 (Nat.le_of_ble_eq_true rfl) dL_law_959 ⟨Nat.le_of_ble_eq_true rfl, Nat.le_of_ble_eq_true rfl⟩ (fun z_959 u H locs r_z_959 hp_959 hW => ?_)
          obtain ⟨xs2_959, ys2_959, lf2_959, sz2_959⟩ := u
          dsimp only at hp_959 hW
          refine z_aloadn F (pc := 962) dL_law_962 rfl (lv_at hl 1 rfl) ?_
          refine z_aloadn F (pc := 963) dL_law_963 rfl (lv_at hl 3 rfl) ?_
          refine z_iloadn F (pc := 964) dL_law_964 rfl (lv_at hl 0 rfl) ?_
          refine z_iconst F (pc := 965) (1) dL_law_965 ?_
          refine z_iadd F (pc := 966) dL_law_966 ?_
          refine z_sld F (pc := 967) hX hbl hbA hW hL (by omega) dL_law_967 ?_
          refine z_aloadn F (pc := 968) dL_law_968 rfl (lv_at hl 3 rfl) ?_
          refine z_iloadn F (pc := 969) dL_law_969 rfl (lv_at hl 0 rfl) ?_
          refine z_iconst F (pc := 970) (2) dL_law_970 ?_
          refine z_iadd F (pc := 971) dL_law_971 ?_
          refine z_sld F (pc := 972) hX hbl hbA hW hL (by omega) dL_law_972 ?_
          refine z_aloadn F (pc := 973) dL_law_973 rfl (lv_at hl 3 rfl) ?_
          refine z_iloadn F (pc := 974) dL_law_974 rfl (lv_at hl 0 rfl) ?_
          refine z_iconst F (pc := 975) (3) dL_law_975 ?_
          refine z_iadd F (pc := 976) dL_law_976 ?_
          refine z_sld F (pc := 977) hX hbl hbA hW hL (by omega) dL_law_977 ?_
          refine z_aloadn F (pc := 978) dL_law_978 rfl (lv_at hl 3 rfl) ?_
          refine z_iloadn F (pc := 979) dL_law_979 rfl (lv_at hl 0 rfl) ?_
          refine z_iconst F (pc := 980) (4) dL_law_980 ?_
          refine z_iadd F (pc := 981) dL_law_981 ?_
          refine z_sld F (pc := 982) hX hbl hbA hW hL (by omega) dL_law_982 ?_
          refine z_callVi F (pc := 983) hK hW hA (As := [.int (iI (sv xs0 (i + 1))), .int (iI (sv xs0 (i + 2))), .int (iI (sv xs0 (i + 3))), .int (iI (sv xs0 (i + 4)))]) (rest := [.int (iI z_959)]) (ws' := fun (u : (Int → Int) × (Int → Int) × (Int → Int) × (Int)) => wB cI cZ aB aD aM aA aS aC aL aT di en mg ++ wD cI cZ aD xs2_959 ys2_959 lf2_959 ev nm sz2_959 ++ wM cI cZ aM lb kd pt mn ++ wA cI cZ aA so nu al ak ap an ax ++ wS cI cZ aS he ar le ++ wC cI cZ aC cx cr cl ll cn ++ wL cI cZ aL rw fn fp ln fc ++ wT cI cZ aT tl tm ts tc ++ wR cI cZ aR u.1 u.2.1 u.2.2.1 ev9 nm9 lb kd pt so9 nu9 al9 ak9 ap9 hh9 le9 rw cx cr cl ll tl9 ts9 tc9 u.2.2.2 mn ac en mg ln cn wc wp) (wr := (wB cI cZ aB aD aM aA aS aC aL aT di en mg ++ wD cI cZ aD xs2_959 ys2_959 lf2_959 ev nm sz2_959 ++ wM cI cZ aM lb kd pt mn ++ wA cI cZ aA so nu al ak ap an ax ++ wS cI cZ aS he ar le ++ wC cI cZ aC cx cr cl ll cn ++ wL cI cZ aL rw fn fp ln fc ++ wT cI cZ aT tl tm ts tc)) (c_X8_scan l D cI cZ aR xs ys lf ev9 nm9 lb kd pt so9 nu9 al9 ak9 ap9 hh9 le9 rw cx cr cl ll tl9 ts9 tc9 sz mn ac en mg ln cn wc wp (sv xs0 (i + 1)) (sv xs0 (i + 2)) (sv xs0 (i + 3)) (sv xs0 (i + 4)) _ (by omega) (by omega) (by omega) (by omega) (by first | exact hsh.1 | exact hsh.2.1) (by first | exact hsh.2.2.1 | exact hsh.2.2.2.1) (by first | exact hd | exact hd.1)) (cwV 4 F.2.2.2.2 gL_law_X8_scan rfl rfl rfl (by decide +kernel) ⟨Nat.le_of_ble_eq_true rfl, Nat.le_of_ble_eq_true rfl⟩) [36, 37, 38, 39, 40, 41, 42, 43, 44, 45, 46, 47, 48, 49, 50, 51, 52, 53, 54, 55, 56, 57, 58, 59] [0, 1, 2, 3, 4, 5, 6, 7, 8, 9, 10, 11, 12, 13, 14, 15, 16, 17, 18, 19, 20, 21, 22, 23, 24, 25, 26, 27, 28, 29, 30, 31, 32, 33, 34, 35] [0, 1, 2, 3, 4, 5, 6, 7, 8, 9, 10, 11, 12, 13, 14, 15, 16, 17, 18, 19, 20, 21, 22, 23, 24, 25, 26, 27, 28, 29, 30, 31, 32, 33, 34, 35, 36, 37, 38, 39, 40, 41, 42, 43, 44, 45, 46, 47, 48, 49, 50, 51, 52, 53, 54, 55, 56, 57, 58, 59] rfl rfl (by decide) (by decide) (by decide) (fun _ => rfl) (by decide) (q0 := 36) (ci := 8) rfl rfl rfl rfl rfl hl.1 (Nat.le_of_ble_eq_true rfl) dL_law_983 ⟨Nat.le_of_ble_eq_true rfl, Nat.le_of_ble_eq_true rfl⟩ (fun z_983 u H locs r_z_983 hp_983 hW => ?_)
          obtain ⟨xs2_983, ys2_983, lf2_983, sz2_983⟩ := u
          dsimp only at hp_983 hW
          obtain ⟨hans, e_xs, e_ys, e_lf, e_sz, hd⟩ := scan_step hsh hd hp_959 hp_983
          have hWz := hW
          subst e_xs
          have hW := hWz
          have hWz := hW
          subst e_ys
          have hW := hWz
          have hWz := hW
          subst e_lf
          have hW := hWz
          have hWz := hW
          subst e_sz
          have hW := hWz
          refine z_icmp_eq F (pc := 986) 1014 dL_law_986 (by decide) (by omega) (fun c_986 => ?_) (fun c_986 => ?_)
          · skip
            refine z_iinc F (pc := 1014) hl (lv' := [(3, .int (iI (i + 8))), (2, .ref (aR 0)), (1, .ref (aB 0)), (0, .ref (b))]) dL_law_1014 (k := 0) rfl (by decide) rfl (fun ls hl => ?_)
            refine z_goto F (pc := 1017) 18 dL_law_1017 (by decide) ?_
            exact ih_18 di xs2_983 ys2_983 lf2_983 ev nm lb kd pt so nu al ak ap he ar le cx cr cl ll rw fn fp tl tm ts tc ev9 nm9 so9 nu9 al9 ak9 ap9 hh9 le9 tl9 ts9 tc9 en mg sz2_983 mn an ax cn ln fc ac wc wp (i + 8) _ _ _ (by omega) (by exact hd) (by exact hmk) (by exact hc) (by exact hr) (by exact he9) (by exact hsh) (by omega) (lv_sub hl [0, 1, 2, 3] rfl) hW
          · skip
            exact absurd (by omega) c_986
        by_cases t_27 : q_32 = 27
        · refine lv_tableIn F.1 F.2.1 (pc := 33) (off := 958) (tgt := 991) dL_law_33 (by rw [iI_toInt (by omega)]; omega) (by rw [iI_toInt (by omega)]; omega) (by rw [iI_toInt (by omega), t_27]; rfl) (by decide) ?_
          refine z_aloadn F (pc := 991) dL_law_991 rfl (lv_at hl 2 rfl) ?_
          refine z_aloadn F (pc := 992) dL_law_992 rfl (lv_at hl 3 rfl) ?_
          refine z_iloadn F (pc := 993) dL_law_993 rfl (lv_at hl 0 rfl) ?_
          refine z_iconst F (pc := 994) (1) dL_law_994 ?_
          refine z_iadd F (pc := 995) dL_law_995 ?_
          refine z_sld F (pc := 996) hX hbl hbA hW hL (by omega) dL_law_996 ?_
          refine z_callVi F (pc := 997) hK hW hA (As := [.int (iI (sv xs0 (i + 1)))]) (rest := []) (ws' := fun (u : Unit) => wB cI cZ aB aD aM aA aS aC aL aT di en mg ++ wD cI cZ aD xs ys lf ev nm sz ++ wM cI cZ aM lb kd pt mn ++ wA cI cZ aA so nu al ak ap an ax ++ wS cI cZ aS he ar le ++ wC cI cZ aC cx cr cl ll cn ++ wL cI cZ aL rw fn fp ln fc ++ wT cI cZ aT tl tm ts tc ++ wR cI cZ aR xs ys lf ev9 nm9 lb kd pt so9 nu9 al9 ak9 ap9 hh9 le9 rw cx cr cl ll tl9 ts9 tc9 sz mn ac en mg ln cn wc wp) (wr := (wS cI cZ aS he ar le ++ wT cI cZ aT tl tm ts tc ++ wR cI cZ aR xs ys lf ev9 nm9 lb kd pt so9 nu9 al9 ak9 ap9 hh9 le9 rw cx cr cl ll tl9 ts9 tc9 sz mn ac en mg ln cn wc wp)) (c_X7_count l D cI cZ aB aD aM aA aS aC aL aT di xs ys lf ev nm lb kd pt cx cr cl ll rw fn fp so nu al ak ap en mg sz mn cn ln fc an ax (sv xs0 (i + 1)) _ (by omega) (by omega)) (cwV 1 F.2.2.2.2 gL_law_X7_count rfl rfl rfl (by decide +kernel) ⟨Nat.le_of_ble_eq_true rfl, Nat.le_of_ble_eq_true rfl⟩) [0, 1, 2, 3, 4, 5, 6, 7, 8, 9, 10, 11, 22, 23, 24, 25, 26, 27, 28, 29, 30, 12, 13, 14, 15, 16, 17] [18, 19, 20, 21, 31, 32, 33, 34, 35, 36, 37, 38, 39, 40, 41, 42, 43, 44, 45, 46, 47, 48, 49, 50, 51, 52, 53, 54, 55, 56, 57, 58, 59] [33, 34, 35, 36, 37, 38, 39, 40, 41, 42, 43, 44, 54, 55, 56, 57, 58, 59, 0, 1, 2, 3, 45, 46, 47, 48, 49, 50, 51, 52, 53, 4, 5, 6, 7, 8, 9, 10, 11, 12, 13, 14, 15, 16, 17, 18, 19, 20, 21, 22, 23, 24, 25, 26, 27, 28, 29, 30, 31, 32] rfl rfl (by decide) (by decide) (by decide) (fun _ => rfl) (by decide) (q0 := 0) (ci := 7) rfl rfl rfl rfl rfl hl.1 (Nat.le_of_ble_eq_true rfl) dL_law_997 ⟨Nat.le_of_ble_eq_true rfl, Nat.le_of_ble_eq_true rfl⟩ (fun z_997 u H locs r_z_997 hp_997 hW => ?_)
          refine z_aloadn F (pc := 1000) dL_law_1000 rfl (lv_at hl 1 rfl) ?_
          refine z_aloadn F (pc := 1001) dL_law_1001 rfl (lv_at hl 3 rfl) ?_
          refine z_iloadn F (pc := 1002) dL_law_1002 rfl (lv_at hl 0 rfl) ?_
          refine z_iconst F (pc := 1003) (1) dL_law_1003 ?_
          refine z_iadd F (pc := 1004) dL_law_1004 ?_
          refine z_sld F (pc := 1005) hX hbl hbA hW hL (by omega) dL_law_1005 ?_
          refine z_callVi F (pc := 1006) hK hW hA (As := [.int (iI (sv xs0 (i + 1)))]) (rest := [.int (iI z_997)]) (ws' := fun (u : Unit) => wB cI cZ aB aD aM aA aS aC aL aT di en mg ++ wD cI cZ aD xs ys lf ev nm sz ++ wM cI cZ aM lb kd pt mn ++ wA cI cZ aA so nu al ak ap an ax ++ wS cI cZ aS he ar le ++ wC cI cZ aC cx cr cl ll cn ++ wL cI cZ aL rw fn fp ln fc ++ wT cI cZ aT tl tm ts tc ++ wR cI cZ aR xs ys lf ev9 nm9 lb kd pt so9 nu9 al9 ak9 ap9 hh9 le9 rw cx cr cl ll tl9 ts9 tc9 sz mn ac en mg ln cn wc wp) (wr := (wB cI cZ aB aD aM aA aS aC aL aT di en mg ++ wD cI cZ aD xs ys lf ev nm sz ++ wM cI cZ aM lb kd pt mn ++ wA cI cZ aA so nu al ak ap an ax ++ wS cI cZ aS he ar le ++ wC cI cZ aC cx cr cl ll cn ++ wL cI cZ aL rw fn fp ln fc ++ wT cI cZ aT tl tm ts tc)) (c_X8_count l D cI cZ aR xs ys lf ev9 nm9 lb kd pt so9 nu9 al9 ak9 ap9 hh9 le9 rw cx cr cl ll tl9 ts9 tc9 sz mn ac en mg ln cn wc wp (sv xs0 (i + 1)) _ (by omega) (by omega)) (cwV 1 F.2.2.2.2 gL_law_X8_count rfl rfl rfl (by decide +kernel) ⟨Nat.le_of_ble_eq_true rfl, Nat.le_of_ble_eq_true rfl⟩) [36, 37, 38, 39, 40, 41, 42, 43, 44, 45, 46, 47, 48, 49, 50, 51, 52, 53, 54, 55, 56, 57, 58, 59] [0, 1, 2, 3, 4, 5, 6, 7, 8, 9, 10, 11, 12, 13, 14, 15, 16, 17, 18, 19, 20, 21, 22, 23, 24, 25, 26, 27, 28, 29, 30, 31, 32, 33, 34, 35] [0, 1, 2, 3, 4, 5, 6, 7, 8, 9, 10, 11, 12, 13, 14, 15, 16, 17, 18, 19, 20, 21, 22, 23, 24, 25, 26, 27, 28, 29, 30, 31, 32, 33, 34, 35, 36, 37, 38, 39, 40, 41, 42, 43, 44, 45, 46, 47, 48, 49, 50, 51, 52, 53, 54, 55, 56, 57, 58, 59] rfl rfl (by decide) (by decide) (by decide) (fun _ => rfl) (by decide) (q0 := 36) (ci := 8) rfl rfl rfl rfl rfl hl.1 (Nat.le_of_ble_eq_true rfl) dL_law_1006 ⟨Nat.le_of_ble_eq_true rfl, Nat.le_of_ble_eq_true rfl⟩ (fun z_1006 u H locs r_z_1006 hp_1006 hW => ?_)
          have hans := countR_one hp_997 hp_1006
          refine z_icmp_eq F (pc := 1009) 1014 dL_law_1009 (by decide) (by omega) (fun c_1009 => ?_) (fun c_1009 => ?_)
          · skip
            refine z_iinc F (pc := 1014) hl (lv' := [(3, .int (iI (i + 8))), (2, .ref (aR 0)), (1, .ref (aB 0)), (0, .ref (b))]) dL_law_1014 (k := 0) rfl (by decide) rfl (fun ls hl => ?_)
            refine z_goto F (pc := 1017) 18 dL_law_1017 (by decide) ?_
            exact ih_18 di xs ys lf ev nm lb kd pt so nu al ak ap he ar le cx cr cl ll rw fn fp tl tm ts tc ev9 nm9 so9 nu9 al9 ak9 ap9 hh9 le9 tl9 ts9 tc9 en mg sz mn an ax cn ln fc ac wc wp (i + 8) _ _ _ (by omega) (by exact hd) (by exact hmk) (by exact hc) (by exact hr) (by exact he9) (by exact hsh) (by omega) (lv_sub hl [0, 1, 2, 3] rfl) hW
          · skip
            exact absurd (by omega) c_1009
        refine lv_tableOut F.1 F.2.1 (pc := 33) (tgt := 1014) dL_law_33 (by rw [iI_toInt (by omega)]; omega) (by decide) ?_
        refine z_iinc F (pc := 1014) hl (lv' := [(3, .int (iI (i + 8))), (2, .ref (aR 0)), (1, .ref (aB 0)), (0, .ref (b))]) dL_law_1014 (k := 0) rfl (by decide) rfl (fun ls hl => ?_)
        refine z_goto F (pc := 1017) 18 dL_law_1017 (by decide) ?_
        exact ih_18 di xs ys lf ev nm lb kd pt so nu al ak ap he ar le cx cr cl ll rw fn fp tl tm ts tc ev9 nm9 so9 nu9 al9 ak9 ap9 hh9 le9 tl9 ts9 tc9 en mg sz mn an ax cn ln fc ac wc wp (i + 8) _ _ _ (by omega) (by exact hd) (by exact hmk) (by exact hc) (by exact hr) (by exact he9) (by exact hsh) (by omega) (lv_sub hl [0, 1, 2, 3] rfl) hW
  exact cut_18 _ di xs ys lf ev nm lb kd pt so nu al ak ap he ar le cx cr cl ll rw fn fp tl tm ts tc ev9 nm9 so9 nu9 al9 ak9 ap9 hh9 le9 tl9 ts9 tc9 en mg sz mn an ax cn ln fc ac wc wp 0 _ _ _ (Nat.lt_succ_self _) (by exact hd) (by exact hmk) (by exact hc) (by exact hr) (by exact he9) (by exact hsh) (by omega) (lv_sub hl [0, 1, 2, 3] rfl) hW
