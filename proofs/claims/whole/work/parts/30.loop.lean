set_option maxHeartbeats 8000000 in
set_option maxRecDepth 100000 in
theorem whole_loop {p : Program} {l : Launch} {e : Env} {s : State} {m : MethodId} {below : List Frame} {meth : Method} {c : Code} {b L : Nat} {xs0 : Nat → Int32} {Q : State → Prop} {A : Nat → Prop} {D : va_G} {cI cZ : ClassId} {aB aD aM aA aS aC aL aT aR : Nat → Nat} (hF : LFix p s m c b L xs0 A D cI cZ)
  (hend : ∀ (H : Heap) (locs : List Loc) (pc : Nat) (ls : Array Slot), decode cL_law pc = .ok (.ireturn, 1) → (∀ q ∈ locs, A q.base) → W p l e room_1 s m #[Value.ref b] below meth c H locs 60 2598 Q (F0 m pc ls [.int (iI 1)]))
  (di : Int → Int) (xs : Int → Int) (ys : Int → Int) (lf : Int → Int) (ev : Int → Int) (nm : Int → Int) (lb : Int → Int) (kd : Int → Int) (pt : Int → Int) (so : Int → Int) (nu : Int → Int) (al : Int → Int) (ak : Int → Int) (ap : Int → Int) (he : Int → Int) (ar : Int → Int) (le : Int → Int) (cx : Int → Int) (cr : Int → Int) (cl : Int → Int) (ll : Int → Int) (rw : Int → Int) (fn : Int → Int) (fp : Int → Int) (tl : Int → Int) (tm : Int → Int) (ts : Int → Int) (tc : Int → Int) (ev9 : Int → Int) (nm9 : Int → Int) (so9 : Int → Int) (nu9 : Int → Int) (al9 : Int → Int) (ak9 : Int → Int) (ap9 : Int → Int) (hh9 : Int → Int) (le9 : Int → Int) (tl9 : Int → Int) (ts9 : Int → Int) (tc9 : Int → Int) (en : Int) (mg : Int) (sz : Int) (mn : Int) (an : Int) (ax : Int) (cn : Int) (ln : Int) (fc : Int) (ac : Int) (wc : Int) (wp : Int) (hd : Dok xs ys lf sz) (hmk : MkR lb kd pt mn so nu al ak ap an ax so9 nu9 al9 ak9 ap9 ac) (hc : Cok cx cr cl ll cn) (hr : Rok rw ln) (he9 : (0 ≤ en ∧ en ≤ 100000) ∧ (0 ≤ mg ∧ mg ≤ 100000)) (hsh : ShR tl tm ts tc tl9 ts9 tc9) (H : Heap) (locs : List Loc) (ls : Array Slot) (hl : lv_has ls 4 [(2, .ref (aR 0)), (1, .ref (aB 0)), (0, .ref b)]) (hW : zW D A s.heap H locs (wB cI cZ aB aD aM aA aS aC aL aT di en mg ++ wD cI cZ aD xs ys lf ev nm sz ++ wM cI cZ aM lb kd pt mn ++ wA cI cZ aA so nu al ak ap an ax ++ wS cI cZ aS he ar le ++ wC cI cZ aC cx cr cl ll cn ++ wL cI cZ aL rw fn fp ln fc ++ wT cI cZ aT tl tm ts tc ++ wR cI cZ aR xs ys lf ev9 nm9 lb kd pt so9 nu9 al9 ak9 ap9 hh9 le9 rw cx cr cl ll tl9 ts9 tc9 sz mn ac en mg ln cn wc wp)) : W p l e room_1 s m #[Value.ref b] below meth c H locs 60 2598 Q (F0 m 16 ls []) := by
  obtain ⟨hL, F, hK, hA, hX, hbl, hbA⟩ := id hF
  refine z_iconst F (pc := 16) (0) dL_law_16 ?_
  refine z_istoren F (pc := 17) hl (lv' := [(3, .int (iI 0)), (2, .ref (aR 0)), (1, .ref (aB 0)), (0, .ref (b))]) dL_law_17 rfl (by decide) rfl (fun ls hl => ?_)
  have cut_18 : ∀ (fuel : Nat) (di : Int → Int) (xs : Int → Int) (ys : Int → Int) (lf : Int → Int) (ev : Int → Int) (nm : Int → Int) (lb : Int → Int) (kd : Int → Int) (pt : Int → Int) (so : Int → Int) (nu : Int → Int) (al : Int → Int) (ak : Int → Int) (ap : Int → Int) (he : Int → Int) (ar : Int → Int) (le : Int → Int) (cx : Int → Int) (cr : Int → Int) (cl : Int → Int) (ll : Int → Int) (rw : Int → Int) (fn : Int → Int) (fp : Int → Int) (tl : Int → Int) (tm : Int → Int) (ts : Int → Int) (tc : Int → Int) (ev9 : Int → Int) (nm9 : Int → Int) (so9 : Int → Int) (nu9 : Int → Int) (al9 : Int → Int) (ak9 : Int → Int) (ap9 : Int → Int) (hh9 : Int → Int) (le9 : Int → Int) (tl9 : Int → Int) (ts9 : Int → Int) (tc9 : Int → Int) (en : Int) (mg : Int) (sz : Int) (mn : Int) (an : Int) (ax : Int) (cn : Int) (ln : Int) (fc : Int) (ac : Int) (wc : Int) (wp : Int) (i : Int) (H : Heap) (locs : List Loc) (ls : Array Slot), ((L : Int) - i).toNat < fuel → (Dok xs ys lf sz) → (MkR lb kd pt mn so nu al ak ap an ax so9 nu9 al9 ak9 ap9 ac) → (Cok cx cr cl ll cn) → (Rok rw ln) → ((0 ≤ en ∧ en ≤ 100000) ∧ (0 ≤ mg ∧ mg ≤ 100000)) → (ShR tl tm ts tc tl9 ts9 tc9) → (0 ≤ i ∧ i ≤ (L : Int)) → lv_has ls 4 [(3, .int (iI i)), (2, .ref (aR 0)), (1, .ref (aB 0)), (0, .ref (b))] → zW D A s.heap H locs (wB cI cZ aB aD aM aA aS aC aL aT di en mg ++ wD cI cZ aD xs ys lf ev nm sz ++ wM cI cZ aM lb kd pt mn ++ wA cI cZ aA so nu al ak ap an ax ++ wS cI cZ aS he ar le ++ wC cI cZ aC cx cr cl ll cn ++ wL cI cZ aL rw fn fp ln fc ++ wT cI cZ aT tl tm ts tc ++ wR cI cZ aR xs ys lf ev9 nm9 lb kd pt so9 nu9 al9 ak9 ap9 hh9 le9 rw cx cr cl ll tl9 ts9 tc9 sz mn ac en mg ln cn wc wp) → W p l e room_1 s m #[Value.ref b] below meth c H locs 60 2598 Q (F0 m 18 ls []) := by
    intro fuel
    induction fuel with
    | zero => intro di xs ys lf ev nm lb kd pt so nu al ak ap he ar le cx cr cl ll rw fn fp tl tm ts tc ev9 nm9 so9 nu9 al9 ak9 ap9 hh9 le9 tl9 ts9 tc9 en mg sz mn an ax cn ln fc ac wc wp i H locs ls hm; exact absurd hm (Nat.not_lt_zero _)
    | succ fuel ih_18 =>
      intro di xs ys lf ev nm lb kd pt so nu al ak ap he ar le cx cr cl ll rw fn fp tl tm ts tc ev9 nm9 so9 nu9 al9 ak9 ap9 hh9 le9 tl9 ts9 tc9 en mg sz mn an ax cn ln fc ac wc wp i H locs ls hm_18 hd hmk hc hr he9 hsh g0 hl hW
      refine z_iloadn F (pc := 18) dL_law_18 rfl (lv_at hl 0 rfl) ?_
      refine z_aloadn F (pc := 19) dL_law_19 rfl (lv_at hl 3 rfl) ?_
      refine z_slen F (pc := 20) hX hbl hbA hW dL_law_20 ?_
      refine z_bipush F (pc := 21) (8) (by decide +kernel) dL_law_21 ?_
      refine z_isub F (pc := 23) dL_law_23 ?_
      refine z_icmp_gt F (pc := 24) 1020 dL_law_24 (by decide) (by omega) (fun c_24 => ?_) (fun c_24 => ?_)
      · skip
        refine z_iconst F (pc := 1020) (1) dL_law_1020 ?_
        exact hend _ _ _ _ dL_law_1021 hW.2.2.2.2
      · skip
        refine z_aloadn F (pc := 27) dL_law_27 rfl (lv_at hl 3 rfl) ?_
        refine z_iloadn F (pc := 28) dL_law_28 rfl (lv_at hl 0 rfl) ?_
        refine z_sld F (pc := 29) hX hbl hbA hW hL (by omega) dL_law_29 ?_
        refine z_bipush F (pc := 30) (31) (by decide +kernel) dL_law_30 ?_
        refine z_iandQ F (pc := 32) dL_law_32 (fun q_32 r_q32 => ?_)
        have gi : 0 ≤ i ∧ i + 8 ≤ (L : Int) := by omega
        have kk : LAt p l e s m below meth c b Q A D cI cZ aB aD aM aA aS aC aL aT aR i 1014 := by
          intro di xs ys lf ev nm lb kd pt so nu al ak ap he ar le cx cr cl ll rw fn fp tl tm ts tc ev9 nm9 so9 nu9 al9 ak9 ap9 hh9 le9 tl9 ts9 tc9 en mg sz mn an ax cn ln fc ac wc wp H locs ls hd hmk hc hr he9 hsh hl hW
          refine z_iinc F (pc := 1014) hl (lv' := [(3, .int (iI (i + 8))), (2, .ref (aR 0)), (1, .ref (aB 0)), (0, .ref (b))]) dL_law_1014 (k := 0) rfl (by decide) rfl (fun ls hl => ?_)
          refine z_goto F (pc := 1017) 18 dL_law_1017 (by decide) ?_
          exact ih_18 di xs ys lf ev nm lb kd pt so nu al ak ap he ar le cx cr cl ll rw fn fp tl tm ts tc ev9 nm9 so9 nu9 al9 ak9 ap9 hh9 le9 tl9 ts9 tc9 en mg sz mn an ax cn ln fc ac wc wp (i + 8) _ _ _ (by omega) (by exact hd) (by exact hmk) (by exact hc) (by exact hr) (by exact he9) (by exact hsh) (by omega) (lv_sub hl [0, 1, 2, 3] rfl) hW
        by_cases t_0 : q_32 = 0
        · refine lv_tableIn F.1 F.2.1 (pc := 33) (off := 127) (tgt := 160) dL_law_33 (by rw [iI_toInt (by omega)]; omega) (by rw [iI_toInt (by omega)]; omega) (by rw [iI_toInt (by omega), t_0]; rfl) (by decide) ?_
          exact case_0 hF gi kk di xs ys lf ev nm lb kd pt so nu al ak ap he ar le cx cr cl ll rw fn fp tl tm ts tc ev9 nm9 so9 nu9 al9 ak9 ap9 hh9 le9 tl9 ts9 tc9 en mg sz mn an ax cn ln fc ac wc wp H locs ls hd hmk hc hr he9 hsh hl hW
        by_cases t_1 : q_32 = 1
        · refine lv_tableIn F.1 F.2.1 (pc := 33) (off := 186) (tgt := 219) dL_law_33 (by rw [iI_toInt (by omega)]; omega) (by rw [iI_toInt (by omega)]; omega) (by rw [iI_toInt (by omega), t_1]; rfl) (by decide) ?_
          exact case_1 hF gi kk di xs ys lf ev nm lb kd pt so nu al ak ap he ar le cx cr cl ll rw fn fp tl tm ts tc ev9 nm9 so9 nu9 al9 ak9 ap9 hh9 le9 tl9 ts9 tc9 en mg sz mn an ax cn ln fc ac wc wp H locs ls hd hmk hc hr he9 hsh hl hW
        by_cases t_2 : q_32 = 2
        · refine lv_tableIn F.1 F.2.1 (pc := 33) (off := 199) (tgt := 232) dL_law_33 (by rw [iI_toInt (by omega)]; omega) (by rw [iI_toInt (by omega)]; omega) (by rw [iI_toInt (by omega), t_2]; rfl) (by decide) ?_
          exact case_2 hF gi kk di xs ys lf ev nm lb kd pt so nu al ak ap he ar le cx cr cl ll rw fn fp tl tm ts tc ev9 nm9 so9 nu9 al9 ak9 ap9 hh9 le9 tl9 ts9 tc9 en mg sz mn an ax cn ln fc ac wc wp H locs ls hd hmk hc hr he9 hsh hl hW
        by_cases t_3 : q_32 = 3
        · refine lv_tableIn F.1 F.2.1 (pc := 33) (off := 212) (tgt := 245) dL_law_33 (by rw [iI_toInt (by omega)]; omega) (by rw [iI_toInt (by omega)]; omega) (by rw [iI_toInt (by omega), t_3]; rfl) (by decide) ?_
          exact case_3 hF gi kk di xs ys lf ev nm lb kd pt so nu al ak ap he ar le cx cr cl ll rw fn fp tl tm ts tc ev9 nm9 so9 nu9 al9 ak9 ap9 hh9 le9 tl9 ts9 tc9 en mg sz mn an ax cn ln fc ac wc wp H locs ls hd hmk hc hr he9 hsh hl hW
        by_cases t_4 : q_32 = 4
        · refine lv_tableIn F.1 F.2.1 (pc := 33) (off := 245) (tgt := 278) dL_law_33 (by rw [iI_toInt (by omega)]; omega) (by rw [iI_toInt (by omega)]; omega) (by rw [iI_toInt (by omega), t_4]; rfl) (by decide) ?_
          exact case_4 hF gi kk di xs ys lf ev nm lb kd pt so nu al ak ap he ar le cx cr cl ll rw fn fp tl tm ts tc ev9 nm9 so9 nu9 al9 ak9 ap9 hh9 le9 tl9 ts9 tc9 en mg sz mn an ax cn ln fc ac wc wp H locs ls hd hmk hc hr he9 hsh hl hW
        by_cases t_5 : q_32 = 5
        · refine lv_tableIn F.1 F.2.1 (pc := 33) (off := 278) (tgt := 311) dL_law_33 (by rw [iI_toInt (by omega)]; omega) (by rw [iI_toInt (by omega)]; omega) (by rw [iI_toInt (by omega), t_5]; rfl) (by decide) ?_
          exact case_5 hF gi kk di xs ys lf ev nm lb kd pt so nu al ak ap he ar le cx cr cl ll rw fn fp tl tm ts tc ev9 nm9 so9 nu9 al9 ak9 ap9 hh9 le9 tl9 ts9 tc9 en mg sz mn an ax cn ln fc ac wc wp H locs ls hd hmk hc hr he9 hsh hl hW
        by_cases t_6 : q_32 = 6
        · refine lv_tableIn F.1 F.2.1 (pc := 33) (off := 311) (tgt := 344) dL_law_33 (by rw [iI_toInt (by omega)]; omega) (by rw [iI_toInt (by omega)]; omega) (by rw [iI_toInt (by omega), t_6]; rfl) (by decide) ?_
          exact case_6 hF gi kk di xs ys lf ev nm lb kd pt so nu al ak ap he ar le cx cr cl ll rw fn fp tl tm ts tc ev9 nm9 so9 nu9 al9 ak9 ap9 hh9 le9 tl9 ts9 tc9 en mg sz mn an ax cn ln fc ac wc wp H locs ls hd hmk hc hr he9 hsh hl hW
        by_cases t_7 : q_32 = 7
        · refine lv_tableIn F.1 F.2.1 (pc := 33) (off := 334) (tgt := 367) dL_law_33 (by rw [iI_toInt (by omega)]; omega) (by rw [iI_toInt (by omega)]; omega) (by rw [iI_toInt (by omega), t_7]; rfl) (by decide) ?_
          exact case_7 hF gi kk di xs ys lf ev nm lb kd pt so nu al ak ap he ar le cx cr cl ll rw fn fp tl tm ts tc ev9 nm9 so9 nu9 al9 ak9 ap9 hh9 le9 tl9 ts9 tc9 en mg sz mn an ax cn ln fc ac wc wp H locs ls hd hmk hc hr he9 hsh hl hW
        by_cases t_8 : q_32 = 8
        · refine lv_tableIn F.1 F.2.1 (pc := 33) (off := 347) (tgt := 380) dL_law_33 (by rw [iI_toInt (by omega)]; omega) (by rw [iI_toInt (by omega)]; omega) (by rw [iI_toInt (by omega), t_8]; rfl) (by decide) ?_
          exact case_8 hF gi kk di xs ys lf ev nm lb kd pt so nu al ak ap he ar le cx cr cl ll rw fn fp tl tm ts tc ev9 nm9 so9 nu9 al9 ak9 ap9 hh9 le9 tl9 ts9 tc9 en mg sz mn an ax cn ln fc ac wc wp H locs ls hd hmk hc hr he9 hsh hl hW
        by_cases t_9 : q_32 = 9
        · refine lv_tableIn F.1 F.2.1 (pc := 33) (off := 380) (tgt := 413) dL_law_33 (by rw [iI_toInt (by omega)]; omega) (by rw [iI_toInt (by omega)]; omega) (by rw [iI_toInt (by omega), t_9]; rfl) (by decide) ?_
          exact case_9 hF gi kk di xs ys lf ev nm lb kd pt so nu al ak ap he ar le cx cr cl ll rw fn fp tl tm ts tc ev9 nm9 so9 nu9 al9 ak9 ap9 hh9 le9 tl9 ts9 tc9 en mg sz mn an ax cn ln fc ac wc wp H locs ls hd hmk hc hr he9 hsh hl hW
        by_cases t_10 : q_32 = 10
        · refine lv_tableIn F.1 F.2.1 (pc := 33) (off := 413) (tgt := 446) dL_law_33 (by rw [iI_toInt (by omega)]; omega) (by rw [iI_toInt (by omega)]; omega) (by rw [iI_toInt (by omega), t_10]; rfl) (by decide) ?_
          exact case_10 hF gi kk di xs ys lf ev nm lb kd pt so nu al ak ap he ar le cx cr cl ll rw fn fp tl tm ts tc ev9 nm9 so9 nu9 al9 ak9 ap9 hh9 le9 tl9 ts9 tc9 en mg sz mn an ax cn ln fc ac wc wp H locs ls hd hmk hc hr he9 hsh hl hW
        by_cases t_11 : q_32 = 11
        · refine lv_tableIn F.1 F.2.1 (pc := 33) (off := 456) (tgt := 489) dL_law_33 (by rw [iI_toInt (by omega)]; omega) (by rw [iI_toInt (by omega)]; omega) (by rw [iI_toInt (by omega), t_11]; rfl) (by decide) ?_
          exact case_11 hF gi kk di xs ys lf ev nm lb kd pt so nu al ak ap he ar le cx cr cl ll rw fn fp tl tm ts tc ev9 nm9 so9 nu9 al9 ak9 ap9 hh9 le9 tl9 ts9 tc9 en mg sz mn an ax cn ln fc ac wc wp H locs ls hd hmk hc hr he9 hsh hl hW
        by_cases t_12 : q_32 = 12
        · refine lv_tableIn F.1 F.2.1 (pc := 33) (off := 489) (tgt := 522) dL_law_33 (by rw [iI_toInt (by omega)]; omega) (by rw [iI_toInt (by omega)]; omega) (by rw [iI_toInt (by omega), t_12]; rfl) (by decide) ?_
          exact case_12 hF gi kk di xs ys lf ev nm lb kd pt so nu al ak ap he ar le cx cr cl ll rw fn fp tl tm ts tc ev9 nm9 so9 nu9 al9 ak9 ap9 hh9 le9 tl9 ts9 tc9 en mg sz mn an ax cn ln fc ac wc wp H locs ls hd hmk hc hr he9 hsh hl hW
        by_cases t_13 : q_32 = 13
        · refine lv_tableIn F.1 F.2.1 (pc := 33) (off := 512) (tgt := 545) dL_law_33 (by rw [iI_toInt (by omega)]; omega) (by rw [iI_toInt (by omega)]; omega) (by rw [iI_toInt (by omega), t_13]; rfl) (by decide) ?_
          exact case_13 hF gi kk di xs ys lf ev nm lb kd pt so nu al ak ap he ar le cx cr cl ll rw fn fp tl tm ts tc ev9 nm9 so9 nu9 al9 ak9 ap9 hh9 le9 tl9 ts9 tc9 en mg sz mn an ax cn ln fc ac wc wp H locs ls hd hmk hc hr he9 hsh hl hW
        by_cases t_14 : q_32 = 14
        · refine lv_tableIn F.1 F.2.1 (pc := 33) (off := 525) (tgt := 558) dL_law_33 (by rw [iI_toInt (by omega)]; omega) (by rw [iI_toInt (by omega)]; omega) (by rw [iI_toInt (by omega), t_14]; rfl) (by decide) ?_
          exact case_14 hF gi kk di xs ys lf ev nm lb kd pt so nu al ak ap he ar le cx cr cl ll rw fn fp tl tm ts tc ev9 nm9 so9 nu9 al9 ak9 ap9 hh9 le9 tl9 ts9 tc9 en mg sz mn an ax cn ln fc ac wc wp H locs ls hd hmk hc hr he9 hsh hl hW
        by_cases t_15 : q_32 = 15
        · refine lv_tableIn F.1 F.2.1 (pc := 33) (off := 538) (tgt := 571) dL_law_33 (by rw [iI_toInt (by omega)]; omega) (by rw [iI_toInt (by omega)]; omega) (by rw [iI_toInt (by omega), t_15]; rfl) (by decide) ?_
          exact case_15 hF gi kk di xs ys lf ev nm lb kd pt so nu al ak ap he ar le cx cr cl ll rw fn fp tl tm ts tc ev9 nm9 so9 nu9 al9 ak9 ap9 hh9 le9 tl9 ts9 tc9 en mg sz mn an ax cn ln fc ac wc wp H locs ls hd hmk hc hr he9 hsh hl hW
        by_cases t_16 : q_32 = 16
        · refine lv_tableIn F.1 F.2.1 (pc := 33) (off := 551) (tgt := 584) dL_law_33 (by rw [iI_toInt (by omega)]; omega) (by rw [iI_toInt (by omega)]; omega) (by rw [iI_toInt (by omega), t_16]; rfl) (by decide) ?_
          exact case_16 hF gi kk di xs ys lf ev nm lb kd pt so nu al ak ap he ar le cx cr cl ll rw fn fp tl tm ts tc ev9 nm9 so9 nu9 al9 ak9 ap9 hh9 le9 tl9 ts9 tc9 en mg sz mn an ax cn ln fc ac wc wp H locs ls hd hmk hc hr he9 hsh hl hW
        by_cases t_17 : q_32 = 17
        · refine lv_tableIn F.1 F.2.1 (pc := 33) (off := 584) (tgt := 617) dL_law_33 (by rw [iI_toInt (by omega)]; omega) (by rw [iI_toInt (by omega)]; omega) (by rw [iI_toInt (by omega), t_17]; rfl) (by decide) ?_
          exact case_17 hF gi kk di xs ys lf ev nm lb kd pt so nu al ak ap he ar le cx cr cl ll rw fn fp tl tm ts tc ev9 nm9 so9 nu9 al9 ak9 ap9 hh9 le9 tl9 ts9 tc9 en mg sz mn an ax cn ln fc ac wc wp H locs ls hd hmk hc hr he9 hsh hl hW
        by_cases t_18 : q_32 = 18
        · refine lv_tableIn F.1 F.2.1 (pc := 33) (off := 617) (tgt := 650) dL_law_33 (by rw [iI_toInt (by omega)]; omega) (by rw [iI_toInt (by omega)]; omega) (by rw [iI_toInt (by omega), t_18]; rfl) (by decide) ?_
          exact case_18 hF gi kk di xs ys lf ev nm lb kd pt so nu al ak ap he ar le cx cr cl ll rw fn fp tl tm ts tc ev9 nm9 so9 nu9 al9 ak9 ap9 hh9 le9 tl9 ts9 tc9 en mg sz mn an ax cn ln fc ac wc wp H locs ls hd hmk hc hr he9 hsh hl hW
        by_cases t_19 : q_32 = 19
        · refine lv_tableIn F.1 F.2.1 (pc := 33) (off := 704) (tgt := 737) dL_law_33 (by rw [iI_toInt (by omega)]; omega) (by rw [iI_toInt (by omega)]; omega) (by rw [iI_toInt (by omega), t_19]; rfl) (by decide) ?_
          exact case_19 hF gi kk di xs ys lf ev nm lb kd pt so nu al ak ap he ar le cx cr cl ll rw fn fp tl tm ts tc ev9 nm9 so9 nu9 al9 ak9 ap9 hh9 le9 tl9 ts9 tc9 en mg sz mn an ax cn ln fc ac wc wp H locs ls hd hmk hc hr he9 hsh hl hW
        by_cases t_20 : q_32 = 20
        · refine lv_tableIn F.1 F.2.1 (pc := 33) (off := 727) (tgt := 760) dL_law_33 (by rw [iI_toInt (by omega)]; omega) (by rw [iI_toInt (by omega)]; omega) (by rw [iI_toInt (by omega), t_20]; rfl) (by decide) ?_
          exact case_20 hF gi kk di xs ys lf ev nm lb kd pt so nu al ak ap he ar le cx cr cl ll rw fn fp tl tm ts tc ev9 nm9 so9 nu9 al9 ak9 ap9 hh9 le9 tl9 ts9 tc9 en mg sz mn an ax cn ln fc ac wc wp H locs ls hd hmk hc hr he9 hsh hl hW
        by_cases t_21 : q_32 = 21
        · refine lv_tableIn F.1 F.2.1 (pc := 33) (off := 770) (tgt := 803) dL_law_33 (by rw [iI_toInt (by omega)]; omega) (by rw [iI_toInt (by omega)]; omega) (by rw [iI_toInt (by omega), t_21]; rfl) (by decide) ?_
          exact case_21 hF gi kk di xs ys lf ev nm lb kd pt so nu al ak ap he ar le cx cr cl ll rw fn fp tl tm ts tc ev9 nm9 so9 nu9 al9 ak9 ap9 hh9 le9 tl9 ts9 tc9 en mg sz mn an ax cn ln fc ac wc wp H locs ls hd hmk hc hr he9 hsh hl hW
        by_cases t_22 : q_32 = 22
        · refine lv_tableIn F.1 F.2.1 (pc := 33) (off := 783) (tgt := 816) dL_law_33 (by rw [iI_toInt (by omega)]; omega) (by rw [iI_toInt (by omega)]; omega) (by rw [iI_toInt (by omega), t_22]; rfl) (by decide) ?_
          exact case_22 hF gi kk di xs ys lf ev nm lb kd pt so nu al ak ap he ar le cx cr cl ll rw fn fp tl tm ts tc ev9 nm9 so9 nu9 al9 ak9 ap9 hh9 le9 tl9 ts9 tc9 en mg sz mn an ax cn ln fc ac wc wp H locs ls hd hmk hc hr he9 hsh hl hW
        by_cases t_23 : q_32 = 23
        · refine lv_tableIn F.1 F.2.1 (pc := 33) (off := 806) (tgt := 839) dL_law_33 (by rw [iI_toInt (by omega)]; omega) (by rw [iI_toInt (by omega)]; omega) (by rw [iI_toInt (by omega), t_23]; rfl) (by decide) ?_
          exact case_23 hF gi kk di xs ys lf ev nm lb kd pt so nu al ak ap he ar le cx cr cl ll rw fn fp tl tm ts tc ev9 nm9 so9 nu9 al9 ak9 ap9 hh9 le9 tl9 ts9 tc9 en mg sz mn an ax cn ln fc ac wc wp H locs ls hd hmk hc hr he9 hsh hl hW
        by_cases t_24 : q_32 = 24
        · refine lv_tableIn F.1 F.2.1 (pc := 33) (off := 819) (tgt := 852) dL_law_33 (by rw [iI_toInt (by omega)]; omega) (by rw [iI_toInt (by omega)]; omega) (by rw [iI_toInt (by omega), t_24]; rfl) (by decide) ?_
          exact case_24 hF gi kk di xs ys lf ev nm lb kd pt so nu al ak ap he ar le cx cr cl ll rw fn fp tl tm ts tc ev9 nm9 so9 nu9 al9 ak9 ap9 hh9 le9 tl9 ts9 tc9 en mg sz mn an ax cn ln fc ac wc wp H locs ls hd hmk hc hr he9 hsh hl hW
        by_cases t_25 : q_32 = 25
        · refine lv_tableIn F.1 F.2.1 (pc := 33) (off := 862) (tgt := 895) dL_law_33 (by rw [iI_toInt (by omega)]; omega) (by rw [iI_toInt (by omega)]; omega) (by rw [iI_toInt (by omega), t_25]; rfl) (by decide) ?_
          exact case_25 hF gi kk di xs ys lf ev nm lb kd pt so nu al ak ap he ar le cx cr cl ll rw fn fp tl tm ts tc ev9 nm9 so9 nu9 al9 ak9 ap9 hh9 le9 tl9 ts9 tc9 en mg sz mn an ax cn ln fc ac wc wp H locs ls hd hmk hc hr he9 hsh hl hW
        by_cases t_26 : q_32 = 26
        · refine lv_tableIn F.1 F.2.1 (pc := 33) (off := 905) (tgt := 938) dL_law_33 (by rw [iI_toInt (by omega)]; omega) (by rw [iI_toInt (by omega)]; omega) (by rw [iI_toInt (by omega), t_26]; rfl) (by decide) ?_
          exact case_26 hF gi kk di xs ys lf ev nm lb kd pt so nu al ak ap he ar le cx cr cl ll rw fn fp tl tm ts tc ev9 nm9 so9 nu9 al9 ak9 ap9 hh9 le9 tl9 ts9 tc9 en mg sz mn an ax cn ln fc ac wc wp H locs ls hd hmk hc hr he9 hsh hl hW
        by_cases t_27 : q_32 = 27
        · refine lv_tableIn F.1 F.2.1 (pc := 33) (off := 958) (tgt := 991) dL_law_33 (by rw [iI_toInt (by omega)]; omega) (by rw [iI_toInt (by omega)]; omega) (by rw [iI_toInt (by omega), t_27]; rfl) (by decide) ?_
          exact case_27 hF gi kk di xs ys lf ev nm lb kd pt so nu al ak ap he ar le cx cr cl ll rw fn fp tl tm ts tc ev9 nm9 so9 nu9 al9 ak9 ap9 hh9 le9 tl9 ts9 tc9 en mg sz mn an ax cn ln fc ac wc wp H locs ls hd hmk hc hr he9 hsh hl hW
        refine lv_tableOut F.1 F.2.1 (pc := 33) (tgt := 1014) dL_law_33 (by rw [iI_toInt (by omega)]; omega) (by decide) ?_
        exact kk di xs ys lf ev nm lb kd pt so nu al ak ap he ar le cx cr cl ll rw fn fp tl tm ts tc ev9 nm9 so9 nu9 al9 ak9 ap9 hh9 le9 tl9 ts9 tc9 en mg sz mn an ax cn ln fc ac wc wp H locs ls hd hmk hc hr he9 hsh hl hW
  exact cut_18 _ di xs ys lf ev nm lb kd pt so nu al ak ap he ar le cx cr cl ll rw fn fp tl tm ts tc ev9 nm9 so9 nu9 al9 ak9 ap9 hh9 le9 tl9 ts9 tc9 en mg sz mn an ax cn ln fc ac wc wp 0 _ _ _ (Nat.lt_succ_self _) (by exact hd) (by exact hmk) (by exact hc) (by exact hr) (by exact he9) (by exact hsh) (by omega) (lv_sub hl [0, 1, 2, 3] rfl) hW
