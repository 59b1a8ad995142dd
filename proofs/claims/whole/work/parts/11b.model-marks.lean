def kA (ac : Int) : Int := if ac = 6 then 5 else ac
def kF (f : Int → Int) (ac v : Int) : Int → Int := zU (if ac = 6 then zC f f 1 0 5 else f) (kA ac) v
def kP (f : Int → Int) (ac : Int) (g : Int → Int) (sp : Int) : Int → Int := zC g (if ac = 6 then zC f f 16 0 80 else f) sp (16 * kA ac) 16
theorem kA_6 {ac : Int} (h : ac = 6) : kA ac = 5 := if_pos h
theorem kA_n {ac : Int} (h : ¬ ac = 6) : kA ac = ac := if_neg h
theorem kF_6 (f : Int → Int) {ac : Int} (h : ac = 6) (v : Int) : kF f ac v = zU (zC f f 1 0 5) 5 v := by unfold kF; rw [kA_6 h, if_pos h]
theorem kF_n (f : Int → Int) {ac : Int} (h : ¬ ac = 6) (v : Int) : kF f ac v = zU f ac v := by unfold kF; rw [kA_n h, if_neg h]
theorem kP_6 (f : Int → Int) {ac : Int} (h : ac = 6) (g : Int → Int) (sp : Int) : kP f ac g sp = zC g (zC f f 16 0 80) sp 80 16 := by unfold kP; rw [kA_6 h, if_pos h]; rfl
theorem kP_n (f : Int → Int) {ac : Int} (h : ¬ ac = 6) (g : Int → Int) (sp : Int) : kP f ac g sp = zC g f sp (16 * ac) 16 := by unfold kP; rw [kA_n h, if_neg h]

set_option maxHeartbeats 4000000 in
set_option maxRecDepth 100000 in
theorem c_X8_isTaught (l : Launch) (D : va_G) (cI cZ : ClassId) (aR : Nat → Nat) (xs ys lf ev nm lb kd pt so nu al ak ap he le rw cx cr cl ll tl ts tc : Int → Int) (sz mn ac en mg ln cn wc wp : Int) (k : Int) (sz0 : Nat) (r_k : (-2147483648 ≤ k ∧ k < 2147483648)) (hm : 0 ≤ mn ∧ mn ≤ 16) : Met l yX8_isTaught wsX8_isTaught ({ frames := 1, cells := 0, slots := 0, locals := 25 } : Room) (zPc D cI cZ [.ref (aR 0), .int (iI k)] (wR cI cZ aR xs ys lf ev nm lb kd pt so nu al ak ap he le rw cx cr cl ll tl ts tc sz mn ac en mg ln cn wc wp) sz0) (zQi D cI cZ (wR cI cZ aR xs ys lf ev nm lb kd pt so nu al ak ap he le rw cx cr cl ll tl ts tc sz mn ac en mg ln cn wc wp) sz0 (fun (r : Int) (u : Unit) => zB r (0 ≤ k ∧ k < mn)) (fun (u : Unit) => wR cI cZ aR xs ys lf ev nm lb kd pt so nu al ak ap he le rw cx cr cl ll tl ts tc sz mn ac en mg ln cn wc wp)) 0 0 (va_A (wR cI cZ aR xs ys lf ev nm lb kd pt so nu al ak ap he le rw cx cr cl ll tl ts tc sz mn ac en mg ln cn wc wp) sz0) := by
  refine z_ofI (maxL := 2) (plainFor_of_name (by decide)) rfl (Nat.le_of_ble_eq_true rfl) (Or.inr ⟨rfl, fun z u h => zB_01 h⟩) ?_
  intro p e s m below meth c A ls Q F hK hW hA hl hret
  have hl : lv_has ls 2 [(0, .ref (aR 0)), (1, .int (iI k))] := hl
  have inX8 : ∀ w ∈ u_ws RX8 TX8 32, w ∈ wsX8_isTaught := fun _ h => List.mem_cons_of_mem _ (List.mem_append_right _ h)
  refine z_iloadn F (pc := 0) dX8_isTaught_0 rfl (lv_at hl 1 rfl) ?_
  refine z_i2l F (pc := 1) dX8_isTaught_1 (by omega) ?_
  refine z_lconst F (pc := 2) (0) (by decide +kernel) dX8_isTaught_2 ?_
  refine z_aloadn F (pc := 3) dX8_isTaught_3 rfl (lv_at hl 0 rfl) ?_
  refine z_get F (pc := 4) (C := RX8) (T := TX8) (N := 32) (ci := 8) inX8 hK hW 0 6 rfl rfl (by decide) rfl (List.mem_of_getElem? (i := 1) rfl) (v := .int (iI mn)) rfl dX8_isTaught_4 ?_
  refine z_iconst F (pc := 7) (1) dX8_isTaught_7 ?_
  refine z_isub F (pc := 8) dX8_isTaught_8 ?_
  refine z_i2l F (pc := 9) dX8_isTaught_9 (by omega) ?_
  refine z_callSi F (pc := 10) hK hW hA (As := [.long (lI k), .long (lI 0), .long (lI (mn - 1))]) (rest := []) (c_X8_in l D cI cZ k 0 (mn - 1) _ (by omega) (by omega) (by omega)) (va_cwS 3 F.2.2.2.2 gX8_isTaught_X8_in rfl rfl rfl (by decide +kernel) ⟨Nat.le_of_ble_eq_true rfl, Nat.le_of_ble_eq_true rfl⟩) rfl rfl hl.1 (Nat.le_of_ble_eq_true rfl) dX8_isTaught_10 ⟨Nat.le_of_ble_eq_true rfl, Nat.le_of_ble_eq_true rfl⟩ (fun z_10 H locs r_z_10 hp_10 hW => ?_)
  exact hret _ _ _ _ z_10 () dX8_isTaught_13 (by omega) (by rcases hp_10 with ⟨e1, e2⟩ | ⟨e1, e2⟩ <;> subst e1 <;> first | exact zB_1 (by omega) | exact zB_0 (by omega)) hW

set_option maxHeartbeats 4000000 in
set_option maxRecDepth 100000 in
theorem c_X8_keeps (l : Launch) (D : va_G) (cI cZ : ClassId) (aR : Nat → Nat) (xs ys lf ev nm lb kd pt so nu al ak ap he le rw cx cr cl ll tl ts tc : Int → Int) (sz mn ac en mg ln cn wc wp : Int) (sr k : Int) (sz0 : Nat) (r_sr : (-2147483648 ≤ sr ∧ sr < 2147483648)) (r_k : (-2147483648 ≤ k ∧ k < 2147483648)) (hm : (0 ≤ ac ∧ ac ≤ 6)) (hk : 0 ≤ k ∧ k ≤ 16) : Met l yX8_keeps wsX8_keeps ({ frames := 0, cells := 0, slots := 0, locals := 0 } : Room) (zPc D cI cZ [.ref (aR 0), .int (iI sr), .int (iI k)] (wR cI cZ aR xs ys lf ev nm lb kd pt so nu al ak ap he le rw cx cr cl ll tl ts tc sz mn ac en mg ln cn wc wp) sz0) (zQv D cI cZ (wR cI cZ aR xs ys lf ev nm lb kd pt so nu al ak ap he le rw cx cr cl ll tl ts tc sz mn ac en mg ln cn wc wp) sz0 (fun (u : (Int → Int) × (Int → Int) × (Int → Int) × (Int → Int) × (Int → Int) × (Int)) => u.1 = kF so ac sr ∧ u.2.1 = kF nu ac k ∧ u.2.2.1 = kF al ac (lb k) ∧ u.2.2.2.1 = kF ak ac (kd k) ∧ u.2.2.2.2.1 = kP ap ac pt (16 * k) ∧ u.2.2.2.2.2 = kA ac + 1) (fun (u : (Int → Int) × (Int → Int) × (Int → Int) × (Int → Int) × (Int → Int) × (Int)) => wR cI cZ aR xs ys lf ev nm lb kd pt u.1 u.2.1 u.2.2.1 u.2.2.2.1 u.2.2.2.2.1 he le rw cx cr cl ll tl ts tc sz mn u.2.2.2.2.2 en mg ln cn wc wp)) 0 0 (va_A (wR cI cZ aR xs ys lf ev nm lb kd pt so nu al ak ap he le rw cx cr cl ll tl ts tc sz mn ac en mg ln cn wc wp) sz0) := by
  refine z_ofV (maxL := 5) (plainFor_of_name (by decide)) rfl (Nat.le_of_ble_eq_true rfl) ?_
  intro p e s m below meth c A ls Q F hK hW hA hl hret
  have hl : lv_has ls 5 [(0, .ref (aR 0)), (1, .int (iI sr)), (2, .int (iI k))] := hl
  have inX8 : ∀ w ∈ u_ws RX8 TX8 32, w ∈ wsX8_keeps := fun _ h => List.mem_cons_of_mem _ (List.mem_append_right _ h)
  refine z_aloadn F (pc := 0) dX8_keeps_0 rfl (lv_at hl 0 rfl) ?_
  refine z_get F (pc := 1) (C := RX8) (T := TX8) (N := 32) (ci := 8) inX8 hK hW 0 10 rfl rfl (by decide) rfl (List.mem_of_getElem? (i := 1) rfl) (v := .int (iI ac)) rfl dX8_keeps_1 ?_
  refine z_bipush F (pc := 4) (6) (by decide +kernel) dX8_keeps_4 ?_
  refine z_icmp_ne F (pc := 6) 131 dX8_keeps_6 (by decide) (by omega) (fun c_6 => ?_) (fun c_6 => ?_)
  · skip
    refine z_aloadn F (pc := 131) dX8_keeps_131 rfl (lv_at hl 0 rfl) ?_
    refine z_get F (pc := 132) (C := RX8) (T := TX8) (N := 32) (ci := 8) inX8 hK hW 0 11 rfl rfl (by decide) rfl (List.mem_of_getElem? (i := 2) rfl) (v := .ref (aR 9)) rfl dX8_keeps_132 ?_
    refine z_aloadn F (pc := 135) dX8_keeps_135 rfl (lv_at hl 0 rfl) ?_
    refine z_get F (pc := 136) (C := RX8) (T := TX8) (N := 32) (ci := 8) inX8 hK hW 0 10 rfl rfl (by decide) rfl (List.mem_of_getElem? (i := 1) rfl) (v := .int (iI ac)) rfl dX8_keeps_136 ?_
    refine z_iloadn F (pc := 139) dX8_keeps_139 rfl (lv_at hl 1 rfl) ?_
    refine z_iast F (pc := 140) hK hW (ws' := wR cI cZ aR xs ys lf ev nm lb kd pt (zU so ac sr) nu al ak ap he le rw cx cr cl ll tl ts tc sz mn ac en mg ln cn wc wp) 9 rfl (by decide) dX8_keeps_140 (by omega) rfl (fun H locs hW => ?_)
    refine z_aloadn F (pc := 141) dX8_keeps_141 rfl (lv_at hl 0 rfl) ?_
    refine z_get F (pc := 142) (C := RX8) (T := TX8) (N := 32) (ci := 8) inX8 hK hW 0 12 rfl rfl (by decide) rfl (List.mem_of_getElem? (i := 3) rfl) (v := .ref (aR 10)) rfl dX8_keeps_142 ?_
    refine z_aloadn F (pc := 145) dX8_keeps_145 rfl (lv_at hl 0 rfl) ?_
    refine z_get F (pc := 146) (C := RX8) (T := TX8) (N := 32) (ci := 8) inX8 hK hW 0 10 rfl rfl (by decide) rfl (List.mem_of_getElem? (i := 1) rfl) (v := .int (iI ac)) rfl dX8_keeps_146 ?_
    refine z_iloadn F (pc := 149) dX8_keeps_149 rfl (lv_at hl 2 rfl) ?_
    refine z_iast F (pc := 150) hK hW (ws' := wR cI cZ aR xs ys lf ev nm lb kd pt (zU so ac sr) (zU nu ac k) al ak ap he le rw cx cr cl ll tl ts tc sz mn ac en mg ln cn wc wp) 10 rfl (by decide) dX8_keeps_150 (by omega) rfl (fun H locs hW => ?_)
    refine z_aloadn F (pc := 151) dX8_keeps_151 rfl (lv_at hl 0 rfl) ?_
    refine z_get F (pc := 152) (C := RX8) (T := TX8) (N := 32) (ci := 8) inX8 hK hW 0 13 rfl rfl (by decide) rfl (List.mem_of_getElem? (i := 4) rfl) (v := .ref (aR 11)) rfl dX8_keeps_152 ?_
    refine z_aloadn F (pc := 155) dX8_keeps_155 rfl (lv_at hl 0 rfl) ?_
    refine z_get F (pc := 156) (C := RX8) (T := TX8) (N := 32) (ci := 8) inX8 hK hW 0 10 rfl rfl (by decide) rfl (List.mem_of_getElem? (i := 1) rfl) (v := .int (iI ac)) rfl dX8_keeps_156 ?_
    refine z_aloadn F (pc := 159) dX8_keeps_159 rfl (lv_at hl 0 rfl) ?_
    refine z_get F (pc := 160) (C := RX8) (T := TX8) (N := 32) (ci := 8) inX8 hK hW 0 7 rfl rfl (by decide) rfl (List.mem_of_getElem? (i := 7) rfl) (v := .ref (aR 6)) rfl dX8_keeps_160 ?_
    refine z_iloadn F (pc := 163) dX8_keeps_163 rfl (lv_at hl 2 rfl) ?_
    refine z_iald F (pc := 164) hK hW 6 rfl (by decide) dX8_keeps_164 (by omega) ?_
    refine z_iast F (pc := 165) hK hW (ws' := wR cI cZ aR xs ys lf ev nm lb kd pt (zU so ac sr) (zU nu ac k) (zU al ac (lb k)) ak ap he le rw cx cr cl ll tl ts tc sz mn ac en mg ln cn wc wp) 11 rfl (by decide) dX8_keeps_165 (by omega) rfl (fun H locs hW => ?_)
    refine z_aloadn F (pc := 166) dX8_keeps_166 rfl (lv_at hl 0 rfl) ?_
    refine z_get F (pc := 167) (C := RX8) (T := TX8) (N := 32) (ci := 8) inX8 hK hW 0 14 rfl rfl (by decide) rfl (List.mem_of_getElem? (i := 5) rfl) (v := .ref (aR 12)) rfl dX8_keeps_167 ?_
    refine z_aloadn F (pc := 170) dX8_keeps_170 rfl (lv_at hl 0 rfl) ?_
    refine z_get F (pc := 171) (C := RX8) (T := TX8) (N := 32) (ci := 8) inX8 hK hW 0 10 rfl rfl (by decide) rfl (List.mem_of_getElem? (i := 1) rfl) (v := .int (iI ac)) rfl dX8_keeps_171 ?_
    refine z_aloadn F (pc := 174) dX8_keeps_174 rfl (lv_at hl 0 rfl) ?_
    refine z_get F (pc := 175) (C := RX8) (T := TX8) (N := 32) (ci := 8) inX8 hK hW 0 8 rfl rfl (by decide) rfl (List.mem_of_getElem? (i := 8) rfl) (v := .ref (aR 7)) rfl dX8_keeps_175 ?_
    refine z_iloadn F (pc := 178) dX8_keeps_178 rfl (lv_at hl 2 rfl) ?_
    refine z_iald F (pc := 179) hK hW 7 rfl (by decide) dX8_keeps_179 (by omega) ?_
    refine z_iast F (pc := 180) hK hW (ws' := wR cI cZ aR xs ys lf ev nm lb kd pt (zU so ac sr) (zU nu ac k) (zU al ac (lb k)) (zU ak ac (kd k)) ap he le rw cx cr cl ll tl ts tc sz mn ac en mg ln cn wc wp) 12 rfl (by decide) dX8_keeps_180 (by omega) rfl (fun H locs hW => ?_)
    refine z_iconst F (pc := 181) (0) dX8_keeps_181 ?_
    refine z_istoren F (pc := 182) hl (lv' := [(3, .int (iI 0)), (0, .ref (aR 0)), (1, .int (iI sr)), (2, .int (iI k))]) dX8_keeps_182 rfl (by decide) rfl (fun ls hl => ?_)
    have cut_183 : ∀ (fuel : Nat) (t : Int) (ap4 : Int → Int) (H : Heap) (locs : List Loc) (ls : Array Slot), (16 - t).toNat < fuel → (0 ≤ t ∧ t ≤ 16) → (ap4 = zC pt (ap) (16 * k) (16 * (ac)) t) → lv_has ls 5 [(3, .int (iI t)), (0, .ref (aR 0)), (1, .int (iI sr)), (2, .int (iI k))] → zW D A s.heap H locs (wR cI cZ aR xs ys lf ev nm lb kd pt (zU so ac sr) (zU nu ac k) (zU al ac (lb k)) (zU ak ac (kd k)) ap4 he le rw cx cr cl ll tl ts tc sz mn ac en mg ln cn wc wp) → W p l e ({ frames := 0, cells := 0, slots := 0, locals := 0 } : Room) s m ([.ref (aR 0), .int (iI sr), .int (iI k)] : List Value).toArray below meth c H locs 0 0 Q (F0 m 183 ls []) := by
      intro fuel
      induction fuel with
      | zero => intro t ap4 H locs ls hm; exact absurd hm (Nat.not_lt_zero _)
      | succ fuel ih_183 =>
        intro t ap4 H locs ls hm_183 h3 u_ap hl hW
        refine z_iloadn F (pc := 183) dX8_keeps_183 rfl (lv_at hl 0 rfl) ?_
        refine z_bipush F (pc := 184) (16) (by decide +kernel) dX8_keeps_184 ?_
        refine z_icmp_ge F (pc := 186) 220 dX8_keeps_186 (by decide) (by omega) (fun c_186 => ?_) (fun c_186 => ?_)
        · skip
          refine z_aloadn F (pc := 220) dX8_keeps_220 rfl (lv_at hl 1 rfl) ?_
          refine z_dup F (pc := 221) dX8_keeps_221 rfl ?_
          refine z_get F (pc := 222) (C := RX8) (T := TX8) (N := 32) (ci := 8) inX8 hK hW 0 10 rfl rfl (by decide) rfl (List.mem_of_getElem? (i := 1) rfl) (v := .int (iI ac)) rfl dX8_keeps_222 ?_
          refine z_iconst F (pc := 225) (1) dX8_keeps_225 ?_
          refine z_iadd F (pc := 226) dX8_keeps_226 ?_
          refine z_put F (pc := 227) (C := RX8) (T := TX8) (N := 32) (ci := 8) inX8 tyX8 tyX8_ok nmX8 hK hW (ws' := wR cI cZ aR xs ys lf ev nm lb kd pt (zU so ac sr) (zU nu ac k) (zU al ac (lb k)) (zU ak ac (kd k)) ap4 he le rw cx cr cl ll tl ts tc sz mn (ac + 1) en mg ln cn wc wp) 0 10 rfl rfl (by decide) rfl (List.mem_of_getElem? (i := 1) rfl) rfl rfl (Nat.le_of_ble_eq_true rfl) dX8_keeps_227 rfl (fun H locs hW => ?_)
          exact hret _ _ _ _ ((zU so ac sr), (zU nu ac k), (zU al ac (lb k)), (zU ak ac (kd k)), ap4, (ac + 1)) dX8_keeps_230 (by (try dsimp only) <;> (first | exact ⟨by rw [kF_n _ c_6], by rw [kF_n _ c_6], by rw [kF_n _ c_6], by rw [kF_n _ c_6], by rw [kP_n _ c_6, u_ap, show t = 16 by omega], by rw [kA_n c_6]⟩ | exact ⟨by rw [kF_6 _ e6, w_so, ei, e6]; rfl, by rw [kF_6 _ e6, w_nu, ei, e6]; rfl, by rw [kF_6 _ e6, w_al, ei, e6]; rfl, by rw [kF_6 _ e6, w_ak, ei, e6]; rfl, by rw [kP_6 _ e6, u_ap, w_ap, ei, show t = 16 by omega, e6]; rfl, by rw [kA_6 e6]; omega⟩)) hW
        · skip
          refine z_aloadn F (pc := 189) dX8_keeps_189 rfl (lv_at hl 1 rfl) ?_
          refine z_get F (pc := 190) (C := RX8) (T := TX8) (N := 32) (ci := 8) inX8 hK hW 0 15 rfl rfl (by decide) rfl (List.mem_of_getElem? (i := 6) rfl) (v := .ref (aR 13)) rfl dX8_keeps_190 ?_
          refine z_bipush F (pc := 193) (16) (by decide +kernel) dX8_keeps_193 ?_
          refine z_aloadn F (pc := 195) dX8_keeps_195 rfl (lv_at hl 1 rfl) ?_
          refine z_get F (pc := 196) (C := RX8) (T := TX8) (N := 32) (ci := 8) inX8 hK hW 0 10 rfl rfl (by decide) rfl (List.mem_of_getElem? (i := 1) rfl) (v := .int (iI ac)) rfl dX8_keeps_196 ?_
          refine z_imul F (pc := 199) dX8_keeps_199 ?_
          refine z_iloadn F (pc := 200) dX8_keeps_200 rfl (lv_at hl 0 rfl) ?_
          refine z_iadd F (pc := 201) dX8_keeps_201 ?_
          refine z_aloadn F (pc := 202) dX8_keeps_202 rfl (lv_at hl 1 rfl) ?_
          refine z_get F (pc := 203) (C := RX8) (T := TX8) (N := 32) (ci := 8) inX8 hK hW 0 9 rfl rfl (by decide) rfl (List.mem_of_getElem? (i := 9) rfl) (v := .ref (aR 8)) rfl dX8_keeps_203 ?_
          refine z_bipush F (pc := 206) (16) (by decide +kernel) dX8_keeps_206 ?_
          refine z_iloadn F (pc := 208) dX8_keeps_208 rfl (lv_at hl 3 rfl) ?_
          refine z_imul F (pc := 209) dX8_keeps_209 ?_
          refine z_iloadn F (pc := 210) dX8_keeps_210 rfl (lv_at hl 0 rfl) ?_
          refine z_iadd F (pc := 211) dX8_keeps_211 ?_
          refine z_iald F (pc := 212) hK hW 8 rfl (by decide) dX8_keeps_212 (by omega) ?_
          refine z_iast F (pc := 213) hK hW (ws' := wR cI cZ aR xs ys lf ev nm lb kd pt (zU so ac sr) (zU nu ac k) (zU al ac (lb k)) (zU ak ac (kd k)) (zU ap4 ((16 * ac) + t) (pt ((16 * k) + t))) he le rw cx cr cl ll tl ts tc sz mn ac en mg ln cn wc wp) 13 rfl (by decide) dX8_keeps_213 (by omega) rfl (fun H locs hW => ?_)
          refine z_iinc F (pc := 214) hl (lv' := [(3, .int (iI (t + 1))), (0, .ref (aR 0)), (1, .int (iI sr)), (2, .int (iI k))]) dX8_keeps_214 (k := 0) rfl (by decide) rfl (fun ls hl => ?_)
          refine z_goto F (pc := 217) 183 dX8_keeps_217 (by decide) ?_
          exact ih_183 (t + 1) (zU ap4 ((16 * ac) + t) (pt ((16 * k) + t))) _ _ _ (by omega) (by omega) (by rw [u_ap]; exact zC_s4 _ _ (by omega) (by omega) (by omega) (by omega)) (lv_sub hl [0, 1, 2, 3] rfl) hW
    exact cut_183 _ 0 ap _ _ _ (Nat.lt_succ_self _) (by omega) (by exact (zC_0 _ _ _ _).symm) (lv_sub hl [0, 1, 2, 3] rfl) hW
  · skip
    have e6 : ac = 6 := by omega
    refine z_iconst F (pc := 9) (1) dX8_keeps_9 ?_
    refine z_istoren F (pc := 10) hl (lv' := [(3, .int (iI 1)), (0, .ref (aR 0)), (1, .int (iI sr)), (2, .int (iI k))]) dX8_keeps_10 rfl (by decide) rfl (fun ls hl => ?_)
    have cut_11 : ∀ (fuel : Nat) (i : Int) (so1 : Int → Int) (nu1 : Int → Int) (al1 : Int → Int) (ak1 : Int → Int) (ap1 : Int → Int) (H : Heap) (locs : List Loc) (ls : Array Slot), (6 - i).toNat < fuel → (1 ≤ i ∧ i ≤ 6) → (so1 = zC so so 1 0 (i - 1)) → (nu1 = zC nu nu 1 0 (i - 1)) → (al1 = zC al al 1 0 (i - 1)) → (ak1 = zC ak ak 1 0 (i - 1)) → (ap1 = zC ap ap 16 0 (16 * (i - 1))) → lv_has ls 5 [(3, .int (iI i)), (0, .ref (aR 0)), (1, .int (iI sr)), (2, .int (iI k))] → zW D A s.heap H locs (wR cI cZ aR xs ys lf ev nm lb kd pt so1 nu1 al1 ak1 ap1 he le rw cx cr cl ll tl ts tc sz mn ac en mg ln cn wc wp) → W p l e ({ frames := 0, cells := 0, slots := 0, locals := 0 } : Room) s m ([.ref (aR 0), .int (iI sr), .int (iI k)] : List Value).toArray below meth c H locs 0 0 Q (F0 m 11 ls []) := by
      intro fuel
      induction fuel with
      | zero => intro i so1 nu1 al1 ak1 ap1 H locs ls hm; exact absurd hm (Nat.not_lt_zero _)
      | succ fuel ih_11 =>
        intro i so1 nu1 al1 ak1 ap1 H locs ls hm_11 h1 w_so w_nu w_al w_ak w_ap hl hW
        refine z_iloadn F (pc := 11) dX8_keeps_11 rfl (lv_at hl 0 rfl) ?_
        refine z_bipush F (pc := 12) (6) (by decide +kernel) dX8_keeps_12 ?_
        refine z_icmp_ge F (pc := 14) 121 dX8_keeps_14 (by decide) (by omega) (fun c_14 => ?_) (fun c_14 => ?_)
        · skip
          have ei : i = 6 := by omega
          refine z_aloadn F (pc := 121) dX8_keeps_121 rfl (lv_at hl 1 rfl) ?_
          refine z_dup F (pc := 122) dX8_keeps_122 rfl ?_
          refine z_get F (pc := 123) (C := RX8) (T := TX8) (N := 32) (ci := 8) inX8 hK hW 0 10 rfl rfl (by decide) rfl (List.mem_of_getElem? (i := 1) rfl) (v := .int (iI ac)) rfl dX8_keeps_123 ?_
          refine z_iconst F (pc := 126) (1) dX8_keeps_126 ?_
          refine z_isub F (pc := 127) dX8_keeps_127 ?_
          refine z_put F (pc := 128) (C := RX8) (T := TX8) (N := 32) (ci := 8) inX8 tyX8 tyX8_ok nmX8 hK hW (ws' := wR cI cZ aR xs ys lf ev nm lb kd pt so1 nu1 al1 ak1 ap1 he le rw cx cr cl ll tl ts tc sz mn (ac - 1) en mg ln cn wc wp) 0 10 rfl rfl (by decide) rfl (List.mem_of_getElem? (i := 1) rfl) rfl rfl (Nat.le_of_ble_eq_true rfl) dX8_keeps_128 rfl (fun H locs hW => ?_)
          refine z_aloadn F (pc := 131) dX8_keeps_131 rfl (lv_at hl 1 rfl) ?_
          refine z_get F (pc := 132) (C := RX8) (T := TX8) (N := 32) (ci := 8) inX8 hK hW 0 11 rfl rfl (by decide) rfl (List.mem_of_getElem? (i := 2) rfl) (v := .ref (aR 9)) rfl dX8_keeps_132 ?_
          refine z_aloadn F (pc := 135) dX8_keeps_135 rfl (lv_at hl 1 rfl) ?_
          refine z_get F (pc := 136) (C := RX8) (T := TX8) (N := 32) (ci := 8) inX8 hK hW 0 10 rfl rfl (by decide) rfl (List.mem_of_getElem? (i := 1) rfl) (v := .int (iI (ac - 1))) rfl dX8_keeps_136 ?_
          refine z_iloadn F (pc := 139) dX8_keeps_139 rfl (lv_at hl 2 rfl) ?_
          refine z_iast F (pc := 140) hK hW (ws' := wR cI cZ aR xs ys lf ev nm lb kd pt (zU so1 (ac - 1) sr) nu1 al1 ak1 ap1 he le rw cx cr cl ll tl ts tc sz mn (ac - 1) en mg ln cn wc wp) 9 rfl (by decide) dX8_keeps_140 (by omega) rfl (fun H locs hW => ?_)
          refine z_aloadn F (pc := 141) dX8_keeps_141 rfl (lv_at hl 1 rfl) ?_
          refine z_get F (pc := 142) (C := RX8) (T := TX8) (N := 32) (ci := 8) inX8 hK hW 0 12 rfl rfl (by decide) rfl (List.mem_of_getElem? (i := 3) rfl) (v := .ref (aR 10)) rfl dX8_keeps_142 ?_
          refine z_aloadn F (pc := 145) dX8_keeps_145 rfl (lv_at hl 1 rfl) ?_
          refine z_get F (pc := 146) (C := RX8) (T := TX8) (N := 32) (ci := 8) inX8 hK hW 0 10 rfl rfl (by decide) rfl (List.mem_of_getElem? (i := 1) rfl) (v := .int (iI (ac - 1))) rfl dX8_keeps_146 ?_
          refine z_iloadn F (pc := 149) dX8_keeps_149 rfl (lv_at hl 3 rfl) ?_
          refine z_iast F (pc := 150) hK hW (ws' := wR cI cZ aR xs ys lf ev nm lb kd pt (zU so1 (ac - 1) sr) (zU nu1 (ac - 1) k) al1 ak1 ap1 he le rw cx cr cl ll tl ts tc sz mn (ac - 1) en mg ln cn wc wp) 10 rfl (by decide) dX8_keeps_150 (by omega) rfl (fun H locs hW => ?_)
          refine z_aloadn F (pc := 151) dX8_keeps_151 rfl (lv_at hl 1 rfl) ?_
          refine z_get F (pc := 152) (C := RX8) (T := TX8) (N := 32) (ci := 8) inX8 hK hW 0 13 rfl rfl (by decide) rfl (List.mem_of_getElem? (i := 4) rfl) (v := .ref (aR 11)) rfl dX8_keeps_152 ?_
          refine z_aloadn F (pc := 155) dX8_keeps_155 rfl (lv_at hl 1 rfl) ?_
          refine z_get F (pc := 156) (C := RX8) (T := TX8) (N := 32) (ci := 8) inX8 hK hW 0 10 rfl rfl (by decide) rfl (List.mem_of_getElem? (i := 1) rfl) (v := .int (iI (ac - 1))) rfl dX8_keeps_156 ?_
          refine z_aloadn F (pc := 159) dX8_keeps_159 rfl (lv_at hl 1 rfl) ?_
          refine z_get F (pc := 160) (C := RX8) (T := TX8) (N := 32) (ci := 8) inX8 hK hW 0 7 rfl rfl (by decide) rfl (List.mem_of_getElem? (i := 7) rfl) (v := .ref (aR 6)) rfl dX8_keeps_160 ?_
          refine z_iloadn F (pc := 163) dX8_keeps_163 rfl (lv_at hl 3 rfl) ?_
          refine z_iald F (pc := 164) hK hW 6 rfl (by decide) dX8_keeps_164 (by omega) ?_
          refine z_iast F (pc := 165) hK hW (ws' := wR cI cZ aR xs ys lf ev nm lb kd pt (zU so1 (ac - 1) sr) (zU nu1 (ac - 1) k) (zU al1 (ac - 1) (lb k)) ak1 ap1 he le rw cx cr cl ll tl ts tc sz mn (ac - 1) en mg ln cn wc wp) 11 rfl (by decide) dX8_keeps_165 (by omega) rfl (fun H locs hW => ?_)
          refine z_aloadn F (pc := 166) dX8_keeps_166 rfl (lv_at hl 1 rfl) ?_
          refine z_get F (pc := 167) (C := RX8) (T := TX8) (N := 32) (ci := 8) inX8 hK hW 0 14 rfl rfl (by decide) rfl (List.mem_of_getElem? (i := 5) rfl) (v := .ref (aR 12)) rfl dX8_keeps_167 ?_
          refine z_aloadn F (pc := 170) dX8_keeps_170 rfl (lv_at hl 1 rfl) ?_
          refine z_get F (pc := 171) (C := RX8) (T := TX8) (N := 32) (ci := 8) inX8 hK hW 0 10 rfl rfl (by decide) rfl (List.mem_of_getElem? (i := 1) rfl) (v := .int (iI (ac - 1))) rfl dX8_keeps_171 ?_
          refine z_aloadn F (pc := 174) dX8_keeps_174 rfl (lv_at hl 1 rfl) ?_
          refine z_get F (pc := 175) (C := RX8) (T := TX8) (N := 32) (ci := 8) inX8 hK hW 0 8 rfl rfl (by decide) rfl (List.mem_of_getElem? (i := 8) rfl) (v := .ref (aR 7)) rfl dX8_keeps_175 ?_
          refine z_iloadn F (pc := 178) dX8_keeps_178 rfl (lv_at hl 3 rfl) ?_
          refine z_iald F (pc := 179) hK hW 7 rfl (by decide) dX8_keeps_179 (by omega) ?_
          refine z_iast F (pc := 180) hK hW (ws' := wR cI cZ aR xs ys lf ev nm lb kd pt (zU so1 (ac - 1) sr) (zU nu1 (ac - 1) k) (zU al1 (ac - 1) (lb k)) (zU ak1 (ac - 1) (kd k)) ap1 he le rw cx cr cl ll tl ts tc sz mn (ac - 1) en mg ln cn wc wp) 12 rfl (by decide) dX8_keeps_180 (by omega) rfl (fun H locs hW => ?_)
          refine z_iconst F (pc := 181) (0) dX8_keeps_181 ?_
          refine z_istoren F (pc := 182) hl (lv' := [(3, .int (iI 0)), (0, .ref (aR 0)), (1, .int (iI sr)), (2, .int (iI k))]) dX8_keeps_182 rfl (by decide) rfl (fun ls hl => ?_)
          have cut_183 : ∀ (fuel : Nat) (t : Int) (ap4 : Int → Int) (H : Heap) (locs : List Loc) (ls : Array Slot), (16 - t).toNat < fuel → (0 ≤ t ∧ t ≤ 16) → (ap4 = zC pt (ap1) (16 * k) (16 * (ac - 1)) t) → lv_has ls 5 [(3, .int (iI t)), (0, .ref (aR 0)), (1, .int (iI sr)), (2, .int (iI k))] → zW D A s.heap H locs (wR cI cZ aR xs ys lf ev nm lb kd pt (zU so1 (ac - 1) sr) (zU nu1 (ac - 1) k) (zU al1 (ac - 1) (lb k)) (zU ak1 (ac - 1) (kd k)) ap4 he le rw cx cr cl ll tl ts tc sz mn (ac - 1) en mg ln cn wc wp) → W p l e ({ frames := 0, cells := 0, slots := 0, locals := 0 } : Room) s m ([.ref (aR 0), .int (iI sr), .int (iI k)] : List Value).toArray below meth c H locs 0 0 Q (F0 m 183 ls []) := by
            intro fuel
            induction fuel with
            | zero => intro t ap4 H locs ls hm; exact absurd hm (Nat.not_lt_zero _)
            | succ fuel ih_183 =>
              intro t ap4 H locs ls hm_183 h3 u_ap hl hW
              refine z_iloadn F (pc := 183) dX8_keeps_183 rfl (lv_at hl 0 rfl) ?_
              refine z_bipush F (pc := 184) (16) (by decide +kernel) dX8_keeps_184 ?_
              refine z_icmp_ge F (pc := 186) 220 dX8_keeps_186 (by decide) (by omega) (fun c_186 => ?_) (fun c_186 => ?_)
              · skip
                refine z_aloadn F (pc := 220) dX8_keeps_220 rfl (lv_at hl 1 rfl) ?_
                refine z_dup F (pc := 221) dX8_keeps_221 rfl ?_
                refine z_get F (pc := 222) (C := RX8) (T := TX8) (N := 32) (ci := 8) inX8 hK hW 0 10 rfl rfl (by decide) rfl (List.mem_of_getElem? (i := 1) rfl) (v := .int (iI (ac - 1))) rfl dX8_keeps_222 ?_
                refine z_iconst F (pc := 225) (1) dX8_keeps_225 ?_
                refine z_iadd F (pc := 226) dX8_keeps_226 ?_
                refine z_put F (pc := 227) (C := RX8) (T := TX8) (N := 32) (ci := 8) inX8 tyX8 tyX8_ok nmX8 hK hW (ws' := wR cI cZ aR xs ys lf ev nm lb kd pt (zU so1 (ac - 1) sr) (zU nu1 (ac - 1) k) (zU al1 (ac - 1) (lb k)) (zU ak1 (ac - 1) (kd k)) ap4 he le rw cx cr cl ll tl ts tc sz mn ((ac - 1) + 1) en mg ln cn wc wp) 0 10 rfl rfl (by decide) rfl (List.mem_of_getElem? (i := 1) rfl) rfl rfl (Nat.le_of_ble_eq_true rfl) dX8_keeps_227 rfl (fun H locs hW => ?_)
                exact hret _ _ _ _ ((zU so1 (ac - 1) sr), (zU nu1 (ac - 1) k), (zU al1 (ac - 1) (lb k)), (zU ak1 (ac - 1) (kd k)), ap4, ((ac - 1) + 1)) dX8_keeps_230 (by (try dsimp only) <;> (first | exact ⟨by rw [kF_n _ c_6], by rw [kF_n _ c_6], by rw [kF_n _ c_6], by rw [kF_n _ c_6], by rw [kP_n _ c_6, u_ap, show t = 16 by omega], by rw [kA_n c_6]⟩ | exact ⟨by rw [kF_6 _ e6, w_so, ei, e6]; rfl, by rw [kF_6 _ e6, w_nu, ei, e6]; rfl, by rw [kF_6 _ e6, w_al, ei, e6]; rfl, by rw [kF_6 _ e6, w_ak, ei, e6]; rfl, by rw [kP_6 _ e6, u_ap, w_ap, ei, show t = 16 by omega, e6]; rfl, by rw [kA_6 e6]; omega⟩)) hW
              · skip
                refine z_aloadn F (pc := 189) dX8_keeps_189 rfl (lv_at hl 1 rfl) ?_
                refine z_get F (pc := 190) (C := RX8) (T := TX8) (N := 32) (ci := 8) inX8 hK hW 0 15 rfl rfl (by decide) rfl (List.mem_of_getElem? (i := 6) rfl) (v := .ref (aR 13)) rfl dX8_keeps_190 ?_
                refine z_bipush F (pc := 193) (16) (by decide +kernel) dX8_keeps_193 ?_
                refine z_aloadn F (pc := 195) dX8_keeps_195 rfl (lv_at hl 1 rfl) ?_
                refine z_get F (pc := 196) (C := RX8) (T := TX8) (N := 32) (ci := 8) inX8 hK hW 0 10 rfl rfl (by decide) rfl (List.mem_of_getElem? (i := 1) rfl) (v := .int (iI (ac - 1))) rfl dX8_keeps_196 ?_
                refine z_imul F (pc := 199) dX8_keeps_199 ?_
                refine z_iloadn F (pc := 200) dX8_keeps_200 rfl (lv_at hl 0 rfl) ?_
                refine z_iadd F (pc := 201) dX8_keeps_201 ?_
                refine z_aloadn F (pc := 202) dX8_keeps_202 rfl (lv_at hl 1 rfl) ?_
                refine z_get F (pc := 203) (C := RX8) (T := TX8) (N := 32) (ci := 8) inX8 hK hW 0 9 rfl rfl (by decide) rfl (List.mem_of_getElem? (i := 9) rfl) (v := .ref (aR 8)) rfl dX8_keeps_203 ?_
                refine z_bipush F (pc := 206) (16) (by decide +kernel) dX8_keeps_206 ?_
                refine z_iloadn F (pc := 208) dX8_keeps_208 rfl (lv_at hl 3 rfl) ?_
                refine z_imul F (pc := 209) dX8_keeps_209 ?_
                refine z_iloadn F (pc := 210) dX8_keeps_210 rfl (lv_at hl 0 rfl) ?_
                refine z_iadd F (pc := 211) dX8_keeps_211 ?_
                refine z_iald F (pc := 212) hK hW 8 rfl (by decide) dX8_keeps_212 (by omega) ?_
                refine z_iast F (pc := 213) hK hW (ws' := wR cI cZ aR xs ys lf ev nm lb kd pt (zU so1 (ac - 1) sr) (zU nu1 (ac - 1) k) (zU al1 (ac - 1) (lb k)) (zU ak1 (ac - 1) (kd k)) (zU ap4 ((16 * (ac - 1)) + t) (pt ((16 * k) + t))) he le rw cx cr cl ll tl ts tc sz mn (ac - 1) en mg ln cn wc wp) 13 rfl (by decide) dX8_keeps_213 (by omega) rfl (fun H locs hW => ?_)
                refine z_iinc F (pc := 214) hl (lv' := [(3, .int (iI (t + 1))), (0, .ref (aR 0)), (1, .int (iI sr)), (2, .int (iI k))]) dX8_keeps_214 (k := 0) rfl (by decide) rfl (fun ls hl => ?_)
                refine z_goto F (pc := 217) 183 dX8_keeps_217 (by decide) ?_
                exact ih_183 (t + 1) (zU ap4 ((16 * (ac - 1)) + t) (pt ((16 * k) + t))) _ _ _ (by omega) (by omega) (by rw [u_ap]; exact zC_s4 _ _ (by omega) (by omega) (by omega) (by omega)) (lv_sub hl [0, 1, 2, 3] rfl) hW
          exact cut_183 _ 0 ap1 _ _ _ (Nat.lt_succ_self _) (by omega) (by exact (zC_0 _ _ _ _).symm) (lv_sub hl [0, 1, 2, 3] rfl) hW
        · skip
          refine z_aloadn F (pc := 17) dX8_keeps_17 rfl (lv_at hl 1 rfl) ?_
          refine z_get F (pc := 18) (C := RX8) (T := TX8) (N := 32) (ci := 8) inX8 hK hW 0 11 rfl rfl (by decide) rfl (List.mem_of_getElem? (i := 2) rfl) (v := .ref (aR 9)) rfl dX8_keeps_18 ?_
          refine z_iloadn F (pc := 21) dX8_keeps_21 rfl (lv_at hl 0 rfl) ?_
          refine z_iconst F (pc := 22) (1) dX8_keeps_22 ?_
          refine z_isub F (pc := 23) dX8_keeps_23 ?_
          refine z_aloadn F (pc := 24) dX8_keeps_24 rfl (lv_at hl 1 rfl) ?_
          refine z_get F (pc := 25) (C := RX8) (T := TX8) (N := 32) (ci := 8) inX8 hK hW 0 11 rfl rfl (by decide) rfl (List.mem_of_getElem? (i := 2) rfl) (v := .ref (aR 9)) rfl dX8_keeps_25 ?_
          refine z_iloadn F (pc := 28) dX8_keeps_28 rfl (lv_at hl 0 rfl) ?_
          refine z_iald F (pc := 29) hK hW 9 rfl (by decide) dX8_keeps_29 (by omega) ?_
          refine z_iast F (pc := 30) hK hW (ws' := wR cI cZ aR xs ys lf ev nm lb kd pt (zU so1 (i - 1) (so1 i)) nu1 al1 ak1 ap1 he le rw cx cr cl ll tl ts tc sz mn ac en mg ln cn wc wp) 9 rfl (by decide) dX8_keeps_30 (by omega) rfl (fun H locs hW => ?_)
          refine z_aloadn F (pc := 31) dX8_keeps_31 rfl (lv_at hl 1 rfl) ?_
          refine z_get F (pc := 32) (C := RX8) (T := TX8) (N := 32) (ci := 8) inX8 hK hW 0 12 rfl rfl (by decide) rfl (List.mem_of_getElem? (i := 3) rfl) (v := .ref (aR 10)) rfl dX8_keeps_32 ?_
          refine z_iloadn F (pc := 35) dX8_keeps_35 rfl (lv_at hl 0 rfl) ?_
          refine z_iconst F (pc := 36) (1) dX8_keeps_36 ?_
          refine z_isub F (pc := 37) dX8_keeps_37 ?_
          refine z_aloadn F (pc := 38) dX8_keeps_38 rfl (lv_at hl 1 rfl) ?_
          refine z_get F (pc := 39) (C := RX8) (T := TX8) (N := 32) (ci := 8) inX8 hK hW 0 12 rfl rfl (by decide) rfl (List.mem_of_getElem? (i := 3) rfl) (v := .ref (aR 10)) rfl dX8_keeps_39 ?_
          refine z_iloadn F (pc := 42) dX8_keeps_42 rfl (lv_at hl 0 rfl) ?_
          refine z_iald F (pc := 43) hK hW 10 rfl (by decide) dX8_keeps_43 (by omega) ?_
          refine z_iast F (pc := 44) hK hW (ws' := wR cI cZ aR xs ys lf ev nm lb kd pt (zU so1 (i - 1) (so1 i)) (zU nu1 (i - 1) (nu1 i)) al1 ak1 ap1 he le rw cx cr cl ll tl ts tc sz mn ac en mg ln cn wc wp) 10 rfl (by decide) dX8_keeps_44 (by omega) rfl (fun H locs hW => ?_)
          refine z_aloadn F (pc := 45) dX8_keeps_45 rfl (lv_at hl 1 rfl) ?_
          refine z_get F (pc := 46) (C := RX8) (T := TX8) (N := 32) (ci := 8) inX8 hK hW 0 13 rfl rfl (by decide) rfl (List.mem_of_getElem? (i := 4) rfl) (v := .ref (aR 11)) rfl dX8_keeps_46 ?_
          refine z_iloadn F (pc := 49) dX8_keeps_49 rfl (lv_at hl 0 rfl) ?_
          refine z_iconst F (pc := 50) (1) dX8_keeps_50 ?_
          refine z_isub F (pc := 51) dX8_keeps_51 ?_
          refine z_aloadn F (pc := 52) dX8_keeps_52 rfl (lv_at hl 1 rfl) ?_
          refine z_get F (pc := 53) (C := RX8) (T := TX8) (N := 32) (ci := 8) inX8 hK hW 0 13 rfl rfl (by decide) rfl (List.mem_of_getElem? (i := 4) rfl) (v := .ref (aR 11)) rfl dX8_keeps_53 ?_
          refine z_iloadn F (pc := 56) dX8_keeps_56 rfl (lv_at hl 0 rfl) ?_
          refine z_iald F (pc := 57) hK hW 11 rfl (by decide) dX8_keeps_57 (by omega) ?_
          refine z_iast F (pc := 58) hK hW (ws' := wR cI cZ aR xs ys lf ev nm lb kd pt (zU so1 (i - 1) (so1 i)) (zU nu1 (i - 1) (nu1 i)) (zU al1 (i - 1) (al1 i)) ak1 ap1 he le rw cx cr cl ll tl ts tc sz mn ac en mg ln cn wc wp) 11 rfl (by decide) dX8_keeps_58 (by omega) rfl (fun H locs hW => ?_)
          refine z_aloadn F (pc := 59) dX8_keeps_59 rfl (lv_at hl 1 rfl) ?_
          refine z_get F (pc := 60) (C := RX8) (T := TX8) (N := 32) (ci := 8) inX8 hK hW 0 14 rfl rfl (by decide) rfl (List.mem_of_getElem? (i := 5) rfl) (v := .ref (aR 12)) rfl dX8_keeps_60 ?_
          refine z_iloadn F (pc := 63) dX8_keeps_63 rfl (lv_at hl 0 rfl) ?_
          refine z_iconst F (pc := 64) (1) dX8_keeps_64 ?_
          refine z_isub F (pc := 65) dX8_keeps_65 ?_
          refine z_aloadn F (pc := 66) dX8_keeps_66 rfl (lv_at hl 1 rfl) ?_
          refine z_get F (pc := 67) (C := RX8) (T := TX8) (N := 32) (ci := 8) inX8 hK hW 0 14 rfl rfl (by decide) rfl (List.mem_of_getElem? (i := 5) rfl) (v := .ref (aR 12)) rfl dX8_keeps_67 ?_
          refine z_iloadn F (pc := 70) dX8_keeps_70 rfl (lv_at hl 0 rfl) ?_
          refine z_iald F (pc := 71) hK hW 12 rfl (by decide) dX8_keeps_71 (by omega) ?_
          refine z_iast F (pc := 72) hK hW (ws' := wR cI cZ aR xs ys lf ev nm lb kd pt (zU so1 (i - 1) (so1 i)) (zU nu1 (i - 1) (nu1 i)) (zU al1 (i - 1) (al1 i)) (zU ak1 (i - 1) (ak1 i)) ap1 he le rw cx cr cl ll tl ts tc sz mn ac en mg ln cn wc wp) 12 rfl (by decide) dX8_keeps_72 (by omega) rfl (fun H locs hW => ?_)
          refine z_iconst F (pc := 73) (0) dX8_keeps_73 ?_
          refine z_istore F (pc := 74) hl (lv' := [(4, .int (iI 0)), (3, .int (iI i)), (0, .ref (aR 0)), (1, .int (iI sr)), (2, .int (iI k))]) dX8_keeps_74 (by decide) rfl (fun ls hl => ?_)
          have cut_76 : ∀ (fuel : Nat) (j : Int) (ap3 : Int → Int) (H : Heap) (locs : List Loc) (ls : Array Slot), (16 - j).toNat < fuel → (0 ≤ j ∧ j ≤ 16) → (ap3 = zC ap ap 16 0 (16 * (i - 1) + j)) → lv_has ls 5 [(4, .int (iI j)), (3, .int (iI i)), (0, .ref (aR 0)), (1, .int (iI sr)), (2, .int (iI k))] → zW D A s.heap H locs (wR cI cZ aR xs ys lf ev nm lb kd pt (zU so1 (i - 1) (so1 i)) (zU nu1 (i - 1) (nu1 i)) (zU al1 (i - 1) (al1 i)) (zU ak1 (i - 1) (ak1 i)) ap3 he le rw cx cr cl ll tl ts tc sz mn ac en mg ln cn wc wp) → W p l e ({ frames := 0, cells := 0, slots := 0, locals := 0 } : Room) s m ([.ref (aR 0), .int (iI sr), .int (iI k)] : List Value).toArray below meth c H locs 0 0 Q (F0 m 76 ls []) := by
            intro fuel
            induction fuel with
            | zero => intro j ap3 H locs ls hm; exact absurd hm (Nat.not_lt_zero _)
            | succ fuel ih_76 =>
              intro j ap3 H locs ls hm_76 h2 v_ap hl hW
              refine z_iload F (pc := 76) dX8_keeps_76 (lv_at hl 0 rfl) ?_
              refine z_bipush F (pc := 78) (16) (by decide +kernel) dX8_keeps_78 ?_
              refine z_icmp_ge F (pc := 80) 115 dX8_keeps_80 (by decide) (by omega) (fun c_80 => ?_) (fun c_80 => ?_)
              · skip
                refine z_iinc F (pc := 115) hl (lv' := [(3, .int (iI (i + 1))), (4, .int (iI j)), (0, .ref (aR 0)), (1, .int (iI sr)), (2, .int (iI k))]) dX8_keeps_115 (k := 1) rfl (by decide) rfl (fun ls hl => ?_)
                refine z_goto F (pc := 118) 11 dX8_keeps_118 (by decide) ?_
                exact ih_11 (i + 1) (zU so1 (i - 1) (so1 i)) (zU nu1 (i - 1) (nu1 i)) (zU al1 (i - 1) (al1 i)) (zU ak1 (i - 1) (ak1 i)) ap3 _ _ _ (by omega) (by omega) (by rw [w_so]; exact zC_s3 _ (by omega) (by omega) (by omega) (by omega) (by omega)) (by rw [w_nu]; exact zC_s3 _ (by omega) (by omega) (by omega) (by omega) (by omega)) (by rw [w_al]; exact zC_s3 _ (by omega) (by omega) (by omega) (by omega) (by omega)) (by rw [w_ak]; exact zC_s3 _ (by omega) (by omega) (by omega) (by omega) (by omega)) (by rw [v_ap, show j = 16 by omega]; congr 1; omega) (lv_sub hl [0, 2, 3, 4] rfl) hW
              · skip
                refine z_aloadn F (pc := 83) dX8_keeps_83 rfl (lv_at hl 2 rfl) ?_
                refine z_get F (pc := 84) (C := RX8) (T := TX8) (N := 32) (ci := 8) inX8 hK hW 0 15 rfl rfl (by decide) rfl (List.mem_of_getElem? (i := 6) rfl) (v := .ref (aR 13)) rfl dX8_keeps_84 ?_
                refine z_bipush F (pc := 87) (16) (by decide +kernel) dX8_keeps_87 ?_
                refine z_iloadn F (pc := 89) dX8_keeps_89 rfl (lv_at hl 1 rfl) ?_
                refine z_iconst F (pc := 90) (1) dX8_keeps_90 ?_
                refine z_isub F (pc := 91) dX8_keeps_91 ?_
                refine z_imul F (pc := 92) dX8_keeps_92 ?_
                refine z_iload F (pc := 93) dX8_keeps_93 (lv_at hl 0 rfl) ?_
                refine z_iadd F (pc := 95) dX8_keeps_95 ?_
                refine z_aloadn F (pc := 96) dX8_keeps_96 rfl (lv_at hl 2 rfl) ?_
                refine z_get F (pc := 97) (C := RX8) (T := TX8) (N := 32) (ci := 8) inX8 hK hW 0 15 rfl rfl (by decide) rfl (List.mem_of_getElem? (i := 6) rfl) (v := .ref (aR 13)) rfl dX8_keeps_97 ?_
                refine z_bipush F (pc := 100) (16) (by decide +kernel) dX8_keeps_100 ?_
                refine z_iloadn F (pc := 102) dX8_keeps_102 rfl (lv_at hl 1 rfl) ?_
                refine z_imul F (pc := 103) dX8_keeps_103 ?_
                refine z_iload F (pc := 104) dX8_keeps_104 (lv_at hl 0 rfl) ?_
                refine z_iadd F (pc := 106) dX8_keeps_106 ?_
                refine z_iald F (pc := 107) hK hW 13 rfl (by decide) dX8_keeps_107 (by omega) ?_
                refine z_iast F (pc := 108) hK hW (ws' := wR cI cZ aR xs ys lf ev nm lb kd pt (zU so1 (i - 1) (so1 i)) (zU nu1 (i - 1) (nu1 i)) (zU al1 (i - 1) (al1 i)) (zU ak1 (i - 1) (ak1 i)) (zU ap3 ((16 * (i - 1)) + j) (ap3 ((16 * i) + j))) he le rw cx cr cl ll tl ts tc sz mn ac en mg ln cn wc wp) 13 rfl (by decide) dX8_keeps_108 (by omega) rfl (fun H locs hW => ?_)
                refine z_iinc F (pc := 109) hl (lv' := [(4, .int (iI (j + 1))), (3, .int (iI i)), (0, .ref (aR 0)), (1, .int (iI sr)), (2, .int (iI k))]) dX8_keeps_109 (k := 0) rfl (by decide) rfl (fun ls hl => ?_)
                refine z_goto F (pc := 112) 76 dX8_keeps_112 (by decide) ?_
                exact ih_76 (j + 1) (zU ap3 ((16 * (i - 1)) + j) (ap3 ((16 * i) + j))) _ _ _ (by omega) (by omega) (by rw [v_ap]; exact zC_s3 _ (by omega) (by omega) (by omega) (by omega) (by omega)) (lv_sub hl [0, 1, 2, 3, 4] rfl) hW
          exact cut_76 _ 0 ap1 _ _ _ (Nat.lt_succ_self _) (by omega) (by rw [w_ap, Int.add_zero]) (lv_sub hl [0, 1, 2, 3, 4] rfl) hW
    exact cut_11 _ 1 so nu al ak ap _ _ _ (Nat.lt_succ_self _) (by omega) (by exact (zC_0 _ _ _ _).symm) (by exact (zC_0 _ _ _ _).symm) (by exact (zC_0 _ _ _ _).symm) (by exact (zC_0 _ _ _ _).symm) (by exact (zC_0 _ _ _ _).symm) (lv_sub hl [0, 1, 2, 3] rfl) hW

set_option maxHeartbeats 4000000 in
set_option maxRecDepth 100000 in
theorem c_X8_moves (l : Launch) (D : va_G) (cI cZ : ClassId) (aR : Nat → Nat) (xs ys lf ev nm lb kd pt so nu al ak ap he le rw cx cr cl ll tl ts tc : Int → Int) (sz mn ac en mg ln cn wc wp : Int) (fr to : Int) (sz0 : Nat) (r_fr : (-2147483648 ≤ fr ∧ fr < 2147483648)) (r_to : (-2147483648 ≤ to ∧ to < 2147483648)) (hf : (0 ≤ fr ∧ fr ≤ 16) ∧ (0 ≤ to ∧ to ≤ 16) ∧ ¬ fr = to) : Met l yX8_moves wsX8_moves ({ frames := 0, cells := 0, slots := 0, locals := 0 } : Room) (zPc D cI cZ [.ref (aR 0), .int (iI fr), .int (iI to)] (wR cI cZ aR xs ys lf ev nm lb kd pt so nu al ak ap he le rw cx cr cl ll tl ts tc sz mn ac en mg ln cn wc wp) sz0) (zQv D cI cZ (wR cI cZ aR xs ys lf ev nm lb kd pt so nu al ak ap he le rw cx cr cl ll tl ts tc sz mn ac en mg ln cn wc wp) sz0 (fun (u : (Int → Int) × (Int → Int) × (Int → Int)) => u.1 = zU lb to (lb fr) ∧ u.2.1 = zU kd to (kd fr) ∧ u.2.2 = zC pt pt (16 * fr) (16 * to) 16) (fun (u : (Int → Int) × (Int → Int) × (Int → Int)) => wR cI cZ aR xs ys lf ev nm u.1 u.2.1 u.2.2 so nu al ak ap he le rw cx cr cl ll tl ts tc sz mn ac en mg ln cn wc wp)) 0 0 (va_A (wR cI cZ aR xs ys lf ev nm lb kd pt so nu al ak ap he le rw cx cr cl ll tl ts tc sz mn ac en mg ln cn wc wp) sz0) := by
  refine z_ofV (maxL := 4) (plainFor_of_name (by decide)) rfl (Nat.le_of_ble_eq_true rfl) ?_
  intro p e s m below meth c A ls Q F hK hW hA hl hret
  have hl : lv_has ls 4 [(0, .ref (aR 0)), (1, .int (iI fr)), (2, .int (iI to))] := hl
  have inX8 : ∀ w ∈ u_ws RX8 TX8 32, w ∈ wsX8_moves := fun _ h => List.mem_cons_of_mem _ (List.mem_append_right _ h)
  refine z_aloadn F (pc := 0) dX8_moves_0 rfl (lv_at hl 0 rfl) ?_
  refine z_get F (pc := 1) (C := RX8) (T := TX8) (N := 32) (ci := 8) inX8 hK hW 0 7 rfl rfl (by decide) rfl (List.mem_of_getElem? (i := 1) rfl) (v := .ref (aR 6)) rfl dX8_moves_1 ?_
  refine z_iloadn F (pc := 4) dX8_moves_4 rfl (lv_at hl 2 rfl) ?_
  refine z_aloadn F (pc := 5) dX8_moves_5 rfl (lv_at hl 0 rfl) ?_
  refine z_get F (pc := 6) (C := RX8) (T := TX8) (N := 32) (ci := 8) inX8 hK hW 0 7 rfl rfl (by decide) rfl (List.mem_of_getElem? (i := 1) rfl) (v := .ref (aR 6)) rfl dX8_moves_6 ?_
  refine z_iloadn F (pc := 9) dX8_moves_9 rfl (lv_at hl 1 rfl) ?_
  refine z_iald F (pc := 10) hK hW 6 rfl (by decide) dX8_moves_10 (by omega) ?_
  refine z_iast F (pc := 11) hK hW (ws' := wR cI cZ aR xs ys lf ev nm (zU lb to (lb fr)) kd pt so nu al ak ap he le rw cx cr cl ll tl ts tc sz mn ac en mg ln cn wc wp) 6 rfl (by decide) dX8_moves_11 (by omega) rfl (fun H locs hW => ?_)
  refine z_aloadn F (pc := 12) dX8_moves_12 rfl (lv_at hl 0 rfl) ?_
  refine z_get F (pc := 13) (C := RX8) (T := TX8) (N := 32) (ci := 8) inX8 hK hW 0 8 rfl rfl (by decide) rfl (List.mem_of_getElem? (i := 2) rfl) (v := .ref (aR 7)) rfl dX8_moves_13 ?_
  refine z_iloadn F (pc := 16) dX8_moves_16 rfl (lv_at hl 2 rfl) ?_
  refine z_aloadn F (pc := 17) dX8_moves_17 rfl (lv_at hl 0 rfl) ?_
  refine z_get F (pc := 18) (C := RX8) (T := TX8) (N := 32) (ci := 8) inX8 hK hW 0 8 rfl rfl (by decide) rfl (List.mem_of_getElem? (i := 2) rfl) (v := .ref (aR 7)) rfl dX8_moves_18 ?_
  refine z_iloadn F (pc := 21) dX8_moves_21 rfl (lv_at hl 1 rfl) ?_
  refine z_iald F (pc := 22) hK hW 7 rfl (by decide) dX8_moves_22 (by omega) ?_
  refine z_iast F (pc := 23) hK hW (ws' := wR cI cZ aR xs ys lf ev nm (zU lb to (lb fr)) (zU kd to (kd fr)) pt so nu al ak ap he le rw cx cr cl ll tl ts tc sz mn ac en mg ln cn wc wp) 7 rfl (by decide) dX8_moves_23 (by omega) rfl (fun H locs hW => ?_)
  refine z_iconst F (pc := 24) (0) dX8_moves_24 ?_
  refine z_istoren F (pc := 25) hl (lv' := [(3, .int (iI 0)), (0, .ref (aR 0)), (1, .int (iI fr)), (2, .int (iI to))]) dX8_moves_25 rfl (by decide) rfl (fun ls hl => ?_)
  have cut_26 : ∀ (fuel : Nat) (j : Int) (b1 : Int → Int) (H : Heap) (locs : List Loc) (ls : Array Slot), (16 - j).toNat < fuel → (0 ≤ j ∧ j ≤ 16) → (b1 = zC pt pt (16 * fr) (16 * to) j) → lv_has ls 4 [(3, .int (iI j)), (0, .ref (aR 0)), (1, .int (iI fr)), (2, .int (iI to))] → zW D A s.heap H locs (wR cI cZ aR xs ys lf ev nm (zU lb to (lb fr)) (zU kd to (kd fr)) b1 so nu al ak ap he le rw cx cr cl ll tl ts tc sz mn ac en mg ln cn wc wp) → W p l e ({ frames := 0, cells := 0, slots := 0, locals := 0 } : Room) s m ([.ref (aR 0), .int (iI fr), .int (iI to)] : List Value).toArray below meth c H locs 0 0 Q (F0 m 26 ls []) := by
    intro fuel
    induction fuel with
    | zero => intro j b1 H locs ls hm; exact absurd hm (Nat.not_lt_zero _)
    | succ fuel ih_26 =>
      intro j b1 H locs ls hm_26 h1 h2 hl hW
      refine z_iloadn F (pc := 26) dX8_moves_26 rfl (lv_at hl 0 rfl) ?_
      refine z_bipush F (pc := 27) (16) (by decide +kernel) dX8_moves_27 ?_
      refine z_icmp_ge F (pc := 29) 60 dX8_moves_29 (by decide) (by omega) (fun c_29 => ?_) (fun c_29 => ?_)
      · skip
        exact hret _ _ _ _ ((zU lb to (lb fr)), (zU kd to (kd fr)), b1) dX8_moves_60 (by (try dsimp only) <;> (exact ⟨rfl, rfl, by rw [h2, show j = 16 by omega]⟩)) hW
      · skip
        refine z_aloadn F (pc := 32) dX8_moves_32 rfl (lv_at hl 1 rfl) ?_
        refine z_get F (pc := 33) (C := RX8) (T := TX8) (N := 32) (ci := 8) inX8 hK hW 0 9 rfl rfl (by decide) rfl (List.mem_of_getElem? (i := 3) rfl) (v := .ref (aR 8)) rfl dX8_moves_33 ?_
        refine z_bipush F (pc := 36) (16) (by decide +kernel) dX8_moves_36 ?_
        refine z_iloadn F (pc := 38) dX8_moves_38 rfl (lv_at hl 3 rfl) ?_
        refine z_imul F (pc := 39) dX8_moves_39 ?_
        refine z_iloadn F (pc := 40) dX8_moves_40 rfl (lv_at hl 0 rfl) ?_
        refine z_iadd F (pc := 41) dX8_moves_41 ?_
        refine z_aloadn F (pc := 42) dX8_moves_42 rfl (lv_at hl 1 rfl) ?_
        refine z_get F (pc := 43) (C := RX8) (T := TX8) (N := 32) (ci := 8) inX8 hK hW 0 9 rfl rfl (by decide) rfl (List.mem_of_getElem? (i := 3) rfl) (v := .ref (aR 8)) rfl dX8_moves_43 ?_
        refine z_bipush F (pc := 46) (16) (by decide +kernel) dX8_moves_46 ?_
        refine z_iloadn F (pc := 48) dX8_moves_48 rfl (lv_at hl 2 rfl) ?_
        refine z_imul F (pc := 49) dX8_moves_49 ?_
        refine z_iloadn F (pc := 50) dX8_moves_50 rfl (lv_at hl 0 rfl) ?_
        refine z_iadd F (pc := 51) dX8_moves_51 ?_
        refine z_iald F (pc := 52) hK hW 8 rfl (by decide) dX8_moves_52 (by omega) ?_
        refine z_iast F (pc := 53) hK hW (ws' := wR cI cZ aR xs ys lf ev nm (zU lb to (lb fr)) (zU kd to (kd fr)) (zU b1 ((16 * to) + j) (b1 ((16 * fr) + j))) so nu al ak ap he le rw cx cr cl ll tl ts tc sz mn ac en mg ln cn wc wp) 8 rfl (by decide) dX8_moves_53 (by omega) rfl (fun H locs hW => ?_)
        refine z_iinc F (pc := 54) hl (lv' := [(3, .int (iI (j + 1))), (0, .ref (aR 0)), (1, .int (iI fr)), (2, .int (iI to))]) dX8_moves_54 (k := 0) rfl (by decide) rfl (fun ls hl => ?_)
        refine z_goto F (pc := 57) 26 dX8_moves_57 (by decide) ?_
        exact ih_26 (j + 1) (zU b1 ((16 * to) + j) (b1 ((16 * fr) + j))) _ _ _ (by omega) (by omega) (by rw [h2]; exact zC_s3 _ (by omega) (by omega) (by omega) (by omega) (by omega)) (lv_sub hl [0, 1, 2, 3] rfl) hW
  exact cut_26 _ 0 pt _ _ _ (Nat.lt_succ_self _) (by omega) (by exact (zC_0 _ _ _ _).symm) (lv_sub hl [0, 1, 2, 3] rfl) hW

theorem zC_mv (f : Int → Int) {k i : Int} (h : k ≤ i) : zC (zC f f (16 * (k + 1)) (16 * k) (16 * (i - k))) (zC f f (16 * (k + 1)) (16 * k) (16 * (i - k))) (16 * (i + 1)) (16 * i) 16 = zC f f (16 * (k + 1)) (16 * k) (16 * (i + 1 - k)) := by
  funext j
  by_cases a : 16 * i ≤ j ∧ j < 16 * i + 16
  · rw [zC_in _ _ a, zC_out _ _ (by omega), zC_in _ _ (by omega), show 16 * (i + 1) + (j - 16 * i) = 16 * (k + 1) + (j - 16 * k) by omega]
  · rw [zC_out _ _ a]
    by_cases b : 16 * k ≤ j ∧ j < 16 * k + 16 * (i - k)
    · rw [zC_in _ _ b, zC_in _ _ (by omega)]
    · rw [zC_out _ _ b, zC_out _ _ (by omega)]
theorem zC_dn (f : Int → Int) {i n : Int} (h : i ≤ n) : zU (zC f f i (i + 1) (n - i)) i (zC f f i (i + 1) (n - i) (i - 1)) = zC f f (i - 1) i (n - i + 1) := by
  funext j
  by_cases a : j = i
  · rw [a, zU_s, zC_out _ _ (by omega), zC_in _ _ (by omega), show i - 1 + (i - i) = i - 1 by omega]
  · rw [zU_n _ _ a]
    by_cases b : i + 1 ≤ j ∧ j < i + 1 + (n - i)
    · rw [zC_in _ _ b, zC_in _ _ (by omega), show i + (j - (i + 1)) = i - 1 + (j - i) by omega]
    · rw [zC_out _ _ b, zC_out _ _ (by omega)]
theorem zC_dnP (f : Int → Int) {i n : Int} (h : i ≤ n) : zC (zC f f (16 * i) (16 * (i + 1)) (16 * (n - i))) (zC f f (16 * i) (16 * (i + 1)) (16 * (n - i))) (16 * (i - 1)) (16 * i) 16 = zC f f (16 * (i - 1)) (16 * i) (16 * (n - i + 1)) := by
  funext j
  by_cases a : 16 * i ≤ j ∧ j < 16 * i + 16
  · rw [zC_in _ _ a, zC_out _ _ (by omega), zC_in _ _ (by omega)]
  · rw [zC_out _ _ a]
    by_cases b : 16 * (i + 1) ≤ j ∧ j < 16 * (i + 1) + 16 * (n - i)
    · rw [zC_in _ _ b, zC_in _ _ (by omega), show 16 * i + (j - 16 * (i + 1)) = 16 * (i - 1) + (j - 16 * i) by omega]
    · rw [zC_out _ _ b, zC_out _ _ (by omega)]

set_option maxHeartbeats 4000000 in
set_option maxRecDepth 100000 in
theorem c_X8_goes (l : Launch) (D : va_G) (cI cZ : ClassId) (aR : Nat → Nat) (xs ys lf ev nm lb kd pt so nu al ak ap he le rw cx cr cl ll tl ts tc : Int → Int) (sz mn ac en mg ln cn wc wp : Int) (k : Int) (sz0 : Nat) (r_k : (-2147483648 ≤ k ∧ k < 2147483648)) (hm : 0 ≤ mn ∧ mn ≤ 16) (hk : 0 ≤ k ∧ k < mn) : Met l yX8_goes wsX8_goes ({ frames := 1, cells := 0, slots := 0, locals := 23 } : Room) (zPc D cI cZ [.ref (aR 0), .int (iI k)] (wR cI cZ aR xs ys lf ev nm lb kd pt so nu al ak ap he le rw cx cr cl ll tl ts tc sz mn ac en mg ln cn wc wp) sz0) (zQv D cI cZ (wR cI cZ aR xs ys lf ev nm lb kd pt so nu al ak ap he le rw cx cr cl ll tl ts tc sz mn ac en mg ln cn wc wp) sz0 (fun (u : (Int → Int) × (Int → Int) × (Int → Int) × (Int)) => u.1 = delL lb k mn ∧ u.2.1 = delL kd k mn ∧ u.2.2.1 = delP pt k mn ∧ u.2.2.2 = mn - 1) (fun (u : (Int → Int) × (Int → Int) × (Int → Int) × (Int)) => wR cI cZ aR xs ys lf ev nm u.1 u.2.1 u.2.2.1 so nu al ak ap he le rw cx cr cl ll tl ts tc sz u.2.2.2 ac en mg ln cn wc wp)) 0 0 (va_A (wR cI cZ aR xs ys lf ev nm lb kd pt so nu al ak ap he le rw cx cr cl ll tl ts tc sz mn ac en mg ln cn wc wp) sz0) := by
  refine z_ofV (maxL := 3) (plainFor_of_name (by decide)) rfl (Nat.le_of_ble_eq_true rfl) ?_
  intro p e s m below meth c A ls Q F hK hW hA hl hret
  have hl : lv_has ls 3 [(0, .ref (aR 0)), (1, .int (iI k))] := hl
  have inX8 : ∀ w ∈ u_ws RX8 TX8 32, w ∈ wsX8_goes := fun _ h => List.mem_cons_of_mem _ (List.mem_append_right _ h)
  refine z_aloadn F (pc := 0) dX8_goes_0 rfl (lv_at hl 0 rfl) ?_
  refine z_dup F (pc := 1) dX8_goes_1 rfl ?_
  refine z_get F (pc := 2) (C := RX8) (T := TX8) (N := 32) (ci := 8) inX8 hK hW 0 6 rfl rfl (by decide) rfl (List.mem_of_getElem? (i := 1) rfl) (v := .int (iI mn)) rfl dX8_goes_2 ?_
  refine z_iconst F (pc := 5) (1) dX8_goes_5 ?_
  refine z_isub F (pc := 6) dX8_goes_6 ?_
  refine z_put F (pc := 7) (C := RX8) (T := TX8) (N := 32) (ci := 8) inX8 tyX8 tyX8_ok nmX8 hK hW (ws' := wR cI cZ aR xs ys lf ev nm lb kd pt so nu al ak ap he le rw cx cr cl ll tl ts tc sz (mn - 1) ac en mg ln cn wc wp) 0 6 rfl rfl (by decide) rfl (List.mem_of_getElem? (i := 1) rfl) rfl rfl (Nat.le_of_ble_eq_true rfl) dX8_goes_7 rfl (fun H locs hW => ?_)
  refine z_iloadn F (pc := 10) dX8_goes_10 rfl (lv_at hl 1 rfl) ?_
  refine z_istoren F (pc := 11) hl (lv' := [(2, .int (iI k)), (0, .ref (aR 0)), (1, .int (iI k))]) dX8_goes_11 rfl (by decide) rfl (fun ls hl => ?_)
  have cut_12 : ∀ (fuel : Nat) (i : Int) (l1 : Int → Int) (k1 : Int → Int) (p1 : Int → Int) (H : Heap) (locs : List Loc) (ls : Array Slot), (mn - i).toNat < fuel → (k ≤ i ∧ i ≤ mn - 1) → (l1 = zC lb lb (k + 1) k (i - k)) → (k1 = zC kd kd (k + 1) k (i - k)) → (p1 = zC pt pt (16 * (k + 1)) (16 * k) (16 * (i - k))) → lv_has ls 3 [(2, .int (iI i)), (0, .ref (aR 0)), (1, .int (iI k))] → zW D A s.heap H locs (wR cI cZ aR xs ys lf ev nm l1 k1 p1 so nu al ak ap he le rw cx cr cl ll tl ts tc sz (mn - 1) ac en mg ln cn wc wp) → W p l e ({ frames := 1, cells := 0, slots := 0, locals := 23 } : Room) s m ([.ref (aR 0), .int (iI k)] : List Value).toArray below meth c H locs 0 0 Q (F0 m 12 ls []) := by
    intro fuel
    induction fuel with
    | zero => intro i l1 k1 p1 H locs ls hm; exact absurd hm (Nat.not_lt_zero _)
    | succ fuel ih_12 =>
      intro i l1 k1 p1 H locs ls hm_12 h1 h2 h3 h4 hl hW
      refine z_iloadn F (pc := 12) dX8_goes_12 rfl (lv_at hl 0 rfl) ?_
      refine z_aloadn F (pc := 13) dX8_goes_13 rfl (lv_at hl 1 rfl) ?_
      refine z_get F (pc := 14) (C := RX8) (T := TX8) (N := 32) (ci := 8) inX8 hK hW 0 6 rfl rfl (by decide) rfl (List.mem_of_getElem? (i := 1) rfl) (v := .int (iI (mn - 1))) rfl dX8_goes_14 ?_
      refine z_icmp_ge F (pc := 17) 34 dX8_goes_17 (by decide) (by omega) (fun c_17 => ?_) (fun c_17 => ?_)
      · skip
        exact hret _ _ _ _ (l1, k1, p1, (mn - 1)) dX8_goes_34 (by (try dsimp only) <;> (exact ⟨by rw [h2, show i = mn - 1 by omega]; rfl, by rw [h3, show i = mn - 1 by omega]; rfl, by rw [h4, show i = mn - 1 by omega]; rfl, rfl⟩)) hW
      · skip
        refine z_aloadn F (pc := 20) dX8_goes_20 rfl (lv_at hl 1 rfl) ?_
        refine z_iloadn F (pc := 21) dX8_goes_21 rfl (lv_at hl 0 rfl) ?_
        refine z_iconst F (pc := 22) (1) dX8_goes_22 ?_
        refine z_iadd F (pc := 23) dX8_goes_23 ?_
        refine z_iloadn F (pc := 24) dX8_goes_24 rfl (lv_at hl 0 rfl) ?_
        refine z_callVv F (pc := 25) hK hW hA (As := [.int (iI (i + 1)), .int (iI i)]) (rest := []) (ws' := fun (u : (Int → Int) × (Int → Int) × (Int → Int)) => wR cI cZ aR xs ys lf ev nm u.1 u.2.1 u.2.2 so nu al ak ap he le rw cx cr cl ll tl ts tc sz (mn - 1) ac en mg ln cn wc wp) (wr := ([])) (c_X8_moves l D cI cZ aR xs ys lf ev nm l1 k1 p1 so nu al ak ap he le rw cx cr cl ll tl ts tc sz (mn - 1) ac en mg ln cn wc wp (i + 1) i _ (by omega) (by omega) (by omega)) (cwV 2 F.2.2.2.2 gX8_goes_X8_moves rfl rfl rfl (by decide +kernel) ⟨Nat.le_of_ble_eq_true rfl, Nat.le_of_ble_eq_true rfl⟩) [0, 1, 2, 3, 4, 5, 6, 7, 8, 9, 10, 11, 12, 13, 14, 15, 16, 17, 18, 19, 20, 21, 22, 23] [] [0, 1, 2, 3, 4, 5, 6, 7, 8, 9, 10, 11, 12, 13, 14, 15, 16, 17, 18, 19, 20, 21, 22, 23] rfl rfl (by decide) (by decide) (by decide) (fun _ => rfl) (by decide) (q0 := 0) (ci := 8) rfl rfl rfl rfl rfl hl.1 (Nat.le_of_ble_eq_true rfl) dX8_goes_25 ⟨Nat.le_of_ble_eq_true rfl, Nat.le_of_ble_eq_true rfl⟩ (fun u H locs hp_25 hW => ?_)
        obtain ⟨lb2_25, kd2_25, pt2_25⟩ := u
        dsimp only at hp_25 hW
        refine z_iinc F (pc := 28) hl (lv' := [(2, .int (iI (i + 1))), (0, .ref (aR 0)), (1, .int (iI k))]) dX8_goes_28 (k := 0) rfl (by decide) rfl (fun ls hl => ?_)
        refine z_goto F (pc := 31) 12 dX8_goes_31 (by decide) ?_
        exact ih_12 (i + 1) lb2_25 kd2_25 pt2_25 _ _ _ (by omega) (by omega) (by rw [hp_25.1, h2]; exact zC_s3 _ (by omega) (by omega) (by omega) (by omega) (by omega)) (by rw [hp_25.2.1, h3]; exact zC_s3 _ (by omega) (by omega) (by omega) (by omega) (by omega)) (by rw [hp_25.2.2, h4]; exact zC_mv _ h1.1) (lv_sub hl [0, 1, 2] rfl) hW
  exact cut_12 _ k lb kd pt _ _ _ (Nat.lt_succ_self _) (by omega) (by rw [Int.sub_self]; exact (zC_0 _ _ _ _).symm) (by rw [Int.sub_self]; exact (zC_0 _ _ _ _).symm) (by rw [Int.sub_self]; exact (zC_0 _ _ _ _).symm) (lv_sub hl [0, 1, 2] rfl) hW
