/-! the marks and the acts, on both sides -/
def MkR (lb kd pt : Int → Int) (mn : Int) (so nu al ak ap : Int → Int) (an ax : Int) (so9 nu9 al9 ak9 ap9 : Int → Int) (ac : Int) : Prop := (0 ≤ mn ∧ mn ≤ 16) ∧ Lok lb mn ∧ Kok kd mn ∧ Pok pt mn ∧ ((0 ≤ an ∧ an ≤ 6) ∧ (0 ≤ ax ∧ ax < 6)) ∧ ac = an ∧ ∃ L : List Act, RelC so nu al ak ap an ax L ∧ RelM so9 nu9 al9 ak9 ap9 ac L ∧ UOk L lb kd pt mn
theorem zC_nm {n n2 pt : Int → Int} {mn : Int} (h : ∀ j, 0 ≤ j → j < 16 → n j = n2 j) : zC n2 pt 0 (16 * mn) 16 = zC n pt 0 (16 * mn) 16 := by
  funext j
  unfold zC
  by_cases w : 16 * mn ≤ j ∧ j < 16 * mn + 16
  · rw [if_pos w, if_pos w]; exact (h _ (by omega) (by omega)).symm
  · rw [if_neg w, if_neg w]
theorem teach_step {lb kd pt so nu al ak ap so9 nu9 al9 ak9 ap9 : Int → Int} {mn an ax ac : Int} {xs ys lf : Int → Int} {sz w lv q : Int} {lb2 kd2 pt2 so2 nu2 al2 ak2 nm2 : Int → Int} {mn2 an2 ax2 r : Int} {lb3 kd3 pt3 so3 nu3 al3 ak3 ap3 nm3 : Int → Int} {mn3 ac3 r3 : Int} (h : MkR lb kd pt mn so nu al ak ap an ax so9 nu9 al9 ak9 ap9 ac)
    (h2 : (teachNo w mn lv q r ∧ lb2 = lb ∧ kd2 = kd ∧ pt2 = pt ∧ mn2 = mn ∧ so2 = so ∧ nu2 = nu ∧ al2 = al ∧ ak2 = ak ∧ an2 = an ∧ ax2 = ax) ∨ (teachYes w mn lv q r ∧ NmOf xs ys lf sz nm2 ∧ lb2 = zU lb mn lv ∧ kd2 = zU kd mn q ∧ pt2 = zC nm2 pt 0 (16 * mn) 16 ∧ mn2 = mn + 1 ∧ so2 = zU so ax 0 ∧ nu2 = zU nu ax mn ∧ al2 = zU al ax lv ∧ ak2 = zU ak ax q ∧ an2 = min (an + 1) 6 ∧ ax2 = (ax + 1) % 6))
    (h3 : (teachNo w mn lv q r3 ∧ lb3 = lb ∧ kd3 = kd ∧ pt3 = pt ∧ mn3 = mn ∧ so3 = so9 ∧ nu3 = nu9 ∧ al3 = al9 ∧ ak3 = ak9 ∧ ap3 = ap9 ∧ ac3 = ac) ∨ (teachYes w mn lv q r3 ∧ NmOf xs ys lf sz nm3 ∧ lb3 = zU lb mn lv ∧ kd3 = zU kd mn q ∧ pt3 = zC nm3 pt 0 (16 * mn) 16 ∧ mn3 = mn + 1 ∧ so3 = kF so9 ac 0 ∧ nu3 = kF nu9 ac mn ∧ al3 = kF al9 ac lv ∧ ak3 = kF ak9 ac q ∧ ap3 = kP ap9 ac pt3 (16 * mn) ∧ ac3 = kA ac + 1)) :
    r = r3 ∧ lb3 = lb2 ∧ kd3 = kd2 ∧ pt3 = pt2 ∧ mn3 = mn2 ∧ MkR lb2 kd2 pt2 mn2 so2 nu2 al2 ak2 ap an2 ax2 so3 nu3 al3 ak3 ap3 ac3 := by
  rcases h2 with ⟨a, b1, b2, b3, b4, b5, b6, b7, b8, b9, b10⟩ | ⟨a, b0, b1, b2, b3, b4, b5, b6, b7, b8, b9, b10⟩ <;> rcases h3 with ⟨c, d1, d2, d3, d4, d5, d6, d7, d8, d9, d10⟩ | ⟨c, d0, d1, d2, d3, d4, d5, d6, d7, d8, d9, d10⟩
  · refine ⟨by unfold teachNo at a c; omega, d1.trans b1.symm, d2.trans b2.symm, d3.trans b3.symm, by omega, ?_⟩
    subst b1 b2 b3 b4 b5 b6 b7 b8 b9 b10 d5 d6 d7 d8 d9 d10
    exact h
  · exfalso; unfold teachNo at a; unfold teachYes at c; omega
  · exfalso; unfold teachNo at c; unfold teachYes at a; omega
  · have e3 : pt3 = pt2 := by rw [d3, b3]; exact zC_nm (NmOf_one b0 d0)
    refine ⟨by unfold teachYes at a c; omega, d1.trans b1.symm, d2.trans b2.symm, e3, by omega, ?_⟩
    obtain ⟨g1, g2, g3, g4, g5, g6, L, g7, g8, g9⟩ := h
    have hy : ((0 ≤ lv ∧ lv ≤ 9) ∧ (0 ≤ q ∧ q ≤ 4)) ∧ mn < 16 := by unfold teachYes at a; omega
    have hin := NmOf_in b0
    have hp2 : ∀ j, pt2 j = if 16 * mn ≤ j ∧ j < 16 * mn + 16 then nm2 (0 + (j - 16 * mn)) else pt j := fun j => by rw [b3]; rfl
    have R1 := RelC_push (s := 0) (k := mn) (v := lv) (w := q) (row := fun j => pt3 (16 * mn + j)) (ap2 := ap) g7 g5.1 g5.2 (fun z => absurd z (by decide)) (fun _ _ _ _ _ _ _ => rfl)
    have R2 := RelM_push (s := 0) (k := mn) (v := lv) (w := q) (row := fun j => pt3 (16 * mn + j)) (g := pt3) (sp := 16 * mn) g8 (by omega) (fun _ _ _ => rfl)
    have R3 := UOk_take (n := 6) (UOk_teach (lv := lv) (q := q) (row := fun j => pt3 (16 * mn + j)) (pt2 := pt2) ⟨g1.1, hy.2⟩ hy.1.1 hy.1.2 (fun j j0 j1 => by rw [hp2, if_neg (by omega)]) g9)
    have hl1 := R1.1
    have hl2 := R2.1
    rw [b1, b2, b4, b5, b6, b7, b8, b9, b10, d5, d6, d7, d8, d9, d10]
    refine ⟨by omega, fun j j0 j1 => ?_, fun j j0 j1 => ?_, fun j j0 j1 => ?_, by omega, by omega, _, R1, R2, R3⟩
    · by_cases z : j = mn
      · rw [z, zU_s]; exact hy.1.1
      · rw [zU_n _ _ z]; exact g2 j j0 (by omega)
    · by_cases z : j = mn
      · rw [z, zU_s]; exact hy.1.2
      · rw [zU_n _ _ z]; exact g3 j j0 (by omega)
    · rw [hp2]
      by_cases z : 16 * mn ≤ j ∧ j < 16 * mn + 16
      · rw [if_pos z]; exact hin _ (by omega) (by omega)
      · rw [if_neg z]; exact g4 j j0 (by omega)
theorem Lok_del {lb : Int → Int} {k mn : Int} (h : Lok lb mn) (hk : 0 ≤ k ∧ k < mn) : Lok (delL lb k mn) (mn - 1) := fun j j0 j1 => by
  rw [delL_at]
  by_cases z : k ≤ j ∧ j < mn - 1
  · rw [if_pos z]; exact h _ (by omega) (by omega)
  · rw [if_neg z]; exact h _ j0 (by omega)
theorem Kok_del {kd : Int → Int} {k mn : Int} (h : Kok kd mn) (hk : 0 ≤ k ∧ k < mn) : Kok (delL kd k mn) (mn - 1) := fun j j0 j1 => by
  rw [delL_at]
  by_cases z : k ≤ j ∧ j < mn - 1
  · rw [if_pos z]; exact h _ (by omega) (by omega)
  · rw [if_neg z]; exact h _ j0 (by omega)
theorem Pok_del {pt : Int → Int} {k mn : Int} (h : Pok pt mn) (hk : 0 ≤ k ∧ k < mn) : Pok (delP pt k mn) (mn - 1) := fun j j0 j1 => by
  rw [delP_at]
  by_cases z : 16 * k ≤ j ∧ j < 16 * (mn - 1)
  · rw [if_pos z]; exact h _ (by omega) (by omega)
  · rw [if_neg z]; exact h _ j0 (by omega)
theorem Lok_ins {lb : Int → Int} {k mn v : Int} (h : Lok lb mn) (hk : 0 ≤ k ∧ k ≤ mn) (hv : 0 ≤ v ∧ v ≤ 9) : Lok (insL lb k mn v) (mn + 1) := fun j j0 j1 => by
  rw [insL_at]
  by_cases z : j = k
  · rw [if_pos z]; exact hv
  · rw [if_neg z]
    by_cases y : k + 1 ≤ j ∧ j < mn + 1
    · rw [if_pos y]; exact h _ (by omega) (by omega)
    · rw [if_neg y]; exact h _ j0 (by omega)
theorem Kok_ins {kd : Int → Int} {k mn v : Int} (h : Kok kd mn) (hk : 0 ≤ k ∧ k ≤ mn) (hv : 0 ≤ v ∧ v ≤ 4) : Kok (insL kd k mn v) (mn + 1) := fun j j0 j1 => by
  rw [insL_at]
  by_cases z : j = k
  · rw [if_pos z]; exact hv
  · rw [if_neg z]
    by_cases y : k + 1 ≤ j ∧ j < mn + 1
    · rw [if_pos y]; exact h _ (by omega) (by omega)
    · rw [if_neg y]; exact h _ j0 (by omega)
theorem Pok_ins {pt row : Int → Int} {k mn : Int} (h : Pok pt mn) (hk : 0 ≤ k ∧ k ≤ mn) (hv : ∀ j, 0 ≤ j → j < 16 → -1000 ≤ row j ∧ row j ≤ 1000) : Pok (insP pt row 0 k mn) (mn + 1) := fun j j0 j1 => by
  rw [insP_at]
  by_cases z : 16 * k ≤ j ∧ j < 16 * k + 16
  · rw [if_pos z]; exact hv _ (by omega) (by omega)
  · rw [if_neg z]
    by_cases y : 16 * (k + 1) ≤ j ∧ j < 16 * (mn + 1)
    · rw [if_pos y]; exact h _ (by omega) (by omega)
    · rw [if_neg y]; exact h _ j0 (by omega)
theorem forget_step {lb kd pt so nu al ak ap so9 nu9 al9 ak9 ap9 : Int → Int} {mn an ax ac : Int} {k : Int} {lb2 kd2 pt2 so2 nu2 al2 ak2 ap2 : Int → Int} {mn2 an2 ax2 r : Int} {lb3 kd3 pt3 so3 nu3 al3 ak3 ap3 : Int → Int} {mn3 ac3 r3 : Int} (h : MkR lb kd pt mn so nu al ak ap an ax so9 nu9 al9 ak9 ap9 ac)
    (h2 : (¬ (0 ≤ k ∧ k < mn) ∧ r = -1 ∧ lb2 = lb ∧ kd2 = kd ∧ pt2 = pt ∧ mn2 = mn ∧ so2 = so ∧ nu2 = nu ∧ al2 = al ∧ ak2 = ak ∧ an2 = an ∧ ax2 = ax ∧ ap2 = ap) ∨ ((0 ≤ k ∧ k < mn) ∧ r = lb k ∧ lb2 = delL lb k mn ∧ kd2 = delL kd k mn ∧ pt2 = delP pt k mn ∧ mn2 = mn - 1 ∧ ap2 = zC pt ap (16 * k) (16 * ax) 16 ∧ so2 = zU so ax 1 ∧ nu2 = zU nu ax k ∧ al2 = zU al ax (lb k) ∧ ak2 = zU ak ax (kd k) ∧ an2 = min (an + 1) 6 ∧ ax2 = (ax + 1) % 6))
    (h3 : (¬ (0 ≤ k ∧ k < mn) ∧ r3 = -1 ∧ lb3 = lb ∧ kd3 = kd ∧ pt3 = pt ∧ mn3 = mn ∧ so3 = so9 ∧ nu3 = nu9 ∧ al3 = al9 ∧ ak3 = ak9 ∧ ap3 = ap9 ∧ ac3 = ac) ∨ ((0 ≤ k ∧ k < mn) ∧ r3 = lb k ∧ lb3 = delL lb k mn ∧ kd3 = delL kd k mn ∧ pt3 = delP pt k mn ∧ mn3 = mn - 1 ∧ so3 = kF so9 ac 1 ∧ nu3 = kF nu9 ac k ∧ al3 = kF al9 ac (lb k) ∧ ak3 = kF ak9 ac (kd k) ∧ ap3 = kP ap9 ac pt (16 * k) ∧ ac3 = kA ac + 1)) :
    r = r3 ∧ lb3 = lb2 ∧ kd3 = kd2 ∧ pt3 = pt2 ∧ mn3 = mn2 ∧ MkR lb2 kd2 pt2 mn2 so2 nu2 al2 ak2 ap2 an2 ax2 so3 nu3 al3 ak3 ap3 ac3 := by
  rcases h2 with ⟨a, a1, b1, b2, b3, b4, b5, b6, b7, b8, b9, b10, b11⟩ | ⟨a, a1, b1, b2, b3, b4, b11, b5, b6, b7, b8, b9, b10⟩ <;> rcases h3 with ⟨c, c1, d1, d2, d3, d4, d5, d6, d7, d8, d9, d10⟩ | ⟨c, c1, d1, d2, d3, d4, d5, d6, d7, d8, d9, d10⟩
  · refine ⟨by omega, d1.trans b1.symm, d2.trans b2.symm, d3.trans b3.symm, by omega, ?_⟩
    subst b1 b2 b3 b4 b5 b6 b7 b8 b9 b10 b11 d5 d6 d7 d8 d9 d10
    exact h
  · exact absurd c a
  · exact absurd a c
  · refine ⟨by omega, d1.trans b1.symm, d2.trans b2.symm, d3.trans b3.symm, by omega, ?_⟩
    obtain ⟨g1, g2, g3, g4, g5, g6, L, g7, g8, g9⟩ := h
    have R1 := RelC_push (s := 1) (k := k) (v := lb k) (w := kd k) (row := fun j => pt (16 * k + j)) (ap2 := zC pt ap (16 * k) (16 * ax) 16) g7 g5.1 g5.2 (fun _ j j0 j1 => by unfold zC; rw [if_pos (by omega), show 16 * k + (16 * ax + j - 16 * ax) = 16 * k + j by omega]) (fun i j i0 i1 i2 j0 j1 => zC_out _ _ (by omega))
    have R2 := RelM_push (s := 1) (k := k) (v := lb k) (w := kd k) (row := fun j => pt (16 * k + j)) (g := pt) (sp := 16 * k) g8 (by omega) (fun _ _ _ => rfl)
    have R3 := UOk_take (n := 6) (UOk_forget (row := fun j => pt (16 * k + j)) g1 a (g2 k a.1 a.2) (g3 k a.1 a.2) (fun _ _ _ => rfl) g4 g9)
    have hl1 := R1.1
    have hl2 := R2.1
    rw [b1, b2, b3, b4, b5, b6, b7, b8, b9, b10, b11, d5, d6, d7, d8, d9, d10]
    exact ⟨by omega, Lok_del g2 a, Kok_del g3 a, Pok_del g4 a, by omega, by omega, _, R1, R2, R3⟩
theorem label_step {lb kd pt so nu al ak ap so9 nu9 al9 ak9 ap9 : Int → Int} {mn an ax ac : Int} {k v : Int} {lb2 so2 nu2 al2 ak2 : Int → Int} {an2 ax2 r : Int} {lb3 so3 nu3 al3 ak3 ap3 : Int → Int} {ac3 r3 : Int} (h : MkR lb kd pt mn so nu al ak ap an ax so9 nu9 al9 ak9 ap9 ac)
    (h2 : (¬ ((0 ≤ k ∧ k < mn) ∧ (0 ≤ v ∧ v ≤ 9)) ∧ r = -1 ∧ lb2 = lb ∧ so2 = so ∧ nu2 = nu ∧ al2 = al ∧ ak2 = ak ∧ an2 = an ∧ ax2 = ax) ∨ (((0 ≤ k ∧ k < mn) ∧ (0 ≤ v ∧ v ≤ 9)) ∧ r = lb k ∧ lb2 = zU lb k v ∧ so2 = zU so ax 2 ∧ nu2 = zU nu ax k ∧ al2 = zU al ax (lb k) ∧ ak2 = zU ak ax (kd k) ∧ an2 = min (an + 1) 6 ∧ ax2 = (ax + 1) % 6))
    (h3 : (¬ ((0 ≤ k ∧ k < mn) ∧ (0 ≤ v ∧ v ≤ 9)) ∧ r3 = -1 ∧ lb3 = lb ∧ so3 = so9 ∧ nu3 = nu9 ∧ al3 = al9 ∧ ak3 = ak9 ∧ ap3 = ap9 ∧ ac3 = ac) ∨ (((0 ≤ k ∧ k < mn) ∧ (0 ≤ v ∧ v ≤ 9)) ∧ r3 = lb k ∧ lb3 = zU lb k v ∧ so3 = kF so9 ac 2 ∧ nu3 = kF nu9 ac k ∧ al3 = kF al9 ac (lb k) ∧ ak3 = kF ak9 ac (kd k) ∧ ap3 = kP ap9 ac pt (16 * k) ∧ ac3 = kA ac + 1)) :
    r = r3 ∧ lb3 = lb2 ∧ MkR lb2 kd pt mn so2 nu2 al2 ak2 ap an2 ax2 so3 nu3 al3 ak3 ap3 ac3 := by
  rcases h2 with ⟨a, a1, b1, b5, b6, b7, b8, b9, b10⟩ | ⟨a, a1, b1, b5, b6, b7, b8, b9, b10⟩ <;> rcases h3 with ⟨c, c1, d1, d5, d6, d7, d8, d9, d10⟩ | ⟨c, c1, d1, d5, d6, d7, d8, d9, d10⟩
  · refine ⟨by omega, d1.trans b1.symm, ?_⟩
    subst b1 b5 b6 b7 b8 b9 b10 d5 d6 d7 d8 d9 d10
    exact h
  · exact absurd c a
  · exact absurd a c
  · refine ⟨by omega, d1.trans b1.symm, ?_⟩
    obtain ⟨g1, g2, g3, g4, g5, g6, L, g7, g8, g9⟩ := h
    have R1 := RelC_push (s := 2) (k := k) (v := lb k) (w := kd k) (row := fun j => pt (16 * k + j)) (ap2 := ap) g7 g5.1 g5.2 (fun z => absurd z (by decide)) (fun _ _ _ _ _ _ _ => rfl)
    have R2 := RelM_push (s := 2) (k := k) (v := lb k) (w := kd k) (row := fun j => pt (16 * k + j)) (g := pt) (sp := 16 * k) g8 (by omega) (fun _ _ _ => rfl)
    have R3 := UOk_take (n := 6) (UOk_label (v := v) (row := fun j => pt (16 * k + j)) a.1 (g2 k a.1.1 a.1.2) (g3 k a.1.1 a.1.2) (fun _ _ _ => rfl) g9)
    have hl1 := R1.1
    have hl2 := R2.1
    rw [b1, b5, b6, b7, b8, b9, b10, d5, d6, d7, d8, d9, d10]
    refine ⟨g1, fun j j0 j1 => ?_, g3, g4, by omega, by omega, _, R1, R2, R3⟩
    by_cases z : j = k
    · rw [z, zU_s]; exact a.2
    · rw [zU_n _ _ z]; exact g2 j j0 j1
