/-! undo, and the rest of the state -/
theorem MkR_top {lb kd pt so nu al ak ap so9 nu9 al9 ak9 ap9 : Int → Int} {mn an ax ac : Int} (h : MkR lb kd pt mn so nu al ak ap an ax so9 nu9 al9 ak9 ap9 ac) (hn : 0 < an) : ∃ (a : Act) (t : List Act), (so ((ax - 1) % 6) = a.so ∧ nu ((ax - 1) % 6) = a.nu ∧ al ((ax - 1) % 6) = a.al ∧ ak ((ax - 1) % 6) = a.ak ∧ (a.so = 1 → ∀ j, 0 ≤ j → j < 16 → ap (16 * ((ax - 1) % 6) + j) = a.row j)) ∧ (so9 (ac - 1) = a.so ∧ nu9 (ac - 1) = a.nu ∧ al9 (ac - 1) = a.al ∧ ak9 (ac - 1) = a.ak ∧ ∀ j, 0 ≤ j → j < 16 → ap9 (16 * (ac - 1) + j) = a.row j) ∧ actR a kd pt mn ∧ UOk t (uL a lb mn) (uK a kd mn) (uP a pt mn) (uN a mn) ∧ RelC so nu al ak ap (an - 1) ((ax - 1) % 6) t ∧ RelM so9 nu9 al9 ak9 ap9 (ac - 1) t := by
  obtain ⟨g1, g2, g3, g4, g5, g6, L, g7, g8, g9⟩ := h
  cases L with
  | nil => have := g7.1; rw [List.length_nil] at this; omega
  | cons a t =>
    have q1 := g7.2 0 a rfl
    have q2 := g8.2 0 a rfl
    rw [show (ax - 1 - ((0 : Nat) : Int)) % 6 = (ax - 1) % 6 by omega] at q1
    rw [show ac - 1 - ((0 : Nat) : Int) = ac - 1 by omega] at q2
    exact ⟨a, t, q1, q2, g9.1, g9.2, RelC_pop g7, RelM_pop g8⟩
theorem undo_preC {lb kd pt so nu al ak ap so9 nu9 al9 ak9 ap9 : Int → Int} {mn an ax ac : Int} (h : MkR lb kd pt mn so nu al ak ap an ax so9 nu9 al9 ak9 ap9 ac) (hn : 0 < an) : actOk (so ((ax - 1) % 6)) (nu ((ax - 1) % 6)) mn ∧ (0 ≤ al ((ax - 1) % 6) ∧ al ((ax - 1) % 6) ≤ 9) ∧ (0 ≤ ak ((ax - 1) % 6) ∧ ak ((ax - 1) % 6) ≤ 4) := by
  obtain ⟨a, t, ⟨c1, c2, c3, c4, c5⟩, _, ⟨r1, r2, _, _⟩, _, _, _⟩ := MkR_top h hn
  rw [c1, c2, c3, c4]
  exact ⟨r1, r2.1, r2.2⟩
theorem undo_preM {lb kd pt so nu al ak ap so9 nu9 al9 ak9 ap9 : Int → Int} {mn an ax ac : Int} (h : MkR lb kd pt mn so nu al ak ap an ax so9 nu9 al9 ak9 ap9 ac) (hn : 0 < ac) : actOk (so9 (ac - 1)) (nu9 (ac - 1)) mn := by
  obtain ⟨a, t, _, ⟨c1, c2, c3, c4, c5⟩, ⟨r1, r2, _, _⟩, _, _, _⟩ := MkR_top h (by have := h.2.2.2.2.2.1; omega)
  rw [c1, c2]
  exact r1
theorem und_C {lb kd pt ap lb2 kd2 pt2 : Int → Int} {mn mn2 s k v w fr : Int} {a : Act} (hs : s = a.so) (hk : k = a.nu) (hv : v = a.al) (hw : w = a.ak) (hrow : a.so = 1 → ∀ j, 0 ≤ j → j < 16 → ap (fr + j) = a.row j)
    (h : (s = 0 ∧ lb2 = delL lb k mn ∧ kd2 = delL kd k mn ∧ pt2 = delP pt k mn ∧ mn2 = mn - 1) ∨ (s = 1 ∧ lb2 = insL lb k mn v ∧ kd2 = insL kd k mn w ∧ pt2 = insP pt ap fr k mn ∧ mn2 = mn + 1) ∨ (s = 2 ∧ lb2 = zU lb k v ∧ kd2 = kd ∧ pt2 = pt ∧ mn2 = mn)) :
    lb2 = uL a lb mn ∧ kd2 = uK a kd mn ∧ pt2 = uP a pt mn ∧ mn2 = uN a mn := by
  subst hs hk hv hw
  unfold uL uK uP uN
  rcases h with ⟨z, h⟩ | ⟨z, h1, h2, h3, h4⟩ | ⟨z, h⟩
  · rw [if_pos z, if_pos z, if_pos z, if_pos z]; exact h
  · have z0 : ¬ a.so = 0 := by omega
    rw [if_neg z0, if_neg z0, if_neg z0, if_neg z0, if_pos z, if_pos z, if_pos z, if_pos z]
    refine ⟨h1, h2, ?_, h4⟩
    rw [h3]
    funext j
    rw [insP_at, insP_at]
    by_cases y : 16 * a.nu ≤ j ∧ j < 16 * a.nu + 16
    · rw [if_pos y, if_pos y, hrow z _ (by omega) (by omega), show 0 + (j - 16 * a.nu) = j - 16 * a.nu by omega]
    · rw [if_neg y, if_neg y]
  · have z0 : ¬ a.so = 0 := by omega
    have z1 : ¬ a.so = 1 := by omega
    rw [if_neg z0, if_neg z0, if_neg z0, if_neg z0, if_neg z1, if_neg z1, if_neg z1, if_neg z1]; exact h
theorem und_ok {lb kd pt : Int → Int} {mn : Int} {a : Act} (hm : 0 ≤ mn ∧ mn ≤ 16) (h1 : Lok lb mn) (h2 : Kok kd mn) (h3 : Pok pt mn) (h : actR a kd pt mn) : (0 ≤ uN a mn ∧ uN a mn ≤ 16) ∧ Lok (uL a lb mn) (uN a mn) ∧ Kok (uK a kd mn) (uN a mn) ∧ Pok (uP a pt mn) (uN a mn) := by
  obtain ⟨b1, b2, b3, b4⟩ := h
  unfold uL uK uP uN
  rcases b1 with ⟨z, b⟩ | ⟨z, b⟩ | ⟨z, b⟩
  · rw [if_pos z, if_pos z, if_pos z, if_pos z]
    exact ⟨by omega, Lok_del h1 b, Kok_del h2 b, Pok_del h3 b⟩
  · have z0 : ¬ a.so = 0 := by omega
    rw [if_neg z0, if_neg z0, if_neg z0, if_neg z0, if_pos z, if_pos z, if_pos z, if_pos z]
    exact ⟨by omega, Lok_ins h1 ⟨b.1, b.2.1⟩ b2.1, Kok_ins h2 ⟨b.1, b.2.1⟩ b2.2, Pok_ins h3 ⟨b.1, b.2.1⟩ (b3 z)⟩
  · have z0 : ¬ a.so = 0 := by omega
    have z1 : ¬ a.so = 1 := by omega
    rw [if_neg z0, if_neg z0, if_neg z0, if_neg z0, if_neg z1, if_neg z1, if_neg z1, if_neg z1]
    refine ⟨hm, fun j j0 j1 => ?_, h2, h3⟩
    by_cases y : j = a.nu
    · rw [y, zU_s]; exact b2.1
    · rw [zU_n _ _ y]; exact h1 j j0 j1
theorem undo_step {lb kd pt so nu al ak ap so9 nu9 al9 ak9 ap9 : Int → Int} {mn an ax ac : Int} {lb2 kd2 pt2 : Int → Int} {mn2 an2 ax2 r : Int} {lb3 kd3 pt3 : Int → Int} {mn3 ac3 r3 : Int} (h : MkR lb kd pt mn so nu al ak ap an ax so9 nu9 al9 ak9 ap9 ac)
    (h2 : (an = 0 ∧ r = -4 ∧ lb2 = lb ∧ kd2 = kd ∧ pt2 = pt ∧ mn2 = mn ∧ an2 = 0 ∧ ax2 = ax) ∨ (0 < an ∧ r = an - 1 ∧ an2 = an - 1 ∧ ax2 = ((ax - 1) % 6) ∧ ((so ((ax - 1) % 6) = 0 ∧ lb2 = delL lb (nu ((ax - 1) % 6)) mn ∧ kd2 = delL kd (nu ((ax - 1) % 6)) mn ∧ pt2 = delP pt (nu ((ax - 1) % 6)) mn ∧ mn2 = mn - 1) ∨ (so ((ax - 1) % 6) = 1 ∧ lb2 = insL lb (nu ((ax - 1) % 6)) mn (al ((ax - 1) % 6)) ∧ kd2 = insL kd (nu ((ax - 1) % 6)) mn (ak ((ax - 1) % 6)) ∧ pt2 = insP pt ap (16 * ((ax - 1) % 6)) (nu ((ax - 1) % 6)) mn ∧ mn2 = mn + 1) ∨ (so ((ax - 1) % 6) = 2 ∧ lb2 = zU lb (nu ((ax - 1) % 6)) (al ((ax - 1) % 6)) ∧ kd2 = kd ∧ pt2 = pt ∧ mn2 = mn))))
    (h3 : (ac = 0 ∧ r3 = -4 ∧ lb3 = lb ∧ kd3 = kd ∧ pt3 = pt ∧ mn3 = mn ∧ ac3 = 0) ∨ (0 < ac ∧ r3 = ac - 1 ∧ ac3 = ac - 1 ∧ ((so9 (ac - 1) = 0 ∧ lb3 = delL lb (nu9 (ac - 1)) mn ∧ kd3 = delL kd (nu9 (ac - 1)) mn ∧ pt3 = delP pt (nu9 (ac - 1)) mn ∧ mn3 = mn - 1) ∨ (so9 (ac - 1) = 1 ∧ lb3 = insL lb (nu9 (ac - 1)) mn (al9 (ac - 1)) ∧ kd3 = insL kd (nu9 (ac - 1)) mn (ak9 (ac - 1)) ∧ pt3 = insP pt ap9 (16 * (ac - 1)) (nu9 (ac - 1)) mn ∧ mn3 = mn + 1) ∨ (so9 (ac - 1) = 2 ∧ lb3 = zU lb (nu9 (ac - 1)) (al9 (ac - 1)) ∧ kd3 = zU kd (nu9 (ac - 1)) (ak9 (ac - 1)) ∧ pt3 = zC ap9 pt (16 * (ac - 1)) (16 * nu9 (ac - 1)) 16 ∧ mn3 = mn)))) :
    r = r3 ∧ lb3 = lb2 ∧ kd3 = kd2 ∧ pt3 = pt2 ∧ mn3 = mn2 ∧ MkR lb2 kd2 pt2 mn2 so nu al ak ap an2 ax2 so9 nu9 al9 ak9 ap9 ac3 := by
  have hac := h.2.2.2.2.2.1
  rcases h2 with ⟨a, a1, b1, b2, b3, b4, b5, b6⟩ | ⟨a, a1, b1, b2, b3⟩ <;> rcases h3 with ⟨c, c1, d1, d2, d3, d4, d5⟩ | ⟨c, c1, d1, d3⟩
  · refine ⟨by omega, d1.trans b1.symm, d2.trans b2.symm, d3.trans b3.symm, by omega, ?_⟩
    rw [b1, b2, b3, b4, b6, show an2 = an by omega, show ac3 = ac by omega]
    exact h
  · exfalso; omega
  · exfalso; omega
  · obtain ⟨x, t, ⟨p1, p2, p3, p4, p5⟩, ⟨q1, q2, q3, q4, q5⟩, hR, hU, hC, hM⟩ := MkR_top h a
    obtain ⟨e1, e2, e3, e4⟩ := und_C p1 p2 p3 p4 p5 b3
    obtain ⟨f1, f2, f3, f4⟩ := und_C q1 q2 q3 q4 (fun _ => q5) (lb2 := lb3) (kd2 := kd3) (pt2 := pt3) (mn2 := mn3) (lb := lb) (kd := kd) (pt := pt) (mn := mn) (by
      rcases d3 with z | z | ⟨z, z1, z2, z3, z4⟩
      · exact Or.inl z
      · exact Or.inr (Or.inl z)
      · have hr := hR.2.2.2 (by omega)
        refine Or.inr (Or.inr ⟨z, z1, ?_, ?_, z4⟩)
        · rw [z2, q2, q4, hr.1]
          funext j
          by_cases y : j = x.nu
          · rw [y, zU_s]
          · rw [zU_n _ _ y]
        · rw [z3, q2]
          funext j
          unfold zC
          by_cases y : 16 * x.nu ≤ j ∧ j < 16 * x.nu + 16
          · rw [if_pos y, q5 _ (by omega) (by omega), hr.2 _ (by omega) (by omega), show 16 * x.nu + (j - 16 * x.nu) = j by omega]
          · rw [if_neg y])
    refine ⟨by omega, f1.trans e1.symm, f2.trans e2.symm, f3.trans e3.symm, f4.trans e4.symm, ?_⟩
    obtain ⟨g1, g2, g3, g4, g5, g6, _⟩ := h
    obtain ⟨k1, k2, k3, k4⟩ := und_ok g1 g2 g3 g4 hR
    rw [e1, e2, e3, e4, b1, b2, d1]
    exact ⟨k1, k2, k3, k4, by omega, by omega, t, hC, hM, hU⟩
-- commands, the row, the ends
theorem cmd_step {cx cr cl ll : Int → Int} {cn x k nn va vb vc vd : Int} {cx2 cr2 cl2 ll2 : Int → Int} {cn2 r : Int} {cx3 cr3 cl3 ll3 : Int → Int} {cn3 r3 : Int} (hc : Cok cx cr cl ll cn) (h2 : cmdP cx cr cl ll cn x k nn va vb vc vd cx2 cr2 cl2 ll2 cn2 r) (h3 : cmdP cx cr cl ll cn x k nn va vb vc vd cx3 cr3 cl3 ll3 cn3 r3) : r = r3 ∧ cx3 = cx2 ∧ cr3 = cr2 ∧ cl3 = cl2 ∧ ll3 = ll2 ∧ cn3 = cn2 ∧ Cok cx2 cr2 cl2 ll2 cn2 := by
  rcases h2 with ⟨a, b, b1, b2, b3, b4, b5⟩ | ⟨a, a1, b, b1, b2, b3, b4, b5⟩ | ⟨a, a1, b, b1, b2, b3, b4, b5⟩ <;> rcases h3 with ⟨c, d, d1, d2, d3, d4, d5⟩ | ⟨c, c1, d, d1, d2, d3, d4, d5⟩ | ⟨c, c1, d, d1, d2, d3, d4, d5⟩ <;> first | exact absurd c a | exact absurd a c | (exfalso; omega) | skip
  · exact ⟨by omega, d1.trans b1.symm, d2.trans b2.symm, d3.trans b3.symm, d4.trans b4.symm, by omega, by rw [b1, b2, b3, b4, b5]; exact hc⟩
  · exact ⟨by omega, d1.trans b1.symm, d2.trans b2.symm, d3.trans b3.symm, d4.trans b4.symm, by omega, by rw [b1, b2, b3, b4, b5]; exact hc⟩
  · refine ⟨by omega, d1.trans b1.symm, d2.trans b2.symm, d3.trans b3.symm, d4.trans b4.symm, by omega, ?_⟩
    have h0 := hc.1
    have ha := a
    unfold cmdOk at ha
    rw [b1, b2, b3, b4, b5]
    refine ⟨by omega, fun c c0 c1 => ?_⟩
    by_cases y : c = cn
    · rw [y, zU_s, zU_s, zU_s]
      refine ⟨by omega, by omega, by omega, fun i i0 i1 => ?_⟩
      rcases (show i = 0 ∨ i = 1 ∨ i = 2 ∨ i = 3 by omega) with e | e | e | e <;> subst e
      · rw [zU_n _ _ (by omega), zU_n _ _ (by omega), zU_n _ _ (by omega), show 4 * cn + 0 = 4 * cn by omega, zU_s]; omega
      · rw [zU_n _ _ (by omega), zU_n _ _ (by omega), zU_s]; omega
      · rw [zU_n _ _ (by omega), zU_s]; omega
      · rw [zU_s]; omega
    · rw [zU_n _ _ y, zU_n _ _ y, zU_n _ _ y]
      have q := hc.2 c c0 (by omega)
      refine ⟨q.1, q.2.1, q.2.2.1, fun i i0 i1 => ?_⟩
      rw [zU_n _ _ (by omega), zU_n _ _ (by omega), zU_n _ _ (by omega), zU_n _ _ (by omega)]
      exact q.2.2.2 i i0 i1
theorem ends_step {en mg e1 m1 en2 mg2 r en3 mg3 r3 : Int} (h : (0 ≤ en ∧ en ≤ 100000) ∧ (0 ≤ mg ∧ mg ≤ 100000)) (h2 : endsP en mg e1 m1 en2 mg2 r) (h3 : endsP en mg e1 m1 en3 mg3 r3) : r = r3 ∧ en3 = en2 ∧ mg3 = mg2 ∧ ((0 ≤ en2 ∧ en2 ≤ 100000) ∧ (0 ≤ mg2 ∧ mg2 ≤ 100000)) := by
  unfold endsP at h2 h3
  omega
