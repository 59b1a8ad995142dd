/-! the law's state, and what an operation does to it on both sides -/
theorem Dok_zU {xs ys lf : Int → Int} {z x y v : Int} (h : Dok xs ys lf z) (hz : z < 30) (hx : -100 ≤ x ∧ x ≤ 100) (hy : -100 ≤ y ∧ y ≤ 100) (hv : v = 0 ∨ v = 1) : Dok (zU xs z x) (zU ys z y) (zU lf z v) (z + 1) := by
  have h0 := h.1
  refine ⟨by omega, fun j j0 j1 => ?_⟩
  by_cases q : j = z
  · rw [q, zU_s, zU_s, zU_s]; exact ⟨hx, hy, hv⟩
  · rw [zU_n _ _ q, zU_n _ _ q, zU_n _ _ q]; exact h.2 j j0 (by omega)
theorem Dok_mono {xs ys lf : Int → Int} {z w : Int} (h : Dok xs ys lf z) (h0 : 0 ≤ w) (h1 : w ≤ z) : Dok xs ys lf w := ⟨by have := h.1; omega, fun j j0 j1 => h.2 j j0 (by omega)⟩
theorem Dok_0 {xs ys lf : Int → Int} : Dok xs ys lf 0 := ⟨by omega, fun j j0 j1 => by omega⟩
theorem if01 {P : Prop} [Decidable P] : (if P then (0 : Int) else 1) = 0 ∨ (if P then (0 : Int) else 1) = 1 := by
  by_cases h : P
  · rw [if_pos h]; exact Or.inl rfl
  · rw [if_neg h]; exact Or.inr rfl
theorem addP_step {xs ys lf : Int → Int} {sz x y li : Int} {xs2 ys2 lf2 : Int → Int} {sz2 r : Int} {xs3 ys3 lf3 : Int → Int} {sz3 r3 : Int} (hd : Dok xs ys lf sz) (h : addP xs ys lf sz x y li xs2 ys2 lf2 sz2 r) (h3 : addP xs ys lf sz x y li xs3 ys3 lf3 sz3 r3) : r = r3 ∧ xs3 = xs2 ∧ ys3 = ys2 ∧ lf3 = lf2 ∧ sz3 = sz2 ∧ Dok xs2 ys2 lf2 sz2 := by
  rcases h with ⟨a, b, c1, c2, c3, c4⟩ | ⟨a, b, c, c1, c2, c3, c4⟩ | ⟨a, b, c, c1, c2, c3, c4⟩ <;> rcases h3 with ⟨d, e, f1, f2, f3, f4⟩ | ⟨d, e, f, f1, f2, f3, f4⟩ | ⟨d, e, f, f1, f2, f3, f4⟩ <;> first | (exfalso; omega) | skip
  · exact ⟨by omega, f1.trans c1.symm, f2.trans c2.symm, f3.trans c3.symm, by omega, by rw [c1, c2, c3, c4]; exact hd⟩
  · exact ⟨by omega, f1.trans c1.symm, f2.trans c2.symm, f3.trans c3.symm, by omega, by rw [c1, c2, c3, c4]; exact hd⟩
  · exact ⟨by omega, f1.trans c1.symm, f2.trans c2.symm, f3.trans c3.symm, by omega, by rw [c1, c2, c3, c4]; exact Dok_zU hd b a.1 a.2 if01⟩
theorem scI_Dok {xs ys lf g : Int → Int} {sz s f : Int} (hd : Dok xs ys lf sz) : ∀ (n : Nat), (∀ j : Nat, j < n → aOk g sz s f j) → Dok (sX xs g sz f n) (sX ys g sz (f + 1) n) (sL lf g sz f n) (sz + n)
  | 0, _ => by rw [show sz + ((0 : Nat) : Int) = sz by omega]; exact hd
  | n + 1, h => by
    have ih := scI_Dok hd n (fun j hj => h j (by omega))
    have a := h n (by omega)
    rw [show sz + ((n + 1 : Nat) : Int) = sz + n + 1 by omega]
    exact Dok_zU ih a.2.2 a.2.1.1 (by rw [show f + 1 + 3 * (n : Int) = f + 3 * n + 1 by omega]; exact a.2.1.2) if01
theorem scE_Dok {xs ys lf g : Int → Int} {sz s f nn : Int} {x2 y2 l2 : Int → Int} {sz2 r : Int} (hd : Dok xs ys lf sz) (h : scE xs ys lf g sz s f nn x2 y2 l2 sz2 r) : Dok x2 y2 l2 sz2 := by
  have h0 := hd.1
  rcases h with ⟨n, a, ⟨b1, b2, b3, b4, b5⟩, c⟩ | ⟨⟨n, z1, ⟨b1, b2, b3, b4, b5⟩, c1, c2, c3⟩, d⟩
  · rw [b2, b3, b4, b5]; exact scI_Dok hd n b1
  · rw [b2, b3, b4, d]; exact Dok_mono (scI_Dok hd n b1) (by omega) (by omega)
-- sheets
def ShR (tl tm ts tc tl9 ts9 tc9 : Int → Int) : Prop := TokC tl tm ts ∧ TokM tl9 ts9 ∧ RgT tc ∧ RgT tc9 ∧ ∀ k, 0 ≤ k → k < 4 → ts9 k = ts k ∧ ((tm k = 1 ∧ ¬ tl9 k = -4 ∧ tl9 k = tl k) ∨ (tm k = 0 ∧ tl9 k = -4)) ∧ ∀ j, 0 ≤ j → j < ts k → tc9 (60 * k + j) = tc (60 * k + j)
theorem ShR_g {tl tm ts tc tl9 ts9 tc9 : Int → Int} {k : Int} (h : ShR tl tm ts tc tl9 ts9 tc9) (h0 : 0 ≤ k) (h1 : k < 4) : gC tc9 (60 * k) (ts9 k) = gC tc (60 * k) (ts k) := by
  have q := h.2.2.2.2 k h0 h1
  funext j
  unfold gC
  rw [q.1]
  by_cases w : 0 ≤ j ∧ j < ts k
  · rw [if_pos w, if_pos w]; exact q.2.2 j w.1 w.2
  · rw [if_neg w, if_neg w]
theorem sheet_step {tl tm ts tc tl9 ts9 tc9 : Int → Int} {k q nn : Int} {tl2 tm2 ts2 tc2 : Int → Int} {r : Int} {tl3 ts3 tc3 : Int → Int} {r3 : Int} (h : ShR tl tm ts tc tl9 ts9 tc9)
    (h2 : (shNo k q nn r ∧ tl2 = tl ∧ tm2 = tm ∧ ts2 = ts ∧ tc2 = tc) ∨ (shYes k q nn r ∧ tl2 = zU tl k q ∧ tm2 = zU tm k 1 ∧ ts2 = zU ts k nn ∧ fill0 tc (60 * k) nn tc2))
    (h3 : (shNo k q nn r3 ∧ tl3 = tl9 ∧ ts3 = ts9 ∧ tc3 = tc9) ∨ (shYes k q nn r3 ∧ tl3 = zU tl9 k q ∧ ts3 = zU ts9 k nn ∧ fill0 tc9 (60 * k) 60 tc3)) : r = r3 ∧ ShR tl2 tm2 ts2 tc2 tl3 ts3 tc3 := by
  rcases h2 with ⟨a, b1, b2, b3, b4⟩ | ⟨a, b1, b2, b3, b4⟩ <;> rcases h3 with ⟨c, d1, d2, d3⟩ | ⟨c, d1, d2, d3⟩
  · refine ⟨by unfold shNo shOk at a c; omega, ?_⟩
    subst b1 b2 b3 b4 d1 d2 d3
    exact h
  · exfalso; unfold shNo at a; unfold shYes at c; unfold shOk at a c; omega
  · exfalso; unfold shNo at c; unfold shYes at a; unfold shOk at a c; omega
  · refine ⟨by unfold shYes at a c; omega, ?_⟩
    have hk : (0 ≤ k ∧ k ≤ 3) ∧ (0 ≤ q ∧ q ≤ 2) ∧ (0 ≤ nn ∧ nn ≤ 60) := by unfold shYes shOk at a; omega
    subst b1 b2 b3 d1 d2
    obtain ⟨e1, e2, e3, e4, e5⟩ := h
    refine ⟨fun i i0 i1 => ?_, fun i i0 i1 => ?_, fun j => ?_, fun j => ?_, fun i i0 i1 => ?_⟩
    · by_cases w : i = k
      · rw [w, zU_s, zU_s, zU_s]; omega
      · rw [zU_n _ _ w, zU_n _ _ w, zU_n _ _ w]; exact e1 i i0 i1
    · by_cases w : i = k
      · rw [w, zU_s, zU_s]; omega
      · rw [zU_n _ _ w, zU_n _ _ w]; exact e2 i i0 i1
    · by_cases w : 60 * k ≤ j ∧ j < 60 * k + nn
      · rw [b4.1 j w.1 w.2]; omega
      · rw [b4.2 j w]; exact e3 j
    · by_cases w : 60 * k ≤ j ∧ j < 60 * k + 60
      · rw [d3.1 j w.1 w.2]; omega
      · rw [d3.2 j w]; exact e4 j
    · by_cases w : i = k
      · rw [w, zU_s, zU_s, zU_s, zU_s, zU_s]
        refine ⟨rfl, Or.inl ⟨rfl, by omega, rfl⟩, fun j j0 j1 => ?_⟩
        rw [d3.1 _ (by omega) (by omega), b4.1 _ (by omega) (by omega)]
      · rw [zU_n _ _ w, zU_n _ _ w, zU_n _ _ w, zU_n _ _ w, zU_n _ _ w]
        have f := e5 i i0 i1
        have f1 := (e1 i i0 i1).2.1
        refine ⟨f.1, f.2.1, fun j j0 j1 => ?_⟩
        rw [d3.2 _ (by omega), b4.2 _ (by omega)]
        exact f.2.2 j j0 j1
theorem lay_step {tl tm ts tc tl9 ts9 tc9 : Int → Int} {k i v : Int} {tc2 : Int → Int} {r : Int} {tc3 : Int → Int} {r3 : Int} (hv : -2147483648 ≤ v ∧ v < 2147483648) (h : ShR tl tm ts tc tl9 ts9 tc9)
    (h2 : (layNo (tm k = 1) (ts k) k i r ∧ tc2 = tc) ∨ (layYes (tm k = 1) (ts k) k i r ∧ tc2 = zU tc (60 * k + i) (lowF (tl k) v)))
    (h3 : (layNo (¬ tl9 k = -4) (ts9 k) k i r3 ∧ tc3 = tc9) ∨ (layYes (¬ tl9 k = -4) (ts9 k) k i r3 ∧ tc3 = zU tc9 (60 * k + i) (lowF (tl9 k) v))) : r = r3 ∧ ShR tl tm ts tc2 tl9 ts9 tc3 := by
  have hq : (0 ≤ k ∧ k ≤ 3) → ts9 k = ts k ∧ ((tm k = 1 ∧ ¬ tl9 k = -4 ∧ tl9 k = tl k) ∨ (tm k = 0 ∧ tl9 k = -4)) := fun z => ⟨(h.2.2.2.2 k z.1 (by omega)).1, (h.2.2.2.2 k z.1 (by omega)).2.1⟩
  rcases h2 with ⟨a, b⟩ | ⟨a, b⟩ <;> rcases h3 with ⟨c, d⟩ | ⟨c, d⟩
  · refine ⟨by unfold layNo at a c; omega, ?_⟩
    subst b d
    exact h
  · exfalso; unfold layNo at a; unfold layYes at c; omega
  · exfalso; unfold layNo at c; unfold layYes at a; omega
  · refine ⟨by unfold layYes at a c; omega, ?_⟩
    have hk : (0 ≤ k ∧ k ≤ 3) ∧ tm k = 1 ∧ (0 ≤ i ∧ i < ts k) := by unfold layYes at a; omega
    have hl : tl9 k = tl k := by have := (hq hk.1).2; omega
    rw [hl] at d
    subst b d
    obtain ⟨e1, e2, e3, e4, e5⟩ := h
    have hr := lowF_r (q := tl k) hv
    refine ⟨e1, e2, fun j => ?_, fun j => ?_, fun p p0 p1 => ⟨(e5 p p0 p1).1, (e5 p p0 p1).2.1, fun j j0 j1 => ?_⟩⟩
    · by_cases w : j = 60 * k + i
      · rw [w, zU_s]; exact hr
      · rw [zU_n _ _ w]; exact e3 j
    · by_cases w : j = 60 * k + i
      · rw [w, zU_s]; exact hr
      · rw [zU_n _ _ w]; exact e4 j
    · by_cases w : 60 * p + j = 60 * k + i
      · rw [w, zU_s, zU_s]
      · rw [zU_n _ _ w, zU_n _ _ w]; exact (e5 p p0 p1).2.2 j j0 j1
theorem scan_step {tl tm ts tc tl9 ts9 tc9 xs ys lf : Int → Int} {sz k q f nn : Int} {xs2 ys2 lf2 : Int → Int} {sz2 r : Int} {xs3 ys3 lf3 : Int → Int} {sz3 r3 : Int} (h : ShR tl tm ts tc tl9 ts9 tc9) (hd : Dok xs ys lf sz)
    (h2 : scanR (tm k = 1) (tl k) xs ys lf (gC tc (60 * k) (ts k)) sz (ts k) k q f nn xs2 ys2 lf2 sz2 r)
    (h3 : scanR (¬ tl9 k = -4) (tl9 k) xs ys lf (gC tc9 (60 * k) (ts9 k)) sz (ts9 k) k q f nn xs3 ys3 lf3 sz3 r3) : r = r3 ∧ xs3 = xs2 ∧ ys3 = ys2 ∧ lf3 = lf2 ∧ sz3 = sz2 ∧ Dok xs2 ys2 lf2 sz2 := by
  have hq : (0 ≤ k ∧ k ≤ 3) → ts9 k = ts k ∧ ((tm k = 1 ∧ ¬ tl9 k = -4 ∧ tl9 k = tl k) ∨ (tm k = 0 ∧ tl9 k = -4)) := fun z => ⟨(h.2.2.2.2 k z.1 (by omega)).1, (h.2.2.2.2 k z.1 (by omega)).2.1⟩
  rcases h2 with ⟨a, b1, b2, b3, b4⟩ | ⟨a, b⟩ <;> rcases h3 with ⟨c, d1, d2, d3, d4⟩ | ⟨c, d⟩
  · refine ⟨by unfold scanNo scOk at a c; omega, d1.trans b1.symm, d2.trans b2.symm, d3.trans b3.symm, by omega, by rw [b1, b2, b3, b4]; exact hd⟩
  · exfalso; unfold scanNo scOk at a; unfold scanYes scOk at c; omega
  · exfalso; unfold scanNo scOk at c; unfold scanYes scOk at a; omega
  · have hk : 0 ≤ k ∧ k ≤ 3 := by unfold scanYes scOk at a; omega
    rw [ShR_g h hk.1 (by omega), (hq hk).1] at d
    obtain ⟨g1, g2, g3, g4, g5⟩ := scE_one hd.1.1 b d
    exact ⟨g5.symm, g1, g2, g3, g4, scE_Dok hd b⟩
