/-! one answer; the mark read; where the law begins -/
theorem toldP_one {lb kd : Int → Int} {mn k w r r2 : Int} (h : toldP lb kd mn k w r) (h2 : toldP lb kd mn k w r2) : r = r2 := by
  unfold toldP at h h2
  omega
theorem taughtP_one {pt : Int → Int} {mn k i w r r2 : Int} (h : taughtP pt mn k i w r) (h2 : taughtP pt mn k i w r2) : r = r2 := by
  unfold taughtP at h h2
  omega
theorem lineR_one {rw : Int → Int} {ln i r r2 : Int} (h : lineR rw ln i r) (h2 : lineR rw ln i r2) : r = r2 := by
  unfold lineR at h h2
  omega
theorem countR_one {sz mn cn ln an w r r2 : Int} (h : countR sz mn cn ln an w r) (h2 : countR sz mn cn ln an w r2) : r = r2 := by
  unfold countR at h h2
  omega
theorem evenP_one {xs ys lf : Int → Int} {sz i w r r2 : Int} (h : evenP xs ys lf sz i w r) (h2 : evenP xs ys lf sz i w r2) : r = r2 := by
  rcases h with ⟨a, b⟩ | ⟨a, e, b, c⟩ <;> rcases h2 with ⟨a2, b2⟩ | ⟨a2, e2, b2, c2⟩
  · omega
  · exact absurd a2 a
  · exact absurd a a2
  · rw [c, c2]; exact Ev_one b b2 _ (by omega) (by omega)
theorem normalP_one {xs ys lf : Int → Int} {sz i w r r2 : Int} (h : normalP xs ys lf sz i w r) (h2 : normalP xs ys lf sz i w r2) : r = r2 := by
  rcases h with ⟨a, b⟩ | ⟨a, e, b, c⟩ <;> rcases h2 with ⟨a2, b2⟩ | ⟨a2, e2, b2, c2⟩
  · omega
  · exact absurd a2 a
  · exact absurd a a2
  · rw [c, c2]; exact NmOf_one b b2 _ (by omega) (by omega)
theorem confR_one {pt kd lb : Int → Int} {mn l d r r2 : Int} (h : confR pt kd lb mn l d r) (h2 : confR pt kd lb mn l d r2) : r = r2 := by
  unfold confR at h h2
  omega
theorem btwR_one {pt kd : Int → Int} {mn a b r r2 : Int} (h : btwR pt kd mn a b r) (h2 : btwR pt kd mn a b r2) : r = r2 := by
  unfold btwR at h h2
  omega
theorem near_of {xs ys lf : Int → Int} {sz : Int} {pt kd nm he : Int → Int} {mn r : Int} (h : (wy xs ys lf sz = 0 ∧ r = -2) ∨ (¬ wy xs ys lf sz = 0 ∧ mn = 0 ∧ r = -4) ∨ (¬ wy xs ys lf sz = 0 ∧ 0 < mn ∧ NmOf xs ys lf sz nm ∧ eqH he nm ∧ nearT nm pt kd mn r)) : nearR xs ys lf sz pt kd mn r := by
  rcases h with h | h | ⟨a, b, c, _, d⟩
  · exact Or.inl h
  · exact Or.inr (Or.inl h)
  · exact Or.inr (Or.inr ⟨a, b, nm, c, d⟩)
theorem mark_step {xs ys lf : Int → Int} {sz : Int} {pt kd lb : Int → Int} {mn en mg : Int} {rw rw2 rw3 : Int → Int} {ln ln2 sz2 r ln3 sz3 r3 : Int} (hd : Dok xs ys lf sz) (hr : Rok rw ln)
    (h2 : markR (readR xs ys lf sz pt kd lb mn en mg) rw ln sz rw2 ln2 sz2 r) (h3 : markR (readR xs ys lf sz pt kd lb mn en mg) rw ln sz rw3 ln3 sz3 r3) : r = r3 ∧ rw3 = rw2 ∧ ln3 = ln2 ∧ sz3 = sz2 ∧ Rok rw2 ln2 ∧ Dok xs ys lf sz2 := by
  rcases h2 with ⟨a, b, c1, c2, c3⟩ | ⟨q, a, b, c, d, c1, c2, c3⟩ | ⟨a, b, c, d, c1, c2, c3⟩ <;> rcases h3 with ⟨e, f, g1, g2, g3⟩ | ⟨p, e, f, g, i, g1, g2, g3⟩ | ⟨e, f, g, i, g1, g2, g3⟩
  · have z := readR_one a e
    exact ⟨z, g1.trans c1.symm, by omega, by omega, by rw [c1, c2]; exact hr, by rw [c3]; exact hd⟩
  · have z := readR_one a e; omega
  · have z := readR_one a e; omega
  · have z := readR_one a e; omega
  · exact ⟨by omega, g1.trans c1.symm, by omega, by omega, by rw [c1, c2]; exact hr, by rw [c3]; exact hd⟩
  · omega
  · have z := readR_one a e; omega
  · omega
  · have z := readR_one a e
    subst z
    refine ⟨rfl, g1.trans c1.symm, by omega, by omega, ?_, by rw [c3]; exact Dok_0⟩
    rw [c1, c2]
    have h0 := hr.1
    refine ⟨by omega, fun j j0 j1 => ?_⟩
    by_cases y : j = ln
    · rw [y, zU_s]; exact ⟨b, c⟩
    · rw [zU_n _ _ y]; exact hr.2 j j0 (by omega)
theorem MkR_0 (so nu al ak ap so9 nu9 al9 ak9 ap9 lb kd pt : Int → Int) : MkR lb kd pt 0 so nu al ak ap 0 0 so9 nu9 al9 ak9 ap9 0 := ⟨by omega, fun j j0 j1 => by omega, fun j j0 j1 => by omega, fun j j0 j1 => by omega, by omega, rfl, [], ⟨rfl, fun d a h => by simp at h⟩, ⟨rfl, fun d a h => by simp at h⟩, trivial⟩
theorem Cok_0 (cx cr cl ll : Int → Int) : Cok cx cr cl ll 0 := ⟨by omega, fun c c0 c1 => by omega⟩
theorem Rok_0 (rw : Int → Int) : Rok rw 0 := ⟨by omega, fun c c0 c1 => by omega⟩
theorem ShR_0 {tl9 : Int → Int} (h : ∀ k, 0 ≤ k → k < 4 → tl9 k = -4) : ShR z0 z0 z0 z0 tl9 z0 z0 := by
  refine ⟨fun k k0 k1 => ⟨Or.inl rfl, ?_, ?_⟩, fun k k0 k1 => ⟨?_, ?_⟩, fun j => ?_, fun j => ?_, fun k k0 k1 => ⟨rfl, Or.inr ⟨rfl, h k k0 k1⟩, fun j _ _ => rfl⟩⟩
  · show (0 : Int) ≤ 0 ∧ (0 : Int) ≤ 60; omega
  · show (0 : Int) ≤ 0 ∧ (0 : Int) ≤ 2; omega
  · show (0 : Int) ≤ 0 ∧ (0 : Int) ≤ 60; omega
  · rw [h k k0 k1]; omega
  · show -2147483648 ≤ (0 : Int) ∧ (0 : Int) < 2147483648; omega
  · show -2147483648 ≤ (0 : Int) ∧ (0 : Int) < 2147483648; omega
