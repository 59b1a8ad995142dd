theorem i2b_iI {x : Int} (h : -2147483648 ≤ x ∧ x < 2147483648) : (iI x).toInt8.toInt32 = iI (Int.bmod x 256) := by
  rw [← iI_of (iI x).toInt8.toInt32, lg_i2b_toInt, iI_toInt h]
theorem i2s_iI {x : Int} (h : -2147483648 ≤ x ∧ x < 2147483648) : (iI x).toInt16.toInt32 = iI (Int.bmod x 65536) := by
  rw [← iI_of (iI x).toInt16.toInt32, lg_i2s_toInt, iI_toInt h]
def lowF (q v : Int) : Int := if q = 0 then Int.bmod v 256 else if q = 1 then Int.bmod v 65536 else v
theorem bm8 (x : Int) : -128 ≤ Int.bmod x 256 ∧ Int.bmod x 256 < 128 := by
  have a := Int.le_bmod (x := x) (m := 256) (by decide)
  have b := Int.bmod_lt (x := x) (m := 256) (by decide)
  omega
theorem bm16 (x : Int) : -32768 ≤ Int.bmod x 65536 ∧ Int.bmod x 65536 < 32768 := by
  have a := Int.le_bmod (x := x) (m := 65536) (by decide)
  have b := Int.bmod_lt (x := x) (m := 65536) (by decide)
  omega
theorem lowF_r {q v : Int} (h : -2147483648 ≤ v ∧ v < 2147483648) : -2147483648 ≤ lowF q v ∧ lowF q v < 2147483648 := by
  have a := bm8 v
  have b := bm16 v
  unfold lowF
  by_cases c : q = 0
  · rw [if_pos c]; omega
  · rw [if_neg c]
    by_cases d : q = 1
    · rw [if_pos d]; omega
    · rw [if_neg d]; exact h
def gC (tc : Int → Int) (b s j : Int) : Int := if 0 ≤ j ∧ j < s then tc (b + j) else 0
theorem gC_at {tc : Int → Int} {b s j z : Int} (h : 0 ≤ j ∧ j < s) (hz : z = b + j) : tc z = gC tc b s j := by
  unfold gC
  rw [if_pos h, hz]
def RgT (tc : Int → Int) : Prop := ∀ j, -2147483648 ≤ tc j ∧ tc j < 2147483648
theorem gC_r {tc : Int → Int} (h : RgT tc) (b s j : Int) : -2147483648 ≤ gC tc b s j ∧ gC tc b s j < 2147483648 := by
  unfold gC
  by_cases q : 0 ≤ j ∧ j < s
  · rw [if_pos q]; exact h _
  · rw [if_neg q]; omega
def TokC (tl tm ts : Int → Int) : Prop := ∀ k, 0 ≤ k → k < 4 → (tm k = 0 ∨ tm k = 1) ∧ (0 ≤ ts k ∧ ts k ≤ 60) ∧ (0 ≤ tl k ∧ tl k ≤ 2)
def TokM (tl ts : Int → Int) : Prop := ∀ k, 0 ≤ k → k < 4 → (0 ≤ ts k ∧ ts k ≤ 60) ∧ (-4 ≤ tl k ∧ tl k ≤ 2)
def shOk (k q nn : Int) : Prop := (0 ≤ k ∧ k ≤ 3) ∧ (0 ≤ q ∧ q ≤ 2) ∧ nn ≤ 60
def shNo (k q nn r : Int) : Prop := (¬ shOk k q nn ∧ r = -1) ∨ (shOk k q nn ∧ nn < 0 ∧ r = -14)
def shYes (k q nn r : Int) : Prop := shOk k q nn ∧ 0 ≤ nn ∧ r = 1
def fill0 (tc : Int → Int) (b n : Int) (tc2 : Int → Int) : Prop := (∀ j, b ≤ j → j < b + n → tc2 j = 0) ∧ ∀ j, ¬ (b ≤ j ∧ j < b + n) → tc2 j = tc j
theorem fill0_0 (tc : Int → Int) (b : Int) : fill0 tc b 0 tc := ⟨fun j j0 j1 => by omega, fun j _ => rfl⟩
theorem fill0_s {tc tc1 : Int → Int} {b n : Int} (hn : 0 ≤ n) (h : fill0 tc b n tc1) : fill0 tc b (n + 1) (zU tc1 (b + n) 0) := by
  refine ⟨fun j j0 j1 => ?_, fun j j0 => ?_⟩
  · by_cases q : j = b + n
    · rw [q, zU_s]
    · rw [zU_n _ _ q]; exact h.1 j j0 (by omega)
  · rw [zU_n _ _ (by omega)]; exact h.2 j (by omega)
def layNo (mk : Prop) (s k i r : Int) : Prop := (¬ (0 ≤ k ∧ k ≤ 3) ∧ r = -1) ∨ ((0 ≤ k ∧ k ≤ 3) ∧ ¬ mk ∧ r = -11) ∨ ((0 ≤ k ∧ k ≤ 3) ∧ mk ∧ ¬ (0 ≤ i ∧ i < s) ∧ r = -12)
def layYes (mk : Prop) (s k i r : Int) : Prop := (0 ≤ k ∧ k ≤ 3) ∧ mk ∧ (0 ≤ i ∧ i < s) ∧ r = 1
-- scanning
def sX (xs g : Int → Int) (sz f : Int) : Nat → Int → Int
  | 0 => xs
  | n + 1 => zU (sX xs g sz f n) (sz + n) (g (f + 3 * n))
def sL (lf g : Int → Int) (sz f : Int) : Nat → Int → Int
  | 0 => lf
  | n + 1 => zU (sL lf g sz f n) (sz + n) (if g (f + 3 * n + 2) = 0 ∨ sz + n ≤ 0 then 0 else 1)
def wi (g : Int → Int) (f i : Int) : Prop := (-100 ≤ g (f + 3 * i) ∧ g (f + 3 * i) ≤ 100) ∧ (-100 ≤ g (f + 3 * i + 1) ∧ g (f + 3 * i + 1) ≤ 100)
def ix (s f i : Int) : Prop := 0 ≤ f ∧ f + 3 * i + 3 ≤ s
def aOk (g : Int → Int) (sz s f : Int) (i : Nat) : Prop := ix s f i ∧ wi g f i ∧ sz + i < 30
def spR (x1 y1 l1 g : Int → Int) (z1 s f i : Int) (x2 y2 l2 : Int → Int) (z2 r : Int) : Prop :=
  (((¬ ix s f i ∧ r = -12) ∨ (ix s f i ∧ ¬ wi g f i ∧ r = -21) ∨ (ix s f i ∧ wi g f i ∧ 30 ≤ z1 ∧ r = -23)) ∧ x2 = x1 ∧ y2 = y1 ∧ l2 = l1 ∧ z2 = z1) ∨
  ((ix s f i ∧ wi g f i ∧ z1 < 30 ∧ r = z1 + 1) ∧ x2 = zU x1 z1 (g (f + 3 * i)) ∧ y2 = zU y1 z1 (g (f + 3 * i + 1)) ∧ l2 = zU l1 z1 (if g (f + 3 * i + 2) = 0 ∨ z1 ≤ 0 then 0 else 1) ∧ z2 = z1 + 1)
theorem sp_n {x1 y1 l1 g : Int → Int} {z1 s f i li : Int} {x2 y2 l2 : Int → Int} {z2 r : Int} (hz : 0 ≤ z1) (h0 : ix s f i) (h : addP x1 y1 l1 z1 (g (f + 3 * i)) (g (f + 3 * i + 1)) li x2 y2 l2 z2 r) (hr : r < 0) : spR x1 y1 l1 g z1 s f i x2 y2 l2 z2 (-20 + r) := by
  rcases h with ⟨a, b, c⟩ | ⟨a, b, c, d⟩ | ⟨a, b, c, d⟩
  · exact Or.inl ⟨Or.inr (Or.inl ⟨h0, a, by omega⟩), c⟩
  · exact Or.inl ⟨Or.inr (Or.inr ⟨h0, a, b, by omega⟩), d⟩
  · omega
theorem sp_y {x1 y1 l1 g : Int → Int} {z1 s f i li : Int} {x2 y2 l2 : Int → Int} {z2 r : Int} (h0 : ix s f i) (h : addP x1 y1 l1 z1 (g (f + 3 * i)) (g (f + 3 * i + 1)) li x2 y2 l2 z2 r) (hr : ¬ r < 0) (hl : (li = 0 ∧ g (f + 3 * i + 2) = 0) ∨ (li = 1 ∧ ¬ g (f + 3 * i + 2) = 0)) : spR x1 y1 l1 g z1 s f i x2 y2 l2 z2 r := by
  rcases h with ⟨a, b, c⟩ | ⟨a, b, c, d⟩ | ⟨a, b, c, d1, d2, d3, d4⟩
  · omega
  · omega
  · refine Or.inr ⟨⟨h0, a, b, c⟩, d1, d2, ?_, d4⟩
    rw [d3]
    rcases hl with ⟨q, t⟩ | ⟨q, t⟩
    · rw [if_pos (Or.inl q), if_pos (Or.inl t)]
    · by_cases u : z1 ≤ 0
      · rw [if_pos (Or.inr u), if_pos (Or.inr u)]
      · rw [if_neg (by omega), if_neg (by omega)]
def scI (xs ys lf g : Int → Int) (sz s f : Int) (n : Nat) (x1 y1 l1 : Int → Int) (z1 : Int) : Prop := (∀ j : Nat, j < n → aOk g sz s f j) ∧ x1 = sX xs g sz f n ∧ y1 = sX ys g sz (f + 1) n ∧ l1 = sL lf g sz f n ∧ z1 = sz + n
theorem scI_0 (xs ys lf g : Int → Int) (sz s f : Int) : scI xs ys lf g sz s f 0 xs ys lf sz := ⟨fun j h => absurd h (Nat.not_lt_zero _), rfl, rfl, rfl, (Int.add_zero _).symm⟩
theorem scI_s {xs ys lf g : Int → Int} {sz s f : Int} {n : Nat} {x1 y1 l1 : Int → Int} {z1 : Int} {x2 y2 l2 : Int → Int} {z2 r : Int} (h : scI xs ys lf g sz s f n x1 y1 l1 z1) (h2 : spR x1 y1 l1 g z1 s f n x2 y2 l2 z2 r) (hr : ¬ r < 0) : scI xs ys lf g sz s f (n + 1) x2 y2 l2 z2 := by
  obtain ⟨a, b, c, d, e⟩ := h
  rcases h2 with ⟨q, _⟩ | ⟨⟨q1, q2, q3, q4⟩, t1, t2, t3, t4⟩
  · omega
  · subst e
    refine ⟨fun j j0 => ?_, ?_, ?_, ?_, by omega⟩
    · by_cases w : j = n
      · rw [w]; exact ⟨q1, q2, q3⟩
      · exact a j (by omega)
    · rw [t1, b]; rfl
    · rw [t2, c, sX, show f + 1 + 3 * (n : Int) = f + 3 * n + 1 by omega]
    · rw [t3, d]; rfl
theorem spR_z {x1 y1 l1 g : Int → Int} {z1 s f i : Int} {x2 y2 l2 : Int → Int} {z2 r : Int} (h : spR x1 y1 l1 g z1 s f i x2 y2 l2 z2 r) (hz : 0 ≤ z1 ∧ z1 ≤ 30) : (0 ≤ z2 ∧ z2 ≤ 30) ∧ (-23 ≤ r ∧ r ≤ 30) := by
  rcases h with ⟨q, t⟩ | ⟨q, t⟩ <;> omega
theorem spR_n {x1 y1 l1 g : Int → Int} {z1 s f i : Int} {x2 y2 l2 : Int → Int} {z2 r : Int} (h : spR x1 y1 l1 g z1 s f i x2 y2 l2 z2 r) (hz : 0 ≤ z1) (hr : r < 0) : x2 = x1 ∧ y2 = y1 ∧ l2 = l1 ∧ z2 = z1 := by
  rcases h with ⟨q, t⟩ | ⟨q, t⟩
  · exact t
  · omega
def scF (xs ys lf g : Int → Int) (sz s f nn : Int) (x1 y1 l1 : Int → Int) (r : Int) : Prop := ∃ q : Nat, ∃ z1, scI xs ys lf g sz s f q x1 y1 l1 z1 ∧ (q : Int) < nn ∧ r < 0 ∧ spR x1 y1 l1 g z1 s f q x1 y1 l1 z1 r
theorem scF_of {xs ys lf g : Int → Int} {sz s f nn : Int} {n : Nat} {x1 y1 l1 : Int → Int} {z1 : Int} {x2 y2 l2 : Int → Int} {z2 r : Int} (hz : 0 ≤ z1) (hn : (n : Int) < nn) (h : scI xs ys lf g sz s f n x1 y1 l1 z1) (h2 : spR x1 y1 l1 g z1 s f n x2 y2 l2 z2 r) (hr : r < 0) : scF xs ys lf g sz s f nn x2 y2 l2 r := by
  obtain ⟨e1, e2, e3, e4⟩ := spR_n h2 hz hr
  subst e1 e2 e3 e4
  exact ⟨n, _, h, hn, hr, h2⟩
def scE (xs ys lf g : Int → Int) (sz s f nn : Int) (x2 y2 l2 : Int → Int) (sz2 r : Int) : Prop := (∃ n : Nat, (n : Int) = nn ∧ scI xs ys lf g sz s f n x2 y2 l2 sz2 ∧ r = sz2) ∨ (scF xs ys lf g sz s f nn x2 y2 l2 r ∧ sz2 = sz)
theorem sp_bad {x1 y1 l1 g : Int → Int} {sz z1 s f : Int} {q : Nat} {r : Int} (hz : 0 ≤ z1) (e : z1 = sz + q) (hr : r < 0) (h : spR x1 y1 l1 g z1 s f q x1 y1 l1 z1 r) : ¬ aOk g sz s f q := by
  intro a
  rcases h with ⟨h, _⟩ | ⟨h, _⟩
  · rcases h with h | h | h
    · exact h.1 a.1
    · exact h.2.1 a.2.1
    · have := a.2.2; omega
  · omega
theorem scE_one {xs ys lf g : Int → Int} {sz s f nn : Int} {x2 y2 l2 : Int → Int} {sz2 r : Int} {x3 y3 l3 : Int → Int} {sz3 r3 : Int} (hz : 0 ≤ sz) (h : scE xs ys lf g sz s f nn x2 y2 l2 sz2 r) (h3 : scE xs ys lf g sz s f nn x3 y3 l3 sz3 r3) : x3 = x2 ∧ y3 = y2 ∧ l3 = l2 ∧ sz3 = sz2 ∧ r3 = r := by
  rcases h with ⟨n, a, ⟨b1, b2, b3, b4, b5⟩, c⟩ | ⟨⟨n, z1, ⟨b1, b2, b3, b4, b5⟩, c1, c2, c3⟩, d⟩ <;> rcases h3 with ⟨m, a3, ⟨e1, e2, e3, e4, e5⟩, c4⟩ | ⟨⟨m, z3, ⟨e1, e2, e3, e4, e5⟩, f1, f2, f3⟩, d3⟩
  · have e : m = n := by omega
    subst e
    exact ⟨e2.trans b2.symm, e3.trans b3.symm, e4.trans b4.symm, by omega, by omega⟩
  · exact absurd (b1 m (by omega)) (sp_bad (by omega) e5 f2 f3)
  · exact absurd (e1 n (by omega)) (sp_bad (by omega) b5 c2 c3)
  · have e : m = n := by
      rcases Nat.lt_trichotomy m n with q | q | q
      · exact absurd (b1 m q) (sp_bad (by omega) e5 f2 f3)
      · exact q
      · exact absurd (e1 n q) (sp_bad (by omega) b5 c2 c3)
    subst e
    refine ⟨e2.trans b2.symm, e3.trans b3.symm, e4.trans b4.symm, by omega, ?_⟩
    have ez : z3 = z1 := by omega
    subst ez
    rcases c3 with ⟨c3, _⟩ | ⟨c3, _⟩
    · rcases f3 with ⟨f3, _⟩ | ⟨f3, _⟩
      · rcases c3 with c3 | c3 | c3 <;> rcases f3 with f3 | f3 | f3 <;> first | omega | exact absurd f3.1 c3.1 | exact absurd c3.1 f3.1 | exact absurd f3.2.1 c3.2.1 | exact absurd c3.2.1 f3.2.1
      · omega
    · omega
def scOk (k q nn : Int) : Prop := (0 ≤ k ∧ k ≤ 3) ∧ (0 ≤ q ∧ q ≤ 2) ∧ (0 ≤ nn ∧ nn ≤ 20)
def scanNo (mk : Prop) (ql k q nn r : Int) : Prop := (¬ scOk k q nn ∧ r = -1) ∨ (scOk k q nn ∧ ¬ mk ∧ r = -11) ∨ (scOk k q nn ∧ mk ∧ ¬ ql = q ∧ r = -13)
def scanYes (mk : Prop) (ql k q nn : Int) : Prop := scOk k q nn ∧ mk ∧ ql = q
def scanR (mk : Prop) (ql : Int) (xs ys lf g : Int → Int) (sz s k q f nn : Int) (x2 y2 l2 : Int → Int) (sz2 r : Int) : Prop := (scanNo mk ql k q nn r ∧ x2 = xs ∧ y2 = ys ∧ l2 = lf ∧ sz2 = sz) ∨ (scanYes mk ql k q nn ∧ scE xs ys lf g sz s f nn x2 y2 l2 sz2 r)
def countR (sz mn cn ln an w r : Int) : Prop := (w = 0 ∧ r = sz) ∨ (w = 1 ∧ r = mn) ∨ (w = 2 ∧ r = cn) ∨ (w = 3 ∧ r = ln) ∨ (w = 4 ∧ r = an) ∨ (¬ (0 ≤ w ∧ w ≤ 4) ∧ r = -1)

set_option maxHeartbeats 4000000 in
set_option maxRecDepth 100000 in
theorem c_X5_isNumber (l : Launch) (D : va_G) (cI cZ : ClassId) (k : Int) (sz0 : Nat) (r_k : (-2147483648 ≤ k ∧ k < 2147483648)) : Met l yX5_isNumber wsX5_isNumber ({ frames := 0, cells := 0, slots := 0, locals := 0 } : Room) (zPc D cI cZ [.int (iI k)] ([]) sz0) (zQi D cI cZ ([]) sz0 (fun (r : Int) (u : Unit) => zB r (0 ≤ k ∧ k ≤ 3)) (fun (u : Unit) => [])) 0 0 (va_A ([]) sz0) := by
  refine z_ofI (maxL := 1) (plainFor_of_name (by decide)) rfl (Nat.le_of_ble_eq_true rfl) (Or.inr ⟨rfl, fun z u h => zB_01 h⟩) ?_
  intro p e s m below meth c A ls Q F hK hW hA hl hret
  have hl : lv_has ls 1 [(0, .int (iI k))] := hl
  refine z_iloadn F (pc := 0) dX5_isNumber_0 rfl (lv_at hl 0 rfl) ?_
  refine z_if_lt F (pc := 1) 13 dX5_isNumber_1 (by decide) (by omega) (fun c_1 => ?_) (fun c_1 => ?_)
  · skip
    refine z_iconst F (pc := 13) (0) dX5_isNumber_13 ?_
    exact hret _ _ _ _ 0 () dX5_isNumber_14 (by omega) (by first | exact zB_1 (by omega) | exact zB_0 (by omega)) hW
  · skip
    refine z_iloadn F (pc := 4) dX5_isNumber_4 rfl (lv_at hl 0 rfl) ?_
    refine z_iconst F (pc := 5) (4) dX5_isNumber_5 ?_
    refine z_icmp_ge F (pc := 6) 13 dX5_isNumber_6 (by decide) (by omega) (fun c_6 => ?_) (fun c_6 => ?_)
    · skip
      refine z_iconst F (pc := 13) (0) dX5_isNumber_13 ?_
      exact hret _ _ _ _ 0 () dX5_isNumber_14 (by omega) (by first | exact zB_1 (by omega) | exact zB_0 (by omega)) hW
    · skip
      refine z_iconst F (pc := 9) (1) dX5_isNumber_9 ?_
      refine z_goto F (pc := 10) 14 dX5_isNumber_10 (by decide) ?_
      exact hret _ _ _ _ 1 () dX5_isNumber_14 (by omega) (by first | exact zB_1 (by omega) | exact zB_0 (by omega)) hW

set_option maxHeartbeats 4000000 in
set_option maxRecDepth 100000 in
theorem c_X5_isLane (l : Launch) (D : va_G) (cI cZ : ClassId) (q : Int) (sz0 : Nat) (r_q : (-2147483648 ≤ q ∧ q < 2147483648)) : Met l yX5_isLane wsX5_isLane ({ frames := 0, cells := 0, slots := 0, locals := 0 } : Room) (zPc D cI cZ [.int (iI q)] ([]) sz0) (zQi D cI cZ ([]) sz0 (fun (r : Int) (u : Unit) => zB r (0 ≤ q ∧ q ≤ 2)) (fun (u : Unit) => [])) 0 0 (va_A ([]) sz0) := by
  refine z_ofI (maxL := 1) (plainFor_of_name (by decide)) rfl (Nat.le_of_ble_eq_true rfl) (Or.inr ⟨rfl, fun z u h => zB_01 h⟩) ?_
  intro p e s m below meth c A ls Q F hK hW hA hl hret
  have hl : lv_has ls 1 [(0, .int (iI q))] := hl
  refine z_iloadn F (pc := 0) dX5_isLane_0 rfl (lv_at hl 0 rfl) ?_
  refine z_if_lt F (pc := 1) 13 dX5_isLane_1 (by decide) (by omega) (fun c_1 => ?_) (fun c_1 => ?_)
  · skip
    refine z_iconst F (pc := 13) (0) dX5_isLane_13 ?_
    exact hret _ _ _ _ 0 () dX5_isLane_14 (by omega) (by first | exact zB_1 (by omega) | exact zB_0 (by omega)) hW
  · skip
    refine z_iloadn F (pc := 4) dX5_isLane_4 rfl (lv_at hl 0 rfl) ?_
    refine z_iconst F (pc := 5) (2) dX5_isLane_5 ?_
    refine z_icmp_gt F (pc := 6) 13 dX5_isLane_6 (by decide) (by omega) (fun c_6 => ?_) (fun c_6 => ?_)
    · skip
      refine z_iconst F (pc := 13) (0) dX5_isLane_13 ?_
      exact hret _ _ _ _ 0 () dX5_isLane_14 (by omega) (by first | exact zB_1 (by omega) | exact zB_0 (by omega)) hW
    · skip
      refine z_iconst F (pc := 9) (1) dX5_isLane_9 ?_
      refine z_goto F (pc := 10) 14 dX5_isLane_10 (by decide) ?_
      exact hret _ _ _ _ 1 () dX5_isLane_14 (by omega) (by first | exact zB_1 (by omega) | exact zB_0 (by omega)) hW

set_option maxHeartbeats 4000000 in
set_option maxRecDepth 100000 in
theorem c_X5_isNothing (l : Launch) (D : va_G) (cI cZ : ClassId) (aT : Nat → Nat) (tl tm ts tc : Int → Int) (k : Int) (sz0 : Nat) (r_k : (-2147483648 ≤ k ∧ k < 2147483648)) (hk : 0 ≤ k ∧ k ≤ 3) (ht : TokC tl tm ts) : Met l yX5_isNothing wsX5_isNothing ({ frames := 0, cells := 0, slots := 0, locals := 0 } : Room) (zPc D cI cZ [.ref (aT 0), .int (iI k)] (wT cI cZ aT tl tm ts tc) sz0) (zQi D cI cZ (wT cI cZ aT tl tm ts tc) sz0 (fun (r : Int) (u : Unit) => zB r (tm k = 0)) (fun (u : Unit) => wT cI cZ aT tl tm ts tc)) 0 0 (va_A (wT cI cZ aT tl tm ts tc) sz0) := by
  have h9k := ht k hk.1 (by omega)
  refine z_ofI (maxL := 2) (plainFor_of_name (by decide)) rfl (Nat.le_of_ble_eq_true rfl) (Or.inr ⟨rfl, fun z u h => zB_01 h⟩) ?_
  intro p e s m below meth c A ls Q F hK hW hA hl hret
  have hl : lv_has ls 2 [(0, .ref (aT 0)), (1, .int (iI k))] := hl
  have inX5 : ∀ w ∈ u_ws RX5 TX5 4, w ∈ wsX5_isNothing := fun _ h => List.mem_cons_of_mem _ (List.mem_append_right _ h)
  refine z_aloadn F (pc := 0) dX5_isNothing_0 rfl (lv_at hl 0 rfl) ?_
  refine z_get F (pc := 1) (C := RX5) (T := TX5) (N := 4) (ci := 5) inX5 hK hW 0 1 rfl rfl (by decide) rfl (List.mem_of_getElem? (i := 1) rfl) (v := .ref (aT 2)) rfl dX5_isNothing_1 ?_
  refine z_iloadn F (pc := 4) dX5_isNothing_4 rfl (lv_at hl 1 rfl) ?_
  refine z_zald F (pc := 5) hK hW 2 rfl (by decide) dX5_isNothing_5 (by omega) ?_
  refine z_if_ne F (pc := 6) 13 dX5_isNothing_6 (by decide) (by omega) (fun c_6 => ?_) (fun c_6 => ?_)
  · skip
    refine z_iconst F (pc := 13) (0) dX5_isNothing_13 ?_
    exact hret _ _ _ _ 0 () dX5_isNothing_14 (by omega) (by first | exact zB_1 (by omega) | exact zB_0 (by omega)) hW
  · skip
    refine z_iconst F (pc := 9) (1) dX5_isNothing_9 ?_
    refine z_goto F (pc := 10) 14 dX5_isNothing_10 (by decide) ?_
    exact hret _ _ _ _ 1 () dX5_isNothing_14 (by omega) (by first | exact zB_1 (by omega) | exact zB_0 (by omega)) hW

set_option maxHeartbeats 4000000 in
set_option maxRecDepth 100000 in
theorem c_X5_makeNew (l : Launch) (D : va_G) (cI cZ : ClassId) (aT : Nat → Nat) (tl tm ts tc : Int → Int) (k q nn : Int) (sz0 : Nat) (r_k : (-2147483648 ≤ k ∧ k < 2147483648)) (r_q : (-2147483648 ≤ q ∧ q < 2147483648)) (r_nn : (-2147483648 ≤ nn ∧ nn < 2147483648)) (hk : 0 ≤ k ∧ k ≤ 3) (hn : 0 ≤ nn ∧ nn ≤ 60) : Met l yX5_makeNew wsX5_makeNew ({ frames := 0, cells := 0, slots := 0, locals := 0 } : Room) (zPc D cI cZ [.ref (aT 0), .int (iI k), .int (iI q), .int (iI nn)] (wT cI cZ aT tl tm ts tc) sz0) (zQv D cI cZ (wT cI cZ aT tl tm ts tc) sz0 (fun (u : (Int → Int) × (Int → Int) × (Int → Int) × (Int → Int)) => u.1 = zU tl k q ∧ u.2.1 = zU tm k 1 ∧ u.2.2.1 = zU ts k nn ∧ fill0 tc (60 * k) nn u.2.2.2) (fun (u : (Int → Int) × (Int → Int) × (Int → Int) × (Int → Int)) => wT cI cZ aT u.1 u.2.1 u.2.2.1 u.2.2.2)) 0 0 (va_A (wT cI cZ aT tl tm ts tc) sz0) := by
  refine z_ofV (maxL := 5) (plainFor_of_name (by decide)) rfl (Nat.le_of_ble_eq_true rfl) ?_
  intro p e s m below meth c A ls Q F hK hW hA hl hret
  have hl : lv_has ls 5 [(0, .ref (aT 0)), (1, .int (iI k)), (2, .int (iI q)), (3, .int (iI nn))] := hl
  have inX5 : ∀ w ∈ u_ws RX5 TX5 4, w ∈ wsX5_makeNew := fun _ h => List.mem_cons_of_mem _ (List.mem_append_right _ h)
  refine z_aloadn F (pc := 0) dX5_makeNew_0 rfl (lv_at hl 0 rfl) ?_
  refine z_get F (pc := 1) (C := RX5) (T := TX5) (N := 4) (ci := 5) inX5 hK hW 0 1 rfl rfl (by decide) rfl (List.mem_of_getElem? (i := 1) rfl) (v := .ref (aT 2)) rfl dX5_makeNew_1 ?_
  refine z_iloadn F (pc := 4) dX5_makeNew_4 rfl (lv_at hl 1 rfl) ?_
  refine z_iconst F (pc := 5) (1) dX5_makeNew_5 ?_
  refine z_zast F (pc := 6) hK hW (ws' := wT cI cZ aT tl (zU tm k 1) ts tc) 2 rfl (by decide) dX5_makeNew_6 (by omega) (by omega) rfl (fun H locs hW => ?_)
  refine z_aloadn F (pc := 7) dX5_makeNew_7 rfl (lv_at hl 0 rfl) ?_
  refine z_get F (pc := 8) (C := RX5) (T := TX5) (N := 4) (ci := 5) inX5 hK hW 0 0 rfl rfl (by decide) rfl (List.mem_of_getElem? (i := 2) rfl) (v := .ref (aT 1)) rfl dX5_makeNew_8 ?_
  refine z_iloadn F (pc := 11) dX5_makeNew_11 rfl (lv_at hl 1 rfl) ?_
  refine z_iloadn F (pc := 12) dX5_makeNew_12 rfl (lv_at hl 2 rfl) ?_
  refine z_iast F (pc := 13) hK hW (ws' := wT cI cZ aT (zU tl k q) (zU tm k 1) ts tc) 1 rfl (by decide) dX5_makeNew_13 (by omega) rfl (fun H locs hW => ?_)
  refine z_aloadn F (pc := 14) dX5_makeNew_14 rfl (lv_at hl 0 rfl) ?_
  refine z_get F (pc := 15) (C := RX5) (T := TX5) (N := 4) (ci := 5) inX5 hK hW 0 2 rfl rfl (by decide) rfl (List.mem_of_getElem? (i := 3) rfl) (v := .ref (aT 3)) rfl dX5_makeNew_15 ?_
  refine z_iloadn F (pc := 18) dX5_makeNew_18 rfl (lv_at hl 1 rfl) ?_
  refine z_iloadn F (pc := 19) dX5_makeNew_19 rfl (lv_at hl 3 rfl) ?_
  refine z_iast F (pc := 20) hK hW (ws' := wT cI cZ aT (zU tl k q) (zU tm k 1) (zU ts k nn) tc) 3 rfl (by decide) dX5_makeNew_20 (by omega) rfl (fun H locs hW => ?_)
  refine z_iconst F (pc := 21) (0) dX5_makeNew_21 ?_
  refine z_istore F (pc := 22) hl (lv' := [(4, .int (iI 0)), (0, .ref (aT 0)), (1, .int (iI k)), (2, .int (iI q)), (3, .int (iI nn))]) dX5_makeNew_22 (by decide) rfl (fun ls hl => ?_)
  have cut_24 : ∀ (fuel : Nat) (i : Int) (t1 : Int → Int) (H : Heap) (locs : List Loc) (ls : Array Slot), (nn - i).toNat < fuel → (0 ≤ i ∧ i ≤ nn) → (fill0 tc (60 * k) i t1) → lv_has ls 5 [(4, .int (iI i)), (0, .ref (aT 0)), (1, .int (iI k)), (2, .int (iI q)), (3, .int (iI nn))] → zW D A s.heap H locs (wT cI cZ aT (zU tl k q) (zU tm k 1) (zU ts k nn) t1) → W p l e ({ frames := 0, cells := 0, slots := 0, locals := 0 } : Room) s m ([.ref (aT 0), .int (iI k), .int (iI q), .int (iI nn)] : List Value).toArray below meth c H locs 0 0 Q (F0 m 24 ls []) := by
    intro fuel
    induction fuel with
    | zero => intro i t1 H locs ls hm; exact absurd hm (Nat.not_lt_zero _)
    | succ fuel ih_24 =>
      intro i t1 H locs ls hm_24 g1 g2 hl hW
      refine z_iload F (pc := 24) dX5_makeNew_24 (lv_at hl 0 rfl) ?_
      refine z_iloadn F (pc := 26) dX5_makeNew_26 rfl (lv_at hl 4 rfl) ?_
      refine z_icmp_ge F (pc := 27) 49 dX5_makeNew_27 (by decide) (by omega) (fun c_27 => ?_) (fun c_27 => ?_)
      · skip
        exact hret _ _ _ _ ((zU tl k q), (zU tm k 1), (zU ts k nn), t1) dX5_makeNew_49 (by (try dsimp only) <;> (exact ⟨rfl, rfl, rfl, by rw [show i = nn by omega] at g2; exact g2⟩)) hW
      · skip
        refine z_aloadn F (pc := 30) dX5_makeNew_30 rfl (lv_at hl 1 rfl) ?_
        refine z_get F (pc := 31) (C := RX5) (T := TX5) (N := 4) (ci := 5) inX5 hK hW 0 3 rfl rfl (by decide) rfl (List.mem_of_getElem? (i := 4) rfl) (v := .ref (aT 4)) rfl dX5_makeNew_31 ?_
        refine z_iloadn F (pc := 34) dX5_makeNew_34 rfl (lv_at hl 2 rfl) ?_
        refine z_bipush F (pc := 35) (60) (by decide +kernel) dX5_makeNew_35 ?_
        refine z_imul F (pc := 37) dX5_makeNew_37 ?_
        refine z_iload F (pc := 38) dX5_makeNew_38 (lv_at hl 0 rfl) ?_
        refine z_iadd F (pc := 40) dX5_makeNew_40 ?_
        refine z_iconst F (pc := 41) (0) dX5_makeNew_41 ?_
        refine z_iast F (pc := 42) hK hW (ws' := wT cI cZ aT (zU tl k q) (zU tm k 1) (zU ts k nn) (zU t1 ((k * 60) + i) 0)) 4 rfl (by decide) dX5_makeNew_42 (by omega) rfl (fun H locs hW => ?_)
        refine z_iinc F (pc := 43) hl (lv' := [(4, .int (iI (i + 1))), (0, .ref (aT 0)), (1, .int (iI k)), (2, .int (iI q)), (3, .int (iI nn))]) dX5_makeNew_43 (k := 0) rfl (by decide) rfl (fun ls hl => ?_)
        refine z_goto F (pc := 46) 24 dX5_makeNew_46 (by decide) ?_
        exact ih_24 (i + 1) (zU t1 ((k * 60) + i) 0) _ _ _ (by omega) (by omega) (by rw [Int.mul_comm k 60]; exact fill0_s g1.1 g2) (lv_sub hl [0, 1, 2, 3, 4] rfl) hW
  exact cut_24 _ 0 tc _ _ _ (Nat.lt_succ_self _) (by omega) (by exact fill0_0 _ _) (lv_sub hl [0, 1, 2, 3, 4] rfl) hW

set_option maxHeartbeats 4000000 in
set_option maxRecDepth 100000 in
theorem c_X5_hasCells (l : Launch) (D : va_G) (cI cZ : ClassId) (aT : Nat → Nat) (tl tm ts tc : Int → Int) (k f nn : Int) (sz0 : Nat) (r_k : (-2147483648 ≤ k ∧ k < 2147483648)) (r_f : (-2147483648 ≤ f ∧ f < 2147483648)) (r_nn : (-2147483648 ≤ nn ∧ nn < 2147483648)) (hk : 0 ≤ k ∧ k ≤ 3) (hn : 1 ≤ nn ∧ nn ≤ 63) (ht : TokC tl tm ts) : Met l yX5_hasCells wsX5_hasCells ({ frames := 0, cells := 0, slots := 0, locals := 0 } : Room) (zPc D cI cZ [.ref (aT 0), .int (iI k), .int (iI f), .int (iI nn)] (wT cI cZ aT tl tm ts tc) sz0) (zQi D cI cZ (wT cI cZ aT tl tm ts tc) sz0 (fun (r : Int) (u : Unit) => zB r (0 ≤ f ∧ f + nn ≤ ts k)) (fun (u : Unit) => wT cI cZ aT tl tm ts tc)) 0 0 (va_A (wT cI cZ aT tl tm ts tc) sz0) := by
  have h9k := ht k hk.1 (by omega)
  refine z_ofI (maxL := 4) (plainFor_of_name (by decide)) rfl (Nat.le_of_ble_eq_true rfl) (Or.inr ⟨rfl, fun z u h => zB_01 h⟩) ?_
  intro p e s m below meth c A ls Q F hK hW hA hl hret
  have hl : lv_has ls 4 [(0, .ref (aT 0)), (1, .int (iI k)), (2, .int (iI f)), (3, .int (iI nn))] := hl
  have inX5 : ∀ w ∈ u_ws RX5 TX5 4, w ∈ wsX5_hasCells := fun _ h => List.mem_cons_of_mem _ (List.mem_append_right _ h)
  refine z_iloadn F (pc := 0) dX5_hasCells_0 rfl (lv_at hl 2 rfl) ?_
  refine z_if_lt F (pc := 1) 20 dX5_hasCells_1 (by decide) (by omega) (fun c_1 => ?_) (fun c_1 => ?_)
  · skip
    refine z_iconst F (pc := 20) (0) dX5_hasCells_20 ?_
    exact hret _ _ _ _ 0 () dX5_hasCells_21 (by omega) (by first | exact zB_1 (by omega) | exact zB_0 (by omega)) hW
  · skip
    refine z_iloadn F (pc := 4) dX5_hasCells_4 rfl (lv_at hl 2 rfl) ?_
    refine z_aloadn F (pc := 5) dX5_hasCells_5 rfl (lv_at hl 0 rfl) ?_
    refine z_get F (pc := 6) (C := RX5) (T := TX5) (N := 4) (ci := 5) inX5 hK hW 0 2 rfl rfl (by decide) rfl (List.mem_of_getElem? (i := 1) rfl) (v := .ref (aT 3)) rfl dX5_hasCells_6 ?_
    refine z_iloadn F (pc := 9) dX5_hasCells_9 rfl (lv_at hl 1 rfl) ?_
    refine z_iald F (pc := 10) hK hW 3 rfl (by decide) dX5_hasCells_10 (by omega) ?_
    refine z_iloadn F (pc := 11) dX5_hasCells_11 rfl (lv_at hl 3 rfl) ?_
    refine z_isub F (pc := 12) dX5_hasCells_12 ?_
    refine z_icmp_gt F (pc := 13) 20 dX5_hasCells_13 (by decide) (by omega) (fun c_13 => ?_) (fun c_13 => ?_)
    · skip
      refine z_iconst F (pc := 20) (0) dX5_hasCells_20 ?_
      exact hret _ _ _ _ 0 () dX5_hasCells_21 (by omega) (by first | exact zB_1 (by omega) | exact zB_0 (by omega)) hW
    · skip
      refine z_iconst F (pc := 16) (1) dX5_hasCells_16 ?_
      refine z_goto F (pc := 17) 21 dX5_hasCells_17 (by decide) ?_
      exact hret _ _ _ _ 1 () dX5_hasCells_21 (by omega) (by first | exact zB_1 (by omega) | exact zB_0 (by omega)) hW

set_option maxHeartbeats 4000000 in
set_option maxRecDepth 100000 in
theorem c_X5_cell (l : Launch) (D : va_G) (cI cZ : ClassId) (aT : Nat → Nat) (tl tm ts tc : Int → Int) (k i : Int) (sz0 : Nat) (r_k : (-2147483648 ≤ k ∧ k < 2147483648)) (r_i : (-2147483648 ≤ i ∧ i < 2147483648)) (hk : 0 ≤ k ∧ k ≤ 3) (hi : 0 ≤ i ∧ i < ts k) (ht : TokC tl tm ts) (hg : RgT tc) : Met l yX5_cell wsX5_cell ({ frames := 0, cells := 0, slots := 0, locals := 0 } : Room) (zPc D cI cZ [.ref (aT 0), .int (iI k), .int (iI i)] (wT cI cZ aT tl tm ts tc) sz0) (zQi D cI cZ (wT cI cZ aT tl tm ts tc) sz0 (fun (r : Int) (u : Unit) => r = gC tc (60 * k) (ts k) i) (fun (u : Unit) => wT cI cZ aT tl tm ts tc)) 0 0 (va_A (wT cI cZ aT tl tm ts tc) sz0) := by
  have h9k := ht k hk.1 (by omega)
  have hr9 := gC_r hg (60 * k) (ts k) i
  refine z_ofI (maxL := 3) (plainFor_of_name (by decide)) rfl (Nat.le_of_ble_eq_true rfl) (Or.inl rfl) ?_
  intro p e s m below meth c A ls Q F hK hW hA hl hret
  have hl : lv_has ls 3 [(0, .ref (aT 0)), (1, .int (iI k)), (2, .int (iI i))] := hl
  have inX5 : ∀ w ∈ u_ws RX5 TX5 4, w ∈ wsX5_cell := fun _ h => List.mem_cons_of_mem _ (List.mem_append_right _ h)
  refine z_aloadn F (pc := 0) dX5_cell_0 rfl (lv_at hl 0 rfl) ?_
  refine z_get F (pc := 1) (C := RX5) (T := TX5) (N := 4) (ci := 5) inX5 hK hW 0 3 rfl rfl (by decide) rfl (List.mem_of_getElem? (i := 1) rfl) (v := .ref (aT 4)) rfl dX5_cell_1 ?_
  refine z_iloadn F (pc := 4) dX5_cell_4 rfl (lv_at hl 1 rfl) ?_
  refine z_bipush F (pc := 5) (60) (by decide +kernel) dX5_cell_5 ?_
  refine z_imul F (pc := 7) dX5_cell_7 ?_
  refine z_iloadn F (pc := 8) dX5_cell_8 rfl (lv_at hl 2 rfl) ?_
  refine z_iadd F (pc := 9) dX5_cell_9 ?_
  refine z_iald F (pc := 10) hK hW 4 rfl (by decide) dX5_cell_10 (by omega) ?_
  exact hret _ _ _ _ (tc ((k * 60) + i)) () dX5_cell_11 (by rw [gC_at (tc := tc) (b := 60 * k) hi (by omega)]; exact hr9) (by exact gC_at hi (by omega)) hW

set_option maxHeartbeats 4000000 in
set_option maxRecDepth 100000 in
theorem c_X5_lowestBits (l : Launch) (D : va_G) (cI cZ : ClassId) (q v : Int) (sz0 : Nat) (r_q : (-2147483648 ≤ q ∧ q < 2147483648)) (r_v : (-2147483648 ≤ v ∧ v < 2147483648)) : Met l yX5_lowestBits wsX5_lowestBits ({ frames := 0, cells := 0, slots := 0, locals := 0 } : Room) (zPc D cI cZ [.int (iI q), .int (iI v)] ([]) sz0) (zQi D cI cZ ([]) sz0 (fun (r : Int) (u : Unit) => r = lowF q v) (fun (u : Unit) => [])) 0 0 (va_A ([]) sz0) := by
  have hb := bm8 v
  have hs := bm16 v
  refine z_ofI (maxL := 2) (plainFor_of_name (by decide)) rfl (Nat.le_of_ble_eq_true rfl) (Or.inl rfl) ?_
  intro p e s m below meth c A ls Q F hK hW hA hl hret
  have hl : lv_has ls 2 [(0, .int (iI q)), (1, .int (iI v))] := hl
  refine z_iloadn F (pc := 0) dX5_lowestBits_0 rfl (lv_at hl 0 rfl) ?_
  refine z_if_ne F (pc := 1) 7 dX5_lowestBits_1 (by decide) (by omega) (fun c_1 => ?_) (fun c_1 => ?_)
  · skip
    refine z_iloadn F (pc := 7) dX5_lowestBits_7 rfl (lv_at hl 0 rfl) ?_
    refine z_iconst F (pc := 8) (1) dX5_lowestBits_8 ?_
    refine z_icmp_ne F (pc := 9) 15 dX5_lowestBits_9 (by decide) (by omega) (fun c_9 => ?_) (fun c_9 => ?_)
    · skip
      refine z_iloadn F (pc := 15) dX5_lowestBits_15 rfl (lv_at hl 1 rfl) ?_
      exact hret _ _ _ _ v () dX5_lowestBits_16 (by omega) (by unfold lowF; rw [if_neg (by omega), if_neg (by omega)]) hW
    · skip
      refine z_iloadn F (pc := 12) dX5_lowestBits_12 rfl (lv_at hl 1 rfl) ?_
      refine lv_i2s F.1 F.2.1 (pc := 13) dX5_lowestBits_13 (i2s_iI (by omega)) ?_
      exact hret _ _ _ _ (Int.bmod v 65536) () dX5_lowestBits_14 (by omega) (by unfold lowF; rw [if_neg (by omega), if_pos (by omega)]) hW
  · skip
    refine z_iloadn F (pc := 4) dX5_lowestBits_4 rfl (lv_at hl 1 rfl) ?_
    refine lv_i2b F.1 F.2.1 (pc := 5) dX5_lowestBits_5 (i2b_iI (by omega)) ?_
    exact hret _ _ _ _ (Int.bmod v 256) () dX5_lowestBits_6 (by omega) (by unfold lowF; rw [if_pos (by omega)]) hW

set_option maxHeartbeats 4000000 in
set_option maxRecDepth 100000 in
theorem c_X5_put (l : Launch) (D : va_G) (cI cZ : ClassId) (aT : Nat → Nat) (tl tm ts tc : Int → Int) (k i v : Int) (sz0 : Nat) (r_k : (-2147483648 ≤ k ∧ k < 2147483648)) (r_i : (-2147483648 ≤ i ∧ i < 2147483648)) (r_v : (-2147483648 ≤ v ∧ v < 2147483648)) (hk : 0 ≤ k ∧ k ≤ 3) (hi : 0 ≤ i ∧ i < 60) (ht : TokC tl tm ts) : Met l yX5_put wsX5_put ({ frames := 1, cells := 0, slots := 0, locals := 21 } : Room) (zPc D cI cZ [.ref (aT 0), .int (iI k), .int (iI i), .int (iI v)] (wT cI cZ aT tl tm ts tc) sz0) (zQv D cI cZ (wT cI cZ aT tl tm ts tc) sz0 (fun (u : (Int → Int)) => u = zU tc (60 * k + i) (lowF (tl k) v)) (fun (u : (Int → Int)) => wT cI cZ aT tl tm ts u)) 0 0 (va_A (wT cI cZ aT tl tm ts tc) sz0) := by
  have h9k := ht k hk.1 (by omega)
  refine z_ofV (maxL := 4) (plainFor_of_name (by decide)) rfl (Nat.le_of_ble_eq_true rfl) ?_
  intro p e s m below meth c A ls Q F hK hW hA hl hret
  have hl : lv_has ls 4 [(0, .ref (aT 0)), (1, .int (iI k)), (2, .int (iI i)), (3, .int (iI v))] := hl
  have inX5 : ∀ w ∈ u_ws RX5 TX5 4, w ∈ wsX5_put := fun _ h => List.mem_cons_of_mem _ (List.mem_append_right _ h)
  refine z_aloadn F (pc := 0) dX5_put_0 rfl (lv_at hl 0 rfl) ?_
  refine z_get F (pc := 1) (C := RX5) (T := TX5) (N := 4) (ci := 5) inX5 hK hW 0 3 rfl rfl (by decide) rfl (List.mem_of_getElem? (i := 1) rfl) (v := .ref (aT 4)) rfl dX5_put_1 ?_
  refine z_iloadn F (pc := 4) dX5_put_4 rfl (lv_at hl 1 rfl) ?_
  refine z_bipush F (pc := 5) (60) (by decide +kernel) dX5_put_5 ?_
  refine z_imul F (pc := 7) dX5_put_7 ?_
  refine z_iloadn F (pc := 8) dX5_put_8 rfl (lv_at hl 2 rfl) ?_
  refine z_iadd F (pc := 9) dX5_put_9 ?_
  refine z_aloadn F (pc := 10) dX5_put_10 rfl (lv_at hl 0 rfl) ?_
  refine z_get F (pc := 11) (C := RX5) (T := TX5) (N := 4) (ci := 5) inX5 hK hW 0 0 rfl rfl (by decide) rfl (List.mem_of_getElem? (i := 2) rfl) (v := .ref (aT 1)) rfl dX5_put_11 ?_
  refine z_iloadn F (pc := 14) dX5_put_14 rfl (lv_at hl 1 rfl) ?_
  refine z_iald F (pc := 15) hK hW 1 rfl (by decide) dX5_put_15 (by omega) ?_
  refine z_iloadn F (pc := 16) dX5_put_16 rfl (lv_at hl 3 rfl) ?_
  refine z_callSi F (pc := 17) hK hW hA (As := [.int (iI (tl k)), .int (iI v)]) (rest := [.int (iI ((k * 60) + i)), .ref (aT 4)]) (c_X5_lowestBits l D cI cZ (tl k) v _ (by omega) (by omega)) (va_cwS 2 F.2.2.2.2 gX5_put_X5_lowestBits rfl rfl rfl (by decide +kernel) ⟨Nat.le_of_ble_eq_true rfl, Nat.le_of_ble_eq_true rfl⟩) rfl rfl hl.1 (Nat.le_of_ble_eq_true rfl) dX5_put_17 ⟨Nat.le_of_ble_eq_true rfl, Nat.le_of_ble_eq_true rfl⟩ (fun z_17 H locs r_z_17 hp_17 hW => ?_)
  replace hp_17 := hp_17.symm
  subst hp_17
  refine z_iast F (pc := 20) hK hW (ws' := wT cI cZ aT tl tm ts (zU tc ((k * 60) + i) (lowF (tl k) v))) 4 rfl (by decide) dX5_put_20 (by omega) rfl (fun H locs hW => ?_)
  exact hret _ _ _ _ (zU tc ((k * 60) + i) (lowF (tl k) v)) dX5_put_21 (by rw [Int.mul_comm k 60]) hW

set_option maxHeartbeats 4000000 in
set_option maxRecDepth 100000 in
theorem c_X7_sheet (l : Launch) (D : va_G) (cI cZ : ClassId) (aB aD aM aA aS aC aL aT : Nat → Nat) (di tl tm ts tc : Int → Int) (en mg : Int) (k q nn : Int) (sz0 : Nat) (r_k : (-2147483648 ≤ k ∧ k < 2147483648)) (r_q : (-2147483648 ≤ q ∧ q < 2147483648)) (r_nn : (-2147483648 ≤ nn ∧ nn < 2147483648)) : Met l yX7_sheet wsX7_sheet ({ frames := 1, cells := 0, slots := 0, locals := 24 } : Room) (zPc D cI cZ [.ref (aB 0), .int (iI k), .int (iI q), .int (iI nn)] (wB cI cZ aB aD aM aA aS aC aL aT di en mg ++ wT cI cZ aT tl tm ts tc) sz0) (zQi D cI cZ (wB cI cZ aB aD aM aA aS aC aL aT di en mg ++ wT cI cZ aT tl tm ts tc) sz0 (fun (r : Int) (u : (Int → Int) × (Int → Int) × (Int → Int) × (Int → Int)) => (shNo k q nn r ∧ u.1 = tl ∧ u.2.1 = tm ∧ u.2.2.1 = ts ∧ u.2.2.2 = tc) ∨ (shYes k q nn r ∧ u.1 = zU tl k q ∧ u.2.1 = zU tm k 1 ∧ u.2.2.1 = zU ts k nn ∧ fill0 tc (60 * k) nn u.2.2.2)) (fun (u : (Int → Int) × (Int → Int) × (Int → Int) × (Int → Int)) => wB cI cZ aB aD aM aA aS aC aL aT di en mg ++ wT cI cZ aT u.1 u.2.1 u.2.2.1 u.2.2.2)) 0 0 (va_A (wB cI cZ aB aD aM aA aS aC aL aT di en mg ++ wT cI cZ aT tl tm ts tc) sz0) := by
  refine z_ofI (maxL := 4) (plainFor_of_name (by decide)) rfl (Nat.le_of_ble_eq_true rfl) (Or.inl rfl) ?_
  intro p e s m below meth c A ls Q F hK hW hA hl hret
  have hl : lv_has ls 4 [(0, .ref (aB 0)), (1, .int (iI k)), (2, .int (iI q)), (3, .int (iI nn))] := hl
  have inX7 : ∀ w ∈ u_ws RX7 TX7 10, w ∈ wsX7_sheet := fun _ h => List.mem_cons_of_mem _ (List.mem_append_left _ (List.mem_append_right _ h))
  refine z_iloadn F (pc := 0) dX7_sheet_0 rfl (lv_at hl 1 rfl) ?_
  refine z_callSi F (pc := 1) hK hW hA (As := [.int (iI k)]) (rest := []) (c_X5_isNumber l D cI cZ k _ (by omega)) (va_cwS 1 F.2.2.2.2 gX7_sheet_X5_isNumber rfl rfl rfl (by decide +kernel) ⟨Nat.le_of_ble_eq_true rfl, Nat.le_of_ble_eq_true rfl⟩) rfl rfl hl.1 (Nat.le_of_ble_eq_true rfl) dX7_sheet_1 ⟨Nat.le_of_ble_eq_true rfl, Nat.le_of_ble_eq_true rfl⟩ (fun z_1 H locs r_z_1 hp_1 hW => ?_)
  refine z_if_eq F (pc := 4) 20 dX7_sheet_4 (by decide) (by omega) (fun c_4 => ?_) (fun c_4 => ?_)
  · skip
    have b_4 := zB_f hp_1 c_4
    refine z_iconst F (pc := 20) (-1) dX7_sheet_20 ?_
    exact hret _ _ _ _ (-1) (tl, tm, ts, tc) dX7_sheet_21 (by omega) (by (try dsimp only) <;> (exact Or.inl ⟨by unfold shNo shOk; omega, rfl, rfl, rfl, rfl⟩)) hW
  · skip
    have b_4 := zB_t hp_1 c_4
    refine z_iloadn F (pc := 7) dX7_sheet_7 rfl (lv_at hl 2 rfl) ?_
    refine z_callSi F (pc := 8) hK hW hA (As := [.int (iI q)]) (rest := []) (c_X5_isLane l D cI cZ q _ (by omega)) (va_cwS 1 F.2.2.2.2 gX7_sheet_X5_isLane rfl rfl rfl (by decide +kernel) ⟨Nat.le_of_ble_eq_true rfl, Nat.le_of_ble_eq_true rfl⟩) rfl rfl hl.1 (Nat.le_of_ble_eq_true rfl) dX7_sheet_8 ⟨Nat.le_of_ble_eq_true rfl, Nat.le_of_ble_eq_true rfl⟩ (fun z_8 H locs r_z_8 hp_8 hW => ?_)
    refine z_if_eq F (pc := 11) 20 dX7_sheet_11 (by decide) (by omega) (fun c_11 => ?_) (fun c_11 => ?_)
    · skip
      have b_11 := zB_f hp_8 c_11
      refine z_iconst F (pc := 20) (-1) dX7_sheet_20 ?_
      exact hret _ _ _ _ (-1) (tl, tm, ts, tc) dX7_sheet_21 (by omega) (by (try dsimp only) <;> (exact Or.inl ⟨by unfold shNo shOk; omega, rfl, rfl, rfl, rfl⟩)) hW
    · skip
      have b_11 := zB_t hp_8 c_11
      refine z_iloadn F (pc := 14) dX7_sheet_14 rfl (lv_at hl 3 rfl) ?_
      refine z_bipush F (pc := 15) (60) (by decide +kernel) dX7_sheet_15 ?_
      refine z_icmp_le F (pc := 17) 22 dX7_sheet_17 (by decide) (by omega) (fun c_17 => ?_) (fun c_17 => ?_)
      · skip
        refine z_iloadn F (pc := 22) dX7_sheet_22 rfl (lv_at hl 3 rfl) ?_
        refine z_if_ge F (pc := 23) 29 dX7_sheet_23 (by decide) (by omega) (fun c_23 => ?_) (fun c_23 => ?_)
        · skip
          refine z_aloadn F (pc := 29) dX7_sheet_29 rfl (lv_at hl 0 rfl) ?_
          refine z_get F (pc := 30) (C := RX7) (T := TX7) (N := 10) (ci := 7) inX7 hK hW 0 6 rfl rfl (by decide) rfl (List.mem_of_getElem? (i := 1) rfl) (v := .ref (aT 0)) rfl dX7_sheet_30 ?_
          refine z_iloadn F (pc := 33) dX7_sheet_33 rfl (lv_at hl 1 rfl) ?_
          refine z_iloadn F (pc := 34) dX7_sheet_34 rfl (lv_at hl 2 rfl) ?_
          refine z_iloadn F (pc := 35) dX7_sheet_35 rfl (lv_at hl 3 rfl) ?_
          refine z_callVv F (pc := 36) hK hW hA (As := [.int (iI k), .int (iI q), .int (iI nn)]) (rest := []) (ws' := fun (u : (Int → Int) × (Int → Int) × (Int → Int) × (Int → Int)) => wB cI cZ aB aD aM aA aS aC aL aT di en mg ++ wT cI cZ aT u.1 u.2.1 u.2.2.1 u.2.2.2) (wr := (wB cI cZ aB aD aM aA aS aC aL aT di en mg)) (c_X5_makeNew l D cI cZ aT tl tm ts tc k q nn _ (by omega) (by omega) (by omega) (by omega) (by omega)) (cwV 3 F.2.2.2.2 gX7_sheet_X5_makeNew rfl rfl rfl (by decide +kernel) ⟨Nat.le_of_ble_eq_true rfl, Nat.le_of_ble_eq_true rfl⟩) [2, 3, 4, 5, 6] [0, 1] [0, 1, 2, 3, 4, 5, 6] rfl rfl (by decide) (by decide) (by decide) (fun _ => rfl) (by decide) (q0 := 2) (ci := 5) rfl rfl rfl rfl rfl hl.1 (Nat.le_of_ble_eq_true rfl) dX7_sheet_36 ⟨Nat.le_of_ble_eq_true rfl, Nat.le_of_ble_eq_true rfl⟩ (fun u H locs hp_36 hW => ?_)
          obtain ⟨tl2_36, tm2_36, ts2_36, tc2_36⟩ := u
          dsimp only at hp_36 hW
          refine z_iconst F (pc := 39) (1) dX7_sheet_39 ?_
          exact hret _ _ _ _ 1 (tl2_36, tm2_36, ts2_36, tc2_36) dX7_sheet_40 (by omega) (by (try dsimp only) <;> (exact Or.inr ⟨by unfold shYes shOk; omega, hp_36⟩)) hW
        · skip
          refine z_bipush F (pc := 26) (-14) (by decide +kernel) dX7_sheet_26 ?_
          exact hret _ _ _ _ (-14) (tl, tm, ts, tc) dX7_sheet_28 (by omega) (by (try dsimp only) <;> (exact Or.inl ⟨by unfold shNo shOk; omega, rfl, rfl, rfl, rfl⟩)) hW
      · skip
        refine z_iconst F (pc := 20) (-1) dX7_sheet_20 ?_
        exact hret _ _ _ _ (-1) (tl, tm, ts, tc) dX7_sheet_21 (by omega) (by (try dsimp only) <;> (exact Or.inl ⟨by unfold shNo shOk; omega, rfl, rfl, rfl, rfl⟩)) hW

set_option maxHeartbeats 4000000 in
set_option maxRecDepth 100000 in
theorem c_X7_lay (l : Launch) (D : va_G) (cI cZ : ClassId) (aB aD aM aA aS aC aL aT : Nat → Nat) (di tl tm ts tc : Int → Int) (en mg : Int) (k i v : Int) (sz0 : Nat) (r_k : (-2147483648 ≤ k ∧ k < 2147483648)) (r_i : (-2147483648 ≤ i ∧ i < 2147483648)) (r_v : (-2147483648 ≤ v ∧ v < 2147483648)) (ht : TokC tl tm ts) : Met l yX7_lay wsX7_lay ({ frames := 2, cells := 0, slots := 0, locals := 44 } : Room) (zPc D cI cZ [.ref (aB 0), .int (iI k), .int (iI i), .int (iI v)] (wB cI cZ aB aD aM aA aS aC aL aT di en mg ++ wT cI cZ aT tl tm ts tc) sz0) (zQi D cI cZ (wB cI cZ aB aD aM aA aS aC aL aT di en mg ++ wT cI cZ aT tl tm ts tc) sz0 (fun (r : Int) (u : (Int → Int)) => (layNo (tm k = 1) (ts k) k i r ∧ u = tc) ∨ (layYes (tm k = 1) (ts k) k i r ∧ u = zU tc (60 * k + i) (lowF (tl k) v))) (fun (u : (Int → Int)) => wB cI cZ aB aD aM aA aS aC aL aT di en mg ++ wT cI cZ aT tl tm ts u)) 0 0 (va_A (wB cI cZ aB aD aM aA aS aC aL aT di en mg ++ wT cI cZ aT tl tm ts tc) sz0) := by
  refine z_ofI (maxL := 4) (plainFor_of_name (by decide)) rfl (Nat.le_of_ble_eq_true rfl) (Or.inl rfl) ?_
  intro p e s m below meth c A ls Q F hK hW hA hl hret
  have hl : lv_has ls 4 [(0, .ref (aB 0)), (1, .int (iI k)), (2, .int (iI i)), (3, .int (iI v))] := hl
  have inX7 : ∀ w ∈ u_ws RX7 TX7 10, w ∈ wsX7_lay := fun _ h => List.mem_cons_of_mem _ (List.mem_append_left _ (List.mem_append_right _ h))
  refine z_iloadn F (pc := 0) dX7_lay_0 rfl (lv_at hl 1 rfl) ?_
  refine z_callSi F (pc := 1) hK hW hA (As := [.int (iI k)]) (rest := []) (c_X5_isNumber l D cI cZ k _ (by omega)) (va_cwS 1 F.2.2.2.2 gX7_lay_X5_isNumber rfl rfl rfl (by decide +kernel) ⟨Nat.le_of_ble_eq_true rfl, Nat.le_of_ble_eq_true rfl⟩) rfl rfl hl.1 (Nat.le_of_ble_eq_true rfl) dX7_lay_1 ⟨Nat.le_of_ble_eq_true rfl, Nat.le_of_ble_eq_true rfl⟩ (fun z_1 H locs r_z_1 hp_1 hW => ?_)
  refine z_if_ne F (pc := 4) 9 dX7_lay_4 (by decide) (by omega) (fun c_4 => ?_) (fun c_4 => ?_)
  · skip
    have b_4 := zB_t hp_1 c_4
    have h9k := ht k (by omega) (by omega)
    refine z_aloadn F (pc := 9) dX7_lay_9 rfl (lv_at hl 0 rfl) ?_
    refine z_get F (pc := 10) (C := RX7) (T := TX7) (N := 10) (ci := 7) inX7 hK hW 0 6 rfl rfl (by decide) rfl (List.mem_of_getElem? (i := 1) rfl) (v := .ref (aT 0)) rfl dX7_lay_10 ?_
    refine z_iloadn F (pc := 13) dX7_lay_13 rfl (lv_at hl 1 rfl) ?_
    refine z_callVi F (pc := 14) hK hW hA (As := [.int (iI k)]) (rest := []) (ws' := fun (u : Unit) => wB cI cZ aB aD aM aA aS aC aL aT di en mg ++ wT cI cZ aT tl tm ts tc) (wr := (wB cI cZ aB aD aM aA aS aC aL aT di en mg)) (c_X5_isNothing l D cI cZ aT tl tm ts tc k _ (by omega) (by omega) (by exact ht)) (cwV 1 F.2.2.2.2 gX7_lay_X5_isNothing rfl rfl rfl (by decide +kernel) ⟨Nat.le_of_ble_eq_true rfl, Nat.le_of_ble_eq_true rfl⟩) [2, 3, 4, 5, 6] [0, 1] [0, 1, 2, 3, 4, 5, 6] rfl rfl (by decide) (by decide) (by decide) (fun _ => rfl) (by decide) (q0 := 2) (ci := 5) rfl rfl rfl rfl rfl hl.1 (Nat.le_of_ble_eq_true rfl) dX7_lay_14 ⟨Nat.le_of_ble_eq_true rfl, Nat.le_of_ble_eq_true rfl⟩ (fun z_14 u H locs r_z_14 hp_14 hW => ?_)
    refine z_if_eq F (pc := 17) 23 dX7_lay_17 (by decide) (by omega) (fun c_17 => ?_) (fun c_17 => ?_)
    · skip
      have b_17 := zB_f hp_14 c_17
      refine z_aloadn F (pc := 23) dX7_lay_23 rfl (lv_at hl 0 rfl) ?_
      refine z_get F (pc := 24) (C := RX7) (T := TX7) (N := 10) (ci := 7) inX7 hK hW 0 6 rfl rfl (by decide) rfl (List.mem_of_getElem? (i := 1) rfl) (v := .ref (aT 0)) rfl dX7_lay_24 ?_
      refine z_iloadn F (pc := 27) dX7_lay_27 rfl (lv_at hl 1 rfl) ?_
      refine z_iloadn F (pc := 28) dX7_lay_28 rfl (lv_at hl 2 rfl) ?_
      refine z_iconst F (pc := 29) (1) dX7_lay_29 ?_
      refine z_callVi F (pc := 30) hK hW hA (As := [.int (iI k), .int (iI i), .int (iI 1)]) (rest := []) (ws' := fun (u : Unit) => wB cI cZ aB aD aM aA aS aC aL aT di en mg ++ wT cI cZ aT tl tm ts tc) (wr := (wB cI cZ aB aD aM aA aS aC aL aT di en mg)) (c_X5_hasCells l D cI cZ aT tl tm ts tc k i 1 _ (by omega) (by omega) (by omega) (by omega) (by omega) (by exact ht)) (cwV 3 F.2.2.2.2 gX7_lay_X5_hasCells rfl rfl rfl (by decide +kernel) ⟨Nat.le_of_ble_eq_true rfl, Nat.le_of_ble_eq_true rfl⟩) [2, 3, 4, 5, 6] [0, 1] [0, 1, 2, 3, 4, 5, 6] rfl rfl (by decide) (by decide) (by decide) (fun _ => rfl) (by decide) (q0 := 2) (ci := 5) rfl rfl rfl rfl rfl hl.1 (Nat.le_of_ble_eq_true rfl) dX7_lay_30 ⟨Nat.le_of_ble_eq_true rfl, Nat.le_of_ble_eq_true rfl⟩ (fun z_30 u H locs r_z_30 hp_30 hW => ?_)
      refine z_if_ne F (pc := 33) 39 dX7_lay_33 (by decide) (by omega) (fun c_33 => ?_) (fun c_33 => ?_)
      · skip
        have b_33 := zB_t hp_30 c_33
        refine z_aloadn F (pc := 39) dX7_lay_39 rfl (lv_at hl 0 rfl) ?_
        refine z_get F (pc := 40) (C := RX7) (T := TX7) (N := 10) (ci := 7) inX7 hK hW 0 6 rfl rfl (by decide) rfl (List.mem_of_getElem? (i := 1) rfl) (v := .ref (aT 0)) rfl dX7_lay_40 ?_
        refine z_iloadn F (pc := 43) dX7_lay_43 rfl (lv_at hl 1 rfl) ?_
        refine z_iloadn F (pc := 44) dX7_lay_44 rfl (lv_at hl 2 rfl) ?_
        refine z_iloadn F (pc := 45) dX7_lay_45 rfl (lv_at hl 3 rfl) ?_
        refine z_callVv F (pc := 46) hK hW hA (As := [.int (iI k), .int (iI i), .int (iI v)]) (rest := []) (ws' := fun (u : (Int → Int)) => wB cI cZ aB aD aM aA aS aC aL aT di en mg ++ wT cI cZ aT tl tm ts u) (wr := (wB cI cZ aB aD aM aA aS aC aL aT di en mg)) (c_X5_put l D cI cZ aT tl tm ts tc k i v _ (by omega) (by omega) (by omega) (by omega) (by omega) (by exact ht)) (cwV 3 F.2.2.2.2 gX7_lay_X5_put rfl rfl rfl (by decide +kernel) ⟨Nat.le_of_ble_eq_true rfl, Nat.le_of_ble_eq_true rfl⟩) [2, 3, 4, 5, 6] [0, 1] [0, 1, 2, 3, 4, 5, 6] rfl rfl (by decide) (by decide) (by decide) (fun _ => rfl) (by decide) (q0 := 2) (ci := 5) rfl rfl rfl rfl rfl hl.1 (Nat.le_of_ble_eq_true rfl) dX7_lay_46 ⟨Nat.le_of_ble_eq_true rfl, Nat.le_of_ble_eq_true rfl⟩ (fun u H locs hp_46 hW => ?_)
        obtain ⟨tc2_46, rfl⟩ : ∃ v, v = u := ⟨_, rfl⟩
        refine z_iconst F (pc := 49) (1) dX7_lay_49 ?_
        exact hret _ _ _ _ 1 tc2_46 dX7_lay_50 (by omega) (by exact Or.inr ⟨by unfold layYes; omega, hp_46⟩) hW
      · skip
        have b_33 := zB_f hp_30 c_33
        refine z_bipush F (pc := 36) (-12) (by decide +kernel) dX7_lay_36 ?_
        exact hret _ _ _ _ (-12) tc dX7_lay_38 (by omega) (by exact Or.inl ⟨by unfold layNo; omega, rfl⟩) hW
    · skip
      have b_17 := zB_t hp_14 c_17
      refine z_bipush F (pc := 20) (-11) (by decide +kernel) dX7_lay_20 ?_
      exact hret _ _ _ _ (-11) tc dX7_lay_22 (by omega) (by exact Or.inl ⟨by unfold layNo; omega, rfl⟩) hW
  · skip
    have b_4 := zB_f hp_1 c_4
    refine z_iconst F (pc := 7) (-1) dX7_lay_7 ?_
    exact hret _ _ _ _ (-1) tc dX7_lay_8 (by omega) (by exact Or.inl ⟨by unfold layNo; omega, rfl⟩) hW

set_option maxHeartbeats 4000000 in
set_option maxRecDepth 100000 in
theorem c_X7_scanPoint (l : Launch) (D : va_G) (cI cZ : ClassId) (aB aD aM aA aS aC aL aT : Nat → Nat) (di tl tm ts tc xs ys lf ev nm : Int → Int) (en mg sz : Int) (k f i : Int) (sz0 : Nat) (r_k : (-2147483648 ≤ k ∧ k < 2147483648)) (r_f : (-2147483648 ≤ f ∧ f < 2147483648)) (r_i : (-2147483648 ≤ i ∧ i < 2147483648)) (hk : 0 ≤ k ∧ k ≤ 3) (ht : TokC tl tm ts) (hg : RgT tc) (hd : 0 ≤ sz ∧ sz ≤ 30) (hi : 0 ≤ i ∧ i < 20) : Met l yX7_scanPoint wsX7_scanPoint ({ frames := 1, cells := 0, slots := 0, locals := 23 } : Room) (zPc D cI cZ [.ref (aB 0), .int (iI k), .int (iI f), .int (iI i)] (wB cI cZ aB aD aM aA aS aC aL aT di en mg ++ wT cI cZ aT tl tm ts tc ++ wD cI cZ aD xs ys lf ev nm sz) sz0) (zQi D cI cZ (wB cI cZ aB aD aM aA aS aC aL aT di en mg ++ wT cI cZ aT tl tm ts tc ++ wD cI cZ aD xs ys lf ev nm sz) sz0 (fun (r : Int) (u : (Int → Int) × (Int → Int) × (Int → Int) × (Int)) => spR xs ys lf (gC tc (60 * k) (ts k)) sz (ts k) f i u.1 u.2.1 u.2.2.1 u.2.2.2 r) (fun (u : (Int → Int) × (Int → Int) × (Int → Int) × (Int)) => wB cI cZ aB aD aM aA aS aC aL aT di en mg ++ wT cI cZ aT tl tm ts tc ++ wD cI cZ aD u.1 u.2.1 u.2.2.1 ev nm u.2.2.2)) 0 0 (va_A (wB cI cZ aB aD aM aA aS aC aL aT di en mg ++ wT cI cZ aT tl tm ts tc ++ wD cI cZ aD xs ys lf ev nm sz) sz0) := by
  have h9k := ht k hk.1 (by omega)
  refine z_ofI (maxL := 9) (plainFor_of_name (by decide)) rfl (Nat.le_of_ble_eq_true rfl) (Or.inl rfl) ?_
  intro p e s m below meth c A ls Q F hK hW hA hl hret
  have hl : lv_has ls 9 [(0, .ref (aB 0)), (1, .int (iI k)), (2, .int (iI f)), (3, .int (iI i))] := hl
  have inX7 : ∀ w ∈ u_ws RX7 TX7 10, w ∈ wsX7_scanPoint := fun _ h => List.mem_cons_of_mem _ (List.mem_append_left _ (List.mem_append_left _ (List.mem_append_right _ h)))
  refine z_aloadn F (pc := 0) dX7_scanPoint_0 rfl (lv_at hl 0 rfl) ?_
  refine z_get F (pc := 1) (C := RX7) (T := TX7) (N := 10) (ci := 7) inX7 hK hW 0 6 rfl rfl (by decide) rfl (List.mem_of_getElem? (i := 1) rfl) (v := .ref (aT 0)) rfl dX7_scanPoint_1 ?_
  refine z_iloadn F (pc := 4) dX7_scanPoint_4 rfl (lv_at hl 1 rfl) ?_
  refine z_iloadn F (pc := 5) dX7_scanPoint_5 rfl (lv_at hl 2 rfl) ?_
  refine z_iconst F (pc := 6) (3) dX7_scanPoint_6 ?_
  refine z_iloadn F (pc := 7) dX7_scanPoint_7 rfl (lv_at hl 3 rfl) ?_
  refine z_imul F (pc := 8) dX7_scanPoint_8 ?_
  refine z_iconst F (pc := 9) (3) dX7_scanPoint_9 ?_
  refine z_iadd F (pc := 10) dX7_scanPoint_10 ?_
  refine z_callVi F (pc := 11) hK hW hA (As := [.int (iI k), .int (iI f), .int (iI ((3 * i) + 3))]) (rest := []) (ws' := fun (u : Unit) => wB cI cZ aB aD aM aA aS aC aL aT di en mg ++ wT cI cZ aT tl tm ts tc ++ wD cI cZ aD xs ys lf ev nm sz) (wr := (wB cI cZ aB aD aM aA aS aC aL aT di en mg ++ wD cI cZ aD xs ys lf ev nm sz)) (c_X5_hasCells l D cI cZ aT tl tm ts tc k f ((3 * i) + 3) _ (by omega) (by omega) (by omega) (by omega) (by omega) (by exact ht)) (cwV 3 F.2.2.2.2 gX7_scanPoint_X5_hasCells rfl rfl rfl (by decide +kernel) ⟨Nat.le_of_ble_eq_true rfl, Nat.le_of_ble_eq_true rfl⟩) [2, 3, 4, 5, 6] [0, 1, 7, 8, 9, 10, 11, 12] [0, 1, 8, 9, 10, 11, 12, 2, 3, 4, 5, 6, 7] rfl rfl (by decide) (by decide) (by decide) (fun _ => rfl) (by decide) (q0 := 2) (ci := 5) rfl rfl rfl rfl rfl hl.1 (Nat.le_of_ble_eq_true rfl) dX7_scanPoint_11 ⟨Nat.le_of_ble_eq_true rfl, Nat.le_of_ble_eq_true rfl⟩ (fun z_11 u H locs r_z_11 hp_11 hW => ?_)
  refine z_if_ne F (pc := 14) 20 dX7_scanPoint_14 (by decide) (by omega) (fun c_14 => ?_) (fun c_14 => ?_)
  · skip
    have b_14 := zB_t hp_11 c_14
    have hI : ix (ts k) f i := ⟨by omega, by omega⟩
    have hr1 := gC_r hg (60 * k) (ts k) (f + 3 * i)
    have hr2 := gC_r hg (60 * k) (ts k) (f + 3 * i + 1)
    have hr3 := gC_r hg (60 * k) (ts k) (f + 3 * i + 2)
    refine z_iloadn F (pc := 20) dX7_scanPoint_20 rfl (lv_at hl 2 rfl) ?_
    refine z_iconst F (pc := 21) (3) dX7_scanPoint_21 ?_
    refine z_iloadn F (pc := 22) dX7_scanPoint_22 rfl (lv_at hl 3 rfl) ?_
    refine z_imul F (pc := 23) dX7_scanPoint_23 ?_
    refine z_iadd F (pc := 24) dX7_scanPoint_24 ?_
    refine z_istore F (pc := 25) hl (lv' := [(4, .int (iI (f + (3 * i)))), (0, .ref (aB 0)), (1, .int (iI k)), (2, .int (iI f)), (3, .int (iI i))]) dX7_scanPoint_25 (by decide) rfl (fun ls hl => ?_)
    refine z_aloadn F (pc := 27) dX7_scanPoint_27 rfl (lv_at hl 1 rfl) ?_
    refine z_get F (pc := 28) (C := RX7) (T := TX7) (N := 10) (ci := 7) inX7 hK hW 0 6 rfl rfl (by decide) rfl (List.mem_of_getElem? (i := 1) rfl) (v := .ref (aT 0)) rfl dX7_scanPoint_28 ?_
    refine z_iloadn F (pc := 31) dX7_scanPoint_31 rfl (lv_at hl 2 rfl) ?_
    refine z_iload F (pc := 32) dX7_scanPoint_32 (lv_at hl 0 rfl) ?_
    refine z_callVi F (pc := 34) hK hW hA (As := [.int (iI k), .int (iI (f + (3 * i)))]) (rest := []) (ws' := fun (u : Unit) => wB cI cZ aB aD aM aA aS aC aL aT di en mg ++ wT cI cZ aT tl tm ts tc ++ wD cI cZ aD xs ys lf ev nm sz) (wr := (wB cI cZ aB aD aM aA aS aC aL aT di en mg ++ wD cI cZ aD xs ys lf ev nm sz)) (c_X5_cell l D cI cZ aT tl tm ts tc k (f + (3 * i)) _ (by omega) (by omega) (by omega) (by omega) (by exact ht) (by exact hg)) (cwV 2 F.2.2.2.2 gX7_scanPoint_X5_cell rfl rfl rfl (by decide +kernel) ⟨Nat.le_of_ble_eq_true rfl, Nat.le_of_ble_eq_true rfl⟩) [2, 3, 4, 5, 6] [0, 1, 7, 8, 9, 10, 11, 12] [0, 1, 8, 9, 10, 11, 12, 2, 3, 4, 5, 6, 7] rfl rfl (by decide) (by decide) (by decide) (fun _ => rfl) (by decide) (q0 := 2) (ci := 5) rfl rfl rfl rfl rfl hl.1 (Nat.le_of_ble_eq_true rfl) dX7_scanPoint_34 ⟨Nat.le_of_ble_eq_true rfl, Nat.le_of_ble_eq_true rfl⟩ (fun z_34 u H locs r_z_34 hp_34 hW => ?_)
    replace hp_34 := hp_34.symm
    subst hp_34
    refine z_istore F (pc := 37) hl (lv' := [(5, .int (iI (gC tc (60 * k) (ts k) (f + (3 * i))))), (4, .int (iI (f + (3 * i)))), (0, .ref (aB 0)), (1, .int (iI k)), (2, .int (iI f)), (3, .int (iI i))]) dX7_scanPoint_37 (by decide) rfl (fun ls hl => ?_)
    refine z_aloadn F (pc := 39) dX7_scanPoint_39 rfl (lv_at hl 2 rfl) ?_
    refine z_get F (pc := 40) (C := RX7) (T := TX7) (N := 10) (ci := 7) inX7 hK hW 0 6 rfl rfl (by decide) rfl (List.mem_of_getElem? (i := 1) rfl) (v := .ref (aT 0)) rfl dX7_scanPoint_40 ?_
    refine z_iloadn F (pc := 43) dX7_scanPoint_43 rfl (lv_at hl 3 rfl) ?_
    refine z_iload F (pc := 44) dX7_scanPoint_44 (lv_at hl 1 rfl) ?_
    refine z_iconst F (pc := 46) (1) dX7_scanPoint_46 ?_
    refine z_iadd F (pc := 47) dX7_scanPoint_47 ?_
    refine z_callVi F (pc := 48) hK hW hA (As := [.int (iI k), .int (iI ((f + (3 * i)) + 1))]) (rest := []) (ws' := fun (u : Unit) => wB cI cZ aB aD aM aA aS aC aL aT di en mg ++ wT cI cZ aT tl tm ts tc ++ wD cI cZ aD xs ys lf ev nm sz) (wr := (wB cI cZ aB aD aM aA aS aC aL aT di en mg ++ wD cI cZ aD xs ys lf ev nm sz)) (c_X5_cell l D cI cZ aT tl tm ts tc k ((f + (3 * i)) + 1) _ (by omega) (by omega) (by omega) (by omega) (by exact ht) (by exact hg)) (cwV 2 F.2.2.2.2 gX7_scanPoint_X5_cell rfl rfl rfl (by decide +kernel) ⟨Nat.le_of_ble_eq_true rfl, Nat.le_of_ble_eq_true rfl⟩) [2, 3, 4, 5, 6] [0, 1, 7, 8, 9, 10, 11, 12] [0, 1, 8, 9, 10, 11, 12, 2, 3, 4, 5, 6, 7] rfl rfl (by decide) (by decide) (by decide) (fun _ => rfl) (by decide) (q0 := 2) (ci := 5) rfl rfl rfl rfl rfl hl.1 (Nat.le_of_ble_eq_true rfl) dX7_scanPoint_48 ⟨Nat.le_of_ble_eq_true rfl, Nat.le_of_ble_eq_true rfl⟩ (fun z_48 u H locs r_z_48 hp_48 hW => ?_)
    replace hp_48 := hp_48.symm
    subst hp_48
    refine z_istore F (pc := 51) hl (lv' := [(6, .int (iI (gC tc (60 * k) (ts k) ((f + (3 * i)) + 1)))), (5, .int (iI (gC tc (60 * k) (ts k) (f + (3 * i))))), (4, .int (iI (f + (3 * i)))), (0, .ref (aB 0)), (1, .int (iI k)), (2, .int (iI f)), (3, .int (iI i))]) dX7_scanPoint_51 (by decide) rfl (fun ls hl => ?_)
    refine z_aloadn F (pc := 53) dX7_scanPoint_53 rfl (lv_at hl 3 rfl) ?_
    refine z_get F (pc := 54) (C := RX7) (T := TX7) (N := 10) (ci := 7) inX7 hK hW 0 6 rfl rfl (by decide) rfl (List.mem_of_getElem? (i := 1) rfl) (v := .ref (aT 0)) rfl dX7_scanPoint_54 ?_
    refine z_iloadn F (pc := 57) dX7_scanPoint_57 rfl (lv_at hl 4 rfl) ?_
    refine z_iload F (pc := 58) dX7_scanPoint_58 (lv_at hl 2 rfl) ?_
    refine z_iconst F (pc := 60) (2) dX7_scanPoint_60 ?_
    refine z_iadd F (pc := 61) dX7_scanPoint_61 ?_
    refine z_callVi F (pc := 62) hK hW hA (As := [.int (iI k), .int (iI ((f + (3 * i)) + 2))]) (rest := []) (ws' := fun (u : Unit) => wB cI cZ aB aD aM aA aS aC aL aT di en mg ++ wT cI cZ aT tl tm ts tc ++ wD cI cZ aD xs ys lf ev nm sz) (wr := (wB cI cZ aB aD aM aA aS aC aL aT di en mg ++ wD cI cZ aD xs ys lf ev nm sz)) (c_X5_cell l D cI cZ aT tl tm ts tc k ((f + (3 * i)) + 2) _ (by omega) (by omega) (by omega) (by omega) (by exact ht) (by exact hg)) (cwV 2 F.2.2.2.2 gX7_scanPoint_X5_cell rfl rfl rfl (by decide +kernel) ⟨Nat.le_of_ble_eq_true rfl, Nat.le_of_ble_eq_true rfl⟩) [2, 3, 4, 5, 6] [0, 1, 7, 8, 9, 10, 11, 12] [0, 1, 8, 9, 10, 11, 12, 2, 3, 4, 5, 6, 7] rfl rfl (by decide) (by decide) (by decide) (fun _ => rfl) (by decide) (q0 := 2) (ci := 5) rfl rfl rfl rfl rfl hl.1 (Nat.le_of_ble_eq_true rfl) dX7_scanPoint_62 ⟨Nat.le_of_ble_eq_true rfl, Nat.le_of_ble_eq_true rfl⟩ (fun z_62 u H locs r_z_62 hp_62 hW => ?_)
    replace hp_62 := hp_62.symm
    subst hp_62
    refine z_if_eq F (pc := 65) 72 dX7_scanPoint_65 (by decide) (by omega) (fun c_65 => ?_) (fun c_65 => ?_)
    · skip
      refine z_iconst F (pc := 72) (0) dX7_scanPoint_72 ?_
      refine z_istore F (pc := 73) hl (lv' := [(7, .int (iI 0)), (6, .int (iI (gC tc (60 * k) (ts k) ((f + (3 * i)) + 1)))), (5, .int (iI (gC tc (60 * k) (ts k) (f + (3 * i))))), (4, .int (iI (f + (3 * i)))), (0, .ref (aB 0)), (1, .int (iI k)), (2, .int (iI f)), (3, .int (iI i))]) dX7_scanPoint_73 (by decide) rfl (fun ls hl => ?_)
      refine z_aloadn F (pc := 75) dX7_scanPoint_75 rfl (lv_at hl 4 rfl) ?_
      refine z_get F (pc := 76) (C := RX7) (T := TX7) (N := 10) (ci := 7) inX7 hK hW 0 0 rfl rfl (by decide) rfl (List.mem_of_getElem? (i := 2) rfl) (v := .ref (aD 0)) rfl dX7_scanPoint_76 ?_
      refine z_iload F (pc := 79) dX7_scanPoint_79 (lv_at hl 2 rfl) ?_
      refine z_iload F (pc := 81) dX7_scanPoint_81 (lv_at hl 1 rfl) ?_
      refine z_iload F (pc := 83) dX7_scanPoint_83 (lv_at hl 0 rfl) ?_
      refine z_callVi F (pc := 85) hK hW hA (As := [.int (iI (gC tc (60 * k) (ts k) (f + (3 * i)))), .int (iI (gC tc (60 * k) (ts k) ((f + (3 * i)) + 1))), .int (iI 0)]) (rest := []) (ws' := fun (u : (Int → Int) × (Int → Int) × (Int → Int) × (Int)) => wB cI cZ aB aD aM aA aS aC aL aT di en mg ++ wT cI cZ aT tl tm ts tc ++ wD cI cZ aD u.1 u.2.1 u.2.2.1 ev nm u.2.2.2) (wr := (wB cI cZ aB aD aM aA aS aC aL aT di en mg ++ wT cI cZ aT tl tm ts tc)) (c_X2_add l D cI cZ aD xs ys lf ev nm sz (gC tc (60 * k) (ts k) (f + (3 * i))) (gC tc (60 * k) (ts k) ((f + (3 * i)) + 1)) 0 _ (by omega) (by omega) (by omega) (by omega) (by omega)) (cwV 3 F.2.2.2.2 gX7_scanPoint_X2_add rfl rfl rfl (by decide +kernel) ⟨Nat.le_of_ble_eq_true rfl, Nat.le_of_ble_eq_true rfl⟩) [7, 8, 9, 10, 11, 12] [0, 1, 2, 3, 4, 5, 6] [0, 1, 2, 3, 4, 5, 6, 7, 8, 9, 10, 11, 12] rfl rfl (by decide) (by decide) (by decide) (fun _ => rfl) (by decide) (q0 := 7) (ci := 2) rfl rfl rfl rfl rfl hl.1 (Nat.le_of_ble_eq_true rfl) dX7_scanPoint_85 ⟨Nat.le_of_ble_eq_true rfl, Nat.le_of_ble_eq_true rfl⟩ (fun z_85 u H locs r_z_85 hp_85 hW => ?_)
      obtain ⟨xs2_85, ys2_85, lf2_85, sz2_85⟩ := u
      dsimp only at hp_85 hW
      have hz9 : -3 ≤ z_85 ∧ z_85 ≤ 31 := by unfold addP at hp_85; omega
      refine z_istore F (pc := 88) hl (lv' := [(8, .int (iI z_85)), (7, .int (iI 0)), (6, .int (iI (gC tc (60 * k) (ts k) ((f + (3 * i)) + 1)))), (5, .int (iI (gC tc (60 * k) (ts k) (f + (3 * i))))), (4, .int (iI (f + (3 * i)))), (0, .ref (aB 0)), (1, .int (iI k)), (2, .int (iI f)), (3, .int (iI i))]) dX7_scanPoint_88 (by decide) rfl (fun ls hl => ?_)
      refine z_iload F (pc := 90) dX7_scanPoint_90 (lv_at hl 0 rfl) ?_
      refine z_if_ge F (pc := 92) 103 dX7_scanPoint_92 (by decide) (by omega) (fun c_92 => ?_) (fun c_92 => ?_)
      · skip
        refine z_iload F (pc := 103) dX7_scanPoint_103 (lv_at hl 0 rfl) ?_
        exact hret _ _ _ _ z_85 (xs2_85, ys2_85, lf2_85, sz2_85) dX7_scanPoint_105 (by omega) (by (try dsimp only) <;> (exact sp_y hI hp_85 (by omega) (by omega))) hW
      · skip
        refine z_bipush F (pc := 95) (-20) (by decide +kernel) dX7_scanPoint_95 ?_
        refine z_iload F (pc := 97) dX7_scanPoint_97 (lv_at hl 0 rfl) ?_
        refine z_iadd F (pc := 99) dX7_scanPoint_99 ?_
        refine z_goto F (pc := 100) 105 dX7_scanPoint_100 (by decide) ?_
        exact hret _ _ _ _ ((-20) + z_85) (xs2_85, ys2_85, lf2_85, sz2_85) dX7_scanPoint_105 (by omega) (by (try dsimp only) <;> (exact sp_n hd.1 hI hp_85 (by omega))) hW
    · skip
      refine z_iconst F (pc := 68) (1) dX7_scanPoint_68 ?_
      refine z_goto F (pc := 69) 73 dX7_scanPoint_69 (by decide) ?_
      refine z_istore F (pc := 73) hl (lv' := [(7, .int (iI 1)), (6, .int (iI (gC tc (60 * k) (ts k) ((f + (3 * i)) + 1)))), (5, .int (iI (gC tc (60 * k) (ts k) (f + (3 * i))))), (4, .int (iI (f + (3 * i)))), (0, .ref (aB 0)), (1, .int (iI k)), (2, .int (iI f)), (3, .int (iI i))]) dX7_scanPoint_73 (by decide) rfl (fun ls hl => ?_)
      refine z_aloadn F (pc := 75) dX7_scanPoint_75 rfl (lv_at hl 4 rfl) ?_
      refine z_get F (pc := 76) (C := RX7) (T := TX7) (N := 10) (ci := 7) inX7 hK hW 0 0 rfl rfl (by decide) rfl (List.mem_of_getElem? (i := 2) rfl) (v := .ref (aD 0)) rfl dX7_scanPoint_76 ?_
      refine z_iload F (pc := 79) dX7_scanPoint_79 (lv_at hl 2 rfl) ?_
      refine z_iload F (pc := 81) dX7_scanPoint_81 (lv_at hl 1 rfl) ?_
      refine z_iload F (pc := 83) dX7_scanPoint_83 (lv_at hl 0 rfl) ?_
      refine z_callVi F (pc := 85) hK hW hA (As := [.int (iI (gC tc (60 * k) (ts k) (f + (3 * i)))), .int (iI (gC tc (60 * k) (ts k) ((f + (3 * i)) + 1))), .int (iI 1)]) (rest := []) (ws' := fun (u : (Int → Int) × (Int → Int) × (Int → Int) × (Int)) => wB cI cZ aB aD aM aA aS aC aL aT di en mg ++ wT cI cZ aT tl tm ts tc ++ wD cI cZ aD u.1 u.2.1 u.2.2.1 ev nm u.2.2.2) (wr := (wB cI cZ aB aD aM aA aS aC aL aT di en mg ++ wT cI cZ aT tl tm ts tc)) (c_X2_add l D cI cZ aD xs ys lf ev nm sz (gC tc (60 * k) (ts k) (f + (3 * i))) (gC tc (60 * k) (ts k) ((f + (3 * i)) + 1)) 1 _ (by omega) (by omega) (by omega) (by omega) (by omega)) (cwV 3 F.2.2.2.2 gX7_scanPoint_X2_add rfl rfl rfl (by decide +kernel) ⟨Nat.le_of_ble_eq_true rfl, Nat.le_of_ble_eq_true rfl⟩) [7, 8, 9, 10, 11, 12] [0, 1, 2, 3, 4, 5, 6] [0, 1, 2, 3, 4, 5, 6, 7, 8, 9, 10, 11, 12] rfl rfl (by decide) (by decide) (by decide) (fun _ => rfl) (by decide) (q0 := 7) (ci := 2) rfl rfl rfl rfl rfl hl.1 (Nat.le_of_ble_eq_true rfl) dX7_scanPoint_85 ⟨Nat.le_of_ble_eq_true rfl, Nat.le_of_ble_eq_true rfl⟩ (fun z_85 u H locs r_z_85 hp_85 hW => ?_)
      obtain ⟨xs2_85, ys2_85, lf2_85, sz2_85⟩ := u
      dsimp only at hp_85 hW
      have hz9 : -3 ≤ z_85 ∧ z_85 ≤ 31 := by unfold addP at hp_85; omega
      refine z_istore F (pc := 88) hl (lv' := [(8, .int (iI z_85)), (7, .int (iI 1)), (6, .int (iI (gC tc (60 * k) (ts k) ((f + (3 * i)) + 1)))), (5, .int (iI (gC tc (60 * k) (ts k) (f + (3 * i))))), (4, .int (iI (f + (3 * i)))), (0, .ref (aB 0)), (1, .int (iI k)), (2, .int (iI f)), (3, .int (iI i))]) dX7_scanPoint_88 (by decide) rfl (fun ls hl => ?_)
      refine z_iload F (pc := 90) dX7_scanPoint_90 (lv_at hl 0 rfl) ?_
      refine z_if_ge F (pc := 92) 103 dX7_scanPoint_92 (by decide) (by omega) (fun c_92 => ?_) (fun c_92 => ?_)
      · skip
        refine z_iload F (pc := 103) dX7_scanPoint_103 (lv_at hl 0 rfl) ?_
        exact hret _ _ _ _ z_85 (xs2_85, ys2_85, lf2_85, sz2_85) dX7_scanPoint_105 (by omega) (by (try dsimp only) <;> (exact sp_y hI hp_85 (by omega) (by omega))) hW
      · skip
        refine z_bipush F (pc := 95) (-20) (by decide +kernel) dX7_scanPoint_95 ?_
        refine z_iload F (pc := 97) dX7_scanPoint_97 (lv_at hl 0 rfl) ?_
        refine z_iadd F (pc := 99) dX7_scanPoint_99 ?_
        refine z_goto F (pc := 100) 105 dX7_scanPoint_100 (by decide) ?_
        exact hret _ _ _ _ ((-20) + z_85) (xs2_85, ys2_85, lf2_85, sz2_85) dX7_scanPoint_105 (by omega) (by (try dsimp only) <;> (exact sp_n hd.1 hI hp_85 (by omega))) hW
  · skip
    have b_14 := zB_f hp_11 c_14
    refine z_bipush F (pc := 17) (-12) (by decide +kernel) dX7_scanPoint_17 ?_
    exact hret _ _ _ _ (-12) (xs, ys, lf, sz) dX7_scanPoint_19 (by omega) (by (try dsimp only) <;> (exact Or.inl ⟨Or.inl ⟨fun z => by have := z.2; have := z.1; omega, rfl⟩, rfl, rfl, rfl, rfl⟩)) hW

set_option maxHeartbeats 4000000 in
set_option maxRecDepth 100000 in
theorem c_X7_scan (l : Launch) (D : va_G) (cI cZ : ClassId) (aB aD aM aA aS aC aL aT : Nat → Nat) (di tl tm ts tc xs ys lf ev nm : Int → Int) (en mg sz : Int) (k q f nn : Int) (sz0 : Nat) (r_k : (-2147483648 ≤ k ∧ k < 2147483648)) (r_q : (-2147483648 ≤ q ∧ q < 2147483648)) (r_f : (-2147483648 ≤ f ∧ f < 2147483648)) (r_nn : (-2147483648 ≤ nn ∧ nn < 2147483648)) (ht : TokC tl tm ts) (hg : RgT tc) (hd : 0 ≤ sz ∧ sz ≤ 30) : Met l yX7_scan wsX7_scan ({ frames := 2, cells := 0, slots := 0, locals := 51 } : Room) (zPc D cI cZ [.ref (aB 0), .int (iI k), .int (iI q), .int (iI f), .int (iI nn)] (wB cI cZ aB aD aM aA aS aC aL aT di en mg ++ wT cI cZ aT tl tm ts tc ++ wD cI cZ aD xs ys lf ev nm sz) sz0) (zQi D cI cZ (wB cI cZ aB aD aM aA aS aC aL aT di en mg ++ wT cI cZ aT tl tm ts tc ++ wD cI cZ aD xs ys lf ev nm sz) sz0 (fun (r : Int) (u : (Int → Int) × (Int → Int) × (Int → Int) × (Int)) => scanR (tm k = 1) (tl k) xs ys lf (gC tc (60 * k) (ts k)) sz (ts k) k q f nn u.1 u.2.1 u.2.2.1 u.2.2.2 r) (fun (u : (Int → Int) × (Int → Int) × (Int → Int) × (Int)) => wB cI cZ aB aD aM aA aS aC aL aT di en mg ++ wT cI cZ aT tl tm ts tc ++ wD cI cZ aD u.1 u.2.1 u.2.2.1 ev nm u.2.2.2)) 0 0 (va_A (wB cI cZ aB aD aM aA aS aC aL aT di en mg ++ wT cI cZ aT tl tm ts tc ++ wD cI cZ aD xs ys lf ev nm sz) sz0) := by
  refine z_ofI (maxL := 8) (plainFor_of_name (by decide)) rfl (Nat.le_of_ble_eq_true rfl) (Or.inl rfl) ?_
  intro p e s m below meth c A ls Q F hK hW hA hl hret
  have hl : lv_has ls 8 [(0, .ref (aB 0)), (1, .int (iI k)), (2, .int (iI q)), (3, .int (iI f)), (4, .int (iI nn))] := hl
  have inX2 : ∀ w ∈ u_ws RX2 TX2 6, w ∈ wsX7_scan := fun _ h => List.mem_cons_of_mem _ (List.mem_append_right _ h)
  have inX5 : ∀ w ∈ u_ws RX5 TX5 4, w ∈ wsX7_scan := fun _ h => List.mem_cons_of_mem _ (List.mem_append_left _ (List.mem_append_right _ h))
  have inX7 : ∀ w ∈ u_ws RX7 TX7 10, w ∈ wsX7_scan := fun _ h => List.mem_cons_of_mem _ (List.mem_append_left _ (List.mem_append_left _ (List.mem_append_right _ h)))
  refine z_iloadn F (pc := 0) dX7_scan_0 rfl (lv_at hl 1 rfl) ?_
  refine z_callSi F (pc := 1) hK hW hA (As := [.int (iI k)]) (rest := []) (c_X5_isNumber l D cI cZ k _ (by omega)) (va_cwS 1 F.2.2.2.2 gX7_scan_X5_isNumber rfl rfl rfl (by decide +kernel) ⟨Nat.le_of_ble_eq_true rfl, Nat.le_of_ble_eq_true rfl⟩) rfl rfl hl.1 (Nat.le_of_ble_eq_true rfl) dX7_scan_1 ⟨Nat.le_of_ble_eq_true rfl, Nat.le_of_ble_eq_true rfl⟩ (fun z_1 H locs r_z_1 hp_1 hW => ?_)
  refine z_if_eq F (pc := 4) 24 dX7_scan_4 (by decide) (by omega) (fun c_4 => ?_) (fun c_4 => ?_)
  · skip
    have b_4 := zB_f hp_1 c_4
    refine z_iconst F (pc := 24) (-1) dX7_scan_24 ?_
    exact hret _ _ _ _ (-1) (xs, ys, lf, sz) dX7_scan_25 (by omega) (by (try dsimp only) <;> (exact Or.inl ⟨by unfold scanNo scOk; omega, rfl, rfl, rfl, rfl⟩)) hW
  · skip
    have b_4 := zB_t hp_1 c_4
    refine z_iloadn F (pc := 7) dX7_scan_7 rfl (lv_at hl 2 rfl) ?_
    refine z_callSi F (pc := 8) hK hW hA (As := [.int (iI q)]) (rest := []) (c_X5_isLane l D cI cZ q _ (by omega)) (va_cwS 1 F.2.2.2.2 gX7_scan_X5_isLane rfl rfl rfl (by decide +kernel) ⟨Nat.le_of_ble_eq_true rfl, Nat.le_of_ble_eq_true rfl⟩) rfl rfl hl.1 (Nat.le_of_ble_eq_true rfl) dX7_scan_8 ⟨Nat.le_of_ble_eq_true rfl, Nat.le_of_ble_eq_true rfl⟩ (fun z_8 H locs r_z_8 hp_8 hW => ?_)
    refine z_if_eq F (pc := 11) 24 dX7_scan_11 (by decide) (by omega) (fun c_11 => ?_) (fun c_11 => ?_)
    · skip
      have b_11 := zB_f hp_8 c_11
      refine z_iconst F (pc := 24) (-1) dX7_scan_24 ?_
      exact hret _ _ _ _ (-1) (xs, ys, lf, sz) dX7_scan_25 (by omega) (by (try dsimp only) <;> (exact Or.inl ⟨by unfold scanNo scOk; omega, rfl, rfl, rfl, rfl⟩)) hW
    · skip
      have b_11 := zB_t hp_8 c_11
      refine z_iload F (pc := 14) dX7_scan_14 (lv_at hl 4 rfl) ?_
      refine z_bipush F (pc := 16) (20) (by decide +kernel) dX7_scan_16 ?_
      refine z_callSi F (pc := 18) hK hW hA (As := [.int (iI nn), .int (iI 20)]) (rest := []) (c_X7_isWithin l D cI cZ nn 20 _ (by omega) (by omega)) (va_cwS 2 F.2.2.2.2 gX7_scan_X7_isWithin rfl rfl rfl (by decide +kernel) ⟨Nat.le_of_ble_eq_true rfl, Nat.le_of_ble_eq_true rfl⟩) rfl rfl hl.1 (Nat.le_of_ble_eq_true rfl) dX7_scan_18 ⟨Nat.le_of_ble_eq_true rfl, Nat.le_of_ble_eq_true rfl⟩ (fun z_18 H locs r_z_18 hp_18 hW => ?_)
      refine z_if_ne F (pc := 21) 26 dX7_scan_21 (by decide) (by omega) (fun c_21 => ?_) (fun c_21 => ?_)
      · skip
        have b_21 := zB_t hp_18 c_21
        have h9k := ht k (by omega) (by omega)
        refine z_aloadn F (pc := 26) dX7_scan_26 rfl (lv_at hl 0 rfl) ?_
        refine z_get F (pc := 27) (C := RX7) (T := TX7) (N := 10) (ci := 7) inX7 hK hW 0 6 rfl rfl (by decide) rfl (List.mem_of_getElem? (i := 1) rfl) (v := .ref (aT 0)) rfl dX7_scan_27 ?_
        refine z_iloadn F (pc := 30) dX7_scan_30 rfl (lv_at hl 1 rfl) ?_
        refine z_callVi F (pc := 31) hK hW hA (As := [.int (iI k)]) (rest := []) (ws' := fun (u : Unit) => wB cI cZ aB aD aM aA aS aC aL aT di en mg ++ wT cI cZ aT tl tm ts tc ++ wD cI cZ aD xs ys lf ev nm sz) (wr := (wB cI cZ aB aD aM aA aS aC aL aT di en mg ++ wD cI cZ aD xs ys lf ev nm sz)) (c_X5_isNothing l D cI cZ aT tl tm ts tc k _ (by omega) (by omega) (by exact ht)) (cwV 1 F.2.2.2.2 gX7_scan_X5_isNothing rfl rfl rfl (by decide +kernel) ⟨Nat.le_of_ble_eq_true rfl, Nat.le_of_ble_eq_true rfl⟩) [2, 3, 4, 5, 6] [0, 1, 7, 8, 9, 10, 11, 12] [0, 1, 8, 9, 10, 11, 12, 2, 3, 4, 5, 6, 7] rfl rfl (by decide) (by decide) (by decide) (fun _ => rfl) (by decide) (q0 := 2) (ci := 5) rfl rfl rfl rfl rfl hl.1 (Nat.le_of_ble_eq_true rfl) dX7_scan_31 ⟨Nat.le_of_ble_eq_true rfl, Nat.le_of_ble_eq_true rfl⟩ (fun z_31 u H locs r_z_31 hp_31 hW => ?_)
        refine z_if_eq F (pc := 34) 40 dX7_scan_34 (by decide) (by omega) (fun c_34 => ?_) (fun c_34 => ?_)
        · skip
          have b_34 := zB_f hp_31 c_34
          refine z_aloadn F (pc := 40) dX7_scan_40 rfl (lv_at hl 0 rfl) ?_
          refine z_get F (pc := 41) (C := RX7) (T := TX7) (N := 10) (ci := 7) inX7 hK hW 0 6 rfl rfl (by decide) rfl (List.mem_of_getElem? (i := 1) rfl) (v := .ref (aT 0)) rfl dX7_scan_41 ?_
          refine z_get F (pc := 44) (C := RX5) (T := TX5) (N := 4) (ci := 5) inX5 hK hW 2 0 rfl rfl (by decide) rfl (List.mem_of_getElem? (i := 2) rfl) (v := .ref (aT 1)) rfl dX7_scan_44 ?_
          refine z_iloadn F (pc := 47) dX7_scan_47 rfl (lv_at hl 1 rfl) ?_
          refine z_iald F (pc := 48) hK hW 3 rfl (by decide) dX7_scan_48 (by omega) ?_
          refine z_iloadn F (pc := 49) dX7_scan_49 rfl (lv_at hl 2 rfl) ?_
          refine z_icmp_eq F (pc := 50) 56 dX7_scan_50 (by decide) (by omega) (fun c_50 => ?_) (fun c_50 => ?_)
          · skip
            refine z_aloadn F (pc := 56) dX7_scan_56 rfl (lv_at hl 0 rfl) ?_
            refine z_get F (pc := 57) (C := RX7) (T := TX7) (N := 10) (ci := 7) inX7 hK hW 0 0 rfl rfl (by decide) rfl (List.mem_of_getElem? (i := 3) rfl) (v := .ref (aD 0)) rfl dX7_scan_57 ?_
            refine z_get F (pc := 60) (C := RX2) (T := TX2) (N := 6) (ci := 2) inX2 hK hW 7 5 rfl rfl (by decide) rfl (List.mem_of_getElem? (i := 4) rfl) (v := .int (iI sz)) rfl dX7_scan_60 ?_
            refine z_istore F (pc := 63) hl (lv' := [(5, .int (iI sz)), (0, .ref (aB 0)), (1, .int (iI k)), (2, .int (iI q)), (3, .int (iI f)), (4, .int (iI nn))]) dX7_scan_63 (by decide) rfl (fun ls hl => ?_)
            refine z_iconst F (pc := 65) (0) dX7_scan_65 ?_
            refine z_istore F (pc := 66) hl (lv' := [(6, .int (iI 0)), (5, .int (iI sz)), (0, .ref (aB 0)), (1, .int (iI k)), (2, .int (iI q)), (3, .int (iI f)), (4, .int (iI nn))]) dX7_scan_66 (by decide) rfl (fun ls hl => ?_)
            have cut_68 : ∀ (fuel : Nat) (n : Nat) (i : Int) (x1 : Int → Int) (y1 : Int → Int) (l1 : Int → Int) (z1 : Int) (H : Heap) (locs : List Loc) (ls : Array Slot), (nn - i).toNat < fuel → (i = (n : Int) ∧ i ≤ nn ∧ (0 ≤ z1 ∧ z1 ≤ 30)) → (scI xs ys lf (gC tc (60 * k) (ts k)) sz (ts k) f n x1 y1 l1 z1) → lv_has ls 8 [(6, .int (iI i)), (5, .int (iI sz)), (0, .ref (aB 0)), (1, .int (iI k)), (2, .int (iI q)), (3, .int (iI f)), (4, .int (iI nn))] → zW D A s.heap H locs (wB cI cZ aB aD aM aA aS aC aL aT di en mg ++ wT cI cZ aT tl tm ts tc ++ wD cI cZ aD x1 y1 l1 ev nm z1) → W p l e ({ frames := 2, cells := 0, slots := 0, locals := 51 } : Room) s m ([.ref (aB 0), .int (iI k), .int (iI q), .int (iI f), .int (iI nn)] : List Value).toArray below meth c H locs 0 0 Q (F0 m 68 ls []) := by
              intro fuel
              induction fuel with
              | zero => intro n i x1 y1 l1 z1 H locs ls hm; exact absurd hm (Nat.not_lt_zero _)
              | succ fuel ih_68 =>
                intro n i x1 y1 l1 z1 H locs ls hm_68 g0 g1 hl hW
                refine z_iload F (pc := 68) dX7_scan_68 (lv_at hl 0 rfl) ?_
                refine z_iload F (pc := 70) dX7_scan_70 (lv_at hl 6 rfl) ?_
                refine z_icmp_ge F (pc := 72) 108 dX7_scan_72 (by decide) (by omega) (fun c_72 => ?_) (fun c_72 => ?_)
                · skip
                  refine z_aloadn F (pc := 108) dX7_scan_108 rfl (lv_at hl 2 rfl) ?_
                  refine z_get F (pc := 109) (C := RX7) (T := TX7) (N := 10) (ci := 7) inX7 hK hW 0 0 rfl rfl (by decide) rfl (List.mem_of_getElem? (i := 3) rfl) (v := .ref (aD 0)) rfl dX7_scan_109 ?_
                  refine z_get F (pc := 112) (C := RX2) (T := TX2) (N := 6) (ci := 2) inX2 hK hW 7 5 rfl rfl (by decide) rfl (List.mem_of_getElem? (i := 4) rfl) (v := .int (iI z1)) rfl dX7_scan_112 ?_
                  exact hret _ _ _ _ z1 (x1, y1, l1, z1) dX7_scan_115 (by omega) (by (try dsimp only) <;> (exact Or.inr ⟨by unfold scanYes scOk; omega, Or.inl ⟨n, by omega, g1, rfl⟩⟩)) hW
                · skip
                  refine z_aloadn F (pc := 75) dX7_scan_75 rfl (lv_at hl 2 rfl) ?_
                  refine z_iloadn F (pc := 76) dX7_scan_76 rfl (lv_at hl 3 rfl) ?_
                  refine z_iloadn F (pc := 77) dX7_scan_77 rfl (lv_at hl 5 rfl) ?_
                  refine z_iload F (pc := 78) dX7_scan_78 (lv_at hl 0 rfl) ?_
                  refine z_callVi F (pc := 80) hK hW hA (As := [.int (iI k), .int (iI f), .int (iI i)]) (rest := []) (ws' := fun (u : (Int → Int) × (Int → Int) × (Int → Int) × (Int)) => wB cI cZ aB aD aM aA aS aC aL aT di en mg ++ wT cI cZ aT tl tm ts tc ++ wD cI cZ aD u.1 u.2.1 u.2.2.1 ev nm u.2.2.2) (wr := ([])) (c_X7_scanPoint l D cI cZ aB aD aM aA aS aC aL aT di tl tm ts tc x1 y1 l1 ev nm en mg z1 k f i _ (by omega) (by omega) (by omega) (by omega) (by exact ht) (by exact hg) (by omega) (by omega)) (cwV 3 F.2.2.2.2 gX7_scan_X7_scanPoint rfl rfl rfl (by decide +kernel) ⟨Nat.le_of_ble_eq_true rfl, Nat.le_of_ble_eq_true rfl⟩) [0, 1, 2, 3, 4, 5, 6, 7, 8, 9, 10, 11, 12] [] [0, 1, 2, 3, 4, 5, 6, 7, 8, 9, 10, 11, 12] rfl rfl (by decide) (by decide) (by decide) (fun _ => rfl) (by decide) (q0 := 0) (ci := 7) rfl rfl rfl rfl rfl hl.1 (Nat.le_of_ble_eq_true rfl) dX7_scan_80 ⟨Nat.le_of_ble_eq_true rfl, Nat.le_of_ble_eq_true rfl⟩ (fun z_80 u H locs r_z_80 hp_80 hW => ?_)
                  obtain ⟨xs2_80, ys2_80, lf2_80, sz2_80⟩ := u
                  dsimp only at hp_80 hW
                  have hsz := spR_z hp_80 g0.2.2
                  rw [g0.1] at hp_80
                  refine z_istore F (pc := 83) hl (lv' := [(7, .int (iI z_80)), (6, .int (iI i)), (5, .int (iI sz)), (0, .ref (aB 0)), (1, .int (iI k)), (2, .int (iI q)), (3, .int (iI f)), (4, .int (iI nn))]) dX7_scan_83 (by decide) rfl (fun ls hl => ?_)
                  refine z_iload F (pc := 85) dX7_scan_85 (lv_at hl 0 rfl) ?_
                  refine z_if_ge F (pc := 87) 102 dX7_scan_87 (by decide) (by omega) (fun c_87 => ?_) (fun c_87 => ?_)
                  · skip
                    have hst := scI_s g1 hp_80 (by omega)
                    refine z_iinc F (pc := 102) hl (lv' := [(6, .int (iI (i + 1))), (7, .int (iI z_80)), (5, .int (iI sz)), (0, .ref (aB 0)), (1, .int (iI k)), (2, .int (iI q)), (3, .int (iI f)), (4, .int (iI nn))]) dX7_scan_102 (k := 1) rfl (by decide) rfl (fun ls hl => ?_)
                    refine z_goto F (pc := 105) 68 dX7_scan_105 (by decide) ?_
                    exact ih_68 (n + 1) (i + 1) xs2_80 ys2_80 lf2_80 sz2_80 _ _ _ (by omega) (by omega) (by exact hst) (lv_sub hl [0, 2, 3, 4, 5, 6, 7] rfl) hW
                  · skip
                    have hst := scF_of (nn := nn) g0.2.2.1 (by omega) g1 hp_80 (by omega)
                    refine z_aloadn F (pc := 90) dX7_scan_90 rfl (lv_at hl 3 rfl) ?_
                    refine z_get F (pc := 91) (C := RX7) (T := TX7) (N := 10) (ci := 7) inX7 hK hW 0 0 rfl rfl (by decide) rfl (List.mem_of_getElem? (i := 3) rfl) (v := .ref (aD 0)) rfl dX7_scan_91 ?_
                    refine z_iload F (pc := 94) dX7_scan_94 (lv_at hl 2 rfl) ?_
                    refine z_callVv F (pc := 96) hK hW hA (As := [.int (iI sz)]) (rest := []) (ws' := fun (u : (Int)) => wB cI cZ aB aD aM aA aS aC aL aT di en mg ++ wT cI cZ aT tl tm ts tc ++ wD cI cZ aD xs2_80 ys2_80 lf2_80 ev nm u) (wr := (wB cI cZ aB aD aM aA aS aC aL aT di en mg ++ wT cI cZ aT tl tm ts tc)) (c_X2_cutTo l D cI cZ aD xs2_80 ys2_80 lf2_80 ev nm sz2_80 sz _ (by omega)) (cwV 1 F.2.2.2.2 gX7_scan_X2_cutTo rfl rfl rfl (by decide +kernel) ⟨Nat.le_of_ble_eq_true rfl, Nat.le_of_ble_eq_true rfl⟩) [7, 8, 9, 10, 11, 12] [0, 1, 2, 3, 4, 5, 6] [0, 1, 2, 3, 4, 5, 6, 7, 8, 9, 10, 11, 12] rfl rfl (by decide) (by decide) (by decide) (fun _ => rfl) (by decide) (q0 := 7) (ci := 2) rfl rfl rfl rfl rfl hl.1 (Nat.le_of_ble_eq_true rfl) dX7_scan_96 ⟨Nat.le_of_ble_eq_true rfl, Nat.le_of_ble_eq_true rfl⟩ (fun u H locs hp_96 hW => ?_)
                    obtain ⟨sz2_96, rfl⟩ : ∃ v, v = u := ⟨_, rfl⟩
                    refine z_iload F (pc := 99) dX7_scan_99 (lv_at hl 0 rfl) ?_
                    exact hret _ _ _ _ z_80 (xs2_80, ys2_80, lf2_80, sz2_96) dX7_scan_101 (by omega) (by (try dsimp only) <;> (exact Or.inr ⟨by unfold scanYes scOk; omega, Or.inr ⟨hst, hp_96⟩⟩)) hW
            exact cut_68 _ 0 0 xs ys lf sz _ _ _ (Nat.lt_succ_self _) (by omega) (by exact scI_0 _ _ _ _ _ _ _) (lv_sub hl [0, 1, 2, 3, 4, 5, 6] rfl) hW
          · skip
            refine z_bipush F (pc := 53) (-13) (by decide +kernel) dX7_scan_53 ?_
            exact hret _ _ _ _ (-13) (xs, ys, lf, sz) dX7_scan_55 (by omega) (by (try dsimp only) <;> (exact Or.inl ⟨by unfold scanNo scOk; omega, rfl, rfl, rfl, rfl⟩)) hW
        · skip
          have b_34 := zB_t hp_31 c_34
          refine z_bipush F (pc := 37) (-11) (by decide +kernel) dX7_scan_37 ?_
          exact hret _ _ _ _ (-11) (xs, ys, lf, sz) dX7_scan_39 (by omega) (by (try dsimp only) <;> (exact Or.inl ⟨by unfold scanNo scOk; omega, rfl, rfl, rfl, rfl⟩)) hW
      · skip
        have b_21 := zB_f hp_18 c_21
        refine z_iconst F (pc := 24) (-1) dX7_scan_24 ?_
        exact hret _ _ _ _ (-1) (xs, ys, lf, sz) dX7_scan_25 (by omega) (by (try dsimp only) <;> (exact Or.inl ⟨by unfold scanNo scOk; omega, rfl, rfl, rfl, rfl⟩)) hW

set_option maxHeartbeats 4000000 in
set_option maxRecDepth 100000 in
theorem c_X7_count (l : Launch) (D : va_G) (cI cZ : ClassId) (aB aD aM aA aS aC aL aT : Nat → Nat) (di xs ys lf ev nm lb kd pt cx cr cl ll rw fn fp so nu al ak ap : Int → Int) (en mg sz mn cn ln fc an ax : Int) (w : Int) (sz0 : Nat) (r_w : (-2147483648 ≤ w ∧ w < 2147483648)) (hz : (0 ≤ sz ∧ sz ≤ 40) ∧ (0 ≤ mn ∧ mn ≤ 40) ∧ (0 ≤ cn ∧ cn ≤ 40) ∧ (0 ≤ ln ∧ ln ≤ 40) ∧ (0 ≤ an ∧ an ≤ 40)) : Met l yX7_count wsX7_count ({ frames := 0, cells := 0, slots := 0, locals := 0 } : Room) (zPc D cI cZ [.ref (aB 0), .int (iI w)] (wB cI cZ aB aD aM aA aS aC aL aT di en mg ++ wD cI cZ aD xs ys lf ev nm sz ++ wM cI cZ aM lb kd pt mn ++ wC cI cZ aC cx cr cl ll cn ++ wL cI cZ aL rw fn fp ln fc ++ wA cI cZ aA so nu al ak ap an ax) sz0) (zQi D cI cZ (wB cI cZ aB aD aM aA aS aC aL aT di en mg ++ wD cI cZ aD xs ys lf ev nm sz ++ wM cI cZ aM lb kd pt mn ++ wC cI cZ aC cx cr cl ll cn ++ wL cI cZ aL rw fn fp ln fc ++ wA cI cZ aA so nu al ak ap an ax) sz0 (fun (r : Int) (u : Unit) => countR sz mn cn ln an w r) (fun (u : Unit) => wB cI cZ aB aD aM aA aS aC aL aT di en mg ++ wD cI cZ aD xs ys lf ev nm sz ++ wM cI cZ aM lb kd pt mn ++ wC cI cZ aC cx cr cl ll cn ++ wL cI cZ aL rw fn fp ln fc ++ wA cI cZ aA so nu al ak ap an ax)) 0 0 (va_A (wB cI cZ aB aD aM aA aS aC aL aT di en mg ++ wD cI cZ aD xs ys lf ev nm sz ++ wM cI cZ aM lb kd pt mn ++ wC cI cZ aC cx cr cl ll cn ++ wL cI cZ aL rw fn fp ln fc ++ wA cI cZ aA so nu al ak ap an ax) sz0) := by
  refine z_ofI (maxL := 2) (plainFor_of_name (by decide)) rfl (Nat.le_of_ble_eq_true rfl) (Or.inl rfl) ?_
  intro p e s m below meth c A ls Q F hK hW hA hl hret
  have hl : lv_has ls 2 [(0, .ref (aB 0)), (1, .int (iI w))] := hl
  have inX0 : ∀ w ∈ u_ws RX0 TX0 7, w ∈ wsX7_count := fun _ h => List.mem_cons_of_mem _ (List.mem_append_right _ h)
  have inX1 : ∀ w ∈ u_ws RX1 TX1 5, w ∈ wsX7_count := fun _ h => List.mem_cons_of_mem _ (List.mem_append_left _ (List.mem_append_left _ (List.mem_append_right _ h)))
  have inX2 : ∀ w ∈ u_ws RX2 TX2 6, w ∈ wsX7_count := fun _ h => List.mem_cons_of_mem _ (List.mem_append_left _ (List.mem_append_left _ (List.mem_append_left _ (List.mem_append_left _ (List.mem_append_right _ h)))))
  have inX3 : ∀ w ∈ u_ws RX3 TX3 5, w ∈ wsX7_count := fun _ h => List.mem_cons_of_mem _ (List.mem_append_left _ (List.mem_append_right _ h))
  have inX6 : ∀ w ∈ u_ws RX6 TX6 4, w ∈ wsX7_count := fun _ h => List.mem_cons_of_mem _ (List.mem_append_left _ (List.mem_append_left _ (List.mem_append_left _ (List.mem_append_right _ h))))
  have inX7 : ∀ w ∈ u_ws RX7 TX7 10, w ∈ wsX7_count := fun _ h => List.mem_cons_of_mem _ (List.mem_append_left _ (List.mem_append_left _ (List.mem_append_left _ (List.mem_append_left _ (List.mem_append_left _ (List.mem_append_right _ h))))))
  refine z_iloadn F (pc := 0) dX7_count_0 rfl (lv_at hl 1 rfl) ?_
  by_cases t_0 : w = 0
  · refine lv_tableIn F.1 F.2.1 (pc := 1) (off := 35) (tgt := 36) dX7_count_1 (by rw [iI_toInt (by omega)]; omega) (by rw [iI_toInt (by omega)]; omega) (by rw [iI_toInt (by omega), t_0]; rfl) (by decide) ?_
    refine z_aloadn F (pc := 36) dX7_count_36 rfl (lv_at hl 0 rfl) ?_
    refine z_get F (pc := 37) (C := RX7) (T := TX7) (N := 10) (ci := 7) inX7 hK hW 0 0 rfl rfl (by decide) rfl (List.mem_of_getElem? (i := 1) rfl) (v := .ref (aD 0)) rfl dX7_count_37 ?_
    refine z_get F (pc := 40) (C := RX2) (T := TX2) (N := 6) (ci := 2) inX2 hK hW 2 5 rfl rfl (by decide) rfl (List.mem_of_getElem? (i := 2) rfl) (v := .int (iI sz)) rfl dX7_count_40 ?_
    exact hret _ _ _ _ sz () dX7_count_43 (by omega) (by unfold countR; omega) hW
  by_cases t_1 : w = 1
  · refine lv_tableIn F.1 F.2.1 (pc := 1) (off := 43) (tgt := 44) dX7_count_1 (by rw [iI_toInt (by omega)]; omega) (by rw [iI_toInt (by omega)]; omega) (by rw [iI_toInt (by omega), t_1]; rfl) (by decide) ?_
    refine z_aloadn F (pc := 44) dX7_count_44 rfl (lv_at hl 0 rfl) ?_
    refine z_get F (pc := 45) (C := RX7) (T := TX7) (N := 10) (ci := 7) inX7 hK hW 0 1 rfl rfl (by decide) rfl (List.mem_of_getElem? (i := 3) rfl) (v := .ref (aM 0)) rfl dX7_count_45 ?_
    refine z_get F (pc := 48) (C := RX6) (T := TX6) (N := 4) (ci := 6) inX6 hK hW 8 3 rfl rfl (by decide) rfl (List.mem_of_getElem? (i := 4) rfl) (v := .int (iI mn)) rfl dX7_count_48 ?_
    exact hret _ _ _ _ mn () dX7_count_51 (by omega) (by unfold countR; omega) hW
  by_cases t_2 : w = 2
  · refine lv_tableIn F.1 F.2.1 (pc := 1) (off := 51) (tgt := 52) dX7_count_1 (by rw [iI_toInt (by omega)]; omega) (by rw [iI_toInt (by omega)]; omega) (by rw [iI_toInt (by omega), t_2]; rfl) (by decide) ?_
    refine z_aloadn F (pc := 52) dX7_count_52 rfl (lv_at hl 0 rfl) ?_
    refine z_get F (pc := 53) (C := RX7) (T := TX7) (N := 10) (ci := 7) inX7 hK hW 0 4 rfl rfl (by decide) rfl (List.mem_of_getElem? (i := 5) rfl) (v := .ref (aC 0)) rfl dX7_count_53 ?_
    refine z_get F (pc := 56) (C := RX1) (T := TX1) (N := 5) (ci := 1) inX1 hK hW 12 4 rfl rfl (by decide) rfl (List.mem_of_getElem? (i := 6) rfl) (v := .int (iI cn)) rfl dX7_count_56 ?_
    exact hret _ _ _ _ cn () dX7_count_59 (by omega) (by unfold countR; omega) hW
  by_cases t_3 : w = 3
  · refine lv_tableIn F.1 F.2.1 (pc := 1) (off := 59) (tgt := 60) dX7_count_1 (by rw [iI_toInt (by omega)]; omega) (by rw [iI_toInt (by omega)]; omega) (by rw [iI_toInt (by omega), t_3]; rfl) (by decide) ?_
    refine z_aloadn F (pc := 60) dX7_count_60 rfl (lv_at hl 0 rfl) ?_
    refine z_get F (pc := 61) (C := RX7) (T := TX7) (N := 10) (ci := 7) inX7 hK hW 0 5 rfl rfl (by decide) rfl (List.mem_of_getElem? (i := 7) rfl) (v := .ref (aL 0)) rfl dX7_count_61 ?_
    refine z_get F (pc := 64) (C := RX3) (T := TX3) (N := 5) (ci := 3) inX3 hK hW 17 3 rfl rfl (by decide) rfl (List.mem_of_getElem? (i := 8) rfl) (v := .int (iI ln)) rfl dX7_count_64 ?_
    exact hret _ _ _ _ ln () dX7_count_67 (by omega) (by unfold countR; omega) hW
  by_cases t_4 : w = 4
  · refine lv_tableIn F.1 F.2.1 (pc := 1) (off := 67) (tgt := 68) dX7_count_1 (by rw [iI_toInt (by omega)]; omega) (by rw [iI_toInt (by omega)]; omega) (by rw [iI_toInt (by omega), t_4]; rfl) (by decide) ?_
    refine z_aloadn F (pc := 68) dX7_count_68 rfl (lv_at hl 0 rfl) ?_
    refine z_get F (pc := 69) (C := RX7) (T := TX7) (N := 10) (ci := 7) inX7 hK hW 0 2 rfl rfl (by decide) rfl (List.mem_of_getElem? (i := 9) rfl) (v := .ref (aA 0)) rfl dX7_count_69 ?_
    refine z_get F (pc := 72) (C := RX0) (T := TX0) (N := 7) (ci := 0) inX0 hK hW 21 5 rfl rfl (by decide) rfl (List.mem_of_getElem? (i := 10) rfl) (v := .int (iI an)) rfl dX7_count_72 ?_
    exact hret _ _ _ _ an () dX7_count_75 (by omega) (by unfold countR; omega) hW
  refine lv_tableOut F.1 F.2.1 (pc := 1) (tgt := 76) dX7_count_1 (by rw [iI_toInt (by omega)]; omega) (by decide) ?_
  refine z_iconst F (pc := 76) (-1) dX7_count_76 ?_
  exact hret _ _ _ _ (-1) () dX7_count_77 (by omega) (by unfold countR; omega) hW
