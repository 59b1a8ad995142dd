def dn (nm pt kd : Int → Int) (k : Int) : Int := dF nm pt (16 * k) (kd k)
def Kok (kd : Int → Int) (mn : Int) : Prop := ∀ j, 0 ≤ j → j < mn → 0 ≤ kd j ∧ kd j ≤ 4
def Pok (pt : Int → Int) (mn : Int) : Prop := ∀ j, 0 ≤ j → j < 16 * mn → -1000 ≤ pt j ∧ pt j ≤ 1000
def Lok (lb : Int → Int) (mn : Int) : Prop := ∀ j, 0 ≤ j → j < mn → 0 ≤ lb j ∧ lb j ≤ 9
theorem Pok_in {pt : Int → Int} {mn k : Int} (h : Pok pt mn) (hk : 0 ≤ k ∧ k < mn) : inP pt (16 * k) := inP_of h hk
theorem rO_in {pt : Int → Int} {mn k : Int} (h : Pok pt mn) (hk : 0 ≤ k ∧ k < mn) : inH (rO pt k) := fun j j0 j1 => h (16 * k + j) (by omega) (by omega)
theorem inH_eq {f g : Int → Int} (h : eqH f g) (hg : inH g) : inH f := fun j j0 j1 => by rw [h j j0 j1]; exact hg j j0 j1
theorem dn_b {nm pt kd : Int → Int} {mn k : Int} (h : inH nm) (hp : Pok pt mn) (hk : 0 ≤ k ∧ k < mn) : 0 ≤ dn nm pt kd k ∧ dn nm pt kd k ≤ 32000 := dF_b h (Pok_in hp hk)
/-- the nearest of those below n, the first of several -/
def nearT (nm pt kd : Int → Int) (n b : Int) : Prop := (0 ≤ b ∧ b < n) ∧ (∀ k, 0 ≤ k → k < n → dn nm pt kd b ≤ dn nm pt kd k) ∧ ∀ k, 0 ≤ k → k < b → dn nm pt kd b < dn nm pt kd k
theorem nearT_one {f g pt kd : Int → Int} {n b b2 : Int} (e : eqH f g) (h : nearT f pt kd n b) (h2 : nearT g pt kd n b2) : b = b2 := by
  have ed : ∀ k, dn f pt kd k = dn g pt kd k := fun k => dF_cong e _ _ _
  have a1 := h.2.1 b2 h2.1.1 h2.1.2
  have a2 := h2.2.1 b h.1.1 h.1.2
  have d1 := ed b
  have d2 := ed b2
  rcases Int.lt_trichotomy b b2 with q | q | q
  · have := h2.2.2 b h.1.1 q
    omega
  · exact q
  · have := h.2.2 b2 h2.1.1 q
    omega
def goodR (nm pt kd lb : Int → Int) (mn en mg b : Int) : Prop := dn nm pt kd b ≤ en ∧ ∀ k, 0 ≤ k → k < mn → lb k = lb b ∨ dn nm pt kd b + mg ≤ dn nm pt kd k
def nearR (xs ys lf : Int → Int) (sz : Int) (pt kd : Int → Int) (mn r : Int) : Prop := (wy xs ys lf sz = 0 ∧ r = -2) ∨ (¬ wy xs ys lf sz = 0 ∧ mn = 0 ∧ r = -4) ∨ (¬ wy xs ys lf sz = 0 ∧ 0 < mn ∧ ∃ nm, NmOf xs ys lf sz nm ∧ nearT nm pt kd mn r)
def readR (xs ys lf : Int → Int) (sz : Int) (pt kd lb : Int → Int) (mn en mg r : Int) : Prop := (wy xs ys lf sz = 0 ∧ r = -2) ∨ (¬ wy xs ys lf sz = 0 ∧ mn = 0 ∧ r = -4) ∨ (¬ wy xs ys lf sz = 0 ∧ 0 < mn ∧ ∃ nm b, NmOf xs ys lf sz nm ∧ nearT nm pt kd mn b ∧ ((goodR nm pt kd lb mn en mg b ∧ r = lb b) ∨ (¬ goodR nm pt kd lb mn en mg b ∧ r = -5)))
theorem NmOf_in {xs ys lf : Int → Int} {sz : Int} {n : Int → Int} (h : NmOf xs ys lf sz n) : inH n := NmOf_b h
theorem nearR_one {xs ys lf : Int → Int} {sz : Int} {pt kd : Int → Int} {mn r r2 : Int} (h : nearR xs ys lf sz pt kd mn r) (h2 : nearR xs ys lf sz pt kd mn r2) : r = r2 := by
  rcases h with ⟨a, b⟩ | ⟨a, b, c⟩ | ⟨a, b, nm, c, d⟩ <;> rcases h2 with ⟨a2, b2⟩ | ⟨a2, b2, c2⟩ | ⟨a2, b2, nm2, c2, d2⟩ <;> first | omega | exact nearT_one (NmOf_one c c2) d d2
theorem goodR_cong {f g pt kd lb : Int → Int} {mn en mg b : Int} (e : eqH f g) (h : goodR f pt kd lb mn en mg b) : goodR g pt kd lb mn en mg b := by
  have ed : ∀ k, dn f pt kd k = dn g pt kd k := fun k => dF_cong e _ _ _
  refine ⟨by rw [← ed]; exact h.1, fun k k0 k1 => ?_⟩
  rw [← ed, ← ed]
  exact h.2 k k0 k1
theorem eqH_sy {f g : Int → Int} (h : eqH f g) : eqH g f := fun j j0 j1 => (h j j0 j1).symm
theorem readR_one {xs ys lf : Int → Int} {sz : Int} {pt kd lb : Int → Int} {mn en mg r r2 : Int} (h : readR xs ys lf sz pt kd lb mn en mg r) (h2 : readR xs ys lf sz pt kd lb mn en mg r2) : r = r2 := by
  rcases h with ⟨a, b⟩ | ⟨a, b, c⟩ | ⟨a, b, nm, k, c, d, z⟩ <;> rcases h2 with ⟨a2, b2⟩ | ⟨a2, b2, c2⟩ | ⟨a2, b2, nm2, k2, c2, d2, z2⟩ <;> first | omega | skip
  have e := NmOf_one c c2
  have ek := nearT_one e d d2
  subst ek
  rcases z with ⟨g1, g2⟩ | ⟨g1, g2⟩ <;> rcases z2 with ⟨g3, g4⟩ | ⟨g3, g4⟩
  · omega
  · exact absurd (goodR_cong e g1) g3
  · exact absurd (goodR_cong (eqH_sy e) g3) g1
  · omega
def bwF (pt kd : Int → Int) (a b : Int) : Int := dF (rO pt a) pt (16 * b) (kd b)
theorem bwF_b {pt kd : Int → Int} {mn a b : Int} (hp : Pok pt mn) (ha : 0 ≤ a ∧ a < mn) (hb : 0 ≤ b ∧ b < mn) : 0 ≤ bwF pt kd a b ∧ bwF pt kd a b ≤ 32000 := dF_b (rO_in hp ha) (Pok_in hp hb)
noncomputable def zI (P : Prop) : Int := @ite Int P (Classical.propDecidable P) 1 0
theorem zI_t {P : Prop} (h : P) : zI P = 1 := by unfold zI; exact if_pos h
theorem zI_f {P : Prop} (h : ¬ P) : zI P = 0 := by unfold zI; exact if_neg h
def isC (pt kd lb : Int → Int) (mn d k : Int) : Prop := ∃ b, (0 ≤ b ∧ b < mn) ∧ ¬ lb b = lb k ∧ (bwF pt kd k b ≤ d ∨ bwF pt kd b k ≤ d)
noncomputable def cfN (pt kd lb : Int → Int) (mn l d n : Int) : Int := sm (fun a => zI (lb a = l ∧ isC pt kd lb mn d a)) n
def confR (pt kd lb : Int → Int) (mn l d r : Int) : Prop := (¬ ((0 ≤ l ∧ l ≤ 9) ∧ (0 ≤ d ∧ d ≤ 100000)) ∧ r = -1) ∨ (((0 ≤ l ∧ l ≤ 9) ∧ (0 ≤ d ∧ d ≤ 100000)) ∧ r = cfN pt kd lb mn l d mn)
def btwR (pt kd : Int → Int) (mn a b r : Int) : Prop := (¬ ((0 ≤ a ∧ a < mn) ∧ (0 ≤ b ∧ b < mn)) ∧ r = -1) ∨ (((0 ≤ a ∧ a < mn) ∧ (0 ≤ b ∧ b < mn)) ∧ r = bwF pt kd a b)
def distR (xs ys lf : Int → Int) (sz : Int) (pt kd : Int → Int) (mn k r : Int) : Prop := (¬ (0 ≤ k ∧ k < mn) ∧ r = -1) ∨ ((0 ≤ k ∧ k < mn) ∧ wy xs ys lf sz = 0 ∧ r = -2) ∨ ((0 ≤ k ∧ k < mn) ∧ ¬ wy xs ys lf sz = 0 ∧ ∃ nm, NmOf xs ys lf sz nm ∧ r = dn nm pt kd k)
theorem distR_one {xs ys lf : Int → Int} {sz : Int} {pt kd : Int → Int} {mn k r r2 : Int} (h : distR xs ys lf sz pt kd mn k r) (h2 : distR xs ys lf sz pt kd mn k r2) : r = r2 := by
  rcases h with ⟨a, b⟩ | ⟨a, b, c⟩ | ⟨a, b, nm, c, d⟩ <;> rcases h2 with ⟨a2, b2⟩ | ⟨a2, b2, c2⟩ | ⟨a2, b2, nm2, c2, d2⟩ <;> first | omega | (rw [d, d2]; exact dF_cong (NmOf_one c c2) _ _ _)
def endsP (en mg e m en2 mg2 r : Int) : Prop := (¬ ((0 ≤ e ∧ e ≤ 100000) ∧ (0 ≤ m ∧ m ≤ 100000)) ∧ r = -1 ∧ en2 = en ∧ mg2 = mg) ∨ (((0 ≤ e ∧ e ≤ 100000) ∧ (0 ≤ m ∧ m ≤ 100000)) ∧ r = 1 ∧ en2 = e ∧ mg2 = m)
