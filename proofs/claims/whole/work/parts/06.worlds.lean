def wD (cI cZ : ClassId) (aD : Nat → Nat) (xs ys lf ev nm : Int → Int) (sz : Int) : va_W := [(aD 0, .inr (2, [.ref (aD 1), .ref (aD 2), .ref (aD 3), .ref (aD 4), .ref (aD 5), .int (iI sz)])), (aD 1, .inl (cI, 30, .inl (zA xs))), (aD 2, .inl (cI, 30, .inl (zA ys))), (aD 3, .inl (cZ, 30, .inl (zA lf))), (aD 4, .inl (cI, 16, .inl (zA ev))), (aD 5, .inl (cI, 16, .inl (zA nm)))]
def wM (cI cZ : ClassId) (aM : Nat → Nat) (lb kd pt : Int → Int) (mn : Int) : va_W := [(aM 0, .inr (6, [.ref (aM 1), .ref (aM 2), .ref (aM 3), .int (iI mn)])), (aM 1, .inl (cI, 16, .inl (zA lb))), (aM 2, .inl (cI, 16, .inl (zA kd))), (aM 3, .inl (cI, 256, .inl (zA pt)))]
def wA (cI cZ : ClassId) (aA : Nat → Nat) (so nu al ak ap : Int → Int) (an ax : Int) : va_W := [(aA 0, .inr (0, [.ref (aA 1), .ref (aA 2), .ref (aA 3), .ref (aA 4), .ref (aA 5), .int (iI an), .int (iI ax)])), (aA 1, .inl (cI, 6, .inl (zA so))), (aA 2, .inl (cI, 6, .inl (zA nu))), (aA 3, .inl (cI, 6, .inl (zA al))), (aA 4, .inl (cI, 6, .inl (zA ak))), (aA 5, .inl (cI, 96, .inl (zA ap)))]
def wS (cI cZ : ClassId) (aS : Nat → Nat) (he ar le : Int → Int) : va_W := [(aS 0, .inr (4, [.ref (aS 1), .ref (aS 2), .ref (aS 3)])), (aS 1, .inl (cI, 16, .inl (zA he))), (aS 2, .inl (cI, 64, .inl (zA ar))), (aS 3, .inl (cI, 256, .inl (zA le)))]
def wC (cI cZ : ClassId) (aC : Nat → Nat) (cx cr cl ll : Int → Int) (cn : Int) : va_W := [(aC 0, .inr (1, [.ref (aC 1), .ref (aC 2), .ref (aC 3), .ref (aC 4), .int (iI cn)])), (aC 1, .inl (cI, 10, .inl (zA cx))), (aC 2, .inl (cI, 10, .inl (zA cr))), (aC 3, .inl (cI, 10, .inl (zA cl))), (aC 4, .inl (cI, 40, .inl (zA ll)))]
def wL (cI cZ : ClassId) (aL : Nat → Nat) (rw fn fp : Int → Int) (ln fc : Int) : va_W := [(aL 0, .inr (3, [.ref (aL 1), .ref (aL 2), .ref (aL 3), .int (iI ln), .int (iI fc)])), (aL 1, .inl (cI, 40, .inl (zA rw))), (aL 2, .inl (cI, 40, .inl (zA fn))), (aL 3, .inl (cI, 40, .inl (zA fp)))]
def wT (cI cZ : ClassId) (aT : Nat → Nat) (tl tm ts tc : Int → Int) : va_W := [(aT 0, .inr (5, [.ref (aT 1), .ref (aT 2), .ref (aT 3), .ref (aT 4)])), (aT 1, .inl (cI, 4, .inl (zA tl))), (aT 2, .inl (cZ, 4, .inl (zA tm))), (aT 3, .inl (cI, 4, .inl (zA ts))), (aT 4, .inl (cI, 240, .inl (zA tc)))]
def wB (cI cZ : ClassId) (aB aD aM aA aS aC aL aT : Nat → Nat) (di : Int → Int) (en mg : Int) : va_W := [(aB 0, .inr (7, [.ref (aD 0), .ref (aM 0), .ref (aA 0), .ref (aS 0), .ref (aC 0), .ref (aL 0), .ref (aT 0), .ref (aB 1), .int (iI en), .int (iI mg)])), (aB 1, .inl (cI, 16, .inl (zA di)))]
def wR (cI cZ : ClassId) (aR : Nat → Nat) (xs ys lf ev nm lb kd pt so nu al ak ap he le rw cx cr cl ll tl ts tc : Int → Int) (sz mn ac en mg ln cn wc wp : Int) : va_W := [(aR 0, .inr (8, [.int (iI sz), .ref (aR 1), .ref (aR 2), .ref (aR 3), .ref (aR 4), .ref (aR 5), .int (iI mn), .ref (aR 6), .ref (aR 7), .ref (aR 8), .int (iI ac), .ref (aR 9), .ref (aR 10), .ref (aR 11), .ref (aR 12), .ref (aR 13), .int (iI en), .int (iI mg), .ref (aR 14), .ref (aR 15), .int (iI ln), .ref (aR 16), .int (iI cn), .ref (aR 17), .ref (aR 18), .ref (aR 19), .ref (aR 20), .int (iI wc), .int (iI wp), .ref (aR 21), .ref (aR 22), .ref (aR 23)])), (aR 1, .inl (cI, 30, .inl (zA xs))), (aR 2, .inl (cI, 30, .inl (zA ys))), (aR 3, .inl (cZ, 30, .inl (zA lf))), (aR 4, .inl (cI, 16, .inl (zA ev))), (aR 5, .inl (cI, 16, .inl (zA nm))), (aR 6, .inl (cI, 17, .inl (zA lb))), (aR 7, .inl (cI, 17, .inl (zA kd))), (aR 8, .inl (cI, 272, .inl (zA pt))), (aR 9, .inl (cI, 7, .inl (zA so))), (aR 10, .inl (cI, 7, .inl (zA nu))), (aR 11, .inl (cI, 7, .inl (zA al))), (aR 12, .inl (cI, 7, .inl (zA ak))), (aR 13, .inl (cI, 112, .inl (zA ap))), (aR 14, .inl (cI, 16, .inl (zA he))), (aR 15, .inl (cI, 256, .inl (zA le))), (aR 16, .inl (cI, 40, .inl (zA rw))), (aR 17, .inl (cI, 10, .inl (zA cx))), (aR 18, .inl (cI, 10, .inl (zA cr))), (aR 19, .inl (cI, 10, .inl (zA cl))), (aR 20, .inl (cI, 40, .inl (zA ll))), (aR 21, .inl (cI, 4, .inl (zA tl))), (aR 22, .inl (cI, 4, .inl (zA ts))), (aR 23, .inl (cI, 240, .inl (zA tc)))]
/-- a fact that is kept closed -/
def zH (P : Prop) : Prop := P
theorem zH.o {P : Prop} (h : zH P) : P := h
def zB (r : Int) (P : Prop) : Prop := (r = 1 ∧ P) ∨ (r = 0 ∧ ¬ P)
theorem zB_01 {r : Int} {P : Prop} (h : zB r P) : r = 0 ∨ r = 1 := h.elim (fun h => Or.inr h.1) (fun h => Or.inl h.1)
theorem zB_t {r : Int} {P : Prop} (h : zB r P) (q : ¬ r = 0) : P := h.elim (fun h => h.2) (fun h => absurd h.1 q)
theorem zB_f {r : Int} {P : Prop} (h : zB r P) (q : r = 0) : ¬ P := h.elim (fun h => by omega) (fun h => h.2)
theorem zB_1 {P : Prop} (h : P) : zB 1 P := Or.inl ⟨rfl, h⟩
theorem zB_0 {P : Prop} (h : ¬ P) : zB 0 P := Or.inr ⟨rfl, h⟩
theorem zC_0 (f g : Int → Int) (sp dp : Int) : zC f g sp dp 0 = g := by
  funext j
  unfold zC
  rw [if_neg (by omega)]
theorem zC_s (f g : Int → Int) (sp dp n : Int) (h : 0 ≤ n) : zU (zC f g sp dp n) (dp + n) (f (sp + n)) = zC f g sp dp (n + 1) := by
  funext j
  unfold zU zC
  by_cases h1 : j = dp + n
  · rw [if_pos h1, if_pos (by omega), h1, show dp + n - dp = n by omega]
  · rw [if_neg h1]
    by_cases h2 : dp ≤ j ∧ j < dp + n
    · rw [if_pos h2, if_pos (by omega)]
    · rw [if_neg h2, if_neg (by omega)]
theorem zC_in (f g : Int → Int) {sp dp n j : Int} (h : dp ≤ j ∧ j < dp + n) : zC f g sp dp n j = f (sp + (j - dp)) := if_pos h
theorem zC_out (f g : Int → Int) {sp dp n j : Int} (h : ¬ (dp ≤ j ∧ j < dp + n)) : zC f g sp dp n j = g j := if_neg h
/-- how far point q is from the one ahead, as it is drawn -/
def dr (xs ys lf : Int → Int) (q : Int) : Int := if lf q = 0 then ((xs q - xs (q - 1)).natAbs : Int) + ((ys q - ys (q - 1)).natAbs : Int) else 0
def wyN (xs ys lf : Int → Int) : Nat → Int
  | 0 => 0
  | n + 1 => wyN xs ys lf n + (if n = 0 then 0 else dr xs ys lf (n : Int))
/-- the way over the points below q -/
def wy (xs ys lf : Int → Int) (q : Int) : Int := wyN xs ys lf q.toNat
theorem wy_0 (xs ys lf : Int → Int) {q : Int} (h : q ≤ 1) : wy xs ys lf q = 0 := by
  unfold wy
  rcases (show q.toNat = 0 ∨ q.toNat = 1 by omega) with e | e <;> rw [e] <;> simp [wyN]
theorem wy_s (xs ys lf : Int → Int) {q : Int} (h : 1 ≤ q) : wy xs ys lf (q + 1) = wy xs ys lf q + dr xs ys lf q := by
  unfold wy
  rw [show (q + 1).toNat = q.toNat + 1 by omega, wyN, if_neg (by omega), show ((q.toNat : Nat) : Int) = q by omega]
/-- a draft as the document tells it -/
def Dok (xs ys lf : Int → Int) (sz : Int) : Prop := (0 ≤ sz ∧ sz ≤ 30) ∧ ∀ j, 0 ≤ j → j < sz → (-100 ≤ xs j ∧ xs j ≤ 100) ∧ (-100 ≤ ys j ∧ ys j ≤ 100) ∧ (lf j = 0 ∨ lf j = 1)
theorem dr_rng {xs ys lf : Int → Int} {sz q : Int} (h : Dok xs ys lf sz) (h1 : 1 ≤ q) (h2 : q < sz) : 0 ≤ dr xs ys lf q ∧ dr xs ys lf q ≤ 400 := by
  have a := h.2 q (by omega) h2
  have b := h.2 (q - 1) (by omega) (by omega)
  unfold dr
  split <;> omega
theorem wy_rng {xs ys lf : Int → Int} {sz : Int} (h : Dok xs ys lf sz) : ∀ (n : Nat), (n : Int) ≤ sz → 0 ≤ wy xs ys lf n ∧ wy xs ys lf n ≤ 400 * n
  | 0, _ => by rw [wy_0 xs ys lf (by omega)]; omega
  | n + 1, hn => by
    have ih := wy_rng h n (by omega)
    by_cases h1 : n = 0
    · subst h1; rw [wy_0 xs ys lf (by omega)]; omega
    · have := dr_rng h (q := n) (by omega) (by omega)
      rw [show ((n + 1 : Nat) : Int) = (n : Int) + 1 by omega, wy_s xs ys lf (by omega)]
      omega
theorem wy_r {xs ys lf : Int → Int} {sz q : Int} (h : Dok xs ys lf sz) (h2 : q ≤ sz) : 0 ≤ wy xs ys lf q ∧ wy xs ys lf q ≤ 12000 := by
  have hb := h.1
  by_cases hq : q ≤ 0
  · rw [wy_0 xs ys lf (by omega)]; omega
  · have := wy_rng h q.toNat (by omega)
    rw [show ((q.toNat : Nat) : Int) = q by omega] at this
    omega
theorem Dok_at {xs ys lf : Int → Int} {sz j : Int} (h : Dok xs ys lf sz) (h1 : 0 ≤ j) (h2 : j < sz) : (-100 ≤ xs j ∧ xs j ≤ 100) ∧ (-100 ≤ ys j ∧ ys j ≤ 100) ∧ (lf j = 0 ∨ lf j = 1) := h.2 j h1 h2
/-- what a point that comes does to the draft, and what is answered -/
def addP (xs ys lf : Int → Int) (sz x y li : Int) (xs2 ys2 lf2 : Int → Int) (sz2 r : Int) : Prop :=
  (¬ ((-100 ≤ x ∧ x ≤ 100) ∧ (-100 ≤ y ∧ y ≤ 100)) ∧ r = -1 ∧ xs2 = xs ∧ ys2 = ys ∧ lf2 = lf ∧ sz2 = sz) ∨
  (((-100 ≤ x ∧ x ≤ 100) ∧ (-100 ≤ y ∧ y ≤ 100)) ∧ 30 ≤ sz ∧ r = -3 ∧ xs2 = xs ∧ ys2 = ys ∧ lf2 = lf ∧ sz2 = sz) ∨
  (((-100 ≤ x ∧ x ≤ 100) ∧ (-100 ≤ y ∧ y ≤ 100)) ∧ sz < 30 ∧ r = sz + 1 ∧ xs2 = zU xs sz x ∧ ys2 = zU ys sz y ∧ lf2 = zU lf sz (if li = 0 ∨ sz ≤ 0 then 0 else 1) ∧ sz2 = sz + 1)
theorem iI_xs {x y : Int} (hx : -2147483648 ≤ x ∧ x < 2147483648) (hy : -2147483648 ≤ y ∧ y < 2147483648) : ((iI x ^^^ iI y).toInt < 0) ↔ ¬ ((x < 0) ↔ (y < 0)) := by
  have e1 : (iI x).toBitVec.msb = decide (x < 0) := by
    have := BitVec.msb_eq_toInt (x := (iI x).toBitVec)
    rw [this]
    show decide ((iI x).toInt < 0) = _
    rw [iI_toInt hx]
  have e2 : (iI y).toBitVec.msb = decide (y < 0) := by
    have := BitVec.msb_eq_toInt (x := (iI y).toBitVec)
    rw [this]
    show decide ((iI y).toInt < 0) = _
    rw [iI_toInt hy]
  have e3 := BitVec.msb_eq_toInt (x := (iI x ^^^ iI y).toBitVec)
  have e4 : (iI x ^^^ iI y).toBitVec = (iI x).toBitVec ^^^ (iI y).toBitVec := Int32.toBitVec_xor _ _
  have e5 : (iI x ^^^ iI y).toBitVec.msb = (decide (x < 0) ^^ decide (y < 0)) := by rw [e4, BitVec.msb_xor, e1, e2]
  rw [e3] at e5
  have e6 : ((iI x ^^^ iI y).toInt < 0) ↔ (decide (x < 0) ^^ decide (y < 0)) = true := by
    rw [← e5]
    exact (decide_eq_true_iff).symm
  rw [e6]
  by_cases a : x < 0 <;> by_cases b : y < 0 <;> simp [a, b]
section ZX
variable {p : Program} {l : Launch} {e : Env} {R : Room} {s : State} {m : MethodId} {args : Array Value} {below : List Frame} {meth : Method} {c : Code} {H : Heap} {locs : List Loc} {cells slots : Nat} {Q : State → Prop}
variable {cc : ByteArray} {pc nL : Nat} {ls : Array Slot} {rest : List Value} {own : String} {Ts : List Cond}
theorem z_ixors (F : CallFix p m c cc nL s args Ts own) {x y : Int} (hdg : decode cc pc = .ok (.ixor, 1)) (hr : (-2147483648 ≤ x ∧ x < 2147483648) ∧ (-2147483648 ≤ y ∧ y < 2147483648))
    (kk : ∀ q : Int, (-2147483648 ≤ q ∧ q < 2147483648) → ((q < 0) ↔ ¬ ((x < 0) ↔ (y < 0))) → W p l e R s m args below meth c H locs cells slots Q (F0 m (pc + 1) ls (.int (iI q) :: rest))) : W p l e R s m args below meth c H locs cells slots Q (F0 m pc ls (.int (iI y) :: .int (iI x) :: rest)) := by
  refine lv_ixor F.1 F.2.1 hdg ?_
  have h1 := kk (iI x ^^^ iI y).toInt (iI_rng _) (iI_xs hr.1 hr.2)
  rw [iI_of] at h1
  exact h1
theorem z_irem (F : CallFix p m c cc nL s args Ts own) {x y : Int} (hdg : decode cc pc = .ok (.irem, 1)) (h : (-2147483648 < x ∧ x < 2147483648) ∧ (-2147483648 ≤ y ∧ y < 2147483648) ∧ y ≠ 0) (kk : W p l e R s m args below meth c H locs cells slots Q (F0 m (pc + 1) ls (.int (iI (x.tmod y)) :: rest))) : W p l e R s m args below meth c H locs cells slots Q (F0 m pc ls (.int (iI y) :: .int (iI x) :: rest)) := lv_irem F.1 F.2.1 hdg (iI_ne0 h.2.1 h.2.2) (by rw [iI_div h.1 h.2.1, iI_mul, iI_sub, iI_tmod]; exact kk)
theorem z_lrem (F : CallFix p m c cc nL s args Ts own) {x y : Int} (hdg : decode cc pc = .ok (.lrem, 1)) (h : (-9223372036854775808 < x ∧ x < 9223372036854775808) ∧ (-9223372036854775808 ≤ y ∧ y < 9223372036854775808) ∧ y ≠ 0) (kk : W p l e R s m args below meth c H locs cells slots Q (F0 m (pc + 1) ls (.long (lI (x.tmod y)) :: rest))) : W p l e R s m args below meth c H locs cells slots Q (F0 m pc ls (.long (lI y) :: .long (lI x) :: rest)) := lv_lrem F.1 F.2.1 hdg (lI_ne0 h.2.1 h.2.2) (by rw [lI_div h.1 h.2.1, lI_mul, lI_sub, iI_tmod]; exact kk)
end ZX
/-- rounding down, out of the machine's division -/
theorem fl_1 {x y : Int} (hy : 0 < y) (h : 0 ≤ x ∨ x.tdiv y * y = x) : x.tdiv y = x / y := by
  rcases h with h | h
  · exact Int.tdiv_eq_ediv_of_nonneg h
  · have h1 : y ∣ x := ⟨x.tdiv y, by rw [Int.mul_comm]; exact h.symm⟩
    exact Int.tdiv_eq_ediv_of_dvd h1
theorem fl_2 {x y : Int} (hy : 0 < y) (h : x < 0) (h2 : ¬ x.tdiv y * y = x) : x.tdiv y - 1 = x / y := by
  have h3 : ¬ y ∣ x := fun q => h2 (Int.tdiv_mul_cancel q)
  have h4 := Int.tdiv_eq_ediv (a := x) (b := y)
  rw [if_neg (by omega), show y.sign = 1 from Int.sign_eq_one_of_pos hy] at h4
  omega
theorem fm_1 {x y : Int} (hy : 0 < y) (h : 0 ≤ x ∨ x.tmod y = 0) : x.tmod y = x % y := by
  rcases h with h | h
  · exact Int.tmod_eq_emod_of_nonneg h
  · rw [h]
    exact (Int.emod_eq_zero_of_dvd (Int.dvd_of_tmod_eq_zero h)).symm
theorem fm_2 {x y : Int} (hy : 0 < y) (h : x < 0) (h2 : ¬ x.tmod y = 0) : x.tmod y + y = x % y := by
  have e1 := Int.tmod_add_mul_tdiv x y
  have e2 := Int.emod_add_mul_ediv x y
  have e3 := fl_2 hy h (fun q => h2 (by rw [← iI_tmod]; omega))
  rw [← e3, Int.mul_sub, Int.mul_one] at e2
  omega
theorem fl_r {x y : Int} (hy : 0 < y) {b : Int} (h : -b ≤ x ∧ x ≤ b) (hb : 0 ≤ b) : -b ≤ x / y ∧ x / y ≤ b := by
  constructor
  · apply (Int.le_ediv_iff_mul_le hy).mpr
    have : b ≤ b * y := by
      have := Int.mul_le_mul_of_nonneg_left (show (1 : Int) ≤ y by omega) hb
      omega
    rw [Int.neg_mul]; omega
  · by_cases q : 0 ≤ x
    · have := Int.ediv_le_self y q
      omega
    · have := Int.ediv_neg_of_neg_of_pos (show x < 0 by omega) hy
      omega
