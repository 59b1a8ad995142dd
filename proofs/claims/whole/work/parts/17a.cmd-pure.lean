def Cok (cx cr cl ll : Int → Int) (cn : Int) : Prop := (0 ≤ cn ∧ cn ≤ 10) ∧ ∀ c, 0 ≤ c → c < cn → (0 ≤ cx c ∧ cx c ≤ 3) ∧ (0 ≤ cr c ∧ cr c ≤ 9) ∧ (1 ≤ cl c ∧ cl c ≤ 4) ∧ ∀ i, 0 ≤ i → i < 4 → (0 ≤ ll (4 * c + i) ∧ ll (4 * c + i) ≤ 9) ∧ (cl c ≤ i → ll (4 * c + i) = 0)
def Rok (rw : Int → Int) (ln : Int) : Prop := (0 ≤ ln ∧ ln ≤ 40) ∧ ∀ j, 0 ≤ j → j < ln → 0 ≤ rw j ∧ rw j ≤ 9
theorem Cok_at {cx cr cl ll : Int → Int} {cn c : Int} (h : Cok cx cr cl ll cn) (h0 : 0 ≤ c) (h1 : c < cn) : (0 ≤ cx c ∧ cx c ≤ 3) ∧ (0 ≤ cr c ∧ cr c ≤ 9) ∧ (1 ≤ cl c ∧ cl c ≤ 4) := ⟨(h.2 c h0 h1).1, (h.2 c h0 h1).2.1, (h.2 c h0 h1).2.2.1⟩
theorem Cok_l {cx cr cl ll : Int → Int} {cn c i : Int} (h : Cok cx cr cl ll cn) (h0 : 0 ≤ c) (h1 : c < cn) (i0 : 0 ≤ i) (i1 : i < 4) : (0 ≤ ll (4 * c + i) ∧ ll (4 * c + i) ≤ 9) ∧ (cl c ≤ i → ll (4 * c + i) = 0) := (h.2 c h0 h1).2.2.2 i i0 i1
theorem Rok_at {rw : Int → Int} {ln j : Int} (h : Rok rw ln) (h0 : 0 ≤ j) (h1 : j < ln) : 0 ≤ rw j ∧ rw j ≤ 9 := h.2 j h0 h1
def stA (cl ll rw : Int → Int) (ln c p : Int) : Prop := p + cl c ≤ ln ∧ ∀ i, 0 ≤ i → i < cl c → rw (p + i) = ll (4 * c + i)
def bet (cr cl : Int → Int) (a b : Int) : Prop := cl b < cl a ∨ (cl a = cl b ∧ (cr b < cr a ∨ (cr a = cr b ∧ a < b)))
def cd (cx cl ll rw : Int → Int) (ln x c p : Int) : Prop := (cx c = x ∨ cx c = 0) ∧ stA cl ll rw ln c p
/-- the command that stands at p, of those below n; -4: none -/
def bestT (cx cr cl ll rw : Int → Int) (cn ln x : Int) (n p b : Int) : Prop := (b = -4 ∧ ∀ c, 0 ≤ c → c < n → ¬ cd cx cl ll rw ln x c p) ∨ ((0 ≤ b ∧ b < n) ∧ cd cx cl ll rw ln x b p ∧ ∀ c, 0 ≤ c → c < n → cd cx cl ll rw ln x c p → c = b ∨ bet cr cl b c)
theorem bestT_one {cx cr cl ll rw : Int → Int} {cn ln x : Int} {n p b b2 : Int} (h : bestT cx cr cl ll rw cn ln x n p b) (h2 : bestT cx cr cl ll rw cn ln x n p b2) : b = b2 := by
  rcases h with ⟨a1, a2⟩ | ⟨a1, a2, a3⟩ <;> rcases h2 with ⟨c1, c2⟩ | ⟨c1, c2, c3⟩
  · omega
  · exact absurd c2 (a2 b2 c1.1 c1.2)
  · exact absurd a2 (c2 b a1.1 a1.2)
  · have e1 := a3 b2 c1.1 c1.2 c2
    have e2 := c3 b a1.1 a1.2 a2
    unfold bet at e1 e2
    omega
theorem bestT_0 (cx cr cl ll rw : Int → Int) (cn ln x : Int) (p : Int) : bestT cx cr cl ll rw cn ln x 0 p (-4) := Or.inl ⟨rfl, fun c c0 c1 => by omega⟩
theorem bestT_no {cx cr cl ll rw : Int → Int} {cn ln x : Int} {n p b : Int} (h : bestT cx cr cl ll rw cn ln x n p b) (hc : ¬ cd cx cl ll rw ln x n p) : bestT cx cr cl ll rw cn ln x (n + 1) p b := by
  rcases h with ⟨a1, a2⟩ | ⟨a1, a2, a3⟩
  · refine Or.inl ⟨a1, fun c c0 c1 => ?_⟩
    by_cases e : c = n
    · rw [e]; exact hc
    · exact a2 c c0 (by omega)
  · refine Or.inr ⟨⟨a1.1, by omega⟩, a2, fun c c0 c1 c2 => ?_⟩
    by_cases e : c = n
    · rw [e] at c2; exact absurd c2 hc
    · exact a3 c c0 (by omega) c2
theorem bestT_keep {cx cr cl ll rw : Int → Int} {cn ln x : Int} {n p b : Int} (h : bestT cx cr cl ll rw cn ln x n p b) (hb : ¬ b = -4) (hbn : ¬ bet cr cl n b) : bestT cx cr cl ll rw cn ln x (n + 1) p b := by
  rcases h with ⟨a1, a2⟩ | ⟨a1, a2, a3⟩
  · exact absurd a1 hb
  · refine Or.inr ⟨⟨a1.1, by omega⟩, a2, fun c c0 c1 c2 => ?_⟩
    by_cases e : c = n
    · rw [e]
      right
      unfold bet at hbn ⊢
      omega
    · exact a3 c c0 (by omega) c2
theorem bestT_new {cx cr cl ll rw : Int → Int} {cn ln x : Int} {n p b : Int} (hn : 0 ≤ n) (h : bestT cx cr cl ll rw cn ln x n p b) (hc : cd cx cl ll rw ln x n p) (hb : b = -4 ∨ bet cr cl n b) : bestT cx cr cl ll rw cn ln x (n + 1) p n := by
  refine Or.inr ⟨⟨hn, by omega⟩, hc, fun c c0 c1 c2 => ?_⟩
  by_cases e : c = n
  · exact Or.inl e
  · right
    rcases h with ⟨a1, a2⟩ | ⟨a1, a2, a3⟩
    · exact absurd c2 (a2 c c0 (by omega))
    · have hb2 := hb.resolve_left (by omega)
      rcases a3 c c0 (by omega) c2 with q | q
      · rw [q]; exact hb2
      · unfold bet at hb2 q ⊢
        omega
noncomputable def bF (cx cr cl ll rw : Int → Int) (cn ln x : Int) (p : Int) : Int := @dite Int (∃ b, bestT cx cr cl ll rw cn ln x cn p b) (Classical.propDecidable _) (fun h => Classical.choose h) (fun _ => 0)
theorem bF_of {cx cr cl ll rw : Int → Int} {cn ln x : Int} {p b : Int} (h : bestT cx cr cl ll rw cn ln x cn p b) : bF cx cr cl ll rw cn ln x p = b := by
  unfold bF
  rw [dif_pos ⟨b, h⟩]
  exact bestT_one (Classical.choose_spec (⟨b, h⟩ : ∃ b, bestT cx cr cl ll rw cn ln x cn p b)) h
noncomputable def pA (cx cr cl ll rw : Int → Int) (cn ln x : Int) : Nat → Int
  | 0 => 0
  | n + 1 => pA cx cr cl ll rw cn ln x n + @ite Int (bF cx cr cl ll rw cn ln x (pA cx cr cl ll rw cn ln x n) = -4) (Classical.propDecidable _) 1 (cl (bF cx cr cl ll rw cn ln x (pA cx cr cl ll rw cn ln x n)))
noncomputable def pC (cx cr cl ll rw : Int → Int) (cn ln x : Int) : Nat → Int
  | 0 => 0
  | n + 1 => pC cx cr cl ll rw cn ln x n + @ite Int (bF cx cr cl ll rw cn ln x (pA cx cr cl ll rw cn ln x n) = -4) (Classical.propDecidable _) 0 1
theorem pA_n {cx cr cl ll rw : Int → Int} {cn ln x : Int} {n : Nat} (h : bF cx cr cl ll rw cn ln x (pA cx cr cl ll rw cn ln x n) = -4) : pA cx cr cl ll rw cn ln x (n + 1) = pA cx cr cl ll rw cn ln x n + 1 := by rw [pA, if_pos h]
theorem pA_y {cx cr cl ll rw : Int → Int} {cn ln x : Int} {n : Nat} (h : ¬ bF cx cr cl ll rw cn ln x (pA cx cr cl ll rw cn ln x n) = -4) : pA cx cr cl ll rw cn ln x (n + 1) = pA cx cr cl ll rw cn ln x n + cl (bF cx cr cl ll rw cn ln x (pA cx cr cl ll rw cn ln x n)) := by rw [pA, if_neg h]
theorem pC_n {cx cr cl ll rw : Int → Int} {cn ln x : Int} {n : Nat} (h : bF cx cr cl ll rw cn ln x (pA cx cr cl ll rw cn ln x n) = -4) : pC cx cr cl ll rw cn ln x (n + 1) = pC cx cr cl ll rw cn ln x n := by rw [pC, if_pos h]; omega
theorem pC_y {cx cr cl ll rw : Int → Int} {cn ln x : Int} {n : Nat} (h : ¬ bF cx cr cl ll rw cn ln x (pA cx cr cl ll rw cn ln x n) = -4) : pC cx cr cl ll rw cn ln x (n + 1) = pC cx cr cl ll rw cn ln x n + 1 := by rw [pC, if_neg h]
theorem pC_mono {cx cr cl ll rw : Int → Int} {cn ln x : Int} {m n : Nat} (h : m ≤ n) : pC cx cr cl ll rw cn ln x m ≤ pC cx cr cl ll rw cn ln x n := by
  induction n with
  | zero => rw [show m = 0 by omega]; exact Int.le_refl _
  | succ n ih =>
    by_cases e : m = n + 1
    · rw [e]; exact Int.le_refl _
    · have a := ih (by omega)
      by_cases q : bF cx cr cl ll rw cn ln x (pA cx cr cl ll rw cn ln x n) = -4
      · rw [pC_n q]; exact a
      · rw [pC_y q]; omega
theorem pC_inj {cx cr cl ll rw : Int → Int} {cn ln x : Int} {m n : Nat} (hm : ¬ bF cx cr cl ll rw cn ln x (pA cx cr cl ll rw cn ln x m) = -4) (hn : ¬ bF cx cr cl ll rw cn ln x (pA cx cr cl ll rw cn ln x n) = -4) (h : pC cx cr cl ll rw cn ln x m = pC cx cr cl ll rw cn ln x n) : m = n := by
  rcases Nat.lt_trichotomy m n with q | q | q
  · have := pC_mono (cx := cx) (cr := cr) (cl := cl) (ll := ll) (rw := rw) (cn := cn) (ln := ln) (x := x) (show m + 1 ≤ n by omega)
    rw [pC_y hm] at this
    omega
  · exact q
  · have := pC_mono (cx := cx) (cr := cr) (cl := cl) (ll := ll) (rw := rw) (cn := cn) (ln := ln) (x := x) (show n + 1 ≤ m by omega)
    rw [pC_y hn] at this
    omega
theorem pC_hit {cx cr cl ll rw : Int → Int} {cn ln x : Int} {n : Nat} {i : Int} (h0 : 0 ≤ i) (h : i < pC cx cr cl ll rw cn ln x n) : ∃ m, m < n ∧ ¬ bF cx cr cl ll rw cn ln x (pA cx cr cl ll rw cn ln x m) = -4 ∧ pC cx cr cl ll rw cn ln x m = i := by
  induction n with
  | zero => rw [pC] at h; omega
  | succ n ih =>
    by_cases q : bF cx cr cl ll rw cn ln x (pA cx cr cl ll rw cn ln x n) = -4
    · rw [pC_n q] at h
      obtain ⟨m, a, b, c⟩ := ih h
      exact ⟨m, by omega, b, c⟩
    · rw [pC_y q] at h
      by_cases e : i < pC cx cr cl ll rw cn ln x n
      · obtain ⟨m, a, b, c⟩ := ih e
        exact ⟨m, by omega, b, c⟩
      · exact ⟨n, by omega, q, by omega⟩
def pEnd (cx cr cl ll rw : Int → Int) (cn ln x : Int) (n : Nat) : Prop := ln ≤ pA cx cr cl ll rw cn ln x n ∧ ∀ m : Nat, m < n → pA cx cr cl ll rw cn ln x m < ln
theorem pEnd_one {cx cr cl ll rw : Int → Int} {cn ln x : Int} {n n2 : Nat} (h : pEnd cx cr cl ll rw cn ln x n) (h2 : pEnd cx cr cl ll rw cn ln x n2) : n = n2 := by
  rcases Nat.lt_trichotomy n n2 with q | q | q
  · have := h2.2 n q
    have := h.1
    omega
  · exact q
  · have := h.2 n2 q
    have := h2.1
    omega
def parseR (cx cr cl ll rw : Int → Int) (cn ln x : Int) (r : Int) : Prop := (¬ (0 ≤ x ∧ x ≤ 3) ∧ r = -1) ∨ ((0 ≤ x ∧ x ≤ 3) ∧ ∃ n, pEnd cx cr cl ll rw cn ln x n ∧ r = pC cx cr cl ll rw cn ln x n)
theorem parseR_one {cx cr cl ll rw : Int → Int} {cn ln x : Int} {r r2 : Int} (h : parseR cx cr cl ll rw cn ln x r) (h2 : parseR cx cr cl ll rw cn ln x r2) : r = r2 := by
  rcases h with ⟨a, b⟩ | ⟨a, n, b, c⟩ <;> rcases h2 with ⟨a2, b2⟩ | ⟨a2, n2, b2, c2⟩
  · omega
  · exact absurd a2 a
  · exact absurd a a2
  · rw [c, c2, pEnd_one b b2]
def foundR (cx cr cl ll rw : Int → Int) (cn ln x : Int) (i w r : Int) : Prop := (¬ ((0 ≤ x ∧ x ≤ 3) ∧ 0 ≤ i ∧ (0 ≤ w ∧ w ≤ 1)) ∧ r = -1) ∨ (((0 ≤ x ∧ x ≤ 3) ∧ 0 ≤ i ∧ (0 ≤ w ∧ w ≤ 1)) ∧ ∃ n, pEnd cx cr cl ll rw cn ln x n ∧ ((pC cx cr cl ll rw cn ln x n ≤ i ∧ r = -4) ∨ ∃ m, m < n ∧ ¬ bF cx cr cl ll rw cn ln x (pA cx cr cl ll rw cn ln x m) = -4 ∧ pC cx cr cl ll rw cn ln x m = i ∧ ((w = 0 ∧ r = bF cx cr cl ll rw cn ln x (pA cx cr cl ll rw cn ln x m)) ∨ (w = 1 ∧ r = pA cx cr cl ll rw cn ln x m))))
theorem foundR_one {cx cr cl ll rw : Int → Int} {cn ln x : Int} {i w r r2 : Int} (h : foundR cx cr cl ll rw cn ln x i w r) (h2 : foundR cx cr cl ll rw cn ln x i w r2) : r = r2 := by
  rcases h with ⟨a, b⟩ | ⟨a, n, b, c⟩ <;> rcases h2 with ⟨a2, b2⟩ | ⟨a2, n2, b2, c2⟩
  · omega
  · exact absurd a2 a
  · exact absurd a a2
  · have e := pEnd_one b b2
    subst e
    have lt : ∀ m : Nat, m < n → ¬ bF cx cr cl ll rw cn ln x (pA cx cr cl ll rw cn ln x m) = -4 → pC cx cr cl ll rw cn ln x m < pC cx cr cl ll rw cn ln x n := by
      intro m hm hf
      have := pC_mono (cx := cx) (cr := cr) (cl := cl) (ll := ll) (rw := rw) (cn := cn) (ln := ln) (x := x) (show m + 1 ≤ n by omega)
      rw [pC_y hf] at this
      omega
    rcases c with ⟨c, d⟩ | ⟨m, c, d, e, f⟩ <;> rcases c2 with ⟨c2, d2⟩ | ⟨m2, c2, d2, e2, f2⟩
    · omega
    · have := lt m2 c2 d2; omega
    · have := lt m c d; omega
    · have z := pC_inj d d2 (e.trans e2.symm)
      subst z
      omega
def cmdOk (x k n a b c d : Int) : Prop := (0 ≤ x ∧ x ≤ 3) ∧ (0 ≤ k ∧ k ≤ 9) ∧ (1 ≤ n ∧ n ≤ 4) ∧ (0 ≤ a ∧ a ≤ 9) ∧ (0 ≤ b ∧ b ≤ 9) ∧ (0 ≤ c ∧ c ≤ 9) ∧ (0 ≤ d ∧ d ≤ 9) ∧ (n < 2 → b = 0) ∧ (n < 3 → c = 0) ∧ (n < 4 → d = 0)
def cmdP (cx cr cl ll : Int → Int) (cn x k n a b c d : Int) (cx2 cr2 cl2 ll2 : Int → Int) (cn2 r : Int) : Prop :=
  (¬ cmdOk x k n a b c d ∧ r = -1 ∧ cx2 = cx ∧ cr2 = cr ∧ cl2 = cl ∧ ll2 = ll ∧ cn2 = cn) ∨ (cmdOk x k n a b c d ∧ 10 ≤ cn ∧ r = -3 ∧ cx2 = cx ∧ cr2 = cr ∧ cl2 = cl ∧ ll2 = ll ∧ cn2 = cn) ∨
  (cmdOk x k n a b c d ∧ cn < 10 ∧ r = cn ∧ cx2 = zU cx cn x ∧ cr2 = zU cr cn k ∧ cl2 = zU cl cn n ∧ ll2 = zU (zU (zU (zU ll (4 * cn) a) (4 * cn + 1) b) (4 * cn + 2) c) (4 * cn + 3) d ∧ cn2 = cn + 1)
def hid1 (cx cr cl ll : Int → Int) (c d : Int) : Prop := (cx d = cx c ∨ cx d = 0) ∧ (cl d = cl c ∧ ∀ i, 0 ≤ i → i < cl d → ll (4 * d + i) = ll (4 * c + i)) ∧ bet cr cl d c
def hid (cx cr cl ll : Int → Int) (cn c : Int) : Prop := ∃ d, (0 ≤ d ∧ d < cn) ∧ hid1 cx cr cl ll c d
def hidR (cx cr cl ll : Int → Int) (cn r : Int) : Prop := (r = -4 ∧ ∀ c, 0 ≤ c → c < cn → ¬ hid cx cr cl ll cn c) ∨ ((0 ≤ r ∧ r < cn) ∧ hid cx cr cl ll cn r ∧ ∀ c, 0 ≤ c → c < r → ¬ hid cx cr cl ll cn c)
theorem hidR_one {cx cr cl ll : Int → Int} {cn r r2 : Int} (h : hidR cx cr cl ll cn r) (h2 : hidR cx cr cl ll cn r2) : r = r2 := by
  rcases h with ⟨a1, a2⟩ | ⟨a1, a2, a3⟩ <;> rcases h2 with ⟨c1, c2⟩ | ⟨c1, c2, c3⟩
  · omega
  · exact absurd c2 (a2 r2 c1.1 c1.2)
  · exact absurd a2 (c2 r a1.1 a1.2)
  · rcases Int.lt_trichotomy r r2 with q | q | q
    · exact absurd a2 (c3 r a1.1 q)
    · exact q
    · exact absurd c2 (a3 r2 c1.1 q)
def lineR (rw : Int → Int) (ln i r : Int) : Prop := (¬ (0 ≤ i ∧ i < ln) ∧ r = -1) ∨ ((0 ≤ i ∧ i < ln) ∧ r = rw i)
