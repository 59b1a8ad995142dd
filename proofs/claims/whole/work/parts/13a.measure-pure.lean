def smN (f : Int → Int) : Nat → Int
  | 0 => 0
  | n + 1 => smN f n + f (n : Int)
def sm (f : Int → Int) (i : Int) : Int := smN f i.toNat
theorem sm_0 (f : Int → Int) : sm f 0 = 0 := rfl
theorem sm_s (f : Int → Int) {i : Int} (h : 0 ≤ i) : sm f (i + 1) = sm f i + f i := by
  unfold sm
  rw [show (i + 1).toNat = i.toNat + 1 by omega, smN, show ((i.toNat : Nat) : Int) = i by omega]
theorem sm_8 (f : Int → Int) : sm f 8 = f 0 + f 1 + f 2 + f 3 + f 4 + f 5 + f 6 + f 7 := by
  show ((((((((0 + f 0) + f 1) + f 2) + f 3) + f 4) + f 5) + f 6) + f 7) = _
  omega
theorem sm_b {f : Int → Int} {b : Int} (hb : 0 ≤ b) {n : Int} (hn : 0 ≤ n) (h : ∀ j, 0 ≤ j → j < n → 0 ≤ f j ∧ f j ≤ b) : 0 ≤ sm f n ∧ sm f n ≤ n * b := by
  obtain ⟨k, rfl⟩ := Int.eq_ofNat_of_zero_le hn
  induction k with
  | zero => exact ⟨Int.le_refl _, by rw [show ((0 : Nat) : Int) = 0 from rfl, sm_0]; omega⟩
  | succ k ih =>
    have a := ih (by omega) (fun j j0 j1 => h j j0 (by omega))
    have c := h k (by omega) (by omega)
    rw [show ((k + 1 : Nat) : Int) = (k : Int) + 1 by omega, sm_s f (by omega), Int.add_mul, Int.one_mul]
    omega
def pw (j : Int) : Int := 2 ^ j.toNat
def bt (s j : Int) : Int := (s / pw j) % 2
def cnt (s : Int) : Int := bt s 0 + bt s 1 + bt s 2 + bt s 3 + bt s 4 + bt s 5 + bt s 6 + bt s 7
theorem bt_01 (s j : Int) : bt s j = 0 ∨ bt s j = 1 := by unfold bt; omega
theorem bN_1 : ∀ j : Nat, j < 8 → (iI 1 <<< (iI (j : Int) &&& 31)) = iI (pw j) := by decide +kernel
theorem bN_2 : ∀ s : Nat, s < 256 → ∀ j : Nat, j < 8 → (iI (s : Int) &&& iI (pw j)) = iI (bt s j * pw j) := by decide +kernel
theorem bN_3 : ∀ s : Nat, s < 256 → ∀ j : Nat, j < 8 → bt s j = 1 → (iI (s : Int) ^^^ iI (pw j)) = iI (s - pw j) := by decide +kernel
theorem bN_4 : ∀ s : Nat, s < 256 → ∀ j : Nat, j < 8 → (iI (s : Int) >>> (iI (j : Int) &&& 31)) = iI (s / pw j) := by decide +kernel
theorem bN_5 : ∀ s : Nat, s < 256 → ∀ j : Nat, j < 8 → (iI ((s : Int) / pw j) &&& iI 1) = iI (bt s j) := by decide +kernel
theorem bN_6 : ∀ s : Nat, s < 256 → ∀ j : Nat, j < 8 → bt s j = 1 → cnt ((s : Int) - pw j) = cnt s - 1 ∧ pw j ≤ s ∧ 1 ≤ pw j := by decide +kernel
theorem bN_8 : ∀ s : Nat, s < 256 → 1 ≤ s → 1 ≤ cnt s ∧ cnt s ≤ 8 := by decide +kernel
theorem pw_b8 : ∀ j : Nat, j < 8 → 1 ≤ pw j ∧ pw j ≤ 128 := by decide +kernel
theorem pw_r {j : Int} (h : 0 ≤ j ∧ j < 8) : 1 ≤ pw j ∧ pw j ≤ 128 := by
  obtain ⟨k, rfl⟩ := Int.eq_ofNat_of_zero_le h.1
  exact pw_b8 k (by omega)
theorem bt_d {s j : Int} (hs : 0 ≤ s ∧ s < 256) (hj : 0 ≤ j ∧ j < 8) (h : bt s j = 1) : cnt (s - pw j) = cnt s - 1 ∧ pw j ≤ s ∧ 1 ≤ pw j := by
  obtain ⟨a, rfl⟩ := Int.eq_ofNat_of_zero_le hs.1
  obtain ⟨k, rfl⟩ := Int.eq_ofNat_of_zero_le hj.1
  exact bN_6 a (by omega) k (by omega) h
theorem cnt_r {s : Int} (hs : 1 ≤ s ∧ s < 256) : 1 ≤ cnt s ∧ cnt s ≤ 8 := by
  obtain ⟨a, rfl⟩ := Int.eq_ofNat_of_zero_le (show 0 ≤ s by omega)
  exact bN_8 a (by omega) (by omega)
theorem cnt_e {s : Int} (h : 1 ≤ cnt s) : ∃ j : Nat, j < 8 ∧ bt s j = 1 := by
  unfold cnt at h
  have b0 := bt_01 s 0
  have b1 := bt_01 s 1
  have b2 := bt_01 s 2
  have b3 := bt_01 s 3
  have b4 := bt_01 s 4
  have b5 := bt_01 s 5
  have b6 := bt_01 s 6
  have b7 := bt_01 s 7
  by_cases q0 : bt s 0 = 1
  · exact ⟨0, by omega, q0⟩
  by_cases q1 : bt s 1 = 1
  · exact ⟨1, by omega, q1⟩
  by_cases q2 : bt s 2 = 1
  · exact ⟨2, by omega, q2⟩
  by_cases q3 : bt s 3 = 1
  · exact ⟨3, by omega, q3⟩
  by_cases q4 : bt s 4 = 1
  · exact ⟨4, by omega, q4⟩
  by_cases q5 : bt s 5 = 1
  · exact ⟨5, by omega, q5⟩
  by_cases q6 : bt s 6 = 1
  · exact ⟨6, by omega, q6⟩
  · exact ⟨7, by omega, by show bt s 7 = 1; omega⟩
section ZB
variable {p : Program} {l : Launch} {e : Env} {R : Room} {s : State} {m : MethodId} {args : Array Value} {below : List Frame} {meth : Method} {c : Code} {H : Heap} {locs : List Loc} {cells slots : Nat} {Q : State → Prop}
variable {cc : ByteArray} {pc nL : Nat} {ls : Array Slot} {rest : List Value} {own : String} {Ts : List Cond}
theorem z_ishl1 (F : CallFix p m c cc nL s args Ts own) {j : Int} (hdg : decode cc pc = .ok (.ishl, 1)) (hj : 0 ≤ j ∧ j < 8) (kk : W p l e R s m args below meth c H locs cells slots Q (F0 m (pc + 1) ls (.int (iI (pw j)) :: rest))) : W p l e R s m args below meth c H locs cells slots Q (F0 m pc ls (.int (iI j) :: .int (iI 1) :: rest)) := by
  refine lv_ishl F.1 F.2.1 hdg ?_
  obtain ⟨k, rfl⟩ := Int.eq_ofNat_of_zero_le hj.1
  rw [bN_1 k (by omega)]
  exact kk
theorem z_iandb (F : CallFix p m c cc nL s args Ts own) {x j : Int} (hdg : decode cc pc = .ok (.iand, 1)) (hx : (0 ≤ x ∧ x < 256) ∧ (0 ≤ j ∧ j < 8)) (kk : ∀ q : Int, (-2147483648 ≤ q ∧ q < 2147483648) → (q = 0 ↔ ¬ bt x j = 1) → W p l e R s m args below meth c H locs cells slots Q (F0 m (pc + 1) ls (.int (iI q) :: rest))) : W p l e R s m args below meth c H locs cells slots Q (F0 m pc ls (.int (iI (pw j)) :: .int (iI x) :: rest)) := by
  refine lv_iand F.1 F.2.1 hdg ?_
  have h0 := pw_r hx.2
  have h1 := bt_01 x j
  obtain ⟨k, rfl⟩ := Int.eq_ofNat_of_zero_le hx.2.1
  obtain ⟨y, rfl⟩ := Int.eq_ofNat_of_zero_le hx.1.1
  rw [bN_2 y (by omega) k (by omega)]
  rcases h1 with h1 | h1
  · rw [h1]; exact kk _ (by omega) (by omega)
  · rw [h1]; exact kk _ (by omega) (by omega)
theorem z_ixorb (F : CallFix p m c cc nL s args Ts own) {x j : Int} (hdg : decode cc pc = .ok (.ixor, 1)) (hx : ((0 ≤ x ∧ x < 256) ∧ (0 ≤ j ∧ j < 8)) ∧ bt x j = 1) (kk : W p l e R s m args below meth c H locs cells slots Q (F0 m (pc + 1) ls (.int (iI (x - pw j)) :: rest))) : W p l e R s m args below meth c H locs cells slots Q (F0 m pc ls (.int (iI (pw j)) :: .int (iI x) :: rest)) := by
  refine lv_ixor F.1 F.2.1 hdg ?_
  obtain ⟨⟨hx, hj⟩, hb⟩ := hx
  obtain ⟨k, rfl⟩ := Int.eq_ofNat_of_zero_le hj.1
  obtain ⟨y, rfl⟩ := Int.eq_ofNat_of_zero_le hx.1
  rw [bN_3 y (by omega) k (by omega) hb]
  exact kk
theorem z_ishrb (F : CallFix p m c cc nL s args Ts own) {x j : Int} (hdg : decode cc pc = .ok (.ishr, 1)) (hx : (0 ≤ x ∧ x < 256) ∧ (0 ≤ j ∧ j < 8)) (kk : W p l e R s m args below meth c H locs cells slots Q (F0 m (pc + 1) ls (.int (iI (x / pw j)) :: rest))) : W p l e R s m args below meth c H locs cells slots Q (F0 m pc ls (.int (iI j) :: .int (iI x) :: rest)) := by
  refine lv_ishr F.1 F.2.1 hdg ?_
  obtain ⟨k, rfl⟩ := Int.eq_ofNat_of_zero_le hx.2.1
  obtain ⟨y, rfl⟩ := Int.eq_ofNat_of_zero_le hx.1.1
  rw [bN_4 y (by omega) k (by omega)]
  exact kk
theorem z_iand1 (F : CallFix p m c cc nL s args Ts own) {x j : Int} (hdg : decode cc pc = .ok (.iand, 1)) (hx : (0 ≤ x ∧ x < 256) ∧ (0 ≤ j ∧ j < 8)) (kk : W p l e R s m args below meth c H locs cells slots Q (F0 m (pc + 1) ls (.int (iI (bt x j)) :: rest))) : W p l e R s m args below meth c H locs cells slots Q (F0 m pc ls (.int (iI 1) :: .int (iI (x / pw j)) :: rest)) := by
  refine lv_iand F.1 F.2.1 hdg ?_
  obtain ⟨k, rfl⟩ := Int.eq_ofNat_of_zero_le hx.2.1
  obtain ⟨y, rfl⟩ := Int.eq_ofNat_of_zero_le hx.1.1
  rw [bN_5 y (by omega) k (by omega)]
  exact kk
end ZB
/-- the least sum for a set, its last point paired with each of the set -/
def lsN (c : Int → Int → Int) (tb : Int → Int) (s : Int) : Nat → Int
  | 0 => 1000000
  | n + 1 => if bt s (n : Int) = 1 then min (lsN c tb s n) (tb (s - pw (n : Int)) + c (cnt s - 1) (n : Int)) else lsN c tb s n
def lsm (c : Int → Int → Int) (tb : Int → Int) (s j : Int) : Int := lsN c tb s j.toNat
theorem lsm_0 (c : Int → Int → Int) (tb : Int → Int) (s : Int) : lsm c tb s 0 = 1000000 := rfl
theorem lsm_t (c : Int → Int → Int) (tb : Int → Int) {s j : Int} (h : 0 ≤ j) (hb : bt s j = 1) : lsm c tb s (j + 1) = min (lsm c tb s j) (tb (s - pw j) + c (cnt s - 1) j) := by
  unfold lsm
  rw [show (j + 1).toNat = j.toNat + 1 by omega, lsN, show ((j.toNat : Nat) : Int) = j by omega, if_pos hb]
theorem lsm_f (c : Int → Int → Int) (tb : Int → Int) {s j : Int} (h : 0 ≤ j) (hb : ¬ bt s j = 1) : lsm c tb s (j + 1) = lsm c tb s j := by
  unfold lsm
  rw [show (j + 1).toNat = j.toNat + 1 by omega, lsN, show ((j.toNat : Nat) : Int) = j by omega, if_neg hb]
theorem lsN_cong {c c2 : Int → Int → Int} {tb tb2 : Int → Int} {s : Int} (hs : 0 ≤ s ∧ s < 256) (hc : ∀ i j, 0 ≤ i → i < 8 → 0 ≤ j → j < 8 → c i j = c2 i j) (ht : ∀ j, 0 ≤ j → j < s → tb j = tb2 j) : ∀ n : Nat, n ≤ 8 → lsN c tb s n = lsN c2 tb2 s n
  | 0, _ => rfl
  | n + 1, h => by
    rw [lsN, lsN, lsN_cong hs hc ht n (by omega)]
    by_cases q : bt s (n : Int) = 1
    · have d := bt_d hs (j := (n : Int)) (by omega) q
      have r := cnt_r (s := s) (by omega)
      rw [if_pos q, if_pos q, ht _ (by omega) (by omega), hc _ _ (by omega) (by omega) (by omega) (by omega)]
    · rw [if_neg q, if_neg q]
def tabN (c : Int → Int → Int) : Nat → Int → Int
  | 0 => fun _ => 0
  | n + 1 => zU (tabN c n) ((n : Int) + 1) (lsm c (tabN c n) ((n : Int) + 1) 8)
/-- the sums of the sets below s -/
def TB (c : Int → Int → Int) (s : Int) : Int → Int := tabN c (s - 1).toNat
theorem TB_1 (c : Int → Int → Int) (j : Int) : TB c 1 j = 0 := rfl
theorem TB_s (c : Int → Int → Int) {s : Int} (h : 1 ≤ s) : TB c (s + 1) = zU (TB c s) s (lsm c (TB c s) s 8) := by
  unfold TB
  rw [show (s + 1 - 1).toNat = (s - 1).toNat + 1 by omega, tabN, show (((s - 1).toNat : Nat) : Int) + 1 = s by omega]
theorem lsN_lo {c : Int → Int → Int} {tb : Int → Int} {s : Int} (hs : 0 ≤ s ∧ s < 256) (hc : ∀ i j, 0 ≤ i → i < 8 → 0 ≤ j → j < 8 → 0 ≤ c i j ∧ c i j ≤ 4000) (ht : ∀ j, 0 ≤ j → j < s → 0 ≤ tb j) : ∀ n : Nat, n ≤ 8 → 0 ≤ lsN c tb s n ∧ lsN c tb s n ≤ 1000000
  | 0, _ => by unfold lsN; omega
  | n + 1, h => by
    have ih := lsN_lo hs hc ht n (by omega)
    rw [lsN]
    by_cases q : bt s (n : Int) = 1
    · have d := bt_d hs (j := (n : Int)) (by omega) q
      have r := cnt_r (s := s) (by omega)
      have a := ht (s - pw (n : Int)) (by omega) (by omega)
      have b := hc (cnt s - 1) (n : Int) (by omega) (by omega) (by omega) (by omega)
      rw [if_pos q]
      omega
    · rw [if_neg q]; exact ih
theorem lsN_le {c : Int → Int → Int} {tb : Int → Int} {s : Int} : ∀ (n j : Nat), j < n → bt s (j : Int) = 1 → lsN c tb s n ≤ tb (s - pw (j : Int)) + c (cnt s - 1) (j : Int)
  | 0, j, h, _ => absurd h (Nat.not_lt_zero _)
  | n + 1, j, h, q => by
    rw [lsN]
    by_cases e : j = n
    · subst e
      rw [if_pos q]
      omega
    · have ih := lsN_le (c := c) (tb := tb) n j (by omega) q
      by_cases q2 : bt s (n : Int) = 1
      · rw [if_pos q2]; omega
      · rw [if_neg q2]; exact ih
theorem TB_b {c : Int → Int → Int} (hc : ∀ i j, 0 ≤ i → i < 8 → 0 ≤ j → j < 8 → 0 ≤ c i j ∧ c i j ≤ 4000) : ∀ n : Nat, n ≤ 255 → ∀ j, 0 ≤ j → j < (n : Int) + 1 → 0 ≤ TB c ((n : Int) + 1) j ∧ TB c ((n : Int) + 1) j ≤ 4000 * cnt j
  | 0, _, j, j0, j1 => by
    rw [show j = 0 by omega, show ((0 : Nat) : Int) + 1 = 1 from rfl, TB_1]
    exact ⟨Int.le_refl _, by decide +kernel⟩
  | n + 1, h, j, j0, j1 => by
    have ih := TB_b hc n (by omega)
    rw [show ((n + 1 : Nat) : Int) + 1 = ((n : Int) + 1) + 1 by omega, TB_s c (by omega)]
    by_cases e : j = (n : Int) + 1
    · rw [e, zU_s]
      have hr := cnt_r (s := (n : Int) + 1) (by omega)
      have lo := lsN_lo (s := (n : Int) + 1) (by omega) hc (fun j j0 j1 => (ih j j0 j1).1) 8 (Nat.le_refl _)
      refine ⟨lo.1, ?_⟩
      obtain ⟨k, hk, hb⟩ := cnt_e hr.1
      have d := bt_d (s := (n : Int) + 1) (by omega) (j := (k : Int)) (by omega) hb
      have up := lsN_le (c := c) (tb := TB c ((n : Int) + 1)) (s := (n : Int) + 1) 8 k hk hb
      have a := ih ((n : Int) + 1 - pw (k : Int)) (by omega) (by omega)
      have b := hc (cnt ((n : Int) + 1) - 1) (k : Int) (by omega) (by omega) (by omega) (by omega)
      show lsN c (TB c ((n : Int) + 1)) ((n : Int) + 1) 8 ≤ _
      rw [d.1] at a
      omega
    · rw [zU_n _ _ e]
      exact ih j j0 (by omega)
theorem TB_r {c : Int → Int → Int} (hc : ∀ i j, 0 ≤ i → i < 8 → 0 ≤ j → j < 8 → 0 ≤ c i j ∧ c i j ≤ 4000) {s j : Int} (hs : 1 ≤ s ∧ s ≤ 256) (h0 : 0 ≤ j) (h1 : j < s) : 0 ≤ TB c s j ∧ TB c s j ≤ 32000 := by
  have h := TB_b hc (s - 1).toNat (by omega) j h0 (by omega)
  rw [show (((s - 1).toNat : Nat) : Int) + 1 = s by omega] at h
  by_cases e : j = 0
  · subst e
    have : cnt 0 = 0 := by decide +kernel
    omega
  · have := cnt_r (s := j) (by omega)
    omega
/-- how far point i is from point j of the other, whose row begins at b -/
def fr (he pt : Int → Int) (b i j : Int) : Int := ((he (2 * i) - pt (b + 2 * j)).natAbs : Int) + ((he (2 * i + 1) - pt (b + 2 * j + 1)).natAbs : Int)
def inH (he : Int → Int) : Prop := ∀ j, 0 ≤ j → j < 16 → -1000 ≤ he j ∧ he j ≤ 1000
def inP (pt : Int → Int) (b : Int) : Prop := ∀ j, b ≤ j → j < b + 16 → -1000 ≤ pt j ∧ pt j ≤ 1000
theorem fr_b {he pt : Int → Int} {b i j : Int} (h1 : inH he) (h2 : inP pt b) (hi : 0 ≤ i ∧ i < 8) (hj : 0 ≤ j ∧ j < 8) : 0 ≤ fr he pt b i j ∧ fr he pt b i j ≤ 4000 := by
  have a := h1 (2 * i) (by omega) (by omega)
  have a2 := h1 (2 * i + 1) (by omega) (by omega)
  have c := h2 (b + 2 * j) (by omega) (by omega)
  have c2 := h2 (b + 2 * j + 1) (by omega) (by omega)
  unfold fr
  omega
def sT (he pt : Int → Int) (b : Int) : Int := sm (fun i => fr he pt b i i) 8
def bK (he pt : Int → Int) (b : Int) : Int := sm (fun i => fr he pt b i (7 - i)) 8
def cL (he pt : Int → Int) (b : Int) : Int := TB (fr he pt b) 256 255
def dU (he pt : Int → Int) (b q : Int) : Int := if q = 3 ∨ q = 4 then cL he pt b else if q = 2 then min (sT he pt b) (bK he pt b) else sT he pt b
theorem bK_e (he pt : Int → Int) (b : Int) : bK he pt b = sm (fun i => fr he pt b (7 - i) i) 8 := by
  unfold bK
  rw [sm_8, sm_8]
  simp only [show (7 : Int) - 0 = 7 from rfl, show (7 : Int) - 1 = 6 from rfl, show (7 : Int) - 2 = 5 from rfl, show (7 : Int) - 3 = 4 from rfl, show (7 : Int) - 4 = 3 from rfl, show (7 : Int) - 5 = 2 from rfl, show (7 : Int) - 6 = 1 from rfl, show (7 : Int) - 7 = 0 from rfl]
  omega
theorem sT_b {he pt : Int → Int} {b : Int} (h1 : inH he) (h2 : inP pt b) : 0 ≤ sT he pt b ∧ sT he pt b ≤ 32000 := by
  have := sm_b (f := fun i => fr he pt b i i) (b := 4000) (by omega) (n := 8) (by omega) (fun j j0 j1 => fr_b h1 h2 ⟨j0, j1⟩ ⟨j0, j1⟩)
  unfold sT
  omega
theorem bK_b {he pt : Int → Int} {b : Int} (h1 : inH he) (h2 : inP pt b) : 0 ≤ bK he pt b ∧ bK he pt b ≤ 32000 := by
  have := sm_b (f := fun i => fr he pt b i (7 - i)) (b := 4000) (by omega) (n := 8) (by omega) (fun j j0 j1 => fr_b h1 h2 ⟨j0, j1⟩ (by omega))
  unfold bK
  omega
theorem cL_b {he pt : Int → Int} {b : Int} (h1 : inH he) (h2 : inP pt b) : 0 ≤ cL he pt b ∧ cL he pt b ≤ 32000 := TB_r (fun i j a1 a2 a3 a4 => fr_b h1 h2 ⟨a1, a2⟩ ⟨a3, a4⟩) (by omega) (by omega) (by omega)
theorem dU_b {he pt : Int → Int} {b q : Int} (h1 : inH he) (h2 : inP pt b) : 0 ≤ dU he pt b q ∧ dU he pt b q ≤ 32000 := by
  have a := sT_b h1 h2
  have c := bK_b h1 h2
  have d := cL_b h1 h2
  unfold dU
  split
  · exact d
  · split <;> omega
/-- turned by a quarter -/
def tn (he : Int → Int) : Int → Int := fun j => if 0 ≤ j ∧ j < 16 then (if j % 2 = 0 then -(he (j + 1)) else he (j - 1)) else he j
def tnT (he : Int → Int) (n : Int) : Int → Int := fun j => if 0 ≤ j ∧ j < n then (if j % 2 = 0 then -(he (j + 1)) else he (j - 1)) else he j
theorem tnT_0 (he : Int → Int) : tnT he 0 = he := by
  funext j
  unfold tnT
  rw [if_neg (by omega)]
theorem tnT_16 (he : Int → Int) : tnT he 16 = tn he := rfl
theorem tnT_s (he : Int → Int) {n n2 n1 : Int} (h : 0 ≤ n ∧ n < 16 ∧ n % 2 = 0) (h2 : n2 = n + 2) (h1 : n1 = n + 1) : zU (zU (tnT he n) n (-(tnT he n n1))) n1 (tnT he n n) = tnT he n2 := by
  subst h1
  funext j
  by_cases a : j = n + 1
  · rw [a, zU_s]
    unfold tnT
    rw [if_neg (by omega), if_pos (by omega), if_neg (by omega), show n + 1 - 1 = n by omega]
  · rw [zU_n _ _ a]
    by_cases b : j = n
    · rw [b, zU_s]
      unfold tnT
      rw [if_neg (by omega), if_pos (by omega), if_pos (by omega)]
    · rw [zU_n _ _ b]
      unfold tnT
      by_cases d : 0 ≤ j ∧ j < n
      · rw [if_pos d, if_pos (show 0 ≤ j ∧ j < n2 by omega)]
      · rw [if_neg d, if_neg (show ¬ (0 ≤ j ∧ j < n2) by omega)]
theorem tn_in {he : Int → Int} (h : inH he) : inH (tn he) := by
  intro j j0 j1
  unfold tn
  rw [if_pos ⟨j0, j1⟩]
  by_cases q : j % 2 = 0
  · rw [if_pos q]
    have := h (j + 1) (by omega) (by omega)
    omega
  · rw [if_neg q]
    exact h (j - 1) (by omega) (by omega)
theorem tn_4 (he : Int → Int) : tn (tn (tn (tn he))) = he := by
  have two : ∀ f : Int → Int, ∀ j, 0 ≤ j ∧ j < 16 → tn (tn f) j = -(f j) := by
    intro f j hj
    unfold tn
    rw [if_pos hj]
    by_cases q : j % 2 = 0
    · rw [if_pos q, if_pos (by omega), if_neg (by omega), show j + 1 - 1 = j by omega]
    · rw [if_neg q, if_pos (by omega), if_pos (by omega), show j - 1 + 1 = j by omega]
  funext j
  by_cases hj : 0 ≤ j ∧ j < 16
  · rw [two _ j hj, two _ j hj, Int.neg_neg]
  · unfold tn
    rw [if_neg hj, if_neg hj, if_neg hj, if_neg hj]
def tnN (he : Int → Int) : Nat → Int → Int
  | 0 => he
  | n + 1 => tn (tnN he n)
def dN (he pt : Int → Int) (b q : Int) : Nat → Int
  | 0 => dU he pt b q
  | n + 1 => min (dN he pt b q n) (dU (tnN he (n + 1)) pt b q)
def tnI (he : Int → Int) (t : Int) : Int → Int := tnN he t.toNat
def dI (he pt : Int → Int) (b q t : Int) : Int := dN he pt b q t.toNat
theorem tnI_0 (he : Int → Int) : tnI he 0 = he := rfl
theorem tnI_s (he : Int → Int) {t t2 : Int} (h : 0 ≤ t) (h2 : t2 = t + 1) : tn (tnI he t) = tnI he t2 := by
  subst h2
  unfold tnI
  rw [show (t + 1).toNat = t.toNat + 1 by omega, tnN]
theorem tnI_in {he : Int → Int} (h : inH he) (t : Int) : inH (tnI he t) := by
  unfold tnI
  generalize t.toNat = n
  induction n with
  | zero => exact h
  | succ n ih => exact tn_in ih
theorem tnI_4 (he : Int → Int) : tnI he 4 = he := tn_4 he
theorem dI_0 (he pt : Int → Int) (b q : Int) : dI he pt b q 0 = dU he pt b q := rfl
theorem dI_s (he pt : Int → Int) (b q : Int) {t t2 : Int} (h : 0 ≤ t) (h2 : t2 = t + 1) : min (dI he pt b q t) (dU (tnI he t2) pt b q) = dI he pt b q t2 := by
  subst h2
  unfold dI tnI
  rw [show (t + 1).toNat = t.toNat + 1 by omega, dN]
theorem dI_b {he pt : Int → Int} {b q : Int} (h1 : inH he) (h2 : inP pt b) (t : Int) : 0 ≤ dI he pt b q t ∧ dI he pt b q t ≤ 32000 := by
  unfold dI
  generalize t.toNat = n
  induction n with
  | zero => exact dU_b h1 h2
  | succ n ih =>
    have := dU_b (q := q) (tnI_in h1 ((n : Int) + 1)) h2
    have e : tnI he ((n : Int) + 1) = tnN he (n + 1) := by unfold tnI; rw [show ((n : Int) + 1).toNat = n + 1 by omega]
    rw [e] at this
    rw [dN]
    omega
/-- the distance of a mark from the taught one whose row begins at b -/
def dF (he pt : Int → Int) (b q : Int) : Int := if q = 1 ∨ q = 4 then dI he pt b q 3 else dU he pt b q
theorem dF_b {he pt : Int → Int} {b q : Int} (h1 : inH he) (h2 : inP pt b) : 0 ≤ dF he pt b q ∧ dF he pt b q ≤ 32000 := by
  unfold dF
  split
  · exact dI_b h1 h2 3
  · exact dU_b h1 h2
theorem inP_of {pt : Int → Int} {mn k : Int} (h : ∀ j, 0 ≤ j → j < 16 * mn → -1000 ≤ pt j ∧ pt j ≤ 1000) (hk : 0 ≤ k ∧ k < mn) : inP pt (16 * k) := fun j j0 j1 => h j (by omega) (by omega)
