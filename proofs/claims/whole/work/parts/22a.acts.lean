/-! acts: the same list behind the class's ring and the model's row -/
abbrev Act : Type := Int × Int × Int × Int × (Int → Int)
def Act.so (a : Act) : Int := a.1
def Act.nu (a : Act) : Int := a.2.1
def Act.al (a : Act) : Int := a.2.2.1
def Act.ak (a : Act) : Int := a.2.2.2.1
def Act.row (a : Act) : Int → Int := a.2.2.2.2
def eqN (n : Int) (f g : Int → Int) : Prop := ∀ j, 0 ≤ j → j < n → f j = g j
theorem delL_at (f : Int → Int) (k n j : Int) : delL f k n j = if k ≤ j ∧ j < n - 1 then f (j + 1) else f j := by
  unfold delL zC
  by_cases h : k ≤ j ∧ j < n - 1
  · rw [if_pos (by omega), if_pos h, show k + 1 + (j - k) = j + 1 by omega]
  · rw [if_neg (by omega), if_neg h]
theorem insL_at (f : Int → Int) (k n v j : Int) : insL f k n v j = if j = k then v else if k + 1 ≤ j ∧ j < n + 1 then f (j - 1) else f j := by
  unfold insL
  by_cases h : j = k
  · rw [if_pos h, h, zU_s]
  · rw [if_neg h, zU_n _ _ h]
    unfold zC
    by_cases h2 : k + 1 ≤ j ∧ j < n + 1
    · rw [if_pos (by omega), if_pos h2, show k + (j - (k + 1)) = j - 1 by omega]
    · rw [if_neg (by omega), if_neg h2]
theorem delP_at (f : Int → Int) (k n j : Int) : delP f k n j = if 16 * k ≤ j ∧ j < 16 * (n - 1) then f (j + 16) else f j := by
  unfold delP zC
  by_cases h : 16 * k ≤ j ∧ j < 16 * (n - 1)
  · rw [if_pos (by omega), if_pos h, show 16 * (k + 1) + (j - 16 * k) = j + 16 by omega]
  · rw [if_neg (by omega), if_neg h]
theorem insP_at (f g : Int → Int) (fr k n j : Int) : insP f g fr k n j = if 16 * k ≤ j ∧ j < 16 * k + 16 then g (fr + (j - 16 * k)) else if 16 * (k + 1) ≤ j ∧ j < 16 * (n + 1) then f (j - 16) else f j := by
  unfold insP
  rw [show zC g (zC f f (16 * k) (16 * (k + 1)) (16 * (n - k))) fr (16 * k) 16 j = if 16 * k ≤ j ∧ j < 16 * k + 16 then g (fr + (j - 16 * k)) else zC f f (16 * k) (16 * (k + 1)) (16 * (n - k)) j from rfl]
  by_cases h : 16 * k ≤ j ∧ j < 16 * k + 16
  · rw [if_pos h, if_pos h]
  · rw [if_neg h, if_neg h]
    unfold zC
    by_cases h2 : 16 * (k + 1) ≤ j ∧ j < 16 * (n + 1)
    · rw [if_pos (by omega), if_pos h2, show 16 * k + (j - 16 * (k + 1)) = j - 16 by omega]
    · rw [if_neg (by omega), if_neg h2]
def uL (a : Act) (lb : Int → Int) (mn : Int) : Int → Int := if a.so = 0 then delL lb a.nu mn else if a.so = 1 then insL lb a.nu mn a.al else zU lb a.nu a.al
def uK (a : Act) (kd : Int → Int) (mn : Int) : Int → Int := if a.so = 0 then delL kd a.nu mn else if a.so = 1 then insL kd a.nu mn a.ak else kd
def uP (a : Act) (pt : Int → Int) (mn : Int) : Int → Int := if a.so = 0 then delP pt a.nu mn else if a.so = 1 then insP pt a.row 0 a.nu mn else pt
def uN (a : Act) (mn : Int) : Int := if a.so = 0 then mn - 1 else if a.so = 1 then mn + 1 else mn
def actR (a : Act) (kd pt : Int → Int) (mn : Int) : Prop := actOk a.so a.nu mn ∧ ((0 ≤ a.al ∧ a.al ≤ 9) ∧ (0 ≤ a.ak ∧ a.ak ≤ 4)) ∧ (a.so = 1 → ∀ j, 0 ≤ j → j < 16 → -1000 ≤ a.row j ∧ a.row j ≤ 1000) ∧ (a.so = 2 → a.ak = kd a.nu ∧ ∀ j, 0 ≤ j → j < 16 → a.row j = pt (16 * a.nu + j))
def UOk : List Act → (Int → Int) → (Int → Int) → (Int → Int) → Int → Prop
  | [], _, _, _, _ => True
  | a :: t, lb, kd, pt, mn => actR a kd pt mn ∧ UOk t (uL a lb mn) (uK a kd mn) (uP a pt mn) (uN a mn)
theorem uL_cong {a : Act} {f g : Int → Int} {mn : Int} (ha : actOk a.so a.nu mn) (h : eqN mn f g) : eqN (uN a mn) (uL a f mn) (uL a g mn) := by
  intro j j0 j1
  unfold uN at j1
  unfold uL
  unfold actOk at ha
  by_cases h0 : a.so = 0
  · rw [if_pos h0] at j1
    rw [if_pos h0, if_pos h0, delL_at, delL_at]
    by_cases q : a.nu ≤ j ∧ j < mn - 1
    · rw [if_pos q, if_pos q]; exact h _ (by omega) (by omega)
    · rw [if_neg q, if_neg q]; exact h _ (by omega) (by omega)
  · rw [if_neg h0] at j1
    rw [if_neg h0, if_neg h0]
    by_cases h1 : a.so = 1
    · rw [if_pos h1] at j1
      rw [if_pos h1, if_pos h1, insL_at, insL_at]
      by_cases q : j = a.nu
      · rw [if_pos q, if_pos q]
      · rw [if_neg q, if_neg q]
        by_cases q2 : a.nu + 1 ≤ j ∧ j < mn + 1
        · rw [if_pos q2, if_pos q2]; exact h _ (by omega) (by omega)
        · rw [if_neg q2, if_neg q2]; exact h _ (by omega) (by omega)
    · rw [if_neg h1] at j1
      rw [if_neg h1, if_neg h1]
      by_cases q : j = a.nu
      · rw [q, zU_s, zU_s]
      · rw [zU_n _ _ q, zU_n _ _ q]; exact h _ j0 j1
theorem uK_cong {a : Act} {f g : Int → Int} {mn : Int} (ha : actOk a.so a.nu mn) (h : eqN mn f g) : eqN (uN a mn) (uK a f mn) (uK a g mn) := by
  intro j j0 j1
  unfold uN at j1
  unfold uK
  unfold actOk at ha
  by_cases h0 : a.so = 0
  · rw [if_pos h0] at j1
    rw [if_pos h0, if_pos h0, delL_at, delL_at]
    by_cases q : a.nu ≤ j ∧ j < mn - 1
    · rw [if_pos q, if_pos q]; exact h _ (by omega) (by omega)
    · rw [if_neg q, if_neg q]; exact h _ (by omega) (by omega)
  · rw [if_neg h0] at j1
    rw [if_neg h0, if_neg h0]
    by_cases h1 : a.so = 1
    · rw [if_pos h1] at j1
      rw [if_pos h1, if_pos h1, insL_at, insL_at]
      by_cases q : j = a.nu
      · rw [if_pos q, if_pos q]
      · rw [if_neg q, if_neg q]
        by_cases q2 : a.nu + 1 ≤ j ∧ j < mn + 1
        · rw [if_pos q2, if_pos q2]; exact h _ (by omega) (by omega)
        · rw [if_neg q2, if_neg q2]; exact h _ (by omega) (by omega)
    · rw [if_neg h1] at j1
      rw [if_neg h1, if_neg h1]
      exact h _ j0 j1
theorem uP_cong {a : Act} {f g : Int → Int} {mn : Int} (ha : actOk a.so a.nu mn) (h : eqN (16 * mn) f g) : eqN (16 * uN a mn) (uP a f mn) (uP a g mn) := by
  intro j j0 j1
  unfold uN at j1
  unfold uP
  unfold actOk at ha
  by_cases h0 : a.so = 0
  · rw [if_pos h0] at j1
    rw [if_pos h0, if_pos h0, delP_at, delP_at]
    by_cases q : 16 * a.nu ≤ j ∧ j < 16 * (mn - 1)
    · rw [if_pos q, if_pos q]; exact h _ (by omega) (by omega)
    · rw [if_neg q, if_neg q]; exact h _ (by omega) (by omega)
  · rw [if_neg h0] at j1
    rw [if_neg h0, if_neg h0]
    by_cases h1 : a.so = 1
    · rw [if_pos h1] at j1
      rw [if_pos h1, if_pos h1, insP_at, insP_at]
      by_cases q : 16 * a.nu ≤ j ∧ j < 16 * a.nu + 16
      · rw [if_pos q, if_pos q]
      · rw [if_neg q, if_neg q]
        by_cases q2 : 16 * (a.nu + 1) ≤ j ∧ j < 16 * (mn + 1)
        · rw [if_pos q2, if_pos q2]; exact h _ (by omega) (by omega)
        · rw [if_neg q2, if_neg q2]; exact h _ (by omega) (by omega)
    · rw [if_neg h1] at j1
      rw [if_neg h1, if_neg h1]
      exact h _ j0 j1
theorem UOk_cong {L : List Act} : ∀ {lb kd pt lb2 kd2 pt2 : Int → Int} {mn : Int}, eqN mn lb lb2 → eqN mn kd kd2 → eqN (16 * mn) pt pt2 → UOk L lb kd pt mn → UOk L lb2 kd2 pt2 mn := by
  induction L with
  | nil => intro lb kd pt lb2 kd2 pt2 mn _ _ _ _; trivial
  | cons a t ih =>
    intro lb kd pt lb2 kd2 pt2 mn h1 h2 h3 h
    obtain ⟨⟨b1, b2, b3, b4⟩, h⟩ := h
    refine ⟨⟨b1, b2, b3, fun q => ?_⟩, ih (uL_cong b1 h1) (uK_cong b1 h2) (uP_cong b1 h3) h⟩
    have b5 := b4 q
    unfold actOk at b1
    refine ⟨b5.1.trans (h2 _ (by omega) (by omega)), fun j j0 j1 => (b5.2 j j0 j1).trans (h3 _ (by omega) (by omega))⟩
theorem UOk_take {L : List Act} : ∀ {n : Nat} {lb kd pt : Int → Int} {mn : Int}, UOk L lb kd pt mn → UOk (L.take n) lb kd pt mn := by
  induction L with
  | nil => intro n lb kd pt mn _; rw [List.take_nil]; trivial
  | cons a t ih =>
    intro n lb kd pt mn h
    cases n with
    | zero => trivial
    | succ n => rw [List.take_succ_cons]; exact ⟨h.1, ih h.2⟩
theorem UOk_teach {L : List Act} {lb kd pt pt2 : Int → Int} {mn lv q : Int} {row : Int → Int} (hm : 0 ≤ mn ∧ mn < 16) (hl : 0 ≤ lv ∧ lv ≤ 9) (hq : 0 ≤ q ∧ q ≤ 4) (hp : eqN (16 * mn) pt pt2) (h : UOk L lb kd pt mn) : UOk (⟨0, mn, lv, q, row⟩ :: L) (zU lb mn lv) (zU kd mn q) pt2 (mn + 1) := by
  refine ⟨⟨(show actOk 0 mn (mn + 1) from Or.inl ⟨rfl, by omega⟩), ⟨hl, hq⟩, fun z => absurd (show (0 : Int) = 1 from z) (by decide), fun z => absurd (show (0 : Int) = 2 from z) (by decide)⟩, ?_⟩
  show UOk L (delL (zU lb mn lv) mn (mn + 1)) (delL (zU kd mn q) mn (mn + 1)) (delP pt2 mn (mn + 1)) (mn + 1 - 1)
  rw [show mn + 1 - 1 = mn by omega]
  refine UOk_cong (fun j j0 j1 => ?_) (fun j j0 j1 => ?_) (fun j j0 j1 => ?_) h
  · rw [delL_at, if_neg (by omega), zU_n _ _ (by omega)]
  · rw [delL_at, if_neg (by omega), zU_n _ _ (by omega)]
  · rw [delP_at, if_neg (by omega)]; exact hp j j0 j1
theorem UOk_forget {L : List Act} {lb kd pt : Int → Int} {mn k : Int} {row : Int → Int} (hm : 0 ≤ mn ∧ mn ≤ 16) (hk : 0 ≤ k ∧ k < mn) (hl : 0 ≤ lb k ∧ lb k ≤ 9) (hq : 0 ≤ kd k ∧ kd k ≤ 4) (hr : ∀ j, 0 ≤ j → j < 16 → row j = pt (16 * k + j)) (hp : Pok pt mn) (h : UOk L lb kd pt mn) : UOk (⟨1, k, lb k, kd k, row⟩ :: L) (delL lb k mn) (delL kd k mn) (delP pt k mn) (mn - 1) := by
  refine ⟨⟨(show actOk 1 k (mn - 1) from Or.inr (Or.inl ⟨rfl, by omega⟩)), ⟨hl, hq⟩, fun _ j j0 j1 => (show -1000 ≤ row j ∧ row j ≤ 1000 by rw [hr j j0 j1]; exact hp _ (by omega) (by omega)), fun z => absurd (show (1 : Int) = 2 from z) (by decide)⟩, ?_⟩
  show UOk L (insL (delL lb k mn) k (mn - 1) (lb k)) (insL (delL kd k mn) k (mn - 1) (kd k)) (insP (delP pt k mn) row 0 k (mn - 1)) (mn - 1 + 1)
  rw [show mn - 1 + 1 = mn by omega]
  refine UOk_cong (fun j j0 j1 => ?_) (fun j j0 j1 => ?_) (fun j j0 j1 => ?_) h
  · rw [insL_at]
    by_cases q : j = k
    · rw [if_pos q, q]
    · rw [if_neg q]
      by_cases q2 : k + 1 ≤ j
      · rw [if_pos (by omega), delL_at, if_pos (by omega), show j - 1 + 1 = j by omega]
      · rw [if_neg (by omega), delL_at, if_neg (by omega)]
  · rw [insL_at]
    by_cases q : j = k
    · rw [if_pos q, q]
    · rw [if_neg q]
      by_cases q2 : k + 1 ≤ j
      · rw [if_pos (by omega), delL_at, if_pos (by omega), show j - 1 + 1 = j by omega]
      · rw [if_neg (by omega), delL_at, if_neg (by omega)]
  · rw [insP_at]
    by_cases q : 16 * k ≤ j ∧ j < 16 * k + 16
    · rw [if_pos q, hr _ (by omega) (by omega)]
      rw [show 16 * k + (0 + (j - 16 * k)) = j by omega]
    · rw [if_neg q]
      by_cases q2 : 16 * (k + 1) ≤ j
      · rw [if_pos (by omega), delP_at, if_pos (by omega), show j - 16 + 16 = j by omega]
      · rw [if_neg (by omega), delP_at, if_neg (by omega)]
theorem UOk_label {L : List Act} {lb kd pt : Int → Int} {mn k v : Int} {row : Int → Int} (hk : 0 ≤ k ∧ k < mn) (hl : 0 ≤ lb k ∧ lb k ≤ 9) (hq : 0 ≤ kd k ∧ kd k ≤ 4) (hr : ∀ j, 0 ≤ j → j < 16 → row j = pt (16 * k + j)) (h : UOk L lb kd pt mn) : UOk (⟨2, k, lb k, kd k, row⟩ :: L) (zU lb k v) kd pt mn := by
  refine ⟨⟨(show actOk 2 k mn from Or.inr (Or.inr ⟨rfl, by omega⟩)), ⟨hl, hq⟩, fun z => absurd (show (2 : Int) = 1 from z) (by decide), fun _ => ⟨rfl, hr⟩⟩, ?_⟩
  show UOk L (zU (zU lb k v) k (lb k)) kd pt mn
  refine UOk_cong (fun j j0 j1 => ?_) (fun j j0 j1 => rfl) (fun j j0 j1 => rfl) h
  by_cases q : j = k
  · rw [q, zU_s]
  · rw [zU_n _ _ q, zU_n _ _ q]
def RelC (so nu al ak ap : Int → Int) (an ax : Int) (L : List Act) : Prop := (L.length : Int) = an ∧ ∀ (d : Nat) (a : Act), L[d]? = some a → so ((ax - 1 - d) % 6) = a.so ∧ nu ((ax - 1 - d) % 6) = a.nu ∧ al ((ax - 1 - d) % 6) = a.al ∧ ak ((ax - 1 - d) % 6) = a.ak ∧ (a.so = 1 → ∀ j, 0 ≤ j → j < 16 → ap (16 * ((ax - 1 - d) % 6) + j) = a.row j)
def RelM (so nu al ak ap : Int → Int) (ac : Int) (L : List Act) : Prop := (L.length : Int) = ac ∧ ∀ (d : Nat) (a : Act), L[d]? = some a → so (ac - 1 - d) = a.so ∧ nu (ac - 1 - d) = a.nu ∧ al (ac - 1 - d) = a.al ∧ ak (ac - 1 - d) = a.ak ∧ ∀ j, 0 ≤ j → j < 16 → ap (16 * (ac - 1 - d) + j) = a.row j
theorem lt_of_get {L : List Act} {d : Nat} {a : Act} (h : L[d]? = some a) : d < L.length := (List.getElem?_eq_some_iff.mp h).1
theorem RelC_push {so nu al ak ap ap2 : Int → Int} {an ax : Int} {L : List Act} {s k v w : Int} {row : Int → Int} (h : RelC so nu al ak ap an ax L) (ha : 0 ≤ an ∧ an ≤ 6) (hx : 0 ≤ ax ∧ ax < 6) (h1 : s = 1 → ∀ j, 0 ≤ j → j < 16 → ap2 (16 * ax + j) = row j) (h2 : ∀ i j, 0 ≤ i → i < 6 → ¬ i = ax → 0 ≤ j → j < 16 → ap2 (16 * i + j) = ap (16 * i + j)) :
    RelC (zU so ax s) (zU nu ax k) (zU al ax v) (zU ak ax w) ap2 (min (an + 1) 6) ((ax + 1) % 6) ((⟨s, k, v, w, row⟩ :: L).take 6) := by
  refine ⟨?_, fun d a hd => ?_⟩
  · rw [List.length_take, List.length_cons]
    have := h.1
    omega
  · rw [List.getElem?_take] at hd
    by_cases h6 : d < 6
    · rw [if_pos h6] at hd
      cases d with
      | zero =>
        have e : ((ax + 1) % 6 - 1 - ((0 : Nat) : Int)) % 6 = ax := by omega
        rw [e, zU_s, zU_s, zU_s, zU_s]
        cases hd
        exact ⟨rfl, rfl, rfl, rfl, h1⟩
      | succ d =>
        have hd2 : L[d]? = some a := hd
        have e : ((ax + 1) % 6 - 1 - ((d + 1 : Nat) : Int)) % 6 = (ax - 1 - d) % 6 := by omega
        have e2 : ¬ (ax - 1 - (d : Int)) % 6 = ax := by omega
        rw [e, zU_n _ _ e2, zU_n _ _ e2, zU_n _ _ e2, zU_n _ _ e2]
        have q := h.2 d a hd2
        exact ⟨q.1, q.2.1, q.2.2.1, q.2.2.2.1, fun z j j0 j1 => (h2 _ j (by omega) (by omega) e2 j0 j1).trans (q.2.2.2.2 z j j0 j1)⟩
    · rw [if_neg h6] at hd; cases hd
theorem kF_top (f : Int → Int) (ac v : Int) : kF f ac v (kA ac) = v := by unfold kF; rw [zU_s]
theorem kF_at (f : Int → Int) {ac : Int} (v : Int) {i : Int} (ha : 0 ≤ ac ∧ ac ≤ 6) (h0 : 0 ≤ i) (h1 : i < kA ac) : kF f ac v i = f (if ac = 6 then i + 1 else i) := by
  unfold kF
  rw [zU_n _ _ (by omega)]
  unfold kA at h1
  by_cases q : ac = 6
  · rw [if_pos q] at h1
    rw [if_pos q, if_pos q]
    unfold zC
    rw [if_pos (by omega), show 1 + (i - 0) = i + 1 by omega]
  · rw [if_neg q, if_neg q]
theorem kP_top (f g : Int → Int) (ac sp : Int) {j : Int} (h0 : 0 ≤ j) (h1 : j < 16) : kP f ac g sp (16 * kA ac + j) = g (sp + j) := by
  unfold kP
  show zC g _ sp (16 * kA ac) 16 (16 * kA ac + j) = g (sp + j)
  unfold zC
  rw [if_pos (by omega), show sp + (16 * kA ac + j - 16 * kA ac) = sp + j by omega]
theorem kP_at (f g : Int → Int) {ac : Int} (sp : Int) {i j : Int} (ha : 0 ≤ ac ∧ ac ≤ 6) (h0 : 0 ≤ i) (h1 : i < kA ac) (j0 : 0 ≤ j) (j1 : j < 16) : kP f ac g sp (16 * i + j) = f (16 * (if ac = 6 then i + 1 else i) + j) := by
  unfold kP
  rw [zC_out _ _ (by omega)]
  unfold kA at h1
  by_cases q : ac = 6
  · rw [if_pos q] at h1
    rw [if_pos q, if_pos q]
    unfold zC
    rw [if_pos (by omega), show 16 + (16 * i + j - 0) = 16 * (i + 1) + j by omega]
  · rw [if_neg q, if_neg q]
theorem RelM_push {so nu al ak ap : Int → Int} {ac : Int} {L : List Act} {s k v w : Int} {g row : Int → Int} {sp : Int} (h : RelM so nu al ak ap ac L) (ha : 0 ≤ ac ∧ ac ≤ 6) (hr : ∀ j, 0 ≤ j → j < 16 → g (sp + j) = row j) :
    RelM (kF so ac s) (kF nu ac k) (kF al ac v) (kF ak ac w) (kP ap ac g sp) (kA ac + 1) ((⟨s, k, v, w, row⟩ :: L).take 6) := by
  have hL := h.1
  have hA : kA ac = min ac 5 := by
    unfold kA
    by_cases q : ac = 6
    · rw [if_pos q]; omega
    · rw [if_neg q]; omega
  refine ⟨?_, fun d a hd => ?_⟩
  · rw [List.length_take, List.length_cons]
    omega
  · have hlen := lt_of_get hd
    rw [List.length_take, List.length_cons] at hlen
    rw [List.getElem?_take] at hd
    by_cases h6 : d < 6
    · rw [if_pos h6] at hd
      cases d with
      | zero =>
        have e : kA ac + 1 - 1 - ((0 : Nat) : Int) = kA ac := by omega
        rw [e, kF_top, kF_top, kF_top, kF_top]
        cases hd
        exact ⟨rfl, rfl, rfl, rfl, fun j j0 j1 => (kP_top _ _ _ _ j0 j1).trans (hr j j0 j1)⟩
      | succ d =>
        have hd2 : L[d]? = some a := hd
        have e3 : (if ac = 6 then kA ac + 1 - 1 - ((d + 1 : Nat) : Int) + 1 else kA ac + 1 - 1 - ((d + 1 : Nat) : Int)) = ac - 1 - d := by
          by_cases q : ac = 6
          · rw [if_pos q]; omega
          · rw [if_neg q]; omega
        have b0 : 0 ≤ kA ac + 1 - 1 - ((d + 1 : Nat) : Int) := by omega
        have b1 : kA ac + 1 - 1 - ((d + 1 : Nat) : Int) < kA ac := by omega
        have q := h.2 d a hd2
        rw [kF_at so s ha b0 b1, kF_at nu k ha b0 b1, kF_at al v ha b0 b1, kF_at ak w ha b0 b1, e3]
        exact ⟨q.1, q.2.1, q.2.2.1, q.2.2.2.1, fun j j0 j1 => by rw [kP_at ap g sp ha b0 b1 j0 j1, e3]; exact q.2.2.2.2 j j0 j1⟩
    · rw [if_neg h6] at hd; cases hd
theorem RelC_pop {so nu al ak ap : Int → Int} {an ax : Int} {a : Act} {L : List Act} (h : RelC so nu al ak ap an ax (a :: L)) : RelC so nu al ak ap (an - 1) ((ax - 1) % 6) L := by
  refine ⟨by have := h.1; rw [List.length_cons] at this; omega, fun d b hd => ?_⟩
  have q := h.2 (d + 1) b hd
  rw [show ((ax - 1) % 6 - 1 - (d : Int)) % 6 = (ax - 1 - ((d + 1 : Nat) : Int)) % 6 by omega]
  exact q
theorem RelM_pop {so nu al ak ap : Int → Int} {ac : Int} {a : Act} {L : List Act} (h : RelM so nu al ak ap ac (a :: L)) : RelM so nu al ak ap (ac - 1) L := by
  refine ⟨by have := h.1; rw [List.length_cons] at this; omega, fun d b hd => ?_⟩
  have q := h.2 (d + 1) b hd
  rw [show ac - 1 - 1 - (d : Int) = ac - 1 - ((d + 1 : Nat) : Int) by omega]
  exact q
